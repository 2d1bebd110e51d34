/-! THE CLAIM OUT OF ONE WALK OF THE LAW'S BODY. Your part is whole_start (and what it stands on); all else here is the same for every law, but numbers. -/
def R_law : String := "LeakyLineLaw"
def lw_P (b : Addr) (xs : List Int32) (args : Array Value) (s : State) : Prop := args = #[.ref b] ∧ s.IntsAt b xs ∧ xs.length ≤ 3072 ∧ (Jvm.Cond.and given_1 narrow_1).before args s = true
def lw_Q (_ : Array Value) (s : State) (o : Outcome) (t : State) : Prop := o = .returned (some (.int 1)) ∧ Framed s o t [] 600000 7302249
def lw_Z (below : List Frame) (a : Array Value) (s : State) : State → Prop := fun t => ∃ o, t.status = .running ∧ Ended t below o ∧ lw_Q a s o t
/-- the law's own end, with 1 on the stack, nothing written that was there before, its room as the claim has it -/
theorem lw_ret {p : Program} {l : Launch} {e : Env} {s : State} {m : MethodId} {below : List Frame} {meth : Method} {c : Code} {b : Nat} (hx : p.tables.exec = Jvm.exec) (hb : c.code = code) (hr : meth.sig.returnType = ret) (hlocks : meth.locks = false) {pc : Nat} {H : Heap} {ls : Array Slot} (hdg : decode code pc = .ok (.ireturn, 1)) : W p l e room_1 s m #[Value.ref b] below meth c H [] 600000 7302249 (lw_Z below #[Value.ref b] s) (F0 m pc ls [.int 1]) := by
  intro T hT X
  obtain ⟨fs, hret, hrun, hended, hW, hframe⟩ := X.leave (v := some (.int 1)) (hlocks := hlocks) (fun h => by rw [hr] at h; cases h)
  have hmeth' : T.vm.method? m = some meth := X.method'
  refine ⟨T.setFrames fs, ?_, .returned (some (.int 1)), hrun, hended, rfl, ⟨_, rfl⟩, hW, hframe⟩
  jvm_step X.here [X.here.top, hx, hb, hdg, hmeth', hr, ret, narrow_b1]
  (try refine ⟨rfl, ?_⟩); (try refine ⟨rfl, ?_⟩)
  first | (intro acts; rw [hret _ acts rfl rfl rfl]) | rw [hret _ _ rfl rfl rfl]
  exact Steps.refl _
/-- what holds at the law's entry: the machine, the code, the tables' words (any of lw_tbl by 'hts w (by decide +kernel)'), the script of L ints xs at the cell b, what the Statement gives of the start (any of its parts by flat_of_before) -/
def lw_At (p : Program) (s : State) (m : MethodId) (meth : Method) (c : Code) (b L : Nat) (xs : Nat → Int32) : Prop :=
  p.tables.exec = Jvm.exec ∧ c.code = code ∧ meth.sig.returnType = ret ∧ c.maxLocals = 4 ∧ s.vm.findClass R_law = some m.cls ∧ (∀ w ∈ lw_tbl, w.before #[Value.ref b] s = true) ∧ va_X b L xs s s.heap ∧ b < s.heap.size ∧ meth.locks = false ∧ (Jvm.Cond.and given_1 narrow_1).before #[Value.ref b] s = true
-- ===== worlds in another order =====
theorem P_mem {D : va_G} {cl : List vw_C} {ws ws' : va_W} {H : Heap} (h : va_P D cl ws H) (hs : ∀ q, q ∈ ws' → q ∈ ws) : va_P D cl ws' H := fun k q hk => by
  obtain ⟨i, hi⟩ := List.getElem?_of_mem (hs q (List.mem_of_getElem? hk))
  exact h i q hi
theorem P_perm {D : va_G} {cl : List vw_C} {ws ws' : va_W} {H : Heap} (h : va_P D cl ws H) (hp : ws.Perm ws') : va_P D cl ws' H := P_mem h (fun q hq => hp.symm.subset hq)
theorem D_nodup {A : Nat → Prop} {ws : va_W} : va_D A ws ↔ (ws.map Prod.fst).Nodup ∧ ∀ q, q ∈ ws → A q.1 := by
  constructor
  · intro h
    refine ⟨?_, fun q hq => ?_⟩
    · rw [List.nodup_iff_pairwise_ne, List.pairwise_map, List.pairwise_iff_getElem]
      intro i j hi hj hij he
      have := h.1 i j ws[i] ws[j] (List.getElem?_eq_getElem hi) (List.getElem?_eq_getElem hj) he
      omega
    · obtain ⟨i, hi⟩ := List.getElem?_of_mem hq
      exact h.2 i q hi
  · rintro ⟨h1, h2⟩
    rw [List.nodup_iff_pairwise_ne, List.pairwise_map, List.pairwise_iff_getElem] at h1
    refine ⟨fun i j p q hi hj he => ?_, fun k q hk => h2 q (List.mem_of_getElem? hk)⟩
    obtain ⟨li, ei⟩ := List.getElem?_eq_some_iff.mp hi
    obtain ⟨lj, ej⟩ := List.getElem?_eq_some_iff.mp hj
    rcases Nat.lt_trichotomy i j with hq | hq | hq
    · exact absurd (by rw [ei, ej]; exact he) (h1 i j li lj hq)
    · exact hq
    · exact absurd (by rw [ei, ej]; exact he.symm) (h1 j i lj li hq)
theorem D_perm {A : Nat → Prop} {ws ws' : va_W} (h : va_D A ws) (hp : ws.Perm ws') : va_D A ws' := by
  rw [D_nodup] at h ⊢
  exact ⟨((hp.map Prod.fst).nodup_iff).mp h.1, fun q hq => h.2 q (hp.symm.subset hq)⟩
theorem pm_sw {a b c : va_W} : (a ++ (b ++ c)).Perm (b ++ (a ++ c)) := List.perm_append_comm_assoc a b c
theorem pm_0 {X M a b c : va_W} : (X ++ (M ++ (a ++ (b ++ c)))).Perm ((X ++ a) ++ (M ++ (b ++ c))) := by
  rw [List.append_assoc]
  exact List.Perm.append_left X (List.perm_append_comm_assoc M a _)
theorem pm_1 {X M a b c : va_W} : (X ++ (M ++ (a ++ (b ++ c)))).Perm ((X ++ b) ++ (M ++ (a ++ c))) := by
  rw [List.append_assoc]
  refine List.Perm.append_left X ?_
  exact (List.Perm.append_left M (List.perm_append_comm_assoc a b c)).trans (List.perm_append_comm_assoc M b _)
theorem pm_2 {X M a b c : va_W} : (X ++ (M ++ (a ++ (b ++ c)))).Perm ((X ++ c) ++ (M ++ (a ++ b))) := by
  rw [List.append_assoc]
  refine List.Perm.append_left X ?_
  have h1 : (a ++ (b ++ c)).Perm (c ++ (a ++ b)) := by
    rw [← List.append_assoc]
    exact List.perm_append_comm
  exact (List.Perm.append_left M h1).trans (List.perm_append_comm_assoc M c _)
theorem szR {f x : Nat → Int32} {k : Nat} (h : ∀ j : Nat, f j = -1 ∨ f j = 0) (e : x = upd f k (-1)) : ∀ j : Nat, x j = -1 ∨ x j = 0 := fun j => by
  rw [e]; unfold upd; split
  · exact Or.inl rfl
  · exact h j
theorem szQ {x : Nat → Int32} (h : ∀ j : Nat, x j = -1 ∨ x j = 0) : ∀ j : Nat, -1 ≤ Int32.toInt (x j) ∧ Int32.toInt (x j) ≤ 60 := fun j => by
  rcases h j with e | e <;> rw [e] <;> decide
-- ===== SLOTS and images: what class and reference have alike =====
def WRc (ss : Nat → Int32) (p0 p1 r : Int32) : Prop := (r = -2 ∧ ¬ (0 ≤ p0.toInt ∧ p0.toInt ≤ 3)) ∨ ((0 ≤ p0.toInt ∧ p0.toInt ≤ 3) ∧ ((r = -6 ∧ Int32.toInt (ss (Int32.toNatClampNeg p0)) = -1) ∨ (¬ Int32.toInt (ss (Int32.toNatClampNeg p0)) = -1 ∧ ((r = -7 ∧ ¬ (0 ≤ p1.toInt ∧ p1.toInt < Int32.toInt (ss (Int32.toNatClampNeg p0)))) ∨ (r = 0 ∧ (0 ≤ p1.toInt ∧ p1.toInt < Int32.toInt (ss (Int32.toNatClampNeg p0))))))))
def WRm (wd mn : Nat → Int32) (p0 p1 r : Int32) : Prop := (r = -2 ∧ ¬ (0 ≤ p0.toInt ∧ p0.toInt ≤ 3)) ∨ ((0 ≤ p0.toInt ∧ p0.toInt ≤ 3) ∧ ((r = -6 ∧ Int32.toInt (wd (Int32.toNatClampNeg p0)) = -1) ∨ (¬ Int32.toInt (wd (Int32.toNatClampNeg p0)) = -1 ∧ ((r = -7 ∧ ¬ (0 ≤ p1.toInt ∧ p1.toInt < Int32.toInt (mn (Int32.toNatClampNeg p0)))) ∨ (r = 0 ∧ (0 ≤ p1.toInt ∧ p1.toInt < Int32.toInt (mn (Int32.toNatClampNeg p0))))))))
/-- one SLOT: nothing on both sides, or the same -/
def SL1 (ss sw wd mn : Int32) : Prop := (ss.toInt = -1 ∧ wd.toInt = -1) ∨ (0 ≤ wd.toInt ∧ wd.toInt ≤ 3 ∧ 0 ≤ mn.toInt ∧ ss.toInt = mn.toInt ∧ sw.toInt = wd.toInt)
def SLR (ss sw wd mn : Nat → Int32) : Prop := ∀ k : Nat, k < 4 → SL1 (ss k) (sw k) (wd k) (mn k)
theorem kcl {p : Int32} (h : 0 ≤ p.toInt ∧ p.toInt ≤ 3) : Int32.toNatClampNeg p < 4 := by
  have := clampN h.1
  omega
theorem WR_fn {ss sw wd mn : Nat → Int32} {p0 p1 r1 r2 : Int32} (hR : SLR ss sw wd mn) (h1 : WRc ss p0 p1 r1) (h2 : WRm wd mn p0 p1 r2) : r1 = r2 := by
  unfold WRc at h1
  unfold WRm at h2
  by_cases hp : 0 ≤ p0.toInt ∧ p0.toInt ≤ 3
  · have hs := hR _ (kcl hp)
    unfold SL1 at hs
    rcases h1 with ⟨a, b⟩ | ⟨-, ⟨a, b⟩ | ⟨b, ⟨a, d⟩ | ⟨a, d⟩⟩⟩ <;> rcases h2 with ⟨a2, b2⟩ | ⟨-, ⟨a2, b2⟩ | ⟨b2, ⟨a2, d2⟩ | ⟨a2, d2⟩⟩⟩ <;> first | (rw [a, a2]; done) | (exfalso; omega)
  · rcases h1 with ⟨a, b⟩ | ⟨b, -⟩
    · rcases h2 with ⟨a2, b2⟩ | ⟨b2, -⟩
      · rw [a, a2]
      · exact absurd b2 hp
    · exact absurd b hp
def PSc (ss sw : Nat → Int32) (p0 p1 p2 p3 p4 r : Int32) : Prop := (r = -2 ∧ ¬ (0 ≤ p0.toInt ∧ p0.toInt ≤ 3 ∧ 0 ≤ p2.toInt ∧ p2.toInt ≤ 3)) ∨ ((0 ≤ p0.toInt ∧ p0.toInt ≤ 3 ∧ 0 ≤ p2.toInt ∧ p2.toInt ≤ 3) ∧ ((r = -6 ∧ (Int32.toInt (ss (Int32.toNatClampNeg p0)) = -1 ∨ Int32.toInt (ss (Int32.toNatClampNeg p2)) = -1)) ∨ (¬ Int32.toInt (ss (Int32.toNatClampNeg p0)) = -1 ∧ ¬ Int32.toInt (ss (Int32.toNatClampNeg p2)) = -1 ∧ ((r = -8 ∧ ¬ Int32.toInt (sw (Int32.toNatClampNeg p0)) = Int32.toInt (sw (Int32.toNatClampNeg p2))) ∨ (Int32.toInt (sw (Int32.toNatClampNeg p0)) = Int32.toInt (sw (Int32.toNatClampNeg p2)) ∧ ((r = -7 ∧ ¬ (0 ≤ p1.toInt ∧ 0 ≤ p3.toInt ∧ 0 ≤ p4.toInt ∧ p1.toInt + p4.toInt ≤ Int32.toInt (ss (Int32.toNatClampNeg p0)) ∧ p3.toInt + p4.toInt ≤ Int32.toInt (ss (Int32.toNatClampNeg p2)))) ∨ (r = 0 ∧ (0 ≤ p1.toInt ∧ 0 ≤ p3.toInt ∧ 0 ≤ p4.toInt ∧ p1.toInt + p4.toInt ≤ Int32.toInt (ss (Int32.toNatClampNeg p0)) ∧ p3.toInt + p4.toInt ≤ Int32.toInt (ss (Int32.toNatClampNeg p2))))))))))
def PSm (wd mn : Nat → Int32) (p0 p1 p2 p3 p4 r : Int32) : Prop := (r = -2 ∧ ¬ (0 ≤ p0.toInt ∧ p0.toInt ≤ 3 ∧ 0 ≤ p2.toInt ∧ p2.toInt ≤ 3)) ∨ ((0 ≤ p0.toInt ∧ p0.toInt ≤ 3 ∧ 0 ≤ p2.toInt ∧ p2.toInt ≤ 3) ∧ ((r = -6 ∧ (Int32.toInt (wd (Int32.toNatClampNeg p0)) = -1 ∨ Int32.toInt (wd (Int32.toNatClampNeg p2)) = -1)) ∨ (¬ Int32.toInt (wd (Int32.toNatClampNeg p0)) = -1 ∧ ¬ Int32.toInt (wd (Int32.toNatClampNeg p2)) = -1 ∧ ((r = -8 ∧ ¬ Int32.toInt (wd (Int32.toNatClampNeg p0)) = Int32.toInt (wd (Int32.toNatClampNeg p2))) ∨ (Int32.toInt (wd (Int32.toNatClampNeg p0)) = Int32.toInt (wd (Int32.toNatClampNeg p2)) ∧ ((r = -7 ∧ ¬ (0 ≤ p1.toInt ∧ 0 ≤ p3.toInt ∧ 0 ≤ p4.toInt ∧ p1.toInt + p4.toInt ≤ Int32.toInt (mn (Int32.toNatClampNeg p0)) ∧ p3.toInt + p4.toInt ≤ Int32.toInt (mn (Int32.toNatClampNeg p2)))) ∨ (r = 0 ∧ (0 ≤ p1.toInt ∧ 0 ≤ p3.toInt ∧ 0 ≤ p4.toInt ∧ p1.toInt + p4.toInt ≤ Int32.toInt (mn (Int32.toNatClampNeg p0)) ∧ p3.toInt + p4.toInt ≤ Int32.toInt (mn (Int32.toNatClampNeg p2))))))))))
theorem PS_fn {ss sw wd mn : Nat → Int32} {p0 p1 p2 p3 p4 r1 r2 : Int32} (hR : SLR ss sw wd mn) (h1 : PSc ss sw p0 p1 p2 p3 p4 r1) (h2 : PSm wd mn p0 p1 p2 p3 p4 r2) : r1 = r2 := by
  unfold PSc at h1
  unfold PSm at h2
  by_cases hp : 0 ≤ p0.toInt ∧ p0.toInt ≤ 3 ∧ 0 ≤ p2.toInt ∧ p2.toInt ≤ 3
  · have hs := hR _ (kcl ⟨hp.1, hp.2.1⟩)
    have hs2 := hR _ (kcl ⟨hp.2.2.1, hp.2.2.2⟩)
    unfold SL1 at hs hs2
    rcases h1 with ⟨a, b⟩ | ⟨-, ⟨a, b⟩ | ⟨b, b', ⟨a, d⟩ | ⟨d, ⟨a, f⟩ | ⟨a, f⟩⟩⟩⟩ <;> rcases h2 with ⟨a2, b2⟩ | ⟨-, ⟨a2, b2⟩ | ⟨b2, b2', ⟨a2, d2⟩ | ⟨d2, ⟨a2, f2⟩ | ⟨a2, f2⟩⟩⟩⟩ <;> first | (rw [a, a2]; done) | (exfalso; omega)
  · rcases h1 with ⟨a, b⟩ | ⟨b, -⟩
    · rcases h2 with ⟨a2, b2⟩ | ⟨b2, -⟩
      · rw [a, a2]
      · exact absurd b2 hp
    · exact absurd b hp
/-- what row() does to the rows of sizes and widths -/
def RWu (p0 x r : Int32) (f g : Nat → Int32) : Prop := (r.toInt = 0 ∧ g = upd f (Int32.toNatClampNeg p0) x) ∨ (¬ r.toInt = 0 ∧ g = f)
theorem SLR_row {ss sw wd mn ss' sw' wd' mn' : Nat → Int32} {p0 p1 p2 r1 r2 : Int32} (hR : SLR ss sw wd mn) (h1 : PRow p0.toInt p1.toInt p2.toInt r1) (h2 : PRow p0.toInt p1.toInt p2.toInt r2) (e1 : RWu p0 p2 r1 ss ss') (e2 : RWu p0 p1 r1 sw sw') (e3 : RWu p0 p1 r2 wd wd') (e4 : RWu p0 p2 r2 mn mn') : SLR ss' sw' wd' mn' := by
  have er := PRow_fn h1 h2
  subst er
  by_cases hz : r1.toInt = 0
  · have hc : 0 ≤ p0.toInt ∧ p0.toInt ≤ 3 ∧ 0 ≤ p1.toInt ∧ p1.toInt ≤ 3 ∧ 0 ≤ p2.toInt := by
      rcases h1 with ⟨a, b⟩ | ⟨a, b⟩ | ⟨a, b⟩
      · rw [a] at hz; exact absurd hz (by decide)
      · rw [a] at hz; exact absurd hz (by decide)
      · omega
    obtain ⟨-, e1⟩ := e1.resolve_right (fun h => h.1 hz)
    obtain ⟨-, e2⟩ := e2.resolve_right (fun h => h.1 hz)
    obtain ⟨-, e3⟩ := e3.resolve_right (fun h => h.1 hz)
    obtain ⟨-, e4⟩ := e4.resolve_right (fun h => h.1 hz)
    intro k hk
    rw [e1, e2, e3, e4]
    unfold upd
    by_cases hq : k = Int32.toNatClampNeg p0
    · rw [if_pos hq, if_pos hq, if_pos hq, if_pos hq]
      exact Or.inr ⟨hc.2.2.1, hc.2.2.2.1, hc.2.2.2.2, rfl, rfl⟩
    · rw [if_neg hq, if_neg hq, if_neg hq, if_neg hq]
      exact hR k hk
  · obtain ⟨-, e1⟩ := e1.resolve_left (fun h => hz h.1)
    obtain ⟨-, e2⟩ := e2.resolve_left (fun h => hz h.1)
    obtain ⟨-, e3⟩ := e3.resolve_left (fun h => hz h.1)
    obtain ⟨-, e4⟩ := e4.resolve_left (fun h => hz h.1)
    rw [e1, e2, e3, e4]
    exact hR
/-- images: none on both sides, or one on both -/
def KIR (im : Nat → Option Nat) (ik : Nat → Int32) : Prop := ∀ k : Nat, k < 3 → ((im k = none ∧ Int32.toInt (ik k) = 0) ∨ (¬ im k = none ∧ ¬ Int32.toInt (ik k) = 0))
def BKc (im : Nat → Option Nat) (p0 r : Int32) : Prop := (r = -2 ∧ ¬ (0 ≤ p0.toInt ∧ p0.toInt ≤ 2)) ∨ ((0 ≤ p0.toInt ∧ p0.toInt ≤ 2) ∧ ((r = -6 ∧ im (Int32.toNatClampNeg p0) = none) ∨ (r = 0 ∧ ¬ im (Int32.toNatClampNeg p0) = none)))
def BKm (ik : Nat → Int32) (p0 r : Int32) : Prop := (r = -2 ∧ ¬ (0 ≤ p0.toInt ∧ p0.toInt ≤ 2)) ∨ ((0 ≤ p0.toInt ∧ p0.toInt ≤ 2) ∧ ((r = -6 ∧ Int32.toInt (ik (Int32.toNatClampNeg p0)) = 0) ∨ (r = 0 ∧ ¬ Int32.toInt (ik (Int32.toNatClampNeg p0)) = 0)))
theorem BK_fn {im : Nat → Option Nat} {ik : Nat → Int32} {p0 r1 r2 : Int32} (hR : KIR im ik) (h1 : BKc im p0 r1) (h2 : BKm ik p0 r2) : r1 = r2 := by
  by_cases hp : 0 ≤ p0.toInt ∧ p0.toInt ≤ 2
  · have hk : Int32.toNatClampNeg p0 < 3 := by
      have := clampN hp.1
      omega
    rcases h1 with ⟨a, b⟩ | ⟨-, ⟨a, b⟩ | ⟨a, b⟩⟩
    · exact absurd hp b
    · rcases h2 with ⟨a2, b2⟩ | ⟨-, ⟨a2, b2⟩ | ⟨a2, b2⟩⟩
      · exact absurd hp b2
      · rw [a, a2]
      · rcases hR _ hk with ⟨c, d⟩ | ⟨c, d⟩
        · exact absurd d b2
        · exact absurd b c
    · rcases h2 with ⟨a2, b2⟩ | ⟨-, ⟨a2, b2⟩ | ⟨a2, b2⟩⟩
      · exact absurd hp b2
      · rcases hR _ hk with ⟨c, d⟩ | ⟨c, d⟩
        · exact absurd c b
        · exact absurd b2 d
      · rw [a, a2]
  · rcases h1 with ⟨a, b⟩ | ⟨b, -⟩
    · rcases h2 with ⟨a2, b2⟩ | ⟨b2, -⟩
      · rw [a, a2]
      · exact absurd b2 hp
    · exact absurd b hp
/-- what image() does to them -/
def IMc (p0 : Int32) (f g : Nat → Option Nat) : Prop := ((0 ≤ p0.toInt ∧ p0.toInt ≤ 2) ∧ ¬ g (Int32.toNatClampNeg p0) = none ∧ ∀ j : Nat, ¬ j = Int32.toNatClampNeg p0 → g j = f j) ∨ (¬ (0 ≤ p0.toInt ∧ p0.toInt ≤ 2) ∧ g = f)
def IMm (p0 : Int32) (f g : Nat → Int32) : Prop := ((0 ≤ p0.toInt ∧ p0.toInt ≤ 2) ∧ g = upd f (Int32.toNatClampNeg p0) (vp_nar .boolean 1)) ∨ (¬ (0 ≤ p0.toInt ∧ p0.toInt ≤ 2) ∧ g = f)
theorem KIR_image {im im' : Nat → Option Nat} {ik ik' : Nat → Int32} {p0 : Int32} (hR : KIR im ik) (h1 : IMc p0 im im') (h2 : IMm p0 ik ik') : KIR im' ik' := by
  rcases h1 with ⟨hp, a, b⟩ | ⟨hp, a⟩
  · obtain ⟨-, e⟩ := h2.resolve_right (fun h => h.1 hp)
    intro k hk
    rw [e]
    unfold upd
    by_cases hq : k = Int32.toNatClampNeg p0
    · rw [if_pos hq, hq]
      exact Or.inr ⟨a, by decide⟩
    · rw [if_neg hq, b k hq]
      exact hR k hk
  · obtain ⟨-, e⟩ := h2.resolve_left (fun h => hp h.1)
    rw [a, e]
    exact hR
theorem im_new {f g : Nat → Option Nat} {k h : Nat} (e : g = va_up f k (some h)) : ¬ g k = none := by rw [e, va_up_self]; exact Option.some_ne_none _
theorem im_oth {f g : Nat → Option Nat} {k h : Nat} (e : g = va_up f k (some h)) : ∀ j : Nat, ¬ j = k → g j = f j := fun j hj => by rw [e]; exact va_up_ne f (some h) hj
theorem WI_00 : WI (fun _ => 0) (fun _ => 0) := fun w hw => ⟨(by decide : 0 ≤ Int32.toInt 0 ∧ Int32.toInt 0 ≤ 13), (by decide : 0 ≤ Int32.toInt 0 ∧ Int32.toInt 0 ≤ 5), (by decide : 0 ≤ Int32.toInt 0 ∧ Int32.toInt 0 ≤ 8), (by decide : 0 ≤ Int32.toInt 0 ∧ Int32.toInt 0 ≤ 30), fun j hj => by
  have h0 : (Int32.toInt 0) = 0 := T0
  exfalso
  have h1 : (j : Int) < Int32.toInt 0 := hj
  omega⟩
abbrev LT : Type := (Int32) × (Int32) × (Int32) × (Int32) × (Int32) × (Int32) × (Int32) × (Int32) × (Int32) × (Nat → Int32) × (Nat → Int32) × (Nat → Int32) × (Nat → Int32) × (Nat → Int32) × (Nat → Int32) × (Nat → Int32) × (Nat → Int32)
set_option maxHeartbeats 8000000 in
set_option maxRecDepth 100000 in
def LW (h : Nat) (v : Nat → Nat) (cB cI cJ cZ cL : ClassId) (u : LT) : va_W := match u with | (c_lines, c_days, c_law, c_odds, c_volts, c_spans, c_wetLines, c_wet, c_acts, c_a_ohms, c_a_leaks, c_a_needs, c_a_kinds, c_a_places, c_a_actDays, c_a_cupDays, c_a_snapDays) => [(h, .inr (2, [.int c_lines, .int c_days, .int c_law, .int c_odds, .int c_volts, .int c_spans, .int c_wetLines, .int c_wet, .int c_acts, .ref (v 0), .ref (v 1), .ref (v 2), .ref (v 3), .ref (v 4), .ref (v 5), .ref (v 6), .ref (v 7)])), ((v 0), .inl (cI, 5, .inl c_a_ohms)), ((v 1), .inl (cI, 5, .inl c_a_leaks)), ((v 2), .inl (cI, 5, .inl c_a_needs)), ((v 3), .inl (cI, 30, .inl c_a_kinds)), ((v 4), .inl (cI, 30, .inl c_a_places)), ((v 5), .inl (cI, 30, .inl c_a_actDays)), ((v 6), .inl (cI, 5, .inl c_a_cupDays)), ((v 7), .inl (cI, 5, .inl c_a_snapDays))]
set_option maxHeartbeats 8000000 in
set_option maxRecDepth 100000 in
def LIv (u : LT) : Prop := match u with | (c_lines, c_days, c_law, c_odds, c_volts, c_spans, c_wetLines, c_wet, c_acts, c_a_ohms, c_a_leaks, c_a_needs, c_a_kinds, c_a_places, c_a_actDays, c_a_cupDays, c_a_snapDays) => (0 ≤ Int32.toInt c_acts ∧ Int32.toInt c_acts ≤ 30) ∧ (0 ≤ Int32.toInt c_days ∧ Int32.toInt c_days ≤ 13) ∧ (0 ≤ Int32.toInt c_spans ∧ Int32.toInt c_spans ≤ 5) ∧ (∀ i : Nat, 0 ≤ Int32.toInt (c_a_places i) ∧ Int32.toInt (c_a_places i) ≤ 4)
def TK (cB cI cJ cZ cL : ClassId) (f : Option Nat) (t : va_W) : Prop := (f = none ∧ t = []) ∨ ∃ (h : Nat) (v : Nat → Nat) (u : LT), f = some h ∧ LIv u ∧ t = LW h v cB cI cJ cZ cL u
def TI (cB cI cJ cZ cL : ClassId) (im : Nat → Option Nat) (T : va_W) : Prop := ∃ t0 t1 t2 : va_W, T = t0 ++ (t1 ++ t2) ∧ TK cB cI cJ cZ cL (im 0) t0 ∧ TK cB cI cJ cZ cL (im 1) t1 ∧ TK cB cI cJ cZ cL (im 2) t2
abbrev XT : Type := (Int32) × (Int32) × (Int32) × (Nat → Int32) × (Int32) × (Nat → Int32) × (Nat → Int32) × (Nat → Int32) × (Int32) × (Int32) × (Int32) × (Int32) × (Int32) × (Int32) × (Int32) × (Int32) × (Int32) × (Int32) × (Int32) × (Int32) × (Int32) × (Int32) × (Nat → Int32) × (Nat → Int32) × (Nat → Int32) × (Nat → Int32) × (Nat → Int32) × (Nat → Int32) × (Nat → Int32) × (Nat → Int32) × (Int32) × (Int32) × (Int32) × (Int32) × (Int32) × (Int32) × (Int32) × (Int32) × (Int32) × (Nat → Int32) × (Nat → Int32) × (Nat → Int32) × (Nat → Int32) × (Nat → Int32) × (Nat → Int32) × (Nat → Int32) × (Nat → Int32) × (Nat → Int64) × (Nat → Int32) × (Nat → Int32) × (Int32) × (Int32) × (Int32) × (Int32) × (Nat → Int32) × (Nat → Int32) × (Int32) × (Int64) × (Nat → Int32) × (Nat → Int64) × (Nat → Int64) × (Int64) × (Int64) × (Nat → Int32) × (Nat → Int32) × (Nat → Int64) × (Nat → Int64) × (Nat → Option Nat)
set_option maxHeartbeats 8000000 in
set_option maxRecDepth 100000 in
def WX (a : Nat → Nat) (cB cI cJ cZ cL : ClassId) (u : XT) : va_W := match u with | (xfk, xfp, xtl, xtb, xks, xkk, xkp, xkv, xtf, xtpl, xtn, xtk, xtv, xn_lines, xn_days, xn_law, xn_odds, xn_volts, xn_spans, xn_wetLines, xn_wet, xn_acts, xn_a_ohms, xn_a_leaks, xn_a_needs, xn_a_kinds, xn_a_places, xn_a_actDays, xn_a_cupDays, xn_a_snapDays, xd_lines, xd_days, xd_law, xd_odds, xd_volts, xd_spans, xd_wetLines, xd_wet, xd_acts, xd_a_ohms, xd_a_leaks, xd_a_needs, xd_a_kinds, xd_a_places, xd_a_actDays, xd_a_cupDays, xd_a_snapDays, xsn, xsw, xss, xul, xuw, xuc, xub, xuo, xuk, xle, xlo, xll, xlv, xla, xfa, xfb, xho, xwo, xra, xrb, xim) => [((a 0), .inr (8, [.ref (a 1), .ref (a 2), .ref (a 3), .ref (a 4), .ref (a 5), .ref (a 6), .ref (a 7), .ref (a 8), .ref (a 9), .ref (a 10), .ref (a 11), .ref (a 12), .ref (a 13), .ref (a 14), .int xfk, .int xfp])), ((a 1), .inr (5, [.ref (a 15), .int xtl])), ((a 15), .inl (cB, 500, .inl xtb)), ((a 2), .inr (7, [.ref (a 16), .ref (a 17), .ref (a 18), .int xks])), ((a 16), .inl (cI, 501, .inl xkk)), ((a 17), .inl (cI, 501, .inl xkp)), ((a 18), .inl (cI, 501, .inl xkv)), ((a 3), .inr (6, [.int xtf, .int xtpl, .int xtn, .int xtk, .int xtv])), ((a 4), .inr (2, [.int xn_lines, .int xn_days, .int xn_law, .int xn_odds, .int xn_volts, .int xn_spans, .int xn_wetLines, .int xn_wet, .int xn_acts, .ref (a 19), .ref (a 20), .ref (a 21), .ref (a 22), .ref (a 23), .ref (a 24), .ref (a 25), .ref (a 26)])), ((a 19), .inl (cI, 5, .inl xn_a_ohms)), ((a 20), .inl (cI, 5, .inl xn_a_leaks)), ((a 21), .inl (cI, 5, .inl xn_a_needs)), ((a 22), .inl (cI, 30, .inl xn_a_kinds)), ((a 23), .inl (cI, 30, .inl xn_a_places)), ((a 24), .inl (cI, 30, .inl xn_a_actDays)), ((a 25), .inl (cI, 5, .inl xn_a_cupDays)), ((a 26), .inl (cI, 5, .inl xn_a_snapDays)), ((a 5), .inr (2, [.int xd_lines, .int xd_days, .int xd_law, .int xd_odds, .int xd_volts, .int xd_spans, .int xd_wetLines, .int xd_wet, .int xd_acts, .ref (a 27), .ref (a 28), .ref (a 29), .ref (a 30), .ref (a 31), .ref (a 32), .ref (a 33), .ref (a 34)])), ((a 27), .inl (cI, 5, .inl xd_a_ohms)), ((a 28), .inl (cI, 5, .inl xd_a_leaks)), ((a 29), .inl (cI, 5, .inl xd_a_needs)), ((a 30), .inl (cI, 30, .inl xd_a_kinds)), ((a 31), .inl (cI, 30, .inl xd_a_places)), ((a 32), .inl (cI, 30, .inl xd_a_actDays)), ((a 33), .inl (cI, 5, .inl xd_a_cupDays)), ((a 34), .inl (cI, 5, .inl xd_a_snapDays)), ((a 7), .inr (3, [.ref (a 35), .ref (a 36), .ref (a 37)])), ((a 35), .inl (cJ, 240, .inr (.inl xsn))), ((a 36), .inl (cI, 4, .inl xsw)), ((a 37), .inl (cI, 4, .inl xss)), ((a 8), .inr (4, [.int xul, .int xuw, .int xuc, .int xub, .ref (a 38), .ref (a 39)])), ((a 38), .inl (cI, 5, .inl xuo)), ((a 39), .inl (cI, 5, .inl xuk)), ((a 9), .inr (1, [.int xle, .long xlo, .ref (a 40), .ref (a 41), .ref (a 42)])), ((a 40), .inl (cI, 5, .inl xll)), ((a 41), .inl (cJ, 5, .inr (.inl xlv))), ((a 42), .inl (cJ, 5, .inr (.inl xla))), ((a 10), .inr (0, [.long xfa, .long xfb])), ((a 11), .inl (cI, 14, .inl xho)), ((a 12), .inl (cI, 32, .inl xwo)), ((a 13), .inl (cJ, 31, .inr (.inl xra))), ((a 14), .inl (cJ, 31, .inr (.inl xrb))), ((a 6), .inl (cL, 3, .inr (.inr (.inr (.inr xim)))))]
set_option maxHeartbeats 8000000 in
set_option maxRecDepth 100000 in
def XI (cB cI cJ cZ cL : ClassId) (u : XT) (T : va_W) : Prop := match u with | (xfk, xfp, xtl, xtb, xks, xkk, xkp, xkv, xtf, xtpl, xtn, xtk, xtv, xn_lines, xn_days, xn_law, xn_odds, xn_volts, xn_spans, xn_wetLines, xn_wet, xn_acts, xn_a_ohms, xn_a_leaks, xn_a_needs, xn_a_kinds, xn_a_places, xn_a_actDays, xn_a_cupDays, xn_a_snapDays, xd_lines, xd_days, xd_law, xd_odds, xd_volts, xd_spans, xd_wetLines, xd_wet, xd_acts, xd_a_ohms, xd_a_leaks, xd_a_needs, xd_a_kinds, xd_a_places, xd_a_actDays, xd_a_cupDays, xd_a_snapDays, xsn, xsw, xss, xul, xuw, xuc, xub, xuo, xuk, xle, xlo, xll, xlv, xla, xfa, xfb, xho, xwo, xra, xrb, xim) => (0 ≤ Int32.toInt xtl ∧ Int32.toInt xtl ≤ 500) ∧ (0 ≤ Int32.toInt xn_spans ∧ Int32.toInt xn_spans ≤ 5) ∧ (0 ≤ Int32.toInt xn_days ∧ Int32.toInt xn_days ≤ 13) ∧ (0 ≤ Int32.toInt xn_acts ∧ Int32.toInt xn_acts ≤ 30) ∧ (∀ i : Nat, 0 ≤ Int32.toInt (xn_a_places i) ∧ Int32.toInt (xn_a_places i) ≤ 4) ∧ (∀ i : Nat, 0 ≤ Int32.toInt (xd_a_places i) ∧ Int32.toInt (xd_a_places i) ≤ 4) ∧ (∀ i : Nat, -1 ≤ Int32.toInt (xss i) ∧ Int32.toInt (xss i) ≤ 60) ∧ (TI cB cI cJ cZ cL xim T)
abbrev MT : Type := (Int32) × (Int32) × (Int32) × (Int32) × (Int32) × (Int32) × (Int64) × (Int32) × (Int32) × (Int32) × (Int32) × (Int32) × (Int32) × (Int32) × (Int32) × (Int32) × (Int32) × (Int64) × (Int32) × (Int32) × (Int32) × (Nat → Int32) × (Nat → Int32) × (Nat → Int64) × (Nat → Int64) × (Nat → Int32) × (Nat → Int32) × (Nat → Int32) × (Nat → Int32) × (Nat → Int32) × (Nat → Int32) × (Nat → Int32) × (Nat → Int32) × (Nat → Int32) × (Nat → Int64) × (Nat → Int64) × (Nat → Int64) × (Nat → Int64)
set_option maxHeartbeats 8000000 in
set_option maxRecDepth 100000 in
def WM (g : Nat → Nat) (cB cI cJ cZ cL : ClassId) (u : MT) : va_W := match u with | (mg_th, mg_tp, mg_so, mg_tk, mg_pl, mg_va, mg_wo, mg_bd, mg_bp, mg_fa, mg_fp, mg_lw, mg_we, mg_cu, mg_go, mg_ba, mg_jo, mg_bt, mg_sb, mg_ab, mg_al, mwd, mmn, mce, mmv, mtb, mli, mhs, msp, mwt, mac, mik, mom, mlk, mpa, mfl, mav, mbv) => [((g 0), .inr (9, [.int mg_th, .ref (g 1), .ref (g 2), .ref (g 3), .ref (g 4), .ref (g 5), .int mg_tp, .int mg_so, .int mg_tk, .int mg_pl, .int mg_va, .long mg_wo, .int mg_bd, .int mg_bp, .int mg_fa, .int mg_fp, .ref (g 6), .ref (g 7), .ref (g 8), .ref (g 9), .ref (g 10), .ref (g 11), .int mg_lw, .int mg_we, .int mg_cu, .int mg_go, .int mg_ba, .ref (g 12), .ref (g 13), .int mg_jo, .ref (g 14), .ref (g 15), .long mg_bt, .int mg_sb, .int mg_ab, .int mg_al, .ref (g 16), .ref (g 17)])), ((g 1), .inl (cI, 4, .inl mwd)), ((g 2), .inl (cI, 4, .inl mmn)), ((g 3), .inl (cJ, 240, .inr (.inl mce))), ((g 4), .inl (cJ, 60, .inr (.inl mmv))), ((g 5), .inl (cB, 500, .inl mtb)), ((g 6), .inl (cI, 5, .inl mli)), ((g 7), .inl (cI, 35, .inl mhs)), ((g 8), .inl (cI, 75, .inl msp)), ((g 9), .inl (cI, 40, .inl mwt)), ((g 10), .inl (cI, 450, .inl mac)), ((g 11), .inl (cZ, 3, .inl mik)), ((g 12), .inl (cI, 5, .inl mom)), ((g 13), .inl (cI, 5, .inl mlk)), ((g 14), .inl (cJ, 6, .inr (.inl mpa))), ((g 15), .inl (cJ, 5, .inr (.inl mfl))), ((g 16), .inl (cJ, 434, .inr (.inl mav))), ((g 17), .inl (cJ, 434, .inr (.inl mbv)))]
set_option maxHeartbeats 8000000 in
set_option maxRecDepth 100000 in
def MI (u : MT) : Prop := match u with | (mg_th, mg_tp, mg_so, mg_tk, mg_pl, mg_va, mg_wo, mg_bd, mg_bp, mg_fa, mg_fp, mg_lw, mg_we, mg_cu, mg_go, mg_ba, mg_jo, mg_bt, mg_sb, mg_ab, mg_al, mwd, mmn, mce, mmv, mtb, mli, mhs, msp, mwt, mac, mik, mom, mlk, mpa, mfl, mav, mbv) => (WI mhs msp) ∧ (0 ≤ Int32.toInt mg_tp ∧ Int32.toInt mg_tp ≤ 500) ∧ (∀ i : Nat, 0 ≤ Int32.toInt (mmn i) ∧ Int32.toInt (mmn i) ≤ 60)
set_option maxHeartbeats 8000000 in
set_option maxRecDepth 100000 in
def XSf (u : XT) : (Nat → Int32) × (Nat → Int32) × (Nat → Option Nat) := match u with | (xfk, xfp, xtl, xtb, xks, xkk, xkp, xkv, xtf, xtpl, xtn, xtk, xtv, xn_lines, xn_days, xn_law, xn_odds, xn_volts, xn_spans, xn_wetLines, xn_wet, xn_acts, xn_a_ohms, xn_a_leaks, xn_a_needs, xn_a_kinds, xn_a_places, xn_a_actDays, xn_a_cupDays, xn_a_snapDays, xd_lines, xd_days, xd_law, xd_odds, xd_volts, xd_spans, xd_wetLines, xd_wet, xd_acts, xd_a_ohms, xd_a_leaks, xd_a_needs, xd_a_kinds, xd_a_places, xd_a_actDays, xd_a_cupDays, xd_a_snapDays, xsn, xsw, xss, xul, xuw, xuc, xub, xuo, xuk, xle, xlo, xll, xlv, xla, xfa, xfb, xho, xwo, xra, xrb, xim) => (xss, xsw, xim)
set_option maxHeartbeats 8000000 in
set_option maxRecDepth 100000 in
def MSf (u : MT) : (Nat → Int32) × (Nat → Int32) × (Nat → Int32) := match u with | (mg_th, mg_tp, mg_so, mg_tk, mg_pl, mg_va, mg_wo, mg_bd, mg_bp, mg_fa, mg_fp, mg_lw, mg_we, mg_cu, mg_go, mg_ba, mg_jo, mg_bt, mg_sb, mg_ab, mg_al, mwd, mmn, mce, mmv, mtb, mli, mhs, msp, mwt, mac, mik, mom, mlk, mpa, mfl, mav, mbv) => (mwd, mmn, mik)
theorem XSf_eq {xfk : Int32} {xfp : Int32} {xtl : Int32} {xtb : Nat → Int32} {xks : Int32} {xkk : Nat → Int32} {xkp : Nat → Int32} {xkv : Nat → Int32} {xtf : Int32} {xtpl : Int32} {xtn : Int32} {xtk : Int32} {xtv : Int32} {xn_lines : Int32} {xn_days : Int32} {xn_law : Int32} {xn_odds : Int32} {xn_volts : Int32} {xn_spans : Int32} {xn_wetLines : Int32} {xn_wet : Int32} {xn_acts : Int32} {xn_a_ohms : Nat → Int32} {xn_a_leaks : Nat → Int32} {xn_a_needs : Nat → Int32} {xn_a_kinds : Nat → Int32} {xn_a_places : Nat → Int32} {xn_a_actDays : Nat → Int32} {xn_a_cupDays : Nat → Int32} {xn_a_snapDays : Nat → Int32} {xd_lines : Int32} {xd_days : Int32} {xd_law : Int32} {xd_odds : Int32} {xd_volts : Int32} {xd_spans : Int32} {xd_wetLines : Int32} {xd_wet : Int32} {xd_acts : Int32} {xd_a_ohms : Nat → Int32} {xd_a_leaks : Nat → Int32} {xd_a_needs : Nat → Int32} {xd_a_kinds : Nat → Int32} {xd_a_places : Nat → Int32} {xd_a_actDays : Nat → Int32} {xd_a_cupDays : Nat → Int32} {xd_a_snapDays : Nat → Int32} {xsn : Nat → Int64} {xsw : Nat → Int32} {xss : Nat → Int32} {xul : Int32} {xuw : Int32} {xuc : Int32} {xub : Int32} {xuo : Nat → Int32} {xuk : Nat → Int32} {xle : Int32} {xlo : Int64} {xll : Nat → Int32} {xlv : Nat → Int64} {xla : Nat → Int64} {xfa : Int64} {xfb : Int64} {xho : Nat → Int32} {xwo : Nat → Int32} {xra : Nat → Int64} {xrb : Nat → Int64} {xim : Nat → Option Nat} : XSf (xfk, xfp, xtl, xtb, xks, xkk, xkp, xkv, xtf, xtpl, xtn, xtk, xtv, xn_lines, xn_days, xn_law, xn_odds, xn_volts, xn_spans, xn_wetLines, xn_wet, xn_acts, xn_a_ohms, xn_a_leaks, xn_a_needs, xn_a_kinds, xn_a_places, xn_a_actDays, xn_a_cupDays, xn_a_snapDays, xd_lines, xd_days, xd_law, xd_odds, xd_volts, xd_spans, xd_wetLines, xd_wet, xd_acts, xd_a_ohms, xd_a_leaks, xd_a_needs, xd_a_kinds, xd_a_places, xd_a_actDays, xd_a_cupDays, xd_a_snapDays, xsn, xsw, xss, xul, xuw, xuc, xub, xuo, xuk, xle, xlo, xll, xlv, xla, xfa, xfb, xho, xwo, xra, xrb, xim) = (xss, xsw, xim) := rfl
theorem MSf_eq {mg_th : Int32} {mg_tp : Int32} {mg_so : Int32} {mg_tk : Int32} {mg_pl : Int32} {mg_va : Int32} {mg_wo : Int64} {mg_bd : Int32} {mg_bp : Int32} {mg_fa : Int32} {mg_fp : Int32} {mg_lw : Int32} {mg_we : Int32} {mg_cu : Int32} {mg_go : Int32} {mg_ba : Int32} {mg_jo : Int32} {mg_bt : Int64} {mg_sb : Int32} {mg_ab : Int32} {mg_al : Int32} {mwd : Nat → Int32} {mmn : Nat → Int32} {mce : Nat → Int64} {mmv : Nat → Int64} {mtb : Nat → Int32} {mli : Nat → Int32} {mhs : Nat → Int32} {msp : Nat → Int32} {mwt : Nat → Int32} {mac : Nat → Int32} {mik : Nat → Int32} {mom : Nat → Int32} {mlk : Nat → Int32} {mpa : Nat → Int64} {mfl : Nat → Int64} {mav : Nat → Int64} {mbv : Nat → Int64} : MSf (mg_th, mg_tp, mg_so, mg_tk, mg_pl, mg_va, mg_wo, mg_bd, mg_bp, mg_fa, mg_fp, mg_lw, mg_we, mg_cu, mg_go, mg_ba, mg_jo, mg_bt, mg_sb, mg_ab, mg_al, mwd, mmn, mce, mmv, mtb, mli, mhs, msp, mwt, mac, mik, mom, mlk, mpa, mfl, mav, mbv) = (mwd, mmn, mik) := rfl
def JI (x : (Nat → Int32) × (Nat → Int32) × (Nat → Option Nat)) (y : (Nat → Int32) × (Nat → Int32) × (Nat → Int32)) : Prop := SLR x.1 x.2.1 y.1 y.2.1 ∧ KIR x.2.2 y.2.2
