
theorem w_468 : Cond.code yJ0_coder_7d493 cJ0_coder_7d493 1 (some .byte) ∈ lw_ok := List.mem_filter.mpr ⟨List.mem_of_getElem? (i := 468) (by decide +kernel), rfl⟩
theorem dJ0_charAt_5068e_0 : decode cJ0_charAt_5068e 0 = .ok (.aload_n 0, 1) := by decide +kernel
theorem dJ0_charAt_5068e_1 : decode cJ0_charAt_5068e 1 = .ok (.invokevirtual 492, 3) := by decide +kernel
theorem dJ0_charAt_5068e_4 : decode cJ0_charAt_5068e 4 = .ok (.ifCond .eq 12, 3) := by decide +kernel
theorem dJ0_charAt_5068e_7 : decode cJ0_charAt_5068e 7 = .ok (.aload_n 0, 1) := by decide +kernel
theorem dJ0_charAt_5068e_8 : decode cJ0_charAt_5068e 8 = .ok (.getfield 9, 3) := by decide +kernel
theorem dJ0_charAt_5068e_11 : decode cJ0_charAt_5068e 11 = .ok (.iload_n 1, 1) := by decide +kernel
theorem dJ0_charAt_5068e_12 : decode cJ0_charAt_5068e 12 = .ok (.invokestatic 495, 3) := by decide +kernel
theorem dJ0_charAt_5068e_15 : decode cJ0_charAt_5068e 15 = .ok (.ireturn, 1) := by decide +kernel
theorem dJ0_checkIndex_df160_0 : decode cJ0_checkIndex_df160 0 = .ok (.iload_n 0, 1) := by decide +kernel
theorem dJ0_checkIndex_df160_1 : decode cJ0_checkIndex_df160 1 = .ok (.iload_n 1, 1) := by decide +kernel
theorem dJ0_checkIndex_df160_2 : decode cJ0_checkIndex_df160 2 = .ok (.getstatic 1053, 3) := by decide +kernel
theorem dJ0_checkIndex_df160_5 : decode cJ0_checkIndex_df160 5 = .ok (.invokestatic 1059, 3) := by decide +kernel
theorem dJ0_checkIndex_df160_8 : decode cJ0_checkIndex_df160 8 = .ok (.pop, 1) := by decide +kernel
theorem dJ0_checkIndex_df160_9 : decode cJ0_checkIndex_df160 9 = .ok (.return_, 1) := by decide +kernel
theorem dJ0_coder_7d493_0 : decode cJ0_coder_7d493 0 = .ok (.getstatic 38, 3) := by decide +kernel
theorem dJ0_coder_7d493_3 : decode cJ0_coder_7d493 3 = .ok (.ifCond .eq 10, 3) := by decide +kernel
theorem dJ0_coder_7d493_6 : decode cJ0_coder_7d493 6 = .ok (.aload_n 0, 1) := by decide +kernel
theorem dJ0_coder_7d493_7 : decode cJ0_coder_7d493 7 = .ok (.getfield 15, 3) := by decide +kernel
theorem dJ0_coder_7d493_10 : decode cJ0_coder_7d493 10 = .ok (.goto 4, 3) := by decide +kernel
theorem dJ0_coder_7d493_14 : decode cJ0_coder_7d493 14 = .ok (.ireturn, 1) := by decide +kernel
theorem dJ0_isLatin1_aae02_0 : decode cJ0_isLatin1_aae02 0 = .ok (.getstatic 38, 3) := by decide +kernel
theorem dJ0_isLatin1_aae02_3 : decode cJ0_isLatin1_aae02 3 = .ok (.ifCond .eq 14, 3) := by decide +kernel
theorem dJ0_isLatin1_aae02_6 : decode cJ0_isLatin1_aae02 6 = .ok (.aload_n 0, 1) := by decide +kernel
theorem dJ0_isLatin1_aae02_7 : decode cJ0_isLatin1_aae02 7 = .ok (.getfield 15, 3) := by decide +kernel
theorem dJ0_isLatin1_aae02_10 : decode cJ0_isLatin1_aae02 10 = .ok (.ifCond .ne 7, 3) := by decide +kernel
theorem dJ0_isLatin1_aae02_13 : decode cJ0_isLatin1_aae02 13 = .ok (.iconst 1, 1) := by decide +kernel
theorem dJ0_isLatin1_aae02_14 : decode cJ0_isLatin1_aae02 14 = .ok (.goto 4, 3) := by decide +kernel
theorem dJ0_isLatin1_aae02_18 : decode cJ0_isLatin1_aae02 18 = .ok (.ireturn, 1) := by decide +kernel
theorem dJ0_length_8abf5_0 : decode cJ0_length_8abf5 0 = .ok (.aload_n 0, 1) := by decide +kernel
theorem dJ0_length_8abf5_1 : decode cJ0_length_8abf5 1 = .ok (.getfield 9, 3) := by decide +kernel
theorem dJ0_length_8abf5_4 : decode cJ0_length_8abf5 4 = .ok (.arraylength, 1) := by decide +kernel
theorem dJ0_length_8abf5_5 : decode cJ0_length_8abf5 5 = .ok (.aload_n 0, 1) := by decide +kernel
theorem dJ0_length_8abf5_6 : decode cJ0_length_8abf5 6 = .ok (.invokevirtual 335, 3) := by decide +kernel
theorem dJ0_length_8abf5_9 : decode cJ0_length_8abf5 9 = .ok (.ishr, 1) := by decide +kernel
theorem dJ0_length_8abf5_10 : decode cJ0_length_8abf5 10 = .ok (.ireturn, 1) := by decide +kernel
theorem dJ1_charAt_3b067_0 : decode cJ1_charAt_3b067 0 = .ok (.iload_n 1, 1) := by decide +kernel
theorem dJ1_charAt_3b067_1 : decode cJ1_charAt_3b067 1 = .ok (.aload_n 0, 1) := by decide +kernel
theorem dJ1_charAt_3b067_2 : decode cJ1_charAt_3b067 2 = .ok (.arraylength, 1) := by decide +kernel
theorem dJ1_charAt_3b067_3 : decode cJ1_charAt_3b067 3 = .ok (.invokestatic 9, 3) := by decide +kernel
theorem dJ1_charAt_3b067_6 : decode cJ1_charAt_3b067 6 = .ok (.aload_n 0, 1) := by decide +kernel
theorem dJ1_charAt_3b067_7 : decode cJ1_charAt_3b067 7 = .ok (.iload_n 1, 1) := by decide +kernel
theorem dJ1_charAt_3b067_8 : decode cJ1_charAt_3b067 8 = .ok (.baload, 1) := by decide +kernel
theorem dJ1_charAt_3b067_9 : decode cJ1_charAt_3b067 9 = .ok (.sipush 255, 3) := by decide +kernel
theorem dJ1_charAt_3b067_12 : decode cJ1_charAt_3b067 12 = .ok (.iand, 1) := by decide +kernel
theorem dJ1_charAt_3b067_13 : decode cJ1_charAt_3b067 13 = .ok (.i2c, 1) := by decide +kernel
theorem dJ1_charAt_3b067_14 : decode cJ1_charAt_3b067 14 = .ok (.ireturn, 1) := by decide +kernel
theorem dJ3_checkIndex_8e157_0 : decode cJ3_checkIndex_8e157 0 = .ok (.iload_n 0, 1) := by decide +kernel
theorem dJ3_checkIndex_8e157_1 : decode cJ3_checkIndex_8e157 1 = .ok (.ifCond .lt 8, 3) := by decide +kernel
theorem dJ3_checkIndex_8e157_4 : decode cJ3_checkIndex_8e157 4 = .ok (.iload_n 0, 1) := by decide +kernel
theorem dJ3_checkIndex_8e157_5 : decode cJ3_checkIndex_8e157 5 = .ok (.iload_n 1, 1) := by decide +kernel
theorem dJ3_checkIndex_8e157_6 : decode cJ3_checkIndex_8e157 6 = .ok (.if_icmp .lt 10, 3) := by decide +kernel
theorem dJ3_checkIndex_8e157_16 : decode cJ3_checkIndex_8e157 16 = .ok (.iload_n 0, 1) := by decide +kernel
theorem dJ3_checkIndex_8e157_17 : decode cJ3_checkIndex_8e157 17 = .ok (.ireturn, 1) := by decide +kernel
-- ===== the String constants of Tokens =====
abbrev lenJ : List Nat := [4, 3, 4, 3, 4, 4, 5, 4, 5]
abbrev bytJ : List (List Int32) := [[119, 105, 114, 101], [119, 101, 116], [100, 97, 121, 115], [108, 97, 119], [108, 101, 97, 107], [111, 100, 100, 115], [118, 111, 108, 116, 115], [115, 112, 97, 110], [110, 101, 101, 100, 115]]
def SR (adK : Nat → Nat) (U : State) : Prop := vk_R RX7 71 "wire" (adK 0) U ∧ vk_R RX7 77 "wet" (adK 1) U ∧ vk_R RX7 83 "days" (adK 2) U ∧ vk_R RX7 85 "law" (adK 3) U ∧ vk_R RX7 87 "leak" (adK 4) U ∧ vk_R RX7 89 "odds" (adK 5) U ∧ vk_R RX7 91 "volts" (adK 6) U ∧ vk_R RX7 93 "span" (adK 7) U ∧ vk_R RX7 95 "needs" (adK 8) U
theorem SR.same {adK : Nat → Nat} {u U : State} (e : U.vm = u.vm) (h : SR adK u) : SR adK U := by
  obtain ⟨h0, h1, h2, h3, h4, h5, h6, h7, h8⟩ := h
  exact ⟨h0.same e, h1.same e, h2.same e, h3.same e, h4.same e, h5.same e, h6.same e, h7.same e, h8.same e⟩
theorem SR.warm {adK : Nat → Nat} {s U : State} (e : s.WarmedH U.vm) (h : SR adK s) : SR adK U := by
  obtain ⟨h0, h1, h2, h3, h4, h5, h6, h7, h8⟩ := h
  exact ⟨h0.warm e, h1.warm e, h2.warm e, h3.warm e, h4.warm e, h5.warm e, h6.warm e, h7.warm e, h8.warm e⟩
def SW (adK adV : Nat → Nat) (A : Nat → Prop) (U : State) (H : Heap) : Prop := vk_S 9 lenJ bytJ adK adV A U H ∧ va_Z "java/lang/String" "COMPACT_STRINGS" "Z" (.int 1) A U H ∧ va_Zq "jdk/internal/util/Preconditions" "SIOOBE_FORMATTER" "Ljava/util/function/BiFunction;" A U H ∧ SR adK U
theorem SW.kept {adK adV : Nat → Nat} {A : Nat → Prop} {U : State} {H H1 : Heap} (h : SW adK adV A U H) (hq : ∀ a : Nat, a < H.size → ¬ A a → H1[a]? = H[a]?) : SW adK adV A U H1 := ⟨h.1.kept hq, h.2.1.kept hq, h.2.2.1.kept hq, h.2.2.2⟩
theorem SW.narrow {adK adV : Nat → Nat} {A B : Nat → Prop} {U : State} {H : Heap} (h : SW adK adV A U H) (hq : ∀ q, B q → A q) : SW adK adV B U H := ⟨h.1.narrow hq, h.2.1.narrow hq, h.2.2.1.narrow hq, h.2.2.2⟩
theorem SW.warm {adK adV : Nat → Nat} {A : Nat → Prop} {s U : State} {H : Heap} (e : s.WarmedH U.vm) (h : SW adK adV A s H) : SW adK adV A U H := ⟨vk_S.moved e.alike h.1, va_Z.moved e.alike h.2.1, va_Zq.moved e.alike h.2.2.1, h.2.2.2.warm e⟩
theorem SW.same {adK adV : Nat → Nat} {A : Nat → Prop} {u U : State} {H : Heap} (e : U.vm = u.vm) (h : SW adK adV A u H) : SW adK adV A U H := ⟨vk_S.moved (by rw [e]; exact Vm.Alike.refl _) h.1, va_Z.moved (by rw [e]; exact Vm.Alike.refl _) h.2.1, va_Zq.moved (by rw [e]; exact Vm.Alike.refl _) h.2.2.1, h.2.2.2.same e⟩
theorem SW.r0 {adK adV : Nat → Nat} {A : Nat → Prop} {U : State} {H : Heap} (h : SW adK adV A U H) : vk_R RX7 71 "wire" (adK 0) U := h.2.2.2.1
theorem SW.r1 {adK adV : Nat → Nat} {A : Nat → Prop} {U : State} {H : Heap} (h : SW adK adV A U H) : vk_R RX7 77 "wet" (adK 1) U := h.2.2.2.2.1
theorem SW.r2 {adK adV : Nat → Nat} {A : Nat → Prop} {U : State} {H : Heap} (h : SW adK adV A U H) : vk_R RX7 83 "days" (adK 2) U := h.2.2.2.2.2.1
theorem SW.r3 {adK adV : Nat → Nat} {A : Nat → Prop} {U : State} {H : Heap} (h : SW adK adV A U H) : vk_R RX7 85 "law" (adK 3) U := h.2.2.2.2.2.2.1
theorem SW.r4 {adK adV : Nat → Nat} {A : Nat → Prop} {U : State} {H : Heap} (h : SW adK adV A U H) : vk_R RX7 87 "leak" (adK 4) U := h.2.2.2.2.2.2.2.1
theorem SW.r5 {adK adV : Nat → Nat} {A : Nat → Prop} {U : State} {H : Heap} (h : SW adK adV A U H) : vk_R RX7 89 "odds" (adK 5) U := h.2.2.2.2.2.2.2.2.1
theorem SW.r6 {adK adV : Nat → Nat} {A : Nat → Prop} {U : State} {H : Heap} (h : SW adK adV A U H) : vk_R RX7 91 "volts" (adK 6) U := h.2.2.2.2.2.2.2.2.2.1
theorem SW.r7 {adK adV : Nat → Nat} {A : Nat → Prop} {U : State} {H : Heap} (h : SW adK adV A U H) : vk_R RX7 93 "span" (adK 7) U := h.2.2.2.2.2.2.2.2.2.2.1
theorem SW.r8 {adK adV : Nat → Nat} {A : Nat → Prop} {U : State} {H : Heap} (h : SW adK adV A U H) : vk_R RX7 95 "needs" (adK 8) U := h.2.2.2.2.2.2.2.2.2.2.2
theorem lenV_all : ∀ i : Nat, i < 9 → (Int32.ofNat (lenJ.getD i 0)).toInt = (lenJ.getD i 0 : Int) ∧ lenJ.getD i 0 < 9 := by decide +kernel
theorem lenV {i : Nat} (hi : i < 9) {y : Int32} (e : y = Int32.ofNat (lenJ.getD i 0)) : y.toInt = (lenJ.getD i 0 : Int) ∧ lenJ.getD i 0 < 9 := by rw [e]; exact lenV_all i hi
theorem shr0F {z x : Int32} (h : z = x >>> ((0 : Int32) &&& 31)) (h0 : 0 ≤ x.toInt) : z.toInt = x.toInt := by
  have e : x = nI x.toInt.toNat := by
    rw [i_eq]
    have h1 := Int32.toInt_lt x
    rw [nI_toInt (by omega)]
    omega
  rw [e, sc_shr0 (by have h1 := Int32.toInt_lt x; omega), ← e] at h
  rw [h]
theorem chF {n y x : Int32} (hy : y = x &&& 255) (hn : n = (y.toUInt32 % 65536).toInt32) : narrow .char (.int n) = .int n := by
  have e : n = x &&& 255 := by rw [hn, hy]; exact sc_c2 x
  rw [e]; exact sc_nar x
theorem fbSs {D : va_G} {cl : List vw_C} {ws : va_W} {tys : List (ClassId × FieldType)} {av : List Value} {adK adV : Nat → Nat} {A : Nat → Prop} : FrameBlind (va_Pc av (fun U => va_P D cl ws U.heap ∧ va_K D cl tys U ∧ NW U ∧ SW adK adV A U U.heap)) := fun a U g mk q => by
  obtain ⟨q0, qP, qK, qN, qV⟩ := q
  exact ⟨q0, qP, va_K.moved (u := U) (U := U.calling g mk a) (Vm.Alike.refl U.vm) qK, NW.same (u := U) (U := U.calling g mk a) rfl qN, SW.same (u := U) (U := U.calling g mk a) rfl qV⟩
theorem pSSs {D : va_G} {cl : List vw_C} {ws : va_W} {tys : List (ClassId × FieldType)} {As : List Value} {s : State} {H : Heap} {adK adV : Nat → Nat} {A : Nat → Prop} (hV : SW adK adV A s H) (hN : NW s) (hK : va_K D cl tys s) (hP : va_P D cl ws H) : PreS s H (va_Pc As (fun U => va_P D cl ws U.heap ∧ va_K D cl tys U ∧ NW U ∧ SW adK adV A U U.heap)) As := ⟨fbSs, fun U hU hW => ⟨rfl, by rw [hU]; exact hP, va_K.moved hW.alike hK, hN.warm hW, by rw [hU]; exact hV.warm hW⟩⟩
theorem pVSs {D : va_G} {cl : List vw_C} {ws : va_W} {tys : List (ClassId × FieldType)} {As : List Value} {s : State} {H : Heap} {adK adV : Nat → Nat} {A : Nat → Prop} {i : Nat} (hV : SW adK adV A s H) (hi : i < 9) (hN : NW s) (hK : va_K D cl tys s) (hP : va_P D cl ws H) : PreV s H "java/lang/String" (adK i) (va_Pc (.ref (adK i) :: As) (fun U => va_P D cl ws U.heap ∧ va_K D cl tys U ∧ NW U ∧ SW adK adV A U U.heap)) As := ⟨fbSs, by
  obtain ⟨cell, h1, h2, h3, -⟩ := (hV.1.1 i hi).1
  exact ⟨cell, h1, h2, h3⟩, fun U hU hW => ⟨rfl, by rw [hU]; exact hP, va_K.moved hW.alike hK, hN.warm hW, by rw [hU]; exact hV.warm hW⟩⟩
theorem fbQs {D : va_G} {cl : List vw_C} {ws : va_W} {tys : List (ClassId × FieldType)} {av : List Value} {sz : Nat} {adK adV : Nat → Nat} {A : Nat → Prop} : FrameBlind (va_Pc av (fun U => U.heap.size = sz ∧ va_P D cl ws U.heap ∧ va_K D cl tys U ∧ va_D (fun _ => True) ws ∧ NW U ∧ SW adK adV A U U.heap)) := fun a U g mk q => by
  obtain ⟨q0, q1, qP, qK, qD, qN, qV⟩ := q
  exact ⟨q0, q1, qP, va_K.moved (u := U) (U := U.calling g mk a) (Vm.Alike.refl U.vm) qK, qD, NW.same (u := U) (U := U.calling g mk a) rfl qN, SW.same (u := U) (U := U.calling g mk a) rfl qV⟩
theorem pVQs {D : va_G} {cl : List vw_C} {ws : va_W} {tys : List (ClassId × FieldType)} {As : List Value} {s : State} {H : Heap} {A B : Nat → Prop} {a q0 ci : Nat} {fs : List Value} {r : vw_C} {adK adV : Nat → Nat} (hV : SW adK adV B s H) (hN : NW s) (hK : va_K D cl tys s) (hP : va_P D cl ws H) (hD : va_D A ws) (hc : cl[ci]? = some r) (he : ws[q0]? = some (a, .inr (ci, fs))) : PreV s H r.1 a (va_Pc (.ref a :: As) (fun U => U.heap.size = H.size ∧ va_P D cl ws U.heap ∧ va_K D cl tys U ∧ va_D (fun _ => True) ws ∧ NW U ∧ SW adK adV B U U.heap)) As := ⟨fbQs, va_recv hK hP hc he, fun U hU hW => ⟨rfl, by rw [hU], by rw [hU]; exact hP, va_K.moved hW.alike hK, hD.weaken (fun _ _ _ _ => trivial), hN.warm hW, by rw [hU]; exact hV.warm hW⟩⟩
