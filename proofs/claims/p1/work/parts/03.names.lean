abbrev cX0_init : ByteArray := prog_2_method_1_code
def yX0_init : MethodName := ⟨RX0, "<init>", "()V"⟩
abbrev cX1_init : ByteArray := prog_3_method_1_code
def yX1_init : MethodName := ⟨RX1, "<init>", "()V"⟩
abbrev cX2_init : ByteArray := prog_4_method_1_code
def yX2_init : MethodName := ⟨RX2, "<init>", "()V"⟩
abbrev cX3_init : ByteArray := prog_5_method_1_code
def yX3_init : MethodName := ⟨RX3, "<init>", "()V"⟩
abbrev cX4_init : ByteArray := prog_6_method_1_code
def yX4_init : MethodName := ⟨RX4, "<init>", "()V"⟩
abbrev cX5_init : ByteArray := prog_7_method_1_code
def yX5_init : MethodName := ⟨RX5, "<init>", "()V"⟩
abbrev cX6_init : ByteArray := prog_8_method_1_code
def yX6_init : MethodName := ⟨RX6, "<init>", "()V"⟩
abbrev cX7_init : ByteArray := prog_9_method_1_code
def yX7_init : MethodName := ⟨RX7, "<init>", "()V"⟩
abbrev cX8_hasBit : ByteArray := prog_1_method_98_code
def yX8_hasBit : MethodName := ⟨RX8, "hasBit", "(II)Z"⟩
abbrev cX8_isDay : ByteArray := prog_1_method_89_code
def yX8_isDay : MethodName := ⟨RX8, "isDay", "(I)Z"⟩
abbrev cX8_isPole : ByteArray := prog_1_method_91_code
def yX8_isPole : MethodName := ⟨RX8, "isPole", "(I)Z"⟩
abbrev cX8_isStation : ByteArray := prog_1_method_92_code
def yX8_isStation : MethodName := ⟨RX8, "isStation", "(I)Z"⟩
abbrev cX8_isTold : ByteArray := prog_1_method_88_code
def yX8_isTold : MethodName := ⟨RX8, "isTold", "()Z"⟩
abbrev cX8_ohms : ByteArray := prog_1_method_11_code
def yX8_ohms : MethodName := ⟨RX8, "ohms", "(II)J"⟩
abbrev cX8_sum : ByteArray := prog_1_method_28_code
def yX8_sum : MethodName := ⟨RX8, "sum", "()I"⟩
theorem w_10 : Cond.selects RX8 yX8_isPole yX8_isPole ∈ lw_ok := List.mem_filter.mpr ⟨List.mem_of_getElem? (i := 10) (by decide +kernel), rfl⟩
theorem w_11 : Cond.selects RX8 yX8_isTold yX8_isTold ∈ lw_ok := List.mem_filter.mpr ⟨List.mem_of_getElem? (i := 11) (by decide +kernel), rfl⟩
theorem w_12 : Cond.selects RX8 yX8_isDay yX8_isDay ∈ lw_ok := List.mem_filter.mpr ⟨List.mem_of_getElem? (i := 12) (by decide +kernel), rfl⟩
theorem w_105 : Cond.initialized RX8 ∈ lw_ok := List.mem_filter.mpr ⟨List.mem_of_getElem? (i := 105) (by decide +kernel), rfl⟩
theorem w_203 : Cond.fieldLink RX8 118 "LeakyLine$Line" "lines" "I" ∈ lw_ok := List.mem_filter.mpr ⟨List.mem_of_getElem? (i := 203) (by decide +kernel), rfl⟩
theorem w_221 : Cond.fieldLink RX8 210 "LeakyLine$Line" "spans" "I" ∈ lw_ok := List.mem_filter.mpr ⟨List.mem_of_getElem? (i := 221) (by decide +kernel), rfl⟩
theorem w_378 : Cond.fieldLink RX8 33 "LeakyLine" "line" "LLeakyLine$Line;" ∈ lw_ok := List.mem_filter.mpr ⟨List.mem_of_getElem? (i := 378) (by decide +kernel), rfl⟩
theorem w_609 : Cond.methodLink RX8 121 yX8_isPole ∈ lw_ok := List.mem_filter.mpr ⟨List.mem_of_getElem? (i := 609) (by decide +kernel), rfl⟩
theorem w_611 : Cond.instanceMethod yX8_isPole ∈ lw_ok := List.mem_filter.mpr ⟨List.mem_of_getElem? (i := 611) (by decide +kernel), rfl⟩
theorem w_612 : Cond.code yX8_isPole cX8_isPole 2 (some .boolean) ∈ lw_ok := List.mem_filter.mpr ⟨List.mem_of_getElem? (i := 612) (by decide +kernel), rfl⟩
theorem w_617 : Cond.methodLink RX8 134 yX8_isTold ∈ lw_ok := List.mem_filter.mpr ⟨List.mem_of_getElem? (i := 617) (by decide +kernel), rfl⟩
theorem w_619 : Cond.instanceMethod yX8_isTold ∈ lw_ok := List.mem_filter.mpr ⟨List.mem_of_getElem? (i := 619) (by decide +kernel), rfl⟩
theorem w_620 : Cond.code yX8_isTold cX8_isTold 1 (some .boolean) ∈ lw_ok := List.mem_filter.mpr ⟨List.mem_of_getElem? (i := 620) (by decide +kernel), rfl⟩
theorem w_633 : Cond.methodLink RX8 145 yX8_isDay ∈ lw_ok := List.mem_filter.mpr ⟨List.mem_of_getElem? (i := 633) (by decide +kernel), rfl⟩
theorem w_635 : Cond.instanceMethod yX8_isDay ∈ lw_ok := List.mem_filter.mpr ⟨List.mem_of_getElem? (i := 635) (by decide +kernel), rfl⟩
theorem w_636 : Cond.code yX8_isDay cX8_isDay 2 (some .boolean) ∈ lw_ok := List.mem_filter.mpr ⟨List.mem_of_getElem? (i := 636) (by decide +kernel), rfl⟩
theorem w_694 : Cond.constantLong RX8 162 (-2) ∈ lw_ok := List.mem_filter.mpr ⟨List.mem_of_getElem? (i := 694) (by decide +kernel), rfl⟩
def NW (U : State) : Prop := va_Nw (Cond.methodLinkNest RX8 9 yX5_init "LeakyLine") U ∧ va_Nw (Cond.methodLinkNest RX8 18 yX7_init "LeakyLine") U ∧ va_Nw (Cond.methodLinkNest RX8 25 yX6_init "LeakyLine") U ∧ va_Nw (Cond.methodLinkNest RX8 32 yX2_init "LeakyLine") U ∧ va_Nw (Cond.methodLinkNest RX8 46 yX3_init "LeakyLine") U ∧ va_Nw (Cond.methodLinkNest RX8 53 yX4_init "LeakyLine") U ∧ va_Nw (Cond.methodLinkNest RX8 60 yX1_init "LeakyLine") U ∧ va_Nw (Cond.methodLinkNest RX8 67 yX0_init "LeakyLine") U ∧ va_Nw (Cond.methodLinkNest RX4 47 yX8_hasBit "LeakyLine") U ∧ va_AO "LeakyLine$Line" U
theorem NW.n9 {U : State} (h : NW U) : va_Nw (Cond.methodLinkNest RX8 9 yX5_init "LeakyLine") U := h.1
theorem NW.n18 {U : State} (h : NW U) : va_Nw (Cond.methodLinkNest RX8 18 yX7_init "LeakyLine") U := h.2.1
theorem NW.n25 {U : State} (h : NW U) : va_Nw (Cond.methodLinkNest RX8 25 yX6_init "LeakyLine") U := h.2.2.1
theorem NW.n32 {U : State} (h : NW U) : va_Nw (Cond.methodLinkNest RX8 32 yX2_init "LeakyLine") U := h.2.2.2.1
theorem NW.n46 {U : State} (h : NW U) : va_Nw (Cond.methodLinkNest RX8 46 yX3_init "LeakyLine") U := h.2.2.2.2.1
theorem NW.n53 {U : State} (h : NW U) : va_Nw (Cond.methodLinkNest RX8 53 yX4_init "LeakyLine") U := h.2.2.2.2.2.1
theorem NW.n60 {U : State} (h : NW U) : va_Nw (Cond.methodLinkNest RX8 60 yX1_init "LeakyLine") U := h.2.2.2.2.2.2.1
theorem NW.n67 {U : State} (h : NW U) : va_Nw (Cond.methodLinkNest RX8 67 yX0_init "LeakyLine") U := h.2.2.2.2.2.2.2.1
theorem NW.n47 {U : State} (h : NW U) : va_Nw (Cond.methodLinkNest RX4 47 yX8_hasBit "LeakyLine") U := h.2.2.2.2.2.2.2.2.1
theorem NW.ao {U : State} (h : NW U) : va_AO "LeakyLine$Line" U := h.2.2.2.2.2.2.2.2.2
theorem NW.same {u U : State} (e : u.vm = U.vm) (h : NW u) : NW U := ⟨va_Nw.same rfl e h.n9, va_Nw.same rfl e h.n18, va_Nw.same rfl e h.n25, va_Nw.same rfl e h.n32, va_Nw.same rfl e h.n46, va_Nw.same rfl e h.n53, va_Nw.same rfl e h.n60, va_Nw.same rfl e h.n67, va_Nw.same rfl e h.n47, h.ao.moved (by rw [e]; exact Vm.Alike.refl U.vm)⟩
theorem NW.warm {s U : State} (hW : s.WarmedH U.vm) (h : NW s) : NW U := ⟨va_Nw.warmM hW h.n9, va_Nw.warmM hW h.n18, va_Nw.warmM hW h.n25, va_Nw.warmM hW h.n32, va_Nw.warmM hW h.n46, va_Nw.warmM hW h.n53, va_Nw.warmM hW h.n60, va_Nw.warmM hW h.n67, va_Nw.warmM hW h.n47, h.ao.moved hW.alike⟩
theorem fbQn {D : va_G} {cl : List vw_C} {ws : va_W} {tys : List (ClassId × FieldType)} {av : List Value} {sz : Nat} : FrameBlind (va_Pc av (fun U => U.heap.size = sz ∧ va_P D cl ws U.heap ∧ va_K D cl tys U ∧ va_D (fun _ => True) ws ∧ NW U)) := fun a U g mk q => by
  obtain ⟨q0, q1, qP, qK, qD, qN⟩ := q
  exact ⟨q0, q1, qP, va_K.moved (u := U) (U := U.calling g mk a) (Vm.Alike.refl U.vm) qK, qD, NW.same (u := U) (U := U.calling g mk a) rfl qN⟩
theorem pSQn {D : va_G} {cl : List vw_C} {ws : va_W} {tys : List (ClassId × FieldType)} {As : List Value} {s : State} {H : Heap} {A : Nat → Prop} (hN : NW s) (hK : va_K D cl tys s) (hP : va_P D cl ws H) (hD : va_D A ws) : PreS s H (va_Pc As (fun U => U.heap.size = H.size ∧ va_P D cl ws U.heap ∧ va_K D cl tys U ∧ va_D (fun _ => True) ws ∧ NW U)) As := ⟨fbQn, fun U hU hW => ⟨rfl, by rw [hU], by rw [hU]; exact hP, va_K.moved hW.alike hK, hD.weaken (fun _ _ _ _ => trivial), hN.warm hW⟩⟩
theorem pVQn {D : va_G} {cl : List vw_C} {ws : va_W} {tys : List (ClassId × FieldType)} {As : List Value} {s : State} {H : Heap} {A : Nat → Prop} {a q0 ci : Nat} {fs : List Value} {r : vw_C} (hN : NW s) (hK : va_K D cl tys s) (hP : va_P D cl ws H) (hD : va_D A ws) (hc : cl[ci]? = some r) (he : ws[q0]? = some (a, .inr (ci, fs))) : PreV s H r.1 a (va_Pc (.ref a :: As) (fun U => U.heap.size = H.size ∧ va_P D cl ws U.heap ∧ va_K D cl tys U ∧ va_D (fun _ => True) ws ∧ NW U)) As := ⟨fbQn, va_recv hK hP hc he, fun U hU hW => ⟨rfl, by rw [hU], by rw [hU]; exact hP, va_K.moved hW.alike hK, hD.weaken (fun _ _ _ _ => trivial), hN.warm hW⟩⟩
