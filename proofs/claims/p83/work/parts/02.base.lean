def lw_ok : List Cond := lw_tbl.filter goodWord
def RX0 : String := "LeakyLine$Fraction"
def TX0 : u_T := fun k => match k with
  | 0 => ("LeakyLine$Fraction", "above", "J", false)
  | _ => ("LeakyLine$Fraction", "below", "J", false)
def tyX0 : Nat → FieldType := fun k => match k with
  | 0 => .long
  | _ => .long
theorem nmX0 : ∀ a, a < 2 → ∀ b, b < 2 → a ≠ b → (TX0 a).2.1 ≠ (TX0 b).2.1 := by decide +kernel
theorem tyX0_ok : ∀ k, k < 2 → parseFieldDescriptor (TX0 k).2.2.1 = some (tyX0 k) := by decide +kernel
def RX1 : String := "LeakyLine$Ladder"
def TX1 : u_T := fun k => match k with
  | 0 => ("LeakyLine$Ladder", "lead", "I", false)
  | 1 => ("LeakyLine$Ladder", "source", "J", false)
  | 2 => ("LeakyLine$Ladder", "leaks", "[I", true)
  | 3 => ("LeakyLine$Ladder", "volts", "[J", true)
  | _ => ("LeakyLine$Ladder", "amps", "[J", true)
def tyX1 : Nat → FieldType := fun k => match k with
  | 0 => .int
  | 1 => .long
  | 2 => .array .int
  | 3 => .array .long
  | _ => .array .long
theorem nmX1 : ∀ a, a < 5 → ∀ b, b < 5 → a ≠ b → (TX1 a).2.1 ≠ (TX1 b).2.1 := by decide +kernel
theorem tyX1_ok : ∀ k, k < 5 → parseFieldDescriptor (TX1 k).2.2.1 = some (tyX1 k) := by decide +kernel
def RX2 : String := "LeakyLine$Line"
def TX2 : u_T := fun k => match k with
  | 0 => ("LeakyLine$Line", "lines", "I", false)
  | 1 => ("LeakyLine$Line", "days", "I", false)
  | 2 => ("LeakyLine$Line", "law", "I", false)
  | 3 => ("LeakyLine$Line", "odds", "I", false)
  | 4 => ("LeakyLine$Line", "volts", "I", false)
  | 5 => ("LeakyLine$Line", "spans", "I", false)
  | 6 => ("LeakyLine$Line", "wetLines", "I", false)
  | 7 => ("LeakyLine$Line", "wet", "I", false)
  | 8 => ("LeakyLine$Line", "acts", "I", false)
  | 9 => ("LeakyLine$Line", "ohms", "[I", true)
  | 10 => ("LeakyLine$Line", "leaks", "[I", true)
  | 11 => ("LeakyLine$Line", "needs", "[I", true)
  | 12 => ("LeakyLine$Line", "kinds", "[I", true)
  | 13 => ("LeakyLine$Line", "places", "[I", true)
  | 14 => ("LeakyLine$Line", "actDays", "[I", true)
  | 15 => ("LeakyLine$Line", "cupDays", "[I", true)
  | _ => ("LeakyLine$Line", "snapDays", "[I", true)
def tyX2 : Nat → FieldType := fun k => match k with
  | 0 => .int
  | 1 => .int
  | 2 => .int
  | 3 => .int
  | 4 => .int
  | 5 => .int
  | 6 => .int
  | 7 => .int
  | 8 => .int
  | 9 => .array .int
  | 10 => .array .int
  | 11 => .array .int
  | 12 => .array .int
  | 13 => .array .int
  | 14 => .array .int
  | 15 => .array .int
  | _ => .array .int
theorem nmX2 : ∀ a, a < 17 → ∀ b, b < 17 → a ≠ b → (TX2 a).2.1 ≠ (TX2 b).2.1 := by decide +kernel
theorem tyX2_ok : ∀ k, k < 17 → parseFieldDescriptor (TX2 k).2.2.1 = some (tyX2 k) := by decide +kernel
def RX3 : String := "LeakyLine$Slots"
def TX3 : u_T := fun k => match k with
  | 0 => ("LeakyLine$Slots", "numbers", "[J", true)
  | 1 => ("LeakyLine$Slots", "widths", "[I", true)
  | _ => ("LeakyLine$Slots", "sizes", "[I", true)
def tyX3 : Nat → FieldType := fun k => match k with
  | 0 => .array .long
  | 1 => .array .int
  | _ => .array .int
theorem nmX3 : ∀ a, a < 3 → ∀ b, b < 3 → a ≠ b → (TX3 a).2.1 ≠ (TX3 b).2.1 := by decide +kernel
theorem tyX3_ok : ∀ k, k < 3 → parseFieldDescriptor (TX3 k).2.2.1 = some (tyX3 k) := by decide +kernel
def RX4 : String := "LeakyLine$Supposed"
def TX4 : u_T := fun k => match k with
  | 0 => ("LeakyLine$Supposed", "law", "I", false)
  | 1 => ("LeakyLine$Supposed", "wet", "I", false)
  | 2 => ("LeakyLine$Supposed", "cupSet", "I", false)
  | 3 => ("LeakyLine$Supposed", "broken", "I", false)
  | 4 => ("LeakyLine$Supposed", "ohms", "[I", true)
  | _ => ("LeakyLine$Supposed", "leaks", "[I", true)
def tyX4 : Nat → FieldType := fun k => match k with
  | 0 => .int
  | 1 => .int
  | 2 => .int
  | 3 => .int
  | 4 => .array .int
  | _ => .array .int
theorem nmX4 : ∀ a, a < 6 → ∀ b, b < 6 → a ≠ b → (TX4 a).2.1 ≠ (TX4 b).2.1 := by decide +kernel
theorem tyX4_ok : ∀ k, k < 6 → parseFieldDescriptor (TX4 k).2.2.1 = some (tyX4 k) := by decide +kernel
def RX5 : String := "LeakyLine$Tape"
def TX5 : u_T := fun k => match k with
  | 0 => ("LeakyLine$Tape", "bytes", "[B", true)
  | _ => ("LeakyLine$Tape", "length", "I", false)
def tyX5 : Nat → FieldType := fun k => match k with
  | 0 => .array .byte
  | _ => .int
theorem nmX5 : ∀ a, a < 2 → ∀ b, b < 2 → a ≠ b → (TX5 a).2.1 ≠ (TX5 b).2.1 := by decide +kernel
theorem tyX5_ok : ∀ k, k < 2 → parseFieldDescriptor (TX5 k).2.2.1 = some (tyX5 k) := by decide +kernel
def RX6 : String := "LeakyLine$Teller"
def TX6 : u_T := fun k => match k with
  | 0 => ("LeakyLine$Teller", "fault", "I", false)
  | 1 => ("LeakyLine$Teller", "place", "I", false)
  | 2 => ("LeakyLine$Teller", "next", "I", false)
  | 3 => ("LeakyLine$Teller", "kind", "I", false)
  | _ => ("LeakyLine$Teller", "value", "I", false)
def tyX6 : Nat → FieldType := fun k => match k with
  | 0 => .int
  | 1 => .int
  | 2 => .int
  | 3 => .int
  | _ => .int
theorem nmX6 : ∀ a, a < 5 → ∀ b, b < 5 → a ≠ b → (TX6 a).2.1 ≠ (TX6 b).2.1 := by decide +kernel
theorem tyX6_ok : ∀ k, k < 5 → parseFieldDescriptor (TX6 k).2.2.1 = some (tyX6 k) := by decide +kernel
def RX7 : String := "LeakyLine$Tokens"
def TX7 : u_T := fun k => match k with
  | 0 => ("LeakyLine$Tokens", "kinds", "[I", true)
  | 1 => ("LeakyLine$Tokens", "places", "[I", true)
  | 2 => ("LeakyLine$Tokens", "values", "[I", true)
  | _ => ("LeakyLine$Tokens", "size", "I", false)
def tyX7 : Nat → FieldType := fun k => match k with
  | 0 => .array .int
  | 1 => .array .int
  | 2 => .array .int
  | _ => .int
theorem nmX7 : ∀ a, a < 4 → ∀ b, b < 4 → a ≠ b → (TX7 a).2.1 ≠ (TX7 b).2.1 := by decide +kernel
theorem tyX7_ok : ∀ k, k < 4 → parseFieldDescriptor (TX7 k).2.2.1 = some (tyX7 k) := by decide +kernel
def RX8 : String := "LeakyLine"
def TX8 : u_T := fun k => match k with
  | 0 => ("LeakyLine", "tape", "LLeakyLine$Tape;", true)
  | 1 => ("LeakyLine", "tokens", "LLeakyLine$Tokens;", true)
  | 2 => ("LeakyLine", "teller", "LLeakyLine$Teller;", true)
  | 3 => ("LeakyLine", "line", "LLeakyLine$Line;", true)
  | 4 => ("LeakyLine", "drafted", "LLeakyLine$Line;", true)
  | 5 => ("LeakyLine", "images", "[LLeakyLine$Line;", true)
  | 6 => ("LeakyLine", "slots", "LLeakyLine$Slots;", true)
  | 7 => ("LeakyLine", "supposed", "LLeakyLine$Supposed;", true)
  | 8 => ("LeakyLine", "ladder", "LLeakyLine$Ladder;", true)
  | 9 => ("LeakyLine", "fraction", "LLeakyLine$Fraction;", true)
  | 10 => ("LeakyLine", "heardOn", "[I", true)
  | 11 => ("LeakyLine", "worths", "[I", true)
  | 12 => ("LeakyLine", "readsAbove", "[J", true)
  | 13 => ("LeakyLine", "readsBelow", "[J", true)
  | 14 => ("LeakyLine", "faultKind", "I", false)
  | _ => ("LeakyLine", "faultPlace", "I", false)
def tyX8 : Nat → FieldType := fun k => match k with
  | 0 => .object "LeakyLine$Tape"
  | 1 => .object "LeakyLine$Tokens"
  | 2 => .object "LeakyLine$Teller"
  | 3 => .object "LeakyLine$Line"
  | 4 => .object "LeakyLine$Line"
  | 5 => .array (.object "LeakyLine$Line")
  | 6 => .object "LeakyLine$Slots"
  | 7 => .object "LeakyLine$Supposed"
  | 8 => .object "LeakyLine$Ladder"
  | 9 => .object "LeakyLine$Fraction"
  | 10 => .array .int
  | 11 => .array .int
  | 12 => .array .long
  | 13 => .array .long
  | 14 => .int
  | _ => .int
theorem nmX8 : ∀ a, a < 16 → ∀ b, b < 16 → a ≠ b → (TX8 a).2.1 ≠ (TX8 b).2.1 := by decide +kernel
theorem tyX8_ok : ∀ k, k < 16 → parseFieldDescriptor (TX8 k).2.2.1 = some (tyX8 k) := by decide +kernel
def RX9 : String := "LeakyLineModel"
def TX9 : u_T := fun k => match k with
  | 0 => ("LeakyLineModel", "thrown", "I", false)
  | 1 => ("LeakyLineModel", "width", "[I", true)
  | 2 => ("LeakyLineModel", "many", "[I", true)
  | 3 => ("LeakyLineModel", "cells", "[J", true)
  | 4 => ("LeakyLineModel", "moved", "[J", true)
  | 5 => ("LeakyLineModel", "tape", "[B", true)
  | 6 => ("LeakyLineModel", "taped", "I", false)
  | 7 => ("LeakyLineModel", "spot", "I", false)
  | 8 => ("LeakyLineModel", "token", "I", false)
  | 9 => ("LeakyLineModel", "place", "I", false)
  | 10 => ("LeakyLineModel", "value", "I", false)
  | 11 => ("LeakyLineModel", "word", "J", false)
  | 12 => ("LeakyLineModel", "bad", "I", false)
  | 13 => ("LeakyLineModel", "badPlace", "I", false)
  | 14 => ("LeakyLineModel", "fault", "I", false)
  | 15 => ("LeakyLineModel", "faultPlace", "I", false)
  | 16 => ("LeakyLineModel", "lines", "[I", true)
  | 17 => ("LeakyLineModel", "has", "[I", true)
  | 18 => ("LeakyLineModel", "spanOf", "[I", true)
  | 19 => ("LeakyLineModel", "wetOf", "[I", true)
  | 20 => ("LeakyLineModel", "act", "[I", true)
  | 21 => ("LeakyLineModel", "isKept", "[Z", true)
  | 22 => ("LeakyLineModel", "law", "I", false)
  | 23 => ("LeakyLineModel", "wet", "I", false)
  | 24 => ("LeakyLineModel", "cupped", "I", false)
  | 25 => ("LeakyLineModel", "gone", "I", false)
  | 26 => ("LeakyLineModel", "battery0", "I", false)
  | 27 => ("LeakyLineModel", "ohmsTold", "[I", true)
  | 28 => ("LeakyLineModel", "leakTold", "[I", true)
  | 29 => ("LeakyLineModel", "joins", "I", false)
  | 30 => ("LeakyLineModel", "part0", "[J", true)
  | 31 => ("LeakyLineModel", "flow", "[J", true)
  | 32 => ("LeakyLineModel", "batteryPart", "J", false)
  | 33 => ("LeakyLineModel", "seenBits", "I", false)
  | 34 => ("LeakyLineModel", "askBest", "I", false)
  | 35 => ("LeakyLineModel", "askLeaves", "I", false)
  | 36 => ("LeakyLineModel", "aboveAt", "[J", true)
  | _ => ("LeakyLineModel", "belowAt", "[J", true)
def tyX9 : Nat → FieldType := fun k => match k with
  | 0 => .int
  | 1 => .array .int
  | 2 => .array .int
  | 3 => .array .long
  | 4 => .array .long
  | 5 => .array .byte
  | 6 => .int
  | 7 => .int
  | 8 => .int
  | 9 => .int
  | 10 => .int
  | 11 => .long
  | 12 => .int
  | 13 => .int
  | 14 => .int
  | 15 => .int
  | 16 => .array .int
  | 17 => .array .int
  | 18 => .array .int
  | 19 => .array .int
  | 20 => .array .int
  | 21 => .array .boolean
  | 22 => .int
  | 23 => .int
  | 24 => .int
  | 25 => .int
  | 26 => .int
  | 27 => .array .int
  | 28 => .array .int
  | 29 => .int
  | 30 => .array .long
  | 31 => .array .long
  | 32 => .long
  | 33 => .int
  | 34 => .int
  | 35 => .int
  | 36 => .array .long
  | _ => .array .long
theorem nmX9 : ∀ a, a < 38 → ∀ b, b < 38 → a ≠ b → (TX9 a).2.1 ≠ (TX9 b).2.1 := by decide +kernel
theorem tyX9_ok : ∀ k, k < 38 → parseFieldDescriptor (TX9 k).2.2.1 = some (tyX9 k) := by decide +kernel
def RJx145de : String := "java/io/Serializable"
def RJx9f9b0 : String := "java/lang/CharSequence"
def RJxb160c : String := "java/lang/Comparable"
def RJ6 : String := "java/lang/Integer"
def RJ9 : String := "java/lang/Math"
def RJ0 : String := "java/lang/String"
def RJ1 : String := "java/lang/StringLatin1"
def RJ2 : String := "java/lang/StringUTF16"
def RJ10 : String := "java/lang/System"
def RJxfd54e : String := "java/lang/constant/Constable"
def RJx3cf43 : String := "java/lang/constant/ConstantDesc"
def RJ7 : String := "java/util/Arrays"
def RJ3 : String := "jdk/internal/util/Preconditions"
abbrev vwCl : List vw_C := [(RX0, TX0, 2), (RX1, TX1, 5), (RX2, TX2, 17), (RX3, TX3, 3), (RX4, TX4, 6), (RX5, TX5, 2), (RX6, TX6, 5), (RX7, TX7, 4), (RX8, TX8, 16), (RX9, TX9, 38)]
theorem iX0 : ∀ w ∈ u_ws RX0 TX0 2, w ∈ lw_ok := fun w h => List.mem_filter.mpr ⟨(by decide +kernel : ∀ w ∈ u_ws RX0 TX0 2, w ∈ lw_tbl) w h, List.all_eq_true.mp (by decide +kernel : (u_ws RX0 TX0 2).all goodWord = true) w h⟩
theorem dvX0 : ∀ j, j < 2 → defaultValue (tyX0 j) = vp_V [.long 0, .long 0] j := by
  intro j hj
  rcases (show j = 0 ∨ j = 1 by omega) with rfl | rfl <;> rfl
theorem iX1 : ∀ w ∈ u_ws RX1 TX1 5, w ∈ lw_ok := fun w h => List.mem_filter.mpr ⟨(by decide +kernel : ∀ w ∈ u_ws RX1 TX1 5, w ∈ lw_tbl) w h, List.all_eq_true.mp (by decide +kernel : (u_ws RX1 TX1 5).all goodWord = true) w h⟩
theorem dvX1 : ∀ j, j < 5 → defaultValue (tyX1 j) = vp_V [.int 0, .long 0, .null, .null, .null] j := by
  intro j hj
  rcases (show j = 0 ∨ j = 1 ∨ j = 2 ∨ j = 3 ∨ j = 4 by omega) with rfl | rfl | rfl | rfl | rfl <;> rfl
theorem iX2 : ∀ w ∈ u_ws RX2 TX2 17, w ∈ lw_ok := fun w h => List.mem_filter.mpr ⟨(by decide +kernel : ∀ w ∈ u_ws RX2 TX2 17, w ∈ lw_tbl) w h, List.all_eq_true.mp (by decide +kernel : (u_ws RX2 TX2 17).all goodWord = true) w h⟩
theorem dvX2 : ∀ j, j < 17 → defaultValue (tyX2 j) = vp_V [.int 0, .int 0, .int 0, .int 0, .int 0, .int 0, .int 0, .int 0, .int 0, .null, .null, .null, .null, .null, .null, .null, .null] j := by
  intro j hj
  rcases (show j = 0 ∨ j = 1 ∨ j = 2 ∨ j = 3 ∨ j = 4 ∨ j = 5 ∨ j = 6 ∨ j = 7 ∨ j = 8 ∨ j = 9 ∨ j = 10 ∨ j = 11 ∨ j = 12 ∨ j = 13 ∨ j = 14 ∨ j = 15 ∨ j = 16 by omega) with rfl | rfl | rfl | rfl | rfl | rfl | rfl | rfl | rfl | rfl | rfl | rfl | rfl | rfl | rfl | rfl | rfl <;> rfl
theorem iX3 : ∀ w ∈ u_ws RX3 TX3 3, w ∈ lw_ok := fun w h => List.mem_filter.mpr ⟨(by decide +kernel : ∀ w ∈ u_ws RX3 TX3 3, w ∈ lw_tbl) w h, List.all_eq_true.mp (by decide +kernel : (u_ws RX3 TX3 3).all goodWord = true) w h⟩
theorem dvX3 : ∀ j, j < 3 → defaultValue (tyX3 j) = vp_V [.null, .null, .null] j := by
  intro j hj
  rcases (show j = 0 ∨ j = 1 ∨ j = 2 by omega) with rfl | rfl | rfl <;> rfl
theorem iX4 : ∀ w ∈ u_ws RX4 TX4 6, w ∈ lw_ok := fun w h => List.mem_filter.mpr ⟨(by decide +kernel : ∀ w ∈ u_ws RX4 TX4 6, w ∈ lw_tbl) w h, List.all_eq_true.mp (by decide +kernel : (u_ws RX4 TX4 6).all goodWord = true) w h⟩
theorem dvX4 : ∀ j, j < 6 → defaultValue (tyX4 j) = vp_V [.int 0, .int 0, .int 0, .int 0, .null, .null] j := by
  intro j hj
  rcases (show j = 0 ∨ j = 1 ∨ j = 2 ∨ j = 3 ∨ j = 4 ∨ j = 5 by omega) with rfl | rfl | rfl | rfl | rfl | rfl <;> rfl
theorem iX5 : ∀ w ∈ u_ws RX5 TX5 2, w ∈ lw_ok := fun w h => List.mem_filter.mpr ⟨(by decide +kernel : ∀ w ∈ u_ws RX5 TX5 2, w ∈ lw_tbl) w h, List.all_eq_true.mp (by decide +kernel : (u_ws RX5 TX5 2).all goodWord = true) w h⟩
theorem dvX5 : ∀ j, j < 2 → defaultValue (tyX5 j) = vp_V [.null, .int 0] j := by
  intro j hj
  rcases (show j = 0 ∨ j = 1 by omega) with rfl | rfl <;> rfl
theorem iX6 : ∀ w ∈ u_ws RX6 TX6 5, w ∈ lw_ok := fun w h => List.mem_filter.mpr ⟨(by decide +kernel : ∀ w ∈ u_ws RX6 TX6 5, w ∈ lw_tbl) w h, List.all_eq_true.mp (by decide +kernel : (u_ws RX6 TX6 5).all goodWord = true) w h⟩
theorem dvX6 : ∀ j, j < 5 → defaultValue (tyX6 j) = vp_V [.int 0, .int 0, .int 0, .int 0, .int 0] j := by
  intro j hj
  rcases (show j = 0 ∨ j = 1 ∨ j = 2 ∨ j = 3 ∨ j = 4 by omega) with rfl | rfl | rfl | rfl | rfl <;> rfl
theorem iX7 : ∀ w ∈ u_ws RX7 TX7 4, w ∈ lw_ok := fun w h => List.mem_filter.mpr ⟨(by decide +kernel : ∀ w ∈ u_ws RX7 TX7 4, w ∈ lw_tbl) w h, List.all_eq_true.mp (by decide +kernel : (u_ws RX7 TX7 4).all goodWord = true) w h⟩
theorem dvX7 : ∀ j, j < 4 → defaultValue (tyX7 j) = vp_V [.null, .null, .null, .int 0] j := by
  intro j hj
  rcases (show j = 0 ∨ j = 1 ∨ j = 2 ∨ j = 3 by omega) with rfl | rfl | rfl | rfl <;> rfl
theorem iX8 : ∀ w ∈ u_ws RX8 TX8 16, w ∈ lw_ok := fun w h => List.mem_filter.mpr ⟨(by decide +kernel : ∀ w ∈ u_ws RX8 TX8 16, w ∈ lw_tbl) w h, List.all_eq_true.mp (by decide +kernel : (u_ws RX8 TX8 16).all goodWord = true) w h⟩
theorem dvX8 : ∀ j, j < 16 → defaultValue (tyX8 j) = vp_V [.null, .null, .null, .null, .null, .null, .null, .null, .null, .null, .null, .null, .null, .null, .int 0, .int 0] j := by
  intro j hj
  rcases (show j = 0 ∨ j = 1 ∨ j = 2 ∨ j = 3 ∨ j = 4 ∨ j = 5 ∨ j = 6 ∨ j = 7 ∨ j = 8 ∨ j = 9 ∨ j = 10 ∨ j = 11 ∨ j = 12 ∨ j = 13 ∨ j = 14 ∨ j = 15 by omega) with rfl | rfl | rfl | rfl | rfl | rfl | rfl | rfl | rfl | rfl | rfl | rfl | rfl | rfl | rfl | rfl <;> rfl
theorem iX9 : ∀ w ∈ u_ws RX9 TX9 38, w ∈ lw_ok := fun w h => List.mem_filter.mpr ⟨(by decide +kernel : ∀ w ∈ u_ws RX9 TX9 38, w ∈ lw_tbl) w h, List.all_eq_true.mp (by decide +kernel : (u_ws RX9 TX9 38).all goodWord = true) w h⟩
theorem dvX9 : ∀ j, j < 38 → defaultValue (tyX9 j) = vp_V [.int 0, .null, .null, .null, .null, .null, .int 0, .int 0, .int 0, .int 0, .int 0, .long 0, .int 0, .int 0, .int 0, .int 0, .null, .null, .null, .null, .null, .null, .int 0, .int 0, .int 0, .int 0, .int 0, .null, .null, .int 0, .null, .null, .long 0, .int 0, .int 0, .int 0, .null, .null] j := by
  intro j hj
  rcases (show j = 0 ∨ j = 1 ∨ j = 2 ∨ j = 3 ∨ j = 4 ∨ j = 5 ∨ j = 6 ∨ j = 7 ∨ j = 8 ∨ j = 9 ∨ j = 10 ∨ j = 11 ∨ j = 12 ∨ j = 13 ∨ j = 14 ∨ j = 15 ∨ j = 16 ∨ j = 17 ∨ j = 18 ∨ j = 19 ∨ j = 20 ∨ j = 21 ∨ j = 22 ∨ j = 23 ∨ j = 24 ∨ j = 25 ∨ j = 26 ∨ j = 27 ∨ j = 28 ∨ j = 29 ∨ j = 30 ∨ j = 31 ∨ j = 32 ∨ j = 33 ∨ j = 34 ∨ j = 35 ∨ j = 36 ∨ j = 37 by omega) with rfl | rfl | rfl | rfl | rfl | rfl | rfl | rfl | rfl | rfl | rfl | rfl | rfl | rfl | rfl | rfl | rfl | rfl | rfl | rfl | rfl | rfl | rfl | rfl | rfl | rfl | rfl | rfl | rfl | rfl | rfl | rfl | rfl | rfl | rfl | rfl | rfl | rfl <;> rfl
-- ===== helper rows: all tables' words at once, array classes, empty worlds =====
theorem lw_gd {w : Cond} (h : w ∈ lw_ok) : w ∈ lw_ok ∧ ((w.onTables && w.keeps) = true ∨ ∃ ty, w = .arrayClass ty) := ⟨h, good_of_word (List.mem_filter.mp h).2⟩
abbrev wy (y : MethodName) (b : ByteArray) (n : Nat) (r : Option FieldType) : List Cond := Cond.code y b n r :: lw_ok
theorem gy {y : MethodName} {b : ByteArray} {n : Nat} {r : Option FieldType} (h : Cond.code y b n r ∈ lw_ok) : GoodIn lw_ok (wy y b n r) := fun w hw => by
  rcases List.mem_cons.mp hw with e | hw
  · rw [e]; exact lw_gd h
  · exact lw_gd hw
theorem gV {own C : String} {idx : Nat} {y : MethodName} {b : ByteArray} {n : Nat} {r : Option FieldType} (h1 : Cond.methodLink own idx y ∈ lw_ok) (h2 : Cond.instanceMethod y ∈ lw_ok) (h3 : Cond.selects C y y ∈ lw_ok) (h4 : Cond.initialized C ∈ lw_ok) (h5 : Cond.code y b n r ∈ lw_ok) : GoodIn lw_ok (wsV own idx C y (wy y b n r)) := by
  intro w hw
  unfold wsV at hw
  rcases List.mem_append.mp hw with hw | hw
  · rcases List.mem_cons.mp hw with e | hw
    · rw [e]; exact lw_gd h1
    rcases List.mem_cons.mp hw with e | hw
    · rw [e]; exact lw_gd h2
    rcases List.mem_cons.mp hw with e | hw
    · rw [e]; exact lw_gd h3
    rcases List.mem_cons.mp hw with e | hw
    · rw [e]; exact lw_gd h4
    · exact absurd hw List.not_mem_nil
  · exact gy h5 w hw
theorem gS {own : String} {idx : Nat} {y : MethodName} {b : ByteArray} {n : Nat} {r : Option FieldType} (h1 : Cond.methodLink own idx y ∈ lw_ok) (h2 : Cond.static y ∈ lw_ok) (h4 : Cond.initialized own ∈ lw_ok) (h5 : Cond.code y b n r ∈ lw_ok) : GoodIn lw_ok (wsS own idx y (wy y b n r)) := by
  intro w hw
  unfold wsS at hw
  rcases List.mem_append.mp hw with hw | hw
  · rcases List.mem_cons.mp hw with e | hw
    · rw [e]; exact lw_gd h1
    rcases List.mem_cons.mp hw with e | hw
    · rw [e]; exact lw_gd h2
    rcases List.mem_cons.mp hw with e | hw
    · rw [e]; exact lw_gd h4
    · exact absurd hw List.not_mem_nil
  · exact gy h5 w hw
theorem gQ {own : String} {idx : Nat} {y : MethodName} {b : ByteArray} {n : Nat} {r : Option FieldType} (h1 : Cond.methodLink own idx y ∈ lw_ok) (h2 : Cond.static y ∈ lw_ok) (h4 : Cond.initialized y.cls ∈ lw_ok) (h5 : Cond.code y b n r ∈ lw_ok) : GoodIn lw_ok (va_wsS own idx y (wy y b n r)) := by
  intro w hw
  unfold va_wsS at hw
  rcases List.mem_append.mp hw with hw | hw
  · rcases List.mem_cons.mp hw with e | hw
    · rw [e]; exact lw_gd h1
    rcases List.mem_cons.mp hw with e | hw
    · rw [e]; exact lw_gd h2
    rcases List.mem_cons.mp hw with e | hw
    · rw [e]; exact lw_gd h4
    · exact absurd hw List.not_mem_nil
  · exact gy h5 w hw
abbrev tyL (cB cI cJ cZ cL : ClassId) : List (ClassId × FieldType) := [(cB, .byte), (cI, .int), (cJ, .long), (cZ, .boolean), (cL, .object "LeakyLine$Line")]
theorem tyB_one {D : va_G} {cl : List vw_C} {cB cI cJ cZ cL cA : ClassId} {s : State} (h : va_K D cl (tyL cB cI cJ cZ cL ++ [(cA, .byte)]) s) : cB = cA := by
  have h1 : s.vm.findClass _ = some cA := (h.2 5 _ rfl).2
  have h2 : s.vm.findClass _ = some cB := (h.2 0 _ rfl).2
  exact Option.some.inj (h2.symm.trans h1)
theorem tyI_one {D : va_G} {cl : List vw_C} {cB cI cJ cZ cL cA : ClassId} {s : State} (h : va_K D cl (tyL cB cI cJ cZ cL ++ [(cA, .int)]) s) : cI = cA := by
  have h1 : s.vm.findClass _ = some cA := (h.2 5 _ rfl).2
  have h2 : s.vm.findClass _ = some cI := (h.2 1 _ rfl).2
  exact Option.some.inj (h2.symm.trans h1)
theorem tyJ_one {D : va_G} {cl : List vw_C} {cB cI cJ cZ cL cA : ClassId} {s : State} (h : va_K D cl (tyL cB cI cJ cZ cL ++ [(cA, .long)]) s) : cJ = cA := by
  have h1 : s.vm.findClass _ = some cA := (h.2 5 _ rfl).2
  have h2 : s.vm.findClass _ = some cJ := (h.2 2 _ rfl).2
  exact Option.some.inj (h2.symm.trans h1)
theorem tyZ_one {D : va_G} {cl : List vw_C} {cB cI cJ cZ cL cA : ClassId} {s : State} (h : va_K D cl (tyL cB cI cJ cZ cL ++ [(cA, .boolean)]) s) : cZ = cA := by
  have h1 : s.vm.findClass _ = some cA := (h.2 5 _ rfl).2
  have h2 : s.vm.findClass _ = some cZ := (h.2 3 _ rfl).2
  exact Option.some.inj (h2.symm.trans h1)
theorem tyO_one {D : va_G} {cl : List vw_C} {cB cI cJ cZ cL cA : ClassId} {s : State} (h : va_K D cl (tyL cB cI cJ cZ cL ++ [(cA, .object "LeakyLine$Line")]) s) : cL = cA := by
  obtain ⟨_, _, _, _, _, h1⟩ := (h.2 5 _ rfl).2
  obtain ⟨_, _, _, _, _, h2⟩ := (h.2 4 _ rfl).2
  exact Option.some.inj (h2.symm.trans h1)
theorem P_nil {D : va_G} {cl : List vw_C} {H : Heap} : va_P D cl [] H := fun k q h => by simp at h
theorem D_nil {A : Nat → Prop} : va_D A [] := ⟨fun i j p q h => by simp at h, fun k q h => by simp at h⟩
theorem i_lt {x y : Int32} : x < y ↔ x.toInt < y.toInt := Int32.lt_iff_toInt_lt
theorem i_le {x y : Int32} : x ≤ y ↔ x.toInt ≤ y.toInt := Int32.le_iff_toInt_le
theorem i_eq {x y : Int32} : x = y ↔ x.toInt = y.toInt := ⟨fun h => by rw [h], fun h => Int32.toInt_inj.mp h⟩
theorem vin {x : Int32} {n : Nat} (h1 : ¬ x < 0) (h2 : x.toInt < n) : vp_in x n := vp_in_iff.mpr ⟨by
  have := Int32.not_lt.mp h1
  have h := Int32.le_iff_toInt_le.mp this
  simpa using h, h2⟩
theorem l_lt {x y : Int64} : x < y ↔ x.toInt < y.toInt := Int64.lt_iff_toInt_lt
theorem l_le {x y : Int64} : x ≤ y ↔ x.toInt ≤ y.toInt := Int64.le_iff_toInt_le
theorem l_wd (x : Int32) : x.toInt64.toInt = x.toInt := by simp
theorem T0 : (0 : Int32).toInt = 0 := by decide
theorem T1 : (1 : Int32).toInt = 1 := by decide
theorem T2 : (2 : Int32).toInt = 2 := by decide
theorem T3 : (3 : Int32).toInt = 3 := by decide
theorem T4 : (4 : Int32).toInt = 4 := by decide
theorem T5 : (5 : Int32).toInt = 5 := by decide
theorem T6 : (6 : Int32).toInt = 6 := by decide
theorem T7 : (7 : Int32).toInt = 7 := by decide
theorem T8 : (8 : Int32).toInt = 8 := by decide
theorem T9 : (9 : Int32).toInt = 9 := by decide
theorem T240 : (240 : Int32).toInt = 240 := by decide
theorem T60 : (60 : Int32).toInt = 60 := by decide
theorem Tm1 : (-1 : Int32).toInt = -1 := by decide
theorem L0 : (0 : Int64).toInt = 0 := by decide
theorem L1 : (1 : Int64).toInt = 1 := by decide
theorem L2 : (2 : Int64).toInt = 2 := by decide
theorem L3 : (3 : Int64).toInt = 3 := by decide
theorem L6 : (6 : Int64).toInt = 6 := by decide
theorem Lm1 : (-1 : Int64).toInt = -1 := by decide
theorem L20 : (20 : Int64).toInt = 20 := by decide
theorem L60 : (60 : Int64).toInt = 60 := by decide
theorem L2e9 : (2000000000 : Int64).toInt = 2000000000 := by decide
theorem fbS {D : va_G} {cl : List vw_C} {ws : va_W} {tys : List (ClassId × FieldType)} {av : List Value} : FrameBlind (va_Pc av (fun U => va_P D cl ws U.heap ∧ va_K D cl tys U)) := fun a U g mk q => by
  obtain ⟨q0, qP, qK⟩ := q
  exact ⟨q0, qP, va_K.moved (u := U) (U := U.calling g mk a) (Vm.Alike.refl U.vm) qK⟩
theorem fbQ {D : va_G} {cl : List vw_C} {ws : va_W} {tys : List (ClassId × FieldType)} {av : List Value} {sz : Nat} : FrameBlind (va_Pc av (fun U => U.heap.size = sz ∧ va_P D cl ws U.heap ∧ va_K D cl tys U ∧ va_D (fun _ => True) ws)) := fun a U g mk q => by
  obtain ⟨q0, q1, qP, qK, qD⟩ := q
  exact ⟨q0, q1, qP, va_K.moved (u := U) (U := U.calling g mk a) (Vm.Alike.refl U.vm) qK, qD⟩
theorem pSS {D : va_G} {cl : List vw_C} {ws : va_W} {tys : List (ClassId × FieldType)} {As : List Value} {s : State} {H : Heap} (hK : va_K D cl tys s) (hP : va_P D cl ws H) : PreS s H (va_Pc As (fun U => va_P D cl ws U.heap ∧ va_K D cl tys U)) As := ⟨fbS, fun U hU hW => ⟨rfl, by rw [hU]; exact hP, va_K.moved hW.alike hK⟩⟩
theorem pVS {D : va_G} {cl : List vw_C} {ws : va_W} {tys : List (ClassId × FieldType)} {As : List Value} {s : State} {H : Heap} {a q0 ci : Nat} {fs : List Value} {r : vw_C} (hK : va_K D cl tys s) (hP : va_P D cl ws H) (hc : cl[ci]? = some r) (he : ws[q0]? = some (a, .inr (ci, fs))) : PreV s H r.1 a (va_Pc (.ref a :: As) (fun U => va_P D cl ws U.heap ∧ va_K D cl tys U)) As := ⟨fbS, va_recv hK hP hc he, fun U hU hW => ⟨rfl, by rw [hU]; exact hP, va_K.moved hW.alike hK⟩⟩
theorem pSQ {D : va_G} {cl : List vw_C} {ws : va_W} {tys : List (ClassId × FieldType)} {As : List Value} {s : State} {H : Heap} {A : Nat → Prop} (hK : va_K D cl tys s) (hP : va_P D cl ws H) (hD : va_D A ws) : PreS s H (va_Pc As (fun U => U.heap.size = H.size ∧ va_P D cl ws U.heap ∧ va_K D cl tys U ∧ va_D (fun _ => True) ws)) As := ⟨fbQ, fun U hU hW => ⟨rfl, by rw [hU], by rw [hU]; exact hP, va_K.moved hW.alike hK, hD.weaken (fun _ _ _ _ => trivial)⟩⟩
theorem pVQ {D : va_G} {cl : List vw_C} {ws : va_W} {tys : List (ClassId × FieldType)} {As : List Value} {s : State} {H : Heap} {A : Nat → Prop} {a q0 ci : Nat} {fs : List Value} {r : vw_C} (hK : va_K D cl tys s) (hP : va_P D cl ws H) (hD : va_D A ws) (hc : cl[ci]? = some r) (he : ws[q0]? = some (a, .inr (ci, fs))) : PreV s H r.1 a (va_Pc (.ref a :: As) (fun U => U.heap.size = H.size ∧ va_P D cl ws U.heap ∧ va_K D cl tys U ∧ va_D (fun _ => True) ws)) As := ⟨fbQ, va_recv hK hP hc he, fun U hU hW => ⟨rfl, by rw [hU], by rw [hU]; exact hP, va_K.moved hW.alike hK, hD.weaken (fun _ _ _ _ => trivial)⟩⟩
theorem z_updI (k : Nat) : upd (fun _ => 0) k 0 = (fun _ => 0) := by funext j; simp [upd]
theorem z_updB (k : Nat) : upd (fun _ => 0) k (vp_nar .byte 0) = (fun _ => 0) := by
  have e : vp_nar .byte 0 = 0 := by decide
  rw [e]; exact z_updI k
theorem z_updZ (k : Nat) : upd (fun _ => 0) k (vp_nar .boolean 0) = (fun _ => 0) := by
  have e : vp_nar .boolean 0 = 0 := by decide
  rw [e]; exact z_updI k
theorem z_updJ (k : Nat) : vp_updL (fun _ => 0) k 0 = (fun _ => 0) := by funext j; simp [vp_updL]
theorem z_cpy (a b n : Nat) : va_cpy (fun _ => (0 : Int32)) (fun _ => 0) a b n = (fun _ => 0) := by funext j; simp [va_cpy]
def PEnd (n : Int) (r : Int32) : Prop := (r = 0 ∧ n = 0) ∨ (r = -1 ∧ ¬ n = 0)
theorem PEnd_fn {n : Int} {r1 r2 : Int32} (h1 : PEnd n r1) (h2 : PEnd n r2) : r1 = r2 := by
  rcases h1 with ⟨a, b⟩ | ⟨a, b⟩ <;> rcases h2 with ⟨c, d⟩ | ⟨c, d⟩ <;> first | (rw [a, c]; done) | (exfalso; omega)
def PCnt (n : Int) (r : Int32) : Prop := (r = 0 ∧ (0 ≤ n ∧ n ≤ 9)) ∨ (r = -1 ∧ ¬ (0 ≤ n ∧ n ≤ 9))
theorem PCnt_fn {n : Int} {r1 r2 : Int32} (h1 : PCnt n r1) (h2 : PCnt n r2) : r1 = r2 := by
  rcases h1 with ⟨a, b⟩ | ⟨a, b⟩ <;> rcases h2 with ⟨c, d⟩ | ⟨c, d⟩ <;> first | (rw [a, c]; done) | (exfalso; omega)
def PImg (n : Int) (r : Int32) : Prop := (r = 0 ∧ (0 ≤ n ∧ n ≤ 2)) ∨ (r = -2 ∧ ¬ (0 ≤ n ∧ n ≤ 2))
theorem PImg_fn {n : Int} {r1 r2 : Int32} (h1 : PImg n r1) (h2 : PImg n r2) : r1 = r2 := by
  rcases h1 with ⟨a, b⟩ | ⟨a, b⟩ <;> rcases h2 with ⟨c, d⟩ | ⟨c, d⟩ <;> first | (rw [a, c]; done) | (exfalso; omega)
def PBck (n : Int) (r : Int32) : Prop := (r = -6 ∧ (0 ≤ n ∧ n ≤ 2)) ∨ (r = -2 ∧ ¬ (0 ≤ n ∧ n ≤ 2))
theorem PBck_fn {n : Int} {r1 r2 : Int32} (h1 : PBck n r1) (h2 : PBck n r2) : r1 = r2 := by
  rcases h1 with ⟨a, b⟩ | ⟨a, b⟩ <;> rcases h2 with ⟨c, d⟩ | ⟨c, d⟩ <;> first | (rw [a, c]; done) | (exfalso; omega)
def PWri (n : Int) (r : Int32) : Prop := (r = -6 ∧ (0 ≤ n ∧ n ≤ 3)) ∨ (r = -2 ∧ ¬ (0 ≤ n ∧ n ≤ 3))
theorem PWri_fn {n : Int} {r1 r2 : Int32} (h1 : PWri n r1) (h2 : PWri n r2) : r1 = r2 := by
  rcases h1 with ⟨a, b⟩ | ⟨a, b⟩ <;> rcases h2 with ⟨c, d⟩ | ⟨c, d⟩ <;> first | (rw [a, c]; done) | (exfalso; omega)
def PPas (n k : Int) (r : Int32) : Prop := (r = -6 ∧ (0 ≤ n ∧ n ≤ 3 ∧ 0 ≤ k ∧ k ≤ 3)) ∨ (r = -2 ∧ ¬ (0 ≤ n ∧ n ≤ 3 ∧ 0 ≤ k ∧ k ≤ 3))
theorem PPas_fn {n k : Int} {r1 r2 : Int32} (h1 : PPas n k r1) (h2 : PPas n k r2) : r1 = r2 := by
  rcases h1 with ⟨a, b⟩ | ⟨a, b⟩ <;> rcases h2 with ⟨c, d⟩ | ⟨c, d⟩ <;> first | (rw [a, c]; done) | (exfalso; omega)
def PRow (s w n : Int) (r : Int32) : Prop := (r = -2 ∧ (s < 0 ∨ 3 < s ∨ w < 0 ∨ 3 < w ∨ 60 < n)) ∨ (r = -3 ∧ (¬ (s < 0 ∨ 3 < s ∨ w < 0 ∨ 3 < w ∨ 60 < n) ∧ n < 0)) ∨ (r = 0 ∧ (¬ (s < 0 ∨ 3 < s ∨ w < 0 ∨ 3 < w ∨ 60 < n) ∧ 0 ≤ n))
theorem PRow_fn {s w n : Int} {r1 r2 : Int32} (h1 : PRow s w n r1) (h2 : PRow s w n r2) : r1 = r2 := by
  rcases h1 with ⟨a, b⟩ | ⟨a, b⟩ | ⟨a, b⟩ <;> rcases h2 with ⟨c, d⟩ | ⟨c, d⟩ | ⟨c, d⟩ <;> first | (rw [a, c]; done) | (exfalso; omega)
-- ===== numbers as whole numbers, for omega =====
theorem l_eq {x y : Int64} : x = y ↔ x.toInt = y.toInt := ⟨fun h => by rw [h], fun h => Int64.toInt_inj.mp h⟩
theorem rgI (x : Int32) : -2147483648 ≤ x.toInt ∧ x.toInt < 2147483648 := ⟨Int32.le_toInt x, Int32.toInt_lt x⟩
theorem bmI {z : Int} (h1 : -2147483648 ≤ z) (h2 : z < 2147483648) : z.bmod (2 ^ 32) = z := Int.bmod_eq_of_le (by omega) (by omega)
theorem bmL {z : Int} (h1 : -9223372036854775808 ≤ z) (h2 : z < 9223372036854775808) : z.bmod (2 ^ 64) = z := Int.bmod_eq_of_le (by omega) (by omega)
theorem iaddF {z x y : Int32} (h : z = x + y) : (-2147483648 ≤ x.toInt + y.toInt ∧ x.toInt + y.toInt < 2147483648) → z.toInt = x.toInt + y.toInt := fun hb => by
  rw [h, Int32.toInt_add]; exact bmI hb.1 hb.2
theorem isubF {z x y : Int32} (h : z = x - y) : (-2147483648 ≤ x.toInt - y.toInt ∧ x.toInt - y.toInt < 2147483648) → z.toInt = x.toInt - y.toInt := fun hb => by
  rw [h, Int32.toInt_sub]; exact bmI hb.1 hb.2
theorem imulF {z x y : Int32} (h : z = x * y) : (-2147483648 ≤ x.toInt * y.toInt ∧ x.toInt * y.toInt < 2147483648) → z.toInt = x.toInt * y.toInt := fun hb => by
  rw [h, Int32.toInt_mul]; exact bmI hb.1 hb.2
theorem laddF {z x y : Int64} (h : z = x + y) : (-9223372036854775808 ≤ x.toInt + y.toInt ∧ x.toInt + y.toInt < 9223372036854775808) → z.toInt = x.toInt + y.toInt := fun hb => by
  rw [h, Int64.toInt_add]; exact bmL hb.1 hb.2
theorem lsubF {z x y : Int64} (h : z = x - y) : (-9223372036854775808 ≤ x.toInt - y.toInt ∧ x.toInt - y.toInt < 9223372036854775808) → z.toInt = x.toInt - y.toInt := fun hb => by
  rw [h, Int64.toInt_sub]; exact bmL hb.1 hb.2
theorem i2lF {z : Int64} {x : Int32} (h : z = x.toInt64) : z.toInt = x.toInt := by rw [h]; exact l_wd x
theorem mmaxF {z x y : Int32} (h : z = if x < y then y else x) : x.toInt ≤ z.toInt ∧ y.toInt ≤ z.toInt ∧ (z.toInt = x.toInt ∨ z.toInt = y.toInt) := by
  by_cases hc : x < y
  · rw [if_pos hc] at h; rw [i_lt] at hc; subst h; omega
  · rw [if_neg hc] at h; rw [i_lt] at hc; subst h; omega
theorem mminF {z x y : Int32} (h : z = if y < x then y else x) : z.toInt ≤ x.toInt ∧ z.toInt ≤ y.toInt ∧ (z.toInt = x.toInt ∨ z.toInt = y.toInt) := by
  by_cases hc : y < x
  · rw [if_pos hc] at h; rw [i_lt] at hc; subst h; omega
  · rw [if_neg hc] at h; rw [i_lt] at hc; subst h; omega
theorem iandF {z x m : Int32} (h : z = x &&& m) (hm : 0 ≤ m.toInt) : 0 ≤ z.toInt ∧ z.toInt ≤ m.toInt := by
  have e : z.toBitVec.toNat = x.toBitVec.toNat &&& m.toBitVec.toNat := by rw [h]; simp
  have hle : z.toBitVec.toNat ≤ m.toBitVec.toNat := by rw [e]; exact Nat.and_le_right
  have hm2 : m.toInt = (m.toBitVec.toNat : Int) := by
    have h1 : m.toInt = m.toBitVec.toInt := rfl
    rw [h1] at hm ⊢
    rw [BitVec.toInt_eq_toNat_cond] at hm ⊢
    split at hm <;> rename_i hc
    · rw [if_pos hc]
    · have := m.toBitVec.isLt; omega
  have hlt : 2 * z.toBitVec.toNat < 2 ^ 32 := by
    have h1 : m.toInt < 2147483648 := Int32.toInt_lt m
    omega
  have hz : z.toInt = (z.toBitVec.toNat : Int) := by
    have h1 : z.toInt = z.toBitVec.toInt := rfl
    rw [h1, BitVec.toInt_eq_toNat_cond, if_pos hlt]
  omega
theorem shl1F {z x : Int32} (h : z = 1 <<< (x &&& 31)) : (0 ≤ x.toInt ∧ x.toInt ≤ 8) → (1 ≤ z.toInt ∧ z.toInt ≤ 256 ∧ (x.toInt ≤ 5 → z.toInt ≤ 32) ∧ (x.toInt ≤ 4 → z.toInt ≤ 16)) := fun hb => by
  have hx : x = 0 ∨ x = 1 ∨ x = 2 ∨ x = 3 ∨ x = 4 ∨ x = 5 ∨ x = 6 ∨ x = 7 ∨ x = 8 := by
    simp only [i_eq, T0, T1, T2, T3, T4, T5, T6, T7, T8]; omega
  rcases hx with rfl | rfl | rfl | rfl | rfl | rfl | rfl | rfl | rfl <;> subst h <;> decide
theorem andN {n : Nat} {z : Int32} (h : z.toBitVec.toNat = n) (hn : n < 2147483648) : z.toInt = (n : Int) := by
  have h1 : z.toInt = z.toBitVec.toInt := rfl
  rw [h1, BitVec.toInt_eq_toNat_cond, h, if_pos (by omega)]
theorem posN {x : Int32} (h0 : 0 ≤ x.toInt) : x.toInt = (x.toBitVec.toNat : Int) := by
  have h1 : x.toInt = x.toBitVec.toInt := rfl
  rw [h1] at h0 ⊢
  rw [BitVec.toInt_eq_toNat_cond] at h0 ⊢
  split at h0 <;> rename_i hc
  · rw [if_pos hc]
  · have := x.toBitVec.isLt; omega
theorem iorF {z x y : Int32} (h : z = x ||| y) : (0 ≤ x.toInt ∧ x.toInt < 32 ∧ 0 ≤ y.toInt ∧ y.toInt < 32) → (0 ≤ z.toInt ∧ z.toInt < 32) := fun hb => by
  have ex := posN hb.1
  have ey := posN hb.2.2.1
  have e : z.toBitVec.toNat = x.toBitVec.toNat ||| y.toBitVec.toNat := by rw [h]; simp
  have hlt : x.toBitVec.toNat ||| y.toBitVec.toNat < 2 ^ 5 := Nat.or_lt_two_pow (by omega) (by omega)
  have hz := andN e (by omega)
  omega
