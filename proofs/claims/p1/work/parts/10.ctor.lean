/-! ===== BEGIN words of one list among another's, by their places ===== -/
theorem goodIn_r {big : List Cond} (ws : List Cond) (ps : List Nat) (hp : ws = ps.filterMap (fun i => big[i]?)) (h : ws.all goodWord = true) : GoodIn big ws := by
  intro w hw
  have h1 := List.all_eq_true.mp h w hw
  rw [hp] at hw
  obtain ⟨i, -, hi⟩ := List.mem_filterMap.mp hw
  have hm : w ∈ big := by first | exact List.mem_of_getElem? hi | exact List.getElem?_mem hi
  exact ⟨hm, good_of_word h1⟩
theorem goodIn_app {big a b : List Cond} (ha : GoodIn big a) (hb : GoodIn big b) : GoodIn big (a ++ b) := fun w h => (List.mem_append.mp h).elim (ha w) (hb w)
theorem goodIn_ca {big a b : List Cond} {c : Cond} (ha : GoodIn big (c :: a)) (hb : GoodIn big b) : GoodIn big (c :: (a ++ b)) := fun w h => (List.mem_cons.mp h).elim (fun e => ha w (List.mem_cons.mpr (Or.inl e))) (fun h => (List.mem_append.mp h).elim (fun h => ha w (List.mem_cons.mpr (Or.inr h))) (hb w))
theorem goodIn_sub {big ws : List Cond} (hm : ∀ w ∈ ws, w ∈ big) (h : ws.all goodWord = true) : GoodIn big ws := fun w hw => ⟨hm w hw, good_of_word (List.all_eq_true.mp h w hw)⟩
/-! ===== END ===== -/


def RX0 : String := "PaidBySigns$CoinSearch"
def TX0 : u_T := fun k => match k with
  | 0 => ("PaidBySigns$CoinSearch", "chosen", "[I", true)
  | 1 => ("PaidBySigns$CoinSearch", "bestCost", "I", false)
  | 2 => ("PaidBySigns$CoinSearch", "felt", "[I", true)
  | 3 => ("PaidBySigns$CoinSearch", "own", "[I", true)
  | 4 => ("PaidBySigns$CoinSearch", "share", "[[I", true)
  | 5 => ("PaidBySigns$CoinSearch", "rest", "[[I", true)
  | 6 => ("PaidBySigns$CoinSearch", "left", "[[I", true)
  | 7 => ("PaidBySigns$CoinSearch", "tried", "[I", true)
  | 8 => ("PaidBySigns$CoinSearch", "signs", "I", false)
  | 9 => ("PaidBySigns$CoinSearch", "lines", "I", false)
  | _ => ("PaidBySigns$CoinSearch", "most", "I", false)
def tyX0 : Nat → FieldType := fun k => match k with
  | 0 => .array .int
  | 1 => .int
  | 2 => .array .int
  | 3 => .array .int
  | 4 => .array (.array .int)
  | 5 => .array (.array .int)
  | 6 => .array (.array .int)
  | 7 => .array .int
  | 8 => .int
  | 9 => .int
  | _ => .int
abbrev wsX00 : List Cond := u_ws RX0 TX0 11
theorem nmX0 : ∀ a, a < 11 → ∀ b, b < 11 → a ≠ b → (TX0 a).2.1 ≠ (TX0 b).2.1 := by decide +kernel
theorem tyX0_ok : ∀ k, k < 11 → parseFieldDescriptor (TX0 k).2.2.1 = some (tyX0 k) := by decide +kernel
abbrev cX0_init : ByteArray := prog_2_method_1_code
def yX0_init : MethodName := ⟨RX0, "<init>", "()V"⟩
def RX1 : String := "PaidBySigns$Diary"
def TX1 : u_T := fun k => match k with
  | 0 => ("PaidBySigns$Diary", "seen", "I", false)
  | 1 => ("PaidBySigns$Diary", "rights", "I", false)
  | 2 => ("PaidBySigns$Diary", "latestStep", "I", false)
  | 3 => ("PaidBySigns$Diary", "seenStep", "[I", true)
  | 4 => ("PaidBySigns$Diary", "seenSign", "[I", true)
  | 5 => ("PaidBySigns$Diary", "timesRight", "[I", true)
  | 6 => ("PaidBySigns$Diary", "rightStep", "[I", true)
  | 7 => ("PaidBySigns$Diary", "rightOf", "[I", true)
  | _ => ("PaidBySigns$Diary", "rightSign", "[I", true)
def tyX1 : Nat → FieldType := fun k => match k with
  | 0 => .int
  | 1 => .int
  | 2 => .int
  | 3 => .array .int
  | 4 => .array .int
  | 5 => .array .int
  | 6 => .array .int
  | 7 => .array .int
  | _ => .array .int
abbrev wsX10 : List Cond := u_ws RX1 TX1 9
theorem nmX1 : ∀ a, a < 9 → ∀ b, b < 9 → a ≠ b → (TX1 a).2.1 ≠ (TX1 b).2.1 := by decide +kernel
theorem tyX1_ok : ∀ k, k < 9 → parseFieldDescriptor (TX1 k).2.2.1 = some (tyX1 k) := by decide +kernel
abbrev cX1_init : ByteArray := prog_3_method_1_code
def yX1_init : MethodName := ⟨RX1, "<init>", "()V"⟩
def RX2 : String := "PaidBySigns$Fraction"
def TX2 : u_T := fun k => match k with
  | 0 => ("PaidBySigns$Fraction", "upper", "J", false)
  | _ => ("PaidBySigns$Fraction", "lower", "J", false)
def tyX2 : Nat → FieldType := fun k => match k with
  | 0 => .long
  | _ => .long
abbrev wsX20 : List Cond := u_ws RX2 TX2 2
theorem nmX2 : ∀ a, a < 2 → ∀ b, b < 2 → a ≠ b → (TX2 a).2.1 ≠ (TX2 b).2.1 := by decide +kernel
theorem tyX2_ok : ∀ k, k < 2 → parseFieldDescriptor (TX2 k).2.2.1 = some (tyX2 k) := by decide +kernel
abbrev cX2_init : ByteArray := prog_4_method_1_code
def yX2_init : MethodName := ⟨RX2, "<init>", "()V"⟩
def RX3 : String := "PaidBySigns$Hire"
def TX3 : u_T := fun k => match k with
  | 0 => ("PaidBySigns$Hire", "signs", "I", false)
  | 1 => ("PaidBySigns$Hire", "works", "I", false)
  | 2 => ("PaidBySigns$Hire", "whole", "I", false)
  | 3 => ("PaidBySigns$Hire", "otherwise", "I", false)
  | 4 => ("PaidBySigns$Hire", "least", "I", false)
  | 5 => ("PaidBySigns$Hire", "rates", "I", false)
  | 6 => ("PaidBySigns$Hire", "brings", "[I", true)
  | 7 => ("PaidBySigns$Hire", "costs", "[I", true)
  | 8 => ("PaidBySigns$Hire", "chances", "[[I", true)
  | 9 => ("PaidBySigns$Hire", "rate", "[I", true)
  | _ => ("PaidBySigns$Hire", "mark", "[I", true)
def tyX3 : Nat → FieldType := fun k => match k with
  | 0 => .int
  | 1 => .int
  | 2 => .int
  | 3 => .int
  | 4 => .int
  | 5 => .int
  | 6 => .array .int
  | 7 => .array .int
  | 8 => .array (.array .int)
  | 9 => .array .int
  | _ => .array .int
abbrev wsX30 : List Cond := u_ws RX3 TX3 11
theorem nmX3 : ∀ a, a < 11 → ∀ b, b < 11 → a ≠ b → (TX3 a).2.1 ≠ (TX3 b).2.1 := by decide +kernel
theorem tyX3_ok : ∀ k, k < 11 → parseFieldDescriptor (TX3 k).2.2.1 = some (tyX3 k) := by decide +kernel
abbrev cX3_init : ByteArray := prog_5_method_1_code
def yX3_init : MethodName := ⟨RX3, "<init>", "()V"⟩
abbrev cX3_clear : ByteArray := prog_5_method_2_code
def yX3_clear : MethodName := ⟨RX3, "clear", "()V"⟩
def RX4 : String := "PaidBySigns$LeastCost"
def TX4 : u_T := fun k => match k with
  | 0 => ("PaidBySigns$LeastCost", "above", "[J", true)
  | 1 => ("PaidBySigns$LeastCost", "aboveLower", "J", false)
  | 2 => ("PaidBySigns$LeastCost", "table", "LPaidBySigns$Table;", true)
  | 3 => ("PaidBySigns$LeastCost", "columnSign", "[I", true)
  | 4 => ("PaidBySigns$LeastCost", "columnRate", "[I", true)
  | 5 => ("PaidBySigns$LeastCost", "columnRoom", "[I", true)
  | 6 => ("PaidBySigns$LeastCost", "columns", "I", false)
  | 7 => ("PaidBySigns$LeastCost", "rooms", "I", false)
  | 8 => ("PaidBySigns$LeastCost", "hire", "LPaidBySigns$Hire;", false)
  | 9 => ("PaidBySigns$LeastCost", "work", "I", false)
  | 10 => ("PaidBySigns$LeastCost", "keptSign", "I", false)
  | _ => ("PaidBySigns$LeastCost", "joinedSign", "I", false)
def tyX4 : Nat → FieldType := fun k => match k with
  | 0 => .array .long
  | 1 => .long
  | 2 => .object "PaidBySigns$Table"
  | 3 => .array .int
  | 4 => .array .int
  | 5 => .array .int
  | 6 => .int
  | 7 => .int
  | 8 => .object "PaidBySigns$Hire"
  | 9 => .int
  | 10 => .int
  | _ => .int
abbrev wsX40 : List Cond := u_ws RX4 TX4 12
theorem nmX4 : ∀ a, a < 12 → ∀ b, b < 12 → a ≠ b → (TX4 a).2.1 ≠ (TX4 b).2.1 := by decide +kernel
theorem tyX4_ok : ∀ k, k < 12 → parseFieldDescriptor (TX4 k).2.2.1 = some (tyX4 k) := by decide +kernel
abbrev cX4_init : ByteArray := prog_6_method_1_code
def yX4_init : MethodName := ⟨RX4, "<init>", "()V"⟩
def RX5 : String := "PaidBySigns$OneSum"
def TX5 : u_T := fun k => match k with
  | 0 => ("PaidBySigns$OneSum", "lowUpper", "J", false)
  | 1 => ("PaidBySigns$OneSum", "lowLower", "J", false)
  | 2 => ("PaidBySigns$OneSum", "capUpper", "J", false)
  | 3 => ("PaidBySigns$OneSum", "capLower", "J", false)
  | _ => ("PaidBySigns$OneSum", "isBroken", "Z", false)
def tyX5 : Nat → FieldType := fun k => match k with
  | 0 => .long
  | 1 => .long
  | 2 => .long
  | 3 => .long
  | _ => .boolean
abbrev wsX50 : List Cond := u_ws RX5 TX5 5
theorem tyX5_ok : ∀ k, k < 5 → parseFieldDescriptor (TX5 k).2.2.1 = some (tyX5 k) := by decide +kernel
abbrev cX5_init : ByteArray := prog_7_method_1_code
def yX5_init : MethodName := ⟨RX5, "<init>", "()V"⟩
def RX6 : String := "PaidBySigns$Proofs"
def TX6 : u_T := fun k => match k with
  | 0 => ("PaidBySigns$Proofs", "lowerNumber", "I", false)
  | 1 => ("PaidBySigns$Proofs", "press", "[I", true)
  | 2 => ("PaidBySigns$Proofs", "pressOfElse", "I", false)
  | _ => ("PaidBySigns$Proofs", "mixed", "[I", true)
def tyX6 : Nat → FieldType := fun k => match k with
  | 0 => .int
  | 1 => .array .int
  | 2 => .int
  | _ => .array .int
abbrev wsX60 : List Cond := u_ws RX6 TX6 4
theorem nmX6 : ∀ a, a < 4 → ∀ b, b < 4 → a ≠ b → (TX6 a).2.1 ≠ (TX6 b).2.1 := by decide +kernel
theorem tyX6_ok : ∀ k, k < 4 → parseFieldDescriptor (TX6 k).2.2.1 = some (tyX6 k) := by decide +kernel
abbrev cX6_init : ByteArray := prog_8_method_1_code
def yX6_init : MethodName := ⟨RX6, "<init>", "()V"⟩
def RX7 : String := "PaidBySigns$Reader"
def TX7 : u_T := fun k => match k with
  | 0 => ("PaidBySigns$Reader", "length", "I", false)
  | 1 => ("PaidBySigns$Reader", "faultKind", "I", false)
  | 2 => ("PaidBySigns$Reader", "faultPlace", "I", false)
  | 3 => ("PaidBySigns$Reader", "into", "LPaidBySigns$Hire;", false)
  | 4 => ("PaidBySigns$Reader", "text", "[B", true)
  | 5 => ("PaidBySigns$Reader", "next", "I", false)
  | 6 => ("PaidBySigns$Reader", "token", "I", false)
  | 7 => ("PaidBySigns$Reader", "start", "I", false)
  | 8 => ("PaidBySigns$Reader", "value", "I", false)
  | 9 => ("PaidBySigns$Reader", "nameStart", "[I", true)
  | 10 => ("PaidBySigns$Reader", "nameEnd", "[I", true)
  | 11 => ("PaidBySigns$Reader", "hasElse", "Z", false)
  | 12 => ("PaidBySigns$Reader", "hasLeast", "Z", false)
  | _ => ("PaidBySigns$Reader", "hasFeel", "Z", false)
def tyX7 : Nat → FieldType := fun k => match k with
  | 0 => .int
  | 1 => .int
  | 2 => .int
  | 3 => .object "PaidBySigns$Hire"
  | 4 => .array .byte
  | 5 => .int
  | 6 => .int
  | 7 => .int
  | 8 => .int
  | 9 => .array .int
  | 10 => .array .int
  | 11 => .boolean
  | 12 => .boolean
  | _ => .boolean
abbrev wsX70 : List Cond := u_ws RX7 TX7 14
theorem nmX7 : ∀ a, a < 14 → ∀ b, b < 14 → a ≠ b → (TX7 a).2.1 ≠ (TX7 b).2.1 := by decide +kernel
theorem tyX7_ok : ∀ k, k < 14 → parseFieldDescriptor (TX7 k).2.2.1 = some (tyX7 k) := by decide +kernel
abbrev cX7_init : ByteArray := prog_9_method_1_code
def yX7_init : MethodName := ⟨RX7, "<init>", "()V"⟩
def RX8 : String := "PaidBySigns$Table"
def TX8 : u_T := fun k => match k with
  | 0 => ("PaidBySigns$Table", "entry", "[[J", true)
  | 1 => ("PaidBySigns$Table", "lineName", "[I", true)
  | 2 => ("PaidBySigns$Table", "columnName", "[I", true)
  | 3 => ("PaidBySigns$Table", "goals", "I", false)
  | 4 => ("PaidBySigns$Table", "lines", "I", false)
  | 5 => ("PaidBySigns$Table", "columns", "I", false)
  | _ => ("PaidBySigns$Table", "base", "J", false)
def tyX8 : Nat → FieldType := fun k => match k with
  | 0 => .array (.array .long)
  | 1 => .array .int
  | 2 => .array .int
  | 3 => .int
  | 4 => .int
  | 5 => .int
  | _ => .long
abbrev wsX80 : List Cond := u_ws RX8 TX8 7
theorem nmX8 : ∀ a, a < 7 → ∀ b, b < 7 → a ≠ b → (TX8 a).2.1 ≠ (TX8 b).2.1 := by decide +kernel
theorem tyX8_ok : ∀ k, k < 7 → parseFieldDescriptor (TX8 k).2.2.1 = some (tyX8 k) := by decide +kernel
abbrev cX8_init : ByteArray := prog_10_method_1_code
def yX8_init : MethodName := ⟨RX8, "<init>", "()V"⟩
def RX9 : String := "PaidBySigns"
def TX9 : u_T := fun k => match k with
  | 0 => ("PaidBySigns", "reader", "LPaidBySigns$Reader;", true)
  | 1 => ("PaidBySigns", "hire", "LPaidBySigns$Hire;", false)
  | 2 => ("PaidBySigns", "hand", "[I", true)
  | 3 => ("PaidBySigns", "latest", "LPaidBySigns$Fraction;", true)
  | 4 => ("PaidBySigns", "trial", "LPaidBySigns$Fraction;", true)
  | 5 => ("PaidBySigns", "champion", "LPaidBySigns$Fraction;", true)
  | 6 => ("PaidBySigns", "wageUpper", "[J", true)
  | 7 => ("PaidBySigns", "wageLower", "[J", true)
  | 8 => ("PaidBySigns", "hasWages", "Z", false)
  | 9 => ("PaidBySigns", "cheapest", "LPaidBySigns$LeastCost;", true)
  | 10 => ("PaidBySigns", "oneSum", "LPaidBySigns$OneSum;", true)
  | 11 => ("PaidBySigns", "coinSearch", "LPaidBySigns$CoinSearch;", true)
  | 12 => ("PaidBySigns", "proofs", "LPaidBySigns$Proofs;", true)
  | _ => ("PaidBySigns", "diary", "LPaidBySigns$Diary;", true)
def tyX9 : Nat → FieldType := fun k => match k with
  | 0 => .object "PaidBySigns$Reader"
  | 1 => .object "PaidBySigns$Hire"
  | 2 => .array .int
  | 3 => .object "PaidBySigns$Fraction"
  | 4 => .object "PaidBySigns$Fraction"
  | 5 => .object "PaidBySigns$Fraction"
  | 6 => .array .long
  | 7 => .array .long
  | 8 => .boolean
  | 9 => .object "PaidBySigns$LeastCost"
  | 10 => .object "PaidBySigns$OneSum"
  | 11 => .object "PaidBySigns$CoinSearch"
  | 12 => .object "PaidBySigns$Proofs"
  | _ => .object "PaidBySigns$Diary"
abbrev wsX90 : List Cond := u_ws RX9 TX9 14
theorem nmX9 : ∀ a, a < 14 → ∀ b, b < 14 → a ≠ b → (TX9 a).2.1 ≠ (TX9 b).2.1 := by decide +kernel
theorem tyX9_ok : ∀ k, k < 14 → parseFieldDescriptor (TX9 k).2.2.1 = some (tyX9 k) := by decide +kernel
abbrev cX9_init : ByteArray := prog_1_method_1_code
def yX9_init : MethodName := ⟨RX9, "<init>", "()V"⟩
def RX10 : String := "PaidBySignsModel"
def TX10 : u_T := fun k => match k with
  | 0 => ("PaidBySignsModel", "tape", "[B", true)
  | 1 => ("PaidBySignsModel", "taped", "I", false)
  | 2 => ("PaidBySignsModel", "size", "I", false)
  | 3 => ("PaidBySignsModel", "sort", "I", false)
  | 4 => ("PaidBySignsModel", "key", "I", false)
  | 5 => ("PaidBySignsModel", "at", "I", false)
  | 6 => ("PaidBySignsModel", "end", "I", false)
  | 7 => ("PaidBySignsModel", "number", "I", false)
  | 8 => ("PaidBySignsModel", "faultKind", "I", false)
  | 9 => ("PaidBySignsModel", "faultPlace", "I", false)
  | 10 => ("PaidBySignsModel", "word", "J", false)
  | 11 => ("PaidBySignsModel", "got", "I", false)
  | 12 => ("PaidBySignsModel", "num", "[I", true)
  | 13 => ("PaidBySignsModel", "signName", "[J", true)
  | 14 => ("PaidBySignsModel", "workName", "[J", true)
  | 15 => ("PaidBySignsModel", "brings", "[I", true)
  | 16 => ("PaidBySignsModel", "costs", "[I", true)
  | 17 => ("PaidBySignsModel", "chances", "[I", true)
  | 18 => ("PaidBySignsModel", "rates", "[I", true)
  | 19 => ("PaidBySignsModel", "marks", "[I", true)
  | 20 => ("PaidBySignsModel", "seen", "I", false)
  | 21 => ("PaidBySignsModel", "hand", "[I", true)
  | 22 => ("PaidBySignsModel", "hasFraction", "Z", false)
  | 23 => ("PaidBySignsModel", "upper", "J", false)
  | 24 => ("PaidBySignsModel", "lower", "J", false)
  | 25 => ("PaidBySignsModel", "groups", "I", false)
  | 26 => ("PaidBySignsModel", "bounds", "I", false)
  | 27 => ("PaidBySignsModel", "groupOf", "[I", true)
  | 28 => ("PaidBySignsModel", "row", "[J", true)
  | 29 => ("PaidBySignsModel", "least", "[J", true)
  | 30 => ("PaidBySignsModel", "asked", "I", false)
  | 31 => ("PaidBySignsModel", "chosen", "[I", true)
  | 32 => ("PaidBySignsModel", "matrix", "[J", true)
  | 33 => ("PaidBySignsModel", "x", "[J", true)
  | 34 => ("PaidBySignsModel", "det", "J", false)
  | 35 => ("PaidBySignsModel", "wageUp", "[J", true)
  | 36 => ("PaidBySignsModel", "wageLow", "[J", true)
  | 37 => ("PaidBySignsModel", "isFound", "Z", false)
  | 38 => ("PaidBySignsModel", "costUp", "J", false)
  | 39 => ("PaidBySignsModel", "costLow", "J", false)
  | 40 => ("PaidBySignsModel", "bestUp", "[J", true)
  | 41 => ("PaidBySignsModel", "bestLow", "[J", true)
  | 42 => ("PaidBySignsModel", "hasWages", "Z", false)
  | 43 => ("PaidBySignsModel", "wageMany", "I", false)
  | 44 => ("PaidBySignsModel", "toldUp", "[J", true)
  | 45 => ("PaidBySignsModel", "toldLow", "[J", true)
  | 46 => ("PaidBySignsModel", "bestLeftUp", "J", false)
  | 47 => ("PaidBySignsModel", "bestLeftLow", "J", false)
  | 48 => ("PaidBySignsModel", "coin", "[I", true)
  | 49 => ("PaidBySignsModel", "fromUp", "J", false)
  | 50 => ("PaidBySignsModel", "fromLow", "J", false)
  | 51 => ("PaidBySignsModel", "toUp", "J", false)
  | 52 => ("PaidBySignsModel", "toLow", "J", false)
  | 53 => ("PaidBySignsModel", "canBe", "Z", false)
  | 54 => ("PaidBySignsModel", "presses", "[I", true)
  | 55 => ("PaidBySignsModel", "mixes", "[I", true)
  | 56 => ("PaidBySignsModel", "lowerPress", "I", false)
  | 57 => ("PaidBySignsModel", "seenMany", "I", false)
  | 58 => ("PaidBySignsModel", "rightMany", "I", false)
  | 59 => ("PaidBySignsModel", "lastTold", "I", false)
  | 60 => ("PaidBySignsModel", "sTold", "[I", true)
  | 61 => ("PaidBySignsModel", "sSign", "[I", true)
  | 62 => ("PaidBySignsModel", "rOf", "[I", true)
  | 63 => ("PaidBySignsModel", "rTold", "[I", true)
  | _ => ("PaidBySignsModel", "rSign", "[I", true)
def wsX0_init : List Cond := .code yX0_init cX0_init 1 none :: ([.methodLink RX0 3 objectInit, .instanceMethod objectInit, .code objectInit ⟨#[0xb1]⟩ 1 none, .arrayClass .int, .fieldLink RX0 9 "PaidBySigns$CoinSearch" "chosen" "[I", .constant RX0 15 (1000000), .fieldLink RX0 16 "PaidBySigns$CoinSearch" "bestCost" "I", .fieldLink RX0 20 "PaidBySigns$CoinSearch" "felt" "[I", .fieldLink RX0 23 "PaidBySigns$CoinSearch" "own" "[I", .classLink RX0 26 "[[I", .fieldLink RX0 28 "PaidBySigns$CoinSearch" "share" "[[I", .fieldLink RX0 31 "PaidBySigns$CoinSearch" "rest" "[[I", .fieldLink RX0 34 "PaidBySigns$CoinSearch" "left" "[[I", .fieldLink RX0 37 "PaidBySigns$CoinSearch" "tried" "[I"] ++ wsX00)
def wsX1_init : List Cond := .code yX1_init cX1_init 1 none :: ([.methodLink RX1 3 objectInit, .instanceMethod objectInit, .code objectInit ⟨#[0xb1]⟩ 1 none, .fieldLink RX1 9 "PaidBySigns$Diary" "seen" "I", .fieldLink RX1 15 "PaidBySigns$Diary" "rights" "I", .fieldLink RX1 18 "PaidBySigns$Diary" "latestStep" "I", .arrayClass .int, .fieldLink RX1 21 "PaidBySigns$Diary" "seenStep" "[I", .fieldLink RX1 25 "PaidBySigns$Diary" "seenSign" "[I", .fieldLink RX1 28 "PaidBySigns$Diary" "timesRight" "[I", .fieldLink RX1 31 "PaidBySigns$Diary" "rightStep" "[I", .fieldLink RX1 34 "PaidBySigns$Diary" "rightOf" "[I", .fieldLink RX1 37 "PaidBySigns$Diary" "rightSign" "[I"] ++ wsX10)
def wsX2_init : List Cond := .code yX2_init cX2_init 1 none :: ([.methodLink RX2 3 objectInit, .instanceMethod objectInit, .code objectInit ⟨#[0xb1]⟩ 1 none, .constantLong RX2 9 (-2000000000), .fieldLink RX2 11 "PaidBySigns$Fraction" "upper" "J", .fieldLink RX2 17 "PaidBySigns$Fraction" "lower" "J"] ++ wsX20)
def wsX3_clear : List Cond := .code yX3_clear cX3_clear 1 none :: ([.fieldLink RX3 32 "PaidBySigns$Hire" "signs" "I", .fieldLink RX3 36 "PaidBySigns$Hire" "works" "I", .fieldLink RX3 39 "PaidBySigns$Hire" "whole" "I", .fieldLink RX3 42 "PaidBySigns$Hire" "otherwise" "I", .fieldLink RX3 45 "PaidBySigns$Hire" "least" "I", .fieldLink RX3 48 "PaidBySigns$Hire" "rates" "I", .fieldLink RX3 23 "PaidBySigns$Hire" "rate" "[I"] ++ wsX30)
def wsX3_init : List Cond := .code yX3_init cX3_init 1 none :: ([.methodLink RX3 3 objectInit, .instanceMethod objectInit, .code objectInit ⟨#[0xb1]⟩ 1 none, .arrayClass .int, .fieldLink RX3 9 "PaidBySigns$Hire" "brings" "[I", .fieldLink RX3 15 "PaidBySigns$Hire" "costs" "[I", .classLink RX3 18 "[[I", .fieldLink RX3 20 "PaidBySigns$Hire" "chances" "[[I", .fieldLink RX3 23 "PaidBySigns$Hire" "rate" "[I", .fieldLink RX3 26 "PaidBySigns$Hire" "mark" "[I", .methodLink RX3 29 yX3_clear, .instanceMethod yX3_clear, .selects RX3 yX3_clear yX3_clear, .initialized RX3, .code yX3_clear cX3_clear 1 none, .fieldLink RX3 32 "PaidBySigns$Hire" "signs" "I", .fieldLink RX3 36 "PaidBySigns$Hire" "works" "I", .fieldLink RX3 39 "PaidBySigns$Hire" "whole" "I", .fieldLink RX3 42 "PaidBySigns$Hire" "otherwise" "I", .fieldLink RX3 45 "PaidBySigns$Hire" "least" "I", .fieldLink RX3 48 "PaidBySigns$Hire" "rates" "I"] ++ wsX30)
def wsX8_init : List Cond := .code yX8_init cX8_init 1 none :: ([.methodLink RX8 3 objectInit, .instanceMethod objectInit, .code objectInit ⟨#[0xb1]⟩ 1 none, .classLink RX8 11 "[[J", .arrayClass .long, .fieldLink RX8 13 "PaidBySigns$Table" "entry" "[[J", .arrayClass .int, .fieldLink RX8 16 "PaidBySigns$Table" "lineName" "[I", .fieldLink RX8 20 "PaidBySigns$Table" "columnName" "[I"] ++ wsX80)
def wsX4_init_r1 : List Cond := [Cond.methodLink RX4 3 objectInit, Cond.instanceMethod objectInit, Cond.code objectInit ⟨#[0xb1]⟩ 1 none, Cond.arrayClass .long, Cond.fieldLink RX4 9 "PaidBySigns$LeastCost" "above" "[J", Cond.fieldLink RX4 15 "PaidBySigns$LeastCost" "aboveLower" "J", Cond.classLink RX4 19 RX8, Cond.instantiable RX8 7, Cond.initialized RX8, Cond.fieldLink RX4 22 "PaidBySigns$LeastCost" "table" "LPaidBySigns$Table;", Cond.arrayClass .int, Cond.fieldLink RX4 26 "PaidBySigns$LeastCost" "columnSign" "[I", Cond.fieldLink RX4 30 "PaidBySigns$LeastCost" "columnRate" "[I", Cond.fieldLink RX4 33 "PaidBySigns$LeastCost" "columnRoom" "[I", Cond.fieldLink RX4 36 "PaidBySigns$LeastCost" "columns" "I", Cond.fieldLink RX4 40 "PaidBySigns$LeastCost" "rooms" "I", Cond.classLink RX4 43 RX3, Cond.instantiable RX3 11, Cond.initialized RX3, Cond.fieldLink RX4 46 "PaidBySigns$LeastCost" "hire" "LPaidBySigns$Hire;", Cond.fieldLink RX4 50 "PaidBySigns$LeastCost" "work" "I", Cond.fieldLink RX4 53 "PaidBySigns$LeastCost" "keptSign" "I", Cond.fieldLink RX4 56 "PaidBySigns$LeastCost" "joinedSign" "I", Cond.methodLink RX4 21 yX8_init]
def wsX4_init_r2 : List Cond := [Cond.instanceMethod yX8_init, Cond.code yX8_init cX8_init 1 none, Cond.methodLink RX8 3 objectInit, Cond.classLink RX8 11 "[[J", Cond.fieldLink RX8 13 "PaidBySigns$Table" "entry" "[[J", Cond.fieldLink RX8 16 "PaidBySigns$Table" "lineName" "[I", Cond.fieldLink RX8 20 "PaidBySigns$Table" "columnName" "[I", Cond.methodLink RX4 45 yX3_init, Cond.instanceMethod yX3_init, Cond.code yX3_init cX3_init 1 none, Cond.methodLink RX3 3 objectInit, Cond.fieldLink RX3 9 "PaidBySigns$Hire" "brings" "[I", Cond.fieldLink RX3 15 "PaidBySigns$Hire" "costs" "[I", Cond.classLink RX3 18 "[[I", Cond.fieldLink RX3 20 "PaidBySigns$Hire" "chances" "[[I", Cond.fieldLink RX3 23 "PaidBySigns$Hire" "rate" "[I", Cond.fieldLink RX3 26 "PaidBySigns$Hire" "mark" "[I", Cond.methodLink RX3 29 yX3_clear, Cond.instanceMethod yX3_clear, Cond.selects RX3 yX3_clear yX3_clear, Cond.code yX3_clear cX3_clear 1 none, Cond.fieldLink RX3 32 "PaidBySigns$Hire" "signs" "I", Cond.fieldLink RX3 36 "PaidBySigns$Hire" "works" "I", Cond.fieldLink RX3 39 "PaidBySigns$Hire" "whole" "I"]
def wsX4_init_r3 : List Cond := [Cond.fieldLink RX3 42 "PaidBySigns$Hire" "otherwise" "I", Cond.fieldLink RX3 45 "PaidBySigns$Hire" "least" "I", Cond.fieldLink RX3 48 "PaidBySigns$Hire" "rates" "I"]
def wsX4_init : List Cond := .code yX4_init cX4_init 1 none :: ((wsX4_init_r1 ++ (wsX4_init_r2 ++ wsX4_init_r3)) ++ wsX40 ++ wsX80 ++ wsX30)
def wsX5_init : List Cond := .code yX5_init cX5_init 1 none :: ([.methodLink RX5 1 objectInit, .instanceMethod objectInit, .code objectInit ⟨#[0xb1]⟩ 1 none])
def wsX6_init : List Cond := .code yX6_init cX6_init 1 none :: ([.methodLink RX6 3 objectInit, .instanceMethod objectInit, .code objectInit ⟨#[0xb1]⟩ 1 none, .fieldLink RX6 9 "PaidBySigns$Proofs" "lowerNumber" "I", .arrayClass .int, .fieldLink RX6 15 "PaidBySigns$Proofs" "press" "[I", .fieldLink RX6 19 "PaidBySigns$Proofs" "pressOfElse" "I", .fieldLink RX6 22 "PaidBySigns$Proofs" "mixed" "[I"] ++ wsX60)
def wsX7_init_r1 : List Cond := [Cond.methodLink RX7 3 objectInit, Cond.instanceMethod objectInit, Cond.code objectInit ⟨#[0xb1]⟩ 1 none, Cond.fieldLink RX7 9 "PaidBySigns$Reader" "length" "I", Cond.fieldLink RX7 15 "PaidBySigns$Reader" "faultKind" "I", Cond.fieldLink RX7 18 "PaidBySigns$Reader" "faultPlace" "I", Cond.classLink RX7 21 RX3, Cond.instantiable RX3 11, Cond.initialized RX3, Cond.fieldLink RX7 24 "PaidBySigns$Reader" "into" "LPaidBySigns$Hire;", Cond.arrayClass .byte, Cond.fieldLink RX7 28 "PaidBySigns$Reader" "text" "[B", Cond.fieldLink RX7 32 "PaidBySigns$Reader" "next" "I", Cond.fieldLink RX7 35 "PaidBySigns$Reader" "token" "I", Cond.fieldLink RX7 38 "PaidBySigns$Reader" "start" "I", Cond.fieldLink RX7 41 "PaidBySigns$Reader" "value" "I", Cond.arrayClass .int, Cond.fieldLink RX7 44 "PaidBySigns$Reader" "nameStart" "[I", Cond.fieldLink RX7 48 "PaidBySigns$Reader" "nameEnd" "[I", Cond.fieldLink RX7 51 "PaidBySigns$Reader" "hasElse" "Z", Cond.fieldLink RX7 55 "PaidBySigns$Reader" "hasLeast" "Z", Cond.fieldLink RX7 58 "PaidBySigns$Reader" "hasFeel" "Z", Cond.methodLink RX7 23 yX3_init, Cond.instanceMethod yX3_init]
def wsX7_init_r2 : List Cond := [Cond.code yX3_init cX3_init 1 none, Cond.methodLink RX3 3 objectInit, Cond.fieldLink RX3 9 "PaidBySigns$Hire" "brings" "[I", Cond.fieldLink RX3 15 "PaidBySigns$Hire" "costs" "[I", Cond.classLink RX3 18 "[[I", Cond.fieldLink RX3 20 "PaidBySigns$Hire" "chances" "[[I", Cond.fieldLink RX3 23 "PaidBySigns$Hire" "rate" "[I", Cond.fieldLink RX3 26 "PaidBySigns$Hire" "mark" "[I", Cond.methodLink RX3 29 yX3_clear, Cond.instanceMethod yX3_clear, Cond.selects RX3 yX3_clear yX3_clear, Cond.code yX3_clear cX3_clear 1 none, Cond.fieldLink RX3 32 "PaidBySigns$Hire" "signs" "I", Cond.fieldLink RX3 36 "PaidBySigns$Hire" "works" "I", Cond.fieldLink RX3 39 "PaidBySigns$Hire" "whole" "I", Cond.fieldLink RX3 42 "PaidBySigns$Hire" "otherwise" "I", Cond.fieldLink RX3 45 "PaidBySigns$Hire" "least" "I", Cond.fieldLink RX3 48 "PaidBySigns$Hire" "rates" "I"]
def wsX7_init : List Cond := .code yX7_init cX7_init 1 none :: ((wsX7_init_r1 ++ wsX7_init_r2) ++ wsX70 ++ wsX30)
def wsX9_init_r1 : List Cond := [Cond.methodLink RX9 1 objectInit, Cond.instanceMethod objectInit, Cond.code objectInit ⟨#[0xb1]⟩ 1 none, Cond.classLink RX9 7 RX7, Cond.instantiable RX7 14, Cond.initialized RX7, Cond.fieldLink RX9 10 "PaidBySigns" "reader" "LPaidBySigns$Reader;", Cond.classLink RX9 16 RX3, Cond.instantiable RX3 11, Cond.initialized RX3, Cond.fieldLink RX9 19 "PaidBySigns" "hire" "LPaidBySigns$Hire;", Cond.arrayClass .int, Cond.fieldLink RX9 23 "PaidBySigns" "hand" "[I", Cond.classLink RX9 27 RX2, Cond.instantiable RX2 2, Cond.initialized RX2, Cond.fieldLink RX9 30 "PaidBySigns" "latest" "LPaidBySigns$Fraction;", Cond.fieldLink RX9 34 "PaidBySigns" "trial" "LPaidBySigns$Fraction;", Cond.fieldLink RX9 37 "PaidBySigns" "champion" "LPaidBySigns$Fraction;", Cond.arrayClass .long, Cond.fieldLink RX9 40 "PaidBySigns" "wageUpper" "[J", Cond.fieldLink RX9 44 "PaidBySigns" "wageLower" "[J", Cond.fieldLink RX9 47 "PaidBySigns" "hasWages" "Z", Cond.classLink RX9 51 RX4]
def wsX9_init_r2 : List Cond := [Cond.instantiable RX4 12, Cond.initialized RX4, Cond.fieldLink RX9 54 "PaidBySigns" "cheapest" "LPaidBySigns$LeastCost;", Cond.classLink RX9 58 RX5, Cond.instantiable RX5 5, Cond.initialized RX5, Cond.fieldLink RX9 61 "PaidBySigns" "oneSum" "LPaidBySigns$OneSum;", Cond.classLink RX9 65 RX0, Cond.instantiable RX0 11, Cond.initialized RX0, Cond.fieldLink RX9 68 "PaidBySigns" "coinSearch" "LPaidBySigns$CoinSearch;", Cond.classLink RX9 72 RX6, Cond.instantiable RX6 4, Cond.initialized RX6, Cond.fieldLink RX9 75 "PaidBySigns" "proofs" "LPaidBySigns$Proofs;", Cond.classLink RX9 79 RX1, Cond.instantiable RX1 9, Cond.initialized RX1, Cond.fieldLink RX9 82 "PaidBySigns" "diary" "LPaidBySigns$Diary;", Cond.methodLink RX9 9 yX7_init, Cond.instanceMethod yX7_init, Cond.code yX7_init cX7_init 1 none, Cond.methodLink RX7 3 objectInit, Cond.fieldLink RX7 9 "PaidBySigns$Reader" "length" "I"]
def wsX9_init_r3 : List Cond := [Cond.fieldLink RX7 15 "PaidBySigns$Reader" "faultKind" "I", Cond.fieldLink RX7 18 "PaidBySigns$Reader" "faultPlace" "I", Cond.classLink RX7 21 RX3, Cond.fieldLink RX7 24 "PaidBySigns$Reader" "into" "LPaidBySigns$Hire;", Cond.arrayClass .byte, Cond.fieldLink RX7 28 "PaidBySigns$Reader" "text" "[B", Cond.fieldLink RX7 32 "PaidBySigns$Reader" "next" "I", Cond.fieldLink RX7 35 "PaidBySigns$Reader" "token" "I", Cond.fieldLink RX7 38 "PaidBySigns$Reader" "start" "I", Cond.fieldLink RX7 41 "PaidBySigns$Reader" "value" "I", Cond.fieldLink RX7 44 "PaidBySigns$Reader" "nameStart" "[I", Cond.fieldLink RX7 48 "PaidBySigns$Reader" "nameEnd" "[I", Cond.fieldLink RX7 51 "PaidBySigns$Reader" "hasElse" "Z", Cond.fieldLink RX7 55 "PaidBySigns$Reader" "hasLeast" "Z", Cond.fieldLink RX7 58 "PaidBySigns$Reader" "hasFeel" "Z", Cond.methodLink RX7 23 yX3_init, Cond.instanceMethod yX3_init, Cond.code yX3_init cX3_init 1 none, Cond.methodLink RX3 3 objectInit, Cond.fieldLink RX3 9 "PaidBySigns$Hire" "brings" "[I", Cond.fieldLink RX3 15 "PaidBySigns$Hire" "costs" "[I", Cond.classLink RX3 18 "[[I", Cond.fieldLink RX3 20 "PaidBySigns$Hire" "chances" "[[I", Cond.fieldLink RX3 23 "PaidBySigns$Hire" "rate" "[I"]
def wsX9_init_r4 : List Cond := [Cond.fieldLink RX3 26 "PaidBySigns$Hire" "mark" "[I", Cond.methodLink RX3 29 yX3_clear, Cond.instanceMethod yX3_clear, Cond.selects RX3 yX3_clear yX3_clear, Cond.code yX3_clear cX3_clear 1 none, Cond.fieldLink RX3 32 "PaidBySigns$Hire" "signs" "I", Cond.fieldLink RX3 36 "PaidBySigns$Hire" "works" "I", Cond.fieldLink RX3 39 "PaidBySigns$Hire" "whole" "I", Cond.fieldLink RX3 42 "PaidBySigns$Hire" "otherwise" "I", Cond.fieldLink RX3 45 "PaidBySigns$Hire" "least" "I", Cond.fieldLink RX3 48 "PaidBySigns$Hire" "rates" "I", Cond.methodLink RX9 18 yX3_init, Cond.methodLink RX9 29 yX2_init, Cond.instanceMethod yX2_init, Cond.code yX2_init cX2_init 1 none, Cond.methodLink RX2 3 objectInit, Cond.constantLong RX2 9 (-2000000000), Cond.fieldLink RX2 11 "PaidBySigns$Fraction" "upper" "J", Cond.fieldLink RX2 17 "PaidBySigns$Fraction" "lower" "J", Cond.methodLink RX9 53 yX4_init, Cond.instanceMethod yX4_init, Cond.code yX4_init cX4_init 1 none, Cond.methodLink RX4 3 objectInit, Cond.fieldLink RX4 9 "PaidBySigns$LeastCost" "above" "[J"]
def wsX9_init_r5 : List Cond := [Cond.fieldLink RX4 15 "PaidBySigns$LeastCost" "aboveLower" "J", Cond.classLink RX4 19 RX8, Cond.instantiable RX8 7, Cond.initialized RX8, Cond.fieldLink RX4 22 "PaidBySigns$LeastCost" "table" "LPaidBySigns$Table;", Cond.fieldLink RX4 26 "PaidBySigns$LeastCost" "columnSign" "[I", Cond.fieldLink RX4 30 "PaidBySigns$LeastCost" "columnRate" "[I", Cond.fieldLink RX4 33 "PaidBySigns$LeastCost" "columnRoom" "[I", Cond.fieldLink RX4 36 "PaidBySigns$LeastCost" "columns" "I", Cond.fieldLink RX4 40 "PaidBySigns$LeastCost" "rooms" "I", Cond.classLink RX4 43 RX3, Cond.fieldLink RX4 46 "PaidBySigns$LeastCost" "hire" "LPaidBySigns$Hire;", Cond.fieldLink RX4 50 "PaidBySigns$LeastCost" "work" "I", Cond.fieldLink RX4 53 "PaidBySigns$LeastCost" "keptSign" "I", Cond.fieldLink RX4 56 "PaidBySigns$LeastCost" "joinedSign" "I", Cond.methodLink RX4 21 yX8_init, Cond.instanceMethod yX8_init, Cond.code yX8_init cX8_init 1 none, Cond.methodLink RX8 3 objectInit, Cond.classLink RX8 11 "[[J", Cond.fieldLink RX8 13 "PaidBySigns$Table" "entry" "[[J", Cond.fieldLink RX8 16 "PaidBySigns$Table" "lineName" "[I", Cond.fieldLink RX8 20 "PaidBySigns$Table" "columnName" "[I", Cond.methodLink RX4 45 yX3_init]
def wsX9_init_r6 : List Cond := [Cond.methodLink RX9 60 yX5_init, Cond.instanceMethod yX5_init, Cond.code yX5_init cX5_init 1 none, Cond.methodLink RX5 1 objectInit, Cond.methodLink RX9 67 yX0_init, Cond.instanceMethod yX0_init, Cond.code yX0_init cX0_init 1 none, Cond.methodLink RX0 3 objectInit, Cond.fieldLink RX0 9 "PaidBySigns$CoinSearch" "chosen" "[I", Cond.constant RX0 15 (1000000), Cond.fieldLink RX0 16 "PaidBySigns$CoinSearch" "bestCost" "I", Cond.fieldLink RX0 20 "PaidBySigns$CoinSearch" "felt" "[I", Cond.fieldLink RX0 23 "PaidBySigns$CoinSearch" "own" "[I", Cond.classLink RX0 26 "[[I", Cond.fieldLink RX0 28 "PaidBySigns$CoinSearch" "share" "[[I", Cond.fieldLink RX0 31 "PaidBySigns$CoinSearch" "rest" "[[I", Cond.fieldLink RX0 34 "PaidBySigns$CoinSearch" "left" "[[I", Cond.fieldLink RX0 37 "PaidBySigns$CoinSearch" "tried" "[I", Cond.methodLink RX9 74 yX6_init, Cond.instanceMethod yX6_init, Cond.code yX6_init cX6_init 1 none, Cond.methodLink RX6 3 objectInit, Cond.fieldLink RX6 9 "PaidBySigns$Proofs" "lowerNumber" "I", Cond.fieldLink RX6 15 "PaidBySigns$Proofs" "press" "[I"]
def wsX9_init_r7 : List Cond := [Cond.fieldLink RX6 19 "PaidBySigns$Proofs" "pressOfElse" "I", Cond.fieldLink RX6 22 "PaidBySigns$Proofs" "mixed" "[I", Cond.methodLink RX9 81 yX1_init, Cond.instanceMethod yX1_init, Cond.code yX1_init cX1_init 1 none, Cond.methodLink RX1 3 objectInit, Cond.fieldLink RX1 9 "PaidBySigns$Diary" "seen" "I", Cond.fieldLink RX1 15 "PaidBySigns$Diary" "rights" "I", Cond.fieldLink RX1 18 "PaidBySigns$Diary" "latestStep" "I", Cond.fieldLink RX1 21 "PaidBySigns$Diary" "seenStep" "[I", Cond.fieldLink RX1 25 "PaidBySigns$Diary" "seenSign" "[I", Cond.fieldLink RX1 28 "PaidBySigns$Diary" "timesRight" "[I", Cond.fieldLink RX1 31 "PaidBySigns$Diary" "rightStep" "[I", Cond.fieldLink RX1 34 "PaidBySigns$Diary" "rightOf" "[I", Cond.fieldLink RX1 37 "PaidBySigns$Diary" "rightSign" "[I"]
def wsX9_init : List Cond := .code yX9_init cX9_init 1 none :: ((wsX9_init_r1 ++ (wsX9_init_r2 ++ (wsX9_init_r3 ++ (wsX9_init_r4 ++ (wsX9_init_r5 ++ (wsX9_init_r6 ++ wsX9_init_r7)))))) ++ wsX70 ++ wsX90 ++ wsX30 ++ wsX20 ++ wsX40 ++ wsX50 ++ wsX00 ++ wsX60 ++ wsX10 ++ wsX80)
theorem dX0_init_0 : decode cX0_init 0 = .ok (.aload_n 0, 1) := by decide +kernel
theorem dX0_init_1 : decode cX0_init 1 = .ok (.invokespecial 3, 3) := by decide +kernel
theorem dX0_init_4 : decode cX0_init 4 = .ok (.aload_n 0, 1) := by decide +kernel
theorem dX0_init_5 : decode cX0_init 5 = .ok (.iconst 4, 1) := by decide +kernel
theorem dX0_init_6 : decode cX0_init 6 = .ok (.newarray .int, 2) := by decide +kernel
theorem dX0_init_8 : decode cX0_init 8 = .ok (.putfield 9, 3) := by decide +kernel
theorem dX0_init_11 : decode cX0_init 11 = .ok (.aload_n 0, 1) := by decide +kernel
theorem dX0_init_12 : decode cX0_init 12 = .ok (.ldc 15, 2) := by decide +kernel
theorem dX0_init_14 : decode cX0_init 14 = .ok (.putfield 16, 3) := by decide +kernel
theorem dX0_init_17 : decode cX0_init 17 = .ok (.aload_n 0, 1) := by decide +kernel
theorem dX0_init_18 : decode cX0_init 18 = .ok (.bipush 21, 2) := by decide +kernel
theorem dX0_init_20 : decode cX0_init 20 = .ok (.newarray .int, 2) := by decide +kernel
theorem dX0_init_22 : decode cX0_init 22 = .ok (.putfield 20, 3) := by decide +kernel
theorem dX0_init_25 : decode cX0_init 25 = .ok (.aload_n 0, 1) := by decide +kernel
theorem dX0_init_26 : decode cX0_init 26 = .ok (.iconst 4, 1) := by decide +kernel
theorem dX0_init_27 : decode cX0_init 27 = .ok (.newarray .int, 2) := by decide +kernel
theorem dX0_init_29 : decode cX0_init 29 = .ok (.putfield 23, 3) := by decide +kernel
theorem dX0_init_32 : decode cX0_init 32 = .ok (.aload_n 0, 1) := by decide +kernel
theorem dX0_init_33 : decode cX0_init 33 = .ok (.iconst 5, 1) := by decide +kernel
theorem dX0_init_34 : decode cX0_init 34 = .ok (.iconst 4, 1) := by decide +kernel
theorem dX0_init_35 : decode cX0_init 35 = .ok (.multianewarray 26 2, 4) := by decide +kernel
theorem dX0_init_39 : decode cX0_init 39 = .ok (.putfield 28, 3) := by decide +kernel
theorem dX0_init_42 : decode cX0_init 42 = .ok (.aload_n 0, 1) := by decide +kernel
theorem dX0_init_43 : decode cX0_init 43 = .ok (.iconst 5, 1) := by decide +kernel
theorem dX0_init_44 : decode cX0_init 44 = .ok (.iconst 5, 1) := by decide +kernel
theorem dX0_init_45 : decode cX0_init 45 = .ok (.multianewarray 26 2, 4) := by decide +kernel
theorem dX0_init_49 : decode cX0_init 49 = .ok (.putfield 31, 3) := by decide +kernel
theorem dX0_init_52 : decode cX0_init 52 = .ok (.aload_n 0, 1) := by decide +kernel
theorem dX0_init_53 : decode cX0_init 53 = .ok (.iconst 5, 1) := by decide +kernel
theorem dX0_init_54 : decode cX0_init 54 = .ok (.iconst 5, 1) := by decide +kernel
theorem dX0_init_55 : decode cX0_init 55 = .ok (.multianewarray 26 2, 4) := by decide +kernel
theorem dX0_init_59 : decode cX0_init 59 = .ok (.putfield 34, 3) := by decide +kernel
theorem dX0_init_62 : decode cX0_init 62 = .ok (.aload_n 0, 1) := by decide +kernel
theorem dX0_init_63 : decode cX0_init 63 = .ok (.iconst 4, 1) := by decide +kernel
theorem dX0_init_64 : decode cX0_init 64 = .ok (.newarray .int, 2) := by decide +kernel
theorem dX0_init_66 : decode cX0_init 66 = .ok (.putfield 37, 3) := by decide +kernel
theorem dX0_init_69 : decode cX0_init 69 = .ok (.return_, 1) := by decide +kernel
theorem dX1_init_0 : decode cX1_init 0 = .ok (.aload_n 0, 1) := by decide +kernel
theorem dX1_init_1 : decode cX1_init 1 = .ok (.invokespecial 3, 3) := by decide +kernel
theorem dX1_init_4 : decode cX1_init 4 = .ok (.aload_n 0, 1) := by decide +kernel
theorem dX1_init_5 : decode cX1_init 5 = .ok (.iconst 0, 1) := by decide +kernel
theorem dX1_init_6 : decode cX1_init 6 = .ok (.putfield 9, 3) := by decide +kernel
theorem dX1_init_9 : decode cX1_init 9 = .ok (.aload_n 0, 1) := by decide +kernel
theorem dX1_init_10 : decode cX1_init 10 = .ok (.iconst 0, 1) := by decide +kernel
theorem dX1_init_11 : decode cX1_init 11 = .ok (.putfield 15, 3) := by decide +kernel
theorem dX1_init_14 : decode cX1_init 14 = .ok (.aload_n 0, 1) := by decide +kernel
theorem dX1_init_15 : decode cX1_init 15 = .ok (.iconst 0, 1) := by decide +kernel
theorem dX1_init_16 : decode cX1_init 16 = .ok (.putfield 18, 3) := by decide +kernel
theorem dX1_init_19 : decode cX1_init 19 = .ok (.aload_n 0, 1) := by decide +kernel
theorem dX1_init_20 : decode cX1_init 20 = .ok (.bipush 8, 2) := by decide +kernel
theorem dX1_init_22 : decode cX1_init 22 = .ok (.newarray .int, 2) := by decide +kernel
theorem dX1_init_24 : decode cX1_init 24 = .ok (.putfield 21, 3) := by decide +kernel
theorem dX1_init_27 : decode cX1_init 27 = .ok (.aload_n 0, 1) := by decide +kernel
theorem dX1_init_28 : decode cX1_init 28 = .ok (.bipush 8, 2) := by decide +kernel
theorem dX1_init_30 : decode cX1_init 30 = .ok (.newarray .int, 2) := by decide +kernel
theorem dX1_init_32 : decode cX1_init 32 = .ok (.putfield 25, 3) := by decide +kernel
theorem dX1_init_35 : decode cX1_init 35 = .ok (.aload_n 0, 1) := by decide +kernel
theorem dX1_init_36 : decode cX1_init 36 = .ok (.bipush 8, 2) := by decide +kernel
theorem dX1_init_38 : decode cX1_init 38 = .ok (.newarray .int, 2) := by decide +kernel
theorem dX1_init_40 : decode cX1_init 40 = .ok (.putfield 28, 3) := by decide +kernel
theorem dX1_init_43 : decode cX1_init 43 = .ok (.aload_n 0, 1) := by decide +kernel
theorem dX1_init_44 : decode cX1_init 44 = .ok (.bipush 20, 2) := by decide +kernel
theorem dX1_init_46 : decode cX1_init 46 = .ok (.newarray .int, 2) := by decide +kernel
theorem dX1_init_48 : decode cX1_init 48 = .ok (.putfield 31, 3) := by decide +kernel
theorem dX1_init_51 : decode cX1_init 51 = .ok (.aload_n 0, 1) := by decide +kernel
theorem dX1_init_52 : decode cX1_init 52 = .ok (.bipush 20, 2) := by decide +kernel
theorem dX1_init_54 : decode cX1_init 54 = .ok (.newarray .int, 2) := by decide +kernel
theorem dX1_init_56 : decode cX1_init 56 = .ok (.putfield 34, 3) := by decide +kernel
theorem dX1_init_59 : decode cX1_init 59 = .ok (.aload_n 0, 1) := by decide +kernel
theorem dX1_init_60 : decode cX1_init 60 = .ok (.bipush 20, 2) := by decide +kernel
theorem dX1_init_62 : decode cX1_init 62 = .ok (.newarray .int, 2) := by decide +kernel
theorem dX1_init_64 : decode cX1_init 64 = .ok (.putfield 37, 3) := by decide +kernel
theorem dX1_init_67 : decode cX1_init 67 = .ok (.return_, 1) := by decide +kernel
theorem dX2_init_0 : decode cX2_init 0 = .ok (.aload_n 0, 1) := by decide +kernel
theorem dX2_init_1 : decode cX2_init 1 = .ok (.invokespecial 3, 3) := by decide +kernel
theorem dX2_init_4 : decode cX2_init 4 = .ok (.aload_n 0, 1) := by decide +kernel
theorem dX2_init_5 : decode cX2_init 5 = .ok (.ldc2_w 9, 3) := by decide +kernel
theorem dX2_init_8 : decode cX2_init 8 = .ok (.putfield 11, 3) := by decide +kernel
theorem dX2_init_11 : decode cX2_init 11 = .ok (.aload_n 0, 1) := by decide +kernel
theorem dX2_init_12 : decode cX2_init 12 = .ok (.lconst 0, 1) := by decide +kernel
theorem dX2_init_13 : decode cX2_init 13 = .ok (.putfield 17, 3) := by decide +kernel
theorem dX2_init_16 : decode cX2_init 16 = .ok (.return_, 1) := by decide +kernel
set_option maxRecDepth 20000 in
theorem ggX3_init_X3_clear : GoodIn wsX3_init wsX3_clear := goodIn_r _ [15, 16, 17, 18, 19, 20, 21, 9, 22, 23, 24, 25, 26, 27, 28, 29, 30, 31, 32] (by decide +kernel) (by decide +kernel)
set_option maxRecDepth 20000 in
theorem gX3_init_X3_clear : GoodIn wsX3_init (wsV RX3 29 RX3 yX3_clear wsX3_clear) := goodIn_app (goodIn_of _ (by decide +kernel)) ggX3_init_X3_clear
theorem dX3_init_0 : decode cX3_init 0 = .ok (.aload_n 0, 1) := by decide +kernel
theorem dX3_init_1 : decode cX3_init 1 = .ok (.invokespecial 3, 3) := by decide +kernel
theorem dX3_init_4 : decode cX3_init 4 = .ok (.aload_n 0, 1) := by decide +kernel
theorem dX3_init_5 : decode cX3_init 5 = .ok (.iconst 4, 1) := by decide +kernel
theorem dX3_init_6 : decode cX3_init 6 = .ok (.newarray .int, 2) := by decide +kernel
theorem dX3_init_8 : decode cX3_init 8 = .ok (.putfield 9, 3) := by decide +kernel
theorem dX3_init_11 : decode cX3_init 11 = .ok (.aload_n 0, 1) := by decide +kernel
theorem dX3_init_12 : decode cX3_init 12 = .ok (.iconst 5, 1) := by decide +kernel
theorem dX3_init_13 : decode cX3_init 13 = .ok (.newarray .int, 2) := by decide +kernel
theorem dX3_init_15 : decode cX3_init 15 = .ok (.putfield 15, 3) := by decide +kernel
theorem dX3_init_18 : decode cX3_init 18 = .ok (.aload_n 0, 1) := by decide +kernel
theorem dX3_init_19 : decode cX3_init 19 = .ok (.iconst 5, 1) := by decide +kernel
theorem dX3_init_20 : decode cX3_init 20 = .ok (.iconst 4, 1) := by decide +kernel
theorem dX3_init_21 : decode cX3_init 21 = .ok (.multianewarray 18 2, 4) := by decide +kernel
theorem dX3_init_25 : decode cX3_init 25 = .ok (.putfield 20, 3) := by decide +kernel
theorem dX3_init_28 : decode cX3_init 28 = .ok (.aload_n 0, 1) := by decide +kernel
theorem dX3_init_29 : decode cX3_init 29 = .ok (.iconst 3, 1) := by decide +kernel
theorem dX3_init_30 : decode cX3_init 30 = .ok (.newarray .int, 2) := by decide +kernel
theorem dX3_init_32 : decode cX3_init 32 = .ok (.putfield 23, 3) := by decide +kernel
theorem dX3_init_35 : decode cX3_init 35 = .ok (.aload_n 0, 1) := by decide +kernel
theorem dX3_init_36 : decode cX3_init 36 = .ok (.iconst 2, 1) := by decide +kernel
theorem dX3_init_37 : decode cX3_init 37 = .ok (.newarray .int, 2) := by decide +kernel
theorem dX3_init_39 : decode cX3_init 39 = .ok (.putfield 26, 3) := by decide +kernel
theorem dX3_init_42 : decode cX3_init 42 = .ok (.aload_n 0, 1) := by decide +kernel
theorem dX3_init_43 : decode cX3_init 43 = .ok (.invokevirtual 29, 3) := by decide +kernel
theorem dX3_init_46 : decode cX3_init 46 = .ok (.return_, 1) := by decide +kernel
theorem dX3_clear_0 : decode cX3_clear 0 = .ok (.aload_n 0, 1) := by decide +kernel
theorem dX3_clear_1 : decode cX3_clear 1 = .ok (.iconst 0, 1) := by decide +kernel
theorem dX3_clear_2 : decode cX3_clear 2 = .ok (.putfield 32, 3) := by decide +kernel
theorem dX3_clear_5 : decode cX3_clear 5 = .ok (.aload_n 0, 1) := by decide +kernel
theorem dX3_clear_6 : decode cX3_clear 6 = .ok (.iconst 0, 1) := by decide +kernel
theorem dX3_clear_7 : decode cX3_clear 7 = .ok (.putfield 36, 3) := by decide +kernel
theorem dX3_clear_10 : decode cX3_clear 10 = .ok (.aload_n 0, 1) := by decide +kernel
theorem dX3_clear_11 : decode cX3_clear 11 = .ok (.bipush 10, 2) := by decide +kernel
theorem dX3_clear_13 : decode cX3_clear 13 = .ok (.putfield 39, 3) := by decide +kernel
theorem dX3_clear_16 : decode cX3_clear 16 = .ok (.aload_n 0, 1) := by decide +kernel
theorem dX3_clear_17 : decode cX3_clear 17 = .ok (.iconst 0, 1) := by decide +kernel
theorem dX3_clear_18 : decode cX3_clear 18 = .ok (.putfield 42, 3) := by decide +kernel
theorem dX3_clear_21 : decode cX3_clear 21 = .ok (.aload_n 0, 1) := by decide +kernel
theorem dX3_clear_22 : decode cX3_clear 22 = .ok (.iconst 0, 1) := by decide +kernel
theorem dX3_clear_23 : decode cX3_clear 23 = .ok (.putfield 45, 3) := by decide +kernel
theorem dX3_clear_26 : decode cX3_clear 26 = .ok (.aload_n 0, 1) := by decide +kernel
theorem dX3_clear_27 : decode cX3_clear 27 = .ok (.iconst 1, 1) := by decide +kernel
theorem dX3_clear_28 : decode cX3_clear 28 = .ok (.putfield 48, 3) := by decide +kernel
theorem dX3_clear_31 : decode cX3_clear 31 = .ok (.aload_n 0, 1) := by decide +kernel
theorem dX3_clear_32 : decode cX3_clear 32 = .ok (.getfield 23, 3) := by decide +kernel
theorem dX3_clear_35 : decode cX3_clear 35 = .ok (.iconst 0, 1) := by decide +kernel
theorem dX3_clear_36 : decode cX3_clear 36 = .ok (.iconst 1, 1) := by decide +kernel
theorem dX3_clear_37 : decode cX3_clear 37 = .ok (.iastore, 1) := by decide +kernel
theorem dX3_clear_38 : decode cX3_clear 38 = .ok (.return_, 1) := by decide +kernel
set_option maxRecDepth 20000 in
theorem ggX4_init_X8_init : GoodIn wsX4_init wsX8_init := goodIn_r _ [26, 27, 2, 3, 28, 4, 29, 11, 30, 31, 64, 65, 66, 67, 68, 69, 70] (by decide +kernel) (by decide +kernel)
set_option maxRecDepth 20000 in
theorem gX4_init_X8_init : GoodIn wsX4_init (wsX8_init) := ggX4_init_X8_init
set_option maxRecDepth 20000 in
theorem ggX4_init_X3_init : GoodIn wsX4_init wsX3_init := goodIn_r _ [34, 35, 2, 3, 11, 36, 37, 38, 39, 40, 41, 42, 43, 44, 19, 45, 46, 47, 48, 49, 50, 51, 71, 72, 73, 74, 75, 76, 77, 78, 79, 80, 81] (by decide +kernel) (by decide +kernel)
set_option maxRecDepth 20000 in
theorem gX4_init_X3_init : GoodIn wsX4_init (wsX3_init) := ggX4_init_X3_init
theorem dX4_init_0 : decode cX4_init 0 = .ok (.aload_n 0, 1) := by decide +kernel
theorem dX4_init_1 : decode cX4_init 1 = .ok (.invokespecial 3, 3) := by decide +kernel
theorem dX4_init_4 : decode cX4_init 4 = .ok (.aload_n 0, 1) := by decide +kernel
theorem dX4_init_5 : decode cX4_init 5 = .ok (.iconst 4, 1) := by decide +kernel
theorem dX4_init_6 : decode cX4_init 6 = .ok (.newarray .long, 2) := by decide +kernel
theorem dX4_init_8 : decode cX4_init 8 = .ok (.putfield 9, 3) := by decide +kernel
theorem dX4_init_11 : decode cX4_init 11 = .ok (.aload_n 0, 1) := by decide +kernel
theorem dX4_init_12 : decode cX4_init 12 = .ok (.lconst 1, 1) := by decide +kernel
theorem dX4_init_13 : decode cX4_init 13 = .ok (.putfield 15, 3) := by decide +kernel
theorem dX4_init_16 : decode cX4_init 16 = .ok (.aload_n 0, 1) := by decide +kernel
theorem dX4_init_17 : decode cX4_init 17 = .ok (.new 19, 3) := by decide +kernel
theorem dX4_init_20 : decode cX4_init 20 = .ok (.dup, 1) := by decide +kernel
theorem dX4_init_21 : decode cX4_init 21 = .ok (.invokespecial 21, 3) := by decide +kernel
theorem dX4_init_24 : decode cX4_init 24 = .ok (.putfield 22, 3) := by decide +kernel
theorem dX4_init_27 : decode cX4_init 27 = .ok (.aload_n 0, 1) := by decide +kernel
theorem dX4_init_28 : decode cX4_init 28 = .ok (.bipush 12, 2) := by decide +kernel
theorem dX4_init_30 : decode cX4_init 30 = .ok (.newarray .int, 2) := by decide +kernel
theorem dX4_init_32 : decode cX4_init 32 = .ok (.putfield 26, 3) := by decide +kernel
theorem dX4_init_35 : decode cX4_init 35 = .ok (.aload_n 0, 1) := by decide +kernel
theorem dX4_init_36 : decode cX4_init 36 = .ok (.bipush 12, 2) := by decide +kernel
theorem dX4_init_38 : decode cX4_init 38 = .ok (.newarray .int, 2) := by decide +kernel
theorem dX4_init_40 : decode cX4_init 40 = .ok (.putfield 30, 3) := by decide +kernel
theorem dX4_init_43 : decode cX4_init 43 = .ok (.aload_n 0, 1) := by decide +kernel
theorem dX4_init_44 : decode cX4_init 44 = .ok (.bipush 12, 2) := by decide +kernel
theorem dX4_init_46 : decode cX4_init 46 = .ok (.newarray .int, 2) := by decide +kernel
theorem dX4_init_48 : decode cX4_init 48 = .ok (.putfield 33, 3) := by decide +kernel
theorem dX4_init_51 : decode cX4_init 51 = .ok (.aload_n 0, 1) := by decide +kernel
theorem dX4_init_52 : decode cX4_init 52 = .ok (.iconst 0, 1) := by decide +kernel
theorem dX4_init_53 : decode cX4_init 53 = .ok (.putfield 36, 3) := by decide +kernel
theorem dX4_init_56 : decode cX4_init 56 = .ok (.aload_n 0, 1) := by decide +kernel
theorem dX4_init_57 : decode cX4_init 57 = .ok (.iconst 0, 1) := by decide +kernel
theorem dX4_init_58 : decode cX4_init 58 = .ok (.putfield 40, 3) := by decide +kernel
theorem dX4_init_61 : decode cX4_init 61 = .ok (.aload_n 0, 1) := by decide +kernel
theorem dX4_init_62 : decode cX4_init 62 = .ok (.new 43, 3) := by decide +kernel
theorem dX4_init_65 : decode cX4_init 65 = .ok (.dup, 1) := by decide +kernel
theorem dX4_init_66 : decode cX4_init 66 = .ok (.invokespecial 45, 3) := by decide +kernel
theorem dX4_init_69 : decode cX4_init 69 = .ok (.putfield 46, 3) := by decide +kernel
theorem dX4_init_72 : decode cX4_init 72 = .ok (.aload_n 0, 1) := by decide +kernel
theorem dX4_init_73 : decode cX4_init 73 = .ok (.iconst 0, 1) := by decide +kernel
theorem dX4_init_74 : decode cX4_init 74 = .ok (.putfield 50, 3) := by decide +kernel
theorem dX4_init_77 : decode cX4_init 77 = .ok (.aload_n 0, 1) := by decide +kernel
theorem dX4_init_78 : decode cX4_init 78 = .ok (.iconst (-1), 1) := by decide +kernel
theorem dX4_init_79 : decode cX4_init 79 = .ok (.putfield 53, 3) := by decide +kernel
theorem dX4_init_82 : decode cX4_init 82 = .ok (.aload_n 0, 1) := by decide +kernel
theorem dX4_init_83 : decode cX4_init 83 = .ok (.iconst (-1), 1) := by decide +kernel
theorem dX4_init_84 : decode cX4_init 84 = .ok (.putfield 56, 3) := by decide +kernel
theorem dX4_init_87 : decode cX4_init 87 = .ok (.return_, 1) := by decide +kernel
theorem dX5_init_0 : decode cX5_init 0 = .ok (.aload_n 0, 1) := by decide +kernel
theorem dX5_init_1 : decode cX5_init 1 = .ok (.invokespecial 1, 3) := by decide +kernel
theorem dX5_init_4 : decode cX5_init 4 = .ok (.return_, 1) := by decide +kernel
theorem dX6_init_0 : decode cX6_init 0 = .ok (.aload_n 0, 1) := by decide +kernel
theorem dX6_init_1 : decode cX6_init 1 = .ok (.invokespecial 3, 3) := by decide +kernel
theorem dX6_init_4 : decode cX6_init 4 = .ok (.aload_n 0, 1) := by decide +kernel
theorem dX6_init_5 : decode cX6_init 5 = .ok (.iconst 1, 1) := by decide +kernel
theorem dX6_init_6 : decode cX6_init 6 = .ok (.putfield 9, 3) := by decide +kernel
theorem dX6_init_9 : decode cX6_init 9 = .ok (.aload_n 0, 1) := by decide +kernel
theorem dX6_init_10 : decode cX6_init 10 = .ok (.iconst 5, 1) := by decide +kernel
theorem dX6_init_11 : decode cX6_init 11 = .ok (.newarray .int, 2) := by decide +kernel
theorem dX6_init_13 : decode cX6_init 13 = .ok (.putfield 15, 3) := by decide +kernel
theorem dX6_init_16 : decode cX6_init 16 = .ok (.aload_n 0, 1) := by decide +kernel
theorem dX6_init_17 : decode cX6_init 17 = .ok (.iconst 0, 1) := by decide +kernel
theorem dX6_init_18 : decode cX6_init 18 = .ok (.putfield 19, 3) := by decide +kernel
theorem dX6_init_21 : decode cX6_init 21 = .ok (.aload_n 0, 1) := by decide +kernel
theorem dX6_init_22 : decode cX6_init 22 = .ok (.iconst 5, 1) := by decide +kernel
theorem dX6_init_23 : decode cX6_init 23 = .ok (.newarray .int, 2) := by decide +kernel
theorem dX6_init_25 : decode cX6_init 25 = .ok (.putfield 22, 3) := by decide +kernel
theorem dX6_init_28 : decode cX6_init 28 = .ok (.return_, 1) := by decide +kernel
set_option maxRecDepth 20000 in
theorem ggX7_init_X3_init : GoodIn wsX7_init wsX3_init := goodIn_r _ [25, 26, 2, 3, 17, 27, 28, 29, 30, 31, 32, 33, 34, 35, 9, 36, 37, 38, 39, 40, 41, 42, 57, 58, 59, 60, 61, 62, 63, 64, 65, 66, 67] (by decide +kernel) (by decide +kernel)
set_option maxRecDepth 20000 in
theorem gX7_init_X3_init : GoodIn wsX7_init (wsX3_init) := ggX7_init_X3_init
theorem dX7_init_0 : decode cX7_init 0 = .ok (.aload_n 0, 1) := by decide +kernel
theorem dX7_init_1 : decode cX7_init 1 = .ok (.invokespecial 3, 3) := by decide +kernel
theorem dX7_init_4 : decode cX7_init 4 = .ok (.aload_n 0, 1) := by decide +kernel
theorem dX7_init_5 : decode cX7_init 5 = .ok (.iconst 0, 1) := by decide +kernel
theorem dX7_init_6 : decode cX7_init 6 = .ok (.putfield 9, 3) := by decide +kernel
theorem dX7_init_9 : decode cX7_init 9 = .ok (.aload_n 0, 1) := by decide +kernel
theorem dX7_init_10 : decode cX7_init 10 = .ok (.iconst 0, 1) := by decide +kernel
theorem dX7_init_11 : decode cX7_init 11 = .ok (.putfield 15, 3) := by decide +kernel
theorem dX7_init_14 : decode cX7_init 14 = .ok (.aload_n 0, 1) := by decide +kernel
theorem dX7_init_15 : decode cX7_init 15 = .ok (.iconst (-1), 1) := by decide +kernel
theorem dX7_init_16 : decode cX7_init 16 = .ok (.putfield 18, 3) := by decide +kernel
theorem dX7_init_19 : decode cX7_init 19 = .ok (.aload_n 0, 1) := by decide +kernel
theorem dX7_init_20 : decode cX7_init 20 = .ok (.new 21, 3) := by decide +kernel
theorem dX7_init_23 : decode cX7_init 23 = .ok (.dup, 1) := by decide +kernel
theorem dX7_init_24 : decode cX7_init 24 = .ok (.invokespecial 23, 3) := by decide +kernel
theorem dX7_init_27 : decode cX7_init 27 = .ok (.putfield 24, 3) := by decide +kernel
theorem dX7_init_30 : decode cX7_init 30 = .ok (.aload_n 0, 1) := by decide +kernel
theorem dX7_init_31 : decode cX7_init 31 = .ok (.sipush 900, 3) := by decide +kernel
theorem dX7_init_34 : decode cX7_init 34 = .ok (.newarray .byte, 2) := by decide +kernel
theorem dX7_init_36 : decode cX7_init 36 = .ok (.putfield 28, 3) := by decide +kernel
theorem dX7_init_39 : decode cX7_init 39 = .ok (.aload_n 0, 1) := by decide +kernel
theorem dX7_init_40 : decode cX7_init 40 = .ok (.iconst 0, 1) := by decide +kernel
theorem dX7_init_41 : decode cX7_init 41 = .ok (.putfield 32, 3) := by decide +kernel
theorem dX7_init_44 : decode cX7_init 44 = .ok (.aload_n 0, 1) := by decide +kernel
theorem dX7_init_45 : decode cX7_init 45 = .ok (.iconst 0, 1) := by decide +kernel
theorem dX7_init_46 : decode cX7_init 46 = .ok (.putfield 35, 3) := by decide +kernel
theorem dX7_init_49 : decode cX7_init 49 = .ok (.aload_n 0, 1) := by decide +kernel
theorem dX7_init_50 : decode cX7_init 50 = .ok (.iconst 0, 1) := by decide +kernel
theorem dX7_init_51 : decode cX7_init 51 = .ok (.putfield 38, 3) := by decide +kernel
theorem dX7_init_54 : decode cX7_init 54 = .ok (.aload_n 0, 1) := by decide +kernel
theorem dX7_init_55 : decode cX7_init 55 = .ok (.iconst 0, 1) := by decide +kernel
theorem dX7_init_56 : decode cX7_init 56 = .ok (.putfield 41, 3) := by decide +kernel
theorem dX7_init_59 : decode cX7_init 59 = .ok (.aload_n 0, 1) := by decide +kernel
theorem dX7_init_60 : decode cX7_init 60 = .ok (.iconst 5, 1) := by decide +kernel
theorem dX7_init_61 : decode cX7_init 61 = .ok (.newarray .int, 2) := by decide +kernel
theorem dX7_init_63 : decode cX7_init 63 = .ok (.putfield 44, 3) := by decide +kernel
theorem dX7_init_66 : decode cX7_init 66 = .ok (.aload_n 0, 1) := by decide +kernel
theorem dX7_init_67 : decode cX7_init 67 = .ok (.iconst 5, 1) := by decide +kernel
theorem dX7_init_68 : decode cX7_init 68 = .ok (.newarray .int, 2) := by decide +kernel
theorem dX7_init_70 : decode cX7_init 70 = .ok (.putfield 48, 3) := by decide +kernel
theorem dX7_init_73 : decode cX7_init 73 = .ok (.aload_n 0, 1) := by decide +kernel
theorem dX7_init_74 : decode cX7_init 74 = .ok (.iconst 0, 1) := by decide +kernel
theorem dX7_init_75 : decode cX7_init 75 = .ok (.putfield 51, 3) := by decide +kernel
theorem dX7_init_78 : decode cX7_init 78 = .ok (.aload_n 0, 1) := by decide +kernel
theorem dX7_init_79 : decode cX7_init 79 = .ok (.iconst 0, 1) := by decide +kernel
theorem dX7_init_80 : decode cX7_init 80 = .ok (.putfield 55, 3) := by decide +kernel
theorem dX7_init_83 : decode cX7_init 83 = .ok (.aload_n 0, 1) := by decide +kernel
theorem dX7_init_84 : decode cX7_init 84 = .ok (.iconst 0, 1) := by decide +kernel
theorem dX7_init_85 : decode cX7_init 85 = .ok (.putfield 58, 3) := by decide +kernel
theorem dX7_init_88 : decode cX7_init 88 = .ok (.return_, 1) := by decide +kernel
theorem dX8_init_0 : decode cX8_init 0 = .ok (.aload_n 0, 1) := by decide +kernel
theorem dX8_init_1 : decode cX8_init 1 = .ok (.invokespecial 3, 3) := by decide +kernel
theorem dX8_init_4 : decode cX8_init 4 = .ok (.aload_n 0, 1) := by decide +kernel
theorem dX8_init_5 : decode cX8_init 5 = .ok (.bipush 18, 2) := by decide +kernel
theorem dX8_init_7 : decode cX8_init 7 = .ok (.bipush 13, 2) := by decide +kernel
theorem dX8_init_9 : decode cX8_init 9 = .ok (.multianewarray 11 2, 4) := by decide +kernel
theorem dX8_init_13 : decode cX8_init 13 = .ok (.putfield 13, 3) := by decide +kernel
theorem dX8_init_16 : decode cX8_init 16 = .ok (.aload_n 0, 1) := by decide +kernel
theorem dX8_init_17 : decode cX8_init 17 = .ok (.bipush 18, 2) := by decide +kernel
theorem dX8_init_19 : decode cX8_init 19 = .ok (.newarray .int, 2) := by decide +kernel
theorem dX8_init_21 : decode cX8_init 21 = .ok (.putfield 16, 3) := by decide +kernel
theorem dX8_init_24 : decode cX8_init 24 = .ok (.aload_n 0, 1) := by decide +kernel
theorem dX8_init_25 : decode cX8_init 25 = .ok (.bipush 13, 2) := by decide +kernel
theorem dX8_init_27 : decode cX8_init 27 = .ok (.newarray .int, 2) := by decide +kernel
theorem dX8_init_29 : decode cX8_init 29 = .ok (.putfield 20, 3) := by decide +kernel
theorem dX8_init_32 : decode cX8_init 32 = .ok (.return_, 1) := by decide +kernel
set_option maxRecDepth 20000 in
theorem ggX9_init_X7_init : GoodIn wsX9_init wsX7_init := goodIn_r _ [46, 47, 2, 3, 48, 49, 50, 51, 9, 10, 52, 53, 54, 55, 56, 57, 58, 12, 59, 60, 61, 62, 63, 64, 65, 66, 67, 68, 69, 70, 71, 72, 73, 74, 75, 76, 77, 78, 79, 80, 81, 82, 83, 160, 161, 162, 163, 164, 165, 166, 167, 168, 169, 170, 171, 172, 173, 188, 189, 190, 191, 192, 193, 194, 195, 196, 197, 198] (by decide +kernel) (by decide +kernel)
set_option maxRecDepth 20000 in
theorem gX9_init_X7_init : GoodIn wsX9_init (wsX7_init) := ggX9_init_X7_init
set_option maxRecDepth 20000 in
theorem ggX9_init_X3_init : GoodIn wsX9_init wsX3_init := goodIn_r _ [66, 67, 2, 3, 12, 68, 69, 70, 71, 72, 73, 74, 75, 76, 10, 77, 78, 79, 80, 81, 82, 83, 188, 189, 190, 191, 192, 193, 194, 195, 196, 197, 198] (by decide +kernel) (by decide +kernel)
set_option maxRecDepth 20000 in
theorem gX9_init_X3_init : GoodIn wsX9_init (wsX3_init) := ggX9_init_X3_init
set_option maxRecDepth 20000 in
theorem ggX9_init_X2_init : GoodIn wsX9_init wsX2_init := goodIn_r _ [87, 88, 2, 3, 89, 90, 91, 199, 200] (by decide +kernel) (by decide +kernel)
set_option maxRecDepth 20000 in
theorem gX9_init_X2_init : GoodIn wsX9_init (wsX2_init) := ggX9_init_X2_init
set_option maxRecDepth 20000 in
theorem ggX9_init_X4_init : GoodIn wsX9_init wsX4_init := goodIn_r _ [94, 95, 2, 3, 20, 96, 97, 98, 99, 100, 101, 12, 102, 103, 104, 105, 106, 107, 9, 10, 108, 109, 110, 111, 112, 113, 114, 115, 116, 117, 118, 119, 120, 65, 66, 67, 68, 69, 70, 71, 72, 73, 74, 75, 76, 77, 78, 79, 80, 81, 82, 83, 201, 202, 203, 204, 205, 206, 207, 208, 209, 210, 211, 212, 242, 243, 244, 245, 246, 247, 248, 188, 189, 190, 191, 192, 193, 194, 195, 196, 197, 198] (by decide +kernel) (by decide +kernel)
set_option maxRecDepth 20000 in
theorem gX9_init_X4_init : GoodIn wsX9_init (wsX4_init) := ggX9_init_X4_init
set_option maxRecDepth 20000 in
theorem ggX9_init_X5_init : GoodIn wsX9_init wsX5_init := goodIn_r _ [123, 124, 2, 3] (by decide +kernel) (by decide +kernel)
set_option maxRecDepth 20000 in
theorem gX9_init_X5_init : GoodIn wsX9_init (wsX5_init) := ggX9_init_X5_init
set_option maxRecDepth 20000 in
theorem ggX9_init_X0_init : GoodIn wsX9_init wsX0_init := goodIn_r _ [127, 128, 2, 3, 12, 129, 130, 131, 132, 133, 134, 135, 136, 137, 138, 218, 219, 220, 221, 222, 223, 224, 225, 226, 227, 228] (by decide +kernel) (by decide +kernel)
set_option maxRecDepth 20000 in
theorem gX9_init_X0_init : GoodIn wsX9_init (wsX0_init) := ggX9_init_X0_init
set_option maxRecDepth 20000 in
theorem ggX9_init_X6_init : GoodIn wsX9_init wsX6_init := goodIn_r _ [141, 142, 2, 3, 143, 12, 144, 145, 146, 229, 230, 231, 232] (by decide +kernel) (by decide +kernel)
set_option maxRecDepth 20000 in
theorem gX9_init_X6_init : GoodIn wsX9_init (wsX6_init) := ggX9_init_X6_init
set_option maxRecDepth 20000 in
theorem ggX9_init_X1_init : GoodIn wsX9_init wsX1_init := goodIn_r _ [149, 150, 2, 3, 151, 152, 153, 12, 154, 155, 156, 157, 158, 159, 233, 234, 235, 236, 237, 238, 239, 240, 241] (by decide +kernel) (by decide +kernel)
set_option maxRecDepth 20000 in
theorem gX9_init_X1_init : GoodIn wsX9_init (wsX1_init) := ggX9_init_X1_init
theorem dX9_init_0 : decode cX9_init 0 = .ok (.aload_n 0, 1) := by decide +kernel
theorem dX9_init_1 : decode cX9_init 1 = .ok (.invokespecial 1, 3) := by decide +kernel
theorem dX9_init_4 : decode cX9_init 4 = .ok (.aload_n 0, 1) := by decide +kernel
theorem dX9_init_5 : decode cX9_init 5 = .ok (.new 7, 3) := by decide +kernel
theorem dX9_init_8 : decode cX9_init 8 = .ok (.dup, 1) := by decide +kernel
theorem dX9_init_9 : decode cX9_init 9 = .ok (.invokespecial 9, 3) := by decide +kernel
theorem dX9_init_12 : decode cX9_init 12 = .ok (.putfield 10, 3) := by decide +kernel
theorem dX9_init_15 : decode cX9_init 15 = .ok (.aload_n 0, 1) := by decide +kernel
theorem dX9_init_16 : decode cX9_init 16 = .ok (.new 16, 3) := by decide +kernel
theorem dX9_init_19 : decode cX9_init 19 = .ok (.dup, 1) := by decide +kernel
theorem dX9_init_20 : decode cX9_init 20 = .ok (.invokespecial 18, 3) := by decide +kernel
theorem dX9_init_23 : decode cX9_init 23 = .ok (.putfield 19, 3) := by decide +kernel
theorem dX9_init_26 : decode cX9_init 26 = .ok (.aload_n 0, 1) := by decide +kernel
theorem dX9_init_27 : decode cX9_init 27 = .ok (.iconst 4, 1) := by decide +kernel
theorem dX9_init_28 : decode cX9_init 28 = .ok (.newarray .int, 2) := by decide +kernel
theorem dX9_init_30 : decode cX9_init 30 = .ok (.putfield 23, 3) := by decide +kernel
theorem dX9_init_33 : decode cX9_init 33 = .ok (.aload_n 0, 1) := by decide +kernel
theorem dX9_init_34 : decode cX9_init 34 = .ok (.new 27, 3) := by decide +kernel
theorem dX9_init_37 : decode cX9_init 37 = .ok (.dup, 1) := by decide +kernel
theorem dX9_init_38 : decode cX9_init 38 = .ok (.invokespecial 29, 3) := by decide +kernel
theorem dX9_init_41 : decode cX9_init 41 = .ok (.putfield 30, 3) := by decide +kernel
theorem dX9_init_44 : decode cX9_init 44 = .ok (.aload_n 0, 1) := by decide +kernel
theorem dX9_init_45 : decode cX9_init 45 = .ok (.new 27, 3) := by decide +kernel
theorem dX9_init_48 : decode cX9_init 48 = .ok (.dup, 1) := by decide +kernel
theorem dX9_init_49 : decode cX9_init 49 = .ok (.invokespecial 29, 3) := by decide +kernel
theorem dX9_init_52 : decode cX9_init 52 = .ok (.putfield 34, 3) := by decide +kernel
theorem dX9_init_55 : decode cX9_init 55 = .ok (.aload_n 0, 1) := by decide +kernel
theorem dX9_init_56 : decode cX9_init 56 = .ok (.new 27, 3) := by decide +kernel
theorem dX9_init_59 : decode cX9_init 59 = .ok (.dup, 1) := by decide +kernel
theorem dX9_init_60 : decode cX9_init 60 = .ok (.invokespecial 29, 3) := by decide +kernel
theorem dX9_init_63 : decode cX9_init 63 = .ok (.putfield 37, 3) := by decide +kernel
theorem dX9_init_66 : decode cX9_init 66 = .ok (.aload_n 0, 1) := by decide +kernel
theorem dX9_init_67 : decode cX9_init 67 = .ok (.iconst 4, 1) := by decide +kernel
theorem dX9_init_68 : decode cX9_init 68 = .ok (.newarray .long, 2) := by decide +kernel
theorem dX9_init_70 : decode cX9_init 70 = .ok (.putfield 40, 3) := by decide +kernel
theorem dX9_init_73 : decode cX9_init 73 = .ok (.aload_n 0, 1) := by decide +kernel
theorem dX9_init_74 : decode cX9_init 74 = .ok (.iconst 4, 1) := by decide +kernel
theorem dX9_init_75 : decode cX9_init 75 = .ok (.newarray .long, 2) := by decide +kernel
theorem dX9_init_77 : decode cX9_init 77 = .ok (.putfield 44, 3) := by decide +kernel
theorem dX9_init_80 : decode cX9_init 80 = .ok (.aload_n 0, 1) := by decide +kernel
theorem dX9_init_81 : decode cX9_init 81 = .ok (.iconst 0, 1) := by decide +kernel
theorem dX9_init_82 : decode cX9_init 82 = .ok (.putfield 47, 3) := by decide +kernel
theorem dX9_init_85 : decode cX9_init 85 = .ok (.aload_n 0, 1) := by decide +kernel
theorem dX9_init_86 : decode cX9_init 86 = .ok (.new 51, 3) := by decide +kernel
theorem dX9_init_89 : decode cX9_init 89 = .ok (.dup, 1) := by decide +kernel
theorem dX9_init_90 : decode cX9_init 90 = .ok (.invokespecial 53, 3) := by decide +kernel
theorem dX9_init_93 : decode cX9_init 93 = .ok (.putfield 54, 3) := by decide +kernel
theorem dX9_init_96 : decode cX9_init 96 = .ok (.aload_n 0, 1) := by decide +kernel
theorem dX9_init_97 : decode cX9_init 97 = .ok (.new 58, 3) := by decide +kernel
theorem dX9_init_100 : decode cX9_init 100 = .ok (.dup, 1) := by decide +kernel
theorem dX9_init_101 : decode cX9_init 101 = .ok (.invokespecial 60, 3) := by decide +kernel
theorem dX9_init_104 : decode cX9_init 104 = .ok (.putfield 61, 3) := by decide +kernel
theorem dX9_init_107 : decode cX9_init 107 = .ok (.aload_n 0, 1) := by decide +kernel
theorem dX9_init_108 : decode cX9_init 108 = .ok (.new 65, 3) := by decide +kernel
theorem dX9_init_111 : decode cX9_init 111 = .ok (.dup, 1) := by decide +kernel
theorem dX9_init_112 : decode cX9_init 112 = .ok (.invokespecial 67, 3) := by decide +kernel
theorem dX9_init_115 : decode cX9_init 115 = .ok (.putfield 68, 3) := by decide +kernel
theorem dX9_init_118 : decode cX9_init 118 = .ok (.aload_n 0, 1) := by decide +kernel
theorem dX9_init_119 : decode cX9_init 119 = .ok (.new 72, 3) := by decide +kernel
theorem dX9_init_122 : decode cX9_init 122 = .ok (.dup, 1) := by decide +kernel
theorem dX9_init_123 : decode cX9_init 123 = .ok (.invokespecial 74, 3) := by decide +kernel
theorem dX9_init_126 : decode cX9_init 126 = .ok (.putfield 75, 3) := by decide +kernel
theorem dX9_init_129 : decode cX9_init 129 = .ok (.aload_n 0, 1) := by decide +kernel
theorem dX9_init_130 : decode cX9_init 130 = .ok (.new 79, 3) := by decide +kernel
theorem dX9_init_133 : decode cX9_init 133 = .ok (.dup, 1) := by decide +kernel
theorem dX9_init_134 : decode cX9_init 134 = .ok (.invokespecial 81, 3) := by decide +kernel
theorem dX9_init_137 : decode cX9_init 137 = .ok (.putfield 82, 3) := by decide +kernel
theorem dX9_init_140 : decode cX9_init 140 = .ok (.return_, 1) := by decide +kernel
abbrev vwCl : List vw_C := [(RX0, TX0, 11), (RX1, TX1, 9), (RX2, TX2, 2), (RX3, TX3, 11), (RX4, TX4, 12), (RX5, TX5, 5), (RX6, TX6, 4), (RX7, TX7, 14), (RX8, TX8, 7), (RX9, TX9, 14), (RX10, TX10, 65)]
theorem kk_X9_init_0 : Cond.methodLink RX9 1 objectInit ∈ wsX9_init := by decide +kernel
theorem kk_X9_init_1 : Cond.instanceMethod objectInit ∈ wsX9_init := by decide +kernel
theorem kk_X9_init_2 : Cond.code objectInit ⟨#[0xb1]⟩ 1 none ∈ wsX9_init := by decide +kernel
theorem kk_X9_init_3 : Cond.classLink RX9 7 RX7 ∈ wsX9_init := by decide +kernel
theorem kk_X9_init_4 : Cond.instantiable RX7 14 ∈ wsX9_init := by decide +kernel
theorem kk_X9_init_5 : Cond.initialized RX7 ∈ wsX9_init := by decide +kernel
theorem kk_X7_init_0 : Cond.methodLink RX7 3 objectInit ∈ wsX7_init := by decide +kernel
theorem kk_X7_init_1 : Cond.instanceMethod objectInit ∈ wsX7_init := by decide +kernel
theorem kk_X7_init_2 : Cond.code objectInit ⟨#[0xb1]⟩ 1 none ∈ wsX7_init := by decide +kernel
theorem kk_X7_init_3 : Cond.fieldLink RX7 9 "PaidBySigns$Reader" "length" "I" ∈ wsX7_init := by decide +kernel
theorem kk_X7_init_4 : Cond.fieldLink RX7 15 "PaidBySigns$Reader" "faultKind" "I" ∈ wsX7_init := by decide +kernel
theorem kk_X7_init_5 : Cond.fieldLink RX7 18 "PaidBySigns$Reader" "faultPlace" "I" ∈ wsX7_init := by decide +kernel
theorem kk_X7_init_6 : Cond.classLink RX7 21 RX3 ∈ wsX7_init := by decide +kernel
theorem kk_X7_init_7 : Cond.instantiable RX3 11 ∈ wsX7_init := by decide +kernel
theorem kk_X7_init_8 : Cond.initialized RX3 ∈ wsX7_init := by decide +kernel
theorem kk_X3_init_0 : Cond.methodLink RX3 3 objectInit ∈ wsX3_init := by decide +kernel
theorem kk_X3_init_1 : Cond.instanceMethod objectInit ∈ wsX3_init := by decide +kernel
theorem kk_X3_init_2 : Cond.code objectInit ⟨#[0xb1]⟩ 1 none ∈ wsX3_init := by decide +kernel
theorem kk_X3_init_3 : Cond.arrayClass .int ∈ wsX3_init := by decide +kernel
theorem kk_X3_init_4 : Cond.fieldLink RX3 9 "PaidBySigns$Hire" "brings" "[I" ∈ wsX3_init := by decide +kernel
theorem kk_X3_init_5 : Cond.fieldLink RX3 15 "PaidBySigns$Hire" "costs" "[I" ∈ wsX3_init := by decide +kernel
theorem kk_X3_init_6 : Cond.classLink RX3 18 "[[I" ∈ wsX3_init := by decide +kernel
theorem kk_X3_init_7 : Cond.fieldLink RX3 20 "PaidBySigns$Hire" "chances" "[[I" ∈ wsX3_init := by decide +kernel
theorem kk_X3_init_8 : Cond.fieldLink RX3 23 "PaidBySigns$Hire" "rate" "[I" ∈ wsX3_init := by decide +kernel
theorem kk_X3_init_9 : Cond.fieldLink RX3 26 "PaidBySigns$Hire" "mark" "[I" ∈ wsX3_init := by decide +kernel
theorem kk_X3_clear_0 : Cond.fieldLink RX3 32 "PaidBySigns$Hire" "signs" "I" ∈ wsX3_clear := by decide +kernel
theorem kk_X3_clear_1 : Cond.fieldLink RX3 36 "PaidBySigns$Hire" "works" "I" ∈ wsX3_clear := by decide +kernel
theorem kk_X3_clear_2 : Cond.fieldLink RX3 39 "PaidBySigns$Hire" "whole" "I" ∈ wsX3_clear := by decide +kernel
theorem kk_X3_clear_3 : Cond.fieldLink RX3 42 "PaidBySigns$Hire" "otherwise" "I" ∈ wsX3_clear := by decide +kernel
theorem kk_X3_clear_4 : Cond.fieldLink RX3 45 "PaidBySigns$Hire" "least" "I" ∈ wsX3_clear := by decide +kernel
theorem kk_X3_clear_5 : Cond.fieldLink RX3 48 "PaidBySigns$Hire" "rates" "I" ∈ wsX3_clear := by decide +kernel
theorem kk_X3_clear_6 : Cond.fieldLink RX3 23 "PaidBySigns$Hire" "rate" "[I" ∈ wsX3_clear := by decide +kernel
theorem kk_X7_init_9 : Cond.methodLink RX7 23 yX3_init ∈ wsX7_init := by decide +kernel
theorem kk_X7_init_10 : Cond.instanceMethod yX3_init ∈ wsX7_init := by decide +kernel
theorem kk_X7_init_11 : Cond.fieldLink RX7 24 "PaidBySigns$Reader" "into" "LPaidBySigns$Hire;" ∈ wsX7_init := by decide +kernel
theorem kk_X7_init_12 : Cond.arrayClass .byte ∈ wsX7_init := by decide +kernel
theorem kk_X7_init_13 : Cond.fieldLink RX7 28 "PaidBySigns$Reader" "text" "[B" ∈ wsX7_init := by decide +kernel
theorem kk_X7_init_14 : Cond.fieldLink RX7 32 "PaidBySigns$Reader" "next" "I" ∈ wsX7_init := by decide +kernel
theorem kk_X7_init_15 : Cond.fieldLink RX7 35 "PaidBySigns$Reader" "token" "I" ∈ wsX7_init := by decide +kernel
theorem kk_X7_init_16 : Cond.fieldLink RX7 38 "PaidBySigns$Reader" "start" "I" ∈ wsX7_init := by decide +kernel
theorem kk_X7_init_17 : Cond.fieldLink RX7 41 "PaidBySigns$Reader" "value" "I" ∈ wsX7_init := by decide +kernel
theorem kk_X7_init_18 : Cond.arrayClass .int ∈ wsX7_init := by decide +kernel
theorem kk_X7_init_19 : Cond.fieldLink RX7 44 "PaidBySigns$Reader" "nameStart" "[I" ∈ wsX7_init := by decide +kernel
theorem kk_X7_init_20 : Cond.fieldLink RX7 48 "PaidBySigns$Reader" "nameEnd" "[I" ∈ wsX7_init := by decide +kernel
theorem kk_X7_init_21 : Cond.fieldLink RX7 51 "PaidBySigns$Reader" "hasElse" "Z" ∈ wsX7_init := by decide +kernel
theorem kk_X7_init_22 : Cond.fieldLink RX7 55 "PaidBySigns$Reader" "hasLeast" "Z" ∈ wsX7_init := by decide +kernel
theorem kk_X7_init_23 : Cond.fieldLink RX7 58 "PaidBySigns$Reader" "hasFeel" "Z" ∈ wsX7_init := by decide +kernel
theorem kk_X9_init_6 : Cond.methodLink RX9 9 yX7_init ∈ wsX9_init := by decide +kernel
theorem kk_X9_init_7 : Cond.instanceMethod yX7_init ∈ wsX9_init := by decide +kernel
theorem kk_X9_init_8 : Cond.fieldLink RX9 10 "PaidBySigns" "reader" "LPaidBySigns$Reader;" ∈ wsX9_init := by decide +kernel
theorem kk_X9_init_9 : Cond.classLink RX9 16 RX3 ∈ wsX9_init := by decide +kernel
theorem kk_X9_init_10 : Cond.instantiable RX3 11 ∈ wsX9_init := by decide +kernel
theorem kk_X9_init_11 : Cond.initialized RX3 ∈ wsX9_init := by decide +kernel
theorem kk_X9_init_12 : Cond.methodLink RX9 18 yX3_init ∈ wsX9_init := by decide +kernel
theorem kk_X9_init_13 : Cond.instanceMethod yX3_init ∈ wsX9_init := by decide +kernel
theorem kk_X9_init_14 : Cond.fieldLink RX9 19 "PaidBySigns" "hire" "LPaidBySigns$Hire;" ∈ wsX9_init := by decide +kernel
theorem kk_X9_init_15 : Cond.arrayClass .int ∈ wsX9_init := by decide +kernel
theorem kk_X9_init_16 : Cond.fieldLink RX9 23 "PaidBySigns" "hand" "[I" ∈ wsX9_init := by decide +kernel
theorem kk_X9_init_17 : Cond.classLink RX9 27 RX2 ∈ wsX9_init := by decide +kernel
theorem kk_X9_init_18 : Cond.instantiable RX2 2 ∈ wsX9_init := by decide +kernel
theorem kk_X9_init_19 : Cond.initialized RX2 ∈ wsX9_init := by decide +kernel
theorem kk_X2_init_0 : Cond.methodLink RX2 3 objectInit ∈ wsX2_init := by decide +kernel
theorem kk_X2_init_1 : Cond.instanceMethod objectInit ∈ wsX2_init := by decide +kernel
theorem kk_X2_init_2 : Cond.code objectInit ⟨#[0xb1]⟩ 1 none ∈ wsX2_init := by decide +kernel
theorem kk_X2_init_3 : Cond.constantLong RX2 9 (-2000000000) ∈ wsX2_init := by decide +kernel
theorem kk_X2_init_4 : Cond.fieldLink RX2 11 "PaidBySigns$Fraction" "upper" "J" ∈ wsX2_init := by decide +kernel
theorem kk_X2_init_5 : Cond.fieldLink RX2 17 "PaidBySigns$Fraction" "lower" "J" ∈ wsX2_init := by decide +kernel
theorem kk_X9_init_20 : Cond.methodLink RX9 29 yX2_init ∈ wsX9_init := by decide +kernel
theorem kk_X9_init_21 : Cond.instanceMethod yX2_init ∈ wsX9_init := by decide +kernel
theorem kk_X9_init_22 : Cond.fieldLink RX9 30 "PaidBySigns" "latest" "LPaidBySigns$Fraction;" ∈ wsX9_init := by decide +kernel
theorem kk_X9_init_23 : Cond.fieldLink RX9 34 "PaidBySigns" "trial" "LPaidBySigns$Fraction;" ∈ wsX9_init := by decide +kernel
theorem kk_X9_init_24 : Cond.fieldLink RX9 37 "PaidBySigns" "champion" "LPaidBySigns$Fraction;" ∈ wsX9_init := by decide +kernel
theorem kk_X9_init_25 : Cond.arrayClass .long ∈ wsX9_init := by decide +kernel
theorem kk_X9_init_26 : Cond.fieldLink RX9 40 "PaidBySigns" "wageUpper" "[J" ∈ wsX9_init := by decide +kernel
theorem kk_X9_init_27 : Cond.fieldLink RX9 44 "PaidBySigns" "wageLower" "[J" ∈ wsX9_init := by decide +kernel
theorem kk_X9_init_28 : Cond.fieldLink RX9 47 "PaidBySigns" "hasWages" "Z" ∈ wsX9_init := by decide +kernel
theorem kk_X9_init_29 : Cond.classLink RX9 51 RX4 ∈ wsX9_init := by decide +kernel
theorem kk_X9_init_30 : Cond.instantiable RX4 12 ∈ wsX9_init := by decide +kernel
theorem kk_X9_init_31 : Cond.initialized RX4 ∈ wsX9_init := by decide +kernel
theorem kk_X4_init_0 : Cond.methodLink RX4 3 objectInit ∈ wsX4_init := by decide +kernel
theorem kk_X4_init_1 : Cond.instanceMethod objectInit ∈ wsX4_init := by decide +kernel
theorem kk_X4_init_2 : Cond.code objectInit ⟨#[0xb1]⟩ 1 none ∈ wsX4_init := by decide +kernel
theorem kk_X4_init_3 : Cond.arrayClass .long ∈ wsX4_init := by decide +kernel
theorem kk_X4_init_4 : Cond.fieldLink RX4 9 "PaidBySigns$LeastCost" "above" "[J" ∈ wsX4_init := by decide +kernel
theorem kk_X4_init_5 : Cond.fieldLink RX4 15 "PaidBySigns$LeastCost" "aboveLower" "J" ∈ wsX4_init := by decide +kernel
theorem kk_X4_init_6 : Cond.classLink RX4 19 RX8 ∈ wsX4_init := by decide +kernel
theorem kk_X4_init_7 : Cond.instantiable RX8 7 ∈ wsX4_init := by decide +kernel
theorem kk_X4_init_8 : Cond.initialized RX8 ∈ wsX4_init := by decide +kernel
theorem kk_X8_init_0 : Cond.methodLink RX8 3 objectInit ∈ wsX8_init := by decide +kernel
theorem kk_X8_init_1 : Cond.instanceMethod objectInit ∈ wsX8_init := by decide +kernel
theorem kk_X8_init_2 : Cond.code objectInit ⟨#[0xb1]⟩ 1 none ∈ wsX8_init := by decide +kernel
theorem kk_X8_init_3 : Cond.classLink RX8 11 "[[J" ∈ wsX8_init := by decide +kernel
theorem kk_X8_init_4 : Cond.arrayClass .long ∈ wsX8_init := by decide +kernel
theorem kk_X8_init_5 : Cond.fieldLink RX8 13 "PaidBySigns$Table" "entry" "[[J" ∈ wsX8_init := by decide +kernel
theorem kk_X8_init_6 : Cond.arrayClass .int ∈ wsX8_init := by decide +kernel
theorem kk_X8_init_7 : Cond.fieldLink RX8 16 "PaidBySigns$Table" "lineName" "[I" ∈ wsX8_init := by decide +kernel
theorem kk_X8_init_8 : Cond.fieldLink RX8 20 "PaidBySigns$Table" "columnName" "[I" ∈ wsX8_init := by decide +kernel
theorem kk_X4_init_9 : Cond.methodLink RX4 21 yX8_init ∈ wsX4_init := by decide +kernel
theorem kk_X4_init_10 : Cond.instanceMethod yX8_init ∈ wsX4_init := by decide +kernel
theorem kk_X4_init_11 : Cond.fieldLink RX4 22 "PaidBySigns$LeastCost" "table" "LPaidBySigns$Table;" ∈ wsX4_init := by decide +kernel
theorem kk_X4_init_12 : Cond.arrayClass .int ∈ wsX4_init := by decide +kernel
theorem kk_X4_init_13 : Cond.fieldLink RX4 26 "PaidBySigns$LeastCost" "columnSign" "[I" ∈ wsX4_init := by decide +kernel
theorem kk_X4_init_14 : Cond.fieldLink RX4 30 "PaidBySigns$LeastCost" "columnRate" "[I" ∈ wsX4_init := by decide +kernel
theorem kk_X4_init_15 : Cond.fieldLink RX4 33 "PaidBySigns$LeastCost" "columnRoom" "[I" ∈ wsX4_init := by decide +kernel
theorem kk_X4_init_16 : Cond.fieldLink RX4 36 "PaidBySigns$LeastCost" "columns" "I" ∈ wsX4_init := by decide +kernel
theorem kk_X4_init_17 : Cond.fieldLink RX4 40 "PaidBySigns$LeastCost" "rooms" "I" ∈ wsX4_init := by decide +kernel
theorem kk_X4_init_18 : Cond.classLink RX4 43 RX3 ∈ wsX4_init := by decide +kernel
theorem kk_X4_init_19 : Cond.instantiable RX3 11 ∈ wsX4_init := by decide +kernel
theorem kk_X4_init_20 : Cond.initialized RX3 ∈ wsX4_init := by decide +kernel
theorem kk_X4_init_21 : Cond.methodLink RX4 45 yX3_init ∈ wsX4_init := by decide +kernel
theorem kk_X4_init_22 : Cond.instanceMethod yX3_init ∈ wsX4_init := by decide +kernel
theorem kk_X4_init_23 : Cond.fieldLink RX4 46 "PaidBySigns$LeastCost" "hire" "LPaidBySigns$Hire;" ∈ wsX4_init := by decide +kernel
theorem kk_X4_init_24 : Cond.fieldLink RX4 50 "PaidBySigns$LeastCost" "work" "I" ∈ wsX4_init := by decide +kernel
theorem kk_X4_init_25 : Cond.fieldLink RX4 53 "PaidBySigns$LeastCost" "keptSign" "I" ∈ wsX4_init := by decide +kernel
theorem kk_X4_init_26 : Cond.fieldLink RX4 56 "PaidBySigns$LeastCost" "joinedSign" "I" ∈ wsX4_init := by decide +kernel
theorem kk_X9_init_32 : Cond.methodLink RX9 53 yX4_init ∈ wsX9_init := by decide +kernel
theorem kk_X9_init_33 : Cond.instanceMethod yX4_init ∈ wsX9_init := by decide +kernel
theorem kk_X9_init_34 : Cond.fieldLink RX9 54 "PaidBySigns" "cheapest" "LPaidBySigns$LeastCost;" ∈ wsX9_init := by decide +kernel
theorem kk_X9_init_35 : Cond.classLink RX9 58 RX5 ∈ wsX9_init := by decide +kernel
theorem kk_X9_init_36 : Cond.instantiable RX5 5 ∈ wsX9_init := by decide +kernel
theorem kk_X9_init_37 : Cond.initialized RX5 ∈ wsX9_init := by decide +kernel
theorem kk_X5_init_0 : Cond.methodLink RX5 1 objectInit ∈ wsX5_init := by decide +kernel
theorem kk_X5_init_1 : Cond.instanceMethod objectInit ∈ wsX5_init := by decide +kernel
theorem kk_X5_init_2 : Cond.code objectInit ⟨#[0xb1]⟩ 1 none ∈ wsX5_init := by decide +kernel
theorem kk_X9_init_38 : Cond.methodLink RX9 60 yX5_init ∈ wsX9_init := by decide +kernel
theorem kk_X9_init_39 : Cond.instanceMethod yX5_init ∈ wsX9_init := by decide +kernel
theorem kk_X9_init_40 : Cond.fieldLink RX9 61 "PaidBySigns" "oneSum" "LPaidBySigns$OneSum;" ∈ wsX9_init := by decide +kernel
theorem kk_X9_init_41 : Cond.classLink RX9 65 RX0 ∈ wsX9_init := by decide +kernel
theorem kk_X9_init_42 : Cond.instantiable RX0 11 ∈ wsX9_init := by decide +kernel
theorem kk_X9_init_43 : Cond.initialized RX0 ∈ wsX9_init := by decide +kernel
theorem kk_X0_init_0 : Cond.methodLink RX0 3 objectInit ∈ wsX0_init := by decide +kernel
theorem kk_X0_init_1 : Cond.instanceMethod objectInit ∈ wsX0_init := by decide +kernel
theorem kk_X0_init_2 : Cond.code objectInit ⟨#[0xb1]⟩ 1 none ∈ wsX0_init := by decide +kernel
theorem kk_X0_init_3 : Cond.arrayClass .int ∈ wsX0_init := by decide +kernel
theorem kk_X0_init_4 : Cond.fieldLink RX0 9 "PaidBySigns$CoinSearch" "chosen" "[I" ∈ wsX0_init := by decide +kernel
theorem kk_X0_init_5 : Cond.constant RX0 15 (1000000) ∈ wsX0_init := by decide +kernel
theorem kk_X0_init_6 : Cond.fieldLink RX0 16 "PaidBySigns$CoinSearch" "bestCost" "I" ∈ wsX0_init := by decide +kernel
theorem kk_X0_init_7 : Cond.fieldLink RX0 20 "PaidBySigns$CoinSearch" "felt" "[I" ∈ wsX0_init := by decide +kernel
theorem kk_X0_init_8 : Cond.fieldLink RX0 23 "PaidBySigns$CoinSearch" "own" "[I" ∈ wsX0_init := by decide +kernel
theorem kk_X0_init_9 : Cond.classLink RX0 26 "[[I" ∈ wsX0_init := by decide +kernel
theorem kk_X0_init_10 : Cond.fieldLink RX0 28 "PaidBySigns$CoinSearch" "share" "[[I" ∈ wsX0_init := by decide +kernel
theorem kk_X0_init_11 : Cond.fieldLink RX0 31 "PaidBySigns$CoinSearch" "rest" "[[I" ∈ wsX0_init := by decide +kernel
theorem kk_X0_init_12 : Cond.fieldLink RX0 34 "PaidBySigns$CoinSearch" "left" "[[I" ∈ wsX0_init := by decide +kernel
theorem kk_X0_init_13 : Cond.fieldLink RX0 37 "PaidBySigns$CoinSearch" "tried" "[I" ∈ wsX0_init := by decide +kernel
theorem kk_X9_init_44 : Cond.methodLink RX9 67 yX0_init ∈ wsX9_init := by decide +kernel
theorem kk_X9_init_45 : Cond.instanceMethod yX0_init ∈ wsX9_init := by decide +kernel
theorem kk_X9_init_46 : Cond.fieldLink RX9 68 "PaidBySigns" "coinSearch" "LPaidBySigns$CoinSearch;" ∈ wsX9_init := by decide +kernel
theorem kk_X9_init_47 : Cond.classLink RX9 72 RX6 ∈ wsX9_init := by decide +kernel
theorem kk_X9_init_48 : Cond.instantiable RX6 4 ∈ wsX9_init := by decide +kernel
theorem kk_X9_init_49 : Cond.initialized RX6 ∈ wsX9_init := by decide +kernel
theorem kk_X6_init_0 : Cond.methodLink RX6 3 objectInit ∈ wsX6_init := by decide +kernel
theorem kk_X6_init_1 : Cond.instanceMethod objectInit ∈ wsX6_init := by decide +kernel
theorem kk_X6_init_2 : Cond.code objectInit ⟨#[0xb1]⟩ 1 none ∈ wsX6_init := by decide +kernel
theorem kk_X6_init_3 : Cond.fieldLink RX6 9 "PaidBySigns$Proofs" "lowerNumber" "I" ∈ wsX6_init := by decide +kernel
theorem kk_X6_init_4 : Cond.arrayClass .int ∈ wsX6_init := by decide +kernel
theorem kk_X6_init_5 : Cond.fieldLink RX6 15 "PaidBySigns$Proofs" "press" "[I" ∈ wsX6_init := by decide +kernel
theorem kk_X6_init_6 : Cond.fieldLink RX6 19 "PaidBySigns$Proofs" "pressOfElse" "I" ∈ wsX6_init := by decide +kernel
theorem kk_X6_init_7 : Cond.fieldLink RX6 22 "PaidBySigns$Proofs" "mixed" "[I" ∈ wsX6_init := by decide +kernel
theorem kk_X9_init_50 : Cond.methodLink RX9 74 yX6_init ∈ wsX9_init := by decide +kernel
theorem kk_X9_init_51 : Cond.instanceMethod yX6_init ∈ wsX9_init := by decide +kernel
theorem kk_X9_init_52 : Cond.fieldLink RX9 75 "PaidBySigns" "proofs" "LPaidBySigns$Proofs;" ∈ wsX9_init := by decide +kernel
theorem kk_X9_init_53 : Cond.classLink RX9 79 RX1 ∈ wsX9_init := by decide +kernel
theorem kk_X9_init_54 : Cond.instantiable RX1 9 ∈ wsX9_init := by decide +kernel
theorem kk_X9_init_55 : Cond.initialized RX1 ∈ wsX9_init := by decide +kernel
theorem kk_X1_init_0 : Cond.methodLink RX1 3 objectInit ∈ wsX1_init := by decide +kernel
theorem kk_X1_init_1 : Cond.instanceMethod objectInit ∈ wsX1_init := by decide +kernel
theorem kk_X1_init_2 : Cond.code objectInit ⟨#[0xb1]⟩ 1 none ∈ wsX1_init := by decide +kernel
theorem kk_X1_init_3 : Cond.fieldLink RX1 9 "PaidBySigns$Diary" "seen" "I" ∈ wsX1_init := by decide +kernel
theorem kk_X1_init_4 : Cond.fieldLink RX1 15 "PaidBySigns$Diary" "rights" "I" ∈ wsX1_init := by decide +kernel
theorem kk_X1_init_5 : Cond.fieldLink RX1 18 "PaidBySigns$Diary" "latestStep" "I" ∈ wsX1_init := by decide +kernel
theorem kk_X1_init_6 : Cond.arrayClass .int ∈ wsX1_init := by decide +kernel
theorem kk_X1_init_7 : Cond.fieldLink RX1 21 "PaidBySigns$Diary" "seenStep" "[I" ∈ wsX1_init := by decide +kernel
theorem kk_X1_init_8 : Cond.fieldLink RX1 25 "PaidBySigns$Diary" "seenSign" "[I" ∈ wsX1_init := by decide +kernel
theorem kk_X1_init_9 : Cond.fieldLink RX1 28 "PaidBySigns$Diary" "timesRight" "[I" ∈ wsX1_init := by decide +kernel
theorem kk_X1_init_10 : Cond.fieldLink RX1 31 "PaidBySigns$Diary" "rightStep" "[I" ∈ wsX1_init := by decide +kernel
theorem kk_X1_init_11 : Cond.fieldLink RX1 34 "PaidBySigns$Diary" "rightOf" "[I" ∈ wsX1_init := by decide +kernel
theorem kk_X1_init_12 : Cond.fieldLink RX1 37 "PaidBySigns$Diary" "rightSign" "[I" ∈ wsX1_init := by decide +kernel
theorem kk_X9_init_56 : Cond.methodLink RX9 81 yX1_init ∈ wsX9_init := by decide +kernel
theorem kk_X9_init_57 : Cond.instanceMethod yX1_init ∈ wsX9_init := by decide +kernel
theorem kk_X9_init_58 : Cond.fieldLink RX9 82 "PaidBySigns" "diary" "LPaidBySigns$Diary;" ∈ wsX9_init := by decide +kernel
theorem iw_X9_init_X7 : ∀ w ∈ wsX70, w ∈ wsX9_init := by decide +kernel
theorem iw_X7_init_X7 : ∀ w ∈ wsX70, w ∈ wsX7_init := by decide +kernel
theorem iw_X7_init_X3 : ∀ w ∈ wsX30, w ∈ wsX7_init := by decide +kernel
theorem iw_X3_init_X3 : ∀ w ∈ wsX30, w ∈ wsX3_init := by decide +kernel
theorem iw_X3_clear_X3 : ∀ w ∈ wsX30, w ∈ wsX3_clear := by decide +kernel
theorem iw_X9_init_X9 : ∀ w ∈ wsX90, w ∈ wsX9_init := by decide +kernel
theorem iw_X9_init_X3 : ∀ w ∈ wsX30, w ∈ wsX9_init := by decide +kernel
theorem iw_X9_init_X2 : ∀ w ∈ wsX20, w ∈ wsX9_init := by decide +kernel
theorem iw_X2_init_X2 : ∀ w ∈ wsX20, w ∈ wsX2_init := by decide +kernel
theorem iw_X9_init_X4 : ∀ w ∈ wsX40, w ∈ wsX9_init := by decide +kernel
theorem iw_X4_init_X4 : ∀ w ∈ wsX40, w ∈ wsX4_init := by decide +kernel
theorem iw_X4_init_X8 : ∀ w ∈ wsX80, w ∈ wsX4_init := by decide +kernel
theorem iw_X8_init_X8 : ∀ w ∈ wsX80, w ∈ wsX8_init := by decide +kernel
theorem iw_X4_init_X3 : ∀ w ∈ wsX30, w ∈ wsX4_init := by decide +kernel
theorem iw_X9_init_X5 : ∀ w ∈ wsX50, w ∈ wsX9_init := by decide +kernel
theorem iw_X9_init_X0 : ∀ w ∈ wsX00, w ∈ wsX9_init := by decide +kernel
theorem iw_X0_init_X0 : ∀ w ∈ wsX00, w ∈ wsX0_init := by decide +kernel
theorem iw_X9_init_X6 : ∀ w ∈ wsX60, w ∈ wsX9_init := by decide +kernel
theorem iw_X6_init_X6 : ∀ w ∈ wsX60, w ∈ wsX6_init := by decide +kernel
theorem iw_X9_init_X1 : ∀ w ∈ wsX10, w ∈ wsX9_init := by decide +kernel
theorem iw_X1_init_X1 : ∀ w ∈ wsX10, w ∈ wsX1_init := by decide +kernel
set_option maxHeartbeats 4000000 in
set_option maxRecDepth 100000 in
theorem ct_X3_clear (l : Launch) (dC : Nat → ClassId) (dI : Nat → Nat → Nat) (ad0 : Nat) (ad1 : Nat) (ad2 : Nat) (ad3 : Nat) (ad4 : Nat) (ad5 : Nat) (ck0 : ClassId) (sz : Nat) : Met l yX3_clear wsX3_clear ({ frames := 0, cells := 0, slots := 0, locals := 0 }) (va_Pc [.ref ad0] (fun U => U.heap.size = sz ∧ va_P (dC, dI) vwCl [(ad0, .inr (3, [.int 0, .int 0, .int 0, .int 0, .int 0, .int 0, .ref ad1, .ref ad2, .ref ad3, .ref ad4, .ref ad5])), (ad4, .inl (ck0, 3, .inl (lf [0, 0, 0])))] U.heap ∧ va_K (dC, dI) vwCl [(ck0, .int)] U ∧ va_D (fun _ => True) [(ad0, .inr (3, [.int 0, .int 0, .int 0, .int 0, .int 0, .int 0, .ref ad1, .ref ad2, .ref ad3, .ref ad4, .ref ad5])), (ad4, .inl (ck0, 3, .inl (lf [0, 0, 0])))])) (va_Qv (fun _ : Unit => True) (fun _ t => va_P (dC, dI) vwCl [(ad0, .inr (3, [.int 0, .int 0, .int 10, .int 0, .int 0, .int 1, .ref ad1, .ref ad2, .ref ad3, .ref ad4, .ref ad5])), (ad4, .inl (ck0, 3, .inl (lf [1, 0, 0])))] t.heap ∧ va_K (dC, dI) vwCl [(ck0, .int)] t ∧ va_D (va_A [(ad0, .inr (3, [.int 0, .int 0, .int 0, .int 0, .int 0, .int 0, .ref ad1, .ref ad2, .ref ad3, .ref ad4, .ref ad5])), (ad4, .inl (ck0, 3, .inl (lf [0, 0, 0])))] sz) [(ad0, .inr (3, [.int 0, .int 0, .int 10, .int 0, .int 0, .int 1, .ref ad1, .ref ad2, .ref ad3, .ref ad4, .ref ad5])), (ad4, .inl (ck0, 3, .inl (lf [1, 0, 0])))]) (va_A [(ad0, .inr (3, [.int 0, .int 0, .int 0, .int 0, .int 0, .int 0, .ref ad1, .ref ad2, .ref ad3, .ref ad4, .ref ad5])), (ad4, .inl (ck0, 3, .inl (lf [0, 0, 0])))] sz)) 0 0 (va_A [(ad0, .inr (3, [.int 0, .int 0, .int 0, .int 0, .int 0, .int 0, .ref ad1, .ref ad2, .ref ad3, .ref ad4, .ref ad5])), (ad4, .inl (ck0, 3, .inl (lf [0, 0, 0])))] sz) := by
  refine Met.ofW (cc := cX3_clear) (maxL := 1) (ret := none) (by decide) rfl ?_
  intro p e s m args below meth c s₁ B hml hv
  obtain ⟨rfl, hsz, hP, hK, hD0⟩ := hv
  have hx := B.exec
  have hb := B.bytes
  have hr := B.returns
  have hts := atoms_spec (ws := wsX3_clear) B.pre
  have hown : s.vm.findClass RX3 = some m.cls := findClass_of_methodNamed B.named
  have hlocks := B.notSynchronized
  subst hsz
  have hD := hD0.self (sz := s.heap.size)
  generalize hAe : va_A [(ad0, .inr (3, [.int 0, .int 0, .int 0, .int 0, .int 0, .int 0, .ref ad1, .ref ad2, .ref ad3, .ref ad4, .ref ad5])), (ad4, .inl (ck0, 3, .inl (lf [0, 0, 0])))] s.heap.size = A at hD ⊢
  have hA : ∀ q : Nat, s.heap.size ≤ q → A q := fun q h => by rw [← hAe]; exact Or.inr h
  have hS : va_S A s.heap s.heap [] := va_S.rf
  have hP : va_P (dC, dI) vwCl [(ad0, .inr (3, [.int 0, .int 0, .int 0, .int 0, .int 0, .int 0, .ref ad1, .ref ad2, .ref ad3, .ref ad4, .ref ad5])), (ad4, .inl (ck0, 3, .inl (lf [0, 0, 0])))] s.heap := hP
  have hl := lv_entry ([.ref ad0]) (n := 1) (Nat.le_of_ble_eq_true rfl)
  rw [lg_entry_eq]
  generalize (lg_sl ([.ref ad0]) ++ List.replicate (1 - (lg_sl ([.ref ad0])).length) Slot.unset).toArray = ls at hl ⊢
  have hl : lv_has ls 1 [(0, .ref ad0)] := hl
  refine lv_aload_n hx hb dX3_clear_0 rfl (lv_at hl 0 rfl) ?_
  refine lv_iconst (v := 0) hx hb dX3_clear_1 (by decide) ?_
  refine va_put (D := (dC, dI)) (ci := 3) (v := .int 0) (ty := .int) (C := RX3) (T := TX3) (N := 11) hx hb hts iw_X3_clear_X3 tyX3 tyX3_ok nmX3 hown hK hP hD hS 0 rfl rfl 0 (by decide) (hts _ kk_X3_clear_0) (fun _ h9 => h9) rfl (by decide +kernel) rfl rfl (Nat.le_of_ble_eq_true rfl) dX3_clear_2 (fun H locs hP hD hS => ?_)
  have hP : va_P (dC, dI) vwCl [(ad0, .inr (3, [.int 0, .int 0, .int 0, .int 0, .int 0, .int 0, .ref ad1, .ref ad2, .ref ad3, .ref ad4, .ref ad5])), (ad4, .inl (ck0, 3, .inl (lf [0, 0, 0])))] H := hP
  have hD : va_D A [(ad0, .inr (3, [.int 0, .int 0, .int 0, .int 0, .int 0, .int 0, .ref ad1, .ref ad2, .ref ad3, .ref ad4, .ref ad5])), (ad4, .inl (ck0, 3, .inl (lf [0, 0, 0])))] := hD
  refine lv_aload_n hx hb dX3_clear_5 rfl (lv_at hl 0 rfl) ?_
  refine lv_iconst (v := 0) hx hb dX3_clear_6 (by decide) ?_
  refine va_put (D := (dC, dI)) (ci := 3) (v := .int 0) (ty := .int) (C := RX3) (T := TX3) (N := 11) hx hb hts iw_X3_clear_X3 tyX3 tyX3_ok nmX3 hown hK hP hD hS 0 rfl rfl 1 (by decide) (hts _ kk_X3_clear_1) (fun _ h9 => h9) rfl (by decide +kernel) rfl rfl (Nat.le_of_ble_eq_true rfl) dX3_clear_7 (fun H locs hP hD hS => ?_)
  have hP : va_P (dC, dI) vwCl [(ad0, .inr (3, [.int 0, .int 0, .int 0, .int 0, .int 0, .int 0, .ref ad1, .ref ad2, .ref ad3, .ref ad4, .ref ad5])), (ad4, .inl (ck0, 3, .inl (lf [0, 0, 0])))] H := hP
  have hD : va_D A [(ad0, .inr (3, [.int 0, .int 0, .int 0, .int 0, .int 0, .int 0, .ref ad1, .ref ad2, .ref ad3, .ref ad4, .ref ad5])), (ad4, .inl (ck0, 3, .inl (lf [0, 0, 0])))] := hD
  refine lv_aload_n hx hb dX3_clear_10 rfl (lv_at hl 0 rfl) ?_
  refine lv_bipush (v := 10) hx hb dX3_clear_11 (by decide) ?_
  refine va_put (D := (dC, dI)) (ci := 3) (v := .int 10) (ty := .int) (C := RX3) (T := TX3) (N := 11) hx hb hts iw_X3_clear_X3 tyX3 tyX3_ok nmX3 hown hK hP hD hS 0 rfl rfl 2 (by decide) (hts _ kk_X3_clear_2) (fun _ h9 => h9) rfl (by decide +kernel) rfl rfl (Nat.le_of_ble_eq_true rfl) dX3_clear_13 (fun H locs hP hD hS => ?_)
  have hP : va_P (dC, dI) vwCl [(ad0, .inr (3, [.int 0, .int 0, .int 10, .int 0, .int 0, .int 0, .ref ad1, .ref ad2, .ref ad3, .ref ad4, .ref ad5])), (ad4, .inl (ck0, 3, .inl (lf [0, 0, 0])))] H := hP
  have hD : va_D A [(ad0, .inr (3, [.int 0, .int 0, .int 10, .int 0, .int 0, .int 0, .ref ad1, .ref ad2, .ref ad3, .ref ad4, .ref ad5])), (ad4, .inl (ck0, 3, .inl (lf [0, 0, 0])))] := hD
  refine lv_aload_n hx hb dX3_clear_16 rfl (lv_at hl 0 rfl) ?_
  refine lv_iconst (v := 0) hx hb dX3_clear_17 (by decide) ?_
  refine va_put (D := (dC, dI)) (ci := 3) (v := .int 0) (ty := .int) (C := RX3) (T := TX3) (N := 11) hx hb hts iw_X3_clear_X3 tyX3 tyX3_ok nmX3 hown hK hP hD hS 0 rfl rfl 3 (by decide) (hts _ kk_X3_clear_3) (fun _ h9 => h9) rfl (by decide +kernel) rfl rfl (Nat.le_of_ble_eq_true rfl) dX3_clear_18 (fun H locs hP hD hS => ?_)
  have hP : va_P (dC, dI) vwCl [(ad0, .inr (3, [.int 0, .int 0, .int 10, .int 0, .int 0, .int 0, .ref ad1, .ref ad2, .ref ad3, .ref ad4, .ref ad5])), (ad4, .inl (ck0, 3, .inl (lf [0, 0, 0])))] H := hP
  have hD : va_D A [(ad0, .inr (3, [.int 0, .int 0, .int 10, .int 0, .int 0, .int 0, .ref ad1, .ref ad2, .ref ad3, .ref ad4, .ref ad5])), (ad4, .inl (ck0, 3, .inl (lf [0, 0, 0])))] := hD
  refine lv_aload_n hx hb dX3_clear_21 rfl (lv_at hl 0 rfl) ?_
  refine lv_iconst (v := 0) hx hb dX3_clear_22 (by decide) ?_
  refine va_put (D := (dC, dI)) (ci := 3) (v := .int 0) (ty := .int) (C := RX3) (T := TX3) (N := 11) hx hb hts iw_X3_clear_X3 tyX3 tyX3_ok nmX3 hown hK hP hD hS 0 rfl rfl 4 (by decide) (hts _ kk_X3_clear_4) (fun _ h9 => h9) rfl (by decide +kernel) rfl rfl (Nat.le_of_ble_eq_true rfl) dX3_clear_23 (fun H locs hP hD hS => ?_)
  have hP : va_P (dC, dI) vwCl [(ad0, .inr (3, [.int 0, .int 0, .int 10, .int 0, .int 0, .int 0, .ref ad1, .ref ad2, .ref ad3, .ref ad4, .ref ad5])), (ad4, .inl (ck0, 3, .inl (lf [0, 0, 0])))] H := hP
  have hD : va_D A [(ad0, .inr (3, [.int 0, .int 0, .int 10, .int 0, .int 0, .int 0, .ref ad1, .ref ad2, .ref ad3, .ref ad4, .ref ad5])), (ad4, .inl (ck0, 3, .inl (lf [0, 0, 0])))] := hD
  refine lv_aload_n hx hb dX3_clear_26 rfl (lv_at hl 0 rfl) ?_
  refine lv_iconst (v := 1) hx hb dX3_clear_27 (by decide) ?_
  refine va_put (D := (dC, dI)) (ci := 3) (v := .int 1) (ty := .int) (C := RX3) (T := TX3) (N := 11) hx hb hts iw_X3_clear_X3 tyX3 tyX3_ok nmX3 hown hK hP hD hS 0 rfl rfl 5 (by decide) (hts _ kk_X3_clear_5) (fun _ h9 => h9) rfl (by decide +kernel) rfl rfl (Nat.le_of_ble_eq_true rfl) dX3_clear_28 (fun H locs hP hD hS => ?_)
  have hP : va_P (dC, dI) vwCl [(ad0, .inr (3, [.int 0, .int 0, .int 10, .int 0, .int 0, .int 1, .ref ad1, .ref ad2, .ref ad3, .ref ad4, .ref ad5])), (ad4, .inl (ck0, 3, .inl (lf [0, 0, 0])))] H := hP
  have hD : va_D A [(ad0, .inr (3, [.int 0, .int 0, .int 10, .int 0, .int 0, .int 1, .ref ad1, .ref ad2, .ref ad3, .ref ad4, .ref ad5])), (ad4, .inl (ck0, 3, .inl (lf [0, 0, 0])))] := hD
  refine lv_aload_n hx hb dX3_clear_31 rfl (lv_at hl 0 rfl) ?_
  refine va_get (D := (dC, dI)) (ci := 3) (v := .ref ad4) (C := RX3) (T := TX3) (N := 11) hx hb hts iw_X3_clear_X3 hown hK hP 0 rfl rfl 9 (by decide) (hts _ kk_X3_clear_6) (fun _ h9 => h9) rfl dX3_clear_32 ?_
  refine lv_iconst (v := 0) hx hb dX3_clear_35 (by decide) ?_
  refine lv_iconst (v := 1) hx hb dX3_clear_36 (by decide) ?_
  refine va_iast hx hb hK hP hD hS 1 0 rfl rfl (vq_in 0 3 (by decide)) dX3_clear_37 (fun H locs hP hD hS => ?_)
  have hP : va_P (dC, dI) vwCl [(ad0, .inr (3, [.int 0, .int 0, .int 10, .int 0, .int 0, .int 1, .ref ad1, .ref ad2, .ref ad3, .ref ad4, .ref ad5])), (ad4, .inl (ck0, 3, .inl (upd (lf [0, 0, 0]) (Int32.toNatClampNeg 0) 1)))] H := hP
  have hD : va_D A [(ad0, .inr (3, [.int 0, .int 0, .int 10, .int 0, .int 0, .int 1, .ref ad1, .ref ad2, .ref ad3, .ref ad4, .ref ad5])), (ad4, .inl (ck0, 3, .inl (upd (lf [0, 0, 0]) (Int32.toNatClampNeg 0) 1)))] := hD
  rw [show upd (lf [0, 0, 0]) (Int32.toNatClampNeg 0) 1 = lf [1, 0, 0] from lf_upd _ _ _ (by decide)] at hP hD
  refine W.widen (k := 0) (n := 0) (by decide) (by decide) ?_
  have hP9 := hP.sub (ws' := [(ad0, .inr (3, [.int 0, .int 0, .int 10, .int 0, .int 0, .int 1, .ref ad1, .ref ad2, .ref ad3, .ref ad4, .ref ad5])), (ad4, .inl (ck0, 3, .inl (lf [1, 0, 0])))]) [0, 1] rfl
  have hD9 := hD.sub (ws' := [(ad0, .inr (3, [.int 0, .int 0, .int 10, .int 0, .int 0, .int 1, .ref ad1, .ref ad2, .ref ad3, .ref ad4, .ref ad5])), (ad4, .inl (ck0, 3, .inl (lf [1, 0, 0])))]) [0, 1] (by decide) rfl
  have hK9 := hK.sub (tys' := [(ck0, .int)]) [0] rfl
  exact W.vret hx hb hr (fun t ht hW => ⟨⟨(), rfl, trivial, by rw [ht]; exact hP9, va_K.moved hW.alike hK9, hD9⟩, hS.F ht⟩) hS.2.2 dX3_clear_38

set_option maxHeartbeats 4000000 in
set_option maxRecDepth 100000 in
theorem ct_X3_init (l : Launch) (dC : Nat → ClassId) (dI : Nat → Nat → Nat) (ad0 : Nat) (sz : Nat) : Met l yX3_init wsX3_init ({ frames := 1, cells := 10, slots := 39, locals := 20 }) (va_Pc [.ref ad0] (fun U => U.heap.size = sz ∧ va_P (dC, dI) vwCl [(ad0, .inr (3, [.int 0, .int 0, .int 0, .int 0, .int 0, .int 0, .null, .null, .null, .null, .null]))] U.heap ∧ va_K (dC, dI) vwCl [] U ∧ va_D (fun _ => True) [(ad0, .inr (3, [.int 0, .int 0, .int 0, .int 0, .int 0, .int 0, .null, .null, .null, .null, .null]))] ∧ vq_AOA .int U)) (va_Qv (fun _ : Unit => True) (fun _ t => ∃ (q1 : Nat) (q3 : Nat) (q5 : Nat) (q6 : Nat) (q8 : Nat) (cA7 : ClassId), va_P (dC, dI) vwCl [(ad0, .inr (3, [.int 0, .int 0, .int 10, .int 0, .int 0, .int 1, .ref q1, .ref q3, .ref q5, .ref q6, .ref q8])), (q6, .inl (cA7, 3, .inl (lf [1, 0, 0])))] t.heap ∧ va_K (dC, dI) vwCl [(cA7, .int)] t ∧ va_D (va_A [(ad0, .inr (3, [.int 0, .int 0, .int 0, .int 0, .int 0, .int 0, .null, .null, .null, .null, .null]))] sz) [(ad0, .inr (3, [.int 0, .int 0, .int 10, .int 0, .int 0, .int 1, .ref q1, .ref q3, .ref q5, .ref q6, .ref q8])), (q6, .inl (cA7, 3, .inl (lf [1, 0, 0])))]) (va_A [(ad0, .inr (3, [.int 0, .int 0, .int 0, .int 0, .int 0, .int 0, .null, .null, .null, .null, .null]))] sz)) 10 39 (va_A [(ad0, .inr (3, [.int 0, .int 0, .int 0, .int 0, .int 0, .int 0, .null, .null, .null, .null, .null]))] sz) := by
  refine Met.ofW (cc := cX3_init) (maxL := 1) (ret := none) (by decide) rfl ?_
  intro p e s m args below meth c s₁ B hml hv
  obtain ⟨rfl, hsz, hP, hK, hD0, hF_0⟩ := hv
  have hx := B.exec
  have hb := B.bytes
  have hr := B.returns
  have hts := atoms_spec (ws := wsX3_init) B.pre
  have hown : s.vm.findClass RX3 = some m.cls := findClass_of_methodNamed B.named
  have hlocks := B.notSynchronized
  have hin : meth.name = "<init>" := (name_of_methodNamed B.named B.method).1
  subst hsz
  have hD := hD0.self (sz := s.heap.size)
  generalize hAe : va_A [(ad0, .inr (3, [.int 0, .int 0, .int 0, .int 0, .int 0, .int 0, .null, .null, .null, .null, .null]))] s.heap.size = A at hD ⊢
  have hA : ∀ q : Nat, s.heap.size ≤ q → A q := fun q h => by rw [← hAe]; exact Or.inr h
  have hS : va_S A s.heap s.heap [] := va_S.rf
  have hP : va_P (dC, dI) vwCl [(ad0, .inr (3, [.int 0, .int 0, .int 0, .int 0, .int 0, .int 0, .null, .null, .null, .null, .null]))] s.heap := hP
  have hl := lv_entry ([.ref ad0]) (n := 1) (Nat.le_of_ble_eq_true rfl)
  rw [lg_entry_eq]
  generalize (lg_sl ([.ref ad0]) ++ List.replicate (1 - (lg_sl ([.ref ad0])).length) Slot.unset).toArray = ls at hl ⊢
  have hl : lv_has ls 1 [(0, .ref ad0)] := hl
  refine lv_aload_n hx hb dX3_init_0 rfl (lv_at hl 0 rfl) ?_
  refine W.objInit hx hb hown (hts _ kk_X3_init_0) (hts _ kk_X3_init_1) (hts _ kk_X3_init_2) rfl (by rw [hml]; exact hl.1) rfl dX3_init_1 (Nat.le_of_ble_eq_true rfl) (Nat.le_of_ble_eq_true rfl) ?_
  refine W.eq (g2 := F0 m 4 ls []) rfl ?_
  refine lv_aload_n hx hb dX3_init_4 rfl (lv_at hl 0 rfl) ?_
  refine lv_iconst (v := 4) hx hb dX3_init_5 (by decide) ?_
  refine va_newa (atype := .int) (ty := .int) (N' := 4) (a0 := (4, .inl (fun _ => 0))) hx hb (hts _ kk_X3_init_3) rfl hK hP hD hS hA (fun _ => rfl) (by decide) (by decide) (by decide) (Nat.le_of_ble_eq_true rfl) (Nat.le_of_ble_eq_true rfl) dX3_init_6 (fun q1 cA2 H hK hP hD hS => ?_)
  refine W.widen (k := 1) (n := 4) (by decide) (by decide) ?_
  have hP : va_P (dC, dI) vwCl [(ad0, .inr (3, [.int 0, .int 0, .int 0, .int 0, .int 0, .int 0, .null, .null, .null, .null, .null]))] H := hP.sub [0] rfl
  have hD : va_D A [(ad0, .inr (3, [.int 0, .int 0, .int 0, .int 0, .int 0, .int 0, .null, .null, .null, .null, .null]))] := hD.sub [0] (by decide) rfl
  have hK : va_K (dC, dI) vwCl [] s := hK.sub [] rfl
  refine va_putF (D := (dC, dI)) (ci := 3) (v := .ref q1) (ty := (.array .int)) (C := RX3) (T := TX3) (N := 11) hx hb hts iw_X3_init_X3 tyX3 tyX3_ok nmX3 hown hK hP hD hS 0 rfl rfl 6 (by decide) (hts _ kk_X3_init_4) (fun _ h9 => h9) rfl hin rfl (by decide +kernel) rfl rfl (Nat.le_of_ble_eq_true rfl) dX3_init_8 (fun H locs hP hD hS => ?_)
  have hP : va_P (dC, dI) vwCl [(ad0, .inr (3, [.int 0, .int 0, .int 0, .int 0, .int 0, .int 0, .ref q1, .null, .null, .null, .null]))] H := hP
  have hD : va_D A [(ad0, .inr (3, [.int 0, .int 0, .int 0, .int 0, .int 0, .int 0, .ref q1, .null, .null, .null, .null]))] := hD
  refine lv_aload_n hx hb dX3_init_11 rfl (lv_at hl 0 rfl) ?_
  refine lv_iconst (v := 5) hx hb dX3_init_12 (by decide) ?_
  refine va_newa (atype := .int) (ty := .int) (N' := 5) (a0 := (5, .inl (fun _ => 0))) hx hb (hts _ kk_X3_init_3) rfl hK hP hD hS hA (fun _ => rfl) (by decide) (by decide) (by decide) (Nat.le_of_ble_eq_true rfl) (Nat.le_of_ble_eq_true rfl) dX3_init_13 (fun q3 cA4 H hK hP hD hS => ?_)
  refine W.widen (k := 2) (n := 9) (by decide) (by decide) ?_
  have hP : va_P (dC, dI) vwCl [(ad0, .inr (3, [.int 0, .int 0, .int 0, .int 0, .int 0, .int 0, .ref q1, .null, .null, .null, .null]))] H := hP.sub [0] rfl
  have hD : va_D A [(ad0, .inr (3, [.int 0, .int 0, .int 0, .int 0, .int 0, .int 0, .ref q1, .null, .null, .null, .null]))] := hD.sub [0] (by decide) rfl
  have hK : va_K (dC, dI) vwCl [] s := hK.sub [] rfl
  refine va_putF (D := (dC, dI)) (ci := 3) (v := .ref q3) (ty := (.array .int)) (C := RX3) (T := TX3) (N := 11) hx hb hts iw_X3_init_X3 tyX3 tyX3_ok nmX3 hown hK hP hD hS 0 rfl rfl 7 (by decide) (hts _ kk_X3_init_5) (fun _ h9 => h9) rfl hin rfl (by decide +kernel) rfl rfl (Nat.le_of_ble_eq_true rfl) dX3_init_15 (fun H locs hP hD hS => ?_)
  have hP : va_P (dC, dI) vwCl [(ad0, .inr (3, [.int 0, .int 0, .int 0, .int 0, .int 0, .int 0, .ref q1, .ref q3, .null, .null, .null]))] H := hP
  have hD : va_D A [(ad0, .inr (3, [.int 0, .int 0, .int 0, .int 0, .int 0, .int 0, .ref q1, .ref q3, .null, .null, .null]))] := hD
  refine lv_aload_n hx hb dX3_init_18 rfl (lv_at hl 0 rfl) ?_
  refine lv_iconst (v := 5) hx hb dX3_init_19 (by decide) ?_
  refine lv_iconst (v := 4) hx hb dX3_init_20 (by decide) ?_
  refine vq_mn0 (ty := .int) (N' := 5) (K' := 4) hx hb hown (hts _ kk_X3_init_6) hF_0 (hts _ kk_X3_init_3) hP hS (by decide) (by decide) (by decide) (by decide) (by decide) (by decide) (by decide) rfl rfl (Nat.le_of_ble_eq_true rfl) (Nat.le_of_ble_eq_true rfl) dX3_init_21 (fun q5 H hP hS => ?_)
  refine W.widen (k := 8) (n := 34) (by decide) (by decide) ?_
  refine va_putF (D := (dC, dI)) (ci := 3) (v := .ref q5) (ty := (.array (.array .int))) (C := RX3) (T := TX3) (N := 11) hx hb hts iw_X3_init_X3 tyX3 tyX3_ok nmX3 hown hK hP hD hS 0 rfl rfl 8 (by decide) (hts _ kk_X3_init_7) (fun _ h9 => h9) rfl hin rfl (by decide +kernel) rfl rfl (Nat.le_of_ble_eq_true rfl) dX3_init_25 (fun H locs hP hD hS => ?_)
  have hP : va_P (dC, dI) vwCl [(ad0, .inr (3, [.int 0, .int 0, .int 0, .int 0, .int 0, .int 0, .ref q1, .ref q3, .ref q5, .null, .null]))] H := hP
  have hD : va_D A [(ad0, .inr (3, [.int 0, .int 0, .int 0, .int 0, .int 0, .int 0, .ref q1, .ref q3, .ref q5, .null, .null]))] := hD
  refine lv_aload_n hx hb dX3_init_28 rfl (lv_at hl 0 rfl) ?_
  refine lv_iconst (v := 3) hx hb dX3_init_29 (by decide) ?_
  refine va_newa (atype := .int) (ty := .int) (N' := 3) (a0 := (3, .inl (fun _ => 0))) hx hb (hts _ kk_X3_init_3) rfl hK hP hD hS hA (fun _ => rfl) (by decide) (by decide) (by decide) (Nat.le_of_ble_eq_true rfl) (Nat.le_of_ble_eq_true rfl) dX3_init_30 (fun q6 cA7 H hK hP hD hS => ?_)
  refine W.widen (k := 9) (n := 37) (by decide) (by decide) ?_
  have hP : va_P (dC, dI) vwCl [(ad0, .inr (3, [.int 0, .int 0, .int 0, .int 0, .int 0, .int 0, .ref q1, .ref q3, .ref q5, .null, .null])), (q6, .inl (cA7, 3, .inl (fun _ => 0)))] H := hP
  have hD : va_D A [(ad0, .inr (3, [.int 0, .int 0, .int 0, .int 0, .int 0, .int 0, .ref q1, .ref q3, .ref q5, .null, .null])), (q6, .inl (cA7, 3, .inl (fun _ => 0)))] := hD
  have hK : va_K (dC, dI) vwCl [(cA7, .int)] s := hK
  rw [show (fun _ => (0 : Int32)) = lf [0, 0, 0] from lf_zero 3] at hP hD
  have hP : va_P (dC, dI) vwCl [(ad0, .inr (3, [.int 0, .int 0, .int 0, .int 0, .int 0, .int 0, .ref q1, .ref q3, .ref q5, .null, .null])), (q6, .inl (cA7, 3, .inl (lf [0, 0, 0])))] H := hP
  have hD : va_D A [(ad0, .inr (3, [.int 0, .int 0, .int 0, .int 0, .int 0, .int 0, .ref q1, .ref q3, .ref q5, .null, .null])), (q6, .inl (cA7, 3, .inl (lf [0, 0, 0])))] := hD
  refine va_putF (D := (dC, dI)) (ci := 3) (v := .ref q6) (ty := (.array .int)) (C := RX3) (T := TX3) (N := 11) hx hb hts iw_X3_init_X3 tyX3 tyX3_ok nmX3 hown hK hP hD hS 0 rfl rfl 9 (by decide) (hts _ kk_X3_init_8) (fun _ h9 => h9) rfl hin rfl (by decide +kernel) rfl rfl (Nat.le_of_ble_eq_true rfl) dX3_init_32 (fun H locs hP hD hS => ?_)
  have hP : va_P (dC, dI) vwCl [(ad0, .inr (3, [.int 0, .int 0, .int 0, .int 0, .int 0, .int 0, .ref q1, .ref q3, .ref q5, .ref q6, .null])), (q6, .inl (cA7, 3, .inl (lf [0, 0, 0])))] H := hP
  have hD : va_D A [(ad0, .inr (3, [.int 0, .int 0, .int 0, .int 0, .int 0, .int 0, .ref q1, .ref q3, .ref q5, .ref q6, .null])), (q6, .inl (cA7, 3, .inl (lf [0, 0, 0])))] := hD
  refine lv_aload_n hx hb dX3_init_35 rfl (lv_at hl 0 rfl) ?_
  refine lv_iconst (v := 2) hx hb dX3_init_36 (by decide) ?_
  refine va_newa (atype := .int) (ty := .int) (N' := 2) (a0 := (2, .inl (fun _ => 0))) hx hb (hts _ kk_X3_init_3) rfl hK hP hD hS hA (fun _ => rfl) (by decide) (by decide) (by decide) (Nat.le_of_ble_eq_true rfl) (Nat.le_of_ble_eq_true rfl) dX3_init_37 (fun q8 cA9 H hK hP hD hS => ?_)
  refine W.widen (k := 10) (n := 39) (by decide) (by decide) ?_
  have hP : va_P (dC, dI) vwCl [(ad0, .inr (3, [.int 0, .int 0, .int 0, .int 0, .int 0, .int 0, .ref q1, .ref q3, .ref q5, .ref q6, .null])), (q6, .inl (cA7, 3, .inl (lf [0, 0, 0])))] H := hP.sub [0, 1] rfl
  have hD : va_D A [(ad0, .inr (3, [.int 0, .int 0, .int 0, .int 0, .int 0, .int 0, .ref q1, .ref q3, .ref q5, .ref q6, .null])), (q6, .inl (cA7, 3, .inl (lf [0, 0, 0])))] := hD.sub [0, 1] (by decide) rfl
  have hK : va_K (dC, dI) vwCl [(cA7, .int)] s := hK.sub [0] rfl
  refine va_putF (D := (dC, dI)) (ci := 3) (v := .ref q8) (ty := (.array .int)) (C := RX3) (T := TX3) (N := 11) hx hb hts iw_X3_init_X3 tyX3 tyX3_ok nmX3 hown hK hP hD hS 0 rfl rfl 10 (by decide) (hts _ kk_X3_init_9) (fun _ h9 => h9) rfl hin rfl (by decide +kernel) rfl rfl (Nat.le_of_ble_eq_true rfl) dX3_init_39 (fun H locs hP hD hS => ?_)
  have hP : va_P (dC, dI) vwCl [(ad0, .inr (3, [.int 0, .int 0, .int 0, .int 0, .int 0, .int 0, .ref q1, .ref q3, .ref q5, .ref q6, .ref q8])), (q6, .inl (cA7, 3, .inl (lf [0, 0, 0])))] H := hP
  have hD : va_D A [(ad0, .inr (3, [.int 0, .int 0, .int 0, .int 0, .int 0, .int 0, .ref q1, .ref q3, .ref q5, .ref q6, .ref q8])), (q6, .inl (cA7, 3, .inl (lf [0, 0, 0])))] := hD
  refine lv_aload_n hx hb dX3_init_42 rfl (lv_at hl 0 rfl) ?_
  have hPc := hP.sub (ws' := [(ad0, .inr (3, [.int 0, .int 0, .int 0, .int 0, .int 0, .int 0, .ref q1, .ref q3, .ref q5, .ref q6, .ref q8])), (q6, .inl (cA7, 3, .inl (lf [0, 0, 0])))]) [0, 1] rfl
  have hDc := hD.sub (ws' := [(ad0, .inr (3, [.int 0, .int 0, .int 0, .int 0, .int 0, .int 0, .ref q1, .ref q3, .ref q5, .ref q6, .ref q8])), (q6, .inl (cA7, 3, .inl (lf [0, 0, 0])))]) [0, 1] (by decide) rfl
  have hKc := hK.sub (tys' := [(cA7, .int)]) [0] rfl
  have hFc := va_free (wc := [(ad0, .inr (3, [.int 0, .int 0, .int 0, .int 0, .int 0, .int 0, .ref q1, .ref q3, .ref q5, .ref q6, .ref q8])), (q6, .inl (cA7, 3, .inl (lf [0, 0, 0])))]) hD hS hA [0, 1] rfl
  refine va_callv (va_runV (As := []) (rest := []) ⟨hx, hb, hml, hown, hts⟩ (ct_X3_clear l dC dI ad0 q1 q3 q5 q6 q8 cA7 H.size) (cwV 0 hts gX3_init_X3_clear rfl rfl rfl (by decide +kernel) ⟨Nat.le_of_ble_eq_true rfl, Nat.le_of_ble_eq_true rfl⟩) ⟨fun a U g mk q => by obtain ⟨q0, q1, qP, qK, qD⟩ := q; exact ⟨q0, q1, qP, va_K.moved (u := U) (U := U.calling g mk a) (Vm.Alike.refl U.vm) qK, qD⟩, va_recv hKc hPc (ci := 3) (q0 := 0) rfl rfl, fun U hU hW => ⟨rfl, by rw [hU], by rw [hU]; exact hPc, va_K.moved hW.alike hKc, hDc.weaken (fun _ _ _ _ => trivial)⟩⟩ rfl rfl hl.1 rfl (lv_room (Nat.le_of_ble_eq_true rfl)) dX3_init_43 ⟨Nat.le_of_ble_eq_true rfl, Nat.le_of_ble_eq_true rfl⟩) hS (fun q _ h => hFc q h) hFc (fun u t H1 locs ht hvm hw hB hz1 hk1 hS => ?_)
  obtain ⟨hP1, hK1, hD1⟩ := hB
  rw [ht] at hP1
  have hK1 := va_K.moved hvm.symm hK1
  obtain ⟨hP, hD⟩ := va_join (wr := []) (w1 := [(ad0, .inr (3, [.int 0, .int 0, .int 10, .int 0, .int 0, .int 1, .ref q1, .ref q3, .ref q5, .ref q6, .ref q8])), (q6, .inl (cA7, 3, .inl (lf [1, 0, 0])))]) hP hD [0, 1] [] rfl rfl (by decide) (by decide) hk1 hFc hP1 hD1
  have hK := (hK.sub (tys' := []) [] rfl).app hK1
  clear hPc hDc hKc hFc hP1 hD1 hK1 hk1 hz1
  generalize H1 = H at hP hS ⊢
  have hP : va_P (dC, dI) vwCl [(ad0, .inr (3, [.int 0, .int 0, .int 10, .int 0, .int 0, .int 1, .ref q1, .ref q3, .ref q5, .ref q6, .ref q8])), (q6, .inl (cA7, 3, .inl (lf [1, 0, 0])))] H := hP
  have hD : va_D A [(ad0, .inr (3, [.int 0, .int 0, .int 10, .int 0, .int 0, .int 1, .ref q1, .ref q3, .ref q5, .ref q6, .ref q8])), (q6, .inl (cA7, 3, .inl (lf [1, 0, 0])))] := hD
  have hK : va_K (dC, dI) vwCl [(cA7, .int)] s := hK
  refine W.widen (k := 10) (n := 39) (by decide) (by decide) ?_
  refine W.widen (k := 10) (n := 39) (by decide) (by decide) ?_
  have hP9 := hP.sub (ws' := [(ad0, .inr (3, [.int 0, .int 0, .int 10, .int 0, .int 0, .int 1, .ref q1, .ref q3, .ref q5, .ref q6, .ref q8])), (q6, .inl (cA7, 3, .inl (lf [1, 0, 0])))]) [0, 1] rfl
  have hD9 := hD.sub (ws' := [(ad0, .inr (3, [.int 0, .int 0, .int 10, .int 0, .int 0, .int 1, .ref q1, .ref q3, .ref q5, .ref q6, .ref q8])), (q6, .inl (cA7, 3, .inl (lf [1, 0, 0])))]) [0, 1] (by decide) rfl
  have hK9 := hK.sub (tys' := [(cA7, .int)]) [0] rfl
  exact W.vret hx hb hr (fun t ht hW => ⟨⟨(), rfl, trivial, q1, q3, q5, q6, q8, cA7, by rw [ht]; exact hP9, va_K.moved hW.alike hK9, hD9⟩, hS.F ht⟩) hS.2.2 dX3_init_46

set_option maxHeartbeats 4000000 in
set_option maxRecDepth 100000 in
theorem ct_X7_init (l : Launch) (dC : Nat → ClassId) (dI : Nat → Nat → Nat) (ad0 : Nat) (sz : Nat) : Met l yX7_init wsX7_init ({ frames := 2, cells := 14, slots := 960, locals := 40 }) (va_Pc [.ref ad0] (fun U => U.heap.size = sz ∧ va_P (dC, dI) vwCl [(ad0, .inr (7, [.int 0, .int 0, .int 0, .null, .null, .int 0, .int 0, .int 0, .int 0, .null, .null, .int 0, .int 0, .int 0]))] U.heap ∧ va_K (dC, dI) vwCl [] U ∧ va_D (fun _ => True) [(ad0, .inr (7, [.int 0, .int 0, .int 0, .null, .null, .int 0, .int 0, .int 0, .int 0, .null, .null, .int 0, .int 0, .int 0]))] ∧ vq_AOA .int U)) (va_Qv (fun _ : Unit => True) (fun _ t => ∃ (q1 : Nat) (q9 : Nat) (q12 : Nat) (q14 : Nat) (q3 : Nat) (q4 : Nat) (q5 : Nat) (q6 : Nat) (q7 : Nat) (cA8 : ClassId) (cA10 : ClassId) (f11 : Nat → Int32), va_P (dC, dI) vwCl [(ad0, .inr (7, [.int 0, .int 0, .int (-1), .ref q1, .ref q9, .int 0, .int 0, .int 0, .int 0, .ref q12, .ref q14, .int 0, .int 0, .int 0])), (q1, .inr (3, [.int 0, .int 0, .int 10, .int 0, .int 0, .int 1, .ref q3, .ref q4, .ref q5, .ref q6, .ref q7])), (q6, .inl (cA8, 3, .inl (lf [1, 0, 0]))), (q9, .inl (cA10, 900, .inl f11))] t.heap ∧ va_K (dC, dI) vwCl [(cA8, .int), (cA10, .byte)] t ∧ va_D (va_A [(ad0, .inr (7, [.int 0, .int 0, .int 0, .null, .null, .int 0, .int 0, .int 0, .int 0, .null, .null, .int 0, .int 0, .int 0]))] sz) [(ad0, .inr (7, [.int 0, .int 0, .int (-1), .ref q1, .ref q9, .int 0, .int 0, .int 0, .int 0, .ref q12, .ref q14, .int 0, .int 0, .int 0])), (q1, .inr (3, [.int 0, .int 0, .int 10, .int 0, .int 0, .int 1, .ref q3, .ref q4, .ref q5, .ref q6, .ref q7])), (q6, .inl (cA8, 3, .inl (lf [1, 0, 0]))), (q9, .inl (cA10, 900, .inl f11))]) (va_A [(ad0, .inr (7, [.int 0, .int 0, .int 0, .null, .null, .int 0, .int 0, .int 0, .int 0, .null, .null, .int 0, .int 0, .int 0]))] sz)) 14 960 (va_A [(ad0, .inr (7, [.int 0, .int 0, .int 0, .null, .null, .int 0, .int 0, .int 0, .int 0, .null, .null, .int 0, .int 0, .int 0]))] sz) := by
  refine Met.ofW (cc := cX7_init) (maxL := 1) (ret := none) (by decide) rfl ?_
  intro p e s m args below meth c s₁ B hml hv
  obtain ⟨rfl, hsz, hP, hK, hD0, hF_0⟩ := hv
  have hx := B.exec
  have hb := B.bytes
  have hr := B.returns
  have hts := atoms_spec (ws := wsX7_init) B.pre
  have hown : s.vm.findClass RX7 = some m.cls := findClass_of_methodNamed B.named
  have hlocks := B.notSynchronized
  have hin : meth.name = "<init>" := (name_of_methodNamed B.named B.method).1
  subst hsz
  have hD := hD0.self (sz := s.heap.size)
  generalize hAe : va_A [(ad0, .inr (7, [.int 0, .int 0, .int 0, .null, .null, .int 0, .int 0, .int 0, .int 0, .null, .null, .int 0, .int 0, .int 0]))] s.heap.size = A at hD ⊢
  have hA : ∀ q : Nat, s.heap.size ≤ q → A q := fun q h => by rw [← hAe]; exact Or.inr h
  have hS : va_S A s.heap s.heap [] := va_S.rf
  have hP : va_P (dC, dI) vwCl [(ad0, .inr (7, [.int 0, .int 0, .int 0, .null, .null, .int 0, .int 0, .int 0, .int 0, .null, .null, .int 0, .int 0, .int 0]))] s.heap := hP
  have hl := lv_entry ([.ref ad0]) (n := 1) (Nat.le_of_ble_eq_true rfl)
  rw [lg_entry_eq]
  generalize (lg_sl ([.ref ad0]) ++ List.replicate (1 - (lg_sl ([.ref ad0])).length) Slot.unset).toArray = ls at hl ⊢
  have hl : lv_has ls 1 [(0, .ref ad0)] := hl
  refine lv_aload_n hx hb dX7_init_0 rfl (lv_at hl 0 rfl) ?_
  refine W.objInit hx hb hown (hts _ kk_X7_init_0) (hts _ kk_X7_init_1) (hts _ kk_X7_init_2) rfl (by rw [hml]; exact hl.1) rfl dX7_init_1 (Nat.le_of_ble_eq_true rfl) (Nat.le_of_ble_eq_true rfl) ?_
  refine W.eq (g2 := F0 m 4 ls []) rfl ?_
  refine lv_aload_n hx hb dX7_init_4 rfl (lv_at hl 0 rfl) ?_
  refine lv_iconst (v := 0) hx hb dX7_init_5 (by decide) ?_
  refine va_put (D := (dC, dI)) (ci := 7) (v := .int 0) (ty := .int) (C := RX7) (T := TX7) (N := 14) hx hb hts iw_X7_init_X7 tyX7 tyX7_ok nmX7 hown hK hP hD hS 0 rfl rfl 0 (by decide) (hts _ kk_X7_init_3) (fun _ h9 => h9) rfl (by decide +kernel) rfl rfl (Nat.le_of_ble_eq_true rfl) dX7_init_6 (fun H locs hP hD hS => ?_)
  have hP : va_P (dC, dI) vwCl [(ad0, .inr (7, [.int 0, .int 0, .int 0, .null, .null, .int 0, .int 0, .int 0, .int 0, .null, .null, .int 0, .int 0, .int 0]))] H := hP
  have hD : va_D A [(ad0, .inr (7, [.int 0, .int 0, .int 0, .null, .null, .int 0, .int 0, .int 0, .int 0, .null, .null, .int 0, .int 0, .int 0]))] := hD
  refine lv_aload_n hx hb dX7_init_9 rfl (lv_at hl 0 rfl) ?_
  refine lv_iconst (v := 0) hx hb dX7_init_10 (by decide) ?_
  refine va_put (D := (dC, dI)) (ci := 7) (v := .int 0) (ty := .int) (C := RX7) (T := TX7) (N := 14) hx hb hts iw_X7_init_X7 tyX7 tyX7_ok nmX7 hown hK hP hD hS 0 rfl rfl 1 (by decide) (hts _ kk_X7_init_4) (fun _ h9 => h9) rfl (by decide +kernel) rfl rfl (Nat.le_of_ble_eq_true rfl) dX7_init_11 (fun H locs hP hD hS => ?_)
  have hP : va_P (dC, dI) vwCl [(ad0, .inr (7, [.int 0, .int 0, .int 0, .null, .null, .int 0, .int 0, .int 0, .int 0, .null, .null, .int 0, .int 0, .int 0]))] H := hP
  have hD : va_D A [(ad0, .inr (7, [.int 0, .int 0, .int 0, .null, .null, .int 0, .int 0, .int 0, .int 0, .null, .null, .int 0, .int 0, .int 0]))] := hD
  refine lv_aload_n hx hb dX7_init_14 rfl (lv_at hl 0 rfl) ?_
  refine lv_iconst (v := (-1)) hx hb dX7_init_15 (by decide) ?_
  refine va_put (D := (dC, dI)) (ci := 7) (v := .int (-1)) (ty := .int) (C := RX7) (T := TX7) (N := 14) hx hb hts iw_X7_init_X7 tyX7 tyX7_ok nmX7 hown hK hP hD hS 0 rfl rfl 2 (by decide) (hts _ kk_X7_init_5) (fun _ h9 => h9) rfl (by decide +kernel) rfl rfl (Nat.le_of_ble_eq_true rfl) dX7_init_16 (fun H locs hP hD hS => ?_)
  have hP : va_P (dC, dI) vwCl [(ad0, .inr (7, [.int 0, .int 0, .int (-1), .null, .null, .int 0, .int 0, .int 0, .int 0, .null, .null, .int 0, .int 0, .int 0]))] H := hP
  have hD : va_D A [(ad0, .inr (7, [.int 0, .int 0, .int (-1), .null, .null, .int 0, .int 0, .int 0, .int 0, .null, .null, .int 0, .int 0, .int 0]))] := hD
  refine lv_aload_n hx hb dX7_init_19 rfl (lv_at hl 0 rfl) ?_
  refine va_new (ci := 3) (fs := [.int 0, .int 0, .int 0, .int 0, .int 0, .int 0, .null, .null, .null, .null, .null]) (C := RX3) (T := TX3) (N := 11) hx hb hts iw_X7_init_X3 tyX3 tyX3_ok hown (hts _ kk_X7_init_6) (hts _ kk_X7_init_7) (hts _ kk_X7_init_8) hK hP hD hS hA rfl (by decide) (Nat.le_of_ble_eq_true rfl) (Nat.le_of_ble_eq_true rfl) dX7_init_20 (fun q1 H hP hD hS => ?_)
  have hP : va_P (dC, dI) vwCl [(ad0, .inr (7, [.int 0, .int 0, .int (-1), .null, .null, .int 0, .int 0, .int 0, .int 0, .null, .null, .int 0, .int 0, .int 0])), (q1, .inr (3, [.int 0, .int 0, .int 0, .int 0, .int 0, .int 0, .null, .null, .null, .null, .null]))] H := hP
  have hD : va_D A [(ad0, .inr (7, [.int 0, .int 0, .int (-1), .null, .null, .int 0, .int 0, .int 0, .int 0, .null, .null, .int 0, .int 0, .int 0])), (q1, .inr (3, [.int 0, .int 0, .int 0, .int 0, .int 0, .int 0, .null, .null, .null, .null, .null]))] := hD
  refine W.widen (k := 1) (n := 11) (by decide) (by decide) ?_
  refine lv_dup hx hb dX7_init_23 rfl ?_
  have hPc := hP.sub (ws' := [(q1, .inr (3, [.int 0, .int 0, .int 0, .int 0, .int 0, .int 0, .null, .null, .null, .null, .null]))]) [1] rfl
  have hDc := hD.sub (ws' := [(q1, .inr (3, [.int 0, .int 0, .int 0, .int 0, .int 0, .int 0, .null, .null, .null, .null, .null]))]) [1] (by decide) rfl
  have hKc := hK.sub (tys' := []) [] rfl
  have hFc := va_free (wc := [(q1, .inr (3, [.int 0, .int 0, .int 0, .int 0, .int 0, .int 0, .null, .null, .null, .null, .null]))]) hD hS hA [1] rfl
  refine va_callv (va_runI (As := []) (rest := [.ref q1, .ref ad0]) ⟨hx, hb, hml, hown, hts⟩ (ct_X3_init l dC dI q1 H.size) (cwI 0 hts gX7_init_X3_init rfl rfl rfl (hts _ kk_X7_init_8) (hts _ kk_X7_init_9) (hts _ kk_X7_init_10) rfl (by decide +kernel) ⟨Nat.le_of_ble_eq_true rfl, Nat.le_of_ble_eq_true rfl⟩) ⟨fun a U g mk q => by obtain ⟨q0, q1, qP, qK, qD, qF0⟩ := q; exact ⟨q0, q1, qP, va_K.moved (u := U) (U := U.calling g mk a) (Vm.Alike.refl U.vm) qK, qD, vq_AOA.moved (u := U) (U := U.calling g mk a) (Vm.Alike.refl U.vm) qF0⟩, fun U hU hW => ⟨rfl, by rw [hU], by rw [hU]; exact hPc, va_K.moved hW.alike hKc, hDc.weaken (fun _ _ _ _ => trivial), vq_AOA.moved hW.alike hF_0⟩⟩ rfl rfl hl.1 rfl (lv_room (Nat.le_of_ble_eq_true rfl)) dX7_init_24 ⟨Nat.le_of_ble_eq_true rfl, Nat.le_of_ble_eq_true rfl⟩) hS (fun q _ h => hFc q h) hFc (fun u t H1 locs ht hvm hw hB hz1 hk1 hS => ?_)
  obtain ⟨q3, q4, q5, q6, q7, cA8, hP1, hK1, hD1⟩ := hB
  rw [ht] at hP1
  have hK1 := va_K.moved hvm.symm hK1
  obtain ⟨hP, hD⟩ := va_join (wr := [(ad0, .inr (7, [.int 0, .int 0, .int (-1), .null, .null, .int 0, .int 0, .int 0, .int 0, .null, .null, .int 0, .int 0, .int 0]))]) (w1 := [(q1, .inr (3, [.int 0, .int 0, .int 10, .int 0, .int 0, .int 1, .ref q3, .ref q4, .ref q5, .ref q6, .ref q7])), (q6, .inl (cA8, 3, .inl (lf [1, 0, 0])))]) hP hD [1] [0] rfl rfl (by decide) (by decide) hk1 hFc hP1 hD1
  have hK := (hK.sub (tys' := []) [] rfl).app hK1
  clear hPc hDc hKc hFc hP1 hD1 hK1 hk1 hz1
  generalize H1 = H at hP hS ⊢
  have hP : va_P (dC, dI) vwCl [(ad0, .inr (7, [.int 0, .int 0, .int (-1), .null, .null, .int 0, .int 0, .int 0, .int 0, .null, .null, .int 0, .int 0, .int 0])), (q1, .inr (3, [.int 0, .int 0, .int 10, .int 0, .int 0, .int 1, .ref q3, .ref q4, .ref q5, .ref q6, .ref q7])), (q6, .inl (cA8, 3, .inl (lf [1, 0, 0])))] H := hP
  have hD : va_D A [(ad0, .inr (7, [.int 0, .int 0, .int (-1), .null, .null, .int 0, .int 0, .int 0, .int 0, .null, .null, .int 0, .int 0, .int 0])), (q1, .inr (3, [.int 0, .int 0, .int 10, .int 0, .int 0, .int 1, .ref q3, .ref q4, .ref q5, .ref q6, .ref q7])), (q6, .inl (cA8, 3, .inl (lf [1, 0, 0])))] := hD
  have hK : va_K (dC, dI) vwCl [(cA8, .int)] s := hK
  refine W.widen (k := 11) (n := 50) (by decide) (by decide) ?_
  refine va_put (D := (dC, dI)) (ci := 7) (v := .ref q1) (ty := (.object "PaidBySigns$Hire")) (C := RX7) (T := TX7) (N := 14) hx hb hts iw_X7_init_X7 tyX7 tyX7_ok nmX7 hown hK hP hD hS 0 rfl rfl 3 (by decide) (hts _ kk_X7_init_11) (fun _ h9 => h9) rfl (by decide +kernel) rfl rfl (Nat.le_of_ble_eq_true rfl) dX7_init_27 (fun H locs hP hD hS => ?_)
  have hP : va_P (dC, dI) vwCl [(ad0, .inr (7, [.int 0, .int 0, .int (-1), .ref q1, .null, .int 0, .int 0, .int 0, .int 0, .null, .null, .int 0, .int 0, .int 0])), (q1, .inr (3, [.int 0, .int 0, .int 10, .int 0, .int 0, .int 1, .ref q3, .ref q4, .ref q5, .ref q6, .ref q7])), (q6, .inl (cA8, 3, .inl (lf [1, 0, 0])))] H := hP
  have hD : va_D A [(ad0, .inr (7, [.int 0, .int 0, .int (-1), .ref q1, .null, .int 0, .int 0, .int 0, .int 0, .null, .null, .int 0, .int 0, .int 0])), (q1, .inr (3, [.int 0, .int 0, .int 10, .int 0, .int 0, .int 1, .ref q3, .ref q4, .ref q5, .ref q6, .ref q7])), (q6, .inl (cA8, 3, .inl (lf [1, 0, 0])))] := hD
  refine lv_aload_n hx hb dX7_init_30 rfl (lv_at hl 0 rfl) ?_
  refine lv_sipush (v := 900) hx hb dX7_init_31 (by decide) ?_
  refine va_newa (atype := .byte) (ty := .byte) (N' := 900) (a0 := (900, .inl (fun _ => 0))) hx hb (hts _ kk_X7_init_12) rfl hK hP hD hS hA (fun _ => rfl) (by decide) (by decide) (by decide) (Nat.le_of_ble_eq_true rfl) (Nat.le_of_ble_eq_true rfl) dX7_init_34 (fun q9 cA10 H hK hP hD hS => ?_)
  refine W.widen (k := 12) (n := 950) (by decide) (by decide) ?_
  have hP : va_P (dC, dI) vwCl [(ad0, .inr (7, [.int 0, .int 0, .int (-1), .ref q1, .null, .int 0, .int 0, .int 0, .int 0, .null, .null, .int 0, .int 0, .int 0])), (q1, .inr (3, [.int 0, .int 0, .int 10, .int 0, .int 0, .int 1, .ref q3, .ref q4, .ref q5, .ref q6, .ref q7])), (q6, .inl (cA8, 3, .inl (lf [1, 0, 0]))), (q9, .inl (cA10, 900, .inl (fun _ => 0)))] H := hP
  have hD : va_D A [(ad0, .inr (7, [.int 0, .int 0, .int (-1), .ref q1, .null, .int 0, .int 0, .int 0, .int 0, .null, .null, .int 0, .int 0, .int 0])), (q1, .inr (3, [.int 0, .int 0, .int 10, .int 0, .int 0, .int 1, .ref q3, .ref q4, .ref q5, .ref q6, .ref q7])), (q6, .inl (cA8, 3, .inl (lf [1, 0, 0]))), (q9, .inl (cA10, 900, .inl (fun _ => 0)))] := hD
  have hK : va_K (dC, dI) vwCl [(cA8, .int), (cA10, .byte)] s := hK
  generalize (fun _ => (0 : Int32)) = f11 at hP hD
  refine va_putF (D := (dC, dI)) (ci := 7) (v := .ref q9) (ty := (.array .byte)) (C := RX7) (T := TX7) (N := 14) hx hb hts iw_X7_init_X7 tyX7 tyX7_ok nmX7 hown hK hP hD hS 0 rfl rfl 4 (by decide) (hts _ kk_X7_init_13) (fun _ h9 => h9) rfl hin rfl (by decide +kernel) rfl rfl (Nat.le_of_ble_eq_true rfl) dX7_init_36 (fun H locs hP hD hS => ?_)
  have hP : va_P (dC, dI) vwCl [(ad0, .inr (7, [.int 0, .int 0, .int (-1), .ref q1, .ref q9, .int 0, .int 0, .int 0, .int 0, .null, .null, .int 0, .int 0, .int 0])), (q1, .inr (3, [.int 0, .int 0, .int 10, .int 0, .int 0, .int 1, .ref q3, .ref q4, .ref q5, .ref q6, .ref q7])), (q6, .inl (cA8, 3, .inl (lf [1, 0, 0]))), (q9, .inl (cA10, 900, .inl f11))] H := hP
  have hD : va_D A [(ad0, .inr (7, [.int 0, .int 0, .int (-1), .ref q1, .ref q9, .int 0, .int 0, .int 0, .int 0, .null, .null, .int 0, .int 0, .int 0])), (q1, .inr (3, [.int 0, .int 0, .int 10, .int 0, .int 0, .int 1, .ref q3, .ref q4, .ref q5, .ref q6, .ref q7])), (q6, .inl (cA8, 3, .inl (lf [1, 0, 0]))), (q9, .inl (cA10, 900, .inl f11))] := hD
  refine lv_aload_n hx hb dX7_init_39 rfl (lv_at hl 0 rfl) ?_
  refine lv_iconst (v := 0) hx hb dX7_init_40 (by decide) ?_
  refine va_put (D := (dC, dI)) (ci := 7) (v := .int 0) (ty := .int) (C := RX7) (T := TX7) (N := 14) hx hb hts iw_X7_init_X7 tyX7 tyX7_ok nmX7 hown hK hP hD hS 0 rfl rfl 5 (by decide) (hts _ kk_X7_init_14) (fun _ h9 => h9) rfl (by decide +kernel) rfl rfl (Nat.le_of_ble_eq_true rfl) dX7_init_41 (fun H locs hP hD hS => ?_)
  have hP : va_P (dC, dI) vwCl [(ad0, .inr (7, [.int 0, .int 0, .int (-1), .ref q1, .ref q9, .int 0, .int 0, .int 0, .int 0, .null, .null, .int 0, .int 0, .int 0])), (q1, .inr (3, [.int 0, .int 0, .int 10, .int 0, .int 0, .int 1, .ref q3, .ref q4, .ref q5, .ref q6, .ref q7])), (q6, .inl (cA8, 3, .inl (lf [1, 0, 0]))), (q9, .inl (cA10, 900, .inl f11))] H := hP
  have hD : va_D A [(ad0, .inr (7, [.int 0, .int 0, .int (-1), .ref q1, .ref q9, .int 0, .int 0, .int 0, .int 0, .null, .null, .int 0, .int 0, .int 0])), (q1, .inr (3, [.int 0, .int 0, .int 10, .int 0, .int 0, .int 1, .ref q3, .ref q4, .ref q5, .ref q6, .ref q7])), (q6, .inl (cA8, 3, .inl (lf [1, 0, 0]))), (q9, .inl (cA10, 900, .inl f11))] := hD
  refine lv_aload_n hx hb dX7_init_44 rfl (lv_at hl 0 rfl) ?_
  refine lv_iconst (v := 0) hx hb dX7_init_45 (by decide) ?_
  refine va_put (D := (dC, dI)) (ci := 7) (v := .int 0) (ty := .int) (C := RX7) (T := TX7) (N := 14) hx hb hts iw_X7_init_X7 tyX7 tyX7_ok nmX7 hown hK hP hD hS 0 rfl rfl 6 (by decide) (hts _ kk_X7_init_15) (fun _ h9 => h9) rfl (by decide +kernel) rfl rfl (Nat.le_of_ble_eq_true rfl) dX7_init_46 (fun H locs hP hD hS => ?_)
  have hP : va_P (dC, dI) vwCl [(ad0, .inr (7, [.int 0, .int 0, .int (-1), .ref q1, .ref q9, .int 0, .int 0, .int 0, .int 0, .null, .null, .int 0, .int 0, .int 0])), (q1, .inr (3, [.int 0, .int 0, .int 10, .int 0, .int 0, .int 1, .ref q3, .ref q4, .ref q5, .ref q6, .ref q7])), (q6, .inl (cA8, 3, .inl (lf [1, 0, 0]))), (q9, .inl (cA10, 900, .inl f11))] H := hP
  have hD : va_D A [(ad0, .inr (7, [.int 0, .int 0, .int (-1), .ref q1, .ref q9, .int 0, .int 0, .int 0, .int 0, .null, .null, .int 0, .int 0, .int 0])), (q1, .inr (3, [.int 0, .int 0, .int 10, .int 0, .int 0, .int 1, .ref q3, .ref q4, .ref q5, .ref q6, .ref q7])), (q6, .inl (cA8, 3, .inl (lf [1, 0, 0]))), (q9, .inl (cA10, 900, .inl f11))] := hD
  refine lv_aload_n hx hb dX7_init_49 rfl (lv_at hl 0 rfl) ?_
  refine lv_iconst (v := 0) hx hb dX7_init_50 (by decide) ?_
  refine va_put (D := (dC, dI)) (ci := 7) (v := .int 0) (ty := .int) (C := RX7) (T := TX7) (N := 14) hx hb hts iw_X7_init_X7 tyX7 tyX7_ok nmX7 hown hK hP hD hS 0 rfl rfl 7 (by decide) (hts _ kk_X7_init_16) (fun _ h9 => h9) rfl (by decide +kernel) rfl rfl (Nat.le_of_ble_eq_true rfl) dX7_init_51 (fun H locs hP hD hS => ?_)
  have hP : va_P (dC, dI) vwCl [(ad0, .inr (7, [.int 0, .int 0, .int (-1), .ref q1, .ref q9, .int 0, .int 0, .int 0, .int 0, .null, .null, .int 0, .int 0, .int 0])), (q1, .inr (3, [.int 0, .int 0, .int 10, .int 0, .int 0, .int 1, .ref q3, .ref q4, .ref q5, .ref q6, .ref q7])), (q6, .inl (cA8, 3, .inl (lf [1, 0, 0]))), (q9, .inl (cA10, 900, .inl f11))] H := hP
  have hD : va_D A [(ad0, .inr (7, [.int 0, .int 0, .int (-1), .ref q1, .ref q9, .int 0, .int 0, .int 0, .int 0, .null, .null, .int 0, .int 0, .int 0])), (q1, .inr (3, [.int 0, .int 0, .int 10, .int 0, .int 0, .int 1, .ref q3, .ref q4, .ref q5, .ref q6, .ref q7])), (q6, .inl (cA8, 3, .inl (lf [1, 0, 0]))), (q9, .inl (cA10, 900, .inl f11))] := hD
  refine lv_aload_n hx hb dX7_init_54 rfl (lv_at hl 0 rfl) ?_
  refine lv_iconst (v := 0) hx hb dX7_init_55 (by decide) ?_
  refine va_put (D := (dC, dI)) (ci := 7) (v := .int 0) (ty := .int) (C := RX7) (T := TX7) (N := 14) hx hb hts iw_X7_init_X7 tyX7 tyX7_ok nmX7 hown hK hP hD hS 0 rfl rfl 8 (by decide) (hts _ kk_X7_init_17) (fun _ h9 => h9) rfl (by decide +kernel) rfl rfl (Nat.le_of_ble_eq_true rfl) dX7_init_56 (fun H locs hP hD hS => ?_)
  have hP : va_P (dC, dI) vwCl [(ad0, .inr (7, [.int 0, .int 0, .int (-1), .ref q1, .ref q9, .int 0, .int 0, .int 0, .int 0, .null, .null, .int 0, .int 0, .int 0])), (q1, .inr (3, [.int 0, .int 0, .int 10, .int 0, .int 0, .int 1, .ref q3, .ref q4, .ref q5, .ref q6, .ref q7])), (q6, .inl (cA8, 3, .inl (lf [1, 0, 0]))), (q9, .inl (cA10, 900, .inl f11))] H := hP
  have hD : va_D A [(ad0, .inr (7, [.int 0, .int 0, .int (-1), .ref q1, .ref q9, .int 0, .int 0, .int 0, .int 0, .null, .null, .int 0, .int 0, .int 0])), (q1, .inr (3, [.int 0, .int 0, .int 10, .int 0, .int 0, .int 1, .ref q3, .ref q4, .ref q5, .ref q6, .ref q7])), (q6, .inl (cA8, 3, .inl (lf [1, 0, 0]))), (q9, .inl (cA10, 900, .inl f11))] := hD
  refine lv_aload_n hx hb dX7_init_59 rfl (lv_at hl 0 rfl) ?_
  refine lv_iconst (v := 5) hx hb dX7_init_60 (by decide) ?_
  refine va_newa (atype := .int) (ty := .int) (N' := 5) (a0 := (5, .inl (fun _ => 0))) hx hb (hts _ kk_X7_init_18) rfl hK hP hD hS hA (fun _ => rfl) (by decide) (by decide) (by decide) (Nat.le_of_ble_eq_true rfl) (Nat.le_of_ble_eq_true rfl) dX7_init_61 (fun q12 cA13 H hK hP hD hS => ?_)
  refine W.widen (k := 13) (n := 955) (by decide) (by decide) ?_
  have hP : va_P (dC, dI) vwCl [(ad0, .inr (7, [.int 0, .int 0, .int (-1), .ref q1, .ref q9, .int 0, .int 0, .int 0, .int 0, .null, .null, .int 0, .int 0, .int 0])), (q1, .inr (3, [.int 0, .int 0, .int 10, .int 0, .int 0, .int 1, .ref q3, .ref q4, .ref q5, .ref q6, .ref q7])), (q6, .inl (cA8, 3, .inl (lf [1, 0, 0]))), (q9, .inl (cA10, 900, .inl f11))] H := hP.sub [0, 1, 2, 3] rfl
  have hD : va_D A [(ad0, .inr (7, [.int 0, .int 0, .int (-1), .ref q1, .ref q9, .int 0, .int 0, .int 0, .int 0, .null, .null, .int 0, .int 0, .int 0])), (q1, .inr (3, [.int 0, .int 0, .int 10, .int 0, .int 0, .int 1, .ref q3, .ref q4, .ref q5, .ref q6, .ref q7])), (q6, .inl (cA8, 3, .inl (lf [1, 0, 0]))), (q9, .inl (cA10, 900, .inl f11))] := hD.sub [0, 1, 2, 3] (by decide) rfl
  have hK : va_K (dC, dI) vwCl [(cA8, .int), (cA10, .byte)] s := hK.sub [0, 1] rfl
  refine va_putF (D := (dC, dI)) (ci := 7) (v := .ref q12) (ty := (.array .int)) (C := RX7) (T := TX7) (N := 14) hx hb hts iw_X7_init_X7 tyX7 tyX7_ok nmX7 hown hK hP hD hS 0 rfl rfl 9 (by decide) (hts _ kk_X7_init_19) (fun _ h9 => h9) rfl hin rfl (by decide +kernel) rfl rfl (Nat.le_of_ble_eq_true rfl) dX7_init_63 (fun H locs hP hD hS => ?_)
  have hP : va_P (dC, dI) vwCl [(ad0, .inr (7, [.int 0, .int 0, .int (-1), .ref q1, .ref q9, .int 0, .int 0, .int 0, .int 0, .ref q12, .null, .int 0, .int 0, .int 0])), (q1, .inr (3, [.int 0, .int 0, .int 10, .int 0, .int 0, .int 1, .ref q3, .ref q4, .ref q5, .ref q6, .ref q7])), (q6, .inl (cA8, 3, .inl (lf [1, 0, 0]))), (q9, .inl (cA10, 900, .inl f11))] H := hP
  have hD : va_D A [(ad0, .inr (7, [.int 0, .int 0, .int (-1), .ref q1, .ref q9, .int 0, .int 0, .int 0, .int 0, .ref q12, .null, .int 0, .int 0, .int 0])), (q1, .inr (3, [.int 0, .int 0, .int 10, .int 0, .int 0, .int 1, .ref q3, .ref q4, .ref q5, .ref q6, .ref q7])), (q6, .inl (cA8, 3, .inl (lf [1, 0, 0]))), (q9, .inl (cA10, 900, .inl f11))] := hD
  refine lv_aload_n hx hb dX7_init_66 rfl (lv_at hl 0 rfl) ?_
  refine lv_iconst (v := 5) hx hb dX7_init_67 (by decide) ?_
  refine va_newa (atype := .int) (ty := .int) (N' := 5) (a0 := (5, .inl (fun _ => 0))) hx hb (hts _ kk_X7_init_18) rfl hK hP hD hS hA (fun _ => rfl) (by decide) (by decide) (by decide) (Nat.le_of_ble_eq_true rfl) (Nat.le_of_ble_eq_true rfl) dX7_init_68 (fun q14 cA15 H hK hP hD hS => ?_)
  refine W.widen (k := 14) (n := 960) (by decide) (by decide) ?_
  have hP : va_P (dC, dI) vwCl [(ad0, .inr (7, [.int 0, .int 0, .int (-1), .ref q1, .ref q9, .int 0, .int 0, .int 0, .int 0, .ref q12, .null, .int 0, .int 0, .int 0])), (q1, .inr (3, [.int 0, .int 0, .int 10, .int 0, .int 0, .int 1, .ref q3, .ref q4, .ref q5, .ref q6, .ref q7])), (q6, .inl (cA8, 3, .inl (lf [1, 0, 0]))), (q9, .inl (cA10, 900, .inl f11))] H := hP.sub [0, 1, 2, 3] rfl
  have hD : va_D A [(ad0, .inr (7, [.int 0, .int 0, .int (-1), .ref q1, .ref q9, .int 0, .int 0, .int 0, .int 0, .ref q12, .null, .int 0, .int 0, .int 0])), (q1, .inr (3, [.int 0, .int 0, .int 10, .int 0, .int 0, .int 1, .ref q3, .ref q4, .ref q5, .ref q6, .ref q7])), (q6, .inl (cA8, 3, .inl (lf [1, 0, 0]))), (q9, .inl (cA10, 900, .inl f11))] := hD.sub [0, 1, 2, 3] (by decide) rfl
  have hK : va_K (dC, dI) vwCl [(cA8, .int), (cA10, .byte)] s := hK.sub [0, 1] rfl
  refine va_putF (D := (dC, dI)) (ci := 7) (v := .ref q14) (ty := (.array .int)) (C := RX7) (T := TX7) (N := 14) hx hb hts iw_X7_init_X7 tyX7 tyX7_ok nmX7 hown hK hP hD hS 0 rfl rfl 10 (by decide) (hts _ kk_X7_init_20) (fun _ h9 => h9) rfl hin rfl (by decide +kernel) rfl rfl (Nat.le_of_ble_eq_true rfl) dX7_init_70 (fun H locs hP hD hS => ?_)
  have hP : va_P (dC, dI) vwCl [(ad0, .inr (7, [.int 0, .int 0, .int (-1), .ref q1, .ref q9, .int 0, .int 0, .int 0, .int 0, .ref q12, .ref q14, .int 0, .int 0, .int 0])), (q1, .inr (3, [.int 0, .int 0, .int 10, .int 0, .int 0, .int 1, .ref q3, .ref q4, .ref q5, .ref q6, .ref q7])), (q6, .inl (cA8, 3, .inl (lf [1, 0, 0]))), (q9, .inl (cA10, 900, .inl f11))] H := hP
  have hD : va_D A [(ad0, .inr (7, [.int 0, .int 0, .int (-1), .ref q1, .ref q9, .int 0, .int 0, .int 0, .int 0, .ref q12, .ref q14, .int 0, .int 0, .int 0])), (q1, .inr (3, [.int 0, .int 0, .int 10, .int 0, .int 0, .int 1, .ref q3, .ref q4, .ref q5, .ref q6, .ref q7])), (q6, .inl (cA8, 3, .inl (lf [1, 0, 0]))), (q9, .inl (cA10, 900, .inl f11))] := hD
  refine lv_aload_n hx hb dX7_init_73 rfl (lv_at hl 0 rfl) ?_
  refine lv_iconst (v := 0) hx hb dX7_init_74 (by decide) ?_
  refine va_put (D := (dC, dI)) (ci := 7) (v := .int 0) (ty := .boolean) (C := RX7) (T := TX7) (N := 14) hx hb hts iw_X7_init_X7 tyX7 tyX7_ok nmX7 hown hK hP hD hS 0 rfl rfl 11 (by decide) (hts _ kk_X7_init_21) (fun _ h9 => h9) rfl (by decide +kernel) rfl rfl (Nat.le_of_ble_eq_true rfl) dX7_init_75 (fun H locs hP hD hS => ?_)
  have hP : va_P (dC, dI) vwCl [(ad0, .inr (7, [.int 0, .int 0, .int (-1), .ref q1, .ref q9, .int 0, .int 0, .int 0, .int 0, .ref q12, .ref q14, .int 0, .int 0, .int 0])), (q1, .inr (3, [.int 0, .int 0, .int 10, .int 0, .int 0, .int 1, .ref q3, .ref q4, .ref q5, .ref q6, .ref q7])), (q6, .inl (cA8, 3, .inl (lf [1, 0, 0]))), (q9, .inl (cA10, 900, .inl f11))] H := hP
  have hD : va_D A [(ad0, .inr (7, [.int 0, .int 0, .int (-1), .ref q1, .ref q9, .int 0, .int 0, .int 0, .int 0, .ref q12, .ref q14, .int 0, .int 0, .int 0])), (q1, .inr (3, [.int 0, .int 0, .int 10, .int 0, .int 0, .int 1, .ref q3, .ref q4, .ref q5, .ref q6, .ref q7])), (q6, .inl (cA8, 3, .inl (lf [1, 0, 0]))), (q9, .inl (cA10, 900, .inl f11))] := hD
  refine lv_aload_n hx hb dX7_init_78 rfl (lv_at hl 0 rfl) ?_
  refine lv_iconst (v := 0) hx hb dX7_init_79 (by decide) ?_
  refine va_put (D := (dC, dI)) (ci := 7) (v := .int 0) (ty := .boolean) (C := RX7) (T := TX7) (N := 14) hx hb hts iw_X7_init_X7 tyX7 tyX7_ok nmX7 hown hK hP hD hS 0 rfl rfl 12 (by decide) (hts _ kk_X7_init_22) (fun _ h9 => h9) rfl (by decide +kernel) rfl rfl (Nat.le_of_ble_eq_true rfl) dX7_init_80 (fun H locs hP hD hS => ?_)
  have hP : va_P (dC, dI) vwCl [(ad0, .inr (7, [.int 0, .int 0, .int (-1), .ref q1, .ref q9, .int 0, .int 0, .int 0, .int 0, .ref q12, .ref q14, .int 0, .int 0, .int 0])), (q1, .inr (3, [.int 0, .int 0, .int 10, .int 0, .int 0, .int 1, .ref q3, .ref q4, .ref q5, .ref q6, .ref q7])), (q6, .inl (cA8, 3, .inl (lf [1, 0, 0]))), (q9, .inl (cA10, 900, .inl f11))] H := hP
  have hD : va_D A [(ad0, .inr (7, [.int 0, .int 0, .int (-1), .ref q1, .ref q9, .int 0, .int 0, .int 0, .int 0, .ref q12, .ref q14, .int 0, .int 0, .int 0])), (q1, .inr (3, [.int 0, .int 0, .int 10, .int 0, .int 0, .int 1, .ref q3, .ref q4, .ref q5, .ref q6, .ref q7])), (q6, .inl (cA8, 3, .inl (lf [1, 0, 0]))), (q9, .inl (cA10, 900, .inl f11))] := hD
  refine lv_aload_n hx hb dX7_init_83 rfl (lv_at hl 0 rfl) ?_
  refine lv_iconst (v := 0) hx hb dX7_init_84 (by decide) ?_
  refine va_put (D := (dC, dI)) (ci := 7) (v := .int 0) (ty := .boolean) (C := RX7) (T := TX7) (N := 14) hx hb hts iw_X7_init_X7 tyX7 tyX7_ok nmX7 hown hK hP hD hS 0 rfl rfl 13 (by decide) (hts _ kk_X7_init_23) (fun _ h9 => h9) rfl (by decide +kernel) rfl rfl (Nat.le_of_ble_eq_true rfl) dX7_init_85 (fun H locs hP hD hS => ?_)
  have hP : va_P (dC, dI) vwCl [(ad0, .inr (7, [.int 0, .int 0, .int (-1), .ref q1, .ref q9, .int 0, .int 0, .int 0, .int 0, .ref q12, .ref q14, .int 0, .int 0, .int 0])), (q1, .inr (3, [.int 0, .int 0, .int 10, .int 0, .int 0, .int 1, .ref q3, .ref q4, .ref q5, .ref q6, .ref q7])), (q6, .inl (cA8, 3, .inl (lf [1, 0, 0]))), (q9, .inl (cA10, 900, .inl f11))] H := hP
  have hD : va_D A [(ad0, .inr (7, [.int 0, .int 0, .int (-1), .ref q1, .ref q9, .int 0, .int 0, .int 0, .int 0, .ref q12, .ref q14, .int 0, .int 0, .int 0])), (q1, .inr (3, [.int 0, .int 0, .int 10, .int 0, .int 0, .int 1, .ref q3, .ref q4, .ref q5, .ref q6, .ref q7])), (q6, .inl (cA8, 3, .inl (lf [1, 0, 0]))), (q9, .inl (cA10, 900, .inl f11))] := hD
  refine W.widen (k := 14) (n := 960) (by decide) (by decide) ?_
  have hP9 := hP.sub (ws' := [(ad0, .inr (7, [.int 0, .int 0, .int (-1), .ref q1, .ref q9, .int 0, .int 0, .int 0, .int 0, .ref q12, .ref q14, .int 0, .int 0, .int 0])), (q1, .inr (3, [.int 0, .int 0, .int 10, .int 0, .int 0, .int 1, .ref q3, .ref q4, .ref q5, .ref q6, .ref q7])), (q6, .inl (cA8, 3, .inl (lf [1, 0, 0]))), (q9, .inl (cA10, 900, .inl f11))]) [0, 1, 2, 3] rfl
  have hD9 := hD.sub (ws' := [(ad0, .inr (7, [.int 0, .int 0, .int (-1), .ref q1, .ref q9, .int 0, .int 0, .int 0, .int 0, .ref q12, .ref q14, .int 0, .int 0, .int 0])), (q1, .inr (3, [.int 0, .int 0, .int 10, .int 0, .int 0, .int 1, .ref q3, .ref q4, .ref q5, .ref q6, .ref q7])), (q6, .inl (cA8, 3, .inl (lf [1, 0, 0]))), (q9, .inl (cA10, 900, .inl f11))]) [0, 1, 2, 3] (by decide) rfl
  have hK9 := hK.sub (tys' := [(cA8, .int), (cA10, .byte)]) [0, 1] rfl
  exact W.vret hx hb hr (fun t ht hW => ⟨⟨(), rfl, trivial, q1, q9, q12, q14, q3, q4, q5, q6, q7, cA8, cA10, f11, by rw [ht]; exact hP9, va_K.moved hW.alike hK9, hD9⟩, hS.F ht⟩) hS.2.2 dX7_init_88

set_option maxHeartbeats 4000000 in
set_option maxRecDepth 100000 in
theorem ct_X2_init (l : Launch) (dC : Nat → ClassId) (dI : Nat → Nat → Nat) (ad0 : Nat) (sz : Nat) : Met l yX2_init wsX2_init ({ frames := 1, cells := 0, slots := 0, locals := 12 }) (va_Pc [.ref ad0] (fun U => U.heap.size = sz ∧ va_P (dC, dI) vwCl [(ad0, .inr (2, [.long 0, .long 0]))] U.heap ∧ va_K (dC, dI) vwCl [] U ∧ va_D (fun _ => True) [(ad0, .inr (2, [.long 0, .long 0]))])) (va_Qv (fun _ : Unit => True) (fun _ t => va_P (dC, dI) vwCl [(ad0, .inr (2, [.long (-2000000000), .long 0]))] t.heap ∧ va_K (dC, dI) vwCl [] t ∧ va_D (va_A [(ad0, .inr (2, [.long 0, .long 0]))] sz) [(ad0, .inr (2, [.long (-2000000000), .long 0]))]) (va_A [(ad0, .inr (2, [.long 0, .long 0]))] sz)) 0 0 (va_A [(ad0, .inr (2, [.long 0, .long 0]))] sz) := by
  refine Met.ofW (cc := cX2_init) (maxL := 1) (ret := none) (by decide) rfl ?_
  intro p e s m args below meth c s₁ B hml hv
  obtain ⟨rfl, hsz, hP, hK, hD0⟩ := hv
  have hx := B.exec
  have hb := B.bytes
  have hr := B.returns
  have hts := atoms_spec (ws := wsX2_init) B.pre
  have hown : s.vm.findClass RX2 = some m.cls := findClass_of_methodNamed B.named
  have hlocks := B.notSynchronized
  have hin : meth.name = "<init>" := (name_of_methodNamed B.named B.method).1
  subst hsz
  have hD := hD0.self (sz := s.heap.size)
  generalize hAe : va_A [(ad0, .inr (2, [.long 0, .long 0]))] s.heap.size = A at hD ⊢
  have hA : ∀ q : Nat, s.heap.size ≤ q → A q := fun q h => by rw [← hAe]; exact Or.inr h
  have hS : va_S A s.heap s.heap [] := va_S.rf
  have hP : va_P (dC, dI) vwCl [(ad0, .inr (2, [.long 0, .long 0]))] s.heap := hP
  have hl := lv_entry ([.ref ad0]) (n := 1) (Nat.le_of_ble_eq_true rfl)
  rw [lg_entry_eq]
  generalize (lg_sl ([.ref ad0]) ++ List.replicate (1 - (lg_sl ([.ref ad0])).length) Slot.unset).toArray = ls at hl ⊢
  have hl : lv_has ls 1 [(0, .ref ad0)] := hl
  refine lv_aload_n hx hb dX2_init_0 rfl (lv_at hl 0 rfl) ?_
  refine W.objInit hx hb hown (hts _ kk_X2_init_0) (hts _ kk_X2_init_1) (hts _ kk_X2_init_2) rfl (by rw [hml]; exact hl.1) rfl dX2_init_1 (Nat.le_of_ble_eq_true rfl) (Nat.le_of_ble_eq_true rfl) ?_
  refine W.eq (g2 := F0 m 4 ls []) rfl ?_
  refine lv_aload_n hx hb dX2_init_4 rfl (lv_at hl 0 rfl) ?_
  refine lv_ldc2 (v := (-2000000000)) hx hb hown (hts _ kk_X2_init_3) dX2_init_5 ?_
  refine va_put (D := (dC, dI)) (ci := 2) (v := .long (-2000000000)) (ty := .long) (C := RX2) (T := TX2) (N := 2) hx hb hts iw_X2_init_X2 tyX2 tyX2_ok nmX2 hown hK hP hD hS 0 rfl rfl 0 (by decide) (hts _ kk_X2_init_4) (fun _ h9 => h9) rfl (by decide +kernel) rfl rfl (Nat.le_of_ble_eq_true rfl) dX2_init_8 (fun H locs hP hD hS => ?_)
  have hP : va_P (dC, dI) vwCl [(ad0, .inr (2, [.long (-2000000000), .long 0]))] H := hP
  have hD : va_D A [(ad0, .inr (2, [.long (-2000000000), .long 0]))] := hD
  refine lv_aload_n hx hb dX2_init_11 rfl (lv_at hl 0 rfl) ?_
  refine lv_lconst (v := 0) hx hb dX2_init_12 (by decide) ?_
  refine va_put (D := (dC, dI)) (ci := 2) (v := .long 0) (ty := .long) (C := RX2) (T := TX2) (N := 2) hx hb hts iw_X2_init_X2 tyX2 tyX2_ok nmX2 hown hK hP hD hS 0 rfl rfl 1 (by decide) (hts _ kk_X2_init_5) (fun _ h9 => h9) rfl (by decide +kernel) rfl rfl (Nat.le_of_ble_eq_true rfl) dX2_init_13 (fun H locs hP hD hS => ?_)
  have hP : va_P (dC, dI) vwCl [(ad0, .inr (2, [.long (-2000000000), .long 0]))] H := hP
  have hD : va_D A [(ad0, .inr (2, [.long (-2000000000), .long 0]))] := hD
  refine W.widen (k := 0) (n := 0) (by decide) (by decide) ?_
  have hP9 := hP.sub (ws' := [(ad0, .inr (2, [.long (-2000000000), .long 0]))]) [0] rfl
  have hD9 := hD.sub (ws' := [(ad0, .inr (2, [.long (-2000000000), .long 0]))]) [0] (by decide) rfl
  have hK9 := hK.sub (tys' := []) [] rfl
  exact W.vret hx hb hr (fun t ht hW => ⟨⟨(), rfl, trivial, by rw [ht]; exact hP9, va_K.moved hW.alike hK9, hD9⟩, hS.F ht⟩) hS.2.2 dX2_init_16

set_option maxHeartbeats 4000000 in
set_option maxRecDepth 100000 in
theorem ct_X8_init (l : Launch) (dC : Nat → ClassId) (dI : Nat → Nat → Nat) (ad0 : Nat) (sz : Nat) : Met l yX8_init wsX8_init ({ frames := 1, cells := 21, slots := 283, locals := 12 }) (va_Pc [.ref ad0] (fun U => U.heap.size = sz ∧ va_P (dC, dI) vwCl [(ad0, .inr (8, [.null, .null, .null, .int 0, .int 0, .int 0, .long 0]))] U.heap ∧ va_K (dC, dI) vwCl [] U ∧ va_D (fun _ => True) [(ad0, .inr (8, [.null, .null, .null, .int 0, .int 0, .int 0, .long 0]))] ∧ vq_AOA .long U)) (va_Qv (fun _ : Unit => True) (fun _ t => va_P (dC, dI) vwCl [] t.heap ∧ va_K (dC, dI) vwCl [] t ∧ va_D (va_A [(ad0, .inr (8, [.null, .null, .null, .int 0, .int 0, .int 0, .long 0]))] sz) []) (va_A [(ad0, .inr (8, [.null, .null, .null, .int 0, .int 0, .int 0, .long 0]))] sz)) 21 283 (va_A [(ad0, .inr (8, [.null, .null, .null, .int 0, .int 0, .int 0, .long 0]))] sz) := by
  refine Met.ofW (cc := cX8_init) (maxL := 1) (ret := none) (by decide) rfl ?_
  intro p e s m args below meth c s₁ B hml hv
  obtain ⟨rfl, hsz, hP, hK, hD0, hF_1⟩ := hv
  have hx := B.exec
  have hb := B.bytes
  have hr := B.returns
  have hts := atoms_spec (ws := wsX8_init) B.pre
  have hown : s.vm.findClass RX8 = some m.cls := findClass_of_methodNamed B.named
  have hlocks := B.notSynchronized
  have hin : meth.name = "<init>" := (name_of_methodNamed B.named B.method).1
  subst hsz
  have hD := hD0.self (sz := s.heap.size)
  generalize hAe : va_A [(ad0, .inr (8, [.null, .null, .null, .int 0, .int 0, .int 0, .long 0]))] s.heap.size = A at hD ⊢
  have hA : ∀ q : Nat, s.heap.size ≤ q → A q := fun q h => by rw [← hAe]; exact Or.inr h
  have hS : va_S A s.heap s.heap [] := va_S.rf
  have hP : va_P (dC, dI) vwCl [(ad0, .inr (8, [.null, .null, .null, .int 0, .int 0, .int 0, .long 0]))] s.heap := hP
  have hl := lv_entry ([.ref ad0]) (n := 1) (Nat.le_of_ble_eq_true rfl)
  rw [lg_entry_eq]
  generalize (lg_sl ([.ref ad0]) ++ List.replicate (1 - (lg_sl ([.ref ad0])).length) Slot.unset).toArray = ls at hl ⊢
  have hl : lv_has ls 1 [(0, .ref ad0)] := hl
  refine lv_aload_n hx hb dX8_init_0 rfl (lv_at hl 0 rfl) ?_
  refine W.objInit hx hb hown (hts _ kk_X8_init_0) (hts _ kk_X8_init_1) (hts _ kk_X8_init_2) rfl (by rw [hml]; exact hl.1) rfl dX8_init_1 (Nat.le_of_ble_eq_true rfl) (Nat.le_of_ble_eq_true rfl) ?_
  refine W.eq (g2 := F0 m 4 ls []) rfl ?_
  refine lv_aload_n hx hb dX8_init_4 rfl (lv_at hl 0 rfl) ?_
  refine lv_bipush (v := 18) hx hb dX8_init_5 (by decide) ?_
  refine lv_bipush (v := 13) hx hb dX8_init_7 (by decide) ?_
  refine vq_mn0 (ty := .long) (N' := 18) (K' := 13) hx hb hown (hts _ kk_X8_init_3) hF_1 (hts _ kk_X8_init_4) hP hS (by decide) (by decide) (by decide) (by decide) (by decide) (by decide) (by decide) rfl rfl (Nat.le_of_ble_eq_true rfl) (Nat.le_of_ble_eq_true rfl) dX8_init_9 (fun q1 H hP hS => ?_)
  refine W.widen (k := 19) (n := 252) (by decide) (by decide) ?_
  refine va_putF (D := (dC, dI)) (ci := 8) (v := .ref q1) (ty := (.array (.array .long))) (C := RX8) (T := TX8) (N := 7) hx hb hts iw_X8_init_X8 tyX8 tyX8_ok nmX8 hown hK hP hD hS 0 rfl rfl 0 (by decide) (hts _ kk_X8_init_5) (fun _ h9 => h9) rfl hin rfl (by decide +kernel) rfl rfl (Nat.le_of_ble_eq_true rfl) dX8_init_13 (fun H locs hP hD hS => ?_)
  have hP : va_P (dC, dI) vwCl [(ad0, .inr (8, [.ref q1, .null, .null, .int 0, .int 0, .int 0, .long 0]))] H := hP
  have hD : va_D A [(ad0, .inr (8, [.ref q1, .null, .null, .int 0, .int 0, .int 0, .long 0]))] := hD
  refine lv_aload_n hx hb dX8_init_16 rfl (lv_at hl 0 rfl) ?_
  refine lv_bipush (v := 18) hx hb dX8_init_17 (by decide) ?_
  refine va_newa (atype := .int) (ty := .int) (N' := 18) (a0 := (18, .inl (fun _ => 0))) hx hb (hts _ kk_X8_init_6) rfl hK hP hD hS hA (fun _ => rfl) (by decide) (by decide) (by decide) (Nat.le_of_ble_eq_true rfl) (Nat.le_of_ble_eq_true rfl) dX8_init_19 (fun q2 cA3 H hK hP hD hS => ?_)
  refine W.widen (k := 20) (n := 270) (by decide) (by decide) ?_
  have hP : va_P (dC, dI) vwCl [(ad0, .inr (8, [.ref q1, .null, .null, .int 0, .int 0, .int 0, .long 0]))] H := hP.sub [0] rfl
  have hD : va_D A [(ad0, .inr (8, [.ref q1, .null, .null, .int 0, .int 0, .int 0, .long 0]))] := hD.sub [0] (by decide) rfl
  have hK : va_K (dC, dI) vwCl [] s := hK.sub [] rfl
  refine va_putF (D := (dC, dI)) (ci := 8) (v := .ref q2) (ty := (.array .int)) (C := RX8) (T := TX8) (N := 7) hx hb hts iw_X8_init_X8 tyX8 tyX8_ok nmX8 hown hK hP hD hS 0 rfl rfl 1 (by decide) (hts _ kk_X8_init_7) (fun _ h9 => h9) rfl hin rfl (by decide +kernel) rfl rfl (Nat.le_of_ble_eq_true rfl) dX8_init_21 (fun H locs hP hD hS => ?_)
  have hP : va_P (dC, dI) vwCl [(ad0, .inr (8, [.ref q1, .ref q2, .null, .int 0, .int 0, .int 0, .long 0]))] H := hP
  have hD : va_D A [(ad0, .inr (8, [.ref q1, .ref q2, .null, .int 0, .int 0, .int 0, .long 0]))] := hD
  refine lv_aload_n hx hb dX8_init_24 rfl (lv_at hl 0 rfl) ?_
  refine lv_bipush (v := 13) hx hb dX8_init_25 (by decide) ?_
  refine va_newa (atype := .int) (ty := .int) (N' := 13) (a0 := (13, .inl (fun _ => 0))) hx hb (hts _ kk_X8_init_6) rfl hK hP hD hS hA (fun _ => rfl) (by decide) (by decide) (by decide) (Nat.le_of_ble_eq_true rfl) (Nat.le_of_ble_eq_true rfl) dX8_init_27 (fun q4 cA5 H hK hP hD hS => ?_)
  refine W.widen (k := 21) (n := 283) (by decide) (by decide) ?_
  have hP : va_P (dC, dI) vwCl [(ad0, .inr (8, [.ref q1, .ref q2, .null, .int 0, .int 0, .int 0, .long 0]))] H := hP.sub [0] rfl
  have hD : va_D A [(ad0, .inr (8, [.ref q1, .ref q2, .null, .int 0, .int 0, .int 0, .long 0]))] := hD.sub [0] (by decide) rfl
  have hK : va_K (dC, dI) vwCl [] s := hK.sub [] rfl
  refine va_putF (D := (dC, dI)) (ci := 8) (v := .ref q4) (ty := (.array .int)) (C := RX8) (T := TX8) (N := 7) hx hb hts iw_X8_init_X8 tyX8 tyX8_ok nmX8 hown hK hP hD hS 0 rfl rfl 2 (by decide) (hts _ kk_X8_init_8) (fun _ h9 => h9) rfl hin rfl (by decide +kernel) rfl rfl (Nat.le_of_ble_eq_true rfl) dX8_init_29 (fun H locs hP hD hS => ?_)
  have hP : va_P (dC, dI) vwCl [(ad0, .inr (8, [.ref q1, .ref q2, .ref q4, .int 0, .int 0, .int 0, .long 0]))] H := hP
  have hD : va_D A [(ad0, .inr (8, [.ref q1, .ref q2, .ref q4, .int 0, .int 0, .int 0, .long 0]))] := hD
  refine W.widen (k := 21) (n := 283) (by decide) (by decide) ?_
  have hP9 := hP.sub (ws' := []) [] rfl
  have hD9 := hD.sub (ws' := []) [] (by decide) rfl
  have hK9 := hK.sub (tys' := []) [] rfl
  exact W.vret hx hb hr (fun t ht hW => ⟨⟨(), rfl, trivial, by rw [ht]; exact hP9, va_K.moved hW.alike hK9, hD9⟩, hS.F ht⟩) hS.2.2 dX8_init_32

set_option maxHeartbeats 4000000 in
set_option maxRecDepth 100000 in
theorem ct_X4_init (l : Launch) (dC : Nat → ClassId) (dI : Nat → Nat → Nat) (ad0 : Nat) (sz : Nat) : Met l yX4_init wsX4_init ({ frames := 2, cells := 37, slots := 380, locals := 40 }) (va_Pc [.ref ad0] (fun U => U.heap.size = sz ∧ va_P (dC, dI) vwCl [(ad0, .inr (4, [.null, .long 0, .null, .null, .null, .null, .int 0, .int 0, .null, .int 0, .int 0, .int 0]))] U.heap ∧ va_K (dC, dI) vwCl [] U ∧ va_D (fun _ => True) [(ad0, .inr (4, [.null, .long 0, .null, .null, .null, .null, .int 0, .int 0, .null, .int 0, .int 0, .int 0]))] ∧ vq_AOA .int U ∧ vq_AOA .long U)) (va_Qv (fun _ : Unit => True) (fun _ t => va_P (dC, dI) vwCl [] t.heap ∧ va_K (dC, dI) vwCl [] t ∧ va_D (va_A [(ad0, .inr (4, [.null, .long 0, .null, .null, .null, .null, .int 0, .int 0, .null, .int 0, .int 0, .int 0]))] sz) []) (va_A [(ad0, .inr (4, [.null, .long 0, .null, .null, .null, .null, .int 0, .int 0, .null, .int 0, .int 0, .int 0]))] sz)) 37 380 (va_A [(ad0, .inr (4, [.null, .long 0, .null, .null, .null, .null, .int 0, .int 0, .null, .int 0, .int 0, .int 0]))] sz) := by
  refine Met.ofW (cc := cX4_init) (maxL := 1) (ret := none) (by decide) rfl ?_
  intro p e s m args below meth c s₁ B hml hv
  obtain ⟨rfl, hsz, hP, hK, hD0, hF_0, hF_1⟩ := hv
  have hx := B.exec
  have hb := B.bytes
  have hr := B.returns
  have hts := atoms_spec (ws := wsX4_init) B.pre
  have hown : s.vm.findClass RX4 = some m.cls := findClass_of_methodNamed B.named
  have hlocks := B.notSynchronized
  have hin : meth.name = "<init>" := (name_of_methodNamed B.named B.method).1
  subst hsz
  have hD := hD0.self (sz := s.heap.size)
  generalize hAe : va_A [(ad0, .inr (4, [.null, .long 0, .null, .null, .null, .null, .int 0, .int 0, .null, .int 0, .int 0, .int 0]))] s.heap.size = A at hD ⊢
  have hA : ∀ q : Nat, s.heap.size ≤ q → A q := fun q h => by rw [← hAe]; exact Or.inr h
  have hS : va_S A s.heap s.heap [] := va_S.rf
  have hP : va_P (dC, dI) vwCl [(ad0, .inr (4, [.null, .long 0, .null, .null, .null, .null, .int 0, .int 0, .null, .int 0, .int 0, .int 0]))] s.heap := hP
  have hl := lv_entry ([.ref ad0]) (n := 1) (Nat.le_of_ble_eq_true rfl)
  rw [lg_entry_eq]
  generalize (lg_sl ([.ref ad0]) ++ List.replicate (1 - (lg_sl ([.ref ad0])).length) Slot.unset).toArray = ls at hl ⊢
  have hl : lv_has ls 1 [(0, .ref ad0)] := hl
  refine lv_aload_n hx hb dX4_init_0 rfl (lv_at hl 0 rfl) ?_
  refine W.objInit hx hb hown (hts _ kk_X4_init_0) (hts _ kk_X4_init_1) (hts _ kk_X4_init_2) rfl (by rw [hml]; exact hl.1) rfl dX4_init_1 (Nat.le_of_ble_eq_true rfl) (Nat.le_of_ble_eq_true rfl) ?_
  refine W.eq (g2 := F0 m 4 ls []) rfl ?_
  refine lv_aload_n hx hb dX4_init_4 rfl (lv_at hl 0 rfl) ?_
  refine lv_iconst (v := 4) hx hb dX4_init_5 (by decide) ?_
  refine va_newa (atype := .long) (ty := .long) (N' := 4) (a0 := (4, .inr (.inl (fun _ => 0)))) hx hb (hts _ kk_X4_init_3) rfl hK hP hD hS hA (fun _ => rfl) (by decide) (by decide) (by decide) (Nat.le_of_ble_eq_true rfl) (Nat.le_of_ble_eq_true rfl) dX4_init_6 (fun q1 cA2 H hK hP hD hS => ?_)
  refine W.widen (k := 1) (n := 4) (by decide) (by decide) ?_
  have hP : va_P (dC, dI) vwCl [(ad0, .inr (4, [.null, .long 0, .null, .null, .null, .null, .int 0, .int 0, .null, .int 0, .int 0, .int 0]))] H := hP.sub [0] rfl
  have hD : va_D A [(ad0, .inr (4, [.null, .long 0, .null, .null, .null, .null, .int 0, .int 0, .null, .int 0, .int 0, .int 0]))] := hD.sub [0] (by decide) rfl
  have hK : va_K (dC, dI) vwCl [] s := hK.sub [] rfl
  refine va_putF (D := (dC, dI)) (ci := 4) (v := .ref q1) (ty := (.array .long)) (C := RX4) (T := TX4) (N := 12) hx hb hts iw_X4_init_X4 tyX4 tyX4_ok nmX4 hown hK hP hD hS 0 rfl rfl 0 (by decide) (hts _ kk_X4_init_4) (fun _ h9 => h9) rfl hin rfl (by decide +kernel) rfl rfl (Nat.le_of_ble_eq_true rfl) dX4_init_8 (fun H locs hP hD hS => ?_)
  have hP : va_P (dC, dI) vwCl [(ad0, .inr (4, [.ref q1, .long 0, .null, .null, .null, .null, .int 0, .int 0, .null, .int 0, .int 0, .int 0]))] H := hP
  have hD : va_D A [(ad0, .inr (4, [.ref q1, .long 0, .null, .null, .null, .null, .int 0, .int 0, .null, .int 0, .int 0, .int 0]))] := hD
  refine lv_aload_n hx hb dX4_init_11 rfl (lv_at hl 0 rfl) ?_
  refine lv_lconst (v := 1) hx hb dX4_init_12 (by decide) ?_
  refine va_put (D := (dC, dI)) (ci := 4) (v := .long 1) (ty := .long) (C := RX4) (T := TX4) (N := 12) hx hb hts iw_X4_init_X4 tyX4 tyX4_ok nmX4 hown hK hP hD hS 0 rfl rfl 1 (by decide) (hts _ kk_X4_init_5) (fun _ h9 => h9) rfl (by decide +kernel) rfl rfl (Nat.le_of_ble_eq_true rfl) dX4_init_13 (fun H locs hP hD hS => ?_)
  have hP : va_P (dC, dI) vwCl [(ad0, .inr (4, [.ref q1, .long 1, .null, .null, .null, .null, .int 0, .int 0, .null, .int 0, .int 0, .int 0]))] H := hP
  have hD : va_D A [(ad0, .inr (4, [.ref q1, .long 1, .null, .null, .null, .null, .int 0, .int 0, .null, .int 0, .int 0, .int 0]))] := hD
  refine lv_aload_n hx hb dX4_init_16 rfl (lv_at hl 0 rfl) ?_
  refine va_new (ci := 8) (fs := [.null, .null, .null, .int 0, .int 0, .int 0, .long 0]) (C := RX8) (T := TX8) (N := 7) hx hb hts iw_X4_init_X8 tyX8 tyX8_ok hown (hts _ kk_X4_init_6) (hts _ kk_X4_init_7) (hts _ kk_X4_init_8) hK hP hD hS hA rfl (by decide) (Nat.le_of_ble_eq_true rfl) (Nat.le_of_ble_eq_true rfl) dX4_init_17 (fun q3 H hP hD hS => ?_)
  have hP : va_P (dC, dI) vwCl [(ad0, .inr (4, [.ref q1, .long 1, .null, .null, .null, .null, .int 0, .int 0, .null, .int 0, .int 0, .int 0])), (q3, .inr (8, [.null, .null, .null, .int 0, .int 0, .int 0, .long 0]))] H := hP
  have hD : va_D A [(ad0, .inr (4, [.ref q1, .long 1, .null, .null, .null, .null, .int 0, .int 0, .null, .int 0, .int 0, .int 0])), (q3, .inr (8, [.null, .null, .null, .int 0, .int 0, .int 0, .long 0]))] := hD
  refine W.widen (k := 2) (n := 11) (by decide) (by decide) ?_
  refine lv_dup hx hb dX4_init_20 rfl ?_
  have hPc := hP.sub (ws' := [(q3, .inr (8, [.null, .null, .null, .int 0, .int 0, .int 0, .long 0]))]) [1] rfl
  have hDc := hD.sub (ws' := [(q3, .inr (8, [.null, .null, .null, .int 0, .int 0, .int 0, .long 0]))]) [1] (by decide) rfl
  have hKc := hK.sub (tys' := []) [] rfl
  have hFc := va_free (wc := [(q3, .inr (8, [.null, .null, .null, .int 0, .int 0, .int 0, .long 0]))]) hD hS hA [1] rfl
  refine va_callv (va_runI (As := []) (rest := [.ref q3, .ref ad0]) ⟨hx, hb, hml, hown, hts⟩ (ct_X8_init l dC dI q3 H.size) (cwI 0 hts gX4_init_X8_init rfl rfl rfl (hts _ kk_X4_init_8) (hts _ kk_X4_init_9) (hts _ kk_X4_init_10) rfl (by decide +kernel) ⟨Nat.le_of_ble_eq_true rfl, Nat.le_of_ble_eq_true rfl⟩) ⟨fun a U g mk q => by obtain ⟨q0, q1, qP, qK, qD, qF0⟩ := q; exact ⟨q0, q1, qP, va_K.moved (u := U) (U := U.calling g mk a) (Vm.Alike.refl U.vm) qK, qD, vq_AOA.moved (u := U) (U := U.calling g mk a) (Vm.Alike.refl U.vm) qF0⟩, fun U hU hW => ⟨rfl, by rw [hU], by rw [hU]; exact hPc, va_K.moved hW.alike hKc, hDc.weaken (fun _ _ _ _ => trivial), vq_AOA.moved hW.alike hF_1⟩⟩ rfl rfl hl.1 rfl (lv_room (Nat.le_of_ble_eq_true rfl)) dX4_init_21 ⟨Nat.le_of_ble_eq_true rfl, Nat.le_of_ble_eq_true rfl⟩) hS (fun q _ h => hFc q h) hFc (fun u t H1 locs ht hvm hw hB hz1 hk1 hS => ?_)
  obtain ⟨hP1, hK1, hD1⟩ := hB
  rw [ht] at hP1
  have hK1 := va_K.moved hvm.symm hK1
  obtain ⟨hP, hD⟩ := va_join (wr := [(ad0, .inr (4, [.ref q1, .long 1, .null, .null, .null, .null, .int 0, .int 0, .null, .int 0, .int 0, .int 0]))]) (w1 := []) hP hD [1] [0] rfl rfl (by decide) (by decide) hk1 hFc hP1 hD1
  have hK := (hK.sub (tys' := []) [] rfl).app hK1
  clear hPc hDc hKc hFc hP1 hD1 hK1 hk1 hz1
  generalize H1 = H at hP hS ⊢
  have hP : va_P (dC, dI) vwCl [(ad0, .inr (4, [.ref q1, .long 1, .null, .null, .null, .null, .int 0, .int 0, .null, .int 0, .int 0, .int 0]))] H := hP
  have hD : va_D A [(ad0, .inr (4, [.ref q1, .long 1, .null, .null, .null, .null, .int 0, .int 0, .null, .int 0, .int 0, .int 0]))] := hD
  have hK : va_K (dC, dI) vwCl [] s := hK
  refine W.widen (k := 23) (n := 294) (by decide) (by decide) ?_
  refine va_putF (D := (dC, dI)) (ci := 4) (v := .ref q3) (ty := (.object "PaidBySigns$Table")) (C := RX4) (T := TX4) (N := 12) hx hb hts iw_X4_init_X4 tyX4 tyX4_ok nmX4 hown hK hP hD hS 0 rfl rfl 2 (by decide) (hts _ kk_X4_init_11) (fun _ h9 => h9) rfl hin rfl (by decide +kernel) rfl rfl (Nat.le_of_ble_eq_true rfl) dX4_init_24 (fun H locs hP hD hS => ?_)
  have hP : va_P (dC, dI) vwCl [(ad0, .inr (4, [.ref q1, .long 1, .ref q3, .null, .null, .null, .int 0, .int 0, .null, .int 0, .int 0, .int 0]))] H := hP
  have hD : va_D A [(ad0, .inr (4, [.ref q1, .long 1, .ref q3, .null, .null, .null, .int 0, .int 0, .null, .int 0, .int 0, .int 0]))] := hD
  refine lv_aload_n hx hb dX4_init_27 rfl (lv_at hl 0 rfl) ?_
  refine lv_bipush (v := 12) hx hb dX4_init_28 (by decide) ?_
  refine va_newa (atype := .int) (ty := .int) (N' := 12) (a0 := (12, .inl (fun _ => 0))) hx hb (hts _ kk_X4_init_12) rfl hK hP hD hS hA (fun _ => rfl) (by decide) (by decide) (by decide) (Nat.le_of_ble_eq_true rfl) (Nat.le_of_ble_eq_true rfl) dX4_init_30 (fun q5 cA6 H hK hP hD hS => ?_)
  refine W.widen (k := 24) (n := 306) (by decide) (by decide) ?_
  have hP : va_P (dC, dI) vwCl [(ad0, .inr (4, [.ref q1, .long 1, .ref q3, .null, .null, .null, .int 0, .int 0, .null, .int 0, .int 0, .int 0]))] H := hP.sub [0] rfl
  have hD : va_D A [(ad0, .inr (4, [.ref q1, .long 1, .ref q3, .null, .null, .null, .int 0, .int 0, .null, .int 0, .int 0, .int 0]))] := hD.sub [0] (by decide) rfl
  have hK : va_K (dC, dI) vwCl [] s := hK.sub [] rfl
  refine va_putF (D := (dC, dI)) (ci := 4) (v := .ref q5) (ty := (.array .int)) (C := RX4) (T := TX4) (N := 12) hx hb hts iw_X4_init_X4 tyX4 tyX4_ok nmX4 hown hK hP hD hS 0 rfl rfl 3 (by decide) (hts _ kk_X4_init_13) (fun _ h9 => h9) rfl hin rfl (by decide +kernel) rfl rfl (Nat.le_of_ble_eq_true rfl) dX4_init_32 (fun H locs hP hD hS => ?_)
  have hP : va_P (dC, dI) vwCl [(ad0, .inr (4, [.ref q1, .long 1, .ref q3, .ref q5, .null, .null, .int 0, .int 0, .null, .int 0, .int 0, .int 0]))] H := hP
  have hD : va_D A [(ad0, .inr (4, [.ref q1, .long 1, .ref q3, .ref q5, .null, .null, .int 0, .int 0, .null, .int 0, .int 0, .int 0]))] := hD
  refine lv_aload_n hx hb dX4_init_35 rfl (lv_at hl 0 rfl) ?_
  refine lv_bipush (v := 12) hx hb dX4_init_36 (by decide) ?_
  refine va_newa (atype := .int) (ty := .int) (N' := 12) (a0 := (12, .inl (fun _ => 0))) hx hb (hts _ kk_X4_init_12) rfl hK hP hD hS hA (fun _ => rfl) (by decide) (by decide) (by decide) (Nat.le_of_ble_eq_true rfl) (Nat.le_of_ble_eq_true rfl) dX4_init_38 (fun q7 cA8 H hK hP hD hS => ?_)
  refine W.widen (k := 25) (n := 318) (by decide) (by decide) ?_
  have hP : va_P (dC, dI) vwCl [(ad0, .inr (4, [.ref q1, .long 1, .ref q3, .ref q5, .null, .null, .int 0, .int 0, .null, .int 0, .int 0, .int 0]))] H := hP.sub [0] rfl
  have hD : va_D A [(ad0, .inr (4, [.ref q1, .long 1, .ref q3, .ref q5, .null, .null, .int 0, .int 0, .null, .int 0, .int 0, .int 0]))] := hD.sub [0] (by decide) rfl
  have hK : va_K (dC, dI) vwCl [] s := hK.sub [] rfl
  refine va_putF (D := (dC, dI)) (ci := 4) (v := .ref q7) (ty := (.array .int)) (C := RX4) (T := TX4) (N := 12) hx hb hts iw_X4_init_X4 tyX4 tyX4_ok nmX4 hown hK hP hD hS 0 rfl rfl 4 (by decide) (hts _ kk_X4_init_14) (fun _ h9 => h9) rfl hin rfl (by decide +kernel) rfl rfl (Nat.le_of_ble_eq_true rfl) dX4_init_40 (fun H locs hP hD hS => ?_)
  have hP : va_P (dC, dI) vwCl [(ad0, .inr (4, [.ref q1, .long 1, .ref q3, .ref q5, .ref q7, .null, .int 0, .int 0, .null, .int 0, .int 0, .int 0]))] H := hP
  have hD : va_D A [(ad0, .inr (4, [.ref q1, .long 1, .ref q3, .ref q5, .ref q7, .null, .int 0, .int 0, .null, .int 0, .int 0, .int 0]))] := hD
  refine lv_aload_n hx hb dX4_init_43 rfl (lv_at hl 0 rfl) ?_
  refine lv_bipush (v := 12) hx hb dX4_init_44 (by decide) ?_
  refine va_newa (atype := .int) (ty := .int) (N' := 12) (a0 := (12, .inl (fun _ => 0))) hx hb (hts _ kk_X4_init_12) rfl hK hP hD hS hA (fun _ => rfl) (by decide) (by decide) (by decide) (Nat.le_of_ble_eq_true rfl) (Nat.le_of_ble_eq_true rfl) dX4_init_46 (fun q9 cA10 H hK hP hD hS => ?_)
  refine W.widen (k := 26) (n := 330) (by decide) (by decide) ?_
  have hP : va_P (dC, dI) vwCl [(ad0, .inr (4, [.ref q1, .long 1, .ref q3, .ref q5, .ref q7, .null, .int 0, .int 0, .null, .int 0, .int 0, .int 0]))] H := hP.sub [0] rfl
  have hD : va_D A [(ad0, .inr (4, [.ref q1, .long 1, .ref q3, .ref q5, .ref q7, .null, .int 0, .int 0, .null, .int 0, .int 0, .int 0]))] := hD.sub [0] (by decide) rfl
  have hK : va_K (dC, dI) vwCl [] s := hK.sub [] rfl
  refine va_putF (D := (dC, dI)) (ci := 4) (v := .ref q9) (ty := (.array .int)) (C := RX4) (T := TX4) (N := 12) hx hb hts iw_X4_init_X4 tyX4 tyX4_ok nmX4 hown hK hP hD hS 0 rfl rfl 5 (by decide) (hts _ kk_X4_init_15) (fun _ h9 => h9) rfl hin rfl (by decide +kernel) rfl rfl (Nat.le_of_ble_eq_true rfl) dX4_init_48 (fun H locs hP hD hS => ?_)
  have hP : va_P (dC, dI) vwCl [(ad0, .inr (4, [.ref q1, .long 1, .ref q3, .ref q5, .ref q7, .ref q9, .int 0, .int 0, .null, .int 0, .int 0, .int 0]))] H := hP
  have hD : va_D A [(ad0, .inr (4, [.ref q1, .long 1, .ref q3, .ref q5, .ref q7, .ref q9, .int 0, .int 0, .null, .int 0, .int 0, .int 0]))] := hD
  refine lv_aload_n hx hb dX4_init_51 rfl (lv_at hl 0 rfl) ?_
  refine lv_iconst (v := 0) hx hb dX4_init_52 (by decide) ?_
  refine va_put (D := (dC, dI)) (ci := 4) (v := .int 0) (ty := .int) (C := RX4) (T := TX4) (N := 12) hx hb hts iw_X4_init_X4 tyX4 tyX4_ok nmX4 hown hK hP hD hS 0 rfl rfl 6 (by decide) (hts _ kk_X4_init_16) (fun _ h9 => h9) rfl (by decide +kernel) rfl rfl (Nat.le_of_ble_eq_true rfl) dX4_init_53 (fun H locs hP hD hS => ?_)
  have hP : va_P (dC, dI) vwCl [(ad0, .inr (4, [.ref q1, .long 1, .ref q3, .ref q5, .ref q7, .ref q9, .int 0, .int 0, .null, .int 0, .int 0, .int 0]))] H := hP
  have hD : va_D A [(ad0, .inr (4, [.ref q1, .long 1, .ref q3, .ref q5, .ref q7, .ref q9, .int 0, .int 0, .null, .int 0, .int 0, .int 0]))] := hD
  refine lv_aload_n hx hb dX4_init_56 rfl (lv_at hl 0 rfl) ?_
  refine lv_iconst (v := 0) hx hb dX4_init_57 (by decide) ?_
  refine va_put (D := (dC, dI)) (ci := 4) (v := .int 0) (ty := .int) (C := RX4) (T := TX4) (N := 12) hx hb hts iw_X4_init_X4 tyX4 tyX4_ok nmX4 hown hK hP hD hS 0 rfl rfl 7 (by decide) (hts _ kk_X4_init_17) (fun _ h9 => h9) rfl (by decide +kernel) rfl rfl (Nat.le_of_ble_eq_true rfl) dX4_init_58 (fun H locs hP hD hS => ?_)
  have hP : va_P (dC, dI) vwCl [(ad0, .inr (4, [.ref q1, .long 1, .ref q3, .ref q5, .ref q7, .ref q9, .int 0, .int 0, .null, .int 0, .int 0, .int 0]))] H := hP
  have hD : va_D A [(ad0, .inr (4, [.ref q1, .long 1, .ref q3, .ref q5, .ref q7, .ref q9, .int 0, .int 0, .null, .int 0, .int 0, .int 0]))] := hD
  refine lv_aload_n hx hb dX4_init_61 rfl (lv_at hl 0 rfl) ?_
  refine va_new (ci := 3) (fs := [.int 0, .int 0, .int 0, .int 0, .int 0, .int 0, .null, .null, .null, .null, .null]) (C := RX3) (T := TX3) (N := 11) hx hb hts iw_X4_init_X3 tyX3 tyX3_ok hown (hts _ kk_X4_init_18) (hts _ kk_X4_init_19) (hts _ kk_X4_init_20) hK hP hD hS hA rfl (by decide) (Nat.le_of_ble_eq_true rfl) (Nat.le_of_ble_eq_true rfl) dX4_init_62 (fun q11 H hP hD hS => ?_)
  have hP : va_P (dC, dI) vwCl [(ad0, .inr (4, [.ref q1, .long 1, .ref q3, .ref q5, .ref q7, .ref q9, .int 0, .int 0, .null, .int 0, .int 0, .int 0])), (q11, .inr (3, [.int 0, .int 0, .int 0, .int 0, .int 0, .int 0, .null, .null, .null, .null, .null]))] H := hP
  have hD : va_D A [(ad0, .inr (4, [.ref q1, .long 1, .ref q3, .ref q5, .ref q7, .ref q9, .int 0, .int 0, .null, .int 0, .int 0, .int 0])), (q11, .inr (3, [.int 0, .int 0, .int 0, .int 0, .int 0, .int 0, .null, .null, .null, .null, .null]))] := hD
  refine W.widen (k := 27) (n := 341) (by decide) (by decide) ?_
  refine lv_dup hx hb dX4_init_65 rfl ?_
  have hPc := hP.sub (ws' := [(q11, .inr (3, [.int 0, .int 0, .int 0, .int 0, .int 0, .int 0, .null, .null, .null, .null, .null]))]) [1] rfl
  have hDc := hD.sub (ws' := [(q11, .inr (3, [.int 0, .int 0, .int 0, .int 0, .int 0, .int 0, .null, .null, .null, .null, .null]))]) [1] (by decide) rfl
  have hKc := hK.sub (tys' := []) [] rfl
  have hFc := va_free (wc := [(q11, .inr (3, [.int 0, .int 0, .int 0, .int 0, .int 0, .int 0, .null, .null, .null, .null, .null]))]) hD hS hA [1] rfl
  refine va_callv (va_runI (As := []) (rest := [.ref q11, .ref ad0]) ⟨hx, hb, hml, hown, hts⟩ (ct_X3_init l dC dI q11 H.size) (cwI 0 hts gX4_init_X3_init rfl rfl rfl (hts _ kk_X4_init_20) (hts _ kk_X4_init_21) (hts _ kk_X4_init_22) rfl (by decide +kernel) ⟨Nat.le_of_ble_eq_true rfl, Nat.le_of_ble_eq_true rfl⟩) ⟨fun a U g mk q => by obtain ⟨q0, q1, qP, qK, qD, qF0⟩ := q; exact ⟨q0, q1, qP, va_K.moved (u := U) (U := U.calling g mk a) (Vm.Alike.refl U.vm) qK, qD, vq_AOA.moved (u := U) (U := U.calling g mk a) (Vm.Alike.refl U.vm) qF0⟩, fun U hU hW => ⟨rfl, by rw [hU], by rw [hU]; exact hPc, va_K.moved hW.alike hKc, hDc.weaken (fun _ _ _ _ => trivial), vq_AOA.moved hW.alike hF_0⟩⟩ rfl rfl hl.1 rfl (lv_room (Nat.le_of_ble_eq_true rfl)) dX4_init_66 ⟨Nat.le_of_ble_eq_true rfl, Nat.le_of_ble_eq_true rfl⟩) hS (fun q _ h => hFc q h) hFc (fun u t H1 locs ht hvm hw hB hz1 hk1 hS => ?_)
  obtain ⟨q13, q14, q15, q16, q17, cA18, hP1, hK1, hD1⟩ := hB
  rw [ht] at hP1
  have hK1 := va_K.moved hvm.symm hK1
  obtain ⟨hP, hD⟩ := va_join (wr := [(ad0, .inr (4, [.ref q1, .long 1, .ref q3, .ref q5, .ref q7, .ref q9, .int 0, .int 0, .null, .int 0, .int 0, .int 0]))]) (w1 := [(q11, .inr (3, [.int 0, .int 0, .int 10, .int 0, .int 0, .int 1, .ref q13, .ref q14, .ref q15, .ref q16, .ref q17])), (q16, .inl (cA18, 3, .inl (lf [1, 0, 0])))]) hP hD [1] [0] rfl rfl (by decide) (by decide) hk1 hFc hP1 hD1
  have hK := (hK.sub (tys' := []) [] rfl).app hK1
  clear hPc hDc hKc hFc hP1 hD1 hK1 hk1 hz1
  generalize H1 = H at hP hS ⊢
  have hP : va_P (dC, dI) vwCl [(ad0, .inr (4, [.ref q1, .long 1, .ref q3, .ref q5, .ref q7, .ref q9, .int 0, .int 0, .null, .int 0, .int 0, .int 0])), (q11, .inr (3, [.int 0, .int 0, .int 10, .int 0, .int 0, .int 1, .ref q13, .ref q14, .ref q15, .ref q16, .ref q17])), (q16, .inl (cA18, 3, .inl (lf [1, 0, 0])))] H := hP
  have hD : va_D A [(ad0, .inr (4, [.ref q1, .long 1, .ref q3, .ref q5, .ref q7, .ref q9, .int 0, .int 0, .null, .int 0, .int 0, .int 0])), (q11, .inr (3, [.int 0, .int 0, .int 10, .int 0, .int 0, .int 1, .ref q13, .ref q14, .ref q15, .ref q16, .ref q17])), (q16, .inl (cA18, 3, .inl (lf [1, 0, 0])))] := hD
  have hK : va_K (dC, dI) vwCl [(cA18, .int)] s := hK
  refine W.widen (k := 37) (n := 380) (by decide) (by decide) ?_
  refine va_put (D := (dC, dI)) (ci := 4) (v := .ref q11) (ty := (.object "PaidBySigns$Hire")) (C := RX4) (T := TX4) (N := 12) hx hb hts iw_X4_init_X4 tyX4 tyX4_ok nmX4 hown hK hP hD hS 0 rfl rfl 8 (by decide) (hts _ kk_X4_init_23) (fun _ h9 => h9) rfl (by decide +kernel) rfl rfl (Nat.le_of_ble_eq_true rfl) dX4_init_69 (fun H locs hP hD hS => ?_)
  have hP : va_P (dC, dI) vwCl [(ad0, .inr (4, [.ref q1, .long 1, .ref q3, .ref q5, .ref q7, .ref q9, .int 0, .int 0, .ref q11, .int 0, .int 0, .int 0])), (q11, .inr (3, [.int 0, .int 0, .int 10, .int 0, .int 0, .int 1, .ref q13, .ref q14, .ref q15, .ref q16, .ref q17])), (q16, .inl (cA18, 3, .inl (lf [1, 0, 0])))] H := hP
  have hD : va_D A [(ad0, .inr (4, [.ref q1, .long 1, .ref q3, .ref q5, .ref q7, .ref q9, .int 0, .int 0, .ref q11, .int 0, .int 0, .int 0])), (q11, .inr (3, [.int 0, .int 0, .int 10, .int 0, .int 0, .int 1, .ref q13, .ref q14, .ref q15, .ref q16, .ref q17])), (q16, .inl (cA18, 3, .inl (lf [1, 0, 0])))] := hD
  refine lv_aload_n hx hb dX4_init_72 rfl (lv_at hl 0 rfl) ?_
  refine lv_iconst (v := 0) hx hb dX4_init_73 (by decide) ?_
  refine va_put (D := (dC, dI)) (ci := 4) (v := .int 0) (ty := .int) (C := RX4) (T := TX4) (N := 12) hx hb hts iw_X4_init_X4 tyX4 tyX4_ok nmX4 hown hK hP hD hS 0 rfl rfl 9 (by decide) (hts _ kk_X4_init_24) (fun _ h9 => h9) rfl (by decide +kernel) rfl rfl (Nat.le_of_ble_eq_true rfl) dX4_init_74 (fun H locs hP hD hS => ?_)
  have hP : va_P (dC, dI) vwCl [(ad0, .inr (4, [.ref q1, .long 1, .ref q3, .ref q5, .ref q7, .ref q9, .int 0, .int 0, .ref q11, .int 0, .int 0, .int 0])), (q11, .inr (3, [.int 0, .int 0, .int 10, .int 0, .int 0, .int 1, .ref q13, .ref q14, .ref q15, .ref q16, .ref q17])), (q16, .inl (cA18, 3, .inl (lf [1, 0, 0])))] H := hP
  have hD : va_D A [(ad0, .inr (4, [.ref q1, .long 1, .ref q3, .ref q5, .ref q7, .ref q9, .int 0, .int 0, .ref q11, .int 0, .int 0, .int 0])), (q11, .inr (3, [.int 0, .int 0, .int 10, .int 0, .int 0, .int 1, .ref q13, .ref q14, .ref q15, .ref q16, .ref q17])), (q16, .inl (cA18, 3, .inl (lf [1, 0, 0])))] := hD
  refine lv_aload_n hx hb dX4_init_77 rfl (lv_at hl 0 rfl) ?_
  refine lv_iconst (v := (-1)) hx hb dX4_init_78 (by decide) ?_
  refine va_put (D := (dC, dI)) (ci := 4) (v := .int (-1)) (ty := .int) (C := RX4) (T := TX4) (N := 12) hx hb hts iw_X4_init_X4 tyX4 tyX4_ok nmX4 hown hK hP hD hS 0 rfl rfl 10 (by decide) (hts _ kk_X4_init_25) (fun _ h9 => h9) rfl (by decide +kernel) rfl rfl (Nat.le_of_ble_eq_true rfl) dX4_init_79 (fun H locs hP hD hS => ?_)
  have hP : va_P (dC, dI) vwCl [(ad0, .inr (4, [.ref q1, .long 1, .ref q3, .ref q5, .ref q7, .ref q9, .int 0, .int 0, .ref q11, .int 0, .int (-1), .int 0])), (q11, .inr (3, [.int 0, .int 0, .int 10, .int 0, .int 0, .int 1, .ref q13, .ref q14, .ref q15, .ref q16, .ref q17])), (q16, .inl (cA18, 3, .inl (lf [1, 0, 0])))] H := hP
  have hD : va_D A [(ad0, .inr (4, [.ref q1, .long 1, .ref q3, .ref q5, .ref q7, .ref q9, .int 0, .int 0, .ref q11, .int 0, .int (-1), .int 0])), (q11, .inr (3, [.int 0, .int 0, .int 10, .int 0, .int 0, .int 1, .ref q13, .ref q14, .ref q15, .ref q16, .ref q17])), (q16, .inl (cA18, 3, .inl (lf [1, 0, 0])))] := hD
  refine lv_aload_n hx hb dX4_init_82 rfl (lv_at hl 0 rfl) ?_
  refine lv_iconst (v := (-1)) hx hb dX4_init_83 (by decide) ?_
  refine va_put (D := (dC, dI)) (ci := 4) (v := .int (-1)) (ty := .int) (C := RX4) (T := TX4) (N := 12) hx hb hts iw_X4_init_X4 tyX4 tyX4_ok nmX4 hown hK hP hD hS 0 rfl rfl 11 (by decide) (hts _ kk_X4_init_26) (fun _ h9 => h9) rfl (by decide +kernel) rfl rfl (Nat.le_of_ble_eq_true rfl) dX4_init_84 (fun H locs hP hD hS => ?_)
  have hP : va_P (dC, dI) vwCl [(ad0, .inr (4, [.ref q1, .long 1, .ref q3, .ref q5, .ref q7, .ref q9, .int 0, .int 0, .ref q11, .int 0, .int (-1), .int (-1)])), (q11, .inr (3, [.int 0, .int 0, .int 10, .int 0, .int 0, .int 1, .ref q13, .ref q14, .ref q15, .ref q16, .ref q17])), (q16, .inl (cA18, 3, .inl (lf [1, 0, 0])))] H := hP
  have hD : va_D A [(ad0, .inr (4, [.ref q1, .long 1, .ref q3, .ref q5, .ref q7, .ref q9, .int 0, .int 0, .ref q11, .int 0, .int (-1), .int (-1)])), (q11, .inr (3, [.int 0, .int 0, .int 10, .int 0, .int 0, .int 1, .ref q13, .ref q14, .ref q15, .ref q16, .ref q17])), (q16, .inl (cA18, 3, .inl (lf [1, 0, 0])))] := hD
  refine W.widen (k := 37) (n := 380) (by decide) (by decide) ?_
  have hP9 := hP.sub (ws' := []) [] rfl
  have hD9 := hD.sub (ws' := []) [] (by decide) rfl
  have hK9 := hK.sub (tys' := []) [] rfl
  exact W.vret hx hb hr (fun t ht hW => ⟨⟨(), rfl, trivial, by rw [ht]; exact hP9, va_K.moved hW.alike hK9, hD9⟩, hS.F ht⟩) hS.2.2 dX4_init_87

set_option maxHeartbeats 4000000 in
set_option maxRecDepth 100000 in
theorem ct_X5_init (l : Launch) (dC : Nat → ClassId) (dI : Nat → Nat → Nat) (ad0 : Nat) (sz : Nat) : Met l yX5_init wsX5_init ({ frames := 1, cells := 0, slots := 0, locals := 12 }) (va_Pc [.ref ad0] (fun U => U.heap.size = sz ∧ va_P (dC, dI) vwCl [(ad0, .inr (5, [.long 0, .long 0, .long 0, .long 0, .int 0]))] U.heap ∧ va_K (dC, dI) vwCl [] U ∧ va_D (fun _ => True) [(ad0, .inr (5, [.long 0, .long 0, .long 0, .long 0, .int 0]))])) (va_Qv (fun _ : Unit => True) (fun _ t => va_P (dC, dI) vwCl [] t.heap ∧ va_K (dC, dI) vwCl [] t ∧ va_D (va_A [(ad0, .inr (5, [.long 0, .long 0, .long 0, .long 0, .int 0]))] sz) []) (va_A [(ad0, .inr (5, [.long 0, .long 0, .long 0, .long 0, .int 0]))] sz)) 0 0 (va_A [(ad0, .inr (5, [.long 0, .long 0, .long 0, .long 0, .int 0]))] sz) := by
  refine Met.ofW (cc := cX5_init) (maxL := 1) (ret := none) (by decide) rfl ?_
  intro p e s m args below meth c s₁ B hml hv
  obtain ⟨rfl, hsz, hP, hK, hD0⟩ := hv
  have hx := B.exec
  have hb := B.bytes
  have hr := B.returns
  have hts := atoms_spec (ws := wsX5_init) B.pre
  have hown : s.vm.findClass RX5 = some m.cls := findClass_of_methodNamed B.named
  have hlocks := B.notSynchronized
  have hin : meth.name = "<init>" := (name_of_methodNamed B.named B.method).1
  subst hsz
  have hD := hD0.self (sz := s.heap.size)
  generalize hAe : va_A [(ad0, .inr (5, [.long 0, .long 0, .long 0, .long 0, .int 0]))] s.heap.size = A at hD ⊢
  have hA : ∀ q : Nat, s.heap.size ≤ q → A q := fun q h => by rw [← hAe]; exact Or.inr h
  have hS : va_S A s.heap s.heap [] := va_S.rf
  have hP : va_P (dC, dI) vwCl [(ad0, .inr (5, [.long 0, .long 0, .long 0, .long 0, .int 0]))] s.heap := hP
  have hl := lv_entry ([.ref ad0]) (n := 1) (Nat.le_of_ble_eq_true rfl)
  rw [lg_entry_eq]
  generalize (lg_sl ([.ref ad0]) ++ List.replicate (1 - (lg_sl ([.ref ad0])).length) Slot.unset).toArray = ls at hl ⊢
  have hl : lv_has ls 1 [(0, .ref ad0)] := hl
  refine lv_aload_n hx hb dX5_init_0 rfl (lv_at hl 0 rfl) ?_
  refine W.objInit hx hb hown (hts _ kk_X5_init_0) (hts _ kk_X5_init_1) (hts _ kk_X5_init_2) rfl (by rw [hml]; exact hl.1) rfl dX5_init_1 (Nat.le_of_ble_eq_true rfl) (Nat.le_of_ble_eq_true rfl) ?_
  refine W.eq (g2 := F0 m 4 ls []) rfl ?_
  refine W.widen (k := 0) (n := 0) (by decide) (by decide) ?_
  have hP9 := hP.sub (ws' := []) [] rfl
  have hD9 := hD.sub (ws' := []) [] (by decide) rfl
  have hK9 := hK.sub (tys' := []) [] rfl
  exact W.vret hx hb hr (fun t ht hW => ⟨⟨(), rfl, trivial, by rw [ht]; exact hP9, va_K.moved hW.alike hK9, hD9⟩, hS.F ht⟩) hS.2.2 dX5_init_4

set_option maxHeartbeats 4000000 in
set_option maxRecDepth 100000 in
theorem ct_X0_init (l : Launch) (dC : Nat → ClassId) (dI : Nat → Nat → Nat) (ad0 : Nat) (sz : Nat) : Met l yX0_init wsX0_init ({ frames := 1, cells := 22, slots := 118, locals := 12 }) (va_Pc [.ref ad0] (fun U => U.heap.size = sz ∧ va_P (dC, dI) vwCl [(ad0, .inr (0, [.null, .int 0, .null, .null, .null, .null, .null, .null, .int 0, .int 0, .int 0]))] U.heap ∧ va_K (dC, dI) vwCl [] U ∧ va_D (fun _ => True) [(ad0, .inr (0, [.null, .int 0, .null, .null, .null, .null, .null, .null, .int 0, .int 0, .int 0]))] ∧ vq_AOA .int U)) (va_Qv (fun _ : Unit => True) (fun _ t => va_P (dC, dI) vwCl [] t.heap ∧ va_K (dC, dI) vwCl [] t ∧ va_D (va_A [(ad0, .inr (0, [.null, .int 0, .null, .null, .null, .null, .null, .null, .int 0, .int 0, .int 0]))] sz) []) (va_A [(ad0, .inr (0, [.null, .int 0, .null, .null, .null, .null, .null, .null, .int 0, .int 0, .int 0]))] sz)) 22 118 (va_A [(ad0, .inr (0, [.null, .int 0, .null, .null, .null, .null, .null, .null, .int 0, .int 0, .int 0]))] sz) := by
  refine Met.ofW (cc := cX0_init) (maxL := 1) (ret := none) (by decide) rfl ?_
  intro p e s m args below meth c s₁ B hml hv
  obtain ⟨rfl, hsz, hP, hK, hD0, hF_0⟩ := hv
  have hx := B.exec
  have hb := B.bytes
  have hr := B.returns
  have hts := atoms_spec (ws := wsX0_init) B.pre
  have hown : s.vm.findClass RX0 = some m.cls := findClass_of_methodNamed B.named
  have hlocks := B.notSynchronized
  have hin : meth.name = "<init>" := (name_of_methodNamed B.named B.method).1
  subst hsz
  have hD := hD0.self (sz := s.heap.size)
  generalize hAe : va_A [(ad0, .inr (0, [.null, .int 0, .null, .null, .null, .null, .null, .null, .int 0, .int 0, .int 0]))] s.heap.size = A at hD ⊢
  have hA : ∀ q : Nat, s.heap.size ≤ q → A q := fun q h => by rw [← hAe]; exact Or.inr h
  have hS : va_S A s.heap s.heap [] := va_S.rf
  have hP : va_P (dC, dI) vwCl [(ad0, .inr (0, [.null, .int 0, .null, .null, .null, .null, .null, .null, .int 0, .int 0, .int 0]))] s.heap := hP
  have hl := lv_entry ([.ref ad0]) (n := 1) (Nat.le_of_ble_eq_true rfl)
  rw [lg_entry_eq]
  generalize (lg_sl ([.ref ad0]) ++ List.replicate (1 - (lg_sl ([.ref ad0])).length) Slot.unset).toArray = ls at hl ⊢
  have hl : lv_has ls 1 [(0, .ref ad0)] := hl
  refine lv_aload_n hx hb dX0_init_0 rfl (lv_at hl 0 rfl) ?_
  refine W.objInit hx hb hown (hts _ kk_X0_init_0) (hts _ kk_X0_init_1) (hts _ kk_X0_init_2) rfl (by rw [hml]; exact hl.1) rfl dX0_init_1 (Nat.le_of_ble_eq_true rfl) (Nat.le_of_ble_eq_true rfl) ?_
  refine W.eq (g2 := F0 m 4 ls []) rfl ?_
  refine lv_aload_n hx hb dX0_init_4 rfl (lv_at hl 0 rfl) ?_
  refine lv_iconst (v := 4) hx hb dX0_init_5 (by decide) ?_
  refine va_newa (atype := .int) (ty := .int) (N' := 4) (a0 := (4, .inl (fun _ => 0))) hx hb (hts _ kk_X0_init_3) rfl hK hP hD hS hA (fun _ => rfl) (by decide) (by decide) (by decide) (Nat.le_of_ble_eq_true rfl) (Nat.le_of_ble_eq_true rfl) dX0_init_6 (fun q1 cA2 H hK hP hD hS => ?_)
  refine W.widen (k := 1) (n := 4) (by decide) (by decide) ?_
  have hP : va_P (dC, dI) vwCl [(ad0, .inr (0, [.null, .int 0, .null, .null, .null, .null, .null, .null, .int 0, .int 0, .int 0]))] H := hP.sub [0] rfl
  have hD : va_D A [(ad0, .inr (0, [.null, .int 0, .null, .null, .null, .null, .null, .null, .int 0, .int 0, .int 0]))] := hD.sub [0] (by decide) rfl
  have hK : va_K (dC, dI) vwCl [] s := hK.sub [] rfl
  refine va_putF (D := (dC, dI)) (ci := 0) (v := .ref q1) (ty := (.array .int)) (C := RX0) (T := TX0) (N := 11) hx hb hts iw_X0_init_X0 tyX0 tyX0_ok nmX0 hown hK hP hD hS 0 rfl rfl 0 (by decide) (hts _ kk_X0_init_4) (fun _ h9 => h9) rfl hin rfl (by decide +kernel) rfl rfl (Nat.le_of_ble_eq_true rfl) dX0_init_8 (fun H locs hP hD hS => ?_)
  have hP : va_P (dC, dI) vwCl [(ad0, .inr (0, [.ref q1, .int 0, .null, .null, .null, .null, .null, .null, .int 0, .int 0, .int 0]))] H := hP
  have hD : va_D A [(ad0, .inr (0, [.ref q1, .int 0, .null, .null, .null, .null, .null, .null, .int 0, .int 0, .int 0]))] := hD
  refine lv_aload_n hx hb dX0_init_11 rfl (lv_at hl 0 rfl) ?_
  refine lv_ldc (v := 1000000) hx hb hown (hts _ kk_X0_init_5) dX0_init_12 ?_
  refine va_put (D := (dC, dI)) (ci := 0) (v := .int 1000000) (ty := .int) (C := RX0) (T := TX0) (N := 11) hx hb hts iw_X0_init_X0 tyX0 tyX0_ok nmX0 hown hK hP hD hS 0 rfl rfl 1 (by decide) (hts _ kk_X0_init_6) (fun _ h9 => h9) rfl (by decide +kernel) rfl rfl (Nat.le_of_ble_eq_true rfl) dX0_init_14 (fun H locs hP hD hS => ?_)
  have hP : va_P (dC, dI) vwCl [(ad0, .inr (0, [.ref q1, .int 1000000, .null, .null, .null, .null, .null, .null, .int 0, .int 0, .int 0]))] H := hP
  have hD : va_D A [(ad0, .inr (0, [.ref q1, .int 1000000, .null, .null, .null, .null, .null, .null, .int 0, .int 0, .int 0]))] := hD
  refine lv_aload_n hx hb dX0_init_17 rfl (lv_at hl 0 rfl) ?_
  refine lv_bipush (v := 21) hx hb dX0_init_18 (by decide) ?_
  refine va_newa (atype := .int) (ty := .int) (N' := 21) (a0 := (21, .inl (fun _ => 0))) hx hb (hts _ kk_X0_init_3) rfl hK hP hD hS hA (fun _ => rfl) (by decide) (by decide) (by decide) (Nat.le_of_ble_eq_true rfl) (Nat.le_of_ble_eq_true rfl) dX0_init_20 (fun q3 cA4 H hK hP hD hS => ?_)
  refine W.widen (k := 2) (n := 25) (by decide) (by decide) ?_
  have hP : va_P (dC, dI) vwCl [(ad0, .inr (0, [.ref q1, .int 1000000, .null, .null, .null, .null, .null, .null, .int 0, .int 0, .int 0]))] H := hP.sub [0] rfl
  have hD : va_D A [(ad0, .inr (0, [.ref q1, .int 1000000, .null, .null, .null, .null, .null, .null, .int 0, .int 0, .int 0]))] := hD.sub [0] (by decide) rfl
  have hK : va_K (dC, dI) vwCl [] s := hK.sub [] rfl
  refine va_putF (D := (dC, dI)) (ci := 0) (v := .ref q3) (ty := (.array .int)) (C := RX0) (T := TX0) (N := 11) hx hb hts iw_X0_init_X0 tyX0 tyX0_ok nmX0 hown hK hP hD hS 0 rfl rfl 2 (by decide) (hts _ kk_X0_init_7) (fun _ h9 => h9) rfl hin rfl (by decide +kernel) rfl rfl (Nat.le_of_ble_eq_true rfl) dX0_init_22 (fun H locs hP hD hS => ?_)
  have hP : va_P (dC, dI) vwCl [(ad0, .inr (0, [.ref q1, .int 1000000, .ref q3, .null, .null, .null, .null, .null, .int 0, .int 0, .int 0]))] H := hP
  have hD : va_D A [(ad0, .inr (0, [.ref q1, .int 1000000, .ref q3, .null, .null, .null, .null, .null, .int 0, .int 0, .int 0]))] := hD
  refine lv_aload_n hx hb dX0_init_25 rfl (lv_at hl 0 rfl) ?_
  refine lv_iconst (v := 4) hx hb dX0_init_26 (by decide) ?_
  refine va_newa (atype := .int) (ty := .int) (N' := 4) (a0 := (4, .inl (fun _ => 0))) hx hb (hts _ kk_X0_init_3) rfl hK hP hD hS hA (fun _ => rfl) (by decide) (by decide) (by decide) (Nat.le_of_ble_eq_true rfl) (Nat.le_of_ble_eq_true rfl) dX0_init_27 (fun q5 cA6 H hK hP hD hS => ?_)
  refine W.widen (k := 3) (n := 29) (by decide) (by decide) ?_
  have hP : va_P (dC, dI) vwCl [(ad0, .inr (0, [.ref q1, .int 1000000, .ref q3, .null, .null, .null, .null, .null, .int 0, .int 0, .int 0]))] H := hP.sub [0] rfl
  have hD : va_D A [(ad0, .inr (0, [.ref q1, .int 1000000, .ref q3, .null, .null, .null, .null, .null, .int 0, .int 0, .int 0]))] := hD.sub [0] (by decide) rfl
  have hK : va_K (dC, dI) vwCl [] s := hK.sub [] rfl
  refine va_putF (D := (dC, dI)) (ci := 0) (v := .ref q5) (ty := (.array .int)) (C := RX0) (T := TX0) (N := 11) hx hb hts iw_X0_init_X0 tyX0 tyX0_ok nmX0 hown hK hP hD hS 0 rfl rfl 3 (by decide) (hts _ kk_X0_init_8) (fun _ h9 => h9) rfl hin rfl (by decide +kernel) rfl rfl (Nat.le_of_ble_eq_true rfl) dX0_init_29 (fun H locs hP hD hS => ?_)
  have hP : va_P (dC, dI) vwCl [(ad0, .inr (0, [.ref q1, .int 1000000, .ref q3, .ref q5, .null, .null, .null, .null, .int 0, .int 0, .int 0]))] H := hP
  have hD : va_D A [(ad0, .inr (0, [.ref q1, .int 1000000, .ref q3, .ref q5, .null, .null, .null, .null, .int 0, .int 0, .int 0]))] := hD
  refine lv_aload_n hx hb dX0_init_32 rfl (lv_at hl 0 rfl) ?_
  refine lv_iconst (v := 5) hx hb dX0_init_33 (by decide) ?_
  refine lv_iconst (v := 4) hx hb dX0_init_34 (by decide) ?_
  refine vq_mn0 (ty := .int) (N' := 5) (K' := 4) hx hb hown (hts _ kk_X0_init_9) hF_0 (hts _ kk_X0_init_3) hP hS (by decide) (by decide) (by decide) (by decide) (by decide) (by decide) (by decide) rfl rfl (Nat.le_of_ble_eq_true rfl) (Nat.le_of_ble_eq_true rfl) dX0_init_35 (fun q7 H hP hS => ?_)
  refine W.widen (k := 9) (n := 54) (by decide) (by decide) ?_
  refine va_putF (D := (dC, dI)) (ci := 0) (v := .ref q7) (ty := (.array (.array .int))) (C := RX0) (T := TX0) (N := 11) hx hb hts iw_X0_init_X0 tyX0 tyX0_ok nmX0 hown hK hP hD hS 0 rfl rfl 4 (by decide) (hts _ kk_X0_init_10) (fun _ h9 => h9) rfl hin rfl (by decide +kernel) rfl rfl (Nat.le_of_ble_eq_true rfl) dX0_init_39 (fun H locs hP hD hS => ?_)
  have hP : va_P (dC, dI) vwCl [(ad0, .inr (0, [.ref q1, .int 1000000, .ref q3, .ref q5, .ref q7, .null, .null, .null, .int 0, .int 0, .int 0]))] H := hP
  have hD : va_D A [(ad0, .inr (0, [.ref q1, .int 1000000, .ref q3, .ref q5, .ref q7, .null, .null, .null, .int 0, .int 0, .int 0]))] := hD
  refine lv_aload_n hx hb dX0_init_42 rfl (lv_at hl 0 rfl) ?_
  refine lv_iconst (v := 5) hx hb dX0_init_43 (by decide) ?_
  refine lv_iconst (v := 5) hx hb dX0_init_44 (by decide) ?_
  refine vq_mn0 (ty := .int) (N' := 5) (K' := 5) hx hb hown (hts _ kk_X0_init_9) hF_0 (hts _ kk_X0_init_3) hP hS (by decide) (by decide) (by decide) (by decide) (by decide) (by decide) (by decide) rfl rfl (Nat.le_of_ble_eq_true rfl) (Nat.le_of_ble_eq_true rfl) dX0_init_45 (fun q8 H hP hS => ?_)
  refine W.widen (k := 15) (n := 84) (by decide) (by decide) ?_
  refine va_putF (D := (dC, dI)) (ci := 0) (v := .ref q8) (ty := (.array (.array .int))) (C := RX0) (T := TX0) (N := 11) hx hb hts iw_X0_init_X0 tyX0 tyX0_ok nmX0 hown hK hP hD hS 0 rfl rfl 5 (by decide) (hts _ kk_X0_init_11) (fun _ h9 => h9) rfl hin rfl (by decide +kernel) rfl rfl (Nat.le_of_ble_eq_true rfl) dX0_init_49 (fun H locs hP hD hS => ?_)
  have hP : va_P (dC, dI) vwCl [(ad0, .inr (0, [.ref q1, .int 1000000, .ref q3, .ref q5, .ref q7, .ref q8, .null, .null, .int 0, .int 0, .int 0]))] H := hP
  have hD : va_D A [(ad0, .inr (0, [.ref q1, .int 1000000, .ref q3, .ref q5, .ref q7, .ref q8, .null, .null, .int 0, .int 0, .int 0]))] := hD
  refine lv_aload_n hx hb dX0_init_52 rfl (lv_at hl 0 rfl) ?_
  refine lv_iconst (v := 5) hx hb dX0_init_53 (by decide) ?_
  refine lv_iconst (v := 5) hx hb dX0_init_54 (by decide) ?_
  refine vq_mn0 (ty := .int) (N' := 5) (K' := 5) hx hb hown (hts _ kk_X0_init_9) hF_0 (hts _ kk_X0_init_3) hP hS (by decide) (by decide) (by decide) (by decide) (by decide) (by decide) (by decide) rfl rfl (Nat.le_of_ble_eq_true rfl) (Nat.le_of_ble_eq_true rfl) dX0_init_55 (fun q9 H hP hS => ?_)
  refine W.widen (k := 21) (n := 114) (by decide) (by decide) ?_
  refine va_putF (D := (dC, dI)) (ci := 0) (v := .ref q9) (ty := (.array (.array .int))) (C := RX0) (T := TX0) (N := 11) hx hb hts iw_X0_init_X0 tyX0 tyX0_ok nmX0 hown hK hP hD hS 0 rfl rfl 6 (by decide) (hts _ kk_X0_init_12) (fun _ h9 => h9) rfl hin rfl (by decide +kernel) rfl rfl (Nat.le_of_ble_eq_true rfl) dX0_init_59 (fun H locs hP hD hS => ?_)
  have hP : va_P (dC, dI) vwCl [(ad0, .inr (0, [.ref q1, .int 1000000, .ref q3, .ref q5, .ref q7, .ref q8, .ref q9, .null, .int 0, .int 0, .int 0]))] H := hP
  have hD : va_D A [(ad0, .inr (0, [.ref q1, .int 1000000, .ref q3, .ref q5, .ref q7, .ref q8, .ref q9, .null, .int 0, .int 0, .int 0]))] := hD
  refine lv_aload_n hx hb dX0_init_62 rfl (lv_at hl 0 rfl) ?_
  refine lv_iconst (v := 4) hx hb dX0_init_63 (by decide) ?_
  refine va_newa (atype := .int) (ty := .int) (N' := 4) (a0 := (4, .inl (fun _ => 0))) hx hb (hts _ kk_X0_init_3) rfl hK hP hD hS hA (fun _ => rfl) (by decide) (by decide) (by decide) (Nat.le_of_ble_eq_true rfl) (Nat.le_of_ble_eq_true rfl) dX0_init_64 (fun q10 cA11 H hK hP hD hS => ?_)
  refine W.widen (k := 22) (n := 118) (by decide) (by decide) ?_
  have hP : va_P (dC, dI) vwCl [(ad0, .inr (0, [.ref q1, .int 1000000, .ref q3, .ref q5, .ref q7, .ref q8, .ref q9, .null, .int 0, .int 0, .int 0]))] H := hP.sub [0] rfl
  have hD : va_D A [(ad0, .inr (0, [.ref q1, .int 1000000, .ref q3, .ref q5, .ref q7, .ref q8, .ref q9, .null, .int 0, .int 0, .int 0]))] := hD.sub [0] (by decide) rfl
  have hK : va_K (dC, dI) vwCl [] s := hK.sub [] rfl
  refine va_putF (D := (dC, dI)) (ci := 0) (v := .ref q10) (ty := (.array .int)) (C := RX0) (T := TX0) (N := 11) hx hb hts iw_X0_init_X0 tyX0 tyX0_ok nmX0 hown hK hP hD hS 0 rfl rfl 7 (by decide) (hts _ kk_X0_init_13) (fun _ h9 => h9) rfl hin rfl (by decide +kernel) rfl rfl (Nat.le_of_ble_eq_true rfl) dX0_init_66 (fun H locs hP hD hS => ?_)
  have hP : va_P (dC, dI) vwCl [(ad0, .inr (0, [.ref q1, .int 1000000, .ref q3, .ref q5, .ref q7, .ref q8, .ref q9, .ref q10, .int 0, .int 0, .int 0]))] H := hP
  have hD : va_D A [(ad0, .inr (0, [.ref q1, .int 1000000, .ref q3, .ref q5, .ref q7, .ref q8, .ref q9, .ref q10, .int 0, .int 0, .int 0]))] := hD
  refine W.widen (k := 22) (n := 118) (by decide) (by decide) ?_
  have hP9 := hP.sub (ws' := []) [] rfl
  have hD9 := hD.sub (ws' := []) [] (by decide) rfl
  have hK9 := hK.sub (tys' := []) [] rfl
  exact W.vret hx hb hr (fun t ht hW => ⟨⟨(), rfl, trivial, by rw [ht]; exact hP9, va_K.moved hW.alike hK9, hD9⟩, hS.F ht⟩) hS.2.2 dX0_init_69

set_option maxHeartbeats 4000000 in
set_option maxRecDepth 100000 in
theorem ct_X6_init (l : Launch) (dC : Nat → ClassId) (dI : Nat → Nat → Nat) (ad0 : Nat) (sz : Nat) : Met l yX6_init wsX6_init ({ frames := 1, cells := 2, slots := 10, locals := 12 }) (va_Pc [.ref ad0] (fun U => U.heap.size = sz ∧ va_P (dC, dI) vwCl [(ad0, .inr (6, [.int 0, .null, .int 0, .null]))] U.heap ∧ va_K (dC, dI) vwCl [] U ∧ va_D (fun _ => True) [(ad0, .inr (6, [.int 0, .null, .int 0, .null]))])) (va_Qv (fun _ : Unit => True) (fun _ t => ∃ (q1 : Nat) (q3 : Nat), va_P (dC, dI) vwCl [(ad0, .inr (6, [.int 1, .ref q1, .int 0, .ref q3]))] t.heap ∧ va_K (dC, dI) vwCl [] t ∧ va_D (va_A [(ad0, .inr (6, [.int 0, .null, .int 0, .null]))] sz) [(ad0, .inr (6, [.int 1, .ref q1, .int 0, .ref q3]))]) (va_A [(ad0, .inr (6, [.int 0, .null, .int 0, .null]))] sz)) 2 10 (va_A [(ad0, .inr (6, [.int 0, .null, .int 0, .null]))] sz) := by
  refine Met.ofW (cc := cX6_init) (maxL := 1) (ret := none) (by decide) rfl ?_
  intro p e s m args below meth c s₁ B hml hv
  obtain ⟨rfl, hsz, hP, hK, hD0⟩ := hv
  have hx := B.exec
  have hb := B.bytes
  have hr := B.returns
  have hts := atoms_spec (ws := wsX6_init) B.pre
  have hown : s.vm.findClass RX6 = some m.cls := findClass_of_methodNamed B.named
  have hlocks := B.notSynchronized
  have hin : meth.name = "<init>" := (name_of_methodNamed B.named B.method).1
  subst hsz
  have hD := hD0.self (sz := s.heap.size)
  generalize hAe : va_A [(ad0, .inr (6, [.int 0, .null, .int 0, .null]))] s.heap.size = A at hD ⊢
  have hA : ∀ q : Nat, s.heap.size ≤ q → A q := fun q h => by rw [← hAe]; exact Or.inr h
  have hS : va_S A s.heap s.heap [] := va_S.rf
  have hP : va_P (dC, dI) vwCl [(ad0, .inr (6, [.int 0, .null, .int 0, .null]))] s.heap := hP
  have hl := lv_entry ([.ref ad0]) (n := 1) (Nat.le_of_ble_eq_true rfl)
  rw [lg_entry_eq]
  generalize (lg_sl ([.ref ad0]) ++ List.replicate (1 - (lg_sl ([.ref ad0])).length) Slot.unset).toArray = ls at hl ⊢
  have hl : lv_has ls 1 [(0, .ref ad0)] := hl
  refine lv_aload_n hx hb dX6_init_0 rfl (lv_at hl 0 rfl) ?_
  refine W.objInit hx hb hown (hts _ kk_X6_init_0) (hts _ kk_X6_init_1) (hts _ kk_X6_init_2) rfl (by rw [hml]; exact hl.1) rfl dX6_init_1 (Nat.le_of_ble_eq_true rfl) (Nat.le_of_ble_eq_true rfl) ?_
  refine W.eq (g2 := F0 m 4 ls []) rfl ?_
  refine lv_aload_n hx hb dX6_init_4 rfl (lv_at hl 0 rfl) ?_
  refine lv_iconst (v := 1) hx hb dX6_init_5 (by decide) ?_
  refine va_put (D := (dC, dI)) (ci := 6) (v := .int 1) (ty := .int) (C := RX6) (T := TX6) (N := 4) hx hb hts iw_X6_init_X6 tyX6 tyX6_ok nmX6 hown hK hP hD hS 0 rfl rfl 0 (by decide) (hts _ kk_X6_init_3) (fun _ h9 => h9) rfl (by decide +kernel) rfl rfl (Nat.le_of_ble_eq_true rfl) dX6_init_6 (fun H locs hP hD hS => ?_)
  have hP : va_P (dC, dI) vwCl [(ad0, .inr (6, [.int 1, .null, .int 0, .null]))] H := hP
  have hD : va_D A [(ad0, .inr (6, [.int 1, .null, .int 0, .null]))] := hD
  refine lv_aload_n hx hb dX6_init_9 rfl (lv_at hl 0 rfl) ?_
  refine lv_iconst (v := 5) hx hb dX6_init_10 (by decide) ?_
  refine va_newa (atype := .int) (ty := .int) (N' := 5) (a0 := (5, .inl (fun _ => 0))) hx hb (hts _ kk_X6_init_4) rfl hK hP hD hS hA (fun _ => rfl) (by decide) (by decide) (by decide) (Nat.le_of_ble_eq_true rfl) (Nat.le_of_ble_eq_true rfl) dX6_init_11 (fun q1 cA2 H hK hP hD hS => ?_)
  refine W.widen (k := 1) (n := 5) (by decide) (by decide) ?_
  have hP : va_P (dC, dI) vwCl [(ad0, .inr (6, [.int 1, .null, .int 0, .null]))] H := hP.sub [0] rfl
  have hD : va_D A [(ad0, .inr (6, [.int 1, .null, .int 0, .null]))] := hD.sub [0] (by decide) rfl
  have hK : va_K (dC, dI) vwCl [] s := hK.sub [] rfl
  refine va_putF (D := (dC, dI)) (ci := 6) (v := .ref q1) (ty := (.array .int)) (C := RX6) (T := TX6) (N := 4) hx hb hts iw_X6_init_X6 tyX6 tyX6_ok nmX6 hown hK hP hD hS 0 rfl rfl 1 (by decide) (hts _ kk_X6_init_5) (fun _ h9 => h9) rfl hin rfl (by decide +kernel) rfl rfl (Nat.le_of_ble_eq_true rfl) dX6_init_13 (fun H locs hP hD hS => ?_)
  have hP : va_P (dC, dI) vwCl [(ad0, .inr (6, [.int 1, .ref q1, .int 0, .null]))] H := hP
  have hD : va_D A [(ad0, .inr (6, [.int 1, .ref q1, .int 0, .null]))] := hD
  refine lv_aload_n hx hb dX6_init_16 rfl (lv_at hl 0 rfl) ?_
  refine lv_iconst (v := 0) hx hb dX6_init_17 (by decide) ?_
  refine va_put (D := (dC, dI)) (ci := 6) (v := .int 0) (ty := .int) (C := RX6) (T := TX6) (N := 4) hx hb hts iw_X6_init_X6 tyX6 tyX6_ok nmX6 hown hK hP hD hS 0 rfl rfl 2 (by decide) (hts _ kk_X6_init_6) (fun _ h9 => h9) rfl (by decide +kernel) rfl rfl (Nat.le_of_ble_eq_true rfl) dX6_init_18 (fun H locs hP hD hS => ?_)
  have hP : va_P (dC, dI) vwCl [(ad0, .inr (6, [.int 1, .ref q1, .int 0, .null]))] H := hP
  have hD : va_D A [(ad0, .inr (6, [.int 1, .ref q1, .int 0, .null]))] := hD
  refine lv_aload_n hx hb dX6_init_21 rfl (lv_at hl 0 rfl) ?_
  refine lv_iconst (v := 5) hx hb dX6_init_22 (by decide) ?_
  refine va_newa (atype := .int) (ty := .int) (N' := 5) (a0 := (5, .inl (fun _ => 0))) hx hb (hts _ kk_X6_init_4) rfl hK hP hD hS hA (fun _ => rfl) (by decide) (by decide) (by decide) (Nat.le_of_ble_eq_true rfl) (Nat.le_of_ble_eq_true rfl) dX6_init_23 (fun q3 cA4 H hK hP hD hS => ?_)
  refine W.widen (k := 2) (n := 10) (by decide) (by decide) ?_
  have hP : va_P (dC, dI) vwCl [(ad0, .inr (6, [.int 1, .ref q1, .int 0, .null]))] H := hP.sub [0] rfl
  have hD : va_D A [(ad0, .inr (6, [.int 1, .ref q1, .int 0, .null]))] := hD.sub [0] (by decide) rfl
  have hK : va_K (dC, dI) vwCl [] s := hK.sub [] rfl
  refine va_putF (D := (dC, dI)) (ci := 6) (v := .ref q3) (ty := (.array .int)) (C := RX6) (T := TX6) (N := 4) hx hb hts iw_X6_init_X6 tyX6 tyX6_ok nmX6 hown hK hP hD hS 0 rfl rfl 3 (by decide) (hts _ kk_X6_init_7) (fun _ h9 => h9) rfl hin rfl (by decide +kernel) rfl rfl (Nat.le_of_ble_eq_true rfl) dX6_init_25 (fun H locs hP hD hS => ?_)
  have hP : va_P (dC, dI) vwCl [(ad0, .inr (6, [.int 1, .ref q1, .int 0, .ref q3]))] H := hP
  have hD : va_D A [(ad0, .inr (6, [.int 1, .ref q1, .int 0, .ref q3]))] := hD
  refine W.widen (k := 2) (n := 10) (by decide) (by decide) ?_
  have hP9 := hP.sub (ws' := [(ad0, .inr (6, [.int 1, .ref q1, .int 0, .ref q3]))]) [0] rfl
  have hD9 := hD.sub (ws' := [(ad0, .inr (6, [.int 1, .ref q1, .int 0, .ref q3]))]) [0] (by decide) rfl
  have hK9 := hK.sub (tys' := []) [] rfl
  exact W.vret hx hb hr (fun t ht hW => ⟨⟨(), rfl, trivial, q1, q3, by rw [ht]; exact hP9, va_K.moved hW.alike hK9, hD9⟩, hS.F ht⟩) hS.2.2 dX6_init_28

set_option maxHeartbeats 4000000 in
set_option maxRecDepth 100000 in
theorem ct_X1_init (l : Launch) (dC : Nat → ClassId) (dI : Nat → Nat → Nat) (ad0 : Nat) (sz : Nat) : Met l yX1_init wsX1_init ({ frames := 1, cells := 6, slots := 84, locals := 12 }) (va_Pc [.ref ad0] (fun U => U.heap.size = sz ∧ va_P (dC, dI) vwCl [(ad0, .inr (1, [.int 0, .int 0, .int 0, .null, .null, .null, .null, .null, .null]))] U.heap ∧ va_K (dC, dI) vwCl [] U ∧ va_D (fun _ => True) [(ad0, .inr (1, [.int 0, .int 0, .int 0, .null, .null, .null, .null, .null, .null]))])) (va_Qv (fun _ : Unit => True) (fun _ t => ∃ (q1 : Nat) (q3 : Nat) (q5 : Nat) (q7 : Nat) (q9 : Nat) (q11 : Nat), va_P (dC, dI) vwCl [(ad0, .inr (1, [.int 0, .int 0, .int 0, .ref q1, .ref q3, .ref q5, .ref q7, .ref q9, .ref q11]))] t.heap ∧ va_K (dC, dI) vwCl [] t ∧ va_D (va_A [(ad0, .inr (1, [.int 0, .int 0, .int 0, .null, .null, .null, .null, .null, .null]))] sz) [(ad0, .inr (1, [.int 0, .int 0, .int 0, .ref q1, .ref q3, .ref q5, .ref q7, .ref q9, .ref q11]))]) (va_A [(ad0, .inr (1, [.int 0, .int 0, .int 0, .null, .null, .null, .null, .null, .null]))] sz)) 6 84 (va_A [(ad0, .inr (1, [.int 0, .int 0, .int 0, .null, .null, .null, .null, .null, .null]))] sz) := by
  refine Met.ofW (cc := cX1_init) (maxL := 1) (ret := none) (by decide) rfl ?_
  intro p e s m args below meth c s₁ B hml hv
  obtain ⟨rfl, hsz, hP, hK, hD0⟩ := hv
  have hx := B.exec
  have hb := B.bytes
  have hr := B.returns
  have hts := atoms_spec (ws := wsX1_init) B.pre
  have hown : s.vm.findClass RX1 = some m.cls := findClass_of_methodNamed B.named
  have hlocks := B.notSynchronized
  have hin : meth.name = "<init>" := (name_of_methodNamed B.named B.method).1
  subst hsz
  have hD := hD0.self (sz := s.heap.size)
  generalize hAe : va_A [(ad0, .inr (1, [.int 0, .int 0, .int 0, .null, .null, .null, .null, .null, .null]))] s.heap.size = A at hD ⊢
  have hA : ∀ q : Nat, s.heap.size ≤ q → A q := fun q h => by rw [← hAe]; exact Or.inr h
  have hS : va_S A s.heap s.heap [] := va_S.rf
  have hP : va_P (dC, dI) vwCl [(ad0, .inr (1, [.int 0, .int 0, .int 0, .null, .null, .null, .null, .null, .null]))] s.heap := hP
  have hl := lv_entry ([.ref ad0]) (n := 1) (Nat.le_of_ble_eq_true rfl)
  rw [lg_entry_eq]
  generalize (lg_sl ([.ref ad0]) ++ List.replicate (1 - (lg_sl ([.ref ad0])).length) Slot.unset).toArray = ls at hl ⊢
  have hl : lv_has ls 1 [(0, .ref ad0)] := hl
  refine lv_aload_n hx hb dX1_init_0 rfl (lv_at hl 0 rfl) ?_
  refine W.objInit hx hb hown (hts _ kk_X1_init_0) (hts _ kk_X1_init_1) (hts _ kk_X1_init_2) rfl (by rw [hml]; exact hl.1) rfl dX1_init_1 (Nat.le_of_ble_eq_true rfl) (Nat.le_of_ble_eq_true rfl) ?_
  refine W.eq (g2 := F0 m 4 ls []) rfl ?_
  refine lv_aload_n hx hb dX1_init_4 rfl (lv_at hl 0 rfl) ?_
  refine lv_iconst (v := 0) hx hb dX1_init_5 (by decide) ?_
  refine va_put (D := (dC, dI)) (ci := 1) (v := .int 0) (ty := .int) (C := RX1) (T := TX1) (N := 9) hx hb hts iw_X1_init_X1 tyX1 tyX1_ok nmX1 hown hK hP hD hS 0 rfl rfl 0 (by decide) (hts _ kk_X1_init_3) (fun _ h9 => h9) rfl (by decide +kernel) rfl rfl (Nat.le_of_ble_eq_true rfl) dX1_init_6 (fun H locs hP hD hS => ?_)
  have hP : va_P (dC, dI) vwCl [(ad0, .inr (1, [.int 0, .int 0, .int 0, .null, .null, .null, .null, .null, .null]))] H := hP
  have hD : va_D A [(ad0, .inr (1, [.int 0, .int 0, .int 0, .null, .null, .null, .null, .null, .null]))] := hD
  refine lv_aload_n hx hb dX1_init_9 rfl (lv_at hl 0 rfl) ?_
  refine lv_iconst (v := 0) hx hb dX1_init_10 (by decide) ?_
  refine va_put (D := (dC, dI)) (ci := 1) (v := .int 0) (ty := .int) (C := RX1) (T := TX1) (N := 9) hx hb hts iw_X1_init_X1 tyX1 tyX1_ok nmX1 hown hK hP hD hS 0 rfl rfl 1 (by decide) (hts _ kk_X1_init_4) (fun _ h9 => h9) rfl (by decide +kernel) rfl rfl (Nat.le_of_ble_eq_true rfl) dX1_init_11 (fun H locs hP hD hS => ?_)
  have hP : va_P (dC, dI) vwCl [(ad0, .inr (1, [.int 0, .int 0, .int 0, .null, .null, .null, .null, .null, .null]))] H := hP
  have hD : va_D A [(ad0, .inr (1, [.int 0, .int 0, .int 0, .null, .null, .null, .null, .null, .null]))] := hD
  refine lv_aload_n hx hb dX1_init_14 rfl (lv_at hl 0 rfl) ?_
  refine lv_iconst (v := 0) hx hb dX1_init_15 (by decide) ?_
  refine va_put (D := (dC, dI)) (ci := 1) (v := .int 0) (ty := .int) (C := RX1) (T := TX1) (N := 9) hx hb hts iw_X1_init_X1 tyX1 tyX1_ok nmX1 hown hK hP hD hS 0 rfl rfl 2 (by decide) (hts _ kk_X1_init_5) (fun _ h9 => h9) rfl (by decide +kernel) rfl rfl (Nat.le_of_ble_eq_true rfl) dX1_init_16 (fun H locs hP hD hS => ?_)
  have hP : va_P (dC, dI) vwCl [(ad0, .inr (1, [.int 0, .int 0, .int 0, .null, .null, .null, .null, .null, .null]))] H := hP
  have hD : va_D A [(ad0, .inr (1, [.int 0, .int 0, .int 0, .null, .null, .null, .null, .null, .null]))] := hD
  refine lv_aload_n hx hb dX1_init_19 rfl (lv_at hl 0 rfl) ?_
  refine lv_bipush (v := 8) hx hb dX1_init_20 (by decide) ?_
  refine va_newa (atype := .int) (ty := .int) (N' := 8) (a0 := (8, .inl (fun _ => 0))) hx hb (hts _ kk_X1_init_6) rfl hK hP hD hS hA (fun _ => rfl) (by decide) (by decide) (by decide) (Nat.le_of_ble_eq_true rfl) (Nat.le_of_ble_eq_true rfl) dX1_init_22 (fun q1 cA2 H hK hP hD hS => ?_)
  refine W.widen (k := 1) (n := 8) (by decide) (by decide) ?_
  have hP : va_P (dC, dI) vwCl [(ad0, .inr (1, [.int 0, .int 0, .int 0, .null, .null, .null, .null, .null, .null]))] H := hP.sub [0] rfl
  have hD : va_D A [(ad0, .inr (1, [.int 0, .int 0, .int 0, .null, .null, .null, .null, .null, .null]))] := hD.sub [0] (by decide) rfl
  have hK : va_K (dC, dI) vwCl [] s := hK.sub [] rfl
  refine va_putF (D := (dC, dI)) (ci := 1) (v := .ref q1) (ty := (.array .int)) (C := RX1) (T := TX1) (N := 9) hx hb hts iw_X1_init_X1 tyX1 tyX1_ok nmX1 hown hK hP hD hS 0 rfl rfl 3 (by decide) (hts _ kk_X1_init_7) (fun _ h9 => h9) rfl hin rfl (by decide +kernel) rfl rfl (Nat.le_of_ble_eq_true rfl) dX1_init_24 (fun H locs hP hD hS => ?_)
  have hP : va_P (dC, dI) vwCl [(ad0, .inr (1, [.int 0, .int 0, .int 0, .ref q1, .null, .null, .null, .null, .null]))] H := hP
  have hD : va_D A [(ad0, .inr (1, [.int 0, .int 0, .int 0, .ref q1, .null, .null, .null, .null, .null]))] := hD
  refine lv_aload_n hx hb dX1_init_27 rfl (lv_at hl 0 rfl) ?_
  refine lv_bipush (v := 8) hx hb dX1_init_28 (by decide) ?_
  refine va_newa (atype := .int) (ty := .int) (N' := 8) (a0 := (8, .inl (fun _ => 0))) hx hb (hts _ kk_X1_init_6) rfl hK hP hD hS hA (fun _ => rfl) (by decide) (by decide) (by decide) (Nat.le_of_ble_eq_true rfl) (Nat.le_of_ble_eq_true rfl) dX1_init_30 (fun q3 cA4 H hK hP hD hS => ?_)
  refine W.widen (k := 2) (n := 16) (by decide) (by decide) ?_
  have hP : va_P (dC, dI) vwCl [(ad0, .inr (1, [.int 0, .int 0, .int 0, .ref q1, .null, .null, .null, .null, .null]))] H := hP.sub [0] rfl
  have hD : va_D A [(ad0, .inr (1, [.int 0, .int 0, .int 0, .ref q1, .null, .null, .null, .null, .null]))] := hD.sub [0] (by decide) rfl
  have hK : va_K (dC, dI) vwCl [] s := hK.sub [] rfl
  refine va_putF (D := (dC, dI)) (ci := 1) (v := .ref q3) (ty := (.array .int)) (C := RX1) (T := TX1) (N := 9) hx hb hts iw_X1_init_X1 tyX1 tyX1_ok nmX1 hown hK hP hD hS 0 rfl rfl 4 (by decide) (hts _ kk_X1_init_8) (fun _ h9 => h9) rfl hin rfl (by decide +kernel) rfl rfl (Nat.le_of_ble_eq_true rfl) dX1_init_32 (fun H locs hP hD hS => ?_)
  have hP : va_P (dC, dI) vwCl [(ad0, .inr (1, [.int 0, .int 0, .int 0, .ref q1, .ref q3, .null, .null, .null, .null]))] H := hP
  have hD : va_D A [(ad0, .inr (1, [.int 0, .int 0, .int 0, .ref q1, .ref q3, .null, .null, .null, .null]))] := hD
  refine lv_aload_n hx hb dX1_init_35 rfl (lv_at hl 0 rfl) ?_
  refine lv_bipush (v := 8) hx hb dX1_init_36 (by decide) ?_
  refine va_newa (atype := .int) (ty := .int) (N' := 8) (a0 := (8, .inl (fun _ => 0))) hx hb (hts _ kk_X1_init_6) rfl hK hP hD hS hA (fun _ => rfl) (by decide) (by decide) (by decide) (Nat.le_of_ble_eq_true rfl) (Nat.le_of_ble_eq_true rfl) dX1_init_38 (fun q5 cA6 H hK hP hD hS => ?_)
  refine W.widen (k := 3) (n := 24) (by decide) (by decide) ?_
  have hP : va_P (dC, dI) vwCl [(ad0, .inr (1, [.int 0, .int 0, .int 0, .ref q1, .ref q3, .null, .null, .null, .null]))] H := hP.sub [0] rfl
  have hD : va_D A [(ad0, .inr (1, [.int 0, .int 0, .int 0, .ref q1, .ref q3, .null, .null, .null, .null]))] := hD.sub [0] (by decide) rfl
  have hK : va_K (dC, dI) vwCl [] s := hK.sub [] rfl
  refine va_putF (D := (dC, dI)) (ci := 1) (v := .ref q5) (ty := (.array .int)) (C := RX1) (T := TX1) (N := 9) hx hb hts iw_X1_init_X1 tyX1 tyX1_ok nmX1 hown hK hP hD hS 0 rfl rfl 5 (by decide) (hts _ kk_X1_init_9) (fun _ h9 => h9) rfl hin rfl (by decide +kernel) rfl rfl (Nat.le_of_ble_eq_true rfl) dX1_init_40 (fun H locs hP hD hS => ?_)
  have hP : va_P (dC, dI) vwCl [(ad0, .inr (1, [.int 0, .int 0, .int 0, .ref q1, .ref q3, .ref q5, .null, .null, .null]))] H := hP
  have hD : va_D A [(ad0, .inr (1, [.int 0, .int 0, .int 0, .ref q1, .ref q3, .ref q5, .null, .null, .null]))] := hD
  refine lv_aload_n hx hb dX1_init_43 rfl (lv_at hl 0 rfl) ?_
  refine lv_bipush (v := 20) hx hb dX1_init_44 (by decide) ?_
  refine va_newa (atype := .int) (ty := .int) (N' := 20) (a0 := (20, .inl (fun _ => 0))) hx hb (hts _ kk_X1_init_6) rfl hK hP hD hS hA (fun _ => rfl) (by decide) (by decide) (by decide) (Nat.le_of_ble_eq_true rfl) (Nat.le_of_ble_eq_true rfl) dX1_init_46 (fun q7 cA8 H hK hP hD hS => ?_)
  refine W.widen (k := 4) (n := 44) (by decide) (by decide) ?_
  have hP : va_P (dC, dI) vwCl [(ad0, .inr (1, [.int 0, .int 0, .int 0, .ref q1, .ref q3, .ref q5, .null, .null, .null]))] H := hP.sub [0] rfl
  have hD : va_D A [(ad0, .inr (1, [.int 0, .int 0, .int 0, .ref q1, .ref q3, .ref q5, .null, .null, .null]))] := hD.sub [0] (by decide) rfl
  have hK : va_K (dC, dI) vwCl [] s := hK.sub [] rfl
  refine va_putF (D := (dC, dI)) (ci := 1) (v := .ref q7) (ty := (.array .int)) (C := RX1) (T := TX1) (N := 9) hx hb hts iw_X1_init_X1 tyX1 tyX1_ok nmX1 hown hK hP hD hS 0 rfl rfl 6 (by decide) (hts _ kk_X1_init_10) (fun _ h9 => h9) rfl hin rfl (by decide +kernel) rfl rfl (Nat.le_of_ble_eq_true rfl) dX1_init_48 (fun H locs hP hD hS => ?_)
  have hP : va_P (dC, dI) vwCl [(ad0, .inr (1, [.int 0, .int 0, .int 0, .ref q1, .ref q3, .ref q5, .ref q7, .null, .null]))] H := hP
  have hD : va_D A [(ad0, .inr (1, [.int 0, .int 0, .int 0, .ref q1, .ref q3, .ref q5, .ref q7, .null, .null]))] := hD
  refine lv_aload_n hx hb dX1_init_51 rfl (lv_at hl 0 rfl) ?_
  refine lv_bipush (v := 20) hx hb dX1_init_52 (by decide) ?_
  refine va_newa (atype := .int) (ty := .int) (N' := 20) (a0 := (20, .inl (fun _ => 0))) hx hb (hts _ kk_X1_init_6) rfl hK hP hD hS hA (fun _ => rfl) (by decide) (by decide) (by decide) (Nat.le_of_ble_eq_true rfl) (Nat.le_of_ble_eq_true rfl) dX1_init_54 (fun q9 cA10 H hK hP hD hS => ?_)
  refine W.widen (k := 5) (n := 64) (by decide) (by decide) ?_
  have hP : va_P (dC, dI) vwCl [(ad0, .inr (1, [.int 0, .int 0, .int 0, .ref q1, .ref q3, .ref q5, .ref q7, .null, .null]))] H := hP.sub [0] rfl
  have hD : va_D A [(ad0, .inr (1, [.int 0, .int 0, .int 0, .ref q1, .ref q3, .ref q5, .ref q7, .null, .null]))] := hD.sub [0] (by decide) rfl
  have hK : va_K (dC, dI) vwCl [] s := hK.sub [] rfl
  refine va_putF (D := (dC, dI)) (ci := 1) (v := .ref q9) (ty := (.array .int)) (C := RX1) (T := TX1) (N := 9) hx hb hts iw_X1_init_X1 tyX1 tyX1_ok nmX1 hown hK hP hD hS 0 rfl rfl 7 (by decide) (hts _ kk_X1_init_11) (fun _ h9 => h9) rfl hin rfl (by decide +kernel) rfl rfl (Nat.le_of_ble_eq_true rfl) dX1_init_56 (fun H locs hP hD hS => ?_)
  have hP : va_P (dC, dI) vwCl [(ad0, .inr (1, [.int 0, .int 0, .int 0, .ref q1, .ref q3, .ref q5, .ref q7, .ref q9, .null]))] H := hP
  have hD : va_D A [(ad0, .inr (1, [.int 0, .int 0, .int 0, .ref q1, .ref q3, .ref q5, .ref q7, .ref q9, .null]))] := hD
  refine lv_aload_n hx hb dX1_init_59 rfl (lv_at hl 0 rfl) ?_
  refine lv_bipush (v := 20) hx hb dX1_init_60 (by decide) ?_
  refine va_newa (atype := .int) (ty := .int) (N' := 20) (a0 := (20, .inl (fun _ => 0))) hx hb (hts _ kk_X1_init_6) rfl hK hP hD hS hA (fun _ => rfl) (by decide) (by decide) (by decide) (Nat.le_of_ble_eq_true rfl) (Nat.le_of_ble_eq_true rfl) dX1_init_62 (fun q11 cA12 H hK hP hD hS => ?_)
  refine W.widen (k := 6) (n := 84) (by decide) (by decide) ?_
  have hP : va_P (dC, dI) vwCl [(ad0, .inr (1, [.int 0, .int 0, .int 0, .ref q1, .ref q3, .ref q5, .ref q7, .ref q9, .null]))] H := hP.sub [0] rfl
  have hD : va_D A [(ad0, .inr (1, [.int 0, .int 0, .int 0, .ref q1, .ref q3, .ref q5, .ref q7, .ref q9, .null]))] := hD.sub [0] (by decide) rfl
  have hK : va_K (dC, dI) vwCl [] s := hK.sub [] rfl
  refine va_putF (D := (dC, dI)) (ci := 1) (v := .ref q11) (ty := (.array .int)) (C := RX1) (T := TX1) (N := 9) hx hb hts iw_X1_init_X1 tyX1 tyX1_ok nmX1 hown hK hP hD hS 0 rfl rfl 8 (by decide) (hts _ kk_X1_init_12) (fun _ h9 => h9) rfl hin rfl (by decide +kernel) rfl rfl (Nat.le_of_ble_eq_true rfl) dX1_init_64 (fun H locs hP hD hS => ?_)
  have hP : va_P (dC, dI) vwCl [(ad0, .inr (1, [.int 0, .int 0, .int 0, .ref q1, .ref q3, .ref q5, .ref q7, .ref q9, .ref q11]))] H := hP
  have hD : va_D A [(ad0, .inr (1, [.int 0, .int 0, .int 0, .ref q1, .ref q3, .ref q5, .ref q7, .ref q9, .ref q11]))] := hD
  refine W.widen (k := 6) (n := 84) (by decide) (by decide) ?_
  have hP9 := hP.sub (ws' := [(ad0, .inr (1, [.int 0, .int 0, .int 0, .ref q1, .ref q3, .ref q5, .ref q7, .ref q9, .ref q11]))]) [0] rfl
  have hD9 := hD.sub (ws' := [(ad0, .inr (1, [.int 0, .int 0, .int 0, .ref q1, .ref q3, .ref q5, .ref q7, .ref q9, .ref q11]))]) [0] (by decide) rfl
  have hK9 := hK.sub (tys' := []) [] rfl
  exact W.vret hx hb hr (fun t ht hW => ⟨⟨(), rfl, trivial, q1, q3, q5, q7, q9, q11, by rw [ht]; exact hP9, va_K.moved hW.alike hK9, hD9⟩, hS.F ht⟩) hS.2.2 dX1_init_67

set_option maxHeartbeats 4000000 in
set_option maxRecDepth 100000 in
theorem ct_X9_init (l : Launch) (dC : Nat → ClassId) (dI : Nat → Nat → Nat) (ad0 : Nat) (sz : Nat) : Met l yX9_init wsX9_init ({ frames := 3, cells := 104, slots := 1675, locals := 60 }) (va_Pc [.ref ad0] (fun U => U.heap.size = sz ∧ va_P (dC, dI) vwCl [(ad0, .inr (9, [.null, .null, .null, .null, .null, .null, .null, .null, .int 0, .null, .null, .null, .null, .null]))] U.heap ∧ va_K (dC, dI) vwCl [] U ∧ va_D (fun _ => True) [(ad0, .inr (9, [.null, .null, .null, .null, .null, .null, .null, .null, .int 0, .null, .null, .null, .null, .null]))] ∧ vq_AOA .int U ∧ vq_AOA .long U)) (va_Qv (fun _ : Unit => True) (fun _ t => ∃ (q1 : Nat) (q15 : Nat) (q23 : Nat) (q25 : Nat) (q27 : Nat) (q29 : Nat) (q31 : Nat) (q33 : Nat) (q35 : Nat) (q37 : Nat) (q39 : Nat) (q41 : Nat) (q45 : Nat) (q3 : Nat) (q4 : Nat) (q5 : Nat) (q6 : Nat) (q7 : Nat) (q8 : Nat) (q9 : Nat) (q10 : Nat) (q11 : Nat) (cA12 : ClassId) (cA13 : ClassId) (f14 : Nat → Int32) (q17 : Nat) (q18 : Nat) (q19 : Nat) (q20 : Nat) (q21 : Nat) (cA22 : ClassId) (q43 : Nat) (q44 : Nat) (q47 : Nat) (q48 : Nat) (q49 : Nat) (q50 : Nat) (q51 : Nat) (q52 : Nat), va_P (dC, dI) vwCl [(ad0, .inr (9, [.ref q1, .ref q15, .ref q23, .ref q25, .ref q27, .ref q29, .ref q31, .ref q33, .int 0, .ref q35, .ref q37, .ref q39, .ref q41, .ref q45])), (q1, .inr (7, [.int 0, .int 0, .int (-1), .ref q3, .ref q4, .int 0, .int 0, .int 0, .int 0, .ref q5, .ref q6, .int 0, .int 0, .int 0])), (q3, .inr (3, [.int 0, .int 0, .int 10, .int 0, .int 0, .int 1, .ref q7, .ref q8, .ref q9, .ref q10, .ref q11])), (q10, .inl (cA12, 3, .inl (lf [1, 0, 0]))), (q4, .inl (cA13, 900, .inl f14)), (q15, .inr (3, [.int 0, .int 0, .int 10, .int 0, .int 0, .int 1, .ref q17, .ref q18, .ref q19, .ref q20, .ref q21])), (q20, .inl (cA22, 3, .inl (lf [1, 0, 0]))), (q25, .inr (2, [.long (-2000000000), .long 0])), (q27, .inr (2, [.long (-2000000000), .long 0])), (q29, .inr (2, [.long (-2000000000), .long 0])), (q41, .inr (6, [.int 1, .ref q43, .int 0, .ref q44])), (q45, .inr (1, [.int 0, .int 0, .int 0, .ref q47, .ref q48, .ref q49, .ref q50, .ref q51, .ref q52]))] t.heap ∧ va_K (dC, dI) vwCl [(cA12, .int), (cA13, .byte), (cA22, .int)] t ∧ va_D (va_A [(ad0, .inr (9, [.null, .null, .null, .null, .null, .null, .null, .null, .int 0, .null, .null, .null, .null, .null]))] sz) [(ad0, .inr (9, [.ref q1, .ref q15, .ref q23, .ref q25, .ref q27, .ref q29, .ref q31, .ref q33, .int 0, .ref q35, .ref q37, .ref q39, .ref q41, .ref q45])), (q1, .inr (7, [.int 0, .int 0, .int (-1), .ref q3, .ref q4, .int 0, .int 0, .int 0, .int 0, .ref q5, .ref q6, .int 0, .int 0, .int 0])), (q3, .inr (3, [.int 0, .int 0, .int 10, .int 0, .int 0, .int 1, .ref q7, .ref q8, .ref q9, .ref q10, .ref q11])), (q10, .inl (cA12, 3, .inl (lf [1, 0, 0]))), (q4, .inl (cA13, 900, .inl f14)), (q15, .inr (3, [.int 0, .int 0, .int 10, .int 0, .int 0, .int 1, .ref q17, .ref q18, .ref q19, .ref q20, .ref q21])), (q20, .inl (cA22, 3, .inl (lf [1, 0, 0]))), (q25, .inr (2, [.long (-2000000000), .long 0])), (q27, .inr (2, [.long (-2000000000), .long 0])), (q29, .inr (2, [.long (-2000000000), .long 0])), (q41, .inr (6, [.int 1, .ref q43, .int 0, .ref q44])), (q45, .inr (1, [.int 0, .int 0, .int 0, .ref q47, .ref q48, .ref q49, .ref q50, .ref q51, .ref q52]))]) (va_A [(ad0, .inr (9, [.null, .null, .null, .null, .null, .null, .null, .null, .int 0, .null, .null, .null, .null, .null]))] sz)) 104 1675 (va_A [(ad0, .inr (9, [.null, .null, .null, .null, .null, .null, .null, .null, .int 0, .null, .null, .null, .null, .null]))] sz) := by
  refine Met.ofW (cc := cX9_init) (maxL := 1) (ret := none) (by decide) rfl ?_
  intro p e s m args below meth c s₁ B hml hv
  obtain ⟨rfl, hsz, hP, hK, hD0, hF_0, hF_1⟩ := hv
  have hx := B.exec
  have hb := B.bytes
  have hr := B.returns
  have hts := atoms_spec (ws := wsX9_init) B.pre
  have hown : s.vm.findClass RX9 = some m.cls := findClass_of_methodNamed B.named
  have hlocks := B.notSynchronized
  have hin : meth.name = "<init>" := (name_of_methodNamed B.named B.method).1
  subst hsz
  have hD := hD0.self (sz := s.heap.size)
  generalize hAe : va_A [(ad0, .inr (9, [.null, .null, .null, .null, .null, .null, .null, .null, .int 0, .null, .null, .null, .null, .null]))] s.heap.size = A at hD ⊢
  have hA : ∀ q : Nat, s.heap.size ≤ q → A q := fun q h => by rw [← hAe]; exact Or.inr h
  have hS : va_S A s.heap s.heap [] := va_S.rf
  have hP : va_P (dC, dI) vwCl [(ad0, .inr (9, [.null, .null, .null, .null, .null, .null, .null, .null, .int 0, .null, .null, .null, .null, .null]))] s.heap := hP
  have hl := lv_entry ([.ref ad0]) (n := 1) (Nat.le_of_ble_eq_true rfl)
  rw [lg_entry_eq]
  generalize (lg_sl ([.ref ad0]) ++ List.replicate (1 - (lg_sl ([.ref ad0])).length) Slot.unset).toArray = ls at hl ⊢
  have hl : lv_has ls 1 [(0, .ref ad0)] := hl
  refine lv_aload_n hx hb dX9_init_0 rfl (lv_at hl 0 rfl) ?_
  refine W.objInit hx hb hown (hts _ kk_X9_init_0) (hts _ kk_X9_init_1) (hts _ kk_X9_init_2) rfl (by rw [hml]; exact hl.1) rfl dX9_init_1 (Nat.le_of_ble_eq_true rfl) (Nat.le_of_ble_eq_true rfl) ?_
  refine W.eq (g2 := F0 m 4 ls []) rfl ?_
  refine lv_aload_n hx hb dX9_init_4 rfl (lv_at hl 0 rfl) ?_
  refine va_new (ci := 7) (fs := [.int 0, .int 0, .int 0, .null, .null, .int 0, .int 0, .int 0, .int 0, .null, .null, .int 0, .int 0, .int 0]) (C := RX7) (T := TX7) (N := 14) hx hb hts iw_X9_init_X7 tyX7 tyX7_ok hown (hts _ kk_X9_init_3) (hts _ kk_X9_init_4) (hts _ kk_X9_init_5) hK hP hD hS hA rfl (by decide) (Nat.le_of_ble_eq_true rfl) (Nat.le_of_ble_eq_true rfl) dX9_init_5 (fun q1 H hP hD hS => ?_)
  have hP : va_P (dC, dI) vwCl [(ad0, .inr (9, [.null, .null, .null, .null, .null, .null, .null, .null, .int 0, .null, .null, .null, .null, .null])), (q1, .inr (7, [.int 0, .int 0, .int 0, .null, .null, .int 0, .int 0, .int 0, .int 0, .null, .null, .int 0, .int 0, .int 0]))] H := hP
  have hD : va_D A [(ad0, .inr (9, [.null, .null, .null, .null, .null, .null, .null, .null, .int 0, .null, .null, .null, .null, .null])), (q1, .inr (7, [.int 0, .int 0, .int 0, .null, .null, .int 0, .int 0, .int 0, .int 0, .null, .null, .int 0, .int 0, .int 0]))] := hD
  refine W.widen (k := 1) (n := 14) (by decide) (by decide) ?_
  refine lv_dup hx hb dX9_init_8 rfl ?_
  have hPc := hP.sub (ws' := [(q1, .inr (7, [.int 0, .int 0, .int 0, .null, .null, .int 0, .int 0, .int 0, .int 0, .null, .null, .int 0, .int 0, .int 0]))]) [1] rfl
  have hDc := hD.sub (ws' := [(q1, .inr (7, [.int 0, .int 0, .int 0, .null, .null, .int 0, .int 0, .int 0, .int 0, .null, .null, .int 0, .int 0, .int 0]))]) [1] (by decide) rfl
  have hKc := hK.sub (tys' := []) [] rfl
  have hFc := va_free (wc := [(q1, .inr (7, [.int 0, .int 0, .int 0, .null, .null, .int 0, .int 0, .int 0, .int 0, .null, .null, .int 0, .int 0, .int 0]))]) hD hS hA [1] rfl
  refine va_callv (va_runI (As := []) (rest := [.ref q1, .ref ad0]) ⟨hx, hb, hml, hown, hts⟩ (ct_X7_init l dC dI q1 H.size) (cwI 0 hts gX9_init_X7_init rfl rfl rfl (hts _ kk_X9_init_5) (hts _ kk_X9_init_6) (hts _ kk_X9_init_7) rfl (by decide +kernel) ⟨Nat.le_of_ble_eq_true rfl, Nat.le_of_ble_eq_true rfl⟩) ⟨fun a U g mk q => by obtain ⟨q0, q1, qP, qK, qD, qF0⟩ := q; exact ⟨q0, q1, qP, va_K.moved (u := U) (U := U.calling g mk a) (Vm.Alike.refl U.vm) qK, qD, vq_AOA.moved (u := U) (U := U.calling g mk a) (Vm.Alike.refl U.vm) qF0⟩, fun U hU hW => ⟨rfl, by rw [hU], by rw [hU]; exact hPc, va_K.moved hW.alike hKc, hDc.weaken (fun _ _ _ _ => trivial), vq_AOA.moved hW.alike hF_0⟩⟩ rfl rfl hl.1 rfl (lv_room (Nat.le_of_ble_eq_true rfl)) dX9_init_9 ⟨Nat.le_of_ble_eq_true rfl, Nat.le_of_ble_eq_true rfl⟩) hS (fun q _ h => hFc q h) hFc (fun u t H1 locs ht hvm hw hB hz1 hk1 hS => ?_)
  obtain ⟨q3, q4, q5, q6, q7, q8, q9, q10, q11, cA12, cA13, f14, hP1, hK1, hD1⟩ := hB
  rw [ht] at hP1
  have hK1 := va_K.moved hvm.symm hK1
  obtain ⟨hP, hD⟩ := va_join (wr := [(ad0, .inr (9, [.null, .null, .null, .null, .null, .null, .null, .null, .int 0, .null, .null, .null, .null, .null]))]) (w1 := [(q1, .inr (7, [.int 0, .int 0, .int (-1), .ref q3, .ref q4, .int 0, .int 0, .int 0, .int 0, .ref q5, .ref q6, .int 0, .int 0, .int 0])), (q3, .inr (3, [.int 0, .int 0, .int 10, .int 0, .int 0, .int 1, .ref q7, .ref q8, .ref q9, .ref q10, .ref q11])), (q10, .inl (cA12, 3, .inl (lf [1, 0, 0]))), (q4, .inl (cA13, 900, .inl f14))]) hP hD [1] [0] rfl rfl (by decide) (by decide) hk1 hFc hP1 hD1
  have hK := (hK.sub (tys' := []) [] rfl).app hK1
  clear hPc hDc hKc hFc hP1 hD1 hK1 hk1 hz1
  generalize H1 = H at hP hS ⊢
  have hP : va_P (dC, dI) vwCl [(ad0, .inr (9, [.null, .null, .null, .null, .null, .null, .null, .null, .int 0, .null, .null, .null, .null, .null])), (q1, .inr (7, [.int 0, .int 0, .int (-1), .ref q3, .ref q4, .int 0, .int 0, .int 0, .int 0, .ref q5, .ref q6, .int 0, .int 0, .int 0])), (q3, .inr (3, [.int 0, .int 0, .int 10, .int 0, .int 0, .int 1, .ref q7, .ref q8, .ref q9, .ref q10, .ref q11])), (q10, .inl (cA12, 3, .inl (lf [1, 0, 0]))), (q4, .inl (cA13, 900, .inl f14))] H := hP
  have hD : va_D A [(ad0, .inr (9, [.null, .null, .null, .null, .null, .null, .null, .null, .int 0, .null, .null, .null, .null, .null])), (q1, .inr (7, [.int 0, .int 0, .int (-1), .ref q3, .ref q4, .int 0, .int 0, .int 0, .int 0, .ref q5, .ref q6, .int 0, .int 0, .int 0])), (q3, .inr (3, [.int 0, .int 0, .int 10, .int 0, .int 0, .int 1, .ref q7, .ref q8, .ref q9, .ref q10, .ref q11])), (q10, .inl (cA12, 3, .inl (lf [1, 0, 0]))), (q4, .inl (cA13, 900, .inl f14))] := hD
  have hK : va_K (dC, dI) vwCl [(cA12, .int), (cA13, .byte)] s := hK
  refine W.widen (k := 15) (n := 974) (by decide) (by decide) ?_
  refine va_putF (D := (dC, dI)) (ci := 9) (v := .ref q1) (ty := (.object "PaidBySigns$Reader")) (C := RX9) (T := TX9) (N := 14) hx hb hts iw_X9_init_X9 tyX9 tyX9_ok nmX9 hown hK hP hD hS 0 rfl rfl 0 (by decide) (hts _ kk_X9_init_8) (fun _ h9 => h9) rfl hin rfl (by decide +kernel) rfl rfl (Nat.le_of_ble_eq_true rfl) dX9_init_12 (fun H locs hP hD hS => ?_)
  have hP : va_P (dC, dI) vwCl [(ad0, .inr (9, [.ref q1, .null, .null, .null, .null, .null, .null, .null, .int 0, .null, .null, .null, .null, .null])), (q1, .inr (7, [.int 0, .int 0, .int (-1), .ref q3, .ref q4, .int 0, .int 0, .int 0, .int 0, .ref q5, .ref q6, .int 0, .int 0, .int 0])), (q3, .inr (3, [.int 0, .int 0, .int 10, .int 0, .int 0, .int 1, .ref q7, .ref q8, .ref q9, .ref q10, .ref q11])), (q10, .inl (cA12, 3, .inl (lf [1, 0, 0]))), (q4, .inl (cA13, 900, .inl f14))] H := hP
  have hD : va_D A [(ad0, .inr (9, [.ref q1, .null, .null, .null, .null, .null, .null, .null, .int 0, .null, .null, .null, .null, .null])), (q1, .inr (7, [.int 0, .int 0, .int (-1), .ref q3, .ref q4, .int 0, .int 0, .int 0, .int 0, .ref q5, .ref q6, .int 0, .int 0, .int 0])), (q3, .inr (3, [.int 0, .int 0, .int 10, .int 0, .int 0, .int 1, .ref q7, .ref q8, .ref q9, .ref q10, .ref q11])), (q10, .inl (cA12, 3, .inl (lf [1, 0, 0]))), (q4, .inl (cA13, 900, .inl f14))] := hD
  refine lv_aload_n hx hb dX9_init_15 rfl (lv_at hl 0 rfl) ?_
  refine va_new (ci := 3) (fs := [.int 0, .int 0, .int 0, .int 0, .int 0, .int 0, .null, .null, .null, .null, .null]) (C := RX3) (T := TX3) (N := 11) hx hb hts iw_X9_init_X3 tyX3 tyX3_ok hown (hts _ kk_X9_init_9) (hts _ kk_X9_init_10) (hts _ kk_X9_init_11) hK hP hD hS hA rfl (by decide) (Nat.le_of_ble_eq_true rfl) (Nat.le_of_ble_eq_true rfl) dX9_init_16 (fun q15 H hP hD hS => ?_)
  have hP : va_P (dC, dI) vwCl [(ad0, .inr (9, [.ref q1, .null, .null, .null, .null, .null, .null, .null, .int 0, .null, .null, .null, .null, .null])), (q1, .inr (7, [.int 0, .int 0, .int (-1), .ref q3, .ref q4, .int 0, .int 0, .int 0, .int 0, .ref q5, .ref q6, .int 0, .int 0, .int 0])), (q3, .inr (3, [.int 0, .int 0, .int 10, .int 0, .int 0, .int 1, .ref q7, .ref q8, .ref q9, .ref q10, .ref q11])), (q10, .inl (cA12, 3, .inl (lf [1, 0, 0]))), (q4, .inl (cA13, 900, .inl f14)), (q15, .inr (3, [.int 0, .int 0, .int 0, .int 0, .int 0, .int 0, .null, .null, .null, .null, .null]))] H := hP
  have hD : va_D A [(ad0, .inr (9, [.ref q1, .null, .null, .null, .null, .null, .null, .null, .int 0, .null, .null, .null, .null, .null])), (q1, .inr (7, [.int 0, .int 0, .int (-1), .ref q3, .ref q4, .int 0, .int 0, .int 0, .int 0, .ref q5, .ref q6, .int 0, .int 0, .int 0])), (q3, .inr (3, [.int 0, .int 0, .int 10, .int 0, .int 0, .int 1, .ref q7, .ref q8, .ref q9, .ref q10, .ref q11])), (q10, .inl (cA12, 3, .inl (lf [1, 0, 0]))), (q4, .inl (cA13, 900, .inl f14)), (q15, .inr (3, [.int 0, .int 0, .int 0, .int 0, .int 0, .int 0, .null, .null, .null, .null, .null]))] := hD
  refine W.widen (k := 16) (n := 985) (by decide) (by decide) ?_
  refine lv_dup hx hb dX9_init_19 rfl ?_
  have hPc := hP.sub (ws' := [(q15, .inr (3, [.int 0, .int 0, .int 0, .int 0, .int 0, .int 0, .null, .null, .null, .null, .null]))]) [5] rfl
  have hDc := hD.sub (ws' := [(q15, .inr (3, [.int 0, .int 0, .int 0, .int 0, .int 0, .int 0, .null, .null, .null, .null, .null]))]) [5] (by decide) rfl
  have hKc := hK.sub (tys' := []) [] rfl
  have hFc := va_free (wc := [(q15, .inr (3, [.int 0, .int 0, .int 0, .int 0, .int 0, .int 0, .null, .null, .null, .null, .null]))]) hD hS hA [5] rfl
  refine va_callv (va_runI (As := []) (rest := [.ref q15, .ref ad0]) ⟨hx, hb, hml, hown, hts⟩ (ct_X3_init l dC dI q15 H.size) (cwI 0 hts gX9_init_X3_init rfl rfl rfl (hts _ kk_X9_init_11) (hts _ kk_X9_init_12) (hts _ kk_X9_init_13) rfl (by decide +kernel) ⟨Nat.le_of_ble_eq_true rfl, Nat.le_of_ble_eq_true rfl⟩) ⟨fun a U g mk q => by obtain ⟨q0, q1, qP, qK, qD, qF0⟩ := q; exact ⟨q0, q1, qP, va_K.moved (u := U) (U := U.calling g mk a) (Vm.Alike.refl U.vm) qK, qD, vq_AOA.moved (u := U) (U := U.calling g mk a) (Vm.Alike.refl U.vm) qF0⟩, fun U hU hW => ⟨rfl, by rw [hU], by rw [hU]; exact hPc, va_K.moved hW.alike hKc, hDc.weaken (fun _ _ _ _ => trivial), vq_AOA.moved hW.alike hF_0⟩⟩ rfl rfl hl.1 rfl (lv_room (Nat.le_of_ble_eq_true rfl)) dX9_init_20 ⟨Nat.le_of_ble_eq_true rfl, Nat.le_of_ble_eq_true rfl⟩) hS (fun q _ h => hFc q h) hFc (fun u t H1 locs ht hvm hw hB hz1 hk1 hS => ?_)
  obtain ⟨q17, q18, q19, q20, q21, cA22, hP1, hK1, hD1⟩ := hB
  rw [ht] at hP1
  have hK1 := va_K.moved hvm.symm hK1
  obtain ⟨hP, hD⟩ := va_join (wr := [(ad0, .inr (9, [.ref q1, .null, .null, .null, .null, .null, .null, .null, .int 0, .null, .null, .null, .null, .null])), (q1, .inr (7, [.int 0, .int 0, .int (-1), .ref q3, .ref q4, .int 0, .int 0, .int 0, .int 0, .ref q5, .ref q6, .int 0, .int 0, .int 0])), (q3, .inr (3, [.int 0, .int 0, .int 10, .int 0, .int 0, .int 1, .ref q7, .ref q8, .ref q9, .ref q10, .ref q11])), (q10, .inl (cA12, 3, .inl (lf [1, 0, 0]))), (q4, .inl (cA13, 900, .inl f14))]) (w1 := [(q15, .inr (3, [.int 0, .int 0, .int 10, .int 0, .int 0, .int 1, .ref q17, .ref q18, .ref q19, .ref q20, .ref q21])), (q20, .inl (cA22, 3, .inl (lf [1, 0, 0])))]) hP hD [5] [0, 1, 2, 3, 4] rfl rfl (by decide) (by decide) hk1 hFc hP1 hD1
  have hK := (hK.sub (tys' := [(cA12, .int), (cA13, .byte)]) [0, 1] rfl).app hK1
  clear hPc hDc hKc hFc hP1 hD1 hK1 hk1 hz1
  generalize H1 = H at hP hS ⊢
  have hP : va_P (dC, dI) vwCl [(ad0, .inr (9, [.ref q1, .null, .null, .null, .null, .null, .null, .null, .int 0, .null, .null, .null, .null, .null])), (q1, .inr (7, [.int 0, .int 0, .int (-1), .ref q3, .ref q4, .int 0, .int 0, .int 0, .int 0, .ref q5, .ref q6, .int 0, .int 0, .int 0])), (q3, .inr (3, [.int 0, .int 0, .int 10, .int 0, .int 0, .int 1, .ref q7, .ref q8, .ref q9, .ref q10, .ref q11])), (q10, .inl (cA12, 3, .inl (lf [1, 0, 0]))), (q4, .inl (cA13, 900, .inl f14)), (q15, .inr (3, [.int 0, .int 0, .int 10, .int 0, .int 0, .int 1, .ref q17, .ref q18, .ref q19, .ref q20, .ref q21])), (q20, .inl (cA22, 3, .inl (lf [1, 0, 0])))] H := hP
  have hD : va_D A [(ad0, .inr (9, [.ref q1, .null, .null, .null, .null, .null, .null, .null, .int 0, .null, .null, .null, .null, .null])), (q1, .inr (7, [.int 0, .int 0, .int (-1), .ref q3, .ref q4, .int 0, .int 0, .int 0, .int 0, .ref q5, .ref q6, .int 0, .int 0, .int 0])), (q3, .inr (3, [.int 0, .int 0, .int 10, .int 0, .int 0, .int 1, .ref q7, .ref q8, .ref q9, .ref q10, .ref q11])), (q10, .inl (cA12, 3, .inl (lf [1, 0, 0]))), (q4, .inl (cA13, 900, .inl f14)), (q15, .inr (3, [.int 0, .int 0, .int 10, .int 0, .int 0, .int 1, .ref q17, .ref q18, .ref q19, .ref q20, .ref q21])), (q20, .inl (cA22, 3, .inl (lf [1, 0, 0])))] := hD
  have hK : va_K (dC, dI) vwCl [(cA12, .int), (cA13, .byte), (cA22, .int)] s := hK
  refine W.widen (k := 26) (n := 1024) (by decide) (by decide) ?_
  refine va_put (D := (dC, dI)) (ci := 9) (v := .ref q15) (ty := (.object "PaidBySigns$Hire")) (C := RX9) (T := TX9) (N := 14) hx hb hts iw_X9_init_X9 tyX9 tyX9_ok nmX9 hown hK hP hD hS 0 rfl rfl 1 (by decide) (hts _ kk_X9_init_14) (fun _ h9 => h9) rfl (by decide +kernel) rfl rfl (Nat.le_of_ble_eq_true rfl) dX9_init_23 (fun H locs hP hD hS => ?_)
  have hP : va_P (dC, dI) vwCl [(ad0, .inr (9, [.ref q1, .ref q15, .null, .null, .null, .null, .null, .null, .int 0, .null, .null, .null, .null, .null])), (q1, .inr (7, [.int 0, .int 0, .int (-1), .ref q3, .ref q4, .int 0, .int 0, .int 0, .int 0, .ref q5, .ref q6, .int 0, .int 0, .int 0])), (q3, .inr (3, [.int 0, .int 0, .int 10, .int 0, .int 0, .int 1, .ref q7, .ref q8, .ref q9, .ref q10, .ref q11])), (q10, .inl (cA12, 3, .inl (lf [1, 0, 0]))), (q4, .inl (cA13, 900, .inl f14)), (q15, .inr (3, [.int 0, .int 0, .int 10, .int 0, .int 0, .int 1, .ref q17, .ref q18, .ref q19, .ref q20, .ref q21])), (q20, .inl (cA22, 3, .inl (lf [1, 0, 0])))] H := hP
  have hD : va_D A [(ad0, .inr (9, [.ref q1, .ref q15, .null, .null, .null, .null, .null, .null, .int 0, .null, .null, .null, .null, .null])), (q1, .inr (7, [.int 0, .int 0, .int (-1), .ref q3, .ref q4, .int 0, .int 0, .int 0, .int 0, .ref q5, .ref q6, .int 0, .int 0, .int 0])), (q3, .inr (3, [.int 0, .int 0, .int 10, .int 0, .int 0, .int 1, .ref q7, .ref q8, .ref q9, .ref q10, .ref q11])), (q10, .inl (cA12, 3, .inl (lf [1, 0, 0]))), (q4, .inl (cA13, 900, .inl f14)), (q15, .inr (3, [.int 0, .int 0, .int 10, .int 0, .int 0, .int 1, .ref q17, .ref q18, .ref q19, .ref q20, .ref q21])), (q20, .inl (cA22, 3, .inl (lf [1, 0, 0])))] := hD
  refine lv_aload_n hx hb dX9_init_26 rfl (lv_at hl 0 rfl) ?_
  refine lv_iconst (v := 4) hx hb dX9_init_27 (by decide) ?_
  refine va_newa (atype := .int) (ty := .int) (N' := 4) (a0 := (4, .inl (fun _ => 0))) hx hb (hts _ kk_X9_init_15) rfl hK hP hD hS hA (fun _ => rfl) (by decide) (by decide) (by decide) (Nat.le_of_ble_eq_true rfl) (Nat.le_of_ble_eq_true rfl) dX9_init_28 (fun q23 cA24 H hK hP hD hS => ?_)
  refine W.widen (k := 27) (n := 1028) (by decide) (by decide) ?_
  have hP : va_P (dC, dI) vwCl [(ad0, .inr (9, [.ref q1, .ref q15, .null, .null, .null, .null, .null, .null, .int 0, .null, .null, .null, .null, .null])), (q1, .inr (7, [.int 0, .int 0, .int (-1), .ref q3, .ref q4, .int 0, .int 0, .int 0, .int 0, .ref q5, .ref q6, .int 0, .int 0, .int 0])), (q3, .inr (3, [.int 0, .int 0, .int 10, .int 0, .int 0, .int 1, .ref q7, .ref q8, .ref q9, .ref q10, .ref q11])), (q10, .inl (cA12, 3, .inl (lf [1, 0, 0]))), (q4, .inl (cA13, 900, .inl f14)), (q15, .inr (3, [.int 0, .int 0, .int 10, .int 0, .int 0, .int 1, .ref q17, .ref q18, .ref q19, .ref q20, .ref q21])), (q20, .inl (cA22, 3, .inl (lf [1, 0, 0])))] H := hP.sub [0, 1, 2, 3, 4, 5, 6] rfl
  have hD : va_D A [(ad0, .inr (9, [.ref q1, .ref q15, .null, .null, .null, .null, .null, .null, .int 0, .null, .null, .null, .null, .null])), (q1, .inr (7, [.int 0, .int 0, .int (-1), .ref q3, .ref q4, .int 0, .int 0, .int 0, .int 0, .ref q5, .ref q6, .int 0, .int 0, .int 0])), (q3, .inr (3, [.int 0, .int 0, .int 10, .int 0, .int 0, .int 1, .ref q7, .ref q8, .ref q9, .ref q10, .ref q11])), (q10, .inl (cA12, 3, .inl (lf [1, 0, 0]))), (q4, .inl (cA13, 900, .inl f14)), (q15, .inr (3, [.int 0, .int 0, .int 10, .int 0, .int 0, .int 1, .ref q17, .ref q18, .ref q19, .ref q20, .ref q21])), (q20, .inl (cA22, 3, .inl (lf [1, 0, 0])))] := hD.sub [0, 1, 2, 3, 4, 5, 6] (by decide) rfl
  have hK : va_K (dC, dI) vwCl [(cA12, .int), (cA13, .byte), (cA22, .int)] s := hK.sub [0, 1, 2] rfl
  refine va_putF (D := (dC, dI)) (ci := 9) (v := .ref q23) (ty := (.array .int)) (C := RX9) (T := TX9) (N := 14) hx hb hts iw_X9_init_X9 tyX9 tyX9_ok nmX9 hown hK hP hD hS 0 rfl rfl 2 (by decide) (hts _ kk_X9_init_16) (fun _ h9 => h9) rfl hin rfl (by decide +kernel) rfl rfl (Nat.le_of_ble_eq_true rfl) dX9_init_30 (fun H locs hP hD hS => ?_)
  have hP : va_P (dC, dI) vwCl [(ad0, .inr (9, [.ref q1, .ref q15, .ref q23, .null, .null, .null, .null, .null, .int 0, .null, .null, .null, .null, .null])), (q1, .inr (7, [.int 0, .int 0, .int (-1), .ref q3, .ref q4, .int 0, .int 0, .int 0, .int 0, .ref q5, .ref q6, .int 0, .int 0, .int 0])), (q3, .inr (3, [.int 0, .int 0, .int 10, .int 0, .int 0, .int 1, .ref q7, .ref q8, .ref q9, .ref q10, .ref q11])), (q10, .inl (cA12, 3, .inl (lf [1, 0, 0]))), (q4, .inl (cA13, 900, .inl f14)), (q15, .inr (3, [.int 0, .int 0, .int 10, .int 0, .int 0, .int 1, .ref q17, .ref q18, .ref q19, .ref q20, .ref q21])), (q20, .inl (cA22, 3, .inl (lf [1, 0, 0])))] H := hP
  have hD : va_D A [(ad0, .inr (9, [.ref q1, .ref q15, .ref q23, .null, .null, .null, .null, .null, .int 0, .null, .null, .null, .null, .null])), (q1, .inr (7, [.int 0, .int 0, .int (-1), .ref q3, .ref q4, .int 0, .int 0, .int 0, .int 0, .ref q5, .ref q6, .int 0, .int 0, .int 0])), (q3, .inr (3, [.int 0, .int 0, .int 10, .int 0, .int 0, .int 1, .ref q7, .ref q8, .ref q9, .ref q10, .ref q11])), (q10, .inl (cA12, 3, .inl (lf [1, 0, 0]))), (q4, .inl (cA13, 900, .inl f14)), (q15, .inr (3, [.int 0, .int 0, .int 10, .int 0, .int 0, .int 1, .ref q17, .ref q18, .ref q19, .ref q20, .ref q21])), (q20, .inl (cA22, 3, .inl (lf [1, 0, 0])))] := hD
  refine lv_aload_n hx hb dX9_init_33 rfl (lv_at hl 0 rfl) ?_
  refine va_new (ci := 2) (fs := [.long 0, .long 0]) (C := RX2) (T := TX2) (N := 2) hx hb hts iw_X9_init_X2 tyX2 tyX2_ok hown (hts _ kk_X9_init_17) (hts _ kk_X9_init_18) (hts _ kk_X9_init_19) hK hP hD hS hA rfl (by decide) (Nat.le_of_ble_eq_true rfl) (Nat.le_of_ble_eq_true rfl) dX9_init_34 (fun q25 H hP hD hS => ?_)
  have hP : va_P (dC, dI) vwCl [(ad0, .inr (9, [.ref q1, .ref q15, .ref q23, .null, .null, .null, .null, .null, .int 0, .null, .null, .null, .null, .null])), (q1, .inr (7, [.int 0, .int 0, .int (-1), .ref q3, .ref q4, .int 0, .int 0, .int 0, .int 0, .ref q5, .ref q6, .int 0, .int 0, .int 0])), (q3, .inr (3, [.int 0, .int 0, .int 10, .int 0, .int 0, .int 1, .ref q7, .ref q8, .ref q9, .ref q10, .ref q11])), (q10, .inl (cA12, 3, .inl (lf [1, 0, 0]))), (q4, .inl (cA13, 900, .inl f14)), (q15, .inr (3, [.int 0, .int 0, .int 10, .int 0, .int 0, .int 1, .ref q17, .ref q18, .ref q19, .ref q20, .ref q21])), (q20, .inl (cA22, 3, .inl (lf [1, 0, 0]))), (q25, .inr (2, [.long 0, .long 0]))] H := hP
  have hD : va_D A [(ad0, .inr (9, [.ref q1, .ref q15, .ref q23, .null, .null, .null, .null, .null, .int 0, .null, .null, .null, .null, .null])), (q1, .inr (7, [.int 0, .int 0, .int (-1), .ref q3, .ref q4, .int 0, .int 0, .int 0, .int 0, .ref q5, .ref q6, .int 0, .int 0, .int 0])), (q3, .inr (3, [.int 0, .int 0, .int 10, .int 0, .int 0, .int 1, .ref q7, .ref q8, .ref q9, .ref q10, .ref q11])), (q10, .inl (cA12, 3, .inl (lf [1, 0, 0]))), (q4, .inl (cA13, 900, .inl f14)), (q15, .inr (3, [.int 0, .int 0, .int 10, .int 0, .int 0, .int 1, .ref q17, .ref q18, .ref q19, .ref q20, .ref q21])), (q20, .inl (cA22, 3, .inl (lf [1, 0, 0]))), (q25, .inr (2, [.long 0, .long 0]))] := hD
  refine W.widen (k := 28) (n := 1030) (by decide) (by decide) ?_
  refine lv_dup hx hb dX9_init_37 rfl ?_
  have hPc := hP.sub (ws' := [(q25, .inr (2, [.long 0, .long 0]))]) [7] rfl
  have hDc := hD.sub (ws' := [(q25, .inr (2, [.long 0, .long 0]))]) [7] (by decide) rfl
  have hKc := hK.sub (tys' := []) [] rfl
  have hFc := va_free (wc := [(q25, .inr (2, [.long 0, .long 0]))]) hD hS hA [7] rfl
  refine va_callv (va_runI (As := []) (rest := [.ref q25, .ref ad0]) ⟨hx, hb, hml, hown, hts⟩ (ct_X2_init l dC dI q25 H.size) (cwI 0 hts gX9_init_X2_init rfl rfl rfl (hts _ kk_X9_init_19) (hts _ kk_X9_init_20) (hts _ kk_X9_init_21) rfl (by decide +kernel) ⟨Nat.le_of_ble_eq_true rfl, Nat.le_of_ble_eq_true rfl⟩) ⟨fun a U g mk q => by obtain ⟨q0, q1, qP, qK, qD⟩ := q; exact ⟨q0, q1, qP, va_K.moved (u := U) (U := U.calling g mk a) (Vm.Alike.refl U.vm) qK, qD⟩, fun U hU hW => ⟨rfl, by rw [hU], by rw [hU]; exact hPc, va_K.moved hW.alike hKc, hDc.weaken (fun _ _ _ _ => trivial)⟩⟩ rfl rfl hl.1 rfl (lv_room (Nat.le_of_ble_eq_true rfl)) dX9_init_38 ⟨Nat.le_of_ble_eq_true rfl, Nat.le_of_ble_eq_true rfl⟩) hS (fun q _ h => hFc q h) hFc (fun u t H1 locs ht hvm hw hB hz1 hk1 hS => ?_)
  obtain ⟨hP1, hK1, hD1⟩ := hB
  rw [ht] at hP1
  have hK1 := va_K.moved hvm.symm hK1
  obtain ⟨hP, hD⟩ := va_join (wr := [(ad0, .inr (9, [.ref q1, .ref q15, .ref q23, .null, .null, .null, .null, .null, .int 0, .null, .null, .null, .null, .null])), (q1, .inr (7, [.int 0, .int 0, .int (-1), .ref q3, .ref q4, .int 0, .int 0, .int 0, .int 0, .ref q5, .ref q6, .int 0, .int 0, .int 0])), (q3, .inr (3, [.int 0, .int 0, .int 10, .int 0, .int 0, .int 1, .ref q7, .ref q8, .ref q9, .ref q10, .ref q11])), (q10, .inl (cA12, 3, .inl (lf [1, 0, 0]))), (q4, .inl (cA13, 900, .inl f14)), (q15, .inr (3, [.int 0, .int 0, .int 10, .int 0, .int 0, .int 1, .ref q17, .ref q18, .ref q19, .ref q20, .ref q21])), (q20, .inl (cA22, 3, .inl (lf [1, 0, 0])))]) (w1 := [(q25, .inr (2, [.long (-2000000000), .long 0]))]) hP hD [7] [0, 1, 2, 3, 4, 5, 6] rfl rfl (by decide) (by decide) hk1 hFc hP1 hD1
  have hK := (hK.sub (tys' := [(cA12, .int), (cA13, .byte), (cA22, .int)]) [0, 1, 2] rfl).app hK1
  clear hPc hDc hKc hFc hP1 hD1 hK1 hk1 hz1
  generalize H1 = H at hP hS ⊢
  have hP : va_P (dC, dI) vwCl [(ad0, .inr (9, [.ref q1, .ref q15, .ref q23, .null, .null, .null, .null, .null, .int 0, .null, .null, .null, .null, .null])), (q1, .inr (7, [.int 0, .int 0, .int (-1), .ref q3, .ref q4, .int 0, .int 0, .int 0, .int 0, .ref q5, .ref q6, .int 0, .int 0, .int 0])), (q3, .inr (3, [.int 0, .int 0, .int 10, .int 0, .int 0, .int 1, .ref q7, .ref q8, .ref q9, .ref q10, .ref q11])), (q10, .inl (cA12, 3, .inl (lf [1, 0, 0]))), (q4, .inl (cA13, 900, .inl f14)), (q15, .inr (3, [.int 0, .int 0, .int 10, .int 0, .int 0, .int 1, .ref q17, .ref q18, .ref q19, .ref q20, .ref q21])), (q20, .inl (cA22, 3, .inl (lf [1, 0, 0]))), (q25, .inr (2, [.long (-2000000000), .long 0]))] H := hP
  have hD : va_D A [(ad0, .inr (9, [.ref q1, .ref q15, .ref q23, .null, .null, .null, .null, .null, .int 0, .null, .null, .null, .null, .null])), (q1, .inr (7, [.int 0, .int 0, .int (-1), .ref q3, .ref q4, .int 0, .int 0, .int 0, .int 0, .ref q5, .ref q6, .int 0, .int 0, .int 0])), (q3, .inr (3, [.int 0, .int 0, .int 10, .int 0, .int 0, .int 1, .ref q7, .ref q8, .ref q9, .ref q10, .ref q11])), (q10, .inl (cA12, 3, .inl (lf [1, 0, 0]))), (q4, .inl (cA13, 900, .inl f14)), (q15, .inr (3, [.int 0, .int 0, .int 10, .int 0, .int 0, .int 1, .ref q17, .ref q18, .ref q19, .ref q20, .ref q21])), (q20, .inl (cA22, 3, .inl (lf [1, 0, 0]))), (q25, .inr (2, [.long (-2000000000), .long 0]))] := hD
  have hK : va_K (dC, dI) vwCl [(cA12, .int), (cA13, .byte), (cA22, .int)] s := hK
  refine W.widen (k := 28) (n := 1030) (by decide) (by decide) ?_
  refine va_putF (D := (dC, dI)) (ci := 9) (v := .ref q25) (ty := (.object "PaidBySigns$Fraction")) (C := RX9) (T := TX9) (N := 14) hx hb hts iw_X9_init_X9 tyX9 tyX9_ok nmX9 hown hK hP hD hS 0 rfl rfl 3 (by decide) (hts _ kk_X9_init_22) (fun _ h9 => h9) rfl hin rfl (by decide +kernel) rfl rfl (Nat.le_of_ble_eq_true rfl) dX9_init_41 (fun H locs hP hD hS => ?_)
  have hP : va_P (dC, dI) vwCl [(ad0, .inr (9, [.ref q1, .ref q15, .ref q23, .ref q25, .null, .null, .null, .null, .int 0, .null, .null, .null, .null, .null])), (q1, .inr (7, [.int 0, .int 0, .int (-1), .ref q3, .ref q4, .int 0, .int 0, .int 0, .int 0, .ref q5, .ref q6, .int 0, .int 0, .int 0])), (q3, .inr (3, [.int 0, .int 0, .int 10, .int 0, .int 0, .int 1, .ref q7, .ref q8, .ref q9, .ref q10, .ref q11])), (q10, .inl (cA12, 3, .inl (lf [1, 0, 0]))), (q4, .inl (cA13, 900, .inl f14)), (q15, .inr (3, [.int 0, .int 0, .int 10, .int 0, .int 0, .int 1, .ref q17, .ref q18, .ref q19, .ref q20, .ref q21])), (q20, .inl (cA22, 3, .inl (lf [1, 0, 0]))), (q25, .inr (2, [.long (-2000000000), .long 0]))] H := hP
  have hD : va_D A [(ad0, .inr (9, [.ref q1, .ref q15, .ref q23, .ref q25, .null, .null, .null, .null, .int 0, .null, .null, .null, .null, .null])), (q1, .inr (7, [.int 0, .int 0, .int (-1), .ref q3, .ref q4, .int 0, .int 0, .int 0, .int 0, .ref q5, .ref q6, .int 0, .int 0, .int 0])), (q3, .inr (3, [.int 0, .int 0, .int 10, .int 0, .int 0, .int 1, .ref q7, .ref q8, .ref q9, .ref q10, .ref q11])), (q10, .inl (cA12, 3, .inl (lf [1, 0, 0]))), (q4, .inl (cA13, 900, .inl f14)), (q15, .inr (3, [.int 0, .int 0, .int 10, .int 0, .int 0, .int 1, .ref q17, .ref q18, .ref q19, .ref q20, .ref q21])), (q20, .inl (cA22, 3, .inl (lf [1, 0, 0]))), (q25, .inr (2, [.long (-2000000000), .long 0]))] := hD
  refine lv_aload_n hx hb dX9_init_44 rfl (lv_at hl 0 rfl) ?_
  refine va_new (ci := 2) (fs := [.long 0, .long 0]) (C := RX2) (T := TX2) (N := 2) hx hb hts iw_X9_init_X2 tyX2 tyX2_ok hown (hts _ kk_X9_init_17) (hts _ kk_X9_init_18) (hts _ kk_X9_init_19) hK hP hD hS hA rfl (by decide) (Nat.le_of_ble_eq_true rfl) (Nat.le_of_ble_eq_true rfl) dX9_init_45 (fun q27 H hP hD hS => ?_)
  have hP : va_P (dC, dI) vwCl [(ad0, .inr (9, [.ref q1, .ref q15, .ref q23, .ref q25, .null, .null, .null, .null, .int 0, .null, .null, .null, .null, .null])), (q1, .inr (7, [.int 0, .int 0, .int (-1), .ref q3, .ref q4, .int 0, .int 0, .int 0, .int 0, .ref q5, .ref q6, .int 0, .int 0, .int 0])), (q3, .inr (3, [.int 0, .int 0, .int 10, .int 0, .int 0, .int 1, .ref q7, .ref q8, .ref q9, .ref q10, .ref q11])), (q10, .inl (cA12, 3, .inl (lf [1, 0, 0]))), (q4, .inl (cA13, 900, .inl f14)), (q15, .inr (3, [.int 0, .int 0, .int 10, .int 0, .int 0, .int 1, .ref q17, .ref q18, .ref q19, .ref q20, .ref q21])), (q20, .inl (cA22, 3, .inl (lf [1, 0, 0]))), (q25, .inr (2, [.long (-2000000000), .long 0])), (q27, .inr (2, [.long 0, .long 0]))] H := hP
  have hD : va_D A [(ad0, .inr (9, [.ref q1, .ref q15, .ref q23, .ref q25, .null, .null, .null, .null, .int 0, .null, .null, .null, .null, .null])), (q1, .inr (7, [.int 0, .int 0, .int (-1), .ref q3, .ref q4, .int 0, .int 0, .int 0, .int 0, .ref q5, .ref q6, .int 0, .int 0, .int 0])), (q3, .inr (3, [.int 0, .int 0, .int 10, .int 0, .int 0, .int 1, .ref q7, .ref q8, .ref q9, .ref q10, .ref q11])), (q10, .inl (cA12, 3, .inl (lf [1, 0, 0]))), (q4, .inl (cA13, 900, .inl f14)), (q15, .inr (3, [.int 0, .int 0, .int 10, .int 0, .int 0, .int 1, .ref q17, .ref q18, .ref q19, .ref q20, .ref q21])), (q20, .inl (cA22, 3, .inl (lf [1, 0, 0]))), (q25, .inr (2, [.long (-2000000000), .long 0])), (q27, .inr (2, [.long 0, .long 0]))] := hD
  refine W.widen (k := 29) (n := 1032) (by decide) (by decide) ?_
  refine lv_dup hx hb dX9_init_48 rfl ?_
  have hPc := hP.sub (ws' := [(q27, .inr (2, [.long 0, .long 0]))]) [8] rfl
  have hDc := hD.sub (ws' := [(q27, .inr (2, [.long 0, .long 0]))]) [8] (by decide) rfl
  have hKc := hK.sub (tys' := []) [] rfl
  have hFc := va_free (wc := [(q27, .inr (2, [.long 0, .long 0]))]) hD hS hA [8] rfl
  refine va_callv (va_runI (As := []) (rest := [.ref q27, .ref ad0]) ⟨hx, hb, hml, hown, hts⟩ (ct_X2_init l dC dI q27 H.size) (cwI 0 hts gX9_init_X2_init rfl rfl rfl (hts _ kk_X9_init_19) (hts _ kk_X9_init_20) (hts _ kk_X9_init_21) rfl (by decide +kernel) ⟨Nat.le_of_ble_eq_true rfl, Nat.le_of_ble_eq_true rfl⟩) ⟨fun a U g mk q => by obtain ⟨q0, q1, qP, qK, qD⟩ := q; exact ⟨q0, q1, qP, va_K.moved (u := U) (U := U.calling g mk a) (Vm.Alike.refl U.vm) qK, qD⟩, fun U hU hW => ⟨rfl, by rw [hU], by rw [hU]; exact hPc, va_K.moved hW.alike hKc, hDc.weaken (fun _ _ _ _ => trivial)⟩⟩ rfl rfl hl.1 rfl (lv_room (Nat.le_of_ble_eq_true rfl)) dX9_init_49 ⟨Nat.le_of_ble_eq_true rfl, Nat.le_of_ble_eq_true rfl⟩) hS (fun q _ h => hFc q h) hFc (fun u t H1 locs ht hvm hw hB hz1 hk1 hS => ?_)
  obtain ⟨hP1, hK1, hD1⟩ := hB
  rw [ht] at hP1
  have hK1 := va_K.moved hvm.symm hK1
  obtain ⟨hP, hD⟩ := va_join (wr := [(ad0, .inr (9, [.ref q1, .ref q15, .ref q23, .ref q25, .null, .null, .null, .null, .int 0, .null, .null, .null, .null, .null])), (q1, .inr (7, [.int 0, .int 0, .int (-1), .ref q3, .ref q4, .int 0, .int 0, .int 0, .int 0, .ref q5, .ref q6, .int 0, .int 0, .int 0])), (q3, .inr (3, [.int 0, .int 0, .int 10, .int 0, .int 0, .int 1, .ref q7, .ref q8, .ref q9, .ref q10, .ref q11])), (q10, .inl (cA12, 3, .inl (lf [1, 0, 0]))), (q4, .inl (cA13, 900, .inl f14)), (q15, .inr (3, [.int 0, .int 0, .int 10, .int 0, .int 0, .int 1, .ref q17, .ref q18, .ref q19, .ref q20, .ref q21])), (q20, .inl (cA22, 3, .inl (lf [1, 0, 0]))), (q25, .inr (2, [.long (-2000000000), .long 0]))]) (w1 := [(q27, .inr (2, [.long (-2000000000), .long 0]))]) hP hD [8] [0, 1, 2, 3, 4, 5, 6, 7] rfl rfl (by decide) (by decide) hk1 hFc hP1 hD1
  have hK := (hK.sub (tys' := [(cA12, .int), (cA13, .byte), (cA22, .int)]) [0, 1, 2] rfl).app hK1
  clear hPc hDc hKc hFc hP1 hD1 hK1 hk1 hz1
  generalize H1 = H at hP hS ⊢
  have hP : va_P (dC, dI) vwCl [(ad0, .inr (9, [.ref q1, .ref q15, .ref q23, .ref q25, .null, .null, .null, .null, .int 0, .null, .null, .null, .null, .null])), (q1, .inr (7, [.int 0, .int 0, .int (-1), .ref q3, .ref q4, .int 0, .int 0, .int 0, .int 0, .ref q5, .ref q6, .int 0, .int 0, .int 0])), (q3, .inr (3, [.int 0, .int 0, .int 10, .int 0, .int 0, .int 1, .ref q7, .ref q8, .ref q9, .ref q10, .ref q11])), (q10, .inl (cA12, 3, .inl (lf [1, 0, 0]))), (q4, .inl (cA13, 900, .inl f14)), (q15, .inr (3, [.int 0, .int 0, .int 10, .int 0, .int 0, .int 1, .ref q17, .ref q18, .ref q19, .ref q20, .ref q21])), (q20, .inl (cA22, 3, .inl (lf [1, 0, 0]))), (q25, .inr (2, [.long (-2000000000), .long 0])), (q27, .inr (2, [.long (-2000000000), .long 0]))] H := hP
  have hD : va_D A [(ad0, .inr (9, [.ref q1, .ref q15, .ref q23, .ref q25, .null, .null, .null, .null, .int 0, .null, .null, .null, .null, .null])), (q1, .inr (7, [.int 0, .int 0, .int (-1), .ref q3, .ref q4, .int 0, .int 0, .int 0, .int 0, .ref q5, .ref q6, .int 0, .int 0, .int 0])), (q3, .inr (3, [.int 0, .int 0, .int 10, .int 0, .int 0, .int 1, .ref q7, .ref q8, .ref q9, .ref q10, .ref q11])), (q10, .inl (cA12, 3, .inl (lf [1, 0, 0]))), (q4, .inl (cA13, 900, .inl f14)), (q15, .inr (3, [.int 0, .int 0, .int 10, .int 0, .int 0, .int 1, .ref q17, .ref q18, .ref q19, .ref q20, .ref q21])), (q20, .inl (cA22, 3, .inl (lf [1, 0, 0]))), (q25, .inr (2, [.long (-2000000000), .long 0])), (q27, .inr (2, [.long (-2000000000), .long 0]))] := hD
  have hK : va_K (dC, dI) vwCl [(cA12, .int), (cA13, .byte), (cA22, .int)] s := hK
  refine W.widen (k := 29) (n := 1032) (by decide) (by decide) ?_
  refine va_putF (D := (dC, dI)) (ci := 9) (v := .ref q27) (ty := (.object "PaidBySigns$Fraction")) (C := RX9) (T := TX9) (N := 14) hx hb hts iw_X9_init_X9 tyX9 tyX9_ok nmX9 hown hK hP hD hS 0 rfl rfl 4 (by decide) (hts _ kk_X9_init_23) (fun _ h9 => h9) rfl hin rfl (by decide +kernel) rfl rfl (Nat.le_of_ble_eq_true rfl) dX9_init_52 (fun H locs hP hD hS => ?_)
  have hP : va_P (dC, dI) vwCl [(ad0, .inr (9, [.ref q1, .ref q15, .ref q23, .ref q25, .ref q27, .null, .null, .null, .int 0, .null, .null, .null, .null, .null])), (q1, .inr (7, [.int 0, .int 0, .int (-1), .ref q3, .ref q4, .int 0, .int 0, .int 0, .int 0, .ref q5, .ref q6, .int 0, .int 0, .int 0])), (q3, .inr (3, [.int 0, .int 0, .int 10, .int 0, .int 0, .int 1, .ref q7, .ref q8, .ref q9, .ref q10, .ref q11])), (q10, .inl (cA12, 3, .inl (lf [1, 0, 0]))), (q4, .inl (cA13, 900, .inl f14)), (q15, .inr (3, [.int 0, .int 0, .int 10, .int 0, .int 0, .int 1, .ref q17, .ref q18, .ref q19, .ref q20, .ref q21])), (q20, .inl (cA22, 3, .inl (lf [1, 0, 0]))), (q25, .inr (2, [.long (-2000000000), .long 0])), (q27, .inr (2, [.long (-2000000000), .long 0]))] H := hP
  have hD : va_D A [(ad0, .inr (9, [.ref q1, .ref q15, .ref q23, .ref q25, .ref q27, .null, .null, .null, .int 0, .null, .null, .null, .null, .null])), (q1, .inr (7, [.int 0, .int 0, .int (-1), .ref q3, .ref q4, .int 0, .int 0, .int 0, .int 0, .ref q5, .ref q6, .int 0, .int 0, .int 0])), (q3, .inr (3, [.int 0, .int 0, .int 10, .int 0, .int 0, .int 1, .ref q7, .ref q8, .ref q9, .ref q10, .ref q11])), (q10, .inl (cA12, 3, .inl (lf [1, 0, 0]))), (q4, .inl (cA13, 900, .inl f14)), (q15, .inr (3, [.int 0, .int 0, .int 10, .int 0, .int 0, .int 1, .ref q17, .ref q18, .ref q19, .ref q20, .ref q21])), (q20, .inl (cA22, 3, .inl (lf [1, 0, 0]))), (q25, .inr (2, [.long (-2000000000), .long 0])), (q27, .inr (2, [.long (-2000000000), .long 0]))] := hD
  refine lv_aload_n hx hb dX9_init_55 rfl (lv_at hl 0 rfl) ?_
  refine va_new (ci := 2) (fs := [.long 0, .long 0]) (C := RX2) (T := TX2) (N := 2) hx hb hts iw_X9_init_X2 tyX2 tyX2_ok hown (hts _ kk_X9_init_17) (hts _ kk_X9_init_18) (hts _ kk_X9_init_19) hK hP hD hS hA rfl (by decide) (Nat.le_of_ble_eq_true rfl) (Nat.le_of_ble_eq_true rfl) dX9_init_56 (fun q29 H hP hD hS => ?_)
  have hP : va_P (dC, dI) vwCl [(ad0, .inr (9, [.ref q1, .ref q15, .ref q23, .ref q25, .ref q27, .null, .null, .null, .int 0, .null, .null, .null, .null, .null])), (q1, .inr (7, [.int 0, .int 0, .int (-1), .ref q3, .ref q4, .int 0, .int 0, .int 0, .int 0, .ref q5, .ref q6, .int 0, .int 0, .int 0])), (q3, .inr (3, [.int 0, .int 0, .int 10, .int 0, .int 0, .int 1, .ref q7, .ref q8, .ref q9, .ref q10, .ref q11])), (q10, .inl (cA12, 3, .inl (lf [1, 0, 0]))), (q4, .inl (cA13, 900, .inl f14)), (q15, .inr (3, [.int 0, .int 0, .int 10, .int 0, .int 0, .int 1, .ref q17, .ref q18, .ref q19, .ref q20, .ref q21])), (q20, .inl (cA22, 3, .inl (lf [1, 0, 0]))), (q25, .inr (2, [.long (-2000000000), .long 0])), (q27, .inr (2, [.long (-2000000000), .long 0])), (q29, .inr (2, [.long 0, .long 0]))] H := hP
  have hD : va_D A [(ad0, .inr (9, [.ref q1, .ref q15, .ref q23, .ref q25, .ref q27, .null, .null, .null, .int 0, .null, .null, .null, .null, .null])), (q1, .inr (7, [.int 0, .int 0, .int (-1), .ref q3, .ref q4, .int 0, .int 0, .int 0, .int 0, .ref q5, .ref q6, .int 0, .int 0, .int 0])), (q3, .inr (3, [.int 0, .int 0, .int 10, .int 0, .int 0, .int 1, .ref q7, .ref q8, .ref q9, .ref q10, .ref q11])), (q10, .inl (cA12, 3, .inl (lf [1, 0, 0]))), (q4, .inl (cA13, 900, .inl f14)), (q15, .inr (3, [.int 0, .int 0, .int 10, .int 0, .int 0, .int 1, .ref q17, .ref q18, .ref q19, .ref q20, .ref q21])), (q20, .inl (cA22, 3, .inl (lf [1, 0, 0]))), (q25, .inr (2, [.long (-2000000000), .long 0])), (q27, .inr (2, [.long (-2000000000), .long 0])), (q29, .inr (2, [.long 0, .long 0]))] := hD
  refine W.widen (k := 30) (n := 1034) (by decide) (by decide) ?_
  refine lv_dup hx hb dX9_init_59 rfl ?_
  have hPc := hP.sub (ws' := [(q29, .inr (2, [.long 0, .long 0]))]) [9] rfl
  have hDc := hD.sub (ws' := [(q29, .inr (2, [.long 0, .long 0]))]) [9] (by decide) rfl
  have hKc := hK.sub (tys' := []) [] rfl
  have hFc := va_free (wc := [(q29, .inr (2, [.long 0, .long 0]))]) hD hS hA [9] rfl
  refine va_callv (va_runI (As := []) (rest := [.ref q29, .ref ad0]) ⟨hx, hb, hml, hown, hts⟩ (ct_X2_init l dC dI q29 H.size) (cwI 0 hts gX9_init_X2_init rfl rfl rfl (hts _ kk_X9_init_19) (hts _ kk_X9_init_20) (hts _ kk_X9_init_21) rfl (by decide +kernel) ⟨Nat.le_of_ble_eq_true rfl, Nat.le_of_ble_eq_true rfl⟩) ⟨fun a U g mk q => by obtain ⟨q0, q1, qP, qK, qD⟩ := q; exact ⟨q0, q1, qP, va_K.moved (u := U) (U := U.calling g mk a) (Vm.Alike.refl U.vm) qK, qD⟩, fun U hU hW => ⟨rfl, by rw [hU], by rw [hU]; exact hPc, va_K.moved hW.alike hKc, hDc.weaken (fun _ _ _ _ => trivial)⟩⟩ rfl rfl hl.1 rfl (lv_room (Nat.le_of_ble_eq_true rfl)) dX9_init_60 ⟨Nat.le_of_ble_eq_true rfl, Nat.le_of_ble_eq_true rfl⟩) hS (fun q _ h => hFc q h) hFc (fun u t H1 locs ht hvm hw hB hz1 hk1 hS => ?_)
  obtain ⟨hP1, hK1, hD1⟩ := hB
  rw [ht] at hP1
  have hK1 := va_K.moved hvm.symm hK1
  obtain ⟨hP, hD⟩ := va_join (wr := [(ad0, .inr (9, [.ref q1, .ref q15, .ref q23, .ref q25, .ref q27, .null, .null, .null, .int 0, .null, .null, .null, .null, .null])), (q1, .inr (7, [.int 0, .int 0, .int (-1), .ref q3, .ref q4, .int 0, .int 0, .int 0, .int 0, .ref q5, .ref q6, .int 0, .int 0, .int 0])), (q3, .inr (3, [.int 0, .int 0, .int 10, .int 0, .int 0, .int 1, .ref q7, .ref q8, .ref q9, .ref q10, .ref q11])), (q10, .inl (cA12, 3, .inl (lf [1, 0, 0]))), (q4, .inl (cA13, 900, .inl f14)), (q15, .inr (3, [.int 0, .int 0, .int 10, .int 0, .int 0, .int 1, .ref q17, .ref q18, .ref q19, .ref q20, .ref q21])), (q20, .inl (cA22, 3, .inl (lf [1, 0, 0]))), (q25, .inr (2, [.long (-2000000000), .long 0])), (q27, .inr (2, [.long (-2000000000), .long 0]))]) (w1 := [(q29, .inr (2, [.long (-2000000000), .long 0]))]) hP hD [9] [0, 1, 2, 3, 4, 5, 6, 7, 8] rfl rfl (by decide) (by decide) hk1 hFc hP1 hD1
  have hK := (hK.sub (tys' := [(cA12, .int), (cA13, .byte), (cA22, .int)]) [0, 1, 2] rfl).app hK1
  clear hPc hDc hKc hFc hP1 hD1 hK1 hk1 hz1
  generalize H1 = H at hP hS ⊢
  have hP : va_P (dC, dI) vwCl [(ad0, .inr (9, [.ref q1, .ref q15, .ref q23, .ref q25, .ref q27, .null, .null, .null, .int 0, .null, .null, .null, .null, .null])), (q1, .inr (7, [.int 0, .int 0, .int (-1), .ref q3, .ref q4, .int 0, .int 0, .int 0, .int 0, .ref q5, .ref q6, .int 0, .int 0, .int 0])), (q3, .inr (3, [.int 0, .int 0, .int 10, .int 0, .int 0, .int 1, .ref q7, .ref q8, .ref q9, .ref q10, .ref q11])), (q10, .inl (cA12, 3, .inl (lf [1, 0, 0]))), (q4, .inl (cA13, 900, .inl f14)), (q15, .inr (3, [.int 0, .int 0, .int 10, .int 0, .int 0, .int 1, .ref q17, .ref q18, .ref q19, .ref q20, .ref q21])), (q20, .inl (cA22, 3, .inl (lf [1, 0, 0]))), (q25, .inr (2, [.long (-2000000000), .long 0])), (q27, .inr (2, [.long (-2000000000), .long 0])), (q29, .inr (2, [.long (-2000000000), .long 0]))] H := hP
  have hD : va_D A [(ad0, .inr (9, [.ref q1, .ref q15, .ref q23, .ref q25, .ref q27, .null, .null, .null, .int 0, .null, .null, .null, .null, .null])), (q1, .inr (7, [.int 0, .int 0, .int (-1), .ref q3, .ref q4, .int 0, .int 0, .int 0, .int 0, .ref q5, .ref q6, .int 0, .int 0, .int 0])), (q3, .inr (3, [.int 0, .int 0, .int 10, .int 0, .int 0, .int 1, .ref q7, .ref q8, .ref q9, .ref q10, .ref q11])), (q10, .inl (cA12, 3, .inl (lf [1, 0, 0]))), (q4, .inl (cA13, 900, .inl f14)), (q15, .inr (3, [.int 0, .int 0, .int 10, .int 0, .int 0, .int 1, .ref q17, .ref q18, .ref q19, .ref q20, .ref q21])), (q20, .inl (cA22, 3, .inl (lf [1, 0, 0]))), (q25, .inr (2, [.long (-2000000000), .long 0])), (q27, .inr (2, [.long (-2000000000), .long 0])), (q29, .inr (2, [.long (-2000000000), .long 0]))] := hD
  have hK : va_K (dC, dI) vwCl [(cA12, .int), (cA13, .byte), (cA22, .int)] s := hK
  refine W.widen (k := 30) (n := 1034) (by decide) (by decide) ?_
  refine va_putF (D := (dC, dI)) (ci := 9) (v := .ref q29) (ty := (.object "PaidBySigns$Fraction")) (C := RX9) (T := TX9) (N := 14) hx hb hts iw_X9_init_X9 tyX9 tyX9_ok nmX9 hown hK hP hD hS 0 rfl rfl 5 (by decide) (hts _ kk_X9_init_24) (fun _ h9 => h9) rfl hin rfl (by decide +kernel) rfl rfl (Nat.le_of_ble_eq_true rfl) dX9_init_63 (fun H locs hP hD hS => ?_)
  have hP : va_P (dC, dI) vwCl [(ad0, .inr (9, [.ref q1, .ref q15, .ref q23, .ref q25, .ref q27, .ref q29, .null, .null, .int 0, .null, .null, .null, .null, .null])), (q1, .inr (7, [.int 0, .int 0, .int (-1), .ref q3, .ref q4, .int 0, .int 0, .int 0, .int 0, .ref q5, .ref q6, .int 0, .int 0, .int 0])), (q3, .inr (3, [.int 0, .int 0, .int 10, .int 0, .int 0, .int 1, .ref q7, .ref q8, .ref q9, .ref q10, .ref q11])), (q10, .inl (cA12, 3, .inl (lf [1, 0, 0]))), (q4, .inl (cA13, 900, .inl f14)), (q15, .inr (3, [.int 0, .int 0, .int 10, .int 0, .int 0, .int 1, .ref q17, .ref q18, .ref q19, .ref q20, .ref q21])), (q20, .inl (cA22, 3, .inl (lf [1, 0, 0]))), (q25, .inr (2, [.long (-2000000000), .long 0])), (q27, .inr (2, [.long (-2000000000), .long 0])), (q29, .inr (2, [.long (-2000000000), .long 0]))] H := hP
  have hD : va_D A [(ad0, .inr (9, [.ref q1, .ref q15, .ref q23, .ref q25, .ref q27, .ref q29, .null, .null, .int 0, .null, .null, .null, .null, .null])), (q1, .inr (7, [.int 0, .int 0, .int (-1), .ref q3, .ref q4, .int 0, .int 0, .int 0, .int 0, .ref q5, .ref q6, .int 0, .int 0, .int 0])), (q3, .inr (3, [.int 0, .int 0, .int 10, .int 0, .int 0, .int 1, .ref q7, .ref q8, .ref q9, .ref q10, .ref q11])), (q10, .inl (cA12, 3, .inl (lf [1, 0, 0]))), (q4, .inl (cA13, 900, .inl f14)), (q15, .inr (3, [.int 0, .int 0, .int 10, .int 0, .int 0, .int 1, .ref q17, .ref q18, .ref q19, .ref q20, .ref q21])), (q20, .inl (cA22, 3, .inl (lf [1, 0, 0]))), (q25, .inr (2, [.long (-2000000000), .long 0])), (q27, .inr (2, [.long (-2000000000), .long 0])), (q29, .inr (2, [.long (-2000000000), .long 0]))] := hD
  refine lv_aload_n hx hb dX9_init_66 rfl (lv_at hl 0 rfl) ?_
  refine lv_iconst (v := 4) hx hb dX9_init_67 (by decide) ?_
  refine va_newa (atype := .long) (ty := .long) (N' := 4) (a0 := (4, .inr (.inl (fun _ => 0)))) hx hb (hts _ kk_X9_init_25) rfl hK hP hD hS hA (fun _ => rfl) (by decide) (by decide) (by decide) (Nat.le_of_ble_eq_true rfl) (Nat.le_of_ble_eq_true rfl) dX9_init_68 (fun q31 cA32 H hK hP hD hS => ?_)
  refine W.widen (k := 31) (n := 1038) (by decide) (by decide) ?_
  have hP : va_P (dC, dI) vwCl [(ad0, .inr (9, [.ref q1, .ref q15, .ref q23, .ref q25, .ref q27, .ref q29, .null, .null, .int 0, .null, .null, .null, .null, .null])), (q1, .inr (7, [.int 0, .int 0, .int (-1), .ref q3, .ref q4, .int 0, .int 0, .int 0, .int 0, .ref q5, .ref q6, .int 0, .int 0, .int 0])), (q3, .inr (3, [.int 0, .int 0, .int 10, .int 0, .int 0, .int 1, .ref q7, .ref q8, .ref q9, .ref q10, .ref q11])), (q10, .inl (cA12, 3, .inl (lf [1, 0, 0]))), (q4, .inl (cA13, 900, .inl f14)), (q15, .inr (3, [.int 0, .int 0, .int 10, .int 0, .int 0, .int 1, .ref q17, .ref q18, .ref q19, .ref q20, .ref q21])), (q20, .inl (cA22, 3, .inl (lf [1, 0, 0]))), (q25, .inr (2, [.long (-2000000000), .long 0])), (q27, .inr (2, [.long (-2000000000), .long 0])), (q29, .inr (2, [.long (-2000000000), .long 0]))] H := hP.sub [0, 1, 2, 3, 4, 5, 6, 7, 8, 9] rfl
  have hD : va_D A [(ad0, .inr (9, [.ref q1, .ref q15, .ref q23, .ref q25, .ref q27, .ref q29, .null, .null, .int 0, .null, .null, .null, .null, .null])), (q1, .inr (7, [.int 0, .int 0, .int (-1), .ref q3, .ref q4, .int 0, .int 0, .int 0, .int 0, .ref q5, .ref q6, .int 0, .int 0, .int 0])), (q3, .inr (3, [.int 0, .int 0, .int 10, .int 0, .int 0, .int 1, .ref q7, .ref q8, .ref q9, .ref q10, .ref q11])), (q10, .inl (cA12, 3, .inl (lf [1, 0, 0]))), (q4, .inl (cA13, 900, .inl f14)), (q15, .inr (3, [.int 0, .int 0, .int 10, .int 0, .int 0, .int 1, .ref q17, .ref q18, .ref q19, .ref q20, .ref q21])), (q20, .inl (cA22, 3, .inl (lf [1, 0, 0]))), (q25, .inr (2, [.long (-2000000000), .long 0])), (q27, .inr (2, [.long (-2000000000), .long 0])), (q29, .inr (2, [.long (-2000000000), .long 0]))] := hD.sub [0, 1, 2, 3, 4, 5, 6, 7, 8, 9] (by decide) rfl
  have hK : va_K (dC, dI) vwCl [(cA12, .int), (cA13, .byte), (cA22, .int)] s := hK.sub [0, 1, 2] rfl
  refine va_putF (D := (dC, dI)) (ci := 9) (v := .ref q31) (ty := (.array .long)) (C := RX9) (T := TX9) (N := 14) hx hb hts iw_X9_init_X9 tyX9 tyX9_ok nmX9 hown hK hP hD hS 0 rfl rfl 6 (by decide) (hts _ kk_X9_init_26) (fun _ h9 => h9) rfl hin rfl (by decide +kernel) rfl rfl (Nat.le_of_ble_eq_true rfl) dX9_init_70 (fun H locs hP hD hS => ?_)
  have hP : va_P (dC, dI) vwCl [(ad0, .inr (9, [.ref q1, .ref q15, .ref q23, .ref q25, .ref q27, .ref q29, .ref q31, .null, .int 0, .null, .null, .null, .null, .null])), (q1, .inr (7, [.int 0, .int 0, .int (-1), .ref q3, .ref q4, .int 0, .int 0, .int 0, .int 0, .ref q5, .ref q6, .int 0, .int 0, .int 0])), (q3, .inr (3, [.int 0, .int 0, .int 10, .int 0, .int 0, .int 1, .ref q7, .ref q8, .ref q9, .ref q10, .ref q11])), (q10, .inl (cA12, 3, .inl (lf [1, 0, 0]))), (q4, .inl (cA13, 900, .inl f14)), (q15, .inr (3, [.int 0, .int 0, .int 10, .int 0, .int 0, .int 1, .ref q17, .ref q18, .ref q19, .ref q20, .ref q21])), (q20, .inl (cA22, 3, .inl (lf [1, 0, 0]))), (q25, .inr (2, [.long (-2000000000), .long 0])), (q27, .inr (2, [.long (-2000000000), .long 0])), (q29, .inr (2, [.long (-2000000000), .long 0]))] H := hP
  have hD : va_D A [(ad0, .inr (9, [.ref q1, .ref q15, .ref q23, .ref q25, .ref q27, .ref q29, .ref q31, .null, .int 0, .null, .null, .null, .null, .null])), (q1, .inr (7, [.int 0, .int 0, .int (-1), .ref q3, .ref q4, .int 0, .int 0, .int 0, .int 0, .ref q5, .ref q6, .int 0, .int 0, .int 0])), (q3, .inr (3, [.int 0, .int 0, .int 10, .int 0, .int 0, .int 1, .ref q7, .ref q8, .ref q9, .ref q10, .ref q11])), (q10, .inl (cA12, 3, .inl (lf [1, 0, 0]))), (q4, .inl (cA13, 900, .inl f14)), (q15, .inr (3, [.int 0, .int 0, .int 10, .int 0, .int 0, .int 1, .ref q17, .ref q18, .ref q19, .ref q20, .ref q21])), (q20, .inl (cA22, 3, .inl (lf [1, 0, 0]))), (q25, .inr (2, [.long (-2000000000), .long 0])), (q27, .inr (2, [.long (-2000000000), .long 0])), (q29, .inr (2, [.long (-2000000000), .long 0]))] := hD
  refine lv_aload_n hx hb dX9_init_73 rfl (lv_at hl 0 rfl) ?_
  refine lv_iconst (v := 4) hx hb dX9_init_74 (by decide) ?_
  refine va_newa (atype := .long) (ty := .long) (N' := 4) (a0 := (4, .inr (.inl (fun _ => 0)))) hx hb (hts _ kk_X9_init_25) rfl hK hP hD hS hA (fun _ => rfl) (by decide) (by decide) (by decide) (Nat.le_of_ble_eq_true rfl) (Nat.le_of_ble_eq_true rfl) dX9_init_75 (fun q33 cA34 H hK hP hD hS => ?_)
  refine W.widen (k := 32) (n := 1042) (by decide) (by decide) ?_
  have hP : va_P (dC, dI) vwCl [(ad0, .inr (9, [.ref q1, .ref q15, .ref q23, .ref q25, .ref q27, .ref q29, .ref q31, .null, .int 0, .null, .null, .null, .null, .null])), (q1, .inr (7, [.int 0, .int 0, .int (-1), .ref q3, .ref q4, .int 0, .int 0, .int 0, .int 0, .ref q5, .ref q6, .int 0, .int 0, .int 0])), (q3, .inr (3, [.int 0, .int 0, .int 10, .int 0, .int 0, .int 1, .ref q7, .ref q8, .ref q9, .ref q10, .ref q11])), (q10, .inl (cA12, 3, .inl (lf [1, 0, 0]))), (q4, .inl (cA13, 900, .inl f14)), (q15, .inr (3, [.int 0, .int 0, .int 10, .int 0, .int 0, .int 1, .ref q17, .ref q18, .ref q19, .ref q20, .ref q21])), (q20, .inl (cA22, 3, .inl (lf [1, 0, 0]))), (q25, .inr (2, [.long (-2000000000), .long 0])), (q27, .inr (2, [.long (-2000000000), .long 0])), (q29, .inr (2, [.long (-2000000000), .long 0]))] H := hP.sub [0, 1, 2, 3, 4, 5, 6, 7, 8, 9] rfl
  have hD : va_D A [(ad0, .inr (9, [.ref q1, .ref q15, .ref q23, .ref q25, .ref q27, .ref q29, .ref q31, .null, .int 0, .null, .null, .null, .null, .null])), (q1, .inr (7, [.int 0, .int 0, .int (-1), .ref q3, .ref q4, .int 0, .int 0, .int 0, .int 0, .ref q5, .ref q6, .int 0, .int 0, .int 0])), (q3, .inr (3, [.int 0, .int 0, .int 10, .int 0, .int 0, .int 1, .ref q7, .ref q8, .ref q9, .ref q10, .ref q11])), (q10, .inl (cA12, 3, .inl (lf [1, 0, 0]))), (q4, .inl (cA13, 900, .inl f14)), (q15, .inr (3, [.int 0, .int 0, .int 10, .int 0, .int 0, .int 1, .ref q17, .ref q18, .ref q19, .ref q20, .ref q21])), (q20, .inl (cA22, 3, .inl (lf [1, 0, 0]))), (q25, .inr (2, [.long (-2000000000), .long 0])), (q27, .inr (2, [.long (-2000000000), .long 0])), (q29, .inr (2, [.long (-2000000000), .long 0]))] := hD.sub [0, 1, 2, 3, 4, 5, 6, 7, 8, 9] (by decide) rfl
  have hK : va_K (dC, dI) vwCl [(cA12, .int), (cA13, .byte), (cA22, .int)] s := hK.sub [0, 1, 2] rfl
  refine va_putF (D := (dC, dI)) (ci := 9) (v := .ref q33) (ty := (.array .long)) (C := RX9) (T := TX9) (N := 14) hx hb hts iw_X9_init_X9 tyX9 tyX9_ok nmX9 hown hK hP hD hS 0 rfl rfl 7 (by decide) (hts _ kk_X9_init_27) (fun _ h9 => h9) rfl hin rfl (by decide +kernel) rfl rfl (Nat.le_of_ble_eq_true rfl) dX9_init_77 (fun H locs hP hD hS => ?_)
  have hP : va_P (dC, dI) vwCl [(ad0, .inr (9, [.ref q1, .ref q15, .ref q23, .ref q25, .ref q27, .ref q29, .ref q31, .ref q33, .int 0, .null, .null, .null, .null, .null])), (q1, .inr (7, [.int 0, .int 0, .int (-1), .ref q3, .ref q4, .int 0, .int 0, .int 0, .int 0, .ref q5, .ref q6, .int 0, .int 0, .int 0])), (q3, .inr (3, [.int 0, .int 0, .int 10, .int 0, .int 0, .int 1, .ref q7, .ref q8, .ref q9, .ref q10, .ref q11])), (q10, .inl (cA12, 3, .inl (lf [1, 0, 0]))), (q4, .inl (cA13, 900, .inl f14)), (q15, .inr (3, [.int 0, .int 0, .int 10, .int 0, .int 0, .int 1, .ref q17, .ref q18, .ref q19, .ref q20, .ref q21])), (q20, .inl (cA22, 3, .inl (lf [1, 0, 0]))), (q25, .inr (2, [.long (-2000000000), .long 0])), (q27, .inr (2, [.long (-2000000000), .long 0])), (q29, .inr (2, [.long (-2000000000), .long 0]))] H := hP
  have hD : va_D A [(ad0, .inr (9, [.ref q1, .ref q15, .ref q23, .ref q25, .ref q27, .ref q29, .ref q31, .ref q33, .int 0, .null, .null, .null, .null, .null])), (q1, .inr (7, [.int 0, .int 0, .int (-1), .ref q3, .ref q4, .int 0, .int 0, .int 0, .int 0, .ref q5, .ref q6, .int 0, .int 0, .int 0])), (q3, .inr (3, [.int 0, .int 0, .int 10, .int 0, .int 0, .int 1, .ref q7, .ref q8, .ref q9, .ref q10, .ref q11])), (q10, .inl (cA12, 3, .inl (lf [1, 0, 0]))), (q4, .inl (cA13, 900, .inl f14)), (q15, .inr (3, [.int 0, .int 0, .int 10, .int 0, .int 0, .int 1, .ref q17, .ref q18, .ref q19, .ref q20, .ref q21])), (q20, .inl (cA22, 3, .inl (lf [1, 0, 0]))), (q25, .inr (2, [.long (-2000000000), .long 0])), (q27, .inr (2, [.long (-2000000000), .long 0])), (q29, .inr (2, [.long (-2000000000), .long 0]))] := hD
  refine lv_aload_n hx hb dX9_init_80 rfl (lv_at hl 0 rfl) ?_
  refine lv_iconst (v := 0) hx hb dX9_init_81 (by decide) ?_
  refine va_put (D := (dC, dI)) (ci := 9) (v := .int 0) (ty := .boolean) (C := RX9) (T := TX9) (N := 14) hx hb hts iw_X9_init_X9 tyX9 tyX9_ok nmX9 hown hK hP hD hS 0 rfl rfl 8 (by decide) (hts _ kk_X9_init_28) (fun _ h9 => h9) rfl (by decide +kernel) rfl rfl (Nat.le_of_ble_eq_true rfl) dX9_init_82 (fun H locs hP hD hS => ?_)
  have hP : va_P (dC, dI) vwCl [(ad0, .inr (9, [.ref q1, .ref q15, .ref q23, .ref q25, .ref q27, .ref q29, .ref q31, .ref q33, .int 0, .null, .null, .null, .null, .null])), (q1, .inr (7, [.int 0, .int 0, .int (-1), .ref q3, .ref q4, .int 0, .int 0, .int 0, .int 0, .ref q5, .ref q6, .int 0, .int 0, .int 0])), (q3, .inr (3, [.int 0, .int 0, .int 10, .int 0, .int 0, .int 1, .ref q7, .ref q8, .ref q9, .ref q10, .ref q11])), (q10, .inl (cA12, 3, .inl (lf [1, 0, 0]))), (q4, .inl (cA13, 900, .inl f14)), (q15, .inr (3, [.int 0, .int 0, .int 10, .int 0, .int 0, .int 1, .ref q17, .ref q18, .ref q19, .ref q20, .ref q21])), (q20, .inl (cA22, 3, .inl (lf [1, 0, 0]))), (q25, .inr (2, [.long (-2000000000), .long 0])), (q27, .inr (2, [.long (-2000000000), .long 0])), (q29, .inr (2, [.long (-2000000000), .long 0]))] H := hP
  have hD : va_D A [(ad0, .inr (9, [.ref q1, .ref q15, .ref q23, .ref q25, .ref q27, .ref q29, .ref q31, .ref q33, .int 0, .null, .null, .null, .null, .null])), (q1, .inr (7, [.int 0, .int 0, .int (-1), .ref q3, .ref q4, .int 0, .int 0, .int 0, .int 0, .ref q5, .ref q6, .int 0, .int 0, .int 0])), (q3, .inr (3, [.int 0, .int 0, .int 10, .int 0, .int 0, .int 1, .ref q7, .ref q8, .ref q9, .ref q10, .ref q11])), (q10, .inl (cA12, 3, .inl (lf [1, 0, 0]))), (q4, .inl (cA13, 900, .inl f14)), (q15, .inr (3, [.int 0, .int 0, .int 10, .int 0, .int 0, .int 1, .ref q17, .ref q18, .ref q19, .ref q20, .ref q21])), (q20, .inl (cA22, 3, .inl (lf [1, 0, 0]))), (q25, .inr (2, [.long (-2000000000), .long 0])), (q27, .inr (2, [.long (-2000000000), .long 0])), (q29, .inr (2, [.long (-2000000000), .long 0]))] := hD
  refine lv_aload_n hx hb dX9_init_85 rfl (lv_at hl 0 rfl) ?_
  refine va_new (ci := 4) (fs := [.null, .long 0, .null, .null, .null, .null, .int 0, .int 0, .null, .int 0, .int 0, .int 0]) (C := RX4) (T := TX4) (N := 12) hx hb hts iw_X9_init_X4 tyX4 tyX4_ok hown (hts _ kk_X9_init_29) (hts _ kk_X9_init_30) (hts _ kk_X9_init_31) hK hP hD hS hA rfl (by decide) (Nat.le_of_ble_eq_true rfl) (Nat.le_of_ble_eq_true rfl) dX9_init_86 (fun q35 H hP hD hS => ?_)
  have hP : va_P (dC, dI) vwCl [(ad0, .inr (9, [.ref q1, .ref q15, .ref q23, .ref q25, .ref q27, .ref q29, .ref q31, .ref q33, .int 0, .null, .null, .null, .null, .null])), (q1, .inr (7, [.int 0, .int 0, .int (-1), .ref q3, .ref q4, .int 0, .int 0, .int 0, .int 0, .ref q5, .ref q6, .int 0, .int 0, .int 0])), (q3, .inr (3, [.int 0, .int 0, .int 10, .int 0, .int 0, .int 1, .ref q7, .ref q8, .ref q9, .ref q10, .ref q11])), (q10, .inl (cA12, 3, .inl (lf [1, 0, 0]))), (q4, .inl (cA13, 900, .inl f14)), (q15, .inr (3, [.int 0, .int 0, .int 10, .int 0, .int 0, .int 1, .ref q17, .ref q18, .ref q19, .ref q20, .ref q21])), (q20, .inl (cA22, 3, .inl (lf [1, 0, 0]))), (q25, .inr (2, [.long (-2000000000), .long 0])), (q27, .inr (2, [.long (-2000000000), .long 0])), (q29, .inr (2, [.long (-2000000000), .long 0])), (q35, .inr (4, [.null, .long 0, .null, .null, .null, .null, .int 0, .int 0, .null, .int 0, .int 0, .int 0]))] H := hP
  have hD : va_D A [(ad0, .inr (9, [.ref q1, .ref q15, .ref q23, .ref q25, .ref q27, .ref q29, .ref q31, .ref q33, .int 0, .null, .null, .null, .null, .null])), (q1, .inr (7, [.int 0, .int 0, .int (-1), .ref q3, .ref q4, .int 0, .int 0, .int 0, .int 0, .ref q5, .ref q6, .int 0, .int 0, .int 0])), (q3, .inr (3, [.int 0, .int 0, .int 10, .int 0, .int 0, .int 1, .ref q7, .ref q8, .ref q9, .ref q10, .ref q11])), (q10, .inl (cA12, 3, .inl (lf [1, 0, 0]))), (q4, .inl (cA13, 900, .inl f14)), (q15, .inr (3, [.int 0, .int 0, .int 10, .int 0, .int 0, .int 1, .ref q17, .ref q18, .ref q19, .ref q20, .ref q21])), (q20, .inl (cA22, 3, .inl (lf [1, 0, 0]))), (q25, .inr (2, [.long (-2000000000), .long 0])), (q27, .inr (2, [.long (-2000000000), .long 0])), (q29, .inr (2, [.long (-2000000000), .long 0])), (q35, .inr (4, [.null, .long 0, .null, .null, .null, .null, .int 0, .int 0, .null, .int 0, .int 0, .int 0]))] := hD
  refine W.widen (k := 33) (n := 1054) (by decide) (by decide) ?_
  refine lv_dup hx hb dX9_init_89 rfl ?_
  have hPc := hP.sub (ws' := [(q35, .inr (4, [.null, .long 0, .null, .null, .null, .null, .int 0, .int 0, .null, .int 0, .int 0, .int 0]))]) [10] rfl
  have hDc := hD.sub (ws' := [(q35, .inr (4, [.null, .long 0, .null, .null, .null, .null, .int 0, .int 0, .null, .int 0, .int 0, .int 0]))]) [10] (by decide) rfl
  have hKc := hK.sub (tys' := []) [] rfl
  have hFc := va_free (wc := [(q35, .inr (4, [.null, .long 0, .null, .null, .null, .null, .int 0, .int 0, .null, .int 0, .int 0, .int 0]))]) hD hS hA [10] rfl
  refine va_callv (va_runI (As := []) (rest := [.ref q35, .ref ad0]) ⟨hx, hb, hml, hown, hts⟩ (ct_X4_init l dC dI q35 H.size) (cwI 0 hts gX9_init_X4_init rfl rfl rfl (hts _ kk_X9_init_31) (hts _ kk_X9_init_32) (hts _ kk_X9_init_33) rfl (by decide +kernel) ⟨Nat.le_of_ble_eq_true rfl, Nat.le_of_ble_eq_true rfl⟩) ⟨fun a U g mk q => by obtain ⟨q0, q1, qP, qK, qD, qF0, qF1⟩ := q; exact ⟨q0, q1, qP, va_K.moved (u := U) (U := U.calling g mk a) (Vm.Alike.refl U.vm) qK, qD, vq_AOA.moved (u := U) (U := U.calling g mk a) (Vm.Alike.refl U.vm) qF0, vq_AOA.moved (u := U) (U := U.calling g mk a) (Vm.Alike.refl U.vm) qF1⟩, fun U hU hW => ⟨rfl, by rw [hU], by rw [hU]; exact hPc, va_K.moved hW.alike hKc, hDc.weaken (fun _ _ _ _ => trivial), vq_AOA.moved hW.alike hF_0, vq_AOA.moved hW.alike hF_1⟩⟩ rfl rfl hl.1 rfl (lv_room (Nat.le_of_ble_eq_true rfl)) dX9_init_90 ⟨Nat.le_of_ble_eq_true rfl, Nat.le_of_ble_eq_true rfl⟩) hS (fun q _ h => hFc q h) hFc (fun u t H1 locs ht hvm hw hB hz1 hk1 hS => ?_)
  obtain ⟨hP1, hK1, hD1⟩ := hB
  rw [ht] at hP1
  have hK1 := va_K.moved hvm.symm hK1
  obtain ⟨hP, hD⟩ := va_join (wr := [(ad0, .inr (9, [.ref q1, .ref q15, .ref q23, .ref q25, .ref q27, .ref q29, .ref q31, .ref q33, .int 0, .null, .null, .null, .null, .null])), (q1, .inr (7, [.int 0, .int 0, .int (-1), .ref q3, .ref q4, .int 0, .int 0, .int 0, .int 0, .ref q5, .ref q6, .int 0, .int 0, .int 0])), (q3, .inr (3, [.int 0, .int 0, .int 10, .int 0, .int 0, .int 1, .ref q7, .ref q8, .ref q9, .ref q10, .ref q11])), (q10, .inl (cA12, 3, .inl (lf [1, 0, 0]))), (q4, .inl (cA13, 900, .inl f14)), (q15, .inr (3, [.int 0, .int 0, .int 10, .int 0, .int 0, .int 1, .ref q17, .ref q18, .ref q19, .ref q20, .ref q21])), (q20, .inl (cA22, 3, .inl (lf [1, 0, 0]))), (q25, .inr (2, [.long (-2000000000), .long 0])), (q27, .inr (2, [.long (-2000000000), .long 0])), (q29, .inr (2, [.long (-2000000000), .long 0]))]) (w1 := []) hP hD [10] [0, 1, 2, 3, 4, 5, 6, 7, 8, 9] rfl rfl (by decide) (by decide) hk1 hFc hP1 hD1
  have hK := (hK.sub (tys' := [(cA12, .int), (cA13, .byte), (cA22, .int)]) [0, 1, 2] rfl).app hK1
  clear hPc hDc hKc hFc hP1 hD1 hK1 hk1 hz1
  generalize H1 = H at hP hS ⊢
  have hP : va_P (dC, dI) vwCl [(ad0, .inr (9, [.ref q1, .ref q15, .ref q23, .ref q25, .ref q27, .ref q29, .ref q31, .ref q33, .int 0, .null, .null, .null, .null, .null])), (q1, .inr (7, [.int 0, .int 0, .int (-1), .ref q3, .ref q4, .int 0, .int 0, .int 0, .int 0, .ref q5, .ref q6, .int 0, .int 0, .int 0])), (q3, .inr (3, [.int 0, .int 0, .int 10, .int 0, .int 0, .int 1, .ref q7, .ref q8, .ref q9, .ref q10, .ref q11])), (q10, .inl (cA12, 3, .inl (lf [1, 0, 0]))), (q4, .inl (cA13, 900, .inl f14)), (q15, .inr (3, [.int 0, .int 0, .int 10, .int 0, .int 0, .int 1, .ref q17, .ref q18, .ref q19, .ref q20, .ref q21])), (q20, .inl (cA22, 3, .inl (lf [1, 0, 0]))), (q25, .inr (2, [.long (-2000000000), .long 0])), (q27, .inr (2, [.long (-2000000000), .long 0])), (q29, .inr (2, [.long (-2000000000), .long 0]))] H := hP
  have hD : va_D A [(ad0, .inr (9, [.ref q1, .ref q15, .ref q23, .ref q25, .ref q27, .ref q29, .ref q31, .ref q33, .int 0, .null, .null, .null, .null, .null])), (q1, .inr (7, [.int 0, .int 0, .int (-1), .ref q3, .ref q4, .int 0, .int 0, .int 0, .int 0, .ref q5, .ref q6, .int 0, .int 0, .int 0])), (q3, .inr (3, [.int 0, .int 0, .int 10, .int 0, .int 0, .int 1, .ref q7, .ref q8, .ref q9, .ref q10, .ref q11])), (q10, .inl (cA12, 3, .inl (lf [1, 0, 0]))), (q4, .inl (cA13, 900, .inl f14)), (q15, .inr (3, [.int 0, .int 0, .int 10, .int 0, .int 0, .int 1, .ref q17, .ref q18, .ref q19, .ref q20, .ref q21])), (q20, .inl (cA22, 3, .inl (lf [1, 0, 0]))), (q25, .inr (2, [.long (-2000000000), .long 0])), (q27, .inr (2, [.long (-2000000000), .long 0])), (q29, .inr (2, [.long (-2000000000), .long 0]))] := hD
  have hK : va_K (dC, dI) vwCl [(cA12, .int), (cA13, .byte), (cA22, .int)] s := hK
  refine W.widen (k := 70) (n := 1434) (by decide) (by decide) ?_
  refine va_putF (D := (dC, dI)) (ci := 9) (v := .ref q35) (ty := (.object "PaidBySigns$LeastCost")) (C := RX9) (T := TX9) (N := 14) hx hb hts iw_X9_init_X9 tyX9 tyX9_ok nmX9 hown hK hP hD hS 0 rfl rfl 9 (by decide) (hts _ kk_X9_init_34) (fun _ h9 => h9) rfl hin rfl (by decide +kernel) rfl rfl (Nat.le_of_ble_eq_true rfl) dX9_init_93 (fun H locs hP hD hS => ?_)
  have hP : va_P (dC, dI) vwCl [(ad0, .inr (9, [.ref q1, .ref q15, .ref q23, .ref q25, .ref q27, .ref q29, .ref q31, .ref q33, .int 0, .ref q35, .null, .null, .null, .null])), (q1, .inr (7, [.int 0, .int 0, .int (-1), .ref q3, .ref q4, .int 0, .int 0, .int 0, .int 0, .ref q5, .ref q6, .int 0, .int 0, .int 0])), (q3, .inr (3, [.int 0, .int 0, .int 10, .int 0, .int 0, .int 1, .ref q7, .ref q8, .ref q9, .ref q10, .ref q11])), (q10, .inl (cA12, 3, .inl (lf [1, 0, 0]))), (q4, .inl (cA13, 900, .inl f14)), (q15, .inr (3, [.int 0, .int 0, .int 10, .int 0, .int 0, .int 1, .ref q17, .ref q18, .ref q19, .ref q20, .ref q21])), (q20, .inl (cA22, 3, .inl (lf [1, 0, 0]))), (q25, .inr (2, [.long (-2000000000), .long 0])), (q27, .inr (2, [.long (-2000000000), .long 0])), (q29, .inr (2, [.long (-2000000000), .long 0]))] H := hP
  have hD : va_D A [(ad0, .inr (9, [.ref q1, .ref q15, .ref q23, .ref q25, .ref q27, .ref q29, .ref q31, .ref q33, .int 0, .ref q35, .null, .null, .null, .null])), (q1, .inr (7, [.int 0, .int 0, .int (-1), .ref q3, .ref q4, .int 0, .int 0, .int 0, .int 0, .ref q5, .ref q6, .int 0, .int 0, .int 0])), (q3, .inr (3, [.int 0, .int 0, .int 10, .int 0, .int 0, .int 1, .ref q7, .ref q8, .ref q9, .ref q10, .ref q11])), (q10, .inl (cA12, 3, .inl (lf [1, 0, 0]))), (q4, .inl (cA13, 900, .inl f14)), (q15, .inr (3, [.int 0, .int 0, .int 10, .int 0, .int 0, .int 1, .ref q17, .ref q18, .ref q19, .ref q20, .ref q21])), (q20, .inl (cA22, 3, .inl (lf [1, 0, 0]))), (q25, .inr (2, [.long (-2000000000), .long 0])), (q27, .inr (2, [.long (-2000000000), .long 0])), (q29, .inr (2, [.long (-2000000000), .long 0]))] := hD
  refine lv_aload_n hx hb dX9_init_96 rfl (lv_at hl 0 rfl) ?_
  refine va_new (ci := 5) (fs := [.long 0, .long 0, .long 0, .long 0, .int 0]) (C := RX5) (T := TX5) (N := 5) hx hb hts iw_X9_init_X5 tyX5 tyX5_ok hown (hts _ kk_X9_init_35) (hts _ kk_X9_init_36) (hts _ kk_X9_init_37) hK hP hD hS hA rfl (by decide) (Nat.le_of_ble_eq_true rfl) (Nat.le_of_ble_eq_true rfl) dX9_init_97 (fun q37 H hP hD hS => ?_)
  have hP : va_P (dC, dI) vwCl [(ad0, .inr (9, [.ref q1, .ref q15, .ref q23, .ref q25, .ref q27, .ref q29, .ref q31, .ref q33, .int 0, .ref q35, .null, .null, .null, .null])), (q1, .inr (7, [.int 0, .int 0, .int (-1), .ref q3, .ref q4, .int 0, .int 0, .int 0, .int 0, .ref q5, .ref q6, .int 0, .int 0, .int 0])), (q3, .inr (3, [.int 0, .int 0, .int 10, .int 0, .int 0, .int 1, .ref q7, .ref q8, .ref q9, .ref q10, .ref q11])), (q10, .inl (cA12, 3, .inl (lf [1, 0, 0]))), (q4, .inl (cA13, 900, .inl f14)), (q15, .inr (3, [.int 0, .int 0, .int 10, .int 0, .int 0, .int 1, .ref q17, .ref q18, .ref q19, .ref q20, .ref q21])), (q20, .inl (cA22, 3, .inl (lf [1, 0, 0]))), (q25, .inr (2, [.long (-2000000000), .long 0])), (q27, .inr (2, [.long (-2000000000), .long 0])), (q29, .inr (2, [.long (-2000000000), .long 0])), (q37, .inr (5, [.long 0, .long 0, .long 0, .long 0, .int 0]))] H := hP
  have hD : va_D A [(ad0, .inr (9, [.ref q1, .ref q15, .ref q23, .ref q25, .ref q27, .ref q29, .ref q31, .ref q33, .int 0, .ref q35, .null, .null, .null, .null])), (q1, .inr (7, [.int 0, .int 0, .int (-1), .ref q3, .ref q4, .int 0, .int 0, .int 0, .int 0, .ref q5, .ref q6, .int 0, .int 0, .int 0])), (q3, .inr (3, [.int 0, .int 0, .int 10, .int 0, .int 0, .int 1, .ref q7, .ref q8, .ref q9, .ref q10, .ref q11])), (q10, .inl (cA12, 3, .inl (lf [1, 0, 0]))), (q4, .inl (cA13, 900, .inl f14)), (q15, .inr (3, [.int 0, .int 0, .int 10, .int 0, .int 0, .int 1, .ref q17, .ref q18, .ref q19, .ref q20, .ref q21])), (q20, .inl (cA22, 3, .inl (lf [1, 0, 0]))), (q25, .inr (2, [.long (-2000000000), .long 0])), (q27, .inr (2, [.long (-2000000000), .long 0])), (q29, .inr (2, [.long (-2000000000), .long 0])), (q37, .inr (5, [.long 0, .long 0, .long 0, .long 0, .int 0]))] := hD
  refine W.widen (k := 71) (n := 1439) (by decide) (by decide) ?_
  refine lv_dup hx hb dX9_init_100 rfl ?_
  have hPc := hP.sub (ws' := [(q37, .inr (5, [.long 0, .long 0, .long 0, .long 0, .int 0]))]) [10] rfl
  have hDc := hD.sub (ws' := [(q37, .inr (5, [.long 0, .long 0, .long 0, .long 0, .int 0]))]) [10] (by decide) rfl
  have hKc := hK.sub (tys' := []) [] rfl
  have hFc := va_free (wc := [(q37, .inr (5, [.long 0, .long 0, .long 0, .long 0, .int 0]))]) hD hS hA [10] rfl
  refine va_callv (va_runI (As := []) (rest := [.ref q37, .ref ad0]) ⟨hx, hb, hml, hown, hts⟩ (ct_X5_init l dC dI q37 H.size) (cwI 0 hts gX9_init_X5_init rfl rfl rfl (hts _ kk_X9_init_37) (hts _ kk_X9_init_38) (hts _ kk_X9_init_39) rfl (by decide +kernel) ⟨Nat.le_of_ble_eq_true rfl, Nat.le_of_ble_eq_true rfl⟩) ⟨fun a U g mk q => by obtain ⟨q0, q1, qP, qK, qD⟩ := q; exact ⟨q0, q1, qP, va_K.moved (u := U) (U := U.calling g mk a) (Vm.Alike.refl U.vm) qK, qD⟩, fun U hU hW => ⟨rfl, by rw [hU], by rw [hU]; exact hPc, va_K.moved hW.alike hKc, hDc.weaken (fun _ _ _ _ => trivial)⟩⟩ rfl rfl hl.1 rfl (lv_room (Nat.le_of_ble_eq_true rfl)) dX9_init_101 ⟨Nat.le_of_ble_eq_true rfl, Nat.le_of_ble_eq_true rfl⟩) hS (fun q _ h => hFc q h) hFc (fun u t H1 locs ht hvm hw hB hz1 hk1 hS => ?_)
  obtain ⟨hP1, hK1, hD1⟩ := hB
  rw [ht] at hP1
  have hK1 := va_K.moved hvm.symm hK1
  obtain ⟨hP, hD⟩ := va_join (wr := [(ad0, .inr (9, [.ref q1, .ref q15, .ref q23, .ref q25, .ref q27, .ref q29, .ref q31, .ref q33, .int 0, .ref q35, .null, .null, .null, .null])), (q1, .inr (7, [.int 0, .int 0, .int (-1), .ref q3, .ref q4, .int 0, .int 0, .int 0, .int 0, .ref q5, .ref q6, .int 0, .int 0, .int 0])), (q3, .inr (3, [.int 0, .int 0, .int 10, .int 0, .int 0, .int 1, .ref q7, .ref q8, .ref q9, .ref q10, .ref q11])), (q10, .inl (cA12, 3, .inl (lf [1, 0, 0]))), (q4, .inl (cA13, 900, .inl f14)), (q15, .inr (3, [.int 0, .int 0, .int 10, .int 0, .int 0, .int 1, .ref q17, .ref q18, .ref q19, .ref q20, .ref q21])), (q20, .inl (cA22, 3, .inl (lf [1, 0, 0]))), (q25, .inr (2, [.long (-2000000000), .long 0])), (q27, .inr (2, [.long (-2000000000), .long 0])), (q29, .inr (2, [.long (-2000000000), .long 0]))]) (w1 := []) hP hD [10] [0, 1, 2, 3, 4, 5, 6, 7, 8, 9] rfl rfl (by decide) (by decide) hk1 hFc hP1 hD1
  have hK := (hK.sub (tys' := [(cA12, .int), (cA13, .byte), (cA22, .int)]) [0, 1, 2] rfl).app hK1
  clear hPc hDc hKc hFc hP1 hD1 hK1 hk1 hz1
  generalize H1 = H at hP hS ⊢
  have hP : va_P (dC, dI) vwCl [(ad0, .inr (9, [.ref q1, .ref q15, .ref q23, .ref q25, .ref q27, .ref q29, .ref q31, .ref q33, .int 0, .ref q35, .null, .null, .null, .null])), (q1, .inr (7, [.int 0, .int 0, .int (-1), .ref q3, .ref q4, .int 0, .int 0, .int 0, .int 0, .ref q5, .ref q6, .int 0, .int 0, .int 0])), (q3, .inr (3, [.int 0, .int 0, .int 10, .int 0, .int 0, .int 1, .ref q7, .ref q8, .ref q9, .ref q10, .ref q11])), (q10, .inl (cA12, 3, .inl (lf [1, 0, 0]))), (q4, .inl (cA13, 900, .inl f14)), (q15, .inr (3, [.int 0, .int 0, .int 10, .int 0, .int 0, .int 1, .ref q17, .ref q18, .ref q19, .ref q20, .ref q21])), (q20, .inl (cA22, 3, .inl (lf [1, 0, 0]))), (q25, .inr (2, [.long (-2000000000), .long 0])), (q27, .inr (2, [.long (-2000000000), .long 0])), (q29, .inr (2, [.long (-2000000000), .long 0]))] H := hP
  have hD : va_D A [(ad0, .inr (9, [.ref q1, .ref q15, .ref q23, .ref q25, .ref q27, .ref q29, .ref q31, .ref q33, .int 0, .ref q35, .null, .null, .null, .null])), (q1, .inr (7, [.int 0, .int 0, .int (-1), .ref q3, .ref q4, .int 0, .int 0, .int 0, .int 0, .ref q5, .ref q6, .int 0, .int 0, .int 0])), (q3, .inr (3, [.int 0, .int 0, .int 10, .int 0, .int 0, .int 1, .ref q7, .ref q8, .ref q9, .ref q10, .ref q11])), (q10, .inl (cA12, 3, .inl (lf [1, 0, 0]))), (q4, .inl (cA13, 900, .inl f14)), (q15, .inr (3, [.int 0, .int 0, .int 10, .int 0, .int 0, .int 1, .ref q17, .ref q18, .ref q19, .ref q20, .ref q21])), (q20, .inl (cA22, 3, .inl (lf [1, 0, 0]))), (q25, .inr (2, [.long (-2000000000), .long 0])), (q27, .inr (2, [.long (-2000000000), .long 0])), (q29, .inr (2, [.long (-2000000000), .long 0]))] := hD
  have hK : va_K (dC, dI) vwCl [(cA12, .int), (cA13, .byte), (cA22, .int)] s := hK
  refine W.widen (k := 71) (n := 1439) (by decide) (by decide) ?_
  refine va_putF (D := (dC, dI)) (ci := 9) (v := .ref q37) (ty := (.object "PaidBySigns$OneSum")) (C := RX9) (T := TX9) (N := 14) hx hb hts iw_X9_init_X9 tyX9 tyX9_ok nmX9 hown hK hP hD hS 0 rfl rfl 10 (by decide) (hts _ kk_X9_init_40) (fun _ h9 => h9) rfl hin rfl (by decide +kernel) rfl rfl (Nat.le_of_ble_eq_true rfl) dX9_init_104 (fun H locs hP hD hS => ?_)
  have hP : va_P (dC, dI) vwCl [(ad0, .inr (9, [.ref q1, .ref q15, .ref q23, .ref q25, .ref q27, .ref q29, .ref q31, .ref q33, .int 0, .ref q35, .ref q37, .null, .null, .null])), (q1, .inr (7, [.int 0, .int 0, .int (-1), .ref q3, .ref q4, .int 0, .int 0, .int 0, .int 0, .ref q5, .ref q6, .int 0, .int 0, .int 0])), (q3, .inr (3, [.int 0, .int 0, .int 10, .int 0, .int 0, .int 1, .ref q7, .ref q8, .ref q9, .ref q10, .ref q11])), (q10, .inl (cA12, 3, .inl (lf [1, 0, 0]))), (q4, .inl (cA13, 900, .inl f14)), (q15, .inr (3, [.int 0, .int 0, .int 10, .int 0, .int 0, .int 1, .ref q17, .ref q18, .ref q19, .ref q20, .ref q21])), (q20, .inl (cA22, 3, .inl (lf [1, 0, 0]))), (q25, .inr (2, [.long (-2000000000), .long 0])), (q27, .inr (2, [.long (-2000000000), .long 0])), (q29, .inr (2, [.long (-2000000000), .long 0]))] H := hP
  have hD : va_D A [(ad0, .inr (9, [.ref q1, .ref q15, .ref q23, .ref q25, .ref q27, .ref q29, .ref q31, .ref q33, .int 0, .ref q35, .ref q37, .null, .null, .null])), (q1, .inr (7, [.int 0, .int 0, .int (-1), .ref q3, .ref q4, .int 0, .int 0, .int 0, .int 0, .ref q5, .ref q6, .int 0, .int 0, .int 0])), (q3, .inr (3, [.int 0, .int 0, .int 10, .int 0, .int 0, .int 1, .ref q7, .ref q8, .ref q9, .ref q10, .ref q11])), (q10, .inl (cA12, 3, .inl (lf [1, 0, 0]))), (q4, .inl (cA13, 900, .inl f14)), (q15, .inr (3, [.int 0, .int 0, .int 10, .int 0, .int 0, .int 1, .ref q17, .ref q18, .ref q19, .ref q20, .ref q21])), (q20, .inl (cA22, 3, .inl (lf [1, 0, 0]))), (q25, .inr (2, [.long (-2000000000), .long 0])), (q27, .inr (2, [.long (-2000000000), .long 0])), (q29, .inr (2, [.long (-2000000000), .long 0]))] := hD
  refine lv_aload_n hx hb dX9_init_107 rfl (lv_at hl 0 rfl) ?_
  refine va_new (ci := 0) (fs := [.null, .int 0, .null, .null, .null, .null, .null, .null, .int 0, .int 0, .int 0]) (C := RX0) (T := TX0) (N := 11) hx hb hts iw_X9_init_X0 tyX0 tyX0_ok hown (hts _ kk_X9_init_41) (hts _ kk_X9_init_42) (hts _ kk_X9_init_43) hK hP hD hS hA rfl (by decide) (Nat.le_of_ble_eq_true rfl) (Nat.le_of_ble_eq_true rfl) dX9_init_108 (fun q39 H hP hD hS => ?_)
  have hP : va_P (dC, dI) vwCl [(ad0, .inr (9, [.ref q1, .ref q15, .ref q23, .ref q25, .ref q27, .ref q29, .ref q31, .ref q33, .int 0, .ref q35, .ref q37, .null, .null, .null])), (q1, .inr (7, [.int 0, .int 0, .int (-1), .ref q3, .ref q4, .int 0, .int 0, .int 0, .int 0, .ref q5, .ref q6, .int 0, .int 0, .int 0])), (q3, .inr (3, [.int 0, .int 0, .int 10, .int 0, .int 0, .int 1, .ref q7, .ref q8, .ref q9, .ref q10, .ref q11])), (q10, .inl (cA12, 3, .inl (lf [1, 0, 0]))), (q4, .inl (cA13, 900, .inl f14)), (q15, .inr (3, [.int 0, .int 0, .int 10, .int 0, .int 0, .int 1, .ref q17, .ref q18, .ref q19, .ref q20, .ref q21])), (q20, .inl (cA22, 3, .inl (lf [1, 0, 0]))), (q25, .inr (2, [.long (-2000000000), .long 0])), (q27, .inr (2, [.long (-2000000000), .long 0])), (q29, .inr (2, [.long (-2000000000), .long 0])), (q39, .inr (0, [.null, .int 0, .null, .null, .null, .null, .null, .null, .int 0, .int 0, .int 0]))] H := hP
  have hD : va_D A [(ad0, .inr (9, [.ref q1, .ref q15, .ref q23, .ref q25, .ref q27, .ref q29, .ref q31, .ref q33, .int 0, .ref q35, .ref q37, .null, .null, .null])), (q1, .inr (7, [.int 0, .int 0, .int (-1), .ref q3, .ref q4, .int 0, .int 0, .int 0, .int 0, .ref q5, .ref q6, .int 0, .int 0, .int 0])), (q3, .inr (3, [.int 0, .int 0, .int 10, .int 0, .int 0, .int 1, .ref q7, .ref q8, .ref q9, .ref q10, .ref q11])), (q10, .inl (cA12, 3, .inl (lf [1, 0, 0]))), (q4, .inl (cA13, 900, .inl f14)), (q15, .inr (3, [.int 0, .int 0, .int 10, .int 0, .int 0, .int 1, .ref q17, .ref q18, .ref q19, .ref q20, .ref q21])), (q20, .inl (cA22, 3, .inl (lf [1, 0, 0]))), (q25, .inr (2, [.long (-2000000000), .long 0])), (q27, .inr (2, [.long (-2000000000), .long 0])), (q29, .inr (2, [.long (-2000000000), .long 0])), (q39, .inr (0, [.null, .int 0, .null, .null, .null, .null, .null, .null, .int 0, .int 0, .int 0]))] := hD
  refine W.widen (k := 72) (n := 1450) (by decide) (by decide) ?_
  refine lv_dup hx hb dX9_init_111 rfl ?_
  have hPc := hP.sub (ws' := [(q39, .inr (0, [.null, .int 0, .null, .null, .null, .null, .null, .null, .int 0, .int 0, .int 0]))]) [10] rfl
  have hDc := hD.sub (ws' := [(q39, .inr (0, [.null, .int 0, .null, .null, .null, .null, .null, .null, .int 0, .int 0, .int 0]))]) [10] (by decide) rfl
  have hKc := hK.sub (tys' := []) [] rfl
  have hFc := va_free (wc := [(q39, .inr (0, [.null, .int 0, .null, .null, .null, .null, .null, .null, .int 0, .int 0, .int 0]))]) hD hS hA [10] rfl
  refine va_callv (va_runI (As := []) (rest := [.ref q39, .ref ad0]) ⟨hx, hb, hml, hown, hts⟩ (ct_X0_init l dC dI q39 H.size) (cwI 0 hts gX9_init_X0_init rfl rfl rfl (hts _ kk_X9_init_43) (hts _ kk_X9_init_44) (hts _ kk_X9_init_45) rfl (by decide +kernel) ⟨Nat.le_of_ble_eq_true rfl, Nat.le_of_ble_eq_true rfl⟩) ⟨fun a U g mk q => by obtain ⟨q0, q1, qP, qK, qD, qF0⟩ := q; exact ⟨q0, q1, qP, va_K.moved (u := U) (U := U.calling g mk a) (Vm.Alike.refl U.vm) qK, qD, vq_AOA.moved (u := U) (U := U.calling g mk a) (Vm.Alike.refl U.vm) qF0⟩, fun U hU hW => ⟨rfl, by rw [hU], by rw [hU]; exact hPc, va_K.moved hW.alike hKc, hDc.weaken (fun _ _ _ _ => trivial), vq_AOA.moved hW.alike hF_0⟩⟩ rfl rfl hl.1 rfl (lv_room (Nat.le_of_ble_eq_true rfl)) dX9_init_112 ⟨Nat.le_of_ble_eq_true rfl, Nat.le_of_ble_eq_true rfl⟩) hS (fun q _ h => hFc q h) hFc (fun u t H1 locs ht hvm hw hB hz1 hk1 hS => ?_)
  obtain ⟨hP1, hK1, hD1⟩ := hB
  rw [ht] at hP1
  have hK1 := va_K.moved hvm.symm hK1
  obtain ⟨hP, hD⟩ := va_join (wr := [(ad0, .inr (9, [.ref q1, .ref q15, .ref q23, .ref q25, .ref q27, .ref q29, .ref q31, .ref q33, .int 0, .ref q35, .ref q37, .null, .null, .null])), (q1, .inr (7, [.int 0, .int 0, .int (-1), .ref q3, .ref q4, .int 0, .int 0, .int 0, .int 0, .ref q5, .ref q6, .int 0, .int 0, .int 0])), (q3, .inr (3, [.int 0, .int 0, .int 10, .int 0, .int 0, .int 1, .ref q7, .ref q8, .ref q9, .ref q10, .ref q11])), (q10, .inl (cA12, 3, .inl (lf [1, 0, 0]))), (q4, .inl (cA13, 900, .inl f14)), (q15, .inr (3, [.int 0, .int 0, .int 10, .int 0, .int 0, .int 1, .ref q17, .ref q18, .ref q19, .ref q20, .ref q21])), (q20, .inl (cA22, 3, .inl (lf [1, 0, 0]))), (q25, .inr (2, [.long (-2000000000), .long 0])), (q27, .inr (2, [.long (-2000000000), .long 0])), (q29, .inr (2, [.long (-2000000000), .long 0]))]) (w1 := []) hP hD [10] [0, 1, 2, 3, 4, 5, 6, 7, 8, 9] rfl rfl (by decide) (by decide) hk1 hFc hP1 hD1
  have hK := (hK.sub (tys' := [(cA12, .int), (cA13, .byte), (cA22, .int)]) [0, 1, 2] rfl).app hK1
  clear hPc hDc hKc hFc hP1 hD1 hK1 hk1 hz1
  generalize H1 = H at hP hS ⊢
  have hP : va_P (dC, dI) vwCl [(ad0, .inr (9, [.ref q1, .ref q15, .ref q23, .ref q25, .ref q27, .ref q29, .ref q31, .ref q33, .int 0, .ref q35, .ref q37, .null, .null, .null])), (q1, .inr (7, [.int 0, .int 0, .int (-1), .ref q3, .ref q4, .int 0, .int 0, .int 0, .int 0, .ref q5, .ref q6, .int 0, .int 0, .int 0])), (q3, .inr (3, [.int 0, .int 0, .int 10, .int 0, .int 0, .int 1, .ref q7, .ref q8, .ref q9, .ref q10, .ref q11])), (q10, .inl (cA12, 3, .inl (lf [1, 0, 0]))), (q4, .inl (cA13, 900, .inl f14)), (q15, .inr (3, [.int 0, .int 0, .int 10, .int 0, .int 0, .int 1, .ref q17, .ref q18, .ref q19, .ref q20, .ref q21])), (q20, .inl (cA22, 3, .inl (lf [1, 0, 0]))), (q25, .inr (2, [.long (-2000000000), .long 0])), (q27, .inr (2, [.long (-2000000000), .long 0])), (q29, .inr (2, [.long (-2000000000), .long 0]))] H := hP
  have hD : va_D A [(ad0, .inr (9, [.ref q1, .ref q15, .ref q23, .ref q25, .ref q27, .ref q29, .ref q31, .ref q33, .int 0, .ref q35, .ref q37, .null, .null, .null])), (q1, .inr (7, [.int 0, .int 0, .int (-1), .ref q3, .ref q4, .int 0, .int 0, .int 0, .int 0, .ref q5, .ref q6, .int 0, .int 0, .int 0])), (q3, .inr (3, [.int 0, .int 0, .int 10, .int 0, .int 0, .int 1, .ref q7, .ref q8, .ref q9, .ref q10, .ref q11])), (q10, .inl (cA12, 3, .inl (lf [1, 0, 0]))), (q4, .inl (cA13, 900, .inl f14)), (q15, .inr (3, [.int 0, .int 0, .int 10, .int 0, .int 0, .int 1, .ref q17, .ref q18, .ref q19, .ref q20, .ref q21])), (q20, .inl (cA22, 3, .inl (lf [1, 0, 0]))), (q25, .inr (2, [.long (-2000000000), .long 0])), (q27, .inr (2, [.long (-2000000000), .long 0])), (q29, .inr (2, [.long (-2000000000), .long 0]))] := hD
  have hK : va_K (dC, dI) vwCl [(cA12, .int), (cA13, .byte), (cA22, .int)] s := hK
  refine W.widen (k := 94) (n := 1568) (by decide) (by decide) ?_
  refine va_putF (D := (dC, dI)) (ci := 9) (v := .ref q39) (ty := (.object "PaidBySigns$CoinSearch")) (C := RX9) (T := TX9) (N := 14) hx hb hts iw_X9_init_X9 tyX9 tyX9_ok nmX9 hown hK hP hD hS 0 rfl rfl 11 (by decide) (hts _ kk_X9_init_46) (fun _ h9 => h9) rfl hin rfl (by decide +kernel) rfl rfl (Nat.le_of_ble_eq_true rfl) dX9_init_115 (fun H locs hP hD hS => ?_)
  have hP : va_P (dC, dI) vwCl [(ad0, .inr (9, [.ref q1, .ref q15, .ref q23, .ref q25, .ref q27, .ref q29, .ref q31, .ref q33, .int 0, .ref q35, .ref q37, .ref q39, .null, .null])), (q1, .inr (7, [.int 0, .int 0, .int (-1), .ref q3, .ref q4, .int 0, .int 0, .int 0, .int 0, .ref q5, .ref q6, .int 0, .int 0, .int 0])), (q3, .inr (3, [.int 0, .int 0, .int 10, .int 0, .int 0, .int 1, .ref q7, .ref q8, .ref q9, .ref q10, .ref q11])), (q10, .inl (cA12, 3, .inl (lf [1, 0, 0]))), (q4, .inl (cA13, 900, .inl f14)), (q15, .inr (3, [.int 0, .int 0, .int 10, .int 0, .int 0, .int 1, .ref q17, .ref q18, .ref q19, .ref q20, .ref q21])), (q20, .inl (cA22, 3, .inl (lf [1, 0, 0]))), (q25, .inr (2, [.long (-2000000000), .long 0])), (q27, .inr (2, [.long (-2000000000), .long 0])), (q29, .inr (2, [.long (-2000000000), .long 0]))] H := hP
  have hD : va_D A [(ad0, .inr (9, [.ref q1, .ref q15, .ref q23, .ref q25, .ref q27, .ref q29, .ref q31, .ref q33, .int 0, .ref q35, .ref q37, .ref q39, .null, .null])), (q1, .inr (7, [.int 0, .int 0, .int (-1), .ref q3, .ref q4, .int 0, .int 0, .int 0, .int 0, .ref q5, .ref q6, .int 0, .int 0, .int 0])), (q3, .inr (3, [.int 0, .int 0, .int 10, .int 0, .int 0, .int 1, .ref q7, .ref q8, .ref q9, .ref q10, .ref q11])), (q10, .inl (cA12, 3, .inl (lf [1, 0, 0]))), (q4, .inl (cA13, 900, .inl f14)), (q15, .inr (3, [.int 0, .int 0, .int 10, .int 0, .int 0, .int 1, .ref q17, .ref q18, .ref q19, .ref q20, .ref q21])), (q20, .inl (cA22, 3, .inl (lf [1, 0, 0]))), (q25, .inr (2, [.long (-2000000000), .long 0])), (q27, .inr (2, [.long (-2000000000), .long 0])), (q29, .inr (2, [.long (-2000000000), .long 0]))] := hD
  refine lv_aload_n hx hb dX9_init_118 rfl (lv_at hl 0 rfl) ?_
  refine va_new (ci := 6) (fs := [.int 0, .null, .int 0, .null]) (C := RX6) (T := TX6) (N := 4) hx hb hts iw_X9_init_X6 tyX6 tyX6_ok hown (hts _ kk_X9_init_47) (hts _ kk_X9_init_48) (hts _ kk_X9_init_49) hK hP hD hS hA rfl (by decide) (Nat.le_of_ble_eq_true rfl) (Nat.le_of_ble_eq_true rfl) dX9_init_119 (fun q41 H hP hD hS => ?_)
  have hP : va_P (dC, dI) vwCl [(ad0, .inr (9, [.ref q1, .ref q15, .ref q23, .ref q25, .ref q27, .ref q29, .ref q31, .ref q33, .int 0, .ref q35, .ref q37, .ref q39, .null, .null])), (q1, .inr (7, [.int 0, .int 0, .int (-1), .ref q3, .ref q4, .int 0, .int 0, .int 0, .int 0, .ref q5, .ref q6, .int 0, .int 0, .int 0])), (q3, .inr (3, [.int 0, .int 0, .int 10, .int 0, .int 0, .int 1, .ref q7, .ref q8, .ref q9, .ref q10, .ref q11])), (q10, .inl (cA12, 3, .inl (lf [1, 0, 0]))), (q4, .inl (cA13, 900, .inl f14)), (q15, .inr (3, [.int 0, .int 0, .int 10, .int 0, .int 0, .int 1, .ref q17, .ref q18, .ref q19, .ref q20, .ref q21])), (q20, .inl (cA22, 3, .inl (lf [1, 0, 0]))), (q25, .inr (2, [.long (-2000000000), .long 0])), (q27, .inr (2, [.long (-2000000000), .long 0])), (q29, .inr (2, [.long (-2000000000), .long 0])), (q41, .inr (6, [.int 0, .null, .int 0, .null]))] H := hP
  have hD : va_D A [(ad0, .inr (9, [.ref q1, .ref q15, .ref q23, .ref q25, .ref q27, .ref q29, .ref q31, .ref q33, .int 0, .ref q35, .ref q37, .ref q39, .null, .null])), (q1, .inr (7, [.int 0, .int 0, .int (-1), .ref q3, .ref q4, .int 0, .int 0, .int 0, .int 0, .ref q5, .ref q6, .int 0, .int 0, .int 0])), (q3, .inr (3, [.int 0, .int 0, .int 10, .int 0, .int 0, .int 1, .ref q7, .ref q8, .ref q9, .ref q10, .ref q11])), (q10, .inl (cA12, 3, .inl (lf [1, 0, 0]))), (q4, .inl (cA13, 900, .inl f14)), (q15, .inr (3, [.int 0, .int 0, .int 10, .int 0, .int 0, .int 1, .ref q17, .ref q18, .ref q19, .ref q20, .ref q21])), (q20, .inl (cA22, 3, .inl (lf [1, 0, 0]))), (q25, .inr (2, [.long (-2000000000), .long 0])), (q27, .inr (2, [.long (-2000000000), .long 0])), (q29, .inr (2, [.long (-2000000000), .long 0])), (q41, .inr (6, [.int 0, .null, .int 0, .null]))] := hD
  refine W.widen (k := 95) (n := 1572) (by decide) (by decide) ?_
  refine lv_dup hx hb dX9_init_122 rfl ?_
  have hPc := hP.sub (ws' := [(q41, .inr (6, [.int 0, .null, .int 0, .null]))]) [10] rfl
  have hDc := hD.sub (ws' := [(q41, .inr (6, [.int 0, .null, .int 0, .null]))]) [10] (by decide) rfl
  have hKc := hK.sub (tys' := []) [] rfl
  have hFc := va_free (wc := [(q41, .inr (6, [.int 0, .null, .int 0, .null]))]) hD hS hA [10] rfl
  refine va_callv (va_runI (As := []) (rest := [.ref q41, .ref ad0]) ⟨hx, hb, hml, hown, hts⟩ (ct_X6_init l dC dI q41 H.size) (cwI 0 hts gX9_init_X6_init rfl rfl rfl (hts _ kk_X9_init_49) (hts _ kk_X9_init_50) (hts _ kk_X9_init_51) rfl (by decide +kernel) ⟨Nat.le_of_ble_eq_true rfl, Nat.le_of_ble_eq_true rfl⟩) ⟨fun a U g mk q => by obtain ⟨q0, q1, qP, qK, qD⟩ := q; exact ⟨q0, q1, qP, va_K.moved (u := U) (U := U.calling g mk a) (Vm.Alike.refl U.vm) qK, qD⟩, fun U hU hW => ⟨rfl, by rw [hU], by rw [hU]; exact hPc, va_K.moved hW.alike hKc, hDc.weaken (fun _ _ _ _ => trivial)⟩⟩ rfl rfl hl.1 rfl (lv_room (Nat.le_of_ble_eq_true rfl)) dX9_init_123 ⟨Nat.le_of_ble_eq_true rfl, Nat.le_of_ble_eq_true rfl⟩) hS (fun q _ h => hFc q h) hFc (fun u t H1 locs ht hvm hw hB hz1 hk1 hS => ?_)
  obtain ⟨q43, q44, hP1, hK1, hD1⟩ := hB
  rw [ht] at hP1
  have hK1 := va_K.moved hvm.symm hK1
  obtain ⟨hP, hD⟩ := va_join (wr := [(ad0, .inr (9, [.ref q1, .ref q15, .ref q23, .ref q25, .ref q27, .ref q29, .ref q31, .ref q33, .int 0, .ref q35, .ref q37, .ref q39, .null, .null])), (q1, .inr (7, [.int 0, .int 0, .int (-1), .ref q3, .ref q4, .int 0, .int 0, .int 0, .int 0, .ref q5, .ref q6, .int 0, .int 0, .int 0])), (q3, .inr (3, [.int 0, .int 0, .int 10, .int 0, .int 0, .int 1, .ref q7, .ref q8, .ref q9, .ref q10, .ref q11])), (q10, .inl (cA12, 3, .inl (lf [1, 0, 0]))), (q4, .inl (cA13, 900, .inl f14)), (q15, .inr (3, [.int 0, .int 0, .int 10, .int 0, .int 0, .int 1, .ref q17, .ref q18, .ref q19, .ref q20, .ref q21])), (q20, .inl (cA22, 3, .inl (lf [1, 0, 0]))), (q25, .inr (2, [.long (-2000000000), .long 0])), (q27, .inr (2, [.long (-2000000000), .long 0])), (q29, .inr (2, [.long (-2000000000), .long 0]))]) (w1 := [(q41, .inr (6, [.int 1, .ref q43, .int 0, .ref q44]))]) hP hD [10] [0, 1, 2, 3, 4, 5, 6, 7, 8, 9] rfl rfl (by decide) (by decide) hk1 hFc hP1 hD1
  have hK := (hK.sub (tys' := [(cA12, .int), (cA13, .byte), (cA22, .int)]) [0, 1, 2] rfl).app hK1
  clear hPc hDc hKc hFc hP1 hD1 hK1 hk1 hz1
  generalize H1 = H at hP hS ⊢
  have hP : va_P (dC, dI) vwCl [(ad0, .inr (9, [.ref q1, .ref q15, .ref q23, .ref q25, .ref q27, .ref q29, .ref q31, .ref q33, .int 0, .ref q35, .ref q37, .ref q39, .null, .null])), (q1, .inr (7, [.int 0, .int 0, .int (-1), .ref q3, .ref q4, .int 0, .int 0, .int 0, .int 0, .ref q5, .ref q6, .int 0, .int 0, .int 0])), (q3, .inr (3, [.int 0, .int 0, .int 10, .int 0, .int 0, .int 1, .ref q7, .ref q8, .ref q9, .ref q10, .ref q11])), (q10, .inl (cA12, 3, .inl (lf [1, 0, 0]))), (q4, .inl (cA13, 900, .inl f14)), (q15, .inr (3, [.int 0, .int 0, .int 10, .int 0, .int 0, .int 1, .ref q17, .ref q18, .ref q19, .ref q20, .ref q21])), (q20, .inl (cA22, 3, .inl (lf [1, 0, 0]))), (q25, .inr (2, [.long (-2000000000), .long 0])), (q27, .inr (2, [.long (-2000000000), .long 0])), (q29, .inr (2, [.long (-2000000000), .long 0])), (q41, .inr (6, [.int 1, .ref q43, .int 0, .ref q44]))] H := hP
  have hD : va_D A [(ad0, .inr (9, [.ref q1, .ref q15, .ref q23, .ref q25, .ref q27, .ref q29, .ref q31, .ref q33, .int 0, .ref q35, .ref q37, .ref q39, .null, .null])), (q1, .inr (7, [.int 0, .int 0, .int (-1), .ref q3, .ref q4, .int 0, .int 0, .int 0, .int 0, .ref q5, .ref q6, .int 0, .int 0, .int 0])), (q3, .inr (3, [.int 0, .int 0, .int 10, .int 0, .int 0, .int 1, .ref q7, .ref q8, .ref q9, .ref q10, .ref q11])), (q10, .inl (cA12, 3, .inl (lf [1, 0, 0]))), (q4, .inl (cA13, 900, .inl f14)), (q15, .inr (3, [.int 0, .int 0, .int 10, .int 0, .int 0, .int 1, .ref q17, .ref q18, .ref q19, .ref q20, .ref q21])), (q20, .inl (cA22, 3, .inl (lf [1, 0, 0]))), (q25, .inr (2, [.long (-2000000000), .long 0])), (q27, .inr (2, [.long (-2000000000), .long 0])), (q29, .inr (2, [.long (-2000000000), .long 0])), (q41, .inr (6, [.int 1, .ref q43, .int 0, .ref q44]))] := hD
  have hK : va_K (dC, dI) vwCl [(cA12, .int), (cA13, .byte), (cA22, .int)] s := hK
  refine W.widen (k := 97) (n := 1582) (by decide) (by decide) ?_
  refine va_putF (D := (dC, dI)) (ci := 9) (v := .ref q41) (ty := (.object "PaidBySigns$Proofs")) (C := RX9) (T := TX9) (N := 14) hx hb hts iw_X9_init_X9 tyX9 tyX9_ok nmX9 hown hK hP hD hS 0 rfl rfl 12 (by decide) (hts _ kk_X9_init_52) (fun _ h9 => h9) rfl hin rfl (by decide +kernel) rfl rfl (Nat.le_of_ble_eq_true rfl) dX9_init_126 (fun H locs hP hD hS => ?_)
  have hP : va_P (dC, dI) vwCl [(ad0, .inr (9, [.ref q1, .ref q15, .ref q23, .ref q25, .ref q27, .ref q29, .ref q31, .ref q33, .int 0, .ref q35, .ref q37, .ref q39, .ref q41, .null])), (q1, .inr (7, [.int 0, .int 0, .int (-1), .ref q3, .ref q4, .int 0, .int 0, .int 0, .int 0, .ref q5, .ref q6, .int 0, .int 0, .int 0])), (q3, .inr (3, [.int 0, .int 0, .int 10, .int 0, .int 0, .int 1, .ref q7, .ref q8, .ref q9, .ref q10, .ref q11])), (q10, .inl (cA12, 3, .inl (lf [1, 0, 0]))), (q4, .inl (cA13, 900, .inl f14)), (q15, .inr (3, [.int 0, .int 0, .int 10, .int 0, .int 0, .int 1, .ref q17, .ref q18, .ref q19, .ref q20, .ref q21])), (q20, .inl (cA22, 3, .inl (lf [1, 0, 0]))), (q25, .inr (2, [.long (-2000000000), .long 0])), (q27, .inr (2, [.long (-2000000000), .long 0])), (q29, .inr (2, [.long (-2000000000), .long 0])), (q41, .inr (6, [.int 1, .ref q43, .int 0, .ref q44]))] H := hP
  have hD : va_D A [(ad0, .inr (9, [.ref q1, .ref q15, .ref q23, .ref q25, .ref q27, .ref q29, .ref q31, .ref q33, .int 0, .ref q35, .ref q37, .ref q39, .ref q41, .null])), (q1, .inr (7, [.int 0, .int 0, .int (-1), .ref q3, .ref q4, .int 0, .int 0, .int 0, .int 0, .ref q5, .ref q6, .int 0, .int 0, .int 0])), (q3, .inr (3, [.int 0, .int 0, .int 10, .int 0, .int 0, .int 1, .ref q7, .ref q8, .ref q9, .ref q10, .ref q11])), (q10, .inl (cA12, 3, .inl (lf [1, 0, 0]))), (q4, .inl (cA13, 900, .inl f14)), (q15, .inr (3, [.int 0, .int 0, .int 10, .int 0, .int 0, .int 1, .ref q17, .ref q18, .ref q19, .ref q20, .ref q21])), (q20, .inl (cA22, 3, .inl (lf [1, 0, 0]))), (q25, .inr (2, [.long (-2000000000), .long 0])), (q27, .inr (2, [.long (-2000000000), .long 0])), (q29, .inr (2, [.long (-2000000000), .long 0])), (q41, .inr (6, [.int 1, .ref q43, .int 0, .ref q44]))] := hD
  refine lv_aload_n hx hb dX9_init_129 rfl (lv_at hl 0 rfl) ?_
  refine va_new (ci := 1) (fs := [.int 0, .int 0, .int 0, .null, .null, .null, .null, .null, .null]) (C := RX1) (T := TX1) (N := 9) hx hb hts iw_X9_init_X1 tyX1 tyX1_ok hown (hts _ kk_X9_init_53) (hts _ kk_X9_init_54) (hts _ kk_X9_init_55) hK hP hD hS hA rfl (by decide) (Nat.le_of_ble_eq_true rfl) (Nat.le_of_ble_eq_true rfl) dX9_init_130 (fun q45 H hP hD hS => ?_)
  have hP : va_P (dC, dI) vwCl [(ad0, .inr (9, [.ref q1, .ref q15, .ref q23, .ref q25, .ref q27, .ref q29, .ref q31, .ref q33, .int 0, .ref q35, .ref q37, .ref q39, .ref q41, .null])), (q1, .inr (7, [.int 0, .int 0, .int (-1), .ref q3, .ref q4, .int 0, .int 0, .int 0, .int 0, .ref q5, .ref q6, .int 0, .int 0, .int 0])), (q3, .inr (3, [.int 0, .int 0, .int 10, .int 0, .int 0, .int 1, .ref q7, .ref q8, .ref q9, .ref q10, .ref q11])), (q10, .inl (cA12, 3, .inl (lf [1, 0, 0]))), (q4, .inl (cA13, 900, .inl f14)), (q15, .inr (3, [.int 0, .int 0, .int 10, .int 0, .int 0, .int 1, .ref q17, .ref q18, .ref q19, .ref q20, .ref q21])), (q20, .inl (cA22, 3, .inl (lf [1, 0, 0]))), (q25, .inr (2, [.long (-2000000000), .long 0])), (q27, .inr (2, [.long (-2000000000), .long 0])), (q29, .inr (2, [.long (-2000000000), .long 0])), (q41, .inr (6, [.int 1, .ref q43, .int 0, .ref q44])), (q45, .inr (1, [.int 0, .int 0, .int 0, .null, .null, .null, .null, .null, .null]))] H := hP
  have hD : va_D A [(ad0, .inr (9, [.ref q1, .ref q15, .ref q23, .ref q25, .ref q27, .ref q29, .ref q31, .ref q33, .int 0, .ref q35, .ref q37, .ref q39, .ref q41, .null])), (q1, .inr (7, [.int 0, .int 0, .int (-1), .ref q3, .ref q4, .int 0, .int 0, .int 0, .int 0, .ref q5, .ref q6, .int 0, .int 0, .int 0])), (q3, .inr (3, [.int 0, .int 0, .int 10, .int 0, .int 0, .int 1, .ref q7, .ref q8, .ref q9, .ref q10, .ref q11])), (q10, .inl (cA12, 3, .inl (lf [1, 0, 0]))), (q4, .inl (cA13, 900, .inl f14)), (q15, .inr (3, [.int 0, .int 0, .int 10, .int 0, .int 0, .int 1, .ref q17, .ref q18, .ref q19, .ref q20, .ref q21])), (q20, .inl (cA22, 3, .inl (lf [1, 0, 0]))), (q25, .inr (2, [.long (-2000000000), .long 0])), (q27, .inr (2, [.long (-2000000000), .long 0])), (q29, .inr (2, [.long (-2000000000), .long 0])), (q41, .inr (6, [.int 1, .ref q43, .int 0, .ref q44])), (q45, .inr (1, [.int 0, .int 0, .int 0, .null, .null, .null, .null, .null, .null]))] := hD
  refine W.widen (k := 98) (n := 1591) (by decide) (by decide) ?_
  refine lv_dup hx hb dX9_init_133 rfl ?_
  have hPc := hP.sub (ws' := [(q45, .inr (1, [.int 0, .int 0, .int 0, .null, .null, .null, .null, .null, .null]))]) [11] rfl
  have hDc := hD.sub (ws' := [(q45, .inr (1, [.int 0, .int 0, .int 0, .null, .null, .null, .null, .null, .null]))]) [11] (by decide) rfl
  have hKc := hK.sub (tys' := []) [] rfl
  have hFc := va_free (wc := [(q45, .inr (1, [.int 0, .int 0, .int 0, .null, .null, .null, .null, .null, .null]))]) hD hS hA [11] rfl
  refine va_callv (va_runI (As := []) (rest := [.ref q45, .ref ad0]) ⟨hx, hb, hml, hown, hts⟩ (ct_X1_init l dC dI q45 H.size) (cwI 0 hts gX9_init_X1_init rfl rfl rfl (hts _ kk_X9_init_55) (hts _ kk_X9_init_56) (hts _ kk_X9_init_57) rfl (by decide +kernel) ⟨Nat.le_of_ble_eq_true rfl, Nat.le_of_ble_eq_true rfl⟩) ⟨fun a U g mk q => by obtain ⟨q0, q1, qP, qK, qD⟩ := q; exact ⟨q0, q1, qP, va_K.moved (u := U) (U := U.calling g mk a) (Vm.Alike.refl U.vm) qK, qD⟩, fun U hU hW => ⟨rfl, by rw [hU], by rw [hU]; exact hPc, va_K.moved hW.alike hKc, hDc.weaken (fun _ _ _ _ => trivial)⟩⟩ rfl rfl hl.1 rfl (lv_room (Nat.le_of_ble_eq_true rfl)) dX9_init_134 ⟨Nat.le_of_ble_eq_true rfl, Nat.le_of_ble_eq_true rfl⟩) hS (fun q _ h => hFc q h) hFc (fun u t H1 locs ht hvm hw hB hz1 hk1 hS => ?_)
  obtain ⟨q47, q48, q49, q50, q51, q52, hP1, hK1, hD1⟩ := hB
  rw [ht] at hP1
  have hK1 := va_K.moved hvm.symm hK1
  obtain ⟨hP, hD⟩ := va_join (wr := [(ad0, .inr (9, [.ref q1, .ref q15, .ref q23, .ref q25, .ref q27, .ref q29, .ref q31, .ref q33, .int 0, .ref q35, .ref q37, .ref q39, .ref q41, .null])), (q1, .inr (7, [.int 0, .int 0, .int (-1), .ref q3, .ref q4, .int 0, .int 0, .int 0, .int 0, .ref q5, .ref q6, .int 0, .int 0, .int 0])), (q3, .inr (3, [.int 0, .int 0, .int 10, .int 0, .int 0, .int 1, .ref q7, .ref q8, .ref q9, .ref q10, .ref q11])), (q10, .inl (cA12, 3, .inl (lf [1, 0, 0]))), (q4, .inl (cA13, 900, .inl f14)), (q15, .inr (3, [.int 0, .int 0, .int 10, .int 0, .int 0, .int 1, .ref q17, .ref q18, .ref q19, .ref q20, .ref q21])), (q20, .inl (cA22, 3, .inl (lf [1, 0, 0]))), (q25, .inr (2, [.long (-2000000000), .long 0])), (q27, .inr (2, [.long (-2000000000), .long 0])), (q29, .inr (2, [.long (-2000000000), .long 0])), (q41, .inr (6, [.int 1, .ref q43, .int 0, .ref q44]))]) (w1 := [(q45, .inr (1, [.int 0, .int 0, .int 0, .ref q47, .ref q48, .ref q49, .ref q50, .ref q51, .ref q52]))]) hP hD [11] [0, 1, 2, 3, 4, 5, 6, 7, 8, 9, 10] rfl rfl (by decide) (by decide) hk1 hFc hP1 hD1
  have hK := (hK.sub (tys' := [(cA12, .int), (cA13, .byte), (cA22, .int)]) [0, 1, 2] rfl).app hK1
  clear hPc hDc hKc hFc hP1 hD1 hK1 hk1 hz1
  generalize H1 = H at hP hS ⊢
  have hP : va_P (dC, dI) vwCl [(ad0, .inr (9, [.ref q1, .ref q15, .ref q23, .ref q25, .ref q27, .ref q29, .ref q31, .ref q33, .int 0, .ref q35, .ref q37, .ref q39, .ref q41, .null])), (q1, .inr (7, [.int 0, .int 0, .int (-1), .ref q3, .ref q4, .int 0, .int 0, .int 0, .int 0, .ref q5, .ref q6, .int 0, .int 0, .int 0])), (q3, .inr (3, [.int 0, .int 0, .int 10, .int 0, .int 0, .int 1, .ref q7, .ref q8, .ref q9, .ref q10, .ref q11])), (q10, .inl (cA12, 3, .inl (lf [1, 0, 0]))), (q4, .inl (cA13, 900, .inl f14)), (q15, .inr (3, [.int 0, .int 0, .int 10, .int 0, .int 0, .int 1, .ref q17, .ref q18, .ref q19, .ref q20, .ref q21])), (q20, .inl (cA22, 3, .inl (lf [1, 0, 0]))), (q25, .inr (2, [.long (-2000000000), .long 0])), (q27, .inr (2, [.long (-2000000000), .long 0])), (q29, .inr (2, [.long (-2000000000), .long 0])), (q41, .inr (6, [.int 1, .ref q43, .int 0, .ref q44])), (q45, .inr (1, [.int 0, .int 0, .int 0, .ref q47, .ref q48, .ref q49, .ref q50, .ref q51, .ref q52]))] H := hP
  have hD : va_D A [(ad0, .inr (9, [.ref q1, .ref q15, .ref q23, .ref q25, .ref q27, .ref q29, .ref q31, .ref q33, .int 0, .ref q35, .ref q37, .ref q39, .ref q41, .null])), (q1, .inr (7, [.int 0, .int 0, .int (-1), .ref q3, .ref q4, .int 0, .int 0, .int 0, .int 0, .ref q5, .ref q6, .int 0, .int 0, .int 0])), (q3, .inr (3, [.int 0, .int 0, .int 10, .int 0, .int 0, .int 1, .ref q7, .ref q8, .ref q9, .ref q10, .ref q11])), (q10, .inl (cA12, 3, .inl (lf [1, 0, 0]))), (q4, .inl (cA13, 900, .inl f14)), (q15, .inr (3, [.int 0, .int 0, .int 10, .int 0, .int 0, .int 1, .ref q17, .ref q18, .ref q19, .ref q20, .ref q21])), (q20, .inl (cA22, 3, .inl (lf [1, 0, 0]))), (q25, .inr (2, [.long (-2000000000), .long 0])), (q27, .inr (2, [.long (-2000000000), .long 0])), (q29, .inr (2, [.long (-2000000000), .long 0])), (q41, .inr (6, [.int 1, .ref q43, .int 0, .ref q44])), (q45, .inr (1, [.int 0, .int 0, .int 0, .ref q47, .ref q48, .ref q49, .ref q50, .ref q51, .ref q52]))] := hD
  have hK : va_K (dC, dI) vwCl [(cA12, .int), (cA13, .byte), (cA22, .int)] s := hK
  refine W.widen (k := 104) (n := 1675) (by decide) (by decide) ?_
  refine va_putF (D := (dC, dI)) (ci := 9) (v := .ref q45) (ty := (.object "PaidBySigns$Diary")) (C := RX9) (T := TX9) (N := 14) hx hb hts iw_X9_init_X9 tyX9 tyX9_ok nmX9 hown hK hP hD hS 0 rfl rfl 13 (by decide) (hts _ kk_X9_init_58) (fun _ h9 => h9) rfl hin rfl (by decide +kernel) rfl rfl (Nat.le_of_ble_eq_true rfl) dX9_init_137 (fun H locs hP hD hS => ?_)
  have hP : va_P (dC, dI) vwCl [(ad0, .inr (9, [.ref q1, .ref q15, .ref q23, .ref q25, .ref q27, .ref q29, .ref q31, .ref q33, .int 0, .ref q35, .ref q37, .ref q39, .ref q41, .ref q45])), (q1, .inr (7, [.int 0, .int 0, .int (-1), .ref q3, .ref q4, .int 0, .int 0, .int 0, .int 0, .ref q5, .ref q6, .int 0, .int 0, .int 0])), (q3, .inr (3, [.int 0, .int 0, .int 10, .int 0, .int 0, .int 1, .ref q7, .ref q8, .ref q9, .ref q10, .ref q11])), (q10, .inl (cA12, 3, .inl (lf [1, 0, 0]))), (q4, .inl (cA13, 900, .inl f14)), (q15, .inr (3, [.int 0, .int 0, .int 10, .int 0, .int 0, .int 1, .ref q17, .ref q18, .ref q19, .ref q20, .ref q21])), (q20, .inl (cA22, 3, .inl (lf [1, 0, 0]))), (q25, .inr (2, [.long (-2000000000), .long 0])), (q27, .inr (2, [.long (-2000000000), .long 0])), (q29, .inr (2, [.long (-2000000000), .long 0])), (q41, .inr (6, [.int 1, .ref q43, .int 0, .ref q44])), (q45, .inr (1, [.int 0, .int 0, .int 0, .ref q47, .ref q48, .ref q49, .ref q50, .ref q51, .ref q52]))] H := hP
  have hD : va_D A [(ad0, .inr (9, [.ref q1, .ref q15, .ref q23, .ref q25, .ref q27, .ref q29, .ref q31, .ref q33, .int 0, .ref q35, .ref q37, .ref q39, .ref q41, .ref q45])), (q1, .inr (7, [.int 0, .int 0, .int (-1), .ref q3, .ref q4, .int 0, .int 0, .int 0, .int 0, .ref q5, .ref q6, .int 0, .int 0, .int 0])), (q3, .inr (3, [.int 0, .int 0, .int 10, .int 0, .int 0, .int 1, .ref q7, .ref q8, .ref q9, .ref q10, .ref q11])), (q10, .inl (cA12, 3, .inl (lf [1, 0, 0]))), (q4, .inl (cA13, 900, .inl f14)), (q15, .inr (3, [.int 0, .int 0, .int 10, .int 0, .int 0, .int 1, .ref q17, .ref q18, .ref q19, .ref q20, .ref q21])), (q20, .inl (cA22, 3, .inl (lf [1, 0, 0]))), (q25, .inr (2, [.long (-2000000000), .long 0])), (q27, .inr (2, [.long (-2000000000), .long 0])), (q29, .inr (2, [.long (-2000000000), .long 0])), (q41, .inr (6, [.int 1, .ref q43, .int 0, .ref q44])), (q45, .inr (1, [.int 0, .int 0, .int 0, .ref q47, .ref q48, .ref q49, .ref q50, .ref q51, .ref q52]))] := hD
  refine W.widen (k := 104) (n := 1675) (by decide) (by decide) ?_
  have hP9 := hP.sub (ws' := [(ad0, .inr (9, [.ref q1, .ref q15, .ref q23, .ref q25, .ref q27, .ref q29, .ref q31, .ref q33, .int 0, .ref q35, .ref q37, .ref q39, .ref q41, .ref q45])), (q1, .inr (7, [.int 0, .int 0, .int (-1), .ref q3, .ref q4, .int 0, .int 0, .int 0, .int 0, .ref q5, .ref q6, .int 0, .int 0, .int 0])), (q3, .inr (3, [.int 0, .int 0, .int 10, .int 0, .int 0, .int 1, .ref q7, .ref q8, .ref q9, .ref q10, .ref q11])), (q10, .inl (cA12, 3, .inl (lf [1, 0, 0]))), (q4, .inl (cA13, 900, .inl f14)), (q15, .inr (3, [.int 0, .int 0, .int 10, .int 0, .int 0, .int 1, .ref q17, .ref q18, .ref q19, .ref q20, .ref q21])), (q20, .inl (cA22, 3, .inl (lf [1, 0, 0]))), (q25, .inr (2, [.long (-2000000000), .long 0])), (q27, .inr (2, [.long (-2000000000), .long 0])), (q29, .inr (2, [.long (-2000000000), .long 0])), (q41, .inr (6, [.int 1, .ref q43, .int 0, .ref q44])), (q45, .inr (1, [.int 0, .int 0, .int 0, .ref q47, .ref q48, .ref q49, .ref q50, .ref q51, .ref q52]))]) [0, 1, 2, 3, 4, 5, 6, 7, 8, 9, 10, 11] rfl
  have hD9 := hD.sub (ws' := [(ad0, .inr (9, [.ref q1, .ref q15, .ref q23, .ref q25, .ref q27, .ref q29, .ref q31, .ref q33, .int 0, .ref q35, .ref q37, .ref q39, .ref q41, .ref q45])), (q1, .inr (7, [.int 0, .int 0, .int (-1), .ref q3, .ref q4, .int 0, .int 0, .int 0, .int 0, .ref q5, .ref q6, .int 0, .int 0, .int 0])), (q3, .inr (3, [.int 0, .int 0, .int 10, .int 0, .int 0, .int 1, .ref q7, .ref q8, .ref q9, .ref q10, .ref q11])), (q10, .inl (cA12, 3, .inl (lf [1, 0, 0]))), (q4, .inl (cA13, 900, .inl f14)), (q15, .inr (3, [.int 0, .int 0, .int 10, .int 0, .int 0, .int 1, .ref q17, .ref q18, .ref q19, .ref q20, .ref q21])), (q20, .inl (cA22, 3, .inl (lf [1, 0, 0]))), (q25, .inr (2, [.long (-2000000000), .long 0])), (q27, .inr (2, [.long (-2000000000), .long 0])), (q29, .inr (2, [.long (-2000000000), .long 0])), (q41, .inr (6, [.int 1, .ref q43, .int 0, .ref q44])), (q45, .inr (1, [.int 0, .int 0, .int 0, .ref q47, .ref q48, .ref q49, .ref q50, .ref q51, .ref q52]))]) [0, 1, 2, 3, 4, 5, 6, 7, 8, 9, 10, 11] (by decide) rfl
  have hK9 := hK.sub (tys' := [(cA12, .int), (cA13, .byte), (cA22, .int)]) [0, 1, 2] rfl
  exact W.vret hx hb hr (fun t ht hW => ⟨⟨(), rfl, trivial, q1, q15, q23, q25, q27, q29, q31, q33, q35, q37, q39, q41, q45, q3, q4, q5, q6, q7, q8, q9, q10, q11, cA12, cA13, f14, q17, q18, q19, q20, q21, cA22, q43, q44, q47, q48, q49, q50, q51, q52, by rw [ht]; exact hP9, va_K.moved hW.alike hK9, hD9⟩, hS.F ht⟩) hS.2.2 dX9_init_140

