/-! ===== BEGIN words of one list among another's, by their places ===== -/
theorem goodIn_r {big : List Cond} (ws : List Cond) (ps : List Nat) (hp : ws = ps.filterMap (fun i => big[i]?)) (h : ws.all goodWord = true) : GoodIn big ws := by
  intro w hw
  have h1 := List.all_eq_true.mp h w hw
  rw [hp] at hw
  obtain ⟨i, -, hi⟩ := List.mem_filterMap.mp hw
  have hm : w ∈ big := by first | exact List.mem_of_getElem? hi | exact List.getElem?_mem hi
  exact ⟨hm, good_of_word h1⟩
theorem goodIn_app {big a b : List Cond} (ha : GoodIn big a) (hb : GoodIn big b) : GoodIn big (a ++ b) := fun w h => (List.mem_append.mp h).elim (ha w) (hb w)
theorem goodIn_ca {big a b : List Cond} {c : Cond} (ha : GoodIn big (c :: a)) (hb : GoodIn big b) : GoodIn big (c :: (a ++ b)) := fun w h => (List.mem_cons.mp h).elim (fun e => ha w (List.mem_cons.mpr (Or.inl e))) (fun h => (List.mem_append.mp h).elim (fun h => ha w (List.mem_cons.mpr (Or.inr h))) (hb w))
theorem goodIn_sub {big ws : List Cond} (hm : ∀ w ∈ ws, w ∈ big) (h : ws.all goodWord = true) : GoodIn big ws := fun w hw => ⟨hm w hw, good_of_word (List.all_eq_true.mp h w hw)⟩
/-! ===== END ===== -/


def RX0 : String := "PaidBySigns$CoinSearch"
def TX0 : u_T := fun k => match k with
  | 0 => ("PaidBySigns$CoinSearch", "chosen", "[I", true)
  | 1 => ("PaidBySigns$CoinSearch", "bestCost", "I", false)
  | 2 => ("PaidBySigns$CoinSearch", "felt", "[I", true)
  | 3 => ("PaidBySigns$CoinSearch", "own", "[I", true)
  | 4 => ("PaidBySigns$CoinSearch", "share", "[[I", true)
  | 5 => ("PaidBySigns$CoinSearch", "rest", "[[I", true)
  | 6 => ("PaidBySigns$CoinSearch", "left", "[[I", true)
  | 7 => ("PaidBySigns$CoinSearch", "tried", "[I", true)
  | 8 => ("PaidBySigns$CoinSearch", "signs", "I", false)
  | 9 => ("PaidBySigns$CoinSearch", "lines", "I", false)
  | _ => ("PaidBySigns$CoinSearch", "most", "I", false)
def RX1 : String := "PaidBySigns$Diary"
def TX1 : u_T := fun k => match k with
  | 0 => ("PaidBySigns$Diary", "seen", "I", false)
  | 1 => ("PaidBySigns$Diary", "rights", "I", false)
  | 2 => ("PaidBySigns$Diary", "latestStep", "I", false)
  | 3 => ("PaidBySigns$Diary", "seenStep", "[I", true)
  | 4 => ("PaidBySigns$Diary", "seenSign", "[I", true)
  | 5 => ("PaidBySigns$Diary", "timesRight", "[I", true)
  | 6 => ("PaidBySigns$Diary", "rightStep", "[I", true)
  | 7 => ("PaidBySigns$Diary", "rightOf", "[I", true)
  | _ => ("PaidBySigns$Diary", "rightSign", "[I", true)
def RX2 : String := "PaidBySigns$Fraction"
def TX2 : u_T := fun k => match k with
  | 0 => ("PaidBySigns$Fraction", "upper", "J", false)
  | _ => ("PaidBySigns$Fraction", "lower", "J", false)
def RX3 : String := "PaidBySigns$Hire"
def TX3 : u_T := fun k => match k with
  | 0 => ("PaidBySigns$Hire", "signs", "I", false)
  | 1 => ("PaidBySigns$Hire", "works", "I", false)
  | 2 => ("PaidBySigns$Hire", "whole", "I", false)
  | 3 => ("PaidBySigns$Hire", "otherwise", "I", false)
  | 4 => ("PaidBySigns$Hire", "least", "I", false)
  | 5 => ("PaidBySigns$Hire", "rates", "I", false)
  | 6 => ("PaidBySigns$Hire", "brings", "[I", true)
  | 7 => ("PaidBySigns$Hire", "costs", "[I", true)
  | 8 => ("PaidBySigns$Hire", "chances", "[[I", true)
  | 9 => ("PaidBySigns$Hire", "rate", "[I", true)
  | _ => ("PaidBySigns$Hire", "mark", "[I", true)
def RX4 : String := "PaidBySigns$LeastCost"
def TX4 : u_T := fun k => match k with
  | 0 => ("PaidBySigns$LeastCost", "above", "[J", true)
  | 1 => ("PaidBySigns$LeastCost", "aboveLower", "J", false)
  | 2 => ("PaidBySigns$LeastCost", "table", "LPaidBySigns$Table;", true)
  | 3 => ("PaidBySigns$LeastCost", "columnSign", "[I", true)
  | 4 => ("PaidBySigns$LeastCost", "columnRate", "[I", true)
  | 5 => ("PaidBySigns$LeastCost", "columnRoom", "[I", true)
  | 6 => ("PaidBySigns$LeastCost", "columns", "I", false)
  | 7 => ("PaidBySigns$LeastCost", "rooms", "I", false)
  | 8 => ("PaidBySigns$LeastCost", "hire", "LPaidBySigns$Hire;", false)
  | 9 => ("PaidBySigns$LeastCost", "work", "I", false)
  | 10 => ("PaidBySigns$LeastCost", "keptSign", "I", false)
  | _ => ("PaidBySigns$LeastCost", "joinedSign", "I", false)
def RX5 : String := "PaidBySigns$OneSum"
def TX5 : u_T := fun k => match k with
  | 0 => ("PaidBySigns$OneSum", "lowUpper", "J", false)
  | 1 => ("PaidBySigns$OneSum", "lowLower", "J", false)
  | 2 => ("PaidBySigns$OneSum", "capUpper", "J", false)
  | 3 => ("PaidBySigns$OneSum", "capLower", "J", false)
  | _ => ("PaidBySigns$OneSum", "isBroken", "Z", false)
def RX6 : String := "PaidBySigns$Proofs"
def TX6 : u_T := fun k => match k with
  | 0 => ("PaidBySigns$Proofs", "lowerNumber", "I", false)
  | 1 => ("PaidBySigns$Proofs", "press", "[I", true)
  | 2 => ("PaidBySigns$Proofs", "pressOfElse", "I", false)
  | _ => ("PaidBySigns$Proofs", "mixed", "[I", true)
def RX7 : String := "PaidBySigns$Reader"
def TX7 : u_T := fun k => match k with
  | 0 => ("PaidBySigns$Reader", "length", "I", false)
  | 1 => ("PaidBySigns$Reader", "faultKind", "I", false)
  | 2 => ("PaidBySigns$Reader", "faultPlace", "I", false)
  | 3 => ("PaidBySigns$Reader", "into", "LPaidBySigns$Hire;", false)
  | 4 => ("PaidBySigns$Reader", "text", "[B", true)
  | 5 => ("PaidBySigns$Reader", "next", "I", false)
  | 6 => ("PaidBySigns$Reader", "token", "I", false)
  | 7 => ("PaidBySigns$Reader", "start", "I", false)
  | 8 => ("PaidBySigns$Reader", "value", "I", false)
  | 9 => ("PaidBySigns$Reader", "nameStart", "[I", true)
  | 10 => ("PaidBySigns$Reader", "nameEnd", "[I", true)
  | 11 => ("PaidBySigns$Reader", "hasElse", "Z", false)
  | 12 => ("PaidBySigns$Reader", "hasLeast", "Z", false)
  | _ => ("PaidBySigns$Reader", "hasFeel", "Z", false)
def RX8 : String := "PaidBySigns$Table"
def TX8 : u_T := fun k => match k with
  | 0 => ("PaidBySigns$Table", "entry", "[[J", true)
  | 1 => ("PaidBySigns$Table", "lineName", "[I", true)
  | 2 => ("PaidBySigns$Table", "columnName", "[I", true)
  | 3 => ("PaidBySigns$Table", "goals", "I", false)
  | 4 => ("PaidBySigns$Table", "lines", "I", false)
  | 5 => ("PaidBySigns$Table", "columns", "I", false)
  | _ => ("PaidBySigns$Table", "base", "J", false)
def RX9 : String := "PaidBySigns"
def TX9 : u_T := fun k => match k with
  | 0 => ("PaidBySigns", "reader", "LPaidBySigns$Reader;", true)
  | 1 => ("PaidBySigns", "hire", "LPaidBySigns$Hire;", false)
  | 2 => ("PaidBySigns", "hand", "[I", true)
  | 3 => ("PaidBySigns", "latest", "LPaidBySigns$Fraction;", true)
  | 4 => ("PaidBySigns", "trial", "LPaidBySigns$Fraction;", true)
  | 5 => ("PaidBySigns", "champion", "LPaidBySigns$Fraction;", true)
  | 6 => ("PaidBySigns", "wageUpper", "[J", true)
  | 7 => ("PaidBySigns", "wageLower", "[J", true)
  | 8 => ("PaidBySigns", "hasWages", "Z", false)
  | 9 => ("PaidBySigns", "cheapest", "LPaidBySigns$LeastCost;", true)
  | 10 => ("PaidBySigns", "oneSum", "LPaidBySigns$OneSum;", true)
  | 11 => ("PaidBySigns", "coinSearch", "LPaidBySigns$CoinSearch;", true)
  | 12 => ("PaidBySigns", "proofs", "LPaidBySigns$Proofs;", true)
  | _ => ("PaidBySigns", "diary", "LPaidBySigns$Diary;", true)
def RX10 : String := "PaidBySignsModel"
def TX10 : u_T := fun k => match k with
  | 0 => ("PaidBySignsModel", "tape", "[B", true)
  | 1 => ("PaidBySignsModel", "taped", "I", false)
  | 2 => ("PaidBySignsModel", "size", "I", false)
  | 3 => ("PaidBySignsModel", "sort", "I", false)
  | 4 => ("PaidBySignsModel", "key", "I", false)
  | 5 => ("PaidBySignsModel", "at", "I", false)
  | 6 => ("PaidBySignsModel", "end", "I", false)
  | 7 => ("PaidBySignsModel", "number", "I", false)
  | 8 => ("PaidBySignsModel", "faultKind", "I", false)
  | 9 => ("PaidBySignsModel", "faultPlace", "I", false)
  | 10 => ("PaidBySignsModel", "word", "J", false)
  | 11 => ("PaidBySignsModel", "got", "I", false)
  | 12 => ("PaidBySignsModel", "num", "[I", true)
  | 13 => ("PaidBySignsModel", "signName", "[J", true)
  | 14 => ("PaidBySignsModel", "workName", "[J", true)
  | 15 => ("PaidBySignsModel", "brings", "[I", true)
  | 16 => ("PaidBySignsModel", "costs", "[I", true)
  | 17 => ("PaidBySignsModel", "chances", "[I", true)
  | 18 => ("PaidBySignsModel", "rates", "[I", true)
  | 19 => ("PaidBySignsModel", "marks", "[I", true)
  | 20 => ("PaidBySignsModel", "seen", "I", false)
  | 21 => ("PaidBySignsModel", "hand", "[I", true)
  | 22 => ("PaidBySignsModel", "hasFraction", "Z", false)
  | 23 => ("PaidBySignsModel", "upper", "J", false)
  | 24 => ("PaidBySignsModel", "lower", "J", false)
  | 25 => ("PaidBySignsModel", "groups", "I", false)
  | 26 => ("PaidBySignsModel", "bounds", "I", false)
  | 27 => ("PaidBySignsModel", "groupOf", "[I", true)
  | 28 => ("PaidBySignsModel", "row", "[J", true)
  | 29 => ("PaidBySignsModel", "least", "[J", true)
  | 30 => ("PaidBySignsModel", "asked", "I", false)
  | 31 => ("PaidBySignsModel", "chosen", "[I", true)
  | 32 => ("PaidBySignsModel", "matrix", "[J", true)
  | 33 => ("PaidBySignsModel", "x", "[J", true)
  | 34 => ("PaidBySignsModel", "det", "J", false)
  | 35 => ("PaidBySignsModel", "wageUp", "[J", true)
  | 36 => ("PaidBySignsModel", "wageLow", "[J", true)
  | 37 => ("PaidBySignsModel", "isFound", "Z", false)
  | 38 => ("PaidBySignsModel", "costUp", "J", false)
  | 39 => ("PaidBySignsModel", "costLow", "J", false)
  | 40 => ("PaidBySignsModel", "bestUp", "[J", true)
  | 41 => ("PaidBySignsModel", "bestLow", "[J", true)
  | 42 => ("PaidBySignsModel", "hasWages", "Z", false)
  | 43 => ("PaidBySignsModel", "wageMany", "I", false)
  | 44 => ("PaidBySignsModel", "toldUp", "[J", true)
  | 45 => ("PaidBySignsModel", "toldLow", "[J", true)
  | 46 => ("PaidBySignsModel", "bestLeftUp", "J", false)
  | 47 => ("PaidBySignsModel", "bestLeftLow", "J", false)
  | 48 => ("PaidBySignsModel", "coin", "[I", true)
  | 49 => ("PaidBySignsModel", "fromUp", "J", false)
  | 50 => ("PaidBySignsModel", "fromLow", "J", false)
  | 51 => ("PaidBySignsModel", "toUp", "J", false)
  | 52 => ("PaidBySignsModel", "toLow", "J", false)
  | 53 => ("PaidBySignsModel", "canBe", "Z", false)
  | 54 => ("PaidBySignsModel", "presses", "[I", true)
  | 55 => ("PaidBySignsModel", "mixes", "[I", true)
  | 56 => ("PaidBySignsModel", "lowerPress", "I", false)
  | 57 => ("PaidBySignsModel", "seenMany", "I", false)
  | 58 => ("PaidBySignsModel", "rightMany", "I", false)
  | 59 => ("PaidBySignsModel", "lastTold", "I", false)
  | 60 => ("PaidBySignsModel", "sTold", "[I", true)
  | 61 => ("PaidBySignsModel", "sSign", "[I", true)
  | 62 => ("PaidBySignsModel", "rOf", "[I", true)
  | 63 => ("PaidBySignsModel", "rTold", "[I", true)
  | _ => ("PaidBySignsModel", "rSign", "[I", true)
def tyX10 : Nat → FieldType := fun k => match k with
  | 0 => .array .byte
  | 1 => .int
  | 2 => .int
  | 3 => .int
  | 4 => .int
  | 5 => .int
  | 6 => .int
  | 7 => .int
  | 8 => .int
  | 9 => .int
  | 10 => .long
  | 11 => .int
  | 12 => .array .int
  | 13 => .array .long
  | 14 => .array .long
  | 15 => .array .int
  | 16 => .array .int
  | 17 => .array .int
  | 18 => .array .int
  | 19 => .array .int
  | 20 => .int
  | 21 => .array .int
  | 22 => .boolean
  | 23 => .long
  | 24 => .long
  | 25 => .int
  | 26 => .int
  | 27 => .array .int
  | 28 => .array .long
  | 29 => .array .long
  | 30 => .int
  | 31 => .array .int
  | 32 => .array .long
  | 33 => .array .long
  | 34 => .long
  | 35 => .array .long
  | 36 => .array .long
  | 37 => .boolean
  | 38 => .long
  | 39 => .long
  | 40 => .array .long
  | 41 => .array .long
  | 42 => .boolean
  | 43 => .int
  | 44 => .array .long
  | 45 => .array .long
  | 46 => .long
  | 47 => .long
  | 48 => .array .int
  | 49 => .long
  | 50 => .long
  | 51 => .long
  | 52 => .long
  | 53 => .boolean
  | 54 => .array .int
  | 55 => .array .int
  | 56 => .int
  | 57 => .int
  | 58 => .int
  | 59 => .int
  | 60 => .array .int
  | 61 => .array .int
  | 62 => .array .int
  | 63 => .array .int
  | _ => .array .int
abbrev wsX100 : List Cond := u_ws RX10 TX10 65
theorem nmX10 : ∀ a, a < 65 → ∀ b, b < 65 → a ≠ b → (TX10 a).2.1 ≠ (TX10 b).2.1 := by decide +kernel
theorem tyX10_ok : ∀ k, k < 65 → parseFieldDescriptor (TX10 k).2.2.1 = some (tyX10 k) := by decide +kernel
abbrev cX10_end : ByteArray := prog_12_method_4_code
def yX10_end : MethodName := ⟨RX10, "end", "(I)I"⟩
abbrev cX10_byteAt : ByteArray := prog_12_method_5_code
def yX10_byteAt : MethodName := ⟨RX10, "byteAt", "(I)I"⟩
abbrev cX10_isSmall : ByteArray := prog_12_method_6_code
def yX10_isSmall : MethodName := ⟨RX10, "isSmall", "(I)Z"⟩
abbrev cX10_isDigit : ByteArray := prog_12_method_7_code
def yX10_isDigit : MethodName := ⟨RX10, "isDigit", "(I)Z"⟩
abbrev cX10_fails : ByteArray := prog_12_method_10_code
def yX10_fails : MethodName := ⟨RX10, "fails", "(I)Z"⟩
abbrev cX10_chanceOf : ByteArray := prog_12_method_28_code
def yX10_chanceOf : MethodName := ⟨RX10, "chanceOf", "(II)I"⟩
abbrev cX10_feel : ByteArray := prog_12_method_30_code
def yX10_feel : MethodName := ⟨RX10, "feel", "(I)I"⟩
def wsX10_end : List Cond := .code yX10_end cX10_end 2 (some .int) :: ([.fieldLink RX10 112 "PaidBySignsModel" "taped" "I"] ++ wsX100)
def wsX10_byteAt : List Cond := .code yX10_byteAt cX10_byteAt 2 (some .int) :: ([.fieldLink RX10 115 "PaidBySignsModel" "size" "I", .fieldLink RX10 7 "PaidBySignsModel" "tape" "[B"] ++ wsX100)
def wsX10_isSmall : List Cond := .code yX10_isSmall cX10_isSmall 1 (some .boolean) :: ([])
def wsX10_isDigit : List Cond := .code yX10_isDigit cX10_isDigit 1 (some .boolean) :: ([])
def wsX10_fails : List Cond := .code yX10_fails cX10_fails 2 (some .boolean) :: ([.fieldLink RX10 168 "PaidBySignsModel" "faultKind" "I", .fieldLink RX10 137 "PaidBySignsModel" "at" "I", .fieldLink RX10 13 "PaidBySignsModel" "faultPlace" "I"] ++ wsX100)
def wsX10_chanceOf : List Cond := .code yX10_chanceOf cX10_chanceOf 3 (some .int) :: ([.fieldLink RX10 34 "PaidBySignsModel" "chances" "[I"] ++ wsX100)
def wsX10_feel : List Cond := .code yX10_feel cX10_feel 6 (some .int) :: ([.fieldLink RX10 17 "PaidBySignsModel" "num" "[I", .fieldLink RX10 40 "PaidBySignsModel" "marks" "[I", .fieldLink RX10 37 "PaidBySignsModel" "rates" "[I"] ++ wsX100)
theorem dX10_end_0 : decode cX10_end 0 = .ok (.iload_n 1, 1) := by decide +kernel
theorem dX10_end_1 : decode cX10_end 1 = .ok (.ifCond .lt 11, 3) := by decide +kernel
theorem dX10_end_4 : decode cX10_end 4 = .ok (.iload_n 1, 1) := by decide +kernel
theorem dX10_end_5 : decode cX10_end 5 = .ok (.aload_n 0, 1) := by decide +kernel
theorem dX10_end_6 : decode cX10_end 6 = .ok (.getfield 112, 3) := by decide +kernel
theorem dX10_end_9 : decode cX10_end 9 = .ok (.if_icmp .le 5, 3) := by decide +kernel
theorem dX10_end_12 : decode cX10_end 12 = .ok (.iconst (-1), 1) := by decide +kernel
theorem dX10_end_13 : decode cX10_end 13 = .ok (.ireturn, 1) := by decide +kernel
theorem dX10_end_14 : decode cX10_end 14 = .ok (.aload_n 0, 1) := by decide +kernel
theorem dX10_end_15 : decode cX10_end 15 = .ok (.iload_n 1, 1) := by decide +kernel
theorem dX10_end_16 : decode cX10_end 16 = .ok (.putfield 112, 3) := by decide +kernel
theorem dX10_end_19 : decode cX10_end 19 = .ok (.iload_n 1, 1) := by decide +kernel
theorem dX10_end_20 : decode cX10_end 20 = .ok (.ireturn, 1) := by decide +kernel
theorem dX10_byteAt_0 : decode cX10_byteAt 0 = .ok (.iload_n 1, 1) := by decide +kernel
theorem dX10_byteAt_1 : decode cX10_byteAt 1 = .ok (.aload_n 0, 1) := by decide +kernel
theorem dX10_byteAt_2 : decode cX10_byteAt 2 = .ok (.getfield 115, 3) := by decide +kernel
theorem dX10_byteAt_5 : decode cX10_byteAt 5 = .ok (.if_icmp .ge 16, 3) := by decide +kernel
theorem dX10_byteAt_8 : decode cX10_byteAt 8 = .ok (.aload_n 0, 1) := by decide +kernel
theorem dX10_byteAt_9 : decode cX10_byteAt 9 = .ok (.getfield 7, 3) := by decide +kernel
theorem dX10_byteAt_12 : decode cX10_byteAt 12 = .ok (.iload_n 1, 1) := by decide +kernel
theorem dX10_byteAt_13 : decode cX10_byteAt 13 = .ok (.baload, 1) := by decide +kernel
theorem dX10_byteAt_14 : decode cX10_byteAt 14 = .ok (.sipush 255, 3) := by decide +kernel
theorem dX10_byteAt_17 : decode cX10_byteAt 17 = .ok (.iand, 1) := by decide +kernel
theorem dX10_byteAt_18 : decode cX10_byteAt 18 = .ok (.goto 4, 3) := by decide +kernel
theorem dX10_byteAt_21 : decode cX10_byteAt 21 = .ok (.iconst (-1), 1) := by decide +kernel
theorem dX10_byteAt_22 : decode cX10_byteAt 22 = .ok (.ireturn, 1) := by decide +kernel
theorem dX10_isSmall_0 : decode cX10_isSmall 0 = .ok (.iload_n 0, 1) := by decide +kernel
theorem dX10_isSmall_1 : decode cX10_isSmall 1 = .ok (.bipush 97, 2) := by decide +kernel
theorem dX10_isSmall_3 : decode cX10_isSmall 3 = .ok (.if_icmp .lt 13, 3) := by decide +kernel
theorem dX10_isSmall_6 : decode cX10_isSmall 6 = .ok (.iload_n 0, 1) := by decide +kernel
theorem dX10_isSmall_7 : decode cX10_isSmall 7 = .ok (.bipush 122, 2) := by decide +kernel
theorem dX10_isSmall_9 : decode cX10_isSmall 9 = .ok (.if_icmp .gt 7, 3) := by decide +kernel
theorem dX10_isSmall_12 : decode cX10_isSmall 12 = .ok (.iconst 1, 1) := by decide +kernel
theorem dX10_isSmall_13 : decode cX10_isSmall 13 = .ok (.goto 4, 3) := by decide +kernel
theorem dX10_isSmall_16 : decode cX10_isSmall 16 = .ok (.iconst 0, 1) := by decide +kernel
theorem dX10_isSmall_17 : decode cX10_isSmall 17 = .ok (.ireturn, 1) := by decide +kernel
theorem dX10_isDigit_0 : decode cX10_isDigit 0 = .ok (.iload_n 0, 1) := by decide +kernel
theorem dX10_isDigit_1 : decode cX10_isDigit 1 = .ok (.bipush 48, 2) := by decide +kernel
theorem dX10_isDigit_3 : decode cX10_isDigit 3 = .ok (.if_icmp .lt 13, 3) := by decide +kernel
theorem dX10_isDigit_6 : decode cX10_isDigit 6 = .ok (.iload_n 0, 1) := by decide +kernel
theorem dX10_isDigit_7 : decode cX10_isDigit 7 = .ok (.bipush 57, 2) := by decide +kernel
theorem dX10_isDigit_9 : decode cX10_isDigit 9 = .ok (.if_icmp .gt 7, 3) := by decide +kernel
theorem dX10_isDigit_12 : decode cX10_isDigit 12 = .ok (.iconst 1, 1) := by decide +kernel
theorem dX10_isDigit_13 : decode cX10_isDigit 13 = .ok (.goto 4, 3) := by decide +kernel
theorem dX10_isDigit_16 : decode cX10_isDigit 16 = .ok (.iconst 0, 1) := by decide +kernel
theorem dX10_isDigit_17 : decode cX10_isDigit 17 = .ok (.ireturn, 1) := by decide +kernel
theorem dX10_fails_0 : decode cX10_fails 0 = .ok (.aload_n 0, 1) := by decide +kernel
theorem dX10_fails_1 : decode cX10_fails 1 = .ok (.iload_n 1, 1) := by decide +kernel
theorem dX10_fails_2 : decode cX10_fails 2 = .ok (.putfield 168, 3) := by decide +kernel
theorem dX10_fails_5 : decode cX10_fails 5 = .ok (.aload_n 0, 1) := by decide +kernel
theorem dX10_fails_6 : decode cX10_fails 6 = .ok (.aload_n 0, 1) := by decide +kernel
theorem dX10_fails_7 : decode cX10_fails 7 = .ok (.getfield 137, 3) := by decide +kernel
theorem dX10_fails_10 : decode cX10_fails 10 = .ok (.putfield 13, 3) := by decide +kernel
theorem dX10_fails_13 : decode cX10_fails 13 = .ok (.iconst 0, 1) := by decide +kernel
theorem dX10_fails_14 : decode cX10_fails 14 = .ok (.ireturn, 1) := by decide +kernel
theorem dX10_chanceOf_0 : decode cX10_chanceOf 0 = .ok (.aload_n 0, 1) := by decide +kernel
theorem dX10_chanceOf_1 : decode cX10_chanceOf 1 = .ok (.getfield 34, 3) := by decide +kernel
theorem dX10_chanceOf_4 : decode cX10_chanceOf 4 = .ok (.iconst 4, 1) := by decide +kernel
theorem dX10_chanceOf_5 : decode cX10_chanceOf 5 = .ok (.iload_n 1, 1) := by decide +kernel
theorem dX10_chanceOf_6 : decode cX10_chanceOf 6 = .ok (.imul, 1) := by decide +kernel
theorem dX10_chanceOf_7 : decode cX10_chanceOf 7 = .ok (.iload_n 2, 1) := by decide +kernel
theorem dX10_chanceOf_8 : decode cX10_chanceOf 8 = .ok (.iadd, 1) := by decide +kernel
theorem dX10_chanceOf_9 : decode cX10_chanceOf 9 = .ok (.iaload, 1) := by decide +kernel
theorem dX10_chanceOf_10 : decode cX10_chanceOf 10 = .ok (.ireturn, 1) := by decide +kernel
theorem dX10_feel_0 : decode cX10_feel 0 = .ok (.iconst 0, 1) := by decide +kernel
theorem dX10_feel_1 : decode cX10_feel 1 = .ok (.istore_n 2, 1) := by decide +kernel
theorem dX10_feel_2 : decode cX10_feel 2 = .ok (.iconst 0, 1) := by decide +kernel
theorem dX10_feel_3 : decode cX10_feel 3 = .ok (.istore_n 3, 1) := by decide +kernel
theorem dX10_feel_4 : decode cX10_feel 4 = .ok (.iconst 0, 1) := by decide +kernel
theorem dX10_feel_5 : decode cX10_feel 5 = .ok (.istore 4, 2) := by decide +kernel
theorem dX10_feel_7 : decode cX10_feel 7 = .ok (.iload 4, 2) := by decide +kernel
theorem dX10_feel_9 : decode cX10_feel 9 = .ok (.aload_n 0, 1) := by decide +kernel
theorem dX10_feel_10 : decode cX10_feel 10 = .ok (.getfield 17, 3) := by decide +kernel
theorem dX10_feel_13 : decode cX10_feel 13 = .ok (.iconst 5, 1) := by decide +kernel
theorem dX10_feel_14 : decode cX10_feel 14 = .ok (.iaload, 1) := by decide +kernel
theorem dX10_feel_15 : decode cX10_feel 15 = .ok (.if_icmp .ge 70, 3) := by decide +kernel
theorem dX10_feel_18 : decode cX10_feel 18 = .ok (.iload 4, 2) := by decide +kernel
theorem dX10_feel_20 : decode cX10_feel 20 = .ok (.iconst 1, 1) := by decide +kernel
theorem dX10_feel_21 : decode cX10_feel 21 = .ok (.iadd, 1) := by decide +kernel
theorem dX10_feel_22 : decode cX10_feel 22 = .ok (.aload_n 0, 1) := by decide +kernel
theorem dX10_feel_23 : decode cX10_feel 23 = .ok (.getfield 17, 3) := by decide +kernel
theorem dX10_feel_26 : decode cX10_feel 26 = .ok (.iconst 5, 1) := by decide +kernel
theorem dX10_feel_27 : decode cX10_feel 27 = .ok (.iaload, 1) := by decide +kernel
theorem dX10_feel_28 : decode cX10_feel 28 = .ok (.if_icmp .ge 24, 3) := by decide +kernel
theorem dX10_feel_31 : decode cX10_feel 31 = .ok (.aload_n 0, 1) := by decide +kernel
theorem dX10_feel_32 : decode cX10_feel 32 = .ok (.getfield 40, 3) := by decide +kernel
theorem dX10_feel_35 : decode cX10_feel 35 = .ok (.iload 4, 2) := by decide +kernel
theorem dX10_feel_37 : decode cX10_feel 37 = .ok (.iaload, 1) := by decide +kernel
theorem dX10_feel_38 : decode cX10_feel 38 = .ok (.iload_n 1, 1) := by decide +kernel
theorem dX10_feel_39 : decode cX10_feel 39 = .ok (.if_icmp .ge 13, 3) := by decide +kernel
theorem dX10_feel_42 : decode cX10_feel 42 = .ok (.aload_n 0, 1) := by decide +kernel
theorem dX10_feel_43 : decode cX10_feel 43 = .ok (.getfield 40, 3) := by decide +kernel
theorem dX10_feel_46 : decode cX10_feel 46 = .ok (.iload 4, 2) := by decide +kernel
theorem dX10_feel_48 : decode cX10_feel 48 = .ok (.iaload, 1) := by decide +kernel
theorem dX10_feel_49 : decode cX10_feel 49 = .ok (.goto 4, 3) := by decide +kernel
theorem dX10_feel_52 : decode cX10_feel 52 = .ok (.iload_n 1, 1) := by decide +kernel
theorem dX10_feel_53 : decode cX10_feel 53 = .ok (.istore 5, 2) := by decide +kernel
theorem dX10_feel_55 : decode cX10_feel 55 = .ok (.iload 5, 2) := by decide +kernel
theorem dX10_feel_57 : decode cX10_feel 57 = .ok (.iload_n 3, 1) := by decide +kernel
theorem dX10_feel_58 : decode cX10_feel 58 = .ok (.if_icmp .le 18, 3) := by decide +kernel
theorem dX10_feel_61 : decode cX10_feel 61 = .ok (.iload_n 2, 1) := by decide +kernel
theorem dX10_feel_62 : decode cX10_feel 62 = .ok (.aload_n 0, 1) := by decide +kernel
theorem dX10_feel_63 : decode cX10_feel 63 = .ok (.getfield 37, 3) := by decide +kernel
theorem dX10_feel_66 : decode cX10_feel 66 = .ok (.iload 4, 2) := by decide +kernel
theorem dX10_feel_68 : decode cX10_feel 68 = .ok (.iaload, 1) := by decide +kernel
theorem dX10_feel_69 : decode cX10_feel 69 = .ok (.iload 5, 2) := by decide +kernel
theorem dX10_feel_71 : decode cX10_feel 71 = .ok (.iload_n 3, 1) := by decide +kernel
theorem dX10_feel_72 : decode cX10_feel 72 = .ok (.isub, 1) := by decide +kernel
theorem dX10_feel_73 : decode cX10_feel 73 = .ok (.imul, 1) := by decide +kernel
theorem dX10_feel_74 : decode cX10_feel 74 = .ok (.iadd, 1) := by decide +kernel
theorem dX10_feel_75 : decode cX10_feel 75 = .ok (.istore_n 2, 1) := by decide +kernel
theorem dX10_feel_76 : decode cX10_feel 76 = .ok (.iload 5, 2) := by decide +kernel
theorem dX10_feel_78 : decode cX10_feel 78 = .ok (.istore_n 3, 1) := by decide +kernel
theorem dX10_feel_79 : decode cX10_feel 79 = .ok (.iinc 4 1, 3) := by decide +kernel
theorem dX10_feel_82 : decode cX10_feel 82 = .ok (.goto (-75), 3) := by decide +kernel
theorem dX10_feel_85 : decode cX10_feel 85 = .ok (.iload_n 2, 1) := by decide +kernel
theorem dX10_feel_86 : decode cX10_feel 86 = .ok (.ireturn, 1) := by decide +kernel
abbrev vwCl : List vw_C := [(RX0, TX0, 11), (RX1, TX1, 9), (RX2, TX2, 2), (RX3, TX3, 11), (RX4, TX4, 12), (RX5, TX5, 5), (RX6, TX6, 4), (RX7, TX7, 14), (RX8, TX8, 7), (RX9, TX9, 14), (RX10, TX10, 65)]
theorem kk_X10_end_0 : Cond.fieldLink RX10 112 "PaidBySignsModel" "taped" "I" ∈ wsX10_end := by decide +kernel
theorem kk_X10_byteAt_0 : Cond.fieldLink RX10 115 "PaidBySignsModel" "size" "I" ∈ wsX10_byteAt := by decide +kernel
theorem kk_X10_byteAt_1 : Cond.fieldLink RX10 7 "PaidBySignsModel" "tape" "[B" ∈ wsX10_byteAt := by decide +kernel
theorem kk_X10_fails_0 : Cond.fieldLink RX10 168 "PaidBySignsModel" "faultKind" "I" ∈ wsX10_fails := by decide +kernel
theorem kk_X10_fails_1 : Cond.fieldLink RX10 137 "PaidBySignsModel" "at" "I" ∈ wsX10_fails := by decide +kernel
theorem kk_X10_fails_2 : Cond.fieldLink RX10 13 "PaidBySignsModel" "faultPlace" "I" ∈ wsX10_fails := by decide +kernel
theorem kk_X10_chanceOf_0 : Cond.fieldLink RX10 34 "PaidBySignsModel" "chances" "[I" ∈ wsX10_chanceOf := by decide +kernel
theorem kk_X10_feel_0 : Cond.fieldLink RX10 17 "PaidBySignsModel" "num" "[I" ∈ wsX10_feel := by decide +kernel
theorem kk_X10_feel_1 : Cond.fieldLink RX10 37 "PaidBySignsModel" "rates" "[I" ∈ wsX10_feel := by decide +kernel
theorem kk_X10_feel_2 : Cond.fieldLink RX10 40 "PaidBySignsModel" "marks" "[I" ∈ wsX10_feel := by decide +kernel
theorem iw_X10_end_X10 : ∀ w ∈ wsX100, w ∈ wsX10_end := by decide +kernel
theorem iw_X10_byteAt_X10 : ∀ w ∈ wsX100, w ∈ wsX10_byteAt := by decide +kernel
theorem iw_X10_fails_X10 : ∀ w ∈ wsX100, w ∈ wsX10_fails := by decide +kernel
theorem iw_X10_chanceOf_X10 : ∀ w ∈ wsX100, w ∈ wsX10_chanceOf := by decide +kernel
theorem iw_X10_feel_X10 : ∀ w ∈ wsX100, w ∈ wsX10_feel := by decide +kernel
set_option maxHeartbeats 4000000 in
set_option maxRecDepth 100000 in
theorem ct_X10_end (l : Launch) (dC : Nat → ClassId) (dI : Nat → Nat → Nat) (o : Nat) (p0 : Int32) (q_tape : Nat) (m_taped : Int32) (m_size : Int32) (m_sort : Int32) (m_key : Int32) (m_at : Int32) (m_end : Int32) (m_number : Int32) (m_faultKind : Int32) (m_faultPlace : Int32) (m_word : Int64) (m_got : Int32) (q_num : Nat) (q_signName : Nat) (q_workName : Nat) (q_brings : Nat) (q_costs : Nat) (q_chances : Nat) (q_rates : Nat) (q_marks : Nat) (m_seen : Int32) (q_hand : Nat) (m_hasFraction : Int32) (m_upper : Int64) (m_lower : Int64) (m_groups : Int32) (m_bounds : Int32) (q_groupOf : Nat) (q_row : Nat) (q_least : Nat) (m_asked : Int32) (q_chosen : Nat) (q_matrix : Nat) (q_x : Nat) (m_det : Int64) (q_wageUp : Nat) (q_wageLow : Nat) (m_isFound : Int32) (m_costUp : Int64) (m_costLow : Int64) (q_bestUp : Nat) (q_bestLow : Nat) (m_hasWages : Int32) (m_wageMany : Int32) (q_toldUp : Nat) (q_toldLow : Nat) (m_bestLeftUp : Int64) (m_bestLeftLow : Int64) (q_coin : Nat) (m_fromUp : Int64) (m_fromLow : Int64) (m_toUp : Int64) (m_toLow : Int64) (m_canBe : Int32) (q_presses : Nat) (q_mixes : Nat) (m_lowerPress : Int32) (m_seenMany : Int32) (m_rightMany : Int32) (m_lastTold : Int32) (q_sTold : Nat) (q_sSign : Nat) (q_rOf : Nat) (q_rTold : Nat) (q_rSign : Nat) (hm_taped : iv m_taped 0 900) (sz : Nat) : Met l yX10_end wsX10_end ({ frames := 0, cells := 0, slots := 0, locals := 0 }) (va_Pc [.ref o, .int p0] (fun U => U.heap.size = sz ∧ va_P (dC, dI) vwCl [(o, .inr (10, [.ref q_tape, .int m_taped, .int m_size, .int m_sort, .int m_key, .int m_at, .int m_end, .int m_number, .int m_faultKind, .int m_faultPlace, .long m_word, .int m_got, .ref q_num, .ref q_signName, .ref q_workName, .ref q_brings, .ref q_costs, .ref q_chances, .ref q_rates, .ref q_marks, .int m_seen, .ref q_hand, .int m_hasFraction, .long m_upper, .long m_lower, .int m_groups, .int m_bounds, .ref q_groupOf, .ref q_row, .ref q_least, .int m_asked, .ref q_chosen, .ref q_matrix, .ref q_x, .long m_det, .ref q_wageUp, .ref q_wageLow, .int m_isFound, .long m_costUp, .long m_costLow, .ref q_bestUp, .ref q_bestLow, .int m_hasWages, .int m_wageMany, .ref q_toldUp, .ref q_toldLow, .long m_bestLeftUp, .long m_bestLeftLow, .ref q_coin, .long m_fromUp, .long m_fromLow, .long m_toUp, .long m_toLow, .int m_canBe, .ref q_presses, .ref q_mixes, .int m_lowerPress, .int m_seenMany, .int m_rightMany, .int m_lastTold, .ref q_sTold, .ref q_sSign, .ref q_rOf, .ref q_rTold, .ref q_rSign]))] U.heap ∧ va_K (dC, dI) vwCl [] U ∧ va_D (fun _ => True) [(o, .inr (10, [.ref q_tape, .int m_taped, .int m_size, .int m_sort, .int m_key, .int m_at, .int m_end, .int m_number, .int m_faultKind, .int m_faultPlace, .long m_word, .int m_got, .ref q_num, .ref q_signName, .ref q_workName, .ref q_brings, .ref q_costs, .ref q_chances, .ref q_rates, .ref q_marks, .int m_seen, .ref q_hand, .int m_hasFraction, .long m_upper, .long m_lower, .int m_groups, .int m_bounds, .ref q_groupOf, .ref q_row, .ref q_least, .int m_asked, .ref q_chosen, .ref q_matrix, .ref q_x, .long m_det, .ref q_wageUp, .ref q_wageLow, .int m_isFound, .long m_costUp, .long m_costLow, .ref q_bestUp, .ref q_bestLow, .int m_hasWages, .int m_wageMany, .ref q_toldUp, .ref q_toldLow, .long m_bestLeftUp, .long m_bestLeftLow, .ref q_coin, .long m_fromUp, .long m_fromLow, .long m_toUp, .long m_toLow, .int m_canBe, .ref q_presses, .ref q_mixes, .int m_lowerPress, .int m_seenMany, .int m_rightMany, .int m_lastTold, .ref q_sTold, .ref q_sSign, .ref q_rOf, .ref q_rTold, .ref q_rSign]))])) (va_Qi (fun (r u : Int32) => u = r) (fun (r : Int32) t => ∃ (e_m_taped : Int32), iv e_m_taped 0 900 ∧ iv r (-1) 900 ∧ va_P (dC, dI) vwCl [(o, .inr (10, [.ref q_tape, .int e_m_taped, .int m_size, .int m_sort, .int m_key, .int m_at, .int m_end, .int m_number, .int m_faultKind, .int m_faultPlace, .long m_word, .int m_got, .ref q_num, .ref q_signName, .ref q_workName, .ref q_brings, .ref q_costs, .ref q_chances, .ref q_rates, .ref q_marks, .int m_seen, .ref q_hand, .int m_hasFraction, .long m_upper, .long m_lower, .int m_groups, .int m_bounds, .ref q_groupOf, .ref q_row, .ref q_least, .int m_asked, .ref q_chosen, .ref q_matrix, .ref q_x, .long m_det, .ref q_wageUp, .ref q_wageLow, .int m_isFound, .long m_costUp, .long m_costLow, .ref q_bestUp, .ref q_bestLow, .int m_hasWages, .int m_wageMany, .ref q_toldUp, .ref q_toldLow, .long m_bestLeftUp, .long m_bestLeftLow, .ref q_coin, .long m_fromUp, .long m_fromLow, .long m_toUp, .long m_toLow, .int m_canBe, .ref q_presses, .ref q_mixes, .int m_lowerPress, .int m_seenMany, .int m_rightMany, .int m_lastTold, .ref q_sTold, .ref q_sSign, .ref q_rOf, .ref q_rTold, .ref q_rSign]))] t.heap ∧ va_D (va_A [(o, .inr (10, [.ref q_tape, .int m_taped, .int m_size, .int m_sort, .int m_key, .int m_at, .int m_end, .int m_number, .int m_faultKind, .int m_faultPlace, .long m_word, .int m_got, .ref q_num, .ref q_signName, .ref q_workName, .ref q_brings, .ref q_costs, .ref q_chances, .ref q_rates, .ref q_marks, .int m_seen, .ref q_hand, .int m_hasFraction, .long m_upper, .long m_lower, .int m_groups, .int m_bounds, .ref q_groupOf, .ref q_row, .ref q_least, .int m_asked, .ref q_chosen, .ref q_matrix, .ref q_x, .long m_det, .ref q_wageUp, .ref q_wageLow, .int m_isFound, .long m_costUp, .long m_costLow, .ref q_bestUp, .ref q_bestLow, .int m_hasWages, .int m_wageMany, .ref q_toldUp, .ref q_toldLow, .long m_bestLeftUp, .long m_bestLeftLow, .ref q_coin, .long m_fromUp, .long m_fromLow, .long m_toUp, .long m_toLow, .int m_canBe, .ref q_presses, .ref q_mixes, .int m_lowerPress, .int m_seenMany, .int m_rightMany, .int m_lastTold, .ref q_sTold, .ref q_sSign, .ref q_rOf, .ref q_rTold, .ref q_rSign]))] sz) [(o, .inr (10, [.ref q_tape, .int e_m_taped, .int m_size, .int m_sort, .int m_key, .int m_at, .int m_end, .int m_number, .int m_faultKind, .int m_faultPlace, .long m_word, .int m_got, .ref q_num, .ref q_signName, .ref q_workName, .ref q_brings, .ref q_costs, .ref q_chances, .ref q_rates, .ref q_marks, .int m_seen, .ref q_hand, .int m_hasFraction, .long m_upper, .long m_lower, .int m_groups, .int m_bounds, .ref q_groupOf, .ref q_row, .ref q_least, .int m_asked, .ref q_chosen, .ref q_matrix, .ref q_x, .long m_det, .ref q_wageUp, .ref q_wageLow, .int m_isFound, .long m_costUp, .long m_costLow, .ref q_bestUp, .ref q_bestLow, .int m_hasWages, .int m_wageMany, .ref q_toldUp, .ref q_toldLow, .long m_bestLeftUp, .long m_bestLeftLow, .ref q_coin, .long m_fromUp, .long m_fromLow, .long m_toUp, .long m_toLow, .int m_canBe, .ref q_presses, .ref q_mixes, .int m_lowerPress, .int m_seenMany, .int m_rightMany, .int m_lastTold, .ref q_sTold, .ref q_sSign, .ref q_rOf, .ref q_rTold, .ref q_rSign]))]) (va_A [(o, .inr (10, [.ref q_tape, .int m_taped, .int m_size, .int m_sort, .int m_key, .int m_at, .int m_end, .int m_number, .int m_faultKind, .int m_faultPlace, .long m_word, .int m_got, .ref q_num, .ref q_signName, .ref q_workName, .ref q_brings, .ref q_costs, .ref q_chances, .ref q_rates, .ref q_marks, .int m_seen, .ref q_hand, .int m_hasFraction, .long m_upper, .long m_lower, .int m_groups, .int m_bounds, .ref q_groupOf, .ref q_row, .ref q_least, .int m_asked, .ref q_chosen, .ref q_matrix, .ref q_x, .long m_det, .ref q_wageUp, .ref q_wageLow, .int m_isFound, .long m_costUp, .long m_costLow, .ref q_bestUp, .ref q_bestLow, .int m_hasWages, .int m_wageMany, .ref q_toldUp, .ref q_toldLow, .long m_bestLeftUp, .long m_bestLeftLow, .ref q_coin, .long m_fromUp, .long m_fromLow, .long m_toUp, .long m_toLow, .int m_canBe, .ref q_presses, .ref q_mixes, .int m_lowerPress, .int m_seenMany, .int m_rightMany, .int m_lastTold, .ref q_sTold, .ref q_sSign, .ref q_rOf, .ref q_rTold, .ref q_rSign]))] sz)) 0 0 (va_A [(o, .inr (10, [.ref q_tape, .int m_taped, .int m_size, .int m_sort, .int m_key, .int m_at, .int m_end, .int m_number, .int m_faultKind, .int m_faultPlace, .long m_word, .int m_got, .ref q_num, .ref q_signName, .ref q_workName, .ref q_brings, .ref q_costs, .ref q_chances, .ref q_rates, .ref q_marks, .int m_seen, .ref q_hand, .int m_hasFraction, .long m_upper, .long m_lower, .int m_groups, .int m_bounds, .ref q_groupOf, .ref q_row, .ref q_least, .int m_asked, .ref q_chosen, .ref q_matrix, .ref q_x, .long m_det, .ref q_wageUp, .ref q_wageLow, .int m_isFound, .long m_costUp, .long m_costLow, .ref q_bestUp, .ref q_bestLow, .int m_hasWages, .int m_wageMany, .ref q_toldUp, .ref q_toldLow, .long m_bestLeftUp, .long m_bestLeftLow, .ref q_coin, .long m_fromUp, .long m_fromLow, .long m_toUp, .long m_toLow, .int m_canBe, .ref q_presses, .ref q_mixes, .int m_lowerPress, .int m_seenMany, .int m_rightMany, .int m_lastTold, .ref q_sTold, .ref q_sSign, .ref q_rOf, .ref q_rTold, .ref q_rSign]))] sz) := by
  refine Met.ofW (cc := cX10_end) (maxL := 2) (ret := (some .int)) (by decide) rfl ?_
  intro p e s m args below meth c s₁ B hml hv
  obtain ⟨rfl, hsz, hP, hK, hD0⟩ := hv
  have hx := B.exec
  have hb := B.bytes
  have hr := B.returns
  have hts := atoms_spec (ws := wsX10_end) B.pre
  have hown : s.vm.findClass RX10 = some m.cls := findClass_of_methodNamed B.named
  have hlocks := B.notSynchronized
  subst hsz
  have hD := hD0.self (sz := s.heap.size)
  generalize hAe : va_A [(o, .inr (10, [.ref q_tape, .int m_taped, .int m_size, .int m_sort, .int m_key, .int m_at, .int m_end, .int m_number, .int m_faultKind, .int m_faultPlace, .long m_word, .int m_got, .ref q_num, .ref q_signName, .ref q_workName, .ref q_brings, .ref q_costs, .ref q_chances, .ref q_rates, .ref q_marks, .int m_seen, .ref q_hand, .int m_hasFraction, .long m_upper, .long m_lower, .int m_groups, .int m_bounds, .ref q_groupOf, .ref q_row, .ref q_least, .int m_asked, .ref q_chosen, .ref q_matrix, .ref q_x, .long m_det, .ref q_wageUp, .ref q_wageLow, .int m_isFound, .long m_costUp, .long m_costLow, .ref q_bestUp, .ref q_bestLow, .int m_hasWages, .int m_wageMany, .ref q_toldUp, .ref q_toldLow, .long m_bestLeftUp, .long m_bestLeftLow, .ref q_coin, .long m_fromUp, .long m_fromLow, .long m_toUp, .long m_toLow, .int m_canBe, .ref q_presses, .ref q_mixes, .int m_lowerPress, .int m_seenMany, .int m_rightMany, .int m_lastTold, .ref q_sTold, .ref q_sSign, .ref q_rOf, .ref q_rTold, .ref q_rSign]))] s.heap.size = A at hD ⊢
  have hA : ∀ q : Nat, s.heap.size ≤ q → A q := fun q h => by rw [← hAe]; exact Or.inr h
  have hS : va_S A s.heap s.heap [] := va_S.rf
  have hP : va_P (dC, dI) vwCl [(o, .inr (10, [.ref q_tape, .int m_taped, .int m_size, .int m_sort, .int m_key, .int m_at, .int m_end, .int m_number, .int m_faultKind, .int m_faultPlace, .long m_word, .int m_got, .ref q_num, .ref q_signName, .ref q_workName, .ref q_brings, .ref q_costs, .ref q_chances, .ref q_rates, .ref q_marks, .int m_seen, .ref q_hand, .int m_hasFraction, .long m_upper, .long m_lower, .int m_groups, .int m_bounds, .ref q_groupOf, .ref q_row, .ref q_least, .int m_asked, .ref q_chosen, .ref q_matrix, .ref q_x, .long m_det, .ref q_wageUp, .ref q_wageLow, .int m_isFound, .long m_costUp, .long m_costLow, .ref q_bestUp, .ref q_bestLow, .int m_hasWages, .int m_wageMany, .ref q_toldUp, .ref q_toldLow, .long m_bestLeftUp, .long m_bestLeftLow, .ref q_coin, .long m_fromUp, .long m_fromLow, .long m_toUp, .long m_toLow, .int m_canBe, .ref q_presses, .ref q_mixes, .int m_lowerPress, .int m_seenMany, .int m_rightMany, .int m_lastTold, .ref q_sTold, .ref q_sSign, .ref q_rOf, .ref q_rTold, .ref q_rSign]))] s.heap := hP
  have hl := lv_entry ([.ref o, .int p0]) (n := 2) (Nat.le_of_ble_eq_true rfl)
  rw [lg_entry_eq]
  generalize (lg_sl ([.ref o, .int p0]) ++ List.replicate (2 - (lg_sl ([.ref o, .int p0])).length) Slot.unset).toArray = ls at hl ⊢
  have hl : lv_has ls 2 [(0, .ref o), (1, .int p0)] := hl
  refine lv_iload_n hx hb dX10_end_0 rfl (lv_at hl 1 rfl) ?_
  refine lv_if_lt (tgt := 12) hx hb dX10_end_1 (by decide) (fun c1 => ?_) (fun c1 => ?_)
  · have c19 := i32_lt c1 rfl (show (0 : Int32).toInt = 0 by decide)
    refine lv_iconst (v := (-1)) hx hb dX10_end_12 (by decide) ?_
    have hP9 := hP.sub (ws' := [(o, .inr (10, [.ref q_tape, .int m_taped, .int m_size, .int m_sort, .int m_key, .int m_at, .int m_end, .int m_number, .int m_faultKind, .int m_faultPlace, .long m_word, .int m_got, .ref q_num, .ref q_signName, .ref q_workName, .ref q_brings, .ref q_costs, .ref q_chances, .ref q_rates, .ref q_marks, .int m_seen, .ref q_hand, .int m_hasFraction, .long m_upper, .long m_lower, .int m_groups, .int m_bounds, .ref q_groupOf, .ref q_row, .ref q_least, .int m_asked, .ref q_chosen, .ref q_matrix, .ref q_x, .long m_det, .ref q_wageUp, .ref q_wageLow, .int m_isFound, .long m_costUp, .long m_costLow, .ref q_bestUp, .ref q_bestLow, .int m_hasWages, .int m_wageMany, .ref q_toldUp, .ref q_toldLow, .long m_bestLeftUp, .long m_bestLeftLow, .ref q_coin, .long m_fromUp, .long m_fromLow, .long m_toUp, .long m_toLow, .int m_canBe, .ref q_presses, .ref q_mixes, .int m_lowerPress, .int m_seenMany, .int m_rightMany, .int m_lastTold, .ref q_sTold, .ref q_sSign, .ref q_rOf, .ref q_rTold, .ref q_rSign]))]) [0] rfl
    have hD9 := hD.sub (ws' := [(o, .inr (10, [.ref q_tape, .int m_taped, .int m_size, .int m_sort, .int m_key, .int m_at, .int m_end, .int m_number, .int m_faultKind, .int m_faultPlace, .long m_word, .int m_got, .ref q_num, .ref q_signName, .ref q_workName, .ref q_brings, .ref q_costs, .ref q_chances, .ref q_rates, .ref q_marks, .int m_seen, .ref q_hand, .int m_hasFraction, .long m_upper, .long m_lower, .int m_groups, .int m_bounds, .ref q_groupOf, .ref q_row, .ref q_least, .int m_asked, .ref q_chosen, .ref q_matrix, .ref q_x, .long m_det, .ref q_wageUp, .ref q_wageLow, .int m_isFound, .long m_costUp, .long m_costLow, .ref q_bestUp, .ref q_bestLow, .int m_hasWages, .int m_wageMany, .ref q_toldUp, .ref q_toldLow, .long m_bestLeftUp, .long m_bestLeftLow, .ref q_coin, .long m_fromUp, .long m_fromLow, .long m_toUp, .long m_toLow, .int m_canBe, .ref q_presses, .ref q_mixes, .int m_lowerPress, .int m_seenMany, .int m_rightMany, .int m_lastTold, .ref q_sTold, .ref q_sSign, .ref q_rOf, .ref q_rTold, .ref q_rSign]))]) [0] (by decide) rfl
    exact W.iret (v := (-1)) hx hb hr (fun t ht hW => ⟨⟨(-1), (-1), rfl, rfl, m_taped, hm_taped, (iv.m (by decide)), by rw [ht]; exact hP9, hD9⟩, hS.F ht⟩) hS.2.2 dX10_end_13
  · have c19 := i32_nlt c1 rfl (show (0 : Int32).toInt = 0 by decide)
    refine lv_iload_n hx hb dX10_end_4 rfl (lv_at hl 1 rfl) ?_
    refine lv_aload_n hx hb dX10_end_5 rfl (lv_at hl 0 rfl) ?_
    refine va_get (D := (dC, dI)) (ci := 10) (v := .int m_taped) (C := RX10) (T := TX10) (N := 65) hx hb hts iw_X10_end_X10 hown hK hP 0 rfl rfl 1 (by decide) (hts _ kk_X10_end_0) (fun _ h9 => h9) rfl dX10_end_6 ?_
    have bm_taped := hm_taped.u
    refine lv_icmp_le (tgt := 14) hx hb dX10_end_9 (by decide) (fun c2 => ?_) (fun c2 => ?_)
    · have c29 := i32_le c2 rfl rfl
      refine lv_aload_n hx hb dX10_end_14 rfl (lv_at hl 0 rfl) ?_
      refine lv_iload_n hx hb dX10_end_15 rfl (lv_at hl 1 rfl) ?_
      refine va_put (D := (dC, dI)) (ci := 10) (v := .int p0) (ty := .int) (C := RX10) (T := TX10) (N := 65) hx hb hts iw_X10_end_X10 tyX10 tyX10_ok nmX10 hown hK hP hD hS 0 rfl rfl 1 (by decide) (hts _ kk_X10_end_0) (fun _ h9 => h9) rfl (by decide +kernel) rfl rfl (Nat.le_of_ble_eq_true rfl) dX10_end_16 (fun H locs hP hD hS => ?_)
      have hP : va_P (dC, dI) vwCl [(o, .inr (10, [.ref q_tape, .int p0, .int m_size, .int m_sort, .int m_key, .int m_at, .int m_end, .int m_number, .int m_faultKind, .int m_faultPlace, .long m_word, .int m_got, .ref q_num, .ref q_signName, .ref q_workName, .ref q_brings, .ref q_costs, .ref q_chances, .ref q_rates, .ref q_marks, .int m_seen, .ref q_hand, .int m_hasFraction, .long m_upper, .long m_lower, .int m_groups, .int m_bounds, .ref q_groupOf, .ref q_row, .ref q_least, .int m_asked, .ref q_chosen, .ref q_matrix, .ref q_x, .long m_det, .ref q_wageUp, .ref q_wageLow, .int m_isFound, .long m_costUp, .long m_costLow, .ref q_bestUp, .ref q_bestLow, .int m_hasWages, .int m_wageMany, .ref q_toldUp, .ref q_toldLow, .long m_bestLeftUp, .long m_bestLeftLow, .ref q_coin, .long m_fromUp, .long m_fromLow, .long m_toUp, .long m_toLow, .int m_canBe, .ref q_presses, .ref q_mixes, .int m_lowerPress, .int m_seenMany, .int m_rightMany, .int m_lastTold, .ref q_sTold, .ref q_sSign, .ref q_rOf, .ref q_rTold, .ref q_rSign]))] H := hP
      have hD : va_D A [(o, .inr (10, [.ref q_tape, .int p0, .int m_size, .int m_sort, .int m_key, .int m_at, .int m_end, .int m_number, .int m_faultKind, .int m_faultPlace, .long m_word, .int m_got, .ref q_num, .ref q_signName, .ref q_workName, .ref q_brings, .ref q_costs, .ref q_chances, .ref q_rates, .ref q_marks, .int m_seen, .ref q_hand, .int m_hasFraction, .long m_upper, .long m_lower, .int m_groups, .int m_bounds, .ref q_groupOf, .ref q_row, .ref q_least, .int m_asked, .ref q_chosen, .ref q_matrix, .ref q_x, .long m_det, .ref q_wageUp, .ref q_wageLow, .int m_isFound, .long m_costUp, .long m_costLow, .ref q_bestUp, .ref q_bestLow, .int m_hasWages, .int m_wageMany, .ref q_toldUp, .ref q_toldLow, .long m_bestLeftUp, .long m_bestLeftLow, .ref q_coin, .long m_fromUp, .long m_fromLow, .long m_toUp, .long m_toLow, .int m_canBe, .ref q_presses, .ref q_mixes, .int m_lowerPress, .int m_seenMany, .int m_rightMany, .int m_lastTold, .ref q_sTold, .ref q_sSign, .ref q_rOf, .ref q_rTold, .ref q_rSign]))] := hD
      refine lv_iload_n hx hb dX10_end_19 rfl (lv_at hl 1 rfl) ?_
      have hP9 := hP.sub (ws' := [(o, .inr (10, [.ref q_tape, .int p0, .int m_size, .int m_sort, .int m_key, .int m_at, .int m_end, .int m_number, .int m_faultKind, .int m_faultPlace, .long m_word, .int m_got, .ref q_num, .ref q_signName, .ref q_workName, .ref q_brings, .ref q_costs, .ref q_chances, .ref q_rates, .ref q_marks, .int m_seen, .ref q_hand, .int m_hasFraction, .long m_upper, .long m_lower, .int m_groups, .int m_bounds, .ref q_groupOf, .ref q_row, .ref q_least, .int m_asked, .ref q_chosen, .ref q_matrix, .ref q_x, .long m_det, .ref q_wageUp, .ref q_wageLow, .int m_isFound, .long m_costUp, .long m_costLow, .ref q_bestUp, .ref q_bestLow, .int m_hasWages, .int m_wageMany, .ref q_toldUp, .ref q_toldLow, .long m_bestLeftUp, .long m_bestLeftLow, .ref q_coin, .long m_fromUp, .long m_fromLow, .long m_toUp, .long m_toLow, .int m_canBe, .ref q_presses, .ref q_mixes, .int m_lowerPress, .int m_seenMany, .int m_rightMany, .int m_lastTold, .ref q_sTold, .ref q_sSign, .ref q_rOf, .ref q_rTold, .ref q_rSign]))]) [0] rfl
      have hD9 := hD.sub (ws' := [(o, .inr (10, [.ref q_tape, .int p0, .int m_size, .int m_sort, .int m_key, .int m_at, .int m_end, .int m_number, .int m_faultKind, .int m_faultPlace, .long m_word, .int m_got, .ref q_num, .ref q_signName, .ref q_workName, .ref q_brings, .ref q_costs, .ref q_chances, .ref q_rates, .ref q_marks, .int m_seen, .ref q_hand, .int m_hasFraction, .long m_upper, .long m_lower, .int m_groups, .int m_bounds, .ref q_groupOf, .ref q_row, .ref q_least, .int m_asked, .ref q_chosen, .ref q_matrix, .ref q_x, .long m_det, .ref q_wageUp, .ref q_wageLow, .int m_isFound, .long m_costUp, .long m_costLow, .ref q_bestUp, .ref q_bestLow, .int m_hasWages, .int m_wageMany, .ref q_toldUp, .ref q_toldLow, .long m_bestLeftUp, .long m_bestLeftLow, .ref q_coin, .long m_fromUp, .long m_fromLow, .long m_toUp, .long m_toLow, .int m_canBe, .ref q_presses, .ref q_mixes, .int m_lowerPress, .int m_seenMany, .int m_rightMany, .int m_lastTold, .ref q_sTold, .ref q_sSign, .ref q_rOf, .ref q_rTold, .ref q_rSign]))]) [0] (by decide) rfl
      exact W.iret (v := p0) hx hb hr (fun t ht hW => ⟨⟨p0, p0, rfl, rfl, p0, (iv.m (by omega)), (iv.m (by omega)), by rw [ht]; exact hP9, hD9⟩, hS.F ht⟩) hS.2.2 dX10_end_20
    · have c29 := i32_nle c2 rfl rfl
      refine lv_iconst (v := (-1)) hx hb dX10_end_12 (by decide) ?_
      have hP9 := hP.sub (ws' := [(o, .inr (10, [.ref q_tape, .int m_taped, .int m_size, .int m_sort, .int m_key, .int m_at, .int m_end, .int m_number, .int m_faultKind, .int m_faultPlace, .long m_word, .int m_got, .ref q_num, .ref q_signName, .ref q_workName, .ref q_brings, .ref q_costs, .ref q_chances, .ref q_rates, .ref q_marks, .int m_seen, .ref q_hand, .int m_hasFraction, .long m_upper, .long m_lower, .int m_groups, .int m_bounds, .ref q_groupOf, .ref q_row, .ref q_least, .int m_asked, .ref q_chosen, .ref q_matrix, .ref q_x, .long m_det, .ref q_wageUp, .ref q_wageLow, .int m_isFound, .long m_costUp, .long m_costLow, .ref q_bestUp, .ref q_bestLow, .int m_hasWages, .int m_wageMany, .ref q_toldUp, .ref q_toldLow, .long m_bestLeftUp, .long m_bestLeftLow, .ref q_coin, .long m_fromUp, .long m_fromLow, .long m_toUp, .long m_toLow, .int m_canBe, .ref q_presses, .ref q_mixes, .int m_lowerPress, .int m_seenMany, .int m_rightMany, .int m_lastTold, .ref q_sTold, .ref q_sSign, .ref q_rOf, .ref q_rTold, .ref q_rSign]))]) [0] rfl
      have hD9 := hD.sub (ws' := [(o, .inr (10, [.ref q_tape, .int m_taped, .int m_size, .int m_sort, .int m_key, .int m_at, .int m_end, .int m_number, .int m_faultKind, .int m_faultPlace, .long m_word, .int m_got, .ref q_num, .ref q_signName, .ref q_workName, .ref q_brings, .ref q_costs, .ref q_chances, .ref q_rates, .ref q_marks, .int m_seen, .ref q_hand, .int m_hasFraction, .long m_upper, .long m_lower, .int m_groups, .int m_bounds, .ref q_groupOf, .ref q_row, .ref q_least, .int m_asked, .ref q_chosen, .ref q_matrix, .ref q_x, .long m_det, .ref q_wageUp, .ref q_wageLow, .int m_isFound, .long m_costUp, .long m_costLow, .ref q_bestUp, .ref q_bestLow, .int m_hasWages, .int m_wageMany, .ref q_toldUp, .ref q_toldLow, .long m_bestLeftUp, .long m_bestLeftLow, .ref q_coin, .long m_fromUp, .long m_fromLow, .long m_toUp, .long m_toLow, .int m_canBe, .ref q_presses, .ref q_mixes, .int m_lowerPress, .int m_seenMany, .int m_rightMany, .int m_lastTold, .ref q_sTold, .ref q_sSign, .ref q_rOf, .ref q_rTold, .ref q_rSign]))]) [0] (by decide) rfl
      exact W.iret (v := (-1)) hx hb hr (fun t ht hW => ⟨⟨(-1), (-1), rfl, rfl, m_taped, hm_taped, (iv.m (by decide)), by rw [ht]; exact hP9, hD9⟩, hS.F ht⟩) hS.2.2 dX10_end_13

set_option maxHeartbeats 4000000 in
set_option maxRecDepth 100000 in
theorem ct_X10_byteAt (l : Launch) (dC : Nat → ClassId) (dI : Nat → Nat → Nat) (o : Nat) (p0 : Int32) (q_tape : Nat) (m_taped : Int32) (m_size : Int32) (m_sort : Int32) (m_key : Int32) (m_at : Int32) (m_end : Int32) (m_number : Int32) (m_faultKind : Int32) (m_faultPlace : Int32) (m_word : Int64) (m_got : Int32) (q_num : Nat) (q_signName : Nat) (q_workName : Nat) (q_brings : Nat) (q_costs : Nat) (q_chances : Nat) (q_rates : Nat) (q_marks : Nat) (m_seen : Int32) (q_hand : Nat) (m_hasFraction : Int32) (m_upper : Int64) (m_lower : Int64) (m_groups : Int32) (m_bounds : Int32) (q_groupOf : Nat) (q_row : Nat) (q_least : Nat) (m_asked : Int32) (q_chosen : Nat) (q_matrix : Nat) (q_x : Nat) (m_det : Int64) (q_wageUp : Nat) (q_wageLow : Nat) (m_isFound : Int32) (m_costUp : Int64) (m_costLow : Int64) (q_bestUp : Nat) (q_bestLow : Nat) (m_hasWages : Int32) (m_wageMany : Int32) (q_toldUp : Nat) (q_toldLow : Nat) (m_bestLeftUp : Int64) (m_bestLeftLow : Int64) (q_coin : Nat) (m_fromUp : Int64) (m_fromLow : Int64) (m_toUp : Int64) (m_toLow : Int64) (m_canBe : Int32) (q_presses : Nat) (q_mixes : Nat) (m_lowerPress : Int32) (m_seenMany : Int32) (m_rightMany : Int32) (m_lastTold : Int32) (q_sTold : Nat) (q_sSign : Nat) (q_rOf : Nat) (q_rTold : Nat) (q_rSign : Nat) (k_tape : ClassId) (f_tape : Nat → Int32) (hp0 : iv p0 0 2147483647) (hm_size : iv m_size 0 900) (sz : Nat) : Met l yX10_byteAt wsX10_byteAt ({ frames := 0, cells := 0, slots := 0, locals := 0 }) (va_Pc [.ref o, .int p0] (fun U => U.heap.size = sz ∧ va_P (dC, dI) vwCl [(o, .inr (10, [.ref q_tape, .int m_taped, .int m_size, .int m_sort, .int m_key, .int m_at, .int m_end, .int m_number, .int m_faultKind, .int m_faultPlace, .long m_word, .int m_got, .ref q_num, .ref q_signName, .ref q_workName, .ref q_brings, .ref q_costs, .ref q_chances, .ref q_rates, .ref q_marks, .int m_seen, .ref q_hand, .int m_hasFraction, .long m_upper, .long m_lower, .int m_groups, .int m_bounds, .ref q_groupOf, .ref q_row, .ref q_least, .int m_asked, .ref q_chosen, .ref q_matrix, .ref q_x, .long m_det, .ref q_wageUp, .ref q_wageLow, .int m_isFound, .long m_costUp, .long m_costLow, .ref q_bestUp, .ref q_bestLow, .int m_hasWages, .int m_wageMany, .ref q_toldUp, .ref q_toldLow, .long m_bestLeftUp, .long m_bestLeftLow, .ref q_coin, .long m_fromUp, .long m_fromLow, .long m_toUp, .long m_toLow, .int m_canBe, .ref q_presses, .ref q_mixes, .int m_lowerPress, .int m_seenMany, .int m_rightMany, .int m_lastTold, .ref q_sTold, .ref q_sSign, .ref q_rOf, .ref q_rTold, .ref q_rSign])), (q_tape, .inl (k_tape, 900, .inl f_tape))] U.heap ∧ va_K (dC, dI) vwCl [(k_tape, .byte)] U ∧ va_D (fun _ => True) [(o, .inr (10, [.ref q_tape, .int m_taped, .int m_size, .int m_sort, .int m_key, .int m_at, .int m_end, .int m_number, .int m_faultKind, .int m_faultPlace, .long m_word, .int m_got, .ref q_num, .ref q_signName, .ref q_workName, .ref q_brings, .ref q_costs, .ref q_chances, .ref q_rates, .ref q_marks, .int m_seen, .ref q_hand, .int m_hasFraction, .long m_upper, .long m_lower, .int m_groups, .int m_bounds, .ref q_groupOf, .ref q_row, .ref q_least, .int m_asked, .ref q_chosen, .ref q_matrix, .ref q_x, .long m_det, .ref q_wageUp, .ref q_wageLow, .int m_isFound, .long m_costUp, .long m_costLow, .ref q_bestUp, .ref q_bestLow, .int m_hasWages, .int m_wageMany, .ref q_toldUp, .ref q_toldLow, .long m_bestLeftUp, .long m_bestLeftLow, .ref q_coin, .long m_fromUp, .long m_fromLow, .long m_toUp, .long m_toLow, .int m_canBe, .ref q_presses, .ref q_mixes, .int m_lowerPress, .int m_seenMany, .int m_rightMany, .int m_lastTold, .ref q_sTold, .ref q_sSign, .ref q_rOf, .ref q_rTold, .ref q_rSign])), (q_tape, .inl (k_tape, 900, .inl f_tape))])) (va_Qi (fun (r u : Int32) => u = r) (fun (r : Int32) t => iv r (-1) 255 ∧ va_P (dC, dI) vwCl [(o, .inr (10, [.ref q_tape, .int m_taped, .int m_size, .int m_sort, .int m_key, .int m_at, .int m_end, .int m_number, .int m_faultKind, .int m_faultPlace, .long m_word, .int m_got, .ref q_num, .ref q_signName, .ref q_workName, .ref q_brings, .ref q_costs, .ref q_chances, .ref q_rates, .ref q_marks, .int m_seen, .ref q_hand, .int m_hasFraction, .long m_upper, .long m_lower, .int m_groups, .int m_bounds, .ref q_groupOf, .ref q_row, .ref q_least, .int m_asked, .ref q_chosen, .ref q_matrix, .ref q_x, .long m_det, .ref q_wageUp, .ref q_wageLow, .int m_isFound, .long m_costUp, .long m_costLow, .ref q_bestUp, .ref q_bestLow, .int m_hasWages, .int m_wageMany, .ref q_toldUp, .ref q_toldLow, .long m_bestLeftUp, .long m_bestLeftLow, .ref q_coin, .long m_fromUp, .long m_fromLow, .long m_toUp, .long m_toLow, .int m_canBe, .ref q_presses, .ref q_mixes, .int m_lowerPress, .int m_seenMany, .int m_rightMany, .int m_lastTold, .ref q_sTold, .ref q_sSign, .ref q_rOf, .ref q_rTold, .ref q_rSign])), (q_tape, .inl (k_tape, 900, .inl f_tape))] t.heap ∧ va_D (va_A [(o, .inr (10, [.ref q_tape, .int m_taped, .int m_size, .int m_sort, .int m_key, .int m_at, .int m_end, .int m_number, .int m_faultKind, .int m_faultPlace, .long m_word, .int m_got, .ref q_num, .ref q_signName, .ref q_workName, .ref q_brings, .ref q_costs, .ref q_chances, .ref q_rates, .ref q_marks, .int m_seen, .ref q_hand, .int m_hasFraction, .long m_upper, .long m_lower, .int m_groups, .int m_bounds, .ref q_groupOf, .ref q_row, .ref q_least, .int m_asked, .ref q_chosen, .ref q_matrix, .ref q_x, .long m_det, .ref q_wageUp, .ref q_wageLow, .int m_isFound, .long m_costUp, .long m_costLow, .ref q_bestUp, .ref q_bestLow, .int m_hasWages, .int m_wageMany, .ref q_toldUp, .ref q_toldLow, .long m_bestLeftUp, .long m_bestLeftLow, .ref q_coin, .long m_fromUp, .long m_fromLow, .long m_toUp, .long m_toLow, .int m_canBe, .ref q_presses, .ref q_mixes, .int m_lowerPress, .int m_seenMany, .int m_rightMany, .int m_lastTold, .ref q_sTold, .ref q_sSign, .ref q_rOf, .ref q_rTold, .ref q_rSign])), (q_tape, .inl (k_tape, 900, .inl f_tape))] sz) [(o, .inr (10, [.ref q_tape, .int m_taped, .int m_size, .int m_sort, .int m_key, .int m_at, .int m_end, .int m_number, .int m_faultKind, .int m_faultPlace, .long m_word, .int m_got, .ref q_num, .ref q_signName, .ref q_workName, .ref q_brings, .ref q_costs, .ref q_chances, .ref q_rates, .ref q_marks, .int m_seen, .ref q_hand, .int m_hasFraction, .long m_upper, .long m_lower, .int m_groups, .int m_bounds, .ref q_groupOf, .ref q_row, .ref q_least, .int m_asked, .ref q_chosen, .ref q_matrix, .ref q_x, .long m_det, .ref q_wageUp, .ref q_wageLow, .int m_isFound, .long m_costUp, .long m_costLow, .ref q_bestUp, .ref q_bestLow, .int m_hasWages, .int m_wageMany, .ref q_toldUp, .ref q_toldLow, .long m_bestLeftUp, .long m_bestLeftLow, .ref q_coin, .long m_fromUp, .long m_fromLow, .long m_toUp, .long m_toLow, .int m_canBe, .ref q_presses, .ref q_mixes, .int m_lowerPress, .int m_seenMany, .int m_rightMany, .int m_lastTold, .ref q_sTold, .ref q_sSign, .ref q_rOf, .ref q_rTold, .ref q_rSign])), (q_tape, .inl (k_tape, 900, .inl f_tape))]) (va_A [(o, .inr (10, [.ref q_tape, .int m_taped, .int m_size, .int m_sort, .int m_key, .int m_at, .int m_end, .int m_number, .int m_faultKind, .int m_faultPlace, .long m_word, .int m_got, .ref q_num, .ref q_signName, .ref q_workName, .ref q_brings, .ref q_costs, .ref q_chances, .ref q_rates, .ref q_marks, .int m_seen, .ref q_hand, .int m_hasFraction, .long m_upper, .long m_lower, .int m_groups, .int m_bounds, .ref q_groupOf, .ref q_row, .ref q_least, .int m_asked, .ref q_chosen, .ref q_matrix, .ref q_x, .long m_det, .ref q_wageUp, .ref q_wageLow, .int m_isFound, .long m_costUp, .long m_costLow, .ref q_bestUp, .ref q_bestLow, .int m_hasWages, .int m_wageMany, .ref q_toldUp, .ref q_toldLow, .long m_bestLeftUp, .long m_bestLeftLow, .ref q_coin, .long m_fromUp, .long m_fromLow, .long m_toUp, .long m_toLow, .int m_canBe, .ref q_presses, .ref q_mixes, .int m_lowerPress, .int m_seenMany, .int m_rightMany, .int m_lastTold, .ref q_sTold, .ref q_sSign, .ref q_rOf, .ref q_rTold, .ref q_rSign])), (q_tape, .inl (k_tape, 900, .inl f_tape))] sz)) 0 0 (va_A [(o, .inr (10, [.ref q_tape, .int m_taped, .int m_size, .int m_sort, .int m_key, .int m_at, .int m_end, .int m_number, .int m_faultKind, .int m_faultPlace, .long m_word, .int m_got, .ref q_num, .ref q_signName, .ref q_workName, .ref q_brings, .ref q_costs, .ref q_chances, .ref q_rates, .ref q_marks, .int m_seen, .ref q_hand, .int m_hasFraction, .long m_upper, .long m_lower, .int m_groups, .int m_bounds, .ref q_groupOf, .ref q_row, .ref q_least, .int m_asked, .ref q_chosen, .ref q_matrix, .ref q_x, .long m_det, .ref q_wageUp, .ref q_wageLow, .int m_isFound, .long m_costUp, .long m_costLow, .ref q_bestUp, .ref q_bestLow, .int m_hasWages, .int m_wageMany, .ref q_toldUp, .ref q_toldLow, .long m_bestLeftUp, .long m_bestLeftLow, .ref q_coin, .long m_fromUp, .long m_fromLow, .long m_toUp, .long m_toLow, .int m_canBe, .ref q_presses, .ref q_mixes, .int m_lowerPress, .int m_seenMany, .int m_rightMany, .int m_lastTold, .ref q_sTold, .ref q_sSign, .ref q_rOf, .ref q_rTold, .ref q_rSign])), (q_tape, .inl (k_tape, 900, .inl f_tape))] sz) := by
  refine Met.ofW (cc := cX10_byteAt) (maxL := 2) (ret := (some .int)) (by decide) rfl ?_
  intro p e s m args below meth c s₁ B hml hv
  obtain ⟨rfl, hsz, hP, hK, hD0⟩ := hv
  have hx := B.exec
  have hb := B.bytes
  have hr := B.returns
  have hts := atoms_spec (ws := wsX10_byteAt) B.pre
  have hown : s.vm.findClass RX10 = some m.cls := findClass_of_methodNamed B.named
  have hlocks := B.notSynchronized
  subst hsz
  have hD := hD0.self (sz := s.heap.size)
  generalize hAe : va_A [(o, .inr (10, [.ref q_tape, .int m_taped, .int m_size, .int m_sort, .int m_key, .int m_at, .int m_end, .int m_number, .int m_faultKind, .int m_faultPlace, .long m_word, .int m_got, .ref q_num, .ref q_signName, .ref q_workName, .ref q_brings, .ref q_costs, .ref q_chances, .ref q_rates, .ref q_marks, .int m_seen, .ref q_hand, .int m_hasFraction, .long m_upper, .long m_lower, .int m_groups, .int m_bounds, .ref q_groupOf, .ref q_row, .ref q_least, .int m_asked, .ref q_chosen, .ref q_matrix, .ref q_x, .long m_det, .ref q_wageUp, .ref q_wageLow, .int m_isFound, .long m_costUp, .long m_costLow, .ref q_bestUp, .ref q_bestLow, .int m_hasWages, .int m_wageMany, .ref q_toldUp, .ref q_toldLow, .long m_bestLeftUp, .long m_bestLeftLow, .ref q_coin, .long m_fromUp, .long m_fromLow, .long m_toUp, .long m_toLow, .int m_canBe, .ref q_presses, .ref q_mixes, .int m_lowerPress, .int m_seenMany, .int m_rightMany, .int m_lastTold, .ref q_sTold, .ref q_sSign, .ref q_rOf, .ref q_rTold, .ref q_rSign])), (q_tape, .inl (k_tape, 900, .inl f_tape))] s.heap.size = A at hD ⊢
  have hA : ∀ q : Nat, s.heap.size ≤ q → A q := fun q h => by rw [← hAe]; exact Or.inr h
  have hS : va_S A s.heap s.heap [] := va_S.rf
  have hP : va_P (dC, dI) vwCl [(o, .inr (10, [.ref q_tape, .int m_taped, .int m_size, .int m_sort, .int m_key, .int m_at, .int m_end, .int m_number, .int m_faultKind, .int m_faultPlace, .long m_word, .int m_got, .ref q_num, .ref q_signName, .ref q_workName, .ref q_brings, .ref q_costs, .ref q_chances, .ref q_rates, .ref q_marks, .int m_seen, .ref q_hand, .int m_hasFraction, .long m_upper, .long m_lower, .int m_groups, .int m_bounds, .ref q_groupOf, .ref q_row, .ref q_least, .int m_asked, .ref q_chosen, .ref q_matrix, .ref q_x, .long m_det, .ref q_wageUp, .ref q_wageLow, .int m_isFound, .long m_costUp, .long m_costLow, .ref q_bestUp, .ref q_bestLow, .int m_hasWages, .int m_wageMany, .ref q_toldUp, .ref q_toldLow, .long m_bestLeftUp, .long m_bestLeftLow, .ref q_coin, .long m_fromUp, .long m_fromLow, .long m_toUp, .long m_toLow, .int m_canBe, .ref q_presses, .ref q_mixes, .int m_lowerPress, .int m_seenMany, .int m_rightMany, .int m_lastTold, .ref q_sTold, .ref q_sSign, .ref q_rOf, .ref q_rTold, .ref q_rSign])), (q_tape, .inl (k_tape, 900, .inl f_tape))] s.heap := hP
  have hl := lv_entry ([.ref o, .int p0]) (n := 2) (Nat.le_of_ble_eq_true rfl)
  rw [lg_entry_eq]
  generalize (lg_sl ([.ref o, .int p0]) ++ List.replicate (2 - (lg_sl ([.ref o, .int p0])).length) Slot.unset).toArray = ls at hl ⊢
  have hl : lv_has ls 2 [(0, .ref o), (1, .int p0)] := hl
  refine lv_iload_n hx hb dX10_byteAt_0 rfl (lv_at hl 1 rfl) ?_
  refine lv_aload_n hx hb dX10_byteAt_1 rfl (lv_at hl 0 rfl) ?_
  refine va_get (D := (dC, dI)) (ci := 10) (v := .int m_size) (C := RX10) (T := TX10) (N := 65) hx hb hts iw_X10_byteAt_X10 hown hK hP 0 rfl rfl 2 (by decide) (hts _ kk_X10_byteAt_0) (fun _ h9 => h9) rfl dX10_byteAt_2 ?_
  have bp0 := hp0.u
  have bm_size := hm_size.u
  refine lv_icmp_ge (tgt := 21) hx hb dX10_byteAt_5 (by decide) (fun c1 => ?_) (fun c1 => ?_)
  · have c19 := i32_le c1 rfl rfl
    refine lv_iconst (v := (-1)) hx hb dX10_byteAt_21 (by decide) ?_
    have hP9 := hP.sub (ws' := [(o, .inr (10, [.ref q_tape, .int m_taped, .int m_size, .int m_sort, .int m_key, .int m_at, .int m_end, .int m_number, .int m_faultKind, .int m_faultPlace, .long m_word, .int m_got, .ref q_num, .ref q_signName, .ref q_workName, .ref q_brings, .ref q_costs, .ref q_chances, .ref q_rates, .ref q_marks, .int m_seen, .ref q_hand, .int m_hasFraction, .long m_upper, .long m_lower, .int m_groups, .int m_bounds, .ref q_groupOf, .ref q_row, .ref q_least, .int m_asked, .ref q_chosen, .ref q_matrix, .ref q_x, .long m_det, .ref q_wageUp, .ref q_wageLow, .int m_isFound, .long m_costUp, .long m_costLow, .ref q_bestUp, .ref q_bestLow, .int m_hasWages, .int m_wageMany, .ref q_toldUp, .ref q_toldLow, .long m_bestLeftUp, .long m_bestLeftLow, .ref q_coin, .long m_fromUp, .long m_fromLow, .long m_toUp, .long m_toLow, .int m_canBe, .ref q_presses, .ref q_mixes, .int m_lowerPress, .int m_seenMany, .int m_rightMany, .int m_lastTold, .ref q_sTold, .ref q_sSign, .ref q_rOf, .ref q_rTold, .ref q_rSign])), (q_tape, .inl (k_tape, 900, .inl f_tape))]) [0, 1] rfl
    have hD9 := hD.sub (ws' := [(o, .inr (10, [.ref q_tape, .int m_taped, .int m_size, .int m_sort, .int m_key, .int m_at, .int m_end, .int m_number, .int m_faultKind, .int m_faultPlace, .long m_word, .int m_got, .ref q_num, .ref q_signName, .ref q_workName, .ref q_brings, .ref q_costs, .ref q_chances, .ref q_rates, .ref q_marks, .int m_seen, .ref q_hand, .int m_hasFraction, .long m_upper, .long m_lower, .int m_groups, .int m_bounds, .ref q_groupOf, .ref q_row, .ref q_least, .int m_asked, .ref q_chosen, .ref q_matrix, .ref q_x, .long m_det, .ref q_wageUp, .ref q_wageLow, .int m_isFound, .long m_costUp, .long m_costLow, .ref q_bestUp, .ref q_bestLow, .int m_hasWages, .int m_wageMany, .ref q_toldUp, .ref q_toldLow, .long m_bestLeftUp, .long m_bestLeftLow, .ref q_coin, .long m_fromUp, .long m_fromLow, .long m_toUp, .long m_toLow, .int m_canBe, .ref q_presses, .ref q_mixes, .int m_lowerPress, .int m_seenMany, .int m_rightMany, .int m_lastTold, .ref q_sTold, .ref q_sSign, .ref q_rOf, .ref q_rTold, .ref q_rSign])), (q_tape, .inl (k_tape, 900, .inl f_tape))]) [0, 1] (by decide) rfl
    exact W.iret (v := (-1)) hx hb hr (fun t ht hW => ⟨⟨(-1), (-1), rfl, rfl, (iv.m (by decide)), by rw [ht]; exact hP9, hD9⟩, hS.F ht⟩) hS.2.2 dX10_byteAt_22
  · have c19 := i32_nle c1 rfl rfl
    refine lv_aload_n hx hb dX10_byteAt_8 rfl (lv_at hl 0 rfl) ?_
    refine va_get (D := (dC, dI)) (ci := 10) (v := .ref q_tape) (C := RX10) (T := TX10) (N := 65) hx hb hts iw_X10_byteAt_X10 hown hK hP 0 rfl rfl 0 (by decide) (hts _ kk_X10_byteAt_1) (fun _ h9 => h9) rfl dX10_byteAt_9 ?_
    refine lv_iload_n hx hb dX10_byteAt_12 rfl (lv_at hl 1 rfl) ?_
    refine va_bald hx hb hK hP 1 0 rfl rfl (vq_in p0 900 (by omega)) dX10_byteAt_13 ?_
    refine lv_topi (fun x2 ex2 => ?_)
    refine lv_sipush (v := 255) hx hb dX10_byteAt_14 (by decide) ?_
    refine lv_iand hx hb dX10_byteAt_17 ?_
    refine lv_topi (fun x3 ex3 => ?_)
    have hx3 : iv x3 0 255 := i32_and255 ex3
    refine lv_goto (tgt := 22) hx hb dX10_byteAt_18 (by decide) ?_
    have hP9 := hP.sub (ws' := [(o, .inr (10, [.ref q_tape, .int m_taped, .int m_size, .int m_sort, .int m_key, .int m_at, .int m_end, .int m_number, .int m_faultKind, .int m_faultPlace, .long m_word, .int m_got, .ref q_num, .ref q_signName, .ref q_workName, .ref q_brings, .ref q_costs, .ref q_chances, .ref q_rates, .ref q_marks, .int m_seen, .ref q_hand, .int m_hasFraction, .long m_upper, .long m_lower, .int m_groups, .int m_bounds, .ref q_groupOf, .ref q_row, .ref q_least, .int m_asked, .ref q_chosen, .ref q_matrix, .ref q_x, .long m_det, .ref q_wageUp, .ref q_wageLow, .int m_isFound, .long m_costUp, .long m_costLow, .ref q_bestUp, .ref q_bestLow, .int m_hasWages, .int m_wageMany, .ref q_toldUp, .ref q_toldLow, .long m_bestLeftUp, .long m_bestLeftLow, .ref q_coin, .long m_fromUp, .long m_fromLow, .long m_toUp, .long m_toLow, .int m_canBe, .ref q_presses, .ref q_mixes, .int m_lowerPress, .int m_seenMany, .int m_rightMany, .int m_lastTold, .ref q_sTold, .ref q_sSign, .ref q_rOf, .ref q_rTold, .ref q_rSign])), (q_tape, .inl (k_tape, 900, .inl f_tape))]) [0, 1] rfl
    have hD9 := hD.sub (ws' := [(o, .inr (10, [.ref q_tape, .int m_taped, .int m_size, .int m_sort, .int m_key, .int m_at, .int m_end, .int m_number, .int m_faultKind, .int m_faultPlace, .long m_word, .int m_got, .ref q_num, .ref q_signName, .ref q_workName, .ref q_brings, .ref q_costs, .ref q_chances, .ref q_rates, .ref q_marks, .int m_seen, .ref q_hand, .int m_hasFraction, .long m_upper, .long m_lower, .int m_groups, .int m_bounds, .ref q_groupOf, .ref q_row, .ref q_least, .int m_asked, .ref q_chosen, .ref q_matrix, .ref q_x, .long m_det, .ref q_wageUp, .ref q_wageLow, .int m_isFound, .long m_costUp, .long m_costLow, .ref q_bestUp, .ref q_bestLow, .int m_hasWages, .int m_wageMany, .ref q_toldUp, .ref q_toldLow, .long m_bestLeftUp, .long m_bestLeftLow, .ref q_coin, .long m_fromUp, .long m_fromLow, .long m_toUp, .long m_toLow, .int m_canBe, .ref q_presses, .ref q_mixes, .int m_lowerPress, .int m_seenMany, .int m_rightMany, .int m_lastTold, .ref q_sTold, .ref q_sSign, .ref q_rOf, .ref q_rTold, .ref q_rSign])), (q_tape, .inl (k_tape, 900, .inl f_tape))]) [0, 1] (by decide) rfl
    exact W.iret (v := x3) hx hb hr (fun t ht hW => ⟨⟨x3, x3, rfl, rfl, (hx3.w (by decide) (by decide)), by rw [ht]; exact hP9, hD9⟩, hS.F ht⟩) hS.2.2 dX10_byteAt_22

set_option maxHeartbeats 4000000 in
set_option maxRecDepth 100000 in
theorem ct_X10_isSmall (l : Launch) (dC : Nat → ClassId) (dI : Nat → Nat → Nat) (p0 : Int32) (sz : Nat) : Met l yX10_isSmall wsX10_isSmall ({ frames := 0, cells := 0, slots := 0, locals := 0 }) (va_Pc [.int p0] (fun U => U.heap.size = sz ∧ va_P (dC, dI) vwCl [] U.heap ∧ va_K (dC, dI) vwCl [] U ∧ va_D (fun _ => True) [])) (va_Qi (fun (r u : Int32) => u = r) (fun (r : Int32) t => iv r 0 1 ∧ va_P (dC, dI) vwCl [] t.heap ∧ va_D (va_A [] sz) []) (va_A [] sz)) 0 0 (va_A [] sz) := by
  refine Met.ofW (cc := cX10_isSmall) (maxL := 1) (ret := (some .boolean)) (by decide) rfl ?_
  intro p e s m args below meth c s₁ B hml hv
  obtain ⟨rfl, hsz, hP, hK, hD0⟩ := hv
  have hx := B.exec
  have hb := B.bytes
  have hr := B.returns
  have hts := atoms_spec (ws := wsX10_isSmall) B.pre
  have hown : s.vm.findClass RX10 = some m.cls := findClass_of_methodNamed B.named
  have hlocks := B.notSynchronized
  subst hsz
  have hD := hD0.self (sz := s.heap.size)
  generalize hAe : va_A [] s.heap.size = A at hD ⊢
  have hA : ∀ q : Nat, s.heap.size ≤ q → A q := fun q h => by rw [← hAe]; exact Or.inr h
  have hS : va_S A s.heap s.heap [] := va_S.rf
  have hP : va_P (dC, dI) vwCl [] s.heap := hP
  have hl := lv_entry ([.int p0]) (n := 1) (Nat.le_of_ble_eq_true rfl)
  rw [lg_entry_eq]
  generalize (lg_sl ([.int p0]) ++ List.replicate (1 - (lg_sl ([.int p0])).length) Slot.unset).toArray = ls at hl ⊢
  have hl : lv_has ls 1 [(0, .int p0)] := hl
  refine lv_iload_n hx hb dX10_isSmall_0 rfl (lv_at hl 0 rfl) ?_
  refine lv_bipush (v := 97) hx hb dX10_isSmall_1 (by decide) ?_
  refine lv_icmp_lt (tgt := 16) hx hb dX10_isSmall_3 (by decide) (fun c1 => ?_) (fun c1 => ?_)
  · have c19 := i32_lt c1 rfl (show (97 : Int32).toInt = 97 by decide)
    refine lv_iconst (v := 0) hx hb dX10_isSmall_16 (by decide) ?_
    have hP9 := hP.sub (ws' := []) [] rfl
    have hD9 := hD.sub (ws' := []) [] (by decide) rfl
    exact W.zret (v := 0) hx hb hr rfl (fun t ht hW => ⟨⟨0, 0, rfl, rfl, (iv.m (by decide)), by rw [ht]; exact hP9, hD9⟩, hS.F ht⟩) hS.2.2 dX10_isSmall_17
  · have c19 := i32_nlt c1 rfl (show (97 : Int32).toInt = 97 by decide)
    refine lv_iload_n hx hb dX10_isSmall_6 rfl (lv_at hl 0 rfl) ?_
    refine lv_bipush (v := 122) hx hb dX10_isSmall_7 (by decide) ?_
    refine lv_icmp_gt (tgt := 16) hx hb dX10_isSmall_9 (by decide) (fun c2 => ?_) (fun c2 => ?_)
    · have c29 := i32_lt c2 (show (122 : Int32).toInt = 122 by decide) rfl
      refine lv_iconst (v := 0) hx hb dX10_isSmall_16 (by decide) ?_
      have hP9 := hP.sub (ws' := []) [] rfl
      have hD9 := hD.sub (ws' := []) [] (by decide) rfl
      exact W.zret (v := 0) hx hb hr rfl (fun t ht hW => ⟨⟨0, 0, rfl, rfl, (iv.m (by decide)), by rw [ht]; exact hP9, hD9⟩, hS.F ht⟩) hS.2.2 dX10_isSmall_17
    · have c29 := i32_nlt c2 (show (122 : Int32).toInt = 122 by decide) rfl
      refine lv_iconst (v := 1) hx hb dX10_isSmall_12 (by decide) ?_
      refine lv_goto (tgt := 17) hx hb dX10_isSmall_13 (by decide) ?_
      have hP9 := hP.sub (ws' := []) [] rfl
      have hD9 := hD.sub (ws' := []) [] (by decide) rfl
      exact W.zret (v := 1) hx hb hr rfl (fun t ht hW => ⟨⟨1, 1, rfl, rfl, (iv.m (by decide)), by rw [ht]; exact hP9, hD9⟩, hS.F ht⟩) hS.2.2 dX10_isSmall_17

set_option maxHeartbeats 4000000 in
set_option maxRecDepth 100000 in
theorem ct_X10_isDigit (l : Launch) (dC : Nat → ClassId) (dI : Nat → Nat → Nat) (p0 : Int32) (sz : Nat) : Met l yX10_isDigit wsX10_isDigit ({ frames := 0, cells := 0, slots := 0, locals := 0 }) (va_Pc [.int p0] (fun U => U.heap.size = sz ∧ va_P (dC, dI) vwCl [] U.heap ∧ va_K (dC, dI) vwCl [] U ∧ va_D (fun _ => True) [])) (va_Qi (fun (r u : Int32) => u = r) (fun (r : Int32) t => iv r 0 1 ∧ va_P (dC, dI) vwCl [] t.heap ∧ va_D (va_A [] sz) []) (va_A [] sz)) 0 0 (va_A [] sz) := by
  refine Met.ofW (cc := cX10_isDigit) (maxL := 1) (ret := (some .boolean)) (by decide) rfl ?_
  intro p e s m args below meth c s₁ B hml hv
  obtain ⟨rfl, hsz, hP, hK, hD0⟩ := hv
  have hx := B.exec
  have hb := B.bytes
  have hr := B.returns
  have hts := atoms_spec (ws := wsX10_isDigit) B.pre
  have hown : s.vm.findClass RX10 = some m.cls := findClass_of_methodNamed B.named
  have hlocks := B.notSynchronized
  subst hsz
  have hD := hD0.self (sz := s.heap.size)
  generalize hAe : va_A [] s.heap.size = A at hD ⊢
  have hA : ∀ q : Nat, s.heap.size ≤ q → A q := fun q h => by rw [← hAe]; exact Or.inr h
  have hS : va_S A s.heap s.heap [] := va_S.rf
  have hP : va_P (dC, dI) vwCl [] s.heap := hP
  have hl := lv_entry ([.int p0]) (n := 1) (Nat.le_of_ble_eq_true rfl)
  rw [lg_entry_eq]
  generalize (lg_sl ([.int p0]) ++ List.replicate (1 - (lg_sl ([.int p0])).length) Slot.unset).toArray = ls at hl ⊢
  have hl : lv_has ls 1 [(0, .int p0)] := hl
  refine lv_iload_n hx hb dX10_isDigit_0 rfl (lv_at hl 0 rfl) ?_
  refine lv_bipush (v := 48) hx hb dX10_isDigit_1 (by decide) ?_
  refine lv_icmp_lt (tgt := 16) hx hb dX10_isDigit_3 (by decide) (fun c1 => ?_) (fun c1 => ?_)
  · have c19 := i32_lt c1 rfl (show (48 : Int32).toInt = 48 by decide)
    refine lv_iconst (v := 0) hx hb dX10_isDigit_16 (by decide) ?_
    have hP9 := hP.sub (ws' := []) [] rfl
    have hD9 := hD.sub (ws' := []) [] (by decide) rfl
    exact W.zret (v := 0) hx hb hr rfl (fun t ht hW => ⟨⟨0, 0, rfl, rfl, (iv.m (by decide)), by rw [ht]; exact hP9, hD9⟩, hS.F ht⟩) hS.2.2 dX10_isDigit_17
  · have c19 := i32_nlt c1 rfl (show (48 : Int32).toInt = 48 by decide)
    refine lv_iload_n hx hb dX10_isDigit_6 rfl (lv_at hl 0 rfl) ?_
    refine lv_bipush (v := 57) hx hb dX10_isDigit_7 (by decide) ?_
    refine lv_icmp_gt (tgt := 16) hx hb dX10_isDigit_9 (by decide) (fun c2 => ?_) (fun c2 => ?_)
    · have c29 := i32_lt c2 (show (57 : Int32).toInt = 57 by decide) rfl
      refine lv_iconst (v := 0) hx hb dX10_isDigit_16 (by decide) ?_
      have hP9 := hP.sub (ws' := []) [] rfl
      have hD9 := hD.sub (ws' := []) [] (by decide) rfl
      exact W.zret (v := 0) hx hb hr rfl (fun t ht hW => ⟨⟨0, 0, rfl, rfl, (iv.m (by decide)), by rw [ht]; exact hP9, hD9⟩, hS.F ht⟩) hS.2.2 dX10_isDigit_17
    · have c29 := i32_nlt c2 (show (57 : Int32).toInt = 57 by decide) rfl
      refine lv_iconst (v := 1) hx hb dX10_isDigit_12 (by decide) ?_
      refine lv_goto (tgt := 17) hx hb dX10_isDigit_13 (by decide) ?_
      have hP9 := hP.sub (ws' := []) [] rfl
      have hD9 := hD.sub (ws' := []) [] (by decide) rfl
      exact W.zret (v := 1) hx hb hr rfl (fun t ht hW => ⟨⟨1, 1, rfl, rfl, (iv.m (by decide)), by rw [ht]; exact hP9, hD9⟩, hS.F ht⟩) hS.2.2 dX10_isDigit_17

set_option maxHeartbeats 4000000 in
set_option maxRecDepth 100000 in
theorem ct_X10_fails (l : Launch) (dC : Nat → ClassId) (dI : Nat → Nat → Nat) (o : Nat) (p0 : Int32) (q_tape : Nat) (m_taped : Int32) (m_size : Int32) (m_sort : Int32) (m_key : Int32) (m_at : Int32) (m_end : Int32) (m_number : Int32) (m_faultKind : Int32) (m_faultPlace : Int32) (m_word : Int64) (m_got : Int32) (q_num : Nat) (q_signName : Nat) (q_workName : Nat) (q_brings : Nat) (q_costs : Nat) (q_chances : Nat) (q_rates : Nat) (q_marks : Nat) (m_seen : Int32) (q_hand : Nat) (m_hasFraction : Int32) (m_upper : Int64) (m_lower : Int64) (m_groups : Int32) (m_bounds : Int32) (q_groupOf : Nat) (q_row : Nat) (q_least : Nat) (m_asked : Int32) (q_chosen : Nat) (q_matrix : Nat) (q_x : Nat) (m_det : Int64) (q_wageUp : Nat) (q_wageLow : Nat) (m_isFound : Int32) (m_costUp : Int64) (m_costLow : Int64) (q_bestUp : Nat) (q_bestLow : Nat) (m_hasWages : Int32) (m_wageMany : Int32) (q_toldUp : Nat) (q_toldLow : Nat) (m_bestLeftUp : Int64) (m_bestLeftLow : Int64) (q_coin : Nat) (m_fromUp : Int64) (m_fromLow : Int64) (m_toUp : Int64) (m_toLow : Int64) (m_canBe : Int32) (q_presses : Nat) (q_mixes : Nat) (m_lowerPress : Int32) (m_seenMany : Int32) (m_rightMany : Int32) (m_lastTold : Int32) (q_sTold : Nat) (q_sSign : Nat) (q_rOf : Nat) (q_rTold : Nat) (q_rSign : Nat) (hm_at : iv m_at 0 900) (sz : Nat) : Met l yX10_fails wsX10_fails ({ frames := 0, cells := 0, slots := 0, locals := 0 }) (va_Pc [.ref o, .int p0] (fun U => U.heap.size = sz ∧ va_P (dC, dI) vwCl [(o, .inr (10, [.ref q_tape, .int m_taped, .int m_size, .int m_sort, .int m_key, .int m_at, .int m_end, .int m_number, .int m_faultKind, .int m_faultPlace, .long m_word, .int m_got, .ref q_num, .ref q_signName, .ref q_workName, .ref q_brings, .ref q_costs, .ref q_chances, .ref q_rates, .ref q_marks, .int m_seen, .ref q_hand, .int m_hasFraction, .long m_upper, .long m_lower, .int m_groups, .int m_bounds, .ref q_groupOf, .ref q_row, .ref q_least, .int m_asked, .ref q_chosen, .ref q_matrix, .ref q_x, .long m_det, .ref q_wageUp, .ref q_wageLow, .int m_isFound, .long m_costUp, .long m_costLow, .ref q_bestUp, .ref q_bestLow, .int m_hasWages, .int m_wageMany, .ref q_toldUp, .ref q_toldLow, .long m_bestLeftUp, .long m_bestLeftLow, .ref q_coin, .long m_fromUp, .long m_fromLow, .long m_toUp, .long m_toLow, .int m_canBe, .ref q_presses, .ref q_mixes, .int m_lowerPress, .int m_seenMany, .int m_rightMany, .int m_lastTold, .ref q_sTold, .ref q_sSign, .ref q_rOf, .ref q_rTold, .ref q_rSign]))] U.heap ∧ va_K (dC, dI) vwCl [] U ∧ va_D (fun _ => True) [(o, .inr (10, [.ref q_tape, .int m_taped, .int m_size, .int m_sort, .int m_key, .int m_at, .int m_end, .int m_number, .int m_faultKind, .int m_faultPlace, .long m_word, .int m_got, .ref q_num, .ref q_signName, .ref q_workName, .ref q_brings, .ref q_costs, .ref q_chances, .ref q_rates, .ref q_marks, .int m_seen, .ref q_hand, .int m_hasFraction, .long m_upper, .long m_lower, .int m_groups, .int m_bounds, .ref q_groupOf, .ref q_row, .ref q_least, .int m_asked, .ref q_chosen, .ref q_matrix, .ref q_x, .long m_det, .ref q_wageUp, .ref q_wageLow, .int m_isFound, .long m_costUp, .long m_costLow, .ref q_bestUp, .ref q_bestLow, .int m_hasWages, .int m_wageMany, .ref q_toldUp, .ref q_toldLow, .long m_bestLeftUp, .long m_bestLeftLow, .ref q_coin, .long m_fromUp, .long m_fromLow, .long m_toUp, .long m_toLow, .int m_canBe, .ref q_presses, .ref q_mixes, .int m_lowerPress, .int m_seenMany, .int m_rightMany, .int m_lastTold, .ref q_sTold, .ref q_sSign, .ref q_rOf, .ref q_rTold, .ref q_rSign]))])) (va_Qi (fun (r u : Int32) => u = r) (fun (r : Int32) t => ∃ (e_m_faultKind : Int32) (e_m_faultPlace : Int32), iv e_m_faultPlace 0 900 ∧ r = 0 ∧ va_P (dC, dI) vwCl [(o, .inr (10, [.ref q_tape, .int m_taped, .int m_size, .int m_sort, .int m_key, .int m_at, .int m_end, .int m_number, .int e_m_faultKind, .int e_m_faultPlace, .long m_word, .int m_got, .ref q_num, .ref q_signName, .ref q_workName, .ref q_brings, .ref q_costs, .ref q_chances, .ref q_rates, .ref q_marks, .int m_seen, .ref q_hand, .int m_hasFraction, .long m_upper, .long m_lower, .int m_groups, .int m_bounds, .ref q_groupOf, .ref q_row, .ref q_least, .int m_asked, .ref q_chosen, .ref q_matrix, .ref q_x, .long m_det, .ref q_wageUp, .ref q_wageLow, .int m_isFound, .long m_costUp, .long m_costLow, .ref q_bestUp, .ref q_bestLow, .int m_hasWages, .int m_wageMany, .ref q_toldUp, .ref q_toldLow, .long m_bestLeftUp, .long m_bestLeftLow, .ref q_coin, .long m_fromUp, .long m_fromLow, .long m_toUp, .long m_toLow, .int m_canBe, .ref q_presses, .ref q_mixes, .int m_lowerPress, .int m_seenMany, .int m_rightMany, .int m_lastTold, .ref q_sTold, .ref q_sSign, .ref q_rOf, .ref q_rTold, .ref q_rSign]))] t.heap ∧ va_D (va_A [(o, .inr (10, [.ref q_tape, .int m_taped, .int m_size, .int m_sort, .int m_key, .int m_at, .int m_end, .int m_number, .int m_faultKind, .int m_faultPlace, .long m_word, .int m_got, .ref q_num, .ref q_signName, .ref q_workName, .ref q_brings, .ref q_costs, .ref q_chances, .ref q_rates, .ref q_marks, .int m_seen, .ref q_hand, .int m_hasFraction, .long m_upper, .long m_lower, .int m_groups, .int m_bounds, .ref q_groupOf, .ref q_row, .ref q_least, .int m_asked, .ref q_chosen, .ref q_matrix, .ref q_x, .long m_det, .ref q_wageUp, .ref q_wageLow, .int m_isFound, .long m_costUp, .long m_costLow, .ref q_bestUp, .ref q_bestLow, .int m_hasWages, .int m_wageMany, .ref q_toldUp, .ref q_toldLow, .long m_bestLeftUp, .long m_bestLeftLow, .ref q_coin, .long m_fromUp, .long m_fromLow, .long m_toUp, .long m_toLow, .int m_canBe, .ref q_presses, .ref q_mixes, .int m_lowerPress, .int m_seenMany, .int m_rightMany, .int m_lastTold, .ref q_sTold, .ref q_sSign, .ref q_rOf, .ref q_rTold, .ref q_rSign]))] sz) [(o, .inr (10, [.ref q_tape, .int m_taped, .int m_size, .int m_sort, .int m_key, .int m_at, .int m_end, .int m_number, .int e_m_faultKind, .int e_m_faultPlace, .long m_word, .int m_got, .ref q_num, .ref q_signName, .ref q_workName, .ref q_brings, .ref q_costs, .ref q_chances, .ref q_rates, .ref q_marks, .int m_seen, .ref q_hand, .int m_hasFraction, .long m_upper, .long m_lower, .int m_groups, .int m_bounds, .ref q_groupOf, .ref q_row, .ref q_least, .int m_asked, .ref q_chosen, .ref q_matrix, .ref q_x, .long m_det, .ref q_wageUp, .ref q_wageLow, .int m_isFound, .long m_costUp, .long m_costLow, .ref q_bestUp, .ref q_bestLow, .int m_hasWages, .int m_wageMany, .ref q_toldUp, .ref q_toldLow, .long m_bestLeftUp, .long m_bestLeftLow, .ref q_coin, .long m_fromUp, .long m_fromLow, .long m_toUp, .long m_toLow, .int m_canBe, .ref q_presses, .ref q_mixes, .int m_lowerPress, .int m_seenMany, .int m_rightMany, .int m_lastTold, .ref q_sTold, .ref q_sSign, .ref q_rOf, .ref q_rTold, .ref q_rSign]))]) (va_A [(o, .inr (10, [.ref q_tape, .int m_taped, .int m_size, .int m_sort, .int m_key, .int m_at, .int m_end, .int m_number, .int m_faultKind, .int m_faultPlace, .long m_word, .int m_got, .ref q_num, .ref q_signName, .ref q_workName, .ref q_brings, .ref q_costs, .ref q_chances, .ref q_rates, .ref q_marks, .int m_seen, .ref q_hand, .int m_hasFraction, .long m_upper, .long m_lower, .int m_groups, .int m_bounds, .ref q_groupOf, .ref q_row, .ref q_least, .int m_asked, .ref q_chosen, .ref q_matrix, .ref q_x, .long m_det, .ref q_wageUp, .ref q_wageLow, .int m_isFound, .long m_costUp, .long m_costLow, .ref q_bestUp, .ref q_bestLow, .int m_hasWages, .int m_wageMany, .ref q_toldUp, .ref q_toldLow, .long m_bestLeftUp, .long m_bestLeftLow, .ref q_coin, .long m_fromUp, .long m_fromLow, .long m_toUp, .long m_toLow, .int m_canBe, .ref q_presses, .ref q_mixes, .int m_lowerPress, .int m_seenMany, .int m_rightMany, .int m_lastTold, .ref q_sTold, .ref q_sSign, .ref q_rOf, .ref q_rTold, .ref q_rSign]))] sz)) 0 0 (va_A [(o, .inr (10, [.ref q_tape, .int m_taped, .int m_size, .int m_sort, .int m_key, .int m_at, .int m_end, .int m_number, .int m_faultKind, .int m_faultPlace, .long m_word, .int m_got, .ref q_num, .ref q_signName, .ref q_workName, .ref q_brings, .ref q_costs, .ref q_chances, .ref q_rates, .ref q_marks, .int m_seen, .ref q_hand, .int m_hasFraction, .long m_upper, .long m_lower, .int m_groups, .int m_bounds, .ref q_groupOf, .ref q_row, .ref q_least, .int m_asked, .ref q_chosen, .ref q_matrix, .ref q_x, .long m_det, .ref q_wageUp, .ref q_wageLow, .int m_isFound, .long m_costUp, .long m_costLow, .ref q_bestUp, .ref q_bestLow, .int m_hasWages, .int m_wageMany, .ref q_toldUp, .ref q_toldLow, .long m_bestLeftUp, .long m_bestLeftLow, .ref q_coin, .long m_fromUp, .long m_fromLow, .long m_toUp, .long m_toLow, .int m_canBe, .ref q_presses, .ref q_mixes, .int m_lowerPress, .int m_seenMany, .int m_rightMany, .int m_lastTold, .ref q_sTold, .ref q_sSign, .ref q_rOf, .ref q_rTold, .ref q_rSign]))] sz) := by
  refine Met.ofW (cc := cX10_fails) (maxL := 2) (ret := (some .boolean)) (by decide) rfl ?_
  intro p e s m args below meth c s₁ B hml hv
  obtain ⟨rfl, hsz, hP, hK, hD0⟩ := hv
  have hx := B.exec
  have hb := B.bytes
  have hr := B.returns
  have hts := atoms_spec (ws := wsX10_fails) B.pre
  have hown : s.vm.findClass RX10 = some m.cls := findClass_of_methodNamed B.named
  have hlocks := B.notSynchronized
  subst hsz
  have hD := hD0.self (sz := s.heap.size)
  generalize hAe : va_A [(o, .inr (10, [.ref q_tape, .int m_taped, .int m_size, .int m_sort, .int m_key, .int m_at, .int m_end, .int m_number, .int m_faultKind, .int m_faultPlace, .long m_word, .int m_got, .ref q_num, .ref q_signName, .ref q_workName, .ref q_brings, .ref q_costs, .ref q_chances, .ref q_rates, .ref q_marks, .int m_seen, .ref q_hand, .int m_hasFraction, .long m_upper, .long m_lower, .int m_groups, .int m_bounds, .ref q_groupOf, .ref q_row, .ref q_least, .int m_asked, .ref q_chosen, .ref q_matrix, .ref q_x, .long m_det, .ref q_wageUp, .ref q_wageLow, .int m_isFound, .long m_costUp, .long m_costLow, .ref q_bestUp, .ref q_bestLow, .int m_hasWages, .int m_wageMany, .ref q_toldUp, .ref q_toldLow, .long m_bestLeftUp, .long m_bestLeftLow, .ref q_coin, .long m_fromUp, .long m_fromLow, .long m_toUp, .long m_toLow, .int m_canBe, .ref q_presses, .ref q_mixes, .int m_lowerPress, .int m_seenMany, .int m_rightMany, .int m_lastTold, .ref q_sTold, .ref q_sSign, .ref q_rOf, .ref q_rTold, .ref q_rSign]))] s.heap.size = A at hD ⊢
  have hA : ∀ q : Nat, s.heap.size ≤ q → A q := fun q h => by rw [← hAe]; exact Or.inr h
  have hS : va_S A s.heap s.heap [] := va_S.rf
  have hP : va_P (dC, dI) vwCl [(o, .inr (10, [.ref q_tape, .int m_taped, .int m_size, .int m_sort, .int m_key, .int m_at, .int m_end, .int m_number, .int m_faultKind, .int m_faultPlace, .long m_word, .int m_got, .ref q_num, .ref q_signName, .ref q_workName, .ref q_brings, .ref q_costs, .ref q_chances, .ref q_rates, .ref q_marks, .int m_seen, .ref q_hand, .int m_hasFraction, .long m_upper, .long m_lower, .int m_groups, .int m_bounds, .ref q_groupOf, .ref q_row, .ref q_least, .int m_asked, .ref q_chosen, .ref q_matrix, .ref q_x, .long m_det, .ref q_wageUp, .ref q_wageLow, .int m_isFound, .long m_costUp, .long m_costLow, .ref q_bestUp, .ref q_bestLow, .int m_hasWages, .int m_wageMany, .ref q_toldUp, .ref q_toldLow, .long m_bestLeftUp, .long m_bestLeftLow, .ref q_coin, .long m_fromUp, .long m_fromLow, .long m_toUp, .long m_toLow, .int m_canBe, .ref q_presses, .ref q_mixes, .int m_lowerPress, .int m_seenMany, .int m_rightMany, .int m_lastTold, .ref q_sTold, .ref q_sSign, .ref q_rOf, .ref q_rTold, .ref q_rSign]))] s.heap := hP
  have hl := lv_entry ([.ref o, .int p0]) (n := 2) (Nat.le_of_ble_eq_true rfl)
  rw [lg_entry_eq]
  generalize (lg_sl ([.ref o, .int p0]) ++ List.replicate (2 - (lg_sl ([.ref o, .int p0])).length) Slot.unset).toArray = ls at hl ⊢
  have hl : lv_has ls 2 [(0, .ref o), (1, .int p0)] := hl
  refine lv_aload_n hx hb dX10_fails_0 rfl (lv_at hl 0 rfl) ?_
  refine lv_iload_n hx hb dX10_fails_1 rfl (lv_at hl 1 rfl) ?_
  refine va_put (D := (dC, dI)) (ci := 10) (v := .int p0) (ty := .int) (C := RX10) (T := TX10) (N := 65) hx hb hts iw_X10_fails_X10 tyX10 tyX10_ok nmX10 hown hK hP hD hS 0 rfl rfl 8 (by decide) (hts _ kk_X10_fails_0) (fun _ h9 => h9) rfl (by decide +kernel) rfl rfl (Nat.le_of_ble_eq_true rfl) dX10_fails_2 (fun H locs hP hD hS => ?_)
  have hP : va_P (dC, dI) vwCl [(o, .inr (10, [.ref q_tape, .int m_taped, .int m_size, .int m_sort, .int m_key, .int m_at, .int m_end, .int m_number, .int p0, .int m_faultPlace, .long m_word, .int m_got, .ref q_num, .ref q_signName, .ref q_workName, .ref q_brings, .ref q_costs, .ref q_chances, .ref q_rates, .ref q_marks, .int m_seen, .ref q_hand, .int m_hasFraction, .long m_upper, .long m_lower, .int m_groups, .int m_bounds, .ref q_groupOf, .ref q_row, .ref q_least, .int m_asked, .ref q_chosen, .ref q_matrix, .ref q_x, .long m_det, .ref q_wageUp, .ref q_wageLow, .int m_isFound, .long m_costUp, .long m_costLow, .ref q_bestUp, .ref q_bestLow, .int m_hasWages, .int m_wageMany, .ref q_toldUp, .ref q_toldLow, .long m_bestLeftUp, .long m_bestLeftLow, .ref q_coin, .long m_fromUp, .long m_fromLow, .long m_toUp, .long m_toLow, .int m_canBe, .ref q_presses, .ref q_mixes, .int m_lowerPress, .int m_seenMany, .int m_rightMany, .int m_lastTold, .ref q_sTold, .ref q_sSign, .ref q_rOf, .ref q_rTold, .ref q_rSign]))] H := hP
  have hD : va_D A [(o, .inr (10, [.ref q_tape, .int m_taped, .int m_size, .int m_sort, .int m_key, .int m_at, .int m_end, .int m_number, .int p0, .int m_faultPlace, .long m_word, .int m_got, .ref q_num, .ref q_signName, .ref q_workName, .ref q_brings, .ref q_costs, .ref q_chances, .ref q_rates, .ref q_marks, .int m_seen, .ref q_hand, .int m_hasFraction, .long m_upper, .long m_lower, .int m_groups, .int m_bounds, .ref q_groupOf, .ref q_row, .ref q_least, .int m_asked, .ref q_chosen, .ref q_matrix, .ref q_x, .long m_det, .ref q_wageUp, .ref q_wageLow, .int m_isFound, .long m_costUp, .long m_costLow, .ref q_bestUp, .ref q_bestLow, .int m_hasWages, .int m_wageMany, .ref q_toldUp, .ref q_toldLow, .long m_bestLeftUp, .long m_bestLeftLow, .ref q_coin, .long m_fromUp, .long m_fromLow, .long m_toUp, .long m_toLow, .int m_canBe, .ref q_presses, .ref q_mixes, .int m_lowerPress, .int m_seenMany, .int m_rightMany, .int m_lastTold, .ref q_sTold, .ref q_sSign, .ref q_rOf, .ref q_rTold, .ref q_rSign]))] := hD
  refine lv_aload_n hx hb dX10_fails_5 rfl (lv_at hl 0 rfl) ?_
  refine lv_aload_n hx hb dX10_fails_6 rfl (lv_at hl 0 rfl) ?_
  refine va_get (D := (dC, dI)) (ci := 10) (v := .int m_at) (C := RX10) (T := TX10) (N := 65) hx hb hts iw_X10_fails_X10 hown hK hP 0 rfl rfl 5 (by decide) (hts _ kk_X10_fails_1) (fun _ h9 => h9) rfl dX10_fails_7 ?_
  refine va_put (D := (dC, dI)) (ci := 10) (v := .int m_at) (ty := .int) (C := RX10) (T := TX10) (N := 65) hx hb hts iw_X10_fails_X10 tyX10 tyX10_ok nmX10 hown hK hP hD hS 0 rfl rfl 9 (by decide) (hts _ kk_X10_fails_2) (fun _ h9 => h9) rfl (by decide +kernel) rfl rfl (Nat.le_of_ble_eq_true rfl) dX10_fails_10 (fun H locs hP hD hS => ?_)
  have hP : va_P (dC, dI) vwCl [(o, .inr (10, [.ref q_tape, .int m_taped, .int m_size, .int m_sort, .int m_key, .int m_at, .int m_end, .int m_number, .int p0, .int m_at, .long m_word, .int m_got, .ref q_num, .ref q_signName, .ref q_workName, .ref q_brings, .ref q_costs, .ref q_chances, .ref q_rates, .ref q_marks, .int m_seen, .ref q_hand, .int m_hasFraction, .long m_upper, .long m_lower, .int m_groups, .int m_bounds, .ref q_groupOf, .ref q_row, .ref q_least, .int m_asked, .ref q_chosen, .ref q_matrix, .ref q_x, .long m_det, .ref q_wageUp, .ref q_wageLow, .int m_isFound, .long m_costUp, .long m_costLow, .ref q_bestUp, .ref q_bestLow, .int m_hasWages, .int m_wageMany, .ref q_toldUp, .ref q_toldLow, .long m_bestLeftUp, .long m_bestLeftLow, .ref q_coin, .long m_fromUp, .long m_fromLow, .long m_toUp, .long m_toLow, .int m_canBe, .ref q_presses, .ref q_mixes, .int m_lowerPress, .int m_seenMany, .int m_rightMany, .int m_lastTold, .ref q_sTold, .ref q_sSign, .ref q_rOf, .ref q_rTold, .ref q_rSign]))] H := hP
  have hD : va_D A [(o, .inr (10, [.ref q_tape, .int m_taped, .int m_size, .int m_sort, .int m_key, .int m_at, .int m_end, .int m_number, .int p0, .int m_at, .long m_word, .int m_got, .ref q_num, .ref q_signName, .ref q_workName, .ref q_brings, .ref q_costs, .ref q_chances, .ref q_rates, .ref q_marks, .int m_seen, .ref q_hand, .int m_hasFraction, .long m_upper, .long m_lower, .int m_groups, .int m_bounds, .ref q_groupOf, .ref q_row, .ref q_least, .int m_asked, .ref q_chosen, .ref q_matrix, .ref q_x, .long m_det, .ref q_wageUp, .ref q_wageLow, .int m_isFound, .long m_costUp, .long m_costLow, .ref q_bestUp, .ref q_bestLow, .int m_hasWages, .int m_wageMany, .ref q_toldUp, .ref q_toldLow, .long m_bestLeftUp, .long m_bestLeftLow, .ref q_coin, .long m_fromUp, .long m_fromLow, .long m_toUp, .long m_toLow, .int m_canBe, .ref q_presses, .ref q_mixes, .int m_lowerPress, .int m_seenMany, .int m_rightMany, .int m_lastTold, .ref q_sTold, .ref q_sSign, .ref q_rOf, .ref q_rTold, .ref q_rSign]))] := hD
  refine lv_iconst (v := 0) hx hb dX10_fails_13 (by decide) ?_
  have hP9 := hP.sub (ws' := [(o, .inr (10, [.ref q_tape, .int m_taped, .int m_size, .int m_sort, .int m_key, .int m_at, .int m_end, .int m_number, .int p0, .int m_at, .long m_word, .int m_got, .ref q_num, .ref q_signName, .ref q_workName, .ref q_brings, .ref q_costs, .ref q_chances, .ref q_rates, .ref q_marks, .int m_seen, .ref q_hand, .int m_hasFraction, .long m_upper, .long m_lower, .int m_groups, .int m_bounds, .ref q_groupOf, .ref q_row, .ref q_least, .int m_asked, .ref q_chosen, .ref q_matrix, .ref q_x, .long m_det, .ref q_wageUp, .ref q_wageLow, .int m_isFound, .long m_costUp, .long m_costLow, .ref q_bestUp, .ref q_bestLow, .int m_hasWages, .int m_wageMany, .ref q_toldUp, .ref q_toldLow, .long m_bestLeftUp, .long m_bestLeftLow, .ref q_coin, .long m_fromUp, .long m_fromLow, .long m_toUp, .long m_toLow, .int m_canBe, .ref q_presses, .ref q_mixes, .int m_lowerPress, .int m_seenMany, .int m_rightMany, .int m_lastTold, .ref q_sTold, .ref q_sSign, .ref q_rOf, .ref q_rTold, .ref q_rSign]))]) [0] rfl
  have hD9 := hD.sub (ws' := [(o, .inr (10, [.ref q_tape, .int m_taped, .int m_size, .int m_sort, .int m_key, .int m_at, .int m_end, .int m_number, .int p0, .int m_at, .long m_word, .int m_got, .ref q_num, .ref q_signName, .ref q_workName, .ref q_brings, .ref q_costs, .ref q_chances, .ref q_rates, .ref q_marks, .int m_seen, .ref q_hand, .int m_hasFraction, .long m_upper, .long m_lower, .int m_groups, .int m_bounds, .ref q_groupOf, .ref q_row, .ref q_least, .int m_asked, .ref q_chosen, .ref q_matrix, .ref q_x, .long m_det, .ref q_wageUp, .ref q_wageLow, .int m_isFound, .long m_costUp, .long m_costLow, .ref q_bestUp, .ref q_bestLow, .int m_hasWages, .int m_wageMany, .ref q_toldUp, .ref q_toldLow, .long m_bestLeftUp, .long m_bestLeftLow, .ref q_coin, .long m_fromUp, .long m_fromLow, .long m_toUp, .long m_toLow, .int m_canBe, .ref q_presses, .ref q_mixes, .int m_lowerPress, .int m_seenMany, .int m_rightMany, .int m_lastTold, .ref q_sTold, .ref q_sSign, .ref q_rOf, .ref q_rTold, .ref q_rSign]))]) [0] (by decide) rfl
  exact W.zret (v := 0) hx hb hr rfl (fun t ht hW => ⟨⟨0, 0, rfl, rfl, p0, m_at, hm_at, rfl, by rw [ht]; exact hP9, hD9⟩, hS.F ht⟩) hS.2.2 dX10_fails_14

set_option maxHeartbeats 4000000 in
set_option maxRecDepth 100000 in
theorem ct_X10_chanceOf (l : Launch) (dC : Nat → ClassId) (dI : Nat → Nat → Nat) (o : Nat) (p0 : Int32) (p1 : Int32) (q_tape : Nat) (m_taped : Int32) (m_size : Int32) (m_sort : Int32) (m_key : Int32) (m_at : Int32) (m_end : Int32) (m_number : Int32) (m_faultKind : Int32) (m_faultPlace : Int32) (m_word : Int64) (m_got : Int32) (q_num : Nat) (q_signName : Nat) (q_workName : Nat) (q_brings : Nat) (q_costs : Nat) (q_chances : Nat) (q_rates : Nat) (q_marks : Nat) (m_seen : Int32) (q_hand : Nat) (m_hasFraction : Int32) (m_upper : Int64) (m_lower : Int64) (m_groups : Int32) (m_bounds : Int32) (q_groupOf : Nat) (q_row : Nat) (q_least : Nat) (m_asked : Int32) (q_chosen : Nat) (q_matrix : Nat) (q_x : Nat) (m_det : Int64) (q_wageUp : Nat) (q_wageLow : Nat) (m_isFound : Int32) (m_costUp : Int64) (m_costLow : Int64) (q_bestUp : Nat) (q_bestLow : Nat) (m_hasWages : Int32) (m_wageMany : Int32) (q_toldUp : Nat) (q_toldLow : Nat) (m_bestLeftUp : Int64) (m_bestLeftLow : Int64) (q_coin : Nat) (m_fromUp : Int64) (m_fromLow : Int64) (m_toUp : Int64) (m_toLow : Int64) (m_canBe : Int32) (q_presses : Nat) (q_mixes : Nat) (m_lowerPress : Int32) (m_seenMany : Int32) (m_rightMany : Int32) (m_lastTold : Int32) (q_sTold : Nat) (q_sSign : Nat) (q_rOf : Nat) (q_rTold : Nat) (q_rSign : Nat) (k_chances : ClassId) (f_chances : Nat → Int32) (hp0 : iv p0 0 4) (hp1 : iv p1 0 3) (sz : Nat) : Met l yX10_chanceOf wsX10_chanceOf ({ frames := 0, cells := 0, slots := 0, locals := 0 }) (va_Pc [.ref o, .int p0, .int p1] (fun U => U.heap.size = sz ∧ va_P (dC, dI) vwCl [(o, .inr (10, [.ref q_tape, .int m_taped, .int m_size, .int m_sort, .int m_key, .int m_at, .int m_end, .int m_number, .int m_faultKind, .int m_faultPlace, .long m_word, .int m_got, .ref q_num, .ref q_signName, .ref q_workName, .ref q_brings, .ref q_costs, .ref q_chances, .ref q_rates, .ref q_marks, .int m_seen, .ref q_hand, .int m_hasFraction, .long m_upper, .long m_lower, .int m_groups, .int m_bounds, .ref q_groupOf, .ref q_row, .ref q_least, .int m_asked, .ref q_chosen, .ref q_matrix, .ref q_x, .long m_det, .ref q_wageUp, .ref q_wageLow, .int m_isFound, .long m_costUp, .long m_costLow, .ref q_bestUp, .ref q_bestLow, .int m_hasWages, .int m_wageMany, .ref q_toldUp, .ref q_toldLow, .long m_bestLeftUp, .long m_bestLeftLow, .ref q_coin, .long m_fromUp, .long m_fromLow, .long m_toUp, .long m_toLow, .int m_canBe, .ref q_presses, .ref q_mixes, .int m_lowerPress, .int m_seenMany, .int m_rightMany, .int m_lastTold, .ref q_sTold, .ref q_sSign, .ref q_rOf, .ref q_rTold, .ref q_rSign])), (q_chances, .inl (k_chances, 40, .inl f_chances))] U.heap ∧ va_K (dC, dI) vwCl [(k_chances, .int)] U ∧ va_D (fun _ => True) [(o, .inr (10, [.ref q_tape, .int m_taped, .int m_size, .int m_sort, .int m_key, .int m_at, .int m_end, .int m_number, .int m_faultKind, .int m_faultPlace, .long m_word, .int m_got, .ref q_num, .ref q_signName, .ref q_workName, .ref q_brings, .ref q_costs, .ref q_chances, .ref q_rates, .ref q_marks, .int m_seen, .ref q_hand, .int m_hasFraction, .long m_upper, .long m_lower, .int m_groups, .int m_bounds, .ref q_groupOf, .ref q_row, .ref q_least, .int m_asked, .ref q_chosen, .ref q_matrix, .ref q_x, .long m_det, .ref q_wageUp, .ref q_wageLow, .int m_isFound, .long m_costUp, .long m_costLow, .ref q_bestUp, .ref q_bestLow, .int m_hasWages, .int m_wageMany, .ref q_toldUp, .ref q_toldLow, .long m_bestLeftUp, .long m_bestLeftLow, .ref q_coin, .long m_fromUp, .long m_fromLow, .long m_toUp, .long m_toLow, .int m_canBe, .ref q_presses, .ref q_mixes, .int m_lowerPress, .int m_seenMany, .int m_rightMany, .int m_lastTold, .ref q_sTold, .ref q_sSign, .ref q_rOf, .ref q_rTold, .ref q_rSign])), (q_chances, .inl (k_chances, 40, .inl f_chances))])) (va_Qi (fun (r u : Int32) => u = r) (fun (r : Int32) t => va_P (dC, dI) vwCl [(o, .inr (10, [.ref q_tape, .int m_taped, .int m_size, .int m_sort, .int m_key, .int m_at, .int m_end, .int m_number, .int m_faultKind, .int m_faultPlace, .long m_word, .int m_got, .ref q_num, .ref q_signName, .ref q_workName, .ref q_brings, .ref q_costs, .ref q_chances, .ref q_rates, .ref q_marks, .int m_seen, .ref q_hand, .int m_hasFraction, .long m_upper, .long m_lower, .int m_groups, .int m_bounds, .ref q_groupOf, .ref q_row, .ref q_least, .int m_asked, .ref q_chosen, .ref q_matrix, .ref q_x, .long m_det, .ref q_wageUp, .ref q_wageLow, .int m_isFound, .long m_costUp, .long m_costLow, .ref q_bestUp, .ref q_bestLow, .int m_hasWages, .int m_wageMany, .ref q_toldUp, .ref q_toldLow, .long m_bestLeftUp, .long m_bestLeftLow, .ref q_coin, .long m_fromUp, .long m_fromLow, .long m_toUp, .long m_toLow, .int m_canBe, .ref q_presses, .ref q_mixes, .int m_lowerPress, .int m_seenMany, .int m_rightMany, .int m_lastTold, .ref q_sTold, .ref q_sSign, .ref q_rOf, .ref q_rTold, .ref q_rSign])), (q_chances, .inl (k_chances, 40, .inl f_chances))] t.heap ∧ va_D (va_A [(o, .inr (10, [.ref q_tape, .int m_taped, .int m_size, .int m_sort, .int m_key, .int m_at, .int m_end, .int m_number, .int m_faultKind, .int m_faultPlace, .long m_word, .int m_got, .ref q_num, .ref q_signName, .ref q_workName, .ref q_brings, .ref q_costs, .ref q_chances, .ref q_rates, .ref q_marks, .int m_seen, .ref q_hand, .int m_hasFraction, .long m_upper, .long m_lower, .int m_groups, .int m_bounds, .ref q_groupOf, .ref q_row, .ref q_least, .int m_asked, .ref q_chosen, .ref q_matrix, .ref q_x, .long m_det, .ref q_wageUp, .ref q_wageLow, .int m_isFound, .long m_costUp, .long m_costLow, .ref q_bestUp, .ref q_bestLow, .int m_hasWages, .int m_wageMany, .ref q_toldUp, .ref q_toldLow, .long m_bestLeftUp, .long m_bestLeftLow, .ref q_coin, .long m_fromUp, .long m_fromLow, .long m_toUp, .long m_toLow, .int m_canBe, .ref q_presses, .ref q_mixes, .int m_lowerPress, .int m_seenMany, .int m_rightMany, .int m_lastTold, .ref q_sTold, .ref q_sSign, .ref q_rOf, .ref q_rTold, .ref q_rSign])), (q_chances, .inl (k_chances, 40, .inl f_chances))] sz) [(o, .inr (10, [.ref q_tape, .int m_taped, .int m_size, .int m_sort, .int m_key, .int m_at, .int m_end, .int m_number, .int m_faultKind, .int m_faultPlace, .long m_word, .int m_got, .ref q_num, .ref q_signName, .ref q_workName, .ref q_brings, .ref q_costs, .ref q_chances, .ref q_rates, .ref q_marks, .int m_seen, .ref q_hand, .int m_hasFraction, .long m_upper, .long m_lower, .int m_groups, .int m_bounds, .ref q_groupOf, .ref q_row, .ref q_least, .int m_asked, .ref q_chosen, .ref q_matrix, .ref q_x, .long m_det, .ref q_wageUp, .ref q_wageLow, .int m_isFound, .long m_costUp, .long m_costLow, .ref q_bestUp, .ref q_bestLow, .int m_hasWages, .int m_wageMany, .ref q_toldUp, .ref q_toldLow, .long m_bestLeftUp, .long m_bestLeftLow, .ref q_coin, .long m_fromUp, .long m_fromLow, .long m_toUp, .long m_toLow, .int m_canBe, .ref q_presses, .ref q_mixes, .int m_lowerPress, .int m_seenMany, .int m_rightMany, .int m_lastTold, .ref q_sTold, .ref q_sSign, .ref q_rOf, .ref q_rTold, .ref q_rSign])), (q_chances, .inl (k_chances, 40, .inl f_chances))]) (va_A [(o, .inr (10, [.ref q_tape, .int m_taped, .int m_size, .int m_sort, .int m_key, .int m_at, .int m_end, .int m_number, .int m_faultKind, .int m_faultPlace, .long m_word, .int m_got, .ref q_num, .ref q_signName, .ref q_workName, .ref q_brings, .ref q_costs, .ref q_chances, .ref q_rates, .ref q_marks, .int m_seen, .ref q_hand, .int m_hasFraction, .long m_upper, .long m_lower, .int m_groups, .int m_bounds, .ref q_groupOf, .ref q_row, .ref q_least, .int m_asked, .ref q_chosen, .ref q_matrix, .ref q_x, .long m_det, .ref q_wageUp, .ref q_wageLow, .int m_isFound, .long m_costUp, .long m_costLow, .ref q_bestUp, .ref q_bestLow, .int m_hasWages, .int m_wageMany, .ref q_toldUp, .ref q_toldLow, .long m_bestLeftUp, .long m_bestLeftLow, .ref q_coin, .long m_fromUp, .long m_fromLow, .long m_toUp, .long m_toLow, .int m_canBe, .ref q_presses, .ref q_mixes, .int m_lowerPress, .int m_seenMany, .int m_rightMany, .int m_lastTold, .ref q_sTold, .ref q_sSign, .ref q_rOf, .ref q_rTold, .ref q_rSign])), (q_chances, .inl (k_chances, 40, .inl f_chances))] sz)) 0 0 (va_A [(o, .inr (10, [.ref q_tape, .int m_taped, .int m_size, .int m_sort, .int m_key, .int m_at, .int m_end, .int m_number, .int m_faultKind, .int m_faultPlace, .long m_word, .int m_got, .ref q_num, .ref q_signName, .ref q_workName, .ref q_brings, .ref q_costs, .ref q_chances, .ref q_rates, .ref q_marks, .int m_seen, .ref q_hand, .int m_hasFraction, .long m_upper, .long m_lower, .int m_groups, .int m_bounds, .ref q_groupOf, .ref q_row, .ref q_least, .int m_asked, .ref q_chosen, .ref q_matrix, .ref q_x, .long m_det, .ref q_wageUp, .ref q_wageLow, .int m_isFound, .long m_costUp, .long m_costLow, .ref q_bestUp, .ref q_bestLow, .int m_hasWages, .int m_wageMany, .ref q_toldUp, .ref q_toldLow, .long m_bestLeftUp, .long m_bestLeftLow, .ref q_coin, .long m_fromUp, .long m_fromLow, .long m_toUp, .long m_toLow, .int m_canBe, .ref q_presses, .ref q_mixes, .int m_lowerPress, .int m_seenMany, .int m_rightMany, .int m_lastTold, .ref q_sTold, .ref q_sSign, .ref q_rOf, .ref q_rTold, .ref q_rSign])), (q_chances, .inl (k_chances, 40, .inl f_chances))] sz) := by
  refine Met.ofW (cc := cX10_chanceOf) (maxL := 3) (ret := (some .int)) (by decide) rfl ?_
  intro p e s m args below meth c s₁ B hml hv
  obtain ⟨rfl, hsz, hP, hK, hD0⟩ := hv
  have hx := B.exec
  have hb := B.bytes
  have hr := B.returns
  have hts := atoms_spec (ws := wsX10_chanceOf) B.pre
  have hown : s.vm.findClass RX10 = some m.cls := findClass_of_methodNamed B.named
  have hlocks := B.notSynchronized
  subst hsz
  have hD := hD0.self (sz := s.heap.size)
  generalize hAe : va_A [(o, .inr (10, [.ref q_tape, .int m_taped, .int m_size, .int m_sort, .int m_key, .int m_at, .int m_end, .int m_number, .int m_faultKind, .int m_faultPlace, .long m_word, .int m_got, .ref q_num, .ref q_signName, .ref q_workName, .ref q_brings, .ref q_costs, .ref q_chances, .ref q_rates, .ref q_marks, .int m_seen, .ref q_hand, .int m_hasFraction, .long m_upper, .long m_lower, .int m_groups, .int m_bounds, .ref q_groupOf, .ref q_row, .ref q_least, .int m_asked, .ref q_chosen, .ref q_matrix, .ref q_x, .long m_det, .ref q_wageUp, .ref q_wageLow, .int m_isFound, .long m_costUp, .long m_costLow, .ref q_bestUp, .ref q_bestLow, .int m_hasWages, .int m_wageMany, .ref q_toldUp, .ref q_toldLow, .long m_bestLeftUp, .long m_bestLeftLow, .ref q_coin, .long m_fromUp, .long m_fromLow, .long m_toUp, .long m_toLow, .int m_canBe, .ref q_presses, .ref q_mixes, .int m_lowerPress, .int m_seenMany, .int m_rightMany, .int m_lastTold, .ref q_sTold, .ref q_sSign, .ref q_rOf, .ref q_rTold, .ref q_rSign])), (q_chances, .inl (k_chances, 40, .inl f_chances))] s.heap.size = A at hD ⊢
  have hA : ∀ q : Nat, s.heap.size ≤ q → A q := fun q h => by rw [← hAe]; exact Or.inr h
  have hS : va_S A s.heap s.heap [] := va_S.rf
  have hP : va_P (dC, dI) vwCl [(o, .inr (10, [.ref q_tape, .int m_taped, .int m_size, .int m_sort, .int m_key, .int m_at, .int m_end, .int m_number, .int m_faultKind, .int m_faultPlace, .long m_word, .int m_got, .ref q_num, .ref q_signName, .ref q_workName, .ref q_brings, .ref q_costs, .ref q_chances, .ref q_rates, .ref q_marks, .int m_seen, .ref q_hand, .int m_hasFraction, .long m_upper, .long m_lower, .int m_groups, .int m_bounds, .ref q_groupOf, .ref q_row, .ref q_least, .int m_asked, .ref q_chosen, .ref q_matrix, .ref q_x, .long m_det, .ref q_wageUp, .ref q_wageLow, .int m_isFound, .long m_costUp, .long m_costLow, .ref q_bestUp, .ref q_bestLow, .int m_hasWages, .int m_wageMany, .ref q_toldUp, .ref q_toldLow, .long m_bestLeftUp, .long m_bestLeftLow, .ref q_coin, .long m_fromUp, .long m_fromLow, .long m_toUp, .long m_toLow, .int m_canBe, .ref q_presses, .ref q_mixes, .int m_lowerPress, .int m_seenMany, .int m_rightMany, .int m_lastTold, .ref q_sTold, .ref q_sSign, .ref q_rOf, .ref q_rTold, .ref q_rSign])), (q_chances, .inl (k_chances, 40, .inl f_chances))] s.heap := hP
  have hl := lv_entry ([.ref o, .int p0, .int p1]) (n := 3) (Nat.le_of_ble_eq_true rfl)
  rw [lg_entry_eq]
  generalize (lg_sl ([.ref o, .int p0, .int p1]) ++ List.replicate (3 - (lg_sl ([.ref o, .int p0, .int p1])).length) Slot.unset).toArray = ls at hl ⊢
  have hl : lv_has ls 3 [(0, .ref o), (1, .int p0), (2, .int p1)] := hl
  refine lv_aload_n hx hb dX10_chanceOf_0 rfl (lv_at hl 0 rfl) ?_
  refine va_get (D := (dC, dI)) (ci := 10) (v := .ref q_chances) (C := RX10) (T := TX10) (N := 65) hx hb hts iw_X10_chanceOf_X10 hown hK hP 0 rfl rfl 17 (by decide) (hts _ kk_X10_chanceOf_0) (fun _ h9 => h9) rfl dX10_chanceOf_1 ?_
  refine lv_iconst (v := 4) hx hb dX10_chanceOf_4 (by decide) ?_
  refine lv_iload_n hx hb dX10_chanceOf_5 rfl (lv_at hl 1 rfl) ?_
  refine lv_imul hx hb dX10_chanceOf_6 ?_
  refine lv_topi (fun x1 ex1 => ?_)
  have bp0 := hp0.u
  have tx1 := i32_mul ex1 (show (4 : Int32).toInt = 4 by decide) rfl (by omega) (by omega)
  refine lv_iload_n hx hb dX10_chanceOf_7 rfl (lv_at hl 2 rfl) ?_
  refine lv_iadd hx hb dX10_chanceOf_8 ?_
  refine lv_topi (fun x2 ex2 => ?_)
  have bp1 := hp1.u
  have tx2 := i32_add ex2 rfl rfl (by omega) (by omega)
  refine va_iald hx hb hK hP 1 0 rfl rfl (vq_in x2 40 (by omega)) dX10_chanceOf_9 ?_
  refine lv_topi (fun x3 ex3 => ?_)
  have hP9 := hP.sub (ws' := [(o, .inr (10, [.ref q_tape, .int m_taped, .int m_size, .int m_sort, .int m_key, .int m_at, .int m_end, .int m_number, .int m_faultKind, .int m_faultPlace, .long m_word, .int m_got, .ref q_num, .ref q_signName, .ref q_workName, .ref q_brings, .ref q_costs, .ref q_chances, .ref q_rates, .ref q_marks, .int m_seen, .ref q_hand, .int m_hasFraction, .long m_upper, .long m_lower, .int m_groups, .int m_bounds, .ref q_groupOf, .ref q_row, .ref q_least, .int m_asked, .ref q_chosen, .ref q_matrix, .ref q_x, .long m_det, .ref q_wageUp, .ref q_wageLow, .int m_isFound, .long m_costUp, .long m_costLow, .ref q_bestUp, .ref q_bestLow, .int m_hasWages, .int m_wageMany, .ref q_toldUp, .ref q_toldLow, .long m_bestLeftUp, .long m_bestLeftLow, .ref q_coin, .long m_fromUp, .long m_fromLow, .long m_toUp, .long m_toLow, .int m_canBe, .ref q_presses, .ref q_mixes, .int m_lowerPress, .int m_seenMany, .int m_rightMany, .int m_lastTold, .ref q_sTold, .ref q_sSign, .ref q_rOf, .ref q_rTold, .ref q_rSign])), (q_chances, .inl (k_chances, 40, .inl f_chances))]) [0, 1] rfl
  have hD9 := hD.sub (ws' := [(o, .inr (10, [.ref q_tape, .int m_taped, .int m_size, .int m_sort, .int m_key, .int m_at, .int m_end, .int m_number, .int m_faultKind, .int m_faultPlace, .long m_word, .int m_got, .ref q_num, .ref q_signName, .ref q_workName, .ref q_brings, .ref q_costs, .ref q_chances, .ref q_rates, .ref q_marks, .int m_seen, .ref q_hand, .int m_hasFraction, .long m_upper, .long m_lower, .int m_groups, .int m_bounds, .ref q_groupOf, .ref q_row, .ref q_least, .int m_asked, .ref q_chosen, .ref q_matrix, .ref q_x, .long m_det, .ref q_wageUp, .ref q_wageLow, .int m_isFound, .long m_costUp, .long m_costLow, .ref q_bestUp, .ref q_bestLow, .int m_hasWages, .int m_wageMany, .ref q_toldUp, .ref q_toldLow, .long m_bestLeftUp, .long m_bestLeftLow, .ref q_coin, .long m_fromUp, .long m_fromLow, .long m_toUp, .long m_toLow, .int m_canBe, .ref q_presses, .ref q_mixes, .int m_lowerPress, .int m_seenMany, .int m_rightMany, .int m_lastTold, .ref q_sTold, .ref q_sSign, .ref q_rOf, .ref q_rTold, .ref q_rSign])), (q_chances, .inl (k_chances, 40, .inl f_chances))]) [0, 1] (by decide) rfl
  exact W.iret (v := x3) hx hb hr (fun t ht hW => ⟨⟨x3, x3, rfl, rfl, by rw [ht]; exact hP9, hD9⟩, hS.F ht⟩) hS.2.2 dX10_chanceOf_10

set_option maxHeartbeats 4000000 in
set_option maxRecDepth 100000 in
theorem ct_X10_feel (l : Launch) (dC : Nat → ClassId) (dI : Nat → Nat → Nat) (o : Nat) (p0 : Int32) (q_tape : Nat) (m_taped : Int32) (m_size : Int32) (m_sort : Int32) (m_key : Int32) (m_at : Int32) (m_end : Int32) (m_number : Int32) (m_faultKind : Int32) (m_faultPlace : Int32) (m_word : Int64) (m_got : Int32) (q_num : Nat) (q_signName : Nat) (q_workName : Nat) (q_brings : Nat) (q_costs : Nat) (q_chances : Nat) (q_rates : Nat) (q_marks : Nat) (m_seen : Int32) (q_hand : Nat) (m_hasFraction : Int32) (m_upper : Int64) (m_lower : Int64) (m_groups : Int32) (m_bounds : Int32) (q_groupOf : Nat) (q_row : Nat) (q_least : Nat) (m_asked : Int32) (q_chosen : Nat) (q_matrix : Nat) (q_x : Nat) (m_det : Int64) (q_wageUp : Nat) (q_wageLow : Nat) (m_isFound : Int32) (m_costUp : Int64) (m_costLow : Int64) (q_bestUp : Nat) (q_bestLow : Nat) (m_hasWages : Int32) (m_wageMany : Int32) (q_toldUp : Nat) (q_toldLow : Nat) (m_bestLeftUp : Int64) (m_bestLeftLow : Int64) (q_coin : Nat) (m_fromUp : Int64) (m_fromLow : Int64) (m_toUp : Int64) (m_toLow : Int64) (m_canBe : Int32) (q_presses : Nat) (q_mixes : Nat) (m_lowerPress : Int32) (m_seenMany : Int32) (m_rightMany : Int32) (m_lastTold : Int32) (q_sTold : Nat) (q_sSign : Nat) (q_rOf : Nat) (q_rTold : Nat) (q_rSign : Nat) (k_num : ClassId) (n0_ : Int32) (n1_ : Int32) (n2_ : Int32) (n3_ : Int32) (n4_ : Int32) (n5_ : Int32) (n6_ : Int32) (n7_ : Int32) (n8_ : Int32) (n9_ : Int32) (n10_ : Int32) (n11_ : Int32) (k_rates : ClassId) (f_rates : Nat → Int32) (k_marks : ClassId) (f_marks : Nat → Int32) (hn5_ : iv n5_ 1 3) (sz : Nat) : Met l yX10_feel wsX10_feel ({ frames := 0, cells := 0, slots := 0, locals := 0 }) (va_Pc [.ref o, .int p0] (fun U => U.heap.size = sz ∧ va_P (dC, dI) vwCl [(o, .inr (10, [.ref q_tape, .int m_taped, .int m_size, .int m_sort, .int m_key, .int m_at, .int m_end, .int m_number, .int m_faultKind, .int m_faultPlace, .long m_word, .int m_got, .ref q_num, .ref q_signName, .ref q_workName, .ref q_brings, .ref q_costs, .ref q_chances, .ref q_rates, .ref q_marks, .int m_seen, .ref q_hand, .int m_hasFraction, .long m_upper, .long m_lower, .int m_groups, .int m_bounds, .ref q_groupOf, .ref q_row, .ref q_least, .int m_asked, .ref q_chosen, .ref q_matrix, .ref q_x, .long m_det, .ref q_wageUp, .ref q_wageLow, .int m_isFound, .long m_costUp, .long m_costLow, .ref q_bestUp, .ref q_bestLow, .int m_hasWages, .int m_wageMany, .ref q_toldUp, .ref q_toldLow, .long m_bestLeftUp, .long m_bestLeftLow, .ref q_coin, .long m_fromUp, .long m_fromLow, .long m_toUp, .long m_toLow, .int m_canBe, .ref q_presses, .ref q_mixes, .int m_lowerPress, .int m_seenMany, .int m_rightMany, .int m_lastTold, .ref q_sTold, .ref q_sSign, .ref q_rOf, .ref q_rTold, .ref q_rSign])), (q_num, .inl (k_num, 12, .inl (lf [n0_, n1_, n2_, n3_, n4_, n5_, n6_, n7_, n8_, n9_, n10_, n11_]))), (q_rates, .inl (k_rates, 6, .inl f_rates)), (q_marks, .inl (k_marks, 4, .inl f_marks))] U.heap ∧ va_K (dC, dI) vwCl [(k_num, .int), (k_rates, .int), (k_marks, .int)] U ∧ va_D (fun _ => True) [(o, .inr (10, [.ref q_tape, .int m_taped, .int m_size, .int m_sort, .int m_key, .int m_at, .int m_end, .int m_number, .int m_faultKind, .int m_faultPlace, .long m_word, .int m_got, .ref q_num, .ref q_signName, .ref q_workName, .ref q_brings, .ref q_costs, .ref q_chances, .ref q_rates, .ref q_marks, .int m_seen, .ref q_hand, .int m_hasFraction, .long m_upper, .long m_lower, .int m_groups, .int m_bounds, .ref q_groupOf, .ref q_row, .ref q_least, .int m_asked, .ref q_chosen, .ref q_matrix, .ref q_x, .long m_det, .ref q_wageUp, .ref q_wageLow, .int m_isFound, .long m_costUp, .long m_costLow, .ref q_bestUp, .ref q_bestLow, .int m_hasWages, .int m_wageMany, .ref q_toldUp, .ref q_toldLow, .long m_bestLeftUp, .long m_bestLeftLow, .ref q_coin, .long m_fromUp, .long m_fromLow, .long m_toUp, .long m_toLow, .int m_canBe, .ref q_presses, .ref q_mixes, .int m_lowerPress, .int m_seenMany, .int m_rightMany, .int m_lastTold, .ref q_sTold, .ref q_sSign, .ref q_rOf, .ref q_rTold, .ref q_rSign])), (q_num, .inl (k_num, 12, .inl (lf [n0_, n1_, n2_, n3_, n4_, n5_, n6_, n7_, n8_, n9_, n10_, n11_]))), (q_rates, .inl (k_rates, 6, .inl f_rates)), (q_marks, .inl (k_marks, 4, .inl f_marks))])) (va_Qi (fun (r u : Int32) => u = r) (fun (r : Int32) t => va_P (dC, dI) vwCl [(o, .inr (10, [.ref q_tape, .int m_taped, .int m_size, .int m_sort, .int m_key, .int m_at, .int m_end, .int m_number, .int m_faultKind, .int m_faultPlace, .long m_word, .int m_got, .ref q_num, .ref q_signName, .ref q_workName, .ref q_brings, .ref q_costs, .ref q_chances, .ref q_rates, .ref q_marks, .int m_seen, .ref q_hand, .int m_hasFraction, .long m_upper, .long m_lower, .int m_groups, .int m_bounds, .ref q_groupOf, .ref q_row, .ref q_least, .int m_asked, .ref q_chosen, .ref q_matrix, .ref q_x, .long m_det, .ref q_wageUp, .ref q_wageLow, .int m_isFound, .long m_costUp, .long m_costLow, .ref q_bestUp, .ref q_bestLow, .int m_hasWages, .int m_wageMany, .ref q_toldUp, .ref q_toldLow, .long m_bestLeftUp, .long m_bestLeftLow, .ref q_coin, .long m_fromUp, .long m_fromLow, .long m_toUp, .long m_toLow, .int m_canBe, .ref q_presses, .ref q_mixes, .int m_lowerPress, .int m_seenMany, .int m_rightMany, .int m_lastTold, .ref q_sTold, .ref q_sSign, .ref q_rOf, .ref q_rTold, .ref q_rSign])), (q_num, .inl (k_num, 12, .inl (lf [n0_, n1_, n2_, n3_, n4_, n5_, n6_, n7_, n8_, n9_, n10_, n11_]))), (q_rates, .inl (k_rates, 6, .inl f_rates)), (q_marks, .inl (k_marks, 4, .inl f_marks))] t.heap ∧ va_D (va_A [(o, .inr (10, [.ref q_tape, .int m_taped, .int m_size, .int m_sort, .int m_key, .int m_at, .int m_end, .int m_number, .int m_faultKind, .int m_faultPlace, .long m_word, .int m_got, .ref q_num, .ref q_signName, .ref q_workName, .ref q_brings, .ref q_costs, .ref q_chances, .ref q_rates, .ref q_marks, .int m_seen, .ref q_hand, .int m_hasFraction, .long m_upper, .long m_lower, .int m_groups, .int m_bounds, .ref q_groupOf, .ref q_row, .ref q_least, .int m_asked, .ref q_chosen, .ref q_matrix, .ref q_x, .long m_det, .ref q_wageUp, .ref q_wageLow, .int m_isFound, .long m_costUp, .long m_costLow, .ref q_bestUp, .ref q_bestLow, .int m_hasWages, .int m_wageMany, .ref q_toldUp, .ref q_toldLow, .long m_bestLeftUp, .long m_bestLeftLow, .ref q_coin, .long m_fromUp, .long m_fromLow, .long m_toUp, .long m_toLow, .int m_canBe, .ref q_presses, .ref q_mixes, .int m_lowerPress, .int m_seenMany, .int m_rightMany, .int m_lastTold, .ref q_sTold, .ref q_sSign, .ref q_rOf, .ref q_rTold, .ref q_rSign])), (q_num, .inl (k_num, 12, .inl (lf [n0_, n1_, n2_, n3_, n4_, n5_, n6_, n7_, n8_, n9_, n10_, n11_]))), (q_rates, .inl (k_rates, 6, .inl f_rates)), (q_marks, .inl (k_marks, 4, .inl f_marks))] sz) [(o, .inr (10, [.ref q_tape, .int m_taped, .int m_size, .int m_sort, .int m_key, .int m_at, .int m_end, .int m_number, .int m_faultKind, .int m_faultPlace, .long m_word, .int m_got, .ref q_num, .ref q_signName, .ref q_workName, .ref q_brings, .ref q_costs, .ref q_chances, .ref q_rates, .ref q_marks, .int m_seen, .ref q_hand, .int m_hasFraction, .long m_upper, .long m_lower, .int m_groups, .int m_bounds, .ref q_groupOf, .ref q_row, .ref q_least, .int m_asked, .ref q_chosen, .ref q_matrix, .ref q_x, .long m_det, .ref q_wageUp, .ref q_wageLow, .int m_isFound, .long m_costUp, .long m_costLow, .ref q_bestUp, .ref q_bestLow, .int m_hasWages, .int m_wageMany, .ref q_toldUp, .ref q_toldLow, .long m_bestLeftUp, .long m_bestLeftLow, .ref q_coin, .long m_fromUp, .long m_fromLow, .long m_toUp, .long m_toLow, .int m_canBe, .ref q_presses, .ref q_mixes, .int m_lowerPress, .int m_seenMany, .int m_rightMany, .int m_lastTold, .ref q_sTold, .ref q_sSign, .ref q_rOf, .ref q_rTold, .ref q_rSign])), (q_num, .inl (k_num, 12, .inl (lf [n0_, n1_, n2_, n3_, n4_, n5_, n6_, n7_, n8_, n9_, n10_, n11_]))), (q_rates, .inl (k_rates, 6, .inl f_rates)), (q_marks, .inl (k_marks, 4, .inl f_marks))]) (va_A [(o, .inr (10, [.ref q_tape, .int m_taped, .int m_size, .int m_sort, .int m_key, .int m_at, .int m_end, .int m_number, .int m_faultKind, .int m_faultPlace, .long m_word, .int m_got, .ref q_num, .ref q_signName, .ref q_workName, .ref q_brings, .ref q_costs, .ref q_chances, .ref q_rates, .ref q_marks, .int m_seen, .ref q_hand, .int m_hasFraction, .long m_upper, .long m_lower, .int m_groups, .int m_bounds, .ref q_groupOf, .ref q_row, .ref q_least, .int m_asked, .ref q_chosen, .ref q_matrix, .ref q_x, .long m_det, .ref q_wageUp, .ref q_wageLow, .int m_isFound, .long m_costUp, .long m_costLow, .ref q_bestUp, .ref q_bestLow, .int m_hasWages, .int m_wageMany, .ref q_toldUp, .ref q_toldLow, .long m_bestLeftUp, .long m_bestLeftLow, .ref q_coin, .long m_fromUp, .long m_fromLow, .long m_toUp, .long m_toLow, .int m_canBe, .ref q_presses, .ref q_mixes, .int m_lowerPress, .int m_seenMany, .int m_rightMany, .int m_lastTold, .ref q_sTold, .ref q_sSign, .ref q_rOf, .ref q_rTold, .ref q_rSign])), (q_num, .inl (k_num, 12, .inl (lf [n0_, n1_, n2_, n3_, n4_, n5_, n6_, n7_, n8_, n9_, n10_, n11_]))), (q_rates, .inl (k_rates, 6, .inl f_rates)), (q_marks, .inl (k_marks, 4, .inl f_marks))] sz)) 0 0 (va_A [(o, .inr (10, [.ref q_tape, .int m_taped, .int m_size, .int m_sort, .int m_key, .int m_at, .int m_end, .int m_number, .int m_faultKind, .int m_faultPlace, .long m_word, .int m_got, .ref q_num, .ref q_signName, .ref q_workName, .ref q_brings, .ref q_costs, .ref q_chances, .ref q_rates, .ref q_marks, .int m_seen, .ref q_hand, .int m_hasFraction, .long m_upper, .long m_lower, .int m_groups, .int m_bounds, .ref q_groupOf, .ref q_row, .ref q_least, .int m_asked, .ref q_chosen, .ref q_matrix, .ref q_x, .long m_det, .ref q_wageUp, .ref q_wageLow, .int m_isFound, .long m_costUp, .long m_costLow, .ref q_bestUp, .ref q_bestLow, .int m_hasWages, .int m_wageMany, .ref q_toldUp, .ref q_toldLow, .long m_bestLeftUp, .long m_bestLeftLow, .ref q_coin, .long m_fromUp, .long m_fromLow, .long m_toUp, .long m_toLow, .int m_canBe, .ref q_presses, .ref q_mixes, .int m_lowerPress, .int m_seenMany, .int m_rightMany, .int m_lastTold, .ref q_sTold, .ref q_sSign, .ref q_rOf, .ref q_rTold, .ref q_rSign])), (q_num, .inl (k_num, 12, .inl (lf [n0_, n1_, n2_, n3_, n4_, n5_, n6_, n7_, n8_, n9_, n10_, n11_]))), (q_rates, .inl (k_rates, 6, .inl f_rates)), (q_marks, .inl (k_marks, 4, .inl f_marks))] sz) := by
  refine Met.ofW (cc := cX10_feel) (maxL := 6) (ret := (some .int)) (by decide) rfl ?_
  intro p e s m args below meth c s₁ B hml hv
  obtain ⟨rfl, hsz, hP, hK, hD0⟩ := hv
  have hx := B.exec
  have hb := B.bytes
  have hr := B.returns
  have hts := atoms_spec (ws := wsX10_feel) B.pre
  have hown : s.vm.findClass RX10 = some m.cls := findClass_of_methodNamed B.named
  have hlocks := B.notSynchronized
  subst hsz
  have hD := hD0.self (sz := s.heap.size)
  generalize hAe : va_A [(o, .inr (10, [.ref q_tape, .int m_taped, .int m_size, .int m_sort, .int m_key, .int m_at, .int m_end, .int m_number, .int m_faultKind, .int m_faultPlace, .long m_word, .int m_got, .ref q_num, .ref q_signName, .ref q_workName, .ref q_brings, .ref q_costs, .ref q_chances, .ref q_rates, .ref q_marks, .int m_seen, .ref q_hand, .int m_hasFraction, .long m_upper, .long m_lower, .int m_groups, .int m_bounds, .ref q_groupOf, .ref q_row, .ref q_least, .int m_asked, .ref q_chosen, .ref q_matrix, .ref q_x, .long m_det, .ref q_wageUp, .ref q_wageLow, .int m_isFound, .long m_costUp, .long m_costLow, .ref q_bestUp, .ref q_bestLow, .int m_hasWages, .int m_wageMany, .ref q_toldUp, .ref q_toldLow, .long m_bestLeftUp, .long m_bestLeftLow, .ref q_coin, .long m_fromUp, .long m_fromLow, .long m_toUp, .long m_toLow, .int m_canBe, .ref q_presses, .ref q_mixes, .int m_lowerPress, .int m_seenMany, .int m_rightMany, .int m_lastTold, .ref q_sTold, .ref q_sSign, .ref q_rOf, .ref q_rTold, .ref q_rSign])), (q_num, .inl (k_num, 12, .inl (lf [n0_, n1_, n2_, n3_, n4_, n5_, n6_, n7_, n8_, n9_, n10_, n11_]))), (q_rates, .inl (k_rates, 6, .inl f_rates)), (q_marks, .inl (k_marks, 4, .inl f_marks))] s.heap.size = A at hD ⊢
  have hA : ∀ q : Nat, s.heap.size ≤ q → A q := fun q h => by rw [← hAe]; exact Or.inr h
  have hS : va_S A s.heap s.heap [] := va_S.rf
  have hP : va_P (dC, dI) vwCl [(o, .inr (10, [.ref q_tape, .int m_taped, .int m_size, .int m_sort, .int m_key, .int m_at, .int m_end, .int m_number, .int m_faultKind, .int m_faultPlace, .long m_word, .int m_got, .ref q_num, .ref q_signName, .ref q_workName, .ref q_brings, .ref q_costs, .ref q_chances, .ref q_rates, .ref q_marks, .int m_seen, .ref q_hand, .int m_hasFraction, .long m_upper, .long m_lower, .int m_groups, .int m_bounds, .ref q_groupOf, .ref q_row, .ref q_least, .int m_asked, .ref q_chosen, .ref q_matrix, .ref q_x, .long m_det, .ref q_wageUp, .ref q_wageLow, .int m_isFound, .long m_costUp, .long m_costLow, .ref q_bestUp, .ref q_bestLow, .int m_hasWages, .int m_wageMany, .ref q_toldUp, .ref q_toldLow, .long m_bestLeftUp, .long m_bestLeftLow, .ref q_coin, .long m_fromUp, .long m_fromLow, .long m_toUp, .long m_toLow, .int m_canBe, .ref q_presses, .ref q_mixes, .int m_lowerPress, .int m_seenMany, .int m_rightMany, .int m_lastTold, .ref q_sTold, .ref q_sSign, .ref q_rOf, .ref q_rTold, .ref q_rSign])), (q_num, .inl (k_num, 12, .inl (lf [n0_, n1_, n2_, n3_, n4_, n5_, n6_, n7_, n8_, n9_, n10_, n11_]))), (q_rates, .inl (k_rates, 6, .inl f_rates)), (q_marks, .inl (k_marks, 4, .inl f_marks))] s.heap := hP
  have hl := lv_entry ([.ref o, .int p0]) (n := 6) (Nat.le_of_ble_eq_true rfl)
  rw [lg_entry_eq]
  generalize (lg_sl ([.ref o, .int p0]) ++ List.replicate (6 - (lg_sl ([.ref o, .int p0])).length) Slot.unset).toArray = ls at hl ⊢
  have hl : lv_has ls 6 [(0, .ref o), (1, .int p0)] := hl
  refine lv_iconst (v := 0) hx hb dX10_feel_0 (by decide) ?_
  refine lv_istore_n (lv' := [(2, .int 0), (0, .ref o), (1, .int p0)]) hx hb dX10_feel_1 rfl hl (by decide) rfl (fun ls hl => ?_)
  refine lv_iconst (v := 0) hx hb dX10_feel_2 (by decide) ?_
  refine lv_istore_n (lv' := [(3, .int 0), (2, .int 0), (0, .ref o), (1, .int p0)]) hx hb dX10_feel_3 rfl hl (by decide) rfl (fun ls hl => ?_)
  refine lv_iconst (v := 0) hx hb dX10_feel_4 (by decide) ?_
  refine lv_istore (lv' := [(4, .int 0), (3, .int 0), (2, .int 0), (0, .ref o), (1, .int p0)]) hx hb dX10_feel_5 hl (by decide) rfl (fun ls hl => ?_)
  refine tl_loop (I := fun nn H locs ls => ∃ (v1 : Int32) (v2 : Int32) (v3 : Int32), nn = (3 - v1.toInt).toNat ∧ iv v1 0 3 ∧  va_P (dC, dI) vwCl [(o, .inr (10, [.ref q_tape, .int m_taped, .int m_size, .int m_sort, .int m_key, .int m_at, .int m_end, .int m_number, .int m_faultKind, .int m_faultPlace, .long m_word, .int m_got, .ref q_num, .ref q_signName, .ref q_workName, .ref q_brings, .ref q_costs, .ref q_chances, .ref q_rates, .ref q_marks, .int m_seen, .ref q_hand, .int m_hasFraction, .long m_upper, .long m_lower, .int m_groups, .int m_bounds, .ref q_groupOf, .ref q_row, .ref q_least, .int m_asked, .ref q_chosen, .ref q_matrix, .ref q_x, .long m_det, .ref q_wageUp, .ref q_wageLow, .int m_isFound, .long m_costUp, .long m_costLow, .ref q_bestUp, .ref q_bestLow, .int m_hasWages, .int m_wageMany, .ref q_toldUp, .ref q_toldLow, .long m_bestLeftUp, .long m_bestLeftLow, .ref q_coin, .long m_fromUp, .long m_fromLow, .long m_toUp, .long m_toLow, .int m_canBe, .ref q_presses, .ref q_mixes, .int m_lowerPress, .int m_seenMany, .int m_rightMany, .int m_lastTold, .ref q_sTold, .ref q_sSign, .ref q_rOf, .ref q_rTold, .ref q_rSign])), (q_num, .inl (k_num, 12, .inl (lf [n0_, n1_, n2_, n3_, n4_, n5_, n6_, n7_, n8_, n9_, n10_, n11_]))), (q_rates, .inl (k_rates, 6, .inl f_rates)), (q_marks, .inl (k_marks, 4, .inl f_marks))] H ∧ va_D A [(o, .inr (10, [.ref q_tape, .int m_taped, .int m_size, .int m_sort, .int m_key, .int m_at, .int m_end, .int m_number, .int m_faultKind, .int m_faultPlace, .long m_word, .int m_got, .ref q_num, .ref q_signName, .ref q_workName, .ref q_brings, .ref q_costs, .ref q_chances, .ref q_rates, .ref q_marks, .int m_seen, .ref q_hand, .int m_hasFraction, .long m_upper, .long m_lower, .int m_groups, .int m_bounds, .ref q_groupOf, .ref q_row, .ref q_least, .int m_asked, .ref q_chosen, .ref q_matrix, .ref q_x, .long m_det, .ref q_wageUp, .ref q_wageLow, .int m_isFound, .long m_costUp, .long m_costLow, .ref q_bestUp, .ref q_bestLow, .int m_hasWages, .int m_wageMany, .ref q_toldUp, .ref q_toldLow, .long m_bestLeftUp, .long m_bestLeftLow, .ref q_coin, .long m_fromUp, .long m_fromLow, .long m_toUp, .long m_toLow, .int m_canBe, .ref q_presses, .ref q_mixes, .int m_lowerPress, .int m_seenMany, .int m_rightMany, .int m_lastTold, .ref q_sTold, .ref q_sSign, .ref q_rOf, .ref q_rTold, .ref q_rSign])), (q_num, .inl (k_num, 12, .inl (lf [n0_, n1_, n2_, n3_, n4_, n5_, n6_, n7_, n8_, n9_, n10_, n11_]))), (q_rates, .inl (k_rates, 6, .inl f_rates)), (q_marks, .inl (k_marks, 4, .inl f_marks))] ∧ va_S A s.heap H locs ∧ lv_has ls 6 [(4, .int v1), (3, .int v2), (2, .int v3), (0, .ref o), (1, .int p0)]) ?_ ⟨0, 0, 0, rfl, (iv.m (by decide)), hP, hD, hS, lv_sub hl [0, 1, 2, 3, 4] rfl⟩
  clear hP hD hS hl
  intro nn7 H locs ls hI ih7
  obtain ⟨v1, v2, v3, hn7, hv1, hP, hD, hS, hl⟩ := hI
  have bv1 := hv1.u
  refine lv_iload hx hb dX10_feel_7 (lv_at hl 0 rfl) ?_
  refine lv_aload_n hx hb dX10_feel_9 rfl (lv_at hl 3 rfl) ?_
  refine va_get (D := (dC, dI)) (ci := 10) (v := .ref q_num) (C := RX10) (T := TX10) (N := 65) hx hb hts iw_X10_feel_X10 hown hK hP 0 rfl rfl 12 (by decide) (hts _ kk_X10_feel_0) (fun _ h9 => h9) rfl dX10_feel_10 ?_
  refine lv_iconst (v := 5) hx hb dX10_feel_13 (by decide) ?_
  refine va_iald hx hb hK hP 1 0 rfl rfl (vq_in 5 12 (by decide)) dX10_feel_14 ?_
  refine px_i (v := n5_) rfl ?_
  have bn5_ := hn5_.u
  refine lv_icmp_ge (tgt := 85) hx hb dX10_feel_15 (by decide) (fun c4 => ?_) (fun c4 => ?_)
  · have c49 := i32_le c4 rfl rfl
    refine lv_iload_n hx hb dX10_feel_85 rfl (lv_at hl 2 rfl) ?_
    have hP9 := hP.sub (ws' := [(o, .inr (10, [.ref q_tape, .int m_taped, .int m_size, .int m_sort, .int m_key, .int m_at, .int m_end, .int m_number, .int m_faultKind, .int m_faultPlace, .long m_word, .int m_got, .ref q_num, .ref q_signName, .ref q_workName, .ref q_brings, .ref q_costs, .ref q_chances, .ref q_rates, .ref q_marks, .int m_seen, .ref q_hand, .int m_hasFraction, .long m_upper, .long m_lower, .int m_groups, .int m_bounds, .ref q_groupOf, .ref q_row, .ref q_least, .int m_asked, .ref q_chosen, .ref q_matrix, .ref q_x, .long m_det, .ref q_wageUp, .ref q_wageLow, .int m_isFound, .long m_costUp, .long m_costLow, .ref q_bestUp, .ref q_bestLow, .int m_hasWages, .int m_wageMany, .ref q_toldUp, .ref q_toldLow, .long m_bestLeftUp, .long m_bestLeftLow, .ref q_coin, .long m_fromUp, .long m_fromLow, .long m_toUp, .long m_toLow, .int m_canBe, .ref q_presses, .ref q_mixes, .int m_lowerPress, .int m_seenMany, .int m_rightMany, .int m_lastTold, .ref q_sTold, .ref q_sSign, .ref q_rOf, .ref q_rTold, .ref q_rSign])), (q_num, .inl (k_num, 12, .inl (lf [n0_, n1_, n2_, n3_, n4_, n5_, n6_, n7_, n8_, n9_, n10_, n11_]))), (q_rates, .inl (k_rates, 6, .inl f_rates)), (q_marks, .inl (k_marks, 4, .inl f_marks))]) [0, 1, 2, 3] rfl
    have hD9 := hD.sub (ws' := [(o, .inr (10, [.ref q_tape, .int m_taped, .int m_size, .int m_sort, .int m_key, .int m_at, .int m_end, .int m_number, .int m_faultKind, .int m_faultPlace, .long m_word, .int m_got, .ref q_num, .ref q_signName, .ref q_workName, .ref q_brings, .ref q_costs, .ref q_chances, .ref q_rates, .ref q_marks, .int m_seen, .ref q_hand, .int m_hasFraction, .long m_upper, .long m_lower, .int m_groups, .int m_bounds, .ref q_groupOf, .ref q_row, .ref q_least, .int m_asked, .ref q_chosen, .ref q_matrix, .ref q_x, .long m_det, .ref q_wageUp, .ref q_wageLow, .int m_isFound, .long m_costUp, .long m_costLow, .ref q_bestUp, .ref q_bestLow, .int m_hasWages, .int m_wageMany, .ref q_toldUp, .ref q_toldLow, .long m_bestLeftUp, .long m_bestLeftLow, .ref q_coin, .long m_fromUp, .long m_fromLow, .long m_toUp, .long m_toLow, .int m_canBe, .ref q_presses, .ref q_mixes, .int m_lowerPress, .int m_seenMany, .int m_rightMany, .int m_lastTold, .ref q_sTold, .ref q_sSign, .ref q_rOf, .ref q_rTold, .ref q_rSign])), (q_num, .inl (k_num, 12, .inl (lf [n0_, n1_, n2_, n3_, n4_, n5_, n6_, n7_, n8_, n9_, n10_, n11_]))), (q_rates, .inl (k_rates, 6, .inl f_rates)), (q_marks, .inl (k_marks, 4, .inl f_marks))]) [0, 1, 2, 3] (by decide) rfl
    exact W.iret (v := v3) hx hb hr (fun t ht hW => ⟨⟨v3, v3, rfl, rfl, by rw [ht]; exact hP9, hD9⟩, hS.F ht⟩) hS.2.2 dX10_feel_86
  · have c49 := i32_nle c4 rfl rfl
    refine lv_iload hx hb dX10_feel_18 (lv_at hl 0 rfl) ?_
    refine lv_iconst (v := 1) hx hb dX10_feel_20 (by decide) ?_
    refine lv_iadd hx hb dX10_feel_21 ?_
    refine lv_topi (fun x5 ex5 => ?_)
    have tx5 := i32_add ex5 rfl (show (1 : Int32).toInt = 1 by decide) (by omega) (by omega)
    refine lv_aload_n hx hb dX10_feel_22 rfl (lv_at hl 3 rfl) ?_
    refine va_get (D := (dC, dI)) (ci := 10) (v := .ref q_num) (C := RX10) (T := TX10) (N := 65) hx hb hts iw_X10_feel_X10 hown hK hP 0 rfl rfl 12 (by decide) (hts _ kk_X10_feel_0) (fun _ h9 => h9) rfl dX10_feel_23 ?_
    refine lv_iconst (v := 5) hx hb dX10_feel_26 (by decide) ?_
    refine va_iald hx hb hK hP 1 0 rfl rfl (vq_in 5 12 (by decide)) dX10_feel_27 ?_
    refine px_i (v := n5_) rfl ?_
    refine lv_icmp_ge (tgt := 52) hx hb dX10_feel_28 (by decide) (fun c6 => ?_) (fun c6 => ?_)
    · have c69 := i32_le c6 rfl rfl
      refine lv_iload_n hx hb dX10_feel_52 rfl (lv_at hl 4 rfl) ?_
      refine lv_istore (lv' := [(5, .int p0), (4, .int v1), (3, .int v2), (2, .int v3), (0, .ref o), (1, .int p0)]) hx hb dX10_feel_53 hl (by decide) rfl (fun ls hl => ?_)
      refine lv_iload hx hb dX10_feel_55 (lv_at hl 0 rfl) ?_
      refine lv_iload_n hx hb dX10_feel_57 rfl (lv_at hl 2 rfl) ?_
      refine lv_icmp_le (tgt := 76) hx hb dX10_feel_58 (by decide) (fun c7 => ?_) (fun c7 => ?_)
      · have c79 := i32_le c7 rfl rfl
        refine lv_iload hx hb dX10_feel_76 (lv_at hl 0 rfl) ?_
        refine lv_istore_n (lv' := [(3, .int p0), (5, .int p0), (4, .int v1), (2, .int v3), (0, .ref o), (1, .int p0)]) hx hb dX10_feel_78 rfl hl (by decide) rfl (fun ls hl => ?_)
        obtain ⟨x8, ex8⟩ : ∃ z : Int32, v1 + Int32.ofInt 1 = z := ⟨_, rfl⟩
        have tx8 := i32_inc ex8 rfl (by decide) (by omega) (by omega)
        refine lv_iinc (v := x8) (lv' := [(4, .int x8), (3, .int p0), (5, .int p0), (2, .int v3), (0, .ref o), (1, .int p0)]) hx hb dX10_feel_79 hl (k := 2) rfl ex8 (by decide) rfl (fun ls hl => ?_)
        refine lv_goto (tgt := 7) hx hb dX10_feel_82 (by decide) ?_
        exact ih7 _ _ _ _ (by omega) ⟨x8, p0, v3, rfl, (iv.m (by omega)), hP, hD, hS, lv_sub hl [0, 1, 3, 4, 5] rfl⟩
      · have c79 := i32_nle c7 rfl rfl
        refine lv_iload_n hx hb dX10_feel_61 rfl (lv_at hl 3 rfl) ?_
        refine lv_aload_n hx hb dX10_feel_62 rfl (lv_at hl 4 rfl) ?_
        refine va_get (D := (dC, dI)) (ci := 10) (v := .ref q_rates) (C := RX10) (T := TX10) (N := 65) hx hb hts iw_X10_feel_X10 hown hK hP 0 rfl rfl 18 (by decide) (hts _ kk_X10_feel_1) (fun _ h9 => h9) rfl dX10_feel_63 ?_
        refine lv_iload hx hb dX10_feel_66 (lv_at hl 1 rfl) ?_
        refine va_iald hx hb hK hP 2 1 rfl rfl (vq_in v1 6 (by omega)) dX10_feel_68 ?_
        refine lv_topi (fun x9 ex9 => ?_)
        refine lv_iload hx hb dX10_feel_69 (lv_at hl 0 rfl) ?_
        refine lv_iload_n hx hb dX10_feel_71 rfl (lv_at hl 2 rfl) ?_
        refine lv_isub hx hb dX10_feel_72 ?_
        refine lv_topi (fun x10 ex10 => ?_)
        refine lv_imul hx hb dX10_feel_73 ?_
        refine lv_topi (fun x11 ex11 => ?_)
        refine lv_iadd hx hb dX10_feel_74 ?_
        refine lv_topi (fun x12 ex12 => ?_)
        refine lv_istore_n (lv' := [(2, .int x12), (5, .int p0), (4, .int v1), (3, .int v2), (0, .ref o), (1, .int p0)]) hx hb dX10_feel_75 rfl hl (by decide) rfl (fun ls hl => ?_)
        refine lv_iload hx hb dX10_feel_76 (lv_at hl 1 rfl) ?_
        refine lv_istore_n (lv' := [(3, .int p0), (2, .int x12), (5, .int p0), (4, .int v1), (0, .ref o), (1, .int p0)]) hx hb dX10_feel_78 rfl hl (by decide) rfl (fun ls hl => ?_)
        obtain ⟨x13, ex13⟩ : ∃ z : Int32, v1 + Int32.ofInt 1 = z := ⟨_, rfl⟩
        have tx13 := i32_inc ex13 rfl (by decide) (by omega) (by omega)
        refine lv_iinc (v := x13) (lv' := [(4, .int x13), (3, .int p0), (2, .int x12), (5, .int p0), (0, .ref o), (1, .int p0)]) hx hb dX10_feel_79 hl (k := 3) rfl ex13 (by decide) rfl (fun ls hl => ?_)
        refine lv_goto (tgt := 7) hx hb dX10_feel_82 (by decide) ?_
        exact ih7 _ _ _ _ (by omega) ⟨x13, p0, x12, rfl, (iv.m (by omega)), hP, hD, hS, lv_sub hl [0, 1, 2, 4, 5] rfl⟩
    · have c69 := i32_nle c6 rfl rfl
      refine lv_aload_n hx hb dX10_feel_31 rfl (lv_at hl 3 rfl) ?_
      refine va_get (D := (dC, dI)) (ci := 10) (v := .ref q_marks) (C := RX10) (T := TX10) (N := 65) hx hb hts iw_X10_feel_X10 hown hK hP 0 rfl rfl 19 (by decide) (hts _ kk_X10_feel_2) (fun _ h9 => h9) rfl dX10_feel_32 ?_
      refine lv_iload hx hb dX10_feel_35 (lv_at hl 0 rfl) ?_
      refine va_iald hx hb hK hP 3 2 rfl rfl (vq_in v1 4 (by omega)) dX10_feel_37 ?_
      refine lv_topi (fun x14 ex14 => ?_)
      refine lv_iload_n hx hb dX10_feel_38 rfl (lv_at hl 4 rfl) ?_
      refine lv_icmp_ge (tgt := 52) hx hb dX10_feel_39 (by decide) (fun c15 => ?_) (fun c15 => ?_)
      · have c159 := i32_le c15 rfl rfl
        refine lv_iload_n hx hb dX10_feel_52 rfl (lv_at hl 4 rfl) ?_
        refine lv_istore (lv' := [(5, .int p0), (4, .int v1), (3, .int v2), (2, .int v3), (0, .ref o), (1, .int p0)]) hx hb dX10_feel_53 hl (by decide) rfl (fun ls hl => ?_)
        refine lv_iload hx hb dX10_feel_55 (lv_at hl 0 rfl) ?_
        refine lv_iload_n hx hb dX10_feel_57 rfl (lv_at hl 2 rfl) ?_
        refine lv_icmp_le (tgt := 76) hx hb dX10_feel_58 (by decide) (fun c16 => ?_) (fun c16 => ?_)
        · have c169 := i32_le c16 rfl rfl
          refine lv_iload hx hb dX10_feel_76 (lv_at hl 0 rfl) ?_
          refine lv_istore_n (lv' := [(3, .int p0), (5, .int p0), (4, .int v1), (2, .int v3), (0, .ref o), (1, .int p0)]) hx hb dX10_feel_78 rfl hl (by decide) rfl (fun ls hl => ?_)
          obtain ⟨x17, ex17⟩ : ∃ z : Int32, v1 + Int32.ofInt 1 = z := ⟨_, rfl⟩
          have tx17 := i32_inc ex17 rfl (by decide) (by omega) (by omega)
          refine lv_iinc (v := x17) (lv' := [(4, .int x17), (3, .int p0), (5, .int p0), (2, .int v3), (0, .ref o), (1, .int p0)]) hx hb dX10_feel_79 hl (k := 2) rfl ex17 (by decide) rfl (fun ls hl => ?_)
          refine lv_goto (tgt := 7) hx hb dX10_feel_82 (by decide) ?_
          exact ih7 _ _ _ _ (by omega) ⟨x17, p0, v3, rfl, (iv.m (by omega)), hP, hD, hS, lv_sub hl [0, 1, 3, 4, 5] rfl⟩
        · have c169 := i32_nle c16 rfl rfl
          refine lv_iload_n hx hb dX10_feel_61 rfl (lv_at hl 3 rfl) ?_
          refine lv_aload_n hx hb dX10_feel_62 rfl (lv_at hl 4 rfl) ?_
          refine va_get (D := (dC, dI)) (ci := 10) (v := .ref q_rates) (C := RX10) (T := TX10) (N := 65) hx hb hts iw_X10_feel_X10 hown hK hP 0 rfl rfl 18 (by decide) (hts _ kk_X10_feel_1) (fun _ h9 => h9) rfl dX10_feel_63 ?_
          refine lv_iload hx hb dX10_feel_66 (lv_at hl 1 rfl) ?_
          refine va_iald hx hb hK hP 2 1 rfl rfl (vq_in v1 6 (by omega)) dX10_feel_68 ?_
          refine lv_topi (fun x18 ex18 => ?_)
          refine lv_iload hx hb dX10_feel_69 (lv_at hl 0 rfl) ?_
          refine lv_iload_n hx hb dX10_feel_71 rfl (lv_at hl 2 rfl) ?_
          refine lv_isub hx hb dX10_feel_72 ?_
          refine lv_topi (fun x19 ex19 => ?_)
          refine lv_imul hx hb dX10_feel_73 ?_
          refine lv_topi (fun x20 ex20 => ?_)
          refine lv_iadd hx hb dX10_feel_74 ?_
          refine lv_topi (fun x21 ex21 => ?_)
          refine lv_istore_n (lv' := [(2, .int x21), (5, .int p0), (4, .int v1), (3, .int v2), (0, .ref o), (1, .int p0)]) hx hb dX10_feel_75 rfl hl (by decide) rfl (fun ls hl => ?_)
          refine lv_iload hx hb dX10_feel_76 (lv_at hl 1 rfl) ?_
          refine lv_istore_n (lv' := [(3, .int p0), (2, .int x21), (5, .int p0), (4, .int v1), (0, .ref o), (1, .int p0)]) hx hb dX10_feel_78 rfl hl (by decide) rfl (fun ls hl => ?_)
          obtain ⟨x22, ex22⟩ : ∃ z : Int32, v1 + Int32.ofInt 1 = z := ⟨_, rfl⟩
          have tx22 := i32_inc ex22 rfl (by decide) (by omega) (by omega)
          refine lv_iinc (v := x22) (lv' := [(4, .int x22), (3, .int p0), (2, .int x21), (5, .int p0), (0, .ref o), (1, .int p0)]) hx hb dX10_feel_79 hl (k := 3) rfl ex22 (by decide) rfl (fun ls hl => ?_)
          refine lv_goto (tgt := 7) hx hb dX10_feel_82 (by decide) ?_
          exact ih7 _ _ _ _ (by omega) ⟨x22, p0, x21, rfl, (iv.m (by omega)), hP, hD, hS, lv_sub hl [0, 1, 2, 4, 5] rfl⟩
      · have c159 := i32_nle c15 rfl rfl
        refine lv_aload_n hx hb dX10_feel_42 rfl (lv_at hl 3 rfl) ?_
        refine va_get (D := (dC, dI)) (ci := 10) (v := .ref q_marks) (C := RX10) (T := TX10) (N := 65) hx hb hts iw_X10_feel_X10 hown hK hP 0 rfl rfl 19 (by decide) (hts _ kk_X10_feel_2) (fun _ h9 => h9) rfl dX10_feel_43 ?_
        refine lv_iload hx hb dX10_feel_46 (lv_at hl 0 rfl) ?_
        refine va_iald hx hb hK hP 3 2 rfl rfl (vq_in v1 4 (by omega)) dX10_feel_48 ?_
        refine lv_topi (fun x23 ex23 => ?_)
        refine lv_goto (tgt := 53) hx hb dX10_feel_49 (by decide) ?_
        refine lv_istore (lv' := [(5, .int x23), (4, .int v1), (3, .int v2), (2, .int v3), (0, .ref o), (1, .int p0)]) hx hb dX10_feel_53 hl (by decide) rfl (fun ls hl => ?_)
        refine lv_iload hx hb dX10_feel_55 (lv_at hl 0 rfl) ?_
        refine lv_iload_n hx hb dX10_feel_57 rfl (lv_at hl 2 rfl) ?_
        refine lv_icmp_le (tgt := 76) hx hb dX10_feel_58 (by decide) (fun c24 => ?_) (fun c24 => ?_)
        · have c249 := i32_le c24 rfl rfl
          refine lv_iload hx hb dX10_feel_76 (lv_at hl 0 rfl) ?_
          refine lv_istore_n (lv' := [(3, .int x23), (5, .int x23), (4, .int v1), (2, .int v3), (0, .ref o), (1, .int p0)]) hx hb dX10_feel_78 rfl hl (by decide) rfl (fun ls hl => ?_)
          obtain ⟨x25, ex25⟩ : ∃ z : Int32, v1 + Int32.ofInt 1 = z := ⟨_, rfl⟩
          have tx25 := i32_inc ex25 rfl (by decide) (by omega) (by omega)
          refine lv_iinc (v := x25) (lv' := [(4, .int x25), (3, .int x23), (5, .int x23), (2, .int v3), (0, .ref o), (1, .int p0)]) hx hb dX10_feel_79 hl (k := 2) rfl ex25 (by decide) rfl (fun ls hl => ?_)
          refine lv_goto (tgt := 7) hx hb dX10_feel_82 (by decide) ?_
          exact ih7 _ _ _ _ (by omega) ⟨x25, x23, v3, rfl, (iv.m (by omega)), hP, hD, hS, lv_sub hl [0, 1, 3, 4, 5] rfl⟩
        · have c249 := i32_nle c24 rfl rfl
          refine lv_iload_n hx hb dX10_feel_61 rfl (lv_at hl 3 rfl) ?_
          refine lv_aload_n hx hb dX10_feel_62 rfl (lv_at hl 4 rfl) ?_
          refine va_get (D := (dC, dI)) (ci := 10) (v := .ref q_rates) (C := RX10) (T := TX10) (N := 65) hx hb hts iw_X10_feel_X10 hown hK hP 0 rfl rfl 18 (by decide) (hts _ kk_X10_feel_1) (fun _ h9 => h9) rfl dX10_feel_63 ?_
          refine lv_iload hx hb dX10_feel_66 (lv_at hl 1 rfl) ?_
          refine va_iald hx hb hK hP 2 1 rfl rfl (vq_in v1 6 (by omega)) dX10_feel_68 ?_
          refine lv_topi (fun x26 ex26 => ?_)
          refine lv_iload hx hb dX10_feel_69 (lv_at hl 0 rfl) ?_
          refine lv_iload_n hx hb dX10_feel_71 rfl (lv_at hl 2 rfl) ?_
          refine lv_isub hx hb dX10_feel_72 ?_
          refine lv_topi (fun x27 ex27 => ?_)
          refine lv_imul hx hb dX10_feel_73 ?_
          refine lv_topi (fun x28 ex28 => ?_)
          refine lv_iadd hx hb dX10_feel_74 ?_
          refine lv_topi (fun x29 ex29 => ?_)
          refine lv_istore_n (lv' := [(2, .int x29), (5, .int x23), (4, .int v1), (3, .int v2), (0, .ref o), (1, .int p0)]) hx hb dX10_feel_75 rfl hl (by decide) rfl (fun ls hl => ?_)
          refine lv_iload hx hb dX10_feel_76 (lv_at hl 1 rfl) ?_
          refine lv_istore_n (lv' := [(3, .int x23), (2, .int x29), (5, .int x23), (4, .int v1), (0, .ref o), (1, .int p0)]) hx hb dX10_feel_78 rfl hl (by decide) rfl (fun ls hl => ?_)
          obtain ⟨x30, ex30⟩ : ∃ z : Int32, v1 + Int32.ofInt 1 = z := ⟨_, rfl⟩
          have tx30 := i32_inc ex30 rfl (by decide) (by omega) (by omega)
          refine lv_iinc (v := x30) (lv' := [(4, .int x30), (3, .int x23), (2, .int x29), (5, .int x23), (0, .ref o), (1, .int p0)]) hx hb dX10_feel_79 hl (k := 3) rfl ex30 (by decide) rfl (fun ls hl => ?_)
          refine lv_goto (tgt := 7) hx hb dX10_feel_82 (by decide) ?_
          exact ih7 _ _ _ _ (by omega) ⟨x30, x23, x29, rfl, (iv.m (by omega)), hP, hD, hS, lv_sub hl [0, 1, 2, 4, 5] rfl⟩

