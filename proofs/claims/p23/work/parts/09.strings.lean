/-! ===== BEGIN words of one list among another's, by their places ===== -/
theorem goodIn_r {big : List Cond} (ws : List Cond) (ps : List Nat) (hp : ws = ps.filterMap (fun i => big[i]?)) (h : ws.all goodWord = true) : GoodIn big ws := by
  intro w hw
  have h1 := List.all_eq_true.mp h w hw
  rw [hp] at hw
  obtain ⟨i, -, hi⟩ := List.mem_filterMap.mp hw
  have hm : w ∈ big := by first | exact List.mem_of_getElem? hi | exact List.getElem?_mem hi
  exact ⟨hm, good_of_word h1⟩
theorem goodIn_app {big a b : List Cond} (ha : GoodIn big a) (hb : GoodIn big b) : GoodIn big (a ++ b) := fun w h => (List.mem_append.mp h).elim (ha w) (hb w)
theorem goodIn_ca {big a b : List Cond} {c : Cond} (ha : GoodIn big (c :: a)) (hb : GoodIn big b) : GoodIn big (c :: (a ++ b)) := fun w h => (List.mem_cons.mp h).elim (fun e => ha w (List.mem_cons.mpr (Or.inl e))) (fun h => (List.mem_append.mp h).elim (fun h => ha w (List.mem_cons.mpr (Or.inr h))) (hb w))
theorem goodIn_sub {big ws : List Cond} (hm : ∀ w ∈ ws, w ∈ big) (h : ws.all goodWord = true) : GoodIn big ws := fun w hw => ⟨hm w hw, good_of_word (List.all_eq_true.mp h w hw)⟩
/-! ===== END ===== -/


def RX0 : String := "PaidBySigns$CoinSearch"
def TX0 : u_T := fun k => match k with
  | 0 => ("PaidBySigns$CoinSearch", "chosen", "[I", true)
  | 1 => ("PaidBySigns$CoinSearch", "bestCost", "I", false)
  | 2 => ("PaidBySigns$CoinSearch", "felt", "[I", true)
  | 3 => ("PaidBySigns$CoinSearch", "own", "[I", true)
  | 4 => ("PaidBySigns$CoinSearch", "share", "[[I", true)
  | 5 => ("PaidBySigns$CoinSearch", "rest", "[[I", true)
  | 6 => ("PaidBySigns$CoinSearch", "left", "[[I", true)
  | 7 => ("PaidBySigns$CoinSearch", "tried", "[I", true)
  | 8 => ("PaidBySigns$CoinSearch", "signs", "I", false)
  | 9 => ("PaidBySigns$CoinSearch", "lines", "I", false)
  | _ => ("PaidBySigns$CoinSearch", "most", "I", false)
def RX1 : String := "PaidBySigns$Diary"
def TX1 : u_T := fun k => match k with
  | 0 => ("PaidBySigns$Diary", "seen", "I", false)
  | 1 => ("PaidBySigns$Diary", "rights", "I", false)
  | 2 => ("PaidBySigns$Diary", "latestStep", "I", false)
  | 3 => ("PaidBySigns$Diary", "seenStep", "[I", true)
  | 4 => ("PaidBySigns$Diary", "seenSign", "[I", true)
  | 5 => ("PaidBySigns$Diary", "timesRight", "[I", true)
  | 6 => ("PaidBySigns$Diary", "rightStep", "[I", true)
  | 7 => ("PaidBySigns$Diary", "rightOf", "[I", true)
  | _ => ("PaidBySigns$Diary", "rightSign", "[I", true)
def RX2 : String := "PaidBySigns$Fraction"
def TX2 : u_T := fun k => match k with
  | 0 => ("PaidBySigns$Fraction", "upper", "J", false)
  | _ => ("PaidBySigns$Fraction", "lower", "J", false)
def RX3 : String := "PaidBySigns$Hire"
def TX3 : u_T := fun k => match k with
  | 0 => ("PaidBySigns$Hire", "signs", "I", false)
  | 1 => ("PaidBySigns$Hire", "works", "I", false)
  | 2 => ("PaidBySigns$Hire", "whole", "I", false)
  | 3 => ("PaidBySigns$Hire", "otherwise", "I", false)
  | 4 => ("PaidBySigns$Hire", "least", "I", false)
  | 5 => ("PaidBySigns$Hire", "rates", "I", false)
  | 6 => ("PaidBySigns$Hire", "brings", "[I", true)
  | 7 => ("PaidBySigns$Hire", "costs", "[I", true)
  | 8 => ("PaidBySigns$Hire", "chances", "[[I", true)
  | 9 => ("PaidBySigns$Hire", "rate", "[I", true)
  | _ => ("PaidBySigns$Hire", "mark", "[I", true)
def RX4 : String := "PaidBySigns$LeastCost"
def TX4 : u_T := fun k => match k with
  | 0 => ("PaidBySigns$LeastCost", "above", "[J", true)
  | 1 => ("PaidBySigns$LeastCost", "aboveLower", "J", false)
  | 2 => ("PaidBySigns$LeastCost", "table", "LPaidBySigns$Table;", true)
  | 3 => ("PaidBySigns$LeastCost", "columnSign", "[I", true)
  | 4 => ("PaidBySigns$LeastCost", "columnRate", "[I", true)
  | 5 => ("PaidBySigns$LeastCost", "columnRoom", "[I", true)
  | 6 => ("PaidBySigns$LeastCost", "columns", "I", false)
  | 7 => ("PaidBySigns$LeastCost", "rooms", "I", false)
  | 8 => ("PaidBySigns$LeastCost", "hire", "LPaidBySigns$Hire;", false)
  | 9 => ("PaidBySigns$LeastCost", "work", "I", false)
  | 10 => ("PaidBySigns$LeastCost", "keptSign", "I", false)
  | _ => ("PaidBySigns$LeastCost", "joinedSign", "I", false)
def RX5 : String := "PaidBySigns$OneSum"
def TX5 : u_T := fun k => match k with
  | 0 => ("PaidBySigns$OneSum", "lowUpper", "J", false)
  | 1 => ("PaidBySigns$OneSum", "lowLower", "J", false)
  | 2 => ("PaidBySigns$OneSum", "capUpper", "J", false)
  | 3 => ("PaidBySigns$OneSum", "capLower", "J", false)
  | _ => ("PaidBySigns$OneSum", "isBroken", "Z", false)
def RX6 : String := "PaidBySigns$Proofs"
def TX6 : u_T := fun k => match k with
  | 0 => ("PaidBySigns$Proofs", "lowerNumber", "I", false)
  | 1 => ("PaidBySigns$Proofs", "press", "[I", true)
  | 2 => ("PaidBySigns$Proofs", "pressOfElse", "I", false)
  | _ => ("PaidBySigns$Proofs", "mixed", "[I", true)
def RX7 : String := "PaidBySigns$Reader"
def TX7 : u_T := fun k => match k with
  | 0 => ("PaidBySigns$Reader", "length", "I", false)
  | 1 => ("PaidBySigns$Reader", "faultKind", "I", false)
  | 2 => ("PaidBySigns$Reader", "faultPlace", "I", false)
  | 3 => ("PaidBySigns$Reader", "into", "LPaidBySigns$Hire;", false)
  | 4 => ("PaidBySigns$Reader", "text", "[B", true)
  | 5 => ("PaidBySigns$Reader", "next", "I", false)
  | 6 => ("PaidBySigns$Reader", "token", "I", false)
  | 7 => ("PaidBySigns$Reader", "start", "I", false)
  | 8 => ("PaidBySigns$Reader", "value", "I", false)
  | 9 => ("PaidBySigns$Reader", "nameStart", "[I", true)
  | 10 => ("PaidBySigns$Reader", "nameEnd", "[I", true)
  | 11 => ("PaidBySigns$Reader", "hasElse", "Z", false)
  | 12 => ("PaidBySigns$Reader", "hasLeast", "Z", false)
  | _ => ("PaidBySigns$Reader", "hasFeel", "Z", false)
def RX8 : String := "PaidBySigns$Table"
def TX8 : u_T := fun k => match k with
  | 0 => ("PaidBySigns$Table", "entry", "[[J", true)
  | 1 => ("PaidBySigns$Table", "lineName", "[I", true)
  | 2 => ("PaidBySigns$Table", "columnName", "[I", true)
  | 3 => ("PaidBySigns$Table", "goals", "I", false)
  | 4 => ("PaidBySigns$Table", "lines", "I", false)
  | 5 => ("PaidBySigns$Table", "columns", "I", false)
  | _ => ("PaidBySigns$Table", "base", "J", false)
def RX9 : String := "PaidBySigns"
def TX9 : u_T := fun k => match k with
  | 0 => ("PaidBySigns", "reader", "LPaidBySigns$Reader;", true)
  | 1 => ("PaidBySigns", "hire", "LPaidBySigns$Hire;", false)
  | 2 => ("PaidBySigns", "hand", "[I", true)
  | 3 => ("PaidBySigns", "latest", "LPaidBySigns$Fraction;", true)
  | 4 => ("PaidBySigns", "trial", "LPaidBySigns$Fraction;", true)
  | 5 => ("PaidBySigns", "champion", "LPaidBySigns$Fraction;", true)
  | 6 => ("PaidBySigns", "wageUpper", "[J", true)
  | 7 => ("PaidBySigns", "wageLower", "[J", true)
  | 8 => ("PaidBySigns", "hasWages", "Z", false)
  | 9 => ("PaidBySigns", "cheapest", "LPaidBySigns$LeastCost;", true)
  | 10 => ("PaidBySigns", "oneSum", "LPaidBySigns$OneSum;", true)
  | 11 => ("PaidBySigns", "coinSearch", "LPaidBySigns$CoinSearch;", true)
  | 12 => ("PaidBySigns", "proofs", "LPaidBySigns$Proofs;", true)
  | _ => ("PaidBySigns", "diary", "LPaidBySigns$Diary;", true)
def RX10 : String := "PaidBySignsModel"
def TX10 : u_T := fun k => match k with
  | 0 => ("PaidBySignsModel", "tape", "[B", true)
  | 1 => ("PaidBySignsModel", "taped", "I", false)
  | 2 => ("PaidBySignsModel", "size", "I", false)
  | 3 => ("PaidBySignsModel", "sort", "I", false)
  | 4 => ("PaidBySignsModel", "key", "I", false)
  | 5 => ("PaidBySignsModel", "at", "I", false)
  | 6 => ("PaidBySignsModel", "end", "I", false)
  | 7 => ("PaidBySignsModel", "number", "I", false)
  | 8 => ("PaidBySignsModel", "faultKind", "I", false)
  | 9 => ("PaidBySignsModel", "faultPlace", "I", false)
  | 10 => ("PaidBySignsModel", "word", "J", false)
  | 11 => ("PaidBySignsModel", "got", "I", false)
  | 12 => ("PaidBySignsModel", "num", "[I", true)
  | 13 => ("PaidBySignsModel", "signName", "[J", true)
  | 14 => ("PaidBySignsModel", "workName", "[J", true)
  | 15 => ("PaidBySignsModel", "brings", "[I", true)
  | 16 => ("PaidBySignsModel", "costs", "[I", true)
  | 17 => ("PaidBySignsModel", "chances", "[I", true)
  | 18 => ("PaidBySignsModel", "rates", "[I", true)
  | 19 => ("PaidBySignsModel", "marks", "[I", true)
  | 20 => ("PaidBySignsModel", "seen", "I", false)
  | 21 => ("PaidBySignsModel", "hand", "[I", true)
  | 22 => ("PaidBySignsModel", "hasFraction", "Z", false)
  | 23 => ("PaidBySignsModel", "upper", "J", false)
  | 24 => ("PaidBySignsModel", "lower", "J", false)
  | 25 => ("PaidBySignsModel", "groups", "I", false)
  | 26 => ("PaidBySignsModel", "bounds", "I", false)
  | 27 => ("PaidBySignsModel", "groupOf", "[I", true)
  | 28 => ("PaidBySignsModel", "row", "[J", true)
  | 29 => ("PaidBySignsModel", "least", "[J", true)
  | 30 => ("PaidBySignsModel", "asked", "I", false)
  | 31 => ("PaidBySignsModel", "chosen", "[I", true)
  | 32 => ("PaidBySignsModel", "matrix", "[J", true)
  | 33 => ("PaidBySignsModel", "x", "[J", true)
  | 34 => ("PaidBySignsModel", "det", "J", false)
  | 35 => ("PaidBySignsModel", "wageUp", "[J", true)
  | 36 => ("PaidBySignsModel", "wageLow", "[J", true)
  | 37 => ("PaidBySignsModel", "isFound", "Z", false)
  | 38 => ("PaidBySignsModel", "costUp", "J", false)
  | 39 => ("PaidBySignsModel", "costLow", "J", false)
  | 40 => ("PaidBySignsModel", "bestUp", "[J", true)
  | 41 => ("PaidBySignsModel", "bestLow", "[J", true)
  | 42 => ("PaidBySignsModel", "hasWages", "Z", false)
  | 43 => ("PaidBySignsModel", "wageMany", "I", false)
  | 44 => ("PaidBySignsModel", "toldUp", "[J", true)
  | 45 => ("PaidBySignsModel", "toldLow", "[J", true)
  | 46 => ("PaidBySignsModel", "bestLeftUp", "J", false)
  | 47 => ("PaidBySignsModel", "bestLeftLow", "J", false)
  | 48 => ("PaidBySignsModel", "coin", "[I", true)
  | 49 => ("PaidBySignsModel", "fromUp", "J", false)
  | 50 => ("PaidBySignsModel", "fromLow", "J", false)
  | 51 => ("PaidBySignsModel", "toUp", "J", false)
  | 52 => ("PaidBySignsModel", "toLow", "J", false)
  | 53 => ("PaidBySignsModel", "canBe", "Z", false)
  | 54 => ("PaidBySignsModel", "presses", "[I", true)
  | 55 => ("PaidBySignsModel", "mixes", "[I", true)
  | 56 => ("PaidBySignsModel", "lowerPress", "I", false)
  | 57 => ("PaidBySignsModel", "seenMany", "I", false)
  | 58 => ("PaidBySignsModel", "rightMany", "I", false)
  | 59 => ("PaidBySignsModel", "lastTold", "I", false)
  | 60 => ("PaidBySignsModel", "sTold", "[I", true)
  | 61 => ("PaidBySignsModel", "sSign", "[I", true)
  | 62 => ("PaidBySignsModel", "rOf", "[I", true)
  | 63 => ("PaidBySignsModel", "rTold", "[I", true)
  | _ => ("PaidBySignsModel", "rSign", "[I", true)
def RJ0 : String := "java/lang/String"
abbrev cJ0_length_8abf5 : ByteArray := prog_15_method_54_code
def yJ0_length_8abf5 : MethodName := ⟨RJ0, "length", "()I"⟩
abbrev cJ0_charAt_5068e : ByteArray := prog_15_method_56_code
def yJ0_charAt_5068e : MethodName := ⟨RJ0, "charAt", "(I)C"⟩
abbrev cJ0_coder_7d493 : ByteArray := prog_15_method_152_code
def yJ0_coder_7d493 : MethodName := ⟨RJ0, "coder", "()B"⟩
abbrev cJ0_isLatin1_aae02 : ByteArray := prog_15_method_154_code
def yJ0_isLatin1_aae02 : MethodName := ⟨RJ0, "isLatin1", "()Z"⟩
abbrev cJ0_checkIndex_df160 : ByteArray := prog_15_method_155_code
def yJ0_checkIndex_df160 : MethodName := ⟨RJ0, "checkIndex", "(II)V"⟩
def RJ1 : String := "java/lang/StringLatin1"
abbrev cJ1_charAt_3b067 : ByteArray := prog_16_method_2_code
def yJ1_charAt_3b067 : MethodName := ⟨RJ1, "charAt", "([BI)C"⟩
def RJ2 : String := "java/lang/StringUTF16"
abbrev cJ2_getChar_3b067 : ByteArray := prog_17_method_5_code
def yJ2_getChar_3b067 : MethodName := ⟨RJ2, "getChar", "([BI)C"⟩
abbrev cJ2_length_9d52b : ByteArray := prog_17_method_6_code
def yJ2_length_9d52b : MethodName := ⟨RJ2, "length", "([B)I"⟩
abbrev cJ2_charAt_3b067 : ByteArray := prog_17_method_83_code
def yJ2_charAt_3b067 : MethodName := ⟨RJ2, "charAt", "([BI)C"⟩
abbrev cJ2_checkIndex_2214a : ByteArray := prog_17_method_91_code
def yJ2_checkIndex_2214a : MethodName := ⟨RJ2, "checkIndex", "(I[B)V"⟩
def RJ3 : String := "jdk/internal/util/Preconditions"
abbrev cJ3_checkIndex_8e157 : ByteArray := prog_20_method_11_code
def yJ3_checkIndex_8e157 : MethodName := ⟨RJ3, "checkIndex", "(IILjava/util/function/BiFunction;)I"⟩
def wsJ0_coder_7d493 : List Cond := .code yJ0_coder_7d493 cJ0_coder_7d493 1 (some .byte) :: ([.fieldLink RJ0 38 "java/lang/String" "COMPACT_STRINGS" "Z", .fieldLink RJ0 15 "java/lang/String" "coder" "B"])
def wsJ0_length_8abf5 : List Cond := .code yJ0_length_8abf5 cJ0_length_8abf5 1 (some .int) :: ([.fieldLink RJ0 9 "java/lang/String" "value" "[B", .methodLink RJ0 335 yJ0_coder_7d493, .instanceMethod yJ0_coder_7d493, .selects RJ0 yJ0_coder_7d493 yJ0_coder_7d493, .initialized RJ0, .code yJ0_coder_7d493 cJ0_coder_7d493 1 (some .byte), .fieldLink RJ0 38 "java/lang/String" "COMPACT_STRINGS" "Z", .fieldLink RJ0 15 "java/lang/String" "coder" "B"])
def wsJ0_isLatin1_aae02 : List Cond := .code yJ0_isLatin1_aae02 cJ0_isLatin1_aae02 1 (some .boolean) :: ([.fieldLink RJ0 38 "java/lang/String" "COMPACT_STRINGS" "Z", .fieldLink RJ0 15 "java/lang/String" "coder" "B"])
def wsJ3_checkIndex_8e157 : List Cond := .code yJ3_checkIndex_8e157 cJ3_checkIndex_8e157 3 (some .int) :: ([])
def wsJ0_checkIndex_df160 : List Cond := .code yJ0_checkIndex_df160 cJ0_checkIndex_df160 2 none :: ([.fieldLink RJ0 1053 "jdk/internal/util/Preconditions" "SIOOBE_FORMATTER" "Ljava/util/function/BiFunction;", .methodLink RJ0 1059 yJ3_checkIndex_8e157, .static yJ3_checkIndex_8e157, .initialized RJ3, .code yJ3_checkIndex_8e157 cJ3_checkIndex_8e157 3 (some .int)])
def wsJ1_charAt_3b067 : List Cond := .code yJ1_charAt_3b067 cJ1_charAt_3b067 2 (some .char) :: ([.methodLink RJ1 9 yJ0_checkIndex_df160, .static yJ0_checkIndex_df160, .initialized RJ0, .code yJ0_checkIndex_df160 cJ0_checkIndex_df160 2 none, .fieldLink RJ0 1053 "jdk/internal/util/Preconditions" "SIOOBE_FORMATTER" "Ljava/util/function/BiFunction;", .methodLink RJ0 1059 yJ3_checkIndex_8e157, .static yJ3_checkIndex_8e157, .initialized RJ3, .code yJ3_checkIndex_8e157 cJ3_checkIndex_8e157 3 (some .int)])
def wsJ0_charAt_5068e_r1 : List Cond := [Cond.fieldLink RJ0 9 "java/lang/String" "value" "[B", Cond.methodLink RJ0 492 yJ0_isLatin1_aae02, Cond.instanceMethod yJ0_isLatin1_aae02, Cond.selects RJ0 yJ0_isLatin1_aae02 yJ0_isLatin1_aae02, Cond.initialized RJ0, Cond.code yJ0_isLatin1_aae02 cJ0_isLatin1_aae02 1 (some .boolean), Cond.fieldLink RJ0 38 "java/lang/String" "COMPACT_STRINGS" "Z", Cond.fieldLink RJ0 15 "java/lang/String" "coder" "B", Cond.methodLink RJ0 495 yJ1_charAt_3b067, Cond.static yJ1_charAt_3b067, Cond.initialized RJ1, Cond.code yJ1_charAt_3b067 cJ1_charAt_3b067 2 (some .char), Cond.methodLink RJ1 9 yJ0_checkIndex_df160, Cond.static yJ0_checkIndex_df160, Cond.code yJ0_checkIndex_df160 cJ0_checkIndex_df160 2 none, Cond.fieldLink RJ0 1053 "jdk/internal/util/Preconditions" "SIOOBE_FORMATTER" "Ljava/util/function/BiFunction;", Cond.methodLink RJ0 1059 yJ3_checkIndex_8e157, Cond.static yJ3_checkIndex_8e157, Cond.initialized RJ3, Cond.code yJ3_checkIndex_8e157 cJ3_checkIndex_8e157 3 (some .int), Cond.methodLink RJ0 498 yJ2_charAt_3b067, Cond.static yJ2_charAt_3b067, Cond.initialized RJ2, Cond.code yJ2_charAt_3b067 cJ2_charAt_3b067 2 (some .char)]
def wsJ0_charAt_5068e_r2 : List Cond := [Cond.methodLink RJ2 67 yJ2_checkIndex_2214a, Cond.static yJ2_checkIndex_2214a, Cond.code yJ2_checkIndex_2214a cJ2_checkIndex_2214a 2 none, Cond.methodLink RJ2 48 yJ2_length_9d52b, Cond.static yJ2_length_9d52b, Cond.code yJ2_length_9d52b cJ2_length_9d52b 1 (some .int), Cond.methodLink RJ2 414 yJ0_checkIndex_df160, Cond.methodLink RJ2 71 yJ2_getChar_3b067, Cond.static yJ2_getChar_3b067, Cond.code yJ2_getChar_3b067 cJ2_getChar_3b067 2 (some .char), Cond.fieldLink RJ2 44 "java/lang/StringUTF16" "$assertionsDisabled" "Z", Cond.fieldLink RJ2 59 "java/lang/StringUTF16" "HI_BYTE_SHIFT" "I", Cond.fieldLink RJ2 63 "java/lang/StringUTF16" "LO_BYTE_SHIFT" "I"]
def wsJ0_charAt_5068e : List Cond := .code yJ0_charAt_5068e cJ0_charAt_5068e 2 (some .char) :: ((wsJ0_charAt_5068e_r1 ++ wsJ0_charAt_5068e_r2))
set_option maxRecDepth 20000 in
theorem ggJ0_length_8abf5_J0_coder_7d493 : GoodIn wsJ0_length_8abf5 wsJ0_coder_7d493 := goodIn_sub (List.forall_mem_cons.mpr ⟨List.mem_cons_of_mem _ (List.mem_of_getElem? (i := 5) rfl), List.forall_mem_cons.mpr ⟨List.mem_cons_of_mem _ (List.mem_of_getElem? (i := 6) rfl), List.forall_mem_cons.mpr ⟨List.mem_cons_of_mem _ (List.mem_of_getElem? (i := 7) rfl), fun _ h => absurd h List.not_mem_nil⟩⟩⟩) (by decide +kernel)
set_option maxRecDepth 20000 in
theorem gJ0_length_8abf5_J0_coder_7d493 : GoodIn wsJ0_length_8abf5 (wsV RJ0 335 RJ0 yJ0_coder_7d493 wsJ0_coder_7d493) := goodIn_app (goodIn_sub (List.forall_mem_cons.mpr ⟨List.mem_cons_of_mem _ (List.mem_of_getElem? (i := 1) rfl), List.forall_mem_cons.mpr ⟨List.mem_cons_of_mem _ (List.mem_of_getElem? (i := 2) rfl), List.forall_mem_cons.mpr ⟨List.mem_cons_of_mem _ (List.mem_of_getElem? (i := 3) rfl), List.forall_mem_cons.mpr ⟨List.mem_cons_of_mem _ (List.mem_of_getElem? (i := 4) rfl), fun _ h => absurd h List.not_mem_nil⟩⟩⟩⟩) (by decide +kernel)) ggJ0_length_8abf5_J0_coder_7d493
theorem bJ0_length_8abf5_0 : ((bys cJ0_length_8abf5).drop 0).take 16 = [42, 180, 0, 9, 190, 42, 182, 1, 79, 122, 172] := by decide +kernel
theorem dJ0_length_8abf5_0 : decode cJ0_length_8abf5 0 = .ok (.aload_n 0, 1) := do_42 (byt_at bJ0_length_8abf5_0 (j := 0) rfl)
theorem dJ0_length_8abf5_1 : decode cJ0_length_8abf5 1 = .ok (.getfield 9, 3) := do_180 0 9 (byt_at bJ0_length_8abf5_0 (j := 1) rfl) (byt_at bJ0_length_8abf5_0 (j := 2) rfl) (byt_at bJ0_length_8abf5_0 (j := 3) rfl)
theorem dJ0_length_8abf5_4 : decode cJ0_length_8abf5 4 = .ok (.arraylength, 1) := do_190 (byt_at bJ0_length_8abf5_0 (j := 4) rfl)
theorem dJ0_length_8abf5_5 : decode cJ0_length_8abf5 5 = .ok (.aload_n 0, 1) := do_42 (byt_at bJ0_length_8abf5_0 (j := 5) rfl)
theorem dJ0_length_8abf5_6 : decode cJ0_length_8abf5 6 = .ok (.invokevirtual 335, 3) := do_182 1 79 (byt_at bJ0_length_8abf5_0 (j := 6) rfl) (byt_at bJ0_length_8abf5_0 (j := 7) rfl) (byt_at bJ0_length_8abf5_0 (j := 8) rfl)
theorem dJ0_length_8abf5_9 : decode cJ0_length_8abf5 9 = .ok (.ishr, 1) := do_122 (byt_at bJ0_length_8abf5_0 (j := 9) rfl)
theorem dJ0_length_8abf5_10 : decode cJ0_length_8abf5 10 = .ok (.ireturn, 1) := do_172 (byt_at bJ0_length_8abf5_0 (j := 10) rfl)
theorem pm_J0_charAt_5068e_r1 : ∀ w ∈ wsJ0_charAt_5068e_r1, w ∈ wsJ0_charAt_5068e := fun _ h => List.mem_cons_of_mem _ (List.mem_append_left _ h)
theorem pm_J0_charAt_5068e_r2 : ∀ w ∈ wsJ0_charAt_5068e_r2, w ∈ wsJ0_charAt_5068e := fun _ h => List.mem_cons_of_mem _ (List.mem_append_right _ (h))
set_option maxRecDepth 20000 in
theorem ggJ0_charAt_5068e_J0_isLatin1_aae02 : GoodIn wsJ0_charAt_5068e wsJ0_isLatin1_aae02 := goodIn_sub (List.forall_mem_cons.mpr ⟨pm_J0_charAt_5068e_r1 _ (List.mem_of_getElem? (i := 5) rfl), List.forall_mem_cons.mpr ⟨pm_J0_charAt_5068e_r1 _ (List.mem_of_getElem? (i := 6) rfl), List.forall_mem_cons.mpr ⟨pm_J0_charAt_5068e_r1 _ (List.mem_of_getElem? (i := 7) rfl), fun _ h => absurd h List.not_mem_nil⟩⟩⟩) (by decide +kernel)
set_option maxRecDepth 20000 in
theorem gJ0_charAt_5068e_J0_isLatin1_aae02 : GoodIn wsJ0_charAt_5068e (wsV RJ0 492 RJ0 yJ0_isLatin1_aae02 wsJ0_isLatin1_aae02) := goodIn_app (goodIn_sub (List.forall_mem_cons.mpr ⟨pm_J0_charAt_5068e_r1 _ (List.mem_of_getElem? (i := 1) rfl), List.forall_mem_cons.mpr ⟨pm_J0_charAt_5068e_r1 _ (List.mem_of_getElem? (i := 2) rfl), List.forall_mem_cons.mpr ⟨pm_J0_charAt_5068e_r1 _ (List.mem_of_getElem? (i := 3) rfl), List.forall_mem_cons.mpr ⟨pm_J0_charAt_5068e_r1 _ (List.mem_of_getElem? (i := 4) rfl), fun _ h => absurd h List.not_mem_nil⟩⟩⟩⟩) (by decide +kernel)) ggJ0_charAt_5068e_J0_isLatin1_aae02
set_option maxRecDepth 20000 in
theorem ggJ0_charAt_5068e_J1_charAt_3b067 : GoodIn wsJ0_charAt_5068e wsJ1_charAt_3b067 := goodIn_sub (List.forall_mem_cons.mpr ⟨pm_J0_charAt_5068e_r1 _ (List.mem_of_getElem? (i := 11) rfl), List.forall_mem_cons.mpr ⟨pm_J0_charAt_5068e_r1 _ (List.mem_of_getElem? (i := 12) rfl), List.forall_mem_cons.mpr ⟨pm_J0_charAt_5068e_r1 _ (List.mem_of_getElem? (i := 13) rfl), List.forall_mem_cons.mpr ⟨pm_J0_charAt_5068e_r1 _ (List.mem_of_getElem? (i := 4) rfl), List.forall_mem_cons.mpr ⟨pm_J0_charAt_5068e_r1 _ (List.mem_of_getElem? (i := 14) rfl), List.forall_mem_cons.mpr ⟨pm_J0_charAt_5068e_r1 _ (List.mem_of_getElem? (i := 15) rfl), List.forall_mem_cons.mpr ⟨pm_J0_charAt_5068e_r1 _ (List.mem_of_getElem? (i := 16) rfl), List.forall_mem_cons.mpr ⟨pm_J0_charAt_5068e_r1 _ (List.mem_of_getElem? (i := 17) rfl), List.forall_mem_cons.mpr ⟨pm_J0_charAt_5068e_r1 _ (List.mem_of_getElem? (i := 18) rfl), List.forall_mem_cons.mpr ⟨pm_J0_charAt_5068e_r1 _ (List.mem_of_getElem? (i := 19) rfl), fun _ h => absurd h List.not_mem_nil⟩⟩⟩⟩⟩⟩⟩⟩⟩⟩) (by decide +kernel)
set_option maxRecDepth 20000 in
theorem gJ0_charAt_5068e_J1_charAt_3b067 : GoodIn wsJ0_charAt_5068e (va_wsS RJ0 495 yJ1_charAt_3b067 wsJ1_charAt_3b067) := goodIn_app (goodIn_sub (List.forall_mem_cons.mpr ⟨pm_J0_charAt_5068e_r1 _ (List.mem_of_getElem? (i := 8) rfl), List.forall_mem_cons.mpr ⟨pm_J0_charAt_5068e_r1 _ (List.mem_of_getElem? (i := 9) rfl), List.forall_mem_cons.mpr ⟨pm_J0_charAt_5068e_r1 _ (List.mem_of_getElem? (i := 10) rfl), fun _ h => absurd h List.not_mem_nil⟩⟩⟩) (by decide +kernel)) ggJ0_charAt_5068e_J1_charAt_3b067
theorem bJ0_charAt_5068e_0 : ((bys cJ0_charAt_5068e).drop 0).take 16 = [42, 182, 1, 236, 153, 0, 12, 42, 180, 0, 9, 27, 184, 1, 239, 172] := by decide +kernel
theorem dJ0_charAt_5068e_0 : decode cJ0_charAt_5068e 0 = .ok (.aload_n 0, 1) := do_42 (byt_at bJ0_charAt_5068e_0 (j := 0) rfl)
theorem dJ0_charAt_5068e_1 : decode cJ0_charAt_5068e 1 = .ok (.invokevirtual 492, 3) := do_182 1 236 (byt_at bJ0_charAt_5068e_0 (j := 1) rfl) (byt_at bJ0_charAt_5068e_0 (j := 2) rfl) (byt_at bJ0_charAt_5068e_0 (j := 3) rfl)
theorem dJ0_charAt_5068e_4 : decode cJ0_charAt_5068e 4 = .ok (.ifCond .eq 12, 3) := do_153 0 12 (byt_at bJ0_charAt_5068e_0 (j := 4) rfl) (byt_at bJ0_charAt_5068e_0 (j := 5) rfl) (byt_at bJ0_charAt_5068e_0 (j := 6) rfl) (by decide)
theorem dJ0_charAt_5068e_7 : decode cJ0_charAt_5068e 7 = .ok (.aload_n 0, 1) := do_42 (byt_at bJ0_charAt_5068e_0 (j := 7) rfl)
theorem dJ0_charAt_5068e_8 : decode cJ0_charAt_5068e 8 = .ok (.getfield 9, 3) := do_180 0 9 (byt_at bJ0_charAt_5068e_0 (j := 8) rfl) (byt_at bJ0_charAt_5068e_0 (j := 9) rfl) (byt_at bJ0_charAt_5068e_0 (j := 10) rfl)
theorem dJ0_charAt_5068e_11 : decode cJ0_charAt_5068e 11 = .ok (.iload_n 1, 1) := do_27 (byt_at bJ0_charAt_5068e_0 (j := 11) rfl)
theorem dJ0_charAt_5068e_12 : decode cJ0_charAt_5068e 12 = .ok (.invokestatic 495, 3) := do_184 1 239 (byt_at bJ0_charAt_5068e_0 (j := 12) rfl) (byt_at bJ0_charAt_5068e_0 (j := 13) rfl) (byt_at bJ0_charAt_5068e_0 (j := 14) rfl)
theorem dJ0_charAt_5068e_15 : decode cJ0_charAt_5068e 15 = .ok (.ireturn, 1) := do_172 (byt_at bJ0_charAt_5068e_0 (j := 15) rfl)
theorem bJ0_coder_7d493_0 : ((bys cJ0_coder_7d493).drop 0).take 16 = [178, 0, 38, 153, 0, 10, 42, 180, 0, 15, 167, 0, 4, 4, 172] := by decide +kernel
theorem dJ0_coder_7d493_0 : decode cJ0_coder_7d493 0 = .ok (.getstatic 38, 3) := do_178 0 38 (byt_at bJ0_coder_7d493_0 (j := 0) rfl) (byt_at bJ0_coder_7d493_0 (j := 1) rfl) (byt_at bJ0_coder_7d493_0 (j := 2) rfl)
theorem dJ0_coder_7d493_3 : decode cJ0_coder_7d493 3 = .ok (.ifCond .eq 10, 3) := do_153 0 10 (byt_at bJ0_coder_7d493_0 (j := 3) rfl) (byt_at bJ0_coder_7d493_0 (j := 4) rfl) (byt_at bJ0_coder_7d493_0 (j := 5) rfl) (by decide)
theorem dJ0_coder_7d493_6 : decode cJ0_coder_7d493 6 = .ok (.aload_n 0, 1) := do_42 (byt_at bJ0_coder_7d493_0 (j := 6) rfl)
theorem dJ0_coder_7d493_7 : decode cJ0_coder_7d493 7 = .ok (.getfield 15, 3) := do_180 0 15 (byt_at bJ0_coder_7d493_0 (j := 7) rfl) (byt_at bJ0_coder_7d493_0 (j := 8) rfl) (byt_at bJ0_coder_7d493_0 (j := 9) rfl)
theorem dJ0_coder_7d493_10 : decode cJ0_coder_7d493 10 = .ok (.goto 4, 3) := do_167 0 4 (byt_at bJ0_coder_7d493_0 (j := 10) rfl) (byt_at bJ0_coder_7d493_0 (j := 11) rfl) (byt_at bJ0_coder_7d493_0 (j := 12) rfl) (by decide)
theorem dJ0_coder_7d493_14 : decode cJ0_coder_7d493 14 = .ok (.ireturn, 1) := do_172 (byt_at bJ0_coder_7d493_0 (j := 14) rfl)
theorem bJ0_isLatin1_aae02_0 : ((bys cJ0_isLatin1_aae02).drop 0).take 16 = [178, 0, 38, 153, 0, 14, 42, 180, 0, 15, 154, 0, 7, 4, 167, 0] := by decide +kernel
theorem dJ0_isLatin1_aae02_0 : decode cJ0_isLatin1_aae02 0 = .ok (.getstatic 38, 3) := do_178 0 38 (byt_at bJ0_isLatin1_aae02_0 (j := 0) rfl) (byt_at bJ0_isLatin1_aae02_0 (j := 1) rfl) (byt_at bJ0_isLatin1_aae02_0 (j := 2) rfl)
theorem dJ0_isLatin1_aae02_3 : decode cJ0_isLatin1_aae02 3 = .ok (.ifCond .eq 14, 3) := do_153 0 14 (byt_at bJ0_isLatin1_aae02_0 (j := 3) rfl) (byt_at bJ0_isLatin1_aae02_0 (j := 4) rfl) (byt_at bJ0_isLatin1_aae02_0 (j := 5) rfl) (by decide)
theorem dJ0_isLatin1_aae02_6 : decode cJ0_isLatin1_aae02 6 = .ok (.aload_n 0, 1) := do_42 (byt_at bJ0_isLatin1_aae02_0 (j := 6) rfl)
theorem dJ0_isLatin1_aae02_7 : decode cJ0_isLatin1_aae02 7 = .ok (.getfield 15, 3) := do_180 0 15 (byt_at bJ0_isLatin1_aae02_0 (j := 7) rfl) (byt_at bJ0_isLatin1_aae02_0 (j := 8) rfl) (byt_at bJ0_isLatin1_aae02_0 (j := 9) rfl)
theorem dJ0_isLatin1_aae02_10 : decode cJ0_isLatin1_aae02 10 = .ok (.ifCond .ne 7, 3) := do_154 0 7 (byt_at bJ0_isLatin1_aae02_0 (j := 10) rfl) (byt_at bJ0_isLatin1_aae02_0 (j := 11) rfl) (byt_at bJ0_isLatin1_aae02_0 (j := 12) rfl) (by decide)
theorem dJ0_isLatin1_aae02_13 : decode cJ0_isLatin1_aae02 13 = .ok (.iconst 1, 1) := do_4 (byt_at bJ0_isLatin1_aae02_0 (j := 13) rfl)
theorem bJ0_isLatin1_aae02_1 : ((bys cJ0_isLatin1_aae02).drop 16).take 16 = [4, 3, 172] := by decide +kernel
theorem dJ0_isLatin1_aae02_14 : decode cJ0_isLatin1_aae02 14 = .ok (.goto 4, 3) := do_167 0 4 (byt_at bJ0_isLatin1_aae02_0 (j := 14) rfl) (byt_at bJ0_isLatin1_aae02_0 (j := 15) rfl) (byt_at bJ0_isLatin1_aae02_1 (j := 0) rfl) (by decide)
theorem dJ0_isLatin1_aae02_18 : decode cJ0_isLatin1_aae02 18 = .ok (.ireturn, 1) := do_172 (byt_at bJ0_isLatin1_aae02_1 (j := 2) rfl)
set_option maxRecDepth 20000 in
theorem ggJ0_checkIndex_df160_J3_checkIndex_8e157 : GoodIn wsJ0_checkIndex_df160 wsJ3_checkIndex_8e157 := goodIn_sub (List.forall_mem_cons.mpr ⟨List.mem_cons_of_mem _ (List.mem_of_getElem? (i := 4) rfl), fun _ h => absurd h List.not_mem_nil⟩) (by decide +kernel)
set_option maxRecDepth 20000 in
theorem gJ0_checkIndex_df160_J3_checkIndex_8e157 : GoodIn wsJ0_checkIndex_df160 (va_wsS RJ0 1059 yJ3_checkIndex_8e157 wsJ3_checkIndex_8e157) := goodIn_app (goodIn_sub (List.forall_mem_cons.mpr ⟨List.mem_cons_of_mem _ (List.mem_of_getElem? (i := 1) rfl), List.forall_mem_cons.mpr ⟨List.mem_cons_of_mem _ (List.mem_of_getElem? (i := 2) rfl), List.forall_mem_cons.mpr ⟨List.mem_cons_of_mem _ (List.mem_of_getElem? (i := 3) rfl), fun _ h => absurd h List.not_mem_nil⟩⟩⟩) (by decide +kernel)) ggJ0_checkIndex_df160_J3_checkIndex_8e157
theorem bJ0_checkIndex_df160_0 : ((bys cJ0_checkIndex_df160).drop 0).take 16 = [26, 27, 178, 4, 29, 184, 4, 35, 87, 177] := by decide +kernel
theorem dJ0_checkIndex_df160_0 : decode cJ0_checkIndex_df160 0 = .ok (.iload_n 0, 1) := do_26 (byt_at bJ0_checkIndex_df160_0 (j := 0) rfl)
theorem dJ0_checkIndex_df160_1 : decode cJ0_checkIndex_df160 1 = .ok (.iload_n 1, 1) := do_27 (byt_at bJ0_checkIndex_df160_0 (j := 1) rfl)
theorem dJ0_checkIndex_df160_2 : decode cJ0_checkIndex_df160 2 = .ok (.getstatic 1053, 3) := do_178 4 29 (byt_at bJ0_checkIndex_df160_0 (j := 2) rfl) (byt_at bJ0_checkIndex_df160_0 (j := 3) rfl) (byt_at bJ0_checkIndex_df160_0 (j := 4) rfl)
theorem dJ0_checkIndex_df160_5 : decode cJ0_checkIndex_df160 5 = .ok (.invokestatic 1059, 3) := do_184 4 35 (byt_at bJ0_checkIndex_df160_0 (j := 5) rfl) (byt_at bJ0_checkIndex_df160_0 (j := 6) rfl) (byt_at bJ0_checkIndex_df160_0 (j := 7) rfl)
theorem dJ0_checkIndex_df160_8 : decode cJ0_checkIndex_df160 8 = .ok (.pop, 1) := do_87 (byt_at bJ0_checkIndex_df160_0 (j := 8) rfl)
theorem dJ0_checkIndex_df160_9 : decode cJ0_checkIndex_df160 9 = .ok (.return_, 1) := do_177 (byt_at bJ0_checkIndex_df160_0 (j := 9) rfl)
set_option maxRecDepth 20000 in
theorem ggJ1_charAt_3b067_J0_checkIndex_df160 : GoodIn wsJ1_charAt_3b067 wsJ0_checkIndex_df160 := goodIn_sub (List.forall_mem_cons.mpr ⟨List.mem_cons_of_mem _ (List.mem_of_getElem? (i := 3) rfl), List.forall_mem_cons.mpr ⟨List.mem_cons_of_mem _ (List.mem_of_getElem? (i := 4) rfl), List.forall_mem_cons.mpr ⟨List.mem_cons_of_mem _ (List.mem_of_getElem? (i := 5) rfl), List.forall_mem_cons.mpr ⟨List.mem_cons_of_mem _ (List.mem_of_getElem? (i := 6) rfl), List.forall_mem_cons.mpr ⟨List.mem_cons_of_mem _ (List.mem_of_getElem? (i := 7) rfl), List.forall_mem_cons.mpr ⟨List.mem_cons_of_mem _ (List.mem_of_getElem? (i := 8) rfl), fun _ h => absurd h List.not_mem_nil⟩⟩⟩⟩⟩⟩) (by decide +kernel)
set_option maxRecDepth 20000 in
theorem gJ1_charAt_3b067_J0_checkIndex_df160 : GoodIn wsJ1_charAt_3b067 (va_wsS RJ1 9 yJ0_checkIndex_df160 wsJ0_checkIndex_df160) := goodIn_app (goodIn_sub (List.forall_mem_cons.mpr ⟨List.mem_cons_of_mem _ (List.mem_of_getElem? (i := 0) rfl), List.forall_mem_cons.mpr ⟨List.mem_cons_of_mem _ (List.mem_of_getElem? (i := 1) rfl), List.forall_mem_cons.mpr ⟨List.mem_cons_of_mem _ (List.mem_of_getElem? (i := 2) rfl), fun _ h => absurd h List.not_mem_nil⟩⟩⟩) (by decide +kernel)) ggJ1_charAt_3b067_J0_checkIndex_df160
theorem bJ1_charAt_3b067_0 : ((bys cJ1_charAt_3b067).drop 0).take 16 = [27, 42, 190, 184, 0, 9, 42, 27, 51, 17, 0, 255, 126, 146, 172] := by decide +kernel
theorem dJ1_charAt_3b067_0 : decode cJ1_charAt_3b067 0 = .ok (.iload_n 1, 1) := do_27 (byt_at bJ1_charAt_3b067_0 (j := 0) rfl)
theorem dJ1_charAt_3b067_1 : decode cJ1_charAt_3b067 1 = .ok (.aload_n 0, 1) := do_42 (byt_at bJ1_charAt_3b067_0 (j := 1) rfl)
theorem dJ1_charAt_3b067_2 : decode cJ1_charAt_3b067 2 = .ok (.arraylength, 1) := do_190 (byt_at bJ1_charAt_3b067_0 (j := 2) rfl)
theorem dJ1_charAt_3b067_3 : decode cJ1_charAt_3b067 3 = .ok (.invokestatic 9, 3) := do_184 0 9 (byt_at bJ1_charAt_3b067_0 (j := 3) rfl) (byt_at bJ1_charAt_3b067_0 (j := 4) rfl) (byt_at bJ1_charAt_3b067_0 (j := 5) rfl)
theorem dJ1_charAt_3b067_6 : decode cJ1_charAt_3b067 6 = .ok (.aload_n 0, 1) := do_42 (byt_at bJ1_charAt_3b067_0 (j := 6) rfl)
theorem dJ1_charAt_3b067_7 : decode cJ1_charAt_3b067 7 = .ok (.iload_n 1, 1) := do_27 (byt_at bJ1_charAt_3b067_0 (j := 7) rfl)
theorem dJ1_charAt_3b067_8 : decode cJ1_charAt_3b067 8 = .ok (.baload, 1) := do_51 (byt_at bJ1_charAt_3b067_0 (j := 8) rfl)
theorem dJ1_charAt_3b067_9 : decode cJ1_charAt_3b067 9 = .ok (.sipush 255, 3) := do_17 0 255 (byt_at bJ1_charAt_3b067_0 (j := 9) rfl) (byt_at bJ1_charAt_3b067_0 (j := 10) rfl) (byt_at bJ1_charAt_3b067_0 (j := 11) rfl) (by decide)
theorem dJ1_charAt_3b067_12 : decode cJ1_charAt_3b067 12 = .ok (.iand, 1) := do_126 (byt_at bJ1_charAt_3b067_0 (j := 12) rfl)
theorem dJ1_charAt_3b067_13 : decode cJ1_charAt_3b067 13 = .ok (.i2c, 1) := do_146 (byt_at bJ1_charAt_3b067_0 (j := 13) rfl)
theorem dJ1_charAt_3b067_14 : decode cJ1_charAt_3b067 14 = .ok (.ireturn, 1) := do_172 (byt_at bJ1_charAt_3b067_0 (j := 14) rfl)
theorem bJ3_checkIndex_8e157_0 : ((bys cJ3_checkIndex_8e157).drop 0).take 16 = [26, 155, 0, 8, 26, 27, 161, 0, 10, 44, 26, 27, 184, 0, 95, 191] := by decide +kernel
theorem dJ3_checkIndex_8e157_0 : decode cJ3_checkIndex_8e157 0 = .ok (.iload_n 0, 1) := do_26 (byt_at bJ3_checkIndex_8e157_0 (j := 0) rfl)
theorem dJ3_checkIndex_8e157_1 : decode cJ3_checkIndex_8e157 1 = .ok (.ifCond .lt 8, 3) := do_155 0 8 (byt_at bJ3_checkIndex_8e157_0 (j := 1) rfl) (byt_at bJ3_checkIndex_8e157_0 (j := 2) rfl) (byt_at bJ3_checkIndex_8e157_0 (j := 3) rfl) (by decide)
theorem dJ3_checkIndex_8e157_4 : decode cJ3_checkIndex_8e157 4 = .ok (.iload_n 0, 1) := do_26 (byt_at bJ3_checkIndex_8e157_0 (j := 4) rfl)
theorem dJ3_checkIndex_8e157_5 : decode cJ3_checkIndex_8e157 5 = .ok (.iload_n 1, 1) := do_27 (byt_at bJ3_checkIndex_8e157_0 (j := 5) rfl)
theorem dJ3_checkIndex_8e157_6 : decode cJ3_checkIndex_8e157 6 = .ok (.if_icmp .lt 10, 3) := do_161 0 10 (byt_at bJ3_checkIndex_8e157_0 (j := 6) rfl) (byt_at bJ3_checkIndex_8e157_0 (j := 7) rfl) (byt_at bJ3_checkIndex_8e157_0 (j := 8) rfl) (by decide)
theorem bJ3_checkIndex_8e157_1 : ((bys cJ3_checkIndex_8e157).drop 16).take 16 = [26, 172] := by decide +kernel
theorem dJ3_checkIndex_8e157_16 : decode cJ3_checkIndex_8e157 16 = .ok (.iload_n 0, 1) := do_26 (byt_at bJ3_checkIndex_8e157_1 (j := 0) rfl)
theorem dJ3_checkIndex_8e157_17 : decode cJ3_checkIndex_8e157 17 = .ok (.ireturn, 1) := do_172 (byt_at bJ3_checkIndex_8e157_1 (j := 1) rfl)
abbrev vwCl : List vw_C := [(RX0, TX0, 11), (RX1, TX1, 9), (RX2, TX2, 2), (RX3, TX3, 11), (RX4, TX4, 12), (RX5, TX5, 5), (RX6, TX6, 4), (RX7, TX7, 14), (RX8, TX8, 7), (RX9, TX9, 14), (RX10, TX10, 65)]
/-! texts: constants that lie outside what is written -/
def st_env (A : Nat → Prop) (U : State) (H : Heap) : Prop := va_Z "java/lang/String" "COMPACT_STRINGS" "Z" (.int 1) A U H ∧ va_Zq "jdk/internal/util/Preconditions" "SIOOBE_FORMATTER" "Ljava/util/function/BiFunction;" A U H
def st_ok (q v n : Nat) (f : Nat → Int32) (A : Nat → Prop) (U : State) (H : Heap) : Prop := st_env A U H ∧ va_O "java/lang/String" q A U H ∧ va_OF "java/lang/String" "coder" "B" (.int 0) q A U H ∧ va_OF "java/lang/String" "value" "[B" (.ref v) q A U H ∧ va_T .byte v n (fun j => .int (f j)) A U H ∧ n < 2 ^ 31
theorem st_env.moved {A : Nat → Prop} {u U : State} {H : Heap} (hvm : u.vm.Alike U.vm) (h : st_env A u H) : st_env A U H := ⟨h.1.moved hvm, h.2.moved hvm⟩
theorem st_env.kept {A : Nat → Prop} {U : State} {H H1 : Heap} (h : st_env A U H) (hq : ∀ a : Nat, a < H.size → ¬ A a → H1[a]? = H[a]?) : st_env A U H1 := ⟨h.1.kept hq, h.2.kept hq⟩
theorem st_env.narrow {A B : Nat → Prop} {U : State} {H : Heap} (h : st_env A U H) (hAB : ∀ q, B q → A q) : st_env B U H := ⟨h.1.narrow hAB, h.2.narrow hAB⟩
theorem st_ok.moved {q v n : Nat} {f : Nat → Int32} {A : Nat → Prop} {u U : State} {H : Heap} (hvm : u.vm.Alike U.vm) (h : st_ok q v n f A u H) : st_ok q v n f A U H := ⟨h.1.moved hvm, h.2.1.moved hvm, h.2.2.1.moved hvm, h.2.2.2.1.moved hvm, h.2.2.2.2.1.moved hvm, h.2.2.2.2.2⟩
theorem st_ok.kept {q v n : Nat} {f : Nat → Int32} {A : Nat → Prop} {U : State} {H H1 : Heap} (h : st_ok q v n f A U H) (hq : ∀ a : Nat, a < H.size → ¬ A a → H1[a]? = H[a]?) : st_ok q v n f A U H1 := ⟨h.1.kept hq, h.2.1.kept hq, h.2.2.1.kept hq, h.2.2.2.1.kept hq, h.2.2.2.2.1.kept hq, h.2.2.2.2.2⟩
theorem st_ok.narrow {q v n : Nat} {f : Nat → Int32} {A B : Nat → Prop} {U : State} {H : Heap} (h : st_ok q v n f A U H) (hAB : ∀ q, B q → A q) : st_ok q v n f B U H := ⟨h.1.narrow hAB, h.2.1.narrow hAB, h.2.2.1.narrow hAB, h.2.2.2.1.narrow hAB, h.2.2.2.2.1.narrow hAB, h.2.2.2.2.2⟩
theorem va_A0 {A : Nat → Prop} {H0 H : Heap} {locs : List Loc} (hS : va_S A H0 H locs) (hA : ∀ q, H0.size ≤ q → A q) : ∀ q, va_A [] H.size q → A q := by
  intro q h
  rcases h with ⟨k, e, h⟩ | h
  · simp at h
  · exact hA q (Nat.le_trans hS.1 h)
theorem st_env.call {A : Nat → Prop} {s U : State} {H : Heap} {locs : List Loc} (h : st_env A s s.heap) (hS : va_S A s.heap H locs) (hA : ∀ q, s.heap.size ≤ q → A q) (hU : U.heap = H) (hW : s.vm.Alike U.vm) : st_env (va_A [] H.size) U U.heap := by
  rw [hU]; exact st_env.moved hW ((h.kept hS.2.1).narrow (va_A0 hS hA))
theorem st_ok.call {q v n : Nat} {f : Nat → Int32} {A : Nat → Prop} {s U : State} {H : Heap} {locs : List Loc} (h : st_ok q v n f A s s.heap) (hS : va_S A s.heap H locs) (hA : ∀ q, s.heap.size ≤ q → A q) (hU : U.heap = H) (hW : s.vm.Alike U.vm) : st_ok q v n f (va_A [] H.size) U U.heap := by
  rw [hU]; exact st_ok.moved hW ((h.kept hS.2.1).narrow (va_A0 hS hA))
theorem st_recv {q v n : Nat} {f : Nat → Int32} {A : Nat → Prop} {s : State} {H : Heap} {locs : List Loc} (h : st_ok q v n f A s s.heap) (hS : va_S A s.heap H locs) : ∃ cell : Cell, H[q]? = some cell ∧ cell.vm.isStatics = false ∧ s.vm.findClass "java/lang/String" = some cell.cls := by
  obtain ⟨cell, h1, h2, h3, -⟩ := h.2.1.kept hS.2.1
  exact ⟨cell, h1, h2, h3⟩
theorem st_shr0 {n : Nat} (h : n < 2 ^ 31) : Int32.ofNat n >>> (0 : Int32) = Int32.ofNat n := by
  first | simp | rfl
set_option maxHeartbeats 4000000 in
set_option maxRecDepth 100000 in
theorem ct_J0_coder_7d493 (l : Launch) (q v n : Nat) (f : Nat → Int32) (sz : Nat) : Met l yJ0_coder_7d493 wsJ0_coder_7d493 ({ frames := 0, cells := 0, slots := 0, locals := 0 }) (va_Pc [.ref q] (fun U => U.heap.size = sz ∧ st_ok q v n f (va_A [] sz) U U.heap)) (va_Qi (fun (r u : Int32) => u = r) (fun (r : Int32) t => r = 0) (va_A [] sz)) 0 0 (va_A [] sz) := by
  refine Met.ofW (cc := cJ0_coder_7d493) (maxL := 1) (ret := (some .byte)) (by decide) rfl ?_
  intro p e s m args below meth c s₁ B hml hv
  obtain ⟨rfl, hsz, hZ⟩ := hv
  have hx := B.exec
  have hb := B.bytes
  have hr := B.returns
  have hts := atoms_spec (ws := wsJ0_coder_7d493) B.pre
  have hown : s.vm.findClass RJ0 = some m.cls := findClass_of_methodNamed B.named
  have hlocks := B.notSynchronized
  subst hsz
  generalize hAe : va_A [] s.heap.size = A at hZ ⊢
  have hA : ∀ q : Nat, s.heap.size ≤ q → A q := fun q h => by rw [← hAe]; exact Or.inr h
  have hS : va_S A s.heap s.heap [] := va_S.rf
  have hl := lv_entry ([.ref q]) (n := 1) (Nat.le_of_ble_eq_true rfl)
  rw [lg_entry_eq]
  generalize (lg_sl ([.ref q]) ++ List.replicate (1 - (lg_sl ([.ref q])).length) Slot.unset).toArray = ls at hl ⊢
  have hl : lv_has ls 1 [(0, .ref q)] := hl
  obtain ⟨hE, hO, hC, hV, hT, hn⟩ := hZ
  refine va_gets hx hb hE.1 hS hown (hts (Cond.fieldLink RJ0 38 "java/lang/String" "COMPACT_STRINGS" "Z") (by decide +kernel)) (fun _ h9 => h9) dJ0_coder_7d493_0 ?_
  refine lv_if_eq (tgt := 13) hx hb dJ0_coder_7d493_3 (by decide) (fun cz => absurd cz (by decide)) (fun _ => ?_)
  refine lv_aload_n hx hb dJ0_coder_7d493_6 rfl (lv_at hl 0 rfl) ?_
  refine vk_getf hx hb hC hS hown (hts (Cond.fieldLink RJ0 15 "java/lang/String" "coder" "B") (by decide +kernel)) (fun _ h9 => h9) dJ0_coder_7d493_7 ?_
  refine lv_goto (tgt := 14) hx hb dJ0_coder_7d493_10 (by decide) ?_
  exact W.zret (v := 0) hx hb hr rfl (fun t ht hW => ⟨⟨0, 0, rfl, rfl, rfl⟩, hS.F ht⟩) hS.2.2 dJ0_coder_7d493_14
set_option maxHeartbeats 4000000 in
set_option maxRecDepth 100000 in
theorem ct_J0_isLatin1_aae02 (l : Launch) (q v n : Nat) (f : Nat → Int32) (sz : Nat) : Met l yJ0_isLatin1_aae02 wsJ0_isLatin1_aae02 ({ frames := 0, cells := 0, slots := 0, locals := 0 }) (va_Pc [.ref q] (fun U => U.heap.size = sz ∧ st_ok q v n f (va_A [] sz) U U.heap)) (va_Qi (fun (r u : Int32) => u = r) (fun (r : Int32) t => r = 1) (va_A [] sz)) 0 0 (va_A [] sz) := by
  refine Met.ofW (cc := cJ0_isLatin1_aae02) (maxL := 1) (ret := (some .boolean)) (by decide) rfl ?_
  intro p e s m args below meth c s₁ B hml hv
  obtain ⟨rfl, hsz, hZ⟩ := hv
  have hx := B.exec
  have hb := B.bytes
  have hr := B.returns
  have hts := atoms_spec (ws := wsJ0_isLatin1_aae02) B.pre
  have hown : s.vm.findClass RJ0 = some m.cls := findClass_of_methodNamed B.named
  have hlocks := B.notSynchronized
  subst hsz
  generalize hAe : va_A [] s.heap.size = A at hZ ⊢
  have hA : ∀ q : Nat, s.heap.size ≤ q → A q := fun q h => by rw [← hAe]; exact Or.inr h
  have hS : va_S A s.heap s.heap [] := va_S.rf
  have hl := lv_entry ([.ref q]) (n := 1) (Nat.le_of_ble_eq_true rfl)
  rw [lg_entry_eq]
  generalize (lg_sl ([.ref q]) ++ List.replicate (1 - (lg_sl ([.ref q])).length) Slot.unset).toArray = ls at hl ⊢
  have hl : lv_has ls 1 [(0, .ref q)] := hl
  obtain ⟨hE, hO, hC, hV, hT, hn⟩ := hZ
  refine va_gets hx hb hE.1 hS hown (hts (Cond.fieldLink RJ0 38 "java/lang/String" "COMPACT_STRINGS" "Z") (by decide +kernel)) (fun _ h9 => h9) dJ0_isLatin1_aae02_0 ?_
  refine lv_if_eq (tgt := 17) hx hb dJ0_isLatin1_aae02_3 (by decide) (fun cz => absurd cz (by decide)) (fun _ => ?_)
  refine lv_aload_n hx hb dJ0_isLatin1_aae02_6 rfl (lv_at hl 0 rfl) ?_
  refine vk_getf hx hb hC hS hown (hts (Cond.fieldLink RJ0 15 "java/lang/String" "coder" "B") (by decide +kernel)) (fun _ h9 => h9) dJ0_isLatin1_aae02_7 ?_
  refine lv_if_ne (tgt := 17) hx hb dJ0_isLatin1_aae02_10 (by decide) (fun cz => absurd rfl cz) (fun _ => ?_)
  refine lv_iconst (v := 1) hx hb dJ0_isLatin1_aae02_13 (by decide) ?_
  refine lv_goto (tgt := 18) hx hb dJ0_isLatin1_aae02_14 (by decide) ?_
  exact W.zret (v := 1) hx hb hr rfl (fun t ht hW => ⟨⟨1, 1, rfl, rfl, rfl⟩, hS.F ht⟩) hS.2.2 dJ0_isLatin1_aae02_18
set_option maxHeartbeats 4000000 in
set_option maxRecDepth 100000 in
theorem ct_J0_length_8abf5 (l : Launch) (q v n : Nat) (f : Nat → Int32) (sz : Nat) : Met l yJ0_length_8abf5 wsJ0_length_8abf5 ({ frames := 1, cells := 0, slots := 0, locals := 20 }) (va_Pc [.ref q] (fun U => U.heap.size = sz ∧ st_ok q v n f (va_A [] sz) U U.heap)) (va_Qi (fun (r u : Int32) => u = r) (fun (r : Int32) t => r = Int32.ofNat n) (va_A [] sz)) 0 0 (va_A [] sz) := by
  refine Met.ofW (cc := cJ0_length_8abf5) (maxL := 1) (ret := (some .int)) (by decide) rfl ?_
  intro p e s m args below meth c s₁ B hml hv
  obtain ⟨rfl, hsz, hZ⟩ := hv
  have hx := B.exec
  have hb := B.bytes
  have hr := B.returns
  have hts := atoms_spec (ws := wsJ0_length_8abf5) B.pre
  have hown : s.vm.findClass RJ0 = some m.cls := findClass_of_methodNamed B.named
  have hlocks := B.notSynchronized
  subst hsz
  generalize hAe : va_A [] s.heap.size = A at hZ ⊢
  have hA : ∀ q : Nat, s.heap.size ≤ q → A q := fun q h => by rw [← hAe]; exact Or.inr h
  have hS : va_S A s.heap s.heap [] := va_S.rf
  have hl := lv_entry ([.ref q]) (n := 1) (Nat.le_of_ble_eq_true rfl)
  rw [lg_entry_eq]
  generalize (lg_sl ([.ref q]) ++ List.replicate (1 - (lg_sl ([.ref q])).length) Slot.unset).toArray = ls at hl ⊢
  have hl : lv_has ls 1 [(0, .ref q)] := hl
  have hZ0 := hZ
  obtain ⟨hE, hO, hC, hV, hT, hn⟩ := hZ
  refine lv_aload_n hx hb dJ0_length_8abf5_0 rfl (lv_at hl 0 rfl) ?_
  refine vk_getf hx hb hV hS hown (hts (Cond.fieldLink RJ0 9 "java/lang/String" "value" "[B") (by decide +kernel)) (fun _ h9 => h9) dJ0_length_8abf5_1 ?_
  refine va_tlen hx hb hT hS rfl dJ0_length_8abf5_4 ?_
  refine lv_aload_n hx hb dJ0_length_8abf5_5 rfl (lv_at hl 0 rfl) ?_
  have hFc := va_A0 hS hA
  refine va_calli (va_runV (As := []) (rest := [.int (Int32.ofNat n)]) ⟨hx, hb, hml, hown, hts⟩ (ct_J0_coder_7d493 l q v n f s.heap.size) (cwV 0 hts gJ0_length_8abf5_J0_coder_7d493 rfl rfl rfl (by decide +kernel) ⟨Nat.le_of_ble_eq_true rfl, Nat.le_of_ble_eq_true rfl⟩) ⟨fun a U g mk q => by obtain ⟨q0, q1, qZ⟩ := q; exact ⟨q0, q1, st_ok.moved (u := U) (U := U.calling g mk a) (Vm.Alike.refl U.vm) qZ⟩, st_recv hZ0 hS, fun U hU hW => ⟨rfl, by rw [hU], st_ok.call hZ0 hS hA hU hW.alike⟩⟩ rfl rfl hl.1 rfl (lv_room (Nat.le_of_ble_eq_true rfl)) dJ0_length_8abf5_6 ⟨Nat.le_of_ble_eq_true rfl, Nat.le_of_ble_eq_true rfl⟩) hS (fun q _ h => hFc q h) hFc (fun r u t H1 locs ht hvm hw hB hz1 hk1 hS => ?_)
  have hw : r = u := hw.symm
  subst hw
  have hB : r = 0 := hB
  subst hB
  refine W.widen (k := 0) (n := 0) (by decide) (by decide) ?_
  refine lv_ishr hx hb dJ0_length_8abf5_9 ?_
  refine px_i (v := Int32.ofNat n) (st_shr0 hn) ?_
  exact W.iret (v := Int32.ofNat n) hx hb hr (fun t ht hW => ⟨⟨_, _, rfl, rfl, rfl⟩, hS.F ht⟩) hS.2.2 dJ0_length_8abf5_10
def st_nr (z : Value) : Prop := z = .null ∨ ∃ a : Nat, z = .ref a
set_option maxHeartbeats 4000000 in
set_option maxRecDepth 100000 in
theorem ct_J3_checkIndex_8e157R (l : Launch) (i k : Int32) (zr : Nat) (sz : Nat) (h1 : ¬ i < 0) (h2 : i < k) : Met l yJ3_checkIndex_8e157 wsJ3_checkIndex_8e157 ({ frames := 0, cells := 0, slots := 0, locals := 0 }) (va_Pc [.int i, .int k, .ref zr] (fun U => U.heap.size = sz ∧ True)) (va_Qi (fun (r u : Int32) => u = r) (fun (r : Int32) t => True) (va_A [] sz)) 0 0 (va_A [] sz) := by
  refine Met.ofW (cc := cJ3_checkIndex_8e157) (maxL := 3) (ret := (some .int)) (by decide) rfl ?_
  intro p e s m args below meth c s₁ B hml hv
  obtain ⟨rfl, hsz, hZ⟩ := hv
  have hx := B.exec
  have hb := B.bytes
  have hr := B.returns
  have hts := atoms_spec (ws := wsJ3_checkIndex_8e157) B.pre
  have hown : s.vm.findClass RJ3 = some m.cls := findClass_of_methodNamed B.named
  have hlocks := B.notSynchronized
  subst hsz
  generalize hAe : va_A [] s.heap.size = A at hZ ⊢
  have hA : ∀ q : Nat, s.heap.size ≤ q → A q := fun q h => by rw [← hAe]; exact Or.inr h
  have hS : va_S A s.heap s.heap [] := va_S.rf
  have hl := lv_entry ([.int i, .int k, .ref zr]) (n := 3) (Nat.le_of_ble_eq_true rfl)
  rw [lg_entry_eq]
  generalize (lg_sl ([.int i, .int k, .ref zr]) ++ List.replicate (3 - (lg_sl ([.int i, .int k, .ref zr])).length) Slot.unset).toArray = ls at hl ⊢
  have hl : lv_has ls 3 [(0, .int i), (1, .int k), (2, .ref zr)] := hl
  refine lv_iload_n hx hb dJ3_checkIndex_8e157_0 rfl (lv_at hl 0 rfl) ?_
  refine lv_if_lt (tgt := 9) hx hb dJ3_checkIndex_8e157_1 (by decide) (fun cz => absurd cz h1) (fun _ => ?_)
  refine lv_iload_n hx hb dJ3_checkIndex_8e157_4 rfl (lv_at hl 0 rfl) ?_
  refine lv_iload_n hx hb dJ3_checkIndex_8e157_5 rfl (lv_at hl 1 rfl) ?_
  refine lv_icmp_lt (tgt := 16) hx hb dJ3_checkIndex_8e157_6 (by decide) (fun _ => ?_) (fun cz => absurd h2 cz)
  refine lv_iload_n hx hb dJ3_checkIndex_8e157_16 rfl (lv_at hl 0 rfl) ?_
  exact W.iret (v := i) hx hb hr (fun t ht hW => ⟨⟨_, _, rfl, rfl, trivial⟩, hS.F ht⟩) hS.2.2 dJ3_checkIndex_8e157_17
set_option maxHeartbeats 4000000 in
set_option maxRecDepth 100000 in
theorem ct_J3_checkIndex_8e157N (l : Launch) (i k : Int32) (sz : Nat) (h1 : ¬ i < 0) (h2 : i < k) : Met l yJ3_checkIndex_8e157 wsJ3_checkIndex_8e157 ({ frames := 0, cells := 0, slots := 0, locals := 0 }) (va_Pc [.int i, .int k, .null] (fun U => U.heap.size = sz ∧ True)) (va_Qi (fun (r u : Int32) => u = r) (fun (r : Int32) t => True) (va_A [] sz)) 0 0 (va_A [] sz) := by
  refine Met.ofW (cc := cJ3_checkIndex_8e157) (maxL := 3) (ret := (some .int)) (by decide) rfl ?_
  intro p e s m args below meth c s₁ B hml hv
  obtain ⟨rfl, hsz, hZ⟩ := hv
  have hx := B.exec
  have hb := B.bytes
  have hr := B.returns
  have hts := atoms_spec (ws := wsJ3_checkIndex_8e157) B.pre
  have hown : s.vm.findClass RJ3 = some m.cls := findClass_of_methodNamed B.named
  have hlocks := B.notSynchronized
  subst hsz
  generalize hAe : va_A [] s.heap.size = A at hZ ⊢
  have hA : ∀ q : Nat, s.heap.size ≤ q → A q := fun q h => by rw [← hAe]; exact Or.inr h
  have hS : va_S A s.heap s.heap [] := va_S.rf
  have hl := lv_entry ([.int i, .int k, .null]) (n := 3) (Nat.le_of_ble_eq_true rfl)
  rw [lg_entry_eq]
  generalize (lg_sl ([.int i, .int k, .null]) ++ List.replicate (3 - (lg_sl ([.int i, .int k, .null])).length) Slot.unset).toArray = ls at hl ⊢
  have hl : lv_has ls 3 [(0, .int i), (1, .int k), (2, .null)] := hl
  refine lv_iload_n hx hb dJ3_checkIndex_8e157_0 rfl (lv_at hl 0 rfl) ?_
  refine lv_if_lt (tgt := 9) hx hb dJ3_checkIndex_8e157_1 (by decide) (fun cz => absurd cz h1) (fun _ => ?_)
  refine lv_iload_n hx hb dJ3_checkIndex_8e157_4 rfl (lv_at hl 0 rfl) ?_
  refine lv_iload_n hx hb dJ3_checkIndex_8e157_5 rfl (lv_at hl 1 rfl) ?_
  refine lv_icmp_lt (tgt := 16) hx hb dJ3_checkIndex_8e157_6 (by decide) (fun _ => ?_) (fun cz => absurd h2 cz)
  refine lv_iload_n hx hb dJ3_checkIndex_8e157_16 rfl (lv_at hl 0 rfl) ?_
  exact W.iret (v := i) hx hb hr (fun t ht hW => ⟨⟨_, _, rfl, rfl, trivial⟩, hS.F ht⟩) hS.2.2 dJ3_checkIndex_8e157_17
set_option maxHeartbeats 4000000 in
set_option maxRecDepth 100000 in
theorem ct_J0_checkIndex_df160 (l : Launch) (i k : Int32) (sz : Nat) (h1 : ¬ i < 0) (h2 : i < k) : Met l yJ0_checkIndex_df160 wsJ0_checkIndex_df160 ({ frames := 1, cells := 0, slots := 0, locals := 22 }) (va_Pc [.int i, .int k] (fun U => U.heap.size = sz ∧ st_env (va_A [] sz) U U.heap)) (va_Qv (fun _ : Unit => True) (fun _ t => True) (va_A [] sz)) 0 0 (va_A [] sz) := by
  refine Met.ofW (cc := cJ0_checkIndex_df160) (maxL := 2) (ret := none) (by decide) rfl ?_
  intro p e s m args below meth c s₁ B hml hv
  obtain ⟨rfl, hsz, hZ⟩ := hv
  have hx := B.exec
  have hb := B.bytes
  have hr := B.returns
  have hts := atoms_spec (ws := wsJ0_checkIndex_df160) B.pre
  have hown : s.vm.findClass RJ0 = some m.cls := findClass_of_methodNamed B.named
  have hlocks := B.notSynchronized
  subst hsz
  generalize hAe : va_A [] s.heap.size = A at hZ ⊢
  have hA : ∀ q : Nat, s.heap.size ≤ q → A q := fun q h => by rw [← hAe]; exact Or.inr h
  have hS : va_S A s.heap s.heap [] := va_S.rf
  have hl := lv_entry ([.int i, .int k]) (n := 2) (Nat.le_of_ble_eq_true rfl)
  rw [lg_entry_eq]
  generalize (lg_sl ([.int i, .int k]) ++ List.replicate (2 - (lg_sl ([.int i, .int k])).length) Slot.unset).toArray = ls at hl ⊢
  have hl : lv_has ls 2 [(0, .int i), (1, .int k)] := hl
  refine lv_iload_n hx hb dJ0_checkIndex_df160_0 rfl (lv_at hl 0 rfl) ?_
  refine lv_iload_n hx hb dJ0_checkIndex_df160_1 rfl (lv_at hl 1 rfl) ?_
  rcases hZ.2 with hz | ⟨zr, hz⟩
  · refine va_gets hx hb hz hS hown (hts (Cond.fieldLink RJ0 1053 "jdk/internal/util/Preconditions" "SIOOBE_FORMATTER" "Ljava/util/function/BiFunction;") (by decide +kernel)) (fun _ h9 => h9) dJ0_checkIndex_df160_2 ?_
    have hFc := va_A0 hS hA
    refine va_calli (va_runS (As := [.int i, .int k, .null]) (rest := []) ⟨hx, hb, hml, hown, hts⟩ (ct_J3_checkIndex_8e157N l i k s.heap.size h1 h2) (va_cwS 3 hts gJ0_checkIndex_df160_J3_checkIndex_8e157 rfl rfl rfl (by decide +kernel) ⟨Nat.le_of_ble_eq_true rfl, Nat.le_of_ble_eq_true rfl⟩) ⟨fun a U g mk q => by obtain ⟨q0, q1, qZ⟩ := q; exact ⟨q0, q1, qZ⟩, fun U hU hW => ⟨rfl, by rw [hU], trivial⟩⟩ rfl rfl hl.1 rfl (lv_room (Nat.le_of_ble_eq_true rfl)) dJ0_checkIndex_df160_5 ⟨Nat.le_of_ble_eq_true rfl, Nat.le_of_ble_eq_true rfl⟩) hS (fun q _ h => hFc q h) hFc (fun r u t H1 locs ht hvm hw hB hz1 hk1 hS => ?_)
    refine W.widen (k := 0) (n := 0) (by decide) (by decide) ?_
    refine lv_pop hx hb dJ0_checkIndex_df160_8 rfl ?_
    exact W.vret hx hb hr (fun t ht hW => ⟨⟨(), rfl, trivial, trivial⟩, hS.F ht⟩) hS.2.2 dJ0_checkIndex_df160_9
  · refine va_gets hx hb hz hS hown (hts (Cond.fieldLink RJ0 1053 "jdk/internal/util/Preconditions" "SIOOBE_FORMATTER" "Ljava/util/function/BiFunction;") (by decide +kernel)) (fun _ h9 => h9) dJ0_checkIndex_df160_2 ?_
    have hFc := va_A0 hS hA
    refine va_calli (va_runS (As := [.int i, .int k, .ref zr]) (rest := []) ⟨hx, hb, hml, hown, hts⟩ (ct_J3_checkIndex_8e157R l i k zr s.heap.size h1 h2) (va_cwS 3 hts gJ0_checkIndex_df160_J3_checkIndex_8e157 rfl rfl rfl (by decide +kernel) ⟨Nat.le_of_ble_eq_true rfl, Nat.le_of_ble_eq_true rfl⟩) ⟨fun a U g mk q => by obtain ⟨q0, q1, qZ⟩ := q; exact ⟨q0, q1, qZ⟩, fun U hU hW => ⟨rfl, by rw [hU], trivial⟩⟩ rfl rfl hl.1 rfl (lv_room (Nat.le_of_ble_eq_true rfl)) dJ0_checkIndex_df160_5 ⟨Nat.le_of_ble_eq_true rfl, Nat.le_of_ble_eq_true rfl⟩) hS (fun q _ h => hFc q h) hFc (fun r u t H1 locs ht hvm hw hB hz1 hk1 hS => ?_)
    refine W.widen (k := 0) (n := 0) (by decide) (by decide) ?_
    refine lv_pop hx hb dJ0_checkIndex_df160_8 rfl ?_
    exact W.vret hx hb hr (fun t ht hW => ⟨⟨(), rfl, trivial, trivial⟩, hS.F ht⟩) hS.2.2 dJ0_checkIndex_df160_9
theorem vi_lo {i : Int32} {n : Nat} (h : vp_in i n) : ¬ i < 0 := fun z => h (Or.inl z)
theorem vi_hi {i : Int32} {n : Nat} (hn : n < 2 ^ 31) (h : vp_in i n) : i < Int32.ofNat n := by
  have h2 := vp_in_iff.mp h
  rw [Int32.lt_iff_toInt_lt, show (Int32.ofNat n).toInt = (n : Int) from nI_toInt hn]
  exact h2.2
set_option maxHeartbeats 4000000 in
set_option maxRecDepth 100000 in
theorem ct_J1_charAt_3b067 (l : Launch) (v n : Nat) (f : Nat → Int32) (i : Int32) (sz : Nat) (hi : vp_in i n) : Met l yJ1_charAt_3b067 wsJ1_charAt_3b067 ({ frames := 2, cells := 0, slots := 0, locals := 43 }) (va_Pc [.ref v, .int i] (fun U => U.heap.size = sz ∧ st_env (va_A [] sz) U U.heap ∧ va_T .byte v n (fun j => .int (f j)) (va_A [] sz) U U.heap ∧ n < 2 ^ 31)) (va_Qi (fun (r u : Int32) => u = r) (fun (r : Int32) t => r = f i.toNatClampNeg &&& 255) (va_A [] sz)) 0 0 (va_A [] sz) := by
  refine Met.ofW (cc := cJ1_charAt_3b067) (maxL := 2) (ret := (some .char)) (by decide) rfl ?_
  intro p e s m args below meth c s₁ B hml hv
  obtain ⟨rfl, hsz, hZ⟩ := hv
  have hx := B.exec
  have hb := B.bytes
  have hr := B.returns
  have hts := atoms_spec (ws := wsJ1_charAt_3b067) B.pre
  have hown : s.vm.findClass RJ1 = some m.cls := findClass_of_methodNamed B.named
  have hlocks := B.notSynchronized
  subst hsz
  generalize hAe : va_A [] s.heap.size = A at hZ ⊢
  have hA : ∀ q : Nat, s.heap.size ≤ q → A q := fun q h => by rw [← hAe]; exact Or.inr h
  have hS : va_S A s.heap s.heap [] := va_S.rf
  have hl := lv_entry ([.ref v, .int i]) (n := 2) (Nat.le_of_ble_eq_true rfl)
  rw [lg_entry_eq]
  generalize (lg_sl ([.ref v, .int i]) ++ List.replicate (2 - (lg_sl ([.ref v, .int i])).length) Slot.unset).toArray = ls at hl ⊢
  have hl : lv_has ls 2 [(0, .ref v), (1, .int i)] := hl
  have hE := hZ.1
  obtain ⟨-, hT, hn⟩ := hZ
  refine lv_iload_n hx hb dJ1_charAt_3b067_0 rfl (lv_at hl 1 rfl) ?_
  refine lv_aload_n hx hb dJ1_charAt_3b067_1 rfl (lv_at hl 0 rfl) ?_
  refine va_tlen hx hb hT hS rfl dJ1_charAt_3b067_2 ?_
  have hFc := va_A0 hS hA
  refine va_callv (va_runS (As := [.int i, .int (Int32.ofNat n)]) (rest := []) ⟨hx, hb, hml, hown, hts⟩ (ct_J0_checkIndex_df160 l i (Int32.ofNat n) s.heap.size (vi_lo hi) (vi_hi hn hi)) (va_cwS 2 hts gJ1_charAt_3b067_J0_checkIndex_df160 rfl rfl rfl (by decide +kernel) ⟨Nat.le_of_ble_eq_true rfl, Nat.le_of_ble_eq_true rfl⟩) ⟨fun a U g mk q => by obtain ⟨q0, q1, qZ⟩ := q; exact ⟨q0, q1, st_env.moved (u := U) (U := U.calling g mk a) (Vm.Alike.refl U.vm) qZ⟩, fun U hU hW => ⟨rfl, by rw [hU], st_env.call hE hS hA hU hW.alike⟩⟩ rfl rfl hl.1 rfl (lv_room (Nat.le_of_ble_eq_true rfl)) dJ1_charAt_3b067_3 ⟨Nat.le_of_ble_eq_true rfl, Nat.le_of_ble_eq_true rfl⟩) hS (fun q _ h => hFc q h) hFc (fun u t H1 locs ht hvm hw hB hz1 hk1 hS => ?_)
  refine W.widen (k := 0) (n := 0) (by decide) (by decide) ?_
  have hS2 := hS
  refine lv_aload_n hx hb dJ1_charAt_3b067_6 rfl (lv_at hl 0 rfl) ?_
  refine lv_iload_n hx hb dJ1_charAt_3b067_7 rfl (lv_at hl 1 rfl) ?_
  refine va_tb hx hb hT hS hi rfl dJ1_charAt_3b067_8 ?_
  refine lv_sipush (v := 255) hx hb dJ1_charAt_3b067_9 (by decide) ?_
  refine lv_iand hx hb dJ1_charAt_3b067_12 ?_
  refine lv_i2c hx hb dJ1_charAt_3b067_13 rfl ?_
  refine px_i (v := f i.toNatClampNeg &&& 255) (sc_c2 _) ?_
  exact W.zret (v := f i.toNatClampNeg &&& 255) hx hb hr (sc_nar _) (fun t ht hW => ⟨⟨_, _, rfl, rfl, rfl⟩, hS.F ht⟩) hS.2.2 dJ1_charAt_3b067_14
set_option maxHeartbeats 4000000 in
set_option maxRecDepth 100000 in
theorem ct_J0_charAt_5068e (l : Launch) (q v n : Nat) (f : Nat → Int32) (i : Int32) (sz : Nat) (hi : vp_in i n) : Met l yJ0_charAt_5068e wsJ0_charAt_5068e ({ frames := 3, cells := 0, slots := 0, locals := 64 }) (va_Pc [.ref q, .int i] (fun U => U.heap.size = sz ∧ st_ok q v n f (va_A [] sz) U U.heap)) (va_Qi (fun (r u : Int32) => u = r) (fun (r : Int32) t => r = f i.toNatClampNeg &&& 255) (va_A [] sz)) 0 0 (va_A [] sz) := by
  refine Met.ofW (cc := cJ0_charAt_5068e) (maxL := 2) (ret := (some .char)) (by decide) rfl ?_
  intro p e s m args below meth c s₁ B hml hv
  obtain ⟨rfl, hsz, hZ⟩ := hv
  have hx := B.exec
  have hb := B.bytes
  have hr := B.returns
  have hts := atoms_spec (ws := wsJ0_charAt_5068e) B.pre
  have hown : s.vm.findClass RJ0 = some m.cls := findClass_of_methodNamed B.named
  have hlocks := B.notSynchronized
  subst hsz
  generalize hAe : va_A [] s.heap.size = A at hZ ⊢
  have hA : ∀ q : Nat, s.heap.size ≤ q → A q := fun q h => by rw [← hAe]; exact Or.inr h
  have hS : va_S A s.heap s.heap [] := va_S.rf
  have hl := lv_entry ([.ref q, .int i]) (n := 2) (Nat.le_of_ble_eq_true rfl)
  rw [lg_entry_eq]
  generalize (lg_sl ([.ref q, .int i]) ++ List.replicate (2 - (lg_sl ([.ref q, .int i])).length) Slot.unset).toArray = ls at hl ⊢
  have hl : lv_has ls 2 [(0, .ref q), (1, .int i)] := hl
  have hZ0 := hZ
  obtain ⟨hE, hO, hC, hV, hT, hn⟩ := hZ
  refine lv_aload_n hx hb dJ0_charAt_5068e_0 rfl (lv_at hl 0 rfl) ?_
  have hFc := va_A0 hS hA
  refine va_calli (va_runV (As := []) (rest := []) ⟨hx, hb, hml, hown, hts⟩ (ct_J0_isLatin1_aae02 l q v n f s.heap.size) (cwV 0 hts gJ0_charAt_5068e_J0_isLatin1_aae02 rfl rfl rfl (by decide +kernel) ⟨Nat.le_of_ble_eq_true rfl, Nat.le_of_ble_eq_true rfl⟩) ⟨fun a U g mk q => by obtain ⟨q0, q1, qZ⟩ := q; exact ⟨q0, q1, st_ok.moved (u := U) (U := U.calling g mk a) (Vm.Alike.refl U.vm) qZ⟩, st_recv hZ0 hS, fun U hU hW => ⟨rfl, by rw [hU], st_ok.call hZ0 hS hA hU hW.alike⟩⟩ rfl rfl hl.1 rfl (lv_room (Nat.le_of_ble_eq_true rfl)) dJ0_charAt_5068e_1 ⟨Nat.le_of_ble_eq_true rfl, Nat.le_of_ble_eq_true rfl⟩) hS (fun q _ h => hFc q h) hFc (fun r u t H1 locs ht hvm hw hB hz1 hk1 hS => ?_)
  have hw : r = u := hw.symm
  subst hw
  have hB : r = 1 := hB
  subst hB
  refine W.widen (k := 0) (n := 0) (by decide) (by decide) ?_
  clear hFc hz1 hk1
  refine lv_if_eq (tgt := 16) hx hb dJ0_charAt_5068e_4 (by decide) (fun cz => absurd cz (by decide)) (fun _ => ?_)
  refine lv_aload_n hx hb dJ0_charAt_5068e_7 rfl (lv_at hl 0 rfl) ?_
  refine vk_getf hx hb hV hS hown (hts (Cond.fieldLink RJ0 9 "java/lang/String" "value" "[B") (by decide +kernel)) (fun _ h9 => h9) dJ0_charAt_5068e_8 ?_
  refine lv_iload_n hx hb dJ0_charAt_5068e_11 rfl (lv_at hl 1 rfl) ?_
  have hFc := va_A0 hS hA
  refine va_calli (va_runS (As := [.ref v, .int i]) (rest := []) ⟨hx, hb, hml, hown, hts⟩ (ct_J1_charAt_3b067 l v n f i H1.size hi) (va_cwS 2 hts gJ0_charAt_5068e_J1_charAt_3b067 rfl rfl rfl (by decide +kernel) ⟨Nat.le_of_ble_eq_true rfl, Nat.le_of_ble_eq_true rfl⟩) ⟨fun a U g mk q => by obtain ⟨q0, q1, qE, qT, qn⟩ := q; exact ⟨q0, q1, st_env.moved (u := U) (U := U.calling g mk a) (Vm.Alike.refl U.vm) qE, va_T.moved (u := U) (U := U.calling g mk a) (Vm.Alike.refl U.vm) qT, qn⟩, fun U hU hW => ⟨rfl, by rw [hU], (st_ok.call hZ0 hS hA hU hW.alike).1, (st_ok.call hZ0 hS hA hU hW.alike).2.2.2.2.1, hn⟩⟩ rfl rfl hl.1 rfl (lv_room (Nat.le_of_ble_eq_true rfl)) dJ0_charAt_5068e_12 ⟨Nat.le_of_ble_eq_true rfl, Nat.le_of_ble_eq_true rfl⟩) hS (fun q _ h => hFc q h) hFc (fun r2 u t H1 locs ht hvm hw hB hz1 hk1 hS => ?_)
  have hw : r2 = u := hw.symm
  subst hw
  have hB : r2 = f i.toNatClampNeg &&& 255 := hB
  subst hB
  refine W.widen (k := 0) (n := 0) (by decide) (by decide) ?_
  exact W.zret (v := f i.toNatClampNeg &&& 255) hx hb hr (sc_nar _) (fun t ht hW => ⟨⟨_, _, rfl, rfl, rfl⟩, hS.F ht⟩) hS.2.2 dJ0_charAt_5068e_15

/-! a text constant of a class: where it lies, and that it stays -/
def st_c (own : String) (k : Nat) (tx : String) (n : Nat) (f : Nat → Int32) (A : Nat → Prop) (U : State) (H : Heap) : Prop := ∃ q v : Nat, vk_R own k tx q U ∧ st_ok q v n f A U H
theorem st_c.calling {own tx : String} {k n : Nat} {f : Nat → Int32} {A : Nat → Prop} {U U' : State} {H : Heap} (hv : U'.vm = U.vm) (h : st_c own k tx n f A U H) : st_c own k tx n f A U' H := by
  obtain ⟨q, v, h1, h2⟩ := h
  exact ⟨q, v, vk_R.same hv h1, st_ok.moved (by rw [hv]; exact Vm.Alike.refl _) h2⟩
theorem st_c.call {own tx : String} {k n : Nat} {f : Nat → Int32} {A B : Nat → Prop} {s U : State} {H : Heap} {locs : List Loc} (h : st_c own k tx n f A s s.heap) (hS : va_S A s.heap H locs) (hB : ∀ q, B q → A q) (hU : U.heap = H) (hW : s.WarmedH U.vm) : st_c own k tx n f B U U.heap := by
  obtain ⟨q, v, h1, h2⟩ := h
  rw [hU]
  exact ⟨q, v, vk_R.warm hW h1, st_ok.moved hW.alike ((h2.kept hS.2.1).narrow hB)⟩
theorem st_ok.callB {q v n : Nat} {f : Nat → Int32} {A B : Nat → Prop} {s U : State} {H : Heap} {locs : List Loc} (h : st_ok q v n f A s s.heap) (hS : va_S A s.heap H locs) (hB : ∀ q, B q → A q) (hU : U.heap = H) (hW : s.WarmedH U.vm) : st_ok q v n f B U U.heap := by
  rw [hU]; exact st_ok.moved hW.alike ((h.kept hS.2.1).narrow hB)
/-- the reference's key words, byte by byte -/
def st_fX10_118 : Nat → Int32 := fun j => ([119, 104, 111, 108, 101, 32, 115, 105, 103, 110, 32, 98, 114, 105, 110, 103, 115, 32, 119, 111, 114, 107, 32, 99, 111, 115, 116, 115, 32, 99, 104, 97, 110, 99, 101, 115, 32, 101, 108, 115, 101, 32, 108, 101, 97, 115, 116, 32, 102, 101, 101, 108, 32] : List Int32).getD j 0

def st_fX7_80 : Nat → Int32 := fun j => ([119, 104, 111, 108, 101] : List Int32).getD j 0
def st_fX7_98 : Nat → Int32 := fun j => ([115, 105, 103, 110] : List Int32).getD j 0
def st_fX7_110 : Nat → Int32 := fun j => ([98, 114, 105, 110, 103, 115] : List Int32).getD j 0
def st_fX7_120 : Nat → Int32 := fun j => ([119, 111, 114, 107] : List Int32).getD j 0
def st_fX7_125 : Nat → Int32 := fun j => ([99, 111, 115, 116, 115] : List Int32).getD j 0
def st_fX7_129 : Nat → Int32 := fun j => ([99, 104, 97, 110, 99, 101, 115] : List Int32).getD j 0
def st_fX7_138 : Nat → Int32 := fun j => ([101, 108, 115, 101] : List Int32).getD j 0
def st_fX7_147 : Nat → Int32 := fun j => ([108, 101, 97, 115, 116] : List Int32).getD j 0
def st_fX7_151 : Nat → Int32 := fun j => ([102, 101, 101, 108] : List Int32).getD j 0
