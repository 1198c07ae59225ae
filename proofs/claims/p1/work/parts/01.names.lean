theorem goodIn_r {big : List Cond} (ws : List Cond) (ps : List Nat) (hp : ws = ps.filterMap (fun i => big[i]?)) (h : ws.all goodWord = true) : GoodIn big ws := by
  intro w hw
  have h1 := List.all_eq_true.mp h w hw
  rw [hp] at hw
  obtain ⟨i, -, hi⟩ := List.mem_filterMap.mp hw
  have hm : w ∈ big := by first | exact List.mem_of_getElem? hi | exact List.getElem?_mem hi
  exact ⟨hm, good_of_word h1⟩
theorem goodIn_app {big a b : List Cond} (ha : GoodIn big a) (hb : GoodIn big b) : GoodIn big (a ++ b) := fun w h => (List.mem_append.mp h).elim (ha w) (hb w)
theorem goodIn_ca {big a b : List Cond} {c : Cond} (ha : GoodIn big (c :: a)) (hb : GoodIn big b) : GoodIn big (c :: (a ++ b)) := fun w h => (List.mem_cons.mp h).elim (fun e => ha w (List.mem_cons.mpr (Or.inl e))) (fun h => (List.mem_append.mp h).elim (fun h => ha w (List.mem_cons.mpr (Or.inr h))) (hb w))
theorem goodIn_sub {big ws : List Cond} (hm : ∀ w ∈ ws, w ∈ big) (h : ws.all goodWord = true) : GoodIn big ws := fun w hw => ⟨hm w hw, good_of_word (List.all_eq_true.mp h w hw)⟩
def RX0 : String := "SnowMules$Hours"
def TX0 : u_T := fun k => match k with
  | _ => ("SnowMules$Hours", "scene", "LSnowMules$Scene;", true)
def tyX0 : Nat → FieldType := fun k => match k with
  | _ => .object "SnowMules$Scene"
abbrev wsX00 : List Cond := u_ws RX0 TX0 1
theorem nmX0 : ∀ a, a < 1 → ∀ b, b < 1 → a ≠ b → (TX0 a).2.1 ≠ (TX0 b).2.1 := by decide +kernel
theorem tyX0_ok : ∀ k, k < 1 → parseFieldDescriptor (TX0 k).2.2.1 = some (tyX0 k) := by decide +kernel
abbrev cX0_init : ByteArray := prog_2_method_1_code
def yX0_init : MethodName := ⟨RX0, "<init>", "()V"⟩
abbrev cX0_step : ByteArray := prog_2_method_2_code
def yX0_step : MethodName := ⟨RX0, "step", "(LSnowMules$World;LSnowMules$Law;)V"⟩
abbrev cX0_stepJar : ByteArray := prog_2_method_3_code
def yX0_stepJar : MethodName := ⟨RX0, "stepJar", "(LSnowMules$World;LSnowMules$Law;I)V"⟩
abbrev cX0_meltOf : ByteArray := prog_2_method_4_code
def yX0_meltOf : MethodName := ⟨RX0, "meltOf", "(LSnowMules$World;LSnowMules$Law;I)I"⟩
abbrev cX0_setLoadOf : ByteArray := prog_2_method_5_code
def yX0_setLoadOf : MethodName := ⟨RX0, "setLoadOf", "(LSnowMules$World;I)V"⟩
abbrev cX0_arrive : ByteArray := prog_2_method_6_code
def yX0_arrive : MethodName := ⟨RX0, "arrive", "(LSnowMules$World;LSnowMules$Law;I)V"⟩
abbrev cX0_burstFrom : ByteArray := prog_2_method_7_code
def yX0_burstFrom : MethodName := ⟨RX0, "burstFrom", "(LSnowMules$World;IIII)V"⟩
abbrev cX0_nextBehind : ByteArray := prog_2_method_8_code
def yX0_nextBehind : MethodName := ⟨RX0, "nextBehind", "(LSnowMules$World;III)I"⟩
abbrev cX0_restOf : ByteArray := prog_2_method_9_code
def yX0_restOf : MethodName := ⟨RX0, "restOf", "(LSnowMules$World;LSnowMules$Law;III)I"⟩
abbrev cX0_lasts : ByteArray := prog_2_method_10_code
def yX0_lasts : MethodName := ⟨RX0, "lasts", "(LSnowMules$World;LSnowMules$Law;II)Z"⟩
abbrev cX0_owedAt : ByteArray := prog_2_method_11_code
def yX0_owedAt : MethodName := ⟨RX0, "owedAt", "(LSnowMules$World;I)I"⟩
abbrev cX0_eatenOn : ByteArray := prog_2_method_12_code
def yX0_eatenOn : MethodName := ⟨RX0, "eatenOn", "(LSnowMules$World;II)I"⟩
def RX1 : String := "SnowMules$Law"
def TX1 : u_T := fun k => match k with
  | 0 => ("SnowMules$Law", "chain", "I", false)
  | 1 => ("SnowMules$Law", "clauses", "I", false)
  | 2 => ("SnowMules$Law", "sorts", "[I", true)
  | 3 => ("SnowMules$Law", "sumStarts", "[I", true)
  | 4 => ("SnowMules$Law", "sumStops", "[I", true)
  | 5 => ("SnowMules$Law", "testStarts", "[I", true)
  | 6 => ("SnowMules$Law", "testStops", "[I", true)
  | 7 => ("SnowMules$Law", "values", "I", false)
  | 8 => ("SnowMules$Law", "joins", "[I", true)
  | 9 => ("SnowMules$Law", "operands", "[I", true)
  | 10 => ("SnowMules$Law", "facts", "I", false)
  | 11 => ("SnowMules$Law", "factStarts", "[I", true)
  | 12 => ("SnowMules$Law", "factMiddles", "[I", true)
  | 13 => ("SnowMules$Law", "factStops", "[I", true)
  | 14 => ("SnowMules$Law", "signs", "[I", true)
  | 15 => ("SnowMules$Law", "steps", "I", false)
  | _ => ("SnowMules$Law", "tests", "[I", true)
def tyX1 : Nat → FieldType := fun k => match k with
  | 0 => .int
  | 1 => .int
  | 2 => .array .int
  | 3 => .array .int
  | 4 => .array .int
  | 5 => .array .int
  | 6 => .array .int
  | 7 => .int
  | 8 => .array .int
  | 9 => .array .int
  | 10 => .int
  | 11 => .array .int
  | 12 => .array .int
  | 13 => .array .int
  | 14 => .array .int
  | 15 => .int
  | _ => .array .int
abbrev wsX10 : List Cond := u_ws RX1 TX1 17
theorem nmX1 : ∀ a, a < 17 → ∀ b, b < 17 → a ≠ b → (TX1 a).2.1 ≠ (TX1 b).2.1 := by decide +kernel
theorem tyX1_ok : ∀ k, k < 17 → parseFieldDescriptor (TX1 k).2.2.1 = some (tyX1 k) := by decide +kernel
abbrev cX1_init : ByteArray := prog_3_method_1_code
def yX1_init : MethodName := ⟨RX1, "<init>", "()V"⟩
abbrev cX1_clear : ByteArray := prog_3_method_2_code
def yX1_clear : MethodName := ⟨RX1, "clear", "()V"⟩
abbrev cX1_beginClause : ByteArray := prog_3_method_3_code
def yX1_beginClause : MethodName := ⟨RX1, "beginClause", "(I)V"⟩
abbrev cX1_endSum : ByteArray := prog_3_method_4_code
def yX1_endSum : MethodName := ⟨RX1, "endSum", "()V"⟩
abbrev cX1_endTest : ByteArray := prog_3_method_5_code
def yX1_endTest : MethodName := ⟨RX1, "endTest", "()V"⟩
abbrev cX1_addValue : ByteArray := prog_3_method_6_code
def yX1_addValue : MethodName := ⟨RX1, "addValue", "(II)V"⟩
abbrev cX1_addFact : ByteArray := prog_3_method_7_code
def yX1_addFact : MethodName := ⟨RX1, "addFact", "(III)V"⟩
abbrev cX1_addStep : ByteArray := prog_3_method_8_code
def yX1_addStep : MethodName := ⟨RX1, "addStep", "(I)V"⟩
abbrev cX1_sumOf : ByteArray := prog_3_method_9_code
def yX1_sumOf : MethodName := ⟨RX1, "sumOf", "(I[I)J"⟩
abbrev cX1_holds : ByteArray := prog_3_method_10_code
def yX1_holds : MethodName := ⟨RX1, "holds", "(II[I)Z"⟩
abbrev cX1_isTrue : ByteArray := prog_3_method_11_code
def yX1_isTrue : MethodName := ⟨RX1, "isTrue", "(JIJ)Z"⟩
abbrev cX1_total : ByteArray := prog_3_method_12_code
def yX1_total : MethodName := ⟨RX1, "total", "(II[I)J"⟩
def RX2 : String := "SnowMules$LawReader"
def TX2 : u_T := fun k => match k with
  | 0 => ("SnowMules$LawReader", "tokens", "[I", true)
  | 1 => ("SnowMules$LawReader", "places", "[I", true)
  | 2 => ("SnowMules$LawReader", "tokenCount", "I", false)
  | 3 => ("SnowMules$LawReader", "next", "I", false)
  | 4 => ("SnowMules$LawReader", "fault", "I", false)
  | 5 => ("SnowMules$LawReader", "parts", "I", false)
  | 6 => ("SnowMules$LawReader", "chained", "Z", false)
  | _ => ("SnowMules$LawReader", "law", "LSnowMules$Law;", false)
def tyX2 : Nat → FieldType := fun k => match k with
  | 0 => .array .int
  | 1 => .array .int
  | 2 => .int
  | 3 => .int
  | 4 => .int
  | 5 => .int
  | 6 => .boolean
  | _ => .object "SnowMules$Law"
abbrev wsX20 : List Cond := u_ws RX2 TX2 8
theorem nmX2 : ∀ a, a < 8 → ∀ b, b < 8 → a ≠ b → (TX2 a).2.1 ≠ (TX2 b).2.1 := by decide +kernel
theorem tyX2_ok : ∀ k, k < 8 → parseFieldDescriptor (TX2 k).2.2.1 = some (tyX2 k) := by decide +kernel
abbrev cX2_init : ByteArray := prog_4_method_1_code
def yX2_init : MethodName := ⟨RX2, "<init>", "()V"⟩
abbrev cX2_read : ByteArray := prog_4_method_2_code
def yX2_read : MethodName := ⟨RX2, "read", "([IILSnowMules$Law;)I"⟩
abbrev cX2_cut : ByteArray := prog_4_method_3_code
def yX2_cut : MethodName := ⟨RX2, "cut", "([II)V"⟩
abbrev cX2_addToken : ByteArray := prog_4_method_4_code
def yX2_addToken : MethodName := ⟨RX2, "addToken", "(II)V"⟩
abbrev cX2_isLetter : ByteArray := prog_4_method_5_code
def yX2_isLetter : MethodName := ⟨RX2, "isLetter", "(I)Z"⟩
abbrev cX2_isDigit : ByteArray := prog_4_method_6_code
def yX2_isDigit : MethodName := ⟨RX2, "isDigit", "(I)Z"⟩
abbrev cX2_stopOf : ByteArray := prog_4_method_7_code
def yX2_stopOf : MethodName := ⟨RX2, "stopOf", "([III)I"⟩
abbrev cX2_tokenOf : ByteArray := prog_4_method_8_code
def yX2_tokenOf : MethodName := ⟨RX2, "tokenOf", "([III)I"⟩
abbrev cX2_wordToken : ByteArray := prog_4_method_9_code
def yX2_wordToken : MethodName := ⟨RX2, "wordToken", "([III)I"⟩
abbrev cX2_numberToken : ByteArray := prog_4_method_10_code
def yX2_numberToken : MethodName := ⟨RX2, "numberToken", "([III)I"⟩
abbrev cX2_token : ByteArray := prog_4_method_11_code
def yX2_token : MethodName := ⟨RX2, "token", "()I"⟩
abbrev cX2_refuse : ByteArray := prog_4_method_12_code
def yX2_refuse : MethodName := ⟨RX2, "refuse", "(I)Z"⟩
abbrev cX2_take : ByteArray := prog_4_method_13_code
def yX2_take : MethodName := ⟨RX2, "take", "(I)Z"⟩
abbrev cX2_readClause : ByteArray := prog_4_method_14_code
def yX2_readClause : MethodName := ⟨RX2, "readClause", "(I)Z"⟩
abbrev cX2_readChain : ByteArray := prog_4_method_15_code
def yX2_readChain : MethodName := ⟨RX2, "readChain", "()Z"⟩
abbrev cX2_readSum : ByteArray := prog_4_method_16_code
def yX2_readSum : MethodName := ⟨RX2, "readSum", "()Z"⟩
abbrev cX2_joinOf : ByteArray := prog_4_method_17_code
def yX2_joinOf : MethodName := ⟨RX2, "joinOf", "(I)I"⟩
abbrev cX2_readValue : ByteArray := prog_4_method_18_code
def yX2_readValue : MethodName := ⟨RX2, "readValue", "(I)Z"⟩
abbrev cX2_readTest : ByteArray := prog_4_method_19_code
def yX2_readTest : MethodName := ⟨RX2, "readTest", "(I)Z"⟩
abbrev cX2_readPart : ByteArray := prog_4_method_20_code
def yX2_readPart : MethodName := ⟨RX2, "readPart", "(I)Z"⟩
abbrev cX2_readFact : ByteArray := prog_4_method_21_code
def yX2_readFact : MethodName := ⟨RX2, "readFact", "(I)Z"⟩
abbrev cX2_readComparison : ByteArray := prog_4_method_22_code
def yX2_readComparison : MethodName := ⟨RX2, "readComparison", "()Z"⟩
abbrev cX2_signOf : ByteArray := prog_4_method_23_code
def yX2_signOf : MethodName := ⟨RX2, "signOf", "(I)I"⟩
def RX3 : String := "SnowMules$Market"
def TX3 : u_T := fun k => match k with
  | 0 => ("SnowMules$Market", "paid", "I", false)
  | 1 => ("SnowMules$Market", "offers", "[I", true)
  | 2 => ("SnowMules$Market", "chosen", "[I", true)
  | _ => ("SnowMules$Market", "world", "LSnowMules$World;", true)
def tyX3 : Nat → FieldType := fun k => match k with
  | 0 => .int
  | 1 => .array .int
  | 2 => .array .int
  | _ => .object "SnowMules$World"
abbrev wsX30 : List Cond := u_ws RX3 TX3 4
theorem nmX3 : ∀ a, a < 4 → ∀ b, b < 4 → a ≠ b → (TX3 a).2.1 ≠ (TX3 b).2.1 := by decide +kernel
theorem tyX3_ok : ∀ k, k < 4 → parseFieldDescriptor (TX3 k).2.2.1 = some (tyX3 k) := by decide +kernel
abbrev cX3_init : ByteArray := prog_5_method_1_code
def yX3_init : MethodName := ⟨RX3, "<init>", "(LSnowMules$World;)V"⟩
abbrev cX3_open : ByteArray := prog_5_method_2_code
def yX3_open : MethodName := ⟨RX3, "open", "()V"⟩
abbrev cX3_offer : ByteArray := prog_5_method_3_code
def yX3_offer : MethodName := ⟨RX3, "offer", "(II)V"⟩
abbrev cX3_jarFor : ByteArray := prog_5_method_4_code
def yX3_jarFor : MethodName := ⟨RX3, "jarFor", "(I)I"⟩
abbrev cX3_choose : ByteArray := prog_5_method_5_code
def yX3_choose : MethodName := ⟨RX3, "choose", "()V"⟩
abbrev cX3_firstJar : ByteArray := prog_5_method_6_code
def yX3_firstJar : MethodName := ⟨RX3, "firstJar", "(III)I"⟩
abbrev cX3_greatest : ByteArray := prog_5_method_7_code
def yX3_greatest : MethodName := ⟨RX3, "greatest", "(II)I"⟩
abbrev cX3_priceOf : ByteArray := prog_5_method_8_code
def yX3_priceOf : MethodName := ⟨RX3, "priceOf", "(I)I"⟩
abbrev cX3_canServe : ByteArray := prog_5_method_9_code
def yX3_canServe : MethodName := ⟨RX3, "canServe", "(II)Z"⟩
def RX4 : String := "SnowMules$Scene"
def TX4 : u_T := fun k => match k with
  | 0 => ("SnowMules$Scene", "words", "[I", true)
  | 1 => ("SnowMules$Scene", "heightBehind", "I", false)
  | 2 => ("SnowMules$Scene", "heightAhead", "I", false)
  | _ => ("SnowMules$Scene", "hoursOfPass", "I", false)
def tyX4 : Nat → FieldType := fun k => match k with
  | 0 => .array .int
  | 1 => .int
  | 2 => .int
  | _ => .int
abbrev wsX40 : List Cond := u_ws RX4 TX4 4
theorem nmX4 : ∀ a, a < 4 → ∀ b, b < 4 → a ≠ b → (TX4 a).2.1 ≠ (TX4 b).2.1 := by decide +kernel
theorem tyX4_ok : ∀ k, k < 4 → parseFieldDescriptor (TX4 k).2.2.1 = some (tyX4 k) := by decide +kernel
abbrev cX4_init : ByteArray := prog_6_method_1_code
def yX4_init : MethodName := ⟨RX4, "<init>", "()V"⟩
abbrev cX4_setHour : ByteArray := prog_6_method_2_code
def yX4_setHour : MethodName := ⟨RX4, "setHour", "(LSnowMules$World;I)V"⟩
abbrev cX4_setNode : ByteArray := prog_6_method_3_code
def yX4_setNode : MethodName := ⟨RX4, "setNode", "(LSnowMules$World;I)V"⟩
abbrev cX4_setPass : ByteArray := prog_6_method_4_code
def yX4_setPass : MethodName := ⟨RX4, "setPass", "(LSnowMules$World;II)V"⟩
abbrev cX4_setGone : ByteArray := prog_6_method_5_code
def yX4_setGone : MethodName := ⟨RX4, "setGone", "(I)V"⟩
abbrev cX4_setLoad : ByteArray := prog_6_method_6_code
def yX4_setLoad : MethodName := ⟨RX4, "setLoad", "(III)V"⟩
def RX5 : String := "SnowMules$Search"
def TX5 : u_T := fun k => match k with
  | 0 => ("SnowMules$Search", "left", "I", false)
  | 1 => ("SnowMules$Search", "leaving", "I", false)
  | 2 => ("SnowMules$Search", "length", "I", false)
  | 3 => ("SnowMules$Search", "target", "I", false)
  | 4 => ("SnowMules$Search", "barred", "I", false)
  | 5 => ("SnowMules$Search", "latest", "I", false)
  | 6 => ("SnowMules$Search", "waited", "I", false)
  | 7 => ("SnowMules$Search", "anyWill", "Z", false)
  | 8 => ("SnowMules$Search", "far", "[I", true)
  | 9 => ("SnowMules$Search", "row", "[I", true)
  | 10 => ("SnowMules$Search", "bestRow", "[I", true)
  | 11 => ("SnowMules$Search", "world", "LSnowMules$World;", true)
  | _ => ("SnowMules$Search", "trip", "LSnowMules$Trip;", true)
def tyX5 : Nat → FieldType := fun k => match k with
  | 0 => .int
  | 1 => .int
  | 2 => .int
  | 3 => .int
  | 4 => .int
  | 5 => .int
  | 6 => .int
  | 7 => .boolean
  | 8 => .array .int
  | 9 => .array .int
  | 10 => .array .int
  | 11 => .object "SnowMules$World"
  | _ => .object "SnowMules$Trip"
abbrev wsX50 : List Cond := u_ws RX5 TX5 13
theorem nmX5 : ∀ a, a < 13 → ∀ b, b < 13 → a ≠ b → (TX5 a).2.1 ≠ (TX5 b).2.1 := by decide +kernel
theorem tyX5_ok : ∀ k, k < 13 → parseFieldDescriptor (TX5 k).2.2.1 = some (tyX5 k) := by decide +kernel
abbrev cX5_init : ByteArray := prog_7_method_1_code
def yX5_init : MethodName := ⟨RX5, "<init>", "(LSnowMules$World;LSnowMules$Trip;)V"⟩
abbrev cX5_aim : ByteArray := prog_7_method_2_code
def yX5_aim : MethodName := ⟨RX5, "aim", "(II)V"⟩
abbrev cX5_findBest : ByteArray := prog_7_method_3_code
def yX5_findBest : MethodName := ⟨RX5, "findBest", "(I)V"⟩
abbrev cX5_leftFor : ByteArray := prog_7_method_4_code
def yX5_leftFor : MethodName := ⟨RX5, "leftFor", "(LSnowMules$Law;IIZ)I"⟩
abbrev cX5_seek : ByteArray := prog_7_method_5_code
def yX5_seek : MethodName := ⟨RX5, "seek", "(III)V"⟩
abbrev cX5_keep : ByteArray := prog_7_method_6_code
def yX5_keep : MethodName := ⟨RX5, "keep", "(I)V"⟩
abbrev cX5_passOf : ByteArray := prog_7_method_7_code
def yX5_passOf : MethodName := ⟨RX5, "passOf", "(I)I"⟩
abbrev cX5_farTo : ByteArray := prog_7_method_8_code
def yX5_farTo : MethodName := ⟨RX5, "farTo", "(I)I"⟩
abbrev cX5_measure : ByteArray := prog_7_method_9_code
def yX5_measure : MethodName := ⟨RX5, "measure", "(IIZ)V"⟩
abbrev cX5_shorten : ByteArray := prog_7_method_10_code
def yX5_shorten : MethodName := ⟨RX5, "shorten", "(IZ)Z"⟩
abbrev cX5_reach : ByteArray := prog_7_method_11_code
def yX5_reach : MethodName := ⟨RX5, "reach", "(II)Z"⟩
def RX6 : String := "SnowMules$Table"
def TX6 : u_T := fun k => match k with
  | 0 => ("SnowMules$Table", "width", "I", true)
  | 1 => ("SnowMules$Table", "cells", "[I", true)
  | _ => ("SnowMules$Table", "size", "I", false)
def tyX6 : Nat → FieldType := fun k => match k with
  | 0 => .int
  | 1 => .array .int
  | _ => .int
abbrev wsX60 : List Cond := u_ws RX6 TX6 3
theorem nmX6 : ∀ a, a < 3 → ∀ b, b < 3 → a ≠ b → (TX6 a).2.1 ≠ (TX6 b).2.1 := by decide +kernel
theorem tyX6_ok : ∀ k, k < 3 → parseFieldDescriptor (TX6 k).2.2.1 = some (tyX6 k) := by decide +kernel
abbrev cX6_init : ByteArray := prog_8_method_1_code
def yX6_init : MethodName := ⟨RX6, "<init>", "(II)V"⟩
abbrev cX6_has : ByteArray := prog_8_method_2_code
def yX6_has : MethodName := ⟨RX6, "has", "(I)Z"⟩
abbrev cX6_get : ByteArray := prog_8_method_3_code
def yX6_get : MethodName := ⟨RX6, "get", "(II)I"⟩
abbrev cX6_put : ByteArray := prog_8_method_4_code
def yX6_put : MethodName := ⟨RX6, "put", "(III)V"⟩
abbrev cX6_grow : ByteArray := prog_8_method_5_code
def yX6_grow : MethodName := ⟨RX6, "grow", "()I"⟩
abbrev cX6_copyFrom : ByteArray := prog_8_method_6_code
def yX6_copyFrom : MethodName := ⟨RX6, "copyFrom", "(LSnowMules$Table;)V"⟩
def RX7 : String := "SnowMules$Trip"
def TX7 : u_T := fun k => match k with
  | 0 => ("SnowMules$Trip", "drops", "I", false)
  | 1 => ("SnowMules$Trip", "hour", "I", false)
  | 2 => ("SnowMules$Trip", "warmth", "I", false)
  | 3 => ("SnowMules$Trip", "needed", "I", false)
  | 4 => ("SnowMules$Trip", "felt", "I", false)
  | 5 => ("SnowMules$Trip", "salt", "I", false)
  | 6 => ("SnowMules$Trip", "law", "LSnowMules$Law;", false)
  | 7 => ("SnowMules$Trip", "world", "LSnowMules$World;", true)
  | _ => ("SnowMules$Trip", "scene", "LSnowMules$Scene;", true)
def tyX7 : Nat → FieldType := fun k => match k with
  | 0 => .int
  | 1 => .int
  | 2 => .int
  | 3 => .int
  | 4 => .int
  | 5 => .int
  | 6 => .object "SnowMules$Law"
  | 7 => .object "SnowMules$World"
  | _ => .object "SnowMules$Scene"
abbrev wsX70 : List Cond := u_ws RX7 TX7 9
theorem nmX7 : ∀ a, a < 9 → ∀ b, b < 9 → a ≠ b → (TX7 a).2.1 ≠ (TX7 b).2.1 := by decide +kernel
theorem tyX7_ok : ∀ k, k < 9 → parseFieldDescriptor (TX7 k).2.2.1 = some (tyX7 k) := by decide +kernel
abbrev cX7_init : ByteArray := prog_9_method_1_code
def yX7_init : MethodName := ⟨RX7, "<init>", "(LSnowMules$World;)V"⟩
abbrev cX7_begin : ByteArray := prog_9_method_2_code
def yX7_begin : MethodName := ⟨RX7, "begin", "(LSnowMules$Law;IIII)V"⟩
abbrev cX7_waitAt : ByteArray := prog_9_method_3_code
def yX7_waitAt : MethodName := ⟨RX7, "waitAt", "(I)V"⟩
abbrev cX7_meltOneHour : ByteArray := prog_9_method_4_code
def yX7_meltOneHour : MethodName := ⟨RX7, "meltOneHour", "()V"⟩
abbrev cX7_cross : ByteArray := prog_9_method_5_code
def yX7_cross : MethodName := ⟨RX7, "cross", "(II)I"⟩
abbrev cX7_followKeeping : ByteArray := prog_9_method_6_code
def yX7_followKeeping : MethodName := ⟨RX7, "followKeeping", "(I)Z"⟩
abbrev cX7_venture : ByteArray := prog_9_method_7_code
def yX7_venture : MethodName := ⟨RX7, "venture", "()I"⟩
def RX8 : String := "SnowMules$Waits"
def TX8 : u_T := fun k => match k with
  | 0 => ("SnowMules$Waits", "found", "I", false)
  | 1 => ("SnowMules$Waits", "due", "I", false)
  | 2 => ("SnowMules$Waits", "waited", "[I", true)
  | 3 => ("SnowMules$Waits", "fewest", "[I", true)
  | 4 => ("SnowMules$Waits", "most", "[I", true)
  | 5 => ("SnowMules$Waits", "world", "LSnowMules$World;", true)
  | _ => ("SnowMules$Waits", "trip", "LSnowMules$Trip;", true)
def tyX8 : Nat → FieldType := fun k => match k with
  | 0 => .int
  | 1 => .int
  | 2 => .array .int
  | 3 => .array .int
  | 4 => .array .int
  | 5 => .object "SnowMules$World"
  | _ => .object "SnowMules$Trip"
abbrev wsX80 : List Cond := u_ws RX8 TX8 7
theorem nmX8 : ∀ a, a < 7 → ∀ b, b < 7 → a ≠ b → (TX8 a).2.1 ≠ (TX8 b).2.1 := by decide +kernel
theorem tyX8_ok : ∀ k, k < 7 → parseFieldDescriptor (TX8 k).2.2.1 = some (tyX8 k) := by decide +kernel
abbrev cX8_init : ByteArray := prog_10_method_1_code
def yX8_init : MethodName := ⟨RX8, "<init>", "(LSnowMules$World;LSnowMules$Trip;)V"⟩
abbrev cX8_find : ByteArray := prog_10_method_2_code
def yX8_find : MethodName := ⟨RX8, "find", "(II)V"⟩
abbrev cX8_spread : ByteArray := prog_10_method_3_code
def yX8_spread : MethodName := ⟨RX8, "spread", "(III)V"⟩
abbrev cX8_note : ByteArray := prog_10_method_4_code
def yX8_note : MethodName := ⟨RX8, "note", "(I)V"⟩
abbrev cX8_fewestAt : ByteArray := prog_10_method_5_code
def yX8_fewestAt : MethodName := ⟨RX8, "fewestAt", "(I)I"⟩
abbrev cX8_mostAt : ByteArray := prog_10_method_6_code
def yX8_mostAt : MethodName := ⟨RX8, "mostAt", "(I)I"⟩
def RX9 : String := "SnowMules$World"
def TX9 : u_T := fun k => match k with
  | 0 => ("SnowMules$World", "nodes", "LSnowMules$Table;", true)
  | 1 => ("SnowMules$World", "passes", "LSnowMules$Table;", true)
  | 2 => ("SnowMules$World", "jars", "LSnowMules$Table;", true)
  | 3 => ("SnowMules$World", "orders", "LSnowMules$Table;", true)
  | 4 => ("SnowMules$World", "feasts", "LSnowMules$Table;", true)
  | 5 => ("SnowMules$World", "way", "LSnowMules$Table;", true)
  | 6 => ("SnowMules$World", "wayStart", "I", false)
  | 7 => ("SnowMules$World", "now", "I", false)
  | 8 => ("SnowMules$World", "firstMonth", "I", false)
  | _ => ("SnowMules$World", "x", "I", false)
def tyX9 : Nat → FieldType := fun k => match k with
  | 0 => .object "SnowMules$Table"
  | 1 => .object "SnowMules$Table"
  | 2 => .object "SnowMules$Table"
  | 3 => .object "SnowMules$Table"
  | 4 => .object "SnowMules$Table"
  | 5 => .object "SnowMules$Table"
  | 6 => .int
  | 7 => .int
  | 8 => .int
  | _ => .int
abbrev wsX90 : List Cond := u_ws RX9 TX9 10
theorem nmX9 : ∀ a, a < 10 → ∀ b, b < 10 → a ≠ b → (TX9 a).2.1 ≠ (TX9 b).2.1 := by decide +kernel
theorem tyX9_ok : ∀ k, k < 10 → parseFieldDescriptor (TX9 k).2.2.1 = some (tyX9 k) := by decide +kernel
abbrev cX9_init : ByteArray := prog_11_method_1_code
def yX9_init : MethodName := ⟨RX9, "<init>", "()V"⟩
abbrev cX9_copyFrom : ByteArray := prog_11_method_2_code
def yX9_copyFrom : MethodName := ⟨RX9, "copyFrom", "(LSnowMules$World;)V"⟩
abbrev cX9_monthAt : ByteArray := prog_11_method_3_code
def yX9_monthAt : MethodName := ⟨RX9, "monthAt", "(I)I"⟩
abbrev cX9_hasSnow : ByteArray := prog_11_method_4_code
def yX9_hasSnow : MethodName := ⟨RX9, "hasSnow", "(II)Z"⟩
abbrev cX9_otherEnd : ByteArray := prog_11_method_5_code
def yX9_otherEnd : MethodName := ⟨RX9, "otherEnd", "(II)I"⟩
abbrev cX9_wayEnd : ByteArray := prog_11_method_6_code
def yX9_wayEnd : MethodName := ⟨RX9, "wayEnd", "()I"⟩
abbrev cX9_wayHas : ByteArray := prog_11_method_7_code
def yX9_wayHas : MethodName := ⟨RX9, "wayHas", "(I)Z"⟩
abbrev cX9_nodeOf : ByteArray := prog_11_method_8_code
def yX9_nodeOf : MethodName := ⟨RX9, "nodeOf", "(I)I"⟩
abbrev cX9_standAt : ByteArray := prog_11_method_9_code
def yX9_standAt : MethodName := ⟨RX9, "standAt", "(II)V"⟩
abbrev cX9_lose : ByteArray := prog_11_method_10_code
def yX9_lose : MethodName := ⟨RX9, "lose", "(I)V"⟩
abbrev cX9_bring : ByteArray := prog_11_method_11_code
def yX9_bring : MethodName := ⟨RX9, "bring", "(II)I"⟩
abbrev cX9_jarsAt : ByteArray := prog_11_method_12_code
def yX9_jarsAt : MethodName := ⟨RX9, "jarsAt", "(I)I"⟩
abbrev cX9_jarsThatAre : ByteArray := prog_11_method_13_code
def yX9_jarsThatAre : MethodName := ⟨RX9, "jarsThatAre", "()I"⟩
abbrev cX9_dropsOfAll : ByteArray := prog_11_method_14_code
def yX9_dropsOfAll : MethodName := ⟨RX9, "dropsOfAll", "()I"⟩
abbrev cX9_draw : ByteArray := prog_11_method_15_code
def yX9_draw : MethodName := ⟨RX9, "draw", "()I"⟩
def RX10 : String := "SnowMules"
def TX10 : u_T := fun k => match k with
  | 0 => ("SnowMules", "world", "LSnowMules$World;", true)
  | 1 => ("SnowMules", "later", "LSnowMules$World;", true)
  | 2 => ("SnowMules", "images", "[LSnowMules$World;", true)
  | 3 => ("SnowMules", "tape", "[I", true)
  | 4 => ("SnowMules", "tapeLength", "I", false)
  | 5 => ("SnowMules", "laws", "[LSnowMules$Law;", true)
  | 6 => ("SnowMules", "lawCount", "I", false)
  | 7 => ("SnowMules", "reader", "LSnowMules$LawReader;", true)
  | 8 => ("SnowMules", "hours", "LSnowMules$Hours;", true)
  | 9 => ("SnowMules", "trip", "LSnowMules$Trip;", true)
  | 10 => ("SnowMules", "search", "LSnowMules$Search;", true)
  | 11 => ("SnowMules", "waits", "LSnowMules$Waits;", true)
  | _ => ("SnowMules", "market", "LSnowMules$Market;", true)
def tyX10 : Nat → FieldType := fun k => match k with
  | 0 => .object "SnowMules$World"
  | 1 => .object "SnowMules$World"
  | 2 => .array (.object "SnowMules$World")
  | 3 => .array .int
  | 4 => .int
  | 5 => .array (.object "SnowMules$Law")
  | 6 => .int
  | 7 => .object "SnowMules$LawReader"
  | 8 => .object "SnowMules$Hours"
  | 9 => .object "SnowMules$Trip"
  | 10 => .object "SnowMules$Search"
  | 11 => .object "SnowMules$Waits"
  | _ => .object "SnowMules$Market"
abbrev wsX100 : List Cond := u_ws RX10 TX10 13
theorem nmX10 : ∀ a, a < 13 → ∀ b, b < 13 → a ≠ b → (TX10 a).2.1 ≠ (TX10 b).2.1 := by decide +kernel
theorem tyX10_ok : ∀ k, k < 13 → parseFieldDescriptor (TX10 k).2.2.1 = some (tyX10 k) := by decide +kernel
abbrev cX10_init : ByteArray := prog_1_method_1_code
def yX10_init : MethodName := ⟨RX10, "<init>", "()V"⟩
abbrev cX10_node : ByteArray := prog_1_method_2_code
def yX10_node : MethodName := ⟨RX10, "node", "(III)I"⟩
abbrev cX10_pass : ByteArray := prog_1_method_3_code
def yX10_pass : MethodName := ⟨RX10, "pass", "(IIIII)I"⟩
abbrev cX10_jar : ByteArray := prog_1_method_4_code
def yX10_jar : MethodName := ⟨RX10, "jar", "(IIIII)I"⟩
abbrev cX10_month : ByteArray := prog_1_method_5_code
def yX10_month : MethodName := ⟨RX10, "month", "(I)I"⟩
abbrev cX10_seed : ByteArray := prog_1_method_6_code
def yX10_seed : MethodName := ⟨RX10, "seed", "(I)I"⟩
abbrev cX10_feed : ByteArray := prog_1_method_7_code
def yX10_feed : MethodName := ⟨RX10, "feed", "(IIIII)I"⟩
abbrev cX10_end : ByteArray := prog_1_method_8_code
def yX10_end : MethodName := ⟨RX10, "end", "(I)I"⟩
abbrev cX10_law : ByteArray := prog_1_method_9_code
def yX10_law : MethodName := ⟨RX10, "law", "()I"⟩
abbrev cX10_fill : ByteArray := prog_1_method_10_code
def yX10_fill : MethodName := ⟨RX10, "fill", "(II)I"⟩
abbrev cX10_pour : ByteArray := prog_1_method_11_code
def yX10_pour : MethodName := ⟨RX10, "pour", "(I)I"⟩
abbrev cX10_store : ByteArray := prog_1_method_12_code
def yX10_store : MethodName := ⟨RX10, "store", "(II)I"⟩
abbrev cX10_leave : ByteArray := prog_1_method_13_code
def yX10_leave : MethodName := ⟨RX10, "leave", "(II)Z"⟩
abbrev cX10_tick : ByteArray := prog_1_method_14_code
def yX10_tick : MethodName := ⟨RX10, "tick", "(II)I"⟩
abbrev cX10_at : ByteArray := prog_1_method_15_code
def yX10_at : MethodName := ⟨RX10, "at", "(II)I"⟩
abbrev cX10_of : ByteArray := prog_1_method_16_code
def yX10_of : MethodName := ⟨RX10, "of", "(II)I"⟩
abbrev cX10_melt : ByteArray := prog_1_method_17_code
def yX10_melt : MethodName := ⟨RX10, "melt", "(II)I"⟩
abbrev cX10_lay : ByteArray := prog_1_method_18_code
def yX10_lay : MethodName := ⟨RX10, "lay", "(I)I"⟩
abbrev cX10_from : ByteArray := prog_1_method_19_code
def yX10_from : MethodName := ⟨RX10, "from", "(I)Z"⟩
abbrev cX10_tried : ByteArray := prog_1_method_20_code
def yX10_tried : MethodName := ⟨RX10, "tried", "(IIIIII)I"⟩
abbrev cX10_best : ByteArray := prog_1_method_21_code
def yX10_best : MethodName := ⟨RX10, "best", "(IIIIIIII)I"⟩
abbrev cX10_soonest : ByteArray := prog_1_method_22_code
def yX10_soonest : MethodName := ⟨RX10, "soonest", "(II)I"⟩
abbrev cX10_nearest : ByteArray := prog_1_method_23_code
def yX10_nearest : MethodName := ⟨RX10, "nearest", "(II)I"⟩
abbrev cX10_warmer : ByteArray := prog_1_method_24_code
def yX10_warmer : MethodName := ⟨RX10, "warmer", "(IIIIII)I"⟩
abbrev cX10_guess : ByteArray := prog_1_method_25_code
def yX10_guess : MethodName := ⟨RX10, "guess", "(IIIIIIIII)I"⟩
abbrev cX10_order : ByteArray := prog_1_method_26_code
def yX10_order : MethodName := ⟨RX10, "order", "(IIII)I"⟩
abbrev cX10_serves : ByteArray := prog_1_method_27_code
def yX10_serves : MethodName := ⟨RX10, "serves", "(III)I"⟩
abbrev cX10_all : ByteArray := prog_1_method_28_code
def yX10_all : MethodName := ⟨RX10, "all", "(II)I"⟩
abbrev cX10_feast : ByteArray := prog_1_method_29_code
def yX10_feast : MethodName := ⟨RX10, "feast", "(III)I"⟩
abbrev cX10_enough : ByteArray := prog_1_method_30_code
def yX10_enough : MethodName := ⟨RX10, "enough", "(III)I"⟩
abbrev cX10_least : ByteArray := prog_1_method_31_code
def yX10_least : MethodName := ⟨RX10, "least", "(II)I"⟩
abbrev cX10_nights : ByteArray := prog_1_method_32_code
def yX10_nights : MethodName := ⟨RX10, "nights", "(IIIII)I"⟩
abbrev cX10_price : ByteArray := prog_1_method_33_code
def yX10_price : MethodName := ⟨RX10, "price", "(IIIIII)I"⟩
abbrev cX10_ahead : ByteArray := prog_1_method_34_code
def yX10_ahead : MethodName := ⟨RX10, "ahead", "(III)I"⟩
abbrev cX10_count : ByteArray := prog_1_method_35_code
def yX10_count : MethodName := ⟨RX10, "count", "(I)I"⟩
abbrev cX10_image : ByteArray := prog_1_method_36_code
def yX10_image : MethodName := ⟨RX10, "image", "(I)I"⟩
abbrev cX10_back : ByteArray := prog_1_method_37_code
def yX10_back : MethodName := ⟨RX10, "back", "(I)I"⟩
abbrev cX10_lawOf : ByteArray := prog_1_method_38_code
def yX10_lawOf : MethodName := ⟨RX10, "lawOf", "(I)LSnowMules$Law;"⟩
abbrev cX10_writeBytes : ByteArray := prog_1_method_39_code
def yX10_writeBytes : MethodName := ⟨RX10, "writeBytes", "(I)V"⟩
abbrev cX10_isJourney : ByteArray := prog_1_method_40_code
def yX10_isJourney : MethodName := ⟨RX10, "isJourney", "(II)Z"⟩
abbrev cX10_isLoad : ByteArray := prog_1_method_41_code
def yX10_isLoad : MethodName := ⟨RX10, "isLoad", "(IIII)Z"⟩
abbrev cX10_isCover : ByteArray := prog_1_method_42_code
def yX10_isCover : MethodName := ⟨RX10, "isCover", "(II)Z"⟩
abbrev cX10_isWish : ByteArray := prog_1_method_43_code
def yX10_isWish : MethodName := ⟨RX10, "isWish", "(I)Z"⟩
abbrev cX10_within : ByteArray := prog_1_method_44_code
def yX10_within : MethodName := ⟨RX10, "within", "(II)Z"⟩
abbrev cX10_held : ByteArray := prog_1_method_45_code
def yX10_held : MethodName := ⟨RX10, "held", "(JI)I"⟩
def RX11 : String := "SnowMulesModel"
def TX11 : u_T := fun k => match k with
  | 0 => ("SnowMulesModel", "tape", "[B", true)
  | 1 => ("SnowMulesModel", "taped", "I", false)
  | 2 => ("SnowMulesModel", "laws", "I", false)
  | 3 => ("SnowMulesModel", "sign", "[I", true)
  | 4 => ("SnowMulesModel", "length", "[I", true)
  | 5 => ("SnowMulesModel", "clause", "[I", true)
  | 6 => ("SnowMulesModel", "clauses", "[I", true)
  | 7 => ("SnowMulesModel", "chain", "[I", true)
  | 8 => ("SnowMulesModel", "next", "I", false)
  | 9 => ("SnowMulesModel", "wrong", "I", false)
  | 10 => ("SnowMulesModel", "number", "I", false)
  | 11 => ("SnowMulesModel", "text", "I", false)
  | 12 => ("SnowMulesModel", "made", "I", false)
  | 13 => ("SnowMulesModel", "deep", "I", false)
  | 14 => ("SnowMulesModel", "lines", "I", false)
  | 15 => ("SnowMulesModel", "open", "[I", true)
  | 16 => ("SnowMulesModel", "opened", "I", false)
  | 17 => ("SnowMulesModel", "stack", "[J", true)
  | 18 => ("SnowMulesModel", "top", "I", false)
  | 19 => ("SnowMulesModel", "word", "[J", true)
  | 20 => ("SnowMulesModel", "said", "[I", true)
  | 21 => ("SnowMulesModel", "kept", "[I", true)
  | 22 => ("SnowMulesModel", "goNode", "I", false)
  | 23 => ("SnowMulesModel", "goDrops", "I", false)
  | 24 => ("SnowMulesModel", "goHour", "I", false)
  | 25 => ("SnowMulesModel", "goFelt", "I", false)
  | 26 => ("SnowMulesModel", "goSalt", "I", false)
  | 27 => ("SnowMulesModel", "goMore", "I", false)
  | 28 => ("SnowMulesModel", "stepNode", "[I", true)
  | 29 => ("SnowMulesModel", "stepDrops", "[I", true)
  | 30 => ("SnowMulesModel", "stepHour", "[I", true)
  | 31 => ("SnowMulesModel", "stepNext", "[I", true)
  | 32 => ("SnowMulesModel", "stepPass", "[I", true)
  | 33 => ("SnowMulesModel", "bestLeft", "I", false)
  | 34 => ("SnowMulesModel", "bestHour", "I", false)
  | 35 => ("SnowMulesModel", "bestMany", "I", false)
  | 36 => ("SnowMulesModel", "bestPass", "[I", true)
  | 37 => ("SnowMulesModel", "far", "[I", true)
  | 38 => ("SnowMulesModel", "waited", "[I", true)
  | 39 => ("SnowMulesModel", "servers", "[I", true)
  | 40 => ("SnowMulesModel", "images", "[I", true)
  | _ => ("SnowMulesModel", "isMade", "[Z", true)
def tyX11 : Nat → FieldType := fun k => match k with
  | 0 => .array .byte
  | 1 => .int
  | 2 => .int
  | 3 => .array .int
  | 4 => .array .int
  | 5 => .array .int
  | 6 => .array .int
  | 7 => .array .int
  | 8 => .int
  | 9 => .int
  | 10 => .int
  | 11 => .int
  | 12 => .int
  | 13 => .int
  | 14 => .int
  | 15 => .array .int
  | 16 => .int
  | 17 => .array .long
  | 18 => .int
  | 19 => .array .long
  | 20 => .array .int
  | 21 => .array .int
  | 22 => .int
  | 23 => .int
  | 24 => .int
  | 25 => .int
  | 26 => .int
  | 27 => .int
  | 28 => .array .int
  | 29 => .array .int
  | 30 => .array .int
  | 31 => .array .int
  | 32 => .array .int
  | 33 => .int
  | 34 => .int
  | 35 => .int
  | 36 => .array .int
  | 37 => .array .int
  | 38 => .array .int
  | 39 => .array .int
  | 40 => .array .int
  | _ => .array .boolean
abbrev wsX110 : List Cond := u_ws RX11 TX11 42
theorem nmX11 : ∀ a, a < 42 → ∀ b, b < 42 → a ≠ b → (TX11 a).2.1 ≠ (TX11 b).2.1 := by decide +kernel
theorem tyX11_ok : ∀ k, k < 42 → parseFieldDescriptor (TX11 k).2.2.1 = some (tyX11 k) := by decide +kernel
abbrev cX11_init : ByteArray := prog_13_method_1_code
def yX11_init : MethodName := ⟨RX11, "<init>", "()V"⟩
abbrev cX11_in : ByteArray := prog_13_method_2_code
def yX11_in : MethodName := ⟨RX11, "in", "(JJJ)Z"⟩
abbrev cX11_bounded : ByteArray := prog_13_method_3_code
def yX11_bounded : MethodName := ⟨RX11, "bounded", "(JJJ)J"⟩
abbrev cX11_four : ByteArray := prog_13_method_4_code
def yX11_four : MethodName := ⟨RX11, "four", "(I)V"⟩
abbrev cX11_feed : ByteArray := prog_13_method_5_code
def yX11_feed : MethodName := ⟨RX11, "feed", "(IIIII)I"⟩
abbrev cX11_end : ByteArray := prog_13_method_6_code
def yX11_end : MethodName := ⟨RX11, "end", "(I)I"⟩
abbrev cX11_fails : ByteArray := prog_13_method_7_code
def yX11_fails : MethodName := ⟨RX11, "fails", "(II)Z"⟩
abbrev cX11_see : ByteArray := prog_13_method_8_code
def yX11_see : MethodName := ⟨RX11, "see", "()I"⟩
abbrev cX11_isDigit : ByteArray := prog_13_method_9_code
def yX11_isDigit : MethodName := ⟨RX11, "isDigit", "(I)Z"⟩
abbrev cX11_isLetter : ByteArray := prog_13_method_10_code
def yX11_isLetter : MethodName := ⟨RX11, "isLetter", "(I)Z"⟩
abbrev cX11_isWord : ByteArray := prog_13_method_11_code
def yX11_isWord : MethodName := ⟨RX11, "isWord", "(J)Z"⟩
abbrev cX11_passWord : ByteArray := prog_13_method_12_code
def yX11_passWord : MethodName := ⟨RX11, "passWord", "()V"⟩
abbrev cX11_takesWord : ByteArray := prog_13_method_13_code
def yX11_takesWord : MethodName := ⟨RX11, "takesWord", "(J)Z"⟩
abbrev cX11_numberHere : ByteArray := prog_13_method_14_code
def yX11_numberHere : MethodName := ⟨RX11, "numberHere", "(II)Z"⟩
abbrev cX11_wordHere : ByteArray := prog_13_method_15_code
def yX11_wordHere : MethodName := ⟨RX11, "wordHere", "()I"⟩
abbrev cX11_puts : ByteArray := prog_13_method_16_code
def yX11_puts : MethodName := ⟨RX11, "puts", "(II)V"⟩
abbrev cX11_makes : ByteArray := prog_13_method_17_code
def yX11_makes : MethodName := ⟨RX11, "makes", "(I)Z"⟩
abbrev cX11_opens : ByteArray := prog_13_method_18_code
def yX11_opens : MethodName := ⟨RX11, "opens", "(I)Z"⟩
abbrev cX11_strength : ByteArray := prog_13_method_19_code
def yX11_strength : MethodName := ⟨RX11, "strength", "(I)I"⟩
abbrev cX11_settles : ByteArray := prog_13_method_20_code
def yX11_settles : MethodName := ⟨RX11, "settles", "(I)V"⟩
abbrev cX11_value : ByteArray := prog_13_method_21_code
def yX11_value : MethodName := ⟨RX11, "value", "()Z"⟩
abbrev cX11_term : ByteArray := prog_13_method_22_code
def yX11_term : MethodName := ⟨RX11, "term", "()Z"⟩
abbrev cX11_sum : ByteArray := prog_13_method_23_code
def yX11_sum : MethodName := ⟨RX11, "sum", "()Z"⟩
abbrev cX11_compare : ByteArray := prog_13_method_24_code
def yX11_compare : MethodName := ⟨RX11, "compare", "()Z"⟩
abbrev cX11_fact : ByteArray := prog_13_method_25_code
def yX11_fact : MethodName := ⟨RX11, "fact", "()Z"⟩
abbrev cX11_isInside : ByteArray := prog_13_method_26_code
def yX11_isInside : MethodName := ⟨RX11, "isInside", "()Z"⟩
abbrev cX11_closes : ByteArray := prog_13_method_27_code
def yX11_closes : MethodName := ⟨RX11, "closes", "()V"⟩
abbrev cX11_tested : ByteArray := prog_13_method_28_code
def yX11_tested : MethodName := ⟨RX11, "tested", "()Z"⟩
abbrev cX11_clauseOf : ByteArray := prog_13_method_29_code
def yX11_clauseOf : MethodName := ⟨RX11, "clauseOf", "(I)Z"⟩
abbrev cX11_clauseHere : ByteArray := prog_13_method_30_code
def yX11_clauseHere : MethodName := ⟨RX11, "clauseHere", "()Z"⟩
abbrev cX11_law : ByteArray := prog_13_method_31_code
def yX11_law : MethodName := ⟨RX11, "law", "()I"⟩
abbrev cX11_isLaw : ByteArray := prog_13_method_32_code
def yX11_isLaw : MethodName := ⟨RX11, "isLaw", "(I)Z"⟩
abbrev cX11_push : ByteArray := prog_13_method_33_code
def yX11_push : MethodName := ⟨RX11, "push", "(J)V"⟩
abbrev cX11_pop : ByteArray := prog_13_method_34_code
def yX11_pop : MethodName := ⟨RX11, "pop", "()J"⟩
abbrev cX11_one : ByteArray := prog_13_method_35_code
def yX11_one : MethodName := ⟨RX11, "one", "(IJJ)J"⟩
abbrev cX11_reckons : ByteArray := prog_13_method_36_code
def yX11_reckons : MethodName := ⟨RX11, "reckons", "(III)J"⟩
abbrev cX11_summed : ByteArray := prog_13_method_37_code
def yX11_summed : MethodName := ⟨RX11, "summed", "(II)J"⟩
abbrev cX11_nodeOf : ByteArray := prog_13_method_38_code
def yX11_nodeOf : MethodName := ⟨RX11, "nodeOf", "(II)I"⟩
abbrev cX11_passOf : ByteArray := prog_13_method_39_code
def yX11_passOf : MethodName := ⟨RX11, "passOf", "(II)I"⟩
abbrev cX11_jarOf : ByteArray := prog_13_method_40_code
def yX11_jarOf : MethodName := ⟨RX11, "jarOf", "(II)I"⟩
abbrev cX11_isNode : ByteArray := prog_13_method_41_code
def yX11_isNode : MethodName := ⟨RX11, "isNode", "(I)Z"⟩
abbrev cX11_isPass : ByteArray := prog_13_method_42_code
def yX11_isPass : MethodName := ⟨RX11, "isPass", "(I)Z"⟩
abbrev cX11_isJar : ByteArray := prog_13_method_43_code
def yX11_isJar : MethodName := ⟨RX11, "isJar", "(I)Z"⟩
abbrev cX11_monthAt : ByteArray := prog_13_method_44_code
def yX11_monthAt : MethodName := ⟨RX11, "monthAt", "(I)I"⟩
abbrev cX11_hasSnow : ByteArray := prog_13_method_45_code
def yX11_hasSnow : MethodName := ⟨RX11, "hasSnow", "(II)Z"⟩
abbrev cX11_node : ByteArray := prog_13_method_46_code
def yX11_node : MethodName := ⟨RX11, "node", "(III)I"⟩
abbrev cX11_pass : ByteArray := prog_13_method_47_code
def yX11_pass : MethodName := ⟨RX11, "pass", "(IIIII)I"⟩
abbrev cX11_jar : ByteArray := prog_13_method_48_code
def yX11_jar : MethodName := ⟨RX11, "jar", "(IIIII)I"⟩
abbrev cX11_month : ByteArray := prog_13_method_49_code
def yX11_month : MethodName := ⟨RX11, "month", "(I)I"⟩
abbrev cX11_seed : ByteArray := prog_13_method_50_code
def yX11_seed : MethodName := ⟨RX11, "seed", "(I)I"⟩
abbrev cX11_stands : ByteArray := prog_13_method_51_code
def yX11_stands : MethodName := ⟨RX11, "stands", "(I)Z"⟩
abbrev cX11_fill : ByteArray := prog_13_method_52_code
def yX11_fill : MethodName := ⟨RX11, "fill", "(II)I"⟩
abbrev cX11_stores : ByteArray := prog_13_method_53_code
def yX11_stores : MethodName := ⟨RX11, "stores", "(II)I"⟩
abbrev cX11_pour : ByteArray := prog_13_method_54_code
def yX11_pour : MethodName := ⟨RX11, "pour", "(I)I"⟩
abbrev cX11_store : ByteArray := prog_13_method_55_code
def yX11_store : MethodName := ⟨RX11, "store", "(II)I"⟩
abbrev cX11_other : ByteArray := prog_13_method_56_code
def yX11_other : MethodName := ⟨RX11, "other", "(II)I"⟩
abbrev cX11_leave : ByteArray := prog_13_method_57_code
def yX11_leave : MethodName := ⟨RX11, "leave", "(II)Z"⟩
abbrev cX11_hourWords : ByteArray := prog_13_method_58_code
def yX11_hourWords : MethodName := ⟨RX11, "hourWords", "(IIII)V"⟩
abbrev cX11_nodeWords : ByteArray := prog_13_method_59_code
def yX11_nodeWords : MethodName := ⟨RX11, "nodeWords", "(IIIII)V"⟩
abbrev cX11_passWords : ByteArray := prog_13_method_60_code
def yX11_passWords : MethodName := ⟨RX11, "passWords", "(IIIIIII)V"⟩
abbrev cX11_meltBy : ByteArray := prog_13_method_61_code
def yX11_meltBy : MethodName := ⟨RX11, "meltBy", "(III)I"⟩
abbrev cX11_meltOf : ByteArray := prog_13_method_62_code
def yX11_meltOf : MethodName := ⟨RX11, "meltOf", "(II)I"⟩
abbrev cX11_draw : ByteArray := prog_13_method_63_code
def yX11_draw : MethodName := ⟨RX11, "draw", "()I"⟩
abbrev cX11_goesFor : ByteArray := prog_13_method_64_code
def yX11_goesFor : MethodName := ⟨RX11, "goesFor", "(I)V"⟩
abbrev cX11_bursts : ByteArray := prog_13_method_65_code
def yX11_bursts : MethodName := ⟨RX11, "bursts", "(IIII)V"⟩
abbrev cX11_comes : ByteArray := prog_13_method_66_code
def yX11_comes : MethodName := ⟨RX11, "comes", "(II)V"⟩
abbrev cX11_hour : ByteArray := prog_13_method_67_code
def yX11_hour : MethodName := ⟨RX11, "hour", "(I)V"⟩
abbrev cX11_tick : ByteArray := prog_13_method_68_code
def yX11_tick : MethodName := ⟨RX11, "tick", "(II)I"⟩
abbrev cX11_at : ByteArray := prog_13_method_69_code
def yX11_at : MethodName := ⟨RX11, "at", "(II)I"⟩
abbrev cX11_of : ByteArray := prog_13_method_70_code
def yX11_of : MethodName := ⟨RX11, "of", "(II)I"⟩
abbrev cX11_melt : ByteArray := prog_13_method_71_code
def yX11_melt : MethodName := ⟨RX11, "melt", "(II)I"⟩
abbrev cX11_wayEnd : ByteArray := prog_13_method_72_code
def yX11_wayEnd : MethodName := ⟨RX11, "wayEnd", "()I"⟩
abbrev cX11_isOfWay : ByteArray := prog_13_method_73_code
def yX11_isOfWay : MethodName := ⟨RX11, "isOfWay", "(I)Z"⟩
abbrev cX11_lay : ByteArray := prog_13_method_74_code
def yX11_lay : MethodName := ⟨RX11, "lay", "(I)I"⟩
abbrev cX11_from : ByteArray := prog_13_method_75_code
def yX11_from : MethodName := ⟨RX11, "from", "(I)Z"⟩
abbrev cX11_sets : ByteArray := prog_13_method_76_code
def yX11_sets : MethodName := ⟨RX11, "sets", "(IIIII)V"⟩
abbrev cX11_waits : ByteArray := prog_13_method_77_code
def yX11_waits : MethodName := ⟨RX11, "waits", "(I)V"⟩
abbrev cX11_travels : ByteArray := prog_13_method_78_code
def yX11_travels : MethodName := ⟨RX11, "travels", "(II)V"⟩
abbrev cX11_isJarLike : ByteArray := prog_13_method_79_code
def yX11_isJarLike : MethodName := ⟨RX11, "isJarLike", "(III)Z"⟩
abbrev cX11_canTry : ByteArray := prog_13_method_80_code
def yX11_canTry : MethodName := ⟨RX11, "canTry", "(IIIII)Z"⟩
abbrev cX11_tried : ByteArray := prog_13_method_81_code
def yX11_tried : MethodName := ⟨RX11, "tried", "(IIIIII)I"⟩
abbrev cX11_wasAt : ByteArray := prog_13_method_82_code
def yX11_wasAt : MethodName := ⟨RX11, "wasAt", "(II)Z"⟩
abbrev cX11_searches : ByteArray := prog_13_method_83_code
def yX11_searches : MethodName := ⟨RX11, "searches", "(IIIIIIIII)V"⟩
abbrev cX11_searchesDay : ByteArray := prog_13_method_84_code
def yX11_searchesDay : MethodName := ⟨RX11, "searchesDay", "(IIIIIIII)V"⟩
abbrev cX11_best : ByteArray := prog_13_method_85_code
def yX11_best : MethodName := ⟨RX11, "best", "(IIIIIIII)I"⟩
abbrev cX11_spreads : ByteArray := prog_13_method_86_code
def yX11_spreads : MethodName := ⟨RX11, "spreads", "(I)V"⟩
abbrev cX11_soonest : ByteArray := prog_13_method_87_code
def yX11_soonest : MethodName := ⟨RX11, "soonest", "(II)I"⟩
abbrev cX11_nearest : ByteArray := prog_13_method_88_code
def yX11_nearest : MethodName := ⟨RX11, "nearest", "(II)I"⟩
abbrev cX11_warmer : ByteArray := prog_13_method_89_code
def yX11_warmer : MethodName := ⟨RX11, "warmer", "(IIIIII)I"⟩
abbrev cX11_waitsOtherwise : ByteArray := prog_13_method_90_code
def yX11_waitsOtherwise : MethodName := ⟨RX11, "waitsOtherwise", "()Z"⟩
abbrev cX11_guess : ByteArray := prog_13_method_91_code
def yX11_guess : MethodName := ⟨RX11, "guess", "(IIIIIIIII)I"⟩
abbrev cX11_order : ByteArray := prog_13_method_92_code
def yX11_order : MethodName := ⟨RX11, "order", "(IIII)I"⟩
abbrev cX11_servesBy : ByteArray := prog_13_method_93_code
def yX11_servesBy : MethodName := ⟨RX11, "servesBy", "(III)I"⟩
abbrev cX11_serves : ByteArray := prog_13_method_94_code
def yX11_serves : MethodName := ⟨RX11, "serves", "(III)I"⟩
abbrev cX11_bits : ByteArray := prog_13_method_95_code
def yX11_bits : MethodName := ⟨RX11, "bits", "(I)I"⟩
abbrev cX11_canServe : ByteArray := prog_13_method_96_code
def yX11_canServe : MethodName := ⟨RX11, "canServe", "(II)Z"⟩
abbrev cX11_priceFrom : ByteArray := prog_13_method_97_code
def yX11_priceFrom : MethodName := ⟨RX11, "priceFrom", "(II)I"⟩
abbrev cX11_all : ByteArray := prog_13_method_98_code
def yX11_all : MethodName := ⟨RX11, "all", "(II)I"⟩
abbrev cX11_feast : ByteArray := prog_13_method_99_code
def yX11_feast : MethodName := ⟨RX11, "feast", "(III)I"⟩
abbrev cX11_isEnough : ByteArray := prog_13_method_100_code
def yX11_isEnough : MethodName := ⟨RX11, "isEnough", "(III)Z"⟩
abbrev cX11_enough : ByteArray := prog_13_method_101_code
def yX11_enough : MethodName := ⟨RX11, "enough", "(III)I"⟩
abbrev cX11_least : ByteArray := prog_13_method_102_code
def yX11_least : MethodName := ⟨RX11, "least", "(II)I"⟩
abbrev cX11_nights : ByteArray := prog_13_method_103_code
def yX11_nights : MethodName := ⟨RX11, "nights", "(IIIII)I"⟩
abbrev cX11_price : ByteArray := prog_13_method_104_code
def yX11_price : MethodName := ⟨RX11, "price", "(IIIIII)I"⟩
abbrev cX11_ahead : ByteArray := prog_13_method_105_code
def yX11_ahead : MethodName := ⟨RX11, "ahead", "(III)I"⟩
abbrev cX11_count : ByteArray := prog_13_method_106_code
def yX11_count : MethodName := ⟨RX11, "count", "(I)I"⟩
abbrev cX11_image : ByteArray := prog_13_method_107_code
def yX11_image : MethodName := ⟨RX11, "image", "(I)I"⟩
abbrev cX11_back : ByteArray := prog_13_method_108_code
def yX11_back : MethodName := ⟨RX11, "back", "(I)I"⟩
def RJ6 : String := "java/lang/Integer"
def TJ6 : u_T := fun k => match k with
  | _ => ("", "", "", false)
def tyJ6 : Nat → FieldType := fun k => match k with
  | _ => .int
abbrev wsJ60 : List Cond := u_ws RJ6 TJ6 0
theorem nmJ6 : ∀ a, a < 0 → ∀ b, b < 0 → a ≠ b → (TJ6 a).2.1 ≠ (TJ6 b).2.1 := by decide +kernel
theorem tyJ6_ok : ∀ k, k < 0 → parseFieldDescriptor (TJ6 k).2.2.1 = some (tyJ6 k) := by decide +kernel
abbrev cJ6_bitCount_0f7a4 : ByteArray := prog_14_method_49_code
def yJ6_bitCount_0f7a4 : MethodName := ⟨RJ6, "bitCount", "(I)I"⟩
def RJ9 : String := "java/lang/Math"
def TJ9 : u_T := fun k => match k with
  | _ => ("", "", "", false)
def tyJ9 : Nat → FieldType := fun k => match k with
  | _ => .int
abbrev wsJ90 : List Cond := u_ws RJ9 TJ9 0
theorem nmJ9 : ∀ a, a < 0 → ∀ b, b < 0 → a ≠ b → (TJ9 a).2.1 ≠ (TJ9 b).2.1 := by decide +kernel
theorem tyJ9_ok : ∀ k, k < 0 → parseFieldDescriptor (TJ9 k).2.2.1 = some (tyJ9 k) := by decide +kernel
abbrev cJ9_max_7cf53 : ByteArray := prog_15_method_65_code
def yJ9_max_7cf53 : MethodName := ⟨RJ9, "max", "(II)I"⟩
abbrev cJ9_min_7cf53 : ByteArray := prog_15_method_69_code
def yJ9_min_7cf53 : MethodName := ⟨RJ9, "min", "(II)I"⟩
def RJ0 : String := "java/lang/String"
def TJ0 : u_T := fun k => match k with
  | _ => ("", "", "", false)
def tyJ0 : Nat → FieldType := fun k => match k with
  | _ => .int
abbrev wsJ00 : List Cond := u_ws RJ0 TJ0 0
theorem nmJ0 : ∀ a, a < 0 → ∀ b, b < 0 → a ≠ b → (TJ0 a).2.1 ≠ (TJ0 b).2.1 := by decide +kernel
theorem tyJ0_ok : ∀ k, k < 0 → parseFieldDescriptor (TJ0 k).2.2.1 = some (tyJ0 k) := by decide +kernel
abbrev cJ0_length_8abf5 : ByteArray := prog_16_method_54_code
def yJ0_length_8abf5 : MethodName := ⟨RJ0, "length", "()I"⟩
abbrev cJ0_charAt_5068e : ByteArray := prog_16_method_56_code
def yJ0_charAt_5068e : MethodName := ⟨RJ0, "charAt", "(I)C"⟩
abbrev cJ0_coder_7d493 : ByteArray := prog_16_method_152_code
def yJ0_coder_7d493 : MethodName := ⟨RJ0, "coder", "()B"⟩
abbrev cJ0_isLatin1_aae02 : ByteArray := prog_16_method_154_code
def yJ0_isLatin1_aae02 : MethodName := ⟨RJ0, "isLatin1", "()Z"⟩
abbrev cJ0_checkIndex_df160 : ByteArray := prog_16_method_155_code
def yJ0_checkIndex_df160 : MethodName := ⟨RJ0, "checkIndex", "(II)V"⟩
def RJ1 : String := "java/lang/StringLatin1"
def TJ1 : u_T := fun k => match k with
  | _ => ("", "", "", false)
def tyJ1 : Nat → FieldType := fun k => match k with
  | _ => .int
abbrev wsJ10 : List Cond := u_ws RJ1 TJ1 0
theorem nmJ1 : ∀ a, a < 0 → ∀ b, b < 0 → a ≠ b → (TJ1 a).2.1 ≠ (TJ1 b).2.1 := by decide +kernel
theorem tyJ1_ok : ∀ k, k < 0 → parseFieldDescriptor (TJ1 k).2.2.1 = some (tyJ1 k) := by decide +kernel
abbrev cJ1_charAt_3b067 : ByteArray := prog_17_method_2_code
def yJ1_charAt_3b067 : MethodName := ⟨RJ1, "charAt", "([BI)C"⟩
def RJ2 : String := "java/lang/StringUTF16"
def TJ2 : u_T := fun k => match k with
  | _ => ("", "", "", false)
def tyJ2 : Nat → FieldType := fun k => match k with
  | _ => .int
abbrev wsJ20 : List Cond := u_ws RJ2 TJ2 0
theorem nmJ2 : ∀ a, a < 0 → ∀ b, b < 0 → a ≠ b → (TJ2 a).2.1 ≠ (TJ2 b).2.1 := by decide +kernel
theorem tyJ2_ok : ∀ k, k < 0 → parseFieldDescriptor (TJ2 k).2.2.1 = some (tyJ2 k) := by decide +kernel
abbrev cJ2_getChar_3b067 : ByteArray := prog_18_method_5_code
def yJ2_getChar_3b067 : MethodName := ⟨RJ2, "getChar", "([BI)C"⟩
abbrev cJ2_length_9d52b : ByteArray := prog_18_method_6_code
def yJ2_length_9d52b : MethodName := ⟨RJ2, "length", "([B)I"⟩
abbrev cJ2_charAt_3b067 : ByteArray := prog_18_method_83_code
def yJ2_charAt_3b067 : MethodName := ⟨RJ2, "charAt", "([BI)C"⟩
abbrev cJ2_checkIndex_2214a : ByteArray := prog_18_method_91_code
def yJ2_checkIndex_2214a : MethodName := ⟨RJ2, "checkIndex", "(I[B)V"⟩
def RJ10 : String := "java/lang/System"
def TJ10 : u_T := fun k => match k with
  | _ => ("", "", "", false)
def tyJ10 : Nat → FieldType := fun k => match k with
  | _ => .int
abbrev wsJ100 : List Cond := u_ws RJ10 TJ10 0
theorem nmJ10 : ∀ a, a < 0 → ∀ b, b < 0 → a ≠ b → (TJ10 a).2.1 ≠ (TJ10 b).2.1 := by decide +kernel
theorem tyJ10_ok : ∀ k, k < 0 → parseFieldDescriptor (TJ10 k).2.2.1 = some (tyJ10 k) := by decide +kernel
def RJ3 : String := "jdk/internal/util/Preconditions"
def TJ3 : u_T := fun k => match k with
  | _ => ("", "", "", false)
def tyJ3 : Nat → FieldType := fun k => match k with
  | _ => .int
abbrev wsJ30 : List Cond := u_ws RJ3 TJ3 0
theorem nmJ3 : ∀ a, a < 0 → ∀ b, b < 0 → a ≠ b → (TJ3 a).2.1 ≠ (TJ3 b).2.1 := by decide +kernel
theorem tyJ3_ok : ∀ k, k < 0 → parseFieldDescriptor (TJ3 k).2.2.1 = some (tyJ3 k) := by decide +kernel
abbrev cJ3_checkIndex_8e157 : ByteArray := prog_20_method_11_code
def yJ3_checkIndex_8e157 : MethodName := ⟨RJ3, "checkIndex", "(IILjava/util/function/BiFunction;)I"⟩
def RL : String := "SnowMulesLaw"
abbrev cL_law : ByteArray := code
def yL_law : MethodName := ⟨RL, "law", "([I)Z"⟩
def wsX4_init : List Cond := .code yX4_init cX4_init 1 none :: ([.methodLink RX4 3 objectInit, .instanceMethod objectInit, .code objectInit ⟨#[0xb1]⟩ 1 none, .arrayClass .int, .fieldLink RX4 11 "SnowMules$Scene" "words" "[I"] ++ wsX40)
def wsX0_init : List Cond := .code yX0_init cX0_init 1 none :: ([.methodLink RX0 3 objectInit, .instanceMethod objectInit, .code objectInit ⟨#[0xb1]⟩ 1 none, .classLink RX0 9 RX4, .instantiable RX4 4, .initialized RX4, .fieldLink RX0 12 "SnowMules$Hours" "scene" "LSnowMules$Scene;", .instanceMethod yX4_init, .code yX4_init cX4_init 1 none, .methodLink RX4 3 objectInit, .arrayClass .int, .fieldLink RX4 11 "SnowMules$Scene" "words" "[I"] ++ wsX40 ++ wsX00)
def wsX6_has : List Cond := .code yX6_has cX6_has 2 (some .boolean) :: ([.fieldLink RX6 25 "SnowMules$Table" "size" "I"] ++ wsX60)
def wsX9_monthAt : List Cond := .code yX9_monthAt cX9_monthAt 2 (some .int) :: ([.fieldLink RX9 46 "SnowMules$World" "firstMonth" "I"] ++ wsX90)
def wsX6_put : List Cond := .code yX6_put cX6_put 5 none :: ([.fieldLink RX6 9 "SnowMules$Table" "width" "I", .fieldLink RX6 21 "SnowMules$Table" "cells" "[I"] ++ wsX60)
def wsX1_init : List Cond := .code yX1_init cX1_init 1 none :: ([.methodLink RX1 1 objectInit, .instanceMethod objectInit, .code objectInit ⟨#[0xb1]⟩ 1 none, .arrayClass .int, .fieldLink RX1 9 "SnowMules$Law" "sorts" "[I", .fieldLink RX1 13 "SnowMules$Law" "sumStarts" "[I", .fieldLink RX1 16 "SnowMules$Law" "sumStops" "[I", .fieldLink RX1 19 "SnowMules$Law" "testStarts" "[I", .fieldLink RX1 22 "SnowMules$Law" "testStops" "[I", .fieldLink RX1 25 "SnowMules$Law" "joins" "[I", .fieldLink RX1 28 "SnowMules$Law" "operands" "[I", .fieldLink RX1 31 "SnowMules$Law" "factStarts" "[I", .fieldLink RX1 34 "SnowMules$Law" "factMiddles" "[I", .fieldLink RX1 37 "SnowMules$Law" "factStops" "[I", .fieldLink RX1 40 "SnowMules$Law" "signs" "[I", .fieldLink RX1 43 "SnowMules$Law" "tests" "[I"] ++ wsX10)
def wsX1_clear : List Cond := .code yX1_clear cX1_clear 1 none :: ([.fieldLink RX1 46 "SnowMules$Law" "chain" "I", .fieldLink RX1 50 "SnowMules$Law" "clauses" "I", .fieldLink RX1 53 "SnowMules$Law" "values" "I", .fieldLink RX1 56 "SnowMules$Law" "facts" "I", .fieldLink RX1 59 "SnowMules$Law" "steps" "I"] ++ wsX10)
def wsX2_init_r1 : List Cond := [Cond.methodLink RX2 7 objectInit, Cond.instanceMethod objectInit, Cond.code objectInit ⟨#[0xb1]⟩ 1 none, Cond.arrayClass .int, Cond.fieldLink RX2 13 "SnowMules$LawReader" "tokens" "[I", Cond.fieldLink RX2 17 "SnowMules$LawReader" "places" "[I", Cond.classLink RX2 20 RX1, Cond.instantiable RX1 17, Cond.initialized RX1, Cond.fieldLink RX2 23 "SnowMules$LawReader" "law" "LSnowMules$Law;", Cond.instanceMethod yX1_init, Cond.code yX1_init cX1_init 1 none, Cond.methodLink RX1 1 objectInit, Cond.fieldLink RX1 9 "SnowMules$Law" "sorts" "[I", Cond.fieldLink RX1 13 "SnowMules$Law" "sumStarts" "[I", Cond.fieldLink RX1 16 "SnowMules$Law" "sumStops" "[I", Cond.fieldLink RX1 19 "SnowMules$Law" "testStarts" "[I", Cond.fieldLink RX1 22 "SnowMules$Law" "testStops" "[I", Cond.fieldLink RX1 25 "SnowMules$Law" "joins" "[I", Cond.fieldLink RX1 28 "SnowMules$Law" "operands" "[I", Cond.fieldLink RX1 31 "SnowMules$Law" "factStarts" "[I", Cond.fieldLink RX1 34 "SnowMules$Law" "factMiddles" "[I", Cond.fieldLink RX1 37 "SnowMules$Law" "factStops" "[I", Cond.fieldLink RX1 40 "SnowMules$Law" "signs" "[I"]
def wsX2_init_r2 : List Cond := [Cond.fieldLink RX1 43 "SnowMules$Law" "tests" "[I"]
def wsX2_init : List Cond := .code yX2_init cX2_init 1 none :: ((wsX2_init_r1 ++ wsX2_init_r2) ++ wsX20 ++ wsX10)
def wsX2_addToken : List Cond := .code yX2_addToken cX2_addToken 3 none :: ([.fieldLink RX2 65 "SnowMules$LawReader" "tokenCount" "I", .fieldLink RX2 13 "SnowMules$LawReader" "tokens" "[I", .fieldLink RX2 17 "SnowMules$LawReader" "places" "[I"] ++ wsX20)
def wsX2_cut_r1 : List Cond := [Cond.fieldLink RX2 65 "SnowMules$LawReader" "tokenCount" "I", Cond.methodLink RX2 68 yX2_stopOf, Cond.static yX2_stopOf, Cond.initialized RX2, Cond.code yX2_stopOf cX2_stopOf 5 (some .int), Cond.methodLink RX2 79 yX2_isLetter, Cond.static yX2_isLetter, Cond.code yX2_isLetter cX2_isLetter 1 (some .boolean), Cond.methodLink RX2 82 yX2_isDigit, Cond.static yX2_isDigit, Cond.code yX2_isDigit cX2_isDigit 1 (some .boolean), Cond.methodLink RX2 72 yX2_tokenOf, Cond.static yX2_tokenOf, Cond.code yX2_tokenOf cX2_tokenOf 4 (some .int), Cond.methodLink RX2 85 yX2_wordToken, Cond.static yX2_wordToken, Cond.code yX2_wordToken cX2_wordToken 8 (some .int), Cond.methodLink RX2 93 yJ0_length_8abf5, Cond.instanceMethod yJ0_length_8abf5, Cond.selects RJ0 yJ0_length_8abf5 yJ0_length_8abf5, Cond.initialized RJ0, Cond.code yJ0_length_8abf5 cJ0_length_8abf5 1 (some .int), Cond.fieldLink RJ0 9 "java/lang/String" "value" "[B", Cond.methodLink RJ0 335 yJ0_coder_7d493]
def wsX2_cut_r2 : List Cond := [Cond.instanceMethod yJ0_coder_7d493, Cond.selects RJ0 yJ0_coder_7d493 yJ0_coder_7d493, Cond.code yJ0_coder_7d493 cJ0_coder_7d493 1 (some .byte), Cond.fieldLink RJ0 38 "java/lang/String" "COMPACT_STRINGS" "Z", Cond.fieldLink RJ0 15 "java/lang/String" "coder" "B", Cond.methodLink RX2 98 yJ0_charAt_5068e, Cond.instanceMethod yJ0_charAt_5068e, Cond.selects RJ0 yJ0_charAt_5068e yJ0_charAt_5068e, Cond.code yJ0_charAt_5068e cJ0_charAt_5068e 2 (some .char), Cond.methodLink RJ0 492 yJ0_isLatin1_aae02, Cond.instanceMethod yJ0_isLatin1_aae02, Cond.selects RJ0 yJ0_isLatin1_aae02 yJ0_isLatin1_aae02, Cond.code yJ0_isLatin1_aae02 cJ0_isLatin1_aae02 1 (some .boolean), Cond.methodLink RJ0 495 yJ1_charAt_3b067, Cond.static yJ1_charAt_3b067, Cond.initialized RJ1, Cond.code yJ1_charAt_3b067 cJ1_charAt_3b067 2 (some .char), Cond.methodLink RJ1 9 yJ0_checkIndex_df160, Cond.static yJ0_checkIndex_df160, Cond.code yJ0_checkIndex_df160 cJ0_checkIndex_df160 2 none, Cond.fieldLink RJ0 1053 "jdk/internal/util/Preconditions" "SIOOBE_FORMATTER" "Ljava/util/function/BiFunction;", Cond.methodLink RJ0 1059 yJ3_checkIndex_8e157, Cond.static yJ3_checkIndex_8e157, Cond.initialized RJ3]
def wsX2_cut_r3 : List Cond := [Cond.code yJ3_checkIndex_8e157 cJ3_checkIndex_8e157 3 (some .int), Cond.methodLink RJ0 498 yJ2_charAt_3b067, Cond.static yJ2_charAt_3b067, Cond.initialized RJ2, Cond.code yJ2_charAt_3b067 cJ2_charAt_3b067 2 (some .char), Cond.methodLink RJ2 67 yJ2_checkIndex_2214a, Cond.static yJ2_checkIndex_2214a, Cond.code yJ2_checkIndex_2214a cJ2_checkIndex_2214a 2 none, Cond.methodLink RJ2 48 yJ2_length_9d52b, Cond.static yJ2_length_9d52b, Cond.code yJ2_length_9d52b cJ2_length_9d52b 1 (some .int), Cond.methodLink RJ2 414 yJ0_checkIndex_df160, Cond.methodLink RJ2 71 yJ2_getChar_3b067, Cond.static yJ2_getChar_3b067, Cond.code yJ2_getChar_3b067 cJ2_getChar_3b067 2 (some .char), Cond.fieldLink RJ2 44 "java/lang/StringUTF16" "$assertionsDisabled" "Z", Cond.fieldLink RJ2 59 "java/lang/StringUTF16" "HI_BYTE_SHIFT" "I", Cond.fieldLink RJ2 63 "java/lang/StringUTF16" "LO_BYTE_SHIFT" "I", Cond.methodLink RX2 88 yX2_numberToken, Cond.static yX2_numberToken, Cond.code yX2_numberToken cX2_numberToken 5 (some .int), Cond.methodLink RX2 75 yX2_addToken, Cond.instanceMethod yX2_addToken, Cond.selects RX2 yX2_addToken yX2_addToken]
def wsX2_cut_r4 : List Cond := [Cond.code yX2_addToken cX2_addToken 3 none, Cond.fieldLink RX2 13 "SnowMules$LawReader" "tokens" "[I", Cond.fieldLink RX2 17 "SnowMules$LawReader" "places" "[I"]
def wsX2_cut : List Cond := .code yX2_cut cX2_cut 5 none :: ((wsX2_cut_r1 ++ (wsX2_cut_r2 ++ (wsX2_cut_r3 ++ wsX2_cut_r4))) ++ wsX20)
def wsX2_token : List Cond := .code yX2_token cX2_token 1 (some .int) :: ([.fieldLink RX2 37 "SnowMules$LawReader" "next" "I", .fieldLink RX2 65 "SnowMules$LawReader" "tokenCount" "I", .fieldLink RX2 13 "SnowMules$LawReader" "tokens" "[I"] ++ wsX20)
def wsX2_refuse : List Cond := .code yX2_refuse cX2_refuse 3 (some .boolean) :: ([.fieldLink RX2 37 "SnowMules$LawReader" "next" "I", .fieldLink RX2 17 "SnowMules$LawReader" "places" "[I", .fieldLink RX2 41 "SnowMules$LawReader" "fault" "I"] ++ wsX20)
def wsX2_readClause_r1 : List Cond := [Cond.fieldLink RX2 47 "SnowMules$LawReader" "chained" "Z", Cond.fieldLink RX2 37 "SnowMules$LawReader" "next" "I", Cond.fieldLink RX2 23 "SnowMules$LawReader" "law" "LSnowMules$Law;", Cond.methodLink RX2 58 yX2_token, Cond.instanceMethod yX2_token, Cond.selects RX2 yX2_token yX2_token, Cond.initialized RX2, Cond.code yX2_token cX2_token 1 (some .int), Cond.fieldLink RX2 65 "SnowMules$LawReader" "tokenCount" "I", Cond.fieldLink RX2 13 "SnowMules$LawReader" "tokens" "[I", Cond.methodLink RX2 102 yX2_refuse, Cond.instanceMethod yX2_refuse, Cond.selects RX2 yX2_refuse yX2_refuse, Cond.code yX2_refuse cX2_refuse 3 (some .boolean), Cond.fieldLink RX2 17 "SnowMules$LawReader" "places" "[I", Cond.fieldLink RX2 41 "SnowMules$LawReader" "fault" "I", Cond.methodLink RX2 105 yX2_readChain, Cond.instanceMethod yX2_readChain, Cond.selects RX2 yX2_readChain yX2_readChain, Cond.code yX2_readChain cX2_readChain 2 (some .boolean), Cond.fieldLink RX2 125 "SnowMules$Law" "chain" "I", Cond.methodLink RX2 109 yX1_beginClause, Cond.instanceMethod yX1_beginClause, Cond.selects RX1 yX1_beginClause yX1_beginClause]
def wsX2_readClause_r2 : List Cond := [Cond.initialized RX1, Cond.code yX1_beginClause cX1_beginClause 2 none, Cond.fieldLink RX1 50 "SnowMules$Law" "clauses" "I", Cond.fieldLink RX1 9 "SnowMules$Law" "sorts" "[I", Cond.fieldLink RX1 13 "SnowMules$Law" "sumStarts" "[I", Cond.fieldLink RX1 53 "SnowMules$Law" "values" "I", Cond.methodLink RX2 113 yX2_readSum, Cond.instanceMethod yX2_readSum, Cond.selects RX2 yX2_readSum yX2_readSum, Cond.code yX2_readSum cX2_readSum 3 (some .boolean), Cond.methodLink RX2 128 yX2_readValue, Cond.instanceMethod yX2_readValue, Cond.selects RX2 yX2_readValue yX2_readValue, Cond.code yX2_readValue cX2_readValue 4 (some .boolean), Cond.fieldLink RX2 44 "SnowMules$LawReader" "parts" "I", Cond.methodLink RX2 135 yX1_addValue, Cond.instanceMethod yX1_addValue, Cond.selects RX1 yX1_addValue yX1_addValue, Cond.code yX1_addValue cX1_addValue 3 none, Cond.fieldLink RX1 25 "SnowMules$Law" "joins" "[I", Cond.fieldLink RX1 28 "SnowMules$Law" "operands" "[I", Cond.methodLink RX2 131 yX2_joinOf, Cond.static yX2_joinOf, Cond.code yX2_joinOf cX2_joinOf 1 (some .int)]
def wsX2_readClause_r3 : List Cond := [Cond.methodLink RX2 116 yX1_endSum, Cond.instanceMethod yX1_endSum, Cond.selects RX1 yX1_endSum yX1_endSum, Cond.code yX1_endSum cX1_endSum 2 none, Cond.fieldLink RX1 16 "SnowMules$Law" "sumStops" "[I", Cond.fieldLink RX1 19 "SnowMules$Law" "testStarts" "[I", Cond.fieldLink RX1 59 "SnowMules$Law" "steps" "I", Cond.fieldLink RX1 22 "SnowMules$Law" "testStops" "[I", Cond.methodLink RX2 119 yX2_readTest, Cond.instanceMethod yX2_readTest, Cond.selects RX2 yX2_readTest yX2_readTest, Cond.code yX2_readTest cX2_readTest 3 (some .boolean), Cond.methodLink RX2 138 yX2_readPart, Cond.instanceMethod yX2_readPart, Cond.selects RX2 yX2_readPart yX2_readPart, Cond.methodLink RX2 141 yX1_addStep, Cond.instanceMethod yX1_addStep, Cond.selects RX1 yX1_addStep yX1_addStep, Cond.code yX1_addStep cX1_addStep 2 none, Cond.fieldLink RX1 43 "SnowMules$Law" "tests" "[I", Cond.code yX2_readFact cX2_readFact 4 (some .boolean), Cond.methodLink RX2 147 yX2_readComparison, Cond.instanceMethod yX2_readComparison, Cond.selects RX2 yX2_readComparison yX2_readComparison]
def wsX2_readClause_r4 : List Cond := [Cond.code yX2_readComparison cX2_readComparison 4 (some .boolean), Cond.methodLink RX2 153 yX2_signOf, Cond.static yX2_signOf, Cond.code yX2_signOf cX2_signOf 1 (some .int), Cond.methodLink RX2 156 yX1_addFact, Cond.instanceMethod yX1_addFact, Cond.selects RX1 yX1_addFact yX1_addFact, Cond.code yX1_addFact cX1_addFact 4 none, Cond.fieldLink RX1 56 "SnowMules$Law" "facts" "I", Cond.fieldLink RX1 31 "SnowMules$Law" "factStarts" "[I", Cond.fieldLink RX1 34 "SnowMules$Law" "factMiddles" "[I", Cond.fieldLink RX1 37 "SnowMules$Law" "factStops" "[I", Cond.fieldLink RX1 40 "SnowMules$Law" "signs" "[I", Cond.methodLink RX1 62 yX1_addStep, Cond.methodLink RX2 62 yX2_take, Cond.instanceMethod yX2_take, Cond.selects RX2 yX2_take yX2_take, Cond.code yX2_take cX2_take 2 (some .boolean), Cond.methodLink RX2 144 yX2_readFact, Cond.instanceMethod yX2_readFact, Cond.selects RX2 yX2_readFact yX2_readFact, Cond.code yX2_readPart cX2_readPart 3 (some .boolean), Cond.methodLink RX2 122 yX1_endTest, Cond.instanceMethod yX1_endTest]
def wsX2_readClause_r5 : List Cond := [Cond.selects RX1 yX1_endTest yX1_endTest, Cond.code yX1_endTest cX1_endTest 2 none]
def wsX2_readClause : List Cond := .code yX2_readClause cX2_readClause 3 (some .boolean) :: ((wsX2_readClause_r1 ++ (wsX2_readClause_r2 ++ (wsX2_readClause_r3 ++ (wsX2_readClause_r4 ++ wsX2_readClause_r5)))) ++ wsX20 ++ wsX10)
def wsX2_read_r1 : List Cond := [Cond.methodLink RX2 27 Lib.Math.min.name, Cond.static Lib.Math.min.name, Cond.initialized "java/lang/Math", Cond.code Lib.Math.min.name Lib.Math.min.code 2 (some .int), Cond.fieldLink RX2 37 "SnowMules$LawReader" "next" "I", Cond.fieldLink RX2 41 "SnowMules$LawReader" "fault" "I", Cond.fieldLink RX2 44 "SnowMules$LawReader" "parts" "I", Cond.fieldLink RX2 47 "SnowMules$LawReader" "chained" "Z", Cond.fieldLink RX2 23 "SnowMules$LawReader" "law" "LSnowMules$Law;", Cond.methodLink RX2 33 yX2_cut, Cond.instanceMethod yX2_cut, Cond.selects RX2 yX2_cut yX2_cut, Cond.initialized RX2, Cond.code yX2_cut cX2_cut 5 none, Cond.fieldLink RX2 65 "SnowMules$LawReader" "tokenCount" "I", Cond.methodLink RX2 68 yX2_stopOf, Cond.static yX2_stopOf, Cond.code yX2_stopOf cX2_stopOf 5 (some .int), Cond.methodLink RX2 79 yX2_isLetter, Cond.static yX2_isLetter, Cond.code yX2_isLetter cX2_isLetter 1 (some .boolean), Cond.methodLink RX2 82 yX2_isDigit, Cond.static yX2_isDigit, Cond.code yX2_isDigit cX2_isDigit 1 (some .boolean)]
def wsX2_read_r2 : List Cond := [Cond.methodLink RX2 72 yX2_tokenOf, Cond.static yX2_tokenOf, Cond.code yX2_tokenOf cX2_tokenOf 4 (some .int), Cond.methodLink RX2 85 yX2_wordToken, Cond.static yX2_wordToken, Cond.code yX2_wordToken cX2_wordToken 8 (some .int), Cond.methodLink RX2 93 yJ0_length_8abf5, Cond.instanceMethod yJ0_length_8abf5, Cond.selects RJ0 yJ0_length_8abf5 yJ0_length_8abf5, Cond.initialized RJ0, Cond.code yJ0_length_8abf5 cJ0_length_8abf5 1 (some .int), Cond.fieldLink RJ0 9 "java/lang/String" "value" "[B", Cond.methodLink RJ0 335 yJ0_coder_7d493, Cond.instanceMethod yJ0_coder_7d493, Cond.selects RJ0 yJ0_coder_7d493 yJ0_coder_7d493, Cond.code yJ0_coder_7d493 cJ0_coder_7d493 1 (some .byte), Cond.fieldLink RJ0 38 "java/lang/String" "COMPACT_STRINGS" "Z", Cond.fieldLink RJ0 15 "java/lang/String" "coder" "B", Cond.methodLink RX2 98 yJ0_charAt_5068e, Cond.instanceMethod yJ0_charAt_5068e, Cond.selects RJ0 yJ0_charAt_5068e yJ0_charAt_5068e, Cond.code yJ0_charAt_5068e cJ0_charAt_5068e 2 (some .char), Cond.methodLink RJ0 492 yJ0_isLatin1_aae02, Cond.instanceMethod yJ0_isLatin1_aae02]
def wsX2_read_r3 : List Cond := [Cond.selects RJ0 yJ0_isLatin1_aae02 yJ0_isLatin1_aae02, Cond.code yJ0_isLatin1_aae02 cJ0_isLatin1_aae02 1 (some .boolean), Cond.methodLink RJ0 495 yJ1_charAt_3b067, Cond.static yJ1_charAt_3b067, Cond.initialized RJ1, Cond.code yJ1_charAt_3b067 cJ1_charAt_3b067 2 (some .char), Cond.methodLink RJ1 9 yJ0_checkIndex_df160, Cond.static yJ0_checkIndex_df160, Cond.code yJ0_checkIndex_df160 cJ0_checkIndex_df160 2 none, Cond.fieldLink RJ0 1053 "jdk/internal/util/Preconditions" "SIOOBE_FORMATTER" "Ljava/util/function/BiFunction;", Cond.methodLink RJ0 1059 yJ3_checkIndex_8e157, Cond.static yJ3_checkIndex_8e157, Cond.initialized RJ3, Cond.code yJ3_checkIndex_8e157 cJ3_checkIndex_8e157 3 (some .int), Cond.methodLink RJ0 498 yJ2_charAt_3b067, Cond.static yJ2_charAt_3b067, Cond.initialized RJ2, Cond.code yJ2_charAt_3b067 cJ2_charAt_3b067 2 (some .char), Cond.methodLink RJ2 67 yJ2_checkIndex_2214a, Cond.static yJ2_checkIndex_2214a, Cond.code yJ2_checkIndex_2214a cJ2_checkIndex_2214a 2 none, Cond.methodLink RJ2 48 yJ2_length_9d52b, Cond.static yJ2_length_9d52b, Cond.code yJ2_length_9d52b cJ2_length_9d52b 1 (some .int)]
def wsX2_read_r4 : List Cond := [Cond.methodLink RJ2 414 yJ0_checkIndex_df160, Cond.methodLink RJ2 71 yJ2_getChar_3b067, Cond.static yJ2_getChar_3b067, Cond.code yJ2_getChar_3b067 cJ2_getChar_3b067 2 (some .char), Cond.fieldLink RJ2 44 "java/lang/StringUTF16" "$assertionsDisabled" "Z", Cond.fieldLink RJ2 59 "java/lang/StringUTF16" "HI_BYTE_SHIFT" "I", Cond.fieldLink RJ2 63 "java/lang/StringUTF16" "LO_BYTE_SHIFT" "I", Cond.methodLink RX2 88 yX2_numberToken, Cond.static yX2_numberToken, Cond.code yX2_numberToken cX2_numberToken 5 (some .int), Cond.methodLink RX2 75 yX2_addToken, Cond.instanceMethod yX2_addToken, Cond.selects RX2 yX2_addToken yX2_addToken, Cond.code yX2_addToken cX2_addToken 3 none, Cond.fieldLink RX2 13 "SnowMules$LawReader" "tokens" "[I", Cond.fieldLink RX2 17 "SnowMules$LawReader" "places" "[I", Cond.methodLink RX2 51 yX1_clear, Cond.instanceMethod yX1_clear, Cond.selects RX1 yX1_clear yX1_clear, Cond.initialized RX1, Cond.code yX1_clear cX1_clear 1 none, Cond.fieldLink RX1 46 "SnowMules$Law" "chain" "I", Cond.fieldLink RX1 50 "SnowMules$Law" "clauses" "I", Cond.fieldLink RX1 53 "SnowMules$Law" "values" "I"]
def wsX2_read_r5 : List Cond := [Cond.fieldLink RX1 56 "SnowMules$Law" "facts" "I", Cond.fieldLink RX1 59 "SnowMules$Law" "steps" "I", Cond.methodLink RX2 54 yX2_readClause, Cond.instanceMethod yX2_readClause, Cond.selects RX2 yX2_readClause yX2_readClause, Cond.code yX2_readClause cX2_readClause 3 (some .boolean), Cond.methodLink RX2 58 yX2_token, Cond.instanceMethod yX2_token, Cond.selects RX2 yX2_token yX2_token, Cond.code yX2_token cX2_token 1 (some .int), Cond.methodLink RX2 102 yX2_refuse, Cond.instanceMethod yX2_refuse, Cond.selects RX2 yX2_refuse yX2_refuse, Cond.code yX2_refuse cX2_refuse 3 (some .boolean), Cond.methodLink RX2 105 yX2_readChain, Cond.instanceMethod yX2_readChain, Cond.selects RX2 yX2_readChain yX2_readChain, Cond.code yX2_readChain cX2_readChain 2 (some .boolean), Cond.fieldLink RX2 125 "SnowMules$Law" "chain" "I", Cond.methodLink RX2 109 yX1_beginClause, Cond.instanceMethod yX1_beginClause, Cond.selects RX1 yX1_beginClause yX1_beginClause, Cond.code yX1_beginClause cX1_beginClause 2 none, Cond.fieldLink RX1 9 "SnowMules$Law" "sorts" "[I"]
def wsX2_read_r6 : List Cond := [Cond.fieldLink RX1 13 "SnowMules$Law" "sumStarts" "[I", Cond.methodLink RX2 113 yX2_readSum, Cond.instanceMethod yX2_readSum, Cond.selects RX2 yX2_readSum yX2_readSum, Cond.code yX2_readSum cX2_readSum 3 (some .boolean), Cond.methodLink RX2 128 yX2_readValue, Cond.instanceMethod yX2_readValue, Cond.selects RX2 yX2_readValue yX2_readValue, Cond.code yX2_readValue cX2_readValue 4 (some .boolean), Cond.methodLink RX2 135 yX1_addValue, Cond.instanceMethod yX1_addValue, Cond.selects RX1 yX1_addValue yX1_addValue, Cond.code yX1_addValue cX1_addValue 3 none, Cond.fieldLink RX1 25 "SnowMules$Law" "joins" "[I", Cond.fieldLink RX1 28 "SnowMules$Law" "operands" "[I", Cond.methodLink RX2 131 yX2_joinOf, Cond.static yX2_joinOf, Cond.code yX2_joinOf cX2_joinOf 1 (some .int), Cond.methodLink RX2 116 yX1_endSum, Cond.instanceMethod yX1_endSum, Cond.selects RX1 yX1_endSum yX1_endSum, Cond.code yX1_endSum cX1_endSum 2 none, Cond.fieldLink RX1 16 "SnowMules$Law" "sumStops" "[I", Cond.fieldLink RX1 19 "SnowMules$Law" "testStarts" "[I"]
def wsX2_read_r7 : List Cond := [Cond.fieldLink RX1 22 "SnowMules$Law" "testStops" "[I", Cond.methodLink RX2 119 yX2_readTest, Cond.instanceMethod yX2_readTest, Cond.selects RX2 yX2_readTest yX2_readTest, Cond.code yX2_readTest cX2_readTest 3 (some .boolean), Cond.methodLink RX2 138 yX2_readPart, Cond.instanceMethod yX2_readPart, Cond.selects RX2 yX2_readPart yX2_readPart, Cond.methodLink RX2 141 yX1_addStep, Cond.instanceMethod yX1_addStep, Cond.selects RX1 yX1_addStep yX1_addStep, Cond.code yX1_addStep cX1_addStep 2 none, Cond.fieldLink RX1 43 "SnowMules$Law" "tests" "[I", Cond.code yX2_readFact cX2_readFact 4 (some .boolean), Cond.methodLink RX2 147 yX2_readComparison, Cond.instanceMethod yX2_readComparison, Cond.selects RX2 yX2_readComparison yX2_readComparison, Cond.code yX2_readComparison cX2_readComparison 4 (some .boolean), Cond.methodLink RX2 153 yX2_signOf, Cond.static yX2_signOf, Cond.code yX2_signOf cX2_signOf 1 (some .int), Cond.methodLink RX2 156 yX1_addFact, Cond.instanceMethod yX1_addFact, Cond.selects RX1 yX1_addFact yX1_addFact]
def wsX2_read_r8 : List Cond := [Cond.code yX1_addFact cX1_addFact 4 none, Cond.fieldLink RX1 31 "SnowMules$Law" "factStarts" "[I", Cond.fieldLink RX1 34 "SnowMules$Law" "factMiddles" "[I", Cond.fieldLink RX1 37 "SnowMules$Law" "factStops" "[I", Cond.fieldLink RX1 40 "SnowMules$Law" "signs" "[I", Cond.methodLink RX1 62 yX1_addStep, Cond.methodLink RX2 62 yX2_take, Cond.instanceMethod yX2_take, Cond.selects RX2 yX2_take yX2_take, Cond.code yX2_take cX2_take 2 (some .boolean), Cond.methodLink RX2 144 yX2_readFact, Cond.instanceMethod yX2_readFact, Cond.selects RX2 yX2_readFact yX2_readFact, Cond.code yX2_readPart cX2_readPart 3 (some .boolean), Cond.methodLink RX2 122 yX1_endTest, Cond.instanceMethod yX1_endTest, Cond.selects RX1 yX1_endTest yX1_endTest, Cond.code yX1_endTest cX1_endTest 2 none]
def wsX2_read : List Cond := .code yX2_read cX2_read 5 (some .int) :: ((wsX2_read_r1 ++ (wsX2_read_r2 ++ (wsX2_read_r3 ++ (wsX2_read_r4 ++ (wsX2_read_r5 ++ (wsX2_read_r6 ++ (wsX2_read_r7 ++ wsX2_read_r8))))))) ++ wsX20 ++ wsX10)
def wsX3_init : List Cond := .code yX3_init cX3_init 2 none :: ([.methodLink RX3 3 objectInit, .instanceMethod objectInit, .code objectInit ⟨#[0xb1]⟩ 1 none, .arrayClass .int, .fieldLink RX3 9 "SnowMules$Market" "offers" "[I", .fieldLink RX3 15 "SnowMules$Market" "chosen" "[I", .fieldLink RX3 18 "SnowMules$Market" "world" "LSnowMules$World;"] ++ wsX30)
def wsX5_init : List Cond := .code yX5_init cX5_init 3 none :: ([.methodLink RX5 3 objectInit, .instanceMethod objectInit, .code objectInit ⟨#[0xb1]⟩ 1 none, .arrayClass .int, .fieldLink RX5 9 "SnowMules$Search" "far" "[I", .fieldLink RX5 15 "SnowMules$Search" "row" "[I", .fieldLink RX5 18 "SnowMules$Search" "bestRow" "[I", .fieldLink RX5 21 "SnowMules$Search" "world" "LSnowMules$World;", .fieldLink RX5 25 "SnowMules$Search" "trip" "LSnowMules$Trip;"] ++ wsX50)
def wsX9_nodeOf : List Cond := .code yX9_nodeOf cX9_nodeOf 3 (some .int) :: ([.fieldLink RX9 23 "SnowMules$World" "jars" "LSnowMules$Table;", .methodLink RX9 56 yX6_has, .instanceMethod yX6_has, .selects RX6 yX6_has yX6_has, .initialized RX6, .code yX6_has cX6_has 2 (some .boolean), .fieldLink RX6 25 "SnowMules$Table" "size" "I", .methodLink RX9 52 yX6_get, .instanceMethod yX6_get, .selects RX6 yX6_get yX6_get, .code yX6_get cX6_get 4 (some .int), .fieldLink RX6 9 "SnowMules$Table" "width" "I", .fieldLink RX6 21 "SnowMules$Table" "cells" "[I"] ++ wsX90 ++ wsX60)
def wsX6_init : List Cond := .code yX6_init cX6_init 3 none :: ([.methodLink RX6 3 objectInit, .instanceMethod objectInit, .code objectInit ⟨#[0xb1]⟩ 1 none, .fieldLink RX6 9 "SnowMules$Table" "width" "I", .methodLink RX6 15 Lib.Math.max.name, .static Lib.Math.max.name, .initialized "java/lang/Math", .code Lib.Math.max.name Lib.Math.max.code 2 (some .int), .arrayClass .int, .fieldLink RX6 21 "SnowMules$Table" "cells" "[I"] ++ wsX60)
def wsX6_grow : List Cond := .code yX6_grow cX6_grow 1 (some .int) :: ([.fieldLink RX6 25 "SnowMules$Table" "size" "I", .fieldLink RX6 9 "SnowMules$Table" "width" "I", .fieldLink RX6 21 "SnowMules$Table" "cells" "[I"] ++ wsX60)
def wsX6_copyFrom : List Cond := .code yX6_copyFrom cX6_copyFrom 2 none :: ([.fieldLink RX6 21 "SnowMules$Table" "cells" "[I", .methodLink RX6 28 arraycopyName, .native arraycopyName, .static arraycopyName, .initialized "java/lang/System", .fieldLink RX6 25 "SnowMules$Table" "size" "I"] ++ wsX60)
def wsX7_init_r1 : List Cond := [Cond.methodLink RX7 3 objectInit, Cond.instanceMethod objectInit, Cond.code objectInit ⟨#[0xb1]⟩ 1 none, Cond.classLink RX7 9 RX1, Cond.instantiable RX1 17, Cond.initialized RX1, Cond.fieldLink RX7 12 "SnowMules$Trip" "law" "LSnowMules$Law;", Cond.classLink RX7 18 RX4, Cond.instantiable RX4 4, Cond.initialized RX4, Cond.fieldLink RX7 21 "SnowMules$Trip" "scene" "LSnowMules$Scene;", Cond.fieldLink RX7 25 "SnowMules$Trip" "world" "LSnowMules$World;", Cond.instanceMethod yX1_init, Cond.code yX1_init cX1_init 1 none, Cond.methodLink RX1 1 objectInit, Cond.arrayClass .int, Cond.fieldLink RX1 9 "SnowMules$Law" "sorts" "[I", Cond.fieldLink RX1 13 "SnowMules$Law" "sumStarts" "[I", Cond.fieldLink RX1 16 "SnowMules$Law" "sumStops" "[I", Cond.fieldLink RX1 19 "SnowMules$Law" "testStarts" "[I", Cond.fieldLink RX1 22 "SnowMules$Law" "testStops" "[I", Cond.fieldLink RX1 25 "SnowMules$Law" "joins" "[I", Cond.fieldLink RX1 28 "SnowMules$Law" "operands" "[I", Cond.fieldLink RX1 31 "SnowMules$Law" "factStarts" "[I"]
def wsX7_init_r2 : List Cond := [Cond.fieldLink RX1 34 "SnowMules$Law" "factMiddles" "[I", Cond.fieldLink RX1 37 "SnowMules$Law" "factStops" "[I", Cond.fieldLink RX1 40 "SnowMules$Law" "signs" "[I", Cond.fieldLink RX1 43 "SnowMules$Law" "tests" "[I", Cond.instanceMethod yX4_init, Cond.code yX4_init cX4_init 1 none, Cond.methodLink RX4 3 objectInit, Cond.fieldLink RX4 11 "SnowMules$Scene" "words" "[I"]
def wsX7_init : List Cond := .code yX7_init cX7_init 2 none :: ((wsX7_init_r1 ++ wsX7_init_r2) ++ wsX10 ++ wsX70 ++ wsX40)
def wsX8_init : List Cond := .code yX8_init cX8_init 3 none :: ([.methodLink RX8 3 objectInit, .instanceMethod objectInit, .code objectInit ⟨#[0xb1]⟩ 1 none, .arrayClass .int, .fieldLink RX8 9 "SnowMules$Waits" "waited" "[I", .fieldLink RX8 15 "SnowMules$Waits" "fewest" "[I", .fieldLink RX8 18 "SnowMules$Waits" "most" "[I", .fieldLink RX8 21 "SnowMules$Waits" "world" "LSnowMules$World;", .fieldLink RX8 25 "SnowMules$Waits" "trip" "LSnowMules$Trip;"] ++ wsX80)
def wsX9_init : List Cond := .code yX9_init cX9_init 1 none :: ([.methodLink RX9 3 objectInit, .instanceMethod objectInit, .code objectInit ⟨#[0xb1]⟩ 1 none, .classLink RX9 9 RX6, .instantiable RX6 3, .initialized RX6, .fieldLink RX9 14 "SnowMules$World" "nodes" "LSnowMules$Table;", .fieldLink RX9 20 "SnowMules$World" "passes" "LSnowMules$Table;", .fieldLink RX9 23 "SnowMules$World" "jars" "LSnowMules$Table;", .fieldLink RX9 26 "SnowMules$World" "orders" "LSnowMules$Table;", .fieldLink RX9 29 "SnowMules$World" "feasts" "LSnowMules$Table;", .fieldLink RX9 32 "SnowMules$World" "way" "LSnowMules$Table;", .fieldLink RX9 35 "SnowMules$World" "wayStart" "I", .methodLink RX9 11 yX6_init, .instanceMethod yX6_init, .code yX6_init cX6_init 3 none, .methodLink RX6 3 objectInit, .fieldLink RX6 9 "SnowMules$Table" "width" "I", .methodLink RX6 15 Lib.Math.max.name, .static Lib.Math.max.name, .initialized "java/lang/Math", .code Lib.Math.max.name Lib.Math.max.code 2 (some .int), .arrayClass .int, .fieldLink RX6 21 "SnowMules$Table" "cells" "[I"] ++ wsX60 ++ wsX90)
def wsX9_copyFrom : List Cond := .code yX9_copyFrom cX9_copyFrom 2 none :: ([.fieldLink RX9 14 "SnowMules$World" "nodes" "LSnowMules$Table;", .fieldLink RX9 20 "SnowMules$World" "passes" "LSnowMules$Table;", .fieldLink RX9 23 "SnowMules$World" "jars" "LSnowMules$Table;", .fieldLink RX9 26 "SnowMules$World" "orders" "LSnowMules$Table;", .fieldLink RX9 29 "SnowMules$World" "feasts" "LSnowMules$Table;", .fieldLink RX9 32 "SnowMules$World" "way" "LSnowMules$Table;", .fieldLink RX9 35 "SnowMules$World" "wayStart" "I", .fieldLink RX9 43 "SnowMules$World" "now" "I", .fieldLink RX9 46 "SnowMules$World" "firstMonth" "I", .fieldLink RX9 49 "SnowMules$World" "x" "I", .methodLink RX9 39 yX6_copyFrom, .instanceMethod yX6_copyFrom, .selects RX6 yX6_copyFrom yX6_copyFrom, .initialized RX6, .code yX6_copyFrom cX6_copyFrom 2 none, .fieldLink RX6 21 "SnowMules$Table" "cells" "[I", .methodLink RX6 28 arraycopyName, .native arraycopyName, .static arraycopyName, .initialized "java/lang/System", .fieldLink RX6 25 "SnowMules$Table" "size" "I"] ++ wsX90 ++ wsX60)
def wsX10_init_r1 : List Cond := [Cond.methodLink RX10 1 objectInit, Cond.instanceMethod objectInit, Cond.code objectInit ⟨#[0xb1]⟩ 1 none, Cond.classLink RX10 7 RX9, Cond.instantiable RX9 10, Cond.initialized RX9, Cond.fieldLink RX10 10 "SnowMules" "world" "LSnowMules$World;", Cond.fieldLink RX10 16 "SnowMules" "later" "LSnowMules$World;", Cond.fieldLink RX10 19 "SnowMules" "images" "[LSnowMules$World;", Cond.arrayClass .int, Cond.fieldLink RX10 23 "SnowMules" "tape" "[I", Cond.classLink RX10 27 RX1, Cond.fieldLink RX10 29 "SnowMules" "laws" "[LSnowMules$Law;", Cond.classLink RX10 33 RX2, Cond.instantiable RX2 8, Cond.initialized RX2, Cond.fieldLink RX10 36 "SnowMules" "reader" "LSnowMules$LawReader;", Cond.classLink RX10 40 RX0, Cond.instantiable RX0 1, Cond.initialized RX0, Cond.fieldLink RX10 43 "SnowMules" "hours" "LSnowMules$Hours;", Cond.classLink RX10 47 RX7, Cond.instantiable RX7 9, Cond.initialized RX7]
def wsX10_init_r2 : List Cond := [Cond.fieldLink RX10 52 "SnowMules" "trip" "LSnowMules$Trip;", Cond.classLink RX10 56 RX5, Cond.instantiable RX5 13, Cond.initialized RX5, Cond.fieldLink RX10 61 "SnowMules" "search" "LSnowMules$Search;", Cond.classLink RX10 65 RX8, Cond.instantiable RX8 7, Cond.initialized RX8, Cond.fieldLink RX10 68 "SnowMules" "waits" "LSnowMules$Waits;", Cond.classLink RX10 72 RX3, Cond.instantiable RX3 4, Cond.initialized RX3, Cond.fieldLink RX10 75 "SnowMules" "market" "LSnowMules$Market;", Cond.instanceMethod yX9_init, Cond.code yX9_init cX9_init 1 none, Cond.methodLink RX9 3 objectInit, Cond.classLink RX9 9 RX6, Cond.instantiable RX6 3, Cond.initialized RX6, Cond.fieldLink RX9 14 "SnowMules$World" "nodes" "LSnowMules$Table;", Cond.fieldLink RX9 20 "SnowMules$World" "passes" "LSnowMules$Table;", Cond.fieldLink RX9 23 "SnowMules$World" "jars" "LSnowMules$Table;", Cond.fieldLink RX9 26 "SnowMules$World" "orders" "LSnowMules$Table;", Cond.fieldLink RX9 29 "SnowMules$World" "feasts" "LSnowMules$Table;"]
def wsX10_init_r3 : List Cond := [Cond.fieldLink RX9 32 "SnowMules$World" "way" "LSnowMules$Table;", Cond.fieldLink RX9 35 "SnowMules$World" "wayStart" "I", Cond.methodLink RX9 11 yX6_init, Cond.instanceMethod yX6_init, Cond.code yX6_init cX6_init 3 none, Cond.methodLink RX6 3 objectInit, Cond.fieldLink RX6 9 "SnowMules$Table" "width" "I", Cond.methodLink RX6 15 Lib.Math.max.name, Cond.static Lib.Math.max.name, Cond.initialized "java/lang/Math", Cond.code Lib.Math.max.name Lib.Math.max.code 2 (some .int), Cond.fieldLink RX6 21 "SnowMules$Table" "cells" "[I", Cond.instanceMethod yX2_init, Cond.code yX2_init cX2_init 1 none, Cond.methodLink RX2 7 objectInit, Cond.fieldLink RX2 13 "SnowMules$LawReader" "tokens" "[I", Cond.fieldLink RX2 17 "SnowMules$LawReader" "places" "[I", Cond.classLink RX2 20 RX1, Cond.instantiable RX1 17, Cond.initialized RX1, Cond.fieldLink RX2 23 "SnowMules$LawReader" "law" "LSnowMules$Law;", Cond.instanceMethod yX1_init, Cond.code yX1_init cX1_init 1 none, Cond.methodLink RX1 1 objectInit]
def wsX10_init_r4 : List Cond := [Cond.fieldLink RX1 9 "SnowMules$Law" "sorts" "[I", Cond.fieldLink RX1 13 "SnowMules$Law" "sumStarts" "[I", Cond.fieldLink RX1 16 "SnowMules$Law" "sumStops" "[I", Cond.fieldLink RX1 19 "SnowMules$Law" "testStarts" "[I", Cond.fieldLink RX1 22 "SnowMules$Law" "testStops" "[I", Cond.fieldLink RX1 25 "SnowMules$Law" "joins" "[I", Cond.fieldLink RX1 28 "SnowMules$Law" "operands" "[I", Cond.fieldLink RX1 31 "SnowMules$Law" "factStarts" "[I", Cond.fieldLink RX1 34 "SnowMules$Law" "factMiddles" "[I", Cond.fieldLink RX1 37 "SnowMules$Law" "factStops" "[I", Cond.fieldLink RX1 40 "SnowMules$Law" "signs" "[I", Cond.fieldLink RX1 43 "SnowMules$Law" "tests" "[I", Cond.instanceMethod yX0_init, Cond.code yX0_init cX0_init 1 none, Cond.methodLink RX0 3 objectInit, Cond.classLink RX0 9 RX4, Cond.instantiable RX4 4, Cond.initialized RX4, Cond.fieldLink RX0 12 "SnowMules$Hours" "scene" "LSnowMules$Scene;", Cond.instanceMethod yX4_init, Cond.code yX4_init cX4_init 1 none, Cond.methodLink RX4 3 objectInit, Cond.fieldLink RX4 11 "SnowMules$Scene" "words" "[I", Cond.methodLink RX10 49 yX7_init]
def wsX10_init_r5 : List Cond := [Cond.instanceMethod yX7_init, Cond.code yX7_init cX7_init 2 none, Cond.methodLink RX7 3 objectInit, Cond.classLink RX7 9 RX1, Cond.fieldLink RX7 12 "SnowMules$Trip" "law" "LSnowMules$Law;", Cond.classLink RX7 18 RX4, Cond.fieldLink RX7 21 "SnowMules$Trip" "scene" "LSnowMules$Scene;", Cond.fieldLink RX7 25 "SnowMules$Trip" "world" "LSnowMules$World;", Cond.methodLink RX10 58 yX5_init, Cond.instanceMethod yX5_init, Cond.code yX5_init cX5_init 3 none, Cond.methodLink RX5 3 objectInit, Cond.fieldLink RX5 9 "SnowMules$Search" "far" "[I", Cond.fieldLink RX5 15 "SnowMules$Search" "row" "[I", Cond.fieldLink RX5 18 "SnowMules$Search" "bestRow" "[I", Cond.fieldLink RX5 21 "SnowMules$Search" "world" "LSnowMules$World;", Cond.fieldLink RX5 25 "SnowMules$Search" "trip" "LSnowMules$Trip;", Cond.methodLink RX10 67 yX8_init, Cond.instanceMethod yX8_init, Cond.code yX8_init cX8_init 3 none, Cond.methodLink RX8 3 objectInit, Cond.fieldLink RX8 9 "SnowMules$Waits" "waited" "[I", Cond.fieldLink RX8 15 "SnowMules$Waits" "fewest" "[I", Cond.fieldLink RX8 18 "SnowMules$Waits" "most" "[I"]
def wsX10_init_r6 : List Cond := [Cond.fieldLink RX8 21 "SnowMules$Waits" "world" "LSnowMules$World;", Cond.fieldLink RX8 25 "SnowMules$Waits" "trip" "LSnowMules$Trip;", Cond.methodLink RX10 74 yX3_init, Cond.instanceMethod yX3_init, Cond.code yX3_init cX3_init 2 none, Cond.methodLink RX3 3 objectInit, Cond.fieldLink RX3 9 "SnowMules$Market" "offers" "[I", Cond.fieldLink RX3 15 "SnowMules$Market" "chosen" "[I", Cond.fieldLink RX3 18 "SnowMules$Market" "world" "LSnowMules$World;"]
def wsX10_init : List Cond := .code yX10_init cX10_init 1 none :: ((wsX10_init_r1 ++ (wsX10_init_r2 ++ (wsX10_init_r3 ++ (wsX10_init_r4 ++ (wsX10_init_r5 ++ wsX10_init_r6))))) ++ wsX90 ++ wsX100 ++ wsX20 ++ wsX00 ++ wsX70 ++ wsX50 ++ wsX80 ++ wsX30 ++ wsX60 ++ wsX10 ++ wsX40)
def wsX10_within : List Cond := .code yX10_within cX10_within 2 (some .boolean) :: ([])
def wsX10_node : List Cond := .code yX10_node cX10_node 6 (some .int) :: ([.fieldLink RX10 10 "SnowMules" "world" "LSnowMules$World;", .fieldLink RX10 83 "SnowMules$World" "nodes" "LSnowMules$Table;", .methodLink RX10 79 yX10_within, .static yX10_within, .initialized RX10, .code yX10_within cX10_within 2 (some .boolean), .methodLink RX10 87 yX6_grow, .instanceMethod yX6_grow, .selects RX6 yX6_grow yX6_grow, .initialized RX6, .code yX6_grow cX6_grow 1 (some .int), .fieldLink RX6 25 "SnowMules$Table" "size" "I", .fieldLink RX6 9 "SnowMules$Table" "width" "I", .fieldLink RX6 21 "SnowMules$Table" "cells" "[I", .methodLink RX10 93 yX6_put, .instanceMethod yX6_put, .selects RX6 yX6_put yX6_put, .code yX6_put cX6_put 5 none] ++ wsX100 ++ wsX90 ++ wsX60)
def wsX10_pass : List Cond := .code yX10_pass cX10_pass 9 (some .int) :: ([.fieldLink RX10 10 "SnowMules" "world" "LSnowMules$World;", .fieldLink RX10 83 "SnowMules$World" "nodes" "LSnowMules$Table;", .fieldLink RX10 101 "SnowMules$World" "passes" "LSnowMules$Table;", .methodLink RX10 97 yX6_has, .instanceMethod yX6_has, .selects RX6 yX6_has yX6_has, .initialized RX6, .code yX6_has cX6_has 2 (some .boolean), .fieldLink RX6 25 "SnowMules$Table" "size" "I", .methodLink RX10 79 yX10_within, .static yX10_within, .initialized RX10, .code yX10_within cX10_within 2 (some .boolean), .methodLink RX10 87 yX6_grow, .instanceMethod yX6_grow, .selects RX6 yX6_grow yX6_grow, .code yX6_grow cX6_grow 1 (some .int), .fieldLink RX6 9 "SnowMules$Table" "width" "I", .fieldLink RX6 21 "SnowMules$Table" "cells" "[I", .methodLink RX10 93 yX6_put, .instanceMethod yX6_put, .selects RX6 yX6_put yX6_put, .code yX6_put cX6_put 5 none] ++ wsX100 ++ wsX90 ++ wsX60)
def wsX10_isCover : List Cond := .code yX10_isCover cX10_isCover 2 (some .boolean) :: ([.methodLink RX10 79 yX10_within, .static yX10_within, .initialized RX10, .code yX10_within cX10_within 2 (some .boolean)])
def wsX10_jar_r1 : List Cond := [Cond.fieldLink RX10 10 "SnowMules" "world" "LSnowMules$World;", Cond.fieldLink RX10 83 "SnowMules$World" "nodes" "LSnowMules$Table;", Cond.fieldLink RX10 107 "SnowMules$World" "jars" "LSnowMules$Table;", Cond.methodLink RX10 104 yX10_isCover, Cond.static yX10_isCover, Cond.initialized RX10, Cond.code yX10_isCover cX10_isCover 2 (some .boolean), Cond.methodLink RX10 79 yX10_within, Cond.static yX10_within, Cond.code yX10_within cX10_within 2 (some .boolean), Cond.methodLink RX10 97 yX6_has, Cond.instanceMethod yX6_has, Cond.selects RX6 yX6_has yX6_has, Cond.initialized RX6, Cond.code yX6_has cX6_has 2 (some .boolean), Cond.fieldLink RX6 25 "SnowMules$Table" "size" "I", Cond.methodLink RX10 87 yX6_grow, Cond.instanceMethod yX6_grow, Cond.selects RX6 yX6_grow yX6_grow, Cond.code yX6_grow cX6_grow 1 (some .int), Cond.fieldLink RX6 9 "SnowMules$Table" "width" "I", Cond.fieldLink RX6 21 "SnowMules$Table" "cells" "[I", Cond.methodLink RX10 93 yX6_put, Cond.instanceMethod yX6_put]
def wsX10_jar_r2 : List Cond := [Cond.selects RX6 yX6_put yX6_put, Cond.code yX6_put cX6_put 5 none, Cond.methodLink RX10 110 yX9_standAt, Cond.instanceMethod yX9_standAt, Cond.selects RX9 yX9_standAt yX9_standAt, Cond.initialized RX9, Cond.code yX9_standAt cX9_standAt 3 none, Cond.fieldLink RX9 23 "SnowMules$World" "jars" "LSnowMules$Table;", Cond.methodLink RX9 66 yX6_put]
def wsX10_jar : List Cond := .code yX10_jar cX10_jar 8 (some .int) :: ((wsX10_jar_r1 ++ wsX10_jar_r2) ++ wsX100 ++ wsX90 ++ wsX60)
def wsX10_month : List Cond := .code yX10_month cX10_month 3 (some .int) :: ([.fieldLink RX10 10 "SnowMules" "world" "LSnowMules$World;", .fieldLink RX10 114 "SnowMules$World" "firstMonth" "I", .methodLink RX10 79 yX10_within, .static yX10_within, .initialized RX10, .code yX10_within cX10_within 2 (some .boolean)] ++ wsX100 ++ wsX90)
def wsX10_seed : List Cond := .code yX10_seed cX10_seed 3 (some .int) :: ([.fieldLink RX10 10 "SnowMules" "world" "LSnowMules$World;", .fieldLink RX10 118 "SnowMules$World" "x" "I"] ++ wsX100 ++ wsX90)
def wsX10_writeBytes : List Cond := .code yX10_writeBytes cX10_writeBytes 3 none :: ([.fieldLink RX10 121 "SnowMules" "tapeLength" "I", .fieldLink RX10 23 "SnowMules" "tape" "[I"] ++ wsX100)
def wsX10_feed : List Cond := .code yX10_feed cX10_feed 6 (some .int) :: ([.fieldLink RX10 121 "SnowMules" "tapeLength" "I", .methodLink RX10 124 yX10_writeBytes, .instanceMethod yX10_writeBytes, .selects RX10 yX10_writeBytes yX10_writeBytes, .initialized RX10, .code yX10_writeBytes cX10_writeBytes 3 none, .fieldLink RX10 23 "SnowMules" "tape" "[I"] ++ wsX100)
def wsX10_end : List Cond := .code yX10_end cX10_end 2 (some .int) :: ([.fieldLink RX10 121 "SnowMules" "tapeLength" "I", .methodLink RX10 79 yX10_within, .static yX10_within, .initialized RX10, .code yX10_within cX10_within 2 (some .boolean)] ++ wsX100)
def wsX10_law_r1 : List Cond := [Cond.fieldLink RX10 128 "SnowMules" "lawCount" "I", Cond.fieldLink RX10 29 "SnowMules" "laws" "[LSnowMules$Law;", Cond.classLink RX10 27 RX1, Cond.instantiable RX1 17, Cond.initialized RX1, Cond.fieldLink RX10 36 "SnowMules" "reader" "LSnowMules$LawReader;", Cond.fieldLink RX10 23 "SnowMules" "tape" "[I", Cond.fieldLink RX10 121 "SnowMules" "tapeLength" "I", Cond.instanceMethod yX1_init, Cond.code yX1_init cX1_init 1 none, Cond.methodLink RX1 1 objectInit, Cond.instanceMethod objectInit, Cond.code objectInit ⟨#[0xb1]⟩ 1 none, Cond.arrayClass .int, Cond.fieldLink RX1 9 "SnowMules$Law" "sorts" "[I", Cond.fieldLink RX1 13 "SnowMules$Law" "sumStarts" "[I", Cond.fieldLink RX1 16 "SnowMules$Law" "sumStops" "[I", Cond.fieldLink RX1 19 "SnowMules$Law" "testStarts" "[I", Cond.fieldLink RX1 22 "SnowMules$Law" "testStops" "[I", Cond.fieldLink RX1 25 "SnowMules$Law" "joins" "[I", Cond.fieldLink RX1 28 "SnowMules$Law" "operands" "[I", Cond.fieldLink RX1 31 "SnowMules$Law" "factStarts" "[I", Cond.fieldLink RX1 34 "SnowMules$Law" "factMiddles" "[I", Cond.fieldLink RX1 37 "SnowMules$Law" "factStops" "[I"]
def wsX10_law_r2 : List Cond := [Cond.fieldLink RX1 40 "SnowMules$Law" "signs" "[I", Cond.fieldLink RX1 43 "SnowMules$Law" "tests" "[I", Cond.methodLink RX10 132 yX2_read, Cond.instanceMethod yX2_read, Cond.selects RX2 yX2_read yX2_read, Cond.initialized RX2, Cond.code yX2_read cX2_read 5 (some .int), Cond.methodLink RX2 27 Lib.Math.min.name, Cond.static Lib.Math.min.name, Cond.initialized "java/lang/Math", Cond.code Lib.Math.min.name Lib.Math.min.code 2 (some .int), Cond.fieldLink RX2 37 "SnowMules$LawReader" "next" "I", Cond.fieldLink RX2 41 "SnowMules$LawReader" "fault" "I", Cond.fieldLink RX2 44 "SnowMules$LawReader" "parts" "I", Cond.fieldLink RX2 47 "SnowMules$LawReader" "chained" "Z", Cond.fieldLink RX2 23 "SnowMules$LawReader" "law" "LSnowMules$Law;", Cond.methodLink RX2 33 yX2_cut, Cond.instanceMethod yX2_cut, Cond.selects RX2 yX2_cut yX2_cut, Cond.code yX2_cut cX2_cut 5 none, Cond.fieldLink RX2 65 "SnowMules$LawReader" "tokenCount" "I", Cond.methodLink RX2 68 yX2_stopOf, Cond.static yX2_stopOf, Cond.code yX2_stopOf cX2_stopOf 5 (some .int)]
def wsX10_law_r3 : List Cond := [Cond.methodLink RX2 79 yX2_isLetter, Cond.static yX2_isLetter, Cond.code yX2_isLetter cX2_isLetter 1 (some .boolean), Cond.methodLink RX2 82 yX2_isDigit, Cond.static yX2_isDigit, Cond.code yX2_isDigit cX2_isDigit 1 (some .boolean), Cond.methodLink RX2 72 yX2_tokenOf, Cond.static yX2_tokenOf, Cond.code yX2_tokenOf cX2_tokenOf 4 (some .int), Cond.methodLink RX2 85 yX2_wordToken, Cond.static yX2_wordToken, Cond.code yX2_wordToken cX2_wordToken 8 (some .int), Cond.methodLink RX2 93 yJ0_length_8abf5, Cond.instanceMethod yJ0_length_8abf5, Cond.selects RJ0 yJ0_length_8abf5 yJ0_length_8abf5, Cond.initialized RJ0, Cond.code yJ0_length_8abf5 cJ0_length_8abf5 1 (some .int), Cond.fieldLink RJ0 9 "java/lang/String" "value" "[B", Cond.methodLink RJ0 335 yJ0_coder_7d493, Cond.instanceMethod yJ0_coder_7d493, Cond.selects RJ0 yJ0_coder_7d493 yJ0_coder_7d493, Cond.code yJ0_coder_7d493 cJ0_coder_7d493 1 (some .byte), Cond.fieldLink RJ0 38 "java/lang/String" "COMPACT_STRINGS" "Z", Cond.fieldLink RJ0 15 "java/lang/String" "coder" "B"]
def wsX10_law_r4 : List Cond := [Cond.methodLink RX2 98 yJ0_charAt_5068e, Cond.instanceMethod yJ0_charAt_5068e, Cond.selects RJ0 yJ0_charAt_5068e yJ0_charAt_5068e, Cond.code yJ0_charAt_5068e cJ0_charAt_5068e 2 (some .char), Cond.methodLink RJ0 492 yJ0_isLatin1_aae02, Cond.instanceMethod yJ0_isLatin1_aae02, Cond.selects RJ0 yJ0_isLatin1_aae02 yJ0_isLatin1_aae02, Cond.code yJ0_isLatin1_aae02 cJ0_isLatin1_aae02 1 (some .boolean), Cond.methodLink RJ0 495 yJ1_charAt_3b067, Cond.static yJ1_charAt_3b067, Cond.initialized RJ1, Cond.code yJ1_charAt_3b067 cJ1_charAt_3b067 2 (some .char), Cond.methodLink RJ1 9 yJ0_checkIndex_df160, Cond.static yJ0_checkIndex_df160, Cond.code yJ0_checkIndex_df160 cJ0_checkIndex_df160 2 none, Cond.fieldLink RJ0 1053 "jdk/internal/util/Preconditions" "SIOOBE_FORMATTER" "Ljava/util/function/BiFunction;", Cond.methodLink RJ0 1059 yJ3_checkIndex_8e157, Cond.static yJ3_checkIndex_8e157, Cond.initialized RJ3, Cond.code yJ3_checkIndex_8e157 cJ3_checkIndex_8e157 3 (some .int), Cond.methodLink RJ0 498 yJ2_charAt_3b067, Cond.static yJ2_charAt_3b067, Cond.initialized RJ2, Cond.code yJ2_charAt_3b067 cJ2_charAt_3b067 2 (some .char)]
def wsX10_law_r5 : List Cond := [Cond.methodLink RJ2 67 yJ2_checkIndex_2214a, Cond.static yJ2_checkIndex_2214a, Cond.code yJ2_checkIndex_2214a cJ2_checkIndex_2214a 2 none, Cond.methodLink RJ2 48 yJ2_length_9d52b, Cond.static yJ2_length_9d52b, Cond.code yJ2_length_9d52b cJ2_length_9d52b 1 (some .int), Cond.methodLink RJ2 414 yJ0_checkIndex_df160, Cond.methodLink RJ2 71 yJ2_getChar_3b067, Cond.static yJ2_getChar_3b067, Cond.code yJ2_getChar_3b067 cJ2_getChar_3b067 2 (some .char), Cond.fieldLink RJ2 44 "java/lang/StringUTF16" "$assertionsDisabled" "Z", Cond.fieldLink RJ2 59 "java/lang/StringUTF16" "HI_BYTE_SHIFT" "I", Cond.fieldLink RJ2 63 "java/lang/StringUTF16" "LO_BYTE_SHIFT" "I", Cond.methodLink RX2 88 yX2_numberToken, Cond.static yX2_numberToken, Cond.code yX2_numberToken cX2_numberToken 5 (some .int), Cond.methodLink RX2 75 yX2_addToken, Cond.instanceMethod yX2_addToken, Cond.selects RX2 yX2_addToken yX2_addToken, Cond.code yX2_addToken cX2_addToken 3 none, Cond.fieldLink RX2 13 "SnowMules$LawReader" "tokens" "[I", Cond.fieldLink RX2 17 "SnowMules$LawReader" "places" "[I", Cond.methodLink RX2 51 yX1_clear, Cond.instanceMethod yX1_clear]
def wsX10_law_r6 : List Cond := [Cond.selects RX1 yX1_clear yX1_clear, Cond.code yX1_clear cX1_clear 1 none, Cond.fieldLink RX1 46 "SnowMules$Law" "chain" "I", Cond.fieldLink RX1 50 "SnowMules$Law" "clauses" "I", Cond.fieldLink RX1 53 "SnowMules$Law" "values" "I", Cond.fieldLink RX1 56 "SnowMules$Law" "facts" "I", Cond.fieldLink RX1 59 "SnowMules$Law" "steps" "I", Cond.methodLink RX2 54 yX2_readClause, Cond.instanceMethod yX2_readClause, Cond.selects RX2 yX2_readClause yX2_readClause, Cond.code yX2_readClause cX2_readClause 3 (some .boolean), Cond.methodLink RX2 58 yX2_token, Cond.instanceMethod yX2_token, Cond.selects RX2 yX2_token yX2_token, Cond.code yX2_token cX2_token 1 (some .int), Cond.methodLink RX2 102 yX2_refuse, Cond.instanceMethod yX2_refuse, Cond.selects RX2 yX2_refuse yX2_refuse, Cond.code yX2_refuse cX2_refuse 3 (some .boolean), Cond.methodLink RX2 105 yX2_readChain, Cond.instanceMethod yX2_readChain, Cond.selects RX2 yX2_readChain yX2_readChain, Cond.code yX2_readChain cX2_readChain 2 (some .boolean), Cond.fieldLink RX2 125 "SnowMules$Law" "chain" "I"]
def wsX10_law_r7 : List Cond := [Cond.methodLink RX2 109 yX1_beginClause, Cond.instanceMethod yX1_beginClause, Cond.selects RX1 yX1_beginClause yX1_beginClause, Cond.code yX1_beginClause cX1_beginClause 2 none, Cond.methodLink RX2 113 yX2_readSum, Cond.instanceMethod yX2_readSum, Cond.selects RX2 yX2_readSum yX2_readSum, Cond.code yX2_readSum cX2_readSum 3 (some .boolean), Cond.methodLink RX2 128 yX2_readValue, Cond.instanceMethod yX2_readValue, Cond.selects RX2 yX2_readValue yX2_readValue, Cond.code yX2_readValue cX2_readValue 4 (some .boolean), Cond.methodLink RX2 135 yX1_addValue, Cond.instanceMethod yX1_addValue, Cond.selects RX1 yX1_addValue yX1_addValue, Cond.code yX1_addValue cX1_addValue 3 none, Cond.methodLink RX2 131 yX2_joinOf, Cond.static yX2_joinOf, Cond.code yX2_joinOf cX2_joinOf 1 (some .int), Cond.methodLink RX2 116 yX1_endSum, Cond.instanceMethod yX1_endSum, Cond.selects RX1 yX1_endSum yX1_endSum, Cond.code yX1_endSum cX1_endSum 2 none, Cond.methodLink RX2 119 yX2_readTest]
def wsX10_law_r8 : List Cond := [Cond.instanceMethod yX2_readTest, Cond.selects RX2 yX2_readTest yX2_readTest, Cond.code yX2_readTest cX2_readTest 3 (some .boolean), Cond.methodLink RX2 138 yX2_readPart, Cond.instanceMethod yX2_readPart, Cond.selects RX2 yX2_readPart yX2_readPart, Cond.methodLink RX2 141 yX1_addStep, Cond.instanceMethod yX1_addStep, Cond.selects RX1 yX1_addStep yX1_addStep, Cond.code yX1_addStep cX1_addStep 2 none, Cond.code yX2_readFact cX2_readFact 4 (some .boolean), Cond.methodLink RX2 147 yX2_readComparison, Cond.instanceMethod yX2_readComparison, Cond.selects RX2 yX2_readComparison yX2_readComparison, Cond.code yX2_readComparison cX2_readComparison 4 (some .boolean), Cond.methodLink RX2 153 yX2_signOf, Cond.static yX2_signOf, Cond.code yX2_signOf cX2_signOf 1 (some .int), Cond.methodLink RX2 156 yX1_addFact, Cond.instanceMethod yX1_addFact, Cond.selects RX1 yX1_addFact yX1_addFact, Cond.code yX1_addFact cX1_addFact 4 none, Cond.methodLink RX1 62 yX1_addStep, Cond.methodLink RX2 62 yX2_take]
def wsX10_law_r9 : List Cond := [Cond.instanceMethod yX2_take, Cond.selects RX2 yX2_take yX2_take, Cond.code yX2_take cX2_take 2 (some .boolean), Cond.methodLink RX2 144 yX2_readFact, Cond.instanceMethod yX2_readFact, Cond.selects RX2 yX2_readFact yX2_readFact, Cond.code yX2_readPart cX2_readPart 3 (some .boolean), Cond.methodLink RX2 122 yX1_endTest, Cond.instanceMethod yX1_endTest, Cond.selects RX1 yX1_endTest yX1_endTest, Cond.code yX1_endTest cX1_endTest 2 none]
def wsX10_law : List Cond := .code yX10_law cX10_law 2 (some .int) :: ((wsX10_law_r1 ++ (wsX10_law_r2 ++ (wsX10_law_r3 ++ (wsX10_law_r4 ++ (wsX10_law_r5 ++ (wsX10_law_r6 ++ (wsX10_law_r7 ++ (wsX10_law_r8 ++ wsX10_law_r9)))))))) ++ wsX100 ++ wsX10 ++ wsX20)
def wsX10_fill_r1 : List Cond := [Cond.fieldLink RX10 10 "SnowMules" "world" "LSnowMules$World;", Cond.constant RX10 140 (99999), Cond.fieldLink RX10 141 "SnowMules$World" "now" "I", Cond.fieldLink RX10 107 "SnowMules$World" "jars" "LSnowMules$Table;", Cond.methodLink RX10 136 yX9_nodeOf, Cond.instanceMethod yX9_nodeOf, Cond.selects RX9 yX9_nodeOf yX9_nodeOf, Cond.initialized RX9, Cond.code yX9_nodeOf cX9_nodeOf 3 (some .int), Cond.fieldLink RX9 23 "SnowMules$World" "jars" "LSnowMules$Table;", Cond.methodLink RX9 56 yX6_has, Cond.instanceMethod yX6_has, Cond.selects RX6 yX6_has yX6_has, Cond.initialized RX6, Cond.code yX6_has cX6_has 2 (some .boolean), Cond.fieldLink RX6 25 "SnowMules$Table" "size" "I", Cond.methodLink RX9 52 yX6_get, Cond.instanceMethod yX6_get, Cond.selects RX6 yX6_get yX6_get, Cond.code yX6_get cX6_get 4 (some .int), Cond.fieldLink RX6 9 "SnowMules$Table" "width" "I", Cond.fieldLink RX6 21 "SnowMules$Table" "cells" "[I", Cond.methodLink RX10 79 yX10_within, Cond.static yX10_within]
def wsX10_fill_r2 : List Cond := [Cond.initialized RX10, Cond.code yX10_within cX10_within 2 (some .boolean), Cond.methodLink RX10 144 yX9_monthAt, Cond.instanceMethod yX9_monthAt, Cond.selects RX9 yX9_monthAt yX9_monthAt, Cond.code yX9_monthAt cX9_monthAt 2 (some .int), Cond.fieldLink RX9 46 "SnowMules$World" "firstMonth" "I", Cond.methodLink RX10 147 yX9_hasSnow, Cond.instanceMethod yX9_hasSnow, Cond.selects RX9 yX9_hasSnow yX9_hasSnow, Cond.code yX9_hasSnow cX9_hasSnow 3 (some .boolean), Cond.fieldLink RX9 14 "SnowMules$World" "nodes" "LSnowMules$Table;", Cond.methodLink RX10 150 yX6_get, Cond.methodLink RX10 93 yX6_put, Cond.instanceMethod yX6_put, Cond.selects RX6 yX6_put yX6_put, Cond.code yX6_put cX6_put 5 none]
def wsX10_fill : List Cond := .code yX10_fill cX10_fill 5 (some .int) :: ((wsX10_fill_r1 ++ wsX10_fill_r2) ++ wsX100 ++ wsX90 ++ wsX60)
def wsX10_pour_r1 : List Cond := [Cond.fieldLink RX10 10 "SnowMules" "world" "LSnowMules$World;", Cond.fieldLink RX10 107 "SnowMules$World" "jars" "LSnowMules$Table;", Cond.methodLink RX10 136 yX9_nodeOf, Cond.instanceMethod yX9_nodeOf, Cond.selects RX9 yX9_nodeOf yX9_nodeOf, Cond.initialized RX9, Cond.code yX9_nodeOf cX9_nodeOf 3 (some .int), Cond.fieldLink RX9 23 "SnowMules$World" "jars" "LSnowMules$Table;", Cond.methodLink RX9 56 yX6_has, Cond.instanceMethod yX6_has, Cond.selects RX6 yX6_has yX6_has, Cond.initialized RX6, Cond.code yX6_has cX6_has 2 (some .boolean), Cond.fieldLink RX6 25 "SnowMules$Table" "size" "I", Cond.methodLink RX9 52 yX6_get, Cond.instanceMethod yX6_get, Cond.selects RX6 yX6_get yX6_get, Cond.code yX6_get cX6_get 4 (some .int), Cond.fieldLink RX6 9 "SnowMules$Table" "width" "I", Cond.fieldLink RX6 21 "SnowMules$Table" "cells" "[I", Cond.methodLink RX10 150 yX6_get, Cond.methodLink RX10 154 yX9_bring, Cond.instanceMethod yX9_bring, Cond.selects RX9 yX9_bring yX9_bring]
def wsX10_pour_r2 : List Cond := [Cond.code yX9_bring cX9_bring 5 (some .int), Cond.fieldLink RX9 14 "SnowMules$World" "nodes" "LSnowMules$Table;", Cond.constant RX9 73 (999999), Cond.methodLink RX9 74 Lib.Math.min.name, Cond.static Lib.Math.min.name, Cond.initialized "java/lang/Math", Cond.code Lib.Math.min.name Lib.Math.min.code 2 (some .int), Cond.methodLink RX9 66 yX6_put, Cond.instanceMethod yX6_put, Cond.selects RX6 yX6_put yX6_put, Cond.code yX6_put cX6_put 5 none, Cond.methodLink RX10 93 yX6_put]
def wsX10_pour : List Cond := .code yX10_pour cX10_pour 4 (some .int) :: ((wsX10_pour_r1 ++ wsX10_pour_r2) ++ wsX100 ++ wsX90 ++ wsX60)
def wsX10_store : List Cond := .code yX10_store cX10_store 4 (some .int) :: ([.fieldLink RX10 10 "SnowMules" "world" "LSnowMules$World;", .fieldLink RX10 83 "SnowMules$World" "nodes" "LSnowMules$Table;", .constant RX10 157 (999999), .methodLink RX10 97 yX6_has, .instanceMethod yX6_has, .selects RX6 yX6_has yX6_has, .initialized RX6, .code yX6_has cX6_has 2 (some .boolean), .fieldLink RX6 25 "SnowMules$Table" "size" "I", .methodLink RX10 79 yX10_within, .static yX10_within, .initialized RX10, .code yX10_within cX10_within 2 (some .boolean), .methodLink RX10 150 yX6_get, .instanceMethod yX6_get, .selects RX6 yX6_get yX6_get, .code yX6_get cX6_get 4 (some .int), .fieldLink RX6 9 "SnowMules$Table" "width" "I", .fieldLink RX6 21 "SnowMules$Table" "cells" "[I", .methodLink RX10 93 yX6_put, .instanceMethod yX6_put, .selects RX6 yX6_put yX6_put, .code yX6_put cX6_put 5 none] ++ wsX100 ++ wsX90 ++ wsX60)
def wsX10_leave_r1 : List Cond := [Cond.fieldLink RX10 10 "SnowMules" "world" "LSnowMules$World;", Cond.fieldLink RX10 107 "SnowMules$World" "jars" "LSnowMules$Table;", Cond.methodLink RX10 136 yX9_nodeOf, Cond.instanceMethod yX9_nodeOf, Cond.selects RX9 yX9_nodeOf yX9_nodeOf, Cond.initialized RX9, Cond.code yX9_nodeOf cX9_nodeOf 3 (some .int), Cond.fieldLink RX9 23 "SnowMules$World" "jars" "LSnowMules$Table;", Cond.methodLink RX9 56 yX6_has, Cond.instanceMethod yX6_has, Cond.selects RX6 yX6_has yX6_has, Cond.initialized RX6, Cond.code yX6_has cX6_has 2 (some .boolean), Cond.fieldLink RX6 25 "SnowMules$Table" "size" "I", Cond.methodLink RX9 52 yX6_get, Cond.instanceMethod yX6_get, Cond.selects RX6 yX6_get yX6_get, Cond.code yX6_get cX6_get 4 (some .int), Cond.fieldLink RX6 9 "SnowMules$Table" "width" "I", Cond.fieldLink RX6 21 "SnowMules$Table" "cells" "[I", Cond.methodLink RX10 158 yX9_otherEnd, Cond.instanceMethod yX9_otherEnd, Cond.selects RX9 yX9_otherEnd yX9_otherEnd, Cond.code yX9_otherEnd cX9_otherEnd 5 (some .int)]
def wsX10_leave_r2 : List Cond := [Cond.fieldLink RX9 20 "SnowMules$World" "passes" "LSnowMules$Table;", Cond.methodLink RX10 93 yX6_put, Cond.instanceMethod yX6_put, Cond.selects RX6 yX6_put yX6_put, Cond.code yX6_put cX6_put 5 none]
def wsX10_leave : List Cond := .code yX10_leave cX10_leave 5 (some .boolean) :: ((wsX10_leave_r1 ++ wsX10_leave_r2) ++ wsX100 ++ wsX90 ++ wsX60)
def wsX10_lawOf : List Cond := .code yX10_lawOf cX10_lawOf 2 (some (.object "SnowMules$Law")) :: ([.fieldLink RX10 128 "SnowMules" "lawCount" "I", .fieldLink RX10 29 "SnowMules" "laws" "[LSnowMules$Law;", .methodLink RX10 79 yX10_within, .static yX10_within, .initialized RX10, .code yX10_within cX10_within 2 (some .boolean)] ++ wsX100)
def wsX10_tick_r1 : List Cond := [Cond.fieldLink RX10 10 "SnowMules" "world" "LSnowMules$World;", Cond.fieldLink RX10 141 "SnowMules$World" "now" "I", Cond.constant RX10 140 (99999), Cond.fieldLink RX10 43 "SnowMules" "hours" "LSnowMules$Hours;", Cond.methodLink RX10 161 yX10_lawOf, Cond.instanceMethod yX10_lawOf, Cond.selects RX10 yX10_lawOf yX10_lawOf, Cond.initialized RX10, Cond.code yX10_lawOf cX10_lawOf 2 (some (.object "SnowMules$Law")), Cond.fieldLink RX10 128 "SnowMules" "lawCount" "I", Cond.fieldLink RX10 29 "SnowMules" "laws" "[LSnowMules$Law;", Cond.methodLink RX10 79 yX10_within, Cond.static yX10_within, Cond.code yX10_within cX10_within 2 (some .boolean), Cond.methodLink RX10 165 yX0_step, Cond.instanceMethod yX0_step, Cond.selects RX0 yX0_step yX0_step, Cond.initialized RX0, Cond.code yX0_step cX0_step 5 none, Cond.fieldLink RX0 18 "SnowMules$World" "jars" "LSnowMules$Table;", Cond.fieldLink RX0 24 "SnowMules$Table" "size" "I", Cond.fieldLink RX0 38 "SnowMules$World" "nodes" "LSnowMules$Table;", Cond.fieldLink RX0 41 "SnowMules$World" "now" "I", Cond.methodLink RX0 30 yX6_get]
def wsX10_tick_r2 : List Cond := [Cond.instanceMethod yX6_get, Cond.selects RX6 yX6_get yX6_get, Cond.initialized RX6, Cond.code yX6_get cX6_get 4 (some .int), Cond.fieldLink RX6 9 "SnowMules$Table" "width" "I", Cond.fieldLink RX6 21 "SnowMules$Table" "cells" "[I", Cond.methodLink RX0 34 yX0_stepJar, Cond.instanceMethod yX0_stepJar, Cond.selects RX0 yX0_stepJar yX0_stepJar, Cond.code yX0_stepJar cX0_stepJar 6 none, Cond.fieldLink RX0 56 "SnowMules$World" "passes" "LSnowMules$Table;", Cond.methodLink RX0 52 yX0_meltOf, Cond.instanceMethod yX0_meltOf, Cond.selects RX0 yX0_meltOf yX0_meltOf, Cond.code yX0_meltOf cX0_meltOf 6 (some .int), Cond.fieldLink RX0 12 "SnowMules$Hours" "scene" "LSnowMules$Scene;", Cond.fieldLink RX0 80 "SnowMules$Scene" "words" "[I", Cond.methodLink RX0 62 yX4_setPass, Cond.instanceMethod yX4_setPass, Cond.selects RX4 yX4_setPass yX4_setPass, Cond.initialized RX4, Cond.code yX4_setPass cX4_setPass 5 none, Cond.fieldLink RX4 21 "SnowMules$World" "nodes" "LSnowMules$Table;", Cond.fieldLink RX4 34 "SnowMules$Scene" "heightBehind" "I"]
def wsX10_tick_r3 : List Cond := [Cond.fieldLink RX4 38 "SnowMules$Scene" "heightAhead" "I", Cond.fieldLink RX4 41 "SnowMules$World" "passes" "LSnowMules$Table;", Cond.fieldLink RX4 44 "SnowMules$Scene" "hoursOfPass" "I", Cond.fieldLink RX4 11 "SnowMules$Scene" "words" "[I", Cond.methodLink RX4 31 yX9_otherEnd, Cond.instanceMethod yX9_otherEnd, Cond.selects RX9 yX9_otherEnd yX9_otherEnd, Cond.initialized RX9, Cond.code yX9_otherEnd cX9_otherEnd 5 (some .int), Cond.fieldLink RX9 20 "SnowMules$World" "passes" "LSnowMules$Table;", Cond.methodLink RX9 56 yX6_has, Cond.instanceMethod yX6_has, Cond.selects RX6 yX6_has yX6_has, Cond.code yX6_has cX6_has 2 (some .boolean), Cond.fieldLink RX6 25 "SnowMules$Table" "size" "I", Cond.methodLink RX9 52 yX6_get, Cond.methodLink RX4 25 yX6_get, Cond.methodLink RX0 66 yX4_setGone, Cond.instanceMethod yX4_setGone, Cond.selects RX4 yX4_setGone yX4_setGone, Cond.code yX4_setGone cX4_setGone 3 none, Cond.methodLink RX0 70 yX4_setNode, Cond.instanceMethod yX4_setNode, Cond.selects RX4 yX4_setNode yX4_setNode]
def wsX10_tick_r4 : List Cond := [Cond.code yX4_setNode cX4_setNode 3 none, Cond.methodLink RX0 74 yX4_setHour, Cond.instanceMethod yX4_setHour, Cond.selects RX4 yX4_setHour yX4_setHour, Cond.code yX4_setHour cX4_setHour 3 none, Cond.methodLink RX4 15 yX9_monthAt, Cond.instanceMethod yX9_monthAt, Cond.selects RX9 yX9_monthAt yX9_monthAt, Cond.code yX9_monthAt cX9_monthAt 2 (some .int), Cond.fieldLink RX9 46 "SnowMules$World" "firstMonth" "I", Cond.methodLink RX0 77 yX0_setLoadOf, Cond.instanceMethod yX0_setLoadOf, Cond.selects RX0 yX0_setLoadOf yX0_setLoadOf, Cond.code yX0_setLoadOf cX0_setLoadOf 4 none, Cond.methodLink RX0 94 yX4_setLoad, Cond.instanceMethod yX4_setLoad, Cond.selects RX4 yX4_setLoad yX4_setLoad, Cond.code yX4_setLoad cX4_setLoad 4 none, Cond.methodLink RX0 84 yX1_sumOf, Cond.instanceMethod yX1_sumOf, Cond.selects RX1 yX1_sumOf yX1_sumOf, Cond.initialized RX1, Cond.code yX1_sumOf cX1_sumOf 4 (some .long), Cond.fieldLink RX1 50 "SnowMules$Law" "clauses" "I"]
def wsX10_tick_r5 : List Cond := [Cond.fieldLink RX1 9 "SnowMules$Law" "sorts" "[I", Cond.fieldLink RX1 19 "SnowMules$Law" "testStarts" "[I", Cond.fieldLink RX1 22 "SnowMules$Law" "testStops" "[I", Cond.fieldLink RX1 13 "SnowMules$Law" "sumStarts" "[I", Cond.fieldLink RX1 16 "SnowMules$Law" "sumStops" "[I", Cond.methodLink RX1 66 yX1_holds, Cond.instanceMethod yX1_holds, Cond.selects RX1 yX1_holds yX1_holds, Cond.code yX1_holds cX1_holds 12 (some .boolean), Cond.fieldLink RX1 43 "SnowMules$Law" "tests" "[I", Cond.constantLong RX1 74 (-2), Cond.fieldLink RX1 31 "SnowMules$Law" "factStarts" "[I", Cond.fieldLink RX1 34 "SnowMules$Law" "factMiddles" "[I", Cond.fieldLink RX1 37 "SnowMules$Law" "factStops" "[I", Cond.fieldLink RX1 40 "SnowMules$Law" "signs" "[I", Cond.methodLink RX1 70 yX1_total, Cond.instanceMethod yX1_total, Cond.selects RX1 yX1_total yX1_total, Cond.code yX1_total cX1_total 15 (some .long), Cond.fieldLink RX1 28 "SnowMules$Law" "operands" "[I", Cond.fieldLink RX1 25 "SnowMules$Law" "joins" "[I", Cond.methodLink RX1 76 yX1_isTrue, Cond.static yX1_isTrue, Cond.code yX1_isTrue cX1_isTrue 5 (some .boolean)]
def wsX10_tick_r6 : List Cond := [Cond.static yX10_held, Cond.code yX10_held cX10_held 3 (some .int), Cond.methodLink RX0 48 yX6_put, Cond.instanceMethod yX6_put, Cond.selects RX6 yX6_put yX6_put, Cond.code yX6_put cX6_put 5 none, Cond.methodLink RX0 59 yX0_arrive, Cond.instanceMethod yX0_arrive, Cond.selects RX0 yX0_arrive yX0_arrive, Cond.code yX0_arrive cX0_arrive 8 none, Cond.fieldLink RX0 111 "SnowMules$Law" "chain" "I", Cond.methodLink RX0 97 yX9_standAt, Cond.instanceMethod yX9_standAt, Cond.selects RX9 yX9_standAt yX9_standAt, Cond.code yX9_standAt cX9_standAt 3 none, Cond.fieldLink RX9 23 "SnowMules$World" "jars" "LSnowMules$Table;", Cond.methodLink RX9 66 yX6_put, Cond.methodLink RX0 101 yX9_bring, Cond.instanceMethod yX9_bring, Cond.selects RX9 yX9_bring yX9_bring, Cond.code yX9_bring cX9_bring 5 (some .int), Cond.fieldLink RX9 14 "SnowMules$World" "nodes" "LSnowMules$Table;", Cond.constant RX9 73 (999999), Cond.methodLink RX9 74 Lib.Math.min.name]
def wsX10_tick_r7 : List Cond := [Cond.static Lib.Math.min.name, Cond.initialized "java/lang/Math", Cond.code Lib.Math.min.name Lib.Math.min.code 2 (some .int), Cond.methodLink RX0 104 yX9_draw, Cond.instanceMethod yX9_draw, Cond.selects RX9 yX9_draw yX9_draw, Cond.code yX9_draw cX9_draw 1 (some .int), Cond.fieldLink RX9 49 "SnowMules$World" "x" "I", Cond.constantLong RX9 83 (1103515245), Cond.constantLong RX9 85 (12345), Cond.constantLong RX9 87 (2147483647), Cond.constant RX9 89 (65536), Cond.methodLink RX0 108 yX9_lose, Cond.instanceMethod yX9_lose, Cond.selects RX9 yX9_lose yX9_lose, Cond.code yX9_lose cX9_lose 2 none, Cond.methodLink RX9 70 yX9_standAt, Cond.methodLink RX0 114 yX0_burstFrom, Cond.instanceMethod yX0_burstFrom, Cond.selects RX0 yX0_burstFrom yX0_burstFrom, Cond.code yX0_burstFrom cX0_burstFrom 9 none, Cond.methodLink RX0 118 yX0_nextBehind, Cond.instanceMethod yX0_nextBehind, Cond.selects RX0 yX0_nextBehind yX0_nextBehind]
def wsX10_tick_r8 : List Cond := [Cond.code yX0_nextBehind cX0_nextBehind 12 (some .int), Cond.methodLink RX0 44 yX0_restOf, Cond.instanceMethod yX0_restOf, Cond.selects RX0 yX0_restOf yX0_restOf, Cond.code yX0_restOf cX0_restOf 6 (some .int)]
def wsX10_tick : List Cond := .code yX10_tick cX10_tick 5 (some .int) :: ((wsX10_tick_r1 ++ (wsX10_tick_r2 ++ (wsX10_tick_r3 ++ (wsX10_tick_r4 ++ (wsX10_tick_r5 ++ (wsX10_tick_r6 ++ (wsX10_tick_r7 ++ wsX10_tick_r8))))))) ++ wsX100 ++ wsX90 ++ wsX60 ++ wsX00 ++ wsX40 ++ wsX10)
def wsX10_at_r1 : List Cond := [Cond.fieldLink RX10 10 "SnowMules" "world" "LSnowMules$World;", Cond.fieldLink RX10 83 "SnowMules$World" "nodes" "LSnowMules$Table;", Cond.fieldLink RX10 141 "SnowMules$World" "now" "I", Cond.methodLink RX10 97 yX6_has, Cond.instanceMethod yX6_has, Cond.selects RX6 yX6_has yX6_has, Cond.initialized RX6, Cond.code yX6_has cX6_has 2 (some .boolean), Cond.fieldLink RX6 25 "SnowMules$Table" "size" "I", Cond.methodLink RX10 79 yX10_within, Cond.static yX10_within, Cond.initialized RX10, Cond.code yX10_within cX10_within 2 (some .boolean), Cond.methodLink RX10 150 yX6_get, Cond.instanceMethod yX6_get, Cond.selects RX6 yX6_get yX6_get, Cond.code yX6_get cX6_get 4 (some .int), Cond.fieldLink RX6 9 "SnowMules$Table" "width" "I", Cond.fieldLink RX6 21 "SnowMules$Table" "cells" "[I", Cond.methodLink RX10 144 yX9_monthAt, Cond.instanceMethod yX9_monthAt, Cond.selects RX9 yX9_monthAt yX9_monthAt, Cond.initialized RX9, Cond.code yX9_monthAt cX9_monthAt 2 (some .int)]
def wsX10_at_r2 : List Cond := [Cond.fieldLink RX9 46 "SnowMules$World" "firstMonth" "I", Cond.methodLink RX10 147 yX9_hasSnow, Cond.instanceMethod yX9_hasSnow, Cond.selects RX9 yX9_hasSnow yX9_hasSnow, Cond.code yX9_hasSnow cX9_hasSnow 3 (some .boolean), Cond.fieldLink RX9 14 "SnowMules$World" "nodes" "LSnowMules$Table;", Cond.methodLink RX9 52 yX6_get, Cond.methodLink RX10 169 yX9_jarsAt, Cond.instanceMethod yX9_jarsAt, Cond.selects RX9 yX9_jarsAt yX9_jarsAt, Cond.code yX9_jarsAt cX9_jarsAt 4 (some .int), Cond.fieldLink RX9 23 "SnowMules$World" "jars" "LSnowMules$Table;", Cond.fieldLink RX9 60 "SnowMules$Table" "size" "I"]
def wsX10_at : List Cond := .code yX10_at cX10_at 3 (some .int) :: ((wsX10_at_r1 ++ wsX10_at_r2) ++ wsX100 ++ wsX90 ++ wsX60)
def wsX10_of : List Cond := .code yX10_of cX10_of 3 (some .int) :: ([.fieldLink RX10 10 "SnowMules" "world" "LSnowMules$World;", .fieldLink RX10 107 "SnowMules$World" "jars" "LSnowMules$Table;", .methodLink RX10 97 yX6_has, .instanceMethod yX6_has, .selects RX6 yX6_has yX6_has, .initialized RX6, .code yX6_has cX6_has 2 (some .boolean), .fieldLink RX6 25 "SnowMules$Table" "size" "I", .methodLink RX10 79 yX10_within, .static yX10_within, .initialized RX10, .code yX10_within cX10_within 2 (some .boolean), .methodLink RX10 150 yX6_get, .instanceMethod yX6_get, .selects RX6 yX6_get yX6_get, .code yX6_get cX6_get 4 (some .int), .fieldLink RX6 9 "SnowMules$Table" "width" "I", .fieldLink RX6 21 "SnowMules$Table" "cells" "[I"] ++ wsX100 ++ wsX90 ++ wsX60)
def wsX10_melt_r1 : List Cond := [Cond.fieldLink RX10 10 "SnowMules" "world" "LSnowMules$World;", Cond.fieldLink RX10 107 "SnowMules$World" "jars" "LSnowMules$Table;", Cond.fieldLink RX10 43 "SnowMules" "hours" "LSnowMules$Hours;", Cond.methodLink RX10 161 yX10_lawOf, Cond.instanceMethod yX10_lawOf, Cond.selects RX10 yX10_lawOf yX10_lawOf, Cond.initialized RX10, Cond.code yX10_lawOf cX10_lawOf 2 (some (.object "SnowMules$Law")), Cond.fieldLink RX10 128 "SnowMules" "lawCount" "I", Cond.fieldLink RX10 29 "SnowMules" "laws" "[LSnowMules$Law;", Cond.methodLink RX10 79 yX10_within, Cond.static yX10_within, Cond.code yX10_within cX10_within 2 (some .boolean), Cond.methodLink RX10 97 yX6_has, Cond.instanceMethod yX6_has, Cond.selects RX6 yX6_has yX6_has, Cond.initialized RX6, Cond.code yX6_has cX6_has 2 (some .boolean), Cond.fieldLink RX6 25 "SnowMules$Table" "size" "I", Cond.methodLink RX10 150 yX6_get, Cond.instanceMethod yX6_get, Cond.selects RX6 yX6_get yX6_get, Cond.code yX6_get cX6_get 4 (some .int), Cond.fieldLink RX6 9 "SnowMules$Table" "width" "I"]
def wsX10_melt_r2 : List Cond := [Cond.fieldLink RX6 21 "SnowMules$Table" "cells" "[I", Cond.methodLink RX10 172 yX0_meltOf, Cond.instanceMethod yX0_meltOf, Cond.selects RX0 yX0_meltOf yX0_meltOf, Cond.initialized RX0, Cond.code yX0_meltOf cX0_meltOf 6 (some .int), Cond.fieldLink RX0 18 "SnowMules$World" "jars" "LSnowMules$Table;", Cond.fieldLink RX0 12 "SnowMules$Hours" "scene" "LSnowMules$Scene;", Cond.fieldLink RX0 41 "SnowMules$World" "now" "I", Cond.fieldLink RX0 80 "SnowMules$Scene" "words" "[I", Cond.methodLink RX0 30 yX6_get, Cond.methodLink RX0 62 yX4_setPass, Cond.instanceMethod yX4_setPass, Cond.selects RX4 yX4_setPass yX4_setPass, Cond.initialized RX4, Cond.code yX4_setPass cX4_setPass 5 none, Cond.fieldLink RX4 21 "SnowMules$World" "nodes" "LSnowMules$Table;", Cond.fieldLink RX4 34 "SnowMules$Scene" "heightBehind" "I", Cond.fieldLink RX4 38 "SnowMules$Scene" "heightAhead" "I", Cond.fieldLink RX4 41 "SnowMules$World" "passes" "LSnowMules$Table;", Cond.fieldLink RX4 44 "SnowMules$Scene" "hoursOfPass" "I", Cond.fieldLink RX4 11 "SnowMules$Scene" "words" "[I", Cond.methodLink RX4 31 yX9_otherEnd, Cond.instanceMethod yX9_otherEnd]
def wsX10_melt_r3 : List Cond := [Cond.selects RX9 yX9_otherEnd yX9_otherEnd, Cond.initialized RX9, Cond.code yX9_otherEnd cX9_otherEnd 5 (some .int), Cond.fieldLink RX9 20 "SnowMules$World" "passes" "LSnowMules$Table;", Cond.methodLink RX9 56 yX6_has, Cond.methodLink RX9 52 yX6_get, Cond.methodLink RX4 25 yX6_get, Cond.methodLink RX0 66 yX4_setGone, Cond.instanceMethod yX4_setGone, Cond.selects RX4 yX4_setGone yX4_setGone, Cond.code yX4_setGone cX4_setGone 3 none, Cond.methodLink RX0 70 yX4_setNode, Cond.instanceMethod yX4_setNode, Cond.selects RX4 yX4_setNode yX4_setNode, Cond.code yX4_setNode cX4_setNode 3 none, Cond.methodLink RX0 74 yX4_setHour, Cond.instanceMethod yX4_setHour, Cond.selects RX4 yX4_setHour yX4_setHour, Cond.code yX4_setHour cX4_setHour 3 none, Cond.methodLink RX4 15 yX9_monthAt, Cond.instanceMethod yX9_monthAt, Cond.selects RX9 yX9_monthAt yX9_monthAt, Cond.code yX9_monthAt cX9_monthAt 2 (some .int), Cond.fieldLink RX9 46 "SnowMules$World" "firstMonth" "I"]
def wsX10_melt_r4 : List Cond := [Cond.methodLink RX0 77 yX0_setLoadOf, Cond.instanceMethod yX0_setLoadOf, Cond.selects RX0 yX0_setLoadOf yX0_setLoadOf, Cond.code yX0_setLoadOf cX0_setLoadOf 4 none, Cond.methodLink RX0 94 yX4_setLoad, Cond.instanceMethod yX4_setLoad, Cond.selects RX4 yX4_setLoad yX4_setLoad, Cond.code yX4_setLoad cX4_setLoad 4 none, Cond.methodLink RX0 84 yX1_sumOf, Cond.instanceMethod yX1_sumOf, Cond.selects RX1 yX1_sumOf yX1_sumOf, Cond.initialized RX1, Cond.code yX1_sumOf cX1_sumOf 4 (some .long), Cond.fieldLink RX1 50 "SnowMules$Law" "clauses" "I", Cond.fieldLink RX1 9 "SnowMules$Law" "sorts" "[I", Cond.fieldLink RX1 19 "SnowMules$Law" "testStarts" "[I", Cond.fieldLink RX1 22 "SnowMules$Law" "testStops" "[I", Cond.fieldLink RX1 13 "SnowMules$Law" "sumStarts" "[I", Cond.fieldLink RX1 16 "SnowMules$Law" "sumStops" "[I", Cond.methodLink RX1 66 yX1_holds, Cond.instanceMethod yX1_holds, Cond.selects RX1 yX1_holds yX1_holds, Cond.code yX1_holds cX1_holds 12 (some .boolean), Cond.fieldLink RX1 43 "SnowMules$Law" "tests" "[I"]
def wsX10_melt_r5 : List Cond := [Cond.constantLong RX1 74 (-2), Cond.fieldLink RX1 31 "SnowMules$Law" "factStarts" "[I", Cond.fieldLink RX1 34 "SnowMules$Law" "factMiddles" "[I", Cond.fieldLink RX1 37 "SnowMules$Law" "factStops" "[I", Cond.fieldLink RX1 40 "SnowMules$Law" "signs" "[I", Cond.methodLink RX1 70 yX1_total, Cond.instanceMethod yX1_total, Cond.selects RX1 yX1_total yX1_total, Cond.code yX1_total cX1_total 15 (some .long), Cond.fieldLink RX1 28 "SnowMules$Law" "operands" "[I", Cond.fieldLink RX1 25 "SnowMules$Law" "joins" "[I", Cond.methodLink RX1 76 yX1_isTrue, Cond.static yX1_isTrue, Cond.code yX1_isTrue cX1_isTrue 5 (some .boolean), Cond.static yX10_held, Cond.code yX10_held cX10_held 3 (some .int)]
def wsX10_melt : List Cond := .code yX10_melt cX10_melt 4 (some .int) :: ((wsX10_melt_r1 ++ (wsX10_melt_r2 ++ (wsX10_melt_r3 ++ (wsX10_melt_r4 ++ wsX10_melt_r5)))) ++ wsX100 ++ wsX90 ++ wsX60 ++ wsX00 ++ wsX40 ++ wsX10)
def wsX10_lay_r1 : List Cond := [Cond.fieldLink RX10 10 "SnowMules" "world" "LSnowMules$World;", Cond.fieldLink RX10 176 "SnowMules$World" "wayStart" "I", Cond.fieldLink RX10 185 "SnowMules$World" "way" "LSnowMules$Table;", Cond.methodLink RX10 179 yX9_wayEnd, Cond.instanceMethod yX9_wayEnd, Cond.selects RX9 yX9_wayEnd yX9_wayEnd, Cond.initialized RX9, Cond.code yX9_wayEnd cX9_wayEnd 3 (some .int), Cond.fieldLink RX9 35 "SnowMules$World" "wayStart" "I", Cond.fieldLink RX9 32 "SnowMules$World" "way" "LSnowMules$Table;", Cond.fieldLink RX9 60 "SnowMules$Table" "size" "I", Cond.methodLink RX9 52 yX6_get, Cond.instanceMethod yX6_get, Cond.selects RX6 yX6_get yX6_get, Cond.initialized RX6, Cond.code yX6_get cX6_get 4 (some .int), Cond.fieldLink RX6 9 "SnowMules$Table" "width" "I", Cond.fieldLink RX6 21 "SnowMules$Table" "cells" "[I", Cond.methodLink RX9 63 yX9_otherEnd, Cond.instanceMethod yX9_otherEnd, Cond.selects RX9 yX9_otherEnd yX9_otherEnd, Cond.code yX9_otherEnd cX9_otherEnd 5 (some .int), Cond.fieldLink RX9 20 "SnowMules$World" "passes" "LSnowMules$Table;", Cond.methodLink RX9 56 yX6_has]
def wsX10_lay_r2 : List Cond := [Cond.instanceMethod yX6_has, Cond.selects RX6 yX6_has yX6_has, Cond.code yX6_has cX6_has 2 (some .boolean), Cond.fieldLink RX6 25 "SnowMules$Table" "size" "I", Cond.methodLink RX10 158 yX9_otherEnd, Cond.methodLink RX10 182 yX9_wayHas, Cond.instanceMethod yX9_wayHas, Cond.selects RX9 yX9_wayHas yX9_wayHas, Cond.code yX9_wayHas cX9_wayHas 4 (some .boolean), Cond.methodLink RX10 87 yX6_grow, Cond.instanceMethod yX6_grow, Cond.selects RX6 yX6_grow yX6_grow, Cond.code yX6_grow cX6_grow 1 (some .int), Cond.methodLink RX10 93 yX6_put, Cond.instanceMethod yX6_put, Cond.selects RX6 yX6_put yX6_put, Cond.code yX6_put cX6_put 5 none]
def wsX10_lay : List Cond := .code yX10_lay cX10_lay 4 (some .int) :: ((wsX10_lay_r1 ++ wsX10_lay_r2) ++ wsX100 ++ wsX90 ++ wsX60)
def wsX10_from : List Cond := .code yX10_from cX10_from 2 (some .boolean) :: ([.fieldLink RX10 10 "SnowMules" "world" "LSnowMules$World;", .fieldLink RX10 83 "SnowMules$World" "nodes" "LSnowMules$Table;", .fieldLink RX10 176 "SnowMules$World" "wayStart" "I", .fieldLink RX10 185 "SnowMules$World" "way" "LSnowMules$Table;", .fieldLink RX10 188 "SnowMules$Table" "size" "I", .methodLink RX10 97 yX6_has, .instanceMethod yX6_has, .selects RX6 yX6_has yX6_has, .initialized RX6, .code yX6_has cX6_has 2 (some .boolean), .fieldLink RX6 25 "SnowMules$Table" "size" "I"] ++ wsX100 ++ wsX90 ++ wsX60)
def wsX10_isLoad : List Cond := .code yX10_isLoad cX10_isLoad 4 (some .boolean) :: ([.constant RX10 140 (99999), .methodLink RX10 79 yX10_within, .static yX10_within, .initialized RX10, .code yX10_within cX10_within 2 (some .boolean), .methodLink RX10 104 yX10_isCover, .static yX10_isCover, .code yX10_isCover cX10_isCover 2 (some .boolean)])
def wsX10_tried_r1 : List Cond := [Cond.fieldLink RX10 10 "SnowMules" "world" "LSnowMules$World;", Cond.fieldLink RX10 176 "SnowMules$World" "wayStart" "I", Cond.fieldLink RX10 52 "SnowMules" "trip" "LSnowMules$Trip;", Cond.fieldLink RX10 202 "SnowMules$Trip" "drops" "I", Cond.fieldLink RX10 205 "SnowMules$Trip" "hour" "I", Cond.methodLink RX10 161 yX10_lawOf, Cond.instanceMethod yX10_lawOf, Cond.selects RX10 yX10_lawOf yX10_lawOf, Cond.initialized RX10, Cond.code yX10_lawOf cX10_lawOf 2 (some (.object "SnowMules$Law")), Cond.fieldLink RX10 128 "SnowMules" "lawCount" "I", Cond.fieldLink RX10 29 "SnowMules" "laws" "[LSnowMules$Law;", Cond.methodLink RX10 79 yX10_within, Cond.static yX10_within, Cond.code yX10_within cX10_within 2 (some .boolean), Cond.methodLink RX10 191 yX10_isLoad, Cond.static yX10_isLoad, Cond.code yX10_isLoad cX10_isLoad 4 (some .boolean), Cond.constant RX10 140 (99999), Cond.methodLink RX10 104 yX10_isCover, Cond.static yX10_isCover, Cond.code yX10_isCover cX10_isCover 2 (some .boolean), Cond.methodLink RX10 195 yX7_begin, Cond.instanceMethod yX7_begin]
def wsX10_tried_r2 : List Cond := [Cond.selects RX7 yX7_begin yX7_begin, Cond.initialized RX7, Cond.code yX7_begin cX7_begin 6 none, Cond.fieldLink RX7 12 "SnowMules$Trip" "law" "LSnowMules$Law;", Cond.fieldLink RX7 29 "SnowMules$Trip" "hour" "I", Cond.fieldLink RX7 33 "SnowMules$Trip" "drops" "I", Cond.fieldLink RX7 36 "SnowMules$Trip" "felt" "I", Cond.fieldLink RX7 39 "SnowMules$Trip" "salt" "I", Cond.fieldLink RX7 42 "SnowMules$Trip" "warmth" "I", Cond.fieldLink RX7 45 "SnowMules$Trip" "needed" "I", Cond.methodLink RX10 199 yX7_followKeeping, Cond.instanceMethod yX7_followKeeping, Cond.selects RX7 yX7_followKeeping yX7_followKeeping, Cond.code yX7_followKeeping cX7_followKeeping 4 (some .boolean), Cond.fieldLink RX7 25 "SnowMules$Trip" "world" "LSnowMules$World;", Cond.fieldLink RX7 97 "SnowMules$World" "wayStart" "I", Cond.fieldLink RX7 100 "SnowMules$World" "way" "LSnowMules$Table;", Cond.fieldLink RX7 103 "SnowMules$Table" "size" "I", Cond.methodLink RX7 84 yX6_get, Cond.instanceMethod yX6_get, Cond.selects RX6 yX6_get yX6_get, Cond.initialized RX6, Cond.code yX6_get cX6_get 4 (some .int), Cond.fieldLink RX6 9 "SnowMules$Table" "width" "I"]
def wsX10_tried_r3 : List Cond := [Cond.fieldLink RX6 21 "SnowMules$Table" "cells" "[I", Cond.methodLink RX7 106 yX7_cross, Cond.instanceMethod yX7_cross, Cond.selects RX7 yX7_cross yX7_cross, Cond.code yX7_cross cX7_cross 6 (some .int), Cond.fieldLink RX7 80 "SnowMules$World" "passes" "LSnowMules$Table;", Cond.fieldLink RX7 21 "SnowMules$Trip" "scene" "LSnowMules$Scene;", Cond.fieldLink RX7 62 "SnowMules$Scene" "words" "[I", Cond.methodLink RX7 74 yX9_otherEnd, Cond.instanceMethod yX9_otherEnd, Cond.selects RX9 yX9_otherEnd yX9_otherEnd, Cond.initialized RX9, Cond.code yX9_otherEnd cX9_otherEnd 5 (some .int), Cond.fieldLink RX9 20 "SnowMules$World" "passes" "LSnowMules$Table;", Cond.methodLink RX9 56 yX6_has, Cond.instanceMethod yX6_has, Cond.selects RX6 yX6_has yX6_has, Cond.code yX6_has cX6_has 2 (some .boolean), Cond.fieldLink RX6 25 "SnowMules$Table" "size" "I", Cond.methodLink RX9 52 yX6_get, Cond.methodLink RX7 89 yX4_setPass, Cond.instanceMethod yX4_setPass, Cond.selects RX4 yX4_setPass yX4_setPass, Cond.initialized RX4]
def wsX10_tried_r4 : List Cond := [Cond.code yX4_setPass cX4_setPass 5 none, Cond.fieldLink RX4 21 "SnowMules$World" "nodes" "LSnowMules$Table;", Cond.fieldLink RX4 34 "SnowMules$Scene" "heightBehind" "I", Cond.fieldLink RX4 38 "SnowMules$Scene" "heightAhead" "I", Cond.fieldLink RX4 41 "SnowMules$World" "passes" "LSnowMules$Table;", Cond.fieldLink RX4 44 "SnowMules$Scene" "hoursOfPass" "I", Cond.fieldLink RX4 11 "SnowMules$Scene" "words" "[I", Cond.methodLink RX4 31 yX9_otherEnd, Cond.methodLink RX4 25 yX6_get, Cond.methodLink RX7 93 yX4_setGone, Cond.instanceMethod yX4_setGone, Cond.selects RX4 yX4_setGone yX4_setGone, Cond.code yX4_setGone cX4_setGone 3 none, Cond.methodLink RX7 52 yX7_meltOneHour, Cond.instanceMethod yX7_meltOneHour, Cond.selects RX7 yX7_meltOneHour yX7_meltOneHour, Cond.code yX7_meltOneHour cX7_meltOneHour 1 none, Cond.methodLink RX7 55 yX4_setHour, Cond.instanceMethod yX4_setHour, Cond.selects RX4 yX4_setHour yX4_setHour, Cond.code yX4_setHour cX4_setHour 3 none, Cond.methodLink RX4 15 yX9_monthAt, Cond.instanceMethod yX9_monthAt, Cond.selects RX9 yX9_monthAt yX9_monthAt]
def wsX10_tried_r5 : List Cond := [Cond.code yX9_monthAt cX9_monthAt 2 (some .int), Cond.fieldLink RX9 46 "SnowMules$World" "firstMonth" "I", Cond.methodLink RX7 58 yX4_setLoad, Cond.instanceMethod yX4_setLoad, Cond.selects RX4 yX4_setLoad yX4_setLoad, Cond.code yX4_setLoad cX4_setLoad 4 none, Cond.methodLink RX7 66 yX1_sumOf, Cond.instanceMethod yX1_sumOf, Cond.selects RX1 yX1_sumOf yX1_sumOf, Cond.initialized RX1, Cond.code yX1_sumOf cX1_sumOf 4 (some .long), Cond.fieldLink RX1 50 "SnowMules$Law" "clauses" "I", Cond.fieldLink RX1 9 "SnowMules$Law" "sorts" "[I", Cond.fieldLink RX1 19 "SnowMules$Law" "testStarts" "[I", Cond.fieldLink RX1 22 "SnowMules$Law" "testStops" "[I", Cond.fieldLink RX1 13 "SnowMules$Law" "sumStarts" "[I", Cond.fieldLink RX1 16 "SnowMules$Law" "sumStops" "[I", Cond.methodLink RX1 66 yX1_holds, Cond.instanceMethod yX1_holds, Cond.selects RX1 yX1_holds yX1_holds, Cond.code yX1_holds cX1_holds 12 (some .boolean), Cond.fieldLink RX1 43 "SnowMules$Law" "tests" "[I", Cond.constantLong RX1 74 (-2), Cond.fieldLink RX1 31 "SnowMules$Law" "factStarts" "[I"]
def wsX10_tried_r6 : List Cond := [Cond.fieldLink RX1 34 "SnowMules$Law" "factMiddles" "[I", Cond.fieldLink RX1 37 "SnowMules$Law" "factStops" "[I", Cond.fieldLink RX1 40 "SnowMules$Law" "signs" "[I", Cond.methodLink RX1 70 yX1_total, Cond.instanceMethod yX1_total, Cond.selects RX1 yX1_total yX1_total, Cond.code yX1_total cX1_total 15 (some .long), Cond.fieldLink RX1 28 "SnowMules$Law" "operands" "[I", Cond.fieldLink RX1 25 "SnowMules$Law" "joins" "[I", Cond.methodLink RX1 76 yX1_isTrue, Cond.static yX1_isTrue, Cond.code yX1_isTrue cX1_isTrue 5 (some .boolean), Cond.static yX10_held, Cond.code yX10_held cX10_held 3 (some .int), Cond.methodLink RX7 48 yX4_setNode, Cond.instanceMethod yX4_setNode, Cond.selects RX4 yX4_setNode yX4_setNode, Cond.code yX4_setNode cX4_setNode 3 none]
def wsX10_tried : List Cond := .code yX10_tried cX10_tried 8 (some .int) :: ((wsX10_tried_r1 ++ (wsX10_tried_r2 ++ (wsX10_tried_r3 ++ (wsX10_tried_r4 ++ (wsX10_tried_r5 ++ wsX10_tried_r6))))) ++ wsX100 ++ wsX90 ++ wsX70 ++ wsX60 ++ wsX40 ++ wsX10)
def wsX10_best_r1 : List Cond := [Cond.fieldLink RX10 61 "SnowMules" "search" "LSnowMules$Search;", Cond.fieldLink RX10 52 "SnowMules" "trip" "LSnowMules$Trip;", Cond.fieldLink RX10 217 "SnowMules$Search" "left" "I", Cond.fieldLink RX10 220 "SnowMules$Search" "leaving" "I", Cond.fieldLink RX10 223 "SnowMules$Search" "length" "I", Cond.methodLink RX10 161 yX10_lawOf, Cond.instanceMethod yX10_lawOf, Cond.selects RX10 yX10_lawOf yX10_lawOf, Cond.initialized RX10, Cond.code yX10_lawOf cX10_lawOf 2 (some (.object "SnowMules$Law")), Cond.fieldLink RX10 128 "SnowMules" "lawCount" "I", Cond.fieldLink RX10 29 "SnowMules" "laws" "[LSnowMules$Law;", Cond.methodLink RX10 79 yX10_within, Cond.static yX10_within, Cond.code yX10_within cX10_within 2 (some .boolean), Cond.methodLink RX10 208 yX10_isJourney, Cond.instanceMethod yX10_isJourney, Cond.selects RX10 yX10_isJourney yX10_isJourney, Cond.code yX10_isJourney cX10_isJourney 3 (some .boolean), Cond.fieldLink RX10 10 "SnowMules" "world" "LSnowMules$World;", Cond.fieldLink RX10 83 "SnowMules$World" "nodes" "LSnowMules$Table;", Cond.methodLink RX10 97 yX6_has, Cond.instanceMethod yX6_has, Cond.selects RX6 yX6_has yX6_has]
def wsX10_best_r2 : List Cond := [Cond.initialized RX6, Cond.code yX6_has cX6_has 2 (some .boolean), Cond.fieldLink RX6 25 "SnowMules$Table" "size" "I", Cond.methodLink RX10 191 yX10_isLoad, Cond.static yX10_isLoad, Cond.code yX10_isLoad cX10_isLoad 4 (some .boolean), Cond.constant RX10 140 (99999), Cond.methodLink RX10 104 yX10_isCover, Cond.static yX10_isCover, Cond.code yX10_isCover cX10_isCover 2 (some .boolean), Cond.methodLink RX10 211 yX5_aim, Cond.instanceMethod yX5_aim, Cond.selects RX5 yX5_aim yX5_aim, Cond.initialized RX5, Cond.code yX5_aim cX5_aim 3 none, Cond.fieldLink RX5 29 "SnowMules$Search" "target" "I", Cond.fieldLink RX5 33 "SnowMules$Search" "barred" "I", Cond.fieldLink RX5 36 "SnowMules$Search" "anyWill" "Z", Cond.constant RX5 40 (1000000), Cond.fieldLink RX5 41 "SnowMules$Search" "latest" "I", Cond.fieldLink RX5 44 "SnowMules$Search" "left" "I", Cond.fieldLink RX5 47 "SnowMules$Search" "leaving" "I", Cond.fieldLink RX5 50 "SnowMules$Search" "waited" "I", Cond.fieldLink RX5 53 "SnowMules$Search" "length" "I"]
def wsX10_best_r3 : List Cond := [Cond.methodLink RX5 56 yX5_measure, Cond.instanceMethod yX5_measure, Cond.selects RX5 yX5_measure yX5_measure, Cond.code yX5_measure cX5_measure 7 none, Cond.fieldLink RX5 9 "SnowMules$Search" "far" "[I", Cond.fieldLink RX5 21 "SnowMules$Search" "world" "LSnowMules$World;", Cond.fieldLink RX5 109 "SnowMules$World" "passes" "LSnowMules$Table;", Cond.fieldLink RX5 112 "SnowMules$Table" "size" "I", Cond.methodLink RX5 125 yX5_shorten, Cond.instanceMethod yX5_shorten, Cond.selects RX5 yX5_shorten yX5_shorten, Cond.code yX5_shorten cX5_shorten 6 (some .boolean), Cond.methodLink RX5 82 yX6_get, Cond.instanceMethod yX6_get, Cond.selects RX6 yX6_get yX6_get, Cond.code yX6_get cX6_get 4 (some .int), Cond.fieldLink RX6 9 "SnowMules$Table" "width" "I", Cond.fieldLink RX6 21 "SnowMules$Table" "cells" "[I", Cond.methodLink RX5 118 yX5_farTo, Cond.instanceMethod yX5_farTo, Cond.selects RX5 yX5_farTo yX5_farTo, Cond.code yX5_farTo cX5_farTo 2 (some .int), Cond.methodLink RX5 129 yX5_reach, Cond.instanceMethod yX5_reach]
def wsX10_best_r4 : List Cond := [Cond.selects RX5 yX5_reach yX5_reach, Cond.code yX5_reach cX5_reach 3 (some .boolean), Cond.methodLink RX10 195 yX7_begin, Cond.instanceMethod yX7_begin, Cond.selects RX7 yX7_begin yX7_begin, Cond.initialized RX7, Cond.code yX7_begin cX7_begin 6 none, Cond.fieldLink RX7 12 "SnowMules$Trip" "law" "LSnowMules$Law;", Cond.fieldLink RX7 29 "SnowMules$Trip" "hour" "I", Cond.fieldLink RX7 33 "SnowMules$Trip" "drops" "I", Cond.fieldLink RX7 36 "SnowMules$Trip" "felt" "I", Cond.fieldLink RX7 39 "SnowMules$Trip" "salt" "I", Cond.fieldLink RX7 42 "SnowMules$Trip" "warmth" "I", Cond.fieldLink RX7 45 "SnowMules$Trip" "needed" "I", Cond.methodLink RX10 214 yX5_findBest, Cond.instanceMethod yX5_findBest, Cond.selects RX5 yX5_findBest yX5_findBest, Cond.code yX5_findBest cX5_findBest 5 none, Cond.fieldLink RX5 25 "SnowMules$Search" "trip" "LSnowMules$Trip;", Cond.fieldLink RX5 60 "SnowMules$Trip" "hour" "I", Cond.fieldLink RX5 65 "SnowMules$Trip" "drops" "I", Cond.methodLink RX5 68 yX5_seek, Cond.instanceMethod yX5_seek, Cond.selects RX5 yX5_seek yX5_seek]
def wsX10_best_r5 : List Cond := [Cond.code yX5_seek cX5_seek 9 none, Cond.fieldLink RX5 15 "SnowMules$Search" "row" "[I", Cond.methodLink RX5 105 yX5_keep, Cond.instanceMethod yX5_keep, Cond.selects RX5 yX5_keep yX5_keep, Cond.code yX5_keep cX5_keep 3 none, Cond.constant RX5 124 (99999), Cond.fieldLink RX5 102 "SnowMules$Trip" "needed" "I", Cond.fieldLink RX5 18 "SnowMules$Search" "bestRow" "[I", Cond.methodLink RX5 115 yX9_otherEnd, Cond.instanceMethod yX9_otherEnd, Cond.selects RX9 yX9_otherEnd yX9_otherEnd, Cond.initialized RX9, Cond.code yX9_otherEnd cX9_otherEnd 5 (some .int), Cond.fieldLink RX9 20 "SnowMules$World" "passes" "LSnowMules$Table;", Cond.methodLink RX9 56 yX6_has, Cond.methodLink RX9 52 yX6_get, Cond.methodLink RX5 121 yX7_cross, Cond.instanceMethod yX7_cross, Cond.selects RX7 yX7_cross yX7_cross, Cond.code yX7_cross cX7_cross 6 (some .int), Cond.fieldLink RX7 25 "SnowMules$Trip" "world" "LSnowMules$World;", Cond.fieldLink RX7 80 "SnowMules$World" "passes" "LSnowMules$Table;", Cond.fieldLink RX7 21 "SnowMules$Trip" "scene" "LSnowMules$Scene;"]
def wsX10_best_r6 : List Cond := [Cond.fieldLink RX7 62 "SnowMules$Scene" "words" "[I", Cond.methodLink RX7 74 yX9_otherEnd, Cond.methodLink RX7 84 yX6_get, Cond.methodLink RX7 89 yX4_setPass, Cond.instanceMethod yX4_setPass, Cond.selects RX4 yX4_setPass yX4_setPass, Cond.initialized RX4, Cond.code yX4_setPass cX4_setPass 5 none, Cond.fieldLink RX4 21 "SnowMules$World" "nodes" "LSnowMules$Table;", Cond.fieldLink RX4 34 "SnowMules$Scene" "heightBehind" "I", Cond.fieldLink RX4 38 "SnowMules$Scene" "heightAhead" "I", Cond.fieldLink RX4 41 "SnowMules$World" "passes" "LSnowMules$Table;", Cond.fieldLink RX4 44 "SnowMules$Scene" "hoursOfPass" "I", Cond.fieldLink RX4 11 "SnowMules$Scene" "words" "[I", Cond.methodLink RX4 31 yX9_otherEnd, Cond.methodLink RX4 25 yX6_get, Cond.methodLink RX7 93 yX4_setGone, Cond.instanceMethod yX4_setGone, Cond.selects RX4 yX4_setGone yX4_setGone, Cond.code yX4_setGone cX4_setGone 3 none, Cond.methodLink RX7 52 yX7_meltOneHour, Cond.instanceMethod yX7_meltOneHour, Cond.selects RX7 yX7_meltOneHour yX7_meltOneHour, Cond.code yX7_meltOneHour cX7_meltOneHour 1 none]
def wsX10_best_r7 : List Cond := [Cond.methodLink RX7 55 yX4_setHour, Cond.instanceMethod yX4_setHour, Cond.selects RX4 yX4_setHour yX4_setHour, Cond.code yX4_setHour cX4_setHour 3 none, Cond.methodLink RX4 15 yX9_monthAt, Cond.instanceMethod yX9_monthAt, Cond.selects RX9 yX9_monthAt yX9_monthAt, Cond.code yX9_monthAt cX9_monthAt 2 (some .int), Cond.fieldLink RX9 46 "SnowMules$World" "firstMonth" "I", Cond.methodLink RX7 58 yX4_setLoad, Cond.instanceMethod yX4_setLoad, Cond.selects RX4 yX4_setLoad yX4_setLoad, Cond.code yX4_setLoad cX4_setLoad 4 none, Cond.methodLink RX7 66 yX1_sumOf, Cond.instanceMethod yX1_sumOf, Cond.selects RX1 yX1_sumOf yX1_sumOf, Cond.initialized RX1, Cond.code yX1_sumOf cX1_sumOf 4 (some .long), Cond.fieldLink RX1 50 "SnowMules$Law" "clauses" "I", Cond.fieldLink RX1 9 "SnowMules$Law" "sorts" "[I", Cond.fieldLink RX1 19 "SnowMules$Law" "testStarts" "[I", Cond.fieldLink RX1 22 "SnowMules$Law" "testStops" "[I", Cond.fieldLink RX1 13 "SnowMules$Law" "sumStarts" "[I", Cond.fieldLink RX1 16 "SnowMules$Law" "sumStops" "[I"]
def wsX10_best_r8 : List Cond := [Cond.methodLink RX1 66 yX1_holds, Cond.instanceMethod yX1_holds, Cond.selects RX1 yX1_holds yX1_holds, Cond.code yX1_holds cX1_holds 12 (some .boolean), Cond.fieldLink RX1 43 "SnowMules$Law" "tests" "[I", Cond.constantLong RX1 74 (-2), Cond.fieldLink RX1 31 "SnowMules$Law" "factStarts" "[I", Cond.fieldLink RX1 34 "SnowMules$Law" "factMiddles" "[I", Cond.fieldLink RX1 37 "SnowMules$Law" "factStops" "[I", Cond.fieldLink RX1 40 "SnowMules$Law" "signs" "[I", Cond.methodLink RX1 70 yX1_total, Cond.instanceMethod yX1_total, Cond.selects RX1 yX1_total yX1_total, Cond.code yX1_total cX1_total 15 (some .long), Cond.fieldLink RX1 28 "SnowMules$Law" "operands" "[I", Cond.fieldLink RX1 25 "SnowMules$Law" "joins" "[I", Cond.methodLink RX1 76 yX1_isTrue, Cond.static yX1_isTrue, Cond.code yX1_isTrue cX1_isTrue 5 (some .boolean), Cond.static yX10_held, Cond.code yX10_held cX10_held 3 (some .int), Cond.methodLink RX7 48 yX4_setNode, Cond.instanceMethod yX4_setNode, Cond.selects RX4 yX4_setNode yX4_setNode]
def wsX10_best_r9 : List Cond := [Cond.code yX4_setNode cX4_setNode 3 none, Cond.methodLink RX10 226 yX5_passOf, Cond.instanceMethod yX5_passOf, Cond.selects RX5 yX5_passOf yX5_passOf, Cond.code yX5_passOf cX5_passOf 2 (some .int)]
def wsX10_best : List Cond := .code yX10_best cX10_best 10 (some .int) :: ((wsX10_best_r1 ++ (wsX10_best_r2 ++ (wsX10_best_r3 ++ (wsX10_best_r4 ++ (wsX10_best_r5 ++ (wsX10_best_r6 ++ (wsX10_best_r7 ++ (wsX10_best_r8 ++ wsX10_best_r9)))))))) ++ wsX100 ++ wsX50 ++ wsX90 ++ wsX60 ++ wsX70 ++ wsX40 ++ wsX10)
def wsX10_soonest_r1 : List Cond := [Cond.fieldLink RX10 10 "SnowMules" "world" "LSnowMules$World;", Cond.fieldLink RX10 83 "SnowMules$World" "nodes" "LSnowMules$Table;", Cond.fieldLink RX10 61 "SnowMules" "search" "LSnowMules$Search;", Cond.constant RX10 236 (1000000), Cond.methodLink RX10 97 yX6_has, Cond.instanceMethod yX6_has, Cond.selects RX6 yX6_has yX6_has, Cond.initialized RX6, Cond.code yX6_has cX6_has 2 (some .boolean), Cond.fieldLink RX6 25 "SnowMules$Table" "size" "I", Cond.methodLink RX10 229 yX5_measure, Cond.instanceMethod yX5_measure, Cond.selects RX5 yX5_measure yX5_measure, Cond.initialized RX5, Cond.code yX5_measure cX5_measure 7 none, Cond.fieldLink RX5 9 "SnowMules$Search" "far" "[I", Cond.constant RX5 40 (1000000), Cond.fieldLink RX5 21 "SnowMules$Search" "world" "LSnowMules$World;", Cond.fieldLink RX5 109 "SnowMules$World" "passes" "LSnowMules$Table;", Cond.fieldLink RX5 112 "SnowMules$Table" "size" "I", Cond.methodLink RX5 125 yX5_shorten, Cond.instanceMethod yX5_shorten, Cond.selects RX5 yX5_shorten yX5_shorten, Cond.code yX5_shorten cX5_shorten 6 (some .boolean)]
def wsX10_soonest_r2 : List Cond := [Cond.methodLink RX5 82 yX6_get, Cond.instanceMethod yX6_get, Cond.selects RX6 yX6_get yX6_get, Cond.code yX6_get cX6_get 4 (some .int), Cond.fieldLink RX6 9 "SnowMules$Table" "width" "I", Cond.fieldLink RX6 21 "SnowMules$Table" "cells" "[I", Cond.methodLink RX5 118 yX5_farTo, Cond.instanceMethod yX5_farTo, Cond.selects RX5 yX5_farTo yX5_farTo, Cond.code yX5_farTo cX5_farTo 2 (some .int), Cond.methodLink RX5 129 yX5_reach, Cond.instanceMethod yX5_reach, Cond.selects RX5 yX5_reach yX5_reach, Cond.code yX5_reach cX5_reach 3 (some .boolean), Cond.methodLink RX10 233 yX5_farTo]
def wsX10_soonest : List Cond := .code yX10_soonest cX10_soonest 4 (some .int) :: ((wsX10_soonest_r1 ++ wsX10_soonest_r2) ++ wsX100 ++ wsX90 ++ wsX60 ++ wsX50)
def wsX10_nearest_r1 : List Cond := [Cond.fieldLink RX10 10 "SnowMules" "world" "LSnowMules$World;", Cond.fieldLink RX10 83 "SnowMules$World" "nodes" "LSnowMules$Table;", Cond.fieldLink RX10 61 "SnowMules" "search" "LSnowMules$Search;", Cond.constant RX10 236 (1000000), Cond.fieldLink RX10 188 "SnowMules$Table" "size" "I", Cond.methodLink RX10 97 yX6_has, Cond.instanceMethod yX6_has, Cond.selects RX6 yX6_has yX6_has, Cond.initialized RX6, Cond.code yX6_has cX6_has 2 (some .boolean), Cond.fieldLink RX6 25 "SnowMules$Table" "size" "I", Cond.methodLink RX10 79 yX10_within, Cond.static yX10_within, Cond.initialized RX10, Cond.code yX10_within cX10_within 2 (some .boolean), Cond.methodLink RX10 229 yX5_measure, Cond.instanceMethod yX5_measure, Cond.selects RX5 yX5_measure yX5_measure, Cond.initialized RX5, Cond.code yX5_measure cX5_measure 7 none, Cond.fieldLink RX5 9 "SnowMules$Search" "far" "[I", Cond.constant RX5 40 (1000000), Cond.fieldLink RX5 21 "SnowMules$Search" "world" "LSnowMules$World;", Cond.fieldLink RX5 109 "SnowMules$World" "passes" "LSnowMules$Table;"]
def wsX10_nearest_r2 : List Cond := [Cond.fieldLink RX5 112 "SnowMules$Table" "size" "I", Cond.methodLink RX5 125 yX5_shorten, Cond.instanceMethod yX5_shorten, Cond.selects RX5 yX5_shorten yX5_shorten, Cond.code yX5_shorten cX5_shorten 6 (some .boolean), Cond.methodLink RX5 82 yX6_get, Cond.instanceMethod yX6_get, Cond.selects RX6 yX6_get yX6_get, Cond.code yX6_get cX6_get 4 (some .int), Cond.fieldLink RX6 9 "SnowMules$Table" "width" "I", Cond.fieldLink RX6 21 "SnowMules$Table" "cells" "[I", Cond.methodLink RX5 118 yX5_farTo, Cond.instanceMethod yX5_farTo, Cond.selects RX5 yX5_farTo yX5_farTo, Cond.code yX5_farTo cX5_farTo 2 (some .int), Cond.methodLink RX5 129 yX5_reach, Cond.instanceMethod yX5_reach, Cond.selects RX5 yX5_reach yX5_reach, Cond.code yX5_reach cX5_reach 3 (some .boolean), Cond.methodLink RX10 147 yX9_hasSnow, Cond.instanceMethod yX9_hasSnow, Cond.selects RX9 yX9_hasSnow yX9_hasSnow, Cond.initialized RX9, Cond.code yX9_hasSnow cX9_hasSnow 3 (some .boolean)]
def wsX10_nearest_r3 : List Cond := [Cond.fieldLink RX9 14 "SnowMules$World" "nodes" "LSnowMules$Table;", Cond.methodLink RX9 52 yX6_get, Cond.methodLink RX10 233 yX5_farTo]
def wsX10_nearest : List Cond := .code yX10_nearest cX10_nearest 6 (some .int) :: ((wsX10_nearest_r1 ++ (wsX10_nearest_r2 ++ wsX10_nearest_r3)) ++ wsX100 ++ wsX90 ++ wsX60 ++ wsX50)
def wsX10_warmer_r1 : List Cond := [Cond.constant RX10 140 (99999), Cond.fieldLink RX10 10 "SnowMules" "world" "LSnowMules$World;", Cond.fieldLink RX10 176 "SnowMules$World" "wayStart" "I", Cond.fieldLink RX10 52 "SnowMules" "trip" "LSnowMules$Trip;", Cond.fieldLink RX10 237 "SnowMules$Trip" "warmth" "I", Cond.methodLink RX10 240 Lib.Math.max.name, Cond.static Lib.Math.max.name, Cond.initialized "java/lang/Math", Cond.code Lib.Math.max.name Lib.Math.max.code 2 (some .int), Cond.fieldLink RX10 245 "SnowMules$Trip" "needed" "I", Cond.methodLink RX10 161 yX10_lawOf, Cond.instanceMethod yX10_lawOf, Cond.selects RX10 yX10_lawOf yX10_lawOf, Cond.initialized RX10, Cond.code yX10_lawOf cX10_lawOf 2 (some (.object "SnowMules$Law")), Cond.fieldLink RX10 128 "SnowMules" "lawCount" "I", Cond.fieldLink RX10 29 "SnowMules" "laws" "[LSnowMules$Law;", Cond.methodLink RX10 79 yX10_within, Cond.static yX10_within, Cond.code yX10_within cX10_within 2 (some .boolean), Cond.methodLink RX10 191 yX10_isLoad, Cond.static yX10_isLoad, Cond.code yX10_isLoad cX10_isLoad 4 (some .boolean), Cond.methodLink RX10 104 yX10_isCover]
def wsX10_warmer_r2 : List Cond := [Cond.static yX10_isCover, Cond.code yX10_isCover cX10_isCover 2 (some .boolean), Cond.methodLink RX10 195 yX7_begin, Cond.instanceMethod yX7_begin, Cond.selects RX7 yX7_begin yX7_begin, Cond.initialized RX7, Cond.code yX7_begin cX7_begin 6 none, Cond.fieldLink RX7 12 "SnowMules$Trip" "law" "LSnowMules$Law;", Cond.fieldLink RX7 29 "SnowMules$Trip" "hour" "I", Cond.fieldLink RX7 33 "SnowMules$Trip" "drops" "I", Cond.fieldLink RX7 36 "SnowMules$Trip" "felt" "I", Cond.fieldLink RX7 39 "SnowMules$Trip" "salt" "I", Cond.fieldLink RX7 42 "SnowMules$Trip" "warmth" "I", Cond.fieldLink RX7 45 "SnowMules$Trip" "needed" "I", Cond.methodLink RX10 199 yX7_followKeeping, Cond.instanceMethod yX7_followKeeping, Cond.selects RX7 yX7_followKeeping yX7_followKeeping, Cond.code yX7_followKeeping cX7_followKeeping 4 (some .boolean), Cond.fieldLink RX7 25 "SnowMules$Trip" "world" "LSnowMules$World;", Cond.fieldLink RX7 97 "SnowMules$World" "wayStart" "I", Cond.fieldLink RX7 100 "SnowMules$World" "way" "LSnowMules$Table;", Cond.fieldLink RX7 103 "SnowMules$Table" "size" "I", Cond.methodLink RX7 84 yX6_get, Cond.instanceMethod yX6_get]
def wsX10_warmer_r3 : List Cond := [Cond.selects RX6 yX6_get yX6_get, Cond.initialized RX6, Cond.code yX6_get cX6_get 4 (some .int), Cond.fieldLink RX6 9 "SnowMules$Table" "width" "I", Cond.fieldLink RX6 21 "SnowMules$Table" "cells" "[I", Cond.methodLink RX7 106 yX7_cross, Cond.instanceMethod yX7_cross, Cond.selects RX7 yX7_cross yX7_cross, Cond.code yX7_cross cX7_cross 6 (some .int), Cond.fieldLink RX7 80 "SnowMules$World" "passes" "LSnowMules$Table;", Cond.fieldLink RX7 21 "SnowMules$Trip" "scene" "LSnowMules$Scene;", Cond.fieldLink RX7 62 "SnowMules$Scene" "words" "[I", Cond.methodLink RX7 74 yX9_otherEnd, Cond.instanceMethod yX9_otherEnd, Cond.selects RX9 yX9_otherEnd yX9_otherEnd, Cond.initialized RX9, Cond.code yX9_otherEnd cX9_otherEnd 5 (some .int), Cond.fieldLink RX9 20 "SnowMules$World" "passes" "LSnowMules$Table;", Cond.methodLink RX9 56 yX6_has, Cond.instanceMethod yX6_has, Cond.selects RX6 yX6_has yX6_has, Cond.code yX6_has cX6_has 2 (some .boolean), Cond.fieldLink RX6 25 "SnowMules$Table" "size" "I", Cond.methodLink RX9 52 yX6_get]
def wsX10_warmer_r4 : List Cond := [Cond.methodLink RX7 89 yX4_setPass, Cond.instanceMethod yX4_setPass, Cond.selects RX4 yX4_setPass yX4_setPass, Cond.initialized RX4, Cond.code yX4_setPass cX4_setPass 5 none, Cond.fieldLink RX4 21 "SnowMules$World" "nodes" "LSnowMules$Table;", Cond.fieldLink RX4 34 "SnowMules$Scene" "heightBehind" "I", Cond.fieldLink RX4 38 "SnowMules$Scene" "heightAhead" "I", Cond.fieldLink RX4 41 "SnowMules$World" "passes" "LSnowMules$Table;", Cond.fieldLink RX4 44 "SnowMules$Scene" "hoursOfPass" "I", Cond.fieldLink RX4 11 "SnowMules$Scene" "words" "[I", Cond.methodLink RX4 31 yX9_otherEnd, Cond.methodLink RX4 25 yX6_get, Cond.methodLink RX7 93 yX4_setGone, Cond.instanceMethod yX4_setGone, Cond.selects RX4 yX4_setGone yX4_setGone, Cond.code yX4_setGone cX4_setGone 3 none, Cond.methodLink RX7 52 yX7_meltOneHour, Cond.instanceMethod yX7_meltOneHour, Cond.selects RX7 yX7_meltOneHour yX7_meltOneHour, Cond.code yX7_meltOneHour cX7_meltOneHour 1 none, Cond.methodLink RX7 55 yX4_setHour, Cond.instanceMethod yX4_setHour, Cond.selects RX4 yX4_setHour yX4_setHour]
def wsX10_warmer_r5 : List Cond := [Cond.code yX4_setHour cX4_setHour 3 none, Cond.methodLink RX4 15 yX9_monthAt, Cond.instanceMethod yX9_monthAt, Cond.selects RX9 yX9_monthAt yX9_monthAt, Cond.code yX9_monthAt cX9_monthAt 2 (some .int), Cond.fieldLink RX9 46 "SnowMules$World" "firstMonth" "I", Cond.methodLink RX7 58 yX4_setLoad, Cond.instanceMethod yX4_setLoad, Cond.selects RX4 yX4_setLoad yX4_setLoad, Cond.code yX4_setLoad cX4_setLoad 4 none, Cond.methodLink RX7 66 yX1_sumOf, Cond.instanceMethod yX1_sumOf, Cond.selects RX1 yX1_sumOf yX1_sumOf, Cond.initialized RX1, Cond.code yX1_sumOf cX1_sumOf 4 (some .long), Cond.fieldLink RX1 50 "SnowMules$Law" "clauses" "I", Cond.fieldLink RX1 9 "SnowMules$Law" "sorts" "[I", Cond.fieldLink RX1 19 "SnowMules$Law" "testStarts" "[I", Cond.fieldLink RX1 22 "SnowMules$Law" "testStops" "[I", Cond.fieldLink RX1 13 "SnowMules$Law" "sumStarts" "[I", Cond.fieldLink RX1 16 "SnowMules$Law" "sumStops" "[I", Cond.methodLink RX1 66 yX1_holds, Cond.instanceMethod yX1_holds, Cond.selects RX1 yX1_holds yX1_holds]
def wsX10_warmer_r6 : List Cond := [Cond.code yX1_holds cX1_holds 12 (some .boolean), Cond.fieldLink RX1 43 "SnowMules$Law" "tests" "[I", Cond.constantLong RX1 74 (-2), Cond.fieldLink RX1 31 "SnowMules$Law" "factStarts" "[I", Cond.fieldLink RX1 34 "SnowMules$Law" "factMiddles" "[I", Cond.fieldLink RX1 37 "SnowMules$Law" "factStops" "[I", Cond.fieldLink RX1 40 "SnowMules$Law" "signs" "[I", Cond.methodLink RX1 70 yX1_total, Cond.instanceMethod yX1_total, Cond.selects RX1 yX1_total yX1_total, Cond.code yX1_total cX1_total 15 (some .long), Cond.fieldLink RX1 28 "SnowMules$Law" "operands" "[I", Cond.fieldLink RX1 25 "SnowMules$Law" "joins" "[I", Cond.methodLink RX1 76 yX1_isTrue, Cond.static yX1_isTrue, Cond.code yX1_isTrue cX1_isTrue 5 (some .boolean), Cond.static yX10_held, Cond.code yX10_held cX10_held 3 (some .int), Cond.methodLink RX7 48 yX4_setNode, Cond.instanceMethod yX4_setNode, Cond.selects RX4 yX4_setNode yX4_setNode, Cond.code yX4_setNode cX4_setNode 3 none]
def wsX10_warmer : List Cond := .code yX10_warmer cX10_warmer 10 (some .int) :: ((wsX10_warmer_r1 ++ (wsX10_warmer_r2 ++ (wsX10_warmer_r3 ++ (wsX10_warmer_r4 ++ (wsX10_warmer_r5 ++ wsX10_warmer_r6))))) ++ wsX100 ++ wsX90 ++ wsX70 ++ wsX60 ++ wsX40 ++ wsX10)
def wsX10_guess_r1 : List Cond := [Cond.constant RX10 140 (99999), Cond.fieldLink RX10 10 "SnowMules" "world" "LSnowMules$World;", Cond.fieldLink RX10 185 "SnowMules$World" "way" "LSnowMules$Table;", Cond.fieldLink RX10 176 "SnowMules$World" "wayStart" "I", Cond.fieldLink RX10 52 "SnowMules" "trip" "LSnowMules$Trip;", Cond.fieldLink RX10 68 "SnowMules" "waits" "LSnowMules$Waits;", Cond.fieldLink RX10 251 "SnowMules$Waits" "found" "I", Cond.methodLink RX10 161 yX10_lawOf, Cond.instanceMethod yX10_lawOf, Cond.selects RX10 yX10_lawOf yX10_lawOf, Cond.initialized RX10, Cond.code yX10_lawOf cX10_lawOf 2 (some (.object "SnowMules$Law")), Cond.fieldLink RX10 128 "SnowMules" "lawCount" "I", Cond.fieldLink RX10 29 "SnowMules" "laws" "[LSnowMules$Law;", Cond.methodLink RX10 79 yX10_within, Cond.static yX10_within, Cond.code yX10_within cX10_within 2 (some .boolean), Cond.methodLink RX10 97 yX6_has, Cond.instanceMethod yX6_has, Cond.selects RX6 yX6_has yX6_has, Cond.initialized RX6, Cond.code yX6_has cX6_has 2 (some .boolean), Cond.fieldLink RX6 25 "SnowMules$Table" "size" "I", Cond.methodLink RX10 191 yX10_isLoad]
def wsX10_guess_r2 : List Cond := [Cond.static yX10_isLoad, Cond.code yX10_isLoad cX10_isLoad 4 (some .boolean), Cond.methodLink RX10 104 yX10_isCover, Cond.static yX10_isCover, Cond.code yX10_isCover cX10_isCover 2 (some .boolean), Cond.methodLink RX10 195 yX7_begin, Cond.instanceMethod yX7_begin, Cond.selects RX7 yX7_begin yX7_begin, Cond.initialized RX7, Cond.code yX7_begin cX7_begin 6 none, Cond.fieldLink RX7 12 "SnowMules$Trip" "law" "LSnowMules$Law;", Cond.fieldLink RX7 29 "SnowMules$Trip" "hour" "I", Cond.fieldLink RX7 33 "SnowMules$Trip" "drops" "I", Cond.fieldLink RX7 36 "SnowMules$Trip" "felt" "I", Cond.fieldLink RX7 39 "SnowMules$Trip" "salt" "I", Cond.fieldLink RX7 42 "SnowMules$Trip" "warmth" "I", Cond.fieldLink RX7 45 "SnowMules$Trip" "needed" "I", Cond.methodLink RX10 248 yX8_find, Cond.instanceMethod yX8_find, Cond.selects RX8 yX8_find yX8_find, Cond.initialized RX8, Cond.code yX8_find cX8_find 4 none, Cond.fieldLink RX8 29 "SnowMules$Waits" "found" "I", Cond.fieldLink RX8 33 "SnowMules$Waits" "due" "I"]
def wsX10_guess_r3 : List Cond := [Cond.fieldLink RX8 25 "SnowMules$Waits" "trip" "LSnowMules$Trip;", Cond.methodLink RX8 36 Lib.Math.max.name, Cond.static Lib.Math.max.name, Cond.initialized "java/lang/Math", Cond.code Lib.Math.max.name Lib.Math.max.code 2 (some .int), Cond.fieldLink RX8 42 "SnowMules$Trip" "needed" "I", Cond.fieldLink RX8 15 "SnowMules$Waits" "fewest" "[I", Cond.fieldLink RX8 18 "SnowMules$Waits" "most" "[I", Cond.fieldLink RX8 21 "SnowMules$Waits" "world" "LSnowMules$World;", Cond.fieldLink RX8 47 "SnowMules$World" "wayStart" "I", Cond.methodLink RX8 52 yX8_spread, Cond.instanceMethod yX8_spread, Cond.selects RX8 yX8_spread yX8_spread, Cond.code yX8_spread cX8_spread 10 none, Cond.fieldLink RX8 56 "SnowMules$World" "way" "LSnowMules$Table;", Cond.fieldLink RX8 60 "SnowMules$Table" "size" "I", Cond.fieldLink RX8 65 "SnowMules$Trip" "drops" "I", Cond.fieldLink RX8 75 "SnowMules$Trip" "hour" "I", Cond.fieldLink RX8 9 "SnowMules$Waits" "waited" "[I", Cond.methodLink RX8 68 yX8_note, Cond.instanceMethod yX8_note, Cond.selects RX8 yX8_note yX8_note, Cond.code yX8_note cX8_note 3 none, Cond.methodLink RX8 84 Lib.Math.min.name]
def wsX10_guess_r4 : List Cond := [Cond.static Lib.Math.min.name, Cond.code Lib.Math.min.name Lib.Math.min.code 2 (some .int), Cond.methodLink RX8 72 yX6_get, Cond.instanceMethod yX6_get, Cond.selects RX6 yX6_get yX6_get, Cond.code yX6_get cX6_get 4 (some .int), Cond.fieldLink RX6 9 "SnowMules$Table" "width" "I", Cond.fieldLink RX6 21 "SnowMules$Table" "cells" "[I", Cond.methodLink RX8 78 yX7_cross, Cond.instanceMethod yX7_cross, Cond.selects RX7 yX7_cross yX7_cross, Cond.code yX7_cross cX7_cross 6 (some .int), Cond.fieldLink RX7 25 "SnowMules$Trip" "world" "LSnowMules$World;", Cond.fieldLink RX7 80 "SnowMules$World" "passes" "LSnowMules$Table;", Cond.fieldLink RX7 21 "SnowMules$Trip" "scene" "LSnowMules$Scene;", Cond.fieldLink RX7 62 "SnowMules$Scene" "words" "[I", Cond.methodLink RX7 74 yX9_otherEnd, Cond.instanceMethod yX9_otherEnd, Cond.selects RX9 yX9_otherEnd yX9_otherEnd, Cond.initialized RX9, Cond.code yX9_otherEnd cX9_otherEnd 5 (some .int), Cond.fieldLink RX9 20 "SnowMules$World" "passes" "LSnowMules$Table;", Cond.methodLink RX9 56 yX6_has, Cond.methodLink RX9 52 yX6_get]
def wsX10_guess_r5 : List Cond := [Cond.methodLink RX7 84 yX6_get, Cond.methodLink RX7 89 yX4_setPass, Cond.instanceMethod yX4_setPass, Cond.selects RX4 yX4_setPass yX4_setPass, Cond.initialized RX4, Cond.code yX4_setPass cX4_setPass 5 none, Cond.fieldLink RX4 21 "SnowMules$World" "nodes" "LSnowMules$Table;", Cond.fieldLink RX4 34 "SnowMules$Scene" "heightBehind" "I", Cond.fieldLink RX4 38 "SnowMules$Scene" "heightAhead" "I", Cond.fieldLink RX4 41 "SnowMules$World" "passes" "LSnowMules$Table;", Cond.fieldLink RX4 44 "SnowMules$Scene" "hoursOfPass" "I", Cond.fieldLink RX4 11 "SnowMules$Scene" "words" "[I", Cond.methodLink RX4 31 yX9_otherEnd, Cond.methodLink RX4 25 yX6_get, Cond.methodLink RX7 93 yX4_setGone, Cond.instanceMethod yX4_setGone, Cond.selects RX4 yX4_setGone yX4_setGone, Cond.code yX4_setGone cX4_setGone 3 none, Cond.methodLink RX7 52 yX7_meltOneHour, Cond.instanceMethod yX7_meltOneHour, Cond.selects RX7 yX7_meltOneHour yX7_meltOneHour, Cond.code yX7_meltOneHour cX7_meltOneHour 1 none, Cond.methodLink RX7 55 yX4_setHour, Cond.instanceMethod yX4_setHour]
def wsX10_guess_r6 : List Cond := [Cond.selects RX4 yX4_setHour yX4_setHour, Cond.code yX4_setHour cX4_setHour 3 none, Cond.methodLink RX4 15 yX9_monthAt, Cond.instanceMethod yX9_monthAt, Cond.selects RX9 yX9_monthAt yX9_monthAt, Cond.code yX9_monthAt cX9_monthAt 2 (some .int), Cond.fieldLink RX9 46 "SnowMules$World" "firstMonth" "I", Cond.methodLink RX7 58 yX4_setLoad, Cond.instanceMethod yX4_setLoad, Cond.selects RX4 yX4_setLoad yX4_setLoad, Cond.code yX4_setLoad cX4_setLoad 4 none, Cond.methodLink RX7 66 yX1_sumOf, Cond.instanceMethod yX1_sumOf, Cond.selects RX1 yX1_sumOf yX1_sumOf, Cond.initialized RX1, Cond.code yX1_sumOf cX1_sumOf 4 (some .long), Cond.fieldLink RX1 50 "SnowMules$Law" "clauses" "I", Cond.fieldLink RX1 9 "SnowMules$Law" "sorts" "[I", Cond.fieldLink RX1 19 "SnowMules$Law" "testStarts" "[I", Cond.fieldLink RX1 22 "SnowMules$Law" "testStops" "[I", Cond.fieldLink RX1 13 "SnowMules$Law" "sumStarts" "[I", Cond.fieldLink RX1 16 "SnowMules$Law" "sumStops" "[I", Cond.methodLink RX1 66 yX1_holds, Cond.instanceMethod yX1_holds]
def wsX10_guess_r7 : List Cond := [Cond.selects RX1 yX1_holds yX1_holds, Cond.code yX1_holds cX1_holds 12 (some .boolean), Cond.fieldLink RX1 43 "SnowMules$Law" "tests" "[I", Cond.constantLong RX1 74 (-2), Cond.fieldLink RX1 31 "SnowMules$Law" "factStarts" "[I", Cond.fieldLink RX1 34 "SnowMules$Law" "factMiddles" "[I", Cond.fieldLink RX1 37 "SnowMules$Law" "factStops" "[I", Cond.fieldLink RX1 40 "SnowMules$Law" "signs" "[I", Cond.methodLink RX1 70 yX1_total, Cond.instanceMethod yX1_total, Cond.selects RX1 yX1_total yX1_total, Cond.code yX1_total cX1_total 15 (some .long), Cond.fieldLink RX1 28 "SnowMules$Law" "operands" "[I", Cond.fieldLink RX1 25 "SnowMules$Law" "joins" "[I", Cond.methodLink RX1 76 yX1_isTrue, Cond.static yX1_isTrue, Cond.code yX1_isTrue cX1_isTrue 5 (some .boolean), Cond.static yX10_held, Cond.code yX10_held cX10_held 3 (some .int), Cond.methodLink RX7 48 yX4_setNode, Cond.instanceMethod yX4_setNode, Cond.selects RX4 yX4_setNode yX4_setNode, Cond.code yX4_setNode cX4_setNode 3 none, Cond.methodLink RX8 81 yX7_waitAt]
def wsX10_guess_r8 : List Cond := [Cond.instanceMethod yX7_waitAt, Cond.selects RX7 yX7_waitAt yX7_waitAt, Cond.code yX7_waitAt cX7_waitAt 2 none, Cond.methodLink RX10 254 yX8_fewestAt, Cond.instanceMethod yX8_fewestAt, Cond.selects RX8 yX8_fewestAt yX8_fewestAt, Cond.code yX8_fewestAt cX8_fewestAt 2 (some .int), Cond.methodLink RX10 257 yX8_mostAt, Cond.instanceMethod yX8_mostAt, Cond.selects RX8 yX8_mostAt yX8_mostAt, Cond.code yX8_mostAt cX8_mostAt 2 (some .int)]
def wsX10_guess : List Cond := .code yX10_guess cX10_guess 13 (some .int) :: ((wsX10_guess_r1 ++ (wsX10_guess_r2 ++ (wsX10_guess_r3 ++ (wsX10_guess_r4 ++ (wsX10_guess_r5 ++ (wsX10_guess_r6 ++ (wsX10_guess_r7 ++ wsX10_guess_r8))))))) ++ wsX100 ++ wsX90 ++ wsX80 ++ wsX60 ++ wsX70 ++ wsX40 ++ wsX10)
def wsX10_isWish : List Cond := .code yX10_isWish cX10_isWish 1 (some .boolean) :: ([.constant RX10 140 (99999)])
def wsX10_order_r1 : List Cond := [Cond.constant RX10 140 (99999), Cond.fieldLink RX10 10 "SnowMules" "world" "LSnowMules$World;", Cond.fieldLink RX10 83 "SnowMules$World" "nodes" "LSnowMules$Table;", Cond.fieldLink RX10 263 "SnowMules$World" "orders" "LSnowMules$Table;", Cond.methodLink RX10 79 yX10_within, Cond.static yX10_within, Cond.initialized RX10, Cond.code yX10_within cX10_within 2 (some .boolean), Cond.methodLink RX10 260 yX10_isWish, Cond.static yX10_isWish, Cond.code yX10_isWish cX10_isWish 1 (some .boolean), Cond.methodLink RX10 97 yX6_has, Cond.instanceMethod yX6_has, Cond.selects RX6 yX6_has yX6_has, Cond.initialized RX6, Cond.code yX6_has cX6_has 2 (some .boolean), Cond.fieldLink RX6 25 "SnowMules$Table" "size" "I", Cond.methodLink RX10 87 yX6_grow, Cond.instanceMethod yX6_grow, Cond.selects RX6 yX6_grow yX6_grow, Cond.code yX6_grow cX6_grow 1 (some .int), Cond.fieldLink RX6 9 "SnowMules$Table" "width" "I", Cond.fieldLink RX6 21 "SnowMules$Table" "cells" "[I", Cond.methodLink RX10 93 yX6_put]
def wsX10_order_r2 : List Cond := [Cond.instanceMethod yX6_put, Cond.selects RX6 yX6_put yX6_put, Cond.code yX6_put cX6_put 5 none]
def wsX10_order : List Cond := .code yX10_order cX10_order 7 (some .int) :: ((wsX10_order_r1 ++ wsX10_order_r2) ++ wsX100 ++ wsX90 ++ wsX60)
def wsX10_serves_r1 : List Cond := [Cond.fieldLink RX10 10 "SnowMules" "world" "LSnowMules$World;", Cond.fieldLink RX10 107 "SnowMules$World" "jars" "LSnowMules$Table;", Cond.fieldLink RX10 263 "SnowMules$World" "orders" "LSnowMules$Table;", Cond.fieldLink RX10 61 "SnowMules" "search" "LSnowMules$Search;", Cond.methodLink RX10 161 yX10_lawOf, Cond.instanceMethod yX10_lawOf, Cond.selects RX10 yX10_lawOf yX10_lawOf, Cond.initialized RX10, Cond.code yX10_lawOf cX10_lawOf 2 (some (.object "SnowMules$Law")), Cond.fieldLink RX10 128 "SnowMules" "lawCount" "I", Cond.fieldLink RX10 29 "SnowMules" "laws" "[LSnowMules$Law;", Cond.methodLink RX10 79 yX10_within, Cond.static yX10_within, Cond.code yX10_within cX10_within 2 (some .boolean), Cond.methodLink RX10 97 yX6_has, Cond.instanceMethod yX6_has, Cond.selects RX6 yX6_has yX6_has, Cond.initialized RX6, Cond.code yX6_has cX6_has 2 (some .boolean), Cond.fieldLink RX6 25 "SnowMules$Table" "size" "I", Cond.methodLink RX10 266 yX5_leftFor, Cond.instanceMethod yX5_leftFor, Cond.selects RX5 yX5_leftFor yX5_leftFor, Cond.initialized RX5]
def wsX10_serves_r2 : List Cond := [Cond.code yX5_leftFor cX5_leftFor 8 (some .int), Cond.fieldLink RX5 21 "SnowMules$Search" "world" "LSnowMules$World;", Cond.fieldLink RX5 78 "SnowMules$World" "orders" "LSnowMules$Table;", Cond.fieldLink RX5 36 "SnowMules$Search" "anyWill" "Z", Cond.fieldLink RX5 41 "SnowMules$Search" "latest" "I", Cond.fieldLink RX5 44 "SnowMules$Search" "left" "I", Cond.fieldLink RX5 92 "SnowMules$World" "jars" "LSnowMules$Table;", Cond.fieldLink RX5 25 "SnowMules$Search" "trip" "LSnowMules$Trip;", Cond.fieldLink RX5 95 "SnowMules$World" "now" "I", Cond.fieldLink RX5 102 "SnowMules$Trip" "needed" "I", Cond.methodLink RX5 72 yX9_nodeOf, Cond.instanceMethod yX9_nodeOf, Cond.selects RX9 yX9_nodeOf yX9_nodeOf, Cond.initialized RX9, Cond.code yX9_nodeOf cX9_nodeOf 3 (some .int), Cond.fieldLink RX9 23 "SnowMules$World" "jars" "LSnowMules$Table;", Cond.methodLink RX9 56 yX6_has, Cond.methodLink RX9 52 yX6_get, Cond.instanceMethod yX6_get, Cond.selects RX6 yX6_get yX6_get, Cond.code yX6_get cX6_get 4 (some .int), Cond.fieldLink RX6 9 "SnowMules$Table" "width" "I", Cond.fieldLink RX6 21 "SnowMules$Table" "cells" "[I", Cond.methodLink RX5 82 yX6_get]
def wsX10_serves_r3 : List Cond := [Cond.methodLink RX5 88 yX5_aim, Cond.instanceMethod yX5_aim, Cond.selects RX5 yX5_aim yX5_aim, Cond.code yX5_aim cX5_aim 3 none, Cond.fieldLink RX5 29 "SnowMules$Search" "target" "I", Cond.fieldLink RX5 33 "SnowMules$Search" "barred" "I", Cond.constant RX5 40 (1000000), Cond.fieldLink RX5 47 "SnowMules$Search" "leaving" "I", Cond.fieldLink RX5 50 "SnowMules$Search" "waited" "I", Cond.fieldLink RX5 53 "SnowMules$Search" "length" "I", Cond.methodLink RX5 56 yX5_measure, Cond.instanceMethod yX5_measure, Cond.selects RX5 yX5_measure yX5_measure, Cond.code yX5_measure cX5_measure 7 none, Cond.fieldLink RX5 9 "SnowMules$Search" "far" "[I", Cond.fieldLink RX5 109 "SnowMules$World" "passes" "LSnowMules$Table;", Cond.fieldLink RX5 112 "SnowMules$Table" "size" "I", Cond.methodLink RX5 125 yX5_shorten, Cond.instanceMethod yX5_shorten, Cond.selects RX5 yX5_shorten yX5_shorten, Cond.code yX5_shorten cX5_shorten 6 (some .boolean), Cond.methodLink RX5 118 yX5_farTo, Cond.instanceMethod yX5_farTo, Cond.selects RX5 yX5_farTo yX5_farTo]
def wsX10_serves_r4 : List Cond := [Cond.code yX5_farTo cX5_farTo 2 (some .int), Cond.methodLink RX5 129 yX5_reach, Cond.instanceMethod yX5_reach, Cond.selects RX5 yX5_reach yX5_reach, Cond.code yX5_reach cX5_reach 3 (some .boolean), Cond.methodLink RX5 98 yX7_begin, Cond.instanceMethod yX7_begin, Cond.selects RX7 yX7_begin yX7_begin, Cond.initialized RX7, Cond.code yX7_begin cX7_begin 6 none, Cond.fieldLink RX7 12 "SnowMules$Trip" "law" "LSnowMules$Law;", Cond.fieldLink RX7 29 "SnowMules$Trip" "hour" "I", Cond.fieldLink RX7 33 "SnowMules$Trip" "drops" "I", Cond.fieldLink RX7 36 "SnowMules$Trip" "felt" "I", Cond.fieldLink RX7 39 "SnowMules$Trip" "salt" "I", Cond.fieldLink RX7 42 "SnowMules$Trip" "warmth" "I", Cond.fieldLink RX7 45 "SnowMules$Trip" "needed" "I", Cond.methodLink RX5 68 yX5_seek, Cond.instanceMethod yX5_seek, Cond.selects RX5 yX5_seek yX5_seek, Cond.code yX5_seek cX5_seek 9 none, Cond.fieldLink RX5 65 "SnowMules$Trip" "drops" "I", Cond.fieldLink RX5 60 "SnowMules$Trip" "hour" "I", Cond.fieldLink RX5 15 "SnowMules$Search" "row" "[I"]
def wsX10_serves_r5 : List Cond := [Cond.methodLink RX5 105 yX5_keep, Cond.instanceMethod yX5_keep, Cond.selects RX5 yX5_keep yX5_keep, Cond.code yX5_keep cX5_keep 3 none, Cond.constant RX5 124 (99999), Cond.fieldLink RX5 18 "SnowMules$Search" "bestRow" "[I", Cond.methodLink RX5 115 yX9_otherEnd, Cond.instanceMethod yX9_otherEnd, Cond.selects RX9 yX9_otherEnd yX9_otherEnd, Cond.code yX9_otherEnd cX9_otherEnd 5 (some .int), Cond.fieldLink RX9 20 "SnowMules$World" "passes" "LSnowMules$Table;", Cond.methodLink RX5 121 yX7_cross, Cond.instanceMethod yX7_cross, Cond.selects RX7 yX7_cross yX7_cross, Cond.code yX7_cross cX7_cross 6 (some .int), Cond.fieldLink RX7 25 "SnowMules$Trip" "world" "LSnowMules$World;", Cond.fieldLink RX7 80 "SnowMules$World" "passes" "LSnowMules$Table;", Cond.fieldLink RX7 21 "SnowMules$Trip" "scene" "LSnowMules$Scene;", Cond.fieldLink RX7 62 "SnowMules$Scene" "words" "[I", Cond.methodLink RX7 74 yX9_otherEnd, Cond.methodLink RX7 84 yX6_get, Cond.methodLink RX7 89 yX4_setPass, Cond.instanceMethod yX4_setPass, Cond.selects RX4 yX4_setPass yX4_setPass]
def wsX10_serves_r6 : List Cond := [Cond.initialized RX4, Cond.code yX4_setPass cX4_setPass 5 none, Cond.fieldLink RX4 21 "SnowMules$World" "nodes" "LSnowMules$Table;", Cond.fieldLink RX4 34 "SnowMules$Scene" "heightBehind" "I", Cond.fieldLink RX4 38 "SnowMules$Scene" "heightAhead" "I", Cond.fieldLink RX4 41 "SnowMules$World" "passes" "LSnowMules$Table;", Cond.fieldLink RX4 44 "SnowMules$Scene" "hoursOfPass" "I", Cond.fieldLink RX4 11 "SnowMules$Scene" "words" "[I", Cond.methodLink RX4 31 yX9_otherEnd, Cond.methodLink RX4 25 yX6_get, Cond.methodLink RX7 93 yX4_setGone, Cond.instanceMethod yX4_setGone, Cond.selects RX4 yX4_setGone yX4_setGone, Cond.code yX4_setGone cX4_setGone 3 none, Cond.methodLink RX7 52 yX7_meltOneHour, Cond.instanceMethod yX7_meltOneHour, Cond.selects RX7 yX7_meltOneHour yX7_meltOneHour, Cond.code yX7_meltOneHour cX7_meltOneHour 1 none, Cond.methodLink RX7 55 yX4_setHour, Cond.instanceMethod yX4_setHour, Cond.selects RX4 yX4_setHour yX4_setHour, Cond.code yX4_setHour cX4_setHour 3 none, Cond.methodLink RX4 15 yX9_monthAt, Cond.instanceMethod yX9_monthAt]
def wsX10_serves_r7 : List Cond := [Cond.selects RX9 yX9_monthAt yX9_monthAt, Cond.code yX9_monthAt cX9_monthAt 2 (some .int), Cond.fieldLink RX9 46 "SnowMules$World" "firstMonth" "I", Cond.methodLink RX7 58 yX4_setLoad, Cond.instanceMethod yX4_setLoad, Cond.selects RX4 yX4_setLoad yX4_setLoad, Cond.code yX4_setLoad cX4_setLoad 4 none, Cond.methodLink RX7 66 yX1_sumOf, Cond.instanceMethod yX1_sumOf, Cond.selects RX1 yX1_sumOf yX1_sumOf, Cond.initialized RX1, Cond.code yX1_sumOf cX1_sumOf 4 (some .long), Cond.fieldLink RX1 50 "SnowMules$Law" "clauses" "I", Cond.fieldLink RX1 9 "SnowMules$Law" "sorts" "[I", Cond.fieldLink RX1 19 "SnowMules$Law" "testStarts" "[I", Cond.fieldLink RX1 22 "SnowMules$Law" "testStops" "[I", Cond.fieldLink RX1 13 "SnowMules$Law" "sumStarts" "[I", Cond.fieldLink RX1 16 "SnowMules$Law" "sumStops" "[I", Cond.methodLink RX1 66 yX1_holds, Cond.instanceMethod yX1_holds, Cond.selects RX1 yX1_holds yX1_holds, Cond.code yX1_holds cX1_holds 12 (some .boolean), Cond.fieldLink RX1 43 "SnowMules$Law" "tests" "[I", Cond.constantLong RX1 74 (-2)]
def wsX10_serves_r8 : List Cond := [Cond.fieldLink RX1 31 "SnowMules$Law" "factStarts" "[I", Cond.fieldLink RX1 34 "SnowMules$Law" "factMiddles" "[I", Cond.fieldLink RX1 37 "SnowMules$Law" "factStops" "[I", Cond.fieldLink RX1 40 "SnowMules$Law" "signs" "[I", Cond.methodLink RX1 70 yX1_total, Cond.instanceMethod yX1_total, Cond.selects RX1 yX1_total yX1_total, Cond.code yX1_total cX1_total 15 (some .long), Cond.fieldLink RX1 28 "SnowMules$Law" "operands" "[I", Cond.fieldLink RX1 25 "SnowMules$Law" "joins" "[I", Cond.methodLink RX1 76 yX1_isTrue, Cond.static yX1_isTrue, Cond.code yX1_isTrue cX1_isTrue 5 (some .boolean), Cond.static yX10_held, Cond.code yX10_held cX10_held 3 (some .int), Cond.methodLink RX7 48 yX4_setNode, Cond.instanceMethod yX4_setNode, Cond.selects RX4 yX4_setNode yX4_setNode, Cond.code yX4_setNode cX4_setNode 3 none]
def wsX10_serves : List Cond := .code yX10_serves cX10_serves 5 (some .int) :: ((wsX10_serves_r1 ++ (wsX10_serves_r2 ++ (wsX10_serves_r3 ++ (wsX10_serves_r4 ++ (wsX10_serves_r5 ++ (wsX10_serves_r6 ++ (wsX10_serves_r7 ++ wsX10_serves_r8))))))) ++ wsX100 ++ wsX90 ++ wsX60 ++ wsX50 ++ wsX70 ++ wsX40 ++ wsX10)
def wsX10_all_r1 : List Cond := [Cond.fieldLink RX10 75 "SnowMules" "market" "LSnowMules$Market;", Cond.fieldLink RX10 10 "SnowMules" "world" "LSnowMules$World;", Cond.fieldLink RX10 263 "SnowMules$World" "orders" "LSnowMules$Table;", Cond.fieldLink RX10 188 "SnowMules$Table" "size" "I", Cond.fieldLink RX10 107 "SnowMules$World" "jars" "LSnowMules$Table;", Cond.fieldLink RX10 61 "SnowMules" "search" "LSnowMules$Search;", Cond.fieldLink RX10 279 "SnowMules$Market" "paid" "I", Cond.methodLink RX10 161 yX10_lawOf, Cond.instanceMethod yX10_lawOf, Cond.selects RX10 yX10_lawOf yX10_lawOf, Cond.initialized RX10, Cond.code yX10_lawOf cX10_lawOf 2 (some (.object "SnowMules$Law")), Cond.fieldLink RX10 128 "SnowMules" "lawCount" "I", Cond.fieldLink RX10 29 "SnowMules" "laws" "[LSnowMules$Law;", Cond.methodLink RX10 79 yX10_within, Cond.static yX10_within, Cond.code yX10_within cX10_within 2 (some .boolean), Cond.methodLink RX10 270 yX3_open, Cond.instanceMethod yX3_open, Cond.selects RX3 yX3_open yX3_open, Cond.initialized RX3, Cond.code yX3_open cX3_open 2 none, Cond.fieldLink RX3 9 "SnowMules$Market" "offers" "[I", Cond.methodLink RX10 266 yX5_leftFor]
def wsX10_all_r2 : List Cond := [Cond.instanceMethod yX5_leftFor, Cond.selects RX5 yX5_leftFor yX5_leftFor, Cond.initialized RX5, Cond.code yX5_leftFor cX5_leftFor 8 (some .int), Cond.fieldLink RX5 21 "SnowMules$Search" "world" "LSnowMules$World;", Cond.fieldLink RX5 78 "SnowMules$World" "orders" "LSnowMules$Table;", Cond.fieldLink RX5 36 "SnowMules$Search" "anyWill" "Z", Cond.fieldLink RX5 41 "SnowMules$Search" "latest" "I", Cond.fieldLink RX5 44 "SnowMules$Search" "left" "I", Cond.fieldLink RX5 92 "SnowMules$World" "jars" "LSnowMules$Table;", Cond.fieldLink RX5 25 "SnowMules$Search" "trip" "LSnowMules$Trip;", Cond.fieldLink RX5 95 "SnowMules$World" "now" "I", Cond.fieldLink RX5 102 "SnowMules$Trip" "needed" "I", Cond.methodLink RX5 72 yX9_nodeOf, Cond.instanceMethod yX9_nodeOf, Cond.selects RX9 yX9_nodeOf yX9_nodeOf, Cond.initialized RX9, Cond.code yX9_nodeOf cX9_nodeOf 3 (some .int), Cond.fieldLink RX9 23 "SnowMules$World" "jars" "LSnowMules$Table;", Cond.methodLink RX9 56 yX6_has, Cond.instanceMethod yX6_has, Cond.selects RX6 yX6_has yX6_has, Cond.initialized RX6, Cond.code yX6_has cX6_has 2 (some .boolean)]
def wsX10_all_r3 : List Cond := [Cond.fieldLink RX6 25 "SnowMules$Table" "size" "I", Cond.methodLink RX9 52 yX6_get, Cond.instanceMethod yX6_get, Cond.selects RX6 yX6_get yX6_get, Cond.code yX6_get cX6_get 4 (some .int), Cond.fieldLink RX6 9 "SnowMules$Table" "width" "I", Cond.fieldLink RX6 21 "SnowMules$Table" "cells" "[I", Cond.methodLink RX5 82 yX6_get, Cond.methodLink RX5 88 yX5_aim, Cond.instanceMethod yX5_aim, Cond.selects RX5 yX5_aim yX5_aim, Cond.code yX5_aim cX5_aim 3 none, Cond.fieldLink RX5 29 "SnowMules$Search" "target" "I", Cond.fieldLink RX5 33 "SnowMules$Search" "barred" "I", Cond.constant RX5 40 (1000000), Cond.fieldLink RX5 47 "SnowMules$Search" "leaving" "I", Cond.fieldLink RX5 50 "SnowMules$Search" "waited" "I", Cond.fieldLink RX5 53 "SnowMules$Search" "length" "I", Cond.methodLink RX5 56 yX5_measure, Cond.instanceMethod yX5_measure, Cond.selects RX5 yX5_measure yX5_measure, Cond.code yX5_measure cX5_measure 7 none, Cond.fieldLink RX5 9 "SnowMules$Search" "far" "[I", Cond.fieldLink RX5 109 "SnowMules$World" "passes" "LSnowMules$Table;"]
def wsX10_all_r4 : List Cond := [Cond.fieldLink RX5 112 "SnowMules$Table" "size" "I", Cond.methodLink RX5 125 yX5_shorten, Cond.instanceMethod yX5_shorten, Cond.selects RX5 yX5_shorten yX5_shorten, Cond.code yX5_shorten cX5_shorten 6 (some .boolean), Cond.methodLink RX5 118 yX5_farTo, Cond.instanceMethod yX5_farTo, Cond.selects RX5 yX5_farTo yX5_farTo, Cond.code yX5_farTo cX5_farTo 2 (some .int), Cond.methodLink RX5 129 yX5_reach, Cond.instanceMethod yX5_reach, Cond.selects RX5 yX5_reach yX5_reach, Cond.code yX5_reach cX5_reach 3 (some .boolean), Cond.methodLink RX5 98 yX7_begin, Cond.instanceMethod yX7_begin, Cond.selects RX7 yX7_begin yX7_begin, Cond.initialized RX7, Cond.code yX7_begin cX7_begin 6 none, Cond.fieldLink RX7 12 "SnowMules$Trip" "law" "LSnowMules$Law;", Cond.fieldLink RX7 29 "SnowMules$Trip" "hour" "I", Cond.fieldLink RX7 33 "SnowMules$Trip" "drops" "I", Cond.fieldLink RX7 36 "SnowMules$Trip" "felt" "I", Cond.fieldLink RX7 39 "SnowMules$Trip" "salt" "I", Cond.fieldLink RX7 42 "SnowMules$Trip" "warmth" "I"]
def wsX10_all_r5 : List Cond := [Cond.fieldLink RX7 45 "SnowMules$Trip" "needed" "I", Cond.methodLink RX5 68 yX5_seek, Cond.instanceMethod yX5_seek, Cond.selects RX5 yX5_seek yX5_seek, Cond.code yX5_seek cX5_seek 9 none, Cond.fieldLink RX5 65 "SnowMules$Trip" "drops" "I", Cond.fieldLink RX5 60 "SnowMules$Trip" "hour" "I", Cond.fieldLink RX5 15 "SnowMules$Search" "row" "[I", Cond.methodLink RX5 105 yX5_keep, Cond.instanceMethod yX5_keep, Cond.selects RX5 yX5_keep yX5_keep, Cond.code yX5_keep cX5_keep 3 none, Cond.constant RX5 124 (99999), Cond.fieldLink RX5 18 "SnowMules$Search" "bestRow" "[I", Cond.methodLink RX5 115 yX9_otherEnd, Cond.instanceMethod yX9_otherEnd, Cond.selects RX9 yX9_otherEnd yX9_otherEnd, Cond.code yX9_otherEnd cX9_otherEnd 5 (some .int), Cond.fieldLink RX9 20 "SnowMules$World" "passes" "LSnowMules$Table;", Cond.methodLink RX5 121 yX7_cross, Cond.instanceMethod yX7_cross, Cond.selects RX7 yX7_cross yX7_cross, Cond.code yX7_cross cX7_cross 6 (some .int), Cond.fieldLink RX7 25 "SnowMules$Trip" "world" "LSnowMules$World;"]
def wsX10_all_r6 : List Cond := [Cond.fieldLink RX7 80 "SnowMules$World" "passes" "LSnowMules$Table;", Cond.fieldLink RX7 21 "SnowMules$Trip" "scene" "LSnowMules$Scene;", Cond.fieldLink RX7 62 "SnowMules$Scene" "words" "[I", Cond.methodLink RX7 74 yX9_otherEnd, Cond.methodLink RX7 84 yX6_get, Cond.methodLink RX7 89 yX4_setPass, Cond.instanceMethod yX4_setPass, Cond.selects RX4 yX4_setPass yX4_setPass, Cond.initialized RX4, Cond.code yX4_setPass cX4_setPass 5 none, Cond.fieldLink RX4 21 "SnowMules$World" "nodes" "LSnowMules$Table;", Cond.fieldLink RX4 34 "SnowMules$Scene" "heightBehind" "I", Cond.fieldLink RX4 38 "SnowMules$Scene" "heightAhead" "I", Cond.fieldLink RX4 41 "SnowMules$World" "passes" "LSnowMules$Table;", Cond.fieldLink RX4 44 "SnowMules$Scene" "hoursOfPass" "I", Cond.fieldLink RX4 11 "SnowMules$Scene" "words" "[I", Cond.methodLink RX4 31 yX9_otherEnd, Cond.methodLink RX4 25 yX6_get, Cond.methodLink RX7 93 yX4_setGone, Cond.instanceMethod yX4_setGone, Cond.selects RX4 yX4_setGone yX4_setGone, Cond.code yX4_setGone cX4_setGone 3 none, Cond.methodLink RX7 52 yX7_meltOneHour, Cond.instanceMethod yX7_meltOneHour]
def wsX10_all_r7 : List Cond := [Cond.selects RX7 yX7_meltOneHour yX7_meltOneHour, Cond.code yX7_meltOneHour cX7_meltOneHour 1 none, Cond.methodLink RX7 55 yX4_setHour, Cond.instanceMethod yX4_setHour, Cond.selects RX4 yX4_setHour yX4_setHour, Cond.code yX4_setHour cX4_setHour 3 none, Cond.methodLink RX4 15 yX9_monthAt, Cond.instanceMethod yX9_monthAt, Cond.selects RX9 yX9_monthAt yX9_monthAt, Cond.code yX9_monthAt cX9_monthAt 2 (some .int), Cond.fieldLink RX9 46 "SnowMules$World" "firstMonth" "I", Cond.methodLink RX7 58 yX4_setLoad, Cond.instanceMethod yX4_setLoad, Cond.selects RX4 yX4_setLoad yX4_setLoad, Cond.code yX4_setLoad cX4_setLoad 4 none, Cond.methodLink RX7 66 yX1_sumOf, Cond.instanceMethod yX1_sumOf, Cond.selects RX1 yX1_sumOf yX1_sumOf, Cond.initialized RX1, Cond.code yX1_sumOf cX1_sumOf 4 (some .long), Cond.fieldLink RX1 50 "SnowMules$Law" "clauses" "I", Cond.fieldLink RX1 9 "SnowMules$Law" "sorts" "[I", Cond.fieldLink RX1 19 "SnowMules$Law" "testStarts" "[I", Cond.fieldLink RX1 22 "SnowMules$Law" "testStops" "[I"]
def wsX10_all_r8 : List Cond := [Cond.fieldLink RX1 13 "SnowMules$Law" "sumStarts" "[I", Cond.fieldLink RX1 16 "SnowMules$Law" "sumStops" "[I", Cond.methodLink RX1 66 yX1_holds, Cond.instanceMethod yX1_holds, Cond.selects RX1 yX1_holds yX1_holds, Cond.code yX1_holds cX1_holds 12 (some .boolean), Cond.fieldLink RX1 43 "SnowMules$Law" "tests" "[I", Cond.constantLong RX1 74 (-2), Cond.fieldLink RX1 31 "SnowMules$Law" "factStarts" "[I", Cond.fieldLink RX1 34 "SnowMules$Law" "factMiddles" "[I", Cond.fieldLink RX1 37 "SnowMules$Law" "factStops" "[I", Cond.fieldLink RX1 40 "SnowMules$Law" "signs" "[I", Cond.methodLink RX1 70 yX1_total, Cond.instanceMethod yX1_total, Cond.selects RX1 yX1_total yX1_total, Cond.code yX1_total cX1_total 15 (some .long), Cond.fieldLink RX1 28 "SnowMules$Law" "operands" "[I", Cond.fieldLink RX1 25 "SnowMules$Law" "joins" "[I", Cond.methodLink RX1 76 yX1_isTrue, Cond.static yX1_isTrue, Cond.code yX1_isTrue cX1_isTrue 5 (some .boolean), Cond.static yX10_held, Cond.code yX10_held cX10_held 3 (some .int), Cond.methodLink RX7 48 yX4_setNode]
def wsX10_all_r9 : List Cond := [Cond.instanceMethod yX4_setNode, Cond.selects RX4 yX4_setNode yX4_setNode, Cond.code yX4_setNode cX4_setNode 3 none, Cond.methodLink RX10 273 yX3_offer, Cond.instanceMethod yX3_offer, Cond.selects RX3 yX3_offer yX3_offer, Cond.code yX3_offer cX3_offer 3 none, Cond.methodLink RX10 276 yX3_choose, Cond.instanceMethod yX3_choose, Cond.selects RX3 yX3_choose yX3_choose, Cond.code yX3_choose cX3_choose 5 none, Cond.fieldLink RX3 38 "SnowMules$Market" "paid" "I", Cond.fieldLink RX3 18 "SnowMules$Market" "world" "LSnowMules$World;", Cond.fieldLink RX3 22 "SnowMules$World" "orders" "LSnowMules$Table;", Cond.fieldLink RX3 42 "SnowMules$Table" "size" "I", Cond.fieldLink RX3 15 "SnowMules$Market" "chosen" "[I", Cond.methodLink RX3 34 yX3_greatest, Cond.instanceMethod yX3_greatest, Cond.selects RX3 yX3_greatest yX3_greatest, Cond.code yX3_greatest cX3_greatest 7 (some .int), Cond.methodLink RX3 52 yX3_priceOf, Cond.instanceMethod yX3_priceOf, Cond.selects RX3 yX3_priceOf yX3_priceOf, Cond.code yX3_priceOf cX3_priceOf 4 (some .int)]
def wsX10_all_r10 : List Cond := [Cond.methodLink RX3 49 yX6_get, Cond.methodLink RX3 56 yX3_canServe, Cond.instanceMethod yX3_canServe, Cond.selects RX3 yX3_canServe yX3_canServe, Cond.code yX3_canServe cX3_canServe 6 (some .boolean), Cond.methodLink RX3 60 yJ6_bitCount_0f7a4, Cond.static yJ6_bitCount_0f7a4, Cond.initialized RJ6, Cond.code yJ6_bitCount_0f7a4 cJ6_bitCount_0f7a4 1 (some .int), Cond.constant RJ6 265 (1431655765), Cond.constant RJ6 266 (858993459), Cond.constant RJ6 267 (252645135), Cond.methodLink RX3 45 yX3_firstJar, Cond.instanceMethod yX3_firstJar, Cond.selects RX3 yX3_firstJar yX3_firstJar, Cond.code yX3_firstJar cX3_firstJar 8 (some .int), Cond.methodLink RX10 282 yX3_jarFor, Cond.instanceMethod yX3_jarFor, Cond.selects RX3 yX3_jarFor yX3_jarFor, Cond.code yX3_jarFor cX3_jarFor 2 (some .int), Cond.methodLink RX3 28 yX6_has]
def wsX10_all : List Cond := .code yX10_all cX10_all 6 (some .int) :: ((wsX10_all_r1 ++ (wsX10_all_r2 ++ (wsX10_all_r3 ++ (wsX10_all_r4 ++ (wsX10_all_r5 ++ (wsX10_all_r6 ++ (wsX10_all_r7 ++ (wsX10_all_r8 ++ (wsX10_all_r9 ++ wsX10_all_r10))))))))) ++ wsX100 ++ wsX90 ++ wsX60 ++ wsX30 ++ wsX50 ++ wsX70 ++ wsX40 ++ wsX10)
def wsX10_feast_r1 : List Cond := [Cond.fieldLink RX10 10 "SnowMules" "world" "LSnowMules$World;", Cond.fieldLink RX10 83 "SnowMules$World" "nodes" "LSnowMules$Table;", Cond.fieldLink RX10 285 "SnowMules$World" "feasts" "LSnowMules$Table;", Cond.methodLink RX10 79 yX10_within, Cond.static yX10_within, Cond.initialized RX10, Cond.code yX10_within cX10_within 2 (some .boolean), Cond.methodLink RX10 260 yX10_isWish, Cond.static yX10_isWish, Cond.code yX10_isWish cX10_isWish 1 (some .boolean), Cond.constant RX10 140 (99999), Cond.methodLink RX10 97 yX6_has, Cond.instanceMethod yX6_has, Cond.selects RX6 yX6_has yX6_has, Cond.initialized RX6, Cond.code yX6_has cX6_has 2 (some .boolean), Cond.fieldLink RX6 25 "SnowMules$Table" "size" "I", Cond.methodLink RX10 87 yX6_grow, Cond.instanceMethod yX6_grow, Cond.selects RX6 yX6_grow yX6_grow, Cond.code yX6_grow cX6_grow 1 (some .int), Cond.fieldLink RX6 9 "SnowMules$Table" "width" "I", Cond.fieldLink RX6 21 "SnowMules$Table" "cells" "[I", Cond.methodLink RX10 93 yX6_put]
def wsX10_feast_r2 : List Cond := [Cond.instanceMethod yX6_put, Cond.selects RX6 yX6_put yX6_put, Cond.code yX6_put cX6_put 5 none]
def wsX10_feast : List Cond := .code yX10_feast cX10_feast 6 (some .int) :: ((wsX10_feast_r1 ++ wsX10_feast_r2) ++ wsX100 ++ wsX90 ++ wsX60)
def wsX10_enough_r1 : List Cond := [Cond.fieldLink RX10 10 "SnowMules" "world" "LSnowMules$World;", Cond.fieldLink RX10 83 "SnowMules$World" "nodes" "LSnowMules$Table;", Cond.constant RX10 157 (999999), Cond.fieldLink RX10 43 "SnowMules" "hours" "LSnowMules$Hours;", Cond.methodLink RX10 161 yX10_lawOf, Cond.instanceMethod yX10_lawOf, Cond.selects RX10 yX10_lawOf yX10_lawOf, Cond.initialized RX10, Cond.code yX10_lawOf cX10_lawOf 2 (some (.object "SnowMules$Law")), Cond.fieldLink RX10 128 "SnowMules" "lawCount" "I", Cond.fieldLink RX10 29 "SnowMules" "laws" "[LSnowMules$Law;", Cond.methodLink RX10 79 yX10_within, Cond.static yX10_within, Cond.code yX10_within cX10_within 2 (some .boolean), Cond.methodLink RX10 97 yX6_has, Cond.instanceMethod yX6_has, Cond.selects RX6 yX6_has yX6_has, Cond.initialized RX6, Cond.code yX6_has cX6_has 2 (some .boolean), Cond.fieldLink RX6 25 "SnowMules$Table" "size" "I", Cond.methodLink RX10 288 yX0_lasts, Cond.instanceMethod yX0_lasts, Cond.selects RX0 yX0_lasts yX0_lasts, Cond.initialized RX0]
def wsX10_enough_r2 : List Cond := [Cond.code yX0_lasts cX0_lasts 10 (some .boolean), Cond.fieldLink RX0 41 "SnowMules$World" "now" "I", Cond.methodLink RX0 122 yX0_owedAt, Cond.instanceMethod yX0_owedAt, Cond.selects RX0 yX0_owedAt yX0_owedAt, Cond.code yX0_owedAt cX0_owedAt 7 (some .int), Cond.fieldLink RX0 130 "SnowMules$World" "feasts" "LSnowMules$Table;", Cond.fieldLink RX0 24 "SnowMules$Table" "size" "I", Cond.methodLink RX0 30 yX6_get, Cond.instanceMethod yX6_get, Cond.selects RX6 yX6_get yX6_get, Cond.code yX6_get cX6_get 4 (some .int), Cond.fieldLink RX6 9 "SnowMules$Table" "width" "I", Cond.fieldLink RX6 21 "SnowMules$Table" "cells" "[I", Cond.methodLink RX0 126 yX0_eatenOn, Cond.instanceMethod yX0_eatenOn, Cond.selects RX0 yX0_eatenOn yX0_eatenOn, Cond.code yX0_eatenOn cX0_eatenOn 6 (some .int), Cond.methodLink RX0 44 yX0_restOf, Cond.instanceMethod yX0_restOf, Cond.selects RX0 yX0_restOf yX0_restOf, Cond.code yX0_restOf cX0_restOf 6 (some .int), Cond.fieldLink RX0 12 "SnowMules$Hours" "scene" "LSnowMules$Scene;", Cond.fieldLink RX0 80 "SnowMules$Scene" "words" "[I"]
def wsX10_enough_r3 : List Cond := [Cond.methodLink RX0 74 yX4_setHour, Cond.instanceMethod yX4_setHour, Cond.selects RX4 yX4_setHour yX4_setHour, Cond.initialized RX4, Cond.code yX4_setHour cX4_setHour 3 none, Cond.fieldLink RX4 11 "SnowMules$Scene" "words" "[I", Cond.methodLink RX4 15 yX9_monthAt, Cond.instanceMethod yX9_monthAt, Cond.selects RX9 yX9_monthAt yX9_monthAt, Cond.initialized RX9, Cond.code yX9_monthAt cX9_monthAt 2 (some .int), Cond.fieldLink RX9 46 "SnowMules$World" "firstMonth" "I", Cond.methodLink RX0 70 yX4_setNode, Cond.instanceMethod yX4_setNode, Cond.selects RX4 yX4_setNode yX4_setNode, Cond.code yX4_setNode cX4_setNode 3 none, Cond.fieldLink RX4 21 "SnowMules$World" "nodes" "LSnowMules$Table;", Cond.methodLink RX4 25 yX6_get, Cond.methodLink RX0 94 yX4_setLoad, Cond.instanceMethod yX4_setLoad, Cond.selects RX4 yX4_setLoad yX4_setLoad, Cond.code yX4_setLoad cX4_setLoad 4 none, Cond.methodLink RX0 84 yX1_sumOf, Cond.instanceMethod yX1_sumOf]
def wsX10_enough_r4 : List Cond := [Cond.selects RX1 yX1_sumOf yX1_sumOf, Cond.initialized RX1, Cond.code yX1_sumOf cX1_sumOf 4 (some .long), Cond.fieldLink RX1 50 "SnowMules$Law" "clauses" "I", Cond.fieldLink RX1 9 "SnowMules$Law" "sorts" "[I", Cond.fieldLink RX1 19 "SnowMules$Law" "testStarts" "[I", Cond.fieldLink RX1 22 "SnowMules$Law" "testStops" "[I", Cond.fieldLink RX1 13 "SnowMules$Law" "sumStarts" "[I", Cond.fieldLink RX1 16 "SnowMules$Law" "sumStops" "[I", Cond.methodLink RX1 66 yX1_holds, Cond.instanceMethod yX1_holds, Cond.selects RX1 yX1_holds yX1_holds, Cond.code yX1_holds cX1_holds 12 (some .boolean), Cond.fieldLink RX1 43 "SnowMules$Law" "tests" "[I", Cond.constantLong RX1 74 (-2), Cond.fieldLink RX1 31 "SnowMules$Law" "factStarts" "[I", Cond.fieldLink RX1 34 "SnowMules$Law" "factMiddles" "[I", Cond.fieldLink RX1 37 "SnowMules$Law" "factStops" "[I", Cond.fieldLink RX1 40 "SnowMules$Law" "signs" "[I", Cond.methodLink RX1 70 yX1_total, Cond.instanceMethod yX1_total, Cond.selects RX1 yX1_total yX1_total, Cond.code yX1_total cX1_total 15 (some .long), Cond.fieldLink RX1 28 "SnowMules$Law" "operands" "[I"]
def wsX10_enough_r5 : List Cond := [Cond.fieldLink RX1 25 "SnowMules$Law" "joins" "[I", Cond.methodLink RX1 76 yX1_isTrue, Cond.static yX1_isTrue, Cond.code yX1_isTrue cX1_isTrue 5 (some .boolean), Cond.static yX10_held, Cond.code yX10_held cX10_held 3 (some .int)]
def wsX10_enough : List Cond := .code yX10_enough cX10_enough 5 (some .int) :: ((wsX10_enough_r1 ++ (wsX10_enough_r2 ++ (wsX10_enough_r3 ++ (wsX10_enough_r4 ++ wsX10_enough_r5)))) ++ wsX100 ++ wsX90 ++ wsX60 ++ wsX00 ++ wsX40 ++ wsX10)
def wsX10_least_r1 : List Cond := [Cond.fieldLink RX10 10 "SnowMules" "world" "LSnowMules$World;", Cond.fieldLink RX10 83 "SnowMules$World" "nodes" "LSnowMules$Table;", Cond.fieldLink RX10 43 "SnowMules" "hours" "LSnowMules$Hours;", Cond.methodLink RX10 161 yX10_lawOf, Cond.instanceMethod yX10_lawOf, Cond.selects RX10 yX10_lawOf yX10_lawOf, Cond.initialized RX10, Cond.code yX10_lawOf cX10_lawOf 2 (some (.object "SnowMules$Law")), Cond.fieldLink RX10 128 "SnowMules" "lawCount" "I", Cond.fieldLink RX10 29 "SnowMules" "laws" "[LSnowMules$Law;", Cond.methodLink RX10 79 yX10_within, Cond.static yX10_within, Cond.code yX10_within cX10_within 2 (some .boolean), Cond.methodLink RX10 97 yX6_has, Cond.instanceMethod yX6_has, Cond.selects RX6 yX6_has yX6_has, Cond.initialized RX6, Cond.code yX6_has cX6_has 2 (some .boolean), Cond.fieldLink RX6 25 "SnowMules$Table" "size" "I", Cond.methodLink RX10 288 yX0_lasts, Cond.instanceMethod yX0_lasts, Cond.selects RX0 yX0_lasts yX0_lasts, Cond.initialized RX0, Cond.code yX0_lasts cX0_lasts 10 (some .boolean)]
def wsX10_least_r2 : List Cond := [Cond.fieldLink RX0 41 "SnowMules$World" "now" "I", Cond.methodLink RX0 122 yX0_owedAt, Cond.instanceMethod yX0_owedAt, Cond.selects RX0 yX0_owedAt yX0_owedAt, Cond.code yX0_owedAt cX0_owedAt 7 (some .int), Cond.fieldLink RX0 130 "SnowMules$World" "feasts" "LSnowMules$Table;", Cond.fieldLink RX0 24 "SnowMules$Table" "size" "I", Cond.methodLink RX0 30 yX6_get, Cond.instanceMethod yX6_get, Cond.selects RX6 yX6_get yX6_get, Cond.code yX6_get cX6_get 4 (some .int), Cond.fieldLink RX6 9 "SnowMules$Table" "width" "I", Cond.fieldLink RX6 21 "SnowMules$Table" "cells" "[I", Cond.methodLink RX0 126 yX0_eatenOn, Cond.instanceMethod yX0_eatenOn, Cond.selects RX0 yX0_eatenOn yX0_eatenOn, Cond.code yX0_eatenOn cX0_eatenOn 6 (some .int), Cond.methodLink RX0 44 yX0_restOf, Cond.instanceMethod yX0_restOf, Cond.selects RX0 yX0_restOf yX0_restOf, Cond.code yX0_restOf cX0_restOf 6 (some .int), Cond.fieldLink RX0 12 "SnowMules$Hours" "scene" "LSnowMules$Scene;", Cond.fieldLink RX0 80 "SnowMules$Scene" "words" "[I", Cond.methodLink RX0 74 yX4_setHour]
def wsX10_least_r3 : List Cond := [Cond.instanceMethod yX4_setHour, Cond.selects RX4 yX4_setHour yX4_setHour, Cond.initialized RX4, Cond.code yX4_setHour cX4_setHour 3 none, Cond.fieldLink RX4 11 "SnowMules$Scene" "words" "[I", Cond.methodLink RX4 15 yX9_monthAt, Cond.instanceMethod yX9_monthAt, Cond.selects RX9 yX9_monthAt yX9_monthAt, Cond.initialized RX9, Cond.code yX9_monthAt cX9_monthAt 2 (some .int), Cond.fieldLink RX9 46 "SnowMules$World" "firstMonth" "I", Cond.methodLink RX0 70 yX4_setNode, Cond.instanceMethod yX4_setNode, Cond.selects RX4 yX4_setNode yX4_setNode, Cond.code yX4_setNode cX4_setNode 3 none, Cond.fieldLink RX4 21 "SnowMules$World" "nodes" "LSnowMules$Table;", Cond.methodLink RX4 25 yX6_get, Cond.methodLink RX0 94 yX4_setLoad, Cond.instanceMethod yX4_setLoad, Cond.selects RX4 yX4_setLoad yX4_setLoad, Cond.code yX4_setLoad cX4_setLoad 4 none, Cond.methodLink RX0 84 yX1_sumOf, Cond.instanceMethod yX1_sumOf, Cond.selects RX1 yX1_sumOf yX1_sumOf]
def wsX10_least_r4 : List Cond := [Cond.initialized RX1, Cond.code yX1_sumOf cX1_sumOf 4 (some .long), Cond.fieldLink RX1 50 "SnowMules$Law" "clauses" "I", Cond.fieldLink RX1 9 "SnowMules$Law" "sorts" "[I", Cond.fieldLink RX1 19 "SnowMules$Law" "testStarts" "[I", Cond.fieldLink RX1 22 "SnowMules$Law" "testStops" "[I", Cond.fieldLink RX1 13 "SnowMules$Law" "sumStarts" "[I", Cond.fieldLink RX1 16 "SnowMules$Law" "sumStops" "[I", Cond.methodLink RX1 66 yX1_holds, Cond.instanceMethod yX1_holds, Cond.selects RX1 yX1_holds yX1_holds, Cond.code yX1_holds cX1_holds 12 (some .boolean), Cond.fieldLink RX1 43 "SnowMules$Law" "tests" "[I", Cond.constantLong RX1 74 (-2), Cond.fieldLink RX1 31 "SnowMules$Law" "factStarts" "[I", Cond.fieldLink RX1 34 "SnowMules$Law" "factMiddles" "[I", Cond.fieldLink RX1 37 "SnowMules$Law" "factStops" "[I", Cond.fieldLink RX1 40 "SnowMules$Law" "signs" "[I", Cond.methodLink RX1 70 yX1_total, Cond.instanceMethod yX1_total, Cond.selects RX1 yX1_total yX1_total, Cond.code yX1_total cX1_total 15 (some .long), Cond.fieldLink RX1 28 "SnowMules$Law" "operands" "[I", Cond.fieldLink RX1 25 "SnowMules$Law" "joins" "[I"]
def wsX10_least_r5 : List Cond := [Cond.methodLink RX1 76 yX1_isTrue, Cond.static yX1_isTrue, Cond.code yX1_isTrue cX1_isTrue 5 (some .boolean), Cond.static yX10_held, Cond.code yX10_held cX10_held 3 (some .int)]
def wsX10_least : List Cond := .code yX10_least cX10_least 5 (some .int) :: ((wsX10_least_r1 ++ (wsX10_least_r2 ++ (wsX10_least_r3 ++ (wsX10_least_r4 ++ wsX10_least_r5)))) ++ wsX100 ++ wsX90 ++ wsX60 ++ wsX00 ++ wsX40 ++ wsX10)
def wsX10_nights_r1 : List Cond := [Cond.constant RX10 140 (99999), Cond.fieldLink RX10 10 "SnowMules" "world" "LSnowMules$World;", Cond.fieldLink RX10 107 "SnowMules$World" "jars" "LSnowMules$Table;", Cond.fieldLink RX10 176 "SnowMules$World" "wayStart" "I", Cond.arrayClass .int, Cond.fieldLink RX10 118 "SnowMules$World" "x" "I", Cond.fieldLink RX10 52 "SnowMules" "trip" "LSnowMules$Trip;", Cond.fieldLink RX10 141 "SnowMules$World" "now" "I", Cond.fieldLink RX10 202 "SnowMules$Trip" "drops" "I", Cond.methodLink RX10 161 yX10_lawOf, Cond.instanceMethod yX10_lawOf, Cond.selects RX10 yX10_lawOf yX10_lawOf, Cond.initialized RX10, Cond.code yX10_lawOf cX10_lawOf 2 (some (.object "SnowMules$Law")), Cond.fieldLink RX10 128 "SnowMules" "lawCount" "I", Cond.fieldLink RX10 29 "SnowMules" "laws" "[LSnowMules$Law;", Cond.methodLink RX10 79 yX10_within, Cond.static yX10_within, Cond.code yX10_within cX10_within 2 (some .boolean), Cond.methodLink RX10 97 yX6_has, Cond.instanceMethod yX6_has, Cond.selects RX6 yX6_has yX6_has, Cond.initialized RX6, Cond.code yX6_has cX6_has 2 (some .boolean)]
def wsX10_nights_r2 : List Cond := [Cond.fieldLink RX6 25 "SnowMules$Table" "size" "I", Cond.methodLink RX10 150 yX6_get, Cond.instanceMethod yX6_get, Cond.selects RX6 yX6_get yX6_get, Cond.code yX6_get cX6_get 4 (some .int), Cond.fieldLink RX6 9 "SnowMules$Table" "width" "I", Cond.fieldLink RX6 21 "SnowMules$Table" "cells" "[I", Cond.methodLink RX10 195 yX7_begin, Cond.instanceMethod yX7_begin, Cond.selects RX7 yX7_begin yX7_begin, Cond.initialized RX7, Cond.code yX7_begin cX7_begin 6 none, Cond.fieldLink RX7 12 "SnowMules$Trip" "law" "LSnowMules$Law;", Cond.fieldLink RX7 29 "SnowMules$Trip" "hour" "I", Cond.fieldLink RX7 33 "SnowMules$Trip" "drops" "I", Cond.fieldLink RX7 36 "SnowMules$Trip" "felt" "I", Cond.fieldLink RX7 39 "SnowMules$Trip" "salt" "I", Cond.fieldLink RX7 42 "SnowMules$Trip" "warmth" "I", Cond.fieldLink RX7 45 "SnowMules$Trip" "needed" "I", Cond.methodLink RX10 292 yX7_venture, Cond.instanceMethod yX7_venture, Cond.selects RX7 yX7_venture yX7_venture, Cond.code yX7_venture cX7_venture 4 (some .int), Cond.fieldLink RX7 25 "SnowMules$Trip" "world" "LSnowMules$World;"]
def wsX10_nights_r3 : List Cond := [Cond.fieldLink RX7 97 "SnowMules$World" "wayStart" "I", Cond.fieldLink RX7 100 "SnowMules$World" "way" "LSnowMules$Table;", Cond.fieldLink RX7 103 "SnowMules$Table" "size" "I", Cond.fieldLink RX7 80 "SnowMules$World" "passes" "LSnowMules$Table;", Cond.fieldLink RX7 21 "SnowMules$Trip" "scene" "LSnowMules$Scene;", Cond.fieldLink RX7 62 "SnowMules$Scene" "words" "[I", Cond.methodLink RX7 84 yX6_get, Cond.methodLink RX7 106 yX7_cross, Cond.instanceMethod yX7_cross, Cond.selects RX7 yX7_cross yX7_cross, Cond.code yX7_cross cX7_cross 6 (some .int), Cond.methodLink RX7 74 yX9_otherEnd, Cond.instanceMethod yX9_otherEnd, Cond.selects RX9 yX9_otherEnd yX9_otherEnd, Cond.initialized RX9, Cond.code yX9_otherEnd cX9_otherEnd 5 (some .int), Cond.fieldLink RX9 20 "SnowMules$World" "passes" "LSnowMules$Table;", Cond.methodLink RX9 56 yX6_has, Cond.methodLink RX9 52 yX6_get, Cond.methodLink RX7 89 yX4_setPass, Cond.instanceMethod yX4_setPass, Cond.selects RX4 yX4_setPass yX4_setPass, Cond.initialized RX4, Cond.code yX4_setPass cX4_setPass 5 none]
def wsX10_nights_r4 : List Cond := [Cond.fieldLink RX4 21 "SnowMules$World" "nodes" "LSnowMules$Table;", Cond.fieldLink RX4 34 "SnowMules$Scene" "heightBehind" "I", Cond.fieldLink RX4 38 "SnowMules$Scene" "heightAhead" "I", Cond.fieldLink RX4 41 "SnowMules$World" "passes" "LSnowMules$Table;", Cond.fieldLink RX4 44 "SnowMules$Scene" "hoursOfPass" "I", Cond.fieldLink RX4 11 "SnowMules$Scene" "words" "[I", Cond.methodLink RX4 31 yX9_otherEnd, Cond.methodLink RX4 25 yX6_get, Cond.methodLink RX7 93 yX4_setGone, Cond.instanceMethod yX4_setGone, Cond.selects RX4 yX4_setGone yX4_setGone, Cond.code yX4_setGone cX4_setGone 3 none, Cond.methodLink RX7 52 yX7_meltOneHour, Cond.instanceMethod yX7_meltOneHour, Cond.selects RX7 yX7_meltOneHour yX7_meltOneHour, Cond.code yX7_meltOneHour cX7_meltOneHour 1 none, Cond.methodLink RX7 55 yX4_setHour, Cond.instanceMethod yX4_setHour, Cond.selects RX4 yX4_setHour yX4_setHour, Cond.code yX4_setHour cX4_setHour 3 none, Cond.methodLink RX4 15 yX9_monthAt, Cond.instanceMethod yX9_monthAt, Cond.selects RX9 yX9_monthAt yX9_monthAt, Cond.code yX9_monthAt cX9_monthAt 2 (some .int)]
def wsX10_nights_r5 : List Cond := [Cond.fieldLink RX9 46 "SnowMules$World" "firstMonth" "I", Cond.methodLink RX7 58 yX4_setLoad, Cond.instanceMethod yX4_setLoad, Cond.selects RX4 yX4_setLoad yX4_setLoad, Cond.code yX4_setLoad cX4_setLoad 4 none, Cond.methodLink RX7 66 yX1_sumOf, Cond.instanceMethod yX1_sumOf, Cond.selects RX1 yX1_sumOf yX1_sumOf, Cond.initialized RX1, Cond.code yX1_sumOf cX1_sumOf 4 (some .long), Cond.fieldLink RX1 50 "SnowMules$Law" "clauses" "I", Cond.fieldLink RX1 9 "SnowMules$Law" "sorts" "[I", Cond.fieldLink RX1 19 "SnowMules$Law" "testStarts" "[I", Cond.fieldLink RX1 22 "SnowMules$Law" "testStops" "[I", Cond.fieldLink RX1 13 "SnowMules$Law" "sumStarts" "[I", Cond.fieldLink RX1 16 "SnowMules$Law" "sumStops" "[I", Cond.methodLink RX1 66 yX1_holds, Cond.instanceMethod yX1_holds, Cond.selects RX1 yX1_holds yX1_holds, Cond.code yX1_holds cX1_holds 12 (some .boolean), Cond.fieldLink RX1 43 "SnowMules$Law" "tests" "[I", Cond.constantLong RX1 74 (-2), Cond.fieldLink RX1 31 "SnowMules$Law" "factStarts" "[I", Cond.fieldLink RX1 34 "SnowMules$Law" "factMiddles" "[I"]
def wsX10_nights_r6 : List Cond := [Cond.fieldLink RX1 37 "SnowMules$Law" "factStops" "[I", Cond.fieldLink RX1 40 "SnowMules$Law" "signs" "[I", Cond.methodLink RX1 70 yX1_total, Cond.instanceMethod yX1_total, Cond.selects RX1 yX1_total yX1_total, Cond.code yX1_total cX1_total 15 (some .long), Cond.fieldLink RX1 28 "SnowMules$Law" "operands" "[I", Cond.fieldLink RX1 25 "SnowMules$Law" "joins" "[I", Cond.methodLink RX1 76 yX1_isTrue, Cond.static yX1_isTrue, Cond.code yX1_isTrue cX1_isTrue 5 (some .boolean), Cond.static yX10_held, Cond.code yX10_held cX10_held 3 (some .int), Cond.methodLink RX7 48 yX4_setNode, Cond.instanceMethod yX4_setNode, Cond.selects RX4 yX4_setNode yX4_setNode, Cond.code yX4_setNode cX4_setNode 3 none, Cond.methodLink RX7 109 yX9_draw, Cond.instanceMethod yX9_draw, Cond.selects RX9 yX9_draw yX9_draw, Cond.code yX9_draw cX9_draw 1 (some .int), Cond.fieldLink RX9 49 "SnowMules$World" "x" "I", Cond.constantLong RX9 83 (1103515245), Cond.constantLong RX9 85 (12345)]
def wsX10_nights_r7 : List Cond := [Cond.constantLong RX9 87 (2147483647), Cond.constant RX9 89 (65536)]
def wsX10_nights : List Cond := .code yX10_nights cX10_nights 14 (some .int) :: ((wsX10_nights_r1 ++ (wsX10_nights_r2 ++ (wsX10_nights_r3 ++ (wsX10_nights_r4 ++ (wsX10_nights_r5 ++ (wsX10_nights_r6 ++ wsX10_nights_r7)))))) ++ wsX100 ++ wsX90 ++ wsX70 ++ wsX60 ++ wsX40 ++ wsX10)
def wsX10_price_r1 : List Cond := [Cond.fieldLink RX10 10 "SnowMules" "world" "LSnowMules$World;", Cond.fieldLink RX10 101 "SnowMules$World" "passes" "LSnowMules$Table;", Cond.fieldLink RX10 61 "SnowMules" "search" "LSnowMules$Search;", Cond.fieldLink RX10 52 "SnowMules" "trip" "LSnowMules$Trip;", Cond.fieldLink RX10 217 "SnowMules$Search" "left" "I", Cond.methodLink RX10 161 yX10_lawOf, Cond.instanceMethod yX10_lawOf, Cond.selects RX10 yX10_lawOf yX10_lawOf, Cond.initialized RX10, Cond.code yX10_lawOf cX10_lawOf 2 (some (.object "SnowMules$Law")), Cond.fieldLink RX10 128 "SnowMules" "lawCount" "I", Cond.fieldLink RX10 29 "SnowMules" "laws" "[LSnowMules$Law;", Cond.methodLink RX10 79 yX10_within, Cond.static yX10_within, Cond.code yX10_within cX10_within 2 (some .boolean), Cond.methodLink RX10 208 yX10_isJourney, Cond.instanceMethod yX10_isJourney, Cond.selects RX10 yX10_isJourney yX10_isJourney, Cond.code yX10_isJourney cX10_isJourney 3 (some .boolean), Cond.fieldLink RX10 83 "SnowMules$World" "nodes" "LSnowMules$Table;", Cond.methodLink RX10 97 yX6_has, Cond.instanceMethod yX6_has, Cond.selects RX6 yX6_has yX6_has, Cond.initialized RX6]
def wsX10_price_r2 : List Cond := [Cond.code yX6_has cX6_has 2 (some .boolean), Cond.fieldLink RX6 25 "SnowMules$Table" "size" "I", Cond.methodLink RX10 191 yX10_isLoad, Cond.static yX10_isLoad, Cond.code yX10_isLoad cX10_isLoad 4 (some .boolean), Cond.constant RX10 140 (99999), Cond.methodLink RX10 104 yX10_isCover, Cond.static yX10_isCover, Cond.code yX10_isCover cX10_isCover 2 (some .boolean), Cond.methodLink RX10 211 yX5_aim, Cond.instanceMethod yX5_aim, Cond.selects RX5 yX5_aim yX5_aim, Cond.initialized RX5, Cond.code yX5_aim cX5_aim 3 none, Cond.fieldLink RX5 29 "SnowMules$Search" "target" "I", Cond.fieldLink RX5 33 "SnowMules$Search" "barred" "I", Cond.fieldLink RX5 36 "SnowMules$Search" "anyWill" "Z", Cond.constant RX5 40 (1000000), Cond.fieldLink RX5 41 "SnowMules$Search" "latest" "I", Cond.fieldLink RX5 44 "SnowMules$Search" "left" "I", Cond.fieldLink RX5 47 "SnowMules$Search" "leaving" "I", Cond.fieldLink RX5 50 "SnowMules$Search" "waited" "I", Cond.fieldLink RX5 53 "SnowMules$Search" "length" "I", Cond.methodLink RX5 56 yX5_measure]
def wsX10_price_r3 : List Cond := [Cond.instanceMethod yX5_measure, Cond.selects RX5 yX5_measure yX5_measure, Cond.code yX5_measure cX5_measure 7 none, Cond.fieldLink RX5 9 "SnowMules$Search" "far" "[I", Cond.fieldLink RX5 21 "SnowMules$Search" "world" "LSnowMules$World;", Cond.fieldLink RX5 109 "SnowMules$World" "passes" "LSnowMules$Table;", Cond.fieldLink RX5 112 "SnowMules$Table" "size" "I", Cond.methodLink RX5 125 yX5_shorten, Cond.instanceMethod yX5_shorten, Cond.selects RX5 yX5_shorten yX5_shorten, Cond.code yX5_shorten cX5_shorten 6 (some .boolean), Cond.methodLink RX5 82 yX6_get, Cond.instanceMethod yX6_get, Cond.selects RX6 yX6_get yX6_get, Cond.code yX6_get cX6_get 4 (some .int), Cond.fieldLink RX6 9 "SnowMules$Table" "width" "I", Cond.fieldLink RX6 21 "SnowMules$Table" "cells" "[I", Cond.methodLink RX5 118 yX5_farTo, Cond.instanceMethod yX5_farTo, Cond.selects RX5 yX5_farTo yX5_farTo, Cond.code yX5_farTo cX5_farTo 2 (some .int), Cond.methodLink RX5 129 yX5_reach, Cond.instanceMethod yX5_reach, Cond.selects RX5 yX5_reach yX5_reach]
def wsX10_price_r4 : List Cond := [Cond.code yX5_reach cX5_reach 3 (some .boolean), Cond.methodLink RX10 195 yX7_begin, Cond.instanceMethod yX7_begin, Cond.selects RX7 yX7_begin yX7_begin, Cond.initialized RX7, Cond.code yX7_begin cX7_begin 6 none, Cond.fieldLink RX7 12 "SnowMules$Trip" "law" "LSnowMules$Law;", Cond.fieldLink RX7 29 "SnowMules$Trip" "hour" "I", Cond.fieldLink RX7 33 "SnowMules$Trip" "drops" "I", Cond.fieldLink RX7 36 "SnowMules$Trip" "felt" "I", Cond.fieldLink RX7 39 "SnowMules$Trip" "salt" "I", Cond.fieldLink RX7 42 "SnowMules$Trip" "warmth" "I", Cond.fieldLink RX7 45 "SnowMules$Trip" "needed" "I", Cond.methodLink RX10 214 yX5_findBest, Cond.instanceMethod yX5_findBest, Cond.selects RX5 yX5_findBest yX5_findBest, Cond.code yX5_findBest cX5_findBest 5 none, Cond.fieldLink RX5 25 "SnowMules$Search" "trip" "LSnowMules$Trip;", Cond.fieldLink RX5 60 "SnowMules$Trip" "hour" "I", Cond.fieldLink RX5 65 "SnowMules$Trip" "drops" "I", Cond.methodLink RX5 68 yX5_seek, Cond.instanceMethod yX5_seek, Cond.selects RX5 yX5_seek yX5_seek, Cond.code yX5_seek cX5_seek 9 none]
def wsX10_price_r5 : List Cond := [Cond.fieldLink RX5 15 "SnowMules$Search" "row" "[I", Cond.methodLink RX5 105 yX5_keep, Cond.instanceMethod yX5_keep, Cond.selects RX5 yX5_keep yX5_keep, Cond.code yX5_keep cX5_keep 3 none, Cond.constant RX5 124 (99999), Cond.fieldLink RX5 102 "SnowMules$Trip" "needed" "I", Cond.fieldLink RX5 18 "SnowMules$Search" "bestRow" "[I", Cond.methodLink RX5 115 yX9_otherEnd, Cond.instanceMethod yX9_otherEnd, Cond.selects RX9 yX9_otherEnd yX9_otherEnd, Cond.initialized RX9, Cond.code yX9_otherEnd cX9_otherEnd 5 (some .int), Cond.fieldLink RX9 20 "SnowMules$World" "passes" "LSnowMules$Table;", Cond.methodLink RX9 56 yX6_has, Cond.methodLink RX9 52 yX6_get, Cond.methodLink RX5 121 yX7_cross, Cond.instanceMethod yX7_cross, Cond.selects RX7 yX7_cross yX7_cross, Cond.code yX7_cross cX7_cross 6 (some .int), Cond.fieldLink RX7 25 "SnowMules$Trip" "world" "LSnowMules$World;", Cond.fieldLink RX7 80 "SnowMules$World" "passes" "LSnowMules$Table;", Cond.fieldLink RX7 21 "SnowMules$Trip" "scene" "LSnowMules$Scene;", Cond.fieldLink RX7 62 "SnowMules$Scene" "words" "[I"]
def wsX10_price_r6 : List Cond := [Cond.methodLink RX7 74 yX9_otherEnd, Cond.methodLink RX7 84 yX6_get, Cond.methodLink RX7 89 yX4_setPass, Cond.instanceMethod yX4_setPass, Cond.selects RX4 yX4_setPass yX4_setPass, Cond.initialized RX4, Cond.code yX4_setPass cX4_setPass 5 none, Cond.fieldLink RX4 21 "SnowMules$World" "nodes" "LSnowMules$Table;", Cond.fieldLink RX4 34 "SnowMules$Scene" "heightBehind" "I", Cond.fieldLink RX4 38 "SnowMules$Scene" "heightAhead" "I", Cond.fieldLink RX4 41 "SnowMules$World" "passes" "LSnowMules$Table;", Cond.fieldLink RX4 44 "SnowMules$Scene" "hoursOfPass" "I", Cond.fieldLink RX4 11 "SnowMules$Scene" "words" "[I", Cond.methodLink RX4 31 yX9_otherEnd, Cond.methodLink RX4 25 yX6_get, Cond.methodLink RX7 93 yX4_setGone, Cond.instanceMethod yX4_setGone, Cond.selects RX4 yX4_setGone yX4_setGone, Cond.code yX4_setGone cX4_setGone 3 none, Cond.methodLink RX7 52 yX7_meltOneHour, Cond.instanceMethod yX7_meltOneHour, Cond.selects RX7 yX7_meltOneHour yX7_meltOneHour, Cond.code yX7_meltOneHour cX7_meltOneHour 1 none, Cond.methodLink RX7 55 yX4_setHour]
def wsX10_price_r7 : List Cond := [Cond.instanceMethod yX4_setHour, Cond.selects RX4 yX4_setHour yX4_setHour, Cond.code yX4_setHour cX4_setHour 3 none, Cond.methodLink RX4 15 yX9_monthAt, Cond.instanceMethod yX9_monthAt, Cond.selects RX9 yX9_monthAt yX9_monthAt, Cond.code yX9_monthAt cX9_monthAt 2 (some .int), Cond.fieldLink RX9 46 "SnowMules$World" "firstMonth" "I", Cond.methodLink RX7 58 yX4_setLoad, Cond.instanceMethod yX4_setLoad, Cond.selects RX4 yX4_setLoad yX4_setLoad, Cond.code yX4_setLoad cX4_setLoad 4 none, Cond.methodLink RX7 66 yX1_sumOf, Cond.instanceMethod yX1_sumOf, Cond.selects RX1 yX1_sumOf yX1_sumOf, Cond.initialized RX1, Cond.code yX1_sumOf cX1_sumOf 4 (some .long), Cond.fieldLink RX1 50 "SnowMules$Law" "clauses" "I", Cond.fieldLink RX1 9 "SnowMules$Law" "sorts" "[I", Cond.fieldLink RX1 19 "SnowMules$Law" "testStarts" "[I", Cond.fieldLink RX1 22 "SnowMules$Law" "testStops" "[I", Cond.fieldLink RX1 13 "SnowMules$Law" "sumStarts" "[I", Cond.fieldLink RX1 16 "SnowMules$Law" "sumStops" "[I", Cond.methodLink RX1 66 yX1_holds]
def wsX10_price_r8 : List Cond := [Cond.instanceMethod yX1_holds, Cond.selects RX1 yX1_holds yX1_holds, Cond.code yX1_holds cX1_holds 12 (some .boolean), Cond.fieldLink RX1 43 "SnowMules$Law" "tests" "[I", Cond.constantLong RX1 74 (-2), Cond.fieldLink RX1 31 "SnowMules$Law" "factStarts" "[I", Cond.fieldLink RX1 34 "SnowMules$Law" "factMiddles" "[I", Cond.fieldLink RX1 37 "SnowMules$Law" "factStops" "[I", Cond.fieldLink RX1 40 "SnowMules$Law" "signs" "[I", Cond.methodLink RX1 70 yX1_total, Cond.instanceMethod yX1_total, Cond.selects RX1 yX1_total yX1_total, Cond.code yX1_total cX1_total 15 (some .long), Cond.fieldLink RX1 28 "SnowMules$Law" "operands" "[I", Cond.fieldLink RX1 25 "SnowMules$Law" "joins" "[I", Cond.methodLink RX1 76 yX1_isTrue, Cond.static yX1_isTrue, Cond.code yX1_isTrue cX1_isTrue 5 (some .boolean), Cond.static yX10_held, Cond.code yX10_held cX10_held 3 (some .int), Cond.methodLink RX7 48 yX4_setNode, Cond.instanceMethod yX4_setNode, Cond.selects RX4 yX4_setNode yX4_setNode, Cond.code yX4_setNode cX4_setNode 3 none]
def wsX10_price : List Cond := .code yX10_price cX10_price 9 (some .int) :: ((wsX10_price_r1 ++ (wsX10_price_r2 ++ (wsX10_price_r3 ++ (wsX10_price_r4 ++ (wsX10_price_r5 ++ (wsX10_price_r6 ++ (wsX10_price_r7 ++ wsX10_price_r8))))))) ++ wsX100 ++ wsX90 ++ wsX50 ++ wsX60 ++ wsX70 ++ wsX40 ++ wsX10)
def wsX10_ahead_r1 : List Cond := [Cond.fieldLink RX10 16 "SnowMules" "later" "LSnowMules$World;", Cond.fieldLink RX10 10 "SnowMules" "world" "LSnowMules$World;", Cond.fieldLink RX10 43 "SnowMules" "hours" "LSnowMules$Hours;", Cond.methodLink RX10 161 yX10_lawOf, Cond.instanceMethod yX10_lawOf, Cond.selects RX10 yX10_lawOf yX10_lawOf, Cond.initialized RX10, Cond.code yX10_lawOf cX10_lawOf 2 (some (.object "SnowMules$Law")), Cond.fieldLink RX10 128 "SnowMules" "lawCount" "I", Cond.fieldLink RX10 29 "SnowMules" "laws" "[LSnowMules$Law;", Cond.methodLink RX10 79 yX10_within, Cond.static yX10_within, Cond.code yX10_within cX10_within 2 (some .boolean), Cond.methodLink RX10 295 yX9_copyFrom, Cond.instanceMethod yX9_copyFrom, Cond.selects RX9 yX9_copyFrom yX9_copyFrom, Cond.initialized RX9, Cond.code yX9_copyFrom cX9_copyFrom 2 none, Cond.fieldLink RX9 14 "SnowMules$World" "nodes" "LSnowMules$Table;", Cond.fieldLink RX9 20 "SnowMules$World" "passes" "LSnowMules$Table;", Cond.fieldLink RX9 23 "SnowMules$World" "jars" "LSnowMules$Table;", Cond.fieldLink RX9 26 "SnowMules$World" "orders" "LSnowMules$Table;", Cond.fieldLink RX9 29 "SnowMules$World" "feasts" "LSnowMules$Table;", Cond.fieldLink RX9 32 "SnowMules$World" "way" "LSnowMules$Table;"]
def wsX10_ahead_r2 : List Cond := [Cond.fieldLink RX9 35 "SnowMules$World" "wayStart" "I", Cond.fieldLink RX9 43 "SnowMules$World" "now" "I", Cond.fieldLink RX9 46 "SnowMules$World" "firstMonth" "I", Cond.fieldLink RX9 49 "SnowMules$World" "x" "I", Cond.methodLink RX9 39 yX6_copyFrom, Cond.instanceMethod yX6_copyFrom, Cond.selects RX6 yX6_copyFrom yX6_copyFrom, Cond.initialized RX6, Cond.code yX6_copyFrom cX6_copyFrom 2 none, Cond.fieldLink RX6 21 "SnowMules$Table" "cells" "[I", Cond.methodLink RX6 28 arraycopyName, Cond.native arraycopyName, Cond.static arraycopyName, Cond.initialized "java/lang/System", Cond.fieldLink RX6 25 "SnowMules$Table" "size" "I", Cond.methodLink RX10 165 yX0_step, Cond.instanceMethod yX0_step, Cond.selects RX0 yX0_step yX0_step, Cond.initialized RX0, Cond.code yX0_step cX0_step 5 none, Cond.fieldLink RX0 18 "SnowMules$World" "jars" "LSnowMules$Table;", Cond.fieldLink RX0 24 "SnowMules$Table" "size" "I", Cond.fieldLink RX0 38 "SnowMules$World" "nodes" "LSnowMules$Table;", Cond.fieldLink RX0 41 "SnowMules$World" "now" "I"]
def wsX10_ahead_r3 : List Cond := [Cond.methodLink RX0 30 yX6_get, Cond.instanceMethod yX6_get, Cond.selects RX6 yX6_get yX6_get, Cond.code yX6_get cX6_get 4 (some .int), Cond.fieldLink RX6 9 "SnowMules$Table" "width" "I", Cond.methodLink RX0 34 yX0_stepJar, Cond.instanceMethod yX0_stepJar, Cond.selects RX0 yX0_stepJar yX0_stepJar, Cond.code yX0_stepJar cX0_stepJar 6 none, Cond.fieldLink RX0 56 "SnowMules$World" "passes" "LSnowMules$Table;", Cond.methodLink RX0 52 yX0_meltOf, Cond.instanceMethod yX0_meltOf, Cond.selects RX0 yX0_meltOf yX0_meltOf, Cond.code yX0_meltOf cX0_meltOf 6 (some .int), Cond.fieldLink RX0 12 "SnowMules$Hours" "scene" "LSnowMules$Scene;", Cond.fieldLink RX0 80 "SnowMules$Scene" "words" "[I", Cond.methodLink RX0 62 yX4_setPass, Cond.instanceMethod yX4_setPass, Cond.selects RX4 yX4_setPass yX4_setPass, Cond.initialized RX4, Cond.code yX4_setPass cX4_setPass 5 none, Cond.fieldLink RX4 21 "SnowMules$World" "nodes" "LSnowMules$Table;", Cond.fieldLink RX4 34 "SnowMules$Scene" "heightBehind" "I", Cond.fieldLink RX4 38 "SnowMules$Scene" "heightAhead" "I"]
def wsX10_ahead_r4 : List Cond := [Cond.fieldLink RX4 41 "SnowMules$World" "passes" "LSnowMules$Table;", Cond.fieldLink RX4 44 "SnowMules$Scene" "hoursOfPass" "I", Cond.fieldLink RX4 11 "SnowMules$Scene" "words" "[I", Cond.methodLink RX4 31 yX9_otherEnd, Cond.instanceMethod yX9_otherEnd, Cond.selects RX9 yX9_otherEnd yX9_otherEnd, Cond.code yX9_otherEnd cX9_otherEnd 5 (some .int), Cond.methodLink RX9 56 yX6_has, Cond.instanceMethod yX6_has, Cond.selects RX6 yX6_has yX6_has, Cond.code yX6_has cX6_has 2 (some .boolean), Cond.methodLink RX9 52 yX6_get, Cond.methodLink RX4 25 yX6_get, Cond.methodLink RX0 66 yX4_setGone, Cond.instanceMethod yX4_setGone, Cond.selects RX4 yX4_setGone yX4_setGone, Cond.code yX4_setGone cX4_setGone 3 none, Cond.methodLink RX0 70 yX4_setNode, Cond.instanceMethod yX4_setNode, Cond.selects RX4 yX4_setNode yX4_setNode, Cond.code yX4_setNode cX4_setNode 3 none, Cond.methodLink RX0 74 yX4_setHour, Cond.instanceMethod yX4_setHour, Cond.selects RX4 yX4_setHour yX4_setHour]
def wsX10_ahead_r5 : List Cond := [Cond.code yX4_setHour cX4_setHour 3 none, Cond.methodLink RX4 15 yX9_monthAt, Cond.instanceMethod yX9_monthAt, Cond.selects RX9 yX9_monthAt yX9_monthAt, Cond.code yX9_monthAt cX9_monthAt 2 (some .int), Cond.methodLink RX0 77 yX0_setLoadOf, Cond.instanceMethod yX0_setLoadOf, Cond.selects RX0 yX0_setLoadOf yX0_setLoadOf, Cond.code yX0_setLoadOf cX0_setLoadOf 4 none, Cond.methodLink RX0 94 yX4_setLoad, Cond.instanceMethod yX4_setLoad, Cond.selects RX4 yX4_setLoad yX4_setLoad, Cond.code yX4_setLoad cX4_setLoad 4 none, Cond.methodLink RX0 84 yX1_sumOf, Cond.instanceMethod yX1_sumOf, Cond.selects RX1 yX1_sumOf yX1_sumOf, Cond.initialized RX1, Cond.code yX1_sumOf cX1_sumOf 4 (some .long), Cond.fieldLink RX1 50 "SnowMules$Law" "clauses" "I", Cond.fieldLink RX1 9 "SnowMules$Law" "sorts" "[I", Cond.fieldLink RX1 19 "SnowMules$Law" "testStarts" "[I", Cond.fieldLink RX1 22 "SnowMules$Law" "testStops" "[I", Cond.fieldLink RX1 13 "SnowMules$Law" "sumStarts" "[I", Cond.fieldLink RX1 16 "SnowMules$Law" "sumStops" "[I"]
def wsX10_ahead_r6 : List Cond := [Cond.methodLink RX1 66 yX1_holds, Cond.instanceMethod yX1_holds, Cond.selects RX1 yX1_holds yX1_holds, Cond.code yX1_holds cX1_holds 12 (some .boolean), Cond.fieldLink RX1 43 "SnowMules$Law" "tests" "[I", Cond.constantLong RX1 74 (-2), Cond.fieldLink RX1 31 "SnowMules$Law" "factStarts" "[I", Cond.fieldLink RX1 34 "SnowMules$Law" "factMiddles" "[I", Cond.fieldLink RX1 37 "SnowMules$Law" "factStops" "[I", Cond.fieldLink RX1 40 "SnowMules$Law" "signs" "[I", Cond.methodLink RX1 70 yX1_total, Cond.instanceMethod yX1_total, Cond.selects RX1 yX1_total yX1_total, Cond.code yX1_total cX1_total 15 (some .long), Cond.fieldLink RX1 28 "SnowMules$Law" "operands" "[I", Cond.fieldLink RX1 25 "SnowMules$Law" "joins" "[I", Cond.methodLink RX1 76 yX1_isTrue, Cond.static yX1_isTrue, Cond.code yX1_isTrue cX1_isTrue 5 (some .boolean), Cond.static yX10_held, Cond.code yX10_held cX10_held 3 (some .int), Cond.methodLink RX0 48 yX6_put, Cond.instanceMethod yX6_put, Cond.selects RX6 yX6_put yX6_put]
def wsX10_ahead_r7 : List Cond := [Cond.code yX6_put cX6_put 5 none, Cond.methodLink RX0 59 yX0_arrive, Cond.instanceMethod yX0_arrive, Cond.selects RX0 yX0_arrive yX0_arrive, Cond.code yX0_arrive cX0_arrive 8 none, Cond.fieldLink RX0 111 "SnowMules$Law" "chain" "I", Cond.methodLink RX0 97 yX9_standAt, Cond.instanceMethod yX9_standAt, Cond.selects RX9 yX9_standAt yX9_standAt, Cond.code yX9_standAt cX9_standAt 3 none, Cond.methodLink RX9 66 yX6_put, Cond.methodLink RX0 101 yX9_bring, Cond.instanceMethod yX9_bring, Cond.selects RX9 yX9_bring yX9_bring, Cond.code yX9_bring cX9_bring 5 (some .int), Cond.constant RX9 73 (999999), Cond.methodLink RX9 74 Lib.Math.min.name, Cond.static Lib.Math.min.name, Cond.initialized "java/lang/Math", Cond.code Lib.Math.min.name Lib.Math.min.code 2 (some .int), Cond.methodLink RX0 104 yX9_draw, Cond.instanceMethod yX9_draw, Cond.selects RX9 yX9_draw yX9_draw, Cond.code yX9_draw cX9_draw 1 (some .int)]
def wsX10_ahead_r8 : List Cond := [Cond.constantLong RX9 83 (1103515245), Cond.constantLong RX9 85 (12345), Cond.constantLong RX9 87 (2147483647), Cond.constant RX9 89 (65536), Cond.methodLink RX0 108 yX9_lose, Cond.instanceMethod yX9_lose, Cond.selects RX9 yX9_lose yX9_lose, Cond.code yX9_lose cX9_lose 2 none, Cond.methodLink RX9 70 yX9_standAt, Cond.methodLink RX0 114 yX0_burstFrom, Cond.instanceMethod yX0_burstFrom, Cond.selects RX0 yX0_burstFrom yX0_burstFrom, Cond.code yX0_burstFrom cX0_burstFrom 9 none, Cond.methodLink RX0 118 yX0_nextBehind, Cond.instanceMethod yX0_nextBehind, Cond.selects RX0 yX0_nextBehind yX0_nextBehind, Cond.code yX0_nextBehind cX0_nextBehind 12 (some .int), Cond.methodLink RX0 44 yX0_restOf, Cond.instanceMethod yX0_restOf, Cond.selects RX0 yX0_restOf yX0_restOf, Cond.code yX0_restOf cX0_restOf 6 (some .int), Cond.methodLink RX10 298 yX9_dropsOfAll, Cond.instanceMethod yX9_dropsOfAll, Cond.selects RX9 yX9_dropsOfAll yX9_dropsOfAll]
def wsX10_ahead_r9 : List Cond := [Cond.code yX9_dropsOfAll cX9_dropsOfAll 3 (some .int), Cond.fieldLink RX9 60 "SnowMules$Table" "size" "I", Cond.methodLink RX10 301 yX9_jarsThatAre, Cond.instanceMethod yX9_jarsThatAre, Cond.selects RX9 yX9_jarsThatAre yX9_jarsThatAre, Cond.code yX9_jarsThatAre cX9_jarsThatAre 1 (some .int), Cond.methodLink RX9 79 yX9_jarsAt, Cond.instanceMethod yX9_jarsAt, Cond.selects RX9 yX9_jarsAt yX9_jarsAt, Cond.code yX9_jarsAt cX9_jarsAt 4 (some .int)]
def wsX10_ahead : List Cond := .code yX10_ahead cX10_ahead 6 (some .int) :: ((wsX10_ahead_r1 ++ (wsX10_ahead_r2 ++ (wsX10_ahead_r3 ++ (wsX10_ahead_r4 ++ (wsX10_ahead_r5 ++ (wsX10_ahead_r6 ++ (wsX10_ahead_r7 ++ (wsX10_ahead_r8 ++ wsX10_ahead_r9)))))))) ++ wsX100 ++ wsX90 ++ wsX60 ++ wsX00 ++ wsX40 ++ wsX10)
def wsX10_count : List Cond := .code yX10_count cX10_count 2 (some .int) :: ([.fieldLink RX10 10 "SnowMules" "world" "LSnowMules$World;", .fieldLink RX10 83 "SnowMules$World" "nodes" "LSnowMules$Table;", .fieldLink RX10 188 "SnowMules$Table" "size" "I", .fieldLink RX10 101 "SnowMules$World" "passes" "LSnowMules$Table;", .fieldLink RX10 107 "SnowMules$World" "jars" "LSnowMules$Table;", .fieldLink RX10 128 "SnowMules" "lawCount" "I", .fieldLink RX10 141 "SnowMules$World" "now" "I", .fieldLink RX10 263 "SnowMules$World" "orders" "LSnowMules$Table;", .fieldLink RX10 285 "SnowMules$World" "feasts" "LSnowMules$Table;", .fieldLink RX10 176 "SnowMules$World" "wayStart" "I", .fieldLink RX10 185 "SnowMules$World" "way" "LSnowMules$Table;", .fieldLink RX10 118 "SnowMules$World" "x" "I", .fieldLink RX10 121 "SnowMules" "tapeLength" "I", .methodLink RX10 144 yX9_monthAt, .instanceMethod yX9_monthAt, .selects RX9 yX9_monthAt yX9_monthAt, .initialized RX9, .code yX9_monthAt cX9_monthAt 2 (some .int), .fieldLink RX9 46 "SnowMules$World" "firstMonth" "I"] ++ wsX100 ++ wsX90 ++ wsX60)
def wsX10_image_r1 : List Cond := [Cond.fieldLink RX10 19 "SnowMules" "images" "[LSnowMules$World;", Cond.classLink RX10 7 RX9, Cond.instantiable RX9 10, Cond.initialized RX9, Cond.fieldLink RX10 10 "SnowMules" "world" "LSnowMules$World;", Cond.fieldLink RX10 141 "SnowMules$World" "now" "I", Cond.methodLink RX10 79 yX10_within, Cond.static yX10_within, Cond.initialized RX10, Cond.code yX10_within cX10_within 2 (some .boolean), Cond.instanceMethod yX9_init, Cond.code yX9_init cX9_init 1 none, Cond.methodLink RX9 3 objectInit, Cond.instanceMethod objectInit, Cond.code objectInit ⟨#[0xb1]⟩ 1 none, Cond.classLink RX9 9 RX6, Cond.instantiable RX6 3, Cond.initialized RX6, Cond.fieldLink RX9 14 "SnowMules$World" "nodes" "LSnowMules$Table;", Cond.fieldLink RX9 20 "SnowMules$World" "passes" "LSnowMules$Table;", Cond.fieldLink RX9 23 "SnowMules$World" "jars" "LSnowMules$Table;", Cond.fieldLink RX9 26 "SnowMules$World" "orders" "LSnowMules$Table;", Cond.fieldLink RX9 29 "SnowMules$World" "feasts" "LSnowMules$Table;", Cond.fieldLink RX9 32 "SnowMules$World" "way" "LSnowMules$Table;"]
def wsX10_image_r2 : List Cond := [Cond.fieldLink RX9 35 "SnowMules$World" "wayStart" "I", Cond.methodLink RX9 11 yX6_init, Cond.instanceMethod yX6_init, Cond.code yX6_init cX6_init 3 none, Cond.methodLink RX6 3 objectInit, Cond.fieldLink RX6 9 "SnowMules$Table" "width" "I", Cond.methodLink RX6 15 Lib.Math.max.name, Cond.static Lib.Math.max.name, Cond.initialized "java/lang/Math", Cond.code Lib.Math.max.name Lib.Math.max.code 2 (some .int), Cond.arrayClass .int, Cond.fieldLink RX6 21 "SnowMules$Table" "cells" "[I", Cond.methodLink RX10 295 yX9_copyFrom, Cond.instanceMethod yX9_copyFrom, Cond.selects RX9 yX9_copyFrom yX9_copyFrom, Cond.code yX9_copyFrom cX9_copyFrom 2 none, Cond.fieldLink RX9 43 "SnowMules$World" "now" "I", Cond.fieldLink RX9 46 "SnowMules$World" "firstMonth" "I", Cond.fieldLink RX9 49 "SnowMules$World" "x" "I", Cond.methodLink RX9 39 yX6_copyFrom, Cond.instanceMethod yX6_copyFrom, Cond.selects RX6 yX6_copyFrom yX6_copyFrom, Cond.code yX6_copyFrom cX6_copyFrom 2 none, Cond.methodLink RX6 28 arraycopyName]
def wsX10_image_r3 : List Cond := [Cond.native arraycopyName, Cond.static arraycopyName, Cond.initialized "java/lang/System", Cond.fieldLink RX6 25 "SnowMules$Table" "size" "I"]
def wsX10_image : List Cond := .code yX10_image cX10_image 2 (some .int) :: ((wsX10_image_r1 ++ (wsX10_image_r2 ++ wsX10_image_r3)) ++ wsX100 ++ wsX90 ++ wsX60)
def wsX10_back_r1 : List Cond := [Cond.fieldLink RX10 19 "SnowMules" "images" "[LSnowMules$World;", Cond.fieldLink RX10 10 "SnowMules" "world" "LSnowMules$World;", Cond.fieldLink RX10 141 "SnowMules$World" "now" "I", Cond.methodLink RX10 79 yX10_within, Cond.static yX10_within, Cond.initialized RX10, Cond.code yX10_within cX10_within 2 (some .boolean), Cond.methodLink RX10 295 yX9_copyFrom, Cond.instanceMethod yX9_copyFrom, Cond.selects RX9 yX9_copyFrom yX9_copyFrom, Cond.initialized RX9, Cond.code yX9_copyFrom cX9_copyFrom 2 none, Cond.fieldLink RX9 14 "SnowMules$World" "nodes" "LSnowMules$Table;", Cond.fieldLink RX9 20 "SnowMules$World" "passes" "LSnowMules$Table;", Cond.fieldLink RX9 23 "SnowMules$World" "jars" "LSnowMules$Table;", Cond.fieldLink RX9 26 "SnowMules$World" "orders" "LSnowMules$Table;", Cond.fieldLink RX9 29 "SnowMules$World" "feasts" "LSnowMules$Table;", Cond.fieldLink RX9 32 "SnowMules$World" "way" "LSnowMules$Table;", Cond.fieldLink RX9 35 "SnowMules$World" "wayStart" "I", Cond.fieldLink RX9 43 "SnowMules$World" "now" "I", Cond.fieldLink RX9 46 "SnowMules$World" "firstMonth" "I", Cond.fieldLink RX9 49 "SnowMules$World" "x" "I", Cond.methodLink RX9 39 yX6_copyFrom, Cond.instanceMethod yX6_copyFrom]
def wsX10_back_r2 : List Cond := [Cond.selects RX6 yX6_copyFrom yX6_copyFrom, Cond.initialized RX6, Cond.code yX6_copyFrom cX6_copyFrom 2 none, Cond.fieldLink RX6 21 "SnowMules$Table" "cells" "[I", Cond.methodLink RX6 28 arraycopyName, Cond.native arraycopyName, Cond.static arraycopyName, Cond.initialized "java/lang/System", Cond.fieldLink RX6 25 "SnowMules$Table" "size" "I"]
def wsX10_back : List Cond := .code yX10_back cX10_back 2 (some .int) :: ((wsX10_back_r1 ++ wsX10_back_r2) ++ wsX100 ++ wsX90 ++ wsX60)
def wsX11_init_r1 : List Cond := [Cond.methodLink RX11 1 objectInit, Cond.instanceMethod objectInit, Cond.code objectInit ⟨#[0xb1]⟩ 1 none, Cond.arrayClass .byte, Cond.fieldLink RX11 7 "SnowMulesModel" "tape" "[B", Cond.arrayClass .int, Cond.fieldLink RX11 13 "SnowMulesModel" "sign" "[I", Cond.fieldLink RX11 17 "SnowMulesModel" "length" "[I", Cond.fieldLink RX11 20 "SnowMulesModel" "clause" "[I", Cond.fieldLink RX11 23 "SnowMulesModel" "clauses" "[I", Cond.fieldLink RX11 26 "SnowMulesModel" "chain" "[I", Cond.fieldLink RX11 29 "SnowMulesModel" "open" "[I", Cond.arrayClass .long, Cond.fieldLink RX11 32 "SnowMulesModel" "stack" "[J", Cond.fieldLink RX11 36 "SnowMulesModel" "word" "[J", Cond.fieldLink RX11 39 "SnowMulesModel" "said" "[I", Cond.fieldLink RX11 42 "SnowMulesModel" "kept" "[I", Cond.fieldLink RX11 45 "SnowMulesModel" "stepNode" "[I", Cond.fieldLink RX11 48 "SnowMulesModel" "stepDrops" "[I", Cond.fieldLink RX11 51 "SnowMulesModel" "stepHour" "[I", Cond.fieldLink RX11 54 "SnowMulesModel" "stepNext" "[I", Cond.fieldLink RX11 57 "SnowMulesModel" "stepPass" "[I", Cond.fieldLink RX11 60 "SnowMulesModel" "bestPass" "[I", Cond.fieldLink RX11 63 "SnowMulesModel" "far" "[I"]
def wsX11_init_r2 : List Cond := [Cond.fieldLink RX11 66 "SnowMulesModel" "waited" "[I", Cond.fieldLink RX11 69 "SnowMulesModel" "servers" "[I", Cond.fieldLink RX11 72 "SnowMulesModel" "images" "[I", Cond.arrayClass .boolean, Cond.fieldLink RX11 75 "SnowMulesModel" "isMade" "[Z"]
def wsX11_init : List Cond := .code yX11_init cX11_init 1 none :: ((wsX11_init_r1 ++ wsX11_init_r2) ++ wsX110)
abbrev vwCl : List vw_C := [(RX0, TX0, 1), (RX1, TX1, 17), (RX2, TX2, 8), (RX3, TX3, 4), (RX4, TX4, 4), (RX5, TX5, 13), (RX6, TX6, 3), (RX7, TX7, 9), (RX8, TX8, 7), (RX9, TX9, 10), (RX10, TX10, 13), (RX11, TX11, 42)]
set_option maxRecDepth 20000 in
theorem ggX0_init_X4_init : GoodIn wsX0_init wsX4_init := goodIn_r _ [9, 10, 2, 3, 11, 12, 13, 14, 15, 16] (by decide +kernel) (by decide +kernel)
set_option maxRecDepth 20000 in
theorem gX0_init_X4_init_n11 : GoodIn wsX0_init (wsX4_init) := ggX0_init_X4_init
set_option maxRecDepth 20000 in
theorem ggX10_ahead_X10_lawOf : GoodIn wsX10_ahead wsX10_lawOf := goodIn_r _ [8, 9, 10, 11, 12, 7, 13, 203, 204, 205, 206, 207, 208, 209, 210, 211, 212, 213, 214, 215] (by decide +kernel) (by decide +kernel)
set_option maxRecDepth 20000 in
theorem gX10_ahead_X10_lawOf : GoodIn wsX10_ahead (wsV RX10 161 RX10 yX10_lawOf wsX10_lawOf) := goodIn_app (goodIn_of _ (by decide +kernel)) ggX10_ahead_X10_lawOf
set_option maxRecDepth 20000 in
theorem ggX10_all_X10_lawOf : GoodIn wsX10_all wsX10_lawOf := goodIn_r _ [12, 13, 14, 15, 16, 11, 17, 238, 239, 240, 241, 242, 243, 244, 245, 246, 247, 248, 249, 250] (by decide +kernel) (by decide +kernel)
set_option maxRecDepth 20000 in
theorem gX10_all_X10_lawOf : GoodIn wsX10_all (wsV RX10 161 RX10 yX10_lawOf wsX10_lawOf) := goodIn_app (goodIn_of _ (by decide +kernel)) ggX10_all_X10_lawOf
set_option maxRecDepth 20000 in
theorem ggX10_at_X6_has : GoodIn wsX10_at wsX6_has := goodIn_r _ [8, 9, 61, 62, 63] (by decide +kernel) (by decide +kernel)
set_option maxRecDepth 20000 in
theorem gX10_at_X6_has : GoodIn wsX10_at (wsV RX10 97 RX6 yX6_has wsX6_has) := goodIn_app (goodIn_of _ (by decide +kernel)) ggX10_at_X6_has
set_option maxRecDepth 20000 in
theorem ggX10_back_X10_within : GoodIn wsX10_back wsX10_within := goodIn_r _ [7] (by decide +kernel) (by decide +kernel)
set_option maxRecDepth 20000 in
theorem gX10_back_X10_within : GoodIn wsX10_back (va_wsS RX10 79 yX10_within wsX10_within) := goodIn_app (goodIn_of _ (by decide +kernel)) ggX10_back_X10_within
set_option maxRecDepth 20000 in
theorem ggX10_best_X10_lawOf : GoodIn wsX10_best wsX10_lawOf := goodIn_r _ [10, 11, 12, 13, 14, 9, 15, 198, 199, 200, 201, 202, 203, 204, 205, 206, 207, 208, 209, 210] (by decide +kernel) (by decide +kernel)
set_option maxRecDepth 20000 in
theorem gX10_best_X10_lawOf : GoodIn wsX10_best (wsV RX10 161 RX10 yX10_lawOf wsX10_lawOf) := goodIn_app (goodIn_of _ (by decide +kernel)) ggX10_best_X10_lawOf
set_option maxRecDepth 20000 in
theorem ggX10_count_X9_monthAt : GoodIn wsX10_count wsX9_monthAt := goodIn_r _ [18, 19, 33, 34, 35, 36, 37, 38, 39, 40, 41, 42] (by decide +kernel) (by decide +kernel)
set_option maxRecDepth 20000 in
theorem gX10_count_X9_monthAt : GoodIn wsX10_count (wsV RX10 144 RX9 yX9_monthAt wsX9_monthAt) := goodIn_app (goodIn_of _ (by decide +kernel)) ggX10_count_X9_monthAt
set_option maxRecDepth 20000 in
theorem ggX10_end_X10_within : GoodIn wsX10_end wsX10_within := goodIn_r _ [5] (by decide +kernel) (by decide +kernel)
set_option maxRecDepth 20000 in
theorem gX10_end_X10_within : GoodIn wsX10_end (va_wsS RX10 79 yX10_within wsX10_within) := goodIn_app (goodIn_of _ (by decide +kernel)) ggX10_end_X10_within
set_option maxRecDepth 20000 in
theorem ggX10_enough_X10_lawOf : GoodIn wsX10_enough wsX10_lawOf := goodIn_r _ [9, 10, 11, 12, 13, 8, 14, 103, 104, 105, 106, 107, 108, 109, 110, 111, 112, 113, 114, 115] (by decide +kernel) (by decide +kernel)
set_option maxRecDepth 20000 in
theorem gX10_enough_X10_lawOf : GoodIn wsX10_enough (wsV RX10 161 RX10 yX10_lawOf wsX10_lawOf) := goodIn_app (goodIn_of _ (by decide +kernel)) ggX10_enough_X10_lawOf
set_option maxRecDepth 20000 in
theorem ggX10_feast_X10_isWish : GoodIn wsX10_feast wsX10_isWish := goodIn_r _ [10, 11] (by decide +kernel) (by decide +kernel)
set_option maxRecDepth 20000 in
theorem gX10_feast_X10_isWish : GoodIn wsX10_feast (va_wsS RX10 260 yX10_isWish wsX10_isWish) := goodIn_app (goodIn_of _ (by decide +kernel)) ggX10_feast_X10_isWish
set_option maxRecDepth 20000 in
theorem ggX10_feast_X10_within : GoodIn wsX10_feast wsX10_within := goodIn_r _ [7] (by decide +kernel) (by decide +kernel)
set_option maxRecDepth 20000 in
theorem gX10_feast_X10_within : GoodIn wsX10_feast (va_wsS RX10 79 yX10_within wsX10_within) := goodIn_app (goodIn_of _ (by decide +kernel)) ggX10_feast_X10_within
set_option maxRecDepth 20000 in
theorem ggX10_feast_X6_has : GoodIn wsX10_feast wsX6_has := goodIn_r _ [16, 17, 51, 52, 53] (by decide +kernel) (by decide +kernel)
set_option maxRecDepth 20000 in
theorem gX10_feast_X6_has : GoodIn wsX10_feast (wsV RX10 97 RX6 yX6_has wsX6_has) := goodIn_app (goodIn_of _ (by decide +kernel)) ggX10_feast_X6_has
set_option maxRecDepth 20000 in
theorem ggX10_feed_X10_writeBytes : GoodIn wsX10_feed wsX10_writeBytes := goodIn_r _ [6, 1, 7, 8, 9, 10, 11, 12, 13, 14, 15, 16, 17, 18, 19, 20] (by decide +kernel) (by decide +kernel)
set_option maxRecDepth 20000 in
theorem gX10_feed_X10_writeBytes : GoodIn wsX10_feed (wsV RX10 124 RX10 yX10_writeBytes wsX10_writeBytes) := goodIn_app (goodIn_of _ (by decide +kernel)) ggX10_feed_X10_writeBytes
set_option maxRecDepth 20000 in
theorem ggX10_fill_X9_nodeOf : GoodIn wsX10_fill wsX9_nodeOf := goodIn_r _ [9, 10, 11, 12, 13, 14, 15, 16, 17, 18, 19, 20, 21, 22, 55, 56, 57, 58, 59, 60, 61, 62, 63, 64, 65, 66, 67] (by decide +kernel) (by decide +kernel)
set_option maxRecDepth 20000 in
theorem gX10_fill_X9_nodeOf : GoodIn wsX10_fill (wsV RX10 136 RX9 yX9_nodeOf wsX9_nodeOf) := goodIn_app (goodIn_of _ (by decide +kernel)) ggX10_fill_X9_nodeOf
set_option maxRecDepth 20000 in
theorem ggX10_from_X6_has : GoodIn wsX10_from wsX6_has := goodIn_r _ [10, 11, 35, 36, 37] (by decide +kernel) (by decide +kernel)
set_option maxRecDepth 20000 in
theorem gX10_from_X6_has : GoodIn wsX10_from (wsV RX10 97 RX6 yX6_has wsX6_has) := goodIn_app (goodIn_of _ (by decide +kernel)) ggX10_from_X6_has
set_option maxRecDepth 20000 in
theorem ggX10_guess_X10_lawOf : GoodIn wsX10_guess wsX10_lawOf := goodIn_r _ [12, 13, 14, 15, 16, 11, 17, 180, 181, 182, 183, 184, 185, 186, 187, 188, 189, 190, 191, 192] (by decide +kernel) (by decide +kernel)
set_option maxRecDepth 20000 in
theorem gX10_guess_X10_lawOf : GoodIn wsX10_guess (wsV RX10 161 RX10 yX10_lawOf wsX10_lawOf) := goodIn_app (goodIn_of _ (by decide +kernel)) ggX10_guess_X10_lawOf
set_option maxRecDepth 20000 in
theorem ggX10_guess_X10_within : GoodIn wsX10_guess wsX10_within := goodIn_r _ [17] (by decide +kernel) (by decide +kernel)
set_option maxRecDepth 20000 in
theorem gX10_guess_X10_within : GoodIn wsX10_guess (va_wsS RX10 79 yX10_within wsX10_within) := goodIn_app (goodIn_of _ (by decide +kernel)) ggX10_guess_X10_within
set_option maxRecDepth 20000 in
theorem ggX10_guess_X6_has : GoodIn wsX10_guess wsX6_has := goodIn_r _ [22, 23, 210, 211, 212] (by decide +kernel) (by decide +kernel)
set_option maxRecDepth 20000 in
theorem gX10_guess_X6_has : GoodIn wsX10_guess (wsV RX10 97 RX6 yX6_has wsX6_has) := goodIn_app (goodIn_of _ (by decide +kernel)) ggX10_guess_X6_has
set_option maxRecDepth 20000 in
theorem ggX10_image_X10_within : GoodIn wsX10_image wsX10_within := goodIn_r _ [10] (by decide +kernel) (by decide +kernel)
set_option maxRecDepth 20000 in
theorem gX10_image_X10_within : GoodIn wsX10_image (va_wsS RX10 79 yX10_within wsX10_within) := goodIn_app (goodIn_of _ (by decide +kernel)) ggX10_image_X10_within
set_option maxRecDepth 20000 in
theorem ggX10_image_X9_copyFrom : GoodIn wsX10_image wsX9_copyFrom := goodIn_r _ [40, 19, 20, 21, 22, 23, 24, 25, 41, 42, 43, 44, 45, 46, 18, 47, 36, 48, 49, 50, 51, 52, 66, 67, 68, 69, 70, 71, 72, 73, 74, 75, 76, 77, 78] (by decide +kernel) (by decide +kernel)
set_option maxRecDepth 20000 in
theorem gX10_image_X9_copyFrom : GoodIn wsX10_image (wsV RX10 295 RX9 yX9_copyFrom wsX9_copyFrom) := goodIn_app (goodIn_of _ (by decide +kernel)) ggX10_image_X9_copyFrom
set_option maxRecDepth 20000 in
theorem ggX10_image_X9_init : GoodIn wsX10_image wsX9_init := goodIn_r _ [12, 13, 14, 15, 16, 17, 18, 19, 20, 21, 22, 23, 24, 25, 26, 27, 28, 29, 30, 31, 32, 33, 34, 35, 36, 76, 77, 78, 66, 67, 68, 69, 70, 71, 72, 73, 74, 75] (by decide +kernel) (by decide +kernel)
set_option maxRecDepth 20000 in
theorem gX10_image_X9_init_n9 : GoodIn wsX10_image (wsX9_init) := ggX10_image_X9_init
set_option maxRecDepth 20000 in
theorem ggX10_init_X0_init : GoodIn wsX10_init wsX0_init := goodIn_r _ [86, 87, 2, 3, 88, 89, 90, 91, 92, 93, 94, 10, 95, 215, 216, 217, 218, 161] (by decide +kernel) (by decide +kernel)
set_option maxRecDepth 20000 in
theorem gX10_init_X0_init_n42 : GoodIn wsX10_init (wsX0_init) := ggX10_init_X0_init
set_option maxRecDepth 20000 in
theorem ggX10_init_X2_init : GoodIn wsX10_init wsX2_init := goodIn_r _ [62, 63, 2, 3, 10, 64, 65, 66, 67, 68, 69, 70, 71, 72, 73, 74, 75, 76, 77, 78, 79, 80, 81, 82, 83, 84, 153, 154, 155, 156, 157, 158, 159, 160, 198, 199, 200, 201, 202, 203, 204, 205, 206, 207, 208, 209, 210, 211, 212, 213, 214] (by decide +kernel) (by decide +kernel)
set_option maxRecDepth 20000 in
theorem gX10_init_X2_init_n35 : GoodIn wsX10_init (wsX2_init) := ggX10_init_X2_init
set_option maxRecDepth 20000 in
theorem ggX10_init_X3_init : GoodIn wsX10_init wsX3_init := goodIn_r _ [125, 126, 2, 3, 10, 127, 128, 129, 191, 192, 193, 194] (by decide +kernel) (by decide +kernel)
set_option maxRecDepth 20000 in
theorem gX10_init_X3_init : GoodIn wsX10_init (wsX3_init) := ggX10_init_X3_init
set_option maxRecDepth 20000 in
theorem ggX10_init_X5_init : GoodIn wsX10_init wsX5_init := goodIn_r _ [107, 108, 2, 3, 10, 109, 110, 111, 112, 113, 171, 172, 173, 174, 175, 176, 177, 178, 179, 180, 181, 182, 183] (by decide +kernel) (by decide +kernel)
set_option maxRecDepth 20000 in
theorem gX10_init_X5_init : GoodIn wsX10_init (wsX5_init) := ggX10_init_X5_init
set_option maxRecDepth 20000 in
theorem ggX10_init_X7_init : GoodIn wsX10_init wsX7_init := goodIn_r _ [98, 99, 2, 3, 100, 67, 68, 101, 102, 89, 90, 103, 104, 70, 71, 72, 10, 73, 74, 75, 76, 77, 78, 79, 80, 81, 82, 83, 84, 92, 93, 94, 95, 198, 199, 200, 201, 202, 203, 204, 205, 206, 207, 208, 209, 210, 211, 212, 213, 214, 162, 163, 164, 165, 166, 167, 168, 169, 170, 215, 216, 217, 218] (by decide +kernel) (by decide +kernel)
set_option maxRecDepth 20000 in
theorem gX10_init_X7_init : GoodIn wsX10_init (wsX7_init) := ggX10_init_X7_init
set_option maxRecDepth 20000 in
theorem ggX10_init_X8_init : GoodIn wsX10_init wsX8_init := goodIn_r _ [116, 117, 2, 3, 10, 118, 119, 120, 121, 122, 184, 185, 186, 187, 188, 189, 190] (by decide +kernel) (by decide +kernel)
set_option maxRecDepth 20000 in
theorem gX10_init_X8_init : GoodIn wsX10_init (wsX8_init) := ggX10_init_X8_init
set_option maxRecDepth 20000 in
theorem ggX10_init_X9_init : GoodIn wsX10_init wsX9_init := goodIn_r _ [39, 40, 2, 3, 41, 42, 43, 44, 45, 46, 47, 48, 49, 50, 51, 52, 53, 54, 55, 56, 57, 58, 59, 10, 60, 195, 196, 197, 130, 131, 132, 133, 134, 135, 136, 137, 138, 139] (by decide +kernel) (by decide +kernel)
set_option maxRecDepth 20000 in
theorem gX10_init_X9_init_n9 : GoodIn wsX10_init (wsX9_init) := ggX10_init_X9_init
set_option maxRecDepth 20000 in
theorem ggX10_isCover_X10_within : GoodIn wsX10_isCover wsX10_within := goodIn_r _ [4] (by decide +kernel) (by decide +kernel)
set_option maxRecDepth 20000 in
theorem gX10_isCover_X10_within : GoodIn wsX10_isCover (va_wsS RX10 79 yX10_within wsX10_within) := goodIn_app (goodIn_of _ (by decide +kernel)) ggX10_isCover_X10_within
set_option maxRecDepth 20000 in
theorem ggX10_isLoad_X10_isCover : GoodIn wsX10_isLoad wsX10_isCover := goodIn_r _ [8, 2, 3, 4, 5] (by decide +kernel) (by decide +kernel)
set_option maxRecDepth 20000 in
theorem gX10_isLoad_X10_isCover : GoodIn wsX10_isLoad (va_wsS RX10 104 yX10_isCover wsX10_isCover) := goodIn_app (goodIn_of _ (by decide +kernel)) ggX10_isLoad_X10_isCover
set_option maxRecDepth 20000 in
theorem ggX10_isLoad_X10_within : GoodIn wsX10_isLoad wsX10_within := goodIn_r _ [5] (by decide +kernel) (by decide +kernel)
set_option maxRecDepth 20000 in
theorem gX10_isLoad_X10_within : GoodIn wsX10_isLoad (va_wsS RX10 79 yX10_within wsX10_within) := goodIn_app (goodIn_of _ (by decide +kernel)) ggX10_isLoad_X10_within
set_option maxRecDepth 20000 in
theorem ggX10_jar_X10_isCover : GoodIn wsX10_jar wsX10_isCover := goodIn_r _ [7, 8, 9, 6, 10] (by decide +kernel) (by decide +kernel)
set_option maxRecDepth 20000 in
theorem gX10_jar_X10_isCover : GoodIn wsX10_jar (va_wsS RX10 104 yX10_isCover wsX10_isCover) := goodIn_app (goodIn_of _ (by decide +kernel)) ggX10_jar_X10_isCover
set_option maxRecDepth 20000 in
theorem ggX10_jar_X10_within : GoodIn wsX10_jar wsX10_within := goodIn_r _ [10] (by decide +kernel) (by decide +kernel)
set_option maxRecDepth 20000 in
theorem gX10_jar_X10_within : GoodIn wsX10_jar (va_wsS RX10 79 yX10_within wsX10_within) := goodIn_app (goodIn_of _ (by decide +kernel)) ggX10_jar_X10_within
set_option maxRecDepth 20000 in
theorem ggX10_jar_X6_has : GoodIn wsX10_jar wsX6_has := goodIn_r _ [15, 16, 57, 58, 59] (by decide +kernel) (by decide +kernel)
set_option maxRecDepth 20000 in
theorem gX10_jar_X6_has : GoodIn wsX10_jar (wsV RX10 97 RX6 yX6_has wsX6_has) := goodIn_app (goodIn_of _ (by decide +kernel)) ggX10_jar_X6_has
set_option maxRecDepth 20000 in
theorem ggX10_lawOf_X10_within : GoodIn wsX10_lawOf wsX10_within := goodIn_r _ [6] (by decide +kernel) (by decide +kernel)
set_option maxRecDepth 20000 in
theorem gX10_lawOf_X10_within : GoodIn wsX10_lawOf (va_wsS RX10 79 yX10_within wsX10_within) := goodIn_app (goodIn_of _ (by decide +kernel)) ggX10_lawOf_X10_within
set_option maxRecDepth 20000 in
theorem ggX10_law_X1_init : GoodIn wsX10_law wsX1_init := goodIn_r _ [10, 11, 12, 13, 14, 15, 16, 17, 18, 19, 20, 21, 22, 23, 24, 25, 26, 217, 218, 219, 220, 221, 222, 223, 224, 225, 226, 227, 228, 229, 230, 231, 232, 233] (by decide +kernel) (by decide +kernel)
set_option maxRecDepth 20000 in
theorem gX10_law_X1_init_n131 : GoodIn wsX10_law (wsX1_init) := ggX10_law_X1_init
set_option maxRecDepth 20000 in
theorem ggX10_law_X2_read : GoodIn wsX10_law wsX2_read := goodIn_r _ [31, 32, 33, 34, 35, 36, 37, 38, 39, 40, 41, 42, 43, 30, 44, 45, 46, 47, 48, 49, 50, 51, 52, 53, 54, 55, 56, 57, 58, 59, 60, 61, 62, 63, 64, 65, 66, 67, 68, 69, 70, 71, 72, 73, 74, 75, 76, 77, 78, 79, 80, 81, 82, 83, 84, 85, 86, 87, 88, 89, 90, 91, 92, 93, 94, 95, 96, 97, 98, 99, 100, 101, 102, 103, 104, 105, 106, 107, 108, 109, 110, 111, 112, 113, 114, 115, 116, 117, 118, 119, 120, 121, 5, 122, 123, 124, 125, 126, 127, 128, 129, 130, 131, 132, 133, 134, 135, 136, 137, 138, 139, 140, 141, 142, 143, 144, 145, 146, 147, 148, 15, 16, 149, 150, 151, 152, 153, 154, 155, 156, 157, 158, 159, 160, 20, 21, 161, 162, 163, 164, 165, 166, 167, 17, 18, 19, 168, 169, 170, 171, 172, 173, 174, 175, 176, 177, 178, 26, 179, 180, 181, 182, 183, 184, 185, 186, 187, 188, 189, 190, 22, 23, 24, 25, 191, 192, 193, 194, 195, 196, 197, 198, 199, 200, 201, 202, 203, 234, 235, 236, 237, 238, 239, 240, 241, 217, 218, 219, 220, 221, 222, 223, 224, 225, 226, 227, 228, 229, 230, 231, 232, 233] (by decide +kernel) (by decide +kernel)
set_option maxRecDepth 20000 in
theorem gX10_law_X2_read : GoodIn wsX10_law (wsV RX10 132 RX2 yX2_read wsX2_read) := goodIn_app (goodIn_of _ (by decide +kernel)) ggX10_law_X2_read
set_option maxRecDepth 20000 in
theorem ggX10_least_X10_lawOf : GoodIn wsX10_least wsX10_lawOf := goodIn_r _ [8, 9, 10, 11, 12, 7, 13, 102, 103, 104, 105, 106, 107, 108, 109, 110, 111, 112, 113, 114] (by decide +kernel) (by decide +kernel)
set_option maxRecDepth 20000 in
theorem gX10_least_X10_lawOf : GoodIn wsX10_least (wsV RX10 161 RX10 yX10_lawOf wsX10_lawOf) := goodIn_app (goodIn_of _ (by decide +kernel)) ggX10_least_X10_lawOf
set_option maxRecDepth 20000 in
theorem ggX10_leave_X9_nodeOf : GoodIn wsX10_leave wsX9_nodeOf := goodIn_r _ [7, 8, 9, 10, 11, 12, 13, 14, 15, 16, 17, 18, 19, 20, 43, 44, 45, 46, 47, 48, 49, 50, 51, 52, 53, 54, 55] (by decide +kernel) (by decide +kernel)
set_option maxRecDepth 20000 in
theorem gX10_leave_X9_nodeOf : GoodIn wsX10_leave (wsV RX10 136 RX9 yX9_nodeOf wsX9_nodeOf) := goodIn_app (goodIn_of _ (by decide +kernel)) ggX10_leave_X9_nodeOf
set_option maxRecDepth 20000 in
theorem ggX10_melt_X10_lawOf : GoodIn wsX10_melt wsX10_lawOf := goodIn_r _ [8, 9, 10, 11, 12, 7, 13, 113, 114, 115, 116, 117, 118, 119, 120, 121, 122, 123, 124, 125] (by decide +kernel) (by decide +kernel)
set_option maxRecDepth 20000 in
theorem gX10_melt_X10_lawOf : GoodIn wsX10_melt (wsV RX10 161 RX10 yX10_lawOf wsX10_lawOf) := goodIn_app (goodIn_of _ (by decide +kernel)) ggX10_melt_X10_lawOf
set_option maxRecDepth 20000 in
theorem ggX10_month_X10_within : GoodIn wsX10_month wsX10_within := goodIn_r _ [6] (by decide +kernel) (by decide +kernel)
set_option maxRecDepth 20000 in
theorem gX10_month_X10_within : GoodIn wsX10_month (va_wsS RX10 79 yX10_within wsX10_within) := goodIn_app (goodIn_of _ (by decide +kernel)) ggX10_month_X10_within
set_option maxRecDepth 20000 in
theorem ggX10_nearest_X6_has : GoodIn wsX10_nearest wsX6_has := goodIn_r _ [10, 11, 75, 76, 77] (by decide +kernel) (by decide +kernel)
set_option maxRecDepth 20000 in
theorem gX10_nearest_X6_has : GoodIn wsX10_nearest (wsV RX10 97 RX6 yX6_has wsX6_has) := goodIn_app (goodIn_of _ (by decide +kernel)) ggX10_nearest_X6_has
set_option maxRecDepth 20000 in
theorem ggX10_nights_X10_lawOf : GoodIn wsX10_nights wsX10_lawOf := goodIn_r _ [14, 15, 16, 17, 18, 13, 19, 147, 148, 149, 150, 151, 152, 153, 154, 155, 156, 157, 158, 159] (by decide +kernel) (by decide +kernel)
set_option maxRecDepth 20000 in
theorem gX10_nights_X10_lawOf : GoodIn wsX10_nights (wsV RX10 161 RX10 yX10_lawOf wsX10_lawOf) := goodIn_app (goodIn_of _ (by decide +kernel)) ggX10_nights_X10_lawOf
set_option maxRecDepth 20000 in
theorem ggX10_nights_X10_within : GoodIn wsX10_nights wsX10_within := goodIn_r _ [19] (by decide +kernel) (by decide +kernel)
set_option maxRecDepth 20000 in
theorem gX10_nights_X10_within : GoodIn wsX10_nights (va_wsS RX10 79 yX10_within wsX10_within) := goodIn_app (goodIn_of _ (by decide +kernel)) ggX10_nights_X10_within
set_option maxRecDepth 20000 in
theorem ggX10_node_X10_within : GoodIn wsX10_node wsX10_within := goodIn_r _ [6] (by decide +kernel) (by decide +kernel)
set_option maxRecDepth 20000 in
theorem gX10_node_X10_within : GoodIn wsX10_node (va_wsS RX10 79 yX10_within wsX10_within) := goodIn_app (goodIn_of _ (by decide +kernel)) ggX10_node_X10_within
set_option maxRecDepth 20000 in
theorem ggX10_node_X6_grow : GoodIn wsX10_node wsX6_grow := goodIn_r _ [11, 12, 13, 14, 42, 43, 44] (by decide +kernel) (by decide +kernel)
set_option maxRecDepth 20000 in
theorem gX10_node_X6_grow : GoodIn wsX10_node (wsV RX10 87 RX6 yX6_grow wsX6_grow) := goodIn_app (goodIn_of _ (by decide +kernel)) ggX10_node_X6_grow
set_option maxRecDepth 20000 in
theorem ggX10_node_X6_put : GoodIn wsX10_node wsX6_put := goodIn_r _ [18, 13, 14, 42, 43, 44] (by decide +kernel) (by decide +kernel)
set_option maxRecDepth 20000 in
theorem gX10_node_X6_put : GoodIn wsX10_node (wsV RX10 93 RX6 yX6_put wsX6_put) := goodIn_app (goodIn_of _ (by decide +kernel)) ggX10_node_X6_put
set_option maxRecDepth 20000 in
theorem ggX10_of_X6_has : GoodIn wsX10_of wsX6_has := goodIn_r _ [7, 8, 42, 43, 44] (by decide +kernel) (by decide +kernel)
set_option maxRecDepth 20000 in
theorem gX10_of_X6_has : GoodIn wsX10_of (wsV RX10 97 RX6 yX6_has wsX6_has) := goodIn_app (goodIn_of _ (by decide +kernel)) ggX10_of_X6_has
set_option maxRecDepth 20000 in
theorem ggX10_order_X10_isWish : GoodIn wsX10_order wsX10_isWish := goodIn_r _ [11, 1] (by decide +kernel) (by decide +kernel)
set_option maxRecDepth 20000 in
theorem gX10_order_X10_isWish : GoodIn wsX10_order (va_wsS RX10 260 yX10_isWish wsX10_isWish) := goodIn_app (goodIn_of _ (by decide +kernel)) ggX10_order_X10_isWish
set_option maxRecDepth 20000 in
theorem ggX10_order_X10_within : GoodIn wsX10_order wsX10_within := goodIn_r _ [8] (by decide +kernel) (by decide +kernel)
set_option maxRecDepth 20000 in
theorem gX10_order_X10_within : GoodIn wsX10_order (va_wsS RX10 79 yX10_within wsX10_within) := goodIn_app (goodIn_of _ (by decide +kernel)) ggX10_order_X10_within
set_option maxRecDepth 20000 in
theorem ggX10_order_X6_has : GoodIn wsX10_order wsX6_has := goodIn_r _ [16, 17, 51, 52, 53] (by decide +kernel) (by decide +kernel)
set_option maxRecDepth 20000 in
theorem gX10_order_X6_has : GoodIn wsX10_order (wsV RX10 97 RX6 yX6_has wsX6_has) := goodIn_app (goodIn_of _ (by decide +kernel)) ggX10_order_X6_has
set_option maxRecDepth 20000 in
theorem ggX10_pass_X10_within : GoodIn wsX10_pass wsX10_within := goodIn_r _ [13] (by decide +kernel) (by decide +kernel)
set_option maxRecDepth 20000 in
theorem gX10_pass_X10_within : GoodIn wsX10_pass (va_wsS RX10 79 yX10_within wsX10_within) := goodIn_app (goodIn_of _ (by decide +kernel)) ggX10_pass_X10_within
set_option maxRecDepth 20000 in
theorem ggX10_pass_X6_has : GoodIn wsX10_pass wsX6_has := goodIn_r _ [8, 9, 47, 48, 49] (by decide +kernel) (by decide +kernel)
set_option maxRecDepth 20000 in
theorem gX10_pass_X6_has : GoodIn wsX10_pass (wsV RX10 97 RX6 yX6_has wsX6_has) := goodIn_app (goodIn_of _ (by decide +kernel)) ggX10_pass_X6_has
set_option maxRecDepth 20000 in
theorem ggX10_pour_X9_nodeOf : GoodIn wsX10_pour wsX9_nodeOf := goodIn_r _ [7, 8, 9, 10, 11, 12, 13, 14, 15, 16, 17, 18, 19, 20, 50, 51, 52, 53, 54, 55, 56, 57, 58, 59, 60, 61, 62] (by decide +kernel) (by decide +kernel)
set_option maxRecDepth 20000 in
theorem gX10_pour_X9_nodeOf : GoodIn wsX10_pour (wsV RX10 136 RX9 yX9_nodeOf wsX9_nodeOf) := goodIn_app (goodIn_of _ (by decide +kernel)) ggX10_pour_X9_nodeOf
set_option maxRecDepth 20000 in
theorem ggX10_price_X10_lawOf : GoodIn wsX10_price wsX10_lawOf := goodIn_r _ [10, 11, 12, 13, 14, 9, 15, 193, 194, 195, 196, 197, 198, 199, 200, 201, 202, 203, 204, 205] (by decide +kernel) (by decide +kernel)
set_option maxRecDepth 20000 in
theorem gX10_price_X10_lawOf : GoodIn wsX10_price (wsV RX10 161 RX10 yX10_lawOf wsX10_lawOf) := goodIn_app (goodIn_of _ (by decide +kernel)) ggX10_price_X10_lawOf
set_option maxRecDepth 20000 in
theorem ggX10_serves_X10_lawOf : GoodIn wsX10_serves wsX10_lawOf := goodIn_r _ [9, 10, 11, 12, 13, 8, 14, 188, 189, 190, 191, 192, 193, 194, 195, 196, 197, 198, 199, 200] (by decide +kernel) (by decide +kernel)
set_option maxRecDepth 20000 in
theorem gX10_serves_X10_lawOf : GoodIn wsX10_serves (wsV RX10 161 RX10 yX10_lawOf wsX10_lawOf) := goodIn_app (goodIn_of _ (by decide +kernel)) ggX10_serves_X10_lawOf
set_option maxRecDepth 20000 in
theorem ggX10_soonest_X6_has : GoodIn wsX10_soonest wsX6_has := goodIn_r _ [9, 10, 63, 64, 65] (by decide +kernel) (by decide +kernel)
set_option maxRecDepth 20000 in
theorem gX10_soonest_X6_has : GoodIn wsX10_soonest (wsV RX10 97 RX6 yX6_has wsX6_has) := goodIn_app (goodIn_of _ (by decide +kernel)) ggX10_soonest_X6_has
set_option maxRecDepth 20000 in
theorem ggX10_store_X6_has : GoodIn wsX10_store wsX6_has := goodIn_r _ [8, 9, 47, 48, 49] (by decide +kernel) (by decide +kernel)
set_option maxRecDepth 20000 in
theorem gX10_store_X6_has : GoodIn wsX10_store (wsV RX10 97 RX6 yX6_has wsX6_has) := goodIn_app (goodIn_of _ (by decide +kernel)) ggX10_store_X6_has
set_option maxRecDepth 20000 in
theorem ggX10_tick_X10_lawOf : GoodIn wsX10_tick wsX10_lawOf := goodIn_r _ [9, 10, 11, 12, 13, 8, 14, 174, 175, 176, 177, 178, 179, 180, 181, 182, 183, 184, 185, 186] (by decide +kernel) (by decide +kernel)
set_option maxRecDepth 20000 in
theorem gX10_tick_X10_lawOf : GoodIn wsX10_tick (wsV RX10 161 RX10 yX10_lawOf wsX10_lawOf) := goodIn_app (goodIn_of _ (by decide +kernel)) ggX10_tick_X10_lawOf
set_option maxRecDepth 20000 in
theorem ggX10_tried_X10_lawOf : GoodIn wsX10_tried wsX10_lawOf := goodIn_r _ [10, 11, 12, 13, 14, 9, 15, 139, 140, 141, 142, 143, 144, 145, 146, 147, 148, 149, 150, 151] (by decide +kernel) (by decide +kernel)
set_option maxRecDepth 20000 in
theorem gX10_tried_X10_lawOf : GoodIn wsX10_tried (wsV RX10 161 RX10 yX10_lawOf wsX10_lawOf) := goodIn_app (goodIn_of _ (by decide +kernel)) ggX10_tried_X10_lawOf
set_option maxRecDepth 20000 in
theorem ggX10_warmer_X10_isLoad : GoodIn wsX10_warmer wsX10_isLoad := goodIn_r _ [23, 1, 18, 19, 14, 20, 24, 25, 26] (by decide +kernel) (by decide +kernel)
set_option maxRecDepth 20000 in
theorem gX10_warmer_X10_isLoad : GoodIn wsX10_warmer (va_wsS RX10 191 yX10_isLoad wsX10_isLoad) := goodIn_app (goodIn_of _ (by decide +kernel)) ggX10_warmer_X10_isLoad
set_option maxRecDepth 20000 in
theorem ggX10_warmer_X10_lawOf : GoodIn wsX10_warmer wsX10_lawOf := goodIn_r _ [15, 16, 17, 18, 19, 14, 20, 143, 144, 145, 146, 147, 148, 149, 150, 151, 152, 153, 154, 155] (by decide +kernel) (by decide +kernel)
set_option maxRecDepth 20000 in
theorem gX10_warmer_X10_lawOf : GoodIn wsX10_warmer (wsV RX10 161 RX10 yX10_lawOf wsX10_lawOf) := goodIn_app (goodIn_of _ (by decide +kernel)) ggX10_warmer_X10_lawOf
set_option maxRecDepth 20000 in
theorem ggX10_warmer_X10_within : GoodIn wsX10_warmer wsX10_within := goodIn_r _ [20] (by decide +kernel) (by decide +kernel)
set_option maxRecDepth 20000 in
theorem gX10_warmer_X10_within : GoodIn wsX10_warmer (va_wsS RX10 79 yX10_within wsX10_within) := goodIn_app (goodIn_of _ (by decide +kernel)) ggX10_warmer_X10_within
set_option maxRecDepth 20000 in
theorem ggX2_cut_X2_addToken : GoodIn wsX2_cut wsX2_addToken := goodIn_r _ [73, 1, 74, 75, 76, 77, 78, 79, 80, 81, 82, 83] (by decide +kernel) (by decide +kernel)
set_option maxRecDepth 20000 in
theorem gX2_cut_X2_addToken : GoodIn wsX2_cut (wsV RX2 75 RX2 yX2_addToken wsX2_addToken) := goodIn_app (goodIn_of _ (by decide +kernel)) ggX2_cut_X2_addToken
set_option maxRecDepth 20000 in
theorem ggX2_init_X1_init : GoodIn wsX2_init wsX1_init := goodIn_r _ [12, 13, 2, 3, 4, 14, 15, 16, 17, 18, 19, 20, 21, 22, 23, 24, 25, 34, 35, 36, 37, 38, 39, 40, 41, 42, 43, 44, 45, 46, 47, 48, 49, 50] (by decide +kernel) (by decide +kernel)
set_option maxRecDepth 20000 in
theorem gX2_init_X1_init_n22 : GoodIn wsX2_init (wsX1_init) := ggX2_init_X1_init
set_option maxRecDepth 20000 in
theorem ggX2_readClause_X2_refuse : GoodIn wsX2_readClause wsX2_refuse := goodIn_r _ [14, 2, 15, 16, 99, 100, 101, 102, 103, 104, 105, 106] (by decide +kernel) (by decide +kernel)
set_option maxRecDepth 20000 in
theorem gX2_readClause_X2_refuse : GoodIn wsX2_readClause (wsV RX2 102 RX2 yX2_refuse wsX2_refuse) := goodIn_app (goodIn_of _ (by decide +kernel)) ggX2_readClause_X2_refuse
set_option maxRecDepth 20000 in
theorem ggX2_readClause_X2_token : GoodIn wsX2_readClause wsX2_token := goodIn_r _ [8, 2, 9, 10, 99, 100, 101, 102, 103, 104, 105, 106] (by decide +kernel) (by decide +kernel)
set_option maxRecDepth 20000 in
theorem gX2_readClause_X2_token : GoodIn wsX2_readClause (wsV RX2 58 RX2 yX2_token wsX2_token) := goodIn_app (goodIn_of _ (by decide +kernel)) ggX2_readClause_X2_token
set_option maxRecDepth 20000 in
theorem ggX2_read_X1_clear : GoodIn wsX2_read wsX1_clear := goodIn_r _ [93, 94, 95, 96, 97, 98, 195, 196, 197, 198, 199, 200, 201, 202, 203, 204, 205, 206, 207, 208, 209, 210, 211] (by decide +kernel) (by decide +kernel)
set_option maxRecDepth 20000 in
theorem gX2_read_X1_clear : GoodIn wsX2_read (wsV RX2 51 RX1 yX1_clear wsX1_clear) := goodIn_app (goodIn_of _ (by decide +kernel)) ggX2_read_X1_clear
set_option maxRecDepth 20000 in
theorem ggX2_read_X2_cut : GoodIn wsX2_read wsX2_cut := goodIn_r _ [14, 15, 16, 17, 13, 18, 19, 20, 21, 22, 23, 24, 25, 26, 27, 28, 29, 30, 31, 32, 33, 34, 35, 36, 37, 38, 39, 40, 41, 42, 43, 44, 45, 46, 47, 48, 49, 50, 51, 52, 53, 54, 55, 56, 57, 58, 59, 60, 61, 62, 63, 64, 65, 66, 67, 68, 69, 70, 71, 72, 73, 74, 75, 76, 77, 78, 79, 80, 81, 82, 83, 84, 85, 86, 87, 88, 187, 188, 189, 190, 191, 192, 193, 194] (by decide +kernel) (by decide +kernel)
set_option maxRecDepth 20000 in
theorem gX2_read_X2_cut : GoodIn wsX2_read (wsV RX2 33 RX2 yX2_cut wsX2_cut) := goodIn_app (goodIn_of _ (by decide +kernel)) ggX2_read_X2_cut
set_option maxRecDepth 20000 in
theorem ggX2_read_X2_readClause : GoodIn wsX2_read wsX2_readClause := goodIn_r _ [102, 8, 5, 9, 103, 104, 105, 13, 106, 15, 87, 107, 108, 109, 110, 88, 6, 111, 112, 113, 114, 115, 116, 117, 118, 92, 119, 95, 120, 121, 96, 122, 123, 124, 125, 126, 127, 128, 129, 7, 130, 131, 132, 133, 134, 135, 136, 137, 138, 139, 140, 141, 142, 143, 144, 98, 145, 146, 147, 148, 149, 150, 151, 152, 153, 154, 155, 156, 157, 158, 159, 160, 161, 162, 163, 164, 165, 166, 167, 168, 169, 97, 170, 171, 172, 173, 174, 175, 176, 177, 178, 179, 180, 181, 182, 183, 184, 185, 186, 187, 188, 189, 190, 191, 192, 193, 194, 195, 196, 197, 198, 199, 200, 201, 202, 203, 204, 205, 206, 207, 208, 209, 210, 211] (by decide +kernel) (by decide +kernel)
set_option maxRecDepth 20000 in
theorem gX2_read_X2_readClause : GoodIn wsX2_read (wsV RX2 54 RX2 yX2_readClause wsX2_readClause) := goodIn_app (goodIn_of _ (by decide +kernel)) ggX2_read_X2_readClause
set_option maxRecDepth 20000 in
theorem ggX7_init_X1_init : GoodIn wsX7_init wsX1_init := goodIn_r _ [14, 15, 2, 3, 16, 17, 18, 19, 20, 21, 22, 23, 24, 25, 26, 27, 28, 33, 34, 35, 36, 37, 38, 39, 40, 41, 42, 43, 44, 45, 46, 47, 48, 49] (by decide +kernel) (by decide +kernel)
set_option maxRecDepth 20000 in
theorem gX7_init_X1_init_n11 : GoodIn wsX7_init (wsX1_init) := ggX7_init_X1_init
set_option maxRecDepth 20000 in
theorem ggX7_init_X4_init : GoodIn wsX7_init wsX4_init := goodIn_r _ [30, 31, 2, 3, 16, 32, 59, 60, 61, 62] (by decide +kernel) (by decide +kernel)
set_option maxRecDepth 20000 in
theorem gX7_init_X4_init_n20 : GoodIn wsX7_init (wsX4_init) := ggX7_init_X4_init
set_option maxRecDepth 20000 in
theorem ggX9_copyFrom_X6_copyFrom : GoodIn wsX9_copyFrom wsX6_copyFrom := goodIn_r _ [15, 16, 17, 18, 19, 20, 21, 32, 33, 34] (by decide +kernel) (by decide +kernel)
set_option maxRecDepth 20000 in
theorem gX9_copyFrom_X6_copyFrom : GoodIn wsX9_copyFrom (wsV RX9 39 RX6 yX6_copyFrom wsX6_copyFrom) := goodIn_app (goodIn_of _ (by decide +kernel)) ggX9_copyFrom_X6_copyFrom
set_option maxRecDepth 20000 in
theorem ggX9_init_X6_init : GoodIn wsX9_init wsX6_init := goodIn_r _ [16, 17, 2, 3, 18, 19, 20, 21, 22, 23, 24, 25, 26, 27] (by decide +kernel) (by decide +kernel)
set_option maxRecDepth 20000 in
theorem gX9_init_X6_init : GoodIn wsX9_init (wsX6_init) := ggX9_init_X6_init
set_option maxRecDepth 20000 in
theorem ggX9_nodeOf_X6_has : GoodIn wsX9_nodeOf wsX6_has := goodIn_r _ [6, 7, 24, 25, 26] (by decide +kernel) (by decide +kernel)
set_option maxRecDepth 20000 in
theorem gX9_nodeOf_X6_has : GoodIn wsX9_nodeOf (wsV RX9 56 RX6 yX6_has wsX6_has) := goodIn_app (goodIn_of _ (by decide +kernel)) ggX9_nodeOf_X6_has
