def ixX1_addFact : List Nat := [76, 88, 89, 90, 91, 92, 375, 376, 377, 426, 427, 428, 440, 441, 1411, 1412, 1413, 1414, 1415, 1416, 1417, 1418, 1419, 1420, 1421, 1422, 1423, 1424, 1425, 1426, 1427]
def wsX1_addFact : List Cond := .code yX1_addFact cX1_addFact 4 none :: ixX1_addFact.map wt
def ixX1_addStep : List Nat := [92, 377, 428, 1411, 1412, 1413, 1414, 1415, 1416, 1417, 1418, 1419, 1420, 1421, 1422, 1423, 1424, 1425, 1426, 1427]
def wsX1_addStep : List Cond := .code yX1_addStep cX1_addStep 2 none :: ixX1_addStep.map wt
def ixX1_addValue : List Nat := [86, 87, 375, 410, 1411, 1412, 1413, 1414, 1415, 1416, 1417, 1418, 1419, 1420, 1421, 1422, 1423, 1424, 1425, 1426, 1427]
def wsX1_addValue : List Cond := .code yX1_addValue cX1_addValue 3 none :: ixX1_addValue.map wt
def ixX1_beginClause : List Nat := [81, 82, 374, 375, 398, 1411, 1412, 1413, 1414, 1415, 1416, 1417, 1418, 1419, 1420, 1421, 1422, 1423, 1424, 1425, 1426, 1427]
def wsX1_beginClause : List Cond := .code yX1_beginClause cX1_beginClause 2 none :: ixX1_beginClause.map wt
def ixX1_clear : List Nat := [372, 373, 374, 375, 376, 377, 1411, 1412, 1413, 1414, 1415, 1416, 1417, 1418, 1419, 1420, 1421, 1422, 1423, 1424, 1425, 1426, 1427]
def wsX1_clear : List Cond := .code yX1_clear cX1_clear 1 none :: ixX1_clear.map wt
def ixX1_endSum : List Nat := [83, 84, 85, 374, 375, 377, 417, 1411, 1412, 1413, 1414, 1415, 1416, 1417, 1418, 1419, 1420, 1421, 1422, 1423, 1424, 1425, 1426, 1427]
def wsX1_endSum : List Cond := .code yX1_endSum cX1_endSum 2 none :: ixX1_endSum.map wt
def ixX1_endTest : List Nat := [85, 374, 377, 453, 1411, 1412, 1413, 1414, 1415, 1416, 1417, 1418, 1419, 1420, 1421, 1422, 1423, 1424, 1425, 1426, 1427]
def wsX1_endTest : List Cond := .code yX1_endTest cX1_endTest 2 none :: ixX1_endTest.map wt
def ixX1_holds : List Nat := [76, 86, 87, 88, 89, 90, 91, 92, 756, 757, 758, 759, 760, 761, 762, 763, 764, 1411, 1412, 1413, 1414, 1415, 1416, 1417, 1418, 1419, 1420, 1421, 1422, 1423, 1424, 1425, 1426, 1427]
def wsX1_holds : List Cond := .code yX1_holds cX1_holds 12 (some .boolean) :: ixX1_holds.map wt
def ixX1_isTrue : List Nat := [764]
def wsX1_isTrue : List Cond := .code yX1_isTrue cX1_isTrue 5 (some .boolean) :: ixX1_isTrue.map wt
def ixX1_sumOf : List Nat := [76, 81, 82, 83, 84, 85, 86, 87, 88, 89, 90, 91, 92, 374, 752, 753, 754, 755, 756, 757, 758, 759, 760, 761, 762, 763, 764, 1411, 1412, 1413, 1414, 1415, 1416, 1417, 1418, 1419, 1420, 1421, 1422, 1423, 1424, 1425, 1426, 1427]
def wsX1_sumOf : List Cond := .code yX1_sumOf cX1_sumOf 4 (some .long) :: ixX1_sumOf.map wt
def ixX1_total : List Nat := [86, 87, 761, 1411, 1412, 1413, 1414, 1415, 1416, 1417, 1418, 1419, 1420, 1421, 1422, 1423, 1424, 1425, 1426, 1427]
def wsX1_total : List Cond := .code yX1_total cX1_total 15 (some .long) :: ixX1_total.map wt
theorem ggX1_addFact_X1_addStep : GoodIn wsX1_addFact wsX1_addStep := gi_ (A := ixX1_addFact) (B := ixX1_addStep) wt428 (by decide +kernel)
theorem gX1_addFact_X1_addStep : GoodIn wsX1_addFact (wsV RX1 62 RX1 yX1_addStep wsX1_addStep) := g4_ (A := ixX1_addFact) wt441 wt426 wt427 wt76 (by decide +kernel) ggX1_addFact_X1_addStep
theorem ggX1_holds_X1_isTrue : GoodIn wsX1_holds wsX1_isTrue := gi_ (A := ixX1_holds) (B := ixX1_isTrue) wt764 (by decide +kernel)
theorem gX1_holds_X1_isTrue : GoodIn wsX1_holds (va_wsS RX1 76 yX1_isTrue wsX1_isTrue) := g3_ (A := ixX1_holds) wt762 wt763 wt76 (by decide +kernel) ggX1_holds_X1_isTrue
theorem ggX1_holds_X1_total : GoodIn wsX1_holds wsX1_total := gi_ (A := ixX1_holds) (B := ixX1_total) wt761 (by decide +kernel)
theorem gX1_holds_X1_total : GoodIn wsX1_holds (wsV RX1 70 RX1 yX1_total wsX1_total) := g4_ (A := ixX1_holds) wt758 wt759 wt760 wt76 (by decide +kernel) ggX1_holds_X1_total
theorem ggX1_sumOf_X1_holds : GoodIn wsX1_sumOf wsX1_holds := gi_ (A := ixX1_sumOf) (B := ixX1_holds) wt756 (by decide +kernel)
theorem gX1_sumOf_X1_holds : GoodIn wsX1_sumOf (wsV RX1 66 RX1 yX1_holds wsX1_holds) := g4_ (A := ixX1_sumOf) wt753 wt754 wt755 wt76 (by decide +kernel) ggX1_sumOf_X1_holds
theorem ggX1_sumOf_X1_total : GoodIn wsX1_sumOf wsX1_total := gi_ (A := ixX1_sumOf) (B := ixX1_total) wt761 (by decide +kernel)
theorem gX1_sumOf_X1_total : GoodIn wsX1_sumOf (wsV RX1 70 RX1 yX1_total wsX1_total) := g4_ (A := ixX1_sumOf) wt758 wt759 wt760 wt76 (by decide +kernel) ggX1_sumOf_X1_total
theorem kX1_clear_1 {a : Array Value} {s : State} (hts : ∀ w ∈ wsX1_clear, w.before a s = true) : (.fieldLink RX1 46 "SnowMules$Law" "chain" "I" : Cond).before a s = true := kw (A := ixX1_clear) wt373 hts (by decide +kernel)
theorem kX1_clear_2 {a : Array Value} {s : State} (hts : ∀ w ∈ wsX1_clear, w.before a s = true) : (.fieldLink RX1 50 "SnowMules$Law" "clauses" "I" : Cond).before a s = true := kw (A := ixX1_clear) wt374 hts (by decide +kernel)
theorem kX1_clear_3 {a : Array Value} {s : State} (hts : ∀ w ∈ wsX1_clear, w.before a s = true) : (.fieldLink RX1 53 "SnowMules$Law" "values" "I" : Cond).before a s = true := kw (A := ixX1_clear) wt375 hts (by decide +kernel)
theorem kX1_clear_4 {a : Array Value} {s : State} (hts : ∀ w ∈ wsX1_clear, w.before a s = true) : (.fieldLink RX1 56 "SnowMules$Law" "facts" "I" : Cond).before a s = true := kw (A := ixX1_clear) wt376 hts (by decide +kernel)
theorem kX1_clear_5 {a : Array Value} {s : State} (hts : ∀ w ∈ wsX1_clear, w.before a s = true) : (.fieldLink RX1 59 "SnowMules$Law" "steps" "I" : Cond).before a s = true := kw (A := ixX1_clear) wt377 hts (by decide +kernel)
theorem kX1_beginClause_1 {a : Array Value} {s : State} (hts : ∀ w ∈ wsX1_beginClause, w.before a s = true) : (.fieldLink RX1 50 "SnowMules$Law" "clauses" "I" : Cond).before a s = true := kw (A := ixX1_beginClause) wt374 hts (by decide +kernel)
theorem kX1_beginClause_2 {a : Array Value} {s : State} (hts : ∀ w ∈ wsX1_beginClause, w.before a s = true) : (.fieldLink RX1 9 "SnowMules$Law" "sorts" "[I" : Cond).before a s = true := kw (A := ixX1_beginClause) wt81 hts (by decide +kernel)
theorem kX1_beginClause_3 {a : Array Value} {s : State} (hts : ∀ w ∈ wsX1_beginClause, w.before a s = true) : (.fieldLink RX1 13 "SnowMules$Law" "sumStarts" "[I" : Cond).before a s = true := kw (A := ixX1_beginClause) wt82 hts (by decide +kernel)
theorem kX1_beginClause_4 {a : Array Value} {s : State} (hts : ∀ w ∈ wsX1_beginClause, w.before a s = true) : (.fieldLink RX1 53 "SnowMules$Law" "values" "I" : Cond).before a s = true := kw (A := ixX1_beginClause) wt375 hts (by decide +kernel)
theorem kX1_endSum_1 {a : Array Value} {s : State} (hts : ∀ w ∈ wsX1_endSum, w.before a s = true) : (.fieldLink RX1 50 "SnowMules$Law" "clauses" "I" : Cond).before a s = true := kw (A := ixX1_endSum) wt374 hts (by decide +kernel)
theorem kX1_endSum_2 {a : Array Value} {s : State} (hts : ∀ w ∈ wsX1_endSum, w.before a s = true) : (.fieldLink RX1 16 "SnowMules$Law" "sumStops" "[I" : Cond).before a s = true := kw (A := ixX1_endSum) wt83 hts (by decide +kernel)
theorem kX1_endSum_3 {a : Array Value} {s : State} (hts : ∀ w ∈ wsX1_endSum, w.before a s = true) : (.fieldLink RX1 53 "SnowMules$Law" "values" "I" : Cond).before a s = true := kw (A := ixX1_endSum) wt375 hts (by decide +kernel)
theorem kX1_endSum_4 {a : Array Value} {s : State} (hts : ∀ w ∈ wsX1_endSum, w.before a s = true) : (.fieldLink RX1 19 "SnowMules$Law" "testStarts" "[I" : Cond).before a s = true := kw (A := ixX1_endSum) wt84 hts (by decide +kernel)
theorem kX1_endSum_5 {a : Array Value} {s : State} (hts : ∀ w ∈ wsX1_endSum, w.before a s = true) : (.fieldLink RX1 59 "SnowMules$Law" "steps" "I" : Cond).before a s = true := kw (A := ixX1_endSum) wt377 hts (by decide +kernel)
theorem kX1_endSum_6 {a : Array Value} {s : State} (hts : ∀ w ∈ wsX1_endSum, w.before a s = true) : (.fieldLink RX1 22 "SnowMules$Law" "testStops" "[I" : Cond).before a s = true := kw (A := ixX1_endSum) wt85 hts (by decide +kernel)
theorem kX1_endTest_1 {a : Array Value} {s : State} (hts : ∀ w ∈ wsX1_endTest, w.before a s = true) : (.fieldLink RX1 50 "SnowMules$Law" "clauses" "I" : Cond).before a s = true := kw (A := ixX1_endTest) wt374 hts (by decide +kernel)
theorem kX1_endTest_2 {a : Array Value} {s : State} (hts : ∀ w ∈ wsX1_endTest, w.before a s = true) : (.fieldLink RX1 22 "SnowMules$Law" "testStops" "[I" : Cond).before a s = true := kw (A := ixX1_endTest) wt85 hts (by decide +kernel)
theorem kX1_endTest_3 {a : Array Value} {s : State} (hts : ∀ w ∈ wsX1_endTest, w.before a s = true) : (.fieldLink RX1 59 "SnowMules$Law" "steps" "I" : Cond).before a s = true := kw (A := ixX1_endTest) wt377 hts (by decide +kernel)
theorem kX1_addValue_1 {a : Array Value} {s : State} (hts : ∀ w ∈ wsX1_addValue, w.before a s = true) : (.fieldLink RX1 53 "SnowMules$Law" "values" "I" : Cond).before a s = true := kw (A := ixX1_addValue) wt375 hts (by decide +kernel)
theorem kX1_addValue_2 {a : Array Value} {s : State} (hts : ∀ w ∈ wsX1_addValue, w.before a s = true) : (.fieldLink RX1 25 "SnowMules$Law" "joins" "[I" : Cond).before a s = true := kw (A := ixX1_addValue) wt86 hts (by decide +kernel)
theorem kX1_addValue_3 {a : Array Value} {s : State} (hts : ∀ w ∈ wsX1_addValue, w.before a s = true) : (.fieldLink RX1 28 "SnowMules$Law" "operands" "[I" : Cond).before a s = true := kw (A := ixX1_addValue) wt87 hts (by decide +kernel)
theorem kX1_addStep_1 {a : Array Value} {s : State} (hts : ∀ w ∈ wsX1_addStep, w.before a s = true) : (.fieldLink RX1 59 "SnowMules$Law" "steps" "I" : Cond).before a s = true := kw (A := ixX1_addStep) wt377 hts (by decide +kernel)
theorem kX1_addStep_2 {a : Array Value} {s : State} (hts : ∀ w ∈ wsX1_addStep, w.before a s = true) : (.fieldLink RX1 43 "SnowMules$Law" "tests" "[I" : Cond).before a s = true := kw (A := ixX1_addStep) wt92 hts (by decide +kernel)
theorem kX1_addFact_1 {a : Array Value} {s : State} (hts : ∀ w ∈ wsX1_addFact, w.before a s = true) : (.fieldLink RX1 56 "SnowMules$Law" "facts" "I" : Cond).before a s = true := kw (A := ixX1_addFact) wt376 hts (by decide +kernel)
theorem kX1_addFact_2 {a : Array Value} {s : State} (hts : ∀ w ∈ wsX1_addFact, w.before a s = true) : (.fieldLink RX1 31 "SnowMules$Law" "factStarts" "[I" : Cond).before a s = true := kw (A := ixX1_addFact) wt88 hts (by decide +kernel)
theorem kX1_addFact_3 {a : Array Value} {s : State} (hts : ∀ w ∈ wsX1_addFact, w.before a s = true) : (.fieldLink RX1 34 "SnowMules$Law" "factMiddles" "[I" : Cond).before a s = true := kw (A := ixX1_addFact) wt89 hts (by decide +kernel)
theorem kX1_addFact_4 {a : Array Value} {s : State} (hts : ∀ w ∈ wsX1_addFact, w.before a s = true) : (.fieldLink RX1 37 "SnowMules$Law" "factStops" "[I" : Cond).before a s = true := kw (A := ixX1_addFact) wt90 hts (by decide +kernel)
theorem kX1_addFact_5 {a : Array Value} {s : State} (hts : ∀ w ∈ wsX1_addFact, w.before a s = true) : (.fieldLink RX1 53 "SnowMules$Law" "values" "I" : Cond).before a s = true := kw (A := ixX1_addFact) wt375 hts (by decide +kernel)
theorem kX1_addFact_6 {a : Array Value} {s : State} (hts : ∀ w ∈ wsX1_addFact, w.before a s = true) : (.fieldLink RX1 40 "SnowMules$Law" "signs" "[I" : Cond).before a s = true := kw (A := ixX1_addFact) wt91 hts (by decide +kernel)
theorem kX1_total_1 {a : Array Value} {s : State} (hts : ∀ w ∈ wsX1_total, w.before a s = true) : (.fieldLink RX1 28 "SnowMules$Law" "operands" "[I" : Cond).before a s = true := kw (A := ixX1_total) wt87 hts (by decide +kernel)
theorem kX1_total_2 {a : Array Value} {s : State} (hts : ∀ w ∈ wsX1_total, w.before a s = true) : (.fieldLink RX1 25 "SnowMules$Law" "joins" "[I" : Cond).before a s = true := kw (A := ixX1_total) wt86 hts (by decide +kernel)
theorem kX1_holds_1 {a : Array Value} {s : State} (hts : ∀ w ∈ wsX1_holds, w.before a s = true) : (.fieldLink RX1 43 "SnowMules$Law" "tests" "[I" : Cond).before a s = true := kw (A := ixX1_holds) wt92 hts (by decide +kernel)
theorem kX1_holds_3 {a : Array Value} {s : State} (hts : ∀ w ∈ wsX1_holds, w.before a s = true) : (.fieldLink RX1 31 "SnowMules$Law" "factStarts" "[I" : Cond).before a s = true := kw (A := ixX1_holds) wt88 hts (by decide +kernel)
theorem kX1_holds_4 {a : Array Value} {s : State} (hts : ∀ w ∈ wsX1_holds, w.before a s = true) : (.fieldLink RX1 34 "SnowMules$Law" "factMiddles" "[I" : Cond).before a s = true := kw (A := ixX1_holds) wt89 hts (by decide +kernel)
theorem kX1_holds_5 {a : Array Value} {s : State} (hts : ∀ w ∈ wsX1_holds, w.before a s = true) : (.fieldLink RX1 37 "SnowMules$Law" "factStops" "[I" : Cond).before a s = true := kw (A := ixX1_holds) wt90 hts (by decide +kernel)
theorem kX1_holds_6 {a : Array Value} {s : State} (hts : ∀ w ∈ wsX1_holds, w.before a s = true) : (.fieldLink RX1 40 "SnowMules$Law" "signs" "[I" : Cond).before a s = true := kw (A := ixX1_holds) wt91 hts (by decide +kernel)
theorem kX1_holds_2 {a : Array Value} {s : State} (hts : ∀ w ∈ wsX1_holds, w.before a s = true) : (.constantLong RX1 74 (-2) : Cond).before a s = true := kw (A := ixX1_holds) wt757 hts (by decide +kernel)
theorem kX1_sumOf_1 {a : Array Value} {s : State} (hts : ∀ w ∈ wsX1_sumOf, w.before a s = true) : (.fieldLink RX1 50 "SnowMules$Law" "clauses" "I" : Cond).before a s = true := kw (A := ixX1_sumOf) wt374 hts (by decide +kernel)
theorem kX1_sumOf_2 {a : Array Value} {s : State} (hts : ∀ w ∈ wsX1_sumOf, w.before a s = true) : (.fieldLink RX1 9 "SnowMules$Law" "sorts" "[I" : Cond).before a s = true := kw (A := ixX1_sumOf) wt81 hts (by decide +kernel)
theorem kX1_sumOf_3 {a : Array Value} {s : State} (hts : ∀ w ∈ wsX1_sumOf, w.before a s = true) : (.fieldLink RX1 19 "SnowMules$Law" "testStarts" "[I" : Cond).before a s = true := kw (A := ixX1_sumOf) wt84 hts (by decide +kernel)
theorem kX1_sumOf_4 {a : Array Value} {s : State} (hts : ∀ w ∈ wsX1_sumOf, w.before a s = true) : (.fieldLink RX1 22 "SnowMules$Law" "testStops" "[I" : Cond).before a s = true := kw (A := ixX1_sumOf) wt85 hts (by decide +kernel)
theorem kX1_sumOf_5 {a : Array Value} {s : State} (hts : ∀ w ∈ wsX1_sumOf, w.before a s = true) : (.fieldLink RX1 13 "SnowMules$Law" "sumStarts" "[I" : Cond).before a s = true := kw (A := ixX1_sumOf) wt82 hts (by decide +kernel)
theorem kX1_sumOf_6 {a : Array Value} {s : State} (hts : ∀ w ∈ wsX1_sumOf, w.before a s = true) : (.fieldLink RX1 16 "SnowMules$Law" "sumStops" "[I" : Cond).before a s = true := kw (A := ixX1_sumOf) wt83 hts (by decide +kernel)
theorem iX1_clear_X1 : ∀ w ∈ wsX10, w ∈ wsX1_clear := inW (A := ixX1_clear) uwX1 (by decide +kernel)
theorem iX1_beginClause_X1 : ∀ w ∈ wsX10, w ∈ wsX1_beginClause := inW (A := ixX1_beginClause) uwX1 (by decide +kernel)
theorem iX1_endSum_X1 : ∀ w ∈ wsX10, w ∈ wsX1_endSum := inW (A := ixX1_endSum) uwX1 (by decide +kernel)
theorem iX1_endTest_X1 : ∀ w ∈ wsX10, w ∈ wsX1_endTest := inW (A := ixX1_endTest) uwX1 (by decide +kernel)
theorem iX1_addValue_X1 : ∀ w ∈ wsX10, w ∈ wsX1_addValue := inW (A := ixX1_addValue) uwX1 (by decide +kernel)
theorem iX1_addStep_X1 : ∀ w ∈ wsX10, w ∈ wsX1_addStep := inW (A := ixX1_addStep) uwX1 (by decide +kernel)
theorem iX1_addFact_X1 : ∀ w ∈ wsX10, w ∈ wsX1_addFact := inW (A := ixX1_addFact) uwX1 (by decide +kernel)
theorem iX1_total_X1 : ∀ w ∈ wsX10, w ∈ wsX1_total := inW (A := ixX1_total) uwX1 (by decide +kernel)
theorem iX1_holds_X1 : ∀ w ∈ wsX10, w ∈ wsX1_holds := inW (A := ixX1_holds) uwX1 (by decide +kernel)
theorem iX1_sumOf_X1 : ∀ w ∈ wsX10, w ∈ wsX1_sumOf := inW (A := ixX1_sumOf) uwX1 (by decide +kernel)
theorem hdX1_addStep : yX1_addStep.cls ≠ "java/lang/invoke/MethodHandle" ∧ yX1_addStep.cls ≠ "java/lang/invoke/VarHandle" ∧ (parseMethodDescriptor yX1_addStep.desc).map (fun d => d.parameters.length) = some 1 := ⟨hdc_3.1, hdc_3.2, hdd_17⟩
theorem hdX1_total : yX1_total.cls ≠ "java/lang/invoke/MethodHandle" ∧ yX1_total.cls ≠ "java/lang/invoke/VarHandle" ∧ (parseMethodDescriptor yX1_total.desc).map (fun d => d.parameters.length) = some 3 := ⟨hdc_3.1, hdc_3.2, hdd_27⟩
theorem hdX1_isTrue : yX1_isTrue.cls ≠ "java/lang/invoke/MethodHandle" ∧ yX1_isTrue.cls ≠ "java/lang/invoke/VarHandle" ∧ (parseMethodDescriptor yX1_isTrue.desc).map (fun d => d.parameters.length) = some 3 := ⟨hdc_3.1, hdc_3.2, hdd_28⟩
theorem hdX1_holds : yX1_holds.cls ≠ "java/lang/invoke/MethodHandle" ∧ yX1_holds.cls ≠ "java/lang/invoke/VarHandle" ∧ (parseMethodDescriptor yX1_holds.desc).map (fun d => d.parameters.length) = some 3 := ⟨hdc_3.1, hdc_3.2, hdd_29⟩
def dtX1_clear_33_0 : List (Nat × Jvm.ClassFile.Instr × Nat) := [(0, .aload_n 0, 1), (1, .iconst 0, 1), (2, .putfield 46, 3), (5, .aload_n 0, 1), (6, .iconst 0, 1), (7, .putfield 50, 3), (10, .aload_n 0, 1), (11, .iconst 0, 1), (12, .putfield 53, 3), (15, .aload_n 0, 1), (16, .iconst 0, 1), (17, .putfield 56, 3), (20, .aload_n 0, 1), (21, .iconst 0, 1), (22, .putfield 59, 3), (25, .return_, 1)]
theorem daX1_clear_33_0 : dtX1_clear_33_0.all (dqd cX1_clear) = true := by decide +kernel
theorem dX1_clear_0 : decode cX1_clear 0 = .ok (.aload_n 0, 1) := dq daX1_clear_33_0 0 rfl
theorem dX1_clear_1 : decode cX1_clear 1 = .ok (.iconst 0, 1) := dq daX1_clear_33_0 1 rfl
theorem dX1_clear_2 : decode cX1_clear 2 = .ok (.putfield 46, 3) := dq daX1_clear_33_0 2 rfl
theorem dX1_clear_5 : decode cX1_clear 5 = .ok (.aload_n 0, 1) := dq daX1_clear_33_0 3 rfl
theorem dX1_clear_6 : decode cX1_clear 6 = .ok (.iconst 0, 1) := dq daX1_clear_33_0 4 rfl
theorem dX1_clear_7 : decode cX1_clear 7 = .ok (.putfield 50, 3) := dq daX1_clear_33_0 5 rfl
theorem dX1_clear_10 : decode cX1_clear 10 = .ok (.aload_n 0, 1) := dq daX1_clear_33_0 6 rfl
theorem dX1_clear_11 : decode cX1_clear 11 = .ok (.iconst 0, 1) := dq daX1_clear_33_0 7 rfl
theorem dX1_clear_12 : decode cX1_clear 12 = .ok (.putfield 53, 3) := dq daX1_clear_33_0 8 rfl
theorem dX1_clear_15 : decode cX1_clear 15 = .ok (.aload_n 0, 1) := dq daX1_clear_33_0 9 rfl
theorem dX1_clear_16 : decode cX1_clear 16 = .ok (.iconst 0, 1) := dq daX1_clear_33_0 10 rfl
theorem dX1_clear_17 : decode cX1_clear 17 = .ok (.putfield 56, 3) := dq daX1_clear_33_0 11 rfl
theorem dX1_clear_20 : decode cX1_clear 20 = .ok (.aload_n 0, 1) := dq daX1_clear_33_0 12 rfl
theorem dX1_clear_21 : decode cX1_clear 21 = .ok (.iconst 0, 1) := dq daX1_clear_33_0 13 rfl
theorem dX1_clear_22 : decode cX1_clear 22 = .ok (.putfield 59, 3) := dq daX1_clear_33_0 14 rfl
theorem dX1_clear_25 : decode cX1_clear 25 = .ok (.return_, 1) := dq daX1_clear_33_0 15 rfl
def dtX1_beginClause_33_0 : List (Nat × Jvm.ClassFile.Instr × Nat) := [(0, .aload_n 0, 1), (1, .getfield 50, 3), (4, .bipush 12, 2), (6, .if_icmp .ge 36, 3), (42, .return_, 1), (9, .aload_n 0, 1), (10, .getfield 9, 3), (13, .aload_n 0, 1), (14, .getfield 50, 3), (17, .iload_n 1, 1), (18, .iastore, 1), (19, .aload_n 0, 1), (20, .getfield 13, 3), (23, .aload_n 0, 1), (24, .getfield 50, 3), (27, .aload_n 0, 1), (28, .getfield 53, 3), (31, .iastore, 1), (32, .aload_n 0, 1), (33, .dup, 1), (34, .getfield 50, 3), (37, .iconst 1, 1), (38, .iadd, 1), (39, .putfield 50, 3)]
theorem daX1_beginClause_33_0 : dtX1_beginClause_33_0.all (dqd cX1_beginClause) = true := by decide +kernel
theorem dX1_beginClause_0 : decode cX1_beginClause 0 = .ok (.aload_n 0, 1) := dq daX1_beginClause_33_0 0 rfl
theorem dX1_beginClause_1 : decode cX1_beginClause 1 = .ok (.getfield 50, 3) := dq daX1_beginClause_33_0 1 rfl
theorem dX1_beginClause_4 : decode cX1_beginClause 4 = .ok (.bipush 12, 2) := dq daX1_beginClause_33_0 2 rfl
theorem dX1_beginClause_6 : decode cX1_beginClause 6 = .ok (.if_icmp .ge 36, 3) := dq daX1_beginClause_33_0 3 rfl
theorem dX1_beginClause_42 : decode cX1_beginClause 42 = .ok (.return_, 1) := dq daX1_beginClause_33_0 4 rfl
theorem dX1_beginClause_9 : decode cX1_beginClause 9 = .ok (.aload_n 0, 1) := dq daX1_beginClause_33_0 5 rfl
theorem dX1_beginClause_10 : decode cX1_beginClause 10 = .ok (.getfield 9, 3) := dq daX1_beginClause_33_0 6 rfl
theorem dX1_beginClause_13 : decode cX1_beginClause 13 = .ok (.aload_n 0, 1) := dq daX1_beginClause_33_0 7 rfl
theorem dX1_beginClause_14 : decode cX1_beginClause 14 = .ok (.getfield 50, 3) := dq daX1_beginClause_33_0 8 rfl
theorem dX1_beginClause_17 : decode cX1_beginClause 17 = .ok (.iload_n 1, 1) := dq daX1_beginClause_33_0 9 rfl
theorem dX1_beginClause_18 : decode cX1_beginClause 18 = .ok (.iastore, 1) := dq daX1_beginClause_33_0 10 rfl
theorem dX1_beginClause_19 : decode cX1_beginClause 19 = .ok (.aload_n 0, 1) := dq daX1_beginClause_33_0 11 rfl
theorem dX1_beginClause_20 : decode cX1_beginClause 20 = .ok (.getfield 13, 3) := dq daX1_beginClause_33_0 12 rfl
theorem dX1_beginClause_23 : decode cX1_beginClause 23 = .ok (.aload_n 0, 1) := dq daX1_beginClause_33_0 13 rfl
theorem dX1_beginClause_24 : decode cX1_beginClause 24 = .ok (.getfield 50, 3) := dq daX1_beginClause_33_0 14 rfl
theorem dX1_beginClause_27 : decode cX1_beginClause 27 = .ok (.aload_n 0, 1) := dq daX1_beginClause_33_0 15 rfl
theorem dX1_beginClause_28 : decode cX1_beginClause 28 = .ok (.getfield 53, 3) := dq daX1_beginClause_33_0 16 rfl
theorem dX1_beginClause_31 : decode cX1_beginClause 31 = .ok (.iastore, 1) := dq daX1_beginClause_33_0 17 rfl
theorem dX1_beginClause_32 : decode cX1_beginClause 32 = .ok (.aload_n 0, 1) := dq daX1_beginClause_33_0 18 rfl
theorem dX1_beginClause_33 : decode cX1_beginClause 33 = .ok (.dup, 1) := dq daX1_beginClause_33_0 19 rfl
theorem dX1_beginClause_34 : decode cX1_beginClause 34 = .ok (.getfield 50, 3) := dq daX1_beginClause_33_0 20 rfl
theorem dX1_beginClause_37 : decode cX1_beginClause 37 = .ok (.iconst 1, 1) := dq daX1_beginClause_33_0 21 rfl
theorem dX1_beginClause_38 : decode cX1_beginClause 38 = .ok (.iadd, 1) := dq daX1_beginClause_33_0 22 rfl
theorem dX1_beginClause_39 : decode cX1_beginClause 39 = .ok (.putfield 50, 3) := dq daX1_beginClause_33_0 23 rfl
def dtX1_endSum_33_0 : List (Nat × Jvm.ClassFile.Instr × Nat) := [(0, .aload_n 0, 1), (1, .getfield 50, 3), (4, .iconst 1, 1), (5, .isub, 1), (6, .istore_n 1, 1), (7, .iload_n 1, 1), (8, .ifCond .lt 39, 3), (47, .return_, 1), (11, .iload_n 1, 1), (12, .bipush 12, 2), (14, .if_icmp .ge 33, 3), (17, .aload_n 0, 1), (18, .getfield 16, 3), (21, .iload_n 1, 1), (22, .aload_n 0, 1), (23, .getfield 53, 3), (26, .iastore, 1), (27, .aload_n 0, 1), (28, .getfield 19, 3), (31, .iload_n 1, 1), (32, .aload_n 0, 1), (33, .getfield 59, 3), (36, .iastore, 1), (37, .aload_n 0, 1), (38, .getfield 22, 3), (41, .iload_n 1, 1), (42, .aload_n 0, 1), (43, .getfield 59, 3), (46, .iastore, 1)]
theorem daX1_endSum_33_0 : dtX1_endSum_33_0.all (dqd cX1_endSum) = true := by decide +kernel
theorem dX1_endSum_0 : decode cX1_endSum 0 = .ok (.aload_n 0, 1) := dq daX1_endSum_33_0 0 rfl
theorem dX1_endSum_1 : decode cX1_endSum 1 = .ok (.getfield 50, 3) := dq daX1_endSum_33_0 1 rfl
theorem dX1_endSum_4 : decode cX1_endSum 4 = .ok (.iconst 1, 1) := dq daX1_endSum_33_0 2 rfl
theorem dX1_endSum_5 : decode cX1_endSum 5 = .ok (.isub, 1) := dq daX1_endSum_33_0 3 rfl
theorem dX1_endSum_6 : decode cX1_endSum 6 = .ok (.istore_n 1, 1) := dq daX1_endSum_33_0 4 rfl
theorem dX1_endSum_7 : decode cX1_endSum 7 = .ok (.iload_n 1, 1) := dq daX1_endSum_33_0 5 rfl
theorem dX1_endSum_8 : decode cX1_endSum 8 = .ok (.ifCond .lt 39, 3) := dq daX1_endSum_33_0 6 rfl
theorem dX1_endSum_47 : decode cX1_endSum 47 = .ok (.return_, 1) := dq daX1_endSum_33_0 7 rfl
theorem dX1_endSum_11 : decode cX1_endSum 11 = .ok (.iload_n 1, 1) := dq daX1_endSum_33_0 8 rfl
theorem dX1_endSum_12 : decode cX1_endSum 12 = .ok (.bipush 12, 2) := dq daX1_endSum_33_0 9 rfl
theorem dX1_endSum_14 : decode cX1_endSum 14 = .ok (.if_icmp .ge 33, 3) := dq daX1_endSum_33_0 10 rfl
theorem dX1_endSum_17 : decode cX1_endSum 17 = .ok (.aload_n 0, 1) := dq daX1_endSum_33_0 11 rfl
theorem dX1_endSum_18 : decode cX1_endSum 18 = .ok (.getfield 16, 3) := dq daX1_endSum_33_0 12 rfl
theorem dX1_endSum_21 : decode cX1_endSum 21 = .ok (.iload_n 1, 1) := dq daX1_endSum_33_0 13 rfl
theorem dX1_endSum_22 : decode cX1_endSum 22 = .ok (.aload_n 0, 1) := dq daX1_endSum_33_0 14 rfl
theorem dX1_endSum_23 : decode cX1_endSum 23 = .ok (.getfield 53, 3) := dq daX1_endSum_33_0 15 rfl
theorem dX1_endSum_26 : decode cX1_endSum 26 = .ok (.iastore, 1) := dq daX1_endSum_33_0 16 rfl
theorem dX1_endSum_27 : decode cX1_endSum 27 = .ok (.aload_n 0, 1) := dq daX1_endSum_33_0 17 rfl
theorem dX1_endSum_28 : decode cX1_endSum 28 = .ok (.getfield 19, 3) := dq daX1_endSum_33_0 18 rfl
theorem dX1_endSum_31 : decode cX1_endSum 31 = .ok (.iload_n 1, 1) := dq daX1_endSum_33_0 19 rfl
theorem dX1_endSum_32 : decode cX1_endSum 32 = .ok (.aload_n 0, 1) := dq daX1_endSum_33_0 20 rfl
theorem dX1_endSum_33 : decode cX1_endSum 33 = .ok (.getfield 59, 3) := dq daX1_endSum_33_0 21 rfl
theorem dX1_endSum_36 : decode cX1_endSum 36 = .ok (.iastore, 1) := dq daX1_endSum_33_0 22 rfl
theorem dX1_endSum_37 : decode cX1_endSum 37 = .ok (.aload_n 0, 1) := dq daX1_endSum_33_0 23 rfl
theorem dX1_endSum_38 : decode cX1_endSum 38 = .ok (.getfield 22, 3) := dq daX1_endSum_33_0 24 rfl
theorem dX1_endSum_41 : decode cX1_endSum 41 = .ok (.iload_n 1, 1) := dq daX1_endSum_33_0 25 rfl
theorem dX1_endSum_42 : decode cX1_endSum 42 = .ok (.aload_n 0, 1) := dq daX1_endSum_33_0 26 rfl
theorem dX1_endSum_43 : decode cX1_endSum 43 = .ok (.getfield 59, 3) := dq daX1_endSum_33_0 27 rfl
theorem dX1_endSum_46 : decode cX1_endSum 46 = .ok (.iastore, 1) := dq daX1_endSum_33_0 28 rfl
def dtX1_endTest_33_0 : List (Nat × Jvm.ClassFile.Instr × Nat) := [(0, .aload_n 0, 1), (1, .getfield 50, 3), (4, .iconst 1, 1), (5, .isub, 1), (6, .istore_n 1, 1), (7, .iload_n 1, 1), (8, .ifCond .lt 19, 3), (27, .return_, 1), (11, .iload_n 1, 1), (12, .bipush 12, 2), (14, .if_icmp .ge 13, 3), (17, .aload_n 0, 1), (18, .getfield 22, 3), (21, .iload_n 1, 1), (22, .aload_n 0, 1), (23, .getfield 59, 3), (26, .iastore, 1)]
theorem daX1_endTest_33_0 : dtX1_endTest_33_0.all (dqd cX1_endTest) = true := by decide +kernel
theorem dX1_endTest_0 : decode cX1_endTest 0 = .ok (.aload_n 0, 1) := dq daX1_endTest_33_0 0 rfl
theorem dX1_endTest_1 : decode cX1_endTest 1 = .ok (.getfield 50, 3) := dq daX1_endTest_33_0 1 rfl
theorem dX1_endTest_4 : decode cX1_endTest 4 = .ok (.iconst 1, 1) := dq daX1_endTest_33_0 2 rfl
theorem dX1_endTest_5 : decode cX1_endTest 5 = .ok (.isub, 1) := dq daX1_endTest_33_0 3 rfl
theorem dX1_endTest_6 : decode cX1_endTest 6 = .ok (.istore_n 1, 1) := dq daX1_endTest_33_0 4 rfl
theorem dX1_endTest_7 : decode cX1_endTest 7 = .ok (.iload_n 1, 1) := dq daX1_endTest_33_0 5 rfl
theorem dX1_endTest_8 : decode cX1_endTest 8 = .ok (.ifCond .lt 19, 3) := dq daX1_endTest_33_0 6 rfl
theorem dX1_endTest_27 : decode cX1_endTest 27 = .ok (.return_, 1) := dq daX1_endTest_33_0 7 rfl
theorem dX1_endTest_11 : decode cX1_endTest 11 = .ok (.iload_n 1, 1) := dq daX1_endTest_33_0 8 rfl
theorem dX1_endTest_12 : decode cX1_endTest 12 = .ok (.bipush 12, 2) := dq daX1_endTest_33_0 9 rfl
theorem dX1_endTest_14 : decode cX1_endTest 14 = .ok (.if_icmp .ge 13, 3) := dq daX1_endTest_33_0 10 rfl
theorem dX1_endTest_17 : decode cX1_endTest 17 = .ok (.aload_n 0, 1) := dq daX1_endTest_33_0 11 rfl
theorem dX1_endTest_18 : decode cX1_endTest 18 = .ok (.getfield 22, 3) := dq daX1_endTest_33_0 12 rfl
theorem dX1_endTest_21 : decode cX1_endTest 21 = .ok (.iload_n 1, 1) := dq daX1_endTest_33_0 13 rfl
theorem dX1_endTest_22 : decode cX1_endTest 22 = .ok (.aload_n 0, 1) := dq daX1_endTest_33_0 14 rfl
theorem dX1_endTest_23 : decode cX1_endTest 23 = .ok (.getfield 59, 3) := dq daX1_endTest_33_0 15 rfl
theorem dX1_endTest_26 : decode cX1_endTest 26 = .ok (.iastore, 1) := dq daX1_endTest_33_0 16 rfl
def dtX1_addValue_33_0 : List (Nat × Jvm.ClassFile.Instr × Nat) := [(0, .aload_n 0, 1), (1, .getfield 53, 3), (4, .bipush 60, 2), (6, .if_icmp .ge 33, 3), (39, .return_, 1), (9, .aload_n 0, 1), (10, .getfield 25, 3), (13, .aload_n 0, 1), (14, .getfield 53, 3), (17, .iload_n 1, 1), (18, .iastore, 1), (19, .aload_n 0, 1), (20, .getfield 28, 3), (23, .aload_n 0, 1), (24, .getfield 53, 3), (27, .iload_n 2, 1), (28, .iastore, 1), (29, .aload_n 0, 1), (30, .dup, 1), (31, .getfield 53, 3), (34, .iconst 1, 1), (35, .iadd, 1), (36, .putfield 53, 3)]
theorem daX1_addValue_33_0 : dtX1_addValue_33_0.all (dqd cX1_addValue) = true := by decide +kernel
theorem dX1_addValue_0 : decode cX1_addValue 0 = .ok (.aload_n 0, 1) := dq daX1_addValue_33_0 0 rfl
theorem dX1_addValue_1 : decode cX1_addValue 1 = .ok (.getfield 53, 3) := dq daX1_addValue_33_0 1 rfl
theorem dX1_addValue_4 : decode cX1_addValue 4 = .ok (.bipush 60, 2) := dq daX1_addValue_33_0 2 rfl
theorem dX1_addValue_6 : decode cX1_addValue 6 = .ok (.if_icmp .ge 33, 3) := dq daX1_addValue_33_0 3 rfl
theorem dX1_addValue_39 : decode cX1_addValue 39 = .ok (.return_, 1) := dq daX1_addValue_33_0 4 rfl
theorem dX1_addValue_9 : decode cX1_addValue 9 = .ok (.aload_n 0, 1) := dq daX1_addValue_33_0 5 rfl
theorem dX1_addValue_10 : decode cX1_addValue 10 = .ok (.getfield 25, 3) := dq daX1_addValue_33_0 6 rfl
theorem dX1_addValue_13 : decode cX1_addValue 13 = .ok (.aload_n 0, 1) := dq daX1_addValue_33_0 7 rfl
theorem dX1_addValue_14 : decode cX1_addValue 14 = .ok (.getfield 53, 3) := dq daX1_addValue_33_0 8 rfl
theorem dX1_addValue_17 : decode cX1_addValue 17 = .ok (.iload_n 1, 1) := dq daX1_addValue_33_0 9 rfl
theorem dX1_addValue_18 : decode cX1_addValue 18 = .ok (.iastore, 1) := dq daX1_addValue_33_0 10 rfl
theorem dX1_addValue_19 : decode cX1_addValue 19 = .ok (.aload_n 0, 1) := dq daX1_addValue_33_0 11 rfl
theorem dX1_addValue_20 : decode cX1_addValue 20 = .ok (.getfield 28, 3) := dq daX1_addValue_33_0 12 rfl
theorem dX1_addValue_23 : decode cX1_addValue 23 = .ok (.aload_n 0, 1) := dq daX1_addValue_33_0 13 rfl
theorem dX1_addValue_24 : decode cX1_addValue 24 = .ok (.getfield 53, 3) := dq daX1_addValue_33_0 14 rfl
theorem dX1_addValue_27 : decode cX1_addValue 27 = .ok (.iload_n 2, 1) := dq daX1_addValue_33_0 15 rfl
theorem dX1_addValue_28 : decode cX1_addValue 28 = .ok (.iastore, 1) := dq daX1_addValue_33_0 16 rfl
theorem dX1_addValue_29 : decode cX1_addValue 29 = .ok (.aload_n 0, 1) := dq daX1_addValue_33_0 17 rfl
theorem dX1_addValue_30 : decode cX1_addValue 30 = .ok (.dup, 1) := dq daX1_addValue_33_0 18 rfl
theorem dX1_addValue_31 : decode cX1_addValue 31 = .ok (.getfield 53, 3) := dq daX1_addValue_33_0 19 rfl
theorem dX1_addValue_34 : decode cX1_addValue 34 = .ok (.iconst 1, 1) := dq daX1_addValue_33_0 20 rfl
theorem dX1_addValue_35 : decode cX1_addValue 35 = .ok (.iadd, 1) := dq daX1_addValue_33_0 21 rfl
theorem dX1_addValue_36 : decode cX1_addValue 36 = .ok (.putfield 53, 3) := dq daX1_addValue_33_0 22 rfl
def dtX1_addStep_33_0 : List (Nat × Jvm.ClassFile.Instr × Nat) := [(0, .aload_n 0, 1), (1, .getfield 59, 3), (4, .sipush 256, 3), (7, .if_icmp .ge 23, 3), (30, .return_, 1), (10, .aload_n 0, 1), (11, .getfield 43, 3), (14, .aload_n 0, 1), (15, .getfield 59, 3), (18, .iload_n 1, 1), (19, .iastore, 1), (20, .aload_n 0, 1), (21, .dup, 1), (22, .getfield 59, 3), (25, .iconst 1, 1), (26, .iadd, 1), (27, .putfield 59, 3)]
theorem daX1_addStep_33_0 : dtX1_addStep_33_0.all (dqd cX1_addStep) = true := by decide +kernel
theorem dX1_addStep_0 : decode cX1_addStep 0 = .ok (.aload_n 0, 1) := dq daX1_addStep_33_0 0 rfl
theorem dX1_addStep_1 : decode cX1_addStep 1 = .ok (.getfield 59, 3) := dq daX1_addStep_33_0 1 rfl
theorem dX1_addStep_4 : decode cX1_addStep 4 = .ok (.sipush 256, 3) := dq daX1_addStep_33_0 2 rfl
theorem dX1_addStep_7 : decode cX1_addStep 7 = .ok (.if_icmp .ge 23, 3) := dq daX1_addStep_33_0 3 rfl
theorem dX1_addStep_30 : decode cX1_addStep 30 = .ok (.return_, 1) := dq daX1_addStep_33_0 4 rfl
theorem dX1_addStep_10 : decode cX1_addStep 10 = .ok (.aload_n 0, 1) := dq daX1_addStep_33_0 5 rfl
theorem dX1_addStep_11 : decode cX1_addStep 11 = .ok (.getfield 43, 3) := dq daX1_addStep_33_0 6 rfl
theorem dX1_addStep_14 : decode cX1_addStep 14 = .ok (.aload_n 0, 1) := dq daX1_addStep_33_0 7 rfl
theorem dX1_addStep_15 : decode cX1_addStep 15 = .ok (.getfield 59, 3) := dq daX1_addStep_33_0 8 rfl
theorem dX1_addStep_18 : decode cX1_addStep 18 = .ok (.iload_n 1, 1) := dq daX1_addStep_33_0 9 rfl
theorem dX1_addStep_19 : decode cX1_addStep 19 = .ok (.iastore, 1) := dq daX1_addStep_33_0 10 rfl
theorem dX1_addStep_20 : decode cX1_addStep 20 = .ok (.aload_n 0, 1) := dq daX1_addStep_33_0 11 rfl
theorem dX1_addStep_21 : decode cX1_addStep 21 = .ok (.dup, 1) := dq daX1_addStep_33_0 12 rfl
theorem dX1_addStep_22 : decode cX1_addStep 22 = .ok (.getfield 59, 3) := dq daX1_addStep_33_0 13 rfl
theorem dX1_addStep_25 : decode cX1_addStep 25 = .ok (.iconst 1, 1) := dq daX1_addStep_33_0 14 rfl
theorem dX1_addStep_26 : decode cX1_addStep 26 = .ok (.iadd, 1) := dq daX1_addStep_33_0 15 rfl
theorem dX1_addStep_27 : decode cX1_addStep 27 = .ok (.putfield 59, 3) := dq daX1_addStep_33_0 16 rfl
def dtX1_addFact_33_0 : List (Nat × Jvm.ClassFile.Instr × Nat) := [(0, .aload_n 0, 1), (1, .getfield 56, 3), (4, .bipush 20, 2), (6, .if_icmp .ge 64, 3), (70, .return_, 1), (9, .aload_n 0, 1), (10, .getfield 31, 3), (13, .aload_n 0, 1), (14, .getfield 56, 3), (17, .iload_n 1, 1), (18, .iastore, 1), (19, .aload_n 0, 1), (20, .getfield 34, 3), (23, .aload_n 0, 1), (24, .getfield 56, 3), (27, .iload_n 2, 1), (28, .iastore, 1), (29, .aload_n 0, 1), (30, .getfield 37, 3), (33, .aload_n 0, 1), (34, .getfield 56, 3), (37, .aload_n 0, 1), (38, .getfield 53, 3), (41, .iastore, 1), (42, .aload_n 0, 1), (43, .getfield 40, 3), (46, .aload_n 0, 1), (47, .getfield 56, 3), (50, .iload_n 3, 1), (51, .iastore, 1), (52, .aload_n 0, 1), (53, .aload_n 0, 1)]
theorem daX1_addFact_33_0 : dtX1_addFact_33_0.all (dqd cX1_addFact) = true := by decide +kernel
theorem dX1_addFact_0 : decode cX1_addFact 0 = .ok (.aload_n 0, 1) := dq daX1_addFact_33_0 0 rfl
theorem dX1_addFact_1 : decode cX1_addFact 1 = .ok (.getfield 56, 3) := dq daX1_addFact_33_0 1 rfl
theorem dX1_addFact_4 : decode cX1_addFact 4 = .ok (.bipush 20, 2) := dq daX1_addFact_33_0 2 rfl
theorem dX1_addFact_6 : decode cX1_addFact 6 = .ok (.if_icmp .ge 64, 3) := dq daX1_addFact_33_0 3 rfl
theorem dX1_addFact_70 : decode cX1_addFact 70 = .ok (.return_, 1) := dq daX1_addFact_33_0 4 rfl
theorem dX1_addFact_9 : decode cX1_addFact 9 = .ok (.aload_n 0, 1) := dq daX1_addFact_33_0 5 rfl
theorem dX1_addFact_10 : decode cX1_addFact 10 = .ok (.getfield 31, 3) := dq daX1_addFact_33_0 6 rfl
theorem dX1_addFact_13 : decode cX1_addFact 13 = .ok (.aload_n 0, 1) := dq daX1_addFact_33_0 7 rfl
theorem dX1_addFact_14 : decode cX1_addFact 14 = .ok (.getfield 56, 3) := dq daX1_addFact_33_0 8 rfl
theorem dX1_addFact_17 : decode cX1_addFact 17 = .ok (.iload_n 1, 1) := dq daX1_addFact_33_0 9 rfl
theorem dX1_addFact_18 : decode cX1_addFact 18 = .ok (.iastore, 1) := dq daX1_addFact_33_0 10 rfl
theorem dX1_addFact_19 : decode cX1_addFact 19 = .ok (.aload_n 0, 1) := dq daX1_addFact_33_0 11 rfl
theorem dX1_addFact_20 : decode cX1_addFact 20 = .ok (.getfield 34, 3) := dq daX1_addFact_33_0 12 rfl
theorem dX1_addFact_23 : decode cX1_addFact 23 = .ok (.aload_n 0, 1) := dq daX1_addFact_33_0 13 rfl
theorem dX1_addFact_24 : decode cX1_addFact 24 = .ok (.getfield 56, 3) := dq daX1_addFact_33_0 14 rfl
theorem dX1_addFact_27 : decode cX1_addFact 27 = .ok (.iload_n 2, 1) := dq daX1_addFact_33_0 15 rfl
theorem dX1_addFact_28 : decode cX1_addFact 28 = .ok (.iastore, 1) := dq daX1_addFact_33_0 16 rfl
theorem dX1_addFact_29 : decode cX1_addFact 29 = .ok (.aload_n 0, 1) := dq daX1_addFact_33_0 17 rfl
theorem dX1_addFact_30 : decode cX1_addFact 30 = .ok (.getfield 37, 3) := dq daX1_addFact_33_0 18 rfl
theorem dX1_addFact_33 : decode cX1_addFact 33 = .ok (.aload_n 0, 1) := dq daX1_addFact_33_0 19 rfl
theorem dX1_addFact_34 : decode cX1_addFact 34 = .ok (.getfield 56, 3) := dq daX1_addFact_33_0 20 rfl
theorem dX1_addFact_37 : decode cX1_addFact 37 = .ok (.aload_n 0, 1) := dq daX1_addFact_33_0 21 rfl
theorem dX1_addFact_38 : decode cX1_addFact 38 = .ok (.getfield 53, 3) := dq daX1_addFact_33_0 22 rfl
theorem dX1_addFact_41 : decode cX1_addFact 41 = .ok (.iastore, 1) := dq daX1_addFact_33_0 23 rfl
theorem dX1_addFact_42 : decode cX1_addFact 42 = .ok (.aload_n 0, 1) := dq daX1_addFact_33_0 24 rfl
theorem dX1_addFact_43 : decode cX1_addFact 43 = .ok (.getfield 40, 3) := dq daX1_addFact_33_0 25 rfl
theorem dX1_addFact_46 : decode cX1_addFact 46 = .ok (.aload_n 0, 1) := dq daX1_addFact_33_0 26 rfl
theorem dX1_addFact_47 : decode cX1_addFact 47 = .ok (.getfield 56, 3) := dq daX1_addFact_33_0 27 rfl
theorem dX1_addFact_50 : decode cX1_addFact 50 = .ok (.iload_n 3, 1) := dq daX1_addFact_33_0 28 rfl
theorem dX1_addFact_51 : decode cX1_addFact 51 = .ok (.iastore, 1) := dq daX1_addFact_33_0 29 rfl
theorem dX1_addFact_52 : decode cX1_addFact 52 = .ok (.aload_n 0, 1) := dq daX1_addFact_33_0 30 rfl
theorem dX1_addFact_53 : decode cX1_addFact 53 = .ok (.aload_n 0, 1) := dq daX1_addFact_33_0 31 rfl
def dtX1_addFact_33_1 : List (Nat × Jvm.ClassFile.Instr × Nat) := [(54, .getfield 56, 3), (57, .invokevirtual 62, 3), (60, .aload_n 0, 1), (61, .dup, 1), (62, .getfield 56, 3), (65, .iconst 1, 1), (66, .iadd, 1), (67, .putfield 56, 3)]
theorem daX1_addFact_33_1 : dtX1_addFact_33_1.all (dqd cX1_addFact) = true := by decide +kernel
theorem dX1_addFact_54 : decode cX1_addFact 54 = .ok (.getfield 56, 3) := dq daX1_addFact_33_1 0 rfl
theorem dX1_addFact_57 : decode cX1_addFact 57 = .ok (.invokevirtual 62, 3) := dq daX1_addFact_33_1 1 rfl
theorem dX1_addFact_60 : decode cX1_addFact 60 = .ok (.aload_n 0, 1) := dq daX1_addFact_33_1 2 rfl
theorem dX1_addFact_61 : decode cX1_addFact 61 = .ok (.dup, 1) := dq daX1_addFact_33_1 3 rfl
theorem dX1_addFact_62 : decode cX1_addFact 62 = .ok (.getfield 56, 3) := dq daX1_addFact_33_1 4 rfl
theorem dX1_addFact_65 : decode cX1_addFact 65 = .ok (.iconst 1, 1) := dq daX1_addFact_33_1 5 rfl
theorem dX1_addFact_66 : decode cX1_addFact 66 = .ok (.iadd, 1) := dq daX1_addFact_33_1 6 rfl
theorem dX1_addFact_67 : decode cX1_addFact 67 = .ok (.putfield 56, 3) := dq daX1_addFact_33_1 7 rfl
def dtX1_isTrue_33_0 : List (Nat × Jvm.ClassFile.Instr × Nat) := [(0, .iload_n 2, 1), (1, .tableswitch 79 0 3 #[31, 43, 55, 67], 31), (80, .lload_n 0, 1), (81, .lload_n 3, 1), (82, .lcmp, 1), (83, .ifCond .le 7, 3), (90, .iconst 0, 1), (91, .ireturn, 1), (86, .iconst 1, 1), (87, .goto 4, 3), (32, .lload_n 0, 1), (33, .lload_n 3, 1), (34, .lcmp, 1), (35, .ifCond .ge 7, 3), (42, .iconst 0, 1), (43, .ireturn, 1), (38, .iconst 1, 1), (39, .goto 4, 3), (44, .lload_n 0, 1), (45, .lload_n 3, 1), (46, .lcmp, 1), (47, .ifCond .gt 7, 3), (54, .iconst 0, 1), (55, .ireturn, 1), (50, .iconst 1, 1), (51, .goto 4, 3), (56, .lload_n 0, 1), (57, .lload_n 3, 1), (58, .lcmp, 1), (59, .ifCond .ne 7, 3), (66, .iconst 0, 1), (67, .ireturn, 1)]
theorem daX1_isTrue_33_0 : dtX1_isTrue_33_0.all (dqd cX1_isTrue) = true := by decide +kernel
theorem dX1_isTrue_0 : decode cX1_isTrue 0 = .ok (.iload_n 2, 1) := dq daX1_isTrue_33_0 0 rfl
theorem dX1_isTrue_1 : decode cX1_isTrue 1 = .ok (.tableswitch 79 0 3 #[31, 43, 55, 67], 31) := dq daX1_isTrue_33_0 1 rfl
theorem dX1_isTrue_80 : decode cX1_isTrue 80 = .ok (.lload_n 0, 1) := dq daX1_isTrue_33_0 2 rfl
theorem dX1_isTrue_81 : decode cX1_isTrue 81 = .ok (.lload_n 3, 1) := dq daX1_isTrue_33_0 3 rfl
theorem dX1_isTrue_82 : decode cX1_isTrue 82 = .ok (.lcmp, 1) := dq daX1_isTrue_33_0 4 rfl
theorem dX1_isTrue_83 : decode cX1_isTrue 83 = .ok (.ifCond .le 7, 3) := dq daX1_isTrue_33_0 5 rfl
theorem dX1_isTrue_90 : decode cX1_isTrue 90 = .ok (.iconst 0, 1) := dq daX1_isTrue_33_0 6 rfl
theorem dX1_isTrue_91 : decode cX1_isTrue 91 = .ok (.ireturn, 1) := dq daX1_isTrue_33_0 7 rfl
theorem dX1_isTrue_86 : decode cX1_isTrue 86 = .ok (.iconst 1, 1) := dq daX1_isTrue_33_0 8 rfl
theorem dX1_isTrue_87 : decode cX1_isTrue 87 = .ok (.goto 4, 3) := dq daX1_isTrue_33_0 9 rfl
theorem dX1_isTrue_32 : decode cX1_isTrue 32 = .ok (.lload_n 0, 1) := dq daX1_isTrue_33_0 10 rfl
theorem dX1_isTrue_33 : decode cX1_isTrue 33 = .ok (.lload_n 3, 1) := dq daX1_isTrue_33_0 11 rfl
theorem dX1_isTrue_34 : decode cX1_isTrue 34 = .ok (.lcmp, 1) := dq daX1_isTrue_33_0 12 rfl
theorem dX1_isTrue_35 : decode cX1_isTrue 35 = .ok (.ifCond .ge 7, 3) := dq daX1_isTrue_33_0 13 rfl
theorem dX1_isTrue_42 : decode cX1_isTrue 42 = .ok (.iconst 0, 1) := dq daX1_isTrue_33_0 14 rfl
theorem dX1_isTrue_43 : decode cX1_isTrue 43 = .ok (.ireturn, 1) := dq daX1_isTrue_33_0 15 rfl
theorem dX1_isTrue_38 : decode cX1_isTrue 38 = .ok (.iconst 1, 1) := dq daX1_isTrue_33_0 16 rfl
theorem dX1_isTrue_39 : decode cX1_isTrue 39 = .ok (.goto 4, 3) := dq daX1_isTrue_33_0 17 rfl
theorem dX1_isTrue_44 : decode cX1_isTrue 44 = .ok (.lload_n 0, 1) := dq daX1_isTrue_33_0 18 rfl
theorem dX1_isTrue_45 : decode cX1_isTrue 45 = .ok (.lload_n 3, 1) := dq daX1_isTrue_33_0 19 rfl
theorem dX1_isTrue_46 : decode cX1_isTrue 46 = .ok (.lcmp, 1) := dq daX1_isTrue_33_0 20 rfl
theorem dX1_isTrue_47 : decode cX1_isTrue 47 = .ok (.ifCond .gt 7, 3) := dq daX1_isTrue_33_0 21 rfl
theorem dX1_isTrue_54 : decode cX1_isTrue 54 = .ok (.iconst 0, 1) := dq daX1_isTrue_33_0 22 rfl
theorem dX1_isTrue_55 : decode cX1_isTrue 55 = .ok (.ireturn, 1) := dq daX1_isTrue_33_0 23 rfl
theorem dX1_isTrue_50 : decode cX1_isTrue 50 = .ok (.iconst 1, 1) := dq daX1_isTrue_33_0 24 rfl
theorem dX1_isTrue_51 : decode cX1_isTrue 51 = .ok (.goto 4, 3) := dq daX1_isTrue_33_0 25 rfl
theorem dX1_isTrue_56 : decode cX1_isTrue 56 = .ok (.lload_n 0, 1) := dq daX1_isTrue_33_0 26 rfl
theorem dX1_isTrue_57 : decode cX1_isTrue 57 = .ok (.lload_n 3, 1) := dq daX1_isTrue_33_0 27 rfl
theorem dX1_isTrue_58 : decode cX1_isTrue 58 = .ok (.lcmp, 1) := dq daX1_isTrue_33_0 28 rfl
theorem dX1_isTrue_59 : decode cX1_isTrue 59 = .ok (.ifCond .ne 7, 3) := dq daX1_isTrue_33_0 29 rfl
theorem dX1_isTrue_66 : decode cX1_isTrue 66 = .ok (.iconst 0, 1) := dq daX1_isTrue_33_0 30 rfl
theorem dX1_isTrue_67 : decode cX1_isTrue 67 = .ok (.ireturn, 1) := dq daX1_isTrue_33_0 31 rfl
def dtX1_isTrue_33_1 : List (Nat × Jvm.ClassFile.Instr × Nat) := [(62, .iconst 1, 1), (63, .goto 4, 3), (68, .lload_n 0, 1), (69, .lload_n 3, 1), (70, .lcmp, 1), (71, .ifCond .lt 7, 3), (78, .iconst 0, 1), (79, .ireturn, 1), (74, .iconst 1, 1), (75, .goto 4, 3)]
theorem daX1_isTrue_33_1 : dtX1_isTrue_33_1.all (dqd cX1_isTrue) = true := by decide +kernel
theorem dX1_isTrue_62 : decode cX1_isTrue 62 = .ok (.iconst 1, 1) := dq daX1_isTrue_33_1 0 rfl
theorem dX1_isTrue_63 : decode cX1_isTrue 63 = .ok (.goto 4, 3) := dq daX1_isTrue_33_1 1 rfl
theorem dX1_isTrue_68 : decode cX1_isTrue 68 = .ok (.lload_n 0, 1) := dq daX1_isTrue_33_1 2 rfl
theorem dX1_isTrue_69 : decode cX1_isTrue 69 = .ok (.lload_n 3, 1) := dq daX1_isTrue_33_1 3 rfl
theorem dX1_isTrue_70 : decode cX1_isTrue 70 = .ok (.lcmp, 1) := dq daX1_isTrue_33_1 4 rfl
theorem dX1_isTrue_71 : decode cX1_isTrue 71 = .ok (.ifCond .lt 7, 3) := dq daX1_isTrue_33_1 5 rfl
theorem dX1_isTrue_78 : decode cX1_isTrue 78 = .ok (.iconst 0, 1) := dq daX1_isTrue_33_1 6 rfl
theorem dX1_isTrue_79 : decode cX1_isTrue 79 = .ok (.ireturn, 1) := dq daX1_isTrue_33_1 7 rfl
theorem dX1_isTrue_74 : decode cX1_isTrue 74 = .ok (.iconst 1, 1) := dq daX1_isTrue_33_1 8 rfl
theorem dX1_isTrue_75 : decode cX1_isTrue 75 = .ok (.goto 4, 3) := dq daX1_isTrue_33_1 9 rfl
def dtX1_total_33_0 : List (Nat × Jvm.ClassFile.Instr × Nat) := [(0, .lconst 0, 1), (1, .lstore 4, 2), (3, .lconst 0, 1), (4, .lstore 6, 2), (6, .iconst 0, 1), (7, .istore 8, 2), (9, .iload_n 1, 1), (10, .istore 9, 2), (12, .iload 9, 2), (14, .ifCond .lt 151, 3), (17, .iload 9, 2), (19, .iload_n 2, 1), (20, .if_icmp .ge 145, 3), (23, .iload 9, 2), (25, .bipush 60, 2), (27, .if_icmp .ge 138, 3), (30, .aload_n 0, 1), (31, .getfield 28, 3), (34, .iload 9, 2), (36, .iaload, 1), (37, .istore 10, 2), (39, .iconst (-1), 1), (40, .iload 10, 2), (42, .isub, 1), (43, .istore 11, 2), (45, .iload 11, 2), (47, .ifCond .lt 18, 3), (65, .iload 10, 2), (67, .i2l, 1), (68, .lstore 12, 2), (70, .aload_n 0, 1), (71, .getfield 25, 3)]
theorem daX1_total_33_0 : dtX1_total_33_0.all (dqd cX1_total) = true := by decide +kernel
theorem dX1_total_0 : decode cX1_total 0 = .ok (.lconst 0, 1) := dq daX1_total_33_0 0 rfl
theorem dX1_total_1 : decode cX1_total 1 = .ok (.lstore 4, 2) := dq daX1_total_33_0 1 rfl
theorem dX1_total_3 : decode cX1_total 3 = .ok (.lconst 0, 1) := dq daX1_total_33_0 2 rfl
theorem dX1_total_4 : decode cX1_total 4 = .ok (.lstore 6, 2) := dq daX1_total_33_0 3 rfl
theorem dX1_total_6 : decode cX1_total 6 = .ok (.iconst 0, 1) := dq daX1_total_33_0 4 rfl
theorem dX1_total_7 : decode cX1_total 7 = .ok (.istore 8, 2) := dq daX1_total_33_0 5 rfl
theorem dX1_total_9 : decode cX1_total 9 = .ok (.iload_n 1, 1) := dq daX1_total_33_0 6 rfl
theorem dX1_total_10 : decode cX1_total 10 = .ok (.istore 9, 2) := dq daX1_total_33_0 7 rfl
theorem dX1_total_12 : decode cX1_total 12 = .ok (.iload 9, 2) := dq daX1_total_33_0 8 rfl
theorem dX1_total_14 : decode cX1_total 14 = .ok (.ifCond .lt 151, 3) := dq daX1_total_33_0 9 rfl
theorem dX1_total_17 : decode cX1_total 17 = .ok (.iload 9, 2) := dq daX1_total_33_0 10 rfl
theorem dX1_total_19 : decode cX1_total 19 = .ok (.iload_n 2, 1) := dq daX1_total_33_0 11 rfl
theorem dX1_total_20 : decode cX1_total 20 = .ok (.if_icmp .ge 145, 3) := dq daX1_total_33_0 12 rfl
theorem dX1_total_23 : decode cX1_total 23 = .ok (.iload 9, 2) := dq daX1_total_33_0 13 rfl
theorem dX1_total_25 : decode cX1_total 25 = .ok (.bipush 60, 2) := dq daX1_total_33_0 14 rfl
theorem dX1_total_27 : decode cX1_total 27 = .ok (.if_icmp .ge 138, 3) := dq daX1_total_33_0 15 rfl
theorem dX1_total_30 : decode cX1_total 30 = .ok (.aload_n 0, 1) := dq daX1_total_33_0 16 rfl
theorem dX1_total_31 : decode cX1_total 31 = .ok (.getfield 28, 3) := dq daX1_total_33_0 17 rfl
theorem dX1_total_34 : decode cX1_total 34 = .ok (.iload 9, 2) := dq daX1_total_33_0 18 rfl
theorem dX1_total_36 : decode cX1_total 36 = .ok (.iaload, 1) := dq daX1_total_33_0 19 rfl
theorem dX1_total_37 : decode cX1_total 37 = .ok (.istore 10, 2) := dq daX1_total_33_0 20 rfl
theorem dX1_total_39 : decode cX1_total 39 = .ok (.iconst (-1), 1) := dq daX1_total_33_0 21 rfl
theorem dX1_total_40 : decode cX1_total 40 = .ok (.iload 10, 2) := dq daX1_total_33_0 22 rfl
theorem dX1_total_42 : decode cX1_total 42 = .ok (.isub, 1) := dq daX1_total_33_0 23 rfl
theorem dX1_total_43 : decode cX1_total 43 = .ok (.istore 11, 2) := dq daX1_total_33_0 24 rfl
theorem dX1_total_45 : decode cX1_total 45 = .ok (.iload 11, 2) := dq daX1_total_33_0 25 rfl
theorem dX1_total_47 : decode cX1_total 47 = .ok (.ifCond .lt 18, 3) := dq daX1_total_33_0 26 rfl
theorem dX1_total_65 : decode cX1_total 65 = .ok (.iload 10, 2) := dq daX1_total_33_0 27 rfl
theorem dX1_total_67 : decode cX1_total 67 = .ok (.i2l, 1) := dq daX1_total_33_0 28 rfl
theorem dX1_total_68 : decode cX1_total 68 = .ok (.lstore 12, 2) := dq daX1_total_33_0 29 rfl
theorem dX1_total_70 : decode cX1_total 70 = .ok (.aload_n 0, 1) := dq daX1_total_33_0 30 rfl
theorem dX1_total_71 : decode cX1_total 71 = .ok (.getfield 25, 3) := dq daX1_total_33_0 31 rfl
def dtX1_total_33_1 : List (Nat × Jvm.ClassFile.Instr × Nat) := [(74, .iload 9, 2), (76, .iaload, 1), (77, .istore 14, 2), (79, .iload 14, 2), (81, .iconst 2, 1), (82, .if_icmp .ne 13, 3), (95, .iload 14, 2), (97, .iconst 3, 1), (98, .if_icmp .ne 24, 3), (122, .iload 8, 2), (124, .ifCond .eq 11, 3), (135, .lload 4, 2), (137, .lload 6, 2), (139, .ladd, 1), (140, .lstore 4, 2), (142, .lload 12, 2), (144, .lstore 6, 2), (146, .iload 14, 2), (148, .iconst 1, 1), (149, .if_icmp .ne 7, 3), (156, .iconst 0, 1), (157, .istore 8, 2), (159, .iinc 9 1, 3), (162, .goto (-150), 3), (152, .iconst 1, 1), (153, .goto 4, 3), (101, .lload 12, 2), (103, .lconst 0, 1), (104, .lcmp, 1), (105, .ifCond .ne 7, 3), (112, .lload 6, 2), (114, .lload 12, 2)]
theorem daX1_total_33_1 : dtX1_total_33_1.all (dqd cX1_total) = true := by decide +kernel
theorem dX1_total_74 : decode cX1_total 74 = .ok (.iload 9, 2) := dq daX1_total_33_1 0 rfl
theorem dX1_total_76 : decode cX1_total 76 = .ok (.iaload, 1) := dq daX1_total_33_1 1 rfl
theorem dX1_total_77 : decode cX1_total 77 = .ok (.istore 14, 2) := dq daX1_total_33_1 2 rfl
theorem dX1_total_79 : decode cX1_total 79 = .ok (.iload 14, 2) := dq daX1_total_33_1 3 rfl
theorem dX1_total_81 : decode cX1_total 81 = .ok (.iconst 2, 1) := dq daX1_total_33_1 4 rfl
theorem dX1_total_82 : decode cX1_total 82 = .ok (.if_icmp .ne 13, 3) := dq daX1_total_33_1 5 rfl
theorem dX1_total_95 : decode cX1_total 95 = .ok (.iload 14, 2) := dq daX1_total_33_1 6 rfl
theorem dX1_total_97 : decode cX1_total 97 = .ok (.iconst 3, 1) := dq daX1_total_33_1 7 rfl
theorem dX1_total_98 : decode cX1_total 98 = .ok (.if_icmp .ne 24, 3) := dq daX1_total_33_1 8 rfl
theorem dX1_total_122 : decode cX1_total 122 = .ok (.iload 8, 2) := dq daX1_total_33_1 9 rfl
theorem dX1_total_124 : decode cX1_total 124 = .ok (.ifCond .eq 11, 3) := dq daX1_total_33_1 10 rfl
theorem dX1_total_135 : decode cX1_total 135 = .ok (.lload 4, 2) := dq daX1_total_33_1 11 rfl
theorem dX1_total_137 : decode cX1_total 137 = .ok (.lload 6, 2) := dq daX1_total_33_1 12 rfl
theorem dX1_total_139 : decode cX1_total 139 = .ok (.ladd, 1) := dq daX1_total_33_1 13 rfl
theorem dX1_total_140 : decode cX1_total 140 = .ok (.lstore 4, 2) := dq daX1_total_33_1 14 rfl
theorem dX1_total_142 : decode cX1_total 142 = .ok (.lload 12, 2) := dq daX1_total_33_1 15 rfl
theorem dX1_total_144 : decode cX1_total 144 = .ok (.lstore 6, 2) := dq daX1_total_33_1 16 rfl
theorem dX1_total_146 : decode cX1_total 146 = .ok (.iload 14, 2) := dq daX1_total_33_1 17 rfl
theorem dX1_total_148 : decode cX1_total 148 = .ok (.iconst 1, 1) := dq daX1_total_33_1 18 rfl
theorem dX1_total_149 : decode cX1_total 149 = .ok (.if_icmp .ne 7, 3) := dq daX1_total_33_1 19 rfl
theorem dX1_total_156 : decode cX1_total 156 = .ok (.iconst 0, 1) := dq daX1_total_33_1 20 rfl
theorem dX1_total_157 : decode cX1_total 157 = .ok (.istore 8, 2) := dq daX1_total_33_1 21 rfl
theorem dX1_total_159 : decode cX1_total 159 = .ok (.iinc 9 1, 3) := dq daX1_total_33_1 22 rfl
theorem dX1_total_162 : decode cX1_total 162 = .ok (.goto (-150), 3) := dq daX1_total_33_1 23 rfl
theorem dX1_total_152 : decode cX1_total 152 = .ok (.iconst 1, 1) := dq daX1_total_33_1 24 rfl
theorem dX1_total_153 : decode cX1_total 153 = .ok (.goto 4, 3) := dq daX1_total_33_1 25 rfl
theorem dX1_total_101 : decode cX1_total 101 = .ok (.lload 12, 2) := dq daX1_total_33_1 26 rfl
theorem dX1_total_103 : decode cX1_total 103 = .ok (.lconst 0, 1) := dq daX1_total_33_1 27 rfl
theorem dX1_total_104 : decode cX1_total 104 = .ok (.lcmp, 1) := dq daX1_total_33_1 28 rfl
theorem dX1_total_105 : decode cX1_total 105 = .ok (.ifCond .ne 7, 3) := dq daX1_total_33_1 29 rfl
theorem dX1_total_112 : decode cX1_total 112 = .ok (.lload 6, 2) := dq daX1_total_33_1 30 rfl
theorem dX1_total_114 : decode cX1_total 114 = .ok (.lload 12, 2) := dq daX1_total_33_1 31 rfl
def dtX1_total_33_2 : List (Nat × Jvm.ClassFile.Instr × Nat) := [(116, .ldiv, 1), (117, .lstore 6, 2), (119, .goto 40, 3), (108, .lconst 0, 1), (109, .goto 8, 3), (85, .lload 6, 2), (87, .lload 12, 2), (89, .lmul, 1), (90, .lstore 6, 2), (92, .goto 67, 3), (50, .iload 11, 2), (52, .aload_n 3, 1), (53, .arraylength, 1), (54, .if_icmp .ge 11, 3), (57, .aload_n 3, 1), (58, .iload 11, 2), (60, .iaload, 1), (61, .i2l, 1), (62, .goto 6, 3), (165, .iload 8, 2), (167, .ifCond .eq 11, 3), (178, .lload 4, 2), (180, .lload 6, 2), (182, .ladd, 1), (183, .lreturn, 1), (170, .lload 4, 2), (172, .lload 6, 2), (174, .lsub, 1), (175, .goto 8, 3), (127, .lload 4, 2), (129, .lload 6, 2), (131, .lsub, 1)]
theorem daX1_total_33_2 : dtX1_total_33_2.all (dqd cX1_total) = true := by decide +kernel
theorem dX1_total_116 : decode cX1_total 116 = .ok (.ldiv, 1) := dq daX1_total_33_2 0 rfl
theorem dX1_total_117 : decode cX1_total 117 = .ok (.lstore 6, 2) := dq daX1_total_33_2 1 rfl
theorem dX1_total_119 : decode cX1_total 119 = .ok (.goto 40, 3) := dq daX1_total_33_2 2 rfl
theorem dX1_total_108 : decode cX1_total 108 = .ok (.lconst 0, 1) := dq daX1_total_33_2 3 rfl
theorem dX1_total_109 : decode cX1_total 109 = .ok (.goto 8, 3) := dq daX1_total_33_2 4 rfl
theorem dX1_total_85 : decode cX1_total 85 = .ok (.lload 6, 2) := dq daX1_total_33_2 5 rfl
theorem dX1_total_87 : decode cX1_total 87 = .ok (.lload 12, 2) := dq daX1_total_33_2 6 rfl
theorem dX1_total_89 : decode cX1_total 89 = .ok (.lmul, 1) := dq daX1_total_33_2 7 rfl
theorem dX1_total_90 : decode cX1_total 90 = .ok (.lstore 6, 2) := dq daX1_total_33_2 8 rfl
theorem dX1_total_92 : decode cX1_total 92 = .ok (.goto 67, 3) := dq daX1_total_33_2 9 rfl
theorem dX1_total_50 : decode cX1_total 50 = .ok (.iload 11, 2) := dq daX1_total_33_2 10 rfl
theorem dX1_total_52 : decode cX1_total 52 = .ok (.aload_n 3, 1) := dq daX1_total_33_2 11 rfl
theorem dX1_total_53 : decode cX1_total 53 = .ok (.arraylength, 1) := dq daX1_total_33_2 12 rfl
theorem dX1_total_54 : decode cX1_total 54 = .ok (.if_icmp .ge 11, 3) := dq daX1_total_33_2 13 rfl
theorem dX1_total_57 : decode cX1_total 57 = .ok (.aload_n 3, 1) := dq daX1_total_33_2 14 rfl
theorem dX1_total_58 : decode cX1_total 58 = .ok (.iload 11, 2) := dq daX1_total_33_2 15 rfl
theorem dX1_total_60 : decode cX1_total 60 = .ok (.iaload, 1) := dq daX1_total_33_2 16 rfl
theorem dX1_total_61 : decode cX1_total 61 = .ok (.i2l, 1) := dq daX1_total_33_2 17 rfl
theorem dX1_total_62 : decode cX1_total 62 = .ok (.goto 6, 3) := dq daX1_total_33_2 18 rfl
theorem dX1_total_165 : decode cX1_total 165 = .ok (.iload 8, 2) := dq daX1_total_33_2 19 rfl
theorem dX1_total_167 : decode cX1_total 167 = .ok (.ifCond .eq 11, 3) := dq daX1_total_33_2 20 rfl
theorem dX1_total_178 : decode cX1_total 178 = .ok (.lload 4, 2) := dq daX1_total_33_2 21 rfl
theorem dX1_total_180 : decode cX1_total 180 = .ok (.lload 6, 2) := dq daX1_total_33_2 22 rfl
theorem dX1_total_182 : decode cX1_total 182 = .ok (.ladd, 1) := dq daX1_total_33_2 23 rfl
theorem dX1_total_183 : decode cX1_total 183 = .ok (.lreturn, 1) := dq daX1_total_33_2 24 rfl
theorem dX1_total_170 : decode cX1_total 170 = .ok (.lload 4, 2) := dq daX1_total_33_2 25 rfl
theorem dX1_total_172 : decode cX1_total 172 = .ok (.lload 6, 2) := dq daX1_total_33_2 26 rfl
theorem dX1_total_174 : decode cX1_total 174 = .ok (.lsub, 1) := dq daX1_total_33_2 27 rfl
theorem dX1_total_175 : decode cX1_total 175 = .ok (.goto 8, 3) := dq daX1_total_33_2 28 rfl
theorem dX1_total_127 : decode cX1_total 127 = .ok (.lload 4, 2) := dq daX1_total_33_2 29 rfl
theorem dX1_total_129 : decode cX1_total 129 = .ok (.lload 6, 2) := dq daX1_total_33_2 30 rfl
theorem dX1_total_131 : decode cX1_total 131 = .ok (.lsub, 1) := dq daX1_total_33_2 31 rfl
def dtX1_total_33_3 : List (Nat × Jvm.ClassFile.Instr × Nat) := [(132, .goto 8, 3)]
theorem daX1_total_33_3 : dtX1_total_33_3.all (dqd cX1_total) = true := by decide +kernel
theorem dX1_total_132 : decode cX1_total 132 = .ok (.goto 8, 3) := dq daX1_total_33_3 0 rfl
def dtX1_holds_33_0 : List (Nat × Jvm.ClassFile.Instr × Nat) := [(0, .lconst 1, 1), (1, .lstore 4, 2), (3, .iload_n 1, 1), (4, .istore 6, 2), (6, .iload 6, 2), (8, .ifCond .lt 175, 3), (11, .iload 6, 2), (13, .iload_n 2, 1), (14, .if_icmp .ge 169, 3), (17, .iload 6, 2), (19, .sipush 256, 3), (22, .if_icmp .ge 161, 3), (25, .aload_n 0, 1), (26, .getfield 43, 3), (29, .iload 6, 2), (31, .iaload, 1), (32, .istore 7, 2), (34, .iload 7, 2), (36, .iconst (-1), 1), (37, .if_icmp .ne 12, 3), (49, .iload 7, 2), (51, .bipush (-2), 2), (53, .if_icmp .ne 19, 3), (72, .iload 7, 2), (74, .bipush (-3), 2), (76, .if_icmp .ne 17, 3), (93, .iload 7, 2), (95, .ifCond .lt 82, 3), (177, .iinc 6 1, 3), (180, .goto (-174), 3), (98, .iload 7, 2), (100, .bipush 20, 2)]
theorem daX1_holds_33_0 : dtX1_holds_33_0.all (dqd cX1_holds) = true := by decide +kernel
theorem dX1_holds_0 : decode cX1_holds 0 = .ok (.lconst 1, 1) := dq daX1_holds_33_0 0 rfl
theorem dX1_holds_1 : decode cX1_holds 1 = .ok (.lstore 4, 2) := dq daX1_holds_33_0 1 rfl
theorem dX1_holds_3 : decode cX1_holds 3 = .ok (.iload_n 1, 1) := dq daX1_holds_33_0 2 rfl
theorem dX1_holds_4 : decode cX1_holds 4 = .ok (.istore 6, 2) := dq daX1_holds_33_0 3 rfl
theorem dX1_holds_6 : decode cX1_holds 6 = .ok (.iload 6, 2) := dq daX1_holds_33_0 4 rfl
theorem dX1_holds_8 : decode cX1_holds 8 = .ok (.ifCond .lt 175, 3) := dq daX1_holds_33_0 5 rfl
theorem dX1_holds_11 : decode cX1_holds 11 = .ok (.iload 6, 2) := dq daX1_holds_33_0 6 rfl
theorem dX1_holds_13 : decode cX1_holds 13 = .ok (.iload_n 2, 1) := dq daX1_holds_33_0 7 rfl
theorem dX1_holds_14 : decode cX1_holds 14 = .ok (.if_icmp .ge 169, 3) := dq daX1_holds_33_0 8 rfl
theorem dX1_holds_17 : decode cX1_holds 17 = .ok (.iload 6, 2) := dq daX1_holds_33_0 9 rfl
theorem dX1_holds_19 : decode cX1_holds 19 = .ok (.sipush 256, 3) := dq daX1_holds_33_0 10 rfl
theorem dX1_holds_22 : decode cX1_holds 22 = .ok (.if_icmp .ge 161, 3) := dq daX1_holds_33_0 11 rfl
theorem dX1_holds_25 : decode cX1_holds 25 = .ok (.aload_n 0, 1) := dq daX1_holds_33_0 12 rfl
theorem dX1_holds_26 : decode cX1_holds 26 = .ok (.getfield 43, 3) := dq daX1_holds_33_0 13 rfl
theorem dX1_holds_29 : decode cX1_holds 29 = .ok (.iload 6, 2) := dq daX1_holds_33_0 14 rfl
theorem dX1_holds_31 : decode cX1_holds 31 = .ok (.iaload, 1) := dq daX1_holds_33_0 15 rfl
theorem dX1_holds_32 : decode cX1_holds 32 = .ok (.istore 7, 2) := dq daX1_holds_33_0 16 rfl
theorem dX1_holds_34 : decode cX1_holds 34 = .ok (.iload 7, 2) := dq daX1_holds_33_0 17 rfl
theorem dX1_holds_36 : decode cX1_holds 36 = .ok (.iconst (-1), 1) := dq daX1_holds_33_0 18 rfl
theorem dX1_holds_37 : decode cX1_holds 37 = .ok (.if_icmp .ne 12, 3) := dq daX1_holds_33_0 19 rfl
theorem dX1_holds_49 : decode cX1_holds 49 = .ok (.iload 7, 2) := dq daX1_holds_33_0 20 rfl
theorem dX1_holds_51 : decode cX1_holds 51 = .ok (.bipush (-2), 2) := dq daX1_holds_33_0 21 rfl
theorem dX1_holds_53 : decode cX1_holds 53 = .ok (.if_icmp .ne 19, 3) := dq daX1_holds_33_0 22 rfl
theorem dX1_holds_72 : decode cX1_holds 72 = .ok (.iload 7, 2) := dq daX1_holds_33_0 23 rfl
theorem dX1_holds_74 : decode cX1_holds 74 = .ok (.bipush (-3), 2) := dq daX1_holds_33_0 24 rfl
theorem dX1_holds_76 : decode cX1_holds 76 = .ok (.if_icmp .ne 17, 3) := dq daX1_holds_33_0 25 rfl
theorem dX1_holds_93 : decode cX1_holds 93 = .ok (.iload 7, 2) := dq daX1_holds_33_0 26 rfl
theorem dX1_holds_95 : decode cX1_holds 95 = .ok (.ifCond .lt 82, 3) := dq daX1_holds_33_0 27 rfl
theorem dX1_holds_177 : decode cX1_holds 177 = .ok (.iinc 6 1, 3) := dq daX1_holds_33_0 28 rfl
theorem dX1_holds_180 : decode cX1_holds 180 = .ok (.goto (-174), 3) := dq daX1_holds_33_0 29 rfl
theorem dX1_holds_98 : decode cX1_holds 98 = .ok (.iload 7, 2) := dq daX1_holds_33_0 30 rfl
theorem dX1_holds_100 : decode cX1_holds 100 = .ok (.bipush 20, 2) := dq daX1_holds_33_0 31 rfl
def dtX1_holds_33_1 : List (Nat × Jvm.ClassFile.Instr × Nat) := [(102, .if_icmp .ge 75, 3), (105, .aload_n 0, 1), (106, .aload_n 0, 1), (107, .getfield 31, 3), (110, .iload 7, 2), (112, .iaload, 1), (113, .aload_n 0, 1), (114, .getfield 34, 3), (117, .iload 7, 2), (119, .iaload, 1), (120, .aload_n 3, 1), (121, .invokevirtual 70, 3), (124, .lstore 8, 2), (126, .aload_n 0, 1), (127, .aload_n 0, 1), (128, .getfield 34, 3), (131, .iload 7, 2), (133, .iaload, 1), (134, .aload_n 0, 1), (135, .getfield 37, 3), (138, .iload 7, 2), (140, .iaload, 1), (141, .aload_n 3, 1), (142, .invokevirtual 70, 3), (145, .lstore 10, 2), (147, .lload 4, 2), (149, .iconst 1, 1), (150, .lshl, 1), (151, .lload 8, 2), (153, .aload_n 0, 1), (154, .getfield 40, 3), (157, .iload 7, 2)]
theorem daX1_holds_33_1 : dtX1_holds_33_1.all (dqd cX1_holds) = true := by decide +kernel
theorem dX1_holds_102 : decode cX1_holds 102 = .ok (.if_icmp .ge 75, 3) := dq daX1_holds_33_1 0 rfl
theorem dX1_holds_105 : decode cX1_holds 105 = .ok (.aload_n 0, 1) := dq daX1_holds_33_1 1 rfl
theorem dX1_holds_106 : decode cX1_holds 106 = .ok (.aload_n 0, 1) := dq daX1_holds_33_1 2 rfl
theorem dX1_holds_107 : decode cX1_holds 107 = .ok (.getfield 31, 3) := dq daX1_holds_33_1 3 rfl
theorem dX1_holds_110 : decode cX1_holds 110 = .ok (.iload 7, 2) := dq daX1_holds_33_1 4 rfl
theorem dX1_holds_112 : decode cX1_holds 112 = .ok (.iaload, 1) := dq daX1_holds_33_1 5 rfl
theorem dX1_holds_113 : decode cX1_holds 113 = .ok (.aload_n 0, 1) := dq daX1_holds_33_1 6 rfl
theorem dX1_holds_114 : decode cX1_holds 114 = .ok (.getfield 34, 3) := dq daX1_holds_33_1 7 rfl
theorem dX1_holds_117 : decode cX1_holds 117 = .ok (.iload 7, 2) := dq daX1_holds_33_1 8 rfl
theorem dX1_holds_119 : decode cX1_holds 119 = .ok (.iaload, 1) := dq daX1_holds_33_1 9 rfl
theorem dX1_holds_120 : decode cX1_holds 120 = .ok (.aload_n 3, 1) := dq daX1_holds_33_1 10 rfl
theorem dX1_holds_121 : decode cX1_holds 121 = .ok (.invokevirtual 70, 3) := dq daX1_holds_33_1 11 rfl
theorem dX1_holds_124 : decode cX1_holds 124 = .ok (.lstore 8, 2) := dq daX1_holds_33_1 12 rfl
theorem dX1_holds_126 : decode cX1_holds 126 = .ok (.aload_n 0, 1) := dq daX1_holds_33_1 13 rfl
theorem dX1_holds_127 : decode cX1_holds 127 = .ok (.aload_n 0, 1) := dq daX1_holds_33_1 14 rfl
theorem dX1_holds_128 : decode cX1_holds 128 = .ok (.getfield 34, 3) := dq daX1_holds_33_1 15 rfl
theorem dX1_holds_131 : decode cX1_holds 131 = .ok (.iload 7, 2) := dq daX1_holds_33_1 16 rfl
theorem dX1_holds_133 : decode cX1_holds 133 = .ok (.iaload, 1) := dq daX1_holds_33_1 17 rfl
theorem dX1_holds_134 : decode cX1_holds 134 = .ok (.aload_n 0, 1) := dq daX1_holds_33_1 18 rfl
theorem dX1_holds_135 : decode cX1_holds 135 = .ok (.getfield 37, 3) := dq daX1_holds_33_1 19 rfl
theorem dX1_holds_138 : decode cX1_holds 138 = .ok (.iload 7, 2) := dq daX1_holds_33_1 20 rfl
theorem dX1_holds_140 : decode cX1_holds 140 = .ok (.iaload, 1) := dq daX1_holds_33_1 21 rfl
theorem dX1_holds_141 : decode cX1_holds 141 = .ok (.aload_n 3, 1) := dq daX1_holds_33_1 22 rfl
theorem dX1_holds_142 : decode cX1_holds 142 = .ok (.invokevirtual 70, 3) := dq daX1_holds_33_1 23 rfl
theorem dX1_holds_145 : decode cX1_holds 145 = .ok (.lstore 10, 2) := dq daX1_holds_33_1 24 rfl
theorem dX1_holds_147 : decode cX1_holds 147 = .ok (.lload 4, 2) := dq daX1_holds_33_1 25 rfl
theorem dX1_holds_149 : decode cX1_holds 149 = .ok (.iconst 1, 1) := dq daX1_holds_33_1 26 rfl
theorem dX1_holds_150 : decode cX1_holds 150 = .ok (.lshl, 1) := dq daX1_holds_33_1 27 rfl
theorem dX1_holds_151 : decode cX1_holds 151 = .ok (.lload 8, 2) := dq daX1_holds_33_1 28 rfl
theorem dX1_holds_153 : decode cX1_holds 153 = .ok (.aload_n 0, 1) := dq daX1_holds_33_1 29 rfl
theorem dX1_holds_154 : decode cX1_holds 154 = .ok (.getfield 40, 3) := dq daX1_holds_33_1 30 rfl
theorem dX1_holds_157 : decode cX1_holds 157 = .ok (.iload 7, 2) := dq daX1_holds_33_1 31 rfl
def dtX1_holds_33_2 : List (Nat × Jvm.ClassFile.Instr × Nat) := [(159, .iaload, 1), (160, .lload 10, 2), (162, .invokestatic 76, 3), (165, .ifCond .eq 7, 3), (172, .iconst 0, 1), (173, .i2l, 1), (174, .lor, 1), (175, .lstore 4, 2), (168, .iconst 1, 1), (169, .goto 4, 3), (79, .lload 4, 2), (81, .iconst 1, 1), (82, .lushr, 1), (83, .lload 4, 2), (85, .lconst 1, 1), (86, .land, 1), (87, .lor, 1), (88, .lstore 4, 2), (90, .goto 87, 3), (56, .lload 4, 2), (58, .iconst 1, 1), (59, .lushr, 1), (60, .lload 4, 2), (62, .ldc2_w 74, 3), (65, .lor, 1), (66, .land, 1), (67, .lstore 4, 2), (69, .goto 108, 3), (40, .lload 4, 2), (42, .lconst 1, 1), (43, .lxor, 1), (44, .lstore 4, 2)]
theorem daX1_holds_33_2 : dtX1_holds_33_2.all (dqd cX1_holds) = true := by decide +kernel
theorem dX1_holds_159 : decode cX1_holds 159 = .ok (.iaload, 1) := dq daX1_holds_33_2 0 rfl
theorem dX1_holds_160 : decode cX1_holds 160 = .ok (.lload 10, 2) := dq daX1_holds_33_2 1 rfl
theorem dX1_holds_162 : decode cX1_holds 162 = .ok (.invokestatic 76, 3) := dq daX1_holds_33_2 2 rfl
theorem dX1_holds_165 : decode cX1_holds 165 = .ok (.ifCond .eq 7, 3) := dq daX1_holds_33_2 3 rfl
theorem dX1_holds_172 : decode cX1_holds 172 = .ok (.iconst 0, 1) := dq daX1_holds_33_2 4 rfl
theorem dX1_holds_173 : decode cX1_holds 173 = .ok (.i2l, 1) := dq daX1_holds_33_2 5 rfl
theorem dX1_holds_174 : decode cX1_holds 174 = .ok (.lor, 1) := dq daX1_holds_33_2 6 rfl
theorem dX1_holds_175 : decode cX1_holds 175 = .ok (.lstore 4, 2) := dq daX1_holds_33_2 7 rfl
theorem dX1_holds_168 : decode cX1_holds 168 = .ok (.iconst 1, 1) := dq daX1_holds_33_2 8 rfl
theorem dX1_holds_169 : decode cX1_holds 169 = .ok (.goto 4, 3) := dq daX1_holds_33_2 9 rfl
theorem dX1_holds_79 : decode cX1_holds 79 = .ok (.lload 4, 2) := dq daX1_holds_33_2 10 rfl
theorem dX1_holds_81 : decode cX1_holds 81 = .ok (.iconst 1, 1) := dq daX1_holds_33_2 11 rfl
theorem dX1_holds_82 : decode cX1_holds 82 = .ok (.lushr, 1) := dq daX1_holds_33_2 12 rfl
theorem dX1_holds_83 : decode cX1_holds 83 = .ok (.lload 4, 2) := dq daX1_holds_33_2 13 rfl
theorem dX1_holds_85 : decode cX1_holds 85 = .ok (.lconst 1, 1) := dq daX1_holds_33_2 14 rfl
theorem dX1_holds_86 : decode cX1_holds 86 = .ok (.land, 1) := dq daX1_holds_33_2 15 rfl
theorem dX1_holds_87 : decode cX1_holds 87 = .ok (.lor, 1) := dq daX1_holds_33_2 16 rfl
theorem dX1_holds_88 : decode cX1_holds 88 = .ok (.lstore 4, 2) := dq daX1_holds_33_2 17 rfl
theorem dX1_holds_90 : decode cX1_holds 90 = .ok (.goto 87, 3) := dq daX1_holds_33_2 18 rfl
theorem dX1_holds_56 : decode cX1_holds 56 = .ok (.lload 4, 2) := dq daX1_holds_33_2 19 rfl
theorem dX1_holds_58 : decode cX1_holds 58 = .ok (.iconst 1, 1) := dq daX1_holds_33_2 20 rfl
theorem dX1_holds_59 : decode cX1_holds 59 = .ok (.lushr, 1) := dq daX1_holds_33_2 21 rfl
theorem dX1_holds_60 : decode cX1_holds 60 = .ok (.lload 4, 2) := dq daX1_holds_33_2 22 rfl
theorem dX1_holds_62 : decode cX1_holds 62 = .ok (.ldc2_w 74, 3) := dq daX1_holds_33_2 23 rfl
theorem dX1_holds_65 : decode cX1_holds 65 = .ok (.lor, 1) := dq daX1_holds_33_2 24 rfl
theorem dX1_holds_66 : decode cX1_holds 66 = .ok (.land, 1) := dq daX1_holds_33_2 25 rfl
theorem dX1_holds_67 : decode cX1_holds 67 = .ok (.lstore 4, 2) := dq daX1_holds_33_2 26 rfl
theorem dX1_holds_69 : decode cX1_holds 69 = .ok (.goto 108, 3) := dq daX1_holds_33_2 27 rfl
theorem dX1_holds_40 : decode cX1_holds 40 = .ok (.lload 4, 2) := dq daX1_holds_33_2 28 rfl
theorem dX1_holds_42 : decode cX1_holds 42 = .ok (.lconst 1, 1) := dq daX1_holds_33_2 29 rfl
theorem dX1_holds_43 : decode cX1_holds 43 = .ok (.lxor, 1) := dq daX1_holds_33_2 30 rfl
theorem dX1_holds_44 : decode cX1_holds 44 = .ok (.lstore 4, 2) := dq daX1_holds_33_2 31 rfl
def dtX1_holds_33_3 : List (Nat × Jvm.ClassFile.Instr × Nat) := [(46, .goto 131, 3), (183, .lload 4, 2), (185, .lconst 1, 1), (186, .land, 1), (187, .lconst 1, 1), (188, .lcmp, 1), (189, .ifCond .ne 7, 3), (196, .iconst 0, 1), (197, .ireturn, 1), (192, .iconst 1, 1), (193, .goto 4, 3)]
theorem daX1_holds_33_3 : dtX1_holds_33_3.all (dqd cX1_holds) = true := by decide +kernel
theorem dX1_holds_46 : decode cX1_holds 46 = .ok (.goto 131, 3) := dq daX1_holds_33_3 0 rfl
theorem dX1_holds_183 : decode cX1_holds 183 = .ok (.lload 4, 2) := dq daX1_holds_33_3 1 rfl
theorem dX1_holds_185 : decode cX1_holds 185 = .ok (.lconst 1, 1) := dq daX1_holds_33_3 2 rfl
theorem dX1_holds_186 : decode cX1_holds 186 = .ok (.land, 1) := dq daX1_holds_33_3 3 rfl
theorem dX1_holds_187 : decode cX1_holds 187 = .ok (.lconst 1, 1) := dq daX1_holds_33_3 4 rfl
theorem dX1_holds_188 : decode cX1_holds 188 = .ok (.lcmp, 1) := dq daX1_holds_33_3 5 rfl
theorem dX1_holds_189 : decode cX1_holds 189 = .ok (.ifCond .ne 7, 3) := dq daX1_holds_33_3 6 rfl
theorem dX1_holds_196 : decode cX1_holds 196 = .ok (.iconst 0, 1) := dq daX1_holds_33_3 7 rfl
theorem dX1_holds_197 : decode cX1_holds 197 = .ok (.ireturn, 1) := dq daX1_holds_33_3 8 rfl
theorem dX1_holds_192 : decode cX1_holds 192 = .ok (.iconst 1, 1) := dq daX1_holds_33_3 9 rfl
theorem dX1_holds_193 : decode cX1_holds 193 = .ok (.goto 4, 3) := dq daX1_holds_33_3 10 rfl
def dtX1_sumOf_33_0 : List (Nat × Jvm.ClassFile.Instr × Nat) := [(0, .iconst 0, 1), (1, .istore_n 3, 1), (2, .iload_n 3, 1), (3, .aload_n 0, 1), (4, .getfield 50, 3), (7, .if_icmp .ge 63, 3), (10, .iload_n 3, 1), (11, .bipush 12, 2), (13, .if_icmp .ge 57, 3), (16, .aload_n 0, 1), (17, .getfield 9, 3), (20, .iload_n 3, 1), (21, .iaload, 1), (22, .iload_n 1, 1), (23, .if_icmp .ne 41, 3), (64, .iinc 3 1, 3), (67, .goto (-65), 3), (26, .aload_n 0, 1), (27, .aload_n 0, 1), (28, .getfield 19, 3), (31, .iload_n 3, 1), (32, .iaload, 1), (33, .aload_n 0, 1), (34, .getfield 22, 3), (37, .iload_n 3, 1), (38, .iaload, 1), (39, .aload_n 2, 1), (40, .invokevirtual 66, 3), (43, .ifCond .eq 21, 3), (46, .aload_n 0, 1), (47, .aload_n 0, 1), (48, .getfield 13, 3)]
theorem daX1_sumOf_33_0 : dtX1_sumOf_33_0.all (dqd cX1_sumOf) = true := by decide +kernel
theorem dX1_sumOf_0 : decode cX1_sumOf 0 = .ok (.iconst 0, 1) := dq daX1_sumOf_33_0 0 rfl
theorem dX1_sumOf_1 : decode cX1_sumOf 1 = .ok (.istore_n 3, 1) := dq daX1_sumOf_33_0 1 rfl
theorem dX1_sumOf_2 : decode cX1_sumOf 2 = .ok (.iload_n 3, 1) := dq daX1_sumOf_33_0 2 rfl
theorem dX1_sumOf_3 : decode cX1_sumOf 3 = .ok (.aload_n 0, 1) := dq daX1_sumOf_33_0 3 rfl
theorem dX1_sumOf_4 : decode cX1_sumOf 4 = .ok (.getfield 50, 3) := dq daX1_sumOf_33_0 4 rfl
theorem dX1_sumOf_7 : decode cX1_sumOf 7 = .ok (.if_icmp .ge 63, 3) := dq daX1_sumOf_33_0 5 rfl
theorem dX1_sumOf_10 : decode cX1_sumOf 10 = .ok (.iload_n 3, 1) := dq daX1_sumOf_33_0 6 rfl
theorem dX1_sumOf_11 : decode cX1_sumOf 11 = .ok (.bipush 12, 2) := dq daX1_sumOf_33_0 7 rfl
theorem dX1_sumOf_13 : decode cX1_sumOf 13 = .ok (.if_icmp .ge 57, 3) := dq daX1_sumOf_33_0 8 rfl
theorem dX1_sumOf_16 : decode cX1_sumOf 16 = .ok (.aload_n 0, 1) := dq daX1_sumOf_33_0 9 rfl
theorem dX1_sumOf_17 : decode cX1_sumOf 17 = .ok (.getfield 9, 3) := dq daX1_sumOf_33_0 10 rfl
theorem dX1_sumOf_20 : decode cX1_sumOf 20 = .ok (.iload_n 3, 1) := dq daX1_sumOf_33_0 11 rfl
theorem dX1_sumOf_21 : decode cX1_sumOf 21 = .ok (.iaload, 1) := dq daX1_sumOf_33_0 12 rfl
theorem dX1_sumOf_22 : decode cX1_sumOf 22 = .ok (.iload_n 1, 1) := dq daX1_sumOf_33_0 13 rfl
theorem dX1_sumOf_23 : decode cX1_sumOf 23 = .ok (.if_icmp .ne 41, 3) := dq daX1_sumOf_33_0 14 rfl
theorem dX1_sumOf_64 : decode cX1_sumOf 64 = .ok (.iinc 3 1, 3) := dq daX1_sumOf_33_0 15 rfl
theorem dX1_sumOf_67 : decode cX1_sumOf 67 = .ok (.goto (-65), 3) := dq daX1_sumOf_33_0 16 rfl
theorem dX1_sumOf_26 : decode cX1_sumOf 26 = .ok (.aload_n 0, 1) := dq daX1_sumOf_33_0 17 rfl
theorem dX1_sumOf_27 : decode cX1_sumOf 27 = .ok (.aload_n 0, 1) := dq daX1_sumOf_33_0 18 rfl
theorem dX1_sumOf_28 : decode cX1_sumOf 28 = .ok (.getfield 19, 3) := dq daX1_sumOf_33_0 19 rfl
theorem dX1_sumOf_31 : decode cX1_sumOf 31 = .ok (.iload_n 3, 1) := dq daX1_sumOf_33_0 20 rfl
theorem dX1_sumOf_32 : decode cX1_sumOf 32 = .ok (.iaload, 1) := dq daX1_sumOf_33_0 21 rfl
theorem dX1_sumOf_33 : decode cX1_sumOf 33 = .ok (.aload_n 0, 1) := dq daX1_sumOf_33_0 22 rfl
theorem dX1_sumOf_34 : decode cX1_sumOf 34 = .ok (.getfield 22, 3) := dq daX1_sumOf_33_0 23 rfl
theorem dX1_sumOf_37 : decode cX1_sumOf 37 = .ok (.iload_n 3, 1) := dq daX1_sumOf_33_0 24 rfl
theorem dX1_sumOf_38 : decode cX1_sumOf 38 = .ok (.iaload, 1) := dq daX1_sumOf_33_0 25 rfl
theorem dX1_sumOf_39 : decode cX1_sumOf 39 = .ok (.aload_n 2, 1) := dq daX1_sumOf_33_0 26 rfl
theorem dX1_sumOf_40 : decode cX1_sumOf 40 = .ok (.invokevirtual 66, 3) := dq daX1_sumOf_33_0 27 rfl
theorem dX1_sumOf_43 : decode cX1_sumOf 43 = .ok (.ifCond .eq 21, 3) := dq daX1_sumOf_33_0 28 rfl
theorem dX1_sumOf_46 : decode cX1_sumOf 46 = .ok (.aload_n 0, 1) := dq daX1_sumOf_33_0 29 rfl
theorem dX1_sumOf_47 : decode cX1_sumOf 47 = .ok (.aload_n 0, 1) := dq daX1_sumOf_33_0 30 rfl
theorem dX1_sumOf_48 : decode cX1_sumOf 48 = .ok (.getfield 13, 3) := dq daX1_sumOf_33_0 31 rfl
def dtX1_sumOf_33_1 : List (Nat × Jvm.ClassFile.Instr × Nat) := [(51, .iload_n 3, 1), (52, .iaload, 1), (53, .aload_n 0, 1), (54, .getfield 16, 3), (57, .iload_n 3, 1), (58, .iaload, 1), (59, .aload_n 2, 1), (60, .invokevirtual 70, 3), (63, .lreturn, 1), (70, .lconst 0, 1), (71, .lreturn, 1)]
theorem daX1_sumOf_33_1 : dtX1_sumOf_33_1.all (dqd cX1_sumOf) = true := by decide +kernel
theorem dX1_sumOf_51 : decode cX1_sumOf 51 = .ok (.iload_n 3, 1) := dq daX1_sumOf_33_1 0 rfl
theorem dX1_sumOf_52 : decode cX1_sumOf 52 = .ok (.iaload, 1) := dq daX1_sumOf_33_1 1 rfl
theorem dX1_sumOf_53 : decode cX1_sumOf 53 = .ok (.aload_n 0, 1) := dq daX1_sumOf_33_1 2 rfl
theorem dX1_sumOf_54 : decode cX1_sumOf 54 = .ok (.getfield 16, 3) := dq daX1_sumOf_33_1 3 rfl
theorem dX1_sumOf_57 : decode cX1_sumOf 57 = .ok (.iload_n 3, 1) := dq daX1_sumOf_33_1 4 rfl
theorem dX1_sumOf_58 : decode cX1_sumOf 58 = .ok (.iaload, 1) := dq daX1_sumOf_33_1 5 rfl
theorem dX1_sumOf_59 : decode cX1_sumOf 59 = .ok (.aload_n 2, 1) := dq daX1_sumOf_33_1 6 rfl
theorem dX1_sumOf_60 : decode cX1_sumOf 60 = .ok (.invokevirtual 70, 3) := dq daX1_sumOf_33_1 7 rfl
theorem dX1_sumOf_63 : decode cX1_sumOf 63 = .ok (.lreturn, 1) := dq daX1_sumOf_33_1 8 rfl
theorem dX1_sumOf_70 : decode cX1_sumOf 70 = .ok (.lconst 0, 1) := dq daX1_sumOf_33_1 9 rfl
theorem dX1_sumOf_71 : decode cX1_sumOf 71 = .ok (.lreturn, 1) := dq daX1_sumOf_33_1 10 rfl
set_option maxRecDepth 100000 in
def fX1_clear  : Int32 × Int32 × Int32 × Int32 × Int32 := (0, 0, 0, 0, 0)
set_option maxHeartbeats 4000000 in
set_option maxRecDepth 100000 in
theorem mX1_clear (l : Launch) (dC : Nat → ClassId) (dI : Nat → Nat → Nat) (kA : Nat → ClassId) (sz : Nat) (l0 : Nat) (ysorts : Nat) (ysumStarts : Nat) (ysumStops : Nat) (ytestStarts : Nat) (ytestStops : Nat) (yjoins : Nat) (yoperands : Nat) (yfactStarts : Nat) (yfactMiddles : Nat) (yfactStops : Nat) (ysigns : Nat) (ytests : Nat) (ychain : Int32) (yclauses : Int32) (yvalues : Int32) (yfacts : Int32) (ysteps : Int32)  : Met l yX1_clear wsX1_clear ({ frames := 0, cells := 0, slots := 0, locals := 0 }) (zPc dC dI kA sz [.ref l0] [(l0, .inr (1, [.int ychain, .int yclauses, .ref ysorts, .ref ysumStarts, .ref ysumStops, .ref ytestStarts, .ref ytestStops, .int yvalues, .ref yjoins, .ref yoperands, .int yfacts, .ref yfactStarts, .ref yfactMiddles, .ref yfactStops, .ref ysigns, .int ysteps, .ref ytests]))]) (va_Qv (fun (u : Int32 × Int32 × Int32 × Int32 × Int32) => (u.1, u.2.1, u.2.2.1, u.2.2.2.1, u.2.2.2.2) = fX1_clear ∧ ¬ u.2.1 < 0 ∧ ¬ u.2.2.1 < 0 ∧ ¬ u.2.2.2.1 < 0 ∧ ¬ u.2.2.2.2 < 0) (zB dC dI (va_A [(l0, .inr (1, [.int ychain, .int yclauses, .ref ysorts, .ref ysumStarts, .ref ysumStops, .ref ytestStarts, .ref ytestStops, .int yvalues, .ref yjoins, .ref yoperands, .int yfacts, .ref yfactStarts, .ref yfactMiddles, .ref yfactStops, .ref ysigns, .int ysteps, .ref ytests]))] sz) (fun (u : Int32 × Int32 × Int32 × Int32 × Int32) => [(l0, .inr (1, [.int u.1, .int u.2.1, .ref ysorts, .ref ysumStarts, .ref ysumStops, .ref ytestStarts, .ref ytestStops, .int u.2.2.1, .ref yjoins, .ref yoperands, .int u.2.2.2.1, .ref yfactStarts, .ref yfactMiddles, .ref yfactStops, .ref ysigns, .int u.2.2.2.2, .ref ytests]))])) (va_A [(l0, .inr (1, [.int ychain, .int yclauses, .ref ysorts, .ref ysumStarts, .ref ysumStops, .ref ytestStarts, .ref ytestStops, .int yvalues, .ref yjoins, .ref yoperands, .int yfacts, .ref yfactStarts, .ref yfactMiddles, .ref yfactStops, .ref ysigns, .int ysteps, .ref ytests]))] sz)) 0 0 (va_A [(l0, .inr (1, [.int ychain, .int yclauses, .ref ysorts, .ref ysumStarts, .ref ysumStops, .ref ytestStarts, .ref ytestStops, .int yvalues, .ref yjoins, .ref yoperands, .int yfacts, .ref yfactStarts, .ref yfactMiddles, .ref yfactStops, .ref ysigns, .int ysteps, .ref ytests]))] sz) := by
  refine Met.ofW (cc := cX1_clear) (maxL := 1) (ret := none) pnX1 rfl ?_
  intro p e s m args below meth c s₁ B hml hv
  obtain ⟨rfl, hsz, hP, hK, hD0⟩ := hv
  have hx := B.exec
  have hb := B.bytes
  have hr := B.returns
  have hts := atoms_spec (ws := wsX1_clear) B.pre
  have hown : s.vm.findClass RX1 = some m.cls := findClass_of_methodNamed B.named
  have hlocks := B.notSynchronized
  subst hsz
  have hD := hD0.self (sz := s.heap.size)
  generalize hAe : va_A [(l0, .inr (1, [.int ychain, .int yclauses, .ref ysorts, .ref ysumStarts, .ref ysumStops, .ref ytestStarts, .ref ytestStops, .int yvalues, .ref yjoins, .ref yoperands, .int yfacts, .ref yfactStarts, .ref yfactMiddles, .ref yfactStops, .ref ysigns, .int ysteps, .ref ytests]))] s.heap.size = A at hD ⊢
  have hA : ∀ q : Nat, s.heap.size ≤ q → A q := zA_of hAe
  have hS : va_S A s.heap s.heap [] := va_S.rf
  have hP : va_P (dC, dI) vwCl [(l0, .inr (1, [.int ychain, .int yclauses, .ref ysorts, .ref ysumStarts, .ref ysumStops, .ref ytestStarts, .ref ytestStops, .int yvalues, .ref yjoins, .ref yoperands, .int yfacts, .ref yfactStarts, .ref yfactMiddles, .ref yfactStops, .ref ysigns, .int ysteps, .ref ytests]))] s.heap := hP
  have hl := lv_entry ([.ref l0]) (n := 1) (Nat.le_of_ble_eq_true rfl)
  rw [lg_entry_eq]
  generalize (lg_sl ([.ref l0]) ++ List.replicate (1 - (lg_sl ([.ref l0])).length) Slot.unset).toArray = ls at hl ⊢
  have hl : lv_has ls 1 [(0, .ref l0)] := hl
  obtain ⟨G, hG0⟩ : ∃ G : Int32 × Int32 × Int32 × Int32 × Int32, fX1_clear = G := ⟨_, rfl⟩
  have hG := hG0
  unfold fX1_clear at hG
  refine lv_aload_n hx hb dX1_clear_0 rfl (lv_at hl 0 rfl) ?_
  refine lv_iconst (v := 0) hx hb dX1_clear_1 (by decide) ?_
  refine va_put (D := (dC, dI)) (ci := 1) (v := .int 0) (ty := .int) (C := RX1) (T := TX1) (N := 17) hx hb hts iX1_clear_X1 tyX1 tyX1_ok nmX1 hown hK.1 hP hD hS 0 gz0 vcz1 0 (by decide) (kX1_clear_1 hts) (fun _ h9 => h9) rfl pfdI rfl rfl (Nat.le_of_ble_eq_true rfl) dX1_clear_2 (fun H locs hP hD hS => ?_)
  obtain ⟨hP, hD⟩ := z_re (L := [(l0, .inr (1, [.int 0, .int yclauses, .ref ysorts, .ref ysumStarts, .ref ysumStops, .ref ytestStarts, .ref ytestStops, .int yvalues, .ref yjoins, .ref yoperands, .int yfacts, .ref yfactStarts, .ref yfactMiddles, .ref yfactStops, .ref ysigns, .int ysteps, .ref ytests]))]) hP hD
  refine lv_aload_n hx hb dX1_clear_5 rfl (lv_at hl 0 rfl) ?_
  refine lv_iconst (v := 0) hx hb dX1_clear_6 (by decide) ?_
  refine va_put (D := (dC, dI)) (ci := 1) (v := .int 0) (ty := .int) (C := RX1) (T := TX1) (N := 17) hx hb hts iX1_clear_X1 tyX1 tyX1_ok nmX1 hown hK.1 hP hD hS 0 gz0 vcz1 1 (by decide) (kX1_clear_2 hts) (fun _ h9 => h9) rfl pfdI rfl rfl (Nat.le_of_ble_eq_true rfl) dX1_clear_7 (fun H locs hP hD hS => ?_)
  obtain ⟨hP, hD⟩ := z_re (L := [(l0, .inr (1, [.int 0, .int 0, .ref ysorts, .ref ysumStarts, .ref ysumStops, .ref ytestStarts, .ref ytestStops, .int yvalues, .ref yjoins, .ref yoperands, .int yfacts, .ref yfactStarts, .ref yfactMiddles, .ref yfactStops, .ref ysigns, .int ysteps, .ref ytests]))]) hP hD
  refine lv_aload_n hx hb dX1_clear_10 rfl (lv_at hl 0 rfl) ?_
  refine lv_iconst (v := 0) hx hb dX1_clear_11 (by decide) ?_
  refine va_put (D := (dC, dI)) (ci := 1) (v := .int 0) (ty := .int) (C := RX1) (T := TX1) (N := 17) hx hb hts iX1_clear_X1 tyX1 tyX1_ok nmX1 hown hK.1 hP hD hS 0 gz0 vcz1 7 (by decide) (kX1_clear_3 hts) (fun _ h9 => h9) rfl pfdI rfl rfl (Nat.le_of_ble_eq_true rfl) dX1_clear_12 (fun H locs hP hD hS => ?_)
  obtain ⟨hP, hD⟩ := z_re (L := [(l0, .inr (1, [.int 0, .int 0, .ref ysorts, .ref ysumStarts, .ref ysumStops, .ref ytestStarts, .ref ytestStops, .int 0, .ref yjoins, .ref yoperands, .int yfacts, .ref yfactStarts, .ref yfactMiddles, .ref yfactStops, .ref ysigns, .int ysteps, .ref ytests]))]) hP hD
  refine lv_aload_n hx hb dX1_clear_15 rfl (lv_at hl 0 rfl) ?_
  refine lv_iconst (v := 0) hx hb dX1_clear_16 (by decide) ?_
  refine va_put (D := (dC, dI)) (ci := 1) (v := .int 0) (ty := .int) (C := RX1) (T := TX1) (N := 17) hx hb hts iX1_clear_X1 tyX1 tyX1_ok nmX1 hown hK.1 hP hD hS 0 gz0 vcz1 10 (by decide) (kX1_clear_4 hts) (fun _ h9 => h9) rfl pfdI rfl rfl (Nat.le_of_ble_eq_true rfl) dX1_clear_17 (fun H locs hP hD hS => ?_)
  obtain ⟨hP, hD⟩ := z_re (L := [(l0, .inr (1, [.int 0, .int 0, .ref ysorts, .ref ysumStarts, .ref ysumStops, .ref ytestStarts, .ref ytestStops, .int 0, .ref yjoins, .ref yoperands, .int 0, .ref yfactStarts, .ref yfactMiddles, .ref yfactStops, .ref ysigns, .int ysteps, .ref ytests]))]) hP hD
  refine lv_aload_n hx hb dX1_clear_20 rfl (lv_at hl 0 rfl) ?_
  refine lv_iconst (v := 0) hx hb dX1_clear_21 (by decide) ?_
  refine va_put (D := (dC, dI)) (ci := 1) (v := .int 0) (ty := .int) (C := RX1) (T := TX1) (N := 17) hx hb hts iX1_clear_X1 tyX1 tyX1_ok nmX1 hown hK.1 hP hD hS 0 gz0 vcz1 15 (by decide) (kX1_clear_5 hts) (fun _ h9 => h9) rfl pfdI rfl rfl (Nat.le_of_ble_eq_true rfl) dX1_clear_22 (fun H locs hP hD hS => ?_)
  obtain ⟨hP, hD⟩ := z_re (L := [(l0, .inr (1, [.int 0, .int 0, .ref ysorts, .ref ysumStarts, .ref ysumStops, .ref ytestStarts, .ref ytestStops, .int 0, .ref yjoins, .ref yoperands, .int 0, .ref yfactStarts, .ref yfactMiddles, .ref yfactStops, .ref ysigns, .int 0, .ref ytests]))]) hP hD
  obtain ⟨hP9, hD9⟩ := z_sb (L' := [(l0, .inr (1, [.int 0, .int 0, .ref ysorts, .ref ysumStarts, .ref ysumStops, .ref ytestStarts, .ref ytestStops, .int 0, .ref yjoins, .ref yoperands, .int 0, .ref yfactStarts, .ref yfactMiddles, .ref yfactStops, .ref ysigns, .int 0, .ref ytests]))]) hP hD [0] (by decide) rfl
  refine W.widen (k := 0) (n := 0) (Nat.le_of_ble_eq_true rfl) (Nat.le_of_ble_eq_true rfl) ?_
  exact W.vret hx hb hr (fun t ht hW => ⟨⟨(0, 0, 0, 0, 0), rfl, ⟨(hG.trans hG0.symm), (by decide), (by decide), (by decide), (by decide)⟩, by rw [ht]; exact hP9, hD9⟩, hS.F ht⟩) hS.2.2 dX1_clear_25
set_option maxRecDepth 100000 in
def fX1_beginClause (ysortsF : Nat → Int32) (ysumStartsF : Nat → Int32) (yclauses : Int32) (yvalues : Int32) (p0 : Int32) : Int32 × (Nat → Int32) × (Nat → Int32) := if 12 ≤ yclauses then ((yclauses, ysortsF, ysumStartsF)) else (bnd ((upd ysortsF yclauses.toNatClampNeg p0)) (fun (f2 : Nat → Int32) => bnd ((upd ysumStartsF yclauses.toNatClampNeg yvalues)) (fun (f3 : Nat → Int32) => bnd ((yclauses + 1)) (fun (x4 : Int32) => (x4, f2, f3)))))
set_option maxHeartbeats 4000000 in
set_option maxRecDepth 100000 in
theorem mX1_beginClause (l : Launch) (dC : Nat → ClassId) (dI : Nat → Nat → Nat) (kA : Nat → ClassId) (sz : Nat) (l0 : Nat) (ysorts : Nat) (ysumStarts : Nat) (ysumStops : Nat) (ytestStarts : Nat) (ytestStops : Nat) (yjoins : Nat) (yoperands : Nat) (yfactStarts : Nat) (yfactMiddles : Nat) (yfactStops : Nat) (ysigns : Nat) (ytests : Nat) (ysortsF : Nat → Int32) (ysumStartsF : Nat → Int32) (ychain : Int32) (yclauses : Int32) (yvalues : Int32) (yfacts : Int32) (ysteps : Int32) (p0 : Int32) (nclauses : ¬ yclauses < 0) : Met l yX1_beginClause wsX1_beginClause ({ frames := 0, cells := 0, slots := 0, locals := 0 }) (zPc dC dI kA sz [.ref l0, .int p0] [(l0, .inr (1, [.int ychain, .int yclauses, .ref ysorts, .ref ysumStarts, .ref ysumStops, .ref ytestStarts, .ref ytestStops, .int yvalues, .ref yjoins, .ref yoperands, .int yfacts, .ref yfactStarts, .ref yfactMiddles, .ref yfactStops, .ref ysigns, .int ysteps, .ref ytests])), (ysorts, .inl (kA 0, 12, .inl ysortsF)), (ysumStarts, .inl (kA 0, 12, .inl ysumStartsF))]) (va_Qv (fun (u : Int32 × (Nat → Int32) × (Nat → Int32)) => (u.1, u.2.1, u.2.2) = fX1_beginClause ysortsF ysumStartsF yclauses yvalues p0 ∧ ¬ u.1 < 0) (zB dC dI (va_A [(l0, .inr (1, [.int ychain, .int yclauses, .ref ysorts, .ref ysumStarts, .ref ysumStops, .ref ytestStarts, .ref ytestStops, .int yvalues, .ref yjoins, .ref yoperands, .int yfacts, .ref yfactStarts, .ref yfactMiddles, .ref yfactStops, .ref ysigns, .int ysteps, .ref ytests])), (ysorts, .inl (kA 0, 12, .inl ysortsF)), (ysumStarts, .inl (kA 0, 12, .inl ysumStartsF))] sz) (fun (u : Int32 × (Nat → Int32) × (Nat → Int32)) => [(l0, .inr (1, [.int ychain, .int u.1, .ref ysorts, .ref ysumStarts, .ref ysumStops, .ref ytestStarts, .ref ytestStops, .int yvalues, .ref yjoins, .ref yoperands, .int yfacts, .ref yfactStarts, .ref yfactMiddles, .ref yfactStops, .ref ysigns, .int ysteps, .ref ytests])), (ysorts, .inl (kA 0, 12, .inl u.2.1)), (ysumStarts, .inl (kA 0, 12, .inl u.2.2))])) (va_A [(l0, .inr (1, [.int ychain, .int yclauses, .ref ysorts, .ref ysumStarts, .ref ysumStops, .ref ytestStarts, .ref ytestStops, .int yvalues, .ref yjoins, .ref yoperands, .int yfacts, .ref yfactStarts, .ref yfactMiddles, .ref yfactStops, .ref ysigns, .int ysteps, .ref ytests])), (ysorts, .inl (kA 0, 12, .inl ysortsF)), (ysumStarts, .inl (kA 0, 12, .inl ysumStartsF))] sz)) 0 0 (va_A [(l0, .inr (1, [.int ychain, .int yclauses, .ref ysorts, .ref ysumStarts, .ref ysumStops, .ref ytestStarts, .ref ytestStops, .int yvalues, .ref yjoins, .ref yoperands, .int yfacts, .ref yfactStarts, .ref yfactMiddles, .ref yfactStops, .ref ysigns, .int ysteps, .ref ytests])), (ysorts, .inl (kA 0, 12, .inl ysortsF)), (ysumStarts, .inl (kA 0, 12, .inl ysumStartsF))] sz) := by
  refine Met.ofW (cc := cX1_beginClause) (maxL := 2) (ret := none) pnX1 rfl ?_
  intro p e s m args below meth c s₁ B hml hv
  obtain ⟨rfl, hsz, hP, hK, hD0⟩ := hv
  have hx := B.exec
  have hb := B.bytes
  have hr := B.returns
  have hts := atoms_spec (ws := wsX1_beginClause) B.pre
  have hown : s.vm.findClass RX1 = some m.cls := findClass_of_methodNamed B.named
  have hlocks := B.notSynchronized
  subst hsz
  have hD := hD0.self (sz := s.heap.size)
  generalize hAe : va_A [(l0, .inr (1, [.int ychain, .int yclauses, .ref ysorts, .ref ysumStarts, .ref ysumStops, .ref ytestStarts, .ref ytestStops, .int yvalues, .ref yjoins, .ref yoperands, .int yfacts, .ref yfactStarts, .ref yfactMiddles, .ref yfactStops, .ref ysigns, .int ysteps, .ref ytests])), (ysorts, .inl (kA 0, 12, .inl ysortsF)), (ysumStarts, .inl (kA 0, 12, .inl ysumStartsF))] s.heap.size = A at hD ⊢
  have hA : ∀ q : Nat, s.heap.size ≤ q → A q := zA_of hAe
  have hS : va_S A s.heap s.heap [] := va_S.rf
  have hP : va_P (dC, dI) vwCl [(l0, .inr (1, [.int ychain, .int yclauses, .ref ysorts, .ref ysumStarts, .ref ysumStops, .ref ytestStarts, .ref ytestStops, .int yvalues, .ref yjoins, .ref yoperands, .int yfacts, .ref yfactStarts, .ref yfactMiddles, .ref yfactStops, .ref ysigns, .int ysteps, .ref ytests])), (ysorts, .inl (kA 0, 12, .inl ysortsF)), (ysumStarts, .inl (kA 0, 12, .inl ysumStartsF))] s.heap := hP
  have hl := lv_entry ([.ref l0, .int p0]) (n := 2) (Nat.le_of_ble_eq_true rfl)
  rw [lg_entry_eq]
  generalize (lg_sl ([.ref l0, .int p0]) ++ List.replicate (2 - (lg_sl ([.ref l0, .int p0])).length) Slot.unset).toArray = ls at hl ⊢
  have hl : lv_has ls 2 [(0, .ref l0), (1, .int p0)] := hl
  obtain ⟨G, hG0⟩ : ∃ G : Int32 × (Nat → Int32) × (Nat → Int32), fX1_beginClause ysortsF ysumStartsF yclauses yvalues p0 = G := ⟨_, rfl⟩
  have hG := hG0
  unfold fX1_beginClause at hG
  refine lv_aload_n hx hb dX1_beginClause_0 rfl (lv_at hl 0 rfl) ?_
  refine va_get (D := (dC, dI)) (ci := 1) (v := .int yclauses) (C := RX1) (T := TX1) (N := 17) hx hb hts iX1_beginClause_X1 hown hK.1 hP 0 gz0 vcz1 1 (by decide) (kX1_beginClause_1 hts) (fun _ h9 => h9) gz1 dX1_beginClause_1 ?_
  refine lv_bipush (v := 12) hx hb dX1_beginClause_4 (by decide) ?_
  refine lv_icmp_ge (tgt := 42) hx hb dX1_beginClause_6 (by decide) (fun c_1 => ?_) (fun c_1 => ?_)
  · have hG := zthen hG c_1
    obtain ⟨hP9, hD9⟩ := z_sb (L' := [(l0, .inr (1, [.int ychain, .int yclauses, .ref ysorts, .ref ysumStarts, .ref ysumStops, .ref ytestStarts, .ref ytestStops, .int yvalues, .ref yjoins, .ref yoperands, .int yfacts, .ref yfactStarts, .ref yfactMiddles, .ref yfactStops, .ref ysigns, .int ysteps, .ref ytests])), (ysorts, .inl (kA 0, 12, .inl ysortsF)), (ysumStarts, .inl (kA 0, 12, .inl ysumStartsF))]) hP hD [0, 1, 2] (by decide) rfl
    refine W.widen (k := 0) (n := 0) (Nat.le_of_ble_eq_true rfl) (Nat.le_of_ble_eq_true rfl) ?_
    exact W.vret hx hb hr (fun t ht hW => ⟨⟨(yclauses, ysortsF, ysumStartsF), rfl, ⟨(hG.trans hG0.symm), nclauses⟩, by rw [ht]; exact hP9, hD9⟩, hS.F ht⟩) hS.2.2 dX1_beginClause_42
  · have hG := zelse hG c_1
    refine lv_aload_n hx hb dX1_beginClause_9 rfl (lv_at hl 0 rfl) ?_
    refine va_get (D := (dC, dI)) (ci := 1) (v := .ref ysorts) (C := RX1) (T := TX1) (N := 17) hx hb hts iX1_beginClause_X1 hown hK.1 hP 0 gz0 vcz1 2 (by decide) (kX1_beginClause_2 hts) (fun _ h9 => h9) gz2 dX1_beginClause_10 ?_
    refine lv_aload_n hx hb dX1_beginClause_13 rfl (lv_at hl 0 rfl) ?_
    refine va_get (D := (dC, dI)) (ci := 1) (v := .int yclauses) (C := RX1) (T := TX1) (N := 17) hx hb hts iX1_beginClause_X1 hown hK.1 hP 0 gz0 vcz1 1 (by decide) (kX1_beginClause_1 hts) (fun _ h9 => h9) gz1 dX1_beginClause_14 ?_
    refine lv_iload_n hx hb dX1_beginClause_17 rfl (lv_at hl 1 rfl) ?_
    refine va_iast hx hb hK.1 hP hD hS 1 0 gz1 tzz0 (vp_lt (by decide) nclauses c_1) dX1_beginClause_18 (fun H locs hP hD hS => ?_)
    obtain ⟨hP, hD⟩ := z_re (L := [(l0, .inr (1, [.int ychain, .int yclauses, .ref ysorts, .ref ysumStarts, .ref ysumStops, .ref ytestStarts, .ref ytestStops, .int yvalues, .ref yjoins, .ref yoperands, .int yfacts, .ref yfactStarts, .ref yfactMiddles, .ref yfactStops, .ref ysigns, .int ysteps, .ref ytests])), (ysorts, .inl (kA 0, 12, .inl (upd ysortsF yclauses.toNatClampNeg p0))), (ysumStarts, .inl (kA 0, 12, .inl ysumStartsF))]) hP hD
    obtain ⟨f2, ef2⟩ : ∃ y : Nat → Int32, y = (upd ysortsF yclauses.toNatClampNeg p0) := ⟨_, rfl⟩
    rw [← ef2] at hP hD
    have hG := zbnd hG ef2
    refine lv_aload_n hx hb dX1_beginClause_19 rfl (lv_at hl 0 rfl) ?_
    refine va_get (D := (dC, dI)) (ci := 1) (v := .ref ysumStarts) (C := RX1) (T := TX1) (N := 17) hx hb hts iX1_beginClause_X1 hown hK.1 hP 0 gz0 vcz1 3 (by decide) (kX1_beginClause_3 hts) (fun _ h9 => h9) gz3 dX1_beginClause_20 ?_
    refine lv_aload_n hx hb dX1_beginClause_23 rfl (lv_at hl 0 rfl) ?_
    refine va_get (D := (dC, dI)) (ci := 1) (v := .int yclauses) (C := RX1) (T := TX1) (N := 17) hx hb hts iX1_beginClause_X1 hown hK.1 hP 0 gz0 vcz1 1 (by decide) (kX1_beginClause_1 hts) (fun _ h9 => h9) gz1 dX1_beginClause_24 ?_
    refine lv_aload_n hx hb dX1_beginClause_27 rfl (lv_at hl 0 rfl) ?_
    refine va_get (D := (dC, dI)) (ci := 1) (v := .int yvalues) (C := RX1) (T := TX1) (N := 17) hx hb hts iX1_beginClause_X1 hown hK.1 hP 0 gz0 vcz1 7 (by decide) (kX1_beginClause_4 hts) (fun _ h9 => h9) gz7 dX1_beginClause_28 ?_
    refine va_iast hx hb hK.1 hP hD hS 2 0 gz2 tzz0 (vp_lt (by decide) nclauses c_1) dX1_beginClause_31 (fun H locs hP hD hS => ?_)
    obtain ⟨hP, hD⟩ := z_re (L := [(l0, .inr (1, [.int ychain, .int yclauses, .ref ysorts, .ref ysumStarts, .ref ysumStops, .ref ytestStarts, .ref ytestStops, .int yvalues, .ref yjoins, .ref yoperands, .int yfacts, .ref yfactStarts, .ref yfactMiddles, .ref yfactStops, .ref ysigns, .int ysteps, .ref ytests])), (ysorts, .inl (kA 0, 12, .inl f2)), (ysumStarts, .inl (kA 0, 12, .inl (upd ysumStartsF yclauses.toNatClampNeg yvalues)))]) hP hD
    obtain ⟨f3, ef3⟩ : ∃ y : Nat → Int32, y = (upd ysumStartsF yclauses.toNatClampNeg yvalues) := ⟨_, rfl⟩
    rw [← ef3] at hP hD
    have hG := zbnd hG ef3
    refine lv_aload_n hx hb dX1_beginClause_32 rfl (lv_at hl 0 rfl) ?_
    refine lv_dup hx hb dX1_beginClause_33 rfl ?_
    refine va_get (D := (dC, dI)) (ci := 1) (v := .int yclauses) (C := RX1) (T := TX1) (N := 17) hx hb hts iX1_beginClause_X1 hown hK.1 hP 0 gz0 vcz1 1 (by decide) (kX1_beginClause_1 hts) (fun _ h9 => h9) gz1 dX1_beginClause_34 ?_
    refine lv_iconst (v := 1) hx hb dX1_beginClause_37 (by decide) ?_
    refine lv_iadd hx hb dX1_beginClause_38 ?_
    refine lv_topi (fun x4 ex4 => ?_)
    have hG := zbnd hG ex4
    refine va_put (D := (dC, dI)) (ci := 1) (v := .int x4) (ty := .int) (C := RX1) (T := TX1) (N := 17) hx hb hts iX1_beginClause_X1 tyX1 tyX1_ok nmX1 hown hK.1 hP hD hS 0 gz0 vcz1 1 (by decide) (kX1_beginClause_1 hts) (fun _ h9 => h9) rfl pfdI rfl rfl (Nat.le_of_ble_eq_true rfl) dX1_beginClause_39 (fun H locs hP hD hS => ?_)
    obtain ⟨hP, hD⟩ := z_re (L := [(l0, .inr (1, [.int ychain, .int x4, .ref ysorts, .ref ysumStarts, .ref ysumStops, .ref ytestStarts, .ref ytestStops, .int yvalues, .ref yjoins, .ref yoperands, .int yfacts, .ref yfactStarts, .ref yfactMiddles, .ref yfactStops, .ref ysigns, .int ysteps, .ref ytests])), (ysorts, .inl (kA 0, 12, .inl f2)), (ysumStarts, .inl (kA 0, 12, .inl f3))]) hP hD
    obtain ⟨hP9, hD9⟩ := z_sb (L' := [(l0, .inr (1, [.int ychain, .int x4, .ref ysorts, .ref ysumStarts, .ref ysumStops, .ref ytestStarts, .ref ytestStops, .int yvalues, .ref yjoins, .ref yoperands, .int yfacts, .ref yfactStarts, .ref yfactMiddles, .ref yfactStops, .ref ysigns, .int ysteps, .ref ytests])), (ysorts, .inl (kA 0, 12, .inl f2)), (ysumStarts, .inl (kA 0, 12, .inl f3))]) hP hD [0, 1, 2] (by decide) rfl
    refine W.widen (k := 0) (n := 0) (Nat.le_of_ble_eq_true rfl) (Nat.le_of_ble_eq_true rfl) ?_
    exact W.vret hx hb hr (fun t ht hW => ⟨⟨(x4, f2, f3), rfl, ⟨(hG.trans hG0.symm), (z_nn ex4 c_1 nclauses)⟩, by rw [ht]; exact hP9, hD9⟩, hS.F ht⟩) hS.2.2 dX1_beginClause_42
set_option maxRecDepth 100000 in
def fX1_endSum (ysumStopsF : Nat → Int32) (ytestStartsF : Nat → Int32) (ytestStopsF : Nat → Int32) (yclauses : Int32) (yvalues : Int32) (ysteps : Int32) : (Nat → Int32) × (Nat → Int32) × (Nat → Int32) := bnd ((yclauses - 1)) (fun (x1 : Int32) => if x1 < 0 then ((ysumStopsF, ytestStartsF, ytestStopsF)) else (if 12 ≤ x1 then ((ysumStopsF, ytestStartsF, ytestStopsF)) else (bnd ((upd ysumStopsF x1.toNatClampNeg yvalues)) (fun (f4 : Nat → Int32) => bnd ((upd ytestStartsF x1.toNatClampNeg ysteps)) (fun (f5 : Nat → Int32) => bnd ((upd ytestStopsF x1.toNatClampNeg ysteps)) (fun (f6 : Nat → Int32) => (f4, f5, f6)))))))
set_option maxHeartbeats 4000000 in
set_option maxRecDepth 100000 in
theorem mX1_endSum (l : Launch) (dC : Nat → ClassId) (dI : Nat → Nat → Nat) (kA : Nat → ClassId) (sz : Nat) (l0 : Nat) (ysorts : Nat) (ysumStarts : Nat) (ysumStops : Nat) (ytestStarts : Nat) (ytestStops : Nat) (yjoins : Nat) (yoperands : Nat) (yfactStarts : Nat) (yfactMiddles : Nat) (yfactStops : Nat) (ysigns : Nat) (ytests : Nat) (ysumStopsF : Nat → Int32) (ytestStartsF : Nat → Int32) (ytestStopsF : Nat → Int32) (ychain : Int32) (yclauses : Int32) (yvalues : Int32) (yfacts : Int32) (ysteps : Int32)  : Met l yX1_endSum wsX1_endSum ({ frames := 0, cells := 0, slots := 0, locals := 0 }) (zPc dC dI kA sz [.ref l0] [(l0, .inr (1, [.int ychain, .int yclauses, .ref ysorts, .ref ysumStarts, .ref ysumStops, .ref ytestStarts, .ref ytestStops, .int yvalues, .ref yjoins, .ref yoperands, .int yfacts, .ref yfactStarts, .ref yfactMiddles, .ref yfactStops, .ref ysigns, .int ysteps, .ref ytests])), (ysumStops, .inl (kA 0, 12, .inl ysumStopsF)), (ytestStarts, .inl (kA 0, 12, .inl ytestStartsF)), (ytestStops, .inl (kA 0, 12, .inl ytestStopsF))]) (va_Qv (fun (u : (Nat → Int32) × (Nat → Int32) × (Nat → Int32)) => (u.1, u.2.1, u.2.2) = fX1_endSum ysumStopsF ytestStartsF ytestStopsF yclauses yvalues ysteps) (zB dC dI (va_A [(l0, .inr (1, [.int ychain, .int yclauses, .ref ysorts, .ref ysumStarts, .ref ysumStops, .ref ytestStarts, .ref ytestStops, .int yvalues, .ref yjoins, .ref yoperands, .int yfacts, .ref yfactStarts, .ref yfactMiddles, .ref yfactStops, .ref ysigns, .int ysteps, .ref ytests])), (ysumStops, .inl (kA 0, 12, .inl ysumStopsF)), (ytestStarts, .inl (kA 0, 12, .inl ytestStartsF)), (ytestStops, .inl (kA 0, 12, .inl ytestStopsF))] sz) (fun (u : (Nat → Int32) × (Nat → Int32) × (Nat → Int32)) => [(l0, .inr (1, [.int ychain, .int yclauses, .ref ysorts, .ref ysumStarts, .ref ysumStops, .ref ytestStarts, .ref ytestStops, .int yvalues, .ref yjoins, .ref yoperands, .int yfacts, .ref yfactStarts, .ref yfactMiddles, .ref yfactStops, .ref ysigns, .int ysteps, .ref ytests])), (ysumStops, .inl (kA 0, 12, .inl u.1)), (ytestStarts, .inl (kA 0, 12, .inl u.2.1)), (ytestStops, .inl (kA 0, 12, .inl u.2.2))])) (va_A [(l0, .inr (1, [.int ychain, .int yclauses, .ref ysorts, .ref ysumStarts, .ref ysumStops, .ref ytestStarts, .ref ytestStops, .int yvalues, .ref yjoins, .ref yoperands, .int yfacts, .ref yfactStarts, .ref yfactMiddles, .ref yfactStops, .ref ysigns, .int ysteps, .ref ytests])), (ysumStops, .inl (kA 0, 12, .inl ysumStopsF)), (ytestStarts, .inl (kA 0, 12, .inl ytestStartsF)), (ytestStops, .inl (kA 0, 12, .inl ytestStopsF))] sz)) 0 0 (va_A [(l0, .inr (1, [.int ychain, .int yclauses, .ref ysorts, .ref ysumStarts, .ref ysumStops, .ref ytestStarts, .ref ytestStops, .int yvalues, .ref yjoins, .ref yoperands, .int yfacts, .ref yfactStarts, .ref yfactMiddles, .ref yfactStops, .ref ysigns, .int ysteps, .ref ytests])), (ysumStops, .inl (kA 0, 12, .inl ysumStopsF)), (ytestStarts, .inl (kA 0, 12, .inl ytestStartsF)), (ytestStops, .inl (kA 0, 12, .inl ytestStopsF))] sz) := by
  refine Met.ofW (cc := cX1_endSum) (maxL := 2) (ret := none) pnX1 rfl ?_
  intro p e s m args below meth c s₁ B hml hv
  obtain ⟨rfl, hsz, hP, hK, hD0⟩ := hv
  have hx := B.exec
  have hb := B.bytes
  have hr := B.returns
  have hts := atoms_spec (ws := wsX1_endSum) B.pre
  have hown : s.vm.findClass RX1 = some m.cls := findClass_of_methodNamed B.named
  have hlocks := B.notSynchronized
  subst hsz
  have hD := hD0.self (sz := s.heap.size)
  generalize hAe : va_A [(l0, .inr (1, [.int ychain, .int yclauses, .ref ysorts, .ref ysumStarts, .ref ysumStops, .ref ytestStarts, .ref ytestStops, .int yvalues, .ref yjoins, .ref yoperands, .int yfacts, .ref yfactStarts, .ref yfactMiddles, .ref yfactStops, .ref ysigns, .int ysteps, .ref ytests])), (ysumStops, .inl (kA 0, 12, .inl ysumStopsF)), (ytestStarts, .inl (kA 0, 12, .inl ytestStartsF)), (ytestStops, .inl (kA 0, 12, .inl ytestStopsF))] s.heap.size = A at hD ⊢
  have hA : ∀ q : Nat, s.heap.size ≤ q → A q := zA_of hAe
  have hS : va_S A s.heap s.heap [] := va_S.rf
  have hP : va_P (dC, dI) vwCl [(l0, .inr (1, [.int ychain, .int yclauses, .ref ysorts, .ref ysumStarts, .ref ysumStops, .ref ytestStarts, .ref ytestStops, .int yvalues, .ref yjoins, .ref yoperands, .int yfacts, .ref yfactStarts, .ref yfactMiddles, .ref yfactStops, .ref ysigns, .int ysteps, .ref ytests])), (ysumStops, .inl (kA 0, 12, .inl ysumStopsF)), (ytestStarts, .inl (kA 0, 12, .inl ytestStartsF)), (ytestStops, .inl (kA 0, 12, .inl ytestStopsF))] s.heap := hP
  have hl := lv_entry ([.ref l0]) (n := 2) (Nat.le_of_ble_eq_true rfl)
  rw [lg_entry_eq]
  generalize (lg_sl ([.ref l0]) ++ List.replicate (2 - (lg_sl ([.ref l0])).length) Slot.unset).toArray = ls at hl ⊢
  have hl : lv_has ls 2 [(0, .ref l0)] := hl
  obtain ⟨G, hG0⟩ : ∃ G : (Nat → Int32) × (Nat → Int32) × (Nat → Int32), fX1_endSum ysumStopsF ytestStartsF ytestStopsF yclauses yvalues ysteps = G := ⟨_, rfl⟩
  have hG := hG0
  unfold fX1_endSum at hG
  refine lv_aload_n hx hb dX1_endSum_0 rfl (lv_at hl 0 rfl) ?_
  refine va_get (D := (dC, dI)) (ci := 1) (v := .int yclauses) (C := RX1) (T := TX1) (N := 17) hx hb hts iX1_endSum_X1 hown hK.1 hP 0 gz0 vcz1 1 (by decide) (kX1_endSum_1 hts) (fun _ h9 => h9) gz1 dX1_endSum_1 ?_
  refine lv_iconst (v := 1) hx hb dX1_endSum_4 (by decide) ?_
  refine lv_isub hx hb dX1_endSum_5 ?_
  refine lv_topi (fun x1 ex1 => ?_)
  have hG := zbnd hG ex1
  refine lv_istore_n (lv' := [(1, .int x1), (0, .ref l0)]) hx hb dX1_endSum_6 rfl hl (by decide) rfl (fun ls hl => ?_)
  refine lv_iload_n hx hb dX1_endSum_7 rfl (lv_at hl 0 rfl) ?_
  refine lv_if_lt (tgt := 47) hx hb dX1_endSum_8 (by decide) (fun c_2 => ?_) (fun c_2 => ?_)
  · have hG := zthen hG c_2
    obtain ⟨hP9, hD9⟩ := z_sb (L' := [(l0, .inr (1, [.int ychain, .int yclauses, .ref ysorts, .ref ysumStarts, .ref ysumStops, .ref ytestStarts, .ref ytestStops, .int yvalues, .ref yjoins, .ref yoperands, .int yfacts, .ref yfactStarts, .ref yfactMiddles, .ref yfactStops, .ref ysigns, .int ysteps, .ref ytests])), (ysumStops, .inl (kA 0, 12, .inl ysumStopsF)), (ytestStarts, .inl (kA 0, 12, .inl ytestStartsF)), (ytestStops, .inl (kA 0, 12, .inl ytestStopsF))]) hP hD [0, 1, 2, 3] (by decide) rfl
    refine W.widen (k := 0) (n := 0) (Nat.le_of_ble_eq_true rfl) (Nat.le_of_ble_eq_true rfl) ?_
    exact W.vret hx hb hr (fun t ht hW => ⟨⟨(ysumStopsF, ytestStartsF, ytestStopsF), rfl, (hG.trans hG0.symm), by rw [ht]; exact hP9, hD9⟩, hS.F ht⟩) hS.2.2 dX1_endSum_47
  · have hG := zelse hG c_2
    refine lv_iload_n hx hb dX1_endSum_11 rfl (lv_at hl 0 rfl) ?_
    refine lv_bipush (v := 12) hx hb dX1_endSum_12 (by decide) ?_
    refine lv_icmp_ge (tgt := 47) hx hb dX1_endSum_14 (by decide) (fun c_3 => ?_) (fun c_3 => ?_)
    · have hG := zthen hG c_3
      obtain ⟨hP9, hD9⟩ := z_sb (L' := [(l0, .inr (1, [.int ychain, .int yclauses, .ref ysorts, .ref ysumStarts, .ref ysumStops, .ref ytestStarts, .ref ytestStops, .int yvalues, .ref yjoins, .ref yoperands, .int yfacts, .ref yfactStarts, .ref yfactMiddles, .ref yfactStops, .ref ysigns, .int ysteps, .ref ytests])), (ysumStops, .inl (kA 0, 12, .inl ysumStopsF)), (ytestStarts, .inl (kA 0, 12, .inl ytestStartsF)), (ytestStops, .inl (kA 0, 12, .inl ytestStopsF))]) hP hD [0, 1, 2, 3] (by decide) rfl
      refine W.widen (k := 0) (n := 0) (Nat.le_of_ble_eq_true rfl) (Nat.le_of_ble_eq_true rfl) ?_
      exact W.vret hx hb hr (fun t ht hW => ⟨⟨(ysumStopsF, ytestStartsF, ytestStopsF), rfl, (hG.trans hG0.symm), by rw [ht]; exact hP9, hD9⟩, hS.F ht⟩) hS.2.2 dX1_endSum_47
    · have hG := zelse hG c_3
      refine lv_aload_n hx hb dX1_endSum_17 rfl (lv_at hl 1 rfl) ?_
      refine va_get (D := (dC, dI)) (ci := 1) (v := .ref ysumStops) (C := RX1) (T := TX1) (N := 17) hx hb hts iX1_endSum_X1 hown hK.1 hP 0 gz0 vcz1 4 (by decide) (kX1_endSum_2 hts) (fun _ h9 => h9) gz4 dX1_endSum_18 ?_
      refine lv_iload_n hx hb dX1_endSum_21 rfl (lv_at hl 0 rfl) ?_
      refine lv_aload_n hx hb dX1_endSum_22 rfl (lv_at hl 1 rfl) ?_
      refine va_get (D := (dC, dI)) (ci := 1) (v := .int yvalues) (C := RX1) (T := TX1) (N := 17) hx hb hts iX1_endSum_X1 hown hK.1 hP 0 gz0 vcz1 7 (by decide) (kX1_endSum_3 hts) (fun _ h9 => h9) gz7 dX1_endSum_23 ?_
      refine va_iast hx hb hK.1 hP hD hS 1 0 gz1 tzz0 (vp_lt (by decide) c_2 c_3) dX1_endSum_26 (fun H locs hP hD hS => ?_)
      obtain ⟨hP, hD⟩ := z_re (L := [(l0, .inr (1, [.int ychain, .int yclauses, .ref ysorts, .ref ysumStarts, .ref ysumStops, .ref ytestStarts, .ref ytestStops, .int yvalues, .ref yjoins, .ref yoperands, .int yfacts, .ref yfactStarts, .ref yfactMiddles, .ref yfactStops, .ref ysigns, .int ysteps, .ref ytests])), (ysumStops, .inl (kA 0, 12, .inl (upd ysumStopsF x1.toNatClampNeg yvalues))), (ytestStarts, .inl (kA 0, 12, .inl ytestStartsF)), (ytestStops, .inl (kA 0, 12, .inl ytestStopsF))]) hP hD
      obtain ⟨f4, ef4⟩ : ∃ y : Nat → Int32, y = (upd ysumStopsF x1.toNatClampNeg yvalues) := ⟨_, rfl⟩
      rw [← ef4] at hP hD
      have hG := zbnd hG ef4
      refine lv_aload_n hx hb dX1_endSum_27 rfl (lv_at hl 1 rfl) ?_
      refine va_get (D := (dC, dI)) (ci := 1) (v := .ref ytestStarts) (C := RX1) (T := TX1) (N := 17) hx hb hts iX1_endSum_X1 hown hK.1 hP 0 gz0 vcz1 5 (by decide) (kX1_endSum_4 hts) (fun _ h9 => h9) gz5 dX1_endSum_28 ?_
      refine lv_iload_n hx hb dX1_endSum_31 rfl (lv_at hl 0 rfl) ?_
      refine lv_aload_n hx hb dX1_endSum_32 rfl (lv_at hl 1 rfl) ?_
      refine va_get (D := (dC, dI)) (ci := 1) (v := .int ysteps) (C := RX1) (T := TX1) (N := 17) hx hb hts iX1_endSum_X1 hown hK.1 hP 0 gz0 vcz1 15 (by decide) (kX1_endSum_5 hts) (fun _ h9 => h9) gz15 dX1_endSum_33 ?_
      refine va_iast hx hb hK.1 hP hD hS 2 0 gz2 tzz0 (vp_lt (by decide) c_2 c_3) dX1_endSum_36 (fun H locs hP hD hS => ?_)
      obtain ⟨hP, hD⟩ := z_re (L := [(l0, .inr (1, [.int ychain, .int yclauses, .ref ysorts, .ref ysumStarts, .ref ysumStops, .ref ytestStarts, .ref ytestStops, .int yvalues, .ref yjoins, .ref yoperands, .int yfacts, .ref yfactStarts, .ref yfactMiddles, .ref yfactStops, .ref ysigns, .int ysteps, .ref ytests])), (ysumStops, .inl (kA 0, 12, .inl f4)), (ytestStarts, .inl (kA 0, 12, .inl (upd ytestStartsF x1.toNatClampNeg ysteps))), (ytestStops, .inl (kA 0, 12, .inl ytestStopsF))]) hP hD
      obtain ⟨f5, ef5⟩ : ∃ y : Nat → Int32, y = (upd ytestStartsF x1.toNatClampNeg ysteps) := ⟨_, rfl⟩
      rw [← ef5] at hP hD
      have hG := zbnd hG ef5
      refine lv_aload_n hx hb dX1_endSum_37 rfl (lv_at hl 1 rfl) ?_
      refine va_get (D := (dC, dI)) (ci := 1) (v := .ref ytestStops) (C := RX1) (T := TX1) (N := 17) hx hb hts iX1_endSum_X1 hown hK.1 hP 0 gz0 vcz1 6 (by decide) (kX1_endSum_6 hts) (fun _ h9 => h9) gz6 dX1_endSum_38 ?_
      refine lv_iload_n hx hb dX1_endSum_41 rfl (lv_at hl 0 rfl) ?_
      refine lv_aload_n hx hb dX1_endSum_42 rfl (lv_at hl 1 rfl) ?_
      refine va_get (D := (dC, dI)) (ci := 1) (v := .int ysteps) (C := RX1) (T := TX1) (N := 17) hx hb hts iX1_endSum_X1 hown hK.1 hP 0 gz0 vcz1 15 (by decide) (kX1_endSum_5 hts) (fun _ h9 => h9) gz15 dX1_endSum_43 ?_
      refine va_iast hx hb hK.1 hP hD hS 3 0 gz3 tzz0 (vp_lt (by decide) c_2 c_3) dX1_endSum_46 (fun H locs hP hD hS => ?_)
      obtain ⟨hP, hD⟩ := z_re (L := [(l0, .inr (1, [.int ychain, .int yclauses, .ref ysorts, .ref ysumStarts, .ref ysumStops, .ref ytestStarts, .ref ytestStops, .int yvalues, .ref yjoins, .ref yoperands, .int yfacts, .ref yfactStarts, .ref yfactMiddles, .ref yfactStops, .ref ysigns, .int ysteps, .ref ytests])), (ysumStops, .inl (kA 0, 12, .inl f4)), (ytestStarts, .inl (kA 0, 12, .inl f5)), (ytestStops, .inl (kA 0, 12, .inl (upd ytestStopsF x1.toNatClampNeg ysteps)))]) hP hD
      obtain ⟨f6, ef6⟩ : ∃ y : Nat → Int32, y = (upd ytestStopsF x1.toNatClampNeg ysteps) := ⟨_, rfl⟩
      rw [← ef6] at hP hD
      have hG := zbnd hG ef6
      obtain ⟨hP9, hD9⟩ := z_sb (L' := [(l0, .inr (1, [.int ychain, .int yclauses, .ref ysorts, .ref ysumStarts, .ref ysumStops, .ref ytestStarts, .ref ytestStops, .int yvalues, .ref yjoins, .ref yoperands, .int yfacts, .ref yfactStarts, .ref yfactMiddles, .ref yfactStops, .ref ysigns, .int ysteps, .ref ytests])), (ysumStops, .inl (kA 0, 12, .inl f4)), (ytestStarts, .inl (kA 0, 12, .inl f5)), (ytestStops, .inl (kA 0, 12, .inl f6))]) hP hD [0, 1, 2, 3] (by decide) rfl
      refine W.widen (k := 0) (n := 0) (Nat.le_of_ble_eq_true rfl) (Nat.le_of_ble_eq_true rfl) ?_
      exact W.vret hx hb hr (fun t ht hW => ⟨⟨(f4, f5, f6), rfl, (hG.trans hG0.symm), by rw [ht]; exact hP9, hD9⟩, hS.F ht⟩) hS.2.2 dX1_endSum_47
set_option maxRecDepth 100000 in
def fX1_endTest (ytestStopsF : Nat → Int32) (yclauses : Int32) (ysteps : Int32) : (Nat → Int32) := bnd ((yclauses - 1)) (fun (x1 : Int32) => if x1 < 0 then (ytestStopsF) else (if 12 ≤ x1 then (ytestStopsF) else (bnd ((upd ytestStopsF x1.toNatClampNeg ysteps)) (fun (f4 : Nat → Int32) => f4))))
set_option maxHeartbeats 4000000 in
set_option maxRecDepth 100000 in
theorem mX1_endTest (l : Launch) (dC : Nat → ClassId) (dI : Nat → Nat → Nat) (kA : Nat → ClassId) (sz : Nat) (l0 : Nat) (ysorts : Nat) (ysumStarts : Nat) (ysumStops : Nat) (ytestStarts : Nat) (ytestStops : Nat) (yjoins : Nat) (yoperands : Nat) (yfactStarts : Nat) (yfactMiddles : Nat) (yfactStops : Nat) (ysigns : Nat) (ytests : Nat) (ytestStopsF : Nat → Int32) (ychain : Int32) (yclauses : Int32) (yvalues : Int32) (yfacts : Int32) (ysteps : Int32)  : Met l yX1_endTest wsX1_endTest ({ frames := 0, cells := 0, slots := 0, locals := 0 }) (zPc dC dI kA sz [.ref l0] [(l0, .inr (1, [.int ychain, .int yclauses, .ref ysorts, .ref ysumStarts, .ref ysumStops, .ref ytestStarts, .ref ytestStops, .int yvalues, .ref yjoins, .ref yoperands, .int yfacts, .ref yfactStarts, .ref yfactMiddles, .ref yfactStops, .ref ysigns, .int ysteps, .ref ytests])), (ytestStops, .inl (kA 0, 12, .inl ytestStopsF))]) (va_Qv (fun (u : (Nat → Int32)) => u = fX1_endTest ytestStopsF yclauses ysteps) (zB dC dI (va_A [(l0, .inr (1, [.int ychain, .int yclauses, .ref ysorts, .ref ysumStarts, .ref ysumStops, .ref ytestStarts, .ref ytestStops, .int yvalues, .ref yjoins, .ref yoperands, .int yfacts, .ref yfactStarts, .ref yfactMiddles, .ref yfactStops, .ref ysigns, .int ysteps, .ref ytests])), (ytestStops, .inl (kA 0, 12, .inl ytestStopsF))] sz) (fun (u : (Nat → Int32)) => [(l0, .inr (1, [.int ychain, .int yclauses, .ref ysorts, .ref ysumStarts, .ref ysumStops, .ref ytestStarts, .ref ytestStops, .int yvalues, .ref yjoins, .ref yoperands, .int yfacts, .ref yfactStarts, .ref yfactMiddles, .ref yfactStops, .ref ysigns, .int ysteps, .ref ytests])), (ytestStops, .inl (kA 0, 12, .inl u))])) (va_A [(l0, .inr (1, [.int ychain, .int yclauses, .ref ysorts, .ref ysumStarts, .ref ysumStops, .ref ytestStarts, .ref ytestStops, .int yvalues, .ref yjoins, .ref yoperands, .int yfacts, .ref yfactStarts, .ref yfactMiddles, .ref yfactStops, .ref ysigns, .int ysteps, .ref ytests])), (ytestStops, .inl (kA 0, 12, .inl ytestStopsF))] sz)) 0 0 (va_A [(l0, .inr (1, [.int ychain, .int yclauses, .ref ysorts, .ref ysumStarts, .ref ysumStops, .ref ytestStarts, .ref ytestStops, .int yvalues, .ref yjoins, .ref yoperands, .int yfacts, .ref yfactStarts, .ref yfactMiddles, .ref yfactStops, .ref ysigns, .int ysteps, .ref ytests])), (ytestStops, .inl (kA 0, 12, .inl ytestStopsF))] sz) := by
  refine Met.ofW (cc := cX1_endTest) (maxL := 2) (ret := none) pnX1 rfl ?_
  intro p e s m args below meth c s₁ B hml hv
  obtain ⟨rfl, hsz, hP, hK, hD0⟩ := hv
  have hx := B.exec
  have hb := B.bytes
  have hr := B.returns
  have hts := atoms_spec (ws := wsX1_endTest) B.pre
  have hown : s.vm.findClass RX1 = some m.cls := findClass_of_methodNamed B.named
  have hlocks := B.notSynchronized
  subst hsz
  have hD := hD0.self (sz := s.heap.size)
  generalize hAe : va_A [(l0, .inr (1, [.int ychain, .int yclauses, .ref ysorts, .ref ysumStarts, .ref ysumStops, .ref ytestStarts, .ref ytestStops, .int yvalues, .ref yjoins, .ref yoperands, .int yfacts, .ref yfactStarts, .ref yfactMiddles, .ref yfactStops, .ref ysigns, .int ysteps, .ref ytests])), (ytestStops, .inl (kA 0, 12, .inl ytestStopsF))] s.heap.size = A at hD ⊢
  have hA : ∀ q : Nat, s.heap.size ≤ q → A q := zA_of hAe
  have hS : va_S A s.heap s.heap [] := va_S.rf
  have hP : va_P (dC, dI) vwCl [(l0, .inr (1, [.int ychain, .int yclauses, .ref ysorts, .ref ysumStarts, .ref ysumStops, .ref ytestStarts, .ref ytestStops, .int yvalues, .ref yjoins, .ref yoperands, .int yfacts, .ref yfactStarts, .ref yfactMiddles, .ref yfactStops, .ref ysigns, .int ysteps, .ref ytests])), (ytestStops, .inl (kA 0, 12, .inl ytestStopsF))] s.heap := hP
  have hl := lv_entry ([.ref l0]) (n := 2) (Nat.le_of_ble_eq_true rfl)
  rw [lg_entry_eq]
  generalize (lg_sl ([.ref l0]) ++ List.replicate (2 - (lg_sl ([.ref l0])).length) Slot.unset).toArray = ls at hl ⊢
  have hl : lv_has ls 2 [(0, .ref l0)] := hl
  obtain ⟨G, hG0⟩ : ∃ G : (Nat → Int32), fX1_endTest ytestStopsF yclauses ysteps = G := ⟨_, rfl⟩
  have hG := hG0
  unfold fX1_endTest at hG
  refine lv_aload_n hx hb dX1_endTest_0 rfl (lv_at hl 0 rfl) ?_
  refine va_get (D := (dC, dI)) (ci := 1) (v := .int yclauses) (C := RX1) (T := TX1) (N := 17) hx hb hts iX1_endTest_X1 hown hK.1 hP 0 gz0 vcz1 1 (by decide) (kX1_endTest_1 hts) (fun _ h9 => h9) gz1 dX1_endTest_1 ?_
  refine lv_iconst (v := 1) hx hb dX1_endTest_4 (by decide) ?_
  refine lv_isub hx hb dX1_endTest_5 ?_
  refine lv_topi (fun x1 ex1 => ?_)
  have hG := zbnd hG ex1
  refine lv_istore_n (lv' := [(1, .int x1), (0, .ref l0)]) hx hb dX1_endTest_6 rfl hl (by decide) rfl (fun ls hl => ?_)
  refine lv_iload_n hx hb dX1_endTest_7 rfl (lv_at hl 0 rfl) ?_
  refine lv_if_lt (tgt := 27) hx hb dX1_endTest_8 (by decide) (fun c_2 => ?_) (fun c_2 => ?_)
  · have hG := zthen hG c_2
    obtain ⟨hP9, hD9⟩ := z_sb (L' := [(l0, .inr (1, [.int ychain, .int yclauses, .ref ysorts, .ref ysumStarts, .ref ysumStops, .ref ytestStarts, .ref ytestStops, .int yvalues, .ref yjoins, .ref yoperands, .int yfacts, .ref yfactStarts, .ref yfactMiddles, .ref yfactStops, .ref ysigns, .int ysteps, .ref ytests])), (ytestStops, .inl (kA 0, 12, .inl ytestStopsF))]) hP hD [0, 1] (by decide) rfl
    refine W.widen (k := 0) (n := 0) (Nat.le_of_ble_eq_true rfl) (Nat.le_of_ble_eq_true rfl) ?_
    exact W.vret hx hb hr (fun t ht hW => ⟨⟨(ytestStopsF), rfl, (hG.trans hG0.symm), by rw [ht]; exact hP9, hD9⟩, hS.F ht⟩) hS.2.2 dX1_endTest_27
  · have hG := zelse hG c_2
    refine lv_iload_n hx hb dX1_endTest_11 rfl (lv_at hl 0 rfl) ?_
    refine lv_bipush (v := 12) hx hb dX1_endTest_12 (by decide) ?_
    refine lv_icmp_ge (tgt := 27) hx hb dX1_endTest_14 (by decide) (fun c_3 => ?_) (fun c_3 => ?_)
    · have hG := zthen hG c_3
      obtain ⟨hP9, hD9⟩ := z_sb (L' := [(l0, .inr (1, [.int ychain, .int yclauses, .ref ysorts, .ref ysumStarts, .ref ysumStops, .ref ytestStarts, .ref ytestStops, .int yvalues, .ref yjoins, .ref yoperands, .int yfacts, .ref yfactStarts, .ref yfactMiddles, .ref yfactStops, .ref ysigns, .int ysteps, .ref ytests])), (ytestStops, .inl (kA 0, 12, .inl ytestStopsF))]) hP hD [0, 1] (by decide) rfl
      refine W.widen (k := 0) (n := 0) (Nat.le_of_ble_eq_true rfl) (Nat.le_of_ble_eq_true rfl) ?_
      exact W.vret hx hb hr (fun t ht hW => ⟨⟨(ytestStopsF), rfl, (hG.trans hG0.symm), by rw [ht]; exact hP9, hD9⟩, hS.F ht⟩) hS.2.2 dX1_endTest_27
    · have hG := zelse hG c_3
      refine lv_aload_n hx hb dX1_endTest_17 rfl (lv_at hl 1 rfl) ?_
      refine va_get (D := (dC, dI)) (ci := 1) (v := .ref ytestStops) (C := RX1) (T := TX1) (N := 17) hx hb hts iX1_endTest_X1 hown hK.1 hP 0 gz0 vcz1 6 (by decide) (kX1_endTest_2 hts) (fun _ h9 => h9) gz6 dX1_endTest_18 ?_
      refine lv_iload_n hx hb dX1_endTest_21 rfl (lv_at hl 0 rfl) ?_
      refine lv_aload_n hx hb dX1_endTest_22 rfl (lv_at hl 1 rfl) ?_
      refine va_get (D := (dC, dI)) (ci := 1) (v := .int ysteps) (C := RX1) (T := TX1) (N := 17) hx hb hts iX1_endTest_X1 hown hK.1 hP 0 gz0 vcz1 15 (by decide) (kX1_endTest_3 hts) (fun _ h9 => h9) gz15 dX1_endTest_23 ?_
      refine va_iast hx hb hK.1 hP hD hS 1 0 gz1 tzz0 (vp_lt (by decide) c_2 c_3) dX1_endTest_26 (fun H locs hP hD hS => ?_)
      obtain ⟨hP, hD⟩ := z_re (L := [(l0, .inr (1, [.int ychain, .int yclauses, .ref ysorts, .ref ysumStarts, .ref ysumStops, .ref ytestStarts, .ref ytestStops, .int yvalues, .ref yjoins, .ref yoperands, .int yfacts, .ref yfactStarts, .ref yfactMiddles, .ref yfactStops, .ref ysigns, .int ysteps, .ref ytests])), (ytestStops, .inl (kA 0, 12, .inl (upd ytestStopsF x1.toNatClampNeg ysteps)))]) hP hD
      obtain ⟨f4, ef4⟩ : ∃ y : Nat → Int32, y = (upd ytestStopsF x1.toNatClampNeg ysteps) := ⟨_, rfl⟩
      rw [← ef4] at hP hD
      have hG := zbnd hG ef4
      obtain ⟨hP9, hD9⟩ := z_sb (L' := [(l0, .inr (1, [.int ychain, .int yclauses, .ref ysorts, .ref ysumStarts, .ref ysumStops, .ref ytestStarts, .ref ytestStops, .int yvalues, .ref yjoins, .ref yoperands, .int yfacts, .ref yfactStarts, .ref yfactMiddles, .ref yfactStops, .ref ysigns, .int ysteps, .ref ytests])), (ytestStops, .inl (kA 0, 12, .inl f4))]) hP hD [0, 1] (by decide) rfl
      refine W.widen (k := 0) (n := 0) (Nat.le_of_ble_eq_true rfl) (Nat.le_of_ble_eq_true rfl) ?_
      exact W.vret hx hb hr (fun t ht hW => ⟨⟨(f4), rfl, (hG.trans hG0.symm), by rw [ht]; exact hP9, hD9⟩, hS.F ht⟩) hS.2.2 dX1_endTest_27
set_option maxRecDepth 100000 in
def fX1_addValue (yjoinsF : Nat → Int32) (yoperandsF : Nat → Int32) (yvalues : Int32) (p0 : Int32) (p1 : Int32) : Int32 × (Nat → Int32) × (Nat → Int32) := if 60 ≤ yvalues then ((yvalues, yjoinsF, yoperandsF)) else (bnd ((upd yjoinsF yvalues.toNatClampNeg p0)) (fun (f2 : Nat → Int32) => bnd ((upd yoperandsF yvalues.toNatClampNeg p1)) (fun (f3 : Nat → Int32) => bnd ((yvalues + 1)) (fun (x4 : Int32) => (x4, f2, f3)))))
set_option maxHeartbeats 4000000 in
set_option maxRecDepth 100000 in
theorem mX1_addValue (l : Launch) (dC : Nat → ClassId) (dI : Nat → Nat → Nat) (kA : Nat → ClassId) (sz : Nat) (l0 : Nat) (ysorts : Nat) (ysumStarts : Nat) (ysumStops : Nat) (ytestStarts : Nat) (ytestStops : Nat) (yjoins : Nat) (yoperands : Nat) (yfactStarts : Nat) (yfactMiddles : Nat) (yfactStops : Nat) (ysigns : Nat) (ytests : Nat) (yjoinsF : Nat → Int32) (yoperandsF : Nat → Int32) (ychain : Int32) (yclauses : Int32) (yvalues : Int32) (yfacts : Int32) (ysteps : Int32) (p0 : Int32) (p1 : Int32) (nvalues : ¬ yvalues < 0) : Met l yX1_addValue wsX1_addValue ({ frames := 0, cells := 0, slots := 0, locals := 0 }) (zPc dC dI kA sz [.ref l0, .int p0, .int p1] [(l0, .inr (1, [.int ychain, .int yclauses, .ref ysorts, .ref ysumStarts, .ref ysumStops, .ref ytestStarts, .ref ytestStops, .int yvalues, .ref yjoins, .ref yoperands, .int yfacts, .ref yfactStarts, .ref yfactMiddles, .ref yfactStops, .ref ysigns, .int ysteps, .ref ytests])), (yjoins, .inl (kA 0, 60, .inl yjoinsF)), (yoperands, .inl (kA 0, 60, .inl yoperandsF))]) (va_Qv (fun (u : Int32 × (Nat → Int32) × (Nat → Int32)) => (u.1, u.2.1, u.2.2) = fX1_addValue yjoinsF yoperandsF yvalues p0 p1 ∧ ¬ u.1 < 0) (zB dC dI (va_A [(l0, .inr (1, [.int ychain, .int yclauses, .ref ysorts, .ref ysumStarts, .ref ysumStops, .ref ytestStarts, .ref ytestStops, .int yvalues, .ref yjoins, .ref yoperands, .int yfacts, .ref yfactStarts, .ref yfactMiddles, .ref yfactStops, .ref ysigns, .int ysteps, .ref ytests])), (yjoins, .inl (kA 0, 60, .inl yjoinsF)), (yoperands, .inl (kA 0, 60, .inl yoperandsF))] sz) (fun (u : Int32 × (Nat → Int32) × (Nat → Int32)) => [(l0, .inr (1, [.int ychain, .int yclauses, .ref ysorts, .ref ysumStarts, .ref ysumStops, .ref ytestStarts, .ref ytestStops, .int u.1, .ref yjoins, .ref yoperands, .int yfacts, .ref yfactStarts, .ref yfactMiddles, .ref yfactStops, .ref ysigns, .int ysteps, .ref ytests])), (yjoins, .inl (kA 0, 60, .inl u.2.1)), (yoperands, .inl (kA 0, 60, .inl u.2.2))])) (va_A [(l0, .inr (1, [.int ychain, .int yclauses, .ref ysorts, .ref ysumStarts, .ref ysumStops, .ref ytestStarts, .ref ytestStops, .int yvalues, .ref yjoins, .ref yoperands, .int yfacts, .ref yfactStarts, .ref yfactMiddles, .ref yfactStops, .ref ysigns, .int ysteps, .ref ytests])), (yjoins, .inl (kA 0, 60, .inl yjoinsF)), (yoperands, .inl (kA 0, 60, .inl yoperandsF))] sz)) 0 0 (va_A [(l0, .inr (1, [.int ychain, .int yclauses, .ref ysorts, .ref ysumStarts, .ref ysumStops, .ref ytestStarts, .ref ytestStops, .int yvalues, .ref yjoins, .ref yoperands, .int yfacts, .ref yfactStarts, .ref yfactMiddles, .ref yfactStops, .ref ysigns, .int ysteps, .ref ytests])), (yjoins, .inl (kA 0, 60, .inl yjoinsF)), (yoperands, .inl (kA 0, 60, .inl yoperandsF))] sz) := by
  refine Met.ofW (cc := cX1_addValue) (maxL := 3) (ret := none) pnX1 rfl ?_
  intro p e s m args below meth c s₁ B hml hv
  obtain ⟨rfl, hsz, hP, hK, hD0⟩ := hv
  have hx := B.exec
  have hb := B.bytes
  have hr := B.returns
  have hts := atoms_spec (ws := wsX1_addValue) B.pre
  have hown : s.vm.findClass RX1 = some m.cls := findClass_of_methodNamed B.named
  have hlocks := B.notSynchronized
  subst hsz
  have hD := hD0.self (sz := s.heap.size)
  generalize hAe : va_A [(l0, .inr (1, [.int ychain, .int yclauses, .ref ysorts, .ref ysumStarts, .ref ysumStops, .ref ytestStarts, .ref ytestStops, .int yvalues, .ref yjoins, .ref yoperands, .int yfacts, .ref yfactStarts, .ref yfactMiddles, .ref yfactStops, .ref ysigns, .int ysteps, .ref ytests])), (yjoins, .inl (kA 0, 60, .inl yjoinsF)), (yoperands, .inl (kA 0, 60, .inl yoperandsF))] s.heap.size = A at hD ⊢
  have hA : ∀ q : Nat, s.heap.size ≤ q → A q := zA_of hAe
  have hS : va_S A s.heap s.heap [] := va_S.rf
  have hP : va_P (dC, dI) vwCl [(l0, .inr (1, [.int ychain, .int yclauses, .ref ysorts, .ref ysumStarts, .ref ysumStops, .ref ytestStarts, .ref ytestStops, .int yvalues, .ref yjoins, .ref yoperands, .int yfacts, .ref yfactStarts, .ref yfactMiddles, .ref yfactStops, .ref ysigns, .int ysteps, .ref ytests])), (yjoins, .inl (kA 0, 60, .inl yjoinsF)), (yoperands, .inl (kA 0, 60, .inl yoperandsF))] s.heap := hP
  have hl := lv_entry ([.ref l0, .int p0, .int p1]) (n := 3) (Nat.le_of_ble_eq_true rfl)
  rw [lg_entry_eq]
  generalize (lg_sl ([.ref l0, .int p0, .int p1]) ++ List.replicate (3 - (lg_sl ([.ref l0, .int p0, .int p1])).length) Slot.unset).toArray = ls at hl ⊢
  have hl : lv_has ls 3 [(0, .ref l0), (1, .int p0), (2, .int p1)] := hl
  obtain ⟨G, hG0⟩ : ∃ G : Int32 × (Nat → Int32) × (Nat → Int32), fX1_addValue yjoinsF yoperandsF yvalues p0 p1 = G := ⟨_, rfl⟩
  have hG := hG0
  unfold fX1_addValue at hG
  refine lv_aload_n hx hb dX1_addValue_0 rfl (lv_at hl 0 rfl) ?_
  refine va_get (D := (dC, dI)) (ci := 1) (v := .int yvalues) (C := RX1) (T := TX1) (N := 17) hx hb hts iX1_addValue_X1 hown hK.1 hP 0 gz0 vcz1 7 (by decide) (kX1_addValue_1 hts) (fun _ h9 => h9) gz7 dX1_addValue_1 ?_
  refine lv_bipush (v := 60) hx hb dX1_addValue_4 (by decide) ?_
  refine lv_icmp_ge (tgt := 39) hx hb dX1_addValue_6 (by decide) (fun c_1 => ?_) (fun c_1 => ?_)
  · have hG := zthen hG c_1
    obtain ⟨hP9, hD9⟩ := z_sb (L' := [(l0, .inr (1, [.int ychain, .int yclauses, .ref ysorts, .ref ysumStarts, .ref ysumStops, .ref ytestStarts, .ref ytestStops, .int yvalues, .ref yjoins, .ref yoperands, .int yfacts, .ref yfactStarts, .ref yfactMiddles, .ref yfactStops, .ref ysigns, .int ysteps, .ref ytests])), (yjoins, .inl (kA 0, 60, .inl yjoinsF)), (yoperands, .inl (kA 0, 60, .inl yoperandsF))]) hP hD [0, 1, 2] (by decide) rfl
    refine W.widen (k := 0) (n := 0) (Nat.le_of_ble_eq_true rfl) (Nat.le_of_ble_eq_true rfl) ?_
    exact W.vret hx hb hr (fun t ht hW => ⟨⟨(yvalues, yjoinsF, yoperandsF), rfl, ⟨(hG.trans hG0.symm), nvalues⟩, by rw [ht]; exact hP9, hD9⟩, hS.F ht⟩) hS.2.2 dX1_addValue_39
  · have hG := zelse hG c_1
    refine lv_aload_n hx hb dX1_addValue_9 rfl (lv_at hl 0 rfl) ?_
    refine va_get (D := (dC, dI)) (ci := 1) (v := .ref yjoins) (C := RX1) (T := TX1) (N := 17) hx hb hts iX1_addValue_X1 hown hK.1 hP 0 gz0 vcz1 8 (by decide) (kX1_addValue_2 hts) (fun _ h9 => h9) gz8 dX1_addValue_10 ?_
    refine lv_aload_n hx hb dX1_addValue_13 rfl (lv_at hl 0 rfl) ?_
    refine va_get (D := (dC, dI)) (ci := 1) (v := .int yvalues) (C := RX1) (T := TX1) (N := 17) hx hb hts iX1_addValue_X1 hown hK.1 hP 0 gz0 vcz1 7 (by decide) (kX1_addValue_1 hts) (fun _ h9 => h9) gz7 dX1_addValue_14 ?_
    refine lv_iload_n hx hb dX1_addValue_17 rfl (lv_at hl 1 rfl) ?_
    refine va_iast hx hb hK.1 hP hD hS 1 0 gz1 tzz0 (vp_lt (by decide) nvalues c_1) dX1_addValue_18 (fun H locs hP hD hS => ?_)
    obtain ⟨hP, hD⟩ := z_re (L := [(l0, .inr (1, [.int ychain, .int yclauses, .ref ysorts, .ref ysumStarts, .ref ysumStops, .ref ytestStarts, .ref ytestStops, .int yvalues, .ref yjoins, .ref yoperands, .int yfacts, .ref yfactStarts, .ref yfactMiddles, .ref yfactStops, .ref ysigns, .int ysteps, .ref ytests])), (yjoins, .inl (kA 0, 60, .inl (upd yjoinsF yvalues.toNatClampNeg p0))), (yoperands, .inl (kA 0, 60, .inl yoperandsF))]) hP hD
    obtain ⟨f2, ef2⟩ : ∃ y : Nat → Int32, y = (upd yjoinsF yvalues.toNatClampNeg p0) := ⟨_, rfl⟩
    rw [← ef2] at hP hD
    have hG := zbnd hG ef2
    refine lv_aload_n hx hb dX1_addValue_19 rfl (lv_at hl 0 rfl) ?_
    refine va_get (D := (dC, dI)) (ci := 1) (v := .ref yoperands) (C := RX1) (T := TX1) (N := 17) hx hb hts iX1_addValue_X1 hown hK.1 hP 0 gz0 vcz1 9 (by decide) (kX1_addValue_3 hts) (fun _ h9 => h9) gz9 dX1_addValue_20 ?_
    refine lv_aload_n hx hb dX1_addValue_23 rfl (lv_at hl 0 rfl) ?_
    refine va_get (D := (dC, dI)) (ci := 1) (v := .int yvalues) (C := RX1) (T := TX1) (N := 17) hx hb hts iX1_addValue_X1 hown hK.1 hP 0 gz0 vcz1 7 (by decide) (kX1_addValue_1 hts) (fun _ h9 => h9) gz7 dX1_addValue_24 ?_
    refine lv_iload_n hx hb dX1_addValue_27 rfl (lv_at hl 2 rfl) ?_
    refine va_iast hx hb hK.1 hP hD hS 2 0 gz2 tzz0 (vp_lt (by decide) nvalues c_1) dX1_addValue_28 (fun H locs hP hD hS => ?_)
    obtain ⟨hP, hD⟩ := z_re (L := [(l0, .inr (1, [.int ychain, .int yclauses, .ref ysorts, .ref ysumStarts, .ref ysumStops, .ref ytestStarts, .ref ytestStops, .int yvalues, .ref yjoins, .ref yoperands, .int yfacts, .ref yfactStarts, .ref yfactMiddles, .ref yfactStops, .ref ysigns, .int ysteps, .ref ytests])), (yjoins, .inl (kA 0, 60, .inl f2)), (yoperands, .inl (kA 0, 60, .inl (upd yoperandsF yvalues.toNatClampNeg p1)))]) hP hD
    obtain ⟨f3, ef3⟩ : ∃ y : Nat → Int32, y = (upd yoperandsF yvalues.toNatClampNeg p1) := ⟨_, rfl⟩
    rw [← ef3] at hP hD
    have hG := zbnd hG ef3
    refine lv_aload_n hx hb dX1_addValue_29 rfl (lv_at hl 0 rfl) ?_
    refine lv_dup hx hb dX1_addValue_30 rfl ?_
    refine va_get (D := (dC, dI)) (ci := 1) (v := .int yvalues) (C := RX1) (T := TX1) (N := 17) hx hb hts iX1_addValue_X1 hown hK.1 hP 0 gz0 vcz1 7 (by decide) (kX1_addValue_1 hts) (fun _ h9 => h9) gz7 dX1_addValue_31 ?_
    refine lv_iconst (v := 1) hx hb dX1_addValue_34 (by decide) ?_
    refine lv_iadd hx hb dX1_addValue_35 ?_
    refine lv_topi (fun x4 ex4 => ?_)
    have hG := zbnd hG ex4
    refine va_put (D := (dC, dI)) (ci := 1) (v := .int x4) (ty := .int) (C := RX1) (T := TX1) (N := 17) hx hb hts iX1_addValue_X1 tyX1 tyX1_ok nmX1 hown hK.1 hP hD hS 0 gz0 vcz1 7 (by decide) (kX1_addValue_1 hts) (fun _ h9 => h9) rfl pfdI rfl rfl (Nat.le_of_ble_eq_true rfl) dX1_addValue_36 (fun H locs hP hD hS => ?_)
    obtain ⟨hP, hD⟩ := z_re (L := [(l0, .inr (1, [.int ychain, .int yclauses, .ref ysorts, .ref ysumStarts, .ref ysumStops, .ref ytestStarts, .ref ytestStops, .int x4, .ref yjoins, .ref yoperands, .int yfacts, .ref yfactStarts, .ref yfactMiddles, .ref yfactStops, .ref ysigns, .int ysteps, .ref ytests])), (yjoins, .inl (kA 0, 60, .inl f2)), (yoperands, .inl (kA 0, 60, .inl f3))]) hP hD
    obtain ⟨hP9, hD9⟩ := z_sb (L' := [(l0, .inr (1, [.int ychain, .int yclauses, .ref ysorts, .ref ysumStarts, .ref ysumStops, .ref ytestStarts, .ref ytestStops, .int x4, .ref yjoins, .ref yoperands, .int yfacts, .ref yfactStarts, .ref yfactMiddles, .ref yfactStops, .ref ysigns, .int ysteps, .ref ytests])), (yjoins, .inl (kA 0, 60, .inl f2)), (yoperands, .inl (kA 0, 60, .inl f3))]) hP hD [0, 1, 2] (by decide) rfl
    refine W.widen (k := 0) (n := 0) (Nat.le_of_ble_eq_true rfl) (Nat.le_of_ble_eq_true rfl) ?_
    exact W.vret hx hb hr (fun t ht hW => ⟨⟨(x4, f2, f3), rfl, ⟨(hG.trans hG0.symm), (z_nn ex4 c_1 nvalues)⟩, by rw [ht]; exact hP9, hD9⟩, hS.F ht⟩) hS.2.2 dX1_addValue_39
set_option maxRecDepth 100000 in
def fX1_addStep (ytestsF : Nat → Int32) (ysteps : Int32) (p0 : Int32) : Int32 × (Nat → Int32) := if 256 ≤ ysteps then ((ysteps, ytestsF)) else (bnd ((upd ytestsF ysteps.toNatClampNeg p0)) (fun (f2 : Nat → Int32) => bnd ((ysteps + 1)) (fun (x3 : Int32) => (x3, f2))))
set_option maxHeartbeats 4000000 in
set_option maxRecDepth 100000 in
theorem mX1_addStep (l : Launch) (dC : Nat → ClassId) (dI : Nat → Nat → Nat) (kA : Nat → ClassId) (sz : Nat) (l0 : Nat) (ysorts : Nat) (ysumStarts : Nat) (ysumStops : Nat) (ytestStarts : Nat) (ytestStops : Nat) (yjoins : Nat) (yoperands : Nat) (yfactStarts : Nat) (yfactMiddles : Nat) (yfactStops : Nat) (ysigns : Nat) (ytests : Nat) (ytestsF : Nat → Int32) (ychain : Int32) (yclauses : Int32) (yvalues : Int32) (yfacts : Int32) (ysteps : Int32) (p0 : Int32) (nsteps : ¬ ysteps < 0) : Met l yX1_addStep wsX1_addStep ({ frames := 0, cells := 0, slots := 0, locals := 0 }) (zPc dC dI kA sz [.ref l0, .int p0] [(l0, .inr (1, [.int ychain, .int yclauses, .ref ysorts, .ref ysumStarts, .ref ysumStops, .ref ytestStarts, .ref ytestStops, .int yvalues, .ref yjoins, .ref yoperands, .int yfacts, .ref yfactStarts, .ref yfactMiddles, .ref yfactStops, .ref ysigns, .int ysteps, .ref ytests])), (ytests, .inl (kA 0, 256, .inl ytestsF))]) (va_Qv (fun (u : Int32 × (Nat → Int32)) => (u.1, u.2) = fX1_addStep ytestsF ysteps p0 ∧ ¬ u.1 < 0) (zB dC dI (va_A [(l0, .inr (1, [.int ychain, .int yclauses, .ref ysorts, .ref ysumStarts, .ref ysumStops, .ref ytestStarts, .ref ytestStops, .int yvalues, .ref yjoins, .ref yoperands, .int yfacts, .ref yfactStarts, .ref yfactMiddles, .ref yfactStops, .ref ysigns, .int ysteps, .ref ytests])), (ytests, .inl (kA 0, 256, .inl ytestsF))] sz) (fun (u : Int32 × (Nat → Int32)) => [(l0, .inr (1, [.int ychain, .int yclauses, .ref ysorts, .ref ysumStarts, .ref ysumStops, .ref ytestStarts, .ref ytestStops, .int yvalues, .ref yjoins, .ref yoperands, .int yfacts, .ref yfactStarts, .ref yfactMiddles, .ref yfactStops, .ref ysigns, .int u.1, .ref ytests])), (ytests, .inl (kA 0, 256, .inl u.2))])) (va_A [(l0, .inr (1, [.int ychain, .int yclauses, .ref ysorts, .ref ysumStarts, .ref ysumStops, .ref ytestStarts, .ref ytestStops, .int yvalues, .ref yjoins, .ref yoperands, .int yfacts, .ref yfactStarts, .ref yfactMiddles, .ref yfactStops, .ref ysigns, .int ysteps, .ref ytests])), (ytests, .inl (kA 0, 256, .inl ytestsF))] sz)) 0 0 (va_A [(l0, .inr (1, [.int ychain, .int yclauses, .ref ysorts, .ref ysumStarts, .ref ysumStops, .ref ytestStarts, .ref ytestStops, .int yvalues, .ref yjoins, .ref yoperands, .int yfacts, .ref yfactStarts, .ref yfactMiddles, .ref yfactStops, .ref ysigns, .int ysteps, .ref ytests])), (ytests, .inl (kA 0, 256, .inl ytestsF))] sz) := by
  refine Met.ofW (cc := cX1_addStep) (maxL := 2) (ret := none) pnX1 rfl ?_
  intro p e s m args below meth c s₁ B hml hv
  obtain ⟨rfl, hsz, hP, hK, hD0⟩ := hv
  have hx := B.exec
  have hb := B.bytes
  have hr := B.returns
  have hts := atoms_spec (ws := wsX1_addStep) B.pre
  have hown : s.vm.findClass RX1 = some m.cls := findClass_of_methodNamed B.named
  have hlocks := B.notSynchronized
  subst hsz
  have hD := hD0.self (sz := s.heap.size)
  generalize hAe : va_A [(l0, .inr (1, [.int ychain, .int yclauses, .ref ysorts, .ref ysumStarts, .ref ysumStops, .ref ytestStarts, .ref ytestStops, .int yvalues, .ref yjoins, .ref yoperands, .int yfacts, .ref yfactStarts, .ref yfactMiddles, .ref yfactStops, .ref ysigns, .int ysteps, .ref ytests])), (ytests, .inl (kA 0, 256, .inl ytestsF))] s.heap.size = A at hD ⊢
  have hA : ∀ q : Nat, s.heap.size ≤ q → A q := zA_of hAe
  have hS : va_S A s.heap s.heap [] := va_S.rf
  have hP : va_P (dC, dI) vwCl [(l0, .inr (1, [.int ychain, .int yclauses, .ref ysorts, .ref ysumStarts, .ref ysumStops, .ref ytestStarts, .ref ytestStops, .int yvalues, .ref yjoins, .ref yoperands, .int yfacts, .ref yfactStarts, .ref yfactMiddles, .ref yfactStops, .ref ysigns, .int ysteps, .ref ytests])), (ytests, .inl (kA 0, 256, .inl ytestsF))] s.heap := hP
  have hl := lv_entry ([.ref l0, .int p0]) (n := 2) (Nat.le_of_ble_eq_true rfl)
  rw [lg_entry_eq]
  generalize (lg_sl ([.ref l0, .int p0]) ++ List.replicate (2 - (lg_sl ([.ref l0, .int p0])).length) Slot.unset).toArray = ls at hl ⊢
  have hl : lv_has ls 2 [(0, .ref l0), (1, .int p0)] := hl
  obtain ⟨G, hG0⟩ : ∃ G : Int32 × (Nat → Int32), fX1_addStep ytestsF ysteps p0 = G := ⟨_, rfl⟩
  have hG := hG0
  unfold fX1_addStep at hG
  refine lv_aload_n hx hb dX1_addStep_0 rfl (lv_at hl 0 rfl) ?_
  refine va_get (D := (dC, dI)) (ci := 1) (v := .int ysteps) (C := RX1) (T := TX1) (N := 17) hx hb hts iX1_addStep_X1 hown hK.1 hP 0 gz0 vcz1 15 (by decide) (kX1_addStep_1 hts) (fun _ h9 => h9) gz15 dX1_addStep_1 ?_
  refine lv_sipush (v := 256) hx hb dX1_addStep_4 (by decide) ?_
  refine lv_icmp_ge (tgt := 30) hx hb dX1_addStep_7 (by decide) (fun c_1 => ?_) (fun c_1 => ?_)
  · have hG := zthen hG c_1
    obtain ⟨hP9, hD9⟩ := z_sb (L' := [(l0, .inr (1, [.int ychain, .int yclauses, .ref ysorts, .ref ysumStarts, .ref ysumStops, .ref ytestStarts, .ref ytestStops, .int yvalues, .ref yjoins, .ref yoperands, .int yfacts, .ref yfactStarts, .ref yfactMiddles, .ref yfactStops, .ref ysigns, .int ysteps, .ref ytests])), (ytests, .inl (kA 0, 256, .inl ytestsF))]) hP hD [0, 1] (by decide) rfl
    refine W.widen (k := 0) (n := 0) (Nat.le_of_ble_eq_true rfl) (Nat.le_of_ble_eq_true rfl) ?_
    exact W.vret hx hb hr (fun t ht hW => ⟨⟨(ysteps, ytestsF), rfl, ⟨(hG.trans hG0.symm), nsteps⟩, by rw [ht]; exact hP9, hD9⟩, hS.F ht⟩) hS.2.2 dX1_addStep_30
  · have hG := zelse hG c_1
    refine lv_aload_n hx hb dX1_addStep_10 rfl (lv_at hl 0 rfl) ?_
    refine va_get (D := (dC, dI)) (ci := 1) (v := .ref ytests) (C := RX1) (T := TX1) (N := 17) hx hb hts iX1_addStep_X1 hown hK.1 hP 0 gz0 vcz1 16 (by decide) (kX1_addStep_2 hts) (fun _ h9 => h9) gz16 dX1_addStep_11 ?_
    refine lv_aload_n hx hb dX1_addStep_14 rfl (lv_at hl 0 rfl) ?_
    refine va_get (D := (dC, dI)) (ci := 1) (v := .int ysteps) (C := RX1) (T := TX1) (N := 17) hx hb hts iX1_addStep_X1 hown hK.1 hP 0 gz0 vcz1 15 (by decide) (kX1_addStep_1 hts) (fun _ h9 => h9) gz15 dX1_addStep_15 ?_
    refine lv_iload_n hx hb dX1_addStep_18 rfl (lv_at hl 1 rfl) ?_
    refine va_iast hx hb hK.1 hP hD hS 1 0 gz1 tzz0 (vp_lt (by decide) nsteps c_1) dX1_addStep_19 (fun H locs hP hD hS => ?_)
    obtain ⟨hP, hD⟩ := z_re (L := [(l0, .inr (1, [.int ychain, .int yclauses, .ref ysorts, .ref ysumStarts, .ref ysumStops, .ref ytestStarts, .ref ytestStops, .int yvalues, .ref yjoins, .ref yoperands, .int yfacts, .ref yfactStarts, .ref yfactMiddles, .ref yfactStops, .ref ysigns, .int ysteps, .ref ytests])), (ytests, .inl (kA 0, 256, .inl (upd ytestsF ysteps.toNatClampNeg p0)))]) hP hD
    obtain ⟨f2, ef2⟩ : ∃ y : Nat → Int32, y = (upd ytestsF ysteps.toNatClampNeg p0) := ⟨_, rfl⟩
    rw [← ef2] at hP hD
    have hG := zbnd hG ef2
    refine lv_aload_n hx hb dX1_addStep_20 rfl (lv_at hl 0 rfl) ?_
    refine lv_dup hx hb dX1_addStep_21 rfl ?_
    refine va_get (D := (dC, dI)) (ci := 1) (v := .int ysteps) (C := RX1) (T := TX1) (N := 17) hx hb hts iX1_addStep_X1 hown hK.1 hP 0 gz0 vcz1 15 (by decide) (kX1_addStep_1 hts) (fun _ h9 => h9) gz15 dX1_addStep_22 ?_
    refine lv_iconst (v := 1) hx hb dX1_addStep_25 (by decide) ?_
    refine lv_iadd hx hb dX1_addStep_26 ?_
    refine lv_topi (fun x3 ex3 => ?_)
    have hG := zbnd hG ex3
    refine va_put (D := (dC, dI)) (ci := 1) (v := .int x3) (ty := .int) (C := RX1) (T := TX1) (N := 17) hx hb hts iX1_addStep_X1 tyX1 tyX1_ok nmX1 hown hK.1 hP hD hS 0 gz0 vcz1 15 (by decide) (kX1_addStep_1 hts) (fun _ h9 => h9) rfl pfdI rfl rfl (Nat.le_of_ble_eq_true rfl) dX1_addStep_27 (fun H locs hP hD hS => ?_)
    obtain ⟨hP, hD⟩ := z_re (L := [(l0, .inr (1, [.int ychain, .int yclauses, .ref ysorts, .ref ysumStarts, .ref ysumStops, .ref ytestStarts, .ref ytestStops, .int yvalues, .ref yjoins, .ref yoperands, .int yfacts, .ref yfactStarts, .ref yfactMiddles, .ref yfactStops, .ref ysigns, .int x3, .ref ytests])), (ytests, .inl (kA 0, 256, .inl f2))]) hP hD
    obtain ⟨hP9, hD9⟩ := z_sb (L' := [(l0, .inr (1, [.int ychain, .int yclauses, .ref ysorts, .ref ysumStarts, .ref ysumStops, .ref ytestStarts, .ref ytestStops, .int yvalues, .ref yjoins, .ref yoperands, .int yfacts, .ref yfactStarts, .ref yfactMiddles, .ref yfactStops, .ref ysigns, .int x3, .ref ytests])), (ytests, .inl (kA 0, 256, .inl f2))]) hP hD [0, 1] (by decide) rfl
    refine W.widen (k := 0) (n := 0) (Nat.le_of_ble_eq_true rfl) (Nat.le_of_ble_eq_true rfl) ?_
    exact W.vret hx hb hr (fun t ht hW => ⟨⟨(x3, f2), rfl, ⟨(hG.trans hG0.symm), (z_nn ex3 c_1 nsteps)⟩, by rw [ht]; exact hP9, hD9⟩, hS.F ht⟩) hS.2.2 dX1_addStep_30
set_option maxRecDepth 100000 in
def fX1_addFact (yfactStartsF : Nat → Int32) (yfactMiddlesF : Nat → Int32) (yfactStopsF : Nat → Int32) (ysignsF : Nat → Int32) (ytestsF : Nat → Int32) (yvalues : Int32) (yfacts : Int32) (ysteps : Int32) (p0 : Int32) (p1 : Int32) (p2 : Int32) : Int32 × Int32 × (Nat → Int32) × (Nat → Int32) × (Nat → Int32) × (Nat → Int32) × (Nat → Int32) := if 20 ≤ yfacts then ((yfacts, ysteps, yfactStartsF, yfactMiddlesF, yfactStopsF, ysignsF, ytestsF)) else (bnd ((upd yfactStartsF yfacts.toNatClampNeg p0)) (fun (f2 : Nat → Int32) => bnd ((upd yfactMiddlesF yfacts.toNatClampNeg p1)) (fun (f3 : Nat → Int32) => bnd ((upd yfactStopsF yfacts.toNatClampNeg yvalues)) (fun (f4 : Nat → Int32) => bnd ((upd ysignsF yfacts.toNatClampNeg p2)) (fun (f5 : Nat → Int32) => bnd (fX1_addStep ytestsF ysteps yfacts) (fun (q13 : Int32 × (Nat → Int32)) => bnd (q13.1) (fun (o9 : Int32) => bnd (q13.2) (fun (o10 : Nat → Int32) => bnd ((yfacts + 1)) (fun (x14 : Int32) => (x14, o9, f2, f3, f4, f5, o10))))))))))
set_option maxHeartbeats 4000000 in
set_option maxRecDepth 100000 in
theorem mX1_addFact (l : Launch) (dC : Nat → ClassId) (dI : Nat → Nat → Nat) (kA : Nat → ClassId) (sz : Nat) (l0 : Nat) (ysorts : Nat) (ysumStarts : Nat) (ysumStops : Nat) (ytestStarts : Nat) (ytestStops : Nat) (yjoins : Nat) (yoperands : Nat) (yfactStarts : Nat) (yfactMiddles : Nat) (yfactStops : Nat) (ysigns : Nat) (ytests : Nat) (yfactStartsF : Nat → Int32) (yfactMiddlesF : Nat → Int32) (yfactStopsF : Nat → Int32) (ysignsF : Nat → Int32) (ytestsF : Nat → Int32) (ychain : Int32) (yclauses : Int32) (yvalues : Int32) (yfacts : Int32) (ysteps : Int32) (p0 : Int32) (p1 : Int32) (p2 : Int32) (nfacts : ¬ yfacts < 0) (nsteps : ¬ ysteps < 0) : Met l yX1_addFact wsX1_addFact ({ frames := 1, cells := 0, slots := 0, locals := 21 }) (zPc dC dI kA sz [.ref l0, .int p0, .int p1, .int p2] [(l0, .inr (1, [.int ychain, .int yclauses, .ref ysorts, .ref ysumStarts, .ref ysumStops, .ref ytestStarts, .ref ytestStops, .int yvalues, .ref yjoins, .ref yoperands, .int yfacts, .ref yfactStarts, .ref yfactMiddles, .ref yfactStops, .ref ysigns, .int ysteps, .ref ytests])), (yfactStarts, .inl (kA 0, 20, .inl yfactStartsF)), (yfactMiddles, .inl (kA 0, 20, .inl yfactMiddlesF)), (yfactStops, .inl (kA 0, 20, .inl yfactStopsF)), (ysigns, .inl (kA 0, 20, .inl ysignsF)), (ytests, .inl (kA 0, 256, .inl ytestsF))]) (va_Qv (fun (u : Int32 × Int32 × (Nat → Int32) × (Nat → Int32) × (Nat → Int32) × (Nat → Int32) × (Nat → Int32)) => (u.1, u.2.1, u.2.2.1, u.2.2.2.1, u.2.2.2.2.1, u.2.2.2.2.2.1, u.2.2.2.2.2.2) = fX1_addFact yfactStartsF yfactMiddlesF yfactStopsF ysignsF ytestsF yvalues yfacts ysteps p0 p1 p2 ∧ ¬ u.1 < 0 ∧ ¬ u.2.1 < 0) (zB dC dI (va_A [(l0, .inr (1, [.int ychain, .int yclauses, .ref ysorts, .ref ysumStarts, .ref ysumStops, .ref ytestStarts, .ref ytestStops, .int yvalues, .ref yjoins, .ref yoperands, .int yfacts, .ref yfactStarts, .ref yfactMiddles, .ref yfactStops, .ref ysigns, .int ysteps, .ref ytests])), (yfactStarts, .inl (kA 0, 20, .inl yfactStartsF)), (yfactMiddles, .inl (kA 0, 20, .inl yfactMiddlesF)), (yfactStops, .inl (kA 0, 20, .inl yfactStopsF)), (ysigns, .inl (kA 0, 20, .inl ysignsF)), (ytests, .inl (kA 0, 256, .inl ytestsF))] sz) (fun (u : Int32 × Int32 × (Nat → Int32) × (Nat → Int32) × (Nat → Int32) × (Nat → Int32) × (Nat → Int32)) => [(l0, .inr (1, [.int ychain, .int yclauses, .ref ysorts, .ref ysumStarts, .ref ysumStops, .ref ytestStarts, .ref ytestStops, .int yvalues, .ref yjoins, .ref yoperands, .int u.1, .ref yfactStarts, .ref yfactMiddles, .ref yfactStops, .ref ysigns, .int u.2.1, .ref ytests])), (yfactStarts, .inl (kA 0, 20, .inl u.2.2.1)), (yfactMiddles, .inl (kA 0, 20, .inl u.2.2.2.1)), (yfactStops, .inl (kA 0, 20, .inl u.2.2.2.2.1)), (ysigns, .inl (kA 0, 20, .inl u.2.2.2.2.2.1)), (ytests, .inl (kA 0, 256, .inl u.2.2.2.2.2.2))])) (va_A [(l0, .inr (1, [.int ychain, .int yclauses, .ref ysorts, .ref ysumStarts, .ref ysumStops, .ref ytestStarts, .ref ytestStops, .int yvalues, .ref yjoins, .ref yoperands, .int yfacts, .ref yfactStarts, .ref yfactMiddles, .ref yfactStops, .ref ysigns, .int ysteps, .ref ytests])), (yfactStarts, .inl (kA 0, 20, .inl yfactStartsF)), (yfactMiddles, .inl (kA 0, 20, .inl yfactMiddlesF)), (yfactStops, .inl (kA 0, 20, .inl yfactStopsF)), (ysigns, .inl (kA 0, 20, .inl ysignsF)), (ytests, .inl (kA 0, 256, .inl ytestsF))] sz)) 0 0 (va_A [(l0, .inr (1, [.int ychain, .int yclauses, .ref ysorts, .ref ysumStarts, .ref ysumStops, .ref ytestStarts, .ref ytestStops, .int yvalues, .ref yjoins, .ref yoperands, .int yfacts, .ref yfactStarts, .ref yfactMiddles, .ref yfactStops, .ref ysigns, .int ysteps, .ref ytests])), (yfactStarts, .inl (kA 0, 20, .inl yfactStartsF)), (yfactMiddles, .inl (kA 0, 20, .inl yfactMiddlesF)), (yfactStops, .inl (kA 0, 20, .inl yfactStopsF)), (ysigns, .inl (kA 0, 20, .inl ysignsF)), (ytests, .inl (kA 0, 256, .inl ytestsF))] sz) := by
  refine Met.ofW (cc := cX1_addFact) (maxL := 4) (ret := none) pnX1 rfl ?_
  intro p e s m args below meth c s₁ B hml hv
  obtain ⟨rfl, hsz, hP, hK, hD0⟩ := hv
  have hx := B.exec
  have hb := B.bytes
  have hr := B.returns
  have hts := atoms_spec (ws := wsX1_addFact) B.pre
  have hown : s.vm.findClass RX1 = some m.cls := findClass_of_methodNamed B.named
  have hlocks := B.notSynchronized
  subst hsz
  have hD := hD0.self (sz := s.heap.size)
  generalize hAe : va_A [(l0, .inr (1, [.int ychain, .int yclauses, .ref ysorts, .ref ysumStarts, .ref ysumStops, .ref ytestStarts, .ref ytestStops, .int yvalues, .ref yjoins, .ref yoperands, .int yfacts, .ref yfactStarts, .ref yfactMiddles, .ref yfactStops, .ref ysigns, .int ysteps, .ref ytests])), (yfactStarts, .inl (kA 0, 20, .inl yfactStartsF)), (yfactMiddles, .inl (kA 0, 20, .inl yfactMiddlesF)), (yfactStops, .inl (kA 0, 20, .inl yfactStopsF)), (ysigns, .inl (kA 0, 20, .inl ysignsF)), (ytests, .inl (kA 0, 256, .inl ytestsF))] s.heap.size = A at hD ⊢
  have hA : ∀ q : Nat, s.heap.size ≤ q → A q := zA_of hAe
  have hS : va_S A s.heap s.heap [] := va_S.rf
  have hP : va_P (dC, dI) vwCl [(l0, .inr (1, [.int ychain, .int yclauses, .ref ysorts, .ref ysumStarts, .ref ysumStops, .ref ytestStarts, .ref ytestStops, .int yvalues, .ref yjoins, .ref yoperands, .int yfacts, .ref yfactStarts, .ref yfactMiddles, .ref yfactStops, .ref ysigns, .int ysteps, .ref ytests])), (yfactStarts, .inl (kA 0, 20, .inl yfactStartsF)), (yfactMiddles, .inl (kA 0, 20, .inl yfactMiddlesF)), (yfactStops, .inl (kA 0, 20, .inl yfactStopsF)), (ysigns, .inl (kA 0, 20, .inl ysignsF)), (ytests, .inl (kA 0, 256, .inl ytestsF))] s.heap := hP
  have hl := lv_entry ([.ref l0, .int p0, .int p1, .int p2]) (n := 4) (Nat.le_of_ble_eq_true rfl)
  rw [lg_entry_eq]
  generalize (lg_sl ([.ref l0, .int p0, .int p1, .int p2]) ++ List.replicate (4 - (lg_sl ([.ref l0, .int p0, .int p1, .int p2])).length) Slot.unset).toArray = ls at hl ⊢
  have hl : lv_has ls 4 [(0, .ref l0), (1, .int p0), (2, .int p1), (3, .int p2)] := hl
  obtain ⟨G, hG0⟩ : ∃ G : Int32 × Int32 × (Nat → Int32) × (Nat → Int32) × (Nat → Int32) × (Nat → Int32) × (Nat → Int32), fX1_addFact yfactStartsF yfactMiddlesF yfactStopsF ysignsF ytestsF yvalues yfacts ysteps p0 p1 p2 = G := ⟨_, rfl⟩
  have hG := hG0
  unfold fX1_addFact at hG
  refine lv_aload_n hx hb dX1_addFact_0 rfl (lv_at hl 0 rfl) ?_
  refine va_get (D := (dC, dI)) (ci := 1) (v := .int yfacts) (C := RX1) (T := TX1) (N := 17) hx hb hts iX1_addFact_X1 hown hK.1 hP 0 gz0 vcz1 10 (by decide) (kX1_addFact_1 hts) (fun _ h9 => h9) gz10 dX1_addFact_1 ?_
  refine lv_bipush (v := 20) hx hb dX1_addFact_4 (by decide) ?_
  refine lv_icmp_ge (tgt := 70) hx hb dX1_addFact_6 (by decide) (fun c_1 => ?_) (fun c_1 => ?_)
  · have hG := zthen hG c_1
    obtain ⟨hP9, hD9⟩ := z_sb (L' := [(l0, .inr (1, [.int ychain, .int yclauses, .ref ysorts, .ref ysumStarts, .ref ysumStops, .ref ytestStarts, .ref ytestStops, .int yvalues, .ref yjoins, .ref yoperands, .int yfacts, .ref yfactStarts, .ref yfactMiddles, .ref yfactStops, .ref ysigns, .int ysteps, .ref ytests])), (yfactStarts, .inl (kA 0, 20, .inl yfactStartsF)), (yfactMiddles, .inl (kA 0, 20, .inl yfactMiddlesF)), (yfactStops, .inl (kA 0, 20, .inl yfactStopsF)), (ysigns, .inl (kA 0, 20, .inl ysignsF)), (ytests, .inl (kA 0, 256, .inl ytestsF))]) hP hD [0, 1, 2, 3, 4, 5] (by decide) rfl
    refine W.widen (k := 0) (n := 0) (Nat.le_of_ble_eq_true rfl) (Nat.le_of_ble_eq_true rfl) ?_
    exact W.vret hx hb hr (fun t ht hW => ⟨⟨(yfacts, ysteps, yfactStartsF, yfactMiddlesF, yfactStopsF, ysignsF, ytestsF), rfl, ⟨(hG.trans hG0.symm), nfacts, nsteps⟩, by rw [ht]; exact hP9, hD9⟩, hS.F ht⟩) hS.2.2 dX1_addFact_70
  · have hG := zelse hG c_1
    refine lv_aload_n hx hb dX1_addFact_9 rfl (lv_at hl 0 rfl) ?_
    refine va_get (D := (dC, dI)) (ci := 1) (v := .ref yfactStarts) (C := RX1) (T := TX1) (N := 17) hx hb hts iX1_addFact_X1 hown hK.1 hP 0 gz0 vcz1 11 (by decide) (kX1_addFact_2 hts) (fun _ h9 => h9) gz11 dX1_addFact_10 ?_
    refine lv_aload_n hx hb dX1_addFact_13 rfl (lv_at hl 0 rfl) ?_
    refine va_get (D := (dC, dI)) (ci := 1) (v := .int yfacts) (C := RX1) (T := TX1) (N := 17) hx hb hts iX1_addFact_X1 hown hK.1 hP 0 gz0 vcz1 10 (by decide) (kX1_addFact_1 hts) (fun _ h9 => h9) gz10 dX1_addFact_14 ?_
    refine lv_iload_n hx hb dX1_addFact_17 rfl (lv_at hl 1 rfl) ?_
    refine va_iast hx hb hK.1 hP hD hS 1 0 gz1 tzz0 (vp_lt (by decide) nfacts c_1) dX1_addFact_18 (fun H locs hP hD hS => ?_)
    obtain ⟨hP, hD⟩ := z_re (L := [(l0, .inr (1, [.int ychain, .int yclauses, .ref ysorts, .ref ysumStarts, .ref ysumStops, .ref ytestStarts, .ref ytestStops, .int yvalues, .ref yjoins, .ref yoperands, .int yfacts, .ref yfactStarts, .ref yfactMiddles, .ref yfactStops, .ref ysigns, .int ysteps, .ref ytests])), (yfactStarts, .inl (kA 0, 20, .inl (upd yfactStartsF yfacts.toNatClampNeg p0))), (yfactMiddles, .inl (kA 0, 20, .inl yfactMiddlesF)), (yfactStops, .inl (kA 0, 20, .inl yfactStopsF)), (ysigns, .inl (kA 0, 20, .inl ysignsF)), (ytests, .inl (kA 0, 256, .inl ytestsF))]) hP hD
    obtain ⟨f2, ef2⟩ : ∃ y : Nat → Int32, y = (upd yfactStartsF yfacts.toNatClampNeg p0) := ⟨_, rfl⟩
    rw [← ef2] at hP hD
    have hG := zbnd hG ef2
    refine lv_aload_n hx hb dX1_addFact_19 rfl (lv_at hl 0 rfl) ?_
    refine va_get (D := (dC, dI)) (ci := 1) (v := .ref yfactMiddles) (C := RX1) (T := TX1) (N := 17) hx hb hts iX1_addFact_X1 hown hK.1 hP 0 gz0 vcz1 12 (by decide) (kX1_addFact_3 hts) (fun _ h9 => h9) gz12 dX1_addFact_20 ?_
    refine lv_aload_n hx hb dX1_addFact_23 rfl (lv_at hl 0 rfl) ?_
    refine va_get (D := (dC, dI)) (ci := 1) (v := .int yfacts) (C := RX1) (T := TX1) (N := 17) hx hb hts iX1_addFact_X1 hown hK.1 hP 0 gz0 vcz1 10 (by decide) (kX1_addFact_1 hts) (fun _ h9 => h9) gz10 dX1_addFact_24 ?_
    refine lv_iload_n hx hb dX1_addFact_27 rfl (lv_at hl 2 rfl) ?_
    refine va_iast hx hb hK.1 hP hD hS 2 0 gz2 tzz0 (vp_lt (by decide) nfacts c_1) dX1_addFact_28 (fun H locs hP hD hS => ?_)
    obtain ⟨hP, hD⟩ := z_re (L := [(l0, .inr (1, [.int ychain, .int yclauses, .ref ysorts, .ref ysumStarts, .ref ysumStops, .ref ytestStarts, .ref ytestStops, .int yvalues, .ref yjoins, .ref yoperands, .int yfacts, .ref yfactStarts, .ref yfactMiddles, .ref yfactStops, .ref ysigns, .int ysteps, .ref ytests])), (yfactStarts, .inl (kA 0, 20, .inl f2)), (yfactMiddles, .inl (kA 0, 20, .inl (upd yfactMiddlesF yfacts.toNatClampNeg p1))), (yfactStops, .inl (kA 0, 20, .inl yfactStopsF)), (ysigns, .inl (kA 0, 20, .inl ysignsF)), (ytests, .inl (kA 0, 256, .inl ytestsF))]) hP hD
    obtain ⟨f3, ef3⟩ : ∃ y : Nat → Int32, y = (upd yfactMiddlesF yfacts.toNatClampNeg p1) := ⟨_, rfl⟩
    rw [← ef3] at hP hD
    have hG := zbnd hG ef3
    refine lv_aload_n hx hb dX1_addFact_29 rfl (lv_at hl 0 rfl) ?_
    refine va_get (D := (dC, dI)) (ci := 1) (v := .ref yfactStops) (C := RX1) (T := TX1) (N := 17) hx hb hts iX1_addFact_X1 hown hK.1 hP 0 gz0 vcz1 13 (by decide) (kX1_addFact_4 hts) (fun _ h9 => h9) gz13 dX1_addFact_30 ?_
    refine lv_aload_n hx hb dX1_addFact_33 rfl (lv_at hl 0 rfl) ?_
    refine va_get (D := (dC, dI)) (ci := 1) (v := .int yfacts) (C := RX1) (T := TX1) (N := 17) hx hb hts iX1_addFact_X1 hown hK.1 hP 0 gz0 vcz1 10 (by decide) (kX1_addFact_1 hts) (fun _ h9 => h9) gz10 dX1_addFact_34 ?_
    refine lv_aload_n hx hb dX1_addFact_37 rfl (lv_at hl 0 rfl) ?_
    refine va_get (D := (dC, dI)) (ci := 1) (v := .int yvalues) (C := RX1) (T := TX1) (N := 17) hx hb hts iX1_addFact_X1 hown hK.1 hP 0 gz0 vcz1 7 (by decide) (kX1_addFact_5 hts) (fun _ h9 => h9) gz7 dX1_addFact_38 ?_
    refine va_iast hx hb hK.1 hP hD hS 3 0 gz3 tzz0 (vp_lt (by decide) nfacts c_1) dX1_addFact_41 (fun H locs hP hD hS => ?_)
    obtain ⟨hP, hD⟩ := z_re (L := [(l0, .inr (1, [.int ychain, .int yclauses, .ref ysorts, .ref ysumStarts, .ref ysumStops, .ref ytestStarts, .ref ytestStops, .int yvalues, .ref yjoins, .ref yoperands, .int yfacts, .ref yfactStarts, .ref yfactMiddles, .ref yfactStops, .ref ysigns, .int ysteps, .ref ytests])), (yfactStarts, .inl (kA 0, 20, .inl f2)), (yfactMiddles, .inl (kA 0, 20, .inl f3)), (yfactStops, .inl (kA 0, 20, .inl (upd yfactStopsF yfacts.toNatClampNeg yvalues))), (ysigns, .inl (kA 0, 20, .inl ysignsF)), (ytests, .inl (kA 0, 256, .inl ytestsF))]) hP hD
    obtain ⟨f4, ef4⟩ : ∃ y : Nat → Int32, y = (upd yfactStopsF yfacts.toNatClampNeg yvalues) := ⟨_, rfl⟩
    rw [← ef4] at hP hD
    have hG := zbnd hG ef4
    refine lv_aload_n hx hb dX1_addFact_42 rfl (lv_at hl 0 rfl) ?_
    refine va_get (D := (dC, dI)) (ci := 1) (v := .ref ysigns) (C := RX1) (T := TX1) (N := 17) hx hb hts iX1_addFact_X1 hown hK.1 hP 0 gz0 vcz1 14 (by decide) (kX1_addFact_6 hts) (fun _ h9 => h9) gz14 dX1_addFact_43 ?_
    refine lv_aload_n hx hb dX1_addFact_46 rfl (lv_at hl 0 rfl) ?_
    refine va_get (D := (dC, dI)) (ci := 1) (v := .int yfacts) (C := RX1) (T := TX1) (N := 17) hx hb hts iX1_addFact_X1 hown hK.1 hP 0 gz0 vcz1 10 (by decide) (kX1_addFact_1 hts) (fun _ h9 => h9) gz10 dX1_addFact_47 ?_
    refine lv_iload_n hx hb dX1_addFact_50 rfl (lv_at hl 3 rfl) ?_
    refine va_iast hx hb hK.1 hP hD hS 4 0 gz4 tzz0 (vp_lt (by decide) nfacts c_1) dX1_addFact_51 (fun H locs hP hD hS => ?_)
    obtain ⟨hP, hD⟩ := z_re (L := [(l0, .inr (1, [.int ychain, .int yclauses, .ref ysorts, .ref ysumStarts, .ref ysumStops, .ref ytestStarts, .ref ytestStops, .int yvalues, .ref yjoins, .ref yoperands, .int yfacts, .ref yfactStarts, .ref yfactMiddles, .ref yfactStops, .ref ysigns, .int ysteps, .ref ytests])), (yfactStarts, .inl (kA 0, 20, .inl f2)), (yfactMiddles, .inl (kA 0, 20, .inl f3)), (yfactStops, .inl (kA 0, 20, .inl f4)), (ysigns, .inl (kA 0, 20, .inl (upd ysignsF yfacts.toNatClampNeg p2))), (ytests, .inl (kA 0, 256, .inl ytestsF))]) hP hD
    obtain ⟨f5, ef5⟩ : ∃ y : Nat → Int32, y = (upd ysignsF yfacts.toNatClampNeg p2) := ⟨_, rfl⟩
    rw [← ef5] at hP hD
    have hG := zbnd hG ef5
    refine lv_aload_n hx hb dX1_addFact_52 rfl (lv_at hl 0 rfl) ?_
    refine lv_aload_n hx hb dX1_addFact_53 rfl (lv_at hl 0 rfl) ?_
    refine va_get (D := (dC, dI)) (ci := 1) (v := .int yfacts) (C := RX1) (T := TX1) (N := 17) hx hb hts iX1_addFact_X1 hown hK.1 hP 0 gz0 vcz1 10 (by decide) (kX1_addFact_1 hts) (fun _ h9 => h9) gz10 dX1_addFact_54 ?_
    refine z_v (wr := [(yfactStarts, .inl (kA 0, 20, .inl f2)), (yfactMiddles, .inl (kA 0, 20, .inl f3)), (yfactStops, .inl (kA 0, 20, .inl f4)), (ysigns, .inl (kA 0, 20, .inl f5))]) (va_runV (As := [.int yfacts]) (rest := []) ⟨hx, hb, hml, hown, hts⟩ (mX1_addStep l dC dI kA _ l0 ysorts ysumStarts ysumStops ytestStarts ytestStops yjoins yoperands yfactStarts yfactMiddles yfactStops ysigns ytests ytestsF ychain yclauses yvalues yfacts ysteps yfacts nsteps) (cwV 1 hts gX1_addFact_X1_addStep rfl rfl rfl ⟨rfl, hdX1_addStep⟩ ⟨(Nat.le_of_ble_eq_true rfl), (Nat.le_of_ble_eq_true rfl)⟩) ⟨zPc.blind, va_recv (q := (RX1, TX1, 17)) hK.1 hP (ci := 1) (q0 := 0) rfl rfl, zPre hK (hP.sub [0, 5] rfl) (hD.sub [0, 5] (by decide) rfl)⟩ rfl rfl hl.1 rfl (lv_room (Nat.le_of_ble_eq_true rfl)) dX1_addFact_57 ⟨(Nat.le_of_ble_eq_true rfl), (Nat.le_of_ble_eq_true rfl)⟩) hP hD hS hA [0, 5] [1, 2, 3, 4] rfl rfl (by decide) (by decide) (fun u6 H locs hw7 hP hD hS => ?_)
    obtain ⟨o9, o10⟩ := u6
    obtain ⟨hp11, hp12⟩ := hw7
    obtain ⟨q13, eq13⟩ : ∃ y : Int32 × (Nat → Int32), y = fX1_addStep ytestsF ysteps yfacts := ⟨_, rfl⟩
    have hG := zbnd hG eq13
    have eo9 : o9 = q13.1 := by rw [eq13]; exact congrArg (fun z : Int32 × (Nat → Int32) => z.1) hp11
    have hG := zbnd hG eo9
    have eo10 : o10 = q13.2 := by rw [eq13]; exact congrArg (fun z : Int32 × (Nat → Int32) => z.2) hp11
    have hG := zbnd hG eo10
    obtain ⟨hP, hD⟩ := z_re (L := [(yfactStarts, .inl (kA 0, 20, .inl f2)), (yfactMiddles, .inl (kA 0, 20, .inl f3)), (yfactStops, .inl (kA 0, 20, .inl f4)), (ysigns, .inl (kA 0, 20, .inl f5)), (l0, .inr (1, [.int ychain, .int yclauses, .ref ysorts, .ref ysumStarts, .ref ysumStops, .ref ytestStarts, .ref ytestStops, .int yvalues, .ref yjoins, .ref yoperands, .int yfacts, .ref yfactStarts, .ref yfactMiddles, .ref yfactStops, .ref ysigns, .int o9, .ref ytests])), (ytests, .inl (kA 0, 256, .inl o10))]) hP hD
    refine lv_aload_n hx hb dX1_addFact_60 rfl (lv_at hl 0 rfl) ?_
    refine lv_dup hx hb dX1_addFact_61 rfl ?_
    refine va_get (D := (dC, dI)) (ci := 1) (v := .int yfacts) (C := RX1) (T := TX1) (N := 17) hx hb hts iX1_addFact_X1 hown hK.1 hP 4 gz4 vcz1 10 (by decide) (kX1_addFact_1 hts) (fun _ h9 => h9) gz10 dX1_addFact_62 ?_
    refine lv_iconst (v := 1) hx hb dX1_addFact_65 (by decide) ?_
    refine lv_iadd hx hb dX1_addFact_66 ?_
    refine lv_topi (fun x14 ex14 => ?_)
    have hG := zbnd hG ex14
    refine va_put (D := (dC, dI)) (ci := 1) (v := .int x14) (ty := .int) (C := RX1) (T := TX1) (N := 17) hx hb hts iX1_addFact_X1 tyX1 tyX1_ok nmX1 hown hK.1 hP hD hS 4 gz4 vcz1 10 (by decide) (kX1_addFact_1 hts) (fun _ h9 => h9) rfl pfdI rfl rfl (Nat.le_of_ble_eq_true rfl) dX1_addFact_67 (fun H locs hP hD hS => ?_)
    obtain ⟨hP, hD⟩ := z_re (L := [(yfactStarts, .inl (kA 0, 20, .inl f2)), (yfactMiddles, .inl (kA 0, 20, .inl f3)), (yfactStops, .inl (kA 0, 20, .inl f4)), (ysigns, .inl (kA 0, 20, .inl f5)), (l0, .inr (1, [.int ychain, .int yclauses, .ref ysorts, .ref ysumStarts, .ref ysumStops, .ref ytestStarts, .ref ytestStops, .int yvalues, .ref yjoins, .ref yoperands, .int x14, .ref yfactStarts, .ref yfactMiddles, .ref yfactStops, .ref ysigns, .int o9, .ref ytests])), (ytests, .inl (kA 0, 256, .inl o10))]) hP hD
    obtain ⟨hP9, hD9⟩ := z_sb (L' := [(l0, .inr (1, [.int ychain, .int yclauses, .ref ysorts, .ref ysumStarts, .ref ysumStops, .ref ytestStarts, .ref ytestStops, .int yvalues, .ref yjoins, .ref yoperands, .int x14, .ref yfactStarts, .ref yfactMiddles, .ref yfactStops, .ref ysigns, .int o9, .ref ytests])), (yfactStarts, .inl (kA 0, 20, .inl f2)), (yfactMiddles, .inl (kA 0, 20, .inl f3)), (yfactStops, .inl (kA 0, 20, .inl f4)), (ysigns, .inl (kA 0, 20, .inl f5)), (ytests, .inl (kA 0, 256, .inl o10))]) hP hD [4, 0, 1, 2, 3, 5] (by decide) rfl
    refine W.widen (k := 0) (n := 0) (Nat.le_of_ble_eq_true rfl) (Nat.le_of_ble_eq_true rfl) ?_
    exact W.vret hx hb hr (fun t ht hW => ⟨⟨(x14, o9, f2, f3, f4, f5, o10), rfl, ⟨(hG.trans hG0.symm), (z_nn ex14 c_1 nfacts), hp12⟩, by rw [ht]; exact hP9, hD9⟩, hS.F ht⟩) hS.2.2 dX1_addFact_70
set_option maxRecDepth 100000 in
def fX1_isTrue (j0 : Int64) (p0 : Int32) (j1 : Int64) : Int32 := if p0 = 0 then (if 0 ≤ (lg_cmp j0 j1) then (0) else (1)) else (if p0 = 1 then (if 0 < (lg_cmp j0 j1) then (0) else (1)) else (if p0 = 2 then (if (lg_cmp j0 j1) = 0 then (1) else (0)) else (if p0 = 3 then (if (lg_cmp j0 j1) < 0 then (0) else (1)) else (if (lg_cmp j0 j1) ≤ 0 then (0) else (1)))))
set_option maxHeartbeats 4000000 in
set_option maxRecDepth 100000 in
theorem mX1_isTrue (l : Launch) (dC : Nat → ClassId) (dI : Nat → Nat → Nat) (kA : Nat → ClassId) (sz : Nat) (j0 : Int64) (p0 : Int32) (j1 : Int64)  : Met l yX1_isTrue wsX1_isTrue ({ frames := 0, cells := 0, slots := 0, locals := 0 }) (zPc dC dI kA sz [.long j0, .int p0, .long j1] []) (va_Qi (fun (r : Int32) (u : Int32) => r = u ∧ u = fX1_isTrue j0 p0 j1 ∧ (u = 0 ∨ u = 1)) (zB dC dI (va_A [] sz) (fun (u : Int32) => [])) (va_A [] sz)) 0 0 (va_A [] sz) := by
  refine Met.ofW (cc := cX1_isTrue) (maxL := 5) (ret := (some .boolean)) pnX1 rfl ?_
  intro p e s m args below meth c s₁ B hml hv
  obtain ⟨rfl, hsz, hP, hK, hD0⟩ := hv
  have hx := B.exec
  have hb := B.bytes
  have hr := B.returns
  have hts := atoms_spec (ws := wsX1_isTrue) B.pre
  have hown : s.vm.findClass RX1 = some m.cls := findClass_of_methodNamed B.named
  have hlocks := B.notSynchronized
  subst hsz
  have hD := hD0.self (sz := s.heap.size)
  generalize hAe : va_A [] s.heap.size = A at hD ⊢
  have hA : ∀ q : Nat, s.heap.size ≤ q → A q := zA_of hAe
  have hS : va_S A s.heap s.heap [] := va_S.rf
  have hP : va_P (dC, dI) vwCl [] s.heap := hP
  have hl := lv_entry ([.long j0, .int p0, .long j1]) (n := 5) (Nat.le_of_ble_eq_true rfl)
  rw [lg_entry_eq]
  generalize (lg_sl ([.long j0, .int p0, .long j1]) ++ List.replicate (5 - (lg_sl ([.long j0, .int p0, .long j1])).length) Slot.unset).toArray = ls at hl ⊢
  have hl : lv_has ls 5 [(0, .long j0), (2, .int p0), (3, .long j1)] := hl
  obtain ⟨G, hG0⟩ : ∃ G : Int32, fX1_isTrue j0 p0 j1 = G := ⟨_, rfl⟩
  have hG := hG0
  unfold fX1_isTrue at hG
  refine lv_iload_n hx hb dX1_isTrue_0 rfl (lv_at hl 1 rfl) ?_
  rcases sw_0_3 p0 with hs1 | hs1 | hs1 | hs1 | hs1
  · have hG := zelse hG (fun q9 => by rw [q9] at hs1; revert hs1; decide)
    have hG := zelse hG (fun q9 => by rw [q9] at hs1; revert hs1; decide)
    have hG := zelse hG (fun q9 => by rw [q9] at hs1; revert hs1; decide)
    have hG := zelse hG (fun q9 => by rw [q9] at hs1; revert hs1; decide)
    refine lv_tableOut (tgt := 80) hx hb dX1_isTrue_1 hs1 (by decide) ?_
    refine lv_lload_n hx hb dX1_isTrue_80 rfl (lv_at hl 0 rfl) ?_
    refine lv_lload_n hx hb dX1_isTrue_81 rfl (lv_at hl 2 rfl) ?_
    refine W.lcmp hx hb dX1_isTrue_82 ?_
    refine lv_if_le (tgt := 90) hx hb dX1_isTrue_83 (by decide) (fun c_2 => ?_) (fun c_2 => ?_)
    · have hG := zthen hG c_2
      refine lv_iconst (v := 0) hx hb dX1_isTrue_90 (by decide) ?_
      obtain ⟨hP9, hD9⟩ := z_sb (L' := []) hP hD [] (by decide) rfl
      refine W.widen (k := 0) (n := 0) (Nat.le_of_ble_eq_true rfl) (Nat.le_of_ble_eq_true rfl) ?_
      exact W.zret (v := 0) hx hb hr rfl (fun t ht hW => ⟨⟨0, (0), rfl, ⟨rfl, (hG.trans hG0.symm), (Or.inl rfl)⟩, by rw [ht]; exact hP9, hD9⟩, hS.F ht⟩) hS.2.2 dX1_isTrue_91
    · have hG := zelse hG c_2
      refine lv_iconst (v := 1) hx hb dX1_isTrue_86 (by decide) ?_
      refine lv_goto (tgt := 91) hx hb dX1_isTrue_87 (by decide) ?_
      obtain ⟨hP9, hD9⟩ := z_sb (L' := []) hP hD [] (by decide) rfl
      refine W.widen (k := 0) (n := 0) (Nat.le_of_ble_eq_true rfl) (Nat.le_of_ble_eq_true rfl) ?_
      exact W.zret (v := 1) hx hb hr rfl (fun t ht hW => ⟨⟨1, (1), rfl, ⟨rfl, (hG.trans hG0.symm), (Or.inr rfl)⟩, by rw [ht]; exact hP9, hD9⟩, hS.F ht⟩) hS.2.2 dX1_isTrue_91
  · have hG := zthen hG hs1
    refine lv_tableIn (off := 31) (tgt := 32) hx hb dX1_isTrue_1 (by rw [hs1]; decide) (by rw [hs1]; decide) (by rw [hs1]; decide) (by decide) ?_
    have hl : lv_has ls 5 [(0, .long j0), (2, .int 0), (3, .long j1)] := by rw [hs1] at hl; exact hl
    refine lv_lload_n hx hb dX1_isTrue_32 rfl (lv_at hl 0 rfl) ?_
    refine lv_lload_n hx hb dX1_isTrue_33 rfl (lv_at hl 2 rfl) ?_
    refine W.lcmp hx hb dX1_isTrue_34 ?_
    refine lv_if_ge (tgt := 42) hx hb dX1_isTrue_35 (by decide) (fun c_3 => ?_) (fun c_3 => ?_)
    · have hG := zthen hG c_3
      refine lv_iconst (v := 0) hx hb dX1_isTrue_42 (by decide) ?_
      obtain ⟨hP9, hD9⟩ := z_sb (L' := []) hP hD [] (by decide) rfl
      refine W.widen (k := 0) (n := 0) (Nat.le_of_ble_eq_true rfl) (Nat.le_of_ble_eq_true rfl) ?_
      exact W.zret (v := 0) hx hb hr rfl (fun t ht hW => ⟨⟨0, (0), rfl, ⟨rfl, (hG.trans hG0.symm), (Or.inl rfl)⟩, by rw [ht]; exact hP9, hD9⟩, hS.F ht⟩) hS.2.2 dX1_isTrue_43
    · have hG := zelse hG c_3
      refine lv_iconst (v := 1) hx hb dX1_isTrue_38 (by decide) ?_
      refine lv_goto (tgt := 43) hx hb dX1_isTrue_39 (by decide) ?_
      obtain ⟨hP9, hD9⟩ := z_sb (L' := []) hP hD [] (by decide) rfl
      refine W.widen (k := 0) (n := 0) (Nat.le_of_ble_eq_true rfl) (Nat.le_of_ble_eq_true rfl) ?_
      exact W.zret (v := 1) hx hb hr rfl (fun t ht hW => ⟨⟨1, (1), rfl, ⟨rfl, (hG.trans hG0.symm), (Or.inr rfl)⟩, by rw [ht]; exact hP9, hD9⟩, hS.F ht⟩) hS.2.2 dX1_isTrue_43
  · have hG := zelse hG (fun q9 => by rw [q9] at hs1; revert hs1; decide)
    have hG := zthen hG hs1
    refine lv_tableIn (off := 43) (tgt := 44) hx hb dX1_isTrue_1 (by rw [hs1]; decide) (by rw [hs1]; decide) (by rw [hs1]; decide) (by decide) ?_
    have hl : lv_has ls 5 [(0, .long j0), (2, .int 1), (3, .long j1)] := by rw [hs1] at hl; exact hl
    refine lv_lload_n hx hb dX1_isTrue_44 rfl (lv_at hl 0 rfl) ?_
    refine lv_lload_n hx hb dX1_isTrue_45 rfl (lv_at hl 2 rfl) ?_
    refine W.lcmp hx hb dX1_isTrue_46 ?_
    refine lv_if_gt (tgt := 54) hx hb dX1_isTrue_47 (by decide) (fun c_4 => ?_) (fun c_4 => ?_)
    · have hG := zthen hG c_4
      refine lv_iconst (v := 0) hx hb dX1_isTrue_54 (by decide) ?_
      obtain ⟨hP9, hD9⟩ := z_sb (L' := []) hP hD [] (by decide) rfl
      refine W.widen (k := 0) (n := 0) (Nat.le_of_ble_eq_true rfl) (Nat.le_of_ble_eq_true rfl) ?_
      exact W.zret (v := 0) hx hb hr rfl (fun t ht hW => ⟨⟨0, (0), rfl, ⟨rfl, (hG.trans hG0.symm), (Or.inl rfl)⟩, by rw [ht]; exact hP9, hD9⟩, hS.F ht⟩) hS.2.2 dX1_isTrue_55
    · have hG := zelse hG c_4
      refine lv_iconst (v := 1) hx hb dX1_isTrue_50 (by decide) ?_
      refine lv_goto (tgt := 55) hx hb dX1_isTrue_51 (by decide) ?_
      obtain ⟨hP9, hD9⟩ := z_sb (L' := []) hP hD [] (by decide) rfl
      refine W.widen (k := 0) (n := 0) (Nat.le_of_ble_eq_true rfl) (Nat.le_of_ble_eq_true rfl) ?_
      exact W.zret (v := 1) hx hb hr rfl (fun t ht hW => ⟨⟨1, (1), rfl, ⟨rfl, (hG.trans hG0.symm), (Or.inr rfl)⟩, by rw [ht]; exact hP9, hD9⟩, hS.F ht⟩) hS.2.2 dX1_isTrue_55
  · have hG := zelse hG (fun q9 => by rw [q9] at hs1; revert hs1; decide)
    have hG := zelse hG (fun q9 => by rw [q9] at hs1; revert hs1; decide)
    have hG := zthen hG hs1
    refine lv_tableIn (off := 55) (tgt := 56) hx hb dX1_isTrue_1 (by rw [hs1]; decide) (by rw [hs1]; decide) (by rw [hs1]; decide) (by decide) ?_
    have hl : lv_has ls 5 [(0, .long j0), (2, .int 2), (3, .long j1)] := by rw [hs1] at hl; exact hl
    refine lv_lload_n hx hb dX1_isTrue_56 rfl (lv_at hl 0 rfl) ?_
    refine lv_lload_n hx hb dX1_isTrue_57 rfl (lv_at hl 2 rfl) ?_
    refine W.lcmp hx hb dX1_isTrue_58 ?_
    refine lv_if_ne (tgt := 66) hx hb dX1_isTrue_59 (by decide) (fun c_5 => ?_) (fun c_5 => ?_)
    · have hG := zelse hG c_5
      refine lv_iconst (v := 0) hx hb dX1_isTrue_66 (by decide) ?_
      obtain ⟨hP9, hD9⟩ := z_sb (L' := []) hP hD [] (by decide) rfl
      refine W.widen (k := 0) (n := 0) (Nat.le_of_ble_eq_true rfl) (Nat.le_of_ble_eq_true rfl) ?_
      exact W.zret (v := 0) hx hb hr rfl (fun t ht hW => ⟨⟨0, (0), rfl, ⟨rfl, (hG.trans hG0.symm), (Or.inl rfl)⟩, by rw [ht]; exact hP9, hD9⟩, hS.F ht⟩) hS.2.2 dX1_isTrue_67
    · have hG := zthen hG c_5
      refine lv_iconst (v := 1) hx hb dX1_isTrue_62 (by decide) ?_
      refine lv_goto (tgt := 67) hx hb dX1_isTrue_63 (by decide) ?_
      obtain ⟨hP9, hD9⟩ := z_sb (L' := []) hP hD [] (by decide) rfl
      refine W.widen (k := 0) (n := 0) (Nat.le_of_ble_eq_true rfl) (Nat.le_of_ble_eq_true rfl) ?_
      exact W.zret (v := 1) hx hb hr rfl (fun t ht hW => ⟨⟨1, (1), rfl, ⟨rfl, (hG.trans hG0.symm), (Or.inr rfl)⟩, by rw [ht]; exact hP9, hD9⟩, hS.F ht⟩) hS.2.2 dX1_isTrue_67
  · have hG := zelse hG (fun q9 => by rw [q9] at hs1; revert hs1; decide)
    have hG := zelse hG (fun q9 => by rw [q9] at hs1; revert hs1; decide)
    have hG := zelse hG (fun q9 => by rw [q9] at hs1; revert hs1; decide)
    have hG := zthen hG hs1
    refine lv_tableIn (off := 67) (tgt := 68) hx hb dX1_isTrue_1 (by rw [hs1]; decide) (by rw [hs1]; decide) (by rw [hs1]; decide) (by decide) ?_
    have hl : lv_has ls 5 [(0, .long j0), (2, .int 3), (3, .long j1)] := by rw [hs1] at hl; exact hl
    refine lv_lload_n hx hb dX1_isTrue_68 rfl (lv_at hl 0 rfl) ?_
    refine lv_lload_n hx hb dX1_isTrue_69 rfl (lv_at hl 2 rfl) ?_
    refine W.lcmp hx hb dX1_isTrue_70 ?_
    refine lv_if_lt (tgt := 78) hx hb dX1_isTrue_71 (by decide) (fun c_6 => ?_) (fun c_6 => ?_)
    · have hG := zthen hG c_6
      refine lv_iconst (v := 0) hx hb dX1_isTrue_78 (by decide) ?_
      obtain ⟨hP9, hD9⟩ := z_sb (L' := []) hP hD [] (by decide) rfl
      refine W.widen (k := 0) (n := 0) (Nat.le_of_ble_eq_true rfl) (Nat.le_of_ble_eq_true rfl) ?_
      exact W.zret (v := 0) hx hb hr rfl (fun t ht hW => ⟨⟨0, (0), rfl, ⟨rfl, (hG.trans hG0.symm), (Or.inl rfl)⟩, by rw [ht]; exact hP9, hD9⟩, hS.F ht⟩) hS.2.2 dX1_isTrue_79
    · have hG := zelse hG c_6
      refine lv_iconst (v := 1) hx hb dX1_isTrue_74 (by decide) ?_
      refine lv_goto (tgt := 79) hx hb dX1_isTrue_75 (by decide) ?_
      obtain ⟨hP9, hD9⟩ := z_sb (L' := []) hP hD [] (by decide) rfl
      refine W.widen (k := 0) (n := 0) (Nat.le_of_ble_eq_true rfl) (Nat.le_of_ble_eq_true rfl) ?_
      exact W.zret (v := 1) hx hb hr rfl (fun t ht hW => ⟨⟨1, (1), rfl, ⟨rfl, (hG.trans hG0.symm), (Or.inr rfl)⟩, by rw [ht]; exact hP9, hD9⟩, hS.F ht⟩) hS.2.2 dX1_isTrue_79
set_option maxRecDepth 100000 in
def fb_mX1_total_12 (yjoinsF : Nat → Int32) (yoperandsF : Nat → Int32) (p1 : Int32) (wF : Nat → Int32) (E165 : Int32 → Int32 → Int64 → Int64 → Int64) (K : Int32 → Int32 → Int64 → Int64 → Int64) (l12_0 : Int32) (l12_1 : Int32) (l12_2 : Int64) (l12_3 : Int64) : Int64 := if l12_0 < 0 then (E165 l12_0 l12_1 l12_2 l12_3) else (if p1 ≤ l12_0 then (E165 l12_0 l12_1 l12_2 l12_3) else (if 60 ≤ l12_0 then (E165 l12_0 l12_1 l12_2 l12_3) else (bnd (yoperandsF l12_0.toNatClampNeg) (fun (xy12_4 : Int32) => bnd (((-1) - xy12_4)) (fun (xy12_5 : Int32) => if xy12_5 < 0 then (bnd (xy12_4.toInt64) (fun (xy12_7 : Int64) => bnd (yjoinsF l12_0.toNatClampNeg) (fun (xy12_8 : Int32) => if xy12_8 = 2 then (bnd ((l12_2 * xy12_7)) (fun (xy12_24 : Int64) => bnd ((l12_0 + 1)) (fun (xy12_25 : Int32) => K xy12_25 l12_1 xy12_24 l12_3))) else (if xy12_8 = 3 then (if (lg_cmp xy12_7 0) = 0 then (bnd ((l12_0 + 1)) (fun (xy12_23 : Int32) => K xy12_23 l12_1 0 l12_3)) else (bnd ((l12_2 / xy12_7)) (fun (xy12_21 : Int64) => bnd ((l12_0 + 1)) (fun (xy12_22 : Int32) => K xy12_22 l12_1 xy12_21 l12_3)))) else (if l12_1 = 0 then (bnd ((l12_3 + l12_2)) (fun (xy12_12 : Int64) => if xy12_8 = 1 then (bnd ((l12_0 + 1)) (fun (xy12_15 : Int32) => K xy12_15 1 xy12_7 xy12_12)) else (bnd ((l12_0 + 1)) (fun (xy12_14 : Int32) => K xy12_14 0 xy12_7 xy12_12)))) else (bnd ((l12_3 - l12_2)) (fun (xy12_16 : Int64) => if xy12_8 = 1 then (bnd ((l12_0 + 1)) (fun (xy12_19 : Int32) => K xy12_19 1 xy12_7 xy12_16)) else (bnd ((l12_0 + 1)) (fun (xy12_18 : Int32) => K xy12_18 0 xy12_7 xy12_16))))))))) else (if 11 ≤ xy12_5 then (bnd (xy12_4.toInt64) (fun (xy12_27 : Int64) => bnd (yjoinsF l12_0.toNatClampNeg) (fun (xy12_28 : Int32) => if xy12_28 = 2 then (bnd ((l12_2 * xy12_27)) (fun (xy12_44 : Int64) => bnd ((l12_0 + 1)) (fun (xy12_45 : Int32) => K xy12_45 l12_1 xy12_44 l12_3))) else (if xy12_28 = 3 then (if (lg_cmp xy12_27 0) = 0 then (bnd ((l12_0 + 1)) (fun (xy12_43 : Int32) => K xy12_43 l12_1 0 l12_3)) else (bnd ((l12_2 / xy12_27)) (fun (xy12_41 : Int64) => bnd ((l12_0 + 1)) (fun (xy12_42 : Int32) => K xy12_42 l12_1 xy12_41 l12_3)))) else (if l12_1 = 0 then (bnd ((l12_3 + l12_2)) (fun (xy12_32 : Int64) => if xy12_28 = 1 then (bnd ((l12_0 + 1)) (fun (xy12_35 : Int32) => K xy12_35 1 xy12_27 xy12_32)) else (bnd ((l12_0 + 1)) (fun (xy12_34 : Int32) => K xy12_34 0 xy12_27 xy12_32)))) else (bnd ((l12_3 - l12_2)) (fun (xy12_36 : Int64) => if xy12_28 = 1 then (bnd ((l12_0 + 1)) (fun (xy12_39 : Int32) => K xy12_39 1 xy12_27 xy12_36)) else (bnd ((l12_0 + 1)) (fun (xy12_38 : Int32) => K xy12_38 0 xy12_27 xy12_36))))))))) else (bnd (wF xy12_5.toNatClampNeg) (fun (xy12_46 : Int32) => bnd (xy12_46.toInt64) (fun (xy12_47 : Int64) => bnd (yjoinsF l12_0.toNatClampNeg) (fun (xy12_48 : Int32) => if xy12_48 = 2 then (bnd ((l12_2 * xy12_47)) (fun (xy12_64 : Int64) => bnd ((l12_0 + 1)) (fun (xy12_65 : Int32) => K xy12_65 l12_1 xy12_64 l12_3))) else (if xy12_48 = 3 then (if (lg_cmp xy12_47 0) = 0 then (bnd ((l12_0 + 1)) (fun (xy12_63 : Int32) => K xy12_63 l12_1 0 l12_3)) else (bnd ((l12_2 / xy12_47)) (fun (xy12_61 : Int64) => bnd ((l12_0 + 1)) (fun (xy12_62 : Int32) => K xy12_62 l12_1 xy12_61 l12_3)))) else (if l12_1 = 0 then (bnd ((l12_3 + l12_2)) (fun (xy12_52 : Int64) => if xy12_48 = 1 then (bnd ((l12_0 + 1)) (fun (xy12_55 : Int32) => K xy12_55 1 xy12_47 xy12_52)) else (bnd ((l12_0 + 1)) (fun (xy12_54 : Int32) => K xy12_54 0 xy12_47 xy12_52)))) else (bnd ((l12_3 - l12_2)) (fun (xy12_56 : Int64) => if xy12_48 = 1 then (bnd ((l12_0 + 1)) (fun (xy12_59 : Int32) => K xy12_59 1 xy12_47 xy12_56)) else (bnd ((l12_0 + 1)) (fun (xy12_58 : Int32) => K xy12_58 0 xy12_47 xy12_56))))))))))))))))
def fl_mX1_total_12 (yjoinsF : Nat → Int32) (yoperandsF : Nat → Int32) (p1 : Int32) (wF : Nat → Int32) (E165 : Int32 → Int32 → Int64 → Int64 → Int64) : Nat → Int32 → Int32 → Int64 → Int64 → Int64
  | 0, _, _, _, _ => 0
  | n + 1, l12_0, l12_1, l12_2, l12_3 => fb_mX1_total_12 yjoinsF yoperandsF p1 wF E165 (fl_mX1_total_12 yjoinsF yoperandsF p1 wF E165 n) l12_0 l12_1 l12_2 l12_3
set_option maxHeartbeats 4000000 in
set_option maxRecDepth 100000 in
theorem lp_mX1_total_12 {p : Program} {l : Launch} {e : Env} {R : Room} {s : State} {m : MethodId} {args : Array Value} {below : List Frame} {meth : Method} {c : Code} {Q : State → Prop} {dC : Nat → ClassId} {dI : Nat → Nat → Nat} {kA : Nat → ClassId} {A : Nat → Prop} {H0 : Heap} {cells slots : Nat} (hx : p.tables.exec = Jvm.exec) (hb : c.code = cX1_total) (hml : c.maxLocals = 15) (hts : ∀ w ∈ wsX1_total, w.before args s = true) (hown : s.vm.findClass RX1 = some m.cls) (hK : zK dC dI kA s) (hA : ∀ q, H0.size ≤ q → A q) (hRf : 0 ≤ R.frames) (hRl : 0 ≤ R.locals) (hRc : cells ≤ R.cells) (hRs : slots ≤ R.slots) (l0 : Nat) (ysorts : Nat) (ysumStarts : Nat) (ysumStops : Nat) (ytestStarts : Nat) (ytestStops : Nat) (yjoins : Nat) (yoperands : Nat) (yfactStarts : Nat) (yfactMiddles : Nat) (yfactStops : Nat) (ysigns : Nat) (ytests : Nat) (yjoinsF : Nat → Int32) (yoperandsF : Nat → Int32) (ychain : Int32) (yclauses : Int32) (yvalues : Int32) (yfacts : Int32) (ysteps : Int32) (p0 : Int32) (p1 : Int32) (wA : Nat) (wF : Nat → Int32) {G : Int64} {E165 : Int32 → Int32 → Int64 → Int64 → Int64}  (k165 : ∀ (w165_0 : Int32) (w165_1 : Int32) (w165_2 : Int64) (w165_3 : Int64) (H : Heap) (locs : List Loc) (ls : Array Slot), E165 w165_0 w165_1 w165_2 w165_3 = G → va_P (dC, dI) vwCl [(l0, .inr (1, [.int ychain, .int yclauses, .ref ysorts, .ref ysumStarts, .ref ysumStops, .ref ytestStarts, .ref ytestStops, .int yvalues, .ref yjoins, .ref yoperands, .int yfacts, .ref yfactStarts, .ref yfactMiddles, .ref yfactStops, .ref ysigns, .int ysteps, .ref ytests])), (yjoins, .inl (kA 0, 60, .inl yjoinsF)), (yoperands, .inl (kA 0, 60, .inl yoperandsF)), (wA, .inl (kA 0, 11, .inl wF))] H → va_D A [(l0, .inr (1, [.int ychain, .int yclauses, .ref ysorts, .ref ysumStarts, .ref ysumStops, .ref ytestStarts, .ref ytestStops, .int yvalues, .ref yjoins, .ref yoperands, .int yfacts, .ref yfactStarts, .ref yfactMiddles, .ref yfactStops, .ref ysigns, .int ysteps, .ref ytests])), (yjoins, .inl (kA 0, 60, .inl yjoinsF)), (yoperands, .inl (kA 0, 60, .inl yoperandsF)), (wA, .inl (kA 0, 11, .inl wF))] → va_S A H0 H locs → lv_has ls 15 [(9, .int w165_0), (8, .int w165_1), (6, .long w165_2), (4, .long w165_3), (0, .ref l0), (1, .int p0), (2, .int p1), (3, .ref wA)] → W p l e R s m args below meth c H locs cells slots Q (F0 m 165 ls []))  : ∀ (n : Nat) (l12_0 : Int32) (l12_1 : Int32) (l12_2 : Int64) (l12_3 : Int64) (H : Heap) (locs : List Loc) (ls : Array Slot), ((p1 : Int32).toInt - l12_0.toInt).toNat < n → fl_mX1_total_12 yjoinsF yoperandsF p1 wF E165 n l12_0 l12_1 l12_2 l12_3 = G → va_P (dC, dI) vwCl [(l0, .inr (1, [.int ychain, .int yclauses, .ref ysorts, .ref ysumStarts, .ref ysumStops, .ref ytestStarts, .ref ytestStops, .int yvalues, .ref yjoins, .ref yoperands, .int yfacts, .ref yfactStarts, .ref yfactMiddles, .ref yfactStops, .ref ysigns, .int ysteps, .ref ytests])), (yjoins, .inl (kA 0, 60, .inl yjoinsF)), (yoperands, .inl (kA 0, 60, .inl yoperandsF)), (wA, .inl (kA 0, 11, .inl wF))] H → va_D A [(l0, .inr (1, [.int ychain, .int yclauses, .ref ysorts, .ref ysumStarts, .ref ysumStops, .ref ytestStarts, .ref ytestStops, .int yvalues, .ref yjoins, .ref yoperands, .int yfacts, .ref yfactStarts, .ref yfactMiddles, .ref yfactStops, .ref ysigns, .int ysteps, .ref ytests])), (yjoins, .inl (kA 0, 60, .inl yjoinsF)), (yoperands, .inl (kA 0, 60, .inl yoperandsF)), (wA, .inl (kA 0, 11, .inl wF))] → va_S A H0 H locs → lv_has ls 15 [(9, .int l12_0), (8, .int l12_1), (6, .long l12_2), (4, .long l12_3), (0, .ref l0), (1, .int p0), (2, .int p1), (3, .ref wA)] → W p l e R s m args below meth c H locs cells slots Q (F0 m 12 ls []) := by
  intro n
  induction n with
  | zero =>
    intro l12_0 l12_1 l12_2 l12_3 H locs ls hn
    exact absurd hn (Nat.not_lt_zero _)
  | succ n ih =>
    intro l12_0 l12_1 l12_2 l12_3 H locs ls hn hG  hP hD hS hl
    have hG : fb_mX1_total_12 yjoinsF yoperandsF p1 wF E165 (fl_mX1_total_12 yjoinsF yoperandsF p1 wF E165 n) l12_0 l12_1 l12_2 l12_3 = G := hG
    unfold fb_mX1_total_12 at hG
    refine lv_iload hx hb dX1_total_12 (lv_at hl 0 rfl) ?_
    refine lv_if_lt (tgt := 165) hx hb dX1_total_14 (by decide) (fun c_y12_1 => ?_) (fun c_y12_1 => ?_)
    · have hG := zthen hG c_y12_1
      exact k165 l12_0 l12_1 l12_2 l12_3 H locs ls hG (hP.sub [0, 1, 2, 3] rfl) (hD.sub [0, 1, 2, 3] (by decide) rfl) hS (lv_sub hl [0, 1, 2, 3, 4, 5, 6, 7] rfl)
    · have hG := zelse hG c_y12_1
      refine lv_iload hx hb dX1_total_17 (lv_at hl 0 rfl) ?_
      refine lv_iload_n hx hb dX1_total_19 rfl (lv_at hl 6 rfl) ?_
      refine lv_icmp_ge (tgt := 165) hx hb dX1_total_20 (by decide) (fun c_y12_2 => ?_) (fun c_y12_2 => ?_)
      · have hG := zthen hG c_y12_2
        exact k165 l12_0 l12_1 l12_2 l12_3 H locs ls hG (hP.sub [0, 1, 2, 3] rfl) (hD.sub [0, 1, 2, 3] (by decide) rfl) hS (lv_sub hl [0, 1, 2, 3, 4, 5, 6, 7] rfl)
      · have hG := zelse hG c_y12_2
        refine lv_iload hx hb dX1_total_23 (lv_at hl 0 rfl) ?_
        refine lv_bipush (v := 60) hx hb dX1_total_25 (by decide) ?_
        refine lv_icmp_ge (tgt := 165) hx hb dX1_total_27 (by decide) (fun c_y12_3 => ?_) (fun c_y12_3 => ?_)
        · have hG := zthen hG c_y12_3
          exact k165 l12_0 l12_1 l12_2 l12_3 H locs ls hG (hP.sub [0, 1, 2, 3] rfl) (hD.sub [0, 1, 2, 3] (by decide) rfl) hS (lv_sub hl [0, 1, 2, 3, 4, 5, 6, 7] rfl)
        · have hG := zelse hG c_y12_3
          refine lv_aload_n hx hb dX1_total_30 rfl (lv_at hl 4 rfl) ?_
          refine va_get (D := (dC, dI)) (ci := 1) (v := .ref yoperands) (C := RX1) (T := TX1) (N := 17) hx hb hts iX1_total_X1 hown hK.1 hP 0 gz0 vcz1 9 (by decide) (kX1_total_1 hts) (fun _ h9 => h9) gz9 dX1_total_31 ?_
          refine lv_iload hx hb dX1_total_34 (lv_at hl 0 rfl) ?_
          refine va_iald hx hb hK.1 hP 2 0 gz2 tzz0 (vp_lt (by decide) c_y12_1 c_y12_3) dX1_total_36 ?_
          refine lv_topi (fun xy12_4 exy12_4 => ?_)
          have hG := zbnd hG exy12_4
          refine lv_istore (lv' := [(10, .int xy12_4), (9, .int l12_0), (8, .int l12_1), (6, .long l12_2), (4, .long l12_3), (0, .ref l0), (1, .int p0), (2, .int p1), (3, .ref wA)]) hx hb dX1_total_37 hl (by decide) rfl (fun ls hl => ?_)
          refine lv_iconst (v := (-1)) hx hb dX1_total_39 (by decide) ?_
          refine lv_iload hx hb dX1_total_40 (lv_at hl 0 rfl) ?_
          refine lv_isub hx hb dX1_total_42 ?_
          refine lv_topi (fun xy12_5 exy12_5 => ?_)
          have hG := zbnd hG exy12_5
          refine lv_istore (lv' := [(11, .int xy12_5), (10, .int xy12_4), (9, .int l12_0), (8, .int l12_1), (6, .long l12_2), (4, .long l12_3), (0, .ref l0), (1, .int p0), (2, .int p1), (3, .ref wA)]) hx hb dX1_total_43 hl (by decide) rfl (fun ls hl => ?_)
          refine lv_iload hx hb dX1_total_45 (lv_at hl 0 rfl) ?_
          refine lv_if_lt (tgt := 65) hx hb dX1_total_47 (by decide) (fun c_y12_6 => ?_) (fun c_y12_6 => ?_)
          · have hG := zthen hG c_y12_6
            refine lv_iload hx hb dX1_total_65 (lv_at hl 1 rfl) ?_
            refine lv_i2l hx hb dX1_total_67 rfl ?_
            refine lv_topl (fun xy12_7 exy12_7 => ?_)
            have hG := zbnd hG exy12_7
            refine lv_lstore (lv' := [(12, .long xy12_7), (11, .int xy12_5), (10, .int xy12_4), (9, .int l12_0), (8, .int l12_1), (6, .long l12_2), (4, .long l12_3), (0, .ref l0), (1, .int p0), (2, .int p1), (3, .ref wA)]) hx hb dX1_total_68 hl (by decide) rfl (fun ls hl => ?_)
            refine lv_aload_n hx hb dX1_total_70 rfl (lv_at hl 7 rfl) ?_
            refine va_get (D := (dC, dI)) (ci := 1) (v := .ref yjoins) (C := RX1) (T := TX1) (N := 17) hx hb hts iX1_total_X1 hown hK.1 hP 0 gz0 vcz1 8 (by decide) (kX1_total_2 hts) (fun _ h9 => h9) gz8 dX1_total_71 ?_
            refine lv_iload hx hb dX1_total_74 (lv_at hl 3 rfl) ?_
            refine va_iald hx hb hK.1 hP 1 0 gz1 tzz0 (vp_lt (by decide) c_y12_1 c_y12_3) dX1_total_76 ?_
            refine lv_topi (fun xy12_8 exy12_8 => ?_)
            have hG := zbnd hG exy12_8
            refine lv_istore (lv' := [(14, .int xy12_8), (12, .long xy12_7), (11, .int xy12_5), (10, .int xy12_4), (9, .int l12_0), (8, .int l12_1), (6, .long l12_2), (4, .long l12_3), (0, .ref l0), (1, .int p0), (2, .int p1), (3, .ref wA)]) hx hb dX1_total_77 hl (by decide) rfl (fun ls hl => ?_)
            refine lv_iload hx hb dX1_total_79 (lv_at hl 0 rfl) ?_
            refine lv_iconst (v := 2) hx hb dX1_total_81 (by decide) ?_
            refine lv_icmp_ne (tgt := 95) hx hb dX1_total_82 (by decide) (fun c_y12_9 => ?_) (fun c_y12_9 => ?_)
            · have hG := zelse hG c_y12_9
              refine lv_iload hx hb dX1_total_95 (lv_at hl 0 rfl) ?_
              refine lv_iconst (v := 3) hx hb dX1_total_97 (by decide) ?_
              refine lv_icmp_ne (tgt := 122) hx hb dX1_total_98 (by decide) (fun c_y12_10 => ?_) (fun c_y12_10 => ?_)
              · have hG := zelse hG c_y12_10
                refine lv_iload hx hb dX1_total_122 (lv_at hl 5 rfl) ?_
                refine lv_if_eq (tgt := 135) hx hb dX1_total_124 (by decide) (fun c_y12_11 => ?_) (fun c_y12_11 => ?_)
                · have hG := zthen hG c_y12_11
                  refine lv_lload hx hb dX1_total_135 (lv_at hl 7 rfl) ?_
                  refine lv_lload hx hb dX1_total_137 (lv_at hl 6 rfl) ?_
                  refine lv_ladd hx hb dX1_total_139 ?_
                  refine lv_topl (fun xy12_12 exy12_12 => ?_)
                  have hG := zbnd hG exy12_12
                  refine lv_lstore (lv' := [(4, .long xy12_12), (14, .int xy12_8), (12, .long xy12_7), (11, .int xy12_5), (10, .int xy12_4), (9, .int l12_0), (8, .int l12_1), (6, .long l12_2), (0, .ref l0), (1, .int p0), (2, .int p1), (3, .ref wA)]) hx hb dX1_total_140 hl (by decide) rfl (fun ls hl => ?_)
                  refine lv_lload hx hb dX1_total_142 (lv_at hl 2 rfl) ?_
                  refine lv_lstore (lv' := [(6, .long xy12_7), (4, .long xy12_12), (14, .int xy12_8), (12, .long xy12_7), (11, .int xy12_5), (10, .int xy12_4), (9, .int l12_0), (8, .int l12_1), (0, .ref l0), (1, .int p0), (2, .int p1), (3, .ref wA)]) hx hb dX1_total_144 hl (by decide) rfl (fun ls hl => ?_)
                  refine lv_iload hx hb dX1_total_146 (lv_at hl 2 rfl) ?_
                  refine lv_iconst (v := 1) hx hb dX1_total_148 (by decide) ?_
                  refine lv_icmp_ne (tgt := 156) hx hb dX1_total_149 (by decide) (fun c_y12_13 => ?_) (fun c_y12_13 => ?_)
                  · have hG := zelse hG c_y12_13
                    refine lv_iconst (v := 0) hx hb dX1_total_156 (by decide) ?_
                    refine lv_istore (lv' := [(8, .int 0), (6, .long xy12_7), (4, .long xy12_12), (14, .int xy12_8), (12, .long xy12_7), (11, .int xy12_5), (10, .int xy12_4), (9, .int l12_0), (0, .ref l0), (1, .int p0), (2, .int p1), (3, .ref wA)]) hx hb dX1_total_157 hl (by decide) rfl (fun ls hl => ?_)
                    obtain ⟨xy12_14, exy12_14⟩ : ∃ y : Int32, y = l12_0 + 1 := ⟨_, rfl⟩
                    have hG := zbnd hG exy12_14
                    refine lv_iinc (v := xy12_14) (lv' := [(9, .int xy12_14), (8, .int 0), (6, .long xy12_7), (4, .long xy12_12), (14, .int xy12_8), (12, .long xy12_7), (11, .int xy12_5), (10, .int xy12_4), (0, .ref l0), (1, .int p0), (2, .int p1), (3, .ref wA)]) hx hb dX1_total_159 hl (k := 7) rfl (by rw [exy12_14]; rfl) (by decide) rfl (fun ls hl => ?_)
                    refine lv_goto (tgt := 12) hx hb dX1_total_162 (by decide) ?_
                    exact ih xy12_14 0 xy12_7 xy12_12 H locs ls (z_up hn exy12_14 c_y12_2) hG (hP.sub [0, 1, 2, 3] rfl) (hD.sub [0, 1, 2, 3] (by decide) rfl) hS (lv_sub hl [0, 1, 2, 3, 8, 9, 10, 11] rfl)
                  · have hG := zthen hG c_y12_13
                    refine lv_iconst (v := 1) hx hb dX1_total_152 (by decide) ?_
                    refine lv_goto (tgt := 157) hx hb dX1_total_153 (by decide) ?_
                    refine lv_istore (lv' := [(8, .int 1), (6, .long xy12_7), (4, .long xy12_12), (14, .int xy12_8), (12, .long xy12_7), (11, .int xy12_5), (10, .int xy12_4), (9, .int l12_0), (0, .ref l0), (1, .int p0), (2, .int p1), (3, .ref wA)]) hx hb dX1_total_157 hl (by decide) rfl (fun ls hl => ?_)
                    obtain ⟨xy12_15, exy12_15⟩ : ∃ y : Int32, y = l12_0 + 1 := ⟨_, rfl⟩
                    have hG := zbnd hG exy12_15
                    refine lv_iinc (v := xy12_15) (lv' := [(9, .int xy12_15), (8, .int 1), (6, .long xy12_7), (4, .long xy12_12), (14, .int xy12_8), (12, .long xy12_7), (11, .int xy12_5), (10, .int xy12_4), (0, .ref l0), (1, .int p0), (2, .int p1), (3, .ref wA)]) hx hb dX1_total_159 hl (k := 7) rfl (by rw [exy12_15]; rfl) (by decide) rfl (fun ls hl => ?_)
                    refine lv_goto (tgt := 12) hx hb dX1_total_162 (by decide) ?_
                    exact ih xy12_15 1 xy12_7 xy12_12 H locs ls (z_up hn exy12_15 c_y12_2) hG (hP.sub [0, 1, 2, 3] rfl) (hD.sub [0, 1, 2, 3] (by decide) rfl) hS (lv_sub hl [0, 1, 2, 3, 8, 9, 10, 11] rfl)
                · have hG := zelse hG c_y12_11
                  refine lv_lload hx hb dX1_total_127 (lv_at hl 7 rfl) ?_
                  refine lv_lload hx hb dX1_total_129 (lv_at hl 6 rfl) ?_
                  refine lv_lsub hx hb dX1_total_131 ?_
                  refine lv_topl (fun xy12_16 exy12_16 => ?_)
                  have hG := zbnd hG exy12_16
                  refine lv_goto (tgt := 140) hx hb dX1_total_132 (by decide) ?_
                  refine lv_lstore (lv' := [(4, .long xy12_16), (14, .int xy12_8), (12, .long xy12_7), (11, .int xy12_5), (10, .int xy12_4), (9, .int l12_0), (8, .int l12_1), (6, .long l12_2), (0, .ref l0), (1, .int p0), (2, .int p1), (3, .ref wA)]) hx hb dX1_total_140 hl (by decide) rfl (fun ls hl => ?_)
                  refine lv_lload hx hb dX1_total_142 (lv_at hl 2 rfl) ?_
                  refine lv_lstore (lv' := [(6, .long xy12_7), (4, .long xy12_16), (14, .int xy12_8), (12, .long xy12_7), (11, .int xy12_5), (10, .int xy12_4), (9, .int l12_0), (8, .int l12_1), (0, .ref l0), (1, .int p0), (2, .int p1), (3, .ref wA)]) hx hb dX1_total_144 hl (by decide) rfl (fun ls hl => ?_)
                  refine lv_iload hx hb dX1_total_146 (lv_at hl 2 rfl) ?_
                  refine lv_iconst (v := 1) hx hb dX1_total_148 (by decide) ?_
                  refine lv_icmp_ne (tgt := 156) hx hb dX1_total_149 (by decide) (fun c_y12_17 => ?_) (fun c_y12_17 => ?_)
                  · have hG := zelse hG c_y12_17
                    refine lv_iconst (v := 0) hx hb dX1_total_156 (by decide) ?_
                    refine lv_istore (lv' := [(8, .int 0), (6, .long xy12_7), (4, .long xy12_16), (14, .int xy12_8), (12, .long xy12_7), (11, .int xy12_5), (10, .int xy12_4), (9, .int l12_0), (0, .ref l0), (1, .int p0), (2, .int p1), (3, .ref wA)]) hx hb dX1_total_157 hl (by decide) rfl (fun ls hl => ?_)
                    obtain ⟨xy12_18, exy12_18⟩ : ∃ y : Int32, y = l12_0 + 1 := ⟨_, rfl⟩
                    have hG := zbnd hG exy12_18
                    refine lv_iinc (v := xy12_18) (lv' := [(9, .int xy12_18), (8, .int 0), (6, .long xy12_7), (4, .long xy12_16), (14, .int xy12_8), (12, .long xy12_7), (11, .int xy12_5), (10, .int xy12_4), (0, .ref l0), (1, .int p0), (2, .int p1), (3, .ref wA)]) hx hb dX1_total_159 hl (k := 7) rfl (by rw [exy12_18]; rfl) (by decide) rfl (fun ls hl => ?_)
                    refine lv_goto (tgt := 12) hx hb dX1_total_162 (by decide) ?_
                    exact ih xy12_18 0 xy12_7 xy12_16 H locs ls (z_up hn exy12_18 c_y12_2) hG (hP.sub [0, 1, 2, 3] rfl) (hD.sub [0, 1, 2, 3] (by decide) rfl) hS (lv_sub hl [0, 1, 2, 3, 8, 9, 10, 11] rfl)
                  · have hG := zthen hG c_y12_17
                    refine lv_iconst (v := 1) hx hb dX1_total_152 (by decide) ?_
                    refine lv_goto (tgt := 157) hx hb dX1_total_153 (by decide) ?_
                    refine lv_istore (lv' := [(8, .int 1), (6, .long xy12_7), (4, .long xy12_16), (14, .int xy12_8), (12, .long xy12_7), (11, .int xy12_5), (10, .int xy12_4), (9, .int l12_0), (0, .ref l0), (1, .int p0), (2, .int p1), (3, .ref wA)]) hx hb dX1_total_157 hl (by decide) rfl (fun ls hl => ?_)
                    obtain ⟨xy12_19, exy12_19⟩ : ∃ y : Int32, y = l12_0 + 1 := ⟨_, rfl⟩
                    have hG := zbnd hG exy12_19
                    refine lv_iinc (v := xy12_19) (lv' := [(9, .int xy12_19), (8, .int 1), (6, .long xy12_7), (4, .long xy12_16), (14, .int xy12_8), (12, .long xy12_7), (11, .int xy12_5), (10, .int xy12_4), (0, .ref l0), (1, .int p0), (2, .int p1), (3, .ref wA)]) hx hb dX1_total_159 hl (k := 7) rfl (by rw [exy12_19]; rfl) (by decide) rfl (fun ls hl => ?_)
                    refine lv_goto (tgt := 12) hx hb dX1_total_162 (by decide) ?_
                    exact ih xy12_19 1 xy12_7 xy12_16 H locs ls (z_up hn exy12_19 c_y12_2) hG (hP.sub [0, 1, 2, 3] rfl) (hD.sub [0, 1, 2, 3] (by decide) rfl) hS (lv_sub hl [0, 1, 2, 3, 8, 9, 10, 11] rfl)
              · have hG := zthen hG c_y12_10
                refine lv_lload hx hb dX1_total_101 (lv_at hl 1 rfl) ?_
                refine lv_lconst (v := 0) hx hb dX1_total_103 (by decide) ?_
                refine W.lcmp hx hb dX1_total_104 ?_
                refine lv_if_ne (tgt := 112) hx hb dX1_total_105 (by decide) (fun c_y12_20 => ?_) (fun c_y12_20 => ?_)
                · have hG := zelse hG c_y12_20
                  refine lv_lload hx hb dX1_total_112 (lv_at hl 6 rfl) ?_
                  refine lv_lload hx hb dX1_total_114 (lv_at hl 1 rfl) ?_
                  refine lv_ldiv hx hb dX1_total_116 (fun q => c_y12_20 ((lg_cmp_eq _ _).mpr q)) ?_
                  refine lv_topl (fun xy12_21 exy12_21 => ?_)
                  have hG := zbnd hG exy12_21
                  refine lv_lstore (lv' := [(6, .long xy12_21), (14, .int xy12_8), (12, .long xy12_7), (11, .int xy12_5), (10, .int xy12_4), (9, .int l12_0), (8, .int l12_1), (4, .long l12_3), (0, .ref l0), (1, .int p0), (2, .int p1), (3, .ref wA)]) hx hb dX1_total_117 hl (by decide) rfl (fun ls hl => ?_)
                  refine lv_goto (tgt := 159) hx hb dX1_total_119 (by decide) ?_
                  obtain ⟨xy12_22, exy12_22⟩ : ∃ y : Int32, y = l12_0 + 1 := ⟨_, rfl⟩
                  have hG := zbnd hG exy12_22
                  refine lv_iinc (v := xy12_22) (lv' := [(9, .int xy12_22), (6, .long xy12_21), (14, .int xy12_8), (12, .long xy12_7), (11, .int xy12_5), (10, .int xy12_4), (8, .int l12_1), (4, .long l12_3), (0, .ref l0), (1, .int p0), (2, .int p1), (3, .ref wA)]) hx hb dX1_total_159 hl (k := 5) rfl (by rw [exy12_22]; rfl) (by decide) rfl (fun ls hl => ?_)
                  refine lv_goto (tgt := 12) hx hb dX1_total_162 (by decide) ?_
                  exact ih xy12_22 l12_1 xy12_21 l12_3 H locs ls (z_up hn exy12_22 c_y12_2) hG (hP.sub [0, 1, 2, 3] rfl) (hD.sub [0, 1, 2, 3] (by decide) rfl) hS (lv_sub hl [0, 6, 1, 7, 8, 9, 10, 11] rfl)
                · have hG := zthen hG c_y12_20
                  refine lv_lconst (v := 0) hx hb dX1_total_108 (by decide) ?_
                  refine lv_goto (tgt := 117) hx hb dX1_total_109 (by decide) ?_
                  refine lv_lstore (lv' := [(6, .long 0), (14, .int xy12_8), (12, .long xy12_7), (11, .int xy12_5), (10, .int xy12_4), (9, .int l12_0), (8, .int l12_1), (4, .long l12_3), (0, .ref l0), (1, .int p0), (2, .int p1), (3, .ref wA)]) hx hb dX1_total_117 hl (by decide) rfl (fun ls hl => ?_)
                  refine lv_goto (tgt := 159) hx hb dX1_total_119 (by decide) ?_
                  obtain ⟨xy12_23, exy12_23⟩ : ∃ y : Int32, y = l12_0 + 1 := ⟨_, rfl⟩
                  have hG := zbnd hG exy12_23
                  refine lv_iinc (v := xy12_23) (lv' := [(9, .int xy12_23), (6, .long 0), (14, .int xy12_8), (12, .long xy12_7), (11, .int xy12_5), (10, .int xy12_4), (8, .int l12_1), (4, .long l12_3), (0, .ref l0), (1, .int p0), (2, .int p1), (3, .ref wA)]) hx hb dX1_total_159 hl (k := 5) rfl (by rw [exy12_23]; rfl) (by decide) rfl (fun ls hl => ?_)
                  refine lv_goto (tgt := 12) hx hb dX1_total_162 (by decide) ?_
                  exact ih xy12_23 l12_1 0 l12_3 H locs ls (z_up hn exy12_23 c_y12_2) hG (hP.sub [0, 1, 2, 3] rfl) (hD.sub [0, 1, 2, 3] (by decide) rfl) hS (lv_sub hl [0, 6, 1, 7, 8, 9, 10, 11] rfl)
            · have hG := zthen hG c_y12_9
              refine lv_lload hx hb dX1_total_85 (lv_at hl 6 rfl) ?_
              refine lv_lload hx hb dX1_total_87 (lv_at hl 1 rfl) ?_
              refine lv_lmul hx hb dX1_total_89 ?_
              refine lv_topl (fun xy12_24 exy12_24 => ?_)
              have hG := zbnd hG exy12_24
              refine lv_lstore (lv' := [(6, .long xy12_24), (14, .int xy12_8), (12, .long xy12_7), (11, .int xy12_5), (10, .int xy12_4), (9, .int l12_0), (8, .int l12_1), (4, .long l12_3), (0, .ref l0), (1, .int p0), (2, .int p1), (3, .ref wA)]) hx hb dX1_total_90 hl (by decide) rfl (fun ls hl => ?_)
              refine lv_goto (tgt := 159) hx hb dX1_total_92 (by decide) ?_
              obtain ⟨xy12_25, exy12_25⟩ : ∃ y : Int32, y = l12_0 + 1 := ⟨_, rfl⟩
              have hG := zbnd hG exy12_25
              refine lv_iinc (v := xy12_25) (lv' := [(9, .int xy12_25), (6, .long xy12_24), (14, .int xy12_8), (12, .long xy12_7), (11, .int xy12_5), (10, .int xy12_4), (8, .int l12_1), (4, .long l12_3), (0, .ref l0), (1, .int p0), (2, .int p1), (3, .ref wA)]) hx hb dX1_total_159 hl (k := 5) rfl (by rw [exy12_25]; rfl) (by decide) rfl (fun ls hl => ?_)
              refine lv_goto (tgt := 12) hx hb dX1_total_162 (by decide) ?_
              exact ih xy12_25 l12_1 xy12_24 l12_3 H locs ls (z_up hn exy12_25 c_y12_2) hG (hP.sub [0, 1, 2, 3] rfl) (hD.sub [0, 1, 2, 3] (by decide) rfl) hS (lv_sub hl [0, 6, 1, 7, 8, 9, 10, 11] rfl)
          · have hG := zelse hG c_y12_6
            refine lv_iload hx hb dX1_total_50 (lv_at hl 0 rfl) ?_
            refine lv_aload_n hx hb dX1_total_52 rfl (lv_at hl 9 rfl) ?_
            refine va_alen hx hb hK.1 hP 3 0 rfl rfl (v := 11) rfl dX1_total_53 ?_
            refine lv_icmp_ge (tgt := 65) hx hb dX1_total_54 (by decide) (fun c_y12_26 => ?_) (fun c_y12_26 => ?_)
            · have hG := zthen hG c_y12_26
              refine lv_iload hx hb dX1_total_65 (lv_at hl 1 rfl) ?_
              refine lv_i2l hx hb dX1_total_67 rfl ?_
              refine lv_topl (fun xy12_27 exy12_27 => ?_)
              have hG := zbnd hG exy12_27
              refine lv_lstore (lv' := [(12, .long xy12_27), (11, .int xy12_5), (10, .int xy12_4), (9, .int l12_0), (8, .int l12_1), (6, .long l12_2), (4, .long l12_3), (0, .ref l0), (1, .int p0), (2, .int p1), (3, .ref wA)]) hx hb dX1_total_68 hl (by decide) rfl (fun ls hl => ?_)
              refine lv_aload_n hx hb dX1_total_70 rfl (lv_at hl 7 rfl) ?_
              refine va_get (D := (dC, dI)) (ci := 1) (v := .ref yjoins) (C := RX1) (T := TX1) (N := 17) hx hb hts iX1_total_X1 hown hK.1 hP 0 gz0 vcz1 8 (by decide) (kX1_total_2 hts) (fun _ h9 => h9) gz8 dX1_total_71 ?_
              refine lv_iload hx hb dX1_total_74 (lv_at hl 3 rfl) ?_
              refine va_iald hx hb hK.1 hP 1 0 gz1 tzz0 (vp_lt (by decide) c_y12_1 c_y12_3) dX1_total_76 ?_
              refine lv_topi (fun xy12_28 exy12_28 => ?_)
              have hG := zbnd hG exy12_28
              refine lv_istore (lv' := [(14, .int xy12_28), (12, .long xy12_27), (11, .int xy12_5), (10, .int xy12_4), (9, .int l12_0), (8, .int l12_1), (6, .long l12_2), (4, .long l12_3), (0, .ref l0), (1, .int p0), (2, .int p1), (3, .ref wA)]) hx hb dX1_total_77 hl (by decide) rfl (fun ls hl => ?_)
              refine lv_iload hx hb dX1_total_79 (lv_at hl 0 rfl) ?_
              refine lv_iconst (v := 2) hx hb dX1_total_81 (by decide) ?_
              refine lv_icmp_ne (tgt := 95) hx hb dX1_total_82 (by decide) (fun c_y12_29 => ?_) (fun c_y12_29 => ?_)
              · have hG := zelse hG c_y12_29
                refine lv_iload hx hb dX1_total_95 (lv_at hl 0 rfl) ?_
                refine lv_iconst (v := 3) hx hb dX1_total_97 (by decide) ?_
                refine lv_icmp_ne (tgt := 122) hx hb dX1_total_98 (by decide) (fun c_y12_30 => ?_) (fun c_y12_30 => ?_)
                · have hG := zelse hG c_y12_30
                  refine lv_iload hx hb dX1_total_122 (lv_at hl 5 rfl) ?_
                  refine lv_if_eq (tgt := 135) hx hb dX1_total_124 (by decide) (fun c_y12_31 => ?_) (fun c_y12_31 => ?_)
                  · have hG := zthen hG c_y12_31
                    refine lv_lload hx hb dX1_total_135 (lv_at hl 7 rfl) ?_
                    refine lv_lload hx hb dX1_total_137 (lv_at hl 6 rfl) ?_
                    refine lv_ladd hx hb dX1_total_139 ?_
                    refine lv_topl (fun xy12_32 exy12_32 => ?_)
                    have hG := zbnd hG exy12_32
                    refine lv_lstore (lv' := [(4, .long xy12_32), (14, .int xy12_28), (12, .long xy12_27), (11, .int xy12_5), (10, .int xy12_4), (9, .int l12_0), (8, .int l12_1), (6, .long l12_2), (0, .ref l0), (1, .int p0), (2, .int p1), (3, .ref wA)]) hx hb dX1_total_140 hl (by decide) rfl (fun ls hl => ?_)
                    refine lv_lload hx hb dX1_total_142 (lv_at hl 2 rfl) ?_
                    refine lv_lstore (lv' := [(6, .long xy12_27), (4, .long xy12_32), (14, .int xy12_28), (12, .long xy12_27), (11, .int xy12_5), (10, .int xy12_4), (9, .int l12_0), (8, .int l12_1), (0, .ref l0), (1, .int p0), (2, .int p1), (3, .ref wA)]) hx hb dX1_total_144 hl (by decide) rfl (fun ls hl => ?_)
                    refine lv_iload hx hb dX1_total_146 (lv_at hl 2 rfl) ?_
                    refine lv_iconst (v := 1) hx hb dX1_total_148 (by decide) ?_
                    refine lv_icmp_ne (tgt := 156) hx hb dX1_total_149 (by decide) (fun c_y12_33 => ?_) (fun c_y12_33 => ?_)
                    · have hG := zelse hG c_y12_33
                      refine lv_iconst (v := 0) hx hb dX1_total_156 (by decide) ?_
                      refine lv_istore (lv' := [(8, .int 0), (6, .long xy12_27), (4, .long xy12_32), (14, .int xy12_28), (12, .long xy12_27), (11, .int xy12_5), (10, .int xy12_4), (9, .int l12_0), (0, .ref l0), (1, .int p0), (2, .int p1), (3, .ref wA)]) hx hb dX1_total_157 hl (by decide) rfl (fun ls hl => ?_)
                      obtain ⟨xy12_34, exy12_34⟩ : ∃ y : Int32, y = l12_0 + 1 := ⟨_, rfl⟩
                      have hG := zbnd hG exy12_34
                      refine lv_iinc (v := xy12_34) (lv' := [(9, .int xy12_34), (8, .int 0), (6, .long xy12_27), (4, .long xy12_32), (14, .int xy12_28), (12, .long xy12_27), (11, .int xy12_5), (10, .int xy12_4), (0, .ref l0), (1, .int p0), (2, .int p1), (3, .ref wA)]) hx hb dX1_total_159 hl (k := 7) rfl (by rw [exy12_34]; rfl) (by decide) rfl (fun ls hl => ?_)
                      refine lv_goto (tgt := 12) hx hb dX1_total_162 (by decide) ?_
                      exact ih xy12_34 0 xy12_27 xy12_32 H locs ls (z_up hn exy12_34 c_y12_2) hG (hP.sub [0, 1, 2, 3] rfl) (hD.sub [0, 1, 2, 3] (by decide) rfl) hS (lv_sub hl [0, 1, 2, 3, 8, 9, 10, 11] rfl)
                    · have hG := zthen hG c_y12_33
                      refine lv_iconst (v := 1) hx hb dX1_total_152 (by decide) ?_
                      refine lv_goto (tgt := 157) hx hb dX1_total_153 (by decide) ?_
                      refine lv_istore (lv' := [(8, .int 1), (6, .long xy12_27), (4, .long xy12_32), (14, .int xy12_28), (12, .long xy12_27), (11, .int xy12_5), (10, .int xy12_4), (9, .int l12_0), (0, .ref l0), (1, .int p0), (2, .int p1), (3, .ref wA)]) hx hb dX1_total_157 hl (by decide) rfl (fun ls hl => ?_)
                      obtain ⟨xy12_35, exy12_35⟩ : ∃ y : Int32, y = l12_0 + 1 := ⟨_, rfl⟩
                      have hG := zbnd hG exy12_35
                      refine lv_iinc (v := xy12_35) (lv' := [(9, .int xy12_35), (8, .int 1), (6, .long xy12_27), (4, .long xy12_32), (14, .int xy12_28), (12, .long xy12_27), (11, .int xy12_5), (10, .int xy12_4), (0, .ref l0), (1, .int p0), (2, .int p1), (3, .ref wA)]) hx hb dX1_total_159 hl (k := 7) rfl (by rw [exy12_35]; rfl) (by decide) rfl (fun ls hl => ?_)
                      refine lv_goto (tgt := 12) hx hb dX1_total_162 (by decide) ?_
                      exact ih xy12_35 1 xy12_27 xy12_32 H locs ls (z_up hn exy12_35 c_y12_2) hG (hP.sub [0, 1, 2, 3] rfl) (hD.sub [0, 1, 2, 3] (by decide) rfl) hS (lv_sub hl [0, 1, 2, 3, 8, 9, 10, 11] rfl)
                  · have hG := zelse hG c_y12_31
                    refine lv_lload hx hb dX1_total_127 (lv_at hl 7 rfl) ?_
                    refine lv_lload hx hb dX1_total_129 (lv_at hl 6 rfl) ?_
                    refine lv_lsub hx hb dX1_total_131 ?_
                    refine lv_topl (fun xy12_36 exy12_36 => ?_)
                    have hG := zbnd hG exy12_36
                    refine lv_goto (tgt := 140) hx hb dX1_total_132 (by decide) ?_
                    refine lv_lstore (lv' := [(4, .long xy12_36), (14, .int xy12_28), (12, .long xy12_27), (11, .int xy12_5), (10, .int xy12_4), (9, .int l12_0), (8, .int l12_1), (6, .long l12_2), (0, .ref l0), (1, .int p0), (2, .int p1), (3, .ref wA)]) hx hb dX1_total_140 hl (by decide) rfl (fun ls hl => ?_)
                    refine lv_lload hx hb dX1_total_142 (lv_at hl 2 rfl) ?_
                    refine lv_lstore (lv' := [(6, .long xy12_27), (4, .long xy12_36), (14, .int xy12_28), (12, .long xy12_27), (11, .int xy12_5), (10, .int xy12_4), (9, .int l12_0), (8, .int l12_1), (0, .ref l0), (1, .int p0), (2, .int p1), (3, .ref wA)]) hx hb dX1_total_144 hl (by decide) rfl (fun ls hl => ?_)
                    refine lv_iload hx hb dX1_total_146 (lv_at hl 2 rfl) ?_
                    refine lv_iconst (v := 1) hx hb dX1_total_148 (by decide) ?_
                    refine lv_icmp_ne (tgt := 156) hx hb dX1_total_149 (by decide) (fun c_y12_37 => ?_) (fun c_y12_37 => ?_)
                    · have hG := zelse hG c_y12_37
                      refine lv_iconst (v := 0) hx hb dX1_total_156 (by decide) ?_
                      refine lv_istore (lv' := [(8, .int 0), (6, .long xy12_27), (4, .long xy12_36), (14, .int xy12_28), (12, .long xy12_27), (11, .int xy12_5), (10, .int xy12_4), (9, .int l12_0), (0, .ref l0), (1, .int p0), (2, .int p1), (3, .ref wA)]) hx hb dX1_total_157 hl (by decide) rfl (fun ls hl => ?_)
                      obtain ⟨xy12_38, exy12_38⟩ : ∃ y : Int32, y = l12_0 + 1 := ⟨_, rfl⟩
                      have hG := zbnd hG exy12_38
                      refine lv_iinc (v := xy12_38) (lv' := [(9, .int xy12_38), (8, .int 0), (6, .long xy12_27), (4, .long xy12_36), (14, .int xy12_28), (12, .long xy12_27), (11, .int xy12_5), (10, .int xy12_4), (0, .ref l0), (1, .int p0), (2, .int p1), (3, .ref wA)]) hx hb dX1_total_159 hl (k := 7) rfl (by rw [exy12_38]; rfl) (by decide) rfl (fun ls hl => ?_)
                      refine lv_goto (tgt := 12) hx hb dX1_total_162 (by decide) ?_
                      exact ih xy12_38 0 xy12_27 xy12_36 H locs ls (z_up hn exy12_38 c_y12_2) hG (hP.sub [0, 1, 2, 3] rfl) (hD.sub [0, 1, 2, 3] (by decide) rfl) hS (lv_sub hl [0, 1, 2, 3, 8, 9, 10, 11] rfl)
                    · have hG := zthen hG c_y12_37
                      refine lv_iconst (v := 1) hx hb dX1_total_152 (by decide) ?_
                      refine lv_goto (tgt := 157) hx hb dX1_total_153 (by decide) ?_
                      refine lv_istore (lv' := [(8, .int 1), (6, .long xy12_27), (4, .long xy12_36), (14, .int xy12_28), (12, .long xy12_27), (11, .int xy12_5), (10, .int xy12_4), (9, .int l12_0), (0, .ref l0), (1, .int p0), (2, .int p1), (3, .ref wA)]) hx hb dX1_total_157 hl (by decide) rfl (fun ls hl => ?_)
                      obtain ⟨xy12_39, exy12_39⟩ : ∃ y : Int32, y = l12_0 + 1 := ⟨_, rfl⟩
                      have hG := zbnd hG exy12_39
                      refine lv_iinc (v := xy12_39) (lv' := [(9, .int xy12_39), (8, .int 1), (6, .long xy12_27), (4, .long xy12_36), (14, .int xy12_28), (12, .long xy12_27), (11, .int xy12_5), (10, .int xy12_4), (0, .ref l0), (1, .int p0), (2, .int p1), (3, .ref wA)]) hx hb dX1_total_159 hl (k := 7) rfl (by rw [exy12_39]; rfl) (by decide) rfl (fun ls hl => ?_)
                      refine lv_goto (tgt := 12) hx hb dX1_total_162 (by decide) ?_
                      exact ih xy12_39 1 xy12_27 xy12_36 H locs ls (z_up hn exy12_39 c_y12_2) hG (hP.sub [0, 1, 2, 3] rfl) (hD.sub [0, 1, 2, 3] (by decide) rfl) hS (lv_sub hl [0, 1, 2, 3, 8, 9, 10, 11] rfl)
                · have hG := zthen hG c_y12_30
                  refine lv_lload hx hb dX1_total_101 (lv_at hl 1 rfl) ?_
                  refine lv_lconst (v := 0) hx hb dX1_total_103 (by decide) ?_
                  refine W.lcmp hx hb dX1_total_104 ?_
                  refine lv_if_ne (tgt := 112) hx hb dX1_total_105 (by decide) (fun c_y12_40 => ?_) (fun c_y12_40 => ?_)
                  · have hG := zelse hG c_y12_40
                    refine lv_lload hx hb dX1_total_112 (lv_at hl 6 rfl) ?_
                    refine lv_lload hx hb dX1_total_114 (lv_at hl 1 rfl) ?_
                    refine lv_ldiv hx hb dX1_total_116 (fun q => c_y12_40 ((lg_cmp_eq _ _).mpr q)) ?_
                    refine lv_topl (fun xy12_41 exy12_41 => ?_)
                    have hG := zbnd hG exy12_41
                    refine lv_lstore (lv' := [(6, .long xy12_41), (14, .int xy12_28), (12, .long xy12_27), (11, .int xy12_5), (10, .int xy12_4), (9, .int l12_0), (8, .int l12_1), (4, .long l12_3), (0, .ref l0), (1, .int p0), (2, .int p1), (3, .ref wA)]) hx hb dX1_total_117 hl (by decide) rfl (fun ls hl => ?_)
                    refine lv_goto (tgt := 159) hx hb dX1_total_119 (by decide) ?_
                    obtain ⟨xy12_42, exy12_42⟩ : ∃ y : Int32, y = l12_0 + 1 := ⟨_, rfl⟩
                    have hG := zbnd hG exy12_42
                    refine lv_iinc (v := xy12_42) (lv' := [(9, .int xy12_42), (6, .long xy12_41), (14, .int xy12_28), (12, .long xy12_27), (11, .int xy12_5), (10, .int xy12_4), (8, .int l12_1), (4, .long l12_3), (0, .ref l0), (1, .int p0), (2, .int p1), (3, .ref wA)]) hx hb dX1_total_159 hl (k := 5) rfl (by rw [exy12_42]; rfl) (by decide) rfl (fun ls hl => ?_)
                    refine lv_goto (tgt := 12) hx hb dX1_total_162 (by decide) ?_
                    exact ih xy12_42 l12_1 xy12_41 l12_3 H locs ls (z_up hn exy12_42 c_y12_2) hG (hP.sub [0, 1, 2, 3] rfl) (hD.sub [0, 1, 2, 3] (by decide) rfl) hS (lv_sub hl [0, 6, 1, 7, 8, 9, 10, 11] rfl)
                  · have hG := zthen hG c_y12_40
                    refine lv_lconst (v := 0) hx hb dX1_total_108 (by decide) ?_
                    refine lv_goto (tgt := 117) hx hb dX1_total_109 (by decide) ?_
                    refine lv_lstore (lv' := [(6, .long 0), (14, .int xy12_28), (12, .long xy12_27), (11, .int xy12_5), (10, .int xy12_4), (9, .int l12_0), (8, .int l12_1), (4, .long l12_3), (0, .ref l0), (1, .int p0), (2, .int p1), (3, .ref wA)]) hx hb dX1_total_117 hl (by decide) rfl (fun ls hl => ?_)
                    refine lv_goto (tgt := 159) hx hb dX1_total_119 (by decide) ?_
                    obtain ⟨xy12_43, exy12_43⟩ : ∃ y : Int32, y = l12_0 + 1 := ⟨_, rfl⟩
                    have hG := zbnd hG exy12_43
                    refine lv_iinc (v := xy12_43) (lv' := [(9, .int xy12_43), (6, .long 0), (14, .int xy12_28), (12, .long xy12_27), (11, .int xy12_5), (10, .int xy12_4), (8, .int l12_1), (4, .long l12_3), (0, .ref l0), (1, .int p0), (2, .int p1), (3, .ref wA)]) hx hb dX1_total_159 hl (k := 5) rfl (by rw [exy12_43]; rfl) (by decide) rfl (fun ls hl => ?_)
                    refine lv_goto (tgt := 12) hx hb dX1_total_162 (by decide) ?_
                    exact ih xy12_43 l12_1 0 l12_3 H locs ls (z_up hn exy12_43 c_y12_2) hG (hP.sub [0, 1, 2, 3] rfl) (hD.sub [0, 1, 2, 3] (by decide) rfl) hS (lv_sub hl [0, 6, 1, 7, 8, 9, 10, 11] rfl)
              · have hG := zthen hG c_y12_29
                refine lv_lload hx hb dX1_total_85 (lv_at hl 6 rfl) ?_
                refine lv_lload hx hb dX1_total_87 (lv_at hl 1 rfl) ?_
                refine lv_lmul hx hb dX1_total_89 ?_
                refine lv_topl (fun xy12_44 exy12_44 => ?_)
                have hG := zbnd hG exy12_44
                refine lv_lstore (lv' := [(6, .long xy12_44), (14, .int xy12_28), (12, .long xy12_27), (11, .int xy12_5), (10, .int xy12_4), (9, .int l12_0), (8, .int l12_1), (4, .long l12_3), (0, .ref l0), (1, .int p0), (2, .int p1), (3, .ref wA)]) hx hb dX1_total_90 hl (by decide) rfl (fun ls hl => ?_)
                refine lv_goto (tgt := 159) hx hb dX1_total_92 (by decide) ?_
                obtain ⟨xy12_45, exy12_45⟩ : ∃ y : Int32, y = l12_0 + 1 := ⟨_, rfl⟩
                have hG := zbnd hG exy12_45
                refine lv_iinc (v := xy12_45) (lv' := [(9, .int xy12_45), (6, .long xy12_44), (14, .int xy12_28), (12, .long xy12_27), (11, .int xy12_5), (10, .int xy12_4), (8, .int l12_1), (4, .long l12_3), (0, .ref l0), (1, .int p0), (2, .int p1), (3, .ref wA)]) hx hb dX1_total_159 hl (k := 5) rfl (by rw [exy12_45]; rfl) (by decide) rfl (fun ls hl => ?_)
                refine lv_goto (tgt := 12) hx hb dX1_total_162 (by decide) ?_
                exact ih xy12_45 l12_1 xy12_44 l12_3 H locs ls (z_up hn exy12_45 c_y12_2) hG (hP.sub [0, 1, 2, 3] rfl) (hD.sub [0, 1, 2, 3] (by decide) rfl) hS (lv_sub hl [0, 6, 1, 7, 8, 9, 10, 11] rfl)
            · have hG := zelse hG c_y12_26
              refine lv_aload_n hx hb dX1_total_57 rfl (lv_at hl 9 rfl) ?_
              refine lv_iload hx hb dX1_total_58 (lv_at hl 0 rfl) ?_
              refine va_iald hx hb hK.1 hP 3 0 gz3 tzz0 (vp_lt (by decide) c_y12_6 c_y12_26) dX1_total_60 ?_
              refine lv_topi (fun xy12_46 exy12_46 => ?_)
              have hG := zbnd hG exy12_46
              refine lv_i2l hx hb dX1_total_61 rfl ?_
              refine lv_goto (tgt := 68) hx hb dX1_total_62 (by decide) ?_
              refine lv_topl (fun xy12_47 exy12_47 => ?_)
              have hG := zbnd hG exy12_47
              refine lv_lstore (lv' := [(12, .long xy12_47), (11, .int xy12_5), (10, .int xy12_4), (9, .int l12_0), (8, .int l12_1), (6, .long l12_2), (4, .long l12_3), (0, .ref l0), (1, .int p0), (2, .int p1), (3, .ref wA)]) hx hb dX1_total_68 hl (by decide) rfl (fun ls hl => ?_)
              refine lv_aload_n hx hb dX1_total_70 rfl (lv_at hl 7 rfl) ?_
              refine va_get (D := (dC, dI)) (ci := 1) (v := .ref yjoins) (C := RX1) (T := TX1) (N := 17) hx hb hts iX1_total_X1 hown hK.1 hP 0 gz0 vcz1 8 (by decide) (kX1_total_2 hts) (fun _ h9 => h9) gz8 dX1_total_71 ?_
              refine lv_iload hx hb dX1_total_74 (lv_at hl 3 rfl) ?_
              refine va_iald hx hb hK.1 hP 1 0 gz1 tzz0 (vp_lt (by decide) c_y12_1 c_y12_3) dX1_total_76 ?_
              refine lv_topi (fun xy12_48 exy12_48 => ?_)
              have hG := zbnd hG exy12_48
              refine lv_istore (lv' := [(14, .int xy12_48), (12, .long xy12_47), (11, .int xy12_5), (10, .int xy12_4), (9, .int l12_0), (8, .int l12_1), (6, .long l12_2), (4, .long l12_3), (0, .ref l0), (1, .int p0), (2, .int p1), (3, .ref wA)]) hx hb dX1_total_77 hl (by decide) rfl (fun ls hl => ?_)
              refine lv_iload hx hb dX1_total_79 (lv_at hl 0 rfl) ?_
              refine lv_iconst (v := 2) hx hb dX1_total_81 (by decide) ?_
              refine lv_icmp_ne (tgt := 95) hx hb dX1_total_82 (by decide) (fun c_y12_49 => ?_) (fun c_y12_49 => ?_)
              · have hG := zelse hG c_y12_49
                refine lv_iload hx hb dX1_total_95 (lv_at hl 0 rfl) ?_
                refine lv_iconst (v := 3) hx hb dX1_total_97 (by decide) ?_
                refine lv_icmp_ne (tgt := 122) hx hb dX1_total_98 (by decide) (fun c_y12_50 => ?_) (fun c_y12_50 => ?_)
                · have hG := zelse hG c_y12_50
                  refine lv_iload hx hb dX1_total_122 (lv_at hl 5 rfl) ?_
                  refine lv_if_eq (tgt := 135) hx hb dX1_total_124 (by decide) (fun c_y12_51 => ?_) (fun c_y12_51 => ?_)
                  · have hG := zthen hG c_y12_51
                    refine lv_lload hx hb dX1_total_135 (lv_at hl 7 rfl) ?_
                    refine lv_lload hx hb dX1_total_137 (lv_at hl 6 rfl) ?_
                    refine lv_ladd hx hb dX1_total_139 ?_
                    refine lv_topl (fun xy12_52 exy12_52 => ?_)
                    have hG := zbnd hG exy12_52
                    refine lv_lstore (lv' := [(4, .long xy12_52), (14, .int xy12_48), (12, .long xy12_47), (11, .int xy12_5), (10, .int xy12_4), (9, .int l12_0), (8, .int l12_1), (6, .long l12_2), (0, .ref l0), (1, .int p0), (2, .int p1), (3, .ref wA)]) hx hb dX1_total_140 hl (by decide) rfl (fun ls hl => ?_)
                    refine lv_lload hx hb dX1_total_142 (lv_at hl 2 rfl) ?_
                    refine lv_lstore (lv' := [(6, .long xy12_47), (4, .long xy12_52), (14, .int xy12_48), (12, .long xy12_47), (11, .int xy12_5), (10, .int xy12_4), (9, .int l12_0), (8, .int l12_1), (0, .ref l0), (1, .int p0), (2, .int p1), (3, .ref wA)]) hx hb dX1_total_144 hl (by decide) rfl (fun ls hl => ?_)
                    refine lv_iload hx hb dX1_total_146 (lv_at hl 2 rfl) ?_
                    refine lv_iconst (v := 1) hx hb dX1_total_148 (by decide) ?_
                    refine lv_icmp_ne (tgt := 156) hx hb dX1_total_149 (by decide) (fun c_y12_53 => ?_) (fun c_y12_53 => ?_)
                    · have hG := zelse hG c_y12_53
                      refine lv_iconst (v := 0) hx hb dX1_total_156 (by decide) ?_
                      refine lv_istore (lv' := [(8, .int 0), (6, .long xy12_47), (4, .long xy12_52), (14, .int xy12_48), (12, .long xy12_47), (11, .int xy12_5), (10, .int xy12_4), (9, .int l12_0), (0, .ref l0), (1, .int p0), (2, .int p1), (3, .ref wA)]) hx hb dX1_total_157 hl (by decide) rfl (fun ls hl => ?_)
                      obtain ⟨xy12_54, exy12_54⟩ : ∃ y : Int32, y = l12_0 + 1 := ⟨_, rfl⟩
                      have hG := zbnd hG exy12_54
                      refine lv_iinc (v := xy12_54) (lv' := [(9, .int xy12_54), (8, .int 0), (6, .long xy12_47), (4, .long xy12_52), (14, .int xy12_48), (12, .long xy12_47), (11, .int xy12_5), (10, .int xy12_4), (0, .ref l0), (1, .int p0), (2, .int p1), (3, .ref wA)]) hx hb dX1_total_159 hl (k := 7) rfl (by rw [exy12_54]; rfl) (by decide) rfl (fun ls hl => ?_)
                      refine lv_goto (tgt := 12) hx hb dX1_total_162 (by decide) ?_
                      exact ih xy12_54 0 xy12_47 xy12_52 H locs ls (z_up hn exy12_54 c_y12_2) hG (hP.sub [0, 1, 2, 3] rfl) (hD.sub [0, 1, 2, 3] (by decide) rfl) hS (lv_sub hl [0, 1, 2, 3, 8, 9, 10, 11] rfl)
                    · have hG := zthen hG c_y12_53
                      refine lv_iconst (v := 1) hx hb dX1_total_152 (by decide) ?_
                      refine lv_goto (tgt := 157) hx hb dX1_total_153 (by decide) ?_
                      refine lv_istore (lv' := [(8, .int 1), (6, .long xy12_47), (4, .long xy12_52), (14, .int xy12_48), (12, .long xy12_47), (11, .int xy12_5), (10, .int xy12_4), (9, .int l12_0), (0, .ref l0), (1, .int p0), (2, .int p1), (3, .ref wA)]) hx hb dX1_total_157 hl (by decide) rfl (fun ls hl => ?_)
                      obtain ⟨xy12_55, exy12_55⟩ : ∃ y : Int32, y = l12_0 + 1 := ⟨_, rfl⟩
                      have hG := zbnd hG exy12_55
                      refine lv_iinc (v := xy12_55) (lv' := [(9, .int xy12_55), (8, .int 1), (6, .long xy12_47), (4, .long xy12_52), (14, .int xy12_48), (12, .long xy12_47), (11, .int xy12_5), (10, .int xy12_4), (0, .ref l0), (1, .int p0), (2, .int p1), (3, .ref wA)]) hx hb dX1_total_159 hl (k := 7) rfl (by rw [exy12_55]; rfl) (by decide) rfl (fun ls hl => ?_)
                      refine lv_goto (tgt := 12) hx hb dX1_total_162 (by decide) ?_
                      exact ih xy12_55 1 xy12_47 xy12_52 H locs ls (z_up hn exy12_55 c_y12_2) hG (hP.sub [0, 1, 2, 3] rfl) (hD.sub [0, 1, 2, 3] (by decide) rfl) hS (lv_sub hl [0, 1, 2, 3, 8, 9, 10, 11] rfl)
                  · have hG := zelse hG c_y12_51
                    refine lv_lload hx hb dX1_total_127 (lv_at hl 7 rfl) ?_
                    refine lv_lload hx hb dX1_total_129 (lv_at hl 6 rfl) ?_
                    refine lv_lsub hx hb dX1_total_131 ?_
                    refine lv_topl (fun xy12_56 exy12_56 => ?_)
                    have hG := zbnd hG exy12_56
                    refine lv_goto (tgt := 140) hx hb dX1_total_132 (by decide) ?_
                    refine lv_lstore (lv' := [(4, .long xy12_56), (14, .int xy12_48), (12, .long xy12_47), (11, .int xy12_5), (10, .int xy12_4), (9, .int l12_0), (8, .int l12_1), (6, .long l12_2), (0, .ref l0), (1, .int p0), (2, .int p1), (3, .ref wA)]) hx hb dX1_total_140 hl (by decide) rfl (fun ls hl => ?_)
                    refine lv_lload hx hb dX1_total_142 (lv_at hl 2 rfl) ?_
                    refine lv_lstore (lv' := [(6, .long xy12_47), (4, .long xy12_56), (14, .int xy12_48), (12, .long xy12_47), (11, .int xy12_5), (10, .int xy12_4), (9, .int l12_0), (8, .int l12_1), (0, .ref l0), (1, .int p0), (2, .int p1), (3, .ref wA)]) hx hb dX1_total_144 hl (by decide) rfl (fun ls hl => ?_)
                    refine lv_iload hx hb dX1_total_146 (lv_at hl 2 rfl) ?_
                    refine lv_iconst (v := 1) hx hb dX1_total_148 (by decide) ?_
                    refine lv_icmp_ne (tgt := 156) hx hb dX1_total_149 (by decide) (fun c_y12_57 => ?_) (fun c_y12_57 => ?_)
                    · have hG := zelse hG c_y12_57
                      refine lv_iconst (v := 0) hx hb dX1_total_156 (by decide) ?_
                      refine lv_istore (lv' := [(8, .int 0), (6, .long xy12_47), (4, .long xy12_56), (14, .int xy12_48), (12, .long xy12_47), (11, .int xy12_5), (10, .int xy12_4), (9, .int l12_0), (0, .ref l0), (1, .int p0), (2, .int p1), (3, .ref wA)]) hx hb dX1_total_157 hl (by decide) rfl (fun ls hl => ?_)
                      obtain ⟨xy12_58, exy12_58⟩ : ∃ y : Int32, y = l12_0 + 1 := ⟨_, rfl⟩
                      have hG := zbnd hG exy12_58
                      refine lv_iinc (v := xy12_58) (lv' := [(9, .int xy12_58), (8, .int 0), (6, .long xy12_47), (4, .long xy12_56), (14, .int xy12_48), (12, .long xy12_47), (11, .int xy12_5), (10, .int xy12_4), (0, .ref l0), (1, .int p0), (2, .int p1), (3, .ref wA)]) hx hb dX1_total_159 hl (k := 7) rfl (by rw [exy12_58]; rfl) (by decide) rfl (fun ls hl => ?_)
                      refine lv_goto (tgt := 12) hx hb dX1_total_162 (by decide) ?_
                      exact ih xy12_58 0 xy12_47 xy12_56 H locs ls (z_up hn exy12_58 c_y12_2) hG (hP.sub [0, 1, 2, 3] rfl) (hD.sub [0, 1, 2, 3] (by decide) rfl) hS (lv_sub hl [0, 1, 2, 3, 8, 9, 10, 11] rfl)
                    · have hG := zthen hG c_y12_57
                      refine lv_iconst (v := 1) hx hb dX1_total_152 (by decide) ?_
                      refine lv_goto (tgt := 157) hx hb dX1_total_153 (by decide) ?_
                      refine lv_istore (lv' := [(8, .int 1), (6, .long xy12_47), (4, .long xy12_56), (14, .int xy12_48), (12, .long xy12_47), (11, .int xy12_5), (10, .int xy12_4), (9, .int l12_0), (0, .ref l0), (1, .int p0), (2, .int p1), (3, .ref wA)]) hx hb dX1_total_157 hl (by decide) rfl (fun ls hl => ?_)
                      obtain ⟨xy12_59, exy12_59⟩ : ∃ y : Int32, y = l12_0 + 1 := ⟨_, rfl⟩
                      have hG := zbnd hG exy12_59
                      refine lv_iinc (v := xy12_59) (lv' := [(9, .int xy12_59), (8, .int 1), (6, .long xy12_47), (4, .long xy12_56), (14, .int xy12_48), (12, .long xy12_47), (11, .int xy12_5), (10, .int xy12_4), (0, .ref l0), (1, .int p0), (2, .int p1), (3, .ref wA)]) hx hb dX1_total_159 hl (k := 7) rfl (by rw [exy12_59]; rfl) (by decide) rfl (fun ls hl => ?_)
                      refine lv_goto (tgt := 12) hx hb dX1_total_162 (by decide) ?_
                      exact ih xy12_59 1 xy12_47 xy12_56 H locs ls (z_up hn exy12_59 c_y12_2) hG (hP.sub [0, 1, 2, 3] rfl) (hD.sub [0, 1, 2, 3] (by decide) rfl) hS (lv_sub hl [0, 1, 2, 3, 8, 9, 10, 11] rfl)
                · have hG := zthen hG c_y12_50
                  refine lv_lload hx hb dX1_total_101 (lv_at hl 1 rfl) ?_
                  refine lv_lconst (v := 0) hx hb dX1_total_103 (by decide) ?_
                  refine W.lcmp hx hb dX1_total_104 ?_
                  refine lv_if_ne (tgt := 112) hx hb dX1_total_105 (by decide) (fun c_y12_60 => ?_) (fun c_y12_60 => ?_)
                  · have hG := zelse hG c_y12_60
                    refine lv_lload hx hb dX1_total_112 (lv_at hl 6 rfl) ?_
                    refine lv_lload hx hb dX1_total_114 (lv_at hl 1 rfl) ?_
                    refine lv_ldiv hx hb dX1_total_116 (fun q => c_y12_60 ((lg_cmp_eq _ _).mpr q)) ?_
                    refine lv_topl (fun xy12_61 exy12_61 => ?_)
                    have hG := zbnd hG exy12_61
                    refine lv_lstore (lv' := [(6, .long xy12_61), (14, .int xy12_48), (12, .long xy12_47), (11, .int xy12_5), (10, .int xy12_4), (9, .int l12_0), (8, .int l12_1), (4, .long l12_3), (0, .ref l0), (1, .int p0), (2, .int p1), (3, .ref wA)]) hx hb dX1_total_117 hl (by decide) rfl (fun ls hl => ?_)
                    refine lv_goto (tgt := 159) hx hb dX1_total_119 (by decide) ?_
                    obtain ⟨xy12_62, exy12_62⟩ : ∃ y : Int32, y = l12_0 + 1 := ⟨_, rfl⟩
                    have hG := zbnd hG exy12_62
                    refine lv_iinc (v := xy12_62) (lv' := [(9, .int xy12_62), (6, .long xy12_61), (14, .int xy12_48), (12, .long xy12_47), (11, .int xy12_5), (10, .int xy12_4), (8, .int l12_1), (4, .long l12_3), (0, .ref l0), (1, .int p0), (2, .int p1), (3, .ref wA)]) hx hb dX1_total_159 hl (k := 5) rfl (by rw [exy12_62]; rfl) (by decide) rfl (fun ls hl => ?_)
                    refine lv_goto (tgt := 12) hx hb dX1_total_162 (by decide) ?_
                    exact ih xy12_62 l12_1 xy12_61 l12_3 H locs ls (z_up hn exy12_62 c_y12_2) hG (hP.sub [0, 1, 2, 3] rfl) (hD.sub [0, 1, 2, 3] (by decide) rfl) hS (lv_sub hl [0, 6, 1, 7, 8, 9, 10, 11] rfl)
                  · have hG := zthen hG c_y12_60
                    refine lv_lconst (v := 0) hx hb dX1_total_108 (by decide) ?_
                    refine lv_goto (tgt := 117) hx hb dX1_total_109 (by decide) ?_
                    refine lv_lstore (lv' := [(6, .long 0), (14, .int xy12_48), (12, .long xy12_47), (11, .int xy12_5), (10, .int xy12_4), (9, .int l12_0), (8, .int l12_1), (4, .long l12_3), (0, .ref l0), (1, .int p0), (2, .int p1), (3, .ref wA)]) hx hb dX1_total_117 hl (by decide) rfl (fun ls hl => ?_)
                    refine lv_goto (tgt := 159) hx hb dX1_total_119 (by decide) ?_
                    obtain ⟨xy12_63, exy12_63⟩ : ∃ y : Int32, y = l12_0 + 1 := ⟨_, rfl⟩
                    have hG := zbnd hG exy12_63
                    refine lv_iinc (v := xy12_63) (lv' := [(9, .int xy12_63), (6, .long 0), (14, .int xy12_48), (12, .long xy12_47), (11, .int xy12_5), (10, .int xy12_4), (8, .int l12_1), (4, .long l12_3), (0, .ref l0), (1, .int p0), (2, .int p1), (3, .ref wA)]) hx hb dX1_total_159 hl (k := 5) rfl (by rw [exy12_63]; rfl) (by decide) rfl (fun ls hl => ?_)
                    refine lv_goto (tgt := 12) hx hb dX1_total_162 (by decide) ?_
                    exact ih xy12_63 l12_1 0 l12_3 H locs ls (z_up hn exy12_63 c_y12_2) hG (hP.sub [0, 1, 2, 3] rfl) (hD.sub [0, 1, 2, 3] (by decide) rfl) hS (lv_sub hl [0, 6, 1, 7, 8, 9, 10, 11] rfl)
              · have hG := zthen hG c_y12_49
                refine lv_lload hx hb dX1_total_85 (lv_at hl 6 rfl) ?_
                refine lv_lload hx hb dX1_total_87 (lv_at hl 1 rfl) ?_
                refine lv_lmul hx hb dX1_total_89 ?_
                refine lv_topl (fun xy12_64 exy12_64 => ?_)
                have hG := zbnd hG exy12_64
                refine lv_lstore (lv' := [(6, .long xy12_64), (14, .int xy12_48), (12, .long xy12_47), (11, .int xy12_5), (10, .int xy12_4), (9, .int l12_0), (8, .int l12_1), (4, .long l12_3), (0, .ref l0), (1, .int p0), (2, .int p1), (3, .ref wA)]) hx hb dX1_total_90 hl (by decide) rfl (fun ls hl => ?_)
                refine lv_goto (tgt := 159) hx hb dX1_total_92 (by decide) ?_
                obtain ⟨xy12_65, exy12_65⟩ : ∃ y : Int32, y = l12_0 + 1 := ⟨_, rfl⟩
                have hG := zbnd hG exy12_65
                refine lv_iinc (v := xy12_65) (lv' := [(9, .int xy12_65), (6, .long xy12_64), (14, .int xy12_48), (12, .long xy12_47), (11, .int xy12_5), (10, .int xy12_4), (8, .int l12_1), (4, .long l12_3), (0, .ref l0), (1, .int p0), (2, .int p1), (3, .ref wA)]) hx hb dX1_total_159 hl (k := 5) rfl (by rw [exy12_65]; rfl) (by decide) rfl (fun ls hl => ?_)
                refine lv_goto (tgt := 12) hx hb dX1_total_162 (by decide) ?_
                exact ih xy12_65 l12_1 xy12_64 l12_3 H locs ls (z_up hn exy12_65 c_y12_2) hG (hP.sub [0, 1, 2, 3] rfl) (hD.sub [0, 1, 2, 3] (by decide) rfl) hS (lv_sub hl [0, 6, 1, 7, 8, 9, 10, 11] rfl)
set_option maxRecDepth 100000 in
def fX1_total (yjoinsF : Nat → Int32) (yoperandsF : Nat → Int32) (p0 : Int32) (p1 : Int32) (wF : Nat → Int32) : Int64 := fl_mX1_total_12 yjoinsF yoperandsF p1 wF (fun (w165_0_0 : Int32) (w165_1_0 : Int32) (w165_2_0 : Int64) (w165_3_0 : Int64) => if w165_1_0 = 0 then (bnd ((w165_3_0 + w165_2_0)) (fun (x2 : Int64) => x2)) else (bnd ((w165_3_0 - w165_2_0)) (fun (x3 : Int64) => x3))) (((p1 : Int32).toInt - p0.toInt).toNat + 1) p0 0 0 0
set_option maxHeartbeats 4000000 in
set_option maxRecDepth 100000 in
theorem mX1_total (l : Launch) (dC : Nat → ClassId) (dI : Nat → Nat → Nat) (kA : Nat → ClassId) (sz : Nat) (l0 : Nat) (ysorts : Nat) (ysumStarts : Nat) (ysumStops : Nat) (ytestStarts : Nat) (ytestStops : Nat) (yjoins : Nat) (yoperands : Nat) (yfactStarts : Nat) (yfactMiddles : Nat) (yfactStops : Nat) (ysigns : Nat) (ytests : Nat) (yjoinsF : Nat → Int32) (yoperandsF : Nat → Int32) (ychain : Int32) (yclauses : Int32) (yvalues : Int32) (yfacts : Int32) (ysteps : Int32) (p0 : Int32) (p1 : Int32) (wA : Nat) (wF : Nat → Int32)  : Met l yX1_total wsX1_total ({ frames := 0, cells := 0, slots := 0, locals := 0 }) (zPc dC dI kA sz [.ref l0, .int p0, .int p1, .ref wA] [(l0, .inr (1, [.int ychain, .int yclauses, .ref ysorts, .ref ysumStarts, .ref ysumStops, .ref ytestStarts, .ref ytestStops, .int yvalues, .ref yjoins, .ref yoperands, .int yfacts, .ref yfactStarts, .ref yfactMiddles, .ref yfactStops, .ref ysigns, .int ysteps, .ref ytests])), (yjoins, .inl (kA 0, 60, .inl yjoinsF)), (yoperands, .inl (kA 0, 60, .inl yoperandsF)), (wA, .inl (kA 0, 11, .inl wF))]) (va_Ql (fun (r : Int64) (u : Int64) => r = u ∧ u = fX1_total yjoinsF yoperandsF p0 p1 wF) (zB dC dI (va_A [(l0, .inr (1, [.int ychain, .int yclauses, .ref ysorts, .ref ysumStarts, .ref ysumStops, .ref ytestStarts, .ref ytestStops, .int yvalues, .ref yjoins, .ref yoperands, .int yfacts, .ref yfactStarts, .ref yfactMiddles, .ref yfactStops, .ref ysigns, .int ysteps, .ref ytests])), (yjoins, .inl (kA 0, 60, .inl yjoinsF)), (yoperands, .inl (kA 0, 60, .inl yoperandsF)), (wA, .inl (kA 0, 11, .inl wF))] sz) (fun (u : Int64) => [(l0, .inr (1, [.int ychain, .int yclauses, .ref ysorts, .ref ysumStarts, .ref ysumStops, .ref ytestStarts, .ref ytestStops, .int yvalues, .ref yjoins, .ref yoperands, .int yfacts, .ref yfactStarts, .ref yfactMiddles, .ref yfactStops, .ref ysigns, .int ysteps, .ref ytests])), (yjoins, .inl (kA 0, 60, .inl yjoinsF)), (yoperands, .inl (kA 0, 60, .inl yoperandsF)), (wA, .inl (kA 0, 11, .inl wF))])) (va_A [(l0, .inr (1, [.int ychain, .int yclauses, .ref ysorts, .ref ysumStarts, .ref ysumStops, .ref ytestStarts, .ref ytestStops, .int yvalues, .ref yjoins, .ref yoperands, .int yfacts, .ref yfactStarts, .ref yfactMiddles, .ref yfactStops, .ref ysigns, .int ysteps, .ref ytests])), (yjoins, .inl (kA 0, 60, .inl yjoinsF)), (yoperands, .inl (kA 0, 60, .inl yoperandsF)), (wA, .inl (kA 0, 11, .inl wF))] sz)) 0 0 (va_A [(l0, .inr (1, [.int ychain, .int yclauses, .ref ysorts, .ref ysumStarts, .ref ysumStops, .ref ytestStarts, .ref ytestStops, .int yvalues, .ref yjoins, .ref yoperands, .int yfacts, .ref yfactStarts, .ref yfactMiddles, .ref yfactStops, .ref ysigns, .int ysteps, .ref ytests])), (yjoins, .inl (kA 0, 60, .inl yjoinsF)), (yoperands, .inl (kA 0, 60, .inl yoperandsF)), (wA, .inl (kA 0, 11, .inl wF))] sz) := by
  refine Met.ofW (cc := cX1_total) (maxL := 15) (ret := (some .long)) pnX1 rfl ?_
  intro p e s m args below meth c s₁ B hml hv
  obtain ⟨rfl, hsz, hP, hK, hD0⟩ := hv
  have hx := B.exec
  have hb := B.bytes
  have hr := B.returns
  have hts := atoms_spec (ws := wsX1_total) B.pre
  have hown : s.vm.findClass RX1 = some m.cls := findClass_of_methodNamed B.named
  have hlocks := B.notSynchronized
  subst hsz
  have hD := hD0.self (sz := s.heap.size)
  generalize hAe : va_A [(l0, .inr (1, [.int ychain, .int yclauses, .ref ysorts, .ref ysumStarts, .ref ysumStops, .ref ytestStarts, .ref ytestStops, .int yvalues, .ref yjoins, .ref yoperands, .int yfacts, .ref yfactStarts, .ref yfactMiddles, .ref yfactStops, .ref ysigns, .int ysteps, .ref ytests])), (yjoins, .inl (kA 0, 60, .inl yjoinsF)), (yoperands, .inl (kA 0, 60, .inl yoperandsF)), (wA, .inl (kA 0, 11, .inl wF))] s.heap.size = A at hD ⊢
  have hA : ∀ q : Nat, s.heap.size ≤ q → A q := zA_of hAe
  have hS : va_S A s.heap s.heap [] := va_S.rf
  have hP : va_P (dC, dI) vwCl [(l0, .inr (1, [.int ychain, .int yclauses, .ref ysorts, .ref ysumStarts, .ref ysumStops, .ref ytestStarts, .ref ytestStops, .int yvalues, .ref yjoins, .ref yoperands, .int yfacts, .ref yfactStarts, .ref yfactMiddles, .ref yfactStops, .ref ysigns, .int ysteps, .ref ytests])), (yjoins, .inl (kA 0, 60, .inl yjoinsF)), (yoperands, .inl (kA 0, 60, .inl yoperandsF)), (wA, .inl (kA 0, 11, .inl wF))] s.heap := hP
  have hl := lv_entry ([.ref l0, .int p0, .int p1, .ref wA]) (n := 15) (Nat.le_of_ble_eq_true rfl)
  rw [lg_entry_eq]
  generalize (lg_sl ([.ref l0, .int p0, .int p1, .ref wA]) ++ List.replicate (15 - (lg_sl ([.ref l0, .int p0, .int p1, .ref wA])).length) Slot.unset).toArray = ls at hl ⊢
  have hl : lv_has ls 15 [(0, .ref l0), (1, .int p0), (2, .int p1), (3, .ref wA)] := hl
  obtain ⟨H, hHe⟩ : ∃ H : Heap, H = s.heap := ⟨_, rfl⟩
  obtain ⟨G, hG0⟩ : ∃ G : Int64, fX1_total yjoinsF yoperandsF p0 p1 wF = G := ⟨_, rfl⟩
  have hG := hG0
  unfold fX1_total at hG
  refine lv_lconst (v := 0) hx hb dX1_total_0 (by decide) ?_
  refine lv_lstore (lv' := [(4, .long 0), (0, .ref l0), (1, .int p0), (2, .int p1), (3, .ref wA)]) hx hb dX1_total_1 hl (by decide) rfl (fun ls hl => ?_)
  refine lv_lconst (v := 0) hx hb dX1_total_3 (by decide) ?_
  refine lv_lstore (lv' := [(6, .long 0), (4, .long 0), (0, .ref l0), (1, .int p0), (2, .int p1), (3, .ref wA)]) hx hb dX1_total_4 hl (by decide) rfl (fun ls hl => ?_)
  refine lv_iconst (v := 0) hx hb dX1_total_6 (by decide) ?_
  refine lv_istore (lv' := [(8, .int 0), (6, .long 0), (4, .long 0), (0, .ref l0), (1, .int p0), (2, .int p1), (3, .ref wA)]) hx hb dX1_total_7 hl (by decide) rfl (fun ls hl => ?_)
  refine lv_iload_n hx hb dX1_total_9 rfl (lv_at hl 4 rfl) ?_
  refine lv_istore (lv' := [(9, .int p0), (8, .int 0), (6, .long 0), (4, .long 0), (0, .ref l0), (1, .int p0), (2, .int p1), (3, .ref wA)]) hx hb dX1_total_10 hl (by decide) rfl (fun ls hl => ?_)
  refine lp_mX1_total_12 hx hb hml hts hown hK hA (Nat.le_of_ble_eq_true rfl) (Nat.le_of_ble_eq_true rfl) (Nat.le_of_ble_eq_true rfl) (Nat.le_of_ble_eq_true rfl) l0 ysorts ysumStarts ysumStops ytestStarts ytestStops yjoins yoperands yfactStarts yfactMiddles yfactStops ysigns ytests yjoinsF yoperandsF ychain yclauses yvalues yfacts ysteps p0 p1 wA wF  (fun w165_0_0 w165_1_0 w165_2_0 w165_3_0 H locs ls hG hP hD hS hl => ?_) _ p0 0 0 0 _ _ ls (Nat.lt_succ_self _) hG hP hD hS (lv_sub hl [0, 1, 2, 3, 4, 5, 6, 7] rfl)
  obtain ⟨hP, hD⟩ := z_re (L := [(l0, .inr (1, [.int ychain, .int yclauses, .ref ysorts, .ref ysumStarts, .ref ysumStops, .ref ytestStarts, .ref ytestStops, .int yvalues, .ref yjoins, .ref yoperands, .int yfacts, .ref yfactStarts, .ref yfactMiddles, .ref yfactStops, .ref ysigns, .int ysteps, .ref ytests])), (yjoins, .inl (kA 0, 60, .inl yjoinsF)), (yoperands, .inl (kA 0, 60, .inl yoperandsF)), (wA, .inl (kA 0, 11, .inl wF))]) hP hD
  refine lv_iload hx hb dX1_total_165 (lv_at hl 1 rfl) ?_
  refine lv_if_eq (tgt := 178) hx hb dX1_total_167 (by decide) (fun c_1 => ?_) (fun c_1 => ?_)
  · have hG := zthen hG c_1
    refine lv_lload hx hb dX1_total_178 (lv_at hl 3 rfl) ?_
    refine lv_lload hx hb dX1_total_180 (lv_at hl 2 rfl) ?_
    refine lv_ladd hx hb dX1_total_182 ?_
    refine lv_topl (fun x2 ex2 => ?_)
    have hG := zbnd hG ex2
    obtain ⟨hP9, hD9⟩ := z_sb (L' := [(l0, .inr (1, [.int ychain, .int yclauses, .ref ysorts, .ref ysumStarts, .ref ysumStops, .ref ytestStarts, .ref ytestStops, .int yvalues, .ref yjoins, .ref yoperands, .int yfacts, .ref yfactStarts, .ref yfactMiddles, .ref yfactStops, .ref ysigns, .int ysteps, .ref ytests])), (yjoins, .inl (kA 0, 60, .inl yjoinsF)), (yoperands, .inl (kA 0, 60, .inl yoperandsF)), (wA, .inl (kA 0, 11, .inl wF))]) hP hD [0, 1, 2, 3] (by decide) rfl
    refine W.widen (k := 0) (n := 0) (Nat.le_of_ble_eq_true rfl) (Nat.le_of_ble_eq_true rfl) ?_
    exact W.lret (v := x2) hx hb hr (fun t ht hW => ⟨⟨x2, (x2), rfl, ⟨rfl, (hG.trans hG0.symm)⟩, by rw [ht]; exact hP9, hD9⟩, hS.F ht⟩) hS.2.2 dX1_total_183
  · have hG := zelse hG c_1
    refine lv_lload hx hb dX1_total_170 (lv_at hl 3 rfl) ?_
    refine lv_lload hx hb dX1_total_172 (lv_at hl 2 rfl) ?_
    refine lv_lsub hx hb dX1_total_174 ?_
    refine lv_topl (fun x3 ex3 => ?_)
    have hG := zbnd hG ex3
    refine lv_goto (tgt := 183) hx hb dX1_total_175 (by decide) ?_
    obtain ⟨hP9, hD9⟩ := z_sb (L' := [(l0, .inr (1, [.int ychain, .int yclauses, .ref ysorts, .ref ysumStarts, .ref ysumStops, .ref ytestStarts, .ref ytestStops, .int yvalues, .ref yjoins, .ref yoperands, .int yfacts, .ref yfactStarts, .ref yfactMiddles, .ref yfactStops, .ref ysigns, .int ysteps, .ref ytests])), (yjoins, .inl (kA 0, 60, .inl yjoinsF)), (yoperands, .inl (kA 0, 60, .inl yoperandsF)), (wA, .inl (kA 0, 11, .inl wF))]) hP hD [0, 1, 2, 3] (by decide) rfl
    refine W.widen (k := 0) (n := 0) (Nat.le_of_ble_eq_true rfl) (Nat.le_of_ble_eq_true rfl) ?_
    exact W.lret (v := x3) hx hb hr (fun t ht hW => ⟨⟨x3, (x3), rfl, ⟨rfl, (hG.trans hG0.symm)⟩, by rw [ht]; exact hP9, hD9⟩, hS.F ht⟩) hS.2.2 dX1_total_183
set_option maxRecDepth 100000 in
def fb_mX1_holds_6 (yjoinsF : Nat → Int32) (yoperandsF : Nat → Int32) (yfactStartsF : Nat → Int32) (yfactMiddlesF : Nat → Int32) (yfactStopsF : Nat → Int32) (ysignsF : Nat → Int32) (ytestsF : Nat → Int32) (p1 : Int32) (wF : Nat → Int32) (E183 : Int32 → Int64 → Int32) (K : Int32 → Int64 → Int32) (l6_0 : Int32) (l6_1 : Int64) : Int32 := if l6_0 < 0 then (E183 l6_0 l6_1) else (if p1 ≤ l6_0 then (E183 l6_0 l6_1) else (if 256 ≤ l6_0 then (E183 l6_0 l6_1) else (bnd (ytestsF l6_0.toNatClampNeg) (fun (xy6_4 : Int32) => if xy6_4 = (-1) then (bnd ((l6_1 ^^^ 1)) (fun (xy6_53 : Int64) => bnd ((l6_0 + 1)) (fun (xy6_54 : Int32) => K xy6_54 xy6_53))) else (if xy6_4 = (-2) then (bnd ((((l6_1 : Int64).toUInt64 >>> ((1 : Int32).toInt64.toUInt64 &&& Int64.toUInt64 63)).toInt64)) (fun (xy6_49 : Int64) => bnd ((l6_1 ||| (-2))) (fun (xy6_50 : Int64) => bnd ((xy6_49 &&& xy6_50)) (fun (xy6_51 : Int64) => bnd ((l6_0 + 1)) (fun (xy6_52 : Int32) => K xy6_52 xy6_51))))) else (if xy6_4 = (-3) then (bnd ((((l6_1 : Int64).toUInt64 >>> ((1 : Int32).toInt64.toUInt64 &&& Int64.toUInt64 63)).toInt64)) (fun (xy6_45 : Int64) => bnd ((l6_1 &&& 1)) (fun (xy6_46 : Int64) => bnd ((xy6_45 ||| xy6_46)) (fun (xy6_47 : Int64) => bnd ((l6_0 + 1)) (fun (xy6_48 : Int32) => K xy6_48 xy6_47))))) else (if xy6_4 < 0 then (bnd ((l6_0 + 1)) (fun (xy6_9 : Int32) => K xy6_9 l6_1)) else (if 20 ≤ xy6_4 then (bnd ((l6_0 + 1)) (fun (xy6_11 : Int32) => K xy6_11 l6_1)) else (bnd (yfactStartsF xy6_4.toNatClampNeg) (fun (xy6_12 : Int32) => bnd (yfactMiddlesF xy6_4.toNatClampNeg) (fun (xy6_13 : Int32) => bnd (fX1_total yjoinsF yoperandsF xy6_12 xy6_13 wF) (fun (ry6_16 : Int64) => bnd (yfactMiddlesF xy6_4.toNatClampNeg) (fun (xy6_21 : Int32) => bnd (yfactStopsF xy6_4.toNatClampNeg) (fun (xy6_22 : Int32) => bnd (fX1_total yjoinsF yoperandsF xy6_21 xy6_22 wF) (fun (ry6_25 : Int64) => bnd (((l6_1 : Int64) <<< ((1 : Int32).toInt64 &&& 63))) (fun (xy6_30 : Int64) => bnd (ysignsF xy6_4.toNatClampNeg) (fun (xy6_31 : Int32) => bnd (fX1_isTrue ry6_16 xy6_31 ry6_25) (fun (ry6_34 : Int32) => if ry6_34 = 0 then (bnd ((xy6_30 ||| 0)) (fun (xy6_41 : Int64) => bnd ((l6_0 + 1)) (fun (xy6_42 : Int32) => K xy6_42 xy6_41))) else (bnd ((xy6_30 ||| 1)) (fun (xy6_43 : Int64) => bnd ((l6_0 + 1)) (fun (xy6_44 : Int32) => K xy6_44 xy6_43)))))))))))))))))))))
def fl_mX1_holds_6 (yjoinsF : Nat → Int32) (yoperandsF : Nat → Int32) (yfactStartsF : Nat → Int32) (yfactMiddlesF : Nat → Int32) (yfactStopsF : Nat → Int32) (ysignsF : Nat → Int32) (ytestsF : Nat → Int32) (p1 : Int32) (wF : Nat → Int32) (E183 : Int32 → Int64 → Int32) : Nat → Int32 → Int64 → Int32
  | 0, _, _ => 0
  | n + 1, l6_0, l6_1 => fb_mX1_holds_6 yjoinsF yoperandsF yfactStartsF yfactMiddlesF yfactStopsF ysignsF ytestsF p1 wF E183 (fl_mX1_holds_6 yjoinsF yoperandsF yfactStartsF yfactMiddlesF yfactStopsF ysignsF ytestsF p1 wF E183 n) l6_0 l6_1
set_option maxHeartbeats 4000000 in
set_option maxRecDepth 100000 in
theorem lp_mX1_holds_6 {p : Program} {l : Launch} {e : Env} {R : Room} {s : State} {m : MethodId} {args : Array Value} {below : List Frame} {meth : Method} {c : Code} {Q : State → Prop} {dC : Nat → ClassId} {dI : Nat → Nat → Nat} {kA : Nat → ClassId} {A : Nat → Prop} {H0 : Heap} {cells slots : Nat} (hx : p.tables.exec = Jvm.exec) (hb : c.code = cX1_holds) (hml : c.maxLocals = 12) (hts : ∀ w ∈ wsX1_holds, w.before args s = true) (hown : s.vm.findClass RX1 = some m.cls) (hK : zK dC dI kA s) (hA : ∀ q, H0.size ≤ q → A q) (hRf : 1 ≤ R.frames) (hRl : 34 ≤ R.locals) (hRc : cells ≤ R.cells) (hRs : slots ≤ R.slots) (l0 : Nat) (ysorts : Nat) (ysumStarts : Nat) (ysumStops : Nat) (ytestStarts : Nat) (ytestStops : Nat) (yjoins : Nat) (yoperands : Nat) (yfactStarts : Nat) (yfactMiddles : Nat) (yfactStops : Nat) (ysigns : Nat) (ytests : Nat) (yjoinsF : Nat → Int32) (yoperandsF : Nat → Int32) (yfactStartsF : Nat → Int32) (yfactMiddlesF : Nat → Int32) (yfactStopsF : Nat → Int32) (ysignsF : Nat → Int32) (ytestsF : Nat → Int32) (ychain : Int32) (yclauses : Int32) (yvalues : Int32) (yfacts : Int32) (ysteps : Int32) (p0 : Int32) (p1 : Int32) (wA : Nat) (wF : Nat → Int32) {G : Int32} {E183 : Int32 → Int64 → Int32}  (k183 : ∀ (w183_0 : Int32) (w183_1 : Int64) (H : Heap) (locs : List Loc) (ls : Array Slot), E183 w183_0 w183_1 = G → va_P (dC, dI) vwCl [(l0, .inr (1, [.int ychain, .int yclauses, .ref ysorts, .ref ysumStarts, .ref ysumStops, .ref ytestStarts, .ref ytestStops, .int yvalues, .ref yjoins, .ref yoperands, .int yfacts, .ref yfactStarts, .ref yfactMiddles, .ref yfactStops, .ref ysigns, .int ysteps, .ref ytests])), (yjoins, .inl (kA 0, 60, .inl yjoinsF)), (yoperands, .inl (kA 0, 60, .inl yoperandsF)), (yfactStarts, .inl (kA 0, 20, .inl yfactStartsF)), (yfactMiddles, .inl (kA 0, 20, .inl yfactMiddlesF)), (yfactStops, .inl (kA 0, 20, .inl yfactStopsF)), (ysigns, .inl (kA 0, 20, .inl ysignsF)), (ytests, .inl (kA 0, 256, .inl ytestsF)), (wA, .inl (kA 0, 11, .inl wF))] H → va_D A [(l0, .inr (1, [.int ychain, .int yclauses, .ref ysorts, .ref ysumStarts, .ref ysumStops, .ref ytestStarts, .ref ytestStops, .int yvalues, .ref yjoins, .ref yoperands, .int yfacts, .ref yfactStarts, .ref yfactMiddles, .ref yfactStops, .ref ysigns, .int ysteps, .ref ytests])), (yjoins, .inl (kA 0, 60, .inl yjoinsF)), (yoperands, .inl (kA 0, 60, .inl yoperandsF)), (yfactStarts, .inl (kA 0, 20, .inl yfactStartsF)), (yfactMiddles, .inl (kA 0, 20, .inl yfactMiddlesF)), (yfactStops, .inl (kA 0, 20, .inl yfactStopsF)), (ysigns, .inl (kA 0, 20, .inl ysignsF)), (ytests, .inl (kA 0, 256, .inl ytestsF)), (wA, .inl (kA 0, 11, .inl wF))] → va_S A H0 H locs → lv_has ls 12 [(6, .int w183_0), (4, .long w183_1), (0, .ref l0), (1, .int p0), (2, .int p1), (3, .ref wA)] → W p l e R s m args below meth c H locs cells slots Q (F0 m 183 ls []))  : ∀ (n : Nat) (l6_0 : Int32) (l6_1 : Int64) (H : Heap) (locs : List Loc) (ls : Array Slot), ((p1 : Int32).toInt - l6_0.toInt).toNat < n → fl_mX1_holds_6 yjoinsF yoperandsF yfactStartsF yfactMiddlesF yfactStopsF ysignsF ytestsF p1 wF E183 n l6_0 l6_1 = G → va_P (dC, dI) vwCl [(l0, .inr (1, [.int ychain, .int yclauses, .ref ysorts, .ref ysumStarts, .ref ysumStops, .ref ytestStarts, .ref ytestStops, .int yvalues, .ref yjoins, .ref yoperands, .int yfacts, .ref yfactStarts, .ref yfactMiddles, .ref yfactStops, .ref ysigns, .int ysteps, .ref ytests])), (yjoins, .inl (kA 0, 60, .inl yjoinsF)), (yoperands, .inl (kA 0, 60, .inl yoperandsF)), (yfactStarts, .inl (kA 0, 20, .inl yfactStartsF)), (yfactMiddles, .inl (kA 0, 20, .inl yfactMiddlesF)), (yfactStops, .inl (kA 0, 20, .inl yfactStopsF)), (ysigns, .inl (kA 0, 20, .inl ysignsF)), (ytests, .inl (kA 0, 256, .inl ytestsF)), (wA, .inl (kA 0, 11, .inl wF))] H → va_D A [(l0, .inr (1, [.int ychain, .int yclauses, .ref ysorts, .ref ysumStarts, .ref ysumStops, .ref ytestStarts, .ref ytestStops, .int yvalues, .ref yjoins, .ref yoperands, .int yfacts, .ref yfactStarts, .ref yfactMiddles, .ref yfactStops, .ref ysigns, .int ysteps, .ref ytests])), (yjoins, .inl (kA 0, 60, .inl yjoinsF)), (yoperands, .inl (kA 0, 60, .inl yoperandsF)), (yfactStarts, .inl (kA 0, 20, .inl yfactStartsF)), (yfactMiddles, .inl (kA 0, 20, .inl yfactMiddlesF)), (yfactStops, .inl (kA 0, 20, .inl yfactStopsF)), (ysigns, .inl (kA 0, 20, .inl ysignsF)), (ytests, .inl (kA 0, 256, .inl ytestsF)), (wA, .inl (kA 0, 11, .inl wF))] → va_S A H0 H locs → lv_has ls 12 [(6, .int l6_0), (4, .long l6_1), (0, .ref l0), (1, .int p0), (2, .int p1), (3, .ref wA)] → W p l e R s m args below meth c H locs cells slots Q (F0 m 6 ls []) := by
  intro n
  induction n with
  | zero =>
    intro l6_0 l6_1 H locs ls hn
    exact absurd hn (Nat.not_lt_zero _)
  | succ n ih =>
    intro l6_0 l6_1 H locs ls hn hG  hP hD hS hl
    have hG : fb_mX1_holds_6 yjoinsF yoperandsF yfactStartsF yfactMiddlesF yfactStopsF ysignsF ytestsF p1 wF E183 (fl_mX1_holds_6 yjoinsF yoperandsF yfactStartsF yfactMiddlesF yfactStopsF ysignsF ytestsF p1 wF E183 n) l6_0 l6_1 = G := hG
    unfold fb_mX1_holds_6 at hG
    refine lv_iload hx hb dX1_holds_6 (lv_at hl 0 rfl) ?_
    refine lv_if_lt (tgt := 183) hx hb dX1_holds_8 (by decide) (fun c_y6_1 => ?_) (fun c_y6_1 => ?_)
    · have hG := zthen hG c_y6_1
      exact k183 l6_0 l6_1 H locs ls hG (hP.sub [0, 1, 2, 3, 4, 5, 6, 7, 8] rfl) (hD.sub [0, 1, 2, 3, 4, 5, 6, 7, 8] (by decide) rfl) hS (lv_sub hl [0, 1, 2, 3, 4, 5] rfl)
    · have hG := zelse hG c_y6_1
      refine lv_iload hx hb dX1_holds_11 (lv_at hl 0 rfl) ?_
      refine lv_iload_n hx hb dX1_holds_13 rfl (lv_at hl 4 rfl) ?_
      refine lv_icmp_ge (tgt := 183) hx hb dX1_holds_14 (by decide) (fun c_y6_2 => ?_) (fun c_y6_2 => ?_)
      · have hG := zthen hG c_y6_2
        exact k183 l6_0 l6_1 H locs ls hG (hP.sub [0, 1, 2, 3, 4, 5, 6, 7, 8] rfl) (hD.sub [0, 1, 2, 3, 4, 5, 6, 7, 8] (by decide) rfl) hS (lv_sub hl [0, 1, 2, 3, 4, 5] rfl)
      · have hG := zelse hG c_y6_2
        refine lv_iload hx hb dX1_holds_17 (lv_at hl 0 rfl) ?_
        refine lv_sipush (v := 256) hx hb dX1_holds_19 (by decide) ?_
        refine lv_icmp_ge (tgt := 183) hx hb dX1_holds_22 (by decide) (fun c_y6_3 => ?_) (fun c_y6_3 => ?_)
        · have hG := zthen hG c_y6_3
          exact k183 l6_0 l6_1 H locs ls hG (hP.sub [0, 1, 2, 3, 4, 5, 6, 7, 8] rfl) (hD.sub [0, 1, 2, 3, 4, 5, 6, 7, 8] (by decide) rfl) hS (lv_sub hl [0, 1, 2, 3, 4, 5] rfl)
        · have hG := zelse hG c_y6_3
          refine lv_aload_n hx hb dX1_holds_25 rfl (lv_at hl 2 rfl) ?_
          refine va_get (D := (dC, dI)) (ci := 1) (v := .ref ytests) (C := RX1) (T := TX1) (N := 17) hx hb hts iX1_holds_X1 hown hK.1 hP 0 gz0 vcz1 16 (by decide) (kX1_holds_1 hts) (fun _ h9 => h9) gz16 dX1_holds_26 ?_
          refine lv_iload hx hb dX1_holds_29 (lv_at hl 0 rfl) ?_
          refine va_iald hx hb hK.1 hP 7 0 gz7 tzz0 (vp_lt (by decide) c_y6_1 c_y6_3) dX1_holds_31 ?_
          refine lv_topi (fun xy6_4 exy6_4 => ?_)
          have hG := zbnd hG exy6_4
          refine lv_istore (lv' := [(7, .int xy6_4), (6, .int l6_0), (4, .long l6_1), (0, .ref l0), (1, .int p0), (2, .int p1), (3, .ref wA)]) hx hb dX1_holds_32 hl (by decide) rfl (fun ls hl => ?_)
          refine lv_iload hx hb dX1_holds_34 (lv_at hl 0 rfl) ?_
          refine lv_iconst (v := (-1)) hx hb dX1_holds_36 (by decide) ?_
          refine lv_icmp_ne (tgt := 49) hx hb dX1_holds_37 (by decide) (fun c_y6_5 => ?_) (fun c_y6_5 => ?_)
          · have hG := zelse hG c_y6_5
            refine lv_iload hx hb dX1_holds_49 (lv_at hl 0 rfl) ?_
            refine lv_bipush (v := (-2)) hx hb dX1_holds_51 (by decide) ?_
            refine lv_icmp_ne (tgt := 72) hx hb dX1_holds_53 (by decide) (fun c_y6_6 => ?_) (fun c_y6_6 => ?_)
            · have hG := zelse hG c_y6_6
              refine lv_iload hx hb dX1_holds_72 (lv_at hl 0 rfl) ?_
              refine lv_bipush (v := (-3)) hx hb dX1_holds_74 (by decide) ?_
              refine lv_icmp_ne (tgt := 93) hx hb dX1_holds_76 (by decide) (fun c_y6_7 => ?_) (fun c_y6_7 => ?_)
              · have hG := zelse hG c_y6_7
                refine lv_iload hx hb dX1_holds_93 (lv_at hl 0 rfl) ?_
                refine lv_if_lt (tgt := 177) hx hb dX1_holds_95 (by decide) (fun c_y6_8 => ?_) (fun c_y6_8 => ?_)
                · have hG := zthen hG c_y6_8
                  obtain ⟨xy6_9, exy6_9⟩ : ∃ y : Int32, y = l6_0 + 1 := ⟨_, rfl⟩
                  have hG := zbnd hG exy6_9
                  refine lv_iinc (v := xy6_9) (lv' := [(6, .int xy6_9), (7, .int xy6_4), (4, .long l6_1), (0, .ref l0), (1, .int p0), (2, .int p1), (3, .ref wA)]) hx hb dX1_holds_177 hl (k := 1) rfl (by rw [exy6_9]; rfl) (by decide) rfl (fun ls hl => ?_)
                  refine lv_goto (tgt := 6) hx hb dX1_holds_180 (by decide) ?_
                  exact ih xy6_9 l6_1 H locs ls (z_up hn exy6_9 c_y6_2) hG (hP.sub [0, 1, 2, 3, 4, 5, 6, 7, 8] rfl) (hD.sub [0, 1, 2, 3, 4, 5, 6, 7, 8] (by decide) rfl) hS (lv_sub hl [0, 2, 3, 4, 5, 6] rfl)
                · have hG := zelse hG c_y6_8
                  refine lv_iload hx hb dX1_holds_98 (lv_at hl 0 rfl) ?_
                  refine lv_bipush (v := 20) hx hb dX1_holds_100 (by decide) ?_
                  refine lv_icmp_ge (tgt := 177) hx hb dX1_holds_102 (by decide) (fun c_y6_10 => ?_) (fun c_y6_10 => ?_)
                  · have hG := zthen hG c_y6_10
                    obtain ⟨xy6_11, exy6_11⟩ : ∃ y : Int32, y = l6_0 + 1 := ⟨_, rfl⟩
                    have hG := zbnd hG exy6_11
                    refine lv_iinc (v := xy6_11) (lv' := [(6, .int xy6_11), (7, .int xy6_4), (4, .long l6_1), (0, .ref l0), (1, .int p0), (2, .int p1), (3, .ref wA)]) hx hb dX1_holds_177 hl (k := 1) rfl (by rw [exy6_11]; rfl) (by decide) rfl (fun ls hl => ?_)
                    refine lv_goto (tgt := 6) hx hb dX1_holds_180 (by decide) ?_
                    exact ih xy6_11 l6_1 H locs ls (z_up hn exy6_11 c_y6_2) hG (hP.sub [0, 1, 2, 3, 4, 5, 6, 7, 8] rfl) (hD.sub [0, 1, 2, 3, 4, 5, 6, 7, 8] (by decide) rfl) hS (lv_sub hl [0, 2, 3, 4, 5, 6] rfl)
                  · have hG := zelse hG c_y6_10
                    refine lv_aload_n hx hb dX1_holds_105 rfl (lv_at hl 3 rfl) ?_
                    refine lv_aload_n hx hb dX1_holds_106 rfl (lv_at hl 3 rfl) ?_
                    refine va_get (D := (dC, dI)) (ci := 1) (v := .ref yfactStarts) (C := RX1) (T := TX1) (N := 17) hx hb hts iX1_holds_X1 hown hK.1 hP 0 gz0 vcz1 11 (by decide) (kX1_holds_3 hts) (fun _ h9 => h9) gz11 dX1_holds_107 ?_
                    refine lv_iload hx hb dX1_holds_110 (lv_at hl 0 rfl) ?_
                    refine va_iald hx hb hK.1 hP 3 0 gz3 tzz0 (vp_lt (by decide) c_y6_8 c_y6_10) dX1_holds_112 ?_
                    refine lv_topi (fun xy6_12 exy6_12 => ?_)
                    have hG := zbnd hG exy6_12
                    refine lv_aload_n hx hb dX1_holds_113 rfl (lv_at hl 3 rfl) ?_
                    refine va_get (D := (dC, dI)) (ci := 1) (v := .ref yfactMiddles) (C := RX1) (T := TX1) (N := 17) hx hb hts iX1_holds_X1 hown hK.1 hP 0 gz0 vcz1 12 (by decide) (kX1_holds_4 hts) (fun _ h9 => h9) gz12 dX1_holds_114 ?_
                    refine lv_iload hx hb dX1_holds_117 (lv_at hl 0 rfl) ?_
                    refine va_iald hx hb hK.1 hP 4 0 gz4 tzz0 (vp_lt (by decide) c_y6_8 c_y6_10) dX1_holds_119 ?_
                    refine lv_topi (fun xy6_13 exy6_13 => ?_)
                    have hG := zbnd hG exy6_13
                    refine lv_aload_n hx hb dX1_holds_120 rfl (lv_at hl 6 rfl) ?_
                    refine z_l (wr := [(yfactStarts, .inl (kA 0, 20, .inl yfactStartsF)), (yfactMiddles, .inl (kA 0, 20, .inl yfactMiddlesF)), (yfactStops, .inl (kA 0, 20, .inl yfactStopsF)), (ysigns, .inl (kA 0, 20, .inl ysignsF)), (ytests, .inl (kA 0, 256, .inl ytestsF))]) (va_runV (As := [.int xy6_12, .int xy6_13, .ref wA]) (rest := []) ⟨hx, hb, hml, hown, hts⟩ (mX1_total l dC dI kA _ l0 ysorts ysumStarts ysumStops ytestStarts ytestStops yjoins yoperands yfactStarts yfactMiddles yfactStops ysigns ytests yjoinsF yoperandsF ychain yclauses yvalues yfacts ysteps xy6_12 xy6_13 wA wF) (cwV 3 hts gX1_holds_X1_total rfl rfl rfl ⟨rfl, hdX1_total⟩ ⟨(Nat.le_trans (Nat.le_of_ble_eq_true rfl) hRf), (Nat.le_trans (Nat.le_of_ble_eq_true rfl) hRl)⟩) ⟨zPc.blind, va_recv (q := (RX1, TX1, 17)) hK.1 hP (ci := 1) (q0 := 0) rfl rfl, zPre hK (hP.sub [0, 1, 2, 8] rfl) (hD.sub [0, 1, 2, 8] (by decide) rfl)⟩ rfl rfl hl.1 rfl (lv_room (Nat.le_of_ble_eq_true rfl)) dX1_holds_121 ⟨hRc, hRs⟩) hP hD hS hA [0, 1, 2, 8] [3, 4, 5, 6, 7] rfl rfl (by decide) (by decide) (fun ry6_16 uy6_14 H locs hwy6_15 hP hD hS => ?_)
                    obtain ⟨ery6_19, hpy6_18⟩ := hwy6_15
                    have ery6_19 : ry6_16 = uy6_14 := ery6_19
                    subst ery6_19
                    have ery6_16 : ry6_16 = fX1_total yjoinsF yoperandsF xy6_12 xy6_13 wF := hpy6_18
                    have hG := zbnd hG ery6_16
                    obtain ⟨hP, hD⟩ := z_re (L := [(yfactStarts, .inl (kA 0, 20, .inl yfactStartsF)), (yfactMiddles, .inl (kA 0, 20, .inl yfactMiddlesF)), (yfactStops, .inl (kA 0, 20, .inl yfactStopsF)), (ysigns, .inl (kA 0, 20, .inl ysignsF)), (ytests, .inl (kA 0, 256, .inl ytestsF)), (l0, .inr (1, [.int ychain, .int yclauses, .ref ysorts, .ref ysumStarts, .ref ysumStops, .ref ytestStarts, .ref ytestStops, .int yvalues, .ref yjoins, .ref yoperands, .int yfacts, .ref yfactStarts, .ref yfactMiddles, .ref yfactStops, .ref ysigns, .int ysteps, .ref ytests])), (yjoins, .inl (kA 0, 60, .inl yjoinsF)), (yoperands, .inl (kA 0, 60, .inl yoperandsF)), (wA, .inl (kA 0, 11, .inl wF))]) hP hD
                    refine lv_lstore (lv' := [(8, .long ry6_16), (7, .int xy6_4), (6, .int l6_0), (4, .long l6_1), (0, .ref l0), (1, .int p0), (2, .int p1), (3, .ref wA)]) hx hb dX1_holds_124 hl (by decide) rfl (fun ls hl => ?_)
                    refine lv_aload_n hx hb dX1_holds_126 rfl (lv_at hl 4 rfl) ?_
                    refine lv_aload_n hx hb dX1_holds_127 rfl (lv_at hl 4 rfl) ?_
                    refine va_get (D := (dC, dI)) (ci := 1) (v := .ref yfactMiddles) (C := RX1) (T := TX1) (N := 17) hx hb hts iX1_holds_X1 hown hK.1 hP 5 gz5 vcz1 12 (by decide) (kX1_holds_4 hts) (fun _ h9 => h9) gz12 dX1_holds_128 ?_
                    refine lv_iload hx hb dX1_holds_131 (lv_at hl 1 rfl) ?_
                    refine va_iald hx hb hK.1 hP 1 0 gz1 tzz0 (vp_lt (by decide) c_y6_8 c_y6_10) dX1_holds_133 ?_
                    refine lv_topi (fun xy6_21 exy6_21 => ?_)
                    have hG := zbnd hG exy6_21
                    refine lv_aload_n hx hb dX1_holds_134 rfl (lv_at hl 4 rfl) ?_
                    refine va_get (D := (dC, dI)) (ci := 1) (v := .ref yfactStops) (C := RX1) (T := TX1) (N := 17) hx hb hts iX1_holds_X1 hown hK.1 hP 5 gz5 vcz1 13 (by decide) (kX1_holds_5 hts) (fun _ h9 => h9) gz13 dX1_holds_135 ?_
                    refine lv_iload hx hb dX1_holds_138 (lv_at hl 1 rfl) ?_
                    refine va_iald hx hb hK.1 hP 2 0 gz2 tzz0 (vp_lt (by decide) c_y6_8 c_y6_10) dX1_holds_140 ?_
                    refine lv_topi (fun xy6_22 exy6_22 => ?_)
                    have hG := zbnd hG exy6_22
                    refine lv_aload_n hx hb dX1_holds_141 rfl (lv_at hl 7 rfl) ?_
                    refine z_l (wr := [(yfactStarts, .inl (kA 0, 20, .inl yfactStartsF)), (yfactMiddles, .inl (kA 0, 20, .inl yfactMiddlesF)), (yfactStops, .inl (kA 0, 20, .inl yfactStopsF)), (ysigns, .inl (kA 0, 20, .inl ysignsF)), (ytests, .inl (kA 0, 256, .inl ytestsF))]) (va_runV (As := [.int xy6_21, .int xy6_22, .ref wA]) (rest := []) ⟨hx, hb, hml, hown, hts⟩ (mX1_total l dC dI kA _ l0 ysorts ysumStarts ysumStops ytestStarts ytestStops yjoins yoperands yfactStarts yfactMiddles yfactStops ysigns ytests yjoinsF yoperandsF ychain yclauses yvalues yfacts ysteps xy6_21 xy6_22 wA wF) (cwV 3 hts gX1_holds_X1_total rfl rfl rfl ⟨rfl, hdX1_total⟩ ⟨(Nat.le_trans (Nat.le_of_ble_eq_true rfl) hRf), (Nat.le_trans (Nat.le_of_ble_eq_true rfl) hRl)⟩) ⟨zPc.blind, va_recv (q := (RX1, TX1, 17)) hK.1 hP (ci := 1) (q0 := 5) rfl rfl, zPre hK (hP.sub [5, 6, 7, 8] rfl) (hD.sub [5, 6, 7, 8] (by decide) rfl)⟩ rfl rfl hl.1 rfl (lv_room (Nat.le_of_ble_eq_true rfl)) dX1_holds_142 ⟨hRc, hRs⟩) hP hD hS hA [5, 6, 7, 8] [0, 1, 2, 3, 4] rfl rfl (by decide) (by decide) (fun ry6_25 uy6_23 H locs hwy6_24 hP hD hS => ?_)
                    obtain ⟨ery6_28, hpy6_27⟩ := hwy6_24
                    have ery6_28 : ry6_25 = uy6_23 := ery6_28
                    subst ery6_28
                    have ery6_25 : ry6_25 = fX1_total yjoinsF yoperandsF xy6_21 xy6_22 wF := hpy6_27
                    have hG := zbnd hG ery6_25
                    obtain ⟨hP, hD⟩ := z_re (L := [(yfactStarts, .inl (kA 0, 20, .inl yfactStartsF)), (yfactMiddles, .inl (kA 0, 20, .inl yfactMiddlesF)), (yfactStops, .inl (kA 0, 20, .inl yfactStopsF)), (ysigns, .inl (kA 0, 20, .inl ysignsF)), (ytests, .inl (kA 0, 256, .inl ytestsF)), (l0, .inr (1, [.int ychain, .int yclauses, .ref ysorts, .ref ysumStarts, .ref ysumStops, .ref ytestStarts, .ref ytestStops, .int yvalues, .ref yjoins, .ref yoperands, .int yfacts, .ref yfactStarts, .ref yfactMiddles, .ref yfactStops, .ref ysigns, .int ysteps, .ref ytests])), (yjoins, .inl (kA 0, 60, .inl yjoinsF)), (yoperands, .inl (kA 0, 60, .inl yoperandsF)), (wA, .inl (kA 0, 11, .inl wF))]) hP hD
                    refine lv_lstore (lv' := [(10, .long ry6_25), (8, .long ry6_16), (7, .int xy6_4), (6, .int l6_0), (4, .long l6_1), (0, .ref l0), (1, .int p0), (2, .int p1), (3, .ref wA)]) hx hb dX1_holds_145 hl (by decide) rfl (fun ls hl => ?_)
                    refine lv_lload hx hb dX1_holds_147 (lv_at hl 4 rfl) ?_
                    refine lv_iconst (v := 1) hx hb dX1_holds_149 (by decide) ?_
                    refine lv_lshl hx hb dX1_holds_150 rfl ?_
                    refine lv_topl (fun xy6_30 exy6_30 => ?_)
                    have hG := zbnd hG exy6_30
                    refine lv_lload hx hb dX1_holds_151 (lv_at hl 1 rfl) ?_
                    refine lv_aload_n hx hb dX1_holds_153 rfl (lv_at hl 5 rfl) ?_
                    refine va_get (D := (dC, dI)) (ci := 1) (v := .ref ysigns) (C := RX1) (T := TX1) (N := 17) hx hb hts iX1_holds_X1 hown hK.1 hP 5 gz5 vcz1 14 (by decide) (kX1_holds_6 hts) (fun _ h9 => h9) gz14 dX1_holds_154 ?_
                    refine lv_iload hx hb dX1_holds_157 (lv_at hl 2 rfl) ?_
                    refine va_iald hx hb hK.1 hP 3 0 gz3 tzz0 (vp_lt (by decide) c_y6_8 c_y6_10) dX1_holds_159 ?_
                    refine lv_topi (fun xy6_31 exy6_31 => ?_)
                    have hG := zbnd hG exy6_31
                    refine lv_lload hx hb dX1_holds_160 (lv_at hl 0 rfl) ?_
                    refine z_i (wr := [(yfactStarts, .inl (kA 0, 20, .inl yfactStartsF)), (yfactMiddles, .inl (kA 0, 20, .inl yfactMiddlesF)), (yfactStops, .inl (kA 0, 20, .inl yfactStopsF)), (ysigns, .inl (kA 0, 20, .inl ysignsF)), (ytests, .inl (kA 0, 256, .inl ytestsF)), (l0, .inr (1, [.int ychain, .int yclauses, .ref ysorts, .ref ysumStarts, .ref ysumStops, .ref ytestStarts, .ref ytestStops, .int yvalues, .ref yjoins, .ref yoperands, .int yfacts, .ref yfactStarts, .ref yfactMiddles, .ref yfactStops, .ref ysigns, .int ysteps, .ref ytests])), (yjoins, .inl (kA 0, 60, .inl yjoinsF)), (yoperands, .inl (kA 0, 60, .inl yoperandsF)), (wA, .inl (kA 0, 11, .inl wF))]) (va_runS (As := [.long ry6_16, .int xy6_31, .long ry6_25]) (rest := [.long xy6_30]) ⟨hx, hb, hml, hown, hts⟩ (mX1_isTrue l dC dI kA _ ry6_16 xy6_31 ry6_25) (va_cwS 3 hts gX1_holds_X1_isTrue rfl rfl rfl hdX1_isTrue ⟨(Nat.le_trans (Nat.le_of_ble_eq_true rfl) hRf), (Nat.le_trans (Nat.le_of_ble_eq_true rfl) hRl)⟩) ⟨zPc.blind, zPre hK (hP.sub [] rfl) (hD.sub [] (by decide) rfl)⟩ rfl rfl hl.1 rfl (lv_room (Nat.le_of_ble_eq_true rfl)) dX1_holds_162 ⟨hRc, hRs⟩) hP hD hS hA [] [0, 1, 2, 3, 4, 5, 6, 7, 8] rfl rfl (by decide) (by decide) (fun ry6_34 uy6_32 H locs hwy6_33 hP hD hS => ?_)
                    obtain ⟨ery6_38, hpy6_36, hpy6_37⟩ := hwy6_33
                    have ery6_38 : ry6_34 = uy6_32 := ery6_38
                    subst ery6_38
                    have ery6_34 : ry6_34 = fX1_isTrue ry6_16 xy6_31 ry6_25 := hpy6_36
                    have hG := zbnd hG ery6_34
                    obtain ⟨hP, hD⟩ := z_re (L := [(yfactStarts, .inl (kA 0, 20, .inl yfactStartsF)), (yfactMiddles, .inl (kA 0, 20, .inl yfactMiddlesF)), (yfactStops, .inl (kA 0, 20, .inl yfactStopsF)), (ysigns, .inl (kA 0, 20, .inl ysignsF)), (ytests, .inl (kA 0, 256, .inl ytestsF)), (l0, .inr (1, [.int ychain, .int yclauses, .ref ysorts, .ref ysumStarts, .ref ysumStops, .ref ytestStarts, .ref ytestStops, .int yvalues, .ref yjoins, .ref yoperands, .int yfacts, .ref yfactStarts, .ref yfactMiddles, .ref yfactStops, .ref ysigns, .int ysteps, .ref ytests])), (yjoins, .inl (kA 0, 60, .inl yjoinsF)), (yoperands, .inl (kA 0, 60, .inl yoperandsF)), (wA, .inl (kA 0, 11, .inl wF))]) hP hD
                    refine lv_if_eq (tgt := 172) hx hb dX1_holds_165 (by decide) (fun c_y6_40 => ?_) (fun c_y6_40 => ?_)
                    · have hG := zthen hG c_y6_40
                      refine lv_iconst (v := 0) hx hb dX1_holds_172 (by decide) ?_
                      refine lv_i2l (v := 0) hx hb dX1_holds_173 (by decide) ?_
                      refine lv_lor hx hb dX1_holds_174 ?_
                      refine lv_topl (fun xy6_41 exy6_41 => ?_)
                      have hG := zbnd hG exy6_41
                      refine lv_lstore (lv' := [(4, .long xy6_41), (10, .long ry6_25), (8, .long ry6_16), (7, .int xy6_4), (6, .int l6_0), (0, .ref l0), (1, .int p0), (2, .int p1), (3, .ref wA)]) hx hb dX1_holds_175 hl (by decide) rfl (fun ls hl => ?_)
                      obtain ⟨xy6_42, exy6_42⟩ : ∃ y : Int32, y = l6_0 + 1 := ⟨_, rfl⟩
                      have hG := zbnd hG exy6_42
                      refine lv_iinc (v := xy6_42) (lv' := [(6, .int xy6_42), (4, .long xy6_41), (10, .long ry6_25), (8, .long ry6_16), (7, .int xy6_4), (0, .ref l0), (1, .int p0), (2, .int p1), (3, .ref wA)]) hx hb dX1_holds_177 hl (k := 4) rfl (by rw [exy6_42]; rfl) (by decide) rfl (fun ls hl => ?_)
                      refine lv_goto (tgt := 6) hx hb dX1_holds_180 (by decide) ?_
                      exact ih xy6_42 xy6_41 H locs ls (z_up hn exy6_42 c_y6_2) hG (hP.sub [5, 6, 7, 0, 1, 2, 3, 4, 8] rfl) (hD.sub [5, 6, 7, 0, 1, 2, 3, 4, 8] (by decide) rfl) hS (lv_sub hl [0, 1, 5, 6, 7, 8] rfl)
                    · have hG := zelse hG c_y6_40
                      refine lv_iconst (v := 1) hx hb dX1_holds_168 (by decide) ?_
                      refine lv_goto (tgt := 173) hx hb dX1_holds_169 (by decide) ?_
                      refine lv_i2l (v := 1) hx hb dX1_holds_173 (by decide) ?_
                      refine lv_lor hx hb dX1_holds_174 ?_
                      refine lv_topl (fun xy6_43 exy6_43 => ?_)
                      have hG := zbnd hG exy6_43
                      refine lv_lstore (lv' := [(4, .long xy6_43), (10, .long ry6_25), (8, .long ry6_16), (7, .int xy6_4), (6, .int l6_0), (0, .ref l0), (1, .int p0), (2, .int p1), (3, .ref wA)]) hx hb dX1_holds_175 hl (by decide) rfl (fun ls hl => ?_)
                      obtain ⟨xy6_44, exy6_44⟩ : ∃ y : Int32, y = l6_0 + 1 := ⟨_, rfl⟩
                      have hG := zbnd hG exy6_44
                      refine lv_iinc (v := xy6_44) (lv' := [(6, .int xy6_44), (4, .long xy6_43), (10, .long ry6_25), (8, .long ry6_16), (7, .int xy6_4), (0, .ref l0), (1, .int p0), (2, .int p1), (3, .ref wA)]) hx hb dX1_holds_177 hl (k := 4) rfl (by rw [exy6_44]; rfl) (by decide) rfl (fun ls hl => ?_)
                      refine lv_goto (tgt := 6) hx hb dX1_holds_180 (by decide) ?_
                      exact ih xy6_44 xy6_43 H locs ls (z_up hn exy6_44 c_y6_2) hG (hP.sub [5, 6, 7, 0, 1, 2, 3, 4, 8] rfl) (hD.sub [5, 6, 7, 0, 1, 2, 3, 4, 8] (by decide) rfl) hS (lv_sub hl [0, 1, 5, 6, 7, 8] rfl)
              · have hG := zthen hG c_y6_7
                refine lv_lload hx hb dX1_holds_79 (lv_at hl 2 rfl) ?_
                refine lv_iconst (v := 1) hx hb dX1_holds_81 (by decide) ?_
                refine lv_lushr hx hb dX1_holds_82 rfl ?_
                refine lv_topl (fun xy6_45 exy6_45 => ?_)
                have hG := zbnd hG exy6_45
                refine lv_lload hx hb dX1_holds_83 (lv_at hl 2 rfl) ?_
                refine lv_lconst (v := 1) hx hb dX1_holds_85 (by decide) ?_
                refine lv_land hx hb dX1_holds_86 ?_
                refine lv_topl (fun xy6_46 exy6_46 => ?_)
                have hG := zbnd hG exy6_46
                refine lv_lor hx hb dX1_holds_87 ?_
                refine lv_topl (fun xy6_47 exy6_47 => ?_)
                have hG := zbnd hG exy6_47
                refine lv_lstore (lv' := [(4, .long xy6_47), (7, .int xy6_4), (6, .int l6_0), (0, .ref l0), (1, .int p0), (2, .int p1), (3, .ref wA)]) hx hb dX1_holds_88 hl (by decide) rfl (fun ls hl => ?_)
                refine lv_goto (tgt := 177) hx hb dX1_holds_90 (by decide) ?_
                obtain ⟨xy6_48, exy6_48⟩ : ∃ y : Int32, y = l6_0 + 1 := ⟨_, rfl⟩
                have hG := zbnd hG exy6_48
                refine lv_iinc (v := xy6_48) (lv' := [(6, .int xy6_48), (4, .long xy6_47), (7, .int xy6_4), (0, .ref l0), (1, .int p0), (2, .int p1), (3, .ref wA)]) hx hb dX1_holds_177 hl (k := 2) rfl (by rw [exy6_48]; rfl) (by decide) rfl (fun ls hl => ?_)
                refine lv_goto (tgt := 6) hx hb dX1_holds_180 (by decide) ?_
                exact ih xy6_48 xy6_47 H locs ls (z_up hn exy6_48 c_y6_2) hG (hP.sub [0, 1, 2, 3, 4, 5, 6, 7, 8] rfl) (hD.sub [0, 1, 2, 3, 4, 5, 6, 7, 8] (by decide) rfl) hS (lv_sub hl [0, 1, 3, 4, 5, 6] rfl)
            · have hG := zthen hG c_y6_6
              refine lv_lload hx hb dX1_holds_56 (lv_at hl 2 rfl) ?_
              refine lv_iconst (v := 1) hx hb dX1_holds_58 (by decide) ?_
              refine lv_lushr hx hb dX1_holds_59 rfl ?_
              refine lv_topl (fun xy6_49 exy6_49 => ?_)
              have hG := zbnd hG exy6_49
              refine lv_lload hx hb dX1_holds_60 (lv_at hl 2 rfl) ?_
              refine lv_ldc2 hx hb hown (kX1_holds_2 hts) dX1_holds_62 ?_
              refine lv_lor hx hb dX1_holds_65 ?_
              refine lv_topl (fun xy6_50 exy6_50 => ?_)
              have hG := zbnd hG exy6_50
              refine lv_land hx hb dX1_holds_66 ?_
              refine lv_topl (fun xy6_51 exy6_51 => ?_)
              have hG := zbnd hG exy6_51
              refine lv_lstore (lv' := [(4, .long xy6_51), (7, .int xy6_4), (6, .int l6_0), (0, .ref l0), (1, .int p0), (2, .int p1), (3, .ref wA)]) hx hb dX1_holds_67 hl (by decide) rfl (fun ls hl => ?_)
              refine lv_goto (tgt := 177) hx hb dX1_holds_69 (by decide) ?_
              obtain ⟨xy6_52, exy6_52⟩ : ∃ y : Int32, y = l6_0 + 1 := ⟨_, rfl⟩
              have hG := zbnd hG exy6_52
              refine lv_iinc (v := xy6_52) (lv' := [(6, .int xy6_52), (4, .long xy6_51), (7, .int xy6_4), (0, .ref l0), (1, .int p0), (2, .int p1), (3, .ref wA)]) hx hb dX1_holds_177 hl (k := 2) rfl (by rw [exy6_52]; rfl) (by decide) rfl (fun ls hl => ?_)
              refine lv_goto (tgt := 6) hx hb dX1_holds_180 (by decide) ?_
              exact ih xy6_52 xy6_51 H locs ls (z_up hn exy6_52 c_y6_2) hG (hP.sub [0, 1, 2, 3, 4, 5, 6, 7, 8] rfl) (hD.sub [0, 1, 2, 3, 4, 5, 6, 7, 8] (by decide) rfl) hS (lv_sub hl [0, 1, 3, 4, 5, 6] rfl)
          · have hG := zthen hG c_y6_5
            refine lv_lload hx hb dX1_holds_40 (lv_at hl 2 rfl) ?_
            refine lv_lconst (v := 1) hx hb dX1_holds_42 (by decide) ?_
            refine lv_lxor hx hb dX1_holds_43 ?_
            refine lv_topl (fun xy6_53 exy6_53 => ?_)
            have hG := zbnd hG exy6_53
            refine lv_lstore (lv' := [(4, .long xy6_53), (7, .int xy6_4), (6, .int l6_0), (0, .ref l0), (1, .int p0), (2, .int p1), (3, .ref wA)]) hx hb dX1_holds_44 hl (by decide) rfl (fun ls hl => ?_)
            refine lv_goto (tgt := 177) hx hb dX1_holds_46 (by decide) ?_
            obtain ⟨xy6_54, exy6_54⟩ : ∃ y : Int32, y = l6_0 + 1 := ⟨_, rfl⟩
            have hG := zbnd hG exy6_54
            refine lv_iinc (v := xy6_54) (lv' := [(6, .int xy6_54), (4, .long xy6_53), (7, .int xy6_4), (0, .ref l0), (1, .int p0), (2, .int p1), (3, .ref wA)]) hx hb dX1_holds_177 hl (k := 2) rfl (by rw [exy6_54]; rfl) (by decide) rfl (fun ls hl => ?_)
            refine lv_goto (tgt := 6) hx hb dX1_holds_180 (by decide) ?_
            exact ih xy6_54 xy6_53 H locs ls (z_up hn exy6_54 c_y6_2) hG (hP.sub [0, 1, 2, 3, 4, 5, 6, 7, 8] rfl) (hD.sub [0, 1, 2, 3, 4, 5, 6, 7, 8] (by decide) rfl) hS (lv_sub hl [0, 1, 3, 4, 5, 6] rfl)
set_option maxRecDepth 100000 in
def fX1_holds (yjoinsF : Nat → Int32) (yoperandsF : Nat → Int32) (yfactStartsF : Nat → Int32) (yfactMiddlesF : Nat → Int32) (yfactStopsF : Nat → Int32) (ysignsF : Nat → Int32) (ytestsF : Nat → Int32) (p0 : Int32) (p1 : Int32) (wF : Nat → Int32) : Int32 := fl_mX1_holds_6 yjoinsF yoperandsF yfactStartsF yfactMiddlesF yfactStopsF ysignsF ytestsF p1 wF (fun (w183_0_0 : Int32) (w183_1_0 : Int64) => bnd ((w183_1_0 &&& 1)) (fun (x1 : Int64) => if (lg_cmp x1 1) = 0 then (1) else (0))) (((p1 : Int32).toInt - p0.toInt).toNat + 1) p0 1
set_option maxHeartbeats 4000000 in
set_option maxRecDepth 100000 in
theorem mX1_holds (l : Launch) (dC : Nat → ClassId) (dI : Nat → Nat → Nat) (kA : Nat → ClassId) (sz : Nat) (l0 : Nat) (ysorts : Nat) (ysumStarts : Nat) (ysumStops : Nat) (ytestStarts : Nat) (ytestStops : Nat) (yjoins : Nat) (yoperands : Nat) (yfactStarts : Nat) (yfactMiddles : Nat) (yfactStops : Nat) (ysigns : Nat) (ytests : Nat) (yjoinsF : Nat → Int32) (yoperandsF : Nat → Int32) (yfactStartsF : Nat → Int32) (yfactMiddlesF : Nat → Int32) (yfactStopsF : Nat → Int32) (ysignsF : Nat → Int32) (ytestsF : Nat → Int32) (ychain : Int32) (yclauses : Int32) (yvalues : Int32) (yfacts : Int32) (ysteps : Int32) (p0 : Int32) (p1 : Int32) (wA : Nat) (wF : Nat → Int32)  : Met l yX1_holds wsX1_holds ({ frames := 1, cells := 0, slots := 0, locals := 34 }) (zPc dC dI kA sz [.ref l0, .int p0, .int p1, .ref wA] [(l0, .inr (1, [.int ychain, .int yclauses, .ref ysorts, .ref ysumStarts, .ref ysumStops, .ref ytestStarts, .ref ytestStops, .int yvalues, .ref yjoins, .ref yoperands, .int yfacts, .ref yfactStarts, .ref yfactMiddles, .ref yfactStops, .ref ysigns, .int ysteps, .ref ytests])), (yjoins, .inl (kA 0, 60, .inl yjoinsF)), (yoperands, .inl (kA 0, 60, .inl yoperandsF)), (yfactStarts, .inl (kA 0, 20, .inl yfactStartsF)), (yfactMiddles, .inl (kA 0, 20, .inl yfactMiddlesF)), (yfactStops, .inl (kA 0, 20, .inl yfactStopsF)), (ysigns, .inl (kA 0, 20, .inl ysignsF)), (ytests, .inl (kA 0, 256, .inl ytestsF)), (wA, .inl (kA 0, 11, .inl wF))]) (va_Qi (fun (r : Int32) (u : Int32) => r = u ∧ u = fX1_holds yjoinsF yoperandsF yfactStartsF yfactMiddlesF yfactStopsF ysignsF ytestsF p0 p1 wF ∧ (u = 0 ∨ u = 1)) (zB dC dI (va_A [(l0, .inr (1, [.int ychain, .int yclauses, .ref ysorts, .ref ysumStarts, .ref ysumStops, .ref ytestStarts, .ref ytestStops, .int yvalues, .ref yjoins, .ref yoperands, .int yfacts, .ref yfactStarts, .ref yfactMiddles, .ref yfactStops, .ref ysigns, .int ysteps, .ref ytests])), (yjoins, .inl (kA 0, 60, .inl yjoinsF)), (yoperands, .inl (kA 0, 60, .inl yoperandsF)), (yfactStarts, .inl (kA 0, 20, .inl yfactStartsF)), (yfactMiddles, .inl (kA 0, 20, .inl yfactMiddlesF)), (yfactStops, .inl (kA 0, 20, .inl yfactStopsF)), (ysigns, .inl (kA 0, 20, .inl ysignsF)), (ytests, .inl (kA 0, 256, .inl ytestsF)), (wA, .inl (kA 0, 11, .inl wF))] sz) (fun (u : Int32) => [(l0, .inr (1, [.int ychain, .int yclauses, .ref ysorts, .ref ysumStarts, .ref ysumStops, .ref ytestStarts, .ref ytestStops, .int yvalues, .ref yjoins, .ref yoperands, .int yfacts, .ref yfactStarts, .ref yfactMiddles, .ref yfactStops, .ref ysigns, .int ysteps, .ref ytests])), (yjoins, .inl (kA 0, 60, .inl yjoinsF)), (yoperands, .inl (kA 0, 60, .inl yoperandsF)), (yfactStarts, .inl (kA 0, 20, .inl yfactStartsF)), (yfactMiddles, .inl (kA 0, 20, .inl yfactMiddlesF)), (yfactStops, .inl (kA 0, 20, .inl yfactStopsF)), (ysigns, .inl (kA 0, 20, .inl ysignsF)), (ytests, .inl (kA 0, 256, .inl ytestsF)), (wA, .inl (kA 0, 11, .inl wF))])) (va_A [(l0, .inr (1, [.int ychain, .int yclauses, .ref ysorts, .ref ysumStarts, .ref ysumStops, .ref ytestStarts, .ref ytestStops, .int yvalues, .ref yjoins, .ref yoperands, .int yfacts, .ref yfactStarts, .ref yfactMiddles, .ref yfactStops, .ref ysigns, .int ysteps, .ref ytests])), (yjoins, .inl (kA 0, 60, .inl yjoinsF)), (yoperands, .inl (kA 0, 60, .inl yoperandsF)), (yfactStarts, .inl (kA 0, 20, .inl yfactStartsF)), (yfactMiddles, .inl (kA 0, 20, .inl yfactMiddlesF)), (yfactStops, .inl (kA 0, 20, .inl yfactStopsF)), (ysigns, .inl (kA 0, 20, .inl ysignsF)), (ytests, .inl (kA 0, 256, .inl ytestsF)), (wA, .inl (kA 0, 11, .inl wF))] sz)) 0 0 (va_A [(l0, .inr (1, [.int ychain, .int yclauses, .ref ysorts, .ref ysumStarts, .ref ysumStops, .ref ytestStarts, .ref ytestStops, .int yvalues, .ref yjoins, .ref yoperands, .int yfacts, .ref yfactStarts, .ref yfactMiddles, .ref yfactStops, .ref ysigns, .int ysteps, .ref ytests])), (yjoins, .inl (kA 0, 60, .inl yjoinsF)), (yoperands, .inl (kA 0, 60, .inl yoperandsF)), (yfactStarts, .inl (kA 0, 20, .inl yfactStartsF)), (yfactMiddles, .inl (kA 0, 20, .inl yfactMiddlesF)), (yfactStops, .inl (kA 0, 20, .inl yfactStopsF)), (ysigns, .inl (kA 0, 20, .inl ysignsF)), (ytests, .inl (kA 0, 256, .inl ytestsF)), (wA, .inl (kA 0, 11, .inl wF))] sz) := by
  refine Met.ofW (cc := cX1_holds) (maxL := 12) (ret := (some .boolean)) pnX1 rfl ?_
  intro p e s m args below meth c s₁ B hml hv
  obtain ⟨rfl, hsz, hP, hK, hD0⟩ := hv
  have hx := B.exec
  have hb := B.bytes
  have hr := B.returns
  have hts := atoms_spec (ws := wsX1_holds) B.pre
  have hown : s.vm.findClass RX1 = some m.cls := findClass_of_methodNamed B.named
  have hlocks := B.notSynchronized
  subst hsz
  have hD := hD0.self (sz := s.heap.size)
  generalize hAe : va_A [(l0, .inr (1, [.int ychain, .int yclauses, .ref ysorts, .ref ysumStarts, .ref ysumStops, .ref ytestStarts, .ref ytestStops, .int yvalues, .ref yjoins, .ref yoperands, .int yfacts, .ref yfactStarts, .ref yfactMiddles, .ref yfactStops, .ref ysigns, .int ysteps, .ref ytests])), (yjoins, .inl (kA 0, 60, .inl yjoinsF)), (yoperands, .inl (kA 0, 60, .inl yoperandsF)), (yfactStarts, .inl (kA 0, 20, .inl yfactStartsF)), (yfactMiddles, .inl (kA 0, 20, .inl yfactMiddlesF)), (yfactStops, .inl (kA 0, 20, .inl yfactStopsF)), (ysigns, .inl (kA 0, 20, .inl ysignsF)), (ytests, .inl (kA 0, 256, .inl ytestsF)), (wA, .inl (kA 0, 11, .inl wF))] s.heap.size = A at hD ⊢
  have hA : ∀ q : Nat, s.heap.size ≤ q → A q := zA_of hAe
  have hS : va_S A s.heap s.heap [] := va_S.rf
  have hP : va_P (dC, dI) vwCl [(l0, .inr (1, [.int ychain, .int yclauses, .ref ysorts, .ref ysumStarts, .ref ysumStops, .ref ytestStarts, .ref ytestStops, .int yvalues, .ref yjoins, .ref yoperands, .int yfacts, .ref yfactStarts, .ref yfactMiddles, .ref yfactStops, .ref ysigns, .int ysteps, .ref ytests])), (yjoins, .inl (kA 0, 60, .inl yjoinsF)), (yoperands, .inl (kA 0, 60, .inl yoperandsF)), (yfactStarts, .inl (kA 0, 20, .inl yfactStartsF)), (yfactMiddles, .inl (kA 0, 20, .inl yfactMiddlesF)), (yfactStops, .inl (kA 0, 20, .inl yfactStopsF)), (ysigns, .inl (kA 0, 20, .inl ysignsF)), (ytests, .inl (kA 0, 256, .inl ytestsF)), (wA, .inl (kA 0, 11, .inl wF))] s.heap := hP
  have hl := lv_entry ([.ref l0, .int p0, .int p1, .ref wA]) (n := 12) (Nat.le_of_ble_eq_true rfl)
  rw [lg_entry_eq]
  generalize (lg_sl ([.ref l0, .int p0, .int p1, .ref wA]) ++ List.replicate (12 - (lg_sl ([.ref l0, .int p0, .int p1, .ref wA])).length) Slot.unset).toArray = ls at hl ⊢
  have hl : lv_has ls 12 [(0, .ref l0), (1, .int p0), (2, .int p1), (3, .ref wA)] := hl
  obtain ⟨H, hHe⟩ : ∃ H : Heap, H = s.heap := ⟨_, rfl⟩
  obtain ⟨G, hG0⟩ : ∃ G : Int32, fX1_holds yjoinsF yoperandsF yfactStartsF yfactMiddlesF yfactStopsF ysignsF ytestsF p0 p1 wF = G := ⟨_, rfl⟩
  have hG := hG0
  unfold fX1_holds at hG
  refine lv_lconst (v := 1) hx hb dX1_holds_0 (by decide) ?_
  refine lv_lstore (lv' := [(4, .long 1), (0, .ref l0), (1, .int p0), (2, .int p1), (3, .ref wA)]) hx hb dX1_holds_1 hl (by decide) rfl (fun ls hl => ?_)
  refine lv_iload_n hx hb dX1_holds_3 rfl (lv_at hl 2 rfl) ?_
  refine lv_istore (lv' := [(6, .int p0), (4, .long 1), (0, .ref l0), (1, .int p0), (2, .int p1), (3, .ref wA)]) hx hb dX1_holds_4 hl (by decide) rfl (fun ls hl => ?_)
  refine lp_mX1_holds_6 hx hb hml hts hown hK hA (Nat.le_of_ble_eq_true rfl) (Nat.le_of_ble_eq_true rfl) (Nat.le_of_ble_eq_true rfl) (Nat.le_of_ble_eq_true rfl) l0 ysorts ysumStarts ysumStops ytestStarts ytestStops yjoins yoperands yfactStarts yfactMiddles yfactStops ysigns ytests yjoinsF yoperandsF yfactStartsF yfactMiddlesF yfactStopsF ysignsF ytestsF ychain yclauses yvalues yfacts ysteps p0 p1 wA wF  (fun w183_0_0 w183_1_0 H locs ls hG hP hD hS hl => ?_) _ p0 1 _ _ ls (Nat.lt_succ_self _) hG hP hD hS (lv_sub hl [0, 1, 2, 3, 4, 5] rfl)
  obtain ⟨hP, hD⟩ := z_re (L := [(l0, .inr (1, [.int ychain, .int yclauses, .ref ysorts, .ref ysumStarts, .ref ysumStops, .ref ytestStarts, .ref ytestStops, .int yvalues, .ref yjoins, .ref yoperands, .int yfacts, .ref yfactStarts, .ref yfactMiddles, .ref yfactStops, .ref ysigns, .int ysteps, .ref ytests])), (yjoins, .inl (kA 0, 60, .inl yjoinsF)), (yoperands, .inl (kA 0, 60, .inl yoperandsF)), (yfactStarts, .inl (kA 0, 20, .inl yfactStartsF)), (yfactMiddles, .inl (kA 0, 20, .inl yfactMiddlesF)), (yfactStops, .inl (kA 0, 20, .inl yfactStopsF)), (ysigns, .inl (kA 0, 20, .inl ysignsF)), (ytests, .inl (kA 0, 256, .inl ytestsF)), (wA, .inl (kA 0, 11, .inl wF))]) hP hD
  refine lv_lload hx hb dX1_holds_183 (lv_at hl 1 rfl) ?_
  refine lv_lconst (v := 1) hx hb dX1_holds_185 (by decide) ?_
  refine lv_land hx hb dX1_holds_186 ?_
  refine lv_topl (fun x1 ex1 => ?_)
  have hG := zbnd hG ex1
  refine lv_lconst (v := 1) hx hb dX1_holds_187 (by decide) ?_
  refine W.lcmp hx hb dX1_holds_188 ?_
  refine lv_if_ne (tgt := 196) hx hb dX1_holds_189 (by decide) (fun c_2 => ?_) (fun c_2 => ?_)
  · have hG := zelse hG c_2
    refine lv_iconst (v := 0) hx hb dX1_holds_196 (by decide) ?_
    obtain ⟨hP9, hD9⟩ := z_sb (L' := [(l0, .inr (1, [.int ychain, .int yclauses, .ref ysorts, .ref ysumStarts, .ref ysumStops, .ref ytestStarts, .ref ytestStops, .int yvalues, .ref yjoins, .ref yoperands, .int yfacts, .ref yfactStarts, .ref yfactMiddles, .ref yfactStops, .ref ysigns, .int ysteps, .ref ytests])), (yjoins, .inl (kA 0, 60, .inl yjoinsF)), (yoperands, .inl (kA 0, 60, .inl yoperandsF)), (yfactStarts, .inl (kA 0, 20, .inl yfactStartsF)), (yfactMiddles, .inl (kA 0, 20, .inl yfactMiddlesF)), (yfactStops, .inl (kA 0, 20, .inl yfactStopsF)), (ysigns, .inl (kA 0, 20, .inl ysignsF)), (ytests, .inl (kA 0, 256, .inl ytestsF)), (wA, .inl (kA 0, 11, .inl wF))]) hP hD [0, 1, 2, 3, 4, 5, 6, 7, 8] (by decide) rfl
    refine W.widen (k := 0) (n := 0) (Nat.le_of_ble_eq_true rfl) (Nat.le_of_ble_eq_true rfl) ?_
    exact W.zret (v := 0) hx hb hr rfl (fun t ht hW => ⟨⟨0, (0), rfl, ⟨rfl, (hG.trans hG0.symm), (Or.inl rfl)⟩, by rw [ht]; exact hP9, hD9⟩, hS.F ht⟩) hS.2.2 dX1_holds_197
  · have hG := zthen hG c_2
    refine lv_iconst (v := 1) hx hb dX1_holds_192 (by decide) ?_
    refine lv_goto (tgt := 197) hx hb dX1_holds_193 (by decide) ?_
    obtain ⟨hP9, hD9⟩ := z_sb (L' := [(l0, .inr (1, [.int ychain, .int yclauses, .ref ysorts, .ref ysumStarts, .ref ysumStops, .ref ytestStarts, .ref ytestStops, .int yvalues, .ref yjoins, .ref yoperands, .int yfacts, .ref yfactStarts, .ref yfactMiddles, .ref yfactStops, .ref ysigns, .int ysteps, .ref ytests])), (yjoins, .inl (kA 0, 60, .inl yjoinsF)), (yoperands, .inl (kA 0, 60, .inl yoperandsF)), (yfactStarts, .inl (kA 0, 20, .inl yfactStartsF)), (yfactMiddles, .inl (kA 0, 20, .inl yfactMiddlesF)), (yfactStops, .inl (kA 0, 20, .inl yfactStopsF)), (ysigns, .inl (kA 0, 20, .inl ysignsF)), (ytests, .inl (kA 0, 256, .inl ytestsF)), (wA, .inl (kA 0, 11, .inl wF))]) hP hD [0, 1, 2, 3, 4, 5, 6, 7, 8] (by decide) rfl
    refine W.widen (k := 0) (n := 0) (Nat.le_of_ble_eq_true rfl) (Nat.le_of_ble_eq_true rfl) ?_
    exact W.zret (v := 1) hx hb hr rfl (fun t ht hW => ⟨⟨1, (1), rfl, ⟨rfl, (hG.trans hG0.symm), (Or.inr rfl)⟩, by rw [ht]; exact hP9, hD9⟩, hS.F ht⟩) hS.2.2 dX1_holds_197
set_option maxRecDepth 100000 in
def fb_mX1_sumOf_2 (ysortsF : Nat → Int32) (ytestStartsF : Nat → Int32) (ytestStopsF : Nat → Int32) (yjoinsF : Nat → Int32) (yoperandsF : Nat → Int32) (yfactStartsF : Nat → Int32) (yfactMiddlesF : Nat → Int32) (yfactStopsF : Nat → Int32) (ysignsF : Nat → Int32) (ytestsF : Nat → Int32) (yclauses : Int32) (p0 : Int32) (wF : Nat → Int32) (E46 : Int32 → Int64) (E70 : Int32 → Int64) (K : Int32 → Int64) (l2_0 : Int32) : Int64 := if yclauses ≤ l2_0 then (E70 l2_0) else (if 12 ≤ l2_0 then (E70 l2_0) else (bnd (ysortsF l2_0.toNatClampNeg) (fun (xy2_3 : Int32) => if xy2_3 = p0 then (bnd (ytestStartsF l2_0.toNatClampNeg) (fun (xy2_6 : Int32) => bnd (ytestStopsF l2_0.toNatClampNeg) (fun (xy2_7 : Int32) => bnd (fX1_holds yjoinsF yoperandsF yfactStartsF yfactMiddlesF yfactStopsF ysignsF ytestsF xy2_6 xy2_7 wF) (fun (ry2_10 : Int32) => if ry2_10 = 0 then (bnd ((l2_0 + 1)) (fun (xy2_17 : Int32) => K xy2_17)) else (E46 l2_0))))) else (bnd ((l2_0 + 1)) (fun (xy2_5 : Int32) => K xy2_5)))))
def fl_mX1_sumOf_2 (ysortsF : Nat → Int32) (ytestStartsF : Nat → Int32) (ytestStopsF : Nat → Int32) (yjoinsF : Nat → Int32) (yoperandsF : Nat → Int32) (yfactStartsF : Nat → Int32) (yfactMiddlesF : Nat → Int32) (yfactStopsF : Nat → Int32) (ysignsF : Nat → Int32) (ytestsF : Nat → Int32) (yclauses : Int32) (p0 : Int32) (wF : Nat → Int32) (E46 : Int32 → Int64) (E70 : Int32 → Int64) : Nat → Int32 → Int64
  | 0, _ => 0
  | n + 1, l2_0 => fb_mX1_sumOf_2 ysortsF ytestStartsF ytestStopsF yjoinsF yoperandsF yfactStartsF yfactMiddlesF yfactStopsF ysignsF ytestsF yclauses p0 wF E46 E70 (fl_mX1_sumOf_2 ysortsF ytestStartsF ytestStopsF yjoinsF yoperandsF yfactStartsF yfactMiddlesF yfactStopsF ysignsF ytestsF yclauses p0 wF E46 E70 n) l2_0
set_option maxHeartbeats 4000000 in
set_option maxRecDepth 100000 in
theorem lp_mX1_sumOf_2 {p : Program} {l : Launch} {e : Env} {R : Room} {s : State} {m : MethodId} {args : Array Value} {below : List Frame} {meth : Method} {c : Code} {Q : State → Prop} {dC : Nat → ClassId} {dI : Nat → Nat → Nat} {kA : Nat → ClassId} {A : Nat → Prop} {H0 : Heap} {cells slots : Nat} (hx : p.tables.exec = Jvm.exec) (hb : c.code = cX1_sumOf) (hml : c.maxLocals = 4) (hts : ∀ w ∈ wsX1_sumOf, w.before args s = true) (hown : s.vm.findClass RX1 = some m.cls) (hK : zK dC dI kA s) (hA : ∀ q, H0.size ≤ q → A q) (hRf : 2 ≤ R.frames) (hRl : 65 ≤ R.locals) (hRc : cells ≤ R.cells) (hRs : slots ≤ R.slots) (l0 : Nat) (ysorts : Nat) (ysumStarts : Nat) (ysumStops : Nat) (ytestStarts : Nat) (ytestStops : Nat) (yjoins : Nat) (yoperands : Nat) (yfactStarts : Nat) (yfactMiddles : Nat) (yfactStops : Nat) (ysigns : Nat) (ytests : Nat) (ysortsF : Nat → Int32) (ysumStartsF : Nat → Int32) (ysumStopsF : Nat → Int32) (ytestStartsF : Nat → Int32) (ytestStopsF : Nat → Int32) (yjoinsF : Nat → Int32) (yoperandsF : Nat → Int32) (yfactStartsF : Nat → Int32) (yfactMiddlesF : Nat → Int32) (yfactStopsF : Nat → Int32) (ysignsF : Nat → Int32) (ytestsF : Nat → Int32) (ychain : Int32) (yclauses : Int32) (yvalues : Int32) (yfacts : Int32) (ysteps : Int32) (p0 : Int32) (wA : Nat) (wF : Nat → Int32) {G : Int64} {E46 : Int32 → Int64} {E70 : Int32 → Int64}  (k46 : ∀ (w46_0 : Int32) (H : Heap) (locs : List Loc) (ls : Array Slot), ¬ 12 ≤ w46_0 → ¬ w46_0 < 0 → E46 w46_0 = G → va_P (dC, dI) vwCl [(l0, .inr (1, [.int ychain, .int yclauses, .ref ysorts, .ref ysumStarts, .ref ysumStops, .ref ytestStarts, .ref ytestStops, .int yvalues, .ref yjoins, .ref yoperands, .int yfacts, .ref yfactStarts, .ref yfactMiddles, .ref yfactStops, .ref ysigns, .int ysteps, .ref ytests])), (ysorts, .inl (kA 0, 12, .inl ysortsF)), (ysumStarts, .inl (kA 0, 12, .inl ysumStartsF)), (ysumStops, .inl (kA 0, 12, .inl ysumStopsF)), (ytestStarts, .inl (kA 0, 12, .inl ytestStartsF)), (ytestStops, .inl (kA 0, 12, .inl ytestStopsF)), (yjoins, .inl (kA 0, 60, .inl yjoinsF)), (yoperands, .inl (kA 0, 60, .inl yoperandsF)), (yfactStarts, .inl (kA 0, 20, .inl yfactStartsF)), (yfactMiddles, .inl (kA 0, 20, .inl yfactMiddlesF)), (yfactStops, .inl (kA 0, 20, .inl yfactStopsF)), (ysigns, .inl (kA 0, 20, .inl ysignsF)), (ytests, .inl (kA 0, 256, .inl ytestsF)), (wA, .inl (kA 0, 11, .inl wF))] H → va_D A [(l0, .inr (1, [.int ychain, .int yclauses, .ref ysorts, .ref ysumStarts, .ref ysumStops, .ref ytestStarts, .ref ytestStops, .int yvalues, .ref yjoins, .ref yoperands, .int yfacts, .ref yfactStarts, .ref yfactMiddles, .ref yfactStops, .ref ysigns, .int ysteps, .ref ytests])), (ysorts, .inl (kA 0, 12, .inl ysortsF)), (ysumStarts, .inl (kA 0, 12, .inl ysumStartsF)), (ysumStops, .inl (kA 0, 12, .inl ysumStopsF)), (ytestStarts, .inl (kA 0, 12, .inl ytestStartsF)), (ytestStops, .inl (kA 0, 12, .inl ytestStopsF)), (yjoins, .inl (kA 0, 60, .inl yjoinsF)), (yoperands, .inl (kA 0, 60, .inl yoperandsF)), (yfactStarts, .inl (kA 0, 20, .inl yfactStartsF)), (yfactMiddles, .inl (kA 0, 20, .inl yfactMiddlesF)), (yfactStops, .inl (kA 0, 20, .inl yfactStopsF)), (ysigns, .inl (kA 0, 20, .inl ysignsF)), (ytests, .inl (kA 0, 256, .inl ytestsF)), (wA, .inl (kA 0, 11, .inl wF))] → va_S A H0 H locs → lv_has ls 4 [(3, .int w46_0), (0, .ref l0), (1, .int p0), (2, .ref wA)] → W p l e R s m args below meth c H locs cells slots Q (F0 m 46 ls [])) (k70 : ∀ (w70_0 : Int32) (H : Heap) (locs : List Loc) (ls : Array Slot), ¬ w70_0 < 0 → E70 w70_0 = G → va_P (dC, dI) vwCl [(l0, .inr (1, [.int ychain, .int yclauses, .ref ysorts, .ref ysumStarts, .ref ysumStops, .ref ytestStarts, .ref ytestStops, .int yvalues, .ref yjoins, .ref yoperands, .int yfacts, .ref yfactStarts, .ref yfactMiddles, .ref yfactStops, .ref ysigns, .int ysteps, .ref ytests])), (ysorts, .inl (kA 0, 12, .inl ysortsF)), (ysumStarts, .inl (kA 0, 12, .inl ysumStartsF)), (ysumStops, .inl (kA 0, 12, .inl ysumStopsF)), (ytestStarts, .inl (kA 0, 12, .inl ytestStartsF)), (ytestStops, .inl (kA 0, 12, .inl ytestStopsF)), (yjoins, .inl (kA 0, 60, .inl yjoinsF)), (yoperands, .inl (kA 0, 60, .inl yoperandsF)), (yfactStarts, .inl (kA 0, 20, .inl yfactStartsF)), (yfactMiddles, .inl (kA 0, 20, .inl yfactMiddlesF)), (yfactStops, .inl (kA 0, 20, .inl yfactStopsF)), (ysigns, .inl (kA 0, 20, .inl ysignsF)), (ytests, .inl (kA 0, 256, .inl ytestsF)), (wA, .inl (kA 0, 11, .inl wF))] H → va_D A [(l0, .inr (1, [.int ychain, .int yclauses, .ref ysorts, .ref ysumStarts, .ref ysumStops, .ref ytestStarts, .ref ytestStops, .int yvalues, .ref yjoins, .ref yoperands, .int yfacts, .ref yfactStarts, .ref yfactMiddles, .ref yfactStops, .ref ysigns, .int ysteps, .ref ytests])), (ysorts, .inl (kA 0, 12, .inl ysortsF)), (ysumStarts, .inl (kA 0, 12, .inl ysumStartsF)), (ysumStops, .inl (kA 0, 12, .inl ysumStopsF)), (ytestStarts, .inl (kA 0, 12, .inl ytestStartsF)), (ytestStops, .inl (kA 0, 12, .inl ytestStopsF)), (yjoins, .inl (kA 0, 60, .inl yjoinsF)), (yoperands, .inl (kA 0, 60, .inl yoperandsF)), (yfactStarts, .inl (kA 0, 20, .inl yfactStartsF)), (yfactMiddles, .inl (kA 0, 20, .inl yfactMiddlesF)), (yfactStops, .inl (kA 0, 20, .inl yfactStopsF)), (ysigns, .inl (kA 0, 20, .inl ysignsF)), (ytests, .inl (kA 0, 256, .inl ytestsF)), (wA, .inl (kA 0, 11, .inl wF))] → va_S A H0 H locs → lv_has ls 4 [(3, .int w70_0), (0, .ref l0), (1, .int p0), (2, .ref wA)] → W p l e R s m args below meth c H locs cells slots Q (F0 m 70 ls []))  : ∀ (n : Nat) (l2_0 : Int32) (H : Heap) (locs : List Loc) (ls : Array Slot), ((yclauses : Int32).toInt - l2_0.toInt).toNat < n → fl_mX1_sumOf_2 ysortsF ytestStartsF ytestStopsF yjoinsF yoperandsF yfactStartsF yfactMiddlesF yfactStopsF ysignsF ytestsF yclauses p0 wF E46 E70 n l2_0 = G → ¬ l2_0 < 0 → va_P (dC, dI) vwCl [(l0, .inr (1, [.int ychain, .int yclauses, .ref ysorts, .ref ysumStarts, .ref ysumStops, .ref ytestStarts, .ref ytestStops, .int yvalues, .ref yjoins, .ref yoperands, .int yfacts, .ref yfactStarts, .ref yfactMiddles, .ref yfactStops, .ref ysigns, .int ysteps, .ref ytests])), (ysorts, .inl (kA 0, 12, .inl ysortsF)), (ysumStarts, .inl (kA 0, 12, .inl ysumStartsF)), (ysumStops, .inl (kA 0, 12, .inl ysumStopsF)), (ytestStarts, .inl (kA 0, 12, .inl ytestStartsF)), (ytestStops, .inl (kA 0, 12, .inl ytestStopsF)), (yjoins, .inl (kA 0, 60, .inl yjoinsF)), (yoperands, .inl (kA 0, 60, .inl yoperandsF)), (yfactStarts, .inl (kA 0, 20, .inl yfactStartsF)), (yfactMiddles, .inl (kA 0, 20, .inl yfactMiddlesF)), (yfactStops, .inl (kA 0, 20, .inl yfactStopsF)), (ysigns, .inl (kA 0, 20, .inl ysignsF)), (ytests, .inl (kA 0, 256, .inl ytestsF)), (wA, .inl (kA 0, 11, .inl wF))] H → va_D A [(l0, .inr (1, [.int ychain, .int yclauses, .ref ysorts, .ref ysumStarts, .ref ysumStops, .ref ytestStarts, .ref ytestStops, .int yvalues, .ref yjoins, .ref yoperands, .int yfacts, .ref yfactStarts, .ref yfactMiddles, .ref yfactStops, .ref ysigns, .int ysteps, .ref ytests])), (ysorts, .inl (kA 0, 12, .inl ysortsF)), (ysumStarts, .inl (kA 0, 12, .inl ysumStartsF)), (ysumStops, .inl (kA 0, 12, .inl ysumStopsF)), (ytestStarts, .inl (kA 0, 12, .inl ytestStartsF)), (ytestStops, .inl (kA 0, 12, .inl ytestStopsF)), (yjoins, .inl (kA 0, 60, .inl yjoinsF)), (yoperands, .inl (kA 0, 60, .inl yoperandsF)), (yfactStarts, .inl (kA 0, 20, .inl yfactStartsF)), (yfactMiddles, .inl (kA 0, 20, .inl yfactMiddlesF)), (yfactStops, .inl (kA 0, 20, .inl yfactStopsF)), (ysigns, .inl (kA 0, 20, .inl ysignsF)), (ytests, .inl (kA 0, 256, .inl ytestsF)), (wA, .inl (kA 0, 11, .inl wF))] → va_S A H0 H locs → lv_has ls 4 [(3, .int l2_0), (0, .ref l0), (1, .int p0), (2, .ref wA)] → W p l e R s m args below meth c H locs cells slots Q (F0 m 2 ls []) := by
  intro n
  induction n with
  | zero =>
    intro l2_0 H locs ls hn
    exact absurd hn (Nat.not_lt_zero _)
  | succ n ih =>
    intro l2_0 H locs ls hn hG hi2 hP hD hS hl
    have hG : fb_mX1_sumOf_2 ysortsF ytestStartsF ytestStopsF yjoinsF yoperandsF yfactStartsF yfactMiddlesF yfactStopsF ysignsF ytestsF yclauses p0 wF E46 E70 (fl_mX1_sumOf_2 ysortsF ytestStartsF ytestStopsF yjoinsF yoperandsF yfactStartsF yfactMiddlesF yfactStopsF ysignsF ytestsF yclauses p0 wF E46 E70 n) l2_0 = G := hG
    unfold fb_mX1_sumOf_2 at hG
    refine lv_iload_n hx hb dX1_sumOf_2 rfl (lv_at hl 0 rfl) ?_
    refine lv_aload_n hx hb dX1_sumOf_3 rfl (lv_at hl 1 rfl) ?_
    refine va_get (D := (dC, dI)) (ci := 1) (v := .int yclauses) (C := RX1) (T := TX1) (N := 17) hx hb hts iX1_sumOf_X1 hown hK.1 hP 0 gz0 vcz1 1 (by decide) (kX1_sumOf_1 hts) (fun _ h9 => h9) gz1 dX1_sumOf_4 ?_
    refine lv_icmp_ge (tgt := 70) hx hb dX1_sumOf_7 (by decide) (fun c_y2_1 => ?_) (fun c_y2_1 => ?_)
    · have hG := zthen hG c_y2_1
      exact k70 l2_0 H locs ls hi2 hG (hP.sub [0, 1, 2, 3, 4, 5, 6, 7, 8, 9, 10, 11, 12, 13] rfl) (hD.sub [0, 1, 2, 3, 4, 5, 6, 7, 8, 9, 10, 11, 12, 13] (by decide) rfl) hS (lv_sub hl [0, 1, 2, 3] rfl)
    · have hG := zelse hG c_y2_1
      refine lv_iload_n hx hb dX1_sumOf_10 rfl (lv_at hl 0 rfl) ?_
      refine lv_bipush (v := 12) hx hb dX1_sumOf_11 (by decide) ?_
      refine lv_icmp_ge (tgt := 70) hx hb dX1_sumOf_13 (by decide) (fun c_y2_2 => ?_) (fun c_y2_2 => ?_)
      · have hG := zthen hG c_y2_2
        exact k70 l2_0 H locs ls hi2 hG (hP.sub [0, 1, 2, 3, 4, 5, 6, 7, 8, 9, 10, 11, 12, 13] rfl) (hD.sub [0, 1, 2, 3, 4, 5, 6, 7, 8, 9, 10, 11, 12, 13] (by decide) rfl) hS (lv_sub hl [0, 1, 2, 3] rfl)
      · have hG := zelse hG c_y2_2
        refine lv_aload_n hx hb dX1_sumOf_16 rfl (lv_at hl 1 rfl) ?_
        refine va_get (D := (dC, dI)) (ci := 1) (v := .ref ysorts) (C := RX1) (T := TX1) (N := 17) hx hb hts iX1_sumOf_X1 hown hK.1 hP 0 gz0 vcz1 2 (by decide) (kX1_sumOf_2 hts) (fun _ h9 => h9) gz2 dX1_sumOf_17 ?_
        refine lv_iload_n hx hb dX1_sumOf_20 rfl (lv_at hl 0 rfl) ?_
        refine va_iald hx hb hK.1 hP 1 0 gz1 tzz0 (vp_lt (by decide) hi2 c_y2_2) dX1_sumOf_21 ?_
        refine lv_topi (fun xy2_3 exy2_3 => ?_)
        have hG := zbnd hG exy2_3
        refine lv_iload_n hx hb dX1_sumOf_22 rfl (lv_at hl 2 rfl) ?_
        refine lv_icmp_ne (tgt := 64) hx hb dX1_sumOf_23 (by decide) (fun c_y2_4 => ?_) (fun c_y2_4 => ?_)
        · have hG := zelse hG c_y2_4
          obtain ⟨xy2_5, exy2_5⟩ : ∃ y : Int32, y = l2_0 + 1 := ⟨_, rfl⟩
          have hG := zbnd hG exy2_5
          refine lv_iinc (v := xy2_5) (lv' := [(3, .int xy2_5), (0, .ref l0), (1, .int p0), (2, .ref wA)]) hx hb dX1_sumOf_64 hl (k := 0) rfl (by rw [exy2_5]; rfl) (by decide) rfl (fun ls hl => ?_)
          refine lv_goto (tgt := 2) hx hb dX1_sumOf_67 (by decide) ?_
          exact ih xy2_5 H locs ls (z_up hn exy2_5 c_y2_1) hG (z_nn exy2_5 c_y2_1 hi2) (hP.sub [0, 1, 2, 3, 4, 5, 6, 7, 8, 9, 10, 11, 12, 13] rfl) (hD.sub [0, 1, 2, 3, 4, 5, 6, 7, 8, 9, 10, 11, 12, 13] (by decide) rfl) hS (lv_sub hl [0, 1, 2, 3] rfl)
        · have hG := zthen hG c_y2_4
          refine lv_aload_n hx hb dX1_sumOf_26 rfl (lv_at hl 1 rfl) ?_
          refine lv_aload_n hx hb dX1_sumOf_27 rfl (lv_at hl 1 rfl) ?_
          refine va_get (D := (dC, dI)) (ci := 1) (v := .ref ytestStarts) (C := RX1) (T := TX1) (N := 17) hx hb hts iX1_sumOf_X1 hown hK.1 hP 0 gz0 vcz1 5 (by decide) (kX1_sumOf_3 hts) (fun _ h9 => h9) gz5 dX1_sumOf_28 ?_
          refine lv_iload_n hx hb dX1_sumOf_31 rfl (lv_at hl 0 rfl) ?_
          refine va_iald hx hb hK.1 hP 4 0 gz4 tzz0 (vp_lt (by decide) hi2 c_y2_2) dX1_sumOf_32 ?_
          refine lv_topi (fun xy2_6 exy2_6 => ?_)
          have hG := zbnd hG exy2_6
          refine lv_aload_n hx hb dX1_sumOf_33 rfl (lv_at hl 1 rfl) ?_
          refine va_get (D := (dC, dI)) (ci := 1) (v := .ref ytestStops) (C := RX1) (T := TX1) (N := 17) hx hb hts iX1_sumOf_X1 hown hK.1 hP 0 gz0 vcz1 6 (by decide) (kX1_sumOf_4 hts) (fun _ h9 => h9) gz6 dX1_sumOf_34 ?_
          refine lv_iload_n hx hb dX1_sumOf_37 rfl (lv_at hl 0 rfl) ?_
          refine va_iald hx hb hK.1 hP 5 0 gz5 tzz0 (vp_lt (by decide) hi2 c_y2_2) dX1_sumOf_38 ?_
          refine lv_topi (fun xy2_7 exy2_7 => ?_)
          have hG := zbnd hG exy2_7
          refine lv_aload_n hx hb dX1_sumOf_39 rfl (lv_at hl 3 rfl) ?_
          refine z_i (wr := [(ysorts, .inl (kA 0, 12, .inl ysortsF)), (ysumStarts, .inl (kA 0, 12, .inl ysumStartsF)), (ysumStops, .inl (kA 0, 12, .inl ysumStopsF)), (ytestStarts, .inl (kA 0, 12, .inl ytestStartsF)), (ytestStops, .inl (kA 0, 12, .inl ytestStopsF))]) (va_runV (As := [.int xy2_6, .int xy2_7, .ref wA]) (rest := []) ⟨hx, hb, hml, hown, hts⟩ (mX1_holds l dC dI kA _ l0 ysorts ysumStarts ysumStops ytestStarts ytestStops yjoins yoperands yfactStarts yfactMiddles yfactStops ysigns ytests yjoinsF yoperandsF yfactStartsF yfactMiddlesF yfactStopsF ysignsF ytestsF ychain yclauses yvalues yfacts ysteps xy2_6 xy2_7 wA wF) (cwV 3 hts gX1_sumOf_X1_holds rfl rfl rfl ⟨rfl, hdX1_holds⟩ ⟨(Nat.le_trans (Nat.le_of_ble_eq_true rfl) hRf), (Nat.le_trans (Nat.le_of_ble_eq_true rfl) hRl)⟩) ⟨zPc.blind, va_recv (q := (RX1, TX1, 17)) hK.1 hP (ci := 1) (q0 := 0) rfl rfl, zPre hK (hP.sub [0, 6, 7, 8, 9, 10, 11, 12, 13] rfl) (hD.sub [0, 6, 7, 8, 9, 10, 11, 12, 13] (by decide) rfl)⟩ rfl rfl hl.1 rfl (lv_room (Nat.le_of_ble_eq_true rfl)) dX1_sumOf_40 ⟨hRc, hRs⟩) hP hD hS hA [0, 6, 7, 8, 9, 10, 11, 12, 13] [1, 2, 3, 4, 5] rfl rfl (by decide) (by decide) (fun ry2_10 uy2_8 H locs hwy2_9 hP hD hS => ?_)
          obtain ⟨ery2_14, hpy2_12, hpy2_13⟩ := hwy2_9
          have ery2_14 : ry2_10 = uy2_8 := ery2_14
          subst ery2_14
          have ery2_10 : ry2_10 = fX1_holds yjoinsF yoperandsF yfactStartsF yfactMiddlesF yfactStopsF ysignsF ytestsF xy2_6 xy2_7 wF := hpy2_12
          have hG := zbnd hG ery2_10
          obtain ⟨hP, hD⟩ := z_re (L := [(ysorts, .inl (kA 0, 12, .inl ysortsF)), (ysumStarts, .inl (kA 0, 12, .inl ysumStartsF)), (ysumStops, .inl (kA 0, 12, .inl ysumStopsF)), (ytestStarts, .inl (kA 0, 12, .inl ytestStartsF)), (ytestStops, .inl (kA 0, 12, .inl ytestStopsF)), (l0, .inr (1, [.int ychain, .int yclauses, .ref ysorts, .ref ysumStarts, .ref ysumStops, .ref ytestStarts, .ref ytestStops, .int yvalues, .ref yjoins, .ref yoperands, .int yfacts, .ref yfactStarts, .ref yfactMiddles, .ref yfactStops, .ref ysigns, .int ysteps, .ref ytests])), (yjoins, .inl (kA 0, 60, .inl yjoinsF)), (yoperands, .inl (kA 0, 60, .inl yoperandsF)), (yfactStarts, .inl (kA 0, 20, .inl yfactStartsF)), (yfactMiddles, .inl (kA 0, 20, .inl yfactMiddlesF)), (yfactStops, .inl (kA 0, 20, .inl yfactStopsF)), (ysigns, .inl (kA 0, 20, .inl ysignsF)), (ytests, .inl (kA 0, 256, .inl ytestsF)), (wA, .inl (kA 0, 11, .inl wF))]) hP hD
          refine lv_if_eq (tgt := 64) hx hb dX1_sumOf_43 (by decide) (fun c_y2_16 => ?_) (fun c_y2_16 => ?_)
          · have hG := zthen hG c_y2_16
            obtain ⟨xy2_17, exy2_17⟩ : ∃ y : Int32, y = l2_0 + 1 := ⟨_, rfl⟩
            have hG := zbnd hG exy2_17
            refine lv_iinc (v := xy2_17) (lv' := [(3, .int xy2_17), (0, .ref l0), (1, .int p0), (2, .ref wA)]) hx hb dX1_sumOf_64 hl (k := 0) rfl (by rw [exy2_17]; rfl) (by decide) rfl (fun ls hl => ?_)
            refine lv_goto (tgt := 2) hx hb dX1_sumOf_67 (by decide) ?_
            exact ih xy2_17 H locs ls (z_up hn exy2_17 c_y2_1) hG (z_nn exy2_17 c_y2_1 hi2) (hP.sub [5, 0, 1, 2, 3, 4, 6, 7, 8, 9, 10, 11, 12, 13] rfl) (hD.sub [5, 0, 1, 2, 3, 4, 6, 7, 8, 9, 10, 11, 12, 13] (by decide) rfl) hS (lv_sub hl [0, 1, 2, 3] rfl)
          · have hG := zelse hG c_y2_16
            exact k46 l2_0 H locs ls c_y2_2 hi2 hG (hP.sub [5, 0, 1, 2, 3, 4, 6, 7, 8, 9, 10, 11, 12, 13] rfl) (hD.sub [5, 0, 1, 2, 3, 4, 6, 7, 8, 9, 10, 11, 12, 13] (by decide) rfl) hS (lv_sub hl [0, 1, 2, 3] rfl)
set_option maxRecDepth 100000 in
def fX1_sumOf (ysortsF : Nat → Int32) (ysumStartsF : Nat → Int32) (ysumStopsF : Nat → Int32) (ytestStartsF : Nat → Int32) (ytestStopsF : Nat → Int32) (yjoinsF : Nat → Int32) (yoperandsF : Nat → Int32) (yfactStartsF : Nat → Int32) (yfactMiddlesF : Nat → Int32) (yfactStopsF : Nat → Int32) (ysignsF : Nat → Int32) (ytestsF : Nat → Int32) (yclauses : Int32) (p0 : Int32) (wF : Nat → Int32) : Int64 := fl_mX1_sumOf_2 ysortsF ytestStartsF ytestStopsF yjoinsF yoperandsF yfactStartsF yfactMiddlesF yfactStopsF ysignsF ytestsF yclauses p0 wF (fun (w46_0_0 : Int32) => bnd (ysumStartsF w46_0_0.toNatClampNeg) (fun (x1 : Int32) => bnd (ysumStopsF w46_0_0.toNatClampNeg) (fun (x2 : Int32) => bnd (fX1_total yjoinsF yoperandsF x1 x2 wF) (fun (r5 : Int64) => r5)))) (fun (w70_0_0 : Int32) => 0) (((yclauses : Int32).toInt - (0 : Int32).toInt).toNat + 1) 0
set_option maxHeartbeats 4000000 in
set_option maxRecDepth 100000 in
theorem mX1_sumOf (l : Launch) (dC : Nat → ClassId) (dI : Nat → Nat → Nat) (kA : Nat → ClassId) (sz : Nat) (l0 : Nat) (ysorts : Nat) (ysumStarts : Nat) (ysumStops : Nat) (ytestStarts : Nat) (ytestStops : Nat) (yjoins : Nat) (yoperands : Nat) (yfactStarts : Nat) (yfactMiddles : Nat) (yfactStops : Nat) (ysigns : Nat) (ytests : Nat) (ysortsF : Nat → Int32) (ysumStartsF : Nat → Int32) (ysumStopsF : Nat → Int32) (ytestStartsF : Nat → Int32) (ytestStopsF : Nat → Int32) (yjoinsF : Nat → Int32) (yoperandsF : Nat → Int32) (yfactStartsF : Nat → Int32) (yfactMiddlesF : Nat → Int32) (yfactStopsF : Nat → Int32) (ysignsF : Nat → Int32) (ytestsF : Nat → Int32) (ychain : Int32) (yclauses : Int32) (yvalues : Int32) (yfacts : Int32) (ysteps : Int32) (p0 : Int32) (wA : Nat) (wF : Nat → Int32)  : Met l yX1_sumOf wsX1_sumOf ({ frames := 2, cells := 0, slots := 0, locals := 65 }) (zPc dC dI kA sz [.ref l0, .int p0, .ref wA] [(l0, .inr (1, [.int ychain, .int yclauses, .ref ysorts, .ref ysumStarts, .ref ysumStops, .ref ytestStarts, .ref ytestStops, .int yvalues, .ref yjoins, .ref yoperands, .int yfacts, .ref yfactStarts, .ref yfactMiddles, .ref yfactStops, .ref ysigns, .int ysteps, .ref ytests])), (ysorts, .inl (kA 0, 12, .inl ysortsF)), (ysumStarts, .inl (kA 0, 12, .inl ysumStartsF)), (ysumStops, .inl (kA 0, 12, .inl ysumStopsF)), (ytestStarts, .inl (kA 0, 12, .inl ytestStartsF)), (ytestStops, .inl (kA 0, 12, .inl ytestStopsF)), (yjoins, .inl (kA 0, 60, .inl yjoinsF)), (yoperands, .inl (kA 0, 60, .inl yoperandsF)), (yfactStarts, .inl (kA 0, 20, .inl yfactStartsF)), (yfactMiddles, .inl (kA 0, 20, .inl yfactMiddlesF)), (yfactStops, .inl (kA 0, 20, .inl yfactStopsF)), (ysigns, .inl (kA 0, 20, .inl ysignsF)), (ytests, .inl (kA 0, 256, .inl ytestsF)), (wA, .inl (kA 0, 11, .inl wF))]) (va_Ql (fun (r : Int64) (u : Int64) => r = u ∧ u = fX1_sumOf ysortsF ysumStartsF ysumStopsF ytestStartsF ytestStopsF yjoinsF yoperandsF yfactStartsF yfactMiddlesF yfactStopsF ysignsF ytestsF yclauses p0 wF) (zB dC dI (va_A [(l0, .inr (1, [.int ychain, .int yclauses, .ref ysorts, .ref ysumStarts, .ref ysumStops, .ref ytestStarts, .ref ytestStops, .int yvalues, .ref yjoins, .ref yoperands, .int yfacts, .ref yfactStarts, .ref yfactMiddles, .ref yfactStops, .ref ysigns, .int ysteps, .ref ytests])), (ysorts, .inl (kA 0, 12, .inl ysortsF)), (ysumStarts, .inl (kA 0, 12, .inl ysumStartsF)), (ysumStops, .inl (kA 0, 12, .inl ysumStopsF)), (ytestStarts, .inl (kA 0, 12, .inl ytestStartsF)), (ytestStops, .inl (kA 0, 12, .inl ytestStopsF)), (yjoins, .inl (kA 0, 60, .inl yjoinsF)), (yoperands, .inl (kA 0, 60, .inl yoperandsF)), (yfactStarts, .inl (kA 0, 20, .inl yfactStartsF)), (yfactMiddles, .inl (kA 0, 20, .inl yfactMiddlesF)), (yfactStops, .inl (kA 0, 20, .inl yfactStopsF)), (ysigns, .inl (kA 0, 20, .inl ysignsF)), (ytests, .inl (kA 0, 256, .inl ytestsF)), (wA, .inl (kA 0, 11, .inl wF))] sz) (fun (u : Int64) => [(l0, .inr (1, [.int ychain, .int yclauses, .ref ysorts, .ref ysumStarts, .ref ysumStops, .ref ytestStarts, .ref ytestStops, .int yvalues, .ref yjoins, .ref yoperands, .int yfacts, .ref yfactStarts, .ref yfactMiddles, .ref yfactStops, .ref ysigns, .int ysteps, .ref ytests])), (ysorts, .inl (kA 0, 12, .inl ysortsF)), (ysumStarts, .inl (kA 0, 12, .inl ysumStartsF)), (ysumStops, .inl (kA 0, 12, .inl ysumStopsF)), (ytestStarts, .inl (kA 0, 12, .inl ytestStartsF)), (ytestStops, .inl (kA 0, 12, .inl ytestStopsF)), (yjoins, .inl (kA 0, 60, .inl yjoinsF)), (yoperands, .inl (kA 0, 60, .inl yoperandsF)), (yfactStarts, .inl (kA 0, 20, .inl yfactStartsF)), (yfactMiddles, .inl (kA 0, 20, .inl yfactMiddlesF)), (yfactStops, .inl (kA 0, 20, .inl yfactStopsF)), (ysigns, .inl (kA 0, 20, .inl ysignsF)), (ytests, .inl (kA 0, 256, .inl ytestsF)), (wA, .inl (kA 0, 11, .inl wF))])) (va_A [(l0, .inr (1, [.int ychain, .int yclauses, .ref ysorts, .ref ysumStarts, .ref ysumStops, .ref ytestStarts, .ref ytestStops, .int yvalues, .ref yjoins, .ref yoperands, .int yfacts, .ref yfactStarts, .ref yfactMiddles, .ref yfactStops, .ref ysigns, .int ysteps, .ref ytests])), (ysorts, .inl (kA 0, 12, .inl ysortsF)), (ysumStarts, .inl (kA 0, 12, .inl ysumStartsF)), (ysumStops, .inl (kA 0, 12, .inl ysumStopsF)), (ytestStarts, .inl (kA 0, 12, .inl ytestStartsF)), (ytestStops, .inl (kA 0, 12, .inl ytestStopsF)), (yjoins, .inl (kA 0, 60, .inl yjoinsF)), (yoperands, .inl (kA 0, 60, .inl yoperandsF)), (yfactStarts, .inl (kA 0, 20, .inl yfactStartsF)), (yfactMiddles, .inl (kA 0, 20, .inl yfactMiddlesF)), (yfactStops, .inl (kA 0, 20, .inl yfactStopsF)), (ysigns, .inl (kA 0, 20, .inl ysignsF)), (ytests, .inl (kA 0, 256, .inl ytestsF)), (wA, .inl (kA 0, 11, .inl wF))] sz)) 0 0 (va_A [(l0, .inr (1, [.int ychain, .int yclauses, .ref ysorts, .ref ysumStarts, .ref ysumStops, .ref ytestStarts, .ref ytestStops, .int yvalues, .ref yjoins, .ref yoperands, .int yfacts, .ref yfactStarts, .ref yfactMiddles, .ref yfactStops, .ref ysigns, .int ysteps, .ref ytests])), (ysorts, .inl (kA 0, 12, .inl ysortsF)), (ysumStarts, .inl (kA 0, 12, .inl ysumStartsF)), (ysumStops, .inl (kA 0, 12, .inl ysumStopsF)), (ytestStarts, .inl (kA 0, 12, .inl ytestStartsF)), (ytestStops, .inl (kA 0, 12, .inl ytestStopsF)), (yjoins, .inl (kA 0, 60, .inl yjoinsF)), (yoperands, .inl (kA 0, 60, .inl yoperandsF)), (yfactStarts, .inl (kA 0, 20, .inl yfactStartsF)), (yfactMiddles, .inl (kA 0, 20, .inl yfactMiddlesF)), (yfactStops, .inl (kA 0, 20, .inl yfactStopsF)), (ysigns, .inl (kA 0, 20, .inl ysignsF)), (ytests, .inl (kA 0, 256, .inl ytestsF)), (wA, .inl (kA 0, 11, .inl wF))] sz) := by
  refine Met.ofW (cc := cX1_sumOf) (maxL := 4) (ret := (some .long)) pnX1 rfl ?_
  intro p e s m args below meth c s₁ B hml hv
  obtain ⟨rfl, hsz, hP, hK, hD0⟩ := hv
  have hx := B.exec
  have hb := B.bytes
  have hr := B.returns
  have hts := atoms_spec (ws := wsX1_sumOf) B.pre
  have hown : s.vm.findClass RX1 = some m.cls := findClass_of_methodNamed B.named
  have hlocks := B.notSynchronized
  subst hsz
  have hD := hD0.self (sz := s.heap.size)
  generalize hAe : va_A [(l0, .inr (1, [.int ychain, .int yclauses, .ref ysorts, .ref ysumStarts, .ref ysumStops, .ref ytestStarts, .ref ytestStops, .int yvalues, .ref yjoins, .ref yoperands, .int yfacts, .ref yfactStarts, .ref yfactMiddles, .ref yfactStops, .ref ysigns, .int ysteps, .ref ytests])), (ysorts, .inl (kA 0, 12, .inl ysortsF)), (ysumStarts, .inl (kA 0, 12, .inl ysumStartsF)), (ysumStops, .inl (kA 0, 12, .inl ysumStopsF)), (ytestStarts, .inl (kA 0, 12, .inl ytestStartsF)), (ytestStops, .inl (kA 0, 12, .inl ytestStopsF)), (yjoins, .inl (kA 0, 60, .inl yjoinsF)), (yoperands, .inl (kA 0, 60, .inl yoperandsF)), (yfactStarts, .inl (kA 0, 20, .inl yfactStartsF)), (yfactMiddles, .inl (kA 0, 20, .inl yfactMiddlesF)), (yfactStops, .inl (kA 0, 20, .inl yfactStopsF)), (ysigns, .inl (kA 0, 20, .inl ysignsF)), (ytests, .inl (kA 0, 256, .inl ytestsF)), (wA, .inl (kA 0, 11, .inl wF))] s.heap.size = A at hD ⊢
  have hA : ∀ q : Nat, s.heap.size ≤ q → A q := zA_of hAe
  have hS : va_S A s.heap s.heap [] := va_S.rf
  have hP : va_P (dC, dI) vwCl [(l0, .inr (1, [.int ychain, .int yclauses, .ref ysorts, .ref ysumStarts, .ref ysumStops, .ref ytestStarts, .ref ytestStops, .int yvalues, .ref yjoins, .ref yoperands, .int yfacts, .ref yfactStarts, .ref yfactMiddles, .ref yfactStops, .ref ysigns, .int ysteps, .ref ytests])), (ysorts, .inl (kA 0, 12, .inl ysortsF)), (ysumStarts, .inl (kA 0, 12, .inl ysumStartsF)), (ysumStops, .inl (kA 0, 12, .inl ysumStopsF)), (ytestStarts, .inl (kA 0, 12, .inl ytestStartsF)), (ytestStops, .inl (kA 0, 12, .inl ytestStopsF)), (yjoins, .inl (kA 0, 60, .inl yjoinsF)), (yoperands, .inl (kA 0, 60, .inl yoperandsF)), (yfactStarts, .inl (kA 0, 20, .inl yfactStartsF)), (yfactMiddles, .inl (kA 0, 20, .inl yfactMiddlesF)), (yfactStops, .inl (kA 0, 20, .inl yfactStopsF)), (ysigns, .inl (kA 0, 20, .inl ysignsF)), (ytests, .inl (kA 0, 256, .inl ytestsF)), (wA, .inl (kA 0, 11, .inl wF))] s.heap := hP
  have hl := lv_entry ([.ref l0, .int p0, .ref wA]) (n := 4) (Nat.le_of_ble_eq_true rfl)
  rw [lg_entry_eq]
  generalize (lg_sl ([.ref l0, .int p0, .ref wA]) ++ List.replicate (4 - (lg_sl ([.ref l0, .int p0, .ref wA])).length) Slot.unset).toArray = ls at hl ⊢
  have hl : lv_has ls 4 [(0, .ref l0), (1, .int p0), (2, .ref wA)] := hl
  obtain ⟨H, hHe⟩ : ∃ H : Heap, H = s.heap := ⟨_, rfl⟩
  obtain ⟨G, hG0⟩ : ∃ G : Int64, fX1_sumOf ysortsF ysumStartsF ysumStopsF ytestStartsF ytestStopsF yjoinsF yoperandsF yfactStartsF yfactMiddlesF yfactStopsF ysignsF ytestsF yclauses p0 wF = G := ⟨_, rfl⟩
  have hG := hG0
  unfold fX1_sumOf at hG
  refine lv_iconst (v := 0) hx hb dX1_sumOf_0 (by decide) ?_
  refine lv_istore_n (lv' := [(3, .int 0), (0, .ref l0), (1, .int p0), (2, .ref wA)]) hx hb dX1_sumOf_1 rfl hl (by decide) rfl (fun ls hl => ?_)
  refine lp_mX1_sumOf_2 hx hb hml hts hown hK hA (Nat.le_of_ble_eq_true rfl) (Nat.le_of_ble_eq_true rfl) (Nat.le_of_ble_eq_true rfl) (Nat.le_of_ble_eq_true rfl) l0 ysorts ysumStarts ysumStops ytestStarts ytestStops yjoins yoperands yfactStarts yfactMiddles yfactStops ysigns ytests ysortsF ysumStartsF ysumStopsF ytestStartsF ytestStopsF yjoinsF yoperandsF yfactStartsF yfactMiddlesF yfactStopsF ysignsF ytestsF ychain yclauses yvalues yfacts ysteps p0 wA wF  (fun w46_0_0 H locs ls hx46_3_nle12_0 hx46_3_nlt00_0 hG hP hD hS hl => ?_) (fun w70_0_0 H locs ls hx70_3_nlt00_0 hG hP hD hS hl => ?_) _ 0 _ _ ls (Nat.lt_succ_self _) hG (by decide) hP hD hS (lv_sub hl [0, 1, 2, 3] rfl)
  · obtain ⟨hP, hD⟩ := z_re (L := [(l0, .inr (1, [.int ychain, .int yclauses, .ref ysorts, .ref ysumStarts, .ref ysumStops, .ref ytestStarts, .ref ytestStops, .int yvalues, .ref yjoins, .ref yoperands, .int yfacts, .ref yfactStarts, .ref yfactMiddles, .ref yfactStops, .ref ysigns, .int ysteps, .ref ytests])), (ysorts, .inl (kA 0, 12, .inl ysortsF)), (ysumStarts, .inl (kA 0, 12, .inl ysumStartsF)), (ysumStops, .inl (kA 0, 12, .inl ysumStopsF)), (ytestStarts, .inl (kA 0, 12, .inl ytestStartsF)), (ytestStops, .inl (kA 0, 12, .inl ytestStopsF)), (yjoins, .inl (kA 0, 60, .inl yjoinsF)), (yoperands, .inl (kA 0, 60, .inl yoperandsF)), (yfactStarts, .inl (kA 0, 20, .inl yfactStartsF)), (yfactMiddles, .inl (kA 0, 20, .inl yfactMiddlesF)), (yfactStops, .inl (kA 0, 20, .inl yfactStopsF)), (ysigns, .inl (kA 0, 20, .inl ysignsF)), (ytests, .inl (kA 0, 256, .inl ytestsF)), (wA, .inl (kA 0, 11, .inl wF))]) hP hD
    refine lv_aload_n hx hb dX1_sumOf_46 rfl (lv_at hl 1 rfl) ?_
    refine lv_aload_n hx hb dX1_sumOf_47 rfl (lv_at hl 1 rfl) ?_
    refine va_get (D := (dC, dI)) (ci := 1) (v := .ref ysumStarts) (C := RX1) (T := TX1) (N := 17) hx hb hts iX1_sumOf_X1 hown hK.1 hP 0 gz0 vcz1 3 (by decide) (kX1_sumOf_5 hts) (fun _ h9 => h9) gz3 dX1_sumOf_48 ?_
    refine lv_iload_n hx hb dX1_sumOf_51 rfl (lv_at hl 0 rfl) ?_
    refine va_iald hx hb hK.1 hP 2 0 gz2 tzz0 (vp_lt (by decide) hx46_3_nlt00_0 hx46_3_nle12_0) dX1_sumOf_52 ?_
    refine lv_topi (fun x1 ex1 => ?_)
    have hG := zbnd hG ex1
    refine lv_aload_n hx hb dX1_sumOf_53 rfl (lv_at hl 1 rfl) ?_
    refine va_get (D := (dC, dI)) (ci := 1) (v := .ref ysumStops) (C := RX1) (T := TX1) (N := 17) hx hb hts iX1_sumOf_X1 hown hK.1 hP 0 gz0 vcz1 4 (by decide) (kX1_sumOf_6 hts) (fun _ h9 => h9) gz4 dX1_sumOf_54 ?_
    refine lv_iload_n hx hb dX1_sumOf_57 rfl (lv_at hl 0 rfl) ?_
    refine va_iald hx hb hK.1 hP 3 0 gz3 tzz0 (vp_lt (by decide) hx46_3_nlt00_0 hx46_3_nle12_0) dX1_sumOf_58 ?_
    refine lv_topi (fun x2 ex2 => ?_)
    have hG := zbnd hG ex2
    refine lv_aload_n hx hb dX1_sumOf_59 rfl (lv_at hl 3 rfl) ?_
    refine z_l (wr := [(ysorts, .inl (kA 0, 12, .inl ysortsF)), (ysumStarts, .inl (kA 0, 12, .inl ysumStartsF)), (ysumStops, .inl (kA 0, 12, .inl ysumStopsF)), (ytestStarts, .inl (kA 0, 12, .inl ytestStartsF)), (ytestStops, .inl (kA 0, 12, .inl ytestStopsF)), (yfactStarts, .inl (kA 0, 20, .inl yfactStartsF)), (yfactMiddles, .inl (kA 0, 20, .inl yfactMiddlesF)), (yfactStops, .inl (kA 0, 20, .inl yfactStopsF)), (ysigns, .inl (kA 0, 20, .inl ysignsF)), (ytests, .inl (kA 0, 256, .inl ytestsF))]) (va_runV (As := [.int x1, .int x2, .ref wA]) (rest := []) ⟨hx, hb, hml, hown, hts⟩ (mX1_total l dC dI kA _ l0 ysorts ysumStarts ysumStops ytestStarts ytestStops yjoins yoperands yfactStarts yfactMiddles yfactStops ysigns ytests yjoinsF yoperandsF ychain yclauses yvalues yfacts ysteps x1 x2 wA wF) (cwV 3 hts gX1_sumOf_X1_total rfl rfl rfl ⟨rfl, hdX1_total⟩ ⟨(Nat.le_of_ble_eq_true rfl), (Nat.le_of_ble_eq_true rfl)⟩) ⟨zPc.blind, va_recv (q := (RX1, TX1, 17)) hK.1 hP (ci := 1) (q0 := 0) rfl rfl, zPre hK (hP.sub [0, 6, 7, 13] rfl) (hD.sub [0, 6, 7, 13] (by decide) rfl)⟩ rfl rfl hl.1 rfl (lv_room (Nat.le_of_ble_eq_true rfl)) dX1_sumOf_60 ⟨(Nat.le_of_ble_eq_true rfl), (Nat.le_of_ble_eq_true rfl)⟩) hP hD hS hA [0, 6, 7, 13] [1, 2, 3, 4, 5, 8, 9, 10, 11, 12] rfl rfl (by decide) (by decide) (fun r5 u3 H locs hw4 hP hD hS => ?_)
    obtain ⟨er8, hp7⟩ := hw4
    have er8 : r5 = u3 := er8
    subst er8
    have er5 : r5 = fX1_total yjoinsF yoperandsF x1 x2 wF := hp7
    have hG := zbnd hG er5
    obtain ⟨hP, hD⟩ := z_re (L := [(ysorts, .inl (kA 0, 12, .inl ysortsF)), (ysumStarts, .inl (kA 0, 12, .inl ysumStartsF)), (ysumStops, .inl (kA 0, 12, .inl ysumStopsF)), (ytestStarts, .inl (kA 0, 12, .inl ytestStartsF)), (ytestStops, .inl (kA 0, 12, .inl ytestStopsF)), (yfactStarts, .inl (kA 0, 20, .inl yfactStartsF)), (yfactMiddles, .inl (kA 0, 20, .inl yfactMiddlesF)), (yfactStops, .inl (kA 0, 20, .inl yfactStopsF)), (ysigns, .inl (kA 0, 20, .inl ysignsF)), (ytests, .inl (kA 0, 256, .inl ytestsF)), (l0, .inr (1, [.int ychain, .int yclauses, .ref ysorts, .ref ysumStarts, .ref ysumStops, .ref ytestStarts, .ref ytestStops, .int yvalues, .ref yjoins, .ref yoperands, .int yfacts, .ref yfactStarts, .ref yfactMiddles, .ref yfactStops, .ref ysigns, .int ysteps, .ref ytests])), (yjoins, .inl (kA 0, 60, .inl yjoinsF)), (yoperands, .inl (kA 0, 60, .inl yoperandsF)), (wA, .inl (kA 0, 11, .inl wF))]) hP hD
    obtain ⟨hP9, hD9⟩ := z_sb (L' := [(l0, .inr (1, [.int ychain, .int yclauses, .ref ysorts, .ref ysumStarts, .ref ysumStops, .ref ytestStarts, .ref ytestStops, .int yvalues, .ref yjoins, .ref yoperands, .int yfacts, .ref yfactStarts, .ref yfactMiddles, .ref yfactStops, .ref ysigns, .int ysteps, .ref ytests])), (ysorts, .inl (kA 0, 12, .inl ysortsF)), (ysumStarts, .inl (kA 0, 12, .inl ysumStartsF)), (ysumStops, .inl (kA 0, 12, .inl ysumStopsF)), (ytestStarts, .inl (kA 0, 12, .inl ytestStartsF)), (ytestStops, .inl (kA 0, 12, .inl ytestStopsF)), (yjoins, .inl (kA 0, 60, .inl yjoinsF)), (yoperands, .inl (kA 0, 60, .inl yoperandsF)), (yfactStarts, .inl (kA 0, 20, .inl yfactStartsF)), (yfactMiddles, .inl (kA 0, 20, .inl yfactMiddlesF)), (yfactStops, .inl (kA 0, 20, .inl yfactStopsF)), (ysigns, .inl (kA 0, 20, .inl ysignsF)), (ytests, .inl (kA 0, 256, .inl ytestsF)), (wA, .inl (kA 0, 11, .inl wF))]) hP hD [10, 0, 1, 2, 3, 4, 11, 12, 5, 6, 7, 8, 9, 13] (by decide) rfl
    refine W.widen (k := 0) (n := 0) (Nat.le_of_ble_eq_true rfl) (Nat.le_of_ble_eq_true rfl) ?_
    exact W.lret (v := r5) hx hb hr (fun t ht hW => ⟨⟨r5, (r5), rfl, ⟨rfl, (hG.trans hG0.symm)⟩, by rw [ht]; exact hP9, hD9⟩, hS.F ht⟩) hS.2.2 dX1_sumOf_63
  · obtain ⟨hP, hD⟩ := z_re (L := [(l0, .inr (1, [.int ychain, .int yclauses, .ref ysorts, .ref ysumStarts, .ref ysumStops, .ref ytestStarts, .ref ytestStops, .int yvalues, .ref yjoins, .ref yoperands, .int yfacts, .ref yfactStarts, .ref yfactMiddles, .ref yfactStops, .ref ysigns, .int ysteps, .ref ytests])), (ysorts, .inl (kA 0, 12, .inl ysortsF)), (ysumStarts, .inl (kA 0, 12, .inl ysumStartsF)), (ysumStops, .inl (kA 0, 12, .inl ysumStopsF)), (ytestStarts, .inl (kA 0, 12, .inl ytestStartsF)), (ytestStops, .inl (kA 0, 12, .inl ytestStopsF)), (yjoins, .inl (kA 0, 60, .inl yjoinsF)), (yoperands, .inl (kA 0, 60, .inl yoperandsF)), (yfactStarts, .inl (kA 0, 20, .inl yfactStartsF)), (yfactMiddles, .inl (kA 0, 20, .inl yfactMiddlesF)), (yfactStops, .inl (kA 0, 20, .inl yfactStopsF)), (ysigns, .inl (kA 0, 20, .inl ysignsF)), (ytests, .inl (kA 0, 256, .inl ytestsF)), (wA, .inl (kA 0, 11, .inl wF))]) hP hD
    refine lv_lconst (v := 0) hx hb dX1_sumOf_70 (by decide) ?_
    obtain ⟨hP9, hD9⟩ := z_sb (L' := [(l0, .inr (1, [.int ychain, .int yclauses, .ref ysorts, .ref ysumStarts, .ref ysumStops, .ref ytestStarts, .ref ytestStops, .int yvalues, .ref yjoins, .ref yoperands, .int yfacts, .ref yfactStarts, .ref yfactMiddles, .ref yfactStops, .ref ysigns, .int ysteps, .ref ytests])), (ysorts, .inl (kA 0, 12, .inl ysortsF)), (ysumStarts, .inl (kA 0, 12, .inl ysumStartsF)), (ysumStops, .inl (kA 0, 12, .inl ysumStopsF)), (ytestStarts, .inl (kA 0, 12, .inl ytestStartsF)), (ytestStops, .inl (kA 0, 12, .inl ytestStopsF)), (yjoins, .inl (kA 0, 60, .inl yjoinsF)), (yoperands, .inl (kA 0, 60, .inl yoperandsF)), (yfactStarts, .inl (kA 0, 20, .inl yfactStartsF)), (yfactMiddles, .inl (kA 0, 20, .inl yfactMiddlesF)), (yfactStops, .inl (kA 0, 20, .inl yfactStopsF)), (ysigns, .inl (kA 0, 20, .inl ysignsF)), (ytests, .inl (kA 0, 256, .inl ytestsF)), (wA, .inl (kA 0, 11, .inl wF))]) hP hD [0, 1, 2, 3, 4, 5, 6, 7, 8, 9, 10, 11, 12, 13] (by decide) rfl
    refine W.widen (k := 0) (n := 0) (Nat.le_of_ble_eq_true rfl) (Nat.le_of_ble_eq_true rfl) ?_
    exact W.lret (v := 0) hx hb hr (fun t ht hW => ⟨⟨0, (0), rfl, ⟨rfl, (hG.trans hG0.symm)⟩, by rw [ht]; exact hP9, hD9⟩, hS.F ht⟩) hS.2.2 dX1_sumOf_71
