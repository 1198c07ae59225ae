def ixX1_addFact : List Nat := [76, 88, 89, 90, 91, 92, 375, 376, 377, 426, 427, 428, 440, 441, 1411, 1412, 1413, 1414, 1415, 1416, 1417, 1418, 1419, 1420, 1421, 1422, 1423, 1424, 1425, 1426, 1427]
def wsX1_addFact : List Cond := .code yX1_addFact cX1_addFact 4 none :: ixX1_addFact.map wt
def ixX1_addStep : List Nat := [92, 377, 428, 1411, 1412, 1413, 1414, 1415, 1416, 1417, 1418, 1419, 1420, 1421, 1422, 1423, 1424, 1425, 1426, 1427]
def wsX1_addStep : List Cond := .code yX1_addStep cX1_addStep 2 none :: ixX1_addStep.map wt
def ixX1_addValue : List Nat := [86, 87, 375, 410, 1411, 1412, 1413, 1414, 1415, 1416, 1417, 1418, 1419, 1420, 1421, 1422, 1423, 1424, 1425, 1426, 1427]
def wsX1_addValue : List Cond := .code yX1_addValue cX1_addValue 3 none :: ixX1_addValue.map wt
def ixX1_beginClause : List Nat := [81, 82, 374, 375, 398, 1411, 1412, 1413, 1414, 1415, 1416, 1417, 1418, 1419, 1420, 1421, 1422, 1423, 1424, 1425, 1426, 1427]
def wsX1_beginClause : List Cond := .code yX1_beginClause cX1_beginClause 2 none :: ixX1_beginClause.map wt
def ixX1_clear : List Nat := [372, 373, 374, 375, 376, 377, 1411, 1412, 1413, 1414, 1415, 1416, 1417, 1418, 1419, 1420, 1421, 1422, 1423, 1424, 1425, 1426, 1427]
def wsX1_clear : List Cond := .code yX1_clear cX1_clear 1 none :: ixX1_clear.map wt
def ixX1_endSum : List Nat := [83, 84, 85, 374, 375, 377, 417, 1411, 1412, 1413, 1414, 1415, 1416, 1417, 1418, 1419, 1420, 1421, 1422, 1423, 1424, 1425, 1426, 1427]
def wsX1_endSum : List Cond := .code yX1_endSum cX1_endSum 2 none :: ixX1_endSum.map wt
def ixX1_endTest : List Nat := [85, 374, 377, 453, 1411, 1412, 1413, 1414, 1415, 1416, 1417, 1418, 1419, 1420, 1421, 1422, 1423, 1424, 1425, 1426, 1427]
def wsX1_endTest : List Cond := .code yX1_endTest cX1_endTest 2 none :: ixX1_endTest.map wt
def ixX1_holds : List Nat := [76, 86, 87, 88, 89, 90, 91, 92, 756, 757, 758, 759, 760, 761, 762, 763, 764, 1411, 1412, 1413, 1414, 1415, 1416, 1417, 1418, 1419, 1420, 1421, 1422, 1423, 1424, 1425, 1426, 1427]
def wsX1_holds : List Cond := .code yX1_holds cX1_holds 12 (some .boolean) :: ixX1_holds.map wt
def ixX1_isTrue : List Nat := [764]
def wsX1_isTrue : List Cond := .code yX1_isTrue cX1_isTrue 5 (some .boolean) :: ixX1_isTrue.map wt
def ixX1_sumOf : List Nat := [76, 81, 82, 83, 84, 85, 86, 87, 88, 89, 90, 91, 92, 374, 752, 753, 754, 755, 756, 757, 758, 759, 760, 761, 762, 763, 764, 1411, 1412, 1413, 1414, 1415, 1416, 1417, 1418, 1419, 1420, 1421, 1422, 1423, 1424, 1425, 1426, 1427]
def wsX1_sumOf : List Cond := .code yX1_sumOf cX1_sumOf 4 (some .long) :: ixX1_sumOf.map wt
def ixX1_total : List Nat := [86, 87, 761, 1411, 1412, 1413, 1414, 1415, 1416, 1417, 1418, 1419, 1420, 1421, 1422, 1423, 1424, 1425, 1426, 1427]
def wsX1_total : List Cond := .code yX1_total cX1_total 15 (some .long) :: ixX1_total.map wt
theorem ggX1_addFact_X1_addStep : GoodIn wsX1_addFact wsX1_addStep := gi_ (A := ixX1_addFact) (B := ixX1_addStep) wt428 (by decide +kernel)
theorem gX1_addFact_X1_addStep : GoodIn wsX1_addFact (wsV RX1 62 RX1 yX1_addStep wsX1_addStep) := g4_ (A := ixX1_addFact) wt441 wt426 wt427 wt76 (by decide +kernel) ggX1_addFact_X1_addStep
theorem ggX1_holds_X1_isTrue : GoodIn wsX1_holds wsX1_isTrue := gi_ (A := ixX1_holds) (B := ixX1_isTrue) wt764 (by decide +kernel)
theorem gX1_holds_X1_isTrue : GoodIn wsX1_holds (va_wsS RX1 76 yX1_isTrue wsX1_isTrue) := g3_ (A := ixX1_holds) wt762 wt763 wt76 (by decide +kernel) ggX1_holds_X1_isTrue
theorem ggX1_holds_X1_total : GoodIn wsX1_holds wsX1_total := gi_ (A := ixX1_holds) (B := ixX1_total) wt761 (by decide +kernel)
theorem gX1_holds_X1_total : GoodIn wsX1_holds (wsV RX1 70 RX1 yX1_total wsX1_total) := g4_ (A := ixX1_holds) wt758 wt759 wt760 wt76 (by decide +kernel) ggX1_holds_X1_total
theorem ggX1_sumOf_X1_holds : GoodIn wsX1_sumOf wsX1_holds := gi_ (A := ixX1_sumOf) (B := ixX1_holds) wt756 (by decide +kernel)
theorem gX1_sumOf_X1_holds : GoodIn wsX1_sumOf (wsV RX1 66 RX1 yX1_holds wsX1_holds) := g4_ (A := ixX1_sumOf) wt753 wt754 wt755 wt76 (by decide +kernel) ggX1_sumOf_X1_holds
theorem ggX1_sumOf_X1_total : GoodIn wsX1_sumOf wsX1_total := gi_ (A := ixX1_sumOf) (B := ixX1_total) wt761 (by decide +kernel)
theorem gX1_sumOf_X1_total : GoodIn wsX1_sumOf (wsV RX1 70 RX1 yX1_total wsX1_total) := g4_ (A := ixX1_sumOf) wt758 wt759 wt760 wt76 (by decide +kernel) ggX1_sumOf_X1_total
