def ixX4_setGone : List Nat := [103, 722, 723, 725, 731, 1440, 1441, 1442, 1443]
def wsX4_setGone : List Cond := .code yX4_setGone cX4_setGone 3 none :: ixX4_setGone.map wt
def ixX4_setHour : List Nat := [14, 103, 599, 600, 601, 602, 739, 740, 1440, 1441, 1442, 1443, 1476, 1477, 1478, 1479, 1480, 1481, 1482, 1483, 1484, 1485]
def wsX4_setHour : List Cond := .code yX4_setHour cX4_setHour 3 none :: ixX4_setHour.map wt
def ixX4_setLoad : List Nat := [103, 748, 1440, 1441, 1442, 1443]
def wsX4_setLoad : List Cond := .code yX4_setLoad cX4_setLoad 4 none :: ixX4_setLoad.map wt
def ixX4_setNode : List Nat := [51, 63, 68, 103, 595, 596, 597, 721, 727, 735, 1440, 1441, 1442, 1443, 1457, 1458, 1459, 1476, 1477, 1478, 1479, 1480, 1481, 1482, 1483, 1484, 1485]
def wsX4_setNode : List Cond := .code yX4_setNode cX4_setNode 3 none :: ixX4_setNode.map wt
def ixX4_setPass : List Nat := [14, 51, 53, 63, 68, 103, 179, 200, 201, 202, 593, 594, 595, 596, 597, 671, 672, 673, 720, 721, 722, 723, 724, 725, 726, 727, 1440, 1441, 1442, 1443, 1457, 1458, 1459, 1476, 1477, 1478, 1479, 1480, 1481, 1482, 1483, 1484, 1485]
def wsX4_setPass : List Cond := .code yX4_setPass cX4_setPass 5 none :: ixX4_setPass.map wt
theorem ggX4_setHour_X9_monthAt : GoodIn wsX4_setHour wsX9_monthAt := gi_ (A := ixX4_setHour) (B := ixX9_monthAt) wt601 (by decide +kernel)
theorem gX4_setHour_X9_monthAt : GoodIn wsX4_setHour (wsV RX4 15 RX9 yX9_monthAt wsX9_monthAt) := g4_ (A := ixX4_setHour) wt740 wt599 wt600 wt14 (by decide +kernel) ggX4_setHour_X9_monthAt
theorem ggX4_setNode_X6_get : GoodIn wsX4_setNode wsX6_get := gi_ (A := ixX4_setNode) (B := ixX6_get) wt597 (by decide +kernel)
theorem gX4_setNode_X6_get : GoodIn wsX4_setNode (wsV RX4 25 RX6 yX6_get wsX6_get) := g4_ (A := ixX4_setNode) wt727 wt595 wt596 wt51 (by decide +kernel) ggX4_setNode_X6_get
theorem ggX4_setPass_X6_get : GoodIn wsX4_setPass wsX6_get := gi_ (A := ixX4_setPass) (B := ixX6_get) wt597 (by decide +kernel)
theorem gX4_setPass_X6_get : GoodIn wsX4_setPass (wsV RX4 25 RX6 yX6_get wsX6_get) := g4_ (A := ixX4_setPass) wt727 wt595 wt596 wt51 (by decide +kernel) ggX4_setPass_X6_get
theorem ggX4_setPass_X9_otherEnd : GoodIn wsX4_setPass wsX9_otherEnd := gi_ (A := ixX4_setPass) (B := ixX9_otherEnd) wt673 (by decide +kernel)
theorem gX4_setPass_X9_otherEnd : GoodIn wsX4_setPass (wsV RX4 31 RX9 yX9_otherEnd wsX9_otherEnd) := g4_ (A := ixX4_setPass) wt726 wt671 wt672 wt14 (by decide +kernel) ggX4_setPass_X9_otherEnd
