def ixX11_nearest : List Nat := [5, 153, 161, 191, 192, 193, 209, 210, 211, 212, 241, 629, 630, 631, 632, 633, 634, 635, 636, 686, 687, 688, 689, 1112, 1113, 1114, 1115, 1123, 1499, 1500, 1501, 1502, 1503, 1504, 1505, 1506, 1507, 1508, 1509, 1510, 1511, 1512, 1513, 1514, 1515, 1516, 1517, 1518, 1519, 1520, 1521, 1522, 1523, 1524, 1525, 1526, 1527, 1528, 1529, 1530, 1531, 1532, 1533, 1534, 1535, 1536, 1537, 1538, 1539, 1540]
def wsX11_nearest : List Cond := .code yX11_nearest cX11_nearest 5 (some .int) :: ixX11_nearest.map wt
def ixX11_soonest : List Nat := [5, 153, 161, 209, 210, 211, 212, 686, 687, 688, 689, 1111, 1112, 1113, 1114, 1115, 1499, 1500, 1501, 1502, 1503, 1504, 1505, 1506, 1507, 1508, 1509, 1510, 1511, 1512, 1513, 1514, 1515, 1516, 1517, 1518, 1519, 1520, 1521, 1522, 1523, 1524, 1525, 1526, 1527, 1528, 1529, 1530, 1531, 1532, 1533, 1534, 1535, 1536, 1537, 1538, 1539, 1540]
def wsX11_soonest : List Cond := .code yX11_soonest cX11_soonest 3 (some .int) :: ixX11_soonest.map wt
def ixX11_spreads : List Nat := [5, 153, 161, 686, 687, 688, 689, 1115, 1499, 1500, 1501, 1502, 1503, 1504, 1505, 1506, 1507, 1508, 1509, 1510, 1511, 1512, 1513, 1514, 1515, 1516, 1517, 1518, 1519, 1520, 1521, 1522, 1523, 1524, 1525, 1526, 1527, 1528, 1529, 1530, 1531, 1532, 1533, 1534, 1535, 1536, 1537, 1538, 1539, 1540]
def wsX11_spreads : List Cond := .code yX11_spreads cX11_spreads 7 none :: ixX11_spreads.map wt
theorem ggX11_nearest_X11_hasSnow : GoodIn wsX11_nearest wsX11_hasSnow := gi_ (A := ixX11_nearest) (B := ixX11_hasSnow) wt632 (by decide +kernel)
theorem gX11_nearest_X11_hasSnow : GoodIn wsX11_nearest (wsV RX11 294 RX11 yX11_hasSnow wsX11_hasSnow) := g4_ (A := ixX11_nearest) wt629 wt630 wt631 wt5 (by decide +kernel) ggX11_nearest_X11_hasSnow
theorem ggX11_nearest_X11_in : GoodIn wsX11_nearest wsX11_in := gi_ (A := ixX11_nearest) (B := ixX11_in) wt193 (by decide +kernel)
theorem gX11_nearest_X11_in : GoodIn wsX11_nearest (va_wsS RX11 118 yX11_in wsX11_in) := g3_ (A := ixX11_nearest) wt191 wt192 wt5 (by decide +kernel) ggX11_nearest_X11_in
theorem ggX11_nearest_X11_isNode : GoodIn wsX11_nearest wsX11_isNode := gi_ (A := ixX11_nearest) (B := ixX11_isNode) wt212 (by decide +kernel)
theorem gX11_nearest_X11_isNode : GoodIn wsX11_nearest (wsV RX11 267 RX11 yX11_isNode wsX11_isNode) := g4_ (A := ixX11_nearest) wt209 wt210 wt211 wt5 (by decide +kernel) ggX11_nearest_X11_isNode
theorem ggX11_nearest_X11_spreads : GoodIn wsX11_nearest wsX11_spreads := gi_ (A := ixX11_nearest) (B := ixX11_spreads) wt1115 (by decide +kernel)
theorem gX11_nearest_X11_spreads : GoodIn wsX11_nearest (wsV RX11 434 RX11 yX11_spreads wsX11_spreads) := g4_ (A := ixX11_nearest) wt1112 wt1113 wt1114 wt5 (by decide +kernel) ggX11_nearest_X11_spreads
theorem ggX11_soonest_X11_isNode : GoodIn wsX11_soonest wsX11_isNode := gi_ (A := ixX11_soonest) (B := ixX11_isNode) wt212 (by decide +kernel)
theorem gX11_soonest_X11_isNode : GoodIn wsX11_soonest (wsV RX11 267 RX11 yX11_isNode wsX11_isNode) := g4_ (A := ixX11_soonest) wt209 wt210 wt211 wt5 (by decide +kernel) ggX11_soonest_X11_isNode
theorem ggX11_soonest_X11_spreads : GoodIn wsX11_soonest wsX11_spreads := gi_ (A := ixX11_soonest) (B := ixX11_spreads) wt1115 (by decide +kernel)
theorem gX11_soonest_X11_spreads : GoodIn wsX11_soonest (wsV RX11 434 RX11 yX11_spreads wsX11_spreads) := g4_ (A := ixX11_soonest) wt1112 wt1113 wt1114 wt5 (by decide +kernel) ggX11_soonest_X11_spreads
theorem ggX11_spreads_X11_passOf : GoodIn wsX11_spreads wsX11_passOf := gi_ (A := ixX11_spreads) (B := ixX11_passOf) wt689 (by decide +kernel)
theorem gX11_spreads_X11_passOf : GoodIn wsX11_spreads (wsV RX11 303 RX11 yX11_passOf wsX11_passOf) := g4_ (A := ixX11_spreads) wt686 wt687 wt688 wt5 (by decide +kernel) ggX11_spreads_X11_passOf
