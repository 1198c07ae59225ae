def ixX11_at : List Nat := [5, 153, 191, 192, 193, 209, 210, 211, 212, 621, 622, 623, 624, 625, 626, 627, 628, 629, 630, 631, 632, 633, 634, 635, 636, 891, 892, 1499, 1500, 1501, 1502, 1503, 1504, 1505, 1506, 1507, 1508, 1509, 1510, 1511, 1512, 1513, 1514, 1515, 1516, 1517, 1518, 1519, 1520, 1521, 1522, 1523, 1524, 1525, 1526, 1527, 1528, 1529, 1530, 1531, 1532, 1533, 1534, 1535, 1536, 1537, 1538, 1539, 1540]
def wsX11_at : List Cond := .code yX11_at cX11_at 5 (some .int) :: ixX11_at.map wt
def ixX11_isOfWay : List Nat := [5, 153, 682, 683, 684, 685, 686, 687, 688, 689, 937, 1499, 1500, 1501, 1502, 1503, 1504, 1505, 1506, 1507, 1508, 1509, 1510, 1511, 1512, 1513, 1514, 1515, 1516, 1517, 1518, 1519, 1520, 1521, 1522, 1523, 1524, 1525, 1526, 1527, 1528, 1529, 1530, 1531, 1532, 1533, 1534, 1535, 1536, 1537, 1538, 1539, 1540]
def wsX11_isOfWay : List Cond := .code yX11_isOfWay cX11_isOfWay 5 (some .boolean) :: ixX11_isOfWay.map wt
def ixX11_of : List Nat := [5, 153, 191, 192, 193, 617, 618, 619, 620, 621, 622, 623, 624, 900, 901, 1499, 1500, 1501, 1502, 1503, 1504, 1505, 1506, 1507, 1508, 1509, 1510, 1511, 1512, 1513, 1514, 1515, 1516, 1517, 1518, 1519, 1520, 1521, 1522, 1523, 1524, 1525, 1526, 1527, 1528, 1529, 1530, 1531, 1532, 1533, 1534, 1535, 1536, 1537, 1538, 1539, 1540]
def wsX11_of : List Cond := .code yX11_of cX11_of 3 (some .int) :: ixX11_of.map wt
def ixX11_wayEnd : List Nat := [5, 153, 682, 683, 684, 685, 686, 687, 688, 689, 933, 1499, 1500, 1501, 1502, 1503, 1504, 1505, 1506, 1507, 1508, 1509, 1510, 1511, 1512, 1513, 1514, 1515, 1516, 1517, 1518, 1519, 1520, 1521, 1522, 1523, 1524, 1525, 1526, 1527, 1528, 1529, 1530, 1531, 1532, 1533, 1534, 1535, 1536, 1537, 1538, 1539, 1540]
def wsX11_wayEnd : List Cond := .code yX11_wayEnd cX11_wayEnd 3 (some .int) :: ixX11_wayEnd.map wt
theorem ggX11_at_X11_hasSnow : GoodIn wsX11_at wsX11_hasSnow := gi_ (A := ixX11_at) (B := ixX11_hasSnow) wt632 (by decide +kernel)
theorem gX11_at_X11_hasSnow : GoodIn wsX11_at (wsV RX11 294 RX11 yX11_hasSnow wsX11_hasSnow) := g4_ (A := ixX11_at) wt629 wt630 wt631 wt5 (by decide +kernel) ggX11_at_X11_hasSnow
theorem ggX11_at_X11_in : GoodIn wsX11_at wsX11_in := gi_ (A := ixX11_at) (B := ixX11_in) wt193 (by decide +kernel)
theorem gX11_at_X11_in : GoodIn wsX11_at (va_wsS RX11 118 yX11_in wsX11_in) := g3_ (A := ixX11_at) wt191 wt192 wt5 (by decide +kernel) ggX11_at_X11_in
theorem ggX11_at_X11_isNode : GoodIn wsX11_at wsX11_isNode := gi_ (A := ixX11_at) (B := ixX11_isNode) wt212 (by decide +kernel)
theorem gX11_at_X11_isNode : GoodIn wsX11_at (wsV RX11 267 RX11 yX11_isNode wsX11_isNode) := g4_ (A := ixX11_at) wt209 wt210 wt211 wt5 (by decide +kernel) ggX11_at_X11_isNode
theorem ggX11_at_X11_jarOf : GoodIn wsX11_at wsX11_jarOf := gi_ (A := ixX11_at) (B := ixX11_jarOf) wt624 (by decide +kernel)
theorem gX11_at_X11_jarOf : GoodIn wsX11_at (wsV RX11 283 RX11 yX11_jarOf wsX11_jarOf) := g4_ (A := ixX11_at) wt621 wt622 wt623 wt5 (by decide +kernel) ggX11_at_X11_jarOf
theorem ggX11_at_X11_monthAt : GoodIn wsX11_at wsX11_monthAt := gi_ (A := ixX11_at) (B := ixX11_monthAt) wt628 (by decide +kernel)
theorem gX11_at_X11_monthAt : GoodIn wsX11_at (wsV RX11 291 RX11 yX11_monthAt wsX11_monthAt) := g4_ (A := ixX11_at) wt625 wt626 wt627 wt5 (by decide +kernel) ggX11_at_X11_monthAt
theorem ggX11_at_X11_nodeOf : GoodIn wsX11_at wsX11_nodeOf := gi_ (A := ixX11_at) (B := ixX11_nodeOf) wt636 (by decide +kernel)
theorem gX11_at_X11_nodeOf : GoodIn wsX11_at (wsV RX11 257 RX11 yX11_nodeOf wsX11_nodeOf) := g4_ (A := ixX11_at) wt633 wt634 wt635 wt5 (by decide +kernel) ggX11_at_X11_nodeOf
theorem ggX11_isOfWay_X11_other : GoodIn wsX11_isOfWay wsX11_other := gi_ (A := ixX11_isOfWay) (B := ixX11_other) wt685 (by decide +kernel)
theorem gX11_isOfWay_X11_other : GoodIn wsX11_isOfWay (wsV RX11 309 RX11 yX11_other wsX11_other) := g4_ (A := ixX11_isOfWay) wt682 wt683 wt684 wt5 (by decide +kernel) ggX11_isOfWay_X11_other
theorem ggX11_of_X11_in : GoodIn wsX11_of wsX11_in := gi_ (A := ixX11_of) (B := ixX11_in) wt193 (by decide +kernel)
theorem gX11_of_X11_in : GoodIn wsX11_of (va_wsS RX11 118 yX11_in wsX11_in) := g3_ (A := ixX11_of) wt191 wt192 wt5 (by decide +kernel) ggX11_of_X11_in
theorem ggX11_of_X11_isJar : GoodIn wsX11_of wsX11_isJar := gi_ (A := ixX11_of) (B := ixX11_isJar) wt620 (by decide +kernel)
theorem gX11_of_X11_isJar : GoodIn wsX11_of (wsV RX11 280 RX11 yX11_isJar wsX11_isJar) := g4_ (A := ixX11_of) wt617 wt618 wt619 wt5 (by decide +kernel) ggX11_of_X11_isJar
theorem ggX11_of_X11_jarOf : GoodIn wsX11_of wsX11_jarOf := gi_ (A := ixX11_of) (B := ixX11_jarOf) wt624 (by decide +kernel)
theorem gX11_of_X11_jarOf : GoodIn wsX11_of (wsV RX11 283 RX11 yX11_jarOf wsX11_jarOf) := g4_ (A := ixX11_of) wt621 wt622 wt623 wt5 (by decide +kernel) ggX11_of_X11_jarOf
theorem ggX11_wayEnd_X11_other : GoodIn wsX11_wayEnd wsX11_other := gi_ (A := ixX11_wayEnd) (B := ixX11_other) wt685 (by decide +kernel)
theorem gX11_wayEnd_X11_other : GoodIn wsX11_wayEnd (wsV RX11 309 RX11 yX11_other wsX11_other) := g4_ (A := ixX11_wayEnd) wt682 wt683 wt684 wt5 (by decide +kernel) ggX11_wayEnd_X11_other
