def ixX11_draw : List Nat := [153, 208, 866, 867, 868, 869, 870, 1499, 1500, 1501, 1502, 1503, 1504, 1505, 1506, 1507, 1508, 1509, 1510, 1511, 1512, 1513, 1514, 1515, 1516, 1517, 1518, 1519, 1520, 1521, 1522, 1523, 1524, 1525, 1526, 1527, 1528, 1529, 1530, 1531, 1532, 1533, 1534, 1535, 1536, 1537, 1538, 1539, 1540]
def wsX11_draw : List Cond := .code yX11_draw cX11_draw 3 (some .int) :: ixX11_draw.map wt
def ixX11_fill : List Nat := [5, 153, 191, 192, 193, 611, 612, 613, 614, 615, 616, 617, 618, 619, 620, 621, 622, 623, 624, 625, 626, 627, 628, 629, 630, 631, 632, 633, 634, 635, 636, 1499, 1500, 1501, 1502, 1503, 1504, 1505, 1506, 1507, 1508, 1509, 1510, 1511, 1512, 1513, 1514, 1515, 1516, 1517, 1518, 1519, 1520, 1521, 1522, 1523, 1524, 1525, 1526, 1527, 1528, 1529, 1530, 1531, 1532, 1533, 1534, 1535, 1536, 1537, 1538, 1539, 1540]
def wsX11_fill : List Cond := .code yX11_fill cX11_fill 4 (some .int) :: ixX11_fill.map wt
def ixX11_goesFor : List Nat := [153, 874, 1499, 1500, 1501, 1502, 1503, 1504, 1505, 1506, 1507, 1508, 1509, 1510, 1511, 1512, 1513, 1514, 1515, 1516, 1517, 1518, 1519, 1520, 1521, 1522, 1523, 1524, 1525, 1526, 1527, 1528, 1529, 1530, 1531, 1532, 1533, 1534, 1535, 1536, 1537, 1538, 1539, 1540]
def wsX11_goesFor : List Cond := .code yX11_goesFor cX11_goesFor 3 none :: ixX11_goesFor.map wt
def ixX11_hourWords : List Nat := [5, 152, 153, 625, 626, 627, 628, 826, 1499, 1500, 1501, 1502, 1503, 1504, 1505, 1506, 1507, 1508, 1509, 1510, 1511, 1512, 1513, 1514, 1515, 1516, 1517, 1518, 1519, 1520, 1521, 1522, 1523, 1524, 1525, 1526, 1527, 1528, 1529, 1530, 1531, 1532, 1533, 1534, 1535, 1536, 1537, 1538, 1539, 1540]
def wsX11_hourWords : List Cond := .code yX11_hourWords cX11_hourWords 5 none :: ixX11_hourWords.map wt
def ixX11_leave : List Nat := [5, 153, 613, 614, 615, 616, 617, 618, 619, 620, 621, 622, 623, 624, 677, 678, 679, 680, 681, 682, 683, 684, 685, 686, 687, 688, 689, 1499, 1500, 1501, 1502, 1503, 1504, 1505, 1506, 1507, 1508, 1509, 1510, 1511, 1512, 1513, 1514, 1515, 1516, 1517, 1518, 1519, 1520, 1521, 1522, 1523, 1524, 1525, 1526, 1527, 1528, 1529, 1530, 1531, 1532, 1533, 1534, 1535, 1536, 1537, 1538, 1539, 1540]
def wsX11_leave : List Cond := .code yX11_leave cX11_leave 4 (some .boolean) :: ixX11_leave.map wt
def ixX11_nodeWords : List Nat := [5, 152, 153, 625, 626, 627, 628, 633, 634, 635, 636, 823, 824, 825, 826, 830, 1499, 1500, 1501, 1502, 1503, 1504, 1505, 1506, 1507, 1508, 1509, 1510, 1511, 1512, 1513, 1514, 1515, 1516, 1517, 1518, 1519, 1520, 1521, 1522, 1523, 1524, 1525, 1526, 1527, 1528, 1529, 1530, 1531, 1532, 1533, 1534, 1535, 1536, 1537, 1538, 1539, 1540]
def wsX11_nodeWords : List Cond := .code yX11_nodeWords cX11_nodeWords 6 none :: ixX11_nodeWords.map wt
def ixX11_passWords : List Nat := [5, 152, 153, 625, 626, 627, 628, 633, 634, 635, 636, 682, 683, 684, 685, 686, 687, 688, 689, 821, 822, 823, 824, 825, 826, 1499, 1500, 1501, 1502, 1503, 1504, 1505, 1506, 1507, 1508, 1509, 1510, 1511, 1512, 1513, 1514, 1515, 1516, 1517, 1518, 1519, 1520, 1521, 1522, 1523, 1524, 1525, 1526, 1527, 1528, 1529, 1530, 1531, 1532, 1533, 1534, 1535, 1536, 1537, 1538, 1539, 1540]
def wsX11_passWords : List Cond := .code yX11_passWords cX11_passWords 9 none :: ixX11_passWords.map wt
def ixX11_pour : List Nat := [5, 153, 613, 614, 615, 616, 617, 618, 619, 620, 621, 622, 623, 624, 650, 651, 652, 653, 654, 655, 1499, 1500, 1501, 1502, 1503, 1504, 1505, 1506, 1507, 1508, 1509, 1510, 1511, 1512, 1513, 1514, 1515, 1516, 1517, 1518, 1519, 1520, 1521, 1522, 1523, 1524, 1525, 1526, 1527, 1528, 1529, 1530, 1531, 1532, 1533, 1534, 1535, 1536, 1537, 1538, 1539, 1540]
def wsX11_pour : List Cond := .code yX11_pour cX11_pour 3 (some .int) :: ixX11_pour.map wt
def ixX11_seed : List Nat := [153, 250, 1499, 1500, 1501, 1502, 1503, 1504, 1505, 1506, 1507, 1508, 1509, 1510, 1511, 1512, 1513, 1514, 1515, 1516, 1517, 1518, 1519, 1520, 1521, 1522, 1523, 1524, 1525, 1526, 1527, 1528, 1529, 1530, 1531, 1532, 1533, 1534, 1535, 1536, 1537, 1538, 1539, 1540]
def wsX11_seed : List Cond := .code yX11_seed cX11_seed 3 (some .int) :: ixX11_seed.map wt
def ixX11_store : List Nat := [5, 153, 191, 192, 193, 209, 210, 211, 212, 633, 634, 635, 636, 664, 665, 1499, 1500, 1501, 1502, 1503, 1504, 1505, 1506, 1507, 1508, 1509, 1510, 1511, 1512, 1513, 1514, 1515, 1516, 1517, 1518, 1519, 1520, 1521, 1522, 1523, 1524, 1525, 1526, 1527, 1528, 1529, 1530, 1531, 1532, 1533, 1534, 1535, 1536, 1537, 1538, 1539, 1540]
def wsX11_store : List Cond := .code yX11_store cX11_store 4 (some .int) :: ixX11_store.map wt
def ixX11_stores : List Nat := [153, 654, 655, 1499, 1500, 1501, 1502, 1503, 1504, 1505, 1506, 1507, 1508, 1509, 1510, 1511, 1512, 1513, 1514, 1515, 1516, 1517, 1518, 1519, 1520, 1521, 1522, 1523, 1524, 1525, 1526, 1527, 1528, 1529, 1530, 1531, 1532, 1533, 1534, 1535, 1536, 1537, 1538, 1539, 1540]
def wsX11_stores : List Cond := .code yX11_stores cX11_stores 5 (some .int) :: ixX11_stores.map wt
theorem ggX11_fill_X11_hasSnow : GoodIn wsX11_fill wsX11_hasSnow := gi_ (A := ixX11_fill) (B := ixX11_hasSnow) wt632 (by decide +kernel)
theorem gX11_fill_X11_hasSnow : GoodIn wsX11_fill (wsV RX11 294 RX11 yX11_hasSnow wsX11_hasSnow) := g4_ (A := ixX11_fill) wt629 wt630 wt631 wt5 (by decide +kernel) ggX11_fill_X11_hasSnow
theorem ggX11_fill_X11_in : GoodIn wsX11_fill wsX11_in := gi_ (A := ixX11_fill) (B := ixX11_in) wt193 (by decide +kernel)
theorem gX11_fill_X11_in : GoodIn wsX11_fill (va_wsS RX11 118 yX11_in wsX11_in) := g3_ (A := ixX11_fill) wt191 wt192 wt5 (by decide +kernel) ggX11_fill_X11_in
theorem ggX11_fill_X11_jarOf : GoodIn wsX11_fill wsX11_jarOf := gi_ (A := ixX11_fill) (B := ixX11_jarOf) wt624 (by decide +kernel)
theorem gX11_fill_X11_jarOf : GoodIn wsX11_fill (wsV RX11 283 RX11 yX11_jarOf wsX11_jarOf) := g4_ (A := ixX11_fill) wt621 wt622 wt623 wt5 (by decide +kernel) ggX11_fill_X11_jarOf
theorem ggX11_fill_X11_monthAt : GoodIn wsX11_fill wsX11_monthAt := gi_ (A := ixX11_fill) (B := ixX11_monthAt) wt628 (by decide +kernel)
theorem gX11_fill_X11_monthAt : GoodIn wsX11_fill (wsV RX11 291 RX11 yX11_monthAt wsX11_monthAt) := g4_ (A := ixX11_fill) wt625 wt626 wt627 wt5 (by decide +kernel) ggX11_fill_X11_monthAt
theorem ggX11_fill_X11_stands : GoodIn wsX11_fill wsX11_stands := gi_ (A := ixX11_fill) (B := ixX11_stands) wt616 (by decide +kernel)
theorem gX11_fill_X11_stands : GoodIn wsX11_fill (wsV RX11 286 RX11 yX11_stands wsX11_stands) := g4_ (A := ixX11_fill) wt613 wt614 wt615 wt5 (by decide +kernel) ggX11_fill_X11_stands
theorem ggX11_hourWords_X11_monthAt : GoodIn wsX11_hourWords wsX11_monthAt := gi_ (A := ixX11_hourWords) (B := ixX11_monthAt) wt628 (by decide +kernel)
theorem gX11_hourWords_X11_monthAt : GoodIn wsX11_hourWords (wsV RX11 291 RX11 yX11_monthAt wsX11_monthAt) := g4_ (A := ixX11_hourWords) wt625 wt626 wt627 wt5 (by decide +kernel) ggX11_hourWords_X11_monthAt
theorem ggX11_leave_X11_isPass : GoodIn wsX11_leave wsX11_isPass := gi_ (A := ixX11_leave) (B := ixX11_isPass) wt681 (by decide +kernel)
theorem gX11_leave_X11_isPass : GoodIn wsX11_leave (wsV RX11 306 RX11 yX11_isPass wsX11_isPass) := g4_ (A := ixX11_leave) wt678 wt679 wt680 wt5 (by decide +kernel) ggX11_leave_X11_isPass
theorem ggX11_leave_X11_jarOf : GoodIn wsX11_leave wsX11_jarOf := gi_ (A := ixX11_leave) (B := ixX11_jarOf) wt624 (by decide +kernel)
theorem gX11_leave_X11_jarOf : GoodIn wsX11_leave (wsV RX11 283 RX11 yX11_jarOf wsX11_jarOf) := g4_ (A := ixX11_leave) wt621 wt622 wt623 wt5 (by decide +kernel) ggX11_leave_X11_jarOf
theorem ggX11_leave_X11_other : GoodIn wsX11_leave wsX11_other := gi_ (A := ixX11_leave) (B := ixX11_other) wt685 (by decide +kernel)
theorem gX11_leave_X11_other : GoodIn wsX11_leave (wsV RX11 309 RX11 yX11_other wsX11_other) := g4_ (A := ixX11_leave) wt682 wt683 wt684 wt5 (by decide +kernel) ggX11_leave_X11_other
theorem ggX11_leave_X11_stands : GoodIn wsX11_leave wsX11_stands := gi_ (A := ixX11_leave) (B := ixX11_stands) wt616 (by decide +kernel)
theorem gX11_leave_X11_stands : GoodIn wsX11_leave (wsV RX11 286 RX11 yX11_stands wsX11_stands) := g4_ (A := ixX11_leave) wt613 wt614 wt615 wt5 (by decide +kernel) ggX11_leave_X11_stands
theorem ggX11_nodeWords_X11_hourWords : GoodIn wsX11_nodeWords wsX11_hourWords := gi_ (A := ixX11_nodeWords) (B := ixX11_hourWords) wt826 (by decide +kernel)
theorem gX11_nodeWords_X11_hourWords : GoodIn wsX11_nodeWords (wsV RX11 312 RX11 yX11_hourWords wsX11_hourWords) := g4_ (A := ixX11_nodeWords) wt823 wt824 wt825 wt5 (by decide +kernel) ggX11_nodeWords_X11_hourWords
theorem ggX11_nodeWords_X11_nodeOf : GoodIn wsX11_nodeWords wsX11_nodeOf := gi_ (A := ixX11_nodeWords) (B := ixX11_nodeOf) wt636 (by decide +kernel)
theorem gX11_nodeWords_X11_nodeOf : GoodIn wsX11_nodeWords (wsV RX11 257 RX11 yX11_nodeOf wsX11_nodeOf) := g4_ (A := ixX11_nodeWords) wt633 wt634 wt635 wt5 (by decide +kernel) ggX11_nodeWords_X11_nodeOf
theorem ggX11_passWords_X11_hourWords : GoodIn wsX11_passWords wsX11_hourWords := gi_ (A := ixX11_passWords) (B := ixX11_hourWords) wt826 (by decide +kernel)
theorem gX11_passWords_X11_hourWords : GoodIn wsX11_passWords (wsV RX11 312 RX11 yX11_hourWords wsX11_hourWords) := g4_ (A := ixX11_passWords) wt823 wt824 wt825 wt5 (by decide +kernel) ggX11_passWords_X11_hourWords
theorem ggX11_passWords_X11_nodeOf : GoodIn wsX11_passWords wsX11_nodeOf := gi_ (A := ixX11_passWords) (B := ixX11_nodeOf) wt636 (by decide +kernel)
theorem gX11_passWords_X11_nodeOf : GoodIn wsX11_passWords (wsV RX11 257 RX11 yX11_nodeOf wsX11_nodeOf) := g4_ (A := ixX11_passWords) wt633 wt634 wt635 wt5 (by decide +kernel) ggX11_passWords_X11_nodeOf
theorem ggX11_passWords_X11_other : GoodIn wsX11_passWords wsX11_other := gi_ (A := ixX11_passWords) (B := ixX11_other) wt685 (by decide +kernel)
theorem gX11_passWords_X11_other : GoodIn wsX11_passWords (wsV RX11 309 RX11 yX11_other wsX11_other) := g4_ (A := ixX11_passWords) wt682 wt683 wt684 wt5 (by decide +kernel) ggX11_passWords_X11_other
theorem ggX11_passWords_X11_passOf : GoodIn wsX11_passWords wsX11_passOf := gi_ (A := ixX11_passWords) (B := ixX11_passOf) wt689 (by decide +kernel)
theorem gX11_passWords_X11_passOf : GoodIn wsX11_passWords (wsV RX11 303 RX11 yX11_passOf wsX11_passOf) := g4_ (A := ixX11_passWords) wt686 wt687 wt688 wt5 (by decide +kernel) ggX11_passWords_X11_passOf
theorem ggX11_pour_X11_jarOf : GoodIn wsX11_pour wsX11_jarOf := gi_ (A := ixX11_pour) (B := ixX11_jarOf) wt624 (by decide +kernel)
theorem gX11_pour_X11_jarOf : GoodIn wsX11_pour (wsV RX11 283 RX11 yX11_jarOf wsX11_jarOf) := g4_ (A := ixX11_pour) wt621 wt622 wt623 wt5 (by decide +kernel) ggX11_pour_X11_jarOf
theorem ggX11_pour_X11_stands : GoodIn wsX11_pour wsX11_stands := gi_ (A := ixX11_pour) (B := ixX11_stands) wt616 (by decide +kernel)
theorem gX11_pour_X11_stands : GoodIn wsX11_pour (wsV RX11 286 RX11 yX11_stands wsX11_stands) := g4_ (A := ixX11_pour) wt613 wt614 wt615 wt5 (by decide +kernel) ggX11_pour_X11_stands
theorem ggX11_pour_X11_stores : GoodIn wsX11_pour wsX11_stores := gi_ (A := ixX11_pour) (B := ixX11_stores) wt654 (by decide +kernel)
theorem gX11_pour_X11_stores : GoodIn wsX11_pour (wsV RX11 298 RX11 yX11_stores wsX11_stores) := g4_ (A := ixX11_pour) wt651 wt652 wt653 wt5 (by decide +kernel) ggX11_pour_X11_stores
theorem ggX11_store_X11_in : GoodIn wsX11_store wsX11_in := gi_ (A := ixX11_store) (B := ixX11_in) wt193 (by decide +kernel)
theorem gX11_store_X11_in : GoodIn wsX11_store (va_wsS RX11 118 yX11_in wsX11_in) := g3_ (A := ixX11_store) wt191 wt192 wt5 (by decide +kernel) ggX11_store_X11_in
theorem ggX11_store_X11_isNode : GoodIn wsX11_store wsX11_isNode := gi_ (A := ixX11_store) (B := ixX11_isNode) wt212 (by decide +kernel)
theorem gX11_store_X11_isNode : GoodIn wsX11_store (wsV RX11 267 RX11 yX11_isNode wsX11_isNode) := g4_ (A := ixX11_store) wt209 wt210 wt211 wt5 (by decide +kernel) ggX11_store_X11_isNode
theorem ggX11_store_X11_nodeOf : GoodIn wsX11_store wsX11_nodeOf := gi_ (A := ixX11_store) (B := ixX11_nodeOf) wt636 (by decide +kernel)
theorem gX11_store_X11_nodeOf : GoodIn wsX11_store (wsV RX11 257 RX11 yX11_nodeOf wsX11_nodeOf) := g4_ (A := ixX11_store) wt633 wt634 wt635 wt5 (by decide +kernel) ggX11_store_X11_nodeOf
