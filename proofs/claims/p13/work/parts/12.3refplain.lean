def ixX11_draw : List Nat := [153, 208, 866, 867, 868, 869, 870, 1499, 1500, 1501, 1502, 1503, 1504, 1505, 1506, 1507, 1508, 1509, 1510, 1511, 1512, 1513, 1514, 1515, 1516, 1517, 1518, 1519, 1520, 1521, 1522, 1523, 1524, 1525, 1526, 1527, 1528, 1529, 1530, 1531, 1532, 1533, 1534, 1535, 1536, 1537, 1538, 1539, 1540]
def wsX11_draw : List Cond := .code yX11_draw cX11_draw 3 (some .int) :: ixX11_draw.map wt
def ixX11_fill : List Nat := [5, 153, 191, 192, 193, 611, 612, 613, 614, 615, 616, 617, 618, 619, 620, 621, 622, 623, 624, 625, 626, 627, 628, 629, 630, 631, 632, 633, 634, 635, 636, 1499, 1500, 1501, 1502, 1503, 1504, 1505, 1506, 1507, 1508, 1509, 1510, 1511, 1512, 1513, 1514, 1515, 1516, 1517, 1518, 1519, 1520, 1521, 1522, 1523, 1524, 1525, 1526, 1527, 1528, 1529, 1530, 1531, 1532, 1533, 1534, 1535, 1536, 1537, 1538, 1539, 1540]
def wsX11_fill : List Cond := .code yX11_fill cX11_fill 4 (some .int) :: ixX11_fill.map wt
def ixX11_goesFor : List Nat := [153, 874, 1499, 1500, 1501, 1502, 1503, 1504, 1505, 1506, 1507, 1508, 1509, 1510, 1511, 1512, 1513, 1514, 1515, 1516, 1517, 1518, 1519, 1520, 1521, 1522, 1523, 1524, 1525, 1526, 1527, 1528, 1529, 1530, 1531, 1532, 1533, 1534, 1535, 1536, 1537, 1538, 1539, 1540]
def wsX11_goesFor : List Cond := .code yX11_goesFor cX11_goesFor 3 none :: ixX11_goesFor.map wt
def ixX11_hourWords : List Nat := [5, 152, 153, 625, 626, 627, 628, 826, 1499, 1500, 1501, 1502, 1503, 1504, 1505, 1506, 1507, 1508, 1509, 1510, 1511, 1512, 1513, 1514, 1515, 1516, 1517, 1518, 1519, 1520, 1521, 1522, 1523, 1524, 1525, 1526, 1527, 1528, 1529, 1530, 1531, 1532, 1533, 1534, 1535, 1536, 1537, 1538, 1539, 1540]
def wsX11_hourWords : List Cond := .code yX11_hourWords cX11_hourWords 5 none :: ixX11_hourWords.map wt
def ixX11_leave : List Nat := [5, 153, 613, 614, 615, 616, 617, 618, 619, 620, 621, 622, 623, 624, 677, 678, 679, 680, 681, 682, 683, 684, 685, 686, 687, 688, 689, 1499, 1500, 1501, 1502, 1503, 1504, 1505, 1506, 1507, 1508, 1509, 1510, 1511, 1512, 1513, 1514, 1515, 1516, 1517, 1518, 1519, 1520, 1521, 1522, 1523, 1524, 1525, 1526, 1527, 1528, 1529, 1530, 1531, 1532, 1533, 1534, 1535, 1536, 1537, 1538, 1539, 1540]
def wsX11_leave : List Cond := .code yX11_leave cX11_leave 4 (some .boolean) :: ixX11_leave.map wt
def ixX11_nodeWords : List Nat := [5, 152, 153, 625, 626, 627, 628, 633, 634, 635, 636, 823, 824, 825, 826, 830, 1499, 1500, 1501, 1502, 1503, 1504, 1505, 1506, 1507, 1508, 1509, 1510, 1511, 1512, 1513, 1514, 1515, 1516, 1517, 1518, 1519, 1520, 1521, 1522, 1523, 1524, 1525, 1526, 1527, 1528, 1529, 1530, 1531, 1532, 1533, 1534, 1535, 1536, 1537, 1538, 1539, 1540]
def wsX11_nodeWords : List Cond := .code yX11_nodeWords cX11_nodeWords 6 none :: ixX11_nodeWords.map wt
def ixX11_passWords : List Nat := [5, 152, 153, 625, 626, 627, 628, 633, 634, 635, 636, 682, 683, 684, 685, 686, 687, 688, 689, 821, 822, 823, 824, 825, 826, 1499, 1500, 1501, 1502, 1503, 1504, 1505, 1506, 1507, 1508, 1509, 1510, 1511, 1512, 1513, 1514, 1515, 1516, 1517, 1518, 1519, 1520, 1521, 1522, 1523, 1524, 1525, 1526, 1527, 1528, 1529, 1530, 1531, 1532, 1533, 1534, 1535, 1536, 1537, 1538, 1539, 1540]
def wsX11_passWords : List Cond := .code yX11_passWords cX11_passWords 9 none :: ixX11_passWords.map wt
def ixX11_pour : List Nat := [5, 153, 613, 614, 615, 616, 617, 618, 619, 620, 621, 622, 623, 624, 650, 651, 652, 653, 654, 655, 1499, 1500, 1501, 1502, 1503, 1504, 1505, 1506, 1507, 1508, 1509, 1510, 1511, 1512, 1513, 1514, 1515, 1516, 1517, 1518, 1519, 1520, 1521, 1522, 1523, 1524, 1525, 1526, 1527, 1528, 1529, 1530, 1531, 1532, 1533, 1534, 1535, 1536, 1537, 1538, 1539, 1540]
def wsX11_pour : List Cond := .code yX11_pour cX11_pour 3 (some .int) :: ixX11_pour.map wt
def ixX11_seed : List Nat := [153, 250, 1499, 1500, 1501, 1502, 1503, 1504, 1505, 1506, 1507, 1508, 1509, 1510, 1511, 1512, 1513, 1514, 1515, 1516, 1517, 1518, 1519, 1520, 1521, 1522, 1523, 1524, 1525, 1526, 1527, 1528, 1529, 1530, 1531, 1532, 1533, 1534, 1535, 1536, 1537, 1538, 1539, 1540]
def wsX11_seed : List Cond := .code yX11_seed cX11_seed 3 (some .int) :: ixX11_seed.map wt
def ixX11_store : List Nat := [5, 153, 191, 192, 193, 209, 210, 211, 212, 633, 634, 635, 636, 664, 665, 1499, 1500, 1501, 1502, 1503, 1504, 1505, 1506, 1507, 1508, 1509, 1510, 1511, 1512, 1513, 1514, 1515, 1516, 1517, 1518, 1519, 1520, 1521, 1522, 1523, 1524, 1525, 1526, 1527, 1528, 1529, 1530, 1531, 1532, 1533, 1534, 1535, 1536, 1537, 1538, 1539, 1540]
def wsX11_store : List Cond := .code yX11_store cX11_store 4 (some .int) :: ixX11_store.map wt
def ixX11_stores : List Nat := [153, 654, 655, 1499, 1500, 1501, 1502, 1503, 1504, 1505, 1506, 1507, 1508, 1509, 1510, 1511, 1512, 1513, 1514, 1515, 1516, 1517, 1518, 1519, 1520, 1521, 1522, 1523, 1524, 1525, 1526, 1527, 1528, 1529, 1530, 1531, 1532, 1533, 1534, 1535, 1536, 1537, 1538, 1539, 1540]
def wsX11_stores : List Cond := .code yX11_stores cX11_stores 5 (some .int) :: ixX11_stores.map wt
theorem ggX11_fill_X11_hasSnow : GoodIn wsX11_fill wsX11_hasSnow := gi_ (A := ixX11_fill) (B := ixX11_hasSnow) wt632 (by decide +kernel)
theorem gX11_fill_X11_hasSnow : GoodIn wsX11_fill (wsV RX11 294 RX11 yX11_hasSnow wsX11_hasSnow) := g4_ (A := ixX11_fill) wt629 wt630 wt631 wt5 (by decide +kernel) ggX11_fill_X11_hasSnow
theorem ggX11_fill_X11_in : GoodIn wsX11_fill wsX11_in := gi_ (A := ixX11_fill) (B := ixX11_in) wt193 (by decide +kernel)
theorem gX11_fill_X11_in : GoodIn wsX11_fill (va_wsS RX11 118 yX11_in wsX11_in) := g3_ (A := ixX11_fill) wt191 wt192 wt5 (by decide +kernel) ggX11_fill_X11_in
theorem ggX11_fill_X11_jarOf : GoodIn wsX11_fill wsX11_jarOf := gi_ (A := ixX11_fill) (B := ixX11_jarOf) wt624 (by decide +kernel)
theorem gX11_fill_X11_jarOf : GoodIn wsX11_fill (wsV RX11 283 RX11 yX11_jarOf wsX11_jarOf) := g4_ (A := ixX11_fill) wt621 wt622 wt623 wt5 (by decide +kernel) ggX11_fill_X11_jarOf
theorem ggX11_fill_X11_monthAt : GoodIn wsX11_fill wsX11_monthAt := gi_ (A := ixX11_fill) (B := ixX11_monthAt) wt628 (by decide +kernel)
theorem gX11_fill_X11_monthAt : GoodIn wsX11_fill (wsV RX11 291 RX11 yX11_monthAt wsX11_monthAt) := g4_ (A := ixX11_fill) wt625 wt626 wt627 wt5 (by decide +kernel) ggX11_fill_X11_monthAt
theorem ggX11_fill_X11_stands : GoodIn wsX11_fill wsX11_stands := gi_ (A := ixX11_fill) (B := ixX11_stands) wt616 (by decide +kernel)
theorem gX11_fill_X11_stands : GoodIn wsX11_fill (wsV RX11 286 RX11 yX11_stands wsX11_stands) := g4_ (A := ixX11_fill) wt613 wt614 wt615 wt5 (by decide +kernel) ggX11_fill_X11_stands
theorem ggX11_hourWords_X11_monthAt : GoodIn wsX11_hourWords wsX11_monthAt := gi_ (A := ixX11_hourWords) (B := ixX11_monthAt) wt628 (by decide +kernel)
theorem gX11_hourWords_X11_monthAt : GoodIn wsX11_hourWords (wsV RX11 291 RX11 yX11_monthAt wsX11_monthAt) := g4_ (A := ixX11_hourWords) wt625 wt626 wt627 wt5 (by decide +kernel) ggX11_hourWords_X11_monthAt
theorem ggX11_leave_X11_isPass : GoodIn wsX11_leave wsX11_isPass := gi_ (A := ixX11_leave) (B := ixX11_isPass) wt681 (by decide +kernel)
theorem gX11_leave_X11_isPass : GoodIn wsX11_leave (wsV RX11 306 RX11 yX11_isPass wsX11_isPass) := g4_ (A := ixX11_leave) wt678 wt679 wt680 wt5 (by decide +kernel) ggX11_leave_X11_isPass
theorem ggX11_leave_X11_jarOf : GoodIn wsX11_leave wsX11_jarOf := gi_ (A := ixX11_leave) (B := ixX11_jarOf) wt624 (by decide +kernel)
theorem gX11_leave_X11_jarOf : GoodIn wsX11_leave (wsV RX11 283 RX11 yX11_jarOf wsX11_jarOf) := g4_ (A := ixX11_leave) wt621 wt622 wt623 wt5 (by decide +kernel) ggX11_leave_X11_jarOf
theorem ggX11_leave_X11_other : GoodIn wsX11_leave wsX11_other := gi_ (A := ixX11_leave) (B := ixX11_other) wt685 (by decide +kernel)
theorem gX11_leave_X11_other : GoodIn wsX11_leave (wsV RX11 309 RX11 yX11_other wsX11_other) := g4_ (A := ixX11_leave) wt682 wt683 wt684 wt5 (by decide +kernel) ggX11_leave_X11_other
theorem ggX11_leave_X11_stands : GoodIn wsX11_leave wsX11_stands := gi_ (A := ixX11_leave) (B := ixX11_stands) wt616 (by decide +kernel)
theorem gX11_leave_X11_stands : GoodIn wsX11_leave (wsV RX11 286 RX11 yX11_stands wsX11_stands) := g4_ (A := ixX11_leave) wt613 wt614 wt615 wt5 (by decide +kernel) ggX11_leave_X11_stands
theorem ggX11_nodeWords_X11_hourWords : GoodIn wsX11_nodeWords wsX11_hourWords := gi_ (A := ixX11_nodeWords) (B := ixX11_hourWords) wt826 (by decide +kernel)
theorem gX11_nodeWords_X11_hourWords : GoodIn wsX11_nodeWords (wsV RX11 312 RX11 yX11_hourWords wsX11_hourWords) := g4_ (A := ixX11_nodeWords) wt823 wt824 wt825 wt5 (by decide +kernel) ggX11_nodeWords_X11_hourWords
theorem ggX11_nodeWords_X11_nodeOf : GoodIn wsX11_nodeWords wsX11_nodeOf := gi_ (A := ixX11_nodeWords) (B := ixX11_nodeOf) wt636 (by decide +kernel)
theorem gX11_nodeWords_X11_nodeOf : GoodIn wsX11_nodeWords (wsV RX11 257 RX11 yX11_nodeOf wsX11_nodeOf) := g4_ (A := ixX11_nodeWords) wt633 wt634 wt635 wt5 (by decide +kernel) ggX11_nodeWords_X11_nodeOf
theorem ggX11_passWords_X11_hourWords : GoodIn wsX11_passWords wsX11_hourWords := gi_ (A := ixX11_passWords) (B := ixX11_hourWords) wt826 (by decide +kernel)
theorem gX11_passWords_X11_hourWords : GoodIn wsX11_passWords (wsV RX11 312 RX11 yX11_hourWords wsX11_hourWords) := g4_ (A := ixX11_passWords) wt823 wt824 wt825 wt5 (by decide +kernel) ggX11_passWords_X11_hourWords
theorem ggX11_passWords_X11_nodeOf : GoodIn wsX11_passWords wsX11_nodeOf := gi_ (A := ixX11_passWords) (B := ixX11_nodeOf) wt636 (by decide +kernel)
theorem gX11_passWords_X11_nodeOf : GoodIn wsX11_passWords (wsV RX11 257 RX11 yX11_nodeOf wsX11_nodeOf) := g4_ (A := ixX11_passWords) wt633 wt634 wt635 wt5 (by decide +kernel) ggX11_passWords_X11_nodeOf
theorem ggX11_passWords_X11_other : GoodIn wsX11_passWords wsX11_other := gi_ (A := ixX11_passWords) (B := ixX11_other) wt685 (by decide +kernel)
theorem gX11_passWords_X11_other : GoodIn wsX11_passWords (wsV RX11 309 RX11 yX11_other wsX11_other) := g4_ (A := ixX11_passWords) wt682 wt683 wt684 wt5 (by decide +kernel) ggX11_passWords_X11_other
theorem ggX11_passWords_X11_passOf : GoodIn wsX11_passWords wsX11_passOf := gi_ (A := ixX11_passWords) (B := ixX11_passOf) wt689 (by decide +kernel)
theorem gX11_passWords_X11_passOf : GoodIn wsX11_passWords (wsV RX11 303 RX11 yX11_passOf wsX11_passOf) := g4_ (A := ixX11_passWords) wt686 wt687 wt688 wt5 (by decide +kernel) ggX11_passWords_X11_passOf
theorem ggX11_pour_X11_jarOf : GoodIn wsX11_pour wsX11_jarOf := gi_ (A := ixX11_pour) (B := ixX11_jarOf) wt624 (by decide +kernel)
theorem gX11_pour_X11_jarOf : GoodIn wsX11_pour (wsV RX11 283 RX11 yX11_jarOf wsX11_jarOf) := g4_ (A := ixX11_pour) wt621 wt622 wt623 wt5 (by decide +kernel) ggX11_pour_X11_jarOf
theorem ggX11_pour_X11_stands : GoodIn wsX11_pour wsX11_stands := gi_ (A := ixX11_pour) (B := ixX11_stands) wt616 (by decide +kernel)
theorem gX11_pour_X11_stands : GoodIn wsX11_pour (wsV RX11 286 RX11 yX11_stands wsX11_stands) := g4_ (A := ixX11_pour) wt613 wt614 wt615 wt5 (by decide +kernel) ggX11_pour_X11_stands
theorem ggX11_pour_X11_stores : GoodIn wsX11_pour wsX11_stores := gi_ (A := ixX11_pour) (B := ixX11_stores) wt654 (by decide +kernel)
theorem gX11_pour_X11_stores : GoodIn wsX11_pour (wsV RX11 298 RX11 yX11_stores wsX11_stores) := g4_ (A := ixX11_pour) wt651 wt652 wt653 wt5 (by decide +kernel) ggX11_pour_X11_stores
theorem ggX11_store_X11_in : GoodIn wsX11_store wsX11_in := gi_ (A := ixX11_store) (B := ixX11_in) wt193 (by decide +kernel)
theorem gX11_store_X11_in : GoodIn wsX11_store (va_wsS RX11 118 yX11_in wsX11_in) := g3_ (A := ixX11_store) wt191 wt192 wt5 (by decide +kernel) ggX11_store_X11_in
theorem ggX11_store_X11_isNode : GoodIn wsX11_store wsX11_isNode := gi_ (A := ixX11_store) (B := ixX11_isNode) wt212 (by decide +kernel)
theorem gX11_store_X11_isNode : GoodIn wsX11_store (wsV RX11 267 RX11 yX11_isNode wsX11_isNode) := g4_ (A := ixX11_store) wt209 wt210 wt211 wt5 (by decide +kernel) ggX11_store_X11_isNode
theorem ggX11_store_X11_nodeOf : GoodIn wsX11_store wsX11_nodeOf := gi_ (A := ixX11_store) (B := ixX11_nodeOf) wt636 (by decide +kernel)
theorem gX11_store_X11_nodeOf : GoodIn wsX11_store (wsV RX11 257 RX11 yX11_nodeOf wsX11_nodeOf) := g4_ (A := ixX11_store) wt633 wt634 wt635 wt5 (by decide +kernel) ggX11_store_X11_nodeOf
theorem kX11_seed_1 {a : Array Value} {s : State} (hts : ∀ w ∈ wsX11_seed, w.before a s = true) : (.fieldLink RX11 39 "SnowMulesModel" "said" "[I" : Cond).before a s = true := kw (A := ixX11_seed) wt153 hts (by decide +kernel)
theorem kX11_fill_1 {a : Array Value} {s : State} (hts : ∀ w ∈ wsX11_fill, w.before a s = true) : (.constantLong RX11 289 (99999) : Cond).before a s = true := kw (A := ixX11_fill) wt612 hts (by decide +kernel)
theorem kX11_fill_2 {a : Array Value} {s : State} (hts : ∀ w ∈ wsX11_fill, w.before a s = true) : (.fieldLink RX11 39 "SnowMulesModel" "said" "[I" : Cond).before a s = true := kw (A := ixX11_fill) wt153 hts (by decide +kernel)
theorem kX11_stores_1 {a : Array Value} {s : State} (hts : ∀ w ∈ wsX11_stores, w.before a s = true) : (.fieldLink RX11 39 "SnowMulesModel" "said" "[I" : Cond).before a s = true := kw (A := ixX11_stores) wt153 hts (by decide +kernel)
theorem kX11_stores_2 {a : Array Value} {s : State} (hts : ∀ w ∈ wsX11_stores, w.before a s = true) : (.constant RX11 297 (999999) : Cond).before a s = true := kw (A := ixX11_stores) wt655 hts (by decide +kernel)
theorem kX11_pour_1 {a : Array Value} {s : State} (hts : ∀ w ∈ wsX11_pour, w.before a s = true) : (.fieldLink RX11 39 "SnowMulesModel" "said" "[I" : Cond).before a s = true := kw (A := ixX11_pour) wt153 hts (by decide +kernel)
theorem kX11_store_1 {a : Array Value} {s : State} (hts : ∀ w ∈ wsX11_store, w.before a s = true) : (.constantLong RX11 301 (999999) : Cond).before a s = true := kw (A := ixX11_store) wt665 hts (by decide +kernel)
theorem kX11_store_2 {a : Array Value} {s : State} (hts : ∀ w ∈ wsX11_store, w.before a s = true) : (.fieldLink RX11 39 "SnowMulesModel" "said" "[I" : Cond).before a s = true := kw (A := ixX11_store) wt153 hts (by decide +kernel)
theorem kX11_leave_1 {a : Array Value} {s : State} (hts : ∀ w ∈ wsX11_leave, w.before a s = true) : (.fieldLink RX11 39 "SnowMulesModel" "said" "[I" : Cond).before a s = true := kw (A := ixX11_leave) wt153 hts (by decide +kernel)
theorem kX11_hourWords_1 {a : Array Value} {s : State} (hts : ∀ w ∈ wsX11_hourWords, w.before a s = true) : (.fieldLink RX11 36 "SnowMulesModel" "word" "[J" : Cond).before a s = true := kw (A := ixX11_hourWords) wt152 hts (by decide +kernel)
theorem kX11_nodeWords_1 {a : Array Value} {s : State} (hts : ∀ w ∈ wsX11_nodeWords, w.before a s = true) : (.fieldLink RX11 36 "SnowMulesModel" "word" "[J" : Cond).before a s = true := kw (A := ixX11_nodeWords) wt152 hts (by decide +kernel)
theorem kX11_passWords_1 {a : Array Value} {s : State} (hts : ∀ w ∈ wsX11_passWords, w.before a s = true) : (.fieldLink RX11 36 "SnowMulesModel" "word" "[J" : Cond).before a s = true := kw (A := ixX11_passWords) wt152 hts (by decide +kernel)
theorem kX11_passWords_2 {a : Array Value} {s : State} (hts : ∀ w ∈ wsX11_passWords, w.before a s = true) : (.constantLong RX11 316 (12) : Cond).before a s = true := kw (A := ixX11_passWords) wt822 hts (by decide +kernel)
theorem kX11_draw_1 {a : Array Value} {s : State} (hts : ∀ w ∈ wsX11_draw, w.before a s = true) : (.fieldLink RX11 39 "SnowMulesModel" "said" "[I" : Cond).before a s = true := kw (A := ixX11_draw) wt153 hts (by decide +kernel)
theorem kX11_draw_2 {a : Array Value} {s : State} (hts : ∀ w ∈ wsX11_draw, w.before a s = true) : (.constantLong RX11 338 (1103515245) : Cond).before a s = true := kw (A := ixX11_draw) wt867 hts (by decide +kernel)
theorem kX11_draw_3 {a : Array Value} {s : State} (hts : ∀ w ∈ wsX11_draw, w.before a s = true) : (.constantLong RX11 340 (12345) : Cond).before a s = true := kw (A := ixX11_draw) wt868 hts (by decide +kernel)
theorem kX11_draw_4 {a : Array Value} {s : State} (hts : ∀ w ∈ wsX11_draw, w.before a s = true) : (.constantLong RX11 342 (2147483648) : Cond).before a s = true := kw (A := ixX11_draw) wt869 hts (by decide +kernel)
theorem kX11_draw_5 {a : Array Value} {s : State} (hts : ∀ w ∈ wsX11_draw, w.before a s = true) : (.constantLong RX11 344 (65536) : Cond).before a s = true := kw (A := ixX11_draw) wt870 hts (by decide +kernel)
theorem kX11_draw_6 {a : Array Value} {s : State} (hts : ∀ w ∈ wsX11_draw, w.before a s = true) : (.constantLong RX11 272 (1000) : Cond).before a s = true := kw (A := ixX11_draw) wt208 hts (by decide +kernel)
theorem kX11_goesFor_1 {a : Array Value} {s : State} (hts : ∀ w ∈ wsX11_goesFor, w.before a s = true) : (.fieldLink RX11 39 "SnowMulesModel" "said" "[I" : Cond).before a s = true := kw (A := ixX11_goesFor) wt153 hts (by decide +kernel)
theorem iX11_seed_X11 : ∀ w ∈ wsX110, w ∈ wsX11_seed := inW (A := ixX11_seed) uwX11 (by decide +kernel)
theorem iX11_fill_X11 : ∀ w ∈ wsX110, w ∈ wsX11_fill := inW (A := ixX11_fill) uwX11 (by decide +kernel)
theorem iX11_stores_X11 : ∀ w ∈ wsX110, w ∈ wsX11_stores := inW (A := ixX11_stores) uwX11 (by decide +kernel)
theorem iX11_pour_X11 : ∀ w ∈ wsX110, w ∈ wsX11_pour := inW (A := ixX11_pour) uwX11 (by decide +kernel)
theorem iX11_store_X11 : ∀ w ∈ wsX110, w ∈ wsX11_store := inW (A := ixX11_store) uwX11 (by decide +kernel)
theorem iX11_leave_X11 : ∀ w ∈ wsX110, w ∈ wsX11_leave := inW (A := ixX11_leave) uwX11 (by decide +kernel)
theorem iX11_hourWords_X11 : ∀ w ∈ wsX110, w ∈ wsX11_hourWords := inW (A := ixX11_hourWords) uwX11 (by decide +kernel)
theorem iX11_nodeWords_X11 : ∀ w ∈ wsX110, w ∈ wsX11_nodeWords := inW (A := ixX11_nodeWords) uwX11 (by decide +kernel)
theorem iX11_passWords_X11 : ∀ w ∈ wsX110, w ∈ wsX11_passWords := inW (A := ixX11_passWords) uwX11 (by decide +kernel)
theorem iX11_draw_X11 : ∀ w ∈ wsX110, w ∈ wsX11_draw := inW (A := ixX11_draw) uwX11 (by decide +kernel)
theorem iX11_goesFor_X11 : ∀ w ∈ wsX110, w ∈ wsX11_goesFor := inW (A := ixX11_goesFor) uwX11 (by decide +kernel)
theorem hdX11_stands : yX11_stands.cls ≠ "java/lang/invoke/MethodHandle" ∧ yX11_stands.cls ≠ "java/lang/invoke/VarHandle" ∧ (parseMethodDescriptor yX11_stands.desc).map (fun d => d.parameters.length) = some 1 := ⟨hdc_0.1, hdc_0.2, hdd_1⟩
theorem hdX11_monthAt : yX11_monthAt.cls ≠ "java/lang/invoke/MethodHandle" ∧ yX11_monthAt.cls ≠ "java/lang/invoke/VarHandle" ∧ (parseMethodDescriptor yX11_monthAt.desc).map (fun d => d.parameters.length) = some 1 := ⟨hdc_0.1, hdc_0.2, hdd_3⟩
theorem hdX11_hasSnow : yX11_hasSnow.cls ≠ "java/lang/invoke/MethodHandle" ∧ yX11_hasSnow.cls ≠ "java/lang/invoke/VarHandle" ∧ (parseMethodDescriptor yX11_hasSnow.desc).map (fun d => d.parameters.length) = some 2 := ⟨hdc_0.1, hdc_0.2, hdd_4⟩
theorem hdX11_stores : yX11_stores.cls ≠ "java/lang/invoke/MethodHandle" ∧ yX11_stores.cls ≠ "java/lang/invoke/VarHandle" ∧ (parseMethodDescriptor yX11_stores.desc).map (fun d => d.parameters.length) = some 2 := ⟨hdc_0.1, hdc_0.2, hdd_0⟩
theorem hdX11_isPass : yX11_isPass.cls ≠ "java/lang/invoke/MethodHandle" ∧ yX11_isPass.cls ≠ "java/lang/invoke/VarHandle" ∧ (parseMethodDescriptor yX11_isPass.desc).map (fun d => d.parameters.length) = some 1 := ⟨hdc_0.1, hdc_0.2, hdd_1⟩
theorem hdX11_other : yX11_other.cls ≠ "java/lang/invoke/MethodHandle" ∧ yX11_other.cls ≠ "java/lang/invoke/VarHandle" ∧ (parseMethodDescriptor yX11_other.desc).map (fun d => d.parameters.length) = some 2 := ⟨hdc_0.1, hdc_0.2, hdd_0⟩
theorem hdX11_hourWords : yX11_hourWords.cls ≠ "java/lang/invoke/MethodHandle" ∧ yX11_hourWords.cls ≠ "java/lang/invoke/VarHandle" ∧ (parseMethodDescriptor yX11_hourWords.desc).map (fun d => d.parameters.length) = some 4 := ⟨hdc_0.1, hdc_0.2, hdd_5⟩
def dtX11_seed_12_0 : List (Nat × Jvm.ClassFile.Instr × Nat) := [(0, .iload_n 1, 1), (1, .ifCond .ge 5, 3), (6, .aload_n 0, 1), (7, .getfield 39, 3), (10, .bipush 7, 2), (12, .iaload, 1), (13, .istore_n 2, 1), (14, .aload_n 0, 1), (15, .getfield 39, 3), (18, .bipush 7, 2), (20, .iload_n 1, 1), (21, .iastore, 1), (22, .iload_n 2, 1), (4, .iconst (-1), 1), (5, .ireturn, 1), (23, .ireturn, 1)]
theorem daX11_seed_12_0 : dtX11_seed_12_0.all (dqd cX11_seed) = true := by decide +kernel
theorem dX11_seed_0 : decode cX11_seed 0 = .ok (.iload_n 1, 1) := dq daX11_seed_12_0 0 rfl
theorem dX11_seed_1 : decode cX11_seed 1 = .ok (.ifCond .ge 5, 3) := dq daX11_seed_12_0 1 rfl
theorem dX11_seed_6 : decode cX11_seed 6 = .ok (.aload_n 0, 1) := dq daX11_seed_12_0 2 rfl
theorem dX11_seed_7 : decode cX11_seed 7 = .ok (.getfield 39, 3) := dq daX11_seed_12_0 3 rfl
theorem dX11_seed_10 : decode cX11_seed 10 = .ok (.bipush 7, 2) := dq daX11_seed_12_0 4 rfl
theorem dX11_seed_12 : decode cX11_seed 12 = .ok (.iaload, 1) := dq daX11_seed_12_0 5 rfl
theorem dX11_seed_13 : decode cX11_seed 13 = .ok (.istore_n 2, 1) := dq daX11_seed_12_0 6 rfl
theorem dX11_seed_14 : decode cX11_seed 14 = .ok (.aload_n 0, 1) := dq daX11_seed_12_0 7 rfl
theorem dX11_seed_15 : decode cX11_seed 15 = .ok (.getfield 39, 3) := dq daX11_seed_12_0 8 rfl
theorem dX11_seed_18 : decode cX11_seed 18 = .ok (.bipush 7, 2) := dq daX11_seed_12_0 9 rfl
theorem dX11_seed_20 : decode cX11_seed 20 = .ok (.iload_n 1, 1) := dq daX11_seed_12_0 10 rfl
theorem dX11_seed_21 : decode cX11_seed 21 = .ok (.iastore, 1) := dq daX11_seed_12_0 11 rfl
theorem dX11_seed_22 : decode cX11_seed 22 = .ok (.iload_n 2, 1) := dq daX11_seed_12_0 12 rfl
theorem dX11_seed_4 : decode cX11_seed 4 = .ok (.iconst (-1), 1) := dq daX11_seed_12_0 13 rfl
theorem dX11_seed_5 : decode cX11_seed 5 = .ok (.ireturn, 1) := dq daX11_seed_12_0 14 rfl
theorem dX11_seed_23 : decode cX11_seed 23 = .ok (.ireturn, 1) := dq daX11_seed_12_0 15 rfl
def dtX11_fill_12_0 : List (Nat × Jvm.ClassFile.Instr × Nat) := [(0, .aload_n 0, 1), (1, .iload_n 1, 1), (2, .invokevirtual 286, 3), (5, .ifCond .eq 38, 3), (43, .iconst (-1), 1), (44, .ireturn, 1), (8, .iload_n 2, 1), (9, .i2l, 1), (10, .lconst 0, 1), (11, .ldc2_w 289, 3), (14, .invokestatic 118, 3), (17, .ifCond .eq 26, 3), (20, .aload_n 0, 1), (21, .aload_n 0, 1), (22, .iload_n 1, 1), (23, .iconst 5, 1), (24, .invokevirtual 283, 3), (27, .aload_n 0, 1), (28, .aload_n 0, 1), (29, .getfield 39, 3), (32, .iconst 5, 1), (33, .iaload, 1), (34, .invokevirtual 291, 3), (37, .invokevirtual 294, 3), (40, .ifCond .ne 5, 3), (45, .aload_n 0, 1), (46, .iload_n 1, 1), (47, .iconst 4, 1), (48, .invokevirtual 283, 3), (51, .istore_n 3, 1), (52, .aload_n 0, 1), (53, .getfield 39, 3)]
theorem daX11_fill_12_0 : dtX11_fill_12_0.all (dqd cX11_fill) = true := by decide +kernel
theorem dX11_fill_0 : decode cX11_fill 0 = .ok (.aload_n 0, 1) := dq daX11_fill_12_0 0 rfl
theorem dX11_fill_1 : decode cX11_fill 1 = .ok (.iload_n 1, 1) := dq daX11_fill_12_0 1 rfl
theorem dX11_fill_2 : decode cX11_fill 2 = .ok (.invokevirtual 286, 3) := dq daX11_fill_12_0 2 rfl
theorem dX11_fill_5 : decode cX11_fill 5 = .ok (.ifCond .eq 38, 3) := dq daX11_fill_12_0 3 rfl
theorem dX11_fill_43 : decode cX11_fill 43 = .ok (.iconst (-1), 1) := dq daX11_fill_12_0 4 rfl
theorem dX11_fill_44 : decode cX11_fill 44 = .ok (.ireturn, 1) := dq daX11_fill_12_0 5 rfl
theorem dX11_fill_8 : decode cX11_fill 8 = .ok (.iload_n 2, 1) := dq daX11_fill_12_0 6 rfl
theorem dX11_fill_9 : decode cX11_fill 9 = .ok (.i2l, 1) := dq daX11_fill_12_0 7 rfl
theorem dX11_fill_10 : decode cX11_fill 10 = .ok (.lconst 0, 1) := dq daX11_fill_12_0 8 rfl
theorem dX11_fill_11 : decode cX11_fill 11 = .ok (.ldc2_w 289, 3) := dq daX11_fill_12_0 9 rfl
theorem dX11_fill_14 : decode cX11_fill 14 = .ok (.invokestatic 118, 3) := dq daX11_fill_12_0 10 rfl
theorem dX11_fill_17 : decode cX11_fill 17 = .ok (.ifCond .eq 26, 3) := dq daX11_fill_12_0 11 rfl
theorem dX11_fill_20 : decode cX11_fill 20 = .ok (.aload_n 0, 1) := dq daX11_fill_12_0 12 rfl
theorem dX11_fill_21 : decode cX11_fill 21 = .ok (.aload_n 0, 1) := dq daX11_fill_12_0 13 rfl
theorem dX11_fill_22 : decode cX11_fill 22 = .ok (.iload_n 1, 1) := dq daX11_fill_12_0 14 rfl
theorem dX11_fill_23 : decode cX11_fill 23 = .ok (.iconst 5, 1) := dq daX11_fill_12_0 15 rfl
theorem dX11_fill_24 : decode cX11_fill 24 = .ok (.invokevirtual 283, 3) := dq daX11_fill_12_0 16 rfl
theorem dX11_fill_27 : decode cX11_fill 27 = .ok (.aload_n 0, 1) := dq daX11_fill_12_0 17 rfl
theorem dX11_fill_28 : decode cX11_fill 28 = .ok (.aload_n 0, 1) := dq daX11_fill_12_0 18 rfl
theorem dX11_fill_29 : decode cX11_fill 29 = .ok (.getfield 39, 3) := dq daX11_fill_12_0 19 rfl
theorem dX11_fill_32 : decode cX11_fill 32 = .ok (.iconst 5, 1) := dq daX11_fill_12_0 20 rfl
theorem dX11_fill_33 : decode cX11_fill 33 = .ok (.iaload, 1) := dq daX11_fill_12_0 21 rfl
theorem dX11_fill_34 : decode cX11_fill 34 = .ok (.invokevirtual 291, 3) := dq daX11_fill_12_0 22 rfl
theorem dX11_fill_37 : decode cX11_fill 37 = .ok (.invokevirtual 294, 3) := dq daX11_fill_12_0 23 rfl
theorem dX11_fill_40 : decode cX11_fill 40 = .ok (.ifCond .ne 5, 3) := dq daX11_fill_12_0 24 rfl
theorem dX11_fill_45 : decode cX11_fill 45 = .ok (.aload_n 0, 1) := dq daX11_fill_12_0 25 rfl
theorem dX11_fill_46 : decode cX11_fill 46 = .ok (.iload_n 1, 1) := dq daX11_fill_12_0 26 rfl
theorem dX11_fill_47 : decode cX11_fill 47 = .ok (.iconst 4, 1) := dq daX11_fill_12_0 27 rfl
theorem dX11_fill_48 : decode cX11_fill 48 = .ok (.invokevirtual 283, 3) := dq daX11_fill_12_0 28 rfl
theorem dX11_fill_51 : decode cX11_fill 51 = .ok (.istore_n 3, 1) := dq daX11_fill_12_0 29 rfl
theorem dX11_fill_52 : decode cX11_fill 52 = .ok (.aload_n 0, 1) := dq daX11_fill_12_0 30 rfl
theorem dX11_fill_53 : decode cX11_fill 53 = .ok (.getfield 39, 3) := dq daX11_fill_12_0 31 rfl
def dtX11_fill_12_1 : List (Nat × Jvm.ClassFile.Instr × Nat) := [(56, .sipush 168, 3), (59, .bipush 9, 2), (61, .iload_n 1, 1), (62, .imul, 1), (63, .iadd, 1), (64, .iconst 4, 1), (65, .iadd, 1), (66, .iload_n 2, 1), (67, .iastore, 1), (68, .iload_n 3, 1), (69, .ireturn, 1)]
theorem daX11_fill_12_1 : dtX11_fill_12_1.all (dqd cX11_fill) = true := by decide +kernel
theorem dX11_fill_56 : decode cX11_fill 56 = .ok (.sipush 168, 3) := dq daX11_fill_12_1 0 rfl
theorem dX11_fill_59 : decode cX11_fill 59 = .ok (.bipush 9, 2) := dq daX11_fill_12_1 1 rfl
theorem dX11_fill_61 : decode cX11_fill 61 = .ok (.iload_n 1, 1) := dq daX11_fill_12_1 2 rfl
theorem dX11_fill_62 : decode cX11_fill 62 = .ok (.imul, 1) := dq daX11_fill_12_1 3 rfl
theorem dX11_fill_63 : decode cX11_fill 63 = .ok (.iadd, 1) := dq daX11_fill_12_1 4 rfl
theorem dX11_fill_64 : decode cX11_fill 64 = .ok (.iconst 4, 1) := dq daX11_fill_12_1 5 rfl
theorem dX11_fill_65 : decode cX11_fill 65 = .ok (.iadd, 1) := dq daX11_fill_12_1 6 rfl
theorem dX11_fill_66 : decode cX11_fill 66 = .ok (.iload_n 2, 1) := dq daX11_fill_12_1 7 rfl
theorem dX11_fill_67 : decode cX11_fill 67 = .ok (.iastore, 1) := dq daX11_fill_12_1 8 rfl
theorem dX11_fill_68 : decode cX11_fill 68 = .ok (.iload_n 3, 1) := dq daX11_fill_12_1 9 rfl
theorem dX11_fill_69 : decode cX11_fill 69 = .ok (.ireturn, 1) := dq daX11_fill_12_1 10 rfl
def dtX11_stores_12_0 : List (Nat × Jvm.ClassFile.Instr × Nat) := [(0, .bipush 20, 2), (2, .iconst 4, 1), (3, .iload_n 1, 1), (4, .imul, 1), (5, .iadd, 1), (6, .iconst 3, 1), (7, .iadd, 1), (8, .istore_n 3, 1), (9, .aload_n 0, 1), (10, .getfield 39, 3), (13, .iload_n 3, 1), (14, .iaload, 1), (15, .iload_n 2, 1), (16, .iadd, 1), (17, .ldc_w 297, 3), (20, .if_icmp .le 16, 3), (36, .iload_n 2, 1), (37, .istore 4, 2), (39, .aload_n 0, 1), (40, .getfield 39, 3), (43, .iload_n 3, 1), (44, .dup2, 1), (45, .iaload, 1), (46, .iload 4, 2), (48, .iadd, 1), (49, .iastore, 1), (50, .iload 4, 2), (23, .ldc_w 297, 3), (26, .aload_n 0, 1), (27, .getfield 39, 3), (30, .iload_n 3, 1), (31, .iaload, 1)]
theorem daX11_stores_12_0 : dtX11_stores_12_0.all (dqd cX11_stores) = true := by decide +kernel
theorem dX11_stores_0 : decode cX11_stores 0 = .ok (.bipush 20, 2) := dq daX11_stores_12_0 0 rfl
theorem dX11_stores_2 : decode cX11_stores 2 = .ok (.iconst 4, 1) := dq daX11_stores_12_0 1 rfl
theorem dX11_stores_3 : decode cX11_stores 3 = .ok (.iload_n 1, 1) := dq daX11_stores_12_0 2 rfl
theorem dX11_stores_4 : decode cX11_stores 4 = .ok (.imul, 1) := dq daX11_stores_12_0 3 rfl
theorem dX11_stores_5 : decode cX11_stores 5 = .ok (.iadd, 1) := dq daX11_stores_12_0 4 rfl
theorem dX11_stores_6 : decode cX11_stores 6 = .ok (.iconst 3, 1) := dq daX11_stores_12_0 5 rfl
theorem dX11_stores_7 : decode cX11_stores 7 = .ok (.iadd, 1) := dq daX11_stores_12_0 6 rfl
theorem dX11_stores_8 : decode cX11_stores 8 = .ok (.istore_n 3, 1) := dq daX11_stores_12_0 7 rfl
theorem dX11_stores_9 : decode cX11_stores 9 = .ok (.aload_n 0, 1) := dq daX11_stores_12_0 8 rfl
theorem dX11_stores_10 : decode cX11_stores 10 = .ok (.getfield 39, 3) := dq daX11_stores_12_0 9 rfl
theorem dX11_stores_13 : decode cX11_stores 13 = .ok (.iload_n 3, 1) := dq daX11_stores_12_0 10 rfl
theorem dX11_stores_14 : decode cX11_stores 14 = .ok (.iaload, 1) := dq daX11_stores_12_0 11 rfl
theorem dX11_stores_15 : decode cX11_stores 15 = .ok (.iload_n 2, 1) := dq daX11_stores_12_0 12 rfl
theorem dX11_stores_16 : decode cX11_stores 16 = .ok (.iadd, 1) := dq daX11_stores_12_0 13 rfl
theorem dX11_stores_17 : decode cX11_stores 17 = .ok (.ldc_w 297, 3) := dq daX11_stores_12_0 14 rfl
theorem dX11_stores_20 : decode cX11_stores 20 = .ok (.if_icmp .le 16, 3) := dq daX11_stores_12_0 15 rfl
theorem dX11_stores_36 : decode cX11_stores 36 = .ok (.iload_n 2, 1) := dq daX11_stores_12_0 16 rfl
theorem dX11_stores_37 : decode cX11_stores 37 = .ok (.istore 4, 2) := dq daX11_stores_12_0 17 rfl
theorem dX11_stores_39 : decode cX11_stores 39 = .ok (.aload_n 0, 1) := dq daX11_stores_12_0 18 rfl
theorem dX11_stores_40 : decode cX11_stores 40 = .ok (.getfield 39, 3) := dq daX11_stores_12_0 19 rfl
theorem dX11_stores_43 : decode cX11_stores 43 = .ok (.iload_n 3, 1) := dq daX11_stores_12_0 20 rfl
theorem dX11_stores_44 : decode cX11_stores 44 = .ok (.dup2, 1) := dq daX11_stores_12_0 21 rfl
theorem dX11_stores_45 : decode cX11_stores 45 = .ok (.iaload, 1) := dq daX11_stores_12_0 22 rfl
theorem dX11_stores_46 : decode cX11_stores 46 = .ok (.iload 4, 2) := dq daX11_stores_12_0 23 rfl
theorem dX11_stores_48 : decode cX11_stores 48 = .ok (.iadd, 1) := dq daX11_stores_12_0 24 rfl
theorem dX11_stores_49 : decode cX11_stores 49 = .ok (.iastore, 1) := dq daX11_stores_12_0 25 rfl
theorem dX11_stores_50 : decode cX11_stores 50 = .ok (.iload 4, 2) := dq daX11_stores_12_0 26 rfl
theorem dX11_stores_23 : decode cX11_stores 23 = .ok (.ldc_w 297, 3) := dq daX11_stores_12_0 27 rfl
theorem dX11_stores_26 : decode cX11_stores 26 = .ok (.aload_n 0, 1) := dq daX11_stores_12_0 28 rfl
theorem dX11_stores_27 : decode cX11_stores 27 = .ok (.getfield 39, 3) := dq daX11_stores_12_0 29 rfl
theorem dX11_stores_30 : decode cX11_stores 30 = .ok (.iload_n 3, 1) := dq daX11_stores_12_0 30 rfl
theorem dX11_stores_31 : decode cX11_stores 31 = .ok (.iaload, 1) := dq daX11_stores_12_0 31 rfl
def dtX11_stores_12_1 : List (Nat × Jvm.ClassFile.Instr × Nat) := [(32, .isub, 1), (33, .goto 4, 3), (52, .ireturn, 1)]
theorem daX11_stores_12_1 : dtX11_stores_12_1.all (dqd cX11_stores) = true := by decide +kernel
theorem dX11_stores_32 : decode cX11_stores 32 = .ok (.isub, 1) := dq daX11_stores_12_1 0 rfl
theorem dX11_stores_33 : decode cX11_stores 33 = .ok (.goto 4, 3) := dq daX11_stores_12_1 1 rfl
theorem dX11_stores_52 : decode cX11_stores 52 = .ok (.ireturn, 1) := dq daX11_stores_12_1 2 rfl
def dtX11_pour_12_0 : List (Nat × Jvm.ClassFile.Instr × Nat) := [(0, .aload_n 0, 1), (1, .iload_n 1, 1), (2, .invokevirtual 286, 3), (5, .ifCond .ne 5, 3), (10, .aload_n 0, 1), (11, .aload_n 0, 1), (12, .iload_n 1, 1), (13, .iconst 5, 1), (14, .invokevirtual 283, 3), (17, .aload_n 0, 1), (18, .iload_n 1, 1), (19, .iconst 4, 1), (20, .invokevirtual 283, 3), (23, .invokevirtual 298, 3), (26, .istore_n 2, 1), (27, .aload_n 0, 1), (28, .getfield 39, 3), (31, .sipush 168, 3), (34, .bipush 9, 2), (36, .iload_n 1, 1), (37, .imul, 1), (38, .iadd, 1), (39, .iconst 4, 1), (40, .iadd, 1), (41, .iconst 0, 1), (42, .iastore, 1), (43, .iload_n 2, 1), (8, .iconst (-1), 1), (9, .ireturn, 1), (44, .ireturn, 1)]
theorem daX11_pour_12_0 : dtX11_pour_12_0.all (dqd cX11_pour) = true := by decide +kernel
theorem dX11_pour_0 : decode cX11_pour 0 = .ok (.aload_n 0, 1) := dq daX11_pour_12_0 0 rfl
theorem dX11_pour_1 : decode cX11_pour 1 = .ok (.iload_n 1, 1) := dq daX11_pour_12_0 1 rfl
theorem dX11_pour_2 : decode cX11_pour 2 = .ok (.invokevirtual 286, 3) := dq daX11_pour_12_0 2 rfl
theorem dX11_pour_5 : decode cX11_pour 5 = .ok (.ifCond .ne 5, 3) := dq daX11_pour_12_0 3 rfl
theorem dX11_pour_10 : decode cX11_pour 10 = .ok (.aload_n 0, 1) := dq daX11_pour_12_0 4 rfl
theorem dX11_pour_11 : decode cX11_pour 11 = .ok (.aload_n 0, 1) := dq daX11_pour_12_0 5 rfl
theorem dX11_pour_12 : decode cX11_pour 12 = .ok (.iload_n 1, 1) := dq daX11_pour_12_0 6 rfl
theorem dX11_pour_13 : decode cX11_pour 13 = .ok (.iconst 5, 1) := dq daX11_pour_12_0 7 rfl
theorem dX11_pour_14 : decode cX11_pour 14 = .ok (.invokevirtual 283, 3) := dq daX11_pour_12_0 8 rfl
theorem dX11_pour_17 : decode cX11_pour 17 = .ok (.aload_n 0, 1) := dq daX11_pour_12_0 9 rfl
theorem dX11_pour_18 : decode cX11_pour 18 = .ok (.iload_n 1, 1) := dq daX11_pour_12_0 10 rfl
theorem dX11_pour_19 : decode cX11_pour 19 = .ok (.iconst 4, 1) := dq daX11_pour_12_0 11 rfl
theorem dX11_pour_20 : decode cX11_pour 20 = .ok (.invokevirtual 283, 3) := dq daX11_pour_12_0 12 rfl
theorem dX11_pour_23 : decode cX11_pour 23 = .ok (.invokevirtual 298, 3) := dq daX11_pour_12_0 13 rfl
theorem dX11_pour_26 : decode cX11_pour 26 = .ok (.istore_n 2, 1) := dq daX11_pour_12_0 14 rfl
theorem dX11_pour_27 : decode cX11_pour 27 = .ok (.aload_n 0, 1) := dq daX11_pour_12_0 15 rfl
theorem dX11_pour_28 : decode cX11_pour 28 = .ok (.getfield 39, 3) := dq daX11_pour_12_0 16 rfl
theorem dX11_pour_31 : decode cX11_pour 31 = .ok (.sipush 168, 3) := dq daX11_pour_12_0 17 rfl
theorem dX11_pour_34 : decode cX11_pour 34 = .ok (.bipush 9, 2) := dq daX11_pour_12_0 18 rfl
theorem dX11_pour_36 : decode cX11_pour 36 = .ok (.iload_n 1, 1) := dq daX11_pour_12_0 19 rfl
theorem dX11_pour_37 : decode cX11_pour 37 = .ok (.imul, 1) := dq daX11_pour_12_0 20 rfl
theorem dX11_pour_38 : decode cX11_pour 38 = .ok (.iadd, 1) := dq daX11_pour_12_0 21 rfl
theorem dX11_pour_39 : decode cX11_pour 39 = .ok (.iconst 4, 1) := dq daX11_pour_12_0 22 rfl
theorem dX11_pour_40 : decode cX11_pour 40 = .ok (.iadd, 1) := dq daX11_pour_12_0 23 rfl
theorem dX11_pour_41 : decode cX11_pour 41 = .ok (.iconst 0, 1) := dq daX11_pour_12_0 24 rfl
theorem dX11_pour_42 : decode cX11_pour 42 = .ok (.iastore, 1) := dq daX11_pour_12_0 25 rfl
theorem dX11_pour_43 : decode cX11_pour 43 = .ok (.iload_n 2, 1) := dq daX11_pour_12_0 26 rfl
theorem dX11_pour_8 : decode cX11_pour 8 = .ok (.iconst (-1), 1) := dq daX11_pour_12_0 27 rfl
theorem dX11_pour_9 : decode cX11_pour 9 = .ok (.ireturn, 1) := dq daX11_pour_12_0 28 rfl
theorem dX11_pour_44 : decode cX11_pour 44 = .ok (.ireturn, 1) := dq daX11_pour_12_0 29 rfl
def dtX11_store_12_0 : List (Nat × Jvm.ClassFile.Instr × Nat) := [(0, .aload_n 0, 1), (1, .iload_n 1, 1), (2, .invokevirtual 267, 3), (5, .ifCond .eq 15, 3), (20, .iconst (-1), 1), (21, .ireturn, 1), (8, .iload_n 2, 1), (9, .i2l, 1), (10, .lconst 0, 1), (11, .ldc2_w 301, 3), (14, .invokestatic 118, 3), (17, .ifCond .ne 5, 3), (22, .aload_n 0, 1), (23, .iload_n 1, 1), (24, .iconst 3, 1), (25, .invokevirtual 257, 3), (28, .istore_n 3, 1), (29, .aload_n 0, 1), (30, .getfield 39, 3), (33, .bipush 20, 2), (35, .iconst 4, 1), (36, .iload_n 1, 1), (37, .imul, 1), (38, .iadd, 1), (39, .iconst 3, 1), (40, .iadd, 1), (41, .iload_n 2, 1), (42, .iastore, 1), (43, .iload_n 3, 1), (44, .ireturn, 1)]
theorem daX11_store_12_0 : dtX11_store_12_0.all (dqd cX11_store) = true := by decide +kernel
theorem dX11_store_0 : decode cX11_store 0 = .ok (.aload_n 0, 1) := dq daX11_store_12_0 0 rfl
theorem dX11_store_1 : decode cX11_store 1 = .ok (.iload_n 1, 1) := dq daX11_store_12_0 1 rfl
theorem dX11_store_2 : decode cX11_store 2 = .ok (.invokevirtual 267, 3) := dq daX11_store_12_0 2 rfl
theorem dX11_store_5 : decode cX11_store 5 = .ok (.ifCond .eq 15, 3) := dq daX11_store_12_0 3 rfl
theorem dX11_store_20 : decode cX11_store 20 = .ok (.iconst (-1), 1) := dq daX11_store_12_0 4 rfl
theorem dX11_store_21 : decode cX11_store 21 = .ok (.ireturn, 1) := dq daX11_store_12_0 5 rfl
theorem dX11_store_8 : decode cX11_store 8 = .ok (.iload_n 2, 1) := dq daX11_store_12_0 6 rfl
theorem dX11_store_9 : decode cX11_store 9 = .ok (.i2l, 1) := dq daX11_store_12_0 7 rfl
theorem dX11_store_10 : decode cX11_store 10 = .ok (.lconst 0, 1) := dq daX11_store_12_0 8 rfl
theorem dX11_store_11 : decode cX11_store 11 = .ok (.ldc2_w 301, 3) := dq daX11_store_12_0 9 rfl
theorem dX11_store_14 : decode cX11_store 14 = .ok (.invokestatic 118, 3) := dq daX11_store_12_0 10 rfl
theorem dX11_store_17 : decode cX11_store 17 = .ok (.ifCond .ne 5, 3) := dq daX11_store_12_0 11 rfl
theorem dX11_store_22 : decode cX11_store 22 = .ok (.aload_n 0, 1) := dq daX11_store_12_0 12 rfl
theorem dX11_store_23 : decode cX11_store 23 = .ok (.iload_n 1, 1) := dq daX11_store_12_0 13 rfl
theorem dX11_store_24 : decode cX11_store 24 = .ok (.iconst 3, 1) := dq daX11_store_12_0 14 rfl
theorem dX11_store_25 : decode cX11_store 25 = .ok (.invokevirtual 257, 3) := dq daX11_store_12_0 15 rfl
theorem dX11_store_28 : decode cX11_store 28 = .ok (.istore_n 3, 1) := dq daX11_store_12_0 16 rfl
theorem dX11_store_29 : decode cX11_store 29 = .ok (.aload_n 0, 1) := dq daX11_store_12_0 17 rfl
theorem dX11_store_30 : decode cX11_store 30 = .ok (.getfield 39, 3) := dq daX11_store_12_0 18 rfl
theorem dX11_store_33 : decode cX11_store 33 = .ok (.bipush 20, 2) := dq daX11_store_12_0 19 rfl
theorem dX11_store_35 : decode cX11_store 35 = .ok (.iconst 4, 1) := dq daX11_store_12_0 20 rfl
theorem dX11_store_36 : decode cX11_store 36 = .ok (.iload_n 1, 1) := dq daX11_store_12_0 21 rfl
theorem dX11_store_37 : decode cX11_store 37 = .ok (.imul, 1) := dq daX11_store_12_0 22 rfl
theorem dX11_store_38 : decode cX11_store 38 = .ok (.iadd, 1) := dq daX11_store_12_0 23 rfl
theorem dX11_store_39 : decode cX11_store 39 = .ok (.iconst 3, 1) := dq daX11_store_12_0 24 rfl
theorem dX11_store_40 : decode cX11_store 40 = .ok (.iadd, 1) := dq daX11_store_12_0 25 rfl
theorem dX11_store_41 : decode cX11_store 41 = .ok (.iload_n 2, 1) := dq daX11_store_12_0 26 rfl
theorem dX11_store_42 : decode cX11_store 42 = .ok (.iastore, 1) := dq daX11_store_12_0 27 rfl
theorem dX11_store_43 : decode cX11_store 43 = .ok (.iload_n 3, 1) := dq daX11_store_12_0 28 rfl
theorem dX11_store_44 : decode cX11_store 44 = .ok (.ireturn, 1) := dq daX11_store_12_0 29 rfl
def dtX11_leave_12_0 : List (Nat × Jvm.ClassFile.Instr × Nat) := [(0, .aload_n 0, 1), (1, .iload_n 1, 1), (2, .invokevirtual 286, 3), (5, .ifCond .eq 25, 3), (30, .iconst 0, 1), (31, .ireturn, 1), (8, .aload_n 0, 1), (9, .iload_n 2, 1), (10, .invokevirtual 306, 3), (13, .ifCond .eq 17, 3), (16, .aload_n 0, 1), (17, .iload_n 2, 1), (18, .aload_n 0, 1), (19, .iload_n 1, 1), (20, .iconst 5, 1), (21, .invokevirtual 283, 3), (24, .invokevirtual 309, 3), (27, .ifCond .ge 5, 3), (32, .sipush 168, 3), (35, .bipush 9, 2), (37, .iload_n 1, 1), (38, .imul, 1), (39, .iadd, 1), (40, .istore_n 3, 1), (41, .aload_n 0, 1), (42, .getfield 39, 3), (45, .iload_n 3, 1), (46, .bipush 8, 2), (48, .iadd, 1), (49, .aload_n 0, 1), (50, .iload_n 2, 1), (51, .aload_n 0, 1)]
theorem daX11_leave_12_0 : dtX11_leave_12_0.all (dqd cX11_leave) = true := by decide +kernel
theorem dX11_leave_0 : decode cX11_leave 0 = .ok (.aload_n 0, 1) := dq daX11_leave_12_0 0 rfl
theorem dX11_leave_1 : decode cX11_leave 1 = .ok (.iload_n 1, 1) := dq daX11_leave_12_0 1 rfl
theorem dX11_leave_2 : decode cX11_leave 2 = .ok (.invokevirtual 286, 3) := dq daX11_leave_12_0 2 rfl
theorem dX11_leave_5 : decode cX11_leave 5 = .ok (.ifCond .eq 25, 3) := dq daX11_leave_12_0 3 rfl
theorem dX11_leave_30 : decode cX11_leave 30 = .ok (.iconst 0, 1) := dq daX11_leave_12_0 4 rfl
theorem dX11_leave_31 : decode cX11_leave 31 = .ok (.ireturn, 1) := dq daX11_leave_12_0 5 rfl
theorem dX11_leave_8 : decode cX11_leave 8 = .ok (.aload_n 0, 1) := dq daX11_leave_12_0 6 rfl
theorem dX11_leave_9 : decode cX11_leave 9 = .ok (.iload_n 2, 1) := dq daX11_leave_12_0 7 rfl
theorem dX11_leave_10 : decode cX11_leave 10 = .ok (.invokevirtual 306, 3) := dq daX11_leave_12_0 8 rfl
theorem dX11_leave_13 : decode cX11_leave 13 = .ok (.ifCond .eq 17, 3) := dq daX11_leave_12_0 9 rfl
theorem dX11_leave_16 : decode cX11_leave 16 = .ok (.aload_n 0, 1) := dq daX11_leave_12_0 10 rfl
theorem dX11_leave_17 : decode cX11_leave 17 = .ok (.iload_n 2, 1) := dq daX11_leave_12_0 11 rfl
theorem dX11_leave_18 : decode cX11_leave 18 = .ok (.aload_n 0, 1) := dq daX11_leave_12_0 12 rfl
theorem dX11_leave_19 : decode cX11_leave 19 = .ok (.iload_n 1, 1) := dq daX11_leave_12_0 13 rfl
theorem dX11_leave_20 : decode cX11_leave 20 = .ok (.iconst 5, 1) := dq daX11_leave_12_0 14 rfl
theorem dX11_leave_21 : decode cX11_leave 21 = .ok (.invokevirtual 283, 3) := dq daX11_leave_12_0 15 rfl
theorem dX11_leave_24 : decode cX11_leave 24 = .ok (.invokevirtual 309, 3) := dq daX11_leave_12_0 16 rfl
theorem dX11_leave_27 : decode cX11_leave 27 = .ok (.ifCond .ge 5, 3) := dq daX11_leave_12_0 17 rfl
theorem dX11_leave_32 : decode cX11_leave 32 = .ok (.sipush 168, 3) := dq daX11_leave_12_0 18 rfl
theorem dX11_leave_35 : decode cX11_leave 35 = .ok (.bipush 9, 2) := dq daX11_leave_12_0 19 rfl
theorem dX11_leave_37 : decode cX11_leave 37 = .ok (.iload_n 1, 1) := dq daX11_leave_12_0 20 rfl
theorem dX11_leave_38 : decode cX11_leave 38 = .ok (.imul, 1) := dq daX11_leave_12_0 21 rfl
theorem dX11_leave_39 : decode cX11_leave 39 = .ok (.iadd, 1) := dq daX11_leave_12_0 22 rfl
theorem dX11_leave_40 : decode cX11_leave 40 = .ok (.istore_n 3, 1) := dq daX11_leave_12_0 23 rfl
theorem dX11_leave_41 : decode cX11_leave 41 = .ok (.aload_n 0, 1) := dq daX11_leave_12_0 24 rfl
theorem dX11_leave_42 : decode cX11_leave 42 = .ok (.getfield 39, 3) := dq daX11_leave_12_0 25 rfl
theorem dX11_leave_45 : decode cX11_leave 45 = .ok (.iload_n 3, 1) := dq daX11_leave_12_0 26 rfl
theorem dX11_leave_46 : decode cX11_leave 46 = .ok (.bipush 8, 2) := dq daX11_leave_12_0 27 rfl
theorem dX11_leave_48 : decode cX11_leave 48 = .ok (.iadd, 1) := dq daX11_leave_12_0 28 rfl
theorem dX11_leave_49 : decode cX11_leave 49 = .ok (.aload_n 0, 1) := dq daX11_leave_12_0 29 rfl
theorem dX11_leave_50 : decode cX11_leave 50 = .ok (.iload_n 2, 1) := dq daX11_leave_12_0 30 rfl
theorem dX11_leave_51 : decode cX11_leave 51 = .ok (.aload_n 0, 1) := dq daX11_leave_12_0 31 rfl
def dtX11_leave_12_1 : List (Nat × Jvm.ClassFile.Instr × Nat) := [(52, .getfield 39, 3), (55, .iload_n 3, 1), (56, .iconst 5, 1), (57, .iadd, 1), (58, .iaload, 1), (59, .invokevirtual 309, 3), (62, .iastore, 1), (63, .aload_n 0, 1), (64, .getfield 39, 3), (67, .iload_n 3, 1), (68, .iconst 5, 1), (69, .iadd, 1), (70, .bipush 12, 2), (72, .iastore, 1), (73, .aload_n 0, 1), (74, .getfield 39, 3), (77, .iload_n 3, 1), (78, .bipush 6, 2), (80, .iadd, 1), (81, .iload_n 2, 1), (82, .iastore, 1), (83, .aload_n 0, 1), (84, .getfield 39, 3), (87, .iload_n 3, 1), (88, .bipush 7, 2), (90, .iadd, 1), (91, .iconst 0, 1), (92, .iastore, 1), (93, .iconst 1, 1), (94, .ireturn, 1)]
theorem daX11_leave_12_1 : dtX11_leave_12_1.all (dqd cX11_leave) = true := by decide +kernel
theorem dX11_leave_52 : decode cX11_leave 52 = .ok (.getfield 39, 3) := dq daX11_leave_12_1 0 rfl
theorem dX11_leave_55 : decode cX11_leave 55 = .ok (.iload_n 3, 1) := dq daX11_leave_12_1 1 rfl
theorem dX11_leave_56 : decode cX11_leave 56 = .ok (.iconst 5, 1) := dq daX11_leave_12_1 2 rfl
theorem dX11_leave_57 : decode cX11_leave 57 = .ok (.iadd, 1) := dq daX11_leave_12_1 3 rfl
theorem dX11_leave_58 : decode cX11_leave 58 = .ok (.iaload, 1) := dq daX11_leave_12_1 4 rfl
theorem dX11_leave_59 : decode cX11_leave 59 = .ok (.invokevirtual 309, 3) := dq daX11_leave_12_1 5 rfl
theorem dX11_leave_62 : decode cX11_leave 62 = .ok (.iastore, 1) := dq daX11_leave_12_1 6 rfl
theorem dX11_leave_63 : decode cX11_leave 63 = .ok (.aload_n 0, 1) := dq daX11_leave_12_1 7 rfl
theorem dX11_leave_64 : decode cX11_leave 64 = .ok (.getfield 39, 3) := dq daX11_leave_12_1 8 rfl
theorem dX11_leave_67 : decode cX11_leave 67 = .ok (.iload_n 3, 1) := dq daX11_leave_12_1 9 rfl
theorem dX11_leave_68 : decode cX11_leave 68 = .ok (.iconst 5, 1) := dq daX11_leave_12_1 10 rfl
theorem dX11_leave_69 : decode cX11_leave 69 = .ok (.iadd, 1) := dq daX11_leave_12_1 11 rfl
theorem dX11_leave_70 : decode cX11_leave 70 = .ok (.bipush 12, 2) := dq daX11_leave_12_1 12 rfl
theorem dX11_leave_72 : decode cX11_leave 72 = .ok (.iastore, 1) := dq daX11_leave_12_1 13 rfl
theorem dX11_leave_73 : decode cX11_leave 73 = .ok (.aload_n 0, 1) := dq daX11_leave_12_1 14 rfl
theorem dX11_leave_74 : decode cX11_leave 74 = .ok (.getfield 39, 3) := dq daX11_leave_12_1 15 rfl
theorem dX11_leave_77 : decode cX11_leave 77 = .ok (.iload_n 3, 1) := dq daX11_leave_12_1 16 rfl
theorem dX11_leave_78 : decode cX11_leave 78 = .ok (.bipush 6, 2) := dq daX11_leave_12_1 17 rfl
theorem dX11_leave_80 : decode cX11_leave 80 = .ok (.iadd, 1) := dq daX11_leave_12_1 18 rfl
theorem dX11_leave_81 : decode cX11_leave 81 = .ok (.iload_n 2, 1) := dq daX11_leave_12_1 19 rfl
theorem dX11_leave_82 : decode cX11_leave 82 = .ok (.iastore, 1) := dq daX11_leave_12_1 20 rfl
theorem dX11_leave_83 : decode cX11_leave 83 = .ok (.aload_n 0, 1) := dq daX11_leave_12_1 21 rfl
theorem dX11_leave_84 : decode cX11_leave 84 = .ok (.getfield 39, 3) := dq daX11_leave_12_1 22 rfl
theorem dX11_leave_87 : decode cX11_leave 87 = .ok (.iload_n 3, 1) := dq daX11_leave_12_1 23 rfl
theorem dX11_leave_88 : decode cX11_leave 88 = .ok (.bipush 7, 2) := dq daX11_leave_12_1 24 rfl
theorem dX11_leave_90 : decode cX11_leave 90 = .ok (.iadd, 1) := dq daX11_leave_12_1 25 rfl
theorem dX11_leave_91 : decode cX11_leave 91 = .ok (.iconst 0, 1) := dq daX11_leave_12_1 26 rfl
theorem dX11_leave_92 : decode cX11_leave 92 = .ok (.iastore, 1) := dq daX11_leave_12_1 27 rfl
theorem dX11_leave_93 : decode cX11_leave 93 = .ok (.iconst 1, 1) := dq daX11_leave_12_1 28 rfl
theorem dX11_leave_94 : decode cX11_leave 94 = .ok (.ireturn, 1) := dq daX11_leave_12_1 29 rfl
def dtX11_hourWords_12_0 : List (Nat × Jvm.ClassFile.Instr × Nat) := [(0, .aload_n 0, 1), (1, .getfield 36, 3), (4, .iconst 0, 1), (5, .aload_n 0, 1), (6, .iload_n 1, 1), (7, .invokevirtual 291, 3), (10, .i2l, 1), (11, .lastore, 1), (12, .aload_n 0, 1), (13, .getfield 36, 3), (16, .iconst 1, 1), (17, .iload_n 1, 1), (18, .bipush 24, 2), (20, .irem, 1), (21, .i2l, 1), (22, .lastore, 1), (23, .aload_n 0, 1), (24, .getfield 36, 3), (27, .iconst 2, 1), (28, .iload_n 1, 1), (29, .bipush 24, 2), (31, .idiv, 1), (32, .i2l, 1), (33, .lastore, 1), (34, .aload_n 0, 1), (35, .getfield 36, 3), (38, .bipush 7, 2), (40, .iload_n 2, 1), (41, .i2l, 1), (42, .lastore, 1), (43, .aload_n 0, 1), (44, .getfield 36, 3)]
theorem daX11_hourWords_12_0 : dtX11_hourWords_12_0.all (dqd cX11_hourWords) = true := by decide +kernel
theorem dX11_hourWords_0 : decode cX11_hourWords 0 = .ok (.aload_n 0, 1) := dq daX11_hourWords_12_0 0 rfl
theorem dX11_hourWords_1 : decode cX11_hourWords 1 = .ok (.getfield 36, 3) := dq daX11_hourWords_12_0 1 rfl
theorem dX11_hourWords_4 : decode cX11_hourWords 4 = .ok (.iconst 0, 1) := dq daX11_hourWords_12_0 2 rfl
theorem dX11_hourWords_5 : decode cX11_hourWords 5 = .ok (.aload_n 0, 1) := dq daX11_hourWords_12_0 3 rfl
theorem dX11_hourWords_6 : decode cX11_hourWords 6 = .ok (.iload_n 1, 1) := dq daX11_hourWords_12_0 4 rfl
theorem dX11_hourWords_7 : decode cX11_hourWords 7 = .ok (.invokevirtual 291, 3) := dq daX11_hourWords_12_0 5 rfl
theorem dX11_hourWords_10 : decode cX11_hourWords 10 = .ok (.i2l, 1) := dq daX11_hourWords_12_0 6 rfl
theorem dX11_hourWords_11 : decode cX11_hourWords 11 = .ok (.lastore, 1) := dq daX11_hourWords_12_0 7 rfl
theorem dX11_hourWords_12 : decode cX11_hourWords 12 = .ok (.aload_n 0, 1) := dq daX11_hourWords_12_0 8 rfl
theorem dX11_hourWords_13 : decode cX11_hourWords 13 = .ok (.getfield 36, 3) := dq daX11_hourWords_12_0 9 rfl
theorem dX11_hourWords_16 : decode cX11_hourWords 16 = .ok (.iconst 1, 1) := dq daX11_hourWords_12_0 10 rfl
theorem dX11_hourWords_17 : decode cX11_hourWords 17 = .ok (.iload_n 1, 1) := dq daX11_hourWords_12_0 11 rfl
theorem dX11_hourWords_18 : decode cX11_hourWords 18 = .ok (.bipush 24, 2) := dq daX11_hourWords_12_0 12 rfl
theorem dX11_hourWords_20 : decode cX11_hourWords 20 = .ok (.irem, 1) := dq daX11_hourWords_12_0 13 rfl
theorem dX11_hourWords_21 : decode cX11_hourWords 21 = .ok (.i2l, 1) := dq daX11_hourWords_12_0 14 rfl
theorem dX11_hourWords_22 : decode cX11_hourWords 22 = .ok (.lastore, 1) := dq daX11_hourWords_12_0 15 rfl
theorem dX11_hourWords_23 : decode cX11_hourWords 23 = .ok (.aload_n 0, 1) := dq daX11_hourWords_12_0 16 rfl
theorem dX11_hourWords_24 : decode cX11_hourWords 24 = .ok (.getfield 36, 3) := dq daX11_hourWords_12_0 17 rfl
theorem dX11_hourWords_27 : decode cX11_hourWords 27 = .ok (.iconst 2, 1) := dq daX11_hourWords_12_0 18 rfl
theorem dX11_hourWords_28 : decode cX11_hourWords 28 = .ok (.iload_n 1, 1) := dq daX11_hourWords_12_0 19 rfl
theorem dX11_hourWords_29 : decode cX11_hourWords 29 = .ok (.bipush 24, 2) := dq daX11_hourWords_12_0 20 rfl
theorem dX11_hourWords_31 : decode cX11_hourWords 31 = .ok (.idiv, 1) := dq daX11_hourWords_12_0 21 rfl
theorem dX11_hourWords_32 : decode cX11_hourWords 32 = .ok (.i2l, 1) := dq daX11_hourWords_12_0 22 rfl
theorem dX11_hourWords_33 : decode cX11_hourWords 33 = .ok (.lastore, 1) := dq daX11_hourWords_12_0 23 rfl
theorem dX11_hourWords_34 : decode cX11_hourWords 34 = .ok (.aload_n 0, 1) := dq daX11_hourWords_12_0 24 rfl
theorem dX11_hourWords_35 : decode cX11_hourWords 35 = .ok (.getfield 36, 3) := dq daX11_hourWords_12_0 25 rfl
theorem dX11_hourWords_38 : decode cX11_hourWords 38 = .ok (.bipush 7, 2) := dq daX11_hourWords_12_0 26 rfl
theorem dX11_hourWords_40 : decode cX11_hourWords 40 = .ok (.iload_n 2, 1) := dq daX11_hourWords_12_0 27 rfl
theorem dX11_hourWords_41 : decode cX11_hourWords 41 = .ok (.i2l, 1) := dq daX11_hourWords_12_0 28 rfl
theorem dX11_hourWords_42 : decode cX11_hourWords 42 = .ok (.lastore, 1) := dq daX11_hourWords_12_0 29 rfl
theorem dX11_hourWords_43 : decode cX11_hourWords 43 = .ok (.aload_n 0, 1) := dq daX11_hourWords_12_0 30 rfl
theorem dX11_hourWords_44 : decode cX11_hourWords 44 = .ok (.getfield 36, 3) := dq daX11_hourWords_12_0 31 rfl
def dtX11_hourWords_12_1 : List (Nat × Jvm.ClassFile.Instr × Nat) := [(47, .bipush 8, 2), (49, .iload_n 3, 1), (50, .i2l, 1), (51, .lastore, 1), (52, .aload_n 0, 1), (53, .getfield 36, 3), (56, .bipush 9, 2), (58, .iload 4, 2), (60, .i2l, 1), (61, .lastore, 1), (62, .aload_n 0, 1), (63, .getfield 36, 3), (66, .bipush 10, 2), (68, .lconst 0, 1), (69, .lastore, 1), (70, .return_, 1)]
theorem daX11_hourWords_12_1 : dtX11_hourWords_12_1.all (dqd cX11_hourWords) = true := by decide +kernel
theorem dX11_hourWords_47 : decode cX11_hourWords 47 = .ok (.bipush 8, 2) := dq daX11_hourWords_12_1 0 rfl
theorem dX11_hourWords_49 : decode cX11_hourWords 49 = .ok (.iload_n 3, 1) := dq daX11_hourWords_12_1 1 rfl
theorem dX11_hourWords_50 : decode cX11_hourWords 50 = .ok (.i2l, 1) := dq daX11_hourWords_12_1 2 rfl
theorem dX11_hourWords_51 : decode cX11_hourWords 51 = .ok (.lastore, 1) := dq daX11_hourWords_12_1 3 rfl
theorem dX11_hourWords_52 : decode cX11_hourWords 52 = .ok (.aload_n 0, 1) := dq daX11_hourWords_12_1 4 rfl
theorem dX11_hourWords_53 : decode cX11_hourWords 53 = .ok (.getfield 36, 3) := dq daX11_hourWords_12_1 5 rfl
theorem dX11_hourWords_56 : decode cX11_hourWords 56 = .ok (.bipush 9, 2) := dq daX11_hourWords_12_1 6 rfl
theorem dX11_hourWords_58 : decode cX11_hourWords 58 = .ok (.iload 4, 2) := dq daX11_hourWords_12_1 7 rfl
theorem dX11_hourWords_60 : decode cX11_hourWords 60 = .ok (.i2l, 1) := dq daX11_hourWords_12_1 8 rfl
theorem dX11_hourWords_61 : decode cX11_hourWords 61 = .ok (.lastore, 1) := dq daX11_hourWords_12_1 9 rfl
theorem dX11_hourWords_62 : decode cX11_hourWords 62 = .ok (.aload_n 0, 1) := dq daX11_hourWords_12_1 10 rfl
theorem dX11_hourWords_63 : decode cX11_hourWords 63 = .ok (.getfield 36, 3) := dq daX11_hourWords_12_1 11 rfl
theorem dX11_hourWords_66 : decode cX11_hourWords 66 = .ok (.bipush 10, 2) := dq daX11_hourWords_12_1 12 rfl
theorem dX11_hourWords_68 : decode cX11_hourWords 68 = .ok (.lconst 0, 1) := dq daX11_hourWords_12_1 13 rfl
theorem dX11_hourWords_69 : decode cX11_hourWords 69 = .ok (.lastore, 1) := dq daX11_hourWords_12_1 14 rfl
theorem dX11_hourWords_70 : decode cX11_hourWords 70 = .ok (.return_, 1) := dq daX11_hourWords_12_1 15 rfl
def dtX11_nodeWords_12_0 : List (Nat × Jvm.ClassFile.Instr × Nat) := [(0, .aload_n 0, 1), (1, .iload_n 1, 1), (2, .iload_n 3, 1), (3, .iload 4, 2), (5, .iload 5, 2), (7, .invokevirtual 312, 3), (10, .aload_n 0, 1), (11, .getfield 36, 3), (14, .iconst 3, 1), (15, .aload_n 0, 1), (16, .iload_n 2, 1), (17, .iconst 0, 1), (18, .invokevirtual 257, 3), (21, .i2l, 1), (22, .lastore, 1), (23, .aload_n 0, 1), (24, .getfield 36, 3), (27, .iconst 4, 1), (28, .lconst 0, 1), (29, .lastore, 1), (30, .aload_n 0, 1), (31, .getfield 36, 3), (34, .iconst 5, 1), (35, .aload_n 0, 1), (36, .iload_n 2, 1), (37, .iconst 2, 1), (38, .invokevirtual 257, 3), (41, .i2l, 1), (42, .lastore, 1), (43, .aload_n 0, 1), (44, .getfield 36, 3), (47, .bipush 6, 2)]
theorem daX11_nodeWords_12_0 : dtX11_nodeWords_12_0.all (dqd cX11_nodeWords) = true := by decide +kernel
theorem dX11_nodeWords_0 : decode cX11_nodeWords 0 = .ok (.aload_n 0, 1) := dq daX11_nodeWords_12_0 0 rfl
theorem dX11_nodeWords_1 : decode cX11_nodeWords 1 = .ok (.iload_n 1, 1) := dq daX11_nodeWords_12_0 1 rfl
theorem dX11_nodeWords_2 : decode cX11_nodeWords 2 = .ok (.iload_n 3, 1) := dq daX11_nodeWords_12_0 2 rfl
theorem dX11_nodeWords_3 : decode cX11_nodeWords 3 = .ok (.iload 4, 2) := dq daX11_nodeWords_12_0 3 rfl
theorem dX11_nodeWords_5 : decode cX11_nodeWords 5 = .ok (.iload 5, 2) := dq daX11_nodeWords_12_0 4 rfl
theorem dX11_nodeWords_7 : decode cX11_nodeWords 7 = .ok (.invokevirtual 312, 3) := dq daX11_nodeWords_12_0 5 rfl
theorem dX11_nodeWords_10 : decode cX11_nodeWords 10 = .ok (.aload_n 0, 1) := dq daX11_nodeWords_12_0 6 rfl
theorem dX11_nodeWords_11 : decode cX11_nodeWords 11 = .ok (.getfield 36, 3) := dq daX11_nodeWords_12_0 7 rfl
theorem dX11_nodeWords_14 : decode cX11_nodeWords 14 = .ok (.iconst 3, 1) := dq daX11_nodeWords_12_0 8 rfl
theorem dX11_nodeWords_15 : decode cX11_nodeWords 15 = .ok (.aload_n 0, 1) := dq daX11_nodeWords_12_0 9 rfl
theorem dX11_nodeWords_16 : decode cX11_nodeWords 16 = .ok (.iload_n 2, 1) := dq daX11_nodeWords_12_0 10 rfl
theorem dX11_nodeWords_17 : decode cX11_nodeWords 17 = .ok (.iconst 0, 1) := dq daX11_nodeWords_12_0 11 rfl
theorem dX11_nodeWords_18 : decode cX11_nodeWords 18 = .ok (.invokevirtual 257, 3) := dq daX11_nodeWords_12_0 12 rfl
theorem dX11_nodeWords_21 : decode cX11_nodeWords 21 = .ok (.i2l, 1) := dq daX11_nodeWords_12_0 13 rfl
theorem dX11_nodeWords_22 : decode cX11_nodeWords 22 = .ok (.lastore, 1) := dq daX11_nodeWords_12_0 14 rfl
theorem dX11_nodeWords_23 : decode cX11_nodeWords 23 = .ok (.aload_n 0, 1) := dq daX11_nodeWords_12_0 15 rfl
theorem dX11_nodeWords_24 : decode cX11_nodeWords 24 = .ok (.getfield 36, 3) := dq daX11_nodeWords_12_0 16 rfl
theorem dX11_nodeWords_27 : decode cX11_nodeWords 27 = .ok (.iconst 4, 1) := dq daX11_nodeWords_12_0 17 rfl
theorem dX11_nodeWords_28 : decode cX11_nodeWords 28 = .ok (.lconst 0, 1) := dq daX11_nodeWords_12_0 18 rfl
theorem dX11_nodeWords_29 : decode cX11_nodeWords 29 = .ok (.lastore, 1) := dq daX11_nodeWords_12_0 19 rfl
theorem dX11_nodeWords_30 : decode cX11_nodeWords 30 = .ok (.aload_n 0, 1) := dq daX11_nodeWords_12_0 20 rfl
theorem dX11_nodeWords_31 : decode cX11_nodeWords 31 = .ok (.getfield 36, 3) := dq daX11_nodeWords_12_0 21 rfl
theorem dX11_nodeWords_34 : decode cX11_nodeWords 34 = .ok (.iconst 5, 1) := dq daX11_nodeWords_12_0 22 rfl
theorem dX11_nodeWords_35 : decode cX11_nodeWords 35 = .ok (.aload_n 0, 1) := dq daX11_nodeWords_12_0 23 rfl
theorem dX11_nodeWords_36 : decode cX11_nodeWords 36 = .ok (.iload_n 2, 1) := dq daX11_nodeWords_12_0 24 rfl
theorem dX11_nodeWords_37 : decode cX11_nodeWords 37 = .ok (.iconst 2, 1) := dq daX11_nodeWords_12_0 25 rfl
theorem dX11_nodeWords_38 : decode cX11_nodeWords 38 = .ok (.invokevirtual 257, 3) := dq daX11_nodeWords_12_0 26 rfl
theorem dX11_nodeWords_41 : decode cX11_nodeWords 41 = .ok (.i2l, 1) := dq daX11_nodeWords_12_0 27 rfl
theorem dX11_nodeWords_42 : decode cX11_nodeWords 42 = .ok (.lastore, 1) := dq daX11_nodeWords_12_0 28 rfl
theorem dX11_nodeWords_43 : decode cX11_nodeWords 43 = .ok (.aload_n 0, 1) := dq daX11_nodeWords_12_0 29 rfl
theorem dX11_nodeWords_44 : decode cX11_nodeWords 44 = .ok (.getfield 36, 3) := dq daX11_nodeWords_12_0 30 rfl
theorem dX11_nodeWords_47 : decode cX11_nodeWords 47 = .ok (.bipush 6, 2) := dq daX11_nodeWords_12_0 31 rfl
def dtX11_nodeWords_12_1 : List (Nat × Jvm.ClassFile.Instr × Nat) := [(49, .iload_n 2, 1), (50, .i2l, 1), (51, .lastore, 1), (52, .return_, 1)]
theorem daX11_nodeWords_12_1 : dtX11_nodeWords_12_1.all (dqd cX11_nodeWords) = true := by decide +kernel
theorem dX11_nodeWords_49 : decode cX11_nodeWords 49 = .ok (.iload_n 2, 1) := dq daX11_nodeWords_12_1 0 rfl
theorem dX11_nodeWords_50 : decode cX11_nodeWords 50 = .ok (.i2l, 1) := dq daX11_nodeWords_12_1 1 rfl
theorem dX11_nodeWords_51 : decode cX11_nodeWords 51 = .ok (.lastore, 1) := dq daX11_nodeWords_12_1 2 rfl
theorem dX11_nodeWords_52 : decode cX11_nodeWords 52 = .ok (.return_, 1) := dq daX11_nodeWords_12_1 3 rfl
def dtX11_passWords_12_0 : List (Nat × Jvm.ClassFile.Instr × Nat) := [(0, .aload_n 0, 1), (1, .iload_n 1, 1), (2, .iload 5, 2), (4, .iload 6, 2), (6, .iload 7, 2), (8, .invokevirtual 312, 3), (11, .aload_n 0, 1), (12, .iload_n 2, 1), (13, .iconst 2, 1), (14, .invokevirtual 303, 3), (17, .istore 8, 2), (19, .aload_n 0, 1), (20, .getfield 36, 3), (23, .iconst 3, 1), (24, .aload_n 0, 1), (25, .aload_n 0, 1), (26, .iload_n 2, 1), (27, .iload_n 3, 1), (28, .invokevirtual 309, 3), (31, .iconst 0, 1), (32, .invokevirtual 257, 3), (35, .iload 8, 2), (37, .iload 4, 2), (39, .isub, 1), (40, .imul, 1), (41, .aload_n 0, 1), (42, .iload_n 3, 1), (43, .iconst 0, 1), (44, .invokevirtual 257, 3), (47, .iload 4, 2), (49, .imul, 1), (50, .iadd, 1)]
theorem daX11_passWords_12_0 : dtX11_passWords_12_0.all (dqd cX11_passWords) = true := by decide +kernel
theorem dX11_passWords_0 : decode cX11_passWords 0 = .ok (.aload_n 0, 1) := dq daX11_passWords_12_0 0 rfl
theorem dX11_passWords_1 : decode cX11_passWords 1 = .ok (.iload_n 1, 1) := dq daX11_passWords_12_0 1 rfl
theorem dX11_passWords_2 : decode cX11_passWords 2 = .ok (.iload 5, 2) := dq daX11_passWords_12_0 2 rfl
theorem dX11_passWords_4 : decode cX11_passWords 4 = .ok (.iload 6, 2) := dq daX11_passWords_12_0 3 rfl
theorem dX11_passWords_6 : decode cX11_passWords 6 = .ok (.iload 7, 2) := dq daX11_passWords_12_0 4 rfl
theorem dX11_passWords_8 : decode cX11_passWords 8 = .ok (.invokevirtual 312, 3) := dq daX11_passWords_12_0 5 rfl
theorem dX11_passWords_11 : decode cX11_passWords 11 = .ok (.aload_n 0, 1) := dq daX11_passWords_12_0 6 rfl
theorem dX11_passWords_12 : decode cX11_passWords 12 = .ok (.iload_n 2, 1) := dq daX11_passWords_12_0 7 rfl
theorem dX11_passWords_13 : decode cX11_passWords 13 = .ok (.iconst 2, 1) := dq daX11_passWords_12_0 8 rfl
theorem dX11_passWords_14 : decode cX11_passWords 14 = .ok (.invokevirtual 303, 3) := dq daX11_passWords_12_0 9 rfl
theorem dX11_passWords_17 : decode cX11_passWords 17 = .ok (.istore 8, 2) := dq daX11_passWords_12_0 10 rfl
theorem dX11_passWords_19 : decode cX11_passWords 19 = .ok (.aload_n 0, 1) := dq daX11_passWords_12_0 11 rfl
theorem dX11_passWords_20 : decode cX11_passWords 20 = .ok (.getfield 36, 3) := dq daX11_passWords_12_0 12 rfl
theorem dX11_passWords_23 : decode cX11_passWords 23 = .ok (.iconst 3, 1) := dq daX11_passWords_12_0 13 rfl
theorem dX11_passWords_24 : decode cX11_passWords 24 = .ok (.aload_n 0, 1) := dq daX11_passWords_12_0 14 rfl
theorem dX11_passWords_25 : decode cX11_passWords 25 = .ok (.aload_n 0, 1) := dq daX11_passWords_12_0 15 rfl
theorem dX11_passWords_26 : decode cX11_passWords 26 = .ok (.iload_n 2, 1) := dq daX11_passWords_12_0 16 rfl
theorem dX11_passWords_27 : decode cX11_passWords 27 = .ok (.iload_n 3, 1) := dq daX11_passWords_12_0 17 rfl
theorem dX11_passWords_28 : decode cX11_passWords 28 = .ok (.invokevirtual 309, 3) := dq daX11_passWords_12_0 18 rfl
theorem dX11_passWords_31 : decode cX11_passWords 31 = .ok (.iconst 0, 1) := dq daX11_passWords_12_0 19 rfl
theorem dX11_passWords_32 : decode cX11_passWords 32 = .ok (.invokevirtual 257, 3) := dq daX11_passWords_12_0 20 rfl
theorem dX11_passWords_35 : decode cX11_passWords 35 = .ok (.iload 8, 2) := dq daX11_passWords_12_0 21 rfl
theorem dX11_passWords_37 : decode cX11_passWords 37 = .ok (.iload 4, 2) := dq daX11_passWords_12_0 22 rfl
theorem dX11_passWords_39 : decode cX11_passWords 39 = .ok (.isub, 1) := dq daX11_passWords_12_0 23 rfl
theorem dX11_passWords_40 : decode cX11_passWords 40 = .ok (.imul, 1) := dq daX11_passWords_12_0 24 rfl
theorem dX11_passWords_41 : decode cX11_passWords 41 = .ok (.aload_n 0, 1) := dq daX11_passWords_12_0 25 rfl
theorem dX11_passWords_42 : decode cX11_passWords 42 = .ok (.iload_n 3, 1) := dq daX11_passWords_12_0 26 rfl
theorem dX11_passWords_43 : decode cX11_passWords 43 = .ok (.iconst 0, 1) := dq daX11_passWords_12_0 27 rfl
theorem dX11_passWords_44 : decode cX11_passWords 44 = .ok (.invokevirtual 257, 3) := dq daX11_passWords_12_0 28 rfl
theorem dX11_passWords_47 : decode cX11_passWords 47 = .ok (.iload 4, 2) := dq daX11_passWords_12_0 29 rfl
theorem dX11_passWords_49 : decode cX11_passWords 49 = .ok (.imul, 1) := dq daX11_passWords_12_0 30 rfl
theorem dX11_passWords_50 : decode cX11_passWords 50 = .ok (.iadd, 1) := dq daX11_passWords_12_0 31 rfl
def dtX11_passWords_12_1 : List (Nat × Jvm.ClassFile.Instr × Nat) := [(51, .iload 8, 2), (53, .idiv, 1), (54, .i2l, 1), (55, .lastore, 1), (56, .aload_n 0, 1), (57, .getfield 36, 3), (60, .iconst 4, 1), (61, .aload_n 0, 1), (62, .iload_n 2, 1), (63, .iconst 3, 1), (64, .invokevirtual 303, 3), (67, .i2l, 1), (68, .lastore, 1), (69, .aload_n 0, 1), (70, .getfield 36, 3), (73, .iconst 5, 1), (74, .lconst 0, 1), (75, .lastore, 1), (76, .aload_n 0, 1), (77, .getfield 36, 3), (80, .bipush 6, 2), (82, .ldc2_w 316, 3), (85, .lastore, 1), (86, .aload_n 0, 1), (87, .getfield 36, 3), (90, .bipush 10, 2), (92, .iload 4, 2), (94, .i2l, 1), (95, .lastore, 1), (96, .return_, 1)]
theorem daX11_passWords_12_1 : dtX11_passWords_12_1.all (dqd cX11_passWords) = true := by decide +kernel
theorem dX11_passWords_51 : decode cX11_passWords 51 = .ok (.iload 8, 2) := dq daX11_passWords_12_1 0 rfl
theorem dX11_passWords_53 : decode cX11_passWords 53 = .ok (.idiv, 1) := dq daX11_passWords_12_1 1 rfl
theorem dX11_passWords_54 : decode cX11_passWords 54 = .ok (.i2l, 1) := dq daX11_passWords_12_1 2 rfl
theorem dX11_passWords_55 : decode cX11_passWords 55 = .ok (.lastore, 1) := dq daX11_passWords_12_1 3 rfl
theorem dX11_passWords_56 : decode cX11_passWords 56 = .ok (.aload_n 0, 1) := dq daX11_passWords_12_1 4 rfl
theorem dX11_passWords_57 : decode cX11_passWords 57 = .ok (.getfield 36, 3) := dq daX11_passWords_12_1 5 rfl
theorem dX11_passWords_60 : decode cX11_passWords 60 = .ok (.iconst 4, 1) := dq daX11_passWords_12_1 6 rfl
theorem dX11_passWords_61 : decode cX11_passWords 61 = .ok (.aload_n 0, 1) := dq daX11_passWords_12_1 7 rfl
theorem dX11_passWords_62 : decode cX11_passWords 62 = .ok (.iload_n 2, 1) := dq daX11_passWords_12_1 8 rfl
theorem dX11_passWords_63 : decode cX11_passWords 63 = .ok (.iconst 3, 1) := dq daX11_passWords_12_1 9 rfl
theorem dX11_passWords_64 : decode cX11_passWords 64 = .ok (.invokevirtual 303, 3) := dq daX11_passWords_12_1 10 rfl
theorem dX11_passWords_67 : decode cX11_passWords 67 = .ok (.i2l, 1) := dq daX11_passWords_12_1 11 rfl
theorem dX11_passWords_68 : decode cX11_passWords 68 = .ok (.lastore, 1) := dq daX11_passWords_12_1 12 rfl
theorem dX11_passWords_69 : decode cX11_passWords 69 = .ok (.aload_n 0, 1) := dq daX11_passWords_12_1 13 rfl
theorem dX11_passWords_70 : decode cX11_passWords 70 = .ok (.getfield 36, 3) := dq daX11_passWords_12_1 14 rfl
theorem dX11_passWords_73 : decode cX11_passWords 73 = .ok (.iconst 5, 1) := dq daX11_passWords_12_1 15 rfl
theorem dX11_passWords_74 : decode cX11_passWords 74 = .ok (.lconst 0, 1) := dq daX11_passWords_12_1 16 rfl
theorem dX11_passWords_75 : decode cX11_passWords 75 = .ok (.lastore, 1) := dq daX11_passWords_12_1 17 rfl
theorem dX11_passWords_76 : decode cX11_passWords 76 = .ok (.aload_n 0, 1) := dq daX11_passWords_12_1 18 rfl
theorem dX11_passWords_77 : decode cX11_passWords 77 = .ok (.getfield 36, 3) := dq daX11_passWords_12_1 19 rfl
theorem dX11_passWords_80 : decode cX11_passWords 80 = .ok (.bipush 6, 2) := dq daX11_passWords_12_1 20 rfl
theorem dX11_passWords_82 : decode cX11_passWords 82 = .ok (.ldc2_w 316, 3) := dq daX11_passWords_12_1 21 rfl
theorem dX11_passWords_85 : decode cX11_passWords 85 = .ok (.lastore, 1) := dq daX11_passWords_12_1 22 rfl
theorem dX11_passWords_86 : decode cX11_passWords 86 = .ok (.aload_n 0, 1) := dq daX11_passWords_12_1 23 rfl
theorem dX11_passWords_87 : decode cX11_passWords 87 = .ok (.getfield 36, 3) := dq daX11_passWords_12_1 24 rfl
theorem dX11_passWords_90 : decode cX11_passWords 90 = .ok (.bipush 10, 2) := dq daX11_passWords_12_1 25 rfl
theorem dX11_passWords_92 : decode cX11_passWords 92 = .ok (.iload 4, 2) := dq daX11_passWords_12_1 26 rfl
theorem dX11_passWords_94 : decode cX11_passWords 94 = .ok (.i2l, 1) := dq daX11_passWords_12_1 27 rfl
theorem dX11_passWords_95 : decode cX11_passWords 95 = .ok (.lastore, 1) := dq daX11_passWords_12_1 28 rfl
theorem dX11_passWords_96 : decode cX11_passWords 96 = .ok (.return_, 1) := dq daX11_passWords_12_1 29 rfl
def dtX11_draw_12_0 : List (Nat × Jvm.ClassFile.Instr × Nat) := [(0, .aload_n 0, 1), (1, .getfield 39, 3), (4, .bipush 7, 2), (6, .iaload, 1), (7, .i2l, 1), (8, .ldc2_w 338, 3), (11, .lmul, 1), (12, .ldc2_w 340, 3), (15, .ladd, 1), (16, .ldc2_w 342, 3), (19, .lrem, 1), (20, .lstore_n 1, 1), (21, .aload_n 0, 1), (22, .getfield 39, 3), (25, .bipush 7, 2), (27, .lload_n 1, 1), (28, .l2i, 1), (29, .iastore, 1), (30, .lload_n 1, 1), (31, .ldc2_w 344, 3), (34, .ldiv, 1), (35, .ldc2_w 272, 3), (38, .lrem, 1), (39, .l2i, 1), (40, .ireturn, 1)]
theorem daX11_draw_12_0 : dtX11_draw_12_0.all (dqd cX11_draw) = true := by decide +kernel
theorem dX11_draw_0 : decode cX11_draw 0 = .ok (.aload_n 0, 1) := dq daX11_draw_12_0 0 rfl
theorem dX11_draw_1 : decode cX11_draw 1 = .ok (.getfield 39, 3) := dq daX11_draw_12_0 1 rfl
theorem dX11_draw_4 : decode cX11_draw 4 = .ok (.bipush 7, 2) := dq daX11_draw_12_0 2 rfl
theorem dX11_draw_6 : decode cX11_draw 6 = .ok (.iaload, 1) := dq daX11_draw_12_0 3 rfl
theorem dX11_draw_7 : decode cX11_draw 7 = .ok (.i2l, 1) := dq daX11_draw_12_0 4 rfl
theorem dX11_draw_8 : decode cX11_draw 8 = .ok (.ldc2_w 338, 3) := dq daX11_draw_12_0 5 rfl
theorem dX11_draw_11 : decode cX11_draw 11 = .ok (.lmul, 1) := dq daX11_draw_12_0 6 rfl
theorem dX11_draw_12 : decode cX11_draw 12 = .ok (.ldc2_w 340, 3) := dq daX11_draw_12_0 7 rfl
theorem dX11_draw_15 : decode cX11_draw 15 = .ok (.ladd, 1) := dq daX11_draw_12_0 8 rfl
theorem dX11_draw_16 : decode cX11_draw 16 = .ok (.ldc2_w 342, 3) := dq daX11_draw_12_0 9 rfl
theorem dX11_draw_19 : decode cX11_draw 19 = .ok (.lrem, 1) := dq daX11_draw_12_0 10 rfl
theorem dX11_draw_20 : decode cX11_draw 20 = .ok (.lstore_n 1, 1) := dq daX11_draw_12_0 11 rfl
theorem dX11_draw_21 : decode cX11_draw 21 = .ok (.aload_n 0, 1) := dq daX11_draw_12_0 12 rfl
theorem dX11_draw_22 : decode cX11_draw 22 = .ok (.getfield 39, 3) := dq daX11_draw_12_0 13 rfl
theorem dX11_draw_25 : decode cX11_draw 25 = .ok (.bipush 7, 2) := dq daX11_draw_12_0 14 rfl
theorem dX11_draw_27 : decode cX11_draw 27 = .ok (.lload_n 1, 1) := dq daX11_draw_12_0 15 rfl
theorem dX11_draw_28 : decode cX11_draw 28 = .ok (.l2i, 1) := dq daX11_draw_12_0 16 rfl
theorem dX11_draw_29 : decode cX11_draw 29 = .ok (.iastore, 1) := dq daX11_draw_12_0 17 rfl
theorem dX11_draw_30 : decode cX11_draw 30 = .ok (.lload_n 1, 1) := dq daX11_draw_12_0 18 rfl
theorem dX11_draw_31 : decode cX11_draw 31 = .ok (.ldc2_w 344, 3) := dq daX11_draw_12_0 19 rfl
theorem dX11_draw_34 : decode cX11_draw 34 = .ok (.ldiv, 1) := dq daX11_draw_12_0 20 rfl
theorem dX11_draw_35 : decode cX11_draw 35 = .ok (.ldc2_w 272, 3) := dq daX11_draw_12_0 21 rfl
theorem dX11_draw_38 : decode cX11_draw 38 = .ok (.lrem, 1) := dq daX11_draw_12_0 22 rfl
theorem dX11_draw_39 : decode cX11_draw 39 = .ok (.l2i, 1) := dq daX11_draw_12_0 23 rfl
theorem dX11_draw_40 : decode cX11_draw 40 = .ok (.ireturn, 1) := dq daX11_draw_12_0 24 rfl
def dtX11_goesFor_12_0 : List (Nat × Jvm.ClassFile.Instr × Nat) := [(0, .sipush 168, 3), (3, .bipush 9, 2), (5, .iload_n 1, 1), (6, .imul, 1), (7, .iadd, 1), (8, .istore_n 2, 1), (9, .aload_n 0, 1), (10, .getfield 39, 3), (13, .iload_n 2, 1), (14, .iconst 4, 1), (15, .iadd, 1), (16, .iconst 0, 1), (17, .iastore, 1), (18, .aload_n 0, 1), (19, .getfield 39, 3), (22, .iload_n 2, 1), (23, .iconst 5, 1), (24, .iadd, 1), (25, .bipush 13, 2), (27, .iastore, 1), (28, .aload_n 0, 1), (29, .getfield 39, 3), (32, .iload_n 2, 1), (33, .bipush 6, 2), (35, .iadd, 1), (36, .iconst (-1), 1), (37, .iastore, 1), (38, .aload_n 0, 1), (39, .getfield 39, 3), (42, .iload_n 2, 1), (43, .bipush 7, 2), (45, .iadd, 1)]
theorem daX11_goesFor_12_0 : dtX11_goesFor_12_0.all (dqd cX11_goesFor) = true := by decide +kernel
theorem dX11_goesFor_0 : decode cX11_goesFor 0 = .ok (.sipush 168, 3) := dq daX11_goesFor_12_0 0 rfl
theorem dX11_goesFor_3 : decode cX11_goesFor 3 = .ok (.bipush 9, 2) := dq daX11_goesFor_12_0 1 rfl
theorem dX11_goesFor_5 : decode cX11_goesFor 5 = .ok (.iload_n 1, 1) := dq daX11_goesFor_12_0 2 rfl
theorem dX11_goesFor_6 : decode cX11_goesFor 6 = .ok (.imul, 1) := dq daX11_goesFor_12_0 3 rfl
theorem dX11_goesFor_7 : decode cX11_goesFor 7 = .ok (.iadd, 1) := dq daX11_goesFor_12_0 4 rfl
theorem dX11_goesFor_8 : decode cX11_goesFor 8 = .ok (.istore_n 2, 1) := dq daX11_goesFor_12_0 5 rfl
theorem dX11_goesFor_9 : decode cX11_goesFor 9 = .ok (.aload_n 0, 1) := dq daX11_goesFor_12_0 6 rfl
theorem dX11_goesFor_10 : decode cX11_goesFor 10 = .ok (.getfield 39, 3) := dq daX11_goesFor_12_0 7 rfl
theorem dX11_goesFor_13 : decode cX11_goesFor 13 = .ok (.iload_n 2, 1) := dq daX11_goesFor_12_0 8 rfl
theorem dX11_goesFor_14 : decode cX11_goesFor 14 = .ok (.iconst 4, 1) := dq daX11_goesFor_12_0 9 rfl
theorem dX11_goesFor_15 : decode cX11_goesFor 15 = .ok (.iadd, 1) := dq daX11_goesFor_12_0 10 rfl
theorem dX11_goesFor_16 : decode cX11_goesFor 16 = .ok (.iconst 0, 1) := dq daX11_goesFor_12_0 11 rfl
theorem dX11_goesFor_17 : decode cX11_goesFor 17 = .ok (.iastore, 1) := dq daX11_goesFor_12_0 12 rfl
theorem dX11_goesFor_18 : decode cX11_goesFor 18 = .ok (.aload_n 0, 1) := dq daX11_goesFor_12_0 13 rfl
theorem dX11_goesFor_19 : decode cX11_goesFor 19 = .ok (.getfield 39, 3) := dq daX11_goesFor_12_0 14 rfl
theorem dX11_goesFor_22 : decode cX11_goesFor 22 = .ok (.iload_n 2, 1) := dq daX11_goesFor_12_0 15 rfl
theorem dX11_goesFor_23 : decode cX11_goesFor 23 = .ok (.iconst 5, 1) := dq daX11_goesFor_12_0 16 rfl
theorem dX11_goesFor_24 : decode cX11_goesFor 24 = .ok (.iadd, 1) := dq daX11_goesFor_12_0 17 rfl
theorem dX11_goesFor_25 : decode cX11_goesFor 25 = .ok (.bipush 13, 2) := dq daX11_goesFor_12_0 18 rfl
theorem dX11_goesFor_27 : decode cX11_goesFor 27 = .ok (.iastore, 1) := dq daX11_goesFor_12_0 19 rfl
theorem dX11_goesFor_28 : decode cX11_goesFor 28 = .ok (.aload_n 0, 1) := dq daX11_goesFor_12_0 20 rfl
theorem dX11_goesFor_29 : decode cX11_goesFor 29 = .ok (.getfield 39, 3) := dq daX11_goesFor_12_0 21 rfl
theorem dX11_goesFor_32 : decode cX11_goesFor 32 = .ok (.iload_n 2, 1) := dq daX11_goesFor_12_0 22 rfl
theorem dX11_goesFor_33 : decode cX11_goesFor 33 = .ok (.bipush 6, 2) := dq daX11_goesFor_12_0 23 rfl
theorem dX11_goesFor_35 : decode cX11_goesFor 35 = .ok (.iadd, 1) := dq daX11_goesFor_12_0 24 rfl
theorem dX11_goesFor_36 : decode cX11_goesFor 36 = .ok (.iconst (-1), 1) := dq daX11_goesFor_12_0 25 rfl
theorem dX11_goesFor_37 : decode cX11_goesFor 37 = .ok (.iastore, 1) := dq daX11_goesFor_12_0 26 rfl
theorem dX11_goesFor_38 : decode cX11_goesFor 38 = .ok (.aload_n 0, 1) := dq daX11_goesFor_12_0 27 rfl
theorem dX11_goesFor_39 : decode cX11_goesFor 39 = .ok (.getfield 39, 3) := dq daX11_goesFor_12_0 28 rfl
theorem dX11_goesFor_42 : decode cX11_goesFor 42 = .ok (.iload_n 2, 1) := dq daX11_goesFor_12_0 29 rfl
theorem dX11_goesFor_43 : decode cX11_goesFor 43 = .ok (.bipush 7, 2) := dq daX11_goesFor_12_0 30 rfl
theorem dX11_goesFor_45 : decode cX11_goesFor 45 = .ok (.iadd, 1) := dq daX11_goesFor_12_0 31 rfl
def dtX11_goesFor_12_1 : List (Nat × Jvm.ClassFile.Instr × Nat) := [(46, .iconst 0, 1), (47, .iastore, 1), (48, .aload_n 0, 1), (49, .getfield 39, 3), (52, .iload_n 2, 1), (53, .bipush 8, 2), (55, .iadd, 1), (56, .iconst (-1), 1), (57, .iastore, 1), (58, .return_, 1)]
theorem daX11_goesFor_12_1 : dtX11_goesFor_12_1.all (dqd cX11_goesFor) = true := by decide +kernel
theorem dX11_goesFor_46 : decode cX11_goesFor 46 = .ok (.iconst 0, 1) := dq daX11_goesFor_12_1 0 rfl
theorem dX11_goesFor_47 : decode cX11_goesFor 47 = .ok (.iastore, 1) := dq daX11_goesFor_12_1 1 rfl
theorem dX11_goesFor_48 : decode cX11_goesFor 48 = .ok (.aload_n 0, 1) := dq daX11_goesFor_12_1 2 rfl
theorem dX11_goesFor_49 : decode cX11_goesFor 49 = .ok (.getfield 39, 3) := dq daX11_goesFor_12_1 3 rfl
theorem dX11_goesFor_52 : decode cX11_goesFor 52 = .ok (.iload_n 2, 1) := dq daX11_goesFor_12_1 4 rfl
theorem dX11_goesFor_53 : decode cX11_goesFor 53 = .ok (.bipush 8, 2) := dq daX11_goesFor_12_1 5 rfl
theorem dX11_goesFor_55 : decode cX11_goesFor 55 = .ok (.iadd, 1) := dq daX11_goesFor_12_1 6 rfl
theorem dX11_goesFor_56 : decode cX11_goesFor 56 = .ok (.iconst (-1), 1) := dq daX11_goesFor_12_1 7 rfl
theorem dX11_goesFor_57 : decode cX11_goesFor 57 = .ok (.iastore, 1) := dq daX11_goesFor_12_1 8 rfl
theorem dX11_goesFor_58 : decode cX11_goesFor 58 = .ok (.return_, 1) := dq daX11_goesFor_12_1 9 rfl
set_option maxRecDepth 100000 in
def fX11_seed (saidF : Nat → Int32) (p0 : Int32) : (Nat → Int32) × Int32 := if 0 ≤ p0 then (bnd ((saidF 7)) (fun (x24 : Int32) => bnd ((upd saidF (7 : Int32).toNatClampNeg p0)) (fun (f25 : Nat → Int32) => (f25, x24)))) else ((saidF, (-1)))
set_option maxHeartbeats 4000000 in
set_option maxRecDepth 100000 in
theorem mX11_seed (l : Launch) (dC : Nat → ClassId) (dI : Nat → Nat → Nat) (kA : Nat → ClassId) (sz : Nat) (n0 : Nat) (m_taped : Int32) (m_laws : Int32) (m_next : Int32) (m_wrong : Int32) (m_number : Int32) (m_text : Int32) (m_made : Int32) (m_deep : Int32) (m_lines : Int32) (m_opened : Int32) (m_top : Int32) (m_goNode : Int32) (m_goDrops : Int32) (m_goHour : Int32) (m_goFelt : Int32) (m_goSalt : Int32) (m_goMore : Int32) (m_bestLeft : Int32) (m_bestHour : Int32) (m_bestMany : Int32) (a_tape : Nat) (a_sign : Nat) (a_length : Nat) (a_clause : Nat) (a_clauses : Nat) (a_chain : Nat) (a_open : Nat) (a_stack : Nat) (a_word : Nat) (a_said : Nat) (a_kept : Nat) (a_stepNode : Nat) (a_stepDrops : Nat) (a_stepHour : Nat) (a_stepNext : Nat) (a_stepPass : Nat) (a_bestPass : Nat) (a_far : Nat) (a_waited : Nat) (a_servers : Nat) (a_images : Nat) (a_isMade : Nat) (saidF : Nat → Int32) (zn : Int32) (zp : Int32) (zj : Int32) (zo : Int32) (zf : Int32) (zm : Int32) (zk : Int32) (zw : Int32) (pd : Nat → Int32) (p0 : Int32) (hsc : SC saidF zn zp zj zo zf zm zk zw pd) : Met l yX11_seed wsX11_seed ({ frames := 0, cells := 0, slots := 0, locals := 0 }) (zPc dC dI kA sz [.ref n0, .int p0] [(n0, .inr (11, .ref a_tape :: .int m_taped :: .int m_laws :: .ref a_sign :: .ref a_length :: .ref a_clause :: .ref a_clauses :: .ref a_chain :: .int m_next :: .int m_wrong :: .int m_number :: .int m_text :: .int m_made :: .int m_deep :: .int m_lines :: .ref a_open :: .int m_opened :: .ref a_stack :: .int m_top :: .ref a_word :: .ref a_said :: .ref a_kept :: [.int m_goNode, .int m_goDrops, .int m_goHour, .int m_goFelt, .int m_goSalt, .int m_goMore, .ref a_stepNode, .ref a_stepDrops, .ref a_stepHour, .ref a_stepNext, .ref a_stepPass, .int m_bestLeft, .int m_bestHour, .int m_bestMany, .ref a_bestPass, .ref a_far, .ref a_waited, .ref a_servers, .ref a_images, .ref a_isMade])), (a_said, .inl (kA 0, 360, .inl saidF))]) (va_Qi (fun (r : Int32) (u : (Nat → Int32) × Int32) => r = u.2 ∧ (u.1, u.2) = fX11_seed saidF p0 ∧ SC u.1 zn zp zj zo zf zm zk zw pd) (zB dC dI (va_A [(n0, .inr (11, .ref a_tape :: .int m_taped :: .int m_laws :: .ref a_sign :: .ref a_length :: .ref a_clause :: .ref a_clauses :: .ref a_chain :: .int m_next :: .int m_wrong :: .int m_number :: .int m_text :: .int m_made :: .int m_deep :: .int m_lines :: .ref a_open :: .int m_opened :: .ref a_stack :: .int m_top :: .ref a_word :: .ref a_said :: .ref a_kept :: [.int m_goNode, .int m_goDrops, .int m_goHour, .int m_goFelt, .int m_goSalt, .int m_goMore, .ref a_stepNode, .ref a_stepDrops, .ref a_stepHour, .ref a_stepNext, .ref a_stepPass, .int m_bestLeft, .int m_bestHour, .int m_bestMany, .ref a_bestPass, .ref a_far, .ref a_waited, .ref a_servers, .ref a_images, .ref a_isMade])), (a_said, .inl (kA 0, 360, .inl saidF))] sz) (fun (u : (Nat → Int32) × Int32) => [(n0, .inr (11, .ref a_tape :: .int m_taped :: .int m_laws :: .ref a_sign :: .ref a_length :: .ref a_clause :: .ref a_clauses :: .ref a_chain :: .int m_next :: .int m_wrong :: .int m_number :: .int m_text :: .int m_made :: .int m_deep :: .int m_lines :: .ref a_open :: .int m_opened :: .ref a_stack :: .int m_top :: .ref a_word :: .ref a_said :: .ref a_kept :: [.int m_goNode, .int m_goDrops, .int m_goHour, .int m_goFelt, .int m_goSalt, .int m_goMore, .ref a_stepNode, .ref a_stepDrops, .ref a_stepHour, .ref a_stepNext, .ref a_stepPass, .int m_bestLeft, .int m_bestHour, .int m_bestMany, .ref a_bestPass, .ref a_far, .ref a_waited, .ref a_servers, .ref a_images, .ref a_isMade])), (a_said, .inl (kA 0, 360, .inl u.1))])) (va_A [(n0, .inr (11, .ref a_tape :: .int m_taped :: .int m_laws :: .ref a_sign :: .ref a_length :: .ref a_clause :: .ref a_clauses :: .ref a_chain :: .int m_next :: .int m_wrong :: .int m_number :: .int m_text :: .int m_made :: .int m_deep :: .int m_lines :: .ref a_open :: .int m_opened :: .ref a_stack :: .int m_top :: .ref a_word :: .ref a_said :: .ref a_kept :: [.int m_goNode, .int m_goDrops, .int m_goHour, .int m_goFelt, .int m_goSalt, .int m_goMore, .ref a_stepNode, .ref a_stepDrops, .ref a_stepHour, .ref a_stepNext, .ref a_stepPass, .int m_bestLeft, .int m_bestHour, .int m_bestMany, .ref a_bestPass, .ref a_far, .ref a_waited, .ref a_servers, .ref a_images, .ref a_isMade])), (a_said, .inl (kA 0, 360, .inl saidF))] sz)) 0 0 (va_A [(n0, .inr (11, .ref a_tape :: .int m_taped :: .int m_laws :: .ref a_sign :: .ref a_length :: .ref a_clause :: .ref a_clauses :: .ref a_chain :: .int m_next :: .int m_wrong :: .int m_number :: .int m_text :: .int m_made :: .int m_deep :: .int m_lines :: .ref a_open :: .int m_opened :: .ref a_stack :: .int m_top :: .ref a_word :: .ref a_said :: .ref a_kept :: [.int m_goNode, .int m_goDrops, .int m_goHour, .int m_goFelt, .int m_goSalt, .int m_goMore, .ref a_stepNode, .ref a_stepDrops, .ref a_stepHour, .ref a_stepNext, .ref a_stepPass, .int m_bestLeft, .int m_bestHour, .int m_bestMany, .ref a_bestPass, .ref a_far, .ref a_waited, .ref a_servers, .ref a_images, .ref a_isMade])), (a_said, .inl (kA 0, 360, .inl saidF))] sz) := by
  refine Met.ofW (cc := cX11_seed) (maxL := 3) (ret := (some .int)) pnX11 rfl ?_
  intro p e s m args below meth c s₁ B hml hv
  obtain ⟨rfl, hsz, hP, hK, hD0⟩ := hv
  have hx := B.exec
  have hb := B.bytes
  have hr := B.returns
  have hts := atoms_spec (ws := wsX11_seed) B.pre
  have hown : s.vm.findClass RX11 = some m.cls := findClass_of_methodNamed B.named
  have hlocks := B.notSynchronized
  subst hsz
  have hD := hD0.self (sz := s.heap.size)
  generalize hAe : va_A [(n0, .inr (11, .ref a_tape :: .int m_taped :: .int m_laws :: .ref a_sign :: .ref a_length :: .ref a_clause :: .ref a_clauses :: .ref a_chain :: .int m_next :: .int m_wrong :: .int m_number :: .int m_text :: .int m_made :: .int m_deep :: .int m_lines :: .ref a_open :: .int m_opened :: .ref a_stack :: .int m_top :: .ref a_word :: .ref a_said :: .ref a_kept :: [.int m_goNode, .int m_goDrops, .int m_goHour, .int m_goFelt, .int m_goSalt, .int m_goMore, .ref a_stepNode, .ref a_stepDrops, .ref a_stepHour, .ref a_stepNext, .ref a_stepPass, .int m_bestLeft, .int m_bestHour, .int m_bestMany, .ref a_bestPass, .ref a_far, .ref a_waited, .ref a_servers, .ref a_images, .ref a_isMade])), (a_said, .inl (kA 0, 360, .inl saidF))] s.heap.size = A at hD ⊢
  have hA : ∀ q : Nat, s.heap.size ≤ q → A q := zA_of hAe
  have hS : va_S A s.heap s.heap [] := va_S.rf
  have hP : va_P (dC, dI) vwCl [(n0, .inr (11, .ref a_tape :: .int m_taped :: .int m_laws :: .ref a_sign :: .ref a_length :: .ref a_clause :: .ref a_clauses :: .ref a_chain :: .int m_next :: .int m_wrong :: .int m_number :: .int m_text :: .int m_made :: .int m_deep :: .int m_lines :: .ref a_open :: .int m_opened :: .ref a_stack :: .int m_top :: .ref a_word :: .ref a_said :: .ref a_kept :: [.int m_goNode, .int m_goDrops, .int m_goHour, .int m_goFelt, .int m_goSalt, .int m_goMore, .ref a_stepNode, .ref a_stepDrops, .ref a_stepHour, .ref a_stepNext, .ref a_stepPass, .int m_bestLeft, .int m_bestHour, .int m_bestMany, .ref a_bestPass, .ref a_far, .ref a_waited, .ref a_servers, .ref a_images, .ref a_isMade])), (a_said, .inl (kA 0, 360, .inl saidF))] s.heap := hP
  have hl := lv_entry ([.ref n0, .int p0]) (n := 3) (Nat.le_of_ble_eq_true rfl)
  rw [lg_entry_eq]
  generalize (lg_sl ([.ref n0, .int p0]) ++ List.replicate (3 - (lg_sl ([.ref n0, .int p0])).length) Slot.unset).toArray = ls at hl ⊢
  have hl : lv_has ls 3 [(0, .ref n0), (1, .int p0)] := hl
  obtain ⟨G, hG0⟩ : ∃ G : (Nat → Int32) × Int32, fX11_seed saidF p0 = G := ⟨_, rfl⟩
  have hG := hG0
  unfold fX11_seed at hG
  have hz1 : saidF 0 = zn := hsc.1.1
  have hz2 : saidF 1 = zp := hsc.1.2.1
  have hz3 : saidF 2 = zj := hsc.1.2.2.1
  have hz4 : saidF 3 = zo := hsc.1.2.2.2.1
  have hz5 : saidF 4 = zf := hsc.1.2.2.2.2.1
  have hz6 : saidF 6 = zm := hsc.1.2.2.2.2.2.1
  have hz7 : saidF 8 = zk := hsc.1.2.2.2.2.2.2.1
  have hz8 : saidF 9 = zw := hsc.1.2.2.2.2.2.2.2
  have hz9 : ¬ zn < 0 := hsc.2.1.1
  have hz10 : ¬ 12 < zn := hsc.2.1.2
  have hz11 : ¬ zp < 0 := hsc.2.2.1.1
  have hz12 : ¬ 20 < zp := hsc.2.2.1.2
  have hz13 : ¬ zj < 0 := hsc.2.2.2.1.1
  have hz14 : ¬ 16 < zj := hsc.2.2.2.1.2
  have hz15 : ¬ zo < 0 := hsc.2.2.2.2.1.1
  have hz16 : ¬ 6 < zo := hsc.2.2.2.2.1.2
  have hz17 : ¬ zf < 0 := hsc.2.2.2.2.2.1.1
  have hz18 : ¬ 8 < zf := hsc.2.2.2.2.2.1.2
  have hz19 : ¬ zk < (-1) := hsc.2.2.2.2.2.2.1.1
  have hz20 : ¬ 12 ≤ zk := hsc.2.2.2.2.2.2.1.2
  have hz21 : ¬ zw < 0 := hsc.2.2.2.2.2.2.2.1.1
  have hz22 : ¬ 6 < zw := hsc.2.2.2.2.2.2.2.1.2
  refine lv_iload_n hx hb dX11_seed_0 rfl (lv_at hl 1 rfl) ?_
  refine lv_if_ge (tgt := 6) hx hb dX11_seed_1 (by decide) (fun c_23 => ?_) (fun c_23 => ?_)
  · have hG := zthen hG c_23
    refine lv_aload_n hx hb dX11_seed_6 rfl (lv_at hl 0 rfl) ?_
    refine va_get (D := (dC, dI)) (ci := 11) (v := .ref a_said) (C := RX11) (T := TX11) (N := 42) hx hb hts iX11_seed_X11 hown hK.1 hP 0 gz0 vcz11 20 (by decide) (kX11_seed_1 hts) (fun _ h9 => h9) gz20 dX11_seed_7 ?_
    refine lv_bipush (v := 7) hx hb dX11_seed_10 (by decide) ?_
    refine va_iald hx hb hK.1 hP 1 0 gz1 tzz0 (vpd (by decide)) dX11_seed_12 ?_
    refine zi (saidF 7) rfl ?_
    refine lv_topi (fun x24 ex24 => ?_)
    have hG := zbnd hG ex24
    refine lv_istore_n (lv' := [(2, .int x24), (0, .ref n0), (1, .int p0)]) hx hb dX11_seed_13 rfl hl (by decide) rfl (fun ls hl => ?_)
    refine lv_aload_n hx hb dX11_seed_14 rfl (lv_at hl 1 rfl) ?_
    refine va_get (D := (dC, dI)) (ci := 11) (v := .ref a_said) (C := RX11) (T := TX11) (N := 42) hx hb hts iX11_seed_X11 hown hK.1 hP 0 gz0 vcz11 20 (by decide) (kX11_seed_1 hts) (fun _ h9 => h9) gz20 dX11_seed_15 ?_
    refine lv_bipush (v := 7) hx hb dX11_seed_18 (by decide) ?_
    refine lv_iload_n hx hb dX11_seed_20 rfl (lv_at hl 2 rfl) ?_
    refine va_iast hx hb hK.1 hP hD hS 1 0 gz1 tzz0 (vpd (by decide)) dX11_seed_21 (fun H locs hP hD hS => ?_)
    obtain ⟨hP, hD⟩ := z_re (L := [(n0, .inr (11, .ref a_tape :: .int m_taped :: .int m_laws :: .ref a_sign :: .ref a_length :: .ref a_clause :: .ref a_clauses :: .ref a_chain :: .int m_next :: .int m_wrong :: .int m_number :: .int m_text :: .int m_made :: .int m_deep :: .int m_lines :: .ref a_open :: .int m_opened :: .ref a_stack :: .int m_top :: .ref a_word :: .ref a_said :: .ref a_kept :: [.int m_goNode, .int m_goDrops, .int m_goHour, .int m_goFelt, .int m_goSalt, .int m_goMore, .ref a_stepNode, .ref a_stepDrops, .ref a_stepHour, .ref a_stepNext, .ref a_stepPass, .int m_bestLeft, .int m_bestHour, .int m_bestMany, .ref a_bestPass, .ref a_far, .ref a_waited, .ref a_servers, .ref a_images, .ref a_isMade])), (a_said, .inl (kA 0, 360, .inl (upd saidF (7 : Int32).toNatClampNeg p0)))]) hP hD
    obtain ⟨f25, ef25⟩ : ∃ y : Nat → Int32, y = (upd saidF (7 : Int32).toNatClampNeg p0) := ⟨_, rfl⟩
    rw [← ef25] at hP hD
    have hG := zbnd hG ef25
    have hu26 : f25 7 = p0 := upd_at ef25
    have hk27 : SC f25 zn zp zj zo zf zm zk zw pd := by rw [ef25]; exact SC_7 hsc
    have hz28 : f25 0 = zn := hk27.1.1
    have hz29 : f25 1 = zp := hk27.1.2.1
    have hz30 : f25 2 = zj := hk27.1.2.2.1
    have hz31 : f25 3 = zo := hk27.1.2.2.2.1
    have hz32 : f25 4 = zf := hk27.1.2.2.2.2.1
    have hz33 : f25 6 = zm := hk27.1.2.2.2.2.2.1
    have hz34 : f25 8 = zk := hk27.1.2.2.2.2.2.2.1
    have hz35 : f25 9 = zw := hk27.1.2.2.2.2.2.2.2
    refine lv_iload_n hx hb dX11_seed_22 rfl (lv_at hl 0 rfl) ?_
    obtain ⟨hP9, hD9⟩ := z_sb (L' := [(n0, .inr (11, .ref a_tape :: .int m_taped :: .int m_laws :: .ref a_sign :: .ref a_length :: .ref a_clause :: .ref a_clauses :: .ref a_chain :: .int m_next :: .int m_wrong :: .int m_number :: .int m_text :: .int m_made :: .int m_deep :: .int m_lines :: .ref a_open :: .int m_opened :: .ref a_stack :: .int m_top :: .ref a_word :: .ref a_said :: .ref a_kept :: [.int m_goNode, .int m_goDrops, .int m_goHour, .int m_goFelt, .int m_goSalt, .int m_goMore, .ref a_stepNode, .ref a_stepDrops, .ref a_stepHour, .ref a_stepNext, .ref a_stepPass, .int m_bestLeft, .int m_bestHour, .int m_bestMany, .ref a_bestPass, .ref a_far, .ref a_waited, .ref a_servers, .ref a_images, .ref a_isMade])), (a_said, .inl (kA 0, 360, .inl f25))]) hP hD [0, 1] (by decide) rfl
    refine W.widen (k := 0) (n := 0) (Nat.le_of_ble_eq_true rfl) (Nat.le_of_ble_eq_true rfl) ?_
    exact W.iret (v := x24) hx hb hr (fun t ht hW => ⟨⟨x24, (f25, x24), rfl, ⟨rfl, (hG.trans hG0.symm), hk27⟩, by rw [ht]; exact hP9, hD9⟩, hS.F ht⟩) hS.2.2 dX11_seed_23
  · have hG := zelse hG c_23
    refine lv_iconst (v := (-1)) hx hb dX11_seed_4 (by decide) ?_
    obtain ⟨hP9, hD9⟩ := z_sb (L' := [(n0, .inr (11, .ref a_tape :: .int m_taped :: .int m_laws :: .ref a_sign :: .ref a_length :: .ref a_clause :: .ref a_clauses :: .ref a_chain :: .int m_next :: .int m_wrong :: .int m_number :: .int m_text :: .int m_made :: .int m_deep :: .int m_lines :: .ref a_open :: .int m_opened :: .ref a_stack :: .int m_top :: .ref a_word :: .ref a_said :: .ref a_kept :: [.int m_goNode, .int m_goDrops, .int m_goHour, .int m_goFelt, .int m_goSalt, .int m_goMore, .ref a_stepNode, .ref a_stepDrops, .ref a_stepHour, .ref a_stepNext, .ref a_stepPass, .int m_bestLeft, .int m_bestHour, .int m_bestMany, .ref a_bestPass, .ref a_far, .ref a_waited, .ref a_servers, .ref a_images, .ref a_isMade])), (a_said, .inl (kA 0, 360, .inl saidF))]) hP hD [0, 1] (by decide) rfl
    refine W.widen (k := 0) (n := 0) (Nat.le_of_ble_eq_true rfl) (Nat.le_of_ble_eq_true rfl) ?_
    exact W.iret (v := (-1)) hx hb hr (fun t ht hW => ⟨⟨(-1), (saidF, (-1)), rfl, ⟨rfl, (hG.trans hG0.symm), hsc⟩, by rw [ht]; exact hP9, hD9⟩, hS.F ht⟩) hS.2.2 dX11_seed_5
theorem gl_mX11_fill_0 (saidF : Nat → Int32) (zj : Int32) (p0 : Int32) (r25 : Int32) (h0 : ¬ zj < 0) (h1 : ¬ 16 < zj) (h2 : (¬ (r25 : Int32) = 0 → (¬ p0 < 0 ∧ ¬ zj ≤ p0 ∧ ¬ (saidF ((168 + (9 * p0)) + 5).toNatClampNeg) < 0 ∧ (saidF ((168 + (9 * p0)) + 5).toNatClampNeg) < 12))) (h3 : ¬ r25 = 0) : ¬ p0 < 0 := by grind
theorem gl_mX11_fill_1 (saidF : Nat → Int32) (zj : Int32) (p0 : Int32) (r25 : Int32) (h0 : ¬ zj < 0) (h1 : ¬ 16 < zj) (h2 : (¬ (r25 : Int32) = 0 → (¬ p0 < 0 ∧ ¬ zj ≤ p0 ∧ ¬ (saidF ((168 + (9 * p0)) + 5).toNatClampNeg) < 0 ∧ (saidF ((168 + (9 * p0)) + 5).toNatClampNeg) < 12))) (h3 : ¬ r25 = 0) : ¬ 16 ≤ p0 := by grind
theorem gl_mX11_fill_2 (saidF : Nat → Int32) (zj : Int32) (p0 : Int32) (r25 : Int32) (h0 : ¬ zj < 0) (h1 : ¬ 16 < zj) (h2 : (¬ (r25 : Int32) = 0 → (¬ p0 < 0 ∧ ¬ zj ≤ p0 ∧ ¬ (saidF ((168 + (9 * p0)) + 5).toNatClampNeg) < 0 ∧ (saidF ((168 + (9 * p0)) + 5).toNatClampNeg) < 12))) (h3 : ¬ r25 = 0) (h4 : ¬ (saidF ((168 + (9 * p0)) + 5).toNatClampNeg) < 0) (h5 : ¬ 13 < (saidF ((168 + (9 * p0)) + 5).toNatClampNeg)) : ¬ (saidF ((168 + (9 * p0)) + 5).toNatClampNeg) < (-1) := by grind
theorem gl_mX11_fill_3 (saidF : Nat → Int32) (zj : Int32) (p0 : Int32) (r25 : Int32) (h0 : ¬ zj < 0) (h1 : ¬ 16 < zj) (h2 : (¬ (r25 : Int32) = 0 → (¬ p0 < 0 ∧ ¬ zj ≤ p0 ∧ ¬ (saidF ((168 + (9 * p0)) + 5).toNatClampNeg) < 0 ∧ (saidF ((168 + (9 * p0)) + 5).toNatClampNeg) < 12))) (h3 : ¬ r25 = 0) (h4 : ¬ (saidF ((168 + (9 * p0)) + 5).toNatClampNeg) < 0) (h5 : ¬ 13 < (saidF ((168 + (9 * p0)) + 5).toNatClampNeg)) : ¬ 12 < (saidF ((168 + (9 * p0)) + 5).toNatClampNeg) := by grind
theorem gl_mX11_fill_4 (saidF : Nat → Int32) (zj : Int32) (p0 : Int32) (r25 : Int32) (h0 : ¬ zj < 0) (h1 : ¬ 16 < zj) (h2 : (¬ (r25 : Int32) = 0 → (¬ p0 < 0 ∧ ¬ zj ≤ p0 ∧ ¬ (saidF ((168 + (9 * p0)) + 5).toNatClampNeg) < 0 ∧ (saidF ((168 + (9 * p0)) + 5).toNatClampNeg) < 12))) (h3 : ¬ r25 = 0) (h4 : ¬ (saidF ((168 + (9 * p0)) + 5).toNatClampNeg) < 0) (h5 : ¬ 13 < (saidF ((168 + (9 * p0)) + 5).toNatClampNeg)) : ¬ p0 < 0 := by grind
theorem gl_mX11_fill_5 (saidF : Nat → Int32) (zj : Int32) (p0 : Int32) (r25 : Int32) (h0 : ¬ zj < 0) (h1 : ¬ 16 < zj) (h2 : (¬ (r25 : Int32) = 0 → (¬ p0 < 0 ∧ ¬ zj ≤ p0 ∧ ¬ (saidF ((168 + (9 * p0)) + 5).toNatClampNeg) < 0 ∧ (saidF ((168 + (9 * p0)) + 5).toNatClampNeg) < 12))) (h3 : ¬ r25 = 0) (h4 : ¬ (saidF ((168 + (9 * p0)) + 5).toNatClampNeg) < 0) (h5 : ¬ 13 < (saidF ((168 + (9 * p0)) + 5).toNatClampNeg)) : ¬ 16 ≤ p0 := by grind
theorem gl_mX11_fill_6 (saidF : Nat → Int32) (zj : Int32) (p0 : Int32) (r25 : Int32) (h0 : ¬ zj < 0) (h1 : ¬ 16 < zj) (h2 : (¬ (r25 : Int32) = 0 → (¬ p0 < 0 ∧ ¬ zj ≤ p0 ∧ ¬ (saidF ((168 + (9 * p0)) + 5).toNatClampNeg) < 0 ∧ (saidF ((168 + (9 * p0)) + 5).toNatClampNeg) < 12))) (h3 : ¬ r25 = 0) (h4 : ¬ (saidF ((168 + (9 * p0)) + 5).toNatClampNeg) < 0) (h5 : ¬ 13 < (saidF ((168 + (9 * p0)) + 5).toNatClampNeg)) : (¬ ((168 + (9 * p0)) + 4) < 0 ∧ ¬ 360 ≤ ((168 + (9 * p0)) + 4)) := by grind
theorem gl_mX11_fill_7 (saidF : Nat → Int32) (zj : Int32) (p0 : Int32) (r25 : Int32) (h0 : ¬ zj < 0) (h1 : ¬ 16 < zj) (h2 : (¬ (r25 : Int32) = 0 → (¬ p0 < 0 ∧ ¬ zj ≤ p0 ∧ ¬ (saidF ((168 + (9 * p0)) + 5).toNatClampNeg) < 0 ∧ (saidF ((168 + (9 * p0)) + 5).toNatClampNeg) < 12))) (h3 : ¬ r25 = 0) (h4 : ¬ (saidF ((168 + (9 * p0)) + 5).toNatClampNeg) < 0) (h5 : ¬ 13 < (saidF ((168 + (9 * p0)) + 5).toNatClampNeg)) : (((168 + (9 * p0)) + 4) = 168 + 9 * p0 + 4) := by grind
set_option maxRecDepth 100000 in
def fX11_fill (saidF : Nat → Int32) (zj : Int32) (zm : Int32) (p0 : Int32) (p1 : Int32) : (Nat → Int32) × Int32 := bnd (fX11_stands saidF zj p0) (fun (r25 : Int32) => if r25 = 0 then ((saidF, (-1))) else (if (li p1.toInt64 0 99999) = 0 then ((saidF, (-1))) else (bnd (fX11_monthAt zm (saidF 5)) (fun (r44 : Int32) => bnd (fX11_hasSnow saidF (saidF ((168 + (9 * p0)) + 5).toNatClampNeg) r44) (fun (r51 : Int32) => if r51 = 0 then ((saidF, (-1))) else (bnd ((saidF ((168 + (9 * p0)) + 4).toNatClampNeg)) (fun (x61 : Int32) => bnd ((upd saidF ((168 + (9 * p0)) + 4).toNatClampNeg p1)) (fun (f62 : Nat → Int32) => (f62, x61)))))))))
set_option maxHeartbeats 4000000 in
set_option maxRecDepth 100000 in
theorem mX11_fill (l : Launch) (dC : Nat → ClassId) (dI : Nat → Nat → Nat) (kA : Nat → ClassId) (sz : Nat) (n0 : Nat) (m_taped : Int32) (m_laws : Int32) (m_next : Int32) (m_wrong : Int32) (m_number : Int32) (m_text : Int32) (m_made : Int32) (m_deep : Int32) (m_lines : Int32) (m_opened : Int32) (m_top : Int32) (m_goNode : Int32) (m_goDrops : Int32) (m_goHour : Int32) (m_goFelt : Int32) (m_goSalt : Int32) (m_goMore : Int32) (m_bestLeft : Int32) (m_bestHour : Int32) (m_bestMany : Int32) (a_tape : Nat) (a_sign : Nat) (a_length : Nat) (a_clause : Nat) (a_clauses : Nat) (a_chain : Nat) (a_open : Nat) (a_stack : Nat) (a_word : Nat) (a_said : Nat) (a_kept : Nat) (a_stepNode : Nat) (a_stepDrops : Nat) (a_stepHour : Nat) (a_stepNext : Nat) (a_stepPass : Nat) (a_bestPass : Nat) (a_far : Nat) (a_waited : Nat) (a_servers : Nat) (a_images : Nat) (a_isMade : Nat) (saidF : Nat → Int32) (zn : Int32) (zp : Int32) (zj : Int32) (zo : Int32) (zf : Int32) (zm : Int32) (zk : Int32) (zw : Int32) (pd : Nat → Int32) (p0 : Int32) (p1 : Int32) (hsc : SC saidF zn zp zj zo zf zm zk zw pd) : Met l yX11_fill wsX11_fill ({ frames := 2, cells := 0, slots := 0, locals := 44 }) (zPc dC dI kA sz [.ref n0, .int p0, .int p1] [(n0, .inr (11, .ref a_tape :: .int m_taped :: .int m_laws :: .ref a_sign :: .ref a_length :: .ref a_clause :: .ref a_clauses :: .ref a_chain :: .int m_next :: .int m_wrong :: .int m_number :: .int m_text :: .int m_made :: .int m_deep :: .int m_lines :: .ref a_open :: .int m_opened :: .ref a_stack :: .int m_top :: .ref a_word :: .ref a_said :: .ref a_kept :: [.int m_goNode, .int m_goDrops, .int m_goHour, .int m_goFelt, .int m_goSalt, .int m_goMore, .ref a_stepNode, .ref a_stepDrops, .ref a_stepHour, .ref a_stepNext, .ref a_stepPass, .int m_bestLeft, .int m_bestHour, .int m_bestMany, .ref a_bestPass, .ref a_far, .ref a_waited, .ref a_servers, .ref a_images, .ref a_isMade])), (a_said, .inl (kA 0, 360, .inl saidF))]) (va_Qi (fun (r : Int32) (u : (Nat → Int32) × Int32) => r = u.2 ∧ (u.1, u.2) = fX11_fill saidF zj zm p0 p1 ∧ SC u.1 zn zp zj zo zf zm zk zw pd) (zB dC dI (va_A [(n0, .inr (11, .ref a_tape :: .int m_taped :: .int m_laws :: .ref a_sign :: .ref a_length :: .ref a_clause :: .ref a_clauses :: .ref a_chain :: .int m_next :: .int m_wrong :: .int m_number :: .int m_text :: .int m_made :: .int m_deep :: .int m_lines :: .ref a_open :: .int m_opened :: .ref a_stack :: .int m_top :: .ref a_word :: .ref a_said :: .ref a_kept :: [.int m_goNode, .int m_goDrops, .int m_goHour, .int m_goFelt, .int m_goSalt, .int m_goMore, .ref a_stepNode, .ref a_stepDrops, .ref a_stepHour, .ref a_stepNext, .ref a_stepPass, .int m_bestLeft, .int m_bestHour, .int m_bestMany, .ref a_bestPass, .ref a_far, .ref a_waited, .ref a_servers, .ref a_images, .ref a_isMade])), (a_said, .inl (kA 0, 360, .inl saidF))] sz) (fun (u : (Nat → Int32) × Int32) => [(n0, .inr (11, .ref a_tape :: .int m_taped :: .int m_laws :: .ref a_sign :: .ref a_length :: .ref a_clause :: .ref a_clauses :: .ref a_chain :: .int m_next :: .int m_wrong :: .int m_number :: .int m_text :: .int m_made :: .int m_deep :: .int m_lines :: .ref a_open :: .int m_opened :: .ref a_stack :: .int m_top :: .ref a_word :: .ref a_said :: .ref a_kept :: [.int m_goNode, .int m_goDrops, .int m_goHour, .int m_goFelt, .int m_goSalt, .int m_goMore, .ref a_stepNode, .ref a_stepDrops, .ref a_stepHour, .ref a_stepNext, .ref a_stepPass, .int m_bestLeft, .int m_bestHour, .int m_bestMany, .ref a_bestPass, .ref a_far, .ref a_waited, .ref a_servers, .ref a_images, .ref a_isMade])), (a_said, .inl (kA 0, 360, .inl u.1))])) (va_A [(n0, .inr (11, .ref a_tape :: .int m_taped :: .int m_laws :: .ref a_sign :: .ref a_length :: .ref a_clause :: .ref a_clauses :: .ref a_chain :: .int m_next :: .int m_wrong :: .int m_number :: .int m_text :: .int m_made :: .int m_deep :: .int m_lines :: .ref a_open :: .int m_opened :: .ref a_stack :: .int m_top :: .ref a_word :: .ref a_said :: .ref a_kept :: [.int m_goNode, .int m_goDrops, .int m_goHour, .int m_goFelt, .int m_goSalt, .int m_goMore, .ref a_stepNode, .ref a_stepDrops, .ref a_stepHour, .ref a_stepNext, .ref a_stepPass, .int m_bestLeft, .int m_bestHour, .int m_bestMany, .ref a_bestPass, .ref a_far, .ref a_waited, .ref a_servers, .ref a_images, .ref a_isMade])), (a_said, .inl (kA 0, 360, .inl saidF))] sz)) 0 0 (va_A [(n0, .inr (11, .ref a_tape :: .int m_taped :: .int m_laws :: .ref a_sign :: .ref a_length :: .ref a_clause :: .ref a_clauses :: .ref a_chain :: .int m_next :: .int m_wrong :: .int m_number :: .int m_text :: .int m_made :: .int m_deep :: .int m_lines :: .ref a_open :: .int m_opened :: .ref a_stack :: .int m_top :: .ref a_word :: .ref a_said :: .ref a_kept :: [.int m_goNode, .int m_goDrops, .int m_goHour, .int m_goFelt, .int m_goSalt, .int m_goMore, .ref a_stepNode, .ref a_stepDrops, .ref a_stepHour, .ref a_stepNext, .ref a_stepPass, .int m_bestLeft, .int m_bestHour, .int m_bestMany, .ref a_bestPass, .ref a_far, .ref a_waited, .ref a_servers, .ref a_images, .ref a_isMade])), (a_said, .inl (kA 0, 360, .inl saidF))] sz) := by
  refine Met.ofW (cc := cX11_fill) (maxL := 4) (ret := (some .int)) pnX11 rfl ?_
  intro p e s m args below meth c s₁ B hml hv
  obtain ⟨rfl, hsz, hP, hK, hD0⟩ := hv
  have hx := B.exec
  have hb := B.bytes
  have hr := B.returns
  have hts := atoms_spec (ws := wsX11_fill) B.pre
  have hown : s.vm.findClass RX11 = some m.cls := findClass_of_methodNamed B.named
  have hlocks := B.notSynchronized
  subst hsz
  have hD := hD0.self (sz := s.heap.size)
  generalize hAe : va_A [(n0, .inr (11, .ref a_tape :: .int m_taped :: .int m_laws :: .ref a_sign :: .ref a_length :: .ref a_clause :: .ref a_clauses :: .ref a_chain :: .int m_next :: .int m_wrong :: .int m_number :: .int m_text :: .int m_made :: .int m_deep :: .int m_lines :: .ref a_open :: .int m_opened :: .ref a_stack :: .int m_top :: .ref a_word :: .ref a_said :: .ref a_kept :: [.int m_goNode, .int m_goDrops, .int m_goHour, .int m_goFelt, .int m_goSalt, .int m_goMore, .ref a_stepNode, .ref a_stepDrops, .ref a_stepHour, .ref a_stepNext, .ref a_stepPass, .int m_bestLeft, .int m_bestHour, .int m_bestMany, .ref a_bestPass, .ref a_far, .ref a_waited, .ref a_servers, .ref a_images, .ref a_isMade])), (a_said, .inl (kA 0, 360, .inl saidF))] s.heap.size = A at hD ⊢
  have hA : ∀ q : Nat, s.heap.size ≤ q → A q := zA_of hAe
  have hS : va_S A s.heap s.heap [] := va_S.rf
  have hP : va_P (dC, dI) vwCl [(n0, .inr (11, .ref a_tape :: .int m_taped :: .int m_laws :: .ref a_sign :: .ref a_length :: .ref a_clause :: .ref a_clauses :: .ref a_chain :: .int m_next :: .int m_wrong :: .int m_number :: .int m_text :: .int m_made :: .int m_deep :: .int m_lines :: .ref a_open :: .int m_opened :: .ref a_stack :: .int m_top :: .ref a_word :: .ref a_said :: .ref a_kept :: [.int m_goNode, .int m_goDrops, .int m_goHour, .int m_goFelt, .int m_goSalt, .int m_goMore, .ref a_stepNode, .ref a_stepDrops, .ref a_stepHour, .ref a_stepNext, .ref a_stepPass, .int m_bestLeft, .int m_bestHour, .int m_bestMany, .ref a_bestPass, .ref a_far, .ref a_waited, .ref a_servers, .ref a_images, .ref a_isMade])), (a_said, .inl (kA 0, 360, .inl saidF))] s.heap := hP
  have hl := lv_entry ([.ref n0, .int p0, .int p1]) (n := 4) (Nat.le_of_ble_eq_true rfl)
  rw [lg_entry_eq]
  generalize (lg_sl ([.ref n0, .int p0, .int p1]) ++ List.replicate (4 - (lg_sl ([.ref n0, .int p0, .int p1])).length) Slot.unset).toArray = ls at hl ⊢
  have hl : lv_has ls 4 [(0, .ref n0), (1, .int p0), (2, .int p1)] := hl
  obtain ⟨H, hHe⟩ : ∃ H : Heap, H = s.heap := ⟨_, rfl⟩
  obtain ⟨G, hG0⟩ : ∃ G : (Nat → Int32) × Int32, fX11_fill saidF zj zm p0 p1 = G := ⟨_, rfl⟩
  have hG := hG0
  unfold fX11_fill at hG
  have hz1 : saidF 0 = zn := hsc.1.1
  have hz2 : saidF 1 = zp := hsc.1.2.1
  have hz3 : saidF 2 = zj := hsc.1.2.2.1
  have hz4 : saidF 3 = zo := hsc.1.2.2.2.1
  have hz5 : saidF 4 = zf := hsc.1.2.2.2.2.1
  have hz6 : saidF 6 = zm := hsc.1.2.2.2.2.2.1
  have hz7 : saidF 8 = zk := hsc.1.2.2.2.2.2.2.1
  have hz8 : saidF 9 = zw := hsc.1.2.2.2.2.2.2.2
  have hz9 : ¬ zn < 0 := hsc.2.1.1
  have hz10 : ¬ 12 < zn := hsc.2.1.2
  have hz11 : ¬ zp < 0 := hsc.2.2.1.1
  have hz12 : ¬ 20 < zp := hsc.2.2.1.2
  have hz13 : ¬ zj < 0 := hsc.2.2.2.1.1
  have hz14 : ¬ 16 < zj := hsc.2.2.2.1.2
  have hz15 : ¬ zo < 0 := hsc.2.2.2.2.1.1
  have hz16 : ¬ 6 < zo := hsc.2.2.2.2.1.2
  have hz17 : ¬ zf < 0 := hsc.2.2.2.2.2.1.1
  have hz18 : ¬ 8 < zf := hsc.2.2.2.2.2.1.2
  have hz19 : ¬ zk < (-1) := hsc.2.2.2.2.2.2.1.1
  have hz20 : ¬ 12 ≤ zk := hsc.2.2.2.2.2.2.1.2
  have hz21 : ¬ zw < 0 := hsc.2.2.2.2.2.2.2.1.1
  have hz22 : ¬ 6 < zw := hsc.2.2.2.2.2.2.2.1.2
  refine lv_aload_n hx hb dX11_fill_0 rfl (lv_at hl 0 rfl) ?_
  refine lv_iload_n hx hb dX11_fill_1 rfl (lv_at hl 1 rfl) ?_
  refine z_i (wr := []) (va_runV (As := [.int p0]) (rest := []) ⟨hx, hb, hml, hown, hts⟩ (mX11_stands l dC dI kA _ n0 m_taped m_laws m_next m_wrong m_number m_text m_made m_deep m_lines m_opened m_top m_goNode m_goDrops m_goHour m_goFelt m_goSalt m_goMore m_bestLeft m_bestHour m_bestMany a_tape a_sign a_length a_clause a_clauses a_chain a_open a_stack a_word a_said a_kept a_stepNode a_stepDrops a_stepHour a_stepNext a_stepPass a_bestPass a_far a_waited a_servers a_images a_isMade saidF zn zp zj zo zf zm zk zw pd p0 hsc) (cwV 1 hts gX11_fill_X11_stands rfl rfl rfl ⟨rfl, hdX11_stands⟩ ⟨(Nat.le_of_ble_eq_true rfl), (Nat.le_of_ble_eq_true rfl)⟩) ⟨zPc.blind, va_recv (q := (RX11, TX11, 42)) hK.1 hP (ci := 11) (q0 := 0) rfl rfl, zPre hK (hP.sub [0, 1] rfl) (hD.sub [0, 1] (by decide) rfl)⟩ rfl rfl hl.1 rfl (lv_room (Nat.le_of_ble_eq_true rfl)) dX11_fill_2 ⟨(Nat.le_of_ble_eq_true rfl), (Nat.le_of_ble_eq_true rfl)⟩) hP hD hS hA [0, 1] [] rfl rfl (by decide) (by decide) (fun r25 u23 H locs hw24 hP hD hS => ?_)
  obtain ⟨er30, hp27, hp28, hp29⟩ := hw24
  have er30 : r25 = u23 := er30
  subst er30
  have er25 : r25 = fX11_stands saidF zj p0 := hp27
  have hG := zbnd hG er25
  obtain ⟨hP, hD⟩ := z_re (L := [(n0, .inr (11, .ref a_tape :: .int m_taped :: .int m_laws :: .ref a_sign :: .ref a_length :: .ref a_clause :: .ref a_clauses :: .ref a_chain :: .int m_next :: .int m_wrong :: .int m_number :: .int m_text :: .int m_made :: .int m_deep :: .int m_lines :: .ref a_open :: .int m_opened :: .ref a_stack :: .int m_top :: .ref a_word :: .ref a_said :: .ref a_kept :: [.int m_goNode, .int m_goDrops, .int m_goHour, .int m_goFelt, .int m_goSalt, .int m_goMore, .ref a_stepNode, .ref a_stepDrops, .ref a_stepHour, .ref a_stepNext, .ref a_stepPass, .int m_bestLeft, .int m_bestHour, .int m_bestMany, .ref a_bestPass, .ref a_far, .ref a_waited, .ref a_servers, .ref a_images, .ref a_isMade])), (a_said, .inl (kA 0, 360, .inl saidF))]) hP hD
  refine lv_if_eq (tgt := 43) hx hb dX11_fill_5 (by decide) (fun c_32 => ?_) (fun c_32 => ?_)
  · have hG := zthen hG c_32
    refine lv_iconst (v := (-1)) hx hb dX11_fill_43 (by decide) ?_
    obtain ⟨hP9, hD9⟩ := z_sb (L' := [(n0, .inr (11, .ref a_tape :: .int m_taped :: .int m_laws :: .ref a_sign :: .ref a_length :: .ref a_clause :: .ref a_clauses :: .ref a_chain :: .int m_next :: .int m_wrong :: .int m_number :: .int m_text :: .int m_made :: .int m_deep :: .int m_lines :: .ref a_open :: .int m_opened :: .ref a_stack :: .int m_top :: .ref a_word :: .ref a_said :: .ref a_kept :: [.int m_goNode, .int m_goDrops, .int m_goHour, .int m_goFelt, .int m_goSalt, .int m_goMore, .ref a_stepNode, .ref a_stepDrops, .ref a_stepHour, .ref a_stepNext, .ref a_stepPass, .int m_bestLeft, .int m_bestHour, .int m_bestMany, .ref a_bestPass, .ref a_far, .ref a_waited, .ref a_servers, .ref a_images, .ref a_isMade])), (a_said, .inl (kA 0, 360, .inl saidF))]) hP hD [0, 1] (by decide) rfl
    refine W.widen (k := 0) (n := 0) (Nat.le_of_ble_eq_true rfl) (Nat.le_of_ble_eq_true rfl) ?_
    exact W.iret (v := (-1)) hx hb hr (fun t ht hW => ⟨⟨(-1), (saidF, (-1)), rfl, ⟨rfl, (hG.trans hG0.symm), hsc⟩, by rw [ht]; exact hP9, hD9⟩, hS.F ht⟩) hS.2.2 dX11_fill_44
  · have hG := zelse hG c_32
    refine lv_iload_n hx hb dX11_fill_8 rfl (lv_at hl 2 rfl) ?_
    refine lv_i2l hx hb dX11_fill_9 rfl ?_
    refine lv_lconst (v := 0) hx hb dX11_fill_10 (by decide) ?_
    refine lv_ldc2 hx hb hown (kX11_fill_1 hts) dX11_fill_11 ?_
    refine z_i (wr := [(n0, .inr (11, .ref a_tape :: .int m_taped :: .int m_laws :: .ref a_sign :: .ref a_length :: .ref a_clause :: .ref a_clauses :: .ref a_chain :: .int m_next :: .int m_wrong :: .int m_number :: .int m_text :: .int m_made :: .int m_deep :: .int m_lines :: .ref a_open :: .int m_opened :: .ref a_stack :: .int m_top :: .ref a_word :: .ref a_said :: .ref a_kept :: [.int m_goNode, .int m_goDrops, .int m_goHour, .int m_goFelt, .int m_goSalt, .int m_goMore, .ref a_stepNode, .ref a_stepDrops, .ref a_stepHour, .ref a_stepNext, .ref a_stepPass, .int m_bestLeft, .int m_bestHour, .int m_bestMany, .ref a_bestPass, .ref a_far, .ref a_waited, .ref a_servers, .ref a_images, .ref a_isMade])), (a_said, .inl (kA 0, 360, .inl saidF))]) (va_runS (As := [.long p1.toInt64, .long 0, .long 99999]) (rest := []) ⟨hx, hb, hml, hown, hts⟩ (mX11_in l dC dI kA _ p1.toInt64 0 99999) (va_cwS 3 hts gX11_fill_X11_in rfl rfl rfl hdX11_in ⟨(Nat.le_of_ble_eq_true rfl), (Nat.le_of_ble_eq_true rfl)⟩) ⟨zPc.blind, zPre hK (hP.sub [] rfl) (hD.sub [] (by decide) rfl)⟩ rfl rfl hl.1 rfl (lv_room (Nat.le_of_ble_eq_true rfl)) dX11_fill_14 ⟨(Nat.le_of_ble_eq_true rfl), (Nat.le_of_ble_eq_true rfl)⟩) hP hD hS hA [] [0, 1] rfl rfl (by decide) (by decide) (fun r35 u33 H locs hw34 hP hD hS => ?_)
    obtain rfl := hw34
    obtain ⟨hP, hD⟩ := z_re (L := [(n0, .inr (11, .ref a_tape :: .int m_taped :: .int m_laws :: .ref a_sign :: .ref a_length :: .ref a_clause :: .ref a_clauses :: .ref a_chain :: .int m_next :: .int m_wrong :: .int m_number :: .int m_text :: .int m_made :: .int m_deep :: .int m_lines :: .ref a_open :: .int m_opened :: .ref a_stack :: .int m_top :: .ref a_word :: .ref a_said :: .ref a_kept :: [.int m_goNode, .int m_goDrops, .int m_goHour, .int m_goFelt, .int m_goSalt, .int m_goMore, .ref a_stepNode, .ref a_stepDrops, .ref a_stepHour, .ref a_stepNext, .ref a_stepPass, .int m_bestLeft, .int m_bestHour, .int m_bestMany, .ref a_bestPass, .ref a_far, .ref a_waited, .ref a_servers, .ref a_images, .ref a_isMade])), (a_said, .inl (kA 0, 360, .inl saidF))]) hP hD
    refine lv_if_eq (tgt := 43) hx hb dX11_fill_17 (by decide) (fun c_36 => ?_) (fun c_36 => ?_)
    · have hG := zthen hG c_36
      refine lv_iconst (v := (-1)) hx hb dX11_fill_43 (by decide) ?_
      obtain ⟨hP9, hD9⟩ := z_sb (L' := [(n0, .inr (11, .ref a_tape :: .int m_taped :: .int m_laws :: .ref a_sign :: .ref a_length :: .ref a_clause :: .ref a_clauses :: .ref a_chain :: .int m_next :: .int m_wrong :: .int m_number :: .int m_text :: .int m_made :: .int m_deep :: .int m_lines :: .ref a_open :: .int m_opened :: .ref a_stack :: .int m_top :: .ref a_word :: .ref a_said :: .ref a_kept :: [.int m_goNode, .int m_goDrops, .int m_goHour, .int m_goFelt, .int m_goSalt, .int m_goMore, .ref a_stepNode, .ref a_stepDrops, .ref a_stepHour, .ref a_stepNext, .ref a_stepPass, .int m_bestLeft, .int m_bestHour, .int m_bestMany, .ref a_bestPass, .ref a_far, .ref a_waited, .ref a_servers, .ref a_images, .ref a_isMade])), (a_said, .inl (kA 0, 360, .inl saidF))]) hP hD [0, 1] (by decide) rfl
      refine W.widen (k := 0) (n := 0) (Nat.le_of_ble_eq_true rfl) (Nat.le_of_ble_eq_true rfl) ?_
      exact W.iret (v := (-1)) hx hb hr (fun t ht hW => ⟨⟨(-1), (saidF, (-1)), rfl, ⟨rfl, (hG.trans hG0.symm), hsc⟩, by rw [ht]; exact hP9, hD9⟩, hS.F ht⟩) hS.2.2 dX11_fill_44
    · have hG := zelse hG c_36
      have c_36a := li_ne (lo := 0) (hi := 99999) (by decide) (by decide) c_36
      have c_36b := c_36a.2
      have c_36a := c_36a.1
      refine lv_aload_n hx hb dX11_fill_20 rfl (lv_at hl 0 rfl) ?_
      refine lv_aload_n hx hb dX11_fill_21 rfl (lv_at hl 0 rfl) ?_
      refine lv_iload_n hx hb dX11_fill_22 rfl (lv_at hl 1 rfl) ?_
      refine lv_iconst (v := 5) hx hb dX11_fill_23 (by decide) ?_
      refine z_i (wr := []) (va_runV (As := [.int p0, .int 5]) (rest := [.ref n0]) ⟨hx, hb, hml, hown, hts⟩ (mX11_jarOf_5 l dC dI kA _ n0 m_taped m_laws m_next m_wrong m_number m_text m_made m_deep m_lines m_opened m_top m_goNode m_goDrops m_goHour m_goFelt m_goSalt m_goMore m_bestLeft m_bestHour m_bestMany a_tape a_sign a_length a_clause a_clauses a_chain a_open a_stack a_word a_said a_kept a_stepNode a_stepDrops a_stepHour a_stepNext a_stepPass a_bestPass a_far a_waited a_servers a_images a_isMade saidF zn zp zj zo zf zm zk zw pd p0 hsc (gl_mX11_fill_0 saidF zj p0 r25 hz13 hz14 hp28 c_32) (gl_mX11_fill_1 saidF zj p0 r25 hz13 hz14 hp28 c_32)) (cwV 2 hts gX11_fill_X11_jarOf rfl rfl rfl ⟨rfl, hdX11_jarOf⟩ ⟨(Nat.le_of_ble_eq_true rfl), (Nat.le_of_ble_eq_true rfl)⟩) ⟨zPc.blind, va_recv (q := (RX11, TX11, 42)) hK.1 hP (ci := 11) (q0 := 0) rfl rfl, zPre hK (hP.sub [0, 1] rfl) (hD.sub [0, 1] (by decide) rfl)⟩ rfl rfl hl.1 rfl (lv_room (Nat.le_of_ble_eq_true rfl)) dX11_fill_24 ⟨(Nat.le_of_ble_eq_true rfl), (Nat.le_of_ble_eq_true rfl)⟩) hP hD hS hA [0, 1] [] rfl rfl (by decide) (by decide) (fun r39 u37 H locs hw38 hP hD hS => ?_)
      obtain ⟨rfl, hp40, hp41⟩ := hw38
      obtain ⟨hP, hD⟩ := z_re (L := [(n0, .inr (11, .ref a_tape :: .int m_taped :: .int m_laws :: .ref a_sign :: .ref a_length :: .ref a_clause :: .ref a_clauses :: .ref a_chain :: .int m_next :: .int m_wrong :: .int m_number :: .int m_text :: .int m_made :: .int m_deep :: .int m_lines :: .ref a_open :: .int m_opened :: .ref a_stack :: .int m_top :: .ref a_word :: .ref a_said :: .ref a_kept :: [.int m_goNode, .int m_goDrops, .int m_goHour, .int m_goFelt, .int m_goSalt, .int m_goMore, .ref a_stepNode, .ref a_stepDrops, .ref a_stepHour, .ref a_stepNext, .ref a_stepPass, .int m_bestLeft, .int m_bestHour, .int m_bestMany, .ref a_bestPass, .ref a_far, .ref a_waited, .ref a_servers, .ref a_images, .ref a_isMade])), (a_said, .inl (kA 0, 360, .inl saidF))]) hP hD
      refine lv_aload_n hx hb dX11_fill_27 rfl (lv_at hl 0 rfl) ?_
      refine lv_aload_n hx hb dX11_fill_28 rfl (lv_at hl 0 rfl) ?_
      refine va_get (D := (dC, dI)) (ci := 11) (v := .ref a_said) (C := RX11) (T := TX11) (N := 42) hx hb hts iX11_fill_X11 hown hK.1 hP 0 gz0 vcz11 20 (by decide) (kX11_fill_2 hts) (fun _ h9 => h9) gz20 dX11_fill_29 ?_
      refine lv_iconst (v := 5) hx hb dX11_fill_32 (by decide) ?_
      refine va_iald hx hb hK.1 hP 1 0 gz1 tzz0 (vpd (by decide)) dX11_fill_33 ?_
      refine zi (saidF 5) rfl ?_
      refine z_i (wr := []) (va_runV (As := [.int (saidF 5)]) (rest := [.int (saidF ((168 + (9 * p0)) + 5).toNatClampNeg), .ref n0]) ⟨hx, hb, hml, hown, hts⟩ (mX11_monthAt l dC dI kA _ n0 m_taped m_laws m_next m_wrong m_number m_text m_made m_deep m_lines m_opened m_top m_goNode m_goDrops m_goHour m_goFelt m_goSalt m_goMore m_bestLeft m_bestHour m_bestMany a_tape a_sign a_length a_clause a_clauses a_chain a_open a_stack a_word a_said a_kept a_stepNode a_stepDrops a_stepHour a_stepNext a_stepPass a_bestPass a_far a_waited a_servers a_images a_isMade saidF zn zp zj zo zf zm zk zw pd (saidF 5) hsc) (cwV 1 hts gX11_fill_X11_monthAt rfl rfl rfl ⟨rfl, hdX11_monthAt⟩ ⟨(Nat.le_of_ble_eq_true rfl), (Nat.le_of_ble_eq_true rfl)⟩) ⟨zPc.blind, va_recv (q := (RX11, TX11, 42)) hK.1 hP (ci := 11) (q0 := 0) rfl rfl, zPre hK (hP.sub [0, 1] rfl) (hD.sub [0, 1] (by decide) rfl)⟩ rfl rfl hl.1 rfl (lv_room (Nat.le_of_ble_eq_true rfl)) dX11_fill_34 ⟨(Nat.le_of_ble_eq_true rfl), (Nat.le_of_ble_eq_true rfl)⟩) hP hD hS hA [0, 1] [] rfl rfl (by decide) (by decide) (fun r44 u42 H locs hw43 hP hD hS => ?_)
      obtain ⟨er47, hp46⟩ := hw43
      have er47 : r44 = u42 := er47
      subst er47
      have er44 : r44 = fX11_monthAt zm (saidF 5) := hp46
      have hG := zbnd hG er44
      obtain ⟨hP, hD⟩ := z_re (L := [(n0, .inr (11, .ref a_tape :: .int m_taped :: .int m_laws :: .ref a_sign :: .ref a_length :: .ref a_clause :: .ref a_clauses :: .ref a_chain :: .int m_next :: .int m_wrong :: .int m_number :: .int m_text :: .int m_made :: .int m_deep :: .int m_lines :: .ref a_open :: .int m_opened :: .ref a_stack :: .int m_top :: .ref a_word :: .ref a_said :: .ref a_kept :: [.int m_goNode, .int m_goDrops, .int m_goHour, .int m_goFelt, .int m_goSalt, .int m_goMore, .ref a_stepNode, .ref a_stepDrops, .ref a_stepHour, .ref a_stepNext, .ref a_stepPass, .int m_bestLeft, .int m_bestHour, .int m_bestMany, .ref a_bestPass, .ref a_far, .ref a_waited, .ref a_servers, .ref a_images, .ref a_isMade])), (a_said, .inl (kA 0, 360, .inl saidF))]) hP hD
      refine z_i (wr := []) (va_runV (As := [.int (saidF ((168 + (9 * p0)) + 5).toNatClampNeg), .int r44]) (rest := []) ⟨hx, hb, hml, hown, hts⟩ (mX11_hasSnow l dC dI kA _ n0 m_taped m_laws m_next m_wrong m_number m_text m_made m_deep m_lines m_opened m_top m_goNode m_goDrops m_goHour m_goFelt m_goSalt m_goMore m_bestLeft m_bestHour m_bestMany a_tape a_sign a_length a_clause a_clauses a_chain a_open a_stack a_word a_said a_kept a_stepNode a_stepDrops a_stepHour a_stepNext a_stepPass a_bestPass a_far a_waited a_servers a_images a_isMade saidF (saidF ((168 + (9 * p0)) + 5).toNatClampNeg) r44 (gl_mX11_fill_2 saidF zj p0 r25 hz13 hz14 hp28 c_32 hp40 hp41) (gl_mX11_fill_3 saidF zj p0 r25 hz13 hz14 hp28 c_32 hp40 hp41)) (cwV 2 hts gX11_fill_X11_hasSnow rfl rfl rfl ⟨rfl, hdX11_hasSnow⟩ ⟨(Nat.le_of_ble_eq_true rfl), (Nat.le_of_ble_eq_true rfl)⟩) ⟨zPc.blind, va_recv (q := (RX11, TX11, 42)) hK.1 hP (ci := 11) (q0 := 0) rfl rfl, zPre hK (hP.sub [0, 1] rfl) (hD.sub [0, 1] (by decide) rfl)⟩ rfl rfl hl.1 rfl (lv_room (Nat.le_of_ble_eq_true rfl)) dX11_fill_37 ⟨(Nat.le_of_ble_eq_true rfl), (Nat.le_of_ble_eq_true rfl)⟩) hP hD hS hA [0, 1] [] rfl rfl (by decide) (by decide) (fun r51 u49 H locs hw50 hP hD hS => ?_)
      obtain ⟨er55, hp53, hp54⟩ := hw50
      have er55 : r51 = u49 := er55
      subst er55
      have er51 : r51 = fX11_hasSnow saidF (saidF ((168 + (9 * p0)) + 5).toNatClampNeg) r44 := hp53
      have hG := zbnd hG er51
      obtain ⟨hP, hD⟩ := z_re (L := [(n0, .inr (11, .ref a_tape :: .int m_taped :: .int m_laws :: .ref a_sign :: .ref a_length :: .ref a_clause :: .ref a_clauses :: .ref a_chain :: .int m_next :: .int m_wrong :: .int m_number :: .int m_text :: .int m_made :: .int m_deep :: .int m_lines :: .ref a_open :: .int m_opened :: .ref a_stack :: .int m_top :: .ref a_word :: .ref a_said :: .ref a_kept :: [.int m_goNode, .int m_goDrops, .int m_goHour, .int m_goFelt, .int m_goSalt, .int m_goMore, .ref a_stepNode, .ref a_stepDrops, .ref a_stepHour, .ref a_stepNext, .ref a_stepPass, .int m_bestLeft, .int m_bestHour, .int m_bestMany, .ref a_bestPass, .ref a_far, .ref a_waited, .ref a_servers, .ref a_images, .ref a_isMade])), (a_said, .inl (kA 0, 360, .inl saidF))]) hP hD
      refine lv_if_ne (tgt := 45) hx hb dX11_fill_40 (by decide) (fun c_57 => ?_) (fun c_57 => ?_)
      · have hG := zelse hG c_57
        refine lv_aload_n hx hb dX11_fill_45 rfl (lv_at hl 0 rfl) ?_
        refine lv_iload_n hx hb dX11_fill_46 rfl (lv_at hl 1 rfl) ?_
        refine lv_iconst (v := 4) hx hb dX11_fill_47 (by decide) ?_
        refine z_i (wr := []) (va_runV (As := [.int p0, .int 4]) (rest := []) ⟨hx, hb, hml, hown, hts⟩ (mX11_jarOf l dC dI kA _ n0 m_taped m_laws m_next m_wrong m_number m_text m_made m_deep m_lines m_opened m_top m_goNode m_goDrops m_goHour m_goFelt m_goSalt m_goMore m_bestLeft m_bestHour m_bestMany a_tape a_sign a_length a_clause a_clauses a_chain a_open a_stack a_word a_said a_kept a_stepNode a_stepDrops a_stepHour a_stepNext a_stepPass a_bestPass a_far a_waited a_servers a_images a_isMade saidF p0 4 (gl_mX11_fill_4 saidF zj p0 r25 hz13 hz14 hp28 c_32 hp40 hp41) (gl_mX11_fill_5 saidF zj p0 r25 hz13 hz14 hp28 c_32 hp40 hp41) (by decide) (by decide)) (cwV 2 hts gX11_fill_X11_jarOf rfl rfl rfl ⟨rfl, hdX11_jarOf⟩ ⟨(Nat.le_of_ble_eq_true rfl), (Nat.le_of_ble_eq_true rfl)⟩) ⟨zPc.blind, va_recv (q := (RX11, TX11, 42)) hK.1 hP (ci := 11) (q0 := 0) rfl rfl, zPre hK (hP.sub [0, 1] rfl) (hD.sub [0, 1] (by decide) rfl)⟩ rfl rfl hl.1 rfl (lv_room (Nat.le_of_ble_eq_true rfl)) dX11_fill_48 ⟨(Nat.le_of_ble_eq_true rfl), (Nat.le_of_ble_eq_true rfl)⟩) hP hD hS hA [0, 1] [] rfl rfl (by decide) (by decide) (fun r60 u58 H locs hw59 hP hD hS => ?_)
        obtain rfl := hw59
        obtain ⟨hP, hD⟩ := z_re (L := [(n0, .inr (11, .ref a_tape :: .int m_taped :: .int m_laws :: .ref a_sign :: .ref a_length :: .ref a_clause :: .ref a_clauses :: .ref a_chain :: .int m_next :: .int m_wrong :: .int m_number :: .int m_text :: .int m_made :: .int m_deep :: .int m_lines :: .ref a_open :: .int m_opened :: .ref a_stack :: .int m_top :: .ref a_word :: .ref a_said :: .ref a_kept :: [.int m_goNode, .int m_goDrops, .int m_goHour, .int m_goFelt, .int m_goSalt, .int m_goMore, .ref a_stepNode, .ref a_stepDrops, .ref a_stepHour, .ref a_stepNext, .ref a_stepPass, .int m_bestLeft, .int m_bestHour, .int m_bestMany, .ref a_bestPass, .ref a_far, .ref a_waited, .ref a_servers, .ref a_images, .ref a_isMade])), (a_said, .inl (kA 0, 360, .inl saidF))]) hP hD
        refine lv_topi (fun x61 ex61 => ?_)
        have hG := zbnd hG ex61
        refine lv_istore_n (lv' := [(3, .int x61), (0, .ref n0), (1, .int p0), (2, .int p1)]) hx hb dX11_fill_51 rfl hl (by decide) rfl (fun ls hl => ?_)
        refine lv_aload_n hx hb dX11_fill_52 rfl (lv_at hl 1 rfl) ?_
        refine va_get (D := (dC, dI)) (ci := 11) (v := .ref a_said) (C := RX11) (T := TX11) (N := 42) hx hb hts iX11_fill_X11 hown hK.1 hP 0 gz0 vcz11 20 (by decide) (kX11_fill_2 hts) (fun _ h9 => h9) gz20 dX11_fill_53 ?_
        refine lv_sipush (v := 168) hx hb dX11_fill_56 (by decide) ?_
        refine lv_bipush (v := 9) hx hb dX11_fill_59 (by decide) ?_
        refine lv_iload_n hx hb dX11_fill_61 rfl (lv_at hl 2 rfl) ?_
        refine lv_imul hx hb dX11_fill_62 ?_
        refine lv_iadd hx hb dX11_fill_63 ?_
        refine lv_iconst (v := 4) hx hb dX11_fill_64 (by decide) ?_
        refine lv_iadd hx hb dX11_fill_65 ?_
        refine lv_iload_n hx hb dX11_fill_66 rfl (lv_at hl 3 rfl) ?_
        refine va_iast hx hb hK.1 hP hD hS 1 0 gz1 tzz0 (vp_g (N := 360) (by decide) (gl_mX11_fill_6 saidF zj p0 r25 hz13 hz14 hp28 c_32 hp40 hp41)) dX11_fill_67 (fun H locs hP hD hS => ?_)
        obtain ⟨hP, hD⟩ := z_re (L := [(n0, .inr (11, .ref a_tape :: .int m_taped :: .int m_laws :: .ref a_sign :: .ref a_length :: .ref a_clause :: .ref a_clauses :: .ref a_chain :: .int m_next :: .int m_wrong :: .int m_number :: .int m_text :: .int m_made :: .int m_deep :: .int m_lines :: .ref a_open :: .int m_opened :: .ref a_stack :: .int m_top :: .ref a_word :: .ref a_said :: .ref a_kept :: [.int m_goNode, .int m_goDrops, .int m_goHour, .int m_goFelt, .int m_goSalt, .int m_goMore, .ref a_stepNode, .ref a_stepDrops, .ref a_stepHour, .ref a_stepNext, .ref a_stepPass, .int m_bestLeft, .int m_bestHour, .int m_bestMany, .ref a_bestPass, .ref a_far, .ref a_waited, .ref a_servers, .ref a_images, .ref a_isMade])), (a_said, .inl (kA 0, 360, .inl (upd saidF ((168 + (9 * p0)) + 4).toNatClampNeg p1)))]) hP hD
        obtain ⟨f62, ef62⟩ : ∃ y : Nat → Int32, y = (upd saidF ((168 + (9 * p0)) + 4).toNatClampNeg p1) := ⟨_, rfl⟩
        rw [← ef62] at hP hD
        have hG := zbnd hG ef62
        have hu63 := upd_at ef62
        have hk64 : SC f62 zn zp zj zo zf zm zk zw pd := by rw [ef62]; exact SC_jf (k := 4) hsc (gl_mX11_fill_4 saidF zj p0 r25 hz13 hz14 hp28 c_32 hp40 hp41) (gl_mX11_fill_5 saidF zj p0 r25 hz13 hz14 hp28 c_32 hp40 hp41) (gl_mX11_fill_7 saidF zj p0 r25 hz13 hz14 hp28 c_32 hp40 hp41) (by decide)
        have hz65 : f62 0 = zn := hk64.1.1
        have hz66 : f62 1 = zp := hk64.1.2.1
        have hz67 : f62 2 = zj := hk64.1.2.2.1
        have hz68 : f62 3 = zo := hk64.1.2.2.2.1
        have hz69 : f62 4 = zf := hk64.1.2.2.2.2.1
        have hz70 : f62 6 = zm := hk64.1.2.2.2.2.2.1
        have hz71 : f62 8 = zk := hk64.1.2.2.2.2.2.2.1
        have hz72 : f62 9 = zw := hk64.1.2.2.2.2.2.2.2
        refine lv_iload_n hx hb dX11_fill_68 rfl (lv_at hl 0 rfl) ?_
        obtain ⟨hP9, hD9⟩ := z_sb (L' := [(n0, .inr (11, .ref a_tape :: .int m_taped :: .int m_laws :: .ref a_sign :: .ref a_length :: .ref a_clause :: .ref a_clauses :: .ref a_chain :: .int m_next :: .int m_wrong :: .int m_number :: .int m_text :: .int m_made :: .int m_deep :: .int m_lines :: .ref a_open :: .int m_opened :: .ref a_stack :: .int m_top :: .ref a_word :: .ref a_said :: .ref a_kept :: [.int m_goNode, .int m_goDrops, .int m_goHour, .int m_goFelt, .int m_goSalt, .int m_goMore, .ref a_stepNode, .ref a_stepDrops, .ref a_stepHour, .ref a_stepNext, .ref a_stepPass, .int m_bestLeft, .int m_bestHour, .int m_bestMany, .ref a_bestPass, .ref a_far, .ref a_waited, .ref a_servers, .ref a_images, .ref a_isMade])), (a_said, .inl (kA 0, 360, .inl f62))]) hP hD [0, 1] (by decide) rfl
        refine W.widen (k := 0) (n := 0) (Nat.le_of_ble_eq_true rfl) (Nat.le_of_ble_eq_true rfl) ?_
        exact W.iret (v := x61) hx hb hr (fun t ht hW => ⟨⟨x61, (f62, x61), rfl, ⟨rfl, (hG.trans hG0.symm), hk64⟩, by rw [ht]; exact hP9, hD9⟩, hS.F ht⟩) hS.2.2 dX11_fill_69
      · have hG := zthen hG c_57
        refine lv_iconst (v := (-1)) hx hb dX11_fill_43 (by decide) ?_
        obtain ⟨hP9, hD9⟩ := z_sb (L' := [(n0, .inr (11, .ref a_tape :: .int m_taped :: .int m_laws :: .ref a_sign :: .ref a_length :: .ref a_clause :: .ref a_clauses :: .ref a_chain :: .int m_next :: .int m_wrong :: .int m_number :: .int m_text :: .int m_made :: .int m_deep :: .int m_lines :: .ref a_open :: .int m_opened :: .ref a_stack :: .int m_top :: .ref a_word :: .ref a_said :: .ref a_kept :: [.int m_goNode, .int m_goDrops, .int m_goHour, .int m_goFelt, .int m_goSalt, .int m_goMore, .ref a_stepNode, .ref a_stepDrops, .ref a_stepHour, .ref a_stepNext, .ref a_stepPass, .int m_bestLeft, .int m_bestHour, .int m_bestMany, .ref a_bestPass, .ref a_far, .ref a_waited, .ref a_servers, .ref a_images, .ref a_isMade])), (a_said, .inl (kA 0, 360, .inl saidF))]) hP hD [0, 1] (by decide) rfl
        refine W.widen (k := 0) (n := 0) (Nat.le_of_ble_eq_true rfl) (Nat.le_of_ble_eq_true rfl) ?_
        exact W.iret (v := (-1)) hx hb hr (fun t ht hW => ⟨⟨(-1), (saidF, (-1)), rfl, ⟨rfl, (hG.trans hG0.symm), hsc⟩, by rw [ht]; exact hP9, hD9⟩, hS.F ht⟩) hS.2.2 dX11_fill_44
theorem gl_mX11_stores_0 (p0 : Int32) (x23 : Int32) (h0 : ¬ p0 < 0) (h1 : ¬ 12 ≤ p0) (h2 : x23 = ((20 + (4 * p0)) + 3)) : (¬ x23 < 0 ∧ ¬ 360 ≤ x23) := by grind
theorem gl_mX11_stores_1 (p0 : Int32) (x23 : Int32) (h0 : ¬ p0 < 0) (h1 : ¬ 12 ≤ p0) (h2 : x23 = ((20 + (4 * p0)) + 3)) : (¬ x23 < 20 ∧ ¬ 68 ≤ x23) := by grind
set_option maxRecDepth 100000 in
def fX11_stores (saidF : Nat → Int32) (p0 : Int32) (p1 : Int32) : (Nat → Int32) × Int32 := bnd (((20 + (4 * p0)) + 3)) (fun (x23 : Int32) => bnd (saidF x23.toNatClampNeg) (fun (x24 : Int32) => if (x24 + p1) ≤ 999999 then (bnd (saidF x23.toNatClampNeg) (fun (x26 : Int32) => bnd ((upd saidF x23.toNatClampNeg (x26 + p1))) (fun (f27 : Nat → Int32) => (f27, p1)))) else (bnd (saidF x23.toNatClampNeg) (fun (x38 : Int32) => bnd ((999999 - x38)) (fun (x39 : Int32) => bnd (saidF x23.toNatClampNeg) (fun (x40 : Int32) => bnd ((upd saidF x23.toNatClampNeg (x40 + x39))) (fun (f41 : Nat → Int32) => (f41, x39))))))))
set_option maxHeartbeats 4000000 in
set_option maxRecDepth 100000 in
theorem mX11_stores (l : Launch) (dC : Nat → ClassId) (dI : Nat → Nat → Nat) (kA : Nat → ClassId) (sz : Nat) (n0 : Nat) (m_taped : Int32) (m_laws : Int32) (m_next : Int32) (m_wrong : Int32) (m_number : Int32) (m_text : Int32) (m_made : Int32) (m_deep : Int32) (m_lines : Int32) (m_opened : Int32) (m_top : Int32) (m_goNode : Int32) (m_goDrops : Int32) (m_goHour : Int32) (m_goFelt : Int32) (m_goSalt : Int32) (m_goMore : Int32) (m_bestLeft : Int32) (m_bestHour : Int32) (m_bestMany : Int32) (a_tape : Nat) (a_sign : Nat) (a_length : Nat) (a_clause : Nat) (a_clauses : Nat) (a_chain : Nat) (a_open : Nat) (a_stack : Nat) (a_word : Nat) (a_said : Nat) (a_kept : Nat) (a_stepNode : Nat) (a_stepDrops : Nat) (a_stepHour : Nat) (a_stepNext : Nat) (a_stepPass : Nat) (a_bestPass : Nat) (a_far : Nat) (a_waited : Nat) (a_servers : Nat) (a_images : Nat) (a_isMade : Nat) (saidF : Nat → Int32) (zn : Int32) (zp : Int32) (zj : Int32) (zo : Int32) (zf : Int32) (zm : Int32) (zk : Int32) (zw : Int32) (pd : Nat → Int32) (p0 : Int32) (p1 : Int32) (hsc : SC saidF zn zp zj zo zf zm zk zw pd) (hn0 : ¬ p0 < 0) (hn1 : ¬ 12 ≤ p0) : Met l yX11_stores wsX11_stores ({ frames := 0, cells := 0, slots := 0, locals := 0 }) (zPc dC dI kA sz [.ref n0, .int p0, .int p1] [(n0, .inr (11, .ref a_tape :: .int m_taped :: .int m_laws :: .ref a_sign :: .ref a_length :: .ref a_clause :: .ref a_clauses :: .ref a_chain :: .int m_next :: .int m_wrong :: .int m_number :: .int m_text :: .int m_made :: .int m_deep :: .int m_lines :: .ref a_open :: .int m_opened :: .ref a_stack :: .int m_top :: .ref a_word :: .ref a_said :: .ref a_kept :: [.int m_goNode, .int m_goDrops, .int m_goHour, .int m_goFelt, .int m_goSalt, .int m_goMore, .ref a_stepNode, .ref a_stepDrops, .ref a_stepHour, .ref a_stepNext, .ref a_stepPass, .int m_bestLeft, .int m_bestHour, .int m_bestMany, .ref a_bestPass, .ref a_far, .ref a_waited, .ref a_servers, .ref a_images, .ref a_isMade])), (a_said, .inl (kA 0, 360, .inl saidF))]) (va_Qi (fun (r : Int32) (u : (Nat → Int32) × Int32) => r = u.2 ∧ (u.1, u.2) = fX11_stores saidF p0 p1 ∧ SC u.1 zn zp zj zo zf zm zk zw pd) (zB dC dI (va_A [(n0, .inr (11, .ref a_tape :: .int m_taped :: .int m_laws :: .ref a_sign :: .ref a_length :: .ref a_clause :: .ref a_clauses :: .ref a_chain :: .int m_next :: .int m_wrong :: .int m_number :: .int m_text :: .int m_made :: .int m_deep :: .int m_lines :: .ref a_open :: .int m_opened :: .ref a_stack :: .int m_top :: .ref a_word :: .ref a_said :: .ref a_kept :: [.int m_goNode, .int m_goDrops, .int m_goHour, .int m_goFelt, .int m_goSalt, .int m_goMore, .ref a_stepNode, .ref a_stepDrops, .ref a_stepHour, .ref a_stepNext, .ref a_stepPass, .int m_bestLeft, .int m_bestHour, .int m_bestMany, .ref a_bestPass, .ref a_far, .ref a_waited, .ref a_servers, .ref a_images, .ref a_isMade])), (a_said, .inl (kA 0, 360, .inl saidF))] sz) (fun (u : (Nat → Int32) × Int32) => [(n0, .inr (11, .ref a_tape :: .int m_taped :: .int m_laws :: .ref a_sign :: .ref a_length :: .ref a_clause :: .ref a_clauses :: .ref a_chain :: .int m_next :: .int m_wrong :: .int m_number :: .int m_text :: .int m_made :: .int m_deep :: .int m_lines :: .ref a_open :: .int m_opened :: .ref a_stack :: .int m_top :: .ref a_word :: .ref a_said :: .ref a_kept :: [.int m_goNode, .int m_goDrops, .int m_goHour, .int m_goFelt, .int m_goSalt, .int m_goMore, .ref a_stepNode, .ref a_stepDrops, .ref a_stepHour, .ref a_stepNext, .ref a_stepPass, .int m_bestLeft, .int m_bestHour, .int m_bestMany, .ref a_bestPass, .ref a_far, .ref a_waited, .ref a_servers, .ref a_images, .ref a_isMade])), (a_said, .inl (kA 0, 360, .inl u.1))])) (va_A [(n0, .inr (11, .ref a_tape :: .int m_taped :: .int m_laws :: .ref a_sign :: .ref a_length :: .ref a_clause :: .ref a_clauses :: .ref a_chain :: .int m_next :: .int m_wrong :: .int m_number :: .int m_text :: .int m_made :: .int m_deep :: .int m_lines :: .ref a_open :: .int m_opened :: .ref a_stack :: .int m_top :: .ref a_word :: .ref a_said :: .ref a_kept :: [.int m_goNode, .int m_goDrops, .int m_goHour, .int m_goFelt, .int m_goSalt, .int m_goMore, .ref a_stepNode, .ref a_stepDrops, .ref a_stepHour, .ref a_stepNext, .ref a_stepPass, .int m_bestLeft, .int m_bestHour, .int m_bestMany, .ref a_bestPass, .ref a_far, .ref a_waited, .ref a_servers, .ref a_images, .ref a_isMade])), (a_said, .inl (kA 0, 360, .inl saidF))] sz)) 0 0 (va_A [(n0, .inr (11, .ref a_tape :: .int m_taped :: .int m_laws :: .ref a_sign :: .ref a_length :: .ref a_clause :: .ref a_clauses :: .ref a_chain :: .int m_next :: .int m_wrong :: .int m_number :: .int m_text :: .int m_made :: .int m_deep :: .int m_lines :: .ref a_open :: .int m_opened :: .ref a_stack :: .int m_top :: .ref a_word :: .ref a_said :: .ref a_kept :: [.int m_goNode, .int m_goDrops, .int m_goHour, .int m_goFelt, .int m_goSalt, .int m_goMore, .ref a_stepNode, .ref a_stepDrops, .ref a_stepHour, .ref a_stepNext, .ref a_stepPass, .int m_bestLeft, .int m_bestHour, .int m_bestMany, .ref a_bestPass, .ref a_far, .ref a_waited, .ref a_servers, .ref a_images, .ref a_isMade])), (a_said, .inl (kA 0, 360, .inl saidF))] sz) := by
  refine Met.ofW (cc := cX11_stores) (maxL := 5) (ret := (some .int)) pnX11 rfl ?_
  intro p e s m args below meth c s₁ B hml hv
  obtain ⟨rfl, hsz, hP, hK, hD0⟩ := hv
  have hx := B.exec
  have hb := B.bytes
  have hr := B.returns
  have hts := atoms_spec (ws := wsX11_stores) B.pre
  have hown : s.vm.findClass RX11 = some m.cls := findClass_of_methodNamed B.named
  have hlocks := B.notSynchronized
  subst hsz
  have hD := hD0.self (sz := s.heap.size)
  generalize hAe : va_A [(n0, .inr (11, .ref a_tape :: .int m_taped :: .int m_laws :: .ref a_sign :: .ref a_length :: .ref a_clause :: .ref a_clauses :: .ref a_chain :: .int m_next :: .int m_wrong :: .int m_number :: .int m_text :: .int m_made :: .int m_deep :: .int m_lines :: .ref a_open :: .int m_opened :: .ref a_stack :: .int m_top :: .ref a_word :: .ref a_said :: .ref a_kept :: [.int m_goNode, .int m_goDrops, .int m_goHour, .int m_goFelt, .int m_goSalt, .int m_goMore, .ref a_stepNode, .ref a_stepDrops, .ref a_stepHour, .ref a_stepNext, .ref a_stepPass, .int m_bestLeft, .int m_bestHour, .int m_bestMany, .ref a_bestPass, .ref a_far, .ref a_waited, .ref a_servers, .ref a_images, .ref a_isMade])), (a_said, .inl (kA 0, 360, .inl saidF))] s.heap.size = A at hD ⊢
  have hA : ∀ q : Nat, s.heap.size ≤ q → A q := zA_of hAe
  have hS : va_S A s.heap s.heap [] := va_S.rf
  have hP : va_P (dC, dI) vwCl [(n0, .inr (11, .ref a_tape :: .int m_taped :: .int m_laws :: .ref a_sign :: .ref a_length :: .ref a_clause :: .ref a_clauses :: .ref a_chain :: .int m_next :: .int m_wrong :: .int m_number :: .int m_text :: .int m_made :: .int m_deep :: .int m_lines :: .ref a_open :: .int m_opened :: .ref a_stack :: .int m_top :: .ref a_word :: .ref a_said :: .ref a_kept :: [.int m_goNode, .int m_goDrops, .int m_goHour, .int m_goFelt, .int m_goSalt, .int m_goMore, .ref a_stepNode, .ref a_stepDrops, .ref a_stepHour, .ref a_stepNext, .ref a_stepPass, .int m_bestLeft, .int m_bestHour, .int m_bestMany, .ref a_bestPass, .ref a_far, .ref a_waited, .ref a_servers, .ref a_images, .ref a_isMade])), (a_said, .inl (kA 0, 360, .inl saidF))] s.heap := hP
  have hl := lv_entry ([.ref n0, .int p0, .int p1]) (n := 5) (Nat.le_of_ble_eq_true rfl)
  rw [lg_entry_eq]
  generalize (lg_sl ([.ref n0, .int p0, .int p1]) ++ List.replicate (5 - (lg_sl ([.ref n0, .int p0, .int p1])).length) Slot.unset).toArray = ls at hl ⊢
  have hl : lv_has ls 5 [(0, .ref n0), (1, .int p0), (2, .int p1)] := hl
  obtain ⟨H, hHe⟩ : ∃ H : Heap, H = s.heap := ⟨_, rfl⟩
  obtain ⟨G, hG0⟩ : ∃ G : (Nat → Int32) × Int32, fX11_stores saidF p0 p1 = G := ⟨_, rfl⟩
  have hG := hG0
  unfold fX11_stores at hG
  have hz1 : saidF 0 = zn := hsc.1.1
  have hz2 : saidF 1 = zp := hsc.1.2.1
  have hz3 : saidF 2 = zj := hsc.1.2.2.1
  have hz4 : saidF 3 = zo := hsc.1.2.2.2.1
  have hz5 : saidF 4 = zf := hsc.1.2.2.2.2.1
  have hz6 : saidF 6 = zm := hsc.1.2.2.2.2.2.1
  have hz7 : saidF 8 = zk := hsc.1.2.2.2.2.2.2.1
  have hz8 : saidF 9 = zw := hsc.1.2.2.2.2.2.2.2
  have hz9 : ¬ zn < 0 := hsc.2.1.1
  have hz10 : ¬ 12 < zn := hsc.2.1.2
  have hz11 : ¬ zp < 0 := hsc.2.2.1.1
  have hz12 : ¬ 20 < zp := hsc.2.2.1.2
  have hz13 : ¬ zj < 0 := hsc.2.2.2.1.1
  have hz14 : ¬ 16 < zj := hsc.2.2.2.1.2
  have hz15 : ¬ zo < 0 := hsc.2.2.2.2.1.1
  have hz16 : ¬ 6 < zo := hsc.2.2.2.2.1.2
  have hz17 : ¬ zf < 0 := hsc.2.2.2.2.2.1.1
  have hz18 : ¬ 8 < zf := hsc.2.2.2.2.2.1.2
  have hz19 : ¬ zk < (-1) := hsc.2.2.2.2.2.2.1.1
  have hz20 : ¬ 12 ≤ zk := hsc.2.2.2.2.2.2.1.2
  have hz21 : ¬ zw < 0 := hsc.2.2.2.2.2.2.2.1.1
  have hz22 : ¬ 6 < zw := hsc.2.2.2.2.2.2.2.1.2
  refine lv_bipush (v := 20) hx hb dX11_stores_0 (by decide) ?_
  refine lv_iconst (v := 4) hx hb dX11_stores_2 (by decide) ?_
  refine lv_iload_n hx hb dX11_stores_3 rfl (lv_at hl 1 rfl) ?_
  refine lv_imul hx hb dX11_stores_4 ?_
  refine lv_iadd hx hb dX11_stores_5 ?_
  refine lv_iconst (v := 3) hx hb dX11_stores_6 (by decide) ?_
  refine lv_iadd hx hb dX11_stores_7 ?_
  refine lv_topi (fun x23 ex23 => ?_)
  have hG := zbnd hG ex23
  refine lv_istore_n (lv' := [(3, .int x23), (0, .ref n0), (1, .int p0), (2, .int p1)]) hx hb dX11_stores_8 rfl hl (by decide) rfl (fun ls hl => ?_)
  refine lv_aload_n hx hb dX11_stores_9 rfl (lv_at hl 1 rfl) ?_
  refine va_get (D := (dC, dI)) (ci := 11) (v := .ref a_said) (C := RX11) (T := TX11) (N := 42) hx hb hts iX11_stores_X11 hown hK.1 hP 0 gz0 vcz11 20 (by decide) (kX11_stores_1 hts) (fun _ h9 => h9) gz20 dX11_stores_10 ?_
  refine lv_iload_n hx hb dX11_stores_13 rfl (lv_at hl 0 rfl) ?_
  refine va_iald hx hb hK.1 hP 1 0 gz1 tzz0 (vp_g (N := 360) (by decide) (gl_mX11_stores_0 p0 x23 hn0 hn1 ex23)) dX11_stores_14 ?_
  refine lv_topi (fun x24 ex24 => ?_)
  have hG := zbnd hG ex24
  refine lv_iload_n hx hb dX11_stores_15 rfl (lv_at hl 3 rfl) ?_
  refine lv_iadd hx hb dX11_stores_16 ?_
  refine lv_ldcw hx hb hown (kX11_stores_2 hts) dX11_stores_17 ?_
  refine lv_icmp_le (tgt := 36) hx hb dX11_stores_20 (by decide) (fun c_25 => ?_) (fun c_25 => ?_)
  · have hG := zthen hG c_25
    refine lv_iload_n hx hb dX11_stores_36 rfl (lv_at hl 3 rfl) ?_
    refine lv_istore (lv' := [(4, .int p1), (3, .int x23), (0, .ref n0), (1, .int p0), (2, .int p1)]) hx hb dX11_stores_37 hl (by decide) rfl (fun ls hl => ?_)
    refine lv_aload_n hx hb dX11_stores_39 rfl (lv_at hl 2 rfl) ?_
    refine va_get (D := (dC, dI)) (ci := 11) (v := .ref a_said) (C := RX11) (T := TX11) (N := 42) hx hb hts iX11_stores_X11 hown hK.1 hP 0 gz0 vcz11 20 (by decide) (kX11_stores_1 hts) (fun _ h9 => h9) gz20 dX11_stores_40 ?_
    refine lv_iload_n hx hb dX11_stores_43 rfl (lv_at hl 1 rfl) ?_
    refine lv_dup2_11 hx hb dX11_stores_44 rfl rfl ?_
    refine va_iald hx hb hK.1 hP 1 0 gz1 tzz0 (vp_g (N := 360) (by decide) (gl_mX11_stores_0 p0 x23 hn0 hn1 ex23)) dX11_stores_45 ?_
    refine lv_topi (fun x26 ex26 => ?_)
    have hG := zbnd hG ex26
    refine lv_iload hx hb dX11_stores_46 (lv_at hl 0 rfl) ?_
    refine lv_iadd hx hb dX11_stores_48 ?_
    refine va_iast hx hb hK.1 hP hD hS 1 0 gz1 tzz0 (vp_g (N := 360) (by decide) (gl_mX11_stores_0 p0 x23 hn0 hn1 ex23)) dX11_stores_49 (fun H locs hP hD hS => ?_)
    obtain ⟨hP, hD⟩ := z_re (L := [(n0, .inr (11, .ref a_tape :: .int m_taped :: .int m_laws :: .ref a_sign :: .ref a_length :: .ref a_clause :: .ref a_clauses :: .ref a_chain :: .int m_next :: .int m_wrong :: .int m_number :: .int m_text :: .int m_made :: .int m_deep :: .int m_lines :: .ref a_open :: .int m_opened :: .ref a_stack :: .int m_top :: .ref a_word :: .ref a_said :: .ref a_kept :: [.int m_goNode, .int m_goDrops, .int m_goHour, .int m_goFelt, .int m_goSalt, .int m_goMore, .ref a_stepNode, .ref a_stepDrops, .ref a_stepHour, .ref a_stepNext, .ref a_stepPass, .int m_bestLeft, .int m_bestHour, .int m_bestMany, .ref a_bestPass, .ref a_far, .ref a_waited, .ref a_servers, .ref a_images, .ref a_isMade])), (a_said, .inl (kA 0, 360, .inl (upd saidF x23.toNatClampNeg (x26 + p1))))]) hP hD
    obtain ⟨f27, ef27⟩ : ∃ y : Nat → Int32, y = (upd saidF x23.toNatClampNeg (x26 + p1)) := ⟨_, rfl⟩
    rw [← ef27] at hP hD
    have hG := zbnd hG ef27
    have hu28 := upd_at ef27
    have hk29 : SC f27 zn zp zj zo zf zm zk zw pd := by rw [ef27]; exact SC_nd hsc (gl_mX11_stores_1 p0 x23 hn0 hn1 ex23)
    have hz30 : f27 0 = zn := hk29.1.1
    have hz31 : f27 1 = zp := hk29.1.2.1
    have hz32 : f27 2 = zj := hk29.1.2.2.1
    have hz33 : f27 3 = zo := hk29.1.2.2.2.1
    have hz34 : f27 4 = zf := hk29.1.2.2.2.2.1
    have hz35 : f27 6 = zm := hk29.1.2.2.2.2.2.1
    have hz36 : f27 8 = zk := hk29.1.2.2.2.2.2.2.1
    have hz37 : f27 9 = zw := hk29.1.2.2.2.2.2.2.2
    refine lv_iload hx hb dX11_stores_50 (lv_at hl 0 rfl) ?_
    obtain ⟨hP9, hD9⟩ := z_sb (L' := [(n0, .inr (11, .ref a_tape :: .int m_taped :: .int m_laws :: .ref a_sign :: .ref a_length :: .ref a_clause :: .ref a_clauses :: .ref a_chain :: .int m_next :: .int m_wrong :: .int m_number :: .int m_text :: .int m_made :: .int m_deep :: .int m_lines :: .ref a_open :: .int m_opened :: .ref a_stack :: .int m_top :: .ref a_word :: .ref a_said :: .ref a_kept :: [.int m_goNode, .int m_goDrops, .int m_goHour, .int m_goFelt, .int m_goSalt, .int m_goMore, .ref a_stepNode, .ref a_stepDrops, .ref a_stepHour, .ref a_stepNext, .ref a_stepPass, .int m_bestLeft, .int m_bestHour, .int m_bestMany, .ref a_bestPass, .ref a_far, .ref a_waited, .ref a_servers, .ref a_images, .ref a_isMade])), (a_said, .inl (kA 0, 360, .inl f27))]) hP hD [0, 1] (by decide) rfl
    refine W.widen (k := 0) (n := 0) (Nat.le_of_ble_eq_true rfl) (Nat.le_of_ble_eq_true rfl) ?_
    exact W.iret (v := p1) hx hb hr (fun t ht hW => ⟨⟨p1, (f27, p1), rfl, ⟨rfl, (hG.trans hG0.symm), hk29⟩, by rw [ht]; exact hP9, hD9⟩, hS.F ht⟩) hS.2.2 dX11_stores_52
  · have hG := zelse hG c_25
    refine lv_ldcw hx hb hown (kX11_stores_2 hts) dX11_stores_23 ?_
    refine lv_aload_n hx hb dX11_stores_26 rfl (lv_at hl 1 rfl) ?_
    refine va_get (D := (dC, dI)) (ci := 11) (v := .ref a_said) (C := RX11) (T := TX11) (N := 42) hx hb hts iX11_stores_X11 hown hK.1 hP 0 gz0 vcz11 20 (by decide) (kX11_stores_1 hts) (fun _ h9 => h9) gz20 dX11_stores_27 ?_
    refine lv_iload_n hx hb dX11_stores_30 rfl (lv_at hl 0 rfl) ?_
    refine va_iald hx hb hK.1 hP 1 0 gz1 tzz0 (vp_g (N := 360) (by decide) (gl_mX11_stores_0 p0 x23 hn0 hn1 ex23)) dX11_stores_31 ?_
    refine lv_topi (fun x38 ex38 => ?_)
    have hG := zbnd hG ex38
    refine lv_isub hx hb dX11_stores_32 ?_
    refine lv_goto (tgt := 37) hx hb dX11_stores_33 (by decide) ?_
    refine lv_topi (fun x39 ex39 => ?_)
    have hG := zbnd hG ex39
    refine lv_istore (lv' := [(4, .int x39), (3, .int x23), (0, .ref n0), (1, .int p0), (2, .int p1)]) hx hb dX11_stores_37 hl (by decide) rfl (fun ls hl => ?_)
    refine lv_aload_n hx hb dX11_stores_39 rfl (lv_at hl 2 rfl) ?_
    refine va_get (D := (dC, dI)) (ci := 11) (v := .ref a_said) (C := RX11) (T := TX11) (N := 42) hx hb hts iX11_stores_X11 hown hK.1 hP 0 gz0 vcz11 20 (by decide) (kX11_stores_1 hts) (fun _ h9 => h9) gz20 dX11_stores_40 ?_
    refine lv_iload_n hx hb dX11_stores_43 rfl (lv_at hl 1 rfl) ?_
    refine lv_dup2_11 hx hb dX11_stores_44 rfl rfl ?_
    refine va_iald hx hb hK.1 hP 1 0 gz1 tzz0 (vp_g (N := 360) (by decide) (gl_mX11_stores_0 p0 x23 hn0 hn1 ex23)) dX11_stores_45 ?_
    refine lv_topi (fun x40 ex40 => ?_)
    have hG := zbnd hG ex40
    refine lv_iload hx hb dX11_stores_46 (lv_at hl 0 rfl) ?_
    refine lv_iadd hx hb dX11_stores_48 ?_
    refine va_iast hx hb hK.1 hP hD hS 1 0 gz1 tzz0 (vp_g (N := 360) (by decide) (gl_mX11_stores_0 p0 x23 hn0 hn1 ex23)) dX11_stores_49 (fun H locs hP hD hS => ?_)
    obtain ⟨hP, hD⟩ := z_re (L := [(n0, .inr (11, .ref a_tape :: .int m_taped :: .int m_laws :: .ref a_sign :: .ref a_length :: .ref a_clause :: .ref a_clauses :: .ref a_chain :: .int m_next :: .int m_wrong :: .int m_number :: .int m_text :: .int m_made :: .int m_deep :: .int m_lines :: .ref a_open :: .int m_opened :: .ref a_stack :: .int m_top :: .ref a_word :: .ref a_said :: .ref a_kept :: [.int m_goNode, .int m_goDrops, .int m_goHour, .int m_goFelt, .int m_goSalt, .int m_goMore, .ref a_stepNode, .ref a_stepDrops, .ref a_stepHour, .ref a_stepNext, .ref a_stepPass, .int m_bestLeft, .int m_bestHour, .int m_bestMany, .ref a_bestPass, .ref a_far, .ref a_waited, .ref a_servers, .ref a_images, .ref a_isMade])), (a_said, .inl (kA 0, 360, .inl (upd saidF x23.toNatClampNeg (x40 + x39))))]) hP hD
    obtain ⟨f41, ef41⟩ : ∃ y : Nat → Int32, y = (upd saidF x23.toNatClampNeg (x40 + x39)) := ⟨_, rfl⟩
    rw [← ef41] at hP hD
    have hG := zbnd hG ef41
    have hu42 := upd_at ef41
    have hk43 : SC f41 zn zp zj zo zf zm zk zw pd := by rw [ef41]; exact SC_nd hsc (gl_mX11_stores_1 p0 x23 hn0 hn1 ex23)
    have hz44 : f41 0 = zn := hk43.1.1
    have hz45 : f41 1 = zp := hk43.1.2.1
    have hz46 : f41 2 = zj := hk43.1.2.2.1
    have hz47 : f41 3 = zo := hk43.1.2.2.2.1
    have hz48 : f41 4 = zf := hk43.1.2.2.2.2.1
    have hz49 : f41 6 = zm := hk43.1.2.2.2.2.2.1
    have hz50 : f41 8 = zk := hk43.1.2.2.2.2.2.2.1
    have hz51 : f41 9 = zw := hk43.1.2.2.2.2.2.2.2
    refine lv_iload hx hb dX11_stores_50 (lv_at hl 0 rfl) ?_
    obtain ⟨hP9, hD9⟩ := z_sb (L' := [(n0, .inr (11, .ref a_tape :: .int m_taped :: .int m_laws :: .ref a_sign :: .ref a_length :: .ref a_clause :: .ref a_clauses :: .ref a_chain :: .int m_next :: .int m_wrong :: .int m_number :: .int m_text :: .int m_made :: .int m_deep :: .int m_lines :: .ref a_open :: .int m_opened :: .ref a_stack :: .int m_top :: .ref a_word :: .ref a_said :: .ref a_kept :: [.int m_goNode, .int m_goDrops, .int m_goHour, .int m_goFelt, .int m_goSalt, .int m_goMore, .ref a_stepNode, .ref a_stepDrops, .ref a_stepHour, .ref a_stepNext, .ref a_stepPass, .int m_bestLeft, .int m_bestHour, .int m_bestMany, .ref a_bestPass, .ref a_far, .ref a_waited, .ref a_servers, .ref a_images, .ref a_isMade])), (a_said, .inl (kA 0, 360, .inl f41))]) hP hD [0, 1] (by decide) rfl
    refine W.widen (k := 0) (n := 0) (Nat.le_of_ble_eq_true rfl) (Nat.le_of_ble_eq_true rfl) ?_
    exact W.iret (v := x39) hx hb hr (fun t ht hW => ⟨⟨x39, (f41, x39), rfl, ⟨rfl, (hG.trans hG0.symm), hk43⟩, by rw [ht]; exact hP9, hD9⟩, hS.F ht⟩) hS.2.2 dX11_stores_52
theorem gl_mX11_pour_0 (saidF : Nat → Int32) (zj : Int32) (p0 : Int32) (r25 : Int32) (h0 : ¬ zj < 0) (h1 : ¬ 16 < zj) (h2 : (¬ (r25 : Int32) = 0 → (¬ p0 < 0 ∧ ¬ zj ≤ p0 ∧ ¬ (saidF ((168 + (9 * p0)) + 5).toNatClampNeg) < 0 ∧ (saidF ((168 + (9 * p0)) + 5).toNatClampNeg) < 12))) (h3 : ¬ r25 = 0) : ¬ p0 < 0 := by grind
theorem gl_mX11_pour_1 (saidF : Nat → Int32) (zj : Int32) (p0 : Int32) (r25 : Int32) (h0 : ¬ zj < 0) (h1 : ¬ 16 < zj) (h2 : (¬ (r25 : Int32) = 0 → (¬ p0 < 0 ∧ ¬ zj ≤ p0 ∧ ¬ (saidF ((168 + (9 * p0)) + 5).toNatClampNeg) < 0 ∧ (saidF ((168 + (9 * p0)) + 5).toNatClampNeg) < 12))) (h3 : ¬ r25 = 0) : ¬ 16 ≤ p0 := by grind
theorem gl_mX11_pour_2 (saidF : Nat → Int32) (zj : Int32) (p0 : Int32) (r25 : Int32) (h0 : ¬ zj < 0) (h1 : ¬ 16 < zj) (h2 : (¬ (r25 : Int32) = 0 → (¬ p0 < 0 ∧ ¬ zj ≤ p0 ∧ ¬ (saidF ((168 + (9 * p0)) + 5).toNatClampNeg) < 0 ∧ (saidF ((168 + (9 * p0)) + 5).toNatClampNeg) < 12))) (h3 : ¬ r25 = 0) (h4 : ¬ (saidF ((168 + (9 * p0)) + 5).toNatClampNeg) < 0) (h5 : ¬ 13 < (saidF ((168 + (9 * p0)) + 5).toNatClampNeg)) : ¬ p0 < 0 := by grind
theorem gl_mX11_pour_3 (saidF : Nat → Int32) (zj : Int32) (p0 : Int32) (r25 : Int32) (h0 : ¬ zj < 0) (h1 : ¬ 16 < zj) (h2 : (¬ (r25 : Int32) = 0 → (¬ p0 < 0 ∧ ¬ zj ≤ p0 ∧ ¬ (saidF ((168 + (9 * p0)) + 5).toNatClampNeg) < 0 ∧ (saidF ((168 + (9 * p0)) + 5).toNatClampNeg) < 12))) (h3 : ¬ r25 = 0) (h4 : ¬ (saidF ((168 + (9 * p0)) + 5).toNatClampNeg) < 0) (h5 : ¬ 13 < (saidF ((168 + (9 * p0)) + 5).toNatClampNeg)) : ¬ 16 ≤ p0 := by grind
theorem gl_mX11_pour_4 (saidF : Nat → Int32) (zj : Int32) (p0 : Int32) (r25 : Int32) (h0 : ¬ zj < 0) (h1 : ¬ 16 < zj) (h2 : (¬ (r25 : Int32) = 0 → (¬ p0 < 0 ∧ ¬ zj ≤ p0 ∧ ¬ (saidF ((168 + (9 * p0)) + 5).toNatClampNeg) < 0 ∧ (saidF ((168 + (9 * p0)) + 5).toNatClampNeg) < 12))) (h3 : ¬ r25 = 0) (h4 : ¬ (saidF ((168 + (9 * p0)) + 5).toNatClampNeg) < 0) (h5 : ¬ 13 < (saidF ((168 + (9 * p0)) + 5).toNatClampNeg)) : ¬ 12 ≤ (saidF ((168 + (9 * p0)) + 5).toNatClampNeg) := by grind
theorem gl_mX11_pour_5 (saidF : Nat → Int32) (zj : Int32) (p0 : Int32) (r25 : Int32) (h0 : ¬ zj < 0) (h1 : ¬ 16 < zj) (h2 : (¬ (r25 : Int32) = 0 → (¬ p0 < 0 ∧ ¬ zj ≤ p0 ∧ ¬ (saidF ((168 + (9 * p0)) + 5).toNatClampNeg) < 0 ∧ (saidF ((168 + (9 * p0)) + 5).toNatClampNeg) < 12))) (h3 : ¬ r25 = 0) (h4 : ¬ (saidF ((168 + (9 * p0)) + 5).toNatClampNeg) < 0) (h5 : ¬ 13 < (saidF ((168 + (9 * p0)) + 5).toNatClampNeg)) : (¬ ((168 + (9 * p0)) + 4) < 0 ∧ ¬ 360 ≤ ((168 + (9 * p0)) + 4)) := by grind
theorem gl_mX11_pour_6 (saidF : Nat → Int32) (zj : Int32) (p0 : Int32) (r25 : Int32) (h0 : ¬ zj < 0) (h1 : ¬ 16 < zj) (h2 : (¬ (r25 : Int32) = 0 → (¬ p0 < 0 ∧ ¬ zj ≤ p0 ∧ ¬ (saidF ((168 + (9 * p0)) + 5).toNatClampNeg) < 0 ∧ (saidF ((168 + (9 * p0)) + 5).toNatClampNeg) < 12))) (h3 : ¬ r25 = 0) (h4 : ¬ (saidF ((168 + (9 * p0)) + 5).toNatClampNeg) < 0) (h5 : ¬ 13 < (saidF ((168 + (9 * p0)) + 5).toNatClampNeg)) : (((168 + (9 * p0)) + 4) = 168 + 9 * p0 + 4) := by grind
set_option maxRecDepth 100000 in
def fX11_pour (saidF : Nat → Int32) (zj : Int32) (p0 : Int32) : (Nat → Int32) × Int32 := bnd (fX11_stands saidF zj p0) (fun (r25 : Int32) => if r25 = 0 then ((saidF, (-1))) else (bnd (fX11_stores saidF (saidF ((168 + (9 * p0)) + 5).toNatClampNeg) (saidF ((168 + (9 * p0)) + 4).toNatClampNeg)) (fun (q57 : (Nat → Int32) × Int32) => bnd (q57.1) (fun (o44 : Nat → Int32) => bnd (q57.2) (fun (r43 : Int32) => bnd ((upd o44 ((168 + (9 * p0)) + 4).toNatClampNeg 0)) (fun (f58 : Nat → Int32) => (f58, r43)))))))
set_option maxHeartbeats 4000000 in
set_option maxRecDepth 100000 in
theorem mX11_pour (l : Launch) (dC : Nat → ClassId) (dI : Nat → Nat → Nat) (kA : Nat → ClassId) (sz : Nat) (n0 : Nat) (m_taped : Int32) (m_laws : Int32) (m_next : Int32) (m_wrong : Int32) (m_number : Int32) (m_text : Int32) (m_made : Int32) (m_deep : Int32) (m_lines : Int32) (m_opened : Int32) (m_top : Int32) (m_goNode : Int32) (m_goDrops : Int32) (m_goHour : Int32) (m_goFelt : Int32) (m_goSalt : Int32) (m_goMore : Int32) (m_bestLeft : Int32) (m_bestHour : Int32) (m_bestMany : Int32) (a_tape : Nat) (a_sign : Nat) (a_length : Nat) (a_clause : Nat) (a_clauses : Nat) (a_chain : Nat) (a_open : Nat) (a_stack : Nat) (a_word : Nat) (a_said : Nat) (a_kept : Nat) (a_stepNode : Nat) (a_stepDrops : Nat) (a_stepHour : Nat) (a_stepNext : Nat) (a_stepPass : Nat) (a_bestPass : Nat) (a_far : Nat) (a_waited : Nat) (a_servers : Nat) (a_images : Nat) (a_isMade : Nat) (saidF : Nat → Int32) (zn : Int32) (zp : Int32) (zj : Int32) (zo : Int32) (zf : Int32) (zm : Int32) (zk : Int32) (zw : Int32) (pd : Nat → Int32) (p0 : Int32) (hsc : SC saidF zn zp zj zo zf zm zk zw pd) : Met l yX11_pour wsX11_pour ({ frames := 2, cells := 0, slots := 0, locals := 43 }) (zPc dC dI kA sz [.ref n0, .int p0] [(n0, .inr (11, .ref a_tape :: .int m_taped :: .int m_laws :: .ref a_sign :: .ref a_length :: .ref a_clause :: .ref a_clauses :: .ref a_chain :: .int m_next :: .int m_wrong :: .int m_number :: .int m_text :: .int m_made :: .int m_deep :: .int m_lines :: .ref a_open :: .int m_opened :: .ref a_stack :: .int m_top :: .ref a_word :: .ref a_said :: .ref a_kept :: [.int m_goNode, .int m_goDrops, .int m_goHour, .int m_goFelt, .int m_goSalt, .int m_goMore, .ref a_stepNode, .ref a_stepDrops, .ref a_stepHour, .ref a_stepNext, .ref a_stepPass, .int m_bestLeft, .int m_bestHour, .int m_bestMany, .ref a_bestPass, .ref a_far, .ref a_waited, .ref a_servers, .ref a_images, .ref a_isMade])), (a_said, .inl (kA 0, 360, .inl saidF))]) (va_Qi (fun (r : Int32) (u : (Nat → Int32) × Int32) => r = u.2 ∧ (u.1, u.2) = fX11_pour saidF zj p0 ∧ SC u.1 zn zp zj zo zf zm zk zw pd) (zB dC dI (va_A [(n0, .inr (11, .ref a_tape :: .int m_taped :: .int m_laws :: .ref a_sign :: .ref a_length :: .ref a_clause :: .ref a_clauses :: .ref a_chain :: .int m_next :: .int m_wrong :: .int m_number :: .int m_text :: .int m_made :: .int m_deep :: .int m_lines :: .ref a_open :: .int m_opened :: .ref a_stack :: .int m_top :: .ref a_word :: .ref a_said :: .ref a_kept :: [.int m_goNode, .int m_goDrops, .int m_goHour, .int m_goFelt, .int m_goSalt, .int m_goMore, .ref a_stepNode, .ref a_stepDrops, .ref a_stepHour, .ref a_stepNext, .ref a_stepPass, .int m_bestLeft, .int m_bestHour, .int m_bestMany, .ref a_bestPass, .ref a_far, .ref a_waited, .ref a_servers, .ref a_images, .ref a_isMade])), (a_said, .inl (kA 0, 360, .inl saidF))] sz) (fun (u : (Nat → Int32) × Int32) => [(n0, .inr (11, .ref a_tape :: .int m_taped :: .int m_laws :: .ref a_sign :: .ref a_length :: .ref a_clause :: .ref a_clauses :: .ref a_chain :: .int m_next :: .int m_wrong :: .int m_number :: .int m_text :: .int m_made :: .int m_deep :: .int m_lines :: .ref a_open :: .int m_opened :: .ref a_stack :: .int m_top :: .ref a_word :: .ref a_said :: .ref a_kept :: [.int m_goNode, .int m_goDrops, .int m_goHour, .int m_goFelt, .int m_goSalt, .int m_goMore, .ref a_stepNode, .ref a_stepDrops, .ref a_stepHour, .ref a_stepNext, .ref a_stepPass, .int m_bestLeft, .int m_bestHour, .int m_bestMany, .ref a_bestPass, .ref a_far, .ref a_waited, .ref a_servers, .ref a_images, .ref a_isMade])), (a_said, .inl (kA 0, 360, .inl u.1))])) (va_A [(n0, .inr (11, .ref a_tape :: .int m_taped :: .int m_laws :: .ref a_sign :: .ref a_length :: .ref a_clause :: .ref a_clauses :: .ref a_chain :: .int m_next :: .int m_wrong :: .int m_number :: .int m_text :: .int m_made :: .int m_deep :: .int m_lines :: .ref a_open :: .int m_opened :: .ref a_stack :: .int m_top :: .ref a_word :: .ref a_said :: .ref a_kept :: [.int m_goNode, .int m_goDrops, .int m_goHour, .int m_goFelt, .int m_goSalt, .int m_goMore, .ref a_stepNode, .ref a_stepDrops, .ref a_stepHour, .ref a_stepNext, .ref a_stepPass, .int m_bestLeft, .int m_bestHour, .int m_bestMany, .ref a_bestPass, .ref a_far, .ref a_waited, .ref a_servers, .ref a_images, .ref a_isMade])), (a_said, .inl (kA 0, 360, .inl saidF))] sz)) 0 0 (va_A [(n0, .inr (11, .ref a_tape :: .int m_taped :: .int m_laws :: .ref a_sign :: .ref a_length :: .ref a_clause :: .ref a_clauses :: .ref a_chain :: .int m_next :: .int m_wrong :: .int m_number :: .int m_text :: .int m_made :: .int m_deep :: .int m_lines :: .ref a_open :: .int m_opened :: .ref a_stack :: .int m_top :: .ref a_word :: .ref a_said :: .ref a_kept :: [.int m_goNode, .int m_goDrops, .int m_goHour, .int m_goFelt, .int m_goSalt, .int m_goMore, .ref a_stepNode, .ref a_stepDrops, .ref a_stepHour, .ref a_stepNext, .ref a_stepPass, .int m_bestLeft, .int m_bestHour, .int m_bestMany, .ref a_bestPass, .ref a_far, .ref a_waited, .ref a_servers, .ref a_images, .ref a_isMade])), (a_said, .inl (kA 0, 360, .inl saidF))] sz) := by
  refine Met.ofW (cc := cX11_pour) (maxL := 3) (ret := (some .int)) pnX11 rfl ?_
  intro p e s m args below meth c s₁ B hml hv
  obtain ⟨rfl, hsz, hP, hK, hD0⟩ := hv
  have hx := B.exec
  have hb := B.bytes
  have hr := B.returns
  have hts := atoms_spec (ws := wsX11_pour) B.pre
  have hown : s.vm.findClass RX11 = some m.cls := findClass_of_methodNamed B.named
  have hlocks := B.notSynchronized
  subst hsz
  have hD := hD0.self (sz := s.heap.size)
  generalize hAe : va_A [(n0, .inr (11, .ref a_tape :: .int m_taped :: .int m_laws :: .ref a_sign :: .ref a_length :: .ref a_clause :: .ref a_clauses :: .ref a_chain :: .int m_next :: .int m_wrong :: .int m_number :: .int m_text :: .int m_made :: .int m_deep :: .int m_lines :: .ref a_open :: .int m_opened :: .ref a_stack :: .int m_top :: .ref a_word :: .ref a_said :: .ref a_kept :: [.int m_goNode, .int m_goDrops, .int m_goHour, .int m_goFelt, .int m_goSalt, .int m_goMore, .ref a_stepNode, .ref a_stepDrops, .ref a_stepHour, .ref a_stepNext, .ref a_stepPass, .int m_bestLeft, .int m_bestHour, .int m_bestMany, .ref a_bestPass, .ref a_far, .ref a_waited, .ref a_servers, .ref a_images, .ref a_isMade])), (a_said, .inl (kA 0, 360, .inl saidF))] s.heap.size = A at hD ⊢
  have hA : ∀ q : Nat, s.heap.size ≤ q → A q := zA_of hAe
  have hS : va_S A s.heap s.heap [] := va_S.rf
  have hP : va_P (dC, dI) vwCl [(n0, .inr (11, .ref a_tape :: .int m_taped :: .int m_laws :: .ref a_sign :: .ref a_length :: .ref a_clause :: .ref a_clauses :: .ref a_chain :: .int m_next :: .int m_wrong :: .int m_number :: .int m_text :: .int m_made :: .int m_deep :: .int m_lines :: .ref a_open :: .int m_opened :: .ref a_stack :: .int m_top :: .ref a_word :: .ref a_said :: .ref a_kept :: [.int m_goNode, .int m_goDrops, .int m_goHour, .int m_goFelt, .int m_goSalt, .int m_goMore, .ref a_stepNode, .ref a_stepDrops, .ref a_stepHour, .ref a_stepNext, .ref a_stepPass, .int m_bestLeft, .int m_bestHour, .int m_bestMany, .ref a_bestPass, .ref a_far, .ref a_waited, .ref a_servers, .ref a_images, .ref a_isMade])), (a_said, .inl (kA 0, 360, .inl saidF))] s.heap := hP
  have hl := lv_entry ([.ref n0, .int p0]) (n := 3) (Nat.le_of_ble_eq_true rfl)
  rw [lg_entry_eq]
  generalize (lg_sl ([.ref n0, .int p0]) ++ List.replicate (3 - (lg_sl ([.ref n0, .int p0])).length) Slot.unset).toArray = ls at hl ⊢
  have hl : lv_has ls 3 [(0, .ref n0), (1, .int p0)] := hl
  obtain ⟨H, hHe⟩ : ∃ H : Heap, H = s.heap := ⟨_, rfl⟩
  obtain ⟨G, hG0⟩ : ∃ G : (Nat → Int32) × Int32, fX11_pour saidF zj p0 = G := ⟨_, rfl⟩
  have hG := hG0
  unfold fX11_pour at hG
  have hz1 : saidF 0 = zn := hsc.1.1
  have hz2 : saidF 1 = zp := hsc.1.2.1
  have hz3 : saidF 2 = zj := hsc.1.2.2.1
  have hz4 : saidF 3 = zo := hsc.1.2.2.2.1
  have hz5 : saidF 4 = zf := hsc.1.2.2.2.2.1
  have hz6 : saidF 6 = zm := hsc.1.2.2.2.2.2.1
  have hz7 : saidF 8 = zk := hsc.1.2.2.2.2.2.2.1
  have hz8 : saidF 9 = zw := hsc.1.2.2.2.2.2.2.2
  have hz9 : ¬ zn < 0 := hsc.2.1.1
  have hz10 : ¬ 12 < zn := hsc.2.1.2
  have hz11 : ¬ zp < 0 := hsc.2.2.1.1
  have hz12 : ¬ 20 < zp := hsc.2.2.1.2
  have hz13 : ¬ zj < 0 := hsc.2.2.2.1.1
  have hz14 : ¬ 16 < zj := hsc.2.2.2.1.2
  have hz15 : ¬ zo < 0 := hsc.2.2.2.2.1.1
  have hz16 : ¬ 6 < zo := hsc.2.2.2.2.1.2
  have hz17 : ¬ zf < 0 := hsc.2.2.2.2.2.1.1
  have hz18 : ¬ 8 < zf := hsc.2.2.2.2.2.1.2
  have hz19 : ¬ zk < (-1) := hsc.2.2.2.2.2.2.1.1
  have hz20 : ¬ 12 ≤ zk := hsc.2.2.2.2.2.2.1.2
  have hz21 : ¬ zw < 0 := hsc.2.2.2.2.2.2.2.1.1
  have hz22 : ¬ 6 < zw := hsc.2.2.2.2.2.2.2.1.2
  refine lv_aload_n hx hb dX11_pour_0 rfl (lv_at hl 0 rfl) ?_
  refine lv_iload_n hx hb dX11_pour_1 rfl (lv_at hl 1 rfl) ?_
  refine z_i (wr := []) (va_runV (As := [.int p0]) (rest := []) ⟨hx, hb, hml, hown, hts⟩ (mX11_stands l dC dI kA _ n0 m_taped m_laws m_next m_wrong m_number m_text m_made m_deep m_lines m_opened m_top m_goNode m_goDrops m_goHour m_goFelt m_goSalt m_goMore m_bestLeft m_bestHour m_bestMany a_tape a_sign a_length a_clause a_clauses a_chain a_open a_stack a_word a_said a_kept a_stepNode a_stepDrops a_stepHour a_stepNext a_stepPass a_bestPass a_far a_waited a_servers a_images a_isMade saidF zn zp zj zo zf zm zk zw pd p0 hsc) (cwV 1 hts gX11_pour_X11_stands rfl rfl rfl ⟨rfl, hdX11_stands⟩ ⟨(Nat.le_of_ble_eq_true rfl), (Nat.le_of_ble_eq_true rfl)⟩) ⟨zPc.blind, va_recv (q := (RX11, TX11, 42)) hK.1 hP (ci := 11) (q0 := 0) rfl rfl, zPre hK (hP.sub [0, 1] rfl) (hD.sub [0, 1] (by decide) rfl)⟩ rfl rfl hl.1 rfl (lv_room (Nat.le_of_ble_eq_true rfl)) dX11_pour_2 ⟨(Nat.le_of_ble_eq_true rfl), (Nat.le_of_ble_eq_true rfl)⟩) hP hD hS hA [0, 1] [] rfl rfl (by decide) (by decide) (fun r25 u23 H locs hw24 hP hD hS => ?_)
  obtain ⟨er30, hp27, hp28, hp29⟩ := hw24
  have er30 : r25 = u23 := er30
  subst er30
  have er25 : r25 = fX11_stands saidF zj p0 := hp27
  have hG := zbnd hG er25
  obtain ⟨hP, hD⟩ := z_re (L := [(n0, .inr (11, .ref a_tape :: .int m_taped :: .int m_laws :: .ref a_sign :: .ref a_length :: .ref a_clause :: .ref a_clauses :: .ref a_chain :: .int m_next :: .int m_wrong :: .int m_number :: .int m_text :: .int m_made :: .int m_deep :: .int m_lines :: .ref a_open :: .int m_opened :: .ref a_stack :: .int m_top :: .ref a_word :: .ref a_said :: .ref a_kept :: [.int m_goNode, .int m_goDrops, .int m_goHour, .int m_goFelt, .int m_goSalt, .int m_goMore, .ref a_stepNode, .ref a_stepDrops, .ref a_stepHour, .ref a_stepNext, .ref a_stepPass, .int m_bestLeft, .int m_bestHour, .int m_bestMany, .ref a_bestPass, .ref a_far, .ref a_waited, .ref a_servers, .ref a_images, .ref a_isMade])), (a_said, .inl (kA 0, 360, .inl saidF))]) hP hD
  refine lv_if_ne (tgt := 10) hx hb dX11_pour_5 (by decide) (fun c_32 => ?_) (fun c_32 => ?_)
  · have hG := zelse hG c_32
    refine lv_aload_n hx hb dX11_pour_10 rfl (lv_at hl 0 rfl) ?_
    refine lv_aload_n hx hb dX11_pour_11 rfl (lv_at hl 0 rfl) ?_
    refine lv_iload_n hx hb dX11_pour_12 rfl (lv_at hl 1 rfl) ?_
    refine lv_iconst (v := 5) hx hb dX11_pour_13 (by decide) ?_
    refine z_i (wr := []) (va_runV (As := [.int p0, .int 5]) (rest := [.ref n0]) ⟨hx, hb, hml, hown, hts⟩ (mX11_jarOf_5 l dC dI kA _ n0 m_taped m_laws m_next m_wrong m_number m_text m_made m_deep m_lines m_opened m_top m_goNode m_goDrops m_goHour m_goFelt m_goSalt m_goMore m_bestLeft m_bestHour m_bestMany a_tape a_sign a_length a_clause a_clauses a_chain a_open a_stack a_word a_said a_kept a_stepNode a_stepDrops a_stepHour a_stepNext a_stepPass a_bestPass a_far a_waited a_servers a_images a_isMade saidF zn zp zj zo zf zm zk zw pd p0 hsc (gl_mX11_pour_0 saidF zj p0 r25 hz13 hz14 hp28 c_32) (gl_mX11_pour_1 saidF zj p0 r25 hz13 hz14 hp28 c_32)) (cwV 2 hts gX11_pour_X11_jarOf rfl rfl rfl ⟨rfl, hdX11_jarOf⟩ ⟨(Nat.le_of_ble_eq_true rfl), (Nat.le_of_ble_eq_true rfl)⟩) ⟨zPc.blind, va_recv (q := (RX11, TX11, 42)) hK.1 hP (ci := 11) (q0 := 0) rfl rfl, zPre hK (hP.sub [0, 1] rfl) (hD.sub [0, 1] (by decide) rfl)⟩ rfl rfl hl.1 rfl (lv_room (Nat.le_of_ble_eq_true rfl)) dX11_pour_14 ⟨(Nat.le_of_ble_eq_true rfl), (Nat.le_of_ble_eq_true rfl)⟩) hP hD hS hA [0, 1] [] rfl rfl (by decide) (by decide) (fun r35 u33 H locs hw34 hP hD hS => ?_)
    obtain ⟨rfl, hp36, hp37⟩ := hw34
    obtain ⟨hP, hD⟩ := z_re (L := [(n0, .inr (11, .ref a_tape :: .int m_taped :: .int m_laws :: .ref a_sign :: .ref a_length :: .ref a_clause :: .ref a_clauses :: .ref a_chain :: .int m_next :: .int m_wrong :: .int m_number :: .int m_text :: .int m_made :: .int m_deep :: .int m_lines :: .ref a_open :: .int m_opened :: .ref a_stack :: .int m_top :: .ref a_word :: .ref a_said :: .ref a_kept :: [.int m_goNode, .int m_goDrops, .int m_goHour, .int m_goFelt, .int m_goSalt, .int m_goMore, .ref a_stepNode, .ref a_stepDrops, .ref a_stepHour, .ref a_stepNext, .ref a_stepPass, .int m_bestLeft, .int m_bestHour, .int m_bestMany, .ref a_bestPass, .ref a_far, .ref a_waited, .ref a_servers, .ref a_images, .ref a_isMade])), (a_said, .inl (kA 0, 360, .inl saidF))]) hP hD
    refine lv_aload_n hx hb dX11_pour_17 rfl (lv_at hl 0 rfl) ?_
    refine lv_iload_n hx hb dX11_pour_18 rfl (lv_at hl 1 rfl) ?_
    refine lv_iconst (v := 4) hx hb dX11_pour_19 (by decide) ?_
    refine z_i (wr := []) (va_runV (As := [.int p0, .int 4]) (rest := [.int (saidF ((168 + (9 * p0)) + 5).toNatClampNeg), .ref n0]) ⟨hx, hb, hml, hown, hts⟩ (mX11_jarOf l dC dI kA _ n0 m_taped m_laws m_next m_wrong m_number m_text m_made m_deep m_lines m_opened m_top m_goNode m_goDrops m_goHour m_goFelt m_goSalt m_goMore m_bestLeft m_bestHour m_bestMany a_tape a_sign a_length a_clause a_clauses a_chain a_open a_stack a_word a_said a_kept a_stepNode a_stepDrops a_stepHour a_stepNext a_stepPass a_bestPass a_far a_waited a_servers a_images a_isMade saidF p0 4 (gl_mX11_pour_2 saidF zj p0 r25 hz13 hz14 hp28 c_32 hp36 hp37) (gl_mX11_pour_3 saidF zj p0 r25 hz13 hz14 hp28 c_32 hp36 hp37) (by decide) (by decide)) (cwV 2 hts gX11_pour_X11_jarOf rfl rfl rfl ⟨rfl, hdX11_jarOf⟩ ⟨(Nat.le_of_ble_eq_true rfl), (Nat.le_of_ble_eq_true rfl)⟩) ⟨zPc.blind, va_recv (q := (RX11, TX11, 42)) hK.1 hP (ci := 11) (q0 := 0) rfl rfl, zPre hK (hP.sub [0, 1] rfl) (hD.sub [0, 1] (by decide) rfl)⟩ rfl rfl hl.1 rfl (lv_room (Nat.le_of_ble_eq_true rfl)) dX11_pour_20 ⟨(Nat.le_of_ble_eq_true rfl), (Nat.le_of_ble_eq_true rfl)⟩) hP hD hS hA [0, 1] [] rfl rfl (by decide) (by decide) (fun r40 u38 H locs hw39 hP hD hS => ?_)
    obtain rfl := hw39
    obtain ⟨hP, hD⟩ := z_re (L := [(n0, .inr (11, .ref a_tape :: .int m_taped :: .int m_laws :: .ref a_sign :: .ref a_length :: .ref a_clause :: .ref a_clauses :: .ref a_chain :: .int m_next :: .int m_wrong :: .int m_number :: .int m_text :: .int m_made :: .int m_deep :: .int m_lines :: .ref a_open :: .int m_opened :: .ref a_stack :: .int m_top :: .ref a_word :: .ref a_said :: .ref a_kept :: [.int m_goNode, .int m_goDrops, .int m_goHour, .int m_goFelt, .int m_goSalt, .int m_goMore, .ref a_stepNode, .ref a_stepDrops, .ref a_stepHour, .ref a_stepNext, .ref a_stepPass, .int m_bestLeft, .int m_bestHour, .int m_bestMany, .ref a_bestPass, .ref a_far, .ref a_waited, .ref a_servers, .ref a_images, .ref a_isMade])), (a_said, .inl (kA 0, 360, .inl saidF))]) hP hD
    refine z_i (wr := []) (va_runV (As := [.int (saidF ((168 + (9 * p0)) + 5).toNatClampNeg), .int (saidF ((168 + (9 * p0)) + 4).toNatClampNeg)]) (rest := []) ⟨hx, hb, hml, hown, hts⟩ (mX11_stores l dC dI kA _ n0 m_taped m_laws m_next m_wrong m_number m_text m_made m_deep m_lines m_opened m_top m_goNode m_goDrops m_goHour m_goFelt m_goSalt m_goMore m_bestLeft m_bestHour m_bestMany a_tape a_sign a_length a_clause a_clauses a_chain a_open a_stack a_word a_said a_kept a_stepNode a_stepDrops a_stepHour a_stepNext a_stepPass a_bestPass a_far a_waited a_servers a_images a_isMade saidF zn zp zj zo zf zm zk zw pd (saidF ((168 + (9 * p0)) + 5).toNatClampNeg) (saidF ((168 + (9 * p0)) + 4).toNatClampNeg) hsc hp36 (gl_mX11_pour_4 saidF zj p0 r25 hz13 hz14 hp28 c_32 hp36 hp37)) (cwV 2 hts gX11_pour_X11_stores rfl rfl rfl ⟨rfl, hdX11_stores⟩ ⟨(Nat.le_of_ble_eq_true rfl), (Nat.le_of_ble_eq_true rfl)⟩) ⟨zPc.blind, va_recv (q := (RX11, TX11, 42)) hK.1 hP (ci := 11) (q0 := 0) rfl rfl, zPre hK (hP.sub [0, 1] rfl) (hD.sub [0, 1] (by decide) rfl)⟩ rfl rfl hl.1 rfl (lv_room (Nat.le_of_ble_eq_true rfl)) dX11_pour_23 ⟨(Nat.le_of_ble_eq_true rfl), (Nat.le_of_ble_eq_true rfl)⟩) hP hD hS hA [0, 1] [] rfl rfl (by decide) (by decide) (fun r43 u41 H locs hw42 hP hD hS => ?_)
    obtain ⟨o44, r45⟩ := u41
    obtain ⟨er48, hp46, hp47⟩ := hw42
    have er48 : r43 = r45 := er48
    subst er48
    have hz49 : o44 0 = zn := hp47.1.1
    have hz50 : o44 1 = zp := hp47.1.2.1
    have hz51 : o44 2 = zj := hp47.1.2.2.1
    have hz52 : o44 3 = zo := hp47.1.2.2.2.1
    have hz53 : o44 4 = zf := hp47.1.2.2.2.2.1
    have hz54 : o44 6 = zm := hp47.1.2.2.2.2.2.1
    have hz55 : o44 8 = zk := hp47.1.2.2.2.2.2.2.1
    have hz56 : o44 9 = zw := hp47.1.2.2.2.2.2.2.2
    obtain ⟨q57, eq57⟩ : ∃ y : (Nat → Int32) × Int32, y = fX11_stores saidF (saidF ((168 + (9 * p0)) + 5).toNatClampNeg) (saidF ((168 + (9 * p0)) + 4).toNatClampNeg) := ⟨_, rfl⟩
    have hG := zbnd hG eq57
    have eo44 : o44 = q57.1 := by rw [eq57]; exact congrArg (fun z : (Nat → Int32) × Int32 => z.1) hp46
    have hG := zbnd hG eo44
    have er43 : r43 = q57.2 := by rw [eq57]; exact congrArg (fun z : (Nat → Int32) × Int32 => z.2) hp46
    have hG := zbnd hG er43
    obtain ⟨hP, hD⟩ := z_re (L := [(n0, .inr (11, .ref a_tape :: .int m_taped :: .int m_laws :: .ref a_sign :: .ref a_length :: .ref a_clause :: .ref a_clauses :: .ref a_chain :: .int m_next :: .int m_wrong :: .int m_number :: .int m_text :: .int m_made :: .int m_deep :: .int m_lines :: .ref a_open :: .int m_opened :: .ref a_stack :: .int m_top :: .ref a_word :: .ref a_said :: .ref a_kept :: [.int m_goNode, .int m_goDrops, .int m_goHour, .int m_goFelt, .int m_goSalt, .int m_goMore, .ref a_stepNode, .ref a_stepDrops, .ref a_stepHour, .ref a_stepNext, .ref a_stepPass, .int m_bestLeft, .int m_bestHour, .int m_bestMany, .ref a_bestPass, .ref a_far, .ref a_waited, .ref a_servers, .ref a_images, .ref a_isMade])), (a_said, .inl (kA 0, 360, .inl o44))]) hP hD
    refine lv_istore_n (lv' := [(2, .int r43), (0, .ref n0), (1, .int p0)]) hx hb dX11_pour_26 rfl hl (by decide) rfl (fun ls hl => ?_)
    refine lv_aload_n hx hb dX11_pour_27 rfl (lv_at hl 1 rfl) ?_
    refine va_get (D := (dC, dI)) (ci := 11) (v := .ref a_said) (C := RX11) (T := TX11) (N := 42) hx hb hts iX11_pour_X11 hown hK.1 hP 0 gz0 vcz11 20 (by decide) (kX11_pour_1 hts) (fun _ h9 => h9) gz20 dX11_pour_28 ?_
    refine lv_sipush (v := 168) hx hb dX11_pour_31 (by decide) ?_
    refine lv_bipush (v := 9) hx hb dX11_pour_34 (by decide) ?_
    refine lv_iload_n hx hb dX11_pour_36 rfl (lv_at hl 2 rfl) ?_
    refine lv_imul hx hb dX11_pour_37 ?_
    refine lv_iadd hx hb dX11_pour_38 ?_
    refine lv_iconst (v := 4) hx hb dX11_pour_39 (by decide) ?_
    refine lv_iadd hx hb dX11_pour_40 ?_
    refine lv_iconst (v := 0) hx hb dX11_pour_41 (by decide) ?_
    refine va_iast hx hb hK.1 hP hD hS 1 0 gz1 tzz0 (vp_g (N := 360) (by decide) (gl_mX11_pour_5 saidF zj p0 r25 hz13 hz14 hp28 c_32 hp36 hp37)) dX11_pour_42 (fun H locs hP hD hS => ?_)
    obtain ⟨hP, hD⟩ := z_re (L := [(n0, .inr (11, .ref a_tape :: .int m_taped :: .int m_laws :: .ref a_sign :: .ref a_length :: .ref a_clause :: .ref a_clauses :: .ref a_chain :: .int m_next :: .int m_wrong :: .int m_number :: .int m_text :: .int m_made :: .int m_deep :: .int m_lines :: .ref a_open :: .int m_opened :: .ref a_stack :: .int m_top :: .ref a_word :: .ref a_said :: .ref a_kept :: [.int m_goNode, .int m_goDrops, .int m_goHour, .int m_goFelt, .int m_goSalt, .int m_goMore, .ref a_stepNode, .ref a_stepDrops, .ref a_stepHour, .ref a_stepNext, .ref a_stepPass, .int m_bestLeft, .int m_bestHour, .int m_bestMany, .ref a_bestPass, .ref a_far, .ref a_waited, .ref a_servers, .ref a_images, .ref a_isMade])), (a_said, .inl (kA 0, 360, .inl (upd o44 ((168 + (9 * p0)) + 4).toNatClampNeg 0)))]) hP hD
    obtain ⟨f58, ef58⟩ : ∃ y : Nat → Int32, y = (upd o44 ((168 + (9 * p0)) + 4).toNatClampNeg 0) := ⟨_, rfl⟩
    rw [← ef58] at hP hD
    have hG := zbnd hG ef58
    have hu59 := upd_at ef58
    have hk60 : SC f58 zn zp zj zo zf zm zk zw pd := by rw [ef58]; exact SC_jf (k := 4) hp47 (gl_mX11_pour_2 saidF zj p0 r25 hz13 hz14 hp28 c_32 hp36 hp37) (gl_mX11_pour_3 saidF zj p0 r25 hz13 hz14 hp28 c_32 hp36 hp37) (gl_mX11_pour_6 saidF zj p0 r25 hz13 hz14 hp28 c_32 hp36 hp37) (by decide)
    have hz61 : f58 0 = zn := hk60.1.1
    have hz62 : f58 1 = zp := hk60.1.2.1
    have hz63 : f58 2 = zj := hk60.1.2.2.1
    have hz64 : f58 3 = zo := hk60.1.2.2.2.1
    have hz65 : f58 4 = zf := hk60.1.2.2.2.2.1
    have hz66 : f58 6 = zm := hk60.1.2.2.2.2.2.1
    have hz67 : f58 8 = zk := hk60.1.2.2.2.2.2.2.1
    have hz68 : f58 9 = zw := hk60.1.2.2.2.2.2.2.2
    refine lv_iload_n hx hb dX11_pour_43 rfl (lv_at hl 0 rfl) ?_
    obtain ⟨hP9, hD9⟩ := z_sb (L' := [(n0, .inr (11, .ref a_tape :: .int m_taped :: .int m_laws :: .ref a_sign :: .ref a_length :: .ref a_clause :: .ref a_clauses :: .ref a_chain :: .int m_next :: .int m_wrong :: .int m_number :: .int m_text :: .int m_made :: .int m_deep :: .int m_lines :: .ref a_open :: .int m_opened :: .ref a_stack :: .int m_top :: .ref a_word :: .ref a_said :: .ref a_kept :: [.int m_goNode, .int m_goDrops, .int m_goHour, .int m_goFelt, .int m_goSalt, .int m_goMore, .ref a_stepNode, .ref a_stepDrops, .ref a_stepHour, .ref a_stepNext, .ref a_stepPass, .int m_bestLeft, .int m_bestHour, .int m_bestMany, .ref a_bestPass, .ref a_far, .ref a_waited, .ref a_servers, .ref a_images, .ref a_isMade])), (a_said, .inl (kA 0, 360, .inl f58))]) hP hD [0, 1] (by decide) rfl
    refine W.widen (k := 0) (n := 0) (Nat.le_of_ble_eq_true rfl) (Nat.le_of_ble_eq_true rfl) ?_
    exact W.iret (v := r43) hx hb hr (fun t ht hW => ⟨⟨r43, (f58, r43), rfl, ⟨rfl, (hG.trans hG0.symm), hk60⟩, by rw [ht]; exact hP9, hD9⟩, hS.F ht⟩) hS.2.2 dX11_pour_44
  · have hG := zthen hG c_32
    refine lv_iconst (v := (-1)) hx hb dX11_pour_8 (by decide) ?_
    obtain ⟨hP9, hD9⟩ := z_sb (L' := [(n0, .inr (11, .ref a_tape :: .int m_taped :: .int m_laws :: .ref a_sign :: .ref a_length :: .ref a_clause :: .ref a_clauses :: .ref a_chain :: .int m_next :: .int m_wrong :: .int m_number :: .int m_text :: .int m_made :: .int m_deep :: .int m_lines :: .ref a_open :: .int m_opened :: .ref a_stack :: .int m_top :: .ref a_word :: .ref a_said :: .ref a_kept :: [.int m_goNode, .int m_goDrops, .int m_goHour, .int m_goFelt, .int m_goSalt, .int m_goMore, .ref a_stepNode, .ref a_stepDrops, .ref a_stepHour, .ref a_stepNext, .ref a_stepPass, .int m_bestLeft, .int m_bestHour, .int m_bestMany, .ref a_bestPass, .ref a_far, .ref a_waited, .ref a_servers, .ref a_images, .ref a_isMade])), (a_said, .inl (kA 0, 360, .inl saidF))]) hP hD [0, 1] (by decide) rfl
    refine W.widen (k := 0) (n := 0) (Nat.le_of_ble_eq_true rfl) (Nat.le_of_ble_eq_true rfl) ?_
    exact W.iret (v := (-1)) hx hb hr (fun t ht hW => ⟨⟨(-1), (saidF, (-1)), rfl, ⟨rfl, (hG.trans hG0.symm), hsc⟩, by rw [ht]; exact hP9, hD9⟩, hS.F ht⟩) hS.2.2 dX11_pour_9
theorem gl_mX11_store_0 (zn : Int32) (p0 : Int32) (h0 : ¬ zn < 0) (h1 : ¬ 12 < zn) (h2 : ¬ p0 < 0) (h3 : ¬ zn ≤ p0) : ¬ p0 < (-1) := by grind
theorem gl_mX11_store_1 (zn : Int32) (p0 : Int32) (h0 : ¬ zn < 0) (h1 : ¬ 12 < zn) (h2 : ¬ p0 < 0) (h3 : ¬ zn ≤ p0) : ¬ 12 < p0 := by grind
theorem gl_mX11_store_2 (zn : Int32) (p0 : Int32) (h0 : ¬ zn < 0) (h1 : ¬ 12 < zn) (h2 : ¬ p0 < 0) (h3 : ¬ zn ≤ p0) : (¬ ((20 + (4 * p0)) + 3) < 0 ∧ ¬ 360 ≤ ((20 + (4 * p0)) + 3)) := by grind
theorem gl_mX11_store_3 (zn : Int32) (p0 : Int32) (h0 : ¬ zn < 0) (h1 : ¬ 12 < zn) (h2 : ¬ p0 < 0) (h3 : ¬ zn ≤ p0) : (¬ ((20 + (4 * p0)) + 3) < 20 ∧ ¬ 68 ≤ ((20 + (4 * p0)) + 3)) := by grind
set_option maxRecDepth 100000 in
def fX11_store (saidF : Nat → Int32) (zn : Int32) (p0 : Int32) (p1 : Int32) : (Nat → Int32) × Int32 := if (hs p0 zn) = 0 then ((saidF, (-1))) else (if (li p1.toInt64 0 999999) = 0 then ((saidF, (-1))) else (bnd ((saidF ((20 + (4 * p0)) + 3).toNatClampNeg)) (fun (x34 : Int32) => bnd ((upd saidF ((20 + (4 * p0)) + 3).toNatClampNeg p1)) (fun (f35 : Nat → Int32) => (f35, x34)))))
set_option maxHeartbeats 4000000 in
set_option maxRecDepth 100000 in
theorem mX11_store (l : Launch) (dC : Nat → ClassId) (dI : Nat → Nat → Nat) (kA : Nat → ClassId) (sz : Nat) (n0 : Nat) (m_taped : Int32) (m_laws : Int32) (m_next : Int32) (m_wrong : Int32) (m_number : Int32) (m_text : Int32) (m_made : Int32) (m_deep : Int32) (m_lines : Int32) (m_opened : Int32) (m_top : Int32) (m_goNode : Int32) (m_goDrops : Int32) (m_goHour : Int32) (m_goFelt : Int32) (m_goSalt : Int32) (m_goMore : Int32) (m_bestLeft : Int32) (m_bestHour : Int32) (m_bestMany : Int32) (a_tape : Nat) (a_sign : Nat) (a_length : Nat) (a_clause : Nat) (a_clauses : Nat) (a_chain : Nat) (a_open : Nat) (a_stack : Nat) (a_word : Nat) (a_said : Nat) (a_kept : Nat) (a_stepNode : Nat) (a_stepDrops : Nat) (a_stepHour : Nat) (a_stepNext : Nat) (a_stepPass : Nat) (a_bestPass : Nat) (a_far : Nat) (a_waited : Nat) (a_servers : Nat) (a_images : Nat) (a_isMade : Nat) (saidF : Nat → Int32) (zn : Int32) (zp : Int32) (zj : Int32) (zo : Int32) (zf : Int32) (zm : Int32) (zk : Int32) (zw : Int32) (pd : Nat → Int32) (p0 : Int32) (p1 : Int32) (hsc : SC saidF zn zp zj zo zf zm zk zw pd) : Met l yX11_store wsX11_store ({ frames := 1, cells := 0, slots := 0, locals := 25 }) (zPc dC dI kA sz [.ref n0, .int p0, .int p1] [(n0, .inr (11, .ref a_tape :: .int m_taped :: .int m_laws :: .ref a_sign :: .ref a_length :: .ref a_clause :: .ref a_clauses :: .ref a_chain :: .int m_next :: .int m_wrong :: .int m_number :: .int m_text :: .int m_made :: .int m_deep :: .int m_lines :: .ref a_open :: .int m_opened :: .ref a_stack :: .int m_top :: .ref a_word :: .ref a_said :: .ref a_kept :: [.int m_goNode, .int m_goDrops, .int m_goHour, .int m_goFelt, .int m_goSalt, .int m_goMore, .ref a_stepNode, .ref a_stepDrops, .ref a_stepHour, .ref a_stepNext, .ref a_stepPass, .int m_bestLeft, .int m_bestHour, .int m_bestMany, .ref a_bestPass, .ref a_far, .ref a_waited, .ref a_servers, .ref a_images, .ref a_isMade])), (a_said, .inl (kA 0, 360, .inl saidF))]) (va_Qi (fun (r : Int32) (u : (Nat → Int32) × Int32) => r = u.2 ∧ (u.1, u.2) = fX11_store saidF zn p0 p1 ∧ SC u.1 zn zp zj zo zf zm zk zw pd) (zB dC dI (va_A [(n0, .inr (11, .ref a_tape :: .int m_taped :: .int m_laws :: .ref a_sign :: .ref a_length :: .ref a_clause :: .ref a_clauses :: .ref a_chain :: .int m_next :: .int m_wrong :: .int m_number :: .int m_text :: .int m_made :: .int m_deep :: .int m_lines :: .ref a_open :: .int m_opened :: .ref a_stack :: .int m_top :: .ref a_word :: .ref a_said :: .ref a_kept :: [.int m_goNode, .int m_goDrops, .int m_goHour, .int m_goFelt, .int m_goSalt, .int m_goMore, .ref a_stepNode, .ref a_stepDrops, .ref a_stepHour, .ref a_stepNext, .ref a_stepPass, .int m_bestLeft, .int m_bestHour, .int m_bestMany, .ref a_bestPass, .ref a_far, .ref a_waited, .ref a_servers, .ref a_images, .ref a_isMade])), (a_said, .inl (kA 0, 360, .inl saidF))] sz) (fun (u : (Nat → Int32) × Int32) => [(n0, .inr (11, .ref a_tape :: .int m_taped :: .int m_laws :: .ref a_sign :: .ref a_length :: .ref a_clause :: .ref a_clauses :: .ref a_chain :: .int m_next :: .int m_wrong :: .int m_number :: .int m_text :: .int m_made :: .int m_deep :: .int m_lines :: .ref a_open :: .int m_opened :: .ref a_stack :: .int m_top :: .ref a_word :: .ref a_said :: .ref a_kept :: [.int m_goNode, .int m_goDrops, .int m_goHour, .int m_goFelt, .int m_goSalt, .int m_goMore, .ref a_stepNode, .ref a_stepDrops, .ref a_stepHour, .ref a_stepNext, .ref a_stepPass, .int m_bestLeft, .int m_bestHour, .int m_bestMany, .ref a_bestPass, .ref a_far, .ref a_waited, .ref a_servers, .ref a_images, .ref a_isMade])), (a_said, .inl (kA 0, 360, .inl u.1))])) (va_A [(n0, .inr (11, .ref a_tape :: .int m_taped :: .int m_laws :: .ref a_sign :: .ref a_length :: .ref a_clause :: .ref a_clauses :: .ref a_chain :: .int m_next :: .int m_wrong :: .int m_number :: .int m_text :: .int m_made :: .int m_deep :: .int m_lines :: .ref a_open :: .int m_opened :: .ref a_stack :: .int m_top :: .ref a_word :: .ref a_said :: .ref a_kept :: [.int m_goNode, .int m_goDrops, .int m_goHour, .int m_goFelt, .int m_goSalt, .int m_goMore, .ref a_stepNode, .ref a_stepDrops, .ref a_stepHour, .ref a_stepNext, .ref a_stepPass, .int m_bestLeft, .int m_bestHour, .int m_bestMany, .ref a_bestPass, .ref a_far, .ref a_waited, .ref a_servers, .ref a_images, .ref a_isMade])), (a_said, .inl (kA 0, 360, .inl saidF))] sz)) 0 0 (va_A [(n0, .inr (11, .ref a_tape :: .int m_taped :: .int m_laws :: .ref a_sign :: .ref a_length :: .ref a_clause :: .ref a_clauses :: .ref a_chain :: .int m_next :: .int m_wrong :: .int m_number :: .int m_text :: .int m_made :: .int m_deep :: .int m_lines :: .ref a_open :: .int m_opened :: .ref a_stack :: .int m_top :: .ref a_word :: .ref a_said :: .ref a_kept :: [.int m_goNode, .int m_goDrops, .int m_goHour, .int m_goFelt, .int m_goSalt, .int m_goMore, .ref a_stepNode, .ref a_stepDrops, .ref a_stepHour, .ref a_stepNext, .ref a_stepPass, .int m_bestLeft, .int m_bestHour, .int m_bestMany, .ref a_bestPass, .ref a_far, .ref a_waited, .ref a_servers, .ref a_images, .ref a_isMade])), (a_said, .inl (kA 0, 360, .inl saidF))] sz) := by
  refine Met.ofW (cc := cX11_store) (maxL := 4) (ret := (some .int)) pnX11 rfl ?_
  intro p e s m args below meth c s₁ B hml hv
  obtain ⟨rfl, hsz, hP, hK, hD0⟩ := hv
  have hx := B.exec
  have hb := B.bytes
  have hr := B.returns
  have hts := atoms_spec (ws := wsX11_store) B.pre
  have hown : s.vm.findClass RX11 = some m.cls := findClass_of_methodNamed B.named
  have hlocks := B.notSynchronized
  subst hsz
  have hD := hD0.self (sz := s.heap.size)
  generalize hAe : va_A [(n0, .inr (11, .ref a_tape :: .int m_taped :: .int m_laws :: .ref a_sign :: .ref a_length :: .ref a_clause :: .ref a_clauses :: .ref a_chain :: .int m_next :: .int m_wrong :: .int m_number :: .int m_text :: .int m_made :: .int m_deep :: .int m_lines :: .ref a_open :: .int m_opened :: .ref a_stack :: .int m_top :: .ref a_word :: .ref a_said :: .ref a_kept :: [.int m_goNode, .int m_goDrops, .int m_goHour, .int m_goFelt, .int m_goSalt, .int m_goMore, .ref a_stepNode, .ref a_stepDrops, .ref a_stepHour, .ref a_stepNext, .ref a_stepPass, .int m_bestLeft, .int m_bestHour, .int m_bestMany, .ref a_bestPass, .ref a_far, .ref a_waited, .ref a_servers, .ref a_images, .ref a_isMade])), (a_said, .inl (kA 0, 360, .inl saidF))] s.heap.size = A at hD ⊢
  have hA : ∀ q : Nat, s.heap.size ≤ q → A q := zA_of hAe
  have hS : va_S A s.heap s.heap [] := va_S.rf
  have hP : va_P (dC, dI) vwCl [(n0, .inr (11, .ref a_tape :: .int m_taped :: .int m_laws :: .ref a_sign :: .ref a_length :: .ref a_clause :: .ref a_clauses :: .ref a_chain :: .int m_next :: .int m_wrong :: .int m_number :: .int m_text :: .int m_made :: .int m_deep :: .int m_lines :: .ref a_open :: .int m_opened :: .ref a_stack :: .int m_top :: .ref a_word :: .ref a_said :: .ref a_kept :: [.int m_goNode, .int m_goDrops, .int m_goHour, .int m_goFelt, .int m_goSalt, .int m_goMore, .ref a_stepNode, .ref a_stepDrops, .ref a_stepHour, .ref a_stepNext, .ref a_stepPass, .int m_bestLeft, .int m_bestHour, .int m_bestMany, .ref a_bestPass, .ref a_far, .ref a_waited, .ref a_servers, .ref a_images, .ref a_isMade])), (a_said, .inl (kA 0, 360, .inl saidF))] s.heap := hP
  have hl := lv_entry ([.ref n0, .int p0, .int p1]) (n := 4) (Nat.le_of_ble_eq_true rfl)
  rw [lg_entry_eq]
  generalize (lg_sl ([.ref n0, .int p0, .int p1]) ++ List.replicate (4 - (lg_sl ([.ref n0, .int p0, .int p1])).length) Slot.unset).toArray = ls at hl ⊢
  have hl : lv_has ls 4 [(0, .ref n0), (1, .int p0), (2, .int p1)] := hl
  obtain ⟨H, hHe⟩ : ∃ H : Heap, H = s.heap := ⟨_, rfl⟩
  obtain ⟨G, hG0⟩ : ∃ G : (Nat → Int32) × Int32, fX11_store saidF zn p0 p1 = G := ⟨_, rfl⟩
  have hG := hG0
  unfold fX11_store at hG
  have hz1 : saidF 0 = zn := hsc.1.1
  have hz2 : saidF 1 = zp := hsc.1.2.1
  have hz3 : saidF 2 = zj := hsc.1.2.2.1
  have hz4 : saidF 3 = zo := hsc.1.2.2.2.1
  have hz5 : saidF 4 = zf := hsc.1.2.2.2.2.1
  have hz6 : saidF 6 = zm := hsc.1.2.2.2.2.2.1
  have hz7 : saidF 8 = zk := hsc.1.2.2.2.2.2.2.1
  have hz8 : saidF 9 = zw := hsc.1.2.2.2.2.2.2.2
  have hz9 : ¬ zn < 0 := hsc.2.1.1
  have hz10 : ¬ 12 < zn := hsc.2.1.2
  have hz11 : ¬ zp < 0 := hsc.2.2.1.1
  have hz12 : ¬ 20 < zp := hsc.2.2.1.2
  have hz13 : ¬ zj < 0 := hsc.2.2.2.1.1
  have hz14 : ¬ 16 < zj := hsc.2.2.2.1.2
  have hz15 : ¬ zo < 0 := hsc.2.2.2.2.1.1
  have hz16 : ¬ 6 < zo := hsc.2.2.2.2.1.2
  have hz17 : ¬ zf < 0 := hsc.2.2.2.2.2.1.1
  have hz18 : ¬ 8 < zf := hsc.2.2.2.2.2.1.2
  have hz19 : ¬ zk < (-1) := hsc.2.2.2.2.2.2.1.1
  have hz20 : ¬ 12 ≤ zk := hsc.2.2.2.2.2.2.1.2
  have hz21 : ¬ zw < 0 := hsc.2.2.2.2.2.2.2.1.1
  have hz22 : ¬ 6 < zw := hsc.2.2.2.2.2.2.2.1.2
  refine lv_aload_n hx hb dX11_store_0 rfl (lv_at hl 0 rfl) ?_
  refine lv_iload_n hx hb dX11_store_1 rfl (lv_at hl 1 rfl) ?_
  refine z_i (wr := []) (va_runV (As := [.int p0]) (rest := []) ⟨hx, hb, hml, hown, hts⟩ (mX11_isNode l dC dI kA _ n0 m_taped m_laws m_next m_wrong m_number m_text m_made m_deep m_lines m_opened m_top m_goNode m_goDrops m_goHour m_goFelt m_goSalt m_goMore m_bestLeft m_bestHour m_bestMany a_tape a_sign a_length a_clause a_clauses a_chain a_open a_stack a_word a_said a_kept a_stepNode a_stepDrops a_stepHour a_stepNext a_stepPass a_bestPass a_far a_waited a_servers a_images a_isMade saidF zn zp zj zo zf zm zk zw pd p0 hsc) (cwV 1 hts gX11_store_X11_isNode rfl rfl rfl ⟨rfl, hdX11_isNode⟩ ⟨(Nat.le_of_ble_eq_true rfl), (Nat.le_of_ble_eq_true rfl)⟩) ⟨zPc.blind, va_recv (q := (RX11, TX11, 42)) hK.1 hP (ci := 11) (q0 := 0) rfl rfl, zPre hK (hP.sub [0, 1] rfl) (hD.sub [0, 1] (by decide) rfl)⟩ rfl rfl hl.1 rfl (lv_room (Nat.le_of_ble_eq_true rfl)) dX11_store_2 ⟨(Nat.le_of_ble_eq_true rfl), (Nat.le_of_ble_eq_true rfl)⟩) hP hD hS hA [0, 1] [] rfl rfl (by decide) (by decide) (fun r25 u23 H locs hw24 hP hD hS => ?_)
  obtain rfl := hw24
  obtain ⟨hP, hD⟩ := z_re (L := [(n0, .inr (11, .ref a_tape :: .int m_taped :: .int m_laws :: .ref a_sign :: .ref a_length :: .ref a_clause :: .ref a_clauses :: .ref a_chain :: .int m_next :: .int m_wrong :: .int m_number :: .int m_text :: .int m_made :: .int m_deep :: .int m_lines :: .ref a_open :: .int m_opened :: .ref a_stack :: .int m_top :: .ref a_word :: .ref a_said :: .ref a_kept :: [.int m_goNode, .int m_goDrops, .int m_goHour, .int m_goFelt, .int m_goSalt, .int m_goMore, .ref a_stepNode, .ref a_stepDrops, .ref a_stepHour, .ref a_stepNext, .ref a_stepPass, .int m_bestLeft, .int m_bestHour, .int m_bestMany, .ref a_bestPass, .ref a_far, .ref a_waited, .ref a_servers, .ref a_images, .ref a_isMade])), (a_said, .inl (kA 0, 360, .inl saidF))]) hP hD
  refine lv_if_eq (tgt := 20) hx hb dX11_store_5 (by decide) (fun c_26 => ?_) (fun c_26 => ?_)
  · have hG := zthen hG c_26
    refine lv_iconst (v := (-1)) hx hb dX11_store_20 (by decide) ?_
    obtain ⟨hP9, hD9⟩ := z_sb (L' := [(n0, .inr (11, .ref a_tape :: .int m_taped :: .int m_laws :: .ref a_sign :: .ref a_length :: .ref a_clause :: .ref a_clauses :: .ref a_chain :: .int m_next :: .int m_wrong :: .int m_number :: .int m_text :: .int m_made :: .int m_deep :: .int m_lines :: .ref a_open :: .int m_opened :: .ref a_stack :: .int m_top :: .ref a_word :: .ref a_said :: .ref a_kept :: [.int m_goNode, .int m_goDrops, .int m_goHour, .int m_goFelt, .int m_goSalt, .int m_goMore, .ref a_stepNode, .ref a_stepDrops, .ref a_stepHour, .ref a_stepNext, .ref a_stepPass, .int m_bestLeft, .int m_bestHour, .int m_bestMany, .ref a_bestPass, .ref a_far, .ref a_waited, .ref a_servers, .ref a_images, .ref a_isMade])), (a_said, .inl (kA 0, 360, .inl saidF))]) hP hD [0, 1] (by decide) rfl
    refine W.widen (k := 0) (n := 0) (Nat.le_of_ble_eq_true rfl) (Nat.le_of_ble_eq_true rfl) ?_
    exact W.iret (v := (-1)) hx hb hr (fun t ht hW => ⟨⟨(-1), (saidF, (-1)), rfl, ⟨rfl, (hG.trans hG0.symm), hsc⟩, by rw [ht]; exact hP9, hD9⟩, hS.F ht⟩) hS.2.2 dX11_store_21
  · have hG := zelse hG c_26
    have c_26a := hs_ne c_26
    have c_26b := c_26a.2
    have c_26a := c_26a.1
    refine lv_iload_n hx hb dX11_store_8 rfl (lv_at hl 2 rfl) ?_
    refine lv_i2l hx hb dX11_store_9 rfl ?_
    refine lv_lconst (v := 0) hx hb dX11_store_10 (by decide) ?_
    refine lv_ldc2 hx hb hown (kX11_store_1 hts) dX11_store_11 ?_
    refine z_i (wr := [(n0, .inr (11, .ref a_tape :: .int m_taped :: .int m_laws :: .ref a_sign :: .ref a_length :: .ref a_clause :: .ref a_clauses :: .ref a_chain :: .int m_next :: .int m_wrong :: .int m_number :: .int m_text :: .int m_made :: .int m_deep :: .int m_lines :: .ref a_open :: .int m_opened :: .ref a_stack :: .int m_top :: .ref a_word :: .ref a_said :: .ref a_kept :: [.int m_goNode, .int m_goDrops, .int m_goHour, .int m_goFelt, .int m_goSalt, .int m_goMore, .ref a_stepNode, .ref a_stepDrops, .ref a_stepHour, .ref a_stepNext, .ref a_stepPass, .int m_bestLeft, .int m_bestHour, .int m_bestMany, .ref a_bestPass, .ref a_far, .ref a_waited, .ref a_servers, .ref a_images, .ref a_isMade])), (a_said, .inl (kA 0, 360, .inl saidF))]) (va_runS (As := [.long p1.toInt64, .long 0, .long 999999]) (rest := []) ⟨hx, hb, hml, hown, hts⟩ (mX11_in l dC dI kA _ p1.toInt64 0 999999) (va_cwS 3 hts gX11_store_X11_in rfl rfl rfl hdX11_in ⟨(Nat.le_of_ble_eq_true rfl), (Nat.le_of_ble_eq_true rfl)⟩) ⟨zPc.blind, zPre hK (hP.sub [] rfl) (hD.sub [] (by decide) rfl)⟩ rfl rfl hl.1 rfl (lv_room (Nat.le_of_ble_eq_true rfl)) dX11_store_14 ⟨(Nat.le_of_ble_eq_true rfl), (Nat.le_of_ble_eq_true rfl)⟩) hP hD hS hA [] [0, 1] rfl rfl (by decide) (by decide) (fun r29 u27 H locs hw28 hP hD hS => ?_)
    obtain rfl := hw28
    obtain ⟨hP, hD⟩ := z_re (L := [(n0, .inr (11, .ref a_tape :: .int m_taped :: .int m_laws :: .ref a_sign :: .ref a_length :: .ref a_clause :: .ref a_clauses :: .ref a_chain :: .int m_next :: .int m_wrong :: .int m_number :: .int m_text :: .int m_made :: .int m_deep :: .int m_lines :: .ref a_open :: .int m_opened :: .ref a_stack :: .int m_top :: .ref a_word :: .ref a_said :: .ref a_kept :: [.int m_goNode, .int m_goDrops, .int m_goHour, .int m_goFelt, .int m_goSalt, .int m_goMore, .ref a_stepNode, .ref a_stepDrops, .ref a_stepHour, .ref a_stepNext, .ref a_stepPass, .int m_bestLeft, .int m_bestHour, .int m_bestMany, .ref a_bestPass, .ref a_far, .ref a_waited, .ref a_servers, .ref a_images, .ref a_isMade])), (a_said, .inl (kA 0, 360, .inl saidF))]) hP hD
    refine lv_if_ne (tgt := 22) hx hb dX11_store_17 (by decide) (fun c_30 => ?_) (fun c_30 => ?_)
    · have hG := zelse hG c_30
      have c_30a := li_ne (lo := 0) (hi := 999999) (by decide) (by decide) c_30
      have c_30b := c_30a.2
      have c_30a := c_30a.1
      refine lv_aload_n hx hb dX11_store_22 rfl (lv_at hl 0 rfl) ?_
      refine lv_iload_n hx hb dX11_store_23 rfl (lv_at hl 1 rfl) ?_
      refine lv_iconst (v := 3) hx hb dX11_store_24 (by decide) ?_
      refine z_i (wr := []) (va_runV (As := [.int p0, .int 3]) (rest := []) ⟨hx, hb, hml, hown, hts⟩ (mX11_nodeOf l dC dI kA _ n0 m_taped m_laws m_next m_wrong m_number m_text m_made m_deep m_lines m_opened m_top m_goNode m_goDrops m_goHour m_goFelt m_goSalt m_goMore m_bestLeft m_bestHour m_bestMany a_tape a_sign a_length a_clause a_clauses a_chain a_open a_stack a_word a_said a_kept a_stepNode a_stepDrops a_stepHour a_stepNext a_stepPass a_bestPass a_far a_waited a_servers a_images a_isMade saidF p0 3 (gl_mX11_store_0 zn p0 hz9 hz10 c_26a c_26b) (gl_mX11_store_1 zn p0 hz9 hz10 c_26a c_26b) (by decide) (by decide)) (cwV 2 hts gX11_store_X11_nodeOf rfl rfl rfl ⟨rfl, hdX11_nodeOf⟩ ⟨(Nat.le_of_ble_eq_true rfl), (Nat.le_of_ble_eq_true rfl)⟩) ⟨zPc.blind, va_recv (q := (RX11, TX11, 42)) hK.1 hP (ci := 11) (q0 := 0) rfl rfl, zPre hK (hP.sub [0, 1] rfl) (hD.sub [0, 1] (by decide) rfl)⟩ rfl rfl hl.1 rfl (lv_room (Nat.le_of_ble_eq_true rfl)) dX11_store_25 ⟨(Nat.le_of_ble_eq_true rfl), (Nat.le_of_ble_eq_true rfl)⟩) hP hD hS hA [0, 1] [] rfl rfl (by decide) (by decide) (fun r33 u31 H locs hw32 hP hD hS => ?_)
      obtain rfl := hw32
      obtain ⟨hP, hD⟩ := z_re (L := [(n0, .inr (11, .ref a_tape :: .int m_taped :: .int m_laws :: .ref a_sign :: .ref a_length :: .ref a_clause :: .ref a_clauses :: .ref a_chain :: .int m_next :: .int m_wrong :: .int m_number :: .int m_text :: .int m_made :: .int m_deep :: .int m_lines :: .ref a_open :: .int m_opened :: .ref a_stack :: .int m_top :: .ref a_word :: .ref a_said :: .ref a_kept :: [.int m_goNode, .int m_goDrops, .int m_goHour, .int m_goFelt, .int m_goSalt, .int m_goMore, .ref a_stepNode, .ref a_stepDrops, .ref a_stepHour, .ref a_stepNext, .ref a_stepPass, .int m_bestLeft, .int m_bestHour, .int m_bestMany, .ref a_bestPass, .ref a_far, .ref a_waited, .ref a_servers, .ref a_images, .ref a_isMade])), (a_said, .inl (kA 0, 360, .inl saidF))]) hP hD
      refine lv_topi (fun x34 ex34 => ?_)
      have hG := zbnd hG ex34
      refine lv_istore_n (lv' := [(3, .int x34), (0, .ref n0), (1, .int p0), (2, .int p1)]) hx hb dX11_store_28 rfl hl (by decide) rfl (fun ls hl => ?_)
      refine lv_aload_n hx hb dX11_store_29 rfl (lv_at hl 1 rfl) ?_
      refine va_get (D := (dC, dI)) (ci := 11) (v := .ref a_said) (C := RX11) (T := TX11) (N := 42) hx hb hts iX11_store_X11 hown hK.1 hP 0 gz0 vcz11 20 (by decide) (kX11_store_2 hts) (fun _ h9 => h9) gz20 dX11_store_30 ?_
      refine lv_bipush (v := 20) hx hb dX11_store_33 (by decide) ?_
      refine lv_iconst (v := 4) hx hb dX11_store_35 (by decide) ?_
      refine lv_iload_n hx hb dX11_store_36 rfl (lv_at hl 2 rfl) ?_
      refine lv_imul hx hb dX11_store_37 ?_
      refine lv_iadd hx hb dX11_store_38 ?_
      refine lv_iconst (v := 3) hx hb dX11_store_39 (by decide) ?_
      refine lv_iadd hx hb dX11_store_40 ?_
      refine lv_iload_n hx hb dX11_store_41 rfl (lv_at hl 3 rfl) ?_
      refine va_iast hx hb hK.1 hP hD hS 1 0 gz1 tzz0 (vp_g (N := 360) (by decide) (gl_mX11_store_2 zn p0 hz9 hz10 c_26a c_26b)) dX11_store_42 (fun H locs hP hD hS => ?_)
      obtain ⟨hP, hD⟩ := z_re (L := [(n0, .inr (11, .ref a_tape :: .int m_taped :: .int m_laws :: .ref a_sign :: .ref a_length :: .ref a_clause :: .ref a_clauses :: .ref a_chain :: .int m_next :: .int m_wrong :: .int m_number :: .int m_text :: .int m_made :: .int m_deep :: .int m_lines :: .ref a_open :: .int m_opened :: .ref a_stack :: .int m_top :: .ref a_word :: .ref a_said :: .ref a_kept :: [.int m_goNode, .int m_goDrops, .int m_goHour, .int m_goFelt, .int m_goSalt, .int m_goMore, .ref a_stepNode, .ref a_stepDrops, .ref a_stepHour, .ref a_stepNext, .ref a_stepPass, .int m_bestLeft, .int m_bestHour, .int m_bestMany, .ref a_bestPass, .ref a_far, .ref a_waited, .ref a_servers, .ref a_images, .ref a_isMade])), (a_said, .inl (kA 0, 360, .inl (upd saidF ((20 + (4 * p0)) + 3).toNatClampNeg p1)))]) hP hD
      obtain ⟨f35, ef35⟩ : ∃ y : Nat → Int32, y = (upd saidF ((20 + (4 * p0)) + 3).toNatClampNeg p1) := ⟨_, rfl⟩
      rw [← ef35] at hP hD
      have hG := zbnd hG ef35
      have hu36 := upd_at ef35
      have hk37 : SC f35 zn zp zj zo zf zm zk zw pd := by rw [ef35]; exact SC_nd hsc (gl_mX11_store_3 zn p0 hz9 hz10 c_26a c_26b)
      have hz38 : f35 0 = zn := hk37.1.1
      have hz39 : f35 1 = zp := hk37.1.2.1
      have hz40 : f35 2 = zj := hk37.1.2.2.1
      have hz41 : f35 3 = zo := hk37.1.2.2.2.1
      have hz42 : f35 4 = zf := hk37.1.2.2.2.2.1
      have hz43 : f35 6 = zm := hk37.1.2.2.2.2.2.1
      have hz44 : f35 8 = zk := hk37.1.2.2.2.2.2.2.1
      have hz45 : f35 9 = zw := hk37.1.2.2.2.2.2.2.2
      refine lv_iload_n hx hb dX11_store_43 rfl (lv_at hl 0 rfl) ?_
      obtain ⟨hP9, hD9⟩ := z_sb (L' := [(n0, .inr (11, .ref a_tape :: .int m_taped :: .int m_laws :: .ref a_sign :: .ref a_length :: .ref a_clause :: .ref a_clauses :: .ref a_chain :: .int m_next :: .int m_wrong :: .int m_number :: .int m_text :: .int m_made :: .int m_deep :: .int m_lines :: .ref a_open :: .int m_opened :: .ref a_stack :: .int m_top :: .ref a_word :: .ref a_said :: .ref a_kept :: [.int m_goNode, .int m_goDrops, .int m_goHour, .int m_goFelt, .int m_goSalt, .int m_goMore, .ref a_stepNode, .ref a_stepDrops, .ref a_stepHour, .ref a_stepNext, .ref a_stepPass, .int m_bestLeft, .int m_bestHour, .int m_bestMany, .ref a_bestPass, .ref a_far, .ref a_waited, .ref a_servers, .ref a_images, .ref a_isMade])), (a_said, .inl (kA 0, 360, .inl f35))]) hP hD [0, 1] (by decide) rfl
      refine W.widen (k := 0) (n := 0) (Nat.le_of_ble_eq_true rfl) (Nat.le_of_ble_eq_true rfl) ?_
      exact W.iret (v := x34) hx hb hr (fun t ht hW => ⟨⟨x34, (f35, x34), rfl, ⟨rfl, (hG.trans hG0.symm), hk37⟩, by rw [ht]; exact hP9, hD9⟩, hS.F ht⟩) hS.2.2 dX11_store_44
    · have hG := zthen hG c_30
      refine lv_iconst (v := (-1)) hx hb dX11_store_20 (by decide) ?_
      obtain ⟨hP9, hD9⟩ := z_sb (L' := [(n0, .inr (11, .ref a_tape :: .int m_taped :: .int m_laws :: .ref a_sign :: .ref a_length :: .ref a_clause :: .ref a_clauses :: .ref a_chain :: .int m_next :: .int m_wrong :: .int m_number :: .int m_text :: .int m_made :: .int m_deep :: .int m_lines :: .ref a_open :: .int m_opened :: .ref a_stack :: .int m_top :: .ref a_word :: .ref a_said :: .ref a_kept :: [.int m_goNode, .int m_goDrops, .int m_goHour, .int m_goFelt, .int m_goSalt, .int m_goMore, .ref a_stepNode, .ref a_stepDrops, .ref a_stepHour, .ref a_stepNext, .ref a_stepPass, .int m_bestLeft, .int m_bestHour, .int m_bestMany, .ref a_bestPass, .ref a_far, .ref a_waited, .ref a_servers, .ref a_images, .ref a_isMade])), (a_said, .inl (kA 0, 360, .inl saidF))]) hP hD [0, 1] (by decide) rfl
      refine W.widen (k := 0) (n := 0) (Nat.le_of_ble_eq_true rfl) (Nat.le_of_ble_eq_true rfl) ?_
      exact W.iret (v := (-1)) hx hb hr (fun t ht hW => ⟨⟨(-1), (saidF, (-1)), rfl, ⟨rfl, (hG.trans hG0.symm), hsc⟩, by rw [ht]; exact hP9, hD9⟩, hS.F ht⟩) hS.2.2 dX11_store_21
theorem gl_mX11_leave_0 (saidF : Nat → Int32) (zj : Int32) (p0 : Int32) (r25 : Int32) (h0 : ¬ zj < 0) (h1 : ¬ 16 < zj) (h2 : (¬ (r25 : Int32) = 0 → (¬ p0 < 0 ∧ ¬ zj ≤ p0 ∧ ¬ (saidF ((168 + (9 * p0)) + 5).toNatClampNeg) < 0 ∧ (saidF ((168 + (9 * p0)) + 5).toNatClampNeg) < 12))) (h3 : ¬ r25 = 0) : ¬ p0 < 0 := by grind
theorem gl_mX11_leave_1 (saidF : Nat → Int32) (zj : Int32) (p0 : Int32) (r25 : Int32) (h0 : ¬ zj < 0) (h1 : ¬ 16 < zj) (h2 : (¬ (r25 : Int32) = 0 → (¬ p0 < 0 ∧ ¬ zj ≤ p0 ∧ ¬ (saidF ((168 + (9 * p0)) + 5).toNatClampNeg) < 0 ∧ (saidF ((168 + (9 * p0)) + 5).toNatClampNeg) < 12))) (h3 : ¬ r25 = 0) : ¬ 16 ≤ p0 := by grind
theorem gl_mX11_leave_2 (saidF : Nat → Int32) (zj : Int32) (p0 : Int32) (r25 : Int32) (x48 : Int32) (h0 : ¬ zj < 0) (h1 : ¬ 16 < zj) (h2 : (¬ (r25 : Int32) = 0 → (¬ p0 < 0 ∧ ¬ zj ≤ p0 ∧ ¬ (saidF ((168 + (9 * p0)) + 5).toNatClampNeg) < 0 ∧ (saidF ((168 + (9 * p0)) + 5).toNatClampNeg) < 12))) (h3 : ¬ r25 = 0) (h4 : ¬ (saidF ((168 + (9 * p0)) + 5).toNatClampNeg) < 0) (h5 : ¬ 13 < (saidF ((168 + (9 * p0)) + 5).toNatClampNeg)) (h6 : x48 = (168 + (9 * p0))) : (¬ (x48 + 5) < 0 ∧ ¬ 360 ≤ (x48 + 5)) := by grind
theorem gl_mX11_leave_3 (saidF : Nat → Int32) (zj : Int32) (p0 : Int32) (r25 : Int32) (x48 : Int32) (h0 : ¬ zj < 0) (h1 : ¬ 16 < zj) (h2 : (¬ (r25 : Int32) = 0 → (¬ p0 < 0 ∧ ¬ zj ≤ p0 ∧ ¬ (saidF ((168 + (9 * p0)) + 5).toNatClampNeg) < 0 ∧ (saidF ((168 + (9 * p0)) + 5).toNatClampNeg) < 12))) (h3 : ¬ r25 = 0) (h4 : ¬ (saidF ((168 + (9 * p0)) + 5).toNatClampNeg) < 0) (h5 : ¬ 13 < (saidF ((168 + (9 * p0)) + 5).toNatClampNeg)) (h6 : x48 = (168 + (9 * p0))) : (¬ (x48 + 8) < 0 ∧ ¬ 360 ≤ (x48 + 8)) := by grind
theorem gl_mX11_leave_4 (saidF : Nat → Int32) (zj : Int32) (p0 : Int32) (r25 : Int32) (x48 : Int32) (h0 : ¬ zj < 0) (h1 : ¬ 16 < zj) (h2 : (¬ (r25 : Int32) = 0 → (¬ p0 < 0 ∧ ¬ zj ≤ p0 ∧ ¬ (saidF ((168 + (9 * p0)) + 5).toNatClampNeg) < 0 ∧ (saidF ((168 + (9 * p0)) + 5).toNatClampNeg) < 12))) (h3 : ¬ r25 = 0) (h4 : ¬ (saidF ((168 + (9 * p0)) + 5).toNatClampNeg) < 0) (h5 : ¬ 13 < (saidF ((168 + (9 * p0)) + 5).toNatClampNeg)) (h6 : x48 = (168 + (9 * p0))) : (¬ (x48 + 6) < 0 ∧ ¬ 360 ≤ (x48 + 6)) := by grind
theorem gl_mX11_leave_5 (saidF : Nat → Int32) (zj : Int32) (p0 : Int32) (r25 : Int32) (h0 : ¬ zj < 0) (h1 : ¬ 16 < zj) (h2 : (¬ (r25 : Int32) = 0 → (¬ p0 < 0 ∧ ¬ zj ≤ p0 ∧ ¬ (saidF ((168 + (9 * p0)) + 5).toNatClampNeg) < 0 ∧ (saidF ((168 + (9 * p0)) + 5).toNatClampNeg) < 12))) (h3 : ¬ r25 = 0) (h4 : ¬ (saidF ((168 + (9 * p0)) + 5).toNatClampNeg) < 0) (h5 : ¬ 13 < (saidF ((168 + (9 * p0)) + 5).toNatClampNeg)) : ¬ p0 < 0 := by grind
theorem gl_mX11_leave_6 (saidF : Nat → Int32) (zj : Int32) (p0 : Int32) (r25 : Int32) (h0 : ¬ zj < 0) (h1 : ¬ 16 < zj) (h2 : (¬ (r25 : Int32) = 0 → (¬ p0 < 0 ∧ ¬ zj ≤ p0 ∧ ¬ (saidF ((168 + (9 * p0)) + 5).toNatClampNeg) < 0 ∧ (saidF ((168 + (9 * p0)) + 5).toNatClampNeg) < 12))) (h3 : ¬ r25 = 0) (h4 : ¬ (saidF ((168 + (9 * p0)) + 5).toNatClampNeg) < 0) (h5 : ¬ 13 < (saidF ((168 + (9 * p0)) + 5).toNatClampNeg)) : ¬ 16 ≤ p0 := by grind
theorem gl_mX11_leave_7 (saidF : Nat → Int32) (zj : Int32) (p0 : Int32) (r25 : Int32) (x48 : Int32) (h0 : ¬ zj < 0) (h1 : ¬ 16 < zj) (h2 : (¬ (r25 : Int32) = 0 → (¬ p0 < 0 ∧ ¬ zj ≤ p0 ∧ ¬ (saidF ((168 + (9 * p0)) + 5).toNatClampNeg) < 0 ∧ (saidF ((168 + (9 * p0)) + 5).toNatClampNeg) < 12))) (h3 : ¬ r25 = 0) (h4 : ¬ (saidF ((168 + (9 * p0)) + 5).toNatClampNeg) < 0) (h5 : ¬ 13 < (saidF ((168 + (9 * p0)) + 5).toNatClampNeg)) (h6 : x48 = (168 + (9 * p0))) : ((x48 + 8) = 168 + 9 * p0 + 8) := by grind
theorem gl_mX11_leave_8 (saidF : Nat → Int32) (zj : Int32) (p0 : Int32) (r25 : Int32) (x48 : Int32) (h0 : ¬ zj < 0) (h1 : ¬ 16 < zj) (h2 : (¬ (r25 : Int32) = 0 → (¬ p0 < 0 ∧ ¬ zj ≤ p0 ∧ ¬ (saidF ((168 + (9 * p0)) + 5).toNatClampNeg) < 0 ∧ (saidF ((168 + (9 * p0)) + 5).toNatClampNeg) < 12))) (h3 : ¬ r25 = 0) (h4 : ¬ (saidF ((168 + (9 * p0)) + 5).toNatClampNeg) < 0) (h5 : ¬ 13 < (saidF ((168 + (9 * p0)) + 5).toNatClampNeg)) (h6 : x48 = (168 + (9 * p0))) : ((x48 + 5) = 168 + 9 * p0 + 5) := by grind
theorem gl_mX11_leave_9 (saidF : Nat → Int32) (zj : Int32) (p0 : Int32) (r25 : Int32) (x48 : Int32) (h0 : ¬ zj < 0) (h1 : ¬ 16 < zj) (h2 : (¬ (r25 : Int32) = 0 → (¬ p0 < 0 ∧ ¬ zj ≤ p0 ∧ ¬ (saidF ((168 + (9 * p0)) + 5).toNatClampNeg) < 0 ∧ (saidF ((168 + (9 * p0)) + 5).toNatClampNeg) < 12))) (h3 : ¬ r25 = 0) (h4 : ¬ (saidF ((168 + (9 * p0)) + 5).toNatClampNeg) < 0) (h5 : ¬ 13 < (saidF ((168 + (9 * p0)) + 5).toNatClampNeg)) (h6 : x48 = (168 + (9 * p0))) : ((x48 + 6) = 168 + 9 * p0 + 6) := by grind
theorem gl_mX11_leave_10 (zp : Int32) (p1 : Int32) (h0 : ¬ zp < 0) (h1 : ¬ 20 < zp) (h2 : ¬ p1 < 0) (h3 : ¬ zp ≤ p1) : (¬ p1 < 0 ∧ ¬ zp ≤ p1) := by grind
theorem gl_mX11_leave_11 (saidF : Nat → Int32) (zj : Int32) (p0 : Int32) (r25 : Int32) (x48 : Int32) (h0 : ¬ zj < 0) (h1 : ¬ 16 < zj) (h2 : (¬ (r25 : Int32) = 0 → (¬ p0 < 0 ∧ ¬ zj ≤ p0 ∧ ¬ (saidF ((168 + (9 * p0)) + 5).toNatClampNeg) < 0 ∧ (saidF ((168 + (9 * p0)) + 5).toNatClampNeg) < 12))) (h3 : ¬ r25 = 0) (h4 : ¬ (saidF ((168 + (9 * p0)) + 5).toNatClampNeg) < 0) (h5 : ¬ 13 < (saidF ((168 + (9 * p0)) + 5).toNatClampNeg)) (h6 : x48 = (168 + (9 * p0))) : (¬ (x48 + 7) < 0 ∧ ¬ 360 ≤ (x48 + 7)) := by grind
theorem gl_mX11_leave_12 (saidF : Nat → Int32) (zj : Int32) (p0 : Int32) (r25 : Int32) (x48 : Int32) (h0 : ¬ zj < 0) (h1 : ¬ 16 < zj) (h2 : (¬ (r25 : Int32) = 0 → (¬ p0 < 0 ∧ ¬ zj ≤ p0 ∧ ¬ (saidF ((168 + (9 * p0)) + 5).toNatClampNeg) < 0 ∧ (saidF ((168 + (9 * p0)) + 5).toNatClampNeg) < 12))) (h3 : ¬ r25 = 0) (h4 : ¬ (saidF ((168 + (9 * p0)) + 5).toNatClampNeg) < 0) (h5 : ¬ 13 < (saidF ((168 + (9 * p0)) + 5).toNatClampNeg)) (h6 : x48 = (168 + (9 * p0))) : ((x48 + 7) = 168 + 9 * p0 + 7) := by grind
set_option maxRecDepth 100000 in
def fX11_leave (saidF : Nat → Int32) (zp : Int32) (zj : Int32) (p0 : Int32) (p1 : Int32) : (Nat → Int32) × Int32 := bnd (fX11_stands saidF zj p0) (fun (r25 : Int32) => if r25 = 0 then ((saidF, 0)) else (if (hs p1 zp) = 0 then ((saidF, 0)) else (if 0 ≤ (oth saidF p1 (saidF ((168 + (9 * p0)) + 5).toNatClampNeg)) then (bnd ((168 + (9 * p0))) (fun (x48 : Int32) => bnd (saidF (x48 + 5).toNatClampNeg) (fun (x49 : Int32) => bnd ((upd saidF (x48 + 8).toNatClampNeg (oth saidF p1 x49))) (fun (f55 : Nat → Int32) => bnd ((upd f55 (x48 + 5).toNatClampNeg 12)) (fun (f57 : Nat → Int32) => bnd ((upd f57 (x48 + 6).toNatClampNeg p1)) (fun (f59 : Nat → Int32) => bnd ((upd f59 (x48 + 7).toNatClampNeg 0)) (fun (f71 : Nat → Int32) => (f71, 1)))))))) else ((saidF, 0)))))
set_option maxHeartbeats 4000000 in
set_option maxRecDepth 100000 in
theorem mX11_leave (l : Launch) (dC : Nat → ClassId) (dI : Nat → Nat → Nat) (kA : Nat → ClassId) (sz : Nat) (n0 : Nat) (m_taped : Int32) (m_laws : Int32) (m_next : Int32) (m_wrong : Int32) (m_number : Int32) (m_text : Int32) (m_made : Int32) (m_deep : Int32) (m_lines : Int32) (m_opened : Int32) (m_top : Int32) (m_goNode : Int32) (m_goDrops : Int32) (m_goHour : Int32) (m_goFelt : Int32) (m_goSalt : Int32) (m_goMore : Int32) (m_bestLeft : Int32) (m_bestHour : Int32) (m_bestMany : Int32) (a_tape : Nat) (a_sign : Nat) (a_length : Nat) (a_clause : Nat) (a_clauses : Nat) (a_chain : Nat) (a_open : Nat) (a_stack : Nat) (a_word : Nat) (a_said : Nat) (a_kept : Nat) (a_stepNode : Nat) (a_stepDrops : Nat) (a_stepHour : Nat) (a_stepNext : Nat) (a_stepPass : Nat) (a_bestPass : Nat) (a_far : Nat) (a_waited : Nat) (a_servers : Nat) (a_images : Nat) (a_isMade : Nat) (saidF : Nat → Int32) (zn : Int32) (zp : Int32) (zj : Int32) (zo : Int32) (zf : Int32) (zm : Int32) (zk : Int32) (zw : Int32) (pd : Nat → Int32) (p0 : Int32) (p1 : Int32) (hsc : SC saidF zn zp zj zo zf zm zk zw pd) : Met l yX11_leave wsX11_leave ({ frames := 2, cells := 0, slots := 0, locals := 44 }) (zPc dC dI kA sz [.ref n0, .int p0, .int p1] [(n0, .inr (11, .ref a_tape :: .int m_taped :: .int m_laws :: .ref a_sign :: .ref a_length :: .ref a_clause :: .ref a_clauses :: .ref a_chain :: .int m_next :: .int m_wrong :: .int m_number :: .int m_text :: .int m_made :: .int m_deep :: .int m_lines :: .ref a_open :: .int m_opened :: .ref a_stack :: .int m_top :: .ref a_word :: .ref a_said :: .ref a_kept :: [.int m_goNode, .int m_goDrops, .int m_goHour, .int m_goFelt, .int m_goSalt, .int m_goMore, .ref a_stepNode, .ref a_stepDrops, .ref a_stepHour, .ref a_stepNext, .ref a_stepPass, .int m_bestLeft, .int m_bestHour, .int m_bestMany, .ref a_bestPass, .ref a_far, .ref a_waited, .ref a_servers, .ref a_images, .ref a_isMade])), (a_said, .inl (kA 0, 360, .inl saidF))]) (va_Qi (fun (r : Int32) (u : (Nat → Int32) × Int32) => r = u.2 ∧ (u.1, u.2) = fX11_leave saidF zp zj p0 p1 ∧ (u.2 = 0 ∨ u.2 = 1) ∧ SC u.1 zn zp zj zo zf zm zk zw pd) (zB dC dI (va_A [(n0, .inr (11, .ref a_tape :: .int m_taped :: .int m_laws :: .ref a_sign :: .ref a_length :: .ref a_clause :: .ref a_clauses :: .ref a_chain :: .int m_next :: .int m_wrong :: .int m_number :: .int m_text :: .int m_made :: .int m_deep :: .int m_lines :: .ref a_open :: .int m_opened :: .ref a_stack :: .int m_top :: .ref a_word :: .ref a_said :: .ref a_kept :: [.int m_goNode, .int m_goDrops, .int m_goHour, .int m_goFelt, .int m_goSalt, .int m_goMore, .ref a_stepNode, .ref a_stepDrops, .ref a_stepHour, .ref a_stepNext, .ref a_stepPass, .int m_bestLeft, .int m_bestHour, .int m_bestMany, .ref a_bestPass, .ref a_far, .ref a_waited, .ref a_servers, .ref a_images, .ref a_isMade])), (a_said, .inl (kA 0, 360, .inl saidF))] sz) (fun (u : (Nat → Int32) × Int32) => [(n0, .inr (11, .ref a_tape :: .int m_taped :: .int m_laws :: .ref a_sign :: .ref a_length :: .ref a_clause :: .ref a_clauses :: .ref a_chain :: .int m_next :: .int m_wrong :: .int m_number :: .int m_text :: .int m_made :: .int m_deep :: .int m_lines :: .ref a_open :: .int m_opened :: .ref a_stack :: .int m_top :: .ref a_word :: .ref a_said :: .ref a_kept :: [.int m_goNode, .int m_goDrops, .int m_goHour, .int m_goFelt, .int m_goSalt, .int m_goMore, .ref a_stepNode, .ref a_stepDrops, .ref a_stepHour, .ref a_stepNext, .ref a_stepPass, .int m_bestLeft, .int m_bestHour, .int m_bestMany, .ref a_bestPass, .ref a_far, .ref a_waited, .ref a_servers, .ref a_images, .ref a_isMade])), (a_said, .inl (kA 0, 360, .inl u.1))])) (va_A [(n0, .inr (11, .ref a_tape :: .int m_taped :: .int m_laws :: .ref a_sign :: .ref a_length :: .ref a_clause :: .ref a_clauses :: .ref a_chain :: .int m_next :: .int m_wrong :: .int m_number :: .int m_text :: .int m_made :: .int m_deep :: .int m_lines :: .ref a_open :: .int m_opened :: .ref a_stack :: .int m_top :: .ref a_word :: .ref a_said :: .ref a_kept :: [.int m_goNode, .int m_goDrops, .int m_goHour, .int m_goFelt, .int m_goSalt, .int m_goMore, .ref a_stepNode, .ref a_stepDrops, .ref a_stepHour, .ref a_stepNext, .ref a_stepPass, .int m_bestLeft, .int m_bestHour, .int m_bestMany, .ref a_bestPass, .ref a_far, .ref a_waited, .ref a_servers, .ref a_images, .ref a_isMade])), (a_said, .inl (kA 0, 360, .inl saidF))] sz)) 0 0 (va_A [(n0, .inr (11, .ref a_tape :: .int m_taped :: .int m_laws :: .ref a_sign :: .ref a_length :: .ref a_clause :: .ref a_clauses :: .ref a_chain :: .int m_next :: .int m_wrong :: .int m_number :: .int m_text :: .int m_made :: .int m_deep :: .int m_lines :: .ref a_open :: .int m_opened :: .ref a_stack :: .int m_top :: .ref a_word :: .ref a_said :: .ref a_kept :: [.int m_goNode, .int m_goDrops, .int m_goHour, .int m_goFelt, .int m_goSalt, .int m_goMore, .ref a_stepNode, .ref a_stepDrops, .ref a_stepHour, .ref a_stepNext, .ref a_stepPass, .int m_bestLeft, .int m_bestHour, .int m_bestMany, .ref a_bestPass, .ref a_far, .ref a_waited, .ref a_servers, .ref a_images, .ref a_isMade])), (a_said, .inl (kA 0, 360, .inl saidF))] sz) := by
  refine Met.ofW (cc := cX11_leave) (maxL := 4) (ret := (some .boolean)) pnX11 rfl ?_
  intro p e s m args below meth c s₁ B hml hv
  obtain ⟨rfl, hsz, hP, hK, hD0⟩ := hv
  have hx := B.exec
  have hb := B.bytes
  have hr := B.returns
  have hts := atoms_spec (ws := wsX11_leave) B.pre
  have hown : s.vm.findClass RX11 = some m.cls := findClass_of_methodNamed B.named
  have hlocks := B.notSynchronized
  subst hsz
  have hD := hD0.self (sz := s.heap.size)
  generalize hAe : va_A [(n0, .inr (11, .ref a_tape :: .int m_taped :: .int m_laws :: .ref a_sign :: .ref a_length :: .ref a_clause :: .ref a_clauses :: .ref a_chain :: .int m_next :: .int m_wrong :: .int m_number :: .int m_text :: .int m_made :: .int m_deep :: .int m_lines :: .ref a_open :: .int m_opened :: .ref a_stack :: .int m_top :: .ref a_word :: .ref a_said :: .ref a_kept :: [.int m_goNode, .int m_goDrops, .int m_goHour, .int m_goFelt, .int m_goSalt, .int m_goMore, .ref a_stepNode, .ref a_stepDrops, .ref a_stepHour, .ref a_stepNext, .ref a_stepPass, .int m_bestLeft, .int m_bestHour, .int m_bestMany, .ref a_bestPass, .ref a_far, .ref a_waited, .ref a_servers, .ref a_images, .ref a_isMade])), (a_said, .inl (kA 0, 360, .inl saidF))] s.heap.size = A at hD ⊢
  have hA : ∀ q : Nat, s.heap.size ≤ q → A q := zA_of hAe
  have hS : va_S A s.heap s.heap [] := va_S.rf
  have hP : va_P (dC, dI) vwCl [(n0, .inr (11, .ref a_tape :: .int m_taped :: .int m_laws :: .ref a_sign :: .ref a_length :: .ref a_clause :: .ref a_clauses :: .ref a_chain :: .int m_next :: .int m_wrong :: .int m_number :: .int m_text :: .int m_made :: .int m_deep :: .int m_lines :: .ref a_open :: .int m_opened :: .ref a_stack :: .int m_top :: .ref a_word :: .ref a_said :: .ref a_kept :: [.int m_goNode, .int m_goDrops, .int m_goHour, .int m_goFelt, .int m_goSalt, .int m_goMore, .ref a_stepNode, .ref a_stepDrops, .ref a_stepHour, .ref a_stepNext, .ref a_stepPass, .int m_bestLeft, .int m_bestHour, .int m_bestMany, .ref a_bestPass, .ref a_far, .ref a_waited, .ref a_servers, .ref a_images, .ref a_isMade])), (a_said, .inl (kA 0, 360, .inl saidF))] s.heap := hP
  have hl := lv_entry ([.ref n0, .int p0, .int p1]) (n := 4) (Nat.le_of_ble_eq_true rfl)
  rw [lg_entry_eq]
  generalize (lg_sl ([.ref n0, .int p0, .int p1]) ++ List.replicate (4 - (lg_sl ([.ref n0, .int p0, .int p1])).length) Slot.unset).toArray = ls at hl ⊢
  have hl : lv_has ls 4 [(0, .ref n0), (1, .int p0), (2, .int p1)] := hl
  obtain ⟨H, hHe⟩ : ∃ H : Heap, H = s.heap := ⟨_, rfl⟩
  obtain ⟨G, hG0⟩ : ∃ G : (Nat → Int32) × Int32, fX11_leave saidF zp zj p0 p1 = G := ⟨_, rfl⟩
  have hG := hG0
  unfold fX11_leave at hG
  have hz1 : saidF 0 = zn := hsc.1.1
  have hz2 : saidF 1 = zp := hsc.1.2.1
  have hz3 : saidF 2 = zj := hsc.1.2.2.1
  have hz4 : saidF 3 = zo := hsc.1.2.2.2.1
  have hz5 : saidF 4 = zf := hsc.1.2.2.2.2.1
  have hz6 : saidF 6 = zm := hsc.1.2.2.2.2.2.1
  have hz7 : saidF 8 = zk := hsc.1.2.2.2.2.2.2.1
  have hz8 : saidF 9 = zw := hsc.1.2.2.2.2.2.2.2
  have hz9 : ¬ zn < 0 := hsc.2.1.1
  have hz10 : ¬ 12 < zn := hsc.2.1.2
  have hz11 : ¬ zp < 0 := hsc.2.2.1.1
  have hz12 : ¬ 20 < zp := hsc.2.2.1.2
  have hz13 : ¬ zj < 0 := hsc.2.2.2.1.1
  have hz14 : ¬ 16 < zj := hsc.2.2.2.1.2
  have hz15 : ¬ zo < 0 := hsc.2.2.2.2.1.1
  have hz16 : ¬ 6 < zo := hsc.2.2.2.2.1.2
  have hz17 : ¬ zf < 0 := hsc.2.2.2.2.2.1.1
  have hz18 : ¬ 8 < zf := hsc.2.2.2.2.2.1.2
  have hz19 : ¬ zk < (-1) := hsc.2.2.2.2.2.2.1.1
  have hz20 : ¬ 12 ≤ zk := hsc.2.2.2.2.2.2.1.2
  have hz21 : ¬ zw < 0 := hsc.2.2.2.2.2.2.2.1.1
  have hz22 : ¬ 6 < zw := hsc.2.2.2.2.2.2.2.1.2
  refine lv_aload_n hx hb dX11_leave_0 rfl (lv_at hl 0 rfl) ?_
  refine lv_iload_n hx hb dX11_leave_1 rfl (lv_at hl 1 rfl) ?_
  refine z_i (wr := []) (va_runV (As := [.int p0]) (rest := []) ⟨hx, hb, hml, hown, hts⟩ (mX11_stands l dC dI kA _ n0 m_taped m_laws m_next m_wrong m_number m_text m_made m_deep m_lines m_opened m_top m_goNode m_goDrops m_goHour m_goFelt m_goSalt m_goMore m_bestLeft m_bestHour m_bestMany a_tape a_sign a_length a_clause a_clauses a_chain a_open a_stack a_word a_said a_kept a_stepNode a_stepDrops a_stepHour a_stepNext a_stepPass a_bestPass a_far a_waited a_servers a_images a_isMade saidF zn zp zj zo zf zm zk zw pd p0 hsc) (cwV 1 hts gX11_leave_X11_stands rfl rfl rfl ⟨rfl, hdX11_stands⟩ ⟨(Nat.le_of_ble_eq_true rfl), (Nat.le_of_ble_eq_true rfl)⟩) ⟨zPc.blind, va_recv (q := (RX11, TX11, 42)) hK.1 hP (ci := 11) (q0 := 0) rfl rfl, zPre hK (hP.sub [0, 1] rfl) (hD.sub [0, 1] (by decide) rfl)⟩ rfl rfl hl.1 rfl (lv_room (Nat.le_of_ble_eq_true rfl)) dX11_leave_2 ⟨(Nat.le_of_ble_eq_true rfl), (Nat.le_of_ble_eq_true rfl)⟩) hP hD hS hA [0, 1] [] rfl rfl (by decide) (by decide) (fun r25 u23 H locs hw24 hP hD hS => ?_)
  obtain ⟨er30, hp27, hp28, hp29⟩ := hw24
  have er30 : r25 = u23 := er30
  subst er30
  have er25 : r25 = fX11_stands saidF zj p0 := hp27
  have hG := zbnd hG er25
  obtain ⟨hP, hD⟩ := z_re (L := [(n0, .inr (11, .ref a_tape :: .int m_taped :: .int m_laws :: .ref a_sign :: .ref a_length :: .ref a_clause :: .ref a_clauses :: .ref a_chain :: .int m_next :: .int m_wrong :: .int m_number :: .int m_text :: .int m_made :: .int m_deep :: .int m_lines :: .ref a_open :: .int m_opened :: .ref a_stack :: .int m_top :: .ref a_word :: .ref a_said :: .ref a_kept :: [.int m_goNode, .int m_goDrops, .int m_goHour, .int m_goFelt, .int m_goSalt, .int m_goMore, .ref a_stepNode, .ref a_stepDrops, .ref a_stepHour, .ref a_stepNext, .ref a_stepPass, .int m_bestLeft, .int m_bestHour, .int m_bestMany, .ref a_bestPass, .ref a_far, .ref a_waited, .ref a_servers, .ref a_images, .ref a_isMade])), (a_said, .inl (kA 0, 360, .inl saidF))]) hP hD
  refine lv_if_eq (tgt := 30) hx hb dX11_leave_5 (by decide) (fun c_32 => ?_) (fun c_32 => ?_)
  · have hG := zthen hG c_32
    refine lv_iconst (v := 0) hx hb dX11_leave_30 (by decide) ?_
    obtain ⟨hP9, hD9⟩ := z_sb (L' := [(n0, .inr (11, .ref a_tape :: .int m_taped :: .int m_laws :: .ref a_sign :: .ref a_length :: .ref a_clause :: .ref a_clauses :: .ref a_chain :: .int m_next :: .int m_wrong :: .int m_number :: .int m_text :: .int m_made :: .int m_deep :: .int m_lines :: .ref a_open :: .int m_opened :: .ref a_stack :: .int m_top :: .ref a_word :: .ref a_said :: .ref a_kept :: [.int m_goNode, .int m_goDrops, .int m_goHour, .int m_goFelt, .int m_goSalt, .int m_goMore, .ref a_stepNode, .ref a_stepDrops, .ref a_stepHour, .ref a_stepNext, .ref a_stepPass, .int m_bestLeft, .int m_bestHour, .int m_bestMany, .ref a_bestPass, .ref a_far, .ref a_waited, .ref a_servers, .ref a_images, .ref a_isMade])), (a_said, .inl (kA 0, 360, .inl saidF))]) hP hD [0, 1] (by decide) rfl
    refine W.widen (k := 0) (n := 0) (Nat.le_of_ble_eq_true rfl) (Nat.le_of_ble_eq_true rfl) ?_
    exact W.zret (v := 0) hx hb hr rfl (fun t ht hW => ⟨⟨0, (saidF, 0), rfl, ⟨rfl, (hG.trans hG0.symm), (Or.inl rfl), hsc⟩, by rw [ht]; exact hP9, hD9⟩, hS.F ht⟩) hS.2.2 dX11_leave_31
  · have hG := zelse hG c_32
    refine lv_aload_n hx hb dX11_leave_8 rfl (lv_at hl 0 rfl) ?_
    refine lv_iload_n hx hb dX11_leave_9 rfl (lv_at hl 2 rfl) ?_
    refine z_i (wr := []) (va_runV (As := [.int p1]) (rest := []) ⟨hx, hb, hml, hown, hts⟩ (mX11_isPass l dC dI kA _ n0 m_taped m_laws m_next m_wrong m_number m_text m_made m_deep m_lines m_opened m_top m_goNode m_goDrops m_goHour m_goFelt m_goSalt m_goMore m_bestLeft m_bestHour m_bestMany a_tape a_sign a_length a_clause a_clauses a_chain a_open a_stack a_word a_said a_kept a_stepNode a_stepDrops a_stepHour a_stepNext a_stepPass a_bestPass a_far a_waited a_servers a_images a_isMade saidF zn zp zj zo zf zm zk zw pd p1 hsc) (cwV 1 hts gX11_leave_X11_isPass rfl rfl rfl ⟨rfl, hdX11_isPass⟩ ⟨(Nat.le_of_ble_eq_true rfl), (Nat.le_of_ble_eq_true rfl)⟩) ⟨zPc.blind, va_recv (q := (RX11, TX11, 42)) hK.1 hP (ci := 11) (q0 := 0) rfl rfl, zPre hK (hP.sub [0, 1] rfl) (hD.sub [0, 1] (by decide) rfl)⟩ rfl rfl hl.1 rfl (lv_room (Nat.le_of_ble_eq_true rfl)) dX11_leave_10 ⟨(Nat.le_of_ble_eq_true rfl), (Nat.le_of_ble_eq_true rfl)⟩) hP hD hS hA [0, 1] [] rfl rfl (by decide) (by decide) (fun r35 u33 H locs hw34 hP hD hS => ?_)
    obtain rfl := hw34
    obtain ⟨hP, hD⟩ := z_re (L := [(n0, .inr (11, .ref a_tape :: .int m_taped :: .int m_laws :: .ref a_sign :: .ref a_length :: .ref a_clause :: .ref a_clauses :: .ref a_chain :: .int m_next :: .int m_wrong :: .int m_number :: .int m_text :: .int m_made :: .int m_deep :: .int m_lines :: .ref a_open :: .int m_opened :: .ref a_stack :: .int m_top :: .ref a_word :: .ref a_said :: .ref a_kept :: [.int m_goNode, .int m_goDrops, .int m_goHour, .int m_goFelt, .int m_goSalt, .int m_goMore, .ref a_stepNode, .ref a_stepDrops, .ref a_stepHour, .ref a_stepNext, .ref a_stepPass, .int m_bestLeft, .int m_bestHour, .int m_bestMany, .ref a_bestPass, .ref a_far, .ref a_waited, .ref a_servers, .ref a_images, .ref a_isMade])), (a_said, .inl (kA 0, 360, .inl saidF))]) hP hD
    refine lv_if_eq (tgt := 30) hx hb dX11_leave_13 (by decide) (fun c_36 => ?_) (fun c_36 => ?_)
    · have hG := zthen hG c_36
      refine lv_iconst (v := 0) hx hb dX11_leave_30 (by decide) ?_
      obtain ⟨hP9, hD9⟩ := z_sb (L' := [(n0, .inr (11, .ref a_tape :: .int m_taped :: .int m_laws :: .ref a_sign :: .ref a_length :: .ref a_clause :: .ref a_clauses :: .ref a_chain :: .int m_next :: .int m_wrong :: .int m_number :: .int m_text :: .int m_made :: .int m_deep :: .int m_lines :: .ref a_open :: .int m_opened :: .ref a_stack :: .int m_top :: .ref a_word :: .ref a_said :: .ref a_kept :: [.int m_goNode, .int m_goDrops, .int m_goHour, .int m_goFelt, .int m_goSalt, .int m_goMore, .ref a_stepNode, .ref a_stepDrops, .ref a_stepHour, .ref a_stepNext, .ref a_stepPass, .int m_bestLeft, .int m_bestHour, .int m_bestMany, .ref a_bestPass, .ref a_far, .ref a_waited, .ref a_servers, .ref a_images, .ref a_isMade])), (a_said, .inl (kA 0, 360, .inl saidF))]) hP hD [0, 1] (by decide) rfl
      refine W.widen (k := 0) (n := 0) (Nat.le_of_ble_eq_true rfl) (Nat.le_of_ble_eq_true rfl) ?_
      exact W.zret (v := 0) hx hb hr rfl (fun t ht hW => ⟨⟨0, (saidF, 0), rfl, ⟨rfl, (hG.trans hG0.symm), (Or.inl rfl), hsc⟩, by rw [ht]; exact hP9, hD9⟩, hS.F ht⟩) hS.2.2 dX11_leave_31
    · have hG := zelse hG c_36
      have c_36a := hs_ne c_36
      have c_36b := c_36a.2
      have c_36a := c_36a.1
      refine lv_aload_n hx hb dX11_leave_16 rfl (lv_at hl 0 rfl) ?_
      refine lv_iload_n hx hb dX11_leave_17 rfl (lv_at hl 2 rfl) ?_
      refine lv_aload_n hx hb dX11_leave_18 rfl (lv_at hl 0 rfl) ?_
      refine lv_iload_n hx hb dX11_leave_19 rfl (lv_at hl 1 rfl) ?_
      refine lv_iconst (v := 5) hx hb dX11_leave_20 (by decide) ?_
      refine z_i (wr := []) (va_runV (As := [.int p0, .int 5]) (rest := [.int p1, .ref n0]) ⟨hx, hb, hml, hown, hts⟩ (mX11_jarOf_5 l dC dI kA _ n0 m_taped m_laws m_next m_wrong m_number m_text m_made m_deep m_lines m_opened m_top m_goNode m_goDrops m_goHour m_goFelt m_goSalt m_goMore m_bestLeft m_bestHour m_bestMany a_tape a_sign a_length a_clause a_clauses a_chain a_open a_stack a_word a_said a_kept a_stepNode a_stepDrops a_stepHour a_stepNext a_stepPass a_bestPass a_far a_waited a_servers a_images a_isMade saidF zn zp zj zo zf zm zk zw pd p0 hsc (gl_mX11_leave_0 saidF zj p0 r25 hz13 hz14 hp28 c_32) (gl_mX11_leave_1 saidF zj p0 r25 hz13 hz14 hp28 c_32)) (cwV 2 hts gX11_leave_X11_jarOf rfl rfl rfl ⟨rfl, hdX11_jarOf⟩ ⟨(Nat.le_of_ble_eq_true rfl), (Nat.le_of_ble_eq_true rfl)⟩) ⟨zPc.blind, va_recv (q := (RX11, TX11, 42)) hK.1 hP (ci := 11) (q0 := 0) rfl rfl, zPre hK (hP.sub [0, 1] rfl) (hD.sub [0, 1] (by decide) rfl)⟩ rfl rfl hl.1 rfl (lv_room (Nat.le_of_ble_eq_true rfl)) dX11_leave_21 ⟨(Nat.le_of_ble_eq_true rfl), (Nat.le_of_ble_eq_true rfl)⟩) hP hD hS hA [0, 1] [] rfl rfl (by decide) (by decide) (fun r39 u37 H locs hw38 hP hD hS => ?_)
      obtain ⟨rfl, hp40, hp41⟩ := hw38
      obtain ⟨hP, hD⟩ := z_re (L := [(n0, .inr (11, .ref a_tape :: .int m_taped :: .int m_laws :: .ref a_sign :: .ref a_length :: .ref a_clause :: .ref a_clauses :: .ref a_chain :: .int m_next :: .int m_wrong :: .int m_number :: .int m_text :: .int m_made :: .int m_deep :: .int m_lines :: .ref a_open :: .int m_opened :: .ref a_stack :: .int m_top :: .ref a_word :: .ref a_said :: .ref a_kept :: [.int m_goNode, .int m_goDrops, .int m_goHour, .int m_goFelt, .int m_goSalt, .int m_goMore, .ref a_stepNode, .ref a_stepDrops, .ref a_stepHour, .ref a_stepNext, .ref a_stepPass, .int m_bestLeft, .int m_bestHour, .int m_bestMany, .ref a_bestPass, .ref a_far, .ref a_waited, .ref a_servers, .ref a_images, .ref a_isMade])), (a_said, .inl (kA 0, 360, .inl saidF))]) hP hD
      refine z_i (wr := []) (va_runV (As := [.int p1, .int (saidF ((168 + (9 * p0)) + 5).toNatClampNeg)]) (rest := []) ⟨hx, hb, hml, hown, hts⟩ (mX11_other l dC dI kA _ n0 m_taped m_laws m_next m_wrong m_number m_text m_made m_deep m_lines m_opened m_top m_goNode m_goDrops m_goHour m_goFelt m_goSalt m_goMore m_bestLeft m_bestHour m_bestMany a_tape a_sign a_length a_clause a_clauses a_chain a_open a_stack a_word a_said a_kept a_stepNode a_stepDrops a_stepHour a_stepNext a_stepPass a_bestPass a_far a_waited a_servers a_images a_isMade saidF zn zp zj zo zf zm zk zw pd p1 (saidF ((168 + (9 * p0)) + 5).toNatClampNeg) hsc c_36a (z_tr c_36b hz12)) (cwV 2 hts gX11_leave_X11_other rfl rfl rfl ⟨rfl, hdX11_other⟩ ⟨(Nat.le_of_ble_eq_true rfl), (Nat.le_of_ble_eq_true rfl)⟩) ⟨zPc.blind, va_recv (q := (RX11, TX11, 42)) hK.1 hP (ci := 11) (q0 := 0) rfl rfl, zPre hK (hP.sub [0, 1] rfl) (hD.sub [0, 1] (by decide) rfl)⟩ rfl rfl hl.1 rfl (lv_room (Nat.le_of_ble_eq_true rfl)) dX11_leave_24 ⟨(Nat.le_of_ble_eq_true rfl), (Nat.le_of_ble_eq_true rfl)⟩) hP hD hS hA [0, 1] [] rfl rfl (by decide) (by decide) (fun r44 u42 H locs hw43 hP hD hS => ?_)
      obtain ⟨rfl, hp45, hp46⟩ := hw43
      obtain ⟨hP, hD⟩ := z_re (L := [(n0, .inr (11, .ref a_tape :: .int m_taped :: .int m_laws :: .ref a_sign :: .ref a_length :: .ref a_clause :: .ref a_clauses :: .ref a_chain :: .int m_next :: .int m_wrong :: .int m_number :: .int m_text :: .int m_made :: .int m_deep :: .int m_lines :: .ref a_open :: .int m_opened :: .ref a_stack :: .int m_top :: .ref a_word :: .ref a_said :: .ref a_kept :: [.int m_goNode, .int m_goDrops, .int m_goHour, .int m_goFelt, .int m_goSalt, .int m_goMore, .ref a_stepNode, .ref a_stepDrops, .ref a_stepHour, .ref a_stepNext, .ref a_stepPass, .int m_bestLeft, .int m_bestHour, .int m_bestMany, .ref a_bestPass, .ref a_far, .ref a_waited, .ref a_servers, .ref a_images, .ref a_isMade])), (a_said, .inl (kA 0, 360, .inl saidF))]) hP hD
      refine lv_if_ge (tgt := 32) hx hb dX11_leave_27 (by decide) (fun c_47 => ?_) (fun c_47 => ?_)
      · have hG := zthen hG c_47
        refine lv_sipush (v := 168) hx hb dX11_leave_32 (by decide) ?_
        refine lv_bipush (v := 9) hx hb dX11_leave_35 (by decide) ?_
        refine lv_iload_n hx hb dX11_leave_37 rfl (lv_at hl 1 rfl) ?_
        refine lv_imul hx hb dX11_leave_38 ?_
        refine lv_iadd hx hb dX11_leave_39 ?_
        refine lv_topi (fun x48 ex48 => ?_)
        have hG := zbnd hG ex48
        refine lv_istore_n (lv' := [(3, .int x48), (0, .ref n0), (1, .int p0), (2, .int p1)]) hx hb dX11_leave_40 rfl hl (by decide) rfl (fun ls hl => ?_)
        refine lv_aload_n hx hb dX11_leave_41 rfl (lv_at hl 1 rfl) ?_
        refine va_get (D := (dC, dI)) (ci := 11) (v := .ref a_said) (C := RX11) (T := TX11) (N := 42) hx hb hts iX11_leave_X11 hown hK.1 hP 0 gz0 vcz11 20 (by decide) (kX11_leave_1 hts) (fun _ h9 => h9) gz20 dX11_leave_42 ?_
        refine lv_iload_n hx hb dX11_leave_45 rfl (lv_at hl 0 rfl) ?_
        refine lv_bipush (v := 8) hx hb dX11_leave_46 (by decide) ?_
        refine lv_iadd hx hb dX11_leave_48 ?_
        refine lv_aload_n hx hb dX11_leave_49 rfl (lv_at hl 1 rfl) ?_
        refine lv_iload_n hx hb dX11_leave_50 rfl (lv_at hl 3 rfl) ?_
        refine lv_aload_n hx hb dX11_leave_51 rfl (lv_at hl 1 rfl) ?_
        refine va_get (D := (dC, dI)) (ci := 11) (v := .ref a_said) (C := RX11) (T := TX11) (N := 42) hx hb hts iX11_leave_X11 hown hK.1 hP 0 gz0 vcz11 20 (by decide) (kX11_leave_1 hts) (fun _ h9 => h9) gz20 dX11_leave_52 ?_
        refine lv_iload_n hx hb dX11_leave_55 rfl (lv_at hl 0 rfl) ?_
        refine lv_iconst (v := 5) hx hb dX11_leave_56 (by decide) ?_
        refine lv_iadd hx hb dX11_leave_57 ?_
        refine va_iald hx hb hK.1 hP 1 0 gz1 tzz0 (vp_g (N := 360) (by decide) (gl_mX11_leave_2 saidF zj p0 r25 x48 hz13 hz14 hp28 c_32 hp40 hp41 ex48)) dX11_leave_58 ?_
        refine lv_topi (fun x49 ex49 => ?_)
        have hG := zbnd hG ex49
        refine z_i (wr := []) (va_runV (As := [.int p1, .int x49]) (rest := [.int (x48 + 8), .ref a_said]) ⟨hx, hb, hml, hown, hts⟩ (mX11_other l dC dI kA _ n0 m_taped m_laws m_next m_wrong m_number m_text m_made m_deep m_lines m_opened m_top m_goNode m_goDrops m_goHour m_goFelt m_goSalt m_goMore m_bestLeft m_bestHour m_bestMany a_tape a_sign a_length a_clause a_clauses a_chain a_open a_stack a_word a_said a_kept a_stepNode a_stepDrops a_stepHour a_stepNext a_stepPass a_bestPass a_far a_waited a_servers a_images a_isMade saidF zn zp zj zo zf zm zk zw pd p1 x49 hsc c_36a (z_tr c_36b hz12)) (cwV 2 hts gX11_leave_X11_other rfl rfl rfl ⟨rfl, hdX11_other⟩ ⟨(Nat.le_of_ble_eq_true rfl), (Nat.le_of_ble_eq_true rfl)⟩) ⟨zPc.blind, va_recv (q := (RX11, TX11, 42)) hK.1 hP (ci := 11) (q0 := 0) rfl rfl, zPre hK (hP.sub [0, 1] rfl) (hD.sub [0, 1] (by decide) rfl)⟩ rfl rfl hl.1 rfl (lv_room (Nat.le_of_ble_eq_true rfl)) dX11_leave_59 ⟨(Nat.le_of_ble_eq_true rfl), (Nat.le_of_ble_eq_true rfl)⟩) hP hD hS hA [0, 1] [] rfl rfl (by decide) (by decide) (fun r52 u50 H locs hw51 hP hD hS => ?_)
        obtain ⟨rfl, hp53, hp54⟩ := hw51
        obtain ⟨hP, hD⟩ := z_re (L := [(n0, .inr (11, .ref a_tape :: .int m_taped :: .int m_laws :: .ref a_sign :: .ref a_length :: .ref a_clause :: .ref a_clauses :: .ref a_chain :: .int m_next :: .int m_wrong :: .int m_number :: .int m_text :: .int m_made :: .int m_deep :: .int m_lines :: .ref a_open :: .int m_opened :: .ref a_stack :: .int m_top :: .ref a_word :: .ref a_said :: .ref a_kept :: [.int m_goNode, .int m_goDrops, .int m_goHour, .int m_goFelt, .int m_goSalt, .int m_goMore, .ref a_stepNode, .ref a_stepDrops, .ref a_stepHour, .ref a_stepNext, .ref a_stepPass, .int m_bestLeft, .int m_bestHour, .int m_bestMany, .ref a_bestPass, .ref a_far, .ref a_waited, .ref a_servers, .ref a_images, .ref a_isMade])), (a_said, .inl (kA 0, 360, .inl saidF))]) hP hD
        refine va_iast hx hb hK.1 hP hD hS 1 0 gz1 tzz0 (vp_g (N := 360) (by decide) (gl_mX11_leave_3 saidF zj p0 r25 x48 hz13 hz14 hp28 c_32 hp40 hp41 ex48)) dX11_leave_62 (fun H locs hP hD hS => ?_)
        obtain ⟨hP, hD⟩ := z_re (L := [(n0, .inr (11, .ref a_tape :: .int m_taped :: .int m_laws :: .ref a_sign :: .ref a_length :: .ref a_clause :: .ref a_clauses :: .ref a_chain :: .int m_next :: .int m_wrong :: .int m_number :: .int m_text :: .int m_made :: .int m_deep :: .int m_lines :: .ref a_open :: .int m_opened :: .ref a_stack :: .int m_top :: .ref a_word :: .ref a_said :: .ref a_kept :: [.int m_goNode, .int m_goDrops, .int m_goHour, .int m_goFelt, .int m_goSalt, .int m_goMore, .ref a_stepNode, .ref a_stepDrops, .ref a_stepHour, .ref a_stepNext, .ref a_stepPass, .int m_bestLeft, .int m_bestHour, .int m_bestMany, .ref a_bestPass, .ref a_far, .ref a_waited, .ref a_servers, .ref a_images, .ref a_isMade])), (a_said, .inl (kA 0, 360, .inl (upd saidF (x48 + 8).toNatClampNeg (oth saidF p1 x49))))]) hP hD
        obtain ⟨f55, ef55⟩ : ∃ y : Nat → Int32, y = (upd saidF (x48 + 8).toNatClampNeg (oth saidF p1 x49)) := ⟨_, rfl⟩
        rw [← ef55] at hP hD
        have hG := zbnd hG ef55
        have hu56 := upd_at ef55
        refine lv_aload_n hx hb dX11_leave_63 rfl (lv_at hl 1 rfl) ?_
        refine va_get (D := (dC, dI)) (ci := 11) (v := .ref a_said) (C := RX11) (T := TX11) (N := 42) hx hb hts iX11_leave_X11 hown hK.1 hP 0 gz0 vcz11 20 (by decide) (kX11_leave_1 hts) (fun _ h9 => h9) gz20 dX11_leave_64 ?_
        refine lv_iload_n hx hb dX11_leave_67 rfl (lv_at hl 0 rfl) ?_
        refine lv_iconst (v := 5) hx hb dX11_leave_68 (by decide) ?_
        refine lv_iadd hx hb dX11_leave_69 ?_
        refine lv_bipush (v := 12) hx hb dX11_leave_70 (by decide) ?_
        refine va_iast hx hb hK.1 hP hD hS 1 0 gz1 tzz0 (vp_g (N := 360) (by decide) (gl_mX11_leave_2 saidF zj p0 r25 x48 hz13 hz14 hp28 c_32 hp40 hp41 ex48)) dX11_leave_72 (fun H locs hP hD hS => ?_)
        obtain ⟨hP, hD⟩ := z_re (L := [(n0, .inr (11, .ref a_tape :: .int m_taped :: .int m_laws :: .ref a_sign :: .ref a_length :: .ref a_clause :: .ref a_clauses :: .ref a_chain :: .int m_next :: .int m_wrong :: .int m_number :: .int m_text :: .int m_made :: .int m_deep :: .int m_lines :: .ref a_open :: .int m_opened :: .ref a_stack :: .int m_top :: .ref a_word :: .ref a_said :: .ref a_kept :: [.int m_goNode, .int m_goDrops, .int m_goHour, .int m_goFelt, .int m_goSalt, .int m_goMore, .ref a_stepNode, .ref a_stepDrops, .ref a_stepHour, .ref a_stepNext, .ref a_stepPass, .int m_bestLeft, .int m_bestHour, .int m_bestMany, .ref a_bestPass, .ref a_far, .ref a_waited, .ref a_servers, .ref a_images, .ref a_isMade])), (a_said, .inl (kA 0, 360, .inl (upd f55 (x48 + 5).toNatClampNeg 12)))]) hP hD
        obtain ⟨f57, ef57⟩ : ∃ y : Nat → Int32, y = (upd f55 (x48 + 5).toNatClampNeg 12) := ⟨_, rfl⟩
        rw [← ef57] at hP hD
        have hG := zbnd hG ef57
        have hu58 := upd_at ef57
        refine lv_aload_n hx hb dX11_leave_73 rfl (lv_at hl 1 rfl) ?_
        refine va_get (D := (dC, dI)) (ci := 11) (v := .ref a_said) (C := RX11) (T := TX11) (N := 42) hx hb hts iX11_leave_X11 hown hK.1 hP 0 gz0 vcz11 20 (by decide) (kX11_leave_1 hts) (fun _ h9 => h9) gz20 dX11_leave_74 ?_
        refine lv_iload_n hx hb dX11_leave_77 rfl (lv_at hl 0 rfl) ?_
        refine lv_bipush (v := 6) hx hb dX11_leave_78 (by decide) ?_
        refine lv_iadd hx hb dX11_leave_80 ?_
        refine lv_iload_n hx hb dX11_leave_81 rfl (lv_at hl 3 rfl) ?_
        refine va_iast hx hb hK.1 hP hD hS 1 0 gz1 tzz0 (vp_g (N := 360) (by decide) (gl_mX11_leave_4 saidF zj p0 r25 x48 hz13 hz14 hp28 c_32 hp40 hp41 ex48)) dX11_leave_82 (fun H locs hP hD hS => ?_)
        obtain ⟨hP, hD⟩ := z_re (L := [(n0, .inr (11, .ref a_tape :: .int m_taped :: .int m_laws :: .ref a_sign :: .ref a_length :: .ref a_clause :: .ref a_clauses :: .ref a_chain :: .int m_next :: .int m_wrong :: .int m_number :: .int m_text :: .int m_made :: .int m_deep :: .int m_lines :: .ref a_open :: .int m_opened :: .ref a_stack :: .int m_top :: .ref a_word :: .ref a_said :: .ref a_kept :: [.int m_goNode, .int m_goDrops, .int m_goHour, .int m_goFelt, .int m_goSalt, .int m_goMore, .ref a_stepNode, .ref a_stepDrops, .ref a_stepHour, .ref a_stepNext, .ref a_stepPass, .int m_bestLeft, .int m_bestHour, .int m_bestMany, .ref a_bestPass, .ref a_far, .ref a_waited, .ref a_servers, .ref a_images, .ref a_isMade])), (a_said, .inl (kA 0, 360, .inl (upd f57 (x48 + 6).toNatClampNeg p1)))]) hP hD
        obtain ⟨f59, ef59⟩ : ∃ y : Nat → Int32, y = (upd f57 (x48 + 6).toNatClampNeg p1) := ⟨_, rfl⟩
        rw [← ef59] at hP hD
        have hG := zbnd hG ef59
        have hu60 := upd_at ef59
        have hb61 : (¬ (oth saidF p1 x49) < 0) ∧ ¬ 12 ≤ (oth saidF p1 x49) := by rw [ex49, ex48]; exact ⟨(Int32.not_lt.mpr c_47), hp46⟩
        have hk62 : SC f59 zn zp zj zo zf zm zk zw pd := by rw [ef59, ef57, ef55]; exact SC_lv hsc (gl_mX11_leave_5 saidF zj p0 r25 hz13 hz14 hp28 c_32 hp40 hp41) (gl_mX11_leave_6 saidF zj p0 r25 hz13 hz14 hp28 c_32 hp40 hp41) (gl_mX11_leave_7 saidF zj p0 r25 x48 hz13 hz14 hp28 c_32 hp40 hp41 ex48) (gl_mX11_leave_8 saidF zj p0 r25 x48 hz13 hz14 hp28 c_32 hp40 hp41 ex48) (gl_mX11_leave_9 saidF zj p0 r25 x48 hz13 hz14 hp28 c_32 hp40 hp41 ex48) hb61 (gl_mX11_leave_10 zp p1 hz11 hz12 c_36a c_36b)
        have hz63 : f59 0 = zn := hk62.1.1
        have hz64 : f59 1 = zp := hk62.1.2.1
        have hz65 : f59 2 = zj := hk62.1.2.2.1
        have hz66 : f59 3 = zo := hk62.1.2.2.2.1
        have hz67 : f59 4 = zf := hk62.1.2.2.2.2.1
        have hz68 : f59 6 = zm := hk62.1.2.2.2.2.2.1
        have hz69 : f59 8 = zk := hk62.1.2.2.2.2.2.2.1
        have hz70 : f59 9 = zw := hk62.1.2.2.2.2.2.2.2
        refine lv_aload_n hx hb dX11_leave_83 rfl (lv_at hl 1 rfl) ?_
        refine va_get (D := (dC, dI)) (ci := 11) (v := .ref a_said) (C := RX11) (T := TX11) (N := 42) hx hb hts iX11_leave_X11 hown hK.1 hP 0 gz0 vcz11 20 (by decide) (kX11_leave_1 hts) (fun _ h9 => h9) gz20 dX11_leave_84 ?_
        refine lv_iload_n hx hb dX11_leave_87 rfl (lv_at hl 0 rfl) ?_
        refine lv_bipush (v := 7) hx hb dX11_leave_88 (by decide) ?_
        refine lv_iadd hx hb dX11_leave_90 ?_
        refine lv_iconst (v := 0) hx hb dX11_leave_91 (by decide) ?_
        refine va_iast hx hb hK.1 hP hD hS 1 0 gz1 tzz0 (vp_g (N := 360) (by decide) (gl_mX11_leave_11 saidF zj p0 r25 x48 hz13 hz14 hp28 c_32 hp40 hp41 ex48)) dX11_leave_92 (fun H locs hP hD hS => ?_)
        obtain ⟨hP, hD⟩ := z_re (L := [(n0, .inr (11, .ref a_tape :: .int m_taped :: .int m_laws :: .ref a_sign :: .ref a_length :: .ref a_clause :: .ref a_clauses :: .ref a_chain :: .int m_next :: .int m_wrong :: .int m_number :: .int m_text :: .int m_made :: .int m_deep :: .int m_lines :: .ref a_open :: .int m_opened :: .ref a_stack :: .int m_top :: .ref a_word :: .ref a_said :: .ref a_kept :: [.int m_goNode, .int m_goDrops, .int m_goHour, .int m_goFelt, .int m_goSalt, .int m_goMore, .ref a_stepNode, .ref a_stepDrops, .ref a_stepHour, .ref a_stepNext, .ref a_stepPass, .int m_bestLeft, .int m_bestHour, .int m_bestMany, .ref a_bestPass, .ref a_far, .ref a_waited, .ref a_servers, .ref a_images, .ref a_isMade])), (a_said, .inl (kA 0, 360, .inl (upd f59 (x48 + 7).toNatClampNeg 0)))]) hP hD
        obtain ⟨f71, ef71⟩ : ∃ y : Nat → Int32, y = (upd f59 (x48 + 7).toNatClampNeg 0) := ⟨_, rfl⟩
        rw [← ef71] at hP hD
        have hG := zbnd hG ef71
        have hu72 := upd_at ef71
        have hk73 : SC f71 zn zp zj zo zf zm zk zw pd := by rw [ef71]; exact SC_jf (k := 7) hk62 (gl_mX11_leave_5 saidF zj p0 r25 hz13 hz14 hp28 c_32 hp40 hp41) (gl_mX11_leave_6 saidF zj p0 r25 hz13 hz14 hp28 c_32 hp40 hp41) (gl_mX11_leave_12 saidF zj p0 r25 x48 hz13 hz14 hp28 c_32 hp40 hp41 ex48) (by decide)
        have hz74 : f71 0 = zn := hk73.1.1
        have hz75 : f71 1 = zp := hk73.1.2.1
        have hz76 : f71 2 = zj := hk73.1.2.2.1
        have hz77 : f71 3 = zo := hk73.1.2.2.2.1
        have hz78 : f71 4 = zf := hk73.1.2.2.2.2.1
        have hz79 : f71 6 = zm := hk73.1.2.2.2.2.2.1
        have hz80 : f71 8 = zk := hk73.1.2.2.2.2.2.2.1
        have hz81 : f71 9 = zw := hk73.1.2.2.2.2.2.2.2
        refine lv_iconst (v := 1) hx hb dX11_leave_93 (by decide) ?_
        obtain ⟨hP9, hD9⟩ := z_sb (L' := [(n0, .inr (11, .ref a_tape :: .int m_taped :: .int m_laws :: .ref a_sign :: .ref a_length :: .ref a_clause :: .ref a_clauses :: .ref a_chain :: .int m_next :: .int m_wrong :: .int m_number :: .int m_text :: .int m_made :: .int m_deep :: .int m_lines :: .ref a_open :: .int m_opened :: .ref a_stack :: .int m_top :: .ref a_word :: .ref a_said :: .ref a_kept :: [.int m_goNode, .int m_goDrops, .int m_goHour, .int m_goFelt, .int m_goSalt, .int m_goMore, .ref a_stepNode, .ref a_stepDrops, .ref a_stepHour, .ref a_stepNext, .ref a_stepPass, .int m_bestLeft, .int m_bestHour, .int m_bestMany, .ref a_bestPass, .ref a_far, .ref a_waited, .ref a_servers, .ref a_images, .ref a_isMade])), (a_said, .inl (kA 0, 360, .inl f71))]) hP hD [0, 1] (by decide) rfl
        refine W.widen (k := 0) (n := 0) (Nat.le_of_ble_eq_true rfl) (Nat.le_of_ble_eq_true rfl) ?_
        exact W.zret (v := 1) hx hb hr rfl (fun t ht hW => ⟨⟨1, (f71, 1), rfl, ⟨rfl, (hG.trans hG0.symm), (Or.inr rfl), hk73⟩, by rw [ht]; exact hP9, hD9⟩, hS.F ht⟩) hS.2.2 dX11_leave_94
      · have hG := zelse hG c_47
        refine lv_iconst (v := 0) hx hb dX11_leave_30 (by decide) ?_
        obtain ⟨hP9, hD9⟩ := z_sb (L' := [(n0, .inr (11, .ref a_tape :: .int m_taped :: .int m_laws :: .ref a_sign :: .ref a_length :: .ref a_clause :: .ref a_clauses :: .ref a_chain :: .int m_next :: .int m_wrong :: .int m_number :: .int m_text :: .int m_made :: .int m_deep :: .int m_lines :: .ref a_open :: .int m_opened :: .ref a_stack :: .int m_top :: .ref a_word :: .ref a_said :: .ref a_kept :: [.int m_goNode, .int m_goDrops, .int m_goHour, .int m_goFelt, .int m_goSalt, .int m_goMore, .ref a_stepNode, .ref a_stepDrops, .ref a_stepHour, .ref a_stepNext, .ref a_stepPass, .int m_bestLeft, .int m_bestHour, .int m_bestMany, .ref a_bestPass, .ref a_far, .ref a_waited, .ref a_servers, .ref a_images, .ref a_isMade])), (a_said, .inl (kA 0, 360, .inl saidF))]) hP hD [0, 1] (by decide) rfl
        refine W.widen (k := 0) (n := 0) (Nat.le_of_ble_eq_true rfl) (Nat.le_of_ble_eq_true rfl) ?_
        exact W.zret (v := 0) hx hb hr rfl (fun t ht hW => ⟨⟨0, (saidF, 0), rfl, ⟨rfl, (hG.trans hG0.symm), (Or.inl rfl), hsc⟩, by rw [ht]; exact hP9, hD9⟩, hS.F ht⟩) hS.2.2 dX11_leave_31
set_option maxRecDepth 100000 in
def fX11_hourWords (wordF : Nat → Int64) (zm : Int32) (p0 : Int32) (p1 : Int32) (p2 : Int32) (p3 : Int32) : (Nat → Int64) := bnd (fX11_monthAt zm p0) (fun (r25 : Int32) => bnd ((vp_updL wordF (0 : Int32).toNatClampNeg r25.toInt64)) (fun (f30 : Nat → Int64) => bnd ((p0 - p0 / 24 * 24)) (fun (x31 : Int32) => bnd ((vp_updL f30 (1 : Int32).toNatClampNeg x31.toInt64)) (fun (f32 : Nat → Int64) => bnd ((p0 / 24)) (fun (x33 : Int32) => bnd ((vp_updL f32 (2 : Int32).toNatClampNeg x33.toInt64)) (fun (f34 : Nat → Int64) => bnd ((vp_updL f34 (7 : Int32).toNatClampNeg p1.toInt64)) (fun (f35 : Nat → Int64) => bnd ((vp_updL f35 (8 : Int32).toNatClampNeg p2.toInt64)) (fun (f36 : Nat → Int64) => bnd ((vp_updL f36 (9 : Int32).toNatClampNeg p3.toInt64)) (fun (f37 : Nat → Int64) => bnd ((vp_updL f37 (10 : Int32).toNatClampNeg 0)) (fun (f38 : Nat → Int64) => f38))))))))))
set_option maxHeartbeats 4000000 in
set_option maxRecDepth 100000 in
theorem mX11_hourWords (l : Launch) (dC : Nat → ClassId) (dI : Nat → Nat → Nat) (kA : Nat → ClassId) (sz : Nat) (n0 : Nat) (m_taped : Int32) (m_laws : Int32) (m_next : Int32) (m_wrong : Int32) (m_number : Int32) (m_text : Int32) (m_made : Int32) (m_deep : Int32) (m_lines : Int32) (m_opened : Int32) (m_top : Int32) (m_goNode : Int32) (m_goDrops : Int32) (m_goHour : Int32) (m_goFelt : Int32) (m_goSalt : Int32) (m_goMore : Int32) (m_bestLeft : Int32) (m_bestHour : Int32) (m_bestMany : Int32) (a_tape : Nat) (a_sign : Nat) (a_length : Nat) (a_clause : Nat) (a_clauses : Nat) (a_chain : Nat) (a_open : Nat) (a_stack : Nat) (a_word : Nat) (a_said : Nat) (a_kept : Nat) (a_stepNode : Nat) (a_stepDrops : Nat) (a_stepHour : Nat) (a_stepNext : Nat) (a_stepPass : Nat) (a_bestPass : Nat) (a_far : Nat) (a_waited : Nat) (a_servers : Nat) (a_images : Nat) (a_isMade : Nat) (wordF : Nat → Int64) (saidF : Nat → Int32) (zn : Int32) (zp : Int32) (zj : Int32) (zo : Int32) (zf : Int32) (zm : Int32) (zk : Int32) (zw : Int32) (pd : Nat → Int32) (p0 : Int32) (p1 : Int32) (p2 : Int32) (p3 : Int32) (hsc : SC saidF zn zp zj zo zf zm zk zw pd) : Met l yX11_hourWords wsX11_hourWords ({ frames := 1, cells := 0, slots := 0, locals := 21 }) (zPc dC dI kA sz [.ref n0, .int p0, .int p1, .int p2, .int p3] [(n0, .inr (11, .ref a_tape :: .int m_taped :: .int m_laws :: .ref a_sign :: .ref a_length :: .ref a_clause :: .ref a_clauses :: .ref a_chain :: .int m_next :: .int m_wrong :: .int m_number :: .int m_text :: .int m_made :: .int m_deep :: .int m_lines :: .ref a_open :: .int m_opened :: .ref a_stack :: .int m_top :: .ref a_word :: .ref a_said :: .ref a_kept :: [.int m_goNode, .int m_goDrops, .int m_goHour, .int m_goFelt, .int m_goSalt, .int m_goMore, .ref a_stepNode, .ref a_stepDrops, .ref a_stepHour, .ref a_stepNext, .ref a_stepPass, .int m_bestLeft, .int m_bestHour, .int m_bestMany, .ref a_bestPass, .ref a_far, .ref a_waited, .ref a_servers, .ref a_images, .ref a_isMade])), (a_word, .inl (kA 2, 11, .inr (.inl wordF))), (a_said, .inl (kA 0, 360, .inl saidF))]) (va_Qv (fun (u : (Nat → Int64)) => u = fX11_hourWords wordF zm p0 p1 p2 p3) (zB dC dI (va_A [(n0, .inr (11, .ref a_tape :: .int m_taped :: .int m_laws :: .ref a_sign :: .ref a_length :: .ref a_clause :: .ref a_clauses :: .ref a_chain :: .int m_next :: .int m_wrong :: .int m_number :: .int m_text :: .int m_made :: .int m_deep :: .int m_lines :: .ref a_open :: .int m_opened :: .ref a_stack :: .int m_top :: .ref a_word :: .ref a_said :: .ref a_kept :: [.int m_goNode, .int m_goDrops, .int m_goHour, .int m_goFelt, .int m_goSalt, .int m_goMore, .ref a_stepNode, .ref a_stepDrops, .ref a_stepHour, .ref a_stepNext, .ref a_stepPass, .int m_bestLeft, .int m_bestHour, .int m_bestMany, .ref a_bestPass, .ref a_far, .ref a_waited, .ref a_servers, .ref a_images, .ref a_isMade])), (a_word, .inl (kA 2, 11, .inr (.inl wordF))), (a_said, .inl (kA 0, 360, .inl saidF))] sz) (fun (u : (Nat → Int64)) => [(n0, .inr (11, .ref a_tape :: .int m_taped :: .int m_laws :: .ref a_sign :: .ref a_length :: .ref a_clause :: .ref a_clauses :: .ref a_chain :: .int m_next :: .int m_wrong :: .int m_number :: .int m_text :: .int m_made :: .int m_deep :: .int m_lines :: .ref a_open :: .int m_opened :: .ref a_stack :: .int m_top :: .ref a_word :: .ref a_said :: .ref a_kept :: [.int m_goNode, .int m_goDrops, .int m_goHour, .int m_goFelt, .int m_goSalt, .int m_goMore, .ref a_stepNode, .ref a_stepDrops, .ref a_stepHour, .ref a_stepNext, .ref a_stepPass, .int m_bestLeft, .int m_bestHour, .int m_bestMany, .ref a_bestPass, .ref a_far, .ref a_waited, .ref a_servers, .ref a_images, .ref a_isMade])), (a_word, .inl (kA 2, 11, .inr (.inl u))), (a_said, .inl (kA 0, 360, .inl saidF))])) (va_A [(n0, .inr (11, .ref a_tape :: .int m_taped :: .int m_laws :: .ref a_sign :: .ref a_length :: .ref a_clause :: .ref a_clauses :: .ref a_chain :: .int m_next :: .int m_wrong :: .int m_number :: .int m_text :: .int m_made :: .int m_deep :: .int m_lines :: .ref a_open :: .int m_opened :: .ref a_stack :: .int m_top :: .ref a_word :: .ref a_said :: .ref a_kept :: [.int m_goNode, .int m_goDrops, .int m_goHour, .int m_goFelt, .int m_goSalt, .int m_goMore, .ref a_stepNode, .ref a_stepDrops, .ref a_stepHour, .ref a_stepNext, .ref a_stepPass, .int m_bestLeft, .int m_bestHour, .int m_bestMany, .ref a_bestPass, .ref a_far, .ref a_waited, .ref a_servers, .ref a_images, .ref a_isMade])), (a_word, .inl (kA 2, 11, .inr (.inl wordF))), (a_said, .inl (kA 0, 360, .inl saidF))] sz)) 0 0 (va_A [(n0, .inr (11, .ref a_tape :: .int m_taped :: .int m_laws :: .ref a_sign :: .ref a_length :: .ref a_clause :: .ref a_clauses :: .ref a_chain :: .int m_next :: .int m_wrong :: .int m_number :: .int m_text :: .int m_made :: .int m_deep :: .int m_lines :: .ref a_open :: .int m_opened :: .ref a_stack :: .int m_top :: .ref a_word :: .ref a_said :: .ref a_kept :: [.int m_goNode, .int m_goDrops, .int m_goHour, .int m_goFelt, .int m_goSalt, .int m_goMore, .ref a_stepNode, .ref a_stepDrops, .ref a_stepHour, .ref a_stepNext, .ref a_stepPass, .int m_bestLeft, .int m_bestHour, .int m_bestMany, .ref a_bestPass, .ref a_far, .ref a_waited, .ref a_servers, .ref a_images, .ref a_isMade])), (a_word, .inl (kA 2, 11, .inr (.inl wordF))), (a_said, .inl (kA 0, 360, .inl saidF))] sz) := by
  refine Met.ofW (cc := cX11_hourWords) (maxL := 5) (ret := none) pnX11 rfl ?_
  intro p e s m args below meth c s₁ B hml hv
  obtain ⟨rfl, hsz, hP, hK, hD0⟩ := hv
  have hx := B.exec
  have hb := B.bytes
  have hr := B.returns
  have hts := atoms_spec (ws := wsX11_hourWords) B.pre
  have hown : s.vm.findClass RX11 = some m.cls := findClass_of_methodNamed B.named
  have hlocks := B.notSynchronized
  subst hsz
  have hD := hD0.self (sz := s.heap.size)
  generalize hAe : va_A [(n0, .inr (11, .ref a_tape :: .int m_taped :: .int m_laws :: .ref a_sign :: .ref a_length :: .ref a_clause :: .ref a_clauses :: .ref a_chain :: .int m_next :: .int m_wrong :: .int m_number :: .int m_text :: .int m_made :: .int m_deep :: .int m_lines :: .ref a_open :: .int m_opened :: .ref a_stack :: .int m_top :: .ref a_word :: .ref a_said :: .ref a_kept :: [.int m_goNode, .int m_goDrops, .int m_goHour, .int m_goFelt, .int m_goSalt, .int m_goMore, .ref a_stepNode, .ref a_stepDrops, .ref a_stepHour, .ref a_stepNext, .ref a_stepPass, .int m_bestLeft, .int m_bestHour, .int m_bestMany, .ref a_bestPass, .ref a_far, .ref a_waited, .ref a_servers, .ref a_images, .ref a_isMade])), (a_word, .inl (kA 2, 11, .inr (.inl wordF))), (a_said, .inl (kA 0, 360, .inl saidF))] s.heap.size = A at hD ⊢
  have hA : ∀ q : Nat, s.heap.size ≤ q → A q := zA_of hAe
  have hS : va_S A s.heap s.heap [] := va_S.rf
  have hP : va_P (dC, dI) vwCl [(n0, .inr (11, .ref a_tape :: .int m_taped :: .int m_laws :: .ref a_sign :: .ref a_length :: .ref a_clause :: .ref a_clauses :: .ref a_chain :: .int m_next :: .int m_wrong :: .int m_number :: .int m_text :: .int m_made :: .int m_deep :: .int m_lines :: .ref a_open :: .int m_opened :: .ref a_stack :: .int m_top :: .ref a_word :: .ref a_said :: .ref a_kept :: [.int m_goNode, .int m_goDrops, .int m_goHour, .int m_goFelt, .int m_goSalt, .int m_goMore, .ref a_stepNode, .ref a_stepDrops, .ref a_stepHour, .ref a_stepNext, .ref a_stepPass, .int m_bestLeft, .int m_bestHour, .int m_bestMany, .ref a_bestPass, .ref a_far, .ref a_waited, .ref a_servers, .ref a_images, .ref a_isMade])), (a_word, .inl (kA 2, 11, .inr (.inl wordF))), (a_said, .inl (kA 0, 360, .inl saidF))] s.heap := hP
  have hl := lv_entry ([.ref n0, .int p0, .int p1, .int p2, .int p3]) (n := 5) (Nat.le_of_ble_eq_true rfl)
  rw [lg_entry_eq]
  generalize (lg_sl ([.ref n0, .int p0, .int p1, .int p2, .int p3]) ++ List.replicate (5 - (lg_sl ([.ref n0, .int p0, .int p1, .int p2, .int p3])).length) Slot.unset).toArray = ls at hl ⊢
  have hl : lv_has ls 5 [(0, .ref n0), (1, .int p0), (2, .int p1), (3, .int p2), (4, .int p3)] := hl
  obtain ⟨G, hG0⟩ : ∃ G : (Nat → Int64), fX11_hourWords wordF zm p0 p1 p2 p3 = G := ⟨_, rfl⟩
  have hG := hG0
  unfold fX11_hourWords at hG
  have hz1 : saidF 0 = zn := hsc.1.1
  have hz2 : saidF 1 = zp := hsc.1.2.1
  have hz3 : saidF 2 = zj := hsc.1.2.2.1
  have hz4 : saidF 3 = zo := hsc.1.2.2.2.1
  have hz5 : saidF 4 = zf := hsc.1.2.2.2.2.1
  have hz6 : saidF 6 = zm := hsc.1.2.2.2.2.2.1
  have hz7 : saidF 8 = zk := hsc.1.2.2.2.2.2.2.1
  have hz8 : saidF 9 = zw := hsc.1.2.2.2.2.2.2.2
  have hz9 : ¬ zn < 0 := hsc.2.1.1
  have hz10 : ¬ 12 < zn := hsc.2.1.2
  have hz11 : ¬ zp < 0 := hsc.2.2.1.1
  have hz12 : ¬ 20 < zp := hsc.2.2.1.2
  have hz13 : ¬ zj < 0 := hsc.2.2.2.1.1
  have hz14 : ¬ 16 < zj := hsc.2.2.2.1.2
  have hz15 : ¬ zo < 0 := hsc.2.2.2.2.1.1
  have hz16 : ¬ 6 < zo := hsc.2.2.2.2.1.2
  have hz17 : ¬ zf < 0 := hsc.2.2.2.2.2.1.1
  have hz18 : ¬ 8 < zf := hsc.2.2.2.2.2.1.2
  have hz19 : ¬ zk < (-1) := hsc.2.2.2.2.2.2.1.1
  have hz20 : ¬ 12 ≤ zk := hsc.2.2.2.2.2.2.1.2
  have hz21 : ¬ zw < 0 := hsc.2.2.2.2.2.2.2.1.1
  have hz22 : ¬ 6 < zw := hsc.2.2.2.2.2.2.2.1.2
  refine lv_aload_n hx hb dX11_hourWords_0 rfl (lv_at hl 0 rfl) ?_
  refine va_get (D := (dC, dI)) (ci := 11) (v := .ref a_word) (C := RX11) (T := TX11) (N := 42) hx hb hts iX11_hourWords_X11 hown hK.1 hP 0 gz0 vcz11 19 (by decide) (kX11_hourWords_1 hts) (fun _ h9 => h9) gz19 dX11_hourWords_1 ?_
  refine lv_iconst (v := 0) hx hb dX11_hourWords_4 (by decide) ?_
  refine lv_aload_n hx hb dX11_hourWords_5 rfl (lv_at hl 0 rfl) ?_
  refine lv_iload_n hx hb dX11_hourWords_6 rfl (lv_at hl 1 rfl) ?_
  refine z_i (wr := [(a_word, .inl (kA 2, 11, .inr (.inl wordF)))]) (va_runV (As := [.int p0]) (rest := [.int 0, .ref a_word]) ⟨hx, hb, hml, hown, hts⟩ (mX11_monthAt l dC dI kA _ n0 m_taped m_laws m_next m_wrong m_number m_text m_made m_deep m_lines m_opened m_top m_goNode m_goDrops m_goHour m_goFelt m_goSalt m_goMore m_bestLeft m_bestHour m_bestMany a_tape a_sign a_length a_clause a_clauses a_chain a_open a_stack a_word a_said a_kept a_stepNode a_stepDrops a_stepHour a_stepNext a_stepPass a_bestPass a_far a_waited a_servers a_images a_isMade saidF zn zp zj zo zf zm zk zw pd p0 hsc) (cwV 1 hts gX11_hourWords_X11_monthAt rfl rfl rfl ⟨rfl, hdX11_monthAt⟩ ⟨(Nat.le_of_ble_eq_true rfl), (Nat.le_of_ble_eq_true rfl)⟩) ⟨zPc.blind, va_recv (q := (RX11, TX11, 42)) hK.1 hP (ci := 11) (q0 := 0) rfl rfl, zPre hK (hP.sub [0, 2] rfl) (hD.sub [0, 2] (by decide) rfl)⟩ rfl rfl hl.1 rfl (lv_room (Nat.le_of_ble_eq_true rfl)) dX11_hourWords_7 ⟨(Nat.le_of_ble_eq_true rfl), (Nat.le_of_ble_eq_true rfl)⟩) hP hD hS hA [0, 2] [1] rfl rfl (by decide) (by decide) (fun r25 u23 H locs hw24 hP hD hS => ?_)
  obtain ⟨er28, hp27⟩ := hw24
  have er28 : r25 = u23 := er28
  subst er28
  have er25 : r25 = fX11_monthAt zm p0 := hp27
  have hG := zbnd hG er25
  obtain ⟨hP, hD⟩ := z_re (L := [(a_word, .inl (kA 2, 11, .inr (.inl wordF))), (n0, .inr (11, .ref a_tape :: .int m_taped :: .int m_laws :: .ref a_sign :: .ref a_length :: .ref a_clause :: .ref a_clauses :: .ref a_chain :: .int m_next :: .int m_wrong :: .int m_number :: .int m_text :: .int m_made :: .int m_deep :: .int m_lines :: .ref a_open :: .int m_opened :: .ref a_stack :: .int m_top :: .ref a_word :: .ref a_said :: .ref a_kept :: [.int m_goNode, .int m_goDrops, .int m_goHour, .int m_goFelt, .int m_goSalt, .int m_goMore, .ref a_stepNode, .ref a_stepDrops, .ref a_stepHour, .ref a_stepNext, .ref a_stepPass, .int m_bestLeft, .int m_bestHour, .int m_bestMany, .ref a_bestPass, .ref a_far, .ref a_waited, .ref a_servers, .ref a_images, .ref a_isMade])), (a_said, .inl (kA 0, 360, .inl saidF))]) hP hD
  refine lv_i2l hx hb dX11_hourWords_10 rfl ?_
  refine va_last hx hb hK.1 hP hD hS 0 2 gz0 tzz2 (vpd (by decide)) dX11_hourWords_11 (fun H locs hP hD hS => ?_)
  obtain ⟨hP, hD⟩ := z_re (L := [(a_word, .inl (kA 2, 11, .inr (.inl (vp_updL wordF (0 : Int32).toNatClampNeg r25.toInt64)))), (n0, .inr (11, .ref a_tape :: .int m_taped :: .int m_laws :: .ref a_sign :: .ref a_length :: .ref a_clause :: .ref a_clauses :: .ref a_chain :: .int m_next :: .int m_wrong :: .int m_number :: .int m_text :: .int m_made :: .int m_deep :: .int m_lines :: .ref a_open :: .int m_opened :: .ref a_stack :: .int m_top :: .ref a_word :: .ref a_said :: .ref a_kept :: [.int m_goNode, .int m_goDrops, .int m_goHour, .int m_goFelt, .int m_goSalt, .int m_goMore, .ref a_stepNode, .ref a_stepDrops, .ref a_stepHour, .ref a_stepNext, .ref a_stepPass, .int m_bestLeft, .int m_bestHour, .int m_bestMany, .ref a_bestPass, .ref a_far, .ref a_waited, .ref a_servers, .ref a_images, .ref a_isMade])), (a_said, .inl (kA 0, 360, .inl saidF))]) hP hD
  obtain ⟨f30, ef30⟩ : ∃ y : Nat → Int64, y = (vp_updL wordF (0 : Int32).toNatClampNeg r25.toInt64) := ⟨_, rfl⟩
  rw [← ef30] at hP hD
  have hG := zbnd hG ef30
  refine lv_aload_n hx hb dX11_hourWords_12 rfl (lv_at hl 0 rfl) ?_
  refine va_get (D := (dC, dI)) (ci := 11) (v := .ref a_word) (C := RX11) (T := TX11) (N := 42) hx hb hts iX11_hourWords_X11 hown hK.1 hP 1 gz1 vcz11 19 (by decide) (kX11_hourWords_1 hts) (fun _ h9 => h9) gz19 dX11_hourWords_13 ?_
  refine lv_iconst (v := 1) hx hb dX11_hourWords_16 (by decide) ?_
  refine lv_iload_n hx hb dX11_hourWords_17 rfl (lv_at hl 1 rfl) ?_
  refine lv_bipush (v := 24) hx hb dX11_hourWords_18 (by decide) ?_
  refine lv_irem hx hb dX11_hourWords_20 (by decide) ?_
  refine lv_topi (fun x31 ex31 => ?_)
  have hG := zbnd hG ex31
  refine lv_i2l hx hb dX11_hourWords_21 rfl ?_
  refine va_last hx hb hK.1 hP hD hS 0 2 gz0 tzz2 (vpd (by decide)) dX11_hourWords_22 (fun H locs hP hD hS => ?_)
  obtain ⟨hP, hD⟩ := z_re (L := [(a_word, .inl (kA 2, 11, .inr (.inl (vp_updL f30 (1 : Int32).toNatClampNeg x31.toInt64)))), (n0, .inr (11, .ref a_tape :: .int m_taped :: .int m_laws :: .ref a_sign :: .ref a_length :: .ref a_clause :: .ref a_clauses :: .ref a_chain :: .int m_next :: .int m_wrong :: .int m_number :: .int m_text :: .int m_made :: .int m_deep :: .int m_lines :: .ref a_open :: .int m_opened :: .ref a_stack :: .int m_top :: .ref a_word :: .ref a_said :: .ref a_kept :: [.int m_goNode, .int m_goDrops, .int m_goHour, .int m_goFelt, .int m_goSalt, .int m_goMore, .ref a_stepNode, .ref a_stepDrops, .ref a_stepHour, .ref a_stepNext, .ref a_stepPass, .int m_bestLeft, .int m_bestHour, .int m_bestMany, .ref a_bestPass, .ref a_far, .ref a_waited, .ref a_servers, .ref a_images, .ref a_isMade])), (a_said, .inl (kA 0, 360, .inl saidF))]) hP hD
  obtain ⟨f32, ef32⟩ : ∃ y : Nat → Int64, y = (vp_updL f30 (1 : Int32).toNatClampNeg x31.toInt64) := ⟨_, rfl⟩
  rw [← ef32] at hP hD
  have hG := zbnd hG ef32
  refine lv_aload_n hx hb dX11_hourWords_23 rfl (lv_at hl 0 rfl) ?_
  refine va_get (D := (dC, dI)) (ci := 11) (v := .ref a_word) (C := RX11) (T := TX11) (N := 42) hx hb hts iX11_hourWords_X11 hown hK.1 hP 1 gz1 vcz11 19 (by decide) (kX11_hourWords_1 hts) (fun _ h9 => h9) gz19 dX11_hourWords_24 ?_
  refine lv_iconst (v := 2) hx hb dX11_hourWords_27 (by decide) ?_
  refine lv_iload_n hx hb dX11_hourWords_28 rfl (lv_at hl 1 rfl) ?_
  refine lv_bipush (v := 24) hx hb dX11_hourWords_29 (by decide) ?_
  refine lv_idiv hx hb dX11_hourWords_31 (by decide) ?_
  refine lv_topi (fun x33 ex33 => ?_)
  have hG := zbnd hG ex33
  refine lv_i2l hx hb dX11_hourWords_32 rfl ?_
  refine va_last hx hb hK.1 hP hD hS 0 2 gz0 tzz2 (vpd (by decide)) dX11_hourWords_33 (fun H locs hP hD hS => ?_)
  obtain ⟨hP, hD⟩ := z_re (L := [(a_word, .inl (kA 2, 11, .inr (.inl (vp_updL f32 (2 : Int32).toNatClampNeg x33.toInt64)))), (n0, .inr (11, .ref a_tape :: .int m_taped :: .int m_laws :: .ref a_sign :: .ref a_length :: .ref a_clause :: .ref a_clauses :: .ref a_chain :: .int m_next :: .int m_wrong :: .int m_number :: .int m_text :: .int m_made :: .int m_deep :: .int m_lines :: .ref a_open :: .int m_opened :: .ref a_stack :: .int m_top :: .ref a_word :: .ref a_said :: .ref a_kept :: [.int m_goNode, .int m_goDrops, .int m_goHour, .int m_goFelt, .int m_goSalt, .int m_goMore, .ref a_stepNode, .ref a_stepDrops, .ref a_stepHour, .ref a_stepNext, .ref a_stepPass, .int m_bestLeft, .int m_bestHour, .int m_bestMany, .ref a_bestPass, .ref a_far, .ref a_waited, .ref a_servers, .ref a_images, .ref a_isMade])), (a_said, .inl (kA 0, 360, .inl saidF))]) hP hD
  obtain ⟨f34, ef34⟩ : ∃ y : Nat → Int64, y = (vp_updL f32 (2 : Int32).toNatClampNeg x33.toInt64) := ⟨_, rfl⟩
  rw [← ef34] at hP hD
  have hG := zbnd hG ef34
  refine lv_aload_n hx hb dX11_hourWords_34 rfl (lv_at hl 0 rfl) ?_
  refine va_get (D := (dC, dI)) (ci := 11) (v := .ref a_word) (C := RX11) (T := TX11) (N := 42) hx hb hts iX11_hourWords_X11 hown hK.1 hP 1 gz1 vcz11 19 (by decide) (kX11_hourWords_1 hts) (fun _ h9 => h9) gz19 dX11_hourWords_35 ?_
  refine lv_bipush (v := 7) hx hb dX11_hourWords_38 (by decide) ?_
  refine lv_iload_n hx hb dX11_hourWords_40 rfl (lv_at hl 2 rfl) ?_
  refine lv_i2l hx hb dX11_hourWords_41 rfl ?_
  refine va_last hx hb hK.1 hP hD hS 0 2 gz0 tzz2 (vpd (by decide)) dX11_hourWords_42 (fun H locs hP hD hS => ?_)
  obtain ⟨hP, hD⟩ := z_re (L := [(a_word, .inl (kA 2, 11, .inr (.inl (vp_updL f34 (7 : Int32).toNatClampNeg p1.toInt64)))), (n0, .inr (11, .ref a_tape :: .int m_taped :: .int m_laws :: .ref a_sign :: .ref a_length :: .ref a_clause :: .ref a_clauses :: .ref a_chain :: .int m_next :: .int m_wrong :: .int m_number :: .int m_text :: .int m_made :: .int m_deep :: .int m_lines :: .ref a_open :: .int m_opened :: .ref a_stack :: .int m_top :: .ref a_word :: .ref a_said :: .ref a_kept :: [.int m_goNode, .int m_goDrops, .int m_goHour, .int m_goFelt, .int m_goSalt, .int m_goMore, .ref a_stepNode, .ref a_stepDrops, .ref a_stepHour, .ref a_stepNext, .ref a_stepPass, .int m_bestLeft, .int m_bestHour, .int m_bestMany, .ref a_bestPass, .ref a_far, .ref a_waited, .ref a_servers, .ref a_images, .ref a_isMade])), (a_said, .inl (kA 0, 360, .inl saidF))]) hP hD
  obtain ⟨f35, ef35⟩ : ∃ y : Nat → Int64, y = (vp_updL f34 (7 : Int32).toNatClampNeg p1.toInt64) := ⟨_, rfl⟩
  rw [← ef35] at hP hD
  have hG := zbnd hG ef35
  refine lv_aload_n hx hb dX11_hourWords_43 rfl (lv_at hl 0 rfl) ?_
  refine va_get (D := (dC, dI)) (ci := 11) (v := .ref a_word) (C := RX11) (T := TX11) (N := 42) hx hb hts iX11_hourWords_X11 hown hK.1 hP 1 gz1 vcz11 19 (by decide) (kX11_hourWords_1 hts) (fun _ h9 => h9) gz19 dX11_hourWords_44 ?_
  refine lv_bipush (v := 8) hx hb dX11_hourWords_47 (by decide) ?_
  refine lv_iload_n hx hb dX11_hourWords_49 rfl (lv_at hl 3 rfl) ?_
  refine lv_i2l hx hb dX11_hourWords_50 rfl ?_
  refine va_last hx hb hK.1 hP hD hS 0 2 gz0 tzz2 (vpd (by decide)) dX11_hourWords_51 (fun H locs hP hD hS => ?_)
  obtain ⟨hP, hD⟩ := z_re (L := [(a_word, .inl (kA 2, 11, .inr (.inl (vp_updL f35 (8 : Int32).toNatClampNeg p2.toInt64)))), (n0, .inr (11, .ref a_tape :: .int m_taped :: .int m_laws :: .ref a_sign :: .ref a_length :: .ref a_clause :: .ref a_clauses :: .ref a_chain :: .int m_next :: .int m_wrong :: .int m_number :: .int m_text :: .int m_made :: .int m_deep :: .int m_lines :: .ref a_open :: .int m_opened :: .ref a_stack :: .int m_top :: .ref a_word :: .ref a_said :: .ref a_kept :: [.int m_goNode, .int m_goDrops, .int m_goHour, .int m_goFelt, .int m_goSalt, .int m_goMore, .ref a_stepNode, .ref a_stepDrops, .ref a_stepHour, .ref a_stepNext, .ref a_stepPass, .int m_bestLeft, .int m_bestHour, .int m_bestMany, .ref a_bestPass, .ref a_far, .ref a_waited, .ref a_servers, .ref a_images, .ref a_isMade])), (a_said, .inl (kA 0, 360, .inl saidF))]) hP hD
  obtain ⟨f36, ef36⟩ : ∃ y : Nat → Int64, y = (vp_updL f35 (8 : Int32).toNatClampNeg p2.toInt64) := ⟨_, rfl⟩
  rw [← ef36] at hP hD
  have hG := zbnd hG ef36
  refine lv_aload_n hx hb dX11_hourWords_52 rfl (lv_at hl 0 rfl) ?_
  refine va_get (D := (dC, dI)) (ci := 11) (v := .ref a_word) (C := RX11) (T := TX11) (N := 42) hx hb hts iX11_hourWords_X11 hown hK.1 hP 1 gz1 vcz11 19 (by decide) (kX11_hourWords_1 hts) (fun _ h9 => h9) gz19 dX11_hourWords_53 ?_
  refine lv_bipush (v := 9) hx hb dX11_hourWords_56 (by decide) ?_
  refine lv_iload hx hb dX11_hourWords_58 (lv_at hl 4 rfl) ?_
  refine lv_i2l hx hb dX11_hourWords_60 rfl ?_
  refine va_last hx hb hK.1 hP hD hS 0 2 gz0 tzz2 (vpd (by decide)) dX11_hourWords_61 (fun H locs hP hD hS => ?_)
  obtain ⟨hP, hD⟩ := z_re (L := [(a_word, .inl (kA 2, 11, .inr (.inl (vp_updL f36 (9 : Int32).toNatClampNeg p3.toInt64)))), (n0, .inr (11, .ref a_tape :: .int m_taped :: .int m_laws :: .ref a_sign :: .ref a_length :: .ref a_clause :: .ref a_clauses :: .ref a_chain :: .int m_next :: .int m_wrong :: .int m_number :: .int m_text :: .int m_made :: .int m_deep :: .int m_lines :: .ref a_open :: .int m_opened :: .ref a_stack :: .int m_top :: .ref a_word :: .ref a_said :: .ref a_kept :: [.int m_goNode, .int m_goDrops, .int m_goHour, .int m_goFelt, .int m_goSalt, .int m_goMore, .ref a_stepNode, .ref a_stepDrops, .ref a_stepHour, .ref a_stepNext, .ref a_stepPass, .int m_bestLeft, .int m_bestHour, .int m_bestMany, .ref a_bestPass, .ref a_far, .ref a_waited, .ref a_servers, .ref a_images, .ref a_isMade])), (a_said, .inl (kA 0, 360, .inl saidF))]) hP hD
  obtain ⟨f37, ef37⟩ : ∃ y : Nat → Int64, y = (vp_updL f36 (9 : Int32).toNatClampNeg p3.toInt64) := ⟨_, rfl⟩
  rw [← ef37] at hP hD
  have hG := zbnd hG ef37
  refine lv_aload_n hx hb dX11_hourWords_62 rfl (lv_at hl 0 rfl) ?_
  refine va_get (D := (dC, dI)) (ci := 11) (v := .ref a_word) (C := RX11) (T := TX11) (N := 42) hx hb hts iX11_hourWords_X11 hown hK.1 hP 1 gz1 vcz11 19 (by decide) (kX11_hourWords_1 hts) (fun _ h9 => h9) gz19 dX11_hourWords_63 ?_
  refine lv_bipush (v := 10) hx hb dX11_hourWords_66 (by decide) ?_
  refine lv_lconst (v := 0) hx hb dX11_hourWords_68 (by decide) ?_
  refine va_last hx hb hK.1 hP hD hS 0 2 gz0 tzz2 (vpd (by decide)) dX11_hourWords_69 (fun H locs hP hD hS => ?_)
  obtain ⟨hP, hD⟩ := z_re (L := [(a_word, .inl (kA 2, 11, .inr (.inl (vp_updL f37 (10 : Int32).toNatClampNeg 0)))), (n0, .inr (11, .ref a_tape :: .int m_taped :: .int m_laws :: .ref a_sign :: .ref a_length :: .ref a_clause :: .ref a_clauses :: .ref a_chain :: .int m_next :: .int m_wrong :: .int m_number :: .int m_text :: .int m_made :: .int m_deep :: .int m_lines :: .ref a_open :: .int m_opened :: .ref a_stack :: .int m_top :: .ref a_word :: .ref a_said :: .ref a_kept :: [.int m_goNode, .int m_goDrops, .int m_goHour, .int m_goFelt, .int m_goSalt, .int m_goMore, .ref a_stepNode, .ref a_stepDrops, .ref a_stepHour, .ref a_stepNext, .ref a_stepPass, .int m_bestLeft, .int m_bestHour, .int m_bestMany, .ref a_bestPass, .ref a_far, .ref a_waited, .ref a_servers, .ref a_images, .ref a_isMade])), (a_said, .inl (kA 0, 360, .inl saidF))]) hP hD
  obtain ⟨f38, ef38⟩ : ∃ y : Nat → Int64, y = (vp_updL f37 (10 : Int32).toNatClampNeg 0) := ⟨_, rfl⟩
  rw [← ef38] at hP hD
  have hG := zbnd hG ef38
  obtain ⟨hP9, hD9⟩ := z_sb (L' := [(n0, .inr (11, .ref a_tape :: .int m_taped :: .int m_laws :: .ref a_sign :: .ref a_length :: .ref a_clause :: .ref a_clauses :: .ref a_chain :: .int m_next :: .int m_wrong :: .int m_number :: .int m_text :: .int m_made :: .int m_deep :: .int m_lines :: .ref a_open :: .int m_opened :: .ref a_stack :: .int m_top :: .ref a_word :: .ref a_said :: .ref a_kept :: [.int m_goNode, .int m_goDrops, .int m_goHour, .int m_goFelt, .int m_goSalt, .int m_goMore, .ref a_stepNode, .ref a_stepDrops, .ref a_stepHour, .ref a_stepNext, .ref a_stepPass, .int m_bestLeft, .int m_bestHour, .int m_bestMany, .ref a_bestPass, .ref a_far, .ref a_waited, .ref a_servers, .ref a_images, .ref a_isMade])), (a_word, .inl (kA 2, 11, .inr (.inl f38))), (a_said, .inl (kA 0, 360, .inl saidF))]) hP hD [1, 0, 2] (by decide) rfl
  refine W.widen (k := 0) (n := 0) (Nat.le_of_ble_eq_true rfl) (Nat.le_of_ble_eq_true rfl) ?_
  exact W.vret hx hb hr (fun t ht hW => ⟨⟨(f38), rfl, (hG.trans hG0.symm), by rw [ht]; exact hP9, hD9⟩, hS.F ht⟩) hS.2.2 dX11_hourWords_70
set_option maxRecDepth 100000 in
def fX11_nodeWords (wordF : Nat → Int64) (saidF : Nat → Int32) (zm : Int32) (p0 : Int32) (p1 : Int32) (p2 : Int32) (p3 : Int32) (p4 : Int32) : (Nat → Int64) := bnd (fX11_hourWords wordF zm p0 p2 p3 p4) (fun (o26 : Nat → Int64) => bnd ((vp_updL o26 (3 : Int32).toNatClampNeg (saidF ((20 + (4 * p1)) + 0).toNatClampNeg).toInt64)) (fun (f32 : Nat → Int64) => bnd ((vp_updL f32 (4 : Int32).toNatClampNeg 0)) (fun (f33 : Nat → Int64) => bnd ((vp_updL f33 (5 : Int32).toNatClampNeg (saidF ((20 + (4 * p1)) + 2).toNatClampNeg).toInt64)) (fun (f37 : Nat → Int64) => bnd ((vp_updL f37 (6 : Int32).toNatClampNeg p1.toInt64)) (fun (f38 : Nat → Int64) => f38)))))
set_option maxHeartbeats 4000000 in
set_option maxRecDepth 100000 in
theorem mX11_nodeWords (l : Launch) (dC : Nat → ClassId) (dI : Nat → Nat → Nat) (kA : Nat → ClassId) (sz : Nat) (n0 : Nat) (m_taped : Int32) (m_laws : Int32) (m_next : Int32) (m_wrong : Int32) (m_number : Int32) (m_text : Int32) (m_made : Int32) (m_deep : Int32) (m_lines : Int32) (m_opened : Int32) (m_top : Int32) (m_goNode : Int32) (m_goDrops : Int32) (m_goHour : Int32) (m_goFelt : Int32) (m_goSalt : Int32) (m_goMore : Int32) (m_bestLeft : Int32) (m_bestHour : Int32) (m_bestMany : Int32) (a_tape : Nat) (a_sign : Nat) (a_length : Nat) (a_clause : Nat) (a_clauses : Nat) (a_chain : Nat) (a_open : Nat) (a_stack : Nat) (a_word : Nat) (a_said : Nat) (a_kept : Nat) (a_stepNode : Nat) (a_stepDrops : Nat) (a_stepHour : Nat) (a_stepNext : Nat) (a_stepPass : Nat) (a_bestPass : Nat) (a_far : Nat) (a_waited : Nat) (a_servers : Nat) (a_images : Nat) (a_isMade : Nat) (wordF : Nat → Int64) (saidF : Nat → Int32) (zn : Int32) (zp : Int32) (zj : Int32) (zo : Int32) (zf : Int32) (zm : Int32) (zk : Int32) (zw : Int32) (pd : Nat → Int32) (p0 : Int32) (p1 : Int32) (p2 : Int32) (p3 : Int32) (p4 : Int32) (hsc : SC saidF zn zp zj zo zf zm zk zw pd) (hn0 : ¬ p1 < (-1)) (hn1 : ¬ 12 < p1) : Met l yX11_nodeWords wsX11_nodeWords ({ frames := 2, cells := 0, slots := 0, locals := 45 }) (zPc dC dI kA sz [.ref n0, .int p0, .int p1, .int p2, .int p3, .int p4] [(n0, .inr (11, .ref a_tape :: .int m_taped :: .int m_laws :: .ref a_sign :: .ref a_length :: .ref a_clause :: .ref a_clauses :: .ref a_chain :: .int m_next :: .int m_wrong :: .int m_number :: .int m_text :: .int m_made :: .int m_deep :: .int m_lines :: .ref a_open :: .int m_opened :: .ref a_stack :: .int m_top :: .ref a_word :: .ref a_said :: .ref a_kept :: [.int m_goNode, .int m_goDrops, .int m_goHour, .int m_goFelt, .int m_goSalt, .int m_goMore, .ref a_stepNode, .ref a_stepDrops, .ref a_stepHour, .ref a_stepNext, .ref a_stepPass, .int m_bestLeft, .int m_bestHour, .int m_bestMany, .ref a_bestPass, .ref a_far, .ref a_waited, .ref a_servers, .ref a_images, .ref a_isMade])), (a_word, .inl (kA 2, 11, .inr (.inl wordF))), (a_said, .inl (kA 0, 360, .inl saidF))]) (va_Qv (fun (u : (Nat → Int64)) => u = fX11_nodeWords wordF saidF zm p0 p1 p2 p3 p4) (zB dC dI (va_A [(n0, .inr (11, .ref a_tape :: .int m_taped :: .int m_laws :: .ref a_sign :: .ref a_length :: .ref a_clause :: .ref a_clauses :: .ref a_chain :: .int m_next :: .int m_wrong :: .int m_number :: .int m_text :: .int m_made :: .int m_deep :: .int m_lines :: .ref a_open :: .int m_opened :: .ref a_stack :: .int m_top :: .ref a_word :: .ref a_said :: .ref a_kept :: [.int m_goNode, .int m_goDrops, .int m_goHour, .int m_goFelt, .int m_goSalt, .int m_goMore, .ref a_stepNode, .ref a_stepDrops, .ref a_stepHour, .ref a_stepNext, .ref a_stepPass, .int m_bestLeft, .int m_bestHour, .int m_bestMany, .ref a_bestPass, .ref a_far, .ref a_waited, .ref a_servers, .ref a_images, .ref a_isMade])), (a_word, .inl (kA 2, 11, .inr (.inl wordF))), (a_said, .inl (kA 0, 360, .inl saidF))] sz) (fun (u : (Nat → Int64)) => [(n0, .inr (11, .ref a_tape :: .int m_taped :: .int m_laws :: .ref a_sign :: .ref a_length :: .ref a_clause :: .ref a_clauses :: .ref a_chain :: .int m_next :: .int m_wrong :: .int m_number :: .int m_text :: .int m_made :: .int m_deep :: .int m_lines :: .ref a_open :: .int m_opened :: .ref a_stack :: .int m_top :: .ref a_word :: .ref a_said :: .ref a_kept :: [.int m_goNode, .int m_goDrops, .int m_goHour, .int m_goFelt, .int m_goSalt, .int m_goMore, .ref a_stepNode, .ref a_stepDrops, .ref a_stepHour, .ref a_stepNext, .ref a_stepPass, .int m_bestLeft, .int m_bestHour, .int m_bestMany, .ref a_bestPass, .ref a_far, .ref a_waited, .ref a_servers, .ref a_images, .ref a_isMade])), (a_word, .inl (kA 2, 11, .inr (.inl u))), (a_said, .inl (kA 0, 360, .inl saidF))])) (va_A [(n0, .inr (11, .ref a_tape :: .int m_taped :: .int m_laws :: .ref a_sign :: .ref a_length :: .ref a_clause :: .ref a_clauses :: .ref a_chain :: .int m_next :: .int m_wrong :: .int m_number :: .int m_text :: .int m_made :: .int m_deep :: .int m_lines :: .ref a_open :: .int m_opened :: .ref a_stack :: .int m_top :: .ref a_word :: .ref a_said :: .ref a_kept :: [.int m_goNode, .int m_goDrops, .int m_goHour, .int m_goFelt, .int m_goSalt, .int m_goMore, .ref a_stepNode, .ref a_stepDrops, .ref a_stepHour, .ref a_stepNext, .ref a_stepPass, .int m_bestLeft, .int m_bestHour, .int m_bestMany, .ref a_bestPass, .ref a_far, .ref a_waited, .ref a_servers, .ref a_images, .ref a_isMade])), (a_word, .inl (kA 2, 11, .inr (.inl wordF))), (a_said, .inl (kA 0, 360, .inl saidF))] sz)) 0 0 (va_A [(n0, .inr (11, .ref a_tape :: .int m_taped :: .int m_laws :: .ref a_sign :: .ref a_length :: .ref a_clause :: .ref a_clauses :: .ref a_chain :: .int m_next :: .int m_wrong :: .int m_number :: .int m_text :: .int m_made :: .int m_deep :: .int m_lines :: .ref a_open :: .int m_opened :: .ref a_stack :: .int m_top :: .ref a_word :: .ref a_said :: .ref a_kept :: [.int m_goNode, .int m_goDrops, .int m_goHour, .int m_goFelt, .int m_goSalt, .int m_goMore, .ref a_stepNode, .ref a_stepDrops, .ref a_stepHour, .ref a_stepNext, .ref a_stepPass, .int m_bestLeft, .int m_bestHour, .int m_bestMany, .ref a_bestPass, .ref a_far, .ref a_waited, .ref a_servers, .ref a_images, .ref a_isMade])), (a_word, .inl (kA 2, 11, .inr (.inl wordF))), (a_said, .inl (kA 0, 360, .inl saidF))] sz) := by
  refine Met.ofW (cc := cX11_nodeWords) (maxL := 6) (ret := none) pnX11 rfl ?_
  intro p e s m args below meth c s₁ B hml hv
  obtain ⟨rfl, hsz, hP, hK, hD0⟩ := hv
  have hx := B.exec
  have hb := B.bytes
  have hr := B.returns
  have hts := atoms_spec (ws := wsX11_nodeWords) B.pre
  have hown : s.vm.findClass RX11 = some m.cls := findClass_of_methodNamed B.named
  have hlocks := B.notSynchronized
  subst hsz
  have hD := hD0.self (sz := s.heap.size)
  generalize hAe : va_A [(n0, .inr (11, .ref a_tape :: .int m_taped :: .int m_laws :: .ref a_sign :: .ref a_length :: .ref a_clause :: .ref a_clauses :: .ref a_chain :: .int m_next :: .int m_wrong :: .int m_number :: .int m_text :: .int m_made :: .int m_deep :: .int m_lines :: .ref a_open :: .int m_opened :: .ref a_stack :: .int m_top :: .ref a_word :: .ref a_said :: .ref a_kept :: [.int m_goNode, .int m_goDrops, .int m_goHour, .int m_goFelt, .int m_goSalt, .int m_goMore, .ref a_stepNode, .ref a_stepDrops, .ref a_stepHour, .ref a_stepNext, .ref a_stepPass, .int m_bestLeft, .int m_bestHour, .int m_bestMany, .ref a_bestPass, .ref a_far, .ref a_waited, .ref a_servers, .ref a_images, .ref a_isMade])), (a_word, .inl (kA 2, 11, .inr (.inl wordF))), (a_said, .inl (kA 0, 360, .inl saidF))] s.heap.size = A at hD ⊢
  have hA : ∀ q : Nat, s.heap.size ≤ q → A q := zA_of hAe
  have hS : va_S A s.heap s.heap [] := va_S.rf
  have hP : va_P (dC, dI) vwCl [(n0, .inr (11, .ref a_tape :: .int m_taped :: .int m_laws :: .ref a_sign :: .ref a_length :: .ref a_clause :: .ref a_clauses :: .ref a_chain :: .int m_next :: .int m_wrong :: .int m_number :: .int m_text :: .int m_made :: .int m_deep :: .int m_lines :: .ref a_open :: .int m_opened :: .ref a_stack :: .int m_top :: .ref a_word :: .ref a_said :: .ref a_kept :: [.int m_goNode, .int m_goDrops, .int m_goHour, .int m_goFelt, .int m_goSalt, .int m_goMore, .ref a_stepNode, .ref a_stepDrops, .ref a_stepHour, .ref a_stepNext, .ref a_stepPass, .int m_bestLeft, .int m_bestHour, .int m_bestMany, .ref a_bestPass, .ref a_far, .ref a_waited, .ref a_servers, .ref a_images, .ref a_isMade])), (a_word, .inl (kA 2, 11, .inr (.inl wordF))), (a_said, .inl (kA 0, 360, .inl saidF))] s.heap := hP
  have hl := lv_entry ([.ref n0, .int p0, .int p1, .int p2, .int p3, .int p4]) (n := 6) (Nat.le_of_ble_eq_true rfl)
  rw [lg_entry_eq]
  generalize (lg_sl ([.ref n0, .int p0, .int p1, .int p2, .int p3, .int p4]) ++ List.replicate (6 - (lg_sl ([.ref n0, .int p0, .int p1, .int p2, .int p3, .int p4])).length) Slot.unset).toArray = ls at hl ⊢
  have hl : lv_has ls 6 [(0, .ref n0), (1, .int p0), (2, .int p1), (3, .int p2), (4, .int p3), (5, .int p4)] := hl
  obtain ⟨G, hG0⟩ : ∃ G : (Nat → Int64), fX11_nodeWords wordF saidF zm p0 p1 p2 p3 p4 = G := ⟨_, rfl⟩
  have hG := hG0
  unfold fX11_nodeWords at hG
  have hz1 : saidF 0 = zn := hsc.1.1
  have hz2 : saidF 1 = zp := hsc.1.2.1
  have hz3 : saidF 2 = zj := hsc.1.2.2.1
  have hz4 : saidF 3 = zo := hsc.1.2.2.2.1
  have hz5 : saidF 4 = zf := hsc.1.2.2.2.2.1
  have hz6 : saidF 6 = zm := hsc.1.2.2.2.2.2.1
  have hz7 : saidF 8 = zk := hsc.1.2.2.2.2.2.2.1
  have hz8 : saidF 9 = zw := hsc.1.2.2.2.2.2.2.2
  have hz9 : ¬ zn < 0 := hsc.2.1.1
  have hz10 : ¬ 12 < zn := hsc.2.1.2
  have hz11 : ¬ zp < 0 := hsc.2.2.1.1
  have hz12 : ¬ 20 < zp := hsc.2.2.1.2
  have hz13 : ¬ zj < 0 := hsc.2.2.2.1.1
  have hz14 : ¬ 16 < zj := hsc.2.2.2.1.2
  have hz15 : ¬ zo < 0 := hsc.2.2.2.2.1.1
  have hz16 : ¬ 6 < zo := hsc.2.2.2.2.1.2
  have hz17 : ¬ zf < 0 := hsc.2.2.2.2.2.1.1
  have hz18 : ¬ 8 < zf := hsc.2.2.2.2.2.1.2
  have hz19 : ¬ zk < (-1) := hsc.2.2.2.2.2.2.1.1
  have hz20 : ¬ 12 ≤ zk := hsc.2.2.2.2.2.2.1.2
  have hz21 : ¬ zw < 0 := hsc.2.2.2.2.2.2.2.1.1
  have hz22 : ¬ 6 < zw := hsc.2.2.2.2.2.2.2.1.2
  refine lv_aload_n hx hb dX11_nodeWords_0 rfl (lv_at hl 0 rfl) ?_
  refine lv_iload_n hx hb dX11_nodeWords_1 rfl (lv_at hl 1 rfl) ?_
  refine lv_iload_n hx hb dX11_nodeWords_2 rfl (lv_at hl 3 rfl) ?_
  refine lv_iload hx hb dX11_nodeWords_3 (lv_at hl 4 rfl) ?_
  refine lv_iload hx hb dX11_nodeWords_5 (lv_at hl 5 rfl) ?_
  refine z_v (wr := []) (va_runV (As := [.int p0, .int p2, .int p3, .int p4]) (rest := []) ⟨hx, hb, hml, hown, hts⟩ (mX11_hourWords l dC dI kA _ n0 m_taped m_laws m_next m_wrong m_number m_text m_made m_deep m_lines m_opened m_top m_goNode m_goDrops m_goHour m_goFelt m_goSalt m_goMore m_bestLeft m_bestHour m_bestMany a_tape a_sign a_length a_clause a_clauses a_chain a_open a_stack a_word a_said a_kept a_stepNode a_stepDrops a_stepHour a_stepNext a_stepPass a_bestPass a_far a_waited a_servers a_images a_isMade wordF saidF zn zp zj zo zf zm zk zw pd p0 p2 p3 p4 hsc) (cwV 4 hts gX11_nodeWords_X11_hourWords rfl rfl rfl ⟨rfl, hdX11_hourWords⟩ ⟨(Nat.le_of_ble_eq_true rfl), (Nat.le_of_ble_eq_true rfl)⟩) ⟨zPc.blind, va_recv (q := (RX11, TX11, 42)) hK.1 hP (ci := 11) (q0 := 0) rfl rfl, zPre hK (hP.sub [0, 1, 2] rfl) (hD.sub [0, 1, 2] (by decide) rfl)⟩ rfl rfl hl.1 rfl (lv_room (Nat.le_of_ble_eq_true rfl)) dX11_nodeWords_7 ⟨(Nat.le_of_ble_eq_true rfl), (Nat.le_of_ble_eq_true rfl)⟩) hP hD hS hA [0, 1, 2] [] rfl rfl (by decide) (by decide) (fun u23 H locs hw24 hP hD hS => ?_)
  obtain ⟨o26, rfl⟩ : ∃ z, z = u23 := ⟨_, rfl⟩
  have hp27 := hw24
  have eo26 : o26 = fX11_hourWords wordF zm p0 p2 p3 p4 := hp27
  have hG := zbnd hG eo26
  obtain ⟨hP, hD⟩ := z_re (L := [(n0, .inr (11, .ref a_tape :: .int m_taped :: .int m_laws :: .ref a_sign :: .ref a_length :: .ref a_clause :: .ref a_clauses :: .ref a_chain :: .int m_next :: .int m_wrong :: .int m_number :: .int m_text :: .int m_made :: .int m_deep :: .int m_lines :: .ref a_open :: .int m_opened :: .ref a_stack :: .int m_top :: .ref a_word :: .ref a_said :: .ref a_kept :: [.int m_goNode, .int m_goDrops, .int m_goHour, .int m_goFelt, .int m_goSalt, .int m_goMore, .ref a_stepNode, .ref a_stepDrops, .ref a_stepHour, .ref a_stepNext, .ref a_stepPass, .int m_bestLeft, .int m_bestHour, .int m_bestMany, .ref a_bestPass, .ref a_far, .ref a_waited, .ref a_servers, .ref a_images, .ref a_isMade])), (a_word, .inl (kA 2, 11, .inr (.inl o26))), (a_said, .inl (kA 0, 360, .inl saidF))]) hP hD
  refine lv_aload_n hx hb dX11_nodeWords_10 rfl (lv_at hl 0 rfl) ?_
  refine va_get (D := (dC, dI)) (ci := 11) (v := .ref a_word) (C := RX11) (T := TX11) (N := 42) hx hb hts iX11_nodeWords_X11 hown hK.1 hP 0 gz0 vcz11 19 (by decide) (kX11_nodeWords_1 hts) (fun _ h9 => h9) gz19 dX11_nodeWords_11 ?_
  refine lv_iconst (v := 3) hx hb dX11_nodeWords_14 (by decide) ?_
  refine lv_aload_n hx hb dX11_nodeWords_15 rfl (lv_at hl 0 rfl) ?_
  refine lv_iload_n hx hb dX11_nodeWords_16 rfl (lv_at hl 2 rfl) ?_
  refine lv_iconst (v := 0) hx hb dX11_nodeWords_17 (by decide) ?_
  refine z_i (wr := [(a_word, .inl (kA 2, 11, .inr (.inl o26)))]) (va_runV (As := [.int p1, .int 0]) (rest := [.int 3, .ref a_word]) ⟨hx, hb, hml, hown, hts⟩ (mX11_nodeOf l dC dI kA _ n0 m_taped m_laws m_next m_wrong m_number m_text m_made m_deep m_lines m_opened m_top m_goNode m_goDrops m_goHour m_goFelt m_goSalt m_goMore m_bestLeft m_bestHour m_bestMany a_tape a_sign a_length a_clause a_clauses a_chain a_open a_stack a_word a_said a_kept a_stepNode a_stepDrops a_stepHour a_stepNext a_stepPass a_bestPass a_far a_waited a_servers a_images a_isMade saidF p1 0 hn0 hn1 (by decide) (by decide)) (cwV 2 hts gX11_nodeWords_X11_nodeOf rfl rfl rfl ⟨rfl, hdX11_nodeOf⟩ ⟨(Nat.le_of_ble_eq_true rfl), (Nat.le_of_ble_eq_true rfl)⟩) ⟨zPc.blind, va_recv (q := (RX11, TX11, 42)) hK.1 hP (ci := 11) (q0 := 0) rfl rfl, zPre hK (hP.sub [0, 2] rfl) (hD.sub [0, 2] (by decide) rfl)⟩ rfl rfl hl.1 rfl (lv_room (Nat.le_of_ble_eq_true rfl)) dX11_nodeWords_18 ⟨(Nat.le_of_ble_eq_true rfl), (Nat.le_of_ble_eq_true rfl)⟩) hP hD hS hA [0, 2] [1] rfl rfl (by decide) (by decide) (fun r31 u29 H locs hw30 hP hD hS => ?_)
  obtain rfl := hw30
  obtain ⟨hP, hD⟩ := z_re (L := [(a_word, .inl (kA 2, 11, .inr (.inl o26))), (n0, .inr (11, .ref a_tape :: .int m_taped :: .int m_laws :: .ref a_sign :: .ref a_length :: .ref a_clause :: .ref a_clauses :: .ref a_chain :: .int m_next :: .int m_wrong :: .int m_number :: .int m_text :: .int m_made :: .int m_deep :: .int m_lines :: .ref a_open :: .int m_opened :: .ref a_stack :: .int m_top :: .ref a_word :: .ref a_said :: .ref a_kept :: [.int m_goNode, .int m_goDrops, .int m_goHour, .int m_goFelt, .int m_goSalt, .int m_goMore, .ref a_stepNode, .ref a_stepDrops, .ref a_stepHour, .ref a_stepNext, .ref a_stepPass, .int m_bestLeft, .int m_bestHour, .int m_bestMany, .ref a_bestPass, .ref a_far, .ref a_waited, .ref a_servers, .ref a_images, .ref a_isMade])), (a_said, .inl (kA 0, 360, .inl saidF))]) hP hD
  refine lv_i2l hx hb dX11_nodeWords_21 rfl ?_
  refine va_last hx hb hK.1 hP hD hS 0 2 gz0 tzz2 (vpd (by decide)) dX11_nodeWords_22 (fun H locs hP hD hS => ?_)
  obtain ⟨hP, hD⟩ := z_re (L := [(a_word, .inl (kA 2, 11, .inr (.inl (vp_updL o26 (3 : Int32).toNatClampNeg (saidF ((20 + (4 * p1)) + 0).toNatClampNeg).toInt64)))), (n0, .inr (11, .ref a_tape :: .int m_taped :: .int m_laws :: .ref a_sign :: .ref a_length :: .ref a_clause :: .ref a_clauses :: .ref a_chain :: .int m_next :: .int m_wrong :: .int m_number :: .int m_text :: .int m_made :: .int m_deep :: .int m_lines :: .ref a_open :: .int m_opened :: .ref a_stack :: .int m_top :: .ref a_word :: .ref a_said :: .ref a_kept :: [.int m_goNode, .int m_goDrops, .int m_goHour, .int m_goFelt, .int m_goSalt, .int m_goMore, .ref a_stepNode, .ref a_stepDrops, .ref a_stepHour, .ref a_stepNext, .ref a_stepPass, .int m_bestLeft, .int m_bestHour, .int m_bestMany, .ref a_bestPass, .ref a_far, .ref a_waited, .ref a_servers, .ref a_images, .ref a_isMade])), (a_said, .inl (kA 0, 360, .inl saidF))]) hP hD
  obtain ⟨f32, ef32⟩ : ∃ y : Nat → Int64, y = (vp_updL o26 (3 : Int32).toNatClampNeg (saidF ((20 + (4 * p1)) + 0).toNatClampNeg).toInt64) := ⟨_, rfl⟩
  rw [← ef32] at hP hD
  have hG := zbnd hG ef32
  refine lv_aload_n hx hb dX11_nodeWords_23 rfl (lv_at hl 0 rfl) ?_
  refine va_get (D := (dC, dI)) (ci := 11) (v := .ref a_word) (C := RX11) (T := TX11) (N := 42) hx hb hts iX11_nodeWords_X11 hown hK.1 hP 1 gz1 vcz11 19 (by decide) (kX11_nodeWords_1 hts) (fun _ h9 => h9) gz19 dX11_nodeWords_24 ?_
  refine lv_iconst (v := 4) hx hb dX11_nodeWords_27 (by decide) ?_
  refine lv_lconst (v := 0) hx hb dX11_nodeWords_28 (by decide) ?_
  refine va_last hx hb hK.1 hP hD hS 0 2 gz0 tzz2 (vpd (by decide)) dX11_nodeWords_29 (fun H locs hP hD hS => ?_)
  obtain ⟨hP, hD⟩ := z_re (L := [(a_word, .inl (kA 2, 11, .inr (.inl (vp_updL f32 (4 : Int32).toNatClampNeg 0)))), (n0, .inr (11, .ref a_tape :: .int m_taped :: .int m_laws :: .ref a_sign :: .ref a_length :: .ref a_clause :: .ref a_clauses :: .ref a_chain :: .int m_next :: .int m_wrong :: .int m_number :: .int m_text :: .int m_made :: .int m_deep :: .int m_lines :: .ref a_open :: .int m_opened :: .ref a_stack :: .int m_top :: .ref a_word :: .ref a_said :: .ref a_kept :: [.int m_goNode, .int m_goDrops, .int m_goHour, .int m_goFelt, .int m_goSalt, .int m_goMore, .ref a_stepNode, .ref a_stepDrops, .ref a_stepHour, .ref a_stepNext, .ref a_stepPass, .int m_bestLeft, .int m_bestHour, .int m_bestMany, .ref a_bestPass, .ref a_far, .ref a_waited, .ref a_servers, .ref a_images, .ref a_isMade])), (a_said, .inl (kA 0, 360, .inl saidF))]) hP hD
  obtain ⟨f33, ef33⟩ : ∃ y : Nat → Int64, y = (vp_updL f32 (4 : Int32).toNatClampNeg 0) := ⟨_, rfl⟩
  rw [← ef33] at hP hD
  have hG := zbnd hG ef33
  refine lv_aload_n hx hb dX11_nodeWords_30 rfl (lv_at hl 0 rfl) ?_
  refine va_get (D := (dC, dI)) (ci := 11) (v := .ref a_word) (C := RX11) (T := TX11) (N := 42) hx hb hts iX11_nodeWords_X11 hown hK.1 hP 1 gz1 vcz11 19 (by decide) (kX11_nodeWords_1 hts) (fun _ h9 => h9) gz19 dX11_nodeWords_31 ?_
  refine lv_iconst (v := 5) hx hb dX11_nodeWords_34 (by decide) ?_
  refine lv_aload_n hx hb dX11_nodeWords_35 rfl (lv_at hl 0 rfl) ?_
  refine lv_iload_n hx hb dX11_nodeWords_36 rfl (lv_at hl 2 rfl) ?_
  refine lv_iconst (v := 2) hx hb dX11_nodeWords_37 (by decide) ?_
  refine z_i (wr := [(a_word, .inl (kA 2, 11, .inr (.inl f33)))]) (va_runV (As := [.int p1, .int 2]) (rest := [.int 5, .ref a_word]) ⟨hx, hb, hml, hown, hts⟩ (mX11_nodeOf l dC dI kA _ n0 m_taped m_laws m_next m_wrong m_number m_text m_made m_deep m_lines m_opened m_top m_goNode m_goDrops m_goHour m_goFelt m_goSalt m_goMore m_bestLeft m_bestHour m_bestMany a_tape a_sign a_length a_clause a_clauses a_chain a_open a_stack a_word a_said a_kept a_stepNode a_stepDrops a_stepHour a_stepNext a_stepPass a_bestPass a_far a_waited a_servers a_images a_isMade saidF p1 2 hn0 hn1 (by decide) (by decide)) (cwV 2 hts gX11_nodeWords_X11_nodeOf rfl rfl rfl ⟨rfl, hdX11_nodeOf⟩ ⟨(Nat.le_of_ble_eq_true rfl), (Nat.le_of_ble_eq_true rfl)⟩) ⟨zPc.blind, va_recv (q := (RX11, TX11, 42)) hK.1 hP (ci := 11) (q0 := 1) rfl rfl, zPre hK (hP.sub [1, 2] rfl) (hD.sub [1, 2] (by decide) rfl)⟩ rfl rfl hl.1 rfl (lv_room (Nat.le_of_ble_eq_true rfl)) dX11_nodeWords_38 ⟨(Nat.le_of_ble_eq_true rfl), (Nat.le_of_ble_eq_true rfl)⟩) hP hD hS hA [1, 2] [0] rfl rfl (by decide) (by decide) (fun r36 u34 H locs hw35 hP hD hS => ?_)
  obtain rfl := hw35
  obtain ⟨hP, hD⟩ := z_re (L := [(a_word, .inl (kA 2, 11, .inr (.inl f33))), (n0, .inr (11, .ref a_tape :: .int m_taped :: .int m_laws :: .ref a_sign :: .ref a_length :: .ref a_clause :: .ref a_clauses :: .ref a_chain :: .int m_next :: .int m_wrong :: .int m_number :: .int m_text :: .int m_made :: .int m_deep :: .int m_lines :: .ref a_open :: .int m_opened :: .ref a_stack :: .int m_top :: .ref a_word :: .ref a_said :: .ref a_kept :: [.int m_goNode, .int m_goDrops, .int m_goHour, .int m_goFelt, .int m_goSalt, .int m_goMore, .ref a_stepNode, .ref a_stepDrops, .ref a_stepHour, .ref a_stepNext, .ref a_stepPass, .int m_bestLeft, .int m_bestHour, .int m_bestMany, .ref a_bestPass, .ref a_far, .ref a_waited, .ref a_servers, .ref a_images, .ref a_isMade])), (a_said, .inl (kA 0, 360, .inl saidF))]) hP hD
  refine lv_i2l hx hb dX11_nodeWords_41 rfl ?_
  refine va_last hx hb hK.1 hP hD hS 0 2 gz0 tzz2 (vpd (by decide)) dX11_nodeWords_42 (fun H locs hP hD hS => ?_)
  obtain ⟨hP, hD⟩ := z_re (L := [(a_word, .inl (kA 2, 11, .inr (.inl (vp_updL f33 (5 : Int32).toNatClampNeg (saidF ((20 + (4 * p1)) + 2).toNatClampNeg).toInt64)))), (n0, .inr (11, .ref a_tape :: .int m_taped :: .int m_laws :: .ref a_sign :: .ref a_length :: .ref a_clause :: .ref a_clauses :: .ref a_chain :: .int m_next :: .int m_wrong :: .int m_number :: .int m_text :: .int m_made :: .int m_deep :: .int m_lines :: .ref a_open :: .int m_opened :: .ref a_stack :: .int m_top :: .ref a_word :: .ref a_said :: .ref a_kept :: [.int m_goNode, .int m_goDrops, .int m_goHour, .int m_goFelt, .int m_goSalt, .int m_goMore, .ref a_stepNode, .ref a_stepDrops, .ref a_stepHour, .ref a_stepNext, .ref a_stepPass, .int m_bestLeft, .int m_bestHour, .int m_bestMany, .ref a_bestPass, .ref a_far, .ref a_waited, .ref a_servers, .ref a_images, .ref a_isMade])), (a_said, .inl (kA 0, 360, .inl saidF))]) hP hD
  obtain ⟨f37, ef37⟩ : ∃ y : Nat → Int64, y = (vp_updL f33 (5 : Int32).toNatClampNeg (saidF ((20 + (4 * p1)) + 2).toNatClampNeg).toInt64) := ⟨_, rfl⟩
  rw [← ef37] at hP hD
  have hG := zbnd hG ef37
  refine lv_aload_n hx hb dX11_nodeWords_43 rfl (lv_at hl 0 rfl) ?_
  refine va_get (D := (dC, dI)) (ci := 11) (v := .ref a_word) (C := RX11) (T := TX11) (N := 42) hx hb hts iX11_nodeWords_X11 hown hK.1 hP 1 gz1 vcz11 19 (by decide) (kX11_nodeWords_1 hts) (fun _ h9 => h9) gz19 dX11_nodeWords_44 ?_
  refine lv_bipush (v := 6) hx hb dX11_nodeWords_47 (by decide) ?_
  refine lv_iload_n hx hb dX11_nodeWords_49 rfl (lv_at hl 2 rfl) ?_
  refine lv_i2l hx hb dX11_nodeWords_50 rfl ?_
  refine va_last hx hb hK.1 hP hD hS 0 2 gz0 tzz2 (vpd (by decide)) dX11_nodeWords_51 (fun H locs hP hD hS => ?_)
  obtain ⟨hP, hD⟩ := z_re (L := [(a_word, .inl (kA 2, 11, .inr (.inl (vp_updL f37 (6 : Int32).toNatClampNeg p1.toInt64)))), (n0, .inr (11, .ref a_tape :: .int m_taped :: .int m_laws :: .ref a_sign :: .ref a_length :: .ref a_clause :: .ref a_clauses :: .ref a_chain :: .int m_next :: .int m_wrong :: .int m_number :: .int m_text :: .int m_made :: .int m_deep :: .int m_lines :: .ref a_open :: .int m_opened :: .ref a_stack :: .int m_top :: .ref a_word :: .ref a_said :: .ref a_kept :: [.int m_goNode, .int m_goDrops, .int m_goHour, .int m_goFelt, .int m_goSalt, .int m_goMore, .ref a_stepNode, .ref a_stepDrops, .ref a_stepHour, .ref a_stepNext, .ref a_stepPass, .int m_bestLeft, .int m_bestHour, .int m_bestMany, .ref a_bestPass, .ref a_far, .ref a_waited, .ref a_servers, .ref a_images, .ref a_isMade])), (a_said, .inl (kA 0, 360, .inl saidF))]) hP hD
  obtain ⟨f38, ef38⟩ : ∃ y : Nat → Int64, y = (vp_updL f37 (6 : Int32).toNatClampNeg p1.toInt64) := ⟨_, rfl⟩
  rw [← ef38] at hP hD
  have hG := zbnd hG ef38
  obtain ⟨hP9, hD9⟩ := z_sb (L' := [(n0, .inr (11, .ref a_tape :: .int m_taped :: .int m_laws :: .ref a_sign :: .ref a_length :: .ref a_clause :: .ref a_clauses :: .ref a_chain :: .int m_next :: .int m_wrong :: .int m_number :: .int m_text :: .int m_made :: .int m_deep :: .int m_lines :: .ref a_open :: .int m_opened :: .ref a_stack :: .int m_top :: .ref a_word :: .ref a_said :: .ref a_kept :: [.int m_goNode, .int m_goDrops, .int m_goHour, .int m_goFelt, .int m_goSalt, .int m_goMore, .ref a_stepNode, .ref a_stepDrops, .ref a_stepHour, .ref a_stepNext, .ref a_stepPass, .int m_bestLeft, .int m_bestHour, .int m_bestMany, .ref a_bestPass, .ref a_far, .ref a_waited, .ref a_servers, .ref a_images, .ref a_isMade])), (a_word, .inl (kA 2, 11, .inr (.inl f38))), (a_said, .inl (kA 0, 360, .inl saidF))]) hP hD [1, 0, 2] (by decide) rfl
  refine W.widen (k := 0) (n := 0) (Nat.le_of_ble_eq_true rfl) (Nat.le_of_ble_eq_true rfl) ?_
  exact W.vret hx hb hr (fun t ht hW => ⟨⟨(f38), rfl, (hG.trans hG0.symm), by rw [ht]; exact hP9, hD9⟩, hS.F ht⟩) hS.2.2 dX11_nodeWords_52
theorem gl_mX11_passWords_0 (saidF : Nat → Int32) (p1 : Int32) (x34 : Int32) (h0 : ¬ (saidF ((68 + (5 * p1)) + 2).toNatClampNeg) < 1) (h1 : ¬ 24 < (saidF ((68 + (5 * p1)) + 2).toNatClampNeg)) (h2 : x34 = (saidF ((68 + (5 * p1)) + 2).toNatClampNeg)) : ¬ x34 = 0 := by grind
set_option maxRecDepth 100000 in
def fX11_passWords (wordF : Nat → Int64) (saidF : Nat → Int32) (zm : Int32) (p0 : Int32) (p1 : Int32) (p2 : Int32) (p3 : Int32) (p4 : Int32) (p5 : Int32) (p6 : Int32) : (Nat → Int64) := bnd (fX11_hourWords wordF zm p0 p4 p5 p6) (fun (o26 : Nat → Int64) => bnd ((saidF ((68 + (5 * p1)) + 2).toNatClampNeg)) (fun (x34 : Int32) => bnd (((saidF ((20 + (4 * (oth saidF p1 p2))) + 0).toNatClampNeg) * (x34 - p3))) (fun (x43 : Int32) => bnd (((x43 + ((saidF ((20 + (4 * p2)) + 0).toNatClampNeg) * p3)) / x34)) (fun (x47 : Int32) => bnd ((vp_updL o26 (3 : Int32).toNatClampNeg x47.toInt64)) (fun (f48 : Nat → Int64) => bnd ((vp_updL f48 (4 : Int32).toNatClampNeg (saidF ((68 + (5 * p1)) + 3).toNatClampNeg).toInt64)) (fun (f52 : Nat → Int64) => bnd ((vp_updL f52 (5 : Int32).toNatClampNeg 0)) (fun (f53 : Nat → Int64) => bnd ((vp_updL f53 (6 : Int32).toNatClampNeg 12)) (fun (f54 : Nat → Int64) => bnd ((vp_updL f54 (10 : Int32).toNatClampNeg p3.toInt64)) (fun (f55 : Nat → Int64) => f55)))))))))
set_option maxHeartbeats 4000000 in
set_option maxRecDepth 100000 in
theorem mX11_passWords (l : Launch) (dC : Nat → ClassId) (dI : Nat → Nat → Nat) (kA : Nat → ClassId) (sz : Nat) (n0 : Nat) (m_taped : Int32) (m_laws : Int32) (m_next : Int32) (m_wrong : Int32) (m_number : Int32) (m_text : Int32) (m_made : Int32) (m_deep : Int32) (m_lines : Int32) (m_opened : Int32) (m_top : Int32) (m_goNode : Int32) (m_goDrops : Int32) (m_goHour : Int32) (m_goFelt : Int32) (m_goSalt : Int32) (m_goMore : Int32) (m_bestLeft : Int32) (m_bestHour : Int32) (m_bestMany : Int32) (a_tape : Nat) (a_sign : Nat) (a_length : Nat) (a_clause : Nat) (a_clauses : Nat) (a_chain : Nat) (a_open : Nat) (a_stack : Nat) (a_word : Nat) (a_said : Nat) (a_kept : Nat) (a_stepNode : Nat) (a_stepDrops : Nat) (a_stepHour : Nat) (a_stepNext : Nat) (a_stepPass : Nat) (a_bestPass : Nat) (a_far : Nat) (a_waited : Nat) (a_servers : Nat) (a_images : Nat) (a_isMade : Nat) (wordF : Nat → Int64) (saidF : Nat → Int32) (zn : Int32) (zp : Int32) (zj : Int32) (zo : Int32) (zf : Int32) (zm : Int32) (zk : Int32) (zw : Int32) (pd : Nat → Int32) (p0 : Int32) (p1 : Int32) (p2 : Int32) (p3 : Int32) (p4 : Int32) (p5 : Int32) (p6 : Int32) (hsc : SC saidF zn zp zj zo zf zm zk zw pd) (hp0 : ¬ p1 < 0) (hp1 : ¬ zp ≤ p1) (ht0 : ¬ p2 < (-1)) (ht1 : ¬ 12 < p2) : Met l yX11_passWords wsX11_passWords ({ frames := 2, cells := 0, slots := 0, locals := 45 }) (zPc dC dI kA sz [.ref n0, .int p0, .int p1, .int p2, .int p3, .int p4, .int p5, .int p6] [(n0, .inr (11, .ref a_tape :: .int m_taped :: .int m_laws :: .ref a_sign :: .ref a_length :: .ref a_clause :: .ref a_clauses :: .ref a_chain :: .int m_next :: .int m_wrong :: .int m_number :: .int m_text :: .int m_made :: .int m_deep :: .int m_lines :: .ref a_open :: .int m_opened :: .ref a_stack :: .int m_top :: .ref a_word :: .ref a_said :: .ref a_kept :: [.int m_goNode, .int m_goDrops, .int m_goHour, .int m_goFelt, .int m_goSalt, .int m_goMore, .ref a_stepNode, .ref a_stepDrops, .ref a_stepHour, .ref a_stepNext, .ref a_stepPass, .int m_bestLeft, .int m_bestHour, .int m_bestMany, .ref a_bestPass, .ref a_far, .ref a_waited, .ref a_servers, .ref a_images, .ref a_isMade])), (a_word, .inl (kA 2, 11, .inr (.inl wordF))), (a_said, .inl (kA 0, 360, .inl saidF))]) (va_Qv (fun (u : (Nat → Int64)) => u = fX11_passWords wordF saidF zm p0 p1 p2 p3 p4 p5 p6) (zB dC dI (va_A [(n0, .inr (11, .ref a_tape :: .int m_taped :: .int m_laws :: .ref a_sign :: .ref a_length :: .ref a_clause :: .ref a_clauses :: .ref a_chain :: .int m_next :: .int m_wrong :: .int m_number :: .int m_text :: .int m_made :: .int m_deep :: .int m_lines :: .ref a_open :: .int m_opened :: .ref a_stack :: .int m_top :: .ref a_word :: .ref a_said :: .ref a_kept :: [.int m_goNode, .int m_goDrops, .int m_goHour, .int m_goFelt, .int m_goSalt, .int m_goMore, .ref a_stepNode, .ref a_stepDrops, .ref a_stepHour, .ref a_stepNext, .ref a_stepPass, .int m_bestLeft, .int m_bestHour, .int m_bestMany, .ref a_bestPass, .ref a_far, .ref a_waited, .ref a_servers, .ref a_images, .ref a_isMade])), (a_word, .inl (kA 2, 11, .inr (.inl wordF))), (a_said, .inl (kA 0, 360, .inl saidF))] sz) (fun (u : (Nat → Int64)) => [(n0, .inr (11, .ref a_tape :: .int m_taped :: .int m_laws :: .ref a_sign :: .ref a_length :: .ref a_clause :: .ref a_clauses :: .ref a_chain :: .int m_next :: .int m_wrong :: .int m_number :: .int m_text :: .int m_made :: .int m_deep :: .int m_lines :: .ref a_open :: .int m_opened :: .ref a_stack :: .int m_top :: .ref a_word :: .ref a_said :: .ref a_kept :: [.int m_goNode, .int m_goDrops, .int m_goHour, .int m_goFelt, .int m_goSalt, .int m_goMore, .ref a_stepNode, .ref a_stepDrops, .ref a_stepHour, .ref a_stepNext, .ref a_stepPass, .int m_bestLeft, .int m_bestHour, .int m_bestMany, .ref a_bestPass, .ref a_far, .ref a_waited, .ref a_servers, .ref a_images, .ref a_isMade])), (a_word, .inl (kA 2, 11, .inr (.inl u))), (a_said, .inl (kA 0, 360, .inl saidF))])) (va_A [(n0, .inr (11, .ref a_tape :: .int m_taped :: .int m_laws :: .ref a_sign :: .ref a_length :: .ref a_clause :: .ref a_clauses :: .ref a_chain :: .int m_next :: .int m_wrong :: .int m_number :: .int m_text :: .int m_made :: .int m_deep :: .int m_lines :: .ref a_open :: .int m_opened :: .ref a_stack :: .int m_top :: .ref a_word :: .ref a_said :: .ref a_kept :: [.int m_goNode, .int m_goDrops, .int m_goHour, .int m_goFelt, .int m_goSalt, .int m_goMore, .ref a_stepNode, .ref a_stepDrops, .ref a_stepHour, .ref a_stepNext, .ref a_stepPass, .int m_bestLeft, .int m_bestHour, .int m_bestMany, .ref a_bestPass, .ref a_far, .ref a_waited, .ref a_servers, .ref a_images, .ref a_isMade])), (a_word, .inl (kA 2, 11, .inr (.inl wordF))), (a_said, .inl (kA 0, 360, .inl saidF))] sz)) 0 0 (va_A [(n0, .inr (11, .ref a_tape :: .int m_taped :: .int m_laws :: .ref a_sign :: .ref a_length :: .ref a_clause :: .ref a_clauses :: .ref a_chain :: .int m_next :: .int m_wrong :: .int m_number :: .int m_text :: .int m_made :: .int m_deep :: .int m_lines :: .ref a_open :: .int m_opened :: .ref a_stack :: .int m_top :: .ref a_word :: .ref a_said :: .ref a_kept :: [.int m_goNode, .int m_goDrops, .int m_goHour, .int m_goFelt, .int m_goSalt, .int m_goMore, .ref a_stepNode, .ref a_stepDrops, .ref a_stepHour, .ref a_stepNext, .ref a_stepPass, .int m_bestLeft, .int m_bestHour, .int m_bestMany, .ref a_bestPass, .ref a_far, .ref a_waited, .ref a_servers, .ref a_images, .ref a_isMade])), (a_word, .inl (kA 2, 11, .inr (.inl wordF))), (a_said, .inl (kA 0, 360, .inl saidF))] sz) := by
  refine Met.ofW (cc := cX11_passWords) (maxL := 9) (ret := none) pnX11 rfl ?_
  intro p e s m args below meth c s₁ B hml hv
  obtain ⟨rfl, hsz, hP, hK, hD0⟩ := hv
  have hx := B.exec
  have hb := B.bytes
  have hr := B.returns
  have hts := atoms_spec (ws := wsX11_passWords) B.pre
  have hown : s.vm.findClass RX11 = some m.cls := findClass_of_methodNamed B.named
  have hlocks := B.notSynchronized
  subst hsz
  have hD := hD0.self (sz := s.heap.size)
  generalize hAe : va_A [(n0, .inr (11, .ref a_tape :: .int m_taped :: .int m_laws :: .ref a_sign :: .ref a_length :: .ref a_clause :: .ref a_clauses :: .ref a_chain :: .int m_next :: .int m_wrong :: .int m_number :: .int m_text :: .int m_made :: .int m_deep :: .int m_lines :: .ref a_open :: .int m_opened :: .ref a_stack :: .int m_top :: .ref a_word :: .ref a_said :: .ref a_kept :: [.int m_goNode, .int m_goDrops, .int m_goHour, .int m_goFelt, .int m_goSalt, .int m_goMore, .ref a_stepNode, .ref a_stepDrops, .ref a_stepHour, .ref a_stepNext, .ref a_stepPass, .int m_bestLeft, .int m_bestHour, .int m_bestMany, .ref a_bestPass, .ref a_far, .ref a_waited, .ref a_servers, .ref a_images, .ref a_isMade])), (a_word, .inl (kA 2, 11, .inr (.inl wordF))), (a_said, .inl (kA 0, 360, .inl saidF))] s.heap.size = A at hD ⊢
  have hA : ∀ q : Nat, s.heap.size ≤ q → A q := zA_of hAe
  have hS : va_S A s.heap s.heap [] := va_S.rf
  have hP : va_P (dC, dI) vwCl [(n0, .inr (11, .ref a_tape :: .int m_taped :: .int m_laws :: .ref a_sign :: .ref a_length :: .ref a_clause :: .ref a_clauses :: .ref a_chain :: .int m_next :: .int m_wrong :: .int m_number :: .int m_text :: .int m_made :: .int m_deep :: .int m_lines :: .ref a_open :: .int m_opened :: .ref a_stack :: .int m_top :: .ref a_word :: .ref a_said :: .ref a_kept :: [.int m_goNode, .int m_goDrops, .int m_goHour, .int m_goFelt, .int m_goSalt, .int m_goMore, .ref a_stepNode, .ref a_stepDrops, .ref a_stepHour, .ref a_stepNext, .ref a_stepPass, .int m_bestLeft, .int m_bestHour, .int m_bestMany, .ref a_bestPass, .ref a_far, .ref a_waited, .ref a_servers, .ref a_images, .ref a_isMade])), (a_word, .inl (kA 2, 11, .inr (.inl wordF))), (a_said, .inl (kA 0, 360, .inl saidF))] s.heap := hP
  have hl := lv_entry ([.ref n0, .int p0, .int p1, .int p2, .int p3, .int p4, .int p5, .int p6]) (n := 9) (Nat.le_of_ble_eq_true rfl)
  rw [lg_entry_eq]
  generalize (lg_sl ([.ref n0, .int p0, .int p1, .int p2, .int p3, .int p4, .int p5, .int p6]) ++ List.replicate (9 - (lg_sl ([.ref n0, .int p0, .int p1, .int p2, .int p3, .int p4, .int p5, .int p6])).length) Slot.unset).toArray = ls at hl ⊢
  have hl : lv_has ls 9 [(0, .ref n0), (1, .int p0), (2, .int p1), (3, .int p2), (4, .int p3), (5, .int p4), (6, .int p5), (7, .int p6)] := hl
  obtain ⟨H, hHe⟩ : ∃ H : Heap, H = s.heap := ⟨_, rfl⟩
  obtain ⟨G, hG0⟩ : ∃ G : (Nat → Int64), fX11_passWords wordF saidF zm p0 p1 p2 p3 p4 p5 p6 = G := ⟨_, rfl⟩
  have hG := hG0
  unfold fX11_passWords at hG
  have hz1 : saidF 0 = zn := hsc.1.1
  have hz2 : saidF 1 = zp := hsc.1.2.1
  have hz3 : saidF 2 = zj := hsc.1.2.2.1
  have hz4 : saidF 3 = zo := hsc.1.2.2.2.1
  have hz5 : saidF 4 = zf := hsc.1.2.2.2.2.1
  have hz6 : saidF 6 = zm := hsc.1.2.2.2.2.2.1
  have hz7 : saidF 8 = zk := hsc.1.2.2.2.2.2.2.1
  have hz8 : saidF 9 = zw := hsc.1.2.2.2.2.2.2.2
  have hz9 : ¬ zn < 0 := hsc.2.1.1
  have hz10 : ¬ 12 < zn := hsc.2.1.2
  have hz11 : ¬ zp < 0 := hsc.2.2.1.1
  have hz12 : ¬ 20 < zp := hsc.2.2.1.2
  have hz13 : ¬ zj < 0 := hsc.2.2.2.1.1
  have hz14 : ¬ 16 < zj := hsc.2.2.2.1.2
  have hz15 : ¬ zo < 0 := hsc.2.2.2.2.1.1
  have hz16 : ¬ 6 < zo := hsc.2.2.2.2.1.2
  have hz17 : ¬ zf < 0 := hsc.2.2.2.2.2.1.1
  have hz18 : ¬ 8 < zf := hsc.2.2.2.2.2.1.2
  have hz19 : ¬ zk < (-1) := hsc.2.2.2.2.2.2.1.1
  have hz20 : ¬ 12 ≤ zk := hsc.2.2.2.2.2.2.1.2
  have hz21 : ¬ zw < 0 := hsc.2.2.2.2.2.2.2.1.1
  have hz22 : ¬ 6 < zw := hsc.2.2.2.2.2.2.2.1.2
  refine lv_aload_n hx hb dX11_passWords_0 rfl (lv_at hl 0 rfl) ?_
  refine lv_iload_n hx hb dX11_passWords_1 rfl (lv_at hl 1 rfl) ?_
  refine lv_iload hx hb dX11_passWords_2 (lv_at hl 5 rfl) ?_
  refine lv_iload hx hb dX11_passWords_4 (lv_at hl 6 rfl) ?_
  refine lv_iload hx hb dX11_passWords_6 (lv_at hl 7 rfl) ?_
  refine z_v (wr := []) (va_runV (As := [.int p0, .int p4, .int p5, .int p6]) (rest := []) ⟨hx, hb, hml, hown, hts⟩ (mX11_hourWords l dC dI kA _ n0 m_taped m_laws m_next m_wrong m_number m_text m_made m_deep m_lines m_opened m_top m_goNode m_goDrops m_goHour m_goFelt m_goSalt m_goMore m_bestLeft m_bestHour m_bestMany a_tape a_sign a_length a_clause a_clauses a_chain a_open a_stack a_word a_said a_kept a_stepNode a_stepDrops a_stepHour a_stepNext a_stepPass a_bestPass a_far a_waited a_servers a_images a_isMade wordF saidF zn zp zj zo zf zm zk zw pd p0 p4 p5 p6 hsc) (cwV 4 hts gX11_passWords_X11_hourWords rfl rfl rfl ⟨rfl, hdX11_hourWords⟩ ⟨(Nat.le_of_ble_eq_true rfl), (Nat.le_of_ble_eq_true rfl)⟩) ⟨zPc.blind, va_recv (q := (RX11, TX11, 42)) hK.1 hP (ci := 11) (q0 := 0) rfl rfl, zPre hK (hP.sub [0, 1, 2] rfl) (hD.sub [0, 1, 2] (by decide) rfl)⟩ rfl rfl hl.1 rfl (lv_room (Nat.le_of_ble_eq_true rfl)) dX11_passWords_8 ⟨(Nat.le_of_ble_eq_true rfl), (Nat.le_of_ble_eq_true rfl)⟩) hP hD hS hA [0, 1, 2] [] rfl rfl (by decide) (by decide) (fun u23 H locs hw24 hP hD hS => ?_)
  obtain ⟨o26, rfl⟩ : ∃ z, z = u23 := ⟨_, rfl⟩
  have hp27 := hw24
  have eo26 : o26 = fX11_hourWords wordF zm p0 p4 p5 p6 := hp27
  have hG := zbnd hG eo26
  obtain ⟨hP, hD⟩ := z_re (L := [(n0, .inr (11, .ref a_tape :: .int m_taped :: .int m_laws :: .ref a_sign :: .ref a_length :: .ref a_clause :: .ref a_clauses :: .ref a_chain :: .int m_next :: .int m_wrong :: .int m_number :: .int m_text :: .int m_made :: .int m_deep :: .int m_lines :: .ref a_open :: .int m_opened :: .ref a_stack :: .int m_top :: .ref a_word :: .ref a_said :: .ref a_kept :: [.int m_goNode, .int m_goDrops, .int m_goHour, .int m_goFelt, .int m_goSalt, .int m_goMore, .ref a_stepNode, .ref a_stepDrops, .ref a_stepHour, .ref a_stepNext, .ref a_stepPass, .int m_bestLeft, .int m_bestHour, .int m_bestMany, .ref a_bestPass, .ref a_far, .ref a_waited, .ref a_servers, .ref a_images, .ref a_isMade])), (a_word, .inl (kA 2, 11, .inr (.inl o26))), (a_said, .inl (kA 0, 360, .inl saidF))]) hP hD
  refine lv_aload_n hx hb dX11_passWords_11 rfl (lv_at hl 0 rfl) ?_
  refine lv_iload_n hx hb dX11_passWords_12 rfl (lv_at hl 2 rfl) ?_
  refine lv_iconst (v := 2) hx hb dX11_passWords_13 (by decide) ?_
  refine z_i (wr := [(a_word, .inl (kA 2, 11, .inr (.inl o26)))]) (va_runV (As := [.int p1, .int 2]) (rest := []) ⟨hx, hb, hml, hown, hts⟩ (mX11_passOf_2 l dC dI kA _ n0 m_taped m_laws m_next m_wrong m_number m_text m_made m_deep m_lines m_opened m_top m_goNode m_goDrops m_goHour m_goFelt m_goSalt m_goMore m_bestLeft m_bestHour m_bestMany a_tape a_sign a_length a_clause a_clauses a_chain a_open a_stack a_word a_said a_kept a_stepNode a_stepDrops a_stepHour a_stepNext a_stepPass a_bestPass a_far a_waited a_servers a_images a_isMade saidF zn zp zj zo zf zm zk zw pd p1 hsc hp0 (z_tr hp1 hz12) hp1) (cwV 2 hts gX11_passWords_X11_passOf rfl rfl rfl ⟨rfl, hdX11_passOf⟩ ⟨(Nat.le_of_ble_eq_true rfl), (Nat.le_of_ble_eq_true rfl)⟩) ⟨zPc.blind, va_recv (q := (RX11, TX11, 42)) hK.1 hP (ci := 11) (q0 := 0) rfl rfl, zPre hK (hP.sub [0, 2] rfl) (hD.sub [0, 2] (by decide) rfl)⟩ rfl rfl hl.1 rfl (lv_room (Nat.le_of_ble_eq_true rfl)) dX11_passWords_14 ⟨(Nat.le_of_ble_eq_true rfl), (Nat.le_of_ble_eq_true rfl)⟩) hP hD hS hA [0, 2] [1] rfl rfl (by decide) (by decide) (fun r31 u29 H locs hw30 hP hD hS => ?_)
  obtain ⟨rfl, hp32, hp33⟩ := hw30
  obtain ⟨hP, hD⟩ := z_re (L := [(a_word, .inl (kA 2, 11, .inr (.inl o26))), (n0, .inr (11, .ref a_tape :: .int m_taped :: .int m_laws :: .ref a_sign :: .ref a_length :: .ref a_clause :: .ref a_clauses :: .ref a_chain :: .int m_next :: .int m_wrong :: .int m_number :: .int m_text :: .int m_made :: .int m_deep :: .int m_lines :: .ref a_open :: .int m_opened :: .ref a_stack :: .int m_top :: .ref a_word :: .ref a_said :: .ref a_kept :: [.int m_goNode, .int m_goDrops, .int m_goHour, .int m_goFelt, .int m_goSalt, .int m_goMore, .ref a_stepNode, .ref a_stepDrops, .ref a_stepHour, .ref a_stepNext, .ref a_stepPass, .int m_bestLeft, .int m_bestHour, .int m_bestMany, .ref a_bestPass, .ref a_far, .ref a_waited, .ref a_servers, .ref a_images, .ref a_isMade])), (a_said, .inl (kA 0, 360, .inl saidF))]) hP hD
  refine lv_topi (fun x34 ex34 => ?_)
  have hG := zbnd hG ex34
  refine lv_istore (lv' := [(8, .int x34), (0, .ref n0), (1, .int p0), (2, .int p1), (3, .int p2), (4, .int p3), (5, .int p4), (6, .int p5), (7, .int p6)]) hx hb dX11_passWords_17 hl (by decide) rfl (fun ls hl => ?_)
  refine lv_aload_n hx hb dX11_passWords_19 rfl (lv_at hl 1 rfl) ?_
  refine va_get (D := (dC, dI)) (ci := 11) (v := .ref a_word) (C := RX11) (T := TX11) (N := 42) hx hb hts iX11_passWords_X11 hown hK.1 hP 1 gz1 vcz11 19 (by decide) (kX11_passWords_1 hts) (fun _ h9 => h9) gz19 dX11_passWords_20 ?_
  refine lv_iconst (v := 3) hx hb dX11_passWords_23 (by decide) ?_
  refine lv_aload_n hx hb dX11_passWords_24 rfl (lv_at hl 1 rfl) ?_
  refine lv_aload_n hx hb dX11_passWords_25 rfl (lv_at hl 1 rfl) ?_
  refine lv_iload_n hx hb dX11_passWords_26 rfl (lv_at hl 3 rfl) ?_
  refine lv_iload_n hx hb dX11_passWords_27 rfl (lv_at hl 4 rfl) ?_
  refine z_i (wr := [(a_word, .inl (kA 2, 11, .inr (.inl o26)))]) (va_runV (As := [.int p1, .int p2]) (rest := [.ref n0, .int 3, .ref a_word]) ⟨hx, hb, hml, hown, hts⟩ (mX11_other l dC dI kA _ n0 m_taped m_laws m_next m_wrong m_number m_text m_made m_deep m_lines m_opened m_top m_goNode m_goDrops m_goHour m_goFelt m_goSalt m_goMore m_bestLeft m_bestHour m_bestMany a_tape a_sign a_length a_clause a_clauses a_chain a_open a_stack a_word a_said a_kept a_stepNode a_stepDrops a_stepHour a_stepNext a_stepPass a_bestPass a_far a_waited a_servers a_images a_isMade saidF zn zp zj zo zf zm zk zw pd p1 p2 hsc hp0 (z_tr hp1 hz12)) (cwV 2 hts gX11_passWords_X11_other rfl rfl rfl ⟨rfl, hdX11_other⟩ ⟨(Nat.le_of_ble_eq_true rfl), (Nat.le_of_ble_eq_true rfl)⟩) ⟨zPc.blind, va_recv (q := (RX11, TX11, 42)) hK.1 hP (ci := 11) (q0 := 1) rfl rfl, zPre hK (hP.sub [1, 2] rfl) (hD.sub [1, 2] (by decide) rfl)⟩ rfl rfl hl.1 rfl (lv_room (Nat.le_of_ble_eq_true rfl)) dX11_passWords_28 ⟨(Nat.le_of_ble_eq_true rfl), (Nat.le_of_ble_eq_true rfl)⟩) hP hD hS hA [1, 2] [0] rfl rfl (by decide) (by decide) (fun r37 u35 H locs hw36 hP hD hS => ?_)
  obtain ⟨rfl, hp38, hp39⟩ := hw36
  obtain ⟨hP, hD⟩ := z_re (L := [(a_word, .inl (kA 2, 11, .inr (.inl o26))), (n0, .inr (11, .ref a_tape :: .int m_taped :: .int m_laws :: .ref a_sign :: .ref a_length :: .ref a_clause :: .ref a_clauses :: .ref a_chain :: .int m_next :: .int m_wrong :: .int m_number :: .int m_text :: .int m_made :: .int m_deep :: .int m_lines :: .ref a_open :: .int m_opened :: .ref a_stack :: .int m_top :: .ref a_word :: .ref a_said :: .ref a_kept :: [.int m_goNode, .int m_goDrops, .int m_goHour, .int m_goFelt, .int m_goSalt, .int m_goMore, .ref a_stepNode, .ref a_stepDrops, .ref a_stepHour, .ref a_stepNext, .ref a_stepPass, .int m_bestLeft, .int m_bestHour, .int m_bestMany, .ref a_bestPass, .ref a_far, .ref a_waited, .ref a_servers, .ref a_images, .ref a_isMade])), (a_said, .inl (kA 0, 360, .inl saidF))]) hP hD
  refine lv_iconst (v := 0) hx hb dX11_passWords_31 (by decide) ?_
  refine z_i (wr := [(a_word, .inl (kA 2, 11, .inr (.inl o26)))]) (va_runV (As := [.int (oth saidF p1 p2), .int 0]) (rest := [.int 3, .ref a_word]) ⟨hx, hb, hml, hown, hts⟩ (mX11_nodeOf l dC dI kA _ n0 m_taped m_laws m_next m_wrong m_number m_text m_made m_deep m_lines m_opened m_top m_goNode m_goDrops m_goHour m_goFelt m_goSalt m_goMore m_bestLeft m_bestHour m_bestMany a_tape a_sign a_length a_clause a_clauses a_chain a_open a_stack a_word a_said a_kept a_stepNode a_stepDrops a_stepHour a_stepNext a_stepPass a_bestPass a_far a_waited a_servers a_images a_isMade saidF (oth saidF p1 p2) 0 hp38 (z_nle_nlt (by decide) hp39) (by decide) (by decide)) (cwV 2 hts gX11_passWords_X11_nodeOf rfl rfl rfl ⟨rfl, hdX11_nodeOf⟩ ⟨(Nat.le_of_ble_eq_true rfl), (Nat.le_of_ble_eq_true rfl)⟩) ⟨zPc.blind, va_recv (q := (RX11, TX11, 42)) hK.1 hP (ci := 11) (q0 := 1) rfl rfl, zPre hK (hP.sub [1, 2] rfl) (hD.sub [1, 2] (by decide) rfl)⟩ rfl rfl hl.1 rfl (lv_room (Nat.le_of_ble_eq_true rfl)) dX11_passWords_32 ⟨(Nat.le_of_ble_eq_true rfl), (Nat.le_of_ble_eq_true rfl)⟩) hP hD hS hA [1, 2] [0] rfl rfl (by decide) (by decide) (fun r42 u40 H locs hw41 hP hD hS => ?_)
  obtain rfl := hw41
  obtain ⟨hP, hD⟩ := z_re (L := [(a_word, .inl (kA 2, 11, .inr (.inl o26))), (n0, .inr (11, .ref a_tape :: .int m_taped :: .int m_laws :: .ref a_sign :: .ref a_length :: .ref a_clause :: .ref a_clauses :: .ref a_chain :: .int m_next :: .int m_wrong :: .int m_number :: .int m_text :: .int m_made :: .int m_deep :: .int m_lines :: .ref a_open :: .int m_opened :: .ref a_stack :: .int m_top :: .ref a_word :: .ref a_said :: .ref a_kept :: [.int m_goNode, .int m_goDrops, .int m_goHour, .int m_goFelt, .int m_goSalt, .int m_goMore, .ref a_stepNode, .ref a_stepDrops, .ref a_stepHour, .ref a_stepNext, .ref a_stepPass, .int m_bestLeft, .int m_bestHour, .int m_bestMany, .ref a_bestPass, .ref a_far, .ref a_waited, .ref a_servers, .ref a_images, .ref a_isMade])), (a_said, .inl (kA 0, 360, .inl saidF))]) hP hD
  refine lv_iload hx hb dX11_passWords_35 (lv_at hl 0 rfl) ?_
  refine lv_iload hx hb dX11_passWords_37 (lv_at hl 5 rfl) ?_
  refine lv_isub hx hb dX11_passWords_39 ?_
  refine lv_imul hx hb dX11_passWords_40 ?_
  refine lv_topi (fun x43 ex43 => ?_)
  have hG := zbnd hG ex43
  refine lv_aload_n hx hb dX11_passWords_41 rfl (lv_at hl 1 rfl) ?_
  refine lv_iload_n hx hb dX11_passWords_42 rfl (lv_at hl 4 rfl) ?_
  refine lv_iconst (v := 0) hx hb dX11_passWords_43 (by decide) ?_
  refine z_i (wr := [(a_word, .inl (kA 2, 11, .inr (.inl o26)))]) (va_runV (As := [.int p2, .int 0]) (rest := [.int x43, .int 3, .ref a_word]) ⟨hx, hb, hml, hown, hts⟩ (mX11_nodeOf l dC dI kA _ n0 m_taped m_laws m_next m_wrong m_number m_text m_made m_deep m_lines m_opened m_top m_goNode m_goDrops m_goHour m_goFelt m_goSalt m_goMore m_bestLeft m_bestHour m_bestMany a_tape a_sign a_length a_clause a_clauses a_chain a_open a_stack a_word a_said a_kept a_stepNode a_stepDrops a_stepHour a_stepNext a_stepPass a_bestPass a_far a_waited a_servers a_images a_isMade saidF p2 0 ht0 ht1 (by decide) (by decide)) (cwV 2 hts gX11_passWords_X11_nodeOf rfl rfl rfl ⟨rfl, hdX11_nodeOf⟩ ⟨(Nat.le_of_ble_eq_true rfl), (Nat.le_of_ble_eq_true rfl)⟩) ⟨zPc.blind, va_recv (q := (RX11, TX11, 42)) hK.1 hP (ci := 11) (q0 := 1) rfl rfl, zPre hK (hP.sub [1, 2] rfl) (hD.sub [1, 2] (by decide) rfl)⟩ rfl rfl hl.1 rfl (lv_room (Nat.le_of_ble_eq_true rfl)) dX11_passWords_44 ⟨(Nat.le_of_ble_eq_true rfl), (Nat.le_of_ble_eq_true rfl)⟩) hP hD hS hA [1, 2] [0] rfl rfl (by decide) (by decide) (fun r46 u44 H locs hw45 hP hD hS => ?_)
  obtain rfl := hw45
  obtain ⟨hP, hD⟩ := z_re (L := [(a_word, .inl (kA 2, 11, .inr (.inl o26))), (n0, .inr (11, .ref a_tape :: .int m_taped :: .int m_laws :: .ref a_sign :: .ref a_length :: .ref a_clause :: .ref a_clauses :: .ref a_chain :: .int m_next :: .int m_wrong :: .int m_number :: .int m_text :: .int m_made :: .int m_deep :: .int m_lines :: .ref a_open :: .int m_opened :: .ref a_stack :: .int m_top :: .ref a_word :: .ref a_said :: .ref a_kept :: [.int m_goNode, .int m_goDrops, .int m_goHour, .int m_goFelt, .int m_goSalt, .int m_goMore, .ref a_stepNode, .ref a_stepDrops, .ref a_stepHour, .ref a_stepNext, .ref a_stepPass, .int m_bestLeft, .int m_bestHour, .int m_bestMany, .ref a_bestPass, .ref a_far, .ref a_waited, .ref a_servers, .ref a_images, .ref a_isMade])), (a_said, .inl (kA 0, 360, .inl saidF))]) hP hD
  refine lv_iload hx hb dX11_passWords_47 (lv_at hl 5 rfl) ?_
  refine lv_imul hx hb dX11_passWords_49 ?_
  refine lv_iadd hx hb dX11_passWords_50 ?_
  refine lv_iload hx hb dX11_passWords_51 (lv_at hl 0 rfl) ?_
  refine lv_idiv hx hb dX11_passWords_53 (gl_mX11_passWords_0 saidF p1 x34 hp32 hp33 ex34) ?_
  refine lv_topi (fun x47 ex47 => ?_)
  have hG := zbnd hG ex47
  refine lv_i2l hx hb dX11_passWords_54 rfl ?_
  refine va_last hx hb hK.1 hP hD hS 0 2 gz0 tzz2 (vpd (by decide)) dX11_passWords_55 (fun H locs hP hD hS => ?_)
  obtain ⟨hP, hD⟩ := z_re (L := [(a_word, .inl (kA 2, 11, .inr (.inl (vp_updL o26 (3 : Int32).toNatClampNeg x47.toInt64)))), (n0, .inr (11, .ref a_tape :: .int m_taped :: .int m_laws :: .ref a_sign :: .ref a_length :: .ref a_clause :: .ref a_clauses :: .ref a_chain :: .int m_next :: .int m_wrong :: .int m_number :: .int m_text :: .int m_made :: .int m_deep :: .int m_lines :: .ref a_open :: .int m_opened :: .ref a_stack :: .int m_top :: .ref a_word :: .ref a_said :: .ref a_kept :: [.int m_goNode, .int m_goDrops, .int m_goHour, .int m_goFelt, .int m_goSalt, .int m_goMore, .ref a_stepNode, .ref a_stepDrops, .ref a_stepHour, .ref a_stepNext, .ref a_stepPass, .int m_bestLeft, .int m_bestHour, .int m_bestMany, .ref a_bestPass, .ref a_far, .ref a_waited, .ref a_servers, .ref a_images, .ref a_isMade])), (a_said, .inl (kA 0, 360, .inl saidF))]) hP hD
  obtain ⟨f48, ef48⟩ : ∃ y : Nat → Int64, y = (vp_updL o26 (3 : Int32).toNatClampNeg x47.toInt64) := ⟨_, rfl⟩
  rw [← ef48] at hP hD
  have hG := zbnd hG ef48
  refine lv_aload_n hx hb dX11_passWords_56 rfl (lv_at hl 1 rfl) ?_
  refine va_get (D := (dC, dI)) (ci := 11) (v := .ref a_word) (C := RX11) (T := TX11) (N := 42) hx hb hts iX11_passWords_X11 hown hK.1 hP 1 gz1 vcz11 19 (by decide) (kX11_passWords_1 hts) (fun _ h9 => h9) gz19 dX11_passWords_57 ?_
  refine lv_iconst (v := 4) hx hb dX11_passWords_60 (by decide) ?_
  refine lv_aload_n hx hb dX11_passWords_61 rfl (lv_at hl 1 rfl) ?_
  refine lv_iload_n hx hb dX11_passWords_62 rfl (lv_at hl 3 rfl) ?_
  refine lv_iconst (v := 3) hx hb dX11_passWords_63 (by decide) ?_
  refine z_i (wr := [(a_word, .inl (kA 2, 11, .inr (.inl f48)))]) (va_runV (As := [.int p1, .int 3]) (rest := [.int 4, .ref a_word]) ⟨hx, hb, hml, hown, hts⟩ (mX11_passOf l dC dI kA _ n0 m_taped m_laws m_next m_wrong m_number m_text m_made m_deep m_lines m_opened m_top m_goNode m_goDrops m_goHour m_goFelt m_goSalt m_goMore m_bestLeft m_bestHour m_bestMany a_tape a_sign a_length a_clause a_clauses a_chain a_open a_stack a_word a_said a_kept a_stepNode a_stepDrops a_stepHour a_stepNext a_stepPass a_bestPass a_far a_waited a_servers a_images a_isMade saidF p1 3 hp0 (z_tr hp1 hz12) (by decide) (by decide)) (cwV 2 hts gX11_passWords_X11_passOf rfl rfl rfl ⟨rfl, hdX11_passOf⟩ ⟨(Nat.le_of_ble_eq_true rfl), (Nat.le_of_ble_eq_true rfl)⟩) ⟨zPc.blind, va_recv (q := (RX11, TX11, 42)) hK.1 hP (ci := 11) (q0 := 1) rfl rfl, zPre hK (hP.sub [1, 2] rfl) (hD.sub [1, 2] (by decide) rfl)⟩ rfl rfl hl.1 rfl (lv_room (Nat.le_of_ble_eq_true rfl)) dX11_passWords_64 ⟨(Nat.le_of_ble_eq_true rfl), (Nat.le_of_ble_eq_true rfl)⟩) hP hD hS hA [1, 2] [0] rfl rfl (by decide) (by decide) (fun r51 u49 H locs hw50 hP hD hS => ?_)
  obtain rfl := hw50
  obtain ⟨hP, hD⟩ := z_re (L := [(a_word, .inl (kA 2, 11, .inr (.inl f48))), (n0, .inr (11, .ref a_tape :: .int m_taped :: .int m_laws :: .ref a_sign :: .ref a_length :: .ref a_clause :: .ref a_clauses :: .ref a_chain :: .int m_next :: .int m_wrong :: .int m_number :: .int m_text :: .int m_made :: .int m_deep :: .int m_lines :: .ref a_open :: .int m_opened :: .ref a_stack :: .int m_top :: .ref a_word :: .ref a_said :: .ref a_kept :: [.int m_goNode, .int m_goDrops, .int m_goHour, .int m_goFelt, .int m_goSalt, .int m_goMore, .ref a_stepNode, .ref a_stepDrops, .ref a_stepHour, .ref a_stepNext, .ref a_stepPass, .int m_bestLeft, .int m_bestHour, .int m_bestMany, .ref a_bestPass, .ref a_far, .ref a_waited, .ref a_servers, .ref a_images, .ref a_isMade])), (a_said, .inl (kA 0, 360, .inl saidF))]) hP hD
  refine lv_i2l hx hb dX11_passWords_67 rfl ?_
  refine va_last hx hb hK.1 hP hD hS 0 2 gz0 tzz2 (vpd (by decide)) dX11_passWords_68 (fun H locs hP hD hS => ?_)
  obtain ⟨hP, hD⟩ := z_re (L := [(a_word, .inl (kA 2, 11, .inr (.inl (vp_updL f48 (4 : Int32).toNatClampNeg (saidF ((68 + (5 * p1)) + 3).toNatClampNeg).toInt64)))), (n0, .inr (11, .ref a_tape :: .int m_taped :: .int m_laws :: .ref a_sign :: .ref a_length :: .ref a_clause :: .ref a_clauses :: .ref a_chain :: .int m_next :: .int m_wrong :: .int m_number :: .int m_text :: .int m_made :: .int m_deep :: .int m_lines :: .ref a_open :: .int m_opened :: .ref a_stack :: .int m_top :: .ref a_word :: .ref a_said :: .ref a_kept :: [.int m_goNode, .int m_goDrops, .int m_goHour, .int m_goFelt, .int m_goSalt, .int m_goMore, .ref a_stepNode, .ref a_stepDrops, .ref a_stepHour, .ref a_stepNext, .ref a_stepPass, .int m_bestLeft, .int m_bestHour, .int m_bestMany, .ref a_bestPass, .ref a_far, .ref a_waited, .ref a_servers, .ref a_images, .ref a_isMade])), (a_said, .inl (kA 0, 360, .inl saidF))]) hP hD
  obtain ⟨f52, ef52⟩ : ∃ y : Nat → Int64, y = (vp_updL f48 (4 : Int32).toNatClampNeg (saidF ((68 + (5 * p1)) + 3).toNatClampNeg).toInt64) := ⟨_, rfl⟩
  rw [← ef52] at hP hD
  have hG := zbnd hG ef52
  refine lv_aload_n hx hb dX11_passWords_69 rfl (lv_at hl 1 rfl) ?_
  refine va_get (D := (dC, dI)) (ci := 11) (v := .ref a_word) (C := RX11) (T := TX11) (N := 42) hx hb hts iX11_passWords_X11 hown hK.1 hP 1 gz1 vcz11 19 (by decide) (kX11_passWords_1 hts) (fun _ h9 => h9) gz19 dX11_passWords_70 ?_
  refine lv_iconst (v := 5) hx hb dX11_passWords_73 (by decide) ?_
  refine lv_lconst (v := 0) hx hb dX11_passWords_74 (by decide) ?_
  refine va_last hx hb hK.1 hP hD hS 0 2 gz0 tzz2 (vpd (by decide)) dX11_passWords_75 (fun H locs hP hD hS => ?_)
  obtain ⟨hP, hD⟩ := z_re (L := [(a_word, .inl (kA 2, 11, .inr (.inl (vp_updL f52 (5 : Int32).toNatClampNeg 0)))), (n0, .inr (11, .ref a_tape :: .int m_taped :: .int m_laws :: .ref a_sign :: .ref a_length :: .ref a_clause :: .ref a_clauses :: .ref a_chain :: .int m_next :: .int m_wrong :: .int m_number :: .int m_text :: .int m_made :: .int m_deep :: .int m_lines :: .ref a_open :: .int m_opened :: .ref a_stack :: .int m_top :: .ref a_word :: .ref a_said :: .ref a_kept :: [.int m_goNode, .int m_goDrops, .int m_goHour, .int m_goFelt, .int m_goSalt, .int m_goMore, .ref a_stepNode, .ref a_stepDrops, .ref a_stepHour, .ref a_stepNext, .ref a_stepPass, .int m_bestLeft, .int m_bestHour, .int m_bestMany, .ref a_bestPass, .ref a_far, .ref a_waited, .ref a_servers, .ref a_images, .ref a_isMade])), (a_said, .inl (kA 0, 360, .inl saidF))]) hP hD
  obtain ⟨f53, ef53⟩ : ∃ y : Nat → Int64, y = (vp_updL f52 (5 : Int32).toNatClampNeg 0) := ⟨_, rfl⟩
  rw [← ef53] at hP hD
  have hG := zbnd hG ef53
  refine lv_aload_n hx hb dX11_passWords_76 rfl (lv_at hl 1 rfl) ?_
  refine va_get (D := (dC, dI)) (ci := 11) (v := .ref a_word) (C := RX11) (T := TX11) (N := 42) hx hb hts iX11_passWords_X11 hown hK.1 hP 1 gz1 vcz11 19 (by decide) (kX11_passWords_1 hts) (fun _ h9 => h9) gz19 dX11_passWords_77 ?_
  refine lv_bipush (v := 6) hx hb dX11_passWords_80 (by decide) ?_
  refine lv_ldc2 hx hb hown (kX11_passWords_2 hts) dX11_passWords_82 ?_
  refine va_last hx hb hK.1 hP hD hS 0 2 gz0 tzz2 (vpd (by decide)) dX11_passWords_85 (fun H locs hP hD hS => ?_)
  obtain ⟨hP, hD⟩ := z_re (L := [(a_word, .inl (kA 2, 11, .inr (.inl (vp_updL f53 (6 : Int32).toNatClampNeg 12)))), (n0, .inr (11, .ref a_tape :: .int m_taped :: .int m_laws :: .ref a_sign :: .ref a_length :: .ref a_clause :: .ref a_clauses :: .ref a_chain :: .int m_next :: .int m_wrong :: .int m_number :: .int m_text :: .int m_made :: .int m_deep :: .int m_lines :: .ref a_open :: .int m_opened :: .ref a_stack :: .int m_top :: .ref a_word :: .ref a_said :: .ref a_kept :: [.int m_goNode, .int m_goDrops, .int m_goHour, .int m_goFelt, .int m_goSalt, .int m_goMore, .ref a_stepNode, .ref a_stepDrops, .ref a_stepHour, .ref a_stepNext, .ref a_stepPass, .int m_bestLeft, .int m_bestHour, .int m_bestMany, .ref a_bestPass, .ref a_far, .ref a_waited, .ref a_servers, .ref a_images, .ref a_isMade])), (a_said, .inl (kA 0, 360, .inl saidF))]) hP hD
  obtain ⟨f54, ef54⟩ : ∃ y : Nat → Int64, y = (vp_updL f53 (6 : Int32).toNatClampNeg 12) := ⟨_, rfl⟩
  rw [← ef54] at hP hD
  have hG := zbnd hG ef54
  refine lv_aload_n hx hb dX11_passWords_86 rfl (lv_at hl 1 rfl) ?_
  refine va_get (D := (dC, dI)) (ci := 11) (v := .ref a_word) (C := RX11) (T := TX11) (N := 42) hx hb hts iX11_passWords_X11 hown hK.1 hP 1 gz1 vcz11 19 (by decide) (kX11_passWords_1 hts) (fun _ h9 => h9) gz19 dX11_passWords_87 ?_
  refine lv_bipush (v := 10) hx hb dX11_passWords_90 (by decide) ?_
  refine lv_iload hx hb dX11_passWords_92 (lv_at hl 5 rfl) ?_
  refine lv_i2l hx hb dX11_passWords_94 rfl ?_
  refine va_last hx hb hK.1 hP hD hS 0 2 gz0 tzz2 (vpd (by decide)) dX11_passWords_95 (fun H locs hP hD hS => ?_)
  obtain ⟨hP, hD⟩ := z_re (L := [(a_word, .inl (kA 2, 11, .inr (.inl (vp_updL f54 (10 : Int32).toNatClampNeg p3.toInt64)))), (n0, .inr (11, .ref a_tape :: .int m_taped :: .int m_laws :: .ref a_sign :: .ref a_length :: .ref a_clause :: .ref a_clauses :: .ref a_chain :: .int m_next :: .int m_wrong :: .int m_number :: .int m_text :: .int m_made :: .int m_deep :: .int m_lines :: .ref a_open :: .int m_opened :: .ref a_stack :: .int m_top :: .ref a_word :: .ref a_said :: .ref a_kept :: [.int m_goNode, .int m_goDrops, .int m_goHour, .int m_goFelt, .int m_goSalt, .int m_goMore, .ref a_stepNode, .ref a_stepDrops, .ref a_stepHour, .ref a_stepNext, .ref a_stepPass, .int m_bestLeft, .int m_bestHour, .int m_bestMany, .ref a_bestPass, .ref a_far, .ref a_waited, .ref a_servers, .ref a_images, .ref a_isMade])), (a_said, .inl (kA 0, 360, .inl saidF))]) hP hD
  obtain ⟨f55, ef55⟩ : ∃ y : Nat → Int64, y = (vp_updL f54 (10 : Int32).toNatClampNeg p3.toInt64) := ⟨_, rfl⟩
  rw [← ef55] at hP hD
  have hG := zbnd hG ef55
  obtain ⟨hP9, hD9⟩ := z_sb (L' := [(n0, .inr (11, .ref a_tape :: .int m_taped :: .int m_laws :: .ref a_sign :: .ref a_length :: .ref a_clause :: .ref a_clauses :: .ref a_chain :: .int m_next :: .int m_wrong :: .int m_number :: .int m_text :: .int m_made :: .int m_deep :: .int m_lines :: .ref a_open :: .int m_opened :: .ref a_stack :: .int m_top :: .ref a_word :: .ref a_said :: .ref a_kept :: [.int m_goNode, .int m_goDrops, .int m_goHour, .int m_goFelt, .int m_goSalt, .int m_goMore, .ref a_stepNode, .ref a_stepDrops, .ref a_stepHour, .ref a_stepNext, .ref a_stepPass, .int m_bestLeft, .int m_bestHour, .int m_bestMany, .ref a_bestPass, .ref a_far, .ref a_waited, .ref a_servers, .ref a_images, .ref a_isMade])), (a_word, .inl (kA 2, 11, .inr (.inl f55))), (a_said, .inl (kA 0, 360, .inl saidF))]) hP hD [1, 0, 2] (by decide) rfl
  refine W.widen (k := 0) (n := 0) (Nat.le_of_ble_eq_true rfl) (Nat.le_of_ble_eq_true rfl) ?_
  exact W.vret hx hb hr (fun t ht hW => ⟨⟨(f55), rfl, (hG.trans hG0.symm), by rw [ht]; exact hP9, hD9⟩, hS.F ht⟩) hS.2.2 dX11_passWords_96
set_option maxRecDepth 100000 in
def fX11_draw (saidF : Nat → Int32) : (Nat → Int32) × Int32 := bnd (((saidF 7).toInt64 * 1103515245)) (fun (x23 : Int64) => bnd ((x23 + 12345)) (fun (x24 : Int64) => bnd ((x24 - x24 / 2147483648 * 2147483648)) (fun (x25 : Int64) => bnd (x25.toInt32) (fun (x26 : Int32) => bnd ((upd saidF (7 : Int32).toNatClampNeg x26)) (fun (f27 : Nat → Int32) => bnd ((x25 / 65536)) (fun (x38 : Int64) => bnd ((x38 - x38 / 1000 * 1000)) (fun (x39 : Int64) => bnd (x39.toInt32) (fun (x40 : Int32) => (f27, x40)))))))))
set_option maxHeartbeats 4000000 in
set_option maxRecDepth 100000 in
theorem mX11_draw (l : Launch) (dC : Nat → ClassId) (dI : Nat → Nat → Nat) (kA : Nat → ClassId) (sz : Nat) (n0 : Nat) (m_taped : Int32) (m_laws : Int32) (m_next : Int32) (m_wrong : Int32) (m_number : Int32) (m_text : Int32) (m_made : Int32) (m_deep : Int32) (m_lines : Int32) (m_opened : Int32) (m_top : Int32) (m_goNode : Int32) (m_goDrops : Int32) (m_goHour : Int32) (m_goFelt : Int32) (m_goSalt : Int32) (m_goMore : Int32) (m_bestLeft : Int32) (m_bestHour : Int32) (m_bestMany : Int32) (a_tape : Nat) (a_sign : Nat) (a_length : Nat) (a_clause : Nat) (a_clauses : Nat) (a_chain : Nat) (a_open : Nat) (a_stack : Nat) (a_word : Nat) (a_said : Nat) (a_kept : Nat) (a_stepNode : Nat) (a_stepDrops : Nat) (a_stepHour : Nat) (a_stepNext : Nat) (a_stepPass : Nat) (a_bestPass : Nat) (a_far : Nat) (a_waited : Nat) (a_servers : Nat) (a_images : Nat) (a_isMade : Nat) (saidF : Nat → Int32) (zn : Int32) (zp : Int32) (zj : Int32) (zo : Int32) (zf : Int32) (zm : Int32) (zk : Int32) (zw : Int32) (pd : Nat → Int32) (hsc : SC saidF zn zp zj zo zf zm zk zw pd) : Met l yX11_draw wsX11_draw ({ frames := 0, cells := 0, slots := 0, locals := 0 }) (zPc dC dI kA sz [.ref n0] [(n0, .inr (11, .ref a_tape :: .int m_taped :: .int m_laws :: .ref a_sign :: .ref a_length :: .ref a_clause :: .ref a_clauses :: .ref a_chain :: .int m_next :: .int m_wrong :: .int m_number :: .int m_text :: .int m_made :: .int m_deep :: .int m_lines :: .ref a_open :: .int m_opened :: .ref a_stack :: .int m_top :: .ref a_word :: .ref a_said :: .ref a_kept :: [.int m_goNode, .int m_goDrops, .int m_goHour, .int m_goFelt, .int m_goSalt, .int m_goMore, .ref a_stepNode, .ref a_stepDrops, .ref a_stepHour, .ref a_stepNext, .ref a_stepPass, .int m_bestLeft, .int m_bestHour, .int m_bestMany, .ref a_bestPass, .ref a_far, .ref a_waited, .ref a_servers, .ref a_images, .ref a_isMade])), (a_said, .inl (kA 0, 360, .inl saidF))]) (va_Qi (fun (r : Int32) (u : (Nat → Int32) × Int32) => r = u.2 ∧ (u.1, u.2) = fX11_draw saidF ∧ SC u.1 zn zp zj zo zf zm zk zw pd ∧ K7 saidF u.1) (zB dC dI (va_A [(n0, .inr (11, .ref a_tape :: .int m_taped :: .int m_laws :: .ref a_sign :: .ref a_length :: .ref a_clause :: .ref a_clauses :: .ref a_chain :: .int m_next :: .int m_wrong :: .int m_number :: .int m_text :: .int m_made :: .int m_deep :: .int m_lines :: .ref a_open :: .int m_opened :: .ref a_stack :: .int m_top :: .ref a_word :: .ref a_said :: .ref a_kept :: [.int m_goNode, .int m_goDrops, .int m_goHour, .int m_goFelt, .int m_goSalt, .int m_goMore, .ref a_stepNode, .ref a_stepDrops, .ref a_stepHour, .ref a_stepNext, .ref a_stepPass, .int m_bestLeft, .int m_bestHour, .int m_bestMany, .ref a_bestPass, .ref a_far, .ref a_waited, .ref a_servers, .ref a_images, .ref a_isMade])), (a_said, .inl (kA 0, 360, .inl saidF))] sz) (fun (u : (Nat → Int32) × Int32) => [(n0, .inr (11, .ref a_tape :: .int m_taped :: .int m_laws :: .ref a_sign :: .ref a_length :: .ref a_clause :: .ref a_clauses :: .ref a_chain :: .int m_next :: .int m_wrong :: .int m_number :: .int m_text :: .int m_made :: .int m_deep :: .int m_lines :: .ref a_open :: .int m_opened :: .ref a_stack :: .int m_top :: .ref a_word :: .ref a_said :: .ref a_kept :: [.int m_goNode, .int m_goDrops, .int m_goHour, .int m_goFelt, .int m_goSalt, .int m_goMore, .ref a_stepNode, .ref a_stepDrops, .ref a_stepHour, .ref a_stepNext, .ref a_stepPass, .int m_bestLeft, .int m_bestHour, .int m_bestMany, .ref a_bestPass, .ref a_far, .ref a_waited, .ref a_servers, .ref a_images, .ref a_isMade])), (a_said, .inl (kA 0, 360, .inl u.1))])) (va_A [(n0, .inr (11, .ref a_tape :: .int m_taped :: .int m_laws :: .ref a_sign :: .ref a_length :: .ref a_clause :: .ref a_clauses :: .ref a_chain :: .int m_next :: .int m_wrong :: .int m_number :: .int m_text :: .int m_made :: .int m_deep :: .int m_lines :: .ref a_open :: .int m_opened :: .ref a_stack :: .int m_top :: .ref a_word :: .ref a_said :: .ref a_kept :: [.int m_goNode, .int m_goDrops, .int m_goHour, .int m_goFelt, .int m_goSalt, .int m_goMore, .ref a_stepNode, .ref a_stepDrops, .ref a_stepHour, .ref a_stepNext, .ref a_stepPass, .int m_bestLeft, .int m_bestHour, .int m_bestMany, .ref a_bestPass, .ref a_far, .ref a_waited, .ref a_servers, .ref a_images, .ref a_isMade])), (a_said, .inl (kA 0, 360, .inl saidF))] sz)) 0 0 (va_A [(n0, .inr (11, .ref a_tape :: .int m_taped :: .int m_laws :: .ref a_sign :: .ref a_length :: .ref a_clause :: .ref a_clauses :: .ref a_chain :: .int m_next :: .int m_wrong :: .int m_number :: .int m_text :: .int m_made :: .int m_deep :: .int m_lines :: .ref a_open :: .int m_opened :: .ref a_stack :: .int m_top :: .ref a_word :: .ref a_said :: .ref a_kept :: [.int m_goNode, .int m_goDrops, .int m_goHour, .int m_goFelt, .int m_goSalt, .int m_goMore, .ref a_stepNode, .ref a_stepDrops, .ref a_stepHour, .ref a_stepNext, .ref a_stepPass, .int m_bestLeft, .int m_bestHour, .int m_bestMany, .ref a_bestPass, .ref a_far, .ref a_waited, .ref a_servers, .ref a_images, .ref a_isMade])), (a_said, .inl (kA 0, 360, .inl saidF))] sz) := by
  refine Met.ofW (cc := cX11_draw) (maxL := 3) (ret := (some .int)) pnX11 rfl ?_
  intro p e s m args below meth c s₁ B hml hv
  obtain ⟨rfl, hsz, hP, hK, hD0⟩ := hv
  have hx := B.exec
  have hb := B.bytes
  have hr := B.returns
  have hts := atoms_spec (ws := wsX11_draw) B.pre
  have hown : s.vm.findClass RX11 = some m.cls := findClass_of_methodNamed B.named
  have hlocks := B.notSynchronized
  subst hsz
  have hD := hD0.self (sz := s.heap.size)
  generalize hAe : va_A [(n0, .inr (11, .ref a_tape :: .int m_taped :: .int m_laws :: .ref a_sign :: .ref a_length :: .ref a_clause :: .ref a_clauses :: .ref a_chain :: .int m_next :: .int m_wrong :: .int m_number :: .int m_text :: .int m_made :: .int m_deep :: .int m_lines :: .ref a_open :: .int m_opened :: .ref a_stack :: .int m_top :: .ref a_word :: .ref a_said :: .ref a_kept :: [.int m_goNode, .int m_goDrops, .int m_goHour, .int m_goFelt, .int m_goSalt, .int m_goMore, .ref a_stepNode, .ref a_stepDrops, .ref a_stepHour, .ref a_stepNext, .ref a_stepPass, .int m_bestLeft, .int m_bestHour, .int m_bestMany, .ref a_bestPass, .ref a_far, .ref a_waited, .ref a_servers, .ref a_images, .ref a_isMade])), (a_said, .inl (kA 0, 360, .inl saidF))] s.heap.size = A at hD ⊢
  have hA : ∀ q : Nat, s.heap.size ≤ q → A q := zA_of hAe
  have hS : va_S A s.heap s.heap [] := va_S.rf
  have hP : va_P (dC, dI) vwCl [(n0, .inr (11, .ref a_tape :: .int m_taped :: .int m_laws :: .ref a_sign :: .ref a_length :: .ref a_clause :: .ref a_clauses :: .ref a_chain :: .int m_next :: .int m_wrong :: .int m_number :: .int m_text :: .int m_made :: .int m_deep :: .int m_lines :: .ref a_open :: .int m_opened :: .ref a_stack :: .int m_top :: .ref a_word :: .ref a_said :: .ref a_kept :: [.int m_goNode, .int m_goDrops, .int m_goHour, .int m_goFelt, .int m_goSalt, .int m_goMore, .ref a_stepNode, .ref a_stepDrops, .ref a_stepHour, .ref a_stepNext, .ref a_stepPass, .int m_bestLeft, .int m_bestHour, .int m_bestMany, .ref a_bestPass, .ref a_far, .ref a_waited, .ref a_servers, .ref a_images, .ref a_isMade])), (a_said, .inl (kA 0, 360, .inl saidF))] s.heap := hP
  have hl := lv_entry ([.ref n0]) (n := 3) (Nat.le_of_ble_eq_true rfl)
  rw [lg_entry_eq]
  generalize (lg_sl ([.ref n0]) ++ List.replicate (3 - (lg_sl ([.ref n0])).length) Slot.unset).toArray = ls at hl ⊢
  have hl : lv_has ls 3 [(0, .ref n0)] := hl
  obtain ⟨G, hG0⟩ : ∃ G : (Nat → Int32) × Int32, fX11_draw saidF = G := ⟨_, rfl⟩
  have hG := hG0
  unfold fX11_draw at hG
  have hz1 : saidF 0 = zn := hsc.1.1
  have hz2 : saidF 1 = zp := hsc.1.2.1
  have hz3 : saidF 2 = zj := hsc.1.2.2.1
  have hz4 : saidF 3 = zo := hsc.1.2.2.2.1
  have hz5 : saidF 4 = zf := hsc.1.2.2.2.2.1
  have hz6 : saidF 6 = zm := hsc.1.2.2.2.2.2.1
  have hz7 : saidF 8 = zk := hsc.1.2.2.2.2.2.2.1
  have hz8 : saidF 9 = zw := hsc.1.2.2.2.2.2.2.2
  have hz9 : ¬ zn < 0 := hsc.2.1.1
  have hz10 : ¬ 12 < zn := hsc.2.1.2
  have hz11 : ¬ zp < 0 := hsc.2.2.1.1
  have hz12 : ¬ 20 < zp := hsc.2.2.1.2
  have hz13 : ¬ zj < 0 := hsc.2.2.2.1.1
  have hz14 : ¬ 16 < zj := hsc.2.2.2.1.2
  have hz15 : ¬ zo < 0 := hsc.2.2.2.2.1.1
  have hz16 : ¬ 6 < zo := hsc.2.2.2.2.1.2
  have hz17 : ¬ zf < 0 := hsc.2.2.2.2.2.1.1
  have hz18 : ¬ 8 < zf := hsc.2.2.2.2.2.1.2
  have hz19 : ¬ zk < (-1) := hsc.2.2.2.2.2.2.1.1
  have hz20 : ¬ 12 ≤ zk := hsc.2.2.2.2.2.2.1.2
  have hz21 : ¬ zw < 0 := hsc.2.2.2.2.2.2.2.1.1
  have hz22 : ¬ 6 < zw := hsc.2.2.2.2.2.2.2.1.2
  refine lv_aload_n hx hb dX11_draw_0 rfl (lv_at hl 0 rfl) ?_
  refine va_get (D := (dC, dI)) (ci := 11) (v := .ref a_said) (C := RX11) (T := TX11) (N := 42) hx hb hts iX11_draw_X11 hown hK.1 hP 0 gz0 vcz11 20 (by decide) (kX11_draw_1 hts) (fun _ h9 => h9) gz20 dX11_draw_1 ?_
  refine lv_bipush (v := 7) hx hb dX11_draw_4 (by decide) ?_
  refine va_iald hx hb hK.1 hP 1 0 gz1 tzz0 (vpd (by decide)) dX11_draw_6 ?_
  refine zi (saidF 7) rfl ?_
  refine lv_i2l hx hb dX11_draw_7 rfl ?_
  refine lv_ldc2 hx hb hown (kX11_draw_2 hts) dX11_draw_8 ?_
  refine lv_lmul hx hb dX11_draw_11 ?_
  refine lv_topl (fun x23 ex23 => ?_)
  have hG := zbnd hG ex23
  refine lv_ldc2 hx hb hown (kX11_draw_3 hts) dX11_draw_12 ?_
  refine lv_ladd hx hb dX11_draw_15 ?_
  refine lv_topl (fun x24 ex24 => ?_)
  have hG := zbnd hG ex24
  refine lv_ldc2 hx hb hown (kX11_draw_4 hts) dX11_draw_16 ?_
  refine lv_lrem hx hb dX11_draw_19 (by decide) ?_
  refine lv_topl (fun x25 ex25 => ?_)
  have hG := zbnd hG ex25
  refine lv_lstore_n (lv' := [(1, .long x25), (0, .ref n0)]) hx hb dX11_draw_20 rfl hl (by decide) rfl (fun ls hl => ?_)
  refine lv_aload_n hx hb dX11_draw_21 rfl (lv_at hl 1 rfl) ?_
  refine va_get (D := (dC, dI)) (ci := 11) (v := .ref a_said) (C := RX11) (T := TX11) (N := 42) hx hb hts iX11_draw_X11 hown hK.1 hP 0 gz0 vcz11 20 (by decide) (kX11_draw_1 hts) (fun _ h9 => h9) gz20 dX11_draw_22 ?_
  refine lv_bipush (v := 7) hx hb dX11_draw_25 (by decide) ?_
  refine lv_lload_n hx hb dX11_draw_27 rfl (lv_at hl 0 rfl) ?_
  refine lv_l2i hx hb dX11_draw_28 rfl ?_
  refine lv_topi (fun x26 ex26 => ?_)
  have hG := zbnd hG ex26
  refine va_iast hx hb hK.1 hP hD hS 1 0 gz1 tzz0 (vpd (by decide)) dX11_draw_29 (fun H locs hP hD hS => ?_)
  obtain ⟨hP, hD⟩ := z_re (L := [(n0, .inr (11, .ref a_tape :: .int m_taped :: .int m_laws :: .ref a_sign :: .ref a_length :: .ref a_clause :: .ref a_clauses :: .ref a_chain :: .int m_next :: .int m_wrong :: .int m_number :: .int m_text :: .int m_made :: .int m_deep :: .int m_lines :: .ref a_open :: .int m_opened :: .ref a_stack :: .int m_top :: .ref a_word :: .ref a_said :: .ref a_kept :: [.int m_goNode, .int m_goDrops, .int m_goHour, .int m_goFelt, .int m_goSalt, .int m_goMore, .ref a_stepNode, .ref a_stepDrops, .ref a_stepHour, .ref a_stepNext, .ref a_stepPass, .int m_bestLeft, .int m_bestHour, .int m_bestMany, .ref a_bestPass, .ref a_far, .ref a_waited, .ref a_servers, .ref a_images, .ref a_isMade])), (a_said, .inl (kA 0, 360, .inl (upd saidF (7 : Int32).toNatClampNeg x26)))]) hP hD
  obtain ⟨f27, ef27⟩ : ∃ y : Nat → Int32, y = (upd saidF (7 : Int32).toNatClampNeg x26) := ⟨_, rfl⟩
  rw [← ef27] at hP hD
  have hG := zbnd hG ef27
  have hu28 : f27 7 = x26 := upd_at ef27
  have hk29 : SC f27 zn zp zj zo zf zm zk zw pd := by rw [ef27]; exact SC_7 hsc
  have hz30 : f27 0 = zn := hk29.1.1
  have hz31 : f27 1 = zp := hk29.1.2.1
  have hz32 : f27 2 = zj := hk29.1.2.2.1
  have hz33 : f27 3 = zo := hk29.1.2.2.2.1
  have hz34 : f27 4 = zf := hk29.1.2.2.2.2.1
  have hz35 : f27 6 = zm := hk29.1.2.2.2.2.2.1
  have hz36 : f27 8 = zk := hk29.1.2.2.2.2.2.2.1
  have hz37 : f27 9 = zw := hk29.1.2.2.2.2.2.2.2
  refine lv_lload_n hx hb dX11_draw_30 rfl (lv_at hl 0 rfl) ?_
  refine lv_ldc2 hx hb hown (kX11_draw_5 hts) dX11_draw_31 ?_
  refine lv_ldiv hx hb dX11_draw_34 (by decide) ?_
  refine lv_topl (fun x38 ex38 => ?_)
  have hG := zbnd hG ex38
  refine lv_ldc2 hx hb hown (kX11_draw_6 hts) dX11_draw_35 ?_
  refine lv_lrem hx hb dX11_draw_38 (by decide) ?_
  refine lv_topl (fun x39 ex39 => ?_)
  have hG := zbnd hG ex39
  refine lv_l2i hx hb dX11_draw_39 rfl ?_
  refine lv_topi (fun x40 ex40 => ?_)
  have hG := zbnd hG ex40
  obtain ⟨hP9, hD9⟩ := z_sb (L' := [(n0, .inr (11, .ref a_tape :: .int m_taped :: .int m_laws :: .ref a_sign :: .ref a_length :: .ref a_clause :: .ref a_clauses :: .ref a_chain :: .int m_next :: .int m_wrong :: .int m_number :: .int m_text :: .int m_made :: .int m_deep :: .int m_lines :: .ref a_open :: .int m_opened :: .ref a_stack :: .int m_top :: .ref a_word :: .ref a_said :: .ref a_kept :: [.int m_goNode, .int m_goDrops, .int m_goHour, .int m_goFelt, .int m_goSalt, .int m_goMore, .ref a_stepNode, .ref a_stepDrops, .ref a_stepHour, .ref a_stepNext, .ref a_stepPass, .int m_bestLeft, .int m_bestHour, .int m_bestMany, .ref a_bestPass, .ref a_far, .ref a_waited, .ref a_servers, .ref a_images, .ref a_isMade])), (a_said, .inl (kA 0, 360, .inl f27))]) hP hD [0, 1] (by decide) rfl
  refine W.widen (k := 0) (n := 0) (Nat.le_of_ble_eq_true rfl) (Nat.le_of_ble_eq_true rfl) ?_
  exact W.iret (v := x40) hx hb hr (fun t ht hW => ⟨⟨x40, (f27, x40), rfl, ⟨rfl, (hG.trans hG0.symm), hk29, (K7_u (K7_rf saidF) ef27)⟩, by rw [ht]; exact hP9, hD9⟩, hS.F ht⟩) hS.2.2 dX11_draw_40
theorem gl_mX11_goesFor_0 (p0 : Int32) (x23 : Int32) (h0 : ¬ p0 < 0) (h1 : ¬ 16 ≤ p0) (h2 : x23 = (168 + (9 * p0))) : (¬ (x23 + 4) < 0 ∧ ¬ 360 ≤ (x23 + 4)) := by grind
theorem gl_mX11_goesFor_1 (p0 : Int32) (x23 : Int32) (h0 : ¬ p0 < 0) (h1 : ¬ 16 ≤ p0) (h2 : x23 = (168 + (9 * p0))) : ((x23 + 4) = 168 + 9 * p0 + 4) := by grind
theorem gl_mX11_goesFor_2 (p0 : Int32) (x23 : Int32) (h0 : ¬ p0 < 0) (h1 : ¬ 16 ≤ p0) (h2 : x23 = (168 + (9 * p0))) : (¬ (x23 + 5) < 0 ∧ ¬ 360 ≤ (x23 + 5)) := by grind
theorem gl_mX11_goesFor_3 (p0 : Int32) (x23 : Int32) (h0 : ¬ p0 < 0) (h1 : ¬ 16 ≤ p0) (h2 : x23 = (168 + (9 * p0))) : ((x23 + 5) = 168 + 9 * p0 + 5) := by grind
theorem gl_mX11_goesFor_4   : (¬ (13 : Int32) < 0 ∧ ¬ 13 < (13 : Int32) ∧ ¬ (13 : Int32) = 12) := by grind
theorem gl_mX11_goesFor_5 (p0 : Int32) (x23 : Int32) (h0 : ¬ p0 < 0) (h1 : ¬ 16 ≤ p0) (h2 : x23 = (168 + (9 * p0))) : (¬ (x23 + 6) < 0 ∧ ¬ 360 ≤ (x23 + 6)) := by grind
theorem gl_mX11_goesFor_6 (p0 : Int32) (x23 : Int32) (h0 : ¬ p0 < 0) (h1 : ¬ 16 ≤ p0) (h2 : x23 = (168 + (9 * p0))) : ((x23 + 6) = 168 + 9 * p0 + 6) := by grind
theorem gl_mX11_goesFor_7 (p0 : Int32) (x23 : Int32) (h0 : ¬ p0 < 0) (h1 : ¬ 16 ≤ p0) (h2 : x23 = (168 + (9 * p0))) : (¬ (x23 + 6) < 0 ∧ ¬ (x23 + 5) < 0 ∧ ¬ (x23 + 6) = (x23 + 5)) := by grind
theorem gl_mX11_goesFor_8 (p0 : Int32) (x23 : Int32) (h0 : ¬ p0 < 0) (h1 : ¬ 16 ≤ p0) (h2 : x23 = (168 + (9 * p0))) : (¬ (x23 + 7) < 0 ∧ ¬ 360 ≤ (x23 + 7)) := by grind
theorem gl_mX11_goesFor_9 (p0 : Int32) (x23 : Int32) (h0 : ¬ p0 < 0) (h1 : ¬ 16 ≤ p0) (h2 : x23 = (168 + (9 * p0))) : ((x23 + 7) = 168 + 9 * p0 + 7) := by grind
theorem gl_mX11_goesFor_10 (p0 : Int32) (x23 : Int32) (h0 : ¬ p0 < 0) (h1 : ¬ 16 ≤ p0) (h2 : x23 = (168 + (9 * p0))) : (¬ (x23 + 7) < 0 ∧ ¬ (x23 + 5) < 0 ∧ ¬ (x23 + 7) = (x23 + 5)) := by grind
theorem gl_mX11_goesFor_11 (p0 : Int32) (x23 : Int32) (h0 : ¬ p0 < 0) (h1 : ¬ 16 ≤ p0) (h2 : x23 = (168 + (9 * p0))) : (¬ (x23 + 8) < 0 ∧ ¬ 360 ≤ (x23 + 8)) := by grind
theorem gl_mX11_goesFor_12 (p0 : Int32) (x23 : Int32) (h0 : ¬ p0 < 0) (h1 : ¬ 16 ≤ p0) (h2 : x23 = (168 + (9 * p0))) : ((x23 + 8) = 168 + 9 * p0 + 8) := by grind
theorem gl_mX11_goesFor_13 (p0 : Int32) (x23 : Int32) (h0 : ¬ p0 < 0) (h1 : ¬ 16 ≤ p0) (h2 : x23 = (168 + (9 * p0))) : (¬ (x23 + 8) < 0 ∧ ¬ (x23 + 5) < 0 ∧ ¬ (x23 + 8) = (x23 + 5)) := by grind
set_option maxRecDepth 100000 in
def fX11_goesFor (saidF : Nat → Int32) (p0 : Int32) : (Nat → Int32) := bnd ((168 + (9 * p0))) (fun (x23 : Int32) => bnd ((upd saidF (x23 + 4).toNatClampNeg 0)) (fun (f24 : Nat → Int32) => bnd ((upd f24 (x23 + 5).toNatClampNeg 13)) (fun (f36 : Nat → Int32) => bnd ((upd f36 (x23 + 6).toNatClampNeg (-1))) (fun (f48 : Nat → Int32) => bnd ((upd f48 (x23 + 7).toNatClampNeg 0)) (fun (f61 : Nat → Int32) => bnd ((upd f61 (x23 + 8).toNatClampNeg (-1))) (fun (f74 : Nat → Int32) => f74))))))
set_option maxHeartbeats 4000000 in
set_option maxRecDepth 100000 in
theorem mX11_goesFor (l : Launch) (dC : Nat → ClassId) (dI : Nat → Nat → Nat) (kA : Nat → ClassId) (sz : Nat) (n0 : Nat) (m_taped : Int32) (m_laws : Int32) (m_next : Int32) (m_wrong : Int32) (m_number : Int32) (m_text : Int32) (m_made : Int32) (m_deep : Int32) (m_lines : Int32) (m_opened : Int32) (m_top : Int32) (m_goNode : Int32) (m_goDrops : Int32) (m_goHour : Int32) (m_goFelt : Int32) (m_goSalt : Int32) (m_goMore : Int32) (m_bestLeft : Int32) (m_bestHour : Int32) (m_bestMany : Int32) (a_tape : Nat) (a_sign : Nat) (a_length : Nat) (a_clause : Nat) (a_clauses : Nat) (a_chain : Nat) (a_open : Nat) (a_stack : Nat) (a_word : Nat) (a_said : Nat) (a_kept : Nat) (a_stepNode : Nat) (a_stepDrops : Nat) (a_stepHour : Nat) (a_stepNext : Nat) (a_stepPass : Nat) (a_bestPass : Nat) (a_far : Nat) (a_waited : Nat) (a_servers : Nat) (a_images : Nat) (a_isMade : Nat) (saidF : Nat → Int32) (zn : Int32) (zp : Int32) (zj : Int32) (zo : Int32) (zf : Int32) (zm : Int32) (zk : Int32) (zw : Int32) (pd : Nat → Int32) (p0 : Int32) (hsc : SC saidF zn zp zj zo zf zm zk zw pd) (hp0 : ¬ p0 < 0) (hp1 : ¬ 16 ≤ p0) : Met l yX11_goesFor wsX11_goesFor ({ frames := 0, cells := 0, slots := 0, locals := 0 }) (zPc dC dI kA sz [.ref n0, .int p0] [(n0, .inr (11, .ref a_tape :: .int m_taped :: .int m_laws :: .ref a_sign :: .ref a_length :: .ref a_clause :: .ref a_clauses :: .ref a_chain :: .int m_next :: .int m_wrong :: .int m_number :: .int m_text :: .int m_made :: .int m_deep :: .int m_lines :: .ref a_open :: .int m_opened :: .ref a_stack :: .int m_top :: .ref a_word :: .ref a_said :: .ref a_kept :: [.int m_goNode, .int m_goDrops, .int m_goHour, .int m_goFelt, .int m_goSalt, .int m_goMore, .ref a_stepNode, .ref a_stepDrops, .ref a_stepHour, .ref a_stepNext, .ref a_stepPass, .int m_bestLeft, .int m_bestHour, .int m_bestMany, .ref a_bestPass, .ref a_far, .ref a_waited, .ref a_servers, .ref a_images, .ref a_isMade])), (a_said, .inl (kA 0, 360, .inl saidF))]) (va_Qv (fun (u : (Nat → Int32)) => u = fX11_goesFor saidF p0 ∧ SC u zn zp zj zo zf zm zk zw pd ∧ PL saidF u) (zB dC dI (va_A [(n0, .inr (11, .ref a_tape :: .int m_taped :: .int m_laws :: .ref a_sign :: .ref a_length :: .ref a_clause :: .ref a_clauses :: .ref a_chain :: .int m_next :: .int m_wrong :: .int m_number :: .int m_text :: .int m_made :: .int m_deep :: .int m_lines :: .ref a_open :: .int m_opened :: .ref a_stack :: .int m_top :: .ref a_word :: .ref a_said :: .ref a_kept :: [.int m_goNode, .int m_goDrops, .int m_goHour, .int m_goFelt, .int m_goSalt, .int m_goMore, .ref a_stepNode, .ref a_stepDrops, .ref a_stepHour, .ref a_stepNext, .ref a_stepPass, .int m_bestLeft, .int m_bestHour, .int m_bestMany, .ref a_bestPass, .ref a_far, .ref a_waited, .ref a_servers, .ref a_images, .ref a_isMade])), (a_said, .inl (kA 0, 360, .inl saidF))] sz) (fun (u : (Nat → Int32)) => [(n0, .inr (11, .ref a_tape :: .int m_taped :: .int m_laws :: .ref a_sign :: .ref a_length :: .ref a_clause :: .ref a_clauses :: .ref a_chain :: .int m_next :: .int m_wrong :: .int m_number :: .int m_text :: .int m_made :: .int m_deep :: .int m_lines :: .ref a_open :: .int m_opened :: .ref a_stack :: .int m_top :: .ref a_word :: .ref a_said :: .ref a_kept :: [.int m_goNode, .int m_goDrops, .int m_goHour, .int m_goFelt, .int m_goSalt, .int m_goMore, .ref a_stepNode, .ref a_stepDrops, .ref a_stepHour, .ref a_stepNext, .ref a_stepPass, .int m_bestLeft, .int m_bestHour, .int m_bestMany, .ref a_bestPass, .ref a_far, .ref a_waited, .ref a_servers, .ref a_images, .ref a_isMade])), (a_said, .inl (kA 0, 360, .inl u))])) (va_A [(n0, .inr (11, .ref a_tape :: .int m_taped :: .int m_laws :: .ref a_sign :: .ref a_length :: .ref a_clause :: .ref a_clauses :: .ref a_chain :: .int m_next :: .int m_wrong :: .int m_number :: .int m_text :: .int m_made :: .int m_deep :: .int m_lines :: .ref a_open :: .int m_opened :: .ref a_stack :: .int m_top :: .ref a_word :: .ref a_said :: .ref a_kept :: [.int m_goNode, .int m_goDrops, .int m_goHour, .int m_goFelt, .int m_goSalt, .int m_goMore, .ref a_stepNode, .ref a_stepDrops, .ref a_stepHour, .ref a_stepNext, .ref a_stepPass, .int m_bestLeft, .int m_bestHour, .int m_bestMany, .ref a_bestPass, .ref a_far, .ref a_waited, .ref a_servers, .ref a_images, .ref a_isMade])), (a_said, .inl (kA 0, 360, .inl saidF))] sz)) 0 0 (va_A [(n0, .inr (11, .ref a_tape :: .int m_taped :: .int m_laws :: .ref a_sign :: .ref a_length :: .ref a_clause :: .ref a_clauses :: .ref a_chain :: .int m_next :: .int m_wrong :: .int m_number :: .int m_text :: .int m_made :: .int m_deep :: .int m_lines :: .ref a_open :: .int m_opened :: .ref a_stack :: .int m_top :: .ref a_word :: .ref a_said :: .ref a_kept :: [.int m_goNode, .int m_goDrops, .int m_goHour, .int m_goFelt, .int m_goSalt, .int m_goMore, .ref a_stepNode, .ref a_stepDrops, .ref a_stepHour, .ref a_stepNext, .ref a_stepPass, .int m_bestLeft, .int m_bestHour, .int m_bestMany, .ref a_bestPass, .ref a_far, .ref a_waited, .ref a_servers, .ref a_images, .ref a_isMade])), (a_said, .inl (kA 0, 360, .inl saidF))] sz) := by
  refine Met.ofW (cc := cX11_goesFor) (maxL := 3) (ret := none) pnX11 rfl ?_
  intro p e s m args below meth c s₁ B hml hv
  obtain ⟨rfl, hsz, hP, hK, hD0⟩ := hv
  have hx := B.exec
  have hb := B.bytes
  have hr := B.returns
  have hts := atoms_spec (ws := wsX11_goesFor) B.pre
  have hown : s.vm.findClass RX11 = some m.cls := findClass_of_methodNamed B.named
  have hlocks := B.notSynchronized
  subst hsz
  have hD := hD0.self (sz := s.heap.size)
  generalize hAe : va_A [(n0, .inr (11, .ref a_tape :: .int m_taped :: .int m_laws :: .ref a_sign :: .ref a_length :: .ref a_clause :: .ref a_clauses :: .ref a_chain :: .int m_next :: .int m_wrong :: .int m_number :: .int m_text :: .int m_made :: .int m_deep :: .int m_lines :: .ref a_open :: .int m_opened :: .ref a_stack :: .int m_top :: .ref a_word :: .ref a_said :: .ref a_kept :: [.int m_goNode, .int m_goDrops, .int m_goHour, .int m_goFelt, .int m_goSalt, .int m_goMore, .ref a_stepNode, .ref a_stepDrops, .ref a_stepHour, .ref a_stepNext, .ref a_stepPass, .int m_bestLeft, .int m_bestHour, .int m_bestMany, .ref a_bestPass, .ref a_far, .ref a_waited, .ref a_servers, .ref a_images, .ref a_isMade])), (a_said, .inl (kA 0, 360, .inl saidF))] s.heap.size = A at hD ⊢
  have hA : ∀ q : Nat, s.heap.size ≤ q → A q := zA_of hAe
  have hS : va_S A s.heap s.heap [] := va_S.rf
  have hP : va_P (dC, dI) vwCl [(n0, .inr (11, .ref a_tape :: .int m_taped :: .int m_laws :: .ref a_sign :: .ref a_length :: .ref a_clause :: .ref a_clauses :: .ref a_chain :: .int m_next :: .int m_wrong :: .int m_number :: .int m_text :: .int m_made :: .int m_deep :: .int m_lines :: .ref a_open :: .int m_opened :: .ref a_stack :: .int m_top :: .ref a_word :: .ref a_said :: .ref a_kept :: [.int m_goNode, .int m_goDrops, .int m_goHour, .int m_goFelt, .int m_goSalt, .int m_goMore, .ref a_stepNode, .ref a_stepDrops, .ref a_stepHour, .ref a_stepNext, .ref a_stepPass, .int m_bestLeft, .int m_bestHour, .int m_bestMany, .ref a_bestPass, .ref a_far, .ref a_waited, .ref a_servers, .ref a_images, .ref a_isMade])), (a_said, .inl (kA 0, 360, .inl saidF))] s.heap := hP
  have hl := lv_entry ([.ref n0, .int p0]) (n := 3) (Nat.le_of_ble_eq_true rfl)
  rw [lg_entry_eq]
  generalize (lg_sl ([.ref n0, .int p0]) ++ List.replicate (3 - (lg_sl ([.ref n0, .int p0])).length) Slot.unset).toArray = ls at hl ⊢
  have hl : lv_has ls 3 [(0, .ref n0), (1, .int p0)] := hl
  obtain ⟨H, hHe⟩ : ∃ H : Heap, H = s.heap := ⟨_, rfl⟩
  obtain ⟨G, hG0⟩ : ∃ G : (Nat → Int32), fX11_goesFor saidF p0 = G := ⟨_, rfl⟩
  have hG := hG0
  unfold fX11_goesFor at hG
  have hz1 : saidF 0 = zn := hsc.1.1
  have hz2 : saidF 1 = zp := hsc.1.2.1
  have hz3 : saidF 2 = zj := hsc.1.2.2.1
  have hz4 : saidF 3 = zo := hsc.1.2.2.2.1
  have hz5 : saidF 4 = zf := hsc.1.2.2.2.2.1
  have hz6 : saidF 6 = zm := hsc.1.2.2.2.2.2.1
  have hz7 : saidF 8 = zk := hsc.1.2.2.2.2.2.2.1
  have hz8 : saidF 9 = zw := hsc.1.2.2.2.2.2.2.2
  have hz9 : ¬ zn < 0 := hsc.2.1.1
  have hz10 : ¬ 12 < zn := hsc.2.1.2
  have hz11 : ¬ zp < 0 := hsc.2.2.1.1
  have hz12 : ¬ 20 < zp := hsc.2.2.1.2
  have hz13 : ¬ zj < 0 := hsc.2.2.2.1.1
  have hz14 : ¬ 16 < zj := hsc.2.2.2.1.2
  have hz15 : ¬ zo < 0 := hsc.2.2.2.2.1.1
  have hz16 : ¬ 6 < zo := hsc.2.2.2.2.1.2
  have hz17 : ¬ zf < 0 := hsc.2.2.2.2.2.1.1
  have hz18 : ¬ 8 < zf := hsc.2.2.2.2.2.1.2
  have hz19 : ¬ zk < (-1) := hsc.2.2.2.2.2.2.1.1
  have hz20 : ¬ 12 ≤ zk := hsc.2.2.2.2.2.2.1.2
  have hz21 : ¬ zw < 0 := hsc.2.2.2.2.2.2.2.1.1
  have hz22 : ¬ 6 < zw := hsc.2.2.2.2.2.2.2.1.2
  refine lv_sipush (v := 168) hx hb dX11_goesFor_0 (by decide) ?_
  refine lv_bipush (v := 9) hx hb dX11_goesFor_3 (by decide) ?_
  refine lv_iload_n hx hb dX11_goesFor_5 rfl (lv_at hl 1 rfl) ?_
  refine lv_imul hx hb dX11_goesFor_6 ?_
  refine lv_iadd hx hb dX11_goesFor_7 ?_
  refine lv_topi (fun x23 ex23 => ?_)
  have hG := zbnd hG ex23
  refine lv_istore_n (lv' := [(2, .int x23), (0, .ref n0), (1, .int p0)]) hx hb dX11_goesFor_8 rfl hl (by decide) rfl (fun ls hl => ?_)
  refine lv_aload_n hx hb dX11_goesFor_9 rfl (lv_at hl 1 rfl) ?_
  refine va_get (D := (dC, dI)) (ci := 11) (v := .ref a_said) (C := RX11) (T := TX11) (N := 42) hx hb hts iX11_goesFor_X11 hown hK.1 hP 0 gz0 vcz11 20 (by decide) (kX11_goesFor_1 hts) (fun _ h9 => h9) gz20 dX11_goesFor_10 ?_
  refine lv_iload_n hx hb dX11_goesFor_13 rfl (lv_at hl 0 rfl) ?_
  refine lv_iconst (v := 4) hx hb dX11_goesFor_14 (by decide) ?_
  refine lv_iadd hx hb dX11_goesFor_15 ?_
  refine lv_iconst (v := 0) hx hb dX11_goesFor_16 (by decide) ?_
  refine va_iast hx hb hK.1 hP hD hS 1 0 gz1 tzz0 (vp_g (N := 360) (by decide) (gl_mX11_goesFor_0 p0 x23 hp0 hp1 ex23)) dX11_goesFor_17 (fun H locs hP hD hS => ?_)
  obtain ⟨hP, hD⟩ := z_re (L := [(n0, .inr (11, .ref a_tape :: .int m_taped :: .int m_laws :: .ref a_sign :: .ref a_length :: .ref a_clause :: .ref a_clauses :: .ref a_chain :: .int m_next :: .int m_wrong :: .int m_number :: .int m_text :: .int m_made :: .int m_deep :: .int m_lines :: .ref a_open :: .int m_opened :: .ref a_stack :: .int m_top :: .ref a_word :: .ref a_said :: .ref a_kept :: [.int m_goNode, .int m_goDrops, .int m_goHour, .int m_goFelt, .int m_goSalt, .int m_goMore, .ref a_stepNode, .ref a_stepDrops, .ref a_stepHour, .ref a_stepNext, .ref a_stepPass, .int m_bestLeft, .int m_bestHour, .int m_bestMany, .ref a_bestPass, .ref a_far, .ref a_waited, .ref a_servers, .ref a_images, .ref a_isMade])), (a_said, .inl (kA 0, 360, .inl (upd saidF (x23 + 4).toNatClampNeg 0)))]) hP hD
  obtain ⟨f24, ef24⟩ : ∃ y : Nat → Int32, y = (upd saidF (x23 + 4).toNatClampNeg 0) := ⟨_, rfl⟩
  rw [← ef24] at hP hD
  have hG := zbnd hG ef24
  have hu25 := upd_at ef24
  have hk26 : SC f24 zn zp zj zo zf zm zk zw pd := by rw [ef24]; exact SC_jf (k := 4) hsc hp0 hp1 (gl_mX11_goesFor_1 p0 x23 hp0 hp1 ex23) (by decide)
  have hz27 : f24 0 = zn := hk26.1.1
  have hz28 : f24 1 = zp := hk26.1.2.1
  have hz29 : f24 2 = zj := hk26.1.2.2.1
  have hz30 : f24 3 = zo := hk26.1.2.2.2.1
  have hz31 : f24 4 = zf := hk26.1.2.2.2.2.1
  have hz32 : f24 6 = zm := hk26.1.2.2.2.2.2.1
  have hz33 : f24 8 = zk := hk26.1.2.2.2.2.2.2.1
  have hz34 : f24 9 = zw := hk26.1.2.2.2.2.2.2.2
  have hl35 : PL saidF f24 := by rw [ef24]; exact PL_u (k := 4) (PL_rf saidF) hp0 hp1 (gl_mX11_goesFor_1 p0 x23 hp0 hp1 ex23) (by decide)
  refine lv_aload_n hx hb dX11_goesFor_18 rfl (lv_at hl 1 rfl) ?_
  refine va_get (D := (dC, dI)) (ci := 11) (v := .ref a_said) (C := RX11) (T := TX11) (N := 42) hx hb hts iX11_goesFor_X11 hown hK.1 hP 0 gz0 vcz11 20 (by decide) (kX11_goesFor_1 hts) (fun _ h9 => h9) gz20 dX11_goesFor_19 ?_
  refine lv_iload_n hx hb dX11_goesFor_22 rfl (lv_at hl 0 rfl) ?_
  refine lv_iconst (v := 5) hx hb dX11_goesFor_23 (by decide) ?_
  refine lv_iadd hx hb dX11_goesFor_24 ?_
  refine lv_bipush (v := 13) hx hb dX11_goesFor_25 (by decide) ?_
  refine va_iast hx hb hK.1 hP hD hS 1 0 gz1 tzz0 (vp_g (N := 360) (by decide) (gl_mX11_goesFor_2 p0 x23 hp0 hp1 ex23)) dX11_goesFor_27 (fun H locs hP hD hS => ?_)
  obtain ⟨hP, hD⟩ := z_re (L := [(n0, .inr (11, .ref a_tape :: .int m_taped :: .int m_laws :: .ref a_sign :: .ref a_length :: .ref a_clause :: .ref a_clauses :: .ref a_chain :: .int m_next :: .int m_wrong :: .int m_number :: .int m_text :: .int m_made :: .int m_deep :: .int m_lines :: .ref a_open :: .int m_opened :: .ref a_stack :: .int m_top :: .ref a_word :: .ref a_said :: .ref a_kept :: [.int m_goNode, .int m_goDrops, .int m_goHour, .int m_goFelt, .int m_goSalt, .int m_goMore, .ref a_stepNode, .ref a_stepDrops, .ref a_stepHour, .ref a_stepNext, .ref a_stepPass, .int m_bestLeft, .int m_bestHour, .int m_bestMany, .ref a_bestPass, .ref a_far, .ref a_waited, .ref a_servers, .ref a_images, .ref a_isMade])), (a_said, .inl (kA 0, 360, .inl (upd f24 (x23 + 5).toNatClampNeg 13)))]) hP hD
  obtain ⟨f36, ef36⟩ : ∃ y : Nat → Int32, y = (upd f24 (x23 + 5).toNatClampNeg 13) := ⟨_, rfl⟩
  rw [← ef36] at hP hD
  have hG := zbnd hG ef36
  have hu37 := upd_at ef36
  have hk38 : SC f36 zn zp zj zo zf zm zk zw pd := by rw [ef36]; exact SC_jw hk26 hp0 hp1 (gl_mX11_goesFor_3 p0 x23 hp0 hp1 ex23) (gl_mX11_goesFor_4  )
  have hz39 : f36 0 = zn := hk38.1.1
  have hz40 : f36 1 = zp := hk38.1.2.1
  have hz41 : f36 2 = zj := hk38.1.2.2.1
  have hz42 : f36 3 = zo := hk38.1.2.2.2.1
  have hz43 : f36 4 = zf := hk38.1.2.2.2.2.1
  have hz44 : f36 6 = zm := hk38.1.2.2.2.2.2.1
  have hz45 : f36 8 = zk := hk38.1.2.2.2.2.2.2.1
  have hz46 : f36 9 = zw := hk38.1.2.2.2.2.2.2.2
  have hl47 : PL saidF f36 := by rw [ef36]; exact PL_u (k := 5) hl35 hp0 hp1 (gl_mX11_goesFor_3 p0 x23 hp0 hp1 ex23) (by decide)
  refine lv_aload_n hx hb dX11_goesFor_28 rfl (lv_at hl 1 rfl) ?_
  refine va_get (D := (dC, dI)) (ci := 11) (v := .ref a_said) (C := RX11) (T := TX11) (N := 42) hx hb hts iX11_goesFor_X11 hown hK.1 hP 0 gz0 vcz11 20 (by decide) (kX11_goesFor_1 hts) (fun _ h9 => h9) gz20 dX11_goesFor_29 ?_
  refine lv_iload_n hx hb dX11_goesFor_32 rfl (lv_at hl 0 rfl) ?_
  refine lv_bipush (v := 6) hx hb dX11_goesFor_33 (by decide) ?_
  refine lv_iadd hx hb dX11_goesFor_35 ?_
  refine lv_iconst (v := (-1)) hx hb dX11_goesFor_36 (by decide) ?_
  refine va_iast hx hb hK.1 hP hD hS 1 0 gz1 tzz0 (vp_g (N := 360) (by decide) (gl_mX11_goesFor_5 p0 x23 hp0 hp1 ex23)) dX11_goesFor_37 (fun H locs hP hD hS => ?_)
  obtain ⟨hP, hD⟩ := z_re (L := [(n0, .inr (11, .ref a_tape :: .int m_taped :: .int m_laws :: .ref a_sign :: .ref a_length :: .ref a_clause :: .ref a_clauses :: .ref a_chain :: .int m_next :: .int m_wrong :: .int m_number :: .int m_text :: .int m_made :: .int m_deep :: .int m_lines :: .ref a_open :: .int m_opened :: .ref a_stack :: .int m_top :: .ref a_word :: .ref a_said :: .ref a_kept :: [.int m_goNode, .int m_goDrops, .int m_goHour, .int m_goFelt, .int m_goSalt, .int m_goMore, .ref a_stepNode, .ref a_stepDrops, .ref a_stepHour, .ref a_stepNext, .ref a_stepPass, .int m_bestLeft, .int m_bestHour, .int m_bestMany, .ref a_bestPass, .ref a_far, .ref a_waited, .ref a_servers, .ref a_images, .ref a_isMade])), (a_said, .inl (kA 0, 360, .inl (upd f36 (x23 + 6).toNatClampNeg (-1))))]) hP hD
  obtain ⟨f48, ef48⟩ : ∃ y : Nat → Int32, y = (upd f36 (x23 + 6).toNatClampNeg (-1)) := ⟨_, rfl⟩
  rw [← ef48] at hP hD
  have hG := zbnd hG ef48
  have hu49 := upd_at ef48
  have hk50 : SC f48 zn zp zj zo zf zm zk zw pd := by rw [ef48]; exact SC_jx (k := 6) (w := (x23 + 5)) (x := 13) hk38 hp0 hp1 (gl_mX11_goesFor_6 p0 x23 hp0 hp1 ex23) (by decide) (gl_mX11_goesFor_3 p0 x23 hp0 hp1 ex23) hu37 (by decide)
  have hz51 : f48 0 = zn := hk50.1.1
  have hz52 : f48 1 = zp := hk50.1.2.1
  have hz53 : f48 2 = zj := hk50.1.2.2.1
  have hz54 : f48 3 = zo := hk50.1.2.2.2.1
  have hz55 : f48 4 = zf := hk50.1.2.2.2.2.1
  have hz56 : f48 6 = zm := hk50.1.2.2.2.2.2.1
  have hz57 : f48 8 = zk := hk50.1.2.2.2.2.2.2.1
  have hz58 : f48 9 = zw := hk50.1.2.2.2.2.2.2.2
  have hv59 : f48 (x23 + 5).toNatClampNeg = 13 := by rw [ef48, upd_ne (zc_ne (gl_mX11_goesFor_7 p0 x23 hp0 hp1 ex23))]; exact hu37
  have hl60 : PL saidF f48 := by rw [ef48]; exact PL_u (k := 6) hl47 hp0 hp1 (gl_mX11_goesFor_6 p0 x23 hp0 hp1 ex23) (by decide)
  refine lv_aload_n hx hb dX11_goesFor_38 rfl (lv_at hl 1 rfl) ?_
  refine va_get (D := (dC, dI)) (ci := 11) (v := .ref a_said) (C := RX11) (T := TX11) (N := 42) hx hb hts iX11_goesFor_X11 hown hK.1 hP 0 gz0 vcz11 20 (by decide) (kX11_goesFor_1 hts) (fun _ h9 => h9) gz20 dX11_goesFor_39 ?_
  refine lv_iload_n hx hb dX11_goesFor_42 rfl (lv_at hl 0 rfl) ?_
  refine lv_bipush (v := 7) hx hb dX11_goesFor_43 (by decide) ?_
  refine lv_iadd hx hb dX11_goesFor_45 ?_
  refine lv_iconst (v := 0) hx hb dX11_goesFor_46 (by decide) ?_
  refine va_iast hx hb hK.1 hP hD hS 1 0 gz1 tzz0 (vp_g (N := 360) (by decide) (gl_mX11_goesFor_8 p0 x23 hp0 hp1 ex23)) dX11_goesFor_47 (fun H locs hP hD hS => ?_)
  obtain ⟨hP, hD⟩ := z_re (L := [(n0, .inr (11, .ref a_tape :: .int m_taped :: .int m_laws :: .ref a_sign :: .ref a_length :: .ref a_clause :: .ref a_clauses :: .ref a_chain :: .int m_next :: .int m_wrong :: .int m_number :: .int m_text :: .int m_made :: .int m_deep :: .int m_lines :: .ref a_open :: .int m_opened :: .ref a_stack :: .int m_top :: .ref a_word :: .ref a_said :: .ref a_kept :: [.int m_goNode, .int m_goDrops, .int m_goHour, .int m_goFelt, .int m_goSalt, .int m_goMore, .ref a_stepNode, .ref a_stepDrops, .ref a_stepHour, .ref a_stepNext, .ref a_stepPass, .int m_bestLeft, .int m_bestHour, .int m_bestMany, .ref a_bestPass, .ref a_far, .ref a_waited, .ref a_servers, .ref a_images, .ref a_isMade])), (a_said, .inl (kA 0, 360, .inl (upd f48 (x23 + 7).toNatClampNeg 0)))]) hP hD
  obtain ⟨f61, ef61⟩ : ∃ y : Nat → Int32, y = (upd f48 (x23 + 7).toNatClampNeg 0) := ⟨_, rfl⟩
  rw [← ef61] at hP hD
  have hG := zbnd hG ef61
  have hu62 := upd_at ef61
  have hk63 : SC f61 zn zp zj zo zf zm zk zw pd := by rw [ef61]; exact SC_jf (k := 7) hk50 hp0 hp1 (gl_mX11_goesFor_9 p0 x23 hp0 hp1 ex23) (by decide)
  have hz64 : f61 0 = zn := hk63.1.1
  have hz65 : f61 1 = zp := hk63.1.2.1
  have hz66 : f61 2 = zj := hk63.1.2.2.1
  have hz67 : f61 3 = zo := hk63.1.2.2.2.1
  have hz68 : f61 4 = zf := hk63.1.2.2.2.2.1
  have hz69 : f61 6 = zm := hk63.1.2.2.2.2.2.1
  have hz70 : f61 8 = zk := hk63.1.2.2.2.2.2.2.1
  have hz71 : f61 9 = zw := hk63.1.2.2.2.2.2.2.2
  have hv72 : f61 (x23 + 5).toNatClampNeg = 13 := by rw [ef61, upd_ne (zc_ne (gl_mX11_goesFor_10 p0 x23 hp0 hp1 ex23))]; exact hv59
  have hl73 : PL saidF f61 := by rw [ef61]; exact PL_u (k := 7) hl60 hp0 hp1 (gl_mX11_goesFor_9 p0 x23 hp0 hp1 ex23) (by decide)
  refine lv_aload_n hx hb dX11_goesFor_48 rfl (lv_at hl 1 rfl) ?_
  refine va_get (D := (dC, dI)) (ci := 11) (v := .ref a_said) (C := RX11) (T := TX11) (N := 42) hx hb hts iX11_goesFor_X11 hown hK.1 hP 0 gz0 vcz11 20 (by decide) (kX11_goesFor_1 hts) (fun _ h9 => h9) gz20 dX11_goesFor_49 ?_
  refine lv_iload_n hx hb dX11_goesFor_52 rfl (lv_at hl 0 rfl) ?_
  refine lv_bipush (v := 8) hx hb dX11_goesFor_53 (by decide) ?_
  refine lv_iadd hx hb dX11_goesFor_55 ?_
  refine lv_iconst (v := (-1)) hx hb dX11_goesFor_56 (by decide) ?_
  refine va_iast hx hb hK.1 hP hD hS 1 0 gz1 tzz0 (vp_g (N := 360) (by decide) (gl_mX11_goesFor_11 p0 x23 hp0 hp1 ex23)) dX11_goesFor_57 (fun H locs hP hD hS => ?_)
  obtain ⟨hP, hD⟩ := z_re (L := [(n0, .inr (11, .ref a_tape :: .int m_taped :: .int m_laws :: .ref a_sign :: .ref a_length :: .ref a_clause :: .ref a_clauses :: .ref a_chain :: .int m_next :: .int m_wrong :: .int m_number :: .int m_text :: .int m_made :: .int m_deep :: .int m_lines :: .ref a_open :: .int m_opened :: .ref a_stack :: .int m_top :: .ref a_word :: .ref a_said :: .ref a_kept :: [.int m_goNode, .int m_goDrops, .int m_goHour, .int m_goFelt, .int m_goSalt, .int m_goMore, .ref a_stepNode, .ref a_stepDrops, .ref a_stepHour, .ref a_stepNext, .ref a_stepPass, .int m_bestLeft, .int m_bestHour, .int m_bestMany, .ref a_bestPass, .ref a_far, .ref a_waited, .ref a_servers, .ref a_images, .ref a_isMade])), (a_said, .inl (kA 0, 360, .inl (upd f61 (x23 + 8).toNatClampNeg (-1))))]) hP hD
  obtain ⟨f74, ef74⟩ : ∃ y : Nat → Int32, y = (upd f61 (x23 + 8).toNatClampNeg (-1)) := ⟨_, rfl⟩
  rw [← ef74] at hP hD
  have hG := zbnd hG ef74
  have hu75 := upd_at ef74
  have hk76 : SC f74 zn zp zj zo zf zm zk zw pd := by rw [ef74]; exact SC_jx (k := 8) (w := (x23 + 5)) (x := 13) hk63 hp0 hp1 (gl_mX11_goesFor_12 p0 x23 hp0 hp1 ex23) (by decide) (gl_mX11_goesFor_3 p0 x23 hp0 hp1 ex23) hv72 (by decide)
  have hz77 : f74 0 = zn := hk76.1.1
  have hz78 : f74 1 = zp := hk76.1.2.1
  have hz79 : f74 2 = zj := hk76.1.2.2.1
  have hz80 : f74 3 = zo := hk76.1.2.2.2.1
  have hz81 : f74 4 = zf := hk76.1.2.2.2.2.1
  have hz82 : f74 6 = zm := hk76.1.2.2.2.2.2.1
  have hz83 : f74 8 = zk := hk76.1.2.2.2.2.2.2.1
  have hz84 : f74 9 = zw := hk76.1.2.2.2.2.2.2.2
  have hv85 : f74 (x23 + 5).toNatClampNeg = 13 := by rw [ef74, upd_ne (zc_ne (gl_mX11_goesFor_13 p0 x23 hp0 hp1 ex23))]; exact hv72
  have hl86 : PL saidF f74 := by rw [ef74]; exact PL_u (k := 8) hl73 hp0 hp1 (gl_mX11_goesFor_12 p0 x23 hp0 hp1 ex23) (by decide)
  obtain ⟨hP9, hD9⟩ := z_sb (L' := [(n0, .inr (11, .ref a_tape :: .int m_taped :: .int m_laws :: .ref a_sign :: .ref a_length :: .ref a_clause :: .ref a_clauses :: .ref a_chain :: .int m_next :: .int m_wrong :: .int m_number :: .int m_text :: .int m_made :: .int m_deep :: .int m_lines :: .ref a_open :: .int m_opened :: .ref a_stack :: .int m_top :: .ref a_word :: .ref a_said :: .ref a_kept :: [.int m_goNode, .int m_goDrops, .int m_goHour, .int m_goFelt, .int m_goSalt, .int m_goMore, .ref a_stepNode, .ref a_stepDrops, .ref a_stepHour, .ref a_stepNext, .ref a_stepPass, .int m_bestLeft, .int m_bestHour, .int m_bestMany, .ref a_bestPass, .ref a_far, .ref a_waited, .ref a_servers, .ref a_images, .ref a_isMade])), (a_said, .inl (kA 0, 360, .inl f74))]) hP hD [0, 1] (by decide) rfl
  refine W.widen (k := 0) (n := 0) (Nat.le_of_ble_eq_true rfl) (Nat.le_of_ble_eq_true rfl) ?_
  exact W.vret hx hb hr (fun t ht hW => ⟨⟨(f74), rfl, ⟨(hG.trans hG0.symm), hk76, hl86⟩, by rw [ht]; exact hP9, hD9⟩, hS.F ht⟩) hS.2.2 dX11_goesFor_58
