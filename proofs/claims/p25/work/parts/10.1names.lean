def ixX11_bounded : List Nat := [857]
def wsX11_bounded : List Cond := .code yX11_bounded cX11_bounded 6 (some .long) :: ixX11_bounded.map wt
def ixX11_hasSnow : List Nat := [5, 153, 632, 633, 634, 635, 636, 1499, 1500, 1501, 1502, 1503, 1504, 1505, 1506, 1507, 1508, 1509, 1510, 1511, 1512, 1513, 1514, 1515, 1516, 1517, 1518, 1519, 1520, 1521, 1522, 1523, 1524, 1525, 1526, 1527, 1528, 1529, 1530, 1531, 1532, 1533, 1534, 1535, 1536, 1537, 1538, 1539, 1540]
def wsX11_hasSnow : List Cond := .code yX11_hasSnow cX11_hasSnow 3 (some .boolean) :: ixX11_hasSnow.map wt
def ixX11_in : List Nat := [193]
def wsX11_in : List Cond := .code yX11_in cX11_in 6 (some .boolean) :: ixX11_in.map wt
def ixX11_isJar : List Nat := [153, 620, 1499, 1500, 1501, 1502, 1503, 1504, 1505, 1506, 1507, 1508, 1509, 1510, 1511, 1512, 1513, 1514, 1515, 1516, 1517, 1518, 1519, 1520, 1521, 1522, 1523, 1524, 1525, 1526, 1527, 1528, 1529, 1530, 1531, 1532, 1533, 1534, 1535, 1536, 1537, 1538, 1539, 1540]
def wsX11_isJar : List Cond := .code yX11_isJar cX11_isJar 2 (some .boolean) :: ixX11_isJar.map wt
def ixX11_isLaw : List Nat := [458, 809, 1499, 1500, 1501, 1502, 1503, 1504, 1505, 1506, 1507, 1508, 1509, 1510, 1511, 1512, 1513, 1514, 1515, 1516, 1517, 1518, 1519, 1520, 1521, 1522, 1523, 1524, 1525, 1526, 1527, 1528, 1529, 1530, 1531, 1532, 1533, 1534, 1535, 1536, 1537, 1538, 1539, 1540]
def wsX11_isLaw : List Cond := .code yX11_isLaw cX11_isLaw 2 (some .boolean) :: ixX11_isLaw.map wt
def ixX11_isNode : List Nat := [153, 212, 1499, 1500, 1501, 1502, 1503, 1504, 1505, 1506, 1507, 1508, 1509, 1510, 1511, 1512, 1513, 1514, 1515, 1516, 1517, 1518, 1519, 1520, 1521, 1522, 1523, 1524, 1525, 1526, 1527, 1528, 1529, 1530, 1531, 1532, 1533, 1534, 1535, 1536, 1537, 1538, 1539, 1540]
def wsX11_isNode : List Cond := .code yX11_isNode cX11_isNode 2 (some .boolean) :: ixX11_isNode.map wt
def ixX11_isPass : List Nat := [153, 681, 1499, 1500, 1501, 1502, 1503, 1504, 1505, 1506, 1507, 1508, 1509, 1510, 1511, 1512, 1513, 1514, 1515, 1516, 1517, 1518, 1519, 1520, 1521, 1522, 1523, 1524, 1525, 1526, 1527, 1528, 1529, 1530, 1531, 1532, 1533, 1534, 1535, 1536, 1537, 1538, 1539, 1540]
def wsX11_isPass : List Cond := .code yX11_isPass cX11_isPass 2 (some .boolean) :: ixX11_isPass.map wt
def ixX11_jarOf : List Nat := [153, 624, 1499, 1500, 1501, 1502, 1503, 1504, 1505, 1506, 1507, 1508, 1509, 1510, 1511, 1512, 1513, 1514, 1515, 1516, 1517, 1518, 1519, 1520, 1521, 1522, 1523, 1524, 1525, 1526, 1527, 1528, 1529, 1530, 1531, 1532, 1533, 1534, 1535, 1536, 1537, 1538, 1539, 1540]
def wsX11_jarOf : List Cond := .code yX11_jarOf cX11_jarOf 3 (some .int) :: ixX11_jarOf.map wt
def ixX11_monthAt : List Nat := [153, 628, 1499, 1500, 1501, 1502, 1503, 1504, 1505, 1506, 1507, 1508, 1509, 1510, 1511, 1512, 1513, 1514, 1515, 1516, 1517, 1518, 1519, 1520, 1521, 1522, 1523, 1524, 1525, 1526, 1527, 1528, 1529, 1530, 1531, 1532, 1533, 1534, 1535, 1536, 1537, 1538, 1539, 1540]
def wsX11_monthAt : List Cond := .code yX11_monthAt cX11_monthAt 2 (some .int) :: ixX11_monthAt.map wt
def ixX11_nodeOf : List Nat := [153, 636, 1499, 1500, 1501, 1502, 1503, 1504, 1505, 1506, 1507, 1508, 1509, 1510, 1511, 1512, 1513, 1514, 1515, 1516, 1517, 1518, 1519, 1520, 1521, 1522, 1523, 1524, 1525, 1526, 1527, 1528, 1529, 1530, 1531, 1532, 1533, 1534, 1535, 1536, 1537, 1538, 1539, 1540]
def wsX11_nodeOf : List Cond := .code yX11_nodeOf cX11_nodeOf 3 (some .int) :: ixX11_nodeOf.map wt
def ixX11_other : List Nat := [5, 153, 685, 686, 687, 688, 689, 1499, 1500, 1501, 1502, 1503, 1504, 1505, 1506, 1507, 1508, 1509, 1510, 1511, 1512, 1513, 1514, 1515, 1516, 1517, 1518, 1519, 1520, 1521, 1522, 1523, 1524, 1525, 1526, 1527, 1528, 1529, 1530, 1531, 1532, 1533, 1534, 1535, 1536, 1537, 1538, 1539, 1540]
def wsX11_other : List Cond := .code yX11_other cX11_other 3 (some .int) :: ixX11_other.map wt
def ixX11_passOf : List Nat := [153, 689, 1499, 1500, 1501, 1502, 1503, 1504, 1505, 1506, 1507, 1508, 1509, 1510, 1511, 1512, 1513, 1514, 1515, 1516, 1517, 1518, 1519, 1520, 1521, 1522, 1523, 1524, 1525, 1526, 1527, 1528, 1529, 1530, 1531, 1532, 1533, 1534, 1535, 1536, 1537, 1538, 1539, 1540]
def wsX11_passOf : List Cond := .code yX11_passOf cX11_passOf 3 (some .int) :: ixX11_passOf.map wt
def ixX11_stands : List Nat := [5, 153, 616, 617, 618, 619, 620, 621, 622, 623, 624, 1499, 1500, 1501, 1502, 1503, 1504, 1505, 1506, 1507, 1508, 1509, 1510, 1511, 1512, 1513, 1514, 1515, 1516, 1517, 1518, 1519, 1520, 1521, 1522, 1523, 1524, 1525, 1526, 1527, 1528, 1529, 1530, 1531, 1532, 1533, 1534, 1535, 1536, 1537, 1538, 1539, 1540]
def wsX11_stands : List Cond := .code yX11_stands cX11_stands 2 (some .boolean) :: ixX11_stands.map wt
theorem ggX11_hasSnow_X11_nodeOf : GoodIn wsX11_hasSnow wsX11_nodeOf := gi_ (A := ixX11_hasSnow) (B := ixX11_nodeOf) wt636 (by decide +kernel)
theorem gX11_hasSnow_X11_nodeOf : GoodIn wsX11_hasSnow (wsV RX11 257 RX11 yX11_nodeOf wsX11_nodeOf) := g4_ (A := ixX11_hasSnow) wt633 wt634 wt635 wt5 (by decide +kernel) ggX11_hasSnow_X11_nodeOf
theorem ggX11_other_X11_passOf : GoodIn wsX11_other wsX11_passOf := gi_ (A := ixX11_other) (B := ixX11_passOf) wt689 (by decide +kernel)
theorem gX11_other_X11_passOf : GoodIn wsX11_other (wsV RX11 303 RX11 yX11_passOf wsX11_passOf) := g4_ (A := ixX11_other) wt686 wt687 wt688 wt5 (by decide +kernel) ggX11_other_X11_passOf
theorem ggX11_stands_X11_isJar : GoodIn wsX11_stands wsX11_isJar := gi_ (A := ixX11_stands) (B := ixX11_isJar) wt620 (by decide +kernel)
theorem gX11_stands_X11_isJar : GoodIn wsX11_stands (wsV RX11 280 RX11 yX11_isJar wsX11_isJar) := g4_ (A := ixX11_stands) wt617 wt618 wt619 wt5 (by decide +kernel) ggX11_stands_X11_isJar
theorem ggX11_stands_X11_jarOf : GoodIn wsX11_stands wsX11_jarOf := gi_ (A := ixX11_stands) (B := ixX11_jarOf) wt624 (by decide +kernel)
theorem gX11_stands_X11_jarOf : GoodIn wsX11_stands (wsV RX11 283 RX11 yX11_jarOf wsX11_jarOf) := g4_ (A := ixX11_stands) wt621 wt622 wt623 wt5 (by decide +kernel) ggX11_stands_X11_jarOf
