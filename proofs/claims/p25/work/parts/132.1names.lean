def ixX11_canTry : List Nat := [5, 153, 190, 191, 192, 193, 458, 612, 806, 807, 808, 809, 1000, 1001, 1002, 1003, 1499, 1500, 1501, 1502, 1503, 1504, 1505, 1506, 1507, 1508, 1509, 1510, 1511, 1512, 1513, 1514, 1515, 1516, 1517, 1518, 1519, 1520, 1521, 1522, 1523, 1524, 1525, 1526, 1527, 1528, 1529, 1530, 1531, 1532, 1533, 1534, 1535, 1536, 1537, 1538, 1539, 1540]
def wsX11_canTry : List Cond := .code yX11_canTry cX11_canTry 6 (some .boolean) :: ixX11_canTry.map wt
def ixX11_isJarLike : List Nat := [5, 190, 191, 192, 193, 612, 1003]
def wsX11_isJarLike : List Cond := .code yX11_isJarLike cX11_isJarLike 3 (some .boolean) :: ixX11_isJarLike.map wt
def ixX11_sets : List Nat := [995, 996, 1007, 1008, 1009, 1010, 1011, 1499, 1500, 1501, 1502, 1503, 1504, 1505, 1506, 1507, 1508, 1509, 1510, 1511, 1512, 1513, 1514, 1515, 1516, 1517, 1518, 1519, 1520, 1521, 1522, 1523, 1524, 1525, 1526, 1527, 1528, 1529, 1530, 1531, 1532, 1533, 1534, 1535, 1536, 1537, 1538, 1539, 1540]
def wsX11_sets : List Cond := .code yX11_sets cX11_sets 6 none :: ixX11_sets.map wt
theorem ggX11_canTry_X11_in : GoodIn wsX11_canTry wsX11_in := gi_ (A := ixX11_canTry) (B := ixX11_in) wt193 (by decide +kernel)
theorem gX11_canTry_X11_in : GoodIn wsX11_canTry (va_wsS RX11 118 yX11_in wsX11_in) := g3_ (A := ixX11_canTry) wt191 wt192 wt5 (by decide +kernel) ggX11_canTry_X11_in
theorem ggX11_canTry_X11_isJarLike : GoodIn wsX11_canTry wsX11_isJarLike := gi_ (A := ixX11_canTry) (B := ixX11_isJarLike) wt1003 (by decide +kernel)
theorem gX11_canTry_X11_isJarLike : GoodIn wsX11_canTry (va_wsS RX11 399 yX11_isJarLike wsX11_isJarLike) := g3_ (A := ixX11_canTry) wt1001 wt1002 wt5 (by decide +kernel) ggX11_canTry_X11_isJarLike
theorem ggX11_canTry_X11_isLaw : GoodIn wsX11_canTry wsX11_isLaw := gi_ (A := ixX11_canTry) (B := ixX11_isLaw) wt809 (by decide +kernel)
theorem gX11_canTry_X11_isLaw : GoodIn wsX11_canTry (wsV RX11 363 RX11 yX11_isLaw wsX11_isLaw) := g4_ (A := ixX11_canTry) wt806 wt807 wt808 wt5 (by decide +kernel) ggX11_canTry_X11_isLaw
theorem ggX11_isJarLike_X11_in : GoodIn wsX11_isJarLike wsX11_in := gi_ (A := ixX11_isJarLike) (B := ixX11_in) wt193 (by decide +kernel)
theorem gX11_isJarLike_X11_in : GoodIn wsX11_isJarLike (va_wsS RX11 118 yX11_in wsX11_in) := g3_ (A := ixX11_isJarLike) wt191 wt192 wt5 (by decide +kernel) ggX11_isJarLike_X11_in
