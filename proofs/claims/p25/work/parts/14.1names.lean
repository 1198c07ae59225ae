def ixX11_one : List Nat := [854]
def wsX11_one : List Cond := .code yX11_one cX11_one 5 (some .long) :: ixX11_one.map wt
def ixX11_pop : List Nat := [151, 843, 851, 1499, 1500, 1501, 1502, 1503, 1504, 1505, 1506, 1507, 1508, 1509, 1510, 1511, 1512, 1513, 1514, 1515, 1516, 1517, 1518, 1519, 1520, 1521, 1522, 1523, 1524, 1525, 1526, 1527, 1528, 1529, 1530, 1531, 1532, 1533, 1534, 1535, 1536, 1537, 1538, 1539, 1540]
def wsX11_pop : List Cond := .code yX11_pop cX11_pop 1 (some .long) :: ixX11_pop.map wt
def ixX11_push : List Nat := [151, 843, 847, 1499, 1500, 1501, 1502, 1503, 1504, 1505, 1506, 1507, 1508, 1509, 1510, 1511, 1512, 1513, 1514, 1515, 1516, 1517, 1518, 1519, 1520, 1521, 1522, 1523, 1524, 1525, 1526, 1527, 1528, 1529, 1530, 1531, 1532, 1533, 1534, 1535, 1536, 1537, 1538, 1539, 1540]
def wsX11_push : List Cond := .code yX11_push cX11_push 3 none :: ixX11_push.map wt
def ixX11_reckons : List Nat := [5, 144, 151, 152, 842, 843, 844, 845, 846, 847, 848, 849, 850, 851, 852, 853, 854, 1499, 1500, 1501, 1502, 1503, 1504, 1505, 1506, 1507, 1508, 1509, 1510, 1511, 1512, 1513, 1514, 1515, 1516, 1517, 1518, 1519, 1520, 1521, 1522, 1523, 1524, 1525, 1526, 1527, 1528, 1529, 1530, 1531, 1532, 1533, 1534, 1535, 1536, 1537, 1538, 1539, 1540]
def wsX11_reckons : List Cond := .code yX11_reckons cX11_reckons 11 (some .long) :: ixX11_reckons.map wt
theorem ggX11_reckons_X11_one : GoodIn wsX11_reckons wsX11_one := gi_ (A := ixX11_reckons) (B := ixX11_one) wt854 (by decide +kernel)
theorem gX11_reckons_X11_one : GoodIn wsX11_reckons (va_wsS RX11 249 yX11_one wsX11_one) := g3_ (A := ixX11_reckons) wt852 wt853 wt5 (by decide +kernel) ggX11_reckons_X11_one
theorem ggX11_reckons_X11_pop : GoodIn wsX11_reckons wsX11_pop := gi_ (A := ixX11_reckons) (B := ixX11_pop) wt851 (by decide +kernel)
theorem gX11_reckons_X11_pop : GoodIn wsX11_reckons (wsV RX11 245 RX11 yX11_pop wsX11_pop) := g4_ (A := ixX11_reckons) wt848 wt849 wt850 wt5 (by decide +kernel) ggX11_reckons_X11_pop
theorem ggX11_reckons_X11_push : GoodIn wsX11_reckons wsX11_push := gi_ (A := ixX11_reckons) (B := ixX11_push) wt847 (by decide +kernel)
theorem gX11_reckons_X11_push : GoodIn wsX11_reckons (wsV RX11 241 RX11 yX11_push wsX11_push) := g4_ (A := ixX11_reckons) wt844 wt845 wt846 wt5 (by decide +kernel) ggX11_reckons_X11_push
