def ixX11_settles : List Nat := [5, 144, 145, 149, 459, 524, 525, 526, 527, 551, 552, 575, 576, 577, 578, 1499, 1500, 1501, 1502, 1503, 1504, 1505, 1506, 1507, 1508, 1509, 1510, 1511, 1512, 1513, 1514, 1515, 1516, 1517, 1518, 1519, 1520, 1521, 1522, 1523, 1524, 1525, 1526, 1527, 1528, 1529, 1530, 1531, 1532, 1533, 1534, 1535, 1536, 1537, 1538, 1539, 1540]
def wsX11_settles : List Cond := .code yX11_settles cX11_settles 2 none :: ixX11_settles.map wt
theorem ggX11_settles_X11_puts : GoodIn wsX11_settles wsX11_puts := gi_ (A := ixX11_settles) (B := ixX11_puts) wt527 (by decide +kernel)
theorem gX11_settles_X11_puts : GoodIn wsX11_settles (wsV RX11 160 RX11 yX11_puts wsX11_puts) := g4_ (A := ixX11_settles) wt524 wt525 wt526 wt5 (by decide +kernel) ggX11_settles_X11_puts
theorem ggX11_settles_X11_strength : GoodIn wsX11_settles wsX11_strength := gi_ (A := ixX11_settles) (B := ixX11_strength) wt578 (by decide +kernel)
theorem gX11_settles_X11_strength : GoodIn wsX11_settles (va_wsS RX11 156 yX11_strength wsX11_strength) := g3_ (A := ixX11_settles) wt576 wt577 wt5 (by decide +kernel) ggX11_settles_X11_strength
