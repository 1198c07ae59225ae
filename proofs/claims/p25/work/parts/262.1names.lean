def ixX11_closes : List Nat := [5, 143, 144, 145, 149, 264, 459, 461, 474, 475, 476, 477, 524, 525, 526, 527, 551, 552, 571, 572, 573, 574, 575, 576, 577, 578, 579, 580, 581, 582, 1499, 1500, 1501, 1502, 1503, 1504, 1505, 1506, 1507, 1508, 1509, 1510, 1511, 1512, 1513, 1514, 1515, 1516, 1517, 1518, 1519, 1520, 1521, 1522, 1523, 1524, 1525, 1526, 1527, 1528, 1529, 1530, 1531, 1532, 1533, 1534, 1535, 1536, 1537, 1538, 1539, 1540]
def wsX11_closes : List Cond := .code yX11_closes cX11_closes 1 none :: ixX11_closes.map wt
theorem ggX11_closes_X11_isInside : GoodIn wsX11_closes wsX11_isInside := gi_ (A := ixX11_closes) (B := ixX11_isInside) wt582 (by decide +kernel)
theorem gX11_closes_X11_isInside : GoodIn wsX11_closes (wsV RX11 195 RX11 yX11_isInside wsX11_isInside) := g4_ (A := ixX11_closes) wt579 wt580 wt581 wt5 (by decide +kernel) ggX11_closes_X11_isInside
theorem ggX11_closes_X11_see : GoodIn wsX11_closes wsX11_see := gi_ (A := ixX11_closes) (B := ixX11_see) wt477 (by decide +kernel)
theorem gX11_closes_X11_see : GoodIn wsX11_closes (wsV RX11 93 RX11 yX11_see wsX11_see) := g4_ (A := ixX11_closes) wt474 wt475 wt476 wt5 (by decide +kernel) ggX11_closes_X11_see
theorem ggX11_closes_X11_settles : GoodIn wsX11_closes wsX11_settles := gi_ (A := ixX11_closes) (B := ixX11_settles) wt575 (by decide +kernel)
theorem gX11_closes_X11_settles : GoodIn wsX11_closes (wsV RX11 192 RX11 yX11_settles wsX11_settles) := g4_ (A := ixX11_closes) wt572 wt573 wt574 wt5 (by decide +kernel) ggX11_closes_X11_settles
