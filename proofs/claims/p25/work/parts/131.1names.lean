def ixX11_lay : List Nat := [5, 153, 678, 679, 680, 681, 682, 683, 684, 685, 686, 687, 688, 689, 929, 930, 931, 932, 933, 934, 935, 936, 937, 1499, 1500, 1501, 1502, 1503, 1504, 1505, 1506, 1507, 1508, 1509, 1510, 1511, 1512, 1513, 1514, 1515, 1516, 1517, 1518, 1519, 1520, 1521, 1522, 1523, 1524, 1525, 1526, 1527, 1528, 1529, 1530, 1531, 1532, 1533, 1534, 1535, 1536, 1537, 1538, 1539, 1540]
def wsX11_lay : List Cond := .code yX11_lay cX11_lay 3 (some .int) :: ixX11_lay.map wt
theorem ggX11_lay_X11_isOfWay : GoodIn wsX11_lay wsX11_isOfWay := gi_ (A := ixX11_lay) (B := ixX11_isOfWay) wt937 (by decide +kernel)
theorem gX11_lay_X11_isOfWay : GoodIn wsX11_lay (wsV RX11 378 RX11 yX11_isOfWay wsX11_isOfWay) := g4_ (A := ixX11_lay) wt934 wt935 wt936 wt5 (by decide +kernel) ggX11_lay_X11_isOfWay
theorem ggX11_lay_X11_isPass : GoodIn wsX11_lay wsX11_isPass := gi_ (A := ixX11_lay) (B := ixX11_isPass) wt681 (by decide +kernel)
theorem gX11_lay_X11_isPass : GoodIn wsX11_lay (wsV RX11 306 RX11 yX11_isPass wsX11_isPass) := g4_ (A := ixX11_lay) wt678 wt679 wt680 wt5 (by decide +kernel) ggX11_lay_X11_isPass
theorem ggX11_lay_X11_other : GoodIn wsX11_lay wsX11_other := gi_ (A := ixX11_lay) (B := ixX11_other) wt685 (by decide +kernel)
theorem gX11_lay_X11_other : GoodIn wsX11_lay (wsV RX11 309 RX11 yX11_other wsX11_other) := g4_ (A := ixX11_lay) wt682 wt683 wt684 wt5 (by decide +kernel) ggX11_lay_X11_other
theorem ggX11_lay_X11_wayEnd : GoodIn wsX11_lay wsX11_wayEnd := gi_ (A := ixX11_lay) (B := ixX11_wayEnd) wt933 (by decide +kernel)
theorem gX11_lay_X11_wayEnd : GoodIn wsX11_lay (wsV RX11 375 RX11 yX11_wayEnd wsX11_wayEnd) := g4_ (A := ixX11_lay) wt930 wt931 wt932 wt5 (by decide +kernel) ggX11_lay_X11_wayEnd
