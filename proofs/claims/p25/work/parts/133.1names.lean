def ixX11_count : List Nat := [5, 153, 264, 458, 625, 626, 627, 628, 1392, 1499, 1500, 1501, 1502, 1503, 1504, 1505, 1506, 1507, 1508, 1509, 1510, 1511, 1512, 1513, 1514, 1515, 1516, 1517, 1518, 1519, 1520, 1521, 1522, 1523, 1524, 1525, 1526, 1527, 1528, 1529, 1530, 1531, 1532, 1533, 1534, 1535, 1536, 1537, 1538, 1539, 1540]
def wsX11_count : List Cond := .code yX11_count cX11_count 2 (some .int) :: ixX11_count.map wt
theorem ggX11_count_X11_monthAt : GoodIn wsX11_count wsX11_monthAt := gi_ (A := ixX11_count) (B := ixX11_monthAt) wt628 (by decide +kernel)
theorem gX11_count_X11_monthAt : GoodIn wsX11_count (wsV RX11 291 RX11 yX11_monthAt wsX11_monthAt) := g4_ (A := ixX11_count) wt625 wt626 wt627 wt5 (by decide +kernel) ggX11_count_X11_monthAt
