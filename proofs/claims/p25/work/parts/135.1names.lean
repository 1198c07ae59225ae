def ixX11_canServe : List Nat := [5, 163, 1285, 1286, 1287, 1288, 1499, 1500, 1501, 1502, 1503, 1504, 1505, 1506, 1507, 1508, 1509, 1510, 1511, 1512, 1513, 1514, 1515, 1516, 1517, 1518, 1519, 1520, 1521, 1522, 1523, 1524, 1525, 1526, 1527, 1528, 1529, 1530, 1531, 1532, 1533, 1534, 1535, 1536, 1537, 1538, 1539, 1540]
def wsX11_canServe : List Cond := .code yX11_canServe cX11_canServe 6 (some .boolean) :: ixX11_canServe.map wt
theorem ggX11_canServe_X11_bits : GoodIn wsX11_canServe wsX11_bits := gi_ (A := ixX11_canServe) (B := ixX11_bits) wt1288 (by decide +kernel)
theorem gX11_canServe_X11_bits : GoodIn wsX11_canServe (va_wsS RX11 450 yX11_bits wsX11_bits) := g3_ (A := ixX11_canServe) wt1286 wt1287 wt5 (by decide +kernel) ggX11_canServe_X11_bits
