def ixX11_back : List Nat := [5, 153, 164, 166, 191, 192, 193, 1401, 1409, 1499, 1500, 1501, 1502, 1503, 1504, 1505, 1506, 1507, 1508, 1509, 1510, 1511, 1512, 1513, 1514, 1515, 1516, 1517, 1518, 1519, 1520, 1521, 1522, 1523, 1524, 1525, 1526, 1527, 1528, 1529, 1530, 1531, 1532, 1533, 1534, 1535, 1536, 1537, 1538, 1539, 1540]
def wsX11_back : List Cond := .code yX11_back cX11_back 3 (some .int) :: ixX11_back.map wt
def ixX11_image : List Nat := [5, 153, 164, 166, 191, 192, 193, 1400, 1401, 1499, 1500, 1501, 1502, 1503, 1504, 1505, 1506, 1507, 1508, 1509, 1510, 1511, 1512, 1513, 1514, 1515, 1516, 1517, 1518, 1519, 1520, 1521, 1522, 1523, 1524, 1525, 1526, 1527, 1528, 1529, 1530, 1531, 1532, 1533, 1534, 1535, 1536, 1537, 1538, 1539, 1540]
def wsX11_image : List Cond := .code yX11_image cX11_image 3 (some .int) :: ixX11_image.map wt
theorem ggX11_back_X11_in : GoodIn wsX11_back wsX11_in := gi_ (A := ixX11_back) (B := ixX11_in) wt193 (by decide +kernel)
theorem gX11_back_X11_in : GoodIn wsX11_back (va_wsS RX11 118 yX11_in wsX11_in) := g3_ (A := ixX11_back) wt191 wt192 wt5 (by decide +kernel) ggX11_back_X11_in
theorem ggX11_image_X11_in : GoodIn wsX11_image wsX11_in := gi_ (A := ixX11_image) (B := ixX11_in) wt193 (by decide +kernel)
theorem gX11_image_X11_in : GoodIn wsX11_image (va_wsS RX11 118 yX11_in wsX11_in) := g3_ (A := ixX11_image) wt191 wt192 wt5 (by decide +kernel) ggX11_image_X11_in
