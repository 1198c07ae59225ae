def ixX11_numberHere : List Nat := [5, 143, 191, 192, 193, 264, 461, 462, 473, 474, 475, 476, 477, 486, 487, 488, 489, 512, 513, 514, 515, 519, 1499, 1500, 1501, 1502, 1503, 1504, 1505, 1506, 1507, 1508, 1509, 1510, 1511, 1512, 1513, 1514, 1515, 1516, 1517, 1518, 1519, 1520, 1521, 1522, 1523, 1524, 1525, 1526, 1527, 1528, 1529, 1530, 1531, 1532, 1533, 1534, 1535, 1536, 1537, 1538, 1539, 1540]
def wsX11_numberHere : List Cond := .code yX11_numberHere cX11_numberHere 5 (some .boolean) :: ixX11_numberHere.map wt
theorem ggX11_numberHere_X11_fails : GoodIn wsX11_numberHere wsX11_fails := gi_ (A := ixX11_numberHere) (B := ixX11_fails) wt489 (by decide +kernel)
theorem gX11_numberHere_X11_fails : GoodIn wsX11_numberHere (wsV RX11 111 RX11 yX11_fails wsX11_fails) := g4_ (A := ixX11_numberHere) wt486 wt487 wt488 wt5 (by decide +kernel) ggX11_numberHere_X11_fails
theorem ggX11_numberHere_X11_in : GoodIn wsX11_numberHere wsX11_in := gi_ (A := ixX11_numberHere) (B := ixX11_in) wt193 (by decide +kernel)
theorem gX11_numberHere_X11_in : GoodIn wsX11_numberHere (va_wsS RX11 118 yX11_in wsX11_in) := g3_ (A := ixX11_numberHere) wt191 wt192 wt5 (by decide +kernel) ggX11_numberHere_X11_in
theorem ggX11_numberHere_X11_isDigit : GoodIn wsX11_numberHere wsX11_isDigit := gi_ (A := ixX11_numberHere) (B := ixX11_isDigit) wt515 (by decide +kernel)
theorem gX11_numberHere_X11_isDigit : GoodIn wsX11_numberHere (wsV RX11 108 RX11 yX11_isDigit wsX11_isDigit) := g4_ (A := ixX11_numberHere) wt512 wt513 wt514 wt5 (by decide +kernel) ggX11_numberHere_X11_isDigit
theorem ggX11_numberHere_X11_see : GoodIn wsX11_numberHere wsX11_see := gi_ (A := ixX11_numberHere) (B := ixX11_see) wt477 (by decide +kernel)
theorem gX11_numberHere_X11_see : GoodIn wsX11_numberHere (wsV RX11 93 RX11 yX11_see wsX11_see) := g4_ (A := ixX11_numberHere) wt474 wt475 wt476 wt5 (by decide +kernel) ggX11_numberHere_X11_see
