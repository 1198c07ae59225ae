def ixX11_isInside : List Nat := [149, 551, 582, 1499, 1500, 1501, 1502, 1503, 1504, 1505, 1506, 1507, 1508, 1509, 1510, 1511, 1512, 1513, 1514, 1515, 1516, 1517, 1518, 1519, 1520, 1521, 1522, 1523, 1524, 1525, 1526, 1527, 1528, 1529, 1530, 1531, 1532, 1533, 1534, 1535, 1536, 1537, 1538, 1539, 1540]
def wsX11_isInside : List Cond := .code yX11_isInside cX11_isInside 2 (some .boolean) :: ixX11_isInside.map wt
def ixX11_makes : List Nat := [5, 462, 463, 486, 487, 488, 489, 523, 1499, 1500, 1501, 1502, 1503, 1504, 1505, 1506, 1507, 1508, 1509, 1510, 1511, 1512, 1513, 1514, 1515, 1516, 1517, 1518, 1519, 1520, 1521, 1522, 1523, 1524, 1525, 1526, 1527, 1528, 1529, 1530, 1531, 1532, 1533, 1534, 1535, 1536, 1537, 1538, 1539, 1540]
def wsX11_makes : List Cond := .code yX11_makes cX11_makes 2 (some .boolean) :: ixX11_makes.map wt
def ixX11_opens : List Nat := [5, 149, 461, 462, 486, 487, 488, 489, 551, 552, 563, 1499, 1500, 1501, 1502, 1503, 1504, 1505, 1506, 1507, 1508, 1509, 1510, 1511, 1512, 1513, 1514, 1515, 1516, 1517, 1518, 1519, 1520, 1521, 1522, 1523, 1524, 1525, 1526, 1527, 1528, 1529, 1530, 1531, 1532, 1533, 1534, 1535, 1536, 1537, 1538, 1539, 1540]
def wsX11_opens : List Cond := .code yX11_opens cX11_opens 2 (some .boolean) :: ixX11_opens.map wt
def ixX11_puts : List Nat := [144, 145, 459, 527, 1499, 1500, 1501, 1502, 1503, 1504, 1505, 1506, 1507, 1508, 1509, 1510, 1511, 1512, 1513, 1514, 1515, 1516, 1517, 1518, 1519, 1520, 1521, 1522, 1523, 1524, 1525, 1526, 1527, 1528, 1529, 1530, 1531, 1532, 1533, 1534, 1535, 1536, 1537, 1538, 1539, 1540]
def wsX11_puts : List Cond := .code yX11_puts cX11_puts 3 none :: ixX11_puts.map wt
def ixX11_strength : List Nat := [578]
def wsX11_strength : List Cond := .code yX11_strength cX11_strength 1 (some .int) :: ixX11_strength.map wt
theorem ggX11_makes_X11_fails : GoodIn wsX11_makes wsX11_fails := gi_ (A := ixX11_makes) (B := ixX11_fails) wt489 (by decide +kernel)
theorem gX11_makes_X11_fails : GoodIn wsX11_makes (wsV RX11 111 RX11 yX11_fails wsX11_fails) := g4_ (A := ixX11_makes) wt486 wt487 wt488 wt5 (by decide +kernel) ggX11_makes_X11_fails
theorem ggX11_opens_X11_fails : GoodIn wsX11_opens wsX11_fails := gi_ (A := ixX11_opens) (B := ixX11_fails) wt489 (by decide +kernel)
theorem gX11_opens_X11_fails : GoodIn wsX11_opens (wsV RX11 111 RX11 yX11_fails wsX11_fails) := g4_ (A := ixX11_opens) wt486 wt487 wt488 wt5 (by decide +kernel) ggX11_opens_X11_fails
