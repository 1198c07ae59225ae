def ixX11_isWord : List Nat := [5, 143, 264, 461, 474, 475, 476, 477, 481, 482, 483, 484, 485, 1499, 1500, 1501, 1502, 1503, 1504, 1505, 1506, 1507, 1508, 1509, 1510, 1511, 1512, 1513, 1514, 1515, 1516, 1517, 1518, 1519, 1520, 1521, 1522, 1523, 1524, 1525, 1526, 1527, 1528, 1529, 1530, 1531, 1532, 1533, 1534, 1535, 1536, 1537, 1538, 1539, 1540]
def wsX11_isWord : List Cond := .code yX11_isWord cX11_isWord 6 (some .boolean) :: ixX11_isWord.map wt
def ixX11_passWord : List Nat := [5, 143, 264, 461, 482, 483, 484, 485, 498, 1499, 1500, 1501, 1502, 1503, 1504, 1505, 1506, 1507, 1508, 1509, 1510, 1511, 1512, 1513, 1514, 1515, 1516, 1517, 1518, 1519, 1520, 1521, 1522, 1523, 1524, 1525, 1526, 1527, 1528, 1529, 1530, 1531, 1532, 1533, 1534, 1535, 1536, 1537, 1538, 1539, 1540]
def wsX11_passWord : List Cond := .code yX11_passWord cX11_passWord 1 none :: ixX11_passWord.map wt
def ixX11_takesWord : List Nat := [5, 143, 264, 461, 474, 475, 476, 477, 478, 479, 480, 481, 482, 483, 484, 485, 495, 496, 497, 498, 546, 1499, 1500, 1501, 1502, 1503, 1504, 1505, 1506, 1507, 1508, 1509, 1510, 1511, 1512, 1513, 1514, 1515, 1516, 1517, 1518, 1519, 1520, 1521, 1522, 1523, 1524, 1525, 1526, 1527, 1528, 1529, 1530, 1531, 1532, 1533, 1534, 1535, 1536, 1537, 1538, 1539, 1540]
def wsX11_takesWord : List Cond := .code yX11_takesWord cX11_takesWord 3 (some .boolean) :: ixX11_takesWord.map wt
theorem ggX11_isWord_X11_isLetter : GoodIn wsX11_isWord wsX11_isLetter := gi_ (A := ixX11_isWord) (B := ixX11_isLetter) wt485 (by decide +kernel)
theorem gX11_isWord_X11_isLetter : GoodIn wsX11_isWord (wsV RX11 97 RX11 yX11_isLetter wsX11_isLetter) := g4_ (A := ixX11_isWord) wt482 wt483 wt484 wt5 (by decide +kernel) ggX11_isWord_X11_isLetter
theorem ggX11_isWord_X11_see : GoodIn wsX11_isWord wsX11_see := gi_ (A := ixX11_isWord) (B := ixX11_see) wt477 (by decide +kernel)
theorem gX11_isWord_X11_see : GoodIn wsX11_isWord (wsV RX11 93 RX11 yX11_see wsX11_see) := g4_ (A := ixX11_isWord) wt474 wt475 wt476 wt5 (by decide +kernel) ggX11_isWord_X11_see
theorem ggX11_passWord_X11_isLetter : GoodIn wsX11_passWord wsX11_isLetter := gi_ (A := ixX11_passWord) (B := ixX11_isLetter) wt485 (by decide +kernel)
theorem gX11_passWord_X11_isLetter : GoodIn wsX11_passWord (wsV RX11 97 RX11 yX11_isLetter wsX11_isLetter) := g4_ (A := ixX11_passWord) wt482 wt483 wt484 wt5 (by decide +kernel) ggX11_passWord_X11_isLetter
theorem ggX11_takesWord_X11_isWord : GoodIn wsX11_takesWord wsX11_isWord := gi_ (A := ixX11_takesWord) (B := ixX11_isWord) wt481 (by decide +kernel)
theorem gX11_takesWord_X11_isWord : GoodIn wsX11_takesWord (wsV RX11 101 RX11 yX11_isWord wsX11_isWord) := g4_ (A := ixX11_takesWord) wt478 wt479 wt480 wt5 (by decide +kernel) ggX11_takesWord_X11_isWord
theorem ggX11_takesWord_X11_passWord : GoodIn wsX11_takesWord wsX11_passWord := gi_ (A := ixX11_takesWord) (B := ixX11_passWord) wt498 (by decide +kernel)
theorem gX11_takesWord_X11_passWord : GoodIn wsX11_takesWord (wsV RX11 105 RX11 yX11_passWord wsX11_passWord) := g4_ (A := ixX11_takesWord) wt495 wt496 wt497 wt5 (by decide +kernel) ggX11_takesWord_X11_passWord
