def ixX11_value : List Nat := [5, 143, 144, 145, 191, 192, 193, 264, 459, 461, 462, 463, 473, 474, 475, 476, 477, 478, 479, 480, 481, 482, 483, 484, 485, 486, 487, 488, 489, 495, 496, 497, 498, 510, 511, 512, 513, 514, 515, 516, 517, 518, 519, 520, 521, 522, 523, 524, 525, 526, 527, 528, 529, 530, 531, 532, 533, 534, 535, 536, 537, 538, 539, 540, 541, 542, 1499, 1500, 1501, 1502, 1503, 1504, 1505, 1506, 1507, 1508, 1509, 1510, 1511, 1512, 1513, 1514, 1515, 1516, 1517, 1518, 1519, 1520, 1521, 1522, 1523, 1524, 1525, 1526, 1527, 1528, 1529, 1530, 1531, 1532, 1533, 1534, 1535, 1536, 1537, 1538, 1539, 1540]
def wsX11_value : List Cond := .code yX11_value cX11_value 3 (some .boolean) :: ixX11_value.map wt
theorem ggX11_value_X11_fails : GoodIn wsX11_value wsX11_fails := gi_ (A := ixX11_value) (B := ixX11_fails) wt489 (by decide +kernel)
theorem gX11_value_X11_fails : GoodIn wsX11_value (wsV RX11 111 RX11 yX11_fails wsX11_fails) := g4_ (A := ixX11_value) wt486 wt487 wt488 wt5 (by decide +kernel) ggX11_value_X11_fails
theorem ggX11_value_X11_isDigit : GoodIn wsX11_value wsX11_isDigit := gi_ (A := ixX11_value) (B := ixX11_isDigit) wt515 (by decide +kernel)
theorem gX11_value_X11_isDigit : GoodIn wsX11_value (wsV RX11 108 RX11 yX11_isDigit wsX11_isDigit) := g4_ (A := ixX11_value) wt512 wt513 wt514 wt5 (by decide +kernel) ggX11_value_X11_isDigit
theorem ggX11_value_X11_makes : GoodIn wsX11_value wsX11_makes := gi_ (A := ixX11_value) (B := ixX11_makes) wt523 (by decide +kernel)
theorem gX11_value_X11_makes : GoodIn wsX11_value (wsV RX11 168 RX11 yX11_makes wsX11_makes) := g4_ (A := ixX11_value) wt520 wt521 wt522 wt5 (by decide +kernel) ggX11_value_X11_makes
theorem ggX11_value_X11_numberHere : GoodIn wsX11_value wsX11_numberHere := gi_ (A := ixX11_value) (B := ixX11_numberHere) wt519 (by decide +kernel)
theorem gX11_value_X11_numberHere : GoodIn wsX11_value (wsV RX11 165 RX11 yX11_numberHere wsX11_numberHere) := g4_ (A := ixX11_value) wt516 wt517 wt518 wt5 (by decide +kernel) ggX11_value_X11_numberHere
theorem ggX11_value_X11_passWord : GoodIn wsX11_value wsX11_passWord := gi_ (A := ixX11_value) (B := ixX11_passWord) wt498 (by decide +kernel)
theorem gX11_value_X11_passWord : GoodIn wsX11_value (wsV RX11 105 RX11 yX11_passWord wsX11_passWord) := g4_ (A := ixX11_value) wt495 wt496 wt497 wt5 (by decide +kernel) ggX11_value_X11_passWord
theorem ggX11_value_X11_puts : GoodIn wsX11_value wsX11_puts := gi_ (A := ixX11_value) (B := ixX11_puts) wt527 (by decide +kernel)
theorem gX11_value_X11_puts : GoodIn wsX11_value (wsV RX11 160 RX11 yX11_puts wsX11_puts) := g4_ (A := ixX11_value) wt524 wt525 wt526 wt5 (by decide +kernel) ggX11_value_X11_puts
theorem ggX11_value_X11_see : GoodIn wsX11_value wsX11_see := gi_ (A := ixX11_value) (B := ixX11_see) wt477 (by decide +kernel)
theorem gX11_value_X11_see : GoodIn wsX11_value (wsV RX11 93 RX11 yX11_see wsX11_see) := g4_ (A := ixX11_value) wt474 wt475 wt476 wt5 (by decide +kernel) ggX11_value_X11_see
theorem ggX11_value_X11_wordHere : GoodIn wsX11_value wsX11_wordHere := gi_ (A := ixX11_value) (B := ixX11_wordHere) wt531 (by decide +kernel)
theorem gX11_value_X11_wordHere : GoodIn wsX11_value (wsV RX11 171 RX11 yX11_wordHere wsX11_wordHere) := g4_ (A := ixX11_value) wt528 wt529 wt530 wt5 (by decide +kernel) ggX11_value_X11_wordHere
