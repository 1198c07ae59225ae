def ixX11_tested : List Nat := [5, 143, 144, 145, 149, 191, 192, 193, 264, 459, 461, 462, 463, 473, 474, 475, 476, 477, 478, 479, 480, 481, 482, 483, 484, 485, 486, 487, 488, 489, 495, 496, 497, 498, 499, 500, 501, 502, 503, 504, 505, 506, 507, 508, 509, 510, 511, 512, 513, 514, 515, 516, 517, 518, 519, 520, 521, 522, 523, 524, 525, 526, 527, 528, 529, 530, 531, 532, 533, 534, 535, 536, 537, 538, 539, 540, 541, 542, 550, 551, 552, 553, 554, 555, 556, 557, 558, 559, 560, 561, 562, 563, 564, 565, 566, 567, 568, 569, 570, 571, 572, 573, 574, 575, 576, 577, 578, 579, 580, 581, 582, 1499, 1500, 1501, 1502, 1503, 1504, 1505, 1506, 1507, 1508, 1509, 1510, 1511, 1512, 1513, 1514, 1515, 1516, 1517, 1518, 1519, 1520, 1521, 1522, 1523, 1524, 1525, 1526, 1527, 1528, 1529, 1530, 1531, 1532, 1533, 1534, 1535, 1536, 1537, 1538, 1539, 1540]
def wsX11_tested : List Cond := .code yX11_tested cX11_tested 3 (some .boolean) :: ixX11_tested.map wt
theorem ggX11_tested_X11_closes : GoodIn wsX11_tested wsX11_closes := gi_ (A := ixX11_tested) (B := ixX11_closes) wt571 (by decide +kernel)
theorem gX11_tested_X11_closes : GoodIn wsX11_tested (wsV RX11 201 RX11 yX11_closes wsX11_closes) := g4_ (A := ixX11_tested) wt568 wt569 wt570 wt5 (by decide +kernel) ggX11_tested_X11_closes
theorem ggX11_tested_X11_fact : GoodIn wsX11_tested wsX11_fact := gi_ (A := ixX11_tested) (B := ixX11_fact) wt558 (by decide +kernel)
theorem gX11_tested_X11_fact : GoodIn wsX11_tested (wsV RX11 198 RX11 yX11_fact wsX11_fact) := g4_ (A := ixX11_tested) wt555 wt556 wt557 wt5 (by decide +kernel) ggX11_tested_X11_fact
theorem ggX11_tested_X11_fails : GoodIn wsX11_tested wsX11_fails := gi_ (A := ixX11_tested) (B := ixX11_fails) wt489 (by decide +kernel)
theorem gX11_tested_X11_fails : GoodIn wsX11_tested (wsV RX11 111 RX11 yX11_fails wsX11_fails) := g4_ (A := ixX11_tested) wt486 wt487 wt488 wt5 (by decide +kernel) ggX11_tested_X11_fails
theorem ggX11_tested_X11_isInside : GoodIn wsX11_tested wsX11_isInside := gi_ (A := ixX11_tested) (B := ixX11_isInside) wt582 (by decide +kernel)
theorem gX11_tested_X11_isInside : GoodIn wsX11_tested (wsV RX11 195 RX11 yX11_isInside wsX11_isInside) := g4_ (A := ixX11_tested) wt579 wt580 wt581 wt5 (by decide +kernel) ggX11_tested_X11_isInside
theorem ggX11_tested_X11_isWord : GoodIn wsX11_tested wsX11_isWord := gi_ (A := ixX11_tested) (B := ixX11_isWord) wt481 (by decide +kernel)
theorem gX11_tested_X11_isWord : GoodIn wsX11_tested (wsV RX11 101 RX11 yX11_isWord wsX11_isWord) := g4_ (A := ixX11_tested) wt478 wt479 wt480 wt5 (by decide +kernel) ggX11_tested_X11_isWord
theorem ggX11_tested_X11_passWord : GoodIn wsX11_tested wsX11_passWord := gi_ (A := ixX11_tested) (B := ixX11_passWord) wt498 (by decide +kernel)
theorem gX11_tested_X11_passWord : GoodIn wsX11_tested (wsV RX11 105 RX11 yX11_passWord wsX11_passWord) := g4_ (A := ixX11_tested) wt495 wt496 wt497 wt5 (by decide +kernel) ggX11_tested_X11_passWord
theorem ggX11_tested_X11_see : GoodIn wsX11_tested wsX11_see := gi_ (A := ixX11_tested) (B := ixX11_see) wt477 (by decide +kernel)
theorem gX11_tested_X11_see : GoodIn wsX11_tested (wsV RX11 93 RX11 yX11_see wsX11_see) := g4_ (A := ixX11_tested) wt474 wt475 wt476 wt5 (by decide +kernel) ggX11_tested_X11_see
theorem ggX11_tested_X11_settles : GoodIn wsX11_tested wsX11_settles := gi_ (A := ixX11_tested) (B := ixX11_settles) wt575 (by decide +kernel)
theorem gX11_tested_X11_settles : GoodIn wsX11_tested (wsV RX11 192 RX11 yX11_settles wsX11_settles) := g4_ (A := ixX11_tested) wt572 wt573 wt574 wt5 (by decide +kernel) ggX11_tested_X11_settles
theorem ggX11_tested_X11_strength : GoodIn wsX11_tested wsX11_strength := gi_ (A := ixX11_tested) (B := ixX11_strength) wt578 (by decide +kernel)
theorem gX11_tested_X11_strength : GoodIn wsX11_tested (va_wsS RX11 156 yX11_strength wsX11_strength) := g3_ (A := ixX11_tested) wt576 wt577 wt5 (by decide +kernel) ggX11_tested_X11_strength
