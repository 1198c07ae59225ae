def ixX11_nights : List Nat := [5, 144, 146, 147, 151, 152, 153, 191, 192, 193, 208, 458, 612, 617, 618, 619, 620, 621, 622, 623, 624, 625, 626, 627, 628, 633, 634, 635, 636, 682, 683, 684, 685, 686, 687, 688, 689, 806, 807, 808, 809, 818, 819, 820, 821, 822, 823, 824, 825, 826, 827, 828, 829, 830, 831, 832, 833, 834, 835, 836, 837, 838, 839, 840, 841, 842, 843, 844, 845, 846, 847, 848, 849, 850, 851, 852, 853, 854, 855, 856, 857, 862, 863, 864, 865, 866, 867, 868, 869, 870, 995, 996, 1004, 1005, 1006, 1007, 1008, 1009, 1010, 1011, 1012, 1013, 1014, 1015, 1180, 1345, 1346, 1499, 1500, 1501, 1502, 1503, 1504, 1505, 1506, 1507, 1508, 1509, 1510, 1511, 1512, 1513, 1514, 1515, 1516, 1517, 1518, 1519, 1520, 1521, 1522, 1523, 1524, 1525, 1526, 1527, 1528, 1529, 1530, 1531, 1532, 1533, 1534, 1535, 1536, 1537, 1538, 1539, 1540]
def wsX11_nights : List Cond := .code yX11_nights cX11_nights 13 (some .int) :: ixX11_nights.map wt
def ixX11_warmer : List Nat := [5, 144, 146, 147, 151, 152, 153, 190, 191, 192, 193, 458, 612, 625, 626, 627, 628, 633, 634, 635, 636, 682, 683, 684, 685, 686, 687, 688, 689, 806, 807, 808, 809, 818, 819, 820, 821, 822, 823, 824, 825, 826, 827, 828, 829, 830, 831, 832, 833, 834, 835, 836, 837, 838, 839, 840, 841, 842, 843, 844, 845, 846, 847, 848, 849, 850, 851, 852, 853, 854, 855, 856, 857, 862, 995, 996, 997, 998, 999, 1000, 1001, 1002, 1003, 1004, 1005, 1006, 1007, 1008, 1009, 1010, 1011, 1012, 1013, 1014, 1015, 1134, 1499, 1500, 1501, 1502, 1503, 1504, 1505, 1506, 1507, 1508, 1509, 1510, 1511, 1512, 1513, 1514, 1515, 1516, 1517, 1518, 1519, 1520, 1521, 1522, 1523, 1524, 1525, 1526, 1527, 1528, 1529, 1530, 1531, 1532, 1533, 1534, 1535, 1536, 1537, 1538, 1539, 1540]
def wsX11_warmer : List Cond := .code yX11_warmer cX11_warmer 9 (some .int) :: ixX11_warmer.map wt
theorem ggX11_nights_X11_bounded : GoodIn wsX11_nights wsX11_bounded := gi_ (A := ixX11_nights) (B := ixX11_bounded) wt857 (by decide +kernel)
theorem gX11_nights_X11_bounded : GoodIn wsX11_nights (va_wsS RX11 322 yX11_bounded wsX11_bounded) := g3_ (A := ixX11_nights) wt855 wt856 wt5 (by decide +kernel) ggX11_nights_X11_bounded
theorem ggX11_nights_X11_draw : GoodIn wsX11_nights wsX11_draw := gi_ (A := ixX11_nights) (B := ixX11_draw) wt866 (by decide +kernel)
theorem gX11_nights_X11_draw : GoodIn wsX11_nights (wsV RX11 351 RX11 yX11_draw wsX11_draw) := g4_ (A := ixX11_nights) wt863 wt864 wt865 wt5 (by decide +kernel) ggX11_nights_X11_draw
theorem ggX11_nights_X11_in : GoodIn wsX11_nights wsX11_in := gi_ (A := ixX11_nights) (B := ixX11_in) wt193 (by decide +kernel)
theorem gX11_nights_X11_in : GoodIn wsX11_nights (va_wsS RX11 118 yX11_in wsX11_in) := g3_ (A := ixX11_nights) wt191 wt192 wt5 (by decide +kernel) ggX11_nights_X11_in
theorem ggX11_nights_X11_isJar : GoodIn wsX11_nights wsX11_isJar := gi_ (A := ixX11_nights) (B := ixX11_isJar) wt620 (by decide +kernel)
theorem gX11_nights_X11_isJar : GoodIn wsX11_nights (wsV RX11 280 RX11 yX11_isJar wsX11_isJar) := g4_ (A := ixX11_nights) wt617 wt618 wt619 wt5 (by decide +kernel) ggX11_nights_X11_isJar
theorem ggX11_nights_X11_isLaw : GoodIn wsX11_nights wsX11_isLaw := gi_ (A := ixX11_nights) (B := ixX11_isLaw) wt809 (by decide +kernel)
theorem gX11_nights_X11_isLaw : GoodIn wsX11_nights (wsV RX11 363 RX11 yX11_isLaw wsX11_isLaw) := g4_ (A := ixX11_nights) wt806 wt807 wt808 wt5 (by decide +kernel) ggX11_nights_X11_isLaw
theorem ggX11_nights_X11_jarOf : GoodIn wsX11_nights wsX11_jarOf := gi_ (A := ixX11_nights) (B := ixX11_jarOf) wt624 (by decide +kernel)
theorem gX11_nights_X11_jarOf : GoodIn wsX11_nights (wsV RX11 283 RX11 yX11_jarOf wsX11_jarOf) := g4_ (A := ixX11_nights) wt621 wt622 wt623 wt5 (by decide +kernel) ggX11_nights_X11_jarOf
theorem ggX11_nights_X11_nodeWords : GoodIn wsX11_nights wsX11_nodeWords := gi_ (A := ixX11_nights) (B := ixX11_nodeWords) wt830 (by decide +kernel)
theorem gX11_nights_X11_nodeWords : GoodIn wsX11_nights (wsV RX11 330 RX11 yX11_nodeWords wsX11_nodeWords) := g4_ (A := ixX11_nights) wt827 wt828 wt829 wt5 (by decide +kernel) ggX11_nights_X11_nodeWords
theorem ggX11_nights_X11_passOf : GoodIn wsX11_nights wsX11_passOf := gi_ (A := ixX11_nights) (B := ixX11_passOf) wt689 (by decide +kernel)
theorem gX11_nights_X11_passOf : GoodIn wsX11_nights (wsV RX11 303 RX11 yX11_passOf wsX11_passOf) := g4_ (A := ixX11_nights) wt686 wt687 wt688 wt5 (by decide +kernel) ggX11_nights_X11_passOf
theorem ggX11_nights_X11_sets : GoodIn wsX11_nights wsX11_sets := gi_ (A := ixX11_nights) (B := ixX11_sets) wt1007 (by decide +kernel)
theorem gX11_nights_X11_sets : GoodIn wsX11_nights (wsV RX11 407 RX11 yX11_sets wsX11_sets) := g4_ (A := ixX11_nights) wt1004 wt1005 wt1006 wt5 (by decide +kernel) ggX11_nights_X11_sets
theorem ggX11_nights_X11_summed : GoodIn wsX11_nights wsX11_summed := gi_ (A := ixX11_nights) (B := ixX11_summed) wt838 (by decide +kernel)
theorem gX11_nights_X11_summed : GoodIn wsX11_nights (wsV RX11 318 RX11 yX11_summed wsX11_summed) := g4_ (A := ixX11_nights) wt835 wt836 wt837 wt5 (by decide +kernel) ggX11_nights_X11_summed
theorem ggX11_nights_X11_travels : GoodIn wsX11_nights wsX11_travels := gi_ (A := ixX11_nights) (B := ixX11_travels) wt1015 (by decide +kernel)
theorem gX11_nights_X11_travels : GoodIn wsX11_nights (wsV RX11 410 RX11 yX11_travels wsX11_travels) := g4_ (A := ixX11_nights) wt1012 wt1013 wt1014 wt5 (by decide +kernel) ggX11_nights_X11_travels
theorem ggX11_warmer_X11_canTry : GoodIn wsX11_warmer wsX11_canTry := gi_ (A := ixX11_warmer) (B := ixX11_canTry) wt1000 (by decide +kernel)
theorem gX11_warmer_X11_canTry : GoodIn wsX11_warmer (wsV RX11 403 RX11 yX11_canTry wsX11_canTry) := g4_ (A := ixX11_warmer) wt997 wt998 wt999 wt5 (by decide +kernel) ggX11_warmer_X11_canTry
theorem ggX11_warmer_X11_in : GoodIn wsX11_warmer wsX11_in := gi_ (A := ixX11_warmer) (B := ixX11_in) wt193 (by decide +kernel)
theorem gX11_warmer_X11_in : GoodIn wsX11_warmer (va_wsS RX11 118 yX11_in wsX11_in) := g3_ (A := ixX11_warmer) wt191 wt192 wt5 (by decide +kernel) ggX11_warmer_X11_in
theorem ggX11_warmer_X11_sets : GoodIn wsX11_warmer wsX11_sets := gi_ (A := ixX11_warmer) (B := ixX11_sets) wt1007 (by decide +kernel)
theorem gX11_warmer_X11_sets : GoodIn wsX11_warmer (wsV RX11 407 RX11 yX11_sets wsX11_sets) := g4_ (A := ixX11_warmer) wt1004 wt1005 wt1006 wt5 (by decide +kernel) ggX11_warmer_X11_sets
theorem ggX11_warmer_X11_travels : GoodIn wsX11_warmer wsX11_travels := gi_ (A := ixX11_warmer) (B := ixX11_travels) wt1015 (by decide +kernel)
theorem gX11_warmer_X11_travels : GoodIn wsX11_warmer (wsV RX11 410 RX11 yX11_travels wsX11_travels) := g4_ (A := ixX11_warmer) wt1012 wt1013 wt1014 wt5 (by decide +kernel) ggX11_warmer_X11_travels
