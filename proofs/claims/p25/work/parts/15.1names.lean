def ixX11_bursts : List Nat := [5, 148, 153, 621, 622, 623, 624, 871, 872, 873, 874, 878, 1499, 1500, 1501, 1502, 1503, 1504, 1505, 1506, 1507, 1508, 1509, 1510, 1511, 1512, 1513, 1514, 1515, 1516, 1517, 1518, 1519, 1520, 1521, 1522, 1523, 1524, 1525, 1526, 1527, 1528, 1529, 1530, 1531, 1532, 1533, 1534, 1535, 1536, 1537, 1538, 1539, 1540]
def wsX11_bursts : List Cond := .code yX11_bursts cX11_bursts 9 none :: ixX11_bursts.map wt
def ixX11_comes : List Nat := [5, 144, 146, 147, 148, 151, 152, 153, 208, 621, 622, 623, 624, 625, 626, 627, 628, 633, 634, 635, 636, 651, 652, 653, 654, 655, 686, 687, 688, 689, 823, 824, 825, 826, 827, 828, 829, 830, 835, 836, 837, 838, 839, 840, 841, 842, 843, 844, 845, 846, 847, 848, 849, 850, 851, 852, 853, 854, 855, 856, 857, 861, 862, 863, 864, 865, 866, 867, 868, 869, 870, 871, 872, 873, 874, 875, 876, 877, 878, 1499, 1500, 1501, 1502, 1503, 1504, 1505, 1506, 1507, 1508, 1509, 1510, 1511, 1512, 1513, 1514, 1515, 1516, 1517, 1518, 1519, 1520, 1521, 1522, 1523, 1524, 1525, 1526, 1527, 1528, 1529, 1530, 1531, 1532, 1533, 1534, 1535, 1536, 1537, 1538, 1539, 1540]
def wsX11_comes : List Cond := .code yX11_comes cX11_comes 7 none :: ixX11_comes.map wt
def ixX11_hour : List Nat := [5, 144, 146, 147, 148, 151, 152, 153, 208, 621, 622, 623, 624, 625, 626, 627, 628, 633, 634, 635, 636, 651, 652, 653, 654, 655, 682, 683, 684, 685, 686, 687, 688, 689, 813, 814, 815, 816, 817, 818, 819, 820, 821, 822, 823, 824, 825, 826, 827, 828, 829, 830, 831, 832, 833, 834, 835, 836, 837, 838, 839, 840, 841, 842, 843, 844, 845, 846, 847, 848, 849, 850, 851, 852, 853, 854, 855, 856, 857, 858, 859, 860, 861, 862, 863, 864, 865, 866, 867, 868, 869, 870, 871, 872, 873, 874, 875, 876, 877, 878, 1499, 1500, 1501, 1502, 1503, 1504, 1505, 1506, 1507, 1508, 1509, 1510, 1511, 1512, 1513, 1514, 1515, 1516, 1517, 1518, 1519, 1520, 1521, 1522, 1523, 1524, 1525, 1526, 1527, 1528, 1529, 1530, 1531, 1532, 1533, 1534, 1535, 1536, 1537, 1538, 1539, 1540]
def wsX11_hour : List Cond := .code yX11_hour cX11_hour 4 none :: ixX11_hour.map wt
def ixX11_melt : List Nat := [5, 144, 146, 147, 151, 152, 153, 458, 617, 618, 619, 620, 621, 622, 623, 624, 625, 626, 627, 628, 633, 634, 635, 636, 682, 683, 684, 685, 686, 687, 688, 689, 806, 807, 808, 809, 814, 815, 816, 817, 818, 819, 820, 821, 822, 823, 824, 825, 826, 827, 828, 829, 830, 831, 832, 833, 834, 835, 836, 837, 838, 839, 840, 841, 842, 843, 844, 845, 846, 847, 848, 849, 850, 851, 852, 853, 854, 855, 856, 857, 910, 1499, 1500, 1501, 1502, 1503, 1504, 1505, 1506, 1507, 1508, 1509, 1510, 1511, 1512, 1513, 1514, 1515, 1516, 1517, 1518, 1519, 1520, 1521, 1522, 1523, 1524, 1525, 1526, 1527, 1528, 1529, 1530, 1531, 1532, 1533, 1534, 1535, 1536, 1537, 1538, 1539, 1540]
def wsX11_melt : List Cond := .code yX11_melt cX11_melt 3 (some .int) :: ixX11_melt.map wt
def ixX11_meltBy : List Nat := [5, 144, 146, 147, 151, 152, 834, 835, 836, 837, 838, 839, 840, 841, 842, 843, 844, 845, 846, 847, 848, 849, 850, 851, 852, 853, 854, 855, 856, 857, 1499, 1500, 1501, 1502, 1503, 1504, 1505, 1506, 1507, 1508, 1509, 1510, 1511, 1512, 1513, 1514, 1515, 1516, 1517, 1518, 1519, 1520, 1521, 1522, 1523, 1524, 1525, 1526, 1527, 1528, 1529, 1530, 1531, 1532, 1533, 1534, 1535, 1536, 1537, 1538, 1539, 1540]
def wsX11_meltBy : List Cond := .code yX11_meltBy cX11_meltBy 4 (some .int) :: ixX11_meltBy.map wt
def ixX11_meltOf : List Nat := [5, 144, 146, 147, 151, 152, 153, 621, 622, 623, 624, 625, 626, 627, 628, 633, 634, 635, 636, 682, 683, 684, 685, 686, 687, 688, 689, 817, 818, 819, 820, 821, 822, 823, 824, 825, 826, 827, 828, 829, 830, 831, 832, 833, 834, 835, 836, 837, 838, 839, 840, 841, 842, 843, 844, 845, 846, 847, 848, 849, 850, 851, 852, 853, 854, 855, 856, 857, 1499, 1500, 1501, 1502, 1503, 1504, 1505, 1506, 1507, 1508, 1509, 1510, 1511, 1512, 1513, 1514, 1515, 1516, 1517, 1518, 1519, 1520, 1521, 1522, 1523, 1524, 1525, 1526, 1527, 1528, 1529, 1530, 1531, 1532, 1533, 1534, 1535, 1536, 1537, 1538, 1539, 1540]
def wsX11_meltOf : List Cond := .code yX11_meltOf cX11_meltOf 3 (some .int) :: ixX11_meltOf.map wt
def ixX11_summed : List Nat := [5, 144, 146, 147, 151, 152, 838, 839, 840, 841, 842, 843, 844, 845, 846, 847, 848, 849, 850, 851, 852, 853, 854, 1499, 1500, 1501, 1502, 1503, 1504, 1505, 1506, 1507, 1508, 1509, 1510, 1511, 1512, 1513, 1514, 1515, 1516, 1517, 1518, 1519, 1520, 1521, 1522, 1523, 1524, 1525, 1526, 1527, 1528, 1529, 1530, 1531, 1532, 1533, 1534, 1535, 1536, 1537, 1538, 1539, 1540]
def wsX11_summed : List Cond := .code yX11_summed cX11_summed 5 (some .long) :: ixX11_summed.map wt
def ixX11_tick : List Nat := [5, 144, 146, 147, 148, 151, 152, 153, 191, 192, 193, 208, 458, 511, 621, 622, 623, 624, 625, 626, 627, 628, 633, 634, 635, 636, 651, 652, 653, 654, 655, 682, 683, 684, 685, 686, 687, 688, 689, 804, 805, 806, 807, 808, 809, 810, 811, 812, 813, 814, 815, 816, 817, 818, 819, 820, 821, 822, 823, 824, 825, 826, 827, 828, 829, 830, 831, 832, 833, 834, 835, 836, 837, 838, 839, 840, 841, 842, 843, 844, 845, 846, 847, 848, 849, 850, 851, 852, 853, 854, 855, 856, 857, 858, 859, 860, 861, 862, 863, 864, 865, 866, 867, 868, 869, 870, 871, 872, 873, 874, 875, 876, 877, 878, 1499, 1500, 1501, 1502, 1503, 1504, 1505, 1506, 1507, 1508, 1509, 1510, 1511, 1512, 1513, 1514, 1515, 1516, 1517, 1518, 1519, 1520, 1521, 1522, 1523, 1524, 1525, 1526, 1527, 1528, 1529, 1530, 1531, 1532, 1533, 1534, 1535, 1536, 1537, 1538, 1539, 1540]
def wsX11_tick : List Cond := .code yX11_tick cX11_tick 4 (some .int) :: ixX11_tick.map wt
theorem ggX11_bursts_X11_goesFor : GoodIn wsX11_bursts wsX11_goesFor := gi_ (A := ixX11_bursts) (B := ixX11_goesFor) wt874 (by decide +kernel)
theorem gX11_bursts_X11_goesFor : GoodIn wsX11_bursts (wsV RX11 346 RX11 yX11_goesFor wsX11_goesFor) := g4_ (A := ixX11_bursts) wt871 wt872 wt873 wt5 (by decide +kernel) ggX11_bursts_X11_goesFor
theorem ggX11_bursts_X11_jarOf : GoodIn wsX11_bursts wsX11_jarOf := gi_ (A := ixX11_bursts) (B := ixX11_jarOf) wt624 (by decide +kernel)
theorem gX11_bursts_X11_jarOf : GoodIn wsX11_bursts (wsV RX11 283 RX11 yX11_jarOf wsX11_jarOf) := g4_ (A := ixX11_bursts) wt621 wt622 wt623 wt5 (by decide +kernel) ggX11_bursts_X11_jarOf
theorem ggX11_comes_X11_bounded : GoodIn wsX11_comes wsX11_bounded := gi_ (A := ixX11_comes) (B := ixX11_bounded) wt857 (by decide +kernel)
theorem gX11_comes_X11_bounded : GoodIn wsX11_comes (va_wsS RX11 322 yX11_bounded wsX11_bounded) := g3_ (A := ixX11_comes) wt855 wt856 wt5 (by decide +kernel) ggX11_comes_X11_bounded
theorem ggX11_comes_X11_bursts : GoodIn wsX11_comes wsX11_bursts := gi_ (A := ixX11_comes) (B := ixX11_bursts) wt878 (by decide +kernel)
theorem gX11_comes_X11_bursts : GoodIn wsX11_comes (wsV RX11 354 RX11 yX11_bursts wsX11_bursts) := g4_ (A := ixX11_comes) wt875 wt876 wt877 wt5 (by decide +kernel) ggX11_comes_X11_bursts
theorem ggX11_comes_X11_draw : GoodIn wsX11_comes wsX11_draw := gi_ (A := ixX11_comes) (B := ixX11_draw) wt866 (by decide +kernel)
theorem gX11_comes_X11_draw : GoodIn wsX11_comes (wsV RX11 351 RX11 yX11_draw wsX11_draw) := g4_ (A := ixX11_comes) wt863 wt864 wt865 wt5 (by decide +kernel) ggX11_comes_X11_draw
theorem ggX11_comes_X11_goesFor : GoodIn wsX11_comes wsX11_goesFor := gi_ (A := ixX11_comes) (B := ixX11_goesFor) wt874 (by decide +kernel)
theorem gX11_comes_X11_goesFor : GoodIn wsX11_comes (wsV RX11 346 RX11 yX11_goesFor wsX11_goesFor) := g4_ (A := ixX11_comes) wt871 wt872 wt873 wt5 (by decide +kernel) ggX11_comes_X11_goesFor
theorem ggX11_comes_X11_nodeWords : GoodIn wsX11_comes wsX11_nodeWords := gi_ (A := ixX11_comes) (B := ixX11_nodeWords) wt830 (by decide +kernel)
theorem gX11_comes_X11_nodeWords : GoodIn wsX11_comes (wsV RX11 330 RX11 yX11_nodeWords wsX11_nodeWords) := g4_ (A := ixX11_comes) wt827 wt828 wt829 wt5 (by decide +kernel) ggX11_comes_X11_nodeWords
theorem ggX11_comes_X11_passOf : GoodIn wsX11_comes wsX11_passOf := gi_ (A := ixX11_comes) (B := ixX11_passOf) wt689 (by decide +kernel)
theorem gX11_comes_X11_passOf : GoodIn wsX11_comes (wsV RX11 303 RX11 yX11_passOf wsX11_passOf) := g4_ (A := ixX11_comes) wt686 wt687 wt688 wt5 (by decide +kernel) ggX11_comes_X11_passOf
theorem ggX11_comes_X11_stores : GoodIn wsX11_comes wsX11_stores := gi_ (A := ixX11_comes) (B := ixX11_stores) wt654 (by decide +kernel)
theorem gX11_comes_X11_stores : GoodIn wsX11_comes (wsV RX11 298 RX11 yX11_stores wsX11_stores) := g4_ (A := ixX11_comes) wt651 wt652 wt653 wt5 (by decide +kernel) ggX11_comes_X11_stores
theorem ggX11_comes_X11_summed : GoodIn wsX11_comes wsX11_summed := gi_ (A := ixX11_comes) (B := ixX11_summed) wt838 (by decide +kernel)
theorem gX11_comes_X11_summed : GoodIn wsX11_comes (wsV RX11 318 RX11 yX11_summed wsX11_summed) := g4_ (A := ixX11_comes) wt835 wt836 wt837 wt5 (by decide +kernel) ggX11_comes_X11_summed
theorem ggX11_hour_X11_bounded : GoodIn wsX11_hour wsX11_bounded := gi_ (A := ixX11_hour) (B := ixX11_bounded) wt857 (by decide +kernel)
theorem gX11_hour_X11_bounded : GoodIn wsX11_hour (va_wsS RX11 322 yX11_bounded wsX11_bounded) := g3_ (A := ixX11_hour) wt855 wt856 wt5 (by decide +kernel) ggX11_hour_X11_bounded
theorem ggX11_hour_X11_comes : GoodIn wsX11_hour wsX11_comes := gi_ (A := ixX11_hour) (B := ixX11_comes) wt861 (by decide +kernel)
theorem gX11_hour_X11_comes : GoodIn wsX11_hour (wsV RX11 360 RX11 yX11_comes wsX11_comes) := g4_ (A := ixX11_hour) wt858 wt859 wt860 wt5 (by decide +kernel) ggX11_hour_X11_comes
theorem ggX11_hour_X11_jarOf : GoodIn wsX11_hour wsX11_jarOf := gi_ (A := ixX11_hour) (B := ixX11_jarOf) wt624 (by decide +kernel)
theorem gX11_hour_X11_jarOf : GoodIn wsX11_hour (wsV RX11 283 RX11 yX11_jarOf wsX11_jarOf) := g4_ (A := ixX11_hour) wt621 wt622 wt623 wt5 (by decide +kernel) ggX11_hour_X11_jarOf
theorem ggX11_hour_X11_meltOf : GoodIn wsX11_hour wsX11_meltOf := gi_ (A := ixX11_hour) (B := ixX11_meltOf) wt817 (by decide +kernel)
theorem gX11_hour_X11_meltOf : GoodIn wsX11_hour (wsV RX11 357 RX11 yX11_meltOf wsX11_meltOf) := g4_ (A := ixX11_hour) wt814 wt815 wt816 wt5 (by decide +kernel) ggX11_hour_X11_meltOf
theorem ggX11_hour_X11_nodeOf : GoodIn wsX11_hour wsX11_nodeOf := gi_ (A := ixX11_hour) (B := ixX11_nodeOf) wt636 (by decide +kernel)
theorem gX11_hour_X11_nodeOf : GoodIn wsX11_hour (wsV RX11 257 RX11 yX11_nodeOf wsX11_nodeOf) := g4_ (A := ixX11_hour) wt633 wt634 wt635 wt5 (by decide +kernel) ggX11_hour_X11_nodeOf
theorem ggX11_hour_X11_nodeWords : GoodIn wsX11_hour wsX11_nodeWords := gi_ (A := ixX11_hour) (B := ixX11_nodeWords) wt830 (by decide +kernel)
theorem gX11_hour_X11_nodeWords : GoodIn wsX11_hour (wsV RX11 330 RX11 yX11_nodeWords wsX11_nodeWords) := g4_ (A := ixX11_hour) wt827 wt828 wt829 wt5 (by decide +kernel) ggX11_hour_X11_nodeWords
theorem ggX11_hour_X11_passOf : GoodIn wsX11_hour wsX11_passOf := gi_ (A := ixX11_hour) (B := ixX11_passOf) wt689 (by decide +kernel)
theorem gX11_hour_X11_passOf : GoodIn wsX11_hour (wsV RX11 303 RX11 yX11_passOf wsX11_passOf) := g4_ (A := ixX11_hour) wt686 wt687 wt688 wt5 (by decide +kernel) ggX11_hour_X11_passOf
theorem ggX11_hour_X11_summed : GoodIn wsX11_hour wsX11_summed := gi_ (A := ixX11_hour) (B := ixX11_summed) wt838 (by decide +kernel)
theorem gX11_hour_X11_summed : GoodIn wsX11_hour (wsV RX11 318 RX11 yX11_summed wsX11_summed) := g4_ (A := ixX11_hour) wt835 wt836 wt837 wt5 (by decide +kernel) ggX11_hour_X11_summed
theorem ggX11_meltBy_X11_bounded : GoodIn wsX11_meltBy wsX11_bounded := gi_ (A := ixX11_meltBy) (B := ixX11_bounded) wt857 (by decide +kernel)
theorem gX11_meltBy_X11_bounded : GoodIn wsX11_meltBy (va_wsS RX11 322 yX11_bounded wsX11_bounded) := g3_ (A := ixX11_meltBy) wt855 wt856 wt5 (by decide +kernel) ggX11_meltBy_X11_bounded
theorem ggX11_meltBy_X11_summed : GoodIn wsX11_meltBy wsX11_summed := gi_ (A := ixX11_meltBy) (B := ixX11_summed) wt838 (by decide +kernel)
theorem gX11_meltBy_X11_summed : GoodIn wsX11_meltBy (wsV RX11 318 RX11 yX11_summed wsX11_summed) := g4_ (A := ixX11_meltBy) wt835 wt836 wt837 wt5 (by decide +kernel) ggX11_meltBy_X11_summed
theorem ggX11_meltOf_X11_jarOf : GoodIn wsX11_meltOf wsX11_jarOf := gi_ (A := ixX11_meltOf) (B := ixX11_jarOf) wt624 (by decide +kernel)
theorem gX11_meltOf_X11_jarOf : GoodIn wsX11_meltOf (wsV RX11 283 RX11 yX11_jarOf wsX11_jarOf) := g4_ (A := ixX11_meltOf) wt621 wt622 wt623 wt5 (by decide +kernel) ggX11_meltOf_X11_jarOf
theorem ggX11_meltOf_X11_meltBy : GoodIn wsX11_meltOf wsX11_meltBy := gi_ (A := ixX11_meltOf) (B := ixX11_meltBy) wt834 (by decide +kernel)
theorem gX11_meltOf_X11_meltBy : GoodIn wsX11_meltOf (wsV RX11 334 RX11 yX11_meltBy wsX11_meltBy) := g4_ (A := ixX11_meltOf) wt831 wt832 wt833 wt5 (by decide +kernel) ggX11_meltOf_X11_meltBy
theorem ggX11_meltOf_X11_nodeWords : GoodIn wsX11_meltOf wsX11_nodeWords := gi_ (A := ixX11_meltOf) (B := ixX11_nodeWords) wt830 (by decide +kernel)
theorem gX11_meltOf_X11_nodeWords : GoodIn wsX11_meltOf (wsV RX11 330 RX11 yX11_nodeWords wsX11_nodeWords) := g4_ (A := ixX11_meltOf) wt827 wt828 wt829 wt5 (by decide +kernel) ggX11_meltOf_X11_nodeWords
theorem ggX11_meltOf_X11_passWords : GoodIn wsX11_meltOf wsX11_passWords := gi_ (A := ixX11_meltOf) (B := ixX11_passWords) wt821 (by decide +kernel)
theorem gX11_meltOf_X11_passWords : GoodIn wsX11_meltOf (wsV RX11 326 RX11 yX11_passWords wsX11_passWords) := g4_ (A := ixX11_meltOf) wt818 wt819 wt820 wt5 (by decide +kernel) ggX11_meltOf_X11_passWords
theorem ggX11_melt_X11_isJar : GoodIn wsX11_melt wsX11_isJar := gi_ (A := ixX11_melt) (B := ixX11_isJar) wt620 (by decide +kernel)
theorem gX11_melt_X11_isJar : GoodIn wsX11_melt (wsV RX11 280 RX11 yX11_isJar wsX11_isJar) := g4_ (A := ixX11_melt) wt617 wt618 wt619 wt5 (by decide +kernel) ggX11_melt_X11_isJar
theorem ggX11_melt_X11_isLaw : GoodIn wsX11_melt wsX11_isLaw := gi_ (A := ixX11_melt) (B := ixX11_isLaw) wt809 (by decide +kernel)
theorem gX11_melt_X11_isLaw : GoodIn wsX11_melt (wsV RX11 363 RX11 yX11_isLaw wsX11_isLaw) := g4_ (A := ixX11_melt) wt806 wt807 wt808 wt5 (by decide +kernel) ggX11_melt_X11_isLaw
theorem ggX11_melt_X11_jarOf : GoodIn wsX11_melt wsX11_jarOf := gi_ (A := ixX11_melt) (B := ixX11_jarOf) wt624 (by decide +kernel)
theorem gX11_melt_X11_jarOf : GoodIn wsX11_melt (wsV RX11 283 RX11 yX11_jarOf wsX11_jarOf) := g4_ (A := ixX11_melt) wt621 wt622 wt623 wt5 (by decide +kernel) ggX11_melt_X11_jarOf
theorem ggX11_melt_X11_meltOf : GoodIn wsX11_melt wsX11_meltOf := gi_ (A := ixX11_melt) (B := ixX11_meltOf) wt817 (by decide +kernel)
theorem gX11_melt_X11_meltOf : GoodIn wsX11_melt (wsV RX11 357 RX11 yX11_meltOf wsX11_meltOf) := g4_ (A := ixX11_melt) wt814 wt815 wt816 wt5 (by decide +kernel) ggX11_melt_X11_meltOf
theorem ggX11_summed_X11_reckons : GoodIn wsX11_summed wsX11_reckons := gi_ (A := ixX11_summed) (B := ixX11_reckons) wt842 (by decide +kernel)
theorem gX11_summed_X11_reckons : GoodIn wsX11_summed (wsV RX11 253 RX11 yX11_reckons wsX11_reckons) := g4_ (A := ixX11_summed) wt839 wt840 wt841 wt5 (by decide +kernel) ggX11_summed_X11_reckons
theorem ggX11_tick_X11_hour : GoodIn wsX11_tick wsX11_hour := gi_ (A := ixX11_tick) (B := ixX11_hour) wt813 (by decide +kernel)
theorem gX11_tick_X11_hour : GoodIn wsX11_tick (wsV RX11 368 RX11 yX11_hour wsX11_hour) := g4_ (A := ixX11_tick) wt810 wt811 wt812 wt5 (by decide +kernel) ggX11_tick_X11_hour
theorem ggX11_tick_X11_in : GoodIn wsX11_tick wsX11_in := gi_ (A := ixX11_tick) (B := ixX11_in) wt193 (by decide +kernel)
theorem gX11_tick_X11_in : GoodIn wsX11_tick (va_wsS RX11 118 yX11_in wsX11_in) := g3_ (A := ixX11_tick) wt191 wt192 wt5 (by decide +kernel) ggX11_tick_X11_in
theorem ggX11_tick_X11_isLaw : GoodIn wsX11_tick wsX11_isLaw := gi_ (A := ixX11_tick) (B := ixX11_isLaw) wt809 (by decide +kernel)
theorem gX11_tick_X11_isLaw : GoodIn wsX11_tick (wsV RX11 363 RX11 yX11_isLaw wsX11_isLaw) := g4_ (A := ixX11_tick) wt806 wt807 wt808 wt5 (by decide +kernel) ggX11_tick_X11_isLaw
