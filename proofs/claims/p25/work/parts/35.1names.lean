def ixX7_begin : List Nat := [109, 959, 960, 961, 962, 963, 964, 965, 1460, 1461, 1462, 1463, 1464, 1465, 1466, 1467, 1468]
def wsX7_begin : List Cond := .code yX7_begin cX7_begin 6 none :: ixX7_begin.map wt
def ixX7_cross : List Nat := [2, 14, 32, 51, 53, 63, 68, 76, 81, 82, 83, 84, 85, 86, 87, 88, 89, 90, 91, 92, 98, 103, 109, 111, 112, 179, 200, 201, 202, 374, 593, 594, 595, 596, 597, 599, 600, 601, 602, 671, 672, 673, 718, 719, 720, 721, 722, 723, 724, 725, 726, 727, 729, 730, 731, 733, 734, 735, 737, 738, 739, 740, 746, 747, 748, 750, 751, 752, 753, 754, 755, 756, 757, 758, 759, 760, 761, 762, 763, 764, 765, 766, 960, 961, 962, 963, 964, 965, 973, 977, 978, 979, 980, 981, 982, 983, 984, 985, 986, 987, 988, 989, 990, 1411, 1412, 1413, 1414, 1415, 1416, 1417, 1418, 1419, 1420, 1421, 1422, 1423, 1424, 1425, 1426, 1427, 1440, 1441, 1442, 1443, 1457, 1458, 1459, 1460, 1461, 1462, 1463, 1464, 1465, 1466, 1467, 1468, 1476, 1477, 1478, 1479, 1480, 1481, 1482, 1483, 1484, 1485]
def wsX7_cross : List Cond := .code yX7_cross cX7_cross 6 (some .int) :: ixX7_cross.map wt
def ixX7_followKeeping : List Nat := [2, 14, 32, 51, 53, 63, 68, 76, 81, 82, 83, 84, 85, 86, 87, 88, 89, 90, 91, 92, 98, 103, 109, 111, 112, 179, 200, 201, 202, 374, 593, 594, 595, 596, 597, 599, 600, 601, 602, 671, 672, 673, 718, 719, 720, 721, 722, 723, 724, 725, 726, 727, 729, 730, 731, 733, 734, 735, 737, 738, 739, 740, 746, 747, 748, 750, 751, 752, 753, 754, 755, 756, 757, 758, 759, 760, 761, 762, 763, 764, 765, 766, 960, 961, 962, 963, 964, 965, 969, 970, 971, 972, 973, 974, 975, 976, 977, 978, 979, 980, 981, 982, 983, 984, 985, 986, 987, 988, 989, 990, 1411, 1412, 1413, 1414, 1415, 1416, 1417, 1418, 1419, 1420, 1421, 1422, 1423, 1424, 1425, 1426, 1427, 1440, 1441, 1442, 1443, 1457, 1458, 1459, 1460, 1461, 1462, 1463, 1464, 1465, 1466, 1467, 1468, 1476, 1477, 1478, 1479, 1480, 1481, 1482, 1483, 1484, 1485]
def wsX7_followKeeping : List Cond := .code yX7_followKeeping cX7_followKeeping 4 (some .boolean) :: ixX7_followKeeping.map wt
def ixX7_meltOneHour : List Nat := [2, 14, 76, 81, 82, 83, 84, 85, 86, 87, 88, 89, 90, 91, 92, 98, 103, 109, 111, 112, 374, 599, 600, 601, 602, 737, 738, 739, 740, 746, 747, 748, 750, 751, 752, 753, 754, 755, 756, 757, 758, 759, 760, 761, 762, 763, 764, 765, 766, 960, 961, 962, 963, 964, 965, 979, 986, 987, 988, 989, 1411, 1412, 1413, 1414, 1415, 1416, 1417, 1418, 1419, 1420, 1421, 1422, 1423, 1424, 1425, 1426, 1427, 1440, 1441, 1442, 1443, 1460, 1461, 1462, 1463, 1464, 1465, 1466, 1467, 1468, 1476, 1477, 1478, 1479, 1480, 1481, 1482, 1483, 1484, 1485]
def wsX7_meltOneHour : List Cond := .code yX7_meltOneHour cX7_meltOneHour 1 none :: ixX7_meltOneHour.map wt
def ixX7_venture : List Nat := [2, 14, 32, 51, 53, 63, 68, 76, 81, 82, 83, 84, 85, 86, 87, 88, 89, 90, 91, 92, 98, 103, 109, 111, 112, 179, 200, 201, 202, 374, 593, 594, 595, 596, 597, 599, 600, 601, 602, 671, 672, 673, 718, 719, 720, 721, 722, 723, 724, 725, 726, 727, 729, 730, 731, 733, 734, 735, 737, 738, 739, 740, 746, 747, 748, 750, 751, 752, 753, 754, 755, 756, 757, 758, 759, 760, 761, 762, 763, 764, 765, 766, 776, 777, 778, 779, 780, 781, 782, 783, 960, 961, 962, 963, 964, 965, 970, 971, 972, 973, 974, 975, 976, 977, 978, 979, 980, 981, 982, 983, 984, 985, 986, 987, 988, 989, 990, 1340, 1341, 1411, 1412, 1413, 1414, 1415, 1416, 1417, 1418, 1419, 1420, 1421, 1422, 1423, 1424, 1425, 1426, 1427, 1440, 1441, 1442, 1443, 1457, 1458, 1459, 1460, 1461, 1462, 1463, 1464, 1465, 1466, 1467, 1468, 1476, 1477, 1478, 1479, 1480, 1481, 1482, 1483, 1484, 1485]
def wsX7_venture : List Cond := .code yX7_venture cX7_venture 4 (some .int) :: ixX7_venture.map wt
def ixX7_waitAt : List Nat := [2, 14, 32, 51, 63, 68, 76, 81, 82, 83, 84, 85, 86, 87, 88, 89, 90, 91, 92, 98, 103, 109, 111, 112, 374, 595, 596, 597, 599, 600, 601, 602, 721, 727, 733, 734, 735, 737, 738, 739, 740, 746, 747, 748, 750, 751, 752, 753, 754, 755, 756, 757, 758, 759, 760, 761, 762, 763, 764, 765, 766, 960, 961, 962, 963, 964, 965, 979, 983, 984, 985, 986, 987, 988, 989, 990, 1167, 1411, 1412, 1413, 1414, 1415, 1416, 1417, 1418, 1419, 1420, 1421, 1422, 1423, 1424, 1425, 1426, 1427, 1440, 1441, 1442, 1443, 1457, 1458, 1459, 1460, 1461, 1462, 1463, 1464, 1465, 1466, 1467, 1468, 1476, 1477, 1478, 1479, 1480, 1481, 1482, 1483, 1484, 1485]
def wsX7_waitAt : List Cond := .code yX7_waitAt cX7_waitAt 2 none :: ixX7_waitAt.map wt
theorem ggX7_cross_X10_held_n70 : GoodIn wsX7_cross wsX10_held := gi_ (A := ixX7_cross) (B := ixX10_held) wt766 (by decide +kernel)
theorem gX7_cross_X10_held_n70 : GoodIn wsX7_cross (wsX10_held) := ggX7_cross_X10_held_n70
theorem ggX7_cross_X1_sumOf : GoodIn wsX7_cross wsX1_sumOf := gi_ (A := ixX7_cross) (B := ixX1_sumOf) wt752 (by decide +kernel)
theorem gX7_cross_X1_sumOf : GoodIn wsX7_cross (wsV RX7 66 RX1 yX1_sumOf wsX1_sumOf) := g4_ (A := ixX7_cross) wt989 wt750 wt751 wt76 (by decide +kernel) ggX7_cross_X1_sumOf
theorem ggX7_cross_X4_setGone : GoodIn wsX7_cross wsX4_setGone := gi_ (A := ixX7_cross) (B := ixX4_setGone) wt731 (by decide +kernel)
theorem gX7_cross_X4_setGone : GoodIn wsX7_cross (wsV RX7 93 RX4 yX4_setGone wsX4_setGone) := g4_ (A := ixX7_cross) wt982 wt729 wt730 wt98 (by decide +kernel) ggX7_cross_X4_setGone
theorem ggX7_cross_X4_setHour : GoodIn wsX7_cross wsX4_setHour := gi_ (A := ixX7_cross) (B := ixX4_setHour) wt739 (by decide +kernel)
theorem gX7_cross_X4_setHour : GoodIn wsX7_cross (wsV RX7 55 RX4 yX4_setHour wsX4_setHour) := g4_ (A := ixX7_cross) wt987 wt737 wt738 wt98 (by decide +kernel) ggX7_cross_X4_setHour
theorem ggX7_cross_X4_setLoad : GoodIn wsX7_cross wsX4_setLoad := gi_ (A := ixX7_cross) (B := ixX4_setLoad) wt748 (by decide +kernel)
theorem gX7_cross_X4_setLoad : GoodIn wsX7_cross (wsV RX7 58 RX4 yX4_setLoad wsX4_setLoad) := g4_ (A := ixX7_cross) wt988 wt746 wt747 wt98 (by decide +kernel) ggX7_cross_X4_setLoad
theorem ggX7_cross_X4_setNode : GoodIn wsX7_cross wsX4_setNode := gi_ (A := ixX7_cross) (B := ixX4_setNode) wt735 (by decide +kernel)
theorem gX7_cross_X4_setNode : GoodIn wsX7_cross (wsV RX7 48 RX4 yX4_setNode wsX4_setNode) := g4_ (A := ixX7_cross) wt990 wt733 wt734 wt98 (by decide +kernel) ggX7_cross_X4_setNode
theorem ggX7_cross_X4_setPass : GoodIn wsX7_cross wsX4_setPass := gi_ (A := ixX7_cross) (B := ixX4_setPass) wt720 (by decide +kernel)
theorem gX7_cross_X4_setPass : GoodIn wsX7_cross (wsV RX7 89 RX4 yX4_setPass wsX4_setPass) := g4_ (A := ixX7_cross) wt981 wt718 wt719 wt98 (by decide +kernel) ggX7_cross_X4_setPass
theorem ggX7_cross_X6_get : GoodIn wsX7_cross wsX6_get := gi_ (A := ixX7_cross) (B := ixX6_get) wt597 (by decide +kernel)
theorem gX7_cross_X6_get : GoodIn wsX7_cross (wsV RX7 84 RX6 yX6_get wsX6_get) := g4_ (A := ixX7_cross) wt973 wt595 wt596 wt51 (by decide +kernel) ggX7_cross_X6_get
theorem ggX7_cross_X7_meltOneHour : GoodIn wsX7_cross wsX7_meltOneHour := gi_ (A := ixX7_cross) (B := ixX7_meltOneHour) wt986 (by decide +kernel)
theorem gX7_cross_X7_meltOneHour : GoodIn wsX7_cross (wsV RX7 52 RX7 yX7_meltOneHour wsX7_meltOneHour) := g4_ (A := ixX7_cross) wt983 wt984 wt985 wt32 (by decide +kernel) ggX7_cross_X7_meltOneHour
theorem ggX7_cross_X9_otherEnd : GoodIn wsX7_cross wsX9_otherEnd := gi_ (A := ixX7_cross) (B := ixX9_otherEnd) wt673 (by decide +kernel)
theorem gX7_cross_X9_otherEnd : GoodIn wsX7_cross (wsV RX7 74 RX9 yX9_otherEnd wsX9_otherEnd) := g4_ (A := ixX7_cross) wt980 wt671 wt672 wt14 (by decide +kernel) ggX7_cross_X9_otherEnd
theorem ggX7_followKeeping_X6_get : GoodIn wsX7_followKeeping wsX6_get := gi_ (A := ixX7_followKeeping) (B := ixX6_get) wt597 (by decide +kernel)
theorem gX7_followKeeping_X6_get : GoodIn wsX7_followKeeping (wsV RX7 84 RX6 yX6_get wsX6_get) := g4_ (A := ixX7_followKeeping) wt973 wt595 wt596 wt51 (by decide +kernel) ggX7_followKeeping_X6_get
theorem ggX7_followKeeping_X7_cross : GoodIn wsX7_followKeeping wsX7_cross := gi_ (A := ixX7_followKeeping) (B := ixX7_cross) wt977 (by decide +kernel)
theorem gX7_followKeeping_X7_cross : GoodIn wsX7_followKeeping (wsV RX7 106 RX7 yX7_cross wsX7_cross) := g4_ (A := ixX7_followKeeping) wt974 wt975 wt976 wt32 (by decide +kernel) ggX7_followKeeping_X7_cross
theorem ggX7_meltOneHour_X10_held_n70 : GoodIn wsX7_meltOneHour wsX10_held := gi_ (A := ixX7_meltOneHour) (B := ixX10_held) wt766 (by decide +kernel)
theorem gX7_meltOneHour_X10_held_n70 : GoodIn wsX7_meltOneHour (wsX10_held) := ggX7_meltOneHour_X10_held_n70
theorem ggX7_meltOneHour_X1_sumOf : GoodIn wsX7_meltOneHour wsX1_sumOf := gi_ (A := ixX7_meltOneHour) (B := ixX1_sumOf) wt752 (by decide +kernel)
theorem gX7_meltOneHour_X1_sumOf : GoodIn wsX7_meltOneHour (wsV RX7 66 RX1 yX1_sumOf wsX1_sumOf) := g4_ (A := ixX7_meltOneHour) wt989 wt750 wt751 wt76 (by decide +kernel) ggX7_meltOneHour_X1_sumOf
theorem ggX7_meltOneHour_X4_setHour : GoodIn wsX7_meltOneHour wsX4_setHour := gi_ (A := ixX7_meltOneHour) (B := ixX4_setHour) wt739 (by decide +kernel)
theorem gX7_meltOneHour_X4_setHour : GoodIn wsX7_meltOneHour (wsV RX7 55 RX4 yX4_setHour wsX4_setHour) := g4_ (A := ixX7_meltOneHour) wt987 wt737 wt738 wt98 (by decide +kernel) ggX7_meltOneHour_X4_setHour
theorem ggX7_meltOneHour_X4_setLoad : GoodIn wsX7_meltOneHour wsX4_setLoad := gi_ (A := ixX7_meltOneHour) (B := ixX4_setLoad) wt748 (by decide +kernel)
theorem gX7_meltOneHour_X4_setLoad : GoodIn wsX7_meltOneHour (wsV RX7 58 RX4 yX4_setLoad wsX4_setLoad) := g4_ (A := ixX7_meltOneHour) wt988 wt746 wt747 wt98 (by decide +kernel) ggX7_meltOneHour_X4_setLoad
theorem ggX7_venture_X10_held_n70 : GoodIn wsX7_venture wsX10_held := gi_ (A := ixX7_venture) (B := ixX10_held) wt766 (by decide +kernel)
theorem gX7_venture_X10_held_n70 : GoodIn wsX7_venture (wsX10_held) := ggX7_venture_X10_held_n70
theorem ggX7_venture_X1_sumOf : GoodIn wsX7_venture wsX1_sumOf := gi_ (A := ixX7_venture) (B := ixX1_sumOf) wt752 (by decide +kernel)
theorem gX7_venture_X1_sumOf : GoodIn wsX7_venture (wsV RX7 66 RX1 yX1_sumOf wsX1_sumOf) := g4_ (A := ixX7_venture) wt989 wt750 wt751 wt76 (by decide +kernel) ggX7_venture_X1_sumOf
theorem ggX7_venture_X4_setLoad : GoodIn wsX7_venture wsX4_setLoad := gi_ (A := ixX7_venture) (B := ixX4_setLoad) wt748 (by decide +kernel)
theorem gX7_venture_X4_setLoad : GoodIn wsX7_venture (wsV RX7 58 RX4 yX4_setLoad wsX4_setLoad) := g4_ (A := ixX7_venture) wt988 wt746 wt747 wt98 (by decide +kernel) ggX7_venture_X4_setLoad
theorem ggX7_venture_X6_get : GoodIn wsX7_venture wsX6_get := gi_ (A := ixX7_venture) (B := ixX6_get) wt597 (by decide +kernel)
theorem gX7_venture_X6_get : GoodIn wsX7_venture (wsV RX7 84 RX6 yX6_get wsX6_get) := g4_ (A := ixX7_venture) wt973 wt595 wt596 wt51 (by decide +kernel) ggX7_venture_X6_get
theorem ggX7_venture_X7_cross : GoodIn wsX7_venture wsX7_cross := gi_ (A := ixX7_venture) (B := ixX7_cross) wt977 (by decide +kernel)
theorem gX7_venture_X7_cross : GoodIn wsX7_venture (wsV RX7 106 RX7 yX7_cross wsX7_cross) := g4_ (A := ixX7_venture) wt974 wt975 wt976 wt32 (by decide +kernel) ggX7_venture_X7_cross
theorem ggX7_venture_X9_draw : GoodIn wsX7_venture wsX9_draw := gi_ (A := ixX7_venture) (B := ixX9_draw) wt778 (by decide +kernel)
theorem gX7_venture_X9_draw : GoodIn wsX7_venture (wsV RX7 109 RX9 yX9_draw wsX9_draw) := g4_ (A := ixX7_venture) wt1341 wt776 wt777 wt14 (by decide +kernel) ggX7_venture_X9_draw
theorem ggX7_waitAt_X4_setNode : GoodIn wsX7_waitAt wsX4_setNode := gi_ (A := ixX7_waitAt) (B := ixX4_setNode) wt735 (by decide +kernel)
theorem gX7_waitAt_X4_setNode : GoodIn wsX7_waitAt (wsV RX7 48 RX4 yX4_setNode wsX4_setNode) := g4_ (A := ixX7_waitAt) wt990 wt733 wt734 wt98 (by decide +kernel) ggX7_waitAt_X4_setNode
theorem ggX7_waitAt_X7_meltOneHour : GoodIn wsX7_waitAt wsX7_meltOneHour := gi_ (A := ixX7_waitAt) (B := ixX7_meltOneHour) wt986 (by decide +kernel)
theorem gX7_waitAt_X7_meltOneHour : GoodIn wsX7_waitAt (wsV RX7 52 RX7 yX7_meltOneHour wsX7_meltOneHour) := g4_ (A := ixX7_waitAt) wt983 wt984 wt985 wt32 (by decide +kernel) ggX7_waitAt_X7_meltOneHour
