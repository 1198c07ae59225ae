def ixX0_arrive : List Nat := [2, 14, 28, 51, 52, 54, 63, 66, 68, 76, 81, 82, 83, 84, 85, 86, 87, 88, 89, 90, 91, 92, 98, 99, 103, 181, 182, 183, 222, 223, 224, 225, 287, 288, 374, 594, 595, 596, 597, 599, 600, 601, 602, 642, 643, 644, 645, 646, 702, 703, 705, 706, 711, 716, 721, 727, 732, 733, 734, 735, 736, 737, 738, 739, 740, 741, 742, 743, 744, 745, 746, 747, 748, 749, 750, 751, 752, 753, 754, 755, 756, 757, 758, 759, 760, 761, 762, 763, 764, 765, 766, 767, 771, 772, 773, 774, 775, 776, 777, 778, 779, 780, 781, 782, 783, 784, 785, 786, 787, 788, 789, 790, 791, 792, 793, 794, 795, 796, 1410, 1411, 1412, 1413, 1414, 1415, 1416, 1417, 1418, 1419, 1420, 1421, 1422, 1423, 1424, 1425, 1426, 1427, 1440, 1441, 1442, 1443, 1457, 1458, 1459, 1476, 1477, 1478, 1479, 1480, 1481, 1482, 1483, 1484, 1485]
def wsX0_arrive : List Cond := .code yX0_arrive cX0_arrive 8 none :: ixX0_arrive.map wt
def ixX0_burstFrom : List Nat := [14, 28, 51, 54, 63, 68, 181, 182, 183, 222, 223, 224, 225, 595, 596, 597, 702, 703, 706, 784, 785, 786, 787, 788, 792, 793, 794, 795, 796, 1457, 1458, 1459, 1476, 1477, 1478, 1479, 1480, 1481, 1482, 1483, 1484, 1485]
def wsX0_burstFrom : List Cond := .code yX0_burstFrom cX0_burstFrom 9 none :: ixX0_burstFrom.map wt
def ixX0_eatenOn : List Nat := [51, 63, 68, 595, 596, 597, 703, 706, 1311, 1315, 1457, 1458, 1459, 1476, 1477, 1478, 1479, 1480, 1481, 1482, 1483, 1484, 1485]
def wsX0_eatenOn : List Cond := .code yX0_eatenOn cX0_eatenOn 6 (some .int) :: ixX0_eatenOn.map wt
def ixX0_lasts : List Nat := [2, 14, 28, 51, 63, 68, 76, 81, 82, 83, 84, 85, 86, 87, 88, 89, 90, 91, 92, 98, 99, 103, 374, 595, 596, 597, 599, 600, 601, 602, 703, 705, 706, 716, 721, 727, 732, 733, 734, 735, 736, 737, 738, 739, 740, 745, 746, 747, 748, 749, 750, 751, 752, 753, 754, 755, 756, 757, 758, 759, 760, 761, 762, 763, 764, 765, 766, 797, 798, 799, 800, 1306, 1307, 1308, 1309, 1310, 1311, 1312, 1313, 1314, 1315, 1410, 1411, 1412, 1413, 1414, 1415, 1416, 1417, 1418, 1419, 1420, 1421, 1422, 1423, 1424, 1425, 1426, 1427, 1440, 1441, 1442, 1443, 1457, 1458, 1459, 1476, 1477, 1478, 1479, 1480, 1481, 1482, 1483, 1484, 1485]
def wsX0_lasts : List Cond := .code yX0_lasts cX0_lasts 10 (some .boolean) :: ixX0_lasts.map wt
def ixX0_meltOf : List Nat := [2, 14, 28, 51, 53, 63, 68, 76, 81, 82, 83, 84, 85, 86, 87, 88, 89, 90, 91, 92, 98, 99, 103, 179, 200, 201, 202, 374, 593, 594, 595, 596, 597, 599, 600, 601, 602, 671, 672, 673, 702, 705, 706, 715, 716, 717, 718, 719, 720, 721, 722, 723, 724, 725, 726, 727, 728, 729, 730, 731, 732, 733, 734, 735, 736, 737, 738, 739, 740, 741, 742, 743, 744, 745, 746, 747, 748, 749, 750, 751, 752, 753, 754, 755, 756, 757, 758, 759, 760, 761, 762, 763, 764, 765, 766, 1410, 1411, 1412, 1413, 1414, 1415, 1416, 1417, 1418, 1419, 1420, 1421, 1422, 1423, 1424, 1425, 1426, 1427, 1440, 1441, 1442, 1443, 1457, 1458, 1459, 1476, 1477, 1478, 1479, 1480, 1481, 1482, 1483, 1484, 1485]
def wsX0_meltOf : List Cond := .code yX0_meltOf cX0_meltOf 6 (some .int) :: ixX0_meltOf.map wt
def ixX0_nextBehind : List Nat := [51, 63, 68, 595, 596, 597, 702, 703, 706, 796, 1457, 1458, 1459, 1476, 1477, 1478, 1479, 1480, 1481, 1482, 1483, 1484, 1485]
def wsX0_nextBehind : List Cond := .code yX0_nextBehind cX0_nextBehind 12 (some .int) :: ixX0_nextBehind.map wt
def ixX0_owedAt : List Nat := [51, 63, 68, 595, 596, 597, 703, 705, 706, 1310, 1311, 1457, 1458, 1459, 1476, 1477, 1478, 1479, 1480, 1481, 1482, 1483, 1484, 1485]
def wsX0_owedAt : List Cond := .code yX0_owedAt cX0_owedAt 7 (some .int) :: ixX0_owedAt.map wt
def ixX0_restOf : List Nat := [2, 14, 51, 63, 68, 76, 81, 82, 83, 84, 85, 86, 87, 88, 89, 90, 91, 92, 98, 99, 103, 374, 595, 596, 597, 599, 600, 601, 602, 716, 721, 727, 732, 733, 734, 735, 736, 737, 738, 739, 740, 745, 746, 747, 748, 749, 750, 751, 752, 753, 754, 755, 756, 757, 758, 759, 760, 761, 762, 763, 764, 765, 766, 800, 1410, 1411, 1412, 1413, 1414, 1415, 1416, 1417, 1418, 1419, 1420, 1421, 1422, 1423, 1424, 1425, 1426, 1427, 1440, 1441, 1442, 1443, 1457, 1458, 1459, 1476, 1477, 1478, 1479, 1480, 1481, 1482, 1483, 1484, 1485]
def wsX0_restOf : List Cond := .code yX0_restOf cX0_restOf 6 (some .int) :: ixX0_restOf.map wt
def ixX0_setLoadOf : List Nat := [51, 63, 68, 98, 99, 103, 595, 596, 597, 702, 706, 744, 745, 746, 747, 748, 1410, 1440, 1441, 1442, 1443, 1457, 1458, 1459, 1476, 1477, 1478, 1479, 1480, 1481, 1482, 1483, 1484, 1485]
def wsX0_setLoadOf : List Cond := .code yX0_setLoadOf cX0_setLoadOf 4 none :: ixX0_setLoadOf.map wt
def ixX0_step : List Nat := [2, 14, 28, 51, 52, 53, 54, 63, 66, 68, 76, 81, 82, 83, 84, 85, 86, 87, 88, 89, 90, 91, 92, 98, 99, 103, 179, 181, 182, 183, 200, 201, 202, 222, 223, 224, 225, 287, 288, 374, 593, 594, 595, 596, 597, 599, 600, 601, 602, 642, 643, 644, 645, 646, 671, 672, 673, 701, 702, 703, 704, 705, 706, 707, 708, 709, 710, 711, 712, 713, 714, 715, 716, 717, 718, 719, 720, 721, 722, 723, 724, 725, 726, 727, 728, 729, 730, 731, 732, 733, 734, 735, 736, 737, 738, 739, 740, 741, 742, 743, 744, 745, 746, 747, 748, 749, 750, 751, 752, 753, 754, 755, 756, 757, 758, 759, 760, 761, 762, 763, 764, 765, 766, 767, 768, 769, 770, 771, 772, 773, 774, 775, 776, 777, 778, 779, 780, 781, 782, 783, 784, 785, 786, 787, 788, 789, 790, 791, 792, 793, 794, 795, 796, 797, 798, 799, 800, 1410, 1411, 1412, 1413, 1414, 1415, 1416, 1417, 1418, 1419, 1420, 1421, 1422, 1423, 1424, 1425, 1426, 1427, 1440, 1441, 1442, 1443, 1457, 1458, 1459, 1476, 1477, 1478, 1479, 1480, 1481, 1482, 1483, 1484, 1485]
def wsX0_step : List Cond := .code yX0_step cX0_step 5 none :: ixX0_step.map wt
def ixX0_stepJar : List Nat := [2, 14, 28, 51, 52, 53, 54, 63, 66, 68, 76, 81, 82, 83, 84, 85, 86, 87, 88, 89, 90, 91, 92, 98, 99, 103, 179, 181, 182, 183, 200, 201, 202, 222, 223, 224, 225, 287, 288, 374, 593, 594, 595, 596, 597, 599, 600, 601, 602, 642, 643, 644, 645, 646, 671, 672, 673, 702, 703, 705, 706, 710, 711, 712, 713, 714, 715, 716, 717, 718, 719, 720, 721, 722, 723, 724, 725, 726, 727, 728, 729, 730, 731, 732, 733, 734, 735, 736, 737, 738, 739, 740, 741, 742, 743, 744, 745, 746, 747, 748, 749, 750, 751, 752, 753, 754, 755, 756, 757, 758, 759, 760, 761, 762, 763, 764, 765, 766, 767, 768, 769, 770, 771, 772, 773, 774, 775, 776, 777, 778, 779, 780, 781, 782, 783, 784, 785, 786, 787, 788, 789, 790, 791, 792, 793, 794, 795, 796, 1410, 1411, 1412, 1413, 1414, 1415, 1416, 1417, 1418, 1419, 1420, 1421, 1422, 1423, 1424, 1425, 1426, 1427, 1440, 1441, 1442, 1443, 1457, 1458, 1459, 1476, 1477, 1478, 1479, 1480, 1481, 1482, 1483, 1484, 1485]
def wsX0_stepJar : List Cond := .code yX0_stepJar cX0_stepJar 6 none :: ixX0_stepJar.map wt
def ixX10_held : List Nat := [766]
def wsX10_held : List Cond := .code yX10_held cX10_held 3 (some .int) :: ixX10_held.map wt
theorem ggX0_arrive_X0_burstFrom : GoodIn wsX0_arrive wsX0_burstFrom := gi_ (A := ixX0_arrive) (B := ixX0_burstFrom) wt792 (by decide +kernel)
theorem gX0_arrive_X0_burstFrom : GoodIn wsX0_arrive (wsV RX0 114 RX0 yX0_burstFrom wsX0_burstFrom) := g4_ (A := ixX0_arrive) wt789 wt790 wt791 wt28 (by decide +kernel) ggX0_arrive_X0_burstFrom
theorem ggX0_arrive_X0_setLoadOf : GoodIn wsX0_arrive wsX0_setLoadOf := gi_ (A := ixX0_arrive) (B := ixX0_setLoadOf) wt744 (by decide +kernel)
theorem gX0_arrive_X0_setLoadOf : GoodIn wsX0_arrive (wsV RX0 77 RX0 yX0_setLoadOf wsX0_setLoadOf) := g4_ (A := ixX0_arrive) wt741 wt742 wt743 wt28 (by decide +kernel) ggX0_arrive_X0_setLoadOf
theorem ggX0_arrive_X10_held_n90 : GoodIn wsX0_arrive wsX10_held := gi_ (A := ixX0_arrive) (B := ixX10_held) wt766 (by decide +kernel)
theorem gX0_arrive_X10_held_n90 : GoodIn wsX0_arrive (wsX10_held) := ggX0_arrive_X10_held_n90
theorem ggX0_arrive_X1_sumOf : GoodIn wsX0_arrive wsX1_sumOf := gi_ (A := ixX0_arrive) (B := ixX1_sumOf) wt752 (by decide +kernel)
theorem gX0_arrive_X1_sumOf : GoodIn wsX0_arrive (wsV RX0 84 RX1 yX1_sumOf wsX1_sumOf) := g4_ (A := ixX0_arrive) wt749 wt750 wt751 wt76 (by decide +kernel) ggX0_arrive_X1_sumOf
theorem ggX0_arrive_X4_setHour : GoodIn wsX0_arrive wsX4_setHour := gi_ (A := ixX0_arrive) (B := ixX4_setHour) wt739 (by decide +kernel)
theorem gX0_arrive_X4_setHour : GoodIn wsX0_arrive (wsV RX0 74 RX4 yX4_setHour wsX4_setHour) := g4_ (A := ixX0_arrive) wt736 wt737 wt738 wt98 (by decide +kernel) ggX0_arrive_X4_setHour
theorem ggX0_arrive_X4_setNode : GoodIn wsX0_arrive wsX4_setNode := gi_ (A := ixX0_arrive) (B := ixX4_setNode) wt735 (by decide +kernel)
theorem gX0_arrive_X4_setNode : GoodIn wsX0_arrive (wsV RX0 70 RX4 yX4_setNode wsX4_setNode) := g4_ (A := ixX0_arrive) wt732 wt733 wt734 wt98 (by decide +kernel) ggX0_arrive_X4_setNode
theorem ggX0_arrive_X6_get : GoodIn wsX0_arrive wsX6_get := gi_ (A := ixX0_arrive) (B := ixX6_get) wt597 (by decide +kernel)
theorem gX0_arrive_X6_get : GoodIn wsX0_arrive (wsV RX0 30 RX6 yX6_get wsX6_get) := g4_ (A := ixX0_arrive) wt706 wt595 wt596 wt51 (by decide +kernel) ggX0_arrive_X6_get
theorem ggX0_arrive_X6_put : GoodIn wsX0_arrive wsX6_put := gi_ (A := ixX0_arrive) (B := ixX6_put) wt183 (by decide +kernel)
theorem gX0_arrive_X6_put : GoodIn wsX0_arrive (wsV RX0 48 RX6 yX6_put wsX6_put) := g4_ (A := ixX0_arrive) wt767 wt181 wt182 wt51 (by decide +kernel) ggX0_arrive_X6_put
theorem ggX0_arrive_X9_bring : GoodIn wsX0_arrive wsX9_bring := gi_ (A := ixX0_arrive) (B := ixX9_bring) wt644 (by decide +kernel)
theorem gX0_arrive_X9_bring : GoodIn wsX0_arrive (wsV RX0 101 RX9 yX9_bring wsX9_bring) := g4_ (A := ixX0_arrive) wt774 wt642 wt643 wt14 (by decide +kernel) ggX0_arrive_X9_bring
theorem ggX0_arrive_X9_draw : GoodIn wsX0_arrive wsX9_draw := gi_ (A := ixX0_arrive) (B := ixX9_draw) wt778 (by decide +kernel)
theorem gX0_arrive_X9_draw : GoodIn wsX0_arrive (wsV RX0 104 RX9 yX9_draw wsX9_draw) := g4_ (A := ixX0_arrive) wt775 wt776 wt777 wt14 (by decide +kernel) ggX0_arrive_X9_draw
theorem ggX0_arrive_X9_lose : GoodIn wsX0_arrive wsX9_lose := gi_ (A := ixX0_arrive) (B := ixX9_lose) wt787 (by decide +kernel)
theorem gX0_arrive_X9_lose : GoodIn wsX0_arrive (wsV RX0 108 RX9 yX9_lose wsX9_lose) := g4_ (A := ixX0_arrive) wt784 wt785 wt786 wt14 (by decide +kernel) ggX0_arrive_X9_lose
theorem ggX0_arrive_X9_standAt : GoodIn wsX0_arrive wsX9_standAt := gi_ (A := ixX0_arrive) (B := ixX9_standAt) wt224 (by decide +kernel)
theorem gX0_arrive_X9_standAt : GoodIn wsX0_arrive (wsV RX0 97 RX9 yX9_standAt wsX9_standAt) := g4_ (A := ixX0_arrive) wt773 wt222 wt223 wt14 (by decide +kernel) ggX0_arrive_X9_standAt
theorem ggX0_burstFrom_X0_nextBehind : GoodIn wsX0_burstFrom wsX0_nextBehind := gi_ (A := ixX0_burstFrom) (B := ixX0_nextBehind) wt796 (by decide +kernel)
theorem gX0_burstFrom_X0_nextBehind : GoodIn wsX0_burstFrom (wsV RX0 118 RX0 yX0_nextBehind wsX0_nextBehind) := g4_ (A := ixX0_burstFrom) wt793 wt794 wt795 wt28 (by decide +kernel) ggX0_burstFrom_X0_nextBehind
theorem ggX0_burstFrom_X6_get : GoodIn wsX0_burstFrom wsX6_get := gi_ (A := ixX0_burstFrom) (B := ixX6_get) wt597 (by decide +kernel)
theorem gX0_burstFrom_X6_get : GoodIn wsX0_burstFrom (wsV RX0 30 RX6 yX6_get wsX6_get) := g4_ (A := ixX0_burstFrom) wt706 wt595 wt596 wt51 (by decide +kernel) ggX0_burstFrom_X6_get
theorem ggX0_burstFrom_X9_lose : GoodIn wsX0_burstFrom wsX9_lose := gi_ (A := ixX0_burstFrom) (B := ixX9_lose) wt787 (by decide +kernel)
theorem gX0_burstFrom_X9_lose : GoodIn wsX0_burstFrom (wsV RX0 108 RX9 yX9_lose wsX9_lose) := g4_ (A := ixX0_burstFrom) wt784 wt785 wt786 wt14 (by decide +kernel) ggX0_burstFrom_X9_lose
theorem ggX0_eatenOn_X6_get : GoodIn wsX0_eatenOn wsX6_get := gi_ (A := ixX0_eatenOn) (B := ixX6_get) wt597 (by decide +kernel)
theorem gX0_eatenOn_X6_get : GoodIn wsX0_eatenOn (wsV RX0 30 RX6 yX6_get wsX6_get) := g4_ (A := ixX0_eatenOn) wt706 wt595 wt596 wt51 (by decide +kernel) ggX0_eatenOn_X6_get
theorem ggX0_lasts_X0_eatenOn : GoodIn wsX0_lasts wsX0_eatenOn := gi_ (A := ixX0_lasts) (B := ixX0_eatenOn) wt1315 (by decide +kernel)
theorem gX0_lasts_X0_eatenOn : GoodIn wsX0_lasts (wsV RX0 126 RX0 yX0_eatenOn wsX0_eatenOn) := g4_ (A := ixX0_lasts) wt1312 wt1313 wt1314 wt28 (by decide +kernel) ggX0_lasts_X0_eatenOn
theorem ggX0_lasts_X0_owedAt : GoodIn wsX0_lasts wsX0_owedAt := gi_ (A := ixX0_lasts) (B := ixX0_owedAt) wt1310 (by decide +kernel)
theorem gX0_lasts_X0_owedAt : GoodIn wsX0_lasts (wsV RX0 122 RX0 yX0_owedAt wsX0_owedAt) := g4_ (A := ixX0_lasts) wt1307 wt1308 wt1309 wt28 (by decide +kernel) ggX0_lasts_X0_owedAt
theorem ggX0_lasts_X0_restOf : GoodIn wsX0_lasts wsX0_restOf := gi_ (A := ixX0_lasts) (B := ixX0_restOf) wt800 (by decide +kernel)
theorem gX0_lasts_X0_restOf : GoodIn wsX0_lasts (wsV RX0 44 RX0 yX0_restOf wsX0_restOf) := g4_ (A := ixX0_lasts) wt797 wt798 wt799 wt28 (by decide +kernel) ggX0_lasts_X0_restOf
theorem ggX0_meltOf_X0_setLoadOf : GoodIn wsX0_meltOf wsX0_setLoadOf := gi_ (A := ixX0_meltOf) (B := ixX0_setLoadOf) wt744 (by decide +kernel)
theorem gX0_meltOf_X0_setLoadOf : GoodIn wsX0_meltOf (wsV RX0 77 RX0 yX0_setLoadOf wsX0_setLoadOf) := g4_ (A := ixX0_meltOf) wt741 wt742 wt743 wt28 (by decide +kernel) ggX0_meltOf_X0_setLoadOf
theorem ggX0_meltOf_X10_held_n90 : GoodIn wsX0_meltOf wsX10_held := gi_ (A := ixX0_meltOf) (B := ixX10_held) wt766 (by decide +kernel)
theorem gX0_meltOf_X10_held_n90 : GoodIn wsX0_meltOf (wsX10_held) := ggX0_meltOf_X10_held_n90
theorem ggX0_meltOf_X1_sumOf : GoodIn wsX0_meltOf wsX1_sumOf := gi_ (A := ixX0_meltOf) (B := ixX1_sumOf) wt752 (by decide +kernel)
theorem gX0_meltOf_X1_sumOf : GoodIn wsX0_meltOf (wsV RX0 84 RX1 yX1_sumOf wsX1_sumOf) := g4_ (A := ixX0_meltOf) wt749 wt750 wt751 wt76 (by decide +kernel) ggX0_meltOf_X1_sumOf
theorem ggX0_meltOf_X4_setGone : GoodIn wsX0_meltOf wsX4_setGone := gi_ (A := ixX0_meltOf) (B := ixX4_setGone) wt731 (by decide +kernel)
theorem gX0_meltOf_X4_setGone : GoodIn wsX0_meltOf (wsV RX0 66 RX4 yX4_setGone wsX4_setGone) := g4_ (A := ixX0_meltOf) wt728 wt729 wt730 wt98 (by decide +kernel) ggX0_meltOf_X4_setGone
theorem ggX0_meltOf_X4_setHour : GoodIn wsX0_meltOf wsX4_setHour := gi_ (A := ixX0_meltOf) (B := ixX4_setHour) wt739 (by decide +kernel)
theorem gX0_meltOf_X4_setHour : GoodIn wsX0_meltOf (wsV RX0 74 RX4 yX4_setHour wsX4_setHour) := g4_ (A := ixX0_meltOf) wt736 wt737 wt738 wt98 (by decide +kernel) ggX0_meltOf_X4_setHour
theorem ggX0_meltOf_X4_setNode : GoodIn wsX0_meltOf wsX4_setNode := gi_ (A := ixX0_meltOf) (B := ixX4_setNode) wt735 (by decide +kernel)
theorem gX0_meltOf_X4_setNode : GoodIn wsX0_meltOf (wsV RX0 70 RX4 yX4_setNode wsX4_setNode) := g4_ (A := ixX0_meltOf) wt732 wt733 wt734 wt98 (by decide +kernel) ggX0_meltOf_X4_setNode
theorem ggX0_meltOf_X4_setPass : GoodIn wsX0_meltOf wsX4_setPass := gi_ (A := ixX0_meltOf) (B := ixX4_setPass) wt720 (by decide +kernel)
theorem gX0_meltOf_X4_setPass : GoodIn wsX0_meltOf (wsV RX0 62 RX4 yX4_setPass wsX4_setPass) := g4_ (A := ixX0_meltOf) wt717 wt718 wt719 wt98 (by decide +kernel) ggX0_meltOf_X4_setPass
theorem ggX0_meltOf_X6_get : GoodIn wsX0_meltOf wsX6_get := gi_ (A := ixX0_meltOf) (B := ixX6_get) wt597 (by decide +kernel)
theorem gX0_meltOf_X6_get : GoodIn wsX0_meltOf (wsV RX0 30 RX6 yX6_get wsX6_get) := g4_ (A := ixX0_meltOf) wt706 wt595 wt596 wt51 (by decide +kernel) ggX0_meltOf_X6_get
theorem ggX0_nextBehind_X6_get : GoodIn wsX0_nextBehind wsX6_get := gi_ (A := ixX0_nextBehind) (B := ixX6_get) wt597 (by decide +kernel)
theorem gX0_nextBehind_X6_get : GoodIn wsX0_nextBehind (wsV RX0 30 RX6 yX6_get wsX6_get) := g4_ (A := ixX0_nextBehind) wt706 wt595 wt596 wt51 (by decide +kernel) ggX0_nextBehind_X6_get
theorem ggX0_owedAt_X6_get : GoodIn wsX0_owedAt wsX6_get := gi_ (A := ixX0_owedAt) (B := ixX6_get) wt597 (by decide +kernel)
theorem gX0_owedAt_X6_get : GoodIn wsX0_owedAt (wsV RX0 30 RX6 yX6_get wsX6_get) := g4_ (A := ixX0_owedAt) wt706 wt595 wt596 wt51 (by decide +kernel) ggX0_owedAt_X6_get
theorem ggX0_restOf_X10_held_n90 : GoodIn wsX0_restOf wsX10_held := gi_ (A := ixX0_restOf) (B := ixX10_held) wt766 (by decide +kernel)
theorem gX0_restOf_X10_held_n90 : GoodIn wsX0_restOf (wsX10_held) := ggX0_restOf_X10_held_n90
theorem ggX0_restOf_X1_sumOf : GoodIn wsX0_restOf wsX1_sumOf := gi_ (A := ixX0_restOf) (B := ixX1_sumOf) wt752 (by decide +kernel)
theorem gX0_restOf_X1_sumOf : GoodIn wsX0_restOf (wsV RX0 84 RX1 yX1_sumOf wsX1_sumOf) := g4_ (A := ixX0_restOf) wt749 wt750 wt751 wt76 (by decide +kernel) ggX0_restOf_X1_sumOf
theorem ggX0_restOf_X4_setHour : GoodIn wsX0_restOf wsX4_setHour := gi_ (A := ixX0_restOf) (B := ixX4_setHour) wt739 (by decide +kernel)
theorem gX0_restOf_X4_setHour : GoodIn wsX0_restOf (wsV RX0 74 RX4 yX4_setHour wsX4_setHour) := g4_ (A := ixX0_restOf) wt736 wt737 wt738 wt98 (by decide +kernel) ggX0_restOf_X4_setHour
theorem ggX0_restOf_X4_setLoad : GoodIn wsX0_restOf wsX4_setLoad := gi_ (A := ixX0_restOf) (B := ixX4_setLoad) wt748 (by decide +kernel)
theorem gX0_restOf_X4_setLoad : GoodIn wsX0_restOf (wsV RX0 94 RX4 yX4_setLoad wsX4_setLoad) := g4_ (A := ixX0_restOf) wt745 wt746 wt747 wt98 (by decide +kernel) ggX0_restOf_X4_setLoad
theorem ggX0_restOf_X4_setNode : GoodIn wsX0_restOf wsX4_setNode := gi_ (A := ixX0_restOf) (B := ixX4_setNode) wt735 (by decide +kernel)
theorem gX0_restOf_X4_setNode : GoodIn wsX0_restOf (wsV RX0 70 RX4 yX4_setNode wsX4_setNode) := g4_ (A := ixX0_restOf) wt732 wt733 wt734 wt98 (by decide +kernel) ggX0_restOf_X4_setNode
theorem ggX0_setLoadOf_X4_setLoad : GoodIn wsX0_setLoadOf wsX4_setLoad := gi_ (A := ixX0_setLoadOf) (B := ixX4_setLoad) wt748 (by decide +kernel)
theorem gX0_setLoadOf_X4_setLoad : GoodIn wsX0_setLoadOf (wsV RX0 94 RX4 yX4_setLoad wsX4_setLoad) := g4_ (A := ixX0_setLoadOf) wt745 wt746 wt747 wt98 (by decide +kernel) ggX0_setLoadOf_X4_setLoad
theorem ggX0_setLoadOf_X6_get : GoodIn wsX0_setLoadOf wsX6_get := gi_ (A := ixX0_setLoadOf) (B := ixX6_get) wt597 (by decide +kernel)
theorem gX0_setLoadOf_X6_get : GoodIn wsX0_setLoadOf (wsV RX0 30 RX6 yX6_get wsX6_get) := g4_ (A := ixX0_setLoadOf) wt706 wt595 wt596 wt51 (by decide +kernel) ggX0_setLoadOf_X6_get
theorem ggX0_stepJar_X0_arrive : GoodIn wsX0_stepJar wsX0_arrive := gi_ (A := ixX0_stepJar) (B := ixX0_arrive) wt771 (by decide +kernel)
theorem gX0_stepJar_X0_arrive : GoodIn wsX0_stepJar (wsV RX0 59 RX0 yX0_arrive wsX0_arrive) := g4_ (A := ixX0_stepJar) wt768 wt769 wt770 wt28 (by decide +kernel) ggX0_stepJar_X0_arrive
theorem ggX0_stepJar_X0_meltOf : GoodIn wsX0_stepJar wsX0_meltOf := gi_ (A := ixX0_stepJar) (B := ixX0_meltOf) wt715 (by decide +kernel)
theorem gX0_stepJar_X0_meltOf : GoodIn wsX0_stepJar (wsV RX0 52 RX0 yX0_meltOf wsX0_meltOf) := g4_ (A := ixX0_stepJar) wt712 wt713 wt714 wt28 (by decide +kernel) ggX0_stepJar_X0_meltOf
theorem ggX0_stepJar_X6_get : GoodIn wsX0_stepJar wsX6_get := gi_ (A := ixX0_stepJar) (B := ixX6_get) wt597 (by decide +kernel)
theorem gX0_stepJar_X6_get : GoodIn wsX0_stepJar (wsV RX0 30 RX6 yX6_get wsX6_get) := g4_ (A := ixX0_stepJar) wt706 wt595 wt596 wt51 (by decide +kernel) ggX0_stepJar_X6_get
theorem ggX0_stepJar_X6_put : GoodIn wsX0_stepJar wsX6_put := gi_ (A := ixX0_stepJar) (B := ixX6_put) wt183 (by decide +kernel)
theorem gX0_stepJar_X6_put : GoodIn wsX0_stepJar (wsV RX0 48 RX6 yX6_put wsX6_put) := g4_ (A := ixX0_stepJar) wt767 wt181 wt182 wt51 (by decide +kernel) ggX0_stepJar_X6_put
theorem ggX0_step_X0_restOf : GoodIn wsX0_step wsX0_restOf := gi_ (A := ixX0_step) (B := ixX0_restOf) wt800 (by decide +kernel)
theorem gX0_step_X0_restOf : GoodIn wsX0_step (wsV RX0 44 RX0 yX0_restOf wsX0_restOf) := g4_ (A := ixX0_step) wt797 wt798 wt799 wt28 (by decide +kernel) ggX0_step_X0_restOf
theorem ggX0_step_X0_stepJar : GoodIn wsX0_step wsX0_stepJar := gi_ (A := ixX0_step) (B := ixX0_stepJar) wt710 (by decide +kernel)
theorem gX0_step_X0_stepJar : GoodIn wsX0_step (wsV RX0 34 RX0 yX0_stepJar wsX0_stepJar) := g4_ (A := ixX0_step) wt707 wt708 wt709 wt28 (by decide +kernel) ggX0_step_X0_stepJar
theorem ggX0_step_X6_get : GoodIn wsX0_step wsX6_get := gi_ (A := ixX0_step) (B := ixX6_get) wt597 (by decide +kernel)
theorem gX0_step_X6_get : GoodIn wsX0_step (wsV RX0 30 RX6 yX6_get wsX6_get) := g4_ (A := ixX0_step) wt706 wt595 wt596 wt51 (by decide +kernel) ggX0_step_X6_get
theorem ggX0_step_X6_put : GoodIn wsX0_step wsX6_put := gi_ (A := ixX0_step) (B := ixX6_put) wt183 (by decide +kernel)
theorem gX0_step_X6_put : GoodIn wsX0_step (wsV RX0 48 RX6 yX6_put wsX6_put) := g4_ (A := ixX0_step) wt767 wt181 wt182 wt51 (by decide +kernel) ggX0_step_X6_put
