def ixX10_ahead : List Nat := [2, 14, 15, 16, 21, 28, 29, 51, 52, 53, 54, 55, 56, 57, 58, 63, 66, 68, 76, 81, 82, 83, 84, 85, 86, 87, 88, 89, 90, 91, 92, 98, 99, 103, 172, 173, 174, 179, 181, 182, 183, 200, 201, 202, 222, 223, 224, 225, 281, 287, 288, 374, 593, 594, 595, 596, 597, 599, 600, 601, 602, 642, 643, 644, 645, 646, 671, 672, 673, 694, 695, 696, 697, 698, 699, 700, 701, 702, 703, 704, 705, 706, 707, 708, 709, 710, 711, 712, 713, 714, 715, 716, 717, 718, 719, 720, 721, 722, 723, 724, 725, 726, 727, 728, 729, 730, 731, 732, 733, 734, 735, 736, 737, 738, 739, 740, 741, 742, 743, 744, 745, 746, 747, 748, 749, 750, 751, 752, 753, 754, 755, 756, 757, 758, 759, 760, 761, 762, 763, 764, 765, 766, 767, 768, 769, 770, 771, 772, 773, 774, 775, 776, 777, 778, 779, 780, 781, 782, 783, 784, 785, 786, 787, 788, 789, 790, 791, 792, 793, 794, 795, 796, 797, 798, 799, 800, 884, 885, 886, 887, 1358, 1359, 1360, 1361, 1362, 1363, 1364, 1365, 1366, 1367, 1368, 1369, 1370, 1371, 1372, 1373, 1374, 1375, 1376, 1377, 1378, 1379, 1380, 1410, 1411, 1412, 1413, 1414, 1415, 1416, 1417, 1418, 1419, 1420, 1421, 1422, 1423, 1424, 1425, 1426, 1427, 1440, 1441, 1442, 1443, 1457, 1458, 1459, 1476, 1477, 1478, 1479, 1480, 1481, 1482, 1483, 1484, 1485, 1486, 1487, 1488, 1489, 1490, 1491, 1492, 1493, 1494, 1495, 1496, 1497, 1498]
def wsX10_ahead : List Cond := .code yX10_ahead cX10_ahead 6 (some .int) :: ixX10_ahead.map wt
def ixX10_all : List Nat := [2, 14, 15, 21, 32, 36, 37, 44, 45, 51, 53, 54, 63, 68, 76, 81, 82, 83, 84, 85, 86, 87, 88, 89, 90, 91, 92, 98, 103, 109, 111, 112, 117, 118, 119, 120, 121, 135, 136, 137, 172, 173, 174, 179, 200, 201, 202, 217, 281, 374, 590, 591, 592, 593, 594, 595, 596, 597, 599, 600, 601, 602, 671, 672, 673, 694, 695, 696, 697, 718, 719, 720, 721, 722, 723, 724, 725, 726, 727, 729, 730, 731, 733, 734, 735, 737, 738, 739, 740, 746, 747, 748, 750, 751, 752, 753, 754, 755, 756, 757, 758, 759, 760, 761, 762, 763, 764, 765, 766, 942, 957, 958, 959, 960, 961, 962, 963, 964, 965, 973, 975, 976, 977, 978, 979, 980, 981, 982, 983, 984, 985, 986, 987, 988, 989, 990, 1028, 1029, 1030, 1031, 1032, 1033, 1034, 1035, 1036, 1037, 1038, 1039, 1040, 1041, 1042, 1043, 1044, 1045, 1046, 1047, 1048, 1049, 1050, 1051, 1052, 1053, 1054, 1055, 1056, 1057, 1058, 1063, 1064, 1065, 1066, 1067, 1068, 1069, 1070, 1071, 1072, 1073, 1074, 1075, 1076, 1193, 1206, 1207, 1208, 1209, 1210, 1211, 1212, 1213, 1214, 1215, 1227, 1228, 1229, 1230, 1231, 1232, 1233, 1234, 1235, 1236, 1237, 1238, 1239, 1240, 1241, 1242, 1243, 1244, 1245, 1246, 1247, 1248, 1249, 1250, 1251, 1252, 1253, 1254, 1255, 1256, 1257, 1258, 1259, 1260, 1261, 1262, 1263, 1264, 1265, 1266, 1267, 1268, 1269, 1270, 1271, 1272, 1411, 1412, 1413, 1414, 1415, 1416, 1417, 1418, 1419, 1420, 1421, 1422, 1423, 1424, 1425, 1426, 1427, 1436, 1437, 1438, 1439, 1440, 1441, 1442, 1443, 1444, 1445, 1446, 1447, 1448, 1449, 1450, 1451, 1452, 1453, 1454, 1455, 1456, 1457, 1458, 1459, 1460, 1461, 1462, 1463, 1464, 1465, 1466, 1467, 1468, 1476, 1477, 1478, 1479, 1480, 1481, 1482, 1483, 1484, 1485, 1486, 1487, 1488, 1489, 1490, 1491, 1492, 1493, 1494, 1495, 1496, 1497, 1498]
def wsX10_all : List Cond := .code yX10_all cX10_all 6 (some .int) :: ixX10_all.map wt
def ixX10_at : List Nat := [2, 14, 15, 51, 52, 54, 63, 68, 171, 172, 173, 174, 179, 199, 200, 201, 202, 588, 594, 595, 596, 597, 598, 599, 600, 601, 602, 603, 604, 605, 606, 607, 882, 883, 884, 885, 886, 887, 1457, 1458, 1459, 1476, 1477, 1478, 1479, 1480, 1481, 1482, 1483, 1484, 1485, 1486, 1487, 1488, 1489, 1490, 1491, 1492, 1493, 1494, 1495, 1496, 1497, 1498]
def wsX10_at : List Cond := .code yX10_at cX10_at 3 (some .int) :: ixX10_at.map wt
def ixX10_best : List Nat := [2, 14, 15, 21, 32, 33, 36, 37, 51, 53, 63, 68, 76, 81, 82, 83, 84, 85, 86, 87, 88, 89, 90, 91, 92, 98, 103, 109, 111, 112, 117, 118, 119, 120, 121, 171, 172, 173, 174, 179, 199, 200, 201, 202, 218, 219, 220, 281, 374, 587, 593, 594, 595, 596, 597, 599, 600, 601, 602, 671, 672, 673, 694, 695, 696, 697, 718, 719, 720, 721, 722, 723, 724, 725, 726, 727, 729, 730, 731, 733, 734, 735, 737, 738, 739, 740, 746, 747, 748, 750, 751, 752, 753, 754, 755, 756, 757, 758, 759, 760, 761, 762, 763, 764, 765, 766, 953, 954, 955, 956, 957, 958, 959, 960, 961, 962, 963, 964, 965, 973, 975, 976, 977, 978, 979, 980, 981, 982, 983, 984, 985, 986, 987, 988, 989, 990, 1019, 1020, 1021, 1022, 1023, 1024, 1025, 1026, 1027, 1028, 1029, 1030, 1031, 1032, 1033, 1034, 1035, 1036, 1037, 1038, 1039, 1040, 1041, 1042, 1043, 1044, 1045, 1046, 1047, 1048, 1049, 1050, 1051, 1052, 1053, 1054, 1055, 1056, 1057, 1058, 1059, 1060, 1061, 1062, 1063, 1064, 1065, 1066, 1067, 1068, 1069, 1070, 1071, 1072, 1073, 1074, 1075, 1076, 1077, 1078, 1079, 1080, 1411, 1412, 1413, 1414, 1415, 1416, 1417, 1418, 1419, 1420, 1421, 1422, 1423, 1424, 1425, 1426, 1427, 1440, 1441, 1442, 1443, 1444, 1445, 1446, 1447, 1448, 1449, 1450, 1451, 1452, 1453, 1454, 1455, 1456, 1457, 1458, 1459, 1460, 1461, 1462, 1463, 1464, 1465, 1466, 1467, 1468, 1476, 1477, 1478, 1479, 1480, 1481, 1482, 1483, 1484, 1485, 1486, 1487, 1488, 1489, 1490, 1491, 1492, 1493, 1494, 1495, 1496, 1497, 1498]
def wsX10_best : List Cond := .code yX10_best cX10_best 10 (some .int) :: ixX10_best.map wt
def ixX10_count : List Nat := [14, 15, 171, 198, 217, 246, 255, 281, 588, 598, 599, 600, 601, 602, 915, 916, 942, 1193, 1293, 1388, 1457, 1458, 1459, 1476, 1477, 1478, 1479, 1480, 1481, 1482, 1483, 1484, 1485, 1486, 1487, 1488, 1489, 1490, 1491, 1492, 1493, 1494, 1495, 1496, 1497, 1498]
def wsX10_count : List Cond := .code yX10_count cX10_count 2 (some .int) :: ixX10_count.map wt
def ixX10_end : List Nat := [2, 172, 173, 174, 255, 272, 1486, 1487, 1488, 1489, 1490, 1491, 1492, 1493, 1494, 1495, 1496, 1497, 1498]
def wsX10_end : List Cond := .code yX10_end cX10_end 2 (some .int) :: ixX10_end.map wt
def ixX10_enough : List Nat := [2, 14, 15, 21, 28, 29, 51, 63, 68, 76, 81, 82, 83, 84, 85, 86, 87, 88, 89, 90, 91, 92, 98, 99, 103, 171, 172, 173, 174, 179, 199, 200, 201, 202, 281, 374, 595, 596, 597, 599, 600, 601, 602, 660, 694, 695, 696, 697, 703, 705, 706, 716, 721, 727, 732, 733, 734, 735, 736, 737, 738, 739, 740, 745, 746, 747, 748, 749, 750, 751, 752, 753, 754, 755, 756, 757, 758, 759, 760, 761, 762, 763, 764, 765, 766, 797, 798, 799, 800, 1302, 1303, 1304, 1305, 1306, 1307, 1308, 1309, 1310, 1311, 1312, 1313, 1314, 1315, 1410, 1411, 1412, 1413, 1414, 1415, 1416, 1417, 1418, 1419, 1420, 1421, 1422, 1423, 1424, 1425, 1426, 1427, 1440, 1441, 1442, 1443, 1457, 1458, 1459, 1476, 1477, 1478, 1479, 1480, 1481, 1482, 1483, 1484, 1485, 1486, 1487, 1488, 1489, 1490, 1491, 1492, 1493, 1494, 1495, 1496, 1497, 1498]
def wsX10_enough : List Cond := .code yX10_enough cX10_enough 5 (some .int) :: ixX10_enough.map wt
def ixX10_feed : List Nat := [2, 19, 254, 255, 256, 257, 258, 259, 1486, 1487, 1488, 1489, 1490, 1491, 1492, 1493, 1494, 1495, 1496, 1497, 1498]
def wsX10_feed : List Cond := .code yX10_feed cX10_feed 6 (some .int) :: ixX10_feed.map wt
def ixX10_fill : List Nat := [2, 14, 15, 51, 52, 54, 63, 68, 172, 173, 174, 179, 180, 181, 182, 183, 200, 201, 202, 217, 586, 587, 588, 589, 590, 591, 592, 593, 594, 595, 596, 597, 598, 599, 600, 601, 602, 603, 604, 605, 606, 607, 1457, 1458, 1459, 1476, 1477, 1478, 1479, 1480, 1481, 1482, 1483, 1484, 1485, 1486, 1487, 1488, 1489, 1490, 1491, 1492, 1493, 1494, 1495, 1496, 1497, 1498]
def wsX10_fill : List Cond := .code yX10_fill cX10_fill 5 (some .int) :: ixX10_fill.map wt
def ixX10_guess : List Nat := [2, 14, 15, 21, 32, 33, 40, 41, 51, 53, 63, 65, 66, 67, 68, 76, 81, 82, 83, 84, 85, 86, 87, 88, 89, 90, 91, 92, 98, 103, 109, 111, 112, 126, 127, 128, 129, 130, 172, 173, 174, 179, 199, 200, 201, 202, 218, 219, 220, 281, 287, 288, 374, 587, 593, 594, 595, 596, 597, 599, 600, 601, 602, 671, 672, 673, 694, 695, 696, 697, 718, 719, 720, 721, 722, 723, 724, 725, 726, 727, 729, 730, 731, 733, 734, 735, 737, 738, 739, 740, 746, 747, 748, 750, 751, 752, 753, 754, 755, 756, 757, 758, 759, 760, 761, 762, 763, 764, 765, 766, 915, 916, 953, 954, 955, 956, 957, 958, 959, 960, 961, 962, 963, 964, 965, 973, 975, 976, 977, 978, 979, 980, 981, 982, 983, 984, 985, 986, 987, 988, 989, 990, 1138, 1139, 1140, 1141, 1142, 1143, 1144, 1145, 1146, 1147, 1148, 1149, 1150, 1151, 1152, 1153, 1154, 1155, 1156, 1157, 1158, 1159, 1160, 1161, 1162, 1163, 1164, 1165, 1166, 1167, 1168, 1169, 1170, 1171, 1172, 1173, 1174, 1175, 1411, 1412, 1413, 1414, 1415, 1416, 1417, 1418, 1419, 1420, 1421, 1422, 1423, 1424, 1425, 1426, 1427, 1440, 1441, 1442, 1443, 1457, 1458, 1459, 1460, 1461, 1462, 1463, 1464, 1465, 1466, 1467, 1468, 1469, 1470, 1471, 1472, 1473, 1474, 1475, 1476, 1477, 1478, 1479, 1480, 1481, 1482, 1483, 1484, 1485, 1486, 1487, 1488, 1489, 1490, 1491, 1492, 1493, 1494, 1495, 1496, 1497, 1498]
def wsX10_guess : List Cond := .code yX10_guess cX10_guess 13 (some .int) :: ixX10_guess.map wt
def ixX10_isCover : List Nat := [2, 172, 173, 174, 220]
def wsX10_isCover : List Cond := .code yX10_isCover cX10_isCover 2 (some .boolean) :: ixX10_isCover.map wt
def ixX10_isJourney : List Nat := [15, 51, 171, 179, 199, 200, 201, 202, 1026, 1457, 1458, 1459, 1476, 1477, 1478, 1479, 1480, 1481, 1482, 1483, 1484, 1485, 1486, 1487, 1488, 1489, 1490, 1491, 1492, 1493, 1494, 1495, 1496, 1497, 1498]
def wsX10_isJourney : List Cond := .code yX10_isJourney cX10_isJourney 3 (some .boolean) :: ixX10_isJourney.map wt
def ixX10_isLoad : List Nat := [2, 172, 173, 174, 218, 219, 220, 587, 955]
def wsX10_isLoad : List Cond := .code yX10_isLoad cX10_isLoad 4 (some .boolean) :: ixX10_isLoad.map wt
def ixX10_isWish : List Nat := [587, 1196]
def wsX10_isWish : List Cond := .code yX10_isWish cX10_isWish 1 (some .boolean) :: ixX10_isWish.map wt
def ixX10_lawOf : List Nat := [2, 21, 172, 173, 174, 281, 697, 1486, 1487, 1488, 1489, 1490, 1491, 1492, 1493, 1494, 1495, 1496, 1497, 1498]
def wsX10_lawOf : List Cond := .code yX10_lawOf cX10_lawOf 2 (some (.object "SnowMules$Law")) :: ixX10_lawOf.map wt
def ixX10_lay : List Nat := [14, 15, 51, 53, 57, 58, 63, 68, 175, 176, 177, 178, 179, 180, 181, 182, 183, 200, 201, 202, 593, 594, 595, 596, 597, 670, 671, 672, 673, 887, 914, 915, 916, 917, 918, 919, 920, 921, 922, 923, 924, 925, 1457, 1458, 1459, 1476, 1477, 1478, 1479, 1480, 1481, 1482, 1483, 1484, 1485, 1486, 1487, 1488, 1489, 1490, 1491, 1492, 1493, 1494, 1495, 1496, 1497, 1498]
def wsX10_lay : List Cond := .code yX10_lay cX10_lay 4 (some .int) :: ixX10_lay.map wt
def ixX10_least : List Nat := [2, 14, 15, 21, 28, 29, 51, 63, 68, 76, 81, 82, 83, 84, 85, 86, 87, 88, 89, 90, 91, 92, 98, 99, 103, 171, 172, 173, 174, 179, 199, 200, 201, 202, 281, 374, 595, 596, 597, 599, 600, 601, 602, 694, 695, 696, 697, 703, 705, 706, 716, 721, 727, 732, 733, 734, 735, 736, 737, 738, 739, 740, 745, 746, 747, 748, 749, 750, 751, 752, 753, 754, 755, 756, 757, 758, 759, 760, 761, 762, 763, 764, 765, 766, 797, 798, 799, 800, 1303, 1304, 1305, 1306, 1307, 1308, 1309, 1310, 1311, 1312, 1313, 1314, 1315, 1327, 1410, 1411, 1412, 1413, 1414, 1415, 1416, 1417, 1418, 1419, 1420, 1421, 1422, 1423, 1424, 1425, 1426, 1427, 1440, 1441, 1442, 1443, 1457, 1458, 1459, 1476, 1477, 1478, 1479, 1480, 1481, 1482, 1483, 1484, 1485, 1486, 1487, 1488, 1489, 1490, 1491, 1492, 1493, 1494, 1495, 1496, 1497, 1498]
def wsX10_least : List Cond := .code yX10_least cX10_least 5 (some .int) :: ixX10_least.map wt
def ixX10_leave : List Nat := [14, 15, 51, 53, 54, 63, 68, 179, 180, 181, 182, 183, 200, 201, 202, 217, 589, 590, 591, 592, 593, 594, 595, 596, 597, 669, 670, 671, 672, 673, 1457, 1458, 1459, 1476, 1477, 1478, 1479, 1480, 1481, 1482, 1483, 1484, 1485, 1486, 1487, 1488, 1489, 1490, 1491, 1492, 1493, 1494, 1495, 1496, 1497, 1498]
def wsX10_leave : List Cond := .code yX10_leave cX10_leave 5 (some .boolean) :: ixX10_leave.map wt
def ixX10_melt : List Nat := [2, 14, 15, 21, 28, 29, 51, 53, 63, 68, 76, 81, 82, 83, 84, 85, 86, 87, 88, 89, 90, 91, 92, 98, 99, 103, 172, 173, 174, 179, 199, 200, 201, 202, 217, 281, 374, 593, 594, 595, 596, 597, 599, 600, 601, 602, 607, 671, 672, 673, 694, 695, 696, 697, 702, 705, 706, 713, 714, 715, 716, 717, 718, 719, 720, 721, 722, 723, 724, 725, 726, 727, 728, 729, 730, 731, 732, 733, 734, 735, 736, 737, 738, 739, 740, 741, 742, 743, 744, 745, 746, 747, 748, 749, 750, 751, 752, 753, 754, 755, 756, 757, 758, 759, 760, 761, 762, 763, 764, 765, 766, 905, 906, 1410, 1411, 1412, 1413, 1414, 1415, 1416, 1417, 1418, 1419, 1420, 1421, 1422, 1423, 1424, 1425, 1426, 1427, 1440, 1441, 1442, 1443, 1457, 1458, 1459, 1476, 1477, 1478, 1479, 1480, 1481, 1482, 1483, 1484, 1485, 1486, 1487, 1488, 1489, 1490, 1491, 1492, 1493, 1494, 1495, 1496, 1497, 1498]
def wsX10_melt : List Cond := .code yX10_melt cX10_melt 4 (some .int) :: ixX10_melt.map wt
def ixX10_nearest : List Nat := [2, 14, 15, 36, 37, 51, 52, 63, 68, 117, 120, 171, 172, 173, 174, 179, 199, 200, 201, 202, 594, 595, 596, 597, 603, 604, 605, 606, 942, 1034, 1041, 1042, 1043, 1044, 1045, 1046, 1047, 1048, 1049, 1050, 1051, 1052, 1053, 1054, 1055, 1056, 1057, 1058, 1105, 1106, 1107, 1119, 1444, 1445, 1446, 1447, 1448, 1449, 1450, 1451, 1452, 1453, 1454, 1455, 1456, 1457, 1458, 1459, 1476, 1477, 1478, 1479, 1480, 1481, 1482, 1483, 1484, 1485, 1486, 1487, 1488, 1489, 1490, 1491, 1492, 1493, 1494, 1495, 1496, 1497, 1498]
def wsX10_nearest : List Cond := .code yX10_nearest cX10_nearest 6 (some .int) :: ixX10_nearest.map wt
def ixX10_nights : List Nat := [2, 14, 15, 18, 21, 32, 33, 51, 53, 63, 68, 76, 81, 82, 83, 84, 85, 86, 87, 88, 89, 90, 91, 92, 98, 103, 109, 111, 112, 172, 173, 174, 179, 199, 200, 201, 202, 217, 246, 281, 374, 587, 588, 593, 594, 595, 596, 597, 599, 600, 601, 602, 607, 671, 672, 673, 694, 695, 696, 697, 718, 719, 720, 721, 722, 723, 724, 725, 726, 727, 729, 730, 731, 733, 734, 735, 737, 738, 739, 740, 746, 747, 748, 750, 751, 752, 753, 754, 755, 756, 757, 758, 759, 760, 761, 762, 763, 764, 765, 766, 776, 777, 778, 779, 780, 781, 782, 783, 915, 951, 956, 957, 958, 959, 960, 961, 962, 963, 964, 965, 970, 971, 972, 973, 974, 975, 976, 977, 978, 979, 980, 981, 982, 983, 984, 985, 986, 987, 988, 989, 990, 1336, 1337, 1338, 1339, 1340, 1341, 1411, 1412, 1413, 1414, 1415, 1416, 1417, 1418, 1419, 1420, 1421, 1422, 1423, 1424, 1425, 1426, 1427, 1440, 1441, 1442, 1443, 1457, 1458, 1459, 1460, 1461, 1462, 1463, 1464, 1465, 1466, 1467, 1468, 1476, 1477, 1478, 1479, 1480, 1481, 1482, 1483, 1484, 1485, 1486, 1487, 1488, 1489, 1490, 1491, 1492, 1493, 1494, 1495, 1496, 1497, 1498]
def wsX10_nights : List Cond := .code yX10_nights cX10_nights 14 (some .int) :: ixX10_nights.map wt
def ixX10_of : List Nat := [2, 15, 51, 63, 68, 172, 173, 174, 179, 199, 200, 201, 202, 217, 595, 596, 597, 607, 896, 1457, 1458, 1459, 1476, 1477, 1478, 1479, 1480, 1481, 1482, 1483, 1484, 1485, 1486, 1487, 1488, 1489, 1490, 1491, 1492, 1493, 1494, 1495, 1496, 1497, 1498]
def wsX10_of : List Cond := .code yX10_of cX10_of 3 (some .int) :: ixX10_of.map wt
def ixX10_pour : List Nat := [14, 15, 51, 52, 54, 63, 66, 68, 179, 180, 181, 182, 183, 200, 201, 202, 217, 225, 287, 288, 589, 590, 591, 592, 593, 594, 595, 596, 597, 607, 640, 641, 642, 643, 644, 645, 646, 1457, 1458, 1459, 1476, 1477, 1478, 1479, 1480, 1481, 1482, 1483, 1484, 1485, 1486, 1487, 1488, 1489, 1490, 1491, 1492, 1493, 1494, 1495, 1496, 1497, 1498]
def wsX10_pour : List Cond := .code yX10_pour cX10_pour 4 (some .int) :: ixX10_pour.map wt
def ixX10_price : List Nat := [2, 14, 15, 21, 32, 33, 36, 37, 51, 53, 63, 68, 76, 81, 82, 83, 84, 85, 86, 87, 88, 89, 90, 91, 92, 98, 103, 109, 111, 112, 117, 118, 119, 120, 121, 171, 172, 173, 174, 179, 198, 199, 200, 201, 202, 218, 219, 220, 281, 374, 587, 593, 594, 595, 596, 597, 599, 600, 601, 602, 671, 672, 673, 694, 695, 696, 697, 718, 719, 720, 721, 722, 723, 724, 725, 726, 727, 729, 730, 731, 733, 734, 735, 737, 738, 739, 740, 746, 747, 748, 750, 751, 752, 753, 754, 755, 756, 757, 758, 759, 760, 761, 762, 763, 764, 765, 766, 953, 954, 955, 956, 957, 958, 959, 960, 961, 962, 963, 964, 965, 973, 975, 976, 977, 978, 979, 980, 981, 982, 983, 984, 985, 986, 987, 988, 989, 990, 1020, 1023, 1024, 1025, 1026, 1027, 1028, 1029, 1030, 1031, 1032, 1033, 1034, 1035, 1036, 1037, 1038, 1039, 1040, 1041, 1042, 1043, 1044, 1045, 1046, 1047, 1048, 1049, 1050, 1051, 1052, 1053, 1054, 1055, 1056, 1057, 1058, 1059, 1060, 1061, 1062, 1063, 1064, 1065, 1066, 1067, 1068, 1069, 1070, 1071, 1072, 1073, 1074, 1075, 1076, 1350, 1411, 1412, 1413, 1414, 1415, 1416, 1417, 1418, 1419, 1420, 1421, 1422, 1423, 1424, 1425, 1426, 1427, 1440, 1441, 1442, 1443, 1444, 1445, 1446, 1447, 1448, 1449, 1450, 1451, 1452, 1453, 1454, 1455, 1456, 1457, 1458, 1459, 1460, 1461, 1462, 1463, 1464, 1465, 1466, 1467, 1468, 1476, 1477, 1478, 1479, 1480, 1481, 1482, 1483, 1484, 1485, 1486, 1487, 1488, 1489, 1490, 1491, 1492, 1493, 1494, 1495, 1496, 1497, 1498]
def wsX10_price : List Cond := .code yX10_price cX10_price 9 (some .int) :: ixX10_price.map wt
def ixX10_seed : List Nat := [15, 245, 246, 1476, 1477, 1478, 1479, 1480, 1481, 1482, 1483, 1484, 1485, 1486, 1487, 1488, 1489, 1490, 1491, 1492, 1493, 1494, 1495, 1496, 1497, 1498]
def wsX10_seed : List Cond := .code yX10_seed cX10_seed 3 (some .int) :: ixX10_seed.map wt
def ixX10_serves : List Nat := [2, 14, 15, 21, 32, 36, 37, 51, 53, 54, 63, 68, 76, 81, 82, 83, 84, 85, 86, 87, 88, 89, 90, 91, 92, 98, 103, 109, 111, 112, 117, 118, 119, 120, 121, 172, 173, 174, 179, 199, 200, 201, 202, 217, 281, 374, 590, 591, 592, 593, 594, 595, 596, 597, 599, 600, 601, 602, 671, 672, 673, 694, 695, 696, 697, 718, 719, 720, 721, 722, 723, 724, 725, 726, 727, 729, 730, 731, 733, 734, 735, 737, 738, 739, 740, 746, 747, 748, 750, 751, 752, 753, 754, 755, 756, 757, 758, 759, 760, 761, 762, 763, 764, 765, 766, 957, 958, 959, 960, 961, 962, 963, 964, 965, 973, 975, 976, 977, 978, 979, 980, 981, 982, 983, 984, 985, 986, 987, 988, 989, 990, 1028, 1029, 1030, 1031, 1032, 1033, 1034, 1035, 1036, 1037, 1038, 1039, 1040, 1041, 1042, 1043, 1044, 1045, 1046, 1047, 1048, 1049, 1050, 1051, 1052, 1053, 1054, 1055, 1056, 1057, 1058, 1063, 1064, 1065, 1066, 1067, 1068, 1069, 1070, 1071, 1072, 1073, 1074, 1075, 1076, 1193, 1205, 1206, 1207, 1208, 1209, 1210, 1211, 1212, 1213, 1214, 1215, 1411, 1412, 1413, 1414, 1415, 1416, 1417, 1418, 1419, 1420, 1421, 1422, 1423, 1424, 1425, 1426, 1427, 1440, 1441, 1442, 1443, 1444, 1445, 1446, 1447, 1448, 1449, 1450, 1451, 1452, 1453, 1454, 1455, 1456, 1457, 1458, 1459, 1460, 1461, 1462, 1463, 1464, 1465, 1466, 1467, 1468, 1476, 1477, 1478, 1479, 1480, 1481, 1482, 1483, 1484, 1485, 1486, 1487, 1488, 1489, 1490, 1491, 1492, 1493, 1494, 1495, 1496, 1497, 1498]
def wsX10_serves : List Cond := .code yX10_serves cX10_serves 5 (some .int) :: ixX10_serves.map wt
def ixX10_soonest : List Nat := [15, 36, 37, 51, 63, 68, 117, 120, 171, 179, 199, 200, 201, 202, 595, 596, 597, 1034, 1041, 1042, 1043, 1044, 1045, 1046, 1047, 1048, 1049, 1050, 1051, 1052, 1053, 1054, 1055, 1056, 1057, 1058, 1104, 1105, 1106, 1107, 1444, 1445, 1446, 1447, 1448, 1449, 1450, 1451, 1452, 1453, 1454, 1455, 1456, 1457, 1458, 1459, 1476, 1477, 1478, 1479, 1480, 1481, 1482, 1483, 1484, 1485, 1486, 1487, 1488, 1489, 1490, 1491, 1492, 1493, 1494, 1495, 1496, 1497, 1498]
def wsX10_soonest : List Cond := .code yX10_soonest cX10_soonest 4 (some .int) :: ixX10_soonest.map wt
def ixX10_store : List Nat := [2, 15, 51, 63, 68, 171, 172, 173, 174, 179, 180, 181, 182, 183, 199, 200, 201, 202, 595, 596, 597, 607, 659, 660, 1457, 1458, 1459, 1476, 1477, 1478, 1479, 1480, 1481, 1482, 1483, 1484, 1485, 1486, 1487, 1488, 1489, 1490, 1491, 1492, 1493, 1494, 1495, 1496, 1497, 1498]
def wsX10_store : List Cond := .code yX10_store cX10_store 4 (some .int) :: ixX10_store.map wt
def ixX10_tick : List Nat := [2, 14, 15, 21, 28, 29, 51, 52, 53, 54, 63, 66, 68, 76, 81, 82, 83, 84, 85, 86, 87, 88, 89, 90, 91, 92, 98, 99, 103, 172, 173, 174, 179, 181, 182, 183, 200, 201, 202, 222, 223, 224, 225, 281, 287, 288, 374, 587, 588, 593, 594, 595, 596, 597, 599, 600, 601, 602, 642, 643, 644, 645, 646, 671, 672, 673, 693, 694, 695, 696, 697, 698, 699, 700, 701, 702, 703, 704, 705, 706, 707, 708, 709, 710, 711, 712, 713, 714, 715, 716, 717, 718, 719, 720, 721, 722, 723, 724, 725, 726, 727, 728, 729, 730, 731, 732, 733, 734, 735, 736, 737, 738, 739, 740, 741, 742, 743, 744, 745, 746, 747, 748, 749, 750, 751, 752, 753, 754, 755, 756, 757, 758, 759, 760, 761, 762, 763, 764, 765, 766, 767, 768, 769, 770, 771, 772, 773, 774, 775, 776, 777, 778, 779, 780, 781, 782, 783, 784, 785, 786, 787, 788, 789, 790, 791, 792, 793, 794, 795, 796, 797, 798, 799, 800, 1410, 1411, 1412, 1413, 1414, 1415, 1416, 1417, 1418, 1419, 1420, 1421, 1422, 1423, 1424, 1425, 1426, 1427, 1440, 1441, 1442, 1443, 1457, 1458, 1459, 1476, 1477, 1478, 1479, 1480, 1481, 1482, 1483, 1484, 1485, 1486, 1487, 1488, 1489, 1490, 1491, 1492, 1493, 1494, 1495, 1496, 1497, 1498]
def wsX10_tick : List Cond := .code yX10_tick cX10_tick 5 (some .int) :: ixX10_tick.map wt
def ixX10_tried : List Nat := [2, 14, 15, 21, 32, 33, 51, 53, 63, 68, 76, 81, 82, 83, 84, 85, 86, 87, 88, 89, 90, 91, 92, 98, 103, 109, 111, 112, 172, 173, 174, 179, 200, 201, 202, 218, 219, 220, 281, 374, 587, 593, 594, 595, 596, 597, 599, 600, 601, 602, 671, 672, 673, 694, 695, 696, 697, 718, 719, 720, 721, 722, 723, 724, 725, 726, 727, 729, 730, 731, 733, 734, 735, 737, 738, 739, 740, 746, 747, 748, 750, 751, 752, 753, 754, 755, 756, 757, 758, 759, 760, 761, 762, 763, 764, 765, 766, 915, 950, 951, 952, 953, 954, 955, 956, 957, 958, 959, 960, 961, 962, 963, 964, 965, 966, 967, 968, 969, 970, 971, 972, 973, 974, 975, 976, 977, 978, 979, 980, 981, 982, 983, 984, 985, 986, 987, 988, 989, 990, 1411, 1412, 1413, 1414, 1415, 1416, 1417, 1418, 1419, 1420, 1421, 1422, 1423, 1424, 1425, 1426, 1427, 1440, 1441, 1442, 1443, 1457, 1458, 1459, 1460, 1461, 1462, 1463, 1464, 1465, 1466, 1467, 1468, 1476, 1477, 1478, 1479, 1480, 1481, 1482, 1483, 1484, 1485, 1486, 1487, 1488, 1489, 1490, 1491, 1492, 1493, 1494, 1495, 1496, 1497, 1498]
def wsX10_tried : List Cond := .code yX10_tried cX10_tried 8 (some .int) :: ixX10_tried.map wt
def ixX10_warmer : List Nat := [2, 14, 15, 21, 32, 33, 51, 53, 63, 65, 66, 67, 68, 76, 81, 82, 83, 84, 85, 86, 87, 88, 89, 90, 91, 92, 98, 103, 109, 111, 112, 172, 173, 174, 179, 200, 201, 202, 218, 219, 220, 281, 374, 587, 593, 594, 595, 596, 597, 599, 600, 601, 602, 671, 672, 673, 694, 695, 696, 697, 718, 719, 720, 721, 722, 723, 724, 725, 726, 727, 729, 730, 731, 733, 734, 735, 737, 738, 739, 740, 746, 747, 748, 750, 751, 752, 753, 754, 755, 756, 757, 758, 759, 760, 761, 762, 763, 764, 765, 766, 915, 953, 954, 955, 956, 957, 958, 959, 960, 961, 962, 963, 964, 965, 966, 967, 968, 969, 970, 971, 972, 973, 974, 975, 976, 977, 978, 979, 980, 981, 982, 983, 984, 985, 986, 987, 988, 989, 990, 1127, 1128, 1129, 1130, 1411, 1412, 1413, 1414, 1415, 1416, 1417, 1418, 1419, 1420, 1421, 1422, 1423, 1424, 1425, 1426, 1427, 1440, 1441, 1442, 1443, 1457, 1458, 1459, 1460, 1461, 1462, 1463, 1464, 1465, 1466, 1467, 1468, 1476, 1477, 1478, 1479, 1480, 1481, 1482, 1483, 1484, 1485, 1486, 1487, 1488, 1489, 1490, 1491, 1492, 1493, 1494, 1495, 1496, 1497, 1498]
def wsX10_warmer : List Cond := .code yX10_warmer cX10_warmer 10 (some .int) :: ixX10_warmer.map wt
def ixX10_writeBytes : List Nat := [19, 255, 259, 1486, 1487, 1488, 1489, 1490, 1491, 1492, 1493, 1494, 1495, 1496, 1497, 1498]
def wsX10_writeBytes : List Cond := .code yX10_writeBytes cX10_writeBytes 3 none :: ixX10_writeBytes.map wt
theorem ggX10_ahead_X10_lawOf : GoodIn wsX10_ahead wsX10_lawOf := gi_ (A := ixX10_ahead) (B := ixX10_lawOf) wt697 (by decide +kernel)
theorem gX10_ahead_X10_lawOf : GoodIn wsX10_ahead (wsV RX10 161 RX10 yX10_lawOf wsX10_lawOf) := g4_ (A := ixX10_ahead) wt694 wt695 wt696 wt2 (by decide +kernel) ggX10_ahead_X10_lawOf
theorem ggX10_all_X10_lawOf : GoodIn wsX10_all wsX10_lawOf := gi_ (A := ixX10_all) (B := ixX10_lawOf) wt697 (by decide +kernel)
theorem gX10_all_X10_lawOf : GoodIn wsX10_all (wsV RX10 161 RX10 yX10_lawOf wsX10_lawOf) := g4_ (A := ixX10_all) wt694 wt695 wt696 wt2 (by decide +kernel) ggX10_all_X10_lawOf
theorem ggX10_at_X10_within : GoodIn wsX10_at wsX10_within := gi_ (A := ixX10_at) (B := ixX10_within) wt174 (by decide +kernel)
theorem gX10_at_X10_within : GoodIn wsX10_at (va_wsS RX10 79 yX10_within wsX10_within) := g3_ (A := ixX10_at) wt172 wt173 wt2 (by decide +kernel) ggX10_at_X10_within
theorem ggX10_at_X6_get : GoodIn wsX10_at wsX6_get := gi_ (A := ixX10_at) (B := ixX6_get) wt597 (by decide +kernel)
theorem gX10_at_X6_get : GoodIn wsX10_at (wsV RX10 150 RX6 yX6_get wsX6_get) := g4_ (A := ixX10_at) wt607 wt595 wt596 wt51 (by decide +kernel) ggX10_at_X6_get
theorem ggX10_at_X6_has : GoodIn wsX10_at wsX6_has := gi_ (A := ixX10_at) (B := ixX6_has) wt202 (by decide +kernel)
theorem gX10_at_X6_has : GoodIn wsX10_at (wsV RX10 97 RX6 yX6_has wsX6_has) := g4_ (A := ixX10_at) wt199 wt200 wt201 wt51 (by decide +kernel) ggX10_at_X6_has
theorem ggX10_at_X9_hasSnow : GoodIn wsX10_at wsX9_hasSnow := gi_ (A := ixX10_at) (B := ixX9_hasSnow) wt606 (by decide +kernel)
theorem gX10_at_X9_hasSnow : GoodIn wsX10_at (wsV RX10 147 RX9 yX9_hasSnow wsX9_hasSnow) := g4_ (A := ixX10_at) wt603 wt604 wt605 wt14 (by decide +kernel) ggX10_at_X9_hasSnow
theorem ggX10_at_X9_jarsAt : GoodIn wsX10_at wsX9_jarsAt := gi_ (A := ixX10_at) (B := ixX9_jarsAt) wt886 (by decide +kernel)
theorem gX10_at_X9_jarsAt : GoodIn wsX10_at (wsV RX10 169 RX9 yX9_jarsAt wsX9_jarsAt) := g4_ (A := ixX10_at) wt883 wt884 wt885 wt14 (by decide +kernel) ggX10_at_X9_jarsAt
theorem ggX10_at_X9_monthAt : GoodIn wsX10_at wsX9_monthAt := gi_ (A := ixX10_at) (B := ixX9_monthAt) wt601 (by decide +kernel)
theorem gX10_at_X9_monthAt : GoodIn wsX10_at (wsV RX10 144 RX9 yX9_monthAt wsX9_monthAt) := g4_ (A := ixX10_at) wt598 wt599 wt600 wt14 (by decide +kernel) ggX10_at_X9_monthAt
theorem ggX10_best_X10_lawOf : GoodIn wsX10_best wsX10_lawOf := gi_ (A := ixX10_best) (B := ixX10_lawOf) wt697 (by decide +kernel)
theorem gX10_best_X10_lawOf : GoodIn wsX10_best (wsV RX10 161 RX10 yX10_lawOf wsX10_lawOf) := g4_ (A := ixX10_best) wt694 wt695 wt696 wt2 (by decide +kernel) ggX10_best_X10_lawOf
theorem ggX10_count_X9_monthAt : GoodIn wsX10_count wsX9_monthAt := gi_ (A := ixX10_count) (B := ixX9_monthAt) wt601 (by decide +kernel)
theorem gX10_count_X9_monthAt : GoodIn wsX10_count (wsV RX10 144 RX9 yX9_monthAt wsX9_monthAt) := g4_ (A := ixX10_count) wt598 wt599 wt600 wt14 (by decide +kernel) ggX10_count_X9_monthAt
theorem ggX10_end_X10_within : GoodIn wsX10_end wsX10_within := gi_ (A := ixX10_end) (B := ixX10_within) wt174 (by decide +kernel)
theorem gX10_end_X10_within : GoodIn wsX10_end (va_wsS RX10 79 yX10_within wsX10_within) := g3_ (A := ixX10_end) wt172 wt173 wt2 (by decide +kernel) ggX10_end_X10_within
theorem ggX10_enough_X10_lawOf : GoodIn wsX10_enough wsX10_lawOf := gi_ (A := ixX10_enough) (B := ixX10_lawOf) wt697 (by decide +kernel)
theorem gX10_enough_X10_lawOf : GoodIn wsX10_enough (wsV RX10 161 RX10 yX10_lawOf wsX10_lawOf) := g4_ (A := ixX10_enough) wt694 wt695 wt696 wt2 (by decide +kernel) ggX10_enough_X10_lawOf
theorem ggX10_feed_X10_writeBytes : GoodIn wsX10_feed wsX10_writeBytes := gi_ (A := ixX10_feed) (B := ixX10_writeBytes) wt259 (by decide +kernel)
theorem gX10_feed_X10_writeBytes : GoodIn wsX10_feed (wsV RX10 124 RX10 yX10_writeBytes wsX10_writeBytes) := g4_ (A := ixX10_feed) wt256 wt257 wt258 wt2 (by decide +kernel) ggX10_feed_X10_writeBytes
theorem ggX10_fill_X10_within : GoodIn wsX10_fill wsX10_within := gi_ (A := ixX10_fill) (B := ixX10_within) wt174 (by decide +kernel)
theorem gX10_fill_X10_within : GoodIn wsX10_fill (va_wsS RX10 79 yX10_within wsX10_within) := g3_ (A := ixX10_fill) wt172 wt173 wt2 (by decide +kernel) ggX10_fill_X10_within
theorem ggX10_fill_X6_get : GoodIn wsX10_fill wsX6_get := gi_ (A := ixX10_fill) (B := ixX6_get) wt597 (by decide +kernel)
theorem gX10_fill_X6_get : GoodIn wsX10_fill (wsV RX10 150 RX6 yX6_get wsX6_get) := g4_ (A := ixX10_fill) wt607 wt595 wt596 wt51 (by decide +kernel) ggX10_fill_X6_get
theorem ggX10_fill_X6_put : GoodIn wsX10_fill wsX6_put := gi_ (A := ixX10_fill) (B := ixX6_put) wt183 (by decide +kernel)
theorem gX10_fill_X6_put : GoodIn wsX10_fill (wsV RX10 93 RX6 yX6_put wsX6_put) := g4_ (A := ixX10_fill) wt180 wt181 wt182 wt51 (by decide +kernel) ggX10_fill_X6_put
theorem ggX10_fill_X9_hasSnow : GoodIn wsX10_fill wsX9_hasSnow := gi_ (A := ixX10_fill) (B := ixX9_hasSnow) wt606 (by decide +kernel)
theorem gX10_fill_X9_hasSnow : GoodIn wsX10_fill (wsV RX10 147 RX9 yX9_hasSnow wsX9_hasSnow) := g4_ (A := ixX10_fill) wt603 wt604 wt605 wt14 (by decide +kernel) ggX10_fill_X9_hasSnow
theorem ggX10_fill_X9_monthAt : GoodIn wsX10_fill wsX9_monthAt := gi_ (A := ixX10_fill) (B := ixX9_monthAt) wt601 (by decide +kernel)
theorem gX10_fill_X9_monthAt : GoodIn wsX10_fill (wsV RX10 144 RX9 yX9_monthAt wsX9_monthAt) := g4_ (A := ixX10_fill) wt598 wt599 wt600 wt14 (by decide +kernel) ggX10_fill_X9_monthAt
theorem ggX10_fill_X9_nodeOf : GoodIn wsX10_fill wsX9_nodeOf := gi_ (A := ixX10_fill) (B := ixX9_nodeOf) wt592 (by decide +kernel)
theorem gX10_fill_X9_nodeOf : GoodIn wsX10_fill (wsV RX10 136 RX9 yX9_nodeOf wsX9_nodeOf) := g4_ (A := ixX10_fill) wt589 wt590 wt591 wt14 (by decide +kernel) ggX10_fill_X9_nodeOf
theorem ggX10_guess_X10_lawOf : GoodIn wsX10_guess wsX10_lawOf := gi_ (A := ixX10_guess) (B := ixX10_lawOf) wt697 (by decide +kernel)
theorem gX10_guess_X10_lawOf : GoodIn wsX10_guess (wsV RX10 161 RX10 yX10_lawOf wsX10_lawOf) := g4_ (A := ixX10_guess) wt694 wt695 wt696 wt2 (by decide +kernel) ggX10_guess_X10_lawOf
theorem ggX10_guess_X10_within : GoodIn wsX10_guess wsX10_within := gi_ (A := ixX10_guess) (B := ixX10_within) wt174 (by decide +kernel)
theorem gX10_guess_X10_within : GoodIn wsX10_guess (va_wsS RX10 79 yX10_within wsX10_within) := g3_ (A := ixX10_guess) wt172 wt173 wt2 (by decide +kernel) ggX10_guess_X10_within
theorem ggX10_guess_X6_has : GoodIn wsX10_guess wsX6_has := gi_ (A := ixX10_guess) (B := ixX6_has) wt202 (by decide +kernel)
theorem gX10_guess_X6_has : GoodIn wsX10_guess (wsV RX10 97 RX6 yX6_has wsX6_has) := g4_ (A := ixX10_guess) wt199 wt200 wt201 wt51 (by decide +kernel) ggX10_guess_X6_has
theorem ggX10_isCover_X10_within : GoodIn wsX10_isCover wsX10_within := gi_ (A := ixX10_isCover) (B := ixX10_within) wt174 (by decide +kernel)
theorem gX10_isCover_X10_within : GoodIn wsX10_isCover (va_wsS RX10 79 yX10_within wsX10_within) := g3_ (A := ixX10_isCover) wt172 wt173 wt2 (by decide +kernel) ggX10_isCover_X10_within
theorem ggX10_isJourney_X6_has : GoodIn wsX10_isJourney wsX6_has := gi_ (A := ixX10_isJourney) (B := ixX6_has) wt202 (by decide +kernel)
theorem gX10_isJourney_X6_has : GoodIn wsX10_isJourney (wsV RX10 97 RX6 yX6_has wsX6_has) := g4_ (A := ixX10_isJourney) wt199 wt200 wt201 wt51 (by decide +kernel) ggX10_isJourney_X6_has
theorem ggX10_isLoad_X10_isCover : GoodIn wsX10_isLoad wsX10_isCover := gi_ (A := ixX10_isLoad) (B := ixX10_isCover) wt220 (by decide +kernel)
theorem gX10_isLoad_X10_isCover : GoodIn wsX10_isLoad (va_wsS RX10 104 yX10_isCover wsX10_isCover) := g3_ (A := ixX10_isLoad) wt218 wt219 wt2 (by decide +kernel) ggX10_isLoad_X10_isCover
theorem ggX10_isLoad_X10_within : GoodIn wsX10_isLoad wsX10_within := gi_ (A := ixX10_isLoad) (B := ixX10_within) wt174 (by decide +kernel)
theorem gX10_isLoad_X10_within : GoodIn wsX10_isLoad (va_wsS RX10 79 yX10_within wsX10_within) := g3_ (A := ixX10_isLoad) wt172 wt173 wt2 (by decide +kernel) ggX10_isLoad_X10_within
theorem ggX10_lawOf_X10_within : GoodIn wsX10_lawOf wsX10_within := gi_ (A := ixX10_lawOf) (B := ixX10_within) wt174 (by decide +kernel)
theorem gX10_lawOf_X10_within : GoodIn wsX10_lawOf (va_wsS RX10 79 yX10_within wsX10_within) := g3_ (A := ixX10_lawOf) wt172 wt173 wt2 (by decide +kernel) ggX10_lawOf_X10_within
theorem ggX10_lay_X6_grow : GoodIn wsX10_lay wsX6_grow := gi_ (A := ixX10_lay) (B := ixX6_grow) wt178 (by decide +kernel)
theorem gX10_lay_X6_grow : GoodIn wsX10_lay (wsV RX10 87 RX6 yX6_grow wsX6_grow) := g4_ (A := ixX10_lay) wt175 wt176 wt177 wt51 (by decide +kernel) ggX10_lay_X6_grow
theorem ggX10_lay_X6_put : GoodIn wsX10_lay wsX6_put := gi_ (A := ixX10_lay) (B := ixX6_put) wt183 (by decide +kernel)
theorem gX10_lay_X6_put : GoodIn wsX10_lay (wsV RX10 93 RX6 yX6_put wsX6_put) := g4_ (A := ixX10_lay) wt180 wt181 wt182 wt51 (by decide +kernel) ggX10_lay_X6_put
theorem ggX10_lay_X9_otherEnd : GoodIn wsX10_lay wsX9_otherEnd := gi_ (A := ixX10_lay) (B := ixX9_otherEnd) wt673 (by decide +kernel)
theorem gX10_lay_X9_otherEnd : GoodIn wsX10_lay (wsV RX10 158 RX9 yX9_otherEnd wsX9_otherEnd) := g4_ (A := ixX10_lay) wt670 wt671 wt672 wt14 (by decide +kernel) ggX10_lay_X9_otherEnd
theorem ggX10_lay_X9_wayEnd : GoodIn wsX10_lay wsX9_wayEnd := gi_ (A := ixX10_lay) (B := ixX9_wayEnd) wt920 (by decide +kernel)
theorem gX10_lay_X9_wayEnd : GoodIn wsX10_lay (wsV RX10 179 RX9 yX9_wayEnd wsX9_wayEnd) := g4_ (A := ixX10_lay) wt917 wt918 wt919 wt14 (by decide +kernel) ggX10_lay_X9_wayEnd
theorem ggX10_lay_X9_wayHas : GoodIn wsX10_lay wsX9_wayHas := gi_ (A := ixX10_lay) (B := ixX9_wayHas) wt925 (by decide +kernel)
theorem gX10_lay_X9_wayHas : GoodIn wsX10_lay (wsV RX10 182 RX9 yX9_wayHas wsX9_wayHas) := g4_ (A := ixX10_lay) wt922 wt923 wt924 wt14 (by decide +kernel) ggX10_lay_X9_wayHas
theorem ggX10_least_X10_lawOf : GoodIn wsX10_least wsX10_lawOf := gi_ (A := ixX10_least) (B := ixX10_lawOf) wt697 (by decide +kernel)
theorem gX10_least_X10_lawOf : GoodIn wsX10_least (wsV RX10 161 RX10 yX10_lawOf wsX10_lawOf) := g4_ (A := ixX10_least) wt694 wt695 wt696 wt2 (by decide +kernel) ggX10_least_X10_lawOf
theorem ggX10_leave_X6_put : GoodIn wsX10_leave wsX6_put := gi_ (A := ixX10_leave) (B := ixX6_put) wt183 (by decide +kernel)
theorem gX10_leave_X6_put : GoodIn wsX10_leave (wsV RX10 93 RX6 yX6_put wsX6_put) := g4_ (A := ixX10_leave) wt180 wt181 wt182 wt51 (by decide +kernel) ggX10_leave_X6_put
theorem ggX10_leave_X9_nodeOf : GoodIn wsX10_leave wsX9_nodeOf := gi_ (A := ixX10_leave) (B := ixX9_nodeOf) wt592 (by decide +kernel)
theorem gX10_leave_X9_nodeOf : GoodIn wsX10_leave (wsV RX10 136 RX9 yX9_nodeOf wsX9_nodeOf) := g4_ (A := ixX10_leave) wt589 wt590 wt591 wt14 (by decide +kernel) ggX10_leave_X9_nodeOf
theorem ggX10_leave_X9_otherEnd : GoodIn wsX10_leave wsX9_otherEnd := gi_ (A := ixX10_leave) (B := ixX9_otherEnd) wt673 (by decide +kernel)
theorem gX10_leave_X9_otherEnd : GoodIn wsX10_leave (wsV RX10 158 RX9 yX9_otherEnd wsX9_otherEnd) := g4_ (A := ixX10_leave) wt670 wt671 wt672 wt14 (by decide +kernel) ggX10_leave_X9_otherEnd
theorem ggX10_melt_X10_lawOf : GoodIn wsX10_melt wsX10_lawOf := gi_ (A := ixX10_melt) (B := ixX10_lawOf) wt697 (by decide +kernel)
theorem gX10_melt_X10_lawOf : GoodIn wsX10_melt (wsV RX10 161 RX10 yX10_lawOf wsX10_lawOf) := g4_ (A := ixX10_melt) wt694 wt695 wt696 wt2 (by decide +kernel) ggX10_melt_X10_lawOf
theorem ggX10_nearest_X10_within : GoodIn wsX10_nearest wsX10_within := gi_ (A := ixX10_nearest) (B := ixX10_within) wt174 (by decide +kernel)
theorem gX10_nearest_X10_within : GoodIn wsX10_nearest (va_wsS RX10 79 yX10_within wsX10_within) := g3_ (A := ixX10_nearest) wt172 wt173 wt2 (by decide +kernel) ggX10_nearest_X10_within
theorem ggX10_nearest_X5_farTo : GoodIn wsX10_nearest wsX5_farTo := gi_ (A := ixX10_nearest) (B := ixX5_farTo) wt1054 (by decide +kernel)
theorem gX10_nearest_X5_farTo : GoodIn wsX10_nearest (wsV RX10 233 RX5 yX5_farTo wsX5_farTo) := g4_ (A := ixX10_nearest) wt1107 wt1052 wt1053 wt36 (by decide +kernel) ggX10_nearest_X5_farTo
theorem ggX10_nearest_X5_measure : GoodIn wsX10_nearest wsX5_measure := gi_ (A := ixX10_nearest) (B := ixX5_measure) wt1043 (by decide +kernel)
theorem gX10_nearest_X5_measure : GoodIn wsX10_nearest (wsV RX10 229 RX5 yX5_measure wsX5_measure) := g4_ (A := ixX10_nearest) wt1106 wt1041 wt1042 wt36 (by decide +kernel) ggX10_nearest_X5_measure
theorem ggX10_nearest_X6_has : GoodIn wsX10_nearest wsX6_has := gi_ (A := ixX10_nearest) (B := ixX6_has) wt202 (by decide +kernel)
theorem gX10_nearest_X6_has : GoodIn wsX10_nearest (wsV RX10 97 RX6 yX6_has wsX6_has) := g4_ (A := ixX10_nearest) wt199 wt200 wt201 wt51 (by decide +kernel) ggX10_nearest_X6_has
theorem ggX10_nearest_X9_hasSnow : GoodIn wsX10_nearest wsX9_hasSnow := gi_ (A := ixX10_nearest) (B := ixX9_hasSnow) wt606 (by decide +kernel)
theorem gX10_nearest_X9_hasSnow : GoodIn wsX10_nearest (wsV RX10 147 RX9 yX9_hasSnow wsX9_hasSnow) := g4_ (A := ixX10_nearest) wt603 wt604 wt605 wt14 (by decide +kernel) ggX10_nearest_X9_hasSnow
theorem ggX10_nights_X10_lawOf : GoodIn wsX10_nights wsX10_lawOf := gi_ (A := ixX10_nights) (B := ixX10_lawOf) wt697 (by decide +kernel)
theorem gX10_nights_X10_lawOf : GoodIn wsX10_nights (wsV RX10 161 RX10 yX10_lawOf wsX10_lawOf) := g4_ (A := ixX10_nights) wt694 wt695 wt696 wt2 (by decide +kernel) ggX10_nights_X10_lawOf
theorem ggX10_nights_X10_within : GoodIn wsX10_nights wsX10_within := gi_ (A := ixX10_nights) (B := ixX10_within) wt174 (by decide +kernel)
theorem gX10_nights_X10_within : GoodIn wsX10_nights (va_wsS RX10 79 yX10_within wsX10_within) := g3_ (A := ixX10_nights) wt172 wt173 wt2 (by decide +kernel) ggX10_nights_X10_within
theorem ggX10_of_X10_within : GoodIn wsX10_of wsX10_within := gi_ (A := ixX10_of) (B := ixX10_within) wt174 (by decide +kernel)
theorem gX10_of_X10_within : GoodIn wsX10_of (va_wsS RX10 79 yX10_within wsX10_within) := g3_ (A := ixX10_of) wt172 wt173 wt2 (by decide +kernel) ggX10_of_X10_within
theorem ggX10_of_X6_get : GoodIn wsX10_of wsX6_get := gi_ (A := ixX10_of) (B := ixX6_get) wt597 (by decide +kernel)
theorem gX10_of_X6_get : GoodIn wsX10_of (wsV RX10 150 RX6 yX6_get wsX6_get) := g4_ (A := ixX10_of) wt607 wt595 wt596 wt51 (by decide +kernel) ggX10_of_X6_get
theorem ggX10_of_X6_has : GoodIn wsX10_of wsX6_has := gi_ (A := ixX10_of) (B := ixX6_has) wt202 (by decide +kernel)
theorem gX10_of_X6_has : GoodIn wsX10_of (wsV RX10 97 RX6 yX6_has wsX6_has) := g4_ (A := ixX10_of) wt199 wt200 wt201 wt51 (by decide +kernel) ggX10_of_X6_has
theorem ggX10_pour_X6_get : GoodIn wsX10_pour wsX6_get := gi_ (A := ixX10_pour) (B := ixX6_get) wt597 (by decide +kernel)
theorem gX10_pour_X6_get : GoodIn wsX10_pour (wsV RX10 150 RX6 yX6_get wsX6_get) := g4_ (A := ixX10_pour) wt607 wt595 wt596 wt51 (by decide +kernel) ggX10_pour_X6_get
theorem ggX10_pour_X6_put : GoodIn wsX10_pour wsX6_put := gi_ (A := ixX10_pour) (B := ixX6_put) wt183 (by decide +kernel)
theorem gX10_pour_X6_put : GoodIn wsX10_pour (wsV RX10 93 RX6 yX6_put wsX6_put) := g4_ (A := ixX10_pour) wt180 wt181 wt182 wt51 (by decide +kernel) ggX10_pour_X6_put
theorem ggX10_pour_X9_bring : GoodIn wsX10_pour wsX9_bring := gi_ (A := ixX10_pour) (B := ixX9_bring) wt644 (by decide +kernel)
theorem gX10_pour_X9_bring : GoodIn wsX10_pour (wsV RX10 154 RX9 yX9_bring wsX9_bring) := g4_ (A := ixX10_pour) wt641 wt642 wt643 wt14 (by decide +kernel) ggX10_pour_X9_bring
theorem ggX10_pour_X9_nodeOf : GoodIn wsX10_pour wsX9_nodeOf := gi_ (A := ixX10_pour) (B := ixX9_nodeOf) wt592 (by decide +kernel)
theorem gX10_pour_X9_nodeOf : GoodIn wsX10_pour (wsV RX10 136 RX9 yX9_nodeOf wsX9_nodeOf) := g4_ (A := ixX10_pour) wt589 wt590 wt591 wt14 (by decide +kernel) ggX10_pour_X9_nodeOf
theorem ggX10_price_X10_lawOf : GoodIn wsX10_price wsX10_lawOf := gi_ (A := ixX10_price) (B := ixX10_lawOf) wt697 (by decide +kernel)
theorem gX10_price_X10_lawOf : GoodIn wsX10_price (wsV RX10 161 RX10 yX10_lawOf wsX10_lawOf) := g4_ (A := ixX10_price) wt694 wt695 wt696 wt2 (by decide +kernel) ggX10_price_X10_lawOf
theorem ggX10_serves_X10_lawOf : GoodIn wsX10_serves wsX10_lawOf := gi_ (A := ixX10_serves) (B := ixX10_lawOf) wt697 (by decide +kernel)
theorem gX10_serves_X10_lawOf : GoodIn wsX10_serves (wsV RX10 161 RX10 yX10_lawOf wsX10_lawOf) := g4_ (A := ixX10_serves) wt694 wt695 wt696 wt2 (by decide +kernel) ggX10_serves_X10_lawOf
theorem ggX10_soonest_X5_farTo : GoodIn wsX10_soonest wsX5_farTo := gi_ (A := ixX10_soonest) (B := ixX5_farTo) wt1054 (by decide +kernel)
theorem gX10_soonest_X5_farTo : GoodIn wsX10_soonest (wsV RX10 233 RX5 yX5_farTo wsX5_farTo) := g4_ (A := ixX10_soonest) wt1107 wt1052 wt1053 wt36 (by decide +kernel) ggX10_soonest_X5_farTo
theorem ggX10_soonest_X5_measure : GoodIn wsX10_soonest wsX5_measure := gi_ (A := ixX10_soonest) (B := ixX5_measure) wt1043 (by decide +kernel)
theorem gX10_soonest_X5_measure : GoodIn wsX10_soonest (wsV RX10 229 RX5 yX5_measure wsX5_measure) := g4_ (A := ixX10_soonest) wt1106 wt1041 wt1042 wt36 (by decide +kernel) ggX10_soonest_X5_measure
theorem ggX10_soonest_X6_has : GoodIn wsX10_soonest wsX6_has := gi_ (A := ixX10_soonest) (B := ixX6_has) wt202 (by decide +kernel)
theorem gX10_soonest_X6_has : GoodIn wsX10_soonest (wsV RX10 97 RX6 yX6_has wsX6_has) := g4_ (A := ixX10_soonest) wt199 wt200 wt201 wt51 (by decide +kernel) ggX10_soonest_X6_has
theorem ggX10_store_X10_within : GoodIn wsX10_store wsX10_within := gi_ (A := ixX10_store) (B := ixX10_within) wt174 (by decide +kernel)
theorem gX10_store_X10_within : GoodIn wsX10_store (va_wsS RX10 79 yX10_within wsX10_within) := g3_ (A := ixX10_store) wt172 wt173 wt2 (by decide +kernel) ggX10_store_X10_within
theorem ggX10_store_X6_get : GoodIn wsX10_store wsX6_get := gi_ (A := ixX10_store) (B := ixX6_get) wt597 (by decide +kernel)
theorem gX10_store_X6_get : GoodIn wsX10_store (wsV RX10 150 RX6 yX6_get wsX6_get) := g4_ (A := ixX10_store) wt607 wt595 wt596 wt51 (by decide +kernel) ggX10_store_X6_get
theorem ggX10_store_X6_has : GoodIn wsX10_store wsX6_has := gi_ (A := ixX10_store) (B := ixX6_has) wt202 (by decide +kernel)
theorem gX10_store_X6_has : GoodIn wsX10_store (wsV RX10 97 RX6 yX6_has wsX6_has) := g4_ (A := ixX10_store) wt199 wt200 wt201 wt51 (by decide +kernel) ggX10_store_X6_has
theorem ggX10_store_X6_put : GoodIn wsX10_store wsX6_put := gi_ (A := ixX10_store) (B := ixX6_put) wt183 (by decide +kernel)
theorem gX10_store_X6_put : GoodIn wsX10_store (wsV RX10 93 RX6 yX6_put wsX6_put) := g4_ (A := ixX10_store) wt180 wt181 wt182 wt51 (by decide +kernel) ggX10_store_X6_put
theorem ggX10_tick_X10_lawOf : GoodIn wsX10_tick wsX10_lawOf := gi_ (A := ixX10_tick) (B := ixX10_lawOf) wt697 (by decide +kernel)
theorem gX10_tick_X10_lawOf : GoodIn wsX10_tick (wsV RX10 161 RX10 yX10_lawOf wsX10_lawOf) := g4_ (A := ixX10_tick) wt694 wt695 wt696 wt2 (by decide +kernel) ggX10_tick_X10_lawOf
theorem ggX10_tried_X10_lawOf : GoodIn wsX10_tried wsX10_lawOf := gi_ (A := ixX10_tried) (B := ixX10_lawOf) wt697 (by decide +kernel)
theorem gX10_tried_X10_lawOf : GoodIn wsX10_tried (wsV RX10 161 RX10 yX10_lawOf wsX10_lawOf) := g4_ (A := ixX10_tried) wt694 wt695 wt696 wt2 (by decide +kernel) ggX10_tried_X10_lawOf
theorem ggX10_warmer_X10_isLoad : GoodIn wsX10_warmer wsX10_isLoad := gi_ (A := ixX10_warmer) (B := ixX10_isLoad) wt955 (by decide +kernel)
theorem gX10_warmer_X10_isLoad : GoodIn wsX10_warmer (va_wsS RX10 191 yX10_isLoad wsX10_isLoad) := g3_ (A := ixX10_warmer) wt953 wt954 wt2 (by decide +kernel) ggX10_warmer_X10_isLoad
theorem ggX10_warmer_X10_lawOf : GoodIn wsX10_warmer wsX10_lawOf := gi_ (A := ixX10_warmer) (B := ixX10_lawOf) wt697 (by decide +kernel)
theorem gX10_warmer_X10_lawOf : GoodIn wsX10_warmer (wsV RX10 161 RX10 yX10_lawOf wsX10_lawOf) := g4_ (A := ixX10_warmer) wt694 wt695 wt696 wt2 (by decide +kernel) ggX10_warmer_X10_lawOf
theorem ggX10_warmer_X10_within : GoodIn wsX10_warmer wsX10_within := gi_ (A := ixX10_warmer) (B := ixX10_within) wt174 (by decide +kernel)
theorem gX10_warmer_X10_within : GoodIn wsX10_warmer (va_wsS RX10 79 yX10_within wsX10_within) := g3_ (A := ixX10_warmer) wt172 wt173 wt2 (by decide +kernel) ggX10_warmer_X10_within
theorem kX10_isLoad_1 {a : Array Value} {s : State} (hts : ∀ w ∈ wsX10_isLoad, w.before a s = true) : (.constant RX10 140 (99999) : Cond).before a s = true := kw (A := ixX10_isLoad) wt587 hts (by decide +kernel)
theorem kX10_isWish_1 {a : Array Value} {s : State} (hts : ∀ w ∈ wsX10_isWish, w.before a s = true) : (.constant RX10 140 (99999) : Cond).before a s = true := kw (A := ixX10_isWish) wt587 hts (by decide +kernel)
theorem kX10_lawOf_1 {a : Array Value} {s : State} (hts : ∀ w ∈ wsX10_lawOf, w.before a s = true) : (.fieldLink RX10 128 "SnowMules" "lawCount" "I" : Cond).before a s = true := kw (A := ixX10_lawOf) wt281 hts (by decide +kernel)
theorem kX10_lawOf_2 {a : Array Value} {s : State} (hts : ∀ w ∈ wsX10_lawOf, w.before a s = true) : (.fieldLink RX10 29 "SnowMules" "laws" "[LSnowMules$Law;" : Cond).before a s = true := kw (A := ixX10_lawOf) wt21 hts (by decide +kernel)
theorem kX10_isJourney_1 {a : Array Value} {s : State} (hts : ∀ w ∈ wsX10_isJourney, w.before a s = true) : (.fieldLink RX10 10 "SnowMules" "world" "LSnowMules$World;" : Cond).before a s = true := kw (A := ixX10_isJourney) wt15 hts (by decide +kernel)
theorem kX10_isJourney_2 {a : Array Value} {s : State} (hts : ∀ w ∈ wsX10_isJourney, w.before a s = true) : (.fieldLink RX10 83 "SnowMules$World" "nodes" "LSnowMules$Table;" : Cond).before a s = true := kw (A := ixX10_isJourney) wt171 hts (by decide +kernel)
theorem kX10_writeBytes_1 {a : Array Value} {s : State} (hts : ∀ w ∈ wsX10_writeBytes, w.before a s = true) : (.fieldLink RX10 121 "SnowMules" "tapeLength" "I" : Cond).before a s = true := kw (A := ixX10_writeBytes) wt255 hts (by decide +kernel)
theorem kX10_writeBytes_2 {a : Array Value} {s : State} (hts : ∀ w ∈ wsX10_writeBytes, w.before a s = true) : (.fieldLink RX10 23 "SnowMules" "tape" "[I" : Cond).before a s = true := kw (A := ixX10_writeBytes) wt19 hts (by decide +kernel)
theorem kX10_warmer_1 {a : Array Value} {s : State} (hts : ∀ w ∈ wsX10_warmer, w.before a s = true) : (.constant RX10 140 (99999) : Cond).before a s = true := kw (A := ixX10_warmer) wt587 hts (by decide +kernel)
theorem kX10_guess_2 {a : Array Value} {s : State} (hts : ∀ w ∈ wsX10_guess, w.before a s = true) : (.fieldLink RX10 10 "SnowMules" "world" "LSnowMules$World;" : Cond).before a s = true := kw (A := ixX10_guess) wt15 hts (by decide +kernel)
theorem kX10_guess_3 {a : Array Value} {s : State} (hts : ∀ w ∈ wsX10_guess, w.before a s = true) : (.fieldLink RX10 185 "SnowMules$World" "way" "LSnowMules$Table;" : Cond).before a s = true := kw (A := ixX10_guess) wt916 hts (by decide +kernel)
theorem kX10_guess_1 {a : Array Value} {s : State} (hts : ∀ w ∈ wsX10_guess, w.before a s = true) : (.constant RX10 140 (99999) : Cond).before a s = true := kw (A := ixX10_guess) wt587 hts (by decide +kernel)
theorem kX10_nights_1 {a : Array Value} {s : State} (hts : ∀ w ∈ wsX10_nights, w.before a s = true) : (.constant RX10 140 (99999) : Cond).before a s = true := kw (A := ixX10_nights) wt587 hts (by decide +kernel)
theorem kX10_fill_1 {a : Array Value} {s : State} (hts : ∀ w ∈ wsX10_fill, w.before a s = true) : (.fieldLink RX10 10 "SnowMules" "world" "LSnowMules$World;" : Cond).before a s = true := kw (A := ixX10_fill) wt15 hts (by decide +kernel)
theorem kX10_fill_2 {a : Array Value} {s : State} (hts : ∀ w ∈ wsX10_fill, w.before a s = true) : (.constant RX10 140 (99999) : Cond).before a s = true := kw (A := ixX10_fill) wt587 hts (by decide +kernel)
theorem kX10_fill_3 {a : Array Value} {s : State} (hts : ∀ w ∈ wsX10_fill, w.before a s = true) : (.fieldLink RX10 141 "SnowMules$World" "now" "I" : Cond).before a s = true := kw (A := ixX10_fill) wt588 hts (by decide +kernel)
theorem kX10_fill_4 {a : Array Value} {s : State} (hts : ∀ w ∈ wsX10_fill, w.before a s = true) : (.fieldLink RX10 107 "SnowMules$World" "jars" "LSnowMules$Table;" : Cond).before a s = true := kw (A := ixX10_fill) wt217 hts (by decide +kernel)
theorem kX10_pour_1 {a : Array Value} {s : State} (hts : ∀ w ∈ wsX10_pour, w.before a s = true) : (.fieldLink RX10 10 "SnowMules" "world" "LSnowMules$World;" : Cond).before a s = true := kw (A := ixX10_pour) wt15 hts (by decide +kernel)
theorem kX10_pour_2 {a : Array Value} {s : State} (hts : ∀ w ∈ wsX10_pour, w.before a s = true) : (.fieldLink RX10 107 "SnowMules$World" "jars" "LSnowMules$Table;" : Cond).before a s = true := kw (A := ixX10_pour) wt217 hts (by decide +kernel)
theorem kX10_store_1 {a : Array Value} {s : State} (hts : ∀ w ∈ wsX10_store, w.before a s = true) : (.fieldLink RX10 10 "SnowMules" "world" "LSnowMules$World;" : Cond).before a s = true := kw (A := ixX10_store) wt15 hts (by decide +kernel)
theorem kX10_store_2 {a : Array Value} {s : State} (hts : ∀ w ∈ wsX10_store, w.before a s = true) : (.fieldLink RX10 83 "SnowMules$World" "nodes" "LSnowMules$Table;" : Cond).before a s = true := kw (A := ixX10_store) wt171 hts (by decide +kernel)
theorem kX10_store_3 {a : Array Value} {s : State} (hts : ∀ w ∈ wsX10_store, w.before a s = true) : (.constant RX10 157 (999999) : Cond).before a s = true := kw (A := ixX10_store) wt660 hts (by decide +kernel)
theorem kX10_leave_1 {a : Array Value} {s : State} (hts : ∀ w ∈ wsX10_leave, w.before a s = true) : (.fieldLink RX10 10 "SnowMules" "world" "LSnowMules$World;" : Cond).before a s = true := kw (A := ixX10_leave) wt15 hts (by decide +kernel)
theorem kX10_leave_2 {a : Array Value} {s : State} (hts : ∀ w ∈ wsX10_leave, w.before a s = true) : (.fieldLink RX10 107 "SnowMules$World" "jars" "LSnowMules$Table;" : Cond).before a s = true := kw (A := ixX10_leave) wt217 hts (by decide +kernel)
theorem kX10_at_1 {a : Array Value} {s : State} (hts : ∀ w ∈ wsX10_at, w.before a s = true) : (.fieldLink RX10 10 "SnowMules" "world" "LSnowMules$World;" : Cond).before a s = true := kw (A := ixX10_at) wt15 hts (by decide +kernel)
theorem kX10_at_2 {a : Array Value} {s : State} (hts : ∀ w ∈ wsX10_at, w.before a s = true) : (.fieldLink RX10 83 "SnowMules$World" "nodes" "LSnowMules$Table;" : Cond).before a s = true := kw (A := ixX10_at) wt171 hts (by decide +kernel)
theorem kX10_at_3 {a : Array Value} {s : State} (hts : ∀ w ∈ wsX10_at, w.before a s = true) : (.fieldLink RX10 141 "SnowMules$World" "now" "I" : Cond).before a s = true := kw (A := ixX10_at) wt588 hts (by decide +kernel)
theorem kX10_of_1 {a : Array Value} {s : State} (hts : ∀ w ∈ wsX10_of, w.before a s = true) : (.fieldLink RX10 10 "SnowMules" "world" "LSnowMules$World;" : Cond).before a s = true := kw (A := ixX10_of) wt15 hts (by decide +kernel)
theorem kX10_of_2 {a : Array Value} {s : State} (hts : ∀ w ∈ wsX10_of, w.before a s = true) : (.fieldLink RX10 107 "SnowMules$World" "jars" "LSnowMules$Table;" : Cond).before a s = true := kw (A := ixX10_of) wt217 hts (by decide +kernel)
theorem kX10_lay_1 {a : Array Value} {s : State} (hts : ∀ w ∈ wsX10_lay, w.before a s = true) : (.fieldLink RX10 10 "SnowMules" "world" "LSnowMules$World;" : Cond).before a s = true := kw (A := ixX10_lay) wt15 hts (by decide +kernel)
theorem kX10_lay_2 {a : Array Value} {s : State} (hts : ∀ w ∈ wsX10_lay, w.before a s = true) : (.fieldLink RX10 176 "SnowMules$World" "wayStart" "I" : Cond).before a s = true := kw (A := ixX10_lay) wt915 hts (by decide +kernel)
theorem kX10_lay_3 {a : Array Value} {s : State} (hts : ∀ w ∈ wsX10_lay, w.before a s = true) : (.fieldLink RX10 185 "SnowMules$World" "way" "LSnowMules$Table;" : Cond).before a s = true := kw (A := ixX10_lay) wt916 hts (by decide +kernel)
theorem kX10_soonest_1 {a : Array Value} {s : State} (hts : ∀ w ∈ wsX10_soonest, w.before a s = true) : (.fieldLink RX10 10 "SnowMules" "world" "LSnowMules$World;" : Cond).before a s = true := kw (A := ixX10_soonest) wt15 hts (by decide +kernel)
theorem kX10_soonest_2 {a : Array Value} {s : State} (hts : ∀ w ∈ wsX10_soonest, w.before a s = true) : (.fieldLink RX10 83 "SnowMules$World" "nodes" "LSnowMules$Table;" : Cond).before a s = true := kw (A := ixX10_soonest) wt171 hts (by decide +kernel)
theorem kX10_soonest_3 {a : Array Value} {s : State} (hts : ∀ w ∈ wsX10_soonest, w.before a s = true) : (.fieldLink RX10 61 "SnowMules" "search" "LSnowMules$Search;" : Cond).before a s = true := kw (A := ixX10_soonest) wt37 hts (by decide +kernel)
theorem kX10_soonest_4 {a : Array Value} {s : State} (hts : ∀ w ∈ wsX10_soonest, w.before a s = true) : (.constant RX10 236 (1000000) : Cond).before a s = true := kw (A := ixX10_soonest) wt1105 hts (by decide +kernel)
theorem kX10_nearest_1 {a : Array Value} {s : State} (hts : ∀ w ∈ wsX10_nearest, w.before a s = true) : (.fieldLink RX10 10 "SnowMules" "world" "LSnowMules$World;" : Cond).before a s = true := kw (A := ixX10_nearest) wt15 hts (by decide +kernel)
theorem kX10_nearest_2 {a : Array Value} {s : State} (hts : ∀ w ∈ wsX10_nearest, w.before a s = true) : (.fieldLink RX10 83 "SnowMules$World" "nodes" "LSnowMules$Table;" : Cond).before a s = true := kw (A := ixX10_nearest) wt171 hts (by decide +kernel)
theorem kX10_nearest_3 {a : Array Value} {s : State} (hts : ∀ w ∈ wsX10_nearest, w.before a s = true) : (.fieldLink RX10 61 "SnowMules" "search" "LSnowMules$Search;" : Cond).before a s = true := kw (A := ixX10_nearest) wt37 hts (by decide +kernel)
theorem kX10_nearest_4 {a : Array Value} {s : State} (hts : ∀ w ∈ wsX10_nearest, w.before a s = true) : (.constant RX10 236 (1000000) : Cond).before a s = true := kw (A := ixX10_nearest) wt1105 hts (by decide +kernel)
theorem kX10_nearest_5 {a : Array Value} {s : State} (hts : ∀ w ∈ wsX10_nearest, w.before a s = true) : (.fieldLink RX10 188 "SnowMules$Table" "size" "I" : Cond).before a s = true := kw (A := ixX10_nearest) wt942 hts (by decide +kernel)
theorem kX10_seed_1 {a : Array Value} {s : State} (hts : ∀ w ∈ wsX10_seed, w.before a s = true) : (.fieldLink RX10 10 "SnowMules" "world" "LSnowMules$World;" : Cond).before a s = true := kw (A := ixX10_seed) wt15 hts (by decide +kernel)
theorem kX10_seed_2 {a : Array Value} {s : State} (hts : ∀ w ∈ wsX10_seed, w.before a s = true) : (.fieldLink RX10 118 "SnowMules$World" "x" "I" : Cond).before a s = true := kw (A := ixX10_seed) wt246 hts (by decide +kernel)
theorem kX10_count_1 {a : Array Value} {s : State} (hts : ∀ w ∈ wsX10_count, w.before a s = true) : (.fieldLink RX10 10 "SnowMules" "world" "LSnowMules$World;" : Cond).before a s = true := kw (A := ixX10_count) wt15 hts (by decide +kernel)
theorem kX10_count_2 {a : Array Value} {s : State} (hts : ∀ w ∈ wsX10_count, w.before a s = true) : (.fieldLink RX10 83 "SnowMules$World" "nodes" "LSnowMules$Table;" : Cond).before a s = true := kw (A := ixX10_count) wt171 hts (by decide +kernel)
theorem kX10_count_3 {a : Array Value} {s : State} (hts : ∀ w ∈ wsX10_count, w.before a s = true) : (.fieldLink RX10 188 "SnowMules$Table" "size" "I" : Cond).before a s = true := kw (A := ixX10_count) wt942 hts (by decide +kernel)
theorem kX10_count_4 {a : Array Value} {s : State} (hts : ∀ w ∈ wsX10_count, w.before a s = true) : (.fieldLink RX10 101 "SnowMules$World" "passes" "LSnowMules$Table;" : Cond).before a s = true := kw (A := ixX10_count) wt198 hts (by decide +kernel)
theorem kX10_count_5 {a : Array Value} {s : State} (hts : ∀ w ∈ wsX10_count, w.before a s = true) : (.fieldLink RX10 107 "SnowMules$World" "jars" "LSnowMules$Table;" : Cond).before a s = true := kw (A := ixX10_count) wt217 hts (by decide +kernel)
theorem kX10_count_6 {a : Array Value} {s : State} (hts : ∀ w ∈ wsX10_count, w.before a s = true) : (.fieldLink RX10 128 "SnowMules" "lawCount" "I" : Cond).before a s = true := kw (A := ixX10_count) wt281 hts (by decide +kernel)
theorem kX10_count_7 {a : Array Value} {s : State} (hts : ∀ w ∈ wsX10_count, w.before a s = true) : (.fieldLink RX10 141 "SnowMules$World" "now" "I" : Cond).before a s = true := kw (A := ixX10_count) wt588 hts (by decide +kernel)
theorem kX10_count_8 {a : Array Value} {s : State} (hts : ∀ w ∈ wsX10_count, w.before a s = true) : (.fieldLink RX10 263 "SnowMules$World" "orders" "LSnowMules$Table;" : Cond).before a s = true := kw (A := ixX10_count) wt1193 hts (by decide +kernel)
theorem kX10_count_9 {a : Array Value} {s : State} (hts : ∀ w ∈ wsX10_count, w.before a s = true) : (.fieldLink RX10 285 "SnowMules$World" "feasts" "LSnowMules$Table;" : Cond).before a s = true := kw (A := ixX10_count) wt1293 hts (by decide +kernel)
theorem kX10_count_10 {a : Array Value} {s : State} (hts : ∀ w ∈ wsX10_count, w.before a s = true) : (.fieldLink RX10 176 "SnowMules$World" "wayStart" "I" : Cond).before a s = true := kw (A := ixX10_count) wt915 hts (by decide +kernel)
theorem kX10_count_11 {a : Array Value} {s : State} (hts : ∀ w ∈ wsX10_count, w.before a s = true) : (.fieldLink RX10 185 "SnowMules$World" "way" "LSnowMules$Table;" : Cond).before a s = true := kw (A := ixX10_count) wt916 hts (by decide +kernel)
theorem kX10_count_12 {a : Array Value} {s : State} (hts : ∀ w ∈ wsX10_count, w.before a s = true) : (.fieldLink RX10 118 "SnowMules$World" "x" "I" : Cond).before a s = true := kw (A := ixX10_count) wt246 hts (by decide +kernel)
theorem kX10_count_13 {a : Array Value} {s : State} (hts : ∀ w ∈ wsX10_count, w.before a s = true) : (.fieldLink RX10 121 "SnowMules" "tapeLength" "I" : Cond).before a s = true := kw (A := ixX10_count) wt255 hts (by decide +kernel)
theorem kX10_feed_1 {a : Array Value} {s : State} (hts : ∀ w ∈ wsX10_feed, w.before a s = true) : (.fieldLink RX10 121 "SnowMules" "tapeLength" "I" : Cond).before a s = true := kw (A := ixX10_feed) wt255 hts (by decide +kernel)
theorem kX10_end_1 {a : Array Value} {s : State} (hts : ∀ w ∈ wsX10_end, w.before a s = true) : (.fieldLink RX10 121 "SnowMules" "tapeLength" "I" : Cond).before a s = true := kw (A := ixX10_end) wt255 hts (by decide +kernel)
theorem iX10_lawOf_X10 : ∀ w ∈ wsX100, w ∈ wsX10_lawOf := inW (A := ixX10_lawOf) uwX10 (by decide +kernel)
theorem iX10_isJourney_X10 : ∀ w ∈ wsX100, w ∈ wsX10_isJourney := inW (A := ixX10_isJourney) uwX10 (by decide +kernel)
theorem iX10_isJourney_X9 : ∀ w ∈ wsX90, w ∈ wsX10_isJourney := inW (A := ixX10_isJourney) uwX9 (by decide +kernel)
theorem iX10_writeBytes_X10 : ∀ w ∈ wsX100, w ∈ wsX10_writeBytes := inW (A := ixX10_writeBytes) uwX10 (by decide +kernel)
theorem iX10_guess_X10 : ∀ w ∈ wsX100, w ∈ wsX10_guess := inW (A := ixX10_guess) uwX10 (by decide +kernel)
theorem iX10_guess_X9 : ∀ w ∈ wsX90, w ∈ wsX10_guess := inW (A := ixX10_guess) uwX9 (by decide +kernel)
theorem iX10_fill_X10 : ∀ w ∈ wsX100, w ∈ wsX10_fill := inW (A := ixX10_fill) uwX10 (by decide +kernel)
theorem iX10_fill_X9 : ∀ w ∈ wsX90, w ∈ wsX10_fill := inW (A := ixX10_fill) uwX9 (by decide +kernel)
theorem iX10_pour_X10 : ∀ w ∈ wsX100, w ∈ wsX10_pour := inW (A := ixX10_pour) uwX10 (by decide +kernel)
theorem iX10_pour_X9 : ∀ w ∈ wsX90, w ∈ wsX10_pour := inW (A := ixX10_pour) uwX9 (by decide +kernel)
theorem iX10_store_X10 : ∀ w ∈ wsX100, w ∈ wsX10_store := inW (A := ixX10_store) uwX10 (by decide +kernel)
theorem iX10_store_X9 : ∀ w ∈ wsX90, w ∈ wsX10_store := inW (A := ixX10_store) uwX9 (by decide +kernel)
theorem iX10_leave_X10 : ∀ w ∈ wsX100, w ∈ wsX10_leave := inW (A := ixX10_leave) uwX10 (by decide +kernel)
theorem iX10_leave_X9 : ∀ w ∈ wsX90, w ∈ wsX10_leave := inW (A := ixX10_leave) uwX9 (by decide +kernel)
theorem iX10_at_X10 : ∀ w ∈ wsX100, w ∈ wsX10_at := inW (A := ixX10_at) uwX10 (by decide +kernel)
theorem iX10_at_X9 : ∀ w ∈ wsX90, w ∈ wsX10_at := inW (A := ixX10_at) uwX9 (by decide +kernel)
theorem iX10_of_X10 : ∀ w ∈ wsX100, w ∈ wsX10_of := inW (A := ixX10_of) uwX10 (by decide +kernel)
theorem iX10_of_X9 : ∀ w ∈ wsX90, w ∈ wsX10_of := inW (A := ixX10_of) uwX9 (by decide +kernel)
theorem iX10_lay_X10 : ∀ w ∈ wsX100, w ∈ wsX10_lay := inW (A := ixX10_lay) uwX10 (by decide +kernel)
theorem iX10_lay_X9 : ∀ w ∈ wsX90, w ∈ wsX10_lay := inW (A := ixX10_lay) uwX9 (by decide +kernel)
theorem iX10_soonest_X10 : ∀ w ∈ wsX100, w ∈ wsX10_soonest := inW (A := ixX10_soonest) uwX10 (by decide +kernel)
theorem iX10_soonest_X9 : ∀ w ∈ wsX90, w ∈ wsX10_soonest := inW (A := ixX10_soonest) uwX9 (by decide +kernel)
theorem iX10_nearest_X10 : ∀ w ∈ wsX100, w ∈ wsX10_nearest := inW (A := ixX10_nearest) uwX10 (by decide +kernel)
theorem iX10_nearest_X9 : ∀ w ∈ wsX90, w ∈ wsX10_nearest := inW (A := ixX10_nearest) uwX9 (by decide +kernel)
theorem iX10_nearest_X6 : ∀ w ∈ wsX60, w ∈ wsX10_nearest := inW (A := ixX10_nearest) uwX6 (by decide +kernel)
theorem iX10_seed_X10 : ∀ w ∈ wsX100, w ∈ wsX10_seed := inW (A := ixX10_seed) uwX10 (by decide +kernel)
theorem iX10_seed_X9 : ∀ w ∈ wsX90, w ∈ wsX10_seed := inW (A := ixX10_seed) uwX9 (by decide +kernel)
theorem iX10_count_X10 : ∀ w ∈ wsX100, w ∈ wsX10_count := inW (A := ixX10_count) uwX10 (by decide +kernel)
theorem iX10_count_X9 : ∀ w ∈ wsX90, w ∈ wsX10_count := inW (A := ixX10_count) uwX9 (by decide +kernel)
theorem iX10_count_X6 : ∀ w ∈ wsX60, w ∈ wsX10_count := inW (A := ixX10_count) uwX6 (by decide +kernel)
theorem iX10_feed_X10 : ∀ w ∈ wsX100, w ∈ wsX10_feed := inW (A := ixX10_feed) uwX10 (by decide +kernel)
theorem iX10_end_X10 : ∀ w ∈ wsX100, w ∈ wsX10_end := inW (A := ixX10_end) uwX10 (by decide +kernel)
theorem hdX10_within : yX10_within.cls ≠ "java/lang/invoke/MethodHandle" ∧ yX10_within.cls ≠ "java/lang/invoke/VarHandle" ∧ (parseMethodDescriptor yX10_within.desc).map (fun d => d.parameters.length) = some 2 := ⟨hdc_6.1, hdc_6.2, hdd_4⟩
theorem hdX10_isCover : yX10_isCover.cls ≠ "java/lang/invoke/MethodHandle" ∧ yX10_isCover.cls ≠ "java/lang/invoke/VarHandle" ∧ (parseMethodDescriptor yX10_isCover.desc).map (fun d => d.parameters.length) = some 2 := ⟨hdc_6.1, hdc_6.2, hdd_4⟩
theorem hdX10_lawOf : yX10_lawOf.cls ≠ "java/lang/invoke/MethodHandle" ∧ yX10_lawOf.cls ≠ "java/lang/invoke/VarHandle" ∧ (parseMethodDescriptor yX10_lawOf.desc).map (fun d => d.parameters.length) = some 1 := ⟨hdc_6.1, hdc_6.2, hdd_50⟩
theorem hdX10_isLoad : yX10_isLoad.cls ≠ "java/lang/invoke/MethodHandle" ∧ yX10_isLoad.cls ≠ "java/lang/invoke/VarHandle" ∧ (parseMethodDescriptor yX10_isLoad.desc).map (fun d => d.parameters.length) = some 4 := ⟨hdc_6.1, hdc_6.2, hdd_51⟩
theorem hdX9_hasSnow : yX9_hasSnow.cls ≠ "java/lang/invoke/MethodHandle" ∧ yX9_hasSnow.cls ≠ "java/lang/invoke/VarHandle" ∧ (parseMethodDescriptor yX9_hasSnow.desc).map (fun d => d.parameters.length) = some 2 := ⟨hdc_2.1, hdc_2.2, hdd_4⟩
theorem hdX9_wayEnd : yX9_wayEnd.cls ≠ "java/lang/invoke/MethodHandle" ∧ yX9_wayEnd.cls ≠ "java/lang/invoke/VarHandle" ∧ (parseMethodDescriptor yX9_wayEnd.desc).map (fun d => d.parameters.length) = some 0 := ⟨hdc_2.1, hdc_2.2, hdd_6⟩
theorem hdX9_wayHas : yX9_wayHas.cls ≠ "java/lang/invoke/MethodHandle" ∧ yX9_wayHas.cls ≠ "java/lang/invoke/VarHandle" ∧ (parseMethodDescriptor yX9_wayHas.desc).map (fun d => d.parameters.length) = some 1 := ⟨hdc_2.1, hdc_2.2, hdd_1⟩
theorem hdX6_grow : yX6_grow.cls ≠ "java/lang/invoke/MethodHandle" ∧ yX6_grow.cls ≠ "java/lang/invoke/VarHandle" ∧ (parseMethodDescriptor yX6_grow.desc).map (fun d => d.parameters.length) = some 0 := ⟨hdc_1.1, hdc_1.2, hdd_6⟩
theorem hdX10_writeBytes : yX10_writeBytes.cls ≠ "java/lang/invoke/MethodHandle" ∧ yX10_writeBytes.cls ≠ "java/lang/invoke/VarHandle" ∧ (parseMethodDescriptor yX10_writeBytes.desc).map (fun d => d.parameters.length) = some 1 := ⟨hdc_6.1, hdc_6.2, hdd_17⟩
def dtX10_isCover_40_0 : List (Nat × Jvm.ClassFile.Instr × Nat) := [(0, .iload_n 0, 1), (1, .bipush 9, 2), (3, .invokestatic 79, 3), (6, .ifCond .eq 16, 3), (22, .iconst 0, 1), (23, .ireturn, 1), (9, .iload_n 1, 1), (10, .bipush 9, 2), (12, .invokestatic 79, 3), (15, .ifCond .eq 7, 3), (18, .iconst 1, 1), (19, .goto 4, 3)]
theorem daX10_isCover_40_0 : dtX10_isCover_40_0.all (dqd cX10_isCover) = true := by decide +kernel
theorem dX10_isCover_0 : decode cX10_isCover 0 = .ok (.iload_n 0, 1) := dq daX10_isCover_40_0 0 rfl
theorem dX10_isCover_1 : decode cX10_isCover 1 = .ok (.bipush 9, 2) := dq daX10_isCover_40_0 1 rfl
theorem dX10_isCover_3 : decode cX10_isCover 3 = .ok (.invokestatic 79, 3) := dq daX10_isCover_40_0 2 rfl
theorem dX10_isCover_6 : decode cX10_isCover 6 = .ok (.ifCond .eq 16, 3) := dq daX10_isCover_40_0 3 rfl
theorem dX10_isCover_22 : decode cX10_isCover 22 = .ok (.iconst 0, 1) := dq daX10_isCover_40_0 4 rfl
theorem dX10_isCover_23 : decode cX10_isCover 23 = .ok (.ireturn, 1) := dq daX10_isCover_40_0 5 rfl
theorem dX10_isCover_9 : decode cX10_isCover 9 = .ok (.iload_n 1, 1) := dq daX10_isCover_40_0 6 rfl
theorem dX10_isCover_10 : decode cX10_isCover 10 = .ok (.bipush 9, 2) := dq daX10_isCover_40_0 7 rfl
theorem dX10_isCover_12 : decode cX10_isCover 12 = .ok (.invokestatic 79, 3) := dq daX10_isCover_40_0 8 rfl
theorem dX10_isCover_15 : decode cX10_isCover 15 = .ok (.ifCond .eq 7, 3) := dq daX10_isCover_40_0 9 rfl
theorem dX10_isCover_18 : decode cX10_isCover 18 = .ok (.iconst 1, 1) := dq daX10_isCover_40_0 10 rfl
theorem dX10_isCover_19 : decode cX10_isCover 19 = .ok (.goto 4, 3) := dq daX10_isCover_40_0 11 rfl
def dtX10_isLoad_40_0 : List (Nat × Jvm.ClassFile.Instr × Nat) := [(0, .iload_n 0, 1), (1, .ldc 140, 2), (3, .invokestatic 79, 3), (6, .ifCond .eq 24, 3), (30, .iconst 0, 1), (31, .ireturn, 1), (9, .iload_n 1, 1), (10, .ldc 140, 2), (12, .invokestatic 79, 3), (15, .ifCond .eq 15, 3), (18, .iload_n 2, 1), (19, .iload_n 3, 1), (20, .invokestatic 104, 3), (23, .ifCond .eq 7, 3), (26, .iconst 1, 1), (27, .goto 4, 3)]
theorem daX10_isLoad_40_0 : dtX10_isLoad_40_0.all (dqd cX10_isLoad) = true := by decide +kernel
theorem dX10_isLoad_0 : decode cX10_isLoad 0 = .ok (.iload_n 0, 1) := dq daX10_isLoad_40_0 0 rfl
theorem dX10_isLoad_1 : decode cX10_isLoad 1 = .ok (.ldc 140, 2) := dq daX10_isLoad_40_0 1 rfl
theorem dX10_isLoad_3 : decode cX10_isLoad 3 = .ok (.invokestatic 79, 3) := dq daX10_isLoad_40_0 2 rfl
theorem dX10_isLoad_6 : decode cX10_isLoad 6 = .ok (.ifCond .eq 24, 3) := dq daX10_isLoad_40_0 3 rfl
theorem dX10_isLoad_30 : decode cX10_isLoad 30 = .ok (.iconst 0, 1) := dq daX10_isLoad_40_0 4 rfl
theorem dX10_isLoad_31 : decode cX10_isLoad 31 = .ok (.ireturn, 1) := dq daX10_isLoad_40_0 5 rfl
theorem dX10_isLoad_9 : decode cX10_isLoad 9 = .ok (.iload_n 1, 1) := dq daX10_isLoad_40_0 6 rfl
theorem dX10_isLoad_10 : decode cX10_isLoad 10 = .ok (.ldc 140, 2) := dq daX10_isLoad_40_0 7 rfl
theorem dX10_isLoad_12 : decode cX10_isLoad 12 = .ok (.invokestatic 79, 3) := dq daX10_isLoad_40_0 8 rfl
theorem dX10_isLoad_15 : decode cX10_isLoad 15 = .ok (.ifCond .eq 15, 3) := dq daX10_isLoad_40_0 9 rfl
theorem dX10_isLoad_18 : decode cX10_isLoad 18 = .ok (.iload_n 2, 1) := dq daX10_isLoad_40_0 10 rfl
theorem dX10_isLoad_19 : decode cX10_isLoad 19 = .ok (.iload_n 3, 1) := dq daX10_isLoad_40_0 11 rfl
theorem dX10_isLoad_20 : decode cX10_isLoad 20 = .ok (.invokestatic 104, 3) := dq daX10_isLoad_40_0 12 rfl
theorem dX10_isLoad_23 : decode cX10_isLoad 23 = .ok (.ifCond .eq 7, 3) := dq daX10_isLoad_40_0 13 rfl
theorem dX10_isLoad_26 : decode cX10_isLoad 26 = .ok (.iconst 1, 1) := dq daX10_isLoad_40_0 14 rfl
theorem dX10_isLoad_27 : decode cX10_isLoad 27 = .ok (.goto 4, 3) := dq daX10_isLoad_40_0 15 rfl
def dtX10_isWish_40_0 : List (Nat × Jvm.ClassFile.Instr × Nat) := [(0, .iload_n 0, 1), (1, .iconst 1, 1), (2, .if_icmp .lt 13, 3), (15, .iconst 0, 1), (16, .ireturn, 1), (5, .iload_n 0, 1), (6, .ldc 140, 2), (8, .if_icmp .gt 7, 3), (11, .iconst 1, 1), (12, .goto 4, 3)]
theorem daX10_isWish_40_0 : dtX10_isWish_40_0.all (dqd cX10_isWish) = true := by decide +kernel
theorem dX10_isWish_0 : decode cX10_isWish 0 = .ok (.iload_n 0, 1) := dq daX10_isWish_40_0 0 rfl
theorem dX10_isWish_1 : decode cX10_isWish 1 = .ok (.iconst 1, 1) := dq daX10_isWish_40_0 1 rfl
theorem dX10_isWish_2 : decode cX10_isWish 2 = .ok (.if_icmp .lt 13, 3) := dq daX10_isWish_40_0 2 rfl
theorem dX10_isWish_15 : decode cX10_isWish 15 = .ok (.iconst 0, 1) := dq daX10_isWish_40_0 3 rfl
theorem dX10_isWish_16 : decode cX10_isWish 16 = .ok (.ireturn, 1) := dq daX10_isWish_40_0 4 rfl
theorem dX10_isWish_5 : decode cX10_isWish 5 = .ok (.iload_n 0, 1) := dq daX10_isWish_40_0 5 rfl
theorem dX10_isWish_6 : decode cX10_isWish 6 = .ok (.ldc 140, 2) := dq daX10_isWish_40_0 6 rfl
theorem dX10_isWish_8 : decode cX10_isWish 8 = .ok (.if_icmp .gt 7, 3) := dq daX10_isWish_40_0 7 rfl
theorem dX10_isWish_11 : decode cX10_isWish 11 = .ok (.iconst 1, 1) := dq daX10_isWish_40_0 8 rfl
theorem dX10_isWish_12 : decode cX10_isWish 12 = .ok (.goto 4, 3) := dq daX10_isWish_40_0 9 rfl
def dtX10_lawOf_40_0 : List (Nat × Jvm.ClassFile.Instr × Nat) := [(0, .iload_n 1, 1), (1, .aload_n 0, 1), (2, .getfield 128, 3), (5, .iconst 1, 1), (6, .isub, 1), (7, .invokestatic 79, 3), (10, .ifCond .eq 18, 3), (28, .aconst_null, 1), (29, .areturn, 1), (13, .iload_n 1, 1), (14, .bipush 6, 2), (16, .if_icmp .ge 12, 3), (19, .aload_n 0, 1), (20, .getfield 29, 3), (23, .iload_n 1, 1), (24, .aaload, 1), (25, .goto 4, 3)]
theorem daX10_lawOf_40_0 : dtX10_lawOf_40_0.all (dqd cX10_lawOf) = true := by decide +kernel
theorem dX10_lawOf_0 : decode cX10_lawOf 0 = .ok (.iload_n 1, 1) := dq daX10_lawOf_40_0 0 rfl
theorem dX10_lawOf_1 : decode cX10_lawOf 1 = .ok (.aload_n 0, 1) := dq daX10_lawOf_40_0 1 rfl
theorem dX10_lawOf_2 : decode cX10_lawOf 2 = .ok (.getfield 128, 3) := dq daX10_lawOf_40_0 2 rfl
theorem dX10_lawOf_5 : decode cX10_lawOf 5 = .ok (.iconst 1, 1) := dq daX10_lawOf_40_0 3 rfl
theorem dX10_lawOf_6 : decode cX10_lawOf 6 = .ok (.isub, 1) := dq daX10_lawOf_40_0 4 rfl
theorem dX10_lawOf_7 : decode cX10_lawOf 7 = .ok (.invokestatic 79, 3) := dq daX10_lawOf_40_0 5 rfl
theorem dX10_lawOf_10 : decode cX10_lawOf 10 = .ok (.ifCond .eq 18, 3) := dq daX10_lawOf_40_0 6 rfl
theorem dX10_lawOf_28 : decode cX10_lawOf 28 = .ok (.aconst_null, 1) := dq daX10_lawOf_40_0 7 rfl
theorem dX10_lawOf_29 : decode cX10_lawOf 29 = .ok (.areturn, 1) := dq daX10_lawOf_40_0 8 rfl
theorem dX10_lawOf_13 : decode cX10_lawOf 13 = .ok (.iload_n 1, 1) := dq daX10_lawOf_40_0 9 rfl
theorem dX10_lawOf_14 : decode cX10_lawOf 14 = .ok (.bipush 6, 2) := dq daX10_lawOf_40_0 10 rfl
theorem dX10_lawOf_16 : decode cX10_lawOf 16 = .ok (.if_icmp .ge 12, 3) := dq daX10_lawOf_40_0 11 rfl
theorem dX10_lawOf_19 : decode cX10_lawOf 19 = .ok (.aload_n 0, 1) := dq daX10_lawOf_40_0 12 rfl
theorem dX10_lawOf_20 : decode cX10_lawOf 20 = .ok (.getfield 29, 3) := dq daX10_lawOf_40_0 13 rfl
theorem dX10_lawOf_23 : decode cX10_lawOf 23 = .ok (.iload_n 1, 1) := dq daX10_lawOf_40_0 14 rfl
theorem dX10_lawOf_24 : decode cX10_lawOf 24 = .ok (.aaload, 1) := dq daX10_lawOf_40_0 15 rfl
theorem dX10_lawOf_25 : decode cX10_lawOf 25 = .ok (.goto 4, 3) := dq daX10_lawOf_40_0 16 rfl
def dtX10_isJourney_40_0 : List (Nat × Jvm.ClassFile.Instr × Nat) := [(0, .aload_n 0, 1), (1, .getfield 10, 3), (4, .getfield 83, 3), (7, .iload_n 1, 1), (8, .invokevirtual 97, 3), (11, .ifCond .eq 26, 3), (37, .iconst 0, 1), (38, .ireturn, 1), (14, .aload_n 0, 1), (15, .getfield 10, 3), (18, .getfield 83, 3), (21, .iload_n 2, 1), (22, .invokevirtual 97, 3), (25, .ifCond .eq 12, 3), (28, .iload_n 1, 1), (29, .iload_n 2, 1), (30, .if_icmp .eq 7, 3), (33, .iconst 1, 1), (34, .goto 4, 3)]
theorem daX10_isJourney_40_0 : dtX10_isJourney_40_0.all (dqd cX10_isJourney) = true := by decide +kernel
theorem dX10_isJourney_0 : decode cX10_isJourney 0 = .ok (.aload_n 0, 1) := dq daX10_isJourney_40_0 0 rfl
theorem dX10_isJourney_1 : decode cX10_isJourney 1 = .ok (.getfield 10, 3) := dq daX10_isJourney_40_0 1 rfl
theorem dX10_isJourney_4 : decode cX10_isJourney 4 = .ok (.getfield 83, 3) := dq daX10_isJourney_40_0 2 rfl
theorem dX10_isJourney_7 : decode cX10_isJourney 7 = .ok (.iload_n 1, 1) := dq daX10_isJourney_40_0 3 rfl
theorem dX10_isJourney_8 : decode cX10_isJourney 8 = .ok (.invokevirtual 97, 3) := dq daX10_isJourney_40_0 4 rfl
theorem dX10_isJourney_11 : decode cX10_isJourney 11 = .ok (.ifCond .eq 26, 3) := dq daX10_isJourney_40_0 5 rfl
theorem dX10_isJourney_37 : decode cX10_isJourney 37 = .ok (.iconst 0, 1) := dq daX10_isJourney_40_0 6 rfl
theorem dX10_isJourney_38 : decode cX10_isJourney 38 = .ok (.ireturn, 1) := dq daX10_isJourney_40_0 7 rfl
theorem dX10_isJourney_14 : decode cX10_isJourney 14 = .ok (.aload_n 0, 1) := dq daX10_isJourney_40_0 8 rfl
theorem dX10_isJourney_15 : decode cX10_isJourney 15 = .ok (.getfield 10, 3) := dq daX10_isJourney_40_0 9 rfl
theorem dX10_isJourney_18 : decode cX10_isJourney 18 = .ok (.getfield 83, 3) := dq daX10_isJourney_40_0 10 rfl
theorem dX10_isJourney_21 : decode cX10_isJourney 21 = .ok (.iload_n 2, 1) := dq daX10_isJourney_40_0 11 rfl
theorem dX10_isJourney_22 : decode cX10_isJourney 22 = .ok (.invokevirtual 97, 3) := dq daX10_isJourney_40_0 12 rfl
theorem dX10_isJourney_25 : decode cX10_isJourney 25 = .ok (.ifCond .eq 12, 3) := dq daX10_isJourney_40_0 13 rfl
theorem dX10_isJourney_28 : decode cX10_isJourney 28 = .ok (.iload_n 1, 1) := dq daX10_isJourney_40_0 14 rfl
theorem dX10_isJourney_29 : decode cX10_isJourney 29 = .ok (.iload_n 2, 1) := dq daX10_isJourney_40_0 15 rfl
theorem dX10_isJourney_30 : decode cX10_isJourney 30 = .ok (.if_icmp .eq 7, 3) := dq daX10_isJourney_40_0 16 rfl
theorem dX10_isJourney_33 : decode cX10_isJourney 33 = .ok (.iconst 1, 1) := dq daX10_isJourney_40_0 17 rfl
theorem dX10_isJourney_34 : decode cX10_isJourney 34 = .ok (.goto 4, 3) := dq daX10_isJourney_40_0 18 rfl
def dtX10_writeBytes_40_0 : List (Nat × Jvm.ClassFile.Instr × Nat) := [(0, .bipush 24, 2), (2, .istore_n 2, 1), (3, .iload_n 2, 1), (4, .ifCond .lt 45, 3), (7, .aload_n 0, 1), (8, .getfield 121, 3), (11, .sipush 400, 3), (14, .if_icmp .ge 29, 3), (43, .iinc 2 (-8), 3), (46, .goto (-43), 3), (49, .return_, 1), (17, .aload_n 0, 1), (18, .getfield 23, 3), (21, .aload_n 0, 1), (22, .getfield 121, 3), (25, .iload_n 1, 1), (26, .iload_n 2, 1), (27, .iushr, 1), (28, .sipush 255, 3), (31, .iand, 1), (32, .iastore, 1), (33, .aload_n 0, 1), (34, .dup, 1), (35, .getfield 121, 3), (38, .iconst 1, 1), (39, .iadd, 1), (40, .putfield 121, 3)]
theorem daX10_writeBytes_40_0 : dtX10_writeBytes_40_0.all (dqd cX10_writeBytes) = true := by decide +kernel
theorem dX10_writeBytes_0 : decode cX10_writeBytes 0 = .ok (.bipush 24, 2) := dq daX10_writeBytes_40_0 0 rfl
theorem dX10_writeBytes_2 : decode cX10_writeBytes 2 = .ok (.istore_n 2, 1) := dq daX10_writeBytes_40_0 1 rfl
theorem dX10_writeBytes_3 : decode cX10_writeBytes 3 = .ok (.iload_n 2, 1) := dq daX10_writeBytes_40_0 2 rfl
theorem dX10_writeBytes_4 : decode cX10_writeBytes 4 = .ok (.ifCond .lt 45, 3) := dq daX10_writeBytes_40_0 3 rfl
theorem dX10_writeBytes_7 : decode cX10_writeBytes 7 = .ok (.aload_n 0, 1) := dq daX10_writeBytes_40_0 4 rfl
theorem dX10_writeBytes_8 : decode cX10_writeBytes 8 = .ok (.getfield 121, 3) := dq daX10_writeBytes_40_0 5 rfl
theorem dX10_writeBytes_11 : decode cX10_writeBytes 11 = .ok (.sipush 400, 3) := dq daX10_writeBytes_40_0 6 rfl
theorem dX10_writeBytes_14 : decode cX10_writeBytes 14 = .ok (.if_icmp .ge 29, 3) := dq daX10_writeBytes_40_0 7 rfl
theorem dX10_writeBytes_43 : decode cX10_writeBytes 43 = .ok (.iinc 2 (-8), 3) := dq daX10_writeBytes_40_0 8 rfl
theorem dX10_writeBytes_46 : decode cX10_writeBytes 46 = .ok (.goto (-43), 3) := dq daX10_writeBytes_40_0 9 rfl
theorem dX10_writeBytes_49 : decode cX10_writeBytes 49 = .ok (.return_, 1) := dq daX10_writeBytes_40_0 10 rfl
theorem dX10_writeBytes_17 : decode cX10_writeBytes 17 = .ok (.aload_n 0, 1) := dq daX10_writeBytes_40_0 11 rfl
theorem dX10_writeBytes_18 : decode cX10_writeBytes 18 = .ok (.getfield 23, 3) := dq daX10_writeBytes_40_0 12 rfl
theorem dX10_writeBytes_21 : decode cX10_writeBytes 21 = .ok (.aload_n 0, 1) := dq daX10_writeBytes_40_0 13 rfl
theorem dX10_writeBytes_22 : decode cX10_writeBytes 22 = .ok (.getfield 121, 3) := dq daX10_writeBytes_40_0 14 rfl
theorem dX10_writeBytes_25 : decode cX10_writeBytes 25 = .ok (.iload_n 1, 1) := dq daX10_writeBytes_40_0 15 rfl
theorem dX10_writeBytes_26 : decode cX10_writeBytes 26 = .ok (.iload_n 2, 1) := dq daX10_writeBytes_40_0 16 rfl
theorem dX10_writeBytes_27 : decode cX10_writeBytes 27 = .ok (.iushr, 1) := dq daX10_writeBytes_40_0 17 rfl
theorem dX10_writeBytes_28 : decode cX10_writeBytes 28 = .ok (.sipush 255, 3) := dq daX10_writeBytes_40_0 18 rfl
theorem dX10_writeBytes_31 : decode cX10_writeBytes 31 = .ok (.iand, 1) := dq daX10_writeBytes_40_0 19 rfl
theorem dX10_writeBytes_32 : decode cX10_writeBytes 32 = .ok (.iastore, 1) := dq daX10_writeBytes_40_0 20 rfl
theorem dX10_writeBytes_33 : decode cX10_writeBytes 33 = .ok (.aload_n 0, 1) := dq daX10_writeBytes_40_0 21 rfl
theorem dX10_writeBytes_34 : decode cX10_writeBytes 34 = .ok (.dup, 1) := dq daX10_writeBytes_40_0 22 rfl
theorem dX10_writeBytes_35 : decode cX10_writeBytes 35 = .ok (.getfield 121, 3) := dq daX10_writeBytes_40_0 23 rfl
theorem dX10_writeBytes_38 : decode cX10_writeBytes 38 = .ok (.iconst 1, 1) := dq daX10_writeBytes_40_0 24 rfl
theorem dX10_writeBytes_39 : decode cX10_writeBytes 39 = .ok (.iadd, 1) := dq daX10_writeBytes_40_0 25 rfl
theorem dX10_writeBytes_40 : decode cX10_writeBytes 40 = .ok (.putfield 121, 3) := dq daX10_writeBytes_40_0 26 rfl
def dtX10_tick_40_0 : List (Nat × Jvm.ClassFile.Instr × Nat) := [(0, .aload_n 0, 1), (1, .iload_n 1, 1), (2, .invokevirtual 161, 3), (5, .astore_n 3, 1), (6, .aload_n 3, 1), (7, .ifnull 29, 3), (36, .iconst (-1), 1), (37, .ireturn, 1)]
theorem daX10_tick_40_0 : dtX10_tick_40_0.all (dqd cX10_tick) = true := by decide +kernel
theorem dX10_tick_0 : decode cX10_tick 0 = .ok (.aload_n 0, 1) := dq daX10_tick_40_0 0 rfl
theorem dX10_tick_1 : decode cX10_tick 1 = .ok (.iload_n 1, 1) := dq daX10_tick_40_0 1 rfl
theorem dX10_tick_2 : decode cX10_tick 2 = .ok (.invokevirtual 161, 3) := dq daX10_tick_40_0 2 rfl
theorem dX10_tick_5 : decode cX10_tick 5 = .ok (.astore_n 3, 1) := dq daX10_tick_40_0 3 rfl
theorem dX10_tick_6 : decode cX10_tick 6 = .ok (.aload_n 3, 1) := dq daX10_tick_40_0 4 rfl
theorem dX10_tick_7 : decode cX10_tick 7 = .ok (.ifnull 29, 3) := dq daX10_tick_40_0 5 rfl
theorem dX10_tick_36 : decode cX10_tick 36 = .ok (.iconst (-1), 1) := dq daX10_tick_40_0 6 rfl
theorem dX10_tick_37 : decode cX10_tick 37 = .ok (.ireturn, 1) := dq daX10_tick_40_0 7 rfl
def dtX10_melt_40_0 : List (Nat × Jvm.ClassFile.Instr × Nat) := [(0, .aload_n 0, 1), (1, .iload_n 1, 1), (2, .invokevirtual 161, 3), (5, .astore_n 3, 1), (6, .aload_n 3, 1), (7, .ifnull 34, 3), (41, .iconst (-1), 1), (42, .ireturn, 1)]
theorem daX10_melt_40_0 : dtX10_melt_40_0.all (dqd cX10_melt) = true := by decide +kernel
theorem dX10_melt_0 : decode cX10_melt 0 = .ok (.aload_n 0, 1) := dq daX10_melt_40_0 0 rfl
theorem dX10_melt_1 : decode cX10_melt 1 = .ok (.iload_n 1, 1) := dq daX10_melt_40_0 1 rfl
theorem dX10_melt_2 : decode cX10_melt 2 = .ok (.invokevirtual 161, 3) := dq daX10_melt_40_0 2 rfl
theorem dX10_melt_5 : decode cX10_melt 5 = .ok (.astore_n 3, 1) := dq daX10_melt_40_0 3 rfl
theorem dX10_melt_6 : decode cX10_melt 6 = .ok (.aload_n 3, 1) := dq daX10_melt_40_0 4 rfl
theorem dX10_melt_7 : decode cX10_melt 7 = .ok (.ifnull 34, 3) := dq daX10_melt_40_0 5 rfl
theorem dX10_melt_41 : decode cX10_melt 41 = .ok (.iconst (-1), 1) := dq daX10_melt_40_0 6 rfl
theorem dX10_melt_42 : decode cX10_melt 42 = .ok (.ireturn, 1) := dq daX10_melt_40_0 7 rfl
def dtX10_tried_40_0 : List (Nat × Jvm.ClassFile.Instr × Nat) := [(0, .aload_n 0, 1), (1, .iload_n 1, 1), (2, .invokevirtual 161, 3), (5, .astore 7, 2), (7, .aload 7, 2), (9, .ifnull 35, 3), (44, .iconst (-1), 1), (45, .ireturn, 1)]
theorem daX10_tried_40_0 : dtX10_tried_40_0.all (dqd cX10_tried) = true := by decide +kernel
theorem dX10_tried_0 : decode cX10_tried 0 = .ok (.aload_n 0, 1) := dq daX10_tried_40_0 0 rfl
theorem dX10_tried_1 : decode cX10_tried 1 = .ok (.iload_n 1, 1) := dq daX10_tried_40_0 1 rfl
theorem dX10_tried_2 : decode cX10_tried 2 = .ok (.invokevirtual 161, 3) := dq daX10_tried_40_0 2 rfl
theorem dX10_tried_5 : decode cX10_tried 5 = .ok (.astore 7, 2) := dq daX10_tried_40_0 3 rfl
theorem dX10_tried_7 : decode cX10_tried 7 = .ok (.aload 7, 2) := dq daX10_tried_40_0 4 rfl
theorem dX10_tried_9 : decode cX10_tried 9 = .ok (.ifnull 35, 3) := dq daX10_tried_40_0 5 rfl
theorem dX10_tried_44 : decode cX10_tried 44 = .ok (.iconst (-1), 1) := dq daX10_tried_40_0 6 rfl
theorem dX10_tried_45 : decode cX10_tried 45 = .ok (.ireturn, 1) := dq daX10_tried_40_0 7 rfl
def dtX10_best_40_0 : List (Nat × Jvm.ClassFile.Instr × Nat) := [(0, .aload_n 0, 1), (1, .iload_n 1, 1), (2, .invokevirtual 161, 3), (5, .astore 9, 2), (7, .aload 9, 2), (9, .ifnull 36, 3), (45, .iconst (-1), 1), (46, .ireturn, 1)]
theorem daX10_best_40_0 : dtX10_best_40_0.all (dqd cX10_best) = true := by decide +kernel
theorem dX10_best_0 : decode cX10_best 0 = .ok (.aload_n 0, 1) := dq daX10_best_40_0 0 rfl
theorem dX10_best_1 : decode cX10_best 1 = .ok (.iload_n 1, 1) := dq daX10_best_40_0 1 rfl
theorem dX10_best_2 : decode cX10_best 2 = .ok (.invokevirtual 161, 3) := dq daX10_best_40_0 2 rfl
theorem dX10_best_5 : decode cX10_best 5 = .ok (.astore 9, 2) := dq daX10_best_40_0 3 rfl
theorem dX10_best_7 : decode cX10_best 7 = .ok (.aload 9, 2) := dq daX10_best_40_0 4 rfl
theorem dX10_best_9 : decode cX10_best 9 = .ok (.ifnull 36, 3) := dq daX10_best_40_0 5 rfl
theorem dX10_best_45 : decode cX10_best 45 = .ok (.iconst (-1), 1) := dq daX10_best_40_0 6 rfl
theorem dX10_best_46 : decode cX10_best 46 = .ok (.ireturn, 1) := dq daX10_best_40_0 7 rfl
def dtX10_warmer_40_0 : List (Nat × Jvm.ClassFile.Instr × Nat) := [(0, .aload_n 0, 1), (1, .iload_n 1, 1), (2, .invokevirtual 161, 3), (5, .astore 7, 2), (7, .iload_n 2, 1), (8, .iload_n 3, 1), (9, .iload 4, 2), (11, .iload 5, 2), (13, .invokestatic 191, 3), (16, .ifCond .eq 17, 3), (33, .iconst 0, 1), (34, .istore 8, 2), (36, .aload 7, 2), (38, .ifnull 19, 3), (57, .iconst (-1), 1), (58, .ireturn, 1), (19, .iload 6, 2), (21, .ldc 140, 2), (23, .invokestatic 79, 3), (26, .ifCond .eq 7, 3), (29, .iconst 1, 1), (30, .goto 4, 3)]
theorem daX10_warmer_40_0 : dtX10_warmer_40_0.all (dqd cX10_warmer) = true := by decide +kernel
theorem dX10_warmer_0 : decode cX10_warmer 0 = .ok (.aload_n 0, 1) := dq daX10_warmer_40_0 0 rfl
theorem dX10_warmer_1 : decode cX10_warmer 1 = .ok (.iload_n 1, 1) := dq daX10_warmer_40_0 1 rfl
theorem dX10_warmer_2 : decode cX10_warmer 2 = .ok (.invokevirtual 161, 3) := dq daX10_warmer_40_0 2 rfl
theorem dX10_warmer_5 : decode cX10_warmer 5 = .ok (.astore 7, 2) := dq daX10_warmer_40_0 3 rfl
theorem dX10_warmer_7 : decode cX10_warmer 7 = .ok (.iload_n 2, 1) := dq daX10_warmer_40_0 4 rfl
theorem dX10_warmer_8 : decode cX10_warmer 8 = .ok (.iload_n 3, 1) := dq daX10_warmer_40_0 5 rfl
theorem dX10_warmer_9 : decode cX10_warmer 9 = .ok (.iload 4, 2) := dq daX10_warmer_40_0 6 rfl
theorem dX10_warmer_11 : decode cX10_warmer 11 = .ok (.iload 5, 2) := dq daX10_warmer_40_0 7 rfl
theorem dX10_warmer_13 : decode cX10_warmer 13 = .ok (.invokestatic 191, 3) := dq daX10_warmer_40_0 8 rfl
theorem dX10_warmer_16 : decode cX10_warmer 16 = .ok (.ifCond .eq 17, 3) := dq daX10_warmer_40_0 9 rfl
theorem dX10_warmer_33 : decode cX10_warmer 33 = .ok (.iconst 0, 1) := dq daX10_warmer_40_0 10 rfl
theorem dX10_warmer_34 : decode cX10_warmer 34 = .ok (.istore 8, 2) := dq daX10_warmer_40_0 11 rfl
theorem dX10_warmer_36 : decode cX10_warmer 36 = .ok (.aload 7, 2) := dq daX10_warmer_40_0 12 rfl
theorem dX10_warmer_38 : decode cX10_warmer 38 = .ok (.ifnull 19, 3) := dq daX10_warmer_40_0 13 rfl
theorem dX10_warmer_57 : decode cX10_warmer 57 = .ok (.iconst (-1), 1) := dq daX10_warmer_40_0 14 rfl
theorem dX10_warmer_58 : decode cX10_warmer 58 = .ok (.ireturn, 1) := dq daX10_warmer_40_0 15 rfl
theorem dX10_warmer_19 : decode cX10_warmer 19 = .ok (.iload 6, 2) := dq daX10_warmer_40_0 16 rfl
theorem dX10_warmer_21 : decode cX10_warmer 21 = .ok (.ldc 140, 2) := dq daX10_warmer_40_0 17 rfl
theorem dX10_warmer_23 : decode cX10_warmer 23 = .ok (.invokestatic 79, 3) := dq daX10_warmer_40_0 18 rfl
theorem dX10_warmer_26 : decode cX10_warmer 26 = .ok (.ifCond .eq 7, 3) := dq daX10_warmer_40_0 19 rfl
theorem dX10_warmer_29 : decode cX10_warmer 29 = .ok (.iconst 1, 1) := dq daX10_warmer_40_0 20 rfl
theorem dX10_warmer_30 : decode cX10_warmer 30 = .ok (.goto 4, 3) := dq daX10_warmer_40_0 21 rfl
def dtX10_guess_40_0 : List (Nat × Jvm.ClassFile.Instr × Nat) := [(0, .aload_n 0, 1), (1, .iload_n 1, 1), (2, .invokevirtual 161, 3), (5, .astore 10, 2), (7, .iload 6, 2), (9, .bipush 12, 2), (11, .invokestatic 79, 3), (14, .ifCond .eq 26, 3), (40, .iconst 0, 1), (41, .istore 11, 2), (43, .iload 9, 2), (45, .ifCond .eq 18, 3), (63, .iconst 1, 1), (64, .goto 4, 3), (68, .istore 12, 2), (70, .aload 10, 2), (72, .ifnull 36, 3), (108, .iconst (-1), 1), (109, .ireturn, 1), (48, .aload_n 0, 1), (49, .getfield 10, 3), (52, .getfield 185, 3), (55, .iload 8, 2), (57, .invokevirtual 97, 3), (60, .ifCond .eq 7, 3), (67, .iconst 0, 1), (17, .iload 7, 2), (19, .ldc 140, 2), (21, .invokestatic 79, 3), (24, .ifCond .eq 16, 3), (27, .iload 9, 2), (29, .iconst 2, 1)]
theorem daX10_guess_40_0 : dtX10_guess_40_0.all (dqd cX10_guess) = true := by decide +kernel
theorem dX10_guess_0 : decode cX10_guess 0 = .ok (.aload_n 0, 1) := dq daX10_guess_40_0 0 rfl
theorem dX10_guess_1 : decode cX10_guess 1 = .ok (.iload_n 1, 1) := dq daX10_guess_40_0 1 rfl
theorem dX10_guess_2 : decode cX10_guess 2 = .ok (.invokevirtual 161, 3) := dq daX10_guess_40_0 2 rfl
theorem dX10_guess_5 : decode cX10_guess 5 = .ok (.astore 10, 2) := dq daX10_guess_40_0 3 rfl
theorem dX10_guess_7 : decode cX10_guess 7 = .ok (.iload 6, 2) := dq daX10_guess_40_0 4 rfl
theorem dX10_guess_9 : decode cX10_guess 9 = .ok (.bipush 12, 2) := dq daX10_guess_40_0 5 rfl
theorem dX10_guess_11 : decode cX10_guess 11 = .ok (.invokestatic 79, 3) := dq daX10_guess_40_0 6 rfl
theorem dX10_guess_14 : decode cX10_guess 14 = .ok (.ifCond .eq 26, 3) := dq daX10_guess_40_0 7 rfl
theorem dX10_guess_40 : decode cX10_guess 40 = .ok (.iconst 0, 1) := dq daX10_guess_40_0 8 rfl
theorem dX10_guess_41 : decode cX10_guess 41 = .ok (.istore 11, 2) := dq daX10_guess_40_0 9 rfl
theorem dX10_guess_43 : decode cX10_guess 43 = .ok (.iload 9, 2) := dq daX10_guess_40_0 10 rfl
theorem dX10_guess_45 : decode cX10_guess 45 = .ok (.ifCond .eq 18, 3) := dq daX10_guess_40_0 11 rfl
theorem dX10_guess_63 : decode cX10_guess 63 = .ok (.iconst 1, 1) := dq daX10_guess_40_0 12 rfl
theorem dX10_guess_64 : decode cX10_guess 64 = .ok (.goto 4, 3) := dq daX10_guess_40_0 13 rfl
theorem dX10_guess_68 : decode cX10_guess 68 = .ok (.istore 12, 2) := dq daX10_guess_40_0 14 rfl
theorem dX10_guess_70 : decode cX10_guess 70 = .ok (.aload 10, 2) := dq daX10_guess_40_0 15 rfl
theorem dX10_guess_72 : decode cX10_guess 72 = .ok (.ifnull 36, 3) := dq daX10_guess_40_0 16 rfl
theorem dX10_guess_108 : decode cX10_guess 108 = .ok (.iconst (-1), 1) := dq daX10_guess_40_0 17 rfl
theorem dX10_guess_109 : decode cX10_guess 109 = .ok (.ireturn, 1) := dq daX10_guess_40_0 18 rfl
theorem dX10_guess_48 : decode cX10_guess 48 = .ok (.aload_n 0, 1) := dq daX10_guess_40_0 19 rfl
theorem dX10_guess_49 : decode cX10_guess 49 = .ok (.getfield 10, 3) := dq daX10_guess_40_0 20 rfl
theorem dX10_guess_52 : decode cX10_guess 52 = .ok (.getfield 185, 3) := dq daX10_guess_40_0 21 rfl
theorem dX10_guess_55 : decode cX10_guess 55 = .ok (.iload 8, 2) := dq daX10_guess_40_0 22 rfl
theorem dX10_guess_57 : decode cX10_guess 57 = .ok (.invokevirtual 97, 3) := dq daX10_guess_40_0 23 rfl
theorem dX10_guess_60 : decode cX10_guess 60 = .ok (.ifCond .eq 7, 3) := dq daX10_guess_40_0 24 rfl
theorem dX10_guess_67 : decode cX10_guess 67 = .ok (.iconst 0, 1) := dq daX10_guess_40_0 25 rfl
theorem dX10_guess_17 : decode cX10_guess 17 = .ok (.iload 7, 2) := dq daX10_guess_40_0 26 rfl
theorem dX10_guess_19 : decode cX10_guess 19 = .ok (.ldc 140, 2) := dq daX10_guess_40_0 27 rfl
theorem dX10_guess_21 : decode cX10_guess 21 = .ok (.invokestatic 79, 3) := dq daX10_guess_40_0 28 rfl
theorem dX10_guess_24 : decode cX10_guess 24 = .ok (.ifCond .eq 16, 3) := dq daX10_guess_40_0 29 rfl
theorem dX10_guess_27 : decode cX10_guess 27 = .ok (.iload 9, 2) := dq daX10_guess_40_0 30 rfl
theorem dX10_guess_29 : decode cX10_guess 29 = .ok (.iconst 2, 1) := dq daX10_guess_40_0 31 rfl
def dtX10_guess_40_1 : List (Nat × Jvm.ClassFile.Instr × Nat) := [(30, .invokestatic 79, 3), (33, .ifCond .eq 7, 3), (36, .iconst 1, 1), (37, .goto 4, 3)]
theorem daX10_guess_40_1 : dtX10_guess_40_1.all (dqd cX10_guess) = true := by decide +kernel
theorem dX10_guess_30 : decode cX10_guess 30 = .ok (.invokestatic 79, 3) := dq daX10_guess_40_1 0 rfl
theorem dX10_guess_33 : decode cX10_guess 33 = .ok (.ifCond .eq 7, 3) := dq daX10_guess_40_1 1 rfl
theorem dX10_guess_36 : decode cX10_guess 36 = .ok (.iconst 1, 1) := dq daX10_guess_40_1 2 rfl
theorem dX10_guess_37 : decode cX10_guess 37 = .ok (.goto 4, 3) := dq daX10_guess_40_1 3 rfl
def dtX10_serves_40_0 : List (Nat × Jvm.ClassFile.Instr × Nat) := [(0, .aload_n 0, 1), (1, .iload_n 1, 1), (2, .invokevirtual 161, 3), (5, .astore 4, 2), (7, .aload 4, 2), (9, .ifnull 31, 3), (40, .iconst (-1), 1), (41, .ireturn, 1)]
theorem daX10_serves_40_0 : dtX10_serves_40_0.all (dqd cX10_serves) = true := by decide +kernel
theorem dX10_serves_0 : decode cX10_serves 0 = .ok (.aload_n 0, 1) := dq daX10_serves_40_0 0 rfl
theorem dX10_serves_1 : decode cX10_serves 1 = .ok (.iload_n 1, 1) := dq daX10_serves_40_0 1 rfl
theorem dX10_serves_2 : decode cX10_serves 2 = .ok (.invokevirtual 161, 3) := dq daX10_serves_40_0 2 rfl
theorem dX10_serves_5 : decode cX10_serves 5 = .ok (.astore 4, 2) := dq daX10_serves_40_0 3 rfl
theorem dX10_serves_7 : decode cX10_serves 7 = .ok (.aload 4, 2) := dq daX10_serves_40_0 4 rfl
theorem dX10_serves_9 : decode cX10_serves 9 = .ok (.ifnull 31, 3) := dq daX10_serves_40_0 5 rfl
theorem dX10_serves_40 : decode cX10_serves 40 = .ok (.iconst (-1), 1) := dq daX10_serves_40_0 6 rfl
theorem dX10_serves_41 : decode cX10_serves 41 = .ok (.ireturn, 1) := dq daX10_serves_40_0 7 rfl
def dtX10_all_40_0 : List (Nat × Jvm.ClassFile.Instr × Nat) := [(0, .aload_n 0, 1), (1, .iload_n 1, 1), (2, .invokevirtual 161, 3), (5, .astore_n 3, 1), (6, .aload_n 3, 1), (7, .ifnull 12, 3), (19, .iconst (-1), 1), (20, .ireturn, 1)]
theorem daX10_all_40_0 : dtX10_all_40_0.all (dqd cX10_all) = true := by decide +kernel
theorem dX10_all_0 : decode cX10_all 0 = .ok (.aload_n 0, 1) := dq daX10_all_40_0 0 rfl
theorem dX10_all_1 : decode cX10_all 1 = .ok (.iload_n 1, 1) := dq daX10_all_40_0 1 rfl
theorem dX10_all_2 : decode cX10_all 2 = .ok (.invokevirtual 161, 3) := dq daX10_all_40_0 2 rfl
theorem dX10_all_5 : decode cX10_all 5 = .ok (.astore_n 3, 1) := dq daX10_all_40_0 3 rfl
theorem dX10_all_6 : decode cX10_all 6 = .ok (.aload_n 3, 1) := dq daX10_all_40_0 4 rfl
theorem dX10_all_7 : decode cX10_all 7 = .ok (.ifnull 12, 3) := dq daX10_all_40_0 5 rfl
theorem dX10_all_19 : decode cX10_all 19 = .ok (.iconst (-1), 1) := dq daX10_all_40_0 6 rfl
theorem dX10_all_20 : decode cX10_all 20 = .ok (.ireturn, 1) := dq daX10_all_40_0 7 rfl
def dtX10_enough_40_0 : List (Nat × Jvm.ClassFile.Instr × Nat) := [(0, .aload_n 0, 1), (1, .iload_n 1, 1), (2, .invokevirtual 161, 3), (5, .astore 4, 2), (7, .aload 4, 2), (9, .ifnull 26, 3), (35, .iconst (-1), 1), (36, .ireturn, 1)]
theorem daX10_enough_40_0 : dtX10_enough_40_0.all (dqd cX10_enough) = true := by decide +kernel
theorem dX10_enough_0 : decode cX10_enough 0 = .ok (.aload_n 0, 1) := dq daX10_enough_40_0 0 rfl
theorem dX10_enough_1 : decode cX10_enough 1 = .ok (.iload_n 1, 1) := dq daX10_enough_40_0 1 rfl
theorem dX10_enough_2 : decode cX10_enough 2 = .ok (.invokevirtual 161, 3) := dq daX10_enough_40_0 2 rfl
theorem dX10_enough_5 : decode cX10_enough 5 = .ok (.astore 4, 2) := dq daX10_enough_40_0 3 rfl
theorem dX10_enough_7 : decode cX10_enough 7 = .ok (.aload 4, 2) := dq daX10_enough_40_0 4 rfl
theorem dX10_enough_9 : decode cX10_enough 9 = .ok (.ifnull 26, 3) := dq daX10_enough_40_0 5 rfl
theorem dX10_enough_35 : decode cX10_enough 35 = .ok (.iconst (-1), 1) := dq daX10_enough_40_0 6 rfl
theorem dX10_enough_36 : decode cX10_enough 36 = .ok (.ireturn, 1) := dq daX10_enough_40_0 7 rfl
def dtX10_least_40_0 : List (Nat × Jvm.ClassFile.Instr × Nat) := [(0, .aload_n 0, 1), (1, .iload_n 1, 1), (2, .invokevirtual 161, 3), (5, .astore_n 3, 1), (6, .aload_n 3, 1), (7, .ifnull 17, 3), (24, .iconst (-1), 1), (25, .ireturn, 1)]
theorem daX10_least_40_0 : dtX10_least_40_0.all (dqd cX10_least) = true := by decide +kernel
theorem dX10_least_0 : decode cX10_least 0 = .ok (.aload_n 0, 1) := dq daX10_least_40_0 0 rfl
theorem dX10_least_1 : decode cX10_least 1 = .ok (.iload_n 1, 1) := dq daX10_least_40_0 1 rfl
theorem dX10_least_2 : decode cX10_least 2 = .ok (.invokevirtual 161, 3) := dq daX10_least_40_0 2 rfl
theorem dX10_least_5 : decode cX10_least 5 = .ok (.astore_n 3, 1) := dq daX10_least_40_0 3 rfl
theorem dX10_least_6 : decode cX10_least 6 = .ok (.aload_n 3, 1) := dq daX10_least_40_0 4 rfl
theorem dX10_least_7 : decode cX10_least 7 = .ok (.ifnull 17, 3) := dq daX10_least_40_0 5 rfl
theorem dX10_least_24 : decode cX10_least 24 = .ok (.iconst (-1), 1) := dq daX10_least_40_0 6 rfl
theorem dX10_least_25 : decode cX10_least 25 = .ok (.ireturn, 1) := dq daX10_least_40_0 7 rfl
def dtX10_nights_40_0 : List (Nat × Jvm.ClassFile.Instr × Nat) := [(0, .aload_n 0, 1), (1, .iload_n 1, 1), (2, .invokevirtual 161, 3), (5, .astore 6, 2), (7, .iload_n 3, 1), (8, .ldc 140, 2), (10, .invokestatic 79, 3), (13, .ifCond .eq 29, 3), (42, .iconst 0, 1), (43, .istore 7, 2), (45, .aload 6, 2), (47, .ifnull 33, 3), (80, .iconst (-1), 1), (81, .ireturn, 1), (16, .iload 4, 2), (18, .iconst 1, 1), (19, .if_icmp .lt 23, 3), (22, .iload 4, 2), (24, .bipush 20, 2), (26, .if_icmp .gt 16, 3), (29, .iload 5, 2), (31, .iconst 2, 1), (32, .invokestatic 79, 3), (35, .ifCond .eq 7, 3), (38, .iconst 1, 1), (39, .goto 4, 3)]
theorem daX10_nights_40_0 : dtX10_nights_40_0.all (dqd cX10_nights) = true := by decide +kernel
theorem dX10_nights_0 : decode cX10_nights 0 = .ok (.aload_n 0, 1) := dq daX10_nights_40_0 0 rfl
theorem dX10_nights_1 : decode cX10_nights 1 = .ok (.iload_n 1, 1) := dq daX10_nights_40_0 1 rfl
theorem dX10_nights_2 : decode cX10_nights 2 = .ok (.invokevirtual 161, 3) := dq daX10_nights_40_0 2 rfl
theorem dX10_nights_5 : decode cX10_nights 5 = .ok (.astore 6, 2) := dq daX10_nights_40_0 3 rfl
theorem dX10_nights_7 : decode cX10_nights 7 = .ok (.iload_n 3, 1) := dq daX10_nights_40_0 4 rfl
theorem dX10_nights_8 : decode cX10_nights 8 = .ok (.ldc 140, 2) := dq daX10_nights_40_0 5 rfl
theorem dX10_nights_10 : decode cX10_nights 10 = .ok (.invokestatic 79, 3) := dq daX10_nights_40_0 6 rfl
theorem dX10_nights_13 : decode cX10_nights 13 = .ok (.ifCond .eq 29, 3) := dq daX10_nights_40_0 7 rfl
theorem dX10_nights_42 : decode cX10_nights 42 = .ok (.iconst 0, 1) := dq daX10_nights_40_0 8 rfl
theorem dX10_nights_43 : decode cX10_nights 43 = .ok (.istore 7, 2) := dq daX10_nights_40_0 9 rfl
theorem dX10_nights_45 : decode cX10_nights 45 = .ok (.aload 6, 2) := dq daX10_nights_40_0 10 rfl
theorem dX10_nights_47 : decode cX10_nights 47 = .ok (.ifnull 33, 3) := dq daX10_nights_40_0 11 rfl
theorem dX10_nights_80 : decode cX10_nights 80 = .ok (.iconst (-1), 1) := dq daX10_nights_40_0 12 rfl
theorem dX10_nights_81 : decode cX10_nights 81 = .ok (.ireturn, 1) := dq daX10_nights_40_0 13 rfl
theorem dX10_nights_16 : decode cX10_nights 16 = .ok (.iload 4, 2) := dq daX10_nights_40_0 14 rfl
theorem dX10_nights_18 : decode cX10_nights 18 = .ok (.iconst 1, 1) := dq daX10_nights_40_0 15 rfl
theorem dX10_nights_19 : decode cX10_nights 19 = .ok (.if_icmp .lt 23, 3) := dq daX10_nights_40_0 16 rfl
theorem dX10_nights_22 : decode cX10_nights 22 = .ok (.iload 4, 2) := dq daX10_nights_40_0 17 rfl
theorem dX10_nights_24 : decode cX10_nights 24 = .ok (.bipush 20, 2) := dq daX10_nights_40_0 18 rfl
theorem dX10_nights_26 : decode cX10_nights 26 = .ok (.if_icmp .gt 16, 3) := dq daX10_nights_40_0 19 rfl
theorem dX10_nights_29 : decode cX10_nights 29 = .ok (.iload 5, 2) := dq daX10_nights_40_0 20 rfl
theorem dX10_nights_31 : decode cX10_nights 31 = .ok (.iconst 2, 1) := dq daX10_nights_40_0 21 rfl
theorem dX10_nights_32 : decode cX10_nights 32 = .ok (.invokestatic 79, 3) := dq daX10_nights_40_0 22 rfl
theorem dX10_nights_35 : decode cX10_nights 35 = .ok (.ifCond .eq 7, 3) := dq daX10_nights_40_0 23 rfl
theorem dX10_nights_38 : decode cX10_nights 38 = .ok (.iconst 1, 1) := dq daX10_nights_40_0 24 rfl
theorem dX10_nights_39 : decode cX10_nights 39 = .ok (.goto 4, 3) := dq daX10_nights_40_0 25 rfl
def dtX10_price_40_0 : List (Nat × Jvm.ClassFile.Instr × Nat) := [(0, .aload_n 0, 1), (1, .iload_n 1, 1), (2, .invokevirtual 161, 3), (5, .astore 7, 2), (7, .aload 7, 2), (9, .ifnull 39, 3), (48, .iconst (-1), 1), (49, .ireturn, 1)]
theorem daX10_price_40_0 : dtX10_price_40_0.all (dqd cX10_price) = true := by decide +kernel
theorem dX10_price_0 : decode cX10_price 0 = .ok (.aload_n 0, 1) := dq daX10_price_40_0 0 rfl
theorem dX10_price_1 : decode cX10_price 1 = .ok (.iload_n 1, 1) := dq daX10_price_40_0 1 rfl
theorem dX10_price_2 : decode cX10_price 2 = .ok (.invokevirtual 161, 3) := dq daX10_price_40_0 2 rfl
theorem dX10_price_5 : decode cX10_price 5 = .ok (.astore 7, 2) := dq daX10_price_40_0 3 rfl
theorem dX10_price_7 : decode cX10_price 7 = .ok (.aload 7, 2) := dq daX10_price_40_0 4 rfl
theorem dX10_price_9 : decode cX10_price 9 = .ok (.ifnull 39, 3) := dq daX10_price_40_0 5 rfl
theorem dX10_price_48 : decode cX10_price 48 = .ok (.iconst (-1), 1) := dq daX10_price_40_0 6 rfl
theorem dX10_price_49 : decode cX10_price 49 = .ok (.ireturn, 1) := dq daX10_price_40_0 7 rfl
def dtX10_ahead_40_0 : List (Nat × Jvm.ClassFile.Instr × Nat) := [(0, .aload_n 0, 1), (1, .iload_n 1, 1), (2, .invokevirtual 161, 3), (5, .astore 4, 2), (7, .aload 4, 2), (9, .ifnull 21, 3), (30, .iconst (-1), 1), (31, .ireturn, 1)]
theorem daX10_ahead_40_0 : dtX10_ahead_40_0.all (dqd cX10_ahead) = true := by decide +kernel
theorem dX10_ahead_0 : decode cX10_ahead 0 = .ok (.aload_n 0, 1) := dq daX10_ahead_40_0 0 rfl
theorem dX10_ahead_1 : decode cX10_ahead 1 = .ok (.iload_n 1, 1) := dq daX10_ahead_40_0 1 rfl
theorem dX10_ahead_2 : decode cX10_ahead 2 = .ok (.invokevirtual 161, 3) := dq daX10_ahead_40_0 2 rfl
theorem dX10_ahead_5 : decode cX10_ahead 5 = .ok (.astore 4, 2) := dq daX10_ahead_40_0 3 rfl
theorem dX10_ahead_7 : decode cX10_ahead 7 = .ok (.aload 4, 2) := dq daX10_ahead_40_0 4 rfl
theorem dX10_ahead_9 : decode cX10_ahead 9 = .ok (.ifnull 21, 3) := dq daX10_ahead_40_0 5 rfl
theorem dX10_ahead_30 : decode cX10_ahead 30 = .ok (.iconst (-1), 1) := dq daX10_ahead_40_0 6 rfl
theorem dX10_ahead_31 : decode cX10_ahead 31 = .ok (.ireturn, 1) := dq daX10_ahead_40_0 7 rfl
def dtX10_fill_40_0 : List (Nat × Jvm.ClassFile.Instr × Nat) := [(0, .aload_n 0, 1), (1, .getfield 10, 3), (4, .iload_n 1, 1), (5, .invokevirtual 136, 3), (8, .istore_n 3, 1), (9, .iload_n 3, 1), (10, .iconst (-1), 1), (11, .if_icmp .eq 37, 3), (48, .iconst (-1), 1), (49, .ireturn, 1), (14, .iload_n 2, 1), (15, .ldc 140, 2), (17, .invokestatic 79, 3), (20, .ifCond .eq 28, 3), (23, .aload_n 0, 1), (24, .getfield 10, 3), (27, .iload_n 3, 1), (28, .aload_n 0, 1), (29, .getfield 10, 3), (32, .aload_n 0, 1), (33, .getfield 10, 3), (36, .getfield 141, 3), (39, .invokevirtual 144, 3), (42, .invokevirtual 147, 3), (45, .ifCond .ne 5, 3), (50, .aload_n 0, 1), (51, .getfield 10, 3), (54, .getfield 107, 3), (57, .iload_n 1, 1), (58, .iconst 0, 1), (59, .invokevirtual 150, 3), (62, .istore 4, 2)]
theorem daX10_fill_40_0 : dtX10_fill_40_0.all (dqd cX10_fill) = true := by decide +kernel
theorem dX10_fill_0 : decode cX10_fill 0 = .ok (.aload_n 0, 1) := dq daX10_fill_40_0 0 rfl
theorem dX10_fill_1 : decode cX10_fill 1 = .ok (.getfield 10, 3) := dq daX10_fill_40_0 1 rfl
theorem dX10_fill_4 : decode cX10_fill 4 = .ok (.iload_n 1, 1) := dq daX10_fill_40_0 2 rfl
theorem dX10_fill_5 : decode cX10_fill 5 = .ok (.invokevirtual 136, 3) := dq daX10_fill_40_0 3 rfl
theorem dX10_fill_8 : decode cX10_fill 8 = .ok (.istore_n 3, 1) := dq daX10_fill_40_0 4 rfl
theorem dX10_fill_9 : decode cX10_fill 9 = .ok (.iload_n 3, 1) := dq daX10_fill_40_0 5 rfl
theorem dX10_fill_10 : decode cX10_fill 10 = .ok (.iconst (-1), 1) := dq daX10_fill_40_0 6 rfl
theorem dX10_fill_11 : decode cX10_fill 11 = .ok (.if_icmp .eq 37, 3) := dq daX10_fill_40_0 7 rfl
theorem dX10_fill_48 : decode cX10_fill 48 = .ok (.iconst (-1), 1) := dq daX10_fill_40_0 8 rfl
theorem dX10_fill_49 : decode cX10_fill 49 = .ok (.ireturn, 1) := dq daX10_fill_40_0 9 rfl
theorem dX10_fill_14 : decode cX10_fill 14 = .ok (.iload_n 2, 1) := dq daX10_fill_40_0 10 rfl
theorem dX10_fill_15 : decode cX10_fill 15 = .ok (.ldc 140, 2) := dq daX10_fill_40_0 11 rfl
theorem dX10_fill_17 : decode cX10_fill 17 = .ok (.invokestatic 79, 3) := dq daX10_fill_40_0 12 rfl
theorem dX10_fill_20 : decode cX10_fill 20 = .ok (.ifCond .eq 28, 3) := dq daX10_fill_40_0 13 rfl
theorem dX10_fill_23 : decode cX10_fill 23 = .ok (.aload_n 0, 1) := dq daX10_fill_40_0 14 rfl
theorem dX10_fill_24 : decode cX10_fill 24 = .ok (.getfield 10, 3) := dq daX10_fill_40_0 15 rfl
theorem dX10_fill_27 : decode cX10_fill 27 = .ok (.iload_n 3, 1) := dq daX10_fill_40_0 16 rfl
theorem dX10_fill_28 : decode cX10_fill 28 = .ok (.aload_n 0, 1) := dq daX10_fill_40_0 17 rfl
theorem dX10_fill_29 : decode cX10_fill 29 = .ok (.getfield 10, 3) := dq daX10_fill_40_0 18 rfl
theorem dX10_fill_32 : decode cX10_fill 32 = .ok (.aload_n 0, 1) := dq daX10_fill_40_0 19 rfl
theorem dX10_fill_33 : decode cX10_fill 33 = .ok (.getfield 10, 3) := dq daX10_fill_40_0 20 rfl
theorem dX10_fill_36 : decode cX10_fill 36 = .ok (.getfield 141, 3) := dq daX10_fill_40_0 21 rfl
theorem dX10_fill_39 : decode cX10_fill 39 = .ok (.invokevirtual 144, 3) := dq daX10_fill_40_0 22 rfl
theorem dX10_fill_42 : decode cX10_fill 42 = .ok (.invokevirtual 147, 3) := dq daX10_fill_40_0 23 rfl
theorem dX10_fill_45 : decode cX10_fill 45 = .ok (.ifCond .ne 5, 3) := dq daX10_fill_40_0 24 rfl
theorem dX10_fill_50 : decode cX10_fill 50 = .ok (.aload_n 0, 1) := dq daX10_fill_40_0 25 rfl
theorem dX10_fill_51 : decode cX10_fill 51 = .ok (.getfield 10, 3) := dq daX10_fill_40_0 26 rfl
theorem dX10_fill_54 : decode cX10_fill 54 = .ok (.getfield 107, 3) := dq daX10_fill_40_0 27 rfl
theorem dX10_fill_57 : decode cX10_fill 57 = .ok (.iload_n 1, 1) := dq daX10_fill_40_0 28 rfl
theorem dX10_fill_58 : decode cX10_fill 58 = .ok (.iconst 0, 1) := dq daX10_fill_40_0 29 rfl
theorem dX10_fill_59 : decode cX10_fill 59 = .ok (.invokevirtual 150, 3) := dq daX10_fill_40_0 30 rfl
theorem dX10_fill_62 : decode cX10_fill 62 = .ok (.istore 4, 2) := dq daX10_fill_40_0 31 rfl
def dtX10_fill_40_1 : List (Nat × Jvm.ClassFile.Instr × Nat) := [(64, .aload_n 0, 1), (65, .getfield 10, 3), (68, .getfield 107, 3), (71, .iload_n 1, 1), (72, .iconst 0, 1), (73, .iload_n 2, 1), (74, .invokevirtual 93, 3), (77, .iload 4, 2), (79, .ireturn, 1)]
theorem daX10_fill_40_1 : dtX10_fill_40_1.all (dqd cX10_fill) = true := by decide +kernel
theorem dX10_fill_64 : decode cX10_fill 64 = .ok (.aload_n 0, 1) := dq daX10_fill_40_1 0 rfl
theorem dX10_fill_65 : decode cX10_fill 65 = .ok (.getfield 10, 3) := dq daX10_fill_40_1 1 rfl
theorem dX10_fill_68 : decode cX10_fill 68 = .ok (.getfield 107, 3) := dq daX10_fill_40_1 2 rfl
theorem dX10_fill_71 : decode cX10_fill 71 = .ok (.iload_n 1, 1) := dq daX10_fill_40_1 3 rfl
theorem dX10_fill_72 : decode cX10_fill 72 = .ok (.iconst 0, 1) := dq daX10_fill_40_1 4 rfl
theorem dX10_fill_73 : decode cX10_fill 73 = .ok (.iload_n 2, 1) := dq daX10_fill_40_1 5 rfl
theorem dX10_fill_74 : decode cX10_fill 74 = .ok (.invokevirtual 93, 3) := dq daX10_fill_40_1 6 rfl
theorem dX10_fill_77 : decode cX10_fill 77 = .ok (.iload 4, 2) := dq daX10_fill_40_1 7 rfl
theorem dX10_fill_79 : decode cX10_fill 79 = .ok (.ireturn, 1) := dq daX10_fill_40_1 8 rfl
def dtX10_pour_40_0 : List (Nat × Jvm.ClassFile.Instr × Nat) := [(0, .aload_n 0, 1), (1, .getfield 10, 3), (4, .iload_n 1, 1), (5, .invokevirtual 136, 3), (8, .istore_n 2, 1), (9, .iload_n 2, 1), (10, .iconst (-1), 1), (11, .if_icmp .ne 5, 3), (16, .aload_n 0, 1), (17, .getfield 10, 3), (20, .iload_n 2, 1), (21, .aload_n 0, 1), (22, .getfield 10, 3), (25, .getfield 107, 3), (28, .iload_n 1, 1), (29, .iconst 0, 1), (30, .invokevirtual 150, 3), (33, .invokevirtual 154, 3), (36, .istore_n 3, 1), (37, .aload_n 0, 1), (38, .getfield 10, 3), (41, .getfield 107, 3), (44, .iload_n 1, 1), (45, .iconst 0, 1), (46, .iconst 0, 1), (47, .invokevirtual 93, 3), (50, .iload_n 3, 1), (14, .iconst (-1), 1), (15, .ireturn, 1), (51, .ireturn, 1)]
theorem daX10_pour_40_0 : dtX10_pour_40_0.all (dqd cX10_pour) = true := by decide +kernel
theorem dX10_pour_0 : decode cX10_pour 0 = .ok (.aload_n 0, 1) := dq daX10_pour_40_0 0 rfl
theorem dX10_pour_1 : decode cX10_pour 1 = .ok (.getfield 10, 3) := dq daX10_pour_40_0 1 rfl
theorem dX10_pour_4 : decode cX10_pour 4 = .ok (.iload_n 1, 1) := dq daX10_pour_40_0 2 rfl
theorem dX10_pour_5 : decode cX10_pour 5 = .ok (.invokevirtual 136, 3) := dq daX10_pour_40_0 3 rfl
theorem dX10_pour_8 : decode cX10_pour 8 = .ok (.istore_n 2, 1) := dq daX10_pour_40_0 4 rfl
theorem dX10_pour_9 : decode cX10_pour 9 = .ok (.iload_n 2, 1) := dq daX10_pour_40_0 5 rfl
theorem dX10_pour_10 : decode cX10_pour 10 = .ok (.iconst (-1), 1) := dq daX10_pour_40_0 6 rfl
theorem dX10_pour_11 : decode cX10_pour 11 = .ok (.if_icmp .ne 5, 3) := dq daX10_pour_40_0 7 rfl
theorem dX10_pour_16 : decode cX10_pour 16 = .ok (.aload_n 0, 1) := dq daX10_pour_40_0 8 rfl
theorem dX10_pour_17 : decode cX10_pour 17 = .ok (.getfield 10, 3) := dq daX10_pour_40_0 9 rfl
theorem dX10_pour_20 : decode cX10_pour 20 = .ok (.iload_n 2, 1) := dq daX10_pour_40_0 10 rfl
theorem dX10_pour_21 : decode cX10_pour 21 = .ok (.aload_n 0, 1) := dq daX10_pour_40_0 11 rfl
theorem dX10_pour_22 : decode cX10_pour 22 = .ok (.getfield 10, 3) := dq daX10_pour_40_0 12 rfl
theorem dX10_pour_25 : decode cX10_pour 25 = .ok (.getfield 107, 3) := dq daX10_pour_40_0 13 rfl
theorem dX10_pour_28 : decode cX10_pour 28 = .ok (.iload_n 1, 1) := dq daX10_pour_40_0 14 rfl
theorem dX10_pour_29 : decode cX10_pour 29 = .ok (.iconst 0, 1) := dq daX10_pour_40_0 15 rfl
theorem dX10_pour_30 : decode cX10_pour 30 = .ok (.invokevirtual 150, 3) := dq daX10_pour_40_0 16 rfl
theorem dX10_pour_33 : decode cX10_pour 33 = .ok (.invokevirtual 154, 3) := dq daX10_pour_40_0 17 rfl
theorem dX10_pour_36 : decode cX10_pour 36 = .ok (.istore_n 3, 1) := dq daX10_pour_40_0 18 rfl
theorem dX10_pour_37 : decode cX10_pour 37 = .ok (.aload_n 0, 1) := dq daX10_pour_40_0 19 rfl
theorem dX10_pour_38 : decode cX10_pour 38 = .ok (.getfield 10, 3) := dq daX10_pour_40_0 20 rfl
theorem dX10_pour_41 : decode cX10_pour 41 = .ok (.getfield 107, 3) := dq daX10_pour_40_0 21 rfl
theorem dX10_pour_44 : decode cX10_pour 44 = .ok (.iload_n 1, 1) := dq daX10_pour_40_0 22 rfl
theorem dX10_pour_45 : decode cX10_pour 45 = .ok (.iconst 0, 1) := dq daX10_pour_40_0 23 rfl
theorem dX10_pour_46 : decode cX10_pour 46 = .ok (.iconst 0, 1) := dq daX10_pour_40_0 24 rfl
theorem dX10_pour_47 : decode cX10_pour 47 = .ok (.invokevirtual 93, 3) := dq daX10_pour_40_0 25 rfl
theorem dX10_pour_50 : decode cX10_pour 50 = .ok (.iload_n 3, 1) := dq daX10_pour_40_0 26 rfl
theorem dX10_pour_14 : decode cX10_pour 14 = .ok (.iconst (-1), 1) := dq daX10_pour_40_0 27 rfl
theorem dX10_pour_15 : decode cX10_pour 15 = .ok (.ireturn, 1) := dq daX10_pour_40_0 28 rfl
theorem dX10_pour_51 : decode cX10_pour 51 = .ok (.ireturn, 1) := dq daX10_pour_40_0 29 rfl
def dtX10_store_40_0 : List (Nat × Jvm.ClassFile.Instr × Nat) := [(0, .aload_n 0, 1), (1, .getfield 10, 3), (4, .getfield 83, 3), (7, .iload_n 1, 1), (8, .invokevirtual 97, 3), (11, .ifCond .eq 12, 3), (23, .iconst (-1), 1), (24, .ireturn, 1), (14, .iload_n 2, 1), (15, .ldc 157, 2), (17, .invokestatic 79, 3), (20, .ifCond .ne 5, 3), (25, .aload_n 0, 1), (26, .getfield 10, 3), (29, .getfield 83, 3), (32, .iload_n 1, 1), (33, .iconst 3, 1), (34, .invokevirtual 150, 3), (37, .istore_n 3, 1), (38, .aload_n 0, 1), (39, .getfield 10, 3), (42, .getfield 83, 3), (45, .iload_n 1, 1), (46, .iconst 3, 1), (47, .iload_n 2, 1), (48, .invokevirtual 93, 3), (51, .iload_n 3, 1), (52, .ireturn, 1)]
theorem daX10_store_40_0 : dtX10_store_40_0.all (dqd cX10_store) = true := by decide +kernel
theorem dX10_store_0 : decode cX10_store 0 = .ok (.aload_n 0, 1) := dq daX10_store_40_0 0 rfl
theorem dX10_store_1 : decode cX10_store 1 = .ok (.getfield 10, 3) := dq daX10_store_40_0 1 rfl
theorem dX10_store_4 : decode cX10_store 4 = .ok (.getfield 83, 3) := dq daX10_store_40_0 2 rfl
theorem dX10_store_7 : decode cX10_store 7 = .ok (.iload_n 1, 1) := dq daX10_store_40_0 3 rfl
theorem dX10_store_8 : decode cX10_store 8 = .ok (.invokevirtual 97, 3) := dq daX10_store_40_0 4 rfl
theorem dX10_store_11 : decode cX10_store 11 = .ok (.ifCond .eq 12, 3) := dq daX10_store_40_0 5 rfl
theorem dX10_store_23 : decode cX10_store 23 = .ok (.iconst (-1), 1) := dq daX10_store_40_0 6 rfl
theorem dX10_store_24 : decode cX10_store 24 = .ok (.ireturn, 1) := dq daX10_store_40_0 7 rfl
theorem dX10_store_14 : decode cX10_store 14 = .ok (.iload_n 2, 1) := dq daX10_store_40_0 8 rfl
theorem dX10_store_15 : decode cX10_store 15 = .ok (.ldc 157, 2) := dq daX10_store_40_0 9 rfl
theorem dX10_store_17 : decode cX10_store 17 = .ok (.invokestatic 79, 3) := dq daX10_store_40_0 10 rfl
theorem dX10_store_20 : decode cX10_store 20 = .ok (.ifCond .ne 5, 3) := dq daX10_store_40_0 11 rfl
theorem dX10_store_25 : decode cX10_store 25 = .ok (.aload_n 0, 1) := dq daX10_store_40_0 12 rfl
theorem dX10_store_26 : decode cX10_store 26 = .ok (.getfield 10, 3) := dq daX10_store_40_0 13 rfl
theorem dX10_store_29 : decode cX10_store 29 = .ok (.getfield 83, 3) := dq daX10_store_40_0 14 rfl
theorem dX10_store_32 : decode cX10_store 32 = .ok (.iload_n 1, 1) := dq daX10_store_40_0 15 rfl
theorem dX10_store_33 : decode cX10_store 33 = .ok (.iconst 3, 1) := dq daX10_store_40_0 16 rfl
theorem dX10_store_34 : decode cX10_store 34 = .ok (.invokevirtual 150, 3) := dq daX10_store_40_0 17 rfl
theorem dX10_store_37 : decode cX10_store 37 = .ok (.istore_n 3, 1) := dq daX10_store_40_0 18 rfl
theorem dX10_store_38 : decode cX10_store 38 = .ok (.aload_n 0, 1) := dq daX10_store_40_0 19 rfl
theorem dX10_store_39 : decode cX10_store 39 = .ok (.getfield 10, 3) := dq daX10_store_40_0 20 rfl
theorem dX10_store_42 : decode cX10_store 42 = .ok (.getfield 83, 3) := dq daX10_store_40_0 21 rfl
theorem dX10_store_45 : decode cX10_store 45 = .ok (.iload_n 1, 1) := dq daX10_store_40_0 22 rfl
theorem dX10_store_46 : decode cX10_store 46 = .ok (.iconst 3, 1) := dq daX10_store_40_0 23 rfl
theorem dX10_store_47 : decode cX10_store 47 = .ok (.iload_n 2, 1) := dq daX10_store_40_0 24 rfl
theorem dX10_store_48 : decode cX10_store 48 = .ok (.invokevirtual 93, 3) := dq daX10_store_40_0 25 rfl
theorem dX10_store_51 : decode cX10_store 51 = .ok (.iload_n 3, 1) := dq daX10_store_40_0 26 rfl
theorem dX10_store_52 : decode cX10_store 52 = .ok (.ireturn, 1) := dq daX10_store_40_0 27 rfl
def dtX10_leave_40_0 : List (Nat × Jvm.ClassFile.Instr × Nat) := [(0, .aload_n 0, 1), (1, .getfield 10, 3), (4, .iload_n 1, 1), (5, .invokevirtual 136, 3), (8, .istore_n 3, 1), (9, .iload_n 3, 1), (10, .iconst (-1), 1), (11, .if_icmp .ne 7, 3), (18, .aload_n 0, 1), (19, .getfield 10, 3), (22, .iload_n 2, 1), (23, .iload_n 3, 1), (24, .invokevirtual 158, 3), (27, .istore 4, 2), (29, .iload 4, 2), (31, .iconst (-1), 1), (32, .if_icmp .ne 5, 3), (37, .aload_n 0, 1), (38, .getfield 10, 3), (41, .getfield 107, 3), (44, .iload_n 1, 1), (45, .iconst 1, 1), (46, .bipush 12, 2), (48, .invokevirtual 93, 3), (51, .aload_n 0, 1), (52, .getfield 10, 3), (55, .getfield 107, 3), (58, .iload_n 1, 1), (59, .iconst 2, 1), (60, .iload_n 2, 1), (61, .invokevirtual 93, 3), (64, .aload_n 0, 1)]
theorem daX10_leave_40_0 : dtX10_leave_40_0.all (dqd cX10_leave) = true := by decide +kernel
theorem dX10_leave_0 : decode cX10_leave 0 = .ok (.aload_n 0, 1) := dq daX10_leave_40_0 0 rfl
theorem dX10_leave_1 : decode cX10_leave 1 = .ok (.getfield 10, 3) := dq daX10_leave_40_0 1 rfl
theorem dX10_leave_4 : decode cX10_leave 4 = .ok (.iload_n 1, 1) := dq daX10_leave_40_0 2 rfl
theorem dX10_leave_5 : decode cX10_leave 5 = .ok (.invokevirtual 136, 3) := dq daX10_leave_40_0 3 rfl
theorem dX10_leave_8 : decode cX10_leave 8 = .ok (.istore_n 3, 1) := dq daX10_leave_40_0 4 rfl
theorem dX10_leave_9 : decode cX10_leave 9 = .ok (.iload_n 3, 1) := dq daX10_leave_40_0 5 rfl
theorem dX10_leave_10 : decode cX10_leave 10 = .ok (.iconst (-1), 1) := dq daX10_leave_40_0 6 rfl
theorem dX10_leave_11 : decode cX10_leave 11 = .ok (.if_icmp .ne 7, 3) := dq daX10_leave_40_0 7 rfl
theorem dX10_leave_18 : decode cX10_leave 18 = .ok (.aload_n 0, 1) := dq daX10_leave_40_0 8 rfl
theorem dX10_leave_19 : decode cX10_leave 19 = .ok (.getfield 10, 3) := dq daX10_leave_40_0 9 rfl
theorem dX10_leave_22 : decode cX10_leave 22 = .ok (.iload_n 2, 1) := dq daX10_leave_40_0 10 rfl
theorem dX10_leave_23 : decode cX10_leave 23 = .ok (.iload_n 3, 1) := dq daX10_leave_40_0 11 rfl
theorem dX10_leave_24 : decode cX10_leave 24 = .ok (.invokevirtual 158, 3) := dq daX10_leave_40_0 12 rfl
theorem dX10_leave_27 : decode cX10_leave 27 = .ok (.istore 4, 2) := dq daX10_leave_40_0 13 rfl
theorem dX10_leave_29 : decode cX10_leave 29 = .ok (.iload 4, 2) := dq daX10_leave_40_0 14 rfl
theorem dX10_leave_31 : decode cX10_leave 31 = .ok (.iconst (-1), 1) := dq daX10_leave_40_0 15 rfl
theorem dX10_leave_32 : decode cX10_leave 32 = .ok (.if_icmp .ne 5, 3) := dq daX10_leave_40_0 16 rfl
theorem dX10_leave_37 : decode cX10_leave 37 = .ok (.aload_n 0, 1) := dq daX10_leave_40_0 17 rfl
theorem dX10_leave_38 : decode cX10_leave 38 = .ok (.getfield 10, 3) := dq daX10_leave_40_0 18 rfl
theorem dX10_leave_41 : decode cX10_leave 41 = .ok (.getfield 107, 3) := dq daX10_leave_40_0 19 rfl
theorem dX10_leave_44 : decode cX10_leave 44 = .ok (.iload_n 1, 1) := dq daX10_leave_40_0 20 rfl
theorem dX10_leave_45 : decode cX10_leave 45 = .ok (.iconst 1, 1) := dq daX10_leave_40_0 21 rfl
theorem dX10_leave_46 : decode cX10_leave 46 = .ok (.bipush 12, 2) := dq daX10_leave_40_0 22 rfl
theorem dX10_leave_48 : decode cX10_leave 48 = .ok (.invokevirtual 93, 3) := dq daX10_leave_40_0 23 rfl
theorem dX10_leave_51 : decode cX10_leave 51 = .ok (.aload_n 0, 1) := dq daX10_leave_40_0 24 rfl
theorem dX10_leave_52 : decode cX10_leave 52 = .ok (.getfield 10, 3) := dq daX10_leave_40_0 25 rfl
theorem dX10_leave_55 : decode cX10_leave 55 = .ok (.getfield 107, 3) := dq daX10_leave_40_0 26 rfl
theorem dX10_leave_58 : decode cX10_leave 58 = .ok (.iload_n 1, 1) := dq daX10_leave_40_0 27 rfl
theorem dX10_leave_59 : decode cX10_leave 59 = .ok (.iconst 2, 1) := dq daX10_leave_40_0 28 rfl
theorem dX10_leave_60 : decode cX10_leave 60 = .ok (.iload_n 2, 1) := dq daX10_leave_40_0 29 rfl
theorem dX10_leave_61 : decode cX10_leave 61 = .ok (.invokevirtual 93, 3) := dq daX10_leave_40_0 30 rfl
theorem dX10_leave_64 : decode cX10_leave 64 = .ok (.aload_n 0, 1) := dq daX10_leave_40_0 31 rfl
def dtX10_leave_40_1 : List (Nat × Jvm.ClassFile.Instr × Nat) := [(65, .getfield 10, 3), (68, .getfield 107, 3), (71, .iload_n 1, 1), (72, .iconst 3, 1), (73, .iconst 0, 1), (74, .invokevirtual 93, 3), (77, .aload_n 0, 1), (78, .getfield 10, 3), (81, .getfield 107, 3), (84, .iload_n 1, 1), (85, .iconst 4, 1), (86, .iload 4, 2), (88, .invokevirtual 93, 3), (91, .iconst 1, 1), (35, .iconst 0, 1), (36, .ireturn, 1), (14, .iconst (-1), 1), (15, .goto 12, 3), (92, .ireturn, 1)]
theorem daX10_leave_40_1 : dtX10_leave_40_1.all (dqd cX10_leave) = true := by decide +kernel
theorem dX10_leave_65 : decode cX10_leave 65 = .ok (.getfield 10, 3) := dq daX10_leave_40_1 0 rfl
theorem dX10_leave_68 : decode cX10_leave 68 = .ok (.getfield 107, 3) := dq daX10_leave_40_1 1 rfl
theorem dX10_leave_71 : decode cX10_leave 71 = .ok (.iload_n 1, 1) := dq daX10_leave_40_1 2 rfl
theorem dX10_leave_72 : decode cX10_leave 72 = .ok (.iconst 3, 1) := dq daX10_leave_40_1 3 rfl
theorem dX10_leave_73 : decode cX10_leave 73 = .ok (.iconst 0, 1) := dq daX10_leave_40_1 4 rfl
theorem dX10_leave_74 : decode cX10_leave 74 = .ok (.invokevirtual 93, 3) := dq daX10_leave_40_1 5 rfl
theorem dX10_leave_77 : decode cX10_leave 77 = .ok (.aload_n 0, 1) := dq daX10_leave_40_1 6 rfl
theorem dX10_leave_78 : decode cX10_leave 78 = .ok (.getfield 10, 3) := dq daX10_leave_40_1 7 rfl
theorem dX10_leave_81 : decode cX10_leave 81 = .ok (.getfield 107, 3) := dq daX10_leave_40_1 8 rfl
theorem dX10_leave_84 : decode cX10_leave 84 = .ok (.iload_n 1, 1) := dq daX10_leave_40_1 9 rfl
theorem dX10_leave_85 : decode cX10_leave 85 = .ok (.iconst 4, 1) := dq daX10_leave_40_1 10 rfl
theorem dX10_leave_86 : decode cX10_leave 86 = .ok (.iload 4, 2) := dq daX10_leave_40_1 11 rfl
theorem dX10_leave_88 : decode cX10_leave 88 = .ok (.invokevirtual 93, 3) := dq daX10_leave_40_1 12 rfl
theorem dX10_leave_91 : decode cX10_leave 91 = .ok (.iconst 1, 1) := dq daX10_leave_40_1 13 rfl
theorem dX10_leave_35 : decode cX10_leave 35 = .ok (.iconst 0, 1) := dq daX10_leave_40_1 14 rfl
theorem dX10_leave_36 : decode cX10_leave 36 = .ok (.ireturn, 1) := dq daX10_leave_40_1 15 rfl
theorem dX10_leave_14 : decode cX10_leave 14 = .ok (.iconst (-1), 1) := dq daX10_leave_40_1 16 rfl
theorem dX10_leave_15 : decode cX10_leave 15 = .ok (.goto 12, 3) := dq daX10_leave_40_1 17 rfl
theorem dX10_leave_92 : decode cX10_leave 92 = .ok (.ireturn, 1) := dq daX10_leave_40_1 18 rfl
def dtX10_at_40_0 : List (Nat × Jvm.ClassFile.Instr × Nat) := [(0, .aload_n 0, 1), (1, .getfield 10, 3), (4, .getfield 83, 3), (7, .iload_n 1, 1), (8, .invokevirtual 97, 3), (11, .ifCond .ne 5, 3), (16, .iload_n 2, 1), (17, .iconst 3, 1), (18, .invokestatic 79, 3), (21, .ifCond .eq 16, 3), (37, .iload_n 2, 1), (38, .iconst 4, 1), (39, .if_icmp .ne 34, 3), (73, .iload_n 2, 1), (74, .iconst 5, 1), (75, .if_icmp .ne 14, 3), (89, .iconst (-1), 1), (90, .ireturn, 1), (78, .aload_n 0, 1), (79, .getfield 10, 3), (82, .iload_n 1, 1), (83, .invokevirtual 169, 3), (86, .goto 4, 3), (42, .aload_n 0, 1), (43, .getfield 10, 3), (46, .iload_n 1, 1), (47, .aload_n 0, 1), (48, .getfield 10, 3), (51, .aload_n 0, 1), (52, .getfield 10, 3), (55, .getfield 141, 3), (58, .invokevirtual 144, 3)]
theorem daX10_at_40_0 : dtX10_at_40_0.all (dqd cX10_at) = true := by decide +kernel
theorem dX10_at_0 : decode cX10_at 0 = .ok (.aload_n 0, 1) := dq daX10_at_40_0 0 rfl
theorem dX10_at_1 : decode cX10_at 1 = .ok (.getfield 10, 3) := dq daX10_at_40_0 1 rfl
theorem dX10_at_4 : decode cX10_at 4 = .ok (.getfield 83, 3) := dq daX10_at_40_0 2 rfl
theorem dX10_at_7 : decode cX10_at 7 = .ok (.iload_n 1, 1) := dq daX10_at_40_0 3 rfl
theorem dX10_at_8 : decode cX10_at 8 = .ok (.invokevirtual 97, 3) := dq daX10_at_40_0 4 rfl
theorem dX10_at_11 : decode cX10_at 11 = .ok (.ifCond .ne 5, 3) := dq daX10_at_40_0 5 rfl
theorem dX10_at_16 : decode cX10_at 16 = .ok (.iload_n 2, 1) := dq daX10_at_40_0 6 rfl
theorem dX10_at_17 : decode cX10_at 17 = .ok (.iconst 3, 1) := dq daX10_at_40_0 7 rfl
theorem dX10_at_18 : decode cX10_at 18 = .ok (.invokestatic 79, 3) := dq daX10_at_40_0 8 rfl
theorem dX10_at_21 : decode cX10_at 21 = .ok (.ifCond .eq 16, 3) := dq daX10_at_40_0 9 rfl
theorem dX10_at_37 : decode cX10_at 37 = .ok (.iload_n 2, 1) := dq daX10_at_40_0 10 rfl
theorem dX10_at_38 : decode cX10_at 38 = .ok (.iconst 4, 1) := dq daX10_at_40_0 11 rfl
theorem dX10_at_39 : decode cX10_at 39 = .ok (.if_icmp .ne 34, 3) := dq daX10_at_40_0 12 rfl
theorem dX10_at_73 : decode cX10_at 73 = .ok (.iload_n 2, 1) := dq daX10_at_40_0 13 rfl
theorem dX10_at_74 : decode cX10_at 74 = .ok (.iconst 5, 1) := dq daX10_at_40_0 14 rfl
theorem dX10_at_75 : decode cX10_at 75 = .ok (.if_icmp .ne 14, 3) := dq daX10_at_40_0 15 rfl
theorem dX10_at_89 : decode cX10_at 89 = .ok (.iconst (-1), 1) := dq daX10_at_40_0 16 rfl
theorem dX10_at_90 : decode cX10_at 90 = .ok (.ireturn, 1) := dq daX10_at_40_0 17 rfl
theorem dX10_at_78 : decode cX10_at 78 = .ok (.aload_n 0, 1) := dq daX10_at_40_0 18 rfl
theorem dX10_at_79 : decode cX10_at 79 = .ok (.getfield 10, 3) := dq daX10_at_40_0 19 rfl
theorem dX10_at_82 : decode cX10_at 82 = .ok (.iload_n 1, 1) := dq daX10_at_40_0 20 rfl
theorem dX10_at_83 : decode cX10_at 83 = .ok (.invokevirtual 169, 3) := dq daX10_at_40_0 21 rfl
theorem dX10_at_86 : decode cX10_at 86 = .ok (.goto 4, 3) := dq daX10_at_40_0 22 rfl
theorem dX10_at_42 : decode cX10_at 42 = .ok (.aload_n 0, 1) := dq daX10_at_40_0 23 rfl
theorem dX10_at_43 : decode cX10_at 43 = .ok (.getfield 10, 3) := dq daX10_at_40_0 24 rfl
theorem dX10_at_46 : decode cX10_at 46 = .ok (.iload_n 1, 1) := dq daX10_at_40_0 25 rfl
theorem dX10_at_47 : decode cX10_at 47 = .ok (.aload_n 0, 1) := dq daX10_at_40_0 26 rfl
theorem dX10_at_48 : decode cX10_at 48 = .ok (.getfield 10, 3) := dq daX10_at_40_0 27 rfl
theorem dX10_at_51 : decode cX10_at 51 = .ok (.aload_n 0, 1) := dq daX10_at_40_0 28 rfl
theorem dX10_at_52 : decode cX10_at 52 = .ok (.getfield 10, 3) := dq daX10_at_40_0 29 rfl
theorem dX10_at_55 : decode cX10_at 55 = .ok (.getfield 141, 3) := dq daX10_at_40_0 30 rfl
theorem dX10_at_58 : decode cX10_at 58 = .ok (.invokevirtual 144, 3) := dq daX10_at_40_0 31 rfl
def dtX10_at_40_1 : List (Nat × Jvm.ClassFile.Instr × Nat) := [(61, .invokevirtual 147, 3), (64, .ifCond .eq 7, 3), (71, .iconst 0, 1), (72, .ireturn, 1), (67, .iconst 1, 1), (68, .goto 4, 3), (24, .aload_n 0, 1), (25, .getfield 10, 3), (28, .getfield 83, 3), (31, .iload_n 1, 1), (32, .iload_n 2, 1), (33, .invokevirtual 150, 3), (36, .ireturn, 1), (14, .iconst (-1), 1), (15, .ireturn, 1)]
theorem daX10_at_40_1 : dtX10_at_40_1.all (dqd cX10_at) = true := by decide +kernel
theorem dX10_at_61 : decode cX10_at 61 = .ok (.invokevirtual 147, 3) := dq daX10_at_40_1 0 rfl
theorem dX10_at_64 : decode cX10_at 64 = .ok (.ifCond .eq 7, 3) := dq daX10_at_40_1 1 rfl
theorem dX10_at_71 : decode cX10_at 71 = .ok (.iconst 0, 1) := dq daX10_at_40_1 2 rfl
theorem dX10_at_72 : decode cX10_at 72 = .ok (.ireturn, 1) := dq daX10_at_40_1 3 rfl
theorem dX10_at_67 : decode cX10_at 67 = .ok (.iconst 1, 1) := dq daX10_at_40_1 4 rfl
theorem dX10_at_68 : decode cX10_at 68 = .ok (.goto 4, 3) := dq daX10_at_40_1 5 rfl
theorem dX10_at_24 : decode cX10_at 24 = .ok (.aload_n 0, 1) := dq daX10_at_40_1 6 rfl
theorem dX10_at_25 : decode cX10_at 25 = .ok (.getfield 10, 3) := dq daX10_at_40_1 7 rfl
theorem dX10_at_28 : decode cX10_at 28 = .ok (.getfield 83, 3) := dq daX10_at_40_1 8 rfl
theorem dX10_at_31 : decode cX10_at 31 = .ok (.iload_n 1, 1) := dq daX10_at_40_1 9 rfl
theorem dX10_at_32 : decode cX10_at 32 = .ok (.iload_n 2, 1) := dq daX10_at_40_1 10 rfl
theorem dX10_at_33 : decode cX10_at 33 = .ok (.invokevirtual 150, 3) := dq daX10_at_40_1 11 rfl
theorem dX10_at_36 : decode cX10_at 36 = .ok (.ireturn, 1) := dq daX10_at_40_1 12 rfl
theorem dX10_at_14 : decode cX10_at 14 = .ok (.iconst (-1), 1) := dq daX10_at_40_1 13 rfl
theorem dX10_at_15 : decode cX10_at 15 = .ok (.ireturn, 1) := dq daX10_at_40_1 14 rfl
def dtX10_of_40_0 : List (Nat × Jvm.ClassFile.Instr × Nat) := [(0, .aload_n 0, 1), (1, .getfield 10, 3), (4, .getfield 107, 3), (7, .iload_n 1, 1), (8, .invokevirtual 97, 3), (11, .ifCond .eq 12, 3), (23, .bipush (-2), 2), (25, .ireturn, 1), (14, .iload_n 2, 1), (15, .bipush 8, 2), (17, .invokestatic 79, 3), (20, .ifCond .ne 6, 3), (26, .aload_n 0, 1), (27, .getfield 10, 3), (30, .getfield 107, 3), (33, .iload_n 1, 1), (34, .iload_n 2, 1), (35, .invokevirtual 150, 3), (38, .ireturn, 1)]
theorem daX10_of_40_0 : dtX10_of_40_0.all (dqd cX10_of) = true := by decide +kernel
theorem dX10_of_0 : decode cX10_of 0 = .ok (.aload_n 0, 1) := dq daX10_of_40_0 0 rfl
theorem dX10_of_1 : decode cX10_of 1 = .ok (.getfield 10, 3) := dq daX10_of_40_0 1 rfl
theorem dX10_of_4 : decode cX10_of 4 = .ok (.getfield 107, 3) := dq daX10_of_40_0 2 rfl
theorem dX10_of_7 : decode cX10_of 7 = .ok (.iload_n 1, 1) := dq daX10_of_40_0 3 rfl
theorem dX10_of_8 : decode cX10_of 8 = .ok (.invokevirtual 97, 3) := dq daX10_of_40_0 4 rfl
theorem dX10_of_11 : decode cX10_of 11 = .ok (.ifCond .eq 12, 3) := dq daX10_of_40_0 5 rfl
theorem dX10_of_23 : decode cX10_of 23 = .ok (.bipush (-2), 2) := dq daX10_of_40_0 6 rfl
theorem dX10_of_25 : decode cX10_of 25 = .ok (.ireturn, 1) := dq daX10_of_40_0 7 rfl
theorem dX10_of_14 : decode cX10_of 14 = .ok (.iload_n 2, 1) := dq daX10_of_40_0 8 rfl
theorem dX10_of_15 : decode cX10_of 15 = .ok (.bipush 8, 2) := dq daX10_of_40_0 9 rfl
theorem dX10_of_17 : decode cX10_of 17 = .ok (.invokestatic 79, 3) := dq daX10_of_40_0 10 rfl
theorem dX10_of_20 : decode cX10_of 20 = .ok (.ifCond .ne 6, 3) := dq daX10_of_40_0 11 rfl
theorem dX10_of_26 : decode cX10_of 26 = .ok (.aload_n 0, 1) := dq daX10_of_40_0 12 rfl
theorem dX10_of_27 : decode cX10_of 27 = .ok (.getfield 10, 3) := dq daX10_of_40_0 13 rfl
theorem dX10_of_30 : decode cX10_of 30 = .ok (.getfield 107, 3) := dq daX10_of_40_0 14 rfl
theorem dX10_of_33 : decode cX10_of 33 = .ok (.iload_n 1, 1) := dq daX10_of_40_0 15 rfl
theorem dX10_of_34 : decode cX10_of 34 = .ok (.iload_n 2, 1) := dq daX10_of_40_0 16 rfl
theorem dX10_of_35 : decode cX10_of 35 = .ok (.invokevirtual 150, 3) := dq daX10_of_40_0 17 rfl
theorem dX10_of_38 : decode cX10_of 38 = .ok (.ireturn, 1) := dq daX10_of_40_0 18 rfl
def dtX10_lay_40_0 : List (Nat × Jvm.ClassFile.Instr × Nat) := [(0, .aload_n 0, 1), (1, .getfield 10, 3), (4, .getfield 176, 3), (7, .iconst (-1), 1), (8, .if_icmp .ne 7, 3), (15, .aload_n 0, 1), (16, .getfield 10, 3), (19, .iload_n 1, 1), (20, .aload_n 0, 1), (21, .getfield 10, 3), (24, .invokevirtual 179, 3), (27, .invokevirtual 158, 3), (30, .istore_n 2, 1), (31, .iload_n 2, 1), (32, .iconst (-1), 1), (33, .if_icmp .eq 14, 3), (47, .iconst (-1), 1), (48, .ireturn, 1), (36, .aload_n 0, 1), (37, .getfield 10, 3), (40, .iload_n 2, 1), (41, .invokevirtual 182, 3), (44, .ifCond .eq 5, 3), (49, .aload_n 0, 1), (50, .getfield 10, 3), (53, .getfield 185, 3), (56, .invokevirtual 87, 3), (59, .istore_n 3, 1), (60, .iload_n 3, 1), (61, .iconst (-1), 1), (62, .if_icmp .ne 5, 3), (67, .aload_n 0, 1)]
theorem daX10_lay_40_0 : dtX10_lay_40_0.all (dqd cX10_lay) = true := by decide +kernel
theorem dX10_lay_0 : decode cX10_lay 0 = .ok (.aload_n 0, 1) := dq daX10_lay_40_0 0 rfl
theorem dX10_lay_1 : decode cX10_lay 1 = .ok (.getfield 10, 3) := dq daX10_lay_40_0 1 rfl
theorem dX10_lay_4 : decode cX10_lay 4 = .ok (.getfield 176, 3) := dq daX10_lay_40_0 2 rfl
theorem dX10_lay_7 : decode cX10_lay 7 = .ok (.iconst (-1), 1) := dq daX10_lay_40_0 3 rfl
theorem dX10_lay_8 : decode cX10_lay 8 = .ok (.if_icmp .ne 7, 3) := dq daX10_lay_40_0 4 rfl
theorem dX10_lay_15 : decode cX10_lay 15 = .ok (.aload_n 0, 1) := dq daX10_lay_40_0 5 rfl
theorem dX10_lay_16 : decode cX10_lay 16 = .ok (.getfield 10, 3) := dq daX10_lay_40_0 6 rfl
theorem dX10_lay_19 : decode cX10_lay 19 = .ok (.iload_n 1, 1) := dq daX10_lay_40_0 7 rfl
theorem dX10_lay_20 : decode cX10_lay 20 = .ok (.aload_n 0, 1) := dq daX10_lay_40_0 8 rfl
theorem dX10_lay_21 : decode cX10_lay 21 = .ok (.getfield 10, 3) := dq daX10_lay_40_0 9 rfl
theorem dX10_lay_24 : decode cX10_lay 24 = .ok (.invokevirtual 179, 3) := dq daX10_lay_40_0 10 rfl
theorem dX10_lay_27 : decode cX10_lay 27 = .ok (.invokevirtual 158, 3) := dq daX10_lay_40_0 11 rfl
theorem dX10_lay_30 : decode cX10_lay 30 = .ok (.istore_n 2, 1) := dq daX10_lay_40_0 12 rfl
theorem dX10_lay_31 : decode cX10_lay 31 = .ok (.iload_n 2, 1) := dq daX10_lay_40_0 13 rfl
theorem dX10_lay_32 : decode cX10_lay 32 = .ok (.iconst (-1), 1) := dq daX10_lay_40_0 14 rfl
theorem dX10_lay_33 : decode cX10_lay 33 = .ok (.if_icmp .eq 14, 3) := dq daX10_lay_40_0 15 rfl
theorem dX10_lay_47 : decode cX10_lay 47 = .ok (.iconst (-1), 1) := dq daX10_lay_40_0 16 rfl
theorem dX10_lay_48 : decode cX10_lay 48 = .ok (.ireturn, 1) := dq daX10_lay_40_0 17 rfl
theorem dX10_lay_36 : decode cX10_lay 36 = .ok (.aload_n 0, 1) := dq daX10_lay_40_0 18 rfl
theorem dX10_lay_37 : decode cX10_lay 37 = .ok (.getfield 10, 3) := dq daX10_lay_40_0 19 rfl
theorem dX10_lay_40 : decode cX10_lay 40 = .ok (.iload_n 2, 1) := dq daX10_lay_40_0 20 rfl
theorem dX10_lay_41 : decode cX10_lay 41 = .ok (.invokevirtual 182, 3) := dq daX10_lay_40_0 21 rfl
theorem dX10_lay_44 : decode cX10_lay 44 = .ok (.ifCond .eq 5, 3) := dq daX10_lay_40_0 22 rfl
theorem dX10_lay_49 : decode cX10_lay 49 = .ok (.aload_n 0, 1) := dq daX10_lay_40_0 23 rfl
theorem dX10_lay_50 : decode cX10_lay 50 = .ok (.getfield 10, 3) := dq daX10_lay_40_0 24 rfl
theorem dX10_lay_53 : decode cX10_lay 53 = .ok (.getfield 185, 3) := dq daX10_lay_40_0 25 rfl
theorem dX10_lay_56 : decode cX10_lay 56 = .ok (.invokevirtual 87, 3) := dq daX10_lay_40_0 26 rfl
theorem dX10_lay_59 : decode cX10_lay 59 = .ok (.istore_n 3, 1) := dq daX10_lay_40_0 27 rfl
theorem dX10_lay_60 : decode cX10_lay 60 = .ok (.iload_n 3, 1) := dq daX10_lay_40_0 28 rfl
theorem dX10_lay_61 : decode cX10_lay 61 = .ok (.iconst (-1), 1) := dq daX10_lay_40_0 29 rfl
theorem dX10_lay_62 : decode cX10_lay 62 = .ok (.if_icmp .ne 5, 3) := dq daX10_lay_40_0 30 rfl
theorem dX10_lay_67 : decode cX10_lay 67 = .ok (.aload_n 0, 1) := dq daX10_lay_40_0 31 rfl
def dtX10_lay_40_1 : List (Nat × Jvm.ClassFile.Instr × Nat) := [(68, .getfield 10, 3), (71, .getfield 185, 3), (74, .iload_n 3, 1), (75, .iconst 0, 1), (76, .iload_n 1, 1), (77, .invokevirtual 93, 3), (80, .iload_n 3, 1), (81, .iconst 1, 1), (82, .iadd, 1), (65, .iconst (-1), 1), (11, .iconst (-1), 1), (12, .goto 18, 3), (83, .ireturn, 1), (66, .ireturn, 1)]
theorem daX10_lay_40_1 : dtX10_lay_40_1.all (dqd cX10_lay) = true := by decide +kernel
theorem dX10_lay_68 : decode cX10_lay 68 = .ok (.getfield 10, 3) := dq daX10_lay_40_1 0 rfl
theorem dX10_lay_71 : decode cX10_lay 71 = .ok (.getfield 185, 3) := dq daX10_lay_40_1 1 rfl
theorem dX10_lay_74 : decode cX10_lay 74 = .ok (.iload_n 3, 1) := dq daX10_lay_40_1 2 rfl
theorem dX10_lay_75 : decode cX10_lay 75 = .ok (.iconst 0, 1) := dq daX10_lay_40_1 3 rfl
theorem dX10_lay_76 : decode cX10_lay 76 = .ok (.iload_n 1, 1) := dq daX10_lay_40_1 4 rfl
theorem dX10_lay_77 : decode cX10_lay 77 = .ok (.invokevirtual 93, 3) := dq daX10_lay_40_1 5 rfl
theorem dX10_lay_80 : decode cX10_lay 80 = .ok (.iload_n 3, 1) := dq daX10_lay_40_1 6 rfl
theorem dX10_lay_81 : decode cX10_lay 81 = .ok (.iconst 1, 1) := dq daX10_lay_40_1 7 rfl
theorem dX10_lay_82 : decode cX10_lay 82 = .ok (.iadd, 1) := dq daX10_lay_40_1 8 rfl
theorem dX10_lay_65 : decode cX10_lay 65 = .ok (.iconst (-1), 1) := dq daX10_lay_40_1 9 rfl
theorem dX10_lay_11 : decode cX10_lay 11 = .ok (.iconst (-1), 1) := dq daX10_lay_40_1 10 rfl
theorem dX10_lay_12 : decode cX10_lay 12 = .ok (.goto 18, 3) := dq daX10_lay_40_1 11 rfl
theorem dX10_lay_83 : decode cX10_lay 83 = .ok (.ireturn, 1) := dq daX10_lay_40_1 12 rfl
theorem dX10_lay_66 : decode cX10_lay 66 = .ok (.ireturn, 1) := dq daX10_lay_40_1 13 rfl
def dtX10_soonest_40_0 : List (Nat × Jvm.ClassFile.Instr × Nat) := [(0, .aload_n 0, 1), (1, .getfield 10, 3), (4, .getfield 83, 3), (7, .iload_n 1, 1), (8, .invokevirtual 97, 3), (11, .ifCond .eq 17, 3), (28, .iconst (-1), 1), (29, .ireturn, 1), (14, .aload_n 0, 1), (15, .getfield 10, 3), (18, .getfield 83, 3), (21, .iload_n 2, 1), (22, .invokevirtual 97, 3), (25, .ifCond .ne 5, 3), (30, .aload_n 0, 1), (31, .getfield 61, 3), (34, .iload_n 1, 1), (35, .iconst (-1), 1), (36, .iconst 1, 1), (37, .invokevirtual 229, 3), (40, .aload_n 0, 1), (41, .getfield 61, 3), (44, .iload_n 2, 1), (45, .invokevirtual 233, 3), (48, .istore_n 3, 1), (49, .iload_n 3, 1), (50, .ldc 236, 2), (52, .if_icmp .ge 7, 3), (59, .bipush (-2), 2), (55, .iload_n 3, 1), (56, .goto 5, 3), (61, .ireturn, 1)]
theorem daX10_soonest_40_0 : dtX10_soonest_40_0.all (dqd cX10_soonest) = true := by decide +kernel
theorem dX10_soonest_0 : decode cX10_soonest 0 = .ok (.aload_n 0, 1) := dq daX10_soonest_40_0 0 rfl
theorem dX10_soonest_1 : decode cX10_soonest 1 = .ok (.getfield 10, 3) := dq daX10_soonest_40_0 1 rfl
theorem dX10_soonest_4 : decode cX10_soonest 4 = .ok (.getfield 83, 3) := dq daX10_soonest_40_0 2 rfl
theorem dX10_soonest_7 : decode cX10_soonest 7 = .ok (.iload_n 1, 1) := dq daX10_soonest_40_0 3 rfl
theorem dX10_soonest_8 : decode cX10_soonest 8 = .ok (.invokevirtual 97, 3) := dq daX10_soonest_40_0 4 rfl
theorem dX10_soonest_11 : decode cX10_soonest 11 = .ok (.ifCond .eq 17, 3) := dq daX10_soonest_40_0 5 rfl
theorem dX10_soonest_28 : decode cX10_soonest 28 = .ok (.iconst (-1), 1) := dq daX10_soonest_40_0 6 rfl
theorem dX10_soonest_29 : decode cX10_soonest 29 = .ok (.ireturn, 1) := dq daX10_soonest_40_0 7 rfl
theorem dX10_soonest_14 : decode cX10_soonest 14 = .ok (.aload_n 0, 1) := dq daX10_soonest_40_0 8 rfl
theorem dX10_soonest_15 : decode cX10_soonest 15 = .ok (.getfield 10, 3) := dq daX10_soonest_40_0 9 rfl
theorem dX10_soonest_18 : decode cX10_soonest 18 = .ok (.getfield 83, 3) := dq daX10_soonest_40_0 10 rfl
theorem dX10_soonest_21 : decode cX10_soonest 21 = .ok (.iload_n 2, 1) := dq daX10_soonest_40_0 11 rfl
theorem dX10_soonest_22 : decode cX10_soonest 22 = .ok (.invokevirtual 97, 3) := dq daX10_soonest_40_0 12 rfl
theorem dX10_soonest_25 : decode cX10_soonest 25 = .ok (.ifCond .ne 5, 3) := dq daX10_soonest_40_0 13 rfl
theorem dX10_soonest_30 : decode cX10_soonest 30 = .ok (.aload_n 0, 1) := dq daX10_soonest_40_0 14 rfl
theorem dX10_soonest_31 : decode cX10_soonest 31 = .ok (.getfield 61, 3) := dq daX10_soonest_40_0 15 rfl
theorem dX10_soonest_34 : decode cX10_soonest 34 = .ok (.iload_n 1, 1) := dq daX10_soonest_40_0 16 rfl
theorem dX10_soonest_35 : decode cX10_soonest 35 = .ok (.iconst (-1), 1) := dq daX10_soonest_40_0 17 rfl
theorem dX10_soonest_36 : decode cX10_soonest 36 = .ok (.iconst 1, 1) := dq daX10_soonest_40_0 18 rfl
theorem dX10_soonest_37 : decode cX10_soonest 37 = .ok (.invokevirtual 229, 3) := dq daX10_soonest_40_0 19 rfl
theorem dX10_soonest_40 : decode cX10_soonest 40 = .ok (.aload_n 0, 1) := dq daX10_soonest_40_0 20 rfl
theorem dX10_soonest_41 : decode cX10_soonest 41 = .ok (.getfield 61, 3) := dq daX10_soonest_40_0 21 rfl
theorem dX10_soonest_44 : decode cX10_soonest 44 = .ok (.iload_n 2, 1) := dq daX10_soonest_40_0 22 rfl
theorem dX10_soonest_45 : decode cX10_soonest 45 = .ok (.invokevirtual 233, 3) := dq daX10_soonest_40_0 23 rfl
theorem dX10_soonest_48 : decode cX10_soonest 48 = .ok (.istore_n 3, 1) := dq daX10_soonest_40_0 24 rfl
theorem dX10_soonest_49 : decode cX10_soonest 49 = .ok (.iload_n 3, 1) := dq daX10_soonest_40_0 25 rfl
theorem dX10_soonest_50 : decode cX10_soonest 50 = .ok (.ldc 236, 2) := dq daX10_soonest_40_0 26 rfl
theorem dX10_soonest_52 : decode cX10_soonest 52 = .ok (.if_icmp .ge 7, 3) := dq daX10_soonest_40_0 27 rfl
theorem dX10_soonest_59 : decode cX10_soonest 59 = .ok (.bipush (-2), 2) := dq daX10_soonest_40_0 28 rfl
theorem dX10_soonest_55 : decode cX10_soonest 55 = .ok (.iload_n 3, 1) := dq daX10_soonest_40_0 29 rfl
theorem dX10_soonest_56 : decode cX10_soonest 56 = .ok (.goto 5, 3) := dq daX10_soonest_40_0 30 rfl
theorem dX10_soonest_61 : decode cX10_soonest 61 = .ok (.ireturn, 1) := dq daX10_soonest_40_0 31 rfl
def dtX10_nearest_40_0 : List (Nat × Jvm.ClassFile.Instr × Nat) := [(0, .aload_n 0, 1), (1, .getfield 10, 3), (4, .getfield 83, 3), (7, .iload_n 1, 1), (8, .invokevirtual 97, 3), (11, .ifCond .eq 12, 3), (23, .iconst (-1), 1), (24, .ireturn, 1), (14, .iload_n 2, 1), (15, .bipush 11, 2), (17, .invokestatic 79, 3), (20, .ifCond .ne 5, 3), (25, .aload_n 0, 1), (26, .getfield 61, 3), (29, .iload_n 1, 1), (30, .iconst (-1), 1), (31, .iconst 1, 1), (32, .invokevirtual 229, 3), (35, .bipush (-2), 2), (37, .istore_n 3, 1), (38, .ldc 236, 2), (40, .istore 4, 2), (42, .iconst 0, 1), (43, .istore 5, 2), (45, .iload 5, 2), (47, .aload_n 0, 1), (48, .getfield 10, 3), (51, .getfield 83, 3), (54, .getfield 188, 3), (57, .if_icmp .ge 50, 3), (60, .aload_n 0, 1), (61, .getfield 10, 3)]
theorem daX10_nearest_40_0 : dtX10_nearest_40_0.all (dqd cX10_nearest) = true := by decide +kernel
theorem dX10_nearest_0 : decode cX10_nearest 0 = .ok (.aload_n 0, 1) := dq daX10_nearest_40_0 0 rfl
theorem dX10_nearest_1 : decode cX10_nearest 1 = .ok (.getfield 10, 3) := dq daX10_nearest_40_0 1 rfl
theorem dX10_nearest_4 : decode cX10_nearest 4 = .ok (.getfield 83, 3) := dq daX10_nearest_40_0 2 rfl
theorem dX10_nearest_7 : decode cX10_nearest 7 = .ok (.iload_n 1, 1) := dq daX10_nearest_40_0 3 rfl
theorem dX10_nearest_8 : decode cX10_nearest 8 = .ok (.invokevirtual 97, 3) := dq daX10_nearest_40_0 4 rfl
theorem dX10_nearest_11 : decode cX10_nearest 11 = .ok (.ifCond .eq 12, 3) := dq daX10_nearest_40_0 5 rfl
theorem dX10_nearest_23 : decode cX10_nearest 23 = .ok (.iconst (-1), 1) := dq daX10_nearest_40_0 6 rfl
theorem dX10_nearest_24 : decode cX10_nearest 24 = .ok (.ireturn, 1) := dq daX10_nearest_40_0 7 rfl
theorem dX10_nearest_14 : decode cX10_nearest 14 = .ok (.iload_n 2, 1) := dq daX10_nearest_40_0 8 rfl
theorem dX10_nearest_15 : decode cX10_nearest 15 = .ok (.bipush 11, 2) := dq daX10_nearest_40_0 9 rfl
theorem dX10_nearest_17 : decode cX10_nearest 17 = .ok (.invokestatic 79, 3) := dq daX10_nearest_40_0 10 rfl
theorem dX10_nearest_20 : decode cX10_nearest 20 = .ok (.ifCond .ne 5, 3) := dq daX10_nearest_40_0 11 rfl
theorem dX10_nearest_25 : decode cX10_nearest 25 = .ok (.aload_n 0, 1) := dq daX10_nearest_40_0 12 rfl
theorem dX10_nearest_26 : decode cX10_nearest 26 = .ok (.getfield 61, 3) := dq daX10_nearest_40_0 13 rfl
theorem dX10_nearest_29 : decode cX10_nearest 29 = .ok (.iload_n 1, 1) := dq daX10_nearest_40_0 14 rfl
theorem dX10_nearest_30 : decode cX10_nearest 30 = .ok (.iconst (-1), 1) := dq daX10_nearest_40_0 15 rfl
theorem dX10_nearest_31 : decode cX10_nearest 31 = .ok (.iconst 1, 1) := dq daX10_nearest_40_0 16 rfl
theorem dX10_nearest_32 : decode cX10_nearest 32 = .ok (.invokevirtual 229, 3) := dq daX10_nearest_40_0 17 rfl
theorem dX10_nearest_35 : decode cX10_nearest 35 = .ok (.bipush (-2), 2) := dq daX10_nearest_40_0 18 rfl
theorem dX10_nearest_37 : decode cX10_nearest 37 = .ok (.istore_n 3, 1) := dq daX10_nearest_40_0 19 rfl
theorem dX10_nearest_38 : decode cX10_nearest 38 = .ok (.ldc 236, 2) := dq daX10_nearest_40_0 20 rfl
theorem dX10_nearest_40 : decode cX10_nearest 40 = .ok (.istore 4, 2) := dq daX10_nearest_40_0 21 rfl
theorem dX10_nearest_42 : decode cX10_nearest 42 = .ok (.iconst 0, 1) := dq daX10_nearest_40_0 22 rfl
theorem dX10_nearest_43 : decode cX10_nearest 43 = .ok (.istore 5, 2) := dq daX10_nearest_40_0 23 rfl
theorem dX10_nearest_45 : decode cX10_nearest 45 = .ok (.iload 5, 2) := dq daX10_nearest_40_0 24 rfl
theorem dX10_nearest_47 : decode cX10_nearest 47 = .ok (.aload_n 0, 1) := dq daX10_nearest_40_0 25 rfl
theorem dX10_nearest_48 : decode cX10_nearest 48 = .ok (.getfield 10, 3) := dq daX10_nearest_40_0 26 rfl
theorem dX10_nearest_51 : decode cX10_nearest 51 = .ok (.getfield 83, 3) := dq daX10_nearest_40_0 27 rfl
theorem dX10_nearest_54 : decode cX10_nearest 54 = .ok (.getfield 188, 3) := dq daX10_nearest_40_0 28 rfl
theorem dX10_nearest_57 : decode cX10_nearest 57 = .ok (.if_icmp .ge 50, 3) := dq daX10_nearest_40_0 29 rfl
theorem dX10_nearest_60 : decode cX10_nearest 60 = .ok (.aload_n 0, 1) := dq daX10_nearest_40_0 30 rfl
theorem dX10_nearest_61 : decode cX10_nearest 61 = .ok (.getfield 10, 3) := dq daX10_nearest_40_0 31 rfl
def dtX10_nearest_40_1 : List (Nat × Jvm.ClassFile.Instr × Nat) := [(64, .iload 5, 2), (66, .iload_n 2, 1), (67, .invokevirtual 147, 3), (70, .ifCond .eq 31, 3), (101, .iinc 5 1, 3), (104, .goto (-59), 3), (73, .aload_n 0, 1), (74, .getfield 61, 3), (77, .iload 5, 2), (79, .invokevirtual 233, 3), (82, .iload 4, 2), (84, .if_icmp .ge 17, 3), (87, .iload 5, 2), (89, .istore_n 3, 1), (90, .aload_n 0, 1), (91, .getfield 61, 3), (94, .iload 5, 2), (96, .invokevirtual 233, 3), (99, .istore 4, 2), (107, .iload_n 3, 1), (108, .ireturn, 1)]
theorem daX10_nearest_40_1 : dtX10_nearest_40_1.all (dqd cX10_nearest) = true := by decide +kernel
theorem dX10_nearest_64 : decode cX10_nearest 64 = .ok (.iload 5, 2) := dq daX10_nearest_40_1 0 rfl
theorem dX10_nearest_66 : decode cX10_nearest 66 = .ok (.iload_n 2, 1) := dq daX10_nearest_40_1 1 rfl
theorem dX10_nearest_67 : decode cX10_nearest 67 = .ok (.invokevirtual 147, 3) := dq daX10_nearest_40_1 2 rfl
theorem dX10_nearest_70 : decode cX10_nearest 70 = .ok (.ifCond .eq 31, 3) := dq daX10_nearest_40_1 3 rfl
theorem dX10_nearest_101 : decode cX10_nearest 101 = .ok (.iinc 5 1, 3) := dq daX10_nearest_40_1 4 rfl
theorem dX10_nearest_104 : decode cX10_nearest 104 = .ok (.goto (-59), 3) := dq daX10_nearest_40_1 5 rfl
theorem dX10_nearest_73 : decode cX10_nearest 73 = .ok (.aload_n 0, 1) := dq daX10_nearest_40_1 6 rfl
theorem dX10_nearest_74 : decode cX10_nearest 74 = .ok (.getfield 61, 3) := dq daX10_nearest_40_1 7 rfl
theorem dX10_nearest_77 : decode cX10_nearest 77 = .ok (.iload 5, 2) := dq daX10_nearest_40_1 8 rfl
theorem dX10_nearest_79 : decode cX10_nearest 79 = .ok (.invokevirtual 233, 3) := dq daX10_nearest_40_1 9 rfl
theorem dX10_nearest_82 : decode cX10_nearest 82 = .ok (.iload 4, 2) := dq daX10_nearest_40_1 10 rfl
theorem dX10_nearest_84 : decode cX10_nearest 84 = .ok (.if_icmp .ge 17, 3) := dq daX10_nearest_40_1 11 rfl
theorem dX10_nearest_87 : decode cX10_nearest 87 = .ok (.iload 5, 2) := dq daX10_nearest_40_1 12 rfl
theorem dX10_nearest_89 : decode cX10_nearest 89 = .ok (.istore_n 3, 1) := dq daX10_nearest_40_1 13 rfl
theorem dX10_nearest_90 : decode cX10_nearest 90 = .ok (.aload_n 0, 1) := dq daX10_nearest_40_1 14 rfl
theorem dX10_nearest_91 : decode cX10_nearest 91 = .ok (.getfield 61, 3) := dq daX10_nearest_40_1 15 rfl
theorem dX10_nearest_94 : decode cX10_nearest 94 = .ok (.iload 5, 2) := dq daX10_nearest_40_1 16 rfl
theorem dX10_nearest_96 : decode cX10_nearest 96 = .ok (.invokevirtual 233, 3) := dq daX10_nearest_40_1 17 rfl
theorem dX10_nearest_99 : decode cX10_nearest 99 = .ok (.istore 4, 2) := dq daX10_nearest_40_1 18 rfl
theorem dX10_nearest_107 : decode cX10_nearest 107 = .ok (.iload_n 3, 1) := dq daX10_nearest_40_1 19 rfl
theorem dX10_nearest_108 : decode cX10_nearest 108 = .ok (.ireturn, 1) := dq daX10_nearest_40_1 20 rfl
def dtX10_seed_40_0 : List (Nat × Jvm.ClassFile.Instr × Nat) := [(0, .iload_n 1, 1), (1, .ifCond .ge 5, 3), (6, .aload_n 0, 1), (7, .getfield 10, 3), (10, .getfield 118, 3), (13, .istore_n 2, 1), (14, .aload_n 0, 1), (15, .getfield 10, 3), (18, .iload_n 1, 1), (19, .putfield 118, 3), (22, .iload_n 2, 1), (4, .iconst (-1), 1), (5, .ireturn, 1), (23, .ireturn, 1)]
theorem daX10_seed_40_0 : dtX10_seed_40_0.all (dqd cX10_seed) = true := by decide +kernel
theorem dX10_seed_0 : decode cX10_seed 0 = .ok (.iload_n 1, 1) := dq daX10_seed_40_0 0 rfl
theorem dX10_seed_1 : decode cX10_seed 1 = .ok (.ifCond .ge 5, 3) := dq daX10_seed_40_0 1 rfl
theorem dX10_seed_6 : decode cX10_seed 6 = .ok (.aload_n 0, 1) := dq daX10_seed_40_0 2 rfl
theorem dX10_seed_7 : decode cX10_seed 7 = .ok (.getfield 10, 3) := dq daX10_seed_40_0 3 rfl
theorem dX10_seed_10 : decode cX10_seed 10 = .ok (.getfield 118, 3) := dq daX10_seed_40_0 4 rfl
theorem dX10_seed_13 : decode cX10_seed 13 = .ok (.istore_n 2, 1) := dq daX10_seed_40_0 5 rfl
theorem dX10_seed_14 : decode cX10_seed 14 = .ok (.aload_n 0, 1) := dq daX10_seed_40_0 6 rfl
theorem dX10_seed_15 : decode cX10_seed 15 = .ok (.getfield 10, 3) := dq daX10_seed_40_0 7 rfl
theorem dX10_seed_18 : decode cX10_seed 18 = .ok (.iload_n 1, 1) := dq daX10_seed_40_0 8 rfl
theorem dX10_seed_19 : decode cX10_seed 19 = .ok (.putfield 118, 3) := dq daX10_seed_40_0 9 rfl
theorem dX10_seed_22 : decode cX10_seed 22 = .ok (.iload_n 2, 1) := dq daX10_seed_40_0 10 rfl
theorem dX10_seed_4 : decode cX10_seed 4 = .ok (.iconst (-1), 1) := dq daX10_seed_40_0 11 rfl
theorem dX10_seed_5 : decode cX10_seed 5 = .ok (.ireturn, 1) := dq daX10_seed_40_0 12 rfl
theorem dX10_seed_23 : decode cX10_seed 23 = .ok (.ireturn, 1) := dq daX10_seed_40_0 13 rfl
def dtX10_count_40_0 : List (Nat × Jvm.ClassFile.Instr × Nat) := [(0, .iload_n 1, 1), (1, .tableswitch 181 0 10 #[59, 70, 81, 92, 97, 105, 120, 131, 142, 168, 176], 59), (182, .iconst (-1), 1), (183, .ireturn, 1), (60, .aload_n 0, 1), (61, .getfield 10, 3), (64, .getfield 83, 3), (67, .getfield 188, 3), (70, .ireturn, 1), (71, .aload_n 0, 1), (72, .getfield 10, 3), (75, .getfield 101, 3), (78, .getfield 188, 3), (81, .ireturn, 1), (82, .aload_n 0, 1), (83, .getfield 10, 3), (86, .getfield 107, 3), (89, .getfield 188, 3), (92, .ireturn, 1), (93, .aload_n 0, 1), (94, .getfield 128, 3), (97, .ireturn, 1), (98, .aload_n 0, 1), (99, .getfield 10, 3), (102, .getfield 141, 3), (105, .ireturn, 1), (106, .aload_n 0, 1), (107, .getfield 10, 3), (110, .aload_n 0, 1), (111, .getfield 10, 3), (114, .getfield 141, 3), (117, .invokevirtual 144, 3)]
theorem daX10_count_40_0 : dtX10_count_40_0.all (dqd cX10_count) = true := by decide +kernel
theorem dX10_count_0 : decode cX10_count 0 = .ok (.iload_n 1, 1) := dq daX10_count_40_0 0 rfl
theorem dX10_count_1 : decode cX10_count 1 = .ok (.tableswitch 181 0 10 #[59, 70, 81, 92, 97, 105, 120, 131, 142, 168, 176], 59) := dq daX10_count_40_0 1 rfl
theorem dX10_count_182 : decode cX10_count 182 = .ok (.iconst (-1), 1) := dq daX10_count_40_0 2 rfl
theorem dX10_count_183 : decode cX10_count 183 = .ok (.ireturn, 1) := dq daX10_count_40_0 3 rfl
theorem dX10_count_60 : decode cX10_count 60 = .ok (.aload_n 0, 1) := dq daX10_count_40_0 4 rfl
theorem dX10_count_61 : decode cX10_count 61 = .ok (.getfield 10, 3) := dq daX10_count_40_0 5 rfl
theorem dX10_count_64 : decode cX10_count 64 = .ok (.getfield 83, 3) := dq daX10_count_40_0 6 rfl
theorem dX10_count_67 : decode cX10_count 67 = .ok (.getfield 188, 3) := dq daX10_count_40_0 7 rfl
theorem dX10_count_70 : decode cX10_count 70 = .ok (.ireturn, 1) := dq daX10_count_40_0 8 rfl
theorem dX10_count_71 : decode cX10_count 71 = .ok (.aload_n 0, 1) := dq daX10_count_40_0 9 rfl
theorem dX10_count_72 : decode cX10_count 72 = .ok (.getfield 10, 3) := dq daX10_count_40_0 10 rfl
theorem dX10_count_75 : decode cX10_count 75 = .ok (.getfield 101, 3) := dq daX10_count_40_0 11 rfl
theorem dX10_count_78 : decode cX10_count 78 = .ok (.getfield 188, 3) := dq daX10_count_40_0 12 rfl
theorem dX10_count_81 : decode cX10_count 81 = .ok (.ireturn, 1) := dq daX10_count_40_0 13 rfl
theorem dX10_count_82 : decode cX10_count 82 = .ok (.aload_n 0, 1) := dq daX10_count_40_0 14 rfl
theorem dX10_count_83 : decode cX10_count 83 = .ok (.getfield 10, 3) := dq daX10_count_40_0 15 rfl
theorem dX10_count_86 : decode cX10_count 86 = .ok (.getfield 107, 3) := dq daX10_count_40_0 16 rfl
theorem dX10_count_89 : decode cX10_count 89 = .ok (.getfield 188, 3) := dq daX10_count_40_0 17 rfl
theorem dX10_count_92 : decode cX10_count 92 = .ok (.ireturn, 1) := dq daX10_count_40_0 18 rfl
theorem dX10_count_93 : decode cX10_count 93 = .ok (.aload_n 0, 1) := dq daX10_count_40_0 19 rfl
theorem dX10_count_94 : decode cX10_count 94 = .ok (.getfield 128, 3) := dq daX10_count_40_0 20 rfl
theorem dX10_count_97 : decode cX10_count 97 = .ok (.ireturn, 1) := dq daX10_count_40_0 21 rfl
theorem dX10_count_98 : decode cX10_count 98 = .ok (.aload_n 0, 1) := dq daX10_count_40_0 22 rfl
theorem dX10_count_99 : decode cX10_count 99 = .ok (.getfield 10, 3) := dq daX10_count_40_0 23 rfl
theorem dX10_count_102 : decode cX10_count 102 = .ok (.getfield 141, 3) := dq daX10_count_40_0 24 rfl
theorem dX10_count_105 : decode cX10_count 105 = .ok (.ireturn, 1) := dq daX10_count_40_0 25 rfl
theorem dX10_count_106 : decode cX10_count 106 = .ok (.aload_n 0, 1) := dq daX10_count_40_0 26 rfl
theorem dX10_count_107 : decode cX10_count 107 = .ok (.getfield 10, 3) := dq daX10_count_40_0 27 rfl
theorem dX10_count_110 : decode cX10_count 110 = .ok (.aload_n 0, 1) := dq daX10_count_40_0 28 rfl
theorem dX10_count_111 : decode cX10_count 111 = .ok (.getfield 10, 3) := dq daX10_count_40_0 29 rfl
theorem dX10_count_114 : decode cX10_count 114 = .ok (.getfield 141, 3) := dq daX10_count_40_0 30 rfl
theorem dX10_count_117 : decode cX10_count 117 = .ok (.invokevirtual 144, 3) := dq daX10_count_40_0 31 rfl
def dtX10_count_40_1 : List (Nat × Jvm.ClassFile.Instr × Nat) := [(120, .ireturn, 1), (121, .aload_n 0, 1), (122, .getfield 10, 3), (125, .getfield 263, 3), (128, .getfield 188, 3), (131, .ireturn, 1), (132, .aload_n 0, 1), (133, .getfield 10, 3), (136, .getfield 285, 3), (139, .getfield 188, 3), (142, .ireturn, 1), (143, .aload_n 0, 1), (144, .getfield 10, 3), (147, .getfield 176, 3), (150, .iconst (-1), 1), (151, .if_icmp .ne 7, 3), (158, .aload_n 0, 1), (159, .getfield 10, 3), (162, .getfield 185, 3), (165, .getfield 188, 3), (168, .ireturn, 1), (154, .iconst (-1), 1), (155, .goto 13, 3), (169, .aload_n 0, 1), (170, .getfield 10, 3), (173, .getfield 118, 3), (176, .ireturn, 1), (177, .aload_n 0, 1), (178, .getfield 121, 3), (181, .ireturn, 1)]
theorem daX10_count_40_1 : dtX10_count_40_1.all (dqd cX10_count) = true := by decide +kernel
theorem dX10_count_120 : decode cX10_count 120 = .ok (.ireturn, 1) := dq daX10_count_40_1 0 rfl
theorem dX10_count_121 : decode cX10_count 121 = .ok (.aload_n 0, 1) := dq daX10_count_40_1 1 rfl
theorem dX10_count_122 : decode cX10_count 122 = .ok (.getfield 10, 3) := dq daX10_count_40_1 2 rfl
theorem dX10_count_125 : decode cX10_count 125 = .ok (.getfield 263, 3) := dq daX10_count_40_1 3 rfl
theorem dX10_count_128 : decode cX10_count 128 = .ok (.getfield 188, 3) := dq daX10_count_40_1 4 rfl
theorem dX10_count_131 : decode cX10_count 131 = .ok (.ireturn, 1) := dq daX10_count_40_1 5 rfl
theorem dX10_count_132 : decode cX10_count 132 = .ok (.aload_n 0, 1) := dq daX10_count_40_1 6 rfl
theorem dX10_count_133 : decode cX10_count 133 = .ok (.getfield 10, 3) := dq daX10_count_40_1 7 rfl
theorem dX10_count_136 : decode cX10_count 136 = .ok (.getfield 285, 3) := dq daX10_count_40_1 8 rfl
theorem dX10_count_139 : decode cX10_count 139 = .ok (.getfield 188, 3) := dq daX10_count_40_1 9 rfl
theorem dX10_count_142 : decode cX10_count 142 = .ok (.ireturn, 1) := dq daX10_count_40_1 10 rfl
theorem dX10_count_143 : decode cX10_count 143 = .ok (.aload_n 0, 1) := dq daX10_count_40_1 11 rfl
theorem dX10_count_144 : decode cX10_count 144 = .ok (.getfield 10, 3) := dq daX10_count_40_1 12 rfl
theorem dX10_count_147 : decode cX10_count 147 = .ok (.getfield 176, 3) := dq daX10_count_40_1 13 rfl
theorem dX10_count_150 : decode cX10_count 150 = .ok (.iconst (-1), 1) := dq daX10_count_40_1 14 rfl
theorem dX10_count_151 : decode cX10_count 151 = .ok (.if_icmp .ne 7, 3) := dq daX10_count_40_1 15 rfl
theorem dX10_count_158 : decode cX10_count 158 = .ok (.aload_n 0, 1) := dq daX10_count_40_1 16 rfl
theorem dX10_count_159 : decode cX10_count 159 = .ok (.getfield 10, 3) := dq daX10_count_40_1 17 rfl
theorem dX10_count_162 : decode cX10_count 162 = .ok (.getfield 185, 3) := dq daX10_count_40_1 18 rfl
theorem dX10_count_165 : decode cX10_count 165 = .ok (.getfield 188, 3) := dq daX10_count_40_1 19 rfl
theorem dX10_count_168 : decode cX10_count 168 = .ok (.ireturn, 1) := dq daX10_count_40_1 20 rfl
theorem dX10_count_154 : decode cX10_count 154 = .ok (.iconst (-1), 1) := dq daX10_count_40_1 21 rfl
theorem dX10_count_155 : decode cX10_count 155 = .ok (.goto 13, 3) := dq daX10_count_40_1 22 rfl
theorem dX10_count_169 : decode cX10_count 169 = .ok (.aload_n 0, 1) := dq daX10_count_40_1 23 rfl
theorem dX10_count_170 : decode cX10_count 170 = .ok (.getfield 10, 3) := dq daX10_count_40_1 24 rfl
theorem dX10_count_173 : decode cX10_count 173 = .ok (.getfield 118, 3) := dq daX10_count_40_1 25 rfl
theorem dX10_count_176 : decode cX10_count 176 = .ok (.ireturn, 1) := dq daX10_count_40_1 26 rfl
theorem dX10_count_177 : decode cX10_count 177 = .ok (.aload_n 0, 1) := dq daX10_count_40_1 27 rfl
theorem dX10_count_178 : decode cX10_count 178 = .ok (.getfield 121, 3) := dq daX10_count_40_1 28 rfl
theorem dX10_count_181 : decode cX10_count 181 = .ok (.ireturn, 1) := dq daX10_count_40_1 29 rfl
def dtX10_feed_40_0 : List (Nat × Jvm.ClassFile.Instr × Nat) := [(0, .aload_n 0, 1), (1, .getfield 121, 3), (4, .bipush 20, 2), (6, .iadd, 1), (7, .sipush 400, 3), (10, .if_icmp .le 5, 3), (15, .aload_n 0, 1), (16, .iload_n 1, 1), (17, .invokevirtual 124, 3), (20, .aload_n 0, 1), (21, .iload_n 2, 1), (22, .invokevirtual 124, 3), (25, .aload_n 0, 1), (26, .iload_n 3, 1), (27, .invokevirtual 124, 3), (30, .aload_n 0, 1), (31, .iload 4, 2), (33, .invokevirtual 124, 3), (36, .aload_n 0, 1), (37, .iload 5, 2), (39, .invokevirtual 124, 3), (42, .aload_n 0, 1), (43, .getfield 121, 3), (13, .iconst (-1), 1), (14, .ireturn, 1), (46, .ireturn, 1)]
theorem daX10_feed_40_0 : dtX10_feed_40_0.all (dqd cX10_feed) = true := by decide +kernel
theorem dX10_feed_0 : decode cX10_feed 0 = .ok (.aload_n 0, 1) := dq daX10_feed_40_0 0 rfl
theorem dX10_feed_1 : decode cX10_feed 1 = .ok (.getfield 121, 3) := dq daX10_feed_40_0 1 rfl
theorem dX10_feed_4 : decode cX10_feed 4 = .ok (.bipush 20, 2) := dq daX10_feed_40_0 2 rfl
theorem dX10_feed_6 : decode cX10_feed 6 = .ok (.iadd, 1) := dq daX10_feed_40_0 3 rfl
theorem dX10_feed_7 : decode cX10_feed 7 = .ok (.sipush 400, 3) := dq daX10_feed_40_0 4 rfl
theorem dX10_feed_10 : decode cX10_feed 10 = .ok (.if_icmp .le 5, 3) := dq daX10_feed_40_0 5 rfl
theorem dX10_feed_15 : decode cX10_feed 15 = .ok (.aload_n 0, 1) := dq daX10_feed_40_0 6 rfl
theorem dX10_feed_16 : decode cX10_feed 16 = .ok (.iload_n 1, 1) := dq daX10_feed_40_0 7 rfl
theorem dX10_feed_17 : decode cX10_feed 17 = .ok (.invokevirtual 124, 3) := dq daX10_feed_40_0 8 rfl
theorem dX10_feed_20 : decode cX10_feed 20 = .ok (.aload_n 0, 1) := dq daX10_feed_40_0 9 rfl
theorem dX10_feed_21 : decode cX10_feed 21 = .ok (.iload_n 2, 1) := dq daX10_feed_40_0 10 rfl
theorem dX10_feed_22 : decode cX10_feed 22 = .ok (.invokevirtual 124, 3) := dq daX10_feed_40_0 11 rfl
theorem dX10_feed_25 : decode cX10_feed 25 = .ok (.aload_n 0, 1) := dq daX10_feed_40_0 12 rfl
theorem dX10_feed_26 : decode cX10_feed 26 = .ok (.iload_n 3, 1) := dq daX10_feed_40_0 13 rfl
theorem dX10_feed_27 : decode cX10_feed 27 = .ok (.invokevirtual 124, 3) := dq daX10_feed_40_0 14 rfl
theorem dX10_feed_30 : decode cX10_feed 30 = .ok (.aload_n 0, 1) := dq daX10_feed_40_0 15 rfl
theorem dX10_feed_31 : decode cX10_feed 31 = .ok (.iload 4, 2) := dq daX10_feed_40_0 16 rfl
theorem dX10_feed_33 : decode cX10_feed 33 = .ok (.invokevirtual 124, 3) := dq daX10_feed_40_0 17 rfl
theorem dX10_feed_36 : decode cX10_feed 36 = .ok (.aload_n 0, 1) := dq daX10_feed_40_0 18 rfl
theorem dX10_feed_37 : decode cX10_feed 37 = .ok (.iload 5, 2) := dq daX10_feed_40_0 19 rfl
theorem dX10_feed_39 : decode cX10_feed 39 = .ok (.invokevirtual 124, 3) := dq daX10_feed_40_0 20 rfl
theorem dX10_feed_42 : decode cX10_feed 42 = .ok (.aload_n 0, 1) := dq daX10_feed_40_0 21 rfl
theorem dX10_feed_43 : decode cX10_feed 43 = .ok (.getfield 121, 3) := dq daX10_feed_40_0 22 rfl
theorem dX10_feed_13 : decode cX10_feed 13 = .ok (.iconst (-1), 1) := dq daX10_feed_40_0 23 rfl
theorem dX10_feed_14 : decode cX10_feed 14 = .ok (.ireturn, 1) := dq daX10_feed_40_0 24 rfl
theorem dX10_feed_46 : decode cX10_feed 46 = .ok (.ireturn, 1) := dq daX10_feed_40_0 25 rfl
def dtX10_end_40_0 : List (Nat × Jvm.ClassFile.Instr × Nat) := [(0, .iload_n 1, 1), (1, .aload_n 0, 1), (2, .getfield 121, 3), (5, .invokestatic 79, 3), (8, .ifCond .ne 5, 3), (13, .aload_n 0, 1), (14, .iload_n 1, 1), (15, .putfield 121, 3), (18, .iload_n 1, 1), (11, .iconst (-1), 1), (12, .ireturn, 1), (19, .ireturn, 1)]
theorem daX10_end_40_0 : dtX10_end_40_0.all (dqd cX10_end) = true := by decide +kernel
theorem dX10_end_0 : decode cX10_end 0 = .ok (.iload_n 1, 1) := dq daX10_end_40_0 0 rfl
theorem dX10_end_1 : decode cX10_end 1 = .ok (.aload_n 0, 1) := dq daX10_end_40_0 1 rfl
theorem dX10_end_2 : decode cX10_end 2 = .ok (.getfield 121, 3) := dq daX10_end_40_0 2 rfl
theorem dX10_end_5 : decode cX10_end 5 = .ok (.invokestatic 79, 3) := dq daX10_end_40_0 3 rfl
theorem dX10_end_8 : decode cX10_end 8 = .ok (.ifCond .ne 5, 3) := dq daX10_end_40_0 4 rfl
theorem dX10_end_13 : decode cX10_end 13 = .ok (.aload_n 0, 1) := dq daX10_end_40_0 5 rfl
theorem dX10_end_14 : decode cX10_end 14 = .ok (.iload_n 1, 1) := dq daX10_end_40_0 6 rfl
theorem dX10_end_15 : decode cX10_end 15 = .ok (.putfield 121, 3) := dq daX10_end_40_0 7 rfl
theorem dX10_end_18 : decode cX10_end 18 = .ok (.iload_n 1, 1) := dq daX10_end_40_0 8 rfl
theorem dX10_end_11 : decode cX10_end 11 = .ok (.iconst (-1), 1) := dq daX10_end_40_0 9 rfl
theorem dX10_end_12 : decode cX10_end 12 = .ok (.ireturn, 1) := dq daX10_end_40_0 10 rfl
theorem dX10_end_19 : decode cX10_end 19 = .ok (.ireturn, 1) := dq daX10_end_40_0 11 rfl
set_option maxHeartbeats 4000000 in
set_option maxRecDepth 100000 in
theorem mX10_isCover (l : Launch) (dC : Nat → ClassId) (dI : Nat → Nat → Nat) (kA : Nat → ClassId) (sz : Nat) (p0 : Int32) (p1 : Int32)  : Met l yX10_isCover wsX10_isCover ({ frames := 1, cells := 0, slots := 0, locals := 21 }) (zPc dC dI kA sz [.int p0, .int p1] []) (va_Qi (fun (r : Int32) (u : Unit) => r = (cv p0 p1)) (zB dC dI (va_A [] sz) (fun (u : Unit) => [])) (va_A [] sz)) 0 0 (va_A [] sz) := by
  refine Met.ofW (cc := cX10_isCover) (maxL := 2) (ret := (some .boolean)) pnX10 rfl ?_
  intro p e s m args below meth c s₁ B hml hv
  obtain ⟨rfl, hsz, hP, hK, hD0⟩ := hv
  have hx := B.exec
  have hb := B.bytes
  have hr := B.returns
  have hts := atoms_spec (ws := wsX10_isCover) B.pre
  have hown : s.vm.findClass RX10 = some m.cls := findClass_of_methodNamed B.named
  have hlocks := B.notSynchronized
  subst hsz
  have hD := hD0.self (sz := s.heap.size)
  generalize hAe : va_A [] s.heap.size = A at hD ⊢
  have hA : ∀ q : Nat, s.heap.size ≤ q → A q := zA_of hAe
  have hS : va_S A s.heap s.heap [] := va_S.rf
  have hP : va_P (dC, dI) vwCl [] s.heap := hP
  have hl := lv_entry ([.int p0, .int p1]) (n := 2) (Nat.le_of_ble_eq_true rfl)
  rw [lg_entry_eq]
  generalize (lg_sl ([.int p0, .int p1]) ++ List.replicate (2 - (lg_sl ([.int p0, .int p1])).length) Slot.unset).toArray = ls at hl ⊢
  have hl : lv_has ls 2 [(0, .int p0), (1, .int p1)] := hl
  refine lv_iload_n hx hb dX10_isCover_0 rfl (lv_at hl 0 rfl) ?_
  refine lv_bipush (v := 9) hx hb dX10_isCover_1 (by decide) ?_
  refine z_i (wr := []) (va_runS (As := [.int p0, .int 9]) (rest := []) ⟨hx, hb, hml, hown, hts⟩ (mX10_within l dC dI kA _ p0 9) (va_cwS 2 hts gX10_isCover_X10_within rfl rfl rfl hdX10_within ⟨(Nat.le_of_ble_eq_true rfl), (Nat.le_of_ble_eq_true rfl)⟩) ⟨zPc.blind, zPre hK (hP.sub [] rfl) (hD.sub [] (by decide) rfl)⟩ rfl rfl hl.1 rfl (lv_room (Nat.le_of_ble_eq_true rfl)) dX10_isCover_3 ⟨(Nat.le_of_ble_eq_true rfl), (Nat.le_of_ble_eq_true rfl)⟩) hP hD hS hA [] [] rfl rfl (by decide) (by decide) (fun r3 u1 H locs hw2 hP hD hS => ?_)
  obtain rfl := hw2
  obtain ⟨hP, hD⟩ := z_re (L := []) hP hD
  refine lv_if_eq (tgt := 22) hx hb dX10_isCover_6 (by decide) (fun c_4 => ?_) (fun c_4 => ?_)
  · refine lv_iconst (v := 0) hx hb dX10_isCover_22 (by decide) ?_
    obtain ⟨hP9, hD9⟩ := z_sb (L' := []) hP hD [] (by decide) rfl
    refine W.widen (k := 0) (n := 0) (Nat.le_of_ble_eq_true rfl) (Nat.le_of_ble_eq_true rfl) ?_
    exact W.zret (v := 0) hx hb hr rfl (fun t ht hW => ⟨⟨0, (), rfl, (by simp [cv, c_4]), by rw [ht]; exact hP9, hD9⟩, hS.F ht⟩) hS.2.2 dX10_isCover_23
  · have c_4a := wi_ne c_4
    have c_4b := c_4a.2
    have c_4a := c_4a.1
    refine lv_iload_n hx hb dX10_isCover_9 rfl (lv_at hl 1 rfl) ?_
    refine lv_bipush (v := 9) hx hb dX10_isCover_10 (by decide) ?_
    refine z_i (wr := []) (va_runS (As := [.int p1, .int 9]) (rest := []) ⟨hx, hb, hml, hown, hts⟩ (mX10_within l dC dI kA _ p1 9) (va_cwS 2 hts gX10_isCover_X10_within rfl rfl rfl hdX10_within ⟨(Nat.le_of_ble_eq_true rfl), (Nat.le_of_ble_eq_true rfl)⟩) ⟨zPc.blind, zPre hK (hP.sub [] rfl) (hD.sub [] (by decide) rfl)⟩ rfl rfl hl.1 rfl (lv_room (Nat.le_of_ble_eq_true rfl)) dX10_isCover_12 ⟨(Nat.le_of_ble_eq_true rfl), (Nat.le_of_ble_eq_true rfl)⟩) hP hD hS hA [] [] rfl rfl (by decide) (by decide) (fun r7 u5 H locs hw6 hP hD hS => ?_)
    obtain rfl := hw6
    obtain ⟨hP, hD⟩ := z_re (L := []) hP hD
    refine lv_if_eq (tgt := 22) hx hb dX10_isCover_15 (by decide) (fun c_8 => ?_) (fun c_8 => ?_)
    · refine lv_iconst (v := 0) hx hb dX10_isCover_22 (by decide) ?_
      obtain ⟨hP9, hD9⟩ := z_sb (L' := []) hP hD [] (by decide) rfl
      refine W.widen (k := 0) (n := 0) (Nat.le_of_ble_eq_true rfl) (Nat.le_of_ble_eq_true rfl) ?_
      exact W.zret (v := 0) hx hb hr rfl (fun t ht hW => ⟨⟨0, (), rfl, (by simp [cv, c_4, c_4a, c_4b, c_8]), by rw [ht]; exact hP9, hD9⟩, hS.F ht⟩) hS.2.2 dX10_isCover_23
    · have c_8a := wi_ne c_8
      have c_8b := c_8a.2
      have c_8a := c_8a.1
      refine lv_iconst (v := 1) hx hb dX10_isCover_18 (by decide) ?_
      refine lv_goto (tgt := 23) hx hb dX10_isCover_19 (by decide) ?_
      obtain ⟨hP9, hD9⟩ := z_sb (L' := []) hP hD [] (by decide) rfl
      refine W.widen (k := 0) (n := 0) (Nat.le_of_ble_eq_true rfl) (Nat.le_of_ble_eq_true rfl) ?_
      exact W.zret (v := 1) hx hb hr rfl (fun t ht hW => ⟨⟨1, (), rfl, (by simp [cv, c_4, c_4a, c_4b, c_8, c_8a, c_8b]), by rw [ht]; exact hP9, hD9⟩, hS.F ht⟩) hS.2.2 dX10_isCover_23
set_option maxRecDepth 100000 in
def fX10_isLoad (p0 : Int32) (p1 : Int32) (p2 : Int32) (p3 : Int32) : Int32 := if (wi p0 99999) = 0 then (0) else (if (wi p1 99999) = 0 then (0) else (if (cv p2 p3) = 0 then (0) else (1)))
set_option maxHeartbeats 4000000 in
set_option maxRecDepth 100000 in
theorem mX10_isLoad (l : Launch) (dC : Nat → ClassId) (dI : Nat → Nat → Nat) (kA : Nat → ClassId) (sz : Nat) (p0 : Int32) (p1 : Int32) (p2 : Int32) (p3 : Int32)  : Met l yX10_isLoad wsX10_isLoad ({ frames := 2, cells := 0, slots := 0, locals := 42 }) (zPc dC dI kA sz [.int p0, .int p1, .int p2, .int p3] []) (va_Qi (fun (r : Int32) (u : Int32) => r = u ∧ u = fX10_isLoad p0 p1 p2 p3 ∧ (u = 0 ∨ u = 1)) (zB dC dI (va_A [] sz) (fun (u : Int32) => [])) (va_A [] sz)) 0 0 (va_A [] sz) := by
  refine Met.ofW (cc := cX10_isLoad) (maxL := 4) (ret := (some .boolean)) pnX10 rfl ?_
  intro p e s m args below meth c s₁ B hml hv
  obtain ⟨rfl, hsz, hP, hK, hD0⟩ := hv
  have hx := B.exec
  have hb := B.bytes
  have hr := B.returns
  have hts := atoms_spec (ws := wsX10_isLoad) B.pre
  have hown : s.vm.findClass RX10 = some m.cls := findClass_of_methodNamed B.named
  have hlocks := B.notSynchronized
  subst hsz
  have hD := hD0.self (sz := s.heap.size)
  generalize hAe : va_A [] s.heap.size = A at hD ⊢
  have hA : ∀ q : Nat, s.heap.size ≤ q → A q := zA_of hAe
  have hS : va_S A s.heap s.heap [] := va_S.rf
  have hP : va_P (dC, dI) vwCl [] s.heap := hP
  have hl := lv_entry ([.int p0, .int p1, .int p2, .int p3]) (n := 4) (Nat.le_of_ble_eq_true rfl)
  rw [lg_entry_eq]
  generalize (lg_sl ([.int p0, .int p1, .int p2, .int p3]) ++ List.replicate (4 - (lg_sl ([.int p0, .int p1, .int p2, .int p3])).length) Slot.unset).toArray = ls at hl ⊢
  have hl : lv_has ls 4 [(0, .int p0), (1, .int p1), (2, .int p2), (3, .int p3)] := hl
  obtain ⟨G, hG0⟩ : ∃ G : Int32, fX10_isLoad p0 p1 p2 p3 = G := ⟨_, rfl⟩
  have hG := hG0
  unfold fX10_isLoad at hG
  refine lv_iload_n hx hb dX10_isLoad_0 rfl (lv_at hl 0 rfl) ?_
  refine lv_ldc hx hb hown (kX10_isLoad_1 hts) dX10_isLoad_1 ?_
  refine z_i (wr := []) (va_runS (As := [.int p0, .int 99999]) (rest := []) ⟨hx, hb, hml, hown, hts⟩ (mX10_within l dC dI kA _ p0 99999) (va_cwS 2 hts gX10_isLoad_X10_within rfl rfl rfl hdX10_within ⟨(Nat.le_of_ble_eq_true rfl), (Nat.le_of_ble_eq_true rfl)⟩) ⟨zPc.blind, zPre hK (hP.sub [] rfl) (hD.sub [] (by decide) rfl)⟩ rfl rfl hl.1 rfl (lv_room (Nat.le_of_ble_eq_true rfl)) dX10_isLoad_3 ⟨(Nat.le_of_ble_eq_true rfl), (Nat.le_of_ble_eq_true rfl)⟩) hP hD hS hA [] [] rfl rfl (by decide) (by decide) (fun r3 u1 H locs hw2 hP hD hS => ?_)
  obtain rfl := hw2
  obtain ⟨hP, hD⟩ := z_re (L := []) hP hD
  refine lv_if_eq (tgt := 30) hx hb dX10_isLoad_6 (by decide) (fun c_4 => ?_) (fun c_4 => ?_)
  · have hG := zthen hG c_4
    refine lv_iconst (v := 0) hx hb dX10_isLoad_30 (by decide) ?_
    obtain ⟨hP9, hD9⟩ := z_sb (L' := []) hP hD [] (by decide) rfl
    refine W.widen (k := 0) (n := 0) (Nat.le_of_ble_eq_true rfl) (Nat.le_of_ble_eq_true rfl) ?_
    exact W.zret (v := 0) hx hb hr rfl (fun t ht hW => ⟨⟨0, (0), rfl, ⟨rfl, (hG.trans hG0.symm), (Or.inl rfl)⟩, by rw [ht]; exact hP9, hD9⟩, hS.F ht⟩) hS.2.2 dX10_isLoad_31
  · have hG := zelse hG c_4
    have c_4a := wi_ne c_4
    have c_4b := c_4a.2
    have c_4a := c_4a.1
    refine lv_iload_n hx hb dX10_isLoad_9 rfl (lv_at hl 1 rfl) ?_
    refine lv_ldc hx hb hown (kX10_isLoad_1 hts) dX10_isLoad_10 ?_
    refine z_i (wr := []) (va_runS (As := [.int p1, .int 99999]) (rest := []) ⟨hx, hb, hml, hown, hts⟩ (mX10_within l dC dI kA _ p1 99999) (va_cwS 2 hts gX10_isLoad_X10_within rfl rfl rfl hdX10_within ⟨(Nat.le_of_ble_eq_true rfl), (Nat.le_of_ble_eq_true rfl)⟩) ⟨zPc.blind, zPre hK (hP.sub [] rfl) (hD.sub [] (by decide) rfl)⟩ rfl rfl hl.1 rfl (lv_room (Nat.le_of_ble_eq_true rfl)) dX10_isLoad_12 ⟨(Nat.le_of_ble_eq_true rfl), (Nat.le_of_ble_eq_true rfl)⟩) hP hD hS hA [] [] rfl rfl (by decide) (by decide) (fun r7 u5 H locs hw6 hP hD hS => ?_)
    obtain rfl := hw6
    obtain ⟨hP, hD⟩ := z_re (L := []) hP hD
    refine lv_if_eq (tgt := 30) hx hb dX10_isLoad_15 (by decide) (fun c_8 => ?_) (fun c_8 => ?_)
    · have hG := zthen hG c_8
      refine lv_iconst (v := 0) hx hb dX10_isLoad_30 (by decide) ?_
      obtain ⟨hP9, hD9⟩ := z_sb (L' := []) hP hD [] (by decide) rfl
      refine W.widen (k := 0) (n := 0) (Nat.le_of_ble_eq_true rfl) (Nat.le_of_ble_eq_true rfl) ?_
      exact W.zret (v := 0) hx hb hr rfl (fun t ht hW => ⟨⟨0, (0), rfl, ⟨rfl, (hG.trans hG0.symm), (Or.inl rfl)⟩, by rw [ht]; exact hP9, hD9⟩, hS.F ht⟩) hS.2.2 dX10_isLoad_31
    · have hG := zelse hG c_8
      have c_8a := wi_ne c_8
      have c_8b := c_8a.2
      have c_8a := c_8a.1
      refine lv_iload_n hx hb dX10_isLoad_18 rfl (lv_at hl 2 rfl) ?_
      refine lv_iload_n hx hb dX10_isLoad_19 rfl (lv_at hl 3 rfl) ?_
      refine z_i (wr := []) (va_runS (As := [.int p2, .int p3]) (rest := []) ⟨hx, hb, hml, hown, hts⟩ (mX10_isCover l dC dI kA _ p2 p3) (va_cwS 2 hts gX10_isLoad_X10_isCover rfl rfl rfl hdX10_isCover ⟨(Nat.le_of_ble_eq_true rfl), (Nat.le_of_ble_eq_true rfl)⟩) ⟨zPc.blind, zPre hK (hP.sub [] rfl) (hD.sub [] (by decide) rfl)⟩ rfl rfl hl.1 rfl (lv_room (Nat.le_of_ble_eq_true rfl)) dX10_isLoad_20 ⟨(Nat.le_of_ble_eq_true rfl), (Nat.le_of_ble_eq_true rfl)⟩) hP hD hS hA [] [] rfl rfl (by decide) (by decide) (fun r11 u9 H locs hw10 hP hD hS => ?_)
      obtain rfl := hw10
      obtain ⟨hP, hD⟩ := z_re (L := []) hP hD
      refine lv_if_eq (tgt := 30) hx hb dX10_isLoad_23 (by decide) (fun c_12 => ?_) (fun c_12 => ?_)
      · have hG := zthen hG c_12
        refine lv_iconst (v := 0) hx hb dX10_isLoad_30 (by decide) ?_
        obtain ⟨hP9, hD9⟩ := z_sb (L' := []) hP hD [] (by decide) rfl
        refine W.widen (k := 0) (n := 0) (Nat.le_of_ble_eq_true rfl) (Nat.le_of_ble_eq_true rfl) ?_
        exact W.zret (v := 0) hx hb hr rfl (fun t ht hW => ⟨⟨0, (0), rfl, ⟨rfl, (hG.trans hG0.symm), (Or.inl rfl)⟩, by rw [ht]; exact hP9, hD9⟩, hS.F ht⟩) hS.2.2 dX10_isLoad_31
      · have hG := zelse hG c_12
        refine lv_iconst (v := 1) hx hb dX10_isLoad_26 (by decide) ?_
        refine lv_goto (tgt := 31) hx hb dX10_isLoad_27 (by decide) ?_
        obtain ⟨hP9, hD9⟩ := z_sb (L' := []) hP hD [] (by decide) rfl
        refine W.widen (k := 0) (n := 0) (Nat.le_of_ble_eq_true rfl) (Nat.le_of_ble_eq_true rfl) ?_
        exact W.zret (v := 1) hx hb hr rfl (fun t ht hW => ⟨⟨1, (1), rfl, ⟨rfl, (hG.trans hG0.symm), (Or.inr rfl)⟩, by rw [ht]; exact hP9, hD9⟩, hS.F ht⟩) hS.2.2 dX10_isLoad_31
set_option maxHeartbeats 4000000 in
set_option maxRecDepth 100000 in
theorem mX10_isWish (l : Launch) (dC : Nat → ClassId) (dI : Nat → Nat → Nat) (kA : Nat → ClassId) (sz : Nat) (p0 : Int32)  : Met l yX10_isWish wsX10_isWish ({ frames := 0, cells := 0, slots := 0, locals := 0 }) (zPc dC dI kA sz [.int p0] []) (va_Qi (fun (r : Int32) (u : Unit) => r = (wsh p0)) (zB dC dI (va_A [] sz) (fun (u : Unit) => [])) (va_A [] sz)) 0 0 (va_A [] sz) := by
  refine Met.ofW (cc := cX10_isWish) (maxL := 1) (ret := (some .boolean)) pnX10 rfl ?_
  intro p e s m args below meth c s₁ B hml hv
  obtain ⟨rfl, hsz, hP, hK, hD0⟩ := hv
  have hx := B.exec
  have hb := B.bytes
  have hr := B.returns
  have hts := atoms_spec (ws := wsX10_isWish) B.pre
  have hown : s.vm.findClass RX10 = some m.cls := findClass_of_methodNamed B.named
  have hlocks := B.notSynchronized
  subst hsz
  have hD := hD0.self (sz := s.heap.size)
  generalize hAe : va_A [] s.heap.size = A at hD ⊢
  have hA : ∀ q : Nat, s.heap.size ≤ q → A q := zA_of hAe
  have hS : va_S A s.heap s.heap [] := va_S.rf
  have hP : va_P (dC, dI) vwCl [] s.heap := hP
  have hl := lv_entry ([.int p0]) (n := 1) (Nat.le_of_ble_eq_true rfl)
  rw [lg_entry_eq]
  generalize (lg_sl ([.int p0]) ++ List.replicate (1 - (lg_sl ([.int p0])).length) Slot.unset).toArray = ls at hl ⊢
  have hl : lv_has ls 1 [(0, .int p0)] := hl
  refine lv_iload_n hx hb dX10_isWish_0 rfl (lv_at hl 0 rfl) ?_
  refine lv_iconst (v := 1) hx hb dX10_isWish_1 (by decide) ?_
  refine lv_icmp_lt (tgt := 15) hx hb dX10_isWish_2 (by decide) (fun c_1 => ?_) (fun c_1 => ?_)
  · refine lv_iconst (v := 0) hx hb dX10_isWish_15 (by decide) ?_
    obtain ⟨hP9, hD9⟩ := z_sb (L' := []) hP hD [] (by decide) rfl
    refine W.widen (k := 0) (n := 0) (Nat.le_of_ble_eq_true rfl) (Nat.le_of_ble_eq_true rfl) ?_
    exact W.zret (v := 0) hx hb hr rfl (fun t ht hW => ⟨⟨0, (), rfl, (by simp [wsh, c_1]), by rw [ht]; exact hP9, hD9⟩, hS.F ht⟩) hS.2.2 dX10_isWish_16
  · refine lv_iload_n hx hb dX10_isWish_5 rfl (lv_at hl 0 rfl) ?_
    refine lv_ldc hx hb hown (kX10_isWish_1 hts) dX10_isWish_6 ?_
    refine lv_icmp_gt (tgt := 15) hx hb dX10_isWish_8 (by decide) (fun c_2 => ?_) (fun c_2 => ?_)
    · refine lv_iconst (v := 0) hx hb dX10_isWish_15 (by decide) ?_
      obtain ⟨hP9, hD9⟩ := z_sb (L' := []) hP hD [] (by decide) rfl
      refine W.widen (k := 0) (n := 0) (Nat.le_of_ble_eq_true rfl) (Nat.le_of_ble_eq_true rfl) ?_
      exact W.zret (v := 0) hx hb hr rfl (fun t ht hW => ⟨⟨0, (), rfl, (by simp [wsh, c_1, c_2]), by rw [ht]; exact hP9, hD9⟩, hS.F ht⟩) hS.2.2 dX10_isWish_16
    · refine lv_iconst (v := 1) hx hb dX10_isWish_11 (by decide) ?_
      refine lv_goto (tgt := 16) hx hb dX10_isWish_12 (by decide) ?_
      obtain ⟨hP9, hD9⟩ := z_sb (L' := []) hP hD [] (by decide) rfl
      refine W.widen (k := 0) (n := 0) (Nat.le_of_ble_eq_true rfl) (Nat.le_of_ble_eq_true rfl) ?_
      exact W.zret (v := 1) hx hb hr rfl (fun t ht hW => ⟨⟨1, (), rfl, (by simp [wsh, c_1, c_2]), by rw [ht]; exact hP9, hD9⟩, hS.F ht⟩) hS.2.2 dX10_isWish_16
set_option maxHeartbeats 4000000 in
set_option maxRecDepth 100000 in
theorem mX10_lawOf (l : Launch) (dC : Nat → ClassId) (dI : Nat → Nat → Nat) (kA : Nat → ClassId) (sz : Nat) (x0 : Nat) (z0 : Nat) (xi : Nat) (xt : Nat) (xq : Nat) (rdr : Nat) (h0 : Nat) (t0 : Nat) (q0 : Nat) (v0 : Nat) (m0 : Nat) (w0 : Nat) (x_tl : Int32) (x_lc : Int32) (xqF : Nat → Option Nat) (p0 : Int32)  : Met l yX10_lawOf wsX10_lawOf ({ frames := 1, cells := 0, slots := 0, locals := 21 }) (zPc dC dI kA sz [.ref x0, .int p0] [(x0, .inr (10, [.ref w0, .ref z0, .ref xi, .ref xt, .int x_tl, .ref xq, .int x_lc, .ref rdr, .ref h0, .ref t0, .ref q0, .ref v0, .ref m0])), (xq, .inl (kA 5, 6, .inr (.inr (.inr (.inr xqF)))))]) (va_Qq (fun (r : Option Nat) (u : Unit) => r = (sel p0 x_lc xqF)) (zB dC dI (va_A [(x0, .inr (10, [.ref w0, .ref z0, .ref xi, .ref xt, .int x_tl, .ref xq, .int x_lc, .ref rdr, .ref h0, .ref t0, .ref q0, .ref v0, .ref m0])), (xq, .inl (kA 5, 6, .inr (.inr (.inr (.inr xqF)))))] sz) (fun (u : Unit) => [(x0, .inr (10, [.ref w0, .ref z0, .ref xi, .ref xt, .int x_tl, .ref xq, .int x_lc, .ref rdr, .ref h0, .ref t0, .ref q0, .ref v0, .ref m0])), (xq, .inl (kA 5, 6, .inr (.inr (.inr (.inr xqF)))))])) (va_A [(x0, .inr (10, [.ref w0, .ref z0, .ref xi, .ref xt, .int x_tl, .ref xq, .int x_lc, .ref rdr, .ref h0, .ref t0, .ref q0, .ref v0, .ref m0])), (xq, .inl (kA 5, 6, .inr (.inr (.inr (.inr xqF)))))] sz)) 0 0 (va_A [(x0, .inr (10, [.ref w0, .ref z0, .ref xi, .ref xt, .int x_tl, .ref xq, .int x_lc, .ref rdr, .ref h0, .ref t0, .ref q0, .ref v0, .ref m0])), (xq, .inl (kA 5, 6, .inr (.inr (.inr (.inr xqF)))))] sz) := by
  refine Met.ofW (cc := cX10_lawOf) (maxL := 2) (ret := (some (.object "SnowMules$Law"))) pnX10 rfl ?_
  intro p e s m args below meth c s₁ B hml hv
  obtain ⟨rfl, hsz, hP, hK, hD0⟩ := hv
  have hx := B.exec
  have hb := B.bytes
  have hr := B.returns
  have hts := atoms_spec (ws := wsX10_lawOf) B.pre
  have hown : s.vm.findClass RX10 = some m.cls := findClass_of_methodNamed B.named
  have hlocks := B.notSynchronized
  subst hsz
  have hD := hD0.self (sz := s.heap.size)
  generalize hAe : va_A [(x0, .inr (10, [.ref w0, .ref z0, .ref xi, .ref xt, .int x_tl, .ref xq, .int x_lc, .ref rdr, .ref h0, .ref t0, .ref q0, .ref v0, .ref m0])), (xq, .inl (kA 5, 6, .inr (.inr (.inr (.inr xqF)))))] s.heap.size = A at hD ⊢
  have hA : ∀ q : Nat, s.heap.size ≤ q → A q := zA_of hAe
  have hS : va_S A s.heap s.heap [] := va_S.rf
  have hP : va_P (dC, dI) vwCl [(x0, .inr (10, [.ref w0, .ref z0, .ref xi, .ref xt, .int x_tl, .ref xq, .int x_lc, .ref rdr, .ref h0, .ref t0, .ref q0, .ref v0, .ref m0])), (xq, .inl (kA 5, 6, .inr (.inr (.inr (.inr xqF)))))] s.heap := hP
  have hl := lv_entry ([.ref x0, .int p0]) (n := 2) (Nat.le_of_ble_eq_true rfl)
  rw [lg_entry_eq]
  generalize (lg_sl ([.ref x0, .int p0]) ++ List.replicate (2 - (lg_sl ([.ref x0, .int p0])).length) Slot.unset).toArray = ls at hl ⊢
  have hl : lv_has ls 2 [(0, .ref x0), (1, .int p0)] := hl
  refine lv_iload_n hx hb dX10_lawOf_0 rfl (lv_at hl 1 rfl) ?_
  refine lv_aload_n hx hb dX10_lawOf_1 rfl (lv_at hl 0 rfl) ?_
  refine va_get (D := (dC, dI)) (ci := 10) (v := .int x_lc) (C := RX10) (T := TX10) (N := 13) hx hb hts iX10_lawOf_X10 hown hK.1 hP 0 gz0 vcz10 6 (by decide) (kX10_lawOf_1 hts) (fun _ h9 => h9) gz6 dX10_lawOf_2 ?_
  refine lv_iconst (v := 1) hx hb dX10_lawOf_5 (by decide) ?_
  refine lv_isub hx hb dX10_lawOf_6 ?_
  refine z_i (wr := [(x0, .inr (10, [.ref w0, .ref z0, .ref xi, .ref xt, .int x_tl, .ref xq, .int x_lc, .ref rdr, .ref h0, .ref t0, .ref q0, .ref v0, .ref m0])), (xq, .inl (kA 5, 6, .inr (.inr (.inr (.inr xqF)))))]) (va_runS (As := [.int p0, .int (x_lc - 1)]) (rest := []) ⟨hx, hb, hml, hown, hts⟩ (mX10_within l dC dI kA _ p0 (x_lc - 1)) (va_cwS 2 hts gX10_lawOf_X10_within rfl rfl rfl hdX10_within ⟨(Nat.le_of_ble_eq_true rfl), (Nat.le_of_ble_eq_true rfl)⟩) ⟨zPc.blind, zPre hK (hP.sub [] rfl) (hD.sub [] (by decide) rfl)⟩ rfl rfl hl.1 rfl (lv_room (Nat.le_of_ble_eq_true rfl)) dX10_lawOf_7 ⟨(Nat.le_of_ble_eq_true rfl), (Nat.le_of_ble_eq_true rfl)⟩) hP hD hS hA [] [0, 1] rfl rfl (by decide) (by decide) (fun r3 u1 H locs hw2 hP hD hS => ?_)
  obtain rfl := hw2
  obtain ⟨hP, hD⟩ := z_re (L := [(x0, .inr (10, [.ref w0, .ref z0, .ref xi, .ref xt, .int x_tl, .ref xq, .int x_lc, .ref rdr, .ref h0, .ref t0, .ref q0, .ref v0, .ref m0])), (xq, .inl (kA 5, 6, .inr (.inr (.inr (.inr xqF)))))]) hP hD
  refine lv_if_eq (tgt := 28) hx hb dX10_lawOf_10 (by decide) (fun c_4 => ?_) (fun c_4 => ?_)
  · refine lv_null hx hb dX10_lawOf_28 ?_
    obtain ⟨hP9, hD9⟩ := z_sb (L' := [(x0, .inr (10, [.ref w0, .ref z0, .ref xi, .ref xt, .int x_tl, .ref xq, .int x_lc, .ref rdr, .ref h0, .ref t0, .ref q0, .ref v0, .ref m0])), (xq, .inl (kA 5, 6, .inr (.inr (.inr (.inr xqF)))))]) hP hD [0, 1] (by decide) rfl
    refine W.widen (k := 0) (n := 0) (Nat.le_of_ble_eq_true rfl) (Nat.le_of_ble_eq_true rfl) ?_
    exact W.aret (v := .null) hx hb hr (Or.inl ⟨_, rfl⟩) (Or.inl rfl) (fun t ht hW => ⟨⟨none, (), rfl, (by simp [sel, c_4]), by rw [ht]; exact hP9, hD9⟩, hS.F ht⟩) hS.2.2 dX10_lawOf_29
  · have c_4a := wi_ne c_4
    have c_4b := c_4a.2
    have c_4a := c_4a.1
    refine lv_iload_n hx hb dX10_lawOf_13 rfl (lv_at hl 1 rfl) ?_
    refine lv_bipush (v := 6) hx hb dX10_lawOf_14 (by decide) ?_
    refine lv_icmp_ge (tgt := 28) hx hb dX10_lawOf_16 (by decide) (fun c_5 => ?_) (fun c_5 => ?_)
    · refine lv_null hx hb dX10_lawOf_28 ?_
      obtain ⟨hP9, hD9⟩ := z_sb (L' := [(x0, .inr (10, [.ref w0, .ref z0, .ref xi, .ref xt, .int x_tl, .ref xq, .int x_lc, .ref rdr, .ref h0, .ref t0, .ref q0, .ref v0, .ref m0])), (xq, .inl (kA 5, 6, .inr (.inr (.inr (.inr xqF)))))]) hP hD [0, 1] (by decide) rfl
      refine W.widen (k := 0) (n := 0) (Nat.le_of_ble_eq_true rfl) (Nat.le_of_ble_eq_true rfl) ?_
      exact W.aret (v := .null) hx hb hr (Or.inl ⟨_, rfl⟩) (Or.inl rfl) (fun t ht hW => ⟨⟨none, (), rfl, (by simp [sel, c_4, c_5]), by rw [ht]; exact hP9, hD9⟩, hS.F ht⟩) hS.2.2 dX10_lawOf_29
    · refine lv_aload_n hx hb dX10_lawOf_19 rfl (lv_at hl 0 rfl) ?_
      refine va_get (D := (dC, dI)) (ci := 10) (v := .ref xq) (C := RX10) (T := TX10) (N := 13) hx hb hts iX10_lawOf_X10 hown hK.1 hP 0 gz0 vcz10 5 (by decide) (kX10_lawOf_2 hts) (fun _ h9 => h9) gz5 dX10_lawOf_20 ?_
      refine lv_iload_n hx hb dX10_lawOf_23 rfl (lv_at hl 1 rfl) ?_
      refine va_aldq hx hb hK.1 hP 1 5 rfl rfl (vp_lt (by decide) c_4a c_5) dX10_lawOf_24 ?_
      refine lv_goto (tgt := 29) hx hb dX10_lawOf_25 (by decide) ?_
      obtain ⟨hP9, hD9⟩ := z_sb (L' := [(x0, .inr (10, [.ref w0, .ref z0, .ref xi, .ref xt, .int x_tl, .ref xq, .int x_lc, .ref rdr, .ref h0, .ref t0, .ref q0, .ref v0, .ref m0])), (xq, .inl (kA 5, 6, .inr (.inr (.inr (.inr xqF)))))]) hP hD [0, 1] (by decide) rfl
      refine W.widen (k := 0) (n := 0) (Nat.le_of_ble_eq_true rfl) (Nat.le_of_ble_eq_true rfl) ?_
      exact W.aret (v := va_rf (xqF p0.toNatClampNeg)) hx hb hr (Or.inl ⟨_, rfl⟩) (va_rf_or _) (fun t ht hW => ⟨⟨(xqF p0.toNatClampNeg), (), rfl, (by simp [sel, c_4, c_5]), by rw [ht]; exact hP9, hD9⟩, hS.F ht⟩) hS.2.2 dX10_lawOf_29
set_option maxRecDepth 100000 in
def fX10_isJourney (tnodesS : Int32) (p0 : Int32) (p1 : Int32) : Int32 := if (hs p0 tnodesS) = 0 then (0) else (if (hs p1 tnodesS) = 0 then (0) else (if p0 = p1 then (0) else (1)))
set_option maxHeartbeats 4000000 in
set_option maxRecDepth 100000 in
theorem mX10_isJourney (l : Launch) (dC : Nat → ClassId) (dI : Nat → Nat → Nat) (kA : Nat → ClassId) (sz : Nat) (x0 : Nat) (z0 : Nat) (xi : Nat) (xt : Nat) (xq : Nat) (rdr : Nat) (h0 : Nat) (t0 : Nat) (q0 : Nat) (v0 : Nat) (m0 : Nat) (w0 : Nat) (x_tl : Int32) (x_lc : Int32) (tnodes : Nat) (tnodesA : Nat) (tnodesS : Int32) (tpasses : Nat) (tjars : Nat) (torders : Nat) (tfeasts : Nat) (tway : Nat) (tws : Int32) (tnow : Int32) (tfm : Int32) (tx : Int32) (p0 : Int32) (p1 : Int32)  : Met l yX10_isJourney wsX10_isJourney ({ frames := 1, cells := 0, slots := 0, locals := 21 }) (zPc dC dI kA sz [.ref x0, .int p0, .int p1] [(x0, .inr (10, [.ref w0, .ref z0, .ref xi, .ref xt, .int x_tl, .ref xq, .int x_lc, .ref rdr, .ref h0, .ref t0, .ref q0, .ref v0, .ref m0])), (w0, .inr (9, [.ref tnodes, .ref tpasses, .ref tjars, .ref torders, .ref tfeasts, .ref tway, .int tws, .int tnow, .int tfm, .int tx])), (tnodes, .inr (6, [.int 4, .ref tnodesA, .int tnodesS]))]) (va_Qi (fun (r : Int32) (u : Int32) => r = u ∧ u = fX10_isJourney tnodesS p0 p1 ∧ (u = 0 ∨ u = 1)) (zB dC dI (va_A [(x0, .inr (10, [.ref w0, .ref z0, .ref xi, .ref xt, .int x_tl, .ref xq, .int x_lc, .ref rdr, .ref h0, .ref t0, .ref q0, .ref v0, .ref m0])), (w0, .inr (9, [.ref tnodes, .ref tpasses, .ref tjars, .ref torders, .ref tfeasts, .ref tway, .int tws, .int tnow, .int tfm, .int tx])), (tnodes, .inr (6, [.int 4, .ref tnodesA, .int tnodesS]))] sz) (fun (u : Int32) => [(x0, .inr (10, [.ref w0, .ref z0, .ref xi, .ref xt, .int x_tl, .ref xq, .int x_lc, .ref rdr, .ref h0, .ref t0, .ref q0, .ref v0, .ref m0])), (w0, .inr (9, [.ref tnodes, .ref tpasses, .ref tjars, .ref torders, .ref tfeasts, .ref tway, .int tws, .int tnow, .int tfm, .int tx])), (tnodes, .inr (6, [.int 4, .ref tnodesA, .int tnodesS]))])) (va_A [(x0, .inr (10, [.ref w0, .ref z0, .ref xi, .ref xt, .int x_tl, .ref xq, .int x_lc, .ref rdr, .ref h0, .ref t0, .ref q0, .ref v0, .ref m0])), (w0, .inr (9, [.ref tnodes, .ref tpasses, .ref tjars, .ref torders, .ref tfeasts, .ref tway, .int tws, .int tnow, .int tfm, .int tx])), (tnodes, .inr (6, [.int 4, .ref tnodesA, .int tnodesS]))] sz)) 0 0 (va_A [(x0, .inr (10, [.ref w0, .ref z0, .ref xi, .ref xt, .int x_tl, .ref xq, .int x_lc, .ref rdr, .ref h0, .ref t0, .ref q0, .ref v0, .ref m0])), (w0, .inr (9, [.ref tnodes, .ref tpasses, .ref tjars, .ref torders, .ref tfeasts, .ref tway, .int tws, .int tnow, .int tfm, .int tx])), (tnodes, .inr (6, [.int 4, .ref tnodesA, .int tnodesS]))] sz) := by
  refine Met.ofW (cc := cX10_isJourney) (maxL := 3) (ret := (some .boolean)) pnX10 rfl ?_
  intro p e s m args below meth c s₁ B hml hv
  obtain ⟨rfl, hsz, hP, hK, hD0⟩ := hv
  have hx := B.exec
  have hb := B.bytes
  have hr := B.returns
  have hts := atoms_spec (ws := wsX10_isJourney) B.pre
  have hown : s.vm.findClass RX10 = some m.cls := findClass_of_methodNamed B.named
  have hlocks := B.notSynchronized
  subst hsz
  have hD := hD0.self (sz := s.heap.size)
  generalize hAe : va_A [(x0, .inr (10, [.ref w0, .ref z0, .ref xi, .ref xt, .int x_tl, .ref xq, .int x_lc, .ref rdr, .ref h0, .ref t0, .ref q0, .ref v0, .ref m0])), (w0, .inr (9, [.ref tnodes, .ref tpasses, .ref tjars, .ref torders, .ref tfeasts, .ref tway, .int tws, .int tnow, .int tfm, .int tx])), (tnodes, .inr (6, [.int 4, .ref tnodesA, .int tnodesS]))] s.heap.size = A at hD ⊢
  have hA : ∀ q : Nat, s.heap.size ≤ q → A q := zA_of hAe
  have hS : va_S A s.heap s.heap [] := va_S.rf
  have hP : va_P (dC, dI) vwCl [(x0, .inr (10, [.ref w0, .ref z0, .ref xi, .ref xt, .int x_tl, .ref xq, .int x_lc, .ref rdr, .ref h0, .ref t0, .ref q0, .ref v0, .ref m0])), (w0, .inr (9, [.ref tnodes, .ref tpasses, .ref tjars, .ref torders, .ref tfeasts, .ref tway, .int tws, .int tnow, .int tfm, .int tx])), (tnodes, .inr (6, [.int 4, .ref tnodesA, .int tnodesS]))] s.heap := hP
  have hl := lv_entry ([.ref x0, .int p0, .int p1]) (n := 3) (Nat.le_of_ble_eq_true rfl)
  rw [lg_entry_eq]
  generalize (lg_sl ([.ref x0, .int p0, .int p1]) ++ List.replicate (3 - (lg_sl ([.ref x0, .int p0, .int p1])).length) Slot.unset).toArray = ls at hl ⊢
  have hl : lv_has ls 3 [(0, .ref x0), (1, .int p0), (2, .int p1)] := hl
  obtain ⟨G, hG0⟩ : ∃ G : Int32, fX10_isJourney tnodesS p0 p1 = G := ⟨_, rfl⟩
  have hG := hG0
  unfold fX10_isJourney at hG
  refine lv_aload_n hx hb dX10_isJourney_0 rfl (lv_at hl 0 rfl) ?_
  refine va_get (D := (dC, dI)) (ci := 10) (v := .ref w0) (C := RX10) (T := TX10) (N := 13) hx hb hts iX10_isJourney_X10 hown hK.1 hP 0 gz0 vcz10 0 (by decide) (kX10_isJourney_1 hts) (fun _ h9 => h9) gz0 dX10_isJourney_1 ?_
  refine va_get (D := (dC, dI)) (ci := 9) (v := .ref tnodes) (C := RX9) (T := TX9) (N := 10) hx hb hts iX10_isJourney_X9 hown hK.1 hP 1 gz1 vcz9 0 (by decide) (kX10_isJourney_2 hts) (fun _ h9 => h9) gz0 dX10_isJourney_4 ?_
  refine lv_iload_n hx hb dX10_isJourney_7 rfl (lv_at hl 1 rfl) ?_
  refine z_i (wr := [(x0, .inr (10, [.ref w0, .ref z0, .ref xi, .ref xt, .int x_tl, .ref xq, .int x_lc, .ref rdr, .ref h0, .ref t0, .ref q0, .ref v0, .ref m0])), (w0, .inr (9, [.ref tnodes, .ref tpasses, .ref tjars, .ref torders, .ref tfeasts, .ref tway, .int tws, .int tnow, .int tfm, .int tx]))]) (va_runV (As := [.int p0]) (rest := []) ⟨hx, hb, hml, hown, hts⟩ (mX6_has l dC dI kA _ tnodes tnodesA 4 tnodesS p0) (cwV 1 hts gX10_isJourney_X6_has rfl rfl rfl ⟨rfl, hdX6_has⟩ ⟨(Nat.le_of_ble_eq_true rfl), (Nat.le_of_ble_eq_true rfl)⟩) ⟨zPc.blind, va_recv (q := (RX6, TX6, 3)) hK.1 hP (ci := 6) (q0 := 2) rfl rfl, zPre hK (hP.sub [2] rfl) (hD.sub [2] (by decide) rfl)⟩ rfl rfl hl.1 rfl (lv_room (Nat.le_of_ble_eq_true rfl)) dX10_isJourney_8 ⟨(Nat.le_of_ble_eq_true rfl), (Nat.le_of_ble_eq_true rfl)⟩) hP hD hS hA [2] [0, 1] rfl rfl (by decide) (by decide) (fun r3 u1 H locs hw2 hP hD hS => ?_)
  obtain rfl := hw2
  obtain ⟨hP, hD⟩ := z_re (L := [(x0, .inr (10, [.ref w0, .ref z0, .ref xi, .ref xt, .int x_tl, .ref xq, .int x_lc, .ref rdr, .ref h0, .ref t0, .ref q0, .ref v0, .ref m0])), (w0, .inr (9, [.ref tnodes, .ref tpasses, .ref tjars, .ref torders, .ref tfeasts, .ref tway, .int tws, .int tnow, .int tfm, .int tx])), (tnodes, .inr (6, [.int 4, .ref tnodesA, .int tnodesS]))]) hP hD
  refine lv_if_eq (tgt := 37) hx hb dX10_isJourney_11 (by decide) (fun c_4 => ?_) (fun c_4 => ?_)
  · have hG := zthen hG c_4
    refine lv_iconst (v := 0) hx hb dX10_isJourney_37 (by decide) ?_
    obtain ⟨hP9, hD9⟩ := z_sb (L' := [(x0, .inr (10, [.ref w0, .ref z0, .ref xi, .ref xt, .int x_tl, .ref xq, .int x_lc, .ref rdr, .ref h0, .ref t0, .ref q0, .ref v0, .ref m0])), (w0, .inr (9, [.ref tnodes, .ref tpasses, .ref tjars, .ref torders, .ref tfeasts, .ref tway, .int tws, .int tnow, .int tfm, .int tx])), (tnodes, .inr (6, [.int 4, .ref tnodesA, .int tnodesS]))]) hP hD [0, 1, 2] (by decide) rfl
    refine W.widen (k := 0) (n := 0) (Nat.le_of_ble_eq_true rfl) (Nat.le_of_ble_eq_true rfl) ?_
    exact W.zret (v := 0) hx hb hr rfl (fun t ht hW => ⟨⟨0, (0), rfl, ⟨rfl, (hG.trans hG0.symm), (Or.inl rfl)⟩, by rw [ht]; exact hP9, hD9⟩, hS.F ht⟩) hS.2.2 dX10_isJourney_38
  · have hG := zelse hG c_4
    have c_4a := hs_ne c_4
    have c_4b := c_4a.2
    have c_4a := c_4a.1
    refine lv_aload_n hx hb dX10_isJourney_14 rfl (lv_at hl 0 rfl) ?_
    refine va_get (D := (dC, dI)) (ci := 10) (v := .ref w0) (C := RX10) (T := TX10) (N := 13) hx hb hts iX10_isJourney_X10 hown hK.1 hP 0 gz0 vcz10 0 (by decide) (kX10_isJourney_1 hts) (fun _ h9 => h9) gz0 dX10_isJourney_15 ?_
    refine va_get (D := (dC, dI)) (ci := 9) (v := .ref tnodes) (C := RX9) (T := TX9) (N := 10) hx hb hts iX10_isJourney_X9 hown hK.1 hP 1 gz1 vcz9 0 (by decide) (kX10_isJourney_2 hts) (fun _ h9 => h9) gz0 dX10_isJourney_18 ?_
    refine lv_iload_n hx hb dX10_isJourney_21 rfl (lv_at hl 2 rfl) ?_
    refine z_i (wr := [(x0, .inr (10, [.ref w0, .ref z0, .ref xi, .ref xt, .int x_tl, .ref xq, .int x_lc, .ref rdr, .ref h0, .ref t0, .ref q0, .ref v0, .ref m0])), (w0, .inr (9, [.ref tnodes, .ref tpasses, .ref tjars, .ref torders, .ref tfeasts, .ref tway, .int tws, .int tnow, .int tfm, .int tx]))]) (va_runV (As := [.int p1]) (rest := []) ⟨hx, hb, hml, hown, hts⟩ (mX6_has l dC dI kA _ tnodes tnodesA 4 tnodesS p1) (cwV 1 hts gX10_isJourney_X6_has rfl rfl rfl ⟨rfl, hdX6_has⟩ ⟨(Nat.le_of_ble_eq_true rfl), (Nat.le_of_ble_eq_true rfl)⟩) ⟨zPc.blind, va_recv (q := (RX6, TX6, 3)) hK.1 hP (ci := 6) (q0 := 2) rfl rfl, zPre hK (hP.sub [2] rfl) (hD.sub [2] (by decide) rfl)⟩ rfl rfl hl.1 rfl (lv_room (Nat.le_of_ble_eq_true rfl)) dX10_isJourney_22 ⟨(Nat.le_of_ble_eq_true rfl), (Nat.le_of_ble_eq_true rfl)⟩) hP hD hS hA [2] [0, 1] rfl rfl (by decide) (by decide) (fun r7 u5 H locs hw6 hP hD hS => ?_)
    obtain rfl := hw6
    obtain ⟨hP, hD⟩ := z_re (L := [(x0, .inr (10, [.ref w0, .ref z0, .ref xi, .ref xt, .int x_tl, .ref xq, .int x_lc, .ref rdr, .ref h0, .ref t0, .ref q0, .ref v0, .ref m0])), (w0, .inr (9, [.ref tnodes, .ref tpasses, .ref tjars, .ref torders, .ref tfeasts, .ref tway, .int tws, .int tnow, .int tfm, .int tx])), (tnodes, .inr (6, [.int 4, .ref tnodesA, .int tnodesS]))]) hP hD
    refine lv_if_eq (tgt := 37) hx hb dX10_isJourney_25 (by decide) (fun c_8 => ?_) (fun c_8 => ?_)
    · have hG := zthen hG c_8
      refine lv_iconst (v := 0) hx hb dX10_isJourney_37 (by decide) ?_
      obtain ⟨hP9, hD9⟩ := z_sb (L' := [(x0, .inr (10, [.ref w0, .ref z0, .ref xi, .ref xt, .int x_tl, .ref xq, .int x_lc, .ref rdr, .ref h0, .ref t0, .ref q0, .ref v0, .ref m0])), (w0, .inr (9, [.ref tnodes, .ref tpasses, .ref tjars, .ref torders, .ref tfeasts, .ref tway, .int tws, .int tnow, .int tfm, .int tx])), (tnodes, .inr (6, [.int 4, .ref tnodesA, .int tnodesS]))]) hP hD [0, 1, 2] (by decide) rfl
      refine W.widen (k := 0) (n := 0) (Nat.le_of_ble_eq_true rfl) (Nat.le_of_ble_eq_true rfl) ?_
      exact W.zret (v := 0) hx hb hr rfl (fun t ht hW => ⟨⟨0, (0), rfl, ⟨rfl, (hG.trans hG0.symm), (Or.inl rfl)⟩, by rw [ht]; exact hP9, hD9⟩, hS.F ht⟩) hS.2.2 dX10_isJourney_38
    · have hG := zelse hG c_8
      have c_8a := hs_ne c_8
      have c_8b := c_8a.2
      have c_8a := c_8a.1
      refine lv_iload_n hx hb dX10_isJourney_28 rfl (lv_at hl 1 rfl) ?_
      refine lv_iload_n hx hb dX10_isJourney_29 rfl (lv_at hl 2 rfl) ?_
      refine lv_icmp_eq (tgt := 37) hx hb dX10_isJourney_30 (by decide) (fun c_9 => ?_) (fun c_9 => ?_)
      · have hG := zthen hG c_9
        refine lv_iconst (v := 0) hx hb dX10_isJourney_37 (by decide) ?_
        obtain ⟨hP9, hD9⟩ := z_sb (L' := [(x0, .inr (10, [.ref w0, .ref z0, .ref xi, .ref xt, .int x_tl, .ref xq, .int x_lc, .ref rdr, .ref h0, .ref t0, .ref q0, .ref v0, .ref m0])), (w0, .inr (9, [.ref tnodes, .ref tpasses, .ref tjars, .ref torders, .ref tfeasts, .ref tway, .int tws, .int tnow, .int tfm, .int tx])), (tnodes, .inr (6, [.int 4, .ref tnodesA, .int tnodesS]))]) hP hD [0, 1, 2] (by decide) rfl
        refine W.widen (k := 0) (n := 0) (Nat.le_of_ble_eq_true rfl) (Nat.le_of_ble_eq_true rfl) ?_
        exact W.zret (v := 0) hx hb hr rfl (fun t ht hW => ⟨⟨0, (0), rfl, ⟨rfl, (hG.trans hG0.symm), (Or.inl rfl)⟩, by rw [ht]; exact hP9, hD9⟩, hS.F ht⟩) hS.2.2 dX10_isJourney_38
      · have hG := zelse hG c_9
        refine lv_iconst (v := 1) hx hb dX10_isJourney_33 (by decide) ?_
        refine lv_goto (tgt := 38) hx hb dX10_isJourney_34 (by decide) ?_
        obtain ⟨hP9, hD9⟩ := z_sb (L' := [(x0, .inr (10, [.ref w0, .ref z0, .ref xi, .ref xt, .int x_tl, .ref xq, .int x_lc, .ref rdr, .ref h0, .ref t0, .ref q0, .ref v0, .ref m0])), (w0, .inr (9, [.ref tnodes, .ref tpasses, .ref tjars, .ref torders, .ref tfeasts, .ref tway, .int tws, .int tnow, .int tfm, .int tx])), (tnodes, .inr (6, [.int 4, .ref tnodesA, .int tnodesS]))]) hP hD [0, 1, 2] (by decide) rfl
        refine W.widen (k := 0) (n := 0) (Nat.le_of_ble_eq_true rfl) (Nat.le_of_ble_eq_true rfl) ?_
        exact W.zret (v := 1) hx hb hr rfl (fun t ht hW => ⟨⟨1, (1), rfl, ⟨rfl, (hG.trans hG0.symm), (Or.inr rfl)⟩, by rw [ht]; exact hP9, hD9⟩, hS.F ht⟩) hS.2.2 dX10_isJourney_38
set_option maxRecDepth 100000 in
def fX10_writeBytes (x_tl : Int32) (xtF : Nat → Int32) (p0 : Int32) : Int32 × (Nat → Int32) := if 400 ≤ x_tl then (if 400 ≤ x_tl then (if 400 ≤ x_tl then (if 400 ≤ x_tl then ((x_tl, xtF)) else (bnd ((((p0 : Int32).toUInt32 >>> ((0 : Int32).toUInt32 &&& Int32.toUInt32 31)).toInt32)) (fun (x10 : Int32) => bnd ((upd xtF x_tl.toNatClampNeg (x10 &&& 255))) (fun (f11 : Nat → Int32) => bnd ((x_tl + 1)) (fun (x12 : Int32) => (x12, f11)))))) else (bnd ((((p0 : Int32).toUInt32 >>> ((8 : Int32).toUInt32 &&& Int32.toUInt32 31)).toInt32)) (fun (x14 : Int32) => bnd ((upd xtF x_tl.toNatClampNeg (x14 &&& 255))) (fun (f15 : Nat → Int32) => bnd ((x_tl + 1)) (fun (x16 : Int32) => if 400 ≤ x16 then ((x16, f15)) else (bnd ((((p0 : Int32).toUInt32 >>> ((0 : Int32).toUInt32 &&& Int32.toUInt32 31)).toInt32)) (fun (x20 : Int32) => bnd ((upd f15 x16.toNatClampNeg (x20 &&& 255))) (fun (f21 : Nat → Int32) => bnd ((x16 + 1)) (fun (x22 : Int32) => (x22, f21)))))))))) else (bnd ((((p0 : Int32).toUInt32 >>> ((16 : Int32).toUInt32 &&& Int32.toUInt32 31)).toInt32)) (fun (x24 : Int32) => bnd ((upd xtF x_tl.toNatClampNeg (x24 &&& 255))) (fun (f25 : Nat → Int32) => bnd ((x_tl + 1)) (fun (x26 : Int32) => if 400 ≤ x26 then (if 400 ≤ x26 then ((x26, f25)) else (bnd ((((p0 : Int32).toUInt32 >>> ((0 : Int32).toUInt32 &&& Int32.toUInt32 31)).toInt32)) (fun (x32 : Int32) => bnd ((upd f25 x26.toNatClampNeg (x32 &&& 255))) (fun (f33 : Nat → Int32) => bnd ((x26 + 1)) (fun (x34 : Int32) => (x34, f33)))))) else (bnd ((((p0 : Int32).toUInt32 >>> ((8 : Int32).toUInt32 &&& Int32.toUInt32 31)).toInt32)) (fun (x36 : Int32) => bnd ((upd f25 x26.toNatClampNeg (x36 &&& 255))) (fun (f37 : Nat → Int32) => bnd ((x26 + 1)) (fun (x38 : Int32) => if 400 ≤ x38 then ((x38, f37)) else (bnd ((((p0 : Int32).toUInt32 >>> ((0 : Int32).toUInt32 &&& Int32.toUInt32 31)).toInt32)) (fun (x42 : Int32) => bnd ((upd f37 x38.toNatClampNeg (x42 &&& 255))) (fun (f43 : Nat → Int32) => bnd ((x38 + 1)) (fun (x44 : Int32) => (x44, f43)))))))))))))) else (bnd ((((p0 : Int32).toUInt32 >>> ((24 : Int32).toUInt32 &&& Int32.toUInt32 31)).toInt32)) (fun (x46 : Int32) => bnd ((upd xtF x_tl.toNatClampNeg (x46 &&& 255))) (fun (f47 : Nat → Int32) => bnd ((x_tl + 1)) (fun (x48 : Int32) => if 400 ≤ x48 then (if 400 ≤ x48 then (if 400 ≤ x48 then ((x48, f47)) else (bnd ((((p0 : Int32).toUInt32 >>> ((0 : Int32).toUInt32 &&& Int32.toUInt32 31)).toInt32)) (fun (x56 : Int32) => bnd ((upd f47 x48.toNatClampNeg (x56 &&& 255))) (fun (f57 : Nat → Int32) => bnd ((x48 + 1)) (fun (x58 : Int32) => (x58, f57)))))) else (bnd ((((p0 : Int32).toUInt32 >>> ((8 : Int32).toUInt32 &&& Int32.toUInt32 31)).toInt32)) (fun (x60 : Int32) => bnd ((upd f47 x48.toNatClampNeg (x60 &&& 255))) (fun (f61 : Nat → Int32) => bnd ((x48 + 1)) (fun (x62 : Int32) => if 400 ≤ x62 then ((x62, f61)) else (bnd ((((p0 : Int32).toUInt32 >>> ((0 : Int32).toUInt32 &&& Int32.toUInt32 31)).toInt32)) (fun (x66 : Int32) => bnd ((upd f61 x62.toNatClampNeg (x66 &&& 255))) (fun (f67 : Nat → Int32) => bnd ((x62 + 1)) (fun (x68 : Int32) => (x68, f67)))))))))) else (bnd ((((p0 : Int32).toUInt32 >>> ((16 : Int32).toUInt32 &&& Int32.toUInt32 31)).toInt32)) (fun (x70 : Int32) => bnd ((upd f47 x48.toNatClampNeg (x70 &&& 255))) (fun (f71 : Nat → Int32) => bnd ((x48 + 1)) (fun (x72 : Int32) => if 400 ≤ x72 then (if 400 ≤ x72 then ((x72, f71)) else (bnd ((((p0 : Int32).toUInt32 >>> ((0 : Int32).toUInt32 &&& Int32.toUInt32 31)).toInt32)) (fun (x78 : Int32) => bnd ((upd f71 x72.toNatClampNeg (x78 &&& 255))) (fun (f79 : Nat → Int32) => bnd ((x72 + 1)) (fun (x80 : Int32) => (x80, f79)))))) else (bnd ((((p0 : Int32).toUInt32 >>> ((8 : Int32).toUInt32 &&& Int32.toUInt32 31)).toInt32)) (fun (x82 : Int32) => bnd ((upd f71 x72.toNatClampNeg (x82 &&& 255))) (fun (f83 : Nat → Int32) => bnd ((x72 + 1)) (fun (x84 : Int32) => if 400 ≤ x84 then ((x84, f83)) else (bnd ((((p0 : Int32).toUInt32 >>> ((0 : Int32).toUInt32 &&& Int32.toUInt32 31)).toInt32)) (fun (x88 : Int32) => bnd ((upd f83 x84.toNatClampNeg (x88 &&& 255))) (fun (f89 : Nat → Int32) => bnd ((x84 + 1)) (fun (x90 : Int32) => (x90, f89)))))))))))))))))
set_option maxHeartbeats 4000000 in
set_option maxRecDepth 100000 in
theorem mX10_writeBytes (l : Launch) (dC : Nat → ClassId) (dI : Nat → Nat → Nat) (kA : Nat → ClassId) (sz : Nat) (x0 : Nat) (z0 : Nat) (xi : Nat) (xt : Nat) (xq : Nat) (rdr : Nat) (h0 : Nat) (t0 : Nat) (q0 : Nat) (v0 : Nat) (m0 : Nat) (w0 : Nat) (x_tl : Int32) (x_lc : Int32) (xtF : Nat → Int32) (p0 : Int32) (ntl : ¬ x_tl < 0) : Met l yX10_writeBytes wsX10_writeBytes ({ frames := 0, cells := 0, slots := 0, locals := 0 }) (zPc dC dI kA sz [.ref x0, .int p0] [(x0, .inr (10, [.ref w0, .ref z0, .ref xi, .ref xt, .int x_tl, .ref xq, .int x_lc, .ref rdr, .ref h0, .ref t0, .ref q0, .ref v0, .ref m0])), (xt, .inl (kA 0, 400, .inl xtF))]) (va_Qv (fun (u : Int32 × (Nat → Int32)) => (u.1, u.2) = fX10_writeBytes x_tl xtF p0 ∧ ¬ u.1 < 0) (zB dC dI (va_A [(x0, .inr (10, [.ref w0, .ref z0, .ref xi, .ref xt, .int x_tl, .ref xq, .int x_lc, .ref rdr, .ref h0, .ref t0, .ref q0, .ref v0, .ref m0])), (xt, .inl (kA 0, 400, .inl xtF))] sz) (fun (u : Int32 × (Nat → Int32)) => [(x0, .inr (10, [.ref w0, .ref z0, .ref xi, .ref xt, .int u.1, .ref xq, .int x_lc, .ref rdr, .ref h0, .ref t0, .ref q0, .ref v0, .ref m0])), (xt, .inl (kA 0, 400, .inl u.2))])) (va_A [(x0, .inr (10, [.ref w0, .ref z0, .ref xi, .ref xt, .int x_tl, .ref xq, .int x_lc, .ref rdr, .ref h0, .ref t0, .ref q0, .ref v0, .ref m0])), (xt, .inl (kA 0, 400, .inl xtF))] sz)) 0 0 (va_A [(x0, .inr (10, [.ref w0, .ref z0, .ref xi, .ref xt, .int x_tl, .ref xq, .int x_lc, .ref rdr, .ref h0, .ref t0, .ref q0, .ref v0, .ref m0])), (xt, .inl (kA 0, 400, .inl xtF))] sz) := by
  refine Met.ofW (cc := cX10_writeBytes) (maxL := 3) (ret := none) pnX10 rfl ?_
  intro p e s m args below meth c s₁ B hml hv
  obtain ⟨rfl, hsz, hP, hK, hD0⟩ := hv
  have hx := B.exec
  have hb := B.bytes
  have hr := B.returns
  have hts := atoms_spec (ws := wsX10_writeBytes) B.pre
  have hown : s.vm.findClass RX10 = some m.cls := findClass_of_methodNamed B.named
  have hlocks := B.notSynchronized
  subst hsz
  have hD := hD0.self (sz := s.heap.size)
  generalize hAe : va_A [(x0, .inr (10, [.ref w0, .ref z0, .ref xi, .ref xt, .int x_tl, .ref xq, .int x_lc, .ref rdr, .ref h0, .ref t0, .ref q0, .ref v0, .ref m0])), (xt, .inl (kA 0, 400, .inl xtF))] s.heap.size = A at hD ⊢
  have hA : ∀ q : Nat, s.heap.size ≤ q → A q := zA_of hAe
  have hS : va_S A s.heap s.heap [] := va_S.rf
  have hP : va_P (dC, dI) vwCl [(x0, .inr (10, [.ref w0, .ref z0, .ref xi, .ref xt, .int x_tl, .ref xq, .int x_lc, .ref rdr, .ref h0, .ref t0, .ref q0, .ref v0, .ref m0])), (xt, .inl (kA 0, 400, .inl xtF))] s.heap := hP
  have hl := lv_entry ([.ref x0, .int p0]) (n := 3) (Nat.le_of_ble_eq_true rfl)
  rw [lg_entry_eq]
  generalize (lg_sl ([.ref x0, .int p0]) ++ List.replicate (3 - (lg_sl ([.ref x0, .int p0])).length) Slot.unset).toArray = ls at hl ⊢
  have hl : lv_has ls 3 [(0, .ref x0), (1, .int p0)] := hl
  obtain ⟨G, hG0⟩ : ∃ G : Int32 × (Nat → Int32), fX10_writeBytes x_tl xtF p0 = G := ⟨_, rfl⟩
  have hG := hG0
  unfold fX10_writeBytes at hG
  refine lv_bipush (v := 24) hx hb dX10_writeBytes_0 (by decide) ?_
  refine lv_istore_n (lv' := [(2, .int 24), (0, .ref x0), (1, .int p0)]) hx hb dX10_writeBytes_2 rfl hl (by decide) rfl (fun ls hl => ?_)
  refine lv_iload_n hx hb dX10_writeBytes_3 rfl (lv_at hl 0 rfl) ?_
  refine lv_if_lt (tgt := 49) hx hb dX10_writeBytes_4 (by decide) (fun c_1 => absurd c_1 (by decide)) (fun _ => ?_)
  refine lv_aload_n hx hb dX10_writeBytes_7 rfl (lv_at hl 1 rfl) ?_
  refine va_get (D := (dC, dI)) (ci := 10) (v := .int x_tl) (C := RX10) (T := TX10) (N := 13) hx hb hts iX10_writeBytes_X10 hown hK.1 hP 0 gz0 vcz10 4 (by decide) (kX10_writeBytes_1 hts) (fun _ h9 => h9) gz4 dX10_writeBytes_8 ?_
  refine lv_sipush (v := 400) hx hb dX10_writeBytes_11 (by decide) ?_
  refine lv_icmp_ge (tgt := 43) hx hb dX10_writeBytes_14 (by decide) (fun c_2 => ?_) (fun c_2 => ?_)
  · have hG := zthen hG c_2
    refine lv_iinc (v := 16) (lv' := [(2, .int 16), (0, .ref x0), (1, .int p0)]) hx hb dX10_writeBytes_43 hl (k := 0) rfl (by decide) (by decide) rfl (fun ls hl => ?_)
    refine lv_goto (tgt := 3) hx hb dX10_writeBytes_46 (by decide) ?_
    refine lv_iload_n hx hb dX10_writeBytes_3 rfl (lv_at hl 0 rfl) ?_
    refine lv_if_lt (tgt := 49) hx hb dX10_writeBytes_4 (by decide) (fun c_3 => absurd c_3 (by decide)) (fun _ => ?_)
    refine lv_aload_n hx hb dX10_writeBytes_7 rfl (lv_at hl 1 rfl) ?_
    refine va_get (D := (dC, dI)) (ci := 10) (v := .int x_tl) (C := RX10) (T := TX10) (N := 13) hx hb hts iX10_writeBytes_X10 hown hK.1 hP 0 gz0 vcz10 4 (by decide) (kX10_writeBytes_1 hts) (fun _ h9 => h9) gz4 dX10_writeBytes_8 ?_
    refine lv_sipush (v := 400) hx hb dX10_writeBytes_11 (by decide) ?_
    refine lv_icmp_ge (tgt := 43) hx hb dX10_writeBytes_14 (by decide) (fun c_4 => ?_) (fun c_4 => ?_)
    · have hG := zthen hG c_4
      refine lv_iinc (v := 8) (lv' := [(2, .int 8), (0, .ref x0), (1, .int p0)]) hx hb dX10_writeBytes_43 hl (k := 0) rfl (by decide) (by decide) rfl (fun ls hl => ?_)
      refine lv_goto (tgt := 3) hx hb dX10_writeBytes_46 (by decide) ?_
      refine lv_iload_n hx hb dX10_writeBytes_3 rfl (lv_at hl 0 rfl) ?_
      refine lv_if_lt (tgt := 49) hx hb dX10_writeBytes_4 (by decide) (fun c_5 => absurd c_5 (by decide)) (fun _ => ?_)
      refine lv_aload_n hx hb dX10_writeBytes_7 rfl (lv_at hl 1 rfl) ?_
      refine va_get (D := (dC, dI)) (ci := 10) (v := .int x_tl) (C := RX10) (T := TX10) (N := 13) hx hb hts iX10_writeBytes_X10 hown hK.1 hP 0 gz0 vcz10 4 (by decide) (kX10_writeBytes_1 hts) (fun _ h9 => h9) gz4 dX10_writeBytes_8 ?_
      refine lv_sipush (v := 400) hx hb dX10_writeBytes_11 (by decide) ?_
      refine lv_icmp_ge (tgt := 43) hx hb dX10_writeBytes_14 (by decide) (fun c_6 => ?_) (fun c_6 => ?_)
      · have hG := zthen hG c_6
        refine lv_iinc (v := 0) (lv' := [(2, .int 0), (0, .ref x0), (1, .int p0)]) hx hb dX10_writeBytes_43 hl (k := 0) rfl (by decide) (by decide) rfl (fun ls hl => ?_)
        refine lv_goto (tgt := 3) hx hb dX10_writeBytes_46 (by decide) ?_
        refine lv_iload_n hx hb dX10_writeBytes_3 rfl (lv_at hl 0 rfl) ?_
        refine lv_if_lt (tgt := 49) hx hb dX10_writeBytes_4 (by decide) (fun c_7 => absurd c_7 (by decide)) (fun _ => ?_)
        refine lv_aload_n hx hb dX10_writeBytes_7 rfl (lv_at hl 1 rfl) ?_
        refine va_get (D := (dC, dI)) (ci := 10) (v := .int x_tl) (C := RX10) (T := TX10) (N := 13) hx hb hts iX10_writeBytes_X10 hown hK.1 hP 0 gz0 vcz10 4 (by decide) (kX10_writeBytes_1 hts) (fun _ h9 => h9) gz4 dX10_writeBytes_8 ?_
        refine lv_sipush (v := 400) hx hb dX10_writeBytes_11 (by decide) ?_
        refine lv_icmp_ge (tgt := 43) hx hb dX10_writeBytes_14 (by decide) (fun c_8 => ?_) (fun c_8 => ?_)
        · have hG := zthen hG c_8
          refine lv_iinc (v := (-8)) (lv' := [(2, .int (-8)), (0, .ref x0), (1, .int p0)]) hx hb dX10_writeBytes_43 hl (k := 0) rfl (by decide) (by decide) rfl (fun ls hl => ?_)
          refine lv_goto (tgt := 3) hx hb dX10_writeBytes_46 (by decide) ?_
          refine lv_iload_n hx hb dX10_writeBytes_3 rfl (lv_at hl 0 rfl) ?_
          refine lv_if_lt (tgt := 49) hx hb dX10_writeBytes_4 (by decide) (fun _ => ?_) (fun c_9 => absurd (by decide) c_9)
          obtain ⟨hP9, hD9⟩ := z_sb (L' := [(x0, .inr (10, [.ref w0, .ref z0, .ref xi, .ref xt, .int x_tl, .ref xq, .int x_lc, .ref rdr, .ref h0, .ref t0, .ref q0, .ref v0, .ref m0])), (xt, .inl (kA 0, 400, .inl xtF))]) hP hD [0, 1] (by decide) rfl
          refine W.widen (k := 0) (n := 0) (Nat.le_of_ble_eq_true rfl) (Nat.le_of_ble_eq_true rfl) ?_
          exact W.vret hx hb hr (fun t ht hW => ⟨⟨(x_tl, xtF), rfl, ⟨(hG.trans hG0.symm), ntl⟩, by rw [ht]; exact hP9, hD9⟩, hS.F ht⟩) hS.2.2 dX10_writeBytes_49
        · have hG := zelse hG c_8
          refine lv_aload_n hx hb dX10_writeBytes_17 rfl (lv_at hl 1 rfl) ?_
          refine va_get (D := (dC, dI)) (ci := 10) (v := .ref xt) (C := RX10) (T := TX10) (N := 13) hx hb hts iX10_writeBytes_X10 hown hK.1 hP 0 gz0 vcz10 3 (by decide) (kX10_writeBytes_2 hts) (fun _ h9 => h9) gz3 dX10_writeBytes_18 ?_
          refine lv_aload_n hx hb dX10_writeBytes_21 rfl (lv_at hl 1 rfl) ?_
          refine va_get (D := (dC, dI)) (ci := 10) (v := .int x_tl) (C := RX10) (T := TX10) (N := 13) hx hb hts iX10_writeBytes_X10 hown hK.1 hP 0 gz0 vcz10 4 (by decide) (kX10_writeBytes_1 hts) (fun _ h9 => h9) gz4 dX10_writeBytes_22 ?_
          refine lv_iload_n hx hb dX10_writeBytes_25 rfl (lv_at hl 2 rfl) ?_
          refine lv_iload_n hx hb dX10_writeBytes_26 rfl (lv_at hl 0 rfl) ?_
          refine lv_iushr hx hb dX10_writeBytes_27 rfl ?_
          refine lv_topi (fun x10 ex10 => ?_)
          have hG := zbnd hG ex10
          refine lv_sipush (v := 255) hx hb dX10_writeBytes_28 (by decide) ?_
          refine lv_iand hx hb dX10_writeBytes_31 ?_
          refine va_iast hx hb hK.1 hP hD hS 1 0 gz1 tzz0 (vp_lt (by decide) ntl c_8) dX10_writeBytes_32 (fun H locs hP hD hS => ?_)
          obtain ⟨hP, hD⟩ := z_re (L := [(x0, .inr (10, [.ref w0, .ref z0, .ref xi, .ref xt, .int x_tl, .ref xq, .int x_lc, .ref rdr, .ref h0, .ref t0, .ref q0, .ref v0, .ref m0])), (xt, .inl (kA 0, 400, .inl (upd xtF x_tl.toNatClampNeg (x10 &&& 255))))]) hP hD
          obtain ⟨f11, ef11⟩ : ∃ y : Nat → Int32, y = (upd xtF x_tl.toNatClampNeg (x10 &&& 255)) := ⟨_, rfl⟩
          rw [← ef11] at hP hD
          have hG := zbnd hG ef11
          refine lv_aload_n hx hb dX10_writeBytes_33 rfl (lv_at hl 1 rfl) ?_
          refine lv_dup hx hb dX10_writeBytes_34 rfl ?_
          refine va_get (D := (dC, dI)) (ci := 10) (v := .int x_tl) (C := RX10) (T := TX10) (N := 13) hx hb hts iX10_writeBytes_X10 hown hK.1 hP 0 gz0 vcz10 4 (by decide) (kX10_writeBytes_1 hts) (fun _ h9 => h9) gz4 dX10_writeBytes_35 ?_
          refine lv_iconst (v := 1) hx hb dX10_writeBytes_38 (by decide) ?_
          refine lv_iadd hx hb dX10_writeBytes_39 ?_
          refine lv_topi (fun x12 ex12 => ?_)
          have hG := zbnd hG ex12
          refine va_put (D := (dC, dI)) (ci := 10) (v := .int x12) (ty := .int) (C := RX10) (T := TX10) (N := 13) hx hb hts iX10_writeBytes_X10 tyX10 tyX10_ok nmX10 hown hK.1 hP hD hS 0 gz0 vcz10 4 (by decide) (kX10_writeBytes_1 hts) (fun _ h9 => h9) rfl pfdI rfl rfl (Nat.le_of_ble_eq_true rfl) dX10_writeBytes_40 (fun H locs hP hD hS => ?_)
          obtain ⟨hP, hD⟩ := z_re (L := [(x0, .inr (10, [.ref w0, .ref z0, .ref xi, .ref xt, .int x12, .ref xq, .int x_lc, .ref rdr, .ref h0, .ref t0, .ref q0, .ref v0, .ref m0])), (xt, .inl (kA 0, 400, .inl f11))]) hP hD
          refine lv_iinc (v := (-8)) (lv' := [(2, .int (-8)), (0, .ref x0), (1, .int p0)]) hx hb dX10_writeBytes_43 hl (k := 0) rfl (by decide) (by decide) rfl (fun ls hl => ?_)
          refine lv_goto (tgt := 3) hx hb dX10_writeBytes_46 (by decide) ?_
          refine lv_iload_n hx hb dX10_writeBytes_3 rfl (lv_at hl 0 rfl) ?_
          refine lv_if_lt (tgt := 49) hx hb dX10_writeBytes_4 (by decide) (fun _ => ?_) (fun c_13 => absurd (by decide) c_13)
          obtain ⟨hP9, hD9⟩ := z_sb (L' := [(x0, .inr (10, [.ref w0, .ref z0, .ref xi, .ref xt, .int x12, .ref xq, .int x_lc, .ref rdr, .ref h0, .ref t0, .ref q0, .ref v0, .ref m0])), (xt, .inl (kA 0, 400, .inl f11))]) hP hD [0, 1] (by decide) rfl
          refine W.widen (k := 0) (n := 0) (Nat.le_of_ble_eq_true rfl) (Nat.le_of_ble_eq_true rfl) ?_
          exact W.vret hx hb hr (fun t ht hW => ⟨⟨(x12, f11), rfl, ⟨(hG.trans hG0.symm), (z_nn ex12 c_8 ntl)⟩, by rw [ht]; exact hP9, hD9⟩, hS.F ht⟩) hS.2.2 dX10_writeBytes_49
      · have hG := zelse hG c_6
        refine lv_aload_n hx hb dX10_writeBytes_17 rfl (lv_at hl 1 rfl) ?_
        refine va_get (D := (dC, dI)) (ci := 10) (v := .ref xt) (C := RX10) (T := TX10) (N := 13) hx hb hts iX10_writeBytes_X10 hown hK.1 hP 0 gz0 vcz10 3 (by decide) (kX10_writeBytes_2 hts) (fun _ h9 => h9) gz3 dX10_writeBytes_18 ?_
        refine lv_aload_n hx hb dX10_writeBytes_21 rfl (lv_at hl 1 rfl) ?_
        refine va_get (D := (dC, dI)) (ci := 10) (v := .int x_tl) (C := RX10) (T := TX10) (N := 13) hx hb hts iX10_writeBytes_X10 hown hK.1 hP 0 gz0 vcz10 4 (by decide) (kX10_writeBytes_1 hts) (fun _ h9 => h9) gz4 dX10_writeBytes_22 ?_
        refine lv_iload_n hx hb dX10_writeBytes_25 rfl (lv_at hl 2 rfl) ?_
        refine lv_iload_n hx hb dX10_writeBytes_26 rfl (lv_at hl 0 rfl) ?_
        refine lv_iushr hx hb dX10_writeBytes_27 rfl ?_
        refine lv_topi (fun x14 ex14 => ?_)
        have hG := zbnd hG ex14
        refine lv_sipush (v := 255) hx hb dX10_writeBytes_28 (by decide) ?_
        refine lv_iand hx hb dX10_writeBytes_31 ?_
        refine va_iast hx hb hK.1 hP hD hS 1 0 gz1 tzz0 (vp_lt (by decide) ntl c_6) dX10_writeBytes_32 (fun H locs hP hD hS => ?_)
        obtain ⟨hP, hD⟩ := z_re (L := [(x0, .inr (10, [.ref w0, .ref z0, .ref xi, .ref xt, .int x_tl, .ref xq, .int x_lc, .ref rdr, .ref h0, .ref t0, .ref q0, .ref v0, .ref m0])), (xt, .inl (kA 0, 400, .inl (upd xtF x_tl.toNatClampNeg (x14 &&& 255))))]) hP hD
        obtain ⟨f15, ef15⟩ : ∃ y : Nat → Int32, y = (upd xtF x_tl.toNatClampNeg (x14 &&& 255)) := ⟨_, rfl⟩
        rw [← ef15] at hP hD
        have hG := zbnd hG ef15
        refine lv_aload_n hx hb dX10_writeBytes_33 rfl (lv_at hl 1 rfl) ?_
        refine lv_dup hx hb dX10_writeBytes_34 rfl ?_
        refine va_get (D := (dC, dI)) (ci := 10) (v := .int x_tl) (C := RX10) (T := TX10) (N := 13) hx hb hts iX10_writeBytes_X10 hown hK.1 hP 0 gz0 vcz10 4 (by decide) (kX10_writeBytes_1 hts) (fun _ h9 => h9) gz4 dX10_writeBytes_35 ?_
        refine lv_iconst (v := 1) hx hb dX10_writeBytes_38 (by decide) ?_
        refine lv_iadd hx hb dX10_writeBytes_39 ?_
        refine lv_topi (fun x16 ex16 => ?_)
        have hG := zbnd hG ex16
        refine va_put (D := (dC, dI)) (ci := 10) (v := .int x16) (ty := .int) (C := RX10) (T := TX10) (N := 13) hx hb hts iX10_writeBytes_X10 tyX10 tyX10_ok nmX10 hown hK.1 hP hD hS 0 gz0 vcz10 4 (by decide) (kX10_writeBytes_1 hts) (fun _ h9 => h9) rfl pfdI rfl rfl (Nat.le_of_ble_eq_true rfl) dX10_writeBytes_40 (fun H locs hP hD hS => ?_)
        obtain ⟨hP, hD⟩ := z_re (L := [(x0, .inr (10, [.ref w0, .ref z0, .ref xi, .ref xt, .int x16, .ref xq, .int x_lc, .ref rdr, .ref h0, .ref t0, .ref q0, .ref v0, .ref m0])), (xt, .inl (kA 0, 400, .inl f15))]) hP hD
        refine lv_iinc (v := 0) (lv' := [(2, .int 0), (0, .ref x0), (1, .int p0)]) hx hb dX10_writeBytes_43 hl (k := 0) rfl (by decide) (by decide) rfl (fun ls hl => ?_)
        refine lv_goto (tgt := 3) hx hb dX10_writeBytes_46 (by decide) ?_
        refine lv_iload_n hx hb dX10_writeBytes_3 rfl (lv_at hl 0 rfl) ?_
        refine lv_if_lt (tgt := 49) hx hb dX10_writeBytes_4 (by decide) (fun c_17 => absurd c_17 (by decide)) (fun _ => ?_)
        refine lv_aload_n hx hb dX10_writeBytes_7 rfl (lv_at hl 1 rfl) ?_
        refine va_get (D := (dC, dI)) (ci := 10) (v := .int x16) (C := RX10) (T := TX10) (N := 13) hx hb hts iX10_writeBytes_X10 hown hK.1 hP 0 gz0 vcz10 4 (by decide) (kX10_writeBytes_1 hts) (fun _ h9 => h9) gz4 dX10_writeBytes_8 ?_
        refine lv_sipush (v := 400) hx hb dX10_writeBytes_11 (by decide) ?_
        refine lv_icmp_ge (tgt := 43) hx hb dX10_writeBytes_14 (by decide) (fun c_18 => ?_) (fun c_18 => ?_)
        · have hG := zthen hG c_18
          refine lv_iinc (v := (-8)) (lv' := [(2, .int (-8)), (0, .ref x0), (1, .int p0)]) hx hb dX10_writeBytes_43 hl (k := 0) rfl (by decide) (by decide) rfl (fun ls hl => ?_)
          refine lv_goto (tgt := 3) hx hb dX10_writeBytes_46 (by decide) ?_
          refine lv_iload_n hx hb dX10_writeBytes_3 rfl (lv_at hl 0 rfl) ?_
          refine lv_if_lt (tgt := 49) hx hb dX10_writeBytes_4 (by decide) (fun _ => ?_) (fun c_19 => absurd (by decide) c_19)
          obtain ⟨hP9, hD9⟩ := z_sb (L' := [(x0, .inr (10, [.ref w0, .ref z0, .ref xi, .ref xt, .int x16, .ref xq, .int x_lc, .ref rdr, .ref h0, .ref t0, .ref q0, .ref v0, .ref m0])), (xt, .inl (kA 0, 400, .inl f15))]) hP hD [0, 1] (by decide) rfl
          refine W.widen (k := 0) (n := 0) (Nat.le_of_ble_eq_true rfl) (Nat.le_of_ble_eq_true rfl) ?_
          exact W.vret hx hb hr (fun t ht hW => ⟨⟨(x16, f15), rfl, ⟨(hG.trans hG0.symm), (z_nn ex16 c_6 ntl)⟩, by rw [ht]; exact hP9, hD9⟩, hS.F ht⟩) hS.2.2 dX10_writeBytes_49
        · have hG := zelse hG c_18
          refine lv_aload_n hx hb dX10_writeBytes_17 rfl (lv_at hl 1 rfl) ?_
          refine va_get (D := (dC, dI)) (ci := 10) (v := .ref xt) (C := RX10) (T := TX10) (N := 13) hx hb hts iX10_writeBytes_X10 hown hK.1 hP 0 gz0 vcz10 3 (by decide) (kX10_writeBytes_2 hts) (fun _ h9 => h9) gz3 dX10_writeBytes_18 ?_
          refine lv_aload_n hx hb dX10_writeBytes_21 rfl (lv_at hl 1 rfl) ?_
          refine va_get (D := (dC, dI)) (ci := 10) (v := .int x16) (C := RX10) (T := TX10) (N := 13) hx hb hts iX10_writeBytes_X10 hown hK.1 hP 0 gz0 vcz10 4 (by decide) (kX10_writeBytes_1 hts) (fun _ h9 => h9) gz4 dX10_writeBytes_22 ?_
          refine lv_iload_n hx hb dX10_writeBytes_25 rfl (lv_at hl 2 rfl) ?_
          refine lv_iload_n hx hb dX10_writeBytes_26 rfl (lv_at hl 0 rfl) ?_
          refine lv_iushr hx hb dX10_writeBytes_27 rfl ?_
          refine lv_topi (fun x20 ex20 => ?_)
          have hG := zbnd hG ex20
          refine lv_sipush (v := 255) hx hb dX10_writeBytes_28 (by decide) ?_
          refine lv_iand hx hb dX10_writeBytes_31 ?_
          refine va_iast hx hb hK.1 hP hD hS 1 0 gz1 tzz0 (vp_lt (by decide) (z_nn ex16 c_6 ntl) c_18) dX10_writeBytes_32 (fun H locs hP hD hS => ?_)
          obtain ⟨hP, hD⟩ := z_re (L := [(x0, .inr (10, [.ref w0, .ref z0, .ref xi, .ref xt, .int x16, .ref xq, .int x_lc, .ref rdr, .ref h0, .ref t0, .ref q0, .ref v0, .ref m0])), (xt, .inl (kA 0, 400, .inl (upd f15 x16.toNatClampNeg (x20 &&& 255))))]) hP hD
          obtain ⟨f21, ef21⟩ : ∃ y : Nat → Int32, y = (upd f15 x16.toNatClampNeg (x20 &&& 255)) := ⟨_, rfl⟩
          rw [← ef21] at hP hD
          have hG := zbnd hG ef21
          refine lv_aload_n hx hb dX10_writeBytes_33 rfl (lv_at hl 1 rfl) ?_
          refine lv_dup hx hb dX10_writeBytes_34 rfl ?_
          refine va_get (D := (dC, dI)) (ci := 10) (v := .int x16) (C := RX10) (T := TX10) (N := 13) hx hb hts iX10_writeBytes_X10 hown hK.1 hP 0 gz0 vcz10 4 (by decide) (kX10_writeBytes_1 hts) (fun _ h9 => h9) gz4 dX10_writeBytes_35 ?_
          refine lv_iconst (v := 1) hx hb dX10_writeBytes_38 (by decide) ?_
          refine lv_iadd hx hb dX10_writeBytes_39 ?_
          refine lv_topi (fun x22 ex22 => ?_)
          have hG := zbnd hG ex22
          refine va_put (D := (dC, dI)) (ci := 10) (v := .int x22) (ty := .int) (C := RX10) (T := TX10) (N := 13) hx hb hts iX10_writeBytes_X10 tyX10 tyX10_ok nmX10 hown hK.1 hP hD hS 0 gz0 vcz10 4 (by decide) (kX10_writeBytes_1 hts) (fun _ h9 => h9) rfl pfdI rfl rfl (Nat.le_of_ble_eq_true rfl) dX10_writeBytes_40 (fun H locs hP hD hS => ?_)
          obtain ⟨hP, hD⟩ := z_re (L := [(x0, .inr (10, [.ref w0, .ref z0, .ref xi, .ref xt, .int x22, .ref xq, .int x_lc, .ref rdr, .ref h0, .ref t0, .ref q0, .ref v0, .ref m0])), (xt, .inl (kA 0, 400, .inl f21))]) hP hD
          refine lv_iinc (v := (-8)) (lv' := [(2, .int (-8)), (0, .ref x0), (1, .int p0)]) hx hb dX10_writeBytes_43 hl (k := 0) rfl (by decide) (by decide) rfl (fun ls hl => ?_)
          refine lv_goto (tgt := 3) hx hb dX10_writeBytes_46 (by decide) ?_
          refine lv_iload_n hx hb dX10_writeBytes_3 rfl (lv_at hl 0 rfl) ?_
          refine lv_if_lt (tgt := 49) hx hb dX10_writeBytes_4 (by decide) (fun _ => ?_) (fun c_23 => absurd (by decide) c_23)
          obtain ⟨hP9, hD9⟩ := z_sb (L' := [(x0, .inr (10, [.ref w0, .ref z0, .ref xi, .ref xt, .int x22, .ref xq, .int x_lc, .ref rdr, .ref h0, .ref t0, .ref q0, .ref v0, .ref m0])), (xt, .inl (kA 0, 400, .inl f21))]) hP hD [0, 1] (by decide) rfl
          refine W.widen (k := 0) (n := 0) (Nat.le_of_ble_eq_true rfl) (Nat.le_of_ble_eq_true rfl) ?_
          exact W.vret hx hb hr (fun t ht hW => ⟨⟨(x22, f21), rfl, ⟨(hG.trans hG0.symm), (z_nn ex22 c_18 (z_nn ex16 c_6 ntl))⟩, by rw [ht]; exact hP9, hD9⟩, hS.F ht⟩) hS.2.2 dX10_writeBytes_49
    · have hG := zelse hG c_4
      refine lv_aload_n hx hb dX10_writeBytes_17 rfl (lv_at hl 1 rfl) ?_
      refine va_get (D := (dC, dI)) (ci := 10) (v := .ref xt) (C := RX10) (T := TX10) (N := 13) hx hb hts iX10_writeBytes_X10 hown hK.1 hP 0 gz0 vcz10 3 (by decide) (kX10_writeBytes_2 hts) (fun _ h9 => h9) gz3 dX10_writeBytes_18 ?_
      refine lv_aload_n hx hb dX10_writeBytes_21 rfl (lv_at hl 1 rfl) ?_
      refine va_get (D := (dC, dI)) (ci := 10) (v := .int x_tl) (C := RX10) (T := TX10) (N := 13) hx hb hts iX10_writeBytes_X10 hown hK.1 hP 0 gz0 vcz10 4 (by decide) (kX10_writeBytes_1 hts) (fun _ h9 => h9) gz4 dX10_writeBytes_22 ?_
      refine lv_iload_n hx hb dX10_writeBytes_25 rfl (lv_at hl 2 rfl) ?_
      refine lv_iload_n hx hb dX10_writeBytes_26 rfl (lv_at hl 0 rfl) ?_
      refine lv_iushr hx hb dX10_writeBytes_27 rfl ?_
      refine lv_topi (fun x24 ex24 => ?_)
      have hG := zbnd hG ex24
      refine lv_sipush (v := 255) hx hb dX10_writeBytes_28 (by decide) ?_
      refine lv_iand hx hb dX10_writeBytes_31 ?_
      refine va_iast hx hb hK.1 hP hD hS 1 0 gz1 tzz0 (vp_lt (by decide) ntl c_4) dX10_writeBytes_32 (fun H locs hP hD hS => ?_)
      obtain ⟨hP, hD⟩ := z_re (L := [(x0, .inr (10, [.ref w0, .ref z0, .ref xi, .ref xt, .int x_tl, .ref xq, .int x_lc, .ref rdr, .ref h0, .ref t0, .ref q0, .ref v0, .ref m0])), (xt, .inl (kA 0, 400, .inl (upd xtF x_tl.toNatClampNeg (x24 &&& 255))))]) hP hD
      obtain ⟨f25, ef25⟩ : ∃ y : Nat → Int32, y = (upd xtF x_tl.toNatClampNeg (x24 &&& 255)) := ⟨_, rfl⟩
      rw [← ef25] at hP hD
      have hG := zbnd hG ef25
      refine lv_aload_n hx hb dX10_writeBytes_33 rfl (lv_at hl 1 rfl) ?_
      refine lv_dup hx hb dX10_writeBytes_34 rfl ?_
      refine va_get (D := (dC, dI)) (ci := 10) (v := .int x_tl) (C := RX10) (T := TX10) (N := 13) hx hb hts iX10_writeBytes_X10 hown hK.1 hP 0 gz0 vcz10 4 (by decide) (kX10_writeBytes_1 hts) (fun _ h9 => h9) gz4 dX10_writeBytes_35 ?_
      refine lv_iconst (v := 1) hx hb dX10_writeBytes_38 (by decide) ?_
      refine lv_iadd hx hb dX10_writeBytes_39 ?_
      refine lv_topi (fun x26 ex26 => ?_)
      have hG := zbnd hG ex26
      refine va_put (D := (dC, dI)) (ci := 10) (v := .int x26) (ty := .int) (C := RX10) (T := TX10) (N := 13) hx hb hts iX10_writeBytes_X10 tyX10 tyX10_ok nmX10 hown hK.1 hP hD hS 0 gz0 vcz10 4 (by decide) (kX10_writeBytes_1 hts) (fun _ h9 => h9) rfl pfdI rfl rfl (Nat.le_of_ble_eq_true rfl) dX10_writeBytes_40 (fun H locs hP hD hS => ?_)
      obtain ⟨hP, hD⟩ := z_re (L := [(x0, .inr (10, [.ref w0, .ref z0, .ref xi, .ref xt, .int x26, .ref xq, .int x_lc, .ref rdr, .ref h0, .ref t0, .ref q0, .ref v0, .ref m0])), (xt, .inl (kA 0, 400, .inl f25))]) hP hD
      refine lv_iinc (v := 8) (lv' := [(2, .int 8), (0, .ref x0), (1, .int p0)]) hx hb dX10_writeBytes_43 hl (k := 0) rfl (by decide) (by decide) rfl (fun ls hl => ?_)
      refine lv_goto (tgt := 3) hx hb dX10_writeBytes_46 (by decide) ?_
      refine lv_iload_n hx hb dX10_writeBytes_3 rfl (lv_at hl 0 rfl) ?_
      refine lv_if_lt (tgt := 49) hx hb dX10_writeBytes_4 (by decide) (fun c_27 => absurd c_27 (by decide)) (fun _ => ?_)
      refine lv_aload_n hx hb dX10_writeBytes_7 rfl (lv_at hl 1 rfl) ?_
      refine va_get (D := (dC, dI)) (ci := 10) (v := .int x26) (C := RX10) (T := TX10) (N := 13) hx hb hts iX10_writeBytes_X10 hown hK.1 hP 0 gz0 vcz10 4 (by decide) (kX10_writeBytes_1 hts) (fun _ h9 => h9) gz4 dX10_writeBytes_8 ?_
      refine lv_sipush (v := 400) hx hb dX10_writeBytes_11 (by decide) ?_
      refine lv_icmp_ge (tgt := 43) hx hb dX10_writeBytes_14 (by decide) (fun c_28 => ?_) (fun c_28 => ?_)
      · have hG := zthen hG c_28
        refine lv_iinc (v := 0) (lv' := [(2, .int 0), (0, .ref x0), (1, .int p0)]) hx hb dX10_writeBytes_43 hl (k := 0) rfl (by decide) (by decide) rfl (fun ls hl => ?_)
        refine lv_goto (tgt := 3) hx hb dX10_writeBytes_46 (by decide) ?_
        refine lv_iload_n hx hb dX10_writeBytes_3 rfl (lv_at hl 0 rfl) ?_
        refine lv_if_lt (tgt := 49) hx hb dX10_writeBytes_4 (by decide) (fun c_29 => absurd c_29 (by decide)) (fun _ => ?_)
        refine lv_aload_n hx hb dX10_writeBytes_7 rfl (lv_at hl 1 rfl) ?_
        refine va_get (D := (dC, dI)) (ci := 10) (v := .int x26) (C := RX10) (T := TX10) (N := 13) hx hb hts iX10_writeBytes_X10 hown hK.1 hP 0 gz0 vcz10 4 (by decide) (kX10_writeBytes_1 hts) (fun _ h9 => h9) gz4 dX10_writeBytes_8 ?_
        refine lv_sipush (v := 400) hx hb dX10_writeBytes_11 (by decide) ?_
        refine lv_icmp_ge (tgt := 43) hx hb dX10_writeBytes_14 (by decide) (fun c_30 => ?_) (fun c_30 => ?_)
        · have hG := zthen hG c_30
          refine lv_iinc (v := (-8)) (lv' := [(2, .int (-8)), (0, .ref x0), (1, .int p0)]) hx hb dX10_writeBytes_43 hl (k := 0) rfl (by decide) (by decide) rfl (fun ls hl => ?_)
          refine lv_goto (tgt := 3) hx hb dX10_writeBytes_46 (by decide) ?_
          refine lv_iload_n hx hb dX10_writeBytes_3 rfl (lv_at hl 0 rfl) ?_
          refine lv_if_lt (tgt := 49) hx hb dX10_writeBytes_4 (by decide) (fun _ => ?_) (fun c_31 => absurd (by decide) c_31)
          obtain ⟨hP9, hD9⟩ := z_sb (L' := [(x0, .inr (10, [.ref w0, .ref z0, .ref xi, .ref xt, .int x26, .ref xq, .int x_lc, .ref rdr, .ref h0, .ref t0, .ref q0, .ref v0, .ref m0])), (xt, .inl (kA 0, 400, .inl f25))]) hP hD [0, 1] (by decide) rfl
          refine W.widen (k := 0) (n := 0) (Nat.le_of_ble_eq_true rfl) (Nat.le_of_ble_eq_true rfl) ?_
          exact W.vret hx hb hr (fun t ht hW => ⟨⟨(x26, f25), rfl, ⟨(hG.trans hG0.symm), (z_nn ex26 c_4 ntl)⟩, by rw [ht]; exact hP9, hD9⟩, hS.F ht⟩) hS.2.2 dX10_writeBytes_49
        · have hG := zelse hG c_30
          refine lv_aload_n hx hb dX10_writeBytes_17 rfl (lv_at hl 1 rfl) ?_
          refine va_get (D := (dC, dI)) (ci := 10) (v := .ref xt) (C := RX10) (T := TX10) (N := 13) hx hb hts iX10_writeBytes_X10 hown hK.1 hP 0 gz0 vcz10 3 (by decide) (kX10_writeBytes_2 hts) (fun _ h9 => h9) gz3 dX10_writeBytes_18 ?_
          refine lv_aload_n hx hb dX10_writeBytes_21 rfl (lv_at hl 1 rfl) ?_
          refine va_get (D := (dC, dI)) (ci := 10) (v := .int x26) (C := RX10) (T := TX10) (N := 13) hx hb hts iX10_writeBytes_X10 hown hK.1 hP 0 gz0 vcz10 4 (by decide) (kX10_writeBytes_1 hts) (fun _ h9 => h9) gz4 dX10_writeBytes_22 ?_
          refine lv_iload_n hx hb dX10_writeBytes_25 rfl (lv_at hl 2 rfl) ?_
          refine lv_iload_n hx hb dX10_writeBytes_26 rfl (lv_at hl 0 rfl) ?_
          refine lv_iushr hx hb dX10_writeBytes_27 rfl ?_
          refine lv_topi (fun x32 ex32 => ?_)
          have hG := zbnd hG ex32
          refine lv_sipush (v := 255) hx hb dX10_writeBytes_28 (by decide) ?_
          refine lv_iand hx hb dX10_writeBytes_31 ?_
          refine va_iast hx hb hK.1 hP hD hS 1 0 gz1 tzz0 (vp_lt (by decide) (z_nn ex26 c_4 ntl) c_30) dX10_writeBytes_32 (fun H locs hP hD hS => ?_)
          obtain ⟨hP, hD⟩ := z_re (L := [(x0, .inr (10, [.ref w0, .ref z0, .ref xi, .ref xt, .int x26, .ref xq, .int x_lc, .ref rdr, .ref h0, .ref t0, .ref q0, .ref v0, .ref m0])), (xt, .inl (kA 0, 400, .inl (upd f25 x26.toNatClampNeg (x32 &&& 255))))]) hP hD
          obtain ⟨f33, ef33⟩ : ∃ y : Nat → Int32, y = (upd f25 x26.toNatClampNeg (x32 &&& 255)) := ⟨_, rfl⟩
          rw [← ef33] at hP hD
          have hG := zbnd hG ef33
          refine lv_aload_n hx hb dX10_writeBytes_33 rfl (lv_at hl 1 rfl) ?_
          refine lv_dup hx hb dX10_writeBytes_34 rfl ?_
          refine va_get (D := (dC, dI)) (ci := 10) (v := .int x26) (C := RX10) (T := TX10) (N := 13) hx hb hts iX10_writeBytes_X10 hown hK.1 hP 0 gz0 vcz10 4 (by decide) (kX10_writeBytes_1 hts) (fun _ h9 => h9) gz4 dX10_writeBytes_35 ?_
          refine lv_iconst (v := 1) hx hb dX10_writeBytes_38 (by decide) ?_
          refine lv_iadd hx hb dX10_writeBytes_39 ?_
          refine lv_topi (fun x34 ex34 => ?_)
          have hG := zbnd hG ex34
          refine va_put (D := (dC, dI)) (ci := 10) (v := .int x34) (ty := .int) (C := RX10) (T := TX10) (N := 13) hx hb hts iX10_writeBytes_X10 tyX10 tyX10_ok nmX10 hown hK.1 hP hD hS 0 gz0 vcz10 4 (by decide) (kX10_writeBytes_1 hts) (fun _ h9 => h9) rfl pfdI rfl rfl (Nat.le_of_ble_eq_true rfl) dX10_writeBytes_40 (fun H locs hP hD hS => ?_)
          obtain ⟨hP, hD⟩ := z_re (L := [(x0, .inr (10, [.ref w0, .ref z0, .ref xi, .ref xt, .int x34, .ref xq, .int x_lc, .ref rdr, .ref h0, .ref t0, .ref q0, .ref v0, .ref m0])), (xt, .inl (kA 0, 400, .inl f33))]) hP hD
          refine lv_iinc (v := (-8)) (lv' := [(2, .int (-8)), (0, .ref x0), (1, .int p0)]) hx hb dX10_writeBytes_43 hl (k := 0) rfl (by decide) (by decide) rfl (fun ls hl => ?_)
          refine lv_goto (tgt := 3) hx hb dX10_writeBytes_46 (by decide) ?_
          refine lv_iload_n hx hb dX10_writeBytes_3 rfl (lv_at hl 0 rfl) ?_
          refine lv_if_lt (tgt := 49) hx hb dX10_writeBytes_4 (by decide) (fun _ => ?_) (fun c_35 => absurd (by decide) c_35)
          obtain ⟨hP9, hD9⟩ := z_sb (L' := [(x0, .inr (10, [.ref w0, .ref z0, .ref xi, .ref xt, .int x34, .ref xq, .int x_lc, .ref rdr, .ref h0, .ref t0, .ref q0, .ref v0, .ref m0])), (xt, .inl (kA 0, 400, .inl f33))]) hP hD [0, 1] (by decide) rfl
          refine W.widen (k := 0) (n := 0) (Nat.le_of_ble_eq_true rfl) (Nat.le_of_ble_eq_true rfl) ?_
          exact W.vret hx hb hr (fun t ht hW => ⟨⟨(x34, f33), rfl, ⟨(hG.trans hG0.symm), (z_nn ex34 c_30 (z_nn ex26 c_4 ntl))⟩, by rw [ht]; exact hP9, hD9⟩, hS.F ht⟩) hS.2.2 dX10_writeBytes_49
      · have hG := zelse hG c_28
        refine lv_aload_n hx hb dX10_writeBytes_17 rfl (lv_at hl 1 rfl) ?_
        refine va_get (D := (dC, dI)) (ci := 10) (v := .ref xt) (C := RX10) (T := TX10) (N := 13) hx hb hts iX10_writeBytes_X10 hown hK.1 hP 0 gz0 vcz10 3 (by decide) (kX10_writeBytes_2 hts) (fun _ h9 => h9) gz3 dX10_writeBytes_18 ?_
        refine lv_aload_n hx hb dX10_writeBytes_21 rfl (lv_at hl 1 rfl) ?_
        refine va_get (D := (dC, dI)) (ci := 10) (v := .int x26) (C := RX10) (T := TX10) (N := 13) hx hb hts iX10_writeBytes_X10 hown hK.1 hP 0 gz0 vcz10 4 (by decide) (kX10_writeBytes_1 hts) (fun _ h9 => h9) gz4 dX10_writeBytes_22 ?_
        refine lv_iload_n hx hb dX10_writeBytes_25 rfl (lv_at hl 2 rfl) ?_
        refine lv_iload_n hx hb dX10_writeBytes_26 rfl (lv_at hl 0 rfl) ?_
        refine lv_iushr hx hb dX10_writeBytes_27 rfl ?_
        refine lv_topi (fun x36 ex36 => ?_)
        have hG := zbnd hG ex36
        refine lv_sipush (v := 255) hx hb dX10_writeBytes_28 (by decide) ?_
        refine lv_iand hx hb dX10_writeBytes_31 ?_
        refine va_iast hx hb hK.1 hP hD hS 1 0 gz1 tzz0 (vp_lt (by decide) (z_nn ex26 c_4 ntl) c_28) dX10_writeBytes_32 (fun H locs hP hD hS => ?_)
        obtain ⟨hP, hD⟩ := z_re (L := [(x0, .inr (10, [.ref w0, .ref z0, .ref xi, .ref xt, .int x26, .ref xq, .int x_lc, .ref rdr, .ref h0, .ref t0, .ref q0, .ref v0, .ref m0])), (xt, .inl (kA 0, 400, .inl (upd f25 x26.toNatClampNeg (x36 &&& 255))))]) hP hD
        obtain ⟨f37, ef37⟩ : ∃ y : Nat → Int32, y = (upd f25 x26.toNatClampNeg (x36 &&& 255)) := ⟨_, rfl⟩
        rw [← ef37] at hP hD
        have hG := zbnd hG ef37
        refine lv_aload_n hx hb dX10_writeBytes_33 rfl (lv_at hl 1 rfl) ?_
        refine lv_dup hx hb dX10_writeBytes_34 rfl ?_
        refine va_get (D := (dC, dI)) (ci := 10) (v := .int x26) (C := RX10) (T := TX10) (N := 13) hx hb hts iX10_writeBytes_X10 hown hK.1 hP 0 gz0 vcz10 4 (by decide) (kX10_writeBytes_1 hts) (fun _ h9 => h9) gz4 dX10_writeBytes_35 ?_
        refine lv_iconst (v := 1) hx hb dX10_writeBytes_38 (by decide) ?_
        refine lv_iadd hx hb dX10_writeBytes_39 ?_
        refine lv_topi (fun x38 ex38 => ?_)
        have hG := zbnd hG ex38
        refine va_put (D := (dC, dI)) (ci := 10) (v := .int x38) (ty := .int) (C := RX10) (T := TX10) (N := 13) hx hb hts iX10_writeBytes_X10 tyX10 tyX10_ok nmX10 hown hK.1 hP hD hS 0 gz0 vcz10 4 (by decide) (kX10_writeBytes_1 hts) (fun _ h9 => h9) rfl pfdI rfl rfl (Nat.le_of_ble_eq_true rfl) dX10_writeBytes_40 (fun H locs hP hD hS => ?_)
        obtain ⟨hP, hD⟩ := z_re (L := [(x0, .inr (10, [.ref w0, .ref z0, .ref xi, .ref xt, .int x38, .ref xq, .int x_lc, .ref rdr, .ref h0, .ref t0, .ref q0, .ref v0, .ref m0])), (xt, .inl (kA 0, 400, .inl f37))]) hP hD
        refine lv_iinc (v := 0) (lv' := [(2, .int 0), (0, .ref x0), (1, .int p0)]) hx hb dX10_writeBytes_43 hl (k := 0) rfl (by decide) (by decide) rfl (fun ls hl => ?_)
        refine lv_goto (tgt := 3) hx hb dX10_writeBytes_46 (by decide) ?_
        refine lv_iload_n hx hb dX10_writeBytes_3 rfl (lv_at hl 0 rfl) ?_
        refine lv_if_lt (tgt := 49) hx hb dX10_writeBytes_4 (by decide) (fun c_39 => absurd c_39 (by decide)) (fun _ => ?_)
        refine lv_aload_n hx hb dX10_writeBytes_7 rfl (lv_at hl 1 rfl) ?_
        refine va_get (D := (dC, dI)) (ci := 10) (v := .int x38) (C := RX10) (T := TX10) (N := 13) hx hb hts iX10_writeBytes_X10 hown hK.1 hP 0 gz0 vcz10 4 (by decide) (kX10_writeBytes_1 hts) (fun _ h9 => h9) gz4 dX10_writeBytes_8 ?_
        refine lv_sipush (v := 400) hx hb dX10_writeBytes_11 (by decide) ?_
        refine lv_icmp_ge (tgt := 43) hx hb dX10_writeBytes_14 (by decide) (fun c_40 => ?_) (fun c_40 => ?_)
        · have hG := zthen hG c_40
          refine lv_iinc (v := (-8)) (lv' := [(2, .int (-8)), (0, .ref x0), (1, .int p0)]) hx hb dX10_writeBytes_43 hl (k := 0) rfl (by decide) (by decide) rfl (fun ls hl => ?_)
          refine lv_goto (tgt := 3) hx hb dX10_writeBytes_46 (by decide) ?_
          refine lv_iload_n hx hb dX10_writeBytes_3 rfl (lv_at hl 0 rfl) ?_
          refine lv_if_lt (tgt := 49) hx hb dX10_writeBytes_4 (by decide) (fun _ => ?_) (fun c_41 => absurd (by decide) c_41)
          obtain ⟨hP9, hD9⟩ := z_sb (L' := [(x0, .inr (10, [.ref w0, .ref z0, .ref xi, .ref xt, .int x38, .ref xq, .int x_lc, .ref rdr, .ref h0, .ref t0, .ref q0, .ref v0, .ref m0])), (xt, .inl (kA 0, 400, .inl f37))]) hP hD [0, 1] (by decide) rfl
          refine W.widen (k := 0) (n := 0) (Nat.le_of_ble_eq_true rfl) (Nat.le_of_ble_eq_true rfl) ?_
          exact W.vret hx hb hr (fun t ht hW => ⟨⟨(x38, f37), rfl, ⟨(hG.trans hG0.symm), (z_nn ex38 c_28 (z_nn ex26 c_4 ntl))⟩, by rw [ht]; exact hP9, hD9⟩, hS.F ht⟩) hS.2.2 dX10_writeBytes_49
        · have hG := zelse hG c_40
          refine lv_aload_n hx hb dX10_writeBytes_17 rfl (lv_at hl 1 rfl) ?_
          refine va_get (D := (dC, dI)) (ci := 10) (v := .ref xt) (C := RX10) (T := TX10) (N := 13) hx hb hts iX10_writeBytes_X10 hown hK.1 hP 0 gz0 vcz10 3 (by decide) (kX10_writeBytes_2 hts) (fun _ h9 => h9) gz3 dX10_writeBytes_18 ?_
          refine lv_aload_n hx hb dX10_writeBytes_21 rfl (lv_at hl 1 rfl) ?_
          refine va_get (D := (dC, dI)) (ci := 10) (v := .int x38) (C := RX10) (T := TX10) (N := 13) hx hb hts iX10_writeBytes_X10 hown hK.1 hP 0 gz0 vcz10 4 (by decide) (kX10_writeBytes_1 hts) (fun _ h9 => h9) gz4 dX10_writeBytes_22 ?_
          refine lv_iload_n hx hb dX10_writeBytes_25 rfl (lv_at hl 2 rfl) ?_
          refine lv_iload_n hx hb dX10_writeBytes_26 rfl (lv_at hl 0 rfl) ?_
          refine lv_iushr hx hb dX10_writeBytes_27 rfl ?_
          refine lv_topi (fun x42 ex42 => ?_)
          have hG := zbnd hG ex42
          refine lv_sipush (v := 255) hx hb dX10_writeBytes_28 (by decide) ?_
          refine lv_iand hx hb dX10_writeBytes_31 ?_
          refine va_iast hx hb hK.1 hP hD hS 1 0 gz1 tzz0 (vp_lt (by decide) (z_nn ex38 c_28 (z_nn ex26 c_4 ntl)) c_40) dX10_writeBytes_32 (fun H locs hP hD hS => ?_)
          obtain ⟨hP, hD⟩ := z_re (L := [(x0, .inr (10, [.ref w0, .ref z0, .ref xi, .ref xt, .int x38, .ref xq, .int x_lc, .ref rdr, .ref h0, .ref t0, .ref q0, .ref v0, .ref m0])), (xt, .inl (kA 0, 400, .inl (upd f37 x38.toNatClampNeg (x42 &&& 255))))]) hP hD
          obtain ⟨f43, ef43⟩ : ∃ y : Nat → Int32, y = (upd f37 x38.toNatClampNeg (x42 &&& 255)) := ⟨_, rfl⟩
          rw [← ef43] at hP hD
          have hG := zbnd hG ef43
          refine lv_aload_n hx hb dX10_writeBytes_33 rfl (lv_at hl 1 rfl) ?_
          refine lv_dup hx hb dX10_writeBytes_34 rfl ?_
          refine va_get (D := (dC, dI)) (ci := 10) (v := .int x38) (C := RX10) (T := TX10) (N := 13) hx hb hts iX10_writeBytes_X10 hown hK.1 hP 0 gz0 vcz10 4 (by decide) (kX10_writeBytes_1 hts) (fun _ h9 => h9) gz4 dX10_writeBytes_35 ?_
          refine lv_iconst (v := 1) hx hb dX10_writeBytes_38 (by decide) ?_
          refine lv_iadd hx hb dX10_writeBytes_39 ?_
          refine lv_topi (fun x44 ex44 => ?_)
          have hG := zbnd hG ex44
          refine va_put (D := (dC, dI)) (ci := 10) (v := .int x44) (ty := .int) (C := RX10) (T := TX10) (N := 13) hx hb hts iX10_writeBytes_X10 tyX10 tyX10_ok nmX10 hown hK.1 hP hD hS 0 gz0 vcz10 4 (by decide) (kX10_writeBytes_1 hts) (fun _ h9 => h9) rfl pfdI rfl rfl (Nat.le_of_ble_eq_true rfl) dX10_writeBytes_40 (fun H locs hP hD hS => ?_)
          obtain ⟨hP, hD⟩ := z_re (L := [(x0, .inr (10, [.ref w0, .ref z0, .ref xi, .ref xt, .int x44, .ref xq, .int x_lc, .ref rdr, .ref h0, .ref t0, .ref q0, .ref v0, .ref m0])), (xt, .inl (kA 0, 400, .inl f43))]) hP hD
          refine lv_iinc (v := (-8)) (lv' := [(2, .int (-8)), (0, .ref x0), (1, .int p0)]) hx hb dX10_writeBytes_43 hl (k := 0) rfl (by decide) (by decide) rfl (fun ls hl => ?_)
          refine lv_goto (tgt := 3) hx hb dX10_writeBytes_46 (by decide) ?_
          refine lv_iload_n hx hb dX10_writeBytes_3 rfl (lv_at hl 0 rfl) ?_
          refine lv_if_lt (tgt := 49) hx hb dX10_writeBytes_4 (by decide) (fun _ => ?_) (fun c_45 => absurd (by decide) c_45)
          obtain ⟨hP9, hD9⟩ := z_sb (L' := [(x0, .inr (10, [.ref w0, .ref z0, .ref xi, .ref xt, .int x44, .ref xq, .int x_lc, .ref rdr, .ref h0, .ref t0, .ref q0, .ref v0, .ref m0])), (xt, .inl (kA 0, 400, .inl f43))]) hP hD [0, 1] (by decide) rfl
          refine W.widen (k := 0) (n := 0) (Nat.le_of_ble_eq_true rfl) (Nat.le_of_ble_eq_true rfl) ?_
          exact W.vret hx hb hr (fun t ht hW => ⟨⟨(x44, f43), rfl, ⟨(hG.trans hG0.symm), (z_nn ex44 c_40 (z_nn ex38 c_28 (z_nn ex26 c_4 ntl)))⟩, by rw [ht]; exact hP9, hD9⟩, hS.F ht⟩) hS.2.2 dX10_writeBytes_49
  · have hG := zelse hG c_2
    refine lv_aload_n hx hb dX10_writeBytes_17 rfl (lv_at hl 1 rfl) ?_
    refine va_get (D := (dC, dI)) (ci := 10) (v := .ref xt) (C := RX10) (T := TX10) (N := 13) hx hb hts iX10_writeBytes_X10 hown hK.1 hP 0 gz0 vcz10 3 (by decide) (kX10_writeBytes_2 hts) (fun _ h9 => h9) gz3 dX10_writeBytes_18 ?_
    refine lv_aload_n hx hb dX10_writeBytes_21 rfl (lv_at hl 1 rfl) ?_
    refine va_get (D := (dC, dI)) (ci := 10) (v := .int x_tl) (C := RX10) (T := TX10) (N := 13) hx hb hts iX10_writeBytes_X10 hown hK.1 hP 0 gz0 vcz10 4 (by decide) (kX10_writeBytes_1 hts) (fun _ h9 => h9) gz4 dX10_writeBytes_22 ?_
    refine lv_iload_n hx hb dX10_writeBytes_25 rfl (lv_at hl 2 rfl) ?_
    refine lv_iload_n hx hb dX10_writeBytes_26 rfl (lv_at hl 0 rfl) ?_
    refine lv_iushr hx hb dX10_writeBytes_27 rfl ?_
    refine lv_topi (fun x46 ex46 => ?_)
    have hG := zbnd hG ex46
    refine lv_sipush (v := 255) hx hb dX10_writeBytes_28 (by decide) ?_
    refine lv_iand hx hb dX10_writeBytes_31 ?_
    refine va_iast hx hb hK.1 hP hD hS 1 0 gz1 tzz0 (vp_lt (by decide) ntl c_2) dX10_writeBytes_32 (fun H locs hP hD hS => ?_)
    obtain ⟨hP, hD⟩ := z_re (L := [(x0, .inr (10, [.ref w0, .ref z0, .ref xi, .ref xt, .int x_tl, .ref xq, .int x_lc, .ref rdr, .ref h0, .ref t0, .ref q0, .ref v0, .ref m0])), (xt, .inl (kA 0, 400, .inl (upd xtF x_tl.toNatClampNeg (x46 &&& 255))))]) hP hD
    obtain ⟨f47, ef47⟩ : ∃ y : Nat → Int32, y = (upd xtF x_tl.toNatClampNeg (x46 &&& 255)) := ⟨_, rfl⟩
    rw [← ef47] at hP hD
    have hG := zbnd hG ef47
    refine lv_aload_n hx hb dX10_writeBytes_33 rfl (lv_at hl 1 rfl) ?_
    refine lv_dup hx hb dX10_writeBytes_34 rfl ?_
    refine va_get (D := (dC, dI)) (ci := 10) (v := .int x_tl) (C := RX10) (T := TX10) (N := 13) hx hb hts iX10_writeBytes_X10 hown hK.1 hP 0 gz0 vcz10 4 (by decide) (kX10_writeBytes_1 hts) (fun _ h9 => h9) gz4 dX10_writeBytes_35 ?_
    refine lv_iconst (v := 1) hx hb dX10_writeBytes_38 (by decide) ?_
    refine lv_iadd hx hb dX10_writeBytes_39 ?_
    refine lv_topi (fun x48 ex48 => ?_)
    have hG := zbnd hG ex48
    refine va_put (D := (dC, dI)) (ci := 10) (v := .int x48) (ty := .int) (C := RX10) (T := TX10) (N := 13) hx hb hts iX10_writeBytes_X10 tyX10 tyX10_ok nmX10 hown hK.1 hP hD hS 0 gz0 vcz10 4 (by decide) (kX10_writeBytes_1 hts) (fun _ h9 => h9) rfl pfdI rfl rfl (Nat.le_of_ble_eq_true rfl) dX10_writeBytes_40 (fun H locs hP hD hS => ?_)
    obtain ⟨hP, hD⟩ := z_re (L := [(x0, .inr (10, [.ref w0, .ref z0, .ref xi, .ref xt, .int x48, .ref xq, .int x_lc, .ref rdr, .ref h0, .ref t0, .ref q0, .ref v0, .ref m0])), (xt, .inl (kA 0, 400, .inl f47))]) hP hD
    refine lv_iinc (v := 16) (lv' := [(2, .int 16), (0, .ref x0), (1, .int p0)]) hx hb dX10_writeBytes_43 hl (k := 0) rfl (by decide) (by decide) rfl (fun ls hl => ?_)
    refine lv_goto (tgt := 3) hx hb dX10_writeBytes_46 (by decide) ?_
    refine lv_iload_n hx hb dX10_writeBytes_3 rfl (lv_at hl 0 rfl) ?_
    refine lv_if_lt (tgt := 49) hx hb dX10_writeBytes_4 (by decide) (fun c_49 => absurd c_49 (by decide)) (fun _ => ?_)
    refine lv_aload_n hx hb dX10_writeBytes_7 rfl (lv_at hl 1 rfl) ?_
    refine va_get (D := (dC, dI)) (ci := 10) (v := .int x48) (C := RX10) (T := TX10) (N := 13) hx hb hts iX10_writeBytes_X10 hown hK.1 hP 0 gz0 vcz10 4 (by decide) (kX10_writeBytes_1 hts) (fun _ h9 => h9) gz4 dX10_writeBytes_8 ?_
    refine lv_sipush (v := 400) hx hb dX10_writeBytes_11 (by decide) ?_
    refine lv_icmp_ge (tgt := 43) hx hb dX10_writeBytes_14 (by decide) (fun c_50 => ?_) (fun c_50 => ?_)
    · have hG := zthen hG c_50
      refine lv_iinc (v := 8) (lv' := [(2, .int 8), (0, .ref x0), (1, .int p0)]) hx hb dX10_writeBytes_43 hl (k := 0) rfl (by decide) (by decide) rfl (fun ls hl => ?_)
      refine lv_goto (tgt := 3) hx hb dX10_writeBytes_46 (by decide) ?_
      refine lv_iload_n hx hb dX10_writeBytes_3 rfl (lv_at hl 0 rfl) ?_
      refine lv_if_lt (tgt := 49) hx hb dX10_writeBytes_4 (by decide) (fun c_51 => absurd c_51 (by decide)) (fun _ => ?_)
      refine lv_aload_n hx hb dX10_writeBytes_7 rfl (lv_at hl 1 rfl) ?_
      refine va_get (D := (dC, dI)) (ci := 10) (v := .int x48) (C := RX10) (T := TX10) (N := 13) hx hb hts iX10_writeBytes_X10 hown hK.1 hP 0 gz0 vcz10 4 (by decide) (kX10_writeBytes_1 hts) (fun _ h9 => h9) gz4 dX10_writeBytes_8 ?_
      refine lv_sipush (v := 400) hx hb dX10_writeBytes_11 (by decide) ?_
      refine lv_icmp_ge (tgt := 43) hx hb dX10_writeBytes_14 (by decide) (fun c_52 => ?_) (fun c_52 => ?_)
      · have hG := zthen hG c_52
        refine lv_iinc (v := 0) (lv' := [(2, .int 0), (0, .ref x0), (1, .int p0)]) hx hb dX10_writeBytes_43 hl (k := 0) rfl (by decide) (by decide) rfl (fun ls hl => ?_)
        refine lv_goto (tgt := 3) hx hb dX10_writeBytes_46 (by decide) ?_
        refine lv_iload_n hx hb dX10_writeBytes_3 rfl (lv_at hl 0 rfl) ?_
        refine lv_if_lt (tgt := 49) hx hb dX10_writeBytes_4 (by decide) (fun c_53 => absurd c_53 (by decide)) (fun _ => ?_)
        refine lv_aload_n hx hb dX10_writeBytes_7 rfl (lv_at hl 1 rfl) ?_
        refine va_get (D := (dC, dI)) (ci := 10) (v := .int x48) (C := RX10) (T := TX10) (N := 13) hx hb hts iX10_writeBytes_X10 hown hK.1 hP 0 gz0 vcz10 4 (by decide) (kX10_writeBytes_1 hts) (fun _ h9 => h9) gz4 dX10_writeBytes_8 ?_
        refine lv_sipush (v := 400) hx hb dX10_writeBytes_11 (by decide) ?_
        refine lv_icmp_ge (tgt := 43) hx hb dX10_writeBytes_14 (by decide) (fun c_54 => ?_) (fun c_54 => ?_)
        · have hG := zthen hG c_54
          refine lv_iinc (v := (-8)) (lv' := [(2, .int (-8)), (0, .ref x0), (1, .int p0)]) hx hb dX10_writeBytes_43 hl (k := 0) rfl (by decide) (by decide) rfl (fun ls hl => ?_)
          refine lv_goto (tgt := 3) hx hb dX10_writeBytes_46 (by decide) ?_
          refine lv_iload_n hx hb dX10_writeBytes_3 rfl (lv_at hl 0 rfl) ?_
          refine lv_if_lt (tgt := 49) hx hb dX10_writeBytes_4 (by decide) (fun _ => ?_) (fun c_55 => absurd (by decide) c_55)
          obtain ⟨hP9, hD9⟩ := z_sb (L' := [(x0, .inr (10, [.ref w0, .ref z0, .ref xi, .ref xt, .int x48, .ref xq, .int x_lc, .ref rdr, .ref h0, .ref t0, .ref q0, .ref v0, .ref m0])), (xt, .inl (kA 0, 400, .inl f47))]) hP hD [0, 1] (by decide) rfl
          refine W.widen (k := 0) (n := 0) (Nat.le_of_ble_eq_true rfl) (Nat.le_of_ble_eq_true rfl) ?_
          exact W.vret hx hb hr (fun t ht hW => ⟨⟨(x48, f47), rfl, ⟨(hG.trans hG0.symm), (z_nn ex48 c_2 ntl)⟩, by rw [ht]; exact hP9, hD9⟩, hS.F ht⟩) hS.2.2 dX10_writeBytes_49
        · have hG := zelse hG c_54
          refine lv_aload_n hx hb dX10_writeBytes_17 rfl (lv_at hl 1 rfl) ?_
          refine va_get (D := (dC, dI)) (ci := 10) (v := .ref xt) (C := RX10) (T := TX10) (N := 13) hx hb hts iX10_writeBytes_X10 hown hK.1 hP 0 gz0 vcz10 3 (by decide) (kX10_writeBytes_2 hts) (fun _ h9 => h9) gz3 dX10_writeBytes_18 ?_
          refine lv_aload_n hx hb dX10_writeBytes_21 rfl (lv_at hl 1 rfl) ?_
          refine va_get (D := (dC, dI)) (ci := 10) (v := .int x48) (C := RX10) (T := TX10) (N := 13) hx hb hts iX10_writeBytes_X10 hown hK.1 hP 0 gz0 vcz10 4 (by decide) (kX10_writeBytes_1 hts) (fun _ h9 => h9) gz4 dX10_writeBytes_22 ?_
          refine lv_iload_n hx hb dX10_writeBytes_25 rfl (lv_at hl 2 rfl) ?_
          refine lv_iload_n hx hb dX10_writeBytes_26 rfl (lv_at hl 0 rfl) ?_
          refine lv_iushr hx hb dX10_writeBytes_27 rfl ?_
          refine lv_topi (fun x56 ex56 => ?_)
          have hG := zbnd hG ex56
          refine lv_sipush (v := 255) hx hb dX10_writeBytes_28 (by decide) ?_
          refine lv_iand hx hb dX10_writeBytes_31 ?_
          refine va_iast hx hb hK.1 hP hD hS 1 0 gz1 tzz0 (vp_lt (by decide) (z_nn ex48 c_2 ntl) c_54) dX10_writeBytes_32 (fun H locs hP hD hS => ?_)
          obtain ⟨hP, hD⟩ := z_re (L := [(x0, .inr (10, [.ref w0, .ref z0, .ref xi, .ref xt, .int x48, .ref xq, .int x_lc, .ref rdr, .ref h0, .ref t0, .ref q0, .ref v0, .ref m0])), (xt, .inl (kA 0, 400, .inl (upd f47 x48.toNatClampNeg (x56 &&& 255))))]) hP hD
          obtain ⟨f57, ef57⟩ : ∃ y : Nat → Int32, y = (upd f47 x48.toNatClampNeg (x56 &&& 255)) := ⟨_, rfl⟩
          rw [← ef57] at hP hD
          have hG := zbnd hG ef57
          refine lv_aload_n hx hb dX10_writeBytes_33 rfl (lv_at hl 1 rfl) ?_
          refine lv_dup hx hb dX10_writeBytes_34 rfl ?_
          refine va_get (D := (dC, dI)) (ci := 10) (v := .int x48) (C := RX10) (T := TX10) (N := 13) hx hb hts iX10_writeBytes_X10 hown hK.1 hP 0 gz0 vcz10 4 (by decide) (kX10_writeBytes_1 hts) (fun _ h9 => h9) gz4 dX10_writeBytes_35 ?_
          refine lv_iconst (v := 1) hx hb dX10_writeBytes_38 (by decide) ?_
          refine lv_iadd hx hb dX10_writeBytes_39 ?_
          refine lv_topi (fun x58 ex58 => ?_)
          have hG := zbnd hG ex58
          refine va_put (D := (dC, dI)) (ci := 10) (v := .int x58) (ty := .int) (C := RX10) (T := TX10) (N := 13) hx hb hts iX10_writeBytes_X10 tyX10 tyX10_ok nmX10 hown hK.1 hP hD hS 0 gz0 vcz10 4 (by decide) (kX10_writeBytes_1 hts) (fun _ h9 => h9) rfl pfdI rfl rfl (Nat.le_of_ble_eq_true rfl) dX10_writeBytes_40 (fun H locs hP hD hS => ?_)
          obtain ⟨hP, hD⟩ := z_re (L := [(x0, .inr (10, [.ref w0, .ref z0, .ref xi, .ref xt, .int x58, .ref xq, .int x_lc, .ref rdr, .ref h0, .ref t0, .ref q0, .ref v0, .ref m0])), (xt, .inl (kA 0, 400, .inl f57))]) hP hD
          refine lv_iinc (v := (-8)) (lv' := [(2, .int (-8)), (0, .ref x0), (1, .int p0)]) hx hb dX10_writeBytes_43 hl (k := 0) rfl (by decide) (by decide) rfl (fun ls hl => ?_)
          refine lv_goto (tgt := 3) hx hb dX10_writeBytes_46 (by decide) ?_
          refine lv_iload_n hx hb dX10_writeBytes_3 rfl (lv_at hl 0 rfl) ?_
          refine lv_if_lt (tgt := 49) hx hb dX10_writeBytes_4 (by decide) (fun _ => ?_) (fun c_59 => absurd (by decide) c_59)
          obtain ⟨hP9, hD9⟩ := z_sb (L' := [(x0, .inr (10, [.ref w0, .ref z0, .ref xi, .ref xt, .int x58, .ref xq, .int x_lc, .ref rdr, .ref h0, .ref t0, .ref q0, .ref v0, .ref m0])), (xt, .inl (kA 0, 400, .inl f57))]) hP hD [0, 1] (by decide) rfl
          refine W.widen (k := 0) (n := 0) (Nat.le_of_ble_eq_true rfl) (Nat.le_of_ble_eq_true rfl) ?_
          exact W.vret hx hb hr (fun t ht hW => ⟨⟨(x58, f57), rfl, ⟨(hG.trans hG0.symm), (z_nn ex58 c_54 (z_nn ex48 c_2 ntl))⟩, by rw [ht]; exact hP9, hD9⟩, hS.F ht⟩) hS.2.2 dX10_writeBytes_49
      · have hG := zelse hG c_52
        refine lv_aload_n hx hb dX10_writeBytes_17 rfl (lv_at hl 1 rfl) ?_
        refine va_get (D := (dC, dI)) (ci := 10) (v := .ref xt) (C := RX10) (T := TX10) (N := 13) hx hb hts iX10_writeBytes_X10 hown hK.1 hP 0 gz0 vcz10 3 (by decide) (kX10_writeBytes_2 hts) (fun _ h9 => h9) gz3 dX10_writeBytes_18 ?_
        refine lv_aload_n hx hb dX10_writeBytes_21 rfl (lv_at hl 1 rfl) ?_
        refine va_get (D := (dC, dI)) (ci := 10) (v := .int x48) (C := RX10) (T := TX10) (N := 13) hx hb hts iX10_writeBytes_X10 hown hK.1 hP 0 gz0 vcz10 4 (by decide) (kX10_writeBytes_1 hts) (fun _ h9 => h9) gz4 dX10_writeBytes_22 ?_
        refine lv_iload_n hx hb dX10_writeBytes_25 rfl (lv_at hl 2 rfl) ?_
        refine lv_iload_n hx hb dX10_writeBytes_26 rfl (lv_at hl 0 rfl) ?_
        refine lv_iushr hx hb dX10_writeBytes_27 rfl ?_
        refine lv_topi (fun x60 ex60 => ?_)
        have hG := zbnd hG ex60
        refine lv_sipush (v := 255) hx hb dX10_writeBytes_28 (by decide) ?_
        refine lv_iand hx hb dX10_writeBytes_31 ?_
        refine va_iast hx hb hK.1 hP hD hS 1 0 gz1 tzz0 (vp_lt (by decide) (z_nn ex48 c_2 ntl) c_52) dX10_writeBytes_32 (fun H locs hP hD hS => ?_)
        obtain ⟨hP, hD⟩ := z_re (L := [(x0, .inr (10, [.ref w0, .ref z0, .ref xi, .ref xt, .int x48, .ref xq, .int x_lc, .ref rdr, .ref h0, .ref t0, .ref q0, .ref v0, .ref m0])), (xt, .inl (kA 0, 400, .inl (upd f47 x48.toNatClampNeg (x60 &&& 255))))]) hP hD
        obtain ⟨f61, ef61⟩ : ∃ y : Nat → Int32, y = (upd f47 x48.toNatClampNeg (x60 &&& 255)) := ⟨_, rfl⟩
        rw [← ef61] at hP hD
        have hG := zbnd hG ef61
        refine lv_aload_n hx hb dX10_writeBytes_33 rfl (lv_at hl 1 rfl) ?_
        refine lv_dup hx hb dX10_writeBytes_34 rfl ?_
        refine va_get (D := (dC, dI)) (ci := 10) (v := .int x48) (C := RX10) (T := TX10) (N := 13) hx hb hts iX10_writeBytes_X10 hown hK.1 hP 0 gz0 vcz10 4 (by decide) (kX10_writeBytes_1 hts) (fun _ h9 => h9) gz4 dX10_writeBytes_35 ?_
        refine lv_iconst (v := 1) hx hb dX10_writeBytes_38 (by decide) ?_
        refine lv_iadd hx hb dX10_writeBytes_39 ?_
        refine lv_topi (fun x62 ex62 => ?_)
        have hG := zbnd hG ex62
        refine va_put (D := (dC, dI)) (ci := 10) (v := .int x62) (ty := .int) (C := RX10) (T := TX10) (N := 13) hx hb hts iX10_writeBytes_X10 tyX10 tyX10_ok nmX10 hown hK.1 hP hD hS 0 gz0 vcz10 4 (by decide) (kX10_writeBytes_1 hts) (fun _ h9 => h9) rfl pfdI rfl rfl (Nat.le_of_ble_eq_true rfl) dX10_writeBytes_40 (fun H locs hP hD hS => ?_)
        obtain ⟨hP, hD⟩ := z_re (L := [(x0, .inr (10, [.ref w0, .ref z0, .ref xi, .ref xt, .int x62, .ref xq, .int x_lc, .ref rdr, .ref h0, .ref t0, .ref q0, .ref v0, .ref m0])), (xt, .inl (kA 0, 400, .inl f61))]) hP hD
        refine lv_iinc (v := 0) (lv' := [(2, .int 0), (0, .ref x0), (1, .int p0)]) hx hb dX10_writeBytes_43 hl (k := 0) rfl (by decide) (by decide) rfl (fun ls hl => ?_)
        refine lv_goto (tgt := 3) hx hb dX10_writeBytes_46 (by decide) ?_
        refine lv_iload_n hx hb dX10_writeBytes_3 rfl (lv_at hl 0 rfl) ?_
        refine lv_if_lt (tgt := 49) hx hb dX10_writeBytes_4 (by decide) (fun c_63 => absurd c_63 (by decide)) (fun _ => ?_)
        refine lv_aload_n hx hb dX10_writeBytes_7 rfl (lv_at hl 1 rfl) ?_
        refine va_get (D := (dC, dI)) (ci := 10) (v := .int x62) (C := RX10) (T := TX10) (N := 13) hx hb hts iX10_writeBytes_X10 hown hK.1 hP 0 gz0 vcz10 4 (by decide) (kX10_writeBytes_1 hts) (fun _ h9 => h9) gz4 dX10_writeBytes_8 ?_
        refine lv_sipush (v := 400) hx hb dX10_writeBytes_11 (by decide) ?_
        refine lv_icmp_ge (tgt := 43) hx hb dX10_writeBytes_14 (by decide) (fun c_64 => ?_) (fun c_64 => ?_)
        · have hG := zthen hG c_64
          refine lv_iinc (v := (-8)) (lv' := [(2, .int (-8)), (0, .ref x0), (1, .int p0)]) hx hb dX10_writeBytes_43 hl (k := 0) rfl (by decide) (by decide) rfl (fun ls hl => ?_)
          refine lv_goto (tgt := 3) hx hb dX10_writeBytes_46 (by decide) ?_
          refine lv_iload_n hx hb dX10_writeBytes_3 rfl (lv_at hl 0 rfl) ?_
          refine lv_if_lt (tgt := 49) hx hb dX10_writeBytes_4 (by decide) (fun _ => ?_) (fun c_65 => absurd (by decide) c_65)
          obtain ⟨hP9, hD9⟩ := z_sb (L' := [(x0, .inr (10, [.ref w0, .ref z0, .ref xi, .ref xt, .int x62, .ref xq, .int x_lc, .ref rdr, .ref h0, .ref t0, .ref q0, .ref v0, .ref m0])), (xt, .inl (kA 0, 400, .inl f61))]) hP hD [0, 1] (by decide) rfl
          refine W.widen (k := 0) (n := 0) (Nat.le_of_ble_eq_true rfl) (Nat.le_of_ble_eq_true rfl) ?_
          exact W.vret hx hb hr (fun t ht hW => ⟨⟨(x62, f61), rfl, ⟨(hG.trans hG0.symm), (z_nn ex62 c_52 (z_nn ex48 c_2 ntl))⟩, by rw [ht]; exact hP9, hD9⟩, hS.F ht⟩) hS.2.2 dX10_writeBytes_49
        · have hG := zelse hG c_64
          refine lv_aload_n hx hb dX10_writeBytes_17 rfl (lv_at hl 1 rfl) ?_
          refine va_get (D := (dC, dI)) (ci := 10) (v := .ref xt) (C := RX10) (T := TX10) (N := 13) hx hb hts iX10_writeBytes_X10 hown hK.1 hP 0 gz0 vcz10 3 (by decide) (kX10_writeBytes_2 hts) (fun _ h9 => h9) gz3 dX10_writeBytes_18 ?_
          refine lv_aload_n hx hb dX10_writeBytes_21 rfl (lv_at hl 1 rfl) ?_
          refine va_get (D := (dC, dI)) (ci := 10) (v := .int x62) (C := RX10) (T := TX10) (N := 13) hx hb hts iX10_writeBytes_X10 hown hK.1 hP 0 gz0 vcz10 4 (by decide) (kX10_writeBytes_1 hts) (fun _ h9 => h9) gz4 dX10_writeBytes_22 ?_
          refine lv_iload_n hx hb dX10_writeBytes_25 rfl (lv_at hl 2 rfl) ?_
          refine lv_iload_n hx hb dX10_writeBytes_26 rfl (lv_at hl 0 rfl) ?_
          refine lv_iushr hx hb dX10_writeBytes_27 rfl ?_
          refine lv_topi (fun x66 ex66 => ?_)
          have hG := zbnd hG ex66
          refine lv_sipush (v := 255) hx hb dX10_writeBytes_28 (by decide) ?_
          refine lv_iand hx hb dX10_writeBytes_31 ?_
          refine va_iast hx hb hK.1 hP hD hS 1 0 gz1 tzz0 (vp_lt (by decide) (z_nn ex62 c_52 (z_nn ex48 c_2 ntl)) c_64) dX10_writeBytes_32 (fun H locs hP hD hS => ?_)
          obtain ⟨hP, hD⟩ := z_re (L := [(x0, .inr (10, [.ref w0, .ref z0, .ref xi, .ref xt, .int x62, .ref xq, .int x_lc, .ref rdr, .ref h0, .ref t0, .ref q0, .ref v0, .ref m0])), (xt, .inl (kA 0, 400, .inl (upd f61 x62.toNatClampNeg (x66 &&& 255))))]) hP hD
          obtain ⟨f67, ef67⟩ : ∃ y : Nat → Int32, y = (upd f61 x62.toNatClampNeg (x66 &&& 255)) := ⟨_, rfl⟩
          rw [← ef67] at hP hD
          have hG := zbnd hG ef67
          refine lv_aload_n hx hb dX10_writeBytes_33 rfl (lv_at hl 1 rfl) ?_
          refine lv_dup hx hb dX10_writeBytes_34 rfl ?_
          refine va_get (D := (dC, dI)) (ci := 10) (v := .int x62) (C := RX10) (T := TX10) (N := 13) hx hb hts iX10_writeBytes_X10 hown hK.1 hP 0 gz0 vcz10 4 (by decide) (kX10_writeBytes_1 hts) (fun _ h9 => h9) gz4 dX10_writeBytes_35 ?_
          refine lv_iconst (v := 1) hx hb dX10_writeBytes_38 (by decide) ?_
          refine lv_iadd hx hb dX10_writeBytes_39 ?_
          refine lv_topi (fun x68 ex68 => ?_)
          have hG := zbnd hG ex68
          refine va_put (D := (dC, dI)) (ci := 10) (v := .int x68) (ty := .int) (C := RX10) (T := TX10) (N := 13) hx hb hts iX10_writeBytes_X10 tyX10 tyX10_ok nmX10 hown hK.1 hP hD hS 0 gz0 vcz10 4 (by decide) (kX10_writeBytes_1 hts) (fun _ h9 => h9) rfl pfdI rfl rfl (Nat.le_of_ble_eq_true rfl) dX10_writeBytes_40 (fun H locs hP hD hS => ?_)
          obtain ⟨hP, hD⟩ := z_re (L := [(x0, .inr (10, [.ref w0, .ref z0, .ref xi, .ref xt, .int x68, .ref xq, .int x_lc, .ref rdr, .ref h0, .ref t0, .ref q0, .ref v0, .ref m0])), (xt, .inl (kA 0, 400, .inl f67))]) hP hD
          refine lv_iinc (v := (-8)) (lv' := [(2, .int (-8)), (0, .ref x0), (1, .int p0)]) hx hb dX10_writeBytes_43 hl (k := 0) rfl (by decide) (by decide) rfl (fun ls hl => ?_)
          refine lv_goto (tgt := 3) hx hb dX10_writeBytes_46 (by decide) ?_
          refine lv_iload_n hx hb dX10_writeBytes_3 rfl (lv_at hl 0 rfl) ?_
          refine lv_if_lt (tgt := 49) hx hb dX10_writeBytes_4 (by decide) (fun _ => ?_) (fun c_69 => absurd (by decide) c_69)
          obtain ⟨hP9, hD9⟩ := z_sb (L' := [(x0, .inr (10, [.ref w0, .ref z0, .ref xi, .ref xt, .int x68, .ref xq, .int x_lc, .ref rdr, .ref h0, .ref t0, .ref q0, .ref v0, .ref m0])), (xt, .inl (kA 0, 400, .inl f67))]) hP hD [0, 1] (by decide) rfl
          refine W.widen (k := 0) (n := 0) (Nat.le_of_ble_eq_true rfl) (Nat.le_of_ble_eq_true rfl) ?_
          exact W.vret hx hb hr (fun t ht hW => ⟨⟨(x68, f67), rfl, ⟨(hG.trans hG0.symm), (z_nn ex68 c_64 (z_nn ex62 c_52 (z_nn ex48 c_2 ntl)))⟩, by rw [ht]; exact hP9, hD9⟩, hS.F ht⟩) hS.2.2 dX10_writeBytes_49
    · have hG := zelse hG c_50
      refine lv_aload_n hx hb dX10_writeBytes_17 rfl (lv_at hl 1 rfl) ?_
      refine va_get (D := (dC, dI)) (ci := 10) (v := .ref xt) (C := RX10) (T := TX10) (N := 13) hx hb hts iX10_writeBytes_X10 hown hK.1 hP 0 gz0 vcz10 3 (by decide) (kX10_writeBytes_2 hts) (fun _ h9 => h9) gz3 dX10_writeBytes_18 ?_
      refine lv_aload_n hx hb dX10_writeBytes_21 rfl (lv_at hl 1 rfl) ?_
      refine va_get (D := (dC, dI)) (ci := 10) (v := .int x48) (C := RX10) (T := TX10) (N := 13) hx hb hts iX10_writeBytes_X10 hown hK.1 hP 0 gz0 vcz10 4 (by decide) (kX10_writeBytes_1 hts) (fun _ h9 => h9) gz4 dX10_writeBytes_22 ?_
      refine lv_iload_n hx hb dX10_writeBytes_25 rfl (lv_at hl 2 rfl) ?_
      refine lv_iload_n hx hb dX10_writeBytes_26 rfl (lv_at hl 0 rfl) ?_
      refine lv_iushr hx hb dX10_writeBytes_27 rfl ?_
      refine lv_topi (fun x70 ex70 => ?_)
      have hG := zbnd hG ex70
      refine lv_sipush (v := 255) hx hb dX10_writeBytes_28 (by decide) ?_
      refine lv_iand hx hb dX10_writeBytes_31 ?_
      refine va_iast hx hb hK.1 hP hD hS 1 0 gz1 tzz0 (vp_lt (by decide) (z_nn ex48 c_2 ntl) c_50) dX10_writeBytes_32 (fun H locs hP hD hS => ?_)
      obtain ⟨hP, hD⟩ := z_re (L := [(x0, .inr (10, [.ref w0, .ref z0, .ref xi, .ref xt, .int x48, .ref xq, .int x_lc, .ref rdr, .ref h0, .ref t0, .ref q0, .ref v0, .ref m0])), (xt, .inl (kA 0, 400, .inl (upd f47 x48.toNatClampNeg (x70 &&& 255))))]) hP hD
      obtain ⟨f71, ef71⟩ : ∃ y : Nat → Int32, y = (upd f47 x48.toNatClampNeg (x70 &&& 255)) := ⟨_, rfl⟩
      rw [← ef71] at hP hD
      have hG := zbnd hG ef71
      refine lv_aload_n hx hb dX10_writeBytes_33 rfl (lv_at hl 1 rfl) ?_
      refine lv_dup hx hb dX10_writeBytes_34 rfl ?_
      refine va_get (D := (dC, dI)) (ci := 10) (v := .int x48) (C := RX10) (T := TX10) (N := 13) hx hb hts iX10_writeBytes_X10 hown hK.1 hP 0 gz0 vcz10 4 (by decide) (kX10_writeBytes_1 hts) (fun _ h9 => h9) gz4 dX10_writeBytes_35 ?_
      refine lv_iconst (v := 1) hx hb dX10_writeBytes_38 (by decide) ?_
      refine lv_iadd hx hb dX10_writeBytes_39 ?_
      refine lv_topi (fun x72 ex72 => ?_)
      have hG := zbnd hG ex72
      refine va_put (D := (dC, dI)) (ci := 10) (v := .int x72) (ty := .int) (C := RX10) (T := TX10) (N := 13) hx hb hts iX10_writeBytes_X10 tyX10 tyX10_ok nmX10 hown hK.1 hP hD hS 0 gz0 vcz10 4 (by decide) (kX10_writeBytes_1 hts) (fun _ h9 => h9) rfl pfdI rfl rfl (Nat.le_of_ble_eq_true rfl) dX10_writeBytes_40 (fun H locs hP hD hS => ?_)
      obtain ⟨hP, hD⟩ := z_re (L := [(x0, .inr (10, [.ref w0, .ref z0, .ref xi, .ref xt, .int x72, .ref xq, .int x_lc, .ref rdr, .ref h0, .ref t0, .ref q0, .ref v0, .ref m0])), (xt, .inl (kA 0, 400, .inl f71))]) hP hD
      refine lv_iinc (v := 8) (lv' := [(2, .int 8), (0, .ref x0), (1, .int p0)]) hx hb dX10_writeBytes_43 hl (k := 0) rfl (by decide) (by decide) rfl (fun ls hl => ?_)
      refine lv_goto (tgt := 3) hx hb dX10_writeBytes_46 (by decide) ?_
      refine lv_iload_n hx hb dX10_writeBytes_3 rfl (lv_at hl 0 rfl) ?_
      refine lv_if_lt (tgt := 49) hx hb dX10_writeBytes_4 (by decide) (fun c_73 => absurd c_73 (by decide)) (fun _ => ?_)
      refine lv_aload_n hx hb dX10_writeBytes_7 rfl (lv_at hl 1 rfl) ?_
      refine va_get (D := (dC, dI)) (ci := 10) (v := .int x72) (C := RX10) (T := TX10) (N := 13) hx hb hts iX10_writeBytes_X10 hown hK.1 hP 0 gz0 vcz10 4 (by decide) (kX10_writeBytes_1 hts) (fun _ h9 => h9) gz4 dX10_writeBytes_8 ?_
      refine lv_sipush (v := 400) hx hb dX10_writeBytes_11 (by decide) ?_
      refine lv_icmp_ge (tgt := 43) hx hb dX10_writeBytes_14 (by decide) (fun c_74 => ?_) (fun c_74 => ?_)
      · have hG := zthen hG c_74
        refine lv_iinc (v := 0) (lv' := [(2, .int 0), (0, .ref x0), (1, .int p0)]) hx hb dX10_writeBytes_43 hl (k := 0) rfl (by decide) (by decide) rfl (fun ls hl => ?_)
        refine lv_goto (tgt := 3) hx hb dX10_writeBytes_46 (by decide) ?_
        refine lv_iload_n hx hb dX10_writeBytes_3 rfl (lv_at hl 0 rfl) ?_
        refine lv_if_lt (tgt := 49) hx hb dX10_writeBytes_4 (by decide) (fun c_75 => absurd c_75 (by decide)) (fun _ => ?_)
        refine lv_aload_n hx hb dX10_writeBytes_7 rfl (lv_at hl 1 rfl) ?_
        refine va_get (D := (dC, dI)) (ci := 10) (v := .int x72) (C := RX10) (T := TX10) (N := 13) hx hb hts iX10_writeBytes_X10 hown hK.1 hP 0 gz0 vcz10 4 (by decide) (kX10_writeBytes_1 hts) (fun _ h9 => h9) gz4 dX10_writeBytes_8 ?_
        refine lv_sipush (v := 400) hx hb dX10_writeBytes_11 (by decide) ?_
        refine lv_icmp_ge (tgt := 43) hx hb dX10_writeBytes_14 (by decide) (fun c_76 => ?_) (fun c_76 => ?_)
        · have hG := zthen hG c_76
          refine lv_iinc (v := (-8)) (lv' := [(2, .int (-8)), (0, .ref x0), (1, .int p0)]) hx hb dX10_writeBytes_43 hl (k := 0) rfl (by decide) (by decide) rfl (fun ls hl => ?_)
          refine lv_goto (tgt := 3) hx hb dX10_writeBytes_46 (by decide) ?_
          refine lv_iload_n hx hb dX10_writeBytes_3 rfl (lv_at hl 0 rfl) ?_
          refine lv_if_lt (tgt := 49) hx hb dX10_writeBytes_4 (by decide) (fun _ => ?_) (fun c_77 => absurd (by decide) c_77)
          obtain ⟨hP9, hD9⟩ := z_sb (L' := [(x0, .inr (10, [.ref w0, .ref z0, .ref xi, .ref xt, .int x72, .ref xq, .int x_lc, .ref rdr, .ref h0, .ref t0, .ref q0, .ref v0, .ref m0])), (xt, .inl (kA 0, 400, .inl f71))]) hP hD [0, 1] (by decide) rfl
          refine W.widen (k := 0) (n := 0) (Nat.le_of_ble_eq_true rfl) (Nat.le_of_ble_eq_true rfl) ?_
          exact W.vret hx hb hr (fun t ht hW => ⟨⟨(x72, f71), rfl, ⟨(hG.trans hG0.symm), (z_nn ex72 c_50 (z_nn ex48 c_2 ntl))⟩, by rw [ht]; exact hP9, hD9⟩, hS.F ht⟩) hS.2.2 dX10_writeBytes_49
        · have hG := zelse hG c_76
          refine lv_aload_n hx hb dX10_writeBytes_17 rfl (lv_at hl 1 rfl) ?_
          refine va_get (D := (dC, dI)) (ci := 10) (v := .ref xt) (C := RX10) (T := TX10) (N := 13) hx hb hts iX10_writeBytes_X10 hown hK.1 hP 0 gz0 vcz10 3 (by decide) (kX10_writeBytes_2 hts) (fun _ h9 => h9) gz3 dX10_writeBytes_18 ?_
          refine lv_aload_n hx hb dX10_writeBytes_21 rfl (lv_at hl 1 rfl) ?_
          refine va_get (D := (dC, dI)) (ci := 10) (v := .int x72) (C := RX10) (T := TX10) (N := 13) hx hb hts iX10_writeBytes_X10 hown hK.1 hP 0 gz0 vcz10 4 (by decide) (kX10_writeBytes_1 hts) (fun _ h9 => h9) gz4 dX10_writeBytes_22 ?_
          refine lv_iload_n hx hb dX10_writeBytes_25 rfl (lv_at hl 2 rfl) ?_
          refine lv_iload_n hx hb dX10_writeBytes_26 rfl (lv_at hl 0 rfl) ?_
          refine lv_iushr hx hb dX10_writeBytes_27 rfl ?_
          refine lv_topi (fun x78 ex78 => ?_)
          have hG := zbnd hG ex78
          refine lv_sipush (v := 255) hx hb dX10_writeBytes_28 (by decide) ?_
          refine lv_iand hx hb dX10_writeBytes_31 ?_
          refine va_iast hx hb hK.1 hP hD hS 1 0 gz1 tzz0 (vp_lt (by decide) (z_nn ex72 c_50 (z_nn ex48 c_2 ntl)) c_76) dX10_writeBytes_32 (fun H locs hP hD hS => ?_)
          obtain ⟨hP, hD⟩ := z_re (L := [(x0, .inr (10, [.ref w0, .ref z0, .ref xi, .ref xt, .int x72, .ref xq, .int x_lc, .ref rdr, .ref h0, .ref t0, .ref q0, .ref v0, .ref m0])), (xt, .inl (kA 0, 400, .inl (upd f71 x72.toNatClampNeg (x78 &&& 255))))]) hP hD
          obtain ⟨f79, ef79⟩ : ∃ y : Nat → Int32, y = (upd f71 x72.toNatClampNeg (x78 &&& 255)) := ⟨_, rfl⟩
          rw [← ef79] at hP hD
          have hG := zbnd hG ef79
          refine lv_aload_n hx hb dX10_writeBytes_33 rfl (lv_at hl 1 rfl) ?_
          refine lv_dup hx hb dX10_writeBytes_34 rfl ?_
          refine va_get (D := (dC, dI)) (ci := 10) (v := .int x72) (C := RX10) (T := TX10) (N := 13) hx hb hts iX10_writeBytes_X10 hown hK.1 hP 0 gz0 vcz10 4 (by decide) (kX10_writeBytes_1 hts) (fun _ h9 => h9) gz4 dX10_writeBytes_35 ?_
          refine lv_iconst (v := 1) hx hb dX10_writeBytes_38 (by decide) ?_
          refine lv_iadd hx hb dX10_writeBytes_39 ?_
          refine lv_topi (fun x80 ex80 => ?_)
          have hG := zbnd hG ex80
          refine va_put (D := (dC, dI)) (ci := 10) (v := .int x80) (ty := .int) (C := RX10) (T := TX10) (N := 13) hx hb hts iX10_writeBytes_X10 tyX10 tyX10_ok nmX10 hown hK.1 hP hD hS 0 gz0 vcz10 4 (by decide) (kX10_writeBytes_1 hts) (fun _ h9 => h9) rfl pfdI rfl rfl (Nat.le_of_ble_eq_true rfl) dX10_writeBytes_40 (fun H locs hP hD hS => ?_)
          obtain ⟨hP, hD⟩ := z_re (L := [(x0, .inr (10, [.ref w0, .ref z0, .ref xi, .ref xt, .int x80, .ref xq, .int x_lc, .ref rdr, .ref h0, .ref t0, .ref q0, .ref v0, .ref m0])), (xt, .inl (kA 0, 400, .inl f79))]) hP hD
          refine lv_iinc (v := (-8)) (lv' := [(2, .int (-8)), (0, .ref x0), (1, .int p0)]) hx hb dX10_writeBytes_43 hl (k := 0) rfl (by decide) (by decide) rfl (fun ls hl => ?_)
          refine lv_goto (tgt := 3) hx hb dX10_writeBytes_46 (by decide) ?_
          refine lv_iload_n hx hb dX10_writeBytes_3 rfl (lv_at hl 0 rfl) ?_
          refine lv_if_lt (tgt := 49) hx hb dX10_writeBytes_4 (by decide) (fun _ => ?_) (fun c_81 => absurd (by decide) c_81)
          obtain ⟨hP9, hD9⟩ := z_sb (L' := [(x0, .inr (10, [.ref w0, .ref z0, .ref xi, .ref xt, .int x80, .ref xq, .int x_lc, .ref rdr, .ref h0, .ref t0, .ref q0, .ref v0, .ref m0])), (xt, .inl (kA 0, 400, .inl f79))]) hP hD [0, 1] (by decide) rfl
          refine W.widen (k := 0) (n := 0) (Nat.le_of_ble_eq_true rfl) (Nat.le_of_ble_eq_true rfl) ?_
          exact W.vret hx hb hr (fun t ht hW => ⟨⟨(x80, f79), rfl, ⟨(hG.trans hG0.symm), (z_nn ex80 c_76 (z_nn ex72 c_50 (z_nn ex48 c_2 ntl)))⟩, by rw [ht]; exact hP9, hD9⟩, hS.F ht⟩) hS.2.2 dX10_writeBytes_49
      · have hG := zelse hG c_74
        refine lv_aload_n hx hb dX10_writeBytes_17 rfl (lv_at hl 1 rfl) ?_
        refine va_get (D := (dC, dI)) (ci := 10) (v := .ref xt) (C := RX10) (T := TX10) (N := 13) hx hb hts iX10_writeBytes_X10 hown hK.1 hP 0 gz0 vcz10 3 (by decide) (kX10_writeBytes_2 hts) (fun _ h9 => h9) gz3 dX10_writeBytes_18 ?_
        refine lv_aload_n hx hb dX10_writeBytes_21 rfl (lv_at hl 1 rfl) ?_
        refine va_get (D := (dC, dI)) (ci := 10) (v := .int x72) (C := RX10) (T := TX10) (N := 13) hx hb hts iX10_writeBytes_X10 hown hK.1 hP 0 gz0 vcz10 4 (by decide) (kX10_writeBytes_1 hts) (fun _ h9 => h9) gz4 dX10_writeBytes_22 ?_
        refine lv_iload_n hx hb dX10_writeBytes_25 rfl (lv_at hl 2 rfl) ?_
        refine lv_iload_n hx hb dX10_writeBytes_26 rfl (lv_at hl 0 rfl) ?_
        refine lv_iushr hx hb dX10_writeBytes_27 rfl ?_
        refine lv_topi (fun x82 ex82 => ?_)
        have hG := zbnd hG ex82
        refine lv_sipush (v := 255) hx hb dX10_writeBytes_28 (by decide) ?_
        refine lv_iand hx hb dX10_writeBytes_31 ?_
        refine va_iast hx hb hK.1 hP hD hS 1 0 gz1 tzz0 (vp_lt (by decide) (z_nn ex72 c_50 (z_nn ex48 c_2 ntl)) c_74) dX10_writeBytes_32 (fun H locs hP hD hS => ?_)
        obtain ⟨hP, hD⟩ := z_re (L := [(x0, .inr (10, [.ref w0, .ref z0, .ref xi, .ref xt, .int x72, .ref xq, .int x_lc, .ref rdr, .ref h0, .ref t0, .ref q0, .ref v0, .ref m0])), (xt, .inl (kA 0, 400, .inl (upd f71 x72.toNatClampNeg (x82 &&& 255))))]) hP hD
        obtain ⟨f83, ef83⟩ : ∃ y : Nat → Int32, y = (upd f71 x72.toNatClampNeg (x82 &&& 255)) := ⟨_, rfl⟩
        rw [← ef83] at hP hD
        have hG := zbnd hG ef83
        refine lv_aload_n hx hb dX10_writeBytes_33 rfl (lv_at hl 1 rfl) ?_
        refine lv_dup hx hb dX10_writeBytes_34 rfl ?_
        refine va_get (D := (dC, dI)) (ci := 10) (v := .int x72) (C := RX10) (T := TX10) (N := 13) hx hb hts iX10_writeBytes_X10 hown hK.1 hP 0 gz0 vcz10 4 (by decide) (kX10_writeBytes_1 hts) (fun _ h9 => h9) gz4 dX10_writeBytes_35 ?_
        refine lv_iconst (v := 1) hx hb dX10_writeBytes_38 (by decide) ?_
        refine lv_iadd hx hb dX10_writeBytes_39 ?_
        refine lv_topi (fun x84 ex84 => ?_)
        have hG := zbnd hG ex84
        refine va_put (D := (dC, dI)) (ci := 10) (v := .int x84) (ty := .int) (C := RX10) (T := TX10) (N := 13) hx hb hts iX10_writeBytes_X10 tyX10 tyX10_ok nmX10 hown hK.1 hP hD hS 0 gz0 vcz10 4 (by decide) (kX10_writeBytes_1 hts) (fun _ h9 => h9) rfl pfdI rfl rfl (Nat.le_of_ble_eq_true rfl) dX10_writeBytes_40 (fun H locs hP hD hS => ?_)
        obtain ⟨hP, hD⟩ := z_re (L := [(x0, .inr (10, [.ref w0, .ref z0, .ref xi, .ref xt, .int x84, .ref xq, .int x_lc, .ref rdr, .ref h0, .ref t0, .ref q0, .ref v0, .ref m0])), (xt, .inl (kA 0, 400, .inl f83))]) hP hD
        refine lv_iinc (v := 0) (lv' := [(2, .int 0), (0, .ref x0), (1, .int p0)]) hx hb dX10_writeBytes_43 hl (k := 0) rfl (by decide) (by decide) rfl (fun ls hl => ?_)
        refine lv_goto (tgt := 3) hx hb dX10_writeBytes_46 (by decide) ?_
        refine lv_iload_n hx hb dX10_writeBytes_3 rfl (lv_at hl 0 rfl) ?_
        refine lv_if_lt (tgt := 49) hx hb dX10_writeBytes_4 (by decide) (fun c_85 => absurd c_85 (by decide)) (fun _ => ?_)
        refine lv_aload_n hx hb dX10_writeBytes_7 rfl (lv_at hl 1 rfl) ?_
        refine va_get (D := (dC, dI)) (ci := 10) (v := .int x84) (C := RX10) (T := TX10) (N := 13) hx hb hts iX10_writeBytes_X10 hown hK.1 hP 0 gz0 vcz10 4 (by decide) (kX10_writeBytes_1 hts) (fun _ h9 => h9) gz4 dX10_writeBytes_8 ?_
        refine lv_sipush (v := 400) hx hb dX10_writeBytes_11 (by decide) ?_
        refine lv_icmp_ge (tgt := 43) hx hb dX10_writeBytes_14 (by decide) (fun c_86 => ?_) (fun c_86 => ?_)
        · have hG := zthen hG c_86
          refine lv_iinc (v := (-8)) (lv' := [(2, .int (-8)), (0, .ref x0), (1, .int p0)]) hx hb dX10_writeBytes_43 hl (k := 0) rfl (by decide) (by decide) rfl (fun ls hl => ?_)
          refine lv_goto (tgt := 3) hx hb dX10_writeBytes_46 (by decide) ?_
          refine lv_iload_n hx hb dX10_writeBytes_3 rfl (lv_at hl 0 rfl) ?_
          refine lv_if_lt (tgt := 49) hx hb dX10_writeBytes_4 (by decide) (fun _ => ?_) (fun c_87 => absurd (by decide) c_87)
          obtain ⟨hP9, hD9⟩ := z_sb (L' := [(x0, .inr (10, [.ref w0, .ref z0, .ref xi, .ref xt, .int x84, .ref xq, .int x_lc, .ref rdr, .ref h0, .ref t0, .ref q0, .ref v0, .ref m0])), (xt, .inl (kA 0, 400, .inl f83))]) hP hD [0, 1] (by decide) rfl
          refine W.widen (k := 0) (n := 0) (Nat.le_of_ble_eq_true rfl) (Nat.le_of_ble_eq_true rfl) ?_
          exact W.vret hx hb hr (fun t ht hW => ⟨⟨(x84, f83), rfl, ⟨(hG.trans hG0.symm), (z_nn ex84 c_74 (z_nn ex72 c_50 (z_nn ex48 c_2 ntl)))⟩, by rw [ht]; exact hP9, hD9⟩, hS.F ht⟩) hS.2.2 dX10_writeBytes_49
        · have hG := zelse hG c_86
          refine lv_aload_n hx hb dX10_writeBytes_17 rfl (lv_at hl 1 rfl) ?_
          refine va_get (D := (dC, dI)) (ci := 10) (v := .ref xt) (C := RX10) (T := TX10) (N := 13) hx hb hts iX10_writeBytes_X10 hown hK.1 hP 0 gz0 vcz10 3 (by decide) (kX10_writeBytes_2 hts) (fun _ h9 => h9) gz3 dX10_writeBytes_18 ?_
          refine lv_aload_n hx hb dX10_writeBytes_21 rfl (lv_at hl 1 rfl) ?_
          refine va_get (D := (dC, dI)) (ci := 10) (v := .int x84) (C := RX10) (T := TX10) (N := 13) hx hb hts iX10_writeBytes_X10 hown hK.1 hP 0 gz0 vcz10 4 (by decide) (kX10_writeBytes_1 hts) (fun _ h9 => h9) gz4 dX10_writeBytes_22 ?_
          refine lv_iload_n hx hb dX10_writeBytes_25 rfl (lv_at hl 2 rfl) ?_
          refine lv_iload_n hx hb dX10_writeBytes_26 rfl (lv_at hl 0 rfl) ?_
          refine lv_iushr hx hb dX10_writeBytes_27 rfl ?_
          refine lv_topi (fun x88 ex88 => ?_)
          have hG := zbnd hG ex88
          refine lv_sipush (v := 255) hx hb dX10_writeBytes_28 (by decide) ?_
          refine lv_iand hx hb dX10_writeBytes_31 ?_
          refine va_iast hx hb hK.1 hP hD hS 1 0 gz1 tzz0 (vp_lt (by decide) (z_nn ex84 c_74 (z_nn ex72 c_50 (z_nn ex48 c_2 ntl))) c_86) dX10_writeBytes_32 (fun H locs hP hD hS => ?_)
          obtain ⟨hP, hD⟩ := z_re (L := [(x0, .inr (10, [.ref w0, .ref z0, .ref xi, .ref xt, .int x84, .ref xq, .int x_lc, .ref rdr, .ref h0, .ref t0, .ref q0, .ref v0, .ref m0])), (xt, .inl (kA 0, 400, .inl (upd f83 x84.toNatClampNeg (x88 &&& 255))))]) hP hD
          obtain ⟨f89, ef89⟩ : ∃ y : Nat → Int32, y = (upd f83 x84.toNatClampNeg (x88 &&& 255)) := ⟨_, rfl⟩
          rw [← ef89] at hP hD
          have hG := zbnd hG ef89
          refine lv_aload_n hx hb dX10_writeBytes_33 rfl (lv_at hl 1 rfl) ?_
          refine lv_dup hx hb dX10_writeBytes_34 rfl ?_
          refine va_get (D := (dC, dI)) (ci := 10) (v := .int x84) (C := RX10) (T := TX10) (N := 13) hx hb hts iX10_writeBytes_X10 hown hK.1 hP 0 gz0 vcz10 4 (by decide) (kX10_writeBytes_1 hts) (fun _ h9 => h9) gz4 dX10_writeBytes_35 ?_
          refine lv_iconst (v := 1) hx hb dX10_writeBytes_38 (by decide) ?_
          refine lv_iadd hx hb dX10_writeBytes_39 ?_
          refine lv_topi (fun x90 ex90 => ?_)
          have hG := zbnd hG ex90
          refine va_put (D := (dC, dI)) (ci := 10) (v := .int x90) (ty := .int) (C := RX10) (T := TX10) (N := 13) hx hb hts iX10_writeBytes_X10 tyX10 tyX10_ok nmX10 hown hK.1 hP hD hS 0 gz0 vcz10 4 (by decide) (kX10_writeBytes_1 hts) (fun _ h9 => h9) rfl pfdI rfl rfl (Nat.le_of_ble_eq_true rfl) dX10_writeBytes_40 (fun H locs hP hD hS => ?_)
          obtain ⟨hP, hD⟩ := z_re (L := [(x0, .inr (10, [.ref w0, .ref z0, .ref xi, .ref xt, .int x90, .ref xq, .int x_lc, .ref rdr, .ref h0, .ref t0, .ref q0, .ref v0, .ref m0])), (xt, .inl (kA 0, 400, .inl f89))]) hP hD
          refine lv_iinc (v := (-8)) (lv' := [(2, .int (-8)), (0, .ref x0), (1, .int p0)]) hx hb dX10_writeBytes_43 hl (k := 0) rfl (by decide) (by decide) rfl (fun ls hl => ?_)
          refine lv_goto (tgt := 3) hx hb dX10_writeBytes_46 (by decide) ?_
          refine lv_iload_n hx hb dX10_writeBytes_3 rfl (lv_at hl 0 rfl) ?_
          refine lv_if_lt (tgt := 49) hx hb dX10_writeBytes_4 (by decide) (fun _ => ?_) (fun c_91 => absurd (by decide) c_91)
          obtain ⟨hP9, hD9⟩ := z_sb (L' := [(x0, .inr (10, [.ref w0, .ref z0, .ref xi, .ref xt, .int x90, .ref xq, .int x_lc, .ref rdr, .ref h0, .ref t0, .ref q0, .ref v0, .ref m0])), (xt, .inl (kA 0, 400, .inl f89))]) hP hD [0, 1] (by decide) rfl
          refine W.widen (k := 0) (n := 0) (Nat.le_of_ble_eq_true rfl) (Nat.le_of_ble_eq_true rfl) ?_
          exact W.vret hx hb hr (fun t ht hW => ⟨⟨(x90, f89), rfl, ⟨(hG.trans hG0.symm), (z_nn ex90 c_86 (z_nn ex84 c_74 (z_nn ex72 c_50 (z_nn ex48 c_2 ntl))))⟩, by rw [ht]; exact hP9, hD9⟩, hS.F ht⟩) hS.2.2 dX10_writeBytes_49
set_option maxHeartbeats 4000000 in
set_option maxRecDepth 100000 in
theorem mX10_tick_no (l : Launch) (dC : Nat → ClassId) (dI : Nat → Nat → Nat) (kA : Nat → ClassId) (sz : Nat) (x0 : Nat) (z0 : Nat) (xi : Nat) (xt : Nat) (xq : Nat) (rdr : Nat) (h0 : Nat) (t0 : Nat) (q0 : Nat) (v0 : Nat) (m0 : Nat) (w0 : Nat) (x_tl : Int32) (x_lc : Int32) (xqF : Nat → Option Nat) (p0 : Int32) (p1 : Int32) (hsel : (sel p0 x_lc xqF) = none) : Met l yX10_tick wsX10_tick ({ frames := 2, cells := 0, slots := 0, locals := 42 }) (zPc dC dI kA sz [.ref x0, .int p0, .int p1] [(x0, .inr (10, [.ref w0, .ref z0, .ref xi, .ref xt, .int x_tl, .ref xq, .int x_lc, .ref rdr, .ref h0, .ref t0, .ref q0, .ref v0, .ref m0])), (xq, .inl (kA 5, 6, .inr (.inr (.inr (.inr xqF)))))]) (va_Qi (fun (r : Int32) (u : Unit) => r = (-1)) (zB dC dI (va_A [(x0, .inr (10, [.ref w0, .ref z0, .ref xi, .ref xt, .int x_tl, .ref xq, .int x_lc, .ref rdr, .ref h0, .ref t0, .ref q0, .ref v0, .ref m0])), (xq, .inl (kA 5, 6, .inr (.inr (.inr (.inr xqF)))))] sz) (fun (u : Unit) => [(x0, .inr (10, [.ref w0, .ref z0, .ref xi, .ref xt, .int x_tl, .ref xq, .int x_lc, .ref rdr, .ref h0, .ref t0, .ref q0, .ref v0, .ref m0])), (xq, .inl (kA 5, 6, .inr (.inr (.inr (.inr xqF)))))])) (va_A [(x0, .inr (10, [.ref w0, .ref z0, .ref xi, .ref xt, .int x_tl, .ref xq, .int x_lc, .ref rdr, .ref h0, .ref t0, .ref q0, .ref v0, .ref m0])), (xq, .inl (kA 5, 6, .inr (.inr (.inr (.inr xqF)))))] sz)) 0 0 (va_A [(x0, .inr (10, [.ref w0, .ref z0, .ref xi, .ref xt, .int x_tl, .ref xq, .int x_lc, .ref rdr, .ref h0, .ref t0, .ref q0, .ref v0, .ref m0])), (xq, .inl (kA 5, 6, .inr (.inr (.inr (.inr xqF)))))] sz) := by
  refine Met.ofW (cc := cX10_tick) (maxL := 5) (ret := (some .int)) pnX10 rfl ?_
  intro p e s m args below meth c s₁ B hml hv
  obtain ⟨rfl, hsz, hP, hK, hD0⟩ := hv
  have hx := B.exec
  have hb := B.bytes
  have hr := B.returns
  have hts := atoms_spec (ws := wsX10_tick) B.pre
  have hown : s.vm.findClass RX10 = some m.cls := findClass_of_methodNamed B.named
  have hlocks := B.notSynchronized
  subst hsz
  have hD := hD0.self (sz := s.heap.size)
  generalize hAe : va_A [(x0, .inr (10, [.ref w0, .ref z0, .ref xi, .ref xt, .int x_tl, .ref xq, .int x_lc, .ref rdr, .ref h0, .ref t0, .ref q0, .ref v0, .ref m0])), (xq, .inl (kA 5, 6, .inr (.inr (.inr (.inr xqF)))))] s.heap.size = A at hD ⊢
  have hA : ∀ q : Nat, s.heap.size ≤ q → A q := zA_of hAe
  have hS : va_S A s.heap s.heap [] := va_S.rf
  have hP : va_P (dC, dI) vwCl [(x0, .inr (10, [.ref w0, .ref z0, .ref xi, .ref xt, .int x_tl, .ref xq, .int x_lc, .ref rdr, .ref h0, .ref t0, .ref q0, .ref v0, .ref m0])), (xq, .inl (kA 5, 6, .inr (.inr (.inr (.inr xqF)))))] s.heap := hP
  have hl := lv_entry ([.ref x0, .int p0, .int p1]) (n := 5) (Nat.le_of_ble_eq_true rfl)
  rw [lg_entry_eq]
  generalize (lg_sl ([.ref x0, .int p0, .int p1]) ++ List.replicate (5 - (lg_sl ([.ref x0, .int p0, .int p1])).length) Slot.unset).toArray = ls at hl ⊢
  have hl : lv_has ls 5 [(0, .ref x0), (1, .int p0), (2, .int p1)] := hl
  refine lv_aload_n hx hb dX10_tick_0 rfl (lv_at hl 0 rfl) ?_
  refine lv_iload_n hx hb dX10_tick_1 rfl (lv_at hl 1 rfl) ?_
  refine z_q (wr := []) (va_runV (As := [.int p0]) (rest := []) ⟨hx, hb, hml, hown, hts⟩ (mX10_lawOf l dC dI kA _ x0 z0 xi xt xq rdr h0 t0 q0 v0 m0 w0 x_tl x_lc xqF p0) (cwV 1 hts gX10_tick_X10_lawOf rfl rfl rfl ⟨rfl, hdX10_lawOf⟩ ⟨(Nat.le_of_ble_eq_true rfl), (Nat.le_of_ble_eq_true rfl)⟩) ⟨zPc.blind, va_recv (q := (RX10, TX10, 13)) hK.1 hP (ci := 10) (q0 := 0) rfl rfl, zPre hK (hP.sub [0, 1] rfl) (hD.sub [0, 1] (by decide) rfl)⟩ rfl rfl hl.1 rfl (lv_room (Nat.le_of_ble_eq_true rfl)) dX10_tick_2 ⟨(Nat.le_of_ble_eq_true rfl), (Nat.le_of_ble_eq_true rfl)⟩) hP hD hS hA [0, 1] [] rfl rfl (by decide) (by decide) (fun r3 u1 H locs hw2 hP hD hS => ?_)
  obtain rfl := hw2
  obtain ⟨hP, hD⟩ := z_re (L := [(x0, .inr (10, [.ref w0, .ref z0, .ref xi, .ref xt, .int x_tl, .ref xq, .int x_lc, .ref rdr, .ref h0, .ref t0, .ref q0, .ref v0, .ref m0])), (xq, .inl (kA 5, 6, .inr (.inr (.inr (.inr xqF)))))]) hP hD
  refine zv .null (by rw [hsel]; rfl) ?_
  refine lv_astore_nN (lv' := [(3, .null), (0, .ref x0), (1, .int p0), (2, .int p1)]) hx hb dX10_tick_5 rfl hl (by decide) rfl (fun ls hl => ?_)
  refine lv_aload_nN hx hb dX10_tick_6 rfl (lv_at hl 0 rfl) ?_
  refine lv_ifnullN (tgt := 36) hx hb dX10_tick_7 (by decide) ?_
  refine lv_iconst (v := (-1)) hx hb dX10_tick_36 (by decide) ?_
  obtain ⟨hP9, hD9⟩ := z_sb (L' := [(x0, .inr (10, [.ref w0, .ref z0, .ref xi, .ref xt, .int x_tl, .ref xq, .int x_lc, .ref rdr, .ref h0, .ref t0, .ref q0, .ref v0, .ref m0])), (xq, .inl (kA 5, 6, .inr (.inr (.inr (.inr xqF)))))]) hP hD [0, 1] (by decide) rfl
  refine W.widen (k := 0) (n := 0) (Nat.le_of_ble_eq_true rfl) (Nat.le_of_ble_eq_true rfl) ?_
  exact W.iret (v := (-1)) hx hb hr (fun t ht hW => ⟨⟨(-1), (), rfl, rfl, by rw [ht]; exact hP9, hD9⟩, hS.F ht⟩) hS.2.2 dX10_tick_37
set_option maxHeartbeats 4000000 in
set_option maxRecDepth 100000 in
theorem mX10_melt_no (l : Launch) (dC : Nat → ClassId) (dI : Nat → Nat → Nat) (kA : Nat → ClassId) (sz : Nat) (x0 : Nat) (z0 : Nat) (xi : Nat) (xt : Nat) (xq : Nat) (rdr : Nat) (h0 : Nat) (t0 : Nat) (q0 : Nat) (v0 : Nat) (m0 : Nat) (w0 : Nat) (x_tl : Int32) (x_lc : Int32) (xqF : Nat → Option Nat) (p0 : Int32) (p1 : Int32) (hsel : (sel p0 x_lc xqF) = none) : Met l yX10_melt wsX10_melt ({ frames := 2, cells := 0, slots := 0, locals := 42 }) (zPc dC dI kA sz [.ref x0, .int p0, .int p1] [(x0, .inr (10, [.ref w0, .ref z0, .ref xi, .ref xt, .int x_tl, .ref xq, .int x_lc, .ref rdr, .ref h0, .ref t0, .ref q0, .ref v0, .ref m0])), (xq, .inl (kA 5, 6, .inr (.inr (.inr (.inr xqF)))))]) (va_Qi (fun (r : Int32) (u : Unit) => r = (-1)) (zB dC dI (va_A [(x0, .inr (10, [.ref w0, .ref z0, .ref xi, .ref xt, .int x_tl, .ref xq, .int x_lc, .ref rdr, .ref h0, .ref t0, .ref q0, .ref v0, .ref m0])), (xq, .inl (kA 5, 6, .inr (.inr (.inr (.inr xqF)))))] sz) (fun (u : Unit) => [(x0, .inr (10, [.ref w0, .ref z0, .ref xi, .ref xt, .int x_tl, .ref xq, .int x_lc, .ref rdr, .ref h0, .ref t0, .ref q0, .ref v0, .ref m0])), (xq, .inl (kA 5, 6, .inr (.inr (.inr (.inr xqF)))))])) (va_A [(x0, .inr (10, [.ref w0, .ref z0, .ref xi, .ref xt, .int x_tl, .ref xq, .int x_lc, .ref rdr, .ref h0, .ref t0, .ref q0, .ref v0, .ref m0])), (xq, .inl (kA 5, 6, .inr (.inr (.inr (.inr xqF)))))] sz)) 0 0 (va_A [(x0, .inr (10, [.ref w0, .ref z0, .ref xi, .ref xt, .int x_tl, .ref xq, .int x_lc, .ref rdr, .ref h0, .ref t0, .ref q0, .ref v0, .ref m0])), (xq, .inl (kA 5, 6, .inr (.inr (.inr (.inr xqF)))))] sz) := by
  refine Met.ofW (cc := cX10_melt) (maxL := 4) (ret := (some .int)) pnX10 rfl ?_
  intro p e s m args below meth c s₁ B hml hv
  obtain ⟨rfl, hsz, hP, hK, hD0⟩ := hv
  have hx := B.exec
  have hb := B.bytes
  have hr := B.returns
  have hts := atoms_spec (ws := wsX10_melt) B.pre
  have hown : s.vm.findClass RX10 = some m.cls := findClass_of_methodNamed B.named
  have hlocks := B.notSynchronized
  subst hsz
  have hD := hD0.self (sz := s.heap.size)
  generalize hAe : va_A [(x0, .inr (10, [.ref w0, .ref z0, .ref xi, .ref xt, .int x_tl, .ref xq, .int x_lc, .ref rdr, .ref h0, .ref t0, .ref q0, .ref v0, .ref m0])), (xq, .inl (kA 5, 6, .inr (.inr (.inr (.inr xqF)))))] s.heap.size = A at hD ⊢
  have hA : ∀ q : Nat, s.heap.size ≤ q → A q := zA_of hAe
  have hS : va_S A s.heap s.heap [] := va_S.rf
  have hP : va_P (dC, dI) vwCl [(x0, .inr (10, [.ref w0, .ref z0, .ref xi, .ref xt, .int x_tl, .ref xq, .int x_lc, .ref rdr, .ref h0, .ref t0, .ref q0, .ref v0, .ref m0])), (xq, .inl (kA 5, 6, .inr (.inr (.inr (.inr xqF)))))] s.heap := hP
  have hl := lv_entry ([.ref x0, .int p0, .int p1]) (n := 4) (Nat.le_of_ble_eq_true rfl)
  rw [lg_entry_eq]
  generalize (lg_sl ([.ref x0, .int p0, .int p1]) ++ List.replicate (4 - (lg_sl ([.ref x0, .int p0, .int p1])).length) Slot.unset).toArray = ls at hl ⊢
  have hl : lv_has ls 4 [(0, .ref x0), (1, .int p0), (2, .int p1)] := hl
  refine lv_aload_n hx hb dX10_melt_0 rfl (lv_at hl 0 rfl) ?_
  refine lv_iload_n hx hb dX10_melt_1 rfl (lv_at hl 1 rfl) ?_
  refine z_q (wr := []) (va_runV (As := [.int p0]) (rest := []) ⟨hx, hb, hml, hown, hts⟩ (mX10_lawOf l dC dI kA _ x0 z0 xi xt xq rdr h0 t0 q0 v0 m0 w0 x_tl x_lc xqF p0) (cwV 1 hts gX10_melt_X10_lawOf rfl rfl rfl ⟨rfl, hdX10_lawOf⟩ ⟨(Nat.le_of_ble_eq_true rfl), (Nat.le_of_ble_eq_true rfl)⟩) ⟨zPc.blind, va_recv (q := (RX10, TX10, 13)) hK.1 hP (ci := 10) (q0 := 0) rfl rfl, zPre hK (hP.sub [0, 1] rfl) (hD.sub [0, 1] (by decide) rfl)⟩ rfl rfl hl.1 rfl (lv_room (Nat.le_of_ble_eq_true rfl)) dX10_melt_2 ⟨(Nat.le_of_ble_eq_true rfl), (Nat.le_of_ble_eq_true rfl)⟩) hP hD hS hA [0, 1] [] rfl rfl (by decide) (by decide) (fun r3 u1 H locs hw2 hP hD hS => ?_)
  obtain rfl := hw2
  obtain ⟨hP, hD⟩ := z_re (L := [(x0, .inr (10, [.ref w0, .ref z0, .ref xi, .ref xt, .int x_tl, .ref xq, .int x_lc, .ref rdr, .ref h0, .ref t0, .ref q0, .ref v0, .ref m0])), (xq, .inl (kA 5, 6, .inr (.inr (.inr (.inr xqF)))))]) hP hD
  refine zv .null (by rw [hsel]; rfl) ?_
  refine lv_astore_nN (lv' := [(3, .null), (0, .ref x0), (1, .int p0), (2, .int p1)]) hx hb dX10_melt_5 rfl hl (by decide) rfl (fun ls hl => ?_)
  refine lv_aload_nN hx hb dX10_melt_6 rfl (lv_at hl 0 rfl) ?_
  refine lv_ifnullN (tgt := 41) hx hb dX10_melt_7 (by decide) ?_
  refine lv_iconst (v := (-1)) hx hb dX10_melt_41 (by decide) ?_
  obtain ⟨hP9, hD9⟩ := z_sb (L' := [(x0, .inr (10, [.ref w0, .ref z0, .ref xi, .ref xt, .int x_tl, .ref xq, .int x_lc, .ref rdr, .ref h0, .ref t0, .ref q0, .ref v0, .ref m0])), (xq, .inl (kA 5, 6, .inr (.inr (.inr (.inr xqF)))))]) hP hD [0, 1] (by decide) rfl
  refine W.widen (k := 0) (n := 0) (Nat.le_of_ble_eq_true rfl) (Nat.le_of_ble_eq_true rfl) ?_
  exact W.iret (v := (-1)) hx hb hr (fun t ht hW => ⟨⟨(-1), (), rfl, rfl, by rw [ht]; exact hP9, hD9⟩, hS.F ht⟩) hS.2.2 dX10_melt_42
set_option maxHeartbeats 4000000 in
set_option maxRecDepth 100000 in
theorem mX10_tried_no (l : Launch) (dC : Nat → ClassId) (dI : Nat → Nat → Nat) (kA : Nat → ClassId) (sz : Nat) (x0 : Nat) (z0 : Nat) (xi : Nat) (xt : Nat) (xq : Nat) (rdr : Nat) (h0 : Nat) (t0 : Nat) (q0 : Nat) (v0 : Nat) (m0 : Nat) (w0 : Nat) (x_tl : Int32) (x_lc : Int32) (xqF : Nat → Option Nat) (p0 : Int32) (p1 : Int32) (p2 : Int32) (p3 : Int32) (p4 : Int32) (p5 : Int32) (hsel : (sel p0 x_lc xqF) = none) : Met l yX10_tried wsX10_tried ({ frames := 2, cells := 0, slots := 0, locals := 42 }) (zPc dC dI kA sz [.ref x0, .int p0, .int p1, .int p2, .int p3, .int p4, .int p5] [(x0, .inr (10, [.ref w0, .ref z0, .ref xi, .ref xt, .int x_tl, .ref xq, .int x_lc, .ref rdr, .ref h0, .ref t0, .ref q0, .ref v0, .ref m0])), (xq, .inl (kA 5, 6, .inr (.inr (.inr (.inr xqF)))))]) (va_Qi (fun (r : Int32) (u : Unit) => r = (-1)) (zB dC dI (va_A [(x0, .inr (10, [.ref w0, .ref z0, .ref xi, .ref xt, .int x_tl, .ref xq, .int x_lc, .ref rdr, .ref h0, .ref t0, .ref q0, .ref v0, .ref m0])), (xq, .inl (kA 5, 6, .inr (.inr (.inr (.inr xqF)))))] sz) (fun (u : Unit) => [(x0, .inr (10, [.ref w0, .ref z0, .ref xi, .ref xt, .int x_tl, .ref xq, .int x_lc, .ref rdr, .ref h0, .ref t0, .ref q0, .ref v0, .ref m0])), (xq, .inl (kA 5, 6, .inr (.inr (.inr (.inr xqF)))))])) (va_A [(x0, .inr (10, [.ref w0, .ref z0, .ref xi, .ref xt, .int x_tl, .ref xq, .int x_lc, .ref rdr, .ref h0, .ref t0, .ref q0, .ref v0, .ref m0])), (xq, .inl (kA 5, 6, .inr (.inr (.inr (.inr xqF)))))] sz)) 0 0 (va_A [(x0, .inr (10, [.ref w0, .ref z0, .ref xi, .ref xt, .int x_tl, .ref xq, .int x_lc, .ref rdr, .ref h0, .ref t0, .ref q0, .ref v0, .ref m0])), (xq, .inl (kA 5, 6, .inr (.inr (.inr (.inr xqF)))))] sz) := by
  refine Met.ofW (cc := cX10_tried) (maxL := 8) (ret := (some .int)) pnX10 rfl ?_
  intro p e s m args below meth c s₁ B hml hv
  obtain ⟨rfl, hsz, hP, hK, hD0⟩ := hv
  have hx := B.exec
  have hb := B.bytes
  have hr := B.returns
  have hts := atoms_spec (ws := wsX10_tried) B.pre
  have hown : s.vm.findClass RX10 = some m.cls := findClass_of_methodNamed B.named
  have hlocks := B.notSynchronized
  subst hsz
  have hD := hD0.self (sz := s.heap.size)
  generalize hAe : va_A [(x0, .inr (10, [.ref w0, .ref z0, .ref xi, .ref xt, .int x_tl, .ref xq, .int x_lc, .ref rdr, .ref h0, .ref t0, .ref q0, .ref v0, .ref m0])), (xq, .inl (kA 5, 6, .inr (.inr (.inr (.inr xqF)))))] s.heap.size = A at hD ⊢
  have hA : ∀ q : Nat, s.heap.size ≤ q → A q := zA_of hAe
  have hS : va_S A s.heap s.heap [] := va_S.rf
  have hP : va_P (dC, dI) vwCl [(x0, .inr (10, [.ref w0, .ref z0, .ref xi, .ref xt, .int x_tl, .ref xq, .int x_lc, .ref rdr, .ref h0, .ref t0, .ref q0, .ref v0, .ref m0])), (xq, .inl (kA 5, 6, .inr (.inr (.inr (.inr xqF)))))] s.heap := hP
  have hl := lv_entry ([.ref x0, .int p0, .int p1, .int p2, .int p3, .int p4, .int p5]) (n := 8) (Nat.le_of_ble_eq_true rfl)
  rw [lg_entry_eq]
  generalize (lg_sl ([.ref x0, .int p0, .int p1, .int p2, .int p3, .int p4, .int p5]) ++ List.replicate (8 - (lg_sl ([.ref x0, .int p0, .int p1, .int p2, .int p3, .int p4, .int p5])).length) Slot.unset).toArray = ls at hl ⊢
  have hl : lv_has ls 8 [(0, .ref x0), (1, .int p0), (2, .int p1), (3, .int p2), (4, .int p3), (5, .int p4), (6, .int p5)] := hl
  refine lv_aload_n hx hb dX10_tried_0 rfl (lv_at hl 0 rfl) ?_
  refine lv_iload_n hx hb dX10_tried_1 rfl (lv_at hl 1 rfl) ?_
  refine z_q (wr := []) (va_runV (As := [.int p0]) (rest := []) ⟨hx, hb, hml, hown, hts⟩ (mX10_lawOf l dC dI kA _ x0 z0 xi xt xq rdr h0 t0 q0 v0 m0 w0 x_tl x_lc xqF p0) (cwV 1 hts gX10_tried_X10_lawOf rfl rfl rfl ⟨rfl, hdX10_lawOf⟩ ⟨(Nat.le_of_ble_eq_true rfl), (Nat.le_of_ble_eq_true rfl)⟩) ⟨zPc.blind, va_recv (q := (RX10, TX10, 13)) hK.1 hP (ci := 10) (q0 := 0) rfl rfl, zPre hK (hP.sub [0, 1] rfl) (hD.sub [0, 1] (by decide) rfl)⟩ rfl rfl hl.1 rfl (lv_room (Nat.le_of_ble_eq_true rfl)) dX10_tried_2 ⟨(Nat.le_of_ble_eq_true rfl), (Nat.le_of_ble_eq_true rfl)⟩) hP hD hS hA [0, 1] [] rfl rfl (by decide) (by decide) (fun r3 u1 H locs hw2 hP hD hS => ?_)
  obtain rfl := hw2
  obtain ⟨hP, hD⟩ := z_re (L := [(x0, .inr (10, [.ref w0, .ref z0, .ref xi, .ref xt, .int x_tl, .ref xq, .int x_lc, .ref rdr, .ref h0, .ref t0, .ref q0, .ref v0, .ref m0])), (xq, .inl (kA 5, 6, .inr (.inr (.inr (.inr xqF)))))]) hP hD
  refine zv .null (by rw [hsel]; rfl) ?_
  refine lv_astoreN (lv' := [(7, .null), (0, .ref x0), (1, .int p0), (2, .int p1), (3, .int p2), (4, .int p3), (5, .int p4), (6, .int p5)]) hx hb dX10_tried_5 hl (by decide) rfl (fun ls hl => ?_)
  refine lv_aloadN hx hb dX10_tried_7 (lv_at hl 0 rfl) ?_
  refine lv_ifnullN (tgt := 44) hx hb dX10_tried_9 (by decide) ?_
  refine lv_iconst (v := (-1)) hx hb dX10_tried_44 (by decide) ?_
  obtain ⟨hP9, hD9⟩ := z_sb (L' := [(x0, .inr (10, [.ref w0, .ref z0, .ref xi, .ref xt, .int x_tl, .ref xq, .int x_lc, .ref rdr, .ref h0, .ref t0, .ref q0, .ref v0, .ref m0])), (xq, .inl (kA 5, 6, .inr (.inr (.inr (.inr xqF)))))]) hP hD [0, 1] (by decide) rfl
  refine W.widen (k := 0) (n := 0) (Nat.le_of_ble_eq_true rfl) (Nat.le_of_ble_eq_true rfl) ?_
  exact W.iret (v := (-1)) hx hb hr (fun t ht hW => ⟨⟨(-1), (), rfl, rfl, by rw [ht]; exact hP9, hD9⟩, hS.F ht⟩) hS.2.2 dX10_tried_45
set_option maxHeartbeats 4000000 in
set_option maxRecDepth 100000 in
theorem mX10_best_no (l : Launch) (dC : Nat → ClassId) (dI : Nat → Nat → Nat) (kA : Nat → ClassId) (sz : Nat) (x0 : Nat) (z0 : Nat) (xi : Nat) (xt : Nat) (xq : Nat) (rdr : Nat) (h0 : Nat) (t0 : Nat) (q0 : Nat) (v0 : Nat) (m0 : Nat) (w0 : Nat) (x_tl : Int32) (x_lc : Int32) (xqF : Nat → Option Nat) (p0 : Int32) (p1 : Int32) (p2 : Int32) (p3 : Int32) (p4 : Int32) (p5 : Int32) (p6 : Int32) (p7 : Int32) (hsel : (sel p0 x_lc xqF) = none) : Met l yX10_best wsX10_best ({ frames := 2, cells := 0, slots := 0, locals := 42 }) (zPc dC dI kA sz [.ref x0, .int p0, .int p1, .int p2, .int p3, .int p4, .int p5, .int p6, .int p7] [(x0, .inr (10, [.ref w0, .ref z0, .ref xi, .ref xt, .int x_tl, .ref xq, .int x_lc, .ref rdr, .ref h0, .ref t0, .ref q0, .ref v0, .ref m0])), (xq, .inl (kA 5, 6, .inr (.inr (.inr (.inr xqF)))))]) (va_Qi (fun (r : Int32) (u : Unit) => r = (-1)) (zB dC dI (va_A [(x0, .inr (10, [.ref w0, .ref z0, .ref xi, .ref xt, .int x_tl, .ref xq, .int x_lc, .ref rdr, .ref h0, .ref t0, .ref q0, .ref v0, .ref m0])), (xq, .inl (kA 5, 6, .inr (.inr (.inr (.inr xqF)))))] sz) (fun (u : Unit) => [(x0, .inr (10, [.ref w0, .ref z0, .ref xi, .ref xt, .int x_tl, .ref xq, .int x_lc, .ref rdr, .ref h0, .ref t0, .ref q0, .ref v0, .ref m0])), (xq, .inl (kA 5, 6, .inr (.inr (.inr (.inr xqF)))))])) (va_A [(x0, .inr (10, [.ref w0, .ref z0, .ref xi, .ref xt, .int x_tl, .ref xq, .int x_lc, .ref rdr, .ref h0, .ref t0, .ref q0, .ref v0, .ref m0])), (xq, .inl (kA 5, 6, .inr (.inr (.inr (.inr xqF)))))] sz)) 0 0 (va_A [(x0, .inr (10, [.ref w0, .ref z0, .ref xi, .ref xt, .int x_tl, .ref xq, .int x_lc, .ref rdr, .ref h0, .ref t0, .ref q0, .ref v0, .ref m0])), (xq, .inl (kA 5, 6, .inr (.inr (.inr (.inr xqF)))))] sz) := by
  refine Met.ofW (cc := cX10_best) (maxL := 10) (ret := (some .int)) pnX10 rfl ?_
  intro p e s m args below meth c s₁ B hml hv
  obtain ⟨rfl, hsz, hP, hK, hD0⟩ := hv
  have hx := B.exec
  have hb := B.bytes
  have hr := B.returns
  have hts := atoms_spec (ws := wsX10_best) B.pre
  have hown : s.vm.findClass RX10 = some m.cls := findClass_of_methodNamed B.named
  have hlocks := B.notSynchronized
  subst hsz
  have hD := hD0.self (sz := s.heap.size)
  generalize hAe : va_A [(x0, .inr (10, [.ref w0, .ref z0, .ref xi, .ref xt, .int x_tl, .ref xq, .int x_lc, .ref rdr, .ref h0, .ref t0, .ref q0, .ref v0, .ref m0])), (xq, .inl (kA 5, 6, .inr (.inr (.inr (.inr xqF)))))] s.heap.size = A at hD ⊢
  have hA : ∀ q : Nat, s.heap.size ≤ q → A q := zA_of hAe
  have hS : va_S A s.heap s.heap [] := va_S.rf
  have hP : va_P (dC, dI) vwCl [(x0, .inr (10, [.ref w0, .ref z0, .ref xi, .ref xt, .int x_tl, .ref xq, .int x_lc, .ref rdr, .ref h0, .ref t0, .ref q0, .ref v0, .ref m0])), (xq, .inl (kA 5, 6, .inr (.inr (.inr (.inr xqF)))))] s.heap := hP
  have hl := lv_entry ([.ref x0, .int p0, .int p1, .int p2, .int p3, .int p4, .int p5, .int p6, .int p7]) (n := 10) (Nat.le_of_ble_eq_true rfl)
  rw [lg_entry_eq]
  generalize (lg_sl ([.ref x0, .int p0, .int p1, .int p2, .int p3, .int p4, .int p5, .int p6, .int p7]) ++ List.replicate (10 - (lg_sl ([.ref x0, .int p0, .int p1, .int p2, .int p3, .int p4, .int p5, .int p6, .int p7])).length) Slot.unset).toArray = ls at hl ⊢
  have hl : lv_has ls 10 [(0, .ref x0), (1, .int p0), (2, .int p1), (3, .int p2), (4, .int p3), (5, .int p4), (6, .int p5), (7, .int p6), (8, .int p7)] := hl
  refine lv_aload_n hx hb dX10_best_0 rfl (lv_at hl 0 rfl) ?_
  refine lv_iload_n hx hb dX10_best_1 rfl (lv_at hl 1 rfl) ?_
  refine z_q (wr := []) (va_runV (As := [.int p0]) (rest := []) ⟨hx, hb, hml, hown, hts⟩ (mX10_lawOf l dC dI kA _ x0 z0 xi xt xq rdr h0 t0 q0 v0 m0 w0 x_tl x_lc xqF p0) (cwV 1 hts gX10_best_X10_lawOf rfl rfl rfl ⟨rfl, hdX10_lawOf⟩ ⟨(Nat.le_of_ble_eq_true rfl), (Nat.le_of_ble_eq_true rfl)⟩) ⟨zPc.blind, va_recv (q := (RX10, TX10, 13)) hK.1 hP (ci := 10) (q0 := 0) rfl rfl, zPre hK (hP.sub [0, 1] rfl) (hD.sub [0, 1] (by decide) rfl)⟩ rfl rfl hl.1 rfl (lv_room (Nat.le_of_ble_eq_true rfl)) dX10_best_2 ⟨(Nat.le_of_ble_eq_true rfl), (Nat.le_of_ble_eq_true rfl)⟩) hP hD hS hA [0, 1] [] rfl rfl (by decide) (by decide) (fun r3 u1 H locs hw2 hP hD hS => ?_)
  obtain rfl := hw2
  obtain ⟨hP, hD⟩ := z_re (L := [(x0, .inr (10, [.ref w0, .ref z0, .ref xi, .ref xt, .int x_tl, .ref xq, .int x_lc, .ref rdr, .ref h0, .ref t0, .ref q0, .ref v0, .ref m0])), (xq, .inl (kA 5, 6, .inr (.inr (.inr (.inr xqF)))))]) hP hD
  refine zv .null (by rw [hsel]; rfl) ?_
  refine lv_astoreN (lv' := [(9, .null), (0, .ref x0), (1, .int p0), (2, .int p1), (3, .int p2), (4, .int p3), (5, .int p4), (6, .int p5), (7, .int p6), (8, .int p7)]) hx hb dX10_best_5 hl (by decide) rfl (fun ls hl => ?_)
  refine lv_aloadN hx hb dX10_best_7 (lv_at hl 0 rfl) ?_
  refine lv_ifnullN (tgt := 45) hx hb dX10_best_9 (by decide) ?_
  refine lv_iconst (v := (-1)) hx hb dX10_best_45 (by decide) ?_
  obtain ⟨hP9, hD9⟩ := z_sb (L' := [(x0, .inr (10, [.ref w0, .ref z0, .ref xi, .ref xt, .int x_tl, .ref xq, .int x_lc, .ref rdr, .ref h0, .ref t0, .ref q0, .ref v0, .ref m0])), (xq, .inl (kA 5, 6, .inr (.inr (.inr (.inr xqF)))))]) hP hD [0, 1] (by decide) rfl
  refine W.widen (k := 0) (n := 0) (Nat.le_of_ble_eq_true rfl) (Nat.le_of_ble_eq_true rfl) ?_
  exact W.iret (v := (-1)) hx hb hr (fun t ht hW => ⟨⟨(-1), (), rfl, rfl, by rw [ht]; exact hP9, hD9⟩, hS.F ht⟩) hS.2.2 dX10_best_46
set_option maxHeartbeats 4000000 in
set_option maxRecDepth 100000 in
theorem mX10_warmer_no (l : Launch) (dC : Nat → ClassId) (dI : Nat → Nat → Nat) (kA : Nat → ClassId) (sz : Nat) (x0 : Nat) (z0 : Nat) (xi : Nat) (xt : Nat) (xq : Nat) (rdr : Nat) (h0 : Nat) (t0 : Nat) (q0 : Nat) (v0 : Nat) (m0 : Nat) (w0 : Nat) (x_tl : Int32) (x_lc : Int32) (xqF : Nat → Option Nat) (p0 : Int32) (p1 : Int32) (p2 : Int32) (p3 : Int32) (p4 : Int32) (p5 : Int32) (hsel : (sel p0 x_lc xqF) = none) : Met l yX10_warmer wsX10_warmer ({ frames := 3, cells := 0, slots := 0, locals := 65 }) (zPc dC dI kA sz [.ref x0, .int p0, .int p1, .int p2, .int p3, .int p4, .int p5] [(x0, .inr (10, [.ref w0, .ref z0, .ref xi, .ref xt, .int x_tl, .ref xq, .int x_lc, .ref rdr, .ref h0, .ref t0, .ref q0, .ref v0, .ref m0])), (xq, .inl (kA 5, 6, .inr (.inr (.inr (.inr xqF)))))]) (va_Qi (fun (r : Int32) (u : Unit) => r = (-1)) (zB dC dI (va_A [(x0, .inr (10, [.ref w0, .ref z0, .ref xi, .ref xt, .int x_tl, .ref xq, .int x_lc, .ref rdr, .ref h0, .ref t0, .ref q0, .ref v0, .ref m0])), (xq, .inl (kA 5, 6, .inr (.inr (.inr (.inr xqF)))))] sz) (fun (u : Unit) => [(x0, .inr (10, [.ref w0, .ref z0, .ref xi, .ref xt, .int x_tl, .ref xq, .int x_lc, .ref rdr, .ref h0, .ref t0, .ref q0, .ref v0, .ref m0])), (xq, .inl (kA 5, 6, .inr (.inr (.inr (.inr xqF)))))])) (va_A [(x0, .inr (10, [.ref w0, .ref z0, .ref xi, .ref xt, .int x_tl, .ref xq, .int x_lc, .ref rdr, .ref h0, .ref t0, .ref q0, .ref v0, .ref m0])), (xq, .inl (kA 5, 6, .inr (.inr (.inr (.inr xqF)))))] sz)) 0 0 (va_A [(x0, .inr (10, [.ref w0, .ref z0, .ref xi, .ref xt, .int x_tl, .ref xq, .int x_lc, .ref rdr, .ref h0, .ref t0, .ref q0, .ref v0, .ref m0])), (xq, .inl (kA 5, 6, .inr (.inr (.inr (.inr xqF)))))] sz) := by
  refine Met.ofW (cc := cX10_warmer) (maxL := 10) (ret := (some .int)) pnX10 rfl ?_
  intro p e s m args below meth c s₁ B hml hv
  obtain ⟨rfl, hsz, hP, hK, hD0⟩ := hv
  have hx := B.exec
  have hb := B.bytes
  have hr := B.returns
  have hts := atoms_spec (ws := wsX10_warmer) B.pre
  have hown : s.vm.findClass RX10 = some m.cls := findClass_of_methodNamed B.named
  have hlocks := B.notSynchronized
  subst hsz
  have hD := hD0.self (sz := s.heap.size)
  generalize hAe : va_A [(x0, .inr (10, [.ref w0, .ref z0, .ref xi, .ref xt, .int x_tl, .ref xq, .int x_lc, .ref rdr, .ref h0, .ref t0, .ref q0, .ref v0, .ref m0])), (xq, .inl (kA 5, 6, .inr (.inr (.inr (.inr xqF)))))] s.heap.size = A at hD ⊢
  have hA : ∀ q : Nat, s.heap.size ≤ q → A q := zA_of hAe
  have hS : va_S A s.heap s.heap [] := va_S.rf
  have hP : va_P (dC, dI) vwCl [(x0, .inr (10, [.ref w0, .ref z0, .ref xi, .ref xt, .int x_tl, .ref xq, .int x_lc, .ref rdr, .ref h0, .ref t0, .ref q0, .ref v0, .ref m0])), (xq, .inl (kA 5, 6, .inr (.inr (.inr (.inr xqF)))))] s.heap := hP
  have hl := lv_entry ([.ref x0, .int p0, .int p1, .int p2, .int p3, .int p4, .int p5]) (n := 10) (Nat.le_of_ble_eq_true rfl)
  rw [lg_entry_eq]
  generalize (lg_sl ([.ref x0, .int p0, .int p1, .int p2, .int p3, .int p4, .int p5]) ++ List.replicate (10 - (lg_sl ([.ref x0, .int p0, .int p1, .int p2, .int p3, .int p4, .int p5])).length) Slot.unset).toArray = ls at hl ⊢
  have hl : lv_has ls 10 [(0, .ref x0), (1, .int p0), (2, .int p1), (3, .int p2), (4, .int p3), (5, .int p4), (6, .int p5)] := hl
  refine lv_aload_n hx hb dX10_warmer_0 rfl (lv_at hl 0 rfl) ?_
  refine lv_iload_n hx hb dX10_warmer_1 rfl (lv_at hl 1 rfl) ?_
  refine z_q (wr := []) (va_runV (As := [.int p0]) (rest := []) ⟨hx, hb, hml, hown, hts⟩ (mX10_lawOf l dC dI kA _ x0 z0 xi xt xq rdr h0 t0 q0 v0 m0 w0 x_tl x_lc xqF p0) (cwV 1 hts gX10_warmer_X10_lawOf rfl rfl rfl ⟨rfl, hdX10_lawOf⟩ ⟨(Nat.le_of_ble_eq_true rfl), (Nat.le_of_ble_eq_true rfl)⟩) ⟨zPc.blind, va_recv (q := (RX10, TX10, 13)) hK.1 hP (ci := 10) (q0 := 0) rfl rfl, zPre hK (hP.sub [0, 1] rfl) (hD.sub [0, 1] (by decide) rfl)⟩ rfl rfl hl.1 rfl (lv_room (Nat.le_of_ble_eq_true rfl)) dX10_warmer_2 ⟨(Nat.le_of_ble_eq_true rfl), (Nat.le_of_ble_eq_true rfl)⟩) hP hD hS hA [0, 1] [] rfl rfl (by decide) (by decide) (fun r3 u1 H locs hw2 hP hD hS => ?_)
  obtain rfl := hw2
  obtain ⟨hP, hD⟩ := z_re (L := [(x0, .inr (10, [.ref w0, .ref z0, .ref xi, .ref xt, .int x_tl, .ref xq, .int x_lc, .ref rdr, .ref h0, .ref t0, .ref q0, .ref v0, .ref m0])), (xq, .inl (kA 5, 6, .inr (.inr (.inr (.inr xqF)))))]) hP hD
  refine zv .null (by rw [hsel]; rfl) ?_
  refine lv_astoreN (lv' := [(7, .null), (0, .ref x0), (1, .int p0), (2, .int p1), (3, .int p2), (4, .int p3), (5, .int p4), (6, .int p5)]) hx hb dX10_warmer_5 hl (by decide) rfl (fun ls hl => ?_)
  refine lv_iload_n hx hb dX10_warmer_7 rfl (lv_at hl 3 rfl) ?_
  refine lv_iload_n hx hb dX10_warmer_8 rfl (lv_at hl 4 rfl) ?_
  refine lv_iload hx hb dX10_warmer_9 (lv_at hl 5 rfl) ?_
  refine lv_iload hx hb dX10_warmer_11 (lv_at hl 6 rfl) ?_
  refine z_i (wr := [(x0, .inr (10, [.ref w0, .ref z0, .ref xi, .ref xt, .int x_tl, .ref xq, .int x_lc, .ref rdr, .ref h0, .ref t0, .ref q0, .ref v0, .ref m0])), (xq, .inl (kA 5, 6, .inr (.inr (.inr (.inr xqF)))))]) (va_runS (As := [.int p1, .int p2, .int p3, .int p4]) (rest := []) ⟨hx, hb, hml, hown, hts⟩ (mX10_isLoad l dC dI kA _ p1 p2 p3 p4) (va_cwS 4 hts gX10_warmer_X10_isLoad rfl rfl rfl hdX10_isLoad ⟨(Nat.le_of_ble_eq_true rfl), (Nat.le_of_ble_eq_true rfl)⟩) ⟨zPc.blind, zPre hK (hP.sub [] rfl) (hD.sub [] (by decide) rfl)⟩ rfl rfl hl.1 rfl (lv_room (Nat.le_of_ble_eq_true rfl)) dX10_warmer_13 ⟨(Nat.le_of_ble_eq_true rfl), (Nat.le_of_ble_eq_true rfl)⟩) hP hD hS hA [] [0, 1] rfl rfl (by decide) (by decide) (fun r6 u4 H locs hw5 hP hD hS => ?_)
  obtain ⟨er10, hp8, hp9⟩ := hw5
  have er10 : r6 = u4 := er10
  subst er10
  obtain ⟨hP, hD⟩ := z_re (L := [(x0, .inr (10, [.ref w0, .ref z0, .ref xi, .ref xt, .int x_tl, .ref xq, .int x_lc, .ref rdr, .ref h0, .ref t0, .ref q0, .ref v0, .ref m0])), (xq, .inl (kA 5, 6, .inr (.inr (.inr (.inr xqF)))))]) hP hD
  refine lv_if_eq (tgt := 33) hx hb dX10_warmer_16 (by decide) (fun c_11 => ?_) (fun c_11 => ?_)
  · refine lv_iconst (v := 0) hx hb dX10_warmer_33 (by decide) ?_
    refine lv_istore (lv' := [(8, .int 0), (7, .null), (0, .ref x0), (1, .int p0), (2, .int p1), (3, .int p2), (4, .int p3), (5, .int p4), (6, .int p5)]) hx hb dX10_warmer_34 hl (by decide) rfl (fun ls hl => ?_)
    refine lv_aloadN hx hb dX10_warmer_36 (lv_at hl 1 rfl) ?_
    refine lv_ifnullN (tgt := 57) hx hb dX10_warmer_38 (by decide) ?_
    refine lv_iconst (v := (-1)) hx hb dX10_warmer_57 (by decide) ?_
    obtain ⟨hP9, hD9⟩ := z_sb (L' := [(x0, .inr (10, [.ref w0, .ref z0, .ref xi, .ref xt, .int x_tl, .ref xq, .int x_lc, .ref rdr, .ref h0, .ref t0, .ref q0, .ref v0, .ref m0])), (xq, .inl (kA 5, 6, .inr (.inr (.inr (.inr xqF)))))]) hP hD [0, 1] (by decide) rfl
    refine W.widen (k := 0) (n := 0) (Nat.le_of_ble_eq_true rfl) (Nat.le_of_ble_eq_true rfl) ?_
    exact W.iret (v := (-1)) hx hb hr (fun t ht hW => ⟨⟨(-1), (), rfl, rfl, by rw [ht]; exact hP9, hD9⟩, hS.F ht⟩) hS.2.2 dX10_warmer_58
  · refine lv_iload hx hb dX10_warmer_19 (lv_at hl 7 rfl) ?_
    refine lv_ldc hx hb hown (kX10_warmer_1 hts) dX10_warmer_21 ?_
    refine z_i (wr := [(x0, .inr (10, [.ref w0, .ref z0, .ref xi, .ref xt, .int x_tl, .ref xq, .int x_lc, .ref rdr, .ref h0, .ref t0, .ref q0, .ref v0, .ref m0])), (xq, .inl (kA 5, 6, .inr (.inr (.inr (.inr xqF)))))]) (va_runS (As := [.int p5, .int 99999]) (rest := []) ⟨hx, hb, hml, hown, hts⟩ (mX10_within l dC dI kA _ p5 99999) (va_cwS 2 hts gX10_warmer_X10_within rfl rfl rfl hdX10_within ⟨(Nat.le_of_ble_eq_true rfl), (Nat.le_of_ble_eq_true rfl)⟩) ⟨zPc.blind, zPre hK (hP.sub [] rfl) (hD.sub [] (by decide) rfl)⟩ rfl rfl hl.1 rfl (lv_room (Nat.le_of_ble_eq_true rfl)) dX10_warmer_23 ⟨(Nat.le_of_ble_eq_true rfl), (Nat.le_of_ble_eq_true rfl)⟩) hP hD hS hA [] [0, 1] rfl rfl (by decide) (by decide) (fun r14 u12 H locs hw13 hP hD hS => ?_)
    obtain rfl := hw13
    obtain ⟨hP, hD⟩ := z_re (L := [(x0, .inr (10, [.ref w0, .ref z0, .ref xi, .ref xt, .int x_tl, .ref xq, .int x_lc, .ref rdr, .ref h0, .ref t0, .ref q0, .ref v0, .ref m0])), (xq, .inl (kA 5, 6, .inr (.inr (.inr (.inr xqF)))))]) hP hD
    refine lv_if_eq (tgt := 33) hx hb dX10_warmer_26 (by decide) (fun c_15 => ?_) (fun c_15 => ?_)
    · refine lv_iconst (v := 0) hx hb dX10_warmer_33 (by decide) ?_
      refine lv_istore (lv' := [(8, .int 0), (7, .null), (0, .ref x0), (1, .int p0), (2, .int p1), (3, .int p2), (4, .int p3), (5, .int p4), (6, .int p5)]) hx hb dX10_warmer_34 hl (by decide) rfl (fun ls hl => ?_)
      refine lv_aloadN hx hb dX10_warmer_36 (lv_at hl 1 rfl) ?_
      refine lv_ifnullN (tgt := 57) hx hb dX10_warmer_38 (by decide) ?_
      refine lv_iconst (v := (-1)) hx hb dX10_warmer_57 (by decide) ?_
      obtain ⟨hP9, hD9⟩ := z_sb (L' := [(x0, .inr (10, [.ref w0, .ref z0, .ref xi, .ref xt, .int x_tl, .ref xq, .int x_lc, .ref rdr, .ref h0, .ref t0, .ref q0, .ref v0, .ref m0])), (xq, .inl (kA 5, 6, .inr (.inr (.inr (.inr xqF)))))]) hP hD [0, 1] (by decide) rfl
      refine W.widen (k := 0) (n := 0) (Nat.le_of_ble_eq_true rfl) (Nat.le_of_ble_eq_true rfl) ?_
      exact W.iret (v := (-1)) hx hb hr (fun t ht hW => ⟨⟨(-1), (), rfl, rfl, by rw [ht]; exact hP9, hD9⟩, hS.F ht⟩) hS.2.2 dX10_warmer_58
    · have c_15a := wi_ne c_15
      have c_15b := c_15a.2
      have c_15a := c_15a.1
      refine lv_iconst (v := 1) hx hb dX10_warmer_29 (by decide) ?_
      refine lv_goto (tgt := 34) hx hb dX10_warmer_30 (by decide) ?_
      refine lv_istore (lv' := [(8, .int 1), (7, .null), (0, .ref x0), (1, .int p0), (2, .int p1), (3, .int p2), (4, .int p3), (5, .int p4), (6, .int p5)]) hx hb dX10_warmer_34 hl (by decide) rfl (fun ls hl => ?_)
      refine lv_aloadN hx hb dX10_warmer_36 (lv_at hl 1 rfl) ?_
      refine lv_ifnullN (tgt := 57) hx hb dX10_warmer_38 (by decide) ?_
      refine lv_iconst (v := (-1)) hx hb dX10_warmer_57 (by decide) ?_
      obtain ⟨hP9, hD9⟩ := z_sb (L' := [(x0, .inr (10, [.ref w0, .ref z0, .ref xi, .ref xt, .int x_tl, .ref xq, .int x_lc, .ref rdr, .ref h0, .ref t0, .ref q0, .ref v0, .ref m0])), (xq, .inl (kA 5, 6, .inr (.inr (.inr (.inr xqF)))))]) hP hD [0, 1] (by decide) rfl
      refine W.widen (k := 0) (n := 0) (Nat.le_of_ble_eq_true rfl) (Nat.le_of_ble_eq_true rfl) ?_
      exact W.iret (v := (-1)) hx hb hr (fun t ht hW => ⟨⟨(-1), (), rfl, rfl, by rw [ht]; exact hP9, hD9⟩, hS.F ht⟩) hS.2.2 dX10_warmer_58
set_option maxHeartbeats 4000000 in
set_option maxRecDepth 100000 in
theorem mX10_guess_no (l : Launch) (dC : Nat → ClassId) (dI : Nat → Nat → Nat) (kA : Nat → ClassId) (sz : Nat) (x0 : Nat) (z0 : Nat) (xi : Nat) (xt : Nat) (xq : Nat) (rdr : Nat) (h0 : Nat) (t0 : Nat) (q0 : Nat) (v0 : Nat) (m0 : Nat) (w0 : Nat) (x_tl : Int32) (x_lc : Int32) (xqF : Nat → Option Nat) (tnodes : Nat) (tpasses : Nat) (tjars : Nat) (torders : Nat) (tfeasts : Nat) (tway : Nat) (twayA : Nat) (twayS : Int32) (tws : Int32) (tnow : Int32) (tfm : Int32) (tx : Int32) (p0 : Int32) (p1 : Int32) (p2 : Int32) (p3 : Int32) (p4 : Int32) (p5 : Int32) (p6 : Int32) (p7 : Int32) (p8 : Int32) (hsel : (sel p0 x_lc xqF) = none) : Met l yX10_guess wsX10_guess ({ frames := 2, cells := 0, slots := 0, locals := 42 }) (zPc dC dI kA sz [.ref x0, .int p0, .int p1, .int p2, .int p3, .int p4, .int p5, .int p6, .int p7, .int p8] [(x0, .inr (10, [.ref w0, .ref z0, .ref xi, .ref xt, .int x_tl, .ref xq, .int x_lc, .ref rdr, .ref h0, .ref t0, .ref q0, .ref v0, .ref m0])), (xq, .inl (kA 5, 6, .inr (.inr (.inr (.inr xqF))))), (w0, .inr (9, [.ref tnodes, .ref tpasses, .ref tjars, .ref torders, .ref tfeasts, .ref tway, .int tws, .int tnow, .int tfm, .int tx])), (tway, .inr (6, [.int 1, .ref twayA, .int twayS]))]) (va_Qi (fun (r : Int32) (u : Unit) => r = (-1)) (zB dC dI (va_A [(x0, .inr (10, [.ref w0, .ref z0, .ref xi, .ref xt, .int x_tl, .ref xq, .int x_lc, .ref rdr, .ref h0, .ref t0, .ref q0, .ref v0, .ref m0])), (xq, .inl (kA 5, 6, .inr (.inr (.inr (.inr xqF))))), (w0, .inr (9, [.ref tnodes, .ref tpasses, .ref tjars, .ref torders, .ref tfeasts, .ref tway, .int tws, .int tnow, .int tfm, .int tx])), (tway, .inr (6, [.int 1, .ref twayA, .int twayS]))] sz) (fun (u : Unit) => [(x0, .inr (10, [.ref w0, .ref z0, .ref xi, .ref xt, .int x_tl, .ref xq, .int x_lc, .ref rdr, .ref h0, .ref t0, .ref q0, .ref v0, .ref m0])), (xq, .inl (kA 5, 6, .inr (.inr (.inr (.inr xqF))))), (w0, .inr (9, [.ref tnodes, .ref tpasses, .ref tjars, .ref torders, .ref tfeasts, .ref tway, .int tws, .int tnow, .int tfm, .int tx])), (tway, .inr (6, [.int 1, .ref twayA, .int twayS]))])) (va_A [(x0, .inr (10, [.ref w0, .ref z0, .ref xi, .ref xt, .int x_tl, .ref xq, .int x_lc, .ref rdr, .ref h0, .ref t0, .ref q0, .ref v0, .ref m0])), (xq, .inl (kA 5, 6, .inr (.inr (.inr (.inr xqF))))), (w0, .inr (9, [.ref tnodes, .ref tpasses, .ref tjars, .ref torders, .ref tfeasts, .ref tway, .int tws, .int tnow, .int tfm, .int tx])), (tway, .inr (6, [.int 1, .ref twayA, .int twayS]))] sz)) 0 0 (va_A [(x0, .inr (10, [.ref w0, .ref z0, .ref xi, .ref xt, .int x_tl, .ref xq, .int x_lc, .ref rdr, .ref h0, .ref t0, .ref q0, .ref v0, .ref m0])), (xq, .inl (kA 5, 6, .inr (.inr (.inr (.inr xqF))))), (w0, .inr (9, [.ref tnodes, .ref tpasses, .ref tjars, .ref torders, .ref tfeasts, .ref tway, .int tws, .int tnow, .int tfm, .int tx])), (tway, .inr (6, [.int 1, .ref twayA, .int twayS]))] sz) := by
  refine Met.ofW (cc := cX10_guess) (maxL := 13) (ret := (some .int)) pnX10 rfl ?_
  intro p e s m args below meth c s₁ B hml hv
  obtain ⟨rfl, hsz, hP, hK, hD0⟩ := hv
  have hx := B.exec
  have hb := B.bytes
  have hr := B.returns
  have hts := atoms_spec (ws := wsX10_guess) B.pre
  have hown : s.vm.findClass RX10 = some m.cls := findClass_of_methodNamed B.named
  have hlocks := B.notSynchronized
  subst hsz
  have hD := hD0.self (sz := s.heap.size)
  generalize hAe : va_A [(x0, .inr (10, [.ref w0, .ref z0, .ref xi, .ref xt, .int x_tl, .ref xq, .int x_lc, .ref rdr, .ref h0, .ref t0, .ref q0, .ref v0, .ref m0])), (xq, .inl (kA 5, 6, .inr (.inr (.inr (.inr xqF))))), (w0, .inr (9, [.ref tnodes, .ref tpasses, .ref tjars, .ref torders, .ref tfeasts, .ref tway, .int tws, .int tnow, .int tfm, .int tx])), (tway, .inr (6, [.int 1, .ref twayA, .int twayS]))] s.heap.size = A at hD ⊢
  have hA : ∀ q : Nat, s.heap.size ≤ q → A q := zA_of hAe
  have hS : va_S A s.heap s.heap [] := va_S.rf
  have hP : va_P (dC, dI) vwCl [(x0, .inr (10, [.ref w0, .ref z0, .ref xi, .ref xt, .int x_tl, .ref xq, .int x_lc, .ref rdr, .ref h0, .ref t0, .ref q0, .ref v0, .ref m0])), (xq, .inl (kA 5, 6, .inr (.inr (.inr (.inr xqF))))), (w0, .inr (9, [.ref tnodes, .ref tpasses, .ref tjars, .ref torders, .ref tfeasts, .ref tway, .int tws, .int tnow, .int tfm, .int tx])), (tway, .inr (6, [.int 1, .ref twayA, .int twayS]))] s.heap := hP
  have hl := lv_entry ([.ref x0, .int p0, .int p1, .int p2, .int p3, .int p4, .int p5, .int p6, .int p7, .int p8]) (n := 13) (Nat.le_of_ble_eq_true rfl)
  rw [lg_entry_eq]
  generalize (lg_sl ([.ref x0, .int p0, .int p1, .int p2, .int p3, .int p4, .int p5, .int p6, .int p7, .int p8]) ++ List.replicate (13 - (lg_sl ([.ref x0, .int p0, .int p1, .int p2, .int p3, .int p4, .int p5, .int p6, .int p7, .int p8])).length) Slot.unset).toArray = ls at hl ⊢
  have hl : lv_has ls 13 [(0, .ref x0), (1, .int p0), (2, .int p1), (3, .int p2), (4, .int p3), (5, .int p4), (6, .int p5), (7, .int p6), (8, .int p7), (9, .int p8)] := hl
  refine lv_aload_n hx hb dX10_guess_0 rfl (lv_at hl 0 rfl) ?_
  refine lv_iload_n hx hb dX10_guess_1 rfl (lv_at hl 1 rfl) ?_
  refine z_q (wr := [(w0, .inr (9, [.ref tnodes, .ref tpasses, .ref tjars, .ref torders, .ref tfeasts, .ref tway, .int tws, .int tnow, .int tfm, .int tx])), (tway, .inr (6, [.int 1, .ref twayA, .int twayS]))]) (va_runV (As := [.int p0]) (rest := []) ⟨hx, hb, hml, hown, hts⟩ (mX10_lawOf l dC dI kA _ x0 z0 xi xt xq rdr h0 t0 q0 v0 m0 w0 x_tl x_lc xqF p0) (cwV 1 hts gX10_guess_X10_lawOf rfl rfl rfl ⟨rfl, hdX10_lawOf⟩ ⟨(Nat.le_of_ble_eq_true rfl), (Nat.le_of_ble_eq_true rfl)⟩) ⟨zPc.blind, va_recv (q := (RX10, TX10, 13)) hK.1 hP (ci := 10) (q0 := 0) rfl rfl, zPre hK (hP.sub [0, 1] rfl) (hD.sub [0, 1] (by decide) rfl)⟩ rfl rfl hl.1 rfl (lv_room (Nat.le_of_ble_eq_true rfl)) dX10_guess_2 ⟨(Nat.le_of_ble_eq_true rfl), (Nat.le_of_ble_eq_true rfl)⟩) hP hD hS hA [0, 1] [2, 3] rfl rfl (by decide) (by decide) (fun r3 u1 H locs hw2 hP hD hS => ?_)
  obtain rfl := hw2
  obtain ⟨hP, hD⟩ := z_re (L := [(w0, .inr (9, [.ref tnodes, .ref tpasses, .ref tjars, .ref torders, .ref tfeasts, .ref tway, .int tws, .int tnow, .int tfm, .int tx])), (tway, .inr (6, [.int 1, .ref twayA, .int twayS])), (x0, .inr (10, [.ref w0, .ref z0, .ref xi, .ref xt, .int x_tl, .ref xq, .int x_lc, .ref rdr, .ref h0, .ref t0, .ref q0, .ref v0, .ref m0])), (xq, .inl (kA 5, 6, .inr (.inr (.inr (.inr xqF)))))]) hP hD
  refine zv .null (by rw [hsel]; rfl) ?_
  refine lv_astoreN (lv' := [(10, .null), (0, .ref x0), (1, .int p0), (2, .int p1), (3, .int p2), (4, .int p3), (5, .int p4), (6, .int p5), (7, .int p6), (8, .int p7), (9, .int p8)]) hx hb dX10_guess_5 hl (by decide) rfl (fun ls hl => ?_)
  refine lv_iload hx hb dX10_guess_7 (lv_at hl 7 rfl) ?_
  refine lv_bipush (v := 12) hx hb dX10_guess_9 (by decide) ?_
  refine z_i (wr := [(w0, .inr (9, [.ref tnodes, .ref tpasses, .ref tjars, .ref torders, .ref tfeasts, .ref tway, .int tws, .int tnow, .int tfm, .int tx])), (tway, .inr (6, [.int 1, .ref twayA, .int twayS])), (x0, .inr (10, [.ref w0, .ref z0, .ref xi, .ref xt, .int x_tl, .ref xq, .int x_lc, .ref rdr, .ref h0, .ref t0, .ref q0, .ref v0, .ref m0])), (xq, .inl (kA 5, 6, .inr (.inr (.inr (.inr xqF)))))]) (va_runS (As := [.int p5, .int 12]) (rest := []) ⟨hx, hb, hml, hown, hts⟩ (mX10_within l dC dI kA _ p5 12) (va_cwS 2 hts gX10_guess_X10_within rfl rfl rfl hdX10_within ⟨(Nat.le_of_ble_eq_true rfl), (Nat.le_of_ble_eq_true rfl)⟩) ⟨zPc.blind, zPre hK (hP.sub [] rfl) (hD.sub [] (by decide) rfl)⟩ rfl rfl hl.1 rfl (lv_room (Nat.le_of_ble_eq_true rfl)) dX10_guess_11 ⟨(Nat.le_of_ble_eq_true rfl), (Nat.le_of_ble_eq_true rfl)⟩) hP hD hS hA [] [0, 1, 2, 3] rfl rfl (by decide) (by decide) (fun r6 u4 H locs hw5 hP hD hS => ?_)
  obtain rfl := hw5
  obtain ⟨hP, hD⟩ := z_re (L := [(w0, .inr (9, [.ref tnodes, .ref tpasses, .ref tjars, .ref torders, .ref tfeasts, .ref tway, .int tws, .int tnow, .int tfm, .int tx])), (tway, .inr (6, [.int 1, .ref twayA, .int twayS])), (x0, .inr (10, [.ref w0, .ref z0, .ref xi, .ref xt, .int x_tl, .ref xq, .int x_lc, .ref rdr, .ref h0, .ref t0, .ref q0, .ref v0, .ref m0])), (xq, .inl (kA 5, 6, .inr (.inr (.inr (.inr xqF)))))]) hP hD
  refine lv_if_eq (tgt := 40) hx hb dX10_guess_14 (by decide) (fun c_7 => ?_) (fun c_7 => ?_)
  · refine lv_iconst (v := 0) hx hb dX10_guess_40 (by decide) ?_
    refine lv_istore (lv' := [(11, .int 0), (10, .null), (0, .ref x0), (1, .int p0), (2, .int p1), (3, .int p2), (4, .int p3), (5, .int p4), (6, .int p5), (7, .int p6), (8, .int p7), (9, .int p8)]) hx hb dX10_guess_41 hl (by decide) rfl (fun ls hl => ?_)
    refine lv_iload hx hb dX10_guess_43 (lv_at hl 11 rfl) ?_
    refine lv_if_eq (tgt := 63) hx hb dX10_guess_45 (by decide) (fun c_8 => ?_) (fun c_8 => ?_)
    · refine lv_iconst (v := 1) hx hb dX10_guess_63 (by decide) ?_
      refine lv_goto (tgt := 68) hx hb dX10_guess_64 (by decide) ?_
      refine lv_istore (lv' := [(12, .int 1), (11, .int 0), (10, .null), (0, .ref x0), (1, .int p0), (2, .int p1), (3, .int p2), (4, .int p3), (5, .int p4), (6, .int p5), (7, .int p6), (8, .int p7), (9, .int p8)]) hx hb dX10_guess_68 hl (by decide) rfl (fun ls hl => ?_)
      refine lv_aloadN hx hb dX10_guess_70 (lv_at hl 2 rfl) ?_
      refine lv_ifnullN (tgt := 108) hx hb dX10_guess_72 (by decide) ?_
      refine lv_iconst (v := (-1)) hx hb dX10_guess_108 (by decide) ?_
      obtain ⟨hP9, hD9⟩ := z_sb (L' := [(x0, .inr (10, [.ref w0, .ref z0, .ref xi, .ref xt, .int x_tl, .ref xq, .int x_lc, .ref rdr, .ref h0, .ref t0, .ref q0, .ref v0, .ref m0])), (xq, .inl (kA 5, 6, .inr (.inr (.inr (.inr xqF))))), (w0, .inr (9, [.ref tnodes, .ref tpasses, .ref tjars, .ref torders, .ref tfeasts, .ref tway, .int tws, .int tnow, .int tfm, .int tx])), (tway, .inr (6, [.int 1, .ref twayA, .int twayS]))]) hP hD [2, 3, 0, 1] (by decide) rfl
      refine W.widen (k := 0) (n := 0) (Nat.le_of_ble_eq_true rfl) (Nat.le_of_ble_eq_true rfl) ?_
      exact W.iret (v := (-1)) hx hb hr (fun t ht hW => ⟨⟨(-1), (), rfl, rfl, by rw [ht]; exact hP9, hD9⟩, hS.F ht⟩) hS.2.2 dX10_guess_109
    · refine lv_aload_n hx hb dX10_guess_48 rfl (lv_at hl 2 rfl) ?_
      refine va_get (D := (dC, dI)) (ci := 10) (v := .ref w0) (C := RX10) (T := TX10) (N := 13) hx hb hts iX10_guess_X10 hown hK.1 hP 2 gz2 vcz10 0 (by decide) (kX10_guess_2 hts) (fun _ h9 => h9) gz0 dX10_guess_49 ?_
      refine va_get (D := (dC, dI)) (ci := 9) (v := .ref tway) (C := RX9) (T := TX9) (N := 10) hx hb hts iX10_guess_X9 hown hK.1 hP 0 gz0 vcz9 5 (by decide) (kX10_guess_3 hts) (fun _ h9 => h9) gz5 dX10_guess_52 ?_
      refine lv_iload hx hb dX10_guess_55 (lv_at hl 10 rfl) ?_
      refine z_i (wr := [(w0, .inr (9, [.ref tnodes, .ref tpasses, .ref tjars, .ref torders, .ref tfeasts, .ref tway, .int tws, .int tnow, .int tfm, .int tx])), (x0, .inr (10, [.ref w0, .ref z0, .ref xi, .ref xt, .int x_tl, .ref xq, .int x_lc, .ref rdr, .ref h0, .ref t0, .ref q0, .ref v0, .ref m0])), (xq, .inl (kA 5, 6, .inr (.inr (.inr (.inr xqF)))))]) (va_runV (As := [.int p7]) (rest := []) ⟨hx, hb, hml, hown, hts⟩ (mX6_has l dC dI kA _ tway twayA 1 twayS p7) (cwV 1 hts gX10_guess_X6_has rfl rfl rfl ⟨rfl, hdX6_has⟩ ⟨(Nat.le_of_ble_eq_true rfl), (Nat.le_of_ble_eq_true rfl)⟩) ⟨zPc.blind, va_recv (q := (RX6, TX6, 3)) hK.1 hP (ci := 6) (q0 := 1) rfl rfl, zPre hK (hP.sub [1] rfl) (hD.sub [1] (by decide) rfl)⟩ rfl rfl hl.1 rfl (lv_room (Nat.le_of_ble_eq_true rfl)) dX10_guess_57 ⟨(Nat.le_of_ble_eq_true rfl), (Nat.le_of_ble_eq_true rfl)⟩) hP hD hS hA [1] [0, 2, 3] rfl rfl (by decide) (by decide) (fun r11 u9 H locs hw10 hP hD hS => ?_)
      obtain rfl := hw10
      obtain ⟨hP, hD⟩ := z_re (L := [(w0, .inr (9, [.ref tnodes, .ref tpasses, .ref tjars, .ref torders, .ref tfeasts, .ref tway, .int tws, .int tnow, .int tfm, .int tx])), (x0, .inr (10, [.ref w0, .ref z0, .ref xi, .ref xt, .int x_tl, .ref xq, .int x_lc, .ref rdr, .ref h0, .ref t0, .ref q0, .ref v0, .ref m0])), (xq, .inl (kA 5, 6, .inr (.inr (.inr (.inr xqF))))), (tway, .inr (6, [.int 1, .ref twayA, .int twayS]))]) hP hD
      refine lv_if_eq (tgt := 67) hx hb dX10_guess_60 (by decide) (fun c_12 => ?_) (fun c_12 => ?_)
      · refine lv_iconst (v := 0) hx hb dX10_guess_67 (by decide) ?_
        refine lv_istore (lv' := [(12, .int 0), (11, .int 0), (10, .null), (0, .ref x0), (1, .int p0), (2, .int p1), (3, .int p2), (4, .int p3), (5, .int p4), (6, .int p5), (7, .int p6), (8, .int p7), (9, .int p8)]) hx hb dX10_guess_68 hl (by decide) rfl (fun ls hl => ?_)
        refine lv_aloadN hx hb dX10_guess_70 (lv_at hl 2 rfl) ?_
        refine lv_ifnullN (tgt := 108) hx hb dX10_guess_72 (by decide) ?_
        refine lv_iconst (v := (-1)) hx hb dX10_guess_108 (by decide) ?_
        obtain ⟨hP9, hD9⟩ := z_sb (L' := [(x0, .inr (10, [.ref w0, .ref z0, .ref xi, .ref xt, .int x_tl, .ref xq, .int x_lc, .ref rdr, .ref h0, .ref t0, .ref q0, .ref v0, .ref m0])), (xq, .inl (kA 5, 6, .inr (.inr (.inr (.inr xqF))))), (w0, .inr (9, [.ref tnodes, .ref tpasses, .ref tjars, .ref torders, .ref tfeasts, .ref tway, .int tws, .int tnow, .int tfm, .int tx])), (tway, .inr (6, [.int 1, .ref twayA, .int twayS]))]) hP hD [1, 2, 0, 3] (by decide) rfl
        refine W.widen (k := 0) (n := 0) (Nat.le_of_ble_eq_true rfl) (Nat.le_of_ble_eq_true rfl) ?_
        exact W.iret (v := (-1)) hx hb hr (fun t ht hW => ⟨⟨(-1), (), rfl, rfl, by rw [ht]; exact hP9, hD9⟩, hS.F ht⟩) hS.2.2 dX10_guess_109
      · have c_12a := hs_ne c_12
        have c_12b := c_12a.2
        have c_12a := c_12a.1
        refine lv_iconst (v := 1) hx hb dX10_guess_63 (by decide) ?_
        refine lv_goto (tgt := 68) hx hb dX10_guess_64 (by decide) ?_
        refine lv_istore (lv' := [(12, .int 1), (11, .int 0), (10, .null), (0, .ref x0), (1, .int p0), (2, .int p1), (3, .int p2), (4, .int p3), (5, .int p4), (6, .int p5), (7, .int p6), (8, .int p7), (9, .int p8)]) hx hb dX10_guess_68 hl (by decide) rfl (fun ls hl => ?_)
        refine lv_aloadN hx hb dX10_guess_70 (lv_at hl 2 rfl) ?_
        refine lv_ifnullN (tgt := 108) hx hb dX10_guess_72 (by decide) ?_
        refine lv_iconst (v := (-1)) hx hb dX10_guess_108 (by decide) ?_
        obtain ⟨hP9, hD9⟩ := z_sb (L' := [(x0, .inr (10, [.ref w0, .ref z0, .ref xi, .ref xt, .int x_tl, .ref xq, .int x_lc, .ref rdr, .ref h0, .ref t0, .ref q0, .ref v0, .ref m0])), (xq, .inl (kA 5, 6, .inr (.inr (.inr (.inr xqF))))), (w0, .inr (9, [.ref tnodes, .ref tpasses, .ref tjars, .ref torders, .ref tfeasts, .ref tway, .int tws, .int tnow, .int tfm, .int tx])), (tway, .inr (6, [.int 1, .ref twayA, .int twayS]))]) hP hD [1, 2, 0, 3] (by decide) rfl
        refine W.widen (k := 0) (n := 0) (Nat.le_of_ble_eq_true rfl) (Nat.le_of_ble_eq_true rfl) ?_
        exact W.iret (v := (-1)) hx hb hr (fun t ht hW => ⟨⟨(-1), (), rfl, rfl, by rw [ht]; exact hP9, hD9⟩, hS.F ht⟩) hS.2.2 dX10_guess_109
  · have c_7a := wi_ne c_7
    have c_7b := c_7a.2
    have c_7a := c_7a.1
    refine lv_iload hx hb dX10_guess_17 (lv_at hl 8 rfl) ?_
    refine lv_ldc hx hb hown (kX10_guess_1 hts) dX10_guess_19 ?_
    refine z_i (wr := [(w0, .inr (9, [.ref tnodes, .ref tpasses, .ref tjars, .ref torders, .ref tfeasts, .ref tway, .int tws, .int tnow, .int tfm, .int tx])), (tway, .inr (6, [.int 1, .ref twayA, .int twayS])), (x0, .inr (10, [.ref w0, .ref z0, .ref xi, .ref xt, .int x_tl, .ref xq, .int x_lc, .ref rdr, .ref h0, .ref t0, .ref q0, .ref v0, .ref m0])), (xq, .inl (kA 5, 6, .inr (.inr (.inr (.inr xqF)))))]) (va_runS (As := [.int p6, .int 99999]) (rest := []) ⟨hx, hb, hml, hown, hts⟩ (mX10_within l dC dI kA _ p6 99999) (va_cwS 2 hts gX10_guess_X10_within rfl rfl rfl hdX10_within ⟨(Nat.le_of_ble_eq_true rfl), (Nat.le_of_ble_eq_true rfl)⟩) ⟨zPc.blind, zPre hK (hP.sub [] rfl) (hD.sub [] (by decide) rfl)⟩ rfl rfl hl.1 rfl (lv_room (Nat.le_of_ble_eq_true rfl)) dX10_guess_21 ⟨(Nat.le_of_ble_eq_true rfl), (Nat.le_of_ble_eq_true rfl)⟩) hP hD hS hA [] [0, 1, 2, 3] rfl rfl (by decide) (by decide) (fun r15 u13 H locs hw14 hP hD hS => ?_)
    obtain rfl := hw14
    obtain ⟨hP, hD⟩ := z_re (L := [(w0, .inr (9, [.ref tnodes, .ref tpasses, .ref tjars, .ref torders, .ref tfeasts, .ref tway, .int tws, .int tnow, .int tfm, .int tx])), (tway, .inr (6, [.int 1, .ref twayA, .int twayS])), (x0, .inr (10, [.ref w0, .ref z0, .ref xi, .ref xt, .int x_tl, .ref xq, .int x_lc, .ref rdr, .ref h0, .ref t0, .ref q0, .ref v0, .ref m0])), (xq, .inl (kA 5, 6, .inr (.inr (.inr (.inr xqF)))))]) hP hD
    refine lv_if_eq (tgt := 40) hx hb dX10_guess_24 (by decide) (fun c_16 => ?_) (fun c_16 => ?_)
    · refine lv_iconst (v := 0) hx hb dX10_guess_40 (by decide) ?_
      refine lv_istore (lv' := [(11, .int 0), (10, .null), (0, .ref x0), (1, .int p0), (2, .int p1), (3, .int p2), (4, .int p3), (5, .int p4), (6, .int p5), (7, .int p6), (8, .int p7), (9, .int p8)]) hx hb dX10_guess_41 hl (by decide) rfl (fun ls hl => ?_)
      refine lv_iload hx hb dX10_guess_43 (lv_at hl 11 rfl) ?_
      refine lv_if_eq (tgt := 63) hx hb dX10_guess_45 (by decide) (fun c_17 => ?_) (fun c_17 => ?_)
      · refine lv_iconst (v := 1) hx hb dX10_guess_63 (by decide) ?_
        refine lv_goto (tgt := 68) hx hb dX10_guess_64 (by decide) ?_
        refine lv_istore (lv' := [(12, .int 1), (11, .int 0), (10, .null), (0, .ref x0), (1, .int p0), (2, .int p1), (3, .int p2), (4, .int p3), (5, .int p4), (6, .int p5), (7, .int p6), (8, .int p7), (9, .int p8)]) hx hb dX10_guess_68 hl (by decide) rfl (fun ls hl => ?_)
        refine lv_aloadN hx hb dX10_guess_70 (lv_at hl 2 rfl) ?_
        refine lv_ifnullN (tgt := 108) hx hb dX10_guess_72 (by decide) ?_
        refine lv_iconst (v := (-1)) hx hb dX10_guess_108 (by decide) ?_
        obtain ⟨hP9, hD9⟩ := z_sb (L' := [(x0, .inr (10, [.ref w0, .ref z0, .ref xi, .ref xt, .int x_tl, .ref xq, .int x_lc, .ref rdr, .ref h0, .ref t0, .ref q0, .ref v0, .ref m0])), (xq, .inl (kA 5, 6, .inr (.inr (.inr (.inr xqF))))), (w0, .inr (9, [.ref tnodes, .ref tpasses, .ref tjars, .ref torders, .ref tfeasts, .ref tway, .int tws, .int tnow, .int tfm, .int tx])), (tway, .inr (6, [.int 1, .ref twayA, .int twayS]))]) hP hD [2, 3, 0, 1] (by decide) rfl
        refine W.widen (k := 0) (n := 0) (Nat.le_of_ble_eq_true rfl) (Nat.le_of_ble_eq_true rfl) ?_
        exact W.iret (v := (-1)) hx hb hr (fun t ht hW => ⟨⟨(-1), (), rfl, rfl, by rw [ht]; exact hP9, hD9⟩, hS.F ht⟩) hS.2.2 dX10_guess_109
      · refine lv_aload_n hx hb dX10_guess_48 rfl (lv_at hl 2 rfl) ?_
        refine va_get (D := (dC, dI)) (ci := 10) (v := .ref w0) (C := RX10) (T := TX10) (N := 13) hx hb hts iX10_guess_X10 hown hK.1 hP 2 gz2 vcz10 0 (by decide) (kX10_guess_2 hts) (fun _ h9 => h9) gz0 dX10_guess_49 ?_
        refine va_get (D := (dC, dI)) (ci := 9) (v := .ref tway) (C := RX9) (T := TX9) (N := 10) hx hb hts iX10_guess_X9 hown hK.1 hP 0 gz0 vcz9 5 (by decide) (kX10_guess_3 hts) (fun _ h9 => h9) gz5 dX10_guess_52 ?_
        refine lv_iload hx hb dX10_guess_55 (lv_at hl 10 rfl) ?_
        refine z_i (wr := [(w0, .inr (9, [.ref tnodes, .ref tpasses, .ref tjars, .ref torders, .ref tfeasts, .ref tway, .int tws, .int tnow, .int tfm, .int tx])), (x0, .inr (10, [.ref w0, .ref z0, .ref xi, .ref xt, .int x_tl, .ref xq, .int x_lc, .ref rdr, .ref h0, .ref t0, .ref q0, .ref v0, .ref m0])), (xq, .inl (kA 5, 6, .inr (.inr (.inr (.inr xqF)))))]) (va_runV (As := [.int p7]) (rest := []) ⟨hx, hb, hml, hown, hts⟩ (mX6_has l dC dI kA _ tway twayA 1 twayS p7) (cwV 1 hts gX10_guess_X6_has rfl rfl rfl ⟨rfl, hdX6_has⟩ ⟨(Nat.le_of_ble_eq_true rfl), (Nat.le_of_ble_eq_true rfl)⟩) ⟨zPc.blind, va_recv (q := (RX6, TX6, 3)) hK.1 hP (ci := 6) (q0 := 1) rfl rfl, zPre hK (hP.sub [1] rfl) (hD.sub [1] (by decide) rfl)⟩ rfl rfl hl.1 rfl (lv_room (Nat.le_of_ble_eq_true rfl)) dX10_guess_57 ⟨(Nat.le_of_ble_eq_true rfl), (Nat.le_of_ble_eq_true rfl)⟩) hP hD hS hA [1] [0, 2, 3] rfl rfl (by decide) (by decide) (fun r20 u18 H locs hw19 hP hD hS => ?_)
        obtain rfl := hw19
        obtain ⟨hP, hD⟩ := z_re (L := [(w0, .inr (9, [.ref tnodes, .ref tpasses, .ref tjars, .ref torders, .ref tfeasts, .ref tway, .int tws, .int tnow, .int tfm, .int tx])), (x0, .inr (10, [.ref w0, .ref z0, .ref xi, .ref xt, .int x_tl, .ref xq, .int x_lc, .ref rdr, .ref h0, .ref t0, .ref q0, .ref v0, .ref m0])), (xq, .inl (kA 5, 6, .inr (.inr (.inr (.inr xqF))))), (tway, .inr (6, [.int 1, .ref twayA, .int twayS]))]) hP hD
        refine lv_if_eq (tgt := 67) hx hb dX10_guess_60 (by decide) (fun c_21 => ?_) (fun c_21 => ?_)
        · refine lv_iconst (v := 0) hx hb dX10_guess_67 (by decide) ?_
          refine lv_istore (lv' := [(12, .int 0), (11, .int 0), (10, .null), (0, .ref x0), (1, .int p0), (2, .int p1), (3, .int p2), (4, .int p3), (5, .int p4), (6, .int p5), (7, .int p6), (8, .int p7), (9, .int p8)]) hx hb dX10_guess_68 hl (by decide) rfl (fun ls hl => ?_)
          refine lv_aloadN hx hb dX10_guess_70 (lv_at hl 2 rfl) ?_
          refine lv_ifnullN (tgt := 108) hx hb dX10_guess_72 (by decide) ?_
          refine lv_iconst (v := (-1)) hx hb dX10_guess_108 (by decide) ?_
          obtain ⟨hP9, hD9⟩ := z_sb (L' := [(x0, .inr (10, [.ref w0, .ref z0, .ref xi, .ref xt, .int x_tl, .ref xq, .int x_lc, .ref rdr, .ref h0, .ref t0, .ref q0, .ref v0, .ref m0])), (xq, .inl (kA 5, 6, .inr (.inr (.inr (.inr xqF))))), (w0, .inr (9, [.ref tnodes, .ref tpasses, .ref tjars, .ref torders, .ref tfeasts, .ref tway, .int tws, .int tnow, .int tfm, .int tx])), (tway, .inr (6, [.int 1, .ref twayA, .int twayS]))]) hP hD [1, 2, 0, 3] (by decide) rfl
          refine W.widen (k := 0) (n := 0) (Nat.le_of_ble_eq_true rfl) (Nat.le_of_ble_eq_true rfl) ?_
          exact W.iret (v := (-1)) hx hb hr (fun t ht hW => ⟨⟨(-1), (), rfl, rfl, by rw [ht]; exact hP9, hD9⟩, hS.F ht⟩) hS.2.2 dX10_guess_109
        · have c_21a := hs_ne c_21
          have c_21b := c_21a.2
          have c_21a := c_21a.1
          refine lv_iconst (v := 1) hx hb dX10_guess_63 (by decide) ?_
          refine lv_goto (tgt := 68) hx hb dX10_guess_64 (by decide) ?_
          refine lv_istore (lv' := [(12, .int 1), (11, .int 0), (10, .null), (0, .ref x0), (1, .int p0), (2, .int p1), (3, .int p2), (4, .int p3), (5, .int p4), (6, .int p5), (7, .int p6), (8, .int p7), (9, .int p8)]) hx hb dX10_guess_68 hl (by decide) rfl (fun ls hl => ?_)
          refine lv_aloadN hx hb dX10_guess_70 (lv_at hl 2 rfl) ?_
          refine lv_ifnullN (tgt := 108) hx hb dX10_guess_72 (by decide) ?_
          refine lv_iconst (v := (-1)) hx hb dX10_guess_108 (by decide) ?_
          obtain ⟨hP9, hD9⟩ := z_sb (L' := [(x0, .inr (10, [.ref w0, .ref z0, .ref xi, .ref xt, .int x_tl, .ref xq, .int x_lc, .ref rdr, .ref h0, .ref t0, .ref q0, .ref v0, .ref m0])), (xq, .inl (kA 5, 6, .inr (.inr (.inr (.inr xqF))))), (w0, .inr (9, [.ref tnodes, .ref tpasses, .ref tjars, .ref torders, .ref tfeasts, .ref tway, .int tws, .int tnow, .int tfm, .int tx])), (tway, .inr (6, [.int 1, .ref twayA, .int twayS]))]) hP hD [1, 2, 0, 3] (by decide) rfl
          refine W.widen (k := 0) (n := 0) (Nat.le_of_ble_eq_true rfl) (Nat.le_of_ble_eq_true rfl) ?_
          exact W.iret (v := (-1)) hx hb hr (fun t ht hW => ⟨⟨(-1), (), rfl, rfl, by rw [ht]; exact hP9, hD9⟩, hS.F ht⟩) hS.2.2 dX10_guess_109
    · have c_16a := wi_ne c_16
      have c_16b := c_16a.2
      have c_16a := c_16a.1
      refine lv_iload hx hb dX10_guess_27 (lv_at hl 10 rfl) ?_
      refine lv_iconst (v := 2) hx hb dX10_guess_29 (by decide) ?_
      refine z_i (wr := [(w0, .inr (9, [.ref tnodes, .ref tpasses, .ref tjars, .ref torders, .ref tfeasts, .ref tway, .int tws, .int tnow, .int tfm, .int tx])), (tway, .inr (6, [.int 1, .ref twayA, .int twayS])), (x0, .inr (10, [.ref w0, .ref z0, .ref xi, .ref xt, .int x_tl, .ref xq, .int x_lc, .ref rdr, .ref h0, .ref t0, .ref q0, .ref v0, .ref m0])), (xq, .inl (kA 5, 6, .inr (.inr (.inr (.inr xqF)))))]) (va_runS (As := [.int p8, .int 2]) (rest := []) ⟨hx, hb, hml, hown, hts⟩ (mX10_within l dC dI kA _ p8 2) (va_cwS 2 hts gX10_guess_X10_within rfl rfl rfl hdX10_within ⟨(Nat.le_of_ble_eq_true rfl), (Nat.le_of_ble_eq_true rfl)⟩) ⟨zPc.blind, zPre hK (hP.sub [] rfl) (hD.sub [] (by decide) rfl)⟩ rfl rfl hl.1 rfl (lv_room (Nat.le_of_ble_eq_true rfl)) dX10_guess_30 ⟨(Nat.le_of_ble_eq_true rfl), (Nat.le_of_ble_eq_true rfl)⟩) hP hD hS hA [] [0, 1, 2, 3] rfl rfl (by decide) (by decide) (fun r24 u22 H locs hw23 hP hD hS => ?_)
      obtain rfl := hw23
      obtain ⟨hP, hD⟩ := z_re (L := [(w0, .inr (9, [.ref tnodes, .ref tpasses, .ref tjars, .ref torders, .ref tfeasts, .ref tway, .int tws, .int tnow, .int tfm, .int tx])), (tway, .inr (6, [.int 1, .ref twayA, .int twayS])), (x0, .inr (10, [.ref w0, .ref z0, .ref xi, .ref xt, .int x_tl, .ref xq, .int x_lc, .ref rdr, .ref h0, .ref t0, .ref q0, .ref v0, .ref m0])), (xq, .inl (kA 5, 6, .inr (.inr (.inr (.inr xqF)))))]) hP hD
      refine lv_if_eq (tgt := 40) hx hb dX10_guess_33 (by decide) (fun c_25 => ?_) (fun c_25 => ?_)
      · refine lv_iconst (v := 0) hx hb dX10_guess_40 (by decide) ?_
        refine lv_istore (lv' := [(11, .int 0), (10, .null), (0, .ref x0), (1, .int p0), (2, .int p1), (3, .int p2), (4, .int p3), (5, .int p4), (6, .int p5), (7, .int p6), (8, .int p7), (9, .int p8)]) hx hb dX10_guess_41 hl (by decide) rfl (fun ls hl => ?_)
        refine lv_iload hx hb dX10_guess_43 (lv_at hl 11 rfl) ?_
        refine lv_if_eq (tgt := 63) hx hb dX10_guess_45 (by decide) (fun c_26 => ?_) (fun c_26 => ?_)
        · refine lv_iconst (v := 1) hx hb dX10_guess_63 (by decide) ?_
          refine lv_goto (tgt := 68) hx hb dX10_guess_64 (by decide) ?_
          refine lv_istore (lv' := [(12, .int 1), (11, .int 0), (10, .null), (0, .ref x0), (1, .int p0), (2, .int p1), (3, .int p2), (4, .int p3), (5, .int p4), (6, .int p5), (7, .int p6), (8, .int p7), (9, .int p8)]) hx hb dX10_guess_68 hl (by decide) rfl (fun ls hl => ?_)
          refine lv_aloadN hx hb dX10_guess_70 (lv_at hl 2 rfl) ?_
          refine lv_ifnullN (tgt := 108) hx hb dX10_guess_72 (by decide) ?_
          refine lv_iconst (v := (-1)) hx hb dX10_guess_108 (by decide) ?_
          obtain ⟨hP9, hD9⟩ := z_sb (L' := [(x0, .inr (10, [.ref w0, .ref z0, .ref xi, .ref xt, .int x_tl, .ref xq, .int x_lc, .ref rdr, .ref h0, .ref t0, .ref q0, .ref v0, .ref m0])), (xq, .inl (kA 5, 6, .inr (.inr (.inr (.inr xqF))))), (w0, .inr (9, [.ref tnodes, .ref tpasses, .ref tjars, .ref torders, .ref tfeasts, .ref tway, .int tws, .int tnow, .int tfm, .int tx])), (tway, .inr (6, [.int 1, .ref twayA, .int twayS]))]) hP hD [2, 3, 0, 1] (by decide) rfl
          refine W.widen (k := 0) (n := 0) (Nat.le_of_ble_eq_true rfl) (Nat.le_of_ble_eq_true rfl) ?_
          exact W.iret (v := (-1)) hx hb hr (fun t ht hW => ⟨⟨(-1), (), rfl, rfl, by rw [ht]; exact hP9, hD9⟩, hS.F ht⟩) hS.2.2 dX10_guess_109
        · refine lv_aload_n hx hb dX10_guess_48 rfl (lv_at hl 2 rfl) ?_
          refine va_get (D := (dC, dI)) (ci := 10) (v := .ref w0) (C := RX10) (T := TX10) (N := 13) hx hb hts iX10_guess_X10 hown hK.1 hP 2 gz2 vcz10 0 (by decide) (kX10_guess_2 hts) (fun _ h9 => h9) gz0 dX10_guess_49 ?_
          refine va_get (D := (dC, dI)) (ci := 9) (v := .ref tway) (C := RX9) (T := TX9) (N := 10) hx hb hts iX10_guess_X9 hown hK.1 hP 0 gz0 vcz9 5 (by decide) (kX10_guess_3 hts) (fun _ h9 => h9) gz5 dX10_guess_52 ?_
          refine lv_iload hx hb dX10_guess_55 (lv_at hl 10 rfl) ?_
          refine z_i (wr := [(w0, .inr (9, [.ref tnodes, .ref tpasses, .ref tjars, .ref torders, .ref tfeasts, .ref tway, .int tws, .int tnow, .int tfm, .int tx])), (x0, .inr (10, [.ref w0, .ref z0, .ref xi, .ref xt, .int x_tl, .ref xq, .int x_lc, .ref rdr, .ref h0, .ref t0, .ref q0, .ref v0, .ref m0])), (xq, .inl (kA 5, 6, .inr (.inr (.inr (.inr xqF)))))]) (va_runV (As := [.int p7]) (rest := []) ⟨hx, hb, hml, hown, hts⟩ (mX6_has l dC dI kA _ tway twayA 1 twayS p7) (cwV 1 hts gX10_guess_X6_has rfl rfl rfl ⟨rfl, hdX6_has⟩ ⟨(Nat.le_of_ble_eq_true rfl), (Nat.le_of_ble_eq_true rfl)⟩) ⟨zPc.blind, va_recv (q := (RX6, TX6, 3)) hK.1 hP (ci := 6) (q0 := 1) rfl rfl, zPre hK (hP.sub [1] rfl) (hD.sub [1] (by decide) rfl)⟩ rfl rfl hl.1 rfl (lv_room (Nat.le_of_ble_eq_true rfl)) dX10_guess_57 ⟨(Nat.le_of_ble_eq_true rfl), (Nat.le_of_ble_eq_true rfl)⟩) hP hD hS hA [1] [0, 2, 3] rfl rfl (by decide) (by decide) (fun r29 u27 H locs hw28 hP hD hS => ?_)
          obtain rfl := hw28
          obtain ⟨hP, hD⟩ := z_re (L := [(w0, .inr (9, [.ref tnodes, .ref tpasses, .ref tjars, .ref torders, .ref tfeasts, .ref tway, .int tws, .int tnow, .int tfm, .int tx])), (x0, .inr (10, [.ref w0, .ref z0, .ref xi, .ref xt, .int x_tl, .ref xq, .int x_lc, .ref rdr, .ref h0, .ref t0, .ref q0, .ref v0, .ref m0])), (xq, .inl (kA 5, 6, .inr (.inr (.inr (.inr xqF))))), (tway, .inr (6, [.int 1, .ref twayA, .int twayS]))]) hP hD
          refine lv_if_eq (tgt := 67) hx hb dX10_guess_60 (by decide) (fun c_30 => ?_) (fun c_30 => ?_)
          · refine lv_iconst (v := 0) hx hb dX10_guess_67 (by decide) ?_
            refine lv_istore (lv' := [(12, .int 0), (11, .int 0), (10, .null), (0, .ref x0), (1, .int p0), (2, .int p1), (3, .int p2), (4, .int p3), (5, .int p4), (6, .int p5), (7, .int p6), (8, .int p7), (9, .int p8)]) hx hb dX10_guess_68 hl (by decide) rfl (fun ls hl => ?_)
            refine lv_aloadN hx hb dX10_guess_70 (lv_at hl 2 rfl) ?_
            refine lv_ifnullN (tgt := 108) hx hb dX10_guess_72 (by decide) ?_
            refine lv_iconst (v := (-1)) hx hb dX10_guess_108 (by decide) ?_
            obtain ⟨hP9, hD9⟩ := z_sb (L' := [(x0, .inr (10, [.ref w0, .ref z0, .ref xi, .ref xt, .int x_tl, .ref xq, .int x_lc, .ref rdr, .ref h0, .ref t0, .ref q0, .ref v0, .ref m0])), (xq, .inl (kA 5, 6, .inr (.inr (.inr (.inr xqF))))), (w0, .inr (9, [.ref tnodes, .ref tpasses, .ref tjars, .ref torders, .ref tfeasts, .ref tway, .int tws, .int tnow, .int tfm, .int tx])), (tway, .inr (6, [.int 1, .ref twayA, .int twayS]))]) hP hD [1, 2, 0, 3] (by decide) rfl
            refine W.widen (k := 0) (n := 0) (Nat.le_of_ble_eq_true rfl) (Nat.le_of_ble_eq_true rfl) ?_
            exact W.iret (v := (-1)) hx hb hr (fun t ht hW => ⟨⟨(-1), (), rfl, rfl, by rw [ht]; exact hP9, hD9⟩, hS.F ht⟩) hS.2.2 dX10_guess_109
          · have c_30a := hs_ne c_30
            have c_30b := c_30a.2
            have c_30a := c_30a.1
            refine lv_iconst (v := 1) hx hb dX10_guess_63 (by decide) ?_
            refine lv_goto (tgt := 68) hx hb dX10_guess_64 (by decide) ?_
            refine lv_istore (lv' := [(12, .int 1), (11, .int 0), (10, .null), (0, .ref x0), (1, .int p0), (2, .int p1), (3, .int p2), (4, .int p3), (5, .int p4), (6, .int p5), (7, .int p6), (8, .int p7), (9, .int p8)]) hx hb dX10_guess_68 hl (by decide) rfl (fun ls hl => ?_)
            refine lv_aloadN hx hb dX10_guess_70 (lv_at hl 2 rfl) ?_
            refine lv_ifnullN (tgt := 108) hx hb dX10_guess_72 (by decide) ?_
            refine lv_iconst (v := (-1)) hx hb dX10_guess_108 (by decide) ?_
            obtain ⟨hP9, hD9⟩ := z_sb (L' := [(x0, .inr (10, [.ref w0, .ref z0, .ref xi, .ref xt, .int x_tl, .ref xq, .int x_lc, .ref rdr, .ref h0, .ref t0, .ref q0, .ref v0, .ref m0])), (xq, .inl (kA 5, 6, .inr (.inr (.inr (.inr xqF))))), (w0, .inr (9, [.ref tnodes, .ref tpasses, .ref tjars, .ref torders, .ref tfeasts, .ref tway, .int tws, .int tnow, .int tfm, .int tx])), (tway, .inr (6, [.int 1, .ref twayA, .int twayS]))]) hP hD [1, 2, 0, 3] (by decide) rfl
            refine W.widen (k := 0) (n := 0) (Nat.le_of_ble_eq_true rfl) (Nat.le_of_ble_eq_true rfl) ?_
            exact W.iret (v := (-1)) hx hb hr (fun t ht hW => ⟨⟨(-1), (), rfl, rfl, by rw [ht]; exact hP9, hD9⟩, hS.F ht⟩) hS.2.2 dX10_guess_109
      · have c_25a := wi_ne c_25
        have c_25b := c_25a.2
        have c_25a := c_25a.1
        refine lv_iconst (v := 1) hx hb dX10_guess_36 (by decide) ?_
        refine lv_goto (tgt := 41) hx hb dX10_guess_37 (by decide) ?_
        refine lv_istore (lv' := [(11, .int 1), (10, .null), (0, .ref x0), (1, .int p0), (2, .int p1), (3, .int p2), (4, .int p3), (5, .int p4), (6, .int p5), (7, .int p6), (8, .int p7), (9, .int p8)]) hx hb dX10_guess_41 hl (by decide) rfl (fun ls hl => ?_)
        refine lv_iload hx hb dX10_guess_43 (lv_at hl 11 rfl) ?_
        refine lv_if_eq (tgt := 63) hx hb dX10_guess_45 (by decide) (fun c_31 => ?_) (fun c_31 => ?_)
        · refine lv_iconst (v := 1) hx hb dX10_guess_63 (by decide) ?_
          refine lv_goto (tgt := 68) hx hb dX10_guess_64 (by decide) ?_
          refine lv_istore (lv' := [(12, .int 1), (11, .int 1), (10, .null), (0, .ref x0), (1, .int p0), (2, .int p1), (3, .int p2), (4, .int p3), (5, .int p4), (6, .int p5), (7, .int p6), (8, .int p7), (9, .int p8)]) hx hb dX10_guess_68 hl (by decide) rfl (fun ls hl => ?_)
          refine lv_aloadN hx hb dX10_guess_70 (lv_at hl 2 rfl) ?_
          refine lv_ifnullN (tgt := 108) hx hb dX10_guess_72 (by decide) ?_
          refine lv_iconst (v := (-1)) hx hb dX10_guess_108 (by decide) ?_
          obtain ⟨hP9, hD9⟩ := z_sb (L' := [(x0, .inr (10, [.ref w0, .ref z0, .ref xi, .ref xt, .int x_tl, .ref xq, .int x_lc, .ref rdr, .ref h0, .ref t0, .ref q0, .ref v0, .ref m0])), (xq, .inl (kA 5, 6, .inr (.inr (.inr (.inr xqF))))), (w0, .inr (9, [.ref tnodes, .ref tpasses, .ref tjars, .ref torders, .ref tfeasts, .ref tway, .int tws, .int tnow, .int tfm, .int tx])), (tway, .inr (6, [.int 1, .ref twayA, .int twayS]))]) hP hD [2, 3, 0, 1] (by decide) rfl
          refine W.widen (k := 0) (n := 0) (Nat.le_of_ble_eq_true rfl) (Nat.le_of_ble_eq_true rfl) ?_
          exact W.iret (v := (-1)) hx hb hr (fun t ht hW => ⟨⟨(-1), (), rfl, rfl, by rw [ht]; exact hP9, hD9⟩, hS.F ht⟩) hS.2.2 dX10_guess_109
        · refine lv_aload_n hx hb dX10_guess_48 rfl (lv_at hl 2 rfl) ?_
          refine va_get (D := (dC, dI)) (ci := 10) (v := .ref w0) (C := RX10) (T := TX10) (N := 13) hx hb hts iX10_guess_X10 hown hK.1 hP 2 gz2 vcz10 0 (by decide) (kX10_guess_2 hts) (fun _ h9 => h9) gz0 dX10_guess_49 ?_
          refine va_get (D := (dC, dI)) (ci := 9) (v := .ref tway) (C := RX9) (T := TX9) (N := 10) hx hb hts iX10_guess_X9 hown hK.1 hP 0 gz0 vcz9 5 (by decide) (kX10_guess_3 hts) (fun _ h9 => h9) gz5 dX10_guess_52 ?_
          refine lv_iload hx hb dX10_guess_55 (lv_at hl 10 rfl) ?_
          refine z_i (wr := [(w0, .inr (9, [.ref tnodes, .ref tpasses, .ref tjars, .ref torders, .ref tfeasts, .ref tway, .int tws, .int tnow, .int tfm, .int tx])), (x0, .inr (10, [.ref w0, .ref z0, .ref xi, .ref xt, .int x_tl, .ref xq, .int x_lc, .ref rdr, .ref h0, .ref t0, .ref q0, .ref v0, .ref m0])), (xq, .inl (kA 5, 6, .inr (.inr (.inr (.inr xqF)))))]) (va_runV (As := [.int p7]) (rest := []) ⟨hx, hb, hml, hown, hts⟩ (mX6_has l dC dI kA _ tway twayA 1 twayS p7) (cwV 1 hts gX10_guess_X6_has rfl rfl rfl ⟨rfl, hdX6_has⟩ ⟨(Nat.le_of_ble_eq_true rfl), (Nat.le_of_ble_eq_true rfl)⟩) ⟨zPc.blind, va_recv (q := (RX6, TX6, 3)) hK.1 hP (ci := 6) (q0 := 1) rfl rfl, zPre hK (hP.sub [1] rfl) (hD.sub [1] (by decide) rfl)⟩ rfl rfl hl.1 rfl (lv_room (Nat.le_of_ble_eq_true rfl)) dX10_guess_57 ⟨(Nat.le_of_ble_eq_true rfl), (Nat.le_of_ble_eq_true rfl)⟩) hP hD hS hA [1] [0, 2, 3] rfl rfl (by decide) (by decide) (fun r34 u32 H locs hw33 hP hD hS => ?_)
          obtain rfl := hw33
          obtain ⟨hP, hD⟩ := z_re (L := [(w0, .inr (9, [.ref tnodes, .ref tpasses, .ref tjars, .ref torders, .ref tfeasts, .ref tway, .int tws, .int tnow, .int tfm, .int tx])), (x0, .inr (10, [.ref w0, .ref z0, .ref xi, .ref xt, .int x_tl, .ref xq, .int x_lc, .ref rdr, .ref h0, .ref t0, .ref q0, .ref v0, .ref m0])), (xq, .inl (kA 5, 6, .inr (.inr (.inr (.inr xqF))))), (tway, .inr (6, [.int 1, .ref twayA, .int twayS]))]) hP hD
          refine lv_if_eq (tgt := 67) hx hb dX10_guess_60 (by decide) (fun c_35 => ?_) (fun c_35 => ?_)
          · refine lv_iconst (v := 0) hx hb dX10_guess_67 (by decide) ?_
            refine lv_istore (lv' := [(12, .int 0), (11, .int 1), (10, .null), (0, .ref x0), (1, .int p0), (2, .int p1), (3, .int p2), (4, .int p3), (5, .int p4), (6, .int p5), (7, .int p6), (8, .int p7), (9, .int p8)]) hx hb dX10_guess_68 hl (by decide) rfl (fun ls hl => ?_)
            refine lv_aloadN hx hb dX10_guess_70 (lv_at hl 2 rfl) ?_
            refine lv_ifnullN (tgt := 108) hx hb dX10_guess_72 (by decide) ?_
            refine lv_iconst (v := (-1)) hx hb dX10_guess_108 (by decide) ?_
            obtain ⟨hP9, hD9⟩ := z_sb (L' := [(x0, .inr (10, [.ref w0, .ref z0, .ref xi, .ref xt, .int x_tl, .ref xq, .int x_lc, .ref rdr, .ref h0, .ref t0, .ref q0, .ref v0, .ref m0])), (xq, .inl (kA 5, 6, .inr (.inr (.inr (.inr xqF))))), (w0, .inr (9, [.ref tnodes, .ref tpasses, .ref tjars, .ref torders, .ref tfeasts, .ref tway, .int tws, .int tnow, .int tfm, .int tx])), (tway, .inr (6, [.int 1, .ref twayA, .int twayS]))]) hP hD [1, 2, 0, 3] (by decide) rfl
            refine W.widen (k := 0) (n := 0) (Nat.le_of_ble_eq_true rfl) (Nat.le_of_ble_eq_true rfl) ?_
            exact W.iret (v := (-1)) hx hb hr (fun t ht hW => ⟨⟨(-1), (), rfl, rfl, by rw [ht]; exact hP9, hD9⟩, hS.F ht⟩) hS.2.2 dX10_guess_109
          · have c_35a := hs_ne c_35
            have c_35b := c_35a.2
            have c_35a := c_35a.1
            refine lv_iconst (v := 1) hx hb dX10_guess_63 (by decide) ?_
            refine lv_goto (tgt := 68) hx hb dX10_guess_64 (by decide) ?_
            refine lv_istore (lv' := [(12, .int 1), (11, .int 1), (10, .null), (0, .ref x0), (1, .int p0), (2, .int p1), (3, .int p2), (4, .int p3), (5, .int p4), (6, .int p5), (7, .int p6), (8, .int p7), (9, .int p8)]) hx hb dX10_guess_68 hl (by decide) rfl (fun ls hl => ?_)
            refine lv_aloadN hx hb dX10_guess_70 (lv_at hl 2 rfl) ?_
            refine lv_ifnullN (tgt := 108) hx hb dX10_guess_72 (by decide) ?_
            refine lv_iconst (v := (-1)) hx hb dX10_guess_108 (by decide) ?_
            obtain ⟨hP9, hD9⟩ := z_sb (L' := [(x0, .inr (10, [.ref w0, .ref z0, .ref xi, .ref xt, .int x_tl, .ref xq, .int x_lc, .ref rdr, .ref h0, .ref t0, .ref q0, .ref v0, .ref m0])), (xq, .inl (kA 5, 6, .inr (.inr (.inr (.inr xqF))))), (w0, .inr (9, [.ref tnodes, .ref tpasses, .ref tjars, .ref torders, .ref tfeasts, .ref tway, .int tws, .int tnow, .int tfm, .int tx])), (tway, .inr (6, [.int 1, .ref twayA, .int twayS]))]) hP hD [1, 2, 0, 3] (by decide) rfl
            refine W.widen (k := 0) (n := 0) (Nat.le_of_ble_eq_true rfl) (Nat.le_of_ble_eq_true rfl) ?_
            exact W.iret (v := (-1)) hx hb hr (fun t ht hW => ⟨⟨(-1), (), rfl, rfl, by rw [ht]; exact hP9, hD9⟩, hS.F ht⟩) hS.2.2 dX10_guess_109
set_option maxHeartbeats 4000000 in
set_option maxRecDepth 100000 in
theorem mX10_serves_no (l : Launch) (dC : Nat → ClassId) (dI : Nat → Nat → Nat) (kA : Nat → ClassId) (sz : Nat) (x0 : Nat) (z0 : Nat) (xi : Nat) (xt : Nat) (xq : Nat) (rdr : Nat) (h0 : Nat) (t0 : Nat) (q0 : Nat) (v0 : Nat) (m0 : Nat) (w0 : Nat) (x_tl : Int32) (x_lc : Int32) (xqF : Nat → Option Nat) (p0 : Int32) (p1 : Int32) (p2 : Int32) (hsel : (sel p0 x_lc xqF) = none) : Met l yX10_serves wsX10_serves ({ frames := 2, cells := 0, slots := 0, locals := 42 }) (zPc dC dI kA sz [.ref x0, .int p0, .int p1, .int p2] [(x0, .inr (10, [.ref w0, .ref z0, .ref xi, .ref xt, .int x_tl, .ref xq, .int x_lc, .ref rdr, .ref h0, .ref t0, .ref q0, .ref v0, .ref m0])), (xq, .inl (kA 5, 6, .inr (.inr (.inr (.inr xqF)))))]) (va_Qi (fun (r : Int32) (u : Unit) => r = (-1)) (zB dC dI (va_A [(x0, .inr (10, [.ref w0, .ref z0, .ref xi, .ref xt, .int x_tl, .ref xq, .int x_lc, .ref rdr, .ref h0, .ref t0, .ref q0, .ref v0, .ref m0])), (xq, .inl (kA 5, 6, .inr (.inr (.inr (.inr xqF)))))] sz) (fun (u : Unit) => [(x0, .inr (10, [.ref w0, .ref z0, .ref xi, .ref xt, .int x_tl, .ref xq, .int x_lc, .ref rdr, .ref h0, .ref t0, .ref q0, .ref v0, .ref m0])), (xq, .inl (kA 5, 6, .inr (.inr (.inr (.inr xqF)))))])) (va_A [(x0, .inr (10, [.ref w0, .ref z0, .ref xi, .ref xt, .int x_tl, .ref xq, .int x_lc, .ref rdr, .ref h0, .ref t0, .ref q0, .ref v0, .ref m0])), (xq, .inl (kA 5, 6, .inr (.inr (.inr (.inr xqF)))))] sz)) 0 0 (va_A [(x0, .inr (10, [.ref w0, .ref z0, .ref xi, .ref xt, .int x_tl, .ref xq, .int x_lc, .ref rdr, .ref h0, .ref t0, .ref q0, .ref v0, .ref m0])), (xq, .inl (kA 5, 6, .inr (.inr (.inr (.inr xqF)))))] sz) := by
  refine Met.ofW (cc := cX10_serves) (maxL := 5) (ret := (some .int)) pnX10 rfl ?_
  intro p e s m args below meth c s₁ B hml hv
  obtain ⟨rfl, hsz, hP, hK, hD0⟩ := hv
  have hx := B.exec
  have hb := B.bytes
  have hr := B.returns
  have hts := atoms_spec (ws := wsX10_serves) B.pre
  have hown : s.vm.findClass RX10 = some m.cls := findClass_of_methodNamed B.named
  have hlocks := B.notSynchronized
  subst hsz
  have hD := hD0.self (sz := s.heap.size)
  generalize hAe : va_A [(x0, .inr (10, [.ref w0, .ref z0, .ref xi, .ref xt, .int x_tl, .ref xq, .int x_lc, .ref rdr, .ref h0, .ref t0, .ref q0, .ref v0, .ref m0])), (xq, .inl (kA 5, 6, .inr (.inr (.inr (.inr xqF)))))] s.heap.size = A at hD ⊢
  have hA : ∀ q : Nat, s.heap.size ≤ q → A q := zA_of hAe
  have hS : va_S A s.heap s.heap [] := va_S.rf
  have hP : va_P (dC, dI) vwCl [(x0, .inr (10, [.ref w0, .ref z0, .ref xi, .ref xt, .int x_tl, .ref xq, .int x_lc, .ref rdr, .ref h0, .ref t0, .ref q0, .ref v0, .ref m0])), (xq, .inl (kA 5, 6, .inr (.inr (.inr (.inr xqF)))))] s.heap := hP
  have hl := lv_entry ([.ref x0, .int p0, .int p1, .int p2]) (n := 5) (Nat.le_of_ble_eq_true rfl)
  rw [lg_entry_eq]
  generalize (lg_sl ([.ref x0, .int p0, .int p1, .int p2]) ++ List.replicate (5 - (lg_sl ([.ref x0, .int p0, .int p1, .int p2])).length) Slot.unset).toArray = ls at hl ⊢
  have hl : lv_has ls 5 [(0, .ref x0), (1, .int p0), (2, .int p1), (3, .int p2)] := hl
  refine lv_aload_n hx hb dX10_serves_0 rfl (lv_at hl 0 rfl) ?_
  refine lv_iload_n hx hb dX10_serves_1 rfl (lv_at hl 1 rfl) ?_
  refine z_q (wr := []) (va_runV (As := [.int p0]) (rest := []) ⟨hx, hb, hml, hown, hts⟩ (mX10_lawOf l dC dI kA _ x0 z0 xi xt xq rdr h0 t0 q0 v0 m0 w0 x_tl x_lc xqF p0) (cwV 1 hts gX10_serves_X10_lawOf rfl rfl rfl ⟨rfl, hdX10_lawOf⟩ ⟨(Nat.le_of_ble_eq_true rfl), (Nat.le_of_ble_eq_true rfl)⟩) ⟨zPc.blind, va_recv (q := (RX10, TX10, 13)) hK.1 hP (ci := 10) (q0 := 0) rfl rfl, zPre hK (hP.sub [0, 1] rfl) (hD.sub [0, 1] (by decide) rfl)⟩ rfl rfl hl.1 rfl (lv_room (Nat.le_of_ble_eq_true rfl)) dX10_serves_2 ⟨(Nat.le_of_ble_eq_true rfl), (Nat.le_of_ble_eq_true rfl)⟩) hP hD hS hA [0, 1] [] rfl rfl (by decide) (by decide) (fun r3 u1 H locs hw2 hP hD hS => ?_)
  obtain rfl := hw2
  obtain ⟨hP, hD⟩ := z_re (L := [(x0, .inr (10, [.ref w0, .ref z0, .ref xi, .ref xt, .int x_tl, .ref xq, .int x_lc, .ref rdr, .ref h0, .ref t0, .ref q0, .ref v0, .ref m0])), (xq, .inl (kA 5, 6, .inr (.inr (.inr (.inr xqF)))))]) hP hD
  refine zv .null (by rw [hsel]; rfl) ?_
  refine lv_astoreN (lv' := [(4, .null), (0, .ref x0), (1, .int p0), (2, .int p1), (3, .int p2)]) hx hb dX10_serves_5 hl (by decide) rfl (fun ls hl => ?_)
  refine lv_aloadN hx hb dX10_serves_7 (lv_at hl 0 rfl) ?_
  refine lv_ifnullN (tgt := 40) hx hb dX10_serves_9 (by decide) ?_
  refine lv_iconst (v := (-1)) hx hb dX10_serves_40 (by decide) ?_
  obtain ⟨hP9, hD9⟩ := z_sb (L' := [(x0, .inr (10, [.ref w0, .ref z0, .ref xi, .ref xt, .int x_tl, .ref xq, .int x_lc, .ref rdr, .ref h0, .ref t0, .ref q0, .ref v0, .ref m0])), (xq, .inl (kA 5, 6, .inr (.inr (.inr (.inr xqF)))))]) hP hD [0, 1] (by decide) rfl
  refine W.widen (k := 0) (n := 0) (Nat.le_of_ble_eq_true rfl) (Nat.le_of_ble_eq_true rfl) ?_
  exact W.iret (v := (-1)) hx hb hr (fun t ht hW => ⟨⟨(-1), (), rfl, rfl, by rw [ht]; exact hP9, hD9⟩, hS.F ht⟩) hS.2.2 dX10_serves_41
set_option maxHeartbeats 4000000 in
set_option maxRecDepth 100000 in
theorem mX10_all_no (l : Launch) (dC : Nat → ClassId) (dI : Nat → Nat → Nat) (kA : Nat → ClassId) (sz : Nat) (x0 : Nat) (z0 : Nat) (xi : Nat) (xt : Nat) (xq : Nat) (rdr : Nat) (h0 : Nat) (t0 : Nat) (q0 : Nat) (v0 : Nat) (m0 : Nat) (w0 : Nat) (x_tl : Int32) (x_lc : Int32) (xqF : Nat → Option Nat) (p0 : Int32) (p1 : Int32) (hsel : (sel p0 x_lc xqF) = none) : Met l yX10_all wsX10_all ({ frames := 2, cells := 0, slots := 0, locals := 42 }) (zPc dC dI kA sz [.ref x0, .int p0, .int p1] [(x0, .inr (10, [.ref w0, .ref z0, .ref xi, .ref xt, .int x_tl, .ref xq, .int x_lc, .ref rdr, .ref h0, .ref t0, .ref q0, .ref v0, .ref m0])), (xq, .inl (kA 5, 6, .inr (.inr (.inr (.inr xqF)))))]) (va_Qi (fun (r : Int32) (u : Unit) => r = (-1)) (zB dC dI (va_A [(x0, .inr (10, [.ref w0, .ref z0, .ref xi, .ref xt, .int x_tl, .ref xq, .int x_lc, .ref rdr, .ref h0, .ref t0, .ref q0, .ref v0, .ref m0])), (xq, .inl (kA 5, 6, .inr (.inr (.inr (.inr xqF)))))] sz) (fun (u : Unit) => [(x0, .inr (10, [.ref w0, .ref z0, .ref xi, .ref xt, .int x_tl, .ref xq, .int x_lc, .ref rdr, .ref h0, .ref t0, .ref q0, .ref v0, .ref m0])), (xq, .inl (kA 5, 6, .inr (.inr (.inr (.inr xqF)))))])) (va_A [(x0, .inr (10, [.ref w0, .ref z0, .ref xi, .ref xt, .int x_tl, .ref xq, .int x_lc, .ref rdr, .ref h0, .ref t0, .ref q0, .ref v0, .ref m0])), (xq, .inl (kA 5, 6, .inr (.inr (.inr (.inr xqF)))))] sz)) 0 0 (va_A [(x0, .inr (10, [.ref w0, .ref z0, .ref xi, .ref xt, .int x_tl, .ref xq, .int x_lc, .ref rdr, .ref h0, .ref t0, .ref q0, .ref v0, .ref m0])), (xq, .inl (kA 5, 6, .inr (.inr (.inr (.inr xqF)))))] sz) := by
  refine Met.ofW (cc := cX10_all) (maxL := 6) (ret := (some .int)) pnX10 rfl ?_
  intro p e s m args below meth c s₁ B hml hv
  obtain ⟨rfl, hsz, hP, hK, hD0⟩ := hv
  have hx := B.exec
  have hb := B.bytes
  have hr := B.returns
  have hts := atoms_spec (ws := wsX10_all) B.pre
  have hown : s.vm.findClass RX10 = some m.cls := findClass_of_methodNamed B.named
  have hlocks := B.notSynchronized
  subst hsz
  have hD := hD0.self (sz := s.heap.size)
  generalize hAe : va_A [(x0, .inr (10, [.ref w0, .ref z0, .ref xi, .ref xt, .int x_tl, .ref xq, .int x_lc, .ref rdr, .ref h0, .ref t0, .ref q0, .ref v0, .ref m0])), (xq, .inl (kA 5, 6, .inr (.inr (.inr (.inr xqF)))))] s.heap.size = A at hD ⊢
  have hA : ∀ q : Nat, s.heap.size ≤ q → A q := zA_of hAe
  have hS : va_S A s.heap s.heap [] := va_S.rf
  have hP : va_P (dC, dI) vwCl [(x0, .inr (10, [.ref w0, .ref z0, .ref xi, .ref xt, .int x_tl, .ref xq, .int x_lc, .ref rdr, .ref h0, .ref t0, .ref q0, .ref v0, .ref m0])), (xq, .inl (kA 5, 6, .inr (.inr (.inr (.inr xqF)))))] s.heap := hP
  have hl := lv_entry ([.ref x0, .int p0, .int p1]) (n := 6) (Nat.le_of_ble_eq_true rfl)
  rw [lg_entry_eq]
  generalize (lg_sl ([.ref x0, .int p0, .int p1]) ++ List.replicate (6 - (lg_sl ([.ref x0, .int p0, .int p1])).length) Slot.unset).toArray = ls at hl ⊢
  have hl : lv_has ls 6 [(0, .ref x0), (1, .int p0), (2, .int p1)] := hl
  refine lv_aload_n hx hb dX10_all_0 rfl (lv_at hl 0 rfl) ?_
  refine lv_iload_n hx hb dX10_all_1 rfl (lv_at hl 1 rfl) ?_
  refine z_q (wr := []) (va_runV (As := [.int p0]) (rest := []) ⟨hx, hb, hml, hown, hts⟩ (mX10_lawOf l dC dI kA _ x0 z0 xi xt xq rdr h0 t0 q0 v0 m0 w0 x_tl x_lc xqF p0) (cwV 1 hts gX10_all_X10_lawOf rfl rfl rfl ⟨rfl, hdX10_lawOf⟩ ⟨(Nat.le_of_ble_eq_true rfl), (Nat.le_of_ble_eq_true rfl)⟩) ⟨zPc.blind, va_recv (q := (RX10, TX10, 13)) hK.1 hP (ci := 10) (q0 := 0) rfl rfl, zPre hK (hP.sub [0, 1] rfl) (hD.sub [0, 1] (by decide) rfl)⟩ rfl rfl hl.1 rfl (lv_room (Nat.le_of_ble_eq_true rfl)) dX10_all_2 ⟨(Nat.le_of_ble_eq_true rfl), (Nat.le_of_ble_eq_true rfl)⟩) hP hD hS hA [0, 1] [] rfl rfl (by decide) (by decide) (fun r3 u1 H locs hw2 hP hD hS => ?_)
  obtain rfl := hw2
  obtain ⟨hP, hD⟩ := z_re (L := [(x0, .inr (10, [.ref w0, .ref z0, .ref xi, .ref xt, .int x_tl, .ref xq, .int x_lc, .ref rdr, .ref h0, .ref t0, .ref q0, .ref v0, .ref m0])), (xq, .inl (kA 5, 6, .inr (.inr (.inr (.inr xqF)))))]) hP hD
  refine zv .null (by rw [hsel]; rfl) ?_
  refine lv_astore_nN (lv' := [(3, .null), (0, .ref x0), (1, .int p0), (2, .int p1)]) hx hb dX10_all_5 rfl hl (by decide) rfl (fun ls hl => ?_)
  refine lv_aload_nN hx hb dX10_all_6 rfl (lv_at hl 0 rfl) ?_
  refine lv_ifnullN (tgt := 19) hx hb dX10_all_7 (by decide) ?_
  refine lv_iconst (v := (-1)) hx hb dX10_all_19 (by decide) ?_
  obtain ⟨hP9, hD9⟩ := z_sb (L' := [(x0, .inr (10, [.ref w0, .ref z0, .ref xi, .ref xt, .int x_tl, .ref xq, .int x_lc, .ref rdr, .ref h0, .ref t0, .ref q0, .ref v0, .ref m0])), (xq, .inl (kA 5, 6, .inr (.inr (.inr (.inr xqF)))))]) hP hD [0, 1] (by decide) rfl
  refine W.widen (k := 0) (n := 0) (Nat.le_of_ble_eq_true rfl) (Nat.le_of_ble_eq_true rfl) ?_
  exact W.iret (v := (-1)) hx hb hr (fun t ht hW => ⟨⟨(-1), (), rfl, rfl, by rw [ht]; exact hP9, hD9⟩, hS.F ht⟩) hS.2.2 dX10_all_20
set_option maxHeartbeats 4000000 in
set_option maxRecDepth 100000 in
theorem mX10_enough_no (l : Launch) (dC : Nat → ClassId) (dI : Nat → Nat → Nat) (kA : Nat → ClassId) (sz : Nat) (x0 : Nat) (z0 : Nat) (xi : Nat) (xt : Nat) (xq : Nat) (rdr : Nat) (h0 : Nat) (t0 : Nat) (q0 : Nat) (v0 : Nat) (m0 : Nat) (w0 : Nat) (x_tl : Int32) (x_lc : Int32) (xqF : Nat → Option Nat) (p0 : Int32) (p1 : Int32) (p2 : Int32) (hsel : (sel p0 x_lc xqF) = none) : Met l yX10_enough wsX10_enough ({ frames := 2, cells := 0, slots := 0, locals := 42 }) (zPc dC dI kA sz [.ref x0, .int p0, .int p1, .int p2] [(x0, .inr (10, [.ref w0, .ref z0, .ref xi, .ref xt, .int x_tl, .ref xq, .int x_lc, .ref rdr, .ref h0, .ref t0, .ref q0, .ref v0, .ref m0])), (xq, .inl (kA 5, 6, .inr (.inr (.inr (.inr xqF)))))]) (va_Qi (fun (r : Int32) (u : Unit) => r = (-1)) (zB dC dI (va_A [(x0, .inr (10, [.ref w0, .ref z0, .ref xi, .ref xt, .int x_tl, .ref xq, .int x_lc, .ref rdr, .ref h0, .ref t0, .ref q0, .ref v0, .ref m0])), (xq, .inl (kA 5, 6, .inr (.inr (.inr (.inr xqF)))))] sz) (fun (u : Unit) => [(x0, .inr (10, [.ref w0, .ref z0, .ref xi, .ref xt, .int x_tl, .ref xq, .int x_lc, .ref rdr, .ref h0, .ref t0, .ref q0, .ref v0, .ref m0])), (xq, .inl (kA 5, 6, .inr (.inr (.inr (.inr xqF)))))])) (va_A [(x0, .inr (10, [.ref w0, .ref z0, .ref xi, .ref xt, .int x_tl, .ref xq, .int x_lc, .ref rdr, .ref h0, .ref t0, .ref q0, .ref v0, .ref m0])), (xq, .inl (kA 5, 6, .inr (.inr (.inr (.inr xqF)))))] sz)) 0 0 (va_A [(x0, .inr (10, [.ref w0, .ref z0, .ref xi, .ref xt, .int x_tl, .ref xq, .int x_lc, .ref rdr, .ref h0, .ref t0, .ref q0, .ref v0, .ref m0])), (xq, .inl (kA 5, 6, .inr (.inr (.inr (.inr xqF)))))] sz) := by
  refine Met.ofW (cc := cX10_enough) (maxL := 5) (ret := (some .int)) pnX10 rfl ?_
  intro p e s m args below meth c s₁ B hml hv
  obtain ⟨rfl, hsz, hP, hK, hD0⟩ := hv
  have hx := B.exec
  have hb := B.bytes
  have hr := B.returns
  have hts := atoms_spec (ws := wsX10_enough) B.pre
  have hown : s.vm.findClass RX10 = some m.cls := findClass_of_methodNamed B.named
  have hlocks := B.notSynchronized
  subst hsz
  have hD := hD0.self (sz := s.heap.size)
  generalize hAe : va_A [(x0, .inr (10, [.ref w0, .ref z0, .ref xi, .ref xt, .int x_tl, .ref xq, .int x_lc, .ref rdr, .ref h0, .ref t0, .ref q0, .ref v0, .ref m0])), (xq, .inl (kA 5, 6, .inr (.inr (.inr (.inr xqF)))))] s.heap.size = A at hD ⊢
  have hA : ∀ q : Nat, s.heap.size ≤ q → A q := zA_of hAe
  have hS : va_S A s.heap s.heap [] := va_S.rf
  have hP : va_P (dC, dI) vwCl [(x0, .inr (10, [.ref w0, .ref z0, .ref xi, .ref xt, .int x_tl, .ref xq, .int x_lc, .ref rdr, .ref h0, .ref t0, .ref q0, .ref v0, .ref m0])), (xq, .inl (kA 5, 6, .inr (.inr (.inr (.inr xqF)))))] s.heap := hP
  have hl := lv_entry ([.ref x0, .int p0, .int p1, .int p2]) (n := 5) (Nat.le_of_ble_eq_true rfl)
  rw [lg_entry_eq]
  generalize (lg_sl ([.ref x0, .int p0, .int p1, .int p2]) ++ List.replicate (5 - (lg_sl ([.ref x0, .int p0, .int p1, .int p2])).length) Slot.unset).toArray = ls at hl ⊢
  have hl : lv_has ls 5 [(0, .ref x0), (1, .int p0), (2, .int p1), (3, .int p2)] := hl
  refine lv_aload_n hx hb dX10_enough_0 rfl (lv_at hl 0 rfl) ?_
  refine lv_iload_n hx hb dX10_enough_1 rfl (lv_at hl 1 rfl) ?_
  refine z_q (wr := []) (va_runV (As := [.int p0]) (rest := []) ⟨hx, hb, hml, hown, hts⟩ (mX10_lawOf l dC dI kA _ x0 z0 xi xt xq rdr h0 t0 q0 v0 m0 w0 x_tl x_lc xqF p0) (cwV 1 hts gX10_enough_X10_lawOf rfl rfl rfl ⟨rfl, hdX10_lawOf⟩ ⟨(Nat.le_of_ble_eq_true rfl), (Nat.le_of_ble_eq_true rfl)⟩) ⟨zPc.blind, va_recv (q := (RX10, TX10, 13)) hK.1 hP (ci := 10) (q0 := 0) rfl rfl, zPre hK (hP.sub [0, 1] rfl) (hD.sub [0, 1] (by decide) rfl)⟩ rfl rfl hl.1 rfl (lv_room (Nat.le_of_ble_eq_true rfl)) dX10_enough_2 ⟨(Nat.le_of_ble_eq_true rfl), (Nat.le_of_ble_eq_true rfl)⟩) hP hD hS hA [0, 1] [] rfl rfl (by decide) (by decide) (fun r3 u1 H locs hw2 hP hD hS => ?_)
  obtain rfl := hw2
  obtain ⟨hP, hD⟩ := z_re (L := [(x0, .inr (10, [.ref w0, .ref z0, .ref xi, .ref xt, .int x_tl, .ref xq, .int x_lc, .ref rdr, .ref h0, .ref t0, .ref q0, .ref v0, .ref m0])), (xq, .inl (kA 5, 6, .inr (.inr (.inr (.inr xqF)))))]) hP hD
  refine zv .null (by rw [hsel]; rfl) ?_
  refine lv_astoreN (lv' := [(4, .null), (0, .ref x0), (1, .int p0), (2, .int p1), (3, .int p2)]) hx hb dX10_enough_5 hl (by decide) rfl (fun ls hl => ?_)
  refine lv_aloadN hx hb dX10_enough_7 (lv_at hl 0 rfl) ?_
  refine lv_ifnullN (tgt := 35) hx hb dX10_enough_9 (by decide) ?_
  refine lv_iconst (v := (-1)) hx hb dX10_enough_35 (by decide) ?_
  obtain ⟨hP9, hD9⟩ := z_sb (L' := [(x0, .inr (10, [.ref w0, .ref z0, .ref xi, .ref xt, .int x_tl, .ref xq, .int x_lc, .ref rdr, .ref h0, .ref t0, .ref q0, .ref v0, .ref m0])), (xq, .inl (kA 5, 6, .inr (.inr (.inr (.inr xqF)))))]) hP hD [0, 1] (by decide) rfl
  refine W.widen (k := 0) (n := 0) (Nat.le_of_ble_eq_true rfl) (Nat.le_of_ble_eq_true rfl) ?_
  exact W.iret (v := (-1)) hx hb hr (fun t ht hW => ⟨⟨(-1), (), rfl, rfl, by rw [ht]; exact hP9, hD9⟩, hS.F ht⟩) hS.2.2 dX10_enough_36
set_option maxHeartbeats 4000000 in
set_option maxRecDepth 100000 in
theorem mX10_least_no (l : Launch) (dC : Nat → ClassId) (dI : Nat → Nat → Nat) (kA : Nat → ClassId) (sz : Nat) (x0 : Nat) (z0 : Nat) (xi : Nat) (xt : Nat) (xq : Nat) (rdr : Nat) (h0 : Nat) (t0 : Nat) (q0 : Nat) (v0 : Nat) (m0 : Nat) (w0 : Nat) (x_tl : Int32) (x_lc : Int32) (xqF : Nat → Option Nat) (p0 : Int32) (p1 : Int32) (hsel : (sel p0 x_lc xqF) = none) : Met l yX10_least wsX10_least ({ frames := 2, cells := 0, slots := 0, locals := 42 }) (zPc dC dI kA sz [.ref x0, .int p0, .int p1] [(x0, .inr (10, [.ref w0, .ref z0, .ref xi, .ref xt, .int x_tl, .ref xq, .int x_lc, .ref rdr, .ref h0, .ref t0, .ref q0, .ref v0, .ref m0])), (xq, .inl (kA 5, 6, .inr (.inr (.inr (.inr xqF)))))]) (va_Qi (fun (r : Int32) (u : Unit) => r = (-1)) (zB dC dI (va_A [(x0, .inr (10, [.ref w0, .ref z0, .ref xi, .ref xt, .int x_tl, .ref xq, .int x_lc, .ref rdr, .ref h0, .ref t0, .ref q0, .ref v0, .ref m0])), (xq, .inl (kA 5, 6, .inr (.inr (.inr (.inr xqF)))))] sz) (fun (u : Unit) => [(x0, .inr (10, [.ref w0, .ref z0, .ref xi, .ref xt, .int x_tl, .ref xq, .int x_lc, .ref rdr, .ref h0, .ref t0, .ref q0, .ref v0, .ref m0])), (xq, .inl (kA 5, 6, .inr (.inr (.inr (.inr xqF)))))])) (va_A [(x0, .inr (10, [.ref w0, .ref z0, .ref xi, .ref xt, .int x_tl, .ref xq, .int x_lc, .ref rdr, .ref h0, .ref t0, .ref q0, .ref v0, .ref m0])), (xq, .inl (kA 5, 6, .inr (.inr (.inr (.inr xqF)))))] sz)) 0 0 (va_A [(x0, .inr (10, [.ref w0, .ref z0, .ref xi, .ref xt, .int x_tl, .ref xq, .int x_lc, .ref rdr, .ref h0, .ref t0, .ref q0, .ref v0, .ref m0])), (xq, .inl (kA 5, 6, .inr (.inr (.inr (.inr xqF)))))] sz) := by
  refine Met.ofW (cc := cX10_least) (maxL := 5) (ret := (some .int)) pnX10 rfl ?_
  intro p e s m args below meth c s₁ B hml hv
  obtain ⟨rfl, hsz, hP, hK, hD0⟩ := hv
  have hx := B.exec
  have hb := B.bytes
  have hr := B.returns
  have hts := atoms_spec (ws := wsX10_least) B.pre
  have hown : s.vm.findClass RX10 = some m.cls := findClass_of_methodNamed B.named
  have hlocks := B.notSynchronized
  subst hsz
  have hD := hD0.self (sz := s.heap.size)
  generalize hAe : va_A [(x0, .inr (10, [.ref w0, .ref z0, .ref xi, .ref xt, .int x_tl, .ref xq, .int x_lc, .ref rdr, .ref h0, .ref t0, .ref q0, .ref v0, .ref m0])), (xq, .inl (kA 5, 6, .inr (.inr (.inr (.inr xqF)))))] s.heap.size = A at hD ⊢
  have hA : ∀ q : Nat, s.heap.size ≤ q → A q := zA_of hAe
  have hS : va_S A s.heap s.heap [] := va_S.rf
  have hP : va_P (dC, dI) vwCl [(x0, .inr (10, [.ref w0, .ref z0, .ref xi, .ref xt, .int x_tl, .ref xq, .int x_lc, .ref rdr, .ref h0, .ref t0, .ref q0, .ref v0, .ref m0])), (xq, .inl (kA 5, 6, .inr (.inr (.inr (.inr xqF)))))] s.heap := hP
  have hl := lv_entry ([.ref x0, .int p0, .int p1]) (n := 5) (Nat.le_of_ble_eq_true rfl)
  rw [lg_entry_eq]
  generalize (lg_sl ([.ref x0, .int p0, .int p1]) ++ List.replicate (5 - (lg_sl ([.ref x0, .int p0, .int p1])).length) Slot.unset).toArray = ls at hl ⊢
  have hl : lv_has ls 5 [(0, .ref x0), (1, .int p0), (2, .int p1)] := hl
  refine lv_aload_n hx hb dX10_least_0 rfl (lv_at hl 0 rfl) ?_
  refine lv_iload_n hx hb dX10_least_1 rfl (lv_at hl 1 rfl) ?_
  refine z_q (wr := []) (va_runV (As := [.int p0]) (rest := []) ⟨hx, hb, hml, hown, hts⟩ (mX10_lawOf l dC dI kA _ x0 z0 xi xt xq rdr h0 t0 q0 v0 m0 w0 x_tl x_lc xqF p0) (cwV 1 hts gX10_least_X10_lawOf rfl rfl rfl ⟨rfl, hdX10_lawOf⟩ ⟨(Nat.le_of_ble_eq_true rfl), (Nat.le_of_ble_eq_true rfl)⟩) ⟨zPc.blind, va_recv (q := (RX10, TX10, 13)) hK.1 hP (ci := 10) (q0 := 0) rfl rfl, zPre hK (hP.sub [0, 1] rfl) (hD.sub [0, 1] (by decide) rfl)⟩ rfl rfl hl.1 rfl (lv_room (Nat.le_of_ble_eq_true rfl)) dX10_least_2 ⟨(Nat.le_of_ble_eq_true rfl), (Nat.le_of_ble_eq_true rfl)⟩) hP hD hS hA [0, 1] [] rfl rfl (by decide) (by decide) (fun r3 u1 H locs hw2 hP hD hS => ?_)
  obtain rfl := hw2
  obtain ⟨hP, hD⟩ := z_re (L := [(x0, .inr (10, [.ref w0, .ref z0, .ref xi, .ref xt, .int x_tl, .ref xq, .int x_lc, .ref rdr, .ref h0, .ref t0, .ref q0, .ref v0, .ref m0])), (xq, .inl (kA 5, 6, .inr (.inr (.inr (.inr xqF)))))]) hP hD
  refine zv .null (by rw [hsel]; rfl) ?_
  refine lv_astore_nN (lv' := [(3, .null), (0, .ref x0), (1, .int p0), (2, .int p1)]) hx hb dX10_least_5 rfl hl (by decide) rfl (fun ls hl => ?_)
  refine lv_aload_nN hx hb dX10_least_6 rfl (lv_at hl 0 rfl) ?_
  refine lv_ifnullN (tgt := 24) hx hb dX10_least_7 (by decide) ?_
  refine lv_iconst (v := (-1)) hx hb dX10_least_24 (by decide) ?_
  obtain ⟨hP9, hD9⟩ := z_sb (L' := [(x0, .inr (10, [.ref w0, .ref z0, .ref xi, .ref xt, .int x_tl, .ref xq, .int x_lc, .ref rdr, .ref h0, .ref t0, .ref q0, .ref v0, .ref m0])), (xq, .inl (kA 5, 6, .inr (.inr (.inr (.inr xqF)))))]) hP hD [0, 1] (by decide) rfl
  refine W.widen (k := 0) (n := 0) (Nat.le_of_ble_eq_true rfl) (Nat.le_of_ble_eq_true rfl) ?_
  exact W.iret (v := (-1)) hx hb hr (fun t ht hW => ⟨⟨(-1), (), rfl, rfl, by rw [ht]; exact hP9, hD9⟩, hS.F ht⟩) hS.2.2 dX10_least_25
set_option maxHeartbeats 4000000 in
set_option maxRecDepth 100000 in
theorem mX10_nights_no (l : Launch) (dC : Nat → ClassId) (dI : Nat → Nat → Nat) (kA : Nat → ClassId) (sz : Nat) (x0 : Nat) (z0 : Nat) (xi : Nat) (xt : Nat) (xq : Nat) (rdr : Nat) (h0 : Nat) (t0 : Nat) (q0 : Nat) (v0 : Nat) (m0 : Nat) (w0 : Nat) (x_tl : Int32) (x_lc : Int32) (xqF : Nat → Option Nat) (p0 : Int32) (p1 : Int32) (p2 : Int32) (p3 : Int32) (p4 : Int32) (hsel : (sel p0 x_lc xqF) = none) : Met l yX10_nights wsX10_nights ({ frames := 2, cells := 0, slots := 0, locals := 42 }) (zPc dC dI kA sz [.ref x0, .int p0, .int p1, .int p2, .int p3, .int p4] [(x0, .inr (10, [.ref w0, .ref z0, .ref xi, .ref xt, .int x_tl, .ref xq, .int x_lc, .ref rdr, .ref h0, .ref t0, .ref q0, .ref v0, .ref m0])), (xq, .inl (kA 5, 6, .inr (.inr (.inr (.inr xqF)))))]) (va_Qi (fun (r : Int32) (u : Unit) => r = (-1)) (zB dC dI (va_A [(x0, .inr (10, [.ref w0, .ref z0, .ref xi, .ref xt, .int x_tl, .ref xq, .int x_lc, .ref rdr, .ref h0, .ref t0, .ref q0, .ref v0, .ref m0])), (xq, .inl (kA 5, 6, .inr (.inr (.inr (.inr xqF)))))] sz) (fun (u : Unit) => [(x0, .inr (10, [.ref w0, .ref z0, .ref xi, .ref xt, .int x_tl, .ref xq, .int x_lc, .ref rdr, .ref h0, .ref t0, .ref q0, .ref v0, .ref m0])), (xq, .inl (kA 5, 6, .inr (.inr (.inr (.inr xqF)))))])) (va_A [(x0, .inr (10, [.ref w0, .ref z0, .ref xi, .ref xt, .int x_tl, .ref xq, .int x_lc, .ref rdr, .ref h0, .ref t0, .ref q0, .ref v0, .ref m0])), (xq, .inl (kA 5, 6, .inr (.inr (.inr (.inr xqF)))))] sz)) 0 0 (va_A [(x0, .inr (10, [.ref w0, .ref z0, .ref xi, .ref xt, .int x_tl, .ref xq, .int x_lc, .ref rdr, .ref h0, .ref t0, .ref q0, .ref v0, .ref m0])), (xq, .inl (kA 5, 6, .inr (.inr (.inr (.inr xqF)))))] sz) := by
  refine Met.ofW (cc := cX10_nights) (maxL := 14) (ret := (some .int)) pnX10 rfl ?_
  intro p e s m args below meth c s₁ B hml hv
  obtain ⟨rfl, hsz, hP, hK, hD0⟩ := hv
  have hx := B.exec
  have hb := B.bytes
  have hr := B.returns
  have hts := atoms_spec (ws := wsX10_nights) B.pre
  have hown : s.vm.findClass RX10 = some m.cls := findClass_of_methodNamed B.named
  have hlocks := B.notSynchronized
  subst hsz
  have hD := hD0.self (sz := s.heap.size)
  generalize hAe : va_A [(x0, .inr (10, [.ref w0, .ref z0, .ref xi, .ref xt, .int x_tl, .ref xq, .int x_lc, .ref rdr, .ref h0, .ref t0, .ref q0, .ref v0, .ref m0])), (xq, .inl (kA 5, 6, .inr (.inr (.inr (.inr xqF)))))] s.heap.size = A at hD ⊢
  have hA : ∀ q : Nat, s.heap.size ≤ q → A q := zA_of hAe
  have hS : va_S A s.heap s.heap [] := va_S.rf
  have hP : va_P (dC, dI) vwCl [(x0, .inr (10, [.ref w0, .ref z0, .ref xi, .ref xt, .int x_tl, .ref xq, .int x_lc, .ref rdr, .ref h0, .ref t0, .ref q0, .ref v0, .ref m0])), (xq, .inl (kA 5, 6, .inr (.inr (.inr (.inr xqF)))))] s.heap := hP
  have hl := lv_entry ([.ref x0, .int p0, .int p1, .int p2, .int p3, .int p4]) (n := 14) (Nat.le_of_ble_eq_true rfl)
  rw [lg_entry_eq]
  generalize (lg_sl ([.ref x0, .int p0, .int p1, .int p2, .int p3, .int p4]) ++ List.replicate (14 - (lg_sl ([.ref x0, .int p0, .int p1, .int p2, .int p3, .int p4])).length) Slot.unset).toArray = ls at hl ⊢
  have hl : lv_has ls 14 [(0, .ref x0), (1, .int p0), (2, .int p1), (3, .int p2), (4, .int p3), (5, .int p4)] := hl
  refine lv_aload_n hx hb dX10_nights_0 rfl (lv_at hl 0 rfl) ?_
  refine lv_iload_n hx hb dX10_nights_1 rfl (lv_at hl 1 rfl) ?_
  refine z_q (wr := []) (va_runV (As := [.int p0]) (rest := []) ⟨hx, hb, hml, hown, hts⟩ (mX10_lawOf l dC dI kA _ x0 z0 xi xt xq rdr h0 t0 q0 v0 m0 w0 x_tl x_lc xqF p0) (cwV 1 hts gX10_nights_X10_lawOf rfl rfl rfl ⟨rfl, hdX10_lawOf⟩ ⟨(Nat.le_of_ble_eq_true rfl), (Nat.le_of_ble_eq_true rfl)⟩) ⟨zPc.blind, va_recv (q := (RX10, TX10, 13)) hK.1 hP (ci := 10) (q0 := 0) rfl rfl, zPre hK (hP.sub [0, 1] rfl) (hD.sub [0, 1] (by decide) rfl)⟩ rfl rfl hl.1 rfl (lv_room (Nat.le_of_ble_eq_true rfl)) dX10_nights_2 ⟨(Nat.le_of_ble_eq_true rfl), (Nat.le_of_ble_eq_true rfl)⟩) hP hD hS hA [0, 1] [] rfl rfl (by decide) (by decide) (fun r3 u1 H locs hw2 hP hD hS => ?_)
  obtain rfl := hw2
  obtain ⟨hP, hD⟩ := z_re (L := [(x0, .inr (10, [.ref w0, .ref z0, .ref xi, .ref xt, .int x_tl, .ref xq, .int x_lc, .ref rdr, .ref h0, .ref t0, .ref q0, .ref v0, .ref m0])), (xq, .inl (kA 5, 6, .inr (.inr (.inr (.inr xqF)))))]) hP hD
  refine zv .null (by rw [hsel]; rfl) ?_
  refine lv_astoreN (lv' := [(6, .null), (0, .ref x0), (1, .int p0), (2, .int p1), (3, .int p2), (4, .int p3), (5, .int p4)]) hx hb dX10_nights_5 hl (by decide) rfl (fun ls hl => ?_)
  refine lv_iload_n hx hb dX10_nights_7 rfl (lv_at hl 4 rfl) ?_
  refine lv_ldc hx hb hown (kX10_nights_1 hts) dX10_nights_8 ?_
  refine z_i (wr := [(x0, .inr (10, [.ref w0, .ref z0, .ref xi, .ref xt, .int x_tl, .ref xq, .int x_lc, .ref rdr, .ref h0, .ref t0, .ref q0, .ref v0, .ref m0])), (xq, .inl (kA 5, 6, .inr (.inr (.inr (.inr xqF)))))]) (va_runS (As := [.int p2, .int 99999]) (rest := []) ⟨hx, hb, hml, hown, hts⟩ (mX10_within l dC dI kA _ p2 99999) (va_cwS 2 hts gX10_nights_X10_within rfl rfl rfl hdX10_within ⟨(Nat.le_of_ble_eq_true rfl), (Nat.le_of_ble_eq_true rfl)⟩) ⟨zPc.blind, zPre hK (hP.sub [] rfl) (hD.sub [] (by decide) rfl)⟩ rfl rfl hl.1 rfl (lv_room (Nat.le_of_ble_eq_true rfl)) dX10_nights_10 ⟨(Nat.le_of_ble_eq_true rfl), (Nat.le_of_ble_eq_true rfl)⟩) hP hD hS hA [] [0, 1] rfl rfl (by decide) (by decide) (fun r6 u4 H locs hw5 hP hD hS => ?_)
  obtain rfl := hw5
  obtain ⟨hP, hD⟩ := z_re (L := [(x0, .inr (10, [.ref w0, .ref z0, .ref xi, .ref xt, .int x_tl, .ref xq, .int x_lc, .ref rdr, .ref h0, .ref t0, .ref q0, .ref v0, .ref m0])), (xq, .inl (kA 5, 6, .inr (.inr (.inr (.inr xqF)))))]) hP hD
  refine lv_if_eq (tgt := 42) hx hb dX10_nights_13 (by decide) (fun c_7 => ?_) (fun c_7 => ?_)
  · refine lv_iconst (v := 0) hx hb dX10_nights_42 (by decide) ?_
    refine lv_istore (lv' := [(7, .int 0), (6, .null), (0, .ref x0), (1, .int p0), (2, .int p1), (3, .int p2), (4, .int p3), (5, .int p4)]) hx hb dX10_nights_43 hl (by decide) rfl (fun ls hl => ?_)
    refine lv_aloadN hx hb dX10_nights_45 (lv_at hl 1 rfl) ?_
    refine lv_ifnullN (tgt := 80) hx hb dX10_nights_47 (by decide) ?_
    refine lv_iconst (v := (-1)) hx hb dX10_nights_80 (by decide) ?_
    obtain ⟨hP9, hD9⟩ := z_sb (L' := [(x0, .inr (10, [.ref w0, .ref z0, .ref xi, .ref xt, .int x_tl, .ref xq, .int x_lc, .ref rdr, .ref h0, .ref t0, .ref q0, .ref v0, .ref m0])), (xq, .inl (kA 5, 6, .inr (.inr (.inr (.inr xqF)))))]) hP hD [0, 1] (by decide) rfl
    refine W.widen (k := 0) (n := 0) (Nat.le_of_ble_eq_true rfl) (Nat.le_of_ble_eq_true rfl) ?_
    exact W.iret (v := (-1)) hx hb hr (fun t ht hW => ⟨⟨(-1), (), rfl, rfl, by rw [ht]; exact hP9, hD9⟩, hS.F ht⟩) hS.2.2 dX10_nights_81
  · have c_7a := wi_ne c_7
    have c_7b := c_7a.2
    have c_7a := c_7a.1
    refine lv_iload hx hb dX10_nights_16 (lv_at hl 5 rfl) ?_
    refine lv_iconst (v := 1) hx hb dX10_nights_18 (by decide) ?_
    refine lv_icmp_lt (tgt := 42) hx hb dX10_nights_19 (by decide) (fun c_8 => ?_) (fun c_8 => ?_)
    · refine lv_iconst (v := 0) hx hb dX10_nights_42 (by decide) ?_
      refine lv_istore (lv' := [(7, .int 0), (6, .null), (0, .ref x0), (1, .int p0), (2, .int p1), (3, .int p2), (4, .int p3), (5, .int p4)]) hx hb dX10_nights_43 hl (by decide) rfl (fun ls hl => ?_)
      refine lv_aloadN hx hb dX10_nights_45 (lv_at hl 1 rfl) ?_
      refine lv_ifnullN (tgt := 80) hx hb dX10_nights_47 (by decide) ?_
      refine lv_iconst (v := (-1)) hx hb dX10_nights_80 (by decide) ?_
      obtain ⟨hP9, hD9⟩ := z_sb (L' := [(x0, .inr (10, [.ref w0, .ref z0, .ref xi, .ref xt, .int x_tl, .ref xq, .int x_lc, .ref rdr, .ref h0, .ref t0, .ref q0, .ref v0, .ref m0])), (xq, .inl (kA 5, 6, .inr (.inr (.inr (.inr xqF)))))]) hP hD [0, 1] (by decide) rfl
      refine W.widen (k := 0) (n := 0) (Nat.le_of_ble_eq_true rfl) (Nat.le_of_ble_eq_true rfl) ?_
      exact W.iret (v := (-1)) hx hb hr (fun t ht hW => ⟨⟨(-1), (), rfl, rfl, by rw [ht]; exact hP9, hD9⟩, hS.F ht⟩) hS.2.2 dX10_nights_81
    · refine lv_iload hx hb dX10_nights_22 (lv_at hl 5 rfl) ?_
      refine lv_bipush (v := 20) hx hb dX10_nights_24 (by decide) ?_
      refine lv_icmp_gt (tgt := 42) hx hb dX10_nights_26 (by decide) (fun c_9 => ?_) (fun c_9 => ?_)
      · refine lv_iconst (v := 0) hx hb dX10_nights_42 (by decide) ?_
        refine lv_istore (lv' := [(7, .int 0), (6, .null), (0, .ref x0), (1, .int p0), (2, .int p1), (3, .int p2), (4, .int p3), (5, .int p4)]) hx hb dX10_nights_43 hl (by decide) rfl (fun ls hl => ?_)
        refine lv_aloadN hx hb dX10_nights_45 (lv_at hl 1 rfl) ?_
        refine lv_ifnullN (tgt := 80) hx hb dX10_nights_47 (by decide) ?_
        refine lv_iconst (v := (-1)) hx hb dX10_nights_80 (by decide) ?_
        obtain ⟨hP9, hD9⟩ := z_sb (L' := [(x0, .inr (10, [.ref w0, .ref z0, .ref xi, .ref xt, .int x_tl, .ref xq, .int x_lc, .ref rdr, .ref h0, .ref t0, .ref q0, .ref v0, .ref m0])), (xq, .inl (kA 5, 6, .inr (.inr (.inr (.inr xqF)))))]) hP hD [0, 1] (by decide) rfl
        refine W.widen (k := 0) (n := 0) (Nat.le_of_ble_eq_true rfl) (Nat.le_of_ble_eq_true rfl) ?_
        exact W.iret (v := (-1)) hx hb hr (fun t ht hW => ⟨⟨(-1), (), rfl, rfl, by rw [ht]; exact hP9, hD9⟩, hS.F ht⟩) hS.2.2 dX10_nights_81
      · refine lv_iload hx hb dX10_nights_29 (lv_at hl 6 rfl) ?_
        refine lv_iconst (v := 2) hx hb dX10_nights_31 (by decide) ?_
        refine z_i (wr := [(x0, .inr (10, [.ref w0, .ref z0, .ref xi, .ref xt, .int x_tl, .ref xq, .int x_lc, .ref rdr, .ref h0, .ref t0, .ref q0, .ref v0, .ref m0])), (xq, .inl (kA 5, 6, .inr (.inr (.inr (.inr xqF)))))]) (va_runS (As := [.int p4, .int 2]) (rest := []) ⟨hx, hb, hml, hown, hts⟩ (mX10_within l dC dI kA _ p4 2) (va_cwS 2 hts gX10_nights_X10_within rfl rfl rfl hdX10_within ⟨(Nat.le_of_ble_eq_true rfl), (Nat.le_of_ble_eq_true rfl)⟩) ⟨zPc.blind, zPre hK (hP.sub [] rfl) (hD.sub [] (by decide) rfl)⟩ rfl rfl hl.1 rfl (lv_room (Nat.le_of_ble_eq_true rfl)) dX10_nights_32 ⟨(Nat.le_of_ble_eq_true rfl), (Nat.le_of_ble_eq_true rfl)⟩) hP hD hS hA [] [0, 1] rfl rfl (by decide) (by decide) (fun r12 u10 H locs hw11 hP hD hS => ?_)
        obtain rfl := hw11
        obtain ⟨hP, hD⟩ := z_re (L := [(x0, .inr (10, [.ref w0, .ref z0, .ref xi, .ref xt, .int x_tl, .ref xq, .int x_lc, .ref rdr, .ref h0, .ref t0, .ref q0, .ref v0, .ref m0])), (xq, .inl (kA 5, 6, .inr (.inr (.inr (.inr xqF)))))]) hP hD
        refine lv_if_eq (tgt := 42) hx hb dX10_nights_35 (by decide) (fun c_13 => ?_) (fun c_13 => ?_)
        · refine lv_iconst (v := 0) hx hb dX10_nights_42 (by decide) ?_
          refine lv_istore (lv' := [(7, .int 0), (6, .null), (0, .ref x0), (1, .int p0), (2, .int p1), (3, .int p2), (4, .int p3), (5, .int p4)]) hx hb dX10_nights_43 hl (by decide) rfl (fun ls hl => ?_)
          refine lv_aloadN hx hb dX10_nights_45 (lv_at hl 1 rfl) ?_
          refine lv_ifnullN (tgt := 80) hx hb dX10_nights_47 (by decide) ?_
          refine lv_iconst (v := (-1)) hx hb dX10_nights_80 (by decide) ?_
          obtain ⟨hP9, hD9⟩ := z_sb (L' := [(x0, .inr (10, [.ref w0, .ref z0, .ref xi, .ref xt, .int x_tl, .ref xq, .int x_lc, .ref rdr, .ref h0, .ref t0, .ref q0, .ref v0, .ref m0])), (xq, .inl (kA 5, 6, .inr (.inr (.inr (.inr xqF)))))]) hP hD [0, 1] (by decide) rfl
          refine W.widen (k := 0) (n := 0) (Nat.le_of_ble_eq_true rfl) (Nat.le_of_ble_eq_true rfl) ?_
          exact W.iret (v := (-1)) hx hb hr (fun t ht hW => ⟨⟨(-1), (), rfl, rfl, by rw [ht]; exact hP9, hD9⟩, hS.F ht⟩) hS.2.2 dX10_nights_81
        · have c_13a := wi_ne c_13
          have c_13b := c_13a.2
          have c_13a := c_13a.1
          refine lv_iconst (v := 1) hx hb dX10_nights_38 (by decide) ?_
          refine lv_goto (tgt := 43) hx hb dX10_nights_39 (by decide) ?_
          refine lv_istore (lv' := [(7, .int 1), (6, .null), (0, .ref x0), (1, .int p0), (2, .int p1), (3, .int p2), (4, .int p3), (5, .int p4)]) hx hb dX10_nights_43 hl (by decide) rfl (fun ls hl => ?_)
          refine lv_aloadN hx hb dX10_nights_45 (lv_at hl 1 rfl) ?_
          refine lv_ifnullN (tgt := 80) hx hb dX10_nights_47 (by decide) ?_
          refine lv_iconst (v := (-1)) hx hb dX10_nights_80 (by decide) ?_
          obtain ⟨hP9, hD9⟩ := z_sb (L' := [(x0, .inr (10, [.ref w0, .ref z0, .ref xi, .ref xt, .int x_tl, .ref xq, .int x_lc, .ref rdr, .ref h0, .ref t0, .ref q0, .ref v0, .ref m0])), (xq, .inl (kA 5, 6, .inr (.inr (.inr (.inr xqF)))))]) hP hD [0, 1] (by decide) rfl
          refine W.widen (k := 0) (n := 0) (Nat.le_of_ble_eq_true rfl) (Nat.le_of_ble_eq_true rfl) ?_
          exact W.iret (v := (-1)) hx hb hr (fun t ht hW => ⟨⟨(-1), (), rfl, rfl, by rw [ht]; exact hP9, hD9⟩, hS.F ht⟩) hS.2.2 dX10_nights_81
set_option maxHeartbeats 4000000 in
set_option maxRecDepth 100000 in
theorem mX10_price_no (l : Launch) (dC : Nat → ClassId) (dI : Nat → Nat → Nat) (kA : Nat → ClassId) (sz : Nat) (x0 : Nat) (z0 : Nat) (xi : Nat) (xt : Nat) (xq : Nat) (rdr : Nat) (h0 : Nat) (t0 : Nat) (q0 : Nat) (v0 : Nat) (m0 : Nat) (w0 : Nat) (x_tl : Int32) (x_lc : Int32) (xqF : Nat → Option Nat) (p0 : Int32) (p1 : Int32) (p2 : Int32) (p3 : Int32) (p4 : Int32) (p5 : Int32) (hsel : (sel p0 x_lc xqF) = none) : Met l yX10_price wsX10_price ({ frames := 2, cells := 0, slots := 0, locals := 42 }) (zPc dC dI kA sz [.ref x0, .int p0, .int p1, .int p2, .int p3, .int p4, .int p5] [(x0, .inr (10, [.ref w0, .ref z0, .ref xi, .ref xt, .int x_tl, .ref xq, .int x_lc, .ref rdr, .ref h0, .ref t0, .ref q0, .ref v0, .ref m0])), (xq, .inl (kA 5, 6, .inr (.inr (.inr (.inr xqF)))))]) (va_Qi (fun (r : Int32) (u : Unit) => r = (-1)) (zB dC dI (va_A [(x0, .inr (10, [.ref w0, .ref z0, .ref xi, .ref xt, .int x_tl, .ref xq, .int x_lc, .ref rdr, .ref h0, .ref t0, .ref q0, .ref v0, .ref m0])), (xq, .inl (kA 5, 6, .inr (.inr (.inr (.inr xqF)))))] sz) (fun (u : Unit) => [(x0, .inr (10, [.ref w0, .ref z0, .ref xi, .ref xt, .int x_tl, .ref xq, .int x_lc, .ref rdr, .ref h0, .ref t0, .ref q0, .ref v0, .ref m0])), (xq, .inl (kA 5, 6, .inr (.inr (.inr (.inr xqF)))))])) (va_A [(x0, .inr (10, [.ref w0, .ref z0, .ref xi, .ref xt, .int x_tl, .ref xq, .int x_lc, .ref rdr, .ref h0, .ref t0, .ref q0, .ref v0, .ref m0])), (xq, .inl (kA 5, 6, .inr (.inr (.inr (.inr xqF)))))] sz)) 0 0 (va_A [(x0, .inr (10, [.ref w0, .ref z0, .ref xi, .ref xt, .int x_tl, .ref xq, .int x_lc, .ref rdr, .ref h0, .ref t0, .ref q0, .ref v0, .ref m0])), (xq, .inl (kA 5, 6, .inr (.inr (.inr (.inr xqF)))))] sz) := by
  refine Met.ofW (cc := cX10_price) (maxL := 9) (ret := (some .int)) pnX10 rfl ?_
  intro p e s m args below meth c s₁ B hml hv
  obtain ⟨rfl, hsz, hP, hK, hD0⟩ := hv
  have hx := B.exec
  have hb := B.bytes
  have hr := B.returns
  have hts := atoms_spec (ws := wsX10_price) B.pre
  have hown : s.vm.findClass RX10 = some m.cls := findClass_of_methodNamed B.named
  have hlocks := B.notSynchronized
  subst hsz
  have hD := hD0.self (sz := s.heap.size)
  generalize hAe : va_A [(x0, .inr (10, [.ref w0, .ref z0, .ref xi, .ref xt, .int x_tl, .ref xq, .int x_lc, .ref rdr, .ref h0, .ref t0, .ref q0, .ref v0, .ref m0])), (xq, .inl (kA 5, 6, .inr (.inr (.inr (.inr xqF)))))] s.heap.size = A at hD ⊢
  have hA : ∀ q : Nat, s.heap.size ≤ q → A q := zA_of hAe
  have hS : va_S A s.heap s.heap [] := va_S.rf
  have hP : va_P (dC, dI) vwCl [(x0, .inr (10, [.ref w0, .ref z0, .ref xi, .ref xt, .int x_tl, .ref xq, .int x_lc, .ref rdr, .ref h0, .ref t0, .ref q0, .ref v0, .ref m0])), (xq, .inl (kA 5, 6, .inr (.inr (.inr (.inr xqF)))))] s.heap := hP
  have hl := lv_entry ([.ref x0, .int p0, .int p1, .int p2, .int p3, .int p4, .int p5]) (n := 9) (Nat.le_of_ble_eq_true rfl)
  rw [lg_entry_eq]
  generalize (lg_sl ([.ref x0, .int p0, .int p1, .int p2, .int p3, .int p4, .int p5]) ++ List.replicate (9 - (lg_sl ([.ref x0, .int p0, .int p1, .int p2, .int p3, .int p4, .int p5])).length) Slot.unset).toArray = ls at hl ⊢
  have hl : lv_has ls 9 [(0, .ref x0), (1, .int p0), (2, .int p1), (3, .int p2), (4, .int p3), (5, .int p4), (6, .int p5)] := hl
  refine lv_aload_n hx hb dX10_price_0 rfl (lv_at hl 0 rfl) ?_
  refine lv_iload_n hx hb dX10_price_1 rfl (lv_at hl 1 rfl) ?_
  refine z_q (wr := []) (va_runV (As := [.int p0]) (rest := []) ⟨hx, hb, hml, hown, hts⟩ (mX10_lawOf l dC dI kA _ x0 z0 xi xt xq rdr h0 t0 q0 v0 m0 w0 x_tl x_lc xqF p0) (cwV 1 hts gX10_price_X10_lawOf rfl rfl rfl ⟨rfl, hdX10_lawOf⟩ ⟨(Nat.le_of_ble_eq_true rfl), (Nat.le_of_ble_eq_true rfl)⟩) ⟨zPc.blind, va_recv (q := (RX10, TX10, 13)) hK.1 hP (ci := 10) (q0 := 0) rfl rfl, zPre hK (hP.sub [0, 1] rfl) (hD.sub [0, 1] (by decide) rfl)⟩ rfl rfl hl.1 rfl (lv_room (Nat.le_of_ble_eq_true rfl)) dX10_price_2 ⟨(Nat.le_of_ble_eq_true rfl), (Nat.le_of_ble_eq_true rfl)⟩) hP hD hS hA [0, 1] [] rfl rfl (by decide) (by decide) (fun r3 u1 H locs hw2 hP hD hS => ?_)
  obtain rfl := hw2
  obtain ⟨hP, hD⟩ := z_re (L := [(x0, .inr (10, [.ref w0, .ref z0, .ref xi, .ref xt, .int x_tl, .ref xq, .int x_lc, .ref rdr, .ref h0, .ref t0, .ref q0, .ref v0, .ref m0])), (xq, .inl (kA 5, 6, .inr (.inr (.inr (.inr xqF)))))]) hP hD
  refine zv .null (by rw [hsel]; rfl) ?_
  refine lv_astoreN (lv' := [(7, .null), (0, .ref x0), (1, .int p0), (2, .int p1), (3, .int p2), (4, .int p3), (5, .int p4), (6, .int p5)]) hx hb dX10_price_5 hl (by decide) rfl (fun ls hl => ?_)
  refine lv_aloadN hx hb dX10_price_7 (lv_at hl 0 rfl) ?_
  refine lv_ifnullN (tgt := 48) hx hb dX10_price_9 (by decide) ?_
  refine lv_iconst (v := (-1)) hx hb dX10_price_48 (by decide) ?_
  obtain ⟨hP9, hD9⟩ := z_sb (L' := [(x0, .inr (10, [.ref w0, .ref z0, .ref xi, .ref xt, .int x_tl, .ref xq, .int x_lc, .ref rdr, .ref h0, .ref t0, .ref q0, .ref v0, .ref m0])), (xq, .inl (kA 5, 6, .inr (.inr (.inr (.inr xqF)))))]) hP hD [0, 1] (by decide) rfl
  refine W.widen (k := 0) (n := 0) (Nat.le_of_ble_eq_true rfl) (Nat.le_of_ble_eq_true rfl) ?_
  exact W.iret (v := (-1)) hx hb hr (fun t ht hW => ⟨⟨(-1), (), rfl, rfl, by rw [ht]; exact hP9, hD9⟩, hS.F ht⟩) hS.2.2 dX10_price_49
set_option maxHeartbeats 4000000 in
set_option maxRecDepth 100000 in
theorem mX10_ahead_no (l : Launch) (dC : Nat → ClassId) (dI : Nat → Nat → Nat) (kA : Nat → ClassId) (sz : Nat) (x0 : Nat) (z0 : Nat) (xi : Nat) (xt : Nat) (xq : Nat) (rdr : Nat) (h0 : Nat) (t0 : Nat) (q0 : Nat) (v0 : Nat) (m0 : Nat) (w0 : Nat) (x_tl : Int32) (x_lc : Int32) (xqF : Nat → Option Nat) (p0 : Int32) (p1 : Int32) (p2 : Int32) (hsel : (sel p0 x_lc xqF) = none) : Met l yX10_ahead wsX10_ahead ({ frames := 2, cells := 0, slots := 0, locals := 42 }) (zPc dC dI kA sz [.ref x0, .int p0, .int p1, .int p2] [(x0, .inr (10, [.ref w0, .ref z0, .ref xi, .ref xt, .int x_tl, .ref xq, .int x_lc, .ref rdr, .ref h0, .ref t0, .ref q0, .ref v0, .ref m0])), (xq, .inl (kA 5, 6, .inr (.inr (.inr (.inr xqF)))))]) (va_Qi (fun (r : Int32) (u : Unit) => r = (-1)) (zB dC dI (va_A [(x0, .inr (10, [.ref w0, .ref z0, .ref xi, .ref xt, .int x_tl, .ref xq, .int x_lc, .ref rdr, .ref h0, .ref t0, .ref q0, .ref v0, .ref m0])), (xq, .inl (kA 5, 6, .inr (.inr (.inr (.inr xqF)))))] sz) (fun (u : Unit) => [(x0, .inr (10, [.ref w0, .ref z0, .ref xi, .ref xt, .int x_tl, .ref xq, .int x_lc, .ref rdr, .ref h0, .ref t0, .ref q0, .ref v0, .ref m0])), (xq, .inl (kA 5, 6, .inr (.inr (.inr (.inr xqF)))))])) (va_A [(x0, .inr (10, [.ref w0, .ref z0, .ref xi, .ref xt, .int x_tl, .ref xq, .int x_lc, .ref rdr, .ref h0, .ref t0, .ref q0, .ref v0, .ref m0])), (xq, .inl (kA 5, 6, .inr (.inr (.inr (.inr xqF)))))] sz)) 0 0 (va_A [(x0, .inr (10, [.ref w0, .ref z0, .ref xi, .ref xt, .int x_tl, .ref xq, .int x_lc, .ref rdr, .ref h0, .ref t0, .ref q0, .ref v0, .ref m0])), (xq, .inl (kA 5, 6, .inr (.inr (.inr (.inr xqF)))))] sz) := by
  refine Met.ofW (cc := cX10_ahead) (maxL := 6) (ret := (some .int)) pnX10 rfl ?_
  intro p e s m args below meth c s₁ B hml hv
  obtain ⟨rfl, hsz, hP, hK, hD0⟩ := hv
  have hx := B.exec
  have hb := B.bytes
  have hr := B.returns
  have hts := atoms_spec (ws := wsX10_ahead) B.pre
  have hown : s.vm.findClass RX10 = some m.cls := findClass_of_methodNamed B.named
  have hlocks := B.notSynchronized
  subst hsz
  have hD := hD0.self (sz := s.heap.size)
  generalize hAe : va_A [(x0, .inr (10, [.ref w0, .ref z0, .ref xi, .ref xt, .int x_tl, .ref xq, .int x_lc, .ref rdr, .ref h0, .ref t0, .ref q0, .ref v0, .ref m0])), (xq, .inl (kA 5, 6, .inr (.inr (.inr (.inr xqF)))))] s.heap.size = A at hD ⊢
  have hA : ∀ q : Nat, s.heap.size ≤ q → A q := zA_of hAe
  have hS : va_S A s.heap s.heap [] := va_S.rf
  have hP : va_P (dC, dI) vwCl [(x0, .inr (10, [.ref w0, .ref z0, .ref xi, .ref xt, .int x_tl, .ref xq, .int x_lc, .ref rdr, .ref h0, .ref t0, .ref q0, .ref v0, .ref m0])), (xq, .inl (kA 5, 6, .inr (.inr (.inr (.inr xqF)))))] s.heap := hP
  have hl := lv_entry ([.ref x0, .int p0, .int p1, .int p2]) (n := 6) (Nat.le_of_ble_eq_true rfl)
  rw [lg_entry_eq]
  generalize (lg_sl ([.ref x0, .int p0, .int p1, .int p2]) ++ List.replicate (6 - (lg_sl ([.ref x0, .int p0, .int p1, .int p2])).length) Slot.unset).toArray = ls at hl ⊢
  have hl : lv_has ls 6 [(0, .ref x0), (1, .int p0), (2, .int p1), (3, .int p2)] := hl
  refine lv_aload_n hx hb dX10_ahead_0 rfl (lv_at hl 0 rfl) ?_
  refine lv_iload_n hx hb dX10_ahead_1 rfl (lv_at hl 1 rfl) ?_
  refine z_q (wr := []) (va_runV (As := [.int p0]) (rest := []) ⟨hx, hb, hml, hown, hts⟩ (mX10_lawOf l dC dI kA _ x0 z0 xi xt xq rdr h0 t0 q0 v0 m0 w0 x_tl x_lc xqF p0) (cwV 1 hts gX10_ahead_X10_lawOf rfl rfl rfl ⟨rfl, hdX10_lawOf⟩ ⟨(Nat.le_of_ble_eq_true rfl), (Nat.le_of_ble_eq_true rfl)⟩) ⟨zPc.blind, va_recv (q := (RX10, TX10, 13)) hK.1 hP (ci := 10) (q0 := 0) rfl rfl, zPre hK (hP.sub [0, 1] rfl) (hD.sub [0, 1] (by decide) rfl)⟩ rfl rfl hl.1 rfl (lv_room (Nat.le_of_ble_eq_true rfl)) dX10_ahead_2 ⟨(Nat.le_of_ble_eq_true rfl), (Nat.le_of_ble_eq_true rfl)⟩) hP hD hS hA [0, 1] [] rfl rfl (by decide) (by decide) (fun r3 u1 H locs hw2 hP hD hS => ?_)
  obtain rfl := hw2
  obtain ⟨hP, hD⟩ := z_re (L := [(x0, .inr (10, [.ref w0, .ref z0, .ref xi, .ref xt, .int x_tl, .ref xq, .int x_lc, .ref rdr, .ref h0, .ref t0, .ref q0, .ref v0, .ref m0])), (xq, .inl (kA 5, 6, .inr (.inr (.inr (.inr xqF)))))]) hP hD
  refine zv .null (by rw [hsel]; rfl) ?_
  refine lv_astoreN (lv' := [(4, .null), (0, .ref x0), (1, .int p0), (2, .int p1), (3, .int p2)]) hx hb dX10_ahead_5 hl (by decide) rfl (fun ls hl => ?_)
  refine lv_aloadN hx hb dX10_ahead_7 (lv_at hl 0 rfl) ?_
  refine lv_ifnullN (tgt := 30) hx hb dX10_ahead_9 (by decide) ?_
  refine lv_iconst (v := (-1)) hx hb dX10_ahead_30 (by decide) ?_
  obtain ⟨hP9, hD9⟩ := z_sb (L' := [(x0, .inr (10, [.ref w0, .ref z0, .ref xi, .ref xt, .int x_tl, .ref xq, .int x_lc, .ref rdr, .ref h0, .ref t0, .ref q0, .ref v0, .ref m0])), (xq, .inl (kA 5, 6, .inr (.inr (.inr (.inr xqF)))))]) hP hD [0, 1] (by decide) rfl
  refine W.widen (k := 0) (n := 0) (Nat.le_of_ble_eq_true rfl) (Nat.le_of_ble_eq_true rfl) ?_
  exact W.iret (v := (-1)) hx hb hr (fun t ht hW => ⟨⟨(-1), (), rfl, rfl, by rw [ht]; exact hP9, hD9⟩, hS.F ht⟩) hS.2.2 dX10_ahead_31
set_option maxRecDepth 100000 in
def fX10_fill (tnodesF : Nat → Int32) (tjarsS : Int32) (tjarsF : Nat → Int32) (tnow : Int32) (tfm : Int32) (p0 : Int32) (p1 : Int32) : (Nat → Int32) × Int32 := bnd (fX9_nodeOf tjarsS tjarsF p0) (fun (r3 : Int32) => if r3 = (-1) then ((tjarsF, (-1))) else (if (wi p1 99999) = 0 then ((tjarsF, (-1))) else (bnd (fX9_monthAt tfm tnow) (fun (r15 : Int32) => bnd (fX9_hasSnow tnodesF r3 r15) (fun (r22 : Int32) => if r22 = 0 then ((tjarsF, (-1))) else (bnd (fX6_get_144 9 tjarsF p0 0) (fun (r31 : Int32) => bnd (fX6_put_144 9 tjarsF p0 0 p1) (fun (o39 : Nat → Int32) => (o39, r31)))))))))
set_option maxHeartbeats 4000000 in
set_option maxRecDepth 100000 in
theorem mX10_fill (l : Launch) (dC : Nat → ClassId) (dI : Nat → Nat → Nat) (kA : Nat → ClassId) (sz : Nat) (x0 : Nat) (z0 : Nat) (xi : Nat) (xt : Nat) (xq : Nat) (rdr : Nat) (h0 : Nat) (t0 : Nat) (q0 : Nat) (v0 : Nat) (m0 : Nat) (w0 : Nat) (x_tl : Int32) (x_lc : Int32) (tnodes : Nat) (tnodesA : Nat) (tnodesS : Int32) (tnodesF : Nat → Int32) (tpasses : Nat) (tjars : Nat) (tjarsA : Nat) (tjarsS : Int32) (tjarsF : Nat → Int32) (torders : Nat) (tfeasts : Nat) (tway : Nat) (tws : Int32) (tnow : Int32) (tfm : Int32) (tx : Int32) (p0 : Int32) (p1 : Int32)  : Met l yX10_fill wsX10_fill ({ frames := 2, cells := 0, slots := 0, locals := 45 }) (zPc dC dI kA sz [.ref x0, .int p0, .int p1] [(x0, .inr (10, [.ref w0, .ref z0, .ref xi, .ref xt, .int x_tl, .ref xq, .int x_lc, .ref rdr, .ref h0, .ref t0, .ref q0, .ref v0, .ref m0])), (w0, .inr (9, [.ref tnodes, .ref tpasses, .ref tjars, .ref torders, .ref tfeasts, .ref tway, .int tws, .int tnow, .int tfm, .int tx])), (tnodes, .inr (6, [.int 4, .ref tnodesA, .int tnodesS])), (tnodesA, .inl (kA 0, 48, .inl tnodesF)), (tjars, .inr (6, [.int 9, .ref tjarsA, .int tjarsS])), (tjarsA, .inl (kA 0, 144, .inl tjarsF))]) (va_Qi (fun (r : Int32) (u : (Nat → Int32) × Int32) => r = u.2 ∧ (u.1, u.2) = fX10_fill tnodesF tjarsS tjarsF tnow tfm p0 p1) (zB dC dI (va_A [(x0, .inr (10, [.ref w0, .ref z0, .ref xi, .ref xt, .int x_tl, .ref xq, .int x_lc, .ref rdr, .ref h0, .ref t0, .ref q0, .ref v0, .ref m0])), (w0, .inr (9, [.ref tnodes, .ref tpasses, .ref tjars, .ref torders, .ref tfeasts, .ref tway, .int tws, .int tnow, .int tfm, .int tx])), (tnodes, .inr (6, [.int 4, .ref tnodesA, .int tnodesS])), (tnodesA, .inl (kA 0, 48, .inl tnodesF)), (tjars, .inr (6, [.int 9, .ref tjarsA, .int tjarsS])), (tjarsA, .inl (kA 0, 144, .inl tjarsF))] sz) (fun (u : (Nat → Int32) × Int32) => [(x0, .inr (10, [.ref w0, .ref z0, .ref xi, .ref xt, .int x_tl, .ref xq, .int x_lc, .ref rdr, .ref h0, .ref t0, .ref q0, .ref v0, .ref m0])), (w0, .inr (9, [.ref tnodes, .ref tpasses, .ref tjars, .ref torders, .ref tfeasts, .ref tway, .int tws, .int tnow, .int tfm, .int tx])), (tnodes, .inr (6, [.int 4, .ref tnodesA, .int tnodesS])), (tnodesA, .inl (kA 0, 48, .inl tnodesF)), (tjars, .inr (6, [.int 9, .ref tjarsA, .int tjarsS])), (tjarsA, .inl (kA 0, 144, .inl u.1))])) (va_A [(x0, .inr (10, [.ref w0, .ref z0, .ref xi, .ref xt, .int x_tl, .ref xq, .int x_lc, .ref rdr, .ref h0, .ref t0, .ref q0, .ref v0, .ref m0])), (w0, .inr (9, [.ref tnodes, .ref tpasses, .ref tjars, .ref torders, .ref tfeasts, .ref tway, .int tws, .int tnow, .int tfm, .int tx])), (tnodes, .inr (6, [.int 4, .ref tnodesA, .int tnodesS])), (tnodesA, .inl (kA 0, 48, .inl tnodesF)), (tjars, .inr (6, [.int 9, .ref tjarsA, .int tjarsS])), (tjarsA, .inl (kA 0, 144, .inl tjarsF))] sz)) 0 0 (va_A [(x0, .inr (10, [.ref w0, .ref z0, .ref xi, .ref xt, .int x_tl, .ref xq, .int x_lc, .ref rdr, .ref h0, .ref t0, .ref q0, .ref v0, .ref m0])), (w0, .inr (9, [.ref tnodes, .ref tpasses, .ref tjars, .ref torders, .ref tfeasts, .ref tway, .int tws, .int tnow, .int tfm, .int tx])), (tnodes, .inr (6, [.int 4, .ref tnodesA, .int tnodesS])), (tnodesA, .inl (kA 0, 48, .inl tnodesF)), (tjars, .inr (6, [.int 9, .ref tjarsA, .int tjarsS])), (tjarsA, .inl (kA 0, 144, .inl tjarsF))] sz) := by
  refine Met.ofW (cc := cX10_fill) (maxL := 5) (ret := (some .int)) pnX10 rfl ?_
  intro p e s m args below meth c s₁ B hml hv
  obtain ⟨rfl, hsz, hP, hK, hD0⟩ := hv
  have hx := B.exec
  have hb := B.bytes
  have hr := B.returns
  have hts := atoms_spec (ws := wsX10_fill) B.pre
  have hown : s.vm.findClass RX10 = some m.cls := findClass_of_methodNamed B.named
  have hlocks := B.notSynchronized
  subst hsz
  have hD := hD0.self (sz := s.heap.size)
  generalize hAe : va_A [(x0, .inr (10, [.ref w0, .ref z0, .ref xi, .ref xt, .int x_tl, .ref xq, .int x_lc, .ref rdr, .ref h0, .ref t0, .ref q0, .ref v0, .ref m0])), (w0, .inr (9, [.ref tnodes, .ref tpasses, .ref tjars, .ref torders, .ref tfeasts, .ref tway, .int tws, .int tnow, .int tfm, .int tx])), (tnodes, .inr (6, [.int 4, .ref tnodesA, .int tnodesS])), (tnodesA, .inl (kA 0, 48, .inl tnodesF)), (tjars, .inr (6, [.int 9, .ref tjarsA, .int tjarsS])), (tjarsA, .inl (kA 0, 144, .inl tjarsF))] s.heap.size = A at hD ⊢
  have hA : ∀ q : Nat, s.heap.size ≤ q → A q := zA_of hAe
  have hS : va_S A s.heap s.heap [] := va_S.rf
  have hP : va_P (dC, dI) vwCl [(x0, .inr (10, [.ref w0, .ref z0, .ref xi, .ref xt, .int x_tl, .ref xq, .int x_lc, .ref rdr, .ref h0, .ref t0, .ref q0, .ref v0, .ref m0])), (w0, .inr (9, [.ref tnodes, .ref tpasses, .ref tjars, .ref torders, .ref tfeasts, .ref tway, .int tws, .int tnow, .int tfm, .int tx])), (tnodes, .inr (6, [.int 4, .ref tnodesA, .int tnodesS])), (tnodesA, .inl (kA 0, 48, .inl tnodesF)), (tjars, .inr (6, [.int 9, .ref tjarsA, .int tjarsS])), (tjarsA, .inl (kA 0, 144, .inl tjarsF))] s.heap := hP
  have hl := lv_entry ([.ref x0, .int p0, .int p1]) (n := 5) (Nat.le_of_ble_eq_true rfl)
  rw [lg_entry_eq]
  generalize (lg_sl ([.ref x0, .int p0, .int p1]) ++ List.replicate (5 - (lg_sl ([.ref x0, .int p0, .int p1])).length) Slot.unset).toArray = ls at hl ⊢
  have hl : lv_has ls 5 [(0, .ref x0), (1, .int p0), (2, .int p1)] := hl
  obtain ⟨G, hG0⟩ : ∃ G : (Nat → Int32) × Int32, fX10_fill tnodesF tjarsS tjarsF tnow tfm p0 p1 = G := ⟨_, rfl⟩
  have hG := hG0
  unfold fX10_fill at hG
  refine lv_aload_n hx hb dX10_fill_0 rfl (lv_at hl 0 rfl) ?_
  refine va_get (D := (dC, dI)) (ci := 10) (v := .ref w0) (C := RX10) (T := TX10) (N := 13) hx hb hts iX10_fill_X10 hown hK.1 hP 0 gz0 vcz10 0 (by decide) (kX10_fill_1 hts) (fun _ h9 => h9) gz0 dX10_fill_1 ?_
  refine lv_iload_n hx hb dX10_fill_4 rfl (lv_at hl 1 rfl) ?_
  refine z_i (wr := [(x0, .inr (10, [.ref w0, .ref z0, .ref xi, .ref xt, .int x_tl, .ref xq, .int x_lc, .ref rdr, .ref h0, .ref t0, .ref q0, .ref v0, .ref m0])), (tnodes, .inr (6, [.int 4, .ref tnodesA, .int tnodesS])), (tnodesA, .inl (kA 0, 48, .inl tnodesF))]) (va_runV (As := [.int p0]) (rest := []) ⟨hx, hb, hml, hown, hts⟩ (mX9_nodeOf l dC dI kA _ w0 tnodes tpasses tjars tjarsA tjarsS tjarsF torders tfeasts tway tws tnow tfm tx p0) (cwV 1 hts gX10_fill_X9_nodeOf rfl rfl rfl ⟨rfl, hdX9_nodeOf⟩ ⟨(Nat.le_of_ble_eq_true rfl), (Nat.le_of_ble_eq_true rfl)⟩) ⟨zPc.blind, va_recv (q := (RX9, TX9, 10)) hK.1 hP (ci := 9) (q0 := 1) rfl rfl, zPre hK (hP.sub [1, 4, 5] rfl) (hD.sub [1, 4, 5] (by decide) rfl)⟩ rfl rfl hl.1 rfl (lv_room (Nat.le_of_ble_eq_true rfl)) dX10_fill_5 ⟨(Nat.le_of_ble_eq_true rfl), (Nat.le_of_ble_eq_true rfl)⟩) hP hD hS hA [1, 4, 5] [0, 2, 3] rfl rfl (by decide) (by decide) (fun r3 u1 H locs hw2 hP hD hS => ?_)
  obtain ⟨er6, hp5⟩ := hw2
  have er6 : r3 = u1 := er6
  subst er6
  have er3 : r3 = fX9_nodeOf tjarsS tjarsF p0 := hp5
  have hG := zbnd hG er3
  obtain ⟨hP, hD⟩ := z_re (L := [(x0, .inr (10, [.ref w0, .ref z0, .ref xi, .ref xt, .int x_tl, .ref xq, .int x_lc, .ref rdr, .ref h0, .ref t0, .ref q0, .ref v0, .ref m0])), (tnodes, .inr (6, [.int 4, .ref tnodesA, .int tnodesS])), (tnodesA, .inl (kA 0, 48, .inl tnodesF)), (w0, .inr (9, [.ref tnodes, .ref tpasses, .ref tjars, .ref torders, .ref tfeasts, .ref tway, .int tws, .int tnow, .int tfm, .int tx])), (tjars, .inr (6, [.int 9, .ref tjarsA, .int tjarsS])), (tjarsA, .inl (kA 0, 144, .inl tjarsF))]) hP hD
  refine lv_istore_n (lv' := [(3, .int r3), (0, .ref x0), (1, .int p0), (2, .int p1)]) hx hb dX10_fill_8 rfl hl (by decide) rfl (fun ls hl => ?_)
  refine lv_iload_n hx hb dX10_fill_9 rfl (lv_at hl 0 rfl) ?_
  refine lv_iconst (v := (-1)) hx hb dX10_fill_10 (by decide) ?_
  refine lv_icmp_eq (tgt := 48) hx hb dX10_fill_11 (by decide) (fun c_8 => ?_) (fun c_8 => ?_)
  · have hG := zthen hG c_8
    refine lv_iconst (v := (-1)) hx hb dX10_fill_48 (by decide) ?_
    obtain ⟨hP9, hD9⟩ := z_sb (L' := [(x0, .inr (10, [.ref w0, .ref z0, .ref xi, .ref xt, .int x_tl, .ref xq, .int x_lc, .ref rdr, .ref h0, .ref t0, .ref q0, .ref v0, .ref m0])), (w0, .inr (9, [.ref tnodes, .ref tpasses, .ref tjars, .ref torders, .ref tfeasts, .ref tway, .int tws, .int tnow, .int tfm, .int tx])), (tnodes, .inr (6, [.int 4, .ref tnodesA, .int tnodesS])), (tnodesA, .inl (kA 0, 48, .inl tnodesF)), (tjars, .inr (6, [.int 9, .ref tjarsA, .int tjarsS])), (tjarsA, .inl (kA 0, 144, .inl tjarsF))]) hP hD [0, 3, 1, 2, 4, 5] (by decide) rfl
    refine W.widen (k := 0) (n := 0) (Nat.le_of_ble_eq_true rfl) (Nat.le_of_ble_eq_true rfl) ?_
    exact W.iret (v := (-1)) hx hb hr (fun t ht hW => ⟨⟨(-1), (tjarsF, (-1)), rfl, ⟨rfl, (hG.trans hG0.symm)⟩, by rw [ht]; exact hP9, hD9⟩, hS.F ht⟩) hS.2.2 dX10_fill_49
  · have hG := zelse hG c_8
    refine lv_iload_n hx hb dX10_fill_14 rfl (lv_at hl 3 rfl) ?_
    refine lv_ldc hx hb hown (kX10_fill_2 hts) dX10_fill_15 ?_
    refine z_i (wr := [(x0, .inr (10, [.ref w0, .ref z0, .ref xi, .ref xt, .int x_tl, .ref xq, .int x_lc, .ref rdr, .ref h0, .ref t0, .ref q0, .ref v0, .ref m0])), (tnodes, .inr (6, [.int 4, .ref tnodesA, .int tnodesS])), (tnodesA, .inl (kA 0, 48, .inl tnodesF)), (w0, .inr (9, [.ref tnodes, .ref tpasses, .ref tjars, .ref torders, .ref tfeasts, .ref tway, .int tws, .int tnow, .int tfm, .int tx])), (tjars, .inr (6, [.int 9, .ref tjarsA, .int tjarsS])), (tjarsA, .inl (kA 0, 144, .inl tjarsF))]) (va_runS (As := [.int p1, .int 99999]) (rest := []) ⟨hx, hb, hml, hown, hts⟩ (mX10_within l dC dI kA _ p1 99999) (va_cwS 2 hts gX10_fill_X10_within rfl rfl rfl hdX10_within ⟨(Nat.le_of_ble_eq_true rfl), (Nat.le_of_ble_eq_true rfl)⟩) ⟨zPc.blind, zPre hK (hP.sub [] rfl) (hD.sub [] (by decide) rfl)⟩ rfl rfl hl.1 rfl (lv_room (Nat.le_of_ble_eq_true rfl)) dX10_fill_17 ⟨(Nat.le_of_ble_eq_true rfl), (Nat.le_of_ble_eq_true rfl)⟩) hP hD hS hA [] [0, 1, 2, 3, 4, 5] rfl rfl (by decide) (by decide) (fun r11 u9 H locs hw10 hP hD hS => ?_)
    obtain rfl := hw10
    obtain ⟨hP, hD⟩ := z_re (L := [(x0, .inr (10, [.ref w0, .ref z0, .ref xi, .ref xt, .int x_tl, .ref xq, .int x_lc, .ref rdr, .ref h0, .ref t0, .ref q0, .ref v0, .ref m0])), (tnodes, .inr (6, [.int 4, .ref tnodesA, .int tnodesS])), (tnodesA, .inl (kA 0, 48, .inl tnodesF)), (w0, .inr (9, [.ref tnodes, .ref tpasses, .ref tjars, .ref torders, .ref tfeasts, .ref tway, .int tws, .int tnow, .int tfm, .int tx])), (tjars, .inr (6, [.int 9, .ref tjarsA, .int tjarsS])), (tjarsA, .inl (kA 0, 144, .inl tjarsF))]) hP hD
    refine lv_if_eq (tgt := 48) hx hb dX10_fill_20 (by decide) (fun c_12 => ?_) (fun c_12 => ?_)
    · have hG := zthen hG c_12
      refine lv_iconst (v := (-1)) hx hb dX10_fill_48 (by decide) ?_
      obtain ⟨hP9, hD9⟩ := z_sb (L' := [(x0, .inr (10, [.ref w0, .ref z0, .ref xi, .ref xt, .int x_tl, .ref xq, .int x_lc, .ref rdr, .ref h0, .ref t0, .ref q0, .ref v0, .ref m0])), (w0, .inr (9, [.ref tnodes, .ref tpasses, .ref tjars, .ref torders, .ref tfeasts, .ref tway, .int tws, .int tnow, .int tfm, .int tx])), (tnodes, .inr (6, [.int 4, .ref tnodesA, .int tnodesS])), (tnodesA, .inl (kA 0, 48, .inl tnodesF)), (tjars, .inr (6, [.int 9, .ref tjarsA, .int tjarsS])), (tjarsA, .inl (kA 0, 144, .inl tjarsF))]) hP hD [0, 3, 1, 2, 4, 5] (by decide) rfl
      refine W.widen (k := 0) (n := 0) (Nat.le_of_ble_eq_true rfl) (Nat.le_of_ble_eq_true rfl) ?_
      exact W.iret (v := (-1)) hx hb hr (fun t ht hW => ⟨⟨(-1), (tjarsF, (-1)), rfl, ⟨rfl, (hG.trans hG0.symm)⟩, by rw [ht]; exact hP9, hD9⟩, hS.F ht⟩) hS.2.2 dX10_fill_49
    · have hG := zelse hG c_12
      have c_12a := wi_ne c_12
      have c_12b := c_12a.2
      have c_12a := c_12a.1
      refine lv_aload_n hx hb dX10_fill_23 rfl (lv_at hl 1 rfl) ?_
      refine va_get (D := (dC, dI)) (ci := 10) (v := .ref w0) (C := RX10) (T := TX10) (N := 13) hx hb hts iX10_fill_X10 hown hK.1 hP 0 gz0 vcz10 0 (by decide) (kX10_fill_1 hts) (fun _ h9 => h9) gz0 dX10_fill_24 ?_
      refine lv_iload_n hx hb dX10_fill_27 rfl (lv_at hl 0 rfl) ?_
      refine lv_aload_n hx hb dX10_fill_28 rfl (lv_at hl 1 rfl) ?_
      refine va_get (D := (dC, dI)) (ci := 10) (v := .ref w0) (C := RX10) (T := TX10) (N := 13) hx hb hts iX10_fill_X10 hown hK.1 hP 0 gz0 vcz10 0 (by decide) (kX10_fill_1 hts) (fun _ h9 => h9) gz0 dX10_fill_29 ?_
      refine lv_aload_n hx hb dX10_fill_32 rfl (lv_at hl 1 rfl) ?_
      refine va_get (D := (dC, dI)) (ci := 10) (v := .ref w0) (C := RX10) (T := TX10) (N := 13) hx hb hts iX10_fill_X10 hown hK.1 hP 0 gz0 vcz10 0 (by decide) (kX10_fill_1 hts) (fun _ h9 => h9) gz0 dX10_fill_33 ?_
      refine va_get (D := (dC, dI)) (ci := 9) (v := .int tnow) (C := RX9) (T := TX9) (N := 10) hx hb hts iX10_fill_X9 hown hK.1 hP 3 gz3 vcz9 7 (by decide) (kX10_fill_3 hts) (fun _ h9 => h9) gz7 dX10_fill_36 ?_
      refine z_i (wr := [(x0, .inr (10, [.ref w0, .ref z0, .ref xi, .ref xt, .int x_tl, .ref xq, .int x_lc, .ref rdr, .ref h0, .ref t0, .ref q0, .ref v0, .ref m0])), (tnodes, .inr (6, [.int 4, .ref tnodesA, .int tnodesS])), (tnodesA, .inl (kA 0, 48, .inl tnodesF)), (tjars, .inr (6, [.int 9, .ref tjarsA, .int tjarsS])), (tjarsA, .inl (kA 0, 144, .inl tjarsF))]) (va_runV (As := [.int tnow]) (rest := [.int r3, .ref w0]) ⟨hx, hb, hml, hown, hts⟩ (mX9_monthAt l dC dI kA _ w0 tnodes tpasses tjars torders tfeasts tway tws tnow tfm tx tnow) (cwV 1 hts gX10_fill_X9_monthAt rfl rfl rfl ⟨rfl, hdX9_monthAt⟩ ⟨(Nat.le_of_ble_eq_true rfl), (Nat.le_of_ble_eq_true rfl)⟩) ⟨zPc.blind, va_recv (q := (RX9, TX9, 10)) hK.1 hP (ci := 9) (q0 := 3) rfl rfl, zPre hK (hP.sub [3] rfl) (hD.sub [3] (by decide) rfl)⟩ rfl rfl hl.1 rfl (lv_room (Nat.le_of_ble_eq_true rfl)) dX10_fill_39 ⟨(Nat.le_of_ble_eq_true rfl), (Nat.le_of_ble_eq_true rfl)⟩) hP hD hS hA [3] [0, 1, 2, 4, 5] rfl rfl (by decide) (by decide) (fun r15 u13 H locs hw14 hP hD hS => ?_)
      obtain ⟨er18, hp17⟩ := hw14
      have er18 : r15 = u13 := er18
      subst er18
      have er15 : r15 = fX9_monthAt tfm tnow := hp17
      have hG := zbnd hG er15
      obtain ⟨hP, hD⟩ := z_re (L := [(x0, .inr (10, [.ref w0, .ref z0, .ref xi, .ref xt, .int x_tl, .ref xq, .int x_lc, .ref rdr, .ref h0, .ref t0, .ref q0, .ref v0, .ref m0])), (tnodes, .inr (6, [.int 4, .ref tnodesA, .int tnodesS])), (tnodesA, .inl (kA 0, 48, .inl tnodesF)), (tjars, .inr (6, [.int 9, .ref tjarsA, .int tjarsS])), (tjarsA, .inl (kA 0, 144, .inl tjarsF)), (w0, .inr (9, [.ref tnodes, .ref tpasses, .ref tjars, .ref torders, .ref tfeasts, .ref tway, .int tws, .int tnow, .int tfm, .int tx]))]) hP hD
      refine z_i (wr := [(x0, .inr (10, [.ref w0, .ref z0, .ref xi, .ref xt, .int x_tl, .ref xq, .int x_lc, .ref rdr, .ref h0, .ref t0, .ref q0, .ref v0, .ref m0])), (tjars, .inr (6, [.int 9, .ref tjarsA, .int tjarsS])), (tjarsA, .inl (kA 0, 144, .inl tjarsF))]) (va_runV (As := [.int r3, .int r15]) (rest := []) ⟨hx, hb, hml, hown, hts⟩ (mX9_hasSnow l dC dI kA _ w0 tnodes tnodesA tnodesS tnodesF tpasses tjars torders tfeasts tway tws tnow tfm tx r3 r15) (cwV 2 hts gX10_fill_X9_hasSnow rfl rfl rfl ⟨rfl, hdX9_hasSnow⟩ ⟨(Nat.le_of_ble_eq_true rfl), (Nat.le_of_ble_eq_true rfl)⟩) ⟨zPc.blind, va_recv (q := (RX9, TX9, 10)) hK.1 hP (ci := 9) (q0 := 5) rfl rfl, zPre hK (hP.sub [5, 1, 2] rfl) (hD.sub [5, 1, 2] (by decide) rfl)⟩ rfl rfl hl.1 rfl (lv_room (Nat.le_of_ble_eq_true rfl)) dX10_fill_42 ⟨(Nat.le_of_ble_eq_true rfl), (Nat.le_of_ble_eq_true rfl)⟩) hP hD hS hA [5, 1, 2] [0, 3, 4] rfl rfl (by decide) (by decide) (fun r22 u20 H locs hw21 hP hD hS => ?_)
      obtain ⟨er26, hp24, hp25⟩ := hw21
      have er26 : r22 = u20 := er26
      subst er26
      have er22 : r22 = fX9_hasSnow tnodesF r3 r15 := hp24
      have hG := zbnd hG er22
      obtain ⟨hP, hD⟩ := z_re (L := [(x0, .inr (10, [.ref w0, .ref z0, .ref xi, .ref xt, .int x_tl, .ref xq, .int x_lc, .ref rdr, .ref h0, .ref t0, .ref q0, .ref v0, .ref m0])), (tjars, .inr (6, [.int 9, .ref tjarsA, .int tjarsS])), (tjarsA, .inl (kA 0, 144, .inl tjarsF)), (w0, .inr (9, [.ref tnodes, .ref tpasses, .ref tjars, .ref torders, .ref tfeasts, .ref tway, .int tws, .int tnow, .int tfm, .int tx])), (tnodes, .inr (6, [.int 4, .ref tnodesA, .int tnodesS])), (tnodesA, .inl (kA 0, 48, .inl tnodesF))]) hP hD
      refine lv_if_ne (tgt := 50) hx hb dX10_fill_45 (by decide) (fun c_28 => ?_) (fun c_28 => ?_)
      · have hG := zelse hG c_28
        refine lv_aload_n hx hb dX10_fill_50 rfl (lv_at hl 1 rfl) ?_
        refine va_get (D := (dC, dI)) (ci := 10) (v := .ref w0) (C := RX10) (T := TX10) (N := 13) hx hb hts iX10_fill_X10 hown hK.1 hP 0 gz0 vcz10 0 (by decide) (kX10_fill_1 hts) (fun _ h9 => h9) gz0 dX10_fill_51 ?_
        refine va_get (D := (dC, dI)) (ci := 9) (v := .ref tjars) (C := RX9) (T := TX9) (N := 10) hx hb hts iX10_fill_X9 hown hK.1 hP 3 gz3 vcz9 2 (by decide) (kX10_fill_4 hts) (fun _ h9 => h9) gz2 dX10_fill_54 ?_
        refine lv_iload_n hx hb dX10_fill_57 rfl (lv_at hl 2 rfl) ?_
        refine lv_iconst (v := 0) hx hb dX10_fill_58 (by decide) ?_
        refine z_i (wr := [(x0, .inr (10, [.ref w0, .ref z0, .ref xi, .ref xt, .int x_tl, .ref xq, .int x_lc, .ref rdr, .ref h0, .ref t0, .ref q0, .ref v0, .ref m0])), (w0, .inr (9, [.ref tnodes, .ref tpasses, .ref tjars, .ref torders, .ref tfeasts, .ref tway, .int tws, .int tnow, .int tfm, .int tx])), (tnodes, .inr (6, [.int 4, .ref tnodesA, .int tnodesS])), (tnodesA, .inl (kA 0, 48, .inl tnodesF))]) (va_runV (As := [.int p0, .int 0]) (rest := []) ⟨hx, hb, hml, hown, hts⟩ (mX6_get_144 l dC dI kA _ tjars tjarsA 9 tjarsS tjarsF p0 0) (cwV 2 hts gX10_fill_X6_get rfl rfl rfl ⟨rfl, hdX6_get⟩ ⟨(Nat.le_of_ble_eq_true rfl), (Nat.le_of_ble_eq_true rfl)⟩) ⟨zPc.blind, va_recv (q := (RX6, TX6, 3)) hK.1 hP (ci := 6) (q0 := 1) rfl rfl, zPre hK (hP.sub [1, 2] rfl) (hD.sub [1, 2] (by decide) rfl)⟩ rfl rfl hl.1 rfl (lv_room (Nat.le_of_ble_eq_true rfl)) dX10_fill_59 ⟨(Nat.le_of_ble_eq_true rfl), (Nat.le_of_ble_eq_true rfl)⟩) hP hD hS hA [1, 2] [0, 3, 4, 5] rfl rfl (by decide) (by decide) (fun r31 u29 H locs hw30 hP hD hS => ?_)
        obtain ⟨er34, hp33⟩ := hw30
        have er34 : r31 = u29 := er34
        subst er34
        have er31 : r31 = fX6_get_144 9 tjarsF p0 0 := hp33
        have hG := zbnd hG er31
        obtain ⟨hP, hD⟩ := z_re (L := [(x0, .inr (10, [.ref w0, .ref z0, .ref xi, .ref xt, .int x_tl, .ref xq, .int x_lc, .ref rdr, .ref h0, .ref t0, .ref q0, .ref v0, .ref m0])), (w0, .inr (9, [.ref tnodes, .ref tpasses, .ref tjars, .ref torders, .ref tfeasts, .ref tway, .int tws, .int tnow, .int tfm, .int tx])), (tnodes, .inr (6, [.int 4, .ref tnodesA, .int tnodesS])), (tnodesA, .inl (kA 0, 48, .inl tnodesF)), (tjars, .inr (6, [.int 9, .ref tjarsA, .int tjarsS])), (tjarsA, .inl (kA 0, 144, .inl tjarsF))]) hP hD
        refine lv_istore (lv' := [(4, .int r31), (3, .int r3), (0, .ref x0), (1, .int p0), (2, .int p1)]) hx hb dX10_fill_62 hl (by decide) rfl (fun ls hl => ?_)
        refine lv_aload_n hx hb dX10_fill_64 rfl (lv_at hl 2 rfl) ?_
        refine va_get (D := (dC, dI)) (ci := 10) (v := .ref w0) (C := RX10) (T := TX10) (N := 13) hx hb hts iX10_fill_X10 hown hK.1 hP 0 gz0 vcz10 0 (by decide) (kX10_fill_1 hts) (fun _ h9 => h9) gz0 dX10_fill_65 ?_
        refine va_get (D := (dC, dI)) (ci := 9) (v := .ref tjars) (C := RX9) (T := TX9) (N := 10) hx hb hts iX10_fill_X9 hown hK.1 hP 1 gz1 vcz9 2 (by decide) (kX10_fill_4 hts) (fun _ h9 => h9) gz2 dX10_fill_68 ?_
        refine lv_iload_n hx hb dX10_fill_71 rfl (lv_at hl 3 rfl) ?_
        refine lv_iconst (v := 0) hx hb dX10_fill_72 (by decide) ?_
        refine lv_iload_n hx hb dX10_fill_73 rfl (lv_at hl 4 rfl) ?_
        refine z_v (wr := [(x0, .inr (10, [.ref w0, .ref z0, .ref xi, .ref xt, .int x_tl, .ref xq, .int x_lc, .ref rdr, .ref h0, .ref t0, .ref q0, .ref v0, .ref m0])), (w0, .inr (9, [.ref tnodes, .ref tpasses, .ref tjars, .ref torders, .ref tfeasts, .ref tway, .int tws, .int tnow, .int tfm, .int tx])), (tnodes, .inr (6, [.int 4, .ref tnodesA, .int tnodesS])), (tnodesA, .inl (kA 0, 48, .inl tnodesF))]) (va_runV (As := [.int p0, .int 0, .int p1]) (rest := []) ⟨hx, hb, hml, hown, hts⟩ (mX6_put_144 l dC dI kA _ tjars tjarsA 9 tjarsS tjarsF p0 0 p1) (cwV 3 hts gX10_fill_X6_put rfl rfl rfl ⟨rfl, hdX6_put⟩ ⟨(Nat.le_of_ble_eq_true rfl), (Nat.le_of_ble_eq_true rfl)⟩) ⟨zPc.blind, va_recv (q := (RX6, TX6, 3)) hK.1 hP (ci := 6) (q0 := 4) rfl rfl, zPre hK (hP.sub [4, 5] rfl) (hD.sub [4, 5] (by decide) rfl)⟩ rfl rfl hl.1 rfl (lv_room (Nat.le_of_ble_eq_true rfl)) dX10_fill_74 ⟨(Nat.le_of_ble_eq_true rfl), (Nat.le_of_ble_eq_true rfl)⟩) hP hD hS hA [4, 5] [0, 1, 2, 3] rfl rfl (by decide) (by decide) (fun u36 H locs hw37 hP hD hS => ?_)
        obtain ⟨o39, rfl⟩ : ∃ z, z = u36 := ⟨_, rfl⟩
        have hp40 := hw37
        have eo39 : o39 = fX6_put_144 9 tjarsF p0 0 p1 := hp40
        have hG := zbnd hG eo39
        obtain ⟨hP, hD⟩ := z_re (L := [(x0, .inr (10, [.ref w0, .ref z0, .ref xi, .ref xt, .int x_tl, .ref xq, .int x_lc, .ref rdr, .ref h0, .ref t0, .ref q0, .ref v0, .ref m0])), (w0, .inr (9, [.ref tnodes, .ref tpasses, .ref tjars, .ref torders, .ref tfeasts, .ref tway, .int tws, .int tnow, .int tfm, .int tx])), (tnodes, .inr (6, [.int 4, .ref tnodesA, .int tnodesS])), (tnodesA, .inl (kA 0, 48, .inl tnodesF)), (tjars, .inr (6, [.int 9, .ref tjarsA, .int tjarsS])), (tjarsA, .inl (kA 0, 144, .inl o39))]) hP hD
        refine lv_iload hx hb dX10_fill_77 (lv_at hl 0 rfl) ?_
        obtain ⟨hP9, hD9⟩ := z_sb (L' := [(x0, .inr (10, [.ref w0, .ref z0, .ref xi, .ref xt, .int x_tl, .ref xq, .int x_lc, .ref rdr, .ref h0, .ref t0, .ref q0, .ref v0, .ref m0])), (w0, .inr (9, [.ref tnodes, .ref tpasses, .ref tjars, .ref torders, .ref tfeasts, .ref tway, .int tws, .int tnow, .int tfm, .int tx])), (tnodes, .inr (6, [.int 4, .ref tnodesA, .int tnodesS])), (tnodesA, .inl (kA 0, 48, .inl tnodesF)), (tjars, .inr (6, [.int 9, .ref tjarsA, .int tjarsS])), (tjarsA, .inl (kA 0, 144, .inl o39))]) hP hD [0, 1, 2, 3, 4, 5] (by decide) rfl
        refine W.widen (k := 0) (n := 0) (Nat.le_of_ble_eq_true rfl) (Nat.le_of_ble_eq_true rfl) ?_
        exact W.iret (v := r31) hx hb hr (fun t ht hW => ⟨⟨r31, (o39, r31), rfl, ⟨rfl, (hG.trans hG0.symm)⟩, by rw [ht]; exact hP9, hD9⟩, hS.F ht⟩) hS.2.2 dX10_fill_79
      · have hG := zthen hG c_28
        refine lv_iconst (v := (-1)) hx hb dX10_fill_48 (by decide) ?_
        obtain ⟨hP9, hD9⟩ := z_sb (L' := [(x0, .inr (10, [.ref w0, .ref z0, .ref xi, .ref xt, .int x_tl, .ref xq, .int x_lc, .ref rdr, .ref h0, .ref t0, .ref q0, .ref v0, .ref m0])), (w0, .inr (9, [.ref tnodes, .ref tpasses, .ref tjars, .ref torders, .ref tfeasts, .ref tway, .int tws, .int tnow, .int tfm, .int tx])), (tnodes, .inr (6, [.int 4, .ref tnodesA, .int tnodesS])), (tnodesA, .inl (kA 0, 48, .inl tnodesF)), (tjars, .inr (6, [.int 9, .ref tjarsA, .int tjarsS])), (tjarsA, .inl (kA 0, 144, .inl tjarsF))]) hP hD [0, 3, 4, 5, 1, 2] (by decide) rfl
        refine W.widen (k := 0) (n := 0) (Nat.le_of_ble_eq_true rfl) (Nat.le_of_ble_eq_true rfl) ?_
        exact W.iret (v := (-1)) hx hb hr (fun t ht hW => ⟨⟨(-1), (tjarsF, (-1)), rfl, ⟨rfl, (hG.trans hG0.symm)⟩, by rw [ht]; exact hP9, hD9⟩, hS.F ht⟩) hS.2.2 dX10_fill_49
set_option maxRecDepth 100000 in
def fX10_pour (tnodesF : Nat → Int32) (tjarsS : Int32) (tjarsF : Nat → Int32) (p0 : Int32) : (Nat → Int32) × (Nat → Int32) × Int32 := bnd (fX9_nodeOf tjarsS tjarsF p0) (fun (r3 : Int32) => if r3 = (-1) then ((tnodesF, tjarsF, (-1))) else (bnd (fX6_get_144 9 tjarsF p0 0) (fun (r11 : Int32) => bnd (fX9_bring tnodesF r3 r11) (fun (q23 : (Nat → Int32) × Int32) => bnd (q23.1) (fun (o19 : Nat → Int32) => bnd (q23.2) (fun (r18 : Int32) => bnd (fX6_put_144 9 tjarsF p0 0 0) (fun (o27 : Nat → Int32) => (o19, o27, r18))))))))
set_option maxHeartbeats 4000000 in
set_option maxRecDepth 100000 in
theorem mX10_pour (l : Launch) (dC : Nat → ClassId) (dI : Nat → Nat → Nat) (kA : Nat → ClassId) (sz : Nat) (x0 : Nat) (z0 : Nat) (xi : Nat) (xt : Nat) (xq : Nat) (rdr : Nat) (h0 : Nat) (t0 : Nat) (q0 : Nat) (v0 : Nat) (m0 : Nat) (w0 : Nat) (x_tl : Int32) (x_lc : Int32) (tnodes : Nat) (tnodesA : Nat) (tnodesS : Int32) (tnodesF : Nat → Int32) (tpasses : Nat) (tjars : Nat) (tjarsA : Nat) (tjarsS : Int32) (tjarsF : Nat → Int32) (torders : Nat) (tfeasts : Nat) (tway : Nat) (tws : Int32) (tnow : Int32) (tfm : Int32) (tx : Int32) (p0 : Int32)  : Met l yX10_pour wsX10_pour ({ frames := 2, cells := 0, slots := 0, locals := 48 }) (zPc dC dI kA sz [.ref x0, .int p0] [(x0, .inr (10, [.ref w0, .ref z0, .ref xi, .ref xt, .int x_tl, .ref xq, .int x_lc, .ref rdr, .ref h0, .ref t0, .ref q0, .ref v0, .ref m0])), (w0, .inr (9, [.ref tnodes, .ref tpasses, .ref tjars, .ref torders, .ref tfeasts, .ref tway, .int tws, .int tnow, .int tfm, .int tx])), (tnodes, .inr (6, [.int 4, .ref tnodesA, .int tnodesS])), (tnodesA, .inl (kA 0, 48, .inl tnodesF)), (tjars, .inr (6, [.int 9, .ref tjarsA, .int tjarsS])), (tjarsA, .inl (kA 0, 144, .inl tjarsF))]) (va_Qi (fun (r : Int32) (u : (Nat → Int32) × (Nat → Int32) × Int32) => r = u.2.2 ∧ (u.1, u.2.1, u.2.2) = fX10_pour tnodesF tjarsS tjarsF p0) (zB dC dI (va_A [(x0, .inr (10, [.ref w0, .ref z0, .ref xi, .ref xt, .int x_tl, .ref xq, .int x_lc, .ref rdr, .ref h0, .ref t0, .ref q0, .ref v0, .ref m0])), (w0, .inr (9, [.ref tnodes, .ref tpasses, .ref tjars, .ref torders, .ref tfeasts, .ref tway, .int tws, .int tnow, .int tfm, .int tx])), (tnodes, .inr (6, [.int 4, .ref tnodesA, .int tnodesS])), (tnodesA, .inl (kA 0, 48, .inl tnodesF)), (tjars, .inr (6, [.int 9, .ref tjarsA, .int tjarsS])), (tjarsA, .inl (kA 0, 144, .inl tjarsF))] sz) (fun (u : (Nat → Int32) × (Nat → Int32) × Int32) => [(x0, .inr (10, [.ref w0, .ref z0, .ref xi, .ref xt, .int x_tl, .ref xq, .int x_lc, .ref rdr, .ref h0, .ref t0, .ref q0, .ref v0, .ref m0])), (w0, .inr (9, [.ref tnodes, .ref tpasses, .ref tjars, .ref torders, .ref tfeasts, .ref tway, .int tws, .int tnow, .int tfm, .int tx])), (tnodes, .inr (6, [.int 4, .ref tnodesA, .int tnodesS])), (tnodesA, .inl (kA 0, 48, .inl u.1)), (tjars, .inr (6, [.int 9, .ref tjarsA, .int tjarsS])), (tjarsA, .inl (kA 0, 144, .inl u.2.1))])) (va_A [(x0, .inr (10, [.ref w0, .ref z0, .ref xi, .ref xt, .int x_tl, .ref xq, .int x_lc, .ref rdr, .ref h0, .ref t0, .ref q0, .ref v0, .ref m0])), (w0, .inr (9, [.ref tnodes, .ref tpasses, .ref tjars, .ref torders, .ref tfeasts, .ref tway, .int tws, .int tnow, .int tfm, .int tx])), (tnodes, .inr (6, [.int 4, .ref tnodesA, .int tnodesS])), (tnodesA, .inl (kA 0, 48, .inl tnodesF)), (tjars, .inr (6, [.int 9, .ref tjarsA, .int tjarsS])), (tjarsA, .inl (kA 0, 144, .inl tjarsF))] sz)) 0 0 (va_A [(x0, .inr (10, [.ref w0, .ref z0, .ref xi, .ref xt, .int x_tl, .ref xq, .int x_lc, .ref rdr, .ref h0, .ref t0, .ref q0, .ref v0, .ref m0])), (w0, .inr (9, [.ref tnodes, .ref tpasses, .ref tjars, .ref torders, .ref tfeasts, .ref tway, .int tws, .int tnow, .int tfm, .int tx])), (tnodes, .inr (6, [.int 4, .ref tnodesA, .int tnodesS])), (tnodesA, .inl (kA 0, 48, .inl tnodesF)), (tjars, .inr (6, [.int 9, .ref tjarsA, .int tjarsS])), (tjarsA, .inl (kA 0, 144, .inl tjarsF))] sz) := by
  refine Met.ofW (cc := cX10_pour) (maxL := 4) (ret := (some .int)) pnX10 rfl ?_
  intro p e s m args below meth c s₁ B hml hv
  obtain ⟨rfl, hsz, hP, hK, hD0⟩ := hv
  have hx := B.exec
  have hb := B.bytes
  have hr := B.returns
  have hts := atoms_spec (ws := wsX10_pour) B.pre
  have hown : s.vm.findClass RX10 = some m.cls := findClass_of_methodNamed B.named
  have hlocks := B.notSynchronized
  subst hsz
  have hD := hD0.self (sz := s.heap.size)
  generalize hAe : va_A [(x0, .inr (10, [.ref w0, .ref z0, .ref xi, .ref xt, .int x_tl, .ref xq, .int x_lc, .ref rdr, .ref h0, .ref t0, .ref q0, .ref v0, .ref m0])), (w0, .inr (9, [.ref tnodes, .ref tpasses, .ref tjars, .ref torders, .ref tfeasts, .ref tway, .int tws, .int tnow, .int tfm, .int tx])), (tnodes, .inr (6, [.int 4, .ref tnodesA, .int tnodesS])), (tnodesA, .inl (kA 0, 48, .inl tnodesF)), (tjars, .inr (6, [.int 9, .ref tjarsA, .int tjarsS])), (tjarsA, .inl (kA 0, 144, .inl tjarsF))] s.heap.size = A at hD ⊢
  have hA : ∀ q : Nat, s.heap.size ≤ q → A q := zA_of hAe
  have hS : va_S A s.heap s.heap [] := va_S.rf
  have hP : va_P (dC, dI) vwCl [(x0, .inr (10, [.ref w0, .ref z0, .ref xi, .ref xt, .int x_tl, .ref xq, .int x_lc, .ref rdr, .ref h0, .ref t0, .ref q0, .ref v0, .ref m0])), (w0, .inr (9, [.ref tnodes, .ref tpasses, .ref tjars, .ref torders, .ref tfeasts, .ref tway, .int tws, .int tnow, .int tfm, .int tx])), (tnodes, .inr (6, [.int 4, .ref tnodesA, .int tnodesS])), (tnodesA, .inl (kA 0, 48, .inl tnodesF)), (tjars, .inr (6, [.int 9, .ref tjarsA, .int tjarsS])), (tjarsA, .inl (kA 0, 144, .inl tjarsF))] s.heap := hP
  have hl := lv_entry ([.ref x0, .int p0]) (n := 4) (Nat.le_of_ble_eq_true rfl)
  rw [lg_entry_eq]
  generalize (lg_sl ([.ref x0, .int p0]) ++ List.replicate (4 - (lg_sl ([.ref x0, .int p0])).length) Slot.unset).toArray = ls at hl ⊢
  have hl : lv_has ls 4 [(0, .ref x0), (1, .int p0)] := hl
  obtain ⟨G, hG0⟩ : ∃ G : (Nat → Int32) × (Nat → Int32) × Int32, fX10_pour tnodesF tjarsS tjarsF p0 = G := ⟨_, rfl⟩
  have hG := hG0
  unfold fX10_pour at hG
  refine lv_aload_n hx hb dX10_pour_0 rfl (lv_at hl 0 rfl) ?_
  refine va_get (D := (dC, dI)) (ci := 10) (v := .ref w0) (C := RX10) (T := TX10) (N := 13) hx hb hts iX10_pour_X10 hown hK.1 hP 0 gz0 vcz10 0 (by decide) (kX10_pour_1 hts) (fun _ h9 => h9) gz0 dX10_pour_1 ?_
  refine lv_iload_n hx hb dX10_pour_4 rfl (lv_at hl 1 rfl) ?_
  refine z_i (wr := [(x0, .inr (10, [.ref w0, .ref z0, .ref xi, .ref xt, .int x_tl, .ref xq, .int x_lc, .ref rdr, .ref h0, .ref t0, .ref q0, .ref v0, .ref m0])), (tnodes, .inr (6, [.int 4, .ref tnodesA, .int tnodesS])), (tnodesA, .inl (kA 0, 48, .inl tnodesF))]) (va_runV (As := [.int p0]) (rest := []) ⟨hx, hb, hml, hown, hts⟩ (mX9_nodeOf l dC dI kA _ w0 tnodes tpasses tjars tjarsA tjarsS tjarsF torders tfeasts tway tws tnow tfm tx p0) (cwV 1 hts gX10_pour_X9_nodeOf rfl rfl rfl ⟨rfl, hdX9_nodeOf⟩ ⟨(Nat.le_of_ble_eq_true rfl), (Nat.le_of_ble_eq_true rfl)⟩) ⟨zPc.blind, va_recv (q := (RX9, TX9, 10)) hK.1 hP (ci := 9) (q0 := 1) rfl rfl, zPre hK (hP.sub [1, 4, 5] rfl) (hD.sub [1, 4, 5] (by decide) rfl)⟩ rfl rfl hl.1 rfl (lv_room (Nat.le_of_ble_eq_true rfl)) dX10_pour_5 ⟨(Nat.le_of_ble_eq_true rfl), (Nat.le_of_ble_eq_true rfl)⟩) hP hD hS hA [1, 4, 5] [0, 2, 3] rfl rfl (by decide) (by decide) (fun r3 u1 H locs hw2 hP hD hS => ?_)
  obtain ⟨er6, hp5⟩ := hw2
  have er6 : r3 = u1 := er6
  subst er6
  have er3 : r3 = fX9_nodeOf tjarsS tjarsF p0 := hp5
  have hG := zbnd hG er3
  obtain ⟨hP, hD⟩ := z_re (L := [(x0, .inr (10, [.ref w0, .ref z0, .ref xi, .ref xt, .int x_tl, .ref xq, .int x_lc, .ref rdr, .ref h0, .ref t0, .ref q0, .ref v0, .ref m0])), (tnodes, .inr (6, [.int 4, .ref tnodesA, .int tnodesS])), (tnodesA, .inl (kA 0, 48, .inl tnodesF)), (w0, .inr (9, [.ref tnodes, .ref tpasses, .ref tjars, .ref torders, .ref tfeasts, .ref tway, .int tws, .int tnow, .int tfm, .int tx])), (tjars, .inr (6, [.int 9, .ref tjarsA, .int tjarsS])), (tjarsA, .inl (kA 0, 144, .inl tjarsF))]) hP hD
  refine lv_istore_n (lv' := [(2, .int r3), (0, .ref x0), (1, .int p0)]) hx hb dX10_pour_8 rfl hl (by decide) rfl (fun ls hl => ?_)
  refine lv_iload_n hx hb dX10_pour_9 rfl (lv_at hl 0 rfl) ?_
  refine lv_iconst (v := (-1)) hx hb dX10_pour_10 (by decide) ?_
  refine lv_icmp_ne (tgt := 16) hx hb dX10_pour_11 (by decide) (fun c_8 => ?_) (fun c_8 => ?_)
  · have hG := zelse hG c_8
    refine lv_aload_n hx hb dX10_pour_16 rfl (lv_at hl 1 rfl) ?_
    refine va_get (D := (dC, dI)) (ci := 10) (v := .ref w0) (C := RX10) (T := TX10) (N := 13) hx hb hts iX10_pour_X10 hown hK.1 hP 0 gz0 vcz10 0 (by decide) (kX10_pour_1 hts) (fun _ h9 => h9) gz0 dX10_pour_17 ?_
    refine lv_iload_n hx hb dX10_pour_20 rfl (lv_at hl 0 rfl) ?_
    refine lv_aload_n hx hb dX10_pour_21 rfl (lv_at hl 1 rfl) ?_
    refine va_get (D := (dC, dI)) (ci := 10) (v := .ref w0) (C := RX10) (T := TX10) (N := 13) hx hb hts iX10_pour_X10 hown hK.1 hP 0 gz0 vcz10 0 (by decide) (kX10_pour_1 hts) (fun _ h9 => h9) gz0 dX10_pour_22 ?_
    refine va_get (D := (dC, dI)) (ci := 9) (v := .ref tjars) (C := RX9) (T := TX9) (N := 10) hx hb hts iX10_pour_X9 hown hK.1 hP 3 gz3 vcz9 2 (by decide) (kX10_pour_2 hts) (fun _ h9 => h9) gz2 dX10_pour_25 ?_
    refine lv_iload_n hx hb dX10_pour_28 rfl (lv_at hl 2 rfl) ?_
    refine lv_iconst (v := 0) hx hb dX10_pour_29 (by decide) ?_
    refine z_i (wr := [(x0, .inr (10, [.ref w0, .ref z0, .ref xi, .ref xt, .int x_tl, .ref xq, .int x_lc, .ref rdr, .ref h0, .ref t0, .ref q0, .ref v0, .ref m0])), (tnodes, .inr (6, [.int 4, .ref tnodesA, .int tnodesS])), (tnodesA, .inl (kA 0, 48, .inl tnodesF)), (w0, .inr (9, [.ref tnodes, .ref tpasses, .ref tjars, .ref torders, .ref tfeasts, .ref tway, .int tws, .int tnow, .int tfm, .int tx]))]) (va_runV (As := [.int p0, .int 0]) (rest := [.int r3, .ref w0]) ⟨hx, hb, hml, hown, hts⟩ (mX6_get_144 l dC dI kA _ tjars tjarsA 9 tjarsS tjarsF p0 0) (cwV 2 hts gX10_pour_X6_get rfl rfl rfl ⟨rfl, hdX6_get⟩ ⟨(Nat.le_of_ble_eq_true rfl), (Nat.le_of_ble_eq_true rfl)⟩) ⟨zPc.blind, va_recv (q := (RX6, TX6, 3)) hK.1 hP (ci := 6) (q0 := 4) rfl rfl, zPre hK (hP.sub [4, 5] rfl) (hD.sub [4, 5] (by decide) rfl)⟩ rfl rfl hl.1 rfl (lv_room (Nat.le_of_ble_eq_true rfl)) dX10_pour_30 ⟨(Nat.le_of_ble_eq_true rfl), (Nat.le_of_ble_eq_true rfl)⟩) hP hD hS hA [4, 5] [0, 1, 2, 3] rfl rfl (by decide) (by decide) (fun r11 u9 H locs hw10 hP hD hS => ?_)
    obtain ⟨er14, hp13⟩ := hw10
    have er14 : r11 = u9 := er14
    subst er14
    have er11 : r11 = fX6_get_144 9 tjarsF p0 0 := hp13
    have hG := zbnd hG er11
    obtain ⟨hP, hD⟩ := z_re (L := [(x0, .inr (10, [.ref w0, .ref z0, .ref xi, .ref xt, .int x_tl, .ref xq, .int x_lc, .ref rdr, .ref h0, .ref t0, .ref q0, .ref v0, .ref m0])), (tnodes, .inr (6, [.int 4, .ref tnodesA, .int tnodesS])), (tnodesA, .inl (kA 0, 48, .inl tnodesF)), (w0, .inr (9, [.ref tnodes, .ref tpasses, .ref tjars, .ref torders, .ref tfeasts, .ref tway, .int tws, .int tnow, .int tfm, .int tx])), (tjars, .inr (6, [.int 9, .ref tjarsA, .int tjarsS])), (tjarsA, .inl (kA 0, 144, .inl tjarsF))]) hP hD
    refine z_i (wr := [(x0, .inr (10, [.ref w0, .ref z0, .ref xi, .ref xt, .int x_tl, .ref xq, .int x_lc, .ref rdr, .ref h0, .ref t0, .ref q0, .ref v0, .ref m0])), (tjars, .inr (6, [.int 9, .ref tjarsA, .int tjarsS])), (tjarsA, .inl (kA 0, 144, .inl tjarsF))]) (va_runV (As := [.int r3, .int r11]) (rest := []) ⟨hx, hb, hml, hown, hts⟩ (mX9_bring l dC dI kA _ w0 tnodes tnodesA tnodesS tnodesF tpasses tjars torders tfeasts tway tws tnow tfm tx r3 r11) (cwV 2 hts gX10_pour_X9_bring rfl rfl rfl ⟨rfl, hdX9_bring⟩ ⟨(Nat.le_of_ble_eq_true rfl), (Nat.le_of_ble_eq_true rfl)⟩) ⟨zPc.blind, va_recv (q := (RX9, TX9, 10)) hK.1 hP (ci := 9) (q0 := 3) rfl rfl, zPre hK (hP.sub [3, 1, 2] rfl) (hD.sub [3, 1, 2] (by decide) rfl)⟩ rfl rfl hl.1 rfl (lv_room (Nat.le_of_ble_eq_true rfl)) dX10_pour_33 ⟨(Nat.le_of_ble_eq_true rfl), (Nat.le_of_ble_eq_true rfl)⟩) hP hD hS hA [3, 1, 2] [0, 4, 5] rfl rfl (by decide) (by decide) (fun r18 u16 H locs hw17 hP hD hS => ?_)
    obtain ⟨o19, r20⟩ := u16
    obtain ⟨er22, hp21⟩ := hw17
    have er22 : r18 = r20 := er22
    subst er22
    obtain ⟨q23, eq23⟩ : ∃ y : (Nat → Int32) × Int32, y = fX9_bring tnodesF r3 r11 := ⟨_, rfl⟩
    have hG := zbnd hG eq23
    have eo19 : o19 = q23.1 := by rw [eq23]; exact congrArg (fun z : (Nat → Int32) × Int32 => z.1) hp21
    have hG := zbnd hG eo19
    have er18 : r18 = q23.2 := by rw [eq23]; exact congrArg (fun z : (Nat → Int32) × Int32 => z.2) hp21
    have hG := zbnd hG er18
    obtain ⟨hP, hD⟩ := z_re (L := [(x0, .inr (10, [.ref w0, .ref z0, .ref xi, .ref xt, .int x_tl, .ref xq, .int x_lc, .ref rdr, .ref h0, .ref t0, .ref q0, .ref v0, .ref m0])), (tjars, .inr (6, [.int 9, .ref tjarsA, .int tjarsS])), (tjarsA, .inl (kA 0, 144, .inl tjarsF)), (w0, .inr (9, [.ref tnodes, .ref tpasses, .ref tjars, .ref torders, .ref tfeasts, .ref tway, .int tws, .int tnow, .int tfm, .int tx])), (tnodes, .inr (6, [.int 4, .ref tnodesA, .int tnodesS])), (tnodesA, .inl (kA 0, 48, .inl o19))]) hP hD
    refine lv_istore_n (lv' := [(3, .int r18), (2, .int r3), (0, .ref x0), (1, .int p0)]) hx hb dX10_pour_36 rfl hl (by decide) rfl (fun ls hl => ?_)
    refine lv_aload_n hx hb dX10_pour_37 rfl (lv_at hl 2 rfl) ?_
    refine va_get (D := (dC, dI)) (ci := 10) (v := .ref w0) (C := RX10) (T := TX10) (N := 13) hx hb hts iX10_pour_X10 hown hK.1 hP 0 gz0 vcz10 0 (by decide) (kX10_pour_1 hts) (fun _ h9 => h9) gz0 dX10_pour_38 ?_
    refine va_get (D := (dC, dI)) (ci := 9) (v := .ref tjars) (C := RX9) (T := TX9) (N := 10) hx hb hts iX10_pour_X9 hown hK.1 hP 3 gz3 vcz9 2 (by decide) (kX10_pour_2 hts) (fun _ h9 => h9) gz2 dX10_pour_41 ?_
    refine lv_iload_n hx hb dX10_pour_44 rfl (lv_at hl 3 rfl) ?_
    refine lv_iconst (v := 0) hx hb dX10_pour_45 (by decide) ?_
    refine lv_iconst (v := 0) hx hb dX10_pour_46 (by decide) ?_
    refine z_v (wr := [(x0, .inr (10, [.ref w0, .ref z0, .ref xi, .ref xt, .int x_tl, .ref xq, .int x_lc, .ref rdr, .ref h0, .ref t0, .ref q0, .ref v0, .ref m0])), (w0, .inr (9, [.ref tnodes, .ref tpasses, .ref tjars, .ref torders, .ref tfeasts, .ref tway, .int tws, .int tnow, .int tfm, .int tx])), (tnodes, .inr (6, [.int 4, .ref tnodesA, .int tnodesS])), (tnodesA, .inl (kA 0, 48, .inl o19))]) (va_runV (As := [.int p0, .int 0, .int 0]) (rest := []) ⟨hx, hb, hml, hown, hts⟩ (mX6_put_144 l dC dI kA _ tjars tjarsA 9 tjarsS tjarsF p0 0 0) (cwV 3 hts gX10_pour_X6_put rfl rfl rfl ⟨rfl, hdX6_put⟩ ⟨(Nat.le_of_ble_eq_true rfl), (Nat.le_of_ble_eq_true rfl)⟩) ⟨zPc.blind, va_recv (q := (RX6, TX6, 3)) hK.1 hP (ci := 6) (q0 := 1) rfl rfl, zPre hK (hP.sub [1, 2] rfl) (hD.sub [1, 2] (by decide) rfl)⟩ rfl rfl hl.1 rfl (lv_room (Nat.le_of_ble_eq_true rfl)) dX10_pour_47 ⟨(Nat.le_of_ble_eq_true rfl), (Nat.le_of_ble_eq_true rfl)⟩) hP hD hS hA [1, 2] [0, 3, 4, 5] rfl rfl (by decide) (by decide) (fun u24 H locs hw25 hP hD hS => ?_)
    obtain ⟨o27, rfl⟩ : ∃ z, z = u24 := ⟨_, rfl⟩
    have hp28 := hw25
    have eo27 : o27 = fX6_put_144 9 tjarsF p0 0 0 := hp28
    have hG := zbnd hG eo27
    obtain ⟨hP, hD⟩ := z_re (L := [(x0, .inr (10, [.ref w0, .ref z0, .ref xi, .ref xt, .int x_tl, .ref xq, .int x_lc, .ref rdr, .ref h0, .ref t0, .ref q0, .ref v0, .ref m0])), (w0, .inr (9, [.ref tnodes, .ref tpasses, .ref tjars, .ref torders, .ref tfeasts, .ref tway, .int tws, .int tnow, .int tfm, .int tx])), (tnodes, .inr (6, [.int 4, .ref tnodesA, .int tnodesS])), (tnodesA, .inl (kA 0, 48, .inl o19)), (tjars, .inr (6, [.int 9, .ref tjarsA, .int tjarsS])), (tjarsA, .inl (kA 0, 144, .inl o27))]) hP hD
    refine lv_iload_n hx hb dX10_pour_50 rfl (lv_at hl 0 rfl) ?_
    obtain ⟨hP9, hD9⟩ := z_sb (L' := [(x0, .inr (10, [.ref w0, .ref z0, .ref xi, .ref xt, .int x_tl, .ref xq, .int x_lc, .ref rdr, .ref h0, .ref t0, .ref q0, .ref v0, .ref m0])), (w0, .inr (9, [.ref tnodes, .ref tpasses, .ref tjars, .ref torders, .ref tfeasts, .ref tway, .int tws, .int tnow, .int tfm, .int tx])), (tnodes, .inr (6, [.int 4, .ref tnodesA, .int tnodesS])), (tnodesA, .inl (kA 0, 48, .inl o19)), (tjars, .inr (6, [.int 9, .ref tjarsA, .int tjarsS])), (tjarsA, .inl (kA 0, 144, .inl o27))]) hP hD [0, 1, 2, 3, 4, 5] (by decide) rfl
    refine W.widen (k := 0) (n := 0) (Nat.le_of_ble_eq_true rfl) (Nat.le_of_ble_eq_true rfl) ?_
    exact W.iret (v := r18) hx hb hr (fun t ht hW => ⟨⟨r18, (o19, o27, r18), rfl, ⟨rfl, (hG.trans hG0.symm)⟩, by rw [ht]; exact hP9, hD9⟩, hS.F ht⟩) hS.2.2 dX10_pour_51
  · have hG := zthen hG c_8
    refine lv_iconst (v := (-1)) hx hb dX10_pour_14 (by decide) ?_
    obtain ⟨hP9, hD9⟩ := z_sb (L' := [(x0, .inr (10, [.ref w0, .ref z0, .ref xi, .ref xt, .int x_tl, .ref xq, .int x_lc, .ref rdr, .ref h0, .ref t0, .ref q0, .ref v0, .ref m0])), (w0, .inr (9, [.ref tnodes, .ref tpasses, .ref tjars, .ref torders, .ref tfeasts, .ref tway, .int tws, .int tnow, .int tfm, .int tx])), (tnodes, .inr (6, [.int 4, .ref tnodesA, .int tnodesS])), (tnodesA, .inl (kA 0, 48, .inl tnodesF)), (tjars, .inr (6, [.int 9, .ref tjarsA, .int tjarsS])), (tjarsA, .inl (kA 0, 144, .inl tjarsF))]) hP hD [0, 3, 1, 2, 4, 5] (by decide) rfl
    refine W.widen (k := 0) (n := 0) (Nat.le_of_ble_eq_true rfl) (Nat.le_of_ble_eq_true rfl) ?_
    exact W.iret (v := (-1)) hx hb hr (fun t ht hW => ⟨⟨(-1), (tnodesF, tjarsF, (-1)), rfl, ⟨rfl, (hG.trans hG0.symm)⟩, by rw [ht]; exact hP9, hD9⟩, hS.F ht⟩) hS.2.2 dX10_pour_15
set_option maxRecDepth 100000 in
def fX10_store (tnodesS : Int32) (tnodesF : Nat → Int32) (p0 : Int32) (p1 : Int32) : (Nat → Int32) × Int32 := if (hs p0 tnodesS) = 0 then ((tnodesF, (-1))) else (if (wi p1 999999) = 0 then ((tnodesF, (-1))) else (bnd (fX6_get_48 4 tnodesF p0 3) (fun (r11 : Int32) => bnd (fX6_put_48 4 tnodesF p0 3 p1) (fun (o19 : Nat → Int32) => (o19, r11)))))
set_option maxHeartbeats 4000000 in
set_option maxRecDepth 100000 in
theorem mX10_store (l : Launch) (dC : Nat → ClassId) (dI : Nat → Nat → Nat) (kA : Nat → ClassId) (sz : Nat) (x0 : Nat) (z0 : Nat) (xi : Nat) (xt : Nat) (xq : Nat) (rdr : Nat) (h0 : Nat) (t0 : Nat) (q0 : Nat) (v0 : Nat) (m0 : Nat) (w0 : Nat) (x_tl : Int32) (x_lc : Int32) (tnodes : Nat) (tnodesA : Nat) (tnodesS : Int32) (tnodesF : Nat → Int32) (tpasses : Nat) (tjars : Nat) (torders : Nat) (tfeasts : Nat) (tway : Nat) (tws : Int32) (tnow : Int32) (tfm : Int32) (tx : Int32) (p0 : Int32) (p1 : Int32)  : Met l yX10_store wsX10_store ({ frames := 1, cells := 0, slots := 0, locals := 24 }) (zPc dC dI kA sz [.ref x0, .int p0, .int p1] [(x0, .inr (10, [.ref w0, .ref z0, .ref xi, .ref xt, .int x_tl, .ref xq, .int x_lc, .ref rdr, .ref h0, .ref t0, .ref q0, .ref v0, .ref m0])), (w0, .inr (9, [.ref tnodes, .ref tpasses, .ref tjars, .ref torders, .ref tfeasts, .ref tway, .int tws, .int tnow, .int tfm, .int tx])), (tnodes, .inr (6, [.int 4, .ref tnodesA, .int tnodesS])), (tnodesA, .inl (kA 0, 48, .inl tnodesF))]) (va_Qi (fun (r : Int32) (u : (Nat → Int32) × Int32) => r = u.2 ∧ (u.1, u.2) = fX10_store tnodesS tnodesF p0 p1) (zB dC dI (va_A [(x0, .inr (10, [.ref w0, .ref z0, .ref xi, .ref xt, .int x_tl, .ref xq, .int x_lc, .ref rdr, .ref h0, .ref t0, .ref q0, .ref v0, .ref m0])), (w0, .inr (9, [.ref tnodes, .ref tpasses, .ref tjars, .ref torders, .ref tfeasts, .ref tway, .int tws, .int tnow, .int tfm, .int tx])), (tnodes, .inr (6, [.int 4, .ref tnodesA, .int tnodesS])), (tnodesA, .inl (kA 0, 48, .inl tnodesF))] sz) (fun (u : (Nat → Int32) × Int32) => [(x0, .inr (10, [.ref w0, .ref z0, .ref xi, .ref xt, .int x_tl, .ref xq, .int x_lc, .ref rdr, .ref h0, .ref t0, .ref q0, .ref v0, .ref m0])), (w0, .inr (9, [.ref tnodes, .ref tpasses, .ref tjars, .ref torders, .ref tfeasts, .ref tway, .int tws, .int tnow, .int tfm, .int tx])), (tnodes, .inr (6, [.int 4, .ref tnodesA, .int tnodesS])), (tnodesA, .inl (kA 0, 48, .inl u.1))])) (va_A [(x0, .inr (10, [.ref w0, .ref z0, .ref xi, .ref xt, .int x_tl, .ref xq, .int x_lc, .ref rdr, .ref h0, .ref t0, .ref q0, .ref v0, .ref m0])), (w0, .inr (9, [.ref tnodes, .ref tpasses, .ref tjars, .ref torders, .ref tfeasts, .ref tway, .int tws, .int tnow, .int tfm, .int tx])), (tnodes, .inr (6, [.int 4, .ref tnodesA, .int tnodesS])), (tnodesA, .inl (kA 0, 48, .inl tnodesF))] sz)) 0 0 (va_A [(x0, .inr (10, [.ref w0, .ref z0, .ref xi, .ref xt, .int x_tl, .ref xq, .int x_lc, .ref rdr, .ref h0, .ref t0, .ref q0, .ref v0, .ref m0])), (w0, .inr (9, [.ref tnodes, .ref tpasses, .ref tjars, .ref torders, .ref tfeasts, .ref tway, .int tws, .int tnow, .int tfm, .int tx])), (tnodes, .inr (6, [.int 4, .ref tnodesA, .int tnodesS])), (tnodesA, .inl (kA 0, 48, .inl tnodesF))] sz) := by
  refine Met.ofW (cc := cX10_store) (maxL := 4) (ret := (some .int)) pnX10 rfl ?_
  intro p e s m args below meth c s₁ B hml hv
  obtain ⟨rfl, hsz, hP, hK, hD0⟩ := hv
  have hx := B.exec
  have hb := B.bytes
  have hr := B.returns
  have hts := atoms_spec (ws := wsX10_store) B.pre
  have hown : s.vm.findClass RX10 = some m.cls := findClass_of_methodNamed B.named
  have hlocks := B.notSynchronized
  subst hsz
  have hD := hD0.self (sz := s.heap.size)
  generalize hAe : va_A [(x0, .inr (10, [.ref w0, .ref z0, .ref xi, .ref xt, .int x_tl, .ref xq, .int x_lc, .ref rdr, .ref h0, .ref t0, .ref q0, .ref v0, .ref m0])), (w0, .inr (9, [.ref tnodes, .ref tpasses, .ref tjars, .ref torders, .ref tfeasts, .ref tway, .int tws, .int tnow, .int tfm, .int tx])), (tnodes, .inr (6, [.int 4, .ref tnodesA, .int tnodesS])), (tnodesA, .inl (kA 0, 48, .inl tnodesF))] s.heap.size = A at hD ⊢
  have hA : ∀ q : Nat, s.heap.size ≤ q → A q := zA_of hAe
  have hS : va_S A s.heap s.heap [] := va_S.rf
  have hP : va_P (dC, dI) vwCl [(x0, .inr (10, [.ref w0, .ref z0, .ref xi, .ref xt, .int x_tl, .ref xq, .int x_lc, .ref rdr, .ref h0, .ref t0, .ref q0, .ref v0, .ref m0])), (w0, .inr (9, [.ref tnodes, .ref tpasses, .ref tjars, .ref torders, .ref tfeasts, .ref tway, .int tws, .int tnow, .int tfm, .int tx])), (tnodes, .inr (6, [.int 4, .ref tnodesA, .int tnodesS])), (tnodesA, .inl (kA 0, 48, .inl tnodesF))] s.heap := hP
  have hl := lv_entry ([.ref x0, .int p0, .int p1]) (n := 4) (Nat.le_of_ble_eq_true rfl)
  rw [lg_entry_eq]
  generalize (lg_sl ([.ref x0, .int p0, .int p1]) ++ List.replicate (4 - (lg_sl ([.ref x0, .int p0, .int p1])).length) Slot.unset).toArray = ls at hl ⊢
  have hl : lv_has ls 4 [(0, .ref x0), (1, .int p0), (2, .int p1)] := hl
  obtain ⟨G, hG0⟩ : ∃ G : (Nat → Int32) × Int32, fX10_store tnodesS tnodesF p0 p1 = G := ⟨_, rfl⟩
  have hG := hG0
  unfold fX10_store at hG
  refine lv_aload_n hx hb dX10_store_0 rfl (lv_at hl 0 rfl) ?_
  refine va_get (D := (dC, dI)) (ci := 10) (v := .ref w0) (C := RX10) (T := TX10) (N := 13) hx hb hts iX10_store_X10 hown hK.1 hP 0 gz0 vcz10 0 (by decide) (kX10_store_1 hts) (fun _ h9 => h9) gz0 dX10_store_1 ?_
  refine va_get (D := (dC, dI)) (ci := 9) (v := .ref tnodes) (C := RX9) (T := TX9) (N := 10) hx hb hts iX10_store_X9 hown hK.1 hP 1 gz1 vcz9 0 (by decide) (kX10_store_2 hts) (fun _ h9 => h9) gz0 dX10_store_4 ?_
  refine lv_iload_n hx hb dX10_store_7 rfl (lv_at hl 1 rfl) ?_
  refine z_i (wr := [(x0, .inr (10, [.ref w0, .ref z0, .ref xi, .ref xt, .int x_tl, .ref xq, .int x_lc, .ref rdr, .ref h0, .ref t0, .ref q0, .ref v0, .ref m0])), (w0, .inr (9, [.ref tnodes, .ref tpasses, .ref tjars, .ref torders, .ref tfeasts, .ref tway, .int tws, .int tnow, .int tfm, .int tx])), (tnodesA, .inl (kA 0, 48, .inl tnodesF))]) (va_runV (As := [.int p0]) (rest := []) ⟨hx, hb, hml, hown, hts⟩ (mX6_has l dC dI kA _ tnodes tnodesA 4 tnodesS p0) (cwV 1 hts gX10_store_X6_has rfl rfl rfl ⟨rfl, hdX6_has⟩ ⟨(Nat.le_of_ble_eq_true rfl), (Nat.le_of_ble_eq_true rfl)⟩) ⟨zPc.blind, va_recv (q := (RX6, TX6, 3)) hK.1 hP (ci := 6) (q0 := 2) rfl rfl, zPre hK (hP.sub [2] rfl) (hD.sub [2] (by decide) rfl)⟩ rfl rfl hl.1 rfl (lv_room (Nat.le_of_ble_eq_true rfl)) dX10_store_8 ⟨(Nat.le_of_ble_eq_true rfl), (Nat.le_of_ble_eq_true rfl)⟩) hP hD hS hA [2] [0, 1, 3] rfl rfl (by decide) (by decide) (fun r3 u1 H locs hw2 hP hD hS => ?_)
  obtain rfl := hw2
  obtain ⟨hP, hD⟩ := z_re (L := [(x0, .inr (10, [.ref w0, .ref z0, .ref xi, .ref xt, .int x_tl, .ref xq, .int x_lc, .ref rdr, .ref h0, .ref t0, .ref q0, .ref v0, .ref m0])), (w0, .inr (9, [.ref tnodes, .ref tpasses, .ref tjars, .ref torders, .ref tfeasts, .ref tway, .int tws, .int tnow, .int tfm, .int tx])), (tnodesA, .inl (kA 0, 48, .inl tnodesF)), (tnodes, .inr (6, [.int 4, .ref tnodesA, .int tnodesS]))]) hP hD
  refine lv_if_eq (tgt := 23) hx hb dX10_store_11 (by decide) (fun c_4 => ?_) (fun c_4 => ?_)
  · have hG := zthen hG c_4
    refine lv_iconst (v := (-1)) hx hb dX10_store_23 (by decide) ?_
    obtain ⟨hP9, hD9⟩ := z_sb (L' := [(x0, .inr (10, [.ref w0, .ref z0, .ref xi, .ref xt, .int x_tl, .ref xq, .int x_lc, .ref rdr, .ref h0, .ref t0, .ref q0, .ref v0, .ref m0])), (w0, .inr (9, [.ref tnodes, .ref tpasses, .ref tjars, .ref torders, .ref tfeasts, .ref tway, .int tws, .int tnow, .int tfm, .int tx])), (tnodes, .inr (6, [.int 4, .ref tnodesA, .int tnodesS])), (tnodesA, .inl (kA 0, 48, .inl tnodesF))]) hP hD [0, 1, 3, 2] (by decide) rfl
    refine W.widen (k := 0) (n := 0) (Nat.le_of_ble_eq_true rfl) (Nat.le_of_ble_eq_true rfl) ?_
    exact W.iret (v := (-1)) hx hb hr (fun t ht hW => ⟨⟨(-1), (tnodesF, (-1)), rfl, ⟨rfl, (hG.trans hG0.symm)⟩, by rw [ht]; exact hP9, hD9⟩, hS.F ht⟩) hS.2.2 dX10_store_24
  · have hG := zelse hG c_4
    have c_4a := hs_ne c_4
    have c_4b := c_4a.2
    have c_4a := c_4a.1
    refine lv_iload_n hx hb dX10_store_14 rfl (lv_at hl 2 rfl) ?_
    refine lv_ldc hx hb hown (kX10_store_3 hts) dX10_store_15 ?_
    refine z_i (wr := [(x0, .inr (10, [.ref w0, .ref z0, .ref xi, .ref xt, .int x_tl, .ref xq, .int x_lc, .ref rdr, .ref h0, .ref t0, .ref q0, .ref v0, .ref m0])), (w0, .inr (9, [.ref tnodes, .ref tpasses, .ref tjars, .ref torders, .ref tfeasts, .ref tway, .int tws, .int tnow, .int tfm, .int tx])), (tnodesA, .inl (kA 0, 48, .inl tnodesF)), (tnodes, .inr (6, [.int 4, .ref tnodesA, .int tnodesS]))]) (va_runS (As := [.int p1, .int 999999]) (rest := []) ⟨hx, hb, hml, hown, hts⟩ (mX10_within l dC dI kA _ p1 999999) (va_cwS 2 hts gX10_store_X10_within rfl rfl rfl hdX10_within ⟨(Nat.le_of_ble_eq_true rfl), (Nat.le_of_ble_eq_true rfl)⟩) ⟨zPc.blind, zPre hK (hP.sub [] rfl) (hD.sub [] (by decide) rfl)⟩ rfl rfl hl.1 rfl (lv_room (Nat.le_of_ble_eq_true rfl)) dX10_store_17 ⟨(Nat.le_of_ble_eq_true rfl), (Nat.le_of_ble_eq_true rfl)⟩) hP hD hS hA [] [0, 1, 2, 3] rfl rfl (by decide) (by decide) (fun r7 u5 H locs hw6 hP hD hS => ?_)
    obtain rfl := hw6
    obtain ⟨hP, hD⟩ := z_re (L := [(x0, .inr (10, [.ref w0, .ref z0, .ref xi, .ref xt, .int x_tl, .ref xq, .int x_lc, .ref rdr, .ref h0, .ref t0, .ref q0, .ref v0, .ref m0])), (w0, .inr (9, [.ref tnodes, .ref tpasses, .ref tjars, .ref torders, .ref tfeasts, .ref tway, .int tws, .int tnow, .int tfm, .int tx])), (tnodesA, .inl (kA 0, 48, .inl tnodesF)), (tnodes, .inr (6, [.int 4, .ref tnodesA, .int tnodesS]))]) hP hD
    refine lv_if_ne (tgt := 25) hx hb dX10_store_20 (by decide) (fun c_8 => ?_) (fun c_8 => ?_)
    · have hG := zelse hG c_8
      have c_8a := wi_ne c_8
      have c_8b := c_8a.2
      have c_8a := c_8a.1
      refine lv_aload_n hx hb dX10_store_25 rfl (lv_at hl 0 rfl) ?_
      refine va_get (D := (dC, dI)) (ci := 10) (v := .ref w0) (C := RX10) (T := TX10) (N := 13) hx hb hts iX10_store_X10 hown hK.1 hP 0 gz0 vcz10 0 (by decide) (kX10_store_1 hts) (fun _ h9 => h9) gz0 dX10_store_26 ?_
      refine va_get (D := (dC, dI)) (ci := 9) (v := .ref tnodes) (C := RX9) (T := TX9) (N := 10) hx hb hts iX10_store_X9 hown hK.1 hP 1 gz1 vcz9 0 (by decide) (kX10_store_2 hts) (fun _ h9 => h9) gz0 dX10_store_29 ?_
      refine lv_iload_n hx hb dX10_store_32 rfl (lv_at hl 1 rfl) ?_
      refine lv_iconst (v := 3) hx hb dX10_store_33 (by decide) ?_
      refine z_i (wr := [(x0, .inr (10, [.ref w0, .ref z0, .ref xi, .ref xt, .int x_tl, .ref xq, .int x_lc, .ref rdr, .ref h0, .ref t0, .ref q0, .ref v0, .ref m0])), (w0, .inr (9, [.ref tnodes, .ref tpasses, .ref tjars, .ref torders, .ref tfeasts, .ref tway, .int tws, .int tnow, .int tfm, .int tx]))]) (va_runV (As := [.int p0, .int 3]) (rest := []) ⟨hx, hb, hml, hown, hts⟩ (mX6_get_48 l dC dI kA _ tnodes tnodesA 4 tnodesS tnodesF p0 3) (cwV 2 hts gX10_store_X6_get rfl rfl rfl ⟨rfl, hdX6_get⟩ ⟨(Nat.le_of_ble_eq_true rfl), (Nat.le_of_ble_eq_true rfl)⟩) ⟨zPc.blind, va_recv (q := (RX6, TX6, 3)) hK.1 hP (ci := 6) (q0 := 3) rfl rfl, zPre hK (hP.sub [3, 2] rfl) (hD.sub [3, 2] (by decide) rfl)⟩ rfl rfl hl.1 rfl (lv_room (Nat.le_of_ble_eq_true rfl)) dX10_store_34 ⟨(Nat.le_of_ble_eq_true rfl), (Nat.le_of_ble_eq_true rfl)⟩) hP hD hS hA [3, 2] [0, 1] rfl rfl (by decide) (by decide) (fun r11 u9 H locs hw10 hP hD hS => ?_)
      obtain ⟨er14, hp13⟩ := hw10
      have er14 : r11 = u9 := er14
      subst er14
      have er11 : r11 = fX6_get_48 4 tnodesF p0 3 := hp13
      have hG := zbnd hG er11
      obtain ⟨hP, hD⟩ := z_re (L := [(x0, .inr (10, [.ref w0, .ref z0, .ref xi, .ref xt, .int x_tl, .ref xq, .int x_lc, .ref rdr, .ref h0, .ref t0, .ref q0, .ref v0, .ref m0])), (w0, .inr (9, [.ref tnodes, .ref tpasses, .ref tjars, .ref torders, .ref tfeasts, .ref tway, .int tws, .int tnow, .int tfm, .int tx])), (tnodes, .inr (6, [.int 4, .ref tnodesA, .int tnodesS])), (tnodesA, .inl (kA 0, 48, .inl tnodesF))]) hP hD
      refine lv_istore_n (lv' := [(3, .int r11), (0, .ref x0), (1, .int p0), (2, .int p1)]) hx hb dX10_store_37 rfl hl (by decide) rfl (fun ls hl => ?_)
      refine lv_aload_n hx hb dX10_store_38 rfl (lv_at hl 1 rfl) ?_
      refine va_get (D := (dC, dI)) (ci := 10) (v := .ref w0) (C := RX10) (T := TX10) (N := 13) hx hb hts iX10_store_X10 hown hK.1 hP 0 gz0 vcz10 0 (by decide) (kX10_store_1 hts) (fun _ h9 => h9) gz0 dX10_store_39 ?_
      refine va_get (D := (dC, dI)) (ci := 9) (v := .ref tnodes) (C := RX9) (T := TX9) (N := 10) hx hb hts iX10_store_X9 hown hK.1 hP 1 gz1 vcz9 0 (by decide) (kX10_store_2 hts) (fun _ h9 => h9) gz0 dX10_store_42 ?_
      refine lv_iload_n hx hb dX10_store_45 rfl (lv_at hl 2 rfl) ?_
      refine lv_iconst (v := 3) hx hb dX10_store_46 (by decide) ?_
      refine lv_iload_n hx hb dX10_store_47 rfl (lv_at hl 3 rfl) ?_
      refine z_v (wr := [(x0, .inr (10, [.ref w0, .ref z0, .ref xi, .ref xt, .int x_tl, .ref xq, .int x_lc, .ref rdr, .ref h0, .ref t0, .ref q0, .ref v0, .ref m0])), (w0, .inr (9, [.ref tnodes, .ref tpasses, .ref tjars, .ref torders, .ref tfeasts, .ref tway, .int tws, .int tnow, .int tfm, .int tx]))]) (va_runV (As := [.int p0, .int 3, .int p1]) (rest := []) ⟨hx, hb, hml, hown, hts⟩ (mX6_put_48 l dC dI kA _ tnodes tnodesA 4 tnodesS tnodesF p0 3 p1) (cwV 3 hts gX10_store_X6_put rfl rfl rfl ⟨rfl, hdX6_put⟩ ⟨(Nat.le_of_ble_eq_true rfl), (Nat.le_of_ble_eq_true rfl)⟩) ⟨zPc.blind, va_recv (q := (RX6, TX6, 3)) hK.1 hP (ci := 6) (q0 := 2) rfl rfl, zPre hK (hP.sub [2, 3] rfl) (hD.sub [2, 3] (by decide) rfl)⟩ rfl rfl hl.1 rfl (lv_room (Nat.le_of_ble_eq_true rfl)) dX10_store_48 ⟨(Nat.le_of_ble_eq_true rfl), (Nat.le_of_ble_eq_true rfl)⟩) hP hD hS hA [2, 3] [0, 1] rfl rfl (by decide) (by decide) (fun u16 H locs hw17 hP hD hS => ?_)
      obtain ⟨o19, rfl⟩ : ∃ z, z = u16 := ⟨_, rfl⟩
      have hp20 := hw17
      have eo19 : o19 = fX6_put_48 4 tnodesF p0 3 p1 := hp20
      have hG := zbnd hG eo19
      obtain ⟨hP, hD⟩ := z_re (L := [(x0, .inr (10, [.ref w0, .ref z0, .ref xi, .ref xt, .int x_tl, .ref xq, .int x_lc, .ref rdr, .ref h0, .ref t0, .ref q0, .ref v0, .ref m0])), (w0, .inr (9, [.ref tnodes, .ref tpasses, .ref tjars, .ref torders, .ref tfeasts, .ref tway, .int tws, .int tnow, .int tfm, .int tx])), (tnodes, .inr (6, [.int 4, .ref tnodesA, .int tnodesS])), (tnodesA, .inl (kA 0, 48, .inl o19))]) hP hD
      refine lv_iload_n hx hb dX10_store_51 rfl (lv_at hl 0 rfl) ?_
      obtain ⟨hP9, hD9⟩ := z_sb (L' := [(x0, .inr (10, [.ref w0, .ref z0, .ref xi, .ref xt, .int x_tl, .ref xq, .int x_lc, .ref rdr, .ref h0, .ref t0, .ref q0, .ref v0, .ref m0])), (w0, .inr (9, [.ref tnodes, .ref tpasses, .ref tjars, .ref torders, .ref tfeasts, .ref tway, .int tws, .int tnow, .int tfm, .int tx])), (tnodes, .inr (6, [.int 4, .ref tnodesA, .int tnodesS])), (tnodesA, .inl (kA 0, 48, .inl o19))]) hP hD [0, 1, 2, 3] (by decide) rfl
      refine W.widen (k := 0) (n := 0) (Nat.le_of_ble_eq_true rfl) (Nat.le_of_ble_eq_true rfl) ?_
      exact W.iret (v := r11) hx hb hr (fun t ht hW => ⟨⟨r11, (o19, r11), rfl, ⟨rfl, (hG.trans hG0.symm)⟩, by rw [ht]; exact hP9, hD9⟩, hS.F ht⟩) hS.2.2 dX10_store_52
    · have hG := zthen hG c_8
      refine lv_iconst (v := (-1)) hx hb dX10_store_23 (by decide) ?_
      obtain ⟨hP9, hD9⟩ := z_sb (L' := [(x0, .inr (10, [.ref w0, .ref z0, .ref xi, .ref xt, .int x_tl, .ref xq, .int x_lc, .ref rdr, .ref h0, .ref t0, .ref q0, .ref v0, .ref m0])), (w0, .inr (9, [.ref tnodes, .ref tpasses, .ref tjars, .ref torders, .ref tfeasts, .ref tway, .int tws, .int tnow, .int tfm, .int tx])), (tnodes, .inr (6, [.int 4, .ref tnodesA, .int tnodesS])), (tnodesA, .inl (kA 0, 48, .inl tnodesF))]) hP hD [0, 1, 3, 2] (by decide) rfl
      refine W.widen (k := 0) (n := 0) (Nat.le_of_ble_eq_true rfl) (Nat.le_of_ble_eq_true rfl) ?_
      exact W.iret (v := (-1)) hx hb hr (fun t ht hW => ⟨⟨(-1), (tnodesF, (-1)), rfl, ⟨rfl, (hG.trans hG0.symm)⟩, by rw [ht]; exact hP9, hD9⟩, hS.F ht⟩) hS.2.2 dX10_store_24
set_option maxRecDepth 100000 in
def fX10_leave (tpassesS : Int32) (tpassesF : Nat → Int32) (tjarsS : Int32) (tjarsF : Nat → Int32) (p0 : Int32) (p1 : Int32) : (Nat → Int32) × Int32 := bnd (fX9_nodeOf tjarsS tjarsF p0) (fun (r3 : Int32) => if r3 = (-1) then ((tjarsF, 0)) else (bnd (fX9_otherEnd tpassesS tpassesF p1 r3) (fun (r11 : Int32) => if r11 = (-1) then ((tjarsF, 0)) else (bnd (fX6_put_144 9 tjarsF p0 1 12) (fun (o20 : Nat → Int32) => bnd (fX6_put_144 9 o20 p0 2 p1) (fun (o26 : Nat → Int32) => bnd (fX6_put_144 9 o26 p0 3 0) (fun (o32 : Nat → Int32) => bnd (fX6_put_144 9 o32 p0 4 r11) (fun (o38 : Nat → Int32) => (o38, 1)))))))))
set_option maxHeartbeats 4000000 in
set_option maxRecDepth 100000 in
theorem mX10_leave (l : Launch) (dC : Nat → ClassId) (dI : Nat → Nat → Nat) (kA : Nat → ClassId) (sz : Nat) (x0 : Nat) (z0 : Nat) (xi : Nat) (xt : Nat) (xq : Nat) (rdr : Nat) (h0 : Nat) (t0 : Nat) (q0 : Nat) (v0 : Nat) (m0 : Nat) (w0 : Nat) (x_tl : Int32) (x_lc : Int32) (tnodes : Nat) (tpasses : Nat) (tpassesA : Nat) (tpassesS : Int32) (tpassesF : Nat → Int32) (tjars : Nat) (tjarsA : Nat) (tjarsS : Int32) (tjarsF : Nat → Int32) (torders : Nat) (tfeasts : Nat) (tway : Nat) (tws : Int32) (tnow : Int32) (tfm : Int32) (tx : Int32) (p0 : Int32) (p1 : Int32)  : Met l yX10_leave wsX10_leave ({ frames := 2, cells := 0, slots := 0, locals := 47 }) (zPc dC dI kA sz [.ref x0, .int p0, .int p1] [(x0, .inr (10, [.ref w0, .ref z0, .ref xi, .ref xt, .int x_tl, .ref xq, .int x_lc, .ref rdr, .ref h0, .ref t0, .ref q0, .ref v0, .ref m0])), (w0, .inr (9, [.ref tnodes, .ref tpasses, .ref tjars, .ref torders, .ref tfeasts, .ref tway, .int tws, .int tnow, .int tfm, .int tx])), (tpasses, .inr (6, [.int 5, .ref tpassesA, .int tpassesS])), (tpassesA, .inl (kA 0, 100, .inl tpassesF)), (tjars, .inr (6, [.int 9, .ref tjarsA, .int tjarsS])), (tjarsA, .inl (kA 0, 144, .inl tjarsF))]) (va_Qi (fun (r : Int32) (u : (Nat → Int32) × Int32) => r = u.2 ∧ (u.1, u.2) = fX10_leave tpassesS tpassesF tjarsS tjarsF p0 p1 ∧ (u.2 = 0 ∨ u.2 = 1)) (zB dC dI (va_A [(x0, .inr (10, [.ref w0, .ref z0, .ref xi, .ref xt, .int x_tl, .ref xq, .int x_lc, .ref rdr, .ref h0, .ref t0, .ref q0, .ref v0, .ref m0])), (w0, .inr (9, [.ref tnodes, .ref tpasses, .ref tjars, .ref torders, .ref tfeasts, .ref tway, .int tws, .int tnow, .int tfm, .int tx])), (tpasses, .inr (6, [.int 5, .ref tpassesA, .int tpassesS])), (tpassesA, .inl (kA 0, 100, .inl tpassesF)), (tjars, .inr (6, [.int 9, .ref tjarsA, .int tjarsS])), (tjarsA, .inl (kA 0, 144, .inl tjarsF))] sz) (fun (u : (Nat → Int32) × Int32) => [(x0, .inr (10, [.ref w0, .ref z0, .ref xi, .ref xt, .int x_tl, .ref xq, .int x_lc, .ref rdr, .ref h0, .ref t0, .ref q0, .ref v0, .ref m0])), (w0, .inr (9, [.ref tnodes, .ref tpasses, .ref tjars, .ref torders, .ref tfeasts, .ref tway, .int tws, .int tnow, .int tfm, .int tx])), (tpasses, .inr (6, [.int 5, .ref tpassesA, .int tpassesS])), (tpassesA, .inl (kA 0, 100, .inl tpassesF)), (tjars, .inr (6, [.int 9, .ref tjarsA, .int tjarsS])), (tjarsA, .inl (kA 0, 144, .inl u.1))])) (va_A [(x0, .inr (10, [.ref w0, .ref z0, .ref xi, .ref xt, .int x_tl, .ref xq, .int x_lc, .ref rdr, .ref h0, .ref t0, .ref q0, .ref v0, .ref m0])), (w0, .inr (9, [.ref tnodes, .ref tpasses, .ref tjars, .ref torders, .ref tfeasts, .ref tway, .int tws, .int tnow, .int tfm, .int tx])), (tpasses, .inr (6, [.int 5, .ref tpassesA, .int tpassesS])), (tpassesA, .inl (kA 0, 100, .inl tpassesF)), (tjars, .inr (6, [.int 9, .ref tjarsA, .int tjarsS])), (tjarsA, .inl (kA 0, 144, .inl tjarsF))] sz)) 0 0 (va_A [(x0, .inr (10, [.ref w0, .ref z0, .ref xi, .ref xt, .int x_tl, .ref xq, .int x_lc, .ref rdr, .ref h0, .ref t0, .ref q0, .ref v0, .ref m0])), (w0, .inr (9, [.ref tnodes, .ref tpasses, .ref tjars, .ref torders, .ref tfeasts, .ref tway, .int tws, .int tnow, .int tfm, .int tx])), (tpasses, .inr (6, [.int 5, .ref tpassesA, .int tpassesS])), (tpassesA, .inl (kA 0, 100, .inl tpassesF)), (tjars, .inr (6, [.int 9, .ref tjarsA, .int tjarsS])), (tjarsA, .inl (kA 0, 144, .inl tjarsF))] sz) := by
  refine Met.ofW (cc := cX10_leave) (maxL := 5) (ret := (some .boolean)) pnX10 rfl ?_
  intro p e s m args below meth c s₁ B hml hv
  obtain ⟨rfl, hsz, hP, hK, hD0⟩ := hv
  have hx := B.exec
  have hb := B.bytes
  have hr := B.returns
  have hts := atoms_spec (ws := wsX10_leave) B.pre
  have hown : s.vm.findClass RX10 = some m.cls := findClass_of_methodNamed B.named
  have hlocks := B.notSynchronized
  subst hsz
  have hD := hD0.self (sz := s.heap.size)
  generalize hAe : va_A [(x0, .inr (10, [.ref w0, .ref z0, .ref xi, .ref xt, .int x_tl, .ref xq, .int x_lc, .ref rdr, .ref h0, .ref t0, .ref q0, .ref v0, .ref m0])), (w0, .inr (9, [.ref tnodes, .ref tpasses, .ref tjars, .ref torders, .ref tfeasts, .ref tway, .int tws, .int tnow, .int tfm, .int tx])), (tpasses, .inr (6, [.int 5, .ref tpassesA, .int tpassesS])), (tpassesA, .inl (kA 0, 100, .inl tpassesF)), (tjars, .inr (6, [.int 9, .ref tjarsA, .int tjarsS])), (tjarsA, .inl (kA 0, 144, .inl tjarsF))] s.heap.size = A at hD ⊢
  have hA : ∀ q : Nat, s.heap.size ≤ q → A q := zA_of hAe
  have hS : va_S A s.heap s.heap [] := va_S.rf
  have hP : va_P (dC, dI) vwCl [(x0, .inr (10, [.ref w0, .ref z0, .ref xi, .ref xt, .int x_tl, .ref xq, .int x_lc, .ref rdr, .ref h0, .ref t0, .ref q0, .ref v0, .ref m0])), (w0, .inr (9, [.ref tnodes, .ref tpasses, .ref tjars, .ref torders, .ref tfeasts, .ref tway, .int tws, .int tnow, .int tfm, .int tx])), (tpasses, .inr (6, [.int 5, .ref tpassesA, .int tpassesS])), (tpassesA, .inl (kA 0, 100, .inl tpassesF)), (tjars, .inr (6, [.int 9, .ref tjarsA, .int tjarsS])), (tjarsA, .inl (kA 0, 144, .inl tjarsF))] s.heap := hP
  have hl := lv_entry ([.ref x0, .int p0, .int p1]) (n := 5) (Nat.le_of_ble_eq_true rfl)
  rw [lg_entry_eq]
  generalize (lg_sl ([.ref x0, .int p0, .int p1]) ++ List.replicate (5 - (lg_sl ([.ref x0, .int p0, .int p1])).length) Slot.unset).toArray = ls at hl ⊢
  have hl : lv_has ls 5 [(0, .ref x0), (1, .int p0), (2, .int p1)] := hl
  obtain ⟨G, hG0⟩ : ∃ G : (Nat → Int32) × Int32, fX10_leave tpassesS tpassesF tjarsS tjarsF p0 p1 = G := ⟨_, rfl⟩
  have hG := hG0
  unfold fX10_leave at hG
  refine lv_aload_n hx hb dX10_leave_0 rfl (lv_at hl 0 rfl) ?_
  refine va_get (D := (dC, dI)) (ci := 10) (v := .ref w0) (C := RX10) (T := TX10) (N := 13) hx hb hts iX10_leave_X10 hown hK.1 hP 0 gz0 vcz10 0 (by decide) (kX10_leave_1 hts) (fun _ h9 => h9) gz0 dX10_leave_1 ?_
  refine lv_iload_n hx hb dX10_leave_4 rfl (lv_at hl 1 rfl) ?_
  refine z_i (wr := [(x0, .inr (10, [.ref w0, .ref z0, .ref xi, .ref xt, .int x_tl, .ref xq, .int x_lc, .ref rdr, .ref h0, .ref t0, .ref q0, .ref v0, .ref m0])), (tpasses, .inr (6, [.int 5, .ref tpassesA, .int tpassesS])), (tpassesA, .inl (kA 0, 100, .inl tpassesF))]) (va_runV (As := [.int p0]) (rest := []) ⟨hx, hb, hml, hown, hts⟩ (mX9_nodeOf l dC dI kA _ w0 tnodes tpasses tjars tjarsA tjarsS tjarsF torders tfeasts tway tws tnow tfm tx p0) (cwV 1 hts gX10_leave_X9_nodeOf rfl rfl rfl ⟨rfl, hdX9_nodeOf⟩ ⟨(Nat.le_of_ble_eq_true rfl), (Nat.le_of_ble_eq_true rfl)⟩) ⟨zPc.blind, va_recv (q := (RX9, TX9, 10)) hK.1 hP (ci := 9) (q0 := 1) rfl rfl, zPre hK (hP.sub [1, 4, 5] rfl) (hD.sub [1, 4, 5] (by decide) rfl)⟩ rfl rfl hl.1 rfl (lv_room (Nat.le_of_ble_eq_true rfl)) dX10_leave_5 ⟨(Nat.le_of_ble_eq_true rfl), (Nat.le_of_ble_eq_true rfl)⟩) hP hD hS hA [1, 4, 5] [0, 2, 3] rfl rfl (by decide) (by decide) (fun r3 u1 H locs hw2 hP hD hS => ?_)
  obtain ⟨er6, hp5⟩ := hw2
  have er6 : r3 = u1 := er6
  subst er6
  have er3 : r3 = fX9_nodeOf tjarsS tjarsF p0 := hp5
  have hG := zbnd hG er3
  obtain ⟨hP, hD⟩ := z_re (L := [(x0, .inr (10, [.ref w0, .ref z0, .ref xi, .ref xt, .int x_tl, .ref xq, .int x_lc, .ref rdr, .ref h0, .ref t0, .ref q0, .ref v0, .ref m0])), (tpasses, .inr (6, [.int 5, .ref tpassesA, .int tpassesS])), (tpassesA, .inl (kA 0, 100, .inl tpassesF)), (w0, .inr (9, [.ref tnodes, .ref tpasses, .ref tjars, .ref torders, .ref tfeasts, .ref tway, .int tws, .int tnow, .int tfm, .int tx])), (tjars, .inr (6, [.int 9, .ref tjarsA, .int tjarsS])), (tjarsA, .inl (kA 0, 144, .inl tjarsF))]) hP hD
  refine lv_istore_n (lv' := [(3, .int r3), (0, .ref x0), (1, .int p0), (2, .int p1)]) hx hb dX10_leave_8 rfl hl (by decide) rfl (fun ls hl => ?_)
  refine lv_iload_n hx hb dX10_leave_9 rfl (lv_at hl 0 rfl) ?_
  refine lv_iconst (v := (-1)) hx hb dX10_leave_10 (by decide) ?_
  refine lv_icmp_ne (tgt := 18) hx hb dX10_leave_11 (by decide) (fun c_8 => ?_) (fun c_8 => ?_)
  · have hG := zelse hG c_8
    refine lv_aload_n hx hb dX10_leave_18 rfl (lv_at hl 1 rfl) ?_
    refine va_get (D := (dC, dI)) (ci := 10) (v := .ref w0) (C := RX10) (T := TX10) (N := 13) hx hb hts iX10_leave_X10 hown hK.1 hP 0 gz0 vcz10 0 (by decide) (kX10_leave_1 hts) (fun _ h9 => h9) gz0 dX10_leave_19 ?_
    refine lv_iload_n hx hb dX10_leave_22 rfl (lv_at hl 3 rfl) ?_
    refine lv_iload_n hx hb dX10_leave_23 rfl (lv_at hl 0 rfl) ?_
    refine z_i (wr := [(x0, .inr (10, [.ref w0, .ref z0, .ref xi, .ref xt, .int x_tl, .ref xq, .int x_lc, .ref rdr, .ref h0, .ref t0, .ref q0, .ref v0, .ref m0])), (tjars, .inr (6, [.int 9, .ref tjarsA, .int tjarsS])), (tjarsA, .inl (kA 0, 144, .inl tjarsF))]) (va_runV (As := [.int p1, .int r3]) (rest := []) ⟨hx, hb, hml, hown, hts⟩ (mX9_otherEnd l dC dI kA _ w0 tnodes tpasses tpassesA tpassesS tpassesF tjars torders tfeasts tway tws tnow tfm tx p1 r3) (cwV 2 hts gX10_leave_X9_otherEnd rfl rfl rfl ⟨rfl, hdX9_otherEnd⟩ ⟨(Nat.le_of_ble_eq_true rfl), (Nat.le_of_ble_eq_true rfl)⟩) ⟨zPc.blind, va_recv (q := (RX9, TX9, 10)) hK.1 hP (ci := 9) (q0 := 3) rfl rfl, zPre hK (hP.sub [3, 1, 2] rfl) (hD.sub [3, 1, 2] (by decide) rfl)⟩ rfl rfl hl.1 rfl (lv_room (Nat.le_of_ble_eq_true rfl)) dX10_leave_24 ⟨(Nat.le_of_ble_eq_true rfl), (Nat.le_of_ble_eq_true rfl)⟩) hP hD hS hA [3, 1, 2] [0, 4, 5] rfl rfl (by decide) (by decide) (fun r11 u9 H locs hw10 hP hD hS => ?_)
    obtain ⟨er14, hp13⟩ := hw10
    have er14 : r11 = u9 := er14
    subst er14
    have er11 : r11 = fX9_otherEnd tpassesS tpassesF p1 r3 := hp13
    have hG := zbnd hG er11
    obtain ⟨hP, hD⟩ := z_re (L := [(x0, .inr (10, [.ref w0, .ref z0, .ref xi, .ref xt, .int x_tl, .ref xq, .int x_lc, .ref rdr, .ref h0, .ref t0, .ref q0, .ref v0, .ref m0])), (tjars, .inr (6, [.int 9, .ref tjarsA, .int tjarsS])), (tjarsA, .inl (kA 0, 144, .inl tjarsF)), (w0, .inr (9, [.ref tnodes, .ref tpasses, .ref tjars, .ref torders, .ref tfeasts, .ref tway, .int tws, .int tnow, .int tfm, .int tx])), (tpasses, .inr (6, [.int 5, .ref tpassesA, .int tpassesS])), (tpassesA, .inl (kA 0, 100, .inl tpassesF))]) hP hD
    refine lv_istore (lv' := [(4, .int r11), (3, .int r3), (0, .ref x0), (1, .int p0), (2, .int p1)]) hx hb dX10_leave_27 hl (by decide) rfl (fun ls hl => ?_)
    refine lv_iload hx hb dX10_leave_29 (lv_at hl 0 rfl) ?_
    refine lv_iconst (v := (-1)) hx hb dX10_leave_31 (by decide) ?_
    refine lv_icmp_ne (tgt := 37) hx hb dX10_leave_32 (by decide) (fun c_16 => ?_) (fun c_16 => ?_)
    · have hG := zelse hG c_16
      refine lv_aload_n hx hb dX10_leave_37 rfl (lv_at hl 2 rfl) ?_
      refine va_get (D := (dC, dI)) (ci := 10) (v := .ref w0) (C := RX10) (T := TX10) (N := 13) hx hb hts iX10_leave_X10 hown hK.1 hP 0 gz0 vcz10 0 (by decide) (kX10_leave_1 hts) (fun _ h9 => h9) gz0 dX10_leave_38 ?_
      refine va_get (D := (dC, dI)) (ci := 9) (v := .ref tjars) (C := RX9) (T := TX9) (N := 10) hx hb hts iX10_leave_X9 hown hK.1 hP 3 gz3 vcz9 2 (by decide) (kX10_leave_2 hts) (fun _ h9 => h9) gz2 dX10_leave_41 ?_
      refine lv_iload_n hx hb dX10_leave_44 rfl (lv_at hl 3 rfl) ?_
      refine lv_iconst (v := 1) hx hb dX10_leave_45 (by decide) ?_
      refine lv_bipush (v := 12) hx hb dX10_leave_46 (by decide) ?_
      refine z_v (wr := [(x0, .inr (10, [.ref w0, .ref z0, .ref xi, .ref xt, .int x_tl, .ref xq, .int x_lc, .ref rdr, .ref h0, .ref t0, .ref q0, .ref v0, .ref m0])), (w0, .inr (9, [.ref tnodes, .ref tpasses, .ref tjars, .ref torders, .ref tfeasts, .ref tway, .int tws, .int tnow, .int tfm, .int tx])), (tpasses, .inr (6, [.int 5, .ref tpassesA, .int tpassesS])), (tpassesA, .inl (kA 0, 100, .inl tpassesF))]) (va_runV (As := [.int p0, .int 1, .int 12]) (rest := []) ⟨hx, hb, hml, hown, hts⟩ (mX6_put_144 l dC dI kA _ tjars tjarsA 9 tjarsS tjarsF p0 1 12) (cwV 3 hts gX10_leave_X6_put rfl rfl rfl ⟨rfl, hdX6_put⟩ ⟨(Nat.le_of_ble_eq_true rfl), (Nat.le_of_ble_eq_true rfl)⟩) ⟨zPc.blind, va_recv (q := (RX6, TX6, 3)) hK.1 hP (ci := 6) (q0 := 1) rfl rfl, zPre hK (hP.sub [1, 2] rfl) (hD.sub [1, 2] (by decide) rfl)⟩ rfl rfl hl.1 rfl (lv_room (Nat.le_of_ble_eq_true rfl)) dX10_leave_48 ⟨(Nat.le_of_ble_eq_true rfl), (Nat.le_of_ble_eq_true rfl)⟩) hP hD hS hA [1, 2] [0, 3, 4, 5] rfl rfl (by decide) (by decide) (fun u17 H locs hw18 hP hD hS => ?_)
      obtain ⟨o20, rfl⟩ : ∃ z, z = u17 := ⟨_, rfl⟩
      have hp21 := hw18
      have eo20 : o20 = fX6_put_144 9 tjarsF p0 1 12 := hp21
      have hG := zbnd hG eo20
      obtain ⟨hP, hD⟩ := z_re (L := [(x0, .inr (10, [.ref w0, .ref z0, .ref xi, .ref xt, .int x_tl, .ref xq, .int x_lc, .ref rdr, .ref h0, .ref t0, .ref q0, .ref v0, .ref m0])), (w0, .inr (9, [.ref tnodes, .ref tpasses, .ref tjars, .ref torders, .ref tfeasts, .ref tway, .int tws, .int tnow, .int tfm, .int tx])), (tpasses, .inr (6, [.int 5, .ref tpassesA, .int tpassesS])), (tpassesA, .inl (kA 0, 100, .inl tpassesF)), (tjars, .inr (6, [.int 9, .ref tjarsA, .int tjarsS])), (tjarsA, .inl (kA 0, 144, .inl o20))]) hP hD
      refine lv_aload_n hx hb dX10_leave_51 rfl (lv_at hl 2 rfl) ?_
      refine va_get (D := (dC, dI)) (ci := 10) (v := .ref w0) (C := RX10) (T := TX10) (N := 13) hx hb hts iX10_leave_X10 hown hK.1 hP 0 gz0 vcz10 0 (by decide) (kX10_leave_1 hts) (fun _ h9 => h9) gz0 dX10_leave_52 ?_
      refine va_get (D := (dC, dI)) (ci := 9) (v := .ref tjars) (C := RX9) (T := TX9) (N := 10) hx hb hts iX10_leave_X9 hown hK.1 hP 1 gz1 vcz9 2 (by decide) (kX10_leave_2 hts) (fun _ h9 => h9) gz2 dX10_leave_55 ?_
      refine lv_iload_n hx hb dX10_leave_58 rfl (lv_at hl 3 rfl) ?_
      refine lv_iconst (v := 2) hx hb dX10_leave_59 (by decide) ?_
      refine lv_iload_n hx hb dX10_leave_60 rfl (lv_at hl 4 rfl) ?_
      refine z_v (wr := [(x0, .inr (10, [.ref w0, .ref z0, .ref xi, .ref xt, .int x_tl, .ref xq, .int x_lc, .ref rdr, .ref h0, .ref t0, .ref q0, .ref v0, .ref m0])), (w0, .inr (9, [.ref tnodes, .ref tpasses, .ref tjars, .ref torders, .ref tfeasts, .ref tway, .int tws, .int tnow, .int tfm, .int tx])), (tpasses, .inr (6, [.int 5, .ref tpassesA, .int tpassesS])), (tpassesA, .inl (kA 0, 100, .inl tpassesF))]) (va_runV (As := [.int p0, .int 2, .int p1]) (rest := []) ⟨hx, hb, hml, hown, hts⟩ (mX6_put_144 l dC dI kA _ tjars tjarsA 9 tjarsS o20 p0 2 p1) (cwV 3 hts gX10_leave_X6_put rfl rfl rfl ⟨rfl, hdX6_put⟩ ⟨(Nat.le_of_ble_eq_true rfl), (Nat.le_of_ble_eq_true rfl)⟩) ⟨zPc.blind, va_recv (q := (RX6, TX6, 3)) hK.1 hP (ci := 6) (q0 := 4) rfl rfl, zPre hK (hP.sub [4, 5] rfl) (hD.sub [4, 5] (by decide) rfl)⟩ rfl rfl hl.1 rfl (lv_room (Nat.le_of_ble_eq_true rfl)) dX10_leave_61 ⟨(Nat.le_of_ble_eq_true rfl), (Nat.le_of_ble_eq_true rfl)⟩) hP hD hS hA [4, 5] [0, 1, 2, 3] rfl rfl (by decide) (by decide) (fun u23 H locs hw24 hP hD hS => ?_)
      obtain ⟨o26, rfl⟩ : ∃ z, z = u23 := ⟨_, rfl⟩
      have hp27 := hw24
      have eo26 : o26 = fX6_put_144 9 o20 p0 2 p1 := hp27
      have hG := zbnd hG eo26
      obtain ⟨hP, hD⟩ := z_re (L := [(x0, .inr (10, [.ref w0, .ref z0, .ref xi, .ref xt, .int x_tl, .ref xq, .int x_lc, .ref rdr, .ref h0, .ref t0, .ref q0, .ref v0, .ref m0])), (w0, .inr (9, [.ref tnodes, .ref tpasses, .ref tjars, .ref torders, .ref tfeasts, .ref tway, .int tws, .int tnow, .int tfm, .int tx])), (tpasses, .inr (6, [.int 5, .ref tpassesA, .int tpassesS])), (tpassesA, .inl (kA 0, 100, .inl tpassesF)), (tjars, .inr (6, [.int 9, .ref tjarsA, .int tjarsS])), (tjarsA, .inl (kA 0, 144, .inl o26))]) hP hD
      refine lv_aload_n hx hb dX10_leave_64 rfl (lv_at hl 2 rfl) ?_
      refine va_get (D := (dC, dI)) (ci := 10) (v := .ref w0) (C := RX10) (T := TX10) (N := 13) hx hb hts iX10_leave_X10 hown hK.1 hP 0 gz0 vcz10 0 (by decide) (kX10_leave_1 hts) (fun _ h9 => h9) gz0 dX10_leave_65 ?_
      refine va_get (D := (dC, dI)) (ci := 9) (v := .ref tjars) (C := RX9) (T := TX9) (N := 10) hx hb hts iX10_leave_X9 hown hK.1 hP 1 gz1 vcz9 2 (by decide) (kX10_leave_2 hts) (fun _ h9 => h9) gz2 dX10_leave_68 ?_
      refine lv_iload_n hx hb dX10_leave_71 rfl (lv_at hl 3 rfl) ?_
      refine lv_iconst (v := 3) hx hb dX10_leave_72 (by decide) ?_
      refine lv_iconst (v := 0) hx hb dX10_leave_73 (by decide) ?_
      refine z_v (wr := [(x0, .inr (10, [.ref w0, .ref z0, .ref xi, .ref xt, .int x_tl, .ref xq, .int x_lc, .ref rdr, .ref h0, .ref t0, .ref q0, .ref v0, .ref m0])), (w0, .inr (9, [.ref tnodes, .ref tpasses, .ref tjars, .ref torders, .ref tfeasts, .ref tway, .int tws, .int tnow, .int tfm, .int tx])), (tpasses, .inr (6, [.int 5, .ref tpassesA, .int tpassesS])), (tpassesA, .inl (kA 0, 100, .inl tpassesF))]) (va_runV (As := [.int p0, .int 3, .int 0]) (rest := []) ⟨hx, hb, hml, hown, hts⟩ (mX6_put_144 l dC dI kA _ tjars tjarsA 9 tjarsS o26 p0 3 0) (cwV 3 hts gX10_leave_X6_put rfl rfl rfl ⟨rfl, hdX6_put⟩ ⟨(Nat.le_of_ble_eq_true rfl), (Nat.le_of_ble_eq_true rfl)⟩) ⟨zPc.blind, va_recv (q := (RX6, TX6, 3)) hK.1 hP (ci := 6) (q0 := 4) rfl rfl, zPre hK (hP.sub [4, 5] rfl) (hD.sub [4, 5] (by decide) rfl)⟩ rfl rfl hl.1 rfl (lv_room (Nat.le_of_ble_eq_true rfl)) dX10_leave_74 ⟨(Nat.le_of_ble_eq_true rfl), (Nat.le_of_ble_eq_true rfl)⟩) hP hD hS hA [4, 5] [0, 1, 2, 3] rfl rfl (by decide) (by decide) (fun u29 H locs hw30 hP hD hS => ?_)
      obtain ⟨o32, rfl⟩ : ∃ z, z = u29 := ⟨_, rfl⟩
      have hp33 := hw30
      have eo32 : o32 = fX6_put_144 9 o26 p0 3 0 := hp33
      have hG := zbnd hG eo32
      obtain ⟨hP, hD⟩ := z_re (L := [(x0, .inr (10, [.ref w0, .ref z0, .ref xi, .ref xt, .int x_tl, .ref xq, .int x_lc, .ref rdr, .ref h0, .ref t0, .ref q0, .ref v0, .ref m0])), (w0, .inr (9, [.ref tnodes, .ref tpasses, .ref tjars, .ref torders, .ref tfeasts, .ref tway, .int tws, .int tnow, .int tfm, .int tx])), (tpasses, .inr (6, [.int 5, .ref tpassesA, .int tpassesS])), (tpassesA, .inl (kA 0, 100, .inl tpassesF)), (tjars, .inr (6, [.int 9, .ref tjarsA, .int tjarsS])), (tjarsA, .inl (kA 0, 144, .inl o32))]) hP hD
      refine lv_aload_n hx hb dX10_leave_77 rfl (lv_at hl 2 rfl) ?_
      refine va_get (D := (dC, dI)) (ci := 10) (v := .ref w0) (C := RX10) (T := TX10) (N := 13) hx hb hts iX10_leave_X10 hown hK.1 hP 0 gz0 vcz10 0 (by decide) (kX10_leave_1 hts) (fun _ h9 => h9) gz0 dX10_leave_78 ?_
      refine va_get (D := (dC, dI)) (ci := 9) (v := .ref tjars) (C := RX9) (T := TX9) (N := 10) hx hb hts iX10_leave_X9 hown hK.1 hP 1 gz1 vcz9 2 (by decide) (kX10_leave_2 hts) (fun _ h9 => h9) gz2 dX10_leave_81 ?_
      refine lv_iload_n hx hb dX10_leave_84 rfl (lv_at hl 3 rfl) ?_
      refine lv_iconst (v := 4) hx hb dX10_leave_85 (by decide) ?_
      refine lv_iload hx hb dX10_leave_86 (lv_at hl 0 rfl) ?_
      refine z_v (wr := [(x0, .inr (10, [.ref w0, .ref z0, .ref xi, .ref xt, .int x_tl, .ref xq, .int x_lc, .ref rdr, .ref h0, .ref t0, .ref q0, .ref v0, .ref m0])), (w0, .inr (9, [.ref tnodes, .ref tpasses, .ref tjars, .ref torders, .ref tfeasts, .ref tway, .int tws, .int tnow, .int tfm, .int tx])), (tpasses, .inr (6, [.int 5, .ref tpassesA, .int tpassesS])), (tpassesA, .inl (kA 0, 100, .inl tpassesF))]) (va_runV (As := [.int p0, .int 4, .int r11]) (rest := []) ⟨hx, hb, hml, hown, hts⟩ (mX6_put_144 l dC dI kA _ tjars tjarsA 9 tjarsS o32 p0 4 r11) (cwV 3 hts gX10_leave_X6_put rfl rfl rfl ⟨rfl, hdX6_put⟩ ⟨(Nat.le_of_ble_eq_true rfl), (Nat.le_of_ble_eq_true rfl)⟩) ⟨zPc.blind, va_recv (q := (RX6, TX6, 3)) hK.1 hP (ci := 6) (q0 := 4) rfl rfl, zPre hK (hP.sub [4, 5] rfl) (hD.sub [4, 5] (by decide) rfl)⟩ rfl rfl hl.1 rfl (lv_room (Nat.le_of_ble_eq_true rfl)) dX10_leave_88 ⟨(Nat.le_of_ble_eq_true rfl), (Nat.le_of_ble_eq_true rfl)⟩) hP hD hS hA [4, 5] [0, 1, 2, 3] rfl rfl (by decide) (by decide) (fun u35 H locs hw36 hP hD hS => ?_)
      obtain ⟨o38, rfl⟩ : ∃ z, z = u35 := ⟨_, rfl⟩
      have hp39 := hw36
      have eo38 : o38 = fX6_put_144 9 o32 p0 4 r11 := hp39
      have hG := zbnd hG eo38
      obtain ⟨hP, hD⟩ := z_re (L := [(x0, .inr (10, [.ref w0, .ref z0, .ref xi, .ref xt, .int x_tl, .ref xq, .int x_lc, .ref rdr, .ref h0, .ref t0, .ref q0, .ref v0, .ref m0])), (w0, .inr (9, [.ref tnodes, .ref tpasses, .ref tjars, .ref torders, .ref tfeasts, .ref tway, .int tws, .int tnow, .int tfm, .int tx])), (tpasses, .inr (6, [.int 5, .ref tpassesA, .int tpassesS])), (tpassesA, .inl (kA 0, 100, .inl tpassesF)), (tjars, .inr (6, [.int 9, .ref tjarsA, .int tjarsS])), (tjarsA, .inl (kA 0, 144, .inl o38))]) hP hD
      refine lv_iconst (v := 1) hx hb dX10_leave_91 (by decide) ?_
      obtain ⟨hP9, hD9⟩ := z_sb (L' := [(x0, .inr (10, [.ref w0, .ref z0, .ref xi, .ref xt, .int x_tl, .ref xq, .int x_lc, .ref rdr, .ref h0, .ref t0, .ref q0, .ref v0, .ref m0])), (w0, .inr (9, [.ref tnodes, .ref tpasses, .ref tjars, .ref torders, .ref tfeasts, .ref tway, .int tws, .int tnow, .int tfm, .int tx])), (tpasses, .inr (6, [.int 5, .ref tpassesA, .int tpassesS])), (tpassesA, .inl (kA 0, 100, .inl tpassesF)), (tjars, .inr (6, [.int 9, .ref tjarsA, .int tjarsS])), (tjarsA, .inl (kA 0, 144, .inl o38))]) hP hD [0, 1, 2, 3, 4, 5] (by decide) rfl
      refine W.widen (k := 0) (n := 0) (Nat.le_of_ble_eq_true rfl) (Nat.le_of_ble_eq_true rfl) ?_
      exact W.zret (v := 1) hx hb hr rfl (fun t ht hW => ⟨⟨1, (o38, 1), rfl, ⟨rfl, (hG.trans hG0.symm), (Or.inr rfl)⟩, by rw [ht]; exact hP9, hD9⟩, hS.F ht⟩) hS.2.2 dX10_leave_92
    · have hG := zthen hG c_16
      refine lv_iconst (v := 0) hx hb dX10_leave_35 (by decide) ?_
      obtain ⟨hP9, hD9⟩ := z_sb (L' := [(x0, .inr (10, [.ref w0, .ref z0, .ref xi, .ref xt, .int x_tl, .ref xq, .int x_lc, .ref rdr, .ref h0, .ref t0, .ref q0, .ref v0, .ref m0])), (w0, .inr (9, [.ref tnodes, .ref tpasses, .ref tjars, .ref torders, .ref tfeasts, .ref tway, .int tws, .int tnow, .int tfm, .int tx])), (tpasses, .inr (6, [.int 5, .ref tpassesA, .int tpassesS])), (tpassesA, .inl (kA 0, 100, .inl tpassesF)), (tjars, .inr (6, [.int 9, .ref tjarsA, .int tjarsS])), (tjarsA, .inl (kA 0, 144, .inl tjarsF))]) hP hD [0, 3, 4, 5, 1, 2] (by decide) rfl
      refine W.widen (k := 0) (n := 0) (Nat.le_of_ble_eq_true rfl) (Nat.le_of_ble_eq_true rfl) ?_
      exact W.zret (v := 0) hx hb hr rfl (fun t ht hW => ⟨⟨0, (tjarsF, 0), rfl, ⟨rfl, (hG.trans hG0.symm), (Or.inl rfl)⟩, by rw [ht]; exact hP9, hD9⟩, hS.F ht⟩) hS.2.2 dX10_leave_36
  · have hG := zthen hG c_8
    refine lv_iconst (v := (-1)) hx hb dX10_leave_14 (by decide) ?_
    refine lv_goto (tgt := 27) hx hb dX10_leave_15 (by decide) ?_
    refine lv_istore (lv' := [(4, .int (-1)), (3, .int r3), (0, .ref x0), (1, .int p0), (2, .int p1)]) hx hb dX10_leave_27 hl (by decide) rfl (fun ls hl => ?_)
    refine lv_iload hx hb dX10_leave_29 (lv_at hl 0 rfl) ?_
    refine lv_iconst (v := (-1)) hx hb dX10_leave_31 (by decide) ?_
    refine lv_icmp_ne (tgt := 37) hx hb dX10_leave_32 (by decide) (fun c_41 => absurd (by decide) c_41) (fun _ => ?_)
    refine lv_iconst (v := 0) hx hb dX10_leave_35 (by decide) ?_
    obtain ⟨hP9, hD9⟩ := z_sb (L' := [(x0, .inr (10, [.ref w0, .ref z0, .ref xi, .ref xt, .int x_tl, .ref xq, .int x_lc, .ref rdr, .ref h0, .ref t0, .ref q0, .ref v0, .ref m0])), (w0, .inr (9, [.ref tnodes, .ref tpasses, .ref tjars, .ref torders, .ref tfeasts, .ref tway, .int tws, .int tnow, .int tfm, .int tx])), (tpasses, .inr (6, [.int 5, .ref tpassesA, .int tpassesS])), (tpassesA, .inl (kA 0, 100, .inl tpassesF)), (tjars, .inr (6, [.int 9, .ref tjarsA, .int tjarsS])), (tjarsA, .inl (kA 0, 144, .inl tjarsF))]) hP hD [0, 3, 1, 2, 4, 5] (by decide) rfl
    refine W.widen (k := 0) (n := 0) (Nat.le_of_ble_eq_true rfl) (Nat.le_of_ble_eq_true rfl) ?_
    exact W.zret (v := 0) hx hb hr rfl (fun t ht hW => ⟨⟨0, (tjarsF, 0), rfl, ⟨rfl, (hG.trans hG0.symm), (Or.inl rfl)⟩, by rw [ht]; exact hP9, hD9⟩, hS.F ht⟩) hS.2.2 dX10_leave_36
set_option maxRecDepth 100000 in
def fX10_at (tnodesS : Int32) (tnodesF : Nat → Int32) (tjarsS : Int32) (tjarsF : Nat → Int32) (tnow : Int32) (tfm : Int32) (p0 : Int32) (p1 : Int32) : Int32 := if (hs p0 tnodesS) = 0 then ((-1)) else (if (wi p1 3) = 0 then (if p1 = 4 then (bnd (fX9_monthAt tfm tnow) (fun (r20 : Int32) => bnd (fX9_hasSnow tnodesF p0 r20) (fun (r27 : Int32) => if r27 = 0 then (0) else (1)))) else (if p1 = 5 then (bnd (fX9_jarsAt tjarsS tjarsF p0) (fun (r13 : Int32) => r13)) else ((-1)))) else (bnd (fX6_get_48 4 tnodesF p0 p1) (fun (r36 : Int32) => r36)))
set_option maxHeartbeats 4000000 in
set_option maxRecDepth 100000 in
theorem mX10_at (l : Launch) (dC : Nat → ClassId) (dI : Nat → Nat → Nat) (kA : Nat → ClassId) (sz : Nat) (x0 : Nat) (z0 : Nat) (xi : Nat) (xt : Nat) (xq : Nat) (rdr : Nat) (h0 : Nat) (t0 : Nat) (q0 : Nat) (v0 : Nat) (m0 : Nat) (w0 : Nat) (x_tl : Int32) (x_lc : Int32) (tnodes : Nat) (tnodesA : Nat) (tnodesS : Int32) (tnodesF : Nat → Int32) (tpasses : Nat) (tjars : Nat) (tjarsA : Nat) (tjarsS : Int32) (tjarsF : Nat → Int32) (torders : Nat) (tfeasts : Nat) (tway : Nat) (tws : Int32) (tnow : Int32) (tfm : Int32) (tx : Int32) (p0 : Int32) (p1 : Int32)  : Met l yX10_at wsX10_at ({ frames := 2, cells := 0, slots := 0, locals := 46 }) (zPc dC dI kA sz [.ref x0, .int p0, .int p1] [(x0, .inr (10, [.ref w0, .ref z0, .ref xi, .ref xt, .int x_tl, .ref xq, .int x_lc, .ref rdr, .ref h0, .ref t0, .ref q0, .ref v0, .ref m0])), (w0, .inr (9, [.ref tnodes, .ref tpasses, .ref tjars, .ref torders, .ref tfeasts, .ref tway, .int tws, .int tnow, .int tfm, .int tx])), (tnodes, .inr (6, [.int 4, .ref tnodesA, .int tnodesS])), (tnodesA, .inl (kA 0, 48, .inl tnodesF)), (tjars, .inr (6, [.int 9, .ref tjarsA, .int tjarsS])), (tjarsA, .inl (kA 0, 144, .inl tjarsF))]) (va_Qi (fun (r : Int32) (u : Int32) => r = u ∧ u = fX10_at tnodesS tnodesF tjarsS tjarsF tnow tfm p0 p1) (zB dC dI (va_A [(x0, .inr (10, [.ref w0, .ref z0, .ref xi, .ref xt, .int x_tl, .ref xq, .int x_lc, .ref rdr, .ref h0, .ref t0, .ref q0, .ref v0, .ref m0])), (w0, .inr (9, [.ref tnodes, .ref tpasses, .ref tjars, .ref torders, .ref tfeasts, .ref tway, .int tws, .int tnow, .int tfm, .int tx])), (tnodes, .inr (6, [.int 4, .ref tnodesA, .int tnodesS])), (tnodesA, .inl (kA 0, 48, .inl tnodesF)), (tjars, .inr (6, [.int 9, .ref tjarsA, .int tjarsS])), (tjarsA, .inl (kA 0, 144, .inl tjarsF))] sz) (fun (u : Int32) => [(x0, .inr (10, [.ref w0, .ref z0, .ref xi, .ref xt, .int x_tl, .ref xq, .int x_lc, .ref rdr, .ref h0, .ref t0, .ref q0, .ref v0, .ref m0])), (w0, .inr (9, [.ref tnodes, .ref tpasses, .ref tjars, .ref torders, .ref tfeasts, .ref tway, .int tws, .int tnow, .int tfm, .int tx])), (tnodes, .inr (6, [.int 4, .ref tnodesA, .int tnodesS])), (tnodesA, .inl (kA 0, 48, .inl tnodesF)), (tjars, .inr (6, [.int 9, .ref tjarsA, .int tjarsS])), (tjarsA, .inl (kA 0, 144, .inl tjarsF))])) (va_A [(x0, .inr (10, [.ref w0, .ref z0, .ref xi, .ref xt, .int x_tl, .ref xq, .int x_lc, .ref rdr, .ref h0, .ref t0, .ref q0, .ref v0, .ref m0])), (w0, .inr (9, [.ref tnodes, .ref tpasses, .ref tjars, .ref torders, .ref tfeasts, .ref tway, .int tws, .int tnow, .int tfm, .int tx])), (tnodes, .inr (6, [.int 4, .ref tnodesA, .int tnodesS])), (tnodesA, .inl (kA 0, 48, .inl tnodesF)), (tjars, .inr (6, [.int 9, .ref tjarsA, .int tjarsS])), (tjarsA, .inl (kA 0, 144, .inl tjarsF))] sz)) 0 0 (va_A [(x0, .inr (10, [.ref w0, .ref z0, .ref xi, .ref xt, .int x_tl, .ref xq, .int x_lc, .ref rdr, .ref h0, .ref t0, .ref q0, .ref v0, .ref m0])), (w0, .inr (9, [.ref tnodes, .ref tpasses, .ref tjars, .ref torders, .ref tfeasts, .ref tway, .int tws, .int tnow, .int tfm, .int tx])), (tnodes, .inr (6, [.int 4, .ref tnodesA, .int tnodesS])), (tnodesA, .inl (kA 0, 48, .inl tnodesF)), (tjars, .inr (6, [.int 9, .ref tjarsA, .int tjarsS])), (tjarsA, .inl (kA 0, 144, .inl tjarsF))] sz) := by
  refine Met.ofW (cc := cX10_at) (maxL := 3) (ret := (some .int)) pnX10 rfl ?_
  intro p e s m args below meth c s₁ B hml hv
  obtain ⟨rfl, hsz, hP, hK, hD0⟩ := hv
  have hx := B.exec
  have hb := B.bytes
  have hr := B.returns
  have hts := atoms_spec (ws := wsX10_at) B.pre
  have hown : s.vm.findClass RX10 = some m.cls := findClass_of_methodNamed B.named
  have hlocks := B.notSynchronized
  subst hsz
  have hD := hD0.self (sz := s.heap.size)
  generalize hAe : va_A [(x0, .inr (10, [.ref w0, .ref z0, .ref xi, .ref xt, .int x_tl, .ref xq, .int x_lc, .ref rdr, .ref h0, .ref t0, .ref q0, .ref v0, .ref m0])), (w0, .inr (9, [.ref tnodes, .ref tpasses, .ref tjars, .ref torders, .ref tfeasts, .ref tway, .int tws, .int tnow, .int tfm, .int tx])), (tnodes, .inr (6, [.int 4, .ref tnodesA, .int tnodesS])), (tnodesA, .inl (kA 0, 48, .inl tnodesF)), (tjars, .inr (6, [.int 9, .ref tjarsA, .int tjarsS])), (tjarsA, .inl (kA 0, 144, .inl tjarsF))] s.heap.size = A at hD ⊢
  have hA : ∀ q : Nat, s.heap.size ≤ q → A q := zA_of hAe
  have hS : va_S A s.heap s.heap [] := va_S.rf
  have hP : va_P (dC, dI) vwCl [(x0, .inr (10, [.ref w0, .ref z0, .ref xi, .ref xt, .int x_tl, .ref xq, .int x_lc, .ref rdr, .ref h0, .ref t0, .ref q0, .ref v0, .ref m0])), (w0, .inr (9, [.ref tnodes, .ref tpasses, .ref tjars, .ref torders, .ref tfeasts, .ref tway, .int tws, .int tnow, .int tfm, .int tx])), (tnodes, .inr (6, [.int 4, .ref tnodesA, .int tnodesS])), (tnodesA, .inl (kA 0, 48, .inl tnodesF)), (tjars, .inr (6, [.int 9, .ref tjarsA, .int tjarsS])), (tjarsA, .inl (kA 0, 144, .inl tjarsF))] s.heap := hP
  have hl := lv_entry ([.ref x0, .int p0, .int p1]) (n := 3) (Nat.le_of_ble_eq_true rfl)
  rw [lg_entry_eq]
  generalize (lg_sl ([.ref x0, .int p0, .int p1]) ++ List.replicate (3 - (lg_sl ([.ref x0, .int p0, .int p1])).length) Slot.unset).toArray = ls at hl ⊢
  have hl : lv_has ls 3 [(0, .ref x0), (1, .int p0), (2, .int p1)] := hl
  obtain ⟨G, hG0⟩ : ∃ G : Int32, fX10_at tnodesS tnodesF tjarsS tjarsF tnow tfm p0 p1 = G := ⟨_, rfl⟩
  have hG := hG0
  unfold fX10_at at hG
  refine lv_aload_n hx hb dX10_at_0 rfl (lv_at hl 0 rfl) ?_
  refine va_get (D := (dC, dI)) (ci := 10) (v := .ref w0) (C := RX10) (T := TX10) (N := 13) hx hb hts iX10_at_X10 hown hK.1 hP 0 gz0 vcz10 0 (by decide) (kX10_at_1 hts) (fun _ h9 => h9) gz0 dX10_at_1 ?_
  refine va_get (D := (dC, dI)) (ci := 9) (v := .ref tnodes) (C := RX9) (T := TX9) (N := 10) hx hb hts iX10_at_X9 hown hK.1 hP 1 gz1 vcz9 0 (by decide) (kX10_at_2 hts) (fun _ h9 => h9) gz0 dX10_at_4 ?_
  refine lv_iload_n hx hb dX10_at_7 rfl (lv_at hl 1 rfl) ?_
  refine z_i (wr := [(x0, .inr (10, [.ref w0, .ref z0, .ref xi, .ref xt, .int x_tl, .ref xq, .int x_lc, .ref rdr, .ref h0, .ref t0, .ref q0, .ref v0, .ref m0])), (w0, .inr (9, [.ref tnodes, .ref tpasses, .ref tjars, .ref torders, .ref tfeasts, .ref tway, .int tws, .int tnow, .int tfm, .int tx])), (tnodesA, .inl (kA 0, 48, .inl tnodesF)), (tjars, .inr (6, [.int 9, .ref tjarsA, .int tjarsS])), (tjarsA, .inl (kA 0, 144, .inl tjarsF))]) (va_runV (As := [.int p0]) (rest := []) ⟨hx, hb, hml, hown, hts⟩ (mX6_has l dC dI kA _ tnodes tnodesA 4 tnodesS p0) (cwV 1 hts gX10_at_X6_has rfl rfl rfl ⟨rfl, hdX6_has⟩ ⟨(Nat.le_of_ble_eq_true rfl), (Nat.le_of_ble_eq_true rfl)⟩) ⟨zPc.blind, va_recv (q := (RX6, TX6, 3)) hK.1 hP (ci := 6) (q0 := 2) rfl rfl, zPre hK (hP.sub [2] rfl) (hD.sub [2] (by decide) rfl)⟩ rfl rfl hl.1 rfl (lv_room (Nat.le_of_ble_eq_true rfl)) dX10_at_8 ⟨(Nat.le_of_ble_eq_true rfl), (Nat.le_of_ble_eq_true rfl)⟩) hP hD hS hA [2] [0, 1, 3, 4, 5] rfl rfl (by decide) (by decide) (fun r3 u1 H locs hw2 hP hD hS => ?_)
  obtain rfl := hw2
  obtain ⟨hP, hD⟩ := z_re (L := [(x0, .inr (10, [.ref w0, .ref z0, .ref xi, .ref xt, .int x_tl, .ref xq, .int x_lc, .ref rdr, .ref h0, .ref t0, .ref q0, .ref v0, .ref m0])), (w0, .inr (9, [.ref tnodes, .ref tpasses, .ref tjars, .ref torders, .ref tfeasts, .ref tway, .int tws, .int tnow, .int tfm, .int tx])), (tnodesA, .inl (kA 0, 48, .inl tnodesF)), (tjars, .inr (6, [.int 9, .ref tjarsA, .int tjarsS])), (tjarsA, .inl (kA 0, 144, .inl tjarsF)), (tnodes, .inr (6, [.int 4, .ref tnodesA, .int tnodesS]))]) hP hD
  refine lv_if_ne (tgt := 16) hx hb dX10_at_11 (by decide) (fun c_4 => ?_) (fun c_4 => ?_)
  · have hG := zelse hG c_4
    have c_4a := hs_ne c_4
    have c_4b := c_4a.2
    have c_4a := c_4a.1
    refine lv_iload_n hx hb dX10_at_16 rfl (lv_at hl 2 rfl) ?_
    refine lv_iconst (v := 3) hx hb dX10_at_17 (by decide) ?_
    refine z_i (wr := [(x0, .inr (10, [.ref w0, .ref z0, .ref xi, .ref xt, .int x_tl, .ref xq, .int x_lc, .ref rdr, .ref h0, .ref t0, .ref q0, .ref v0, .ref m0])), (w0, .inr (9, [.ref tnodes, .ref tpasses, .ref tjars, .ref torders, .ref tfeasts, .ref tway, .int tws, .int tnow, .int tfm, .int tx])), (tnodesA, .inl (kA 0, 48, .inl tnodesF)), (tjars, .inr (6, [.int 9, .ref tjarsA, .int tjarsS])), (tjarsA, .inl (kA 0, 144, .inl tjarsF)), (tnodes, .inr (6, [.int 4, .ref tnodesA, .int tnodesS]))]) (va_runS (As := [.int p1, .int 3]) (rest := []) ⟨hx, hb, hml, hown, hts⟩ (mX10_within l dC dI kA _ p1 3) (va_cwS 2 hts gX10_at_X10_within rfl rfl rfl hdX10_within ⟨(Nat.le_of_ble_eq_true rfl), (Nat.le_of_ble_eq_true rfl)⟩) ⟨zPc.blind, zPre hK (hP.sub [] rfl) (hD.sub [] (by decide) rfl)⟩ rfl rfl hl.1 rfl (lv_room (Nat.le_of_ble_eq_true rfl)) dX10_at_18 ⟨(Nat.le_of_ble_eq_true rfl), (Nat.le_of_ble_eq_true rfl)⟩) hP hD hS hA [] [0, 1, 2, 3, 4, 5] rfl rfl (by decide) (by decide) (fun r7 u5 H locs hw6 hP hD hS => ?_)
    obtain rfl := hw6
    obtain ⟨hP, hD⟩ := z_re (L := [(x0, .inr (10, [.ref w0, .ref z0, .ref xi, .ref xt, .int x_tl, .ref xq, .int x_lc, .ref rdr, .ref h0, .ref t0, .ref q0, .ref v0, .ref m0])), (w0, .inr (9, [.ref tnodes, .ref tpasses, .ref tjars, .ref torders, .ref tfeasts, .ref tway, .int tws, .int tnow, .int tfm, .int tx])), (tnodesA, .inl (kA 0, 48, .inl tnodesF)), (tjars, .inr (6, [.int 9, .ref tjarsA, .int tjarsS])), (tjarsA, .inl (kA 0, 144, .inl tjarsF)), (tnodes, .inr (6, [.int 4, .ref tnodesA, .int tnodesS]))]) hP hD
    refine lv_if_eq (tgt := 37) hx hb dX10_at_21 (by decide) (fun c_8 => ?_) (fun c_8 => ?_)
    · have hG := zthen hG c_8
      refine lv_iload_n hx hb dX10_at_37 rfl (lv_at hl 2 rfl) ?_
      refine lv_iconst (v := 4) hx hb dX10_at_38 (by decide) ?_
      refine lv_icmp_ne (tgt := 73) hx hb dX10_at_39 (by decide) (fun c_9 => ?_) (fun c_9 => ?_)
      · have hG := zelse hG c_9
        refine lv_iload_n hx hb dX10_at_73 rfl (lv_at hl 2 rfl) ?_
        refine lv_iconst (v := 5) hx hb dX10_at_74 (by decide) ?_
        refine lv_icmp_ne (tgt := 89) hx hb dX10_at_75 (by decide) (fun c_10 => ?_) (fun c_10 => ?_)
        · have hG := zelse hG c_10
          refine lv_iconst (v := (-1)) hx hb dX10_at_89 (by decide) ?_
          obtain ⟨hP9, hD9⟩ := z_sb (L' := [(x0, .inr (10, [.ref w0, .ref z0, .ref xi, .ref xt, .int x_tl, .ref xq, .int x_lc, .ref rdr, .ref h0, .ref t0, .ref q0, .ref v0, .ref m0])), (w0, .inr (9, [.ref tnodes, .ref tpasses, .ref tjars, .ref torders, .ref tfeasts, .ref tway, .int tws, .int tnow, .int tfm, .int tx])), (tnodes, .inr (6, [.int 4, .ref tnodesA, .int tnodesS])), (tnodesA, .inl (kA 0, 48, .inl tnodesF)), (tjars, .inr (6, [.int 9, .ref tjarsA, .int tjarsS])), (tjarsA, .inl (kA 0, 144, .inl tjarsF))]) hP hD [0, 1, 5, 2, 3, 4] (by decide) rfl
          refine W.widen (k := 0) (n := 0) (Nat.le_of_ble_eq_true rfl) (Nat.le_of_ble_eq_true rfl) ?_
          exact W.iret (v := (-1)) hx hb hr (fun t ht hW => ⟨⟨(-1), ((-1)), rfl, ⟨rfl, (hG.trans hG0.symm)⟩, by rw [ht]; exact hP9, hD9⟩, hS.F ht⟩) hS.2.2 dX10_at_90
        · have hG := zthen hG c_10
          refine lv_aload_n hx hb dX10_at_78 rfl (lv_at hl 0 rfl) ?_
          refine va_get (D := (dC, dI)) (ci := 10) (v := .ref w0) (C := RX10) (T := TX10) (N := 13) hx hb hts iX10_at_X10 hown hK.1 hP 0 gz0 vcz10 0 (by decide) (kX10_at_1 hts) (fun _ h9 => h9) gz0 dX10_at_79 ?_
          refine lv_iload_n hx hb dX10_at_82 rfl (lv_at hl 1 rfl) ?_
          refine z_i (wr := [(x0, .inr (10, [.ref w0, .ref z0, .ref xi, .ref xt, .int x_tl, .ref xq, .int x_lc, .ref rdr, .ref h0, .ref t0, .ref q0, .ref v0, .ref m0])), (tnodesA, .inl (kA 0, 48, .inl tnodesF)), (tnodes, .inr (6, [.int 4, .ref tnodesA, .int tnodesS]))]) (va_runV (As := [.int p0]) (rest := []) ⟨hx, hb, hml, hown, hts⟩ (mX9_jarsAt l dC dI kA _ w0 tnodes tpasses tjars tjarsA tjarsS tjarsF torders tfeasts tway tws tnow tfm tx p0) (cwV 1 hts gX10_at_X9_jarsAt rfl rfl rfl ⟨rfl, hdX9_jarsAt⟩ ⟨(Nat.le_of_ble_eq_true rfl), (Nat.le_of_ble_eq_true rfl)⟩) ⟨zPc.blind, va_recv (q := (RX9, TX9, 10)) hK.1 hP (ci := 9) (q0 := 1) rfl rfl, zPre hK (hP.sub [1, 3, 4] rfl) (hD.sub [1, 3, 4] (by decide) rfl)⟩ rfl rfl hl.1 rfl (lv_room (Nat.le_of_ble_eq_true rfl)) dX10_at_83 ⟨(Nat.le_of_ble_eq_true rfl), (Nat.le_of_ble_eq_true rfl)⟩) hP hD hS hA [1, 3, 4] [0, 2, 5] rfl rfl (by decide) (by decide) (fun r13 u11 H locs hw12 hP hD hS => ?_)
          obtain ⟨er16, hp15⟩ := hw12
          have er16 : r13 = u11 := er16
          subst er16
          have er13 : r13 = fX9_jarsAt tjarsS tjarsF p0 := hp15
          have hG := zbnd hG er13
          obtain ⟨hP, hD⟩ := z_re (L := [(x0, .inr (10, [.ref w0, .ref z0, .ref xi, .ref xt, .int x_tl, .ref xq, .int x_lc, .ref rdr, .ref h0, .ref t0, .ref q0, .ref v0, .ref m0])), (tnodesA, .inl (kA 0, 48, .inl tnodesF)), (tnodes, .inr (6, [.int 4, .ref tnodesA, .int tnodesS])), (w0, .inr (9, [.ref tnodes, .ref tpasses, .ref tjars, .ref torders, .ref tfeasts, .ref tway, .int tws, .int tnow, .int tfm, .int tx])), (tjars, .inr (6, [.int 9, .ref tjarsA, .int tjarsS])), (tjarsA, .inl (kA 0, 144, .inl tjarsF))]) hP hD
          refine lv_goto (tgt := 90) hx hb dX10_at_86 (by decide) ?_
          obtain ⟨hP9, hD9⟩ := z_sb (L' := [(x0, .inr (10, [.ref w0, .ref z0, .ref xi, .ref xt, .int x_tl, .ref xq, .int x_lc, .ref rdr, .ref h0, .ref t0, .ref q0, .ref v0, .ref m0])), (w0, .inr (9, [.ref tnodes, .ref tpasses, .ref tjars, .ref torders, .ref tfeasts, .ref tway, .int tws, .int tnow, .int tfm, .int tx])), (tnodes, .inr (6, [.int 4, .ref tnodesA, .int tnodesS])), (tnodesA, .inl (kA 0, 48, .inl tnodesF)), (tjars, .inr (6, [.int 9, .ref tjarsA, .int tjarsS])), (tjarsA, .inl (kA 0, 144, .inl tjarsF))]) hP hD [0, 3, 2, 1, 4, 5] (by decide) rfl
          refine W.widen (k := 0) (n := 0) (Nat.le_of_ble_eq_true rfl) (Nat.le_of_ble_eq_true rfl) ?_
          exact W.iret (v := r13) hx hb hr (fun t ht hW => ⟨⟨r13, (r13), rfl, ⟨rfl, (hG.trans hG0.symm)⟩, by rw [ht]; exact hP9, hD9⟩, hS.F ht⟩) hS.2.2 dX10_at_90
      · have hG := zthen hG c_9
        refine lv_aload_n hx hb dX10_at_42 rfl (lv_at hl 0 rfl) ?_
        refine va_get (D := (dC, dI)) (ci := 10) (v := .ref w0) (C := RX10) (T := TX10) (N := 13) hx hb hts iX10_at_X10 hown hK.1 hP 0 gz0 vcz10 0 (by decide) (kX10_at_1 hts) (fun _ h9 => h9) gz0 dX10_at_43 ?_
        refine lv_iload_n hx hb dX10_at_46 rfl (lv_at hl 1 rfl) ?_
        refine lv_aload_n hx hb dX10_at_47 rfl (lv_at hl 0 rfl) ?_
        refine va_get (D := (dC, dI)) (ci := 10) (v := .ref w0) (C := RX10) (T := TX10) (N := 13) hx hb hts iX10_at_X10 hown hK.1 hP 0 gz0 vcz10 0 (by decide) (kX10_at_1 hts) (fun _ h9 => h9) gz0 dX10_at_48 ?_
        refine lv_aload_n hx hb dX10_at_51 rfl (lv_at hl 0 rfl) ?_
        refine va_get (D := (dC, dI)) (ci := 10) (v := .ref w0) (C := RX10) (T := TX10) (N := 13) hx hb hts iX10_at_X10 hown hK.1 hP 0 gz0 vcz10 0 (by decide) (kX10_at_1 hts) (fun _ h9 => h9) gz0 dX10_at_52 ?_
        refine va_get (D := (dC, dI)) (ci := 9) (v := .int tnow) (C := RX9) (T := TX9) (N := 10) hx hb hts iX10_at_X9 hown hK.1 hP 1 gz1 vcz9 7 (by decide) (kX10_at_3 hts) (fun _ h9 => h9) gz7 dX10_at_55 ?_
        refine z_i (wr := [(x0, .inr (10, [.ref w0, .ref z0, .ref xi, .ref xt, .int x_tl, .ref xq, .int x_lc, .ref rdr, .ref h0, .ref t0, .ref q0, .ref v0, .ref m0])), (tnodesA, .inl (kA 0, 48, .inl tnodesF)), (tjars, .inr (6, [.int 9, .ref tjarsA, .int tjarsS])), (tjarsA, .inl (kA 0, 144, .inl tjarsF)), (tnodes, .inr (6, [.int 4, .ref tnodesA, .int tnodesS]))]) (va_runV (As := [.int tnow]) (rest := [.int p0, .ref w0]) ⟨hx, hb, hml, hown, hts⟩ (mX9_monthAt l dC dI kA _ w0 tnodes tpasses tjars torders tfeasts tway tws tnow tfm tx tnow) (cwV 1 hts gX10_at_X9_monthAt rfl rfl rfl ⟨rfl, hdX9_monthAt⟩ ⟨(Nat.le_of_ble_eq_true rfl), (Nat.le_of_ble_eq_true rfl)⟩) ⟨zPc.blind, va_recv (q := (RX9, TX9, 10)) hK.1 hP (ci := 9) (q0 := 1) rfl rfl, zPre hK (hP.sub [1] rfl) (hD.sub [1] (by decide) rfl)⟩ rfl rfl hl.1 rfl (lv_room (Nat.le_of_ble_eq_true rfl)) dX10_at_58 ⟨(Nat.le_of_ble_eq_true rfl), (Nat.le_of_ble_eq_true rfl)⟩) hP hD hS hA [1] [0, 2, 3, 4, 5] rfl rfl (by decide) (by decide) (fun r20 u18 H locs hw19 hP hD hS => ?_)
        obtain ⟨er23, hp22⟩ := hw19
        have er23 : r20 = u18 := er23
        subst er23
        have er20 : r20 = fX9_monthAt tfm tnow := hp22
        have hG := zbnd hG er20
        obtain ⟨hP, hD⟩ := z_re (L := [(x0, .inr (10, [.ref w0, .ref z0, .ref xi, .ref xt, .int x_tl, .ref xq, .int x_lc, .ref rdr, .ref h0, .ref t0, .ref q0, .ref v0, .ref m0])), (tnodesA, .inl (kA 0, 48, .inl tnodesF)), (tjars, .inr (6, [.int 9, .ref tjarsA, .int tjarsS])), (tjarsA, .inl (kA 0, 144, .inl tjarsF)), (tnodes, .inr (6, [.int 4, .ref tnodesA, .int tnodesS])), (w0, .inr (9, [.ref tnodes, .ref tpasses, .ref tjars, .ref torders, .ref tfeasts, .ref tway, .int tws, .int tnow, .int tfm, .int tx]))]) hP hD
        refine z_i (wr := [(x0, .inr (10, [.ref w0, .ref z0, .ref xi, .ref xt, .int x_tl, .ref xq, .int x_lc, .ref rdr, .ref h0, .ref t0, .ref q0, .ref v0, .ref m0])), (tjars, .inr (6, [.int 9, .ref tjarsA, .int tjarsS])), (tjarsA, .inl (kA 0, 144, .inl tjarsF))]) (va_runV (As := [.int p0, .int r20]) (rest := []) ⟨hx, hb, hml, hown, hts⟩ (mX9_hasSnow l dC dI kA _ w0 tnodes tnodesA tnodesS tnodesF tpasses tjars torders tfeasts tway tws tnow tfm tx p0 r20) (cwV 2 hts gX10_at_X9_hasSnow rfl rfl rfl ⟨rfl, hdX9_hasSnow⟩ ⟨(Nat.le_of_ble_eq_true rfl), (Nat.le_of_ble_eq_true rfl)⟩) ⟨zPc.blind, va_recv (q := (RX9, TX9, 10)) hK.1 hP (ci := 9) (q0 := 5) rfl rfl, zPre hK (hP.sub [5, 4, 1] rfl) (hD.sub [5, 4, 1] (by decide) rfl)⟩ rfl rfl hl.1 rfl (lv_room (Nat.le_of_ble_eq_true rfl)) dX10_at_61 ⟨(Nat.le_of_ble_eq_true rfl), (Nat.le_of_ble_eq_true rfl)⟩) hP hD hS hA [5, 4, 1] [0, 2, 3] rfl rfl (by decide) (by decide) (fun r27 u25 H locs hw26 hP hD hS => ?_)
        obtain ⟨er31, hp29, hp30⟩ := hw26
        have er31 : r27 = u25 := er31
        subst er31
        have er27 : r27 = fX9_hasSnow tnodesF p0 r20 := hp29
        have hG := zbnd hG er27
        obtain ⟨hP, hD⟩ := z_re (L := [(x0, .inr (10, [.ref w0, .ref z0, .ref xi, .ref xt, .int x_tl, .ref xq, .int x_lc, .ref rdr, .ref h0, .ref t0, .ref q0, .ref v0, .ref m0])), (tjars, .inr (6, [.int 9, .ref tjarsA, .int tjarsS])), (tjarsA, .inl (kA 0, 144, .inl tjarsF)), (w0, .inr (9, [.ref tnodes, .ref tpasses, .ref tjars, .ref torders, .ref tfeasts, .ref tway, .int tws, .int tnow, .int tfm, .int tx])), (tnodes, .inr (6, [.int 4, .ref tnodesA, .int tnodesS])), (tnodesA, .inl (kA 0, 48, .inl tnodesF))]) hP hD
        refine lv_if_eq (tgt := 71) hx hb dX10_at_64 (by decide) (fun c_33 => ?_) (fun c_33 => ?_)
        · have hG := zthen hG c_33
          refine lv_iconst (v := 0) hx hb dX10_at_71 (by decide) ?_
          obtain ⟨hP9, hD9⟩ := z_sb (L' := [(x0, .inr (10, [.ref w0, .ref z0, .ref xi, .ref xt, .int x_tl, .ref xq, .int x_lc, .ref rdr, .ref h0, .ref t0, .ref q0, .ref v0, .ref m0])), (w0, .inr (9, [.ref tnodes, .ref tpasses, .ref tjars, .ref torders, .ref tfeasts, .ref tway, .int tws, .int tnow, .int tfm, .int tx])), (tnodes, .inr (6, [.int 4, .ref tnodesA, .int tnodesS])), (tnodesA, .inl (kA 0, 48, .inl tnodesF)), (tjars, .inr (6, [.int 9, .ref tjarsA, .int tjarsS])), (tjarsA, .inl (kA 0, 144, .inl tjarsF))]) hP hD [0, 3, 4, 5, 1, 2] (by decide) rfl
          refine W.widen (k := 0) (n := 0) (Nat.le_of_ble_eq_true rfl) (Nat.le_of_ble_eq_true rfl) ?_
          exact W.iret (v := 0) hx hb hr (fun t ht hW => ⟨⟨0, (0), rfl, ⟨rfl, (hG.trans hG0.symm)⟩, by rw [ht]; exact hP9, hD9⟩, hS.F ht⟩) hS.2.2 dX10_at_72
        · have hG := zelse hG c_33
          refine lv_iconst (v := 1) hx hb dX10_at_67 (by decide) ?_
          refine lv_goto (tgt := 72) hx hb dX10_at_68 (by decide) ?_
          obtain ⟨hP9, hD9⟩ := z_sb (L' := [(x0, .inr (10, [.ref w0, .ref z0, .ref xi, .ref xt, .int x_tl, .ref xq, .int x_lc, .ref rdr, .ref h0, .ref t0, .ref q0, .ref v0, .ref m0])), (w0, .inr (9, [.ref tnodes, .ref tpasses, .ref tjars, .ref torders, .ref tfeasts, .ref tway, .int tws, .int tnow, .int tfm, .int tx])), (tnodes, .inr (6, [.int 4, .ref tnodesA, .int tnodesS])), (tnodesA, .inl (kA 0, 48, .inl tnodesF)), (tjars, .inr (6, [.int 9, .ref tjarsA, .int tjarsS])), (tjarsA, .inl (kA 0, 144, .inl tjarsF))]) hP hD [0, 3, 4, 5, 1, 2] (by decide) rfl
          refine W.widen (k := 0) (n := 0) (Nat.le_of_ble_eq_true rfl) (Nat.le_of_ble_eq_true rfl) ?_
          exact W.iret (v := 1) hx hb hr (fun t ht hW => ⟨⟨1, (1), rfl, ⟨rfl, (hG.trans hG0.symm)⟩, by rw [ht]; exact hP9, hD9⟩, hS.F ht⟩) hS.2.2 dX10_at_72
    · have hG := zelse hG c_8
      have c_8a := wi_ne c_8
      have c_8b := c_8a.2
      have c_8a := c_8a.1
      refine lv_aload_n hx hb dX10_at_24 rfl (lv_at hl 0 rfl) ?_
      refine va_get (D := (dC, dI)) (ci := 10) (v := .ref w0) (C := RX10) (T := TX10) (N := 13) hx hb hts iX10_at_X10 hown hK.1 hP 0 gz0 vcz10 0 (by decide) (kX10_at_1 hts) (fun _ h9 => h9) gz0 dX10_at_25 ?_
      refine va_get (D := (dC, dI)) (ci := 9) (v := .ref tnodes) (C := RX9) (T := TX9) (N := 10) hx hb hts iX10_at_X9 hown hK.1 hP 1 gz1 vcz9 0 (by decide) (kX10_at_2 hts) (fun _ h9 => h9) gz0 dX10_at_28 ?_
      refine lv_iload_n hx hb dX10_at_31 rfl (lv_at hl 1 rfl) ?_
      refine lv_iload_n hx hb dX10_at_32 rfl (lv_at hl 2 rfl) ?_
      refine z_i (wr := [(x0, .inr (10, [.ref w0, .ref z0, .ref xi, .ref xt, .int x_tl, .ref xq, .int x_lc, .ref rdr, .ref h0, .ref t0, .ref q0, .ref v0, .ref m0])), (w0, .inr (9, [.ref tnodes, .ref tpasses, .ref tjars, .ref torders, .ref tfeasts, .ref tway, .int tws, .int tnow, .int tfm, .int tx])), (tjars, .inr (6, [.int 9, .ref tjarsA, .int tjarsS])), (tjarsA, .inl (kA 0, 144, .inl tjarsF))]) (va_runV (As := [.int p0, .int p1]) (rest := []) ⟨hx, hb, hml, hown, hts⟩ (mX6_get_48 l dC dI kA _ tnodes tnodesA 4 tnodesS tnodesF p0 p1) (cwV 2 hts gX10_at_X6_get rfl rfl rfl ⟨rfl, hdX6_get⟩ ⟨(Nat.le_of_ble_eq_true rfl), (Nat.le_of_ble_eq_true rfl)⟩) ⟨zPc.blind, va_recv (q := (RX6, TX6, 3)) hK.1 hP (ci := 6) (q0 := 5) rfl rfl, zPre hK (hP.sub [5, 2] rfl) (hD.sub [5, 2] (by decide) rfl)⟩ rfl rfl hl.1 rfl (lv_room (Nat.le_of_ble_eq_true rfl)) dX10_at_33 ⟨(Nat.le_of_ble_eq_true rfl), (Nat.le_of_ble_eq_true rfl)⟩) hP hD hS hA [5, 2] [0, 1, 3, 4] rfl rfl (by decide) (by decide) (fun r36 u34 H locs hw35 hP hD hS => ?_)
      obtain ⟨er39, hp38⟩ := hw35
      have er39 : r36 = u34 := er39
      subst er39
      have er36 : r36 = fX6_get_48 4 tnodesF p0 p1 := hp38
      have hG := zbnd hG er36
      obtain ⟨hP, hD⟩ := z_re (L := [(x0, .inr (10, [.ref w0, .ref z0, .ref xi, .ref xt, .int x_tl, .ref xq, .int x_lc, .ref rdr, .ref h0, .ref t0, .ref q0, .ref v0, .ref m0])), (w0, .inr (9, [.ref tnodes, .ref tpasses, .ref tjars, .ref torders, .ref tfeasts, .ref tway, .int tws, .int tnow, .int tfm, .int tx])), (tjars, .inr (6, [.int 9, .ref tjarsA, .int tjarsS])), (tjarsA, .inl (kA 0, 144, .inl tjarsF)), (tnodes, .inr (6, [.int 4, .ref tnodesA, .int tnodesS])), (tnodesA, .inl (kA 0, 48, .inl tnodesF))]) hP hD
      obtain ⟨hP9, hD9⟩ := z_sb (L' := [(x0, .inr (10, [.ref w0, .ref z0, .ref xi, .ref xt, .int x_tl, .ref xq, .int x_lc, .ref rdr, .ref h0, .ref t0, .ref q0, .ref v0, .ref m0])), (w0, .inr (9, [.ref tnodes, .ref tpasses, .ref tjars, .ref torders, .ref tfeasts, .ref tway, .int tws, .int tnow, .int tfm, .int tx])), (tnodes, .inr (6, [.int 4, .ref tnodesA, .int tnodesS])), (tnodesA, .inl (kA 0, 48, .inl tnodesF)), (tjars, .inr (6, [.int 9, .ref tjarsA, .int tjarsS])), (tjarsA, .inl (kA 0, 144, .inl tjarsF))]) hP hD [0, 1, 4, 5, 2, 3] (by decide) rfl
      refine W.widen (k := 0) (n := 0) (Nat.le_of_ble_eq_true rfl) (Nat.le_of_ble_eq_true rfl) ?_
      exact W.iret (v := r36) hx hb hr (fun t ht hW => ⟨⟨r36, (r36), rfl, ⟨rfl, (hG.trans hG0.symm)⟩, by rw [ht]; exact hP9, hD9⟩, hS.F ht⟩) hS.2.2 dX10_at_36
  · have hG := zthen hG c_4
    refine lv_iconst (v := (-1)) hx hb dX10_at_14 (by decide) ?_
    obtain ⟨hP9, hD9⟩ := z_sb (L' := [(x0, .inr (10, [.ref w0, .ref z0, .ref xi, .ref xt, .int x_tl, .ref xq, .int x_lc, .ref rdr, .ref h0, .ref t0, .ref q0, .ref v0, .ref m0])), (w0, .inr (9, [.ref tnodes, .ref tpasses, .ref tjars, .ref torders, .ref tfeasts, .ref tway, .int tws, .int tnow, .int tfm, .int tx])), (tnodes, .inr (6, [.int 4, .ref tnodesA, .int tnodesS])), (tnodesA, .inl (kA 0, 48, .inl tnodesF)), (tjars, .inr (6, [.int 9, .ref tjarsA, .int tjarsS])), (tjarsA, .inl (kA 0, 144, .inl tjarsF))]) hP hD [0, 1, 5, 2, 3, 4] (by decide) rfl
    refine W.widen (k := 0) (n := 0) (Nat.le_of_ble_eq_true rfl) (Nat.le_of_ble_eq_true rfl) ?_
    exact W.iret (v := (-1)) hx hb hr (fun t ht hW => ⟨⟨(-1), ((-1)), rfl, ⟨rfl, (hG.trans hG0.symm)⟩, by rw [ht]; exact hP9, hD9⟩, hS.F ht⟩) hS.2.2 dX10_at_15
set_option maxRecDepth 100000 in
def fX10_of (tjarsS : Int32) (tjarsF : Nat → Int32) (p0 : Int32) (p1 : Int32) : Int32 := if (hs p0 tjarsS) = 0 then ((-2)) else (if (wi p1 8) = 0 then ((-2)) else (bnd (fX6_get_144 9 tjarsF p0 p1) (fun (r11 : Int32) => r11)))
set_option maxHeartbeats 4000000 in
set_option maxRecDepth 100000 in
theorem mX10_of (l : Launch) (dC : Nat → ClassId) (dI : Nat → Nat → Nat) (kA : Nat → ClassId) (sz : Nat) (x0 : Nat) (z0 : Nat) (xi : Nat) (xt : Nat) (xq : Nat) (rdr : Nat) (h0 : Nat) (t0 : Nat) (q0 : Nat) (v0 : Nat) (m0 : Nat) (w0 : Nat) (x_tl : Int32) (x_lc : Int32) (tnodes : Nat) (tpasses : Nat) (tjars : Nat) (tjarsA : Nat) (tjarsS : Int32) (tjarsF : Nat → Int32) (torders : Nat) (tfeasts : Nat) (tway : Nat) (tws : Int32) (tnow : Int32) (tfm : Int32) (tx : Int32) (p0 : Int32) (p1 : Int32)  : Met l yX10_of wsX10_of ({ frames := 1, cells := 0, slots := 0, locals := 23 }) (zPc dC dI kA sz [.ref x0, .int p0, .int p1] [(x0, .inr (10, [.ref w0, .ref z0, .ref xi, .ref xt, .int x_tl, .ref xq, .int x_lc, .ref rdr, .ref h0, .ref t0, .ref q0, .ref v0, .ref m0])), (w0, .inr (9, [.ref tnodes, .ref tpasses, .ref tjars, .ref torders, .ref tfeasts, .ref tway, .int tws, .int tnow, .int tfm, .int tx])), (tjars, .inr (6, [.int 9, .ref tjarsA, .int tjarsS])), (tjarsA, .inl (kA 0, 144, .inl tjarsF))]) (va_Qi (fun (r : Int32) (u : Int32) => r = u ∧ u = fX10_of tjarsS tjarsF p0 p1) (zB dC dI (va_A [(x0, .inr (10, [.ref w0, .ref z0, .ref xi, .ref xt, .int x_tl, .ref xq, .int x_lc, .ref rdr, .ref h0, .ref t0, .ref q0, .ref v0, .ref m0])), (w0, .inr (9, [.ref tnodes, .ref tpasses, .ref tjars, .ref torders, .ref tfeasts, .ref tway, .int tws, .int tnow, .int tfm, .int tx])), (tjars, .inr (6, [.int 9, .ref tjarsA, .int tjarsS])), (tjarsA, .inl (kA 0, 144, .inl tjarsF))] sz) (fun (u : Int32) => [(x0, .inr (10, [.ref w0, .ref z0, .ref xi, .ref xt, .int x_tl, .ref xq, .int x_lc, .ref rdr, .ref h0, .ref t0, .ref q0, .ref v0, .ref m0])), (w0, .inr (9, [.ref tnodes, .ref tpasses, .ref tjars, .ref torders, .ref tfeasts, .ref tway, .int tws, .int tnow, .int tfm, .int tx])), (tjars, .inr (6, [.int 9, .ref tjarsA, .int tjarsS])), (tjarsA, .inl (kA 0, 144, .inl tjarsF))])) (va_A [(x0, .inr (10, [.ref w0, .ref z0, .ref xi, .ref xt, .int x_tl, .ref xq, .int x_lc, .ref rdr, .ref h0, .ref t0, .ref q0, .ref v0, .ref m0])), (w0, .inr (9, [.ref tnodes, .ref tpasses, .ref tjars, .ref torders, .ref tfeasts, .ref tway, .int tws, .int tnow, .int tfm, .int tx])), (tjars, .inr (6, [.int 9, .ref tjarsA, .int tjarsS])), (tjarsA, .inl (kA 0, 144, .inl tjarsF))] sz)) 0 0 (va_A [(x0, .inr (10, [.ref w0, .ref z0, .ref xi, .ref xt, .int x_tl, .ref xq, .int x_lc, .ref rdr, .ref h0, .ref t0, .ref q0, .ref v0, .ref m0])), (w0, .inr (9, [.ref tnodes, .ref tpasses, .ref tjars, .ref torders, .ref tfeasts, .ref tway, .int tws, .int tnow, .int tfm, .int tx])), (tjars, .inr (6, [.int 9, .ref tjarsA, .int tjarsS])), (tjarsA, .inl (kA 0, 144, .inl tjarsF))] sz) := by
  refine Met.ofW (cc := cX10_of) (maxL := 3) (ret := (some .int)) pnX10 rfl ?_
  intro p e s m args below meth c s₁ B hml hv
  obtain ⟨rfl, hsz, hP, hK, hD0⟩ := hv
  have hx := B.exec
  have hb := B.bytes
  have hr := B.returns
  have hts := atoms_spec (ws := wsX10_of) B.pre
  have hown : s.vm.findClass RX10 = some m.cls := findClass_of_methodNamed B.named
  have hlocks := B.notSynchronized
  subst hsz
  have hD := hD0.self (sz := s.heap.size)
  generalize hAe : va_A [(x0, .inr (10, [.ref w0, .ref z0, .ref xi, .ref xt, .int x_tl, .ref xq, .int x_lc, .ref rdr, .ref h0, .ref t0, .ref q0, .ref v0, .ref m0])), (w0, .inr (9, [.ref tnodes, .ref tpasses, .ref tjars, .ref torders, .ref tfeasts, .ref tway, .int tws, .int tnow, .int tfm, .int tx])), (tjars, .inr (6, [.int 9, .ref tjarsA, .int tjarsS])), (tjarsA, .inl (kA 0, 144, .inl tjarsF))] s.heap.size = A at hD ⊢
  have hA : ∀ q : Nat, s.heap.size ≤ q → A q := zA_of hAe
  have hS : va_S A s.heap s.heap [] := va_S.rf
  have hP : va_P (dC, dI) vwCl [(x0, .inr (10, [.ref w0, .ref z0, .ref xi, .ref xt, .int x_tl, .ref xq, .int x_lc, .ref rdr, .ref h0, .ref t0, .ref q0, .ref v0, .ref m0])), (w0, .inr (9, [.ref tnodes, .ref tpasses, .ref tjars, .ref torders, .ref tfeasts, .ref tway, .int tws, .int tnow, .int tfm, .int tx])), (tjars, .inr (6, [.int 9, .ref tjarsA, .int tjarsS])), (tjarsA, .inl (kA 0, 144, .inl tjarsF))] s.heap := hP
  have hl := lv_entry ([.ref x0, .int p0, .int p1]) (n := 3) (Nat.le_of_ble_eq_true rfl)
  rw [lg_entry_eq]
  generalize (lg_sl ([.ref x0, .int p0, .int p1]) ++ List.replicate (3 - (lg_sl ([.ref x0, .int p0, .int p1])).length) Slot.unset).toArray = ls at hl ⊢
  have hl : lv_has ls 3 [(0, .ref x0), (1, .int p0), (2, .int p1)] := hl
  obtain ⟨G, hG0⟩ : ∃ G : Int32, fX10_of tjarsS tjarsF p0 p1 = G := ⟨_, rfl⟩
  have hG := hG0
  unfold fX10_of at hG
  refine lv_aload_n hx hb dX10_of_0 rfl (lv_at hl 0 rfl) ?_
  refine va_get (D := (dC, dI)) (ci := 10) (v := .ref w0) (C := RX10) (T := TX10) (N := 13) hx hb hts iX10_of_X10 hown hK.1 hP 0 gz0 vcz10 0 (by decide) (kX10_of_1 hts) (fun _ h9 => h9) gz0 dX10_of_1 ?_
  refine va_get (D := (dC, dI)) (ci := 9) (v := .ref tjars) (C := RX9) (T := TX9) (N := 10) hx hb hts iX10_of_X9 hown hK.1 hP 1 gz1 vcz9 2 (by decide) (kX10_of_2 hts) (fun _ h9 => h9) gz2 dX10_of_4 ?_
  refine lv_iload_n hx hb dX10_of_7 rfl (lv_at hl 1 rfl) ?_
  refine z_i (wr := [(x0, .inr (10, [.ref w0, .ref z0, .ref xi, .ref xt, .int x_tl, .ref xq, .int x_lc, .ref rdr, .ref h0, .ref t0, .ref q0, .ref v0, .ref m0])), (w0, .inr (9, [.ref tnodes, .ref tpasses, .ref tjars, .ref torders, .ref tfeasts, .ref tway, .int tws, .int tnow, .int tfm, .int tx])), (tjarsA, .inl (kA 0, 144, .inl tjarsF))]) (va_runV (As := [.int p0]) (rest := []) ⟨hx, hb, hml, hown, hts⟩ (mX6_has l dC dI kA _ tjars tjarsA 9 tjarsS p0) (cwV 1 hts gX10_of_X6_has rfl rfl rfl ⟨rfl, hdX6_has⟩ ⟨(Nat.le_of_ble_eq_true rfl), (Nat.le_of_ble_eq_true rfl)⟩) ⟨zPc.blind, va_recv (q := (RX6, TX6, 3)) hK.1 hP (ci := 6) (q0 := 2) rfl rfl, zPre hK (hP.sub [2] rfl) (hD.sub [2] (by decide) rfl)⟩ rfl rfl hl.1 rfl (lv_room (Nat.le_of_ble_eq_true rfl)) dX10_of_8 ⟨(Nat.le_of_ble_eq_true rfl), (Nat.le_of_ble_eq_true rfl)⟩) hP hD hS hA [2] [0, 1, 3] rfl rfl (by decide) (by decide) (fun r3 u1 H locs hw2 hP hD hS => ?_)
  obtain rfl := hw2
  obtain ⟨hP, hD⟩ := z_re (L := [(x0, .inr (10, [.ref w0, .ref z0, .ref xi, .ref xt, .int x_tl, .ref xq, .int x_lc, .ref rdr, .ref h0, .ref t0, .ref q0, .ref v0, .ref m0])), (w0, .inr (9, [.ref tnodes, .ref tpasses, .ref tjars, .ref torders, .ref tfeasts, .ref tway, .int tws, .int tnow, .int tfm, .int tx])), (tjarsA, .inl (kA 0, 144, .inl tjarsF)), (tjars, .inr (6, [.int 9, .ref tjarsA, .int tjarsS]))]) hP hD
  refine lv_if_eq (tgt := 23) hx hb dX10_of_11 (by decide) (fun c_4 => ?_) (fun c_4 => ?_)
  · have hG := zthen hG c_4
    refine lv_bipush (v := (-2)) hx hb dX10_of_23 (by decide) ?_
    obtain ⟨hP9, hD9⟩ := z_sb (L' := [(x0, .inr (10, [.ref w0, .ref z0, .ref xi, .ref xt, .int x_tl, .ref xq, .int x_lc, .ref rdr, .ref h0, .ref t0, .ref q0, .ref v0, .ref m0])), (w0, .inr (9, [.ref tnodes, .ref tpasses, .ref tjars, .ref torders, .ref tfeasts, .ref tway, .int tws, .int tnow, .int tfm, .int tx])), (tjars, .inr (6, [.int 9, .ref tjarsA, .int tjarsS])), (tjarsA, .inl (kA 0, 144, .inl tjarsF))]) hP hD [0, 1, 3, 2] (by decide) rfl
    refine W.widen (k := 0) (n := 0) (Nat.le_of_ble_eq_true rfl) (Nat.le_of_ble_eq_true rfl) ?_
    exact W.iret (v := (-2)) hx hb hr (fun t ht hW => ⟨⟨(-2), ((-2)), rfl, ⟨rfl, (hG.trans hG0.symm)⟩, by rw [ht]; exact hP9, hD9⟩, hS.F ht⟩) hS.2.2 dX10_of_25
  · have hG := zelse hG c_4
    have c_4a := hs_ne c_4
    have c_4b := c_4a.2
    have c_4a := c_4a.1
    refine lv_iload_n hx hb dX10_of_14 rfl (lv_at hl 2 rfl) ?_
    refine lv_bipush (v := 8) hx hb dX10_of_15 (by decide) ?_
    refine z_i (wr := [(x0, .inr (10, [.ref w0, .ref z0, .ref xi, .ref xt, .int x_tl, .ref xq, .int x_lc, .ref rdr, .ref h0, .ref t0, .ref q0, .ref v0, .ref m0])), (w0, .inr (9, [.ref tnodes, .ref tpasses, .ref tjars, .ref torders, .ref tfeasts, .ref tway, .int tws, .int tnow, .int tfm, .int tx])), (tjarsA, .inl (kA 0, 144, .inl tjarsF)), (tjars, .inr (6, [.int 9, .ref tjarsA, .int tjarsS]))]) (va_runS (As := [.int p1, .int 8]) (rest := []) ⟨hx, hb, hml, hown, hts⟩ (mX10_within l dC dI kA _ p1 8) (va_cwS 2 hts gX10_of_X10_within rfl rfl rfl hdX10_within ⟨(Nat.le_of_ble_eq_true rfl), (Nat.le_of_ble_eq_true rfl)⟩) ⟨zPc.blind, zPre hK (hP.sub [] rfl) (hD.sub [] (by decide) rfl)⟩ rfl rfl hl.1 rfl (lv_room (Nat.le_of_ble_eq_true rfl)) dX10_of_17 ⟨(Nat.le_of_ble_eq_true rfl), (Nat.le_of_ble_eq_true rfl)⟩) hP hD hS hA [] [0, 1, 2, 3] rfl rfl (by decide) (by decide) (fun r7 u5 H locs hw6 hP hD hS => ?_)
    obtain rfl := hw6
    obtain ⟨hP, hD⟩ := z_re (L := [(x0, .inr (10, [.ref w0, .ref z0, .ref xi, .ref xt, .int x_tl, .ref xq, .int x_lc, .ref rdr, .ref h0, .ref t0, .ref q0, .ref v0, .ref m0])), (w0, .inr (9, [.ref tnodes, .ref tpasses, .ref tjars, .ref torders, .ref tfeasts, .ref tway, .int tws, .int tnow, .int tfm, .int tx])), (tjarsA, .inl (kA 0, 144, .inl tjarsF)), (tjars, .inr (6, [.int 9, .ref tjarsA, .int tjarsS]))]) hP hD
    refine lv_if_ne (tgt := 26) hx hb dX10_of_20 (by decide) (fun c_8 => ?_) (fun c_8 => ?_)
    · have hG := zelse hG c_8
      have c_8a := wi_ne c_8
      have c_8b := c_8a.2
      have c_8a := c_8a.1
      refine lv_aload_n hx hb dX10_of_26 rfl (lv_at hl 0 rfl) ?_
      refine va_get (D := (dC, dI)) (ci := 10) (v := .ref w0) (C := RX10) (T := TX10) (N := 13) hx hb hts iX10_of_X10 hown hK.1 hP 0 gz0 vcz10 0 (by decide) (kX10_of_1 hts) (fun _ h9 => h9) gz0 dX10_of_27 ?_
      refine va_get (D := (dC, dI)) (ci := 9) (v := .ref tjars) (C := RX9) (T := TX9) (N := 10) hx hb hts iX10_of_X9 hown hK.1 hP 1 gz1 vcz9 2 (by decide) (kX10_of_2 hts) (fun _ h9 => h9) gz2 dX10_of_30 ?_
      refine lv_iload_n hx hb dX10_of_33 rfl (lv_at hl 1 rfl) ?_
      refine lv_iload_n hx hb dX10_of_34 rfl (lv_at hl 2 rfl) ?_
      refine z_i (wr := [(x0, .inr (10, [.ref w0, .ref z0, .ref xi, .ref xt, .int x_tl, .ref xq, .int x_lc, .ref rdr, .ref h0, .ref t0, .ref q0, .ref v0, .ref m0])), (w0, .inr (9, [.ref tnodes, .ref tpasses, .ref tjars, .ref torders, .ref tfeasts, .ref tway, .int tws, .int tnow, .int tfm, .int tx]))]) (va_runV (As := [.int p0, .int p1]) (rest := []) ⟨hx, hb, hml, hown, hts⟩ (mX6_get_144 l dC dI kA _ tjars tjarsA 9 tjarsS tjarsF p0 p1) (cwV 2 hts gX10_of_X6_get rfl rfl rfl ⟨rfl, hdX6_get⟩ ⟨(Nat.le_of_ble_eq_true rfl), (Nat.le_of_ble_eq_true rfl)⟩) ⟨zPc.blind, va_recv (q := (RX6, TX6, 3)) hK.1 hP (ci := 6) (q0 := 3) rfl rfl, zPre hK (hP.sub [3, 2] rfl) (hD.sub [3, 2] (by decide) rfl)⟩ rfl rfl hl.1 rfl (lv_room (Nat.le_of_ble_eq_true rfl)) dX10_of_35 ⟨(Nat.le_of_ble_eq_true rfl), (Nat.le_of_ble_eq_true rfl)⟩) hP hD hS hA [3, 2] [0, 1] rfl rfl (by decide) (by decide) (fun r11 u9 H locs hw10 hP hD hS => ?_)
      obtain ⟨er14, hp13⟩ := hw10
      have er14 : r11 = u9 := er14
      subst er14
      have er11 : r11 = fX6_get_144 9 tjarsF p0 p1 := hp13
      have hG := zbnd hG er11
      obtain ⟨hP, hD⟩ := z_re (L := [(x0, .inr (10, [.ref w0, .ref z0, .ref xi, .ref xt, .int x_tl, .ref xq, .int x_lc, .ref rdr, .ref h0, .ref t0, .ref q0, .ref v0, .ref m0])), (w0, .inr (9, [.ref tnodes, .ref tpasses, .ref tjars, .ref torders, .ref tfeasts, .ref tway, .int tws, .int tnow, .int tfm, .int tx])), (tjars, .inr (6, [.int 9, .ref tjarsA, .int tjarsS])), (tjarsA, .inl (kA 0, 144, .inl tjarsF))]) hP hD
      obtain ⟨hP9, hD9⟩ := z_sb (L' := [(x0, .inr (10, [.ref w0, .ref z0, .ref xi, .ref xt, .int x_tl, .ref xq, .int x_lc, .ref rdr, .ref h0, .ref t0, .ref q0, .ref v0, .ref m0])), (w0, .inr (9, [.ref tnodes, .ref tpasses, .ref tjars, .ref torders, .ref tfeasts, .ref tway, .int tws, .int tnow, .int tfm, .int tx])), (tjars, .inr (6, [.int 9, .ref tjarsA, .int tjarsS])), (tjarsA, .inl (kA 0, 144, .inl tjarsF))]) hP hD [0, 1, 2, 3] (by decide) rfl
      refine W.widen (k := 0) (n := 0) (Nat.le_of_ble_eq_true rfl) (Nat.le_of_ble_eq_true rfl) ?_
      exact W.iret (v := r11) hx hb hr (fun t ht hW => ⟨⟨r11, (r11), rfl, ⟨rfl, (hG.trans hG0.symm)⟩, by rw [ht]; exact hP9, hD9⟩, hS.F ht⟩) hS.2.2 dX10_of_38
    · have hG := zthen hG c_8
      refine lv_bipush (v := (-2)) hx hb dX10_of_23 (by decide) ?_
      obtain ⟨hP9, hD9⟩ := z_sb (L' := [(x0, .inr (10, [.ref w0, .ref z0, .ref xi, .ref xt, .int x_tl, .ref xq, .int x_lc, .ref rdr, .ref h0, .ref t0, .ref q0, .ref v0, .ref m0])), (w0, .inr (9, [.ref tnodes, .ref tpasses, .ref tjars, .ref torders, .ref tfeasts, .ref tway, .int tws, .int tnow, .int tfm, .int tx])), (tjars, .inr (6, [.int 9, .ref tjarsA, .int tjarsS])), (tjarsA, .inl (kA 0, 144, .inl tjarsF))]) hP hD [0, 1, 3, 2] (by decide) rfl
      refine W.widen (k := 0) (n := 0) (Nat.le_of_ble_eq_true rfl) (Nat.le_of_ble_eq_true rfl) ?_
      exact W.iret (v := (-2)) hx hb hr (fun t ht hW => ⟨⟨(-2), ((-2)), rfl, ⟨rfl, (hG.trans hG0.symm)⟩, by rw [ht]; exact hP9, hD9⟩, hS.F ht⟩) hS.2.2 dX10_of_25
set_option maxRecDepth 100000 in
def fX10_lay (tpassesS : Int32) (tpassesF : Nat → Int32) (twayS : Int32) (twayF : Nat → Int32) (tws : Int32) (p0 : Int32) : Int32 × (Nat → Int32) × Int32 := if tws = (-1) then ((twayS, twayF, (-1))) else (bnd (fX9_wayEnd tpassesS tpassesF twayS twayF tws) (fun (r4 : Int32) => bnd (fX9_otherEnd tpassesS tpassesF p0 r4) (fun (r11 : Int32) => if r11 = (-1) then ((twayS, twayF, (-1))) else (bnd (fX9_wayHas tpassesS tpassesF twayS twayF tws r11) (fun (r19 : Int32) => if r19 = 0 then (bnd (fX6_grow_6 1 twayS) (fun (q33 : Int32 × Int32) => bnd (q33.1) (fun (o29 : Int32) => bnd (q33.2) (fun (r28 : Int32) => if r28 = (-1) then ((o29, twayF, (-1))) else (bnd (fX6_put_6 1 twayF r28 0 p0) (fun (o38 : Nat → Int32) => (o29, o38, (r28 + 1)))))))) else ((twayS, twayF, (-1))))))))
set_option maxHeartbeats 4000000 in
set_option maxRecDepth 100000 in
theorem mX10_lay (l : Launch) (dC : Nat → ClassId) (dI : Nat → Nat → Nat) (kA : Nat → ClassId) (sz : Nat) (x0 : Nat) (z0 : Nat) (xi : Nat) (xt : Nat) (xq : Nat) (rdr : Nat) (h0 : Nat) (t0 : Nat) (q0 : Nat) (v0 : Nat) (m0 : Nat) (w0 : Nat) (x_tl : Int32) (x_lc : Int32) (tnodes : Nat) (tpasses : Nat) (tpassesA : Nat) (tpassesS : Int32) (tpassesF : Nat → Int32) (tjars : Nat) (torders : Nat) (tfeasts : Nat) (tway : Nat) (twayA : Nat) (twayS : Int32) (twayF : Nat → Int32) (tws : Int32) (tnow : Int32) (tfm : Int32) (tx : Int32) (p0 : Int32)  : Met l yX10_lay wsX10_lay ({ frames := 3, cells := 0, slots := 0, locals := 70 }) (zPc dC dI kA sz [.ref x0, .int p0] [(x0, .inr (10, [.ref w0, .ref z0, .ref xi, .ref xt, .int x_tl, .ref xq, .int x_lc, .ref rdr, .ref h0, .ref t0, .ref q0, .ref v0, .ref m0])), (w0, .inr (9, [.ref tnodes, .ref tpasses, .ref tjars, .ref torders, .ref tfeasts, .ref tway, .int tws, .int tnow, .int tfm, .int tx])), (tpasses, .inr (6, [.int 5, .ref tpassesA, .int tpassesS])), (tpassesA, .inl (kA 0, 100, .inl tpassesF)), (tway, .inr (6, [.int 1, .ref twayA, .int twayS])), (twayA, .inl (kA 0, 6, .inl twayF))]) (va_Qi (fun (r : Int32) (u : Int32 × (Nat → Int32) × Int32) => r = u.2.2 ∧ (u.1, u.2.1, u.2.2) = fX10_lay tpassesS tpassesF twayS twayF tws p0) (zB dC dI (va_A [(x0, .inr (10, [.ref w0, .ref z0, .ref xi, .ref xt, .int x_tl, .ref xq, .int x_lc, .ref rdr, .ref h0, .ref t0, .ref q0, .ref v0, .ref m0])), (w0, .inr (9, [.ref tnodes, .ref tpasses, .ref tjars, .ref torders, .ref tfeasts, .ref tway, .int tws, .int tnow, .int tfm, .int tx])), (tpasses, .inr (6, [.int 5, .ref tpassesA, .int tpassesS])), (tpassesA, .inl (kA 0, 100, .inl tpassesF)), (tway, .inr (6, [.int 1, .ref twayA, .int twayS])), (twayA, .inl (kA 0, 6, .inl twayF))] sz) (fun (u : Int32 × (Nat → Int32) × Int32) => [(x0, .inr (10, [.ref w0, .ref z0, .ref xi, .ref xt, .int x_tl, .ref xq, .int x_lc, .ref rdr, .ref h0, .ref t0, .ref q0, .ref v0, .ref m0])), (w0, .inr (9, [.ref tnodes, .ref tpasses, .ref tjars, .ref torders, .ref tfeasts, .ref tway, .int tws, .int tnow, .int tfm, .int tx])), (tpasses, .inr (6, [.int 5, .ref tpassesA, .int tpassesS])), (tpassesA, .inl (kA 0, 100, .inl tpassesF)), (tway, .inr (6, [.int 1, .ref twayA, .int u.1])), (twayA, .inl (kA 0, 6, .inl u.2.1))])) (va_A [(x0, .inr (10, [.ref w0, .ref z0, .ref xi, .ref xt, .int x_tl, .ref xq, .int x_lc, .ref rdr, .ref h0, .ref t0, .ref q0, .ref v0, .ref m0])), (w0, .inr (9, [.ref tnodes, .ref tpasses, .ref tjars, .ref torders, .ref tfeasts, .ref tway, .int tws, .int tnow, .int tfm, .int tx])), (tpasses, .inr (6, [.int 5, .ref tpassesA, .int tpassesS])), (tpassesA, .inl (kA 0, 100, .inl tpassesF)), (tway, .inr (6, [.int 1, .ref twayA, .int twayS])), (twayA, .inl (kA 0, 6, .inl twayF))] sz)) 0 0 (va_A [(x0, .inr (10, [.ref w0, .ref z0, .ref xi, .ref xt, .int x_tl, .ref xq, .int x_lc, .ref rdr, .ref h0, .ref t0, .ref q0, .ref v0, .ref m0])), (w0, .inr (9, [.ref tnodes, .ref tpasses, .ref tjars, .ref torders, .ref tfeasts, .ref tway, .int tws, .int tnow, .int tfm, .int tx])), (tpasses, .inr (6, [.int 5, .ref tpassesA, .int tpassesS])), (tpassesA, .inl (kA 0, 100, .inl tpassesF)), (tway, .inr (6, [.int 1, .ref twayA, .int twayS])), (twayA, .inl (kA 0, 6, .inl twayF))] sz) := by
  refine Met.ofW (cc := cX10_lay) (maxL := 4) (ret := (some .int)) pnX10 rfl ?_
  intro p e s m args below meth c s₁ B hml hv
  obtain ⟨rfl, hsz, hP, hK, hD0⟩ := hv
  have hx := B.exec
  have hb := B.bytes
  have hr := B.returns
  have hts := atoms_spec (ws := wsX10_lay) B.pre
  have hown : s.vm.findClass RX10 = some m.cls := findClass_of_methodNamed B.named
  have hlocks := B.notSynchronized
  subst hsz
  have hD := hD0.self (sz := s.heap.size)
  generalize hAe : va_A [(x0, .inr (10, [.ref w0, .ref z0, .ref xi, .ref xt, .int x_tl, .ref xq, .int x_lc, .ref rdr, .ref h0, .ref t0, .ref q0, .ref v0, .ref m0])), (w0, .inr (9, [.ref tnodes, .ref tpasses, .ref tjars, .ref torders, .ref tfeasts, .ref tway, .int tws, .int tnow, .int tfm, .int tx])), (tpasses, .inr (6, [.int 5, .ref tpassesA, .int tpassesS])), (tpassesA, .inl (kA 0, 100, .inl tpassesF)), (tway, .inr (6, [.int 1, .ref twayA, .int twayS])), (twayA, .inl (kA 0, 6, .inl twayF))] s.heap.size = A at hD ⊢
  have hA : ∀ q : Nat, s.heap.size ≤ q → A q := zA_of hAe
  have hS : va_S A s.heap s.heap [] := va_S.rf
  have hP : va_P (dC, dI) vwCl [(x0, .inr (10, [.ref w0, .ref z0, .ref xi, .ref xt, .int x_tl, .ref xq, .int x_lc, .ref rdr, .ref h0, .ref t0, .ref q0, .ref v0, .ref m0])), (w0, .inr (9, [.ref tnodes, .ref tpasses, .ref tjars, .ref torders, .ref tfeasts, .ref tway, .int tws, .int tnow, .int tfm, .int tx])), (tpasses, .inr (6, [.int 5, .ref tpassesA, .int tpassesS])), (tpassesA, .inl (kA 0, 100, .inl tpassesF)), (tway, .inr (6, [.int 1, .ref twayA, .int twayS])), (twayA, .inl (kA 0, 6, .inl twayF))] s.heap := hP
  have hl := lv_entry ([.ref x0, .int p0]) (n := 4) (Nat.le_of_ble_eq_true rfl)
  rw [lg_entry_eq]
  generalize (lg_sl ([.ref x0, .int p0]) ++ List.replicate (4 - (lg_sl ([.ref x0, .int p0])).length) Slot.unset).toArray = ls at hl ⊢
  have hl : lv_has ls 4 [(0, .ref x0), (1, .int p0)] := hl
  obtain ⟨G, hG0⟩ : ∃ G : Int32 × (Nat → Int32) × Int32, fX10_lay tpassesS tpassesF twayS twayF tws p0 = G := ⟨_, rfl⟩
  have hG := hG0
  unfold fX10_lay at hG
  refine lv_aload_n hx hb dX10_lay_0 rfl (lv_at hl 0 rfl) ?_
  refine va_get (D := (dC, dI)) (ci := 10) (v := .ref w0) (C := RX10) (T := TX10) (N := 13) hx hb hts iX10_lay_X10 hown hK.1 hP 0 gz0 vcz10 0 (by decide) (kX10_lay_1 hts) (fun _ h9 => h9) gz0 dX10_lay_1 ?_
  refine va_get (D := (dC, dI)) (ci := 9) (v := .int tws) (C := RX9) (T := TX9) (N := 10) hx hb hts iX10_lay_X9 hown hK.1 hP 1 gz1 vcz9 6 (by decide) (kX10_lay_2 hts) (fun _ h9 => h9) gz6 dX10_lay_4 ?_
  refine lv_iconst (v := (-1)) hx hb dX10_lay_7 (by decide) ?_
  refine lv_icmp_ne (tgt := 15) hx hb dX10_lay_8 (by decide) (fun c_1 => ?_) (fun c_1 => ?_)
  · have hG := zelse hG c_1
    refine lv_aload_n hx hb dX10_lay_15 rfl (lv_at hl 0 rfl) ?_
    refine va_get (D := (dC, dI)) (ci := 10) (v := .ref w0) (C := RX10) (T := TX10) (N := 13) hx hb hts iX10_lay_X10 hown hK.1 hP 0 gz0 vcz10 0 (by decide) (kX10_lay_1 hts) (fun _ h9 => h9) gz0 dX10_lay_16 ?_
    refine lv_iload_n hx hb dX10_lay_19 rfl (lv_at hl 1 rfl) ?_
    refine lv_aload_n hx hb dX10_lay_20 rfl (lv_at hl 0 rfl) ?_
    refine va_get (D := (dC, dI)) (ci := 10) (v := .ref w0) (C := RX10) (T := TX10) (N := 13) hx hb hts iX10_lay_X10 hown hK.1 hP 0 gz0 vcz10 0 (by decide) (kX10_lay_1 hts) (fun _ h9 => h9) gz0 dX10_lay_21 ?_
    refine z_i (wr := [(x0, .inr (10, [.ref w0, .ref z0, .ref xi, .ref xt, .int x_tl, .ref xq, .int x_lc, .ref rdr, .ref h0, .ref t0, .ref q0, .ref v0, .ref m0]))]) (va_runV (As := []) (rest := [.int p0, .ref w0]) ⟨hx, hb, hml, hown, hts⟩ (mX9_wayEnd l dC dI kA _ w0 tnodes tpasses tpassesA tpassesS tpassesF tjars torders tfeasts tway twayA twayS twayF tws tnow tfm tx) (cwV 0 hts gX10_lay_X9_wayEnd rfl rfl rfl ⟨rfl, hdX9_wayEnd⟩ ⟨(Nat.le_of_ble_eq_true rfl), (Nat.le_of_ble_eq_true rfl)⟩) ⟨zPc.blind, va_recv (q := (RX9, TX9, 10)) hK.1 hP (ci := 9) (q0 := 1) rfl rfl, zPre hK (hP.sub [1, 2, 3, 4, 5] rfl) (hD.sub [1, 2, 3, 4, 5] (by decide) rfl)⟩ rfl rfl hl.1 rfl (lv_room (Nat.le_of_ble_eq_true rfl)) dX10_lay_24 ⟨(Nat.le_of_ble_eq_true rfl), (Nat.le_of_ble_eq_true rfl)⟩) hP hD hS hA [1, 2, 3, 4, 5] [0] rfl rfl (by decide) (by decide) (fun r4 u2 H locs hw3 hP hD hS => ?_)
    obtain ⟨er7, hp6⟩ := hw3
    have er7 : r4 = u2 := er7
    subst er7
    have er4 : r4 = fX9_wayEnd tpassesS tpassesF twayS twayF tws := hp6
    have hG := zbnd hG er4
    obtain ⟨hP, hD⟩ := z_re (L := [(x0, .inr (10, [.ref w0, .ref z0, .ref xi, .ref xt, .int x_tl, .ref xq, .int x_lc, .ref rdr, .ref h0, .ref t0, .ref q0, .ref v0, .ref m0])), (w0, .inr (9, [.ref tnodes, .ref tpasses, .ref tjars, .ref torders, .ref tfeasts, .ref tway, .int tws, .int tnow, .int tfm, .int tx])), (tpasses, .inr (6, [.int 5, .ref tpassesA, .int tpassesS])), (tpassesA, .inl (kA 0, 100, .inl tpassesF)), (tway, .inr (6, [.int 1, .ref twayA, .int twayS])), (twayA, .inl (kA 0, 6, .inl twayF))]) hP hD
    refine z_i (wr := [(x0, .inr (10, [.ref w0, .ref z0, .ref xi, .ref xt, .int x_tl, .ref xq, .int x_lc, .ref rdr, .ref h0, .ref t0, .ref q0, .ref v0, .ref m0])), (tway, .inr (6, [.int 1, .ref twayA, .int twayS])), (twayA, .inl (kA 0, 6, .inl twayF))]) (va_runV (As := [.int p0, .int r4]) (rest := []) ⟨hx, hb, hml, hown, hts⟩ (mX9_otherEnd l dC dI kA _ w0 tnodes tpasses tpassesA tpassesS tpassesF tjars torders tfeasts tway tws tnow tfm tx p0 r4) (cwV 2 hts gX10_lay_X9_otherEnd rfl rfl rfl ⟨rfl, hdX9_otherEnd⟩ ⟨(Nat.le_of_ble_eq_true rfl), (Nat.le_of_ble_eq_true rfl)⟩) ⟨zPc.blind, va_recv (q := (RX9, TX9, 10)) hK.1 hP (ci := 9) (q0 := 1) rfl rfl, zPre hK (hP.sub [1, 2, 3] rfl) (hD.sub [1, 2, 3] (by decide) rfl)⟩ rfl rfl hl.1 rfl (lv_room (Nat.le_of_ble_eq_true rfl)) dX10_lay_27 ⟨(Nat.le_of_ble_eq_true rfl), (Nat.le_of_ble_eq_true rfl)⟩) hP hD hS hA [1, 2, 3] [0, 4, 5] rfl rfl (by decide) (by decide) (fun r11 u9 H locs hw10 hP hD hS => ?_)
    obtain ⟨er14, hp13⟩ := hw10
    have er14 : r11 = u9 := er14
    subst er14
    have er11 : r11 = fX9_otherEnd tpassesS tpassesF p0 r4 := hp13
    have hG := zbnd hG er11
    obtain ⟨hP, hD⟩ := z_re (L := [(x0, .inr (10, [.ref w0, .ref z0, .ref xi, .ref xt, .int x_tl, .ref xq, .int x_lc, .ref rdr, .ref h0, .ref t0, .ref q0, .ref v0, .ref m0])), (tway, .inr (6, [.int 1, .ref twayA, .int twayS])), (twayA, .inl (kA 0, 6, .inl twayF)), (w0, .inr (9, [.ref tnodes, .ref tpasses, .ref tjars, .ref torders, .ref tfeasts, .ref tway, .int tws, .int tnow, .int tfm, .int tx])), (tpasses, .inr (6, [.int 5, .ref tpassesA, .int tpassesS])), (tpassesA, .inl (kA 0, 100, .inl tpassesF))]) hP hD
    refine lv_istore_n (lv' := [(2, .int r11), (0, .ref x0), (1, .int p0)]) hx hb dX10_lay_30 rfl hl (by decide) rfl (fun ls hl => ?_)
    refine lv_iload_n hx hb dX10_lay_31 rfl (lv_at hl 0 rfl) ?_
    refine lv_iconst (v := (-1)) hx hb dX10_lay_32 (by decide) ?_
    refine lv_icmp_eq (tgt := 47) hx hb dX10_lay_33 (by decide) (fun c_16 => ?_) (fun c_16 => ?_)
    · have hG := zthen hG c_16
      refine lv_iconst (v := (-1)) hx hb dX10_lay_47 (by decide) ?_
      obtain ⟨hP9, hD9⟩ := z_sb (L' := [(x0, .inr (10, [.ref w0, .ref z0, .ref xi, .ref xt, .int x_tl, .ref xq, .int x_lc, .ref rdr, .ref h0, .ref t0, .ref q0, .ref v0, .ref m0])), (w0, .inr (9, [.ref tnodes, .ref tpasses, .ref tjars, .ref torders, .ref tfeasts, .ref tway, .int tws, .int tnow, .int tfm, .int tx])), (tpasses, .inr (6, [.int 5, .ref tpassesA, .int tpassesS])), (tpassesA, .inl (kA 0, 100, .inl tpassesF)), (tway, .inr (6, [.int 1, .ref twayA, .int twayS])), (twayA, .inl (kA 0, 6, .inl twayF))]) hP hD [0, 3, 4, 5, 1, 2] (by decide) rfl
      refine W.widen (k := 0) (n := 0) (Nat.le_of_ble_eq_true rfl) (Nat.le_of_ble_eq_true rfl) ?_
      exact W.iret (v := (-1)) hx hb hr (fun t ht hW => ⟨⟨(-1), (twayS, twayF, (-1)), rfl, ⟨rfl, (hG.trans hG0.symm)⟩, by rw [ht]; exact hP9, hD9⟩, hS.F ht⟩) hS.2.2 dX10_lay_48
    · have hG := zelse hG c_16
      refine lv_aload_n hx hb dX10_lay_36 rfl (lv_at hl 1 rfl) ?_
      refine va_get (D := (dC, dI)) (ci := 10) (v := .ref w0) (C := RX10) (T := TX10) (N := 13) hx hb hts iX10_lay_X10 hown hK.1 hP 0 gz0 vcz10 0 (by decide) (kX10_lay_1 hts) (fun _ h9 => h9) gz0 dX10_lay_37 ?_
      refine lv_iload_n hx hb dX10_lay_40 rfl (lv_at hl 0 rfl) ?_
      refine z_i (wr := [(x0, .inr (10, [.ref w0, .ref z0, .ref xi, .ref xt, .int x_tl, .ref xq, .int x_lc, .ref rdr, .ref h0, .ref t0, .ref q0, .ref v0, .ref m0]))]) (va_runV (As := [.int r11]) (rest := []) ⟨hx, hb, hml, hown, hts⟩ (mX9_wayHas l dC dI kA _ w0 tnodes tpasses tpassesA tpassesS tpassesF tjars torders tfeasts tway twayA twayS twayF tws tnow tfm tx r11) (cwV 1 hts gX10_lay_X9_wayHas rfl rfl rfl ⟨rfl, hdX9_wayHas⟩ ⟨(Nat.le_of_ble_eq_true rfl), (Nat.le_of_ble_eq_true rfl)⟩) ⟨zPc.blind, va_recv (q := (RX9, TX9, 10)) hK.1 hP (ci := 9) (q0 := 3) rfl rfl, zPre hK (hP.sub [3, 4, 5, 1, 2] rfl) (hD.sub [3, 4, 5, 1, 2] (by decide) rfl)⟩ rfl rfl hl.1 rfl (lv_room (Nat.le_of_ble_eq_true rfl)) dX10_lay_41 ⟨(Nat.le_of_ble_eq_true rfl), (Nat.le_of_ble_eq_true rfl)⟩) hP hD hS hA [3, 4, 5, 1, 2] [0] rfl rfl (by decide) (by decide) (fun r19 u17 H locs hw18 hP hD hS => ?_)
      obtain ⟨er23, hp21, hp22⟩ := hw18
      have er23 : r19 = u17 := er23
      subst er23
      have er19 : r19 = fX9_wayHas tpassesS tpassesF twayS twayF tws r11 := hp21
      have hG := zbnd hG er19
      obtain ⟨hP, hD⟩ := z_re (L := [(x0, .inr (10, [.ref w0, .ref z0, .ref xi, .ref xt, .int x_tl, .ref xq, .int x_lc, .ref rdr, .ref h0, .ref t0, .ref q0, .ref v0, .ref m0])), (w0, .inr (9, [.ref tnodes, .ref tpasses, .ref tjars, .ref torders, .ref tfeasts, .ref tway, .int tws, .int tnow, .int tfm, .int tx])), (tpasses, .inr (6, [.int 5, .ref tpassesA, .int tpassesS])), (tpassesA, .inl (kA 0, 100, .inl tpassesF)), (tway, .inr (6, [.int 1, .ref twayA, .int twayS])), (twayA, .inl (kA 0, 6, .inl twayF))]) hP hD
      refine lv_if_eq (tgt := 49) hx hb dX10_lay_44 (by decide) (fun c_25 => ?_) (fun c_25 => ?_)
      · have hG := zthen hG c_25
        refine lv_aload_n hx hb dX10_lay_49 rfl (lv_at hl 1 rfl) ?_
        refine va_get (D := (dC, dI)) (ci := 10) (v := .ref w0) (C := RX10) (T := TX10) (N := 13) hx hb hts iX10_lay_X10 hown hK.1 hP 0 gz0 vcz10 0 (by decide) (kX10_lay_1 hts) (fun _ h9 => h9) gz0 dX10_lay_50 ?_
        refine va_get (D := (dC, dI)) (ci := 9) (v := .ref tway) (C := RX9) (T := TX9) (N := 10) hx hb hts iX10_lay_X9 hown hK.1 hP 1 gz1 vcz9 5 (by decide) (kX10_lay_3 hts) (fun _ h9 => h9) gz5 dX10_lay_53 ?_
        refine z_i (wr := [(x0, .inr (10, [.ref w0, .ref z0, .ref xi, .ref xt, .int x_tl, .ref xq, .int x_lc, .ref rdr, .ref h0, .ref t0, .ref q0, .ref v0, .ref m0])), (w0, .inr (9, [.ref tnodes, .ref tpasses, .ref tjars, .ref torders, .ref tfeasts, .ref tway, .int tws, .int tnow, .int tfm, .int tx])), (tpasses, .inr (6, [.int 5, .ref tpassesA, .int tpassesS])), (tpassesA, .inl (kA 0, 100, .inl tpassesF))]) (va_runV (As := []) (rest := []) ⟨hx, hb, hml, hown, hts⟩ (mX6_grow_6 l dC dI kA _ tway twayA 1 twayS twayF) (cwV 0 hts gX10_lay_X6_grow rfl rfl rfl ⟨rfl, hdX6_grow⟩ ⟨(Nat.le_of_ble_eq_true rfl), (Nat.le_of_ble_eq_true rfl)⟩) ⟨zPc.blind, va_recv (q := (RX6, TX6, 3)) hK.1 hP (ci := 6) (q0 := 4) rfl rfl, zPre hK (hP.sub [4, 5] rfl) (hD.sub [4, 5] (by decide) rfl)⟩ rfl rfl hl.1 rfl (lv_room (Nat.le_of_ble_eq_true rfl)) dX10_lay_56 ⟨(Nat.le_of_ble_eq_true rfl), (Nat.le_of_ble_eq_true rfl)⟩) hP hD hS hA [4, 5] [0, 1, 2, 3] rfl rfl (by decide) (by decide) (fun r28 u26 H locs hw27 hP hD hS => ?_)
        obtain ⟨o29, r30⟩ := u26
        obtain ⟨er32, hp31⟩ := hw27
        have er32 : r28 = r30 := er32
        subst er32
        obtain ⟨q33, eq33⟩ : ∃ y : Int32 × Int32, y = fX6_grow_6 1 twayS := ⟨_, rfl⟩
        have hG := zbnd hG eq33
        have eo29 : o29 = q33.1 := by rw [eq33]; exact congrArg (fun z : Int32 × Int32 => z.1) hp31
        have hG := zbnd hG eo29
        have er28 : r28 = q33.2 := by rw [eq33]; exact congrArg (fun z : Int32 × Int32 => z.2) hp31
        have hG := zbnd hG er28
        obtain ⟨hP, hD⟩ := z_re (L := [(x0, .inr (10, [.ref w0, .ref z0, .ref xi, .ref xt, .int x_tl, .ref xq, .int x_lc, .ref rdr, .ref h0, .ref t0, .ref q0, .ref v0, .ref m0])), (w0, .inr (9, [.ref tnodes, .ref tpasses, .ref tjars, .ref torders, .ref tfeasts, .ref tway, .int tws, .int tnow, .int tfm, .int tx])), (tpasses, .inr (6, [.int 5, .ref tpassesA, .int tpassesS])), (tpassesA, .inl (kA 0, 100, .inl tpassesF)), (tway, .inr (6, [.int 1, .ref twayA, .int o29])), (twayA, .inl (kA 0, 6, .inl twayF))]) hP hD
        refine lv_istore_n (lv' := [(3, .int r28), (2, .int r11), (0, .ref x0), (1, .int p0)]) hx hb dX10_lay_59 rfl hl (by decide) rfl (fun ls hl => ?_)
        refine lv_iload_n hx hb dX10_lay_60 rfl (lv_at hl 0 rfl) ?_
        refine lv_iconst (v := (-1)) hx hb dX10_lay_61 (by decide) ?_
        refine lv_icmp_ne (tgt := 67) hx hb dX10_lay_62 (by decide) (fun c_34 => ?_) (fun c_34 => ?_)
        · have hG := zelse hG c_34
          refine lv_aload_n hx hb dX10_lay_67 rfl (lv_at hl 2 rfl) ?_
          refine va_get (D := (dC, dI)) (ci := 10) (v := .ref w0) (C := RX10) (T := TX10) (N := 13) hx hb hts iX10_lay_X10 hown hK.1 hP 0 gz0 vcz10 0 (by decide) (kX10_lay_1 hts) (fun _ h9 => h9) gz0 dX10_lay_68 ?_
          refine va_get (D := (dC, dI)) (ci := 9) (v := .ref tway) (C := RX9) (T := TX9) (N := 10) hx hb hts iX10_lay_X9 hown hK.1 hP 1 gz1 vcz9 5 (by decide) (kX10_lay_3 hts) (fun _ h9 => h9) gz5 dX10_lay_71 ?_
          refine lv_iload_n hx hb dX10_lay_74 rfl (lv_at hl 0 rfl) ?_
          refine lv_iconst (v := 0) hx hb dX10_lay_75 (by decide) ?_
          refine lv_iload_n hx hb dX10_lay_76 rfl (lv_at hl 3 rfl) ?_
          refine z_v (wr := [(x0, .inr (10, [.ref w0, .ref z0, .ref xi, .ref xt, .int x_tl, .ref xq, .int x_lc, .ref rdr, .ref h0, .ref t0, .ref q0, .ref v0, .ref m0])), (w0, .inr (9, [.ref tnodes, .ref tpasses, .ref tjars, .ref torders, .ref tfeasts, .ref tway, .int tws, .int tnow, .int tfm, .int tx])), (tpasses, .inr (6, [.int 5, .ref tpassesA, .int tpassesS])), (tpassesA, .inl (kA 0, 100, .inl tpassesF))]) (va_runV (As := [.int r28, .int 0, .int p0]) (rest := []) ⟨hx, hb, hml, hown, hts⟩ (mX6_put_6 l dC dI kA _ tway twayA 1 o29 twayF r28 0 p0) (cwV 3 hts gX10_lay_X6_put rfl rfl rfl ⟨rfl, hdX6_put⟩ ⟨(Nat.le_of_ble_eq_true rfl), (Nat.le_of_ble_eq_true rfl)⟩) ⟨zPc.blind, va_recv (q := (RX6, TX6, 3)) hK.1 hP (ci := 6) (q0 := 4) rfl rfl, zPre hK (hP.sub [4, 5] rfl) (hD.sub [4, 5] (by decide) rfl)⟩ rfl rfl hl.1 rfl (lv_room (Nat.le_of_ble_eq_true rfl)) dX10_lay_77 ⟨(Nat.le_of_ble_eq_true rfl), (Nat.le_of_ble_eq_true rfl)⟩) hP hD hS hA [4, 5] [0, 1, 2, 3] rfl rfl (by decide) (by decide) (fun u35 H locs hw36 hP hD hS => ?_)
          obtain ⟨o38, rfl⟩ : ∃ z, z = u35 := ⟨_, rfl⟩
          have hp39 := hw36
          have eo38 : o38 = fX6_put_6 1 twayF r28 0 p0 := hp39
          have hG := zbnd hG eo38
          obtain ⟨hP, hD⟩ := z_re (L := [(x0, .inr (10, [.ref w0, .ref z0, .ref xi, .ref xt, .int x_tl, .ref xq, .int x_lc, .ref rdr, .ref h0, .ref t0, .ref q0, .ref v0, .ref m0])), (w0, .inr (9, [.ref tnodes, .ref tpasses, .ref tjars, .ref torders, .ref tfeasts, .ref tway, .int tws, .int tnow, .int tfm, .int tx])), (tpasses, .inr (6, [.int 5, .ref tpassesA, .int tpassesS])), (tpassesA, .inl (kA 0, 100, .inl tpassesF)), (tway, .inr (6, [.int 1, .ref twayA, .int o29])), (twayA, .inl (kA 0, 6, .inl o38))]) hP hD
          refine lv_iload_n hx hb dX10_lay_80 rfl (lv_at hl 0 rfl) ?_
          refine lv_iconst (v := 1) hx hb dX10_lay_81 (by decide) ?_
          refine lv_iadd hx hb dX10_lay_82 ?_
          obtain ⟨hP9, hD9⟩ := z_sb (L' := [(x0, .inr (10, [.ref w0, .ref z0, .ref xi, .ref xt, .int x_tl, .ref xq, .int x_lc, .ref rdr, .ref h0, .ref t0, .ref q0, .ref v0, .ref m0])), (w0, .inr (9, [.ref tnodes, .ref tpasses, .ref tjars, .ref torders, .ref tfeasts, .ref tway, .int tws, .int tnow, .int tfm, .int tx])), (tpasses, .inr (6, [.int 5, .ref tpassesA, .int tpassesS])), (tpassesA, .inl (kA 0, 100, .inl tpassesF)), (tway, .inr (6, [.int 1, .ref twayA, .int o29])), (twayA, .inl (kA 0, 6, .inl o38))]) hP hD [0, 1, 2, 3, 4, 5] (by decide) rfl
          refine W.widen (k := 0) (n := 0) (Nat.le_of_ble_eq_true rfl) (Nat.le_of_ble_eq_true rfl) ?_
          exact W.iret (v := (r28 + 1)) hx hb hr (fun t ht hW => ⟨⟨(r28 + 1), (o29, o38, (r28 + 1)), rfl, ⟨rfl, (hG.trans hG0.symm)⟩, by rw [ht]; exact hP9, hD9⟩, hS.F ht⟩) hS.2.2 dX10_lay_83
        · have hG := zthen hG c_34
          refine lv_iconst (v := (-1)) hx hb dX10_lay_65 (by decide) ?_
          obtain ⟨hP9, hD9⟩ := z_sb (L' := [(x0, .inr (10, [.ref w0, .ref z0, .ref xi, .ref xt, .int x_tl, .ref xq, .int x_lc, .ref rdr, .ref h0, .ref t0, .ref q0, .ref v0, .ref m0])), (w0, .inr (9, [.ref tnodes, .ref tpasses, .ref tjars, .ref torders, .ref tfeasts, .ref tway, .int tws, .int tnow, .int tfm, .int tx])), (tpasses, .inr (6, [.int 5, .ref tpassesA, .int tpassesS])), (tpassesA, .inl (kA 0, 100, .inl tpassesF)), (tway, .inr (6, [.int 1, .ref twayA, .int o29])), (twayA, .inl (kA 0, 6, .inl twayF))]) hP hD [0, 1, 2, 3, 4, 5] (by decide) rfl
          refine W.widen (k := 0) (n := 0) (Nat.le_of_ble_eq_true rfl) (Nat.le_of_ble_eq_true rfl) ?_
          exact W.iret (v := (-1)) hx hb hr (fun t ht hW => ⟨⟨(-1), (o29, twayF, (-1)), rfl, ⟨rfl, (hG.trans hG0.symm)⟩, by rw [ht]; exact hP9, hD9⟩, hS.F ht⟩) hS.2.2 dX10_lay_66
      · have hG := zelse hG c_25
        refine lv_iconst (v := (-1)) hx hb dX10_lay_47 (by decide) ?_
        obtain ⟨hP9, hD9⟩ := z_sb (L' := [(x0, .inr (10, [.ref w0, .ref z0, .ref xi, .ref xt, .int x_tl, .ref xq, .int x_lc, .ref rdr, .ref h0, .ref t0, .ref q0, .ref v0, .ref m0])), (w0, .inr (9, [.ref tnodes, .ref tpasses, .ref tjars, .ref torders, .ref tfeasts, .ref tway, .int tws, .int tnow, .int tfm, .int tx])), (tpasses, .inr (6, [.int 5, .ref tpassesA, .int tpassesS])), (tpassesA, .inl (kA 0, 100, .inl tpassesF)), (tway, .inr (6, [.int 1, .ref twayA, .int twayS])), (twayA, .inl (kA 0, 6, .inl twayF))]) hP hD [0, 1, 2, 3, 4, 5] (by decide) rfl
        refine W.widen (k := 0) (n := 0) (Nat.le_of_ble_eq_true rfl) (Nat.le_of_ble_eq_true rfl) ?_
        exact W.iret (v := (-1)) hx hb hr (fun t ht hW => ⟨⟨(-1), (twayS, twayF, (-1)), rfl, ⟨rfl, (hG.trans hG0.symm)⟩, by rw [ht]; exact hP9, hD9⟩, hS.F ht⟩) hS.2.2 dX10_lay_48
  · have hG := zthen hG c_1
    refine lv_iconst (v := (-1)) hx hb dX10_lay_11 (by decide) ?_
    refine lv_goto (tgt := 30) hx hb dX10_lay_12 (by decide) ?_
    refine lv_istore_n (lv' := [(2, .int (-1)), (0, .ref x0), (1, .int p0)]) hx hb dX10_lay_30 rfl hl (by decide) rfl (fun ls hl => ?_)
    refine lv_iload_n hx hb dX10_lay_31 rfl (lv_at hl 0 rfl) ?_
    refine lv_iconst (v := (-1)) hx hb dX10_lay_32 (by decide) ?_
    refine lv_icmp_eq (tgt := 47) hx hb dX10_lay_33 (by decide) (fun _ => ?_) (fun c_41 => absurd (by decide) c_41)
    refine lv_iconst (v := (-1)) hx hb dX10_lay_47 (by decide) ?_
    obtain ⟨hP9, hD9⟩ := z_sb (L' := [(x0, .inr (10, [.ref w0, .ref z0, .ref xi, .ref xt, .int x_tl, .ref xq, .int x_lc, .ref rdr, .ref h0, .ref t0, .ref q0, .ref v0, .ref m0])), (w0, .inr (9, [.ref tnodes, .ref tpasses, .ref tjars, .ref torders, .ref tfeasts, .ref tway, .int tws, .int tnow, .int tfm, .int tx])), (tpasses, .inr (6, [.int 5, .ref tpassesA, .int tpassesS])), (tpassesA, .inl (kA 0, 100, .inl tpassesF)), (tway, .inr (6, [.int 1, .ref twayA, .int twayS])), (twayA, .inl (kA 0, 6, .inl twayF))]) hP hD [0, 1, 2, 3, 4, 5] (by decide) rfl
    refine W.widen (k := 0) (n := 0) (Nat.le_of_ble_eq_true rfl) (Nat.le_of_ble_eq_true rfl) ?_
    exact W.iret (v := (-1)) hx hb hr (fun t ht hW => ⟨⟨(-1), (twayS, twayF, (-1)), rfl, ⟨rfl, (hG.trans hG0.symm)⟩, by rw [ht]; exact hP9, hD9⟩, hS.F ht⟩) hS.2.2 dX10_lay_48
set_option maxRecDepth 100000 in
def fX10_soonest (tnodesS : Int32) (tpassesS : Int32) (tpassesF : Nat → Int32) (qfF : Nat → Int32) (p0 : Int32) (p1 : Int32) : (Nat → Int32) × Int32 := if (hs p0 tnodesS) = 0 then ((qfF, (-1))) else (if (hs p1 tnodesS) = 0 then ((qfF, (-1))) else (bnd (fX5_measure qfF tpassesS tpassesF p0 (-1) 1) (fun (o12 : Nat → Int32) => bnd (fX5_farTo o12 p1) (fun (r17 : Int32) => if 1000000 ≤ r17 then ((o12, (-2))) else ((o12, r17))))))
set_option maxHeartbeats 4000000 in
set_option maxRecDepth 100000 in
theorem mX10_soonest (l : Launch) (dC : Nat → ClassId) (dI : Nat → Nat → Nat) (kA : Nat → ClassId) (sz : Nat) (x0 : Nat) (z0 : Nat) (xi : Nat) (xt : Nat) (xq : Nat) (rdr : Nat) (h0 : Nat) (t0 : Nat) (q0 : Nat) (v0 : Nat) (m0 : Nat) (w0 : Nat) (x_tl : Int32) (x_lc : Int32) (tnodes : Nat) (tnodesA : Nat) (tnodesS : Int32) (tpasses : Nat) (tpassesA : Nat) (tpassesS : Int32) (tpassesF : Nat → Int32) (tjars : Nat) (torders : Nat) (tfeasts : Nat) (tway : Nat) (tws : Int32) (tnow : Int32) (tfm : Int32) (tx : Int32) (q_left : Int32) (q_leaving : Int32) (q_length : Int32) (q_target : Int32) (q_barred : Int32) (q_latest : Int32) (q_waited : Int32) (q_any : Int32) (qf : Nat) (qr : Nat) (qb : Nat) (qfF : Nat → Int32) (p0 : Int32) (p1 : Int32)  : Met l yX10_soonest wsX10_soonest ({ frames := 4, cells := 0, slots := 0, locals := 94 }) (zPc dC dI kA sz [.ref x0, .int p0, .int p1] [(x0, .inr (10, [.ref w0, .ref z0, .ref xi, .ref xt, .int x_tl, .ref xq, .int x_lc, .ref rdr, .ref h0, .ref t0, .ref q0, .ref v0, .ref m0])), (w0, .inr (9, [.ref tnodes, .ref tpasses, .ref tjars, .ref torders, .ref tfeasts, .ref tway, .int tws, .int tnow, .int tfm, .int tx])), (tnodes, .inr (6, [.int 4, .ref tnodesA, .int tnodesS])), (tpasses, .inr (6, [.int 5, .ref tpassesA, .int tpassesS])), (tpassesA, .inl (kA 0, 100, .inl tpassesF)), (q0, .inr (5, [.int q_left, .int q_leaving, .int q_length, .int q_target, .int q_barred, .int q_latest, .int q_waited, .int q_any, .ref qf, .ref qr, .ref qb, .ref w0, .ref t0])), (qf, .inl (kA 0, 12, .inl qfF))]) (va_Qi (fun (r : Int32) (u : (Nat → Int32) × Int32) => r = u.2 ∧ (u.1, u.2) = fX10_soonest tnodesS tpassesS tpassesF qfF p0 p1) (zB dC dI (va_A [(x0, .inr (10, [.ref w0, .ref z0, .ref xi, .ref xt, .int x_tl, .ref xq, .int x_lc, .ref rdr, .ref h0, .ref t0, .ref q0, .ref v0, .ref m0])), (w0, .inr (9, [.ref tnodes, .ref tpasses, .ref tjars, .ref torders, .ref tfeasts, .ref tway, .int tws, .int tnow, .int tfm, .int tx])), (tnodes, .inr (6, [.int 4, .ref tnodesA, .int tnodesS])), (tpasses, .inr (6, [.int 5, .ref tpassesA, .int tpassesS])), (tpassesA, .inl (kA 0, 100, .inl tpassesF)), (q0, .inr (5, [.int q_left, .int q_leaving, .int q_length, .int q_target, .int q_barred, .int q_latest, .int q_waited, .int q_any, .ref qf, .ref qr, .ref qb, .ref w0, .ref t0])), (qf, .inl (kA 0, 12, .inl qfF))] sz) (fun (u : (Nat → Int32) × Int32) => [(x0, .inr (10, [.ref w0, .ref z0, .ref xi, .ref xt, .int x_tl, .ref xq, .int x_lc, .ref rdr, .ref h0, .ref t0, .ref q0, .ref v0, .ref m0])), (w0, .inr (9, [.ref tnodes, .ref tpasses, .ref tjars, .ref torders, .ref tfeasts, .ref tway, .int tws, .int tnow, .int tfm, .int tx])), (tnodes, .inr (6, [.int 4, .ref tnodesA, .int tnodesS])), (tpasses, .inr (6, [.int 5, .ref tpassesA, .int tpassesS])), (tpassesA, .inl (kA 0, 100, .inl tpassesF)), (q0, .inr (5, [.int q_left, .int q_leaving, .int q_length, .int q_target, .int q_barred, .int q_latest, .int q_waited, .int q_any, .ref qf, .ref qr, .ref qb, .ref w0, .ref t0])), (qf, .inl (kA 0, 12, .inl u.1))])) (va_A [(x0, .inr (10, [.ref w0, .ref z0, .ref xi, .ref xt, .int x_tl, .ref xq, .int x_lc, .ref rdr, .ref h0, .ref t0, .ref q0, .ref v0, .ref m0])), (w0, .inr (9, [.ref tnodes, .ref tpasses, .ref tjars, .ref torders, .ref tfeasts, .ref tway, .int tws, .int tnow, .int tfm, .int tx])), (tnodes, .inr (6, [.int 4, .ref tnodesA, .int tnodesS])), (tpasses, .inr (6, [.int 5, .ref tpassesA, .int tpassesS])), (tpassesA, .inl (kA 0, 100, .inl tpassesF)), (q0, .inr (5, [.int q_left, .int q_leaving, .int q_length, .int q_target, .int q_barred, .int q_latest, .int q_waited, .int q_any, .ref qf, .ref qr, .ref qb, .ref w0, .ref t0])), (qf, .inl (kA 0, 12, .inl qfF))] sz)) 0 0 (va_A [(x0, .inr (10, [.ref w0, .ref z0, .ref xi, .ref xt, .int x_tl, .ref xq, .int x_lc, .ref rdr, .ref h0, .ref t0, .ref q0, .ref v0, .ref m0])), (w0, .inr (9, [.ref tnodes, .ref tpasses, .ref tjars, .ref torders, .ref tfeasts, .ref tway, .int tws, .int tnow, .int tfm, .int tx])), (tnodes, .inr (6, [.int 4, .ref tnodesA, .int tnodesS])), (tpasses, .inr (6, [.int 5, .ref tpassesA, .int tpassesS])), (tpassesA, .inl (kA 0, 100, .inl tpassesF)), (q0, .inr (5, [.int q_left, .int q_leaving, .int q_length, .int q_target, .int q_barred, .int q_latest, .int q_waited, .int q_any, .ref qf, .ref qr, .ref qb, .ref w0, .ref t0])), (qf, .inl (kA 0, 12, .inl qfF))] sz) := by
  refine Met.ofW (cc := cX10_soonest) (maxL := 4) (ret := (some .int)) pnX10 rfl ?_
  intro p e s m args below meth c s₁ B hml hv
  obtain ⟨rfl, hsz, hP, hK, hD0⟩ := hv
  have hx := B.exec
  have hb := B.bytes
  have hr := B.returns
  have hts := atoms_spec (ws := wsX10_soonest) B.pre
  have hown : s.vm.findClass RX10 = some m.cls := findClass_of_methodNamed B.named
  have hlocks := B.notSynchronized
  subst hsz
  have hD := hD0.self (sz := s.heap.size)
  generalize hAe : va_A [(x0, .inr (10, [.ref w0, .ref z0, .ref xi, .ref xt, .int x_tl, .ref xq, .int x_lc, .ref rdr, .ref h0, .ref t0, .ref q0, .ref v0, .ref m0])), (w0, .inr (9, [.ref tnodes, .ref tpasses, .ref tjars, .ref torders, .ref tfeasts, .ref tway, .int tws, .int tnow, .int tfm, .int tx])), (tnodes, .inr (6, [.int 4, .ref tnodesA, .int tnodesS])), (tpasses, .inr (6, [.int 5, .ref tpassesA, .int tpassesS])), (tpassesA, .inl (kA 0, 100, .inl tpassesF)), (q0, .inr (5, [.int q_left, .int q_leaving, .int q_length, .int q_target, .int q_barred, .int q_latest, .int q_waited, .int q_any, .ref qf, .ref qr, .ref qb, .ref w0, .ref t0])), (qf, .inl (kA 0, 12, .inl qfF))] s.heap.size = A at hD ⊢
  have hA : ∀ q : Nat, s.heap.size ≤ q → A q := zA_of hAe
  have hS : va_S A s.heap s.heap [] := va_S.rf
  have hP : va_P (dC, dI) vwCl [(x0, .inr (10, [.ref w0, .ref z0, .ref xi, .ref xt, .int x_tl, .ref xq, .int x_lc, .ref rdr, .ref h0, .ref t0, .ref q0, .ref v0, .ref m0])), (w0, .inr (9, [.ref tnodes, .ref tpasses, .ref tjars, .ref torders, .ref tfeasts, .ref tway, .int tws, .int tnow, .int tfm, .int tx])), (tnodes, .inr (6, [.int 4, .ref tnodesA, .int tnodesS])), (tpasses, .inr (6, [.int 5, .ref tpassesA, .int tpassesS])), (tpassesA, .inl (kA 0, 100, .inl tpassesF)), (q0, .inr (5, [.int q_left, .int q_leaving, .int q_length, .int q_target, .int q_barred, .int q_latest, .int q_waited, .int q_any, .ref qf, .ref qr, .ref qb, .ref w0, .ref t0])), (qf, .inl (kA 0, 12, .inl qfF))] s.heap := hP
  have hl := lv_entry ([.ref x0, .int p0, .int p1]) (n := 4) (Nat.le_of_ble_eq_true rfl)
  rw [lg_entry_eq]
  generalize (lg_sl ([.ref x0, .int p0, .int p1]) ++ List.replicate (4 - (lg_sl ([.ref x0, .int p0, .int p1])).length) Slot.unset).toArray = ls at hl ⊢
  have hl : lv_has ls 4 [(0, .ref x0), (1, .int p0), (2, .int p1)] := hl
  obtain ⟨G, hG0⟩ : ∃ G : (Nat → Int32) × Int32, fX10_soonest tnodesS tpassesS tpassesF qfF p0 p1 = G := ⟨_, rfl⟩
  have hG := hG0
  unfold fX10_soonest at hG
  refine lv_aload_n hx hb dX10_soonest_0 rfl (lv_at hl 0 rfl) ?_
  refine va_get (D := (dC, dI)) (ci := 10) (v := .ref w0) (C := RX10) (T := TX10) (N := 13) hx hb hts iX10_soonest_X10 hown hK.1 hP 0 gz0 vcz10 0 (by decide) (kX10_soonest_1 hts) (fun _ h9 => h9) gz0 dX10_soonest_1 ?_
  refine va_get (D := (dC, dI)) (ci := 9) (v := .ref tnodes) (C := RX9) (T := TX9) (N := 10) hx hb hts iX10_soonest_X9 hown hK.1 hP 1 gz1 vcz9 0 (by decide) (kX10_soonest_2 hts) (fun _ h9 => h9) gz0 dX10_soonest_4 ?_
  refine lv_iload_n hx hb dX10_soonest_7 rfl (lv_at hl 1 rfl) ?_
  refine z_i (wr := [(x0, .inr (10, [.ref w0, .ref z0, .ref xi, .ref xt, .int x_tl, .ref xq, .int x_lc, .ref rdr, .ref h0, .ref t0, .ref q0, .ref v0, .ref m0])), (w0, .inr (9, [.ref tnodes, .ref tpasses, .ref tjars, .ref torders, .ref tfeasts, .ref tway, .int tws, .int tnow, .int tfm, .int tx])), (tpasses, .inr (6, [.int 5, .ref tpassesA, .int tpassesS])), (tpassesA, .inl (kA 0, 100, .inl tpassesF)), (q0, .inr (5, [.int q_left, .int q_leaving, .int q_length, .int q_target, .int q_barred, .int q_latest, .int q_waited, .int q_any, .ref qf, .ref qr, .ref qb, .ref w0, .ref t0])), (qf, .inl (kA 0, 12, .inl qfF))]) (va_runV (As := [.int p0]) (rest := []) ⟨hx, hb, hml, hown, hts⟩ (mX6_has l dC dI kA _ tnodes tnodesA 4 tnodesS p0) (cwV 1 hts gX10_soonest_X6_has rfl rfl rfl ⟨rfl, hdX6_has⟩ ⟨(Nat.le_of_ble_eq_true rfl), (Nat.le_of_ble_eq_true rfl)⟩) ⟨zPc.blind, va_recv (q := (RX6, TX6, 3)) hK.1 hP (ci := 6) (q0 := 2) rfl rfl, zPre hK (hP.sub [2] rfl) (hD.sub [2] (by decide) rfl)⟩ rfl rfl hl.1 rfl (lv_room (Nat.le_of_ble_eq_true rfl)) dX10_soonest_8 ⟨(Nat.le_of_ble_eq_true rfl), (Nat.le_of_ble_eq_true rfl)⟩) hP hD hS hA [2] [0, 1, 3, 4, 5, 6] rfl rfl (by decide) (by decide) (fun r3 u1 H locs hw2 hP hD hS => ?_)
  obtain rfl := hw2
  obtain ⟨hP, hD⟩ := z_re (L := [(x0, .inr (10, [.ref w0, .ref z0, .ref xi, .ref xt, .int x_tl, .ref xq, .int x_lc, .ref rdr, .ref h0, .ref t0, .ref q0, .ref v0, .ref m0])), (w0, .inr (9, [.ref tnodes, .ref tpasses, .ref tjars, .ref torders, .ref tfeasts, .ref tway, .int tws, .int tnow, .int tfm, .int tx])), (tpasses, .inr (6, [.int 5, .ref tpassesA, .int tpassesS])), (tpassesA, .inl (kA 0, 100, .inl tpassesF)), (q0, .inr (5, [.int q_left, .int q_leaving, .int q_length, .int q_target, .int q_barred, .int q_latest, .int q_waited, .int q_any, .ref qf, .ref qr, .ref qb, .ref w0, .ref t0])), (qf, .inl (kA 0, 12, .inl qfF)), (tnodes, .inr (6, [.int 4, .ref tnodesA, .int tnodesS]))]) hP hD
  refine lv_if_eq (tgt := 28) hx hb dX10_soonest_11 (by decide) (fun c_4 => ?_) (fun c_4 => ?_)
  · have hG := zthen hG c_4
    refine lv_iconst (v := (-1)) hx hb dX10_soonest_28 (by decide) ?_
    obtain ⟨hP9, hD9⟩ := z_sb (L' := [(x0, .inr (10, [.ref w0, .ref z0, .ref xi, .ref xt, .int x_tl, .ref xq, .int x_lc, .ref rdr, .ref h0, .ref t0, .ref q0, .ref v0, .ref m0])), (w0, .inr (9, [.ref tnodes, .ref tpasses, .ref tjars, .ref torders, .ref tfeasts, .ref tway, .int tws, .int tnow, .int tfm, .int tx])), (tnodes, .inr (6, [.int 4, .ref tnodesA, .int tnodesS])), (tpasses, .inr (6, [.int 5, .ref tpassesA, .int tpassesS])), (tpassesA, .inl (kA 0, 100, .inl tpassesF)), (q0, .inr (5, [.int q_left, .int q_leaving, .int q_length, .int q_target, .int q_barred, .int q_latest, .int q_waited, .int q_any, .ref qf, .ref qr, .ref qb, .ref w0, .ref t0])), (qf, .inl (kA 0, 12, .inl qfF))]) hP hD [0, 1, 6, 2, 3, 4, 5] (by decide) rfl
    refine W.widen (k := 0) (n := 0) (Nat.le_of_ble_eq_true rfl) (Nat.le_of_ble_eq_true rfl) ?_
    exact W.iret (v := (-1)) hx hb hr (fun t ht hW => ⟨⟨(-1), (qfF, (-1)), rfl, ⟨rfl, (hG.trans hG0.symm)⟩, by rw [ht]; exact hP9, hD9⟩, hS.F ht⟩) hS.2.2 dX10_soonest_29
  · have hG := zelse hG c_4
    have c_4a := hs_ne c_4
    have c_4b := c_4a.2
    have c_4a := c_4a.1
    refine lv_aload_n hx hb dX10_soonest_14 rfl (lv_at hl 0 rfl) ?_
    refine va_get (D := (dC, dI)) (ci := 10) (v := .ref w0) (C := RX10) (T := TX10) (N := 13) hx hb hts iX10_soonest_X10 hown hK.1 hP 0 gz0 vcz10 0 (by decide) (kX10_soonest_1 hts) (fun _ h9 => h9) gz0 dX10_soonest_15 ?_
    refine va_get (D := (dC, dI)) (ci := 9) (v := .ref tnodes) (C := RX9) (T := TX9) (N := 10) hx hb hts iX10_soonest_X9 hown hK.1 hP 1 gz1 vcz9 0 (by decide) (kX10_soonest_2 hts) (fun _ h9 => h9) gz0 dX10_soonest_18 ?_
    refine lv_iload_n hx hb dX10_soonest_21 rfl (lv_at hl 2 rfl) ?_
    refine z_i (wr := [(x0, .inr (10, [.ref w0, .ref z0, .ref xi, .ref xt, .int x_tl, .ref xq, .int x_lc, .ref rdr, .ref h0, .ref t0, .ref q0, .ref v0, .ref m0])), (w0, .inr (9, [.ref tnodes, .ref tpasses, .ref tjars, .ref torders, .ref tfeasts, .ref tway, .int tws, .int tnow, .int tfm, .int tx])), (tpasses, .inr (6, [.int 5, .ref tpassesA, .int tpassesS])), (tpassesA, .inl (kA 0, 100, .inl tpassesF)), (q0, .inr (5, [.int q_left, .int q_leaving, .int q_length, .int q_target, .int q_barred, .int q_latest, .int q_waited, .int q_any, .ref qf, .ref qr, .ref qb, .ref w0, .ref t0])), (qf, .inl (kA 0, 12, .inl qfF))]) (va_runV (As := [.int p1]) (rest := []) ⟨hx, hb, hml, hown, hts⟩ (mX6_has l dC dI kA _ tnodes tnodesA 4 tnodesS p1) (cwV 1 hts gX10_soonest_X6_has rfl rfl rfl ⟨rfl, hdX6_has⟩ ⟨(Nat.le_of_ble_eq_true rfl), (Nat.le_of_ble_eq_true rfl)⟩) ⟨zPc.blind, va_recv (q := (RX6, TX6, 3)) hK.1 hP (ci := 6) (q0 := 6) rfl rfl, zPre hK (hP.sub [6] rfl) (hD.sub [6] (by decide) rfl)⟩ rfl rfl hl.1 rfl (lv_room (Nat.le_of_ble_eq_true rfl)) dX10_soonest_22 ⟨(Nat.le_of_ble_eq_true rfl), (Nat.le_of_ble_eq_true rfl)⟩) hP hD hS hA [6] [0, 1, 2, 3, 4, 5] rfl rfl (by decide) (by decide) (fun r7 u5 H locs hw6 hP hD hS => ?_)
    obtain rfl := hw6
    obtain ⟨hP, hD⟩ := z_re (L := [(x0, .inr (10, [.ref w0, .ref z0, .ref xi, .ref xt, .int x_tl, .ref xq, .int x_lc, .ref rdr, .ref h0, .ref t0, .ref q0, .ref v0, .ref m0])), (w0, .inr (9, [.ref tnodes, .ref tpasses, .ref tjars, .ref torders, .ref tfeasts, .ref tway, .int tws, .int tnow, .int tfm, .int tx])), (tpasses, .inr (6, [.int 5, .ref tpassesA, .int tpassesS])), (tpassesA, .inl (kA 0, 100, .inl tpassesF)), (q0, .inr (5, [.int q_left, .int q_leaving, .int q_length, .int q_target, .int q_barred, .int q_latest, .int q_waited, .int q_any, .ref qf, .ref qr, .ref qb, .ref w0, .ref t0])), (qf, .inl (kA 0, 12, .inl qfF)), (tnodes, .inr (6, [.int 4, .ref tnodesA, .int tnodesS]))]) hP hD
    refine lv_if_ne (tgt := 30) hx hb dX10_soonest_25 (by decide) (fun c_8 => ?_) (fun c_8 => ?_)
    · have hG := zelse hG c_8
      have c_8a := hs_ne c_8
      have c_8b := c_8a.2
      have c_8a := c_8a.1
      refine lv_aload_n hx hb dX10_soonest_30 rfl (lv_at hl 0 rfl) ?_
      refine va_get (D := (dC, dI)) (ci := 10) (v := .ref q0) (C := RX10) (T := TX10) (N := 13) hx hb hts iX10_soonest_X10 hown hK.1 hP 0 gz0 vcz10 10 (by decide) (kX10_soonest_3 hts) (fun _ h9 => h9) gz10 dX10_soonest_31 ?_
      refine lv_iload_n hx hb dX10_soonest_34 rfl (lv_at hl 1 rfl) ?_
      refine lv_iconst (v := (-1)) hx hb dX10_soonest_35 (by decide) ?_
      refine lv_iconst (v := 1) hx hb dX10_soonest_36 (by decide) ?_
      refine z_v (wr := [(x0, .inr (10, [.ref w0, .ref z0, .ref xi, .ref xt, .int x_tl, .ref xq, .int x_lc, .ref rdr, .ref h0, .ref t0, .ref q0, .ref v0, .ref m0])), (tnodes, .inr (6, [.int 4, .ref tnodesA, .int tnodesS]))]) (va_runV (As := [.int p0, .int (-1), .int 1]) (rest := []) ⟨hx, hb, hml, hown, hts⟩ (mX5_measure l dC dI kA _ q0 q_left q_leaving q_length q_target q_barred q_latest q_waited q_any qf qr qb qfF t0 w0 tnodes tpasses tpassesA tpassesS tpassesF tjars torders tfeasts tway tws tnow tfm tx p0 (-1) 1) (cwV 3 hts gX10_soonest_X5_measure rfl rfl rfl ⟨rfl, hdX5_measure⟩ ⟨(Nat.le_of_ble_eq_true rfl), (Nat.le_of_ble_eq_true rfl)⟩) ⟨zPc.blind, va_recv (q := (RX5, TX5, 13)) hK.1 hP (ci := 5) (q0 := 4) rfl rfl, zPre hK (hP.sub [4, 5, 1, 2, 3] rfl) (hD.sub [4, 5, 1, 2, 3] (by decide) rfl)⟩ rfl rfl hl.1 rfl (lv_room (Nat.le_of_ble_eq_true rfl)) dX10_soonest_37 ⟨(Nat.le_of_ble_eq_true rfl), (Nat.le_of_ble_eq_true rfl)⟩) hP hD hS hA [4, 5, 1, 2, 3] [0, 6] rfl rfl (by decide) (by decide) (fun u9 H locs hw10 hP hD hS => ?_)
      obtain ⟨o12, rfl⟩ : ∃ z, z = u9 := ⟨_, rfl⟩
      have hp13 := hw10
      have eo12 : o12 = fX5_measure qfF tpassesS tpassesF p0 (-1) 1 := hp13
      have hG := zbnd hG eo12
      obtain ⟨hP, hD⟩ := z_re (L := [(x0, .inr (10, [.ref w0, .ref z0, .ref xi, .ref xt, .int x_tl, .ref xq, .int x_lc, .ref rdr, .ref h0, .ref t0, .ref q0, .ref v0, .ref m0])), (tnodes, .inr (6, [.int 4, .ref tnodesA, .int tnodesS])), (q0, .inr (5, [.int q_left, .int q_leaving, .int q_length, .int q_target, .int q_barred, .int q_latest, .int q_waited, .int q_any, .ref qf, .ref qr, .ref qb, .ref w0, .ref t0])), (qf, .inl (kA 0, 12, .inl o12)), (w0, .inr (9, [.ref tnodes, .ref tpasses, .ref tjars, .ref torders, .ref tfeasts, .ref tway, .int tws, .int tnow, .int tfm, .int tx])), (tpasses, .inr (6, [.int 5, .ref tpassesA, .int tpassesS])), (tpassesA, .inl (kA 0, 100, .inl tpassesF))]) hP hD
      refine lv_aload_n hx hb dX10_soonest_40 rfl (lv_at hl 0 rfl) ?_
      refine va_get (D := (dC, dI)) (ci := 10) (v := .ref q0) (C := RX10) (T := TX10) (N := 13) hx hb hts iX10_soonest_X10 hown hK.1 hP 0 gz0 vcz10 10 (by decide) (kX10_soonest_3 hts) (fun _ h9 => h9) gz10 dX10_soonest_41 ?_
      refine lv_iload_n hx hb dX10_soonest_44 rfl (lv_at hl 2 rfl) ?_
      refine z_i (wr := [(x0, .inr (10, [.ref w0, .ref z0, .ref xi, .ref xt, .int x_tl, .ref xq, .int x_lc, .ref rdr, .ref h0, .ref t0, .ref q0, .ref v0, .ref m0])), (tnodes, .inr (6, [.int 4, .ref tnodesA, .int tnodesS])), (w0, .inr (9, [.ref tnodes, .ref tpasses, .ref tjars, .ref torders, .ref tfeasts, .ref tway, .int tws, .int tnow, .int tfm, .int tx])), (tpasses, .inr (6, [.int 5, .ref tpassesA, .int tpassesS])), (tpassesA, .inl (kA 0, 100, .inl tpassesF))]) (va_runV (As := [.int p1]) (rest := []) ⟨hx, hb, hml, hown, hts⟩ (mX5_farTo l dC dI kA _ q0 q_left q_leaving q_length q_target q_barred q_latest q_waited q_any qf qr qb o12 t0 w0 p1) (cwV 1 hts gX10_soonest_X5_farTo rfl rfl rfl ⟨rfl, hdX5_farTo⟩ ⟨(Nat.le_of_ble_eq_true rfl), (Nat.le_of_ble_eq_true rfl)⟩) ⟨zPc.blind, va_recv (q := (RX5, TX5, 13)) hK.1 hP (ci := 5) (q0 := 2) rfl rfl, zPre hK (hP.sub [2, 3] rfl) (hD.sub [2, 3] (by decide) rfl)⟩ rfl rfl hl.1 rfl (lv_room (Nat.le_of_ble_eq_true rfl)) dX10_soonest_45 ⟨(Nat.le_of_ble_eq_true rfl), (Nat.le_of_ble_eq_true rfl)⟩) hP hD hS hA [2, 3] [0, 1, 4, 5, 6] rfl rfl (by decide) (by decide) (fun r17 u15 H locs hw16 hP hD hS => ?_)
      obtain ⟨er20, hp19⟩ := hw16
      have er20 : r17 = u15 := er20
      subst er20
      have er17 : r17 = fX5_farTo o12 p1 := hp19
      have hG := zbnd hG er17
      obtain ⟨hP, hD⟩ := z_re (L := [(x0, .inr (10, [.ref w0, .ref z0, .ref xi, .ref xt, .int x_tl, .ref xq, .int x_lc, .ref rdr, .ref h0, .ref t0, .ref q0, .ref v0, .ref m0])), (tnodes, .inr (6, [.int 4, .ref tnodesA, .int tnodesS])), (w0, .inr (9, [.ref tnodes, .ref tpasses, .ref tjars, .ref torders, .ref tfeasts, .ref tway, .int tws, .int tnow, .int tfm, .int tx])), (tpasses, .inr (6, [.int 5, .ref tpassesA, .int tpassesS])), (tpassesA, .inl (kA 0, 100, .inl tpassesF)), (q0, .inr (5, [.int q_left, .int q_leaving, .int q_length, .int q_target, .int q_barred, .int q_latest, .int q_waited, .int q_any, .ref qf, .ref qr, .ref qb, .ref w0, .ref t0])), (qf, .inl (kA 0, 12, .inl o12))]) hP hD
      refine lv_istore_n (lv' := [(3, .int r17), (0, .ref x0), (1, .int p0), (2, .int p1)]) hx hb dX10_soonest_48 rfl hl (by decide) rfl (fun ls hl => ?_)
      refine lv_iload_n hx hb dX10_soonest_49 rfl (lv_at hl 0 rfl) ?_
      refine lv_ldc hx hb hown (kX10_soonest_4 hts) dX10_soonest_50 ?_
      refine lv_icmp_ge (tgt := 59) hx hb dX10_soonest_52 (by decide) (fun c_22 => ?_) (fun c_22 => ?_)
      · have hG := zthen hG c_22
        refine lv_bipush (v := (-2)) hx hb dX10_soonest_59 (by decide) ?_
        obtain ⟨hP9, hD9⟩ := z_sb (L' := [(x0, .inr (10, [.ref w0, .ref z0, .ref xi, .ref xt, .int x_tl, .ref xq, .int x_lc, .ref rdr, .ref h0, .ref t0, .ref q0, .ref v0, .ref m0])), (w0, .inr (9, [.ref tnodes, .ref tpasses, .ref tjars, .ref torders, .ref tfeasts, .ref tway, .int tws, .int tnow, .int tfm, .int tx])), (tnodes, .inr (6, [.int 4, .ref tnodesA, .int tnodesS])), (tpasses, .inr (6, [.int 5, .ref tpassesA, .int tpassesS])), (tpassesA, .inl (kA 0, 100, .inl tpassesF)), (q0, .inr (5, [.int q_left, .int q_leaving, .int q_length, .int q_target, .int q_barred, .int q_latest, .int q_waited, .int q_any, .ref qf, .ref qr, .ref qb, .ref w0, .ref t0])), (qf, .inl (kA 0, 12, .inl o12))]) hP hD [0, 2, 1, 3, 4, 5, 6] (by decide) rfl
        refine W.widen (k := 0) (n := 0) (Nat.le_of_ble_eq_true rfl) (Nat.le_of_ble_eq_true rfl) ?_
        exact W.iret (v := (-2)) hx hb hr (fun t ht hW => ⟨⟨(-2), (o12, (-2)), rfl, ⟨rfl, (hG.trans hG0.symm)⟩, by rw [ht]; exact hP9, hD9⟩, hS.F ht⟩) hS.2.2 dX10_soonest_61
      · have hG := zelse hG c_22
        refine lv_iload_n hx hb dX10_soonest_55 rfl (lv_at hl 0 rfl) ?_
        refine lv_goto (tgt := 61) hx hb dX10_soonest_56 (by decide) ?_
        obtain ⟨hP9, hD9⟩ := z_sb (L' := [(x0, .inr (10, [.ref w0, .ref z0, .ref xi, .ref xt, .int x_tl, .ref xq, .int x_lc, .ref rdr, .ref h0, .ref t0, .ref q0, .ref v0, .ref m0])), (w0, .inr (9, [.ref tnodes, .ref tpasses, .ref tjars, .ref torders, .ref tfeasts, .ref tway, .int tws, .int tnow, .int tfm, .int tx])), (tnodes, .inr (6, [.int 4, .ref tnodesA, .int tnodesS])), (tpasses, .inr (6, [.int 5, .ref tpassesA, .int tpassesS])), (tpassesA, .inl (kA 0, 100, .inl tpassesF)), (q0, .inr (5, [.int q_left, .int q_leaving, .int q_length, .int q_target, .int q_barred, .int q_latest, .int q_waited, .int q_any, .ref qf, .ref qr, .ref qb, .ref w0, .ref t0])), (qf, .inl (kA 0, 12, .inl o12))]) hP hD [0, 2, 1, 3, 4, 5, 6] (by decide) rfl
        refine W.widen (k := 0) (n := 0) (Nat.le_of_ble_eq_true rfl) (Nat.le_of_ble_eq_true rfl) ?_
        exact W.iret (v := r17) hx hb hr (fun t ht hW => ⟨⟨r17, (o12, r17), rfl, ⟨rfl, (hG.trans hG0.symm)⟩, by rw [ht]; exact hP9, hD9⟩, hS.F ht⟩) hS.2.2 dX10_soonest_61
    · have hG := zthen hG c_8
      refine lv_iconst (v := (-1)) hx hb dX10_soonest_28 (by decide) ?_
      obtain ⟨hP9, hD9⟩ := z_sb (L' := [(x0, .inr (10, [.ref w0, .ref z0, .ref xi, .ref xt, .int x_tl, .ref xq, .int x_lc, .ref rdr, .ref h0, .ref t0, .ref q0, .ref v0, .ref m0])), (w0, .inr (9, [.ref tnodes, .ref tpasses, .ref tjars, .ref torders, .ref tfeasts, .ref tway, .int tws, .int tnow, .int tfm, .int tx])), (tnodes, .inr (6, [.int 4, .ref tnodesA, .int tnodesS])), (tpasses, .inr (6, [.int 5, .ref tpassesA, .int tpassesS])), (tpassesA, .inl (kA 0, 100, .inl tpassesF)), (q0, .inr (5, [.int q_left, .int q_leaving, .int q_length, .int q_target, .int q_barred, .int q_latest, .int q_waited, .int q_any, .ref qf, .ref qr, .ref qb, .ref w0, .ref t0])), (qf, .inl (kA 0, 12, .inl qfF))]) hP hD [0, 1, 6, 2, 3, 4, 5] (by decide) rfl
      refine W.widen (k := 0) (n := 0) (Nat.le_of_ble_eq_true rfl) (Nat.le_of_ble_eq_true rfl) ?_
      exact W.iret (v := (-1)) hx hb hr (fun t ht hW => ⟨⟨(-1), (qfF, (-1)), rfl, ⟨rfl, (hG.trans hG0.symm)⟩, by rw [ht]; exact hP9, hD9⟩, hS.F ht⟩) hS.2.2 dX10_soonest_29
set_option maxRecDepth 100000 in
def fb_mX10_nearest_45 (tnodesS : Int32) (tnodesF : Nat → Int32) (p1 : Int32) (o12 : Nat → Int32) (E107 : Int32 → Int32 → Int32 → ((Nat → Int32) × Int32)) (K : Int32 → Int32 → Int32 → ((Nat → Int32) × Int32)) (l45_0 : Int32) (l45_1 : Int32) (l45_2 : Int32) : (Nat → Int32) × Int32 := if tnodesS ≤ l45_0 then (E107 l45_0 l45_1 l45_2) else (bnd (fX9_hasSnow tnodesF l45_0 p1) (fun (ry45_4 : Int32) => if ry45_4 = 0 then (bnd ((l45_0 + 1)) (fun (xy45_11 : Int32) => K xy45_11 l45_1 l45_2)) else (bnd (fX5_farTo o12 l45_0) (fun (ry45_14 : Int32) => if l45_1 ≤ ry45_14 then (bnd ((l45_0 + 1)) (fun (xy45_20 : Int32) => K xy45_20 l45_1 l45_2)) else (bnd (fX5_farTo o12 l45_0) (fun (ry45_23 : Int32) => bnd ((l45_0 + 1)) (fun (xy45_28 : Int32) => K xy45_28 ry45_23 l45_0)))))))
def fl_mX10_nearest_45 (tnodesS : Int32) (tnodesF : Nat → Int32) (p1 : Int32) (o12 : Nat → Int32) (E107 : Int32 → Int32 → Int32 → ((Nat → Int32) × Int32)) : Nat → Int32 → Int32 → Int32 → ((Nat → Int32) × Int32)
  | 0, _, _, _ => ((fun _ => 0), 0)
  | n + 1, l45_0, l45_1, l45_2 => fb_mX10_nearest_45 tnodesS tnodesF p1 o12 E107 (fl_mX10_nearest_45 tnodesS tnodesF p1 o12 E107 n) l45_0 l45_1 l45_2
set_option maxHeartbeats 4000000 in
set_option maxRecDepth 100000 in
theorem lp_mX10_nearest_45 {p : Program} {l : Launch} {e : Env} {R : Room} {s : State} {m : MethodId} {args : Array Value} {below : List Frame} {meth : Method} {c : Code} {Q : State → Prop} {dC : Nat → ClassId} {dI : Nat → Nat → Nat} {kA : Nat → ClassId} {A : Nat → Prop} {H0 : Heap} {cells slots : Nat} (hx : p.tables.exec = Jvm.exec) (hb : c.code = cX10_nearest) (hml : c.maxLocals = 6) (hts : ∀ w ∈ wsX10_nearest, w.before args s = true) (hown : s.vm.findClass RX10 = some m.cls) (hK : zK dC dI kA s) (hA : ∀ q, H0.size ≤ q → A q) (hRf : 2 ≤ R.frames) (hRl : 45 ≤ R.locals) (hRc : cells ≤ R.cells) (hRs : slots ≤ R.slots) (x0 : Nat) (z0 : Nat) (xi : Nat) (xt : Nat) (xq : Nat) (rdr : Nat) (h0 : Nat) (t0 : Nat) (q0 : Nat) (v0 : Nat) (m0 : Nat) (w0 : Nat) (x_tl : Int32) (x_lc : Int32) (tnodes : Nat) (tnodesA : Nat) (tnodesS : Int32) (tnodesF : Nat → Int32) (tpasses : Nat) (tpassesA : Nat) (tpassesS : Int32) (tpassesF : Nat → Int32) (tjars : Nat) (torders : Nat) (tfeasts : Nat) (tway : Nat) (tws : Int32) (tnow : Int32) (tfm : Int32) (tx : Int32) (q_left : Int32) (q_leaving : Int32) (q_length : Int32) (q_target : Int32) (q_barred : Int32) (q_latest : Int32) (q_waited : Int32) (q_any : Int32) (qf : Nat) (qr : Nat) (qb : Nat) (p0 : Int32) (p1 : Int32) (o12 : Nat → Int32) {G : (Nat → Int32) × Int32} {E107 : Int32 → Int32 → Int32 → ((Nat → Int32) × Int32)} (c_4 : ¬ (hs p0 tnodesS) = 0) (c_4a : ¬ p0 < 0) (c_4b : ¬ tnodesS ≤ p0) (c_8 : ¬ (wi p1 11) = 0) (c_8a : ¬ p1 < 0) (c_8b : ¬ 11 < p1) (k107 : ∀ (w107_0 : Int32) (w107_1 : Int32) (w107_2 : Int32) (H : Heap) (locs : List Loc) (ls : Array Slot), ¬ w107_0 < 0 → E107 w107_0 w107_1 w107_2 = G → va_P (dC, dI) vwCl [(x0, .inr (10, [.ref w0, .ref z0, .ref xi, .ref xt, .int x_tl, .ref xq, .int x_lc, .ref rdr, .ref h0, .ref t0, .ref q0, .ref v0, .ref m0])), (tnodesA, .inl (kA 0, 48, .inl tnodesF)), (tnodes, .inr (6, [.int 4, .ref tnodesA, .int tnodesS])), (q0, .inr (5, [.int q_left, .int q_leaving, .int q_length, .int q_target, .int q_barred, .int q_latest, .int q_waited, .int q_any, .ref qf, .ref qr, .ref qb, .ref w0, .ref t0])), (qf, .inl (kA 0, 12, .inl o12)), (w0, .inr (9, [.ref tnodes, .ref tpasses, .ref tjars, .ref torders, .ref tfeasts, .ref tway, .int tws, .int tnow, .int tfm, .int tx])), (tpasses, .inr (6, [.int 5, .ref tpassesA, .int tpassesS])), (tpassesA, .inl (kA 0, 100, .inl tpassesF))] H → va_D A [(x0, .inr (10, [.ref w0, .ref z0, .ref xi, .ref xt, .int x_tl, .ref xq, .int x_lc, .ref rdr, .ref h0, .ref t0, .ref q0, .ref v0, .ref m0])), (tnodesA, .inl (kA 0, 48, .inl tnodesF)), (tnodes, .inr (6, [.int 4, .ref tnodesA, .int tnodesS])), (q0, .inr (5, [.int q_left, .int q_leaving, .int q_length, .int q_target, .int q_barred, .int q_latest, .int q_waited, .int q_any, .ref qf, .ref qr, .ref qb, .ref w0, .ref t0])), (qf, .inl (kA 0, 12, .inl o12)), (w0, .inr (9, [.ref tnodes, .ref tpasses, .ref tjars, .ref torders, .ref tfeasts, .ref tway, .int tws, .int tnow, .int tfm, .int tx])), (tpasses, .inr (6, [.int 5, .ref tpassesA, .int tpassesS])), (tpassesA, .inl (kA 0, 100, .inl tpassesF))] → va_S A H0 H locs → lv_has ls 6 [(5, .int w107_0), (4, .int w107_1), (3, .int w107_2), (0, .ref x0), (1, .int p0), (2, .int p1)] → W p l e R s m args below meth c H locs cells slots Q (F0 m 107 ls []))  : ∀ (n : Nat) (l45_0 : Int32) (l45_1 : Int32) (l45_2 : Int32) (H : Heap) (locs : List Loc) (ls : Array Slot), ((tnodesS : Int32).toInt - l45_0.toInt).toNat < n → fl_mX10_nearest_45 tnodesS tnodesF p1 o12 E107 n l45_0 l45_1 l45_2 = G → ¬ l45_0 < 0 → va_P (dC, dI) vwCl [(x0, .inr (10, [.ref w0, .ref z0, .ref xi, .ref xt, .int x_tl, .ref xq, .int x_lc, .ref rdr, .ref h0, .ref t0, .ref q0, .ref v0, .ref m0])), (tnodesA, .inl (kA 0, 48, .inl tnodesF)), (tnodes, .inr (6, [.int 4, .ref tnodesA, .int tnodesS])), (q0, .inr (5, [.int q_left, .int q_leaving, .int q_length, .int q_target, .int q_barred, .int q_latest, .int q_waited, .int q_any, .ref qf, .ref qr, .ref qb, .ref w0, .ref t0])), (qf, .inl (kA 0, 12, .inl o12)), (w0, .inr (9, [.ref tnodes, .ref tpasses, .ref tjars, .ref torders, .ref tfeasts, .ref tway, .int tws, .int tnow, .int tfm, .int tx])), (tpasses, .inr (6, [.int 5, .ref tpassesA, .int tpassesS])), (tpassesA, .inl (kA 0, 100, .inl tpassesF))] H → va_D A [(x0, .inr (10, [.ref w0, .ref z0, .ref xi, .ref xt, .int x_tl, .ref xq, .int x_lc, .ref rdr, .ref h0, .ref t0, .ref q0, .ref v0, .ref m0])), (tnodesA, .inl (kA 0, 48, .inl tnodesF)), (tnodes, .inr (6, [.int 4, .ref tnodesA, .int tnodesS])), (q0, .inr (5, [.int q_left, .int q_leaving, .int q_length, .int q_target, .int q_barred, .int q_latest, .int q_waited, .int q_any, .ref qf, .ref qr, .ref qb, .ref w0, .ref t0])), (qf, .inl (kA 0, 12, .inl o12)), (w0, .inr (9, [.ref tnodes, .ref tpasses, .ref tjars, .ref torders, .ref tfeasts, .ref tway, .int tws, .int tnow, .int tfm, .int tx])), (tpasses, .inr (6, [.int 5, .ref tpassesA, .int tpassesS])), (tpassesA, .inl (kA 0, 100, .inl tpassesF))] → va_S A H0 H locs → lv_has ls 6 [(5, .int l45_0), (4, .int l45_1), (3, .int l45_2), (0, .ref x0), (1, .int p0), (2, .int p1)] → W p l e R s m args below meth c H locs cells slots Q (F0 m 45 ls []) := by
  intro n
  induction n with
  | zero =>
    intro l45_0 l45_1 l45_2 H locs ls hn
    exact absurd hn (Nat.not_lt_zero _)
  | succ n ih =>
    intro l45_0 l45_1 l45_2 H locs ls hn hG hi45 hP hD hS hl
    have hG : fb_mX10_nearest_45 tnodesS tnodesF p1 o12 E107 (fl_mX10_nearest_45 tnodesS tnodesF p1 o12 E107 n) l45_0 l45_1 l45_2 = G := hG
    unfold fb_mX10_nearest_45 at hG
    refine lv_iload hx hb dX10_nearest_45 (lv_at hl 0 rfl) ?_
    refine lv_aload_n hx hb dX10_nearest_47 rfl (lv_at hl 3 rfl) ?_
    refine va_get (D := (dC, dI)) (ci := 10) (v := .ref w0) (C := RX10) (T := TX10) (N := 13) hx hb hts iX10_nearest_X10 hown hK.1 hP 0 gz0 vcz10 0 (by decide) (kX10_nearest_1 hts) (fun _ h9 => h9) gz0 dX10_nearest_48 ?_
    refine va_get (D := (dC, dI)) (ci := 9) (v := .ref tnodes) (C := RX9) (T := TX9) (N := 10) hx hb hts iX10_nearest_X9 hown hK.1 hP 5 gz5 vcz9 0 (by decide) (kX10_nearest_2 hts) (fun _ h9 => h9) gz0 dX10_nearest_51 ?_
    refine va_get (D := (dC, dI)) (ci := 6) (v := .int tnodesS) (C := RX6) (T := TX6) (N := 3) hx hb hts iX10_nearest_X6 hown hK.1 hP 2 gz2 vcz6 2 (by decide) (kX10_nearest_5 hts) (fun _ h9 => h9) gz2 dX10_nearest_54 ?_
    refine lv_icmp_ge (tgt := 107) hx hb dX10_nearest_57 (by decide) (fun c_y45_1 => ?_) (fun c_y45_1 => ?_)
    · have hG := zthen hG c_y45_1
      exact k107 l45_0 l45_1 l45_2 H locs ls hi45 hG (hP.sub [0, 1, 2, 3, 4, 5, 6, 7] rfl) (hD.sub [0, 1, 2, 3, 4, 5, 6, 7] (by decide) rfl) hS (lv_sub hl [0, 1, 2, 3, 4, 5] rfl)
    · have hG := zelse hG c_y45_1
      refine lv_aload_n hx hb dX10_nearest_60 rfl (lv_at hl 3 rfl) ?_
      refine va_get (D := (dC, dI)) (ci := 10) (v := .ref w0) (C := RX10) (T := TX10) (N := 13) hx hb hts iX10_nearest_X10 hown hK.1 hP 0 gz0 vcz10 0 (by decide) (kX10_nearest_1 hts) (fun _ h9 => h9) gz0 dX10_nearest_61 ?_
      refine lv_iload hx hb dX10_nearest_64 (lv_at hl 0 rfl) ?_
      refine lv_iload_n hx hb dX10_nearest_66 rfl (lv_at hl 5 rfl) ?_
      refine z_i (wr := [(x0, .inr (10, [.ref w0, .ref z0, .ref xi, .ref xt, .int x_tl, .ref xq, .int x_lc, .ref rdr, .ref h0, .ref t0, .ref q0, .ref v0, .ref m0])), (q0, .inr (5, [.int q_left, .int q_leaving, .int q_length, .int q_target, .int q_barred, .int q_latest, .int q_waited, .int q_any, .ref qf, .ref qr, .ref qb, .ref w0, .ref t0])), (qf, .inl (kA 0, 12, .inl o12)), (tpasses, .inr (6, [.int 5, .ref tpassesA, .int tpassesS])), (tpassesA, .inl (kA 0, 100, .inl tpassesF))]) (va_runV (As := [.int l45_0, .int p1]) (rest := []) ⟨hx, hb, hml, hown, hts⟩ (mX9_hasSnow l dC dI kA _ w0 tnodes tnodesA tnodesS tnodesF tpasses tjars torders tfeasts tway tws tnow tfm tx l45_0 p1) (cwV 2 hts gX10_nearest_X9_hasSnow rfl rfl rfl ⟨rfl, hdX9_hasSnow⟩ ⟨(Nat.le_trans (Nat.le_of_ble_eq_true rfl) hRf), (Nat.le_trans (Nat.le_of_ble_eq_true rfl) hRl)⟩) ⟨zPc.blind, va_recv (q := (RX9, TX9, 10)) hK.1 hP (ci := 9) (q0 := 5) rfl rfl, zPre hK (hP.sub [5, 2, 1] rfl) (hD.sub [5, 2, 1] (by decide) rfl)⟩ rfl rfl hl.1 rfl (lv_room (Nat.le_of_ble_eq_true rfl)) dX10_nearest_67 ⟨hRc, hRs⟩) hP hD hS hA [5, 2, 1] [0, 3, 4, 6, 7] rfl rfl (by decide) (by decide) (fun ry45_4 uy45_2 H locs hwy45_3 hP hD hS => ?_)
      obtain ⟨ery45_8, hpy45_6, hpy45_7⟩ := hwy45_3
      have ery45_8 : ry45_4 = uy45_2 := ery45_8
      subst ery45_8
      have ery45_4 : ry45_4 = fX9_hasSnow tnodesF l45_0 p1 := hpy45_6
      have hG := zbnd hG ery45_4
      obtain ⟨hP, hD⟩ := z_re (L := [(x0, .inr (10, [.ref w0, .ref z0, .ref xi, .ref xt, .int x_tl, .ref xq, .int x_lc, .ref rdr, .ref h0, .ref t0, .ref q0, .ref v0, .ref m0])), (q0, .inr (5, [.int q_left, .int q_leaving, .int q_length, .int q_target, .int q_barred, .int q_latest, .int q_waited, .int q_any, .ref qf, .ref qr, .ref qb, .ref w0, .ref t0])), (qf, .inl (kA 0, 12, .inl o12)), (tpasses, .inr (6, [.int 5, .ref tpassesA, .int tpassesS])), (tpassesA, .inl (kA 0, 100, .inl tpassesF)), (w0, .inr (9, [.ref tnodes, .ref tpasses, .ref tjars, .ref torders, .ref tfeasts, .ref tway, .int tws, .int tnow, .int tfm, .int tx])), (tnodes, .inr (6, [.int 4, .ref tnodesA, .int tnodesS])), (tnodesA, .inl (kA 0, 48, .inl tnodesF))]) hP hD
      refine lv_if_eq (tgt := 101) hx hb dX10_nearest_70 (by decide) (fun c_y45_10 => ?_) (fun c_y45_10 => ?_)
      · have hG := zthen hG c_y45_10
        obtain ⟨xy45_11, exy45_11⟩ : ∃ y : Int32, y = l45_0 + 1 := ⟨_, rfl⟩
        have hG := zbnd hG exy45_11
        refine lv_iinc (v := xy45_11) (lv' := [(5, .int xy45_11), (4, .int l45_1), (3, .int l45_2), (0, .ref x0), (1, .int p0), (2, .int p1)]) hx hb dX10_nearest_101 hl (k := 0) rfl (by rw [exy45_11]; rfl) (by decide) rfl (fun ls hl => ?_)
        refine lv_goto (tgt := 45) hx hb dX10_nearest_104 (by decide) ?_
        exact ih xy45_11 l45_1 l45_2 H locs ls (z_up hn exy45_11 c_y45_1) hG (z_nn exy45_11 c_y45_1 hi45) (hP.sub [0, 7, 6, 1, 2, 5, 3, 4] rfl) (hD.sub [0, 7, 6, 1, 2, 5, 3, 4] (by decide) rfl) hS (lv_sub hl [0, 1, 2, 3, 4, 5] rfl)
      · have hG := zelse hG c_y45_10
        refine lv_aload_n hx hb dX10_nearest_73 rfl (lv_at hl 3 rfl) ?_
        refine va_get (D := (dC, dI)) (ci := 10) (v := .ref q0) (C := RX10) (T := TX10) (N := 13) hx hb hts iX10_nearest_X10 hown hK.1 hP 0 gz0 vcz10 10 (by decide) (kX10_nearest_3 hts) (fun _ h9 => h9) gz10 dX10_nearest_74 ?_
        refine lv_iload hx hb dX10_nearest_77 (lv_at hl 0 rfl) ?_
        refine z_i (wr := [(x0, .inr (10, [.ref w0, .ref z0, .ref xi, .ref xt, .int x_tl, .ref xq, .int x_lc, .ref rdr, .ref h0, .ref t0, .ref q0, .ref v0, .ref m0])), (tpasses, .inr (6, [.int 5, .ref tpassesA, .int tpassesS])), (tpassesA, .inl (kA 0, 100, .inl tpassesF)), (w0, .inr (9, [.ref tnodes, .ref tpasses, .ref tjars, .ref torders, .ref tfeasts, .ref tway, .int tws, .int tnow, .int tfm, .int tx])), (tnodes, .inr (6, [.int 4, .ref tnodesA, .int tnodesS])), (tnodesA, .inl (kA 0, 48, .inl tnodesF))]) (va_runV (As := [.int l45_0]) (rest := []) ⟨hx, hb, hml, hown, hts⟩ (mX5_farTo l dC dI kA _ q0 q_left q_leaving q_length q_target q_barred q_latest q_waited q_any qf qr qb o12 t0 w0 l45_0) (cwV 1 hts gX10_nearest_X5_farTo rfl rfl rfl ⟨rfl, hdX5_farTo⟩ ⟨(Nat.le_trans (Nat.le_of_ble_eq_true rfl) hRf), (Nat.le_trans (Nat.le_of_ble_eq_true rfl) hRl)⟩) ⟨zPc.blind, va_recv (q := (RX5, TX5, 13)) hK.1 hP (ci := 5) (q0 := 1) rfl rfl, zPre hK (hP.sub [1, 2] rfl) (hD.sub [1, 2] (by decide) rfl)⟩ rfl rfl hl.1 rfl (lv_room (Nat.le_of_ble_eq_true rfl)) dX10_nearest_79 ⟨hRc, hRs⟩) hP hD hS hA [1, 2] [0, 3, 4, 5, 6, 7] rfl rfl (by decide) (by decide) (fun ry45_14 uy45_12 H locs hwy45_13 hP hD hS => ?_)
        obtain ⟨ery45_17, hpy45_16⟩ := hwy45_13
        have ery45_17 : ry45_14 = uy45_12 := ery45_17
        subst ery45_17
        have ery45_14 : ry45_14 = fX5_farTo o12 l45_0 := hpy45_16
        have hG := zbnd hG ery45_14
        obtain ⟨hP, hD⟩ := z_re (L := [(x0, .inr (10, [.ref w0, .ref z0, .ref xi, .ref xt, .int x_tl, .ref xq, .int x_lc, .ref rdr, .ref h0, .ref t0, .ref q0, .ref v0, .ref m0])), (tpasses, .inr (6, [.int 5, .ref tpassesA, .int tpassesS])), (tpassesA, .inl (kA 0, 100, .inl tpassesF)), (w0, .inr (9, [.ref tnodes, .ref tpasses, .ref tjars, .ref torders, .ref tfeasts, .ref tway, .int tws, .int tnow, .int tfm, .int tx])), (tnodes, .inr (6, [.int 4, .ref tnodesA, .int tnodesS])), (tnodesA, .inl (kA 0, 48, .inl tnodesF)), (q0, .inr (5, [.int q_left, .int q_leaving, .int q_length, .int q_target, .int q_barred, .int q_latest, .int q_waited, .int q_any, .ref qf, .ref qr, .ref qb, .ref w0, .ref t0])), (qf, .inl (kA 0, 12, .inl o12))]) hP hD
        refine lv_iload hx hb dX10_nearest_82 (lv_at hl 1 rfl) ?_
        refine lv_icmp_ge (tgt := 101) hx hb dX10_nearest_84 (by decide) (fun c_y45_19 => ?_) (fun c_y45_19 => ?_)
        · have hG := zthen hG c_y45_19
          obtain ⟨xy45_20, exy45_20⟩ : ∃ y : Int32, y = l45_0 + 1 := ⟨_, rfl⟩
          have hG := zbnd hG exy45_20
          refine lv_iinc (v := xy45_20) (lv' := [(5, .int xy45_20), (4, .int l45_1), (3, .int l45_2), (0, .ref x0), (1, .int p0), (2, .int p1)]) hx hb dX10_nearest_101 hl (k := 0) rfl (by rw [exy45_20]; rfl) (by decide) rfl (fun ls hl => ?_)
          refine lv_goto (tgt := 45) hx hb dX10_nearest_104 (by decide) ?_
          exact ih xy45_20 l45_1 l45_2 H locs ls (z_up hn exy45_20 c_y45_1) hG (z_nn exy45_20 c_y45_1 hi45) (hP.sub [0, 5, 4, 6, 7, 3, 1, 2] rfl) (hD.sub [0, 5, 4, 6, 7, 3, 1, 2] (by decide) rfl) hS (lv_sub hl [0, 1, 2, 3, 4, 5] rfl)
        · have hG := zelse hG c_y45_19
          refine lv_iload hx hb dX10_nearest_87 (lv_at hl 0 rfl) ?_
          refine lv_istore_n (lv' := [(3, .int l45_0), (5, .int l45_0), (4, .int l45_1), (0, .ref x0), (1, .int p0), (2, .int p1)]) hx hb dX10_nearest_89 rfl hl (by decide) rfl (fun ls hl => ?_)
          refine lv_aload_n hx hb dX10_nearest_90 rfl (lv_at hl 3 rfl) ?_
          refine va_get (D := (dC, dI)) (ci := 10) (v := .ref q0) (C := RX10) (T := TX10) (N := 13) hx hb hts iX10_nearest_X10 hown hK.1 hP 0 gz0 vcz10 10 (by decide) (kX10_nearest_3 hts) (fun _ h9 => h9) gz10 dX10_nearest_91 ?_
          refine lv_iload hx hb dX10_nearest_94 (lv_at hl 1 rfl) ?_
          refine z_i (wr := [(x0, .inr (10, [.ref w0, .ref z0, .ref xi, .ref xt, .int x_tl, .ref xq, .int x_lc, .ref rdr, .ref h0, .ref t0, .ref q0, .ref v0, .ref m0])), (tpasses, .inr (6, [.int 5, .ref tpassesA, .int tpassesS])), (tpassesA, .inl (kA 0, 100, .inl tpassesF)), (w0, .inr (9, [.ref tnodes, .ref tpasses, .ref tjars, .ref torders, .ref tfeasts, .ref tway, .int tws, .int tnow, .int tfm, .int tx])), (tnodes, .inr (6, [.int 4, .ref tnodesA, .int tnodesS])), (tnodesA, .inl (kA 0, 48, .inl tnodesF))]) (va_runV (As := [.int l45_0]) (rest := []) ⟨hx, hb, hml, hown, hts⟩ (mX5_farTo l dC dI kA _ q0 q_left q_leaving q_length q_target q_barred q_latest q_waited q_any qf qr qb o12 t0 w0 l45_0) (cwV 1 hts gX10_nearest_X5_farTo rfl rfl rfl ⟨rfl, hdX5_farTo⟩ ⟨(Nat.le_trans (Nat.le_of_ble_eq_true rfl) hRf), (Nat.le_trans (Nat.le_of_ble_eq_true rfl) hRl)⟩) ⟨zPc.blind, va_recv (q := (RX5, TX5, 13)) hK.1 hP (ci := 5) (q0 := 6) rfl rfl, zPre hK (hP.sub [6, 7] rfl) (hD.sub [6, 7] (by decide) rfl)⟩ rfl rfl hl.1 rfl (lv_room (Nat.le_of_ble_eq_true rfl)) dX10_nearest_96 ⟨hRc, hRs⟩) hP hD hS hA [6, 7] [0, 1, 2, 3, 4, 5] rfl rfl (by decide) (by decide) (fun ry45_23 uy45_21 H locs hwy45_22 hP hD hS => ?_)
          obtain ⟨ery45_26, hpy45_25⟩ := hwy45_22
          have ery45_26 : ry45_23 = uy45_21 := ery45_26
          subst ery45_26
          have ery45_23 : ry45_23 = fX5_farTo o12 l45_0 := hpy45_25
          have hG := zbnd hG ery45_23
          obtain ⟨hP, hD⟩ := z_re (L := [(x0, .inr (10, [.ref w0, .ref z0, .ref xi, .ref xt, .int x_tl, .ref xq, .int x_lc, .ref rdr, .ref h0, .ref t0, .ref q0, .ref v0, .ref m0])), (tpasses, .inr (6, [.int 5, .ref tpassesA, .int tpassesS])), (tpassesA, .inl (kA 0, 100, .inl tpassesF)), (w0, .inr (9, [.ref tnodes, .ref tpasses, .ref tjars, .ref torders, .ref tfeasts, .ref tway, .int tws, .int tnow, .int tfm, .int tx])), (tnodes, .inr (6, [.int 4, .ref tnodesA, .int tnodesS])), (tnodesA, .inl (kA 0, 48, .inl tnodesF)), (q0, .inr (5, [.int q_left, .int q_leaving, .int q_length, .int q_target, .int q_barred, .int q_latest, .int q_waited, .int q_any, .ref qf, .ref qr, .ref qb, .ref w0, .ref t0])), (qf, .inl (kA 0, 12, .inl o12))]) hP hD
          refine lv_istore (lv' := [(4, .int ry45_23), (3, .int l45_0), (5, .int l45_0), (0, .ref x0), (1, .int p0), (2, .int p1)]) hx hb dX10_nearest_99 hl (by decide) rfl (fun ls hl => ?_)
          obtain ⟨xy45_28, exy45_28⟩ : ∃ y : Int32, y = l45_0 + 1 := ⟨_, rfl⟩
          have hG := zbnd hG exy45_28
          refine lv_iinc (v := xy45_28) (lv' := [(5, .int xy45_28), (4, .int ry45_23), (3, .int l45_0), (0, .ref x0), (1, .int p0), (2, .int p1)]) hx hb dX10_nearest_101 hl (k := 2) rfl (by rw [exy45_28]; rfl) (by decide) rfl (fun ls hl => ?_)
          refine lv_goto (tgt := 45) hx hb dX10_nearest_104 (by decide) ?_
          exact ih xy45_28 ry45_23 l45_0 H locs ls (z_up hn exy45_28 c_y45_1) hG (z_nn exy45_28 c_y45_1 hi45) (hP.sub [0, 5, 4, 6, 7, 3, 1, 2] rfl) (hD.sub [0, 5, 4, 6, 7, 3, 1, 2] (by decide) rfl) hS (lv_sub hl [0, 1, 2, 3, 4, 5] rfl)
set_option maxRecDepth 100000 in
def fX10_nearest (tnodesS : Int32) (tnodesF : Nat → Int32) (tpassesS : Int32) (tpassesF : Nat → Int32) (qfF : Nat → Int32) (p0 : Int32) (p1 : Int32) : (Nat → Int32) × Int32 := if (hs p0 tnodesS) = 0 then ((qfF, (-1))) else (if (wi p1 11) = 0 then ((qfF, (-1))) else (bnd (fX5_measure qfF tpassesS tpassesF p0 (-1) 1) (fun (o12 : Nat → Int32) => fl_mX10_nearest_45 tnodesS tnodesF p1 o12 (fun (w107_0_0 : Int32) (w107_1_0 : Int32) (w107_2_0 : Int32) => (o12, w107_2_0)) (((tnodesS : Int32).toInt - (0 : Int32).toInt).toNat + 1) 0 1000000 (-2))))
set_option maxHeartbeats 4000000 in
set_option maxRecDepth 100000 in
theorem mX10_nearest (l : Launch) (dC : Nat → ClassId) (dI : Nat → Nat → Nat) (kA : Nat → ClassId) (sz : Nat) (x0 : Nat) (z0 : Nat) (xi : Nat) (xt : Nat) (xq : Nat) (rdr : Nat) (h0 : Nat) (t0 : Nat) (q0 : Nat) (v0 : Nat) (m0 : Nat) (w0 : Nat) (x_tl : Int32) (x_lc : Int32) (tnodes : Nat) (tnodesA : Nat) (tnodesS : Int32) (tnodesF : Nat → Int32) (tpasses : Nat) (tpassesA : Nat) (tpassesS : Int32) (tpassesF : Nat → Int32) (tjars : Nat) (torders : Nat) (tfeasts : Nat) (tway : Nat) (tws : Int32) (tnow : Int32) (tfm : Int32) (tx : Int32) (q_left : Int32) (q_leaving : Int32) (q_length : Int32) (q_target : Int32) (q_barred : Int32) (q_latest : Int32) (q_waited : Int32) (q_any : Int32) (qf : Nat) (qr : Nat) (qb : Nat) (qfF : Nat → Int32) (p0 : Int32) (p1 : Int32)  : Met l yX10_nearest wsX10_nearest ({ frames := 4, cells := 0, slots := 0, locals := 94 }) (zPc dC dI kA sz [.ref x0, .int p0, .int p1] [(x0, .inr (10, [.ref w0, .ref z0, .ref xi, .ref xt, .int x_tl, .ref xq, .int x_lc, .ref rdr, .ref h0, .ref t0, .ref q0, .ref v0, .ref m0])), (w0, .inr (9, [.ref tnodes, .ref tpasses, .ref tjars, .ref torders, .ref tfeasts, .ref tway, .int tws, .int tnow, .int tfm, .int tx])), (tnodes, .inr (6, [.int 4, .ref tnodesA, .int tnodesS])), (tnodesA, .inl (kA 0, 48, .inl tnodesF)), (tpasses, .inr (6, [.int 5, .ref tpassesA, .int tpassesS])), (tpassesA, .inl (kA 0, 100, .inl tpassesF)), (q0, .inr (5, [.int q_left, .int q_leaving, .int q_length, .int q_target, .int q_barred, .int q_latest, .int q_waited, .int q_any, .ref qf, .ref qr, .ref qb, .ref w0, .ref t0])), (qf, .inl (kA 0, 12, .inl qfF))]) (va_Qi (fun (r : Int32) (u : (Nat → Int32) × Int32) => r = u.2 ∧ (u.1, u.2) = fX10_nearest tnodesS tnodesF tpassesS tpassesF qfF p0 p1) (zB dC dI (va_A [(x0, .inr (10, [.ref w0, .ref z0, .ref xi, .ref xt, .int x_tl, .ref xq, .int x_lc, .ref rdr, .ref h0, .ref t0, .ref q0, .ref v0, .ref m0])), (w0, .inr (9, [.ref tnodes, .ref tpasses, .ref tjars, .ref torders, .ref tfeasts, .ref tway, .int tws, .int tnow, .int tfm, .int tx])), (tnodes, .inr (6, [.int 4, .ref tnodesA, .int tnodesS])), (tnodesA, .inl (kA 0, 48, .inl tnodesF)), (tpasses, .inr (6, [.int 5, .ref tpassesA, .int tpassesS])), (tpassesA, .inl (kA 0, 100, .inl tpassesF)), (q0, .inr (5, [.int q_left, .int q_leaving, .int q_length, .int q_target, .int q_barred, .int q_latest, .int q_waited, .int q_any, .ref qf, .ref qr, .ref qb, .ref w0, .ref t0])), (qf, .inl (kA 0, 12, .inl qfF))] sz) (fun (u : (Nat → Int32) × Int32) => [(x0, .inr (10, [.ref w0, .ref z0, .ref xi, .ref xt, .int x_tl, .ref xq, .int x_lc, .ref rdr, .ref h0, .ref t0, .ref q0, .ref v0, .ref m0])), (w0, .inr (9, [.ref tnodes, .ref tpasses, .ref tjars, .ref torders, .ref tfeasts, .ref tway, .int tws, .int tnow, .int tfm, .int tx])), (tnodes, .inr (6, [.int 4, .ref tnodesA, .int tnodesS])), (tnodesA, .inl (kA 0, 48, .inl tnodesF)), (tpasses, .inr (6, [.int 5, .ref tpassesA, .int tpassesS])), (tpassesA, .inl (kA 0, 100, .inl tpassesF)), (q0, .inr (5, [.int q_left, .int q_leaving, .int q_length, .int q_target, .int q_barred, .int q_latest, .int q_waited, .int q_any, .ref qf, .ref qr, .ref qb, .ref w0, .ref t0])), (qf, .inl (kA 0, 12, .inl u.1))])) (va_A [(x0, .inr (10, [.ref w0, .ref z0, .ref xi, .ref xt, .int x_tl, .ref xq, .int x_lc, .ref rdr, .ref h0, .ref t0, .ref q0, .ref v0, .ref m0])), (w0, .inr (9, [.ref tnodes, .ref tpasses, .ref tjars, .ref torders, .ref tfeasts, .ref tway, .int tws, .int tnow, .int tfm, .int tx])), (tnodes, .inr (6, [.int 4, .ref tnodesA, .int tnodesS])), (tnodesA, .inl (kA 0, 48, .inl tnodesF)), (tpasses, .inr (6, [.int 5, .ref tpassesA, .int tpassesS])), (tpassesA, .inl (kA 0, 100, .inl tpassesF)), (q0, .inr (5, [.int q_left, .int q_leaving, .int q_length, .int q_target, .int q_barred, .int q_latest, .int q_waited, .int q_any, .ref qf, .ref qr, .ref qb, .ref w0, .ref t0])), (qf, .inl (kA 0, 12, .inl qfF))] sz)) 0 0 (va_A [(x0, .inr (10, [.ref w0, .ref z0, .ref xi, .ref xt, .int x_tl, .ref xq, .int x_lc, .ref rdr, .ref h0, .ref t0, .ref q0, .ref v0, .ref m0])), (w0, .inr (9, [.ref tnodes, .ref tpasses, .ref tjars, .ref torders, .ref tfeasts, .ref tway, .int tws, .int tnow, .int tfm, .int tx])), (tnodes, .inr (6, [.int 4, .ref tnodesA, .int tnodesS])), (tnodesA, .inl (kA 0, 48, .inl tnodesF)), (tpasses, .inr (6, [.int 5, .ref tpassesA, .int tpassesS])), (tpassesA, .inl (kA 0, 100, .inl tpassesF)), (q0, .inr (5, [.int q_left, .int q_leaving, .int q_length, .int q_target, .int q_barred, .int q_latest, .int q_waited, .int q_any, .ref qf, .ref qr, .ref qb, .ref w0, .ref t0])), (qf, .inl (kA 0, 12, .inl qfF))] sz) := by
  refine Met.ofW (cc := cX10_nearest) (maxL := 6) (ret := (some .int)) pnX10 rfl ?_
  intro p e s m args below meth c s₁ B hml hv
  obtain ⟨rfl, hsz, hP, hK, hD0⟩ := hv
  have hx := B.exec
  have hb := B.bytes
  have hr := B.returns
  have hts := atoms_spec (ws := wsX10_nearest) B.pre
  have hown : s.vm.findClass RX10 = some m.cls := findClass_of_methodNamed B.named
  have hlocks := B.notSynchronized
  subst hsz
  have hD := hD0.self (sz := s.heap.size)
  generalize hAe : va_A [(x0, .inr (10, [.ref w0, .ref z0, .ref xi, .ref xt, .int x_tl, .ref xq, .int x_lc, .ref rdr, .ref h0, .ref t0, .ref q0, .ref v0, .ref m0])), (w0, .inr (9, [.ref tnodes, .ref tpasses, .ref tjars, .ref torders, .ref tfeasts, .ref tway, .int tws, .int tnow, .int tfm, .int tx])), (tnodes, .inr (6, [.int 4, .ref tnodesA, .int tnodesS])), (tnodesA, .inl (kA 0, 48, .inl tnodesF)), (tpasses, .inr (6, [.int 5, .ref tpassesA, .int tpassesS])), (tpassesA, .inl (kA 0, 100, .inl tpassesF)), (q0, .inr (5, [.int q_left, .int q_leaving, .int q_length, .int q_target, .int q_barred, .int q_latest, .int q_waited, .int q_any, .ref qf, .ref qr, .ref qb, .ref w0, .ref t0])), (qf, .inl (kA 0, 12, .inl qfF))] s.heap.size = A at hD ⊢
  have hA : ∀ q : Nat, s.heap.size ≤ q → A q := zA_of hAe
  have hS : va_S A s.heap s.heap [] := va_S.rf
  have hP : va_P (dC, dI) vwCl [(x0, .inr (10, [.ref w0, .ref z0, .ref xi, .ref xt, .int x_tl, .ref xq, .int x_lc, .ref rdr, .ref h0, .ref t0, .ref q0, .ref v0, .ref m0])), (w0, .inr (9, [.ref tnodes, .ref tpasses, .ref tjars, .ref torders, .ref tfeasts, .ref tway, .int tws, .int tnow, .int tfm, .int tx])), (tnodes, .inr (6, [.int 4, .ref tnodesA, .int tnodesS])), (tnodesA, .inl (kA 0, 48, .inl tnodesF)), (tpasses, .inr (6, [.int 5, .ref tpassesA, .int tpassesS])), (tpassesA, .inl (kA 0, 100, .inl tpassesF)), (q0, .inr (5, [.int q_left, .int q_leaving, .int q_length, .int q_target, .int q_barred, .int q_latest, .int q_waited, .int q_any, .ref qf, .ref qr, .ref qb, .ref w0, .ref t0])), (qf, .inl (kA 0, 12, .inl qfF))] s.heap := hP
  have hl := lv_entry ([.ref x0, .int p0, .int p1]) (n := 6) (Nat.le_of_ble_eq_true rfl)
  rw [lg_entry_eq]
  generalize (lg_sl ([.ref x0, .int p0, .int p1]) ++ List.replicate (6 - (lg_sl ([.ref x0, .int p0, .int p1])).length) Slot.unset).toArray = ls at hl ⊢
  have hl : lv_has ls 6 [(0, .ref x0), (1, .int p0), (2, .int p1)] := hl
  obtain ⟨H, hHe⟩ : ∃ H : Heap, H = s.heap := ⟨_, rfl⟩
  obtain ⟨G, hG0⟩ : ∃ G : (Nat → Int32) × Int32, fX10_nearest tnodesS tnodesF tpassesS tpassesF qfF p0 p1 = G := ⟨_, rfl⟩
  have hG := hG0
  unfold fX10_nearest at hG
  refine lv_aload_n hx hb dX10_nearest_0 rfl (lv_at hl 0 rfl) ?_
  refine va_get (D := (dC, dI)) (ci := 10) (v := .ref w0) (C := RX10) (T := TX10) (N := 13) hx hb hts iX10_nearest_X10 hown hK.1 hP 0 gz0 vcz10 0 (by decide) (kX10_nearest_1 hts) (fun _ h9 => h9) gz0 dX10_nearest_1 ?_
  refine va_get (D := (dC, dI)) (ci := 9) (v := .ref tnodes) (C := RX9) (T := TX9) (N := 10) hx hb hts iX10_nearest_X9 hown hK.1 hP 1 gz1 vcz9 0 (by decide) (kX10_nearest_2 hts) (fun _ h9 => h9) gz0 dX10_nearest_4 ?_
  refine lv_iload_n hx hb dX10_nearest_7 rfl (lv_at hl 1 rfl) ?_
  refine z_i (wr := [(x0, .inr (10, [.ref w0, .ref z0, .ref xi, .ref xt, .int x_tl, .ref xq, .int x_lc, .ref rdr, .ref h0, .ref t0, .ref q0, .ref v0, .ref m0])), (w0, .inr (9, [.ref tnodes, .ref tpasses, .ref tjars, .ref torders, .ref tfeasts, .ref tway, .int tws, .int tnow, .int tfm, .int tx])), (tnodesA, .inl (kA 0, 48, .inl tnodesF)), (tpasses, .inr (6, [.int 5, .ref tpassesA, .int tpassesS])), (tpassesA, .inl (kA 0, 100, .inl tpassesF)), (q0, .inr (5, [.int q_left, .int q_leaving, .int q_length, .int q_target, .int q_barred, .int q_latest, .int q_waited, .int q_any, .ref qf, .ref qr, .ref qb, .ref w0, .ref t0])), (qf, .inl (kA 0, 12, .inl qfF))]) (va_runV (As := [.int p0]) (rest := []) ⟨hx, hb, hml, hown, hts⟩ (mX6_has l dC dI kA _ tnodes tnodesA 4 tnodesS p0) (cwV 1 hts gX10_nearest_X6_has rfl rfl rfl ⟨rfl, hdX6_has⟩ ⟨(Nat.le_of_ble_eq_true rfl), (Nat.le_of_ble_eq_true rfl)⟩) ⟨zPc.blind, va_recv (q := (RX6, TX6, 3)) hK.1 hP (ci := 6) (q0 := 2) rfl rfl, zPre hK (hP.sub [2] rfl) (hD.sub [2] (by decide) rfl)⟩ rfl rfl hl.1 rfl (lv_room (Nat.le_of_ble_eq_true rfl)) dX10_nearest_8 ⟨(Nat.le_of_ble_eq_true rfl), (Nat.le_of_ble_eq_true rfl)⟩) hP hD hS hA [2] [0, 1, 3, 4, 5, 6, 7] rfl rfl (by decide) (by decide) (fun r3 u1 H locs hw2 hP hD hS => ?_)
  obtain rfl := hw2
  obtain ⟨hP, hD⟩ := z_re (L := [(x0, .inr (10, [.ref w0, .ref z0, .ref xi, .ref xt, .int x_tl, .ref xq, .int x_lc, .ref rdr, .ref h0, .ref t0, .ref q0, .ref v0, .ref m0])), (w0, .inr (9, [.ref tnodes, .ref tpasses, .ref tjars, .ref torders, .ref tfeasts, .ref tway, .int tws, .int tnow, .int tfm, .int tx])), (tnodesA, .inl (kA 0, 48, .inl tnodesF)), (tpasses, .inr (6, [.int 5, .ref tpassesA, .int tpassesS])), (tpassesA, .inl (kA 0, 100, .inl tpassesF)), (q0, .inr (5, [.int q_left, .int q_leaving, .int q_length, .int q_target, .int q_barred, .int q_latest, .int q_waited, .int q_any, .ref qf, .ref qr, .ref qb, .ref w0, .ref t0])), (qf, .inl (kA 0, 12, .inl qfF)), (tnodes, .inr (6, [.int 4, .ref tnodesA, .int tnodesS]))]) hP hD
  refine lv_if_eq (tgt := 23) hx hb dX10_nearest_11 (by decide) (fun c_4 => ?_) (fun c_4 => ?_)
  · have hG := zthen hG c_4
    refine lv_iconst (v := (-1)) hx hb dX10_nearest_23 (by decide) ?_
    obtain ⟨hP9, hD9⟩ := z_sb (L' := [(x0, .inr (10, [.ref w0, .ref z0, .ref xi, .ref xt, .int x_tl, .ref xq, .int x_lc, .ref rdr, .ref h0, .ref t0, .ref q0, .ref v0, .ref m0])), (w0, .inr (9, [.ref tnodes, .ref tpasses, .ref tjars, .ref torders, .ref tfeasts, .ref tway, .int tws, .int tnow, .int tfm, .int tx])), (tnodes, .inr (6, [.int 4, .ref tnodesA, .int tnodesS])), (tnodesA, .inl (kA 0, 48, .inl tnodesF)), (tpasses, .inr (6, [.int 5, .ref tpassesA, .int tpassesS])), (tpassesA, .inl (kA 0, 100, .inl tpassesF)), (q0, .inr (5, [.int q_left, .int q_leaving, .int q_length, .int q_target, .int q_barred, .int q_latest, .int q_waited, .int q_any, .ref qf, .ref qr, .ref qb, .ref w0, .ref t0])), (qf, .inl (kA 0, 12, .inl qfF))]) hP hD [0, 1, 7, 2, 3, 4, 5, 6] (by decide) rfl
    refine W.widen (k := 0) (n := 0) (Nat.le_of_ble_eq_true rfl) (Nat.le_of_ble_eq_true rfl) ?_
    exact W.iret (v := (-1)) hx hb hr (fun t ht hW => ⟨⟨(-1), (qfF, (-1)), rfl, ⟨rfl, (hG.trans hG0.symm)⟩, by rw [ht]; exact hP9, hD9⟩, hS.F ht⟩) hS.2.2 dX10_nearest_24
  · have hG := zelse hG c_4
    have c_4a := hs_ne c_4
    have c_4b := c_4a.2
    have c_4a := c_4a.1
    refine lv_iload_n hx hb dX10_nearest_14 rfl (lv_at hl 2 rfl) ?_
    refine lv_bipush (v := 11) hx hb dX10_nearest_15 (by decide) ?_
    refine z_i (wr := [(x0, .inr (10, [.ref w0, .ref z0, .ref xi, .ref xt, .int x_tl, .ref xq, .int x_lc, .ref rdr, .ref h0, .ref t0, .ref q0, .ref v0, .ref m0])), (w0, .inr (9, [.ref tnodes, .ref tpasses, .ref tjars, .ref torders, .ref tfeasts, .ref tway, .int tws, .int tnow, .int tfm, .int tx])), (tnodesA, .inl (kA 0, 48, .inl tnodesF)), (tpasses, .inr (6, [.int 5, .ref tpassesA, .int tpassesS])), (tpassesA, .inl (kA 0, 100, .inl tpassesF)), (q0, .inr (5, [.int q_left, .int q_leaving, .int q_length, .int q_target, .int q_barred, .int q_latest, .int q_waited, .int q_any, .ref qf, .ref qr, .ref qb, .ref w0, .ref t0])), (qf, .inl (kA 0, 12, .inl qfF)), (tnodes, .inr (6, [.int 4, .ref tnodesA, .int tnodesS]))]) (va_runS (As := [.int p1, .int 11]) (rest := []) ⟨hx, hb, hml, hown, hts⟩ (mX10_within l dC dI kA _ p1 11) (va_cwS 2 hts gX10_nearest_X10_within rfl rfl rfl hdX10_within ⟨(Nat.le_of_ble_eq_true rfl), (Nat.le_of_ble_eq_true rfl)⟩) ⟨zPc.blind, zPre hK (hP.sub [] rfl) (hD.sub [] (by decide) rfl)⟩ rfl rfl hl.1 rfl (lv_room (Nat.le_of_ble_eq_true rfl)) dX10_nearest_17 ⟨(Nat.le_of_ble_eq_true rfl), (Nat.le_of_ble_eq_true rfl)⟩) hP hD hS hA [] [0, 1, 2, 3, 4, 5, 6, 7] rfl rfl (by decide) (by decide) (fun r7 u5 H locs hw6 hP hD hS => ?_)
    obtain rfl := hw6
    obtain ⟨hP, hD⟩ := z_re (L := [(x0, .inr (10, [.ref w0, .ref z0, .ref xi, .ref xt, .int x_tl, .ref xq, .int x_lc, .ref rdr, .ref h0, .ref t0, .ref q0, .ref v0, .ref m0])), (w0, .inr (9, [.ref tnodes, .ref tpasses, .ref tjars, .ref torders, .ref tfeasts, .ref tway, .int tws, .int tnow, .int tfm, .int tx])), (tnodesA, .inl (kA 0, 48, .inl tnodesF)), (tpasses, .inr (6, [.int 5, .ref tpassesA, .int tpassesS])), (tpassesA, .inl (kA 0, 100, .inl tpassesF)), (q0, .inr (5, [.int q_left, .int q_leaving, .int q_length, .int q_target, .int q_barred, .int q_latest, .int q_waited, .int q_any, .ref qf, .ref qr, .ref qb, .ref w0, .ref t0])), (qf, .inl (kA 0, 12, .inl qfF)), (tnodes, .inr (6, [.int 4, .ref tnodesA, .int tnodesS]))]) hP hD
    refine lv_if_ne (tgt := 25) hx hb dX10_nearest_20 (by decide) (fun c_8 => ?_) (fun c_8 => ?_)
    · have hG := zelse hG c_8
      have c_8a := wi_ne c_8
      have c_8b := c_8a.2
      have c_8a := c_8a.1
      refine lv_aload_n hx hb dX10_nearest_25 rfl (lv_at hl 0 rfl) ?_
      refine va_get (D := (dC, dI)) (ci := 10) (v := .ref q0) (C := RX10) (T := TX10) (N := 13) hx hb hts iX10_nearest_X10 hown hK.1 hP 0 gz0 vcz10 10 (by decide) (kX10_nearest_3 hts) (fun _ h9 => h9) gz10 dX10_nearest_26 ?_
      refine lv_iload_n hx hb dX10_nearest_29 rfl (lv_at hl 1 rfl) ?_
      refine lv_iconst (v := (-1)) hx hb dX10_nearest_30 (by decide) ?_
      refine lv_iconst (v := 1) hx hb dX10_nearest_31 (by decide) ?_
      refine z_v (wr := [(x0, .inr (10, [.ref w0, .ref z0, .ref xi, .ref xt, .int x_tl, .ref xq, .int x_lc, .ref rdr, .ref h0, .ref t0, .ref q0, .ref v0, .ref m0])), (tnodesA, .inl (kA 0, 48, .inl tnodesF)), (tnodes, .inr (6, [.int 4, .ref tnodesA, .int tnodesS]))]) (va_runV (As := [.int p0, .int (-1), .int 1]) (rest := []) ⟨hx, hb, hml, hown, hts⟩ (mX5_measure l dC dI kA _ q0 q_left q_leaving q_length q_target q_barred q_latest q_waited q_any qf qr qb qfF t0 w0 tnodes tpasses tpassesA tpassesS tpassesF tjars torders tfeasts tway tws tnow tfm tx p0 (-1) 1) (cwV 3 hts gX10_nearest_X5_measure rfl rfl rfl ⟨rfl, hdX5_measure⟩ ⟨(Nat.le_of_ble_eq_true rfl), (Nat.le_of_ble_eq_true rfl)⟩) ⟨zPc.blind, va_recv (q := (RX5, TX5, 13)) hK.1 hP (ci := 5) (q0 := 5) rfl rfl, zPre hK (hP.sub [5, 6, 1, 3, 4] rfl) (hD.sub [5, 6, 1, 3, 4] (by decide) rfl)⟩ rfl rfl hl.1 rfl (lv_room (Nat.le_of_ble_eq_true rfl)) dX10_nearest_32 ⟨(Nat.le_of_ble_eq_true rfl), (Nat.le_of_ble_eq_true rfl)⟩) hP hD hS hA [5, 6, 1, 3, 4] [0, 2, 7] rfl rfl (by decide) (by decide) (fun u9 H locs hw10 hP hD hS => ?_)
      obtain ⟨o12, rfl⟩ : ∃ z, z = u9 := ⟨_, rfl⟩
      have hp13 := hw10
      have eo12 : o12 = fX5_measure qfF tpassesS tpassesF p0 (-1) 1 := hp13
      have hG := zbnd hG eo12
      obtain ⟨hP, hD⟩ := z_re (L := [(x0, .inr (10, [.ref w0, .ref z0, .ref xi, .ref xt, .int x_tl, .ref xq, .int x_lc, .ref rdr, .ref h0, .ref t0, .ref q0, .ref v0, .ref m0])), (tnodesA, .inl (kA 0, 48, .inl tnodesF)), (tnodes, .inr (6, [.int 4, .ref tnodesA, .int tnodesS])), (q0, .inr (5, [.int q_left, .int q_leaving, .int q_length, .int q_target, .int q_barred, .int q_latest, .int q_waited, .int q_any, .ref qf, .ref qr, .ref qb, .ref w0, .ref t0])), (qf, .inl (kA 0, 12, .inl o12)), (w0, .inr (9, [.ref tnodes, .ref tpasses, .ref tjars, .ref torders, .ref tfeasts, .ref tway, .int tws, .int tnow, .int tfm, .int tx])), (tpasses, .inr (6, [.int 5, .ref tpassesA, .int tpassesS])), (tpassesA, .inl (kA 0, 100, .inl tpassesF))]) hP hD
      refine lv_bipush (v := (-2)) hx hb dX10_nearest_35 (by decide) ?_
      refine lv_istore_n (lv' := [(3, .int (-2)), (0, .ref x0), (1, .int p0), (2, .int p1)]) hx hb dX10_nearest_37 rfl hl (by decide) rfl (fun ls hl => ?_)
      refine lv_ldc hx hb hown (kX10_nearest_4 hts) dX10_nearest_38 ?_
      refine lv_istore (lv' := [(4, .int 1000000), (3, .int (-2)), (0, .ref x0), (1, .int p0), (2, .int p1)]) hx hb dX10_nearest_40 hl (by decide) rfl (fun ls hl => ?_)
      refine lv_iconst (v := 0) hx hb dX10_nearest_42 (by decide) ?_
      refine lv_istore (lv' := [(5, .int 0), (4, .int 1000000), (3, .int (-2)), (0, .ref x0), (1, .int p0), (2, .int p1)]) hx hb dX10_nearest_43 hl (by decide) rfl (fun ls hl => ?_)
      refine lp_mX10_nearest_45 hx hb hml hts hown hK hA (Nat.le_of_ble_eq_true rfl) (Nat.le_of_ble_eq_true rfl) (Nat.le_of_ble_eq_true rfl) (Nat.le_of_ble_eq_true rfl) x0 z0 xi xt xq rdr h0 t0 q0 v0 m0 w0 x_tl x_lc tnodes tnodesA tnodesS tnodesF tpasses tpassesA tpassesS tpassesF tjars torders tfeasts tway tws tnow tfm tx q_left q_leaving q_length q_target q_barred q_latest q_waited q_any qf qr qb p0 p1 o12 c_4 c_4a c_4b c_8 c_8a c_8b (fun w107_0_0 w107_1_0 w107_2_0 H locs ls hx107_5_nlt00_0 hG hP hD hS hl => ?_) _ 0 1000000 (-2) _ _ ls (Nat.lt_succ_self _) hG (by decide) hP hD hS (lv_sub hl [0, 1, 2, 3, 4, 5] rfl)
      obtain ⟨hP, hD⟩ := z_re (L := [(x0, .inr (10, [.ref w0, .ref z0, .ref xi, .ref xt, .int x_tl, .ref xq, .int x_lc, .ref rdr, .ref h0, .ref t0, .ref q0, .ref v0, .ref m0])), (tnodesA, .inl (kA 0, 48, .inl tnodesF)), (tnodes, .inr (6, [.int 4, .ref tnodesA, .int tnodesS])), (q0, .inr (5, [.int q_left, .int q_leaving, .int q_length, .int q_target, .int q_barred, .int q_latest, .int q_waited, .int q_any, .ref qf, .ref qr, .ref qb, .ref w0, .ref t0])), (qf, .inl (kA 0, 12, .inl o12)), (w0, .inr (9, [.ref tnodes, .ref tpasses, .ref tjars, .ref torders, .ref tfeasts, .ref tway, .int tws, .int tnow, .int tfm, .int tx])), (tpasses, .inr (6, [.int 5, .ref tpassesA, .int tpassesS])), (tpassesA, .inl (kA 0, 100, .inl tpassesF))]) hP hD
      refine lv_iload_n hx hb dX10_nearest_107 rfl (lv_at hl 2 rfl) ?_
      obtain ⟨hP9, hD9⟩ := z_sb (L' := [(x0, .inr (10, [.ref w0, .ref z0, .ref xi, .ref xt, .int x_tl, .ref xq, .int x_lc, .ref rdr, .ref h0, .ref t0, .ref q0, .ref v0, .ref m0])), (w0, .inr (9, [.ref tnodes, .ref tpasses, .ref tjars, .ref torders, .ref tfeasts, .ref tway, .int tws, .int tnow, .int tfm, .int tx])), (tnodes, .inr (6, [.int 4, .ref tnodesA, .int tnodesS])), (tnodesA, .inl (kA 0, 48, .inl tnodesF)), (tpasses, .inr (6, [.int 5, .ref tpassesA, .int tpassesS])), (tpassesA, .inl (kA 0, 100, .inl tpassesF)), (q0, .inr (5, [.int q_left, .int q_leaving, .int q_length, .int q_target, .int q_barred, .int q_latest, .int q_waited, .int q_any, .ref qf, .ref qr, .ref qb, .ref w0, .ref t0])), (qf, .inl (kA 0, 12, .inl o12))]) hP hD [0, 5, 2, 1, 6, 7, 3, 4] (by decide) rfl
      refine W.widen (k := 0) (n := 0) (Nat.le_of_ble_eq_true rfl) (Nat.le_of_ble_eq_true rfl) ?_
      exact W.iret (v := w107_2_0) hx hb hr (fun t ht hW => ⟨⟨w107_2_0, (o12, w107_2_0), rfl, ⟨rfl, (hG.trans hG0.symm)⟩, by rw [ht]; exact hP9, hD9⟩, hS.F ht⟩) hS.2.2 dX10_nearest_108
    · have hG := zthen hG c_8
      refine lv_iconst (v := (-1)) hx hb dX10_nearest_23 (by decide) ?_
      obtain ⟨hP9, hD9⟩ := z_sb (L' := [(x0, .inr (10, [.ref w0, .ref z0, .ref xi, .ref xt, .int x_tl, .ref xq, .int x_lc, .ref rdr, .ref h0, .ref t0, .ref q0, .ref v0, .ref m0])), (w0, .inr (9, [.ref tnodes, .ref tpasses, .ref tjars, .ref torders, .ref tfeasts, .ref tway, .int tws, .int tnow, .int tfm, .int tx])), (tnodes, .inr (6, [.int 4, .ref tnodesA, .int tnodesS])), (tnodesA, .inl (kA 0, 48, .inl tnodesF)), (tpasses, .inr (6, [.int 5, .ref tpassesA, .int tpassesS])), (tpassesA, .inl (kA 0, 100, .inl tpassesF)), (q0, .inr (5, [.int q_left, .int q_leaving, .int q_length, .int q_target, .int q_barred, .int q_latest, .int q_waited, .int q_any, .ref qf, .ref qr, .ref qb, .ref w0, .ref t0])), (qf, .inl (kA 0, 12, .inl qfF))]) hP hD [0, 1, 7, 2, 3, 4, 5, 6] (by decide) rfl
      refine W.widen (k := 0) (n := 0) (Nat.le_of_ble_eq_true rfl) (Nat.le_of_ble_eq_true rfl) ?_
      exact W.iret (v := (-1)) hx hb hr (fun t ht hW => ⟨⟨(-1), (qfF, (-1)), rfl, ⟨rfl, (hG.trans hG0.symm)⟩, by rw [ht]; exact hP9, hD9⟩, hS.F ht⟩) hS.2.2 dX10_nearest_24
set_option maxRecDepth 100000 in
def fX10_seed (tx : Int32) (p0 : Int32) : Int32 × Int32 := if 0 ≤ p0 then ((p0, tx)) else ((tx, (-1)))
set_option maxHeartbeats 4000000 in
set_option maxRecDepth 100000 in
theorem mX10_seed (l : Launch) (dC : Nat → ClassId) (dI : Nat → Nat → Nat) (kA : Nat → ClassId) (sz : Nat) (x0 : Nat) (z0 : Nat) (xi : Nat) (xt : Nat) (xq : Nat) (rdr : Nat) (h0 : Nat) (t0 : Nat) (q0 : Nat) (v0 : Nat) (m0 : Nat) (w0 : Nat) (x_tl : Int32) (x_lc : Int32) (tnodes : Nat) (tpasses : Nat) (tjars : Nat) (torders : Nat) (tfeasts : Nat) (tway : Nat) (tws : Int32) (tnow : Int32) (tfm : Int32) (tx : Int32) (p0 : Int32)  : Met l yX10_seed wsX10_seed ({ frames := 0, cells := 0, slots := 0, locals := 0 }) (zPc dC dI kA sz [.ref x0, .int p0] [(x0, .inr (10, [.ref w0, .ref z0, .ref xi, .ref xt, .int x_tl, .ref xq, .int x_lc, .ref rdr, .ref h0, .ref t0, .ref q0, .ref v0, .ref m0])), (w0, .inr (9, [.ref tnodes, .ref tpasses, .ref tjars, .ref torders, .ref tfeasts, .ref tway, .int tws, .int tnow, .int tfm, .int tx]))]) (va_Qi (fun (r : Int32) (u : Int32 × Int32) => r = u.2 ∧ (u.1, u.2) = fX10_seed tx p0) (zB dC dI (va_A [(x0, .inr (10, [.ref w0, .ref z0, .ref xi, .ref xt, .int x_tl, .ref xq, .int x_lc, .ref rdr, .ref h0, .ref t0, .ref q0, .ref v0, .ref m0])), (w0, .inr (9, [.ref tnodes, .ref tpasses, .ref tjars, .ref torders, .ref tfeasts, .ref tway, .int tws, .int tnow, .int tfm, .int tx]))] sz) (fun (u : Int32 × Int32) => [(x0, .inr (10, [.ref w0, .ref z0, .ref xi, .ref xt, .int x_tl, .ref xq, .int x_lc, .ref rdr, .ref h0, .ref t0, .ref q0, .ref v0, .ref m0])), (w0, .inr (9, [.ref tnodes, .ref tpasses, .ref tjars, .ref torders, .ref tfeasts, .ref tway, .int tws, .int tnow, .int tfm, .int u.1]))])) (va_A [(x0, .inr (10, [.ref w0, .ref z0, .ref xi, .ref xt, .int x_tl, .ref xq, .int x_lc, .ref rdr, .ref h0, .ref t0, .ref q0, .ref v0, .ref m0])), (w0, .inr (9, [.ref tnodes, .ref tpasses, .ref tjars, .ref torders, .ref tfeasts, .ref tway, .int tws, .int tnow, .int tfm, .int tx]))] sz)) 0 0 (va_A [(x0, .inr (10, [.ref w0, .ref z0, .ref xi, .ref xt, .int x_tl, .ref xq, .int x_lc, .ref rdr, .ref h0, .ref t0, .ref q0, .ref v0, .ref m0])), (w0, .inr (9, [.ref tnodes, .ref tpasses, .ref tjars, .ref torders, .ref tfeasts, .ref tway, .int tws, .int tnow, .int tfm, .int tx]))] sz) := by
  refine Met.ofW (cc := cX10_seed) (maxL := 3) (ret := (some .int)) pnX10 rfl ?_
  intro p e s m args below meth c s₁ B hml hv
  obtain ⟨rfl, hsz, hP, hK, hD0⟩ := hv
  have hx := B.exec
  have hb := B.bytes
  have hr := B.returns
  have hts := atoms_spec (ws := wsX10_seed) B.pre
  have hown : s.vm.findClass RX10 = some m.cls := findClass_of_methodNamed B.named
  have hlocks := B.notSynchronized
  subst hsz
  have hD := hD0.self (sz := s.heap.size)
  generalize hAe : va_A [(x0, .inr (10, [.ref w0, .ref z0, .ref xi, .ref xt, .int x_tl, .ref xq, .int x_lc, .ref rdr, .ref h0, .ref t0, .ref q0, .ref v0, .ref m0])), (w0, .inr (9, [.ref tnodes, .ref tpasses, .ref tjars, .ref torders, .ref tfeasts, .ref tway, .int tws, .int tnow, .int tfm, .int tx]))] s.heap.size = A at hD ⊢
  have hA : ∀ q : Nat, s.heap.size ≤ q → A q := zA_of hAe
  have hS : va_S A s.heap s.heap [] := va_S.rf
  have hP : va_P (dC, dI) vwCl [(x0, .inr (10, [.ref w0, .ref z0, .ref xi, .ref xt, .int x_tl, .ref xq, .int x_lc, .ref rdr, .ref h0, .ref t0, .ref q0, .ref v0, .ref m0])), (w0, .inr (9, [.ref tnodes, .ref tpasses, .ref tjars, .ref torders, .ref tfeasts, .ref tway, .int tws, .int tnow, .int tfm, .int tx]))] s.heap := hP
  have hl := lv_entry ([.ref x0, .int p0]) (n := 3) (Nat.le_of_ble_eq_true rfl)
  rw [lg_entry_eq]
  generalize (lg_sl ([.ref x0, .int p0]) ++ List.replicate (3 - (lg_sl ([.ref x0, .int p0])).length) Slot.unset).toArray = ls at hl ⊢
  have hl : lv_has ls 3 [(0, .ref x0), (1, .int p0)] := hl
  obtain ⟨G, hG0⟩ : ∃ G : Int32 × Int32, fX10_seed tx p0 = G := ⟨_, rfl⟩
  have hG := hG0
  unfold fX10_seed at hG
  refine lv_iload_n hx hb dX10_seed_0 rfl (lv_at hl 1 rfl) ?_
  refine lv_if_ge (tgt := 6) hx hb dX10_seed_1 (by decide) (fun c_1 => ?_) (fun c_1 => ?_)
  · have hG := zthen hG c_1
    refine lv_aload_n hx hb dX10_seed_6 rfl (lv_at hl 0 rfl) ?_
    refine va_get (D := (dC, dI)) (ci := 10) (v := .ref w0) (C := RX10) (T := TX10) (N := 13) hx hb hts iX10_seed_X10 hown hK.1 hP 0 gz0 vcz10 0 (by decide) (kX10_seed_1 hts) (fun _ h9 => h9) gz0 dX10_seed_7 ?_
    refine va_get (D := (dC, dI)) (ci := 9) (v := .int tx) (C := RX9) (T := TX9) (N := 10) hx hb hts iX10_seed_X9 hown hK.1 hP 1 gz1 vcz9 9 (by decide) (kX10_seed_2 hts) (fun _ h9 => h9) gz9 dX10_seed_10 ?_
    refine lv_istore_n (lv' := [(2, .int tx), (0, .ref x0), (1, .int p0)]) hx hb dX10_seed_13 rfl hl (by decide) rfl (fun ls hl => ?_)
    refine lv_aload_n hx hb dX10_seed_14 rfl (lv_at hl 1 rfl) ?_
    refine va_get (D := (dC, dI)) (ci := 10) (v := .ref w0) (C := RX10) (T := TX10) (N := 13) hx hb hts iX10_seed_X10 hown hK.1 hP 0 gz0 vcz10 0 (by decide) (kX10_seed_1 hts) (fun _ h9 => h9) gz0 dX10_seed_15 ?_
    refine lv_iload_n hx hb dX10_seed_18 rfl (lv_at hl 2 rfl) ?_
    refine va_put (D := (dC, dI)) (ci := 9) (v := .int p0) (ty := .int) (C := RX9) (T := TX9) (N := 10) hx hb hts iX10_seed_X9 tyX9 tyX9_ok nmX9 hown hK.1 hP hD hS 1 gz1 vcz9 9 (by decide) (kX10_seed_2 hts) (fun _ h9 => h9) rfl pfdI rfl rfl (Nat.le_of_ble_eq_true rfl) dX10_seed_19 (fun H locs hP hD hS => ?_)
    obtain ⟨hP, hD⟩ := z_re (L := [(x0, .inr (10, [.ref w0, .ref z0, .ref xi, .ref xt, .int x_tl, .ref xq, .int x_lc, .ref rdr, .ref h0, .ref t0, .ref q0, .ref v0, .ref m0])), (w0, .inr (9, [.ref tnodes, .ref tpasses, .ref tjars, .ref torders, .ref tfeasts, .ref tway, .int tws, .int tnow, .int tfm, .int p0]))]) hP hD
    refine lv_iload_n hx hb dX10_seed_22 rfl (lv_at hl 0 rfl) ?_
    obtain ⟨hP9, hD9⟩ := z_sb (L' := [(x0, .inr (10, [.ref w0, .ref z0, .ref xi, .ref xt, .int x_tl, .ref xq, .int x_lc, .ref rdr, .ref h0, .ref t0, .ref q0, .ref v0, .ref m0])), (w0, .inr (9, [.ref tnodes, .ref tpasses, .ref tjars, .ref torders, .ref tfeasts, .ref tway, .int tws, .int tnow, .int tfm, .int p0]))]) hP hD [0, 1] (by decide) rfl
    refine W.widen (k := 0) (n := 0) (Nat.le_of_ble_eq_true rfl) (Nat.le_of_ble_eq_true rfl) ?_
    exact W.iret (v := tx) hx hb hr (fun t ht hW => ⟨⟨tx, (p0, tx), rfl, ⟨rfl, (hG.trans hG0.symm)⟩, by rw [ht]; exact hP9, hD9⟩, hS.F ht⟩) hS.2.2 dX10_seed_23
  · have hG := zelse hG c_1
    refine lv_iconst (v := (-1)) hx hb dX10_seed_4 (by decide) ?_
    obtain ⟨hP9, hD9⟩ := z_sb (L' := [(x0, .inr (10, [.ref w0, .ref z0, .ref xi, .ref xt, .int x_tl, .ref xq, .int x_lc, .ref rdr, .ref h0, .ref t0, .ref q0, .ref v0, .ref m0])), (w0, .inr (9, [.ref tnodes, .ref tpasses, .ref tjars, .ref torders, .ref tfeasts, .ref tway, .int tws, .int tnow, .int tfm, .int tx]))]) hP hD [0, 1] (by decide) rfl
    refine W.widen (k := 0) (n := 0) (Nat.le_of_ble_eq_true rfl) (Nat.le_of_ble_eq_true rfl) ?_
    exact W.iret (v := (-1)) hx hb hr (fun t ht hW => ⟨⟨(-1), (tx, (-1)), rfl, ⟨rfl, (hG.trans hG0.symm)⟩, by rw [ht]; exact hP9, hD9⟩, hS.F ht⟩) hS.2.2 dX10_seed_5
set_option maxRecDepth 100000 in
def fX10_count (x_tl : Int32) (x_lc : Int32) (tnodesS : Int32) (tpassesS : Int32) (tjarsS : Int32) (tordersS : Int32) (tfeastsS : Int32) (twayS : Int32) (tws : Int32) (tnow : Int32) (tfm : Int32) (tx : Int32) (p0 : Int32) : Int32 := if p0 = 0 then (tnodesS) else (if p0 = 1 then (tpassesS) else (if p0 = 2 then (tjarsS) else (if p0 = 3 then (x_lc) else (if p0 = 4 then (tnow) else (if p0 = 5 then (bnd (fX9_monthAt tfm tnow) (fun (r4 : Int32) => r4)) else (if p0 = 6 then (tordersS) else (if p0 = 7 then (tfeastsS) else (if p0 = 8 then (if tws = (-1) then ((-1)) else (twayS)) else (if p0 = 9 then (tx) else (if p0 = 10 then (x_tl) else ((-1))))))))))))
set_option maxHeartbeats 4000000 in
set_option maxRecDepth 100000 in
theorem mX10_count (l : Launch) (dC : Nat → ClassId) (dI : Nat → Nat → Nat) (kA : Nat → ClassId) (sz : Nat) (x0 : Nat) (z0 : Nat) (xi : Nat) (xt : Nat) (xq : Nat) (rdr : Nat) (h0 : Nat) (t0 : Nat) (q0 : Nat) (v0 : Nat) (m0 : Nat) (w0 : Nat) (x_tl : Int32) (x_lc : Int32) (tnodes : Nat) (tnodesA : Nat) (tnodesS : Int32) (tpasses : Nat) (tpassesA : Nat) (tpassesS : Int32) (tjars : Nat) (tjarsA : Nat) (tjarsS : Int32) (torders : Nat) (tordersA : Nat) (tordersS : Int32) (tfeasts : Nat) (tfeastsA : Nat) (tfeastsS : Int32) (tway : Nat) (twayA : Nat) (twayS : Int32) (tws : Int32) (tnow : Int32) (tfm : Int32) (tx : Int32) (p0 : Int32)  : Met l yX10_count wsX10_count ({ frames := 1, cells := 0, slots := 0, locals := 21 }) (zPc dC dI kA sz [.ref x0, .int p0] [(x0, .inr (10, [.ref w0, .ref z0, .ref xi, .ref xt, .int x_tl, .ref xq, .int x_lc, .ref rdr, .ref h0, .ref t0, .ref q0, .ref v0, .ref m0])), (w0, .inr (9, [.ref tnodes, .ref tpasses, .ref tjars, .ref torders, .ref tfeasts, .ref tway, .int tws, .int tnow, .int tfm, .int tx])), (tnodes, .inr (6, [.int 4, .ref tnodesA, .int tnodesS])), (tpasses, .inr (6, [.int 5, .ref tpassesA, .int tpassesS])), (tjars, .inr (6, [.int 9, .ref tjarsA, .int tjarsS])), (torders, .inr (6, [.int 4, .ref tordersA, .int tordersS])), (tfeasts, .inr (6, [.int 3, .ref tfeastsA, .int tfeastsS])), (tway, .inr (6, [.int 1, .ref twayA, .int twayS]))]) (va_Qi (fun (r : Int32) (u : Int32) => r = u ∧ u = fX10_count x_tl x_lc tnodesS tpassesS tjarsS tordersS tfeastsS twayS tws tnow tfm tx p0) (zB dC dI (va_A [(x0, .inr (10, [.ref w0, .ref z0, .ref xi, .ref xt, .int x_tl, .ref xq, .int x_lc, .ref rdr, .ref h0, .ref t0, .ref q0, .ref v0, .ref m0])), (w0, .inr (9, [.ref tnodes, .ref tpasses, .ref tjars, .ref torders, .ref tfeasts, .ref tway, .int tws, .int tnow, .int tfm, .int tx])), (tnodes, .inr (6, [.int 4, .ref tnodesA, .int tnodesS])), (tpasses, .inr (6, [.int 5, .ref tpassesA, .int tpassesS])), (tjars, .inr (6, [.int 9, .ref tjarsA, .int tjarsS])), (torders, .inr (6, [.int 4, .ref tordersA, .int tordersS])), (tfeasts, .inr (6, [.int 3, .ref tfeastsA, .int tfeastsS])), (tway, .inr (6, [.int 1, .ref twayA, .int twayS]))] sz) (fun (u : Int32) => [(x0, .inr (10, [.ref w0, .ref z0, .ref xi, .ref xt, .int x_tl, .ref xq, .int x_lc, .ref rdr, .ref h0, .ref t0, .ref q0, .ref v0, .ref m0])), (w0, .inr (9, [.ref tnodes, .ref tpasses, .ref tjars, .ref torders, .ref tfeasts, .ref tway, .int tws, .int tnow, .int tfm, .int tx])), (tnodes, .inr (6, [.int 4, .ref tnodesA, .int tnodesS])), (tpasses, .inr (6, [.int 5, .ref tpassesA, .int tpassesS])), (tjars, .inr (6, [.int 9, .ref tjarsA, .int tjarsS])), (torders, .inr (6, [.int 4, .ref tordersA, .int tordersS])), (tfeasts, .inr (6, [.int 3, .ref tfeastsA, .int tfeastsS])), (tway, .inr (6, [.int 1, .ref twayA, .int twayS]))])) (va_A [(x0, .inr (10, [.ref w0, .ref z0, .ref xi, .ref xt, .int x_tl, .ref xq, .int x_lc, .ref rdr, .ref h0, .ref t0, .ref q0, .ref v0, .ref m0])), (w0, .inr (9, [.ref tnodes, .ref tpasses, .ref tjars, .ref torders, .ref tfeasts, .ref tway, .int tws, .int tnow, .int tfm, .int tx])), (tnodes, .inr (6, [.int 4, .ref tnodesA, .int tnodesS])), (tpasses, .inr (6, [.int 5, .ref tpassesA, .int tpassesS])), (tjars, .inr (6, [.int 9, .ref tjarsA, .int tjarsS])), (torders, .inr (6, [.int 4, .ref tordersA, .int tordersS])), (tfeasts, .inr (6, [.int 3, .ref tfeastsA, .int tfeastsS])), (tway, .inr (6, [.int 1, .ref twayA, .int twayS]))] sz)) 0 0 (va_A [(x0, .inr (10, [.ref w0, .ref z0, .ref xi, .ref xt, .int x_tl, .ref xq, .int x_lc, .ref rdr, .ref h0, .ref t0, .ref q0, .ref v0, .ref m0])), (w0, .inr (9, [.ref tnodes, .ref tpasses, .ref tjars, .ref torders, .ref tfeasts, .ref tway, .int tws, .int tnow, .int tfm, .int tx])), (tnodes, .inr (6, [.int 4, .ref tnodesA, .int tnodesS])), (tpasses, .inr (6, [.int 5, .ref tpassesA, .int tpassesS])), (tjars, .inr (6, [.int 9, .ref tjarsA, .int tjarsS])), (torders, .inr (6, [.int 4, .ref tordersA, .int tordersS])), (tfeasts, .inr (6, [.int 3, .ref tfeastsA, .int tfeastsS])), (tway, .inr (6, [.int 1, .ref twayA, .int twayS]))] sz) := by
  refine Met.ofW (cc := cX10_count) (maxL := 2) (ret := (some .int)) pnX10 rfl ?_
  intro p e s m args below meth c s₁ B hml hv
  obtain ⟨rfl, hsz, hP, hK, hD0⟩ := hv
  have hx := B.exec
  have hb := B.bytes
  have hr := B.returns
  have hts := atoms_spec (ws := wsX10_count) B.pre
  have hown : s.vm.findClass RX10 = some m.cls := findClass_of_methodNamed B.named
  have hlocks := B.notSynchronized
  subst hsz
  have hD := hD0.self (sz := s.heap.size)
  generalize hAe : va_A [(x0, .inr (10, [.ref w0, .ref z0, .ref xi, .ref xt, .int x_tl, .ref xq, .int x_lc, .ref rdr, .ref h0, .ref t0, .ref q0, .ref v0, .ref m0])), (w0, .inr (9, [.ref tnodes, .ref tpasses, .ref tjars, .ref torders, .ref tfeasts, .ref tway, .int tws, .int tnow, .int tfm, .int tx])), (tnodes, .inr (6, [.int 4, .ref tnodesA, .int tnodesS])), (tpasses, .inr (6, [.int 5, .ref tpassesA, .int tpassesS])), (tjars, .inr (6, [.int 9, .ref tjarsA, .int tjarsS])), (torders, .inr (6, [.int 4, .ref tordersA, .int tordersS])), (tfeasts, .inr (6, [.int 3, .ref tfeastsA, .int tfeastsS])), (tway, .inr (6, [.int 1, .ref twayA, .int twayS]))] s.heap.size = A at hD ⊢
  have hA : ∀ q : Nat, s.heap.size ≤ q → A q := zA_of hAe
  have hS : va_S A s.heap s.heap [] := va_S.rf
  have hP : va_P (dC, dI) vwCl [(x0, .inr (10, [.ref w0, .ref z0, .ref xi, .ref xt, .int x_tl, .ref xq, .int x_lc, .ref rdr, .ref h0, .ref t0, .ref q0, .ref v0, .ref m0])), (w0, .inr (9, [.ref tnodes, .ref tpasses, .ref tjars, .ref torders, .ref tfeasts, .ref tway, .int tws, .int tnow, .int tfm, .int tx])), (tnodes, .inr (6, [.int 4, .ref tnodesA, .int tnodesS])), (tpasses, .inr (6, [.int 5, .ref tpassesA, .int tpassesS])), (tjars, .inr (6, [.int 9, .ref tjarsA, .int tjarsS])), (torders, .inr (6, [.int 4, .ref tordersA, .int tordersS])), (tfeasts, .inr (6, [.int 3, .ref tfeastsA, .int tfeastsS])), (tway, .inr (6, [.int 1, .ref twayA, .int twayS]))] s.heap := hP
  have hl := lv_entry ([.ref x0, .int p0]) (n := 2) (Nat.le_of_ble_eq_true rfl)
  rw [lg_entry_eq]
  generalize (lg_sl ([.ref x0, .int p0]) ++ List.replicate (2 - (lg_sl ([.ref x0, .int p0])).length) Slot.unset).toArray = ls at hl ⊢
  have hl : lv_has ls 2 [(0, .ref x0), (1, .int p0)] := hl
  obtain ⟨G, hG0⟩ : ∃ G : Int32, fX10_count x_tl x_lc tnodesS tpassesS tjarsS tordersS tfeastsS twayS tws tnow tfm tx p0 = G := ⟨_, rfl⟩
  have hG := hG0
  unfold fX10_count at hG
  refine lv_iload_n hx hb dX10_count_0 rfl (lv_at hl 1 rfl) ?_
  rcases sw_0_10 p0 with hs1 | hs1 | hs1 | hs1 | hs1 | hs1 | hs1 | hs1 | hs1 | hs1 | hs1 | hs1
  · have hG := zelse hG (fun q9 => by rw [q9] at hs1; revert hs1; decide)
    have hG := zelse hG (fun q9 => by rw [q9] at hs1; revert hs1; decide)
    have hG := zelse hG (fun q9 => by rw [q9] at hs1; revert hs1; decide)
    have hG := zelse hG (fun q9 => by rw [q9] at hs1; revert hs1; decide)
    have hG := zelse hG (fun q9 => by rw [q9] at hs1; revert hs1; decide)
    have hG := zelse hG (fun q9 => by rw [q9] at hs1; revert hs1; decide)
    have hG := zelse hG (fun q9 => by rw [q9] at hs1; revert hs1; decide)
    have hG := zelse hG (fun q9 => by rw [q9] at hs1; revert hs1; decide)
    have hG := zelse hG (fun q9 => by rw [q9] at hs1; revert hs1; decide)
    have hG := zelse hG (fun q9 => by rw [q9] at hs1; revert hs1; decide)
    have hG := zelse hG (fun q9 => by rw [q9] at hs1; revert hs1; decide)
    refine lv_tableOut (tgt := 182) hx hb dX10_count_1 hs1 (by decide) ?_
    refine lv_iconst (v := (-1)) hx hb dX10_count_182 (by decide) ?_
    obtain ⟨hP9, hD9⟩ := z_sb (L' := [(x0, .inr (10, [.ref w0, .ref z0, .ref xi, .ref xt, .int x_tl, .ref xq, .int x_lc, .ref rdr, .ref h0, .ref t0, .ref q0, .ref v0, .ref m0])), (w0, .inr (9, [.ref tnodes, .ref tpasses, .ref tjars, .ref torders, .ref tfeasts, .ref tway, .int tws, .int tnow, .int tfm, .int tx])), (tnodes, .inr (6, [.int 4, .ref tnodesA, .int tnodesS])), (tpasses, .inr (6, [.int 5, .ref tpassesA, .int tpassesS])), (tjars, .inr (6, [.int 9, .ref tjarsA, .int tjarsS])), (torders, .inr (6, [.int 4, .ref tordersA, .int tordersS])), (tfeasts, .inr (6, [.int 3, .ref tfeastsA, .int tfeastsS])), (tway, .inr (6, [.int 1, .ref twayA, .int twayS]))]) hP hD [0, 1, 2, 3, 4, 5, 6, 7] (by decide) rfl
    refine W.widen (k := 0) (n := 0) (Nat.le_of_ble_eq_true rfl) (Nat.le_of_ble_eq_true rfl) ?_
    exact W.iret (v := (-1)) hx hb hr (fun t ht hW => ⟨⟨(-1), ((-1)), rfl, ⟨rfl, (hG.trans hG0.symm)⟩, by rw [ht]; exact hP9, hD9⟩, hS.F ht⟩) hS.2.2 dX10_count_183
  · have hG := zthen hG hs1
    refine lv_tableIn (off := 59) (tgt := 60) hx hb dX10_count_1 (by rw [hs1]; decide) (by rw [hs1]; decide) (by rw [hs1]; decide) (by decide) ?_
    have hl : lv_has ls 2 [(0, .ref x0), (1, .int 0)] := by rw [hs1] at hl; exact hl
    refine lv_aload_n hx hb dX10_count_60 rfl (lv_at hl 0 rfl) ?_
    refine va_get (D := (dC, dI)) (ci := 10) (v := .ref w0) (C := RX10) (T := TX10) (N := 13) hx hb hts iX10_count_X10 hown hK.1 hP 0 gz0 vcz10 0 (by decide) (kX10_count_1 hts) (fun _ h9 => h9) gz0 dX10_count_61 ?_
    refine va_get (D := (dC, dI)) (ci := 9) (v := .ref tnodes) (C := RX9) (T := TX9) (N := 10) hx hb hts iX10_count_X9 hown hK.1 hP 1 gz1 vcz9 0 (by decide) (kX10_count_2 hts) (fun _ h9 => h9) gz0 dX10_count_64 ?_
    refine va_get (D := (dC, dI)) (ci := 6) (v := .int tnodesS) (C := RX6) (T := TX6) (N := 3) hx hb hts iX10_count_X6 hown hK.1 hP 2 gz2 vcz6 2 (by decide) (kX10_count_3 hts) (fun _ h9 => h9) gz2 dX10_count_67 ?_
    obtain ⟨hP9, hD9⟩ := z_sb (L' := [(x0, .inr (10, [.ref w0, .ref z0, .ref xi, .ref xt, .int x_tl, .ref xq, .int x_lc, .ref rdr, .ref h0, .ref t0, .ref q0, .ref v0, .ref m0])), (w0, .inr (9, [.ref tnodes, .ref tpasses, .ref tjars, .ref torders, .ref tfeasts, .ref tway, .int tws, .int tnow, .int tfm, .int tx])), (tnodes, .inr (6, [.int 4, .ref tnodesA, .int tnodesS])), (tpasses, .inr (6, [.int 5, .ref tpassesA, .int tpassesS])), (tjars, .inr (6, [.int 9, .ref tjarsA, .int tjarsS])), (torders, .inr (6, [.int 4, .ref tordersA, .int tordersS])), (tfeasts, .inr (6, [.int 3, .ref tfeastsA, .int tfeastsS])), (tway, .inr (6, [.int 1, .ref twayA, .int twayS]))]) hP hD [0, 1, 2, 3, 4, 5, 6, 7] (by decide) rfl
    refine W.widen (k := 0) (n := 0) (Nat.le_of_ble_eq_true rfl) (Nat.le_of_ble_eq_true rfl) ?_
    exact W.iret (v := tnodesS) hx hb hr (fun t ht hW => ⟨⟨tnodesS, (tnodesS), rfl, ⟨rfl, (hG.trans hG0.symm)⟩, by rw [ht]; exact hP9, hD9⟩, hS.F ht⟩) hS.2.2 dX10_count_70
  · have hG := zelse hG (fun q9 => by rw [q9] at hs1; revert hs1; decide)
    have hG := zthen hG hs1
    refine lv_tableIn (off := 70) (tgt := 71) hx hb dX10_count_1 (by rw [hs1]; decide) (by rw [hs1]; decide) (by rw [hs1]; decide) (by decide) ?_
    have hl : lv_has ls 2 [(0, .ref x0), (1, .int 1)] := by rw [hs1] at hl; exact hl
    refine lv_aload_n hx hb dX10_count_71 rfl (lv_at hl 0 rfl) ?_
    refine va_get (D := (dC, dI)) (ci := 10) (v := .ref w0) (C := RX10) (T := TX10) (N := 13) hx hb hts iX10_count_X10 hown hK.1 hP 0 gz0 vcz10 0 (by decide) (kX10_count_1 hts) (fun _ h9 => h9) gz0 dX10_count_72 ?_
    refine va_get (D := (dC, dI)) (ci := 9) (v := .ref tpasses) (C := RX9) (T := TX9) (N := 10) hx hb hts iX10_count_X9 hown hK.1 hP 1 gz1 vcz9 1 (by decide) (kX10_count_4 hts) (fun _ h9 => h9) gz1 dX10_count_75 ?_
    refine va_get (D := (dC, dI)) (ci := 6) (v := .int tpassesS) (C := RX6) (T := TX6) (N := 3) hx hb hts iX10_count_X6 hown hK.1 hP 3 gz3 vcz6 2 (by decide) (kX10_count_3 hts) (fun _ h9 => h9) gz2 dX10_count_78 ?_
    obtain ⟨hP9, hD9⟩ := z_sb (L' := [(x0, .inr (10, [.ref w0, .ref z0, .ref xi, .ref xt, .int x_tl, .ref xq, .int x_lc, .ref rdr, .ref h0, .ref t0, .ref q0, .ref v0, .ref m0])), (w0, .inr (9, [.ref tnodes, .ref tpasses, .ref tjars, .ref torders, .ref tfeasts, .ref tway, .int tws, .int tnow, .int tfm, .int tx])), (tnodes, .inr (6, [.int 4, .ref tnodesA, .int tnodesS])), (tpasses, .inr (6, [.int 5, .ref tpassesA, .int tpassesS])), (tjars, .inr (6, [.int 9, .ref tjarsA, .int tjarsS])), (torders, .inr (6, [.int 4, .ref tordersA, .int tordersS])), (tfeasts, .inr (6, [.int 3, .ref tfeastsA, .int tfeastsS])), (tway, .inr (6, [.int 1, .ref twayA, .int twayS]))]) hP hD [0, 1, 2, 3, 4, 5, 6, 7] (by decide) rfl
    refine W.widen (k := 0) (n := 0) (Nat.le_of_ble_eq_true rfl) (Nat.le_of_ble_eq_true rfl) ?_
    exact W.iret (v := tpassesS) hx hb hr (fun t ht hW => ⟨⟨tpassesS, (tpassesS), rfl, ⟨rfl, (hG.trans hG0.symm)⟩, by rw [ht]; exact hP9, hD9⟩, hS.F ht⟩) hS.2.2 dX10_count_81
  · have hG := zelse hG (fun q9 => by rw [q9] at hs1; revert hs1; decide)
    have hG := zelse hG (fun q9 => by rw [q9] at hs1; revert hs1; decide)
    have hG := zthen hG hs1
    refine lv_tableIn (off := 81) (tgt := 82) hx hb dX10_count_1 (by rw [hs1]; decide) (by rw [hs1]; decide) (by rw [hs1]; decide) (by decide) ?_
    have hl : lv_has ls 2 [(0, .ref x0), (1, .int 2)] := by rw [hs1] at hl; exact hl
    refine lv_aload_n hx hb dX10_count_82 rfl (lv_at hl 0 rfl) ?_
    refine va_get (D := (dC, dI)) (ci := 10) (v := .ref w0) (C := RX10) (T := TX10) (N := 13) hx hb hts iX10_count_X10 hown hK.1 hP 0 gz0 vcz10 0 (by decide) (kX10_count_1 hts) (fun _ h9 => h9) gz0 dX10_count_83 ?_
    refine va_get (D := (dC, dI)) (ci := 9) (v := .ref tjars) (C := RX9) (T := TX9) (N := 10) hx hb hts iX10_count_X9 hown hK.1 hP 1 gz1 vcz9 2 (by decide) (kX10_count_5 hts) (fun _ h9 => h9) gz2 dX10_count_86 ?_
    refine va_get (D := (dC, dI)) (ci := 6) (v := .int tjarsS) (C := RX6) (T := TX6) (N := 3) hx hb hts iX10_count_X6 hown hK.1 hP 4 gz4 vcz6 2 (by decide) (kX10_count_3 hts) (fun _ h9 => h9) gz2 dX10_count_89 ?_
    obtain ⟨hP9, hD9⟩ := z_sb (L' := [(x0, .inr (10, [.ref w0, .ref z0, .ref xi, .ref xt, .int x_tl, .ref xq, .int x_lc, .ref rdr, .ref h0, .ref t0, .ref q0, .ref v0, .ref m0])), (w0, .inr (9, [.ref tnodes, .ref tpasses, .ref tjars, .ref torders, .ref tfeasts, .ref tway, .int tws, .int tnow, .int tfm, .int tx])), (tnodes, .inr (6, [.int 4, .ref tnodesA, .int tnodesS])), (tpasses, .inr (6, [.int 5, .ref tpassesA, .int tpassesS])), (tjars, .inr (6, [.int 9, .ref tjarsA, .int tjarsS])), (torders, .inr (6, [.int 4, .ref tordersA, .int tordersS])), (tfeasts, .inr (6, [.int 3, .ref tfeastsA, .int tfeastsS])), (tway, .inr (6, [.int 1, .ref twayA, .int twayS]))]) hP hD [0, 1, 2, 3, 4, 5, 6, 7] (by decide) rfl
    refine W.widen (k := 0) (n := 0) (Nat.le_of_ble_eq_true rfl) (Nat.le_of_ble_eq_true rfl) ?_
    exact W.iret (v := tjarsS) hx hb hr (fun t ht hW => ⟨⟨tjarsS, (tjarsS), rfl, ⟨rfl, (hG.trans hG0.symm)⟩, by rw [ht]; exact hP9, hD9⟩, hS.F ht⟩) hS.2.2 dX10_count_92
  · have hG := zelse hG (fun q9 => by rw [q9] at hs1; revert hs1; decide)
    have hG := zelse hG (fun q9 => by rw [q9] at hs1; revert hs1; decide)
    have hG := zelse hG (fun q9 => by rw [q9] at hs1; revert hs1; decide)
    have hG := zthen hG hs1
    refine lv_tableIn (off := 92) (tgt := 93) hx hb dX10_count_1 (by rw [hs1]; decide) (by rw [hs1]; decide) (by rw [hs1]; decide) (by decide) ?_
    have hl : lv_has ls 2 [(0, .ref x0), (1, .int 3)] := by rw [hs1] at hl; exact hl
    refine lv_aload_n hx hb dX10_count_93 rfl (lv_at hl 0 rfl) ?_
    refine va_get (D := (dC, dI)) (ci := 10) (v := .int x_lc) (C := RX10) (T := TX10) (N := 13) hx hb hts iX10_count_X10 hown hK.1 hP 0 gz0 vcz10 6 (by decide) (kX10_count_6 hts) (fun _ h9 => h9) gz6 dX10_count_94 ?_
    obtain ⟨hP9, hD9⟩ := z_sb (L' := [(x0, .inr (10, [.ref w0, .ref z0, .ref xi, .ref xt, .int x_tl, .ref xq, .int x_lc, .ref rdr, .ref h0, .ref t0, .ref q0, .ref v0, .ref m0])), (w0, .inr (9, [.ref tnodes, .ref tpasses, .ref tjars, .ref torders, .ref tfeasts, .ref tway, .int tws, .int tnow, .int tfm, .int tx])), (tnodes, .inr (6, [.int 4, .ref tnodesA, .int tnodesS])), (tpasses, .inr (6, [.int 5, .ref tpassesA, .int tpassesS])), (tjars, .inr (6, [.int 9, .ref tjarsA, .int tjarsS])), (torders, .inr (6, [.int 4, .ref tordersA, .int tordersS])), (tfeasts, .inr (6, [.int 3, .ref tfeastsA, .int tfeastsS])), (tway, .inr (6, [.int 1, .ref twayA, .int twayS]))]) hP hD [0, 1, 2, 3, 4, 5, 6, 7] (by decide) rfl
    refine W.widen (k := 0) (n := 0) (Nat.le_of_ble_eq_true rfl) (Nat.le_of_ble_eq_true rfl) ?_
    exact W.iret (v := x_lc) hx hb hr (fun t ht hW => ⟨⟨x_lc, (x_lc), rfl, ⟨rfl, (hG.trans hG0.symm)⟩, by rw [ht]; exact hP9, hD9⟩, hS.F ht⟩) hS.2.2 dX10_count_97
  · have hG := zelse hG (fun q9 => by rw [q9] at hs1; revert hs1; decide)
    have hG := zelse hG (fun q9 => by rw [q9] at hs1; revert hs1; decide)
    have hG := zelse hG (fun q9 => by rw [q9] at hs1; revert hs1; decide)
    have hG := zelse hG (fun q9 => by rw [q9] at hs1; revert hs1; decide)
    have hG := zthen hG hs1
    refine lv_tableIn (off := 97) (tgt := 98) hx hb dX10_count_1 (by rw [hs1]; decide) (by rw [hs1]; decide) (by rw [hs1]; decide) (by decide) ?_
    have hl : lv_has ls 2 [(0, .ref x0), (1, .int 4)] := by rw [hs1] at hl; exact hl
    refine lv_aload_n hx hb dX10_count_98 rfl (lv_at hl 0 rfl) ?_
    refine va_get (D := (dC, dI)) (ci := 10) (v := .ref w0) (C := RX10) (T := TX10) (N := 13) hx hb hts iX10_count_X10 hown hK.1 hP 0 gz0 vcz10 0 (by decide) (kX10_count_1 hts) (fun _ h9 => h9) gz0 dX10_count_99 ?_
    refine va_get (D := (dC, dI)) (ci := 9) (v := .int tnow) (C := RX9) (T := TX9) (N := 10) hx hb hts iX10_count_X9 hown hK.1 hP 1 gz1 vcz9 7 (by decide) (kX10_count_7 hts) (fun _ h9 => h9) gz7 dX10_count_102 ?_
    obtain ⟨hP9, hD9⟩ := z_sb (L' := [(x0, .inr (10, [.ref w0, .ref z0, .ref xi, .ref xt, .int x_tl, .ref xq, .int x_lc, .ref rdr, .ref h0, .ref t0, .ref q0, .ref v0, .ref m0])), (w0, .inr (9, [.ref tnodes, .ref tpasses, .ref tjars, .ref torders, .ref tfeasts, .ref tway, .int tws, .int tnow, .int tfm, .int tx])), (tnodes, .inr (6, [.int 4, .ref tnodesA, .int tnodesS])), (tpasses, .inr (6, [.int 5, .ref tpassesA, .int tpassesS])), (tjars, .inr (6, [.int 9, .ref tjarsA, .int tjarsS])), (torders, .inr (6, [.int 4, .ref tordersA, .int tordersS])), (tfeasts, .inr (6, [.int 3, .ref tfeastsA, .int tfeastsS])), (tway, .inr (6, [.int 1, .ref twayA, .int twayS]))]) hP hD [0, 1, 2, 3, 4, 5, 6, 7] (by decide) rfl
    refine W.widen (k := 0) (n := 0) (Nat.le_of_ble_eq_true rfl) (Nat.le_of_ble_eq_true rfl) ?_
    exact W.iret (v := tnow) hx hb hr (fun t ht hW => ⟨⟨tnow, (tnow), rfl, ⟨rfl, (hG.trans hG0.symm)⟩, by rw [ht]; exact hP9, hD9⟩, hS.F ht⟩) hS.2.2 dX10_count_105
  · have hG := zelse hG (fun q9 => by rw [q9] at hs1; revert hs1; decide)
    have hG := zelse hG (fun q9 => by rw [q9] at hs1; revert hs1; decide)
    have hG := zelse hG (fun q9 => by rw [q9] at hs1; revert hs1; decide)
    have hG := zelse hG (fun q9 => by rw [q9] at hs1; revert hs1; decide)
    have hG := zelse hG (fun q9 => by rw [q9] at hs1; revert hs1; decide)
    have hG := zthen hG hs1
    refine lv_tableIn (off := 105) (tgt := 106) hx hb dX10_count_1 (by rw [hs1]; decide) (by rw [hs1]; decide) (by rw [hs1]; decide) (by decide) ?_
    have hl : lv_has ls 2 [(0, .ref x0), (1, .int 5)] := by rw [hs1] at hl; exact hl
    refine lv_aload_n hx hb dX10_count_106 rfl (lv_at hl 0 rfl) ?_
    refine va_get (D := (dC, dI)) (ci := 10) (v := .ref w0) (C := RX10) (T := TX10) (N := 13) hx hb hts iX10_count_X10 hown hK.1 hP 0 gz0 vcz10 0 (by decide) (kX10_count_1 hts) (fun _ h9 => h9) gz0 dX10_count_107 ?_
    refine lv_aload_n hx hb dX10_count_110 rfl (lv_at hl 0 rfl) ?_
    refine va_get (D := (dC, dI)) (ci := 10) (v := .ref w0) (C := RX10) (T := TX10) (N := 13) hx hb hts iX10_count_X10 hown hK.1 hP 0 gz0 vcz10 0 (by decide) (kX10_count_1 hts) (fun _ h9 => h9) gz0 dX10_count_111 ?_
    refine va_get (D := (dC, dI)) (ci := 9) (v := .int tnow) (C := RX9) (T := TX9) (N := 10) hx hb hts iX10_count_X9 hown hK.1 hP 1 gz1 vcz9 7 (by decide) (kX10_count_7 hts) (fun _ h9 => h9) gz7 dX10_count_114 ?_
    refine z_i (wr := [(x0, .inr (10, [.ref w0, .ref z0, .ref xi, .ref xt, .int x_tl, .ref xq, .int x_lc, .ref rdr, .ref h0, .ref t0, .ref q0, .ref v0, .ref m0])), (tnodes, .inr (6, [.int 4, .ref tnodesA, .int tnodesS])), (tpasses, .inr (6, [.int 5, .ref tpassesA, .int tpassesS])), (tjars, .inr (6, [.int 9, .ref tjarsA, .int tjarsS])), (torders, .inr (6, [.int 4, .ref tordersA, .int tordersS])), (tfeasts, .inr (6, [.int 3, .ref tfeastsA, .int tfeastsS])), (tway, .inr (6, [.int 1, .ref twayA, .int twayS]))]) (va_runV (As := [.int tnow]) (rest := []) ⟨hx, hb, hml, hown, hts⟩ (mX9_monthAt l dC dI kA _ w0 tnodes tpasses tjars torders tfeasts tway tws tnow tfm tx tnow) (cwV 1 hts gX10_count_X9_monthAt rfl rfl rfl ⟨rfl, hdX9_monthAt⟩ ⟨(Nat.le_of_ble_eq_true rfl), (Nat.le_of_ble_eq_true rfl)⟩) ⟨zPc.blind, va_recv (q := (RX9, TX9, 10)) hK.1 hP (ci := 9) (q0 := 1) rfl rfl, zPre hK (hP.sub [1] rfl) (hD.sub [1] (by decide) rfl)⟩ rfl rfl hl.1 rfl (lv_room (Nat.le_of_ble_eq_true rfl)) dX10_count_117 ⟨(Nat.le_of_ble_eq_true rfl), (Nat.le_of_ble_eq_true rfl)⟩) hP hD hS hA [1] [0, 2, 3, 4, 5, 6, 7] rfl rfl (by decide) (by decide) (fun r4 u2 H locs hw3 hP hD hS => ?_)
    obtain ⟨er7, hp6⟩ := hw3
    have er7 : r4 = u2 := er7
    subst er7
    have er4 : r4 = fX9_monthAt tfm tnow := hp6
    have hG := zbnd hG er4
    obtain ⟨hP, hD⟩ := z_re (L := [(x0, .inr (10, [.ref w0, .ref z0, .ref xi, .ref xt, .int x_tl, .ref xq, .int x_lc, .ref rdr, .ref h0, .ref t0, .ref q0, .ref v0, .ref m0])), (tnodes, .inr (6, [.int 4, .ref tnodesA, .int tnodesS])), (tpasses, .inr (6, [.int 5, .ref tpassesA, .int tpassesS])), (tjars, .inr (6, [.int 9, .ref tjarsA, .int tjarsS])), (torders, .inr (6, [.int 4, .ref tordersA, .int tordersS])), (tfeasts, .inr (6, [.int 3, .ref tfeastsA, .int tfeastsS])), (tway, .inr (6, [.int 1, .ref twayA, .int twayS])), (w0, .inr (9, [.ref tnodes, .ref tpasses, .ref tjars, .ref torders, .ref tfeasts, .ref tway, .int tws, .int tnow, .int tfm, .int tx]))]) hP hD
    obtain ⟨hP9, hD9⟩ := z_sb (L' := [(x0, .inr (10, [.ref w0, .ref z0, .ref xi, .ref xt, .int x_tl, .ref xq, .int x_lc, .ref rdr, .ref h0, .ref t0, .ref q0, .ref v0, .ref m0])), (w0, .inr (9, [.ref tnodes, .ref tpasses, .ref tjars, .ref torders, .ref tfeasts, .ref tway, .int tws, .int tnow, .int tfm, .int tx])), (tnodes, .inr (6, [.int 4, .ref tnodesA, .int tnodesS])), (tpasses, .inr (6, [.int 5, .ref tpassesA, .int tpassesS])), (tjars, .inr (6, [.int 9, .ref tjarsA, .int tjarsS])), (torders, .inr (6, [.int 4, .ref tordersA, .int tordersS])), (tfeasts, .inr (6, [.int 3, .ref tfeastsA, .int tfeastsS])), (tway, .inr (6, [.int 1, .ref twayA, .int twayS]))]) hP hD [0, 7, 1, 2, 3, 4, 5, 6] (by decide) rfl
    refine W.widen (k := 0) (n := 0) (Nat.le_of_ble_eq_true rfl) (Nat.le_of_ble_eq_true rfl) ?_
    exact W.iret (v := r4) hx hb hr (fun t ht hW => ⟨⟨r4, (r4), rfl, ⟨rfl, (hG.trans hG0.symm)⟩, by rw [ht]; exact hP9, hD9⟩, hS.F ht⟩) hS.2.2 dX10_count_120
  · have hG := zelse hG (fun q9 => by rw [q9] at hs1; revert hs1; decide)
    have hG := zelse hG (fun q9 => by rw [q9] at hs1; revert hs1; decide)
    have hG := zelse hG (fun q9 => by rw [q9] at hs1; revert hs1; decide)
    have hG := zelse hG (fun q9 => by rw [q9] at hs1; revert hs1; decide)
    have hG := zelse hG (fun q9 => by rw [q9] at hs1; revert hs1; decide)
    have hG := zelse hG (fun q9 => by rw [q9] at hs1; revert hs1; decide)
    have hG := zthen hG hs1
    refine lv_tableIn (off := 120) (tgt := 121) hx hb dX10_count_1 (by rw [hs1]; decide) (by rw [hs1]; decide) (by rw [hs1]; decide) (by decide) ?_
    have hl : lv_has ls 2 [(0, .ref x0), (1, .int 6)] := by rw [hs1] at hl; exact hl
    refine lv_aload_n hx hb dX10_count_121 rfl (lv_at hl 0 rfl) ?_
    refine va_get (D := (dC, dI)) (ci := 10) (v := .ref w0) (C := RX10) (T := TX10) (N := 13) hx hb hts iX10_count_X10 hown hK.1 hP 0 gz0 vcz10 0 (by decide) (kX10_count_1 hts) (fun _ h9 => h9) gz0 dX10_count_122 ?_
    refine va_get (D := (dC, dI)) (ci := 9) (v := .ref torders) (C := RX9) (T := TX9) (N := 10) hx hb hts iX10_count_X9 hown hK.1 hP 1 gz1 vcz9 3 (by decide) (kX10_count_8 hts) (fun _ h9 => h9) gz3 dX10_count_125 ?_
    refine va_get (D := (dC, dI)) (ci := 6) (v := .int tordersS) (C := RX6) (T := TX6) (N := 3) hx hb hts iX10_count_X6 hown hK.1 hP 5 gz5 vcz6 2 (by decide) (kX10_count_3 hts) (fun _ h9 => h9) gz2 dX10_count_128 ?_
    obtain ⟨hP9, hD9⟩ := z_sb (L' := [(x0, .inr (10, [.ref w0, .ref z0, .ref xi, .ref xt, .int x_tl, .ref xq, .int x_lc, .ref rdr, .ref h0, .ref t0, .ref q0, .ref v0, .ref m0])), (w0, .inr (9, [.ref tnodes, .ref tpasses, .ref tjars, .ref torders, .ref tfeasts, .ref tway, .int tws, .int tnow, .int tfm, .int tx])), (tnodes, .inr (6, [.int 4, .ref tnodesA, .int tnodesS])), (tpasses, .inr (6, [.int 5, .ref tpassesA, .int tpassesS])), (tjars, .inr (6, [.int 9, .ref tjarsA, .int tjarsS])), (torders, .inr (6, [.int 4, .ref tordersA, .int tordersS])), (tfeasts, .inr (6, [.int 3, .ref tfeastsA, .int tfeastsS])), (tway, .inr (6, [.int 1, .ref twayA, .int twayS]))]) hP hD [0, 1, 2, 3, 4, 5, 6, 7] (by decide) rfl
    refine W.widen (k := 0) (n := 0) (Nat.le_of_ble_eq_true rfl) (Nat.le_of_ble_eq_true rfl) ?_
    exact W.iret (v := tordersS) hx hb hr (fun t ht hW => ⟨⟨tordersS, (tordersS), rfl, ⟨rfl, (hG.trans hG0.symm)⟩, by rw [ht]; exact hP9, hD9⟩, hS.F ht⟩) hS.2.2 dX10_count_131
  · have hG := zelse hG (fun q9 => by rw [q9] at hs1; revert hs1; decide)
    have hG := zelse hG (fun q9 => by rw [q9] at hs1; revert hs1; decide)
    have hG := zelse hG (fun q9 => by rw [q9] at hs1; revert hs1; decide)
    have hG := zelse hG (fun q9 => by rw [q9] at hs1; revert hs1; decide)
    have hG := zelse hG (fun q9 => by rw [q9] at hs1; revert hs1; decide)
    have hG := zelse hG (fun q9 => by rw [q9] at hs1; revert hs1; decide)
    have hG := zelse hG (fun q9 => by rw [q9] at hs1; revert hs1; decide)
    have hG := zthen hG hs1
    refine lv_tableIn (off := 131) (tgt := 132) hx hb dX10_count_1 (by rw [hs1]; decide) (by rw [hs1]; decide) (by rw [hs1]; decide) (by decide) ?_
    have hl : lv_has ls 2 [(0, .ref x0), (1, .int 7)] := by rw [hs1] at hl; exact hl
    refine lv_aload_n hx hb dX10_count_132 rfl (lv_at hl 0 rfl) ?_
    refine va_get (D := (dC, dI)) (ci := 10) (v := .ref w0) (C := RX10) (T := TX10) (N := 13) hx hb hts iX10_count_X10 hown hK.1 hP 0 gz0 vcz10 0 (by decide) (kX10_count_1 hts) (fun _ h9 => h9) gz0 dX10_count_133 ?_
    refine va_get (D := (dC, dI)) (ci := 9) (v := .ref tfeasts) (C := RX9) (T := TX9) (N := 10) hx hb hts iX10_count_X9 hown hK.1 hP 1 gz1 vcz9 4 (by decide) (kX10_count_9 hts) (fun _ h9 => h9) gz4 dX10_count_136 ?_
    refine va_get (D := (dC, dI)) (ci := 6) (v := .int tfeastsS) (C := RX6) (T := TX6) (N := 3) hx hb hts iX10_count_X6 hown hK.1 hP 6 gz6 vcz6 2 (by decide) (kX10_count_3 hts) (fun _ h9 => h9) gz2 dX10_count_139 ?_
    obtain ⟨hP9, hD9⟩ := z_sb (L' := [(x0, .inr (10, [.ref w0, .ref z0, .ref xi, .ref xt, .int x_tl, .ref xq, .int x_lc, .ref rdr, .ref h0, .ref t0, .ref q0, .ref v0, .ref m0])), (w0, .inr (9, [.ref tnodes, .ref tpasses, .ref tjars, .ref torders, .ref tfeasts, .ref tway, .int tws, .int tnow, .int tfm, .int tx])), (tnodes, .inr (6, [.int 4, .ref tnodesA, .int tnodesS])), (tpasses, .inr (6, [.int 5, .ref tpassesA, .int tpassesS])), (tjars, .inr (6, [.int 9, .ref tjarsA, .int tjarsS])), (torders, .inr (6, [.int 4, .ref tordersA, .int tordersS])), (tfeasts, .inr (6, [.int 3, .ref tfeastsA, .int tfeastsS])), (tway, .inr (6, [.int 1, .ref twayA, .int twayS]))]) hP hD [0, 1, 2, 3, 4, 5, 6, 7] (by decide) rfl
    refine W.widen (k := 0) (n := 0) (Nat.le_of_ble_eq_true rfl) (Nat.le_of_ble_eq_true rfl) ?_
    exact W.iret (v := tfeastsS) hx hb hr (fun t ht hW => ⟨⟨tfeastsS, (tfeastsS), rfl, ⟨rfl, (hG.trans hG0.symm)⟩, by rw [ht]; exact hP9, hD9⟩, hS.F ht⟩) hS.2.2 dX10_count_142
  · have hG := zelse hG (fun q9 => by rw [q9] at hs1; revert hs1; decide)
    have hG := zelse hG (fun q9 => by rw [q9] at hs1; revert hs1; decide)
    have hG := zelse hG (fun q9 => by rw [q9] at hs1; revert hs1; decide)
    have hG := zelse hG (fun q9 => by rw [q9] at hs1; revert hs1; decide)
    have hG := zelse hG (fun q9 => by rw [q9] at hs1; revert hs1; decide)
    have hG := zelse hG (fun q9 => by rw [q9] at hs1; revert hs1; decide)
    have hG := zelse hG (fun q9 => by rw [q9] at hs1; revert hs1; decide)
    have hG := zelse hG (fun q9 => by rw [q9] at hs1; revert hs1; decide)
    have hG := zthen hG hs1
    refine lv_tableIn (off := 142) (tgt := 143) hx hb dX10_count_1 (by rw [hs1]; decide) (by rw [hs1]; decide) (by rw [hs1]; decide) (by decide) ?_
    have hl : lv_has ls 2 [(0, .ref x0), (1, .int 8)] := by rw [hs1] at hl; exact hl
    refine lv_aload_n hx hb dX10_count_143 rfl (lv_at hl 0 rfl) ?_
    refine va_get (D := (dC, dI)) (ci := 10) (v := .ref w0) (C := RX10) (T := TX10) (N := 13) hx hb hts iX10_count_X10 hown hK.1 hP 0 gz0 vcz10 0 (by decide) (kX10_count_1 hts) (fun _ h9 => h9) gz0 dX10_count_144 ?_
    refine va_get (D := (dC, dI)) (ci := 9) (v := .int tws) (C := RX9) (T := TX9) (N := 10) hx hb hts iX10_count_X9 hown hK.1 hP 1 gz1 vcz9 6 (by decide) (kX10_count_10 hts) (fun _ h9 => h9) gz6 dX10_count_147 ?_
    refine lv_iconst (v := (-1)) hx hb dX10_count_150 (by decide) ?_
    refine lv_icmp_ne (tgt := 158) hx hb dX10_count_151 (by decide) (fun c_9 => ?_) (fun c_9 => ?_)
    · have hG := zelse hG c_9
      refine lv_aload_n hx hb dX10_count_158 rfl (lv_at hl 0 rfl) ?_
      refine va_get (D := (dC, dI)) (ci := 10) (v := .ref w0) (C := RX10) (T := TX10) (N := 13) hx hb hts iX10_count_X10 hown hK.1 hP 0 gz0 vcz10 0 (by decide) (kX10_count_1 hts) (fun _ h9 => h9) gz0 dX10_count_159 ?_
      refine va_get (D := (dC, dI)) (ci := 9) (v := .ref tway) (C := RX9) (T := TX9) (N := 10) hx hb hts iX10_count_X9 hown hK.1 hP 1 gz1 vcz9 5 (by decide) (kX10_count_11 hts) (fun _ h9 => h9) gz5 dX10_count_162 ?_
      refine va_get (D := (dC, dI)) (ci := 6) (v := .int twayS) (C := RX6) (T := TX6) (N := 3) hx hb hts iX10_count_X6 hown hK.1 hP 7 gz7 vcz6 2 (by decide) (kX10_count_3 hts) (fun _ h9 => h9) gz2 dX10_count_165 ?_
      obtain ⟨hP9, hD9⟩ := z_sb (L' := [(x0, .inr (10, [.ref w0, .ref z0, .ref xi, .ref xt, .int x_tl, .ref xq, .int x_lc, .ref rdr, .ref h0, .ref t0, .ref q0, .ref v0, .ref m0])), (w0, .inr (9, [.ref tnodes, .ref tpasses, .ref tjars, .ref torders, .ref tfeasts, .ref tway, .int tws, .int tnow, .int tfm, .int tx])), (tnodes, .inr (6, [.int 4, .ref tnodesA, .int tnodesS])), (tpasses, .inr (6, [.int 5, .ref tpassesA, .int tpassesS])), (tjars, .inr (6, [.int 9, .ref tjarsA, .int tjarsS])), (torders, .inr (6, [.int 4, .ref tordersA, .int tordersS])), (tfeasts, .inr (6, [.int 3, .ref tfeastsA, .int tfeastsS])), (tway, .inr (6, [.int 1, .ref twayA, .int twayS]))]) hP hD [0, 1, 2, 3, 4, 5, 6, 7] (by decide) rfl
      refine W.widen (k := 0) (n := 0) (Nat.le_of_ble_eq_true rfl) (Nat.le_of_ble_eq_true rfl) ?_
      exact W.iret (v := twayS) hx hb hr (fun t ht hW => ⟨⟨twayS, (twayS), rfl, ⟨rfl, (hG.trans hG0.symm)⟩, by rw [ht]; exact hP9, hD9⟩, hS.F ht⟩) hS.2.2 dX10_count_168
    · have hG := zthen hG c_9
      refine lv_iconst (v := (-1)) hx hb dX10_count_154 (by decide) ?_
      refine lv_goto (tgt := 168) hx hb dX10_count_155 (by decide) ?_
      obtain ⟨hP9, hD9⟩ := z_sb (L' := [(x0, .inr (10, [.ref w0, .ref z0, .ref xi, .ref xt, .int x_tl, .ref xq, .int x_lc, .ref rdr, .ref h0, .ref t0, .ref q0, .ref v0, .ref m0])), (w0, .inr (9, [.ref tnodes, .ref tpasses, .ref tjars, .ref torders, .ref tfeasts, .ref tway, .int tws, .int tnow, .int tfm, .int tx])), (tnodes, .inr (6, [.int 4, .ref tnodesA, .int tnodesS])), (tpasses, .inr (6, [.int 5, .ref tpassesA, .int tpassesS])), (tjars, .inr (6, [.int 9, .ref tjarsA, .int tjarsS])), (torders, .inr (6, [.int 4, .ref tordersA, .int tordersS])), (tfeasts, .inr (6, [.int 3, .ref tfeastsA, .int tfeastsS])), (tway, .inr (6, [.int 1, .ref twayA, .int twayS]))]) hP hD [0, 1, 2, 3, 4, 5, 6, 7] (by decide) rfl
      refine W.widen (k := 0) (n := 0) (Nat.le_of_ble_eq_true rfl) (Nat.le_of_ble_eq_true rfl) ?_
      exact W.iret (v := (-1)) hx hb hr (fun t ht hW => ⟨⟨(-1), ((-1)), rfl, ⟨rfl, (hG.trans hG0.symm)⟩, by rw [ht]; exact hP9, hD9⟩, hS.F ht⟩) hS.2.2 dX10_count_168
  · have hG := zelse hG (fun q9 => by rw [q9] at hs1; revert hs1; decide)
    have hG := zelse hG (fun q9 => by rw [q9] at hs1; revert hs1; decide)
    have hG := zelse hG (fun q9 => by rw [q9] at hs1; revert hs1; decide)
    have hG := zelse hG (fun q9 => by rw [q9] at hs1; revert hs1; decide)
    have hG := zelse hG (fun q9 => by rw [q9] at hs1; revert hs1; decide)
    have hG := zelse hG (fun q9 => by rw [q9] at hs1; revert hs1; decide)
    have hG := zelse hG (fun q9 => by rw [q9] at hs1; revert hs1; decide)
    have hG := zelse hG (fun q9 => by rw [q9] at hs1; revert hs1; decide)
    have hG := zelse hG (fun q9 => by rw [q9] at hs1; revert hs1; decide)
    have hG := zthen hG hs1
    refine lv_tableIn (off := 168) (tgt := 169) hx hb dX10_count_1 (by rw [hs1]; decide) (by rw [hs1]; decide) (by rw [hs1]; decide) (by decide) ?_
    have hl : lv_has ls 2 [(0, .ref x0), (1, .int 9)] := by rw [hs1] at hl; exact hl
    refine lv_aload_n hx hb dX10_count_169 rfl (lv_at hl 0 rfl) ?_
    refine va_get (D := (dC, dI)) (ci := 10) (v := .ref w0) (C := RX10) (T := TX10) (N := 13) hx hb hts iX10_count_X10 hown hK.1 hP 0 gz0 vcz10 0 (by decide) (kX10_count_1 hts) (fun _ h9 => h9) gz0 dX10_count_170 ?_
    refine va_get (D := (dC, dI)) (ci := 9) (v := .int tx) (C := RX9) (T := TX9) (N := 10) hx hb hts iX10_count_X9 hown hK.1 hP 1 gz1 vcz9 9 (by decide) (kX10_count_12 hts) (fun _ h9 => h9) gz9 dX10_count_173 ?_
    obtain ⟨hP9, hD9⟩ := z_sb (L' := [(x0, .inr (10, [.ref w0, .ref z0, .ref xi, .ref xt, .int x_tl, .ref xq, .int x_lc, .ref rdr, .ref h0, .ref t0, .ref q0, .ref v0, .ref m0])), (w0, .inr (9, [.ref tnodes, .ref tpasses, .ref tjars, .ref torders, .ref tfeasts, .ref tway, .int tws, .int tnow, .int tfm, .int tx])), (tnodes, .inr (6, [.int 4, .ref tnodesA, .int tnodesS])), (tpasses, .inr (6, [.int 5, .ref tpassesA, .int tpassesS])), (tjars, .inr (6, [.int 9, .ref tjarsA, .int tjarsS])), (torders, .inr (6, [.int 4, .ref tordersA, .int tordersS])), (tfeasts, .inr (6, [.int 3, .ref tfeastsA, .int tfeastsS])), (tway, .inr (6, [.int 1, .ref twayA, .int twayS]))]) hP hD [0, 1, 2, 3, 4, 5, 6, 7] (by decide) rfl
    refine W.widen (k := 0) (n := 0) (Nat.le_of_ble_eq_true rfl) (Nat.le_of_ble_eq_true rfl) ?_
    exact W.iret (v := tx) hx hb hr (fun t ht hW => ⟨⟨tx, (tx), rfl, ⟨rfl, (hG.trans hG0.symm)⟩, by rw [ht]; exact hP9, hD9⟩, hS.F ht⟩) hS.2.2 dX10_count_176
  · have hG := zelse hG (fun q9 => by rw [q9] at hs1; revert hs1; decide)
    have hG := zelse hG (fun q9 => by rw [q9] at hs1; revert hs1; decide)
    have hG := zelse hG (fun q9 => by rw [q9] at hs1; revert hs1; decide)
    have hG := zelse hG (fun q9 => by rw [q9] at hs1; revert hs1; decide)
    have hG := zelse hG (fun q9 => by rw [q9] at hs1; revert hs1; decide)
    have hG := zelse hG (fun q9 => by rw [q9] at hs1; revert hs1; decide)
    have hG := zelse hG (fun q9 => by rw [q9] at hs1; revert hs1; decide)
    have hG := zelse hG (fun q9 => by rw [q9] at hs1; revert hs1; decide)
    have hG := zelse hG (fun q9 => by rw [q9] at hs1; revert hs1; decide)
    have hG := zelse hG (fun q9 => by rw [q9] at hs1; revert hs1; decide)
    have hG := zthen hG hs1
    refine lv_tableIn (off := 176) (tgt := 177) hx hb dX10_count_1 (by rw [hs1]; decide) (by rw [hs1]; decide) (by rw [hs1]; decide) (by decide) ?_
    have hl : lv_has ls 2 [(0, .ref x0), (1, .int 10)] := by rw [hs1] at hl; exact hl
    refine lv_aload_n hx hb dX10_count_177 rfl (lv_at hl 0 rfl) ?_
    refine va_get (D := (dC, dI)) (ci := 10) (v := .int x_tl) (C := RX10) (T := TX10) (N := 13) hx hb hts iX10_count_X10 hown hK.1 hP 0 gz0 vcz10 4 (by decide) (kX10_count_13 hts) (fun _ h9 => h9) gz4 dX10_count_178 ?_
    obtain ⟨hP9, hD9⟩ := z_sb (L' := [(x0, .inr (10, [.ref w0, .ref z0, .ref xi, .ref xt, .int x_tl, .ref xq, .int x_lc, .ref rdr, .ref h0, .ref t0, .ref q0, .ref v0, .ref m0])), (w0, .inr (9, [.ref tnodes, .ref tpasses, .ref tjars, .ref torders, .ref tfeasts, .ref tway, .int tws, .int tnow, .int tfm, .int tx])), (tnodes, .inr (6, [.int 4, .ref tnodesA, .int tnodesS])), (tpasses, .inr (6, [.int 5, .ref tpassesA, .int tpassesS])), (tjars, .inr (6, [.int 9, .ref tjarsA, .int tjarsS])), (torders, .inr (6, [.int 4, .ref tordersA, .int tordersS])), (tfeasts, .inr (6, [.int 3, .ref tfeastsA, .int tfeastsS])), (tway, .inr (6, [.int 1, .ref twayA, .int twayS]))]) hP hD [0, 1, 2, 3, 4, 5, 6, 7] (by decide) rfl
    refine W.widen (k := 0) (n := 0) (Nat.le_of_ble_eq_true rfl) (Nat.le_of_ble_eq_true rfl) ?_
    exact W.iret (v := x_tl) hx hb hr (fun t ht hW => ⟨⟨x_tl, (x_tl), rfl, ⟨rfl, (hG.trans hG0.symm)⟩, by rw [ht]; exact hP9, hD9⟩, hS.F ht⟩) hS.2.2 dX10_count_181
set_option maxRecDepth 100000 in
def fX10_feed (x_tl : Int32) (xtF : Nat → Int32) (p0 : Int32) (p1 : Int32) (p2 : Int32) (p3 : Int32) (p4 : Int32) : Int32 × (Nat → Int32) × Int32 := if (x_tl + 20) ≤ 400 then (bnd (fX10_writeBytes x_tl xtF p0) (fun (q9 : Int32 × (Nat → Int32)) => bnd (q9.1) (fun (o5 : Int32) => bnd (q9.2) (fun (o6 : Nat → Int32) => bnd (fX10_writeBytes o5 o6 p1) (fun (q17 : Int32 × (Nat → Int32)) => bnd (q17.1) (fun (o13 : Int32) => bnd (q17.2) (fun (o14 : Nat → Int32) => bnd (fX10_writeBytes o13 o14 p2) (fun (q25 : Int32 × (Nat → Int32)) => bnd (q25.1) (fun (o21 : Int32) => bnd (q25.2) (fun (o22 : Nat → Int32) => bnd (fX10_writeBytes o21 o22 p3) (fun (q33 : Int32 × (Nat → Int32)) => bnd (q33.1) (fun (o29 : Int32) => bnd (q33.2) (fun (o30 : Nat → Int32) => bnd (fX10_writeBytes o29 o30 p4) (fun (q41 : Int32 × (Nat → Int32)) => bnd (q41.1) (fun (o37 : Int32) => bnd (q41.2) (fun (o38 : Nat → Int32) => (o37, o38, o37))))))))))))))))) else ((x_tl, xtF, (-1)))
set_option maxHeartbeats 4000000 in
set_option maxRecDepth 100000 in
theorem mX10_feed (l : Launch) (dC : Nat → ClassId) (dI : Nat → Nat → Nat) (kA : Nat → ClassId) (sz : Nat) (x0 : Nat) (z0 : Nat) (xi : Nat) (xt : Nat) (xq : Nat) (rdr : Nat) (h0 : Nat) (t0 : Nat) (q0 : Nat) (v0 : Nat) (m0 : Nat) (w0 : Nat) (x_tl : Int32) (x_lc : Int32) (xtF : Nat → Int32) (p0 : Int32) (p1 : Int32) (p2 : Int32) (p3 : Int32) (p4 : Int32) (ntl : ¬ x_tl < 0) : Met l yX10_feed wsX10_feed ({ frames := 1, cells := 0, slots := 0, locals := 22 }) (zPc dC dI kA sz [.ref x0, .int p0, .int p1, .int p2, .int p3, .int p4] [(x0, .inr (10, [.ref w0, .ref z0, .ref xi, .ref xt, .int x_tl, .ref xq, .int x_lc, .ref rdr, .ref h0, .ref t0, .ref q0, .ref v0, .ref m0])), (xt, .inl (kA 0, 400, .inl xtF))]) (va_Qi (fun (r : Int32) (u : Int32 × (Nat → Int32) × Int32) => r = u.2.2 ∧ (u.1, u.2.1, u.2.2) = fX10_feed x_tl xtF p0 p1 p2 p3 p4 ∧ ¬ u.1 < 0) (zB dC dI (va_A [(x0, .inr (10, [.ref w0, .ref z0, .ref xi, .ref xt, .int x_tl, .ref xq, .int x_lc, .ref rdr, .ref h0, .ref t0, .ref q0, .ref v0, .ref m0])), (xt, .inl (kA 0, 400, .inl xtF))] sz) (fun (u : Int32 × (Nat → Int32) × Int32) => [(x0, .inr (10, [.ref w0, .ref z0, .ref xi, .ref xt, .int u.1, .ref xq, .int x_lc, .ref rdr, .ref h0, .ref t0, .ref q0, .ref v0, .ref m0])), (xt, .inl (kA 0, 400, .inl u.2.1))])) (va_A [(x0, .inr (10, [.ref w0, .ref z0, .ref xi, .ref xt, .int x_tl, .ref xq, .int x_lc, .ref rdr, .ref h0, .ref t0, .ref q0, .ref v0, .ref m0])), (xt, .inl (kA 0, 400, .inl xtF))] sz)) 0 0 (va_A [(x0, .inr (10, [.ref w0, .ref z0, .ref xi, .ref xt, .int x_tl, .ref xq, .int x_lc, .ref rdr, .ref h0, .ref t0, .ref q0, .ref v0, .ref m0])), (xt, .inl (kA 0, 400, .inl xtF))] sz) := by
  refine Met.ofW (cc := cX10_feed) (maxL := 6) (ret := (some .int)) pnX10 rfl ?_
  intro p e s m args below meth c s₁ B hml hv
  obtain ⟨rfl, hsz, hP, hK, hD0⟩ := hv
  have hx := B.exec
  have hb := B.bytes
  have hr := B.returns
  have hts := atoms_spec (ws := wsX10_feed) B.pre
  have hown : s.vm.findClass RX10 = some m.cls := findClass_of_methodNamed B.named
  have hlocks := B.notSynchronized
  subst hsz
  have hD := hD0.self (sz := s.heap.size)
  generalize hAe : va_A [(x0, .inr (10, [.ref w0, .ref z0, .ref xi, .ref xt, .int x_tl, .ref xq, .int x_lc, .ref rdr, .ref h0, .ref t0, .ref q0, .ref v0, .ref m0])), (xt, .inl (kA 0, 400, .inl xtF))] s.heap.size = A at hD ⊢
  have hA : ∀ q : Nat, s.heap.size ≤ q → A q := zA_of hAe
  have hS : va_S A s.heap s.heap [] := va_S.rf
  have hP : va_P (dC, dI) vwCl [(x0, .inr (10, [.ref w0, .ref z0, .ref xi, .ref xt, .int x_tl, .ref xq, .int x_lc, .ref rdr, .ref h0, .ref t0, .ref q0, .ref v0, .ref m0])), (xt, .inl (kA 0, 400, .inl xtF))] s.heap := hP
  have hl := lv_entry ([.ref x0, .int p0, .int p1, .int p2, .int p3, .int p4]) (n := 6) (Nat.le_of_ble_eq_true rfl)
  rw [lg_entry_eq]
  generalize (lg_sl ([.ref x0, .int p0, .int p1, .int p2, .int p3, .int p4]) ++ List.replicate (6 - (lg_sl ([.ref x0, .int p0, .int p1, .int p2, .int p3, .int p4])).length) Slot.unset).toArray = ls at hl ⊢
  have hl : lv_has ls 6 [(0, .ref x0), (1, .int p0), (2, .int p1), (3, .int p2), (4, .int p3), (5, .int p4)] := hl
  obtain ⟨G, hG0⟩ : ∃ G : Int32 × (Nat → Int32) × Int32, fX10_feed x_tl xtF p0 p1 p2 p3 p4 = G := ⟨_, rfl⟩
  have hG := hG0
  unfold fX10_feed at hG
  refine lv_aload_n hx hb dX10_feed_0 rfl (lv_at hl 0 rfl) ?_
  refine va_get (D := (dC, dI)) (ci := 10) (v := .int x_tl) (C := RX10) (T := TX10) (N := 13) hx hb hts iX10_feed_X10 hown hK.1 hP 0 gz0 vcz10 4 (by decide) (kX10_feed_1 hts) (fun _ h9 => h9) gz4 dX10_feed_1 ?_
  refine lv_bipush (v := 20) hx hb dX10_feed_4 (by decide) ?_
  refine lv_iadd hx hb dX10_feed_6 ?_
  refine lv_sipush (v := 400) hx hb dX10_feed_7 (by decide) ?_
  refine lv_icmp_le (tgt := 15) hx hb dX10_feed_10 (by decide) (fun c_1 => ?_) (fun c_1 => ?_)
  · have hG := zthen hG c_1
    refine lv_aload_n hx hb dX10_feed_15 rfl (lv_at hl 0 rfl) ?_
    refine lv_iload_n hx hb dX10_feed_16 rfl (lv_at hl 1 rfl) ?_
    refine z_v (wr := []) (va_runV (As := [.int p0]) (rest := []) ⟨hx, hb, hml, hown, hts⟩ (mX10_writeBytes l dC dI kA _ x0 z0 xi xt xq rdr h0 t0 q0 v0 m0 w0 x_tl x_lc xtF p0 ntl) (cwV 1 hts gX10_feed_X10_writeBytes rfl rfl rfl ⟨rfl, hdX10_writeBytes⟩ ⟨(Nat.le_of_ble_eq_true rfl), (Nat.le_of_ble_eq_true rfl)⟩) ⟨zPc.blind, va_recv (q := (RX10, TX10, 13)) hK.1 hP (ci := 10) (q0 := 0) rfl rfl, zPre hK (hP.sub [0, 1] rfl) (hD.sub [0, 1] (by decide) rfl)⟩ rfl rfl hl.1 rfl (lv_room (Nat.le_of_ble_eq_true rfl)) dX10_feed_17 ⟨(Nat.le_of_ble_eq_true rfl), (Nat.le_of_ble_eq_true rfl)⟩) hP hD hS hA [0, 1] [] rfl rfl (by decide) (by decide) (fun u2 H locs hw3 hP hD hS => ?_)
    obtain ⟨o5, o6⟩ := u2
    obtain ⟨hp7, hp8⟩ := hw3
    obtain ⟨q9, eq9⟩ : ∃ y : Int32 × (Nat → Int32), y = fX10_writeBytes x_tl xtF p0 := ⟨_, rfl⟩
    have hG := zbnd hG eq9
    have eo5 : o5 = q9.1 := by rw [eq9]; exact congrArg (fun z : Int32 × (Nat → Int32) => z.1) hp7
    have hG := zbnd hG eo5
    have eo6 : o6 = q9.2 := by rw [eq9]; exact congrArg (fun z : Int32 × (Nat → Int32) => z.2) hp7
    have hG := zbnd hG eo6
    obtain ⟨hP, hD⟩ := z_re (L := [(x0, .inr (10, [.ref w0, .ref z0, .ref xi, .ref xt, .int o5, .ref xq, .int x_lc, .ref rdr, .ref h0, .ref t0, .ref q0, .ref v0, .ref m0])), (xt, .inl (kA 0, 400, .inl o6))]) hP hD
    refine lv_aload_n hx hb dX10_feed_20 rfl (lv_at hl 0 rfl) ?_
    refine lv_iload_n hx hb dX10_feed_21 rfl (lv_at hl 2 rfl) ?_
    refine z_v (wr := []) (va_runV (As := [.int p1]) (rest := []) ⟨hx, hb, hml, hown, hts⟩ (mX10_writeBytes l dC dI kA _ x0 z0 xi xt xq rdr h0 t0 q0 v0 m0 w0 o5 x_lc o6 p1 hp8) (cwV 1 hts gX10_feed_X10_writeBytes rfl rfl rfl ⟨rfl, hdX10_writeBytes⟩ ⟨(Nat.le_of_ble_eq_true rfl), (Nat.le_of_ble_eq_true rfl)⟩) ⟨zPc.blind, va_recv (q := (RX10, TX10, 13)) hK.1 hP (ci := 10) (q0 := 0) rfl rfl, zPre hK (hP.sub [0, 1] rfl) (hD.sub [0, 1] (by decide) rfl)⟩ rfl rfl hl.1 rfl (lv_room (Nat.le_of_ble_eq_true rfl)) dX10_feed_22 ⟨(Nat.le_of_ble_eq_true rfl), (Nat.le_of_ble_eq_true rfl)⟩) hP hD hS hA [0, 1] [] rfl rfl (by decide) (by decide) (fun u10 H locs hw11 hP hD hS => ?_)
    obtain ⟨o13, o14⟩ := u10
    obtain ⟨hp15, hp16⟩ := hw11
    obtain ⟨q17, eq17⟩ : ∃ y : Int32 × (Nat → Int32), y = fX10_writeBytes o5 o6 p1 := ⟨_, rfl⟩
    have hG := zbnd hG eq17
    have eo13 : o13 = q17.1 := by rw [eq17]; exact congrArg (fun z : Int32 × (Nat → Int32) => z.1) hp15
    have hG := zbnd hG eo13
    have eo14 : o14 = q17.2 := by rw [eq17]; exact congrArg (fun z : Int32 × (Nat → Int32) => z.2) hp15
    have hG := zbnd hG eo14
    obtain ⟨hP, hD⟩ := z_re (L := [(x0, .inr (10, [.ref w0, .ref z0, .ref xi, .ref xt, .int o13, .ref xq, .int x_lc, .ref rdr, .ref h0, .ref t0, .ref q0, .ref v0, .ref m0])), (xt, .inl (kA 0, 400, .inl o14))]) hP hD
    refine lv_aload_n hx hb dX10_feed_25 rfl (lv_at hl 0 rfl) ?_
    refine lv_iload_n hx hb dX10_feed_26 rfl (lv_at hl 3 rfl) ?_
    refine z_v (wr := []) (va_runV (As := [.int p2]) (rest := []) ⟨hx, hb, hml, hown, hts⟩ (mX10_writeBytes l dC dI kA _ x0 z0 xi xt xq rdr h0 t0 q0 v0 m0 w0 o13 x_lc o14 p2 hp16) (cwV 1 hts gX10_feed_X10_writeBytes rfl rfl rfl ⟨rfl, hdX10_writeBytes⟩ ⟨(Nat.le_of_ble_eq_true rfl), (Nat.le_of_ble_eq_true rfl)⟩) ⟨zPc.blind, va_recv (q := (RX10, TX10, 13)) hK.1 hP (ci := 10) (q0 := 0) rfl rfl, zPre hK (hP.sub [0, 1] rfl) (hD.sub [0, 1] (by decide) rfl)⟩ rfl rfl hl.1 rfl (lv_room (Nat.le_of_ble_eq_true rfl)) dX10_feed_27 ⟨(Nat.le_of_ble_eq_true rfl), (Nat.le_of_ble_eq_true rfl)⟩) hP hD hS hA [0, 1] [] rfl rfl (by decide) (by decide) (fun u18 H locs hw19 hP hD hS => ?_)
    obtain ⟨o21, o22⟩ := u18
    obtain ⟨hp23, hp24⟩ := hw19
    obtain ⟨q25, eq25⟩ : ∃ y : Int32 × (Nat → Int32), y = fX10_writeBytes o13 o14 p2 := ⟨_, rfl⟩
    have hG := zbnd hG eq25
    have eo21 : o21 = q25.1 := by rw [eq25]; exact congrArg (fun z : Int32 × (Nat → Int32) => z.1) hp23
    have hG := zbnd hG eo21
    have eo22 : o22 = q25.2 := by rw [eq25]; exact congrArg (fun z : Int32 × (Nat → Int32) => z.2) hp23
    have hG := zbnd hG eo22
    obtain ⟨hP, hD⟩ := z_re (L := [(x0, .inr (10, [.ref w0, .ref z0, .ref xi, .ref xt, .int o21, .ref xq, .int x_lc, .ref rdr, .ref h0, .ref t0, .ref q0, .ref v0, .ref m0])), (xt, .inl (kA 0, 400, .inl o22))]) hP hD
    refine lv_aload_n hx hb dX10_feed_30 rfl (lv_at hl 0 rfl) ?_
    refine lv_iload hx hb dX10_feed_31 (lv_at hl 4 rfl) ?_
    refine z_v (wr := []) (va_runV (As := [.int p3]) (rest := []) ⟨hx, hb, hml, hown, hts⟩ (mX10_writeBytes l dC dI kA _ x0 z0 xi xt xq rdr h0 t0 q0 v0 m0 w0 o21 x_lc o22 p3 hp24) (cwV 1 hts gX10_feed_X10_writeBytes rfl rfl rfl ⟨rfl, hdX10_writeBytes⟩ ⟨(Nat.le_of_ble_eq_true rfl), (Nat.le_of_ble_eq_true rfl)⟩) ⟨zPc.blind, va_recv (q := (RX10, TX10, 13)) hK.1 hP (ci := 10) (q0 := 0) rfl rfl, zPre hK (hP.sub [0, 1] rfl) (hD.sub [0, 1] (by decide) rfl)⟩ rfl rfl hl.1 rfl (lv_room (Nat.le_of_ble_eq_true rfl)) dX10_feed_33 ⟨(Nat.le_of_ble_eq_true rfl), (Nat.le_of_ble_eq_true rfl)⟩) hP hD hS hA [0, 1] [] rfl rfl (by decide) (by decide) (fun u26 H locs hw27 hP hD hS => ?_)
    obtain ⟨o29, o30⟩ := u26
    obtain ⟨hp31, hp32⟩ := hw27
    obtain ⟨q33, eq33⟩ : ∃ y : Int32 × (Nat → Int32), y = fX10_writeBytes o21 o22 p3 := ⟨_, rfl⟩
    have hG := zbnd hG eq33
    have eo29 : o29 = q33.1 := by rw [eq33]; exact congrArg (fun z : Int32 × (Nat → Int32) => z.1) hp31
    have hG := zbnd hG eo29
    have eo30 : o30 = q33.2 := by rw [eq33]; exact congrArg (fun z : Int32 × (Nat → Int32) => z.2) hp31
    have hG := zbnd hG eo30
    obtain ⟨hP, hD⟩ := z_re (L := [(x0, .inr (10, [.ref w0, .ref z0, .ref xi, .ref xt, .int o29, .ref xq, .int x_lc, .ref rdr, .ref h0, .ref t0, .ref q0, .ref v0, .ref m0])), (xt, .inl (kA 0, 400, .inl o30))]) hP hD
    refine lv_aload_n hx hb dX10_feed_36 rfl (lv_at hl 0 rfl) ?_
    refine lv_iload hx hb dX10_feed_37 (lv_at hl 5 rfl) ?_
    refine z_v (wr := []) (va_runV (As := [.int p4]) (rest := []) ⟨hx, hb, hml, hown, hts⟩ (mX10_writeBytes l dC dI kA _ x0 z0 xi xt xq rdr h0 t0 q0 v0 m0 w0 o29 x_lc o30 p4 hp32) (cwV 1 hts gX10_feed_X10_writeBytes rfl rfl rfl ⟨rfl, hdX10_writeBytes⟩ ⟨(Nat.le_of_ble_eq_true rfl), (Nat.le_of_ble_eq_true rfl)⟩) ⟨zPc.blind, va_recv (q := (RX10, TX10, 13)) hK.1 hP (ci := 10) (q0 := 0) rfl rfl, zPre hK (hP.sub [0, 1] rfl) (hD.sub [0, 1] (by decide) rfl)⟩ rfl rfl hl.1 rfl (lv_room (Nat.le_of_ble_eq_true rfl)) dX10_feed_39 ⟨(Nat.le_of_ble_eq_true rfl), (Nat.le_of_ble_eq_true rfl)⟩) hP hD hS hA [0, 1] [] rfl rfl (by decide) (by decide) (fun u34 H locs hw35 hP hD hS => ?_)
    obtain ⟨o37, o38⟩ := u34
    obtain ⟨hp39, hp40⟩ := hw35
    obtain ⟨q41, eq41⟩ : ∃ y : Int32 × (Nat → Int32), y = fX10_writeBytes o29 o30 p4 := ⟨_, rfl⟩
    have hG := zbnd hG eq41
    have eo37 : o37 = q41.1 := by rw [eq41]; exact congrArg (fun z : Int32 × (Nat → Int32) => z.1) hp39
    have hG := zbnd hG eo37
    have eo38 : o38 = q41.2 := by rw [eq41]; exact congrArg (fun z : Int32 × (Nat → Int32) => z.2) hp39
    have hG := zbnd hG eo38
    obtain ⟨hP, hD⟩ := z_re (L := [(x0, .inr (10, [.ref w0, .ref z0, .ref xi, .ref xt, .int o37, .ref xq, .int x_lc, .ref rdr, .ref h0, .ref t0, .ref q0, .ref v0, .ref m0])), (xt, .inl (kA 0, 400, .inl o38))]) hP hD
    refine lv_aload_n hx hb dX10_feed_42 rfl (lv_at hl 0 rfl) ?_
    refine va_get (D := (dC, dI)) (ci := 10) (v := .int o37) (C := RX10) (T := TX10) (N := 13) hx hb hts iX10_feed_X10 hown hK.1 hP 0 gz0 vcz10 4 (by decide) (kX10_feed_1 hts) (fun _ h9 => h9) gz4 dX10_feed_43 ?_
    obtain ⟨hP9, hD9⟩ := z_sb (L' := [(x0, .inr (10, [.ref w0, .ref z0, .ref xi, .ref xt, .int o37, .ref xq, .int x_lc, .ref rdr, .ref h0, .ref t0, .ref q0, .ref v0, .ref m0])), (xt, .inl (kA 0, 400, .inl o38))]) hP hD [0, 1] (by decide) rfl
    refine W.widen (k := 0) (n := 0) (Nat.le_of_ble_eq_true rfl) (Nat.le_of_ble_eq_true rfl) ?_
    exact W.iret (v := o37) hx hb hr (fun t ht hW => ⟨⟨o37, (o37, o38, o37), rfl, ⟨rfl, (hG.trans hG0.symm), hp40⟩, by rw [ht]; exact hP9, hD9⟩, hS.F ht⟩) hS.2.2 dX10_feed_46
  · have hG := zelse hG c_1
    refine lv_iconst (v := (-1)) hx hb dX10_feed_13 (by decide) ?_
    obtain ⟨hP9, hD9⟩ := z_sb (L' := [(x0, .inr (10, [.ref w0, .ref z0, .ref xi, .ref xt, .int x_tl, .ref xq, .int x_lc, .ref rdr, .ref h0, .ref t0, .ref q0, .ref v0, .ref m0])), (xt, .inl (kA 0, 400, .inl xtF))]) hP hD [0, 1] (by decide) rfl
    refine W.widen (k := 0) (n := 0) (Nat.le_of_ble_eq_true rfl) (Nat.le_of_ble_eq_true rfl) ?_
    exact W.iret (v := (-1)) hx hb hr (fun t ht hW => ⟨⟨(-1), (x_tl, xtF, (-1)), rfl, ⟨rfl, (hG.trans hG0.symm), ntl⟩, by rw [ht]; exact hP9, hD9⟩, hS.F ht⟩) hS.2.2 dX10_feed_14
set_option maxRecDepth 100000 in
def fX10_end (x_tl : Int32) (p0 : Int32) : Int32 × Int32 := if (wi p0 x_tl) = 0 then ((x_tl, (-1))) else ((p0, p0))
set_option maxHeartbeats 4000000 in
set_option maxRecDepth 100000 in
theorem mX10_end (l : Launch) (dC : Nat → ClassId) (dI : Nat → Nat → Nat) (kA : Nat → ClassId) (sz : Nat) (x0 : Nat) (z0 : Nat) (xi : Nat) (xt : Nat) (xq : Nat) (rdr : Nat) (h0 : Nat) (t0 : Nat) (q0 : Nat) (v0 : Nat) (m0 : Nat) (w0 : Nat) (x_tl : Int32) (x_lc : Int32) (p0 : Int32) (ntl : ¬ x_tl < 0) : Met l yX10_end wsX10_end ({ frames := 1, cells := 0, slots := 0, locals := 21 }) (zPc dC dI kA sz [.ref x0, .int p0] [(x0, .inr (10, [.ref w0, .ref z0, .ref xi, .ref xt, .int x_tl, .ref xq, .int x_lc, .ref rdr, .ref h0, .ref t0, .ref q0, .ref v0, .ref m0]))]) (va_Qi (fun (r : Int32) (u : Int32 × Int32) => r = u.2 ∧ (u.1, u.2) = fX10_end x_tl p0 ∧ ¬ u.1 < 0) (zB dC dI (va_A [(x0, .inr (10, [.ref w0, .ref z0, .ref xi, .ref xt, .int x_tl, .ref xq, .int x_lc, .ref rdr, .ref h0, .ref t0, .ref q0, .ref v0, .ref m0]))] sz) (fun (u : Int32 × Int32) => [(x0, .inr (10, [.ref w0, .ref z0, .ref xi, .ref xt, .int u.1, .ref xq, .int x_lc, .ref rdr, .ref h0, .ref t0, .ref q0, .ref v0, .ref m0]))])) (va_A [(x0, .inr (10, [.ref w0, .ref z0, .ref xi, .ref xt, .int x_tl, .ref xq, .int x_lc, .ref rdr, .ref h0, .ref t0, .ref q0, .ref v0, .ref m0]))] sz)) 0 0 (va_A [(x0, .inr (10, [.ref w0, .ref z0, .ref xi, .ref xt, .int x_tl, .ref xq, .int x_lc, .ref rdr, .ref h0, .ref t0, .ref q0, .ref v0, .ref m0]))] sz) := by
  refine Met.ofW (cc := cX10_end) (maxL := 2) (ret := (some .int)) pnX10 rfl ?_
  intro p e s m args below meth c s₁ B hml hv
  obtain ⟨rfl, hsz, hP, hK, hD0⟩ := hv
  have hx := B.exec
  have hb := B.bytes
  have hr := B.returns
  have hts := atoms_spec (ws := wsX10_end) B.pre
  have hown : s.vm.findClass RX10 = some m.cls := findClass_of_methodNamed B.named
  have hlocks := B.notSynchronized
  subst hsz
  have hD := hD0.self (sz := s.heap.size)
  generalize hAe : va_A [(x0, .inr (10, [.ref w0, .ref z0, .ref xi, .ref xt, .int x_tl, .ref xq, .int x_lc, .ref rdr, .ref h0, .ref t0, .ref q0, .ref v0, .ref m0]))] s.heap.size = A at hD ⊢
  have hA : ∀ q : Nat, s.heap.size ≤ q → A q := zA_of hAe
  have hS : va_S A s.heap s.heap [] := va_S.rf
  have hP : va_P (dC, dI) vwCl [(x0, .inr (10, [.ref w0, .ref z0, .ref xi, .ref xt, .int x_tl, .ref xq, .int x_lc, .ref rdr, .ref h0, .ref t0, .ref q0, .ref v0, .ref m0]))] s.heap := hP
  have hl := lv_entry ([.ref x0, .int p0]) (n := 2) (Nat.le_of_ble_eq_true rfl)
  rw [lg_entry_eq]
  generalize (lg_sl ([.ref x0, .int p0]) ++ List.replicate (2 - (lg_sl ([.ref x0, .int p0])).length) Slot.unset).toArray = ls at hl ⊢
  have hl : lv_has ls 2 [(0, .ref x0), (1, .int p0)] := hl
  obtain ⟨G, hG0⟩ : ∃ G : Int32 × Int32, fX10_end x_tl p0 = G := ⟨_, rfl⟩
  have hG := hG0
  unfold fX10_end at hG
  refine lv_iload_n hx hb dX10_end_0 rfl (lv_at hl 1 rfl) ?_
  refine lv_aload_n hx hb dX10_end_1 rfl (lv_at hl 0 rfl) ?_
  refine va_get (D := (dC, dI)) (ci := 10) (v := .int x_tl) (C := RX10) (T := TX10) (N := 13) hx hb hts iX10_end_X10 hown hK.1 hP 0 gz0 vcz10 4 (by decide) (kX10_end_1 hts) (fun _ h9 => h9) gz4 dX10_end_2 ?_
  refine z_i (wr := [(x0, .inr (10, [.ref w0, .ref z0, .ref xi, .ref xt, .int x_tl, .ref xq, .int x_lc, .ref rdr, .ref h0, .ref t0, .ref q0, .ref v0, .ref m0]))]) (va_runS (As := [.int p0, .int x_tl]) (rest := []) ⟨hx, hb, hml, hown, hts⟩ (mX10_within l dC dI kA _ p0 x_tl) (va_cwS 2 hts gX10_end_X10_within rfl rfl rfl hdX10_within ⟨(Nat.le_of_ble_eq_true rfl), (Nat.le_of_ble_eq_true rfl)⟩) ⟨zPc.blind, zPre hK (hP.sub [] rfl) (hD.sub [] (by decide) rfl)⟩ rfl rfl hl.1 rfl (lv_room (Nat.le_of_ble_eq_true rfl)) dX10_end_5 ⟨(Nat.le_of_ble_eq_true rfl), (Nat.le_of_ble_eq_true rfl)⟩) hP hD hS hA [] [0] rfl rfl (by decide) (by decide) (fun r3 u1 H locs hw2 hP hD hS => ?_)
  obtain rfl := hw2
  obtain ⟨hP, hD⟩ := z_re (L := [(x0, .inr (10, [.ref w0, .ref z0, .ref xi, .ref xt, .int x_tl, .ref xq, .int x_lc, .ref rdr, .ref h0, .ref t0, .ref q0, .ref v0, .ref m0]))]) hP hD
  refine lv_if_ne (tgt := 13) hx hb dX10_end_8 (by decide) (fun c_4 => ?_) (fun c_4 => ?_)
  · have hG := zelse hG c_4
    have c_4a := wi_ne c_4
    have c_4b := c_4a.2
    have c_4a := c_4a.1
    refine lv_aload_n hx hb dX10_end_13 rfl (lv_at hl 0 rfl) ?_
    refine lv_iload_n hx hb dX10_end_14 rfl (lv_at hl 1 rfl) ?_
    refine va_put (D := (dC, dI)) (ci := 10) (v := .int p0) (ty := .int) (C := RX10) (T := TX10) (N := 13) hx hb hts iX10_end_X10 tyX10 tyX10_ok nmX10 hown hK.1 hP hD hS 0 gz0 vcz10 4 (by decide) (kX10_end_1 hts) (fun _ h9 => h9) rfl pfdI rfl rfl (Nat.le_of_ble_eq_true rfl) dX10_end_15 (fun H locs hP hD hS => ?_)
    obtain ⟨hP, hD⟩ := z_re (L := [(x0, .inr (10, [.ref w0, .ref z0, .ref xi, .ref xt, .int p0, .ref xq, .int x_lc, .ref rdr, .ref h0, .ref t0, .ref q0, .ref v0, .ref m0]))]) hP hD
    refine lv_iload_n hx hb dX10_end_18 rfl (lv_at hl 1 rfl) ?_
    obtain ⟨hP9, hD9⟩ := z_sb (L' := [(x0, .inr (10, [.ref w0, .ref z0, .ref xi, .ref xt, .int p0, .ref xq, .int x_lc, .ref rdr, .ref h0, .ref t0, .ref q0, .ref v0, .ref m0]))]) hP hD [0] (by decide) rfl
    refine W.widen (k := 0) (n := 0) (Nat.le_of_ble_eq_true rfl) (Nat.le_of_ble_eq_true rfl) ?_
    exact W.iret (v := p0) hx hb hr (fun t ht hW => ⟨⟨p0, (p0, p0), rfl, ⟨rfl, (hG.trans hG0.symm), c_4a⟩, by rw [ht]; exact hP9, hD9⟩, hS.F ht⟩) hS.2.2 dX10_end_19
  · have hG := zthen hG c_4
    refine lv_iconst (v := (-1)) hx hb dX10_end_11 (by decide) ?_
    obtain ⟨hP9, hD9⟩ := z_sb (L' := [(x0, .inr (10, [.ref w0, .ref z0, .ref xi, .ref xt, .int x_tl, .ref xq, .int x_lc, .ref rdr, .ref h0, .ref t0, .ref q0, .ref v0, .ref m0]))]) hP hD [0] (by decide) rfl
    refine W.widen (k := 0) (n := 0) (Nat.le_of_ble_eq_true rfl) (Nat.le_of_ble_eq_true rfl) ?_
    exact W.iret (v := (-1)) hx hb hr (fun t ht hW => ⟨⟨(-1), (x_tl, (-1)), rfl, ⟨rfl, (hG.trans hG0.symm), ntl⟩, by rw [ht]; exact hP9, hD9⟩, hS.F ht⟩) hS.2.2 dX10_end_12
