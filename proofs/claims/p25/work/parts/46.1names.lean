def ixX0_init : List Nat := [10, 11, 18, 94, 95, 96, 97, 98, 99, 100, 101, 102, 103, 1410, 1440, 1441, 1442, 1443]
def wsX0_init : List Cond := .code yX0_init cX0_init 1 none :: ixX0_init.map wt
def ixX10_init : List Nat := [8, 9, 10, 11, 12, 13, 14, 15, 16, 17, 18, 19, 20, 21, 22, 23, 24, 25, 26, 27, 28, 29, 30, 31, 32, 33, 34, 35, 36, 37, 38, 39, 40, 41, 42, 43, 44, 45, 46, 47, 48, 49, 50, 51, 52, 53, 54, 55, 56, 57, 58, 59, 60, 61, 62, 63, 64, 65, 66, 67, 68, 69, 70, 71, 72, 73, 74, 75, 76, 77, 78, 79, 80, 81, 82, 83, 84, 85, 86, 87, 88, 89, 90, 91, 92, 93, 94, 95, 96, 97, 98, 99, 100, 101, 102, 103, 104, 105, 106, 107, 108, 109, 110, 111, 112, 113, 114, 115, 116, 117, 118, 119, 120, 121, 122, 123, 124, 125, 126, 127, 128, 129, 130, 131, 132, 133, 134, 135, 136, 137, 1410, 1411, 1412, 1413, 1414, 1415, 1416, 1417, 1418, 1419, 1420, 1421, 1422, 1423, 1424, 1425, 1426, 1427, 1428, 1429, 1430, 1431, 1432, 1433, 1434, 1435, 1436, 1437, 1438, 1439, 1440, 1441, 1442, 1443, 1444, 1445, 1446, 1447, 1448, 1449, 1450, 1451, 1452, 1453, 1454, 1455, 1456, 1457, 1458, 1459, 1460, 1461, 1462, 1463, 1464, 1465, 1466, 1467, 1468, 1469, 1470, 1471, 1472, 1473, 1474, 1475, 1476, 1477, 1478, 1479, 1480, 1481, 1482, 1483, 1484, 1485, 1486, 1487, 1488, 1489, 1490, 1491, 1492, 1493, 1494, 1495, 1496, 1497, 1498]
def wsX10_init : List Cond := .code yX10_init cX10_init 1 none :: ixX10_init.map wt
def ixX11_init : List Nat := [10, 11, 18, 140, 141, 142, 143, 144, 145, 146, 147, 148, 149, 150, 151, 152, 153, 154, 155, 156, 157, 158, 159, 160, 161, 162, 163, 164, 165, 166, 1499, 1500, 1501, 1502, 1503, 1504, 1505, 1506, 1507, 1508, 1509, 1510, 1511, 1512, 1513, 1514, 1515, 1516, 1517, 1518, 1519, 1520, 1521, 1522, 1523, 1524, 1525, 1526, 1527, 1528, 1529, 1530, 1531, 1532, 1533, 1534, 1535, 1536, 1537, 1538, 1539, 1540]
def wsX11_init : List Cond := .code yX11_init cX11_init 1 none :: ixX11_init.map wt
def ixX2_init : List Nat := [10, 11, 18, 70, 71, 72, 73, 74, 75, 76, 77, 78, 79, 80, 81, 82, 83, 84, 85, 86, 87, 88, 89, 90, 91, 92, 1411, 1412, 1413, 1414, 1415, 1416, 1417, 1418, 1419, 1420, 1421, 1422, 1423, 1424, 1425, 1426, 1427, 1428, 1429, 1430, 1431, 1432, 1433, 1434, 1435]
def wsX2_init : List Cond := .code yX2_init cX2_init 1 none :: ixX2_init.map wt
def ixX3_init : List Nat := [10, 11, 18, 133, 134, 135, 136, 137, 1436, 1437, 1438, 1439]
def wsX3_init : List Cond := .code yX3_init cX3_init 2 none :: ixX3_init.map wt
def ixX4_init : List Nat := [10, 11, 18, 101, 102, 103, 1440, 1441, 1442, 1443]
def wsX4_init : List Cond := .code yX4_init cX4_init 1 none :: ixX4_init.map wt
def ixX5_init : List Nat := [10, 11, 18, 115, 116, 117, 118, 119, 120, 121, 1444, 1445, 1446, 1447, 1448, 1449, 1450, 1451, 1452, 1453, 1454, 1455, 1456]
def wsX5_init : List Cond := .code yX5_init cX5_init 3 none :: ixX5_init.map wt
def ixX7_init : List Nat := [10, 11, 18, 75, 76, 78, 79, 80, 81, 82, 83, 84, 85, 86, 87, 88, 89, 90, 91, 92, 97, 98, 100, 101, 102, 103, 106, 107, 108, 109, 110, 111, 112, 1411, 1412, 1413, 1414, 1415, 1416, 1417, 1418, 1419, 1420, 1421, 1422, 1423, 1424, 1425, 1426, 1427, 1440, 1441, 1442, 1443, 1460, 1461, 1462, 1463, 1464, 1465, 1466, 1467, 1468]
def wsX7_init : List Cond := .code yX7_init cX7_init 2 none :: ixX7_init.map wt
def ixX8_init : List Nat := [10, 11, 18, 124, 125, 126, 127, 128, 129, 130, 1469, 1470, 1471, 1472, 1473, 1474, 1475]
def wsX8_init : List Cond := .code yX8_init cX8_init 3 none :: ixX8_init.map wt
theorem ggX0_init_X4_init_n11 : GoodIn wsX0_init wsX4_init := gi_ (A := ixX0_init) (B := ixX4_init) wt101 (by decide +kernel)
theorem gX0_init_X4_init_n11 : GoodIn wsX0_init (wsX4_init) := ggX0_init_X4_init_n11
theorem ggX10_init_X0_init_n42 : GoodIn wsX10_init wsX0_init := gi_ (A := ixX10_init) (B := ixX0_init) wt94 (by decide +kernel)
theorem gX10_init_X0_init_n42 : GoodIn wsX10_init (wsX0_init) := ggX10_init_X0_init_n42
theorem ggX10_init_X2_init_n35 : GoodIn wsX10_init wsX2_init := gi_ (A := ixX10_init) (B := ixX2_init) wt70 (by decide +kernel)
theorem gX10_init_X2_init_n35 : GoodIn wsX10_init (wsX2_init) := ggX10_init_X2_init_n35
theorem ggX10_init_X3_init : GoodIn wsX10_init wsX3_init := gi_ (A := ixX10_init) (B := ixX3_init) wt133 (by decide +kernel)
theorem gX10_init_X3_init : GoodIn wsX10_init (wsX3_init) := ggX10_init_X3_init
theorem ggX10_init_X5_init : GoodIn wsX10_init wsX5_init := gi_ (A := ixX10_init) (B := ixX5_init) wt115 (by decide +kernel)
theorem gX10_init_X5_init : GoodIn wsX10_init (wsX5_init) := ggX10_init_X5_init
theorem ggX10_init_X7_init : GoodIn wsX10_init wsX7_init := gi_ (A := ixX10_init) (B := ixX7_init) wt106 (by decide +kernel)
theorem gX10_init_X7_init : GoodIn wsX10_init (wsX7_init) := ggX10_init_X7_init
theorem ggX10_init_X8_init : GoodIn wsX10_init wsX8_init := gi_ (A := ixX10_init) (B := ixX8_init) wt124 (by decide +kernel)
theorem gX10_init_X8_init : GoodIn wsX10_init (wsX8_init) := ggX10_init_X8_init
theorem ggX10_init_X9_init_n9 : GoodIn wsX10_init wsX9_init := gi_ (A := ixX10_init) (B := ixX9_init) wt47 (by decide +kernel)
theorem gX10_init_X9_init_n9 : GoodIn wsX10_init (wsX9_init) := ggX10_init_X9_init_n9
theorem ggX2_init_X1_init_n22 : GoodIn wsX2_init wsX1_init := gi_ (A := ixX2_init) (B := ixX1_init) wt79 (by decide +kernel)
theorem gX2_init_X1_init_n22 : GoodIn wsX2_init (wsX1_init) := ggX2_init_X1_init_n22
theorem ggX7_init_X1_init_n11 : GoodIn wsX7_init wsX1_init := gi_ (A := ixX7_init) (B := ixX1_init) wt79 (by decide +kernel)
theorem gX7_init_X1_init_n11 : GoodIn wsX7_init (wsX1_init) := ggX7_init_X1_init_n11
theorem ggX7_init_X4_init_n20 : GoodIn wsX7_init wsX4_init := gi_ (A := ixX7_init) (B := ixX4_init) wt101 (by decide +kernel)
theorem gX7_init_X4_init_n20 : GoodIn wsX7_init (wsX4_init) := ggX7_init_X4_init_n20
