def ixX1_init : List Nat := [10, 11, 18, 79, 80, 81, 82, 83, 84, 85, 86, 87, 88, 89, 90, 91, 92, 1411, 1412, 1413, 1414, 1415, 1416, 1417, 1418, 1419, 1420, 1421, 1422, 1423, 1424, 1425, 1426, 1427]
def wsX1_init : List Cond := .code yX1_init cX1_init 1 none :: ixX1_init.map wt
def ixX6_init : List Nat := [10, 11, 18, 61, 62, 63, 64, 65, 66, 67, 68, 1457, 1458, 1459]
def wsX6_init : List Cond := .code yX6_init cX6_init 3 none :: ixX6_init.map wt
def ixX9_init : List Nat := [10, 11, 18, 47, 48, 49, 50, 51, 52, 53, 54, 55, 56, 57, 58, 59, 60, 61, 62, 63, 64, 65, 66, 67, 68, 1457, 1458, 1459, 1476, 1477, 1478, 1479, 1480, 1481, 1482, 1483, 1484, 1485]
def wsX9_init : List Cond := .code yX9_init cX9_init 1 none :: ixX9_init.map wt
theorem ggX9_init_X6_init : GoodIn wsX9_init wsX6_init := gi_ (A := ixX9_init) (B := ixX6_init) wt61 (by decide +kernel)
theorem gX9_init_X6_init : GoodIn wsX9_init (wsX6_init) := ggX9_init_X6_init
