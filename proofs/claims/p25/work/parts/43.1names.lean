def ixX10_back : List Nat := [2, 14, 15, 17, 51, 52, 53, 54, 55, 56, 57, 58, 68, 172, 173, 174, 179, 588, 602, 779, 1359, 1360, 1361, 1362, 1363, 1364, 1365, 1366, 1367, 1368, 1369, 1370, 1371, 1405, 1457, 1458, 1459, 1476, 1477, 1478, 1479, 1480, 1481, 1482, 1483, 1484, 1485, 1486, 1487, 1488, 1489, 1490, 1491, 1492, 1493, 1494, 1495, 1496, 1497, 1498]
def wsX10_back : List Cond := .code yX10_back cX10_back 2 (some .int) :: ixX10_back.map wt
def ixX10_image : List Nat := [2, 10, 11, 12, 13, 14, 15, 17, 18, 46, 47, 48, 49, 50, 51, 52, 53, 54, 55, 56, 57, 58, 59, 60, 61, 62, 63, 64, 65, 66, 67, 68, 172, 173, 174, 179, 588, 602, 779, 1359, 1360, 1361, 1362, 1363, 1364, 1365, 1366, 1367, 1368, 1369, 1370, 1371, 1396, 1457, 1458, 1459, 1476, 1477, 1478, 1479, 1480, 1481, 1482, 1483, 1484, 1485, 1486, 1487, 1488, 1489, 1490, 1491, 1492, 1493, 1494, 1495, 1496, 1497, 1498]
def wsX10_image : List Cond := .code yX10_image cX10_image 2 (some .int) :: ixX10_image.map wt
theorem ggX10_back_X10_within : GoodIn wsX10_back wsX10_within := gi_ (A := ixX10_back) (B := ixX10_within) wt174 (by decide +kernel)
theorem gX10_back_X10_within : GoodIn wsX10_back (va_wsS RX10 79 yX10_within wsX10_within) := g3_ (A := ixX10_back) wt172 wt173 wt2 (by decide +kernel) ggX10_back_X10_within
theorem ggX10_back_X9_copyFrom : GoodIn wsX10_back wsX9_copyFrom := gi_ (A := ixX10_back) (B := ixX9_copyFrom) wt1362 (by decide +kernel)
theorem gX10_back_X9_copyFrom : GoodIn wsX10_back (wsV RX10 295 RX9 yX9_copyFrom wsX9_copyFrom) := g4_ (A := ixX10_back) wt1359 wt1360 wt1361 wt14 (by decide +kernel) ggX10_back_X9_copyFrom
theorem ggX10_image_X10_within : GoodIn wsX10_image wsX10_within := gi_ (A := ixX10_image) (B := ixX10_within) wt174 (by decide +kernel)
theorem gX10_image_X10_within : GoodIn wsX10_image (va_wsS RX10 79 yX10_within wsX10_within) := g3_ (A := ixX10_image) wt172 wt173 wt2 (by decide +kernel) ggX10_image_X10_within
theorem ggX10_image_X9_copyFrom : GoodIn wsX10_image wsX9_copyFrom := gi_ (A := ixX10_image) (B := ixX9_copyFrom) wt1362 (by decide +kernel)
theorem gX10_image_X9_copyFrom : GoodIn wsX10_image (wsV RX10 295 RX9 yX9_copyFrom wsX9_copyFrom) := g4_ (A := ixX10_image) wt1359 wt1360 wt1361 wt14 (by decide +kernel) ggX10_image_X9_copyFrom
theorem ggX10_image_X9_init_n9 : GoodIn wsX10_image wsX9_init := gi_ (A := ixX10_image) (B := ixX9_init) wt47 (by decide +kernel)
theorem gX10_image_X9_init_n9 : GoodIn wsX10_image (wsX9_init) := ggX10_image_X9_init_n9
