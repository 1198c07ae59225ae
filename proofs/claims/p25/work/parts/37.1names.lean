def ixJ6_bitCount_0f7a4 : List Nat := [1260, 1261, 1262, 1263]
def wsJ6_bitCount_0f7a4 : List Cond := .code yJ6_bitCount_0f7a4 cJ6_bitCount_0f7a4 1 (some .int) :: ixJ6_bitCount_0f7a4.map wt
def ixX3_canServe : List Nat := [135, 1256, 1257, 1258, 1259, 1260, 1261, 1262, 1263, 1436, 1437, 1438, 1439]
def wsX3_canServe : List Cond := .code yX3_canServe cX3_canServe 6 (some .boolean) :: ixX3_canServe.map wt
def ixX3_choose : List Nat := [44, 51, 63, 68, 135, 136, 137, 595, 596, 597, 1240, 1241, 1242, 1243, 1244, 1245, 1246, 1247, 1248, 1249, 1250, 1251, 1252, 1253, 1254, 1255, 1256, 1257, 1258, 1259, 1260, 1261, 1262, 1263, 1264, 1265, 1266, 1267, 1436, 1437, 1438, 1439, 1457, 1458, 1459, 1476, 1477, 1478, 1479, 1480, 1481, 1482, 1483, 1484, 1485]
def wsX3_choose : List Cond := .code yX3_choose cX3_choose 5 none :: ixX3_choose.map wt
def ixX3_firstJar : List Nat := [44, 51, 63, 68, 135, 137, 595, 596, 597, 1242, 1243, 1244, 1245, 1246, 1247, 1248, 1249, 1250, 1251, 1252, 1253, 1254, 1255, 1256, 1257, 1258, 1259, 1260, 1261, 1262, 1263, 1267, 1436, 1437, 1438, 1439, 1457, 1458, 1459, 1476, 1477, 1478, 1479, 1480, 1481, 1482, 1483, 1484, 1485]
def wsX3_firstJar : List Cond := .code yX3_firstJar cX3_firstJar 8 (some .int) :: ixX3_firstJar.map wt
def ixX3_greatest : List Nat := [44, 51, 63, 68, 135, 137, 595, 596, 597, 1242, 1243, 1247, 1248, 1249, 1250, 1251, 1252, 1253, 1254, 1255, 1256, 1257, 1258, 1259, 1260, 1261, 1262, 1263, 1436, 1437, 1438, 1439, 1457, 1458, 1459, 1476, 1477, 1478, 1479, 1480, 1481, 1482, 1483, 1484, 1485]
def wsX3_greatest : List Cond := .code yX3_greatest cX3_greatest 7 (some .int) :: ixX3_greatest.map wt
def ixX3_jarFor : List Nat := [51, 136, 137, 179, 200, 201, 202, 1242, 1271, 1272, 1436, 1437, 1438, 1439, 1457, 1458, 1459, 1476, 1477, 1478, 1479, 1480, 1481, 1482, 1483, 1484, 1485]
def wsX3_jarFor : List Cond := .code yX3_jarFor cX3_jarFor 2 (some .int) :: ixX3_jarFor.map wt
def ixX3_offer : List Nat := [135, 1236, 1436, 1437, 1438, 1439]
def wsX3_offer : List Cond := .code yX3_offer cX3_offer 3 none :: ixX3_offer.map wt
def ixX3_open : List Nat := [135, 1232, 1436, 1437, 1438, 1439]
def wsX3_open : List Cond := .code yX3_open cX3_open 2 none :: ixX3_open.map wt
def ixX3_priceOf : List Nat := [51, 63, 68, 137, 595, 596, 597, 1242, 1251, 1252, 1436, 1437, 1438, 1439, 1457, 1458, 1459, 1476, 1477, 1478, 1479, 1480, 1481, 1482, 1483, 1484, 1485]
def wsX3_priceOf : List Cond := .code yX3_priceOf cX3_priceOf 4 (some .int) :: ixX3_priceOf.map wt
theorem ggX3_canServe_J6_bitCount_0f7a4 : GoodIn wsX3_canServe wsJ6_bitCount_0f7a4 := gi_ (A := ixX3_canServe) (B := ixJ6_bitCount_0f7a4) wt1260 (by decide +kernel)
theorem gX3_canServe_J6_bitCount_0f7a4 : GoodIn wsX3_canServe (va_wsS RX3 60 yJ6_bitCount_0f7a4 wsJ6_bitCount_0f7a4) := g3_ (A := ixX3_canServe) wt1257 wt1258 wt1259 (by decide +kernel) ggX3_canServe_J6_bitCount_0f7a4
theorem ggX3_choose_X3_firstJar : GoodIn wsX3_choose wsX3_firstJar := gi_ (A := ixX3_choose) (B := ixX3_firstJar) wt1267 (by decide +kernel)
theorem gX3_choose_X3_firstJar : GoodIn wsX3_choose (wsV RX3 45 RX3 yX3_firstJar wsX3_firstJar) := g4_ (A := ixX3_choose) wt1264 wt1265 wt1266 wt44 (by decide +kernel) ggX3_choose_X3_firstJar
theorem ggX3_choose_X3_greatest : GoodIn wsX3_choose wsX3_greatest := gi_ (A := ixX3_choose) (B := ixX3_greatest) wt1247 (by decide +kernel)
theorem gX3_choose_X3_greatest : GoodIn wsX3_choose (wsV RX3 34 RX3 yX3_greatest wsX3_greatest) := g4_ (A := ixX3_choose) wt1244 wt1245 wt1246 wt44 (by decide +kernel) ggX3_choose_X3_greatest
theorem ggX3_choose_X6_get : GoodIn wsX3_choose wsX6_get := gi_ (A := ixX3_choose) (B := ixX6_get) wt597 (by decide +kernel)
theorem gX3_choose_X6_get : GoodIn wsX3_choose (wsV RX3 49 RX6 yX6_get wsX6_get) := g4_ (A := ixX3_choose) wt1252 wt595 wt596 wt51 (by decide +kernel) ggX3_choose_X6_get
theorem ggX3_firstJar_X3_greatest : GoodIn wsX3_firstJar wsX3_greatest := gi_ (A := ixX3_firstJar) (B := ixX3_greatest) wt1247 (by decide +kernel)
theorem gX3_firstJar_X3_greatest : GoodIn wsX3_firstJar (wsV RX3 34 RX3 yX3_greatest wsX3_greatest) := g4_ (A := ixX3_firstJar) wt1244 wt1245 wt1246 wt44 (by decide +kernel) ggX3_firstJar_X3_greatest
theorem ggX3_firstJar_X6_get : GoodIn wsX3_firstJar wsX6_get := gi_ (A := ixX3_firstJar) (B := ixX6_get) wt597 (by decide +kernel)
theorem gX3_firstJar_X6_get : GoodIn wsX3_firstJar (wsV RX3 49 RX6 yX6_get wsX6_get) := g4_ (A := ixX3_firstJar) wt1252 wt595 wt596 wt51 (by decide +kernel) ggX3_firstJar_X6_get
theorem ggX3_greatest_X3_canServe : GoodIn wsX3_greatest wsX3_canServe := gi_ (A := ixX3_greatest) (B := ixX3_canServe) wt1256 (by decide +kernel)
theorem gX3_greatest_X3_canServe : GoodIn wsX3_greatest (wsV RX3 56 RX3 yX3_canServe wsX3_canServe) := g4_ (A := ixX3_greatest) wt1253 wt1254 wt1255 wt44 (by decide +kernel) ggX3_greatest_X3_canServe
theorem ggX3_greatest_X3_priceOf : GoodIn wsX3_greatest wsX3_priceOf := gi_ (A := ixX3_greatest) (B := ixX3_priceOf) wt1251 (by decide +kernel)
theorem gX3_greatest_X3_priceOf : GoodIn wsX3_greatest (wsV RX3 52 RX3 yX3_priceOf wsX3_priceOf) := g4_ (A := ixX3_greatest) wt1248 wt1249 wt1250 wt44 (by decide +kernel) ggX3_greatest_X3_priceOf
theorem ggX3_jarFor_X6_has : GoodIn wsX3_jarFor wsX6_has := gi_ (A := ixX3_jarFor) (B := ixX6_has) wt202 (by decide +kernel)
theorem gX3_jarFor_X6_has : GoodIn wsX3_jarFor (wsV RX3 28 RX6 yX6_has wsX6_has) := g4_ (A := ixX3_jarFor) wt1272 wt200 wt201 wt51 (by decide +kernel) ggX3_jarFor_X6_has
theorem ggX3_priceOf_X6_get : GoodIn wsX3_priceOf wsX6_get := gi_ (A := ixX3_priceOf) (B := ixX6_get) wt597 (by decide +kernel)
theorem gX3_priceOf_X6_get : GoodIn wsX3_priceOf (wsV RX3 49 RX6 yX6_get wsX6_get) := g4_ (A := ixX3_priceOf) wt1252 wt595 wt596 wt51 (by decide +kernel) ggX3_priceOf_X6_get
