def ixX9_bring : List Nat := [51, 52, 63, 66, 68, 181, 182, 183, 225, 287, 288, 594, 595, 596, 597, 644, 645, 646, 1457, 1458, 1459, 1476, 1477, 1478, 1479, 1480, 1481, 1482, 1483, 1484, 1485]
def wsX9_bring : List Cond := .code yX9_bring cX9_bring 5 (some .int) :: ixX9_bring.map wt
def ixX9_copyFrom : List Nat := [51, 52, 53, 54, 55, 56, 57, 58, 68, 179, 602, 779, 1362, 1363, 1364, 1365, 1366, 1367, 1368, 1369, 1370, 1371, 1457, 1458, 1459, 1476, 1477, 1478, 1479, 1480, 1481, 1482, 1483, 1484, 1485]
def wsX9_copyFrom : List Cond := .code yX9_copyFrom cX9_copyFrom 2 none :: ixX9_copyFrom.map wt
def ixX9_draw : List Nat := [778, 779, 780, 781, 782, 783, 1476, 1477, 1478, 1479, 1480, 1481, 1482, 1483, 1484, 1485]
def wsX9_draw : List Cond := .code yX9_draw cX9_draw 1 (some .int) :: ixX9_draw.map wt
def ixX9_dropsOfAll : List Nat := [51, 52, 54, 63, 68, 594, 595, 596, 597, 887, 1375, 1457, 1458, 1459, 1476, 1477, 1478, 1479, 1480, 1481, 1482, 1483, 1484, 1485]
def wsX9_dropsOfAll : List Cond := .code yX9_dropsOfAll cX9_dropsOfAll 3 (some .int) :: ixX9_dropsOfAll.map wt
def ixX9_hasSnow : List Nat := [51, 52, 63, 68, 594, 595, 596, 597, 606, 1457, 1458, 1459, 1476, 1477, 1478, 1479, 1480, 1481, 1482, 1483, 1484, 1485]
def wsX9_hasSnow : List Cond := .code yX9_hasSnow cX9_hasSnow 3 (some .boolean) :: ixX9_hasSnow.map wt
def ixX9_jarsAt : List Nat := [51, 54, 63, 68, 594, 595, 596, 597, 886, 887, 1457, 1458, 1459, 1476, 1477, 1478, 1479, 1480, 1481, 1482, 1483, 1484, 1485]
def wsX9_jarsAt : List Cond := .code yX9_jarsAt cX9_jarsAt 4 (some .int) :: ixX9_jarsAt.map wt
def ixX9_jarsThatAre : List Nat := [14, 51, 54, 63, 68, 594, 595, 596, 597, 884, 885, 886, 887, 1379, 1380, 1457, 1458, 1459, 1476, 1477, 1478, 1479, 1480, 1481, 1482, 1483, 1484, 1485]
def wsX9_jarsThatAre : List Cond := .code yX9_jarsThatAre cX9_jarsThatAre 1 (some .int) :: ixX9_jarsThatAre.map wt
def ixX9_lose : List Nat := [14, 51, 54, 63, 68, 181, 182, 183, 222, 223, 224, 225, 787, 788, 1457, 1458, 1459, 1476, 1477, 1478, 1479, 1480, 1481, 1482, 1483, 1484, 1485]
def wsX9_lose : List Cond := .code yX9_lose cX9_lose 2 none :: ixX9_lose.map wt
def ixX9_monthAt : List Nat := [601, 602, 1476, 1477, 1478, 1479, 1480, 1481, 1482, 1483, 1484, 1485]
def wsX9_monthAt : List Cond := .code yX9_monthAt cX9_monthAt 2 (some .int) :: ixX9_monthAt.map wt
def ixX9_nodeOf : List Nat := [51, 54, 63, 68, 179, 200, 201, 202, 592, 593, 594, 595, 596, 597, 1457, 1458, 1459, 1476, 1477, 1478, 1479, 1480, 1481, 1482, 1483, 1484, 1485]
def wsX9_nodeOf : List Cond := .code yX9_nodeOf cX9_nodeOf 3 (some .int) :: ixX9_nodeOf.map wt
def ixX9_otherEnd : List Nat := [51, 53, 63, 68, 179, 200, 201, 202, 593, 594, 595, 596, 597, 673, 1457, 1458, 1459, 1476, 1477, 1478, 1479, 1480, 1481, 1482, 1483, 1484, 1485]
def wsX9_otherEnd : List Cond := .code yX9_otherEnd cX9_otherEnd 5 (some .int) :: ixX9_otherEnd.map wt
def ixX9_standAt : List Nat := [51, 54, 63, 68, 181, 182, 183, 224, 225, 1457, 1458, 1459, 1476, 1477, 1478, 1479, 1480, 1481, 1482, 1483, 1484, 1485]
def wsX9_standAt : List Cond := .code yX9_standAt cX9_standAt 3 none :: ixX9_standAt.map wt
def ixX9_wayEnd : List Nat := [14, 51, 53, 57, 58, 63, 68, 179, 200, 201, 202, 593, 594, 595, 596, 597, 671, 672, 673, 887, 920, 921, 1457, 1458, 1459, 1476, 1477, 1478, 1479, 1480, 1481, 1482, 1483, 1484, 1485]
def wsX9_wayEnd : List Cond := .code yX9_wayEnd cX9_wayEnd 3 (some .int) :: ixX9_wayEnd.map wt
def ixX9_wayHas : List Nat := [14, 51, 53, 57, 58, 63, 68, 179, 200, 201, 202, 593, 594, 595, 596, 597, 671, 672, 673, 887, 921, 925, 1457, 1458, 1459, 1476, 1477, 1478, 1479, 1480, 1481, 1482, 1483, 1484, 1485]
def wsX9_wayHas : List Cond := .code yX9_wayHas cX9_wayHas 4 (some .boolean) :: ixX9_wayHas.map wt
theorem ggX9_bring_X6_get : GoodIn wsX9_bring wsX6_get := gi_ (A := ixX9_bring) (B := ixX6_get) wt597 (by decide +kernel)
theorem gX9_bring_X6_get : GoodIn wsX9_bring (wsV RX9 52 RX6 yX6_get wsX6_get) := g4_ (A := ixX9_bring) wt594 wt595 wt596 wt51 (by decide +kernel) ggX9_bring_X6_get
theorem ggX9_bring_X6_put : GoodIn wsX9_bring wsX6_put := gi_ (A := ixX9_bring) (B := ixX6_put) wt183 (by decide +kernel)
theorem gX9_bring_X6_put : GoodIn wsX9_bring (wsV RX9 66 RX6 yX6_put wsX6_put) := g4_ (A := ixX9_bring) wt225 wt181 wt182 wt51 (by decide +kernel) ggX9_bring_X6_put
theorem ggX9_copyFrom_X6_copyFrom : GoodIn wsX9_copyFrom wsX6_copyFrom := gi_ (A := ixX9_copyFrom) (B := ixX6_copyFrom) wt1367 (by decide +kernel)
theorem gX9_copyFrom_X6_copyFrom : GoodIn wsX9_copyFrom (wsV RX9 39 RX6 yX6_copyFrom wsX6_copyFrom) := g4_ (A := ixX9_copyFrom) wt1364 wt1365 wt1366 wt51 (by decide +kernel) ggX9_copyFrom_X6_copyFrom
theorem ggX9_dropsOfAll_X6_get : GoodIn wsX9_dropsOfAll wsX6_get := gi_ (A := ixX9_dropsOfAll) (B := ixX6_get) wt597 (by decide +kernel)
theorem gX9_dropsOfAll_X6_get : GoodIn wsX9_dropsOfAll (wsV RX9 52 RX6 yX6_get wsX6_get) := g4_ (A := ixX9_dropsOfAll) wt594 wt595 wt596 wt51 (by decide +kernel) ggX9_dropsOfAll_X6_get
theorem ggX9_hasSnow_X6_get : GoodIn wsX9_hasSnow wsX6_get := gi_ (A := ixX9_hasSnow) (B := ixX6_get) wt597 (by decide +kernel)
theorem gX9_hasSnow_X6_get : GoodIn wsX9_hasSnow (wsV RX9 52 RX6 yX6_get wsX6_get) := g4_ (A := ixX9_hasSnow) wt594 wt595 wt596 wt51 (by decide +kernel) ggX9_hasSnow_X6_get
theorem ggX9_jarsAt_X6_get : GoodIn wsX9_jarsAt wsX6_get := gi_ (A := ixX9_jarsAt) (B := ixX6_get) wt597 (by decide +kernel)
theorem gX9_jarsAt_X6_get : GoodIn wsX9_jarsAt (wsV RX9 52 RX6 yX6_get wsX6_get) := g4_ (A := ixX9_jarsAt) wt594 wt595 wt596 wt51 (by decide +kernel) ggX9_jarsAt_X6_get
theorem ggX9_jarsThatAre_X9_jarsAt : GoodIn wsX9_jarsThatAre wsX9_jarsAt := gi_ (A := ixX9_jarsThatAre) (B := ixX9_jarsAt) wt886 (by decide +kernel)
theorem gX9_jarsThatAre_X9_jarsAt : GoodIn wsX9_jarsThatAre (wsV RX9 79 RX9 yX9_jarsAt wsX9_jarsAt) := g4_ (A := ixX9_jarsThatAre) wt1380 wt884 wt885 wt14 (by decide +kernel) ggX9_jarsThatAre_X9_jarsAt
theorem ggX9_lose_X6_put : GoodIn wsX9_lose wsX6_put := gi_ (A := ixX9_lose) (B := ixX6_put) wt183 (by decide +kernel)
theorem gX9_lose_X6_put : GoodIn wsX9_lose (wsV RX9 66 RX6 yX6_put wsX6_put) := g4_ (A := ixX9_lose) wt225 wt181 wt182 wt51 (by decide +kernel) ggX9_lose_X6_put
theorem ggX9_lose_X9_standAt : GoodIn wsX9_lose wsX9_standAt := gi_ (A := ixX9_lose) (B := ixX9_standAt) wt224 (by decide +kernel)
theorem gX9_lose_X9_standAt : GoodIn wsX9_lose (wsV RX9 70 RX9 yX9_standAt wsX9_standAt) := g4_ (A := ixX9_lose) wt788 wt222 wt223 wt14 (by decide +kernel) ggX9_lose_X9_standAt
theorem ggX9_nodeOf_X6_get : GoodIn wsX9_nodeOf wsX6_get := gi_ (A := ixX9_nodeOf) (B := ixX6_get) wt597 (by decide +kernel)
theorem gX9_nodeOf_X6_get : GoodIn wsX9_nodeOf (wsV RX9 52 RX6 yX6_get wsX6_get) := g4_ (A := ixX9_nodeOf) wt594 wt595 wt596 wt51 (by decide +kernel) ggX9_nodeOf_X6_get
theorem ggX9_nodeOf_X6_has : GoodIn wsX9_nodeOf wsX6_has := gi_ (A := ixX9_nodeOf) (B := ixX6_has) wt202 (by decide +kernel)
theorem gX9_nodeOf_X6_has : GoodIn wsX9_nodeOf (wsV RX9 56 RX6 yX6_has wsX6_has) := g4_ (A := ixX9_nodeOf) wt593 wt200 wt201 wt51 (by decide +kernel) ggX9_nodeOf_X6_has
theorem ggX9_otherEnd_X6_get : GoodIn wsX9_otherEnd wsX6_get := gi_ (A := ixX9_otherEnd) (B := ixX6_get) wt597 (by decide +kernel)
theorem gX9_otherEnd_X6_get : GoodIn wsX9_otherEnd (wsV RX9 52 RX6 yX6_get wsX6_get) := g4_ (A := ixX9_otherEnd) wt594 wt595 wt596 wt51 (by decide +kernel) ggX9_otherEnd_X6_get
theorem ggX9_otherEnd_X6_has : GoodIn wsX9_otherEnd wsX6_has := gi_ (A := ixX9_otherEnd) (B := ixX6_has) wt202 (by decide +kernel)
theorem gX9_otherEnd_X6_has : GoodIn wsX9_otherEnd (wsV RX9 56 RX6 yX6_has wsX6_has) := g4_ (A := ixX9_otherEnd) wt593 wt200 wt201 wt51 (by decide +kernel) ggX9_otherEnd_X6_has
theorem ggX9_standAt_X6_put : GoodIn wsX9_standAt wsX6_put := gi_ (A := ixX9_standAt) (B := ixX6_put) wt183 (by decide +kernel)
theorem gX9_standAt_X6_put : GoodIn wsX9_standAt (wsV RX9 66 RX6 yX6_put wsX6_put) := g4_ (A := ixX9_standAt) wt225 wt181 wt182 wt51 (by decide +kernel) ggX9_standAt_X6_put
theorem ggX9_wayEnd_X6_get : GoodIn wsX9_wayEnd wsX6_get := gi_ (A := ixX9_wayEnd) (B := ixX6_get) wt597 (by decide +kernel)
theorem gX9_wayEnd_X6_get : GoodIn wsX9_wayEnd (wsV RX9 52 RX6 yX6_get wsX6_get) := g4_ (A := ixX9_wayEnd) wt594 wt595 wt596 wt51 (by decide +kernel) ggX9_wayEnd_X6_get
theorem ggX9_wayEnd_X9_otherEnd : GoodIn wsX9_wayEnd wsX9_otherEnd := gi_ (A := ixX9_wayEnd) (B := ixX9_otherEnd) wt673 (by decide +kernel)
theorem gX9_wayEnd_X9_otherEnd : GoodIn wsX9_wayEnd (wsV RX9 63 RX9 yX9_otherEnd wsX9_otherEnd) := g4_ (A := ixX9_wayEnd) wt921 wt671 wt672 wt14 (by decide +kernel) ggX9_wayEnd_X9_otherEnd
theorem ggX9_wayHas_X6_get : GoodIn wsX9_wayHas wsX6_get := gi_ (A := ixX9_wayHas) (B := ixX6_get) wt597 (by decide +kernel)
theorem gX9_wayHas_X6_get : GoodIn wsX9_wayHas (wsV RX9 52 RX6 yX6_get wsX6_get) := g4_ (A := ixX9_wayHas) wt594 wt595 wt596 wt51 (by decide +kernel) ggX9_wayHas_X6_get
theorem ggX9_wayHas_X9_otherEnd : GoodIn wsX9_wayHas wsX9_otherEnd := gi_ (A := ixX9_wayHas) (B := ixX9_otherEnd) wt673 (by decide +kernel)
theorem gX9_wayHas_X9_otherEnd : GoodIn wsX9_wayHas (wsV RX9 63 RX9 yX9_otherEnd wsX9_otherEnd) := g4_ (A := ixX9_wayHas) wt921 wt671 wt672 wt14 (by decide +kernel) ggX9_wayHas_X9_otherEnd
