def ixX9_bring : List Nat := [51, 52, 63, 66, 68, 181, 182, 183, 225, 287, 288, 594, 595, 596, 597, 644, 645, 646, 1457, 1458, 1459, 1476, 1477, 1478, 1479, 1480, 1481, 1482, 1483, 1484, 1485]
def wsX9_bring : List Cond := .code yX9_bring cX9_bring 5 (some .int) :: ixX9_bring.map wt
def ixX9_copyFrom : List Nat := [51, 52, 53, 54, 55, 56, 57, 58, 68, 179, 602, 779, 1362, 1363, 1364, 1365, 1366, 1367, 1368, 1369, 1370, 1371, 1457, 1458, 1459, 1476, 1477, 1478, 1479, 1480, 1481, 1482, 1483, 1484, 1485]
def wsX9_copyFrom : List Cond := .code yX9_copyFrom cX9_copyFrom 2 none :: ixX9_copyFrom.map wt
def ixX9_draw : List Nat := [778, 779, 780, 781, 782, 783, 1476, 1477, 1478, 1479, 1480, 1481, 1482, 1483, 1484, 1485]
def wsX9_draw : List Cond := .code yX9_draw cX9_draw 1 (some .int) :: ixX9_draw.map wt
def ixX9_dropsOfAll : List Nat := [51, 52, 54, 63, 68, 594, 595, 596, 597, 887, 1375, 1457, 1458, 1459, 1476, 1477, 1478, 1479, 1480, 1481, 1482, 1483, 1484, 1485]
def wsX9_dropsOfAll : List Cond := .code yX9_dropsOfAll cX9_dropsOfAll 3 (some .int) :: ixX9_dropsOfAll.map wt
def ixX9_hasSnow : List Nat := [51, 52, 63, 68, 594, 595, 596, 597, 606, 1457, 1458, 1459, 1476, 1477, 1478, 1479, 1480, 1481, 1482, 1483, 1484, 1485]
def wsX9_hasSnow : List Cond := .code yX9_hasSnow cX9_hasSnow 3 (some .boolean) :: ixX9_hasSnow.map wt
def ixX9_jarsAt : List Nat := [51, 54, 63, 68, 594, 595, 596, 597, 886, 887, 1457, 1458, 1459, 1476, 1477, 1478, 1479, 1480, 1481, 1482, 1483, 1484, 1485]
def wsX9_jarsAt : List Cond := .code yX9_jarsAt cX9_jarsAt 4 (some .int) :: ixX9_jarsAt.map wt
def ixX9_jarsThatAre : List Nat := [14, 51, 54, 63, 68, 594, 595, 596, 597, 884, 885, 886, 887, 1379, 1380, 1457, 1458, 1459, 1476, 1477, 1478, 1479, 1480, 1481, 1482, 1483, 1484, 1485]
def wsX9_jarsThatAre : List Cond := .code yX9_jarsThatAre cX9_jarsThatAre 1 (some .int) :: ixX9_jarsThatAre.map wt
def ixX9_lose : List Nat := [14, 51, 54, 63, 68, 181, 182, 183, 222, 223, 224, 225, 787, 788, 1457, 1458, 1459, 1476, 1477, 1478, 1479, 1480, 1481, 1482, 1483, 1484, 1485]
def wsX9_lose : List Cond := .code yX9_lose cX9_lose 2 none :: ixX9_lose.map wt
def ixX9_monthAt : List Nat := [601, 602, 1476, 1477, 1478, 1479, 1480, 1481, 1482, 1483, 1484, 1485]
def wsX9_monthAt : List Cond := .code yX9_monthAt cX9_monthAt 2 (some .int) :: ixX9_monthAt.map wt
def ixX9_nodeOf : List Nat := [51, 54, 63, 68, 179, 200, 201, 202, 592, 593, 594, 595, 596, 597, 1457, 1458, 1459, 1476, 1477, 1478, 1479, 1480, 1481, 1482, 1483, 1484, 1485]
def wsX9_nodeOf : List Cond := .code yX9_nodeOf cX9_nodeOf 3 (some .int) :: ixX9_nodeOf.map wt
def ixX9_otherEnd : List Nat := [51, 53, 63, 68, 179, 200, 201, 202, 593, 594, 595, 596, 597, 673, 1457, 1458, 1459, 1476, 1477, 1478, 1479, 1480, 1481, 1482, 1483, 1484, 1485]
def wsX9_otherEnd : List Cond := .code yX9_otherEnd cX9_otherEnd 5 (some .int) :: ixX9_otherEnd.map wt
def ixX9_standAt : List Nat := [51, 54, 63, 68, 181, 182, 183, 224, 225, 1457, 1458, 1459, 1476, 1477, 1478, 1479, 1480, 1481, 1482, 1483, 1484, 1485]
def wsX9_standAt : List Cond := .code yX9_standAt cX9_standAt 3 none :: ixX9_standAt.map wt
def ixX9_wayEnd : List Nat := [14, 51, 53, 57, 58, 63, 68, 179, 200, 201, 202, 593, 594, 595, 596, 597, 671, 672, 673, 887, 920, 921, 1457, 1458, 1459, 1476, 1477, 1478, 1479, 1480, 1481, 1482, 1483, 1484, 1485]
def wsX9_wayEnd : List Cond := .code yX9_wayEnd cX9_wayEnd 3 (some .int) :: ixX9_wayEnd.map wt
def ixX9_wayHas : List Nat := [14, 51, 53, 57, 58, 63, 68, 179, 200, 201, 202, 593, 594, 595, 596, 597, 671, 672, 673, 887, 921, 925, 1457, 1458, 1459, 1476, 1477, 1478, 1479, 1480, 1481, 1482, 1483, 1484, 1485]
def wsX9_wayHas : List Cond := .code yX9_wayHas cX9_wayHas 4 (some .boolean) :: ixX9_wayHas.map wt
theorem ggX9_bring_X6_get : GoodIn wsX9_bring wsX6_get := gi_ (A := ixX9_bring) (B := ixX6_get) wt597 (by decide +kernel)
theorem gX9_bring_X6_get : GoodIn wsX9_bring (wsV RX9 52 RX6 yX6_get wsX6_get) := g4_ (A := ixX9_bring) wt594 wt595 wt596 wt51 (by decide +kernel) ggX9_bring_X6_get
theorem ggX9_bring_X6_put : GoodIn wsX9_bring wsX6_put := gi_ (A := ixX9_bring) (B := ixX6_put) wt183 (by decide +kernel)
theorem gX9_bring_X6_put : GoodIn wsX9_bring (wsV RX9 66 RX6 yX6_put wsX6_put) := g4_ (A := ixX9_bring) wt225 wt181 wt182 wt51 (by decide +kernel) ggX9_bring_X6_put
theorem ggX9_copyFrom_X6_copyFrom : GoodIn wsX9_copyFrom wsX6_copyFrom := gi_ (A := ixX9_copyFrom) (B := ixX6_copyFrom) wt1367 (by decide +kernel)
theorem gX9_copyFrom_X6_copyFrom : GoodIn wsX9_copyFrom (wsV RX9 39 RX6 yX6_copyFrom wsX6_copyFrom) := g4_ (A := ixX9_copyFrom) wt1364 wt1365 wt1366 wt51 (by decide +kernel) ggX9_copyFrom_X6_copyFrom
theorem ggX9_dropsOfAll_X6_get : GoodIn wsX9_dropsOfAll wsX6_get := gi_ (A := ixX9_dropsOfAll) (B := ixX6_get) wt597 (by decide +kernel)
theorem gX9_dropsOfAll_X6_get : GoodIn wsX9_dropsOfAll (wsV RX9 52 RX6 yX6_get wsX6_get) := g4_ (A := ixX9_dropsOfAll) wt594 wt595 wt596 wt51 (by decide +kernel) ggX9_dropsOfAll_X6_get
theorem ggX9_hasSnow_X6_get : GoodIn wsX9_hasSnow wsX6_get := gi_ (A := ixX9_hasSnow) (B := ixX6_get) wt597 (by decide +kernel)
theorem gX9_hasSnow_X6_get : GoodIn wsX9_hasSnow (wsV RX9 52 RX6 yX6_get wsX6_get) := g4_ (A := ixX9_hasSnow) wt594 wt595 wt596 wt51 (by decide +kernel) ggX9_hasSnow_X6_get
theorem ggX9_jarsAt_X6_get : GoodIn wsX9_jarsAt wsX6_get := gi_ (A := ixX9_jarsAt) (B := ixX6_get) wt597 (by decide +kernel)
theorem gX9_jarsAt_X6_get : GoodIn wsX9_jarsAt (wsV RX9 52 RX6 yX6_get wsX6_get) := g4_ (A := ixX9_jarsAt) wt594 wt595 wt596 wt51 (by decide +kernel) ggX9_jarsAt_X6_get
theorem ggX9_jarsThatAre_X9_jarsAt : GoodIn wsX9_jarsThatAre wsX9_jarsAt := gi_ (A := ixX9_jarsThatAre) (B := ixX9_jarsAt) wt886 (by decide +kernel)
theorem gX9_jarsThatAre_X9_jarsAt : GoodIn wsX9_jarsThatAre (wsV RX9 79 RX9 yX9_jarsAt wsX9_jarsAt) := g4_ (A := ixX9_jarsThatAre) wt1380 wt884 wt885 wt14 (by decide +kernel) ggX9_jarsThatAre_X9_jarsAt
theorem ggX9_lose_X6_put : GoodIn wsX9_lose wsX6_put := gi_ (A := ixX9_lose) (B := ixX6_put) wt183 (by decide +kernel)
theorem gX9_lose_X6_put : GoodIn wsX9_lose (wsV RX9 66 RX6 yX6_put wsX6_put) := g4_ (A := ixX9_lose) wt225 wt181 wt182 wt51 (by decide +kernel) ggX9_lose_X6_put
theorem ggX9_lose_X9_standAt : GoodIn wsX9_lose wsX9_standAt := gi_ (A := ixX9_lose) (B := ixX9_standAt) wt224 (by decide +kernel)
theorem gX9_lose_X9_standAt : GoodIn wsX9_lose (wsV RX9 70 RX9 yX9_standAt wsX9_standAt) := g4_ (A := ixX9_lose) wt788 wt222 wt223 wt14 (by decide +kernel) ggX9_lose_X9_standAt
theorem ggX9_nodeOf_X6_get : GoodIn wsX9_nodeOf wsX6_get := gi_ (A := ixX9_nodeOf) (B := ixX6_get) wt597 (by decide +kernel)
theorem gX9_nodeOf_X6_get : GoodIn wsX9_nodeOf (wsV RX9 52 RX6 yX6_get wsX6_get) := g4_ (A := ixX9_nodeOf) wt594 wt595 wt596 wt51 (by decide +kernel) ggX9_nodeOf_X6_get
theorem ggX9_nodeOf_X6_has : GoodIn wsX9_nodeOf wsX6_has := gi_ (A := ixX9_nodeOf) (B := ixX6_has) wt202 (by decide +kernel)
theorem gX9_nodeOf_X6_has : GoodIn wsX9_nodeOf (wsV RX9 56 RX6 yX6_has wsX6_has) := g4_ (A := ixX9_nodeOf) wt593 wt200 wt201 wt51 (by decide +kernel) ggX9_nodeOf_X6_has
theorem ggX9_otherEnd_X6_get : GoodIn wsX9_otherEnd wsX6_get := gi_ (A := ixX9_otherEnd) (B := ixX6_get) wt597 (by decide +kernel)
theorem gX9_otherEnd_X6_get : GoodIn wsX9_otherEnd (wsV RX9 52 RX6 yX6_get wsX6_get) := g4_ (A := ixX9_otherEnd) wt594 wt595 wt596 wt51 (by decide +kernel) ggX9_otherEnd_X6_get
theorem ggX9_otherEnd_X6_has : GoodIn wsX9_otherEnd wsX6_has := gi_ (A := ixX9_otherEnd) (B := ixX6_has) wt202 (by decide +kernel)
theorem gX9_otherEnd_X6_has : GoodIn wsX9_otherEnd (wsV RX9 56 RX6 yX6_has wsX6_has) := g4_ (A := ixX9_otherEnd) wt593 wt200 wt201 wt51 (by decide +kernel) ggX9_otherEnd_X6_has
theorem ggX9_standAt_X6_put : GoodIn wsX9_standAt wsX6_put := gi_ (A := ixX9_standAt) (B := ixX6_put) wt183 (by decide +kernel)
theorem gX9_standAt_X6_put : GoodIn wsX9_standAt (wsV RX9 66 RX6 yX6_put wsX6_put) := g4_ (A := ixX9_standAt) wt225 wt181 wt182 wt51 (by decide +kernel) ggX9_standAt_X6_put
theorem ggX9_wayEnd_X6_get : GoodIn wsX9_wayEnd wsX6_get := gi_ (A := ixX9_wayEnd) (B := ixX6_get) wt597 (by decide +kernel)
theorem gX9_wayEnd_X6_get : GoodIn wsX9_wayEnd (wsV RX9 52 RX6 yX6_get wsX6_get) := g4_ (A := ixX9_wayEnd) wt594 wt595 wt596 wt51 (by decide +kernel) ggX9_wayEnd_X6_get
theorem ggX9_wayEnd_X9_otherEnd : GoodIn wsX9_wayEnd wsX9_otherEnd := gi_ (A := ixX9_wayEnd) (B := ixX9_otherEnd) wt673 (by decide +kernel)
theorem gX9_wayEnd_X9_otherEnd : GoodIn wsX9_wayEnd (wsV RX9 63 RX9 yX9_otherEnd wsX9_otherEnd) := g4_ (A := ixX9_wayEnd) wt921 wt671 wt672 wt14 (by decide +kernel) ggX9_wayEnd_X9_otherEnd
theorem ggX9_wayHas_X6_get : GoodIn wsX9_wayHas wsX6_get := gi_ (A := ixX9_wayHas) (B := ixX6_get) wt597 (by decide +kernel)
theorem gX9_wayHas_X6_get : GoodIn wsX9_wayHas (wsV RX9 52 RX6 yX6_get wsX6_get) := g4_ (A := ixX9_wayHas) wt594 wt595 wt596 wt51 (by decide +kernel) ggX9_wayHas_X6_get
theorem ggX9_wayHas_X9_otherEnd : GoodIn wsX9_wayHas wsX9_otherEnd := gi_ (A := ixX9_wayHas) (B := ixX9_otherEnd) wt673 (by decide +kernel)
theorem gX9_wayHas_X9_otherEnd : GoodIn wsX9_wayHas (wsV RX9 63 RX9 yX9_otherEnd wsX9_otherEnd) := g4_ (A := ixX9_wayHas) wt921 wt671 wt672 wt14 (by decide +kernel) ggX9_wayHas_X9_otherEnd
theorem kX9_monthAt_1 {a : Array Value} {s : State} (hts : ∀ w ∈ wsX9_monthAt, w.before a s = true) : (.fieldLink RX9 46 "SnowMules$World" "firstMonth" "I" : Cond).before a s = true := kw (A := ixX9_monthAt) wt602 hts (by decide +kernel)
theorem kX9_hasSnow_1 {a : Array Value} {s : State} (hts : ∀ w ∈ wsX9_hasSnow, w.before a s = true) : (.fieldLink RX9 14 "SnowMules$World" "nodes" "LSnowMules$Table;" : Cond).before a s = true := kw (A := ixX9_hasSnow) wt52 hts (by decide +kernel)
theorem kX9_otherEnd_1 {a : Array Value} {s : State} (hts : ∀ w ∈ wsX9_otherEnd, w.before a s = true) : (.fieldLink RX9 20 "SnowMules$World" "passes" "LSnowMules$Table;" : Cond).before a s = true := kw (A := ixX9_otherEnd) wt53 hts (by decide +kernel)
theorem kX9_wayEnd_1 {a : Array Value} {s : State} (hts : ∀ w ∈ wsX9_wayEnd, w.before a s = true) : (.fieldLink RX9 35 "SnowMules$World" "wayStart" "I" : Cond).before a s = true := kw (A := ixX9_wayEnd) wt58 hts (by decide +kernel)
theorem kX9_wayEnd_2 {a : Array Value} {s : State} (hts : ∀ w ∈ wsX9_wayEnd, w.before a s = true) : (.fieldLink RX9 32 "SnowMules$World" "way" "LSnowMules$Table;" : Cond).before a s = true := kw (A := ixX9_wayEnd) wt57 hts (by decide +kernel)
theorem kX9_wayEnd_3 {a : Array Value} {s : State} (hts : ∀ w ∈ wsX9_wayEnd, w.before a s = true) : (.fieldLink RX9 60 "SnowMules$Table" "size" "I" : Cond).before a s = true := kw (A := ixX9_wayEnd) wt887 hts (by decide +kernel)
theorem kX9_wayHas_1 {a : Array Value} {s : State} (hts : ∀ w ∈ wsX9_wayHas, w.before a s = true) : (.fieldLink RX9 35 "SnowMules$World" "wayStart" "I" : Cond).before a s = true := kw (A := ixX9_wayHas) wt58 hts (by decide +kernel)
theorem kX9_wayHas_2 {a : Array Value} {s : State} (hts : ∀ w ∈ wsX9_wayHas, w.before a s = true) : (.fieldLink RX9 32 "SnowMules$World" "way" "LSnowMules$Table;" : Cond).before a s = true := kw (A := ixX9_wayHas) wt57 hts (by decide +kernel)
theorem kX9_wayHas_3 {a : Array Value} {s : State} (hts : ∀ w ∈ wsX9_wayHas, w.before a s = true) : (.fieldLink RX9 60 "SnowMules$Table" "size" "I" : Cond).before a s = true := kw (A := ixX9_wayHas) wt887 hts (by decide +kernel)
theorem kX9_nodeOf_1 {a : Array Value} {s : State} (hts : ∀ w ∈ wsX9_nodeOf, w.before a s = true) : (.fieldLink RX9 23 "SnowMules$World" "jars" "LSnowMules$Table;" : Cond).before a s = true := kw (A := ixX9_nodeOf) wt54 hts (by decide +kernel)
theorem kX9_standAt_1 {a : Array Value} {s : State} (hts : ∀ w ∈ wsX9_standAt, w.before a s = true) : (.fieldLink RX9 23 "SnowMules$World" "jars" "LSnowMules$Table;" : Cond).before a s = true := kw (A := ixX9_standAt) wt54 hts (by decide +kernel)
theorem kX9_lose_1 {a : Array Value} {s : State} (hts : ∀ w ∈ wsX9_lose, w.before a s = true) : (.fieldLink RX9 23 "SnowMules$World" "jars" "LSnowMules$Table;" : Cond).before a s = true := kw (A := ixX9_lose) wt54 hts (by decide +kernel)
theorem kX9_bring_1 {a : Array Value} {s : State} (hts : ∀ w ∈ wsX9_bring, w.before a s = true) : (.fieldLink RX9 14 "SnowMules$World" "nodes" "LSnowMules$Table;" : Cond).before a s = true := kw (A := ixX9_bring) wt52 hts (by decide +kernel)
theorem kX9_bring_2 {a : Array Value} {s : State} (hts : ∀ w ∈ wsX9_bring, w.before a s = true) : (.constant RX9 73 (999999) : Cond).before a s = true := kw (A := ixX9_bring) wt645 hts (by decide +kernel)
theorem kX9_bring_3 {a : Array Value} {s : State} (hts : ∀ w ∈ wsX9_bring, w.before a s = true) : (.methodLink RX9 74 Lib.Math.min.name : Cond).before a s = true := kw (A := ixX9_bring) wt646 hts (by decide +kernel)
theorem kX9_bring_4 {a : Array Value} {s : State} (hts : ∀ w ∈ wsX9_bring, w.before a s = true) : (.static Lib.Math.min.name : Cond).before a s = true := kw (A := ixX9_bring) wt287 hts (by decide +kernel)
theorem kX9_bring_5 {a : Array Value} {s : State} (hts : ∀ w ∈ wsX9_bring, w.before a s = true) : (.initialized "java/lang/Math" : Cond).before a s = true := kw (A := ixX9_bring) wt66 hts (by decide +kernel)
theorem kX9_bring_6 {a : Array Value} {s : State} (hts : ∀ w ∈ wsX9_bring, w.before a s = true) : (.code Lib.Math.min.name Lib.Math.min.code 2 (some .int) : Cond).before a s = true := kw (A := ixX9_bring) wt288 hts (by decide +kernel)
theorem kX9_jarsAt_1 {a : Array Value} {s : State} (hts : ∀ w ∈ wsX9_jarsAt, w.before a s = true) : (.fieldLink RX9 23 "SnowMules$World" "jars" "LSnowMules$Table;" : Cond).before a s = true := kw (A := ixX9_jarsAt) wt54 hts (by decide +kernel)
theorem kX9_jarsAt_2 {a : Array Value} {s : State} (hts : ∀ w ∈ wsX9_jarsAt, w.before a s = true) : (.fieldLink RX9 60 "SnowMules$Table" "size" "I" : Cond).before a s = true := kw (A := ixX9_jarsAt) wt887 hts (by decide +kernel)
theorem kX9_jarsThatAre_1 {a : Array Value} {s : State} (hts : ∀ w ∈ wsX9_jarsThatAre, w.before a s = true) : (.fieldLink RX9 23 "SnowMules$World" "jars" "LSnowMules$Table;" : Cond).before a s = true := kw (A := ixX9_jarsThatAre) wt54 hts (by decide +kernel)
theorem kX9_jarsThatAre_2 {a : Array Value} {s : State} (hts : ∀ w ∈ wsX9_jarsThatAre, w.before a s = true) : (.fieldLink RX9 60 "SnowMules$Table" "size" "I" : Cond).before a s = true := kw (A := ixX9_jarsThatAre) wt887 hts (by decide +kernel)
theorem kX9_dropsOfAll_1 {a : Array Value} {s : State} (hts : ∀ w ∈ wsX9_dropsOfAll, w.before a s = true) : (.fieldLink RX9 23 "SnowMules$World" "jars" "LSnowMules$Table;" : Cond).before a s = true := kw (A := ixX9_dropsOfAll) wt54 hts (by decide +kernel)
theorem kX9_dropsOfAll_2 {a : Array Value} {s : State} (hts : ∀ w ∈ wsX9_dropsOfAll, w.before a s = true) : (.fieldLink RX9 60 "SnowMules$Table" "size" "I" : Cond).before a s = true := kw (A := ixX9_dropsOfAll) wt887 hts (by decide +kernel)
theorem kX9_dropsOfAll_3 {a : Array Value} {s : State} (hts : ∀ w ∈ wsX9_dropsOfAll, w.before a s = true) : (.fieldLink RX9 14 "SnowMules$World" "nodes" "LSnowMules$Table;" : Cond).before a s = true := kw (A := ixX9_dropsOfAll) wt52 hts (by decide +kernel)
theorem kX9_draw_1 {a : Array Value} {s : State} (hts : ∀ w ∈ wsX9_draw, w.before a s = true) : (.fieldLink RX9 49 "SnowMules$World" "x" "I" : Cond).before a s = true := kw (A := ixX9_draw) wt779 hts (by decide +kernel)
theorem kX9_draw_2 {a : Array Value} {s : State} (hts : ∀ w ∈ wsX9_draw, w.before a s = true) : (.constantLong RX9 83 (1103515245) : Cond).before a s = true := kw (A := ixX9_draw) wt780 hts (by decide +kernel)
theorem kX9_draw_3 {a : Array Value} {s : State} (hts : ∀ w ∈ wsX9_draw, w.before a s = true) : (.constantLong RX9 85 (12345) : Cond).before a s = true := kw (A := ixX9_draw) wt781 hts (by decide +kernel)
theorem kX9_draw_4 {a : Array Value} {s : State} (hts : ∀ w ∈ wsX9_draw, w.before a s = true) : (.constantLong RX9 87 (2147483647) : Cond).before a s = true := kw (A := ixX9_draw) wt782 hts (by decide +kernel)
theorem kX9_draw_5 {a : Array Value} {s : State} (hts : ∀ w ∈ wsX9_draw, w.before a s = true) : (.constant RX9 89 (65536) : Cond).before a s = true := kw (A := ixX9_draw) wt783 hts (by decide +kernel)
theorem kX9_copyFrom_1 {a : Array Value} {s : State} (hts : ∀ w ∈ wsX9_copyFrom, w.before a s = true) : (.fieldLink RX9 14 "SnowMules$World" "nodes" "LSnowMules$Table;" : Cond).before a s = true := kw (A := ixX9_copyFrom) wt52 hts (by decide +kernel)
theorem kX9_copyFrom_2 {a : Array Value} {s : State} (hts : ∀ w ∈ wsX9_copyFrom, w.before a s = true) : (.fieldLink RX9 20 "SnowMules$World" "passes" "LSnowMules$Table;" : Cond).before a s = true := kw (A := ixX9_copyFrom) wt53 hts (by decide +kernel)
theorem kX9_copyFrom_3 {a : Array Value} {s : State} (hts : ∀ w ∈ wsX9_copyFrom, w.before a s = true) : (.fieldLink RX9 23 "SnowMules$World" "jars" "LSnowMules$Table;" : Cond).before a s = true := kw (A := ixX9_copyFrom) wt54 hts (by decide +kernel)
theorem kX9_copyFrom_4 {a : Array Value} {s : State} (hts : ∀ w ∈ wsX9_copyFrom, w.before a s = true) : (.fieldLink RX9 26 "SnowMules$World" "orders" "LSnowMules$Table;" : Cond).before a s = true := kw (A := ixX9_copyFrom) wt55 hts (by decide +kernel)
theorem kX9_copyFrom_5 {a : Array Value} {s : State} (hts : ∀ w ∈ wsX9_copyFrom, w.before a s = true) : (.fieldLink RX9 29 "SnowMules$World" "feasts" "LSnowMules$Table;" : Cond).before a s = true := kw (A := ixX9_copyFrom) wt56 hts (by decide +kernel)
theorem kX9_copyFrom_6 {a : Array Value} {s : State} (hts : ∀ w ∈ wsX9_copyFrom, w.before a s = true) : (.fieldLink RX9 32 "SnowMules$World" "way" "LSnowMules$Table;" : Cond).before a s = true := kw (A := ixX9_copyFrom) wt57 hts (by decide +kernel)
theorem kX9_copyFrom_7 {a : Array Value} {s : State} (hts : ∀ w ∈ wsX9_copyFrom, w.before a s = true) : (.fieldLink RX9 35 "SnowMules$World" "wayStart" "I" : Cond).before a s = true := kw (A := ixX9_copyFrom) wt58 hts (by decide +kernel)
theorem kX9_copyFrom_8 {a : Array Value} {s : State} (hts : ∀ w ∈ wsX9_copyFrom, w.before a s = true) : (.fieldLink RX9 43 "SnowMules$World" "now" "I" : Cond).before a s = true := kw (A := ixX9_copyFrom) wt1363 hts (by decide +kernel)
theorem kX9_copyFrom_9 {a : Array Value} {s : State} (hts : ∀ w ∈ wsX9_copyFrom, w.before a s = true) : (.fieldLink RX9 46 "SnowMules$World" "firstMonth" "I" : Cond).before a s = true := kw (A := ixX9_copyFrom) wt602 hts (by decide +kernel)
theorem kX9_copyFrom_10 {a : Array Value} {s : State} (hts : ∀ w ∈ wsX9_copyFrom, w.before a s = true) : (.fieldLink RX9 49 "SnowMules$World" "x" "I" : Cond).before a s = true := kw (A := ixX9_copyFrom) wt779 hts (by decide +kernel)
theorem iX9_monthAt_X9 : ∀ w ∈ wsX90, w ∈ wsX9_monthAt := inW (A := ixX9_monthAt) uwX9 (by decide +kernel)
theorem iX9_hasSnow_X9 : ∀ w ∈ wsX90, w ∈ wsX9_hasSnow := inW (A := ixX9_hasSnow) uwX9 (by decide +kernel)
theorem iX9_otherEnd_X9 : ∀ w ∈ wsX90, w ∈ wsX9_otherEnd := inW (A := ixX9_otherEnd) uwX9 (by decide +kernel)
theorem iX9_wayEnd_X9 : ∀ w ∈ wsX90, w ∈ wsX9_wayEnd := inW (A := ixX9_wayEnd) uwX9 (by decide +kernel)
theorem iX9_wayEnd_X6 : ∀ w ∈ wsX60, w ∈ wsX9_wayEnd := inW (A := ixX9_wayEnd) uwX6 (by decide +kernel)
theorem iX9_wayHas_X9 : ∀ w ∈ wsX90, w ∈ wsX9_wayHas := inW (A := ixX9_wayHas) uwX9 (by decide +kernel)
theorem iX9_wayHas_X6 : ∀ w ∈ wsX60, w ∈ wsX9_wayHas := inW (A := ixX9_wayHas) uwX6 (by decide +kernel)
theorem iX9_nodeOf_X9 : ∀ w ∈ wsX90, w ∈ wsX9_nodeOf := inW (A := ixX9_nodeOf) uwX9 (by decide +kernel)
theorem iX9_standAt_X9 : ∀ w ∈ wsX90, w ∈ wsX9_standAt := inW (A := ixX9_standAt) uwX9 (by decide +kernel)
theorem iX9_lose_X9 : ∀ w ∈ wsX90, w ∈ wsX9_lose := inW (A := ixX9_lose) uwX9 (by decide +kernel)
theorem iX9_bring_X9 : ∀ w ∈ wsX90, w ∈ wsX9_bring := inW (A := ixX9_bring) uwX9 (by decide +kernel)
theorem iX9_jarsAt_X9 : ∀ w ∈ wsX90, w ∈ wsX9_jarsAt := inW (A := ixX9_jarsAt) uwX9 (by decide +kernel)
theorem iX9_jarsAt_X6 : ∀ w ∈ wsX60, w ∈ wsX9_jarsAt := inW (A := ixX9_jarsAt) uwX6 (by decide +kernel)
theorem iX9_jarsThatAre_X9 : ∀ w ∈ wsX90, w ∈ wsX9_jarsThatAre := inW (A := ixX9_jarsThatAre) uwX9 (by decide +kernel)
theorem iX9_jarsThatAre_X6 : ∀ w ∈ wsX60, w ∈ wsX9_jarsThatAre := inW (A := ixX9_jarsThatAre) uwX6 (by decide +kernel)
theorem iX9_dropsOfAll_X9 : ∀ w ∈ wsX90, w ∈ wsX9_dropsOfAll := inW (A := ixX9_dropsOfAll) uwX9 (by decide +kernel)
theorem iX9_dropsOfAll_X6 : ∀ w ∈ wsX60, w ∈ wsX9_dropsOfAll := inW (A := ixX9_dropsOfAll) uwX6 (by decide +kernel)
theorem iX9_draw_X9 : ∀ w ∈ wsX90, w ∈ wsX9_draw := inW (A := ixX9_draw) uwX9 (by decide +kernel)
theorem iX9_copyFrom_X9 : ∀ w ∈ wsX90, w ∈ wsX9_copyFrom := inW (A := ixX9_copyFrom) uwX9 (by decide +kernel)
theorem hdX6_get : yX6_get.cls ≠ "java/lang/invoke/MethodHandle" ∧ yX6_get.cls ≠ "java/lang/invoke/VarHandle" ∧ (parseMethodDescriptor yX6_get.desc).map (fun d => d.parameters.length) = some 2 := ⟨hdc_1.1, hdc_1.2, hdd_0⟩
theorem hdX6_has : yX6_has.cls ≠ "java/lang/invoke/MethodHandle" ∧ yX6_has.cls ≠ "java/lang/invoke/VarHandle" ∧ (parseMethodDescriptor yX6_has.desc).map (fun d => d.parameters.length) = some 1 := ⟨hdc_1.1, hdc_1.2, hdd_1⟩
theorem hdX9_otherEnd : yX9_otherEnd.cls ≠ "java/lang/invoke/MethodHandle" ∧ yX9_otherEnd.cls ≠ "java/lang/invoke/VarHandle" ∧ (parseMethodDescriptor yX9_otherEnd.desc).map (fun d => d.parameters.length) = some 2 := ⟨hdc_2.1, hdc_2.2, hdd_0⟩
theorem hdX6_put : yX6_put.cls ≠ "java/lang/invoke/MethodHandle" ∧ yX6_put.cls ≠ "java/lang/invoke/VarHandle" ∧ (parseMethodDescriptor yX6_put.desc).map (fun d => d.parameters.length) = some 3 := ⟨hdc_1.1, hdc_1.2, hdd_25⟩
theorem hdX9_standAt : yX9_standAt.cls ≠ "java/lang/invoke/MethodHandle" ∧ yX9_standAt.cls ≠ "java/lang/invoke/VarHandle" ∧ (parseMethodDescriptor yX9_standAt.desc).map (fun d => d.parameters.length) = some 2 := ⟨hdc_2.1, hdc_2.2, hdd_18⟩
theorem hdX9_jarsAt : yX9_jarsAt.cls ≠ "java/lang/invoke/MethodHandle" ∧ yX9_jarsAt.cls ≠ "java/lang/invoke/VarHandle" ∧ (parseMethodDescriptor yX9_jarsAt.desc).map (fun d => d.parameters.length) = some 1 := ⟨hdc_2.1, hdc_2.2, hdd_3⟩
theorem hdX6_copyFrom : yX6_copyFrom.cls ≠ "java/lang/invoke/MethodHandle" ∧ yX6_copyFrom.cls ≠ "java/lang/invoke/VarHandle" ∧ (parseMethodDescriptor yX6_copyFrom.desc).map (fun d => d.parameters.length) = some 1 := ⟨hdc_1.1, hdc_1.2, hdd_26⟩
def dtX9_monthAt_31_0 : List (Nat × Jvm.ClassFile.Instr × Nat) := [(0, .aload_n 0, 1), (1, .getfield 46, 3), (4, .iload_n 1, 1), (5, .bipush 24, 2), (7, .idiv, 1), (8, .bipush 30, 2), (10, .idiv, 1), (11, .iadd, 1), (12, .bipush 12, 2), (14, .irem, 1), (15, .ireturn, 1)]
theorem daX9_monthAt_31_0 : dtX9_monthAt_31_0.all (dqd cX9_monthAt) = true := by decide +kernel
theorem dX9_monthAt_0 : decode cX9_monthAt 0 = .ok (.aload_n 0, 1) := dq daX9_monthAt_31_0 0 rfl
theorem dX9_monthAt_1 : decode cX9_monthAt 1 = .ok (.getfield 46, 3) := dq daX9_monthAt_31_0 1 rfl
theorem dX9_monthAt_4 : decode cX9_monthAt 4 = .ok (.iload_n 1, 1) := dq daX9_monthAt_31_0 2 rfl
theorem dX9_monthAt_5 : decode cX9_monthAt 5 = .ok (.bipush 24, 2) := dq daX9_monthAt_31_0 3 rfl
theorem dX9_monthAt_7 : decode cX9_monthAt 7 = .ok (.idiv, 1) := dq daX9_monthAt_31_0 4 rfl
theorem dX9_monthAt_8 : decode cX9_monthAt 8 = .ok (.bipush 30, 2) := dq daX9_monthAt_31_0 5 rfl
theorem dX9_monthAt_10 : decode cX9_monthAt 10 = .ok (.idiv, 1) := dq daX9_monthAt_31_0 6 rfl
theorem dX9_monthAt_11 : decode cX9_monthAt 11 = .ok (.iadd, 1) := dq daX9_monthAt_31_0 7 rfl
theorem dX9_monthAt_12 : decode cX9_monthAt 12 = .ok (.bipush 12, 2) := dq daX9_monthAt_31_0 8 rfl
theorem dX9_monthAt_14 : decode cX9_monthAt 14 = .ok (.irem, 1) := dq daX9_monthAt_31_0 9 rfl
theorem dX9_monthAt_15 : decode cX9_monthAt 15 = .ok (.ireturn, 1) := dq daX9_monthAt_31_0 10 rfl
def dtX9_hasSnow_31_0 : List (Nat × Jvm.ClassFile.Instr × Nat) := [(0, .aload_n 0, 1), (1, .getfield 14, 3), (4, .iload_n 1, 1), (5, .iconst 1, 1), (6, .invokevirtual 52, 3), (9, .iload_n 2, 1), (10, .ishr, 1), (11, .iconst 1, 1), (12, .iand, 1), (13, .iconst 1, 1), (14, .if_icmp .ne 7, 3), (21, .iconst 0, 1), (22, .ireturn, 1), (17, .iconst 1, 1), (18, .goto 4, 3)]
theorem daX9_hasSnow_31_0 : dtX9_hasSnow_31_0.all (dqd cX9_hasSnow) = true := by decide +kernel
theorem dX9_hasSnow_0 : decode cX9_hasSnow 0 = .ok (.aload_n 0, 1) := dq daX9_hasSnow_31_0 0 rfl
theorem dX9_hasSnow_1 : decode cX9_hasSnow 1 = .ok (.getfield 14, 3) := dq daX9_hasSnow_31_0 1 rfl
theorem dX9_hasSnow_4 : decode cX9_hasSnow 4 = .ok (.iload_n 1, 1) := dq daX9_hasSnow_31_0 2 rfl
theorem dX9_hasSnow_5 : decode cX9_hasSnow 5 = .ok (.iconst 1, 1) := dq daX9_hasSnow_31_0 3 rfl
theorem dX9_hasSnow_6 : decode cX9_hasSnow 6 = .ok (.invokevirtual 52, 3) := dq daX9_hasSnow_31_0 4 rfl
theorem dX9_hasSnow_9 : decode cX9_hasSnow 9 = .ok (.iload_n 2, 1) := dq daX9_hasSnow_31_0 5 rfl
theorem dX9_hasSnow_10 : decode cX9_hasSnow 10 = .ok (.ishr, 1) := dq daX9_hasSnow_31_0 6 rfl
theorem dX9_hasSnow_11 : decode cX9_hasSnow 11 = .ok (.iconst 1, 1) := dq daX9_hasSnow_31_0 7 rfl
theorem dX9_hasSnow_12 : decode cX9_hasSnow 12 = .ok (.iand, 1) := dq daX9_hasSnow_31_0 8 rfl
theorem dX9_hasSnow_13 : decode cX9_hasSnow 13 = .ok (.iconst 1, 1) := dq daX9_hasSnow_31_0 9 rfl
theorem dX9_hasSnow_14 : decode cX9_hasSnow 14 = .ok (.if_icmp .ne 7, 3) := dq daX9_hasSnow_31_0 10 rfl
theorem dX9_hasSnow_21 : decode cX9_hasSnow 21 = .ok (.iconst 0, 1) := dq daX9_hasSnow_31_0 11 rfl
theorem dX9_hasSnow_22 : decode cX9_hasSnow 22 = .ok (.ireturn, 1) := dq daX9_hasSnow_31_0 12 rfl
theorem dX9_hasSnow_17 : decode cX9_hasSnow 17 = .ok (.iconst 1, 1) := dq daX9_hasSnow_31_0 13 rfl
theorem dX9_hasSnow_18 : decode cX9_hasSnow 18 = .ok (.goto 4, 3) := dq daX9_hasSnow_31_0 14 rfl
def dtX9_otherEnd_31_0 : List (Nat × Jvm.ClassFile.Instr × Nat) := [(0, .aload_n 0, 1), (1, .getfield 20, 3), (4, .iload_n 1, 1), (5, .invokevirtual 56, 3), (8, .ifCond .ne 5, 3), (13, .aload_n 0, 1), (14, .getfield 20, 3), (17, .iload_n 1, 1), (18, .iconst 0, 1), (19, .invokevirtual 52, 3), (22, .istore_n 3, 1), (23, .aload_n 0, 1), (24, .getfield 20, 3), (27, .iload_n 1, 1), (28, .iconst 1, 1), (29, .invokevirtual 52, 3), (32, .istore 4, 2), (34, .iload_n 2, 1), (35, .iload_n 3, 1), (36, .if_icmp .ne 6, 3), (42, .iload_n 2, 1), (43, .iload 4, 2), (45, .if_icmp .ne 7, 3), (52, .iconst (-1), 1), (53, .ireturn, 1), (48, .iload_n 3, 1), (49, .goto 4, 3), (39, .iload 4, 2), (41, .ireturn, 1), (11, .iconst (-1), 1), (12, .ireturn, 1)]
theorem daX9_otherEnd_31_0 : dtX9_otherEnd_31_0.all (dqd cX9_otherEnd) = true := by decide +kernel
theorem dX9_otherEnd_0 : decode cX9_otherEnd 0 = .ok (.aload_n 0, 1) := dq daX9_otherEnd_31_0 0 rfl
theorem dX9_otherEnd_1 : decode cX9_otherEnd 1 = .ok (.getfield 20, 3) := dq daX9_otherEnd_31_0 1 rfl
theorem dX9_otherEnd_4 : decode cX9_otherEnd 4 = .ok (.iload_n 1, 1) := dq daX9_otherEnd_31_0 2 rfl
theorem dX9_otherEnd_5 : decode cX9_otherEnd 5 = .ok (.invokevirtual 56, 3) := dq daX9_otherEnd_31_0 3 rfl
theorem dX9_otherEnd_8 : decode cX9_otherEnd 8 = .ok (.ifCond .ne 5, 3) := dq daX9_otherEnd_31_0 4 rfl
theorem dX9_otherEnd_13 : decode cX9_otherEnd 13 = .ok (.aload_n 0, 1) := dq daX9_otherEnd_31_0 5 rfl
theorem dX9_otherEnd_14 : decode cX9_otherEnd 14 = .ok (.getfield 20, 3) := dq daX9_otherEnd_31_0 6 rfl
theorem dX9_otherEnd_17 : decode cX9_otherEnd 17 = .ok (.iload_n 1, 1) := dq daX9_otherEnd_31_0 7 rfl
theorem dX9_otherEnd_18 : decode cX9_otherEnd 18 = .ok (.iconst 0, 1) := dq daX9_otherEnd_31_0 8 rfl
theorem dX9_otherEnd_19 : decode cX9_otherEnd 19 = .ok (.invokevirtual 52, 3) := dq daX9_otherEnd_31_0 9 rfl
theorem dX9_otherEnd_22 : decode cX9_otherEnd 22 = .ok (.istore_n 3, 1) := dq daX9_otherEnd_31_0 10 rfl
theorem dX9_otherEnd_23 : decode cX9_otherEnd 23 = .ok (.aload_n 0, 1) := dq daX9_otherEnd_31_0 11 rfl
theorem dX9_otherEnd_24 : decode cX9_otherEnd 24 = .ok (.getfield 20, 3) := dq daX9_otherEnd_31_0 12 rfl
theorem dX9_otherEnd_27 : decode cX9_otherEnd 27 = .ok (.iload_n 1, 1) := dq daX9_otherEnd_31_0 13 rfl
theorem dX9_otherEnd_28 : decode cX9_otherEnd 28 = .ok (.iconst 1, 1) := dq daX9_otherEnd_31_0 14 rfl
theorem dX9_otherEnd_29 : decode cX9_otherEnd 29 = .ok (.invokevirtual 52, 3) := dq daX9_otherEnd_31_0 15 rfl
theorem dX9_otherEnd_32 : decode cX9_otherEnd 32 = .ok (.istore 4, 2) := dq daX9_otherEnd_31_0 16 rfl
theorem dX9_otherEnd_34 : decode cX9_otherEnd 34 = .ok (.iload_n 2, 1) := dq daX9_otherEnd_31_0 17 rfl
theorem dX9_otherEnd_35 : decode cX9_otherEnd 35 = .ok (.iload_n 3, 1) := dq daX9_otherEnd_31_0 18 rfl
theorem dX9_otherEnd_36 : decode cX9_otherEnd 36 = .ok (.if_icmp .ne 6, 3) := dq daX9_otherEnd_31_0 19 rfl
theorem dX9_otherEnd_42 : decode cX9_otherEnd 42 = .ok (.iload_n 2, 1) := dq daX9_otherEnd_31_0 20 rfl
theorem dX9_otherEnd_43 : decode cX9_otherEnd 43 = .ok (.iload 4, 2) := dq daX9_otherEnd_31_0 21 rfl
theorem dX9_otherEnd_45 : decode cX9_otherEnd 45 = .ok (.if_icmp .ne 7, 3) := dq daX9_otherEnd_31_0 22 rfl
theorem dX9_otherEnd_52 : decode cX9_otherEnd 52 = .ok (.iconst (-1), 1) := dq daX9_otherEnd_31_0 23 rfl
theorem dX9_otherEnd_53 : decode cX9_otherEnd 53 = .ok (.ireturn, 1) := dq daX9_otherEnd_31_0 24 rfl
theorem dX9_otherEnd_48 : decode cX9_otherEnd 48 = .ok (.iload_n 3, 1) := dq daX9_otherEnd_31_0 25 rfl
theorem dX9_otherEnd_49 : decode cX9_otherEnd 49 = .ok (.goto 4, 3) := dq daX9_otherEnd_31_0 26 rfl
theorem dX9_otherEnd_39 : decode cX9_otherEnd 39 = .ok (.iload 4, 2) := dq daX9_otherEnd_31_0 27 rfl
theorem dX9_otherEnd_41 : decode cX9_otherEnd 41 = .ok (.ireturn, 1) := dq daX9_otherEnd_31_0 28 rfl
theorem dX9_otherEnd_11 : decode cX9_otherEnd 11 = .ok (.iconst (-1), 1) := dq daX9_otherEnd_31_0 29 rfl
theorem dX9_otherEnd_12 : decode cX9_otherEnd 12 = .ok (.ireturn, 1) := dq daX9_otherEnd_31_0 30 rfl
def dtX9_wayEnd_31_0 : List (Nat × Jvm.ClassFile.Instr × Nat) := [(0, .aload_n 0, 1), (1, .getfield 35, 3), (4, .istore_n 1, 1), (5, .iconst 0, 1), (6, .istore_n 2, 1), (7, .iload_n 2, 1), (8, .aload_n 0, 1), (9, .getfield 32, 3), (12, .getfield 60, 3), (15, .if_icmp .ge 24, 3), (18, .aload_n 0, 1), (19, .aload_n 0, 1), (20, .getfield 32, 3), (23, .iload_n 2, 1), (24, .iconst 0, 1), (25, .invokevirtual 52, 3), (28, .iload_n 1, 1), (29, .invokevirtual 63, 3), (32, .istore_n 1, 1), (33, .iinc 2 1, 3), (36, .goto (-29), 3), (39, .iload_n 1, 1), (40, .ireturn, 1)]
theorem daX9_wayEnd_31_0 : dtX9_wayEnd_31_0.all (dqd cX9_wayEnd) = true := by decide +kernel
theorem dX9_wayEnd_0 : decode cX9_wayEnd 0 = .ok (.aload_n 0, 1) := dq daX9_wayEnd_31_0 0 rfl
theorem dX9_wayEnd_1 : decode cX9_wayEnd 1 = .ok (.getfield 35, 3) := dq daX9_wayEnd_31_0 1 rfl
theorem dX9_wayEnd_4 : decode cX9_wayEnd 4 = .ok (.istore_n 1, 1) := dq daX9_wayEnd_31_0 2 rfl
theorem dX9_wayEnd_5 : decode cX9_wayEnd 5 = .ok (.iconst 0, 1) := dq daX9_wayEnd_31_0 3 rfl
theorem dX9_wayEnd_6 : decode cX9_wayEnd 6 = .ok (.istore_n 2, 1) := dq daX9_wayEnd_31_0 4 rfl
theorem dX9_wayEnd_7 : decode cX9_wayEnd 7 = .ok (.iload_n 2, 1) := dq daX9_wayEnd_31_0 5 rfl
theorem dX9_wayEnd_8 : decode cX9_wayEnd 8 = .ok (.aload_n 0, 1) := dq daX9_wayEnd_31_0 6 rfl
theorem dX9_wayEnd_9 : decode cX9_wayEnd 9 = .ok (.getfield 32, 3) := dq daX9_wayEnd_31_0 7 rfl
theorem dX9_wayEnd_12 : decode cX9_wayEnd 12 = .ok (.getfield 60, 3) := dq daX9_wayEnd_31_0 8 rfl
theorem dX9_wayEnd_15 : decode cX9_wayEnd 15 = .ok (.if_icmp .ge 24, 3) := dq daX9_wayEnd_31_0 9 rfl
theorem dX9_wayEnd_18 : decode cX9_wayEnd 18 = .ok (.aload_n 0, 1) := dq daX9_wayEnd_31_0 10 rfl
theorem dX9_wayEnd_19 : decode cX9_wayEnd 19 = .ok (.aload_n 0, 1) := dq daX9_wayEnd_31_0 11 rfl
theorem dX9_wayEnd_20 : decode cX9_wayEnd 20 = .ok (.getfield 32, 3) := dq daX9_wayEnd_31_0 12 rfl
theorem dX9_wayEnd_23 : decode cX9_wayEnd 23 = .ok (.iload_n 2, 1) := dq daX9_wayEnd_31_0 13 rfl
theorem dX9_wayEnd_24 : decode cX9_wayEnd 24 = .ok (.iconst 0, 1) := dq daX9_wayEnd_31_0 14 rfl
theorem dX9_wayEnd_25 : decode cX9_wayEnd 25 = .ok (.invokevirtual 52, 3) := dq daX9_wayEnd_31_0 15 rfl
theorem dX9_wayEnd_28 : decode cX9_wayEnd 28 = .ok (.iload_n 1, 1) := dq daX9_wayEnd_31_0 16 rfl
theorem dX9_wayEnd_29 : decode cX9_wayEnd 29 = .ok (.invokevirtual 63, 3) := dq daX9_wayEnd_31_0 17 rfl
theorem dX9_wayEnd_32 : decode cX9_wayEnd 32 = .ok (.istore_n 1, 1) := dq daX9_wayEnd_31_0 18 rfl
theorem dX9_wayEnd_33 : decode cX9_wayEnd 33 = .ok (.iinc 2 1, 3) := dq daX9_wayEnd_31_0 19 rfl
theorem dX9_wayEnd_36 : decode cX9_wayEnd 36 = .ok (.goto (-29), 3) := dq daX9_wayEnd_31_0 20 rfl
theorem dX9_wayEnd_39 : decode cX9_wayEnd 39 = .ok (.iload_n 1, 1) := dq daX9_wayEnd_31_0 21 rfl
theorem dX9_wayEnd_40 : decode cX9_wayEnd 40 = .ok (.ireturn, 1) := dq daX9_wayEnd_31_0 22 rfl
def dtX9_wayHas_31_0 : List (Nat × Jvm.ClassFile.Instr × Nat) := [(0, .aload_n 0, 1), (1, .getfield 35, 3), (4, .istore_n 2, 1), (5, .iconst 0, 1), (6, .istore_n 3, 1), (7, .iload_n 3, 1), (8, .aload_n 0, 1), (9, .getfield 32, 3), (12, .getfield 60, 3), (15, .if_icmp .ge 29, 3), (18, .iload_n 2, 1), (19, .iload_n 1, 1), (20, .if_icmp .eq 24, 3), (23, .aload_n 0, 1), (24, .aload_n 0, 1), (25, .getfield 32, 3), (28, .iload_n 3, 1), (29, .iconst 0, 1), (30, .invokevirtual 52, 3), (33, .iload_n 2, 1), (34, .invokevirtual 63, 3), (37, .istore_n 2, 1), (38, .iinc 3 1, 3), (41, .goto (-34), 3), (44, .iload_n 2, 1), (45, .iload_n 1, 1), (46, .if_icmp .ne 7, 3), (53, .iconst 0, 1), (54, .ireturn, 1), (49, .iconst 1, 1), (50, .goto 4, 3)]
theorem daX9_wayHas_31_0 : dtX9_wayHas_31_0.all (dqd cX9_wayHas) = true := by decide +kernel
theorem dX9_wayHas_0 : decode cX9_wayHas 0 = .ok (.aload_n 0, 1) := dq daX9_wayHas_31_0 0 rfl
theorem dX9_wayHas_1 : decode cX9_wayHas 1 = .ok (.getfield 35, 3) := dq daX9_wayHas_31_0 1 rfl
theorem dX9_wayHas_4 : decode cX9_wayHas 4 = .ok (.istore_n 2, 1) := dq daX9_wayHas_31_0 2 rfl
theorem dX9_wayHas_5 : decode cX9_wayHas 5 = .ok (.iconst 0, 1) := dq daX9_wayHas_31_0 3 rfl
theorem dX9_wayHas_6 : decode cX9_wayHas 6 = .ok (.istore_n 3, 1) := dq daX9_wayHas_31_0 4 rfl
theorem dX9_wayHas_7 : decode cX9_wayHas 7 = .ok (.iload_n 3, 1) := dq daX9_wayHas_31_0 5 rfl
theorem dX9_wayHas_8 : decode cX9_wayHas 8 = .ok (.aload_n 0, 1) := dq daX9_wayHas_31_0 6 rfl
theorem dX9_wayHas_9 : decode cX9_wayHas 9 = .ok (.getfield 32, 3) := dq daX9_wayHas_31_0 7 rfl
theorem dX9_wayHas_12 : decode cX9_wayHas 12 = .ok (.getfield 60, 3) := dq daX9_wayHas_31_0 8 rfl
theorem dX9_wayHas_15 : decode cX9_wayHas 15 = .ok (.if_icmp .ge 29, 3) := dq daX9_wayHas_31_0 9 rfl
theorem dX9_wayHas_18 : decode cX9_wayHas 18 = .ok (.iload_n 2, 1) := dq daX9_wayHas_31_0 10 rfl
theorem dX9_wayHas_19 : decode cX9_wayHas 19 = .ok (.iload_n 1, 1) := dq daX9_wayHas_31_0 11 rfl
theorem dX9_wayHas_20 : decode cX9_wayHas 20 = .ok (.if_icmp .eq 24, 3) := dq daX9_wayHas_31_0 12 rfl
theorem dX9_wayHas_23 : decode cX9_wayHas 23 = .ok (.aload_n 0, 1) := dq daX9_wayHas_31_0 13 rfl
theorem dX9_wayHas_24 : decode cX9_wayHas 24 = .ok (.aload_n 0, 1) := dq daX9_wayHas_31_0 14 rfl
theorem dX9_wayHas_25 : decode cX9_wayHas 25 = .ok (.getfield 32, 3) := dq daX9_wayHas_31_0 15 rfl
theorem dX9_wayHas_28 : decode cX9_wayHas 28 = .ok (.iload_n 3, 1) := dq daX9_wayHas_31_0 16 rfl
theorem dX9_wayHas_29 : decode cX9_wayHas 29 = .ok (.iconst 0, 1) := dq daX9_wayHas_31_0 17 rfl
theorem dX9_wayHas_30 : decode cX9_wayHas 30 = .ok (.invokevirtual 52, 3) := dq daX9_wayHas_31_0 18 rfl
theorem dX9_wayHas_33 : decode cX9_wayHas 33 = .ok (.iload_n 2, 1) := dq daX9_wayHas_31_0 19 rfl
theorem dX9_wayHas_34 : decode cX9_wayHas 34 = .ok (.invokevirtual 63, 3) := dq daX9_wayHas_31_0 20 rfl
theorem dX9_wayHas_37 : decode cX9_wayHas 37 = .ok (.istore_n 2, 1) := dq daX9_wayHas_31_0 21 rfl
theorem dX9_wayHas_38 : decode cX9_wayHas 38 = .ok (.iinc 3 1, 3) := dq daX9_wayHas_31_0 22 rfl
theorem dX9_wayHas_41 : decode cX9_wayHas 41 = .ok (.goto (-34), 3) := dq daX9_wayHas_31_0 23 rfl
theorem dX9_wayHas_44 : decode cX9_wayHas 44 = .ok (.iload_n 2, 1) := dq daX9_wayHas_31_0 24 rfl
theorem dX9_wayHas_45 : decode cX9_wayHas 45 = .ok (.iload_n 1, 1) := dq daX9_wayHas_31_0 25 rfl
theorem dX9_wayHas_46 : decode cX9_wayHas 46 = .ok (.if_icmp .ne 7, 3) := dq daX9_wayHas_31_0 26 rfl
theorem dX9_wayHas_53 : decode cX9_wayHas 53 = .ok (.iconst 0, 1) := dq daX9_wayHas_31_0 27 rfl
theorem dX9_wayHas_54 : decode cX9_wayHas 54 = .ok (.ireturn, 1) := dq daX9_wayHas_31_0 28 rfl
theorem dX9_wayHas_49 : decode cX9_wayHas 49 = .ok (.iconst 1, 1) := dq daX9_wayHas_31_0 29 rfl
theorem dX9_wayHas_50 : decode cX9_wayHas 50 = .ok (.goto 4, 3) := dq daX9_wayHas_31_0 30 rfl
def dtX9_nodeOf_31_0 : List (Nat × Jvm.ClassFile.Instr × Nat) := [(0, .aload_n 0, 1), (1, .getfield 23, 3), (4, .iload_n 1, 1), (5, .invokevirtual 56, 3), (8, .ifCond .eq 15, 3), (23, .bipush 13, 2), (25, .istore_n 2, 1), (26, .iload_n 2, 1), (27, .bipush 12, 2), (29, .if_icmp .ge 7, 3), (36, .iconst (-1), 1), (37, .ireturn, 1), (11, .aload_n 0, 1), (12, .getfield 23, 3), (15, .iload_n 1, 1), (16, .iconst 1, 1), (17, .invokevirtual 52, 3), (20, .goto 5, 3), (32, .iload_n 2, 1), (33, .goto 4, 3)]
theorem daX9_nodeOf_31_0 : dtX9_nodeOf_31_0.all (dqd cX9_nodeOf) = true := by decide +kernel
theorem dX9_nodeOf_0 : decode cX9_nodeOf 0 = .ok (.aload_n 0, 1) := dq daX9_nodeOf_31_0 0 rfl
theorem dX9_nodeOf_1 : decode cX9_nodeOf 1 = .ok (.getfield 23, 3) := dq daX9_nodeOf_31_0 1 rfl
theorem dX9_nodeOf_4 : decode cX9_nodeOf 4 = .ok (.iload_n 1, 1) := dq daX9_nodeOf_31_0 2 rfl
theorem dX9_nodeOf_5 : decode cX9_nodeOf 5 = .ok (.invokevirtual 56, 3) := dq daX9_nodeOf_31_0 3 rfl
theorem dX9_nodeOf_8 : decode cX9_nodeOf 8 = .ok (.ifCond .eq 15, 3) := dq daX9_nodeOf_31_0 4 rfl
theorem dX9_nodeOf_23 : decode cX9_nodeOf 23 = .ok (.bipush 13, 2) := dq daX9_nodeOf_31_0 5 rfl
theorem dX9_nodeOf_25 : decode cX9_nodeOf 25 = .ok (.istore_n 2, 1) := dq daX9_nodeOf_31_0 6 rfl
theorem dX9_nodeOf_26 : decode cX9_nodeOf 26 = .ok (.iload_n 2, 1) := dq daX9_nodeOf_31_0 7 rfl
theorem dX9_nodeOf_27 : decode cX9_nodeOf 27 = .ok (.bipush 12, 2) := dq daX9_nodeOf_31_0 8 rfl
theorem dX9_nodeOf_29 : decode cX9_nodeOf 29 = .ok (.if_icmp .ge 7, 3) := dq daX9_nodeOf_31_0 9 rfl
theorem dX9_nodeOf_36 : decode cX9_nodeOf 36 = .ok (.iconst (-1), 1) := dq daX9_nodeOf_31_0 10 rfl
theorem dX9_nodeOf_37 : decode cX9_nodeOf 37 = .ok (.ireturn, 1) := dq daX9_nodeOf_31_0 11 rfl
theorem dX9_nodeOf_11 : decode cX9_nodeOf 11 = .ok (.aload_n 0, 1) := dq daX9_nodeOf_31_0 12 rfl
theorem dX9_nodeOf_12 : decode cX9_nodeOf 12 = .ok (.getfield 23, 3) := dq daX9_nodeOf_31_0 13 rfl
theorem dX9_nodeOf_15 : decode cX9_nodeOf 15 = .ok (.iload_n 1, 1) := dq daX9_nodeOf_31_0 14 rfl
theorem dX9_nodeOf_16 : decode cX9_nodeOf 16 = .ok (.iconst 1, 1) := dq daX9_nodeOf_31_0 15 rfl
theorem dX9_nodeOf_17 : decode cX9_nodeOf 17 = .ok (.invokevirtual 52, 3) := dq daX9_nodeOf_31_0 16 rfl
theorem dX9_nodeOf_20 : decode cX9_nodeOf 20 = .ok (.goto 5, 3) := dq daX9_nodeOf_31_0 17 rfl
theorem dX9_nodeOf_32 : decode cX9_nodeOf 32 = .ok (.iload_n 2, 1) := dq daX9_nodeOf_31_0 18 rfl
theorem dX9_nodeOf_33 : decode cX9_nodeOf 33 = .ok (.goto 4, 3) := dq daX9_nodeOf_31_0 19 rfl
def dtX9_standAt_31_0 : List (Nat × Jvm.ClassFile.Instr × Nat) := [(0, .aload_n 0, 1), (1, .getfield 23, 3), (4, .iload_n 1, 1), (5, .iconst 1, 1), (6, .iload_n 2, 1), (7, .invokevirtual 66, 3), (10, .aload_n 0, 1), (11, .getfield 23, 3), (14, .iload_n 1, 1), (15, .iconst 2, 1), (16, .iconst (-1), 1), (17, .invokevirtual 66, 3), (20, .aload_n 0, 1), (21, .getfield 23, 3), (24, .iload_n 1, 1), (25, .iconst 3, 1), (26, .iconst 0, 1), (27, .invokevirtual 66, 3), (30, .aload_n 0, 1), (31, .getfield 23, 3), (34, .iload_n 1, 1), (35, .iconst 4, 1), (36, .iconst (-1), 1), (37, .invokevirtual 66, 3), (40, .return_, 1)]
theorem daX9_standAt_31_0 : dtX9_standAt_31_0.all (dqd cX9_standAt) = true := by decide +kernel
theorem dX9_standAt_0 : decode cX9_standAt 0 = .ok (.aload_n 0, 1) := dq daX9_standAt_31_0 0 rfl
theorem dX9_standAt_1 : decode cX9_standAt 1 = .ok (.getfield 23, 3) := dq daX9_standAt_31_0 1 rfl
theorem dX9_standAt_4 : decode cX9_standAt 4 = .ok (.iload_n 1, 1) := dq daX9_standAt_31_0 2 rfl
theorem dX9_standAt_5 : decode cX9_standAt 5 = .ok (.iconst 1, 1) := dq daX9_standAt_31_0 3 rfl
theorem dX9_standAt_6 : decode cX9_standAt 6 = .ok (.iload_n 2, 1) := dq daX9_standAt_31_0 4 rfl
theorem dX9_standAt_7 : decode cX9_standAt 7 = .ok (.invokevirtual 66, 3) := dq daX9_standAt_31_0 5 rfl
theorem dX9_standAt_10 : decode cX9_standAt 10 = .ok (.aload_n 0, 1) := dq daX9_standAt_31_0 6 rfl
theorem dX9_standAt_11 : decode cX9_standAt 11 = .ok (.getfield 23, 3) := dq daX9_standAt_31_0 7 rfl
theorem dX9_standAt_14 : decode cX9_standAt 14 = .ok (.iload_n 1, 1) := dq daX9_standAt_31_0 8 rfl
theorem dX9_standAt_15 : decode cX9_standAt 15 = .ok (.iconst 2, 1) := dq daX9_standAt_31_0 9 rfl
theorem dX9_standAt_16 : decode cX9_standAt 16 = .ok (.iconst (-1), 1) := dq daX9_standAt_31_0 10 rfl
theorem dX9_standAt_17 : decode cX9_standAt 17 = .ok (.invokevirtual 66, 3) := dq daX9_standAt_31_0 11 rfl
theorem dX9_standAt_20 : decode cX9_standAt 20 = .ok (.aload_n 0, 1) := dq daX9_standAt_31_0 12 rfl
theorem dX9_standAt_21 : decode cX9_standAt 21 = .ok (.getfield 23, 3) := dq daX9_standAt_31_0 13 rfl
theorem dX9_standAt_24 : decode cX9_standAt 24 = .ok (.iload_n 1, 1) := dq daX9_standAt_31_0 14 rfl
theorem dX9_standAt_25 : decode cX9_standAt 25 = .ok (.iconst 3, 1) := dq daX9_standAt_31_0 15 rfl
theorem dX9_standAt_26 : decode cX9_standAt 26 = .ok (.iconst 0, 1) := dq daX9_standAt_31_0 16 rfl
theorem dX9_standAt_27 : decode cX9_standAt 27 = .ok (.invokevirtual 66, 3) := dq daX9_standAt_31_0 17 rfl
theorem dX9_standAt_30 : decode cX9_standAt 30 = .ok (.aload_n 0, 1) := dq daX9_standAt_31_0 18 rfl
theorem dX9_standAt_31 : decode cX9_standAt 31 = .ok (.getfield 23, 3) := dq daX9_standAt_31_0 19 rfl
theorem dX9_standAt_34 : decode cX9_standAt 34 = .ok (.iload_n 1, 1) := dq daX9_standAt_31_0 20 rfl
theorem dX9_standAt_35 : decode cX9_standAt 35 = .ok (.iconst 4, 1) := dq daX9_standAt_31_0 21 rfl
theorem dX9_standAt_36 : decode cX9_standAt 36 = .ok (.iconst (-1), 1) := dq daX9_standAt_31_0 22 rfl
theorem dX9_standAt_37 : decode cX9_standAt 37 = .ok (.invokevirtual 66, 3) := dq daX9_standAt_31_0 23 rfl
theorem dX9_standAt_40 : decode cX9_standAt 40 = .ok (.return_, 1) := dq daX9_standAt_31_0 24 rfl
def dtX9_lose_31_0 : List (Nat × Jvm.ClassFile.Instr × Nat) := [(0, .aload_n 0, 1), (1, .iload_n 1, 1), (2, .bipush 13, 2), (4, .invokevirtual 70, 3), (7, .aload_n 0, 1), (8, .getfield 23, 3), (11, .iload_n 1, 1), (12, .iconst 0, 1), (13, .iconst 0, 1), (14, .invokevirtual 66, 3), (17, .return_, 1)]
theorem daX9_lose_31_0 : dtX9_lose_31_0.all (dqd cX9_lose) = true := by decide +kernel
theorem dX9_lose_0 : decode cX9_lose 0 = .ok (.aload_n 0, 1) := dq daX9_lose_31_0 0 rfl
theorem dX9_lose_1 : decode cX9_lose 1 = .ok (.iload_n 1, 1) := dq daX9_lose_31_0 1 rfl
theorem dX9_lose_2 : decode cX9_lose 2 = .ok (.bipush 13, 2) := dq daX9_lose_31_0 2 rfl
theorem dX9_lose_4 : decode cX9_lose 4 = .ok (.invokevirtual 70, 3) := dq daX9_lose_31_0 3 rfl
theorem dX9_lose_7 : decode cX9_lose 7 = .ok (.aload_n 0, 1) := dq daX9_lose_31_0 4 rfl
theorem dX9_lose_8 : decode cX9_lose 8 = .ok (.getfield 23, 3) := dq daX9_lose_31_0 5 rfl
theorem dX9_lose_11 : decode cX9_lose 11 = .ok (.iload_n 1, 1) := dq daX9_lose_31_0 6 rfl
theorem dX9_lose_12 : decode cX9_lose 12 = .ok (.iconst 0, 1) := dq daX9_lose_31_0 7 rfl
theorem dX9_lose_13 : decode cX9_lose 13 = .ok (.iconst 0, 1) := dq daX9_lose_31_0 8 rfl
theorem dX9_lose_14 : decode cX9_lose 14 = .ok (.invokevirtual 66, 3) := dq daX9_lose_31_0 9 rfl
theorem dX9_lose_17 : decode cX9_lose 17 = .ok (.return_, 1) := dq daX9_lose_31_0 10 rfl
def dtX9_bring_31_0 : List (Nat × Jvm.ClassFile.Instr × Nat) := [(0, .aload_n 0, 1), (1, .getfield 14, 3), (4, .iload_n 1, 1), (5, .iconst 3, 1), (6, .invokevirtual 52, 3), (9, .istore_n 3, 1), (10, .iload_n 2, 1), (11, .ldc 73, 2), (13, .iload_n 3, 1), (14, .isub, 1), (15, .invokestatic 74, 3), (18, .istore 4, 2), (20, .aload_n 0, 1), (21, .getfield 14, 3), (24, .iload_n 1, 1), (25, .iconst 3, 1), (26, .iload_n 3, 1), (27, .iload 4, 2), (29, .iadd, 1), (30, .invokevirtual 66, 3), (33, .iload 4, 2), (35, .ireturn, 1)]
theorem daX9_bring_31_0 : dtX9_bring_31_0.all (dqd cX9_bring) = true := by decide +kernel
theorem dX9_bring_0 : decode cX9_bring 0 = .ok (.aload_n 0, 1) := dq daX9_bring_31_0 0 rfl
theorem dX9_bring_1 : decode cX9_bring 1 = .ok (.getfield 14, 3) := dq daX9_bring_31_0 1 rfl
theorem dX9_bring_4 : decode cX9_bring 4 = .ok (.iload_n 1, 1) := dq daX9_bring_31_0 2 rfl
theorem dX9_bring_5 : decode cX9_bring 5 = .ok (.iconst 3, 1) := dq daX9_bring_31_0 3 rfl
theorem dX9_bring_6 : decode cX9_bring 6 = .ok (.invokevirtual 52, 3) := dq daX9_bring_31_0 4 rfl
theorem dX9_bring_9 : decode cX9_bring 9 = .ok (.istore_n 3, 1) := dq daX9_bring_31_0 5 rfl
theorem dX9_bring_10 : decode cX9_bring 10 = .ok (.iload_n 2, 1) := dq daX9_bring_31_0 6 rfl
theorem dX9_bring_11 : decode cX9_bring 11 = .ok (.ldc 73, 2) := dq daX9_bring_31_0 7 rfl
theorem dX9_bring_13 : decode cX9_bring 13 = .ok (.iload_n 3, 1) := dq daX9_bring_31_0 8 rfl
theorem dX9_bring_14 : decode cX9_bring 14 = .ok (.isub, 1) := dq daX9_bring_31_0 9 rfl
theorem dX9_bring_15 : decode cX9_bring 15 = .ok (.invokestatic 74, 3) := dq daX9_bring_31_0 10 rfl
theorem dX9_bring_18 : decode cX9_bring 18 = .ok (.istore 4, 2) := dq daX9_bring_31_0 11 rfl
theorem dX9_bring_20 : decode cX9_bring 20 = .ok (.aload_n 0, 1) := dq daX9_bring_31_0 12 rfl
theorem dX9_bring_21 : decode cX9_bring 21 = .ok (.getfield 14, 3) := dq daX9_bring_31_0 13 rfl
theorem dX9_bring_24 : decode cX9_bring 24 = .ok (.iload_n 1, 1) := dq daX9_bring_31_0 14 rfl
theorem dX9_bring_25 : decode cX9_bring 25 = .ok (.iconst 3, 1) := dq daX9_bring_31_0 15 rfl
theorem dX9_bring_26 : decode cX9_bring 26 = .ok (.iload_n 3, 1) := dq daX9_bring_31_0 16 rfl
theorem dX9_bring_27 : decode cX9_bring 27 = .ok (.iload 4, 2) := dq daX9_bring_31_0 17 rfl
theorem dX9_bring_29 : decode cX9_bring 29 = .ok (.iadd, 1) := dq daX9_bring_31_0 18 rfl
theorem dX9_bring_30 : decode cX9_bring 30 = .ok (.invokevirtual 66, 3) := dq daX9_bring_31_0 19 rfl
theorem dX9_bring_33 : decode cX9_bring 33 = .ok (.iload 4, 2) := dq daX9_bring_31_0 20 rfl
theorem dX9_bring_35 : decode cX9_bring 35 = .ok (.ireturn, 1) := dq daX9_bring_31_0 21 rfl
def dtX9_jarsAt_31_0 : List (Nat × Jvm.ClassFile.Instr × Nat) := [(0, .iconst 0, 1), (1, .istore_n 2, 1), (2, .iconst 0, 1), (3, .istore_n 3, 1), (4, .iload_n 3, 1), (5, .aload_n 0, 1), (6, .getfield 23, 3), (9, .getfield 60, 3), (12, .if_icmp .ge 25, 3), (15, .aload_n 0, 1), (16, .getfield 23, 3), (19, .iload_n 3, 1), (20, .iconst 1, 1), (21, .invokevirtual 52, 3), (24, .iload_n 1, 1), (25, .if_icmp .ne 6, 3), (31, .iinc 3 1, 3), (34, .goto (-30), 3), (28, .iinc 2 1, 3), (37, .iload_n 2, 1), (38, .ireturn, 1)]
theorem daX9_jarsAt_31_0 : dtX9_jarsAt_31_0.all (dqd cX9_jarsAt) = true := by decide +kernel
theorem dX9_jarsAt_0 : decode cX9_jarsAt 0 = .ok (.iconst 0, 1) := dq daX9_jarsAt_31_0 0 rfl
theorem dX9_jarsAt_1 : decode cX9_jarsAt 1 = .ok (.istore_n 2, 1) := dq daX9_jarsAt_31_0 1 rfl
theorem dX9_jarsAt_2 : decode cX9_jarsAt 2 = .ok (.iconst 0, 1) := dq daX9_jarsAt_31_0 2 rfl
theorem dX9_jarsAt_3 : decode cX9_jarsAt 3 = .ok (.istore_n 3, 1) := dq daX9_jarsAt_31_0 3 rfl
theorem dX9_jarsAt_4 : decode cX9_jarsAt 4 = .ok (.iload_n 3, 1) := dq daX9_jarsAt_31_0 4 rfl
theorem dX9_jarsAt_5 : decode cX9_jarsAt 5 = .ok (.aload_n 0, 1) := dq daX9_jarsAt_31_0 5 rfl
theorem dX9_jarsAt_6 : decode cX9_jarsAt 6 = .ok (.getfield 23, 3) := dq daX9_jarsAt_31_0 6 rfl
theorem dX9_jarsAt_9 : decode cX9_jarsAt 9 = .ok (.getfield 60, 3) := dq daX9_jarsAt_31_0 7 rfl
theorem dX9_jarsAt_12 : decode cX9_jarsAt 12 = .ok (.if_icmp .ge 25, 3) := dq daX9_jarsAt_31_0 8 rfl
theorem dX9_jarsAt_15 : decode cX9_jarsAt 15 = .ok (.aload_n 0, 1) := dq daX9_jarsAt_31_0 9 rfl
theorem dX9_jarsAt_16 : decode cX9_jarsAt 16 = .ok (.getfield 23, 3) := dq daX9_jarsAt_31_0 10 rfl
theorem dX9_jarsAt_19 : decode cX9_jarsAt 19 = .ok (.iload_n 3, 1) := dq daX9_jarsAt_31_0 11 rfl
theorem dX9_jarsAt_20 : decode cX9_jarsAt 20 = .ok (.iconst 1, 1) := dq daX9_jarsAt_31_0 12 rfl
theorem dX9_jarsAt_21 : decode cX9_jarsAt 21 = .ok (.invokevirtual 52, 3) := dq daX9_jarsAt_31_0 13 rfl
theorem dX9_jarsAt_24 : decode cX9_jarsAt 24 = .ok (.iload_n 1, 1) := dq daX9_jarsAt_31_0 14 rfl
theorem dX9_jarsAt_25 : decode cX9_jarsAt 25 = .ok (.if_icmp .ne 6, 3) := dq daX9_jarsAt_31_0 15 rfl
theorem dX9_jarsAt_31 : decode cX9_jarsAt 31 = .ok (.iinc 3 1, 3) := dq daX9_jarsAt_31_0 16 rfl
theorem dX9_jarsAt_34 : decode cX9_jarsAt 34 = .ok (.goto (-30), 3) := dq daX9_jarsAt_31_0 17 rfl
theorem dX9_jarsAt_28 : decode cX9_jarsAt 28 = .ok (.iinc 2 1, 3) := dq daX9_jarsAt_31_0 18 rfl
theorem dX9_jarsAt_37 : decode cX9_jarsAt 37 = .ok (.iload_n 2, 1) := dq daX9_jarsAt_31_0 19 rfl
theorem dX9_jarsAt_38 : decode cX9_jarsAt 38 = .ok (.ireturn, 1) := dq daX9_jarsAt_31_0 20 rfl
def dtX9_jarsThatAre_31_0 : List (Nat × Jvm.ClassFile.Instr × Nat) := [(0, .aload_n 0, 1), (1, .getfield 23, 3), (4, .getfield 60, 3), (7, .aload_n 0, 1), (8, .bipush 13, 2), (10, .invokevirtual 79, 3), (13, .isub, 1), (14, .ireturn, 1)]
theorem daX9_jarsThatAre_31_0 : dtX9_jarsThatAre_31_0.all (dqd cX9_jarsThatAre) = true := by decide +kernel
theorem dX9_jarsThatAre_0 : decode cX9_jarsThatAre 0 = .ok (.aload_n 0, 1) := dq daX9_jarsThatAre_31_0 0 rfl
theorem dX9_jarsThatAre_1 : decode cX9_jarsThatAre 1 = .ok (.getfield 23, 3) := dq daX9_jarsThatAre_31_0 1 rfl
theorem dX9_jarsThatAre_4 : decode cX9_jarsThatAre 4 = .ok (.getfield 60, 3) := dq daX9_jarsThatAre_31_0 2 rfl
theorem dX9_jarsThatAre_7 : decode cX9_jarsThatAre 7 = .ok (.aload_n 0, 1) := dq daX9_jarsThatAre_31_0 3 rfl
theorem dX9_jarsThatAre_8 : decode cX9_jarsThatAre 8 = .ok (.bipush 13, 2) := dq daX9_jarsThatAre_31_0 4 rfl
theorem dX9_jarsThatAre_10 : decode cX9_jarsThatAre 10 = .ok (.invokevirtual 79, 3) := dq daX9_jarsThatAre_31_0 5 rfl
theorem dX9_jarsThatAre_13 : decode cX9_jarsThatAre 13 = .ok (.isub, 1) := dq daX9_jarsThatAre_31_0 6 rfl
theorem dX9_jarsThatAre_14 : decode cX9_jarsThatAre 14 = .ok (.ireturn, 1) := dq daX9_jarsThatAre_31_0 7 rfl
def dtX9_dropsOfAll_31_0 : List (Nat × Jvm.ClassFile.Instr × Nat) := [(0, .iconst 0, 1), (1, .istore_n 1, 1), (2, .iconst 0, 1), (3, .istore_n 2, 1), (4, .iload_n 2, 1), (5, .aload_n 0, 1), (6, .getfield 23, 3), (9, .getfield 60, 3), (12, .if_icmp .ge 21, 3), (15, .iload_n 1, 1), (16, .aload_n 0, 1), (17, .getfield 23, 3), (20, .iload_n 2, 1), (21, .iconst 0, 1), (22, .invokevirtual 52, 3), (25, .iadd, 1), (26, .istore_n 1, 1), (27, .iinc 2 1, 3), (30, .goto (-26), 3), (33, .iconst 0, 1), (34, .istore_n 2, 1), (35, .iload_n 2, 1), (36, .aload_n 0, 1), (37, .getfield 14, 3), (40, .getfield 60, 3), (43, .if_icmp .ge 21, 3), (46, .iload_n 1, 1), (47, .aload_n 0, 1), (48, .getfield 14, 3), (51, .iload_n 2, 1), (52, .iconst 3, 1), (53, .invokevirtual 52, 3)]
theorem daX9_dropsOfAll_31_0 : dtX9_dropsOfAll_31_0.all (dqd cX9_dropsOfAll) = true := by decide +kernel
theorem dX9_dropsOfAll_0 : decode cX9_dropsOfAll 0 = .ok (.iconst 0, 1) := dq daX9_dropsOfAll_31_0 0 rfl
theorem dX9_dropsOfAll_1 : decode cX9_dropsOfAll 1 = .ok (.istore_n 1, 1) := dq daX9_dropsOfAll_31_0 1 rfl
theorem dX9_dropsOfAll_2 : decode cX9_dropsOfAll 2 = .ok (.iconst 0, 1) := dq daX9_dropsOfAll_31_0 2 rfl
theorem dX9_dropsOfAll_3 : decode cX9_dropsOfAll 3 = .ok (.istore_n 2, 1) := dq daX9_dropsOfAll_31_0 3 rfl
theorem dX9_dropsOfAll_4 : decode cX9_dropsOfAll 4 = .ok (.iload_n 2, 1) := dq daX9_dropsOfAll_31_0 4 rfl
theorem dX9_dropsOfAll_5 : decode cX9_dropsOfAll 5 = .ok (.aload_n 0, 1) := dq daX9_dropsOfAll_31_0 5 rfl
theorem dX9_dropsOfAll_6 : decode cX9_dropsOfAll 6 = .ok (.getfield 23, 3) := dq daX9_dropsOfAll_31_0 6 rfl
theorem dX9_dropsOfAll_9 : decode cX9_dropsOfAll 9 = .ok (.getfield 60, 3) := dq daX9_dropsOfAll_31_0 7 rfl
theorem dX9_dropsOfAll_12 : decode cX9_dropsOfAll 12 = .ok (.if_icmp .ge 21, 3) := dq daX9_dropsOfAll_31_0 8 rfl
theorem dX9_dropsOfAll_15 : decode cX9_dropsOfAll 15 = .ok (.iload_n 1, 1) := dq daX9_dropsOfAll_31_0 9 rfl
theorem dX9_dropsOfAll_16 : decode cX9_dropsOfAll 16 = .ok (.aload_n 0, 1) := dq daX9_dropsOfAll_31_0 10 rfl
theorem dX9_dropsOfAll_17 : decode cX9_dropsOfAll 17 = .ok (.getfield 23, 3) := dq daX9_dropsOfAll_31_0 11 rfl
theorem dX9_dropsOfAll_20 : decode cX9_dropsOfAll 20 = .ok (.iload_n 2, 1) := dq daX9_dropsOfAll_31_0 12 rfl
theorem dX9_dropsOfAll_21 : decode cX9_dropsOfAll 21 = .ok (.iconst 0, 1) := dq daX9_dropsOfAll_31_0 13 rfl
theorem dX9_dropsOfAll_22 : decode cX9_dropsOfAll 22 = .ok (.invokevirtual 52, 3) := dq daX9_dropsOfAll_31_0 14 rfl
theorem dX9_dropsOfAll_25 : decode cX9_dropsOfAll 25 = .ok (.iadd, 1) := dq daX9_dropsOfAll_31_0 15 rfl
theorem dX9_dropsOfAll_26 : decode cX9_dropsOfAll 26 = .ok (.istore_n 1, 1) := dq daX9_dropsOfAll_31_0 16 rfl
theorem dX9_dropsOfAll_27 : decode cX9_dropsOfAll 27 = .ok (.iinc 2 1, 3) := dq daX9_dropsOfAll_31_0 17 rfl
theorem dX9_dropsOfAll_30 : decode cX9_dropsOfAll 30 = .ok (.goto (-26), 3) := dq daX9_dropsOfAll_31_0 18 rfl
theorem dX9_dropsOfAll_33 : decode cX9_dropsOfAll 33 = .ok (.iconst 0, 1) := dq daX9_dropsOfAll_31_0 19 rfl
theorem dX9_dropsOfAll_34 : decode cX9_dropsOfAll 34 = .ok (.istore_n 2, 1) := dq daX9_dropsOfAll_31_0 20 rfl
theorem dX9_dropsOfAll_35 : decode cX9_dropsOfAll 35 = .ok (.iload_n 2, 1) := dq daX9_dropsOfAll_31_0 21 rfl
theorem dX9_dropsOfAll_36 : decode cX9_dropsOfAll 36 = .ok (.aload_n 0, 1) := dq daX9_dropsOfAll_31_0 22 rfl
theorem dX9_dropsOfAll_37 : decode cX9_dropsOfAll 37 = .ok (.getfield 14, 3) := dq daX9_dropsOfAll_31_0 23 rfl
theorem dX9_dropsOfAll_40 : decode cX9_dropsOfAll 40 = .ok (.getfield 60, 3) := dq daX9_dropsOfAll_31_0 24 rfl
theorem dX9_dropsOfAll_43 : decode cX9_dropsOfAll 43 = .ok (.if_icmp .ge 21, 3) := dq daX9_dropsOfAll_31_0 25 rfl
theorem dX9_dropsOfAll_46 : decode cX9_dropsOfAll 46 = .ok (.iload_n 1, 1) := dq daX9_dropsOfAll_31_0 26 rfl
theorem dX9_dropsOfAll_47 : decode cX9_dropsOfAll 47 = .ok (.aload_n 0, 1) := dq daX9_dropsOfAll_31_0 27 rfl
theorem dX9_dropsOfAll_48 : decode cX9_dropsOfAll 48 = .ok (.getfield 14, 3) := dq daX9_dropsOfAll_31_0 28 rfl
theorem dX9_dropsOfAll_51 : decode cX9_dropsOfAll 51 = .ok (.iload_n 2, 1) := dq daX9_dropsOfAll_31_0 29 rfl
theorem dX9_dropsOfAll_52 : decode cX9_dropsOfAll 52 = .ok (.iconst 3, 1) := dq daX9_dropsOfAll_31_0 30 rfl
theorem dX9_dropsOfAll_53 : decode cX9_dropsOfAll 53 = .ok (.invokevirtual 52, 3) := dq daX9_dropsOfAll_31_0 31 rfl
def dtX9_dropsOfAll_31_1 : List (Nat × Jvm.ClassFile.Instr × Nat) := [(56, .iadd, 1), (57, .istore_n 1, 1), (58, .iinc 2 1, 3), (61, .goto (-26), 3), (64, .iload_n 1, 1), (65, .ireturn, 1)]
theorem daX9_dropsOfAll_31_1 : dtX9_dropsOfAll_31_1.all (dqd cX9_dropsOfAll) = true := by decide +kernel
theorem dX9_dropsOfAll_56 : decode cX9_dropsOfAll 56 = .ok (.iadd, 1) := dq daX9_dropsOfAll_31_1 0 rfl
theorem dX9_dropsOfAll_57 : decode cX9_dropsOfAll 57 = .ok (.istore_n 1, 1) := dq daX9_dropsOfAll_31_1 1 rfl
theorem dX9_dropsOfAll_58 : decode cX9_dropsOfAll 58 = .ok (.iinc 2 1, 3) := dq daX9_dropsOfAll_31_1 2 rfl
theorem dX9_dropsOfAll_61 : decode cX9_dropsOfAll 61 = .ok (.goto (-26), 3) := dq daX9_dropsOfAll_31_1 3 rfl
theorem dX9_dropsOfAll_64 : decode cX9_dropsOfAll 64 = .ok (.iload_n 1, 1) := dq daX9_dropsOfAll_31_1 4 rfl
theorem dX9_dropsOfAll_65 : decode cX9_dropsOfAll 65 = .ok (.ireturn, 1) := dq daX9_dropsOfAll_31_1 5 rfl
def dtX9_draw_31_0 : List (Nat × Jvm.ClassFile.Instr × Nat) := [(0, .aload_n 0, 1), (1, .aload_n 0, 1), (2, .getfield 49, 3), (5, .i2l, 1), (6, .ldc2_w 83, 3), (9, .lmul, 1), (10, .ldc2_w 85, 3), (13, .ladd, 1), (14, .ldc2_w 87, 3), (17, .land, 1), (18, .l2i, 1), (19, .putfield 49, 3), (22, .aload_n 0, 1), (23, .getfield 49, 3), (26, .ldc 89, 2), (28, .idiv, 1), (29, .ireturn, 1)]
theorem daX9_draw_31_0 : dtX9_draw_31_0.all (dqd cX9_draw) = true := by decide +kernel
theorem dX9_draw_0 : decode cX9_draw 0 = .ok (.aload_n 0, 1) := dq daX9_draw_31_0 0 rfl
theorem dX9_draw_1 : decode cX9_draw 1 = .ok (.aload_n 0, 1) := dq daX9_draw_31_0 1 rfl
theorem dX9_draw_2 : decode cX9_draw 2 = .ok (.getfield 49, 3) := dq daX9_draw_31_0 2 rfl
theorem dX9_draw_5 : decode cX9_draw 5 = .ok (.i2l, 1) := dq daX9_draw_31_0 3 rfl
theorem dX9_draw_6 : decode cX9_draw 6 = .ok (.ldc2_w 83, 3) := dq daX9_draw_31_0 4 rfl
theorem dX9_draw_9 : decode cX9_draw 9 = .ok (.lmul, 1) := dq daX9_draw_31_0 5 rfl
theorem dX9_draw_10 : decode cX9_draw 10 = .ok (.ldc2_w 85, 3) := dq daX9_draw_31_0 6 rfl
theorem dX9_draw_13 : decode cX9_draw 13 = .ok (.ladd, 1) := dq daX9_draw_31_0 7 rfl
theorem dX9_draw_14 : decode cX9_draw 14 = .ok (.ldc2_w 87, 3) := dq daX9_draw_31_0 8 rfl
theorem dX9_draw_17 : decode cX9_draw 17 = .ok (.land, 1) := dq daX9_draw_31_0 9 rfl
theorem dX9_draw_18 : decode cX9_draw 18 = .ok (.l2i, 1) := dq daX9_draw_31_0 10 rfl
theorem dX9_draw_19 : decode cX9_draw 19 = .ok (.putfield 49, 3) := dq daX9_draw_31_0 11 rfl
theorem dX9_draw_22 : decode cX9_draw 22 = .ok (.aload_n 0, 1) := dq daX9_draw_31_0 12 rfl
theorem dX9_draw_23 : decode cX9_draw 23 = .ok (.getfield 49, 3) := dq daX9_draw_31_0 13 rfl
theorem dX9_draw_26 : decode cX9_draw 26 = .ok (.ldc 89, 2) := dq daX9_draw_31_0 14 rfl
theorem dX9_draw_28 : decode cX9_draw 28 = .ok (.idiv, 1) := dq daX9_draw_31_0 15 rfl
theorem dX9_draw_29 : decode cX9_draw 29 = .ok (.ireturn, 1) := dq daX9_draw_31_0 16 rfl
def dtX9_copyFrom_31_0 : List (Nat × Jvm.ClassFile.Instr × Nat) := [(0, .aload_n 0, 1), (1, .getfield 14, 3), (4, .aload_n 1, 1), (5, .getfield 14, 3), (8, .invokevirtual 39, 3), (11, .aload_n 0, 1), (12, .getfield 20, 3), (15, .aload_n 1, 1), (16, .getfield 20, 3), (19, .invokevirtual 39, 3), (22, .aload_n 0, 1), (23, .getfield 23, 3), (26, .aload_n 1, 1), (27, .getfield 23, 3), (30, .invokevirtual 39, 3), (33, .aload_n 0, 1), (34, .getfield 26, 3), (37, .aload_n 1, 1), (38, .getfield 26, 3), (41, .invokevirtual 39, 3), (44, .aload_n 0, 1), (45, .getfield 29, 3), (48, .aload_n 1, 1), (49, .getfield 29, 3), (52, .invokevirtual 39, 3), (55, .aload_n 0, 1), (56, .getfield 32, 3), (59, .aload_n 1, 1), (60, .getfield 32, 3), (63, .invokevirtual 39, 3), (66, .aload_n 0, 1), (67, .aload_n 1, 1)]
theorem daX9_copyFrom_31_0 : dtX9_copyFrom_31_0.all (dqd cX9_copyFrom) = true := by decide +kernel
theorem dX9_copyFrom_0 : decode cX9_copyFrom 0 = .ok (.aload_n 0, 1) := dq daX9_copyFrom_31_0 0 rfl
theorem dX9_copyFrom_1 : decode cX9_copyFrom 1 = .ok (.getfield 14, 3) := dq daX9_copyFrom_31_0 1 rfl
theorem dX9_copyFrom_4 : decode cX9_copyFrom 4 = .ok (.aload_n 1, 1) := dq daX9_copyFrom_31_0 2 rfl
theorem dX9_copyFrom_5 : decode cX9_copyFrom 5 = .ok (.getfield 14, 3) := dq daX9_copyFrom_31_0 3 rfl
theorem dX9_copyFrom_8 : decode cX9_copyFrom 8 = .ok (.invokevirtual 39, 3) := dq daX9_copyFrom_31_0 4 rfl
theorem dX9_copyFrom_11 : decode cX9_copyFrom 11 = .ok (.aload_n 0, 1) := dq daX9_copyFrom_31_0 5 rfl
theorem dX9_copyFrom_12 : decode cX9_copyFrom 12 = .ok (.getfield 20, 3) := dq daX9_copyFrom_31_0 6 rfl
theorem dX9_copyFrom_15 : decode cX9_copyFrom 15 = .ok (.aload_n 1, 1) := dq daX9_copyFrom_31_0 7 rfl
theorem dX9_copyFrom_16 : decode cX9_copyFrom 16 = .ok (.getfield 20, 3) := dq daX9_copyFrom_31_0 8 rfl
theorem dX9_copyFrom_19 : decode cX9_copyFrom 19 = .ok (.invokevirtual 39, 3) := dq daX9_copyFrom_31_0 9 rfl
theorem dX9_copyFrom_22 : decode cX9_copyFrom 22 = .ok (.aload_n 0, 1) := dq daX9_copyFrom_31_0 10 rfl
theorem dX9_copyFrom_23 : decode cX9_copyFrom 23 = .ok (.getfield 23, 3) := dq daX9_copyFrom_31_0 11 rfl
theorem dX9_copyFrom_26 : decode cX9_copyFrom 26 = .ok (.aload_n 1, 1) := dq daX9_copyFrom_31_0 12 rfl
theorem dX9_copyFrom_27 : decode cX9_copyFrom 27 = .ok (.getfield 23, 3) := dq daX9_copyFrom_31_0 13 rfl
theorem dX9_copyFrom_30 : decode cX9_copyFrom 30 = .ok (.invokevirtual 39, 3) := dq daX9_copyFrom_31_0 14 rfl
theorem dX9_copyFrom_33 : decode cX9_copyFrom 33 = .ok (.aload_n 0, 1) := dq daX9_copyFrom_31_0 15 rfl
theorem dX9_copyFrom_34 : decode cX9_copyFrom 34 = .ok (.getfield 26, 3) := dq daX9_copyFrom_31_0 16 rfl
theorem dX9_copyFrom_37 : decode cX9_copyFrom 37 = .ok (.aload_n 1, 1) := dq daX9_copyFrom_31_0 17 rfl
theorem dX9_copyFrom_38 : decode cX9_copyFrom 38 = .ok (.getfield 26, 3) := dq daX9_copyFrom_31_0 18 rfl
theorem dX9_copyFrom_41 : decode cX9_copyFrom 41 = .ok (.invokevirtual 39, 3) := dq daX9_copyFrom_31_0 19 rfl
theorem dX9_copyFrom_44 : decode cX9_copyFrom 44 = .ok (.aload_n 0, 1) := dq daX9_copyFrom_31_0 20 rfl
theorem dX9_copyFrom_45 : decode cX9_copyFrom 45 = .ok (.getfield 29, 3) := dq daX9_copyFrom_31_0 21 rfl
theorem dX9_copyFrom_48 : decode cX9_copyFrom 48 = .ok (.aload_n 1, 1) := dq daX9_copyFrom_31_0 22 rfl
theorem dX9_copyFrom_49 : decode cX9_copyFrom 49 = .ok (.getfield 29, 3) := dq daX9_copyFrom_31_0 23 rfl
theorem dX9_copyFrom_52 : decode cX9_copyFrom 52 = .ok (.invokevirtual 39, 3) := dq daX9_copyFrom_31_0 24 rfl
theorem dX9_copyFrom_55 : decode cX9_copyFrom 55 = .ok (.aload_n 0, 1) := dq daX9_copyFrom_31_0 25 rfl
theorem dX9_copyFrom_56 : decode cX9_copyFrom 56 = .ok (.getfield 32, 3) := dq daX9_copyFrom_31_0 26 rfl
theorem dX9_copyFrom_59 : decode cX9_copyFrom 59 = .ok (.aload_n 1, 1) := dq daX9_copyFrom_31_0 27 rfl
theorem dX9_copyFrom_60 : decode cX9_copyFrom 60 = .ok (.getfield 32, 3) := dq daX9_copyFrom_31_0 28 rfl
theorem dX9_copyFrom_63 : decode cX9_copyFrom 63 = .ok (.invokevirtual 39, 3) := dq daX9_copyFrom_31_0 29 rfl
theorem dX9_copyFrom_66 : decode cX9_copyFrom 66 = .ok (.aload_n 0, 1) := dq daX9_copyFrom_31_0 30 rfl
theorem dX9_copyFrom_67 : decode cX9_copyFrom 67 = .ok (.aload_n 1, 1) := dq daX9_copyFrom_31_0 31 rfl
def dtX9_copyFrom_31_1 : List (Nat × Jvm.ClassFile.Instr × Nat) := [(68, .getfield 35, 3), (71, .putfield 35, 3), (74, .aload_n 0, 1), (75, .aload_n 1, 1), (76, .getfield 43, 3), (79, .putfield 43, 3), (82, .aload_n 0, 1), (83, .aload_n 1, 1), (84, .getfield 46, 3), (87, .putfield 46, 3), (90, .aload_n 0, 1), (91, .aload_n 1, 1), (92, .getfield 49, 3), (95, .putfield 49, 3), (98, .return_, 1)]
theorem daX9_copyFrom_31_1 : dtX9_copyFrom_31_1.all (dqd cX9_copyFrom) = true := by decide +kernel
theorem dX9_copyFrom_68 : decode cX9_copyFrom 68 = .ok (.getfield 35, 3) := dq daX9_copyFrom_31_1 0 rfl
theorem dX9_copyFrom_71 : decode cX9_copyFrom 71 = .ok (.putfield 35, 3) := dq daX9_copyFrom_31_1 1 rfl
theorem dX9_copyFrom_74 : decode cX9_copyFrom 74 = .ok (.aload_n 0, 1) := dq daX9_copyFrom_31_1 2 rfl
theorem dX9_copyFrom_75 : decode cX9_copyFrom 75 = .ok (.aload_n 1, 1) := dq daX9_copyFrom_31_1 3 rfl
theorem dX9_copyFrom_76 : decode cX9_copyFrom 76 = .ok (.getfield 43, 3) := dq daX9_copyFrom_31_1 4 rfl
theorem dX9_copyFrom_79 : decode cX9_copyFrom 79 = .ok (.putfield 43, 3) := dq daX9_copyFrom_31_1 5 rfl
theorem dX9_copyFrom_82 : decode cX9_copyFrom 82 = .ok (.aload_n 0, 1) := dq daX9_copyFrom_31_1 6 rfl
theorem dX9_copyFrom_83 : decode cX9_copyFrom 83 = .ok (.aload_n 1, 1) := dq daX9_copyFrom_31_1 7 rfl
theorem dX9_copyFrom_84 : decode cX9_copyFrom 84 = .ok (.getfield 46, 3) := dq daX9_copyFrom_31_1 8 rfl
theorem dX9_copyFrom_87 : decode cX9_copyFrom 87 = .ok (.putfield 46, 3) := dq daX9_copyFrom_31_1 9 rfl
theorem dX9_copyFrom_90 : decode cX9_copyFrom 90 = .ok (.aload_n 0, 1) := dq daX9_copyFrom_31_1 10 rfl
theorem dX9_copyFrom_91 : decode cX9_copyFrom 91 = .ok (.aload_n 1, 1) := dq daX9_copyFrom_31_1 11 rfl
theorem dX9_copyFrom_92 : decode cX9_copyFrom 92 = .ok (.getfield 49, 3) := dq daX9_copyFrom_31_1 12 rfl
theorem dX9_copyFrom_95 : decode cX9_copyFrom 95 = .ok (.putfield 49, 3) := dq daX9_copyFrom_31_1 13 rfl
theorem dX9_copyFrom_98 : decode cX9_copyFrom 98 = .ok (.return_, 1) := dq daX9_copyFrom_31_1 14 rfl
set_option maxRecDepth 100000 in
def fX9_monthAt (tfm : Int32) (p0 : Int32) : Int32 := bnd ((p0 / 24)) (fun (x1 : Int32) => bnd ((x1 / 30)) (fun (x2 : Int32) => bnd (((tfm + x2) - (tfm + x2) / 12 * 12)) (fun (x3 : Int32) => x3)))
set_option maxHeartbeats 4000000 in
set_option maxRecDepth 100000 in
theorem mX9_monthAt (l : Launch) (dC : Nat → ClassId) (dI : Nat → Nat → Nat) (kA : Nat → ClassId) (sz : Nat) (w0 : Nat) (tnodes : Nat) (tpasses : Nat) (tjars : Nat) (torders : Nat) (tfeasts : Nat) (tway : Nat) (tws : Int32) (tnow : Int32) (tfm : Int32) (tx : Int32) (p0 : Int32)  : Met l yX9_monthAt wsX9_monthAt ({ frames := 0, cells := 0, slots := 0, locals := 0 }) (zPc dC dI kA sz [.ref w0, .int p0] [(w0, .inr (9, [.ref tnodes, .ref tpasses, .ref tjars, .ref torders, .ref tfeasts, .ref tway, .int tws, .int tnow, .int tfm, .int tx]))]) (va_Qi (fun (r : Int32) (u : Int32) => r = u ∧ u = fX9_monthAt tfm p0) (zB dC dI (va_A [(w0, .inr (9, [.ref tnodes, .ref tpasses, .ref tjars, .ref torders, .ref tfeasts, .ref tway, .int tws, .int tnow, .int tfm, .int tx]))] sz) (fun (u : Int32) => [(w0, .inr (9, [.ref tnodes, .ref tpasses, .ref tjars, .ref torders, .ref tfeasts, .ref tway, .int tws, .int tnow, .int tfm, .int tx]))])) (va_A [(w0, .inr (9, [.ref tnodes, .ref tpasses, .ref tjars, .ref torders, .ref tfeasts, .ref tway, .int tws, .int tnow, .int tfm, .int tx]))] sz)) 0 0 (va_A [(w0, .inr (9, [.ref tnodes, .ref tpasses, .ref tjars, .ref torders, .ref tfeasts, .ref tway, .int tws, .int tnow, .int tfm, .int tx]))] sz) := by
  refine Met.ofW (cc := cX9_monthAt) (maxL := 2) (ret := (some .int)) pnX9 rfl ?_
  intro p e s m args below meth c s₁ B hml hv
  obtain ⟨rfl, hsz, hP, hK, hD0⟩ := hv
  have hx := B.exec
  have hb := B.bytes
  have hr := B.returns
  have hts := atoms_spec (ws := wsX9_monthAt) B.pre
  have hown : s.vm.findClass RX9 = some m.cls := findClass_of_methodNamed B.named
  have hlocks := B.notSynchronized
  subst hsz
  have hD := hD0.self (sz := s.heap.size)
  generalize hAe : va_A [(w0, .inr (9, [.ref tnodes, .ref tpasses, .ref tjars, .ref torders, .ref tfeasts, .ref tway, .int tws, .int tnow, .int tfm, .int tx]))] s.heap.size = A at hD ⊢
  have hA : ∀ q : Nat, s.heap.size ≤ q → A q := zA_of hAe
  have hS : va_S A s.heap s.heap [] := va_S.rf
  have hP : va_P (dC, dI) vwCl [(w0, .inr (9, [.ref tnodes, .ref tpasses, .ref tjars, .ref torders, .ref tfeasts, .ref tway, .int tws, .int tnow, .int tfm, .int tx]))] s.heap := hP
  have hl := lv_entry ([.ref w0, .int p0]) (n := 2) (Nat.le_of_ble_eq_true rfl)
  rw [lg_entry_eq]
  generalize (lg_sl ([.ref w0, .int p0]) ++ List.replicate (2 - (lg_sl ([.ref w0, .int p0])).length) Slot.unset).toArray = ls at hl ⊢
  have hl : lv_has ls 2 [(0, .ref w0), (1, .int p0)] := hl
  obtain ⟨G, hG0⟩ : ∃ G : Int32, fX9_monthAt tfm p0 = G := ⟨_, rfl⟩
  have hG := hG0
  unfold fX9_monthAt at hG
  refine lv_aload_n hx hb dX9_monthAt_0 rfl (lv_at hl 0 rfl) ?_
  refine va_get (D := (dC, dI)) (ci := 9) (v := .int tfm) (C := RX9) (T := TX9) (N := 10) hx hb hts iX9_monthAt_X9 hown hK.1 hP 0 gz0 vcz9 8 (by decide) (kX9_monthAt_1 hts) (fun _ h9 => h9) gz8 dX9_monthAt_1 ?_
  refine lv_iload_n hx hb dX9_monthAt_4 rfl (lv_at hl 1 rfl) ?_
  refine lv_bipush (v := 24) hx hb dX9_monthAt_5 (by decide) ?_
  refine lv_idiv hx hb dX9_monthAt_7 (by decide) ?_
  refine lv_topi (fun x1 ex1 => ?_)
  have hG := zbnd hG ex1
  refine lv_bipush (v := 30) hx hb dX9_monthAt_8 (by decide) ?_
  refine lv_idiv hx hb dX9_monthAt_10 (by decide) ?_
  refine lv_topi (fun x2 ex2 => ?_)
  have hG := zbnd hG ex2
  refine lv_iadd hx hb dX9_monthAt_11 ?_
  refine lv_bipush (v := 12) hx hb dX9_monthAt_12 (by decide) ?_
  refine lv_irem hx hb dX9_monthAt_14 (by decide) ?_
  refine lv_topi (fun x3 ex3 => ?_)
  have hG := zbnd hG ex3
  obtain ⟨hP9, hD9⟩ := z_sb (L' := [(w0, .inr (9, [.ref tnodes, .ref tpasses, .ref tjars, .ref torders, .ref tfeasts, .ref tway, .int tws, .int tnow, .int tfm, .int tx]))]) hP hD [0] (by decide) rfl
  refine W.widen (k := 0) (n := 0) (Nat.le_of_ble_eq_true rfl) (Nat.le_of_ble_eq_true rfl) ?_
  exact W.iret (v := x3) hx hb hr (fun t ht hW => ⟨⟨x3, (x3), rfl, ⟨rfl, (hG.trans hG0.symm)⟩, by rw [ht]; exact hP9, hD9⟩, hS.F ht⟩) hS.2.2 dX9_monthAt_15
set_option maxRecDepth 100000 in
def fX9_hasSnow (tnodesF : Nat → Int32) (p0 : Int32) (p1 : Int32) : Int32 := bnd (fX6_get_48 4 tnodesF p0 1) (fun (r3 : Int32) => bnd ((r3 >>> (p1 &&& 31))) (fun (x8 : Int32) => if (x8 &&& 1) = 1 then (1) else (0)))
set_option maxHeartbeats 4000000 in
set_option maxRecDepth 100000 in
theorem mX9_hasSnow (l : Launch) (dC : Nat → ClassId) (dI : Nat → Nat → Nat) (kA : Nat → ClassId) (sz : Nat) (w0 : Nat) (tnodes : Nat) (tnodesA : Nat) (tnodesS : Int32) (tnodesF : Nat → Int32) (tpasses : Nat) (tjars : Nat) (torders : Nat) (tfeasts : Nat) (tway : Nat) (tws : Int32) (tnow : Int32) (tfm : Int32) (tx : Int32) (p0 : Int32) (p1 : Int32)  : Met l yX9_hasSnow wsX9_hasSnow ({ frames := 1, cells := 0, slots := 0, locals := 23 }) (zPc dC dI kA sz [.ref w0, .int p0, .int p1] [(w0, .inr (9, [.ref tnodes, .ref tpasses, .ref tjars, .ref torders, .ref tfeasts, .ref tway, .int tws, .int tnow, .int tfm, .int tx])), (tnodes, .inr (6, [.int 4, .ref tnodesA, .int tnodesS])), (tnodesA, .inl (kA 0, 48, .inl tnodesF))]) (va_Qi (fun (r : Int32) (u : Int32) => r = u ∧ u = fX9_hasSnow tnodesF p0 p1 ∧ (u = 0 ∨ u = 1)) (zB dC dI (va_A [(w0, .inr (9, [.ref tnodes, .ref tpasses, .ref tjars, .ref torders, .ref tfeasts, .ref tway, .int tws, .int tnow, .int tfm, .int tx])), (tnodes, .inr (6, [.int 4, .ref tnodesA, .int tnodesS])), (tnodesA, .inl (kA 0, 48, .inl tnodesF))] sz) (fun (u : Int32) => [(w0, .inr (9, [.ref tnodes, .ref tpasses, .ref tjars, .ref torders, .ref tfeasts, .ref tway, .int tws, .int tnow, .int tfm, .int tx])), (tnodes, .inr (6, [.int 4, .ref tnodesA, .int tnodesS])), (tnodesA, .inl (kA 0, 48, .inl tnodesF))])) (va_A [(w0, .inr (9, [.ref tnodes, .ref tpasses, .ref tjars, .ref torders, .ref tfeasts, .ref tway, .int tws, .int tnow, .int tfm, .int tx])), (tnodes, .inr (6, [.int 4, .ref tnodesA, .int tnodesS])), (tnodesA, .inl (kA 0, 48, .inl tnodesF))] sz)) 0 0 (va_A [(w0, .inr (9, [.ref tnodes, .ref tpasses, .ref tjars, .ref torders, .ref tfeasts, .ref tway, .int tws, .int tnow, .int tfm, .int tx])), (tnodes, .inr (6, [.int 4, .ref tnodesA, .int tnodesS])), (tnodesA, .inl (kA 0, 48, .inl tnodesF))] sz) := by
  refine Met.ofW (cc := cX9_hasSnow) (maxL := 3) (ret := (some .boolean)) pnX9 rfl ?_
  intro p e s m args below meth c s₁ B hml hv
  obtain ⟨rfl, hsz, hP, hK, hD0⟩ := hv
  have hx := B.exec
  have hb := B.bytes
  have hr := B.returns
  have hts := atoms_spec (ws := wsX9_hasSnow) B.pre
  have hown : s.vm.findClass RX9 = some m.cls := findClass_of_methodNamed B.named
  have hlocks := B.notSynchronized
  subst hsz
  have hD := hD0.self (sz := s.heap.size)
  generalize hAe : va_A [(w0, .inr (9, [.ref tnodes, .ref tpasses, .ref tjars, .ref torders, .ref tfeasts, .ref tway, .int tws, .int tnow, .int tfm, .int tx])), (tnodes, .inr (6, [.int 4, .ref tnodesA, .int tnodesS])), (tnodesA, .inl (kA 0, 48, .inl tnodesF))] s.heap.size = A at hD ⊢
  have hA : ∀ q : Nat, s.heap.size ≤ q → A q := zA_of hAe
  have hS : va_S A s.heap s.heap [] := va_S.rf
  have hP : va_P (dC, dI) vwCl [(w0, .inr (9, [.ref tnodes, .ref tpasses, .ref tjars, .ref torders, .ref tfeasts, .ref tway, .int tws, .int tnow, .int tfm, .int tx])), (tnodes, .inr (6, [.int 4, .ref tnodesA, .int tnodesS])), (tnodesA, .inl (kA 0, 48, .inl tnodesF))] s.heap := hP
  have hl := lv_entry ([.ref w0, .int p0, .int p1]) (n := 3) (Nat.le_of_ble_eq_true rfl)
  rw [lg_entry_eq]
  generalize (lg_sl ([.ref w0, .int p0, .int p1]) ++ List.replicate (3 - (lg_sl ([.ref w0, .int p0, .int p1])).length) Slot.unset).toArray = ls at hl ⊢
  have hl : lv_has ls 3 [(0, .ref w0), (1, .int p0), (2, .int p1)] := hl
  obtain ⟨G, hG0⟩ : ∃ G : Int32, fX9_hasSnow tnodesF p0 p1 = G := ⟨_, rfl⟩
  have hG := hG0
  unfold fX9_hasSnow at hG
  refine lv_aload_n hx hb dX9_hasSnow_0 rfl (lv_at hl 0 rfl) ?_
  refine va_get (D := (dC, dI)) (ci := 9) (v := .ref tnodes) (C := RX9) (T := TX9) (N := 10) hx hb hts iX9_hasSnow_X9 hown hK.1 hP 0 gz0 vcz9 0 (by decide) (kX9_hasSnow_1 hts) (fun _ h9 => h9) gz0 dX9_hasSnow_1 ?_
  refine lv_iload_n hx hb dX9_hasSnow_4 rfl (lv_at hl 1 rfl) ?_
  refine lv_iconst (v := 1) hx hb dX9_hasSnow_5 (by decide) ?_
  refine z_i (wr := [(w0, .inr (9, [.ref tnodes, .ref tpasses, .ref tjars, .ref torders, .ref tfeasts, .ref tway, .int tws, .int tnow, .int tfm, .int tx]))]) (va_runV (As := [.int p0, .int 1]) (rest := []) ⟨hx, hb, hml, hown, hts⟩ (mX6_get_48 l dC dI kA _ tnodes tnodesA 4 tnodesS tnodesF p0 1) (cwV 2 hts gX9_hasSnow_X6_get rfl rfl rfl ⟨rfl, hdX6_get⟩ ⟨(Nat.le_of_ble_eq_true rfl), (Nat.le_of_ble_eq_true rfl)⟩) ⟨zPc.blind, va_recv (q := (RX6, TX6, 3)) hK.1 hP (ci := 6) (q0 := 1) rfl rfl, zPre hK (hP.sub [1, 2] rfl) (hD.sub [1, 2] (by decide) rfl)⟩ rfl rfl hl.1 rfl (lv_room (Nat.le_of_ble_eq_true rfl)) dX9_hasSnow_6 ⟨(Nat.le_of_ble_eq_true rfl), (Nat.le_of_ble_eq_true rfl)⟩) hP hD hS hA [1, 2] [0] rfl rfl (by decide) (by decide) (fun r3 u1 H locs hw2 hP hD hS => ?_)
  obtain ⟨er6, hp5⟩ := hw2
  have er6 : r3 = u1 := er6
  subst er6
  have er3 : r3 = fX6_get_48 4 tnodesF p0 1 := hp5
  have hG := zbnd hG er3
  obtain ⟨hP, hD⟩ := z_re (L := [(w0, .inr (9, [.ref tnodes, .ref tpasses, .ref tjars, .ref torders, .ref tfeasts, .ref tway, .int tws, .int tnow, .int tfm, .int tx])), (tnodes, .inr (6, [.int 4, .ref tnodesA, .int tnodesS])), (tnodesA, .inl (kA 0, 48, .inl tnodesF))]) hP hD
  refine lv_iload_n hx hb dX9_hasSnow_9 rfl (lv_at hl 2 rfl) ?_
  refine lv_ishr hx hb dX9_hasSnow_10 ?_
  refine lv_topi (fun x8 ex8 => ?_)
  have hG := zbnd hG ex8
  refine lv_iconst (v := 1) hx hb dX9_hasSnow_11 (by decide) ?_
  refine lv_iand hx hb dX9_hasSnow_12 ?_
  refine lv_iconst (v := 1) hx hb dX9_hasSnow_13 (by decide) ?_
  refine lv_icmp_ne (tgt := 21) hx hb dX9_hasSnow_14 (by decide) (fun c_9 => ?_) (fun c_9 => ?_)
  · have hG := zelse hG c_9
    refine lv_iconst (v := 0) hx hb dX9_hasSnow_21 (by decide) ?_
    obtain ⟨hP9, hD9⟩ := z_sb (L' := [(w0, .inr (9, [.ref tnodes, .ref tpasses, .ref tjars, .ref torders, .ref tfeasts, .ref tway, .int tws, .int tnow, .int tfm, .int tx])), (tnodes, .inr (6, [.int 4, .ref tnodesA, .int tnodesS])), (tnodesA, .inl (kA 0, 48, .inl tnodesF))]) hP hD [0, 1, 2] (by decide) rfl
    refine W.widen (k := 0) (n := 0) (Nat.le_of_ble_eq_true rfl) (Nat.le_of_ble_eq_true rfl) ?_
    exact W.zret (v := 0) hx hb hr rfl (fun t ht hW => ⟨⟨0, (0), rfl, ⟨rfl, (hG.trans hG0.symm), (Or.inl rfl)⟩, by rw [ht]; exact hP9, hD9⟩, hS.F ht⟩) hS.2.2 dX9_hasSnow_22
  · have hG := zthen hG c_9
    refine lv_iconst (v := 1) hx hb dX9_hasSnow_17 (by decide) ?_
    refine lv_goto (tgt := 22) hx hb dX9_hasSnow_18 (by decide) ?_
    obtain ⟨hP9, hD9⟩ := z_sb (L' := [(w0, .inr (9, [.ref tnodes, .ref tpasses, .ref tjars, .ref torders, .ref tfeasts, .ref tway, .int tws, .int tnow, .int tfm, .int tx])), (tnodes, .inr (6, [.int 4, .ref tnodesA, .int tnodesS])), (tnodesA, .inl (kA 0, 48, .inl tnodesF))]) hP hD [0, 1, 2] (by decide) rfl
    refine W.widen (k := 0) (n := 0) (Nat.le_of_ble_eq_true rfl) (Nat.le_of_ble_eq_true rfl) ?_
    exact W.zret (v := 1) hx hb hr rfl (fun t ht hW => ⟨⟨1, (1), rfl, ⟨rfl, (hG.trans hG0.symm), (Or.inr rfl)⟩, by rw [ht]; exact hP9, hD9⟩, hS.F ht⟩) hS.2.2 dX9_hasSnow_22
set_option maxRecDepth 100000 in
def fX9_otherEnd (tpassesS : Int32) (tpassesF : Nat → Int32) (p0 : Int32) (p1 : Int32) : Int32 := if (hs p0 tpassesS) = 0 then ((-1)) else (bnd (fX6_get_100 5 tpassesF p0 0) (fun (r7 : Int32) => bnd (fX6_get_100 5 tpassesF p0 1) (fun (r14 : Int32) => if p1 = r7 then (r14) else (if p1 = r14 then (r7) else ((-1))))))
set_option maxHeartbeats 4000000 in
set_option maxRecDepth 100000 in
theorem mX9_otherEnd (l : Launch) (dC : Nat → ClassId) (dI : Nat → Nat → Nat) (kA : Nat → ClassId) (sz : Nat) (w0 : Nat) (tnodes : Nat) (tpasses : Nat) (tpassesA : Nat) (tpassesS : Int32) (tpassesF : Nat → Int32) (tjars : Nat) (torders : Nat) (tfeasts : Nat) (tway : Nat) (tws : Int32) (tnow : Int32) (tfm : Int32) (tx : Int32) (p0 : Int32) (p1 : Int32)  : Met l yX9_otherEnd wsX9_otherEnd ({ frames := 1, cells := 0, slots := 0, locals := 23 }) (zPc dC dI kA sz [.ref w0, .int p0, .int p1] [(w0, .inr (9, [.ref tnodes, .ref tpasses, .ref tjars, .ref torders, .ref tfeasts, .ref tway, .int tws, .int tnow, .int tfm, .int tx])), (tpasses, .inr (6, [.int 5, .ref tpassesA, .int tpassesS])), (tpassesA, .inl (kA 0, 100, .inl tpassesF))]) (va_Qi (fun (r : Int32) (u : Int32) => r = u ∧ u = fX9_otherEnd tpassesS tpassesF p0 p1) (zB dC dI (va_A [(w0, .inr (9, [.ref tnodes, .ref tpasses, .ref tjars, .ref torders, .ref tfeasts, .ref tway, .int tws, .int tnow, .int tfm, .int tx])), (tpasses, .inr (6, [.int 5, .ref tpassesA, .int tpassesS])), (tpassesA, .inl (kA 0, 100, .inl tpassesF))] sz) (fun (u : Int32) => [(w0, .inr (9, [.ref tnodes, .ref tpasses, .ref tjars, .ref torders, .ref tfeasts, .ref tway, .int tws, .int tnow, .int tfm, .int tx])), (tpasses, .inr (6, [.int 5, .ref tpassesA, .int tpassesS])), (tpassesA, .inl (kA 0, 100, .inl tpassesF))])) (va_A [(w0, .inr (9, [.ref tnodes, .ref tpasses, .ref tjars, .ref torders, .ref tfeasts, .ref tway, .int tws, .int tnow, .int tfm, .int tx])), (tpasses, .inr (6, [.int 5, .ref tpassesA, .int tpassesS])), (tpassesA, .inl (kA 0, 100, .inl tpassesF))] sz)) 0 0 (va_A [(w0, .inr (9, [.ref tnodes, .ref tpasses, .ref tjars, .ref torders, .ref tfeasts, .ref tway, .int tws, .int tnow, .int tfm, .int tx])), (tpasses, .inr (6, [.int 5, .ref tpassesA, .int tpassesS])), (tpassesA, .inl (kA 0, 100, .inl tpassesF))] sz) := by
  refine Met.ofW (cc := cX9_otherEnd) (maxL := 5) (ret := (some .int)) pnX9 rfl ?_
  intro p e s m args below meth c s₁ B hml hv
  obtain ⟨rfl, hsz, hP, hK, hD0⟩ := hv
  have hx := B.exec
  have hb := B.bytes
  have hr := B.returns
  have hts := atoms_spec (ws := wsX9_otherEnd) B.pre
  have hown : s.vm.findClass RX9 = some m.cls := findClass_of_methodNamed B.named
  have hlocks := B.notSynchronized
  subst hsz
  have hD := hD0.self (sz := s.heap.size)
  generalize hAe : va_A [(w0, .inr (9, [.ref tnodes, .ref tpasses, .ref tjars, .ref torders, .ref tfeasts, .ref tway, .int tws, .int tnow, .int tfm, .int tx])), (tpasses, .inr (6, [.int 5, .ref tpassesA, .int tpassesS])), (tpassesA, .inl (kA 0, 100, .inl tpassesF))] s.heap.size = A at hD ⊢
  have hA : ∀ q : Nat, s.heap.size ≤ q → A q := zA_of hAe
  have hS : va_S A s.heap s.heap [] := va_S.rf
  have hP : va_P (dC, dI) vwCl [(w0, .inr (9, [.ref tnodes, .ref tpasses, .ref tjars, .ref torders, .ref tfeasts, .ref tway, .int tws, .int tnow, .int tfm, .int tx])), (tpasses, .inr (6, [.int 5, .ref tpassesA, .int tpassesS])), (tpassesA, .inl (kA 0, 100, .inl tpassesF))] s.heap := hP
  have hl := lv_entry ([.ref w0, .int p0, .int p1]) (n := 5) (Nat.le_of_ble_eq_true rfl)
  rw [lg_entry_eq]
  generalize (lg_sl ([.ref w0, .int p0, .int p1]) ++ List.replicate (5 - (lg_sl ([.ref w0, .int p0, .int p1])).length) Slot.unset).toArray = ls at hl ⊢
  have hl : lv_has ls 5 [(0, .ref w0), (1, .int p0), (2, .int p1)] := hl
  obtain ⟨G, hG0⟩ : ∃ G : Int32, fX9_otherEnd tpassesS tpassesF p0 p1 = G := ⟨_, rfl⟩
  have hG := hG0
  unfold fX9_otherEnd at hG
  refine lv_aload_n hx hb dX9_otherEnd_0 rfl (lv_at hl 0 rfl) ?_
  refine va_get (D := (dC, dI)) (ci := 9) (v := .ref tpasses) (C := RX9) (T := TX9) (N := 10) hx hb hts iX9_otherEnd_X9 hown hK.1 hP 0 gz0 vcz9 1 (by decide) (kX9_otherEnd_1 hts) (fun _ h9 => h9) gz1 dX9_otherEnd_1 ?_
  refine lv_iload_n hx hb dX9_otherEnd_4 rfl (lv_at hl 1 rfl) ?_
  refine z_i (wr := [(w0, .inr (9, [.ref tnodes, .ref tpasses, .ref tjars, .ref torders, .ref tfeasts, .ref tway, .int tws, .int tnow, .int tfm, .int tx])), (tpassesA, .inl (kA 0, 100, .inl tpassesF))]) (va_runV (As := [.int p0]) (rest := []) ⟨hx, hb, hml, hown, hts⟩ (mX6_has l dC dI kA _ tpasses tpassesA 5 tpassesS p0) (cwV 1 hts gX9_otherEnd_X6_has rfl rfl rfl ⟨rfl, hdX6_has⟩ ⟨(Nat.le_of_ble_eq_true rfl), (Nat.le_of_ble_eq_true rfl)⟩) ⟨zPc.blind, va_recv (q := (RX6, TX6, 3)) hK.1 hP (ci := 6) (q0 := 1) rfl rfl, zPre hK (hP.sub [1] rfl) (hD.sub [1] (by decide) rfl)⟩ rfl rfl hl.1 rfl (lv_room (Nat.le_of_ble_eq_true rfl)) dX9_otherEnd_5 ⟨(Nat.le_of_ble_eq_true rfl), (Nat.le_of_ble_eq_true rfl)⟩) hP hD hS hA [1] [0, 2] rfl rfl (by decide) (by decide) (fun r3 u1 H locs hw2 hP hD hS => ?_)
  obtain rfl := hw2
  obtain ⟨hP, hD⟩ := z_re (L := [(w0, .inr (9, [.ref tnodes, .ref tpasses, .ref tjars, .ref torders, .ref tfeasts, .ref tway, .int tws, .int tnow, .int tfm, .int tx])), (tpassesA, .inl (kA 0, 100, .inl tpassesF)), (tpasses, .inr (6, [.int 5, .ref tpassesA, .int tpassesS]))]) hP hD
  refine lv_if_ne (tgt := 13) hx hb dX9_otherEnd_8 (by decide) (fun c_4 => ?_) (fun c_4 => ?_)
  · have hG := zelse hG c_4
    have c_4a := hs_ne c_4
    have c_4b := c_4a.2
    have c_4a := c_4a.1
    refine lv_aload_n hx hb dX9_otherEnd_13 rfl (lv_at hl 0 rfl) ?_
    refine va_get (D := (dC, dI)) (ci := 9) (v := .ref tpasses) (C := RX9) (T := TX9) (N := 10) hx hb hts iX9_otherEnd_X9 hown hK.1 hP 0 gz0 vcz9 1 (by decide) (kX9_otherEnd_1 hts) (fun _ h9 => h9) gz1 dX9_otherEnd_14 ?_
    refine lv_iload_n hx hb dX9_otherEnd_17 rfl (lv_at hl 1 rfl) ?_
    refine lv_iconst (v := 0) hx hb dX9_otherEnd_18 (by decide) ?_
    refine z_i (wr := [(w0, .inr (9, [.ref tnodes, .ref tpasses, .ref tjars, .ref torders, .ref tfeasts, .ref tway, .int tws, .int tnow, .int tfm, .int tx]))]) (va_runV (As := [.int p0, .int 0]) (rest := []) ⟨hx, hb, hml, hown, hts⟩ (mX6_get_100 l dC dI kA _ tpasses tpassesA 5 tpassesS tpassesF p0 0) (cwV 2 hts gX9_otherEnd_X6_get rfl rfl rfl ⟨rfl, hdX6_get⟩ ⟨(Nat.le_of_ble_eq_true rfl), (Nat.le_of_ble_eq_true rfl)⟩) ⟨zPc.blind, va_recv (q := (RX6, TX6, 3)) hK.1 hP (ci := 6) (q0 := 2) rfl rfl, zPre hK (hP.sub [2, 1] rfl) (hD.sub [2, 1] (by decide) rfl)⟩ rfl rfl hl.1 rfl (lv_room (Nat.le_of_ble_eq_true rfl)) dX9_otherEnd_19 ⟨(Nat.le_of_ble_eq_true rfl), (Nat.le_of_ble_eq_true rfl)⟩) hP hD hS hA [2, 1] [0] rfl rfl (by decide) (by decide) (fun r7 u5 H locs hw6 hP hD hS => ?_)
    obtain ⟨er10, hp9⟩ := hw6
    have er10 : r7 = u5 := er10
    subst er10
    have er7 : r7 = fX6_get_100 5 tpassesF p0 0 := hp9
    have hG := zbnd hG er7
    obtain ⟨hP, hD⟩ := z_re (L := [(w0, .inr (9, [.ref tnodes, .ref tpasses, .ref tjars, .ref torders, .ref tfeasts, .ref tway, .int tws, .int tnow, .int tfm, .int tx])), (tpasses, .inr (6, [.int 5, .ref tpassesA, .int tpassesS])), (tpassesA, .inl (kA 0, 100, .inl tpassesF))]) hP hD
    refine lv_istore_n (lv' := [(3, .int r7), (0, .ref w0), (1, .int p0), (2, .int p1)]) hx hb dX9_otherEnd_22 rfl hl (by decide) rfl (fun ls hl => ?_)
    refine lv_aload_n hx hb dX9_otherEnd_23 rfl (lv_at hl 1 rfl) ?_
    refine va_get (D := (dC, dI)) (ci := 9) (v := .ref tpasses) (C := RX9) (T := TX9) (N := 10) hx hb hts iX9_otherEnd_X9 hown hK.1 hP 0 gz0 vcz9 1 (by decide) (kX9_otherEnd_1 hts) (fun _ h9 => h9) gz1 dX9_otherEnd_24 ?_
    refine lv_iload_n hx hb dX9_otherEnd_27 rfl (lv_at hl 2 rfl) ?_
    refine lv_iconst (v := 1) hx hb dX9_otherEnd_28 (by decide) ?_
    refine z_i (wr := [(w0, .inr (9, [.ref tnodes, .ref tpasses, .ref tjars, .ref torders, .ref tfeasts, .ref tway, .int tws, .int tnow, .int tfm, .int tx]))]) (va_runV (As := [.int p0, .int 1]) (rest := []) ⟨hx, hb, hml, hown, hts⟩ (mX6_get_100 l dC dI kA _ tpasses tpassesA 5 tpassesS tpassesF p0 1) (cwV 2 hts gX9_otherEnd_X6_get rfl rfl rfl ⟨rfl, hdX6_get⟩ ⟨(Nat.le_of_ble_eq_true rfl), (Nat.le_of_ble_eq_true rfl)⟩) ⟨zPc.blind, va_recv (q := (RX6, TX6, 3)) hK.1 hP (ci := 6) (q0 := 1) rfl rfl, zPre hK (hP.sub [1, 2] rfl) (hD.sub [1, 2] (by decide) rfl)⟩ rfl rfl hl.1 rfl (lv_room (Nat.le_of_ble_eq_true rfl)) dX9_otherEnd_29 ⟨(Nat.le_of_ble_eq_true rfl), (Nat.le_of_ble_eq_true rfl)⟩) hP hD hS hA [1, 2] [0] rfl rfl (by decide) (by decide) (fun r14 u12 H locs hw13 hP hD hS => ?_)
    obtain ⟨er17, hp16⟩ := hw13
    have er17 : r14 = u12 := er17
    subst er17
    have er14 : r14 = fX6_get_100 5 tpassesF p0 1 := hp16
    have hG := zbnd hG er14
    obtain ⟨hP, hD⟩ := z_re (L := [(w0, .inr (9, [.ref tnodes, .ref tpasses, .ref tjars, .ref torders, .ref tfeasts, .ref tway, .int tws, .int tnow, .int tfm, .int tx])), (tpasses, .inr (6, [.int 5, .ref tpassesA, .int tpassesS])), (tpassesA, .inl (kA 0, 100, .inl tpassesF))]) hP hD
    refine lv_istore (lv' := [(4, .int r14), (3, .int r7), (0, .ref w0), (1, .int p0), (2, .int p1)]) hx hb dX9_otherEnd_32 hl (by decide) rfl (fun ls hl => ?_)
    refine lv_iload_n hx hb dX9_otherEnd_34 rfl (lv_at hl 4 rfl) ?_
    refine lv_iload_n hx hb dX9_otherEnd_35 rfl (lv_at hl 1 rfl) ?_
    refine lv_icmp_ne (tgt := 42) hx hb dX9_otherEnd_36 (by decide) (fun c_19 => ?_) (fun c_19 => ?_)
    · have hG := zelse hG c_19
      refine lv_iload_n hx hb dX9_otherEnd_42 rfl (lv_at hl 4 rfl) ?_
      refine lv_iload hx hb dX9_otherEnd_43 (lv_at hl 0 rfl) ?_
      refine lv_icmp_ne (tgt := 52) hx hb dX9_otherEnd_45 (by decide) (fun c_20 => ?_) (fun c_20 => ?_)
      · have hG := zelse hG c_20
        refine lv_iconst (v := (-1)) hx hb dX9_otherEnd_52 (by decide) ?_
        obtain ⟨hP9, hD9⟩ := z_sb (L' := [(w0, .inr (9, [.ref tnodes, .ref tpasses, .ref tjars, .ref torders, .ref tfeasts, .ref tway, .int tws, .int tnow, .int tfm, .int tx])), (tpasses, .inr (6, [.int 5, .ref tpassesA, .int tpassesS])), (tpassesA, .inl (kA 0, 100, .inl tpassesF))]) hP hD [0, 1, 2] (by decide) rfl
        refine W.widen (k := 0) (n := 0) (Nat.le_of_ble_eq_true rfl) (Nat.le_of_ble_eq_true rfl) ?_
        exact W.iret (v := (-1)) hx hb hr (fun t ht hW => ⟨⟨(-1), ((-1)), rfl, ⟨rfl, (hG.trans hG0.symm)⟩, by rw [ht]; exact hP9, hD9⟩, hS.F ht⟩) hS.2.2 dX9_otherEnd_53
      · have hG := zthen hG c_20
        refine lv_iload_n hx hb dX9_otherEnd_48 rfl (lv_at hl 1 rfl) ?_
        refine lv_goto (tgt := 53) hx hb dX9_otherEnd_49 (by decide) ?_
        obtain ⟨hP9, hD9⟩ := z_sb (L' := [(w0, .inr (9, [.ref tnodes, .ref tpasses, .ref tjars, .ref torders, .ref tfeasts, .ref tway, .int tws, .int tnow, .int tfm, .int tx])), (tpasses, .inr (6, [.int 5, .ref tpassesA, .int tpassesS])), (tpassesA, .inl (kA 0, 100, .inl tpassesF))]) hP hD [0, 1, 2] (by decide) rfl
        refine W.widen (k := 0) (n := 0) (Nat.le_of_ble_eq_true rfl) (Nat.le_of_ble_eq_true rfl) ?_
        exact W.iret (v := r7) hx hb hr (fun t ht hW => ⟨⟨r7, (r7), rfl, ⟨rfl, (hG.trans hG0.symm)⟩, by rw [ht]; exact hP9, hD9⟩, hS.F ht⟩) hS.2.2 dX9_otherEnd_53
    · have hG := zthen hG c_19
      refine lv_iload hx hb dX9_otherEnd_39 (lv_at hl 0 rfl) ?_
      obtain ⟨hP9, hD9⟩ := z_sb (L' := [(w0, .inr (9, [.ref tnodes, .ref tpasses, .ref tjars, .ref torders, .ref tfeasts, .ref tway, .int tws, .int tnow, .int tfm, .int tx])), (tpasses, .inr (6, [.int 5, .ref tpassesA, .int tpassesS])), (tpassesA, .inl (kA 0, 100, .inl tpassesF))]) hP hD [0, 1, 2] (by decide) rfl
      refine W.widen (k := 0) (n := 0) (Nat.le_of_ble_eq_true rfl) (Nat.le_of_ble_eq_true rfl) ?_
      exact W.iret (v := r14) hx hb hr (fun t ht hW => ⟨⟨r14, (r14), rfl, ⟨rfl, (hG.trans hG0.symm)⟩, by rw [ht]; exact hP9, hD9⟩, hS.F ht⟩) hS.2.2 dX9_otherEnd_41
  · have hG := zthen hG c_4
    refine lv_iconst (v := (-1)) hx hb dX9_otherEnd_11 (by decide) ?_
    obtain ⟨hP9, hD9⟩ := z_sb (L' := [(w0, .inr (9, [.ref tnodes, .ref tpasses, .ref tjars, .ref torders, .ref tfeasts, .ref tway, .int tws, .int tnow, .int tfm, .int tx])), (tpasses, .inr (6, [.int 5, .ref tpassesA, .int tpassesS])), (tpassesA, .inl (kA 0, 100, .inl tpassesF))]) hP hD [0, 2, 1] (by decide) rfl
    refine W.widen (k := 0) (n := 0) (Nat.le_of_ble_eq_true rfl) (Nat.le_of_ble_eq_true rfl) ?_
    exact W.iret (v := (-1)) hx hb hr (fun t ht hW => ⟨⟨(-1), ((-1)), rfl, ⟨rfl, (hG.trans hG0.symm)⟩, by rw [ht]; exact hP9, hD9⟩, hS.F ht⟩) hS.2.2 dX9_otherEnd_12
set_option maxRecDepth 100000 in
def fb_mX9_wayEnd_7 (tpassesS : Int32) (tpassesF : Nat → Int32) (twayS : Int32) (twayF : Nat → Int32) (E39 : Int32 → Int32 → Int32) (K : Int32 → Int32 → Int32) (l7_0 : Int32) (l7_1 : Int32) : Int32 := if twayS ≤ l7_0 then (E39 l7_0 l7_1) else (bnd (fX6_get_6 1 twayF l7_0 0) (fun (ry7_4 : Int32) => bnd (fX9_otherEnd tpassesS tpassesF ry7_4 l7_1) (fun (ry7_11 : Int32) => bnd ((l7_0 + 1)) (fun (xy7_16 : Int32) => K xy7_16 ry7_11))))
def fl_mX9_wayEnd_7 (tpassesS : Int32) (tpassesF : Nat → Int32) (twayS : Int32) (twayF : Nat → Int32) (E39 : Int32 → Int32 → Int32) : Nat → Int32 → Int32 → Int32
  | 0, _, _ => 0
  | n + 1, l7_0, l7_1 => fb_mX9_wayEnd_7 tpassesS tpassesF twayS twayF E39 (fl_mX9_wayEnd_7 tpassesS tpassesF twayS twayF E39 n) l7_0 l7_1
set_option maxHeartbeats 4000000 in
set_option maxRecDepth 100000 in
theorem lp_mX9_wayEnd_7 {p : Program} {l : Launch} {e : Env} {R : Room} {s : State} {m : MethodId} {args : Array Value} {below : List Frame} {meth : Method} {c : Code} {Q : State → Prop} {dC : Nat → ClassId} {dI : Nat → Nat → Nat} {kA : Nat → ClassId} {A : Nat → Prop} {H0 : Heap} {cells slots : Nat} (hx : p.tables.exec = Jvm.exec) (hb : c.code = cX9_wayEnd) (hml : c.maxLocals = 3) (hts : ∀ w ∈ wsX9_wayEnd, w.before args s = true) (hown : s.vm.findClass RX9 = some m.cls) (hK : zK dC dI kA s) (hA : ∀ q, H0.size ≤ q → A q) (hRf : 2 ≤ R.frames) (hRl : 47 ≤ R.locals) (hRc : cells ≤ R.cells) (hRs : slots ≤ R.slots) (w0 : Nat) (tnodes : Nat) (tpasses : Nat) (tpassesA : Nat) (tpassesS : Int32) (tpassesF : Nat → Int32) (tjars : Nat) (torders : Nat) (tfeasts : Nat) (tway : Nat) (twayA : Nat) (twayS : Int32) (twayF : Nat → Int32) (tws : Int32) (tnow : Int32) (tfm : Int32) (tx : Int32) {G : Int32} {E39 : Int32 → Int32 → Int32}  (k39 : ∀ (w39_0 : Int32) (w39_1 : Int32) (H : Heap) (locs : List Loc) (ls : Array Slot), ¬ w39_0 < 0 → E39 w39_0 w39_1 = G → va_P (dC, dI) vwCl [(w0, .inr (9, [.ref tnodes, .ref tpasses, .ref tjars, .ref torders, .ref tfeasts, .ref tway, .int tws, .int tnow, .int tfm, .int tx])), (tpasses, .inr (6, [.int 5, .ref tpassesA, .int tpassesS])), (tpassesA, .inl (kA 0, 100, .inl tpassesF)), (tway, .inr (6, [.int 1, .ref twayA, .int twayS])), (twayA, .inl (kA 0, 6, .inl twayF))] H → va_D A [(w0, .inr (9, [.ref tnodes, .ref tpasses, .ref tjars, .ref torders, .ref tfeasts, .ref tway, .int tws, .int tnow, .int tfm, .int tx])), (tpasses, .inr (6, [.int 5, .ref tpassesA, .int tpassesS])), (tpassesA, .inl (kA 0, 100, .inl tpassesF)), (tway, .inr (6, [.int 1, .ref twayA, .int twayS])), (twayA, .inl (kA 0, 6, .inl twayF))] → va_S A H0 H locs → lv_has ls 3 [(2, .int w39_0), (1, .int w39_1), (0, .ref w0)] → W p l e R s m args below meth c H locs cells slots Q (F0 m 39 ls []))  : ∀ (n : Nat) (l7_0 : Int32) (l7_1 : Int32) (H : Heap) (locs : List Loc) (ls : Array Slot), ((twayS : Int32).toInt - l7_0.toInt).toNat < n → fl_mX9_wayEnd_7 tpassesS tpassesF twayS twayF E39 n l7_0 l7_1 = G → ¬ l7_0 < 0 → va_P (dC, dI) vwCl [(w0, .inr (9, [.ref tnodes, .ref tpasses, .ref tjars, .ref torders, .ref tfeasts, .ref tway, .int tws, .int tnow, .int tfm, .int tx])), (tpasses, .inr (6, [.int 5, .ref tpassesA, .int tpassesS])), (tpassesA, .inl (kA 0, 100, .inl tpassesF)), (tway, .inr (6, [.int 1, .ref twayA, .int twayS])), (twayA, .inl (kA 0, 6, .inl twayF))] H → va_D A [(w0, .inr (9, [.ref tnodes, .ref tpasses, .ref tjars, .ref torders, .ref tfeasts, .ref tway, .int tws, .int tnow, .int tfm, .int tx])), (tpasses, .inr (6, [.int 5, .ref tpassesA, .int tpassesS])), (tpassesA, .inl (kA 0, 100, .inl tpassesF)), (tway, .inr (6, [.int 1, .ref twayA, .int twayS])), (twayA, .inl (kA 0, 6, .inl twayF))] → va_S A H0 H locs → lv_has ls 3 [(2, .int l7_0), (1, .int l7_1), (0, .ref w0)] → W p l e R s m args below meth c H locs cells slots Q (F0 m 7 ls []) := by
  intro n
  induction n with
  | zero =>
    intro l7_0 l7_1 H locs ls hn
    exact absurd hn (Nat.not_lt_zero _)
  | succ n ih =>
    intro l7_0 l7_1 H locs ls hn hG hi7 hP hD hS hl
    have hG : fb_mX9_wayEnd_7 tpassesS tpassesF twayS twayF E39 (fl_mX9_wayEnd_7 tpassesS tpassesF twayS twayF E39 n) l7_0 l7_1 = G := hG
    unfold fb_mX9_wayEnd_7 at hG
    refine lv_iload_n hx hb dX9_wayEnd_7 rfl (lv_at hl 0 rfl) ?_
    refine lv_aload_n hx hb dX9_wayEnd_8 rfl (lv_at hl 2 rfl) ?_
    refine va_get (D := (dC, dI)) (ci := 9) (v := .ref tway) (C := RX9) (T := TX9) (N := 10) hx hb hts iX9_wayEnd_X9 hown hK.1 hP 0 gz0 vcz9 5 (by decide) (kX9_wayEnd_2 hts) (fun _ h9 => h9) gz5 dX9_wayEnd_9 ?_
    refine va_get (D := (dC, dI)) (ci := 6) (v := .int twayS) (C := RX6) (T := TX6) (N := 3) hx hb hts iX9_wayEnd_X6 hown hK.1 hP 3 gz3 vcz6 2 (by decide) (kX9_wayEnd_3 hts) (fun _ h9 => h9) gz2 dX9_wayEnd_12 ?_
    refine lv_icmp_ge (tgt := 39) hx hb dX9_wayEnd_15 (by decide) (fun c_y7_1 => ?_) (fun c_y7_1 => ?_)
    · have hG := zthen hG c_y7_1
      exact k39 l7_0 l7_1 H locs ls hi7 hG (hP.sub [0, 1, 2, 3, 4] rfl) (hD.sub [0, 1, 2, 3, 4] (by decide) rfl) hS (lv_sub hl [0, 1, 2] rfl)
    · have hG := zelse hG c_y7_1
      refine lv_aload_n hx hb dX9_wayEnd_18 rfl (lv_at hl 2 rfl) ?_
      refine lv_aload_n hx hb dX9_wayEnd_19 rfl (lv_at hl 2 rfl) ?_
      refine va_get (D := (dC, dI)) (ci := 9) (v := .ref tway) (C := RX9) (T := TX9) (N := 10) hx hb hts iX9_wayEnd_X9 hown hK.1 hP 0 gz0 vcz9 5 (by decide) (kX9_wayEnd_2 hts) (fun _ h9 => h9) gz5 dX9_wayEnd_20 ?_
      refine lv_iload_n hx hb dX9_wayEnd_23 rfl (lv_at hl 0 rfl) ?_
      refine lv_iconst (v := 0) hx hb dX9_wayEnd_24 (by decide) ?_
      refine z_i (wr := [(w0, .inr (9, [.ref tnodes, .ref tpasses, .ref tjars, .ref torders, .ref tfeasts, .ref tway, .int tws, .int tnow, .int tfm, .int tx])), (tpasses, .inr (6, [.int 5, .ref tpassesA, .int tpassesS])), (tpassesA, .inl (kA 0, 100, .inl tpassesF))]) (va_runV (As := [.int l7_0, .int 0]) (rest := [.ref w0]) ⟨hx, hb, hml, hown, hts⟩ (mX6_get_6 l dC dI kA _ tway twayA 1 twayS twayF l7_0 0) (cwV 2 hts gX9_wayEnd_X6_get rfl rfl rfl ⟨rfl, hdX6_get⟩ ⟨(Nat.le_trans (Nat.le_of_ble_eq_true rfl) hRf), (Nat.le_trans (Nat.le_of_ble_eq_true rfl) hRl)⟩) ⟨zPc.blind, va_recv (q := (RX6, TX6, 3)) hK.1 hP (ci := 6) (q0 := 3) rfl rfl, zPre hK (hP.sub [3, 4] rfl) (hD.sub [3, 4] (by decide) rfl)⟩ rfl rfl hl.1 rfl (lv_room (Nat.le_of_ble_eq_true rfl)) dX9_wayEnd_25 ⟨hRc, hRs⟩) hP hD hS hA [3, 4] [0, 1, 2] rfl rfl (by decide) (by decide) (fun ry7_4 uy7_2 H locs hwy7_3 hP hD hS => ?_)
      obtain ⟨ery7_7, hpy7_6⟩ := hwy7_3
      have ery7_7 : ry7_4 = uy7_2 := ery7_7
      subst ery7_7
      have ery7_4 : ry7_4 = fX6_get_6 1 twayF l7_0 0 := hpy7_6
      have hG := zbnd hG ery7_4
      obtain ⟨hP, hD⟩ := z_re (L := [(w0, .inr (9, [.ref tnodes, .ref tpasses, .ref tjars, .ref torders, .ref tfeasts, .ref tway, .int tws, .int tnow, .int tfm, .int tx])), (tpasses, .inr (6, [.int 5, .ref tpassesA, .int tpassesS])), (tpassesA, .inl (kA 0, 100, .inl tpassesF)), (tway, .inr (6, [.int 1, .ref twayA, .int twayS])), (twayA, .inl (kA 0, 6, .inl twayF))]) hP hD
      refine lv_iload_n hx hb dX9_wayEnd_28 rfl (lv_at hl 1 rfl) ?_
      refine z_i (wr := [(tway, .inr (6, [.int 1, .ref twayA, .int twayS])), (twayA, .inl (kA 0, 6, .inl twayF))]) (va_runV (As := [.int ry7_4, .int l7_1]) (rest := []) ⟨hx, hb, hml, hown, hts⟩ (mX9_otherEnd l dC dI kA _ w0 tnodes tpasses tpassesA tpassesS tpassesF tjars torders tfeasts tway tws tnow tfm tx ry7_4 l7_1) (cwV 2 hts gX9_wayEnd_X9_otherEnd rfl rfl rfl ⟨rfl, hdX9_otherEnd⟩ ⟨(Nat.le_trans (Nat.le_of_ble_eq_true rfl) hRf), (Nat.le_trans (Nat.le_of_ble_eq_true rfl) hRl)⟩) ⟨zPc.blind, va_recv (q := (RX9, TX9, 10)) hK.1 hP (ci := 9) (q0 := 0) rfl rfl, zPre hK (hP.sub [0, 1, 2] rfl) (hD.sub [0, 1, 2] (by decide) rfl)⟩ rfl rfl hl.1 rfl (lv_room (Nat.le_of_ble_eq_true rfl)) dX9_wayEnd_29 ⟨hRc, hRs⟩) hP hD hS hA [0, 1, 2] [3, 4] rfl rfl (by decide) (by decide) (fun ry7_11 uy7_9 H locs hwy7_10 hP hD hS => ?_)
      obtain ⟨ery7_14, hpy7_13⟩ := hwy7_10
      have ery7_14 : ry7_11 = uy7_9 := ery7_14
      subst ery7_14
      have ery7_11 : ry7_11 = fX9_otherEnd tpassesS tpassesF ry7_4 l7_1 := hpy7_13
      have hG := zbnd hG ery7_11
      obtain ⟨hP, hD⟩ := z_re (L := [(tway, .inr (6, [.int 1, .ref twayA, .int twayS])), (twayA, .inl (kA 0, 6, .inl twayF)), (w0, .inr (9, [.ref tnodes, .ref tpasses, .ref tjars, .ref torders, .ref tfeasts, .ref tway, .int tws, .int tnow, .int tfm, .int tx])), (tpasses, .inr (6, [.int 5, .ref tpassesA, .int tpassesS])), (tpassesA, .inl (kA 0, 100, .inl tpassesF))]) hP hD
      refine lv_istore_n (lv' := [(1, .int ry7_11), (2, .int l7_0), (0, .ref w0)]) hx hb dX9_wayEnd_32 rfl hl (by decide) rfl (fun ls hl => ?_)
      obtain ⟨xy7_16, exy7_16⟩ : ∃ y : Int32, y = l7_0 + 1 := ⟨_, rfl⟩
      have hG := zbnd hG exy7_16
      refine lv_iinc (v := xy7_16) (lv' := [(2, .int xy7_16), (1, .int ry7_11), (0, .ref w0)]) hx hb dX9_wayEnd_33 hl (k := 1) rfl (by rw [exy7_16]; rfl) (by decide) rfl (fun ls hl => ?_)
      refine lv_goto (tgt := 7) hx hb dX9_wayEnd_36 (by decide) ?_
      exact ih xy7_16 ry7_11 H locs ls (z_up hn exy7_16 c_y7_1) hG (z_nn exy7_16 c_y7_1 hi7) (hP.sub [2, 3, 4, 0, 1] rfl) (hD.sub [2, 3, 4, 0, 1] (by decide) rfl) hS (lv_sub hl [0, 1, 2] rfl)
set_option maxRecDepth 100000 in
def fX9_wayEnd (tpassesS : Int32) (tpassesF : Nat → Int32) (twayS : Int32) (twayF : Nat → Int32) (tws : Int32) : Int32 := fl_mX9_wayEnd_7 tpassesS tpassesF twayS twayF (fun (w39_0_0 : Int32) (w39_1_0 : Int32) => w39_1_0) (((twayS : Int32).toInt - (0 : Int32).toInt).toNat + 1) 0 tws
set_option maxHeartbeats 4000000 in
set_option maxRecDepth 100000 in
theorem mX9_wayEnd (l : Launch) (dC : Nat → ClassId) (dI : Nat → Nat → Nat) (kA : Nat → ClassId) (sz : Nat) (w0 : Nat) (tnodes : Nat) (tpasses : Nat) (tpassesA : Nat) (tpassesS : Int32) (tpassesF : Nat → Int32) (tjars : Nat) (torders : Nat) (tfeasts : Nat) (tway : Nat) (twayA : Nat) (twayS : Int32) (twayF : Nat → Int32) (tws : Int32) (tnow : Int32) (tfm : Int32) (tx : Int32)  : Met l yX9_wayEnd wsX9_wayEnd ({ frames := 2, cells := 0, slots := 0, locals := 47 }) (zPc dC dI kA sz [.ref w0] [(w0, .inr (9, [.ref tnodes, .ref tpasses, .ref tjars, .ref torders, .ref tfeasts, .ref tway, .int tws, .int tnow, .int tfm, .int tx])), (tpasses, .inr (6, [.int 5, .ref tpassesA, .int tpassesS])), (tpassesA, .inl (kA 0, 100, .inl tpassesF)), (tway, .inr (6, [.int 1, .ref twayA, .int twayS])), (twayA, .inl (kA 0, 6, .inl twayF))]) (va_Qi (fun (r : Int32) (u : Int32) => r = u ∧ u = fX9_wayEnd tpassesS tpassesF twayS twayF tws) (zB dC dI (va_A [(w0, .inr (9, [.ref tnodes, .ref tpasses, .ref tjars, .ref torders, .ref tfeasts, .ref tway, .int tws, .int tnow, .int tfm, .int tx])), (tpasses, .inr (6, [.int 5, .ref tpassesA, .int tpassesS])), (tpassesA, .inl (kA 0, 100, .inl tpassesF)), (tway, .inr (6, [.int 1, .ref twayA, .int twayS])), (twayA, .inl (kA 0, 6, .inl twayF))] sz) (fun (u : Int32) => [(w0, .inr (9, [.ref tnodes, .ref tpasses, .ref tjars, .ref torders, .ref tfeasts, .ref tway, .int tws, .int tnow, .int tfm, .int tx])), (tpasses, .inr (6, [.int 5, .ref tpassesA, .int tpassesS])), (tpassesA, .inl (kA 0, 100, .inl tpassesF)), (tway, .inr (6, [.int 1, .ref twayA, .int twayS])), (twayA, .inl (kA 0, 6, .inl twayF))])) (va_A [(w0, .inr (9, [.ref tnodes, .ref tpasses, .ref tjars, .ref torders, .ref tfeasts, .ref tway, .int tws, .int tnow, .int tfm, .int tx])), (tpasses, .inr (6, [.int 5, .ref tpassesA, .int tpassesS])), (tpassesA, .inl (kA 0, 100, .inl tpassesF)), (tway, .inr (6, [.int 1, .ref twayA, .int twayS])), (twayA, .inl (kA 0, 6, .inl twayF))] sz)) 0 0 (va_A [(w0, .inr (9, [.ref tnodes, .ref tpasses, .ref tjars, .ref torders, .ref tfeasts, .ref tway, .int tws, .int tnow, .int tfm, .int tx])), (tpasses, .inr (6, [.int 5, .ref tpassesA, .int tpassesS])), (tpassesA, .inl (kA 0, 100, .inl tpassesF)), (tway, .inr (6, [.int 1, .ref twayA, .int twayS])), (twayA, .inl (kA 0, 6, .inl twayF))] sz) := by
  refine Met.ofW (cc := cX9_wayEnd) (maxL := 3) (ret := (some .int)) pnX9 rfl ?_
  intro p e s m args below meth c s₁ B hml hv
  obtain ⟨rfl, hsz, hP, hK, hD0⟩ := hv
  have hx := B.exec
  have hb := B.bytes
  have hr := B.returns
  have hts := atoms_spec (ws := wsX9_wayEnd) B.pre
  have hown : s.vm.findClass RX9 = some m.cls := findClass_of_methodNamed B.named
  have hlocks := B.notSynchronized
  subst hsz
  have hD := hD0.self (sz := s.heap.size)
  generalize hAe : va_A [(w0, .inr (9, [.ref tnodes, .ref tpasses, .ref tjars, .ref torders, .ref tfeasts, .ref tway, .int tws, .int tnow, .int tfm, .int tx])), (tpasses, .inr (6, [.int 5, .ref tpassesA, .int tpassesS])), (tpassesA, .inl (kA 0, 100, .inl tpassesF)), (tway, .inr (6, [.int 1, .ref twayA, .int twayS])), (twayA, .inl (kA 0, 6, .inl twayF))] s.heap.size = A at hD ⊢
  have hA : ∀ q : Nat, s.heap.size ≤ q → A q := zA_of hAe
  have hS : va_S A s.heap s.heap [] := va_S.rf
  have hP : va_P (dC, dI) vwCl [(w0, .inr (9, [.ref tnodes, .ref tpasses, .ref tjars, .ref torders, .ref tfeasts, .ref tway, .int tws, .int tnow, .int tfm, .int tx])), (tpasses, .inr (6, [.int 5, .ref tpassesA, .int tpassesS])), (tpassesA, .inl (kA 0, 100, .inl tpassesF)), (tway, .inr (6, [.int 1, .ref twayA, .int twayS])), (twayA, .inl (kA 0, 6, .inl twayF))] s.heap := hP
  have hl := lv_entry ([.ref w0]) (n := 3) (Nat.le_of_ble_eq_true rfl)
  rw [lg_entry_eq]
  generalize (lg_sl ([.ref w0]) ++ List.replicate (3 - (lg_sl ([.ref w0])).length) Slot.unset).toArray = ls at hl ⊢
  have hl : lv_has ls 3 [(0, .ref w0)] := hl
  obtain ⟨H, hHe⟩ : ∃ H : Heap, H = s.heap := ⟨_, rfl⟩
  obtain ⟨G, hG0⟩ : ∃ G : Int32, fX9_wayEnd tpassesS tpassesF twayS twayF tws = G := ⟨_, rfl⟩
  have hG := hG0
  unfold fX9_wayEnd at hG
  refine lv_aload_n hx hb dX9_wayEnd_0 rfl (lv_at hl 0 rfl) ?_
  refine va_get (D := (dC, dI)) (ci := 9) (v := .int tws) (C := RX9) (T := TX9) (N := 10) hx hb hts iX9_wayEnd_X9 hown hK.1 hP 0 gz0 vcz9 6 (by decide) (kX9_wayEnd_1 hts) (fun _ h9 => h9) gz6 dX9_wayEnd_1 ?_
  refine lv_istore_n (lv' := [(1, .int tws), (0, .ref w0)]) hx hb dX9_wayEnd_4 rfl hl (by decide) rfl (fun ls hl => ?_)
  refine lv_iconst (v := 0) hx hb dX9_wayEnd_5 (by decide) ?_
  refine lv_istore_n (lv' := [(2, .int 0), (1, .int tws), (0, .ref w0)]) hx hb dX9_wayEnd_6 rfl hl (by decide) rfl (fun ls hl => ?_)
  refine lp_mX9_wayEnd_7 hx hb hml hts hown hK hA (Nat.le_of_ble_eq_true rfl) (Nat.le_of_ble_eq_true rfl) (Nat.le_of_ble_eq_true rfl) (Nat.le_of_ble_eq_true rfl) w0 tnodes tpasses tpassesA tpassesS tpassesF tjars torders tfeasts tway twayA twayS twayF tws tnow tfm tx  (fun w39_0_0 w39_1_0 H locs ls hx39_2_nlt00_0 hG hP hD hS hl => ?_) _ 0 tws _ _ ls (Nat.lt_succ_self _) hG (by decide) hP hD hS (lv_sub hl [0, 1, 2] rfl)
  obtain ⟨hP, hD⟩ := z_re (L := [(w0, .inr (9, [.ref tnodes, .ref tpasses, .ref tjars, .ref torders, .ref tfeasts, .ref tway, .int tws, .int tnow, .int tfm, .int tx])), (tpasses, .inr (6, [.int 5, .ref tpassesA, .int tpassesS])), (tpassesA, .inl (kA 0, 100, .inl tpassesF)), (tway, .inr (6, [.int 1, .ref twayA, .int twayS])), (twayA, .inl (kA 0, 6, .inl twayF))]) hP hD
  refine lv_iload_n hx hb dX9_wayEnd_39 rfl (lv_at hl 1 rfl) ?_
  obtain ⟨hP9, hD9⟩ := z_sb (L' := [(w0, .inr (9, [.ref tnodes, .ref tpasses, .ref tjars, .ref torders, .ref tfeasts, .ref tway, .int tws, .int tnow, .int tfm, .int tx])), (tpasses, .inr (6, [.int 5, .ref tpassesA, .int tpassesS])), (tpassesA, .inl (kA 0, 100, .inl tpassesF)), (tway, .inr (6, [.int 1, .ref twayA, .int twayS])), (twayA, .inl (kA 0, 6, .inl twayF))]) hP hD [0, 1, 2, 3, 4] (by decide) rfl
  refine W.widen (k := 0) (n := 0) (Nat.le_of_ble_eq_true rfl) (Nat.le_of_ble_eq_true rfl) ?_
  exact W.iret (v := w39_1_0) hx hb hr (fun t ht hW => ⟨⟨w39_1_0, (w39_1_0), rfl, ⟨rfl, (hG.trans hG0.symm)⟩, by rw [ht]; exact hP9, hD9⟩, hS.F ht⟩) hS.2.2 dX9_wayEnd_40
set_option maxRecDepth 100000 in
def fb_mX9_wayHas_7 (tpassesS : Int32) (tpassesF : Nat → Int32) (twayS : Int32) (twayF : Nat → Int32) (p0 : Int32) (E44 : Int32 → Int32 → Int32) (K : Int32 → Int32 → Int32) (l7_0 : Int32) (l7_1 : Int32) : Int32 := if twayS ≤ l7_0 then (E44 l7_0 l7_1) else (if l7_1 = p0 then (E44 l7_0 l7_1) else (bnd (fX6_get_6 1 twayF l7_0 0) (fun (ry7_5 : Int32) => bnd (fX9_otherEnd tpassesS tpassesF ry7_5 l7_1) (fun (ry7_12 : Int32) => bnd ((l7_0 + 1)) (fun (xy7_17 : Int32) => K xy7_17 ry7_12)))))
def fl_mX9_wayHas_7 (tpassesS : Int32) (tpassesF : Nat → Int32) (twayS : Int32) (twayF : Nat → Int32) (p0 : Int32) (E44 : Int32 → Int32 → Int32) : Nat → Int32 → Int32 → Int32
  | 0, _, _ => 0
  | n + 1, l7_0, l7_1 => fb_mX9_wayHas_7 tpassesS tpassesF twayS twayF p0 E44 (fl_mX9_wayHas_7 tpassesS tpassesF twayS twayF p0 E44 n) l7_0 l7_1
set_option maxHeartbeats 4000000 in
set_option maxRecDepth 100000 in
theorem lp_mX9_wayHas_7 {p : Program} {l : Launch} {e : Env} {R : Room} {s : State} {m : MethodId} {args : Array Value} {below : List Frame} {meth : Method} {c : Code} {Q : State → Prop} {dC : Nat → ClassId} {dI : Nat → Nat → Nat} {kA : Nat → ClassId} {A : Nat → Prop} {H0 : Heap} {cells slots : Nat} (hx : p.tables.exec = Jvm.exec) (hb : c.code = cX9_wayHas) (hml : c.maxLocals = 4) (hts : ∀ w ∈ wsX9_wayHas, w.before args s = true) (hown : s.vm.findClass RX9 = some m.cls) (hK : zK dC dI kA s) (hA : ∀ q, H0.size ≤ q → A q) (hRf : 2 ≤ R.frames) (hRl : 47 ≤ R.locals) (hRc : cells ≤ R.cells) (hRs : slots ≤ R.slots) (w0 : Nat) (tnodes : Nat) (tpasses : Nat) (tpassesA : Nat) (tpassesS : Int32) (tpassesF : Nat → Int32) (tjars : Nat) (torders : Nat) (tfeasts : Nat) (tway : Nat) (twayA : Nat) (twayS : Int32) (twayF : Nat → Int32) (tws : Int32) (tnow : Int32) (tfm : Int32) (tx : Int32) (p0 : Int32) {G : Int32} {E44 : Int32 → Int32 → Int32}  (k44 : ∀ (w44_0 : Int32) (w44_1 : Int32) (H : Heap) (locs : List Loc) (ls : Array Slot), ¬ w44_0 < 0 → E44 w44_0 w44_1 = G → va_P (dC, dI) vwCl [(w0, .inr (9, [.ref tnodes, .ref tpasses, .ref tjars, .ref torders, .ref tfeasts, .ref tway, .int tws, .int tnow, .int tfm, .int tx])), (tpasses, .inr (6, [.int 5, .ref tpassesA, .int tpassesS])), (tpassesA, .inl (kA 0, 100, .inl tpassesF)), (tway, .inr (6, [.int 1, .ref twayA, .int twayS])), (twayA, .inl (kA 0, 6, .inl twayF))] H → va_D A [(w0, .inr (9, [.ref tnodes, .ref tpasses, .ref tjars, .ref torders, .ref tfeasts, .ref tway, .int tws, .int tnow, .int tfm, .int tx])), (tpasses, .inr (6, [.int 5, .ref tpassesA, .int tpassesS])), (tpassesA, .inl (kA 0, 100, .inl tpassesF)), (tway, .inr (6, [.int 1, .ref twayA, .int twayS])), (twayA, .inl (kA 0, 6, .inl twayF))] → va_S A H0 H locs → lv_has ls 4 [(3, .int w44_0), (2, .int w44_1), (0, .ref w0), (1, .int p0)] → W p l e R s m args below meth c H locs cells slots Q (F0 m 44 ls []))  : ∀ (n : Nat) (l7_0 : Int32) (l7_1 : Int32) (H : Heap) (locs : List Loc) (ls : Array Slot), ((twayS : Int32).toInt - l7_0.toInt).toNat < n → fl_mX9_wayHas_7 tpassesS tpassesF twayS twayF p0 E44 n l7_0 l7_1 = G → ¬ l7_0 < 0 → va_P (dC, dI) vwCl [(w0, .inr (9, [.ref tnodes, .ref tpasses, .ref tjars, .ref torders, .ref tfeasts, .ref tway, .int tws, .int tnow, .int tfm, .int tx])), (tpasses, .inr (6, [.int 5, .ref tpassesA, .int tpassesS])), (tpassesA, .inl (kA 0, 100, .inl tpassesF)), (tway, .inr (6, [.int 1, .ref twayA, .int twayS])), (twayA, .inl (kA 0, 6, .inl twayF))] H → va_D A [(w0, .inr (9, [.ref tnodes, .ref tpasses, .ref tjars, .ref torders, .ref tfeasts, .ref tway, .int tws, .int tnow, .int tfm, .int tx])), (tpasses, .inr (6, [.int 5, .ref tpassesA, .int tpassesS])), (tpassesA, .inl (kA 0, 100, .inl tpassesF)), (tway, .inr (6, [.int 1, .ref twayA, .int twayS])), (twayA, .inl (kA 0, 6, .inl twayF))] → va_S A H0 H locs → lv_has ls 4 [(3, .int l7_0), (2, .int l7_1), (0, .ref w0), (1, .int p0)] → W p l e R s m args below meth c H locs cells slots Q (F0 m 7 ls []) := by
  intro n
  induction n with
  | zero =>
    intro l7_0 l7_1 H locs ls hn
    exact absurd hn (Nat.not_lt_zero _)
  | succ n ih =>
    intro l7_0 l7_1 H locs ls hn hG hi7 hP hD hS hl
    have hG : fb_mX9_wayHas_7 tpassesS tpassesF twayS twayF p0 E44 (fl_mX9_wayHas_7 tpassesS tpassesF twayS twayF p0 E44 n) l7_0 l7_1 = G := hG
    unfold fb_mX9_wayHas_7 at hG
    refine lv_iload_n hx hb dX9_wayHas_7 rfl (lv_at hl 0 rfl) ?_
    refine lv_aload_n hx hb dX9_wayHas_8 rfl (lv_at hl 2 rfl) ?_
    refine va_get (D := (dC, dI)) (ci := 9) (v := .ref tway) (C := RX9) (T := TX9) (N := 10) hx hb hts iX9_wayHas_X9 hown hK.1 hP 0 gz0 vcz9 5 (by decide) (kX9_wayHas_2 hts) (fun _ h9 => h9) gz5 dX9_wayHas_9 ?_
    refine va_get (D := (dC, dI)) (ci := 6) (v := .int twayS) (C := RX6) (T := TX6) (N := 3) hx hb hts iX9_wayHas_X6 hown hK.1 hP 3 gz3 vcz6 2 (by decide) (kX9_wayHas_3 hts) (fun _ h9 => h9) gz2 dX9_wayHas_12 ?_
    refine lv_icmp_ge (tgt := 44) hx hb dX9_wayHas_15 (by decide) (fun c_y7_1 => ?_) (fun c_y7_1 => ?_)
    · have hG := zthen hG c_y7_1
      exact k44 l7_0 l7_1 H locs ls hi7 hG (hP.sub [0, 1, 2, 3, 4] rfl) (hD.sub [0, 1, 2, 3, 4] (by decide) rfl) hS (lv_sub hl [0, 1, 2, 3] rfl)
    · have hG := zelse hG c_y7_1
      refine lv_iload_n hx hb dX9_wayHas_18 rfl (lv_at hl 1 rfl) ?_
      refine lv_iload_n hx hb dX9_wayHas_19 rfl (lv_at hl 3 rfl) ?_
      refine lv_icmp_eq (tgt := 44) hx hb dX9_wayHas_20 (by decide) (fun c_y7_2 => ?_) (fun c_y7_2 => ?_)
      · have hG := zthen hG c_y7_2
        exact k44 l7_0 l7_1 H locs ls hi7 hG (hP.sub [0, 1, 2, 3, 4] rfl) (hD.sub [0, 1, 2, 3, 4] (by decide) rfl) hS (lv_sub hl [0, 1, 2, 3] rfl)
      · have hG := zelse hG c_y7_2
        refine lv_aload_n hx hb dX9_wayHas_23 rfl (lv_at hl 2 rfl) ?_
        refine lv_aload_n hx hb dX9_wayHas_24 rfl (lv_at hl 2 rfl) ?_
        refine va_get (D := (dC, dI)) (ci := 9) (v := .ref tway) (C := RX9) (T := TX9) (N := 10) hx hb hts iX9_wayHas_X9 hown hK.1 hP 0 gz0 vcz9 5 (by decide) (kX9_wayHas_2 hts) (fun _ h9 => h9) gz5 dX9_wayHas_25 ?_
        refine lv_iload_n hx hb dX9_wayHas_28 rfl (lv_at hl 0 rfl) ?_
        refine lv_iconst (v := 0) hx hb dX9_wayHas_29 (by decide) ?_
        refine z_i (wr := [(w0, .inr (9, [.ref tnodes, .ref tpasses, .ref tjars, .ref torders, .ref tfeasts, .ref tway, .int tws, .int tnow, .int tfm, .int tx])), (tpasses, .inr (6, [.int 5, .ref tpassesA, .int tpassesS])), (tpassesA, .inl (kA 0, 100, .inl tpassesF))]) (va_runV (As := [.int l7_0, .int 0]) (rest := [.ref w0]) ⟨hx, hb, hml, hown, hts⟩ (mX6_get_6 l dC dI kA _ tway twayA 1 twayS twayF l7_0 0) (cwV 2 hts gX9_wayHas_X6_get rfl rfl rfl ⟨rfl, hdX6_get⟩ ⟨(Nat.le_trans (Nat.le_of_ble_eq_true rfl) hRf), (Nat.le_trans (Nat.le_of_ble_eq_true rfl) hRl)⟩) ⟨zPc.blind, va_recv (q := (RX6, TX6, 3)) hK.1 hP (ci := 6) (q0 := 3) rfl rfl, zPre hK (hP.sub [3, 4] rfl) (hD.sub [3, 4] (by decide) rfl)⟩ rfl rfl hl.1 rfl (lv_room (Nat.le_of_ble_eq_true rfl)) dX9_wayHas_30 ⟨hRc, hRs⟩) hP hD hS hA [3, 4] [0, 1, 2] rfl rfl (by decide) (by decide) (fun ry7_5 uy7_3 H locs hwy7_4 hP hD hS => ?_)
        obtain ⟨ery7_8, hpy7_7⟩ := hwy7_4
        have ery7_8 : ry7_5 = uy7_3 := ery7_8
        subst ery7_8
        have ery7_5 : ry7_5 = fX6_get_6 1 twayF l7_0 0 := hpy7_7
        have hG := zbnd hG ery7_5
        obtain ⟨hP, hD⟩ := z_re (L := [(w0, .inr (9, [.ref tnodes, .ref tpasses, .ref tjars, .ref torders, .ref tfeasts, .ref tway, .int tws, .int tnow, .int tfm, .int tx])), (tpasses, .inr (6, [.int 5, .ref tpassesA, .int tpassesS])), (tpassesA, .inl (kA 0, 100, .inl tpassesF)), (tway, .inr (6, [.int 1, .ref twayA, .int twayS])), (twayA, .inl (kA 0, 6, .inl twayF))]) hP hD
        refine lv_iload_n hx hb dX9_wayHas_33 rfl (lv_at hl 1 rfl) ?_
        refine z_i (wr := [(tway, .inr (6, [.int 1, .ref twayA, .int twayS])), (twayA, .inl (kA 0, 6, .inl twayF))]) (va_runV (As := [.int ry7_5, .int l7_1]) (rest := []) ⟨hx, hb, hml, hown, hts⟩ (mX9_otherEnd l dC dI kA _ w0 tnodes tpasses tpassesA tpassesS tpassesF tjars torders tfeasts tway tws tnow tfm tx ry7_5 l7_1) (cwV 2 hts gX9_wayHas_X9_otherEnd rfl rfl rfl ⟨rfl, hdX9_otherEnd⟩ ⟨(Nat.le_trans (Nat.le_of_ble_eq_true rfl) hRf), (Nat.le_trans (Nat.le_of_ble_eq_true rfl) hRl)⟩) ⟨zPc.blind, va_recv (q := (RX9, TX9, 10)) hK.1 hP (ci := 9) (q0 := 0) rfl rfl, zPre hK (hP.sub [0, 1, 2] rfl) (hD.sub [0, 1, 2] (by decide) rfl)⟩ rfl rfl hl.1 rfl (lv_room (Nat.le_of_ble_eq_true rfl)) dX9_wayHas_34 ⟨hRc, hRs⟩) hP hD hS hA [0, 1, 2] [3, 4] rfl rfl (by decide) (by decide) (fun ry7_12 uy7_10 H locs hwy7_11 hP hD hS => ?_)
        obtain ⟨ery7_15, hpy7_14⟩ := hwy7_11
        have ery7_15 : ry7_12 = uy7_10 := ery7_15
        subst ery7_15
        have ery7_12 : ry7_12 = fX9_otherEnd tpassesS tpassesF ry7_5 l7_1 := hpy7_14
        have hG := zbnd hG ery7_12
        obtain ⟨hP, hD⟩ := z_re (L := [(tway, .inr (6, [.int 1, .ref twayA, .int twayS])), (twayA, .inl (kA 0, 6, .inl twayF)), (w0, .inr (9, [.ref tnodes, .ref tpasses, .ref tjars, .ref torders, .ref tfeasts, .ref tway, .int tws, .int tnow, .int tfm, .int tx])), (tpasses, .inr (6, [.int 5, .ref tpassesA, .int tpassesS])), (tpassesA, .inl (kA 0, 100, .inl tpassesF))]) hP hD
        refine lv_istore_n (lv' := [(2, .int ry7_12), (3, .int l7_0), (0, .ref w0), (1, .int p0)]) hx hb dX9_wayHas_37 rfl hl (by decide) rfl (fun ls hl => ?_)
        obtain ⟨xy7_17, exy7_17⟩ : ∃ y : Int32, y = l7_0 + 1 := ⟨_, rfl⟩
        have hG := zbnd hG exy7_17
        refine lv_iinc (v := xy7_17) (lv' := [(3, .int xy7_17), (2, .int ry7_12), (0, .ref w0), (1, .int p0)]) hx hb dX9_wayHas_38 hl (k := 1) rfl (by rw [exy7_17]; rfl) (by decide) rfl (fun ls hl => ?_)
        refine lv_goto (tgt := 7) hx hb dX9_wayHas_41 (by decide) ?_
        exact ih xy7_17 ry7_12 H locs ls (z_up hn exy7_17 c_y7_1) hG (z_nn exy7_17 c_y7_1 hi7) (hP.sub [2, 3, 4, 0, 1] rfl) (hD.sub [2, 3, 4, 0, 1] (by decide) rfl) hS (lv_sub hl [0, 1, 2, 3] rfl)
set_option maxRecDepth 100000 in
def fX9_wayHas (tpassesS : Int32) (tpassesF : Nat → Int32) (twayS : Int32) (twayF : Nat → Int32) (tws : Int32) (p0 : Int32) : Int32 := fl_mX9_wayHas_7 tpassesS tpassesF twayS twayF p0 (fun (w44_0_0 : Int32) (w44_1_0 : Int32) => if w44_1_0 = p0 then (1) else (0)) (((twayS : Int32).toInt - (0 : Int32).toInt).toNat + 1) 0 tws
set_option maxHeartbeats 4000000 in
set_option maxRecDepth 100000 in
theorem mX9_wayHas (l : Launch) (dC : Nat → ClassId) (dI : Nat → Nat → Nat) (kA : Nat → ClassId) (sz : Nat) (w0 : Nat) (tnodes : Nat) (tpasses : Nat) (tpassesA : Nat) (tpassesS : Int32) (tpassesF : Nat → Int32) (tjars : Nat) (torders : Nat) (tfeasts : Nat) (tway : Nat) (twayA : Nat) (twayS : Int32) (twayF : Nat → Int32) (tws : Int32) (tnow : Int32) (tfm : Int32) (tx : Int32) (p0 : Int32)  : Met l yX9_wayHas wsX9_wayHas ({ frames := 2, cells := 0, slots := 0, locals := 47 }) (zPc dC dI kA sz [.ref w0, .int p0] [(w0, .inr (9, [.ref tnodes, .ref tpasses, .ref tjars, .ref torders, .ref tfeasts, .ref tway, .int tws, .int tnow, .int tfm, .int tx])), (tpasses, .inr (6, [.int 5, .ref tpassesA, .int tpassesS])), (tpassesA, .inl (kA 0, 100, .inl tpassesF)), (tway, .inr (6, [.int 1, .ref twayA, .int twayS])), (twayA, .inl (kA 0, 6, .inl twayF))]) (va_Qi (fun (r : Int32) (u : Int32) => r = u ∧ u = fX9_wayHas tpassesS tpassesF twayS twayF tws p0 ∧ (u = 0 ∨ u = 1)) (zB dC dI (va_A [(w0, .inr (9, [.ref tnodes, .ref tpasses, .ref tjars, .ref torders, .ref tfeasts, .ref tway, .int tws, .int tnow, .int tfm, .int tx])), (tpasses, .inr (6, [.int 5, .ref tpassesA, .int tpassesS])), (tpassesA, .inl (kA 0, 100, .inl tpassesF)), (tway, .inr (6, [.int 1, .ref twayA, .int twayS])), (twayA, .inl (kA 0, 6, .inl twayF))] sz) (fun (u : Int32) => [(w0, .inr (9, [.ref tnodes, .ref tpasses, .ref tjars, .ref torders, .ref tfeasts, .ref tway, .int tws, .int tnow, .int tfm, .int tx])), (tpasses, .inr (6, [.int 5, .ref tpassesA, .int tpassesS])), (tpassesA, .inl (kA 0, 100, .inl tpassesF)), (tway, .inr (6, [.int 1, .ref twayA, .int twayS])), (twayA, .inl (kA 0, 6, .inl twayF))])) (va_A [(w0, .inr (9, [.ref tnodes, .ref tpasses, .ref tjars, .ref torders, .ref tfeasts, .ref tway, .int tws, .int tnow, .int tfm, .int tx])), (tpasses, .inr (6, [.int 5, .ref tpassesA, .int tpassesS])), (tpassesA, .inl (kA 0, 100, .inl tpassesF)), (tway, .inr (6, [.int 1, .ref twayA, .int twayS])), (twayA, .inl (kA 0, 6, .inl twayF))] sz)) 0 0 (va_A [(w0, .inr (9, [.ref tnodes, .ref tpasses, .ref tjars, .ref torders, .ref tfeasts, .ref tway, .int tws, .int tnow, .int tfm, .int tx])), (tpasses, .inr (6, [.int 5, .ref tpassesA, .int tpassesS])), (tpassesA, .inl (kA 0, 100, .inl tpassesF)), (tway, .inr (6, [.int 1, .ref twayA, .int twayS])), (twayA, .inl (kA 0, 6, .inl twayF))] sz) := by
  refine Met.ofW (cc := cX9_wayHas) (maxL := 4) (ret := (some .boolean)) pnX9 rfl ?_
  intro p e s m args below meth c s₁ B hml hv
  obtain ⟨rfl, hsz, hP, hK, hD0⟩ := hv
  have hx := B.exec
  have hb := B.bytes
  have hr := B.returns
  have hts := atoms_spec (ws := wsX9_wayHas) B.pre
  have hown : s.vm.findClass RX9 = some m.cls := findClass_of_methodNamed B.named
  have hlocks := B.notSynchronized
  subst hsz
  have hD := hD0.self (sz := s.heap.size)
  generalize hAe : va_A [(w0, .inr (9, [.ref tnodes, .ref tpasses, .ref tjars, .ref torders, .ref tfeasts, .ref tway, .int tws, .int tnow, .int tfm, .int tx])), (tpasses, .inr (6, [.int 5, .ref tpassesA, .int tpassesS])), (tpassesA, .inl (kA 0, 100, .inl tpassesF)), (tway, .inr (6, [.int 1, .ref twayA, .int twayS])), (twayA, .inl (kA 0, 6, .inl twayF))] s.heap.size = A at hD ⊢
  have hA : ∀ q : Nat, s.heap.size ≤ q → A q := zA_of hAe
  have hS : va_S A s.heap s.heap [] := va_S.rf
  have hP : va_P (dC, dI) vwCl [(w0, .inr (9, [.ref tnodes, .ref tpasses, .ref tjars, .ref torders, .ref tfeasts, .ref tway, .int tws, .int tnow, .int tfm, .int tx])), (tpasses, .inr (6, [.int 5, .ref tpassesA, .int tpassesS])), (tpassesA, .inl (kA 0, 100, .inl tpassesF)), (tway, .inr (6, [.int 1, .ref twayA, .int twayS])), (twayA, .inl (kA 0, 6, .inl twayF))] s.heap := hP
  have hl := lv_entry ([.ref w0, .int p0]) (n := 4) (Nat.le_of_ble_eq_true rfl)
  rw [lg_entry_eq]
  generalize (lg_sl ([.ref w0, .int p0]) ++ List.replicate (4 - (lg_sl ([.ref w0, .int p0])).length) Slot.unset).toArray = ls at hl ⊢
  have hl : lv_has ls 4 [(0, .ref w0), (1, .int p0)] := hl
  obtain ⟨H, hHe⟩ : ∃ H : Heap, H = s.heap := ⟨_, rfl⟩
  obtain ⟨G, hG0⟩ : ∃ G : Int32, fX9_wayHas tpassesS tpassesF twayS twayF tws p0 = G := ⟨_, rfl⟩
  have hG := hG0
  unfold fX9_wayHas at hG
  refine lv_aload_n hx hb dX9_wayHas_0 rfl (lv_at hl 0 rfl) ?_
  refine va_get (D := (dC, dI)) (ci := 9) (v := .int tws) (C := RX9) (T := TX9) (N := 10) hx hb hts iX9_wayHas_X9 hown hK.1 hP 0 gz0 vcz9 6 (by decide) (kX9_wayHas_1 hts) (fun _ h9 => h9) gz6 dX9_wayHas_1 ?_
  refine lv_istore_n (lv' := [(2, .int tws), (0, .ref w0), (1, .int p0)]) hx hb dX9_wayHas_4 rfl hl (by decide) rfl (fun ls hl => ?_)
  refine lv_iconst (v := 0) hx hb dX9_wayHas_5 (by decide) ?_
  refine lv_istore_n (lv' := [(3, .int 0), (2, .int tws), (0, .ref w0), (1, .int p0)]) hx hb dX9_wayHas_6 rfl hl (by decide) rfl (fun ls hl => ?_)
  refine lp_mX9_wayHas_7 hx hb hml hts hown hK hA (Nat.le_of_ble_eq_true rfl) (Nat.le_of_ble_eq_true rfl) (Nat.le_of_ble_eq_true rfl) (Nat.le_of_ble_eq_true rfl) w0 tnodes tpasses tpassesA tpassesS tpassesF tjars torders tfeasts tway twayA twayS twayF tws tnow tfm tx p0  (fun w44_0_0 w44_1_0 H locs ls hx44_3_nlt00_0 hG hP hD hS hl => ?_) _ 0 tws _ _ ls (Nat.lt_succ_self _) hG (by decide) hP hD hS (lv_sub hl [0, 1, 2, 3] rfl)
  obtain ⟨hP, hD⟩ := z_re (L := [(w0, .inr (9, [.ref tnodes, .ref tpasses, .ref tjars, .ref torders, .ref tfeasts, .ref tway, .int tws, .int tnow, .int tfm, .int tx])), (tpasses, .inr (6, [.int 5, .ref tpassesA, .int tpassesS])), (tpassesA, .inl (kA 0, 100, .inl tpassesF)), (tway, .inr (6, [.int 1, .ref twayA, .int twayS])), (twayA, .inl (kA 0, 6, .inl twayF))]) hP hD
  refine lv_iload_n hx hb dX9_wayHas_44 rfl (lv_at hl 1 rfl) ?_
  refine lv_iload_n hx hb dX9_wayHas_45 rfl (lv_at hl 3 rfl) ?_
  refine lv_icmp_ne (tgt := 53) hx hb dX9_wayHas_46 (by decide) (fun c_1 => ?_) (fun c_1 => ?_)
  · have hG := zelse hG c_1
    refine lv_iconst (v := 0) hx hb dX9_wayHas_53 (by decide) ?_
    obtain ⟨hP9, hD9⟩ := z_sb (L' := [(w0, .inr (9, [.ref tnodes, .ref tpasses, .ref tjars, .ref torders, .ref tfeasts, .ref tway, .int tws, .int tnow, .int tfm, .int tx])), (tpasses, .inr (6, [.int 5, .ref tpassesA, .int tpassesS])), (tpassesA, .inl (kA 0, 100, .inl tpassesF)), (tway, .inr (6, [.int 1, .ref twayA, .int twayS])), (twayA, .inl (kA 0, 6, .inl twayF))]) hP hD [0, 1, 2, 3, 4] (by decide) rfl
    refine W.widen (k := 0) (n := 0) (Nat.le_of_ble_eq_true rfl) (Nat.le_of_ble_eq_true rfl) ?_
    exact W.zret (v := 0) hx hb hr rfl (fun t ht hW => ⟨⟨0, (0), rfl, ⟨rfl, (hG.trans hG0.symm), (Or.inl rfl)⟩, by rw [ht]; exact hP9, hD9⟩, hS.F ht⟩) hS.2.2 dX9_wayHas_54
  · have hG := zthen hG c_1
    refine lv_iconst (v := 1) hx hb dX9_wayHas_49 (by decide) ?_
    refine lv_goto (tgt := 54) hx hb dX9_wayHas_50 (by decide) ?_
    obtain ⟨hP9, hD9⟩ := z_sb (L' := [(w0, .inr (9, [.ref tnodes, .ref tpasses, .ref tjars, .ref torders, .ref tfeasts, .ref tway, .int tws, .int tnow, .int tfm, .int tx])), (tpasses, .inr (6, [.int 5, .ref tpassesA, .int tpassesS])), (tpassesA, .inl (kA 0, 100, .inl tpassesF)), (tway, .inr (6, [.int 1, .ref twayA, .int twayS])), (twayA, .inl (kA 0, 6, .inl twayF))]) hP hD [0, 1, 2, 3, 4] (by decide) rfl
    refine W.widen (k := 0) (n := 0) (Nat.le_of_ble_eq_true rfl) (Nat.le_of_ble_eq_true rfl) ?_
    exact W.zret (v := 1) hx hb hr rfl (fun t ht hW => ⟨⟨1, (1), rfl, ⟨rfl, (hG.trans hG0.symm), (Or.inr rfl)⟩, by rw [ht]; exact hP9, hD9⟩, hS.F ht⟩) hS.2.2 dX9_wayHas_54
set_option maxRecDepth 100000 in
def fX9_nodeOf (tjarsS : Int32) (tjarsF : Nat → Int32) (p0 : Int32) : Int32 := if (hs p0 tjarsS) = 0 then ((-1)) else (bnd (fX6_get_144 9 tjarsF p0 1) (fun (r8 : Int32) => if 12 ≤ r8 then ((-1)) else (r8)))
set_option maxHeartbeats 4000000 in
set_option maxRecDepth 100000 in
theorem mX9_nodeOf (l : Launch) (dC : Nat → ClassId) (dI : Nat → Nat → Nat) (kA : Nat → ClassId) (sz : Nat) (w0 : Nat) (tnodes : Nat) (tpasses : Nat) (tjars : Nat) (tjarsA : Nat) (tjarsS : Int32) (tjarsF : Nat → Int32) (torders : Nat) (tfeasts : Nat) (tway : Nat) (tws : Int32) (tnow : Int32) (tfm : Int32) (tx : Int32) (p0 : Int32)  : Met l yX9_nodeOf wsX9_nodeOf ({ frames := 1, cells := 0, slots := 0, locals := 23 }) (zPc dC dI kA sz [.ref w0, .int p0] [(w0, .inr (9, [.ref tnodes, .ref tpasses, .ref tjars, .ref torders, .ref tfeasts, .ref tway, .int tws, .int tnow, .int tfm, .int tx])), (tjars, .inr (6, [.int 9, .ref tjarsA, .int tjarsS])), (tjarsA, .inl (kA 0, 144, .inl tjarsF))]) (va_Qi (fun (r : Int32) (u : Int32) => r = u ∧ u = fX9_nodeOf tjarsS tjarsF p0) (zB dC dI (va_A [(w0, .inr (9, [.ref tnodes, .ref tpasses, .ref tjars, .ref torders, .ref tfeasts, .ref tway, .int tws, .int tnow, .int tfm, .int tx])), (tjars, .inr (6, [.int 9, .ref tjarsA, .int tjarsS])), (tjarsA, .inl (kA 0, 144, .inl tjarsF))] sz) (fun (u : Int32) => [(w0, .inr (9, [.ref tnodes, .ref tpasses, .ref tjars, .ref torders, .ref tfeasts, .ref tway, .int tws, .int tnow, .int tfm, .int tx])), (tjars, .inr (6, [.int 9, .ref tjarsA, .int tjarsS])), (tjarsA, .inl (kA 0, 144, .inl tjarsF))])) (va_A [(w0, .inr (9, [.ref tnodes, .ref tpasses, .ref tjars, .ref torders, .ref tfeasts, .ref tway, .int tws, .int tnow, .int tfm, .int tx])), (tjars, .inr (6, [.int 9, .ref tjarsA, .int tjarsS])), (tjarsA, .inl (kA 0, 144, .inl tjarsF))] sz)) 0 0 (va_A [(w0, .inr (9, [.ref tnodes, .ref tpasses, .ref tjars, .ref torders, .ref tfeasts, .ref tway, .int tws, .int tnow, .int tfm, .int tx])), (tjars, .inr (6, [.int 9, .ref tjarsA, .int tjarsS])), (tjarsA, .inl (kA 0, 144, .inl tjarsF))] sz) := by
  refine Met.ofW (cc := cX9_nodeOf) (maxL := 3) (ret := (some .int)) pnX9 rfl ?_
  intro p e s m args below meth c s₁ B hml hv
  obtain ⟨rfl, hsz, hP, hK, hD0⟩ := hv
  have hx := B.exec
  have hb := B.bytes
  have hr := B.returns
  have hts := atoms_spec (ws := wsX9_nodeOf) B.pre
  have hown : s.vm.findClass RX9 = some m.cls := findClass_of_methodNamed B.named
  have hlocks := B.notSynchronized
  subst hsz
  have hD := hD0.self (sz := s.heap.size)
  generalize hAe : va_A [(w0, .inr (9, [.ref tnodes, .ref tpasses, .ref tjars, .ref torders, .ref tfeasts, .ref tway, .int tws, .int tnow, .int tfm, .int tx])), (tjars, .inr (6, [.int 9, .ref tjarsA, .int tjarsS])), (tjarsA, .inl (kA 0, 144, .inl tjarsF))] s.heap.size = A at hD ⊢
  have hA : ∀ q : Nat, s.heap.size ≤ q → A q := zA_of hAe
  have hS : va_S A s.heap s.heap [] := va_S.rf
  have hP : va_P (dC, dI) vwCl [(w0, .inr (9, [.ref tnodes, .ref tpasses, .ref tjars, .ref torders, .ref tfeasts, .ref tway, .int tws, .int tnow, .int tfm, .int tx])), (tjars, .inr (6, [.int 9, .ref tjarsA, .int tjarsS])), (tjarsA, .inl (kA 0, 144, .inl tjarsF))] s.heap := hP
  have hl := lv_entry ([.ref w0, .int p0]) (n := 3) (Nat.le_of_ble_eq_true rfl)
  rw [lg_entry_eq]
  generalize (lg_sl ([.ref w0, .int p0]) ++ List.replicate (3 - (lg_sl ([.ref w0, .int p0])).length) Slot.unset).toArray = ls at hl ⊢
  have hl : lv_has ls 3 [(0, .ref w0), (1, .int p0)] := hl
  obtain ⟨G, hG0⟩ : ∃ G : Int32, fX9_nodeOf tjarsS tjarsF p0 = G := ⟨_, rfl⟩
  have hG := hG0
  unfold fX9_nodeOf at hG
  refine lv_aload_n hx hb dX9_nodeOf_0 rfl (lv_at hl 0 rfl) ?_
  refine va_get (D := (dC, dI)) (ci := 9) (v := .ref tjars) (C := RX9) (T := TX9) (N := 10) hx hb hts iX9_nodeOf_X9 hown hK.1 hP 0 gz0 vcz9 2 (by decide) (kX9_nodeOf_1 hts) (fun _ h9 => h9) gz2 dX9_nodeOf_1 ?_
  refine lv_iload_n hx hb dX9_nodeOf_4 rfl (lv_at hl 1 rfl) ?_
  refine z_i (wr := [(w0, .inr (9, [.ref tnodes, .ref tpasses, .ref tjars, .ref torders, .ref tfeasts, .ref tway, .int tws, .int tnow, .int tfm, .int tx])), (tjarsA, .inl (kA 0, 144, .inl tjarsF))]) (va_runV (As := [.int p0]) (rest := []) ⟨hx, hb, hml, hown, hts⟩ (mX6_has l dC dI kA _ tjars tjarsA 9 tjarsS p0) (cwV 1 hts gX9_nodeOf_X6_has rfl rfl rfl ⟨rfl, hdX6_has⟩ ⟨(Nat.le_of_ble_eq_true rfl), (Nat.le_of_ble_eq_true rfl)⟩) ⟨zPc.blind, va_recv (q := (RX6, TX6, 3)) hK.1 hP (ci := 6) (q0 := 1) rfl rfl, zPre hK (hP.sub [1] rfl) (hD.sub [1] (by decide) rfl)⟩ rfl rfl hl.1 rfl (lv_room (Nat.le_of_ble_eq_true rfl)) dX9_nodeOf_5 ⟨(Nat.le_of_ble_eq_true rfl), (Nat.le_of_ble_eq_true rfl)⟩) hP hD hS hA [1] [0, 2] rfl rfl (by decide) (by decide) (fun r3 u1 H locs hw2 hP hD hS => ?_)
  obtain rfl := hw2
  obtain ⟨hP, hD⟩ := z_re (L := [(w0, .inr (9, [.ref tnodes, .ref tpasses, .ref tjars, .ref torders, .ref tfeasts, .ref tway, .int tws, .int tnow, .int tfm, .int tx])), (tjarsA, .inl (kA 0, 144, .inl tjarsF)), (tjars, .inr (6, [.int 9, .ref tjarsA, .int tjarsS]))]) hP hD
  refine lv_if_eq (tgt := 23) hx hb dX9_nodeOf_8 (by decide) (fun c_4 => ?_) (fun c_4 => ?_)
  · have hG := zthen hG c_4
    refine lv_bipush (v := 13) hx hb dX9_nodeOf_23 (by decide) ?_
    refine lv_istore_n (lv' := [(2, .int 13), (0, .ref w0), (1, .int p0)]) hx hb dX9_nodeOf_25 rfl hl (by decide) rfl (fun ls hl => ?_)
    refine lv_iload_n hx hb dX9_nodeOf_26 rfl (lv_at hl 0 rfl) ?_
    refine lv_bipush (v := 12) hx hb dX9_nodeOf_27 (by decide) ?_
    refine lv_icmp_ge (tgt := 36) hx hb dX9_nodeOf_29 (by decide) (fun _ => ?_) (fun c_5 => absurd (by decide) c_5)
    refine lv_iconst (v := (-1)) hx hb dX9_nodeOf_36 (by decide) ?_
    obtain ⟨hP9, hD9⟩ := z_sb (L' := [(w0, .inr (9, [.ref tnodes, .ref tpasses, .ref tjars, .ref torders, .ref tfeasts, .ref tway, .int tws, .int tnow, .int tfm, .int tx])), (tjars, .inr (6, [.int 9, .ref tjarsA, .int tjarsS])), (tjarsA, .inl (kA 0, 144, .inl tjarsF))]) hP hD [0, 2, 1] (by decide) rfl
    refine W.widen (k := 0) (n := 0) (Nat.le_of_ble_eq_true rfl) (Nat.le_of_ble_eq_true rfl) ?_
    exact W.iret (v := (-1)) hx hb hr (fun t ht hW => ⟨⟨(-1), ((-1)), rfl, ⟨rfl, (hG.trans hG0.symm)⟩, by rw [ht]; exact hP9, hD9⟩, hS.F ht⟩) hS.2.2 dX9_nodeOf_37
  · have hG := zelse hG c_4
    have c_4a := hs_ne c_4
    have c_4b := c_4a.2
    have c_4a := c_4a.1
    refine lv_aload_n hx hb dX9_nodeOf_11 rfl (lv_at hl 0 rfl) ?_
    refine va_get (D := (dC, dI)) (ci := 9) (v := .ref tjars) (C := RX9) (T := TX9) (N := 10) hx hb hts iX9_nodeOf_X9 hown hK.1 hP 0 gz0 vcz9 2 (by decide) (kX9_nodeOf_1 hts) (fun _ h9 => h9) gz2 dX9_nodeOf_12 ?_
    refine lv_iload_n hx hb dX9_nodeOf_15 rfl (lv_at hl 1 rfl) ?_
    refine lv_iconst (v := 1) hx hb dX9_nodeOf_16 (by decide) ?_
    refine z_i (wr := [(w0, .inr (9, [.ref tnodes, .ref tpasses, .ref tjars, .ref torders, .ref tfeasts, .ref tway, .int tws, .int tnow, .int tfm, .int tx]))]) (va_runV (As := [.int p0, .int 1]) (rest := []) ⟨hx, hb, hml, hown, hts⟩ (mX6_get_144 l dC dI kA _ tjars tjarsA 9 tjarsS tjarsF p0 1) (cwV 2 hts gX9_nodeOf_X6_get rfl rfl rfl ⟨rfl, hdX6_get⟩ ⟨(Nat.le_of_ble_eq_true rfl), (Nat.le_of_ble_eq_true rfl)⟩) ⟨zPc.blind, va_recv (q := (RX6, TX6, 3)) hK.1 hP (ci := 6) (q0 := 2) rfl rfl, zPre hK (hP.sub [2, 1] rfl) (hD.sub [2, 1] (by decide) rfl)⟩ rfl rfl hl.1 rfl (lv_room (Nat.le_of_ble_eq_true rfl)) dX9_nodeOf_17 ⟨(Nat.le_of_ble_eq_true rfl), (Nat.le_of_ble_eq_true rfl)⟩) hP hD hS hA [2, 1] [0] rfl rfl (by decide) (by decide) (fun r8 u6 H locs hw7 hP hD hS => ?_)
    obtain ⟨er11, hp10⟩ := hw7
    have er11 : r8 = u6 := er11
    subst er11
    have er8 : r8 = fX6_get_144 9 tjarsF p0 1 := hp10
    have hG := zbnd hG er8
    obtain ⟨hP, hD⟩ := z_re (L := [(w0, .inr (9, [.ref tnodes, .ref tpasses, .ref tjars, .ref torders, .ref tfeasts, .ref tway, .int tws, .int tnow, .int tfm, .int tx])), (tjars, .inr (6, [.int 9, .ref tjarsA, .int tjarsS])), (tjarsA, .inl (kA 0, 144, .inl tjarsF))]) hP hD
    refine lv_goto (tgt := 25) hx hb dX9_nodeOf_20 (by decide) ?_
    refine lv_istore_n (lv' := [(2, .int r8), (0, .ref w0), (1, .int p0)]) hx hb dX9_nodeOf_25 rfl hl (by decide) rfl (fun ls hl => ?_)
    refine lv_iload_n hx hb dX9_nodeOf_26 rfl (lv_at hl 0 rfl) ?_
    refine lv_bipush (v := 12) hx hb dX9_nodeOf_27 (by decide) ?_
    refine lv_icmp_ge (tgt := 36) hx hb dX9_nodeOf_29 (by decide) (fun c_13 => ?_) (fun c_13 => ?_)
    · have hG := zthen hG c_13
      refine lv_iconst (v := (-1)) hx hb dX9_nodeOf_36 (by decide) ?_
      obtain ⟨hP9, hD9⟩ := z_sb (L' := [(w0, .inr (9, [.ref tnodes, .ref tpasses, .ref tjars, .ref torders, .ref tfeasts, .ref tway, .int tws, .int tnow, .int tfm, .int tx])), (tjars, .inr (6, [.int 9, .ref tjarsA, .int tjarsS])), (tjarsA, .inl (kA 0, 144, .inl tjarsF))]) hP hD [0, 1, 2] (by decide) rfl
      refine W.widen (k := 0) (n := 0) (Nat.le_of_ble_eq_true rfl) (Nat.le_of_ble_eq_true rfl) ?_
      exact W.iret (v := (-1)) hx hb hr (fun t ht hW => ⟨⟨(-1), ((-1)), rfl, ⟨rfl, (hG.trans hG0.symm)⟩, by rw [ht]; exact hP9, hD9⟩, hS.F ht⟩) hS.2.2 dX9_nodeOf_37
    · have hG := zelse hG c_13
      refine lv_iload_n hx hb dX9_nodeOf_32 rfl (lv_at hl 0 rfl) ?_
      refine lv_goto (tgt := 37) hx hb dX9_nodeOf_33 (by decide) ?_
      obtain ⟨hP9, hD9⟩ := z_sb (L' := [(w0, .inr (9, [.ref tnodes, .ref tpasses, .ref tjars, .ref torders, .ref tfeasts, .ref tway, .int tws, .int tnow, .int tfm, .int tx])), (tjars, .inr (6, [.int 9, .ref tjarsA, .int tjarsS])), (tjarsA, .inl (kA 0, 144, .inl tjarsF))]) hP hD [0, 1, 2] (by decide) rfl
      refine W.widen (k := 0) (n := 0) (Nat.le_of_ble_eq_true rfl) (Nat.le_of_ble_eq_true rfl) ?_
      exact W.iret (v := r8) hx hb hr (fun t ht hW => ⟨⟨r8, (r8), rfl, ⟨rfl, (hG.trans hG0.symm)⟩, by rw [ht]; exact hP9, hD9⟩, hS.F ht⟩) hS.2.2 dX9_nodeOf_37
set_option maxRecDepth 100000 in
def fX9_standAt (tjarsF : Nat → Int32) (p0 : Int32) (p1 : Int32) : (Nat → Int32) := bnd (fX6_put_144 9 tjarsF p0 1 p1) (fun (o4 : Nat → Int32) => bnd (fX6_put_144 9 o4 p0 2 (-1)) (fun (o10 : Nat → Int32) => bnd (fX6_put_144 9 o10 p0 3 0) (fun (o16 : Nat → Int32) => bnd (fX6_put_144 9 o16 p0 4 (-1)) (fun (o22 : Nat → Int32) => o22))))
set_option maxHeartbeats 4000000 in
set_option maxRecDepth 100000 in
theorem mX9_standAt (l : Launch) (dC : Nat → ClassId) (dI : Nat → Nat → Nat) (kA : Nat → ClassId) (sz : Nat) (w0 : Nat) (tnodes : Nat) (tpasses : Nat) (tjars : Nat) (tjarsA : Nat) (tjarsS : Int32) (tjarsF : Nat → Int32) (torders : Nat) (tfeasts : Nat) (tway : Nat) (tws : Int32) (tnow : Int32) (tfm : Int32) (tx : Int32) (p0 : Int32) (p1 : Int32)  : Met l yX9_standAt wsX9_standAt ({ frames := 1, cells := 0, slots := 0, locals := 24 }) (zPc dC dI kA sz [.ref w0, .int p0, .int p1] [(w0, .inr (9, [.ref tnodes, .ref tpasses, .ref tjars, .ref torders, .ref tfeasts, .ref tway, .int tws, .int tnow, .int tfm, .int tx])), (tjars, .inr (6, [.int 9, .ref tjarsA, .int tjarsS])), (tjarsA, .inl (kA 0, 144, .inl tjarsF))]) (va_Qv (fun (u : (Nat → Int32)) => u = fX9_standAt tjarsF p0 p1) (zB dC dI (va_A [(w0, .inr (9, [.ref tnodes, .ref tpasses, .ref tjars, .ref torders, .ref tfeasts, .ref tway, .int tws, .int tnow, .int tfm, .int tx])), (tjars, .inr (6, [.int 9, .ref tjarsA, .int tjarsS])), (tjarsA, .inl (kA 0, 144, .inl tjarsF))] sz) (fun (u : (Nat → Int32)) => [(w0, .inr (9, [.ref tnodes, .ref tpasses, .ref tjars, .ref torders, .ref tfeasts, .ref tway, .int tws, .int tnow, .int tfm, .int tx])), (tjars, .inr (6, [.int 9, .ref tjarsA, .int tjarsS])), (tjarsA, .inl (kA 0, 144, .inl u))])) (va_A [(w0, .inr (9, [.ref tnodes, .ref tpasses, .ref tjars, .ref torders, .ref tfeasts, .ref tway, .int tws, .int tnow, .int tfm, .int tx])), (tjars, .inr (6, [.int 9, .ref tjarsA, .int tjarsS])), (tjarsA, .inl (kA 0, 144, .inl tjarsF))] sz)) 0 0 (va_A [(w0, .inr (9, [.ref tnodes, .ref tpasses, .ref tjars, .ref torders, .ref tfeasts, .ref tway, .int tws, .int tnow, .int tfm, .int tx])), (tjars, .inr (6, [.int 9, .ref tjarsA, .int tjarsS])), (tjarsA, .inl (kA 0, 144, .inl tjarsF))] sz) := by
  refine Met.ofW (cc := cX9_standAt) (maxL := 3) (ret := none) pnX9 rfl ?_
  intro p e s m args below meth c s₁ B hml hv
  obtain ⟨rfl, hsz, hP, hK, hD0⟩ := hv
  have hx := B.exec
  have hb := B.bytes
  have hr := B.returns
  have hts := atoms_spec (ws := wsX9_standAt) B.pre
  have hown : s.vm.findClass RX9 = some m.cls := findClass_of_methodNamed B.named
  have hlocks := B.notSynchronized
  subst hsz
  have hD := hD0.self (sz := s.heap.size)
  generalize hAe : va_A [(w0, .inr (9, [.ref tnodes, .ref tpasses, .ref tjars, .ref torders, .ref tfeasts, .ref tway, .int tws, .int tnow, .int tfm, .int tx])), (tjars, .inr (6, [.int 9, .ref tjarsA, .int tjarsS])), (tjarsA, .inl (kA 0, 144, .inl tjarsF))] s.heap.size = A at hD ⊢
  have hA : ∀ q : Nat, s.heap.size ≤ q → A q := zA_of hAe
  have hS : va_S A s.heap s.heap [] := va_S.rf
  have hP : va_P (dC, dI) vwCl [(w0, .inr (9, [.ref tnodes, .ref tpasses, .ref tjars, .ref torders, .ref tfeasts, .ref tway, .int tws, .int tnow, .int tfm, .int tx])), (tjars, .inr (6, [.int 9, .ref tjarsA, .int tjarsS])), (tjarsA, .inl (kA 0, 144, .inl tjarsF))] s.heap := hP
  have hl := lv_entry ([.ref w0, .int p0, .int p1]) (n := 3) (Nat.le_of_ble_eq_true rfl)
  rw [lg_entry_eq]
  generalize (lg_sl ([.ref w0, .int p0, .int p1]) ++ List.replicate (3 - (lg_sl ([.ref w0, .int p0, .int p1])).length) Slot.unset).toArray = ls at hl ⊢
  have hl : lv_has ls 3 [(0, .ref w0), (1, .int p0), (2, .int p1)] := hl
  obtain ⟨G, hG0⟩ : ∃ G : (Nat → Int32), fX9_standAt tjarsF p0 p1 = G := ⟨_, rfl⟩
  have hG := hG0
  unfold fX9_standAt at hG
  refine lv_aload_n hx hb dX9_standAt_0 rfl (lv_at hl 0 rfl) ?_
  refine va_get (D := (dC, dI)) (ci := 9) (v := .ref tjars) (C := RX9) (T := TX9) (N := 10) hx hb hts iX9_standAt_X9 hown hK.1 hP 0 gz0 vcz9 2 (by decide) (kX9_standAt_1 hts) (fun _ h9 => h9) gz2 dX9_standAt_1 ?_
  refine lv_iload_n hx hb dX9_standAt_4 rfl (lv_at hl 1 rfl) ?_
  refine lv_iconst (v := 1) hx hb dX9_standAt_5 (by decide) ?_
  refine lv_iload_n hx hb dX9_standAt_6 rfl (lv_at hl 2 rfl) ?_
  refine z_v (wr := [(w0, .inr (9, [.ref tnodes, .ref tpasses, .ref tjars, .ref torders, .ref tfeasts, .ref tway, .int tws, .int tnow, .int tfm, .int tx]))]) (va_runV (As := [.int p0, .int 1, .int p1]) (rest := []) ⟨hx, hb, hml, hown, hts⟩ (mX6_put_144 l dC dI kA _ tjars tjarsA 9 tjarsS tjarsF p0 1 p1) (cwV 3 hts gX9_standAt_X6_put rfl rfl rfl ⟨rfl, hdX6_put⟩ ⟨(Nat.le_of_ble_eq_true rfl), (Nat.le_of_ble_eq_true rfl)⟩) ⟨zPc.blind, va_recv (q := (RX6, TX6, 3)) hK.1 hP (ci := 6) (q0 := 1) rfl rfl, zPre hK (hP.sub [1, 2] rfl) (hD.sub [1, 2] (by decide) rfl)⟩ rfl rfl hl.1 rfl (lv_room (Nat.le_of_ble_eq_true rfl)) dX9_standAt_7 ⟨(Nat.le_of_ble_eq_true rfl), (Nat.le_of_ble_eq_true rfl)⟩) hP hD hS hA [1, 2] [0] rfl rfl (by decide) (by decide) (fun u1 H locs hw2 hP hD hS => ?_)
  obtain ⟨o4, rfl⟩ : ∃ z, z = u1 := ⟨_, rfl⟩
  have hp5 := hw2
  have eo4 : o4 = fX6_put_144 9 tjarsF p0 1 p1 := hp5
  have hG := zbnd hG eo4
  obtain ⟨hP, hD⟩ := z_re (L := [(w0, .inr (9, [.ref tnodes, .ref tpasses, .ref tjars, .ref torders, .ref tfeasts, .ref tway, .int tws, .int tnow, .int tfm, .int tx])), (tjars, .inr (6, [.int 9, .ref tjarsA, .int tjarsS])), (tjarsA, .inl (kA 0, 144, .inl o4))]) hP hD
  refine lv_aload_n hx hb dX9_standAt_10 rfl (lv_at hl 0 rfl) ?_
  refine va_get (D := (dC, dI)) (ci := 9) (v := .ref tjars) (C := RX9) (T := TX9) (N := 10) hx hb hts iX9_standAt_X9 hown hK.1 hP 0 gz0 vcz9 2 (by decide) (kX9_standAt_1 hts) (fun _ h9 => h9) gz2 dX9_standAt_11 ?_
  refine lv_iload_n hx hb dX9_standAt_14 rfl (lv_at hl 1 rfl) ?_
  refine lv_iconst (v := 2) hx hb dX9_standAt_15 (by decide) ?_
  refine lv_iconst (v := (-1)) hx hb dX9_standAt_16 (by decide) ?_
  refine z_v (wr := [(w0, .inr (9, [.ref tnodes, .ref tpasses, .ref tjars, .ref torders, .ref tfeasts, .ref tway, .int tws, .int tnow, .int tfm, .int tx]))]) (va_runV (As := [.int p0, .int 2, .int (-1)]) (rest := []) ⟨hx, hb, hml, hown, hts⟩ (mX6_put_144 l dC dI kA _ tjars tjarsA 9 tjarsS o4 p0 2 (-1)) (cwV 3 hts gX9_standAt_X6_put rfl rfl rfl ⟨rfl, hdX6_put⟩ ⟨(Nat.le_of_ble_eq_true rfl), (Nat.le_of_ble_eq_true rfl)⟩) ⟨zPc.blind, va_recv (q := (RX6, TX6, 3)) hK.1 hP (ci := 6) (q0 := 1) rfl rfl, zPre hK (hP.sub [1, 2] rfl) (hD.sub [1, 2] (by decide) rfl)⟩ rfl rfl hl.1 rfl (lv_room (Nat.le_of_ble_eq_true rfl)) dX9_standAt_17 ⟨(Nat.le_of_ble_eq_true rfl), (Nat.le_of_ble_eq_true rfl)⟩) hP hD hS hA [1, 2] [0] rfl rfl (by decide) (by decide) (fun u7 H locs hw8 hP hD hS => ?_)
  obtain ⟨o10, rfl⟩ : ∃ z, z = u7 := ⟨_, rfl⟩
  have hp11 := hw8
  have eo10 : o10 = fX6_put_144 9 o4 p0 2 (-1) := hp11
  have hG := zbnd hG eo10
  obtain ⟨hP, hD⟩ := z_re (L := [(w0, .inr (9, [.ref tnodes, .ref tpasses, .ref tjars, .ref torders, .ref tfeasts, .ref tway, .int tws, .int tnow, .int tfm, .int tx])), (tjars, .inr (6, [.int 9, .ref tjarsA, .int tjarsS])), (tjarsA, .inl (kA 0, 144, .inl o10))]) hP hD
  refine lv_aload_n hx hb dX9_standAt_20 rfl (lv_at hl 0 rfl) ?_
  refine va_get (D := (dC, dI)) (ci := 9) (v := .ref tjars) (C := RX9) (T := TX9) (N := 10) hx hb hts iX9_standAt_X9 hown hK.1 hP 0 gz0 vcz9 2 (by decide) (kX9_standAt_1 hts) (fun _ h9 => h9) gz2 dX9_standAt_21 ?_
  refine lv_iload_n hx hb dX9_standAt_24 rfl (lv_at hl 1 rfl) ?_
  refine lv_iconst (v := 3) hx hb dX9_standAt_25 (by decide) ?_
  refine lv_iconst (v := 0) hx hb dX9_standAt_26 (by decide) ?_
  refine z_v (wr := [(w0, .inr (9, [.ref tnodes, .ref tpasses, .ref tjars, .ref torders, .ref tfeasts, .ref tway, .int tws, .int tnow, .int tfm, .int tx]))]) (va_runV (As := [.int p0, .int 3, .int 0]) (rest := []) ⟨hx, hb, hml, hown, hts⟩ (mX6_put_144 l dC dI kA _ tjars tjarsA 9 tjarsS o10 p0 3 0) (cwV 3 hts gX9_standAt_X6_put rfl rfl rfl ⟨rfl, hdX6_put⟩ ⟨(Nat.le_of_ble_eq_true rfl), (Nat.le_of_ble_eq_true rfl)⟩) ⟨zPc.blind, va_recv (q := (RX6, TX6, 3)) hK.1 hP (ci := 6) (q0 := 1) rfl rfl, zPre hK (hP.sub [1, 2] rfl) (hD.sub [1, 2] (by decide) rfl)⟩ rfl rfl hl.1 rfl (lv_room (Nat.le_of_ble_eq_true rfl)) dX9_standAt_27 ⟨(Nat.le_of_ble_eq_true rfl), (Nat.le_of_ble_eq_true rfl)⟩) hP hD hS hA [1, 2] [0] rfl rfl (by decide) (by decide) (fun u13 H locs hw14 hP hD hS => ?_)
  obtain ⟨o16, rfl⟩ : ∃ z, z = u13 := ⟨_, rfl⟩
  have hp17 := hw14
  have eo16 : o16 = fX6_put_144 9 o10 p0 3 0 := hp17
  have hG := zbnd hG eo16
  obtain ⟨hP, hD⟩ := z_re (L := [(w0, .inr (9, [.ref tnodes, .ref tpasses, .ref tjars, .ref torders, .ref tfeasts, .ref tway, .int tws, .int tnow, .int tfm, .int tx])), (tjars, .inr (6, [.int 9, .ref tjarsA, .int tjarsS])), (tjarsA, .inl (kA 0, 144, .inl o16))]) hP hD
  refine lv_aload_n hx hb dX9_standAt_30 rfl (lv_at hl 0 rfl) ?_
  refine va_get (D := (dC, dI)) (ci := 9) (v := .ref tjars) (C := RX9) (T := TX9) (N := 10) hx hb hts iX9_standAt_X9 hown hK.1 hP 0 gz0 vcz9 2 (by decide) (kX9_standAt_1 hts) (fun _ h9 => h9) gz2 dX9_standAt_31 ?_
  refine lv_iload_n hx hb dX9_standAt_34 rfl (lv_at hl 1 rfl) ?_
  refine lv_iconst (v := 4) hx hb dX9_standAt_35 (by decide) ?_
  refine lv_iconst (v := (-1)) hx hb dX9_standAt_36 (by decide) ?_
  refine z_v (wr := [(w0, .inr (9, [.ref tnodes, .ref tpasses, .ref tjars, .ref torders, .ref tfeasts, .ref tway, .int tws, .int tnow, .int tfm, .int tx]))]) (va_runV (As := [.int p0, .int 4, .int (-1)]) (rest := []) ⟨hx, hb, hml, hown, hts⟩ (mX6_put_144 l dC dI kA _ tjars tjarsA 9 tjarsS o16 p0 4 (-1)) (cwV 3 hts gX9_standAt_X6_put rfl rfl rfl ⟨rfl, hdX6_put⟩ ⟨(Nat.le_of_ble_eq_true rfl), (Nat.le_of_ble_eq_true rfl)⟩) ⟨zPc.blind, va_recv (q := (RX6, TX6, 3)) hK.1 hP (ci := 6) (q0 := 1) rfl rfl, zPre hK (hP.sub [1, 2] rfl) (hD.sub [1, 2] (by decide) rfl)⟩ rfl rfl hl.1 rfl (lv_room (Nat.le_of_ble_eq_true rfl)) dX9_standAt_37 ⟨(Nat.le_of_ble_eq_true rfl), (Nat.le_of_ble_eq_true rfl)⟩) hP hD hS hA [1, 2] [0] rfl rfl (by decide) (by decide) (fun u19 H locs hw20 hP hD hS => ?_)
  obtain ⟨o22, rfl⟩ : ∃ z, z = u19 := ⟨_, rfl⟩
  have hp23 := hw20
  have eo22 : o22 = fX6_put_144 9 o16 p0 4 (-1) := hp23
  have hG := zbnd hG eo22
  obtain ⟨hP, hD⟩ := z_re (L := [(w0, .inr (9, [.ref tnodes, .ref tpasses, .ref tjars, .ref torders, .ref tfeasts, .ref tway, .int tws, .int tnow, .int tfm, .int tx])), (tjars, .inr (6, [.int 9, .ref tjarsA, .int tjarsS])), (tjarsA, .inl (kA 0, 144, .inl o22))]) hP hD
  obtain ⟨hP9, hD9⟩ := z_sb (L' := [(w0, .inr (9, [.ref tnodes, .ref tpasses, .ref tjars, .ref torders, .ref tfeasts, .ref tway, .int tws, .int tnow, .int tfm, .int tx])), (tjars, .inr (6, [.int 9, .ref tjarsA, .int tjarsS])), (tjarsA, .inl (kA 0, 144, .inl o22))]) hP hD [0, 1, 2] (by decide) rfl
  refine W.widen (k := 0) (n := 0) (Nat.le_of_ble_eq_true rfl) (Nat.le_of_ble_eq_true rfl) ?_
  exact W.vret hx hb hr (fun t ht hW => ⟨⟨(o22), rfl, (hG.trans hG0.symm), by rw [ht]; exact hP9, hD9⟩, hS.F ht⟩) hS.2.2 dX9_standAt_40
set_option maxRecDepth 100000 in
def fX9_lose (tjarsF : Nat → Int32) (p0 : Int32) : (Nat → Int32) := bnd (fX9_standAt tjarsF p0 13) (fun (o4 : Nat → Int32) => bnd (fX6_put_144 9 o4 p0 0 0) (fun (o10 : Nat → Int32) => o10))
set_option maxHeartbeats 4000000 in
set_option maxRecDepth 100000 in
theorem mX9_lose (l : Launch) (dC : Nat → ClassId) (dI : Nat → Nat → Nat) (kA : Nat → ClassId) (sz : Nat) (w0 : Nat) (tnodes : Nat) (tpasses : Nat) (tjars : Nat) (tjarsA : Nat) (tjarsS : Int32) (tjarsF : Nat → Int32) (torders : Nat) (tfeasts : Nat) (tway : Nat) (tws : Int32) (tnow : Int32) (tfm : Int32) (tx : Int32) (p0 : Int32)  : Met l yX9_lose wsX9_lose ({ frames := 2, cells := 0, slots := 0, locals := 46 }) (zPc dC dI kA sz [.ref w0, .int p0] [(w0, .inr (9, [.ref tnodes, .ref tpasses, .ref tjars, .ref torders, .ref tfeasts, .ref tway, .int tws, .int tnow, .int tfm, .int tx])), (tjars, .inr (6, [.int 9, .ref tjarsA, .int tjarsS])), (tjarsA, .inl (kA 0, 144, .inl tjarsF))]) (va_Qv (fun (u : (Nat → Int32)) => u = fX9_lose tjarsF p0) (zB dC dI (va_A [(w0, .inr (9, [.ref tnodes, .ref tpasses, .ref tjars, .ref torders, .ref tfeasts, .ref tway, .int tws, .int tnow, .int tfm, .int tx])), (tjars, .inr (6, [.int 9, .ref tjarsA, .int tjarsS])), (tjarsA, .inl (kA 0, 144, .inl tjarsF))] sz) (fun (u : (Nat → Int32)) => [(w0, .inr (9, [.ref tnodes, .ref tpasses, .ref tjars, .ref torders, .ref tfeasts, .ref tway, .int tws, .int tnow, .int tfm, .int tx])), (tjars, .inr (6, [.int 9, .ref tjarsA, .int tjarsS])), (tjarsA, .inl (kA 0, 144, .inl u))])) (va_A [(w0, .inr (9, [.ref tnodes, .ref tpasses, .ref tjars, .ref torders, .ref tfeasts, .ref tway, .int tws, .int tnow, .int tfm, .int tx])), (tjars, .inr (6, [.int 9, .ref tjarsA, .int tjarsS])), (tjarsA, .inl (kA 0, 144, .inl tjarsF))] sz)) 0 0 (va_A [(w0, .inr (9, [.ref tnodes, .ref tpasses, .ref tjars, .ref torders, .ref tfeasts, .ref tway, .int tws, .int tnow, .int tfm, .int tx])), (tjars, .inr (6, [.int 9, .ref tjarsA, .int tjarsS])), (tjarsA, .inl (kA 0, 144, .inl tjarsF))] sz) := by
  refine Met.ofW (cc := cX9_lose) (maxL := 2) (ret := none) pnX9 rfl ?_
  intro p e s m args below meth c s₁ B hml hv
  obtain ⟨rfl, hsz, hP, hK, hD0⟩ := hv
  have hx := B.exec
  have hb := B.bytes
  have hr := B.returns
  have hts := atoms_spec (ws := wsX9_lose) B.pre
  have hown : s.vm.findClass RX9 = some m.cls := findClass_of_methodNamed B.named
  have hlocks := B.notSynchronized
  subst hsz
  have hD := hD0.self (sz := s.heap.size)
  generalize hAe : va_A [(w0, .inr (9, [.ref tnodes, .ref tpasses, .ref tjars, .ref torders, .ref tfeasts, .ref tway, .int tws, .int tnow, .int tfm, .int tx])), (tjars, .inr (6, [.int 9, .ref tjarsA, .int tjarsS])), (tjarsA, .inl (kA 0, 144, .inl tjarsF))] s.heap.size = A at hD ⊢
  have hA : ∀ q : Nat, s.heap.size ≤ q → A q := zA_of hAe
  have hS : va_S A s.heap s.heap [] := va_S.rf
  have hP : va_P (dC, dI) vwCl [(w0, .inr (9, [.ref tnodes, .ref tpasses, .ref tjars, .ref torders, .ref tfeasts, .ref tway, .int tws, .int tnow, .int tfm, .int tx])), (tjars, .inr (6, [.int 9, .ref tjarsA, .int tjarsS])), (tjarsA, .inl (kA 0, 144, .inl tjarsF))] s.heap := hP
  have hl := lv_entry ([.ref w0, .int p0]) (n := 2) (Nat.le_of_ble_eq_true rfl)
  rw [lg_entry_eq]
  generalize (lg_sl ([.ref w0, .int p0]) ++ List.replicate (2 - (lg_sl ([.ref w0, .int p0])).length) Slot.unset).toArray = ls at hl ⊢
  have hl : lv_has ls 2 [(0, .ref w0), (1, .int p0)] := hl
  obtain ⟨G, hG0⟩ : ∃ G : (Nat → Int32), fX9_lose tjarsF p0 = G := ⟨_, rfl⟩
  have hG := hG0
  unfold fX9_lose at hG
  refine lv_aload_n hx hb dX9_lose_0 rfl (lv_at hl 0 rfl) ?_
  refine lv_iload_n hx hb dX9_lose_1 rfl (lv_at hl 1 rfl) ?_
  refine lv_bipush (v := 13) hx hb dX9_lose_2 (by decide) ?_
  refine z_v (wr := []) (va_runV (As := [.int p0, .int 13]) (rest := []) ⟨hx, hb, hml, hown, hts⟩ (mX9_standAt l dC dI kA _ w0 tnodes tpasses tjars tjarsA tjarsS tjarsF torders tfeasts tway tws tnow tfm tx p0 13) (cwV 2 hts gX9_lose_X9_standAt rfl rfl rfl ⟨rfl, hdX9_standAt⟩ ⟨(Nat.le_of_ble_eq_true rfl), (Nat.le_of_ble_eq_true rfl)⟩) ⟨zPc.blind, va_recv (q := (RX9, TX9, 10)) hK.1 hP (ci := 9) (q0 := 0) rfl rfl, zPre hK (hP.sub [0, 1, 2] rfl) (hD.sub [0, 1, 2] (by decide) rfl)⟩ rfl rfl hl.1 rfl (lv_room (Nat.le_of_ble_eq_true rfl)) dX9_lose_4 ⟨(Nat.le_of_ble_eq_true rfl), (Nat.le_of_ble_eq_true rfl)⟩) hP hD hS hA [0, 1, 2] [] rfl rfl (by decide) (by decide) (fun u1 H locs hw2 hP hD hS => ?_)
  obtain ⟨o4, rfl⟩ : ∃ z, z = u1 := ⟨_, rfl⟩
  have hp5 := hw2
  have eo4 : o4 = fX9_standAt tjarsF p0 13 := hp5
  have hG := zbnd hG eo4
  obtain ⟨hP, hD⟩ := z_re (L := [(w0, .inr (9, [.ref tnodes, .ref tpasses, .ref tjars, .ref torders, .ref tfeasts, .ref tway, .int tws, .int tnow, .int tfm, .int tx])), (tjars, .inr (6, [.int 9, .ref tjarsA, .int tjarsS])), (tjarsA, .inl (kA 0, 144, .inl o4))]) hP hD
  refine lv_aload_n hx hb dX9_lose_7 rfl (lv_at hl 0 rfl) ?_
  refine va_get (D := (dC, dI)) (ci := 9) (v := .ref tjars) (C := RX9) (T := TX9) (N := 10) hx hb hts iX9_lose_X9 hown hK.1 hP 0 gz0 vcz9 2 (by decide) (kX9_lose_1 hts) (fun _ h9 => h9) gz2 dX9_lose_8 ?_
  refine lv_iload_n hx hb dX9_lose_11 rfl (lv_at hl 1 rfl) ?_
  refine lv_iconst (v := 0) hx hb dX9_lose_12 (by decide) ?_
  refine lv_iconst (v := 0) hx hb dX9_lose_13 (by decide) ?_
  refine z_v (wr := [(w0, .inr (9, [.ref tnodes, .ref tpasses, .ref tjars, .ref torders, .ref tfeasts, .ref tway, .int tws, .int tnow, .int tfm, .int tx]))]) (va_runV (As := [.int p0, .int 0, .int 0]) (rest := []) ⟨hx, hb, hml, hown, hts⟩ (mX6_put_144 l dC dI kA _ tjars tjarsA 9 tjarsS o4 p0 0 0) (cwV 3 hts gX9_lose_X6_put rfl rfl rfl ⟨rfl, hdX6_put⟩ ⟨(Nat.le_of_ble_eq_true rfl), (Nat.le_of_ble_eq_true rfl)⟩) ⟨zPc.blind, va_recv (q := (RX6, TX6, 3)) hK.1 hP (ci := 6) (q0 := 1) rfl rfl, zPre hK (hP.sub [1, 2] rfl) (hD.sub [1, 2] (by decide) rfl)⟩ rfl rfl hl.1 rfl (lv_room (Nat.le_of_ble_eq_true rfl)) dX9_lose_14 ⟨(Nat.le_of_ble_eq_true rfl), (Nat.le_of_ble_eq_true rfl)⟩) hP hD hS hA [1, 2] [0] rfl rfl (by decide) (by decide) (fun u7 H locs hw8 hP hD hS => ?_)
  obtain ⟨o10, rfl⟩ : ∃ z, z = u7 := ⟨_, rfl⟩
  have hp11 := hw8
  have eo10 : o10 = fX6_put_144 9 o4 p0 0 0 := hp11
  have hG := zbnd hG eo10
  obtain ⟨hP, hD⟩ := z_re (L := [(w0, .inr (9, [.ref tnodes, .ref tpasses, .ref tjars, .ref torders, .ref tfeasts, .ref tway, .int tws, .int tnow, .int tfm, .int tx])), (tjars, .inr (6, [.int 9, .ref tjarsA, .int tjarsS])), (tjarsA, .inl (kA 0, 144, .inl o10))]) hP hD
  obtain ⟨hP9, hD9⟩ := z_sb (L' := [(w0, .inr (9, [.ref tnodes, .ref tpasses, .ref tjars, .ref torders, .ref tfeasts, .ref tway, .int tws, .int tnow, .int tfm, .int tx])), (tjars, .inr (6, [.int 9, .ref tjarsA, .int tjarsS])), (tjarsA, .inl (kA 0, 144, .inl o10))]) hP hD [0, 1, 2] (by decide) rfl
  refine W.widen (k := 0) (n := 0) (Nat.le_of_ble_eq_true rfl) (Nat.le_of_ble_eq_true rfl) ?_
  exact W.vret hx hb hr (fun t ht hW => ⟨⟨(o10), rfl, (hG.trans hG0.symm), by rw [ht]; exact hP9, hD9⟩, hS.F ht⟩) hS.2.2 dX9_lose_17
set_option maxRecDepth 100000 in
def fX9_bring (tnodesF : Nat → Int32) (p0 : Int32) (p1 : Int32) : (Nat → Int32) × Int32 := bnd (fX6_get_48 4 tnodesF p0 3) (fun (r3 : Int32) => bnd ((if (999999 - r3) < p1 then (999999 - r3) else p1)) (fun (x8 : Int32) => bnd (fX6_put_48 4 tnodesF p0 3 (r3 + x8)) (fun (o14 : Nat → Int32) => (o14, x8))))
set_option maxHeartbeats 4000000 in
set_option maxRecDepth 100000 in
theorem mX9_bring (l : Launch) (dC : Nat → ClassId) (dI : Nat → Nat → Nat) (kA : Nat → ClassId) (sz : Nat) (w0 : Nat) (tnodes : Nat) (tnodesA : Nat) (tnodesS : Int32) (tnodesF : Nat → Int32) (tpasses : Nat) (tjars : Nat) (torders : Nat) (tfeasts : Nat) (tway : Nat) (tws : Int32) (tnow : Int32) (tfm : Int32) (tx : Int32) (p0 : Int32) (p1 : Int32)  : Met l yX9_bring wsX9_bring ({ frames := 1, cells := 0, slots := 0, locals := 24 }) (zPc dC dI kA sz [.ref w0, .int p0, .int p1] [(w0, .inr (9, [.ref tnodes, .ref tpasses, .ref tjars, .ref torders, .ref tfeasts, .ref tway, .int tws, .int tnow, .int tfm, .int tx])), (tnodes, .inr (6, [.int 4, .ref tnodesA, .int tnodesS])), (tnodesA, .inl (kA 0, 48, .inl tnodesF))]) (va_Qi (fun (r : Int32) (u : (Nat → Int32) × Int32) => r = u.2 ∧ (u.1, u.2) = fX9_bring tnodesF p0 p1) (zB dC dI (va_A [(w0, .inr (9, [.ref tnodes, .ref tpasses, .ref tjars, .ref torders, .ref tfeasts, .ref tway, .int tws, .int tnow, .int tfm, .int tx])), (tnodes, .inr (6, [.int 4, .ref tnodesA, .int tnodesS])), (tnodesA, .inl (kA 0, 48, .inl tnodesF))] sz) (fun (u : (Nat → Int32) × Int32) => [(w0, .inr (9, [.ref tnodes, .ref tpasses, .ref tjars, .ref torders, .ref tfeasts, .ref tway, .int tws, .int tnow, .int tfm, .int tx])), (tnodes, .inr (6, [.int 4, .ref tnodesA, .int tnodesS])), (tnodesA, .inl (kA 0, 48, .inl u.1))])) (va_A [(w0, .inr (9, [.ref tnodes, .ref tpasses, .ref tjars, .ref torders, .ref tfeasts, .ref tway, .int tws, .int tnow, .int tfm, .int tx])), (tnodes, .inr (6, [.int 4, .ref tnodesA, .int tnodesS])), (tnodesA, .inl (kA 0, 48, .inl tnodesF))] sz)) 0 0 (va_A [(w0, .inr (9, [.ref tnodes, .ref tpasses, .ref tjars, .ref torders, .ref tfeasts, .ref tway, .int tws, .int tnow, .int tfm, .int tx])), (tnodes, .inr (6, [.int 4, .ref tnodesA, .int tnodesS])), (tnodesA, .inl (kA 0, 48, .inl tnodesF))] sz) := by
  refine Met.ofW (cc := cX9_bring) (maxL := 5) (ret := (some .int)) pnX9 rfl ?_
  intro p e s m args below meth c s₁ B hml hv
  obtain ⟨rfl, hsz, hP, hK, hD0⟩ := hv
  have hx := B.exec
  have hb := B.bytes
  have hr := B.returns
  have hts := atoms_spec (ws := wsX9_bring) B.pre
  have hown : s.vm.findClass RX9 = some m.cls := findClass_of_methodNamed B.named
  have hlocks := B.notSynchronized
  subst hsz
  have hD := hD0.self (sz := s.heap.size)
  generalize hAe : va_A [(w0, .inr (9, [.ref tnodes, .ref tpasses, .ref tjars, .ref torders, .ref tfeasts, .ref tway, .int tws, .int tnow, .int tfm, .int tx])), (tnodes, .inr (6, [.int 4, .ref tnodesA, .int tnodesS])), (tnodesA, .inl (kA 0, 48, .inl tnodesF))] s.heap.size = A at hD ⊢
  have hA : ∀ q : Nat, s.heap.size ≤ q → A q := zA_of hAe
  have hS : va_S A s.heap s.heap [] := va_S.rf
  have hP : va_P (dC, dI) vwCl [(w0, .inr (9, [.ref tnodes, .ref tpasses, .ref tjars, .ref torders, .ref tfeasts, .ref tway, .int tws, .int tnow, .int tfm, .int tx])), (tnodes, .inr (6, [.int 4, .ref tnodesA, .int tnodesS])), (tnodesA, .inl (kA 0, 48, .inl tnodesF))] s.heap := hP
  have hl := lv_entry ([.ref w0, .int p0, .int p1]) (n := 5) (Nat.le_of_ble_eq_true rfl)
  rw [lg_entry_eq]
  generalize (lg_sl ([.ref w0, .int p0, .int p1]) ++ List.replicate (5 - (lg_sl ([.ref w0, .int p0, .int p1])).length) Slot.unset).toArray = ls at hl ⊢
  have hl : lv_has ls 5 [(0, .ref w0), (1, .int p0), (2, .int p1)] := hl
  obtain ⟨G, hG0⟩ : ∃ G : (Nat → Int32) × Int32, fX9_bring tnodesF p0 p1 = G := ⟨_, rfl⟩
  have hG := hG0
  unfold fX9_bring at hG
  refine lv_aload_n hx hb dX9_bring_0 rfl (lv_at hl 0 rfl) ?_
  refine va_get (D := (dC, dI)) (ci := 9) (v := .ref tnodes) (C := RX9) (T := TX9) (N := 10) hx hb hts iX9_bring_X9 hown hK.1 hP 0 gz0 vcz9 0 (by decide) (kX9_bring_1 hts) (fun _ h9 => h9) gz0 dX9_bring_1 ?_
  refine lv_iload_n hx hb dX9_bring_4 rfl (lv_at hl 1 rfl) ?_
  refine lv_iconst (v := 3) hx hb dX9_bring_5 (by decide) ?_
  refine z_i (wr := [(w0, .inr (9, [.ref tnodes, .ref tpasses, .ref tjars, .ref torders, .ref tfeasts, .ref tway, .int tws, .int tnow, .int tfm, .int tx]))]) (va_runV (As := [.int p0, .int 3]) (rest := []) ⟨hx, hb, hml, hown, hts⟩ (mX6_get_48 l dC dI kA _ tnodes tnodesA 4 tnodesS tnodesF p0 3) (cwV 2 hts gX9_bring_X6_get rfl rfl rfl ⟨rfl, hdX6_get⟩ ⟨(Nat.le_of_ble_eq_true rfl), (Nat.le_of_ble_eq_true rfl)⟩) ⟨zPc.blind, va_recv (q := (RX6, TX6, 3)) hK.1 hP (ci := 6) (q0 := 1) rfl rfl, zPre hK (hP.sub [1, 2] rfl) (hD.sub [1, 2] (by decide) rfl)⟩ rfl rfl hl.1 rfl (lv_room (Nat.le_of_ble_eq_true rfl)) dX9_bring_6 ⟨(Nat.le_of_ble_eq_true rfl), (Nat.le_of_ble_eq_true rfl)⟩) hP hD hS hA [1, 2] [0] rfl rfl (by decide) (by decide) (fun r3 u1 H locs hw2 hP hD hS => ?_)
  obtain ⟨er6, hp5⟩ := hw2
  have er6 : r3 = u1 := er6
  subst er6
  have er3 : r3 = fX6_get_48 4 tnodesF p0 3 := hp5
  have hG := zbnd hG er3
  obtain ⟨hP, hD⟩ := z_re (L := [(w0, .inr (9, [.ref tnodes, .ref tpasses, .ref tjars, .ref torders, .ref tfeasts, .ref tway, .int tws, .int tnow, .int tfm, .int tx])), (tnodes, .inr (6, [.int 4, .ref tnodesA, .int tnodesS])), (tnodesA, .inl (kA 0, 48, .inl tnodesF))]) hP hD
  refine lv_istore_n (lv' := [(3, .int r3), (0, .ref w0), (1, .int p0), (2, .int p1)]) hx hb dX9_bring_9 rfl hl (by decide) rfl (fun ls hl => ?_)
  refine lv_iload_n hx hb dX9_bring_10 rfl (lv_at hl 3 rfl) ?_
  refine lv_ldc hx hb hown (kX9_bring_2 hts) dX9_bring_11 ?_
  refine lv_iload_n hx hb dX9_bring_13 rfl (lv_at hl 0 rfl) ?_
  refine lv_isub hx hb dX9_bring_14 ?_
  refine va_mmin hx hb (by rw [hml]; exact hl.1.symm) hown (kX9_bring_3 hts) (kX9_bring_4 hts) (kX9_bring_5 hts) (kX9_bring_6 hts) (Nat.le_of_ble_eq_true rfl) (Nat.le_of_ble_eq_true rfl) (Nat.le_of_ble_eq_true rfl) (Nat.le_of_ble_eq_true rfl) dX9_bring_15 ?_
  refine lv_topi (fun x8 ex8 => ?_)
  have hG := zbnd hG ex8
  have hm9 : ¬ p1 < x8 := by rw [ex8]; exact z_minl _ _
  have hm10 : ¬ (999999 - r3) < x8 := by rw [ex8]; exact z_minr _ _
  refine lv_istore (lv' := [(4, .int x8), (3, .int r3), (0, .ref w0), (1, .int p0), (2, .int p1)]) hx hb dX9_bring_18 hl (by decide) rfl (fun ls hl => ?_)
  refine lv_aload_n hx hb dX9_bring_20 rfl (lv_at hl 2 rfl) ?_
  refine va_get (D := (dC, dI)) (ci := 9) (v := .ref tnodes) (C := RX9) (T := TX9) (N := 10) hx hb hts iX9_bring_X9 hown hK.1 hP 0 gz0 vcz9 0 (by decide) (kX9_bring_1 hts) (fun _ h9 => h9) gz0 dX9_bring_21 ?_
  refine lv_iload_n hx hb dX9_bring_24 rfl (lv_at hl 3 rfl) ?_
  refine lv_iconst (v := 3) hx hb dX9_bring_25 (by decide) ?_
  refine lv_iload_n hx hb dX9_bring_26 rfl (lv_at hl 1 rfl) ?_
  refine lv_iload hx hb dX9_bring_27 (lv_at hl 0 rfl) ?_
  refine lv_iadd hx hb dX9_bring_29 ?_
  refine z_v (wr := [(w0, .inr (9, [.ref tnodes, .ref tpasses, .ref tjars, .ref torders, .ref tfeasts, .ref tway, .int tws, .int tnow, .int tfm, .int tx]))]) (va_runV (As := [.int p0, .int 3, .int (r3 + x8)]) (rest := []) ⟨hx, hb, hml, hown, hts⟩ (mX6_put_48 l dC dI kA _ tnodes tnodesA 4 tnodesS tnodesF p0 3 (r3 + x8)) (cwV 3 hts gX9_bring_X6_put rfl rfl rfl ⟨rfl, hdX6_put⟩ ⟨(Nat.le_of_ble_eq_true rfl), (Nat.le_of_ble_eq_true rfl)⟩) ⟨zPc.blind, va_recv (q := (RX6, TX6, 3)) hK.1 hP (ci := 6) (q0 := 1) rfl rfl, zPre hK (hP.sub [1, 2] rfl) (hD.sub [1, 2] (by decide) rfl)⟩ rfl rfl hl.1 rfl (lv_room (Nat.le_of_ble_eq_true rfl)) dX9_bring_30 ⟨(Nat.le_of_ble_eq_true rfl), (Nat.le_of_ble_eq_true rfl)⟩) hP hD hS hA [1, 2] [0] rfl rfl (by decide) (by decide) (fun u11 H locs hw12 hP hD hS => ?_)
  obtain ⟨o14, rfl⟩ : ∃ z, z = u11 := ⟨_, rfl⟩
  have hp15 := hw12
  have eo14 : o14 = fX6_put_48 4 tnodesF p0 3 (r3 + x8) := hp15
  have hG := zbnd hG eo14
  obtain ⟨hP, hD⟩ := z_re (L := [(w0, .inr (9, [.ref tnodes, .ref tpasses, .ref tjars, .ref torders, .ref tfeasts, .ref tway, .int tws, .int tnow, .int tfm, .int tx])), (tnodes, .inr (6, [.int 4, .ref tnodesA, .int tnodesS])), (tnodesA, .inl (kA 0, 48, .inl o14))]) hP hD
  refine lv_iload hx hb dX9_bring_33 (lv_at hl 0 rfl) ?_
  obtain ⟨hP9, hD9⟩ := z_sb (L' := [(w0, .inr (9, [.ref tnodes, .ref tpasses, .ref tjars, .ref torders, .ref tfeasts, .ref tway, .int tws, .int tnow, .int tfm, .int tx])), (tnodes, .inr (6, [.int 4, .ref tnodesA, .int tnodesS])), (tnodesA, .inl (kA 0, 48, .inl o14))]) hP hD [0, 1, 2] (by decide) rfl
  refine W.widen (k := 0) (n := 0) (Nat.le_of_ble_eq_true rfl) (Nat.le_of_ble_eq_true rfl) ?_
  exact W.iret (v := x8) hx hb hr (fun t ht hW => ⟨⟨x8, (o14, x8), rfl, ⟨rfl, (hG.trans hG0.symm)⟩, by rw [ht]; exact hP9, hD9⟩, hS.F ht⟩) hS.2.2 dX9_bring_35
set_option maxRecDepth 100000 in
def fb_mX9_jarsAt_4 (tjarsS : Int32) (tjarsF : Nat → Int32) (p0 : Int32) (E37 : Int32 → Int32 → Int32) (K : Int32 → Int32 → Int32) (l4_0 : Int32) (l4_1 : Int32) : Int32 := if tjarsS ≤ l4_0 then (E37 l4_0 l4_1) else (bnd (fX6_get_144 9 tjarsF l4_0 1) (fun (ry4_4 : Int32) => if ry4_4 = p0 then (bnd ((l4_1 + 1)) (fun (xy4_11 : Int32) => bnd ((l4_0 + 1)) (fun (xy4_12 : Int32) => K xy4_12 xy4_11))) else (bnd ((l4_0 + 1)) (fun (xy4_10 : Int32) => K xy4_10 l4_1))))
def fl_mX9_jarsAt_4 (tjarsS : Int32) (tjarsF : Nat → Int32) (p0 : Int32) (E37 : Int32 → Int32 → Int32) : Nat → Int32 → Int32 → Int32
  | 0, _, _ => 0
  | n + 1, l4_0, l4_1 => fb_mX9_jarsAt_4 tjarsS tjarsF p0 E37 (fl_mX9_jarsAt_4 tjarsS tjarsF p0 E37 n) l4_0 l4_1
set_option maxHeartbeats 4000000 in
set_option maxRecDepth 100000 in
theorem lp_mX9_jarsAt_4 {p : Program} {l : Launch} {e : Env} {R : Room} {s : State} {m : MethodId} {args : Array Value} {below : List Frame} {meth : Method} {c : Code} {Q : State → Prop} {dC : Nat → ClassId} {dI : Nat → Nat → Nat} {kA : Nat → ClassId} {A : Nat → Prop} {H0 : Heap} {cells slots : Nat} (hx : p.tables.exec = Jvm.exec) (hb : c.code = cX9_jarsAt) (hml : c.maxLocals = 4) (hts : ∀ w ∈ wsX9_jarsAt, w.before args s = true) (hown : s.vm.findClass RX9 = some m.cls) (hK : zK dC dI kA s) (hA : ∀ q, H0.size ≤ q → A q) (hRf : 1 ≤ R.frames) (hRl : 23 ≤ R.locals) (hRc : cells ≤ R.cells) (hRs : slots ≤ R.slots) (w0 : Nat) (tnodes : Nat) (tpasses : Nat) (tjars : Nat) (tjarsA : Nat) (tjarsS : Int32) (tjarsF : Nat → Int32) (torders : Nat) (tfeasts : Nat) (tway : Nat) (tws : Int32) (tnow : Int32) (tfm : Int32) (tx : Int32) (p0 : Int32) {G : Int32} {E37 : Int32 → Int32 → Int32}  (k37 : ∀ (w37_0 : Int32) (w37_1 : Int32) (H : Heap) (locs : List Loc) (ls : Array Slot), ¬ w37_0 < 0 → E37 w37_0 w37_1 = G → va_P (dC, dI) vwCl [(w0, .inr (9, [.ref tnodes, .ref tpasses, .ref tjars, .ref torders, .ref tfeasts, .ref tway, .int tws, .int tnow, .int tfm, .int tx])), (tjars, .inr (6, [.int 9, .ref tjarsA, .int tjarsS])), (tjarsA, .inl (kA 0, 144, .inl tjarsF))] H → va_D A [(w0, .inr (9, [.ref tnodes, .ref tpasses, .ref tjars, .ref torders, .ref tfeasts, .ref tway, .int tws, .int tnow, .int tfm, .int tx])), (tjars, .inr (6, [.int 9, .ref tjarsA, .int tjarsS])), (tjarsA, .inl (kA 0, 144, .inl tjarsF))] → va_S A H0 H locs → lv_has ls 4 [(3, .int w37_0), (2, .int w37_1), (0, .ref w0), (1, .int p0)] → W p l e R s m args below meth c H locs cells slots Q (F0 m 37 ls []))  : ∀ (n : Nat) (l4_0 : Int32) (l4_1 : Int32) (H : Heap) (locs : List Loc) (ls : Array Slot), ((tjarsS : Int32).toInt - l4_0.toInt).toNat < n → fl_mX9_jarsAt_4 tjarsS tjarsF p0 E37 n l4_0 l4_1 = G → ¬ l4_0 < 0 → va_P (dC, dI) vwCl [(w0, .inr (9, [.ref tnodes, .ref tpasses, .ref tjars, .ref torders, .ref tfeasts, .ref tway, .int tws, .int tnow, .int tfm, .int tx])), (tjars, .inr (6, [.int 9, .ref tjarsA, .int tjarsS])), (tjarsA, .inl (kA 0, 144, .inl tjarsF))] H → va_D A [(w0, .inr (9, [.ref tnodes, .ref tpasses, .ref tjars, .ref torders, .ref tfeasts, .ref tway, .int tws, .int tnow, .int tfm, .int tx])), (tjars, .inr (6, [.int 9, .ref tjarsA, .int tjarsS])), (tjarsA, .inl (kA 0, 144, .inl tjarsF))] → va_S A H0 H locs → lv_has ls 4 [(3, .int l4_0), (2, .int l4_1), (0, .ref w0), (1, .int p0)] → W p l e R s m args below meth c H locs cells slots Q (F0 m 4 ls []) := by
  intro n
  induction n with
  | zero =>
    intro l4_0 l4_1 H locs ls hn
    exact absurd hn (Nat.not_lt_zero _)
  | succ n ih =>
    intro l4_0 l4_1 H locs ls hn hG hi4 hP hD hS hl
    have hG : fb_mX9_jarsAt_4 tjarsS tjarsF p0 E37 (fl_mX9_jarsAt_4 tjarsS tjarsF p0 E37 n) l4_0 l4_1 = G := hG
    unfold fb_mX9_jarsAt_4 at hG
    refine lv_iload_n hx hb dX9_jarsAt_4 rfl (lv_at hl 0 rfl) ?_
    refine lv_aload_n hx hb dX9_jarsAt_5 rfl (lv_at hl 2 rfl) ?_
    refine va_get (D := (dC, dI)) (ci := 9) (v := .ref tjars) (C := RX9) (T := TX9) (N := 10) hx hb hts iX9_jarsAt_X9 hown hK.1 hP 0 gz0 vcz9 2 (by decide) (kX9_jarsAt_1 hts) (fun _ h9 => h9) gz2 dX9_jarsAt_6 ?_
    refine va_get (D := (dC, dI)) (ci := 6) (v := .int tjarsS) (C := RX6) (T := TX6) (N := 3) hx hb hts iX9_jarsAt_X6 hown hK.1 hP 1 gz1 vcz6 2 (by decide) (kX9_jarsAt_2 hts) (fun _ h9 => h9) gz2 dX9_jarsAt_9 ?_
    refine lv_icmp_ge (tgt := 37) hx hb dX9_jarsAt_12 (by decide) (fun c_y4_1 => ?_) (fun c_y4_1 => ?_)
    · have hG := zthen hG c_y4_1
      exact k37 l4_0 l4_1 H locs ls hi4 hG (hP.sub [0, 1, 2] rfl) (hD.sub [0, 1, 2] (by decide) rfl) hS (lv_sub hl [0, 1, 2, 3] rfl)
    · have hG := zelse hG c_y4_1
      refine lv_aload_n hx hb dX9_jarsAt_15 rfl (lv_at hl 2 rfl) ?_
      refine va_get (D := (dC, dI)) (ci := 9) (v := .ref tjars) (C := RX9) (T := TX9) (N := 10) hx hb hts iX9_jarsAt_X9 hown hK.1 hP 0 gz0 vcz9 2 (by decide) (kX9_jarsAt_1 hts) (fun _ h9 => h9) gz2 dX9_jarsAt_16 ?_
      refine lv_iload_n hx hb dX9_jarsAt_19 rfl (lv_at hl 0 rfl) ?_
      refine lv_iconst (v := 1) hx hb dX9_jarsAt_20 (by decide) ?_
      refine z_i (wr := [(w0, .inr (9, [.ref tnodes, .ref tpasses, .ref tjars, .ref torders, .ref tfeasts, .ref tway, .int tws, .int tnow, .int tfm, .int tx]))]) (va_runV (As := [.int l4_0, .int 1]) (rest := []) ⟨hx, hb, hml, hown, hts⟩ (mX6_get_144 l dC dI kA _ tjars tjarsA 9 tjarsS tjarsF l4_0 1) (cwV 2 hts gX9_jarsAt_X6_get rfl rfl rfl ⟨rfl, hdX6_get⟩ ⟨(Nat.le_trans (Nat.le_of_ble_eq_true rfl) hRf), (Nat.le_trans (Nat.le_of_ble_eq_true rfl) hRl)⟩) ⟨zPc.blind, va_recv (q := (RX6, TX6, 3)) hK.1 hP (ci := 6) (q0 := 1) rfl rfl, zPre hK (hP.sub [1, 2] rfl) (hD.sub [1, 2] (by decide) rfl)⟩ rfl rfl hl.1 rfl (lv_room (Nat.le_of_ble_eq_true rfl)) dX9_jarsAt_21 ⟨hRc, hRs⟩) hP hD hS hA [1, 2] [0] rfl rfl (by decide) (by decide) (fun ry4_4 uy4_2 H locs hwy4_3 hP hD hS => ?_)
      obtain ⟨ery4_7, hpy4_6⟩ := hwy4_3
      have ery4_7 : ry4_4 = uy4_2 := ery4_7
      subst ery4_7
      have ery4_4 : ry4_4 = fX6_get_144 9 tjarsF l4_0 1 := hpy4_6
      have hG := zbnd hG ery4_4
      obtain ⟨hP, hD⟩ := z_re (L := [(w0, .inr (9, [.ref tnodes, .ref tpasses, .ref tjars, .ref torders, .ref tfeasts, .ref tway, .int tws, .int tnow, .int tfm, .int tx])), (tjars, .inr (6, [.int 9, .ref tjarsA, .int tjarsS])), (tjarsA, .inl (kA 0, 144, .inl tjarsF))]) hP hD
      refine lv_iload_n hx hb dX9_jarsAt_24 rfl (lv_at hl 3 rfl) ?_
      refine lv_icmp_ne (tgt := 31) hx hb dX9_jarsAt_25 (by decide) (fun c_y4_9 => ?_) (fun c_y4_9 => ?_)
      · have hG := zelse hG c_y4_9
        obtain ⟨xy4_10, exy4_10⟩ : ∃ y : Int32, y = l4_0 + 1 := ⟨_, rfl⟩
        have hG := zbnd hG exy4_10
        refine lv_iinc (v := xy4_10) (lv' := [(3, .int xy4_10), (2, .int l4_1), (0, .ref w0), (1, .int p0)]) hx hb dX9_jarsAt_31 hl (k := 0) rfl (by rw [exy4_10]; rfl) (by decide) rfl (fun ls hl => ?_)
        refine lv_goto (tgt := 4) hx hb dX9_jarsAt_34 (by decide) ?_
        exact ih xy4_10 l4_1 H locs ls (z_up hn exy4_10 c_y4_1) hG (z_nn exy4_10 c_y4_1 hi4) (hP.sub [0, 1, 2] rfl) (hD.sub [0, 1, 2] (by decide) rfl) hS (lv_sub hl [0, 1, 2, 3] rfl)
      · have hG := zthen hG c_y4_9
        obtain ⟨xy4_11, exy4_11⟩ : ∃ y : Int32, y = l4_1 + 1 := ⟨_, rfl⟩
        have hG := zbnd hG exy4_11
        refine lv_iinc (v := xy4_11) (lv' := [(2, .int xy4_11), (3, .int l4_0), (0, .ref w0), (1, .int p0)]) hx hb dX9_jarsAt_28 hl (k := 1) rfl (by rw [exy4_11]; rfl) (by decide) rfl (fun ls hl => ?_)
        obtain ⟨xy4_12, exy4_12⟩ : ∃ y : Int32, y = l4_0 + 1 := ⟨_, rfl⟩
        have hG := zbnd hG exy4_12
        refine lv_iinc (v := xy4_12) (lv' := [(3, .int xy4_12), (2, .int xy4_11), (0, .ref w0), (1, .int p0)]) hx hb dX9_jarsAt_31 hl (k := 1) rfl (by rw [exy4_12]; rfl) (by decide) rfl (fun ls hl => ?_)
        refine lv_goto (tgt := 4) hx hb dX9_jarsAt_34 (by decide) ?_
        exact ih xy4_12 xy4_11 H locs ls (z_up hn exy4_12 c_y4_1) hG (z_nn exy4_12 c_y4_1 hi4) (hP.sub [0, 1, 2] rfl) (hD.sub [0, 1, 2] (by decide) rfl) hS (lv_sub hl [0, 1, 2, 3] rfl)
set_option maxRecDepth 100000 in
def fX9_jarsAt (tjarsS : Int32) (tjarsF : Nat → Int32) (p0 : Int32) : Int32 := fl_mX9_jarsAt_4 tjarsS tjarsF p0 (fun (w37_0_0 : Int32) (w37_1_0 : Int32) => w37_1_0) (((tjarsS : Int32).toInt - (0 : Int32).toInt).toNat + 1) 0 0
set_option maxHeartbeats 4000000 in
set_option maxRecDepth 100000 in
theorem mX9_jarsAt (l : Launch) (dC : Nat → ClassId) (dI : Nat → Nat → Nat) (kA : Nat → ClassId) (sz : Nat) (w0 : Nat) (tnodes : Nat) (tpasses : Nat) (tjars : Nat) (tjarsA : Nat) (tjarsS : Int32) (tjarsF : Nat → Int32) (torders : Nat) (tfeasts : Nat) (tway : Nat) (tws : Int32) (tnow : Int32) (tfm : Int32) (tx : Int32) (p0 : Int32)  : Met l yX9_jarsAt wsX9_jarsAt ({ frames := 1, cells := 0, slots := 0, locals := 23 }) (zPc dC dI kA sz [.ref w0, .int p0] [(w0, .inr (9, [.ref tnodes, .ref tpasses, .ref tjars, .ref torders, .ref tfeasts, .ref tway, .int tws, .int tnow, .int tfm, .int tx])), (tjars, .inr (6, [.int 9, .ref tjarsA, .int tjarsS])), (tjarsA, .inl (kA 0, 144, .inl tjarsF))]) (va_Qi (fun (r : Int32) (u : Int32) => r = u ∧ u = fX9_jarsAt tjarsS tjarsF p0) (zB dC dI (va_A [(w0, .inr (9, [.ref tnodes, .ref tpasses, .ref tjars, .ref torders, .ref tfeasts, .ref tway, .int tws, .int tnow, .int tfm, .int tx])), (tjars, .inr (6, [.int 9, .ref tjarsA, .int tjarsS])), (tjarsA, .inl (kA 0, 144, .inl tjarsF))] sz) (fun (u : Int32) => [(w0, .inr (9, [.ref tnodes, .ref tpasses, .ref tjars, .ref torders, .ref tfeasts, .ref tway, .int tws, .int tnow, .int tfm, .int tx])), (tjars, .inr (6, [.int 9, .ref tjarsA, .int tjarsS])), (tjarsA, .inl (kA 0, 144, .inl tjarsF))])) (va_A [(w0, .inr (9, [.ref tnodes, .ref tpasses, .ref tjars, .ref torders, .ref tfeasts, .ref tway, .int tws, .int tnow, .int tfm, .int tx])), (tjars, .inr (6, [.int 9, .ref tjarsA, .int tjarsS])), (tjarsA, .inl (kA 0, 144, .inl tjarsF))] sz)) 0 0 (va_A [(w0, .inr (9, [.ref tnodes, .ref tpasses, .ref tjars, .ref torders, .ref tfeasts, .ref tway, .int tws, .int tnow, .int tfm, .int tx])), (tjars, .inr (6, [.int 9, .ref tjarsA, .int tjarsS])), (tjarsA, .inl (kA 0, 144, .inl tjarsF))] sz) := by
  refine Met.ofW (cc := cX9_jarsAt) (maxL := 4) (ret := (some .int)) pnX9 rfl ?_
  intro p e s m args below meth c s₁ B hml hv
  obtain ⟨rfl, hsz, hP, hK, hD0⟩ := hv
  have hx := B.exec
  have hb := B.bytes
  have hr := B.returns
  have hts := atoms_spec (ws := wsX9_jarsAt) B.pre
  have hown : s.vm.findClass RX9 = some m.cls := findClass_of_methodNamed B.named
  have hlocks := B.notSynchronized
  subst hsz
  have hD := hD0.self (sz := s.heap.size)
  generalize hAe : va_A [(w0, .inr (9, [.ref tnodes, .ref tpasses, .ref tjars, .ref torders, .ref tfeasts, .ref tway, .int tws, .int tnow, .int tfm, .int tx])), (tjars, .inr (6, [.int 9, .ref tjarsA, .int tjarsS])), (tjarsA, .inl (kA 0, 144, .inl tjarsF))] s.heap.size = A at hD ⊢
  have hA : ∀ q : Nat, s.heap.size ≤ q → A q := zA_of hAe
  have hS : va_S A s.heap s.heap [] := va_S.rf
  have hP : va_P (dC, dI) vwCl [(w0, .inr (9, [.ref tnodes, .ref tpasses, .ref tjars, .ref torders, .ref tfeasts, .ref tway, .int tws, .int tnow, .int tfm, .int tx])), (tjars, .inr (6, [.int 9, .ref tjarsA, .int tjarsS])), (tjarsA, .inl (kA 0, 144, .inl tjarsF))] s.heap := hP
  have hl := lv_entry ([.ref w0, .int p0]) (n := 4) (Nat.le_of_ble_eq_true rfl)
  rw [lg_entry_eq]
  generalize (lg_sl ([.ref w0, .int p0]) ++ List.replicate (4 - (lg_sl ([.ref w0, .int p0])).length) Slot.unset).toArray = ls at hl ⊢
  have hl : lv_has ls 4 [(0, .ref w0), (1, .int p0)] := hl
  obtain ⟨H, hHe⟩ : ∃ H : Heap, H = s.heap := ⟨_, rfl⟩
  obtain ⟨G, hG0⟩ : ∃ G : Int32, fX9_jarsAt tjarsS tjarsF p0 = G := ⟨_, rfl⟩
  have hG := hG0
  unfold fX9_jarsAt at hG
  refine lv_iconst (v := 0) hx hb dX9_jarsAt_0 (by decide) ?_
  refine lv_istore_n (lv' := [(2, .int 0), (0, .ref w0), (1, .int p0)]) hx hb dX9_jarsAt_1 rfl hl (by decide) rfl (fun ls hl => ?_)
  refine lv_iconst (v := 0) hx hb dX9_jarsAt_2 (by decide) ?_
  refine lv_istore_n (lv' := [(3, .int 0), (2, .int 0), (0, .ref w0), (1, .int p0)]) hx hb dX9_jarsAt_3 rfl hl (by decide) rfl (fun ls hl => ?_)
  refine lp_mX9_jarsAt_4 hx hb hml hts hown hK hA (Nat.le_of_ble_eq_true rfl) (Nat.le_of_ble_eq_true rfl) (Nat.le_of_ble_eq_true rfl) (Nat.le_of_ble_eq_true rfl) w0 tnodes tpasses tjars tjarsA tjarsS tjarsF torders tfeasts tway tws tnow tfm tx p0  (fun w37_0_0 w37_1_0 H locs ls hx37_3_nlt00_0 hG hP hD hS hl => ?_) _ 0 0 _ _ ls (Nat.lt_succ_self _) hG (by decide) hP hD hS (lv_sub hl [0, 1, 2, 3] rfl)
  obtain ⟨hP, hD⟩ := z_re (L := [(w0, .inr (9, [.ref tnodes, .ref tpasses, .ref tjars, .ref torders, .ref tfeasts, .ref tway, .int tws, .int tnow, .int tfm, .int tx])), (tjars, .inr (6, [.int 9, .ref tjarsA, .int tjarsS])), (tjarsA, .inl (kA 0, 144, .inl tjarsF))]) hP hD
  refine lv_iload_n hx hb dX9_jarsAt_37 rfl (lv_at hl 1 rfl) ?_
  obtain ⟨hP9, hD9⟩ := z_sb (L' := [(w0, .inr (9, [.ref tnodes, .ref tpasses, .ref tjars, .ref torders, .ref tfeasts, .ref tway, .int tws, .int tnow, .int tfm, .int tx])), (tjars, .inr (6, [.int 9, .ref tjarsA, .int tjarsS])), (tjarsA, .inl (kA 0, 144, .inl tjarsF))]) hP hD [0, 1, 2] (by decide) rfl
  refine W.widen (k := 0) (n := 0) (Nat.le_of_ble_eq_true rfl) (Nat.le_of_ble_eq_true rfl) ?_
  exact W.iret (v := w37_1_0) hx hb hr (fun t ht hW => ⟨⟨w37_1_0, (w37_1_0), rfl, ⟨rfl, (hG.trans hG0.symm)⟩, by rw [ht]; exact hP9, hD9⟩, hS.F ht⟩) hS.2.2 dX9_jarsAt_38
set_option maxRecDepth 100000 in
def fX9_jarsThatAre (tjarsS : Int32) (tjarsF : Nat → Int32) : Int32 := bnd (fX9_jarsAt tjarsS tjarsF 13) (fun (r3 : Int32) => (tjarsS - r3))
set_option maxHeartbeats 4000000 in
set_option maxRecDepth 100000 in
theorem mX9_jarsThatAre (l : Launch) (dC : Nat → ClassId) (dI : Nat → Nat → Nat) (kA : Nat → ClassId) (sz : Nat) (w0 : Nat) (tnodes : Nat) (tpasses : Nat) (tjars : Nat) (tjarsA : Nat) (tjarsS : Int32) (tjarsF : Nat → Int32) (torders : Nat) (tfeasts : Nat) (tway : Nat) (tws : Int32) (tnow : Int32) (tfm : Int32) (tx : Int32)  : Met l yX9_jarsThatAre wsX9_jarsThatAre ({ frames := 2, cells := 0, slots := 0, locals := 46 }) (zPc dC dI kA sz [.ref w0] [(w0, .inr (9, [.ref tnodes, .ref tpasses, .ref tjars, .ref torders, .ref tfeasts, .ref tway, .int tws, .int tnow, .int tfm, .int tx])), (tjars, .inr (6, [.int 9, .ref tjarsA, .int tjarsS])), (tjarsA, .inl (kA 0, 144, .inl tjarsF))]) (va_Qi (fun (r : Int32) (u : Int32) => r = u ∧ u = fX9_jarsThatAre tjarsS tjarsF) (zB dC dI (va_A [(w0, .inr (9, [.ref tnodes, .ref tpasses, .ref tjars, .ref torders, .ref tfeasts, .ref tway, .int tws, .int tnow, .int tfm, .int tx])), (tjars, .inr (6, [.int 9, .ref tjarsA, .int tjarsS])), (tjarsA, .inl (kA 0, 144, .inl tjarsF))] sz) (fun (u : Int32) => [(w0, .inr (9, [.ref tnodes, .ref tpasses, .ref tjars, .ref torders, .ref tfeasts, .ref tway, .int tws, .int tnow, .int tfm, .int tx])), (tjars, .inr (6, [.int 9, .ref tjarsA, .int tjarsS])), (tjarsA, .inl (kA 0, 144, .inl tjarsF))])) (va_A [(w0, .inr (9, [.ref tnodes, .ref tpasses, .ref tjars, .ref torders, .ref tfeasts, .ref tway, .int tws, .int tnow, .int tfm, .int tx])), (tjars, .inr (6, [.int 9, .ref tjarsA, .int tjarsS])), (tjarsA, .inl (kA 0, 144, .inl tjarsF))] sz)) 0 0 (va_A [(w0, .inr (9, [.ref tnodes, .ref tpasses, .ref tjars, .ref torders, .ref tfeasts, .ref tway, .int tws, .int tnow, .int tfm, .int tx])), (tjars, .inr (6, [.int 9, .ref tjarsA, .int tjarsS])), (tjarsA, .inl (kA 0, 144, .inl tjarsF))] sz) := by
  refine Met.ofW (cc := cX9_jarsThatAre) (maxL := 1) (ret := (some .int)) pnX9 rfl ?_
  intro p e s m args below meth c s₁ B hml hv
  obtain ⟨rfl, hsz, hP, hK, hD0⟩ := hv
  have hx := B.exec
  have hb := B.bytes
  have hr := B.returns
  have hts := atoms_spec (ws := wsX9_jarsThatAre) B.pre
  have hown : s.vm.findClass RX9 = some m.cls := findClass_of_methodNamed B.named
  have hlocks := B.notSynchronized
  subst hsz
  have hD := hD0.self (sz := s.heap.size)
  generalize hAe : va_A [(w0, .inr (9, [.ref tnodes, .ref tpasses, .ref tjars, .ref torders, .ref tfeasts, .ref tway, .int tws, .int tnow, .int tfm, .int tx])), (tjars, .inr (6, [.int 9, .ref tjarsA, .int tjarsS])), (tjarsA, .inl (kA 0, 144, .inl tjarsF))] s.heap.size = A at hD ⊢
  have hA : ∀ q : Nat, s.heap.size ≤ q → A q := zA_of hAe
  have hS : va_S A s.heap s.heap [] := va_S.rf
  have hP : va_P (dC, dI) vwCl [(w0, .inr (9, [.ref tnodes, .ref tpasses, .ref tjars, .ref torders, .ref tfeasts, .ref tway, .int tws, .int tnow, .int tfm, .int tx])), (tjars, .inr (6, [.int 9, .ref tjarsA, .int tjarsS])), (tjarsA, .inl (kA 0, 144, .inl tjarsF))] s.heap := hP
  have hl := lv_entry ([.ref w0]) (n := 1) (Nat.le_of_ble_eq_true rfl)
  rw [lg_entry_eq]
  generalize (lg_sl ([.ref w0]) ++ List.replicate (1 - (lg_sl ([.ref w0])).length) Slot.unset).toArray = ls at hl ⊢
  have hl : lv_has ls 1 [(0, .ref w0)] := hl
  obtain ⟨G, hG0⟩ : ∃ G : Int32, fX9_jarsThatAre tjarsS tjarsF = G := ⟨_, rfl⟩
  have hG := hG0
  unfold fX9_jarsThatAre at hG
  refine lv_aload_n hx hb dX9_jarsThatAre_0 rfl (lv_at hl 0 rfl) ?_
  refine va_get (D := (dC, dI)) (ci := 9) (v := .ref tjars) (C := RX9) (T := TX9) (N := 10) hx hb hts iX9_jarsThatAre_X9 hown hK.1 hP 0 gz0 vcz9 2 (by decide) (kX9_jarsThatAre_1 hts) (fun _ h9 => h9) gz2 dX9_jarsThatAre_1 ?_
  refine va_get (D := (dC, dI)) (ci := 6) (v := .int tjarsS) (C := RX6) (T := TX6) (N := 3) hx hb hts iX9_jarsThatAre_X6 hown hK.1 hP 1 gz1 vcz6 2 (by decide) (kX9_jarsThatAre_2 hts) (fun _ h9 => h9) gz2 dX9_jarsThatAre_4 ?_
  refine lv_aload_n hx hb dX9_jarsThatAre_7 rfl (lv_at hl 0 rfl) ?_
  refine lv_bipush (v := 13) hx hb dX9_jarsThatAre_8 (by decide) ?_
  refine z_i (wr := []) (va_runV (As := [.int 13]) (rest := [.int tjarsS]) ⟨hx, hb, hml, hown, hts⟩ (mX9_jarsAt l dC dI kA _ w0 tnodes tpasses tjars tjarsA tjarsS tjarsF torders tfeasts tway tws tnow tfm tx 13) (cwV 1 hts gX9_jarsThatAre_X9_jarsAt rfl rfl rfl ⟨rfl, hdX9_jarsAt⟩ ⟨(Nat.le_of_ble_eq_true rfl), (Nat.le_of_ble_eq_true rfl)⟩) ⟨zPc.blind, va_recv (q := (RX9, TX9, 10)) hK.1 hP (ci := 9) (q0 := 0) rfl rfl, zPre hK (hP.sub [0, 1, 2] rfl) (hD.sub [0, 1, 2] (by decide) rfl)⟩ rfl rfl hl.1 rfl (lv_room (Nat.le_of_ble_eq_true rfl)) dX9_jarsThatAre_10 ⟨(Nat.le_of_ble_eq_true rfl), (Nat.le_of_ble_eq_true rfl)⟩) hP hD hS hA [0, 1, 2] [] rfl rfl (by decide) (by decide) (fun r3 u1 H locs hw2 hP hD hS => ?_)
  obtain ⟨er6, hp5⟩ := hw2
  have er6 : r3 = u1 := er6
  subst er6
  have er3 : r3 = fX9_jarsAt tjarsS tjarsF 13 := hp5
  have hG := zbnd hG er3
  obtain ⟨hP, hD⟩ := z_re (L := [(w0, .inr (9, [.ref tnodes, .ref tpasses, .ref tjars, .ref torders, .ref tfeasts, .ref tway, .int tws, .int tnow, .int tfm, .int tx])), (tjars, .inr (6, [.int 9, .ref tjarsA, .int tjarsS])), (tjarsA, .inl (kA 0, 144, .inl tjarsF))]) hP hD
  refine lv_isub hx hb dX9_jarsThatAre_13 ?_
  obtain ⟨hP9, hD9⟩ := z_sb (L' := [(w0, .inr (9, [.ref tnodes, .ref tpasses, .ref tjars, .ref torders, .ref tfeasts, .ref tway, .int tws, .int tnow, .int tfm, .int tx])), (tjars, .inr (6, [.int 9, .ref tjarsA, .int tjarsS])), (tjarsA, .inl (kA 0, 144, .inl tjarsF))]) hP hD [0, 1, 2] (by decide) rfl
  refine W.widen (k := 0) (n := 0) (Nat.le_of_ble_eq_true rfl) (Nat.le_of_ble_eq_true rfl) ?_
  exact W.iret (v := (tjarsS - r3)) hx hb hr (fun t ht hW => ⟨⟨(tjarsS - r3), ((tjarsS - r3)), rfl, ⟨rfl, (hG.trans hG0.symm)⟩, by rw [ht]; exact hP9, hD9⟩, hS.F ht⟩) hS.2.2 dX9_jarsThatAre_14
set_option maxRecDepth 100000 in
def fb_mX9_dropsOfAll_4 (tjarsS : Int32) (tjarsF : Nat → Int32) (E33 : Int32 → Int32 → Int32) (K : Int32 → Int32 → Int32) (l4_0 : Int32) (l4_1 : Int32) : Int32 := if tjarsS ≤ l4_0 then (E33 l4_0 l4_1) else (bnd (fX6_get_144 9 tjarsF l4_0 0) (fun (ry4_4 : Int32) => bnd ((l4_1 + ry4_4)) (fun (xy4_9 : Int32) => bnd ((l4_0 + 1)) (fun (xy4_10 : Int32) => K xy4_10 xy4_9))))
def fl_mX9_dropsOfAll_4 (tjarsS : Int32) (tjarsF : Nat → Int32) (E33 : Int32 → Int32 → Int32) : Nat → Int32 → Int32 → Int32
  | 0, _, _ => 0
  | n + 1, l4_0, l4_1 => fb_mX9_dropsOfAll_4 tjarsS tjarsF E33 (fl_mX9_dropsOfAll_4 tjarsS tjarsF E33 n) l4_0 l4_1
set_option maxHeartbeats 4000000 in
set_option maxRecDepth 100000 in
theorem lp_mX9_dropsOfAll_4 {p : Program} {l : Launch} {e : Env} {R : Room} {s : State} {m : MethodId} {args : Array Value} {below : List Frame} {meth : Method} {c : Code} {Q : State → Prop} {dC : Nat → ClassId} {dI : Nat → Nat → Nat} {kA : Nat → ClassId} {A : Nat → Prop} {H0 : Heap} {cells slots : Nat} (hx : p.tables.exec = Jvm.exec) (hb : c.code = cX9_dropsOfAll) (hml : c.maxLocals = 3) (hts : ∀ w ∈ wsX9_dropsOfAll, w.before args s = true) (hown : s.vm.findClass RX9 = some m.cls) (hK : zK dC dI kA s) (hA : ∀ q, H0.size ≤ q → A q) (hRf : 1 ≤ R.frames) (hRl : 23 ≤ R.locals) (hRc : cells ≤ R.cells) (hRs : slots ≤ R.slots) (w0 : Nat) (tnodes : Nat) (tnodesA : Nat) (tnodesS : Int32) (tnodesF : Nat → Int32) (tpasses : Nat) (tjars : Nat) (tjarsA : Nat) (tjarsS : Int32) (tjarsF : Nat → Int32) (torders : Nat) (tfeasts : Nat) (tway : Nat) (tws : Int32) (tnow : Int32) (tfm : Int32) (tx : Int32) {G : Int32} {E33 : Int32 → Int32 → Int32}  (k33 : ∀ (w33_0 : Int32) (w33_1 : Int32) (H : Heap) (locs : List Loc) (ls : Array Slot), ¬ w33_0 < 0 → E33 w33_0 w33_1 = G → va_P (dC, dI) vwCl [(w0, .inr (9, [.ref tnodes, .ref tpasses, .ref tjars, .ref torders, .ref tfeasts, .ref tway, .int tws, .int tnow, .int tfm, .int tx])), (tnodes, .inr (6, [.int 4, .ref tnodesA, .int tnodesS])), (tnodesA, .inl (kA 0, 48, .inl tnodesF)), (tjars, .inr (6, [.int 9, .ref tjarsA, .int tjarsS])), (tjarsA, .inl (kA 0, 144, .inl tjarsF))] H → va_D A [(w0, .inr (9, [.ref tnodes, .ref tpasses, .ref tjars, .ref torders, .ref tfeasts, .ref tway, .int tws, .int tnow, .int tfm, .int tx])), (tnodes, .inr (6, [.int 4, .ref tnodesA, .int tnodesS])), (tnodesA, .inl (kA 0, 48, .inl tnodesF)), (tjars, .inr (6, [.int 9, .ref tjarsA, .int tjarsS])), (tjarsA, .inl (kA 0, 144, .inl tjarsF))] → va_S A H0 H locs → lv_has ls 3 [(2, .int w33_0), (1, .int w33_1), (0, .ref w0)] → W p l e R s m args below meth c H locs cells slots Q (F0 m 33 ls []))  : ∀ (n : Nat) (l4_0 : Int32) (l4_1 : Int32) (H : Heap) (locs : List Loc) (ls : Array Slot), ((tjarsS : Int32).toInt - l4_0.toInt).toNat < n → fl_mX9_dropsOfAll_4 tjarsS tjarsF E33 n l4_0 l4_1 = G → ¬ l4_0 < 0 → va_P (dC, dI) vwCl [(w0, .inr (9, [.ref tnodes, .ref tpasses, .ref tjars, .ref torders, .ref tfeasts, .ref tway, .int tws, .int tnow, .int tfm, .int tx])), (tnodes, .inr (6, [.int 4, .ref tnodesA, .int tnodesS])), (tnodesA, .inl (kA 0, 48, .inl tnodesF)), (tjars, .inr (6, [.int 9, .ref tjarsA, .int tjarsS])), (tjarsA, .inl (kA 0, 144, .inl tjarsF))] H → va_D A [(w0, .inr (9, [.ref tnodes, .ref tpasses, .ref tjars, .ref torders, .ref tfeasts, .ref tway, .int tws, .int tnow, .int tfm, .int tx])), (tnodes, .inr (6, [.int 4, .ref tnodesA, .int tnodesS])), (tnodesA, .inl (kA 0, 48, .inl tnodesF)), (tjars, .inr (6, [.int 9, .ref tjarsA, .int tjarsS])), (tjarsA, .inl (kA 0, 144, .inl tjarsF))] → va_S A H0 H locs → lv_has ls 3 [(2, .int l4_0), (1, .int l4_1), (0, .ref w0)] → W p l e R s m args below meth c H locs cells slots Q (F0 m 4 ls []) := by
  intro n
  induction n with
  | zero =>
    intro l4_0 l4_1 H locs ls hn
    exact absurd hn (Nat.not_lt_zero _)
  | succ n ih =>
    intro l4_0 l4_1 H locs ls hn hG hi4 hP hD hS hl
    have hG : fb_mX9_dropsOfAll_4 tjarsS tjarsF E33 (fl_mX9_dropsOfAll_4 tjarsS tjarsF E33 n) l4_0 l4_1 = G := hG
    unfold fb_mX9_dropsOfAll_4 at hG
    refine lv_iload_n hx hb dX9_dropsOfAll_4 rfl (lv_at hl 0 rfl) ?_
    refine lv_aload_n hx hb dX9_dropsOfAll_5 rfl (lv_at hl 2 rfl) ?_
    refine va_get (D := (dC, dI)) (ci := 9) (v := .ref tjars) (C := RX9) (T := TX9) (N := 10) hx hb hts iX9_dropsOfAll_X9 hown hK.1 hP 0 gz0 vcz9 2 (by decide) (kX9_dropsOfAll_1 hts) (fun _ h9 => h9) gz2 dX9_dropsOfAll_6 ?_
    refine va_get (D := (dC, dI)) (ci := 6) (v := .int tjarsS) (C := RX6) (T := TX6) (N := 3) hx hb hts iX9_dropsOfAll_X6 hown hK.1 hP 3 gz3 vcz6 2 (by decide) (kX9_dropsOfAll_2 hts) (fun _ h9 => h9) gz2 dX9_dropsOfAll_9 ?_
    refine lv_icmp_ge (tgt := 33) hx hb dX9_dropsOfAll_12 (by decide) (fun c_y4_1 => ?_) (fun c_y4_1 => ?_)
    · have hG := zthen hG c_y4_1
      exact k33 l4_0 l4_1 H locs ls hi4 hG (hP.sub [0, 1, 2, 3, 4] rfl) (hD.sub [0, 1, 2, 3, 4] (by decide) rfl) hS (lv_sub hl [0, 1, 2] rfl)
    · have hG := zelse hG c_y4_1
      refine lv_iload_n hx hb dX9_dropsOfAll_15 rfl (lv_at hl 1 rfl) ?_
      refine lv_aload_n hx hb dX9_dropsOfAll_16 rfl (lv_at hl 2 rfl) ?_
      refine va_get (D := (dC, dI)) (ci := 9) (v := .ref tjars) (C := RX9) (T := TX9) (N := 10) hx hb hts iX9_dropsOfAll_X9 hown hK.1 hP 0 gz0 vcz9 2 (by decide) (kX9_dropsOfAll_1 hts) (fun _ h9 => h9) gz2 dX9_dropsOfAll_17 ?_
      refine lv_iload_n hx hb dX9_dropsOfAll_20 rfl (lv_at hl 0 rfl) ?_
      refine lv_iconst (v := 0) hx hb dX9_dropsOfAll_21 (by decide) ?_
      refine z_i (wr := [(w0, .inr (9, [.ref tnodes, .ref tpasses, .ref tjars, .ref torders, .ref tfeasts, .ref tway, .int tws, .int tnow, .int tfm, .int tx])), (tnodes, .inr (6, [.int 4, .ref tnodesA, .int tnodesS])), (tnodesA, .inl (kA 0, 48, .inl tnodesF))]) (va_runV (As := [.int l4_0, .int 0]) (rest := [.int l4_1]) ⟨hx, hb, hml, hown, hts⟩ (mX6_get_144 l dC dI kA _ tjars tjarsA 9 tjarsS tjarsF l4_0 0) (cwV 2 hts gX9_dropsOfAll_X6_get rfl rfl rfl ⟨rfl, hdX6_get⟩ ⟨(Nat.le_trans (Nat.le_of_ble_eq_true rfl) hRf), (Nat.le_trans (Nat.le_of_ble_eq_true rfl) hRl)⟩) ⟨zPc.blind, va_recv (q := (RX6, TX6, 3)) hK.1 hP (ci := 6) (q0 := 3) rfl rfl, zPre hK (hP.sub [3, 4] rfl) (hD.sub [3, 4] (by decide) rfl)⟩ rfl rfl hl.1 rfl (lv_room (Nat.le_of_ble_eq_true rfl)) dX9_dropsOfAll_22 ⟨hRc, hRs⟩) hP hD hS hA [3, 4] [0, 1, 2] rfl rfl (by decide) (by decide) (fun ry4_4 uy4_2 H locs hwy4_3 hP hD hS => ?_)
      obtain ⟨ery4_7, hpy4_6⟩ := hwy4_3
      have ery4_7 : ry4_4 = uy4_2 := ery4_7
      subst ery4_7
      have ery4_4 : ry4_4 = fX6_get_144 9 tjarsF l4_0 0 := hpy4_6
      have hG := zbnd hG ery4_4
      obtain ⟨hP, hD⟩ := z_re (L := [(w0, .inr (9, [.ref tnodes, .ref tpasses, .ref tjars, .ref torders, .ref tfeasts, .ref tway, .int tws, .int tnow, .int tfm, .int tx])), (tnodes, .inr (6, [.int 4, .ref tnodesA, .int tnodesS])), (tnodesA, .inl (kA 0, 48, .inl tnodesF)), (tjars, .inr (6, [.int 9, .ref tjarsA, .int tjarsS])), (tjarsA, .inl (kA 0, 144, .inl tjarsF))]) hP hD
      refine lv_iadd hx hb dX9_dropsOfAll_25 ?_
      refine lv_topi (fun xy4_9 exy4_9 => ?_)
      have hG := zbnd hG exy4_9
      refine lv_istore_n (lv' := [(1, .int xy4_9), (2, .int l4_0), (0, .ref w0)]) hx hb dX9_dropsOfAll_26 rfl hl (by decide) rfl (fun ls hl => ?_)
      obtain ⟨xy4_10, exy4_10⟩ : ∃ y : Int32, y = l4_0 + 1 := ⟨_, rfl⟩
      have hG := zbnd hG exy4_10
      refine lv_iinc (v := xy4_10) (lv' := [(2, .int xy4_10), (1, .int xy4_9), (0, .ref w0)]) hx hb dX9_dropsOfAll_27 hl (k := 1) rfl (by rw [exy4_10]; rfl) (by decide) rfl (fun ls hl => ?_)
      refine lv_goto (tgt := 4) hx hb dX9_dropsOfAll_30 (by decide) ?_
      exact ih xy4_10 xy4_9 H locs ls (z_up hn exy4_10 c_y4_1) hG (z_nn exy4_10 c_y4_1 hi4) (hP.sub [0, 1, 2, 3, 4] rfl) (hD.sub [0, 1, 2, 3, 4] (by decide) rfl) hS (lv_sub hl [0, 1, 2] rfl)
set_option maxRecDepth 100000 in
def fb_mX9_dropsOfAll_35 (tnodesS : Int32) (tnodesF : Nat → Int32) (E64 : Int32 → Int32 → Int32) (K : Int32 → Int32 → Int32) (l35_0 : Int32) (l35_1 : Int32) : Int32 := if tnodesS ≤ l35_0 then (E64 l35_0 l35_1) else (bnd (fX6_get_48 4 tnodesF l35_0 3) (fun (ry35_4 : Int32) => bnd ((l35_1 + ry35_4)) (fun (xy35_9 : Int32) => bnd ((l35_0 + 1)) (fun (xy35_10 : Int32) => K xy35_10 xy35_9))))
def fl_mX9_dropsOfAll_35 (tnodesS : Int32) (tnodesF : Nat → Int32) (E64 : Int32 → Int32 → Int32) : Nat → Int32 → Int32 → Int32
  | 0, _, _ => 0
  | n + 1, l35_0, l35_1 => fb_mX9_dropsOfAll_35 tnodesS tnodesF E64 (fl_mX9_dropsOfAll_35 tnodesS tnodesF E64 n) l35_0 l35_1
set_option maxHeartbeats 4000000 in
set_option maxRecDepth 100000 in
theorem lp_mX9_dropsOfAll_35 {p : Program} {l : Launch} {e : Env} {R : Room} {s : State} {m : MethodId} {args : Array Value} {below : List Frame} {meth : Method} {c : Code} {Q : State → Prop} {dC : Nat → ClassId} {dI : Nat → Nat → Nat} {kA : Nat → ClassId} {A : Nat → Prop} {H0 : Heap} {cells slots : Nat} (hx : p.tables.exec = Jvm.exec) (hb : c.code = cX9_dropsOfAll) (hml : c.maxLocals = 3) (hts : ∀ w ∈ wsX9_dropsOfAll, w.before args s = true) (hown : s.vm.findClass RX9 = some m.cls) (hK : zK dC dI kA s) (hA : ∀ q, H0.size ≤ q → A q) (hRf : 1 ≤ R.frames) (hRl : 23 ≤ R.locals) (hRc : cells ≤ R.cells) (hRs : slots ≤ R.slots) (w0 : Nat) (tnodes : Nat) (tnodesA : Nat) (tnodesS : Int32) (tnodesF : Nat → Int32) (tpasses : Nat) (tjars : Nat) (tjarsA : Nat) (tjarsS : Int32) (tjarsF : Nat → Int32) (torders : Nat) (tfeasts : Nat) (tway : Nat) (tws : Int32) (tnow : Int32) (tfm : Int32) (tx : Int32) (w33_0_0 : Int32) {G : Int32} {E64 : Int32 → Int32 → Int32} (hx33_2_nlt00_0 : ¬ w33_0_0 < 0) (k64 : ∀ (w64_0 : Int32) (w64_1 : Int32) (H : Heap) (locs : List Loc) (ls : Array Slot), ¬ w64_0 < 0 → E64 w64_0 w64_1 = G → va_P (dC, dI) vwCl [(w0, .inr (9, [.ref tnodes, .ref tpasses, .ref tjars, .ref torders, .ref tfeasts, .ref tway, .int tws, .int tnow, .int tfm, .int tx])), (tnodes, .inr (6, [.int 4, .ref tnodesA, .int tnodesS])), (tnodesA, .inl (kA 0, 48, .inl tnodesF)), (tjars, .inr (6, [.int 9, .ref tjarsA, .int tjarsS])), (tjarsA, .inl (kA 0, 144, .inl tjarsF))] H → va_D A [(w0, .inr (9, [.ref tnodes, .ref tpasses, .ref tjars, .ref torders, .ref tfeasts, .ref tway, .int tws, .int tnow, .int tfm, .int tx])), (tnodes, .inr (6, [.int 4, .ref tnodesA, .int tnodesS])), (tnodesA, .inl (kA 0, 48, .inl tnodesF)), (tjars, .inr (6, [.int 9, .ref tjarsA, .int tjarsS])), (tjarsA, .inl (kA 0, 144, .inl tjarsF))] → va_S A H0 H locs → lv_has ls 3 [(2, .int w64_0), (1, .int w64_1), (0, .ref w0)] → W p l e R s m args below meth c H locs cells slots Q (F0 m 64 ls []))  : ∀ (n : Nat) (l35_0 : Int32) (l35_1 : Int32) (H : Heap) (locs : List Loc) (ls : Array Slot), ((tnodesS : Int32).toInt - l35_0.toInt).toNat < n → fl_mX9_dropsOfAll_35 tnodesS tnodesF E64 n l35_0 l35_1 = G → ¬ l35_0 < 0 → va_P (dC, dI) vwCl [(w0, .inr (9, [.ref tnodes, .ref tpasses, .ref tjars, .ref torders, .ref tfeasts, .ref tway, .int tws, .int tnow, .int tfm, .int tx])), (tnodes, .inr (6, [.int 4, .ref tnodesA, .int tnodesS])), (tnodesA, .inl (kA 0, 48, .inl tnodesF)), (tjars, .inr (6, [.int 9, .ref tjarsA, .int tjarsS])), (tjarsA, .inl (kA 0, 144, .inl tjarsF))] H → va_D A [(w0, .inr (9, [.ref tnodes, .ref tpasses, .ref tjars, .ref torders, .ref tfeasts, .ref tway, .int tws, .int tnow, .int tfm, .int tx])), (tnodes, .inr (6, [.int 4, .ref tnodesA, .int tnodesS])), (tnodesA, .inl (kA 0, 48, .inl tnodesF)), (tjars, .inr (6, [.int 9, .ref tjarsA, .int tjarsS])), (tjarsA, .inl (kA 0, 144, .inl tjarsF))] → va_S A H0 H locs → lv_has ls 3 [(2, .int l35_0), (1, .int l35_1), (0, .ref w0)] → W p l e R s m args below meth c H locs cells slots Q (F0 m 35 ls []) := by
  intro n
  induction n with
  | zero =>
    intro l35_0 l35_1 H locs ls hn
    exact absurd hn (Nat.not_lt_zero _)
  | succ n ih =>
    intro l35_0 l35_1 H locs ls hn hG hi35 hP hD hS hl
    have hG : fb_mX9_dropsOfAll_35 tnodesS tnodesF E64 (fl_mX9_dropsOfAll_35 tnodesS tnodesF E64 n) l35_0 l35_1 = G := hG
    unfold fb_mX9_dropsOfAll_35 at hG
    refine lv_iload_n hx hb dX9_dropsOfAll_35 rfl (lv_at hl 0 rfl) ?_
    refine lv_aload_n hx hb dX9_dropsOfAll_36 rfl (lv_at hl 2 rfl) ?_
    refine va_get (D := (dC, dI)) (ci := 9) (v := .ref tnodes) (C := RX9) (T := TX9) (N := 10) hx hb hts iX9_dropsOfAll_X9 hown hK.1 hP 0 gz0 vcz9 0 (by decide) (kX9_dropsOfAll_3 hts) (fun _ h9 => h9) gz0 dX9_dropsOfAll_37 ?_
    refine va_get (D := (dC, dI)) (ci := 6) (v := .int tnodesS) (C := RX6) (T := TX6) (N := 3) hx hb hts iX9_dropsOfAll_X6 hown hK.1 hP 1 gz1 vcz6 2 (by decide) (kX9_dropsOfAll_2 hts) (fun _ h9 => h9) gz2 dX9_dropsOfAll_40 ?_
    refine lv_icmp_ge (tgt := 64) hx hb dX9_dropsOfAll_43 (by decide) (fun c_y35_1 => ?_) (fun c_y35_1 => ?_)
    · have hG := zthen hG c_y35_1
      exact k64 l35_0 l35_1 H locs ls hi35 hG (hP.sub [0, 1, 2, 3, 4] rfl) (hD.sub [0, 1, 2, 3, 4] (by decide) rfl) hS (lv_sub hl [0, 1, 2] rfl)
    · have hG := zelse hG c_y35_1
      refine lv_iload_n hx hb dX9_dropsOfAll_46 rfl (lv_at hl 1 rfl) ?_
      refine lv_aload_n hx hb dX9_dropsOfAll_47 rfl (lv_at hl 2 rfl) ?_
      refine va_get (D := (dC, dI)) (ci := 9) (v := .ref tnodes) (C := RX9) (T := TX9) (N := 10) hx hb hts iX9_dropsOfAll_X9 hown hK.1 hP 0 gz0 vcz9 0 (by decide) (kX9_dropsOfAll_3 hts) (fun _ h9 => h9) gz0 dX9_dropsOfAll_48 ?_
      refine lv_iload_n hx hb dX9_dropsOfAll_51 rfl (lv_at hl 0 rfl) ?_
      refine lv_iconst (v := 3) hx hb dX9_dropsOfAll_52 (by decide) ?_
      refine z_i (wr := [(w0, .inr (9, [.ref tnodes, .ref tpasses, .ref tjars, .ref torders, .ref tfeasts, .ref tway, .int tws, .int tnow, .int tfm, .int tx])), (tjars, .inr (6, [.int 9, .ref tjarsA, .int tjarsS])), (tjarsA, .inl (kA 0, 144, .inl tjarsF))]) (va_runV (As := [.int l35_0, .int 3]) (rest := [.int l35_1]) ⟨hx, hb, hml, hown, hts⟩ (mX6_get_48 l dC dI kA _ tnodes tnodesA 4 tnodesS tnodesF l35_0 3) (cwV 2 hts gX9_dropsOfAll_X6_get rfl rfl rfl ⟨rfl, hdX6_get⟩ ⟨(Nat.le_trans (Nat.le_of_ble_eq_true rfl) hRf), (Nat.le_trans (Nat.le_of_ble_eq_true rfl) hRl)⟩) ⟨zPc.blind, va_recv (q := (RX6, TX6, 3)) hK.1 hP (ci := 6) (q0 := 1) rfl rfl, zPre hK (hP.sub [1, 2] rfl) (hD.sub [1, 2] (by decide) rfl)⟩ rfl rfl hl.1 rfl (lv_room (Nat.le_of_ble_eq_true rfl)) dX9_dropsOfAll_53 ⟨hRc, hRs⟩) hP hD hS hA [1, 2] [0, 3, 4] rfl rfl (by decide) (by decide) (fun ry35_4 uy35_2 H locs hwy35_3 hP hD hS => ?_)
      obtain ⟨ery35_7, hpy35_6⟩ := hwy35_3
      have ery35_7 : ry35_4 = uy35_2 := ery35_7
      subst ery35_7
      have ery35_4 : ry35_4 = fX6_get_48 4 tnodesF l35_0 3 := hpy35_6
      have hG := zbnd hG ery35_4
      obtain ⟨hP, hD⟩ := z_re (L := [(w0, .inr (9, [.ref tnodes, .ref tpasses, .ref tjars, .ref torders, .ref tfeasts, .ref tway, .int tws, .int tnow, .int tfm, .int tx])), (tjars, .inr (6, [.int 9, .ref tjarsA, .int tjarsS])), (tjarsA, .inl (kA 0, 144, .inl tjarsF)), (tnodes, .inr (6, [.int 4, .ref tnodesA, .int tnodesS])), (tnodesA, .inl (kA 0, 48, .inl tnodesF))]) hP hD
      refine lv_iadd hx hb dX9_dropsOfAll_56 ?_
      refine lv_topi (fun xy35_9 exy35_9 => ?_)
      have hG := zbnd hG exy35_9
      refine lv_istore_n (lv' := [(1, .int xy35_9), (2, .int l35_0), (0, .ref w0)]) hx hb dX9_dropsOfAll_57 rfl hl (by decide) rfl (fun ls hl => ?_)
      obtain ⟨xy35_10, exy35_10⟩ : ∃ y : Int32, y = l35_0 + 1 := ⟨_, rfl⟩
      have hG := zbnd hG exy35_10
      refine lv_iinc (v := xy35_10) (lv' := [(2, .int xy35_10), (1, .int xy35_9), (0, .ref w0)]) hx hb dX9_dropsOfAll_58 hl (k := 1) rfl (by rw [exy35_10]; rfl) (by decide) rfl (fun ls hl => ?_)
      refine lv_goto (tgt := 35) hx hb dX9_dropsOfAll_61 (by decide) ?_
      exact ih xy35_10 xy35_9 H locs ls (z_up hn exy35_10 c_y35_1) hG (z_nn exy35_10 c_y35_1 hi35) (hP.sub [0, 3, 4, 1, 2] rfl) (hD.sub [0, 3, 4, 1, 2] (by decide) rfl) hS (lv_sub hl [0, 1, 2] rfl)
set_option maxRecDepth 100000 in
def fX9_dropsOfAll (tnodesS : Int32) (tnodesF : Nat → Int32) (tjarsS : Int32) (tjarsF : Nat → Int32) : Int32 := fl_mX9_dropsOfAll_4 tjarsS tjarsF (fun (w33_0_0 : Int32) (w33_1_0 : Int32) => fl_mX9_dropsOfAll_35 tnodesS tnodesF (fun (w64_0_1 : Int32) (w64_1_1 : Int32) => w64_1_1) (((tnodesS : Int32).toInt - (0 : Int32).toInt).toNat + 1) 0 w33_1_0) (((tjarsS : Int32).toInt - (0 : Int32).toInt).toNat + 1) 0 0
set_option maxHeartbeats 4000000 in
set_option maxRecDepth 100000 in
theorem mX9_dropsOfAll (l : Launch) (dC : Nat → ClassId) (dI : Nat → Nat → Nat) (kA : Nat → ClassId) (sz : Nat) (w0 : Nat) (tnodes : Nat) (tnodesA : Nat) (tnodesS : Int32) (tnodesF : Nat → Int32) (tpasses : Nat) (tjars : Nat) (tjarsA : Nat) (tjarsS : Int32) (tjarsF : Nat → Int32) (torders : Nat) (tfeasts : Nat) (tway : Nat) (tws : Int32) (tnow : Int32) (tfm : Int32) (tx : Int32)  : Met l yX9_dropsOfAll wsX9_dropsOfAll ({ frames := 1, cells := 0, slots := 0, locals := 23 }) (zPc dC dI kA sz [.ref w0] [(w0, .inr (9, [.ref tnodes, .ref tpasses, .ref tjars, .ref torders, .ref tfeasts, .ref tway, .int tws, .int tnow, .int tfm, .int tx])), (tnodes, .inr (6, [.int 4, .ref tnodesA, .int tnodesS])), (tnodesA, .inl (kA 0, 48, .inl tnodesF)), (tjars, .inr (6, [.int 9, .ref tjarsA, .int tjarsS])), (tjarsA, .inl (kA 0, 144, .inl tjarsF))]) (va_Qi (fun (r : Int32) (u : Int32) => r = u ∧ u = fX9_dropsOfAll tnodesS tnodesF tjarsS tjarsF) (zB dC dI (va_A [(w0, .inr (9, [.ref tnodes, .ref tpasses, .ref tjars, .ref torders, .ref tfeasts, .ref tway, .int tws, .int tnow, .int tfm, .int tx])), (tnodes, .inr (6, [.int 4, .ref tnodesA, .int tnodesS])), (tnodesA, .inl (kA 0, 48, .inl tnodesF)), (tjars, .inr (6, [.int 9, .ref tjarsA, .int tjarsS])), (tjarsA, .inl (kA 0, 144, .inl tjarsF))] sz) (fun (u : Int32) => [(w0, .inr (9, [.ref tnodes, .ref tpasses, .ref tjars, .ref torders, .ref tfeasts, .ref tway, .int tws, .int tnow, .int tfm, .int tx])), (tnodes, .inr (6, [.int 4, .ref tnodesA, .int tnodesS])), (tnodesA, .inl (kA 0, 48, .inl tnodesF)), (tjars, .inr (6, [.int 9, .ref tjarsA, .int tjarsS])), (tjarsA, .inl (kA 0, 144, .inl tjarsF))])) (va_A [(w0, .inr (9, [.ref tnodes, .ref tpasses, .ref tjars, .ref torders, .ref tfeasts, .ref tway, .int tws, .int tnow, .int tfm, .int tx])), (tnodes, .inr (6, [.int 4, .ref tnodesA, .int tnodesS])), (tnodesA, .inl (kA 0, 48, .inl tnodesF)), (tjars, .inr (6, [.int 9, .ref tjarsA, .int tjarsS])), (tjarsA, .inl (kA 0, 144, .inl tjarsF))] sz)) 0 0 (va_A [(w0, .inr (9, [.ref tnodes, .ref tpasses, .ref tjars, .ref torders, .ref tfeasts, .ref tway, .int tws, .int tnow, .int tfm, .int tx])), (tnodes, .inr (6, [.int 4, .ref tnodesA, .int tnodesS])), (tnodesA, .inl (kA 0, 48, .inl tnodesF)), (tjars, .inr (6, [.int 9, .ref tjarsA, .int tjarsS])), (tjarsA, .inl (kA 0, 144, .inl tjarsF))] sz) := by
  refine Met.ofW (cc := cX9_dropsOfAll) (maxL := 3) (ret := (some .int)) pnX9 rfl ?_
  intro p e s m args below meth c s₁ B hml hv
  obtain ⟨rfl, hsz, hP, hK, hD0⟩ := hv
  have hx := B.exec
  have hb := B.bytes
  have hr := B.returns
  have hts := atoms_spec (ws := wsX9_dropsOfAll) B.pre
  have hown : s.vm.findClass RX9 = some m.cls := findClass_of_methodNamed B.named
  have hlocks := B.notSynchronized
  subst hsz
  have hD := hD0.self (sz := s.heap.size)
  generalize hAe : va_A [(w0, .inr (9, [.ref tnodes, .ref tpasses, .ref tjars, .ref torders, .ref tfeasts, .ref tway, .int tws, .int tnow, .int tfm, .int tx])), (tnodes, .inr (6, [.int 4, .ref tnodesA, .int tnodesS])), (tnodesA, .inl (kA 0, 48, .inl tnodesF)), (tjars, .inr (6, [.int 9, .ref tjarsA, .int tjarsS])), (tjarsA, .inl (kA 0, 144, .inl tjarsF))] s.heap.size = A at hD ⊢
  have hA : ∀ q : Nat, s.heap.size ≤ q → A q := zA_of hAe
  have hS : va_S A s.heap s.heap [] := va_S.rf
  have hP : va_P (dC, dI) vwCl [(w0, .inr (9, [.ref tnodes, .ref tpasses, .ref tjars, .ref torders, .ref tfeasts, .ref tway, .int tws, .int tnow, .int tfm, .int tx])), (tnodes, .inr (6, [.int 4, .ref tnodesA, .int tnodesS])), (tnodesA, .inl (kA 0, 48, .inl tnodesF)), (tjars, .inr (6, [.int 9, .ref tjarsA, .int tjarsS])), (tjarsA, .inl (kA 0, 144, .inl tjarsF))] s.heap := hP
  have hl := lv_entry ([.ref w0]) (n := 3) (Nat.le_of_ble_eq_true rfl)
  rw [lg_entry_eq]
  generalize (lg_sl ([.ref w0]) ++ List.replicate (3 - (lg_sl ([.ref w0])).length) Slot.unset).toArray = ls at hl ⊢
  have hl : lv_has ls 3 [(0, .ref w0)] := hl
  obtain ⟨H, hHe⟩ : ∃ H : Heap, H = s.heap := ⟨_, rfl⟩
  obtain ⟨G, hG0⟩ : ∃ G : Int32, fX9_dropsOfAll tnodesS tnodesF tjarsS tjarsF = G := ⟨_, rfl⟩
  have hG := hG0
  unfold fX9_dropsOfAll at hG
  refine lv_iconst (v := 0) hx hb dX9_dropsOfAll_0 (by decide) ?_
  refine lv_istore_n (lv' := [(1, .int 0), (0, .ref w0)]) hx hb dX9_dropsOfAll_1 rfl hl (by decide) rfl (fun ls hl => ?_)
  refine lv_iconst (v := 0) hx hb dX9_dropsOfAll_2 (by decide) ?_
  refine lv_istore_n (lv' := [(2, .int 0), (1, .int 0), (0, .ref w0)]) hx hb dX9_dropsOfAll_3 rfl hl (by decide) rfl (fun ls hl => ?_)
  refine lp_mX9_dropsOfAll_4 hx hb hml hts hown hK hA (Nat.le_of_ble_eq_true rfl) (Nat.le_of_ble_eq_true rfl) (Nat.le_of_ble_eq_true rfl) (Nat.le_of_ble_eq_true rfl) w0 tnodes tnodesA tnodesS tnodesF tpasses tjars tjarsA tjarsS tjarsF torders tfeasts tway tws tnow tfm tx  (fun w33_0_0 w33_1_0 H locs ls hx33_2_nlt00_0 hG hP hD hS hl => ?_) _ 0 0 _ _ ls (Nat.lt_succ_self _) hG (by decide) hP hD hS (lv_sub hl [0, 1, 2] rfl)
  obtain ⟨hP, hD⟩ := z_re (L := [(w0, .inr (9, [.ref tnodes, .ref tpasses, .ref tjars, .ref torders, .ref tfeasts, .ref tway, .int tws, .int tnow, .int tfm, .int tx])), (tnodes, .inr (6, [.int 4, .ref tnodesA, .int tnodesS])), (tnodesA, .inl (kA 0, 48, .inl tnodesF)), (tjars, .inr (6, [.int 9, .ref tjarsA, .int tjarsS])), (tjarsA, .inl (kA 0, 144, .inl tjarsF))]) hP hD
  refine lv_iconst (v := 0) hx hb dX9_dropsOfAll_33 (by decide) ?_
  refine lv_istore_n (lv' := [(2, .int 0), (1, .int w33_1_0), (0, .ref w0)]) hx hb dX9_dropsOfAll_34 rfl hl (by decide) rfl (fun ls hl => ?_)
  refine lp_mX9_dropsOfAll_35 hx hb hml hts hown hK hA (Nat.le_of_ble_eq_true rfl) (Nat.le_of_ble_eq_true rfl) (Nat.le_of_ble_eq_true rfl) (Nat.le_of_ble_eq_true rfl) w0 tnodes tnodesA tnodesS tnodesF tpasses tjars tjarsA tjarsS tjarsF torders tfeasts tway tws tnow tfm tx w33_0_0 hx33_2_nlt00_0 (fun w64_0_1 w64_1_1 H locs ls hx64_2_nlt00_1 hG hP hD hS hl => ?_) _ 0 w33_1_0 _ _ ls (Nat.lt_succ_self _) hG (by decide) hP hD hS (lv_sub hl [0, 1, 2] rfl)
  obtain ⟨hP, hD⟩ := z_re (L := [(w0, .inr (9, [.ref tnodes, .ref tpasses, .ref tjars, .ref torders, .ref tfeasts, .ref tway, .int tws, .int tnow, .int tfm, .int tx])), (tnodes, .inr (6, [.int 4, .ref tnodesA, .int tnodesS])), (tnodesA, .inl (kA 0, 48, .inl tnodesF)), (tjars, .inr (6, [.int 9, .ref tjarsA, .int tjarsS])), (tjarsA, .inl (kA 0, 144, .inl tjarsF))]) hP hD
  refine lv_iload_n hx hb dX9_dropsOfAll_64 rfl (lv_at hl 1 rfl) ?_
  obtain ⟨hP9, hD9⟩ := z_sb (L' := [(w0, .inr (9, [.ref tnodes, .ref tpasses, .ref tjars, .ref torders, .ref tfeasts, .ref tway, .int tws, .int tnow, .int tfm, .int tx])), (tnodes, .inr (6, [.int 4, .ref tnodesA, .int tnodesS])), (tnodesA, .inl (kA 0, 48, .inl tnodesF)), (tjars, .inr (6, [.int 9, .ref tjarsA, .int tjarsS])), (tjarsA, .inl (kA 0, 144, .inl tjarsF))]) hP hD [0, 1, 2, 3, 4] (by decide) rfl
  refine W.widen (k := 0) (n := 0) (Nat.le_of_ble_eq_true rfl) (Nat.le_of_ble_eq_true rfl) ?_
  exact W.iret (v := w64_1_1) hx hb hr (fun t ht hW => ⟨⟨w64_1_1, (w64_1_1), rfl, ⟨rfl, (hG.trans hG0.symm)⟩, by rw [ht]; exact hP9, hD9⟩, hS.F ht⟩) hS.2.2 dX9_dropsOfAll_65
set_option maxRecDepth 100000 in
def fX9_draw (tx : Int32) : Int32 × Int32 := bnd ((tx.toInt64 * 1103515245)) (fun (x1 : Int64) => bnd ((x1 + 12345)) (fun (x2 : Int64) => bnd ((x2 &&& 2147483647)) (fun (x3 : Int64) => bnd (x3.toInt32) (fun (x4 : Int32) => bnd ((x4 / 65536)) (fun (x5 : Int32) => (x4, x5))))))
set_option maxHeartbeats 4000000 in
set_option maxRecDepth 100000 in
theorem mX9_draw (l : Launch) (dC : Nat → ClassId) (dI : Nat → Nat → Nat) (kA : Nat → ClassId) (sz : Nat) (w0 : Nat) (tnodes : Nat) (tpasses : Nat) (tjars : Nat) (torders : Nat) (tfeasts : Nat) (tway : Nat) (tws : Int32) (tnow : Int32) (tfm : Int32) (tx : Int32)  : Met l yX9_draw wsX9_draw ({ frames := 0, cells := 0, slots := 0, locals := 0 }) (zPc dC dI kA sz [.ref w0] [(w0, .inr (9, [.ref tnodes, .ref tpasses, .ref tjars, .ref torders, .ref tfeasts, .ref tway, .int tws, .int tnow, .int tfm, .int tx]))]) (va_Qi (fun (r : Int32) (u : Int32 × Int32) => r = u.2 ∧ (u.1, u.2) = fX9_draw tx) (zB dC dI (va_A [(w0, .inr (9, [.ref tnodes, .ref tpasses, .ref tjars, .ref torders, .ref tfeasts, .ref tway, .int tws, .int tnow, .int tfm, .int tx]))] sz) (fun (u : Int32 × Int32) => [(w0, .inr (9, [.ref tnodes, .ref tpasses, .ref tjars, .ref torders, .ref tfeasts, .ref tway, .int tws, .int tnow, .int tfm, .int u.1]))])) (va_A [(w0, .inr (9, [.ref tnodes, .ref tpasses, .ref tjars, .ref torders, .ref tfeasts, .ref tway, .int tws, .int tnow, .int tfm, .int tx]))] sz)) 0 0 (va_A [(w0, .inr (9, [.ref tnodes, .ref tpasses, .ref tjars, .ref torders, .ref tfeasts, .ref tway, .int tws, .int tnow, .int tfm, .int tx]))] sz) := by
  refine Met.ofW (cc := cX9_draw) (maxL := 1) (ret := (some .int)) pnX9 rfl ?_
  intro p e s m args below meth c s₁ B hml hv
  obtain ⟨rfl, hsz, hP, hK, hD0⟩ := hv
  have hx := B.exec
  have hb := B.bytes
  have hr := B.returns
  have hts := atoms_spec (ws := wsX9_draw) B.pre
  have hown : s.vm.findClass RX9 = some m.cls := findClass_of_methodNamed B.named
  have hlocks := B.notSynchronized
  subst hsz
  have hD := hD0.self (sz := s.heap.size)
  generalize hAe : va_A [(w0, .inr (9, [.ref tnodes, .ref tpasses, .ref tjars, .ref torders, .ref tfeasts, .ref tway, .int tws, .int tnow, .int tfm, .int tx]))] s.heap.size = A at hD ⊢
  have hA : ∀ q : Nat, s.heap.size ≤ q → A q := zA_of hAe
  have hS : va_S A s.heap s.heap [] := va_S.rf
  have hP : va_P (dC, dI) vwCl [(w0, .inr (9, [.ref tnodes, .ref tpasses, .ref tjars, .ref torders, .ref tfeasts, .ref tway, .int tws, .int tnow, .int tfm, .int tx]))] s.heap := hP
  have hl := lv_entry ([.ref w0]) (n := 1) (Nat.le_of_ble_eq_true rfl)
  rw [lg_entry_eq]
  generalize (lg_sl ([.ref w0]) ++ List.replicate (1 - (lg_sl ([.ref w0])).length) Slot.unset).toArray = ls at hl ⊢
  have hl : lv_has ls 1 [(0, .ref w0)] := hl
  obtain ⟨G, hG0⟩ : ∃ G : Int32 × Int32, fX9_draw tx = G := ⟨_, rfl⟩
  have hG := hG0
  unfold fX9_draw at hG
  refine lv_aload_n hx hb dX9_draw_0 rfl (lv_at hl 0 rfl) ?_
  refine lv_aload_n hx hb dX9_draw_1 rfl (lv_at hl 0 rfl) ?_
  refine va_get (D := (dC, dI)) (ci := 9) (v := .int tx) (C := RX9) (T := TX9) (N := 10) hx hb hts iX9_draw_X9 hown hK.1 hP 0 gz0 vcz9 9 (by decide) (kX9_draw_1 hts) (fun _ h9 => h9) gz9 dX9_draw_2 ?_
  refine lv_i2l hx hb dX9_draw_5 rfl ?_
  refine lv_ldc2 hx hb hown (kX9_draw_2 hts) dX9_draw_6 ?_
  refine lv_lmul hx hb dX9_draw_9 ?_
  refine lv_topl (fun x1 ex1 => ?_)
  have hG := zbnd hG ex1
  refine lv_ldc2 hx hb hown (kX9_draw_3 hts) dX9_draw_10 ?_
  refine lv_ladd hx hb dX9_draw_13 ?_
  refine lv_topl (fun x2 ex2 => ?_)
  have hG := zbnd hG ex2
  refine lv_ldc2 hx hb hown (kX9_draw_4 hts) dX9_draw_14 ?_
  refine lv_land hx hb dX9_draw_17 ?_
  refine lv_topl (fun x3 ex3 => ?_)
  have hG := zbnd hG ex3
  refine lv_l2i hx hb dX9_draw_18 rfl ?_
  refine lv_topi (fun x4 ex4 => ?_)
  have hG := zbnd hG ex4
  refine va_put (D := (dC, dI)) (ci := 9) (v := .int x4) (ty := .int) (C := RX9) (T := TX9) (N := 10) hx hb hts iX9_draw_X9 tyX9 tyX9_ok nmX9 hown hK.1 hP hD hS 0 gz0 vcz9 9 (by decide) (kX9_draw_1 hts) (fun _ h9 => h9) rfl pfdI rfl rfl (Nat.le_of_ble_eq_true rfl) dX9_draw_19 (fun H locs hP hD hS => ?_)
  obtain ⟨hP, hD⟩ := z_re (L := [(w0, .inr (9, [.ref tnodes, .ref tpasses, .ref tjars, .ref torders, .ref tfeasts, .ref tway, .int tws, .int tnow, .int tfm, .int x4]))]) hP hD
  refine lv_aload_n hx hb dX9_draw_22 rfl (lv_at hl 0 rfl) ?_
  refine va_get (D := (dC, dI)) (ci := 9) (v := .int x4) (C := RX9) (T := TX9) (N := 10) hx hb hts iX9_draw_X9 hown hK.1 hP 0 gz0 vcz9 9 (by decide) (kX9_draw_1 hts) (fun _ h9 => h9) gz9 dX9_draw_23 ?_
  refine lv_ldc hx hb hown (kX9_draw_5 hts) dX9_draw_26 ?_
  refine lv_idiv hx hb dX9_draw_28 (by decide) ?_
  refine lv_topi (fun x5 ex5 => ?_)
  have hG := zbnd hG ex5
  obtain ⟨hP9, hD9⟩ := z_sb (L' := [(w0, .inr (9, [.ref tnodes, .ref tpasses, .ref tjars, .ref torders, .ref tfeasts, .ref tway, .int tws, .int tnow, .int tfm, .int x4]))]) hP hD [0] (by decide) rfl
  refine W.widen (k := 0) (n := 0) (Nat.le_of_ble_eq_true rfl) (Nat.le_of_ble_eq_true rfl) ?_
  exact W.iret (v := x5) hx hb hr (fun t ht hW => ⟨⟨x5, (x4, x5), rfl, ⟨rfl, (hG.trans hG0.symm)⟩, by rw [ht]; exact hP9, hD9⟩, hS.F ht⟩) hS.2.2 dX9_draw_29
set_option maxRecDepth 100000 in
def fX9_copyFrom (tnodesF : Nat → Int32) (tpassesF : Nat → Int32) (tjarsF : Nat → Int32) (tordersF : Nat → Int32) (tfeastsF : Nat → Int32) (twayF : Nat → Int32) (snodesS : Int32) (snodesF : Nat → Int32) (spassesS : Int32) (spassesF : Nat → Int32) (sjarsS : Int32) (sjarsF : Nat → Int32) (sordersS : Int32) (sordersF : Nat → Int32) (sfeastsS : Int32) (sfeastsF : Nat → Int32) (swayS : Int32) (swayF : Nat → Int32) (sws : Int32) (snow : Int32) (sfm : Int32) (sx : Int32) : Int32 × Int32 × Int32 × Int32 × Int32 × (Nat → Int32) × Int32 × (Nat → Int32) × Int32 × (Nat → Int32) × Int32 × (Nat → Int32) × Int32 × (Nat → Int32) × Int32 × (Nat → Int32) := bnd (fX6_copyFrom_48 tnodesF snodesS snodesF) (fun (q7 : Int32 × (Nat → Int32)) => bnd (q7.1) (fun (o4 : Int32) => bnd (q7.2) (fun (o5 : Nat → Int32) => bnd (fX6_copyFrom_100 tpassesF spassesS spassesF) (fun (q14 : Int32 × (Nat → Int32)) => bnd (q14.1) (fun (o11 : Int32) => bnd (q14.2) (fun (o12 : Nat → Int32) => bnd (fX6_copyFrom_144 tjarsF sjarsS sjarsF) (fun (q21 : Int32 × (Nat → Int32)) => bnd (q21.1) (fun (o18 : Int32) => bnd (q21.2) (fun (o19 : Nat → Int32) => bnd (fX6_copyFrom_24 tordersF sordersS sordersF) (fun (q28 : Int32 × (Nat → Int32)) => bnd (q28.1) (fun (o25 : Int32) => bnd (q28.2) (fun (o26 : Nat → Int32) => bnd (fX6_copyFrom_24 tfeastsF sfeastsS sfeastsF) (fun (q35 : Int32 × (Nat → Int32)) => bnd (q35.1) (fun (o32 : Int32) => bnd (q35.2) (fun (o33 : Nat → Int32) => bnd (fX6_copyFrom_6 twayF swayS swayF) (fun (q42 : Int32 × (Nat → Int32)) => bnd (q42.1) (fun (o39 : Int32) => bnd (q42.2) (fun (o40 : Nat → Int32) => (sws, snow, sfm, sx, o4, o5, o11, o12, o18, o19, o25, o26, o32, o33, o39, o40)))))))))))))))))))
set_option maxHeartbeats 4000000 in
set_option maxRecDepth 100000 in
theorem mX9_copyFrom (l : Launch) (dC : Nat → ClassId) (dI : Nat → Nat → Nat) (kA : Nat → ClassId) (sz : Nat) (w0 : Nat) (tnodes : Nat) (tnodesA : Nat) (tnodesS : Int32) (tnodesF : Nat → Int32) (tpasses : Nat) (tpassesA : Nat) (tpassesS : Int32) (tpassesF : Nat → Int32) (tjars : Nat) (tjarsA : Nat) (tjarsS : Int32) (tjarsF : Nat → Int32) (torders : Nat) (tordersA : Nat) (tordersS : Int32) (tordersF : Nat → Int32) (tfeasts : Nat) (tfeastsA : Nat) (tfeastsS : Int32) (tfeastsF : Nat → Int32) (tway : Nat) (twayA : Nat) (twayS : Int32) (twayF : Nat → Int32) (tws : Int32) (tnow : Int32) (tfm : Int32) (tx : Int32) (v0 : Nat) (snodes : Nat) (snodesA : Nat) (snodesS : Int32) (snodesF : Nat → Int32) (spasses : Nat) (spassesA : Nat) (spassesS : Int32) (spassesF : Nat → Int32) (sjars : Nat) (sjarsA : Nat) (sjarsS : Int32) (sjarsF : Nat → Int32) (sorders : Nat) (sordersA : Nat) (sordersS : Int32) (sordersF : Nat → Int32) (sfeasts : Nat) (sfeastsA : Nat) (sfeastsS : Int32) (sfeastsF : Nat → Int32) (sway : Nat) (swayA : Nat) (swayS : Int32) (swayF : Nat → Int32) (sws : Int32) (snow : Int32) (sfm : Int32) (sx : Int32)  : Met l yX9_copyFrom wsX9_copyFrom ({ frames := 2, cells := 0, slots := 0, locals := 81 }) (zPc dC dI kA sz [.ref w0, .ref v0] [(w0, .inr (9, [.ref tnodes, .ref tpasses, .ref tjars, .ref torders, .ref tfeasts, .ref tway, .int tws, .int tnow, .int tfm, .int tx])), (tnodes, .inr (6, [.int 4, .ref tnodesA, .int tnodesS])), (tnodesA, .inl (kA 0, 48, .inl tnodesF)), (tpasses, .inr (6, [.int 5, .ref tpassesA, .int tpassesS])), (tpassesA, .inl (kA 0, 100, .inl tpassesF)), (tjars, .inr (6, [.int 9, .ref tjarsA, .int tjarsS])), (tjarsA, .inl (kA 0, 144, .inl tjarsF)), (torders, .inr (6, [.int 4, .ref tordersA, .int tordersS])), (tordersA, .inl (kA 0, 24, .inl tordersF)), (tfeasts, .inr (6, [.int 3, .ref tfeastsA, .int tfeastsS])), (tfeastsA, .inl (kA 0, 24, .inl tfeastsF)), (tway, .inr (6, [.int 1, .ref twayA, .int twayS])), (twayA, .inl (kA 0, 6, .inl twayF)), (v0, .inr (9, [.ref snodes, .ref spasses, .ref sjars, .ref sorders, .ref sfeasts, .ref sway, .int sws, .int snow, .int sfm, .int sx])), (snodes, .inr (6, [.int 4, .ref snodesA, .int snodesS])), (snodesA, .inl (kA 0, 48, .inl snodesF)), (spasses, .inr (6, [.int 5, .ref spassesA, .int spassesS])), (spassesA, .inl (kA 0, 100, .inl spassesF)), (sjars, .inr (6, [.int 9, .ref sjarsA, .int sjarsS])), (sjarsA, .inl (kA 0, 144, .inl sjarsF)), (sorders, .inr (6, [.int 4, .ref sordersA, .int sordersS])), (sordersA, .inl (kA 0, 24, .inl sordersF)), (sfeasts, .inr (6, [.int 3, .ref sfeastsA, .int sfeastsS])), (sfeastsA, .inl (kA 0, 24, .inl sfeastsF)), (sway, .inr (6, [.int 1, .ref swayA, .int swayS])), (swayA, .inl (kA 0, 6, .inl swayF))]) (va_Qv (fun (u : Int32 × Int32 × Int32 × Int32 × Int32 × (Nat → Int32) × Int32 × (Nat → Int32) × Int32 × (Nat → Int32) × Int32 × (Nat → Int32) × Int32 × (Nat → Int32) × Int32 × (Nat → Int32)) => (u.1, u.2.1, u.2.2.1, u.2.2.2.1, u.2.2.2.2.1, u.2.2.2.2.2.1, u.2.2.2.2.2.2.1, u.2.2.2.2.2.2.2.1, u.2.2.2.2.2.2.2.2.1, u.2.2.2.2.2.2.2.2.2.1, u.2.2.2.2.2.2.2.2.2.2.1, u.2.2.2.2.2.2.2.2.2.2.2.1, u.2.2.2.2.2.2.2.2.2.2.2.2.1, u.2.2.2.2.2.2.2.2.2.2.2.2.2.1, u.2.2.2.2.2.2.2.2.2.2.2.2.2.2.1, u.2.2.2.2.2.2.2.2.2.2.2.2.2.2.2) = fX9_copyFrom tnodesF tpassesF tjarsF tordersF tfeastsF twayF snodesS snodesF spassesS spassesF sjarsS sjarsF sordersS sordersF sfeastsS sfeastsF swayS swayF sws snow sfm sx) (zB dC dI (va_A [(w0, .inr (9, [.ref tnodes, .ref tpasses, .ref tjars, .ref torders, .ref tfeasts, .ref tway, .int tws, .int tnow, .int tfm, .int tx])), (tnodes, .inr (6, [.int 4, .ref tnodesA, .int tnodesS])), (tnodesA, .inl (kA 0, 48, .inl tnodesF)), (tpasses, .inr (6, [.int 5, .ref tpassesA, .int tpassesS])), (tpassesA, .inl (kA 0, 100, .inl tpassesF)), (tjars, .inr (6, [.int 9, .ref tjarsA, .int tjarsS])), (tjarsA, .inl (kA 0, 144, .inl tjarsF)), (torders, .inr (6, [.int 4, .ref tordersA, .int tordersS])), (tordersA, .inl (kA 0, 24, .inl tordersF)), (tfeasts, .inr (6, [.int 3, .ref tfeastsA, .int tfeastsS])), (tfeastsA, .inl (kA 0, 24, .inl tfeastsF)), (tway, .inr (6, [.int 1, .ref twayA, .int twayS])), (twayA, .inl (kA 0, 6, .inl twayF)), (v0, .inr (9, [.ref snodes, .ref spasses, .ref sjars, .ref sorders, .ref sfeasts, .ref sway, .int sws, .int snow, .int sfm, .int sx])), (snodes, .inr (6, [.int 4, .ref snodesA, .int snodesS])), (snodesA, .inl (kA 0, 48, .inl snodesF)), (spasses, .inr (6, [.int 5, .ref spassesA, .int spassesS])), (spassesA, .inl (kA 0, 100, .inl spassesF)), (sjars, .inr (6, [.int 9, .ref sjarsA, .int sjarsS])), (sjarsA, .inl (kA 0, 144, .inl sjarsF)), (sorders, .inr (6, [.int 4, .ref sordersA, .int sordersS])), (sordersA, .inl (kA 0, 24, .inl sordersF)), (sfeasts, .inr (6, [.int 3, .ref sfeastsA, .int sfeastsS])), (sfeastsA, .inl (kA 0, 24, .inl sfeastsF)), (sway, .inr (6, [.int 1, .ref swayA, .int swayS])), (swayA, .inl (kA 0, 6, .inl swayF))] sz) (fun (u : Int32 × Int32 × Int32 × Int32 × Int32 × (Nat → Int32) × Int32 × (Nat → Int32) × Int32 × (Nat → Int32) × Int32 × (Nat → Int32) × Int32 × (Nat → Int32) × Int32 × (Nat → Int32)) => [(w0, .inr (9, [.ref tnodes, .ref tpasses, .ref tjars, .ref torders, .ref tfeasts, .ref tway, .int u.1, .int u.2.1, .int u.2.2.1, .int u.2.2.2.1])), (tnodes, .inr (6, [.int 4, .ref tnodesA, .int u.2.2.2.2.1])), (tnodesA, .inl (kA 0, 48, .inl u.2.2.2.2.2.1)), (tpasses, .inr (6, [.int 5, .ref tpassesA, .int u.2.2.2.2.2.2.1])), (tpassesA, .inl (kA 0, 100, .inl u.2.2.2.2.2.2.2.1)), (tjars, .inr (6, [.int 9, .ref tjarsA, .int u.2.2.2.2.2.2.2.2.1])), (tjarsA, .inl (kA 0, 144, .inl u.2.2.2.2.2.2.2.2.2.1)), (torders, .inr (6, [.int 4, .ref tordersA, .int u.2.2.2.2.2.2.2.2.2.2.1])), (tordersA, .inl (kA 0, 24, .inl u.2.2.2.2.2.2.2.2.2.2.2.1)), (tfeasts, .inr (6, [.int 3, .ref tfeastsA, .int u.2.2.2.2.2.2.2.2.2.2.2.2.1])), (tfeastsA, .inl (kA 0, 24, .inl u.2.2.2.2.2.2.2.2.2.2.2.2.2.1)), (tway, .inr (6, [.int 1, .ref twayA, .int u.2.2.2.2.2.2.2.2.2.2.2.2.2.2.1])), (twayA, .inl (kA 0, 6, .inl u.2.2.2.2.2.2.2.2.2.2.2.2.2.2.2)), (v0, .inr (9, [.ref snodes, .ref spasses, .ref sjars, .ref sorders, .ref sfeasts, .ref sway, .int sws, .int snow, .int sfm, .int sx])), (snodes, .inr (6, [.int 4, .ref snodesA, .int snodesS])), (snodesA, .inl (kA 0, 48, .inl snodesF)), (spasses, .inr (6, [.int 5, .ref spassesA, .int spassesS])), (spassesA, .inl (kA 0, 100, .inl spassesF)), (sjars, .inr (6, [.int 9, .ref sjarsA, .int sjarsS])), (sjarsA, .inl (kA 0, 144, .inl sjarsF)), (sorders, .inr (6, [.int 4, .ref sordersA, .int sordersS])), (sordersA, .inl (kA 0, 24, .inl sordersF)), (sfeasts, .inr (6, [.int 3, .ref sfeastsA, .int sfeastsS])), (sfeastsA, .inl (kA 0, 24, .inl sfeastsF)), (sway, .inr (6, [.int 1, .ref swayA, .int swayS])), (swayA, .inl (kA 0, 6, .inl swayF))])) (va_A [(w0, .inr (9, [.ref tnodes, .ref tpasses, .ref tjars, .ref torders, .ref tfeasts, .ref tway, .int tws, .int tnow, .int tfm, .int tx])), (tnodes, .inr (6, [.int 4, .ref tnodesA, .int tnodesS])), (tnodesA, .inl (kA 0, 48, .inl tnodesF)), (tpasses, .inr (6, [.int 5, .ref tpassesA, .int tpassesS])), (tpassesA, .inl (kA 0, 100, .inl tpassesF)), (tjars, .inr (6, [.int 9, .ref tjarsA, .int tjarsS])), (tjarsA, .inl (kA 0, 144, .inl tjarsF)), (torders, .inr (6, [.int 4, .ref tordersA, .int tordersS])), (tordersA, .inl (kA 0, 24, .inl tordersF)), (tfeasts, .inr (6, [.int 3, .ref tfeastsA, .int tfeastsS])), (tfeastsA, .inl (kA 0, 24, .inl tfeastsF)), (tway, .inr (6, [.int 1, .ref twayA, .int twayS])), (twayA, .inl (kA 0, 6, .inl twayF)), (v0, .inr (9, [.ref snodes, .ref spasses, .ref sjars, .ref sorders, .ref sfeasts, .ref sway, .int sws, .int snow, .int sfm, .int sx])), (snodes, .inr (6, [.int 4, .ref snodesA, .int snodesS])), (snodesA, .inl (kA 0, 48, .inl snodesF)), (spasses, .inr (6, [.int 5, .ref spassesA, .int spassesS])), (spassesA, .inl (kA 0, 100, .inl spassesF)), (sjars, .inr (6, [.int 9, .ref sjarsA, .int sjarsS])), (sjarsA, .inl (kA 0, 144, .inl sjarsF)), (sorders, .inr (6, [.int 4, .ref sordersA, .int sordersS])), (sordersA, .inl (kA 0, 24, .inl sordersF)), (sfeasts, .inr (6, [.int 3, .ref sfeastsA, .int sfeastsS])), (sfeastsA, .inl (kA 0, 24, .inl sfeastsF)), (sway, .inr (6, [.int 1, .ref swayA, .int swayS])), (swayA, .inl (kA 0, 6, .inl swayF))] sz)) 0 0 (va_A [(w0, .inr (9, [.ref tnodes, .ref tpasses, .ref tjars, .ref torders, .ref tfeasts, .ref tway, .int tws, .int tnow, .int tfm, .int tx])), (tnodes, .inr (6, [.int 4, .ref tnodesA, .int tnodesS])), (tnodesA, .inl (kA 0, 48, .inl tnodesF)), (tpasses, .inr (6, [.int 5, .ref tpassesA, .int tpassesS])), (tpassesA, .inl (kA 0, 100, .inl tpassesF)), (tjars, .inr (6, [.int 9, .ref tjarsA, .int tjarsS])), (tjarsA, .inl (kA 0, 144, .inl tjarsF)), (torders, .inr (6, [.int 4, .ref tordersA, .int tordersS])), (tordersA, .inl (kA 0, 24, .inl tordersF)), (tfeasts, .inr (6, [.int 3, .ref tfeastsA, .int tfeastsS])), (tfeastsA, .inl (kA 0, 24, .inl tfeastsF)), (tway, .inr (6, [.int 1, .ref twayA, .int twayS])), (twayA, .inl (kA 0, 6, .inl twayF)), (v0, .inr (9, [.ref snodes, .ref spasses, .ref sjars, .ref sorders, .ref sfeasts, .ref sway, .int sws, .int snow, .int sfm, .int sx])), (snodes, .inr (6, [.int 4, .ref snodesA, .int snodesS])), (snodesA, .inl (kA 0, 48, .inl snodesF)), (spasses, .inr (6, [.int 5, .ref spassesA, .int spassesS])), (spassesA, .inl (kA 0, 100, .inl spassesF)), (sjars, .inr (6, [.int 9, .ref sjarsA, .int sjarsS])), (sjarsA, .inl (kA 0, 144, .inl sjarsF)), (sorders, .inr (6, [.int 4, .ref sordersA, .int sordersS])), (sordersA, .inl (kA 0, 24, .inl sordersF)), (sfeasts, .inr (6, [.int 3, .ref sfeastsA, .int sfeastsS])), (sfeastsA, .inl (kA 0, 24, .inl sfeastsF)), (sway, .inr (6, [.int 1, .ref swayA, .int swayS])), (swayA, .inl (kA 0, 6, .inl swayF))] sz) := by
  refine Met.ofW (cc := cX9_copyFrom) (maxL := 2) (ret := none) pnX9 rfl ?_
  intro p e s m args below meth c s₁ B hml hv
  obtain ⟨rfl, hsz, hP, hK, hD0⟩ := hv
  have hx := B.exec
  have hb := B.bytes
  have hr := B.returns
  have hts := atoms_spec (ws := wsX9_copyFrom) B.pre
  have hown : s.vm.findClass RX9 = some m.cls := findClass_of_methodNamed B.named
  have hlocks := B.notSynchronized
  subst hsz
  have hD := hD0.self (sz := s.heap.size)
  generalize hAe : va_A [(w0, .inr (9, [.ref tnodes, .ref tpasses, .ref tjars, .ref torders, .ref tfeasts, .ref tway, .int tws, .int tnow, .int tfm, .int tx])), (tnodes, .inr (6, [.int 4, .ref tnodesA, .int tnodesS])), (tnodesA, .inl (kA 0, 48, .inl tnodesF)), (tpasses, .inr (6, [.int 5, .ref tpassesA, .int tpassesS])), (tpassesA, .inl (kA 0, 100, .inl tpassesF)), (tjars, .inr (6, [.int 9, .ref tjarsA, .int tjarsS])), (tjarsA, .inl (kA 0, 144, .inl tjarsF)), (torders, .inr (6, [.int 4, .ref tordersA, .int tordersS])), (tordersA, .inl (kA 0, 24, .inl tordersF)), (tfeasts, .inr (6, [.int 3, .ref tfeastsA, .int tfeastsS])), (tfeastsA, .inl (kA 0, 24, .inl tfeastsF)), (tway, .inr (6, [.int 1, .ref twayA, .int twayS])), (twayA, .inl (kA 0, 6, .inl twayF)), (v0, .inr (9, [.ref snodes, .ref spasses, .ref sjars, .ref sorders, .ref sfeasts, .ref sway, .int sws, .int snow, .int sfm, .int sx])), (snodes, .inr (6, [.int 4, .ref snodesA, .int snodesS])), (snodesA, .inl (kA 0, 48, .inl snodesF)), (spasses, .inr (6, [.int 5, .ref spassesA, .int spassesS])), (spassesA, .inl (kA 0, 100, .inl spassesF)), (sjars, .inr (6, [.int 9, .ref sjarsA, .int sjarsS])), (sjarsA, .inl (kA 0, 144, .inl sjarsF)), (sorders, .inr (6, [.int 4, .ref sordersA, .int sordersS])), (sordersA, .inl (kA 0, 24, .inl sordersF)), (sfeasts, .inr (6, [.int 3, .ref sfeastsA, .int sfeastsS])), (sfeastsA, .inl (kA 0, 24, .inl sfeastsF)), (sway, .inr (6, [.int 1, .ref swayA, .int swayS])), (swayA, .inl (kA 0, 6, .inl swayF))] s.heap.size = A at hD ⊢
  have hA : ∀ q : Nat, s.heap.size ≤ q → A q := zA_of hAe
  have hS : va_S A s.heap s.heap [] := va_S.rf
  have hP : va_P (dC, dI) vwCl [(w0, .inr (9, [.ref tnodes, .ref tpasses, .ref tjars, .ref torders, .ref tfeasts, .ref tway, .int tws, .int tnow, .int tfm, .int tx])), (tnodes, .inr (6, [.int 4, .ref tnodesA, .int tnodesS])), (tnodesA, .inl (kA 0, 48, .inl tnodesF)), (tpasses, .inr (6, [.int 5, .ref tpassesA, .int tpassesS])), (tpassesA, .inl (kA 0, 100, .inl tpassesF)), (tjars, .inr (6, [.int 9, .ref tjarsA, .int tjarsS])), (tjarsA, .inl (kA 0, 144, .inl tjarsF)), (torders, .inr (6, [.int 4, .ref tordersA, .int tordersS])), (tordersA, .inl (kA 0, 24, .inl tordersF)), (tfeasts, .inr (6, [.int 3, .ref tfeastsA, .int tfeastsS])), (tfeastsA, .inl (kA 0, 24, .inl tfeastsF)), (tway, .inr (6, [.int 1, .ref twayA, .int twayS])), (twayA, .inl (kA 0, 6, .inl twayF)), (v0, .inr (9, [.ref snodes, .ref spasses, .ref sjars, .ref sorders, .ref sfeasts, .ref sway, .int sws, .int snow, .int sfm, .int sx])), (snodes, .inr (6, [.int 4, .ref snodesA, .int snodesS])), (snodesA, .inl (kA 0, 48, .inl snodesF)), (spasses, .inr (6, [.int 5, .ref spassesA, .int spassesS])), (spassesA, .inl (kA 0, 100, .inl spassesF)), (sjars, .inr (6, [.int 9, .ref sjarsA, .int sjarsS])), (sjarsA, .inl (kA 0, 144, .inl sjarsF)), (sorders, .inr (6, [.int 4, .ref sordersA, .int sordersS])), (sordersA, .inl (kA 0, 24, .inl sordersF)), (sfeasts, .inr (6, [.int 3, .ref sfeastsA, .int sfeastsS])), (sfeastsA, .inl (kA 0, 24, .inl sfeastsF)), (sway, .inr (6, [.int 1, .ref swayA, .int swayS])), (swayA, .inl (kA 0, 6, .inl swayF))] s.heap := hP
  have hl := lv_entry ([.ref w0, .ref v0]) (n := 2) (Nat.le_of_ble_eq_true rfl)
  rw [lg_entry_eq]
  generalize (lg_sl ([.ref w0, .ref v0]) ++ List.replicate (2 - (lg_sl ([.ref w0, .ref v0])).length) Slot.unset).toArray = ls at hl ⊢
  have hl : lv_has ls 2 [(0, .ref w0), (1, .ref v0)] := hl
  obtain ⟨G, hG0⟩ : ∃ G : Int32 × Int32 × Int32 × Int32 × Int32 × (Nat → Int32) × Int32 × (Nat → Int32) × Int32 × (Nat → Int32) × Int32 × (Nat → Int32) × Int32 × (Nat → Int32) × Int32 × (Nat → Int32), fX9_copyFrom tnodesF tpassesF tjarsF tordersF tfeastsF twayF snodesS snodesF spassesS spassesF sjarsS sjarsF sordersS sordersF sfeastsS sfeastsF swayS swayF sws snow sfm sx = G := ⟨_, rfl⟩
  have hG := hG0
  unfold fX9_copyFrom at hG
  refine lv_aload_n hx hb dX9_copyFrom_0 rfl (lv_at hl 0 rfl) ?_
  refine va_get (D := (dC, dI)) (ci := 9) (v := .ref tnodes) (C := RX9) (T := TX9) (N := 10) hx hb hts iX9_copyFrom_X9 hown hK.1 hP 0 gz0 vcz9 0 (by decide) (kX9_copyFrom_1 hts) (fun _ h9 => h9) gz0 dX9_copyFrom_1 ?_
  refine lv_aload_n hx hb dX9_copyFrom_4 rfl (lv_at hl 1 rfl) ?_
  refine va_get (D := (dC, dI)) (ci := 9) (v := .ref snodes) (C := RX9) (T := TX9) (N := 10) hx hb hts iX9_copyFrom_X9 hown hK.1 hP 13 gz13 vcz9 0 (by decide) (kX9_copyFrom_1 hts) (fun _ h9 => h9) gz0 dX9_copyFrom_5 ?_
  refine z_v (wr := [(w0, .inr (9, [.ref tnodes, .ref tpasses, .ref tjars, .ref torders, .ref tfeasts, .ref tway, .int tws, .int tnow, .int tfm, .int tx])), (tpasses, .inr (6, [.int 5, .ref tpassesA, .int tpassesS])), (tpassesA, .inl (kA 0, 100, .inl tpassesF)), (tjars, .inr (6, [.int 9, .ref tjarsA, .int tjarsS])), (tjarsA, .inl (kA 0, 144, .inl tjarsF)), (torders, .inr (6, [.int 4, .ref tordersA, .int tordersS])), (tordersA, .inl (kA 0, 24, .inl tordersF)), (tfeasts, .inr (6, [.int 3, .ref tfeastsA, .int tfeastsS])), (tfeastsA, .inl (kA 0, 24, .inl tfeastsF)), (tway, .inr (6, [.int 1, .ref twayA, .int twayS])), (twayA, .inl (kA 0, 6, .inl twayF)), (v0, .inr (9, [.ref snodes, .ref spasses, .ref sjars, .ref sorders, .ref sfeasts, .ref sway, .int sws, .int snow, .int sfm, .int sx])), (spasses, .inr (6, [.int 5, .ref spassesA, .int spassesS])), (spassesA, .inl (kA 0, 100, .inl spassesF)), (sjars, .inr (6, [.int 9, .ref sjarsA, .int sjarsS])), (sjarsA, .inl (kA 0, 144, .inl sjarsF)), (sorders, .inr (6, [.int 4, .ref sordersA, .int sordersS])), (sordersA, .inl (kA 0, 24, .inl sordersF)), (sfeasts, .inr (6, [.int 3, .ref sfeastsA, .int sfeastsS])), (sfeastsA, .inl (kA 0, 24, .inl sfeastsF)), (sway, .inr (6, [.int 1, .ref swayA, .int swayS])), (swayA, .inl (kA 0, 6, .inl swayF))]) (va_runV (As := [.ref snodes]) (rest := []) ⟨hx, hb, hml, hown, hts⟩ (mX6_copyFrom_48 l dC dI kA _ tnodes tnodesA 4 tnodesS tnodesF snodes snodesA 4 snodesS snodesF) (cwV 1 hts gX9_copyFrom_X6_copyFrom rfl rfl rfl ⟨rfl, hdX6_copyFrom⟩ ⟨(Nat.le_of_ble_eq_true rfl), (Nat.le_of_ble_eq_true rfl)⟩) ⟨zPc.blind, va_recv (q := (RX6, TX6, 3)) hK.1 hP (ci := 6) (q0 := 1) rfl rfl, zPre hK (hP.sub [1, 2, 14, 15] rfl) (hD.sub [1, 2, 14, 15] (by decide) rfl)⟩ rfl rfl hl.1 rfl (lv_room (Nat.le_of_ble_eq_true rfl)) dX9_copyFrom_8 ⟨(Nat.le_of_ble_eq_true rfl), (Nat.le_of_ble_eq_true rfl)⟩) hP hD hS hA [1, 2, 14, 15] [0, 3, 4, 5, 6, 7, 8, 9, 10, 11, 12, 13, 16, 17, 18, 19, 20, 21, 22, 23, 24, 25] rfl rfl (by decide) (by decide) (fun u1 H locs hw2 hP hD hS => ?_)
  obtain ⟨o4, o5⟩ := u1
  have hp6 := hw2
  obtain ⟨q7, eq7⟩ : ∃ y : Int32 × (Nat → Int32), y = fX6_copyFrom_48 tnodesF snodesS snodesF := ⟨_, rfl⟩
  have hG := zbnd hG eq7
  have eo4 : o4 = q7.1 := by rw [eq7]; exact congrArg (fun z : Int32 × (Nat → Int32) => z.1) hp6
  have hG := zbnd hG eo4
  have eo5 : o5 = q7.2 := by rw [eq7]; exact congrArg (fun z : Int32 × (Nat → Int32) => z.2) hp6
  have hG := zbnd hG eo5
  obtain ⟨hP, hD⟩ := z_re (L := [(w0, .inr (9, [.ref tnodes, .ref tpasses, .ref tjars, .ref torders, .ref tfeasts, .ref tway, .int tws, .int tnow, .int tfm, .int tx])), (tpasses, .inr (6, [.int 5, .ref tpassesA, .int tpassesS])), (tpassesA, .inl (kA 0, 100, .inl tpassesF)), (tjars, .inr (6, [.int 9, .ref tjarsA, .int tjarsS])), (tjarsA, .inl (kA 0, 144, .inl tjarsF)), (torders, .inr (6, [.int 4, .ref tordersA, .int tordersS])), (tordersA, .inl (kA 0, 24, .inl tordersF)), (tfeasts, .inr (6, [.int 3, .ref tfeastsA, .int tfeastsS])), (tfeastsA, .inl (kA 0, 24, .inl tfeastsF)), (tway, .inr (6, [.int 1, .ref twayA, .int twayS])), (twayA, .inl (kA 0, 6, .inl twayF)), (v0, .inr (9, [.ref snodes, .ref spasses, .ref sjars, .ref sorders, .ref sfeasts, .ref sway, .int sws, .int snow, .int sfm, .int sx])), (spasses, .inr (6, [.int 5, .ref spassesA, .int spassesS])), (spassesA, .inl (kA 0, 100, .inl spassesF)), (sjars, .inr (6, [.int 9, .ref sjarsA, .int sjarsS])), (sjarsA, .inl (kA 0, 144, .inl sjarsF)), (sorders, .inr (6, [.int 4, .ref sordersA, .int sordersS])), (sordersA, .inl (kA 0, 24, .inl sordersF)), (sfeasts, .inr (6, [.int 3, .ref sfeastsA, .int sfeastsS])), (sfeastsA, .inl (kA 0, 24, .inl sfeastsF)), (sway, .inr (6, [.int 1, .ref swayA, .int swayS])), (swayA, .inl (kA 0, 6, .inl swayF)), (tnodes, .inr (6, [.int 4, .ref tnodesA, .int o4])), (tnodesA, .inl (kA 0, 48, .inl o5)), (snodes, .inr (6, [.int 4, .ref snodesA, .int snodesS])), (snodesA, .inl (kA 0, 48, .inl snodesF))]) hP hD
  refine lv_aload_n hx hb dX9_copyFrom_11 rfl (lv_at hl 0 rfl) ?_
  refine va_get (D := (dC, dI)) (ci := 9) (v := .ref tpasses) (C := RX9) (T := TX9) (N := 10) hx hb hts iX9_copyFrom_X9 hown hK.1 hP 0 gz0 vcz9 1 (by decide) (kX9_copyFrom_2 hts) (fun _ h9 => h9) gz1 dX9_copyFrom_12 ?_
  refine lv_aload_n hx hb dX9_copyFrom_15 rfl (lv_at hl 1 rfl) ?_
  refine va_get (D := (dC, dI)) (ci := 9) (v := .ref spasses) (C := RX9) (T := TX9) (N := 10) hx hb hts iX9_copyFrom_X9 hown hK.1 hP 11 gz11 vcz9 1 (by decide) (kX9_copyFrom_2 hts) (fun _ h9 => h9) gz1 dX9_copyFrom_16 ?_
  refine z_v (wr := [(w0, .inr (9, [.ref tnodes, .ref tpasses, .ref tjars, .ref torders, .ref tfeasts, .ref tway, .int tws, .int tnow, .int tfm, .int tx])), (tjars, .inr (6, [.int 9, .ref tjarsA, .int tjarsS])), (tjarsA, .inl (kA 0, 144, .inl tjarsF)), (torders, .inr (6, [.int 4, .ref tordersA, .int tordersS])), (tordersA, .inl (kA 0, 24, .inl tordersF)), (tfeasts, .inr (6, [.int 3, .ref tfeastsA, .int tfeastsS])), (tfeastsA, .inl (kA 0, 24, .inl tfeastsF)), (tway, .inr (6, [.int 1, .ref twayA, .int twayS])), (twayA, .inl (kA 0, 6, .inl twayF)), (v0, .inr (9, [.ref snodes, .ref spasses, .ref sjars, .ref sorders, .ref sfeasts, .ref sway, .int sws, .int snow, .int sfm, .int sx])), (sjars, .inr (6, [.int 9, .ref sjarsA, .int sjarsS])), (sjarsA, .inl (kA 0, 144, .inl sjarsF)), (sorders, .inr (6, [.int 4, .ref sordersA, .int sordersS])), (sordersA, .inl (kA 0, 24, .inl sordersF)), (sfeasts, .inr (6, [.int 3, .ref sfeastsA, .int sfeastsS])), (sfeastsA, .inl (kA 0, 24, .inl sfeastsF)), (sway, .inr (6, [.int 1, .ref swayA, .int swayS])), (swayA, .inl (kA 0, 6, .inl swayF)), (tnodes, .inr (6, [.int 4, .ref tnodesA, .int o4])), (tnodesA, .inl (kA 0, 48, .inl o5)), (snodes, .inr (6, [.int 4, .ref snodesA, .int snodesS])), (snodesA, .inl (kA 0, 48, .inl snodesF))]) (va_runV (As := [.ref spasses]) (rest := []) ⟨hx, hb, hml, hown, hts⟩ (mX6_copyFrom_100 l dC dI kA _ tpasses tpassesA 5 tpassesS tpassesF spasses spassesA 5 spassesS spassesF) (cwV 1 hts gX9_copyFrom_X6_copyFrom rfl rfl rfl ⟨rfl, hdX6_copyFrom⟩ ⟨(Nat.le_of_ble_eq_true rfl), (Nat.le_of_ble_eq_true rfl)⟩) ⟨zPc.blind, va_recv (q := (RX6, TX6, 3)) hK.1 hP (ci := 6) (q0 := 1) rfl rfl, zPre hK (hP.sub [1, 2, 12, 13] rfl) (hD.sub [1, 2, 12, 13] (by decide) rfl)⟩ rfl rfl hl.1 rfl (lv_room (Nat.le_of_ble_eq_true rfl)) dX9_copyFrom_19 ⟨(Nat.le_of_ble_eq_true rfl), (Nat.le_of_ble_eq_true rfl)⟩) hP hD hS hA [1, 2, 12, 13] [0, 3, 4, 5, 6, 7, 8, 9, 10, 11, 14, 15, 16, 17, 18, 19, 20, 21, 22, 23, 24, 25] rfl rfl (by decide) (by decide) (fun u8 H locs hw9 hP hD hS => ?_)
  obtain ⟨o11, o12⟩ := u8
  have hp13 := hw9
  obtain ⟨q14, eq14⟩ : ∃ y : Int32 × (Nat → Int32), y = fX6_copyFrom_100 tpassesF spassesS spassesF := ⟨_, rfl⟩
  have hG := zbnd hG eq14
  have eo11 : o11 = q14.1 := by rw [eq14]; exact congrArg (fun z : Int32 × (Nat → Int32) => z.1) hp13
  have hG := zbnd hG eo11
  have eo12 : o12 = q14.2 := by rw [eq14]; exact congrArg (fun z : Int32 × (Nat → Int32) => z.2) hp13
  have hG := zbnd hG eo12
  obtain ⟨hP, hD⟩ := z_re (L := [(w0, .inr (9, [.ref tnodes, .ref tpasses, .ref tjars, .ref torders, .ref tfeasts, .ref tway, .int tws, .int tnow, .int tfm, .int tx])), (tjars, .inr (6, [.int 9, .ref tjarsA, .int tjarsS])), (tjarsA, .inl (kA 0, 144, .inl tjarsF)), (torders, .inr (6, [.int 4, .ref tordersA, .int tordersS])), (tordersA, .inl (kA 0, 24, .inl tordersF)), (tfeasts, .inr (6, [.int 3, .ref tfeastsA, .int tfeastsS])), (tfeastsA, .inl (kA 0, 24, .inl tfeastsF)), (tway, .inr (6, [.int 1, .ref twayA, .int twayS])), (twayA, .inl (kA 0, 6, .inl twayF)), (v0, .inr (9, [.ref snodes, .ref spasses, .ref sjars, .ref sorders, .ref sfeasts, .ref sway, .int sws, .int snow, .int sfm, .int sx])), (sjars, .inr (6, [.int 9, .ref sjarsA, .int sjarsS])), (sjarsA, .inl (kA 0, 144, .inl sjarsF)), (sorders, .inr (6, [.int 4, .ref sordersA, .int sordersS])), (sordersA, .inl (kA 0, 24, .inl sordersF)), (sfeasts, .inr (6, [.int 3, .ref sfeastsA, .int sfeastsS])), (sfeastsA, .inl (kA 0, 24, .inl sfeastsF)), (sway, .inr (6, [.int 1, .ref swayA, .int swayS])), (swayA, .inl (kA 0, 6, .inl swayF)), (tnodes, .inr (6, [.int 4, .ref tnodesA, .int o4])), (tnodesA, .inl (kA 0, 48, .inl o5)), (snodes, .inr (6, [.int 4, .ref snodesA, .int snodesS])), (snodesA, .inl (kA 0, 48, .inl snodesF)), (tpasses, .inr (6, [.int 5, .ref tpassesA, .int o11])), (tpassesA, .inl (kA 0, 100, .inl o12)), (spasses, .inr (6, [.int 5, .ref spassesA, .int spassesS])), (spassesA, .inl (kA 0, 100, .inl spassesF))]) hP hD
  refine lv_aload_n hx hb dX9_copyFrom_22 rfl (lv_at hl 0 rfl) ?_
  refine va_get (D := (dC, dI)) (ci := 9) (v := .ref tjars) (C := RX9) (T := TX9) (N := 10) hx hb hts iX9_copyFrom_X9 hown hK.1 hP 0 gz0 vcz9 2 (by decide) (kX9_copyFrom_3 hts) (fun _ h9 => h9) gz2 dX9_copyFrom_23 ?_
  refine lv_aload_n hx hb dX9_copyFrom_26 rfl (lv_at hl 1 rfl) ?_
  refine va_get (D := (dC, dI)) (ci := 9) (v := .ref sjars) (C := RX9) (T := TX9) (N := 10) hx hb hts iX9_copyFrom_X9 hown hK.1 hP 9 gz9 vcz9 2 (by decide) (kX9_copyFrom_3 hts) (fun _ h9 => h9) gz2 dX9_copyFrom_27 ?_
  refine z_v (wr := [(w0, .inr (9, [.ref tnodes, .ref tpasses, .ref tjars, .ref torders, .ref tfeasts, .ref tway, .int tws, .int tnow, .int tfm, .int tx])), (torders, .inr (6, [.int 4, .ref tordersA, .int tordersS])), (tordersA, .inl (kA 0, 24, .inl tordersF)), (tfeasts, .inr (6, [.int 3, .ref tfeastsA, .int tfeastsS])), (tfeastsA, .inl (kA 0, 24, .inl tfeastsF)), (tway, .inr (6, [.int 1, .ref twayA, .int twayS])), (twayA, .inl (kA 0, 6, .inl twayF)), (v0, .inr (9, [.ref snodes, .ref spasses, .ref sjars, .ref sorders, .ref sfeasts, .ref sway, .int sws, .int snow, .int sfm, .int sx])), (sorders, .inr (6, [.int 4, .ref sordersA, .int sordersS])), (sordersA, .inl (kA 0, 24, .inl sordersF)), (sfeasts, .inr (6, [.int 3, .ref sfeastsA, .int sfeastsS])), (sfeastsA, .inl (kA 0, 24, .inl sfeastsF)), (sway, .inr (6, [.int 1, .ref swayA, .int swayS])), (swayA, .inl (kA 0, 6, .inl swayF)), (tnodes, .inr (6, [.int 4, .ref tnodesA, .int o4])), (tnodesA, .inl (kA 0, 48, .inl o5)), (snodes, .inr (6, [.int 4, .ref snodesA, .int snodesS])), (snodesA, .inl (kA 0, 48, .inl snodesF)), (tpasses, .inr (6, [.int 5, .ref tpassesA, .int o11])), (tpassesA, .inl (kA 0, 100, .inl o12)), (spasses, .inr (6, [.int 5, .ref spassesA, .int spassesS])), (spassesA, .inl (kA 0, 100, .inl spassesF))]) (va_runV (As := [.ref sjars]) (rest := []) ⟨hx, hb, hml, hown, hts⟩ (mX6_copyFrom_144 l dC dI kA _ tjars tjarsA 9 tjarsS tjarsF sjars sjarsA 9 sjarsS sjarsF) (cwV 1 hts gX9_copyFrom_X6_copyFrom rfl rfl rfl ⟨rfl, hdX6_copyFrom⟩ ⟨(Nat.le_of_ble_eq_true rfl), (Nat.le_of_ble_eq_true rfl)⟩) ⟨zPc.blind, va_recv (q := (RX6, TX6, 3)) hK.1 hP (ci := 6) (q0 := 1) rfl rfl, zPre hK (hP.sub [1, 2, 10, 11] rfl) (hD.sub [1, 2, 10, 11] (by decide) rfl)⟩ rfl rfl hl.1 rfl (lv_room (Nat.le_of_ble_eq_true rfl)) dX9_copyFrom_30 ⟨(Nat.le_of_ble_eq_true rfl), (Nat.le_of_ble_eq_true rfl)⟩) hP hD hS hA [1, 2, 10, 11] [0, 3, 4, 5, 6, 7, 8, 9, 12, 13, 14, 15, 16, 17, 18, 19, 20, 21, 22, 23, 24, 25] rfl rfl (by decide) (by decide) (fun u15 H locs hw16 hP hD hS => ?_)
  obtain ⟨o18, o19⟩ := u15
  have hp20 := hw16
  obtain ⟨q21, eq21⟩ : ∃ y : Int32 × (Nat → Int32), y = fX6_copyFrom_144 tjarsF sjarsS sjarsF := ⟨_, rfl⟩
  have hG := zbnd hG eq21
  have eo18 : o18 = q21.1 := by rw [eq21]; exact congrArg (fun z : Int32 × (Nat → Int32) => z.1) hp20
  have hG := zbnd hG eo18
  have eo19 : o19 = q21.2 := by rw [eq21]; exact congrArg (fun z : Int32 × (Nat → Int32) => z.2) hp20
  have hG := zbnd hG eo19
  obtain ⟨hP, hD⟩ := z_re (L := [(w0, .inr (9, [.ref tnodes, .ref tpasses, .ref tjars, .ref torders, .ref tfeasts, .ref tway, .int tws, .int tnow, .int tfm, .int tx])), (torders, .inr (6, [.int 4, .ref tordersA, .int tordersS])), (tordersA, .inl (kA 0, 24, .inl tordersF)), (tfeasts, .inr (6, [.int 3, .ref tfeastsA, .int tfeastsS])), (tfeastsA, .inl (kA 0, 24, .inl tfeastsF)), (tway, .inr (6, [.int 1, .ref twayA, .int twayS])), (twayA, .inl (kA 0, 6, .inl twayF)), (v0, .inr (9, [.ref snodes, .ref spasses, .ref sjars, .ref sorders, .ref sfeasts, .ref sway, .int sws, .int snow, .int sfm, .int sx])), (sorders, .inr (6, [.int 4, .ref sordersA, .int sordersS])), (sordersA, .inl (kA 0, 24, .inl sordersF)), (sfeasts, .inr (6, [.int 3, .ref sfeastsA, .int sfeastsS])), (sfeastsA, .inl (kA 0, 24, .inl sfeastsF)), (sway, .inr (6, [.int 1, .ref swayA, .int swayS])), (swayA, .inl (kA 0, 6, .inl swayF)), (tnodes, .inr (6, [.int 4, .ref tnodesA, .int o4])), (tnodesA, .inl (kA 0, 48, .inl o5)), (snodes, .inr (6, [.int 4, .ref snodesA, .int snodesS])), (snodesA, .inl (kA 0, 48, .inl snodesF)), (tpasses, .inr (6, [.int 5, .ref tpassesA, .int o11])), (tpassesA, .inl (kA 0, 100, .inl o12)), (spasses, .inr (6, [.int 5, .ref spassesA, .int spassesS])), (spassesA, .inl (kA 0, 100, .inl spassesF)), (tjars, .inr (6, [.int 9, .ref tjarsA, .int o18])), (tjarsA, .inl (kA 0, 144, .inl o19)), (sjars, .inr (6, [.int 9, .ref sjarsA, .int sjarsS])), (sjarsA, .inl (kA 0, 144, .inl sjarsF))]) hP hD
  refine lv_aload_n hx hb dX9_copyFrom_33 rfl (lv_at hl 0 rfl) ?_
  refine va_get (D := (dC, dI)) (ci := 9) (v := .ref torders) (C := RX9) (T := TX9) (N := 10) hx hb hts iX9_copyFrom_X9 hown hK.1 hP 0 gz0 vcz9 3 (by decide) (kX9_copyFrom_4 hts) (fun _ h9 => h9) gz3 dX9_copyFrom_34 ?_
  refine lv_aload_n hx hb dX9_copyFrom_37 rfl (lv_at hl 1 rfl) ?_
  refine va_get (D := (dC, dI)) (ci := 9) (v := .ref sorders) (C := RX9) (T := TX9) (N := 10) hx hb hts iX9_copyFrom_X9 hown hK.1 hP 7 gz7 vcz9 3 (by decide) (kX9_copyFrom_4 hts) (fun _ h9 => h9) gz3 dX9_copyFrom_38 ?_
  refine z_v (wr := [(w0, .inr (9, [.ref tnodes, .ref tpasses, .ref tjars, .ref torders, .ref tfeasts, .ref tway, .int tws, .int tnow, .int tfm, .int tx])), (tfeasts, .inr (6, [.int 3, .ref tfeastsA, .int tfeastsS])), (tfeastsA, .inl (kA 0, 24, .inl tfeastsF)), (tway, .inr (6, [.int 1, .ref twayA, .int twayS])), (twayA, .inl (kA 0, 6, .inl twayF)), (v0, .inr (9, [.ref snodes, .ref spasses, .ref sjars, .ref sorders, .ref sfeasts, .ref sway, .int sws, .int snow, .int sfm, .int sx])), (sfeasts, .inr (6, [.int 3, .ref sfeastsA, .int sfeastsS])), (sfeastsA, .inl (kA 0, 24, .inl sfeastsF)), (sway, .inr (6, [.int 1, .ref swayA, .int swayS])), (swayA, .inl (kA 0, 6, .inl swayF)), (tnodes, .inr (6, [.int 4, .ref tnodesA, .int o4])), (tnodesA, .inl (kA 0, 48, .inl o5)), (snodes, .inr (6, [.int 4, .ref snodesA, .int snodesS])), (snodesA, .inl (kA 0, 48, .inl snodesF)), (tpasses, .inr (6, [.int 5, .ref tpassesA, .int o11])), (tpassesA, .inl (kA 0, 100, .inl o12)), (spasses, .inr (6, [.int 5, .ref spassesA, .int spassesS])), (spassesA, .inl (kA 0, 100, .inl spassesF)), (tjars, .inr (6, [.int 9, .ref tjarsA, .int o18])), (tjarsA, .inl (kA 0, 144, .inl o19)), (sjars, .inr (6, [.int 9, .ref sjarsA, .int sjarsS])), (sjarsA, .inl (kA 0, 144, .inl sjarsF))]) (va_runV (As := [.ref sorders]) (rest := []) ⟨hx, hb, hml, hown, hts⟩ (mX6_copyFrom_24 l dC dI kA _ torders tordersA 4 tordersS tordersF sorders sordersA 4 sordersS sordersF) (cwV 1 hts gX9_copyFrom_X6_copyFrom rfl rfl rfl ⟨rfl, hdX6_copyFrom⟩ ⟨(Nat.le_of_ble_eq_true rfl), (Nat.le_of_ble_eq_true rfl)⟩) ⟨zPc.blind, va_recv (q := (RX6, TX6, 3)) hK.1 hP (ci := 6) (q0 := 1) rfl rfl, zPre hK (hP.sub [1, 2, 8, 9] rfl) (hD.sub [1, 2, 8, 9] (by decide) rfl)⟩ rfl rfl hl.1 rfl (lv_room (Nat.le_of_ble_eq_true rfl)) dX9_copyFrom_41 ⟨(Nat.le_of_ble_eq_true rfl), (Nat.le_of_ble_eq_true rfl)⟩) hP hD hS hA [1, 2, 8, 9] [0, 3, 4, 5, 6, 7, 10, 11, 12, 13, 14, 15, 16, 17, 18, 19, 20, 21, 22, 23, 24, 25] rfl rfl (by decide) (by decide) (fun u22 H locs hw23 hP hD hS => ?_)
  obtain ⟨o25, o26⟩ := u22
  have hp27 := hw23
  obtain ⟨q28, eq28⟩ : ∃ y : Int32 × (Nat → Int32), y = fX6_copyFrom_24 tordersF sordersS sordersF := ⟨_, rfl⟩
  have hG := zbnd hG eq28
  have eo25 : o25 = q28.1 := by rw [eq28]; exact congrArg (fun z : Int32 × (Nat → Int32) => z.1) hp27
  have hG := zbnd hG eo25
  have eo26 : o26 = q28.2 := by rw [eq28]; exact congrArg (fun z : Int32 × (Nat → Int32) => z.2) hp27
  have hG := zbnd hG eo26
  obtain ⟨hP, hD⟩ := z_re (L := [(w0, .inr (9, [.ref tnodes, .ref tpasses, .ref tjars, .ref torders, .ref tfeasts, .ref tway, .int tws, .int tnow, .int tfm, .int tx])), (tfeasts, .inr (6, [.int 3, .ref tfeastsA, .int tfeastsS])), (tfeastsA, .inl (kA 0, 24, .inl tfeastsF)), (tway, .inr (6, [.int 1, .ref twayA, .int twayS])), (twayA, .inl (kA 0, 6, .inl twayF)), (v0, .inr (9, [.ref snodes, .ref spasses, .ref sjars, .ref sorders, .ref sfeasts, .ref sway, .int sws, .int snow, .int sfm, .int sx])), (sfeasts, .inr (6, [.int 3, .ref sfeastsA, .int sfeastsS])), (sfeastsA, .inl (kA 0, 24, .inl sfeastsF)), (sway, .inr (6, [.int 1, .ref swayA, .int swayS])), (swayA, .inl (kA 0, 6, .inl swayF)), (tnodes, .inr (6, [.int 4, .ref tnodesA, .int o4])), (tnodesA, .inl (kA 0, 48, .inl o5)), (snodes, .inr (6, [.int 4, .ref snodesA, .int snodesS])), (snodesA, .inl (kA 0, 48, .inl snodesF)), (tpasses, .inr (6, [.int 5, .ref tpassesA, .int o11])), (tpassesA, .inl (kA 0, 100, .inl o12)), (spasses, .inr (6, [.int 5, .ref spassesA, .int spassesS])), (spassesA, .inl (kA 0, 100, .inl spassesF)), (tjars, .inr (6, [.int 9, .ref tjarsA, .int o18])), (tjarsA, .inl (kA 0, 144, .inl o19)), (sjars, .inr (6, [.int 9, .ref sjarsA, .int sjarsS])), (sjarsA, .inl (kA 0, 144, .inl sjarsF)), (torders, .inr (6, [.int 4, .ref tordersA, .int o25])), (tordersA, .inl (kA 0, 24, .inl o26)), (sorders, .inr (6, [.int 4, .ref sordersA, .int sordersS])), (sordersA, .inl (kA 0, 24, .inl sordersF))]) hP hD
  refine lv_aload_n hx hb dX9_copyFrom_44 rfl (lv_at hl 0 rfl) ?_
  refine va_get (D := (dC, dI)) (ci := 9) (v := .ref tfeasts) (C := RX9) (T := TX9) (N := 10) hx hb hts iX9_copyFrom_X9 hown hK.1 hP 0 gz0 vcz9 4 (by decide) (kX9_copyFrom_5 hts) (fun _ h9 => h9) gz4 dX9_copyFrom_45 ?_
  refine lv_aload_n hx hb dX9_copyFrom_48 rfl (lv_at hl 1 rfl) ?_
  refine va_get (D := (dC, dI)) (ci := 9) (v := .ref sfeasts) (C := RX9) (T := TX9) (N := 10) hx hb hts iX9_copyFrom_X9 hown hK.1 hP 5 gz5 vcz9 4 (by decide) (kX9_copyFrom_5 hts) (fun _ h9 => h9) gz4 dX9_copyFrom_49 ?_
  refine z_v (wr := [(w0, .inr (9, [.ref tnodes, .ref tpasses, .ref tjars, .ref torders, .ref tfeasts, .ref tway, .int tws, .int tnow, .int tfm, .int tx])), (tway, .inr (6, [.int 1, .ref twayA, .int twayS])), (twayA, .inl (kA 0, 6, .inl twayF)), (v0, .inr (9, [.ref snodes, .ref spasses, .ref sjars, .ref sorders, .ref sfeasts, .ref sway, .int sws, .int snow, .int sfm, .int sx])), (sway, .inr (6, [.int 1, .ref swayA, .int swayS])), (swayA, .inl (kA 0, 6, .inl swayF)), (tnodes, .inr (6, [.int 4, .ref tnodesA, .int o4])), (tnodesA, .inl (kA 0, 48, .inl o5)), (snodes, .inr (6, [.int 4, .ref snodesA, .int snodesS])), (snodesA, .inl (kA 0, 48, .inl snodesF)), (tpasses, .inr (6, [.int 5, .ref tpassesA, .int o11])), (tpassesA, .inl (kA 0, 100, .inl o12)), (spasses, .inr (6, [.int 5, .ref spassesA, .int spassesS])), (spassesA, .inl (kA 0, 100, .inl spassesF)), (tjars, .inr (6, [.int 9, .ref tjarsA, .int o18])), (tjarsA, .inl (kA 0, 144, .inl o19)), (sjars, .inr (6, [.int 9, .ref sjarsA, .int sjarsS])), (sjarsA, .inl (kA 0, 144, .inl sjarsF)), (torders, .inr (6, [.int 4, .ref tordersA, .int o25])), (tordersA, .inl (kA 0, 24, .inl o26)), (sorders, .inr (6, [.int 4, .ref sordersA, .int sordersS])), (sordersA, .inl (kA 0, 24, .inl sordersF))]) (va_runV (As := [.ref sfeasts]) (rest := []) ⟨hx, hb, hml, hown, hts⟩ (mX6_copyFrom_24 l dC dI kA _ tfeasts tfeastsA 3 tfeastsS tfeastsF sfeasts sfeastsA 3 sfeastsS sfeastsF) (cwV 1 hts gX9_copyFrom_X6_copyFrom rfl rfl rfl ⟨rfl, hdX6_copyFrom⟩ ⟨(Nat.le_of_ble_eq_true rfl), (Nat.le_of_ble_eq_true rfl)⟩) ⟨zPc.blind, va_recv (q := (RX6, TX6, 3)) hK.1 hP (ci := 6) (q0 := 1) rfl rfl, zPre hK (hP.sub [1, 2, 6, 7] rfl) (hD.sub [1, 2, 6, 7] (by decide) rfl)⟩ rfl rfl hl.1 rfl (lv_room (Nat.le_of_ble_eq_true rfl)) dX9_copyFrom_52 ⟨(Nat.le_of_ble_eq_true rfl), (Nat.le_of_ble_eq_true rfl)⟩) hP hD hS hA [1, 2, 6, 7] [0, 3, 4, 5, 8, 9, 10, 11, 12, 13, 14, 15, 16, 17, 18, 19, 20, 21, 22, 23, 24, 25] rfl rfl (by decide) (by decide) (fun u29 H locs hw30 hP hD hS => ?_)
  obtain ⟨o32, o33⟩ := u29
  have hp34 := hw30
  obtain ⟨q35, eq35⟩ : ∃ y : Int32 × (Nat → Int32), y = fX6_copyFrom_24 tfeastsF sfeastsS sfeastsF := ⟨_, rfl⟩
  have hG := zbnd hG eq35
  have eo32 : o32 = q35.1 := by rw [eq35]; exact congrArg (fun z : Int32 × (Nat → Int32) => z.1) hp34
  have hG := zbnd hG eo32
  have eo33 : o33 = q35.2 := by rw [eq35]; exact congrArg (fun z : Int32 × (Nat → Int32) => z.2) hp34
  have hG := zbnd hG eo33
  obtain ⟨hP, hD⟩ := z_re (L := [(w0, .inr (9, [.ref tnodes, .ref tpasses, .ref tjars, .ref torders, .ref tfeasts, .ref tway, .int tws, .int tnow, .int tfm, .int tx])), (tway, .inr (6, [.int 1, .ref twayA, .int twayS])), (twayA, .inl (kA 0, 6, .inl twayF)), (v0, .inr (9, [.ref snodes, .ref spasses, .ref sjars, .ref sorders, .ref sfeasts, .ref sway, .int sws, .int snow, .int sfm, .int sx])), (sway, .inr (6, [.int 1, .ref swayA, .int swayS])), (swayA, .inl (kA 0, 6, .inl swayF)), (tnodes, .inr (6, [.int 4, .ref tnodesA, .int o4])), (tnodesA, .inl (kA 0, 48, .inl o5)), (snodes, .inr (6, [.int 4, .ref snodesA, .int snodesS])), (snodesA, .inl (kA 0, 48, .inl snodesF)), (tpasses, .inr (6, [.int 5, .ref tpassesA, .int o11])), (tpassesA, .inl (kA 0, 100, .inl o12)), (spasses, .inr (6, [.int 5, .ref spassesA, .int spassesS])), (spassesA, .inl (kA 0, 100, .inl spassesF)), (tjars, .inr (6, [.int 9, .ref tjarsA, .int o18])), (tjarsA, .inl (kA 0, 144, .inl o19)), (sjars, .inr (6, [.int 9, .ref sjarsA, .int sjarsS])), (sjarsA, .inl (kA 0, 144, .inl sjarsF)), (torders, .inr (6, [.int 4, .ref tordersA, .int o25])), (tordersA, .inl (kA 0, 24, .inl o26)), (sorders, .inr (6, [.int 4, .ref sordersA, .int sordersS])), (sordersA, .inl (kA 0, 24, .inl sordersF)), (tfeasts, .inr (6, [.int 3, .ref tfeastsA, .int o32])), (tfeastsA, .inl (kA 0, 24, .inl o33)), (sfeasts, .inr (6, [.int 3, .ref sfeastsA, .int sfeastsS])), (sfeastsA, .inl (kA 0, 24, .inl sfeastsF))]) hP hD
  refine lv_aload_n hx hb dX9_copyFrom_55 rfl (lv_at hl 0 rfl) ?_
  refine va_get (D := (dC, dI)) (ci := 9) (v := .ref tway) (C := RX9) (T := TX9) (N := 10) hx hb hts iX9_copyFrom_X9 hown hK.1 hP 0 gz0 vcz9 5 (by decide) (kX9_copyFrom_6 hts) (fun _ h9 => h9) gz5 dX9_copyFrom_56 ?_
  refine lv_aload_n hx hb dX9_copyFrom_59 rfl (lv_at hl 1 rfl) ?_
  refine va_get (D := (dC, dI)) (ci := 9) (v := .ref sway) (C := RX9) (T := TX9) (N := 10) hx hb hts iX9_copyFrom_X9 hown hK.1 hP 3 gz3 vcz9 5 (by decide) (kX9_copyFrom_6 hts) (fun _ h9 => h9) gz5 dX9_copyFrom_60 ?_
  refine z_v (wr := [(w0, .inr (9, [.ref tnodes, .ref tpasses, .ref tjars, .ref torders, .ref tfeasts, .ref tway, .int tws, .int tnow, .int tfm, .int tx])), (v0, .inr (9, [.ref snodes, .ref spasses, .ref sjars, .ref sorders, .ref sfeasts, .ref sway, .int sws, .int snow, .int sfm, .int sx])), (tnodes, .inr (6, [.int 4, .ref tnodesA, .int o4])), (tnodesA, .inl (kA 0, 48, .inl o5)), (snodes, .inr (6, [.int 4, .ref snodesA, .int snodesS])), (snodesA, .inl (kA 0, 48, .inl snodesF)), (tpasses, .inr (6, [.int 5, .ref tpassesA, .int o11])), (tpassesA, .inl (kA 0, 100, .inl o12)), (spasses, .inr (6, [.int 5, .ref spassesA, .int spassesS])), (spassesA, .inl (kA 0, 100, .inl spassesF)), (tjars, .inr (6, [.int 9, .ref tjarsA, .int o18])), (tjarsA, .inl (kA 0, 144, .inl o19)), (sjars, .inr (6, [.int 9, .ref sjarsA, .int sjarsS])), (sjarsA, .inl (kA 0, 144, .inl sjarsF)), (torders, .inr (6, [.int 4, .ref tordersA, .int o25])), (tordersA, .inl (kA 0, 24, .inl o26)), (sorders, .inr (6, [.int 4, .ref sordersA, .int sordersS])), (sordersA, .inl (kA 0, 24, .inl sordersF)), (tfeasts, .inr (6, [.int 3, .ref tfeastsA, .int o32])), (tfeastsA, .inl (kA 0, 24, .inl o33)), (sfeasts, .inr (6, [.int 3, .ref sfeastsA, .int sfeastsS])), (sfeastsA, .inl (kA 0, 24, .inl sfeastsF))]) (va_runV (As := [.ref sway]) (rest := []) ⟨hx, hb, hml, hown, hts⟩ (mX6_copyFrom_6 l dC dI kA _ tway twayA 1 twayS twayF sway swayA 1 swayS swayF) (cwV 1 hts gX9_copyFrom_X6_copyFrom rfl rfl rfl ⟨rfl, hdX6_copyFrom⟩ ⟨(Nat.le_of_ble_eq_true rfl), (Nat.le_of_ble_eq_true rfl)⟩) ⟨zPc.blind, va_recv (q := (RX6, TX6, 3)) hK.1 hP (ci := 6) (q0 := 1) rfl rfl, zPre hK (hP.sub [1, 2, 4, 5] rfl) (hD.sub [1, 2, 4, 5] (by decide) rfl)⟩ rfl rfl hl.1 rfl (lv_room (Nat.le_of_ble_eq_true rfl)) dX9_copyFrom_63 ⟨(Nat.le_of_ble_eq_true rfl), (Nat.le_of_ble_eq_true rfl)⟩) hP hD hS hA [1, 2, 4, 5] [0, 3, 6, 7, 8, 9, 10, 11, 12, 13, 14, 15, 16, 17, 18, 19, 20, 21, 22, 23, 24, 25] rfl rfl (by decide) (by decide) (fun u36 H locs hw37 hP hD hS => ?_)
  obtain ⟨o39, o40⟩ := u36
  have hp41 := hw37
  obtain ⟨q42, eq42⟩ : ∃ y : Int32 × (Nat → Int32), y = fX6_copyFrom_6 twayF swayS swayF := ⟨_, rfl⟩
  have hG := zbnd hG eq42
  have eo39 : o39 = q42.1 := by rw [eq42]; exact congrArg (fun z : Int32 × (Nat → Int32) => z.1) hp41
  have hG := zbnd hG eo39
  have eo40 : o40 = q42.2 := by rw [eq42]; exact congrArg (fun z : Int32 × (Nat → Int32) => z.2) hp41
  have hG := zbnd hG eo40
  obtain ⟨hP, hD⟩ := z_re (L := [(w0, .inr (9, [.ref tnodes, .ref tpasses, .ref tjars, .ref torders, .ref tfeasts, .ref tway, .int tws, .int tnow, .int tfm, .int tx])), (v0, .inr (9, [.ref snodes, .ref spasses, .ref sjars, .ref sorders, .ref sfeasts, .ref sway, .int sws, .int snow, .int sfm, .int sx])), (tnodes, .inr (6, [.int 4, .ref tnodesA, .int o4])), (tnodesA, .inl (kA 0, 48, .inl o5)), (snodes, .inr (6, [.int 4, .ref snodesA, .int snodesS])), (snodesA, .inl (kA 0, 48, .inl snodesF)), (tpasses, .inr (6, [.int 5, .ref tpassesA, .int o11])), (tpassesA, .inl (kA 0, 100, .inl o12)), (spasses, .inr (6, [.int 5, .ref spassesA, .int spassesS])), (spassesA, .inl (kA 0, 100, .inl spassesF)), (tjars, .inr (6, [.int 9, .ref tjarsA, .int o18])), (tjarsA, .inl (kA 0, 144, .inl o19)), (sjars, .inr (6, [.int 9, .ref sjarsA, .int sjarsS])), (sjarsA, .inl (kA 0, 144, .inl sjarsF)), (torders, .inr (6, [.int 4, .ref tordersA, .int o25])), (tordersA, .inl (kA 0, 24, .inl o26)), (sorders, .inr (6, [.int 4, .ref sordersA, .int sordersS])), (sordersA, .inl (kA 0, 24, .inl sordersF)), (tfeasts, .inr (6, [.int 3, .ref tfeastsA, .int o32])), (tfeastsA, .inl (kA 0, 24, .inl o33)), (sfeasts, .inr (6, [.int 3, .ref sfeastsA, .int sfeastsS])), (sfeastsA, .inl (kA 0, 24, .inl sfeastsF)), (tway, .inr (6, [.int 1, .ref twayA, .int o39])), (twayA, .inl (kA 0, 6, .inl o40)), (sway, .inr (6, [.int 1, .ref swayA, .int swayS])), (swayA, .inl (kA 0, 6, .inl swayF))]) hP hD
  refine lv_aload_n hx hb dX9_copyFrom_66 rfl (lv_at hl 0 rfl) ?_
  refine lv_aload_n hx hb dX9_copyFrom_67 rfl (lv_at hl 1 rfl) ?_
  refine va_get (D := (dC, dI)) (ci := 9) (v := .int sws) (C := RX9) (T := TX9) (N := 10) hx hb hts iX9_copyFrom_X9 hown hK.1 hP 1 gz1 vcz9 6 (by decide) (kX9_copyFrom_7 hts) (fun _ h9 => h9) gz6 dX9_copyFrom_68 ?_
  refine va_put (D := (dC, dI)) (ci := 9) (v := .int sws) (ty := .int) (C := RX9) (T := TX9) (N := 10) hx hb hts iX9_copyFrom_X9 tyX9 tyX9_ok nmX9 hown hK.1 hP hD hS 0 gz0 vcz9 6 (by decide) (kX9_copyFrom_7 hts) (fun _ h9 => h9) rfl pfdI rfl rfl (Nat.le_of_ble_eq_true rfl) dX9_copyFrom_71 (fun H locs hP hD hS => ?_)
  obtain ⟨hP, hD⟩ := z_re (L := [(w0, .inr (9, [.ref tnodes, .ref tpasses, .ref tjars, .ref torders, .ref tfeasts, .ref tway, .int sws, .int tnow, .int tfm, .int tx])), (v0, .inr (9, [.ref snodes, .ref spasses, .ref sjars, .ref sorders, .ref sfeasts, .ref sway, .int sws, .int snow, .int sfm, .int sx])), (tnodes, .inr (6, [.int 4, .ref tnodesA, .int o4])), (tnodesA, .inl (kA 0, 48, .inl o5)), (snodes, .inr (6, [.int 4, .ref snodesA, .int snodesS])), (snodesA, .inl (kA 0, 48, .inl snodesF)), (tpasses, .inr (6, [.int 5, .ref tpassesA, .int o11])), (tpassesA, .inl (kA 0, 100, .inl o12)), (spasses, .inr (6, [.int 5, .ref spassesA, .int spassesS])), (spassesA, .inl (kA 0, 100, .inl spassesF)), (tjars, .inr (6, [.int 9, .ref tjarsA, .int o18])), (tjarsA, .inl (kA 0, 144, .inl o19)), (sjars, .inr (6, [.int 9, .ref sjarsA, .int sjarsS])), (sjarsA, .inl (kA 0, 144, .inl sjarsF)), (torders, .inr (6, [.int 4, .ref tordersA, .int o25])), (tordersA, .inl (kA 0, 24, .inl o26)), (sorders, .inr (6, [.int 4, .ref sordersA, .int sordersS])), (sordersA, .inl (kA 0, 24, .inl sordersF)), (tfeasts, .inr (6, [.int 3, .ref tfeastsA, .int o32])), (tfeastsA, .inl (kA 0, 24, .inl o33)), (sfeasts, .inr (6, [.int 3, .ref sfeastsA, .int sfeastsS])), (sfeastsA, .inl (kA 0, 24, .inl sfeastsF)), (tway, .inr (6, [.int 1, .ref twayA, .int o39])), (twayA, .inl (kA 0, 6, .inl o40)), (sway, .inr (6, [.int 1, .ref swayA, .int swayS])), (swayA, .inl (kA 0, 6, .inl swayF))]) hP hD
  refine lv_aload_n hx hb dX9_copyFrom_74 rfl (lv_at hl 0 rfl) ?_
  refine lv_aload_n hx hb dX9_copyFrom_75 rfl (lv_at hl 1 rfl) ?_
  refine va_get (D := (dC, dI)) (ci := 9) (v := .int snow) (C := RX9) (T := TX9) (N := 10) hx hb hts iX9_copyFrom_X9 hown hK.1 hP 1 gz1 vcz9 7 (by decide) (kX9_copyFrom_8 hts) (fun _ h9 => h9) gz7 dX9_copyFrom_76 ?_
  refine va_put (D := (dC, dI)) (ci := 9) (v := .int snow) (ty := .int) (C := RX9) (T := TX9) (N := 10) hx hb hts iX9_copyFrom_X9 tyX9 tyX9_ok nmX9 hown hK.1 hP hD hS 0 gz0 vcz9 7 (by decide) (kX9_copyFrom_8 hts) (fun _ h9 => h9) rfl pfdI rfl rfl (Nat.le_of_ble_eq_true rfl) dX9_copyFrom_79 (fun H locs hP hD hS => ?_)
  obtain ⟨hP, hD⟩ := z_re (L := [(w0, .inr (9, [.ref tnodes, .ref tpasses, .ref tjars, .ref torders, .ref tfeasts, .ref tway, .int sws, .int snow, .int tfm, .int tx])), (v0, .inr (9, [.ref snodes, .ref spasses, .ref sjars, .ref sorders, .ref sfeasts, .ref sway, .int sws, .int snow, .int sfm, .int sx])), (tnodes, .inr (6, [.int 4, .ref tnodesA, .int o4])), (tnodesA, .inl (kA 0, 48, .inl o5)), (snodes, .inr (6, [.int 4, .ref snodesA, .int snodesS])), (snodesA, .inl (kA 0, 48, .inl snodesF)), (tpasses, .inr (6, [.int 5, .ref tpassesA, .int o11])), (tpassesA, .inl (kA 0, 100, .inl o12)), (spasses, .inr (6, [.int 5, .ref spassesA, .int spassesS])), (spassesA, .inl (kA 0, 100, .inl spassesF)), (tjars, .inr (6, [.int 9, .ref tjarsA, .int o18])), (tjarsA, .inl (kA 0, 144, .inl o19)), (sjars, .inr (6, [.int 9, .ref sjarsA, .int sjarsS])), (sjarsA, .inl (kA 0, 144, .inl sjarsF)), (torders, .inr (6, [.int 4, .ref tordersA, .int o25])), (tordersA, .inl (kA 0, 24, .inl o26)), (sorders, .inr (6, [.int 4, .ref sordersA, .int sordersS])), (sordersA, .inl (kA 0, 24, .inl sordersF)), (tfeasts, .inr (6, [.int 3, .ref tfeastsA, .int o32])), (tfeastsA, .inl (kA 0, 24, .inl o33)), (sfeasts, .inr (6, [.int 3, .ref sfeastsA, .int sfeastsS])), (sfeastsA, .inl (kA 0, 24, .inl sfeastsF)), (tway, .inr (6, [.int 1, .ref twayA, .int o39])), (twayA, .inl (kA 0, 6, .inl o40)), (sway, .inr (6, [.int 1, .ref swayA, .int swayS])), (swayA, .inl (kA 0, 6, .inl swayF))]) hP hD
  refine lv_aload_n hx hb dX9_copyFrom_82 rfl (lv_at hl 0 rfl) ?_
  refine lv_aload_n hx hb dX9_copyFrom_83 rfl (lv_at hl 1 rfl) ?_
  refine va_get (D := (dC, dI)) (ci := 9) (v := .int sfm) (C := RX9) (T := TX9) (N := 10) hx hb hts iX9_copyFrom_X9 hown hK.1 hP 1 gz1 vcz9 8 (by decide) (kX9_copyFrom_9 hts) (fun _ h9 => h9) gz8 dX9_copyFrom_84 ?_
  refine va_put (D := (dC, dI)) (ci := 9) (v := .int sfm) (ty := .int) (C := RX9) (T := TX9) (N := 10) hx hb hts iX9_copyFrom_X9 tyX9 tyX9_ok nmX9 hown hK.1 hP hD hS 0 gz0 vcz9 8 (by decide) (kX9_copyFrom_9 hts) (fun _ h9 => h9) rfl pfdI rfl rfl (Nat.le_of_ble_eq_true rfl) dX9_copyFrom_87 (fun H locs hP hD hS => ?_)
  obtain ⟨hP, hD⟩ := z_re (L := [(w0, .inr (9, [.ref tnodes, .ref tpasses, .ref tjars, .ref torders, .ref tfeasts, .ref tway, .int sws, .int snow, .int sfm, .int tx])), (v0, .inr (9, [.ref snodes, .ref spasses, .ref sjars, .ref sorders, .ref sfeasts, .ref sway, .int sws, .int snow, .int sfm, .int sx])), (tnodes, .inr (6, [.int 4, .ref tnodesA, .int o4])), (tnodesA, .inl (kA 0, 48, .inl o5)), (snodes, .inr (6, [.int 4, .ref snodesA, .int snodesS])), (snodesA, .inl (kA 0, 48, .inl snodesF)), (tpasses, .inr (6, [.int 5, .ref tpassesA, .int o11])), (tpassesA, .inl (kA 0, 100, .inl o12)), (spasses, .inr (6, [.int 5, .ref spassesA, .int spassesS])), (spassesA, .inl (kA 0, 100, .inl spassesF)), (tjars, .inr (6, [.int 9, .ref tjarsA, .int o18])), (tjarsA, .inl (kA 0, 144, .inl o19)), (sjars, .inr (6, [.int 9, .ref sjarsA, .int sjarsS])), (sjarsA, .inl (kA 0, 144, .inl sjarsF)), (torders, .inr (6, [.int 4, .ref tordersA, .int o25])), (tordersA, .inl (kA 0, 24, .inl o26)), (sorders, .inr (6, [.int 4, .ref sordersA, .int sordersS])), (sordersA, .inl (kA 0, 24, .inl sordersF)), (tfeasts, .inr (6, [.int 3, .ref tfeastsA, .int o32])), (tfeastsA, .inl (kA 0, 24, .inl o33)), (sfeasts, .inr (6, [.int 3, .ref sfeastsA, .int sfeastsS])), (sfeastsA, .inl (kA 0, 24, .inl sfeastsF)), (tway, .inr (6, [.int 1, .ref twayA, .int o39])), (twayA, .inl (kA 0, 6, .inl o40)), (sway, .inr (6, [.int 1, .ref swayA, .int swayS])), (swayA, .inl (kA 0, 6, .inl swayF))]) hP hD
  refine lv_aload_n hx hb dX9_copyFrom_90 rfl (lv_at hl 0 rfl) ?_
  refine lv_aload_n hx hb dX9_copyFrom_91 rfl (lv_at hl 1 rfl) ?_
  refine va_get (D := (dC, dI)) (ci := 9) (v := .int sx) (C := RX9) (T := TX9) (N := 10) hx hb hts iX9_copyFrom_X9 hown hK.1 hP 1 gz1 vcz9 9 (by decide) (kX9_copyFrom_10 hts) (fun _ h9 => h9) gz9 dX9_copyFrom_92 ?_
  refine va_put (D := (dC, dI)) (ci := 9) (v := .int sx) (ty := .int) (C := RX9) (T := TX9) (N := 10) hx hb hts iX9_copyFrom_X9 tyX9 tyX9_ok nmX9 hown hK.1 hP hD hS 0 gz0 vcz9 9 (by decide) (kX9_copyFrom_10 hts) (fun _ h9 => h9) rfl pfdI rfl rfl (Nat.le_of_ble_eq_true rfl) dX9_copyFrom_95 (fun H locs hP hD hS => ?_)
  obtain ⟨hP, hD⟩ := z_re (L := [(w0, .inr (9, [.ref tnodes, .ref tpasses, .ref tjars, .ref torders, .ref tfeasts, .ref tway, .int sws, .int snow, .int sfm, .int sx])), (v0, .inr (9, [.ref snodes, .ref spasses, .ref sjars, .ref sorders, .ref sfeasts, .ref sway, .int sws, .int snow, .int sfm, .int sx])), (tnodes, .inr (6, [.int 4, .ref tnodesA, .int o4])), (tnodesA, .inl (kA 0, 48, .inl o5)), (snodes, .inr (6, [.int 4, .ref snodesA, .int snodesS])), (snodesA, .inl (kA 0, 48, .inl snodesF)), (tpasses, .inr (6, [.int 5, .ref tpassesA, .int o11])), (tpassesA, .inl (kA 0, 100, .inl o12)), (spasses, .inr (6, [.int 5, .ref spassesA, .int spassesS])), (spassesA, .inl (kA 0, 100, .inl spassesF)), (tjars, .inr (6, [.int 9, .ref tjarsA, .int o18])), (tjarsA, .inl (kA 0, 144, .inl o19)), (sjars, .inr (6, [.int 9, .ref sjarsA, .int sjarsS])), (sjarsA, .inl (kA 0, 144, .inl sjarsF)), (torders, .inr (6, [.int 4, .ref tordersA, .int o25])), (tordersA, .inl (kA 0, 24, .inl o26)), (sorders, .inr (6, [.int 4, .ref sordersA, .int sordersS])), (sordersA, .inl (kA 0, 24, .inl sordersF)), (tfeasts, .inr (6, [.int 3, .ref tfeastsA, .int o32])), (tfeastsA, .inl (kA 0, 24, .inl o33)), (sfeasts, .inr (6, [.int 3, .ref sfeastsA, .int sfeastsS])), (sfeastsA, .inl (kA 0, 24, .inl sfeastsF)), (tway, .inr (6, [.int 1, .ref twayA, .int o39])), (twayA, .inl (kA 0, 6, .inl o40)), (sway, .inr (6, [.int 1, .ref swayA, .int swayS])), (swayA, .inl (kA 0, 6, .inl swayF))]) hP hD
  obtain ⟨hP9, hD9⟩ := z_sb (L' := [(w0, .inr (9, [.ref tnodes, .ref tpasses, .ref tjars, .ref torders, .ref tfeasts, .ref tway, .int sws, .int snow, .int sfm, .int sx])), (tnodes, .inr (6, [.int 4, .ref tnodesA, .int o4])), (tnodesA, .inl (kA 0, 48, .inl o5)), (tpasses, .inr (6, [.int 5, .ref tpassesA, .int o11])), (tpassesA, .inl (kA 0, 100, .inl o12)), (tjars, .inr (6, [.int 9, .ref tjarsA, .int o18])), (tjarsA, .inl (kA 0, 144, .inl o19)), (torders, .inr (6, [.int 4, .ref tordersA, .int o25])), (tordersA, .inl (kA 0, 24, .inl o26)), (tfeasts, .inr (6, [.int 3, .ref tfeastsA, .int o32])), (tfeastsA, .inl (kA 0, 24, .inl o33)), (tway, .inr (6, [.int 1, .ref twayA, .int o39])), (twayA, .inl (kA 0, 6, .inl o40)), (v0, .inr (9, [.ref snodes, .ref spasses, .ref sjars, .ref sorders, .ref sfeasts, .ref sway, .int sws, .int snow, .int sfm, .int sx])), (snodes, .inr (6, [.int 4, .ref snodesA, .int snodesS])), (snodesA, .inl (kA 0, 48, .inl snodesF)), (spasses, .inr (6, [.int 5, .ref spassesA, .int spassesS])), (spassesA, .inl (kA 0, 100, .inl spassesF)), (sjars, .inr (6, [.int 9, .ref sjarsA, .int sjarsS])), (sjarsA, .inl (kA 0, 144, .inl sjarsF)), (sorders, .inr (6, [.int 4, .ref sordersA, .int sordersS])), (sordersA, .inl (kA 0, 24, .inl sordersF)), (sfeasts, .inr (6, [.int 3, .ref sfeastsA, .int sfeastsS])), (sfeastsA, .inl (kA 0, 24, .inl sfeastsF)), (sway, .inr (6, [.int 1, .ref swayA, .int swayS])), (swayA, .inl (kA 0, 6, .inl swayF))]) hP hD [0, 2, 3, 6, 7, 10, 11, 14, 15, 18, 19, 22, 23, 1, 4, 5, 8, 9, 12, 13, 16, 17, 20, 21, 24, 25] (by decide) rfl
  refine W.widen (k := 0) (n := 0) (Nat.le_of_ble_eq_true rfl) (Nat.le_of_ble_eq_true rfl) ?_
  exact W.vret hx hb hr (fun t ht hW => ⟨⟨(sws, snow, sfm, sx, o4, o5, o11, o12, o18, o19, o25, o26, o32, o33, o39, o40), rfl, (hG.trans hG0.symm), by rw [ht]; exact hP9, hD9⟩, hS.F ht⟩) hS.2.2 dX9_copyFrom_98
