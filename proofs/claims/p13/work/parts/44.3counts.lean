def ixX10_feast : List Nat := [2, 15, 51, 63, 68, 171, 172, 173, 174, 175, 176, 177, 178, 179, 180, 181, 182, 183, 199, 200, 201, 202, 587, 1194, 1195, 1196, 1292, 1293, 1457, 1458, 1459, 1476, 1477, 1478, 1479, 1480, 1481, 1482, 1483, 1484, 1485, 1486, 1487, 1488, 1489, 1490, 1491, 1492, 1493, 1494, 1495, 1496, 1497, 1498]
def wsX10_feast : List Cond := .code yX10_feast cX10_feast 6 (some .int) :: ixX10_feast.map wt
def ixX10_from : List Nat := [15, 51, 171, 179, 199, 200, 201, 202, 915, 916, 941, 942, 1457, 1458, 1459, 1476, 1477, 1478, 1479, 1480, 1481, 1482, 1483, 1484, 1485, 1486, 1487, 1488, 1489, 1490, 1491, 1492, 1493, 1494, 1495, 1496, 1497, 1498]
def wsX10_from : List Cond := .code yX10_from cX10_from 2 (some .boolean) :: ixX10_from.map wt
def ixX10_jar : List Nat := [2, 14, 15, 51, 54, 63, 68, 171, 172, 173, 174, 175, 176, 177, 178, 179, 180, 181, 182, 183, 199, 200, 201, 202, 216, 217, 218, 219, 220, 221, 222, 223, 224, 225, 1457, 1458, 1459, 1476, 1477, 1478, 1479, 1480, 1481, 1482, 1483, 1484, 1485, 1486, 1487, 1488, 1489, 1490, 1491, 1492, 1493, 1494, 1495, 1496, 1497, 1498]
def wsX10_jar : List Cond := .code yX10_jar cX10_jar 8 (some .int) :: ixX10_jar.map wt
def ixX10_month : List Nat := [2, 15, 172, 173, 174, 235, 236, 1476, 1477, 1478, 1479, 1480, 1481, 1482, 1483, 1484, 1485, 1486, 1487, 1488, 1489, 1490, 1491, 1492, 1493, 1494, 1495, 1496, 1497, 1498]
def wsX10_month : List Cond := .code yX10_month cX10_month 3 (some .int) :: ixX10_month.map wt
def ixX10_node : List Nat := [2, 15, 51, 63, 68, 170, 171, 172, 173, 174, 175, 176, 177, 178, 179, 180, 181, 182, 183, 1457, 1458, 1459, 1476, 1477, 1478, 1479, 1480, 1481, 1482, 1483, 1484, 1485, 1486, 1487, 1488, 1489, 1490, 1491, 1492, 1493, 1494, 1495, 1496, 1497, 1498]
def wsX10_node : List Cond := .code yX10_node cX10_node 6 (some .int) :: ixX10_node.map wt
def ixX10_order : List Nat := [2, 15, 51, 63, 68, 171, 172, 173, 174, 175, 176, 177, 178, 179, 180, 181, 182, 183, 199, 200, 201, 202, 587, 1192, 1193, 1194, 1195, 1196, 1457, 1458, 1459, 1476, 1477, 1478, 1479, 1480, 1481, 1482, 1483, 1484, 1485, 1486, 1487, 1488, 1489, 1490, 1491, 1492, 1493, 1494, 1495, 1496, 1497, 1498]
def wsX10_order : List Cond := .code yX10_order cX10_order 7 (some .int) :: ixX10_order.map wt
def ixX10_pass : List Nat := [2, 15, 51, 63, 68, 171, 172, 173, 174, 175, 176, 177, 178, 179, 180, 181, 182, 183, 197, 198, 199, 200, 201, 202, 1457, 1458, 1459, 1476, 1477, 1478, 1479, 1480, 1481, 1482, 1483, 1484, 1485, 1486, 1487, 1488, 1489, 1490, 1491, 1492, 1493, 1494, 1495, 1496, 1497, 1498]
def wsX10_pass : List Cond := .code yX10_pass cX10_pass 9 (some .int) :: ixX10_pass.map wt
theorem ggX10_feast_X10_isWish : GoodIn wsX10_feast wsX10_isWish := gi_ (A := ixX10_feast) (B := ixX10_isWish) wt1196 (by decide +kernel)
theorem gX10_feast_X10_isWish : GoodIn wsX10_feast (va_wsS RX10 260 yX10_isWish wsX10_isWish) := g3_ (A := ixX10_feast) wt1194 wt1195 wt2 (by decide +kernel) ggX10_feast_X10_isWish
theorem ggX10_feast_X10_within : GoodIn wsX10_feast wsX10_within := gi_ (A := ixX10_feast) (B := ixX10_within) wt174 (by decide +kernel)
theorem gX10_feast_X10_within : GoodIn wsX10_feast (va_wsS RX10 79 yX10_within wsX10_within) := g3_ (A := ixX10_feast) wt172 wt173 wt2 (by decide +kernel) ggX10_feast_X10_within
theorem ggX10_feast_X6_grow : GoodIn wsX10_feast wsX6_grow := gi_ (A := ixX10_feast) (B := ixX6_grow) wt178 (by decide +kernel)
theorem gX10_feast_X6_grow : GoodIn wsX10_feast (wsV RX10 87 RX6 yX6_grow wsX6_grow) := g4_ (A := ixX10_feast) wt175 wt176 wt177 wt51 (by decide +kernel) ggX10_feast_X6_grow
theorem ggX10_feast_X6_has : GoodIn wsX10_feast wsX6_has := gi_ (A := ixX10_feast) (B := ixX6_has) wt202 (by decide +kernel)
theorem gX10_feast_X6_has : GoodIn wsX10_feast (wsV RX10 97 RX6 yX6_has wsX6_has) := g4_ (A := ixX10_feast) wt199 wt200 wt201 wt51 (by decide +kernel) ggX10_feast_X6_has
theorem ggX10_feast_X6_put : GoodIn wsX10_feast wsX6_put := gi_ (A := ixX10_feast) (B := ixX6_put) wt183 (by decide +kernel)
theorem gX10_feast_X6_put : GoodIn wsX10_feast (wsV RX10 93 RX6 yX6_put wsX6_put) := g4_ (A := ixX10_feast) wt180 wt181 wt182 wt51 (by decide +kernel) ggX10_feast_X6_put
theorem ggX10_from_X6_has : GoodIn wsX10_from wsX6_has := gi_ (A := ixX10_from) (B := ixX6_has) wt202 (by decide +kernel)
theorem gX10_from_X6_has : GoodIn wsX10_from (wsV RX10 97 RX6 yX6_has wsX6_has) := g4_ (A := ixX10_from) wt199 wt200 wt201 wt51 (by decide +kernel) ggX10_from_X6_has
theorem ggX10_jar_X10_isCover : GoodIn wsX10_jar wsX10_isCover := gi_ (A := ixX10_jar) (B := ixX10_isCover) wt220 (by decide +kernel)
theorem gX10_jar_X10_isCover : GoodIn wsX10_jar (va_wsS RX10 104 yX10_isCover wsX10_isCover) := g3_ (A := ixX10_jar) wt218 wt219 wt2 (by decide +kernel) ggX10_jar_X10_isCover
theorem ggX10_jar_X10_within : GoodIn wsX10_jar wsX10_within := gi_ (A := ixX10_jar) (B := ixX10_within) wt174 (by decide +kernel)
theorem gX10_jar_X10_within : GoodIn wsX10_jar (va_wsS RX10 79 yX10_within wsX10_within) := g3_ (A := ixX10_jar) wt172 wt173 wt2 (by decide +kernel) ggX10_jar_X10_within
theorem ggX10_jar_X6_grow : GoodIn wsX10_jar wsX6_grow := gi_ (A := ixX10_jar) (B := ixX6_grow) wt178 (by decide +kernel)
theorem gX10_jar_X6_grow : GoodIn wsX10_jar (wsV RX10 87 RX6 yX6_grow wsX6_grow) := g4_ (A := ixX10_jar) wt175 wt176 wt177 wt51 (by decide +kernel) ggX10_jar_X6_grow
theorem ggX10_jar_X6_has : GoodIn wsX10_jar wsX6_has := gi_ (A := ixX10_jar) (B := ixX6_has) wt202 (by decide +kernel)
theorem gX10_jar_X6_has : GoodIn wsX10_jar (wsV RX10 97 RX6 yX6_has wsX6_has) := g4_ (A := ixX10_jar) wt199 wt200 wt201 wt51 (by decide +kernel) ggX10_jar_X6_has
theorem ggX10_jar_X6_put : GoodIn wsX10_jar wsX6_put := gi_ (A := ixX10_jar) (B := ixX6_put) wt183 (by decide +kernel)
theorem gX10_jar_X6_put : GoodIn wsX10_jar (wsV RX10 93 RX6 yX6_put wsX6_put) := g4_ (A := ixX10_jar) wt180 wt181 wt182 wt51 (by decide +kernel) ggX10_jar_X6_put
theorem ggX10_jar_X9_standAt : GoodIn wsX10_jar wsX9_standAt := gi_ (A := ixX10_jar) (B := ixX9_standAt) wt224 (by decide +kernel)
theorem gX10_jar_X9_standAt : GoodIn wsX10_jar (wsV RX10 110 RX9 yX9_standAt wsX9_standAt) := g4_ (A := ixX10_jar) wt221 wt222 wt223 wt14 (by decide +kernel) ggX10_jar_X9_standAt
theorem ggX10_month_X10_within : GoodIn wsX10_month wsX10_within := gi_ (A := ixX10_month) (B := ixX10_within) wt174 (by decide +kernel)
theorem gX10_month_X10_within : GoodIn wsX10_month (va_wsS RX10 79 yX10_within wsX10_within) := g3_ (A := ixX10_month) wt172 wt173 wt2 (by decide +kernel) ggX10_month_X10_within
theorem ggX10_node_X10_within : GoodIn wsX10_node wsX10_within := gi_ (A := ixX10_node) (B := ixX10_within) wt174 (by decide +kernel)
theorem gX10_node_X10_within : GoodIn wsX10_node (va_wsS RX10 79 yX10_within wsX10_within) := g3_ (A := ixX10_node) wt172 wt173 wt2 (by decide +kernel) ggX10_node_X10_within
theorem ggX10_node_X6_grow : GoodIn wsX10_node wsX6_grow := gi_ (A := ixX10_node) (B := ixX6_grow) wt178 (by decide +kernel)
theorem gX10_node_X6_grow : GoodIn wsX10_node (wsV RX10 87 RX6 yX6_grow wsX6_grow) := g4_ (A := ixX10_node) wt175 wt176 wt177 wt51 (by decide +kernel) ggX10_node_X6_grow
theorem ggX10_node_X6_put : GoodIn wsX10_node wsX6_put := gi_ (A := ixX10_node) (B := ixX6_put) wt183 (by decide +kernel)
theorem gX10_node_X6_put : GoodIn wsX10_node (wsV RX10 93 RX6 yX6_put wsX6_put) := g4_ (A := ixX10_node) wt180 wt181 wt182 wt51 (by decide +kernel) ggX10_node_X6_put
theorem ggX10_order_X10_isWish : GoodIn wsX10_order wsX10_isWish := gi_ (A := ixX10_order) (B := ixX10_isWish) wt1196 (by decide +kernel)
theorem gX10_order_X10_isWish : GoodIn wsX10_order (va_wsS RX10 260 yX10_isWish wsX10_isWish) := g3_ (A := ixX10_order) wt1194 wt1195 wt2 (by decide +kernel) ggX10_order_X10_isWish
theorem ggX10_order_X10_within : GoodIn wsX10_order wsX10_within := gi_ (A := ixX10_order) (B := ixX10_within) wt174 (by decide +kernel)
theorem gX10_order_X10_within : GoodIn wsX10_order (va_wsS RX10 79 yX10_within wsX10_within) := g3_ (A := ixX10_order) wt172 wt173 wt2 (by decide +kernel) ggX10_order_X10_within
theorem ggX10_order_X6_grow : GoodIn wsX10_order wsX6_grow := gi_ (A := ixX10_order) (B := ixX6_grow) wt178 (by decide +kernel)
theorem gX10_order_X6_grow : GoodIn wsX10_order (wsV RX10 87 RX6 yX6_grow wsX6_grow) := g4_ (A := ixX10_order) wt175 wt176 wt177 wt51 (by decide +kernel) ggX10_order_X6_grow
theorem ggX10_order_X6_has : GoodIn wsX10_order wsX6_has := gi_ (A := ixX10_order) (B := ixX6_has) wt202 (by decide +kernel)
theorem gX10_order_X6_has : GoodIn wsX10_order (wsV RX10 97 RX6 yX6_has wsX6_has) := g4_ (A := ixX10_order) wt199 wt200 wt201 wt51 (by decide +kernel) ggX10_order_X6_has
theorem ggX10_order_X6_put : GoodIn wsX10_order wsX6_put := gi_ (A := ixX10_order) (B := ixX6_put) wt183 (by decide +kernel)
theorem gX10_order_X6_put : GoodIn wsX10_order (wsV RX10 93 RX6 yX6_put wsX6_put) := g4_ (A := ixX10_order) wt180 wt181 wt182 wt51 (by decide +kernel) ggX10_order_X6_put
theorem ggX10_pass_X10_within : GoodIn wsX10_pass wsX10_within := gi_ (A := ixX10_pass) (B := ixX10_within) wt174 (by decide +kernel)
theorem gX10_pass_X10_within : GoodIn wsX10_pass (va_wsS RX10 79 yX10_within wsX10_within) := g3_ (A := ixX10_pass) wt172 wt173 wt2 (by decide +kernel) ggX10_pass_X10_within
theorem ggX10_pass_X6_grow : GoodIn wsX10_pass wsX6_grow := gi_ (A := ixX10_pass) (B := ixX6_grow) wt178 (by decide +kernel)
theorem gX10_pass_X6_grow : GoodIn wsX10_pass (wsV RX10 87 RX6 yX6_grow wsX6_grow) := g4_ (A := ixX10_pass) wt175 wt176 wt177 wt51 (by decide +kernel) ggX10_pass_X6_grow
theorem ggX10_pass_X6_has : GoodIn wsX10_pass wsX6_has := gi_ (A := ixX10_pass) (B := ixX6_has) wt202 (by decide +kernel)
theorem gX10_pass_X6_has : GoodIn wsX10_pass (wsV RX10 97 RX6 yX6_has wsX6_has) := g4_ (A := ixX10_pass) wt199 wt200 wt201 wt51 (by decide +kernel) ggX10_pass_X6_has
theorem ggX10_pass_X6_put : GoodIn wsX10_pass wsX6_put := gi_ (A := ixX10_pass) (B := ixX6_put) wt183 (by decide +kernel)
theorem gX10_pass_X6_put : GoodIn wsX10_pass (wsV RX10 93 RX6 yX6_put wsX6_put) := g4_ (A := ixX10_pass) wt180 wt181 wt182 wt51 (by decide +kernel) ggX10_pass_X6_put
theorem kX10_node_1 {a : Array Value} {s : State} (hts : ∀ w ∈ wsX10_node, w.before a s = true) : (.fieldLink RX10 10 "SnowMules" "world" "LSnowMules$World;" : Cond).before a s = true := kw (A := ixX10_node) wt15 hts (by decide +kernel)
theorem kX10_node_2 {a : Array Value} {s : State} (hts : ∀ w ∈ wsX10_node, w.before a s = true) : (.fieldLink RX10 83 "SnowMules$World" "nodes" "LSnowMules$Table;" : Cond).before a s = true := kw (A := ixX10_node) wt171 hts (by decide +kernel)
theorem kX10_pass_1 {a : Array Value} {s : State} (hts : ∀ w ∈ wsX10_pass, w.before a s = true) : (.fieldLink RX10 10 "SnowMules" "world" "LSnowMules$World;" : Cond).before a s = true := kw (A := ixX10_pass) wt15 hts (by decide +kernel)
theorem kX10_pass_2 {a : Array Value} {s : State} (hts : ∀ w ∈ wsX10_pass, w.before a s = true) : (.fieldLink RX10 83 "SnowMules$World" "nodes" "LSnowMules$Table;" : Cond).before a s = true := kw (A := ixX10_pass) wt171 hts (by decide +kernel)
theorem kX10_pass_3 {a : Array Value} {s : State} (hts : ∀ w ∈ wsX10_pass, w.before a s = true) : (.fieldLink RX10 101 "SnowMules$World" "passes" "LSnowMules$Table;" : Cond).before a s = true := kw (A := ixX10_pass) wt198 hts (by decide +kernel)
theorem kX10_jar_1 {a : Array Value} {s : State} (hts : ∀ w ∈ wsX10_jar, w.before a s = true) : (.fieldLink RX10 10 "SnowMules" "world" "LSnowMules$World;" : Cond).before a s = true := kw (A := ixX10_jar) wt15 hts (by decide +kernel)
theorem kX10_jar_2 {a : Array Value} {s : State} (hts : ∀ w ∈ wsX10_jar, w.before a s = true) : (.fieldLink RX10 83 "SnowMules$World" "nodes" "LSnowMules$Table;" : Cond).before a s = true := kw (A := ixX10_jar) wt171 hts (by decide +kernel)
theorem kX10_jar_3 {a : Array Value} {s : State} (hts : ∀ w ∈ wsX10_jar, w.before a s = true) : (.fieldLink RX10 107 "SnowMules$World" "jars" "LSnowMules$Table;" : Cond).before a s = true := kw (A := ixX10_jar) wt217 hts (by decide +kernel)
theorem kX10_order_1 {a : Array Value} {s : State} (hts : ∀ w ∈ wsX10_order, w.before a s = true) : (.constant RX10 140 (99999) : Cond).before a s = true := kw (A := ixX10_order) wt587 hts (by decide +kernel)
theorem kX10_order_2 {a : Array Value} {s : State} (hts : ∀ w ∈ wsX10_order, w.before a s = true) : (.fieldLink RX10 10 "SnowMules" "world" "LSnowMules$World;" : Cond).before a s = true := kw (A := ixX10_order) wt15 hts (by decide +kernel)
theorem kX10_order_3 {a : Array Value} {s : State} (hts : ∀ w ∈ wsX10_order, w.before a s = true) : (.fieldLink RX10 83 "SnowMules$World" "nodes" "LSnowMules$Table;" : Cond).before a s = true := kw (A := ixX10_order) wt171 hts (by decide +kernel)
theorem kX10_order_4 {a : Array Value} {s : State} (hts : ∀ w ∈ wsX10_order, w.before a s = true) : (.fieldLink RX10 263 "SnowMules$World" "orders" "LSnowMules$Table;" : Cond).before a s = true := kw (A := ixX10_order) wt1193 hts (by decide +kernel)
theorem kX10_feast_1 {a : Array Value} {s : State} (hts : ∀ w ∈ wsX10_feast, w.before a s = true) : (.fieldLink RX10 10 "SnowMules" "world" "LSnowMules$World;" : Cond).before a s = true := kw (A := ixX10_feast) wt15 hts (by decide +kernel)
theorem kX10_feast_2 {a : Array Value} {s : State} (hts : ∀ w ∈ wsX10_feast, w.before a s = true) : (.fieldLink RX10 83 "SnowMules$World" "nodes" "LSnowMules$Table;" : Cond).before a s = true := kw (A := ixX10_feast) wt171 hts (by decide +kernel)
theorem kX10_feast_3 {a : Array Value} {s : State} (hts : ∀ w ∈ wsX10_feast, w.before a s = true) : (.fieldLink RX10 285 "SnowMules$World" "feasts" "LSnowMules$Table;" : Cond).before a s = true := kw (A := ixX10_feast) wt1293 hts (by decide +kernel)
theorem kX10_month_1 {a : Array Value} {s : State} (hts : ∀ w ∈ wsX10_month, w.before a s = true) : (.fieldLink RX10 10 "SnowMules" "world" "LSnowMules$World;" : Cond).before a s = true := kw (A := ixX10_month) wt15 hts (by decide +kernel)
theorem kX10_month_2 {a : Array Value} {s : State} (hts : ∀ w ∈ wsX10_month, w.before a s = true) : (.fieldLink RX10 114 "SnowMules$World" "firstMonth" "I" : Cond).before a s = true := kw (A := ixX10_month) wt236 hts (by decide +kernel)
theorem kX10_from_1 {a : Array Value} {s : State} (hts : ∀ w ∈ wsX10_from, w.before a s = true) : (.fieldLink RX10 10 "SnowMules" "world" "LSnowMules$World;" : Cond).before a s = true := kw (A := ixX10_from) wt15 hts (by decide +kernel)
theorem kX10_from_2 {a : Array Value} {s : State} (hts : ∀ w ∈ wsX10_from, w.before a s = true) : (.fieldLink RX10 83 "SnowMules$World" "nodes" "LSnowMules$Table;" : Cond).before a s = true := kw (A := ixX10_from) wt171 hts (by decide +kernel)
theorem kX10_from_3 {a : Array Value} {s : State} (hts : ∀ w ∈ wsX10_from, w.before a s = true) : (.fieldLink RX10 176 "SnowMules$World" "wayStart" "I" : Cond).before a s = true := kw (A := ixX10_from) wt915 hts (by decide +kernel)
theorem kX10_from_4 {a : Array Value} {s : State} (hts : ∀ w ∈ wsX10_from, w.before a s = true) : (.fieldLink RX10 185 "SnowMules$World" "way" "LSnowMules$Table;" : Cond).before a s = true := kw (A := ixX10_from) wt916 hts (by decide +kernel)
theorem kX10_from_5 {a : Array Value} {s : State} (hts : ∀ w ∈ wsX10_from, w.before a s = true) : (.fieldLink RX10 188 "SnowMules$Table" "size" "I" : Cond).before a s = true := kw (A := ixX10_from) wt942 hts (by decide +kernel)
theorem iX10_node_X10 : ∀ w ∈ wsX100, w ∈ wsX10_node := inW (A := ixX10_node) uwX10 (by decide +kernel)
theorem iX10_node_X9 : ∀ w ∈ wsX90, w ∈ wsX10_node := inW (A := ixX10_node) uwX9 (by decide +kernel)
theorem iX10_pass_X10 : ∀ w ∈ wsX100, w ∈ wsX10_pass := inW (A := ixX10_pass) uwX10 (by decide +kernel)
theorem iX10_pass_X9 : ∀ w ∈ wsX90, w ∈ wsX10_pass := inW (A := ixX10_pass) uwX9 (by decide +kernel)
theorem iX10_jar_X10 : ∀ w ∈ wsX100, w ∈ wsX10_jar := inW (A := ixX10_jar) uwX10 (by decide +kernel)
theorem iX10_jar_X9 : ∀ w ∈ wsX90, w ∈ wsX10_jar := inW (A := ixX10_jar) uwX9 (by decide +kernel)
theorem iX10_order_X10 : ∀ w ∈ wsX100, w ∈ wsX10_order := inW (A := ixX10_order) uwX10 (by decide +kernel)
theorem iX10_order_X9 : ∀ w ∈ wsX90, w ∈ wsX10_order := inW (A := ixX10_order) uwX9 (by decide +kernel)
theorem iX10_feast_X10 : ∀ w ∈ wsX100, w ∈ wsX10_feast := inW (A := ixX10_feast) uwX10 (by decide +kernel)
theorem iX10_feast_X9 : ∀ w ∈ wsX90, w ∈ wsX10_feast := inW (A := ixX10_feast) uwX9 (by decide +kernel)
theorem iX10_month_X10 : ∀ w ∈ wsX100, w ∈ wsX10_month := inW (A := ixX10_month) uwX10 (by decide +kernel)
theorem iX10_month_X9 : ∀ w ∈ wsX90, w ∈ wsX10_month := inW (A := ixX10_month) uwX9 (by decide +kernel)
theorem iX10_from_X10 : ∀ w ∈ wsX100, w ∈ wsX10_from := inW (A := ixX10_from) uwX10 (by decide +kernel)
theorem iX10_from_X9 : ∀ w ∈ wsX90, w ∈ wsX10_from := inW (A := ixX10_from) uwX9 (by decide +kernel)
theorem iX10_from_X6 : ∀ w ∈ wsX60, w ∈ wsX10_from := inW (A := ixX10_from) uwX6 (by decide +kernel)
theorem hdX10_isWish : yX10_isWish.cls ≠ "java/lang/invoke/MethodHandle" ∧ yX10_isWish.cls ≠ "java/lang/invoke/VarHandle" ∧ (parseMethodDescriptor yX10_isWish.desc).map (fun d => d.parameters.length) = some 1 := ⟨hdc_6.1, hdc_6.2, hdd_1⟩
def dtX10_node_44_0 : List (Nat × Jvm.ClassFile.Instr × Nat) := [(0, .iload_n 1, 1), (1, .sipush 400, 3), (4, .invokestatic 79, 3), (7, .ifCond .eq 26, 3), (33, .iconst 0, 1), (34, .istore 4, 2), (36, .iload 4, 2), (38, .ifCond .eq 16, 3), (54, .iconst (-1), 1), (55, .istore 5, 2), (57, .iload 5, 2), (59, .iconst (-1), 1), (60, .if_icmp .eq 59, 3), (119, .iload 5, 2), (121, .ireturn, 1), (10, .iload_n 2, 1), (11, .sipush 4095, 3), (14, .invokestatic 79, 3), (17, .ifCond .eq 16, 3), (20, .iload_n 3, 1), (21, .bipush 9, 2), (23, .invokestatic 79, 3), (26, .ifCond .eq 7, 3), (29, .iconst 1, 1), (30, .goto 4, 3), (41, .aload_n 0, 1), (42, .getfield 10, 3), (45, .getfield 83, 3), (48, .invokevirtual 87, 3), (51, .goto 4, 3), (63, .aload_n 0, 1), (64, .getfield 10, 3)]
theorem daX10_node_44_0 : dtX10_node_44_0.all (dqd cX10_node) = true := by decide +kernel
theorem dX10_node_0 : decode cX10_node 0 = .ok (.iload_n 1, 1) := dq daX10_node_44_0 0 rfl
theorem dX10_node_1 : decode cX10_node 1 = .ok (.sipush 400, 3) := dq daX10_node_44_0 1 rfl
theorem dX10_node_4 : decode cX10_node 4 = .ok (.invokestatic 79, 3) := dq daX10_node_44_0 2 rfl
theorem dX10_node_7 : decode cX10_node 7 = .ok (.ifCond .eq 26, 3) := dq daX10_node_44_0 3 rfl
theorem dX10_node_33 : decode cX10_node 33 = .ok (.iconst 0, 1) := dq daX10_node_44_0 4 rfl
theorem dX10_node_34 : decode cX10_node 34 = .ok (.istore 4, 2) := dq daX10_node_44_0 5 rfl
theorem dX10_node_36 : decode cX10_node 36 = .ok (.iload 4, 2) := dq daX10_node_44_0 6 rfl
theorem dX10_node_38 : decode cX10_node 38 = .ok (.ifCond .eq 16, 3) := dq daX10_node_44_0 7 rfl
theorem dX10_node_54 : decode cX10_node 54 = .ok (.iconst (-1), 1) := dq daX10_node_44_0 8 rfl
theorem dX10_node_55 : decode cX10_node 55 = .ok (.istore 5, 2) := dq daX10_node_44_0 9 rfl
theorem dX10_node_57 : decode cX10_node 57 = .ok (.iload 5, 2) := dq daX10_node_44_0 10 rfl
theorem dX10_node_59 : decode cX10_node 59 = .ok (.iconst (-1), 1) := dq daX10_node_44_0 11 rfl
theorem dX10_node_60 : decode cX10_node 60 = .ok (.if_icmp .eq 59, 3) := dq daX10_node_44_0 12 rfl
theorem dX10_node_119 : decode cX10_node 119 = .ok (.iload 5, 2) := dq daX10_node_44_0 13 rfl
theorem dX10_node_121 : decode cX10_node 121 = .ok (.ireturn, 1) := dq daX10_node_44_0 14 rfl
theorem dX10_node_10 : decode cX10_node 10 = .ok (.iload_n 2, 1) := dq daX10_node_44_0 15 rfl
theorem dX10_node_11 : decode cX10_node 11 = .ok (.sipush 4095, 3) := dq daX10_node_44_0 16 rfl
theorem dX10_node_14 : decode cX10_node 14 = .ok (.invokestatic 79, 3) := dq daX10_node_44_0 17 rfl
theorem dX10_node_17 : decode cX10_node 17 = .ok (.ifCond .eq 16, 3) := dq daX10_node_44_0 18 rfl
theorem dX10_node_20 : decode cX10_node 20 = .ok (.iload_n 3, 1) := dq daX10_node_44_0 19 rfl
theorem dX10_node_21 : decode cX10_node 21 = .ok (.bipush 9, 2) := dq daX10_node_44_0 20 rfl
theorem dX10_node_23 : decode cX10_node 23 = .ok (.invokestatic 79, 3) := dq daX10_node_44_0 21 rfl
theorem dX10_node_26 : decode cX10_node 26 = .ok (.ifCond .eq 7, 3) := dq daX10_node_44_0 22 rfl
theorem dX10_node_29 : decode cX10_node 29 = .ok (.iconst 1, 1) := dq daX10_node_44_0 23 rfl
theorem dX10_node_30 : decode cX10_node 30 = .ok (.goto 4, 3) := dq daX10_node_44_0 24 rfl
theorem dX10_node_41 : decode cX10_node 41 = .ok (.aload_n 0, 1) := dq daX10_node_44_0 25 rfl
theorem dX10_node_42 : decode cX10_node 42 = .ok (.getfield 10, 3) := dq daX10_node_44_0 26 rfl
theorem dX10_node_45 : decode cX10_node 45 = .ok (.getfield 83, 3) := dq daX10_node_44_0 27 rfl
theorem dX10_node_48 : decode cX10_node 48 = .ok (.invokevirtual 87, 3) := dq daX10_node_44_0 28 rfl
theorem dX10_node_51 : decode cX10_node 51 = .ok (.goto 4, 3) := dq daX10_node_44_0 29 rfl
theorem dX10_node_63 : decode cX10_node 63 = .ok (.aload_n 0, 1) := dq daX10_node_44_0 30 rfl
theorem dX10_node_64 : decode cX10_node 64 = .ok (.getfield 10, 3) := dq daX10_node_44_0 31 rfl
def dtX10_node_44_1 : List (Nat × Jvm.ClassFile.Instr × Nat) := [(67, .getfield 83, 3), (70, .iload 5, 2), (72, .iconst 0, 1), (73, .iload_n 1, 1), (74, .invokevirtual 93, 3), (77, .aload_n 0, 1), (78, .getfield 10, 3), (81, .getfield 83, 3), (84, .iload 5, 2), (86, .iconst 1, 1), (87, .iload_n 2, 1), (88, .invokevirtual 93, 3), (91, .aload_n 0, 1), (92, .getfield 10, 3), (95, .getfield 83, 3), (98, .iload 5, 2), (100, .iconst 2, 1), (101, .iload_n 3, 1), (102, .invokevirtual 93, 3), (105, .aload_n 0, 1), (106, .getfield 10, 3), (109, .getfield 83, 3), (112, .iload 5, 2), (114, .iconst 3, 1), (115, .iconst 0, 1), (116, .invokevirtual 93, 3)]
theorem daX10_node_44_1 : dtX10_node_44_1.all (dqd cX10_node) = true := by decide +kernel
theorem dX10_node_67 : decode cX10_node 67 = .ok (.getfield 83, 3) := dq daX10_node_44_1 0 rfl
theorem dX10_node_70 : decode cX10_node 70 = .ok (.iload 5, 2) := dq daX10_node_44_1 1 rfl
theorem dX10_node_72 : decode cX10_node 72 = .ok (.iconst 0, 1) := dq daX10_node_44_1 2 rfl
theorem dX10_node_73 : decode cX10_node 73 = .ok (.iload_n 1, 1) := dq daX10_node_44_1 3 rfl
theorem dX10_node_74 : decode cX10_node 74 = .ok (.invokevirtual 93, 3) := dq daX10_node_44_1 4 rfl
theorem dX10_node_77 : decode cX10_node 77 = .ok (.aload_n 0, 1) := dq daX10_node_44_1 5 rfl
theorem dX10_node_78 : decode cX10_node 78 = .ok (.getfield 10, 3) := dq daX10_node_44_1 6 rfl
theorem dX10_node_81 : decode cX10_node 81 = .ok (.getfield 83, 3) := dq daX10_node_44_1 7 rfl
theorem dX10_node_84 : decode cX10_node 84 = .ok (.iload 5, 2) := dq daX10_node_44_1 8 rfl
theorem dX10_node_86 : decode cX10_node 86 = .ok (.iconst 1, 1) := dq daX10_node_44_1 9 rfl
theorem dX10_node_87 : decode cX10_node 87 = .ok (.iload_n 2, 1) := dq daX10_node_44_1 10 rfl
theorem dX10_node_88 : decode cX10_node 88 = .ok (.invokevirtual 93, 3) := dq daX10_node_44_1 11 rfl
theorem dX10_node_91 : decode cX10_node 91 = .ok (.aload_n 0, 1) := dq daX10_node_44_1 12 rfl
theorem dX10_node_92 : decode cX10_node 92 = .ok (.getfield 10, 3) := dq daX10_node_44_1 13 rfl
theorem dX10_node_95 : decode cX10_node 95 = .ok (.getfield 83, 3) := dq daX10_node_44_1 14 rfl
theorem dX10_node_98 : decode cX10_node 98 = .ok (.iload 5, 2) := dq daX10_node_44_1 15 rfl
theorem dX10_node_100 : decode cX10_node 100 = .ok (.iconst 2, 1) := dq daX10_node_44_1 16 rfl
theorem dX10_node_101 : decode cX10_node 101 = .ok (.iload_n 3, 1) := dq daX10_node_44_1 17 rfl
theorem dX10_node_102 : decode cX10_node 102 = .ok (.invokevirtual 93, 3) := dq daX10_node_44_1 18 rfl
theorem dX10_node_105 : decode cX10_node 105 = .ok (.aload_n 0, 1) := dq daX10_node_44_1 19 rfl
theorem dX10_node_106 : decode cX10_node 106 = .ok (.getfield 10, 3) := dq daX10_node_44_1 20 rfl
theorem dX10_node_109 : decode cX10_node 109 = .ok (.getfield 83, 3) := dq daX10_node_44_1 21 rfl
theorem dX10_node_112 : decode cX10_node 112 = .ok (.iload 5, 2) := dq daX10_node_44_1 22 rfl
theorem dX10_node_114 : decode cX10_node 114 = .ok (.iconst 3, 1) := dq daX10_node_44_1 23 rfl
theorem dX10_node_115 : decode cX10_node 115 = .ok (.iconst 0, 1) := dq daX10_node_44_1 24 rfl
theorem dX10_node_116 : decode cX10_node 116 = .ok (.invokevirtual 93, 3) := dq daX10_node_44_1 25 rfl
def dtX10_pass_44_0 : List (Nat × Jvm.ClassFile.Instr × Nat) := [(0, .aload_n 0, 1), (1, .getfield 10, 3), (4, .getfield 83, 3), (7, .iload_n 1, 1), (8, .invokevirtual 97, 3), (11, .ifCond .eq 26, 3), (37, .iconst 0, 1), (38, .istore 6, 2), (40, .iload_n 3, 1), (41, .iconst 1, 1), (42, .if_icmp .lt 37, 3), (79, .iconst 0, 1), (80, .istore 7, 2), (82, .iload 6, 2), (84, .ifCond .eq 21, 3), (105, .iconst (-1), 1), (106, .istore 8, 2), (108, .iload 8, 2), (110, .iconst (-1), 1), (111, .if_icmp .eq 75, 3), (186, .iload 8, 2), (188, .ireturn, 1), (45, .iload_n 3, 1), (46, .bipush 24, 2), (48, .invokestatic 79, 3), (51, .ifCond .eq 28, 3), (54, .iload 4, 2), (56, .bipush 9, 2), (58, .invokestatic 79, 3), (61, .ifCond .eq 18, 3), (64, .iload 5, 2), (66, .sipush 1000, 3)]
theorem daX10_pass_44_0 : dtX10_pass_44_0.all (dqd cX10_pass) = true := by decide +kernel
theorem dX10_pass_0 : decode cX10_pass 0 = .ok (.aload_n 0, 1) := dq daX10_pass_44_0 0 rfl
theorem dX10_pass_1 : decode cX10_pass 1 = .ok (.getfield 10, 3) := dq daX10_pass_44_0 1 rfl
theorem dX10_pass_4 : decode cX10_pass 4 = .ok (.getfield 83, 3) := dq daX10_pass_44_0 2 rfl
theorem dX10_pass_7 : decode cX10_pass 7 = .ok (.iload_n 1, 1) := dq daX10_pass_44_0 3 rfl
theorem dX10_pass_8 : decode cX10_pass 8 = .ok (.invokevirtual 97, 3) := dq daX10_pass_44_0 4 rfl
theorem dX10_pass_11 : decode cX10_pass 11 = .ok (.ifCond .eq 26, 3) := dq daX10_pass_44_0 5 rfl
theorem dX10_pass_37 : decode cX10_pass 37 = .ok (.iconst 0, 1) := dq daX10_pass_44_0 6 rfl
theorem dX10_pass_38 : decode cX10_pass 38 = .ok (.istore 6, 2) := dq daX10_pass_44_0 7 rfl
theorem dX10_pass_40 : decode cX10_pass 40 = .ok (.iload_n 3, 1) := dq daX10_pass_44_0 8 rfl
theorem dX10_pass_41 : decode cX10_pass 41 = .ok (.iconst 1, 1) := dq daX10_pass_44_0 9 rfl
theorem dX10_pass_42 : decode cX10_pass 42 = .ok (.if_icmp .lt 37, 3) := dq daX10_pass_44_0 10 rfl
theorem dX10_pass_79 : decode cX10_pass 79 = .ok (.iconst 0, 1) := dq daX10_pass_44_0 11 rfl
theorem dX10_pass_80 : decode cX10_pass 80 = .ok (.istore 7, 2) := dq daX10_pass_44_0 12 rfl
theorem dX10_pass_82 : decode cX10_pass 82 = .ok (.iload 6, 2) := dq daX10_pass_44_0 13 rfl
theorem dX10_pass_84 : decode cX10_pass 84 = .ok (.ifCond .eq 21, 3) := dq daX10_pass_44_0 14 rfl
theorem dX10_pass_105 : decode cX10_pass 105 = .ok (.iconst (-1), 1) := dq daX10_pass_44_0 15 rfl
theorem dX10_pass_106 : decode cX10_pass 106 = .ok (.istore 8, 2) := dq daX10_pass_44_0 16 rfl
theorem dX10_pass_108 : decode cX10_pass 108 = .ok (.iload 8, 2) := dq daX10_pass_44_0 17 rfl
theorem dX10_pass_110 : decode cX10_pass 110 = .ok (.iconst (-1), 1) := dq daX10_pass_44_0 18 rfl
theorem dX10_pass_111 : decode cX10_pass 111 = .ok (.if_icmp .eq 75, 3) := dq daX10_pass_44_0 19 rfl
theorem dX10_pass_186 : decode cX10_pass 186 = .ok (.iload 8, 2) := dq daX10_pass_44_0 20 rfl
theorem dX10_pass_188 : decode cX10_pass 188 = .ok (.ireturn, 1) := dq daX10_pass_44_0 21 rfl
theorem dX10_pass_45 : decode cX10_pass 45 = .ok (.iload_n 3, 1) := dq daX10_pass_44_0 22 rfl
theorem dX10_pass_46 : decode cX10_pass 46 = .ok (.bipush 24, 2) := dq daX10_pass_44_0 23 rfl
theorem dX10_pass_48 : decode cX10_pass 48 = .ok (.invokestatic 79, 3) := dq daX10_pass_44_0 24 rfl
theorem dX10_pass_51 : decode cX10_pass 51 = .ok (.ifCond .eq 28, 3) := dq daX10_pass_44_0 25 rfl
theorem dX10_pass_54 : decode cX10_pass 54 = .ok (.iload 4, 2) := dq daX10_pass_44_0 26 rfl
theorem dX10_pass_56 : decode cX10_pass 56 = .ok (.bipush 9, 2) := dq daX10_pass_44_0 27 rfl
theorem dX10_pass_58 : decode cX10_pass 58 = .ok (.invokestatic 79, 3) := dq daX10_pass_44_0 28 rfl
theorem dX10_pass_61 : decode cX10_pass 61 = .ok (.ifCond .eq 18, 3) := dq daX10_pass_44_0 29 rfl
theorem dX10_pass_64 : decode cX10_pass 64 = .ok (.iload 5, 2) := dq daX10_pass_44_0 30 rfl
theorem dX10_pass_66 : decode cX10_pass 66 = .ok (.sipush 1000, 3) := dq daX10_pass_44_0 31 rfl
def dtX10_pass_44_1 : List (Nat × Jvm.ClassFile.Instr × Nat) := [(69, .invokestatic 79, 3), (72, .ifCond .eq 7, 3), (75, .iconst 1, 1), (76, .goto 4, 3), (14, .aload_n 0, 1), (15, .getfield 10, 3), (18, .getfield 83, 3), (21, .iload_n 2, 1), (22, .invokevirtual 97, 3), (25, .ifCond .eq 12, 3), (28, .iload_n 1, 1), (29, .iload_n 2, 1), (30, .if_icmp .eq 7, 3), (33, .iconst 1, 1), (34, .goto 4, 3), (87, .iload 7, 2), (89, .ifCond .eq 16, 3), (92, .aload_n 0, 1), (93, .getfield 10, 3), (96, .getfield 101, 3), (99, .invokevirtual 87, 3), (102, .goto 4, 3), (114, .aload_n 0, 1), (115, .getfield 10, 3), (118, .getfield 101, 3), (121, .iload 8, 2), (123, .iconst 0, 1), (124, .iload_n 1, 1), (125, .invokevirtual 93, 3), (128, .aload_n 0, 1), (129, .getfield 10, 3), (132, .getfield 101, 3)]
theorem daX10_pass_44_1 : dtX10_pass_44_1.all (dqd cX10_pass) = true := by decide +kernel
theorem dX10_pass_69 : decode cX10_pass 69 = .ok (.invokestatic 79, 3) := dq daX10_pass_44_1 0 rfl
theorem dX10_pass_72 : decode cX10_pass 72 = .ok (.ifCond .eq 7, 3) := dq daX10_pass_44_1 1 rfl
theorem dX10_pass_75 : decode cX10_pass 75 = .ok (.iconst 1, 1) := dq daX10_pass_44_1 2 rfl
theorem dX10_pass_76 : decode cX10_pass 76 = .ok (.goto 4, 3) := dq daX10_pass_44_1 3 rfl
theorem dX10_pass_14 : decode cX10_pass 14 = .ok (.aload_n 0, 1) := dq daX10_pass_44_1 4 rfl
theorem dX10_pass_15 : decode cX10_pass 15 = .ok (.getfield 10, 3) := dq daX10_pass_44_1 5 rfl
theorem dX10_pass_18 : decode cX10_pass 18 = .ok (.getfield 83, 3) := dq daX10_pass_44_1 6 rfl
theorem dX10_pass_21 : decode cX10_pass 21 = .ok (.iload_n 2, 1) := dq daX10_pass_44_1 7 rfl
theorem dX10_pass_22 : decode cX10_pass 22 = .ok (.invokevirtual 97, 3) := dq daX10_pass_44_1 8 rfl
theorem dX10_pass_25 : decode cX10_pass 25 = .ok (.ifCond .eq 12, 3) := dq daX10_pass_44_1 9 rfl
theorem dX10_pass_28 : decode cX10_pass 28 = .ok (.iload_n 1, 1) := dq daX10_pass_44_1 10 rfl
theorem dX10_pass_29 : decode cX10_pass 29 = .ok (.iload_n 2, 1) := dq daX10_pass_44_1 11 rfl
theorem dX10_pass_30 : decode cX10_pass 30 = .ok (.if_icmp .eq 7, 3) := dq daX10_pass_44_1 12 rfl
theorem dX10_pass_33 : decode cX10_pass 33 = .ok (.iconst 1, 1) := dq daX10_pass_44_1 13 rfl
theorem dX10_pass_34 : decode cX10_pass 34 = .ok (.goto 4, 3) := dq daX10_pass_44_1 14 rfl
theorem dX10_pass_87 : decode cX10_pass 87 = .ok (.iload 7, 2) := dq daX10_pass_44_1 15 rfl
theorem dX10_pass_89 : decode cX10_pass 89 = .ok (.ifCond .eq 16, 3) := dq daX10_pass_44_1 16 rfl
theorem dX10_pass_92 : decode cX10_pass 92 = .ok (.aload_n 0, 1) := dq daX10_pass_44_1 17 rfl
theorem dX10_pass_93 : decode cX10_pass 93 = .ok (.getfield 10, 3) := dq daX10_pass_44_1 18 rfl
theorem dX10_pass_96 : decode cX10_pass 96 = .ok (.getfield 101, 3) := dq daX10_pass_44_1 19 rfl
theorem dX10_pass_99 : decode cX10_pass 99 = .ok (.invokevirtual 87, 3) := dq daX10_pass_44_1 20 rfl
theorem dX10_pass_102 : decode cX10_pass 102 = .ok (.goto 4, 3) := dq daX10_pass_44_1 21 rfl
theorem dX10_pass_114 : decode cX10_pass 114 = .ok (.aload_n 0, 1) := dq daX10_pass_44_1 22 rfl
theorem dX10_pass_115 : decode cX10_pass 115 = .ok (.getfield 10, 3) := dq daX10_pass_44_1 23 rfl
theorem dX10_pass_118 : decode cX10_pass 118 = .ok (.getfield 101, 3) := dq daX10_pass_44_1 24 rfl
theorem dX10_pass_121 : decode cX10_pass 121 = .ok (.iload 8, 2) := dq daX10_pass_44_1 25 rfl
theorem dX10_pass_123 : decode cX10_pass 123 = .ok (.iconst 0, 1) := dq daX10_pass_44_1 26 rfl
theorem dX10_pass_124 : decode cX10_pass 124 = .ok (.iload_n 1, 1) := dq daX10_pass_44_1 27 rfl
theorem dX10_pass_125 : decode cX10_pass 125 = .ok (.invokevirtual 93, 3) := dq daX10_pass_44_1 28 rfl
theorem dX10_pass_128 : decode cX10_pass 128 = .ok (.aload_n 0, 1) := dq daX10_pass_44_1 29 rfl
theorem dX10_pass_129 : decode cX10_pass 129 = .ok (.getfield 10, 3) := dq daX10_pass_44_1 30 rfl
theorem dX10_pass_132 : decode cX10_pass 132 = .ok (.getfield 101, 3) := dq daX10_pass_44_1 31 rfl
def dtX10_pass_44_2 : List (Nat × Jvm.ClassFile.Instr × Nat) := [(135, .iload 8, 2), (137, .iconst 1, 1), (138, .iload_n 2, 1), (139, .invokevirtual 93, 3), (142, .aload_n 0, 1), (143, .getfield 10, 3), (146, .getfield 101, 3), (149, .iload 8, 2), (151, .iconst 2, 1), (152, .iload_n 3, 1), (153, .invokevirtual 93, 3), (156, .aload_n 0, 1), (157, .getfield 10, 3), (160, .getfield 101, 3), (163, .iload 8, 2), (165, .iconst 3, 1), (166, .iload 4, 2), (168, .invokevirtual 93, 3), (171, .aload_n 0, 1), (172, .getfield 10, 3), (175, .getfield 101, 3), (178, .iload 8, 2), (180, .iconst 4, 1), (181, .iload 5, 2), (183, .invokevirtual 93, 3)]
theorem daX10_pass_44_2 : dtX10_pass_44_2.all (dqd cX10_pass) = true := by decide +kernel
theorem dX10_pass_135 : decode cX10_pass 135 = .ok (.iload 8, 2) := dq daX10_pass_44_2 0 rfl
theorem dX10_pass_137 : decode cX10_pass 137 = .ok (.iconst 1, 1) := dq daX10_pass_44_2 1 rfl
theorem dX10_pass_138 : decode cX10_pass 138 = .ok (.iload_n 2, 1) := dq daX10_pass_44_2 2 rfl
theorem dX10_pass_139 : decode cX10_pass 139 = .ok (.invokevirtual 93, 3) := dq daX10_pass_44_2 3 rfl
theorem dX10_pass_142 : decode cX10_pass 142 = .ok (.aload_n 0, 1) := dq daX10_pass_44_2 4 rfl
theorem dX10_pass_143 : decode cX10_pass 143 = .ok (.getfield 10, 3) := dq daX10_pass_44_2 5 rfl
theorem dX10_pass_146 : decode cX10_pass 146 = .ok (.getfield 101, 3) := dq daX10_pass_44_2 6 rfl
theorem dX10_pass_149 : decode cX10_pass 149 = .ok (.iload 8, 2) := dq daX10_pass_44_2 7 rfl
theorem dX10_pass_151 : decode cX10_pass 151 = .ok (.iconst 2, 1) := dq daX10_pass_44_2 8 rfl
theorem dX10_pass_152 : decode cX10_pass 152 = .ok (.iload_n 3, 1) := dq daX10_pass_44_2 9 rfl
theorem dX10_pass_153 : decode cX10_pass 153 = .ok (.invokevirtual 93, 3) := dq daX10_pass_44_2 10 rfl
theorem dX10_pass_156 : decode cX10_pass 156 = .ok (.aload_n 0, 1) := dq daX10_pass_44_2 11 rfl
theorem dX10_pass_157 : decode cX10_pass 157 = .ok (.getfield 10, 3) := dq daX10_pass_44_2 12 rfl
theorem dX10_pass_160 : decode cX10_pass 160 = .ok (.getfield 101, 3) := dq daX10_pass_44_2 13 rfl
theorem dX10_pass_163 : decode cX10_pass 163 = .ok (.iload 8, 2) := dq daX10_pass_44_2 14 rfl
theorem dX10_pass_165 : decode cX10_pass 165 = .ok (.iconst 3, 1) := dq daX10_pass_44_2 15 rfl
theorem dX10_pass_166 : decode cX10_pass 166 = .ok (.iload 4, 2) := dq daX10_pass_44_2 16 rfl
theorem dX10_pass_168 : decode cX10_pass 168 = .ok (.invokevirtual 93, 3) := dq daX10_pass_44_2 17 rfl
theorem dX10_pass_171 : decode cX10_pass 171 = .ok (.aload_n 0, 1) := dq daX10_pass_44_2 18 rfl
theorem dX10_pass_172 : decode cX10_pass 172 = .ok (.getfield 10, 3) := dq daX10_pass_44_2 19 rfl
theorem dX10_pass_175 : decode cX10_pass 175 = .ok (.getfield 101, 3) := dq daX10_pass_44_2 20 rfl
theorem dX10_pass_178 : decode cX10_pass 178 = .ok (.iload 8, 2) := dq daX10_pass_44_2 21 rfl
theorem dX10_pass_180 : decode cX10_pass 180 = .ok (.iconst 4, 1) := dq daX10_pass_44_2 22 rfl
theorem dX10_pass_181 : decode cX10_pass 181 = .ok (.iload 5, 2) := dq daX10_pass_44_2 23 rfl
theorem dX10_pass_183 : decode cX10_pass 183 = .ok (.invokevirtual 93, 3) := dq daX10_pass_44_2 24 rfl
def dtX10_jar_44_0 : List (Nat × Jvm.ClassFile.Instr × Nat) := [(0, .iload_n 2, 1), (1, .iload_n 3, 1), (2, .invokestatic 104, 3), (5, .ifCond .eq 27, 3), (32, .iconst 0, 1), (33, .istore 6, 2), (35, .iload 6, 2), (37, .ifCond .eq 30, 3), (67, .iconst (-1), 1), (68, .istore 7, 2), (70, .iload 7, 2), (72, .iconst (-1), 1), (73, .if_icmp .eq 88, 3), (161, .iload 7, 2), (163, .ireturn, 1), (8, .iload 4, 2), (10, .bipush 7, 2), (12, .invokestatic 79, 3), (15, .ifCond .eq 17, 3), (18, .iload 5, 2), (20, .bipush 15, 2), (22, .invokestatic 79, 3), (25, .ifCond .eq 7, 3), (28, .iconst 1, 1), (29, .goto 4, 3), (40, .aload_n 0, 1), (41, .getfield 10, 3), (44, .getfield 83, 3), (47, .iload_n 1, 1), (48, .invokevirtual 97, 3), (51, .ifCond .eq 16, 3), (54, .aload_n 0, 1)]
theorem daX10_jar_44_0 : dtX10_jar_44_0.all (dqd cX10_jar) = true := by decide +kernel
theorem dX10_jar_0 : decode cX10_jar 0 = .ok (.iload_n 2, 1) := dq daX10_jar_44_0 0 rfl
theorem dX10_jar_1 : decode cX10_jar 1 = .ok (.iload_n 3, 1) := dq daX10_jar_44_0 1 rfl
theorem dX10_jar_2 : decode cX10_jar 2 = .ok (.invokestatic 104, 3) := dq daX10_jar_44_0 2 rfl
theorem dX10_jar_5 : decode cX10_jar 5 = .ok (.ifCond .eq 27, 3) := dq daX10_jar_44_0 3 rfl
theorem dX10_jar_32 : decode cX10_jar 32 = .ok (.iconst 0, 1) := dq daX10_jar_44_0 4 rfl
theorem dX10_jar_33 : decode cX10_jar 33 = .ok (.istore 6, 2) := dq daX10_jar_44_0 5 rfl
theorem dX10_jar_35 : decode cX10_jar 35 = .ok (.iload 6, 2) := dq daX10_jar_44_0 6 rfl
theorem dX10_jar_37 : decode cX10_jar 37 = .ok (.ifCond .eq 30, 3) := dq daX10_jar_44_0 7 rfl
theorem dX10_jar_67 : decode cX10_jar 67 = .ok (.iconst (-1), 1) := dq daX10_jar_44_0 8 rfl
theorem dX10_jar_68 : decode cX10_jar 68 = .ok (.istore 7, 2) := dq daX10_jar_44_0 9 rfl
theorem dX10_jar_70 : decode cX10_jar 70 = .ok (.iload 7, 2) := dq daX10_jar_44_0 10 rfl
theorem dX10_jar_72 : decode cX10_jar 72 = .ok (.iconst (-1), 1) := dq daX10_jar_44_0 11 rfl
theorem dX10_jar_73 : decode cX10_jar 73 = .ok (.if_icmp .eq 88, 3) := dq daX10_jar_44_0 12 rfl
theorem dX10_jar_161 : decode cX10_jar 161 = .ok (.iload 7, 2) := dq daX10_jar_44_0 13 rfl
theorem dX10_jar_163 : decode cX10_jar 163 = .ok (.ireturn, 1) := dq daX10_jar_44_0 14 rfl
theorem dX10_jar_8 : decode cX10_jar 8 = .ok (.iload 4, 2) := dq daX10_jar_44_0 15 rfl
theorem dX10_jar_10 : decode cX10_jar 10 = .ok (.bipush 7, 2) := dq daX10_jar_44_0 16 rfl
theorem dX10_jar_12 : decode cX10_jar 12 = .ok (.invokestatic 79, 3) := dq daX10_jar_44_0 17 rfl
theorem dX10_jar_15 : decode cX10_jar 15 = .ok (.ifCond .eq 17, 3) := dq daX10_jar_44_0 18 rfl
theorem dX10_jar_18 : decode cX10_jar 18 = .ok (.iload 5, 2) := dq daX10_jar_44_0 19 rfl
theorem dX10_jar_20 : decode cX10_jar 20 = .ok (.bipush 15, 2) := dq daX10_jar_44_0 20 rfl
theorem dX10_jar_22 : decode cX10_jar 22 = .ok (.invokestatic 79, 3) := dq daX10_jar_44_0 21 rfl
theorem dX10_jar_25 : decode cX10_jar 25 = .ok (.ifCond .eq 7, 3) := dq daX10_jar_44_0 22 rfl
theorem dX10_jar_28 : decode cX10_jar 28 = .ok (.iconst 1, 1) := dq daX10_jar_44_0 23 rfl
theorem dX10_jar_29 : decode cX10_jar 29 = .ok (.goto 4, 3) := dq daX10_jar_44_0 24 rfl
theorem dX10_jar_40 : decode cX10_jar 40 = .ok (.aload_n 0, 1) := dq daX10_jar_44_0 25 rfl
theorem dX10_jar_41 : decode cX10_jar 41 = .ok (.getfield 10, 3) := dq daX10_jar_44_0 26 rfl
theorem dX10_jar_44 : decode cX10_jar 44 = .ok (.getfield 83, 3) := dq daX10_jar_44_0 27 rfl
theorem dX10_jar_47 : decode cX10_jar 47 = .ok (.iload_n 1, 1) := dq daX10_jar_44_0 28 rfl
theorem dX10_jar_48 : decode cX10_jar 48 = .ok (.invokevirtual 97, 3) := dq daX10_jar_44_0 29 rfl
theorem dX10_jar_51 : decode cX10_jar 51 = .ok (.ifCond .eq 16, 3) := dq daX10_jar_44_0 30 rfl
theorem dX10_jar_54 : decode cX10_jar 54 = .ok (.aload_n 0, 1) := dq daX10_jar_44_0 31 rfl
def dtX10_jar_44_1 : List (Nat × Jvm.ClassFile.Instr × Nat) := [(55, .getfield 10, 3), (58, .getfield 107, 3), (61, .invokevirtual 87, 3), (64, .goto 4, 3), (76, .aload_n 0, 1), (77, .getfield 10, 3), (80, .getfield 107, 3), (83, .iload 7, 2), (85, .iconst 0, 1), (86, .iconst 0, 1), (87, .invokevirtual 93, 3), (90, .aload_n 0, 1), (91, .getfield 10, 3), (94, .iload 7, 2), (96, .iload_n 1, 1), (97, .invokevirtual 110, 3), (100, .aload_n 0, 1), (101, .getfield 10, 3), (104, .getfield 107, 3), (107, .iload 7, 2), (109, .iconst 5, 1), (110, .iload_n 2, 1), (111, .invokevirtual 93, 3), (114, .aload_n 0, 1), (115, .getfield 10, 3), (118, .getfield 107, 3), (121, .iload 7, 2), (123, .bipush 6, 2), (125, .iload_n 3, 1), (126, .invokevirtual 93, 3), (129, .aload_n 0, 1), (130, .getfield 10, 3)]
theorem daX10_jar_44_1 : dtX10_jar_44_1.all (dqd cX10_jar) = true := by decide +kernel
theorem dX10_jar_55 : decode cX10_jar 55 = .ok (.getfield 10, 3) := dq daX10_jar_44_1 0 rfl
theorem dX10_jar_58 : decode cX10_jar 58 = .ok (.getfield 107, 3) := dq daX10_jar_44_1 1 rfl
theorem dX10_jar_61 : decode cX10_jar 61 = .ok (.invokevirtual 87, 3) := dq daX10_jar_44_1 2 rfl
theorem dX10_jar_64 : decode cX10_jar 64 = .ok (.goto 4, 3) := dq daX10_jar_44_1 3 rfl
theorem dX10_jar_76 : decode cX10_jar 76 = .ok (.aload_n 0, 1) := dq daX10_jar_44_1 4 rfl
theorem dX10_jar_77 : decode cX10_jar 77 = .ok (.getfield 10, 3) := dq daX10_jar_44_1 5 rfl
theorem dX10_jar_80 : decode cX10_jar 80 = .ok (.getfield 107, 3) := dq daX10_jar_44_1 6 rfl
theorem dX10_jar_83 : decode cX10_jar 83 = .ok (.iload 7, 2) := dq daX10_jar_44_1 7 rfl
theorem dX10_jar_85 : decode cX10_jar 85 = .ok (.iconst 0, 1) := dq daX10_jar_44_1 8 rfl
theorem dX10_jar_86 : decode cX10_jar 86 = .ok (.iconst 0, 1) := dq daX10_jar_44_1 9 rfl
theorem dX10_jar_87 : decode cX10_jar 87 = .ok (.invokevirtual 93, 3) := dq daX10_jar_44_1 10 rfl
theorem dX10_jar_90 : decode cX10_jar 90 = .ok (.aload_n 0, 1) := dq daX10_jar_44_1 11 rfl
theorem dX10_jar_91 : decode cX10_jar 91 = .ok (.getfield 10, 3) := dq daX10_jar_44_1 12 rfl
theorem dX10_jar_94 : decode cX10_jar 94 = .ok (.iload 7, 2) := dq daX10_jar_44_1 13 rfl
theorem dX10_jar_96 : decode cX10_jar 96 = .ok (.iload_n 1, 1) := dq daX10_jar_44_1 14 rfl
theorem dX10_jar_97 : decode cX10_jar 97 = .ok (.invokevirtual 110, 3) := dq daX10_jar_44_1 15 rfl
theorem dX10_jar_100 : decode cX10_jar 100 = .ok (.aload_n 0, 1) := dq daX10_jar_44_1 16 rfl
theorem dX10_jar_101 : decode cX10_jar 101 = .ok (.getfield 10, 3) := dq daX10_jar_44_1 17 rfl
theorem dX10_jar_104 : decode cX10_jar 104 = .ok (.getfield 107, 3) := dq daX10_jar_44_1 18 rfl
theorem dX10_jar_107 : decode cX10_jar 107 = .ok (.iload 7, 2) := dq daX10_jar_44_1 19 rfl
theorem dX10_jar_109 : decode cX10_jar 109 = .ok (.iconst 5, 1) := dq daX10_jar_44_1 20 rfl
theorem dX10_jar_110 : decode cX10_jar 110 = .ok (.iload_n 2, 1) := dq daX10_jar_44_1 21 rfl
theorem dX10_jar_111 : decode cX10_jar 111 = .ok (.invokevirtual 93, 3) := dq daX10_jar_44_1 22 rfl
theorem dX10_jar_114 : decode cX10_jar 114 = .ok (.aload_n 0, 1) := dq daX10_jar_44_1 23 rfl
theorem dX10_jar_115 : decode cX10_jar 115 = .ok (.getfield 10, 3) := dq daX10_jar_44_1 24 rfl
theorem dX10_jar_118 : decode cX10_jar 118 = .ok (.getfield 107, 3) := dq daX10_jar_44_1 25 rfl
theorem dX10_jar_121 : decode cX10_jar 121 = .ok (.iload 7, 2) := dq daX10_jar_44_1 26 rfl
theorem dX10_jar_123 : decode cX10_jar 123 = .ok (.bipush 6, 2) := dq daX10_jar_44_1 27 rfl
theorem dX10_jar_125 : decode cX10_jar 125 = .ok (.iload_n 3, 1) := dq daX10_jar_44_1 28 rfl
theorem dX10_jar_126 : decode cX10_jar 126 = .ok (.invokevirtual 93, 3) := dq daX10_jar_44_1 29 rfl
theorem dX10_jar_129 : decode cX10_jar 129 = .ok (.aload_n 0, 1) := dq daX10_jar_44_1 30 rfl
theorem dX10_jar_130 : decode cX10_jar 130 = .ok (.getfield 10, 3) := dq daX10_jar_44_1 31 rfl
def dtX10_jar_44_2 : List (Nat × Jvm.ClassFile.Instr × Nat) := [(133, .getfield 107, 3), (136, .iload 7, 2), (138, .bipush 7, 2), (140, .iload 4, 2), (142, .invokevirtual 93, 3), (145, .aload_n 0, 1), (146, .getfield 10, 3), (149, .getfield 107, 3), (152, .iload 7, 2), (154, .bipush 8, 2), (156, .iload 5, 2), (158, .invokevirtual 93, 3)]
theorem daX10_jar_44_2 : dtX10_jar_44_2.all (dqd cX10_jar) = true := by decide +kernel
theorem dX10_jar_133 : decode cX10_jar 133 = .ok (.getfield 107, 3) := dq daX10_jar_44_2 0 rfl
theorem dX10_jar_136 : decode cX10_jar 136 = .ok (.iload 7, 2) := dq daX10_jar_44_2 1 rfl
theorem dX10_jar_138 : decode cX10_jar 138 = .ok (.bipush 7, 2) := dq daX10_jar_44_2 2 rfl
theorem dX10_jar_140 : decode cX10_jar 140 = .ok (.iload 4, 2) := dq daX10_jar_44_2 3 rfl
theorem dX10_jar_142 : decode cX10_jar 142 = .ok (.invokevirtual 93, 3) := dq daX10_jar_44_2 4 rfl
theorem dX10_jar_145 : decode cX10_jar 145 = .ok (.aload_n 0, 1) := dq daX10_jar_44_2 5 rfl
theorem dX10_jar_146 : decode cX10_jar 146 = .ok (.getfield 10, 3) := dq daX10_jar_44_2 6 rfl
theorem dX10_jar_149 : decode cX10_jar 149 = .ok (.getfield 107, 3) := dq daX10_jar_44_2 7 rfl
theorem dX10_jar_152 : decode cX10_jar 152 = .ok (.iload 7, 2) := dq daX10_jar_44_2 8 rfl
theorem dX10_jar_154 : decode cX10_jar 154 = .ok (.bipush 8, 2) := dq daX10_jar_44_2 9 rfl
theorem dX10_jar_156 : decode cX10_jar 156 = .ok (.iload 5, 2) := dq daX10_jar_44_2 10 rfl
theorem dX10_jar_158 : decode cX10_jar 158 = .ok (.invokevirtual 93, 3) := dq daX10_jar_44_2 11 rfl
def dtX10_order_44_0 : List (Nat × Jvm.ClassFile.Instr × Nat) := [(0, .iload_n 2, 1), (1, .ldc 140, 2), (3, .invokestatic 79, 3), (6, .ifCond .eq 25, 3), (31, .iconst 0, 1), (32, .istore 5, 2), (34, .iload 5, 2), (36, .ifCond .eq 30, 3), (66, .iconst (-1), 1), (67, .istore 6, 2), (69, .iload 6, 2), (71, .iconst (-1), 1), (72, .if_icmp .ne 5, 3), (75, .iconst (-1), 1), (76, .ireturn, 1), (9, .iload_n 3, 1), (10, .invokestatic 260, 3), (13, .ifCond .eq 18, 3), (16, .iload 4, 2), (18, .sipush 9999, 3), (21, .invokestatic 79, 3), (24, .ifCond .eq 7, 3), (27, .iconst 1, 1), (28, .goto 4, 3), (39, .aload_n 0, 1), (40, .getfield 10, 3), (43, .getfield 83, 3), (46, .iload_n 1, 1), (47, .invokevirtual 97, 3), (50, .ifCond .eq 16, 3), (53, .aload_n 0, 1), (54, .getfield 10, 3)]
theorem daX10_order_44_0 : dtX10_order_44_0.all (dqd cX10_order) = true := by decide +kernel
theorem dX10_order_0 : decode cX10_order 0 = .ok (.iload_n 2, 1) := dq daX10_order_44_0 0 rfl
theorem dX10_order_1 : decode cX10_order 1 = .ok (.ldc 140, 2) := dq daX10_order_44_0 1 rfl
theorem dX10_order_3 : decode cX10_order 3 = .ok (.invokestatic 79, 3) := dq daX10_order_44_0 2 rfl
theorem dX10_order_6 : decode cX10_order 6 = .ok (.ifCond .eq 25, 3) := dq daX10_order_44_0 3 rfl
theorem dX10_order_31 : decode cX10_order 31 = .ok (.iconst 0, 1) := dq daX10_order_44_0 4 rfl
theorem dX10_order_32 : decode cX10_order 32 = .ok (.istore 5, 2) := dq daX10_order_44_0 5 rfl
theorem dX10_order_34 : decode cX10_order 34 = .ok (.iload 5, 2) := dq daX10_order_44_0 6 rfl
theorem dX10_order_36 : decode cX10_order 36 = .ok (.ifCond .eq 30, 3) := dq daX10_order_44_0 7 rfl
theorem dX10_order_66 : decode cX10_order 66 = .ok (.iconst (-1), 1) := dq daX10_order_44_0 8 rfl
theorem dX10_order_67 : decode cX10_order 67 = .ok (.istore 6, 2) := dq daX10_order_44_0 9 rfl
theorem dX10_order_69 : decode cX10_order 69 = .ok (.iload 6, 2) := dq daX10_order_44_0 10 rfl
theorem dX10_order_71 : decode cX10_order 71 = .ok (.iconst (-1), 1) := dq daX10_order_44_0 11 rfl
theorem dX10_order_72 : decode cX10_order 72 = .ok (.if_icmp .ne 5, 3) := dq daX10_order_44_0 12 rfl
theorem dX10_order_75 : decode cX10_order 75 = .ok (.iconst (-1), 1) := dq daX10_order_44_0 13 rfl
theorem dX10_order_76 : decode cX10_order 76 = .ok (.ireturn, 1) := dq daX10_order_44_0 14 rfl
theorem dX10_order_9 : decode cX10_order 9 = .ok (.iload_n 3, 1) := dq daX10_order_44_0 15 rfl
theorem dX10_order_10 : decode cX10_order 10 = .ok (.invokestatic 260, 3) := dq daX10_order_44_0 16 rfl
theorem dX10_order_13 : decode cX10_order 13 = .ok (.ifCond .eq 18, 3) := dq daX10_order_44_0 17 rfl
theorem dX10_order_16 : decode cX10_order 16 = .ok (.iload 4, 2) := dq daX10_order_44_0 18 rfl
theorem dX10_order_18 : decode cX10_order 18 = .ok (.sipush 9999, 3) := dq daX10_order_44_0 19 rfl
theorem dX10_order_21 : decode cX10_order 21 = .ok (.invokestatic 79, 3) := dq daX10_order_44_0 20 rfl
theorem dX10_order_24 : decode cX10_order 24 = .ok (.ifCond .eq 7, 3) := dq daX10_order_44_0 21 rfl
theorem dX10_order_27 : decode cX10_order 27 = .ok (.iconst 1, 1) := dq daX10_order_44_0 22 rfl
theorem dX10_order_28 : decode cX10_order 28 = .ok (.goto 4, 3) := dq daX10_order_44_0 23 rfl
theorem dX10_order_39 : decode cX10_order 39 = .ok (.aload_n 0, 1) := dq daX10_order_44_0 24 rfl
theorem dX10_order_40 : decode cX10_order 40 = .ok (.getfield 10, 3) := dq daX10_order_44_0 25 rfl
theorem dX10_order_43 : decode cX10_order 43 = .ok (.getfield 83, 3) := dq daX10_order_44_0 26 rfl
theorem dX10_order_46 : decode cX10_order 46 = .ok (.iload_n 1, 1) := dq daX10_order_44_0 27 rfl
theorem dX10_order_47 : decode cX10_order 47 = .ok (.invokevirtual 97, 3) := dq daX10_order_44_0 28 rfl
theorem dX10_order_50 : decode cX10_order 50 = .ok (.ifCond .eq 16, 3) := dq daX10_order_44_0 29 rfl
theorem dX10_order_53 : decode cX10_order 53 = .ok (.aload_n 0, 1) := dq daX10_order_44_0 30 rfl
theorem dX10_order_54 : decode cX10_order 54 = .ok (.getfield 10, 3) := dq daX10_order_44_0 31 rfl
def dtX10_order_44_1 : List (Nat × Jvm.ClassFile.Instr × Nat) := [(57, .getfield 263, 3), (60, .invokevirtual 87, 3), (63, .goto 4, 3), (77, .aload_n 0, 1), (78, .getfield 10, 3), (81, .getfield 263, 3), (84, .iload 6, 2), (86, .iconst 0, 1), (87, .iload_n 1, 1), (88, .invokevirtual 93, 3), (91, .aload_n 0, 1), (92, .getfield 10, 3), (95, .getfield 263, 3), (98, .iload 6, 2), (100, .iconst 1, 1), (101, .iload_n 2, 1), (102, .invokevirtual 93, 3), (105, .aload_n 0, 1), (106, .getfield 10, 3), (109, .getfield 263, 3), (112, .iload 6, 2), (114, .iconst 2, 1), (115, .iload_n 3, 1), (116, .invokevirtual 93, 3), (119, .aload_n 0, 1), (120, .getfield 10, 3), (123, .getfield 263, 3), (126, .iload 6, 2), (128, .iconst 3, 1), (129, .iload 4, 2), (131, .invokevirtual 93, 3), (134, .iload 6, 2)]
theorem daX10_order_44_1 : dtX10_order_44_1.all (dqd cX10_order) = true := by decide +kernel
theorem dX10_order_57 : decode cX10_order 57 = .ok (.getfield 263, 3) := dq daX10_order_44_1 0 rfl
theorem dX10_order_60 : decode cX10_order 60 = .ok (.invokevirtual 87, 3) := dq daX10_order_44_1 1 rfl
theorem dX10_order_63 : decode cX10_order 63 = .ok (.goto 4, 3) := dq daX10_order_44_1 2 rfl
theorem dX10_order_77 : decode cX10_order 77 = .ok (.aload_n 0, 1) := dq daX10_order_44_1 3 rfl
theorem dX10_order_78 : decode cX10_order 78 = .ok (.getfield 10, 3) := dq daX10_order_44_1 4 rfl
theorem dX10_order_81 : decode cX10_order 81 = .ok (.getfield 263, 3) := dq daX10_order_44_1 5 rfl
theorem dX10_order_84 : decode cX10_order 84 = .ok (.iload 6, 2) := dq daX10_order_44_1 6 rfl
theorem dX10_order_86 : decode cX10_order 86 = .ok (.iconst 0, 1) := dq daX10_order_44_1 7 rfl
theorem dX10_order_87 : decode cX10_order 87 = .ok (.iload_n 1, 1) := dq daX10_order_44_1 8 rfl
theorem dX10_order_88 : decode cX10_order 88 = .ok (.invokevirtual 93, 3) := dq daX10_order_44_1 9 rfl
theorem dX10_order_91 : decode cX10_order 91 = .ok (.aload_n 0, 1) := dq daX10_order_44_1 10 rfl
theorem dX10_order_92 : decode cX10_order 92 = .ok (.getfield 10, 3) := dq daX10_order_44_1 11 rfl
theorem dX10_order_95 : decode cX10_order 95 = .ok (.getfield 263, 3) := dq daX10_order_44_1 12 rfl
theorem dX10_order_98 : decode cX10_order 98 = .ok (.iload 6, 2) := dq daX10_order_44_1 13 rfl
theorem dX10_order_100 : decode cX10_order 100 = .ok (.iconst 1, 1) := dq daX10_order_44_1 14 rfl
theorem dX10_order_101 : decode cX10_order 101 = .ok (.iload_n 2, 1) := dq daX10_order_44_1 15 rfl
theorem dX10_order_102 : decode cX10_order 102 = .ok (.invokevirtual 93, 3) := dq daX10_order_44_1 16 rfl
theorem dX10_order_105 : decode cX10_order 105 = .ok (.aload_n 0, 1) := dq daX10_order_44_1 17 rfl
theorem dX10_order_106 : decode cX10_order 106 = .ok (.getfield 10, 3) := dq daX10_order_44_1 18 rfl
theorem dX10_order_109 : decode cX10_order 109 = .ok (.getfield 263, 3) := dq daX10_order_44_1 19 rfl
theorem dX10_order_112 : decode cX10_order 112 = .ok (.iload 6, 2) := dq daX10_order_44_1 20 rfl
theorem dX10_order_114 : decode cX10_order 114 = .ok (.iconst 2, 1) := dq daX10_order_44_1 21 rfl
theorem dX10_order_115 : decode cX10_order 115 = .ok (.iload_n 3, 1) := dq daX10_order_44_1 22 rfl
theorem dX10_order_116 : decode cX10_order 116 = .ok (.invokevirtual 93, 3) := dq daX10_order_44_1 23 rfl
theorem dX10_order_119 : decode cX10_order 119 = .ok (.aload_n 0, 1) := dq daX10_order_44_1 24 rfl
theorem dX10_order_120 : decode cX10_order 120 = .ok (.getfield 10, 3) := dq daX10_order_44_1 25 rfl
theorem dX10_order_123 : decode cX10_order 123 = .ok (.getfield 263, 3) := dq daX10_order_44_1 26 rfl
theorem dX10_order_126 : decode cX10_order 126 = .ok (.iload 6, 2) := dq daX10_order_44_1 27 rfl
theorem dX10_order_128 : decode cX10_order 128 = .ok (.iconst 3, 1) := dq daX10_order_44_1 28 rfl
theorem dX10_order_129 : decode cX10_order 129 = .ok (.iload 4, 2) := dq daX10_order_44_1 29 rfl
theorem dX10_order_131 : decode cX10_order 131 = .ok (.invokevirtual 93, 3) := dq daX10_order_44_1 30 rfl
theorem dX10_order_134 : decode cX10_order 134 = .ok (.iload 6, 2) := dq daX10_order_44_1 31 rfl
def dtX10_order_44_2 : List (Nat × Jvm.ClassFile.Instr × Nat) := [(136, .iconst 1, 1), (137, .iadd, 1), (138, .ireturn, 1)]
theorem daX10_order_44_2 : dtX10_order_44_2.all (dqd cX10_order) = true := by decide +kernel
theorem dX10_order_136 : decode cX10_order 136 = .ok (.iconst 1, 1) := dq daX10_order_44_2 0 rfl
theorem dX10_order_137 : decode cX10_order 137 = .ok (.iadd, 1) := dq daX10_order_44_2 1 rfl
theorem dX10_order_138 : decode cX10_order 138 = .ok (.ireturn, 1) := dq daX10_order_44_2 2 rfl
def dtX10_feast_44_0 : List (Nat × Jvm.ClassFile.Instr × Nat) := [(0, .iload_n 2, 1), (1, .sipush 4166, 3), (4, .invokestatic 79, 3), (7, .ifCond .eq 14, 3), (21, .iconst 0, 1), (22, .istore 4, 2), (24, .iload 4, 2), (26, .ifCond .eq 30, 3), (56, .iconst (-1), 1), (57, .istore 5, 2), (59, .iload 5, 2), (61, .iconst (-1), 1), (62, .if_icmp .ne 5, 3), (65, .iconst (-1), 1), (66, .ireturn, 1), (10, .iload_n 3, 1), (11, .invokestatic 260, 3), (14, .ifCond .eq 7, 3), (17, .iconst 1, 1), (18, .goto 4, 3), (29, .aload_n 0, 1), (30, .getfield 10, 3), (33, .getfield 83, 3), (36, .iload_n 1, 1), (37, .invokevirtual 97, 3), (40, .ifCond .eq 16, 3), (43, .aload_n 0, 1), (44, .getfield 10, 3), (47, .getfield 285, 3), (50, .invokevirtual 87, 3), (53, .goto 4, 3), (67, .aload_n 0, 1)]
theorem daX10_feast_44_0 : dtX10_feast_44_0.all (dqd cX10_feast) = true := by decide +kernel
theorem dX10_feast_0 : decode cX10_feast 0 = .ok (.iload_n 2, 1) := dq daX10_feast_44_0 0 rfl
theorem dX10_feast_1 : decode cX10_feast 1 = .ok (.sipush 4166, 3) := dq daX10_feast_44_0 1 rfl
theorem dX10_feast_4 : decode cX10_feast 4 = .ok (.invokestatic 79, 3) := dq daX10_feast_44_0 2 rfl
theorem dX10_feast_7 : decode cX10_feast 7 = .ok (.ifCond .eq 14, 3) := dq daX10_feast_44_0 3 rfl
theorem dX10_feast_21 : decode cX10_feast 21 = .ok (.iconst 0, 1) := dq daX10_feast_44_0 4 rfl
theorem dX10_feast_22 : decode cX10_feast 22 = .ok (.istore 4, 2) := dq daX10_feast_44_0 5 rfl
theorem dX10_feast_24 : decode cX10_feast 24 = .ok (.iload 4, 2) := dq daX10_feast_44_0 6 rfl
theorem dX10_feast_26 : decode cX10_feast 26 = .ok (.ifCond .eq 30, 3) := dq daX10_feast_44_0 7 rfl
theorem dX10_feast_56 : decode cX10_feast 56 = .ok (.iconst (-1), 1) := dq daX10_feast_44_0 8 rfl
theorem dX10_feast_57 : decode cX10_feast 57 = .ok (.istore 5, 2) := dq daX10_feast_44_0 9 rfl
theorem dX10_feast_59 : decode cX10_feast 59 = .ok (.iload 5, 2) := dq daX10_feast_44_0 10 rfl
theorem dX10_feast_61 : decode cX10_feast 61 = .ok (.iconst (-1), 1) := dq daX10_feast_44_0 11 rfl
theorem dX10_feast_62 : decode cX10_feast 62 = .ok (.if_icmp .ne 5, 3) := dq daX10_feast_44_0 12 rfl
theorem dX10_feast_65 : decode cX10_feast 65 = .ok (.iconst (-1), 1) := dq daX10_feast_44_0 13 rfl
theorem dX10_feast_66 : decode cX10_feast 66 = .ok (.ireturn, 1) := dq daX10_feast_44_0 14 rfl
theorem dX10_feast_10 : decode cX10_feast 10 = .ok (.iload_n 3, 1) := dq daX10_feast_44_0 15 rfl
theorem dX10_feast_11 : decode cX10_feast 11 = .ok (.invokestatic 260, 3) := dq daX10_feast_44_0 16 rfl
theorem dX10_feast_14 : decode cX10_feast 14 = .ok (.ifCond .eq 7, 3) := dq daX10_feast_44_0 17 rfl
theorem dX10_feast_17 : decode cX10_feast 17 = .ok (.iconst 1, 1) := dq daX10_feast_44_0 18 rfl
theorem dX10_feast_18 : decode cX10_feast 18 = .ok (.goto 4, 3) := dq daX10_feast_44_0 19 rfl
theorem dX10_feast_29 : decode cX10_feast 29 = .ok (.aload_n 0, 1) := dq daX10_feast_44_0 20 rfl
theorem dX10_feast_30 : decode cX10_feast 30 = .ok (.getfield 10, 3) := dq daX10_feast_44_0 21 rfl
theorem dX10_feast_33 : decode cX10_feast 33 = .ok (.getfield 83, 3) := dq daX10_feast_44_0 22 rfl
theorem dX10_feast_36 : decode cX10_feast 36 = .ok (.iload_n 1, 1) := dq daX10_feast_44_0 23 rfl
theorem dX10_feast_37 : decode cX10_feast 37 = .ok (.invokevirtual 97, 3) := dq daX10_feast_44_0 24 rfl
theorem dX10_feast_40 : decode cX10_feast 40 = .ok (.ifCond .eq 16, 3) := dq daX10_feast_44_0 25 rfl
theorem dX10_feast_43 : decode cX10_feast 43 = .ok (.aload_n 0, 1) := dq daX10_feast_44_0 26 rfl
theorem dX10_feast_44 : decode cX10_feast 44 = .ok (.getfield 10, 3) := dq daX10_feast_44_0 27 rfl
theorem dX10_feast_47 : decode cX10_feast 47 = .ok (.getfield 285, 3) := dq daX10_feast_44_0 28 rfl
theorem dX10_feast_50 : decode cX10_feast 50 = .ok (.invokevirtual 87, 3) := dq daX10_feast_44_0 29 rfl
theorem dX10_feast_53 : decode cX10_feast 53 = .ok (.goto 4, 3) := dq daX10_feast_44_0 30 rfl
theorem dX10_feast_67 : decode cX10_feast 67 = .ok (.aload_n 0, 1) := dq daX10_feast_44_0 31 rfl
def dtX10_feast_44_1 : List (Nat × Jvm.ClassFile.Instr × Nat) := [(68, .getfield 10, 3), (71, .getfield 285, 3), (74, .iload 5, 2), (76, .iconst 0, 1), (77, .iload_n 1, 1), (78, .invokevirtual 93, 3), (81, .aload_n 0, 1), (82, .getfield 10, 3), (85, .getfield 285, 3), (88, .iload 5, 2), (90, .iconst 1, 1), (91, .iload_n 2, 1), (92, .invokevirtual 93, 3), (95, .aload_n 0, 1), (96, .getfield 10, 3), (99, .getfield 285, 3), (102, .iload 5, 2), (104, .iconst 2, 1), (105, .iload_n 3, 1), (106, .invokevirtual 93, 3), (109, .iload 5, 2), (111, .iconst 1, 1), (112, .iadd, 1), (113, .ireturn, 1)]
theorem daX10_feast_44_1 : dtX10_feast_44_1.all (dqd cX10_feast) = true := by decide +kernel
theorem dX10_feast_68 : decode cX10_feast 68 = .ok (.getfield 10, 3) := dq daX10_feast_44_1 0 rfl
theorem dX10_feast_71 : decode cX10_feast 71 = .ok (.getfield 285, 3) := dq daX10_feast_44_1 1 rfl
theorem dX10_feast_74 : decode cX10_feast 74 = .ok (.iload 5, 2) := dq daX10_feast_44_1 2 rfl
theorem dX10_feast_76 : decode cX10_feast 76 = .ok (.iconst 0, 1) := dq daX10_feast_44_1 3 rfl
theorem dX10_feast_77 : decode cX10_feast 77 = .ok (.iload_n 1, 1) := dq daX10_feast_44_1 4 rfl
theorem dX10_feast_78 : decode cX10_feast 78 = .ok (.invokevirtual 93, 3) := dq daX10_feast_44_1 5 rfl
theorem dX10_feast_81 : decode cX10_feast 81 = .ok (.aload_n 0, 1) := dq daX10_feast_44_1 6 rfl
theorem dX10_feast_82 : decode cX10_feast 82 = .ok (.getfield 10, 3) := dq daX10_feast_44_1 7 rfl
theorem dX10_feast_85 : decode cX10_feast 85 = .ok (.getfield 285, 3) := dq daX10_feast_44_1 8 rfl
theorem dX10_feast_88 : decode cX10_feast 88 = .ok (.iload 5, 2) := dq daX10_feast_44_1 9 rfl
theorem dX10_feast_90 : decode cX10_feast 90 = .ok (.iconst 1, 1) := dq daX10_feast_44_1 10 rfl
theorem dX10_feast_91 : decode cX10_feast 91 = .ok (.iload_n 2, 1) := dq daX10_feast_44_1 11 rfl
theorem dX10_feast_92 : decode cX10_feast 92 = .ok (.invokevirtual 93, 3) := dq daX10_feast_44_1 12 rfl
theorem dX10_feast_95 : decode cX10_feast 95 = .ok (.aload_n 0, 1) := dq daX10_feast_44_1 13 rfl
theorem dX10_feast_96 : decode cX10_feast 96 = .ok (.getfield 10, 3) := dq daX10_feast_44_1 14 rfl
theorem dX10_feast_99 : decode cX10_feast 99 = .ok (.getfield 285, 3) := dq daX10_feast_44_1 15 rfl
theorem dX10_feast_102 : decode cX10_feast 102 = .ok (.iload 5, 2) := dq daX10_feast_44_1 16 rfl
theorem dX10_feast_104 : decode cX10_feast 104 = .ok (.iconst 2, 1) := dq daX10_feast_44_1 17 rfl
theorem dX10_feast_105 : decode cX10_feast 105 = .ok (.iload_n 3, 1) := dq daX10_feast_44_1 18 rfl
theorem dX10_feast_106 : decode cX10_feast 106 = .ok (.invokevirtual 93, 3) := dq daX10_feast_44_1 19 rfl
theorem dX10_feast_109 : decode cX10_feast 109 = .ok (.iload 5, 2) := dq daX10_feast_44_1 20 rfl
theorem dX10_feast_111 : decode cX10_feast 111 = .ok (.iconst 1, 1) := dq daX10_feast_44_1 21 rfl
theorem dX10_feast_112 : decode cX10_feast 112 = .ok (.iadd, 1) := dq daX10_feast_44_1 22 rfl
theorem dX10_feast_113 : decode cX10_feast 113 = .ok (.ireturn, 1) := dq daX10_feast_44_1 23 rfl
def dtX10_month_44_0 : List (Nat × Jvm.ClassFile.Instr × Nat) := [(0, .iload_n 1, 1), (1, .bipush 11, 2), (3, .invokestatic 79, 3), (6, .ifCond .ne 5, 3), (11, .aload_n 0, 1), (12, .getfield 10, 3), (15, .getfield 114, 3), (18, .istore_n 2, 1), (19, .aload_n 0, 1), (20, .getfield 10, 3), (23, .iload_n 1, 1), (24, .putfield 114, 3), (27, .iload_n 2, 1), (9, .iconst (-1), 1), (10, .ireturn, 1), (28, .ireturn, 1)]
theorem daX10_month_44_0 : dtX10_month_44_0.all (dqd cX10_month) = true := by decide +kernel
theorem dX10_month_0 : decode cX10_month 0 = .ok (.iload_n 1, 1) := dq daX10_month_44_0 0 rfl
theorem dX10_month_1 : decode cX10_month 1 = .ok (.bipush 11, 2) := dq daX10_month_44_0 1 rfl
theorem dX10_month_3 : decode cX10_month 3 = .ok (.invokestatic 79, 3) := dq daX10_month_44_0 2 rfl
theorem dX10_month_6 : decode cX10_month 6 = .ok (.ifCond .ne 5, 3) := dq daX10_month_44_0 3 rfl
theorem dX10_month_11 : decode cX10_month 11 = .ok (.aload_n 0, 1) := dq daX10_month_44_0 4 rfl
theorem dX10_month_12 : decode cX10_month 12 = .ok (.getfield 10, 3) := dq daX10_month_44_0 5 rfl
theorem dX10_month_15 : decode cX10_month 15 = .ok (.getfield 114, 3) := dq daX10_month_44_0 6 rfl
theorem dX10_month_18 : decode cX10_month 18 = .ok (.istore_n 2, 1) := dq daX10_month_44_0 7 rfl
theorem dX10_month_19 : decode cX10_month 19 = .ok (.aload_n 0, 1) := dq daX10_month_44_0 8 rfl
theorem dX10_month_20 : decode cX10_month 20 = .ok (.getfield 10, 3) := dq daX10_month_44_0 9 rfl
theorem dX10_month_23 : decode cX10_month 23 = .ok (.iload_n 1, 1) := dq daX10_month_44_0 10 rfl
theorem dX10_month_24 : decode cX10_month 24 = .ok (.putfield 114, 3) := dq daX10_month_44_0 11 rfl
theorem dX10_month_27 : decode cX10_month 27 = .ok (.iload_n 2, 1) := dq daX10_month_44_0 12 rfl
theorem dX10_month_9 : decode cX10_month 9 = .ok (.iconst (-1), 1) := dq daX10_month_44_0 13 rfl
theorem dX10_month_10 : decode cX10_month 10 = .ok (.ireturn, 1) := dq daX10_month_44_0 14 rfl
theorem dX10_month_28 : decode cX10_month 28 = .ok (.ireturn, 1) := dq daX10_month_44_0 15 rfl
def dtX10_from_44_0 : List (Nat × Jvm.ClassFile.Instr × Nat) := [(0, .aload_n 0, 1), (1, .getfield 10, 3), (4, .getfield 83, 3), (7, .iload_n 1, 1), (8, .invokevirtual 97, 3), (11, .ifCond .ne 5, 3), (16, .aload_n 0, 1), (17, .getfield 10, 3), (20, .iload_n 1, 1), (21, .putfield 176, 3), (24, .aload_n 0, 1), (25, .getfield 10, 3), (28, .getfield 185, 3), (31, .iconst 0, 1), (32, .putfield 188, 3), (35, .iconst 1, 1), (14, .iconst 0, 1), (15, .ireturn, 1), (36, .ireturn, 1)]
theorem daX10_from_44_0 : dtX10_from_44_0.all (dqd cX10_from) = true := by decide +kernel
theorem dX10_from_0 : decode cX10_from 0 = .ok (.aload_n 0, 1) := dq daX10_from_44_0 0 rfl
theorem dX10_from_1 : decode cX10_from 1 = .ok (.getfield 10, 3) := dq daX10_from_44_0 1 rfl
theorem dX10_from_4 : decode cX10_from 4 = .ok (.getfield 83, 3) := dq daX10_from_44_0 2 rfl
theorem dX10_from_7 : decode cX10_from 7 = .ok (.iload_n 1, 1) := dq daX10_from_44_0 3 rfl
theorem dX10_from_8 : decode cX10_from 8 = .ok (.invokevirtual 97, 3) := dq daX10_from_44_0 4 rfl
theorem dX10_from_11 : decode cX10_from 11 = .ok (.ifCond .ne 5, 3) := dq daX10_from_44_0 5 rfl
theorem dX10_from_16 : decode cX10_from 16 = .ok (.aload_n 0, 1) := dq daX10_from_44_0 6 rfl
theorem dX10_from_17 : decode cX10_from 17 = .ok (.getfield 10, 3) := dq daX10_from_44_0 7 rfl
theorem dX10_from_20 : decode cX10_from 20 = .ok (.iload_n 1, 1) := dq daX10_from_44_0 8 rfl
theorem dX10_from_21 : decode cX10_from 21 = .ok (.putfield 176, 3) := dq daX10_from_44_0 9 rfl
theorem dX10_from_24 : decode cX10_from 24 = .ok (.aload_n 0, 1) := dq daX10_from_44_0 10 rfl
theorem dX10_from_25 : decode cX10_from 25 = .ok (.getfield 10, 3) := dq daX10_from_44_0 11 rfl
theorem dX10_from_28 : decode cX10_from 28 = .ok (.getfield 185, 3) := dq daX10_from_44_0 12 rfl
theorem dX10_from_31 : decode cX10_from 31 = .ok (.iconst 0, 1) := dq daX10_from_44_0 13 rfl
theorem dX10_from_32 : decode cX10_from 32 = .ok (.putfield 188, 3) := dq daX10_from_44_0 14 rfl
theorem dX10_from_35 : decode cX10_from 35 = .ok (.iconst 1, 1) := dq daX10_from_44_0 15 rfl
theorem dX10_from_14 : decode cX10_from 14 = .ok (.iconst 0, 1) := dq daX10_from_44_0 16 rfl
theorem dX10_from_15 : decode cX10_from 15 = .ok (.ireturn, 1) := dq daX10_from_44_0 17 rfl
theorem dX10_from_36 : decode cX10_from 36 = .ok (.ireturn, 1) := dq daX10_from_44_0 18 rfl
set_option maxRecDepth 100000 in
def fX6_grow_nodes_ok (zs : Int32) : Int32 := bnd ((zs + 1)) (fun (x2 : Int32) => x2)
set_option maxHeartbeats 4000000 in
set_option maxRecDepth 100000 in
theorem mX6_grow_nodes_ok (l : Launch) (dC : Nat → ClassId) (dI : Nat → Nat → Nat) (kA : Nat → ClassId) (sz : Nat) (a0 : Nat) (a1 : Nat) (zs : Int32) (fa : Nat → Int32) (hz0 : ¬ zs < 0) (hz1 : ¬ 12 ≤ zs) : Met l yX6_grow wsX6_grow ({ frames := 0, cells := 0, slots := 0, locals := 0 }) (zPc dC dI kA sz [.ref a0] [(a0, .inr (6, [.int 4, .ref a1, .int zs])), (a1, .inl (kA 0, 48, .inl fa))]) (va_Qi (fun (r : Int32) (u : Int32) => r = zs ∧ u = fX6_grow_nodes_ok zs ∧ u = (zs + 1)) (zB dC dI (va_A [(a0, .inr (6, [.int 4, .ref a1, .int zs])), (a1, .inl (kA 0, 48, .inl fa))] sz) (fun (u : Int32) => [(a0, .inr (6, [.int 4, .ref a1, .int u])), (a1, .inl (kA 0, 48, .inl fa))])) (va_A [(a0, .inr (6, [.int 4, .ref a1, .int zs])), (a1, .inl (kA 0, 48, .inl fa))] sz)) 0 0 (va_A [(a0, .inr (6, [.int 4, .ref a1, .int zs])), (a1, .inl (kA 0, 48, .inl fa))] sz) := by
  refine Met.ofW (cc := cX6_grow) (maxL := 1) (ret := (some .int)) pnX6 rfl ?_
  intro p e s m args below meth c s₁ B hml hv
  obtain ⟨rfl, hsz, hP, hK, hD0⟩ := hv
  have hx := B.exec
  have hb := B.bytes
  have hr := B.returns
  have hts := atoms_spec (ws := wsX6_grow) B.pre
  have hown : s.vm.findClass RX6 = some m.cls := findClass_of_methodNamed B.named
  have hlocks := B.notSynchronized
  subst hsz
  have hD := hD0.self (sz := s.heap.size)
  generalize hAe : va_A [(a0, .inr (6, [.int 4, .ref a1, .int zs])), (a1, .inl (kA 0, 48, .inl fa))] s.heap.size = A at hD ⊢
  have hA : ∀ q : Nat, s.heap.size ≤ q → A q := zA_of hAe
  have hS : va_S A s.heap s.heap [] := va_S.rf
  have hP : va_P (dC, dI) vwCl [(a0, .inr (6, [.int 4, .ref a1, .int zs])), (a1, .inl (kA 0, 48, .inl fa))] s.heap := hP
  have hl := lv_entry ([.ref a0]) (n := 1) (Nat.le_of_ble_eq_true rfl)
  rw [lg_entry_eq]
  generalize (lg_sl ([.ref a0]) ++ List.replicate (1 - (lg_sl ([.ref a0])).length) Slot.unset).toArray = ls at hl ⊢
  have hl : lv_has ls 1 [(0, .ref a0)] := hl
  obtain ⟨G, hG0⟩ : ∃ G : Int32, fX6_grow_nodes_ok zs = G := ⟨_, rfl⟩
  have hG := hG0
  unfold fX6_grow_nodes_ok at hG
  refine lv_aload_n hx hb dX6_grow_0 rfl (lv_at hl 0 rfl) ?_
  refine va_get (D := (dC, dI)) (ci := 6) (v := .int zs) (C := RX6) (T := TX6) (N := 3) hx hb hts iX6_grow_X6 hown hK.1 hP 0 gz0 vcz6 2 (by decide) (kX6_grow_1 hts) (fun _ h9 => h9) gz2 dX6_grow_1 ?_
  refine lv_iconst (v := 1) hx hb dX6_grow_4 (by decide) ?_
  refine lv_iadd hx hb dX6_grow_5 ?_
  refine lv_aload_n hx hb dX6_grow_6 rfl (lv_at hl 0 rfl) ?_
  refine va_get (D := (dC, dI)) (ci := 6) (v := .int 4) (C := RX6) (T := TX6) (N := 3) hx hb hts iX6_grow_X6 hown hK.1 hP 0 gz0 vcz6 0 (by decide) (kX6_grow_2 hts) (fun _ h9 => h9) gz0 dX6_grow_7 ?_
  refine lv_imul hx hb dX6_grow_10 ?_
  refine lv_aload_n hx hb dX6_grow_11 rfl (lv_at hl 0 rfl) ?_
  refine va_get (D := (dC, dI)) (ci := 6) (v := .ref a1) (C := RX6) (T := TX6) (N := 3) hx hb hts iX6_grow_X6 hown hK.1 hP 0 gz0 vcz6 1 (by decide) (kX6_grow_3 hts) (fun _ h9 => h9) gz1 dX6_grow_12 ?_
  refine va_alen hx hb hK.1 hP 1 0 rfl rfl (v := 48) rfl dX6_grow_15 ?_
  refine lv_icmp_le (tgt := 21) hx hb dX6_grow_16 (by decide) (fun _ => ?_) (fun c_1 => absurd (gr_12_4 hz0 hz1) c_1)
  refine lv_aload_n hx hb dX6_grow_21 rfl (lv_at hl 0 rfl) ?_
  refine lv_dup hx hb dX6_grow_22 rfl ?_
  refine va_get (D := (dC, dI)) (ci := 6) (v := .int zs) (C := RX6) (T := TX6) (N := 3) hx hb hts iX6_grow_X6 hown hK.1 hP 0 gz0 vcz6 2 (by decide) (kX6_grow_1 hts) (fun _ h9 => h9) gz2 dX6_grow_23 ?_
  refine lv_iconst (v := 1) hx hb dX6_grow_26 (by decide) ?_
  refine lv_iadd hx hb dX6_grow_27 ?_
  refine lv_topi (fun x2 ex2 => ?_)
  have hG := zbnd hG ex2
  refine va_put (D := (dC, dI)) (ci := 6) (v := .int x2) (ty := .int) (C := RX6) (T := TX6) (N := 3) hx hb hts iX6_grow_X6 tyX6 tyX6_ok nmX6 hown hK.1 hP hD hS 0 gz0 vcz6 2 (by decide) (kX6_grow_1 hts) (fun _ h9 => h9) rfl pfdI rfl rfl (Nat.le_of_ble_eq_true rfl) dX6_grow_28 (fun H locs hP hD hS => ?_)
  obtain ⟨hP, hD⟩ := z_re (L := [(a0, .inr (6, [.int 4, .ref a1, .int x2])), (a1, .inl (kA 0, 48, .inl fa))]) hP hD
  refine lv_aload_n hx hb dX6_grow_31 rfl (lv_at hl 0 rfl) ?_
  refine va_get (D := (dC, dI)) (ci := 6) (v := .int x2) (C := RX6) (T := TX6) (N := 3) hx hb hts iX6_grow_X6 hown hK.1 hP 0 gz0 vcz6 2 (by decide) (kX6_grow_1 hts) (fun _ h9 => h9) gz2 dX6_grow_32 ?_
  refine lv_iconst (v := 1) hx hb dX6_grow_35 (by decide) ?_
  refine lv_isub hx hb dX6_grow_36 ?_
  obtain ⟨hP9, hD9⟩ := z_sb (L' := [(a0, .inr (6, [.int 4, .ref a1, .int x2])), (a1, .inl (kA 0, 48, .inl fa))]) hP hD [0, 1] (by decide) rfl
  refine W.widen (k := 0) (n := 0) (Nat.le_of_ble_eq_true rfl) (Nat.le_of_ble_eq_true rfl) ?_
  exact W.iret (v := (x2 - 1)) hx hb hr (fun t ht hW => ⟨⟨(x2 - 1), (x2), rfl, ⟨(by rw [ex2]; exact gr_sub _), (hG.trans hG0.symm), ex2⟩, by rw [ht]; exact hP9, hD9⟩, hS.F ht⟩) hS.2.2 dX6_grow_37
set_option maxHeartbeats 4000000 in
set_option maxRecDepth 100000 in
theorem mX6_grow_nodes_full (l : Launch) (dC : Nat → ClassId) (dI : Nat → Nat → Nat) (kA : Nat → ClassId) (sz : Nat) (a0 : Nat) (a1 : Nat) (fa : Nat → Int32)  : Met l yX6_grow wsX6_grow ({ frames := 0, cells := 0, slots := 0, locals := 0 }) (zPc dC dI kA sz [.ref a0] [(a0, .inr (6, [.int 4, .ref a1, .int 12])), (a1, .inl (kA 0, 48, .inl fa))]) (va_Qi (fun (r : Int32) (u : Unit) => r = (-1)) (zB dC dI (va_A [(a0, .inr (6, [.int 4, .ref a1, .int 12])), (a1, .inl (kA 0, 48, .inl fa))] sz) (fun (u : Unit) => [(a0, .inr (6, [.int 4, .ref a1, .int 12])), (a1, .inl (kA 0, 48, .inl fa))])) (va_A [(a0, .inr (6, [.int 4, .ref a1, .int 12])), (a1, .inl (kA 0, 48, .inl fa))] sz)) 0 0 (va_A [(a0, .inr (6, [.int 4, .ref a1, .int 12])), (a1, .inl (kA 0, 48, .inl fa))] sz) := by
  refine Met.ofW (cc := cX6_grow) (maxL := 1) (ret := (some .int)) pnX6 rfl ?_
  intro p e s m args below meth c s₁ B hml hv
  obtain ⟨rfl, hsz, hP, hK, hD0⟩ := hv
  have hx := B.exec
  have hb := B.bytes
  have hr := B.returns
  have hts := atoms_spec (ws := wsX6_grow) B.pre
  have hown : s.vm.findClass RX6 = some m.cls := findClass_of_methodNamed B.named
  have hlocks := B.notSynchronized
  subst hsz
  have hD := hD0.self (sz := s.heap.size)
  generalize hAe : va_A [(a0, .inr (6, [.int 4, .ref a1, .int 12])), (a1, .inl (kA 0, 48, .inl fa))] s.heap.size = A at hD ⊢
  have hA : ∀ q : Nat, s.heap.size ≤ q → A q := zA_of hAe
  have hS : va_S A s.heap s.heap [] := va_S.rf
  have hP : va_P (dC, dI) vwCl [(a0, .inr (6, [.int 4, .ref a1, .int 12])), (a1, .inl (kA 0, 48, .inl fa))] s.heap := hP
  have hl := lv_entry ([.ref a0]) (n := 1) (Nat.le_of_ble_eq_true rfl)
  rw [lg_entry_eq]
  generalize (lg_sl ([.ref a0]) ++ List.replicate (1 - (lg_sl ([.ref a0])).length) Slot.unset).toArray = ls at hl ⊢
  have hl : lv_has ls 1 [(0, .ref a0)] := hl
  refine lv_aload_n hx hb dX6_grow_0 rfl (lv_at hl 0 rfl) ?_
  refine va_get (D := (dC, dI)) (ci := 6) (v := .int 12) (C := RX6) (T := TX6) (N := 3) hx hb hts iX6_grow_X6 hown hK.1 hP 0 gz0 vcz6 2 (by decide) (kX6_grow_1 hts) (fun _ h9 => h9) gz2 dX6_grow_1 ?_
  refine lv_iconst (v := 1) hx hb dX6_grow_4 (by decide) ?_
  refine lv_iadd hx hb dX6_grow_5 ?_
  refine zi 13 (by decide) ?_
  refine lv_aload_n hx hb dX6_grow_6 rfl (lv_at hl 0 rfl) ?_
  refine va_get (D := (dC, dI)) (ci := 6) (v := .int 4) (C := RX6) (T := TX6) (N := 3) hx hb hts iX6_grow_X6 hown hK.1 hP 0 gz0 vcz6 0 (by decide) (kX6_grow_2 hts) (fun _ h9 => h9) gz0 dX6_grow_7 ?_
  refine lv_imul hx hb dX6_grow_10 ?_
  refine zi 52 (by decide) ?_
  refine lv_aload_n hx hb dX6_grow_11 rfl (lv_at hl 0 rfl) ?_
  refine va_get (D := (dC, dI)) (ci := 6) (v := .ref a1) (C := RX6) (T := TX6) (N := 3) hx hb hts iX6_grow_X6 hown hK.1 hP 0 gz0 vcz6 1 (by decide) (kX6_grow_3 hts) (fun _ h9 => h9) gz1 dX6_grow_12 ?_
  refine va_alen hx hb hK.1 hP 1 0 rfl rfl (v := 48) rfl dX6_grow_15 ?_
  refine lv_icmp_le (tgt := 21) hx hb dX6_grow_16 (by decide) (fun c_1 => absurd c_1 (by decide)) (fun _ => ?_)
  refine lv_iconst (v := (-1)) hx hb dX6_grow_19 (by decide) ?_
  obtain ⟨hP9, hD9⟩ := z_sb (L' := [(a0, .inr (6, [.int 4, .ref a1, .int 12])), (a1, .inl (kA 0, 48, .inl fa))]) hP hD [0, 1] (by decide) rfl
  refine W.widen (k := 0) (n := 0) (Nat.le_of_ble_eq_true rfl) (Nat.le_of_ble_eq_true rfl) ?_
  exact W.iret (v := (-1)) hx hb hr (fun t ht hW => ⟨⟨(-1), (), rfl, rfl, by rw [ht]; exact hP9, hD9⟩, hS.F ht⟩) hS.2.2 dX6_grow_20
set_option maxRecDepth 100000 in
def fX6_grow_passes_ok (zs : Int32) : Int32 := bnd ((zs + 1)) (fun (x2 : Int32) => x2)
set_option maxHeartbeats 4000000 in
set_option maxRecDepth 100000 in
theorem mX6_grow_passes_ok (l : Launch) (dC : Nat → ClassId) (dI : Nat → Nat → Nat) (kA : Nat → ClassId) (sz : Nat) (a0 : Nat) (a1 : Nat) (zs : Int32) (fa : Nat → Int32) (hz0 : ¬ zs < 0) (hz1 : ¬ 20 ≤ zs) : Met l yX6_grow wsX6_grow ({ frames := 0, cells := 0, slots := 0, locals := 0 }) (zPc dC dI kA sz [.ref a0] [(a0, .inr (6, [.int 5, .ref a1, .int zs])), (a1, .inl (kA 0, 100, .inl fa))]) (va_Qi (fun (r : Int32) (u : Int32) => r = zs ∧ u = fX6_grow_passes_ok zs ∧ u = (zs + 1)) (zB dC dI (va_A [(a0, .inr (6, [.int 5, .ref a1, .int zs])), (a1, .inl (kA 0, 100, .inl fa))] sz) (fun (u : Int32) => [(a0, .inr (6, [.int 5, .ref a1, .int u])), (a1, .inl (kA 0, 100, .inl fa))])) (va_A [(a0, .inr (6, [.int 5, .ref a1, .int zs])), (a1, .inl (kA 0, 100, .inl fa))] sz)) 0 0 (va_A [(a0, .inr (6, [.int 5, .ref a1, .int zs])), (a1, .inl (kA 0, 100, .inl fa))] sz) := by
  refine Met.ofW (cc := cX6_grow) (maxL := 1) (ret := (some .int)) pnX6 rfl ?_
  intro p e s m args below meth c s₁ B hml hv
  obtain ⟨rfl, hsz, hP, hK, hD0⟩ := hv
  have hx := B.exec
  have hb := B.bytes
  have hr := B.returns
  have hts := atoms_spec (ws := wsX6_grow) B.pre
  have hown : s.vm.findClass RX6 = some m.cls := findClass_of_methodNamed B.named
  have hlocks := B.notSynchronized
  subst hsz
  have hD := hD0.self (sz := s.heap.size)
  generalize hAe : va_A [(a0, .inr (6, [.int 5, .ref a1, .int zs])), (a1, .inl (kA 0, 100, .inl fa))] s.heap.size = A at hD ⊢
  have hA : ∀ q : Nat, s.heap.size ≤ q → A q := zA_of hAe
  have hS : va_S A s.heap s.heap [] := va_S.rf
  have hP : va_P (dC, dI) vwCl [(a0, .inr (6, [.int 5, .ref a1, .int zs])), (a1, .inl (kA 0, 100, .inl fa))] s.heap := hP
  have hl := lv_entry ([.ref a0]) (n := 1) (Nat.le_of_ble_eq_true rfl)
  rw [lg_entry_eq]
  generalize (lg_sl ([.ref a0]) ++ List.replicate (1 - (lg_sl ([.ref a0])).length) Slot.unset).toArray = ls at hl ⊢
  have hl : lv_has ls 1 [(0, .ref a0)] := hl
  obtain ⟨G, hG0⟩ : ∃ G : Int32, fX6_grow_passes_ok zs = G := ⟨_, rfl⟩
  have hG := hG0
  unfold fX6_grow_passes_ok at hG
  refine lv_aload_n hx hb dX6_grow_0 rfl (lv_at hl 0 rfl) ?_
  refine va_get (D := (dC, dI)) (ci := 6) (v := .int zs) (C := RX6) (T := TX6) (N := 3) hx hb hts iX6_grow_X6 hown hK.1 hP 0 gz0 vcz6 2 (by decide) (kX6_grow_1 hts) (fun _ h9 => h9) gz2 dX6_grow_1 ?_
  refine lv_iconst (v := 1) hx hb dX6_grow_4 (by decide) ?_
  refine lv_iadd hx hb dX6_grow_5 ?_
  refine lv_aload_n hx hb dX6_grow_6 rfl (lv_at hl 0 rfl) ?_
  refine va_get (D := (dC, dI)) (ci := 6) (v := .int 5) (C := RX6) (T := TX6) (N := 3) hx hb hts iX6_grow_X6 hown hK.1 hP 0 gz0 vcz6 0 (by decide) (kX6_grow_2 hts) (fun _ h9 => h9) gz0 dX6_grow_7 ?_
  refine lv_imul hx hb dX6_grow_10 ?_
  refine lv_aload_n hx hb dX6_grow_11 rfl (lv_at hl 0 rfl) ?_
  refine va_get (D := (dC, dI)) (ci := 6) (v := .ref a1) (C := RX6) (T := TX6) (N := 3) hx hb hts iX6_grow_X6 hown hK.1 hP 0 gz0 vcz6 1 (by decide) (kX6_grow_3 hts) (fun _ h9 => h9) gz1 dX6_grow_12 ?_
  refine va_alen hx hb hK.1 hP 1 0 rfl rfl (v := 100) rfl dX6_grow_15 ?_
  refine lv_icmp_le (tgt := 21) hx hb dX6_grow_16 (by decide) (fun _ => ?_) (fun c_1 => absurd (gr_20_5 hz0 hz1) c_1)
  refine lv_aload_n hx hb dX6_grow_21 rfl (lv_at hl 0 rfl) ?_
  refine lv_dup hx hb dX6_grow_22 rfl ?_
  refine va_get (D := (dC, dI)) (ci := 6) (v := .int zs) (C := RX6) (T := TX6) (N := 3) hx hb hts iX6_grow_X6 hown hK.1 hP 0 gz0 vcz6 2 (by decide) (kX6_grow_1 hts) (fun _ h9 => h9) gz2 dX6_grow_23 ?_
  refine lv_iconst (v := 1) hx hb dX6_grow_26 (by decide) ?_
  refine lv_iadd hx hb dX6_grow_27 ?_
  refine lv_topi (fun x2 ex2 => ?_)
  have hG := zbnd hG ex2
  refine va_put (D := (dC, dI)) (ci := 6) (v := .int x2) (ty := .int) (C := RX6) (T := TX6) (N := 3) hx hb hts iX6_grow_X6 tyX6 tyX6_ok nmX6 hown hK.1 hP hD hS 0 gz0 vcz6 2 (by decide) (kX6_grow_1 hts) (fun _ h9 => h9) rfl pfdI rfl rfl (Nat.le_of_ble_eq_true rfl) dX6_grow_28 (fun H locs hP hD hS => ?_)
  obtain ⟨hP, hD⟩ := z_re (L := [(a0, .inr (6, [.int 5, .ref a1, .int x2])), (a1, .inl (kA 0, 100, .inl fa))]) hP hD
  refine lv_aload_n hx hb dX6_grow_31 rfl (lv_at hl 0 rfl) ?_
  refine va_get (D := (dC, dI)) (ci := 6) (v := .int x2) (C := RX6) (T := TX6) (N := 3) hx hb hts iX6_grow_X6 hown hK.1 hP 0 gz0 vcz6 2 (by decide) (kX6_grow_1 hts) (fun _ h9 => h9) gz2 dX6_grow_32 ?_
  refine lv_iconst (v := 1) hx hb dX6_grow_35 (by decide) ?_
  refine lv_isub hx hb dX6_grow_36 ?_
  obtain ⟨hP9, hD9⟩ := z_sb (L' := [(a0, .inr (6, [.int 5, .ref a1, .int x2])), (a1, .inl (kA 0, 100, .inl fa))]) hP hD [0, 1] (by decide) rfl
  refine W.widen (k := 0) (n := 0) (Nat.le_of_ble_eq_true rfl) (Nat.le_of_ble_eq_true rfl) ?_
  exact W.iret (v := (x2 - 1)) hx hb hr (fun t ht hW => ⟨⟨(x2 - 1), (x2), rfl, ⟨(by rw [ex2]; exact gr_sub _), (hG.trans hG0.symm), ex2⟩, by rw [ht]; exact hP9, hD9⟩, hS.F ht⟩) hS.2.2 dX6_grow_37
set_option maxHeartbeats 4000000 in
set_option maxRecDepth 100000 in
theorem mX6_grow_passes_full (l : Launch) (dC : Nat → ClassId) (dI : Nat → Nat → Nat) (kA : Nat → ClassId) (sz : Nat) (a0 : Nat) (a1 : Nat) (fa : Nat → Int32)  : Met l yX6_grow wsX6_grow ({ frames := 0, cells := 0, slots := 0, locals := 0 }) (zPc dC dI kA sz [.ref a0] [(a0, .inr (6, [.int 5, .ref a1, .int 20])), (a1, .inl (kA 0, 100, .inl fa))]) (va_Qi (fun (r : Int32) (u : Unit) => r = (-1)) (zB dC dI (va_A [(a0, .inr (6, [.int 5, .ref a1, .int 20])), (a1, .inl (kA 0, 100, .inl fa))] sz) (fun (u : Unit) => [(a0, .inr (6, [.int 5, .ref a1, .int 20])), (a1, .inl (kA 0, 100, .inl fa))])) (va_A [(a0, .inr (6, [.int 5, .ref a1, .int 20])), (a1, .inl (kA 0, 100, .inl fa))] sz)) 0 0 (va_A [(a0, .inr (6, [.int 5, .ref a1, .int 20])), (a1, .inl (kA 0, 100, .inl fa))] sz) := by
  refine Met.ofW (cc := cX6_grow) (maxL := 1) (ret := (some .int)) pnX6 rfl ?_
  intro p e s m args below meth c s₁ B hml hv
  obtain ⟨rfl, hsz, hP, hK, hD0⟩ := hv
  have hx := B.exec
  have hb := B.bytes
  have hr := B.returns
  have hts := atoms_spec (ws := wsX6_grow) B.pre
  have hown : s.vm.findClass RX6 = some m.cls := findClass_of_methodNamed B.named
  have hlocks := B.notSynchronized
  subst hsz
  have hD := hD0.self (sz := s.heap.size)
  generalize hAe : va_A [(a0, .inr (6, [.int 5, .ref a1, .int 20])), (a1, .inl (kA 0, 100, .inl fa))] s.heap.size = A at hD ⊢
  have hA : ∀ q : Nat, s.heap.size ≤ q → A q := zA_of hAe
  have hS : va_S A s.heap s.heap [] := va_S.rf
  have hP : va_P (dC, dI) vwCl [(a0, .inr (6, [.int 5, .ref a1, .int 20])), (a1, .inl (kA 0, 100, .inl fa))] s.heap := hP
  have hl := lv_entry ([.ref a0]) (n := 1) (Nat.le_of_ble_eq_true rfl)
  rw [lg_entry_eq]
  generalize (lg_sl ([.ref a0]) ++ List.replicate (1 - (lg_sl ([.ref a0])).length) Slot.unset).toArray = ls at hl ⊢
  have hl : lv_has ls 1 [(0, .ref a0)] := hl
  refine lv_aload_n hx hb dX6_grow_0 rfl (lv_at hl 0 rfl) ?_
  refine va_get (D := (dC, dI)) (ci := 6) (v := .int 20) (C := RX6) (T := TX6) (N := 3) hx hb hts iX6_grow_X6 hown hK.1 hP 0 gz0 vcz6 2 (by decide) (kX6_grow_1 hts) (fun _ h9 => h9) gz2 dX6_grow_1 ?_
  refine lv_iconst (v := 1) hx hb dX6_grow_4 (by decide) ?_
  refine lv_iadd hx hb dX6_grow_5 ?_
  refine zi 21 (by decide) ?_
  refine lv_aload_n hx hb dX6_grow_6 rfl (lv_at hl 0 rfl) ?_
  refine va_get (D := (dC, dI)) (ci := 6) (v := .int 5) (C := RX6) (T := TX6) (N := 3) hx hb hts iX6_grow_X6 hown hK.1 hP 0 gz0 vcz6 0 (by decide) (kX6_grow_2 hts) (fun _ h9 => h9) gz0 dX6_grow_7 ?_
  refine lv_imul hx hb dX6_grow_10 ?_
  refine zi 105 (by decide) ?_
  refine lv_aload_n hx hb dX6_grow_11 rfl (lv_at hl 0 rfl) ?_
  refine va_get (D := (dC, dI)) (ci := 6) (v := .ref a1) (C := RX6) (T := TX6) (N := 3) hx hb hts iX6_grow_X6 hown hK.1 hP 0 gz0 vcz6 1 (by decide) (kX6_grow_3 hts) (fun _ h9 => h9) gz1 dX6_grow_12 ?_
  refine va_alen hx hb hK.1 hP 1 0 rfl rfl (v := 100) rfl dX6_grow_15 ?_
  refine lv_icmp_le (tgt := 21) hx hb dX6_grow_16 (by decide) (fun c_1 => absurd c_1 (by decide)) (fun _ => ?_)
  refine lv_iconst (v := (-1)) hx hb dX6_grow_19 (by decide) ?_
  obtain ⟨hP9, hD9⟩ := z_sb (L' := [(a0, .inr (6, [.int 5, .ref a1, .int 20])), (a1, .inl (kA 0, 100, .inl fa))]) hP hD [0, 1] (by decide) rfl
  refine W.widen (k := 0) (n := 0) (Nat.le_of_ble_eq_true rfl) (Nat.le_of_ble_eq_true rfl) ?_
  exact W.iret (v := (-1)) hx hb hr (fun t ht hW => ⟨⟨(-1), (), rfl, rfl, by rw [ht]; exact hP9, hD9⟩, hS.F ht⟩) hS.2.2 dX6_grow_20
set_option maxRecDepth 100000 in
def fX6_grow_jars_ok (zs : Int32) : Int32 := bnd ((zs + 1)) (fun (x2 : Int32) => x2)
set_option maxHeartbeats 4000000 in
set_option maxRecDepth 100000 in
theorem mX6_grow_jars_ok (l : Launch) (dC : Nat → ClassId) (dI : Nat → Nat → Nat) (kA : Nat → ClassId) (sz : Nat) (a0 : Nat) (a1 : Nat) (zs : Int32) (fa : Nat → Int32) (hz0 : ¬ zs < 0) (hz1 : ¬ 16 ≤ zs) : Met l yX6_grow wsX6_grow ({ frames := 0, cells := 0, slots := 0, locals := 0 }) (zPc dC dI kA sz [.ref a0] [(a0, .inr (6, [.int 9, .ref a1, .int zs])), (a1, .inl (kA 0, 144, .inl fa))]) (va_Qi (fun (r : Int32) (u : Int32) => r = zs ∧ u = fX6_grow_jars_ok zs ∧ u = (zs + 1)) (zB dC dI (va_A [(a0, .inr (6, [.int 9, .ref a1, .int zs])), (a1, .inl (kA 0, 144, .inl fa))] sz) (fun (u : Int32) => [(a0, .inr (6, [.int 9, .ref a1, .int u])), (a1, .inl (kA 0, 144, .inl fa))])) (va_A [(a0, .inr (6, [.int 9, .ref a1, .int zs])), (a1, .inl (kA 0, 144, .inl fa))] sz)) 0 0 (va_A [(a0, .inr (6, [.int 9, .ref a1, .int zs])), (a1, .inl (kA 0, 144, .inl fa))] sz) := by
  refine Met.ofW (cc := cX6_grow) (maxL := 1) (ret := (some .int)) pnX6 rfl ?_
  intro p e s m args below meth c s₁ B hml hv
  obtain ⟨rfl, hsz, hP, hK, hD0⟩ := hv
  have hx := B.exec
  have hb := B.bytes
  have hr := B.returns
  have hts := atoms_spec (ws := wsX6_grow) B.pre
  have hown : s.vm.findClass RX6 = some m.cls := findClass_of_methodNamed B.named
  have hlocks := B.notSynchronized
  subst hsz
  have hD := hD0.self (sz := s.heap.size)
  generalize hAe : va_A [(a0, .inr (6, [.int 9, .ref a1, .int zs])), (a1, .inl (kA 0, 144, .inl fa))] s.heap.size = A at hD ⊢
  have hA : ∀ q : Nat, s.heap.size ≤ q → A q := zA_of hAe
  have hS : va_S A s.heap s.heap [] := va_S.rf
  have hP : va_P (dC, dI) vwCl [(a0, .inr (6, [.int 9, .ref a1, .int zs])), (a1, .inl (kA 0, 144, .inl fa))] s.heap := hP
  have hl := lv_entry ([.ref a0]) (n := 1) (Nat.le_of_ble_eq_true rfl)
  rw [lg_entry_eq]
  generalize (lg_sl ([.ref a0]) ++ List.replicate (1 - (lg_sl ([.ref a0])).length) Slot.unset).toArray = ls at hl ⊢
  have hl : lv_has ls 1 [(0, .ref a0)] := hl
  obtain ⟨G, hG0⟩ : ∃ G : Int32, fX6_grow_jars_ok zs = G := ⟨_, rfl⟩
  have hG := hG0
  unfold fX6_grow_jars_ok at hG
  refine lv_aload_n hx hb dX6_grow_0 rfl (lv_at hl 0 rfl) ?_
  refine va_get (D := (dC, dI)) (ci := 6) (v := .int zs) (C := RX6) (T := TX6) (N := 3) hx hb hts iX6_grow_X6 hown hK.1 hP 0 gz0 vcz6 2 (by decide) (kX6_grow_1 hts) (fun _ h9 => h9) gz2 dX6_grow_1 ?_
  refine lv_iconst (v := 1) hx hb dX6_grow_4 (by decide) ?_
  refine lv_iadd hx hb dX6_grow_5 ?_
  refine lv_aload_n hx hb dX6_grow_6 rfl (lv_at hl 0 rfl) ?_
  refine va_get (D := (dC, dI)) (ci := 6) (v := .int 9) (C := RX6) (T := TX6) (N := 3) hx hb hts iX6_grow_X6 hown hK.1 hP 0 gz0 vcz6 0 (by decide) (kX6_grow_2 hts) (fun _ h9 => h9) gz0 dX6_grow_7 ?_
  refine lv_imul hx hb dX6_grow_10 ?_
  refine lv_aload_n hx hb dX6_grow_11 rfl (lv_at hl 0 rfl) ?_
  refine va_get (D := (dC, dI)) (ci := 6) (v := .ref a1) (C := RX6) (T := TX6) (N := 3) hx hb hts iX6_grow_X6 hown hK.1 hP 0 gz0 vcz6 1 (by decide) (kX6_grow_3 hts) (fun _ h9 => h9) gz1 dX6_grow_12 ?_
  refine va_alen hx hb hK.1 hP 1 0 rfl rfl (v := 144) rfl dX6_grow_15 ?_
  refine lv_icmp_le (tgt := 21) hx hb dX6_grow_16 (by decide) (fun _ => ?_) (fun c_1 => absurd (gr_16_9 hz0 hz1) c_1)
  refine lv_aload_n hx hb dX6_grow_21 rfl (lv_at hl 0 rfl) ?_
  refine lv_dup hx hb dX6_grow_22 rfl ?_
  refine va_get (D := (dC, dI)) (ci := 6) (v := .int zs) (C := RX6) (T := TX6) (N := 3) hx hb hts iX6_grow_X6 hown hK.1 hP 0 gz0 vcz6 2 (by decide) (kX6_grow_1 hts) (fun _ h9 => h9) gz2 dX6_grow_23 ?_
  refine lv_iconst (v := 1) hx hb dX6_grow_26 (by decide) ?_
  refine lv_iadd hx hb dX6_grow_27 ?_
  refine lv_topi (fun x2 ex2 => ?_)
  have hG := zbnd hG ex2
  refine va_put (D := (dC, dI)) (ci := 6) (v := .int x2) (ty := .int) (C := RX6) (T := TX6) (N := 3) hx hb hts iX6_grow_X6 tyX6 tyX6_ok nmX6 hown hK.1 hP hD hS 0 gz0 vcz6 2 (by decide) (kX6_grow_1 hts) (fun _ h9 => h9) rfl pfdI rfl rfl (Nat.le_of_ble_eq_true rfl) dX6_grow_28 (fun H locs hP hD hS => ?_)
  obtain ⟨hP, hD⟩ := z_re (L := [(a0, .inr (6, [.int 9, .ref a1, .int x2])), (a1, .inl (kA 0, 144, .inl fa))]) hP hD
  refine lv_aload_n hx hb dX6_grow_31 rfl (lv_at hl 0 rfl) ?_
  refine va_get (D := (dC, dI)) (ci := 6) (v := .int x2) (C := RX6) (T := TX6) (N := 3) hx hb hts iX6_grow_X6 hown hK.1 hP 0 gz0 vcz6 2 (by decide) (kX6_grow_1 hts) (fun _ h9 => h9) gz2 dX6_grow_32 ?_
  refine lv_iconst (v := 1) hx hb dX6_grow_35 (by decide) ?_
  refine lv_isub hx hb dX6_grow_36 ?_
  obtain ⟨hP9, hD9⟩ := z_sb (L' := [(a0, .inr (6, [.int 9, .ref a1, .int x2])), (a1, .inl (kA 0, 144, .inl fa))]) hP hD [0, 1] (by decide) rfl
  refine W.widen (k := 0) (n := 0) (Nat.le_of_ble_eq_true rfl) (Nat.le_of_ble_eq_true rfl) ?_
  exact W.iret (v := (x2 - 1)) hx hb hr (fun t ht hW => ⟨⟨(x2 - 1), (x2), rfl, ⟨(by rw [ex2]; exact gr_sub _), (hG.trans hG0.symm), ex2⟩, by rw [ht]; exact hP9, hD9⟩, hS.F ht⟩) hS.2.2 dX6_grow_37
set_option maxHeartbeats 4000000 in
set_option maxRecDepth 100000 in
theorem mX6_grow_jars_full (l : Launch) (dC : Nat → ClassId) (dI : Nat → Nat → Nat) (kA : Nat → ClassId) (sz : Nat) (a0 : Nat) (a1 : Nat) (fa : Nat → Int32)  : Met l yX6_grow wsX6_grow ({ frames := 0, cells := 0, slots := 0, locals := 0 }) (zPc dC dI kA sz [.ref a0] [(a0, .inr (6, [.int 9, .ref a1, .int 16])), (a1, .inl (kA 0, 144, .inl fa))]) (va_Qi (fun (r : Int32) (u : Unit) => r = (-1)) (zB dC dI (va_A [(a0, .inr (6, [.int 9, .ref a1, .int 16])), (a1, .inl (kA 0, 144, .inl fa))] sz) (fun (u : Unit) => [(a0, .inr (6, [.int 9, .ref a1, .int 16])), (a1, .inl (kA 0, 144, .inl fa))])) (va_A [(a0, .inr (6, [.int 9, .ref a1, .int 16])), (a1, .inl (kA 0, 144, .inl fa))] sz)) 0 0 (va_A [(a0, .inr (6, [.int 9, .ref a1, .int 16])), (a1, .inl (kA 0, 144, .inl fa))] sz) := by
  refine Met.ofW (cc := cX6_grow) (maxL := 1) (ret := (some .int)) pnX6 rfl ?_
  intro p e s m args below meth c s₁ B hml hv
  obtain ⟨rfl, hsz, hP, hK, hD0⟩ := hv
  have hx := B.exec
  have hb := B.bytes
  have hr := B.returns
  have hts := atoms_spec (ws := wsX6_grow) B.pre
  have hown : s.vm.findClass RX6 = some m.cls := findClass_of_methodNamed B.named
  have hlocks := B.notSynchronized
  subst hsz
  have hD := hD0.self (sz := s.heap.size)
  generalize hAe : va_A [(a0, .inr (6, [.int 9, .ref a1, .int 16])), (a1, .inl (kA 0, 144, .inl fa))] s.heap.size = A at hD ⊢
  have hA : ∀ q : Nat, s.heap.size ≤ q → A q := zA_of hAe
  have hS : va_S A s.heap s.heap [] := va_S.rf
  have hP : va_P (dC, dI) vwCl [(a0, .inr (6, [.int 9, .ref a1, .int 16])), (a1, .inl (kA 0, 144, .inl fa))] s.heap := hP
  have hl := lv_entry ([.ref a0]) (n := 1) (Nat.le_of_ble_eq_true rfl)
  rw [lg_entry_eq]
  generalize (lg_sl ([.ref a0]) ++ List.replicate (1 - (lg_sl ([.ref a0])).length) Slot.unset).toArray = ls at hl ⊢
  have hl : lv_has ls 1 [(0, .ref a0)] := hl
  refine lv_aload_n hx hb dX6_grow_0 rfl (lv_at hl 0 rfl) ?_
  refine va_get (D := (dC, dI)) (ci := 6) (v := .int 16) (C := RX6) (T := TX6) (N := 3) hx hb hts iX6_grow_X6 hown hK.1 hP 0 gz0 vcz6 2 (by decide) (kX6_grow_1 hts) (fun _ h9 => h9) gz2 dX6_grow_1 ?_
  refine lv_iconst (v := 1) hx hb dX6_grow_4 (by decide) ?_
  refine lv_iadd hx hb dX6_grow_5 ?_
  refine zi 17 (by decide) ?_
  refine lv_aload_n hx hb dX6_grow_6 rfl (lv_at hl 0 rfl) ?_
  refine va_get (D := (dC, dI)) (ci := 6) (v := .int 9) (C := RX6) (T := TX6) (N := 3) hx hb hts iX6_grow_X6 hown hK.1 hP 0 gz0 vcz6 0 (by decide) (kX6_grow_2 hts) (fun _ h9 => h9) gz0 dX6_grow_7 ?_
  refine lv_imul hx hb dX6_grow_10 ?_
  refine zi 153 (by decide) ?_
  refine lv_aload_n hx hb dX6_grow_11 rfl (lv_at hl 0 rfl) ?_
  refine va_get (D := (dC, dI)) (ci := 6) (v := .ref a1) (C := RX6) (T := TX6) (N := 3) hx hb hts iX6_grow_X6 hown hK.1 hP 0 gz0 vcz6 1 (by decide) (kX6_grow_3 hts) (fun _ h9 => h9) gz1 dX6_grow_12 ?_
  refine va_alen hx hb hK.1 hP 1 0 rfl rfl (v := 144) rfl dX6_grow_15 ?_
  refine lv_icmp_le (tgt := 21) hx hb dX6_grow_16 (by decide) (fun c_1 => absurd c_1 (by decide)) (fun _ => ?_)
  refine lv_iconst (v := (-1)) hx hb dX6_grow_19 (by decide) ?_
  obtain ⟨hP9, hD9⟩ := z_sb (L' := [(a0, .inr (6, [.int 9, .ref a1, .int 16])), (a1, .inl (kA 0, 144, .inl fa))]) hP hD [0, 1] (by decide) rfl
  refine W.widen (k := 0) (n := 0) (Nat.le_of_ble_eq_true rfl) (Nat.le_of_ble_eq_true rfl) ?_
  exact W.iret (v := (-1)) hx hb hr (fun t ht hW => ⟨⟨(-1), (), rfl, rfl, by rw [ht]; exact hP9, hD9⟩, hS.F ht⟩) hS.2.2 dX6_grow_20
set_option maxRecDepth 100000 in
def fX6_grow_orders_ok (zs : Int32) : Int32 := bnd ((zs + 1)) (fun (x2 : Int32) => x2)
set_option maxHeartbeats 4000000 in
set_option maxRecDepth 100000 in
theorem mX6_grow_orders_ok (l : Launch) (dC : Nat → ClassId) (dI : Nat → Nat → Nat) (kA : Nat → ClassId) (sz : Nat) (a0 : Nat) (a1 : Nat) (zs : Int32) (fa : Nat → Int32) (hz0 : ¬ zs < 0) (hz1 : ¬ 6 ≤ zs) : Met l yX6_grow wsX6_grow ({ frames := 0, cells := 0, slots := 0, locals := 0 }) (zPc dC dI kA sz [.ref a0] [(a0, .inr (6, [.int 4, .ref a1, .int zs])), (a1, .inl (kA 0, 24, .inl fa))]) (va_Qi (fun (r : Int32) (u : Int32) => r = zs ∧ u = fX6_grow_orders_ok zs ∧ u = (zs + 1)) (zB dC dI (va_A [(a0, .inr (6, [.int 4, .ref a1, .int zs])), (a1, .inl (kA 0, 24, .inl fa))] sz) (fun (u : Int32) => [(a0, .inr (6, [.int 4, .ref a1, .int u])), (a1, .inl (kA 0, 24, .inl fa))])) (va_A [(a0, .inr (6, [.int 4, .ref a1, .int zs])), (a1, .inl (kA 0, 24, .inl fa))] sz)) 0 0 (va_A [(a0, .inr (6, [.int 4, .ref a1, .int zs])), (a1, .inl (kA 0, 24, .inl fa))] sz) := by
  refine Met.ofW (cc := cX6_grow) (maxL := 1) (ret := (some .int)) pnX6 rfl ?_
  intro p e s m args below meth c s₁ B hml hv
  obtain ⟨rfl, hsz, hP, hK, hD0⟩ := hv
  have hx := B.exec
  have hb := B.bytes
  have hr := B.returns
  have hts := atoms_spec (ws := wsX6_grow) B.pre
  have hown : s.vm.findClass RX6 = some m.cls := findClass_of_methodNamed B.named
  have hlocks := B.notSynchronized
  subst hsz
  have hD := hD0.self (sz := s.heap.size)
  generalize hAe : va_A [(a0, .inr (6, [.int 4, .ref a1, .int zs])), (a1, .inl (kA 0, 24, .inl fa))] s.heap.size = A at hD ⊢
  have hA : ∀ q : Nat, s.heap.size ≤ q → A q := zA_of hAe
  have hS : va_S A s.heap s.heap [] := va_S.rf
  have hP : va_P (dC, dI) vwCl [(a0, .inr (6, [.int 4, .ref a1, .int zs])), (a1, .inl (kA 0, 24, .inl fa))] s.heap := hP
  have hl := lv_entry ([.ref a0]) (n := 1) (Nat.le_of_ble_eq_true rfl)
  rw [lg_entry_eq]
  generalize (lg_sl ([.ref a0]) ++ List.replicate (1 - (lg_sl ([.ref a0])).length) Slot.unset).toArray = ls at hl ⊢
  have hl : lv_has ls 1 [(0, .ref a0)] := hl
  obtain ⟨G, hG0⟩ : ∃ G : Int32, fX6_grow_orders_ok zs = G := ⟨_, rfl⟩
  have hG := hG0
  unfold fX6_grow_orders_ok at hG
  refine lv_aload_n hx hb dX6_grow_0 rfl (lv_at hl 0 rfl) ?_
  refine va_get (D := (dC, dI)) (ci := 6) (v := .int zs) (C := RX6) (T := TX6) (N := 3) hx hb hts iX6_grow_X6 hown hK.1 hP 0 gz0 vcz6 2 (by decide) (kX6_grow_1 hts) (fun _ h9 => h9) gz2 dX6_grow_1 ?_
  refine lv_iconst (v := 1) hx hb dX6_grow_4 (by decide) ?_
  refine lv_iadd hx hb dX6_grow_5 ?_
  refine lv_aload_n hx hb dX6_grow_6 rfl (lv_at hl 0 rfl) ?_
  refine va_get (D := (dC, dI)) (ci := 6) (v := .int 4) (C := RX6) (T := TX6) (N := 3) hx hb hts iX6_grow_X6 hown hK.1 hP 0 gz0 vcz6 0 (by decide) (kX6_grow_2 hts) (fun _ h9 => h9) gz0 dX6_grow_7 ?_
  refine lv_imul hx hb dX6_grow_10 ?_
  refine lv_aload_n hx hb dX6_grow_11 rfl (lv_at hl 0 rfl) ?_
  refine va_get (D := (dC, dI)) (ci := 6) (v := .ref a1) (C := RX6) (T := TX6) (N := 3) hx hb hts iX6_grow_X6 hown hK.1 hP 0 gz0 vcz6 1 (by decide) (kX6_grow_3 hts) (fun _ h9 => h9) gz1 dX6_grow_12 ?_
  refine va_alen hx hb hK.1 hP 1 0 rfl rfl (v := 24) rfl dX6_grow_15 ?_
  refine lv_icmp_le (tgt := 21) hx hb dX6_grow_16 (by decide) (fun _ => ?_) (fun c_1 => absurd (gr_6_4 hz0 hz1) c_1)
  refine lv_aload_n hx hb dX6_grow_21 rfl (lv_at hl 0 rfl) ?_
  refine lv_dup hx hb dX6_grow_22 rfl ?_
  refine va_get (D := (dC, dI)) (ci := 6) (v := .int zs) (C := RX6) (T := TX6) (N := 3) hx hb hts iX6_grow_X6 hown hK.1 hP 0 gz0 vcz6 2 (by decide) (kX6_grow_1 hts) (fun _ h9 => h9) gz2 dX6_grow_23 ?_
  refine lv_iconst (v := 1) hx hb dX6_grow_26 (by decide) ?_
  refine lv_iadd hx hb dX6_grow_27 ?_
  refine lv_topi (fun x2 ex2 => ?_)
  have hG := zbnd hG ex2
  refine va_put (D := (dC, dI)) (ci := 6) (v := .int x2) (ty := .int) (C := RX6) (T := TX6) (N := 3) hx hb hts iX6_grow_X6 tyX6 tyX6_ok nmX6 hown hK.1 hP hD hS 0 gz0 vcz6 2 (by decide) (kX6_grow_1 hts) (fun _ h9 => h9) rfl pfdI rfl rfl (Nat.le_of_ble_eq_true rfl) dX6_grow_28 (fun H locs hP hD hS => ?_)
  obtain ⟨hP, hD⟩ := z_re (L := [(a0, .inr (6, [.int 4, .ref a1, .int x2])), (a1, .inl (kA 0, 24, .inl fa))]) hP hD
  refine lv_aload_n hx hb dX6_grow_31 rfl (lv_at hl 0 rfl) ?_
  refine va_get (D := (dC, dI)) (ci := 6) (v := .int x2) (C := RX6) (T := TX6) (N := 3) hx hb hts iX6_grow_X6 hown hK.1 hP 0 gz0 vcz6 2 (by decide) (kX6_grow_1 hts) (fun _ h9 => h9) gz2 dX6_grow_32 ?_
  refine lv_iconst (v := 1) hx hb dX6_grow_35 (by decide) ?_
  refine lv_isub hx hb dX6_grow_36 ?_
  obtain ⟨hP9, hD9⟩ := z_sb (L' := [(a0, .inr (6, [.int 4, .ref a1, .int x2])), (a1, .inl (kA 0, 24, .inl fa))]) hP hD [0, 1] (by decide) rfl
  refine W.widen (k := 0) (n := 0) (Nat.le_of_ble_eq_true rfl) (Nat.le_of_ble_eq_true rfl) ?_
  exact W.iret (v := (x2 - 1)) hx hb hr (fun t ht hW => ⟨⟨(x2 - 1), (x2), rfl, ⟨(by rw [ex2]; exact gr_sub _), (hG.trans hG0.symm), ex2⟩, by rw [ht]; exact hP9, hD9⟩, hS.F ht⟩) hS.2.2 dX6_grow_37
set_option maxHeartbeats 4000000 in
set_option maxRecDepth 100000 in
theorem mX6_grow_orders_full (l : Launch) (dC : Nat → ClassId) (dI : Nat → Nat → Nat) (kA : Nat → ClassId) (sz : Nat) (a0 : Nat) (a1 : Nat) (fa : Nat → Int32)  : Met l yX6_grow wsX6_grow ({ frames := 0, cells := 0, slots := 0, locals := 0 }) (zPc dC dI kA sz [.ref a0] [(a0, .inr (6, [.int 4, .ref a1, .int 6])), (a1, .inl (kA 0, 24, .inl fa))]) (va_Qi (fun (r : Int32) (u : Unit) => r = (-1)) (zB dC dI (va_A [(a0, .inr (6, [.int 4, .ref a1, .int 6])), (a1, .inl (kA 0, 24, .inl fa))] sz) (fun (u : Unit) => [(a0, .inr (6, [.int 4, .ref a1, .int 6])), (a1, .inl (kA 0, 24, .inl fa))])) (va_A [(a0, .inr (6, [.int 4, .ref a1, .int 6])), (a1, .inl (kA 0, 24, .inl fa))] sz)) 0 0 (va_A [(a0, .inr (6, [.int 4, .ref a1, .int 6])), (a1, .inl (kA 0, 24, .inl fa))] sz) := by
  refine Met.ofW (cc := cX6_grow) (maxL := 1) (ret := (some .int)) pnX6 rfl ?_
  intro p e s m args below meth c s₁ B hml hv
  obtain ⟨rfl, hsz, hP, hK, hD0⟩ := hv
  have hx := B.exec
  have hb := B.bytes
  have hr := B.returns
  have hts := atoms_spec (ws := wsX6_grow) B.pre
  have hown : s.vm.findClass RX6 = some m.cls := findClass_of_methodNamed B.named
  have hlocks := B.notSynchronized
  subst hsz
  have hD := hD0.self (sz := s.heap.size)
  generalize hAe : va_A [(a0, .inr (6, [.int 4, .ref a1, .int 6])), (a1, .inl (kA 0, 24, .inl fa))] s.heap.size = A at hD ⊢
  have hA : ∀ q : Nat, s.heap.size ≤ q → A q := zA_of hAe
  have hS : va_S A s.heap s.heap [] := va_S.rf
  have hP : va_P (dC, dI) vwCl [(a0, .inr (6, [.int 4, .ref a1, .int 6])), (a1, .inl (kA 0, 24, .inl fa))] s.heap := hP
  have hl := lv_entry ([.ref a0]) (n := 1) (Nat.le_of_ble_eq_true rfl)
  rw [lg_entry_eq]
  generalize (lg_sl ([.ref a0]) ++ List.replicate (1 - (lg_sl ([.ref a0])).length) Slot.unset).toArray = ls at hl ⊢
  have hl : lv_has ls 1 [(0, .ref a0)] := hl
  refine lv_aload_n hx hb dX6_grow_0 rfl (lv_at hl 0 rfl) ?_
  refine va_get (D := (dC, dI)) (ci := 6) (v := .int 6) (C := RX6) (T := TX6) (N := 3) hx hb hts iX6_grow_X6 hown hK.1 hP 0 gz0 vcz6 2 (by decide) (kX6_grow_1 hts) (fun _ h9 => h9) gz2 dX6_grow_1 ?_
  refine lv_iconst (v := 1) hx hb dX6_grow_4 (by decide) ?_
  refine lv_iadd hx hb dX6_grow_5 ?_
  refine zi 7 (by decide) ?_
  refine lv_aload_n hx hb dX6_grow_6 rfl (lv_at hl 0 rfl) ?_
  refine va_get (D := (dC, dI)) (ci := 6) (v := .int 4) (C := RX6) (T := TX6) (N := 3) hx hb hts iX6_grow_X6 hown hK.1 hP 0 gz0 vcz6 0 (by decide) (kX6_grow_2 hts) (fun _ h9 => h9) gz0 dX6_grow_7 ?_
  refine lv_imul hx hb dX6_grow_10 ?_
  refine zi 28 (by decide) ?_
  refine lv_aload_n hx hb dX6_grow_11 rfl (lv_at hl 0 rfl) ?_
  refine va_get (D := (dC, dI)) (ci := 6) (v := .ref a1) (C := RX6) (T := TX6) (N := 3) hx hb hts iX6_grow_X6 hown hK.1 hP 0 gz0 vcz6 1 (by decide) (kX6_grow_3 hts) (fun _ h9 => h9) gz1 dX6_grow_12 ?_
  refine va_alen hx hb hK.1 hP 1 0 rfl rfl (v := 24) rfl dX6_grow_15 ?_
  refine lv_icmp_le (tgt := 21) hx hb dX6_grow_16 (by decide) (fun c_1 => absurd c_1 (by decide)) (fun _ => ?_)
  refine lv_iconst (v := (-1)) hx hb dX6_grow_19 (by decide) ?_
  obtain ⟨hP9, hD9⟩ := z_sb (L' := [(a0, .inr (6, [.int 4, .ref a1, .int 6])), (a1, .inl (kA 0, 24, .inl fa))]) hP hD [0, 1] (by decide) rfl
  refine W.widen (k := 0) (n := 0) (Nat.le_of_ble_eq_true rfl) (Nat.le_of_ble_eq_true rfl) ?_
  exact W.iret (v := (-1)) hx hb hr (fun t ht hW => ⟨⟨(-1), (), rfl, rfl, by rw [ht]; exact hP9, hD9⟩, hS.F ht⟩) hS.2.2 dX6_grow_20
set_option maxRecDepth 100000 in
def fX6_grow_feasts_ok (zs : Int32) : Int32 := bnd ((zs + 1)) (fun (x2 : Int32) => x2)
set_option maxHeartbeats 4000000 in
set_option maxRecDepth 100000 in
theorem mX6_grow_feasts_ok (l : Launch) (dC : Nat → ClassId) (dI : Nat → Nat → Nat) (kA : Nat → ClassId) (sz : Nat) (a0 : Nat) (a1 : Nat) (zs : Int32) (fa : Nat → Int32) (hz0 : ¬ zs < 0) (hz1 : ¬ 8 ≤ zs) : Met l yX6_grow wsX6_grow ({ frames := 0, cells := 0, slots := 0, locals := 0 }) (zPc dC dI kA sz [.ref a0] [(a0, .inr (6, [.int 3, .ref a1, .int zs])), (a1, .inl (kA 0, 24, .inl fa))]) (va_Qi (fun (r : Int32) (u : Int32) => r = zs ∧ u = fX6_grow_feasts_ok zs ∧ u = (zs + 1)) (zB dC dI (va_A [(a0, .inr (6, [.int 3, .ref a1, .int zs])), (a1, .inl (kA 0, 24, .inl fa))] sz) (fun (u : Int32) => [(a0, .inr (6, [.int 3, .ref a1, .int u])), (a1, .inl (kA 0, 24, .inl fa))])) (va_A [(a0, .inr (6, [.int 3, .ref a1, .int zs])), (a1, .inl (kA 0, 24, .inl fa))] sz)) 0 0 (va_A [(a0, .inr (6, [.int 3, .ref a1, .int zs])), (a1, .inl (kA 0, 24, .inl fa))] sz) := by
  refine Met.ofW (cc := cX6_grow) (maxL := 1) (ret := (some .int)) pnX6 rfl ?_
  intro p e s m args below meth c s₁ B hml hv
  obtain ⟨rfl, hsz, hP, hK, hD0⟩ := hv
  have hx := B.exec
  have hb := B.bytes
  have hr := B.returns
  have hts := atoms_spec (ws := wsX6_grow) B.pre
  have hown : s.vm.findClass RX6 = some m.cls := findClass_of_methodNamed B.named
  have hlocks := B.notSynchronized
  subst hsz
  have hD := hD0.self (sz := s.heap.size)
  generalize hAe : va_A [(a0, .inr (6, [.int 3, .ref a1, .int zs])), (a1, .inl (kA 0, 24, .inl fa))] s.heap.size = A at hD ⊢
  have hA : ∀ q : Nat, s.heap.size ≤ q → A q := zA_of hAe
  have hS : va_S A s.heap s.heap [] := va_S.rf
  have hP : va_P (dC, dI) vwCl [(a0, .inr (6, [.int 3, .ref a1, .int zs])), (a1, .inl (kA 0, 24, .inl fa))] s.heap := hP
  have hl := lv_entry ([.ref a0]) (n := 1) (Nat.le_of_ble_eq_true rfl)
  rw [lg_entry_eq]
  generalize (lg_sl ([.ref a0]) ++ List.replicate (1 - (lg_sl ([.ref a0])).length) Slot.unset).toArray = ls at hl ⊢
  have hl : lv_has ls 1 [(0, .ref a0)] := hl
  obtain ⟨G, hG0⟩ : ∃ G : Int32, fX6_grow_feasts_ok zs = G := ⟨_, rfl⟩
  have hG := hG0
  unfold fX6_grow_feasts_ok at hG
  refine lv_aload_n hx hb dX6_grow_0 rfl (lv_at hl 0 rfl) ?_
  refine va_get (D := (dC, dI)) (ci := 6) (v := .int zs) (C := RX6) (T := TX6) (N := 3) hx hb hts iX6_grow_X6 hown hK.1 hP 0 gz0 vcz6 2 (by decide) (kX6_grow_1 hts) (fun _ h9 => h9) gz2 dX6_grow_1 ?_
  refine lv_iconst (v := 1) hx hb dX6_grow_4 (by decide) ?_
  refine lv_iadd hx hb dX6_grow_5 ?_
  refine lv_aload_n hx hb dX6_grow_6 rfl (lv_at hl 0 rfl) ?_
  refine va_get (D := (dC, dI)) (ci := 6) (v := .int 3) (C := RX6) (T := TX6) (N := 3) hx hb hts iX6_grow_X6 hown hK.1 hP 0 gz0 vcz6 0 (by decide) (kX6_grow_2 hts) (fun _ h9 => h9) gz0 dX6_grow_7 ?_
  refine lv_imul hx hb dX6_grow_10 ?_
  refine lv_aload_n hx hb dX6_grow_11 rfl (lv_at hl 0 rfl) ?_
  refine va_get (D := (dC, dI)) (ci := 6) (v := .ref a1) (C := RX6) (T := TX6) (N := 3) hx hb hts iX6_grow_X6 hown hK.1 hP 0 gz0 vcz6 1 (by decide) (kX6_grow_3 hts) (fun _ h9 => h9) gz1 dX6_grow_12 ?_
  refine va_alen hx hb hK.1 hP 1 0 rfl rfl (v := 24) rfl dX6_grow_15 ?_
  refine lv_icmp_le (tgt := 21) hx hb dX6_grow_16 (by decide) (fun _ => ?_) (fun c_1 => absurd (gr_8_3 hz0 hz1) c_1)
  refine lv_aload_n hx hb dX6_grow_21 rfl (lv_at hl 0 rfl) ?_
  refine lv_dup hx hb dX6_grow_22 rfl ?_
  refine va_get (D := (dC, dI)) (ci := 6) (v := .int zs) (C := RX6) (T := TX6) (N := 3) hx hb hts iX6_grow_X6 hown hK.1 hP 0 gz0 vcz6 2 (by decide) (kX6_grow_1 hts) (fun _ h9 => h9) gz2 dX6_grow_23 ?_
  refine lv_iconst (v := 1) hx hb dX6_grow_26 (by decide) ?_
  refine lv_iadd hx hb dX6_grow_27 ?_
  refine lv_topi (fun x2 ex2 => ?_)
  have hG := zbnd hG ex2
  refine va_put (D := (dC, dI)) (ci := 6) (v := .int x2) (ty := .int) (C := RX6) (T := TX6) (N := 3) hx hb hts iX6_grow_X6 tyX6 tyX6_ok nmX6 hown hK.1 hP hD hS 0 gz0 vcz6 2 (by decide) (kX6_grow_1 hts) (fun _ h9 => h9) rfl pfdI rfl rfl (Nat.le_of_ble_eq_true rfl) dX6_grow_28 (fun H locs hP hD hS => ?_)
  obtain ⟨hP, hD⟩ := z_re (L := [(a0, .inr (6, [.int 3, .ref a1, .int x2])), (a1, .inl (kA 0, 24, .inl fa))]) hP hD
  refine lv_aload_n hx hb dX6_grow_31 rfl (lv_at hl 0 rfl) ?_
  refine va_get (D := (dC, dI)) (ci := 6) (v := .int x2) (C := RX6) (T := TX6) (N := 3) hx hb hts iX6_grow_X6 hown hK.1 hP 0 gz0 vcz6 2 (by decide) (kX6_grow_1 hts) (fun _ h9 => h9) gz2 dX6_grow_32 ?_
  refine lv_iconst (v := 1) hx hb dX6_grow_35 (by decide) ?_
  refine lv_isub hx hb dX6_grow_36 ?_
  obtain ⟨hP9, hD9⟩ := z_sb (L' := [(a0, .inr (6, [.int 3, .ref a1, .int x2])), (a1, .inl (kA 0, 24, .inl fa))]) hP hD [0, 1] (by decide) rfl
  refine W.widen (k := 0) (n := 0) (Nat.le_of_ble_eq_true rfl) (Nat.le_of_ble_eq_true rfl) ?_
  exact W.iret (v := (x2 - 1)) hx hb hr (fun t ht hW => ⟨⟨(x2 - 1), (x2), rfl, ⟨(by rw [ex2]; exact gr_sub _), (hG.trans hG0.symm), ex2⟩, by rw [ht]; exact hP9, hD9⟩, hS.F ht⟩) hS.2.2 dX6_grow_37
set_option maxHeartbeats 4000000 in
set_option maxRecDepth 100000 in
theorem mX6_grow_feasts_full (l : Launch) (dC : Nat → ClassId) (dI : Nat → Nat → Nat) (kA : Nat → ClassId) (sz : Nat) (a0 : Nat) (a1 : Nat) (fa : Nat → Int32)  : Met l yX6_grow wsX6_grow ({ frames := 0, cells := 0, slots := 0, locals := 0 }) (zPc dC dI kA sz [.ref a0] [(a0, .inr (6, [.int 3, .ref a1, .int 8])), (a1, .inl (kA 0, 24, .inl fa))]) (va_Qi (fun (r : Int32) (u : Unit) => r = (-1)) (zB dC dI (va_A [(a0, .inr (6, [.int 3, .ref a1, .int 8])), (a1, .inl (kA 0, 24, .inl fa))] sz) (fun (u : Unit) => [(a0, .inr (6, [.int 3, .ref a1, .int 8])), (a1, .inl (kA 0, 24, .inl fa))])) (va_A [(a0, .inr (6, [.int 3, .ref a1, .int 8])), (a1, .inl (kA 0, 24, .inl fa))] sz)) 0 0 (va_A [(a0, .inr (6, [.int 3, .ref a1, .int 8])), (a1, .inl (kA 0, 24, .inl fa))] sz) := by
  refine Met.ofW (cc := cX6_grow) (maxL := 1) (ret := (some .int)) pnX6 rfl ?_
  intro p e s m args below meth c s₁ B hml hv
  obtain ⟨rfl, hsz, hP, hK, hD0⟩ := hv
  have hx := B.exec
  have hb := B.bytes
  have hr := B.returns
  have hts := atoms_spec (ws := wsX6_grow) B.pre
  have hown : s.vm.findClass RX6 = some m.cls := findClass_of_methodNamed B.named
  have hlocks := B.notSynchronized
  subst hsz
  have hD := hD0.self (sz := s.heap.size)
  generalize hAe : va_A [(a0, .inr (6, [.int 3, .ref a1, .int 8])), (a1, .inl (kA 0, 24, .inl fa))] s.heap.size = A at hD ⊢
  have hA : ∀ q : Nat, s.heap.size ≤ q → A q := zA_of hAe
  have hS : va_S A s.heap s.heap [] := va_S.rf
  have hP : va_P (dC, dI) vwCl [(a0, .inr (6, [.int 3, .ref a1, .int 8])), (a1, .inl (kA 0, 24, .inl fa))] s.heap := hP
  have hl := lv_entry ([.ref a0]) (n := 1) (Nat.le_of_ble_eq_true rfl)
  rw [lg_entry_eq]
  generalize (lg_sl ([.ref a0]) ++ List.replicate (1 - (lg_sl ([.ref a0])).length) Slot.unset).toArray = ls at hl ⊢
  have hl : lv_has ls 1 [(0, .ref a0)] := hl
  refine lv_aload_n hx hb dX6_grow_0 rfl (lv_at hl 0 rfl) ?_
  refine va_get (D := (dC, dI)) (ci := 6) (v := .int 8) (C := RX6) (T := TX6) (N := 3) hx hb hts iX6_grow_X6 hown hK.1 hP 0 gz0 vcz6 2 (by decide) (kX6_grow_1 hts) (fun _ h9 => h9) gz2 dX6_grow_1 ?_
  refine lv_iconst (v := 1) hx hb dX6_grow_4 (by decide) ?_
  refine lv_iadd hx hb dX6_grow_5 ?_
  refine zi 9 (by decide) ?_
  refine lv_aload_n hx hb dX6_grow_6 rfl (lv_at hl 0 rfl) ?_
  refine va_get (D := (dC, dI)) (ci := 6) (v := .int 3) (C := RX6) (T := TX6) (N := 3) hx hb hts iX6_grow_X6 hown hK.1 hP 0 gz0 vcz6 0 (by decide) (kX6_grow_2 hts) (fun _ h9 => h9) gz0 dX6_grow_7 ?_
  refine lv_imul hx hb dX6_grow_10 ?_
  refine zi 27 (by decide) ?_
  refine lv_aload_n hx hb dX6_grow_11 rfl (lv_at hl 0 rfl) ?_
  refine va_get (D := (dC, dI)) (ci := 6) (v := .ref a1) (C := RX6) (T := TX6) (N := 3) hx hb hts iX6_grow_X6 hown hK.1 hP 0 gz0 vcz6 1 (by decide) (kX6_grow_3 hts) (fun _ h9 => h9) gz1 dX6_grow_12 ?_
  refine va_alen hx hb hK.1 hP 1 0 rfl rfl (v := 24) rfl dX6_grow_15 ?_
  refine lv_icmp_le (tgt := 21) hx hb dX6_grow_16 (by decide) (fun c_1 => absurd c_1 (by decide)) (fun _ => ?_)
  refine lv_iconst (v := (-1)) hx hb dX6_grow_19 (by decide) ?_
  obtain ⟨hP9, hD9⟩ := z_sb (L' := [(a0, .inr (6, [.int 3, .ref a1, .int 8])), (a1, .inl (kA 0, 24, .inl fa))]) hP hD [0, 1] (by decide) rfl
  refine W.widen (k := 0) (n := 0) (Nat.le_of_ble_eq_true rfl) (Nat.le_of_ble_eq_true rfl) ?_
  exact W.iret (v := (-1)) hx hb hr (fun t ht hW => ⟨⟨(-1), (), rfl, rfl, by rw [ht]; exact hP9, hD9⟩, hS.F ht⟩) hS.2.2 dX6_grow_20
set_option maxRecDepth 100000 in
def fX6_grow_way_ok (zs : Int32) : Int32 := bnd ((zs + 1)) (fun (x2 : Int32) => x2)
set_option maxHeartbeats 4000000 in
set_option maxRecDepth 100000 in
theorem mX6_grow_way_ok (l : Launch) (dC : Nat → ClassId) (dI : Nat → Nat → Nat) (kA : Nat → ClassId) (sz : Nat) (a0 : Nat) (a1 : Nat) (zs : Int32) (fa : Nat → Int32) (hz0 : ¬ zs < 0) (hz1 : ¬ 6 ≤ zs) : Met l yX6_grow wsX6_grow ({ frames := 0, cells := 0, slots := 0, locals := 0 }) (zPc dC dI kA sz [.ref a0] [(a0, .inr (6, [.int 1, .ref a1, .int zs])), (a1, .inl (kA 0, 6, .inl fa))]) (va_Qi (fun (r : Int32) (u : Int32) => r = zs ∧ u = fX6_grow_way_ok zs ∧ u = (zs + 1)) (zB dC dI (va_A [(a0, .inr (6, [.int 1, .ref a1, .int zs])), (a1, .inl (kA 0, 6, .inl fa))] sz) (fun (u : Int32) => [(a0, .inr (6, [.int 1, .ref a1, .int u])), (a1, .inl (kA 0, 6, .inl fa))])) (va_A [(a0, .inr (6, [.int 1, .ref a1, .int zs])), (a1, .inl (kA 0, 6, .inl fa))] sz)) 0 0 (va_A [(a0, .inr (6, [.int 1, .ref a1, .int zs])), (a1, .inl (kA 0, 6, .inl fa))] sz) := by
  refine Met.ofW (cc := cX6_grow) (maxL := 1) (ret := (some .int)) pnX6 rfl ?_
  intro p e s m args below meth c s₁ B hml hv
  obtain ⟨rfl, hsz, hP, hK, hD0⟩ := hv
  have hx := B.exec
  have hb := B.bytes
  have hr := B.returns
  have hts := atoms_spec (ws := wsX6_grow) B.pre
  have hown : s.vm.findClass RX6 = some m.cls := findClass_of_methodNamed B.named
  have hlocks := B.notSynchronized
  subst hsz
  have hD := hD0.self (sz := s.heap.size)
  generalize hAe : va_A [(a0, .inr (6, [.int 1, .ref a1, .int zs])), (a1, .inl (kA 0, 6, .inl fa))] s.heap.size = A at hD ⊢
  have hA : ∀ q : Nat, s.heap.size ≤ q → A q := zA_of hAe
  have hS : va_S A s.heap s.heap [] := va_S.rf
  have hP : va_P (dC, dI) vwCl [(a0, .inr (6, [.int 1, .ref a1, .int zs])), (a1, .inl (kA 0, 6, .inl fa))] s.heap := hP
  have hl := lv_entry ([.ref a0]) (n := 1) (Nat.le_of_ble_eq_true rfl)
  rw [lg_entry_eq]
  generalize (lg_sl ([.ref a0]) ++ List.replicate (1 - (lg_sl ([.ref a0])).length) Slot.unset).toArray = ls at hl ⊢
  have hl : lv_has ls 1 [(0, .ref a0)] := hl
  obtain ⟨G, hG0⟩ : ∃ G : Int32, fX6_grow_way_ok zs = G := ⟨_, rfl⟩
  have hG := hG0
  unfold fX6_grow_way_ok at hG
  refine lv_aload_n hx hb dX6_grow_0 rfl (lv_at hl 0 rfl) ?_
  refine va_get (D := (dC, dI)) (ci := 6) (v := .int zs) (C := RX6) (T := TX6) (N := 3) hx hb hts iX6_grow_X6 hown hK.1 hP 0 gz0 vcz6 2 (by decide) (kX6_grow_1 hts) (fun _ h9 => h9) gz2 dX6_grow_1 ?_
  refine lv_iconst (v := 1) hx hb dX6_grow_4 (by decide) ?_
  refine lv_iadd hx hb dX6_grow_5 ?_
  refine lv_aload_n hx hb dX6_grow_6 rfl (lv_at hl 0 rfl) ?_
  refine va_get (D := (dC, dI)) (ci := 6) (v := .int 1) (C := RX6) (T := TX6) (N := 3) hx hb hts iX6_grow_X6 hown hK.1 hP 0 gz0 vcz6 0 (by decide) (kX6_grow_2 hts) (fun _ h9 => h9) gz0 dX6_grow_7 ?_
  refine lv_imul hx hb dX6_grow_10 ?_
  refine lv_aload_n hx hb dX6_grow_11 rfl (lv_at hl 0 rfl) ?_
  refine va_get (D := (dC, dI)) (ci := 6) (v := .ref a1) (C := RX6) (T := TX6) (N := 3) hx hb hts iX6_grow_X6 hown hK.1 hP 0 gz0 vcz6 1 (by decide) (kX6_grow_3 hts) (fun _ h9 => h9) gz1 dX6_grow_12 ?_
  refine va_alen hx hb hK.1 hP 1 0 rfl rfl (v := 6) rfl dX6_grow_15 ?_
  refine lv_icmp_le (tgt := 21) hx hb dX6_grow_16 (by decide) (fun _ => ?_) (fun c_1 => absurd (gr_6_1 hz0 hz1) c_1)
  refine lv_aload_n hx hb dX6_grow_21 rfl (lv_at hl 0 rfl) ?_
  refine lv_dup hx hb dX6_grow_22 rfl ?_
  refine va_get (D := (dC, dI)) (ci := 6) (v := .int zs) (C := RX6) (T := TX6) (N := 3) hx hb hts iX6_grow_X6 hown hK.1 hP 0 gz0 vcz6 2 (by decide) (kX6_grow_1 hts) (fun _ h9 => h9) gz2 dX6_grow_23 ?_
  refine lv_iconst (v := 1) hx hb dX6_grow_26 (by decide) ?_
  refine lv_iadd hx hb dX6_grow_27 ?_
  refine lv_topi (fun x2 ex2 => ?_)
  have hG := zbnd hG ex2
  refine va_put (D := (dC, dI)) (ci := 6) (v := .int x2) (ty := .int) (C := RX6) (T := TX6) (N := 3) hx hb hts iX6_grow_X6 tyX6 tyX6_ok nmX6 hown hK.1 hP hD hS 0 gz0 vcz6 2 (by decide) (kX6_grow_1 hts) (fun _ h9 => h9) rfl pfdI rfl rfl (Nat.le_of_ble_eq_true rfl) dX6_grow_28 (fun H locs hP hD hS => ?_)
  obtain ⟨hP, hD⟩ := z_re (L := [(a0, .inr (6, [.int 1, .ref a1, .int x2])), (a1, .inl (kA 0, 6, .inl fa))]) hP hD
  refine lv_aload_n hx hb dX6_grow_31 rfl (lv_at hl 0 rfl) ?_
  refine va_get (D := (dC, dI)) (ci := 6) (v := .int x2) (C := RX6) (T := TX6) (N := 3) hx hb hts iX6_grow_X6 hown hK.1 hP 0 gz0 vcz6 2 (by decide) (kX6_grow_1 hts) (fun _ h9 => h9) gz2 dX6_grow_32 ?_
  refine lv_iconst (v := 1) hx hb dX6_grow_35 (by decide) ?_
  refine lv_isub hx hb dX6_grow_36 ?_
  obtain ⟨hP9, hD9⟩ := z_sb (L' := [(a0, .inr (6, [.int 1, .ref a1, .int x2])), (a1, .inl (kA 0, 6, .inl fa))]) hP hD [0, 1] (by decide) rfl
  refine W.widen (k := 0) (n := 0) (Nat.le_of_ble_eq_true rfl) (Nat.le_of_ble_eq_true rfl) ?_
  exact W.iret (v := (x2 - 1)) hx hb hr (fun t ht hW => ⟨⟨(x2 - 1), (x2), rfl, ⟨(by rw [ex2]; exact gr_sub _), (hG.trans hG0.symm), ex2⟩, by rw [ht]; exact hP9, hD9⟩, hS.F ht⟩) hS.2.2 dX6_grow_37
set_option maxHeartbeats 4000000 in
set_option maxRecDepth 100000 in
theorem mX6_grow_way_full (l : Launch) (dC : Nat → ClassId) (dI : Nat → Nat → Nat) (kA : Nat → ClassId) (sz : Nat) (a0 : Nat) (a1 : Nat) (fa : Nat → Int32)  : Met l yX6_grow wsX6_grow ({ frames := 0, cells := 0, slots := 0, locals := 0 }) (zPc dC dI kA sz [.ref a0] [(a0, .inr (6, [.int 1, .ref a1, .int 6])), (a1, .inl (kA 0, 6, .inl fa))]) (va_Qi (fun (r : Int32) (u : Unit) => r = (-1)) (zB dC dI (va_A [(a0, .inr (6, [.int 1, .ref a1, .int 6])), (a1, .inl (kA 0, 6, .inl fa))] sz) (fun (u : Unit) => [(a0, .inr (6, [.int 1, .ref a1, .int 6])), (a1, .inl (kA 0, 6, .inl fa))])) (va_A [(a0, .inr (6, [.int 1, .ref a1, .int 6])), (a1, .inl (kA 0, 6, .inl fa))] sz)) 0 0 (va_A [(a0, .inr (6, [.int 1, .ref a1, .int 6])), (a1, .inl (kA 0, 6, .inl fa))] sz) := by
  refine Met.ofW (cc := cX6_grow) (maxL := 1) (ret := (some .int)) pnX6 rfl ?_
  intro p e s m args below meth c s₁ B hml hv
  obtain ⟨rfl, hsz, hP, hK, hD0⟩ := hv
  have hx := B.exec
  have hb := B.bytes
  have hr := B.returns
  have hts := atoms_spec (ws := wsX6_grow) B.pre
  have hown : s.vm.findClass RX6 = some m.cls := findClass_of_methodNamed B.named
  have hlocks := B.notSynchronized
  subst hsz
  have hD := hD0.self (sz := s.heap.size)
  generalize hAe : va_A [(a0, .inr (6, [.int 1, .ref a1, .int 6])), (a1, .inl (kA 0, 6, .inl fa))] s.heap.size = A at hD ⊢
  have hA : ∀ q : Nat, s.heap.size ≤ q → A q := zA_of hAe
  have hS : va_S A s.heap s.heap [] := va_S.rf
  have hP : va_P (dC, dI) vwCl [(a0, .inr (6, [.int 1, .ref a1, .int 6])), (a1, .inl (kA 0, 6, .inl fa))] s.heap := hP
  have hl := lv_entry ([.ref a0]) (n := 1) (Nat.le_of_ble_eq_true rfl)
  rw [lg_entry_eq]
  generalize (lg_sl ([.ref a0]) ++ List.replicate (1 - (lg_sl ([.ref a0])).length) Slot.unset).toArray = ls at hl ⊢
  have hl : lv_has ls 1 [(0, .ref a0)] := hl
  refine lv_aload_n hx hb dX6_grow_0 rfl (lv_at hl 0 rfl) ?_
  refine va_get (D := (dC, dI)) (ci := 6) (v := .int 6) (C := RX6) (T := TX6) (N := 3) hx hb hts iX6_grow_X6 hown hK.1 hP 0 gz0 vcz6 2 (by decide) (kX6_grow_1 hts) (fun _ h9 => h9) gz2 dX6_grow_1 ?_
  refine lv_iconst (v := 1) hx hb dX6_grow_4 (by decide) ?_
  refine lv_iadd hx hb dX6_grow_5 ?_
  refine zi 7 (by decide) ?_
  refine lv_aload_n hx hb dX6_grow_6 rfl (lv_at hl 0 rfl) ?_
  refine va_get (D := (dC, dI)) (ci := 6) (v := .int 1) (C := RX6) (T := TX6) (N := 3) hx hb hts iX6_grow_X6 hown hK.1 hP 0 gz0 vcz6 0 (by decide) (kX6_grow_2 hts) (fun _ h9 => h9) gz0 dX6_grow_7 ?_
  refine lv_imul hx hb dX6_grow_10 ?_
  refine zi 7 (by decide) ?_
  refine lv_aload_n hx hb dX6_grow_11 rfl (lv_at hl 0 rfl) ?_
  refine va_get (D := (dC, dI)) (ci := 6) (v := .ref a1) (C := RX6) (T := TX6) (N := 3) hx hb hts iX6_grow_X6 hown hK.1 hP 0 gz0 vcz6 1 (by decide) (kX6_grow_3 hts) (fun _ h9 => h9) gz1 dX6_grow_12 ?_
  refine va_alen hx hb hK.1 hP 1 0 rfl rfl (v := 6) rfl dX6_grow_15 ?_
  refine lv_icmp_le (tgt := 21) hx hb dX6_grow_16 (by decide) (fun c_1 => absurd c_1 (by decide)) (fun _ => ?_)
  refine lv_iconst (v := (-1)) hx hb dX6_grow_19 (by decide) ?_
  obtain ⟨hP9, hD9⟩ := z_sb (L' := [(a0, .inr (6, [.int 1, .ref a1, .int 6])), (a1, .inl (kA 0, 6, .inl fa))]) hP hD [0, 1] (by decide) rfl
  refine W.widen (k := 0) (n := 0) (Nat.le_of_ble_eq_true rfl) (Nat.le_of_ble_eq_true rfl) ?_
  exact W.iret (v := (-1)) hx hb hr (fun t ht hW => ⟨⟨(-1), (), rfl, rfl, by rw [ht]; exact hP9, hD9⟩, hS.F ht⟩) hS.2.2 dX6_grow_20
set_option maxRecDepth 100000 in
def fX10_node_ok (tnodesS : Int32) (tnodesF : Nat → Int32) (p0 : Int32) (p1 : Int32) (p2 : Int32) : Int32 × (Nat → Int32) := if (wi p0 400) = 0 then ((tnodesS, tnodesF)) else (if (wi p1 4095) = 0 then ((tnodesS, tnodesF)) else (if (wi p2 9) = 0 then ((tnodesS, tnodesF)) else (bnd (fX6_grow_nodes_ok tnodesS) (fun (o23 : Int32) => if tnodesS = (-1) then ((o23, tnodesF)) else (bnd (fX6_put_48 4 tnodesF tnodesS 0 p0) (fun (o32 : Nat → Int32) => bnd (fX6_put_48 4 o32 tnodesS 1 p1) (fun (o38 : Nat → Int32) => bnd (fX6_put_48 4 o38 tnodesS 2 p2) (fun (o44 : Nat → Int32) => bnd (fX6_put_48 4 o44 tnodesS 3 0) (fun (o50 : Nat → Int32) => (o23, o50))))))))))
set_option maxHeartbeats 4000000 in
set_option maxRecDepth 100000 in
theorem mX10_node_ok (l : Launch) (dC : Nat → ClassId) (dI : Nat → Nat → Nat) (kA : Nat → ClassId) (sz : Nat) (x0 : Nat) (z0 : Nat) (xi : Nat) (xt : Nat) (xq : Nat) (rdr : Nat) (h0 : Nat) (t0 : Nat) (q0 : Nat) (v0 : Nat) (m0 : Nat) (w0 : Nat) (x_tl : Int32) (x_lc : Int32) (tnodes : Nat) (tnodesA : Nat) (tnodesS : Int32) (tnodesF : Nat → Int32) (tpasses : Nat) (tjars : Nat) (torders : Nat) (tfeasts : Nat) (tway : Nat) (tws : Int32) (tnow : Int32) (tfm : Int32) (tx : Int32) (p0 : Int32) (p1 : Int32) (p2 : Int32) (hz0 : ¬ tnodesS < 0) (hz1 : ¬ 12 ≤ tnodesS) : Met l yX10_node wsX10_node ({ frames := 1, cells := 0, slots := 0, locals := 24 }) (zPc dC dI kA sz [.ref x0, .int p0, .int p1, .int p2] [(x0, .inr (10, [.ref w0, .ref z0, .ref xi, .ref xt, .int x_tl, .ref xq, .int x_lc, .ref rdr, .ref h0, .ref t0, .ref q0, .ref v0, .ref m0])), (w0, .inr (9, [.ref tnodes, .ref tpasses, .ref tjars, .ref torders, .ref tfeasts, .ref tway, .int tws, .int tnow, .int tfm, .int tx])), (tnodes, .inr (6, [.int 4, .ref tnodesA, .int tnodesS])), (tnodesA, .inl (kA 0, 48, .inl tnodesF))]) (va_Qi (fun (r : Int32) (u : Int32 × (Nat → Int32)) => r = (sp_nd p0 p1 p2 tnodesS) ∧ (u.1, u.2) = fX10_node_ok tnodesS tnodesF p0 p1 p2 ∧ u.1 = (sp_ndz p0 p1 p2 tnodesS)) (zB dC dI (va_A [(x0, .inr (10, [.ref w0, .ref z0, .ref xi, .ref xt, .int x_tl, .ref xq, .int x_lc, .ref rdr, .ref h0, .ref t0, .ref q0, .ref v0, .ref m0])), (w0, .inr (9, [.ref tnodes, .ref tpasses, .ref tjars, .ref torders, .ref tfeasts, .ref tway, .int tws, .int tnow, .int tfm, .int tx])), (tnodes, .inr (6, [.int 4, .ref tnodesA, .int tnodesS])), (tnodesA, .inl (kA 0, 48, .inl tnodesF))] sz) (fun (u : Int32 × (Nat → Int32)) => [(x0, .inr (10, [.ref w0, .ref z0, .ref xi, .ref xt, .int x_tl, .ref xq, .int x_lc, .ref rdr, .ref h0, .ref t0, .ref q0, .ref v0, .ref m0])), (w0, .inr (9, [.ref tnodes, .ref tpasses, .ref tjars, .ref torders, .ref tfeasts, .ref tway, .int tws, .int tnow, .int tfm, .int tx])), (tnodes, .inr (6, [.int 4, .ref tnodesA, .int u.1])), (tnodesA, .inl (kA 0, 48, .inl u.2))])) (va_A [(x0, .inr (10, [.ref w0, .ref z0, .ref xi, .ref xt, .int x_tl, .ref xq, .int x_lc, .ref rdr, .ref h0, .ref t0, .ref q0, .ref v0, .ref m0])), (w0, .inr (9, [.ref tnodes, .ref tpasses, .ref tjars, .ref torders, .ref tfeasts, .ref tway, .int tws, .int tnow, .int tfm, .int tx])), (tnodes, .inr (6, [.int 4, .ref tnodesA, .int tnodesS])), (tnodesA, .inl (kA 0, 48, .inl tnodesF))] sz)) 0 0 (va_A [(x0, .inr (10, [.ref w0, .ref z0, .ref xi, .ref xt, .int x_tl, .ref xq, .int x_lc, .ref rdr, .ref h0, .ref t0, .ref q0, .ref v0, .ref m0])), (w0, .inr (9, [.ref tnodes, .ref tpasses, .ref tjars, .ref torders, .ref tfeasts, .ref tway, .int tws, .int tnow, .int tfm, .int tx])), (tnodes, .inr (6, [.int 4, .ref tnodesA, .int tnodesS])), (tnodesA, .inl (kA 0, 48, .inl tnodesF))] sz) := by
  refine Met.ofW (cc := cX10_node) (maxL := 6) (ret := (some .int)) pnX10 rfl ?_
  intro p e s m args below meth c s₁ B hml hv
  obtain ⟨rfl, hsz, hP, hK, hD0⟩ := hv
  have hx := B.exec
  have hb := B.bytes
  have hr := B.returns
  have hts := atoms_spec (ws := wsX10_node) B.pre
  have hown : s.vm.findClass RX10 = some m.cls := findClass_of_methodNamed B.named
  have hlocks := B.notSynchronized
  subst hsz
  have hD := hD0.self (sz := s.heap.size)
  generalize hAe : va_A [(x0, .inr (10, [.ref w0, .ref z0, .ref xi, .ref xt, .int x_tl, .ref xq, .int x_lc, .ref rdr, .ref h0, .ref t0, .ref q0, .ref v0, .ref m0])), (w0, .inr (9, [.ref tnodes, .ref tpasses, .ref tjars, .ref torders, .ref tfeasts, .ref tway, .int tws, .int tnow, .int tfm, .int tx])), (tnodes, .inr (6, [.int 4, .ref tnodesA, .int tnodesS])), (tnodesA, .inl (kA 0, 48, .inl tnodesF))] s.heap.size = A at hD ⊢
  have hA : ∀ q : Nat, s.heap.size ≤ q → A q := zA_of hAe
  have hS : va_S A s.heap s.heap [] := va_S.rf
  have hP : va_P (dC, dI) vwCl [(x0, .inr (10, [.ref w0, .ref z0, .ref xi, .ref xt, .int x_tl, .ref xq, .int x_lc, .ref rdr, .ref h0, .ref t0, .ref q0, .ref v0, .ref m0])), (w0, .inr (9, [.ref tnodes, .ref tpasses, .ref tjars, .ref torders, .ref tfeasts, .ref tway, .int tws, .int tnow, .int tfm, .int tx])), (tnodes, .inr (6, [.int 4, .ref tnodesA, .int tnodesS])), (tnodesA, .inl (kA 0, 48, .inl tnodesF))] s.heap := hP
  have hl := lv_entry ([.ref x0, .int p0, .int p1, .int p2]) (n := 6) (Nat.le_of_ble_eq_true rfl)
  rw [lg_entry_eq]
  generalize (lg_sl ([.ref x0, .int p0, .int p1, .int p2]) ++ List.replicate (6 - (lg_sl ([.ref x0, .int p0, .int p1, .int p2])).length) Slot.unset).toArray = ls at hl ⊢
  have hl : lv_has ls 6 [(0, .ref x0), (1, .int p0), (2, .int p1), (3, .int p2)] := hl
  obtain ⟨G, hG0⟩ : ∃ G : Int32 × (Nat → Int32), fX10_node_ok tnodesS tnodesF p0 p1 p2 = G := ⟨_, rfl⟩
  have hG := hG0
  unfold fX10_node_ok at hG
  refine lv_iload_n hx hb dX10_node_0 rfl (lv_at hl 1 rfl) ?_
  refine lv_sipush (v := 400) hx hb dX10_node_1 (by decide) ?_
  refine z_i (wr := [(x0, .inr (10, [.ref w0, .ref z0, .ref xi, .ref xt, .int x_tl, .ref xq, .int x_lc, .ref rdr, .ref h0, .ref t0, .ref q0, .ref v0, .ref m0])), (w0, .inr (9, [.ref tnodes, .ref tpasses, .ref tjars, .ref torders, .ref tfeasts, .ref tway, .int tws, .int tnow, .int tfm, .int tx])), (tnodes, .inr (6, [.int 4, .ref tnodesA, .int tnodesS])), (tnodesA, .inl (kA 0, 48, .inl tnodesF))]) (va_runS (As := [.int p0, .int 400]) (rest := []) ⟨hx, hb, hml, hown, hts⟩ (mX10_within l dC dI kA _ p0 400) (va_cwS 2 hts gX10_node_X10_within rfl rfl rfl hdX10_within ⟨(Nat.le_of_ble_eq_true rfl), (Nat.le_of_ble_eq_true rfl)⟩) ⟨zPc.blind, zPre hK (hP.sub [] rfl) (hD.sub [] (by decide) rfl)⟩ rfl rfl hl.1 rfl (lv_room (Nat.le_of_ble_eq_true rfl)) dX10_node_4 ⟨(Nat.le_of_ble_eq_true rfl), (Nat.le_of_ble_eq_true rfl)⟩) hP hD hS hA [] [0, 1, 2, 3] rfl rfl (by decide) (by decide) (fun r3 u1 H locs hw2 hP hD hS => ?_)
  obtain rfl := hw2
  obtain ⟨hP, hD⟩ := z_re (L := [(x0, .inr (10, [.ref w0, .ref z0, .ref xi, .ref xt, .int x_tl, .ref xq, .int x_lc, .ref rdr, .ref h0, .ref t0, .ref q0, .ref v0, .ref m0])), (w0, .inr (9, [.ref tnodes, .ref tpasses, .ref tjars, .ref torders, .ref tfeasts, .ref tway, .int tws, .int tnow, .int tfm, .int tx])), (tnodes, .inr (6, [.int 4, .ref tnodesA, .int tnodesS])), (tnodesA, .inl (kA 0, 48, .inl tnodesF))]) hP hD
  refine lv_if_eq (tgt := 33) hx hb dX10_node_7 (by decide) (fun c_4 => ?_) (fun c_4 => ?_)
  · have hG := zthen hG c_4
    refine lv_iconst (v := 0) hx hb dX10_node_33 (by decide) ?_
    refine lv_istore (lv' := [(4, .int 0), (0, .ref x0), (1, .int p0), (2, .int p1), (3, .int p2)]) hx hb dX10_node_34 hl (by decide) rfl (fun ls hl => ?_)
    refine lv_iload hx hb dX10_node_36 (lv_at hl 0 rfl) ?_
    refine lv_if_eq (tgt := 54) hx hb dX10_node_38 (by decide) (fun _ => ?_) (fun c_5 => absurd (by decide) c_5)
    refine lv_iconst (v := (-1)) hx hb dX10_node_54 (by decide) ?_
    refine lv_istore (lv' := [(5, .int (-1)), (4, .int 0), (0, .ref x0), (1, .int p0), (2, .int p1), (3, .int p2)]) hx hb dX10_node_55 hl (by decide) rfl (fun ls hl => ?_)
    refine lv_iload hx hb dX10_node_57 (lv_at hl 0 rfl) ?_
    refine lv_iconst (v := (-1)) hx hb dX10_node_59 (by decide) ?_
    refine lv_icmp_eq (tgt := 119) hx hb dX10_node_60 (by decide) (fun _ => ?_) (fun c_6 => absurd (by decide) c_6)
    refine lv_iload hx hb dX10_node_119 (lv_at hl 0 rfl) ?_
    obtain ⟨hP9, hD9⟩ := z_sb (L' := [(x0, .inr (10, [.ref w0, .ref z0, .ref xi, .ref xt, .int x_tl, .ref xq, .int x_lc, .ref rdr, .ref h0, .ref t0, .ref q0, .ref v0, .ref m0])), (w0, .inr (9, [.ref tnodes, .ref tpasses, .ref tjars, .ref torders, .ref tfeasts, .ref tway, .int tws, .int tnow, .int tfm, .int tx])), (tnodes, .inr (6, [.int 4, .ref tnodesA, .int tnodesS])), (tnodesA, .inl (kA 0, 48, .inl tnodesF))]) hP hD [0, 1, 2, 3] (by decide) rfl
    refine W.widen (k := 0) (n := 0) (Nat.le_of_ble_eq_true rfl) (Nat.le_of_ble_eq_true rfl) ?_
    exact W.iret (v := (-1)) hx hb hr (fun t ht hW => ⟨⟨(-1), (tnodesS, tnodesF), rfl, ⟨(by simp [sp_nd, c_4, fX6_grow_nodes_ok, bnd]), (hG.trans hG0.symm), (by simp [sp_ndz, c_4, fX6_grow_nodes_ok, bnd])⟩, by rw [ht]; exact hP9, hD9⟩, hS.F ht⟩) hS.2.2 dX10_node_121
  · have hG := zelse hG c_4
    have c_4a := wi_ne c_4
    have c_4b := c_4a.2
    have c_4a := c_4a.1
    refine lv_iload_n hx hb dX10_node_10 rfl (lv_at hl 2 rfl) ?_
    refine lv_sipush (v := 4095) hx hb dX10_node_11 (by decide) ?_
    refine z_i (wr := [(x0, .inr (10, [.ref w0, .ref z0, .ref xi, .ref xt, .int x_tl, .ref xq, .int x_lc, .ref rdr, .ref h0, .ref t0, .ref q0, .ref v0, .ref m0])), (w0, .inr (9, [.ref tnodes, .ref tpasses, .ref tjars, .ref torders, .ref tfeasts, .ref tway, .int tws, .int tnow, .int tfm, .int tx])), (tnodes, .inr (6, [.int 4, .ref tnodesA, .int tnodesS])), (tnodesA, .inl (kA 0, 48, .inl tnodesF))]) (va_runS (As := [.int p1, .int 4095]) (rest := []) ⟨hx, hb, hml, hown, hts⟩ (mX10_within l dC dI kA _ p1 4095) (va_cwS 2 hts gX10_node_X10_within rfl rfl rfl hdX10_within ⟨(Nat.le_of_ble_eq_true rfl), (Nat.le_of_ble_eq_true rfl)⟩) ⟨zPc.blind, zPre hK (hP.sub [] rfl) (hD.sub [] (by decide) rfl)⟩ rfl rfl hl.1 rfl (lv_room (Nat.le_of_ble_eq_true rfl)) dX10_node_14 ⟨(Nat.le_of_ble_eq_true rfl), (Nat.le_of_ble_eq_true rfl)⟩) hP hD hS hA [] [0, 1, 2, 3] rfl rfl (by decide) (by decide) (fun r9 u7 H locs hw8 hP hD hS => ?_)
    obtain rfl := hw8
    obtain ⟨hP, hD⟩ := z_re (L := [(x0, .inr (10, [.ref w0, .ref z0, .ref xi, .ref xt, .int x_tl, .ref xq, .int x_lc, .ref rdr, .ref h0, .ref t0, .ref q0, .ref v0, .ref m0])), (w0, .inr (9, [.ref tnodes, .ref tpasses, .ref tjars, .ref torders, .ref tfeasts, .ref tway, .int tws, .int tnow, .int tfm, .int tx])), (tnodes, .inr (6, [.int 4, .ref tnodesA, .int tnodesS])), (tnodesA, .inl (kA 0, 48, .inl tnodesF))]) hP hD
    refine lv_if_eq (tgt := 33) hx hb dX10_node_17 (by decide) (fun c_10 => ?_) (fun c_10 => ?_)
    · have hG := zthen hG c_10
      refine lv_iconst (v := 0) hx hb dX10_node_33 (by decide) ?_
      refine lv_istore (lv' := [(4, .int 0), (0, .ref x0), (1, .int p0), (2, .int p1), (3, .int p2)]) hx hb dX10_node_34 hl (by decide) rfl (fun ls hl => ?_)
      refine lv_iload hx hb dX10_node_36 (lv_at hl 0 rfl) ?_
      refine lv_if_eq (tgt := 54) hx hb dX10_node_38 (by decide) (fun _ => ?_) (fun c_11 => absurd (by decide) c_11)
      refine lv_iconst (v := (-1)) hx hb dX10_node_54 (by decide) ?_
      refine lv_istore (lv' := [(5, .int (-1)), (4, .int 0), (0, .ref x0), (1, .int p0), (2, .int p1), (3, .int p2)]) hx hb dX10_node_55 hl (by decide) rfl (fun ls hl => ?_)
      refine lv_iload hx hb dX10_node_57 (lv_at hl 0 rfl) ?_
      refine lv_iconst (v := (-1)) hx hb dX10_node_59 (by decide) ?_
      refine lv_icmp_eq (tgt := 119) hx hb dX10_node_60 (by decide) (fun _ => ?_) (fun c_12 => absurd (by decide) c_12)
      refine lv_iload hx hb dX10_node_119 (lv_at hl 0 rfl) ?_
      obtain ⟨hP9, hD9⟩ := z_sb (L' := [(x0, .inr (10, [.ref w0, .ref z0, .ref xi, .ref xt, .int x_tl, .ref xq, .int x_lc, .ref rdr, .ref h0, .ref t0, .ref q0, .ref v0, .ref m0])), (w0, .inr (9, [.ref tnodes, .ref tpasses, .ref tjars, .ref torders, .ref tfeasts, .ref tway, .int tws, .int tnow, .int tfm, .int tx])), (tnodes, .inr (6, [.int 4, .ref tnodesA, .int tnodesS])), (tnodesA, .inl (kA 0, 48, .inl tnodesF))]) hP hD [0, 1, 2, 3] (by decide) rfl
      refine W.widen (k := 0) (n := 0) (Nat.le_of_ble_eq_true rfl) (Nat.le_of_ble_eq_true rfl) ?_
      exact W.iret (v := (-1)) hx hb hr (fun t ht hW => ⟨⟨(-1), (tnodesS, tnodesF), rfl, ⟨(by simp [sp_nd, c_4, c_4a, c_4b, c_10, fX6_grow_nodes_ok, bnd]), (hG.trans hG0.symm), (by simp [sp_ndz, c_4, c_4a, c_4b, c_10, fX6_grow_nodes_ok, bnd])⟩, by rw [ht]; exact hP9, hD9⟩, hS.F ht⟩) hS.2.2 dX10_node_121
    · have hG := zelse hG c_10
      have c_10a := wi_ne c_10
      have c_10b := c_10a.2
      have c_10a := c_10a.1
      refine lv_iload_n hx hb dX10_node_20 rfl (lv_at hl 3 rfl) ?_
      refine lv_bipush (v := 9) hx hb dX10_node_21 (by decide) ?_
      refine z_i (wr := [(x0, .inr (10, [.ref w0, .ref z0, .ref xi, .ref xt, .int x_tl, .ref xq, .int x_lc, .ref rdr, .ref h0, .ref t0, .ref q0, .ref v0, .ref m0])), (w0, .inr (9, [.ref tnodes, .ref tpasses, .ref tjars, .ref torders, .ref tfeasts, .ref tway, .int tws, .int tnow, .int tfm, .int tx])), (tnodes, .inr (6, [.int 4, .ref tnodesA, .int tnodesS])), (tnodesA, .inl (kA 0, 48, .inl tnodesF))]) (va_runS (As := [.int p2, .int 9]) (rest := []) ⟨hx, hb, hml, hown, hts⟩ (mX10_within l dC dI kA _ p2 9) (va_cwS 2 hts gX10_node_X10_within rfl rfl rfl hdX10_within ⟨(Nat.le_of_ble_eq_true rfl), (Nat.le_of_ble_eq_true rfl)⟩) ⟨zPc.blind, zPre hK (hP.sub [] rfl) (hD.sub [] (by decide) rfl)⟩ rfl rfl hl.1 rfl (lv_room (Nat.le_of_ble_eq_true rfl)) dX10_node_23 ⟨(Nat.le_of_ble_eq_true rfl), (Nat.le_of_ble_eq_true rfl)⟩) hP hD hS hA [] [0, 1, 2, 3] rfl rfl (by decide) (by decide) (fun r15 u13 H locs hw14 hP hD hS => ?_)
      obtain rfl := hw14
      obtain ⟨hP, hD⟩ := z_re (L := [(x0, .inr (10, [.ref w0, .ref z0, .ref xi, .ref xt, .int x_tl, .ref xq, .int x_lc, .ref rdr, .ref h0, .ref t0, .ref q0, .ref v0, .ref m0])), (w0, .inr (9, [.ref tnodes, .ref tpasses, .ref tjars, .ref torders, .ref tfeasts, .ref tway, .int tws, .int tnow, .int tfm, .int tx])), (tnodes, .inr (6, [.int 4, .ref tnodesA, .int tnodesS])), (tnodesA, .inl (kA 0, 48, .inl tnodesF))]) hP hD
      refine lv_if_eq (tgt := 33) hx hb dX10_node_26 (by decide) (fun c_16 => ?_) (fun c_16 => ?_)
      · have hG := zthen hG c_16
        refine lv_iconst (v := 0) hx hb dX10_node_33 (by decide) ?_
        refine lv_istore (lv' := [(4, .int 0), (0, .ref x0), (1, .int p0), (2, .int p1), (3, .int p2)]) hx hb dX10_node_34 hl (by decide) rfl (fun ls hl => ?_)
        refine lv_iload hx hb dX10_node_36 (lv_at hl 0 rfl) ?_
        refine lv_if_eq (tgt := 54) hx hb dX10_node_38 (by decide) (fun _ => ?_) (fun c_17 => absurd (by decide) c_17)
        refine lv_iconst (v := (-1)) hx hb dX10_node_54 (by decide) ?_
        refine lv_istore (lv' := [(5, .int (-1)), (4, .int 0), (0, .ref x0), (1, .int p0), (2, .int p1), (3, .int p2)]) hx hb dX10_node_55 hl (by decide) rfl (fun ls hl => ?_)
        refine lv_iload hx hb dX10_node_57 (lv_at hl 0 rfl) ?_
        refine lv_iconst (v := (-1)) hx hb dX10_node_59 (by decide) ?_
        refine lv_icmp_eq (tgt := 119) hx hb dX10_node_60 (by decide) (fun _ => ?_) (fun c_18 => absurd (by decide) c_18)
        refine lv_iload hx hb dX10_node_119 (lv_at hl 0 rfl) ?_
        obtain ⟨hP9, hD9⟩ := z_sb (L' := [(x0, .inr (10, [.ref w0, .ref z0, .ref xi, .ref xt, .int x_tl, .ref xq, .int x_lc, .ref rdr, .ref h0, .ref t0, .ref q0, .ref v0, .ref m0])), (w0, .inr (9, [.ref tnodes, .ref tpasses, .ref tjars, .ref torders, .ref tfeasts, .ref tway, .int tws, .int tnow, .int tfm, .int tx])), (tnodes, .inr (6, [.int 4, .ref tnodesA, .int tnodesS])), (tnodesA, .inl (kA 0, 48, .inl tnodesF))]) hP hD [0, 1, 2, 3] (by decide) rfl
        refine W.widen (k := 0) (n := 0) (Nat.le_of_ble_eq_true rfl) (Nat.le_of_ble_eq_true rfl) ?_
        exact W.iret (v := (-1)) hx hb hr (fun t ht hW => ⟨⟨(-1), (tnodesS, tnodesF), rfl, ⟨(by simp [sp_nd, c_4, c_4a, c_4b, c_10, c_10a, c_10b, c_16, fX6_grow_nodes_ok, bnd]), (hG.trans hG0.symm), (by simp [sp_ndz, c_4, c_4a, c_4b, c_10, c_10a, c_10b, c_16, fX6_grow_nodes_ok, bnd])⟩, by rw [ht]; exact hP9, hD9⟩, hS.F ht⟩) hS.2.2 dX10_node_121
      · have hG := zelse hG c_16
        have c_16a := wi_ne c_16
        have c_16b := c_16a.2
        have c_16a := c_16a.1
        refine lv_iconst (v := 1) hx hb dX10_node_29 (by decide) ?_
        refine lv_goto (tgt := 34) hx hb dX10_node_30 (by decide) ?_
        refine lv_istore (lv' := [(4, .int 1), (0, .ref x0), (1, .int p0), (2, .int p1), (3, .int p2)]) hx hb dX10_node_34 hl (by decide) rfl (fun ls hl => ?_)
        refine lv_iload hx hb dX10_node_36 (lv_at hl 0 rfl) ?_
        refine lv_if_eq (tgt := 54) hx hb dX10_node_38 (by decide) (fun c_19 => absurd c_19 (by decide)) (fun _ => ?_)
        refine lv_aload_n hx hb dX10_node_41 rfl (lv_at hl 1 rfl) ?_
        refine va_get (D := (dC, dI)) (ci := 10) (v := .ref w0) (C := RX10) (T := TX10) (N := 13) hx hb hts iX10_node_X10 hown hK.1 hP 0 gz0 vcz10 0 (by decide) (kX10_node_1 hts) (fun _ h9 => h9) gz0 dX10_node_42 ?_
        refine va_get (D := (dC, dI)) (ci := 9) (v := .ref tnodes) (C := RX9) (T := TX9) (N := 10) hx hb hts iX10_node_X9 hown hK.1 hP 1 gz1 vcz9 0 (by decide) (kX10_node_2 hts) (fun _ h9 => h9) gz0 dX10_node_45 ?_
        refine z_i (wr := [(x0, .inr (10, [.ref w0, .ref z0, .ref xi, .ref xt, .int x_tl, .ref xq, .int x_lc, .ref rdr, .ref h0, .ref t0, .ref q0, .ref v0, .ref m0])), (w0, .inr (9, [.ref tnodes, .ref tpasses, .ref tjars, .ref torders, .ref tfeasts, .ref tway, .int tws, .int tnow, .int tfm, .int tx]))]) (va_runV (As := []) (rest := []) ⟨hx, hb, hml, hown, hts⟩ (mX6_grow_nodes_ok l dC dI kA _ tnodes tnodesA tnodesS tnodesF hz0 hz1) (cwV 0 hts gX10_node_X6_grow rfl rfl rfl ⟨rfl, hdX6_grow⟩ ⟨(Nat.le_of_ble_eq_true rfl), (Nat.le_of_ble_eq_true rfl)⟩) ⟨zPc.blind, va_recv (q := (RX6, TX6, 3)) hK.1 hP (ci := 6) (q0 := 2) rfl rfl, zPre hK (hP.sub [2, 3] rfl) (hD.sub [2, 3] (by decide) rfl)⟩ rfl rfl hl.1 rfl (lv_room (Nat.le_of_ble_eq_true rfl)) dX10_node_48 ⟨(Nat.le_of_ble_eq_true rfl), (Nat.le_of_ble_eq_true rfl)⟩) hP hD hS hA [2, 3] [0, 1] rfl rfl (by decide) (by decide) (fun r22 u20 H locs hw21 hP hD hS => ?_)
        obtain ⟨o23, rfl⟩ : ∃ z, z = u20 := ⟨_, rfl⟩
        obtain ⟨er26, hp24, hp25⟩ := hw21
        have er26 := Eq.symm er26
        subst er26
        have eo23 : o23 = fX6_grow_nodes_ok tnodesS := hp24
        have hG := zbnd hG eo23
        obtain ⟨hP, hD⟩ := z_re (L := [(x0, .inr (10, [.ref w0, .ref z0, .ref xi, .ref xt, .int x_tl, .ref xq, .int x_lc, .ref rdr, .ref h0, .ref t0, .ref q0, .ref v0, .ref m0])), (w0, .inr (9, [.ref tnodes, .ref tpasses, .ref tjars, .ref torders, .ref tfeasts, .ref tway, .int tws, .int tnow, .int tfm, .int tx])), (tnodes, .inr (6, [.int 4, .ref tnodesA, .int o23])), (tnodesA, .inl (kA 0, 48, .inl tnodesF))]) hP hD
        refine lv_goto (tgt := 55) hx hb dX10_node_51 (by decide) ?_
        refine lv_istore (lv' := [(5, .int tnodesS), (4, .int 1), (0, .ref x0), (1, .int p0), (2, .int p1), (3, .int p2)]) hx hb dX10_node_55 hl (by decide) rfl (fun ls hl => ?_)
        refine lv_iload hx hb dX10_node_57 (lv_at hl 0 rfl) ?_
        refine lv_iconst (v := (-1)) hx hb dX10_node_59 (by decide) ?_
        refine lv_icmp_eq (tgt := 119) hx hb dX10_node_60 (by decide) (fun c_28 => ?_) (fun c_28 => ?_)
        · have hG := zthen hG c_28
          refine lv_iload hx hb dX10_node_119 (lv_at hl 0 rfl) ?_
          obtain ⟨hP9, hD9⟩ := z_sb (L' := [(x0, .inr (10, [.ref w0, .ref z0, .ref xi, .ref xt, .int x_tl, .ref xq, .int x_lc, .ref rdr, .ref h0, .ref t0, .ref q0, .ref v0, .ref m0])), (w0, .inr (9, [.ref tnodes, .ref tpasses, .ref tjars, .ref torders, .ref tfeasts, .ref tway, .int tws, .int tnow, .int tfm, .int tx])), (tnodes, .inr (6, [.int 4, .ref tnodesA, .int o23])), (tnodesA, .inl (kA 0, 48, .inl tnodesF))]) hP hD [0, 1, 2, 3] (by decide) rfl
          refine W.widen (k := 0) (n := 0) (Nat.le_of_ble_eq_true rfl) (Nat.le_of_ble_eq_true rfl) ?_
          exact W.iret (v := tnodesS) hx hb hr (fun t ht hW => ⟨⟨tnodesS, (o23, tnodesF), rfl, ⟨(by simp [sp_nd, c_4, c_4a, c_4b, c_10, c_10a, c_10b, c_16, c_16a, c_16b, hp24, hp25, c_28, fX6_grow_nodes_ok, bnd]), (hG.trans hG0.symm), (by simp [sp_ndz, c_4, c_4a, c_4b, c_10, c_10a, c_10b, c_16, c_16a, c_16b, hp24, hp25, c_28, fX6_grow_nodes_ok, bnd])⟩, by rw [ht]; exact hP9, hD9⟩, hS.F ht⟩) hS.2.2 dX10_node_121
        · have hG := zelse hG c_28
          refine lv_aload_n hx hb dX10_node_63 rfl (lv_at hl 2 rfl) ?_
          refine va_get (D := (dC, dI)) (ci := 10) (v := .ref w0) (C := RX10) (T := TX10) (N := 13) hx hb hts iX10_node_X10 hown hK.1 hP 0 gz0 vcz10 0 (by decide) (kX10_node_1 hts) (fun _ h9 => h9) gz0 dX10_node_64 ?_
          refine va_get (D := (dC, dI)) (ci := 9) (v := .ref tnodes) (C := RX9) (T := TX9) (N := 10) hx hb hts iX10_node_X9 hown hK.1 hP 1 gz1 vcz9 0 (by decide) (kX10_node_2 hts) (fun _ h9 => h9) gz0 dX10_node_67 ?_
          refine lv_iload hx hb dX10_node_70 (lv_at hl 0 rfl) ?_
          refine lv_iconst (v := 0) hx hb dX10_node_72 (by decide) ?_
          refine lv_iload_n hx hb dX10_node_73 rfl (lv_at hl 3 rfl) ?_
          refine z_v (wr := [(x0, .inr (10, [.ref w0, .ref z0, .ref xi, .ref xt, .int x_tl, .ref xq, .int x_lc, .ref rdr, .ref h0, .ref t0, .ref q0, .ref v0, .ref m0])), (w0, .inr (9, [.ref tnodes, .ref tpasses, .ref tjars, .ref torders, .ref tfeasts, .ref tway, .int tws, .int tnow, .int tfm, .int tx]))]) (va_runV (As := [.int tnodesS, .int 0, .int p0]) (rest := []) ⟨hx, hb, hml, hown, hts⟩ (mX6_put_48 l dC dI kA _ tnodes tnodesA 4 o23 tnodesF tnodesS 0 p0) (cwV 3 hts gX10_node_X6_put rfl rfl rfl ⟨rfl, hdX6_put⟩ ⟨(Nat.le_of_ble_eq_true rfl), (Nat.le_of_ble_eq_true rfl)⟩) ⟨zPc.blind, va_recv (q := (RX6, TX6, 3)) hK.1 hP (ci := 6) (q0 := 2) rfl rfl, zPre hK (hP.sub [2, 3] rfl) (hD.sub [2, 3] (by decide) rfl)⟩ rfl rfl hl.1 rfl (lv_room (Nat.le_of_ble_eq_true rfl)) dX10_node_74 ⟨(Nat.le_of_ble_eq_true rfl), (Nat.le_of_ble_eq_true rfl)⟩) hP hD hS hA [2, 3] [0, 1] rfl rfl (by decide) (by decide) (fun u29 H locs hw30 hP hD hS => ?_)
          obtain ⟨o32, rfl⟩ : ∃ z, z = u29 := ⟨_, rfl⟩
          have hp33 := hw30
          have eo32 : o32 = fX6_put_48 4 tnodesF tnodesS 0 p0 := hp33
          have hG := zbnd hG eo32
          obtain ⟨hP, hD⟩ := z_re (L := [(x0, .inr (10, [.ref w0, .ref z0, .ref xi, .ref xt, .int x_tl, .ref xq, .int x_lc, .ref rdr, .ref h0, .ref t0, .ref q0, .ref v0, .ref m0])), (w0, .inr (9, [.ref tnodes, .ref tpasses, .ref tjars, .ref torders, .ref tfeasts, .ref tway, .int tws, .int tnow, .int tfm, .int tx])), (tnodes, .inr (6, [.int 4, .ref tnodesA, .int o23])), (tnodesA, .inl (kA 0, 48, .inl o32))]) hP hD
          refine lv_aload_n hx hb dX10_node_77 rfl (lv_at hl 2 rfl) ?_
          refine va_get (D := (dC, dI)) (ci := 10) (v := .ref w0) (C := RX10) (T := TX10) (N := 13) hx hb hts iX10_node_X10 hown hK.1 hP 0 gz0 vcz10 0 (by decide) (kX10_node_1 hts) (fun _ h9 => h9) gz0 dX10_node_78 ?_
          refine va_get (D := (dC, dI)) (ci := 9) (v := .ref tnodes) (C := RX9) (T := TX9) (N := 10) hx hb hts iX10_node_X9 hown hK.1 hP 1 gz1 vcz9 0 (by decide) (kX10_node_2 hts) (fun _ h9 => h9) gz0 dX10_node_81 ?_
          refine lv_iload hx hb dX10_node_84 (lv_at hl 0 rfl) ?_
          refine lv_iconst (v := 1) hx hb dX10_node_86 (by decide) ?_
          refine lv_iload_n hx hb dX10_node_87 rfl (lv_at hl 4 rfl) ?_
          refine z_v (wr := [(x0, .inr (10, [.ref w0, .ref z0, .ref xi, .ref xt, .int x_tl, .ref xq, .int x_lc, .ref rdr, .ref h0, .ref t0, .ref q0, .ref v0, .ref m0])), (w0, .inr (9, [.ref tnodes, .ref tpasses, .ref tjars, .ref torders, .ref tfeasts, .ref tway, .int tws, .int tnow, .int tfm, .int tx]))]) (va_runV (As := [.int tnodesS, .int 1, .int p1]) (rest := []) ⟨hx, hb, hml, hown, hts⟩ (mX6_put_48 l dC dI kA _ tnodes tnodesA 4 o23 o32 tnodesS 1 p1) (cwV 3 hts gX10_node_X6_put rfl rfl rfl ⟨rfl, hdX6_put⟩ ⟨(Nat.le_of_ble_eq_true rfl), (Nat.le_of_ble_eq_true rfl)⟩) ⟨zPc.blind, va_recv (q := (RX6, TX6, 3)) hK.1 hP (ci := 6) (q0 := 2) rfl rfl, zPre hK (hP.sub [2, 3] rfl) (hD.sub [2, 3] (by decide) rfl)⟩ rfl rfl hl.1 rfl (lv_room (Nat.le_of_ble_eq_true rfl)) dX10_node_88 ⟨(Nat.le_of_ble_eq_true rfl), (Nat.le_of_ble_eq_true rfl)⟩) hP hD hS hA [2, 3] [0, 1] rfl rfl (by decide) (by decide) (fun u35 H locs hw36 hP hD hS => ?_)
          obtain ⟨o38, rfl⟩ : ∃ z, z = u35 := ⟨_, rfl⟩
          have hp39 := hw36
          have eo38 : o38 = fX6_put_48 4 o32 tnodesS 1 p1 := hp39
          have hG := zbnd hG eo38
          obtain ⟨hP, hD⟩ := z_re (L := [(x0, .inr (10, [.ref w0, .ref z0, .ref xi, .ref xt, .int x_tl, .ref xq, .int x_lc, .ref rdr, .ref h0, .ref t0, .ref q0, .ref v0, .ref m0])), (w0, .inr (9, [.ref tnodes, .ref tpasses, .ref tjars, .ref torders, .ref tfeasts, .ref tway, .int tws, .int tnow, .int tfm, .int tx])), (tnodes, .inr (6, [.int 4, .ref tnodesA, .int o23])), (tnodesA, .inl (kA 0, 48, .inl o38))]) hP hD
          refine lv_aload_n hx hb dX10_node_91 rfl (lv_at hl 2 rfl) ?_
          refine va_get (D := (dC, dI)) (ci := 10) (v := .ref w0) (C := RX10) (T := TX10) (N := 13) hx hb hts iX10_node_X10 hown hK.1 hP 0 gz0 vcz10 0 (by decide) (kX10_node_1 hts) (fun _ h9 => h9) gz0 dX10_node_92 ?_
          refine va_get (D := (dC, dI)) (ci := 9) (v := .ref tnodes) (C := RX9) (T := TX9) (N := 10) hx hb hts iX10_node_X9 hown hK.1 hP 1 gz1 vcz9 0 (by decide) (kX10_node_2 hts) (fun _ h9 => h9) gz0 dX10_node_95 ?_
          refine lv_iload hx hb dX10_node_98 (lv_at hl 0 rfl) ?_
          refine lv_iconst (v := 2) hx hb dX10_node_100 (by decide) ?_
          refine lv_iload_n hx hb dX10_node_101 rfl (lv_at hl 5 rfl) ?_
          refine z_v (wr := [(x0, .inr (10, [.ref w0, .ref z0, .ref xi, .ref xt, .int x_tl, .ref xq, .int x_lc, .ref rdr, .ref h0, .ref t0, .ref q0, .ref v0, .ref m0])), (w0, .inr (9, [.ref tnodes, .ref tpasses, .ref tjars, .ref torders, .ref tfeasts, .ref tway, .int tws, .int tnow, .int tfm, .int tx]))]) (va_runV (As := [.int tnodesS, .int 2, .int p2]) (rest := []) ⟨hx, hb, hml, hown, hts⟩ (mX6_put_48 l dC dI kA _ tnodes tnodesA 4 o23 o38 tnodesS 2 p2) (cwV 3 hts gX10_node_X6_put rfl rfl rfl ⟨rfl, hdX6_put⟩ ⟨(Nat.le_of_ble_eq_true rfl), (Nat.le_of_ble_eq_true rfl)⟩) ⟨zPc.blind, va_recv (q := (RX6, TX6, 3)) hK.1 hP (ci := 6) (q0 := 2) rfl rfl, zPre hK (hP.sub [2, 3] rfl) (hD.sub [2, 3] (by decide) rfl)⟩ rfl rfl hl.1 rfl (lv_room (Nat.le_of_ble_eq_true rfl)) dX10_node_102 ⟨(Nat.le_of_ble_eq_true rfl), (Nat.le_of_ble_eq_true rfl)⟩) hP hD hS hA [2, 3] [0, 1] rfl rfl (by decide) (by decide) (fun u41 H locs hw42 hP hD hS => ?_)
          obtain ⟨o44, rfl⟩ : ∃ z, z = u41 := ⟨_, rfl⟩
          have hp45 := hw42
          have eo44 : o44 = fX6_put_48 4 o38 tnodesS 2 p2 := hp45
          have hG := zbnd hG eo44
          obtain ⟨hP, hD⟩ := z_re (L := [(x0, .inr (10, [.ref w0, .ref z0, .ref xi, .ref xt, .int x_tl, .ref xq, .int x_lc, .ref rdr, .ref h0, .ref t0, .ref q0, .ref v0, .ref m0])), (w0, .inr (9, [.ref tnodes, .ref tpasses, .ref tjars, .ref torders, .ref tfeasts, .ref tway, .int tws, .int tnow, .int tfm, .int tx])), (tnodes, .inr (6, [.int 4, .ref tnodesA, .int o23])), (tnodesA, .inl (kA 0, 48, .inl o44))]) hP hD
          refine lv_aload_n hx hb dX10_node_105 rfl (lv_at hl 2 rfl) ?_
          refine va_get (D := (dC, dI)) (ci := 10) (v := .ref w0) (C := RX10) (T := TX10) (N := 13) hx hb hts iX10_node_X10 hown hK.1 hP 0 gz0 vcz10 0 (by decide) (kX10_node_1 hts) (fun _ h9 => h9) gz0 dX10_node_106 ?_
          refine va_get (D := (dC, dI)) (ci := 9) (v := .ref tnodes) (C := RX9) (T := TX9) (N := 10) hx hb hts iX10_node_X9 hown hK.1 hP 1 gz1 vcz9 0 (by decide) (kX10_node_2 hts) (fun _ h9 => h9) gz0 dX10_node_109 ?_
          refine lv_iload hx hb dX10_node_112 (lv_at hl 0 rfl) ?_
          refine lv_iconst (v := 3) hx hb dX10_node_114 (by decide) ?_
          refine lv_iconst (v := 0) hx hb dX10_node_115 (by decide) ?_
          refine z_v (wr := [(x0, .inr (10, [.ref w0, .ref z0, .ref xi, .ref xt, .int x_tl, .ref xq, .int x_lc, .ref rdr, .ref h0, .ref t0, .ref q0, .ref v0, .ref m0])), (w0, .inr (9, [.ref tnodes, .ref tpasses, .ref tjars, .ref torders, .ref tfeasts, .ref tway, .int tws, .int tnow, .int tfm, .int tx]))]) (va_runV (As := [.int tnodesS, .int 3, .int 0]) (rest := []) ⟨hx, hb, hml, hown, hts⟩ (mX6_put_48 l dC dI kA _ tnodes tnodesA 4 o23 o44 tnodesS 3 0) (cwV 3 hts gX10_node_X6_put rfl rfl rfl ⟨rfl, hdX6_put⟩ ⟨(Nat.le_of_ble_eq_true rfl), (Nat.le_of_ble_eq_true rfl)⟩) ⟨zPc.blind, va_recv (q := (RX6, TX6, 3)) hK.1 hP (ci := 6) (q0 := 2) rfl rfl, zPre hK (hP.sub [2, 3] rfl) (hD.sub [2, 3] (by decide) rfl)⟩ rfl rfl hl.1 rfl (lv_room (Nat.le_of_ble_eq_true rfl)) dX10_node_116 ⟨(Nat.le_of_ble_eq_true rfl), (Nat.le_of_ble_eq_true rfl)⟩) hP hD hS hA [2, 3] [0, 1] rfl rfl (by decide) (by decide) (fun u47 H locs hw48 hP hD hS => ?_)
          obtain ⟨o50, rfl⟩ : ∃ z, z = u47 := ⟨_, rfl⟩
          have hp51 := hw48
          have eo50 : o50 = fX6_put_48 4 o44 tnodesS 3 0 := hp51
          have hG := zbnd hG eo50
          obtain ⟨hP, hD⟩ := z_re (L := [(x0, .inr (10, [.ref w0, .ref z0, .ref xi, .ref xt, .int x_tl, .ref xq, .int x_lc, .ref rdr, .ref h0, .ref t0, .ref q0, .ref v0, .ref m0])), (w0, .inr (9, [.ref tnodes, .ref tpasses, .ref tjars, .ref torders, .ref tfeasts, .ref tway, .int tws, .int tnow, .int tfm, .int tx])), (tnodes, .inr (6, [.int 4, .ref tnodesA, .int o23])), (tnodesA, .inl (kA 0, 48, .inl o50))]) hP hD
          refine lv_iload hx hb dX10_node_119 (lv_at hl 0 rfl) ?_
          obtain ⟨hP9, hD9⟩ := z_sb (L' := [(x0, .inr (10, [.ref w0, .ref z0, .ref xi, .ref xt, .int x_tl, .ref xq, .int x_lc, .ref rdr, .ref h0, .ref t0, .ref q0, .ref v0, .ref m0])), (w0, .inr (9, [.ref tnodes, .ref tpasses, .ref tjars, .ref torders, .ref tfeasts, .ref tway, .int tws, .int tnow, .int tfm, .int tx])), (tnodes, .inr (6, [.int 4, .ref tnodesA, .int o23])), (tnodesA, .inl (kA 0, 48, .inl o50))]) hP hD [0, 1, 2, 3] (by decide) rfl
          refine W.widen (k := 0) (n := 0) (Nat.le_of_ble_eq_true rfl) (Nat.le_of_ble_eq_true rfl) ?_
          exact W.iret (v := tnodesS) hx hb hr (fun t ht hW => ⟨⟨tnodesS, (o23, o50), rfl, ⟨(by simp [sp_nd, c_4, c_4a, c_4b, c_10, c_10a, c_10b, c_16, c_16a, c_16b, hp24, hp25, c_28, hp33, hp39, hp45, hp51, fX6_grow_nodes_ok, bnd]), (hG.trans hG0.symm), (by simp [sp_ndz, c_4, c_4a, c_4b, c_10, c_10a, c_10b, c_16, c_16a, c_16b, hp24, hp25, c_28, hp33, hp39, hp45, hp51, fX6_grow_nodes_ok, bnd])⟩, by rw [ht]; exact hP9, hD9⟩, hS.F ht⟩) hS.2.2 dX10_node_121
set_option maxHeartbeats 4000000 in
set_option maxRecDepth 100000 in
theorem mX10_node_full (l : Launch) (dC : Nat → ClassId) (dI : Nat → Nat → Nat) (kA : Nat → ClassId) (sz : Nat) (x0 : Nat) (z0 : Nat) (xi : Nat) (xt : Nat) (xq : Nat) (rdr : Nat) (h0 : Nat) (t0 : Nat) (q0 : Nat) (v0 : Nat) (m0 : Nat) (w0 : Nat) (x_tl : Int32) (x_lc : Int32) (tnodes : Nat) (tnodesA : Nat) (tnodesF : Nat → Int32) (tpasses : Nat) (tjars : Nat) (torders : Nat) (tfeasts : Nat) (tway : Nat) (tws : Int32) (tnow : Int32) (tfm : Int32) (tx : Int32) (p0 : Int32) (p1 : Int32) (p2 : Int32)  : Met l yX10_node wsX10_node ({ frames := 1, cells := 0, slots := 0, locals := 21 }) (zPc dC dI kA sz [.ref x0, .int p0, .int p1, .int p2] [(x0, .inr (10, [.ref w0, .ref z0, .ref xi, .ref xt, .int x_tl, .ref xq, .int x_lc, .ref rdr, .ref h0, .ref t0, .ref q0, .ref v0, .ref m0])), (w0, .inr (9, [.ref tnodes, .ref tpasses, .ref tjars, .ref torders, .ref tfeasts, .ref tway, .int tws, .int tnow, .int tfm, .int tx])), (tnodes, .inr (6, [.int 4, .ref tnodesA, .int 12])), (tnodesA, .inl (kA 0, 48, .inl tnodesF))]) (va_Qi (fun (r : Int32) (u : Unit) => r = (-1)) (zB dC dI (va_A [(x0, .inr (10, [.ref w0, .ref z0, .ref xi, .ref xt, .int x_tl, .ref xq, .int x_lc, .ref rdr, .ref h0, .ref t0, .ref q0, .ref v0, .ref m0])), (w0, .inr (9, [.ref tnodes, .ref tpasses, .ref tjars, .ref torders, .ref tfeasts, .ref tway, .int tws, .int tnow, .int tfm, .int tx])), (tnodes, .inr (6, [.int 4, .ref tnodesA, .int 12])), (tnodesA, .inl (kA 0, 48, .inl tnodesF))] sz) (fun (u : Unit) => [(x0, .inr (10, [.ref w0, .ref z0, .ref xi, .ref xt, .int x_tl, .ref xq, .int x_lc, .ref rdr, .ref h0, .ref t0, .ref q0, .ref v0, .ref m0])), (w0, .inr (9, [.ref tnodes, .ref tpasses, .ref tjars, .ref torders, .ref tfeasts, .ref tway, .int tws, .int tnow, .int tfm, .int tx])), (tnodes, .inr (6, [.int 4, .ref tnodesA, .int 12])), (tnodesA, .inl (kA 0, 48, .inl tnodesF))])) (va_A [(x0, .inr (10, [.ref w0, .ref z0, .ref xi, .ref xt, .int x_tl, .ref xq, .int x_lc, .ref rdr, .ref h0, .ref t0, .ref q0, .ref v0, .ref m0])), (w0, .inr (9, [.ref tnodes, .ref tpasses, .ref tjars, .ref torders, .ref tfeasts, .ref tway, .int tws, .int tnow, .int tfm, .int tx])), (tnodes, .inr (6, [.int 4, .ref tnodesA, .int 12])), (tnodesA, .inl (kA 0, 48, .inl tnodesF))] sz)) 0 0 (va_A [(x0, .inr (10, [.ref w0, .ref z0, .ref xi, .ref xt, .int x_tl, .ref xq, .int x_lc, .ref rdr, .ref h0, .ref t0, .ref q0, .ref v0, .ref m0])), (w0, .inr (9, [.ref tnodes, .ref tpasses, .ref tjars, .ref torders, .ref tfeasts, .ref tway, .int tws, .int tnow, .int tfm, .int tx])), (tnodes, .inr (6, [.int 4, .ref tnodesA, .int 12])), (tnodesA, .inl (kA 0, 48, .inl tnodesF))] sz) := by
  refine Met.ofW (cc := cX10_node) (maxL := 6) (ret := (some .int)) pnX10 rfl ?_
  intro p e s m args below meth c s₁ B hml hv
  obtain ⟨rfl, hsz, hP, hK, hD0⟩ := hv
  have hx := B.exec
  have hb := B.bytes
  have hr := B.returns
  have hts := atoms_spec (ws := wsX10_node) B.pre
  have hown : s.vm.findClass RX10 = some m.cls := findClass_of_methodNamed B.named
  have hlocks := B.notSynchronized
  subst hsz
  have hD := hD0.self (sz := s.heap.size)
  generalize hAe : va_A [(x0, .inr (10, [.ref w0, .ref z0, .ref xi, .ref xt, .int x_tl, .ref xq, .int x_lc, .ref rdr, .ref h0, .ref t0, .ref q0, .ref v0, .ref m0])), (w0, .inr (9, [.ref tnodes, .ref tpasses, .ref tjars, .ref torders, .ref tfeasts, .ref tway, .int tws, .int tnow, .int tfm, .int tx])), (tnodes, .inr (6, [.int 4, .ref tnodesA, .int 12])), (tnodesA, .inl (kA 0, 48, .inl tnodesF))] s.heap.size = A at hD ⊢
  have hA : ∀ q : Nat, s.heap.size ≤ q → A q := zA_of hAe
  have hS : va_S A s.heap s.heap [] := va_S.rf
  have hP : va_P (dC, dI) vwCl [(x0, .inr (10, [.ref w0, .ref z0, .ref xi, .ref xt, .int x_tl, .ref xq, .int x_lc, .ref rdr, .ref h0, .ref t0, .ref q0, .ref v0, .ref m0])), (w0, .inr (9, [.ref tnodes, .ref tpasses, .ref tjars, .ref torders, .ref tfeasts, .ref tway, .int tws, .int tnow, .int tfm, .int tx])), (tnodes, .inr (6, [.int 4, .ref tnodesA, .int 12])), (tnodesA, .inl (kA 0, 48, .inl tnodesF))] s.heap := hP
  have hl := lv_entry ([.ref x0, .int p0, .int p1, .int p2]) (n := 6) (Nat.le_of_ble_eq_true rfl)
  rw [lg_entry_eq]
  generalize (lg_sl ([.ref x0, .int p0, .int p1, .int p2]) ++ List.replicate (6 - (lg_sl ([.ref x0, .int p0, .int p1, .int p2])).length) Slot.unset).toArray = ls at hl ⊢
  have hl : lv_has ls 6 [(0, .ref x0), (1, .int p0), (2, .int p1), (3, .int p2)] := hl
  refine lv_iload_n hx hb dX10_node_0 rfl (lv_at hl 1 rfl) ?_
  refine lv_sipush (v := 400) hx hb dX10_node_1 (by decide) ?_
  refine z_i (wr := [(x0, .inr (10, [.ref w0, .ref z0, .ref xi, .ref xt, .int x_tl, .ref xq, .int x_lc, .ref rdr, .ref h0, .ref t0, .ref q0, .ref v0, .ref m0])), (w0, .inr (9, [.ref tnodes, .ref tpasses, .ref tjars, .ref torders, .ref tfeasts, .ref tway, .int tws, .int tnow, .int tfm, .int tx])), (tnodes, .inr (6, [.int 4, .ref tnodesA, .int 12])), (tnodesA, .inl (kA 0, 48, .inl tnodesF))]) (va_runS (As := [.int p0, .int 400]) (rest := []) ⟨hx, hb, hml, hown, hts⟩ (mX10_within l dC dI kA _ p0 400) (va_cwS 2 hts gX10_node_X10_within rfl rfl rfl hdX10_within ⟨(Nat.le_of_ble_eq_true rfl), (Nat.le_of_ble_eq_true rfl)⟩) ⟨zPc.blind, zPre hK (hP.sub [] rfl) (hD.sub [] (by decide) rfl)⟩ rfl rfl hl.1 rfl (lv_room (Nat.le_of_ble_eq_true rfl)) dX10_node_4 ⟨(Nat.le_of_ble_eq_true rfl), (Nat.le_of_ble_eq_true rfl)⟩) hP hD hS hA [] [0, 1, 2, 3] rfl rfl (by decide) (by decide) (fun r3 u1 H locs hw2 hP hD hS => ?_)
  obtain rfl := hw2
  obtain ⟨hP, hD⟩ := z_re (L := [(x0, .inr (10, [.ref w0, .ref z0, .ref xi, .ref xt, .int x_tl, .ref xq, .int x_lc, .ref rdr, .ref h0, .ref t0, .ref q0, .ref v0, .ref m0])), (w0, .inr (9, [.ref tnodes, .ref tpasses, .ref tjars, .ref torders, .ref tfeasts, .ref tway, .int tws, .int tnow, .int tfm, .int tx])), (tnodes, .inr (6, [.int 4, .ref tnodesA, .int 12])), (tnodesA, .inl (kA 0, 48, .inl tnodesF))]) hP hD
  refine lv_if_eq (tgt := 33) hx hb dX10_node_7 (by decide) (fun c_4 => ?_) (fun c_4 => ?_)
  · refine lv_iconst (v := 0) hx hb dX10_node_33 (by decide) ?_
    refine lv_istore (lv' := [(4, .int 0), (0, .ref x0), (1, .int p0), (2, .int p1), (3, .int p2)]) hx hb dX10_node_34 hl (by decide) rfl (fun ls hl => ?_)
    refine lv_iload hx hb dX10_node_36 (lv_at hl 0 rfl) ?_
    refine lv_if_eq (tgt := 54) hx hb dX10_node_38 (by decide) (fun _ => ?_) (fun c_5 => absurd (by decide) c_5)
    refine lv_iconst (v := (-1)) hx hb dX10_node_54 (by decide) ?_
    refine lv_istore (lv' := [(5, .int (-1)), (4, .int 0), (0, .ref x0), (1, .int p0), (2, .int p1), (3, .int p2)]) hx hb dX10_node_55 hl (by decide) rfl (fun ls hl => ?_)
    refine lv_iload hx hb dX10_node_57 (lv_at hl 0 rfl) ?_
    refine lv_iconst (v := (-1)) hx hb dX10_node_59 (by decide) ?_
    refine lv_icmp_eq (tgt := 119) hx hb dX10_node_60 (by decide) (fun _ => ?_) (fun c_6 => absurd (by decide) c_6)
    refine lv_iload hx hb dX10_node_119 (lv_at hl 0 rfl) ?_
    obtain ⟨hP9, hD9⟩ := z_sb (L' := [(x0, .inr (10, [.ref w0, .ref z0, .ref xi, .ref xt, .int x_tl, .ref xq, .int x_lc, .ref rdr, .ref h0, .ref t0, .ref q0, .ref v0, .ref m0])), (w0, .inr (9, [.ref tnodes, .ref tpasses, .ref tjars, .ref torders, .ref tfeasts, .ref tway, .int tws, .int tnow, .int tfm, .int tx])), (tnodes, .inr (6, [.int 4, .ref tnodesA, .int 12])), (tnodesA, .inl (kA 0, 48, .inl tnodesF))]) hP hD [0, 1, 2, 3] (by decide) rfl
    refine W.widen (k := 0) (n := 0) (Nat.le_of_ble_eq_true rfl) (Nat.le_of_ble_eq_true rfl) ?_
    exact W.iret (v := (-1)) hx hb hr (fun t ht hW => ⟨⟨(-1), (), rfl, rfl, by rw [ht]; exact hP9, hD9⟩, hS.F ht⟩) hS.2.2 dX10_node_121
  · have c_4a := wi_ne c_4
    have c_4b := c_4a.2
    have c_4a := c_4a.1
    refine lv_iload_n hx hb dX10_node_10 rfl (lv_at hl 2 rfl) ?_
    refine lv_sipush (v := 4095) hx hb dX10_node_11 (by decide) ?_
    refine z_i (wr := [(x0, .inr (10, [.ref w0, .ref z0, .ref xi, .ref xt, .int x_tl, .ref xq, .int x_lc, .ref rdr, .ref h0, .ref t0, .ref q0, .ref v0, .ref m0])), (w0, .inr (9, [.ref tnodes, .ref tpasses, .ref tjars, .ref torders, .ref tfeasts, .ref tway, .int tws, .int tnow, .int tfm, .int tx])), (tnodes, .inr (6, [.int 4, .ref tnodesA, .int 12])), (tnodesA, .inl (kA 0, 48, .inl tnodesF))]) (va_runS (As := [.int p1, .int 4095]) (rest := []) ⟨hx, hb, hml, hown, hts⟩ (mX10_within l dC dI kA _ p1 4095) (va_cwS 2 hts gX10_node_X10_within rfl rfl rfl hdX10_within ⟨(Nat.le_of_ble_eq_true rfl), (Nat.le_of_ble_eq_true rfl)⟩) ⟨zPc.blind, zPre hK (hP.sub [] rfl) (hD.sub [] (by decide) rfl)⟩ rfl rfl hl.1 rfl (lv_room (Nat.le_of_ble_eq_true rfl)) dX10_node_14 ⟨(Nat.le_of_ble_eq_true rfl), (Nat.le_of_ble_eq_true rfl)⟩) hP hD hS hA [] [0, 1, 2, 3] rfl rfl (by decide) (by decide) (fun r9 u7 H locs hw8 hP hD hS => ?_)
    obtain rfl := hw8
    obtain ⟨hP, hD⟩ := z_re (L := [(x0, .inr (10, [.ref w0, .ref z0, .ref xi, .ref xt, .int x_tl, .ref xq, .int x_lc, .ref rdr, .ref h0, .ref t0, .ref q0, .ref v0, .ref m0])), (w0, .inr (9, [.ref tnodes, .ref tpasses, .ref tjars, .ref torders, .ref tfeasts, .ref tway, .int tws, .int tnow, .int tfm, .int tx])), (tnodes, .inr (6, [.int 4, .ref tnodesA, .int 12])), (tnodesA, .inl (kA 0, 48, .inl tnodesF))]) hP hD
    refine lv_if_eq (tgt := 33) hx hb dX10_node_17 (by decide) (fun c_10 => ?_) (fun c_10 => ?_)
    · refine lv_iconst (v := 0) hx hb dX10_node_33 (by decide) ?_
      refine lv_istore (lv' := [(4, .int 0), (0, .ref x0), (1, .int p0), (2, .int p1), (3, .int p2)]) hx hb dX10_node_34 hl (by decide) rfl (fun ls hl => ?_)
      refine lv_iload hx hb dX10_node_36 (lv_at hl 0 rfl) ?_
      refine lv_if_eq (tgt := 54) hx hb dX10_node_38 (by decide) (fun _ => ?_) (fun c_11 => absurd (by decide) c_11)
      refine lv_iconst (v := (-1)) hx hb dX10_node_54 (by decide) ?_
      refine lv_istore (lv' := [(5, .int (-1)), (4, .int 0), (0, .ref x0), (1, .int p0), (2, .int p1), (3, .int p2)]) hx hb dX10_node_55 hl (by decide) rfl (fun ls hl => ?_)
      refine lv_iload hx hb dX10_node_57 (lv_at hl 0 rfl) ?_
      refine lv_iconst (v := (-1)) hx hb dX10_node_59 (by decide) ?_
      refine lv_icmp_eq (tgt := 119) hx hb dX10_node_60 (by decide) (fun _ => ?_) (fun c_12 => absurd (by decide) c_12)
      refine lv_iload hx hb dX10_node_119 (lv_at hl 0 rfl) ?_
      obtain ⟨hP9, hD9⟩ := z_sb (L' := [(x0, .inr (10, [.ref w0, .ref z0, .ref xi, .ref xt, .int x_tl, .ref xq, .int x_lc, .ref rdr, .ref h0, .ref t0, .ref q0, .ref v0, .ref m0])), (w0, .inr (9, [.ref tnodes, .ref tpasses, .ref tjars, .ref torders, .ref tfeasts, .ref tway, .int tws, .int tnow, .int tfm, .int tx])), (tnodes, .inr (6, [.int 4, .ref tnodesA, .int 12])), (tnodesA, .inl (kA 0, 48, .inl tnodesF))]) hP hD [0, 1, 2, 3] (by decide) rfl
      refine W.widen (k := 0) (n := 0) (Nat.le_of_ble_eq_true rfl) (Nat.le_of_ble_eq_true rfl) ?_
      exact W.iret (v := (-1)) hx hb hr (fun t ht hW => ⟨⟨(-1), (), rfl, rfl, by rw [ht]; exact hP9, hD9⟩, hS.F ht⟩) hS.2.2 dX10_node_121
    · have c_10a := wi_ne c_10
      have c_10b := c_10a.2
      have c_10a := c_10a.1
      refine lv_iload_n hx hb dX10_node_20 rfl (lv_at hl 3 rfl) ?_
      refine lv_bipush (v := 9) hx hb dX10_node_21 (by decide) ?_
      refine z_i (wr := [(x0, .inr (10, [.ref w0, .ref z0, .ref xi, .ref xt, .int x_tl, .ref xq, .int x_lc, .ref rdr, .ref h0, .ref t0, .ref q0, .ref v0, .ref m0])), (w0, .inr (9, [.ref tnodes, .ref tpasses, .ref tjars, .ref torders, .ref tfeasts, .ref tway, .int tws, .int tnow, .int tfm, .int tx])), (tnodes, .inr (6, [.int 4, .ref tnodesA, .int 12])), (tnodesA, .inl (kA 0, 48, .inl tnodesF))]) (va_runS (As := [.int p2, .int 9]) (rest := []) ⟨hx, hb, hml, hown, hts⟩ (mX10_within l dC dI kA _ p2 9) (va_cwS 2 hts gX10_node_X10_within rfl rfl rfl hdX10_within ⟨(Nat.le_of_ble_eq_true rfl), (Nat.le_of_ble_eq_true rfl)⟩) ⟨zPc.blind, zPre hK (hP.sub [] rfl) (hD.sub [] (by decide) rfl)⟩ rfl rfl hl.1 rfl (lv_room (Nat.le_of_ble_eq_true rfl)) dX10_node_23 ⟨(Nat.le_of_ble_eq_true rfl), (Nat.le_of_ble_eq_true rfl)⟩) hP hD hS hA [] [0, 1, 2, 3] rfl rfl (by decide) (by decide) (fun r15 u13 H locs hw14 hP hD hS => ?_)
      obtain rfl := hw14
      obtain ⟨hP, hD⟩ := z_re (L := [(x0, .inr (10, [.ref w0, .ref z0, .ref xi, .ref xt, .int x_tl, .ref xq, .int x_lc, .ref rdr, .ref h0, .ref t0, .ref q0, .ref v0, .ref m0])), (w0, .inr (9, [.ref tnodes, .ref tpasses, .ref tjars, .ref torders, .ref tfeasts, .ref tway, .int tws, .int tnow, .int tfm, .int tx])), (tnodes, .inr (6, [.int 4, .ref tnodesA, .int 12])), (tnodesA, .inl (kA 0, 48, .inl tnodesF))]) hP hD
      refine lv_if_eq (tgt := 33) hx hb dX10_node_26 (by decide) (fun c_16 => ?_) (fun c_16 => ?_)
      · refine lv_iconst (v := 0) hx hb dX10_node_33 (by decide) ?_
        refine lv_istore (lv' := [(4, .int 0), (0, .ref x0), (1, .int p0), (2, .int p1), (3, .int p2)]) hx hb dX10_node_34 hl (by decide) rfl (fun ls hl => ?_)
        refine lv_iload hx hb dX10_node_36 (lv_at hl 0 rfl) ?_
        refine lv_if_eq (tgt := 54) hx hb dX10_node_38 (by decide) (fun _ => ?_) (fun c_17 => absurd (by decide) c_17)
        refine lv_iconst (v := (-1)) hx hb dX10_node_54 (by decide) ?_
        refine lv_istore (lv' := [(5, .int (-1)), (4, .int 0), (0, .ref x0), (1, .int p0), (2, .int p1), (3, .int p2)]) hx hb dX10_node_55 hl (by decide) rfl (fun ls hl => ?_)
        refine lv_iload hx hb dX10_node_57 (lv_at hl 0 rfl) ?_
        refine lv_iconst (v := (-1)) hx hb dX10_node_59 (by decide) ?_
        refine lv_icmp_eq (tgt := 119) hx hb dX10_node_60 (by decide) (fun _ => ?_) (fun c_18 => absurd (by decide) c_18)
        refine lv_iload hx hb dX10_node_119 (lv_at hl 0 rfl) ?_
        obtain ⟨hP9, hD9⟩ := z_sb (L' := [(x0, .inr (10, [.ref w0, .ref z0, .ref xi, .ref xt, .int x_tl, .ref xq, .int x_lc, .ref rdr, .ref h0, .ref t0, .ref q0, .ref v0, .ref m0])), (w0, .inr (9, [.ref tnodes, .ref tpasses, .ref tjars, .ref torders, .ref tfeasts, .ref tway, .int tws, .int tnow, .int tfm, .int tx])), (tnodes, .inr (6, [.int 4, .ref tnodesA, .int 12])), (tnodesA, .inl (kA 0, 48, .inl tnodesF))]) hP hD [0, 1, 2, 3] (by decide) rfl
        refine W.widen (k := 0) (n := 0) (Nat.le_of_ble_eq_true rfl) (Nat.le_of_ble_eq_true rfl) ?_
        exact W.iret (v := (-1)) hx hb hr (fun t ht hW => ⟨⟨(-1), (), rfl, rfl, by rw [ht]; exact hP9, hD9⟩, hS.F ht⟩) hS.2.2 dX10_node_121
      · have c_16a := wi_ne c_16
        have c_16b := c_16a.2
        have c_16a := c_16a.1
        refine lv_iconst (v := 1) hx hb dX10_node_29 (by decide) ?_
        refine lv_goto (tgt := 34) hx hb dX10_node_30 (by decide) ?_
        refine lv_istore (lv' := [(4, .int 1), (0, .ref x0), (1, .int p0), (2, .int p1), (3, .int p2)]) hx hb dX10_node_34 hl (by decide) rfl (fun ls hl => ?_)
        refine lv_iload hx hb dX10_node_36 (lv_at hl 0 rfl) ?_
        refine lv_if_eq (tgt := 54) hx hb dX10_node_38 (by decide) (fun c_19 => absurd c_19 (by decide)) (fun _ => ?_)
        refine lv_aload_n hx hb dX10_node_41 rfl (lv_at hl 1 rfl) ?_
        refine va_get (D := (dC, dI)) (ci := 10) (v := .ref w0) (C := RX10) (T := TX10) (N := 13) hx hb hts iX10_node_X10 hown hK.1 hP 0 gz0 vcz10 0 (by decide) (kX10_node_1 hts) (fun _ h9 => h9) gz0 dX10_node_42 ?_
        refine va_get (D := (dC, dI)) (ci := 9) (v := .ref tnodes) (C := RX9) (T := TX9) (N := 10) hx hb hts iX10_node_X9 hown hK.1 hP 1 gz1 vcz9 0 (by decide) (kX10_node_2 hts) (fun _ h9 => h9) gz0 dX10_node_45 ?_
        refine z_i (wr := [(x0, .inr (10, [.ref w0, .ref z0, .ref xi, .ref xt, .int x_tl, .ref xq, .int x_lc, .ref rdr, .ref h0, .ref t0, .ref q0, .ref v0, .ref m0])), (w0, .inr (9, [.ref tnodes, .ref tpasses, .ref tjars, .ref torders, .ref tfeasts, .ref tway, .int tws, .int tnow, .int tfm, .int tx]))]) (va_runV (As := []) (rest := []) ⟨hx, hb, hml, hown, hts⟩ (mX6_grow_nodes_full l dC dI kA _ tnodes tnodesA tnodesF) (cwV 0 hts gX10_node_X6_grow rfl rfl rfl ⟨rfl, hdX6_grow⟩ ⟨(Nat.le_of_ble_eq_true rfl), (Nat.le_of_ble_eq_true rfl)⟩) ⟨zPc.blind, va_recv (q := (RX6, TX6, 3)) hK.1 hP (ci := 6) (q0 := 2) rfl rfl, zPre hK (hP.sub [2, 3] rfl) (hD.sub [2, 3] (by decide) rfl)⟩ rfl rfl hl.1 rfl (lv_room (Nat.le_of_ble_eq_true rfl)) dX10_node_48 ⟨(Nat.le_of_ble_eq_true rfl), (Nat.le_of_ble_eq_true rfl)⟩) hP hD hS hA [2, 3] [0, 1] rfl rfl (by decide) (by decide) (fun r22 u20 H locs hw21 hP hD hS => ?_)
        obtain rfl := hw21
        obtain ⟨hP, hD⟩ := z_re (L := [(x0, .inr (10, [.ref w0, .ref z0, .ref xi, .ref xt, .int x_tl, .ref xq, .int x_lc, .ref rdr, .ref h0, .ref t0, .ref q0, .ref v0, .ref m0])), (w0, .inr (9, [.ref tnodes, .ref tpasses, .ref tjars, .ref torders, .ref tfeasts, .ref tway, .int tws, .int tnow, .int tfm, .int tx])), (tnodes, .inr (6, [.int 4, .ref tnodesA, .int 12])), (tnodesA, .inl (kA 0, 48, .inl tnodesF))]) hP hD
        refine lv_goto (tgt := 55) hx hb dX10_node_51 (by decide) ?_
        refine lv_istore (lv' := [(5, .int (-1)), (4, .int 1), (0, .ref x0), (1, .int p0), (2, .int p1), (3, .int p2)]) hx hb dX10_node_55 hl (by decide) rfl (fun ls hl => ?_)
        refine lv_iload hx hb dX10_node_57 (lv_at hl 0 rfl) ?_
        refine lv_iconst (v := (-1)) hx hb dX10_node_59 (by decide) ?_
        refine lv_icmp_eq (tgt := 119) hx hb dX10_node_60 (by decide) (fun _ => ?_) (fun c_23 => absurd (by decide) c_23)
        refine lv_iload hx hb dX10_node_119 (lv_at hl 0 rfl) ?_
        obtain ⟨hP9, hD9⟩ := z_sb (L' := [(x0, .inr (10, [.ref w0, .ref z0, .ref xi, .ref xt, .int x_tl, .ref xq, .int x_lc, .ref rdr, .ref h0, .ref t0, .ref q0, .ref v0, .ref m0])), (w0, .inr (9, [.ref tnodes, .ref tpasses, .ref tjars, .ref torders, .ref tfeasts, .ref tway, .int tws, .int tnow, .int tfm, .int tx])), (tnodes, .inr (6, [.int 4, .ref tnodesA, .int 12])), (tnodesA, .inl (kA 0, 48, .inl tnodesF))]) hP hD [0, 1, 2, 3] (by decide) rfl
        refine W.widen (k := 0) (n := 0) (Nat.le_of_ble_eq_true rfl) (Nat.le_of_ble_eq_true rfl) ?_
        exact W.iret (v := (-1)) hx hb hr (fun t ht hW => ⟨⟨(-1), (), rfl, rfl, by rw [ht]; exact hP9, hD9⟩, hS.F ht⟩) hS.2.2 dX10_node_121
set_option maxRecDepth 100000 in
def fX10_pass_ok (tnodesS : Int32) (tpassesS : Int32) (tpassesF : Nat → Int32) (p0 : Int32) (p1 : Int32) (p2 : Int32) (p3 : Int32) (p4 : Int32) : Int32 × (Nat → Int32) := if (hs p0 tnodesS) = 0 then (if p2 < 1 then ((tpassesS, tpassesF)) else (if (wi p2 24) = 0 then ((tpassesS, tpassesF)) else (if (wi p3 9) = 0 then ((tpassesS, tpassesF)) else (if (wi p4 1000) = 0 then ((tpassesS, tpassesF)) else ((tpassesS, tpassesF)))))) else (if (hs p1 tnodesS) = 0 then (if p2 < 1 then ((tpassesS, tpassesF)) else (if (wi p2 24) = 0 then ((tpassesS, tpassesF)) else (if (wi p3 9) = 0 then ((tpassesS, tpassesF)) else (if (wi p4 1000) = 0 then ((tpassesS, tpassesF)) else ((tpassesS, tpassesF)))))) else (if p0 = p1 then (if p2 < 1 then ((tpassesS, tpassesF)) else (if (wi p2 24) = 0 then ((tpassesS, tpassesF)) else (if (wi p3 9) = 0 then ((tpassesS, tpassesF)) else (if (wi p4 1000) = 0 then ((tpassesS, tpassesF)) else ((tpassesS, tpassesF)))))) else (if p2 < 1 then ((tpassesS, tpassesF)) else (if (wi p2 24) = 0 then ((tpassesS, tpassesF)) else (if (wi p3 9) = 0 then ((tpassesS, tpassesF)) else (if (wi p4 1000) = 0 then ((tpassesS, tpassesF)) else (bnd (fX6_grow_passes_ok tpassesS) (fun (o109 : Int32) => if tpassesS = (-1) then ((o109, tpassesF)) else (bnd (fX6_put_100 5 tpassesF tpassesS 0 p0) (fun (o118 : Nat → Int32) => bnd (fX6_put_100 5 o118 tpassesS 1 p1) (fun (o124 : Nat → Int32) => bnd (fX6_put_100 5 o124 tpassesS 2 p2) (fun (o130 : Nat → Int32) => bnd (fX6_put_100 5 o130 tpassesS 3 p3) (fun (o136 : Nat → Int32) => bnd (fX6_put_100 5 o136 tpassesS 4 p4) (fun (o142 : Nat → Int32) => (o109, o142)))))))))))))))
set_option maxHeartbeats 4000000 in
set_option maxRecDepth 100000 in
theorem mX10_pass_ok (l : Launch) (dC : Nat → ClassId) (dI : Nat → Nat → Nat) (kA : Nat → ClassId) (sz : Nat) (x0 : Nat) (z0 : Nat) (xi : Nat) (xt : Nat) (xq : Nat) (rdr : Nat) (h0 : Nat) (t0 : Nat) (q0 : Nat) (v0 : Nat) (m0 : Nat) (w0 : Nat) (x_tl : Int32) (x_lc : Int32) (tnodes : Nat) (tnodesA : Nat) (tnodesS : Int32) (tpasses : Nat) (tpassesA : Nat) (tpassesS : Int32) (tpassesF : Nat → Int32) (tjars : Nat) (torders : Nat) (tfeasts : Nat) (tway : Nat) (tws : Int32) (tnow : Int32) (tfm : Int32) (tx : Int32) (p0 : Int32) (p1 : Int32) (p2 : Int32) (p3 : Int32) (p4 : Int32) (hz0 : ¬ tpassesS < 0) (hz1 : ¬ 20 ≤ tpassesS) : Met l yX10_pass wsX10_pass ({ frames := 1, cells := 0, slots := 0, locals := 24 }) (zPc dC dI kA sz [.ref x0, .int p0, .int p1, .int p2, .int p3, .int p4] [(x0, .inr (10, [.ref w0, .ref z0, .ref xi, .ref xt, .int x_tl, .ref xq, .int x_lc, .ref rdr, .ref h0, .ref t0, .ref q0, .ref v0, .ref m0])), (w0, .inr (9, [.ref tnodes, .ref tpasses, .ref tjars, .ref torders, .ref tfeasts, .ref tway, .int tws, .int tnow, .int tfm, .int tx])), (tnodes, .inr (6, [.int 4, .ref tnodesA, .int tnodesS])), (tpasses, .inr (6, [.int 5, .ref tpassesA, .int tpassesS])), (tpassesA, .inl (kA 0, 100, .inl tpassesF))]) (va_Qi (fun (r : Int32) (u : Int32 × (Nat → Int32)) => r = (sp_ps p0 p1 p2 p3 p4 tnodesS tpassesS) ∧ (u.1, u.2) = fX10_pass_ok tnodesS tpassesS tpassesF p0 p1 p2 p3 p4 ∧ u.1 = (sp_psz p0 p1 p2 p3 p4 tnodesS tpassesS)) (zB dC dI (va_A [(x0, .inr (10, [.ref w0, .ref z0, .ref xi, .ref xt, .int x_tl, .ref xq, .int x_lc, .ref rdr, .ref h0, .ref t0, .ref q0, .ref v0, .ref m0])), (w0, .inr (9, [.ref tnodes, .ref tpasses, .ref tjars, .ref torders, .ref tfeasts, .ref tway, .int tws, .int tnow, .int tfm, .int tx])), (tnodes, .inr (6, [.int 4, .ref tnodesA, .int tnodesS])), (tpasses, .inr (6, [.int 5, .ref tpassesA, .int tpassesS])), (tpassesA, .inl (kA 0, 100, .inl tpassesF))] sz) (fun (u : Int32 × (Nat → Int32)) => [(x0, .inr (10, [.ref w0, .ref z0, .ref xi, .ref xt, .int x_tl, .ref xq, .int x_lc, .ref rdr, .ref h0, .ref t0, .ref q0, .ref v0, .ref m0])), (w0, .inr (9, [.ref tnodes, .ref tpasses, .ref tjars, .ref torders, .ref tfeasts, .ref tway, .int tws, .int tnow, .int tfm, .int tx])), (tnodes, .inr (6, [.int 4, .ref tnodesA, .int tnodesS])), (tpasses, .inr (6, [.int 5, .ref tpassesA, .int u.1])), (tpassesA, .inl (kA 0, 100, .inl u.2))])) (va_A [(x0, .inr (10, [.ref w0, .ref z0, .ref xi, .ref xt, .int x_tl, .ref xq, .int x_lc, .ref rdr, .ref h0, .ref t0, .ref q0, .ref v0, .ref m0])), (w0, .inr (9, [.ref tnodes, .ref tpasses, .ref tjars, .ref torders, .ref tfeasts, .ref tway, .int tws, .int tnow, .int tfm, .int tx])), (tnodes, .inr (6, [.int 4, .ref tnodesA, .int tnodesS])), (tpasses, .inr (6, [.int 5, .ref tpassesA, .int tpassesS])), (tpassesA, .inl (kA 0, 100, .inl tpassesF))] sz)) 0 0 (va_A [(x0, .inr (10, [.ref w0, .ref z0, .ref xi, .ref xt, .int x_tl, .ref xq, .int x_lc, .ref rdr, .ref h0, .ref t0, .ref q0, .ref v0, .ref m0])), (w0, .inr (9, [.ref tnodes, .ref tpasses, .ref tjars, .ref torders, .ref tfeasts, .ref tway, .int tws, .int tnow, .int tfm, .int tx])), (tnodes, .inr (6, [.int 4, .ref tnodesA, .int tnodesS])), (tpasses, .inr (6, [.int 5, .ref tpassesA, .int tpassesS])), (tpassesA, .inl (kA 0, 100, .inl tpassesF))] sz) := by
  refine Met.ofW (cc := cX10_pass) (maxL := 9) (ret := (some .int)) pnX10 rfl ?_
  intro p e s m args below meth c s₁ B hml hv
  obtain ⟨rfl, hsz, hP, hK, hD0⟩ := hv
  have hx := B.exec
  have hb := B.bytes
  have hr := B.returns
  have hts := atoms_spec (ws := wsX10_pass) B.pre
  have hown : s.vm.findClass RX10 = some m.cls := findClass_of_methodNamed B.named
  have hlocks := B.notSynchronized
  subst hsz
  have hD := hD0.self (sz := s.heap.size)
  generalize hAe : va_A [(x0, .inr (10, [.ref w0, .ref z0, .ref xi, .ref xt, .int x_tl, .ref xq, .int x_lc, .ref rdr, .ref h0, .ref t0, .ref q0, .ref v0, .ref m0])), (w0, .inr (9, [.ref tnodes, .ref tpasses, .ref tjars, .ref torders, .ref tfeasts, .ref tway, .int tws, .int tnow, .int tfm, .int tx])), (tnodes, .inr (6, [.int 4, .ref tnodesA, .int tnodesS])), (tpasses, .inr (6, [.int 5, .ref tpassesA, .int tpassesS])), (tpassesA, .inl (kA 0, 100, .inl tpassesF))] s.heap.size = A at hD ⊢
  have hA : ∀ q : Nat, s.heap.size ≤ q → A q := zA_of hAe
  have hS : va_S A s.heap s.heap [] := va_S.rf
  have hP : va_P (dC, dI) vwCl [(x0, .inr (10, [.ref w0, .ref z0, .ref xi, .ref xt, .int x_tl, .ref xq, .int x_lc, .ref rdr, .ref h0, .ref t0, .ref q0, .ref v0, .ref m0])), (w0, .inr (9, [.ref tnodes, .ref tpasses, .ref tjars, .ref torders, .ref tfeasts, .ref tway, .int tws, .int tnow, .int tfm, .int tx])), (tnodes, .inr (6, [.int 4, .ref tnodesA, .int tnodesS])), (tpasses, .inr (6, [.int 5, .ref tpassesA, .int tpassesS])), (tpassesA, .inl (kA 0, 100, .inl tpassesF))] s.heap := hP
  have hl := lv_entry ([.ref x0, .int p0, .int p1, .int p2, .int p3, .int p4]) (n := 9) (Nat.le_of_ble_eq_true rfl)
  rw [lg_entry_eq]
  generalize (lg_sl ([.ref x0, .int p0, .int p1, .int p2, .int p3, .int p4]) ++ List.replicate (9 - (lg_sl ([.ref x0, .int p0, .int p1, .int p2, .int p3, .int p4])).length) Slot.unset).toArray = ls at hl ⊢
  have hl : lv_has ls 9 [(0, .ref x0), (1, .int p0), (2, .int p1), (3, .int p2), (4, .int p3), (5, .int p4)] := hl
  obtain ⟨G, hG0⟩ : ∃ G : Int32 × (Nat → Int32), fX10_pass_ok tnodesS tpassesS tpassesF p0 p1 p2 p3 p4 = G := ⟨_, rfl⟩
  have hG := hG0
  unfold fX10_pass_ok at hG
  refine lv_aload_n hx hb dX10_pass_0 rfl (lv_at hl 0 rfl) ?_
  refine va_get (D := (dC, dI)) (ci := 10) (v := .ref w0) (C := RX10) (T := TX10) (N := 13) hx hb hts iX10_pass_X10 hown hK.1 hP 0 gz0 vcz10 0 (by decide) (kX10_pass_1 hts) (fun _ h9 => h9) gz0 dX10_pass_1 ?_
  refine va_get (D := (dC, dI)) (ci := 9) (v := .ref tnodes) (C := RX9) (T := TX9) (N := 10) hx hb hts iX10_pass_X9 hown hK.1 hP 1 gz1 vcz9 0 (by decide) (kX10_pass_2 hts) (fun _ h9 => h9) gz0 dX10_pass_4 ?_
  refine lv_iload_n hx hb dX10_pass_7 rfl (lv_at hl 1 rfl) ?_
  refine z_i (wr := [(x0, .inr (10, [.ref w0, .ref z0, .ref xi, .ref xt, .int x_tl, .ref xq, .int x_lc, .ref rdr, .ref h0, .ref t0, .ref q0, .ref v0, .ref m0])), (w0, .inr (9, [.ref tnodes, .ref tpasses, .ref tjars, .ref torders, .ref tfeasts, .ref tway, .int tws, .int tnow, .int tfm, .int tx])), (tpasses, .inr (6, [.int 5, .ref tpassesA, .int tpassesS])), (tpassesA, .inl (kA 0, 100, .inl tpassesF))]) (va_runV (As := [.int p0]) (rest := []) ⟨hx, hb, hml, hown, hts⟩ (mX6_has l dC dI kA _ tnodes tnodesA 4 tnodesS p0) (cwV 1 hts gX10_pass_X6_has rfl rfl rfl ⟨rfl, hdX6_has⟩ ⟨(Nat.le_of_ble_eq_true rfl), (Nat.le_of_ble_eq_true rfl)⟩) ⟨zPc.blind, va_recv (q := (RX6, TX6, 3)) hK.1 hP (ci := 6) (q0 := 2) rfl rfl, zPre hK (hP.sub [2] rfl) (hD.sub [2] (by decide) rfl)⟩ rfl rfl hl.1 rfl (lv_room (Nat.le_of_ble_eq_true rfl)) dX10_pass_8 ⟨(Nat.le_of_ble_eq_true rfl), (Nat.le_of_ble_eq_true rfl)⟩) hP hD hS hA [2] [0, 1, 3, 4] rfl rfl (by decide) (by decide) (fun r3 u1 H locs hw2 hP hD hS => ?_)
  obtain rfl := hw2
  obtain ⟨hP, hD⟩ := z_re (L := [(x0, .inr (10, [.ref w0, .ref z0, .ref xi, .ref xt, .int x_tl, .ref xq, .int x_lc, .ref rdr, .ref h0, .ref t0, .ref q0, .ref v0, .ref m0])), (w0, .inr (9, [.ref tnodes, .ref tpasses, .ref tjars, .ref torders, .ref tfeasts, .ref tway, .int tws, .int tnow, .int tfm, .int tx])), (tpasses, .inr (6, [.int 5, .ref tpassesA, .int tpassesS])), (tpassesA, .inl (kA 0, 100, .inl tpassesF)), (tnodes, .inr (6, [.int 4, .ref tnodesA, .int tnodesS]))]) hP hD
  refine lv_if_eq (tgt := 37) hx hb dX10_pass_11 (by decide) (fun c_4 => ?_) (fun c_4 => ?_)
  · have hG := zthen hG c_4
    refine lv_iconst (v := 0) hx hb dX10_pass_37 (by decide) ?_
    refine lv_istore (lv' := [(6, .int 0), (0, .ref x0), (1, .int p0), (2, .int p1), (3, .int p2), (4, .int p3), (5, .int p4)]) hx hb dX10_pass_38 hl (by decide) rfl (fun ls hl => ?_)
    refine lv_iload_n hx hb dX10_pass_40 rfl (lv_at hl 4 rfl) ?_
    refine lv_iconst (v := 1) hx hb dX10_pass_41 (by decide) ?_
    refine lv_icmp_lt (tgt := 79) hx hb dX10_pass_42 (by decide) (fun c_5 => ?_) (fun c_5 => ?_)
    · have hG := zthen hG c_5
      refine lv_iconst (v := 0) hx hb dX10_pass_79 (by decide) ?_
      refine lv_istore (lv' := [(7, .int 0), (6, .int 0), (0, .ref x0), (1, .int p0), (2, .int p1), (3, .int p2), (4, .int p3), (5, .int p4)]) hx hb dX10_pass_80 hl (by decide) rfl (fun ls hl => ?_)
      refine lv_iload hx hb dX10_pass_82 (lv_at hl 1 rfl) ?_
      refine lv_if_eq (tgt := 105) hx hb dX10_pass_84 (by decide) (fun _ => ?_) (fun c_6 => absurd (by decide) c_6)
      refine lv_iconst (v := (-1)) hx hb dX10_pass_105 (by decide) ?_
      refine lv_istore (lv' := [(8, .int (-1)), (7, .int 0), (6, .int 0), (0, .ref x0), (1, .int p0), (2, .int p1), (3, .int p2), (4, .int p3), (5, .int p4)]) hx hb dX10_pass_106 hl (by decide) rfl (fun ls hl => ?_)
      refine lv_iload hx hb dX10_pass_108 (lv_at hl 0 rfl) ?_
      refine lv_iconst (v := (-1)) hx hb dX10_pass_110 (by decide) ?_
      refine lv_icmp_eq (tgt := 186) hx hb dX10_pass_111 (by decide) (fun _ => ?_) (fun c_7 => absurd (by decide) c_7)
      refine lv_iload hx hb dX10_pass_186 (lv_at hl 0 rfl) ?_
      obtain ⟨hP9, hD9⟩ := z_sb (L' := [(x0, .inr (10, [.ref w0, .ref z0, .ref xi, .ref xt, .int x_tl, .ref xq, .int x_lc, .ref rdr, .ref h0, .ref t0, .ref q0, .ref v0, .ref m0])), (w0, .inr (9, [.ref tnodes, .ref tpasses, .ref tjars, .ref torders, .ref tfeasts, .ref tway, .int tws, .int tnow, .int tfm, .int tx])), (tnodes, .inr (6, [.int 4, .ref tnodesA, .int tnodesS])), (tpasses, .inr (6, [.int 5, .ref tpassesA, .int tpassesS])), (tpassesA, .inl (kA 0, 100, .inl tpassesF))]) hP hD [0, 1, 4, 2, 3] (by decide) rfl
      refine W.widen (k := 0) (n := 0) (Nat.le_of_ble_eq_true rfl) (Nat.le_of_ble_eq_true rfl) ?_
      exact W.iret (v := (-1)) hx hb hr (fun t ht hW => ⟨⟨(-1), (tpassesS, tpassesF), rfl, ⟨(by simp [sp_ps, c_4, c_5, fX6_grow_passes_ok, bnd]), (hG.trans hG0.symm), (by simp [sp_psz, c_4, c_5, fX6_grow_passes_ok, bnd])⟩, by rw [ht]; exact hP9, hD9⟩, hS.F ht⟩) hS.2.2 dX10_pass_188
    · have hG := zelse hG c_5
      refine lv_iload_n hx hb dX10_pass_45 rfl (lv_at hl 4 rfl) ?_
      refine lv_bipush (v := 24) hx hb dX10_pass_46 (by decide) ?_
      refine z_i (wr := [(x0, .inr (10, [.ref w0, .ref z0, .ref xi, .ref xt, .int x_tl, .ref xq, .int x_lc, .ref rdr, .ref h0, .ref t0, .ref q0, .ref v0, .ref m0])), (w0, .inr (9, [.ref tnodes, .ref tpasses, .ref tjars, .ref torders, .ref tfeasts, .ref tway, .int tws, .int tnow, .int tfm, .int tx])), (tpasses, .inr (6, [.int 5, .ref tpassesA, .int tpassesS])), (tpassesA, .inl (kA 0, 100, .inl tpassesF)), (tnodes, .inr (6, [.int 4, .ref tnodesA, .int tnodesS]))]) (va_runS (As := [.int p2, .int 24]) (rest := []) ⟨hx, hb, hml, hown, hts⟩ (mX10_within l dC dI kA _ p2 24) (va_cwS 2 hts gX10_pass_X10_within rfl rfl rfl hdX10_within ⟨(Nat.le_of_ble_eq_true rfl), (Nat.le_of_ble_eq_true rfl)⟩) ⟨zPc.blind, zPre hK (hP.sub [] rfl) (hD.sub [] (by decide) rfl)⟩ rfl rfl hl.1 rfl (lv_room (Nat.le_of_ble_eq_true rfl)) dX10_pass_48 ⟨(Nat.le_of_ble_eq_true rfl), (Nat.le_of_ble_eq_true rfl)⟩) hP hD hS hA [] [0, 1, 2, 3, 4] rfl rfl (by decide) (by decide) (fun r10 u8 H locs hw9 hP hD hS => ?_)
      obtain rfl := hw9
      obtain ⟨hP, hD⟩ := z_re (L := [(x0, .inr (10, [.ref w0, .ref z0, .ref xi, .ref xt, .int x_tl, .ref xq, .int x_lc, .ref rdr, .ref h0, .ref t0, .ref q0, .ref v0, .ref m0])), (w0, .inr (9, [.ref tnodes, .ref tpasses, .ref tjars, .ref torders, .ref tfeasts, .ref tway, .int tws, .int tnow, .int tfm, .int tx])), (tpasses, .inr (6, [.int 5, .ref tpassesA, .int tpassesS])), (tpassesA, .inl (kA 0, 100, .inl tpassesF)), (tnodes, .inr (6, [.int 4, .ref tnodesA, .int tnodesS]))]) hP hD
      refine lv_if_eq (tgt := 79) hx hb dX10_pass_51 (by decide) (fun c_11 => ?_) (fun c_11 => ?_)
      · have hG := zthen hG c_11
        refine lv_iconst (v := 0) hx hb dX10_pass_79 (by decide) ?_
        refine lv_istore (lv' := [(7, .int 0), (6, .int 0), (0, .ref x0), (1, .int p0), (2, .int p1), (3, .int p2), (4, .int p3), (5, .int p4)]) hx hb dX10_pass_80 hl (by decide) rfl (fun ls hl => ?_)
        refine lv_iload hx hb dX10_pass_82 (lv_at hl 1 rfl) ?_
        refine lv_if_eq (tgt := 105) hx hb dX10_pass_84 (by decide) (fun _ => ?_) (fun c_12 => absurd (by decide) c_12)
        refine lv_iconst (v := (-1)) hx hb dX10_pass_105 (by decide) ?_
        refine lv_istore (lv' := [(8, .int (-1)), (7, .int 0), (6, .int 0), (0, .ref x0), (1, .int p0), (2, .int p1), (3, .int p2), (4, .int p3), (5, .int p4)]) hx hb dX10_pass_106 hl (by decide) rfl (fun ls hl => ?_)
        refine lv_iload hx hb dX10_pass_108 (lv_at hl 0 rfl) ?_
        refine lv_iconst (v := (-1)) hx hb dX10_pass_110 (by decide) ?_
        refine lv_icmp_eq (tgt := 186) hx hb dX10_pass_111 (by decide) (fun _ => ?_) (fun c_13 => absurd (by decide) c_13)
        refine lv_iload hx hb dX10_pass_186 (lv_at hl 0 rfl) ?_
        obtain ⟨hP9, hD9⟩ := z_sb (L' := [(x0, .inr (10, [.ref w0, .ref z0, .ref xi, .ref xt, .int x_tl, .ref xq, .int x_lc, .ref rdr, .ref h0, .ref t0, .ref q0, .ref v0, .ref m0])), (w0, .inr (9, [.ref tnodes, .ref tpasses, .ref tjars, .ref torders, .ref tfeasts, .ref tway, .int tws, .int tnow, .int tfm, .int tx])), (tnodes, .inr (6, [.int 4, .ref tnodesA, .int tnodesS])), (tpasses, .inr (6, [.int 5, .ref tpassesA, .int tpassesS])), (tpassesA, .inl (kA 0, 100, .inl tpassesF))]) hP hD [0, 1, 4, 2, 3] (by decide) rfl
        refine W.widen (k := 0) (n := 0) (Nat.le_of_ble_eq_true rfl) (Nat.le_of_ble_eq_true rfl) ?_
        exact W.iret (v := (-1)) hx hb hr (fun t ht hW => ⟨⟨(-1), (tpassesS, tpassesF), rfl, ⟨(by simp [sp_ps, c_4, c_5, c_11, fX6_grow_passes_ok, bnd]), (hG.trans hG0.symm), (by simp [sp_psz, c_4, c_5, c_11, fX6_grow_passes_ok, bnd])⟩, by rw [ht]; exact hP9, hD9⟩, hS.F ht⟩) hS.2.2 dX10_pass_188
      · have hG := zelse hG c_11
        have c_11a := wi_ne c_11
        have c_11b := c_11a.2
        have c_11a := c_11a.1
        refine lv_iload hx hb dX10_pass_54 (lv_at hl 5 rfl) ?_
        refine lv_bipush (v := 9) hx hb dX10_pass_56 (by decide) ?_
        refine z_i (wr := [(x0, .inr (10, [.ref w0, .ref z0, .ref xi, .ref xt, .int x_tl, .ref xq, .int x_lc, .ref rdr, .ref h0, .ref t0, .ref q0, .ref v0, .ref m0])), (w0, .inr (9, [.ref tnodes, .ref tpasses, .ref tjars, .ref torders, .ref tfeasts, .ref tway, .int tws, .int tnow, .int tfm, .int tx])), (tpasses, .inr (6, [.int 5, .ref tpassesA, .int tpassesS])), (tpassesA, .inl (kA 0, 100, .inl tpassesF)), (tnodes, .inr (6, [.int 4, .ref tnodesA, .int tnodesS]))]) (va_runS (As := [.int p3, .int 9]) (rest := []) ⟨hx, hb, hml, hown, hts⟩ (mX10_within l dC dI kA _ p3 9) (va_cwS 2 hts gX10_pass_X10_within rfl rfl rfl hdX10_within ⟨(Nat.le_of_ble_eq_true rfl), (Nat.le_of_ble_eq_true rfl)⟩) ⟨zPc.blind, zPre hK (hP.sub [] rfl) (hD.sub [] (by decide) rfl)⟩ rfl rfl hl.1 rfl (lv_room (Nat.le_of_ble_eq_true rfl)) dX10_pass_58 ⟨(Nat.le_of_ble_eq_true rfl), (Nat.le_of_ble_eq_true rfl)⟩) hP hD hS hA [] [0, 1, 2, 3, 4] rfl rfl (by decide) (by decide) (fun r16 u14 H locs hw15 hP hD hS => ?_)
        obtain rfl := hw15
        obtain ⟨hP, hD⟩ := z_re (L := [(x0, .inr (10, [.ref w0, .ref z0, .ref xi, .ref xt, .int x_tl, .ref xq, .int x_lc, .ref rdr, .ref h0, .ref t0, .ref q0, .ref v0, .ref m0])), (w0, .inr (9, [.ref tnodes, .ref tpasses, .ref tjars, .ref torders, .ref tfeasts, .ref tway, .int tws, .int tnow, .int tfm, .int tx])), (tpasses, .inr (6, [.int 5, .ref tpassesA, .int tpassesS])), (tpassesA, .inl (kA 0, 100, .inl tpassesF)), (tnodes, .inr (6, [.int 4, .ref tnodesA, .int tnodesS]))]) hP hD
        refine lv_if_eq (tgt := 79) hx hb dX10_pass_61 (by decide) (fun c_17 => ?_) (fun c_17 => ?_)
        · have hG := zthen hG c_17
          refine lv_iconst (v := 0) hx hb dX10_pass_79 (by decide) ?_
          refine lv_istore (lv' := [(7, .int 0), (6, .int 0), (0, .ref x0), (1, .int p0), (2, .int p1), (3, .int p2), (4, .int p3), (5, .int p4)]) hx hb dX10_pass_80 hl (by decide) rfl (fun ls hl => ?_)
          refine lv_iload hx hb dX10_pass_82 (lv_at hl 1 rfl) ?_
          refine lv_if_eq (tgt := 105) hx hb dX10_pass_84 (by decide) (fun _ => ?_) (fun c_18 => absurd (by decide) c_18)
          refine lv_iconst (v := (-1)) hx hb dX10_pass_105 (by decide) ?_
          refine lv_istore (lv' := [(8, .int (-1)), (7, .int 0), (6, .int 0), (0, .ref x0), (1, .int p0), (2, .int p1), (3, .int p2), (4, .int p3), (5, .int p4)]) hx hb dX10_pass_106 hl (by decide) rfl (fun ls hl => ?_)
          refine lv_iload hx hb dX10_pass_108 (lv_at hl 0 rfl) ?_
          refine lv_iconst (v := (-1)) hx hb dX10_pass_110 (by decide) ?_
          refine lv_icmp_eq (tgt := 186) hx hb dX10_pass_111 (by decide) (fun _ => ?_) (fun c_19 => absurd (by decide) c_19)
          refine lv_iload hx hb dX10_pass_186 (lv_at hl 0 rfl) ?_
          obtain ⟨hP9, hD9⟩ := z_sb (L' := [(x0, .inr (10, [.ref w0, .ref z0, .ref xi, .ref xt, .int x_tl, .ref xq, .int x_lc, .ref rdr, .ref h0, .ref t0, .ref q0, .ref v0, .ref m0])), (w0, .inr (9, [.ref tnodes, .ref tpasses, .ref tjars, .ref torders, .ref tfeasts, .ref tway, .int tws, .int tnow, .int tfm, .int tx])), (tnodes, .inr (6, [.int 4, .ref tnodesA, .int tnodesS])), (tpasses, .inr (6, [.int 5, .ref tpassesA, .int tpassesS])), (tpassesA, .inl (kA 0, 100, .inl tpassesF))]) hP hD [0, 1, 4, 2, 3] (by decide) rfl
          refine W.widen (k := 0) (n := 0) (Nat.le_of_ble_eq_true rfl) (Nat.le_of_ble_eq_true rfl) ?_
          exact W.iret (v := (-1)) hx hb hr (fun t ht hW => ⟨⟨(-1), (tpassesS, tpassesF), rfl, ⟨(by simp [sp_ps, c_4, c_5, c_11, c_11a, c_11b, c_17, fX6_grow_passes_ok, bnd]), (hG.trans hG0.symm), (by simp [sp_psz, c_4, c_5, c_11, c_11a, c_11b, c_17, fX6_grow_passes_ok, bnd])⟩, by rw [ht]; exact hP9, hD9⟩, hS.F ht⟩) hS.2.2 dX10_pass_188
        · have hG := zelse hG c_17
          have c_17a := wi_ne c_17
          have c_17b := c_17a.2
          have c_17a := c_17a.1
          refine lv_iload hx hb dX10_pass_64 (lv_at hl 6 rfl) ?_
          refine lv_sipush (v := 1000) hx hb dX10_pass_66 (by decide) ?_
          refine z_i (wr := [(x0, .inr (10, [.ref w0, .ref z0, .ref xi, .ref xt, .int x_tl, .ref xq, .int x_lc, .ref rdr, .ref h0, .ref t0, .ref q0, .ref v0, .ref m0])), (w0, .inr (9, [.ref tnodes, .ref tpasses, .ref tjars, .ref torders, .ref tfeasts, .ref tway, .int tws, .int tnow, .int tfm, .int tx])), (tpasses, .inr (6, [.int 5, .ref tpassesA, .int tpassesS])), (tpassesA, .inl (kA 0, 100, .inl tpassesF)), (tnodes, .inr (6, [.int 4, .ref tnodesA, .int tnodesS]))]) (va_runS (As := [.int p4, .int 1000]) (rest := []) ⟨hx, hb, hml, hown, hts⟩ (mX10_within l dC dI kA _ p4 1000) (va_cwS 2 hts gX10_pass_X10_within rfl rfl rfl hdX10_within ⟨(Nat.le_of_ble_eq_true rfl), (Nat.le_of_ble_eq_true rfl)⟩) ⟨zPc.blind, zPre hK (hP.sub [] rfl) (hD.sub [] (by decide) rfl)⟩ rfl rfl hl.1 rfl (lv_room (Nat.le_of_ble_eq_true rfl)) dX10_pass_69 ⟨(Nat.le_of_ble_eq_true rfl), (Nat.le_of_ble_eq_true rfl)⟩) hP hD hS hA [] [0, 1, 2, 3, 4] rfl rfl (by decide) (by decide) (fun r22 u20 H locs hw21 hP hD hS => ?_)
          obtain rfl := hw21
          obtain ⟨hP, hD⟩ := z_re (L := [(x0, .inr (10, [.ref w0, .ref z0, .ref xi, .ref xt, .int x_tl, .ref xq, .int x_lc, .ref rdr, .ref h0, .ref t0, .ref q0, .ref v0, .ref m0])), (w0, .inr (9, [.ref tnodes, .ref tpasses, .ref tjars, .ref torders, .ref tfeasts, .ref tway, .int tws, .int tnow, .int tfm, .int tx])), (tpasses, .inr (6, [.int 5, .ref tpassesA, .int tpassesS])), (tpassesA, .inl (kA 0, 100, .inl tpassesF)), (tnodes, .inr (6, [.int 4, .ref tnodesA, .int tnodesS]))]) hP hD
          refine lv_if_eq (tgt := 79) hx hb dX10_pass_72 (by decide) (fun c_23 => ?_) (fun c_23 => ?_)
          · have hG := zthen hG c_23
            refine lv_iconst (v := 0) hx hb dX10_pass_79 (by decide) ?_
            refine lv_istore (lv' := [(7, .int 0), (6, .int 0), (0, .ref x0), (1, .int p0), (2, .int p1), (3, .int p2), (4, .int p3), (5, .int p4)]) hx hb dX10_pass_80 hl (by decide) rfl (fun ls hl => ?_)
            refine lv_iload hx hb dX10_pass_82 (lv_at hl 1 rfl) ?_
            refine lv_if_eq (tgt := 105) hx hb dX10_pass_84 (by decide) (fun _ => ?_) (fun c_24 => absurd (by decide) c_24)
            refine lv_iconst (v := (-1)) hx hb dX10_pass_105 (by decide) ?_
            refine lv_istore (lv' := [(8, .int (-1)), (7, .int 0), (6, .int 0), (0, .ref x0), (1, .int p0), (2, .int p1), (3, .int p2), (4, .int p3), (5, .int p4)]) hx hb dX10_pass_106 hl (by decide) rfl (fun ls hl => ?_)
            refine lv_iload hx hb dX10_pass_108 (lv_at hl 0 rfl) ?_
            refine lv_iconst (v := (-1)) hx hb dX10_pass_110 (by decide) ?_
            refine lv_icmp_eq (tgt := 186) hx hb dX10_pass_111 (by decide) (fun _ => ?_) (fun c_25 => absurd (by decide) c_25)
            refine lv_iload hx hb dX10_pass_186 (lv_at hl 0 rfl) ?_
            obtain ⟨hP9, hD9⟩ := z_sb (L' := [(x0, .inr (10, [.ref w0, .ref z0, .ref xi, .ref xt, .int x_tl, .ref xq, .int x_lc, .ref rdr, .ref h0, .ref t0, .ref q0, .ref v0, .ref m0])), (w0, .inr (9, [.ref tnodes, .ref tpasses, .ref tjars, .ref torders, .ref tfeasts, .ref tway, .int tws, .int tnow, .int tfm, .int tx])), (tnodes, .inr (6, [.int 4, .ref tnodesA, .int tnodesS])), (tpasses, .inr (6, [.int 5, .ref tpassesA, .int tpassesS])), (tpassesA, .inl (kA 0, 100, .inl tpassesF))]) hP hD [0, 1, 4, 2, 3] (by decide) rfl
            refine W.widen (k := 0) (n := 0) (Nat.le_of_ble_eq_true rfl) (Nat.le_of_ble_eq_true rfl) ?_
            exact W.iret (v := (-1)) hx hb hr (fun t ht hW => ⟨⟨(-1), (tpassesS, tpassesF), rfl, ⟨(by simp [sp_ps, c_4, c_5, c_11, c_11a, c_11b, c_17, c_17a, c_17b, c_23, fX6_grow_passes_ok, bnd]), (hG.trans hG0.symm), (by simp [sp_psz, c_4, c_5, c_11, c_11a, c_11b, c_17, c_17a, c_17b, c_23, fX6_grow_passes_ok, bnd])⟩, by rw [ht]; exact hP9, hD9⟩, hS.F ht⟩) hS.2.2 dX10_pass_188
          · have hG := zelse hG c_23
            have c_23a := wi_ne c_23
            have c_23b := c_23a.2
            have c_23a := c_23a.1
            refine lv_iconst (v := 1) hx hb dX10_pass_75 (by decide) ?_
            refine lv_goto (tgt := 80) hx hb dX10_pass_76 (by decide) ?_
            refine lv_istore (lv' := [(7, .int 1), (6, .int 0), (0, .ref x0), (1, .int p0), (2, .int p1), (3, .int p2), (4, .int p3), (5, .int p4)]) hx hb dX10_pass_80 hl (by decide) rfl (fun ls hl => ?_)
            refine lv_iload hx hb dX10_pass_82 (lv_at hl 1 rfl) ?_
            refine lv_if_eq (tgt := 105) hx hb dX10_pass_84 (by decide) (fun _ => ?_) (fun c_26 => absurd (by decide) c_26)
            refine lv_iconst (v := (-1)) hx hb dX10_pass_105 (by decide) ?_
            refine lv_istore (lv' := [(8, .int (-1)), (7, .int 1), (6, .int 0), (0, .ref x0), (1, .int p0), (2, .int p1), (3, .int p2), (4, .int p3), (5, .int p4)]) hx hb dX10_pass_106 hl (by decide) rfl (fun ls hl => ?_)
            refine lv_iload hx hb dX10_pass_108 (lv_at hl 0 rfl) ?_
            refine lv_iconst (v := (-1)) hx hb dX10_pass_110 (by decide) ?_
            refine lv_icmp_eq (tgt := 186) hx hb dX10_pass_111 (by decide) (fun _ => ?_) (fun c_27 => absurd (by decide) c_27)
            refine lv_iload hx hb dX10_pass_186 (lv_at hl 0 rfl) ?_
            obtain ⟨hP9, hD9⟩ := z_sb (L' := [(x0, .inr (10, [.ref w0, .ref z0, .ref xi, .ref xt, .int x_tl, .ref xq, .int x_lc, .ref rdr, .ref h0, .ref t0, .ref q0, .ref v0, .ref m0])), (w0, .inr (9, [.ref tnodes, .ref tpasses, .ref tjars, .ref torders, .ref tfeasts, .ref tway, .int tws, .int tnow, .int tfm, .int tx])), (tnodes, .inr (6, [.int 4, .ref tnodesA, .int tnodesS])), (tpasses, .inr (6, [.int 5, .ref tpassesA, .int tpassesS])), (tpassesA, .inl (kA 0, 100, .inl tpassesF))]) hP hD [0, 1, 4, 2, 3] (by decide) rfl
            refine W.widen (k := 0) (n := 0) (Nat.le_of_ble_eq_true rfl) (Nat.le_of_ble_eq_true rfl) ?_
            exact W.iret (v := (-1)) hx hb hr (fun t ht hW => ⟨⟨(-1), (tpassesS, tpassesF), rfl, ⟨(by simp [sp_ps, c_4, c_5, c_11, c_11a, c_11b, c_17, c_17a, c_17b, c_23, c_23a, c_23b, fX6_grow_passes_ok, bnd]), (hG.trans hG0.symm), (by simp [sp_psz, c_4, c_5, c_11, c_11a, c_11b, c_17, c_17a, c_17b, c_23, c_23a, c_23b, fX6_grow_passes_ok, bnd])⟩, by rw [ht]; exact hP9, hD9⟩, hS.F ht⟩) hS.2.2 dX10_pass_188
  · have hG := zelse hG c_4
    have c_4a := hs_ne c_4
    have c_4b := c_4a.2
    have c_4a := c_4a.1
    refine lv_aload_n hx hb dX10_pass_14 rfl (lv_at hl 0 rfl) ?_
    refine va_get (D := (dC, dI)) (ci := 10) (v := .ref w0) (C := RX10) (T := TX10) (N := 13) hx hb hts iX10_pass_X10 hown hK.1 hP 0 gz0 vcz10 0 (by decide) (kX10_pass_1 hts) (fun _ h9 => h9) gz0 dX10_pass_15 ?_
    refine va_get (D := (dC, dI)) (ci := 9) (v := .ref tnodes) (C := RX9) (T := TX9) (N := 10) hx hb hts iX10_pass_X9 hown hK.1 hP 1 gz1 vcz9 0 (by decide) (kX10_pass_2 hts) (fun _ h9 => h9) gz0 dX10_pass_18 ?_
    refine lv_iload_n hx hb dX10_pass_21 rfl (lv_at hl 2 rfl) ?_
    refine z_i (wr := [(x0, .inr (10, [.ref w0, .ref z0, .ref xi, .ref xt, .int x_tl, .ref xq, .int x_lc, .ref rdr, .ref h0, .ref t0, .ref q0, .ref v0, .ref m0])), (w0, .inr (9, [.ref tnodes, .ref tpasses, .ref tjars, .ref torders, .ref tfeasts, .ref tway, .int tws, .int tnow, .int tfm, .int tx])), (tpasses, .inr (6, [.int 5, .ref tpassesA, .int tpassesS])), (tpassesA, .inl (kA 0, 100, .inl tpassesF))]) (va_runV (As := [.int p1]) (rest := []) ⟨hx, hb, hml, hown, hts⟩ (mX6_has l dC dI kA _ tnodes tnodesA 4 tnodesS p1) (cwV 1 hts gX10_pass_X6_has rfl rfl rfl ⟨rfl, hdX6_has⟩ ⟨(Nat.le_of_ble_eq_true rfl), (Nat.le_of_ble_eq_true rfl)⟩) ⟨zPc.blind, va_recv (q := (RX6, TX6, 3)) hK.1 hP (ci := 6) (q0 := 4) rfl rfl, zPre hK (hP.sub [4] rfl) (hD.sub [4] (by decide) rfl)⟩ rfl rfl hl.1 rfl (lv_room (Nat.le_of_ble_eq_true rfl)) dX10_pass_22 ⟨(Nat.le_of_ble_eq_true rfl), (Nat.le_of_ble_eq_true rfl)⟩) hP hD hS hA [4] [0, 1, 2, 3] rfl rfl (by decide) (by decide) (fun r30 u28 H locs hw29 hP hD hS => ?_)
    obtain rfl := hw29
    obtain ⟨hP, hD⟩ := z_re (L := [(x0, .inr (10, [.ref w0, .ref z0, .ref xi, .ref xt, .int x_tl, .ref xq, .int x_lc, .ref rdr, .ref h0, .ref t0, .ref q0, .ref v0, .ref m0])), (w0, .inr (9, [.ref tnodes, .ref tpasses, .ref tjars, .ref torders, .ref tfeasts, .ref tway, .int tws, .int tnow, .int tfm, .int tx])), (tpasses, .inr (6, [.int 5, .ref tpassesA, .int tpassesS])), (tpassesA, .inl (kA 0, 100, .inl tpassesF)), (tnodes, .inr (6, [.int 4, .ref tnodesA, .int tnodesS]))]) hP hD
    refine lv_if_eq (tgt := 37) hx hb dX10_pass_25 (by decide) (fun c_31 => ?_) (fun c_31 => ?_)
    · have hG := zthen hG c_31
      refine lv_iconst (v := 0) hx hb dX10_pass_37 (by decide) ?_
      refine lv_istore (lv' := [(6, .int 0), (0, .ref x0), (1, .int p0), (2, .int p1), (3, .int p2), (4, .int p3), (5, .int p4)]) hx hb dX10_pass_38 hl (by decide) rfl (fun ls hl => ?_)
      refine lv_iload_n hx hb dX10_pass_40 rfl (lv_at hl 4 rfl) ?_
      refine lv_iconst (v := 1) hx hb dX10_pass_41 (by decide) ?_
      refine lv_icmp_lt (tgt := 79) hx hb dX10_pass_42 (by decide) (fun c_32 => ?_) (fun c_32 => ?_)
      · have hG := zthen hG c_32
        refine lv_iconst (v := 0) hx hb dX10_pass_79 (by decide) ?_
        refine lv_istore (lv' := [(7, .int 0), (6, .int 0), (0, .ref x0), (1, .int p0), (2, .int p1), (3, .int p2), (4, .int p3), (5, .int p4)]) hx hb dX10_pass_80 hl (by decide) rfl (fun ls hl => ?_)
        refine lv_iload hx hb dX10_pass_82 (lv_at hl 1 rfl) ?_
        refine lv_if_eq (tgt := 105) hx hb dX10_pass_84 (by decide) (fun _ => ?_) (fun c_33 => absurd (by decide) c_33)
        refine lv_iconst (v := (-1)) hx hb dX10_pass_105 (by decide) ?_
        refine lv_istore (lv' := [(8, .int (-1)), (7, .int 0), (6, .int 0), (0, .ref x0), (1, .int p0), (2, .int p1), (3, .int p2), (4, .int p3), (5, .int p4)]) hx hb dX10_pass_106 hl (by decide) rfl (fun ls hl => ?_)
        refine lv_iload hx hb dX10_pass_108 (lv_at hl 0 rfl) ?_
        refine lv_iconst (v := (-1)) hx hb dX10_pass_110 (by decide) ?_
        refine lv_icmp_eq (tgt := 186) hx hb dX10_pass_111 (by decide) (fun _ => ?_) (fun c_34 => absurd (by decide) c_34)
        refine lv_iload hx hb dX10_pass_186 (lv_at hl 0 rfl) ?_
        obtain ⟨hP9, hD9⟩ := z_sb (L' := [(x0, .inr (10, [.ref w0, .ref z0, .ref xi, .ref xt, .int x_tl, .ref xq, .int x_lc, .ref rdr, .ref h0, .ref t0, .ref q0, .ref v0, .ref m0])), (w0, .inr (9, [.ref tnodes, .ref tpasses, .ref tjars, .ref torders, .ref tfeasts, .ref tway, .int tws, .int tnow, .int tfm, .int tx])), (tnodes, .inr (6, [.int 4, .ref tnodesA, .int tnodesS])), (tpasses, .inr (6, [.int 5, .ref tpassesA, .int tpassesS])), (tpassesA, .inl (kA 0, 100, .inl tpassesF))]) hP hD [0, 1, 4, 2, 3] (by decide) rfl
        refine W.widen (k := 0) (n := 0) (Nat.le_of_ble_eq_true rfl) (Nat.le_of_ble_eq_true rfl) ?_
        exact W.iret (v := (-1)) hx hb hr (fun t ht hW => ⟨⟨(-1), (tpassesS, tpassesF), rfl, ⟨(by simp [sp_ps, c_4, c_4a, c_4b, c_31, c_32, fX6_grow_passes_ok, bnd]), (hG.trans hG0.symm), (by simp [sp_psz, c_4, c_4a, c_4b, c_31, c_32, fX6_grow_passes_ok, bnd])⟩, by rw [ht]; exact hP9, hD9⟩, hS.F ht⟩) hS.2.2 dX10_pass_188
      · have hG := zelse hG c_32
        refine lv_iload_n hx hb dX10_pass_45 rfl (lv_at hl 4 rfl) ?_
        refine lv_bipush (v := 24) hx hb dX10_pass_46 (by decide) ?_
        refine z_i (wr := [(x0, .inr (10, [.ref w0, .ref z0, .ref xi, .ref xt, .int x_tl, .ref xq, .int x_lc, .ref rdr, .ref h0, .ref t0, .ref q0, .ref v0, .ref m0])), (w0, .inr (9, [.ref tnodes, .ref tpasses, .ref tjars, .ref torders, .ref tfeasts, .ref tway, .int tws, .int tnow, .int tfm, .int tx])), (tpasses, .inr (6, [.int 5, .ref tpassesA, .int tpassesS])), (tpassesA, .inl (kA 0, 100, .inl tpassesF)), (tnodes, .inr (6, [.int 4, .ref tnodesA, .int tnodesS]))]) (va_runS (As := [.int p2, .int 24]) (rest := []) ⟨hx, hb, hml, hown, hts⟩ (mX10_within l dC dI kA _ p2 24) (va_cwS 2 hts gX10_pass_X10_within rfl rfl rfl hdX10_within ⟨(Nat.le_of_ble_eq_true rfl), (Nat.le_of_ble_eq_true rfl)⟩) ⟨zPc.blind, zPre hK (hP.sub [] rfl) (hD.sub [] (by decide) rfl)⟩ rfl rfl hl.1 rfl (lv_room (Nat.le_of_ble_eq_true rfl)) dX10_pass_48 ⟨(Nat.le_of_ble_eq_true rfl), (Nat.le_of_ble_eq_true rfl)⟩) hP hD hS hA [] [0, 1, 2, 3, 4] rfl rfl (by decide) (by decide) (fun r37 u35 H locs hw36 hP hD hS => ?_)
        obtain rfl := hw36
        obtain ⟨hP, hD⟩ := z_re (L := [(x0, .inr (10, [.ref w0, .ref z0, .ref xi, .ref xt, .int x_tl, .ref xq, .int x_lc, .ref rdr, .ref h0, .ref t0, .ref q0, .ref v0, .ref m0])), (w0, .inr (9, [.ref tnodes, .ref tpasses, .ref tjars, .ref torders, .ref tfeasts, .ref tway, .int tws, .int tnow, .int tfm, .int tx])), (tpasses, .inr (6, [.int 5, .ref tpassesA, .int tpassesS])), (tpassesA, .inl (kA 0, 100, .inl tpassesF)), (tnodes, .inr (6, [.int 4, .ref tnodesA, .int tnodesS]))]) hP hD
        refine lv_if_eq (tgt := 79) hx hb dX10_pass_51 (by decide) (fun c_38 => ?_) (fun c_38 => ?_)
        · have hG := zthen hG c_38
          refine lv_iconst (v := 0) hx hb dX10_pass_79 (by decide) ?_
          refine lv_istore (lv' := [(7, .int 0), (6, .int 0), (0, .ref x0), (1, .int p0), (2, .int p1), (3, .int p2), (4, .int p3), (5, .int p4)]) hx hb dX10_pass_80 hl (by decide) rfl (fun ls hl => ?_)
          refine lv_iload hx hb dX10_pass_82 (lv_at hl 1 rfl) ?_
          refine lv_if_eq (tgt := 105) hx hb dX10_pass_84 (by decide) (fun _ => ?_) (fun c_39 => absurd (by decide) c_39)
          refine lv_iconst (v := (-1)) hx hb dX10_pass_105 (by decide) ?_
          refine lv_istore (lv' := [(8, .int (-1)), (7, .int 0), (6, .int 0), (0, .ref x0), (1, .int p0), (2, .int p1), (3, .int p2), (4, .int p3), (5, .int p4)]) hx hb dX10_pass_106 hl (by decide) rfl (fun ls hl => ?_)
          refine lv_iload hx hb dX10_pass_108 (lv_at hl 0 rfl) ?_
          refine lv_iconst (v := (-1)) hx hb dX10_pass_110 (by decide) ?_
          refine lv_icmp_eq (tgt := 186) hx hb dX10_pass_111 (by decide) (fun _ => ?_) (fun c_40 => absurd (by decide) c_40)
          refine lv_iload hx hb dX10_pass_186 (lv_at hl 0 rfl) ?_
          obtain ⟨hP9, hD9⟩ := z_sb (L' := [(x0, .inr (10, [.ref w0, .ref z0, .ref xi, .ref xt, .int x_tl, .ref xq, .int x_lc, .ref rdr, .ref h0, .ref t0, .ref q0, .ref v0, .ref m0])), (w0, .inr (9, [.ref tnodes, .ref tpasses, .ref tjars, .ref torders, .ref tfeasts, .ref tway, .int tws, .int tnow, .int tfm, .int tx])), (tnodes, .inr (6, [.int 4, .ref tnodesA, .int tnodesS])), (tpasses, .inr (6, [.int 5, .ref tpassesA, .int tpassesS])), (tpassesA, .inl (kA 0, 100, .inl tpassesF))]) hP hD [0, 1, 4, 2, 3] (by decide) rfl
          refine W.widen (k := 0) (n := 0) (Nat.le_of_ble_eq_true rfl) (Nat.le_of_ble_eq_true rfl) ?_
          exact W.iret (v := (-1)) hx hb hr (fun t ht hW => ⟨⟨(-1), (tpassesS, tpassesF), rfl, ⟨(by simp [sp_ps, c_4, c_4a, c_4b, c_31, c_32, c_38, fX6_grow_passes_ok, bnd]), (hG.trans hG0.symm), (by simp [sp_psz, c_4, c_4a, c_4b, c_31, c_32, c_38, fX6_grow_passes_ok, bnd])⟩, by rw [ht]; exact hP9, hD9⟩, hS.F ht⟩) hS.2.2 dX10_pass_188
        · have hG := zelse hG c_38
          have c_38a := wi_ne c_38
          have c_38b := c_38a.2
          have c_38a := c_38a.1
          refine lv_iload hx hb dX10_pass_54 (lv_at hl 5 rfl) ?_
          refine lv_bipush (v := 9) hx hb dX10_pass_56 (by decide) ?_
          refine z_i (wr := [(x0, .inr (10, [.ref w0, .ref z0, .ref xi, .ref xt, .int x_tl, .ref xq, .int x_lc, .ref rdr, .ref h0, .ref t0, .ref q0, .ref v0, .ref m0])), (w0, .inr (9, [.ref tnodes, .ref tpasses, .ref tjars, .ref torders, .ref tfeasts, .ref tway, .int tws, .int tnow, .int tfm, .int tx])), (tpasses, .inr (6, [.int 5, .ref tpassesA, .int tpassesS])), (tpassesA, .inl (kA 0, 100, .inl tpassesF)), (tnodes, .inr (6, [.int 4, .ref tnodesA, .int tnodesS]))]) (va_runS (As := [.int p3, .int 9]) (rest := []) ⟨hx, hb, hml, hown, hts⟩ (mX10_within l dC dI kA _ p3 9) (va_cwS 2 hts gX10_pass_X10_within rfl rfl rfl hdX10_within ⟨(Nat.le_of_ble_eq_true rfl), (Nat.le_of_ble_eq_true rfl)⟩) ⟨zPc.blind, zPre hK (hP.sub [] rfl) (hD.sub [] (by decide) rfl)⟩ rfl rfl hl.1 rfl (lv_room (Nat.le_of_ble_eq_true rfl)) dX10_pass_58 ⟨(Nat.le_of_ble_eq_true rfl), (Nat.le_of_ble_eq_true rfl)⟩) hP hD hS hA [] [0, 1, 2, 3, 4] rfl rfl (by decide) (by decide) (fun r43 u41 H locs hw42 hP hD hS => ?_)
          obtain rfl := hw42
          obtain ⟨hP, hD⟩ := z_re (L := [(x0, .inr (10, [.ref w0, .ref z0, .ref xi, .ref xt, .int x_tl, .ref xq, .int x_lc, .ref rdr, .ref h0, .ref t0, .ref q0, .ref v0, .ref m0])), (w0, .inr (9, [.ref tnodes, .ref tpasses, .ref tjars, .ref torders, .ref tfeasts, .ref tway, .int tws, .int tnow, .int tfm, .int tx])), (tpasses, .inr (6, [.int 5, .ref tpassesA, .int tpassesS])), (tpassesA, .inl (kA 0, 100, .inl tpassesF)), (tnodes, .inr (6, [.int 4, .ref tnodesA, .int tnodesS]))]) hP hD
          refine lv_if_eq (tgt := 79) hx hb dX10_pass_61 (by decide) (fun c_44 => ?_) (fun c_44 => ?_)
          · have hG := zthen hG c_44
            refine lv_iconst (v := 0) hx hb dX10_pass_79 (by decide) ?_
            refine lv_istore (lv' := [(7, .int 0), (6, .int 0), (0, .ref x0), (1, .int p0), (2, .int p1), (3, .int p2), (4, .int p3), (5, .int p4)]) hx hb dX10_pass_80 hl (by decide) rfl (fun ls hl => ?_)
            refine lv_iload hx hb dX10_pass_82 (lv_at hl 1 rfl) ?_
            refine lv_if_eq (tgt := 105) hx hb dX10_pass_84 (by decide) (fun _ => ?_) (fun c_45 => absurd (by decide) c_45)
            refine lv_iconst (v := (-1)) hx hb dX10_pass_105 (by decide) ?_
            refine lv_istore (lv' := [(8, .int (-1)), (7, .int 0), (6, .int 0), (0, .ref x0), (1, .int p0), (2, .int p1), (3, .int p2), (4, .int p3), (5, .int p4)]) hx hb dX10_pass_106 hl (by decide) rfl (fun ls hl => ?_)
            refine lv_iload hx hb dX10_pass_108 (lv_at hl 0 rfl) ?_
            refine lv_iconst (v := (-1)) hx hb dX10_pass_110 (by decide) ?_
            refine lv_icmp_eq (tgt := 186) hx hb dX10_pass_111 (by decide) (fun _ => ?_) (fun c_46 => absurd (by decide) c_46)
            refine lv_iload hx hb dX10_pass_186 (lv_at hl 0 rfl) ?_
            obtain ⟨hP9, hD9⟩ := z_sb (L' := [(x0, .inr (10, [.ref w0, .ref z0, .ref xi, .ref xt, .int x_tl, .ref xq, .int x_lc, .ref rdr, .ref h0, .ref t0, .ref q0, .ref v0, .ref m0])), (w0, .inr (9, [.ref tnodes, .ref tpasses, .ref tjars, .ref torders, .ref tfeasts, .ref tway, .int tws, .int tnow, .int tfm, .int tx])), (tnodes, .inr (6, [.int 4, .ref tnodesA, .int tnodesS])), (tpasses, .inr (6, [.int 5, .ref tpassesA, .int tpassesS])), (tpassesA, .inl (kA 0, 100, .inl tpassesF))]) hP hD [0, 1, 4, 2, 3] (by decide) rfl
            refine W.widen (k := 0) (n := 0) (Nat.le_of_ble_eq_true rfl) (Nat.le_of_ble_eq_true rfl) ?_
            exact W.iret (v := (-1)) hx hb hr (fun t ht hW => ⟨⟨(-1), (tpassesS, tpassesF), rfl, ⟨(by simp [sp_ps, c_4, c_4a, c_4b, c_31, c_32, c_38, c_38a, c_38b, c_44, fX6_grow_passes_ok, bnd]), (hG.trans hG0.symm), (by simp [sp_psz, c_4, c_4a, c_4b, c_31, c_32, c_38, c_38a, c_38b, c_44, fX6_grow_passes_ok, bnd])⟩, by rw [ht]; exact hP9, hD9⟩, hS.F ht⟩) hS.2.2 dX10_pass_188
          · have hG := zelse hG c_44
            have c_44a := wi_ne c_44
            have c_44b := c_44a.2
            have c_44a := c_44a.1
            refine lv_iload hx hb dX10_pass_64 (lv_at hl 6 rfl) ?_
            refine lv_sipush (v := 1000) hx hb dX10_pass_66 (by decide) ?_
            refine z_i (wr := [(x0, .inr (10, [.ref w0, .ref z0, .ref xi, .ref xt, .int x_tl, .ref xq, .int x_lc, .ref rdr, .ref h0, .ref t0, .ref q0, .ref v0, .ref m0])), (w0, .inr (9, [.ref tnodes, .ref tpasses, .ref tjars, .ref torders, .ref tfeasts, .ref tway, .int tws, .int tnow, .int tfm, .int tx])), (tpasses, .inr (6, [.int 5, .ref tpassesA, .int tpassesS])), (tpassesA, .inl (kA 0, 100, .inl tpassesF)), (tnodes, .inr (6, [.int 4, .ref tnodesA, .int tnodesS]))]) (va_runS (As := [.int p4, .int 1000]) (rest := []) ⟨hx, hb, hml, hown, hts⟩ (mX10_within l dC dI kA _ p4 1000) (va_cwS 2 hts gX10_pass_X10_within rfl rfl rfl hdX10_within ⟨(Nat.le_of_ble_eq_true rfl), (Nat.le_of_ble_eq_true rfl)⟩) ⟨zPc.blind, zPre hK (hP.sub [] rfl) (hD.sub [] (by decide) rfl)⟩ rfl rfl hl.1 rfl (lv_room (Nat.le_of_ble_eq_true rfl)) dX10_pass_69 ⟨(Nat.le_of_ble_eq_true rfl), (Nat.le_of_ble_eq_true rfl)⟩) hP hD hS hA [] [0, 1, 2, 3, 4] rfl rfl (by decide) (by decide) (fun r49 u47 H locs hw48 hP hD hS => ?_)
            obtain rfl := hw48
            obtain ⟨hP, hD⟩ := z_re (L := [(x0, .inr (10, [.ref w0, .ref z0, .ref xi, .ref xt, .int x_tl, .ref xq, .int x_lc, .ref rdr, .ref h0, .ref t0, .ref q0, .ref v0, .ref m0])), (w0, .inr (9, [.ref tnodes, .ref tpasses, .ref tjars, .ref torders, .ref tfeasts, .ref tway, .int tws, .int tnow, .int tfm, .int tx])), (tpasses, .inr (6, [.int 5, .ref tpassesA, .int tpassesS])), (tpassesA, .inl (kA 0, 100, .inl tpassesF)), (tnodes, .inr (6, [.int 4, .ref tnodesA, .int tnodesS]))]) hP hD
            refine lv_if_eq (tgt := 79) hx hb dX10_pass_72 (by decide) (fun c_50 => ?_) (fun c_50 => ?_)
            · have hG := zthen hG c_50
              refine lv_iconst (v := 0) hx hb dX10_pass_79 (by decide) ?_
              refine lv_istore (lv' := [(7, .int 0), (6, .int 0), (0, .ref x0), (1, .int p0), (2, .int p1), (3, .int p2), (4, .int p3), (5, .int p4)]) hx hb dX10_pass_80 hl (by decide) rfl (fun ls hl => ?_)
              refine lv_iload hx hb dX10_pass_82 (lv_at hl 1 rfl) ?_
              refine lv_if_eq (tgt := 105) hx hb dX10_pass_84 (by decide) (fun _ => ?_) (fun c_51 => absurd (by decide) c_51)
              refine lv_iconst (v := (-1)) hx hb dX10_pass_105 (by decide) ?_
              refine lv_istore (lv' := [(8, .int (-1)), (7, .int 0), (6, .int 0), (0, .ref x0), (1, .int p0), (2, .int p1), (3, .int p2), (4, .int p3), (5, .int p4)]) hx hb dX10_pass_106 hl (by decide) rfl (fun ls hl => ?_)
              refine lv_iload hx hb dX10_pass_108 (lv_at hl 0 rfl) ?_
              refine lv_iconst (v := (-1)) hx hb dX10_pass_110 (by decide) ?_
              refine lv_icmp_eq (tgt := 186) hx hb dX10_pass_111 (by decide) (fun _ => ?_) (fun c_52 => absurd (by decide) c_52)
              refine lv_iload hx hb dX10_pass_186 (lv_at hl 0 rfl) ?_
              obtain ⟨hP9, hD9⟩ := z_sb (L' := [(x0, .inr (10, [.ref w0, .ref z0, .ref xi, .ref xt, .int x_tl, .ref xq, .int x_lc, .ref rdr, .ref h0, .ref t0, .ref q0, .ref v0, .ref m0])), (w0, .inr (9, [.ref tnodes, .ref tpasses, .ref tjars, .ref torders, .ref tfeasts, .ref tway, .int tws, .int tnow, .int tfm, .int tx])), (tnodes, .inr (6, [.int 4, .ref tnodesA, .int tnodesS])), (tpasses, .inr (6, [.int 5, .ref tpassesA, .int tpassesS])), (tpassesA, .inl (kA 0, 100, .inl tpassesF))]) hP hD [0, 1, 4, 2, 3] (by decide) rfl
              refine W.widen (k := 0) (n := 0) (Nat.le_of_ble_eq_true rfl) (Nat.le_of_ble_eq_true rfl) ?_
              exact W.iret (v := (-1)) hx hb hr (fun t ht hW => ⟨⟨(-1), (tpassesS, tpassesF), rfl, ⟨(by simp [sp_ps, c_4, c_4a, c_4b, c_31, c_32, c_38, c_38a, c_38b, c_44, c_44a, c_44b, c_50, fX6_grow_passes_ok, bnd]), (hG.trans hG0.symm), (by simp [sp_psz, c_4, c_4a, c_4b, c_31, c_32, c_38, c_38a, c_38b, c_44, c_44a, c_44b, c_50, fX6_grow_passes_ok, bnd])⟩, by rw [ht]; exact hP9, hD9⟩, hS.F ht⟩) hS.2.2 dX10_pass_188
            · have hG := zelse hG c_50
              have c_50a := wi_ne c_50
              have c_50b := c_50a.2
              have c_50a := c_50a.1
              refine lv_iconst (v := 1) hx hb dX10_pass_75 (by decide) ?_
              refine lv_goto (tgt := 80) hx hb dX10_pass_76 (by decide) ?_
              refine lv_istore (lv' := [(7, .int 1), (6, .int 0), (0, .ref x0), (1, .int p0), (2, .int p1), (3, .int p2), (4, .int p3), (5, .int p4)]) hx hb dX10_pass_80 hl (by decide) rfl (fun ls hl => ?_)
              refine lv_iload hx hb dX10_pass_82 (lv_at hl 1 rfl) ?_
              refine lv_if_eq (tgt := 105) hx hb dX10_pass_84 (by decide) (fun _ => ?_) (fun c_53 => absurd (by decide) c_53)
              refine lv_iconst (v := (-1)) hx hb dX10_pass_105 (by decide) ?_
              refine lv_istore (lv' := [(8, .int (-1)), (7, .int 1), (6, .int 0), (0, .ref x0), (1, .int p0), (2, .int p1), (3, .int p2), (4, .int p3), (5, .int p4)]) hx hb dX10_pass_106 hl (by decide) rfl (fun ls hl => ?_)
              refine lv_iload hx hb dX10_pass_108 (lv_at hl 0 rfl) ?_
              refine lv_iconst (v := (-1)) hx hb dX10_pass_110 (by decide) ?_
              refine lv_icmp_eq (tgt := 186) hx hb dX10_pass_111 (by decide) (fun _ => ?_) (fun c_54 => absurd (by decide) c_54)
              refine lv_iload hx hb dX10_pass_186 (lv_at hl 0 rfl) ?_
              obtain ⟨hP9, hD9⟩ := z_sb (L' := [(x0, .inr (10, [.ref w0, .ref z0, .ref xi, .ref xt, .int x_tl, .ref xq, .int x_lc, .ref rdr, .ref h0, .ref t0, .ref q0, .ref v0, .ref m0])), (w0, .inr (9, [.ref tnodes, .ref tpasses, .ref tjars, .ref torders, .ref tfeasts, .ref tway, .int tws, .int tnow, .int tfm, .int tx])), (tnodes, .inr (6, [.int 4, .ref tnodesA, .int tnodesS])), (tpasses, .inr (6, [.int 5, .ref tpassesA, .int tpassesS])), (tpassesA, .inl (kA 0, 100, .inl tpassesF))]) hP hD [0, 1, 4, 2, 3] (by decide) rfl
              refine W.widen (k := 0) (n := 0) (Nat.le_of_ble_eq_true rfl) (Nat.le_of_ble_eq_true rfl) ?_
              exact W.iret (v := (-1)) hx hb hr (fun t ht hW => ⟨⟨(-1), (tpassesS, tpassesF), rfl, ⟨(by simp [sp_ps, c_4, c_4a, c_4b, c_31, c_32, c_38, c_38a, c_38b, c_44, c_44a, c_44b, c_50, c_50a, c_50b, fX6_grow_passes_ok, bnd]), (hG.trans hG0.symm), (by simp [sp_psz, c_4, c_4a, c_4b, c_31, c_32, c_38, c_38a, c_38b, c_44, c_44a, c_44b, c_50, c_50a, c_50b, fX6_grow_passes_ok, bnd])⟩, by rw [ht]; exact hP9, hD9⟩, hS.F ht⟩) hS.2.2 dX10_pass_188
    · have hG := zelse hG c_31
      have c_31a := hs_ne c_31
      have c_31b := c_31a.2
      have c_31a := c_31a.1
      refine lv_iload_n hx hb dX10_pass_28 rfl (lv_at hl 1 rfl) ?_
      refine lv_iload_n hx hb dX10_pass_29 rfl (lv_at hl 2 rfl) ?_
      refine lv_icmp_eq (tgt := 37) hx hb dX10_pass_30 (by decide) (fun c_55 => ?_) (fun c_55 => ?_)
      · have hG := zthen hG c_55
        refine lv_iconst (v := 0) hx hb dX10_pass_37 (by decide) ?_
        refine lv_istore (lv' := [(6, .int 0), (0, .ref x0), (1, .int p0), (2, .int p1), (3, .int p2), (4, .int p3), (5, .int p4)]) hx hb dX10_pass_38 hl (by decide) rfl (fun ls hl => ?_)
        refine lv_iload_n hx hb dX10_pass_40 rfl (lv_at hl 4 rfl) ?_
        refine lv_iconst (v := 1) hx hb dX10_pass_41 (by decide) ?_
        refine lv_icmp_lt (tgt := 79) hx hb dX10_pass_42 (by decide) (fun c_56 => ?_) (fun c_56 => ?_)
        · have hG := zthen hG c_56
          refine lv_iconst (v := 0) hx hb dX10_pass_79 (by decide) ?_
          refine lv_istore (lv' := [(7, .int 0), (6, .int 0), (0, .ref x0), (1, .int p0), (2, .int p1), (3, .int p2), (4, .int p3), (5, .int p4)]) hx hb dX10_pass_80 hl (by decide) rfl (fun ls hl => ?_)
          refine lv_iload hx hb dX10_pass_82 (lv_at hl 1 rfl) ?_
          refine lv_if_eq (tgt := 105) hx hb dX10_pass_84 (by decide) (fun _ => ?_) (fun c_57 => absurd (by decide) c_57)
          refine lv_iconst (v := (-1)) hx hb dX10_pass_105 (by decide) ?_
          refine lv_istore (lv' := [(8, .int (-1)), (7, .int 0), (6, .int 0), (0, .ref x0), (1, .int p0), (2, .int p1), (3, .int p2), (4, .int p3), (5, .int p4)]) hx hb dX10_pass_106 hl (by decide) rfl (fun ls hl => ?_)
          refine lv_iload hx hb dX10_pass_108 (lv_at hl 0 rfl) ?_
          refine lv_iconst (v := (-1)) hx hb dX10_pass_110 (by decide) ?_
          refine lv_icmp_eq (tgt := 186) hx hb dX10_pass_111 (by decide) (fun _ => ?_) (fun c_58 => absurd (by decide) c_58)
          refine lv_iload hx hb dX10_pass_186 (lv_at hl 0 rfl) ?_
          obtain ⟨hP9, hD9⟩ := z_sb (L' := [(x0, .inr (10, [.ref w0, .ref z0, .ref xi, .ref xt, .int x_tl, .ref xq, .int x_lc, .ref rdr, .ref h0, .ref t0, .ref q0, .ref v0, .ref m0])), (w0, .inr (9, [.ref tnodes, .ref tpasses, .ref tjars, .ref torders, .ref tfeasts, .ref tway, .int tws, .int tnow, .int tfm, .int tx])), (tnodes, .inr (6, [.int 4, .ref tnodesA, .int tnodesS])), (tpasses, .inr (6, [.int 5, .ref tpassesA, .int tpassesS])), (tpassesA, .inl (kA 0, 100, .inl tpassesF))]) hP hD [0, 1, 4, 2, 3] (by decide) rfl
          refine W.widen (k := 0) (n := 0) (Nat.le_of_ble_eq_true rfl) (Nat.le_of_ble_eq_true rfl) ?_
          exact W.iret (v := (-1)) hx hb hr (fun t ht hW => ⟨⟨(-1), (tpassesS, tpassesF), rfl, ⟨(by simp [sp_ps, c_4, c_4a, c_4b, c_31, c_31a, c_31b, c_55, c_56, fX6_grow_passes_ok, bnd]), (hG.trans hG0.symm), (by simp [sp_psz, c_4, c_4a, c_4b, c_31, c_31a, c_31b, c_55, c_56, fX6_grow_passes_ok, bnd])⟩, by rw [ht]; exact hP9, hD9⟩, hS.F ht⟩) hS.2.2 dX10_pass_188
        · have hG := zelse hG c_56
          refine lv_iload_n hx hb dX10_pass_45 rfl (lv_at hl 4 rfl) ?_
          refine lv_bipush (v := 24) hx hb dX10_pass_46 (by decide) ?_
          refine z_i (wr := [(x0, .inr (10, [.ref w0, .ref z0, .ref xi, .ref xt, .int x_tl, .ref xq, .int x_lc, .ref rdr, .ref h0, .ref t0, .ref q0, .ref v0, .ref m0])), (w0, .inr (9, [.ref tnodes, .ref tpasses, .ref tjars, .ref torders, .ref tfeasts, .ref tway, .int tws, .int tnow, .int tfm, .int tx])), (tpasses, .inr (6, [.int 5, .ref tpassesA, .int tpassesS])), (tpassesA, .inl (kA 0, 100, .inl tpassesF)), (tnodes, .inr (6, [.int 4, .ref tnodesA, .int tnodesS]))]) (va_runS (As := [.int p2, .int 24]) (rest := []) ⟨hx, hb, hml, hown, hts⟩ (mX10_within l dC dI kA _ p2 24) (va_cwS 2 hts gX10_pass_X10_within rfl rfl rfl hdX10_within ⟨(Nat.le_of_ble_eq_true rfl), (Nat.le_of_ble_eq_true rfl)⟩) ⟨zPc.blind, zPre hK (hP.sub [] rfl) (hD.sub [] (by decide) rfl)⟩ rfl rfl hl.1 rfl (lv_room (Nat.le_of_ble_eq_true rfl)) dX10_pass_48 ⟨(Nat.le_of_ble_eq_true rfl), (Nat.le_of_ble_eq_true rfl)⟩) hP hD hS hA [] [0, 1, 2, 3, 4] rfl rfl (by decide) (by decide) (fun r61 u59 H locs hw60 hP hD hS => ?_)
          obtain rfl := hw60
          obtain ⟨hP, hD⟩ := z_re (L := [(x0, .inr (10, [.ref w0, .ref z0, .ref xi, .ref xt, .int x_tl, .ref xq, .int x_lc, .ref rdr, .ref h0, .ref t0, .ref q0, .ref v0, .ref m0])), (w0, .inr (9, [.ref tnodes, .ref tpasses, .ref tjars, .ref torders, .ref tfeasts, .ref tway, .int tws, .int tnow, .int tfm, .int tx])), (tpasses, .inr (6, [.int 5, .ref tpassesA, .int tpassesS])), (tpassesA, .inl (kA 0, 100, .inl tpassesF)), (tnodes, .inr (6, [.int 4, .ref tnodesA, .int tnodesS]))]) hP hD
          refine lv_if_eq (tgt := 79) hx hb dX10_pass_51 (by decide) (fun c_62 => ?_) (fun c_62 => ?_)
          · have hG := zthen hG c_62
            refine lv_iconst (v := 0) hx hb dX10_pass_79 (by decide) ?_
            refine lv_istore (lv' := [(7, .int 0), (6, .int 0), (0, .ref x0), (1, .int p0), (2, .int p1), (3, .int p2), (4, .int p3), (5, .int p4)]) hx hb dX10_pass_80 hl (by decide) rfl (fun ls hl => ?_)
            refine lv_iload hx hb dX10_pass_82 (lv_at hl 1 rfl) ?_
            refine lv_if_eq (tgt := 105) hx hb dX10_pass_84 (by decide) (fun _ => ?_) (fun c_63 => absurd (by decide) c_63)
            refine lv_iconst (v := (-1)) hx hb dX10_pass_105 (by decide) ?_
            refine lv_istore (lv' := [(8, .int (-1)), (7, .int 0), (6, .int 0), (0, .ref x0), (1, .int p0), (2, .int p1), (3, .int p2), (4, .int p3), (5, .int p4)]) hx hb dX10_pass_106 hl (by decide) rfl (fun ls hl => ?_)
            refine lv_iload hx hb dX10_pass_108 (lv_at hl 0 rfl) ?_
            refine lv_iconst (v := (-1)) hx hb dX10_pass_110 (by decide) ?_
            refine lv_icmp_eq (tgt := 186) hx hb dX10_pass_111 (by decide) (fun _ => ?_) (fun c_64 => absurd (by decide) c_64)
            refine lv_iload hx hb dX10_pass_186 (lv_at hl 0 rfl) ?_
            obtain ⟨hP9, hD9⟩ := z_sb (L' := [(x0, .inr (10, [.ref w0, .ref z0, .ref xi, .ref xt, .int x_tl, .ref xq, .int x_lc, .ref rdr, .ref h0, .ref t0, .ref q0, .ref v0, .ref m0])), (w0, .inr (9, [.ref tnodes, .ref tpasses, .ref tjars, .ref torders, .ref tfeasts, .ref tway, .int tws, .int tnow, .int tfm, .int tx])), (tnodes, .inr (6, [.int 4, .ref tnodesA, .int tnodesS])), (tpasses, .inr (6, [.int 5, .ref tpassesA, .int tpassesS])), (tpassesA, .inl (kA 0, 100, .inl tpassesF))]) hP hD [0, 1, 4, 2, 3] (by decide) rfl
            refine W.widen (k := 0) (n := 0) (Nat.le_of_ble_eq_true rfl) (Nat.le_of_ble_eq_true rfl) ?_
            exact W.iret (v := (-1)) hx hb hr (fun t ht hW => ⟨⟨(-1), (tpassesS, tpassesF), rfl, ⟨(by simp [sp_ps, c_4, c_4a, c_4b, c_31, c_31a, c_31b, c_55, c_56, c_62, fX6_grow_passes_ok, bnd]), (hG.trans hG0.symm), (by simp [sp_psz, c_4, c_4a, c_4b, c_31, c_31a, c_31b, c_55, c_56, c_62, fX6_grow_passes_ok, bnd])⟩, by rw [ht]; exact hP9, hD9⟩, hS.F ht⟩) hS.2.2 dX10_pass_188
          · have hG := zelse hG c_62
            have c_62a := wi_ne c_62
            have c_62b := c_62a.2
            have c_62a := c_62a.1
            refine lv_iload hx hb dX10_pass_54 (lv_at hl 5 rfl) ?_
            refine lv_bipush (v := 9) hx hb dX10_pass_56 (by decide) ?_
            refine z_i (wr := [(x0, .inr (10, [.ref w0, .ref z0, .ref xi, .ref xt, .int x_tl, .ref xq, .int x_lc, .ref rdr, .ref h0, .ref t0, .ref q0, .ref v0, .ref m0])), (w0, .inr (9, [.ref tnodes, .ref tpasses, .ref tjars, .ref torders, .ref tfeasts, .ref tway, .int tws, .int tnow, .int tfm, .int tx])), (tpasses, .inr (6, [.int 5, .ref tpassesA, .int tpassesS])), (tpassesA, .inl (kA 0, 100, .inl tpassesF)), (tnodes, .inr (6, [.int 4, .ref tnodesA, .int tnodesS]))]) (va_runS (As := [.int p3, .int 9]) (rest := []) ⟨hx, hb, hml, hown, hts⟩ (mX10_within l dC dI kA _ p3 9) (va_cwS 2 hts gX10_pass_X10_within rfl rfl rfl hdX10_within ⟨(Nat.le_of_ble_eq_true rfl), (Nat.le_of_ble_eq_true rfl)⟩) ⟨zPc.blind, zPre hK (hP.sub [] rfl) (hD.sub [] (by decide) rfl)⟩ rfl rfl hl.1 rfl (lv_room (Nat.le_of_ble_eq_true rfl)) dX10_pass_58 ⟨(Nat.le_of_ble_eq_true rfl), (Nat.le_of_ble_eq_true rfl)⟩) hP hD hS hA [] [0, 1, 2, 3, 4] rfl rfl (by decide) (by decide) (fun r67 u65 H locs hw66 hP hD hS => ?_)
            obtain rfl := hw66
            obtain ⟨hP, hD⟩ := z_re (L := [(x0, .inr (10, [.ref w0, .ref z0, .ref xi, .ref xt, .int x_tl, .ref xq, .int x_lc, .ref rdr, .ref h0, .ref t0, .ref q0, .ref v0, .ref m0])), (w0, .inr (9, [.ref tnodes, .ref tpasses, .ref tjars, .ref torders, .ref tfeasts, .ref tway, .int tws, .int tnow, .int tfm, .int tx])), (tpasses, .inr (6, [.int 5, .ref tpassesA, .int tpassesS])), (tpassesA, .inl (kA 0, 100, .inl tpassesF)), (tnodes, .inr (6, [.int 4, .ref tnodesA, .int tnodesS]))]) hP hD
            refine lv_if_eq (tgt := 79) hx hb dX10_pass_61 (by decide) (fun c_68 => ?_) (fun c_68 => ?_)
            · have hG := zthen hG c_68
              refine lv_iconst (v := 0) hx hb dX10_pass_79 (by decide) ?_
              refine lv_istore (lv' := [(7, .int 0), (6, .int 0), (0, .ref x0), (1, .int p0), (2, .int p1), (3, .int p2), (4, .int p3), (5, .int p4)]) hx hb dX10_pass_80 hl (by decide) rfl (fun ls hl => ?_)
              refine lv_iload hx hb dX10_pass_82 (lv_at hl 1 rfl) ?_
              refine lv_if_eq (tgt := 105) hx hb dX10_pass_84 (by decide) (fun _ => ?_) (fun c_69 => absurd (by decide) c_69)
              refine lv_iconst (v := (-1)) hx hb dX10_pass_105 (by decide) ?_
              refine lv_istore (lv' := [(8, .int (-1)), (7, .int 0), (6, .int 0), (0, .ref x0), (1, .int p0), (2, .int p1), (3, .int p2), (4, .int p3), (5, .int p4)]) hx hb dX10_pass_106 hl (by decide) rfl (fun ls hl => ?_)
              refine lv_iload hx hb dX10_pass_108 (lv_at hl 0 rfl) ?_
              refine lv_iconst (v := (-1)) hx hb dX10_pass_110 (by decide) ?_
              refine lv_icmp_eq (tgt := 186) hx hb dX10_pass_111 (by decide) (fun _ => ?_) (fun c_70 => absurd (by decide) c_70)
              refine lv_iload hx hb dX10_pass_186 (lv_at hl 0 rfl) ?_
              obtain ⟨hP9, hD9⟩ := z_sb (L' := [(x0, .inr (10, [.ref w0, .ref z0, .ref xi, .ref xt, .int x_tl, .ref xq, .int x_lc, .ref rdr, .ref h0, .ref t0, .ref q0, .ref v0, .ref m0])), (w0, .inr (9, [.ref tnodes, .ref tpasses, .ref tjars, .ref torders, .ref tfeasts, .ref tway, .int tws, .int tnow, .int tfm, .int tx])), (tnodes, .inr (6, [.int 4, .ref tnodesA, .int tnodesS])), (tpasses, .inr (6, [.int 5, .ref tpassesA, .int tpassesS])), (tpassesA, .inl (kA 0, 100, .inl tpassesF))]) hP hD [0, 1, 4, 2, 3] (by decide) rfl
              refine W.widen (k := 0) (n := 0) (Nat.le_of_ble_eq_true rfl) (Nat.le_of_ble_eq_true rfl) ?_
              exact W.iret (v := (-1)) hx hb hr (fun t ht hW => ⟨⟨(-1), (tpassesS, tpassesF), rfl, ⟨(by simp [sp_ps, c_4, c_4a, c_4b, c_31, c_31a, c_31b, c_55, c_56, c_62, c_62a, c_62b, c_68, fX6_grow_passes_ok, bnd]), (hG.trans hG0.symm), (by simp [sp_psz, c_4, c_4a, c_4b, c_31, c_31a, c_31b, c_55, c_56, c_62, c_62a, c_62b, c_68, fX6_grow_passes_ok, bnd])⟩, by rw [ht]; exact hP9, hD9⟩, hS.F ht⟩) hS.2.2 dX10_pass_188
            · have hG := zelse hG c_68
              have c_68a := wi_ne c_68
              have c_68b := c_68a.2
              have c_68a := c_68a.1
              refine lv_iload hx hb dX10_pass_64 (lv_at hl 6 rfl) ?_
              refine lv_sipush (v := 1000) hx hb dX10_pass_66 (by decide) ?_
              refine z_i (wr := [(x0, .inr (10, [.ref w0, .ref z0, .ref xi, .ref xt, .int x_tl, .ref xq, .int x_lc, .ref rdr, .ref h0, .ref t0, .ref q0, .ref v0, .ref m0])), (w0, .inr (9, [.ref tnodes, .ref tpasses, .ref tjars, .ref torders, .ref tfeasts, .ref tway, .int tws, .int tnow, .int tfm, .int tx])), (tpasses, .inr (6, [.int 5, .ref tpassesA, .int tpassesS])), (tpassesA, .inl (kA 0, 100, .inl tpassesF)), (tnodes, .inr (6, [.int 4, .ref tnodesA, .int tnodesS]))]) (va_runS (As := [.int p4, .int 1000]) (rest := []) ⟨hx, hb, hml, hown, hts⟩ (mX10_within l dC dI kA _ p4 1000) (va_cwS 2 hts gX10_pass_X10_within rfl rfl rfl hdX10_within ⟨(Nat.le_of_ble_eq_true rfl), (Nat.le_of_ble_eq_true rfl)⟩) ⟨zPc.blind, zPre hK (hP.sub [] rfl) (hD.sub [] (by decide) rfl)⟩ rfl rfl hl.1 rfl (lv_room (Nat.le_of_ble_eq_true rfl)) dX10_pass_69 ⟨(Nat.le_of_ble_eq_true rfl), (Nat.le_of_ble_eq_true rfl)⟩) hP hD hS hA [] [0, 1, 2, 3, 4] rfl rfl (by decide) (by decide) (fun r73 u71 H locs hw72 hP hD hS => ?_)
              obtain rfl := hw72
              obtain ⟨hP, hD⟩ := z_re (L := [(x0, .inr (10, [.ref w0, .ref z0, .ref xi, .ref xt, .int x_tl, .ref xq, .int x_lc, .ref rdr, .ref h0, .ref t0, .ref q0, .ref v0, .ref m0])), (w0, .inr (9, [.ref tnodes, .ref tpasses, .ref tjars, .ref torders, .ref tfeasts, .ref tway, .int tws, .int tnow, .int tfm, .int tx])), (tpasses, .inr (6, [.int 5, .ref tpassesA, .int tpassesS])), (tpassesA, .inl (kA 0, 100, .inl tpassesF)), (tnodes, .inr (6, [.int 4, .ref tnodesA, .int tnodesS]))]) hP hD
              refine lv_if_eq (tgt := 79) hx hb dX10_pass_72 (by decide) (fun c_74 => ?_) (fun c_74 => ?_)
              · have hG := zthen hG c_74
                refine lv_iconst (v := 0) hx hb dX10_pass_79 (by decide) ?_
                refine lv_istore (lv' := [(7, .int 0), (6, .int 0), (0, .ref x0), (1, .int p0), (2, .int p1), (3, .int p2), (4, .int p3), (5, .int p4)]) hx hb dX10_pass_80 hl (by decide) rfl (fun ls hl => ?_)
                refine lv_iload hx hb dX10_pass_82 (lv_at hl 1 rfl) ?_
                refine lv_if_eq (tgt := 105) hx hb dX10_pass_84 (by decide) (fun _ => ?_) (fun c_75 => absurd (by decide) c_75)
                refine lv_iconst (v := (-1)) hx hb dX10_pass_105 (by decide) ?_
                refine lv_istore (lv' := [(8, .int (-1)), (7, .int 0), (6, .int 0), (0, .ref x0), (1, .int p0), (2, .int p1), (3, .int p2), (4, .int p3), (5, .int p4)]) hx hb dX10_pass_106 hl (by decide) rfl (fun ls hl => ?_)
                refine lv_iload hx hb dX10_pass_108 (lv_at hl 0 rfl) ?_
                refine lv_iconst (v := (-1)) hx hb dX10_pass_110 (by decide) ?_
                refine lv_icmp_eq (tgt := 186) hx hb dX10_pass_111 (by decide) (fun _ => ?_) (fun c_76 => absurd (by decide) c_76)
                refine lv_iload hx hb dX10_pass_186 (lv_at hl 0 rfl) ?_
                obtain ⟨hP9, hD9⟩ := z_sb (L' := [(x0, .inr (10, [.ref w0, .ref z0, .ref xi, .ref xt, .int x_tl, .ref xq, .int x_lc, .ref rdr, .ref h0, .ref t0, .ref q0, .ref v0, .ref m0])), (w0, .inr (9, [.ref tnodes, .ref tpasses, .ref tjars, .ref torders, .ref tfeasts, .ref tway, .int tws, .int tnow, .int tfm, .int tx])), (tnodes, .inr (6, [.int 4, .ref tnodesA, .int tnodesS])), (tpasses, .inr (6, [.int 5, .ref tpassesA, .int tpassesS])), (tpassesA, .inl (kA 0, 100, .inl tpassesF))]) hP hD [0, 1, 4, 2, 3] (by decide) rfl
                refine W.widen (k := 0) (n := 0) (Nat.le_of_ble_eq_true rfl) (Nat.le_of_ble_eq_true rfl) ?_
                exact W.iret (v := (-1)) hx hb hr (fun t ht hW => ⟨⟨(-1), (tpassesS, tpassesF), rfl, ⟨(by simp [sp_ps, c_4, c_4a, c_4b, c_31, c_31a, c_31b, c_55, c_56, c_62, c_62a, c_62b, c_68, c_68a, c_68b, c_74, fX6_grow_passes_ok, bnd]), (hG.trans hG0.symm), (by simp [sp_psz, c_4, c_4a, c_4b, c_31, c_31a, c_31b, c_55, c_56, c_62, c_62a, c_62b, c_68, c_68a, c_68b, c_74, fX6_grow_passes_ok, bnd])⟩, by rw [ht]; exact hP9, hD9⟩, hS.F ht⟩) hS.2.2 dX10_pass_188
              · have hG := zelse hG c_74
                have c_74a := wi_ne c_74
                have c_74b := c_74a.2
                have c_74a := c_74a.1
                refine lv_iconst (v := 1) hx hb dX10_pass_75 (by decide) ?_
                refine lv_goto (tgt := 80) hx hb dX10_pass_76 (by decide) ?_
                refine lv_istore (lv' := [(7, .int 1), (6, .int 0), (0, .ref x0), (1, .int p0), (2, .int p1), (3, .int p2), (4, .int p3), (5, .int p4)]) hx hb dX10_pass_80 hl (by decide) rfl (fun ls hl => ?_)
                refine lv_iload hx hb dX10_pass_82 (lv_at hl 1 rfl) ?_
                refine lv_if_eq (tgt := 105) hx hb dX10_pass_84 (by decide) (fun _ => ?_) (fun c_77 => absurd (by decide) c_77)
                refine lv_iconst (v := (-1)) hx hb dX10_pass_105 (by decide) ?_
                refine lv_istore (lv' := [(8, .int (-1)), (7, .int 1), (6, .int 0), (0, .ref x0), (1, .int p0), (2, .int p1), (3, .int p2), (4, .int p3), (5, .int p4)]) hx hb dX10_pass_106 hl (by decide) rfl (fun ls hl => ?_)
                refine lv_iload hx hb dX10_pass_108 (lv_at hl 0 rfl) ?_
                refine lv_iconst (v := (-1)) hx hb dX10_pass_110 (by decide) ?_
                refine lv_icmp_eq (tgt := 186) hx hb dX10_pass_111 (by decide) (fun _ => ?_) (fun c_78 => absurd (by decide) c_78)
                refine lv_iload hx hb dX10_pass_186 (lv_at hl 0 rfl) ?_
                obtain ⟨hP9, hD9⟩ := z_sb (L' := [(x0, .inr (10, [.ref w0, .ref z0, .ref xi, .ref xt, .int x_tl, .ref xq, .int x_lc, .ref rdr, .ref h0, .ref t0, .ref q0, .ref v0, .ref m0])), (w0, .inr (9, [.ref tnodes, .ref tpasses, .ref tjars, .ref torders, .ref tfeasts, .ref tway, .int tws, .int tnow, .int tfm, .int tx])), (tnodes, .inr (6, [.int 4, .ref tnodesA, .int tnodesS])), (tpasses, .inr (6, [.int 5, .ref tpassesA, .int tpassesS])), (tpassesA, .inl (kA 0, 100, .inl tpassesF))]) hP hD [0, 1, 4, 2, 3] (by decide) rfl
                refine W.widen (k := 0) (n := 0) (Nat.le_of_ble_eq_true rfl) (Nat.le_of_ble_eq_true rfl) ?_
                exact W.iret (v := (-1)) hx hb hr (fun t ht hW => ⟨⟨(-1), (tpassesS, tpassesF), rfl, ⟨(by simp [sp_ps, c_4, c_4a, c_4b, c_31, c_31a, c_31b, c_55, c_56, c_62, c_62a, c_62b, c_68, c_68a, c_68b, c_74, c_74a, c_74b, fX6_grow_passes_ok, bnd]), (hG.trans hG0.symm), (by simp [sp_psz, c_4, c_4a, c_4b, c_31, c_31a, c_31b, c_55, c_56, c_62, c_62a, c_62b, c_68, c_68a, c_68b, c_74, c_74a, c_74b, fX6_grow_passes_ok, bnd])⟩, by rw [ht]; exact hP9, hD9⟩, hS.F ht⟩) hS.2.2 dX10_pass_188
      · have hG := zelse hG c_55
        refine lv_iconst (v := 1) hx hb dX10_pass_33 (by decide) ?_
        refine lv_goto (tgt := 38) hx hb dX10_pass_34 (by decide) ?_
        refine lv_istore (lv' := [(6, .int 1), (0, .ref x0), (1, .int p0), (2, .int p1), (3, .int p2), (4, .int p3), (5, .int p4)]) hx hb dX10_pass_38 hl (by decide) rfl (fun ls hl => ?_)
        refine lv_iload_n hx hb dX10_pass_40 rfl (lv_at hl 4 rfl) ?_
        refine lv_iconst (v := 1) hx hb dX10_pass_41 (by decide) ?_
        refine lv_icmp_lt (tgt := 79) hx hb dX10_pass_42 (by decide) (fun c_79 => ?_) (fun c_79 => ?_)
        · have hG := zthen hG c_79
          refine lv_iconst (v := 0) hx hb dX10_pass_79 (by decide) ?_
          refine lv_istore (lv' := [(7, .int 0), (6, .int 1), (0, .ref x0), (1, .int p0), (2, .int p1), (3, .int p2), (4, .int p3), (5, .int p4)]) hx hb dX10_pass_80 hl (by decide) rfl (fun ls hl => ?_)
          refine lv_iload hx hb dX10_pass_82 (lv_at hl 1 rfl) ?_
          refine lv_if_eq (tgt := 105) hx hb dX10_pass_84 (by decide) (fun c_80 => absurd c_80 (by decide)) (fun _ => ?_)
          refine lv_iload hx hb dX10_pass_87 (lv_at hl 0 rfl) ?_
          refine lv_if_eq (tgt := 105) hx hb dX10_pass_89 (by decide) (fun _ => ?_) (fun c_81 => absurd (by decide) c_81)
          refine lv_iconst (v := (-1)) hx hb dX10_pass_105 (by decide) ?_
          refine lv_istore (lv' := [(8, .int (-1)), (7, .int 0), (6, .int 1), (0, .ref x0), (1, .int p0), (2, .int p1), (3, .int p2), (4, .int p3), (5, .int p4)]) hx hb dX10_pass_106 hl (by decide) rfl (fun ls hl => ?_)
          refine lv_iload hx hb dX10_pass_108 (lv_at hl 0 rfl) ?_
          refine lv_iconst (v := (-1)) hx hb dX10_pass_110 (by decide) ?_
          refine lv_icmp_eq (tgt := 186) hx hb dX10_pass_111 (by decide) (fun _ => ?_) (fun c_82 => absurd (by decide) c_82)
          refine lv_iload hx hb dX10_pass_186 (lv_at hl 0 rfl) ?_
          obtain ⟨hP9, hD9⟩ := z_sb (L' := [(x0, .inr (10, [.ref w0, .ref z0, .ref xi, .ref xt, .int x_tl, .ref xq, .int x_lc, .ref rdr, .ref h0, .ref t0, .ref q0, .ref v0, .ref m0])), (w0, .inr (9, [.ref tnodes, .ref tpasses, .ref tjars, .ref torders, .ref tfeasts, .ref tway, .int tws, .int tnow, .int tfm, .int tx])), (tnodes, .inr (6, [.int 4, .ref tnodesA, .int tnodesS])), (tpasses, .inr (6, [.int 5, .ref tpassesA, .int tpassesS])), (tpassesA, .inl (kA 0, 100, .inl tpassesF))]) hP hD [0, 1, 4, 2, 3] (by decide) rfl
          refine W.widen (k := 0) (n := 0) (Nat.le_of_ble_eq_true rfl) (Nat.le_of_ble_eq_true rfl) ?_
          exact W.iret (v := (-1)) hx hb hr (fun t ht hW => ⟨⟨(-1), (tpassesS, tpassesF), rfl, ⟨(by simp [sp_ps, c_4, c_4a, c_4b, c_31, c_31a, c_31b, c_55, c_79, fX6_grow_passes_ok, bnd]), (hG.trans hG0.symm), (by simp [sp_psz, c_4, c_4a, c_4b, c_31, c_31a, c_31b, c_55, c_79, fX6_grow_passes_ok, bnd])⟩, by rw [ht]; exact hP9, hD9⟩, hS.F ht⟩) hS.2.2 dX10_pass_188
        · have hG := zelse hG c_79
          refine lv_iload_n hx hb dX10_pass_45 rfl (lv_at hl 4 rfl) ?_
          refine lv_bipush (v := 24) hx hb dX10_pass_46 (by decide) ?_
          refine z_i (wr := [(x0, .inr (10, [.ref w0, .ref z0, .ref xi, .ref xt, .int x_tl, .ref xq, .int x_lc, .ref rdr, .ref h0, .ref t0, .ref q0, .ref v0, .ref m0])), (w0, .inr (9, [.ref tnodes, .ref tpasses, .ref tjars, .ref torders, .ref tfeasts, .ref tway, .int tws, .int tnow, .int tfm, .int tx])), (tpasses, .inr (6, [.int 5, .ref tpassesA, .int tpassesS])), (tpassesA, .inl (kA 0, 100, .inl tpassesF)), (tnodes, .inr (6, [.int 4, .ref tnodesA, .int tnodesS]))]) (va_runS (As := [.int p2, .int 24]) (rest := []) ⟨hx, hb, hml, hown, hts⟩ (mX10_within l dC dI kA _ p2 24) (va_cwS 2 hts gX10_pass_X10_within rfl rfl rfl hdX10_within ⟨(Nat.le_of_ble_eq_true rfl), (Nat.le_of_ble_eq_true rfl)⟩) ⟨zPc.blind, zPre hK (hP.sub [] rfl) (hD.sub [] (by decide) rfl)⟩ rfl rfl hl.1 rfl (lv_room (Nat.le_of_ble_eq_true rfl)) dX10_pass_48 ⟨(Nat.le_of_ble_eq_true rfl), (Nat.le_of_ble_eq_true rfl)⟩) hP hD hS hA [] [0, 1, 2, 3, 4] rfl rfl (by decide) (by decide) (fun r85 u83 H locs hw84 hP hD hS => ?_)
          obtain rfl := hw84
          obtain ⟨hP, hD⟩ := z_re (L := [(x0, .inr (10, [.ref w0, .ref z0, .ref xi, .ref xt, .int x_tl, .ref xq, .int x_lc, .ref rdr, .ref h0, .ref t0, .ref q0, .ref v0, .ref m0])), (w0, .inr (9, [.ref tnodes, .ref tpasses, .ref tjars, .ref torders, .ref tfeasts, .ref tway, .int tws, .int tnow, .int tfm, .int tx])), (tpasses, .inr (6, [.int 5, .ref tpassesA, .int tpassesS])), (tpassesA, .inl (kA 0, 100, .inl tpassesF)), (tnodes, .inr (6, [.int 4, .ref tnodesA, .int tnodesS]))]) hP hD
          refine lv_if_eq (tgt := 79) hx hb dX10_pass_51 (by decide) (fun c_86 => ?_) (fun c_86 => ?_)
          · have hG := zthen hG c_86
            refine lv_iconst (v := 0) hx hb dX10_pass_79 (by decide) ?_
            refine lv_istore (lv' := [(7, .int 0), (6, .int 1), (0, .ref x0), (1, .int p0), (2, .int p1), (3, .int p2), (4, .int p3), (5, .int p4)]) hx hb dX10_pass_80 hl (by decide) rfl (fun ls hl => ?_)
            refine lv_iload hx hb dX10_pass_82 (lv_at hl 1 rfl) ?_
            refine lv_if_eq (tgt := 105) hx hb dX10_pass_84 (by decide) (fun c_87 => absurd c_87 (by decide)) (fun _ => ?_)
            refine lv_iload hx hb dX10_pass_87 (lv_at hl 0 rfl) ?_
            refine lv_if_eq (tgt := 105) hx hb dX10_pass_89 (by decide) (fun _ => ?_) (fun c_88 => absurd (by decide) c_88)
            refine lv_iconst (v := (-1)) hx hb dX10_pass_105 (by decide) ?_
            refine lv_istore (lv' := [(8, .int (-1)), (7, .int 0), (6, .int 1), (0, .ref x0), (1, .int p0), (2, .int p1), (3, .int p2), (4, .int p3), (5, .int p4)]) hx hb dX10_pass_106 hl (by decide) rfl (fun ls hl => ?_)
            refine lv_iload hx hb dX10_pass_108 (lv_at hl 0 rfl) ?_
            refine lv_iconst (v := (-1)) hx hb dX10_pass_110 (by decide) ?_
            refine lv_icmp_eq (tgt := 186) hx hb dX10_pass_111 (by decide) (fun _ => ?_) (fun c_89 => absurd (by decide) c_89)
            refine lv_iload hx hb dX10_pass_186 (lv_at hl 0 rfl) ?_
            obtain ⟨hP9, hD9⟩ := z_sb (L' := [(x0, .inr (10, [.ref w0, .ref z0, .ref xi, .ref xt, .int x_tl, .ref xq, .int x_lc, .ref rdr, .ref h0, .ref t0, .ref q0, .ref v0, .ref m0])), (w0, .inr (9, [.ref tnodes, .ref tpasses, .ref tjars, .ref torders, .ref tfeasts, .ref tway, .int tws, .int tnow, .int tfm, .int tx])), (tnodes, .inr (6, [.int 4, .ref tnodesA, .int tnodesS])), (tpasses, .inr (6, [.int 5, .ref tpassesA, .int tpassesS])), (tpassesA, .inl (kA 0, 100, .inl tpassesF))]) hP hD [0, 1, 4, 2, 3] (by decide) rfl
            refine W.widen (k := 0) (n := 0) (Nat.le_of_ble_eq_true rfl) (Nat.le_of_ble_eq_true rfl) ?_
            exact W.iret (v := (-1)) hx hb hr (fun t ht hW => ⟨⟨(-1), (tpassesS, tpassesF), rfl, ⟨(by simp [sp_ps, c_4, c_4a, c_4b, c_31, c_31a, c_31b, c_55, c_79, c_86, fX6_grow_passes_ok, bnd]), (hG.trans hG0.symm), (by simp [sp_psz, c_4, c_4a, c_4b, c_31, c_31a, c_31b, c_55, c_79, c_86, fX6_grow_passes_ok, bnd])⟩, by rw [ht]; exact hP9, hD9⟩, hS.F ht⟩) hS.2.2 dX10_pass_188
          · have hG := zelse hG c_86
            have c_86a := wi_ne c_86
            have c_86b := c_86a.2
            have c_86a := c_86a.1
            refine lv_iload hx hb dX10_pass_54 (lv_at hl 5 rfl) ?_
            refine lv_bipush (v := 9) hx hb dX10_pass_56 (by decide) ?_
            refine z_i (wr := [(x0, .inr (10, [.ref w0, .ref z0, .ref xi, .ref xt, .int x_tl, .ref xq, .int x_lc, .ref rdr, .ref h0, .ref t0, .ref q0, .ref v0, .ref m0])), (w0, .inr (9, [.ref tnodes, .ref tpasses, .ref tjars, .ref torders, .ref tfeasts, .ref tway, .int tws, .int tnow, .int tfm, .int tx])), (tpasses, .inr (6, [.int 5, .ref tpassesA, .int tpassesS])), (tpassesA, .inl (kA 0, 100, .inl tpassesF)), (tnodes, .inr (6, [.int 4, .ref tnodesA, .int tnodesS]))]) (va_runS (As := [.int p3, .int 9]) (rest := []) ⟨hx, hb, hml, hown, hts⟩ (mX10_within l dC dI kA _ p3 9) (va_cwS 2 hts gX10_pass_X10_within rfl rfl rfl hdX10_within ⟨(Nat.le_of_ble_eq_true rfl), (Nat.le_of_ble_eq_true rfl)⟩) ⟨zPc.blind, zPre hK (hP.sub [] rfl) (hD.sub [] (by decide) rfl)⟩ rfl rfl hl.1 rfl (lv_room (Nat.le_of_ble_eq_true rfl)) dX10_pass_58 ⟨(Nat.le_of_ble_eq_true rfl), (Nat.le_of_ble_eq_true rfl)⟩) hP hD hS hA [] [0, 1, 2, 3, 4] rfl rfl (by decide) (by decide) (fun r92 u90 H locs hw91 hP hD hS => ?_)
            obtain rfl := hw91
            obtain ⟨hP, hD⟩ := z_re (L := [(x0, .inr (10, [.ref w0, .ref z0, .ref xi, .ref xt, .int x_tl, .ref xq, .int x_lc, .ref rdr, .ref h0, .ref t0, .ref q0, .ref v0, .ref m0])), (w0, .inr (9, [.ref tnodes, .ref tpasses, .ref tjars, .ref torders, .ref tfeasts, .ref tway, .int tws, .int tnow, .int tfm, .int tx])), (tpasses, .inr (6, [.int 5, .ref tpassesA, .int tpassesS])), (tpassesA, .inl (kA 0, 100, .inl tpassesF)), (tnodes, .inr (6, [.int 4, .ref tnodesA, .int tnodesS]))]) hP hD
            refine lv_if_eq (tgt := 79) hx hb dX10_pass_61 (by decide) (fun c_93 => ?_) (fun c_93 => ?_)
            · have hG := zthen hG c_93
              refine lv_iconst (v := 0) hx hb dX10_pass_79 (by decide) ?_
              refine lv_istore (lv' := [(7, .int 0), (6, .int 1), (0, .ref x0), (1, .int p0), (2, .int p1), (3, .int p2), (4, .int p3), (5, .int p4)]) hx hb dX10_pass_80 hl (by decide) rfl (fun ls hl => ?_)
              refine lv_iload hx hb dX10_pass_82 (lv_at hl 1 rfl) ?_
              refine lv_if_eq (tgt := 105) hx hb dX10_pass_84 (by decide) (fun c_94 => absurd c_94 (by decide)) (fun _ => ?_)
              refine lv_iload hx hb dX10_pass_87 (lv_at hl 0 rfl) ?_
              refine lv_if_eq (tgt := 105) hx hb dX10_pass_89 (by decide) (fun _ => ?_) (fun c_95 => absurd (by decide) c_95)
              refine lv_iconst (v := (-1)) hx hb dX10_pass_105 (by decide) ?_
              refine lv_istore (lv' := [(8, .int (-1)), (7, .int 0), (6, .int 1), (0, .ref x0), (1, .int p0), (2, .int p1), (3, .int p2), (4, .int p3), (5, .int p4)]) hx hb dX10_pass_106 hl (by decide) rfl (fun ls hl => ?_)
              refine lv_iload hx hb dX10_pass_108 (lv_at hl 0 rfl) ?_
              refine lv_iconst (v := (-1)) hx hb dX10_pass_110 (by decide) ?_
              refine lv_icmp_eq (tgt := 186) hx hb dX10_pass_111 (by decide) (fun _ => ?_) (fun c_96 => absurd (by decide) c_96)
              refine lv_iload hx hb dX10_pass_186 (lv_at hl 0 rfl) ?_
              obtain ⟨hP9, hD9⟩ := z_sb (L' := [(x0, .inr (10, [.ref w0, .ref z0, .ref xi, .ref xt, .int x_tl, .ref xq, .int x_lc, .ref rdr, .ref h0, .ref t0, .ref q0, .ref v0, .ref m0])), (w0, .inr (9, [.ref tnodes, .ref tpasses, .ref tjars, .ref torders, .ref tfeasts, .ref tway, .int tws, .int tnow, .int tfm, .int tx])), (tnodes, .inr (6, [.int 4, .ref tnodesA, .int tnodesS])), (tpasses, .inr (6, [.int 5, .ref tpassesA, .int tpassesS])), (tpassesA, .inl (kA 0, 100, .inl tpassesF))]) hP hD [0, 1, 4, 2, 3] (by decide) rfl
              refine W.widen (k := 0) (n := 0) (Nat.le_of_ble_eq_true rfl) (Nat.le_of_ble_eq_true rfl) ?_
              exact W.iret (v := (-1)) hx hb hr (fun t ht hW => ⟨⟨(-1), (tpassesS, tpassesF), rfl, ⟨(by simp [sp_ps, c_4, c_4a, c_4b, c_31, c_31a, c_31b, c_55, c_79, c_86, c_86a, c_86b, c_93, fX6_grow_passes_ok, bnd]), (hG.trans hG0.symm), (by simp [sp_psz, c_4, c_4a, c_4b, c_31, c_31a, c_31b, c_55, c_79, c_86, c_86a, c_86b, c_93, fX6_grow_passes_ok, bnd])⟩, by rw [ht]; exact hP9, hD9⟩, hS.F ht⟩) hS.2.2 dX10_pass_188
            · have hG := zelse hG c_93
              have c_93a := wi_ne c_93
              have c_93b := c_93a.2
              have c_93a := c_93a.1
              refine lv_iload hx hb dX10_pass_64 (lv_at hl 6 rfl) ?_
              refine lv_sipush (v := 1000) hx hb dX10_pass_66 (by decide) ?_
              refine z_i (wr := [(x0, .inr (10, [.ref w0, .ref z0, .ref xi, .ref xt, .int x_tl, .ref xq, .int x_lc, .ref rdr, .ref h0, .ref t0, .ref q0, .ref v0, .ref m0])), (w0, .inr (9, [.ref tnodes, .ref tpasses, .ref tjars, .ref torders, .ref tfeasts, .ref tway, .int tws, .int tnow, .int tfm, .int tx])), (tpasses, .inr (6, [.int 5, .ref tpassesA, .int tpassesS])), (tpassesA, .inl (kA 0, 100, .inl tpassesF)), (tnodes, .inr (6, [.int 4, .ref tnodesA, .int tnodesS]))]) (va_runS (As := [.int p4, .int 1000]) (rest := []) ⟨hx, hb, hml, hown, hts⟩ (mX10_within l dC dI kA _ p4 1000) (va_cwS 2 hts gX10_pass_X10_within rfl rfl rfl hdX10_within ⟨(Nat.le_of_ble_eq_true rfl), (Nat.le_of_ble_eq_true rfl)⟩) ⟨zPc.blind, zPre hK (hP.sub [] rfl) (hD.sub [] (by decide) rfl)⟩ rfl rfl hl.1 rfl (lv_room (Nat.le_of_ble_eq_true rfl)) dX10_pass_69 ⟨(Nat.le_of_ble_eq_true rfl), (Nat.le_of_ble_eq_true rfl)⟩) hP hD hS hA [] [0, 1, 2, 3, 4] rfl rfl (by decide) (by decide) (fun r99 u97 H locs hw98 hP hD hS => ?_)
              obtain rfl := hw98
              obtain ⟨hP, hD⟩ := z_re (L := [(x0, .inr (10, [.ref w0, .ref z0, .ref xi, .ref xt, .int x_tl, .ref xq, .int x_lc, .ref rdr, .ref h0, .ref t0, .ref q0, .ref v0, .ref m0])), (w0, .inr (9, [.ref tnodes, .ref tpasses, .ref tjars, .ref torders, .ref tfeasts, .ref tway, .int tws, .int tnow, .int tfm, .int tx])), (tpasses, .inr (6, [.int 5, .ref tpassesA, .int tpassesS])), (tpassesA, .inl (kA 0, 100, .inl tpassesF)), (tnodes, .inr (6, [.int 4, .ref tnodesA, .int tnodesS]))]) hP hD
              refine lv_if_eq (tgt := 79) hx hb dX10_pass_72 (by decide) (fun c_100 => ?_) (fun c_100 => ?_)
              · have hG := zthen hG c_100
                refine lv_iconst (v := 0) hx hb dX10_pass_79 (by decide) ?_
                refine lv_istore (lv' := [(7, .int 0), (6, .int 1), (0, .ref x0), (1, .int p0), (2, .int p1), (3, .int p2), (4, .int p3), (5, .int p4)]) hx hb dX10_pass_80 hl (by decide) rfl (fun ls hl => ?_)
                refine lv_iload hx hb dX10_pass_82 (lv_at hl 1 rfl) ?_
                refine lv_if_eq (tgt := 105) hx hb dX10_pass_84 (by decide) (fun c_101 => absurd c_101 (by decide)) (fun _ => ?_)
                refine lv_iload hx hb dX10_pass_87 (lv_at hl 0 rfl) ?_
                refine lv_if_eq (tgt := 105) hx hb dX10_pass_89 (by decide) (fun _ => ?_) (fun c_102 => absurd (by decide) c_102)
                refine lv_iconst (v := (-1)) hx hb dX10_pass_105 (by decide) ?_
                refine lv_istore (lv' := [(8, .int (-1)), (7, .int 0), (6, .int 1), (0, .ref x0), (1, .int p0), (2, .int p1), (3, .int p2), (4, .int p3), (5, .int p4)]) hx hb dX10_pass_106 hl (by decide) rfl (fun ls hl => ?_)
                refine lv_iload hx hb dX10_pass_108 (lv_at hl 0 rfl) ?_
                refine lv_iconst (v := (-1)) hx hb dX10_pass_110 (by decide) ?_
                refine lv_icmp_eq (tgt := 186) hx hb dX10_pass_111 (by decide) (fun _ => ?_) (fun c_103 => absurd (by decide) c_103)
                refine lv_iload hx hb dX10_pass_186 (lv_at hl 0 rfl) ?_
                obtain ⟨hP9, hD9⟩ := z_sb (L' := [(x0, .inr (10, [.ref w0, .ref z0, .ref xi, .ref xt, .int x_tl, .ref xq, .int x_lc, .ref rdr, .ref h0, .ref t0, .ref q0, .ref v0, .ref m0])), (w0, .inr (9, [.ref tnodes, .ref tpasses, .ref tjars, .ref torders, .ref tfeasts, .ref tway, .int tws, .int tnow, .int tfm, .int tx])), (tnodes, .inr (6, [.int 4, .ref tnodesA, .int tnodesS])), (tpasses, .inr (6, [.int 5, .ref tpassesA, .int tpassesS])), (tpassesA, .inl (kA 0, 100, .inl tpassesF))]) hP hD [0, 1, 4, 2, 3] (by decide) rfl
                refine W.widen (k := 0) (n := 0) (Nat.le_of_ble_eq_true rfl) (Nat.le_of_ble_eq_true rfl) ?_
                exact W.iret (v := (-1)) hx hb hr (fun t ht hW => ⟨⟨(-1), (tpassesS, tpassesF), rfl, ⟨(by simp [sp_ps, c_4, c_4a, c_4b, c_31, c_31a, c_31b, c_55, c_79, c_86, c_86a, c_86b, c_93, c_93a, c_93b, c_100, fX6_grow_passes_ok, bnd]), (hG.trans hG0.symm), (by simp [sp_psz, c_4, c_4a, c_4b, c_31, c_31a, c_31b, c_55, c_79, c_86, c_86a, c_86b, c_93, c_93a, c_93b, c_100, fX6_grow_passes_ok, bnd])⟩, by rw [ht]; exact hP9, hD9⟩, hS.F ht⟩) hS.2.2 dX10_pass_188
              · have hG := zelse hG c_100
                have c_100a := wi_ne c_100
                have c_100b := c_100a.2
                have c_100a := c_100a.1
                refine lv_iconst (v := 1) hx hb dX10_pass_75 (by decide) ?_
                refine lv_goto (tgt := 80) hx hb dX10_pass_76 (by decide) ?_
                refine lv_istore (lv' := [(7, .int 1), (6, .int 1), (0, .ref x0), (1, .int p0), (2, .int p1), (3, .int p2), (4, .int p3), (5, .int p4)]) hx hb dX10_pass_80 hl (by decide) rfl (fun ls hl => ?_)
                refine lv_iload hx hb dX10_pass_82 (lv_at hl 1 rfl) ?_
                refine lv_if_eq (tgt := 105) hx hb dX10_pass_84 (by decide) (fun c_104 => absurd c_104 (by decide)) (fun _ => ?_)
                refine lv_iload hx hb dX10_pass_87 (lv_at hl 0 rfl) ?_
                refine lv_if_eq (tgt := 105) hx hb dX10_pass_89 (by decide) (fun c_105 => absurd c_105 (by decide)) (fun _ => ?_)
                refine lv_aload_n hx hb dX10_pass_92 rfl (lv_at hl 2 rfl) ?_
                refine va_get (D := (dC, dI)) (ci := 10) (v := .ref w0) (C := RX10) (T := TX10) (N := 13) hx hb hts iX10_pass_X10 hown hK.1 hP 0 gz0 vcz10 0 (by decide) (kX10_pass_1 hts) (fun _ h9 => h9) gz0 dX10_pass_93 ?_
                refine va_get (D := (dC, dI)) (ci := 9) (v := .ref tpasses) (C := RX9) (T := TX9) (N := 10) hx hb hts iX10_pass_X9 hown hK.1 hP 1 gz1 vcz9 1 (by decide) (kX10_pass_3 hts) (fun _ h9 => h9) gz1 dX10_pass_96 ?_
                refine z_i (wr := [(x0, .inr (10, [.ref w0, .ref z0, .ref xi, .ref xt, .int x_tl, .ref xq, .int x_lc, .ref rdr, .ref h0, .ref t0, .ref q0, .ref v0, .ref m0])), (w0, .inr (9, [.ref tnodes, .ref tpasses, .ref tjars, .ref torders, .ref tfeasts, .ref tway, .int tws, .int tnow, .int tfm, .int tx])), (tnodes, .inr (6, [.int 4, .ref tnodesA, .int tnodesS]))]) (va_runV (As := []) (rest := []) ⟨hx, hb, hml, hown, hts⟩ (mX6_grow_passes_ok l dC dI kA _ tpasses tpassesA tpassesS tpassesF hz0 hz1) (cwV 0 hts gX10_pass_X6_grow rfl rfl rfl ⟨rfl, hdX6_grow⟩ ⟨(Nat.le_of_ble_eq_true rfl), (Nat.le_of_ble_eq_true rfl)⟩) ⟨zPc.blind, va_recv (q := (RX6, TX6, 3)) hK.1 hP (ci := 6) (q0 := 2) rfl rfl, zPre hK (hP.sub [2, 3] rfl) (hD.sub [2, 3] (by decide) rfl)⟩ rfl rfl hl.1 rfl (lv_room (Nat.le_of_ble_eq_true rfl)) dX10_pass_99 ⟨(Nat.le_of_ble_eq_true rfl), (Nat.le_of_ble_eq_true rfl)⟩) hP hD hS hA [2, 3] [0, 1, 4] rfl rfl (by decide) (by decide) (fun r108 u106 H locs hw107 hP hD hS => ?_)
                obtain ⟨o109, rfl⟩ : ∃ z, z = u106 := ⟨_, rfl⟩
                obtain ⟨er112, hp110, hp111⟩ := hw107
                have er112 := Eq.symm er112
                subst er112
                have eo109 : o109 = fX6_grow_passes_ok tpassesS := hp110
                have hG := zbnd hG eo109
                obtain ⟨hP, hD⟩ := z_re (L := [(x0, .inr (10, [.ref w0, .ref z0, .ref xi, .ref xt, .int x_tl, .ref xq, .int x_lc, .ref rdr, .ref h0, .ref t0, .ref q0, .ref v0, .ref m0])), (w0, .inr (9, [.ref tnodes, .ref tpasses, .ref tjars, .ref torders, .ref tfeasts, .ref tway, .int tws, .int tnow, .int tfm, .int tx])), (tnodes, .inr (6, [.int 4, .ref tnodesA, .int tnodesS])), (tpasses, .inr (6, [.int 5, .ref tpassesA, .int o109])), (tpassesA, .inl (kA 0, 100, .inl tpassesF))]) hP hD
                refine lv_goto (tgt := 106) hx hb dX10_pass_102 (by decide) ?_
                refine lv_istore (lv' := [(8, .int tpassesS), (7, .int 1), (6, .int 1), (0, .ref x0), (1, .int p0), (2, .int p1), (3, .int p2), (4, .int p3), (5, .int p4)]) hx hb dX10_pass_106 hl (by decide) rfl (fun ls hl => ?_)
                refine lv_iload hx hb dX10_pass_108 (lv_at hl 0 rfl) ?_
                refine lv_iconst (v := (-1)) hx hb dX10_pass_110 (by decide) ?_
                refine lv_icmp_eq (tgt := 186) hx hb dX10_pass_111 (by decide) (fun c_114 => ?_) (fun c_114 => ?_)
                · have hG := zthen hG c_114
                  refine lv_iload hx hb dX10_pass_186 (lv_at hl 0 rfl) ?_
                  obtain ⟨hP9, hD9⟩ := z_sb (L' := [(x0, .inr (10, [.ref w0, .ref z0, .ref xi, .ref xt, .int x_tl, .ref xq, .int x_lc, .ref rdr, .ref h0, .ref t0, .ref q0, .ref v0, .ref m0])), (w0, .inr (9, [.ref tnodes, .ref tpasses, .ref tjars, .ref torders, .ref tfeasts, .ref tway, .int tws, .int tnow, .int tfm, .int tx])), (tnodes, .inr (6, [.int 4, .ref tnodesA, .int tnodesS])), (tpasses, .inr (6, [.int 5, .ref tpassesA, .int o109])), (tpassesA, .inl (kA 0, 100, .inl tpassesF))]) hP hD [0, 1, 2, 3, 4] (by decide) rfl
                  refine W.widen (k := 0) (n := 0) (Nat.le_of_ble_eq_true rfl) (Nat.le_of_ble_eq_true rfl) ?_
                  exact W.iret (v := tpassesS) hx hb hr (fun t ht hW => ⟨⟨tpassesS, (o109, tpassesF), rfl, ⟨(by simp [sp_ps, c_4, c_4a, c_4b, c_31, c_31a, c_31b, c_55, c_79, c_86, c_86a, c_86b, c_93, c_93a, c_93b, c_100, c_100a, c_100b, hp110, hp111, c_114, fX6_grow_passes_ok, bnd]), (hG.trans hG0.symm), (by simp [sp_psz, c_4, c_4a, c_4b, c_31, c_31a, c_31b, c_55, c_79, c_86, c_86a, c_86b, c_93, c_93a, c_93b, c_100, c_100a, c_100b, hp110, hp111, c_114, fX6_grow_passes_ok, bnd])⟩, by rw [ht]; exact hP9, hD9⟩, hS.F ht⟩) hS.2.2 dX10_pass_188
                · have hG := zelse hG c_114
                  refine lv_aload_n hx hb dX10_pass_114 rfl (lv_at hl 3 rfl) ?_
                  refine va_get (D := (dC, dI)) (ci := 10) (v := .ref w0) (C := RX10) (T := TX10) (N := 13) hx hb hts iX10_pass_X10 hown hK.1 hP 0 gz0 vcz10 0 (by decide) (kX10_pass_1 hts) (fun _ h9 => h9) gz0 dX10_pass_115 ?_
                  refine va_get (D := (dC, dI)) (ci := 9) (v := .ref tpasses) (C := RX9) (T := TX9) (N := 10) hx hb hts iX10_pass_X9 hown hK.1 hP 1 gz1 vcz9 1 (by decide) (kX10_pass_3 hts) (fun _ h9 => h9) gz1 dX10_pass_118 ?_
                  refine lv_iload hx hb dX10_pass_121 (lv_at hl 0 rfl) ?_
                  refine lv_iconst (v := 0) hx hb dX10_pass_123 (by decide) ?_
                  refine lv_iload_n hx hb dX10_pass_124 rfl (lv_at hl 4 rfl) ?_
                  refine z_v (wr := [(x0, .inr (10, [.ref w0, .ref z0, .ref xi, .ref xt, .int x_tl, .ref xq, .int x_lc, .ref rdr, .ref h0, .ref t0, .ref q0, .ref v0, .ref m0])), (w0, .inr (9, [.ref tnodes, .ref tpasses, .ref tjars, .ref torders, .ref tfeasts, .ref tway, .int tws, .int tnow, .int tfm, .int tx])), (tnodes, .inr (6, [.int 4, .ref tnodesA, .int tnodesS]))]) (va_runV (As := [.int tpassesS, .int 0, .int p0]) (rest := []) ⟨hx, hb, hml, hown, hts⟩ (mX6_put_100 l dC dI kA _ tpasses tpassesA 5 o109 tpassesF tpassesS 0 p0) (cwV 3 hts gX10_pass_X6_put rfl rfl rfl ⟨rfl, hdX6_put⟩ ⟨(Nat.le_of_ble_eq_true rfl), (Nat.le_of_ble_eq_true rfl)⟩) ⟨zPc.blind, va_recv (q := (RX6, TX6, 3)) hK.1 hP (ci := 6) (q0 := 3) rfl rfl, zPre hK (hP.sub [3, 4] rfl) (hD.sub [3, 4] (by decide) rfl)⟩ rfl rfl hl.1 rfl (lv_room (Nat.le_of_ble_eq_true rfl)) dX10_pass_125 ⟨(Nat.le_of_ble_eq_true rfl), (Nat.le_of_ble_eq_true rfl)⟩) hP hD hS hA [3, 4] [0, 1, 2] rfl rfl (by decide) (by decide) (fun u115 H locs hw116 hP hD hS => ?_)
                  obtain ⟨o118, rfl⟩ : ∃ z, z = u115 := ⟨_, rfl⟩
                  have hp119 := hw116
                  have eo118 : o118 = fX6_put_100 5 tpassesF tpassesS 0 p0 := hp119
                  have hG := zbnd hG eo118
                  obtain ⟨hP, hD⟩ := z_re (L := [(x0, .inr (10, [.ref w0, .ref z0, .ref xi, .ref xt, .int x_tl, .ref xq, .int x_lc, .ref rdr, .ref h0, .ref t0, .ref q0, .ref v0, .ref m0])), (w0, .inr (9, [.ref tnodes, .ref tpasses, .ref tjars, .ref torders, .ref tfeasts, .ref tway, .int tws, .int tnow, .int tfm, .int tx])), (tnodes, .inr (6, [.int 4, .ref tnodesA, .int tnodesS])), (tpasses, .inr (6, [.int 5, .ref tpassesA, .int o109])), (tpassesA, .inl (kA 0, 100, .inl o118))]) hP hD
                  refine lv_aload_n hx hb dX10_pass_128 rfl (lv_at hl 3 rfl) ?_
                  refine va_get (D := (dC, dI)) (ci := 10) (v := .ref w0) (C := RX10) (T := TX10) (N := 13) hx hb hts iX10_pass_X10 hown hK.1 hP 0 gz0 vcz10 0 (by decide) (kX10_pass_1 hts) (fun _ h9 => h9) gz0 dX10_pass_129 ?_
                  refine va_get (D := (dC, dI)) (ci := 9) (v := .ref tpasses) (C := RX9) (T := TX9) (N := 10) hx hb hts iX10_pass_X9 hown hK.1 hP 1 gz1 vcz9 1 (by decide) (kX10_pass_3 hts) (fun _ h9 => h9) gz1 dX10_pass_132 ?_
                  refine lv_iload hx hb dX10_pass_135 (lv_at hl 0 rfl) ?_
                  refine lv_iconst (v := 1) hx hb dX10_pass_137 (by decide) ?_
                  refine lv_iload_n hx hb dX10_pass_138 rfl (lv_at hl 5 rfl) ?_
                  refine z_v (wr := [(x0, .inr (10, [.ref w0, .ref z0, .ref xi, .ref xt, .int x_tl, .ref xq, .int x_lc, .ref rdr, .ref h0, .ref t0, .ref q0, .ref v0, .ref m0])), (w0, .inr (9, [.ref tnodes, .ref tpasses, .ref tjars, .ref torders, .ref tfeasts, .ref tway, .int tws, .int tnow, .int tfm, .int tx])), (tnodes, .inr (6, [.int 4, .ref tnodesA, .int tnodesS]))]) (va_runV (As := [.int tpassesS, .int 1, .int p1]) (rest := []) ⟨hx, hb, hml, hown, hts⟩ (mX6_put_100 l dC dI kA _ tpasses tpassesA 5 o109 o118 tpassesS 1 p1) (cwV 3 hts gX10_pass_X6_put rfl rfl rfl ⟨rfl, hdX6_put⟩ ⟨(Nat.le_of_ble_eq_true rfl), (Nat.le_of_ble_eq_true rfl)⟩) ⟨zPc.blind, va_recv (q := (RX6, TX6, 3)) hK.1 hP (ci := 6) (q0 := 3) rfl rfl, zPre hK (hP.sub [3, 4] rfl) (hD.sub [3, 4] (by decide) rfl)⟩ rfl rfl hl.1 rfl (lv_room (Nat.le_of_ble_eq_true rfl)) dX10_pass_139 ⟨(Nat.le_of_ble_eq_true rfl), (Nat.le_of_ble_eq_true rfl)⟩) hP hD hS hA [3, 4] [0, 1, 2] rfl rfl (by decide) (by decide) (fun u121 H locs hw122 hP hD hS => ?_)
                  obtain ⟨o124, rfl⟩ : ∃ z, z = u121 := ⟨_, rfl⟩
                  have hp125 := hw122
                  have eo124 : o124 = fX6_put_100 5 o118 tpassesS 1 p1 := hp125
                  have hG := zbnd hG eo124
                  obtain ⟨hP, hD⟩ := z_re (L := [(x0, .inr (10, [.ref w0, .ref z0, .ref xi, .ref xt, .int x_tl, .ref xq, .int x_lc, .ref rdr, .ref h0, .ref t0, .ref q0, .ref v0, .ref m0])), (w0, .inr (9, [.ref tnodes, .ref tpasses, .ref tjars, .ref torders, .ref tfeasts, .ref tway, .int tws, .int tnow, .int tfm, .int tx])), (tnodes, .inr (6, [.int 4, .ref tnodesA, .int tnodesS])), (tpasses, .inr (6, [.int 5, .ref tpassesA, .int o109])), (tpassesA, .inl (kA 0, 100, .inl o124))]) hP hD
                  refine lv_aload_n hx hb dX10_pass_142 rfl (lv_at hl 3 rfl) ?_
                  refine va_get (D := (dC, dI)) (ci := 10) (v := .ref w0) (C := RX10) (T := TX10) (N := 13) hx hb hts iX10_pass_X10 hown hK.1 hP 0 gz0 vcz10 0 (by decide) (kX10_pass_1 hts) (fun _ h9 => h9) gz0 dX10_pass_143 ?_
                  refine va_get (D := (dC, dI)) (ci := 9) (v := .ref tpasses) (C := RX9) (T := TX9) (N := 10) hx hb hts iX10_pass_X9 hown hK.1 hP 1 gz1 vcz9 1 (by decide) (kX10_pass_3 hts) (fun _ h9 => h9) gz1 dX10_pass_146 ?_
                  refine lv_iload hx hb dX10_pass_149 (lv_at hl 0 rfl) ?_
                  refine lv_iconst (v := 2) hx hb dX10_pass_151 (by decide) ?_
                  refine lv_iload_n hx hb dX10_pass_152 rfl (lv_at hl 6 rfl) ?_
                  refine z_v (wr := [(x0, .inr (10, [.ref w0, .ref z0, .ref xi, .ref xt, .int x_tl, .ref xq, .int x_lc, .ref rdr, .ref h0, .ref t0, .ref q0, .ref v0, .ref m0])), (w0, .inr (9, [.ref tnodes, .ref tpasses, .ref tjars, .ref torders, .ref tfeasts, .ref tway, .int tws, .int tnow, .int tfm, .int tx])), (tnodes, .inr (6, [.int 4, .ref tnodesA, .int tnodesS]))]) (va_runV (As := [.int tpassesS, .int 2, .int p2]) (rest := []) ⟨hx, hb, hml, hown, hts⟩ (mX6_put_100 l dC dI kA _ tpasses tpassesA 5 o109 o124 tpassesS 2 p2) (cwV 3 hts gX10_pass_X6_put rfl rfl rfl ⟨rfl, hdX6_put⟩ ⟨(Nat.le_of_ble_eq_true rfl), (Nat.le_of_ble_eq_true rfl)⟩) ⟨zPc.blind, va_recv (q := (RX6, TX6, 3)) hK.1 hP (ci := 6) (q0 := 3) rfl rfl, zPre hK (hP.sub [3, 4] rfl) (hD.sub [3, 4] (by decide) rfl)⟩ rfl rfl hl.1 rfl (lv_room (Nat.le_of_ble_eq_true rfl)) dX10_pass_153 ⟨(Nat.le_of_ble_eq_true rfl), (Nat.le_of_ble_eq_true rfl)⟩) hP hD hS hA [3, 4] [0, 1, 2] rfl rfl (by decide) (by decide) (fun u127 H locs hw128 hP hD hS => ?_)
                  obtain ⟨o130, rfl⟩ : ∃ z, z = u127 := ⟨_, rfl⟩
                  have hp131 := hw128
                  have eo130 : o130 = fX6_put_100 5 o124 tpassesS 2 p2 := hp131
                  have hG := zbnd hG eo130
                  obtain ⟨hP, hD⟩ := z_re (L := [(x0, .inr (10, [.ref w0, .ref z0, .ref xi, .ref xt, .int x_tl, .ref xq, .int x_lc, .ref rdr, .ref h0, .ref t0, .ref q0, .ref v0, .ref m0])), (w0, .inr (9, [.ref tnodes, .ref tpasses, .ref tjars, .ref torders, .ref tfeasts, .ref tway, .int tws, .int tnow, .int tfm, .int tx])), (tnodes, .inr (6, [.int 4, .ref tnodesA, .int tnodesS])), (tpasses, .inr (6, [.int 5, .ref tpassesA, .int o109])), (tpassesA, .inl (kA 0, 100, .inl o130))]) hP hD
                  refine lv_aload_n hx hb dX10_pass_156 rfl (lv_at hl 3 rfl) ?_
                  refine va_get (D := (dC, dI)) (ci := 10) (v := .ref w0) (C := RX10) (T := TX10) (N := 13) hx hb hts iX10_pass_X10 hown hK.1 hP 0 gz0 vcz10 0 (by decide) (kX10_pass_1 hts) (fun _ h9 => h9) gz0 dX10_pass_157 ?_
                  refine va_get (D := (dC, dI)) (ci := 9) (v := .ref tpasses) (C := RX9) (T := TX9) (N := 10) hx hb hts iX10_pass_X9 hown hK.1 hP 1 gz1 vcz9 1 (by decide) (kX10_pass_3 hts) (fun _ h9 => h9) gz1 dX10_pass_160 ?_
                  refine lv_iload hx hb dX10_pass_163 (lv_at hl 0 rfl) ?_
                  refine lv_iconst (v := 3) hx hb dX10_pass_165 (by decide) ?_
                  refine lv_iload hx hb dX10_pass_166 (lv_at hl 7 rfl) ?_
                  refine z_v (wr := [(x0, .inr (10, [.ref w0, .ref z0, .ref xi, .ref xt, .int x_tl, .ref xq, .int x_lc, .ref rdr, .ref h0, .ref t0, .ref q0, .ref v0, .ref m0])), (w0, .inr (9, [.ref tnodes, .ref tpasses, .ref tjars, .ref torders, .ref tfeasts, .ref tway, .int tws, .int tnow, .int tfm, .int tx])), (tnodes, .inr (6, [.int 4, .ref tnodesA, .int tnodesS]))]) (va_runV (As := [.int tpassesS, .int 3, .int p3]) (rest := []) ⟨hx, hb, hml, hown, hts⟩ (mX6_put_100 l dC dI kA _ tpasses tpassesA 5 o109 o130 tpassesS 3 p3) (cwV 3 hts gX10_pass_X6_put rfl rfl rfl ⟨rfl, hdX6_put⟩ ⟨(Nat.le_of_ble_eq_true rfl), (Nat.le_of_ble_eq_true rfl)⟩) ⟨zPc.blind, va_recv (q := (RX6, TX6, 3)) hK.1 hP (ci := 6) (q0 := 3) rfl rfl, zPre hK (hP.sub [3, 4] rfl) (hD.sub [3, 4] (by decide) rfl)⟩ rfl rfl hl.1 rfl (lv_room (Nat.le_of_ble_eq_true rfl)) dX10_pass_168 ⟨(Nat.le_of_ble_eq_true rfl), (Nat.le_of_ble_eq_true rfl)⟩) hP hD hS hA [3, 4] [0, 1, 2] rfl rfl (by decide) (by decide) (fun u133 H locs hw134 hP hD hS => ?_)
                  obtain ⟨o136, rfl⟩ : ∃ z, z = u133 := ⟨_, rfl⟩
                  have hp137 := hw134
                  have eo136 : o136 = fX6_put_100 5 o130 tpassesS 3 p3 := hp137
                  have hG := zbnd hG eo136
                  obtain ⟨hP, hD⟩ := z_re (L := [(x0, .inr (10, [.ref w0, .ref z0, .ref xi, .ref xt, .int x_tl, .ref xq, .int x_lc, .ref rdr, .ref h0, .ref t0, .ref q0, .ref v0, .ref m0])), (w0, .inr (9, [.ref tnodes, .ref tpasses, .ref tjars, .ref torders, .ref tfeasts, .ref tway, .int tws, .int tnow, .int tfm, .int tx])), (tnodes, .inr (6, [.int 4, .ref tnodesA, .int tnodesS])), (tpasses, .inr (6, [.int 5, .ref tpassesA, .int o109])), (tpassesA, .inl (kA 0, 100, .inl o136))]) hP hD
                  refine lv_aload_n hx hb dX10_pass_171 rfl (lv_at hl 3 rfl) ?_
                  refine va_get (D := (dC, dI)) (ci := 10) (v := .ref w0) (C := RX10) (T := TX10) (N := 13) hx hb hts iX10_pass_X10 hown hK.1 hP 0 gz0 vcz10 0 (by decide) (kX10_pass_1 hts) (fun _ h9 => h9) gz0 dX10_pass_172 ?_
                  refine va_get (D := (dC, dI)) (ci := 9) (v := .ref tpasses) (C := RX9) (T := TX9) (N := 10) hx hb hts iX10_pass_X9 hown hK.1 hP 1 gz1 vcz9 1 (by decide) (kX10_pass_3 hts) (fun _ h9 => h9) gz1 dX10_pass_175 ?_
                  refine lv_iload hx hb dX10_pass_178 (lv_at hl 0 rfl) ?_
                  refine lv_iconst (v := 4) hx hb dX10_pass_180 (by decide) ?_
                  refine lv_iload hx hb dX10_pass_181 (lv_at hl 8 rfl) ?_
                  refine z_v (wr := [(x0, .inr (10, [.ref w0, .ref z0, .ref xi, .ref xt, .int x_tl, .ref xq, .int x_lc, .ref rdr, .ref h0, .ref t0, .ref q0, .ref v0, .ref m0])), (w0, .inr (9, [.ref tnodes, .ref tpasses, .ref tjars, .ref torders, .ref tfeasts, .ref tway, .int tws, .int tnow, .int tfm, .int tx])), (tnodes, .inr (6, [.int 4, .ref tnodesA, .int tnodesS]))]) (va_runV (As := [.int tpassesS, .int 4, .int p4]) (rest := []) ⟨hx, hb, hml, hown, hts⟩ (mX6_put_100 l dC dI kA _ tpasses tpassesA 5 o109 o136 tpassesS 4 p4) (cwV 3 hts gX10_pass_X6_put rfl rfl rfl ⟨rfl, hdX6_put⟩ ⟨(Nat.le_of_ble_eq_true rfl), (Nat.le_of_ble_eq_true rfl)⟩) ⟨zPc.blind, va_recv (q := (RX6, TX6, 3)) hK.1 hP (ci := 6) (q0 := 3) rfl rfl, zPre hK (hP.sub [3, 4] rfl) (hD.sub [3, 4] (by decide) rfl)⟩ rfl rfl hl.1 rfl (lv_room (Nat.le_of_ble_eq_true rfl)) dX10_pass_183 ⟨(Nat.le_of_ble_eq_true rfl), (Nat.le_of_ble_eq_true rfl)⟩) hP hD hS hA [3, 4] [0, 1, 2] rfl rfl (by decide) (by decide) (fun u139 H locs hw140 hP hD hS => ?_)
                  obtain ⟨o142, rfl⟩ : ∃ z, z = u139 := ⟨_, rfl⟩
                  have hp143 := hw140
                  have eo142 : o142 = fX6_put_100 5 o136 tpassesS 4 p4 := hp143
                  have hG := zbnd hG eo142
                  obtain ⟨hP, hD⟩ := z_re (L := [(x0, .inr (10, [.ref w0, .ref z0, .ref xi, .ref xt, .int x_tl, .ref xq, .int x_lc, .ref rdr, .ref h0, .ref t0, .ref q0, .ref v0, .ref m0])), (w0, .inr (9, [.ref tnodes, .ref tpasses, .ref tjars, .ref torders, .ref tfeasts, .ref tway, .int tws, .int tnow, .int tfm, .int tx])), (tnodes, .inr (6, [.int 4, .ref tnodesA, .int tnodesS])), (tpasses, .inr (6, [.int 5, .ref tpassesA, .int o109])), (tpassesA, .inl (kA 0, 100, .inl o142))]) hP hD
                  refine lv_iload hx hb dX10_pass_186 (lv_at hl 0 rfl) ?_
                  obtain ⟨hP9, hD9⟩ := z_sb (L' := [(x0, .inr (10, [.ref w0, .ref z0, .ref xi, .ref xt, .int x_tl, .ref xq, .int x_lc, .ref rdr, .ref h0, .ref t0, .ref q0, .ref v0, .ref m0])), (w0, .inr (9, [.ref tnodes, .ref tpasses, .ref tjars, .ref torders, .ref tfeasts, .ref tway, .int tws, .int tnow, .int tfm, .int tx])), (tnodes, .inr (6, [.int 4, .ref tnodesA, .int tnodesS])), (tpasses, .inr (6, [.int 5, .ref tpassesA, .int o109])), (tpassesA, .inl (kA 0, 100, .inl o142))]) hP hD [0, 1, 2, 3, 4] (by decide) rfl
                  refine W.widen (k := 0) (n := 0) (Nat.le_of_ble_eq_true rfl) (Nat.le_of_ble_eq_true rfl) ?_
                  exact W.iret (v := tpassesS) hx hb hr (fun t ht hW => ⟨⟨tpassesS, (o109, o142), rfl, ⟨(by simp [sp_ps, c_4, c_4a, c_4b, c_31, c_31a, c_31b, c_55, c_79, c_86, c_86a, c_86b, c_93, c_93a, c_93b, c_100, c_100a, c_100b, hp110, hp111, c_114, hp119, hp125, hp131, hp137, hp143, fX6_grow_passes_ok, bnd]), (hG.trans hG0.symm), (by simp [sp_psz, c_4, c_4a, c_4b, c_31, c_31a, c_31b, c_55, c_79, c_86, c_86a, c_86b, c_93, c_93a, c_93b, c_100, c_100a, c_100b, hp110, hp111, c_114, hp119, hp125, hp131, hp137, hp143, fX6_grow_passes_ok, bnd])⟩, by rw [ht]; exact hP9, hD9⟩, hS.F ht⟩) hS.2.2 dX10_pass_188
set_option maxHeartbeats 4000000 in
set_option maxRecDepth 100000 in
theorem mX10_pass_full (l : Launch) (dC : Nat → ClassId) (dI : Nat → Nat → Nat) (kA : Nat → ClassId) (sz : Nat) (x0 : Nat) (z0 : Nat) (xi : Nat) (xt : Nat) (xq : Nat) (rdr : Nat) (h0 : Nat) (t0 : Nat) (q0 : Nat) (v0 : Nat) (m0 : Nat) (w0 : Nat) (x_tl : Int32) (x_lc : Int32) (tnodes : Nat) (tnodesA : Nat) (tnodesS : Int32) (tpasses : Nat) (tpassesA : Nat) (tpassesF : Nat → Int32) (tjars : Nat) (torders : Nat) (tfeasts : Nat) (tway : Nat) (tws : Int32) (tnow : Int32) (tfm : Int32) (tx : Int32) (p0 : Int32) (p1 : Int32) (p2 : Int32) (p3 : Int32) (p4 : Int32)  : Met l yX10_pass wsX10_pass ({ frames := 1, cells := 0, slots := 0, locals := 21 }) (zPc dC dI kA sz [.ref x0, .int p0, .int p1, .int p2, .int p3, .int p4] [(x0, .inr (10, [.ref w0, .ref z0, .ref xi, .ref xt, .int x_tl, .ref xq, .int x_lc, .ref rdr, .ref h0, .ref t0, .ref q0, .ref v0, .ref m0])), (w0, .inr (9, [.ref tnodes, .ref tpasses, .ref tjars, .ref torders, .ref tfeasts, .ref tway, .int tws, .int tnow, .int tfm, .int tx])), (tnodes, .inr (6, [.int 4, .ref tnodesA, .int tnodesS])), (tpasses, .inr (6, [.int 5, .ref tpassesA, .int 20])), (tpassesA, .inl (kA 0, 100, .inl tpassesF))]) (va_Qi (fun (r : Int32) (u : Unit) => r = (-1)) (zB dC dI (va_A [(x0, .inr (10, [.ref w0, .ref z0, .ref xi, .ref xt, .int x_tl, .ref xq, .int x_lc, .ref rdr, .ref h0, .ref t0, .ref q0, .ref v0, .ref m0])), (w0, .inr (9, [.ref tnodes, .ref tpasses, .ref tjars, .ref torders, .ref tfeasts, .ref tway, .int tws, .int tnow, .int tfm, .int tx])), (tnodes, .inr (6, [.int 4, .ref tnodesA, .int tnodesS])), (tpasses, .inr (6, [.int 5, .ref tpassesA, .int 20])), (tpassesA, .inl (kA 0, 100, .inl tpassesF))] sz) (fun (u : Unit) => [(x0, .inr (10, [.ref w0, .ref z0, .ref xi, .ref xt, .int x_tl, .ref xq, .int x_lc, .ref rdr, .ref h0, .ref t0, .ref q0, .ref v0, .ref m0])), (w0, .inr (9, [.ref tnodes, .ref tpasses, .ref tjars, .ref torders, .ref tfeasts, .ref tway, .int tws, .int tnow, .int tfm, .int tx])), (tnodes, .inr (6, [.int 4, .ref tnodesA, .int tnodesS])), (tpasses, .inr (6, [.int 5, .ref tpassesA, .int 20])), (tpassesA, .inl (kA 0, 100, .inl tpassesF))])) (va_A [(x0, .inr (10, [.ref w0, .ref z0, .ref xi, .ref xt, .int x_tl, .ref xq, .int x_lc, .ref rdr, .ref h0, .ref t0, .ref q0, .ref v0, .ref m0])), (w0, .inr (9, [.ref tnodes, .ref tpasses, .ref tjars, .ref torders, .ref tfeasts, .ref tway, .int tws, .int tnow, .int tfm, .int tx])), (tnodes, .inr (6, [.int 4, .ref tnodesA, .int tnodesS])), (tpasses, .inr (6, [.int 5, .ref tpassesA, .int 20])), (tpassesA, .inl (kA 0, 100, .inl tpassesF))] sz)) 0 0 (va_A [(x0, .inr (10, [.ref w0, .ref z0, .ref xi, .ref xt, .int x_tl, .ref xq, .int x_lc, .ref rdr, .ref h0, .ref t0, .ref q0, .ref v0, .ref m0])), (w0, .inr (9, [.ref tnodes, .ref tpasses, .ref tjars, .ref torders, .ref tfeasts, .ref tway, .int tws, .int tnow, .int tfm, .int tx])), (tnodes, .inr (6, [.int 4, .ref tnodesA, .int tnodesS])), (tpasses, .inr (6, [.int 5, .ref tpassesA, .int 20])), (tpassesA, .inl (kA 0, 100, .inl tpassesF))] sz) := by
  refine Met.ofW (cc := cX10_pass) (maxL := 9) (ret := (some .int)) pnX10 rfl ?_
  intro p e s m args below meth c s₁ B hml hv
  obtain ⟨rfl, hsz, hP, hK, hD0⟩ := hv
  have hx := B.exec
  have hb := B.bytes
  have hr := B.returns
  have hts := atoms_spec (ws := wsX10_pass) B.pre
  have hown : s.vm.findClass RX10 = some m.cls := findClass_of_methodNamed B.named
  have hlocks := B.notSynchronized
  subst hsz
  have hD := hD0.self (sz := s.heap.size)
  generalize hAe : va_A [(x0, .inr (10, [.ref w0, .ref z0, .ref xi, .ref xt, .int x_tl, .ref xq, .int x_lc, .ref rdr, .ref h0, .ref t0, .ref q0, .ref v0, .ref m0])), (w0, .inr (9, [.ref tnodes, .ref tpasses, .ref tjars, .ref torders, .ref tfeasts, .ref tway, .int tws, .int tnow, .int tfm, .int tx])), (tnodes, .inr (6, [.int 4, .ref tnodesA, .int tnodesS])), (tpasses, .inr (6, [.int 5, .ref tpassesA, .int 20])), (tpassesA, .inl (kA 0, 100, .inl tpassesF))] s.heap.size = A at hD ⊢
  have hA : ∀ q : Nat, s.heap.size ≤ q → A q := zA_of hAe
  have hS : va_S A s.heap s.heap [] := va_S.rf
  have hP : va_P (dC, dI) vwCl [(x0, .inr (10, [.ref w0, .ref z0, .ref xi, .ref xt, .int x_tl, .ref xq, .int x_lc, .ref rdr, .ref h0, .ref t0, .ref q0, .ref v0, .ref m0])), (w0, .inr (9, [.ref tnodes, .ref tpasses, .ref tjars, .ref torders, .ref tfeasts, .ref tway, .int tws, .int tnow, .int tfm, .int tx])), (tnodes, .inr (6, [.int 4, .ref tnodesA, .int tnodesS])), (tpasses, .inr (6, [.int 5, .ref tpassesA, .int 20])), (tpassesA, .inl (kA 0, 100, .inl tpassesF))] s.heap := hP
  have hl := lv_entry ([.ref x0, .int p0, .int p1, .int p2, .int p3, .int p4]) (n := 9) (Nat.le_of_ble_eq_true rfl)
  rw [lg_entry_eq]
  generalize (lg_sl ([.ref x0, .int p0, .int p1, .int p2, .int p3, .int p4]) ++ List.replicate (9 - (lg_sl ([.ref x0, .int p0, .int p1, .int p2, .int p3, .int p4])).length) Slot.unset).toArray = ls at hl ⊢
  have hl : lv_has ls 9 [(0, .ref x0), (1, .int p0), (2, .int p1), (3, .int p2), (4, .int p3), (5, .int p4)] := hl
  refine lv_aload_n hx hb dX10_pass_0 rfl (lv_at hl 0 rfl) ?_
  refine va_get (D := (dC, dI)) (ci := 10) (v := .ref w0) (C := RX10) (T := TX10) (N := 13) hx hb hts iX10_pass_X10 hown hK.1 hP 0 gz0 vcz10 0 (by decide) (kX10_pass_1 hts) (fun _ h9 => h9) gz0 dX10_pass_1 ?_
  refine va_get (D := (dC, dI)) (ci := 9) (v := .ref tnodes) (C := RX9) (T := TX9) (N := 10) hx hb hts iX10_pass_X9 hown hK.1 hP 1 gz1 vcz9 0 (by decide) (kX10_pass_2 hts) (fun _ h9 => h9) gz0 dX10_pass_4 ?_
  refine lv_iload_n hx hb dX10_pass_7 rfl (lv_at hl 1 rfl) ?_
  refine z_i (wr := [(x0, .inr (10, [.ref w0, .ref z0, .ref xi, .ref xt, .int x_tl, .ref xq, .int x_lc, .ref rdr, .ref h0, .ref t0, .ref q0, .ref v0, .ref m0])), (w0, .inr (9, [.ref tnodes, .ref tpasses, .ref tjars, .ref torders, .ref tfeasts, .ref tway, .int tws, .int tnow, .int tfm, .int tx])), (tpasses, .inr (6, [.int 5, .ref tpassesA, .int 20])), (tpassesA, .inl (kA 0, 100, .inl tpassesF))]) (va_runV (As := [.int p0]) (rest := []) ⟨hx, hb, hml, hown, hts⟩ (mX6_has l dC dI kA _ tnodes tnodesA 4 tnodesS p0) (cwV 1 hts gX10_pass_X6_has rfl rfl rfl ⟨rfl, hdX6_has⟩ ⟨(Nat.le_of_ble_eq_true rfl), (Nat.le_of_ble_eq_true rfl)⟩) ⟨zPc.blind, va_recv (q := (RX6, TX6, 3)) hK.1 hP (ci := 6) (q0 := 2) rfl rfl, zPre hK (hP.sub [2] rfl) (hD.sub [2] (by decide) rfl)⟩ rfl rfl hl.1 rfl (lv_room (Nat.le_of_ble_eq_true rfl)) dX10_pass_8 ⟨(Nat.le_of_ble_eq_true rfl), (Nat.le_of_ble_eq_true rfl)⟩) hP hD hS hA [2] [0, 1, 3, 4] rfl rfl (by decide) (by decide) (fun r3 u1 H locs hw2 hP hD hS => ?_)
  obtain rfl := hw2
  obtain ⟨hP, hD⟩ := z_re (L := [(x0, .inr (10, [.ref w0, .ref z0, .ref xi, .ref xt, .int x_tl, .ref xq, .int x_lc, .ref rdr, .ref h0, .ref t0, .ref q0, .ref v0, .ref m0])), (w0, .inr (9, [.ref tnodes, .ref tpasses, .ref tjars, .ref torders, .ref tfeasts, .ref tway, .int tws, .int tnow, .int tfm, .int tx])), (tpasses, .inr (6, [.int 5, .ref tpassesA, .int 20])), (tpassesA, .inl (kA 0, 100, .inl tpassesF)), (tnodes, .inr (6, [.int 4, .ref tnodesA, .int tnodesS]))]) hP hD
  refine lv_if_eq (tgt := 37) hx hb dX10_pass_11 (by decide) (fun c_4 => ?_) (fun c_4 => ?_)
  · refine lv_iconst (v := 0) hx hb dX10_pass_37 (by decide) ?_
    refine lv_istore (lv' := [(6, .int 0), (0, .ref x0), (1, .int p0), (2, .int p1), (3, .int p2), (4, .int p3), (5, .int p4)]) hx hb dX10_pass_38 hl (by decide) rfl (fun ls hl => ?_)
    refine lv_iload_n hx hb dX10_pass_40 rfl (lv_at hl 4 rfl) ?_
    refine lv_iconst (v := 1) hx hb dX10_pass_41 (by decide) ?_
    refine lv_icmp_lt (tgt := 79) hx hb dX10_pass_42 (by decide) (fun c_5 => ?_) (fun c_5 => ?_)
    · refine lv_iconst (v := 0) hx hb dX10_pass_79 (by decide) ?_
      refine lv_istore (lv' := [(7, .int 0), (6, .int 0), (0, .ref x0), (1, .int p0), (2, .int p1), (3, .int p2), (4, .int p3), (5, .int p4)]) hx hb dX10_pass_80 hl (by decide) rfl (fun ls hl => ?_)
      refine lv_iload hx hb dX10_pass_82 (lv_at hl 1 rfl) ?_
      refine lv_if_eq (tgt := 105) hx hb dX10_pass_84 (by decide) (fun _ => ?_) (fun c_6 => absurd (by decide) c_6)
      refine lv_iconst (v := (-1)) hx hb dX10_pass_105 (by decide) ?_
      refine lv_istore (lv' := [(8, .int (-1)), (7, .int 0), (6, .int 0), (0, .ref x0), (1, .int p0), (2, .int p1), (3, .int p2), (4, .int p3), (5, .int p4)]) hx hb dX10_pass_106 hl (by decide) rfl (fun ls hl => ?_)
      refine lv_iload hx hb dX10_pass_108 (lv_at hl 0 rfl) ?_
      refine lv_iconst (v := (-1)) hx hb dX10_pass_110 (by decide) ?_
      refine lv_icmp_eq (tgt := 186) hx hb dX10_pass_111 (by decide) (fun _ => ?_) (fun c_7 => absurd (by decide) c_7)
      refine lv_iload hx hb dX10_pass_186 (lv_at hl 0 rfl) ?_
      obtain ⟨hP9, hD9⟩ := z_sb (L' := [(x0, .inr (10, [.ref w0, .ref z0, .ref xi, .ref xt, .int x_tl, .ref xq, .int x_lc, .ref rdr, .ref h0, .ref t0, .ref q0, .ref v0, .ref m0])), (w0, .inr (9, [.ref tnodes, .ref tpasses, .ref tjars, .ref torders, .ref tfeasts, .ref tway, .int tws, .int tnow, .int tfm, .int tx])), (tnodes, .inr (6, [.int 4, .ref tnodesA, .int tnodesS])), (tpasses, .inr (6, [.int 5, .ref tpassesA, .int 20])), (tpassesA, .inl (kA 0, 100, .inl tpassesF))]) hP hD [0, 1, 4, 2, 3] (by decide) rfl
      refine W.widen (k := 0) (n := 0) (Nat.le_of_ble_eq_true rfl) (Nat.le_of_ble_eq_true rfl) ?_
      exact W.iret (v := (-1)) hx hb hr (fun t ht hW => ⟨⟨(-1), (), rfl, rfl, by rw [ht]; exact hP9, hD9⟩, hS.F ht⟩) hS.2.2 dX10_pass_188
    · refine lv_iload_n hx hb dX10_pass_45 rfl (lv_at hl 4 rfl) ?_
      refine lv_bipush (v := 24) hx hb dX10_pass_46 (by decide) ?_
      refine z_i (wr := [(x0, .inr (10, [.ref w0, .ref z0, .ref xi, .ref xt, .int x_tl, .ref xq, .int x_lc, .ref rdr, .ref h0, .ref t0, .ref q0, .ref v0, .ref m0])), (w0, .inr (9, [.ref tnodes, .ref tpasses, .ref tjars, .ref torders, .ref tfeasts, .ref tway, .int tws, .int tnow, .int tfm, .int tx])), (tpasses, .inr (6, [.int 5, .ref tpassesA, .int 20])), (tpassesA, .inl (kA 0, 100, .inl tpassesF)), (tnodes, .inr (6, [.int 4, .ref tnodesA, .int tnodesS]))]) (va_runS (As := [.int p2, .int 24]) (rest := []) ⟨hx, hb, hml, hown, hts⟩ (mX10_within l dC dI kA _ p2 24) (va_cwS 2 hts gX10_pass_X10_within rfl rfl rfl hdX10_within ⟨(Nat.le_of_ble_eq_true rfl), (Nat.le_of_ble_eq_true rfl)⟩) ⟨zPc.blind, zPre hK (hP.sub [] rfl) (hD.sub [] (by decide) rfl)⟩ rfl rfl hl.1 rfl (lv_room (Nat.le_of_ble_eq_true rfl)) dX10_pass_48 ⟨(Nat.le_of_ble_eq_true rfl), (Nat.le_of_ble_eq_true rfl)⟩) hP hD hS hA [] [0, 1, 2, 3, 4] rfl rfl (by decide) (by decide) (fun r10 u8 H locs hw9 hP hD hS => ?_)
      obtain rfl := hw9
      obtain ⟨hP, hD⟩ := z_re (L := [(x0, .inr (10, [.ref w0, .ref z0, .ref xi, .ref xt, .int x_tl, .ref xq, .int x_lc, .ref rdr, .ref h0, .ref t0, .ref q0, .ref v0, .ref m0])), (w0, .inr (9, [.ref tnodes, .ref tpasses, .ref tjars, .ref torders, .ref tfeasts, .ref tway, .int tws, .int tnow, .int tfm, .int tx])), (tpasses, .inr (6, [.int 5, .ref tpassesA, .int 20])), (tpassesA, .inl (kA 0, 100, .inl tpassesF)), (tnodes, .inr (6, [.int 4, .ref tnodesA, .int tnodesS]))]) hP hD
      refine lv_if_eq (tgt := 79) hx hb dX10_pass_51 (by decide) (fun c_11 => ?_) (fun c_11 => ?_)
      · refine lv_iconst (v := 0) hx hb dX10_pass_79 (by decide) ?_
        refine lv_istore (lv' := [(7, .int 0), (6, .int 0), (0, .ref x0), (1, .int p0), (2, .int p1), (3, .int p2), (4, .int p3), (5, .int p4)]) hx hb dX10_pass_80 hl (by decide) rfl (fun ls hl => ?_)
        refine lv_iload hx hb dX10_pass_82 (lv_at hl 1 rfl) ?_
        refine lv_if_eq (tgt := 105) hx hb dX10_pass_84 (by decide) (fun _ => ?_) (fun c_12 => absurd (by decide) c_12)
        refine lv_iconst (v := (-1)) hx hb dX10_pass_105 (by decide) ?_
        refine lv_istore (lv' := [(8, .int (-1)), (7, .int 0), (6, .int 0), (0, .ref x0), (1, .int p0), (2, .int p1), (3, .int p2), (4, .int p3), (5, .int p4)]) hx hb dX10_pass_106 hl (by decide) rfl (fun ls hl => ?_)
        refine lv_iload hx hb dX10_pass_108 (lv_at hl 0 rfl) ?_
        refine lv_iconst (v := (-1)) hx hb dX10_pass_110 (by decide) ?_
        refine lv_icmp_eq (tgt := 186) hx hb dX10_pass_111 (by decide) (fun _ => ?_) (fun c_13 => absurd (by decide) c_13)
        refine lv_iload hx hb dX10_pass_186 (lv_at hl 0 rfl) ?_
        obtain ⟨hP9, hD9⟩ := z_sb (L' := [(x0, .inr (10, [.ref w0, .ref z0, .ref xi, .ref xt, .int x_tl, .ref xq, .int x_lc, .ref rdr, .ref h0, .ref t0, .ref q0, .ref v0, .ref m0])), (w0, .inr (9, [.ref tnodes, .ref tpasses, .ref tjars, .ref torders, .ref tfeasts, .ref tway, .int tws, .int tnow, .int tfm, .int tx])), (tnodes, .inr (6, [.int 4, .ref tnodesA, .int tnodesS])), (tpasses, .inr (6, [.int 5, .ref tpassesA, .int 20])), (tpassesA, .inl (kA 0, 100, .inl tpassesF))]) hP hD [0, 1, 4, 2, 3] (by decide) rfl
        refine W.widen (k := 0) (n := 0) (Nat.le_of_ble_eq_true rfl) (Nat.le_of_ble_eq_true rfl) ?_
        exact W.iret (v := (-1)) hx hb hr (fun t ht hW => ⟨⟨(-1), (), rfl, rfl, by rw [ht]; exact hP9, hD9⟩, hS.F ht⟩) hS.2.2 dX10_pass_188
      · have c_11a := wi_ne c_11
        have c_11b := c_11a.2
        have c_11a := c_11a.1
        refine lv_iload hx hb dX10_pass_54 (lv_at hl 5 rfl) ?_
        refine lv_bipush (v := 9) hx hb dX10_pass_56 (by decide) ?_
        refine z_i (wr := [(x0, .inr (10, [.ref w0, .ref z0, .ref xi, .ref xt, .int x_tl, .ref xq, .int x_lc, .ref rdr, .ref h0, .ref t0, .ref q0, .ref v0, .ref m0])), (w0, .inr (9, [.ref tnodes, .ref tpasses, .ref tjars, .ref torders, .ref tfeasts, .ref tway, .int tws, .int tnow, .int tfm, .int tx])), (tpasses, .inr (6, [.int 5, .ref tpassesA, .int 20])), (tpassesA, .inl (kA 0, 100, .inl tpassesF)), (tnodes, .inr (6, [.int 4, .ref tnodesA, .int tnodesS]))]) (va_runS (As := [.int p3, .int 9]) (rest := []) ⟨hx, hb, hml, hown, hts⟩ (mX10_within l dC dI kA _ p3 9) (va_cwS 2 hts gX10_pass_X10_within rfl rfl rfl hdX10_within ⟨(Nat.le_of_ble_eq_true rfl), (Nat.le_of_ble_eq_true rfl)⟩) ⟨zPc.blind, zPre hK (hP.sub [] rfl) (hD.sub [] (by decide) rfl)⟩ rfl rfl hl.1 rfl (lv_room (Nat.le_of_ble_eq_true rfl)) dX10_pass_58 ⟨(Nat.le_of_ble_eq_true rfl), (Nat.le_of_ble_eq_true rfl)⟩) hP hD hS hA [] [0, 1, 2, 3, 4] rfl rfl (by decide) (by decide) (fun r16 u14 H locs hw15 hP hD hS => ?_)
        obtain rfl := hw15
        obtain ⟨hP, hD⟩ := z_re (L := [(x0, .inr (10, [.ref w0, .ref z0, .ref xi, .ref xt, .int x_tl, .ref xq, .int x_lc, .ref rdr, .ref h0, .ref t0, .ref q0, .ref v0, .ref m0])), (w0, .inr (9, [.ref tnodes, .ref tpasses, .ref tjars, .ref torders, .ref tfeasts, .ref tway, .int tws, .int tnow, .int tfm, .int tx])), (tpasses, .inr (6, [.int 5, .ref tpassesA, .int 20])), (tpassesA, .inl (kA 0, 100, .inl tpassesF)), (tnodes, .inr (6, [.int 4, .ref tnodesA, .int tnodesS]))]) hP hD
        refine lv_if_eq (tgt := 79) hx hb dX10_pass_61 (by decide) (fun c_17 => ?_) (fun c_17 => ?_)
        · refine lv_iconst (v := 0) hx hb dX10_pass_79 (by decide) ?_
          refine lv_istore (lv' := [(7, .int 0), (6, .int 0), (0, .ref x0), (1, .int p0), (2, .int p1), (3, .int p2), (4, .int p3), (5, .int p4)]) hx hb dX10_pass_80 hl (by decide) rfl (fun ls hl => ?_)
          refine lv_iload hx hb dX10_pass_82 (lv_at hl 1 rfl) ?_
          refine lv_if_eq (tgt := 105) hx hb dX10_pass_84 (by decide) (fun _ => ?_) (fun c_18 => absurd (by decide) c_18)
          refine lv_iconst (v := (-1)) hx hb dX10_pass_105 (by decide) ?_
          refine lv_istore (lv' := [(8, .int (-1)), (7, .int 0), (6, .int 0), (0, .ref x0), (1, .int p0), (2, .int p1), (3, .int p2), (4, .int p3), (5, .int p4)]) hx hb dX10_pass_106 hl (by decide) rfl (fun ls hl => ?_)
          refine lv_iload hx hb dX10_pass_108 (lv_at hl 0 rfl) ?_
          refine lv_iconst (v := (-1)) hx hb dX10_pass_110 (by decide) ?_
          refine lv_icmp_eq (tgt := 186) hx hb dX10_pass_111 (by decide) (fun _ => ?_) (fun c_19 => absurd (by decide) c_19)
          refine lv_iload hx hb dX10_pass_186 (lv_at hl 0 rfl) ?_
          obtain ⟨hP9, hD9⟩ := z_sb (L' := [(x0, .inr (10, [.ref w0, .ref z0, .ref xi, .ref xt, .int x_tl, .ref xq, .int x_lc, .ref rdr, .ref h0, .ref t0, .ref q0, .ref v0, .ref m0])), (w0, .inr (9, [.ref tnodes, .ref tpasses, .ref tjars, .ref torders, .ref tfeasts, .ref tway, .int tws, .int tnow, .int tfm, .int tx])), (tnodes, .inr (6, [.int 4, .ref tnodesA, .int tnodesS])), (tpasses, .inr (6, [.int 5, .ref tpassesA, .int 20])), (tpassesA, .inl (kA 0, 100, .inl tpassesF))]) hP hD [0, 1, 4, 2, 3] (by decide) rfl
          refine W.widen (k := 0) (n := 0) (Nat.le_of_ble_eq_true rfl) (Nat.le_of_ble_eq_true rfl) ?_
          exact W.iret (v := (-1)) hx hb hr (fun t ht hW => ⟨⟨(-1), (), rfl, rfl, by rw [ht]; exact hP9, hD9⟩, hS.F ht⟩) hS.2.2 dX10_pass_188
        · have c_17a := wi_ne c_17
          have c_17b := c_17a.2
          have c_17a := c_17a.1
          refine lv_iload hx hb dX10_pass_64 (lv_at hl 6 rfl) ?_
          refine lv_sipush (v := 1000) hx hb dX10_pass_66 (by decide) ?_
          refine z_i (wr := [(x0, .inr (10, [.ref w0, .ref z0, .ref xi, .ref xt, .int x_tl, .ref xq, .int x_lc, .ref rdr, .ref h0, .ref t0, .ref q0, .ref v0, .ref m0])), (w0, .inr (9, [.ref tnodes, .ref tpasses, .ref tjars, .ref torders, .ref tfeasts, .ref tway, .int tws, .int tnow, .int tfm, .int tx])), (tpasses, .inr (6, [.int 5, .ref tpassesA, .int 20])), (tpassesA, .inl (kA 0, 100, .inl tpassesF)), (tnodes, .inr (6, [.int 4, .ref tnodesA, .int tnodesS]))]) (va_runS (As := [.int p4, .int 1000]) (rest := []) ⟨hx, hb, hml, hown, hts⟩ (mX10_within l dC dI kA _ p4 1000) (va_cwS 2 hts gX10_pass_X10_within rfl rfl rfl hdX10_within ⟨(Nat.le_of_ble_eq_true rfl), (Nat.le_of_ble_eq_true rfl)⟩) ⟨zPc.blind, zPre hK (hP.sub [] rfl) (hD.sub [] (by decide) rfl)⟩ rfl rfl hl.1 rfl (lv_room (Nat.le_of_ble_eq_true rfl)) dX10_pass_69 ⟨(Nat.le_of_ble_eq_true rfl), (Nat.le_of_ble_eq_true rfl)⟩) hP hD hS hA [] [0, 1, 2, 3, 4] rfl rfl (by decide) (by decide) (fun r22 u20 H locs hw21 hP hD hS => ?_)
          obtain rfl := hw21
          obtain ⟨hP, hD⟩ := z_re (L := [(x0, .inr (10, [.ref w0, .ref z0, .ref xi, .ref xt, .int x_tl, .ref xq, .int x_lc, .ref rdr, .ref h0, .ref t0, .ref q0, .ref v0, .ref m0])), (w0, .inr (9, [.ref tnodes, .ref tpasses, .ref tjars, .ref torders, .ref tfeasts, .ref tway, .int tws, .int tnow, .int tfm, .int tx])), (tpasses, .inr (6, [.int 5, .ref tpassesA, .int 20])), (tpassesA, .inl (kA 0, 100, .inl tpassesF)), (tnodes, .inr (6, [.int 4, .ref tnodesA, .int tnodesS]))]) hP hD
          refine lv_if_eq (tgt := 79) hx hb dX10_pass_72 (by decide) (fun c_23 => ?_) (fun c_23 => ?_)
          · refine lv_iconst (v := 0) hx hb dX10_pass_79 (by decide) ?_
            refine lv_istore (lv' := [(7, .int 0), (6, .int 0), (0, .ref x0), (1, .int p0), (2, .int p1), (3, .int p2), (4, .int p3), (5, .int p4)]) hx hb dX10_pass_80 hl (by decide) rfl (fun ls hl => ?_)
            refine lv_iload hx hb dX10_pass_82 (lv_at hl 1 rfl) ?_
            refine lv_if_eq (tgt := 105) hx hb dX10_pass_84 (by decide) (fun _ => ?_) (fun c_24 => absurd (by decide) c_24)
            refine lv_iconst (v := (-1)) hx hb dX10_pass_105 (by decide) ?_
            refine lv_istore (lv' := [(8, .int (-1)), (7, .int 0), (6, .int 0), (0, .ref x0), (1, .int p0), (2, .int p1), (3, .int p2), (4, .int p3), (5, .int p4)]) hx hb dX10_pass_106 hl (by decide) rfl (fun ls hl => ?_)
            refine lv_iload hx hb dX10_pass_108 (lv_at hl 0 rfl) ?_
            refine lv_iconst (v := (-1)) hx hb dX10_pass_110 (by decide) ?_
            refine lv_icmp_eq (tgt := 186) hx hb dX10_pass_111 (by decide) (fun _ => ?_) (fun c_25 => absurd (by decide) c_25)
            refine lv_iload hx hb dX10_pass_186 (lv_at hl 0 rfl) ?_
            obtain ⟨hP9, hD9⟩ := z_sb (L' := [(x0, .inr (10, [.ref w0, .ref z0, .ref xi, .ref xt, .int x_tl, .ref xq, .int x_lc, .ref rdr, .ref h0, .ref t0, .ref q0, .ref v0, .ref m0])), (w0, .inr (9, [.ref tnodes, .ref tpasses, .ref tjars, .ref torders, .ref tfeasts, .ref tway, .int tws, .int tnow, .int tfm, .int tx])), (tnodes, .inr (6, [.int 4, .ref tnodesA, .int tnodesS])), (tpasses, .inr (6, [.int 5, .ref tpassesA, .int 20])), (tpassesA, .inl (kA 0, 100, .inl tpassesF))]) hP hD [0, 1, 4, 2, 3] (by decide) rfl
            refine W.widen (k := 0) (n := 0) (Nat.le_of_ble_eq_true rfl) (Nat.le_of_ble_eq_true rfl) ?_
            exact W.iret (v := (-1)) hx hb hr (fun t ht hW => ⟨⟨(-1), (), rfl, rfl, by rw [ht]; exact hP9, hD9⟩, hS.F ht⟩) hS.2.2 dX10_pass_188
          · have c_23a := wi_ne c_23
            have c_23b := c_23a.2
            have c_23a := c_23a.1
            refine lv_iconst (v := 1) hx hb dX10_pass_75 (by decide) ?_
            refine lv_goto (tgt := 80) hx hb dX10_pass_76 (by decide) ?_
            refine lv_istore (lv' := [(7, .int 1), (6, .int 0), (0, .ref x0), (1, .int p0), (2, .int p1), (3, .int p2), (4, .int p3), (5, .int p4)]) hx hb dX10_pass_80 hl (by decide) rfl (fun ls hl => ?_)
            refine lv_iload hx hb dX10_pass_82 (lv_at hl 1 rfl) ?_
            refine lv_if_eq (tgt := 105) hx hb dX10_pass_84 (by decide) (fun _ => ?_) (fun c_26 => absurd (by decide) c_26)
            refine lv_iconst (v := (-1)) hx hb dX10_pass_105 (by decide) ?_
            refine lv_istore (lv' := [(8, .int (-1)), (7, .int 1), (6, .int 0), (0, .ref x0), (1, .int p0), (2, .int p1), (3, .int p2), (4, .int p3), (5, .int p4)]) hx hb dX10_pass_106 hl (by decide) rfl (fun ls hl => ?_)
            refine lv_iload hx hb dX10_pass_108 (lv_at hl 0 rfl) ?_
            refine lv_iconst (v := (-1)) hx hb dX10_pass_110 (by decide) ?_
            refine lv_icmp_eq (tgt := 186) hx hb dX10_pass_111 (by decide) (fun _ => ?_) (fun c_27 => absurd (by decide) c_27)
            refine lv_iload hx hb dX10_pass_186 (lv_at hl 0 rfl) ?_
            obtain ⟨hP9, hD9⟩ := z_sb (L' := [(x0, .inr (10, [.ref w0, .ref z0, .ref xi, .ref xt, .int x_tl, .ref xq, .int x_lc, .ref rdr, .ref h0, .ref t0, .ref q0, .ref v0, .ref m0])), (w0, .inr (9, [.ref tnodes, .ref tpasses, .ref tjars, .ref torders, .ref tfeasts, .ref tway, .int tws, .int tnow, .int tfm, .int tx])), (tnodes, .inr (6, [.int 4, .ref tnodesA, .int tnodesS])), (tpasses, .inr (6, [.int 5, .ref tpassesA, .int 20])), (tpassesA, .inl (kA 0, 100, .inl tpassesF))]) hP hD [0, 1, 4, 2, 3] (by decide) rfl
            refine W.widen (k := 0) (n := 0) (Nat.le_of_ble_eq_true rfl) (Nat.le_of_ble_eq_true rfl) ?_
            exact W.iret (v := (-1)) hx hb hr (fun t ht hW => ⟨⟨(-1), (), rfl, rfl, by rw [ht]; exact hP9, hD9⟩, hS.F ht⟩) hS.2.2 dX10_pass_188
  · have c_4a := hs_ne c_4
    have c_4b := c_4a.2
    have c_4a := c_4a.1
    refine lv_aload_n hx hb dX10_pass_14 rfl (lv_at hl 0 rfl) ?_
    refine va_get (D := (dC, dI)) (ci := 10) (v := .ref w0) (C := RX10) (T := TX10) (N := 13) hx hb hts iX10_pass_X10 hown hK.1 hP 0 gz0 vcz10 0 (by decide) (kX10_pass_1 hts) (fun _ h9 => h9) gz0 dX10_pass_15 ?_
    refine va_get (D := (dC, dI)) (ci := 9) (v := .ref tnodes) (C := RX9) (T := TX9) (N := 10) hx hb hts iX10_pass_X9 hown hK.1 hP 1 gz1 vcz9 0 (by decide) (kX10_pass_2 hts) (fun _ h9 => h9) gz0 dX10_pass_18 ?_
    refine lv_iload_n hx hb dX10_pass_21 rfl (lv_at hl 2 rfl) ?_
    refine z_i (wr := [(x0, .inr (10, [.ref w0, .ref z0, .ref xi, .ref xt, .int x_tl, .ref xq, .int x_lc, .ref rdr, .ref h0, .ref t0, .ref q0, .ref v0, .ref m0])), (w0, .inr (9, [.ref tnodes, .ref tpasses, .ref tjars, .ref torders, .ref tfeasts, .ref tway, .int tws, .int tnow, .int tfm, .int tx])), (tpasses, .inr (6, [.int 5, .ref tpassesA, .int 20])), (tpassesA, .inl (kA 0, 100, .inl tpassesF))]) (va_runV (As := [.int p1]) (rest := []) ⟨hx, hb, hml, hown, hts⟩ (mX6_has l dC dI kA _ tnodes tnodesA 4 tnodesS p1) (cwV 1 hts gX10_pass_X6_has rfl rfl rfl ⟨rfl, hdX6_has⟩ ⟨(Nat.le_of_ble_eq_true rfl), (Nat.le_of_ble_eq_true rfl)⟩) ⟨zPc.blind, va_recv (q := (RX6, TX6, 3)) hK.1 hP (ci := 6) (q0 := 4) rfl rfl, zPre hK (hP.sub [4] rfl) (hD.sub [4] (by decide) rfl)⟩ rfl rfl hl.1 rfl (lv_room (Nat.le_of_ble_eq_true rfl)) dX10_pass_22 ⟨(Nat.le_of_ble_eq_true rfl), (Nat.le_of_ble_eq_true rfl)⟩) hP hD hS hA [4] [0, 1, 2, 3] rfl rfl (by decide) (by decide) (fun r30 u28 H locs hw29 hP hD hS => ?_)
    obtain rfl := hw29
    obtain ⟨hP, hD⟩ := z_re (L := [(x0, .inr (10, [.ref w0, .ref z0, .ref xi, .ref xt, .int x_tl, .ref xq, .int x_lc, .ref rdr, .ref h0, .ref t0, .ref q0, .ref v0, .ref m0])), (w0, .inr (9, [.ref tnodes, .ref tpasses, .ref tjars, .ref torders, .ref tfeasts, .ref tway, .int tws, .int tnow, .int tfm, .int tx])), (tpasses, .inr (6, [.int 5, .ref tpassesA, .int 20])), (tpassesA, .inl (kA 0, 100, .inl tpassesF)), (tnodes, .inr (6, [.int 4, .ref tnodesA, .int tnodesS]))]) hP hD
    refine lv_if_eq (tgt := 37) hx hb dX10_pass_25 (by decide) (fun c_31 => ?_) (fun c_31 => ?_)
    · refine lv_iconst (v := 0) hx hb dX10_pass_37 (by decide) ?_
      refine lv_istore (lv' := [(6, .int 0), (0, .ref x0), (1, .int p0), (2, .int p1), (3, .int p2), (4, .int p3), (5, .int p4)]) hx hb dX10_pass_38 hl (by decide) rfl (fun ls hl => ?_)
      refine lv_iload_n hx hb dX10_pass_40 rfl (lv_at hl 4 rfl) ?_
      refine lv_iconst (v := 1) hx hb dX10_pass_41 (by decide) ?_
      refine lv_icmp_lt (tgt := 79) hx hb dX10_pass_42 (by decide) (fun c_32 => ?_) (fun c_32 => ?_)
      · refine lv_iconst (v := 0) hx hb dX10_pass_79 (by decide) ?_
        refine lv_istore (lv' := [(7, .int 0), (6, .int 0), (0, .ref x0), (1, .int p0), (2, .int p1), (3, .int p2), (4, .int p3), (5, .int p4)]) hx hb dX10_pass_80 hl (by decide) rfl (fun ls hl => ?_)
        refine lv_iload hx hb dX10_pass_82 (lv_at hl 1 rfl) ?_
        refine lv_if_eq (tgt := 105) hx hb dX10_pass_84 (by decide) (fun _ => ?_) (fun c_33 => absurd (by decide) c_33)
        refine lv_iconst (v := (-1)) hx hb dX10_pass_105 (by decide) ?_
        refine lv_istore (lv' := [(8, .int (-1)), (7, .int 0), (6, .int 0), (0, .ref x0), (1, .int p0), (2, .int p1), (3, .int p2), (4, .int p3), (5, .int p4)]) hx hb dX10_pass_106 hl (by decide) rfl (fun ls hl => ?_)
        refine lv_iload hx hb dX10_pass_108 (lv_at hl 0 rfl) ?_
        refine lv_iconst (v := (-1)) hx hb dX10_pass_110 (by decide) ?_
        refine lv_icmp_eq (tgt := 186) hx hb dX10_pass_111 (by decide) (fun _ => ?_) (fun c_34 => absurd (by decide) c_34)
        refine lv_iload hx hb dX10_pass_186 (lv_at hl 0 rfl) ?_
        obtain ⟨hP9, hD9⟩ := z_sb (L' := [(x0, .inr (10, [.ref w0, .ref z0, .ref xi, .ref xt, .int x_tl, .ref xq, .int x_lc, .ref rdr, .ref h0, .ref t0, .ref q0, .ref v0, .ref m0])), (w0, .inr (9, [.ref tnodes, .ref tpasses, .ref tjars, .ref torders, .ref tfeasts, .ref tway, .int tws, .int tnow, .int tfm, .int tx])), (tnodes, .inr (6, [.int 4, .ref tnodesA, .int tnodesS])), (tpasses, .inr (6, [.int 5, .ref tpassesA, .int 20])), (tpassesA, .inl (kA 0, 100, .inl tpassesF))]) hP hD [0, 1, 4, 2, 3] (by decide) rfl
        refine W.widen (k := 0) (n := 0) (Nat.le_of_ble_eq_true rfl) (Nat.le_of_ble_eq_true rfl) ?_
        exact W.iret (v := (-1)) hx hb hr (fun t ht hW => ⟨⟨(-1), (), rfl, rfl, by rw [ht]; exact hP9, hD9⟩, hS.F ht⟩) hS.2.2 dX10_pass_188
      · refine lv_iload_n hx hb dX10_pass_45 rfl (lv_at hl 4 rfl) ?_
        refine lv_bipush (v := 24) hx hb dX10_pass_46 (by decide) ?_
        refine z_i (wr := [(x0, .inr (10, [.ref w0, .ref z0, .ref xi, .ref xt, .int x_tl, .ref xq, .int x_lc, .ref rdr, .ref h0, .ref t0, .ref q0, .ref v0, .ref m0])), (w0, .inr (9, [.ref tnodes, .ref tpasses, .ref tjars, .ref torders, .ref tfeasts, .ref tway, .int tws, .int tnow, .int tfm, .int tx])), (tpasses, .inr (6, [.int 5, .ref tpassesA, .int 20])), (tpassesA, .inl (kA 0, 100, .inl tpassesF)), (tnodes, .inr (6, [.int 4, .ref tnodesA, .int tnodesS]))]) (va_runS (As := [.int p2, .int 24]) (rest := []) ⟨hx, hb, hml, hown, hts⟩ (mX10_within l dC dI kA _ p2 24) (va_cwS 2 hts gX10_pass_X10_within rfl rfl rfl hdX10_within ⟨(Nat.le_of_ble_eq_true rfl), (Nat.le_of_ble_eq_true rfl)⟩) ⟨zPc.blind, zPre hK (hP.sub [] rfl) (hD.sub [] (by decide) rfl)⟩ rfl rfl hl.1 rfl (lv_room (Nat.le_of_ble_eq_true rfl)) dX10_pass_48 ⟨(Nat.le_of_ble_eq_true rfl), (Nat.le_of_ble_eq_true rfl)⟩) hP hD hS hA [] [0, 1, 2, 3, 4] rfl rfl (by decide) (by decide) (fun r37 u35 H locs hw36 hP hD hS => ?_)
        obtain rfl := hw36
        obtain ⟨hP, hD⟩ := z_re (L := [(x0, .inr (10, [.ref w0, .ref z0, .ref xi, .ref xt, .int x_tl, .ref xq, .int x_lc, .ref rdr, .ref h0, .ref t0, .ref q0, .ref v0, .ref m0])), (w0, .inr (9, [.ref tnodes, .ref tpasses, .ref tjars, .ref torders, .ref tfeasts, .ref tway, .int tws, .int tnow, .int tfm, .int tx])), (tpasses, .inr (6, [.int 5, .ref tpassesA, .int 20])), (tpassesA, .inl (kA 0, 100, .inl tpassesF)), (tnodes, .inr (6, [.int 4, .ref tnodesA, .int tnodesS]))]) hP hD
        refine lv_if_eq (tgt := 79) hx hb dX10_pass_51 (by decide) (fun c_38 => ?_) (fun c_38 => ?_)
        · refine lv_iconst (v := 0) hx hb dX10_pass_79 (by decide) ?_
          refine lv_istore (lv' := [(7, .int 0), (6, .int 0), (0, .ref x0), (1, .int p0), (2, .int p1), (3, .int p2), (4, .int p3), (5, .int p4)]) hx hb dX10_pass_80 hl (by decide) rfl (fun ls hl => ?_)
          refine lv_iload hx hb dX10_pass_82 (lv_at hl 1 rfl) ?_
          refine lv_if_eq (tgt := 105) hx hb dX10_pass_84 (by decide) (fun _ => ?_) (fun c_39 => absurd (by decide) c_39)
          refine lv_iconst (v := (-1)) hx hb dX10_pass_105 (by decide) ?_
          refine lv_istore (lv' := [(8, .int (-1)), (7, .int 0), (6, .int 0), (0, .ref x0), (1, .int p0), (2, .int p1), (3, .int p2), (4, .int p3), (5, .int p4)]) hx hb dX10_pass_106 hl (by decide) rfl (fun ls hl => ?_)
          refine lv_iload hx hb dX10_pass_108 (lv_at hl 0 rfl) ?_
          refine lv_iconst (v := (-1)) hx hb dX10_pass_110 (by decide) ?_
          refine lv_icmp_eq (tgt := 186) hx hb dX10_pass_111 (by decide) (fun _ => ?_) (fun c_40 => absurd (by decide) c_40)
          refine lv_iload hx hb dX10_pass_186 (lv_at hl 0 rfl) ?_
          obtain ⟨hP9, hD9⟩ := z_sb (L' := [(x0, .inr (10, [.ref w0, .ref z0, .ref xi, .ref xt, .int x_tl, .ref xq, .int x_lc, .ref rdr, .ref h0, .ref t0, .ref q0, .ref v0, .ref m0])), (w0, .inr (9, [.ref tnodes, .ref tpasses, .ref tjars, .ref torders, .ref tfeasts, .ref tway, .int tws, .int tnow, .int tfm, .int tx])), (tnodes, .inr (6, [.int 4, .ref tnodesA, .int tnodesS])), (tpasses, .inr (6, [.int 5, .ref tpassesA, .int 20])), (tpassesA, .inl (kA 0, 100, .inl tpassesF))]) hP hD [0, 1, 4, 2, 3] (by decide) rfl
          refine W.widen (k := 0) (n := 0) (Nat.le_of_ble_eq_true rfl) (Nat.le_of_ble_eq_true rfl) ?_
          exact W.iret (v := (-1)) hx hb hr (fun t ht hW => ⟨⟨(-1), (), rfl, rfl, by rw [ht]; exact hP9, hD9⟩, hS.F ht⟩) hS.2.2 dX10_pass_188
        · have c_38a := wi_ne c_38
          have c_38b := c_38a.2
          have c_38a := c_38a.1
          refine lv_iload hx hb dX10_pass_54 (lv_at hl 5 rfl) ?_
          refine lv_bipush (v := 9) hx hb dX10_pass_56 (by decide) ?_
          refine z_i (wr := [(x0, .inr (10, [.ref w0, .ref z0, .ref xi, .ref xt, .int x_tl, .ref xq, .int x_lc, .ref rdr, .ref h0, .ref t0, .ref q0, .ref v0, .ref m0])), (w0, .inr (9, [.ref tnodes, .ref tpasses, .ref tjars, .ref torders, .ref tfeasts, .ref tway, .int tws, .int tnow, .int tfm, .int tx])), (tpasses, .inr (6, [.int 5, .ref tpassesA, .int 20])), (tpassesA, .inl (kA 0, 100, .inl tpassesF)), (tnodes, .inr (6, [.int 4, .ref tnodesA, .int tnodesS]))]) (va_runS (As := [.int p3, .int 9]) (rest := []) ⟨hx, hb, hml, hown, hts⟩ (mX10_within l dC dI kA _ p3 9) (va_cwS 2 hts gX10_pass_X10_within rfl rfl rfl hdX10_within ⟨(Nat.le_of_ble_eq_true rfl), (Nat.le_of_ble_eq_true rfl)⟩) ⟨zPc.blind, zPre hK (hP.sub [] rfl) (hD.sub [] (by decide) rfl)⟩ rfl rfl hl.1 rfl (lv_room (Nat.le_of_ble_eq_true rfl)) dX10_pass_58 ⟨(Nat.le_of_ble_eq_true rfl), (Nat.le_of_ble_eq_true rfl)⟩) hP hD hS hA [] [0, 1, 2, 3, 4] rfl rfl (by decide) (by decide) (fun r43 u41 H locs hw42 hP hD hS => ?_)
          obtain rfl := hw42
          obtain ⟨hP, hD⟩ := z_re (L := [(x0, .inr (10, [.ref w0, .ref z0, .ref xi, .ref xt, .int x_tl, .ref xq, .int x_lc, .ref rdr, .ref h0, .ref t0, .ref q0, .ref v0, .ref m0])), (w0, .inr (9, [.ref tnodes, .ref tpasses, .ref tjars, .ref torders, .ref tfeasts, .ref tway, .int tws, .int tnow, .int tfm, .int tx])), (tpasses, .inr (6, [.int 5, .ref tpassesA, .int 20])), (tpassesA, .inl (kA 0, 100, .inl tpassesF)), (tnodes, .inr (6, [.int 4, .ref tnodesA, .int tnodesS]))]) hP hD
          refine lv_if_eq (tgt := 79) hx hb dX10_pass_61 (by decide) (fun c_44 => ?_) (fun c_44 => ?_)
          · refine lv_iconst (v := 0) hx hb dX10_pass_79 (by decide) ?_
            refine lv_istore (lv' := [(7, .int 0), (6, .int 0), (0, .ref x0), (1, .int p0), (2, .int p1), (3, .int p2), (4, .int p3), (5, .int p4)]) hx hb dX10_pass_80 hl (by decide) rfl (fun ls hl => ?_)
            refine lv_iload hx hb dX10_pass_82 (lv_at hl 1 rfl) ?_
            refine lv_if_eq (tgt := 105) hx hb dX10_pass_84 (by decide) (fun _ => ?_) (fun c_45 => absurd (by decide) c_45)
            refine lv_iconst (v := (-1)) hx hb dX10_pass_105 (by decide) ?_
            refine lv_istore (lv' := [(8, .int (-1)), (7, .int 0), (6, .int 0), (0, .ref x0), (1, .int p0), (2, .int p1), (3, .int p2), (4, .int p3), (5, .int p4)]) hx hb dX10_pass_106 hl (by decide) rfl (fun ls hl => ?_)
            refine lv_iload hx hb dX10_pass_108 (lv_at hl 0 rfl) ?_
            refine lv_iconst (v := (-1)) hx hb dX10_pass_110 (by decide) ?_
            refine lv_icmp_eq (tgt := 186) hx hb dX10_pass_111 (by decide) (fun _ => ?_) (fun c_46 => absurd (by decide) c_46)
            refine lv_iload hx hb dX10_pass_186 (lv_at hl 0 rfl) ?_
            obtain ⟨hP9, hD9⟩ := z_sb (L' := [(x0, .inr (10, [.ref w0, .ref z0, .ref xi, .ref xt, .int x_tl, .ref xq, .int x_lc, .ref rdr, .ref h0, .ref t0, .ref q0, .ref v0, .ref m0])), (w0, .inr (9, [.ref tnodes, .ref tpasses, .ref tjars, .ref torders, .ref tfeasts, .ref tway, .int tws, .int tnow, .int tfm, .int tx])), (tnodes, .inr (6, [.int 4, .ref tnodesA, .int tnodesS])), (tpasses, .inr (6, [.int 5, .ref tpassesA, .int 20])), (tpassesA, .inl (kA 0, 100, .inl tpassesF))]) hP hD [0, 1, 4, 2, 3] (by decide) rfl
            refine W.widen (k := 0) (n := 0) (Nat.le_of_ble_eq_true rfl) (Nat.le_of_ble_eq_true rfl) ?_
            exact W.iret (v := (-1)) hx hb hr (fun t ht hW => ⟨⟨(-1), (), rfl, rfl, by rw [ht]; exact hP9, hD9⟩, hS.F ht⟩) hS.2.2 dX10_pass_188
          · have c_44a := wi_ne c_44
            have c_44b := c_44a.2
            have c_44a := c_44a.1
            refine lv_iload hx hb dX10_pass_64 (lv_at hl 6 rfl) ?_
            refine lv_sipush (v := 1000) hx hb dX10_pass_66 (by decide) ?_
            refine z_i (wr := [(x0, .inr (10, [.ref w0, .ref z0, .ref xi, .ref xt, .int x_tl, .ref xq, .int x_lc, .ref rdr, .ref h0, .ref t0, .ref q0, .ref v0, .ref m0])), (w0, .inr (9, [.ref tnodes, .ref tpasses, .ref tjars, .ref torders, .ref tfeasts, .ref tway, .int tws, .int tnow, .int tfm, .int tx])), (tpasses, .inr (6, [.int 5, .ref tpassesA, .int 20])), (tpassesA, .inl (kA 0, 100, .inl tpassesF)), (tnodes, .inr (6, [.int 4, .ref tnodesA, .int tnodesS]))]) (va_runS (As := [.int p4, .int 1000]) (rest := []) ⟨hx, hb, hml, hown, hts⟩ (mX10_within l dC dI kA _ p4 1000) (va_cwS 2 hts gX10_pass_X10_within rfl rfl rfl hdX10_within ⟨(Nat.le_of_ble_eq_true rfl), (Nat.le_of_ble_eq_true rfl)⟩) ⟨zPc.blind, zPre hK (hP.sub [] rfl) (hD.sub [] (by decide) rfl)⟩ rfl rfl hl.1 rfl (lv_room (Nat.le_of_ble_eq_true rfl)) dX10_pass_69 ⟨(Nat.le_of_ble_eq_true rfl), (Nat.le_of_ble_eq_true rfl)⟩) hP hD hS hA [] [0, 1, 2, 3, 4] rfl rfl (by decide) (by decide) (fun r49 u47 H locs hw48 hP hD hS => ?_)
            obtain rfl := hw48
            obtain ⟨hP, hD⟩ := z_re (L := [(x0, .inr (10, [.ref w0, .ref z0, .ref xi, .ref xt, .int x_tl, .ref xq, .int x_lc, .ref rdr, .ref h0, .ref t0, .ref q0, .ref v0, .ref m0])), (w0, .inr (9, [.ref tnodes, .ref tpasses, .ref tjars, .ref torders, .ref tfeasts, .ref tway, .int tws, .int tnow, .int tfm, .int tx])), (tpasses, .inr (6, [.int 5, .ref tpassesA, .int 20])), (tpassesA, .inl (kA 0, 100, .inl tpassesF)), (tnodes, .inr (6, [.int 4, .ref tnodesA, .int tnodesS]))]) hP hD
            refine lv_if_eq (tgt := 79) hx hb dX10_pass_72 (by decide) (fun c_50 => ?_) (fun c_50 => ?_)
            · refine lv_iconst (v := 0) hx hb dX10_pass_79 (by decide) ?_
              refine lv_istore (lv' := [(7, .int 0), (6, .int 0), (0, .ref x0), (1, .int p0), (2, .int p1), (3, .int p2), (4, .int p3), (5, .int p4)]) hx hb dX10_pass_80 hl (by decide) rfl (fun ls hl => ?_)
              refine lv_iload hx hb dX10_pass_82 (lv_at hl 1 rfl) ?_
              refine lv_if_eq (tgt := 105) hx hb dX10_pass_84 (by decide) (fun _ => ?_) (fun c_51 => absurd (by decide) c_51)
              refine lv_iconst (v := (-1)) hx hb dX10_pass_105 (by decide) ?_
              refine lv_istore (lv' := [(8, .int (-1)), (7, .int 0), (6, .int 0), (0, .ref x0), (1, .int p0), (2, .int p1), (3, .int p2), (4, .int p3), (5, .int p4)]) hx hb dX10_pass_106 hl (by decide) rfl (fun ls hl => ?_)
              refine lv_iload hx hb dX10_pass_108 (lv_at hl 0 rfl) ?_
              refine lv_iconst (v := (-1)) hx hb dX10_pass_110 (by decide) ?_
              refine lv_icmp_eq (tgt := 186) hx hb dX10_pass_111 (by decide) (fun _ => ?_) (fun c_52 => absurd (by decide) c_52)
              refine lv_iload hx hb dX10_pass_186 (lv_at hl 0 rfl) ?_
              obtain ⟨hP9, hD9⟩ := z_sb (L' := [(x0, .inr (10, [.ref w0, .ref z0, .ref xi, .ref xt, .int x_tl, .ref xq, .int x_lc, .ref rdr, .ref h0, .ref t0, .ref q0, .ref v0, .ref m0])), (w0, .inr (9, [.ref tnodes, .ref tpasses, .ref tjars, .ref torders, .ref tfeasts, .ref tway, .int tws, .int tnow, .int tfm, .int tx])), (tnodes, .inr (6, [.int 4, .ref tnodesA, .int tnodesS])), (tpasses, .inr (6, [.int 5, .ref tpassesA, .int 20])), (tpassesA, .inl (kA 0, 100, .inl tpassesF))]) hP hD [0, 1, 4, 2, 3] (by decide) rfl
              refine W.widen (k := 0) (n := 0) (Nat.le_of_ble_eq_true rfl) (Nat.le_of_ble_eq_true rfl) ?_
              exact W.iret (v := (-1)) hx hb hr (fun t ht hW => ⟨⟨(-1), (), rfl, rfl, by rw [ht]; exact hP9, hD9⟩, hS.F ht⟩) hS.2.2 dX10_pass_188
            · have c_50a := wi_ne c_50
              have c_50b := c_50a.2
              have c_50a := c_50a.1
              refine lv_iconst (v := 1) hx hb dX10_pass_75 (by decide) ?_
              refine lv_goto (tgt := 80) hx hb dX10_pass_76 (by decide) ?_
              refine lv_istore (lv' := [(7, .int 1), (6, .int 0), (0, .ref x0), (1, .int p0), (2, .int p1), (3, .int p2), (4, .int p3), (5, .int p4)]) hx hb dX10_pass_80 hl (by decide) rfl (fun ls hl => ?_)
              refine lv_iload hx hb dX10_pass_82 (lv_at hl 1 rfl) ?_
              refine lv_if_eq (tgt := 105) hx hb dX10_pass_84 (by decide) (fun _ => ?_) (fun c_53 => absurd (by decide) c_53)
              refine lv_iconst (v := (-1)) hx hb dX10_pass_105 (by decide) ?_
              refine lv_istore (lv' := [(8, .int (-1)), (7, .int 1), (6, .int 0), (0, .ref x0), (1, .int p0), (2, .int p1), (3, .int p2), (4, .int p3), (5, .int p4)]) hx hb dX10_pass_106 hl (by decide) rfl (fun ls hl => ?_)
              refine lv_iload hx hb dX10_pass_108 (lv_at hl 0 rfl) ?_
              refine lv_iconst (v := (-1)) hx hb dX10_pass_110 (by decide) ?_
              refine lv_icmp_eq (tgt := 186) hx hb dX10_pass_111 (by decide) (fun _ => ?_) (fun c_54 => absurd (by decide) c_54)
              refine lv_iload hx hb dX10_pass_186 (lv_at hl 0 rfl) ?_
              obtain ⟨hP9, hD9⟩ := z_sb (L' := [(x0, .inr (10, [.ref w0, .ref z0, .ref xi, .ref xt, .int x_tl, .ref xq, .int x_lc, .ref rdr, .ref h0, .ref t0, .ref q0, .ref v0, .ref m0])), (w0, .inr (9, [.ref tnodes, .ref tpasses, .ref tjars, .ref torders, .ref tfeasts, .ref tway, .int tws, .int tnow, .int tfm, .int tx])), (tnodes, .inr (6, [.int 4, .ref tnodesA, .int tnodesS])), (tpasses, .inr (6, [.int 5, .ref tpassesA, .int 20])), (tpassesA, .inl (kA 0, 100, .inl tpassesF))]) hP hD [0, 1, 4, 2, 3] (by decide) rfl
              refine W.widen (k := 0) (n := 0) (Nat.le_of_ble_eq_true rfl) (Nat.le_of_ble_eq_true rfl) ?_
              exact W.iret (v := (-1)) hx hb hr (fun t ht hW => ⟨⟨(-1), (), rfl, rfl, by rw [ht]; exact hP9, hD9⟩, hS.F ht⟩) hS.2.2 dX10_pass_188
    · have c_31a := hs_ne c_31
      have c_31b := c_31a.2
      have c_31a := c_31a.1
      refine lv_iload_n hx hb dX10_pass_28 rfl (lv_at hl 1 rfl) ?_
      refine lv_iload_n hx hb dX10_pass_29 rfl (lv_at hl 2 rfl) ?_
      refine lv_icmp_eq (tgt := 37) hx hb dX10_pass_30 (by decide) (fun c_55 => ?_) (fun c_55 => ?_)
      · refine lv_iconst (v := 0) hx hb dX10_pass_37 (by decide) ?_
        refine lv_istore (lv' := [(6, .int 0), (0, .ref x0), (1, .int p0), (2, .int p1), (3, .int p2), (4, .int p3), (5, .int p4)]) hx hb dX10_pass_38 hl (by decide) rfl (fun ls hl => ?_)
        refine lv_iload_n hx hb dX10_pass_40 rfl (lv_at hl 4 rfl) ?_
        refine lv_iconst (v := 1) hx hb dX10_pass_41 (by decide) ?_
        refine lv_icmp_lt (tgt := 79) hx hb dX10_pass_42 (by decide) (fun c_56 => ?_) (fun c_56 => ?_)
        · refine lv_iconst (v := 0) hx hb dX10_pass_79 (by decide) ?_
          refine lv_istore (lv' := [(7, .int 0), (6, .int 0), (0, .ref x0), (1, .int p0), (2, .int p1), (3, .int p2), (4, .int p3), (5, .int p4)]) hx hb dX10_pass_80 hl (by decide) rfl (fun ls hl => ?_)
          refine lv_iload hx hb dX10_pass_82 (lv_at hl 1 rfl) ?_
          refine lv_if_eq (tgt := 105) hx hb dX10_pass_84 (by decide) (fun _ => ?_) (fun c_57 => absurd (by decide) c_57)
          refine lv_iconst (v := (-1)) hx hb dX10_pass_105 (by decide) ?_
          refine lv_istore (lv' := [(8, .int (-1)), (7, .int 0), (6, .int 0), (0, .ref x0), (1, .int p0), (2, .int p1), (3, .int p2), (4, .int p3), (5, .int p4)]) hx hb dX10_pass_106 hl (by decide) rfl (fun ls hl => ?_)
          refine lv_iload hx hb dX10_pass_108 (lv_at hl 0 rfl) ?_
          refine lv_iconst (v := (-1)) hx hb dX10_pass_110 (by decide) ?_
          refine lv_icmp_eq (tgt := 186) hx hb dX10_pass_111 (by decide) (fun _ => ?_) (fun c_58 => absurd (by decide) c_58)
          refine lv_iload hx hb dX10_pass_186 (lv_at hl 0 rfl) ?_
          obtain ⟨hP9, hD9⟩ := z_sb (L' := [(x0, .inr (10, [.ref w0, .ref z0, .ref xi, .ref xt, .int x_tl, .ref xq, .int x_lc, .ref rdr, .ref h0, .ref t0, .ref q0, .ref v0, .ref m0])), (w0, .inr (9, [.ref tnodes, .ref tpasses, .ref tjars, .ref torders, .ref tfeasts, .ref tway, .int tws, .int tnow, .int tfm, .int tx])), (tnodes, .inr (6, [.int 4, .ref tnodesA, .int tnodesS])), (tpasses, .inr (6, [.int 5, .ref tpassesA, .int 20])), (tpassesA, .inl (kA 0, 100, .inl tpassesF))]) hP hD [0, 1, 4, 2, 3] (by decide) rfl
          refine W.widen (k := 0) (n := 0) (Nat.le_of_ble_eq_true rfl) (Nat.le_of_ble_eq_true rfl) ?_
          exact W.iret (v := (-1)) hx hb hr (fun t ht hW => ⟨⟨(-1), (), rfl, rfl, by rw [ht]; exact hP9, hD9⟩, hS.F ht⟩) hS.2.2 dX10_pass_188
        · refine lv_iload_n hx hb dX10_pass_45 rfl (lv_at hl 4 rfl) ?_
          refine lv_bipush (v := 24) hx hb dX10_pass_46 (by decide) ?_
          refine z_i (wr := [(x0, .inr (10, [.ref w0, .ref z0, .ref xi, .ref xt, .int x_tl, .ref xq, .int x_lc, .ref rdr, .ref h0, .ref t0, .ref q0, .ref v0, .ref m0])), (w0, .inr (9, [.ref tnodes, .ref tpasses, .ref tjars, .ref torders, .ref tfeasts, .ref tway, .int tws, .int tnow, .int tfm, .int tx])), (tpasses, .inr (6, [.int 5, .ref tpassesA, .int 20])), (tpassesA, .inl (kA 0, 100, .inl tpassesF)), (tnodes, .inr (6, [.int 4, .ref tnodesA, .int tnodesS]))]) (va_runS (As := [.int p2, .int 24]) (rest := []) ⟨hx, hb, hml, hown, hts⟩ (mX10_within l dC dI kA _ p2 24) (va_cwS 2 hts gX10_pass_X10_within rfl rfl rfl hdX10_within ⟨(Nat.le_of_ble_eq_true rfl), (Nat.le_of_ble_eq_true rfl)⟩) ⟨zPc.blind, zPre hK (hP.sub [] rfl) (hD.sub [] (by decide) rfl)⟩ rfl rfl hl.1 rfl (lv_room (Nat.le_of_ble_eq_true rfl)) dX10_pass_48 ⟨(Nat.le_of_ble_eq_true rfl), (Nat.le_of_ble_eq_true rfl)⟩) hP hD hS hA [] [0, 1, 2, 3, 4] rfl rfl (by decide) (by decide) (fun r61 u59 H locs hw60 hP hD hS => ?_)
          obtain rfl := hw60
          obtain ⟨hP, hD⟩ := z_re (L := [(x0, .inr (10, [.ref w0, .ref z0, .ref xi, .ref xt, .int x_tl, .ref xq, .int x_lc, .ref rdr, .ref h0, .ref t0, .ref q0, .ref v0, .ref m0])), (w0, .inr (9, [.ref tnodes, .ref tpasses, .ref tjars, .ref torders, .ref tfeasts, .ref tway, .int tws, .int tnow, .int tfm, .int tx])), (tpasses, .inr (6, [.int 5, .ref tpassesA, .int 20])), (tpassesA, .inl (kA 0, 100, .inl tpassesF)), (tnodes, .inr (6, [.int 4, .ref tnodesA, .int tnodesS]))]) hP hD
          refine lv_if_eq (tgt := 79) hx hb dX10_pass_51 (by decide) (fun c_62 => ?_) (fun c_62 => ?_)
          · refine lv_iconst (v := 0) hx hb dX10_pass_79 (by decide) ?_
            refine lv_istore (lv' := [(7, .int 0), (6, .int 0), (0, .ref x0), (1, .int p0), (2, .int p1), (3, .int p2), (4, .int p3), (5, .int p4)]) hx hb dX10_pass_80 hl (by decide) rfl (fun ls hl => ?_)
            refine lv_iload hx hb dX10_pass_82 (lv_at hl 1 rfl) ?_
            refine lv_if_eq (tgt := 105) hx hb dX10_pass_84 (by decide) (fun _ => ?_) (fun c_63 => absurd (by decide) c_63)
            refine lv_iconst (v := (-1)) hx hb dX10_pass_105 (by decide) ?_
            refine lv_istore (lv' := [(8, .int (-1)), (7, .int 0), (6, .int 0), (0, .ref x0), (1, .int p0), (2, .int p1), (3, .int p2), (4, .int p3), (5, .int p4)]) hx hb dX10_pass_106 hl (by decide) rfl (fun ls hl => ?_)
            refine lv_iload hx hb dX10_pass_108 (lv_at hl 0 rfl) ?_
            refine lv_iconst (v := (-1)) hx hb dX10_pass_110 (by decide) ?_
            refine lv_icmp_eq (tgt := 186) hx hb dX10_pass_111 (by decide) (fun _ => ?_) (fun c_64 => absurd (by decide) c_64)
            refine lv_iload hx hb dX10_pass_186 (lv_at hl 0 rfl) ?_
            obtain ⟨hP9, hD9⟩ := z_sb (L' := [(x0, .inr (10, [.ref w0, .ref z0, .ref xi, .ref xt, .int x_tl, .ref xq, .int x_lc, .ref rdr, .ref h0, .ref t0, .ref q0, .ref v0, .ref m0])), (w0, .inr (9, [.ref tnodes, .ref tpasses, .ref tjars, .ref torders, .ref tfeasts, .ref tway, .int tws, .int tnow, .int tfm, .int tx])), (tnodes, .inr (6, [.int 4, .ref tnodesA, .int tnodesS])), (tpasses, .inr (6, [.int 5, .ref tpassesA, .int 20])), (tpassesA, .inl (kA 0, 100, .inl tpassesF))]) hP hD [0, 1, 4, 2, 3] (by decide) rfl
            refine W.widen (k := 0) (n := 0) (Nat.le_of_ble_eq_true rfl) (Nat.le_of_ble_eq_true rfl) ?_
            exact W.iret (v := (-1)) hx hb hr (fun t ht hW => ⟨⟨(-1), (), rfl, rfl, by rw [ht]; exact hP9, hD9⟩, hS.F ht⟩) hS.2.2 dX10_pass_188
          · have c_62a := wi_ne c_62
            have c_62b := c_62a.2
            have c_62a := c_62a.1
            refine lv_iload hx hb dX10_pass_54 (lv_at hl 5 rfl) ?_
            refine lv_bipush (v := 9) hx hb dX10_pass_56 (by decide) ?_
            refine z_i (wr := [(x0, .inr (10, [.ref w0, .ref z0, .ref xi, .ref xt, .int x_tl, .ref xq, .int x_lc, .ref rdr, .ref h0, .ref t0, .ref q0, .ref v0, .ref m0])), (w0, .inr (9, [.ref tnodes, .ref tpasses, .ref tjars, .ref torders, .ref tfeasts, .ref tway, .int tws, .int tnow, .int tfm, .int tx])), (tpasses, .inr (6, [.int 5, .ref tpassesA, .int 20])), (tpassesA, .inl (kA 0, 100, .inl tpassesF)), (tnodes, .inr (6, [.int 4, .ref tnodesA, .int tnodesS]))]) (va_runS (As := [.int p3, .int 9]) (rest := []) ⟨hx, hb, hml, hown, hts⟩ (mX10_within l dC dI kA _ p3 9) (va_cwS 2 hts gX10_pass_X10_within rfl rfl rfl hdX10_within ⟨(Nat.le_of_ble_eq_true rfl), (Nat.le_of_ble_eq_true rfl)⟩) ⟨zPc.blind, zPre hK (hP.sub [] rfl) (hD.sub [] (by decide) rfl)⟩ rfl rfl hl.1 rfl (lv_room (Nat.le_of_ble_eq_true rfl)) dX10_pass_58 ⟨(Nat.le_of_ble_eq_true rfl), (Nat.le_of_ble_eq_true rfl)⟩) hP hD hS hA [] [0, 1, 2, 3, 4] rfl rfl (by decide) (by decide) (fun r67 u65 H locs hw66 hP hD hS => ?_)
            obtain rfl := hw66
            obtain ⟨hP, hD⟩ := z_re (L := [(x0, .inr (10, [.ref w0, .ref z0, .ref xi, .ref xt, .int x_tl, .ref xq, .int x_lc, .ref rdr, .ref h0, .ref t0, .ref q0, .ref v0, .ref m0])), (w0, .inr (9, [.ref tnodes, .ref tpasses, .ref tjars, .ref torders, .ref tfeasts, .ref tway, .int tws, .int tnow, .int tfm, .int tx])), (tpasses, .inr (6, [.int 5, .ref tpassesA, .int 20])), (tpassesA, .inl (kA 0, 100, .inl tpassesF)), (tnodes, .inr (6, [.int 4, .ref tnodesA, .int tnodesS]))]) hP hD
            refine lv_if_eq (tgt := 79) hx hb dX10_pass_61 (by decide) (fun c_68 => ?_) (fun c_68 => ?_)
            · refine lv_iconst (v := 0) hx hb dX10_pass_79 (by decide) ?_
              refine lv_istore (lv' := [(7, .int 0), (6, .int 0), (0, .ref x0), (1, .int p0), (2, .int p1), (3, .int p2), (4, .int p3), (5, .int p4)]) hx hb dX10_pass_80 hl (by decide) rfl (fun ls hl => ?_)
              refine lv_iload hx hb dX10_pass_82 (lv_at hl 1 rfl) ?_
              refine lv_if_eq (tgt := 105) hx hb dX10_pass_84 (by decide) (fun _ => ?_) (fun c_69 => absurd (by decide) c_69)
              refine lv_iconst (v := (-1)) hx hb dX10_pass_105 (by decide) ?_
              refine lv_istore (lv' := [(8, .int (-1)), (7, .int 0), (6, .int 0), (0, .ref x0), (1, .int p0), (2, .int p1), (3, .int p2), (4, .int p3), (5, .int p4)]) hx hb dX10_pass_106 hl (by decide) rfl (fun ls hl => ?_)
              refine lv_iload hx hb dX10_pass_108 (lv_at hl 0 rfl) ?_
              refine lv_iconst (v := (-1)) hx hb dX10_pass_110 (by decide) ?_
              refine lv_icmp_eq (tgt := 186) hx hb dX10_pass_111 (by decide) (fun _ => ?_) (fun c_70 => absurd (by decide) c_70)
              refine lv_iload hx hb dX10_pass_186 (lv_at hl 0 rfl) ?_
              obtain ⟨hP9, hD9⟩ := z_sb (L' := [(x0, .inr (10, [.ref w0, .ref z0, .ref xi, .ref xt, .int x_tl, .ref xq, .int x_lc, .ref rdr, .ref h0, .ref t0, .ref q0, .ref v0, .ref m0])), (w0, .inr (9, [.ref tnodes, .ref tpasses, .ref tjars, .ref torders, .ref tfeasts, .ref tway, .int tws, .int tnow, .int tfm, .int tx])), (tnodes, .inr (6, [.int 4, .ref tnodesA, .int tnodesS])), (tpasses, .inr (6, [.int 5, .ref tpassesA, .int 20])), (tpassesA, .inl (kA 0, 100, .inl tpassesF))]) hP hD [0, 1, 4, 2, 3] (by decide) rfl
              refine W.widen (k := 0) (n := 0) (Nat.le_of_ble_eq_true rfl) (Nat.le_of_ble_eq_true rfl) ?_
              exact W.iret (v := (-1)) hx hb hr (fun t ht hW => ⟨⟨(-1), (), rfl, rfl, by rw [ht]; exact hP9, hD9⟩, hS.F ht⟩) hS.2.2 dX10_pass_188
            · have c_68a := wi_ne c_68
              have c_68b := c_68a.2
              have c_68a := c_68a.1
              refine lv_iload hx hb dX10_pass_64 (lv_at hl 6 rfl) ?_
              refine lv_sipush (v := 1000) hx hb dX10_pass_66 (by decide) ?_
              refine z_i (wr := [(x0, .inr (10, [.ref w0, .ref z0, .ref xi, .ref xt, .int x_tl, .ref xq, .int x_lc, .ref rdr, .ref h0, .ref t0, .ref q0, .ref v0, .ref m0])), (w0, .inr (9, [.ref tnodes, .ref tpasses, .ref tjars, .ref torders, .ref tfeasts, .ref tway, .int tws, .int tnow, .int tfm, .int tx])), (tpasses, .inr (6, [.int 5, .ref tpassesA, .int 20])), (tpassesA, .inl (kA 0, 100, .inl tpassesF)), (tnodes, .inr (6, [.int 4, .ref tnodesA, .int tnodesS]))]) (va_runS (As := [.int p4, .int 1000]) (rest := []) ⟨hx, hb, hml, hown, hts⟩ (mX10_within l dC dI kA _ p4 1000) (va_cwS 2 hts gX10_pass_X10_within rfl rfl rfl hdX10_within ⟨(Nat.le_of_ble_eq_true rfl), (Nat.le_of_ble_eq_true rfl)⟩) ⟨zPc.blind, zPre hK (hP.sub [] rfl) (hD.sub [] (by decide) rfl)⟩ rfl rfl hl.1 rfl (lv_room (Nat.le_of_ble_eq_true rfl)) dX10_pass_69 ⟨(Nat.le_of_ble_eq_true rfl), (Nat.le_of_ble_eq_true rfl)⟩) hP hD hS hA [] [0, 1, 2, 3, 4] rfl rfl (by decide) (by decide) (fun r73 u71 H locs hw72 hP hD hS => ?_)
              obtain rfl := hw72
              obtain ⟨hP, hD⟩ := z_re (L := [(x0, .inr (10, [.ref w0, .ref z0, .ref xi, .ref xt, .int x_tl, .ref xq, .int x_lc, .ref rdr, .ref h0, .ref t0, .ref q0, .ref v0, .ref m0])), (w0, .inr (9, [.ref tnodes, .ref tpasses, .ref tjars, .ref torders, .ref tfeasts, .ref tway, .int tws, .int tnow, .int tfm, .int tx])), (tpasses, .inr (6, [.int 5, .ref tpassesA, .int 20])), (tpassesA, .inl (kA 0, 100, .inl tpassesF)), (tnodes, .inr (6, [.int 4, .ref tnodesA, .int tnodesS]))]) hP hD
              refine lv_if_eq (tgt := 79) hx hb dX10_pass_72 (by decide) (fun c_74 => ?_) (fun c_74 => ?_)
              · refine lv_iconst (v := 0) hx hb dX10_pass_79 (by decide) ?_
                refine lv_istore (lv' := [(7, .int 0), (6, .int 0), (0, .ref x0), (1, .int p0), (2, .int p1), (3, .int p2), (4, .int p3), (5, .int p4)]) hx hb dX10_pass_80 hl (by decide) rfl (fun ls hl => ?_)
                refine lv_iload hx hb dX10_pass_82 (lv_at hl 1 rfl) ?_
                refine lv_if_eq (tgt := 105) hx hb dX10_pass_84 (by decide) (fun _ => ?_) (fun c_75 => absurd (by decide) c_75)
                refine lv_iconst (v := (-1)) hx hb dX10_pass_105 (by decide) ?_
                refine lv_istore (lv' := [(8, .int (-1)), (7, .int 0), (6, .int 0), (0, .ref x0), (1, .int p0), (2, .int p1), (3, .int p2), (4, .int p3), (5, .int p4)]) hx hb dX10_pass_106 hl (by decide) rfl (fun ls hl => ?_)
                refine lv_iload hx hb dX10_pass_108 (lv_at hl 0 rfl) ?_
                refine lv_iconst (v := (-1)) hx hb dX10_pass_110 (by decide) ?_
                refine lv_icmp_eq (tgt := 186) hx hb dX10_pass_111 (by decide) (fun _ => ?_) (fun c_76 => absurd (by decide) c_76)
                refine lv_iload hx hb dX10_pass_186 (lv_at hl 0 rfl) ?_
                obtain ⟨hP9, hD9⟩ := z_sb (L' := [(x0, .inr (10, [.ref w0, .ref z0, .ref xi, .ref xt, .int x_tl, .ref xq, .int x_lc, .ref rdr, .ref h0, .ref t0, .ref q0, .ref v0, .ref m0])), (w0, .inr (9, [.ref tnodes, .ref tpasses, .ref tjars, .ref torders, .ref tfeasts, .ref tway, .int tws, .int tnow, .int tfm, .int tx])), (tnodes, .inr (6, [.int 4, .ref tnodesA, .int tnodesS])), (tpasses, .inr (6, [.int 5, .ref tpassesA, .int 20])), (tpassesA, .inl (kA 0, 100, .inl tpassesF))]) hP hD [0, 1, 4, 2, 3] (by decide) rfl
                refine W.widen (k := 0) (n := 0) (Nat.le_of_ble_eq_true rfl) (Nat.le_of_ble_eq_true rfl) ?_
                exact W.iret (v := (-1)) hx hb hr (fun t ht hW => ⟨⟨(-1), (), rfl, rfl, by rw [ht]; exact hP9, hD9⟩, hS.F ht⟩) hS.2.2 dX10_pass_188
              · have c_74a := wi_ne c_74
                have c_74b := c_74a.2
                have c_74a := c_74a.1
                refine lv_iconst (v := 1) hx hb dX10_pass_75 (by decide) ?_
                refine lv_goto (tgt := 80) hx hb dX10_pass_76 (by decide) ?_
                refine lv_istore (lv' := [(7, .int 1), (6, .int 0), (0, .ref x0), (1, .int p0), (2, .int p1), (3, .int p2), (4, .int p3), (5, .int p4)]) hx hb dX10_pass_80 hl (by decide) rfl (fun ls hl => ?_)
                refine lv_iload hx hb dX10_pass_82 (lv_at hl 1 rfl) ?_
                refine lv_if_eq (tgt := 105) hx hb dX10_pass_84 (by decide) (fun _ => ?_) (fun c_77 => absurd (by decide) c_77)
                refine lv_iconst (v := (-1)) hx hb dX10_pass_105 (by decide) ?_
                refine lv_istore (lv' := [(8, .int (-1)), (7, .int 1), (6, .int 0), (0, .ref x0), (1, .int p0), (2, .int p1), (3, .int p2), (4, .int p3), (5, .int p4)]) hx hb dX10_pass_106 hl (by decide) rfl (fun ls hl => ?_)
                refine lv_iload hx hb dX10_pass_108 (lv_at hl 0 rfl) ?_
                refine lv_iconst (v := (-1)) hx hb dX10_pass_110 (by decide) ?_
                refine lv_icmp_eq (tgt := 186) hx hb dX10_pass_111 (by decide) (fun _ => ?_) (fun c_78 => absurd (by decide) c_78)
                refine lv_iload hx hb dX10_pass_186 (lv_at hl 0 rfl) ?_
                obtain ⟨hP9, hD9⟩ := z_sb (L' := [(x0, .inr (10, [.ref w0, .ref z0, .ref xi, .ref xt, .int x_tl, .ref xq, .int x_lc, .ref rdr, .ref h0, .ref t0, .ref q0, .ref v0, .ref m0])), (w0, .inr (9, [.ref tnodes, .ref tpasses, .ref tjars, .ref torders, .ref tfeasts, .ref tway, .int tws, .int tnow, .int tfm, .int tx])), (tnodes, .inr (6, [.int 4, .ref tnodesA, .int tnodesS])), (tpasses, .inr (6, [.int 5, .ref tpassesA, .int 20])), (tpassesA, .inl (kA 0, 100, .inl tpassesF))]) hP hD [0, 1, 4, 2, 3] (by decide) rfl
                refine W.widen (k := 0) (n := 0) (Nat.le_of_ble_eq_true rfl) (Nat.le_of_ble_eq_true rfl) ?_
                exact W.iret (v := (-1)) hx hb hr (fun t ht hW => ⟨⟨(-1), (), rfl, rfl, by rw [ht]; exact hP9, hD9⟩, hS.F ht⟩) hS.2.2 dX10_pass_188
      · refine lv_iconst (v := 1) hx hb dX10_pass_33 (by decide) ?_
        refine lv_goto (tgt := 38) hx hb dX10_pass_34 (by decide) ?_
        refine lv_istore (lv' := [(6, .int 1), (0, .ref x0), (1, .int p0), (2, .int p1), (3, .int p2), (4, .int p3), (5, .int p4)]) hx hb dX10_pass_38 hl (by decide) rfl (fun ls hl => ?_)
        refine lv_iload_n hx hb dX10_pass_40 rfl (lv_at hl 4 rfl) ?_
        refine lv_iconst (v := 1) hx hb dX10_pass_41 (by decide) ?_
        refine lv_icmp_lt (tgt := 79) hx hb dX10_pass_42 (by decide) (fun c_79 => ?_) (fun c_79 => ?_)
        · refine lv_iconst (v := 0) hx hb dX10_pass_79 (by decide) ?_
          refine lv_istore (lv' := [(7, .int 0), (6, .int 1), (0, .ref x0), (1, .int p0), (2, .int p1), (3, .int p2), (4, .int p3), (5, .int p4)]) hx hb dX10_pass_80 hl (by decide) rfl (fun ls hl => ?_)
          refine lv_iload hx hb dX10_pass_82 (lv_at hl 1 rfl) ?_
          refine lv_if_eq (tgt := 105) hx hb dX10_pass_84 (by decide) (fun c_80 => absurd c_80 (by decide)) (fun _ => ?_)
          refine lv_iload hx hb dX10_pass_87 (lv_at hl 0 rfl) ?_
          refine lv_if_eq (tgt := 105) hx hb dX10_pass_89 (by decide) (fun _ => ?_) (fun c_81 => absurd (by decide) c_81)
          refine lv_iconst (v := (-1)) hx hb dX10_pass_105 (by decide) ?_
          refine lv_istore (lv' := [(8, .int (-1)), (7, .int 0), (6, .int 1), (0, .ref x0), (1, .int p0), (2, .int p1), (3, .int p2), (4, .int p3), (5, .int p4)]) hx hb dX10_pass_106 hl (by decide) rfl (fun ls hl => ?_)
          refine lv_iload hx hb dX10_pass_108 (lv_at hl 0 rfl) ?_
          refine lv_iconst (v := (-1)) hx hb dX10_pass_110 (by decide) ?_
          refine lv_icmp_eq (tgt := 186) hx hb dX10_pass_111 (by decide) (fun _ => ?_) (fun c_82 => absurd (by decide) c_82)
          refine lv_iload hx hb dX10_pass_186 (lv_at hl 0 rfl) ?_
          obtain ⟨hP9, hD9⟩ := z_sb (L' := [(x0, .inr (10, [.ref w0, .ref z0, .ref xi, .ref xt, .int x_tl, .ref xq, .int x_lc, .ref rdr, .ref h0, .ref t0, .ref q0, .ref v0, .ref m0])), (w0, .inr (9, [.ref tnodes, .ref tpasses, .ref tjars, .ref torders, .ref tfeasts, .ref tway, .int tws, .int tnow, .int tfm, .int tx])), (tnodes, .inr (6, [.int 4, .ref tnodesA, .int tnodesS])), (tpasses, .inr (6, [.int 5, .ref tpassesA, .int 20])), (tpassesA, .inl (kA 0, 100, .inl tpassesF))]) hP hD [0, 1, 4, 2, 3] (by decide) rfl
          refine W.widen (k := 0) (n := 0) (Nat.le_of_ble_eq_true rfl) (Nat.le_of_ble_eq_true rfl) ?_
          exact W.iret (v := (-1)) hx hb hr (fun t ht hW => ⟨⟨(-1), (), rfl, rfl, by rw [ht]; exact hP9, hD9⟩, hS.F ht⟩) hS.2.2 dX10_pass_188
        · refine lv_iload_n hx hb dX10_pass_45 rfl (lv_at hl 4 rfl) ?_
          refine lv_bipush (v := 24) hx hb dX10_pass_46 (by decide) ?_
          refine z_i (wr := [(x0, .inr (10, [.ref w0, .ref z0, .ref xi, .ref xt, .int x_tl, .ref xq, .int x_lc, .ref rdr, .ref h0, .ref t0, .ref q0, .ref v0, .ref m0])), (w0, .inr (9, [.ref tnodes, .ref tpasses, .ref tjars, .ref torders, .ref tfeasts, .ref tway, .int tws, .int tnow, .int tfm, .int tx])), (tpasses, .inr (6, [.int 5, .ref tpassesA, .int 20])), (tpassesA, .inl (kA 0, 100, .inl tpassesF)), (tnodes, .inr (6, [.int 4, .ref tnodesA, .int tnodesS]))]) (va_runS (As := [.int p2, .int 24]) (rest := []) ⟨hx, hb, hml, hown, hts⟩ (mX10_within l dC dI kA _ p2 24) (va_cwS 2 hts gX10_pass_X10_within rfl rfl rfl hdX10_within ⟨(Nat.le_of_ble_eq_true rfl), (Nat.le_of_ble_eq_true rfl)⟩) ⟨zPc.blind, zPre hK (hP.sub [] rfl) (hD.sub [] (by decide) rfl)⟩ rfl rfl hl.1 rfl (lv_room (Nat.le_of_ble_eq_true rfl)) dX10_pass_48 ⟨(Nat.le_of_ble_eq_true rfl), (Nat.le_of_ble_eq_true rfl)⟩) hP hD hS hA [] [0, 1, 2, 3, 4] rfl rfl (by decide) (by decide) (fun r85 u83 H locs hw84 hP hD hS => ?_)
          obtain rfl := hw84
          obtain ⟨hP, hD⟩ := z_re (L := [(x0, .inr (10, [.ref w0, .ref z0, .ref xi, .ref xt, .int x_tl, .ref xq, .int x_lc, .ref rdr, .ref h0, .ref t0, .ref q0, .ref v0, .ref m0])), (w0, .inr (9, [.ref tnodes, .ref tpasses, .ref tjars, .ref torders, .ref tfeasts, .ref tway, .int tws, .int tnow, .int tfm, .int tx])), (tpasses, .inr (6, [.int 5, .ref tpassesA, .int 20])), (tpassesA, .inl (kA 0, 100, .inl tpassesF)), (tnodes, .inr (6, [.int 4, .ref tnodesA, .int tnodesS]))]) hP hD
          refine lv_if_eq (tgt := 79) hx hb dX10_pass_51 (by decide) (fun c_86 => ?_) (fun c_86 => ?_)
          · refine lv_iconst (v := 0) hx hb dX10_pass_79 (by decide) ?_
            refine lv_istore (lv' := [(7, .int 0), (6, .int 1), (0, .ref x0), (1, .int p0), (2, .int p1), (3, .int p2), (4, .int p3), (5, .int p4)]) hx hb dX10_pass_80 hl (by decide) rfl (fun ls hl => ?_)
            refine lv_iload hx hb dX10_pass_82 (lv_at hl 1 rfl) ?_
            refine lv_if_eq (tgt := 105) hx hb dX10_pass_84 (by decide) (fun c_87 => absurd c_87 (by decide)) (fun _ => ?_)
            refine lv_iload hx hb dX10_pass_87 (lv_at hl 0 rfl) ?_
            refine lv_if_eq (tgt := 105) hx hb dX10_pass_89 (by decide) (fun _ => ?_) (fun c_88 => absurd (by decide) c_88)
            refine lv_iconst (v := (-1)) hx hb dX10_pass_105 (by decide) ?_
            refine lv_istore (lv' := [(8, .int (-1)), (7, .int 0), (6, .int 1), (0, .ref x0), (1, .int p0), (2, .int p1), (3, .int p2), (4, .int p3), (5, .int p4)]) hx hb dX10_pass_106 hl (by decide) rfl (fun ls hl => ?_)
            refine lv_iload hx hb dX10_pass_108 (lv_at hl 0 rfl) ?_
            refine lv_iconst (v := (-1)) hx hb dX10_pass_110 (by decide) ?_
            refine lv_icmp_eq (tgt := 186) hx hb dX10_pass_111 (by decide) (fun _ => ?_) (fun c_89 => absurd (by decide) c_89)
            refine lv_iload hx hb dX10_pass_186 (lv_at hl 0 rfl) ?_
            obtain ⟨hP9, hD9⟩ := z_sb (L' := [(x0, .inr (10, [.ref w0, .ref z0, .ref xi, .ref xt, .int x_tl, .ref xq, .int x_lc, .ref rdr, .ref h0, .ref t0, .ref q0, .ref v0, .ref m0])), (w0, .inr (9, [.ref tnodes, .ref tpasses, .ref tjars, .ref torders, .ref tfeasts, .ref tway, .int tws, .int tnow, .int tfm, .int tx])), (tnodes, .inr (6, [.int 4, .ref tnodesA, .int tnodesS])), (tpasses, .inr (6, [.int 5, .ref tpassesA, .int 20])), (tpassesA, .inl (kA 0, 100, .inl tpassesF))]) hP hD [0, 1, 4, 2, 3] (by decide) rfl
            refine W.widen (k := 0) (n := 0) (Nat.le_of_ble_eq_true rfl) (Nat.le_of_ble_eq_true rfl) ?_
            exact W.iret (v := (-1)) hx hb hr (fun t ht hW => ⟨⟨(-1), (), rfl, rfl, by rw [ht]; exact hP9, hD9⟩, hS.F ht⟩) hS.2.2 dX10_pass_188
          · have c_86a := wi_ne c_86
            have c_86b := c_86a.2
            have c_86a := c_86a.1
            refine lv_iload hx hb dX10_pass_54 (lv_at hl 5 rfl) ?_
            refine lv_bipush (v := 9) hx hb dX10_pass_56 (by decide) ?_
            refine z_i (wr := [(x0, .inr (10, [.ref w0, .ref z0, .ref xi, .ref xt, .int x_tl, .ref xq, .int x_lc, .ref rdr, .ref h0, .ref t0, .ref q0, .ref v0, .ref m0])), (w0, .inr (9, [.ref tnodes, .ref tpasses, .ref tjars, .ref torders, .ref tfeasts, .ref tway, .int tws, .int tnow, .int tfm, .int tx])), (tpasses, .inr (6, [.int 5, .ref tpassesA, .int 20])), (tpassesA, .inl (kA 0, 100, .inl tpassesF)), (tnodes, .inr (6, [.int 4, .ref tnodesA, .int tnodesS]))]) (va_runS (As := [.int p3, .int 9]) (rest := []) ⟨hx, hb, hml, hown, hts⟩ (mX10_within l dC dI kA _ p3 9) (va_cwS 2 hts gX10_pass_X10_within rfl rfl rfl hdX10_within ⟨(Nat.le_of_ble_eq_true rfl), (Nat.le_of_ble_eq_true rfl)⟩) ⟨zPc.blind, zPre hK (hP.sub [] rfl) (hD.sub [] (by decide) rfl)⟩ rfl rfl hl.1 rfl (lv_room (Nat.le_of_ble_eq_true rfl)) dX10_pass_58 ⟨(Nat.le_of_ble_eq_true rfl), (Nat.le_of_ble_eq_true rfl)⟩) hP hD hS hA [] [0, 1, 2, 3, 4] rfl rfl (by decide) (by decide) (fun r92 u90 H locs hw91 hP hD hS => ?_)
            obtain rfl := hw91
            obtain ⟨hP, hD⟩ := z_re (L := [(x0, .inr (10, [.ref w0, .ref z0, .ref xi, .ref xt, .int x_tl, .ref xq, .int x_lc, .ref rdr, .ref h0, .ref t0, .ref q0, .ref v0, .ref m0])), (w0, .inr (9, [.ref tnodes, .ref tpasses, .ref tjars, .ref torders, .ref tfeasts, .ref tway, .int tws, .int tnow, .int tfm, .int tx])), (tpasses, .inr (6, [.int 5, .ref tpassesA, .int 20])), (tpassesA, .inl (kA 0, 100, .inl tpassesF)), (tnodes, .inr (6, [.int 4, .ref tnodesA, .int tnodesS]))]) hP hD
            refine lv_if_eq (tgt := 79) hx hb dX10_pass_61 (by decide) (fun c_93 => ?_) (fun c_93 => ?_)
            · refine lv_iconst (v := 0) hx hb dX10_pass_79 (by decide) ?_
              refine lv_istore (lv' := [(7, .int 0), (6, .int 1), (0, .ref x0), (1, .int p0), (2, .int p1), (3, .int p2), (4, .int p3), (5, .int p4)]) hx hb dX10_pass_80 hl (by decide) rfl (fun ls hl => ?_)
              refine lv_iload hx hb dX10_pass_82 (lv_at hl 1 rfl) ?_
              refine lv_if_eq (tgt := 105) hx hb dX10_pass_84 (by decide) (fun c_94 => absurd c_94 (by decide)) (fun _ => ?_)
              refine lv_iload hx hb dX10_pass_87 (lv_at hl 0 rfl) ?_
              refine lv_if_eq (tgt := 105) hx hb dX10_pass_89 (by decide) (fun _ => ?_) (fun c_95 => absurd (by decide) c_95)
              refine lv_iconst (v := (-1)) hx hb dX10_pass_105 (by decide) ?_
              refine lv_istore (lv' := [(8, .int (-1)), (7, .int 0), (6, .int 1), (0, .ref x0), (1, .int p0), (2, .int p1), (3, .int p2), (4, .int p3), (5, .int p4)]) hx hb dX10_pass_106 hl (by decide) rfl (fun ls hl => ?_)
              refine lv_iload hx hb dX10_pass_108 (lv_at hl 0 rfl) ?_
              refine lv_iconst (v := (-1)) hx hb dX10_pass_110 (by decide) ?_
              refine lv_icmp_eq (tgt := 186) hx hb dX10_pass_111 (by decide) (fun _ => ?_) (fun c_96 => absurd (by decide) c_96)
              refine lv_iload hx hb dX10_pass_186 (lv_at hl 0 rfl) ?_
              obtain ⟨hP9, hD9⟩ := z_sb (L' := [(x0, .inr (10, [.ref w0, .ref z0, .ref xi, .ref xt, .int x_tl, .ref xq, .int x_lc, .ref rdr, .ref h0, .ref t0, .ref q0, .ref v0, .ref m0])), (w0, .inr (9, [.ref tnodes, .ref tpasses, .ref tjars, .ref torders, .ref tfeasts, .ref tway, .int tws, .int tnow, .int tfm, .int tx])), (tnodes, .inr (6, [.int 4, .ref tnodesA, .int tnodesS])), (tpasses, .inr (6, [.int 5, .ref tpassesA, .int 20])), (tpassesA, .inl (kA 0, 100, .inl tpassesF))]) hP hD [0, 1, 4, 2, 3] (by decide) rfl
              refine W.widen (k := 0) (n := 0) (Nat.le_of_ble_eq_true rfl) (Nat.le_of_ble_eq_true rfl) ?_
              exact W.iret (v := (-1)) hx hb hr (fun t ht hW => ⟨⟨(-1), (), rfl, rfl, by rw [ht]; exact hP9, hD9⟩, hS.F ht⟩) hS.2.2 dX10_pass_188
            · have c_93a := wi_ne c_93
              have c_93b := c_93a.2
              have c_93a := c_93a.1
              refine lv_iload hx hb dX10_pass_64 (lv_at hl 6 rfl) ?_
              refine lv_sipush (v := 1000) hx hb dX10_pass_66 (by decide) ?_
              refine z_i (wr := [(x0, .inr (10, [.ref w0, .ref z0, .ref xi, .ref xt, .int x_tl, .ref xq, .int x_lc, .ref rdr, .ref h0, .ref t0, .ref q0, .ref v0, .ref m0])), (w0, .inr (9, [.ref tnodes, .ref tpasses, .ref tjars, .ref torders, .ref tfeasts, .ref tway, .int tws, .int tnow, .int tfm, .int tx])), (tpasses, .inr (6, [.int 5, .ref tpassesA, .int 20])), (tpassesA, .inl (kA 0, 100, .inl tpassesF)), (tnodes, .inr (6, [.int 4, .ref tnodesA, .int tnodesS]))]) (va_runS (As := [.int p4, .int 1000]) (rest := []) ⟨hx, hb, hml, hown, hts⟩ (mX10_within l dC dI kA _ p4 1000) (va_cwS 2 hts gX10_pass_X10_within rfl rfl rfl hdX10_within ⟨(Nat.le_of_ble_eq_true rfl), (Nat.le_of_ble_eq_true rfl)⟩) ⟨zPc.blind, zPre hK (hP.sub [] rfl) (hD.sub [] (by decide) rfl)⟩ rfl rfl hl.1 rfl (lv_room (Nat.le_of_ble_eq_true rfl)) dX10_pass_69 ⟨(Nat.le_of_ble_eq_true rfl), (Nat.le_of_ble_eq_true rfl)⟩) hP hD hS hA [] [0, 1, 2, 3, 4] rfl rfl (by decide) (by decide) (fun r99 u97 H locs hw98 hP hD hS => ?_)
              obtain rfl := hw98
              obtain ⟨hP, hD⟩ := z_re (L := [(x0, .inr (10, [.ref w0, .ref z0, .ref xi, .ref xt, .int x_tl, .ref xq, .int x_lc, .ref rdr, .ref h0, .ref t0, .ref q0, .ref v0, .ref m0])), (w0, .inr (9, [.ref tnodes, .ref tpasses, .ref tjars, .ref torders, .ref tfeasts, .ref tway, .int tws, .int tnow, .int tfm, .int tx])), (tpasses, .inr (6, [.int 5, .ref tpassesA, .int 20])), (tpassesA, .inl (kA 0, 100, .inl tpassesF)), (tnodes, .inr (6, [.int 4, .ref tnodesA, .int tnodesS]))]) hP hD
              refine lv_if_eq (tgt := 79) hx hb dX10_pass_72 (by decide) (fun c_100 => ?_) (fun c_100 => ?_)
              · refine lv_iconst (v := 0) hx hb dX10_pass_79 (by decide) ?_
                refine lv_istore (lv' := [(7, .int 0), (6, .int 1), (0, .ref x0), (1, .int p0), (2, .int p1), (3, .int p2), (4, .int p3), (5, .int p4)]) hx hb dX10_pass_80 hl (by decide) rfl (fun ls hl => ?_)
                refine lv_iload hx hb dX10_pass_82 (lv_at hl 1 rfl) ?_
                refine lv_if_eq (tgt := 105) hx hb dX10_pass_84 (by decide) (fun c_101 => absurd c_101 (by decide)) (fun _ => ?_)
                refine lv_iload hx hb dX10_pass_87 (lv_at hl 0 rfl) ?_
                refine lv_if_eq (tgt := 105) hx hb dX10_pass_89 (by decide) (fun _ => ?_) (fun c_102 => absurd (by decide) c_102)
                refine lv_iconst (v := (-1)) hx hb dX10_pass_105 (by decide) ?_
                refine lv_istore (lv' := [(8, .int (-1)), (7, .int 0), (6, .int 1), (0, .ref x0), (1, .int p0), (2, .int p1), (3, .int p2), (4, .int p3), (5, .int p4)]) hx hb dX10_pass_106 hl (by decide) rfl (fun ls hl => ?_)
                refine lv_iload hx hb dX10_pass_108 (lv_at hl 0 rfl) ?_
                refine lv_iconst (v := (-1)) hx hb dX10_pass_110 (by decide) ?_
                refine lv_icmp_eq (tgt := 186) hx hb dX10_pass_111 (by decide) (fun _ => ?_) (fun c_103 => absurd (by decide) c_103)
                refine lv_iload hx hb dX10_pass_186 (lv_at hl 0 rfl) ?_
                obtain ⟨hP9, hD9⟩ := z_sb (L' := [(x0, .inr (10, [.ref w0, .ref z0, .ref xi, .ref xt, .int x_tl, .ref xq, .int x_lc, .ref rdr, .ref h0, .ref t0, .ref q0, .ref v0, .ref m0])), (w0, .inr (9, [.ref tnodes, .ref tpasses, .ref tjars, .ref torders, .ref tfeasts, .ref tway, .int tws, .int tnow, .int tfm, .int tx])), (tnodes, .inr (6, [.int 4, .ref tnodesA, .int tnodesS])), (tpasses, .inr (6, [.int 5, .ref tpassesA, .int 20])), (tpassesA, .inl (kA 0, 100, .inl tpassesF))]) hP hD [0, 1, 4, 2, 3] (by decide) rfl
                refine W.widen (k := 0) (n := 0) (Nat.le_of_ble_eq_true rfl) (Nat.le_of_ble_eq_true rfl) ?_
                exact W.iret (v := (-1)) hx hb hr (fun t ht hW => ⟨⟨(-1), (), rfl, rfl, by rw [ht]; exact hP9, hD9⟩, hS.F ht⟩) hS.2.2 dX10_pass_188
              · have c_100a := wi_ne c_100
                have c_100b := c_100a.2
                have c_100a := c_100a.1
                refine lv_iconst (v := 1) hx hb dX10_pass_75 (by decide) ?_
                refine lv_goto (tgt := 80) hx hb dX10_pass_76 (by decide) ?_
                refine lv_istore (lv' := [(7, .int 1), (6, .int 1), (0, .ref x0), (1, .int p0), (2, .int p1), (3, .int p2), (4, .int p3), (5, .int p4)]) hx hb dX10_pass_80 hl (by decide) rfl (fun ls hl => ?_)
                refine lv_iload hx hb dX10_pass_82 (lv_at hl 1 rfl) ?_
                refine lv_if_eq (tgt := 105) hx hb dX10_pass_84 (by decide) (fun c_104 => absurd c_104 (by decide)) (fun _ => ?_)
                refine lv_iload hx hb dX10_pass_87 (lv_at hl 0 rfl) ?_
                refine lv_if_eq (tgt := 105) hx hb dX10_pass_89 (by decide) (fun c_105 => absurd c_105 (by decide)) (fun _ => ?_)
                refine lv_aload_n hx hb dX10_pass_92 rfl (lv_at hl 2 rfl) ?_
                refine va_get (D := (dC, dI)) (ci := 10) (v := .ref w0) (C := RX10) (T := TX10) (N := 13) hx hb hts iX10_pass_X10 hown hK.1 hP 0 gz0 vcz10 0 (by decide) (kX10_pass_1 hts) (fun _ h9 => h9) gz0 dX10_pass_93 ?_
                refine va_get (D := (dC, dI)) (ci := 9) (v := .ref tpasses) (C := RX9) (T := TX9) (N := 10) hx hb hts iX10_pass_X9 hown hK.1 hP 1 gz1 vcz9 1 (by decide) (kX10_pass_3 hts) (fun _ h9 => h9) gz1 dX10_pass_96 ?_
                refine z_i (wr := [(x0, .inr (10, [.ref w0, .ref z0, .ref xi, .ref xt, .int x_tl, .ref xq, .int x_lc, .ref rdr, .ref h0, .ref t0, .ref q0, .ref v0, .ref m0])), (w0, .inr (9, [.ref tnodes, .ref tpasses, .ref tjars, .ref torders, .ref tfeasts, .ref tway, .int tws, .int tnow, .int tfm, .int tx])), (tnodes, .inr (6, [.int 4, .ref tnodesA, .int tnodesS]))]) (va_runV (As := []) (rest := []) ⟨hx, hb, hml, hown, hts⟩ (mX6_grow_passes_full l dC dI kA _ tpasses tpassesA tpassesF) (cwV 0 hts gX10_pass_X6_grow rfl rfl rfl ⟨rfl, hdX6_grow⟩ ⟨(Nat.le_of_ble_eq_true rfl), (Nat.le_of_ble_eq_true rfl)⟩) ⟨zPc.blind, va_recv (q := (RX6, TX6, 3)) hK.1 hP (ci := 6) (q0 := 2) rfl rfl, zPre hK (hP.sub [2, 3] rfl) (hD.sub [2, 3] (by decide) rfl)⟩ rfl rfl hl.1 rfl (lv_room (Nat.le_of_ble_eq_true rfl)) dX10_pass_99 ⟨(Nat.le_of_ble_eq_true rfl), (Nat.le_of_ble_eq_true rfl)⟩) hP hD hS hA [2, 3] [0, 1, 4] rfl rfl (by decide) (by decide) (fun r108 u106 H locs hw107 hP hD hS => ?_)
                obtain rfl := hw107
                obtain ⟨hP, hD⟩ := z_re (L := [(x0, .inr (10, [.ref w0, .ref z0, .ref xi, .ref xt, .int x_tl, .ref xq, .int x_lc, .ref rdr, .ref h0, .ref t0, .ref q0, .ref v0, .ref m0])), (w0, .inr (9, [.ref tnodes, .ref tpasses, .ref tjars, .ref torders, .ref tfeasts, .ref tway, .int tws, .int tnow, .int tfm, .int tx])), (tnodes, .inr (6, [.int 4, .ref tnodesA, .int tnodesS])), (tpasses, .inr (6, [.int 5, .ref tpassesA, .int 20])), (tpassesA, .inl (kA 0, 100, .inl tpassesF))]) hP hD
                refine lv_goto (tgt := 106) hx hb dX10_pass_102 (by decide) ?_
                refine lv_istore (lv' := [(8, .int (-1)), (7, .int 1), (6, .int 1), (0, .ref x0), (1, .int p0), (2, .int p1), (3, .int p2), (4, .int p3), (5, .int p4)]) hx hb dX10_pass_106 hl (by decide) rfl (fun ls hl => ?_)
                refine lv_iload hx hb dX10_pass_108 (lv_at hl 0 rfl) ?_
                refine lv_iconst (v := (-1)) hx hb dX10_pass_110 (by decide) ?_
                refine lv_icmp_eq (tgt := 186) hx hb dX10_pass_111 (by decide) (fun _ => ?_) (fun c_109 => absurd (by decide) c_109)
                refine lv_iload hx hb dX10_pass_186 (lv_at hl 0 rfl) ?_
                obtain ⟨hP9, hD9⟩ := z_sb (L' := [(x0, .inr (10, [.ref w0, .ref z0, .ref xi, .ref xt, .int x_tl, .ref xq, .int x_lc, .ref rdr, .ref h0, .ref t0, .ref q0, .ref v0, .ref m0])), (w0, .inr (9, [.ref tnodes, .ref tpasses, .ref tjars, .ref torders, .ref tfeasts, .ref tway, .int tws, .int tnow, .int tfm, .int tx])), (tnodes, .inr (6, [.int 4, .ref tnodesA, .int tnodesS])), (tpasses, .inr (6, [.int 5, .ref tpassesA, .int 20])), (tpassesA, .inl (kA 0, 100, .inl tpassesF))]) hP hD [0, 1, 2, 3, 4] (by decide) rfl
                refine W.widen (k := 0) (n := 0) (Nat.le_of_ble_eq_true rfl) (Nat.le_of_ble_eq_true rfl) ?_
                exact W.iret (v := (-1)) hx hb hr (fun t ht hW => ⟨⟨(-1), (), rfl, rfl, by rw [ht]; exact hP9, hD9⟩, hS.F ht⟩) hS.2.2 dX10_pass_188
set_option maxRecDepth 100000 in
def fX10_jar_ok (tnodesS : Int32) (tjarsS : Int32) (tjarsF : Nat → Int32) (p0 : Int32) (p1 : Int32) (p2 : Int32) (p3 : Int32) (p4 : Int32) : Int32 × (Nat → Int32) := if (cv p1 p2) = 0 then ((tjarsS, tjarsF)) else (if (wi p3 7) = 0 then ((tjarsS, tjarsF)) else (if (wi p4 15) = 0 then ((tjarsS, tjarsF)) else (if (hs p0 tnodesS) = 0 then ((tjarsS, tjarsF)) else (bnd (fX6_grow_jars_ok tjarsS) (fun (o28 : Int32) => if tjarsS = (-1) then ((o28, tjarsF)) else (bnd (fX6_put_144 9 tjarsF tjarsS 0 0) (fun (o37 : Nat → Int32) => bnd (fX9_standAt o37 tjarsS p0) (fun (o43 : Nat → Int32) => bnd (fX6_put_144 9 o43 tjarsS 5 p1) (fun (o49 : Nat → Int32) => bnd (fX6_put_144 9 o49 tjarsS 6 p2) (fun (o55 : Nat → Int32) => bnd (fX6_put_144 9 o55 tjarsS 7 p3) (fun (o61 : Nat → Int32) => bnd (fX6_put_144 9 o61 tjarsS 8 p4) (fun (o67 : Nat → Int32) => (o28, o67)))))))))))))
set_option maxHeartbeats 4000000 in
set_option maxRecDepth 100000 in
theorem mX10_jar_ok (l : Launch) (dC : Nat → ClassId) (dI : Nat → Nat → Nat) (kA : Nat → ClassId) (sz : Nat) (x0 : Nat) (z0 : Nat) (xi : Nat) (xt : Nat) (xq : Nat) (rdr : Nat) (h0 : Nat) (t0 : Nat) (q0 : Nat) (v0 : Nat) (m0 : Nat) (w0 : Nat) (x_tl : Int32) (x_lc : Int32) (tnodes : Nat) (tnodesA : Nat) (tnodesS : Int32) (tpasses : Nat) (tjars : Nat) (tjarsA : Nat) (tjarsS : Int32) (tjarsF : Nat → Int32) (torders : Nat) (tfeasts : Nat) (tway : Nat) (tws : Int32) (tnow : Int32) (tfm : Int32) (tx : Int32) (p0 : Int32) (p1 : Int32) (p2 : Int32) (p3 : Int32) (p4 : Int32) (hz0 : ¬ tjarsS < 0) (hz1 : ¬ 16 ≤ tjarsS) : Met l yX10_jar wsX10_jar ({ frames := 2, cells := 0, slots := 0, locals := 46 }) (zPc dC dI kA sz [.ref x0, .int p0, .int p1, .int p2, .int p3, .int p4] [(x0, .inr (10, [.ref w0, .ref z0, .ref xi, .ref xt, .int x_tl, .ref xq, .int x_lc, .ref rdr, .ref h0, .ref t0, .ref q0, .ref v0, .ref m0])), (w0, .inr (9, [.ref tnodes, .ref tpasses, .ref tjars, .ref torders, .ref tfeasts, .ref tway, .int tws, .int tnow, .int tfm, .int tx])), (tnodes, .inr (6, [.int 4, .ref tnodesA, .int tnodesS])), (tjars, .inr (6, [.int 9, .ref tjarsA, .int tjarsS])), (tjarsA, .inl (kA 0, 144, .inl tjarsF))]) (va_Qi (fun (r : Int32) (u : Int32 × (Nat → Int32)) => r = (sp_jr p0 p1 p2 p3 p4 tnodesS tjarsS) ∧ (u.1, u.2) = fX10_jar_ok tnodesS tjarsS tjarsF p0 p1 p2 p3 p4 ∧ u.1 = (sp_jrz p0 p1 p2 p3 p4 tnodesS tjarsS)) (zB dC dI (va_A [(x0, .inr (10, [.ref w0, .ref z0, .ref xi, .ref xt, .int x_tl, .ref xq, .int x_lc, .ref rdr, .ref h0, .ref t0, .ref q0, .ref v0, .ref m0])), (w0, .inr (9, [.ref tnodes, .ref tpasses, .ref tjars, .ref torders, .ref tfeasts, .ref tway, .int tws, .int tnow, .int tfm, .int tx])), (tnodes, .inr (6, [.int 4, .ref tnodesA, .int tnodesS])), (tjars, .inr (6, [.int 9, .ref tjarsA, .int tjarsS])), (tjarsA, .inl (kA 0, 144, .inl tjarsF))] sz) (fun (u : Int32 × (Nat → Int32)) => [(x0, .inr (10, [.ref w0, .ref z0, .ref xi, .ref xt, .int x_tl, .ref xq, .int x_lc, .ref rdr, .ref h0, .ref t0, .ref q0, .ref v0, .ref m0])), (w0, .inr (9, [.ref tnodes, .ref tpasses, .ref tjars, .ref torders, .ref tfeasts, .ref tway, .int tws, .int tnow, .int tfm, .int tx])), (tnodes, .inr (6, [.int 4, .ref tnodesA, .int tnodesS])), (tjars, .inr (6, [.int 9, .ref tjarsA, .int u.1])), (tjarsA, .inl (kA 0, 144, .inl u.2))])) (va_A [(x0, .inr (10, [.ref w0, .ref z0, .ref xi, .ref xt, .int x_tl, .ref xq, .int x_lc, .ref rdr, .ref h0, .ref t0, .ref q0, .ref v0, .ref m0])), (w0, .inr (9, [.ref tnodes, .ref tpasses, .ref tjars, .ref torders, .ref tfeasts, .ref tway, .int tws, .int tnow, .int tfm, .int tx])), (tnodes, .inr (6, [.int 4, .ref tnodesA, .int tnodesS])), (tjars, .inr (6, [.int 9, .ref tjarsA, .int tjarsS])), (tjarsA, .inl (kA 0, 144, .inl tjarsF))] sz)) 0 0 (va_A [(x0, .inr (10, [.ref w0, .ref z0, .ref xi, .ref xt, .int x_tl, .ref xq, .int x_lc, .ref rdr, .ref h0, .ref t0, .ref q0, .ref v0, .ref m0])), (w0, .inr (9, [.ref tnodes, .ref tpasses, .ref tjars, .ref torders, .ref tfeasts, .ref tway, .int tws, .int tnow, .int tfm, .int tx])), (tnodes, .inr (6, [.int 4, .ref tnodesA, .int tnodesS])), (tjars, .inr (6, [.int 9, .ref tjarsA, .int tjarsS])), (tjarsA, .inl (kA 0, 144, .inl tjarsF))] sz) := by
  refine Met.ofW (cc := cX10_jar) (maxL := 8) (ret := (some .int)) pnX10 rfl ?_
  intro p e s m args below meth c s₁ B hml hv
  obtain ⟨rfl, hsz, hP, hK, hD0⟩ := hv
  have hx := B.exec
  have hb := B.bytes
  have hr := B.returns
  have hts := atoms_spec (ws := wsX10_jar) B.pre
  have hown : s.vm.findClass RX10 = some m.cls := findClass_of_methodNamed B.named
  have hlocks := B.notSynchronized
  subst hsz
  have hD := hD0.self (sz := s.heap.size)
  generalize hAe : va_A [(x0, .inr (10, [.ref w0, .ref z0, .ref xi, .ref xt, .int x_tl, .ref xq, .int x_lc, .ref rdr, .ref h0, .ref t0, .ref q0, .ref v0, .ref m0])), (w0, .inr (9, [.ref tnodes, .ref tpasses, .ref tjars, .ref torders, .ref tfeasts, .ref tway, .int tws, .int tnow, .int tfm, .int tx])), (tnodes, .inr (6, [.int 4, .ref tnodesA, .int tnodesS])), (tjars, .inr (6, [.int 9, .ref tjarsA, .int tjarsS])), (tjarsA, .inl (kA 0, 144, .inl tjarsF))] s.heap.size = A at hD ⊢
  have hA : ∀ q : Nat, s.heap.size ≤ q → A q := zA_of hAe
  have hS : va_S A s.heap s.heap [] := va_S.rf
  have hP : va_P (dC, dI) vwCl [(x0, .inr (10, [.ref w0, .ref z0, .ref xi, .ref xt, .int x_tl, .ref xq, .int x_lc, .ref rdr, .ref h0, .ref t0, .ref q0, .ref v0, .ref m0])), (w0, .inr (9, [.ref tnodes, .ref tpasses, .ref tjars, .ref torders, .ref tfeasts, .ref tway, .int tws, .int tnow, .int tfm, .int tx])), (tnodes, .inr (6, [.int 4, .ref tnodesA, .int tnodesS])), (tjars, .inr (6, [.int 9, .ref tjarsA, .int tjarsS])), (tjarsA, .inl (kA 0, 144, .inl tjarsF))] s.heap := hP
  have hl := lv_entry ([.ref x0, .int p0, .int p1, .int p2, .int p3, .int p4]) (n := 8) (Nat.le_of_ble_eq_true rfl)
  rw [lg_entry_eq]
  generalize (lg_sl ([.ref x0, .int p0, .int p1, .int p2, .int p3, .int p4]) ++ List.replicate (8 - (lg_sl ([.ref x0, .int p0, .int p1, .int p2, .int p3, .int p4])).length) Slot.unset).toArray = ls at hl ⊢
  have hl : lv_has ls 8 [(0, .ref x0), (1, .int p0), (2, .int p1), (3, .int p2), (4, .int p3), (5, .int p4)] := hl
  obtain ⟨G, hG0⟩ : ∃ G : Int32 × (Nat → Int32), fX10_jar_ok tnodesS tjarsS tjarsF p0 p1 p2 p3 p4 = G := ⟨_, rfl⟩
  have hG := hG0
  unfold fX10_jar_ok at hG
  refine lv_iload_n hx hb dX10_jar_0 rfl (lv_at hl 2 rfl) ?_
  refine lv_iload_n hx hb dX10_jar_1 rfl (lv_at hl 3 rfl) ?_
  refine z_i (wr := [(x0, .inr (10, [.ref w0, .ref z0, .ref xi, .ref xt, .int x_tl, .ref xq, .int x_lc, .ref rdr, .ref h0, .ref t0, .ref q0, .ref v0, .ref m0])), (w0, .inr (9, [.ref tnodes, .ref tpasses, .ref tjars, .ref torders, .ref tfeasts, .ref tway, .int tws, .int tnow, .int tfm, .int tx])), (tnodes, .inr (6, [.int 4, .ref tnodesA, .int tnodesS])), (tjars, .inr (6, [.int 9, .ref tjarsA, .int tjarsS])), (tjarsA, .inl (kA 0, 144, .inl tjarsF))]) (va_runS (As := [.int p1, .int p2]) (rest := []) ⟨hx, hb, hml, hown, hts⟩ (mX10_isCover l dC dI kA _ p1 p2) (va_cwS 2 hts gX10_jar_X10_isCover rfl rfl rfl hdX10_isCover ⟨(Nat.le_of_ble_eq_true rfl), (Nat.le_of_ble_eq_true rfl)⟩) ⟨zPc.blind, zPre hK (hP.sub [] rfl) (hD.sub [] (by decide) rfl)⟩ rfl rfl hl.1 rfl (lv_room (Nat.le_of_ble_eq_true rfl)) dX10_jar_2 ⟨(Nat.le_of_ble_eq_true rfl), (Nat.le_of_ble_eq_true rfl)⟩) hP hD hS hA [] [0, 1, 2, 3, 4] rfl rfl (by decide) (by decide) (fun r3 u1 H locs hw2 hP hD hS => ?_)
  obtain rfl := hw2
  obtain ⟨hP, hD⟩ := z_re (L := [(x0, .inr (10, [.ref w0, .ref z0, .ref xi, .ref xt, .int x_tl, .ref xq, .int x_lc, .ref rdr, .ref h0, .ref t0, .ref q0, .ref v0, .ref m0])), (w0, .inr (9, [.ref tnodes, .ref tpasses, .ref tjars, .ref torders, .ref tfeasts, .ref tway, .int tws, .int tnow, .int tfm, .int tx])), (tnodes, .inr (6, [.int 4, .ref tnodesA, .int tnodesS])), (tjars, .inr (6, [.int 9, .ref tjarsA, .int tjarsS])), (tjarsA, .inl (kA 0, 144, .inl tjarsF))]) hP hD
  refine lv_if_eq (tgt := 32) hx hb dX10_jar_5 (by decide) (fun c_4 => ?_) (fun c_4 => ?_)
  · have hG := zthen hG c_4
    refine lv_iconst (v := 0) hx hb dX10_jar_32 (by decide) ?_
    refine lv_istore (lv' := [(6, .int 0), (0, .ref x0), (1, .int p0), (2, .int p1), (3, .int p2), (4, .int p3), (5, .int p4)]) hx hb dX10_jar_33 hl (by decide) rfl (fun ls hl => ?_)
    refine lv_iload hx hb dX10_jar_35 (lv_at hl 0 rfl) ?_
    refine lv_if_eq (tgt := 67) hx hb dX10_jar_37 (by decide) (fun _ => ?_) (fun c_5 => absurd (by decide) c_5)
    refine lv_iconst (v := (-1)) hx hb dX10_jar_67 (by decide) ?_
    refine lv_istore (lv' := [(7, .int (-1)), (6, .int 0), (0, .ref x0), (1, .int p0), (2, .int p1), (3, .int p2), (4, .int p3), (5, .int p4)]) hx hb dX10_jar_68 hl (by decide) rfl (fun ls hl => ?_)
    refine lv_iload hx hb dX10_jar_70 (lv_at hl 0 rfl) ?_
    refine lv_iconst (v := (-1)) hx hb dX10_jar_72 (by decide) ?_
    refine lv_icmp_eq (tgt := 161) hx hb dX10_jar_73 (by decide) (fun _ => ?_) (fun c_6 => absurd (by decide) c_6)
    refine lv_iload hx hb dX10_jar_161 (lv_at hl 0 rfl) ?_
    obtain ⟨hP9, hD9⟩ := z_sb (L' := [(x0, .inr (10, [.ref w0, .ref z0, .ref xi, .ref xt, .int x_tl, .ref xq, .int x_lc, .ref rdr, .ref h0, .ref t0, .ref q0, .ref v0, .ref m0])), (w0, .inr (9, [.ref tnodes, .ref tpasses, .ref tjars, .ref torders, .ref tfeasts, .ref tway, .int tws, .int tnow, .int tfm, .int tx])), (tnodes, .inr (6, [.int 4, .ref tnodesA, .int tnodesS])), (tjars, .inr (6, [.int 9, .ref tjarsA, .int tjarsS])), (tjarsA, .inl (kA 0, 144, .inl tjarsF))]) hP hD [0, 1, 2, 3, 4] (by decide) rfl
    refine W.widen (k := 0) (n := 0) (Nat.le_of_ble_eq_true rfl) (Nat.le_of_ble_eq_true rfl) ?_
    exact W.iret (v := (-1)) hx hb hr (fun t ht hW => ⟨⟨(-1), (tjarsS, tjarsF), rfl, ⟨(by simp [sp_jr, c_4, fX6_grow_jars_ok, bnd]), (hG.trans hG0.symm), (by simp [sp_jrz, c_4, fX6_grow_jars_ok, bnd])⟩, by rw [ht]; exact hP9, hD9⟩, hS.F ht⟩) hS.2.2 dX10_jar_163
  · have hG := zelse hG c_4
    refine lv_iload hx hb dX10_jar_8 (lv_at hl 4 rfl) ?_
    refine lv_bipush (v := 7) hx hb dX10_jar_10 (by decide) ?_
    refine z_i (wr := [(x0, .inr (10, [.ref w0, .ref z0, .ref xi, .ref xt, .int x_tl, .ref xq, .int x_lc, .ref rdr, .ref h0, .ref t0, .ref q0, .ref v0, .ref m0])), (w0, .inr (9, [.ref tnodes, .ref tpasses, .ref tjars, .ref torders, .ref tfeasts, .ref tway, .int tws, .int tnow, .int tfm, .int tx])), (tnodes, .inr (6, [.int 4, .ref tnodesA, .int tnodesS])), (tjars, .inr (6, [.int 9, .ref tjarsA, .int tjarsS])), (tjarsA, .inl (kA 0, 144, .inl tjarsF))]) (va_runS (As := [.int p3, .int 7]) (rest := []) ⟨hx, hb, hml, hown, hts⟩ (mX10_within l dC dI kA _ p3 7) (va_cwS 2 hts gX10_jar_X10_within rfl rfl rfl hdX10_within ⟨(Nat.le_of_ble_eq_true rfl), (Nat.le_of_ble_eq_true rfl)⟩) ⟨zPc.blind, zPre hK (hP.sub [] rfl) (hD.sub [] (by decide) rfl)⟩ rfl rfl hl.1 rfl (lv_room (Nat.le_of_ble_eq_true rfl)) dX10_jar_12 ⟨(Nat.le_of_ble_eq_true rfl), (Nat.le_of_ble_eq_true rfl)⟩) hP hD hS hA [] [0, 1, 2, 3, 4] rfl rfl (by decide) (by decide) (fun r9 u7 H locs hw8 hP hD hS => ?_)
    obtain rfl := hw8
    obtain ⟨hP, hD⟩ := z_re (L := [(x0, .inr (10, [.ref w0, .ref z0, .ref xi, .ref xt, .int x_tl, .ref xq, .int x_lc, .ref rdr, .ref h0, .ref t0, .ref q0, .ref v0, .ref m0])), (w0, .inr (9, [.ref tnodes, .ref tpasses, .ref tjars, .ref torders, .ref tfeasts, .ref tway, .int tws, .int tnow, .int tfm, .int tx])), (tnodes, .inr (6, [.int 4, .ref tnodesA, .int tnodesS])), (tjars, .inr (6, [.int 9, .ref tjarsA, .int tjarsS])), (tjarsA, .inl (kA 0, 144, .inl tjarsF))]) hP hD
    refine lv_if_eq (tgt := 32) hx hb dX10_jar_15 (by decide) (fun c_10 => ?_) (fun c_10 => ?_)
    · have hG := zthen hG c_10
      refine lv_iconst (v := 0) hx hb dX10_jar_32 (by decide) ?_
      refine lv_istore (lv' := [(6, .int 0), (0, .ref x0), (1, .int p0), (2, .int p1), (3, .int p2), (4, .int p3), (5, .int p4)]) hx hb dX10_jar_33 hl (by decide) rfl (fun ls hl => ?_)
      refine lv_iload hx hb dX10_jar_35 (lv_at hl 0 rfl) ?_
      refine lv_if_eq (tgt := 67) hx hb dX10_jar_37 (by decide) (fun _ => ?_) (fun c_11 => absurd (by decide) c_11)
      refine lv_iconst (v := (-1)) hx hb dX10_jar_67 (by decide) ?_
      refine lv_istore (lv' := [(7, .int (-1)), (6, .int 0), (0, .ref x0), (1, .int p0), (2, .int p1), (3, .int p2), (4, .int p3), (5, .int p4)]) hx hb dX10_jar_68 hl (by decide) rfl (fun ls hl => ?_)
      refine lv_iload hx hb dX10_jar_70 (lv_at hl 0 rfl) ?_
      refine lv_iconst (v := (-1)) hx hb dX10_jar_72 (by decide) ?_
      refine lv_icmp_eq (tgt := 161) hx hb dX10_jar_73 (by decide) (fun _ => ?_) (fun c_12 => absurd (by decide) c_12)
      refine lv_iload hx hb dX10_jar_161 (lv_at hl 0 rfl) ?_
      obtain ⟨hP9, hD9⟩ := z_sb (L' := [(x0, .inr (10, [.ref w0, .ref z0, .ref xi, .ref xt, .int x_tl, .ref xq, .int x_lc, .ref rdr, .ref h0, .ref t0, .ref q0, .ref v0, .ref m0])), (w0, .inr (9, [.ref tnodes, .ref tpasses, .ref tjars, .ref torders, .ref tfeasts, .ref tway, .int tws, .int tnow, .int tfm, .int tx])), (tnodes, .inr (6, [.int 4, .ref tnodesA, .int tnodesS])), (tjars, .inr (6, [.int 9, .ref tjarsA, .int tjarsS])), (tjarsA, .inl (kA 0, 144, .inl tjarsF))]) hP hD [0, 1, 2, 3, 4] (by decide) rfl
      refine W.widen (k := 0) (n := 0) (Nat.le_of_ble_eq_true rfl) (Nat.le_of_ble_eq_true rfl) ?_
      exact W.iret (v := (-1)) hx hb hr (fun t ht hW => ⟨⟨(-1), (tjarsS, tjarsF), rfl, ⟨(by simp [sp_jr, c_4, c_10, fX6_grow_jars_ok, bnd]), (hG.trans hG0.symm), (by simp [sp_jrz, c_4, c_10, fX6_grow_jars_ok, bnd])⟩, by rw [ht]; exact hP9, hD9⟩, hS.F ht⟩) hS.2.2 dX10_jar_163
    · have hG := zelse hG c_10
      have c_10a := wi_ne c_10
      have c_10b := c_10a.2
      have c_10a := c_10a.1
      refine lv_iload hx hb dX10_jar_18 (lv_at hl 5 rfl) ?_
      refine lv_bipush (v := 15) hx hb dX10_jar_20 (by decide) ?_
      refine z_i (wr := [(x0, .inr (10, [.ref w0, .ref z0, .ref xi, .ref xt, .int x_tl, .ref xq, .int x_lc, .ref rdr, .ref h0, .ref t0, .ref q0, .ref v0, .ref m0])), (w0, .inr (9, [.ref tnodes, .ref tpasses, .ref tjars, .ref torders, .ref tfeasts, .ref tway, .int tws, .int tnow, .int tfm, .int tx])), (tnodes, .inr (6, [.int 4, .ref tnodesA, .int tnodesS])), (tjars, .inr (6, [.int 9, .ref tjarsA, .int tjarsS])), (tjarsA, .inl (kA 0, 144, .inl tjarsF))]) (va_runS (As := [.int p4, .int 15]) (rest := []) ⟨hx, hb, hml, hown, hts⟩ (mX10_within l dC dI kA _ p4 15) (va_cwS 2 hts gX10_jar_X10_within rfl rfl rfl hdX10_within ⟨(Nat.le_of_ble_eq_true rfl), (Nat.le_of_ble_eq_true rfl)⟩) ⟨zPc.blind, zPre hK (hP.sub [] rfl) (hD.sub [] (by decide) rfl)⟩ rfl rfl hl.1 rfl (lv_room (Nat.le_of_ble_eq_true rfl)) dX10_jar_22 ⟨(Nat.le_of_ble_eq_true rfl), (Nat.le_of_ble_eq_true rfl)⟩) hP hD hS hA [] [0, 1, 2, 3, 4] rfl rfl (by decide) (by decide) (fun r15 u13 H locs hw14 hP hD hS => ?_)
      obtain rfl := hw14
      obtain ⟨hP, hD⟩ := z_re (L := [(x0, .inr (10, [.ref w0, .ref z0, .ref xi, .ref xt, .int x_tl, .ref xq, .int x_lc, .ref rdr, .ref h0, .ref t0, .ref q0, .ref v0, .ref m0])), (w0, .inr (9, [.ref tnodes, .ref tpasses, .ref tjars, .ref torders, .ref tfeasts, .ref tway, .int tws, .int tnow, .int tfm, .int tx])), (tnodes, .inr (6, [.int 4, .ref tnodesA, .int tnodesS])), (tjars, .inr (6, [.int 9, .ref tjarsA, .int tjarsS])), (tjarsA, .inl (kA 0, 144, .inl tjarsF))]) hP hD
      refine lv_if_eq (tgt := 32) hx hb dX10_jar_25 (by decide) (fun c_16 => ?_) (fun c_16 => ?_)
      · have hG := zthen hG c_16
        refine lv_iconst (v := 0) hx hb dX10_jar_32 (by decide) ?_
        refine lv_istore (lv' := [(6, .int 0), (0, .ref x0), (1, .int p0), (2, .int p1), (3, .int p2), (4, .int p3), (5, .int p4)]) hx hb dX10_jar_33 hl (by decide) rfl (fun ls hl => ?_)
        refine lv_iload hx hb dX10_jar_35 (lv_at hl 0 rfl) ?_
        refine lv_if_eq (tgt := 67) hx hb dX10_jar_37 (by decide) (fun _ => ?_) (fun c_17 => absurd (by decide) c_17)
        refine lv_iconst (v := (-1)) hx hb dX10_jar_67 (by decide) ?_
        refine lv_istore (lv' := [(7, .int (-1)), (6, .int 0), (0, .ref x0), (1, .int p0), (2, .int p1), (3, .int p2), (4, .int p3), (5, .int p4)]) hx hb dX10_jar_68 hl (by decide) rfl (fun ls hl => ?_)
        refine lv_iload hx hb dX10_jar_70 (lv_at hl 0 rfl) ?_
        refine lv_iconst (v := (-1)) hx hb dX10_jar_72 (by decide) ?_
        refine lv_icmp_eq (tgt := 161) hx hb dX10_jar_73 (by decide) (fun _ => ?_) (fun c_18 => absurd (by decide) c_18)
        refine lv_iload hx hb dX10_jar_161 (lv_at hl 0 rfl) ?_
        obtain ⟨hP9, hD9⟩ := z_sb (L' := [(x0, .inr (10, [.ref w0, .ref z0, .ref xi, .ref xt, .int x_tl, .ref xq, .int x_lc, .ref rdr, .ref h0, .ref t0, .ref q0, .ref v0, .ref m0])), (w0, .inr (9, [.ref tnodes, .ref tpasses, .ref tjars, .ref torders, .ref tfeasts, .ref tway, .int tws, .int tnow, .int tfm, .int tx])), (tnodes, .inr (6, [.int 4, .ref tnodesA, .int tnodesS])), (tjars, .inr (6, [.int 9, .ref tjarsA, .int tjarsS])), (tjarsA, .inl (kA 0, 144, .inl tjarsF))]) hP hD [0, 1, 2, 3, 4] (by decide) rfl
        refine W.widen (k := 0) (n := 0) (Nat.le_of_ble_eq_true rfl) (Nat.le_of_ble_eq_true rfl) ?_
        exact W.iret (v := (-1)) hx hb hr (fun t ht hW => ⟨⟨(-1), (tjarsS, tjarsF), rfl, ⟨(by simp [sp_jr, c_4, c_10, c_10a, c_10b, c_16, fX6_grow_jars_ok, bnd]), (hG.trans hG0.symm), (by simp [sp_jrz, c_4, c_10, c_10a, c_10b, c_16, fX6_grow_jars_ok, bnd])⟩, by rw [ht]; exact hP9, hD9⟩, hS.F ht⟩) hS.2.2 dX10_jar_163
      · have hG := zelse hG c_16
        have c_16a := wi_ne c_16
        have c_16b := c_16a.2
        have c_16a := c_16a.1
        refine lv_iconst (v := 1) hx hb dX10_jar_28 (by decide) ?_
        refine lv_goto (tgt := 33) hx hb dX10_jar_29 (by decide) ?_
        refine lv_istore (lv' := [(6, .int 1), (0, .ref x0), (1, .int p0), (2, .int p1), (3, .int p2), (4, .int p3), (5, .int p4)]) hx hb dX10_jar_33 hl (by decide) rfl (fun ls hl => ?_)
        refine lv_iload hx hb dX10_jar_35 (lv_at hl 0 rfl) ?_
        refine lv_if_eq (tgt := 67) hx hb dX10_jar_37 (by decide) (fun c_19 => absurd c_19 (by decide)) (fun _ => ?_)
        refine lv_aload_n hx hb dX10_jar_40 rfl (lv_at hl 1 rfl) ?_
        refine va_get (D := (dC, dI)) (ci := 10) (v := .ref w0) (C := RX10) (T := TX10) (N := 13) hx hb hts iX10_jar_X10 hown hK.1 hP 0 gz0 vcz10 0 (by decide) (kX10_jar_1 hts) (fun _ h9 => h9) gz0 dX10_jar_41 ?_
        refine va_get (D := (dC, dI)) (ci := 9) (v := .ref tnodes) (C := RX9) (T := TX9) (N := 10) hx hb hts iX10_jar_X9 hown hK.1 hP 1 gz1 vcz9 0 (by decide) (kX10_jar_2 hts) (fun _ h9 => h9) gz0 dX10_jar_44 ?_
        refine lv_iload_n hx hb dX10_jar_47 rfl (lv_at hl 2 rfl) ?_
        refine z_i (wr := [(x0, .inr (10, [.ref w0, .ref z0, .ref xi, .ref xt, .int x_tl, .ref xq, .int x_lc, .ref rdr, .ref h0, .ref t0, .ref q0, .ref v0, .ref m0])), (w0, .inr (9, [.ref tnodes, .ref tpasses, .ref tjars, .ref torders, .ref tfeasts, .ref tway, .int tws, .int tnow, .int tfm, .int tx])), (tjars, .inr (6, [.int 9, .ref tjarsA, .int tjarsS])), (tjarsA, .inl (kA 0, 144, .inl tjarsF))]) (va_runV (As := [.int p0]) (rest := []) ⟨hx, hb, hml, hown, hts⟩ (mX6_has l dC dI kA _ tnodes tnodesA 4 tnodesS p0) (cwV 1 hts gX10_jar_X6_has rfl rfl rfl ⟨rfl, hdX6_has⟩ ⟨(Nat.le_of_ble_eq_true rfl), (Nat.le_of_ble_eq_true rfl)⟩) ⟨zPc.blind, va_recv (q := (RX6, TX6, 3)) hK.1 hP (ci := 6) (q0 := 2) rfl rfl, zPre hK (hP.sub [2] rfl) (hD.sub [2] (by decide) rfl)⟩ rfl rfl hl.1 rfl (lv_room (Nat.le_of_ble_eq_true rfl)) dX10_jar_48 ⟨(Nat.le_of_ble_eq_true rfl), (Nat.le_of_ble_eq_true rfl)⟩) hP hD hS hA [2] [0, 1, 3, 4] rfl rfl (by decide) (by decide) (fun r22 u20 H locs hw21 hP hD hS => ?_)
        obtain rfl := hw21
        obtain ⟨hP, hD⟩ := z_re (L := [(x0, .inr (10, [.ref w0, .ref z0, .ref xi, .ref xt, .int x_tl, .ref xq, .int x_lc, .ref rdr, .ref h0, .ref t0, .ref q0, .ref v0, .ref m0])), (w0, .inr (9, [.ref tnodes, .ref tpasses, .ref tjars, .ref torders, .ref tfeasts, .ref tway, .int tws, .int tnow, .int tfm, .int tx])), (tjars, .inr (6, [.int 9, .ref tjarsA, .int tjarsS])), (tjarsA, .inl (kA 0, 144, .inl tjarsF)), (tnodes, .inr (6, [.int 4, .ref tnodesA, .int tnodesS]))]) hP hD
        refine lv_if_eq (tgt := 67) hx hb dX10_jar_51 (by decide) (fun c_23 => ?_) (fun c_23 => ?_)
        · have hG := zthen hG c_23
          refine lv_iconst (v := (-1)) hx hb dX10_jar_67 (by decide) ?_
          refine lv_istore (lv' := [(7, .int (-1)), (6, .int 1), (0, .ref x0), (1, .int p0), (2, .int p1), (3, .int p2), (4, .int p3), (5, .int p4)]) hx hb dX10_jar_68 hl (by decide) rfl (fun ls hl => ?_)
          refine lv_iload hx hb dX10_jar_70 (lv_at hl 0 rfl) ?_
          refine lv_iconst (v := (-1)) hx hb dX10_jar_72 (by decide) ?_
          refine lv_icmp_eq (tgt := 161) hx hb dX10_jar_73 (by decide) (fun _ => ?_) (fun c_24 => absurd (by decide) c_24)
          refine lv_iload hx hb dX10_jar_161 (lv_at hl 0 rfl) ?_
          obtain ⟨hP9, hD9⟩ := z_sb (L' := [(x0, .inr (10, [.ref w0, .ref z0, .ref xi, .ref xt, .int x_tl, .ref xq, .int x_lc, .ref rdr, .ref h0, .ref t0, .ref q0, .ref v0, .ref m0])), (w0, .inr (9, [.ref tnodes, .ref tpasses, .ref tjars, .ref torders, .ref tfeasts, .ref tway, .int tws, .int tnow, .int tfm, .int tx])), (tnodes, .inr (6, [.int 4, .ref tnodesA, .int tnodesS])), (tjars, .inr (6, [.int 9, .ref tjarsA, .int tjarsS])), (tjarsA, .inl (kA 0, 144, .inl tjarsF))]) hP hD [0, 1, 4, 2, 3] (by decide) rfl
          refine W.widen (k := 0) (n := 0) (Nat.le_of_ble_eq_true rfl) (Nat.le_of_ble_eq_true rfl) ?_
          exact W.iret (v := (-1)) hx hb hr (fun t ht hW => ⟨⟨(-1), (tjarsS, tjarsF), rfl, ⟨(by simp [sp_jr, c_4, c_10, c_10a, c_10b, c_16, c_16a, c_16b, c_23, fX6_grow_jars_ok, bnd]), (hG.trans hG0.symm), (by simp [sp_jrz, c_4, c_10, c_10a, c_10b, c_16, c_16a, c_16b, c_23, fX6_grow_jars_ok, bnd])⟩, by rw [ht]; exact hP9, hD9⟩, hS.F ht⟩) hS.2.2 dX10_jar_163
        · have hG := zelse hG c_23
          have c_23a := hs_ne c_23
          have c_23b := c_23a.2
          have c_23a := c_23a.1
          refine lv_aload_n hx hb dX10_jar_54 rfl (lv_at hl 1 rfl) ?_
          refine va_get (D := (dC, dI)) (ci := 10) (v := .ref w0) (C := RX10) (T := TX10) (N := 13) hx hb hts iX10_jar_X10 hown hK.1 hP 0 gz0 vcz10 0 (by decide) (kX10_jar_1 hts) (fun _ h9 => h9) gz0 dX10_jar_55 ?_
          refine va_get (D := (dC, dI)) (ci := 9) (v := .ref tjars) (C := RX9) (T := TX9) (N := 10) hx hb hts iX10_jar_X9 hown hK.1 hP 1 gz1 vcz9 2 (by decide) (kX10_jar_3 hts) (fun _ h9 => h9) gz2 dX10_jar_58 ?_
          refine z_i (wr := [(x0, .inr (10, [.ref w0, .ref z0, .ref xi, .ref xt, .int x_tl, .ref xq, .int x_lc, .ref rdr, .ref h0, .ref t0, .ref q0, .ref v0, .ref m0])), (w0, .inr (9, [.ref tnodes, .ref tpasses, .ref tjars, .ref torders, .ref tfeasts, .ref tway, .int tws, .int tnow, .int tfm, .int tx])), (tnodes, .inr (6, [.int 4, .ref tnodesA, .int tnodesS]))]) (va_runV (As := []) (rest := []) ⟨hx, hb, hml, hown, hts⟩ (mX6_grow_jars_ok l dC dI kA _ tjars tjarsA tjarsS tjarsF hz0 hz1) (cwV 0 hts gX10_jar_X6_grow rfl rfl rfl ⟨rfl, hdX6_grow⟩ ⟨(Nat.le_of_ble_eq_true rfl), (Nat.le_of_ble_eq_true rfl)⟩) ⟨zPc.blind, va_recv (q := (RX6, TX6, 3)) hK.1 hP (ci := 6) (q0 := 2) rfl rfl, zPre hK (hP.sub [2, 3] rfl) (hD.sub [2, 3] (by decide) rfl)⟩ rfl rfl hl.1 rfl (lv_room (Nat.le_of_ble_eq_true rfl)) dX10_jar_61 ⟨(Nat.le_of_ble_eq_true rfl), (Nat.le_of_ble_eq_true rfl)⟩) hP hD hS hA [2, 3] [0, 1, 4] rfl rfl (by decide) (by decide) (fun r27 u25 H locs hw26 hP hD hS => ?_)
          obtain ⟨o28, rfl⟩ : ∃ z, z = u25 := ⟨_, rfl⟩
          obtain ⟨er31, hp29, hp30⟩ := hw26
          have er31 := Eq.symm er31
          subst er31
          have eo28 : o28 = fX6_grow_jars_ok tjarsS := hp29
          have hG := zbnd hG eo28
          obtain ⟨hP, hD⟩ := z_re (L := [(x0, .inr (10, [.ref w0, .ref z0, .ref xi, .ref xt, .int x_tl, .ref xq, .int x_lc, .ref rdr, .ref h0, .ref t0, .ref q0, .ref v0, .ref m0])), (w0, .inr (9, [.ref tnodes, .ref tpasses, .ref tjars, .ref torders, .ref tfeasts, .ref tway, .int tws, .int tnow, .int tfm, .int tx])), (tnodes, .inr (6, [.int 4, .ref tnodesA, .int tnodesS])), (tjars, .inr (6, [.int 9, .ref tjarsA, .int o28])), (tjarsA, .inl (kA 0, 144, .inl tjarsF))]) hP hD
          refine lv_goto (tgt := 68) hx hb dX10_jar_64 (by decide) ?_
          refine lv_istore (lv' := [(7, .int tjarsS), (6, .int 1), (0, .ref x0), (1, .int p0), (2, .int p1), (3, .int p2), (4, .int p3), (5, .int p4)]) hx hb dX10_jar_68 hl (by decide) rfl (fun ls hl => ?_)
          refine lv_iload hx hb dX10_jar_70 (lv_at hl 0 rfl) ?_
          refine lv_iconst (v := (-1)) hx hb dX10_jar_72 (by decide) ?_
          refine lv_icmp_eq (tgt := 161) hx hb dX10_jar_73 (by decide) (fun c_33 => ?_) (fun c_33 => ?_)
          · have hG := zthen hG c_33
            refine lv_iload hx hb dX10_jar_161 (lv_at hl 0 rfl) ?_
            obtain ⟨hP9, hD9⟩ := z_sb (L' := [(x0, .inr (10, [.ref w0, .ref z0, .ref xi, .ref xt, .int x_tl, .ref xq, .int x_lc, .ref rdr, .ref h0, .ref t0, .ref q0, .ref v0, .ref m0])), (w0, .inr (9, [.ref tnodes, .ref tpasses, .ref tjars, .ref torders, .ref tfeasts, .ref tway, .int tws, .int tnow, .int tfm, .int tx])), (tnodes, .inr (6, [.int 4, .ref tnodesA, .int tnodesS])), (tjars, .inr (6, [.int 9, .ref tjarsA, .int o28])), (tjarsA, .inl (kA 0, 144, .inl tjarsF))]) hP hD [0, 1, 2, 3, 4] (by decide) rfl
            refine W.widen (k := 0) (n := 0) (Nat.le_of_ble_eq_true rfl) (Nat.le_of_ble_eq_true rfl) ?_
            exact W.iret (v := tjarsS) hx hb hr (fun t ht hW => ⟨⟨tjarsS, (o28, tjarsF), rfl, ⟨(by simp [sp_jr, c_4, c_10, c_10a, c_10b, c_16, c_16a, c_16b, c_23, c_23a, c_23b, hp29, hp30, c_33, fX6_grow_jars_ok, bnd]), (hG.trans hG0.symm), (by simp [sp_jrz, c_4, c_10, c_10a, c_10b, c_16, c_16a, c_16b, c_23, c_23a, c_23b, hp29, hp30, c_33, fX6_grow_jars_ok, bnd])⟩, by rw [ht]; exact hP9, hD9⟩, hS.F ht⟩) hS.2.2 dX10_jar_163
          · have hG := zelse hG c_33
            refine lv_aload_n hx hb dX10_jar_76 rfl (lv_at hl 2 rfl) ?_
            refine va_get (D := (dC, dI)) (ci := 10) (v := .ref w0) (C := RX10) (T := TX10) (N := 13) hx hb hts iX10_jar_X10 hown hK.1 hP 0 gz0 vcz10 0 (by decide) (kX10_jar_1 hts) (fun _ h9 => h9) gz0 dX10_jar_77 ?_
            refine va_get (D := (dC, dI)) (ci := 9) (v := .ref tjars) (C := RX9) (T := TX9) (N := 10) hx hb hts iX10_jar_X9 hown hK.1 hP 1 gz1 vcz9 2 (by decide) (kX10_jar_3 hts) (fun _ h9 => h9) gz2 dX10_jar_80 ?_
            refine lv_iload hx hb dX10_jar_83 (lv_at hl 0 rfl) ?_
            refine lv_iconst (v := 0) hx hb dX10_jar_85 (by decide) ?_
            refine lv_iconst (v := 0) hx hb dX10_jar_86 (by decide) ?_
            refine z_v (wr := [(x0, .inr (10, [.ref w0, .ref z0, .ref xi, .ref xt, .int x_tl, .ref xq, .int x_lc, .ref rdr, .ref h0, .ref t0, .ref q0, .ref v0, .ref m0])), (w0, .inr (9, [.ref tnodes, .ref tpasses, .ref tjars, .ref torders, .ref tfeasts, .ref tway, .int tws, .int tnow, .int tfm, .int tx])), (tnodes, .inr (6, [.int 4, .ref tnodesA, .int tnodesS]))]) (va_runV (As := [.int tjarsS, .int 0, .int 0]) (rest := []) ⟨hx, hb, hml, hown, hts⟩ (mX6_put_144 l dC dI kA _ tjars tjarsA 9 o28 tjarsF tjarsS 0 0) (cwV 3 hts gX10_jar_X6_put rfl rfl rfl ⟨rfl, hdX6_put⟩ ⟨(Nat.le_of_ble_eq_true rfl), (Nat.le_of_ble_eq_true rfl)⟩) ⟨zPc.blind, va_recv (q := (RX6, TX6, 3)) hK.1 hP (ci := 6) (q0 := 3) rfl rfl, zPre hK (hP.sub [3, 4] rfl) (hD.sub [3, 4] (by decide) rfl)⟩ rfl rfl hl.1 rfl (lv_room (Nat.le_of_ble_eq_true rfl)) dX10_jar_87 ⟨(Nat.le_of_ble_eq_true rfl), (Nat.le_of_ble_eq_true rfl)⟩) hP hD hS hA [3, 4] [0, 1, 2] rfl rfl (by decide) (by decide) (fun u34 H locs hw35 hP hD hS => ?_)
            obtain ⟨o37, rfl⟩ : ∃ z, z = u34 := ⟨_, rfl⟩
            have hp38 := hw35
            have eo37 : o37 = fX6_put_144 9 tjarsF tjarsS 0 0 := hp38
            have hG := zbnd hG eo37
            obtain ⟨hP, hD⟩ := z_re (L := [(x0, .inr (10, [.ref w0, .ref z0, .ref xi, .ref xt, .int x_tl, .ref xq, .int x_lc, .ref rdr, .ref h0, .ref t0, .ref q0, .ref v0, .ref m0])), (w0, .inr (9, [.ref tnodes, .ref tpasses, .ref tjars, .ref torders, .ref tfeasts, .ref tway, .int tws, .int tnow, .int tfm, .int tx])), (tnodes, .inr (6, [.int 4, .ref tnodesA, .int tnodesS])), (tjars, .inr (6, [.int 9, .ref tjarsA, .int o28])), (tjarsA, .inl (kA 0, 144, .inl o37))]) hP hD
            refine lv_aload_n hx hb dX10_jar_90 rfl (lv_at hl 2 rfl) ?_
            refine va_get (D := (dC, dI)) (ci := 10) (v := .ref w0) (C := RX10) (T := TX10) (N := 13) hx hb hts iX10_jar_X10 hown hK.1 hP 0 gz0 vcz10 0 (by decide) (kX10_jar_1 hts) (fun _ h9 => h9) gz0 dX10_jar_91 ?_
            refine lv_iload hx hb dX10_jar_94 (lv_at hl 0 rfl) ?_
            refine lv_iload_n hx hb dX10_jar_96 rfl (lv_at hl 3 rfl) ?_
            refine z_v (wr := [(x0, .inr (10, [.ref w0, .ref z0, .ref xi, .ref xt, .int x_tl, .ref xq, .int x_lc, .ref rdr, .ref h0, .ref t0, .ref q0, .ref v0, .ref m0])), (tnodes, .inr (6, [.int 4, .ref tnodesA, .int tnodesS]))]) (va_runV (As := [.int tjarsS, .int p0]) (rest := []) ⟨hx, hb, hml, hown, hts⟩ (mX9_standAt l dC dI kA _ w0 tnodes tpasses tjars tjarsA o28 o37 torders tfeasts tway tws tnow tfm tx tjarsS p0) (cwV 2 hts gX10_jar_X9_standAt rfl rfl rfl ⟨rfl, hdX9_standAt⟩ ⟨(Nat.le_of_ble_eq_true rfl), (Nat.le_of_ble_eq_true rfl)⟩) ⟨zPc.blind, va_recv (q := (RX9, TX9, 10)) hK.1 hP (ci := 9) (q0 := 1) rfl rfl, zPre hK (hP.sub [1, 3, 4] rfl) (hD.sub [1, 3, 4] (by decide) rfl)⟩ rfl rfl hl.1 rfl (lv_room (Nat.le_of_ble_eq_true rfl)) dX10_jar_97 ⟨(Nat.le_of_ble_eq_true rfl), (Nat.le_of_ble_eq_true rfl)⟩) hP hD hS hA [1, 3, 4] [0, 2] rfl rfl (by decide) (by decide) (fun u40 H locs hw41 hP hD hS => ?_)
            obtain ⟨o43, rfl⟩ : ∃ z, z = u40 := ⟨_, rfl⟩
            have hp44 := hw41
            have eo43 : o43 = fX9_standAt o37 tjarsS p0 := hp44
            have hG := zbnd hG eo43
            obtain ⟨hP, hD⟩ := z_re (L := [(x0, .inr (10, [.ref w0, .ref z0, .ref xi, .ref xt, .int x_tl, .ref xq, .int x_lc, .ref rdr, .ref h0, .ref t0, .ref q0, .ref v0, .ref m0])), (tnodes, .inr (6, [.int 4, .ref tnodesA, .int tnodesS])), (w0, .inr (9, [.ref tnodes, .ref tpasses, .ref tjars, .ref torders, .ref tfeasts, .ref tway, .int tws, .int tnow, .int tfm, .int tx])), (tjars, .inr (6, [.int 9, .ref tjarsA, .int o28])), (tjarsA, .inl (kA 0, 144, .inl o43))]) hP hD
            refine lv_aload_n hx hb dX10_jar_100 rfl (lv_at hl 2 rfl) ?_
            refine va_get (D := (dC, dI)) (ci := 10) (v := .ref w0) (C := RX10) (T := TX10) (N := 13) hx hb hts iX10_jar_X10 hown hK.1 hP 0 gz0 vcz10 0 (by decide) (kX10_jar_1 hts) (fun _ h9 => h9) gz0 dX10_jar_101 ?_
            refine va_get (D := (dC, dI)) (ci := 9) (v := .ref tjars) (C := RX9) (T := TX9) (N := 10) hx hb hts iX10_jar_X9 hown hK.1 hP 2 gz2 vcz9 2 (by decide) (kX10_jar_3 hts) (fun _ h9 => h9) gz2 dX10_jar_104 ?_
            refine lv_iload hx hb dX10_jar_107 (lv_at hl 0 rfl) ?_
            refine lv_iconst (v := 5) hx hb dX10_jar_109 (by decide) ?_
            refine lv_iload_n hx hb dX10_jar_110 rfl (lv_at hl 4 rfl) ?_
            refine z_v (wr := [(x0, .inr (10, [.ref w0, .ref z0, .ref xi, .ref xt, .int x_tl, .ref xq, .int x_lc, .ref rdr, .ref h0, .ref t0, .ref q0, .ref v0, .ref m0])), (tnodes, .inr (6, [.int 4, .ref tnodesA, .int tnodesS])), (w0, .inr (9, [.ref tnodes, .ref tpasses, .ref tjars, .ref torders, .ref tfeasts, .ref tway, .int tws, .int tnow, .int tfm, .int tx]))]) (va_runV (As := [.int tjarsS, .int 5, .int p1]) (rest := []) ⟨hx, hb, hml, hown, hts⟩ (mX6_put_144 l dC dI kA _ tjars tjarsA 9 o28 o43 tjarsS 5 p1) (cwV 3 hts gX10_jar_X6_put rfl rfl rfl ⟨rfl, hdX6_put⟩ ⟨(Nat.le_of_ble_eq_true rfl), (Nat.le_of_ble_eq_true rfl)⟩) ⟨zPc.blind, va_recv (q := (RX6, TX6, 3)) hK.1 hP (ci := 6) (q0 := 3) rfl rfl, zPre hK (hP.sub [3, 4] rfl) (hD.sub [3, 4] (by decide) rfl)⟩ rfl rfl hl.1 rfl (lv_room (Nat.le_of_ble_eq_true rfl)) dX10_jar_111 ⟨(Nat.le_of_ble_eq_true rfl), (Nat.le_of_ble_eq_true rfl)⟩) hP hD hS hA [3, 4] [0, 1, 2] rfl rfl (by decide) (by decide) (fun u46 H locs hw47 hP hD hS => ?_)
            obtain ⟨o49, rfl⟩ : ∃ z, z = u46 := ⟨_, rfl⟩
            have hp50 := hw47
            have eo49 : o49 = fX6_put_144 9 o43 tjarsS 5 p1 := hp50
            have hG := zbnd hG eo49
            obtain ⟨hP, hD⟩ := z_re (L := [(x0, .inr (10, [.ref w0, .ref z0, .ref xi, .ref xt, .int x_tl, .ref xq, .int x_lc, .ref rdr, .ref h0, .ref t0, .ref q0, .ref v0, .ref m0])), (tnodes, .inr (6, [.int 4, .ref tnodesA, .int tnodesS])), (w0, .inr (9, [.ref tnodes, .ref tpasses, .ref tjars, .ref torders, .ref tfeasts, .ref tway, .int tws, .int tnow, .int tfm, .int tx])), (tjars, .inr (6, [.int 9, .ref tjarsA, .int o28])), (tjarsA, .inl (kA 0, 144, .inl o49))]) hP hD
            refine lv_aload_n hx hb dX10_jar_114 rfl (lv_at hl 2 rfl) ?_
            refine va_get (D := (dC, dI)) (ci := 10) (v := .ref w0) (C := RX10) (T := TX10) (N := 13) hx hb hts iX10_jar_X10 hown hK.1 hP 0 gz0 vcz10 0 (by decide) (kX10_jar_1 hts) (fun _ h9 => h9) gz0 dX10_jar_115 ?_
            refine va_get (D := (dC, dI)) (ci := 9) (v := .ref tjars) (C := RX9) (T := TX9) (N := 10) hx hb hts iX10_jar_X9 hown hK.1 hP 2 gz2 vcz9 2 (by decide) (kX10_jar_3 hts) (fun _ h9 => h9) gz2 dX10_jar_118 ?_
            refine lv_iload hx hb dX10_jar_121 (lv_at hl 0 rfl) ?_
            refine lv_bipush (v := 6) hx hb dX10_jar_123 (by decide) ?_
            refine lv_iload_n hx hb dX10_jar_125 rfl (lv_at hl 5 rfl) ?_
            refine z_v (wr := [(x0, .inr (10, [.ref w0, .ref z0, .ref xi, .ref xt, .int x_tl, .ref xq, .int x_lc, .ref rdr, .ref h0, .ref t0, .ref q0, .ref v0, .ref m0])), (tnodes, .inr (6, [.int 4, .ref tnodesA, .int tnodesS])), (w0, .inr (9, [.ref tnodes, .ref tpasses, .ref tjars, .ref torders, .ref tfeasts, .ref tway, .int tws, .int tnow, .int tfm, .int tx]))]) (va_runV (As := [.int tjarsS, .int 6, .int p2]) (rest := []) ⟨hx, hb, hml, hown, hts⟩ (mX6_put_144 l dC dI kA _ tjars tjarsA 9 o28 o49 tjarsS 6 p2) (cwV 3 hts gX10_jar_X6_put rfl rfl rfl ⟨rfl, hdX6_put⟩ ⟨(Nat.le_of_ble_eq_true rfl), (Nat.le_of_ble_eq_true rfl)⟩) ⟨zPc.blind, va_recv (q := (RX6, TX6, 3)) hK.1 hP (ci := 6) (q0 := 3) rfl rfl, zPre hK (hP.sub [3, 4] rfl) (hD.sub [3, 4] (by decide) rfl)⟩ rfl rfl hl.1 rfl (lv_room (Nat.le_of_ble_eq_true rfl)) dX10_jar_126 ⟨(Nat.le_of_ble_eq_true rfl), (Nat.le_of_ble_eq_true rfl)⟩) hP hD hS hA [3, 4] [0, 1, 2] rfl rfl (by decide) (by decide) (fun u52 H locs hw53 hP hD hS => ?_)
            obtain ⟨o55, rfl⟩ : ∃ z, z = u52 := ⟨_, rfl⟩
            have hp56 := hw53
            have eo55 : o55 = fX6_put_144 9 o49 tjarsS 6 p2 := hp56
            have hG := zbnd hG eo55
            obtain ⟨hP, hD⟩ := z_re (L := [(x0, .inr (10, [.ref w0, .ref z0, .ref xi, .ref xt, .int x_tl, .ref xq, .int x_lc, .ref rdr, .ref h0, .ref t0, .ref q0, .ref v0, .ref m0])), (tnodes, .inr (6, [.int 4, .ref tnodesA, .int tnodesS])), (w0, .inr (9, [.ref tnodes, .ref tpasses, .ref tjars, .ref torders, .ref tfeasts, .ref tway, .int tws, .int tnow, .int tfm, .int tx])), (tjars, .inr (6, [.int 9, .ref tjarsA, .int o28])), (tjarsA, .inl (kA 0, 144, .inl o55))]) hP hD
            refine lv_aload_n hx hb dX10_jar_129 rfl (lv_at hl 2 rfl) ?_
            refine va_get (D := (dC, dI)) (ci := 10) (v := .ref w0) (C := RX10) (T := TX10) (N := 13) hx hb hts iX10_jar_X10 hown hK.1 hP 0 gz0 vcz10 0 (by decide) (kX10_jar_1 hts) (fun _ h9 => h9) gz0 dX10_jar_130 ?_
            refine va_get (D := (dC, dI)) (ci := 9) (v := .ref tjars) (C := RX9) (T := TX9) (N := 10) hx hb hts iX10_jar_X9 hown hK.1 hP 2 gz2 vcz9 2 (by decide) (kX10_jar_3 hts) (fun _ h9 => h9) gz2 dX10_jar_133 ?_
            refine lv_iload hx hb dX10_jar_136 (lv_at hl 0 rfl) ?_
            refine lv_bipush (v := 7) hx hb dX10_jar_138 (by decide) ?_
            refine lv_iload hx hb dX10_jar_140 (lv_at hl 6 rfl) ?_
            refine z_v (wr := [(x0, .inr (10, [.ref w0, .ref z0, .ref xi, .ref xt, .int x_tl, .ref xq, .int x_lc, .ref rdr, .ref h0, .ref t0, .ref q0, .ref v0, .ref m0])), (tnodes, .inr (6, [.int 4, .ref tnodesA, .int tnodesS])), (w0, .inr (9, [.ref tnodes, .ref tpasses, .ref tjars, .ref torders, .ref tfeasts, .ref tway, .int tws, .int tnow, .int tfm, .int tx]))]) (va_runV (As := [.int tjarsS, .int 7, .int p3]) (rest := []) ⟨hx, hb, hml, hown, hts⟩ (mX6_put_144 l dC dI kA _ tjars tjarsA 9 o28 o55 tjarsS 7 p3) (cwV 3 hts gX10_jar_X6_put rfl rfl rfl ⟨rfl, hdX6_put⟩ ⟨(Nat.le_of_ble_eq_true rfl), (Nat.le_of_ble_eq_true rfl)⟩) ⟨zPc.blind, va_recv (q := (RX6, TX6, 3)) hK.1 hP (ci := 6) (q0 := 3) rfl rfl, zPre hK (hP.sub [3, 4] rfl) (hD.sub [3, 4] (by decide) rfl)⟩ rfl rfl hl.1 rfl (lv_room (Nat.le_of_ble_eq_true rfl)) dX10_jar_142 ⟨(Nat.le_of_ble_eq_true rfl), (Nat.le_of_ble_eq_true rfl)⟩) hP hD hS hA [3, 4] [0, 1, 2] rfl rfl (by decide) (by decide) (fun u58 H locs hw59 hP hD hS => ?_)
            obtain ⟨o61, rfl⟩ : ∃ z, z = u58 := ⟨_, rfl⟩
            have hp62 := hw59
            have eo61 : o61 = fX6_put_144 9 o55 tjarsS 7 p3 := hp62
            have hG := zbnd hG eo61
            obtain ⟨hP, hD⟩ := z_re (L := [(x0, .inr (10, [.ref w0, .ref z0, .ref xi, .ref xt, .int x_tl, .ref xq, .int x_lc, .ref rdr, .ref h0, .ref t0, .ref q0, .ref v0, .ref m0])), (tnodes, .inr (6, [.int 4, .ref tnodesA, .int tnodesS])), (w0, .inr (9, [.ref tnodes, .ref tpasses, .ref tjars, .ref torders, .ref tfeasts, .ref tway, .int tws, .int tnow, .int tfm, .int tx])), (tjars, .inr (6, [.int 9, .ref tjarsA, .int o28])), (tjarsA, .inl (kA 0, 144, .inl o61))]) hP hD
            refine lv_aload_n hx hb dX10_jar_145 rfl (lv_at hl 2 rfl) ?_
            refine va_get (D := (dC, dI)) (ci := 10) (v := .ref w0) (C := RX10) (T := TX10) (N := 13) hx hb hts iX10_jar_X10 hown hK.1 hP 0 gz0 vcz10 0 (by decide) (kX10_jar_1 hts) (fun _ h9 => h9) gz0 dX10_jar_146 ?_
            refine va_get (D := (dC, dI)) (ci := 9) (v := .ref tjars) (C := RX9) (T := TX9) (N := 10) hx hb hts iX10_jar_X9 hown hK.1 hP 2 gz2 vcz9 2 (by decide) (kX10_jar_3 hts) (fun _ h9 => h9) gz2 dX10_jar_149 ?_
            refine lv_iload hx hb dX10_jar_152 (lv_at hl 0 rfl) ?_
            refine lv_bipush (v := 8) hx hb dX10_jar_154 (by decide) ?_
            refine lv_iload hx hb dX10_jar_156 (lv_at hl 7 rfl) ?_
            refine z_v (wr := [(x0, .inr (10, [.ref w0, .ref z0, .ref xi, .ref xt, .int x_tl, .ref xq, .int x_lc, .ref rdr, .ref h0, .ref t0, .ref q0, .ref v0, .ref m0])), (tnodes, .inr (6, [.int 4, .ref tnodesA, .int tnodesS])), (w0, .inr (9, [.ref tnodes, .ref tpasses, .ref tjars, .ref torders, .ref tfeasts, .ref tway, .int tws, .int tnow, .int tfm, .int tx]))]) (va_runV (As := [.int tjarsS, .int 8, .int p4]) (rest := []) ⟨hx, hb, hml, hown, hts⟩ (mX6_put_144 l dC dI kA _ tjars tjarsA 9 o28 o61 tjarsS 8 p4) (cwV 3 hts gX10_jar_X6_put rfl rfl rfl ⟨rfl, hdX6_put⟩ ⟨(Nat.le_of_ble_eq_true rfl), (Nat.le_of_ble_eq_true rfl)⟩) ⟨zPc.blind, va_recv (q := (RX6, TX6, 3)) hK.1 hP (ci := 6) (q0 := 3) rfl rfl, zPre hK (hP.sub [3, 4] rfl) (hD.sub [3, 4] (by decide) rfl)⟩ rfl rfl hl.1 rfl (lv_room (Nat.le_of_ble_eq_true rfl)) dX10_jar_158 ⟨(Nat.le_of_ble_eq_true rfl), (Nat.le_of_ble_eq_true rfl)⟩) hP hD hS hA [3, 4] [0, 1, 2] rfl rfl (by decide) (by decide) (fun u64 H locs hw65 hP hD hS => ?_)
            obtain ⟨o67, rfl⟩ : ∃ z, z = u64 := ⟨_, rfl⟩
            have hp68 := hw65
            have eo67 : o67 = fX6_put_144 9 o61 tjarsS 8 p4 := hp68
            have hG := zbnd hG eo67
            obtain ⟨hP, hD⟩ := z_re (L := [(x0, .inr (10, [.ref w0, .ref z0, .ref xi, .ref xt, .int x_tl, .ref xq, .int x_lc, .ref rdr, .ref h0, .ref t0, .ref q0, .ref v0, .ref m0])), (tnodes, .inr (6, [.int 4, .ref tnodesA, .int tnodesS])), (w0, .inr (9, [.ref tnodes, .ref tpasses, .ref tjars, .ref torders, .ref tfeasts, .ref tway, .int tws, .int tnow, .int tfm, .int tx])), (tjars, .inr (6, [.int 9, .ref tjarsA, .int o28])), (tjarsA, .inl (kA 0, 144, .inl o67))]) hP hD
            refine lv_iload hx hb dX10_jar_161 (lv_at hl 0 rfl) ?_
            obtain ⟨hP9, hD9⟩ := z_sb (L' := [(x0, .inr (10, [.ref w0, .ref z0, .ref xi, .ref xt, .int x_tl, .ref xq, .int x_lc, .ref rdr, .ref h0, .ref t0, .ref q0, .ref v0, .ref m0])), (w0, .inr (9, [.ref tnodes, .ref tpasses, .ref tjars, .ref torders, .ref tfeasts, .ref tway, .int tws, .int tnow, .int tfm, .int tx])), (tnodes, .inr (6, [.int 4, .ref tnodesA, .int tnodesS])), (tjars, .inr (6, [.int 9, .ref tjarsA, .int o28])), (tjarsA, .inl (kA 0, 144, .inl o67))]) hP hD [0, 2, 1, 3, 4] (by decide) rfl
            refine W.widen (k := 0) (n := 0) (Nat.le_of_ble_eq_true rfl) (Nat.le_of_ble_eq_true rfl) ?_
            exact W.iret (v := tjarsS) hx hb hr (fun t ht hW => ⟨⟨tjarsS, (o28, o67), rfl, ⟨(by simp [sp_jr, c_4, c_10, c_10a, c_10b, c_16, c_16a, c_16b, c_23, c_23a, c_23b, hp29, hp30, c_33, hp38, hp44, hp50, hp56, hp62, hp68, fX6_grow_jars_ok, bnd]), (hG.trans hG0.symm), (by simp [sp_jrz, c_4, c_10, c_10a, c_10b, c_16, c_16a, c_16b, c_23, c_23a, c_23b, hp29, hp30, c_33, hp38, hp44, hp50, hp56, hp62, hp68, fX6_grow_jars_ok, bnd])⟩, by rw [ht]; exact hP9, hD9⟩, hS.F ht⟩) hS.2.2 dX10_jar_163
set_option maxHeartbeats 4000000 in
set_option maxRecDepth 100000 in
theorem mX10_jar_full (l : Launch) (dC : Nat → ClassId) (dI : Nat → Nat → Nat) (kA : Nat → ClassId) (sz : Nat) (x0 : Nat) (z0 : Nat) (xi : Nat) (xt : Nat) (xq : Nat) (rdr : Nat) (h0 : Nat) (t0 : Nat) (q0 : Nat) (v0 : Nat) (m0 : Nat) (w0 : Nat) (x_tl : Int32) (x_lc : Int32) (tnodes : Nat) (tnodesA : Nat) (tnodesS : Int32) (tpasses : Nat) (tjars : Nat) (tjarsA : Nat) (tjarsF : Nat → Int32) (torders : Nat) (tfeasts : Nat) (tway : Nat) (tws : Int32) (tnow : Int32) (tfm : Int32) (tx : Int32) (p0 : Int32) (p1 : Int32) (p2 : Int32) (p3 : Int32) (p4 : Int32)  : Met l yX10_jar wsX10_jar ({ frames := 2, cells := 0, slots := 0, locals := 42 }) (zPc dC dI kA sz [.ref x0, .int p0, .int p1, .int p2, .int p3, .int p4] [(x0, .inr (10, [.ref w0, .ref z0, .ref xi, .ref xt, .int x_tl, .ref xq, .int x_lc, .ref rdr, .ref h0, .ref t0, .ref q0, .ref v0, .ref m0])), (w0, .inr (9, [.ref tnodes, .ref tpasses, .ref tjars, .ref torders, .ref tfeasts, .ref tway, .int tws, .int tnow, .int tfm, .int tx])), (tnodes, .inr (6, [.int 4, .ref tnodesA, .int tnodesS])), (tjars, .inr (6, [.int 9, .ref tjarsA, .int 16])), (tjarsA, .inl (kA 0, 144, .inl tjarsF))]) (va_Qi (fun (r : Int32) (u : Unit) => r = (-1)) (zB dC dI (va_A [(x0, .inr (10, [.ref w0, .ref z0, .ref xi, .ref xt, .int x_tl, .ref xq, .int x_lc, .ref rdr, .ref h0, .ref t0, .ref q0, .ref v0, .ref m0])), (w0, .inr (9, [.ref tnodes, .ref tpasses, .ref tjars, .ref torders, .ref tfeasts, .ref tway, .int tws, .int tnow, .int tfm, .int tx])), (tnodes, .inr (6, [.int 4, .ref tnodesA, .int tnodesS])), (tjars, .inr (6, [.int 9, .ref tjarsA, .int 16])), (tjarsA, .inl (kA 0, 144, .inl tjarsF))] sz) (fun (u : Unit) => [(x0, .inr (10, [.ref w0, .ref z0, .ref xi, .ref xt, .int x_tl, .ref xq, .int x_lc, .ref rdr, .ref h0, .ref t0, .ref q0, .ref v0, .ref m0])), (w0, .inr (9, [.ref tnodes, .ref tpasses, .ref tjars, .ref torders, .ref tfeasts, .ref tway, .int tws, .int tnow, .int tfm, .int tx])), (tnodes, .inr (6, [.int 4, .ref tnodesA, .int tnodesS])), (tjars, .inr (6, [.int 9, .ref tjarsA, .int 16])), (tjarsA, .inl (kA 0, 144, .inl tjarsF))])) (va_A [(x0, .inr (10, [.ref w0, .ref z0, .ref xi, .ref xt, .int x_tl, .ref xq, .int x_lc, .ref rdr, .ref h0, .ref t0, .ref q0, .ref v0, .ref m0])), (w0, .inr (9, [.ref tnodes, .ref tpasses, .ref tjars, .ref torders, .ref tfeasts, .ref tway, .int tws, .int tnow, .int tfm, .int tx])), (tnodes, .inr (6, [.int 4, .ref tnodesA, .int tnodesS])), (tjars, .inr (6, [.int 9, .ref tjarsA, .int 16])), (tjarsA, .inl (kA 0, 144, .inl tjarsF))] sz)) 0 0 (va_A [(x0, .inr (10, [.ref w0, .ref z0, .ref xi, .ref xt, .int x_tl, .ref xq, .int x_lc, .ref rdr, .ref h0, .ref t0, .ref q0, .ref v0, .ref m0])), (w0, .inr (9, [.ref tnodes, .ref tpasses, .ref tjars, .ref torders, .ref tfeasts, .ref tway, .int tws, .int tnow, .int tfm, .int tx])), (tnodes, .inr (6, [.int 4, .ref tnodesA, .int tnodesS])), (tjars, .inr (6, [.int 9, .ref tjarsA, .int 16])), (tjarsA, .inl (kA 0, 144, .inl tjarsF))] sz) := by
  refine Met.ofW (cc := cX10_jar) (maxL := 8) (ret := (some .int)) pnX10 rfl ?_
  intro p e s m args below meth c s₁ B hml hv
  obtain ⟨rfl, hsz, hP, hK, hD0⟩ := hv
  have hx := B.exec
  have hb := B.bytes
  have hr := B.returns
  have hts := atoms_spec (ws := wsX10_jar) B.pre
  have hown : s.vm.findClass RX10 = some m.cls := findClass_of_methodNamed B.named
  have hlocks := B.notSynchronized
  subst hsz
  have hD := hD0.self (sz := s.heap.size)
  generalize hAe : va_A [(x0, .inr (10, [.ref w0, .ref z0, .ref xi, .ref xt, .int x_tl, .ref xq, .int x_lc, .ref rdr, .ref h0, .ref t0, .ref q0, .ref v0, .ref m0])), (w0, .inr (9, [.ref tnodes, .ref tpasses, .ref tjars, .ref torders, .ref tfeasts, .ref tway, .int tws, .int tnow, .int tfm, .int tx])), (tnodes, .inr (6, [.int 4, .ref tnodesA, .int tnodesS])), (tjars, .inr (6, [.int 9, .ref tjarsA, .int 16])), (tjarsA, .inl (kA 0, 144, .inl tjarsF))] s.heap.size = A at hD ⊢
  have hA : ∀ q : Nat, s.heap.size ≤ q → A q := zA_of hAe
  have hS : va_S A s.heap s.heap [] := va_S.rf
  have hP : va_P (dC, dI) vwCl [(x0, .inr (10, [.ref w0, .ref z0, .ref xi, .ref xt, .int x_tl, .ref xq, .int x_lc, .ref rdr, .ref h0, .ref t0, .ref q0, .ref v0, .ref m0])), (w0, .inr (9, [.ref tnodes, .ref tpasses, .ref tjars, .ref torders, .ref tfeasts, .ref tway, .int tws, .int tnow, .int tfm, .int tx])), (tnodes, .inr (6, [.int 4, .ref tnodesA, .int tnodesS])), (tjars, .inr (6, [.int 9, .ref tjarsA, .int 16])), (tjarsA, .inl (kA 0, 144, .inl tjarsF))] s.heap := hP
  have hl := lv_entry ([.ref x0, .int p0, .int p1, .int p2, .int p3, .int p4]) (n := 8) (Nat.le_of_ble_eq_true rfl)
  rw [lg_entry_eq]
  generalize (lg_sl ([.ref x0, .int p0, .int p1, .int p2, .int p3, .int p4]) ++ List.replicate (8 - (lg_sl ([.ref x0, .int p0, .int p1, .int p2, .int p3, .int p4])).length) Slot.unset).toArray = ls at hl ⊢
  have hl : lv_has ls 8 [(0, .ref x0), (1, .int p0), (2, .int p1), (3, .int p2), (4, .int p3), (5, .int p4)] := hl
  refine lv_iload_n hx hb dX10_jar_0 rfl (lv_at hl 2 rfl) ?_
  refine lv_iload_n hx hb dX10_jar_1 rfl (lv_at hl 3 rfl) ?_
  refine z_i (wr := [(x0, .inr (10, [.ref w0, .ref z0, .ref xi, .ref xt, .int x_tl, .ref xq, .int x_lc, .ref rdr, .ref h0, .ref t0, .ref q0, .ref v0, .ref m0])), (w0, .inr (9, [.ref tnodes, .ref tpasses, .ref tjars, .ref torders, .ref tfeasts, .ref tway, .int tws, .int tnow, .int tfm, .int tx])), (tnodes, .inr (6, [.int 4, .ref tnodesA, .int tnodesS])), (tjars, .inr (6, [.int 9, .ref tjarsA, .int 16])), (tjarsA, .inl (kA 0, 144, .inl tjarsF))]) (va_runS (As := [.int p1, .int p2]) (rest := []) ⟨hx, hb, hml, hown, hts⟩ (mX10_isCover l dC dI kA _ p1 p2) (va_cwS 2 hts gX10_jar_X10_isCover rfl rfl rfl hdX10_isCover ⟨(Nat.le_of_ble_eq_true rfl), (Nat.le_of_ble_eq_true rfl)⟩) ⟨zPc.blind, zPre hK (hP.sub [] rfl) (hD.sub [] (by decide) rfl)⟩ rfl rfl hl.1 rfl (lv_room (Nat.le_of_ble_eq_true rfl)) dX10_jar_2 ⟨(Nat.le_of_ble_eq_true rfl), (Nat.le_of_ble_eq_true rfl)⟩) hP hD hS hA [] [0, 1, 2, 3, 4] rfl rfl (by decide) (by decide) (fun r3 u1 H locs hw2 hP hD hS => ?_)
  obtain rfl := hw2
  obtain ⟨hP, hD⟩ := z_re (L := [(x0, .inr (10, [.ref w0, .ref z0, .ref xi, .ref xt, .int x_tl, .ref xq, .int x_lc, .ref rdr, .ref h0, .ref t0, .ref q0, .ref v0, .ref m0])), (w0, .inr (9, [.ref tnodes, .ref tpasses, .ref tjars, .ref torders, .ref tfeasts, .ref tway, .int tws, .int tnow, .int tfm, .int tx])), (tnodes, .inr (6, [.int 4, .ref tnodesA, .int tnodesS])), (tjars, .inr (6, [.int 9, .ref tjarsA, .int 16])), (tjarsA, .inl (kA 0, 144, .inl tjarsF))]) hP hD
  refine lv_if_eq (tgt := 32) hx hb dX10_jar_5 (by decide) (fun c_4 => ?_) (fun c_4 => ?_)
  · refine lv_iconst (v := 0) hx hb dX10_jar_32 (by decide) ?_
    refine lv_istore (lv' := [(6, .int 0), (0, .ref x0), (1, .int p0), (2, .int p1), (3, .int p2), (4, .int p3), (5, .int p4)]) hx hb dX10_jar_33 hl (by decide) rfl (fun ls hl => ?_)
    refine lv_iload hx hb dX10_jar_35 (lv_at hl 0 rfl) ?_
    refine lv_if_eq (tgt := 67) hx hb dX10_jar_37 (by decide) (fun _ => ?_) (fun c_5 => absurd (by decide) c_5)
    refine lv_iconst (v := (-1)) hx hb dX10_jar_67 (by decide) ?_
    refine lv_istore (lv' := [(7, .int (-1)), (6, .int 0), (0, .ref x0), (1, .int p0), (2, .int p1), (3, .int p2), (4, .int p3), (5, .int p4)]) hx hb dX10_jar_68 hl (by decide) rfl (fun ls hl => ?_)
    refine lv_iload hx hb dX10_jar_70 (lv_at hl 0 rfl) ?_
    refine lv_iconst (v := (-1)) hx hb dX10_jar_72 (by decide) ?_
    refine lv_icmp_eq (tgt := 161) hx hb dX10_jar_73 (by decide) (fun _ => ?_) (fun c_6 => absurd (by decide) c_6)
    refine lv_iload hx hb dX10_jar_161 (lv_at hl 0 rfl) ?_
    obtain ⟨hP9, hD9⟩ := z_sb (L' := [(x0, .inr (10, [.ref w0, .ref z0, .ref xi, .ref xt, .int x_tl, .ref xq, .int x_lc, .ref rdr, .ref h0, .ref t0, .ref q0, .ref v0, .ref m0])), (w0, .inr (9, [.ref tnodes, .ref tpasses, .ref tjars, .ref torders, .ref tfeasts, .ref tway, .int tws, .int tnow, .int tfm, .int tx])), (tnodes, .inr (6, [.int 4, .ref tnodesA, .int tnodesS])), (tjars, .inr (6, [.int 9, .ref tjarsA, .int 16])), (tjarsA, .inl (kA 0, 144, .inl tjarsF))]) hP hD [0, 1, 2, 3, 4] (by decide) rfl
    refine W.widen (k := 0) (n := 0) (Nat.le_of_ble_eq_true rfl) (Nat.le_of_ble_eq_true rfl) ?_
    exact W.iret (v := (-1)) hx hb hr (fun t ht hW => ⟨⟨(-1), (), rfl, rfl, by rw [ht]; exact hP9, hD9⟩, hS.F ht⟩) hS.2.2 dX10_jar_163
  · refine lv_iload hx hb dX10_jar_8 (lv_at hl 4 rfl) ?_
    refine lv_bipush (v := 7) hx hb dX10_jar_10 (by decide) ?_
    refine z_i (wr := [(x0, .inr (10, [.ref w0, .ref z0, .ref xi, .ref xt, .int x_tl, .ref xq, .int x_lc, .ref rdr, .ref h0, .ref t0, .ref q0, .ref v0, .ref m0])), (w0, .inr (9, [.ref tnodes, .ref tpasses, .ref tjars, .ref torders, .ref tfeasts, .ref tway, .int tws, .int tnow, .int tfm, .int tx])), (tnodes, .inr (6, [.int 4, .ref tnodesA, .int tnodesS])), (tjars, .inr (6, [.int 9, .ref tjarsA, .int 16])), (tjarsA, .inl (kA 0, 144, .inl tjarsF))]) (va_runS (As := [.int p3, .int 7]) (rest := []) ⟨hx, hb, hml, hown, hts⟩ (mX10_within l dC dI kA _ p3 7) (va_cwS 2 hts gX10_jar_X10_within rfl rfl rfl hdX10_within ⟨(Nat.le_of_ble_eq_true rfl), (Nat.le_of_ble_eq_true rfl)⟩) ⟨zPc.blind, zPre hK (hP.sub [] rfl) (hD.sub [] (by decide) rfl)⟩ rfl rfl hl.1 rfl (lv_room (Nat.le_of_ble_eq_true rfl)) dX10_jar_12 ⟨(Nat.le_of_ble_eq_true rfl), (Nat.le_of_ble_eq_true rfl)⟩) hP hD hS hA [] [0, 1, 2, 3, 4] rfl rfl (by decide) (by decide) (fun r9 u7 H locs hw8 hP hD hS => ?_)
    obtain rfl := hw8
    obtain ⟨hP, hD⟩ := z_re (L := [(x0, .inr (10, [.ref w0, .ref z0, .ref xi, .ref xt, .int x_tl, .ref xq, .int x_lc, .ref rdr, .ref h0, .ref t0, .ref q0, .ref v0, .ref m0])), (w0, .inr (9, [.ref tnodes, .ref tpasses, .ref tjars, .ref torders, .ref tfeasts, .ref tway, .int tws, .int tnow, .int tfm, .int tx])), (tnodes, .inr (6, [.int 4, .ref tnodesA, .int tnodesS])), (tjars, .inr (6, [.int 9, .ref tjarsA, .int 16])), (tjarsA, .inl (kA 0, 144, .inl tjarsF))]) hP hD
    refine lv_if_eq (tgt := 32) hx hb dX10_jar_15 (by decide) (fun c_10 => ?_) (fun c_10 => ?_)
    · refine lv_iconst (v := 0) hx hb dX10_jar_32 (by decide) ?_
      refine lv_istore (lv' := [(6, .int 0), (0, .ref x0), (1, .int p0), (2, .int p1), (3, .int p2), (4, .int p3), (5, .int p4)]) hx hb dX10_jar_33 hl (by decide) rfl (fun ls hl => ?_)
      refine lv_iload hx hb dX10_jar_35 (lv_at hl 0 rfl) ?_
      refine lv_if_eq (tgt := 67) hx hb dX10_jar_37 (by decide) (fun _ => ?_) (fun c_11 => absurd (by decide) c_11)
      refine lv_iconst (v := (-1)) hx hb dX10_jar_67 (by decide) ?_
      refine lv_istore (lv' := [(7, .int (-1)), (6, .int 0), (0, .ref x0), (1, .int p0), (2, .int p1), (3, .int p2), (4, .int p3), (5, .int p4)]) hx hb dX10_jar_68 hl (by decide) rfl (fun ls hl => ?_)
      refine lv_iload hx hb dX10_jar_70 (lv_at hl 0 rfl) ?_
      refine lv_iconst (v := (-1)) hx hb dX10_jar_72 (by decide) ?_
      refine lv_icmp_eq (tgt := 161) hx hb dX10_jar_73 (by decide) (fun _ => ?_) (fun c_12 => absurd (by decide) c_12)
      refine lv_iload hx hb dX10_jar_161 (lv_at hl 0 rfl) ?_
      obtain ⟨hP9, hD9⟩ := z_sb (L' := [(x0, .inr (10, [.ref w0, .ref z0, .ref xi, .ref xt, .int x_tl, .ref xq, .int x_lc, .ref rdr, .ref h0, .ref t0, .ref q0, .ref v0, .ref m0])), (w0, .inr (9, [.ref tnodes, .ref tpasses, .ref tjars, .ref torders, .ref tfeasts, .ref tway, .int tws, .int tnow, .int tfm, .int tx])), (tnodes, .inr (6, [.int 4, .ref tnodesA, .int tnodesS])), (tjars, .inr (6, [.int 9, .ref tjarsA, .int 16])), (tjarsA, .inl (kA 0, 144, .inl tjarsF))]) hP hD [0, 1, 2, 3, 4] (by decide) rfl
      refine W.widen (k := 0) (n := 0) (Nat.le_of_ble_eq_true rfl) (Nat.le_of_ble_eq_true rfl) ?_
      exact W.iret (v := (-1)) hx hb hr (fun t ht hW => ⟨⟨(-1), (), rfl, rfl, by rw [ht]; exact hP9, hD9⟩, hS.F ht⟩) hS.2.2 dX10_jar_163
    · have c_10a := wi_ne c_10
      have c_10b := c_10a.2
      have c_10a := c_10a.1
      refine lv_iload hx hb dX10_jar_18 (lv_at hl 5 rfl) ?_
      refine lv_bipush (v := 15) hx hb dX10_jar_20 (by decide) ?_
      refine z_i (wr := [(x0, .inr (10, [.ref w0, .ref z0, .ref xi, .ref xt, .int x_tl, .ref xq, .int x_lc, .ref rdr, .ref h0, .ref t0, .ref q0, .ref v0, .ref m0])), (w0, .inr (9, [.ref tnodes, .ref tpasses, .ref tjars, .ref torders, .ref tfeasts, .ref tway, .int tws, .int tnow, .int tfm, .int tx])), (tnodes, .inr (6, [.int 4, .ref tnodesA, .int tnodesS])), (tjars, .inr (6, [.int 9, .ref tjarsA, .int 16])), (tjarsA, .inl (kA 0, 144, .inl tjarsF))]) (va_runS (As := [.int p4, .int 15]) (rest := []) ⟨hx, hb, hml, hown, hts⟩ (mX10_within l dC dI kA _ p4 15) (va_cwS 2 hts gX10_jar_X10_within rfl rfl rfl hdX10_within ⟨(Nat.le_of_ble_eq_true rfl), (Nat.le_of_ble_eq_true rfl)⟩) ⟨zPc.blind, zPre hK (hP.sub [] rfl) (hD.sub [] (by decide) rfl)⟩ rfl rfl hl.1 rfl (lv_room (Nat.le_of_ble_eq_true rfl)) dX10_jar_22 ⟨(Nat.le_of_ble_eq_true rfl), (Nat.le_of_ble_eq_true rfl)⟩) hP hD hS hA [] [0, 1, 2, 3, 4] rfl rfl (by decide) (by decide) (fun r15 u13 H locs hw14 hP hD hS => ?_)
      obtain rfl := hw14
      obtain ⟨hP, hD⟩ := z_re (L := [(x0, .inr (10, [.ref w0, .ref z0, .ref xi, .ref xt, .int x_tl, .ref xq, .int x_lc, .ref rdr, .ref h0, .ref t0, .ref q0, .ref v0, .ref m0])), (w0, .inr (9, [.ref tnodes, .ref tpasses, .ref tjars, .ref torders, .ref tfeasts, .ref tway, .int tws, .int tnow, .int tfm, .int tx])), (tnodes, .inr (6, [.int 4, .ref tnodesA, .int tnodesS])), (tjars, .inr (6, [.int 9, .ref tjarsA, .int 16])), (tjarsA, .inl (kA 0, 144, .inl tjarsF))]) hP hD
      refine lv_if_eq (tgt := 32) hx hb dX10_jar_25 (by decide) (fun c_16 => ?_) (fun c_16 => ?_)
      · refine lv_iconst (v := 0) hx hb dX10_jar_32 (by decide) ?_
        refine lv_istore (lv' := [(6, .int 0), (0, .ref x0), (1, .int p0), (2, .int p1), (3, .int p2), (4, .int p3), (5, .int p4)]) hx hb dX10_jar_33 hl (by decide) rfl (fun ls hl => ?_)
        refine lv_iload hx hb dX10_jar_35 (lv_at hl 0 rfl) ?_
        refine lv_if_eq (tgt := 67) hx hb dX10_jar_37 (by decide) (fun _ => ?_) (fun c_17 => absurd (by decide) c_17)
        refine lv_iconst (v := (-1)) hx hb dX10_jar_67 (by decide) ?_
        refine lv_istore (lv' := [(7, .int (-1)), (6, .int 0), (0, .ref x0), (1, .int p0), (2, .int p1), (3, .int p2), (4, .int p3), (5, .int p4)]) hx hb dX10_jar_68 hl (by decide) rfl (fun ls hl => ?_)
        refine lv_iload hx hb dX10_jar_70 (lv_at hl 0 rfl) ?_
        refine lv_iconst (v := (-1)) hx hb dX10_jar_72 (by decide) ?_
        refine lv_icmp_eq (tgt := 161) hx hb dX10_jar_73 (by decide) (fun _ => ?_) (fun c_18 => absurd (by decide) c_18)
        refine lv_iload hx hb dX10_jar_161 (lv_at hl 0 rfl) ?_
        obtain ⟨hP9, hD9⟩ := z_sb (L' := [(x0, .inr (10, [.ref w0, .ref z0, .ref xi, .ref xt, .int x_tl, .ref xq, .int x_lc, .ref rdr, .ref h0, .ref t0, .ref q0, .ref v0, .ref m0])), (w0, .inr (9, [.ref tnodes, .ref tpasses, .ref tjars, .ref torders, .ref tfeasts, .ref tway, .int tws, .int tnow, .int tfm, .int tx])), (tnodes, .inr (6, [.int 4, .ref tnodesA, .int tnodesS])), (tjars, .inr (6, [.int 9, .ref tjarsA, .int 16])), (tjarsA, .inl (kA 0, 144, .inl tjarsF))]) hP hD [0, 1, 2, 3, 4] (by decide) rfl
        refine W.widen (k := 0) (n := 0) (Nat.le_of_ble_eq_true rfl) (Nat.le_of_ble_eq_true rfl) ?_
        exact W.iret (v := (-1)) hx hb hr (fun t ht hW => ⟨⟨(-1), (), rfl, rfl, by rw [ht]; exact hP9, hD9⟩, hS.F ht⟩) hS.2.2 dX10_jar_163
      · have c_16a := wi_ne c_16
        have c_16b := c_16a.2
        have c_16a := c_16a.1
        refine lv_iconst (v := 1) hx hb dX10_jar_28 (by decide) ?_
        refine lv_goto (tgt := 33) hx hb dX10_jar_29 (by decide) ?_
        refine lv_istore (lv' := [(6, .int 1), (0, .ref x0), (1, .int p0), (2, .int p1), (3, .int p2), (4, .int p3), (5, .int p4)]) hx hb dX10_jar_33 hl (by decide) rfl (fun ls hl => ?_)
        refine lv_iload hx hb dX10_jar_35 (lv_at hl 0 rfl) ?_
        refine lv_if_eq (tgt := 67) hx hb dX10_jar_37 (by decide) (fun c_19 => absurd c_19 (by decide)) (fun _ => ?_)
        refine lv_aload_n hx hb dX10_jar_40 rfl (lv_at hl 1 rfl) ?_
        refine va_get (D := (dC, dI)) (ci := 10) (v := .ref w0) (C := RX10) (T := TX10) (N := 13) hx hb hts iX10_jar_X10 hown hK.1 hP 0 gz0 vcz10 0 (by decide) (kX10_jar_1 hts) (fun _ h9 => h9) gz0 dX10_jar_41 ?_
        refine va_get (D := (dC, dI)) (ci := 9) (v := .ref tnodes) (C := RX9) (T := TX9) (N := 10) hx hb hts iX10_jar_X9 hown hK.1 hP 1 gz1 vcz9 0 (by decide) (kX10_jar_2 hts) (fun _ h9 => h9) gz0 dX10_jar_44 ?_
        refine lv_iload_n hx hb dX10_jar_47 rfl (lv_at hl 2 rfl) ?_
        refine z_i (wr := [(x0, .inr (10, [.ref w0, .ref z0, .ref xi, .ref xt, .int x_tl, .ref xq, .int x_lc, .ref rdr, .ref h0, .ref t0, .ref q0, .ref v0, .ref m0])), (w0, .inr (9, [.ref tnodes, .ref tpasses, .ref tjars, .ref torders, .ref tfeasts, .ref tway, .int tws, .int tnow, .int tfm, .int tx])), (tjars, .inr (6, [.int 9, .ref tjarsA, .int 16])), (tjarsA, .inl (kA 0, 144, .inl tjarsF))]) (va_runV (As := [.int p0]) (rest := []) ⟨hx, hb, hml, hown, hts⟩ (mX6_has l dC dI kA _ tnodes tnodesA 4 tnodesS p0) (cwV 1 hts gX10_jar_X6_has rfl rfl rfl ⟨rfl, hdX6_has⟩ ⟨(Nat.le_of_ble_eq_true rfl), (Nat.le_of_ble_eq_true rfl)⟩) ⟨zPc.blind, va_recv (q := (RX6, TX6, 3)) hK.1 hP (ci := 6) (q0 := 2) rfl rfl, zPre hK (hP.sub [2] rfl) (hD.sub [2] (by decide) rfl)⟩ rfl rfl hl.1 rfl (lv_room (Nat.le_of_ble_eq_true rfl)) dX10_jar_48 ⟨(Nat.le_of_ble_eq_true rfl), (Nat.le_of_ble_eq_true rfl)⟩) hP hD hS hA [2] [0, 1, 3, 4] rfl rfl (by decide) (by decide) (fun r22 u20 H locs hw21 hP hD hS => ?_)
        obtain rfl := hw21
        obtain ⟨hP, hD⟩ := z_re (L := [(x0, .inr (10, [.ref w0, .ref z0, .ref xi, .ref xt, .int x_tl, .ref xq, .int x_lc, .ref rdr, .ref h0, .ref t0, .ref q0, .ref v0, .ref m0])), (w0, .inr (9, [.ref tnodes, .ref tpasses, .ref tjars, .ref torders, .ref tfeasts, .ref tway, .int tws, .int tnow, .int tfm, .int tx])), (tjars, .inr (6, [.int 9, .ref tjarsA, .int 16])), (tjarsA, .inl (kA 0, 144, .inl tjarsF)), (tnodes, .inr (6, [.int 4, .ref tnodesA, .int tnodesS]))]) hP hD
        refine lv_if_eq (tgt := 67) hx hb dX10_jar_51 (by decide) (fun c_23 => ?_) (fun c_23 => ?_)
        · refine lv_iconst (v := (-1)) hx hb dX10_jar_67 (by decide) ?_
          refine lv_istore (lv' := [(7, .int (-1)), (6, .int 1), (0, .ref x0), (1, .int p0), (2, .int p1), (3, .int p2), (4, .int p3), (5, .int p4)]) hx hb dX10_jar_68 hl (by decide) rfl (fun ls hl => ?_)
          refine lv_iload hx hb dX10_jar_70 (lv_at hl 0 rfl) ?_
          refine lv_iconst (v := (-1)) hx hb dX10_jar_72 (by decide) ?_
          refine lv_icmp_eq (tgt := 161) hx hb dX10_jar_73 (by decide) (fun _ => ?_) (fun c_24 => absurd (by decide) c_24)
          refine lv_iload hx hb dX10_jar_161 (lv_at hl 0 rfl) ?_
          obtain ⟨hP9, hD9⟩ := z_sb (L' := [(x0, .inr (10, [.ref w0, .ref z0, .ref xi, .ref xt, .int x_tl, .ref xq, .int x_lc, .ref rdr, .ref h0, .ref t0, .ref q0, .ref v0, .ref m0])), (w0, .inr (9, [.ref tnodes, .ref tpasses, .ref tjars, .ref torders, .ref tfeasts, .ref tway, .int tws, .int tnow, .int tfm, .int tx])), (tnodes, .inr (6, [.int 4, .ref tnodesA, .int tnodesS])), (tjars, .inr (6, [.int 9, .ref tjarsA, .int 16])), (tjarsA, .inl (kA 0, 144, .inl tjarsF))]) hP hD [0, 1, 4, 2, 3] (by decide) rfl
          refine W.widen (k := 0) (n := 0) (Nat.le_of_ble_eq_true rfl) (Nat.le_of_ble_eq_true rfl) ?_
          exact W.iret (v := (-1)) hx hb hr (fun t ht hW => ⟨⟨(-1), (), rfl, rfl, by rw [ht]; exact hP9, hD9⟩, hS.F ht⟩) hS.2.2 dX10_jar_163
        · have c_23a := hs_ne c_23
          have c_23b := c_23a.2
          have c_23a := c_23a.1
          refine lv_aload_n hx hb dX10_jar_54 rfl (lv_at hl 1 rfl) ?_
          refine va_get (D := (dC, dI)) (ci := 10) (v := .ref w0) (C := RX10) (T := TX10) (N := 13) hx hb hts iX10_jar_X10 hown hK.1 hP 0 gz0 vcz10 0 (by decide) (kX10_jar_1 hts) (fun _ h9 => h9) gz0 dX10_jar_55 ?_
          refine va_get (D := (dC, dI)) (ci := 9) (v := .ref tjars) (C := RX9) (T := TX9) (N := 10) hx hb hts iX10_jar_X9 hown hK.1 hP 1 gz1 vcz9 2 (by decide) (kX10_jar_3 hts) (fun _ h9 => h9) gz2 dX10_jar_58 ?_
          refine z_i (wr := [(x0, .inr (10, [.ref w0, .ref z0, .ref xi, .ref xt, .int x_tl, .ref xq, .int x_lc, .ref rdr, .ref h0, .ref t0, .ref q0, .ref v0, .ref m0])), (w0, .inr (9, [.ref tnodes, .ref tpasses, .ref tjars, .ref torders, .ref tfeasts, .ref tway, .int tws, .int tnow, .int tfm, .int tx])), (tnodes, .inr (6, [.int 4, .ref tnodesA, .int tnodesS]))]) (va_runV (As := []) (rest := []) ⟨hx, hb, hml, hown, hts⟩ (mX6_grow_jars_full l dC dI kA _ tjars tjarsA tjarsF) (cwV 0 hts gX10_jar_X6_grow rfl rfl rfl ⟨rfl, hdX6_grow⟩ ⟨(Nat.le_of_ble_eq_true rfl), (Nat.le_of_ble_eq_true rfl)⟩) ⟨zPc.blind, va_recv (q := (RX6, TX6, 3)) hK.1 hP (ci := 6) (q0 := 2) rfl rfl, zPre hK (hP.sub [2, 3] rfl) (hD.sub [2, 3] (by decide) rfl)⟩ rfl rfl hl.1 rfl (lv_room (Nat.le_of_ble_eq_true rfl)) dX10_jar_61 ⟨(Nat.le_of_ble_eq_true rfl), (Nat.le_of_ble_eq_true rfl)⟩) hP hD hS hA [2, 3] [0, 1, 4] rfl rfl (by decide) (by decide) (fun r27 u25 H locs hw26 hP hD hS => ?_)
          obtain rfl := hw26
          obtain ⟨hP, hD⟩ := z_re (L := [(x0, .inr (10, [.ref w0, .ref z0, .ref xi, .ref xt, .int x_tl, .ref xq, .int x_lc, .ref rdr, .ref h0, .ref t0, .ref q0, .ref v0, .ref m0])), (w0, .inr (9, [.ref tnodes, .ref tpasses, .ref tjars, .ref torders, .ref tfeasts, .ref tway, .int tws, .int tnow, .int tfm, .int tx])), (tnodes, .inr (6, [.int 4, .ref tnodesA, .int tnodesS])), (tjars, .inr (6, [.int 9, .ref tjarsA, .int 16])), (tjarsA, .inl (kA 0, 144, .inl tjarsF))]) hP hD
          refine lv_goto (tgt := 68) hx hb dX10_jar_64 (by decide) ?_
          refine lv_istore (lv' := [(7, .int (-1)), (6, .int 1), (0, .ref x0), (1, .int p0), (2, .int p1), (3, .int p2), (4, .int p3), (5, .int p4)]) hx hb dX10_jar_68 hl (by decide) rfl (fun ls hl => ?_)
          refine lv_iload hx hb dX10_jar_70 (lv_at hl 0 rfl) ?_
          refine lv_iconst (v := (-1)) hx hb dX10_jar_72 (by decide) ?_
          refine lv_icmp_eq (tgt := 161) hx hb dX10_jar_73 (by decide) (fun _ => ?_) (fun c_28 => absurd (by decide) c_28)
          refine lv_iload hx hb dX10_jar_161 (lv_at hl 0 rfl) ?_
          obtain ⟨hP9, hD9⟩ := z_sb (L' := [(x0, .inr (10, [.ref w0, .ref z0, .ref xi, .ref xt, .int x_tl, .ref xq, .int x_lc, .ref rdr, .ref h0, .ref t0, .ref q0, .ref v0, .ref m0])), (w0, .inr (9, [.ref tnodes, .ref tpasses, .ref tjars, .ref torders, .ref tfeasts, .ref tway, .int tws, .int tnow, .int tfm, .int tx])), (tnodes, .inr (6, [.int 4, .ref tnodesA, .int tnodesS])), (tjars, .inr (6, [.int 9, .ref tjarsA, .int 16])), (tjarsA, .inl (kA 0, 144, .inl tjarsF))]) hP hD [0, 1, 2, 3, 4] (by decide) rfl
          refine W.widen (k := 0) (n := 0) (Nat.le_of_ble_eq_true rfl) (Nat.le_of_ble_eq_true rfl) ?_
          exact W.iret (v := (-1)) hx hb hr (fun t ht hW => ⟨⟨(-1), (), rfl, rfl, by rw [ht]; exact hP9, hD9⟩, hS.F ht⟩) hS.2.2 dX10_jar_163
set_option maxRecDepth 100000 in
def fX10_order_ok (tnodesS : Int32) (tordersS : Int32) (tordersF : Nat → Int32) (p0 : Int32) (p1 : Int32) (p2 : Int32) (p3 : Int32) : Int32 × (Nat → Int32) := if (wi p1 99999) = 0 then ((tordersS, tordersF)) else (if (wsh p2) = 0 then ((tordersS, tordersF)) else (if (wi p3 9999) = 0 then ((tordersS, tordersF)) else (if (hs p0 tnodesS) = 0 then ((tordersS, tordersF)) else (bnd (fX6_grow_orders_ok tordersS) (fun (o28 : Int32) => bnd (fX6_put_24 4 tordersF tordersS 0 p0) (fun (o37 : Nat → Int32) => bnd (fX6_put_24 4 o37 tordersS 1 p1) (fun (o43 : Nat → Int32) => bnd (fX6_put_24 4 o43 tordersS 2 p2) (fun (o49 : Nat → Int32) => bnd (fX6_put_24 4 o49 tordersS 3 p3) (fun (o55 : Nat → Int32) => (o28, o55))))))))))
set_option maxHeartbeats 4000000 in
set_option maxRecDepth 100000 in
theorem mX10_order_ok (l : Launch) (dC : Nat → ClassId) (dI : Nat → Nat → Nat) (kA : Nat → ClassId) (sz : Nat) (x0 : Nat) (z0 : Nat) (xi : Nat) (xt : Nat) (xq : Nat) (rdr : Nat) (h0 : Nat) (t0 : Nat) (q0 : Nat) (v0 : Nat) (m0 : Nat) (w0 : Nat) (x_tl : Int32) (x_lc : Int32) (tnodes : Nat) (tnodesA : Nat) (tnodesS : Int32) (tpasses : Nat) (tjars : Nat) (torders : Nat) (tordersA : Nat) (tordersS : Int32) (tordersF : Nat → Int32) (tfeasts : Nat) (tway : Nat) (tws : Int32) (tnow : Int32) (tfm : Int32) (tx : Int32) (p0 : Int32) (p1 : Int32) (p2 : Int32) (p3 : Int32) (hz0 : ¬ tordersS < 0) (hz1 : ¬ 6 ≤ tordersS) : Met l yX10_order wsX10_order ({ frames := 1, cells := 0, slots := 0, locals := 24 }) (zPc dC dI kA sz [.ref x0, .int p0, .int p1, .int p2, .int p3] [(x0, .inr (10, [.ref w0, .ref z0, .ref xi, .ref xt, .int x_tl, .ref xq, .int x_lc, .ref rdr, .ref h0, .ref t0, .ref q0, .ref v0, .ref m0])), (w0, .inr (9, [.ref tnodes, .ref tpasses, .ref tjars, .ref torders, .ref tfeasts, .ref tway, .int tws, .int tnow, .int tfm, .int tx])), (tnodes, .inr (6, [.int 4, .ref tnodesA, .int tnodesS])), (torders, .inr (6, [.int 4, .ref tordersA, .int tordersS])), (tordersA, .inl (kA 0, 24, .inl tordersF))]) (va_Qi (fun (r : Int32) (u : Int32 × (Nat → Int32)) => r = (sp_or p0 p1 p2 p3 tnodesS tordersS) ∧ (u.1, u.2) = fX10_order_ok tnodesS tordersS tordersF p0 p1 p2 p3 ∧ u.1 = (sp_orz p0 p1 p2 p3 tnodesS tordersS)) (zB dC dI (va_A [(x0, .inr (10, [.ref w0, .ref z0, .ref xi, .ref xt, .int x_tl, .ref xq, .int x_lc, .ref rdr, .ref h0, .ref t0, .ref q0, .ref v0, .ref m0])), (w0, .inr (9, [.ref tnodes, .ref tpasses, .ref tjars, .ref torders, .ref tfeasts, .ref tway, .int tws, .int tnow, .int tfm, .int tx])), (tnodes, .inr (6, [.int 4, .ref tnodesA, .int tnodesS])), (torders, .inr (6, [.int 4, .ref tordersA, .int tordersS])), (tordersA, .inl (kA 0, 24, .inl tordersF))] sz) (fun (u : Int32 × (Nat → Int32)) => [(x0, .inr (10, [.ref w0, .ref z0, .ref xi, .ref xt, .int x_tl, .ref xq, .int x_lc, .ref rdr, .ref h0, .ref t0, .ref q0, .ref v0, .ref m0])), (w0, .inr (9, [.ref tnodes, .ref tpasses, .ref tjars, .ref torders, .ref tfeasts, .ref tway, .int tws, .int tnow, .int tfm, .int tx])), (tnodes, .inr (6, [.int 4, .ref tnodesA, .int tnodesS])), (torders, .inr (6, [.int 4, .ref tordersA, .int u.1])), (tordersA, .inl (kA 0, 24, .inl u.2))])) (va_A [(x0, .inr (10, [.ref w0, .ref z0, .ref xi, .ref xt, .int x_tl, .ref xq, .int x_lc, .ref rdr, .ref h0, .ref t0, .ref q0, .ref v0, .ref m0])), (w0, .inr (9, [.ref tnodes, .ref tpasses, .ref tjars, .ref torders, .ref tfeasts, .ref tway, .int tws, .int tnow, .int tfm, .int tx])), (tnodes, .inr (6, [.int 4, .ref tnodesA, .int tnodesS])), (torders, .inr (6, [.int 4, .ref tordersA, .int tordersS])), (tordersA, .inl (kA 0, 24, .inl tordersF))] sz)) 0 0 (va_A [(x0, .inr (10, [.ref w0, .ref z0, .ref xi, .ref xt, .int x_tl, .ref xq, .int x_lc, .ref rdr, .ref h0, .ref t0, .ref q0, .ref v0, .ref m0])), (w0, .inr (9, [.ref tnodes, .ref tpasses, .ref tjars, .ref torders, .ref tfeasts, .ref tway, .int tws, .int tnow, .int tfm, .int tx])), (tnodes, .inr (6, [.int 4, .ref tnodesA, .int tnodesS])), (torders, .inr (6, [.int 4, .ref tordersA, .int tordersS])), (tordersA, .inl (kA 0, 24, .inl tordersF))] sz) := by
  refine Met.ofW (cc := cX10_order) (maxL := 7) (ret := (some .int)) pnX10 rfl ?_
  intro p e s m args below meth c s₁ B hml hv
  obtain ⟨rfl, hsz, hP, hK, hD0⟩ := hv
  have hx := B.exec
  have hb := B.bytes
  have hr := B.returns
  have hts := atoms_spec (ws := wsX10_order) B.pre
  have hown : s.vm.findClass RX10 = some m.cls := findClass_of_methodNamed B.named
  have hlocks := B.notSynchronized
  subst hsz
  have hD := hD0.self (sz := s.heap.size)
  generalize hAe : va_A [(x0, .inr (10, [.ref w0, .ref z0, .ref xi, .ref xt, .int x_tl, .ref xq, .int x_lc, .ref rdr, .ref h0, .ref t0, .ref q0, .ref v0, .ref m0])), (w0, .inr (9, [.ref tnodes, .ref tpasses, .ref tjars, .ref torders, .ref tfeasts, .ref tway, .int tws, .int tnow, .int tfm, .int tx])), (tnodes, .inr (6, [.int 4, .ref tnodesA, .int tnodesS])), (torders, .inr (6, [.int 4, .ref tordersA, .int tordersS])), (tordersA, .inl (kA 0, 24, .inl tordersF))] s.heap.size = A at hD ⊢
  have hA : ∀ q : Nat, s.heap.size ≤ q → A q := zA_of hAe
  have hS : va_S A s.heap s.heap [] := va_S.rf
  have hP : va_P (dC, dI) vwCl [(x0, .inr (10, [.ref w0, .ref z0, .ref xi, .ref xt, .int x_tl, .ref xq, .int x_lc, .ref rdr, .ref h0, .ref t0, .ref q0, .ref v0, .ref m0])), (w0, .inr (9, [.ref tnodes, .ref tpasses, .ref tjars, .ref torders, .ref tfeasts, .ref tway, .int tws, .int tnow, .int tfm, .int tx])), (tnodes, .inr (6, [.int 4, .ref tnodesA, .int tnodesS])), (torders, .inr (6, [.int 4, .ref tordersA, .int tordersS])), (tordersA, .inl (kA 0, 24, .inl tordersF))] s.heap := hP
  have hl := lv_entry ([.ref x0, .int p0, .int p1, .int p2, .int p3]) (n := 7) (Nat.le_of_ble_eq_true rfl)
  rw [lg_entry_eq]
  generalize (lg_sl ([.ref x0, .int p0, .int p1, .int p2, .int p3]) ++ List.replicate (7 - (lg_sl ([.ref x0, .int p0, .int p1, .int p2, .int p3])).length) Slot.unset).toArray = ls at hl ⊢
  have hl : lv_has ls 7 [(0, .ref x0), (1, .int p0), (2, .int p1), (3, .int p2), (4, .int p3)] := hl
  obtain ⟨G, hG0⟩ : ∃ G : Int32 × (Nat → Int32), fX10_order_ok tnodesS tordersS tordersF p0 p1 p2 p3 = G := ⟨_, rfl⟩
  have hG := hG0
  unfold fX10_order_ok at hG
  refine lv_iload_n hx hb dX10_order_0 rfl (lv_at hl 2 rfl) ?_
  refine lv_ldc hx hb hown (kX10_order_1 hts) dX10_order_1 ?_
  refine z_i (wr := [(x0, .inr (10, [.ref w0, .ref z0, .ref xi, .ref xt, .int x_tl, .ref xq, .int x_lc, .ref rdr, .ref h0, .ref t0, .ref q0, .ref v0, .ref m0])), (w0, .inr (9, [.ref tnodes, .ref tpasses, .ref tjars, .ref torders, .ref tfeasts, .ref tway, .int tws, .int tnow, .int tfm, .int tx])), (tnodes, .inr (6, [.int 4, .ref tnodesA, .int tnodesS])), (torders, .inr (6, [.int 4, .ref tordersA, .int tordersS])), (tordersA, .inl (kA 0, 24, .inl tordersF))]) (va_runS (As := [.int p1, .int 99999]) (rest := []) ⟨hx, hb, hml, hown, hts⟩ (mX10_within l dC dI kA _ p1 99999) (va_cwS 2 hts gX10_order_X10_within rfl rfl rfl hdX10_within ⟨(Nat.le_of_ble_eq_true rfl), (Nat.le_of_ble_eq_true rfl)⟩) ⟨zPc.blind, zPre hK (hP.sub [] rfl) (hD.sub [] (by decide) rfl)⟩ rfl rfl hl.1 rfl (lv_room (Nat.le_of_ble_eq_true rfl)) dX10_order_3 ⟨(Nat.le_of_ble_eq_true rfl), (Nat.le_of_ble_eq_true rfl)⟩) hP hD hS hA [] [0, 1, 2, 3, 4] rfl rfl (by decide) (by decide) (fun r3 u1 H locs hw2 hP hD hS => ?_)
  obtain rfl := hw2
  obtain ⟨hP, hD⟩ := z_re (L := [(x0, .inr (10, [.ref w0, .ref z0, .ref xi, .ref xt, .int x_tl, .ref xq, .int x_lc, .ref rdr, .ref h0, .ref t0, .ref q0, .ref v0, .ref m0])), (w0, .inr (9, [.ref tnodes, .ref tpasses, .ref tjars, .ref torders, .ref tfeasts, .ref tway, .int tws, .int tnow, .int tfm, .int tx])), (tnodes, .inr (6, [.int 4, .ref tnodesA, .int tnodesS])), (torders, .inr (6, [.int 4, .ref tordersA, .int tordersS])), (tordersA, .inl (kA 0, 24, .inl tordersF))]) hP hD
  refine lv_if_eq (tgt := 31) hx hb dX10_order_6 (by decide) (fun c_4 => ?_) (fun c_4 => ?_)
  · have hG := zthen hG c_4
    refine lv_iconst (v := 0) hx hb dX10_order_31 (by decide) ?_
    refine lv_istore (lv' := [(5, .int 0), (0, .ref x0), (1, .int p0), (2, .int p1), (3, .int p2), (4, .int p3)]) hx hb dX10_order_32 hl (by decide) rfl (fun ls hl => ?_)
    refine lv_iload hx hb dX10_order_34 (lv_at hl 0 rfl) ?_
    refine lv_if_eq (tgt := 66) hx hb dX10_order_36 (by decide) (fun _ => ?_) (fun c_5 => absurd (by decide) c_5)
    refine lv_iconst (v := (-1)) hx hb dX10_order_66 (by decide) ?_
    refine lv_istore (lv' := [(6, .int (-1)), (5, .int 0), (0, .ref x0), (1, .int p0), (2, .int p1), (3, .int p2), (4, .int p3)]) hx hb dX10_order_67 hl (by decide) rfl (fun ls hl => ?_)
    refine lv_iload hx hb dX10_order_69 (lv_at hl 0 rfl) ?_
    refine lv_iconst (v := (-1)) hx hb dX10_order_71 (by decide) ?_
    refine lv_icmp_ne (tgt := 77) hx hb dX10_order_72 (by decide) (fun c_6 => absurd (by decide) c_6) (fun _ => ?_)
    refine lv_iconst (v := (-1)) hx hb dX10_order_75 (by decide) ?_
    obtain ⟨hP9, hD9⟩ := z_sb (L' := [(x0, .inr (10, [.ref w0, .ref z0, .ref xi, .ref xt, .int x_tl, .ref xq, .int x_lc, .ref rdr, .ref h0, .ref t0, .ref q0, .ref v0, .ref m0])), (w0, .inr (9, [.ref tnodes, .ref tpasses, .ref tjars, .ref torders, .ref tfeasts, .ref tway, .int tws, .int tnow, .int tfm, .int tx])), (tnodes, .inr (6, [.int 4, .ref tnodesA, .int tnodesS])), (torders, .inr (6, [.int 4, .ref tordersA, .int tordersS])), (tordersA, .inl (kA 0, 24, .inl tordersF))]) hP hD [0, 1, 2, 3, 4] (by decide) rfl
    refine W.widen (k := 0) (n := 0) (Nat.le_of_ble_eq_true rfl) (Nat.le_of_ble_eq_true rfl) ?_
    exact W.iret (v := (-1)) hx hb hr (fun t ht hW => ⟨⟨(-1), (tordersS, tordersF), rfl, ⟨(by simp [sp_or, c_4, fX6_grow_orders_ok, bnd]), (hG.trans hG0.symm), (by simp [sp_orz, c_4, fX6_grow_orders_ok, bnd])⟩, by rw [ht]; exact hP9, hD9⟩, hS.F ht⟩) hS.2.2 dX10_order_76
  · have hG := zelse hG c_4
    have c_4a := wi_ne c_4
    have c_4b := c_4a.2
    have c_4a := c_4a.1
    refine lv_iload_n hx hb dX10_order_9 rfl (lv_at hl 3 rfl) ?_
    refine z_i (wr := [(x0, .inr (10, [.ref w0, .ref z0, .ref xi, .ref xt, .int x_tl, .ref xq, .int x_lc, .ref rdr, .ref h0, .ref t0, .ref q0, .ref v0, .ref m0])), (w0, .inr (9, [.ref tnodes, .ref tpasses, .ref tjars, .ref torders, .ref tfeasts, .ref tway, .int tws, .int tnow, .int tfm, .int tx])), (tnodes, .inr (6, [.int 4, .ref tnodesA, .int tnodesS])), (torders, .inr (6, [.int 4, .ref tordersA, .int tordersS])), (tordersA, .inl (kA 0, 24, .inl tordersF))]) (va_runS (As := [.int p2]) (rest := []) ⟨hx, hb, hml, hown, hts⟩ (mX10_isWish l dC dI kA _ p2) (va_cwS 1 hts gX10_order_X10_isWish rfl rfl rfl hdX10_isWish ⟨(Nat.le_of_ble_eq_true rfl), (Nat.le_of_ble_eq_true rfl)⟩) ⟨zPc.blind, zPre hK (hP.sub [] rfl) (hD.sub [] (by decide) rfl)⟩ rfl rfl hl.1 rfl (lv_room (Nat.le_of_ble_eq_true rfl)) dX10_order_10 ⟨(Nat.le_of_ble_eq_true rfl), (Nat.le_of_ble_eq_true rfl)⟩) hP hD hS hA [] [0, 1, 2, 3, 4] rfl rfl (by decide) (by decide) (fun r9 u7 H locs hw8 hP hD hS => ?_)
    obtain rfl := hw8
    obtain ⟨hP, hD⟩ := z_re (L := [(x0, .inr (10, [.ref w0, .ref z0, .ref xi, .ref xt, .int x_tl, .ref xq, .int x_lc, .ref rdr, .ref h0, .ref t0, .ref q0, .ref v0, .ref m0])), (w0, .inr (9, [.ref tnodes, .ref tpasses, .ref tjars, .ref torders, .ref tfeasts, .ref tway, .int tws, .int tnow, .int tfm, .int tx])), (tnodes, .inr (6, [.int 4, .ref tnodesA, .int tnodesS])), (torders, .inr (6, [.int 4, .ref tordersA, .int tordersS])), (tordersA, .inl (kA 0, 24, .inl tordersF))]) hP hD
    refine lv_if_eq (tgt := 31) hx hb dX10_order_13 (by decide) (fun c_10 => ?_) (fun c_10 => ?_)
    · have hG := zthen hG c_10
      refine lv_iconst (v := 0) hx hb dX10_order_31 (by decide) ?_
      refine lv_istore (lv' := [(5, .int 0), (0, .ref x0), (1, .int p0), (2, .int p1), (3, .int p2), (4, .int p3)]) hx hb dX10_order_32 hl (by decide) rfl (fun ls hl => ?_)
      refine lv_iload hx hb dX10_order_34 (lv_at hl 0 rfl) ?_
      refine lv_if_eq (tgt := 66) hx hb dX10_order_36 (by decide) (fun _ => ?_) (fun c_11 => absurd (by decide) c_11)
      refine lv_iconst (v := (-1)) hx hb dX10_order_66 (by decide) ?_
      refine lv_istore (lv' := [(6, .int (-1)), (5, .int 0), (0, .ref x0), (1, .int p0), (2, .int p1), (3, .int p2), (4, .int p3)]) hx hb dX10_order_67 hl (by decide) rfl (fun ls hl => ?_)
      refine lv_iload hx hb dX10_order_69 (lv_at hl 0 rfl) ?_
      refine lv_iconst (v := (-1)) hx hb dX10_order_71 (by decide) ?_
      refine lv_icmp_ne (tgt := 77) hx hb dX10_order_72 (by decide) (fun c_12 => absurd (by decide) c_12) (fun _ => ?_)
      refine lv_iconst (v := (-1)) hx hb dX10_order_75 (by decide) ?_
      obtain ⟨hP9, hD9⟩ := z_sb (L' := [(x0, .inr (10, [.ref w0, .ref z0, .ref xi, .ref xt, .int x_tl, .ref xq, .int x_lc, .ref rdr, .ref h0, .ref t0, .ref q0, .ref v0, .ref m0])), (w0, .inr (9, [.ref tnodes, .ref tpasses, .ref tjars, .ref torders, .ref tfeasts, .ref tway, .int tws, .int tnow, .int tfm, .int tx])), (tnodes, .inr (6, [.int 4, .ref tnodesA, .int tnodesS])), (torders, .inr (6, [.int 4, .ref tordersA, .int tordersS])), (tordersA, .inl (kA 0, 24, .inl tordersF))]) hP hD [0, 1, 2, 3, 4] (by decide) rfl
      refine W.widen (k := 0) (n := 0) (Nat.le_of_ble_eq_true rfl) (Nat.le_of_ble_eq_true rfl) ?_
      exact W.iret (v := (-1)) hx hb hr (fun t ht hW => ⟨⟨(-1), (tordersS, tordersF), rfl, ⟨(by simp [sp_or, c_4, c_4a, c_4b, c_10, fX6_grow_orders_ok, bnd]), (hG.trans hG0.symm), (by simp [sp_orz, c_4, c_4a, c_4b, c_10, fX6_grow_orders_ok, bnd])⟩, by rw [ht]; exact hP9, hD9⟩, hS.F ht⟩) hS.2.2 dX10_order_76
    · have hG := zelse hG c_10
      refine lv_iload hx hb dX10_order_16 (lv_at hl 4 rfl) ?_
      refine lv_sipush (v := 9999) hx hb dX10_order_18 (by decide) ?_
      refine z_i (wr := [(x0, .inr (10, [.ref w0, .ref z0, .ref xi, .ref xt, .int x_tl, .ref xq, .int x_lc, .ref rdr, .ref h0, .ref t0, .ref q0, .ref v0, .ref m0])), (w0, .inr (9, [.ref tnodes, .ref tpasses, .ref tjars, .ref torders, .ref tfeasts, .ref tway, .int tws, .int tnow, .int tfm, .int tx])), (tnodes, .inr (6, [.int 4, .ref tnodesA, .int tnodesS])), (torders, .inr (6, [.int 4, .ref tordersA, .int tordersS])), (tordersA, .inl (kA 0, 24, .inl tordersF))]) (va_runS (As := [.int p3, .int 9999]) (rest := []) ⟨hx, hb, hml, hown, hts⟩ (mX10_within l dC dI kA _ p3 9999) (va_cwS 2 hts gX10_order_X10_within rfl rfl rfl hdX10_within ⟨(Nat.le_of_ble_eq_true rfl), (Nat.le_of_ble_eq_true rfl)⟩) ⟨zPc.blind, zPre hK (hP.sub [] rfl) (hD.sub [] (by decide) rfl)⟩ rfl rfl hl.1 rfl (lv_room (Nat.le_of_ble_eq_true rfl)) dX10_order_21 ⟨(Nat.le_of_ble_eq_true rfl), (Nat.le_of_ble_eq_true rfl)⟩) hP hD hS hA [] [0, 1, 2, 3, 4] rfl rfl (by decide) (by decide) (fun r15 u13 H locs hw14 hP hD hS => ?_)
      obtain rfl := hw14
      obtain ⟨hP, hD⟩ := z_re (L := [(x0, .inr (10, [.ref w0, .ref z0, .ref xi, .ref xt, .int x_tl, .ref xq, .int x_lc, .ref rdr, .ref h0, .ref t0, .ref q0, .ref v0, .ref m0])), (w0, .inr (9, [.ref tnodes, .ref tpasses, .ref tjars, .ref torders, .ref tfeasts, .ref tway, .int tws, .int tnow, .int tfm, .int tx])), (tnodes, .inr (6, [.int 4, .ref tnodesA, .int tnodesS])), (torders, .inr (6, [.int 4, .ref tordersA, .int tordersS])), (tordersA, .inl (kA 0, 24, .inl tordersF))]) hP hD
      refine lv_if_eq (tgt := 31) hx hb dX10_order_24 (by decide) (fun c_16 => ?_) (fun c_16 => ?_)
      · have hG := zthen hG c_16
        refine lv_iconst (v := 0) hx hb dX10_order_31 (by decide) ?_
        refine lv_istore (lv' := [(5, .int 0), (0, .ref x0), (1, .int p0), (2, .int p1), (3, .int p2), (4, .int p3)]) hx hb dX10_order_32 hl (by decide) rfl (fun ls hl => ?_)
        refine lv_iload hx hb dX10_order_34 (lv_at hl 0 rfl) ?_
        refine lv_if_eq (tgt := 66) hx hb dX10_order_36 (by decide) (fun _ => ?_) (fun c_17 => absurd (by decide) c_17)
        refine lv_iconst (v := (-1)) hx hb dX10_order_66 (by decide) ?_
        refine lv_istore (lv' := [(6, .int (-1)), (5, .int 0), (0, .ref x0), (1, .int p0), (2, .int p1), (3, .int p2), (4, .int p3)]) hx hb dX10_order_67 hl (by decide) rfl (fun ls hl => ?_)
        refine lv_iload hx hb dX10_order_69 (lv_at hl 0 rfl) ?_
        refine lv_iconst (v := (-1)) hx hb dX10_order_71 (by decide) ?_
        refine lv_icmp_ne (tgt := 77) hx hb dX10_order_72 (by decide) (fun c_18 => absurd (by decide) c_18) (fun _ => ?_)
        refine lv_iconst (v := (-1)) hx hb dX10_order_75 (by decide) ?_
        obtain ⟨hP9, hD9⟩ := z_sb (L' := [(x0, .inr (10, [.ref w0, .ref z0, .ref xi, .ref xt, .int x_tl, .ref xq, .int x_lc, .ref rdr, .ref h0, .ref t0, .ref q0, .ref v0, .ref m0])), (w0, .inr (9, [.ref tnodes, .ref tpasses, .ref tjars, .ref torders, .ref tfeasts, .ref tway, .int tws, .int tnow, .int tfm, .int tx])), (tnodes, .inr (6, [.int 4, .ref tnodesA, .int tnodesS])), (torders, .inr (6, [.int 4, .ref tordersA, .int tordersS])), (tordersA, .inl (kA 0, 24, .inl tordersF))]) hP hD [0, 1, 2, 3, 4] (by decide) rfl
        refine W.widen (k := 0) (n := 0) (Nat.le_of_ble_eq_true rfl) (Nat.le_of_ble_eq_true rfl) ?_
        exact W.iret (v := (-1)) hx hb hr (fun t ht hW => ⟨⟨(-1), (tordersS, tordersF), rfl, ⟨(by simp [sp_or, c_4, c_4a, c_4b, c_10, c_16, fX6_grow_orders_ok, bnd]), (hG.trans hG0.symm), (by simp [sp_orz, c_4, c_4a, c_4b, c_10, c_16, fX6_grow_orders_ok, bnd])⟩, by rw [ht]; exact hP9, hD9⟩, hS.F ht⟩) hS.2.2 dX10_order_76
      · have hG := zelse hG c_16
        have c_16a := wi_ne c_16
        have c_16b := c_16a.2
        have c_16a := c_16a.1
        refine lv_iconst (v := 1) hx hb dX10_order_27 (by decide) ?_
        refine lv_goto (tgt := 32) hx hb dX10_order_28 (by decide) ?_
        refine lv_istore (lv' := [(5, .int 1), (0, .ref x0), (1, .int p0), (2, .int p1), (3, .int p2), (4, .int p3)]) hx hb dX10_order_32 hl (by decide) rfl (fun ls hl => ?_)
        refine lv_iload hx hb dX10_order_34 (lv_at hl 0 rfl) ?_
        refine lv_if_eq (tgt := 66) hx hb dX10_order_36 (by decide) (fun c_19 => absurd c_19 (by decide)) (fun _ => ?_)
        refine lv_aload_n hx hb dX10_order_39 rfl (lv_at hl 1 rfl) ?_
        refine va_get (D := (dC, dI)) (ci := 10) (v := .ref w0) (C := RX10) (T := TX10) (N := 13) hx hb hts iX10_order_X10 hown hK.1 hP 0 gz0 vcz10 0 (by decide) (kX10_order_2 hts) (fun _ h9 => h9) gz0 dX10_order_40 ?_
        refine va_get (D := (dC, dI)) (ci := 9) (v := .ref tnodes) (C := RX9) (T := TX9) (N := 10) hx hb hts iX10_order_X9 hown hK.1 hP 1 gz1 vcz9 0 (by decide) (kX10_order_3 hts) (fun _ h9 => h9) gz0 dX10_order_43 ?_
        refine lv_iload_n hx hb dX10_order_46 rfl (lv_at hl 2 rfl) ?_
        refine z_i (wr := [(x0, .inr (10, [.ref w0, .ref z0, .ref xi, .ref xt, .int x_tl, .ref xq, .int x_lc, .ref rdr, .ref h0, .ref t0, .ref q0, .ref v0, .ref m0])), (w0, .inr (9, [.ref tnodes, .ref tpasses, .ref tjars, .ref torders, .ref tfeasts, .ref tway, .int tws, .int tnow, .int tfm, .int tx])), (torders, .inr (6, [.int 4, .ref tordersA, .int tordersS])), (tordersA, .inl (kA 0, 24, .inl tordersF))]) (va_runV (As := [.int p0]) (rest := []) ⟨hx, hb, hml, hown, hts⟩ (mX6_has l dC dI kA _ tnodes tnodesA 4 tnodesS p0) (cwV 1 hts gX10_order_X6_has rfl rfl rfl ⟨rfl, hdX6_has⟩ ⟨(Nat.le_of_ble_eq_true rfl), (Nat.le_of_ble_eq_true rfl)⟩) ⟨zPc.blind, va_recv (q := (RX6, TX6, 3)) hK.1 hP (ci := 6) (q0 := 2) rfl rfl, zPre hK (hP.sub [2] rfl) (hD.sub [2] (by decide) rfl)⟩ rfl rfl hl.1 rfl (lv_room (Nat.le_of_ble_eq_true rfl)) dX10_order_47 ⟨(Nat.le_of_ble_eq_true rfl), (Nat.le_of_ble_eq_true rfl)⟩) hP hD hS hA [2] [0, 1, 3, 4] rfl rfl (by decide) (by decide) (fun r22 u20 H locs hw21 hP hD hS => ?_)
        obtain rfl := hw21
        obtain ⟨hP, hD⟩ := z_re (L := [(x0, .inr (10, [.ref w0, .ref z0, .ref xi, .ref xt, .int x_tl, .ref xq, .int x_lc, .ref rdr, .ref h0, .ref t0, .ref q0, .ref v0, .ref m0])), (w0, .inr (9, [.ref tnodes, .ref tpasses, .ref tjars, .ref torders, .ref tfeasts, .ref tway, .int tws, .int tnow, .int tfm, .int tx])), (torders, .inr (6, [.int 4, .ref tordersA, .int tordersS])), (tordersA, .inl (kA 0, 24, .inl tordersF)), (tnodes, .inr (6, [.int 4, .ref tnodesA, .int tnodesS]))]) hP hD
        refine lv_if_eq (tgt := 66) hx hb dX10_order_50 (by decide) (fun c_23 => ?_) (fun c_23 => ?_)
        · have hG := zthen hG c_23
          refine lv_iconst (v := (-1)) hx hb dX10_order_66 (by decide) ?_
          refine lv_istore (lv' := [(6, .int (-1)), (5, .int 1), (0, .ref x0), (1, .int p0), (2, .int p1), (3, .int p2), (4, .int p3)]) hx hb dX10_order_67 hl (by decide) rfl (fun ls hl => ?_)
          refine lv_iload hx hb dX10_order_69 (lv_at hl 0 rfl) ?_
          refine lv_iconst (v := (-1)) hx hb dX10_order_71 (by decide) ?_
          refine lv_icmp_ne (tgt := 77) hx hb dX10_order_72 (by decide) (fun c_24 => absurd (by decide) c_24) (fun _ => ?_)
          refine lv_iconst (v := (-1)) hx hb dX10_order_75 (by decide) ?_
          obtain ⟨hP9, hD9⟩ := z_sb (L' := [(x0, .inr (10, [.ref w0, .ref z0, .ref xi, .ref xt, .int x_tl, .ref xq, .int x_lc, .ref rdr, .ref h0, .ref t0, .ref q0, .ref v0, .ref m0])), (w0, .inr (9, [.ref tnodes, .ref tpasses, .ref tjars, .ref torders, .ref tfeasts, .ref tway, .int tws, .int tnow, .int tfm, .int tx])), (tnodes, .inr (6, [.int 4, .ref tnodesA, .int tnodesS])), (torders, .inr (6, [.int 4, .ref tordersA, .int tordersS])), (tordersA, .inl (kA 0, 24, .inl tordersF))]) hP hD [0, 1, 4, 2, 3] (by decide) rfl
          refine W.widen (k := 0) (n := 0) (Nat.le_of_ble_eq_true rfl) (Nat.le_of_ble_eq_true rfl) ?_
          exact W.iret (v := (-1)) hx hb hr (fun t ht hW => ⟨⟨(-1), (tordersS, tordersF), rfl, ⟨(by simp [sp_or, c_4, c_4a, c_4b, c_10, c_16, c_16a, c_16b, c_23, fX6_grow_orders_ok, bnd]), (hG.trans hG0.symm), (by simp [sp_orz, c_4, c_4a, c_4b, c_10, c_16, c_16a, c_16b, c_23, fX6_grow_orders_ok, bnd])⟩, by rw [ht]; exact hP9, hD9⟩, hS.F ht⟩) hS.2.2 dX10_order_76
        · have hG := zelse hG c_23
          have c_23a := hs_ne c_23
          have c_23b := c_23a.2
          have c_23a := c_23a.1
          refine lv_aload_n hx hb dX10_order_53 rfl (lv_at hl 1 rfl) ?_
          refine va_get (D := (dC, dI)) (ci := 10) (v := .ref w0) (C := RX10) (T := TX10) (N := 13) hx hb hts iX10_order_X10 hown hK.1 hP 0 gz0 vcz10 0 (by decide) (kX10_order_2 hts) (fun _ h9 => h9) gz0 dX10_order_54 ?_
          refine va_get (D := (dC, dI)) (ci := 9) (v := .ref torders) (C := RX9) (T := TX9) (N := 10) hx hb hts iX10_order_X9 hown hK.1 hP 1 gz1 vcz9 3 (by decide) (kX10_order_4 hts) (fun _ h9 => h9) gz3 dX10_order_57 ?_
          refine z_i (wr := [(x0, .inr (10, [.ref w0, .ref z0, .ref xi, .ref xt, .int x_tl, .ref xq, .int x_lc, .ref rdr, .ref h0, .ref t0, .ref q0, .ref v0, .ref m0])), (w0, .inr (9, [.ref tnodes, .ref tpasses, .ref tjars, .ref torders, .ref tfeasts, .ref tway, .int tws, .int tnow, .int tfm, .int tx])), (tnodes, .inr (6, [.int 4, .ref tnodesA, .int tnodesS]))]) (va_runV (As := []) (rest := []) ⟨hx, hb, hml, hown, hts⟩ (mX6_grow_orders_ok l dC dI kA _ torders tordersA tordersS tordersF hz0 hz1) (cwV 0 hts gX10_order_X6_grow rfl rfl rfl ⟨rfl, hdX6_grow⟩ ⟨(Nat.le_of_ble_eq_true rfl), (Nat.le_of_ble_eq_true rfl)⟩) ⟨zPc.blind, va_recv (q := (RX6, TX6, 3)) hK.1 hP (ci := 6) (q0 := 2) rfl rfl, zPre hK (hP.sub [2, 3] rfl) (hD.sub [2, 3] (by decide) rfl)⟩ rfl rfl hl.1 rfl (lv_room (Nat.le_of_ble_eq_true rfl)) dX10_order_60 ⟨(Nat.le_of_ble_eq_true rfl), (Nat.le_of_ble_eq_true rfl)⟩) hP hD hS hA [2, 3] [0, 1, 4] rfl rfl (by decide) (by decide) (fun r27 u25 H locs hw26 hP hD hS => ?_)
          obtain ⟨o28, rfl⟩ : ∃ z, z = u25 := ⟨_, rfl⟩
          obtain ⟨er31, hp29, hp30⟩ := hw26
          have er31 := Eq.symm er31
          subst er31
          have eo28 : o28 = fX6_grow_orders_ok tordersS := hp29
          have hG := zbnd hG eo28
          obtain ⟨hP, hD⟩ := z_re (L := [(x0, .inr (10, [.ref w0, .ref z0, .ref xi, .ref xt, .int x_tl, .ref xq, .int x_lc, .ref rdr, .ref h0, .ref t0, .ref q0, .ref v0, .ref m0])), (w0, .inr (9, [.ref tnodes, .ref tpasses, .ref tjars, .ref torders, .ref tfeasts, .ref tway, .int tws, .int tnow, .int tfm, .int tx])), (tnodes, .inr (6, [.int 4, .ref tnodesA, .int tnodesS])), (torders, .inr (6, [.int 4, .ref tordersA, .int o28])), (tordersA, .inl (kA 0, 24, .inl tordersF))]) hP hD
          refine lv_goto (tgt := 67) hx hb dX10_order_63 (by decide) ?_
          refine lv_istore (lv' := [(6, .int tordersS), (5, .int 1), (0, .ref x0), (1, .int p0), (2, .int p1), (3, .int p2), (4, .int p3)]) hx hb dX10_order_67 hl (by decide) rfl (fun ls hl => ?_)
          refine lv_iload hx hb dX10_order_69 (lv_at hl 0 rfl) ?_
          refine lv_iconst (v := (-1)) hx hb dX10_order_71 (by decide) ?_
          refine lv_icmp_ne (tgt := 77) hx hb dX10_order_72 (by decide) (fun _ => ?_) (fun c_33 => absurd c_33 ((fun q => hz0 (by rw [q]; decide))))
          refine lv_aload_n hx hb dX10_order_77 rfl (lv_at hl 2 rfl) ?_
          refine va_get (D := (dC, dI)) (ci := 10) (v := .ref w0) (C := RX10) (T := TX10) (N := 13) hx hb hts iX10_order_X10 hown hK.1 hP 0 gz0 vcz10 0 (by decide) (kX10_order_2 hts) (fun _ h9 => h9) gz0 dX10_order_78 ?_
          refine va_get (D := (dC, dI)) (ci := 9) (v := .ref torders) (C := RX9) (T := TX9) (N := 10) hx hb hts iX10_order_X9 hown hK.1 hP 1 gz1 vcz9 3 (by decide) (kX10_order_4 hts) (fun _ h9 => h9) gz3 dX10_order_81 ?_
          refine lv_iload hx hb dX10_order_84 (lv_at hl 0 rfl) ?_
          refine lv_iconst (v := 0) hx hb dX10_order_86 (by decide) ?_
          refine lv_iload_n hx hb dX10_order_87 rfl (lv_at hl 3 rfl) ?_
          refine z_v (wr := [(x0, .inr (10, [.ref w0, .ref z0, .ref xi, .ref xt, .int x_tl, .ref xq, .int x_lc, .ref rdr, .ref h0, .ref t0, .ref q0, .ref v0, .ref m0])), (w0, .inr (9, [.ref tnodes, .ref tpasses, .ref tjars, .ref torders, .ref tfeasts, .ref tway, .int tws, .int tnow, .int tfm, .int tx])), (tnodes, .inr (6, [.int 4, .ref tnodesA, .int tnodesS]))]) (va_runV (As := [.int tordersS, .int 0, .int p0]) (rest := []) ⟨hx, hb, hml, hown, hts⟩ (mX6_put_24 l dC dI kA _ torders tordersA 4 o28 tordersF tordersS 0 p0) (cwV 3 hts gX10_order_X6_put rfl rfl rfl ⟨rfl, hdX6_put⟩ ⟨(Nat.le_of_ble_eq_true rfl), (Nat.le_of_ble_eq_true rfl)⟩) ⟨zPc.blind, va_recv (q := (RX6, TX6, 3)) hK.1 hP (ci := 6) (q0 := 3) rfl rfl, zPre hK (hP.sub [3, 4] rfl) (hD.sub [3, 4] (by decide) rfl)⟩ rfl rfl hl.1 rfl (lv_room (Nat.le_of_ble_eq_true rfl)) dX10_order_88 ⟨(Nat.le_of_ble_eq_true rfl), (Nat.le_of_ble_eq_true rfl)⟩) hP hD hS hA [3, 4] [0, 1, 2] rfl rfl (by decide) (by decide) (fun u34 H locs hw35 hP hD hS => ?_)
          obtain ⟨o37, rfl⟩ : ∃ z, z = u34 := ⟨_, rfl⟩
          have hp38 := hw35
          have eo37 : o37 = fX6_put_24 4 tordersF tordersS 0 p0 := hp38
          have hG := zbnd hG eo37
          obtain ⟨hP, hD⟩ := z_re (L := [(x0, .inr (10, [.ref w0, .ref z0, .ref xi, .ref xt, .int x_tl, .ref xq, .int x_lc, .ref rdr, .ref h0, .ref t0, .ref q0, .ref v0, .ref m0])), (w0, .inr (9, [.ref tnodes, .ref tpasses, .ref tjars, .ref torders, .ref tfeasts, .ref tway, .int tws, .int tnow, .int tfm, .int tx])), (tnodes, .inr (6, [.int 4, .ref tnodesA, .int tnodesS])), (torders, .inr (6, [.int 4, .ref tordersA, .int o28])), (tordersA, .inl (kA 0, 24, .inl o37))]) hP hD
          refine lv_aload_n hx hb dX10_order_91 rfl (lv_at hl 2 rfl) ?_
          refine va_get (D := (dC, dI)) (ci := 10) (v := .ref w0) (C := RX10) (T := TX10) (N := 13) hx hb hts iX10_order_X10 hown hK.1 hP 0 gz0 vcz10 0 (by decide) (kX10_order_2 hts) (fun _ h9 => h9) gz0 dX10_order_92 ?_
          refine va_get (D := (dC, dI)) (ci := 9) (v := .ref torders) (C := RX9) (T := TX9) (N := 10) hx hb hts iX10_order_X9 hown hK.1 hP 1 gz1 vcz9 3 (by decide) (kX10_order_4 hts) (fun _ h9 => h9) gz3 dX10_order_95 ?_
          refine lv_iload hx hb dX10_order_98 (lv_at hl 0 rfl) ?_
          refine lv_iconst (v := 1) hx hb dX10_order_100 (by decide) ?_
          refine lv_iload_n hx hb dX10_order_101 rfl (lv_at hl 4 rfl) ?_
          refine z_v (wr := [(x0, .inr (10, [.ref w0, .ref z0, .ref xi, .ref xt, .int x_tl, .ref xq, .int x_lc, .ref rdr, .ref h0, .ref t0, .ref q0, .ref v0, .ref m0])), (w0, .inr (9, [.ref tnodes, .ref tpasses, .ref tjars, .ref torders, .ref tfeasts, .ref tway, .int tws, .int tnow, .int tfm, .int tx])), (tnodes, .inr (6, [.int 4, .ref tnodesA, .int tnodesS]))]) (va_runV (As := [.int tordersS, .int 1, .int p1]) (rest := []) ⟨hx, hb, hml, hown, hts⟩ (mX6_put_24 l dC dI kA _ torders tordersA 4 o28 o37 tordersS 1 p1) (cwV 3 hts gX10_order_X6_put rfl rfl rfl ⟨rfl, hdX6_put⟩ ⟨(Nat.le_of_ble_eq_true rfl), (Nat.le_of_ble_eq_true rfl)⟩) ⟨zPc.blind, va_recv (q := (RX6, TX6, 3)) hK.1 hP (ci := 6) (q0 := 3) rfl rfl, zPre hK (hP.sub [3, 4] rfl) (hD.sub [3, 4] (by decide) rfl)⟩ rfl rfl hl.1 rfl (lv_room (Nat.le_of_ble_eq_true rfl)) dX10_order_102 ⟨(Nat.le_of_ble_eq_true rfl), (Nat.le_of_ble_eq_true rfl)⟩) hP hD hS hA [3, 4] [0, 1, 2] rfl rfl (by decide) (by decide) (fun u40 H locs hw41 hP hD hS => ?_)
          obtain ⟨o43, rfl⟩ : ∃ z, z = u40 := ⟨_, rfl⟩
          have hp44 := hw41
          have eo43 : o43 = fX6_put_24 4 o37 tordersS 1 p1 := hp44
          have hG := zbnd hG eo43
          obtain ⟨hP, hD⟩ := z_re (L := [(x0, .inr (10, [.ref w0, .ref z0, .ref xi, .ref xt, .int x_tl, .ref xq, .int x_lc, .ref rdr, .ref h0, .ref t0, .ref q0, .ref v0, .ref m0])), (w0, .inr (9, [.ref tnodes, .ref tpasses, .ref tjars, .ref torders, .ref tfeasts, .ref tway, .int tws, .int tnow, .int tfm, .int tx])), (tnodes, .inr (6, [.int 4, .ref tnodesA, .int tnodesS])), (torders, .inr (6, [.int 4, .ref tordersA, .int o28])), (tordersA, .inl (kA 0, 24, .inl o43))]) hP hD
          refine lv_aload_n hx hb dX10_order_105 rfl (lv_at hl 2 rfl) ?_
          refine va_get (D := (dC, dI)) (ci := 10) (v := .ref w0) (C := RX10) (T := TX10) (N := 13) hx hb hts iX10_order_X10 hown hK.1 hP 0 gz0 vcz10 0 (by decide) (kX10_order_2 hts) (fun _ h9 => h9) gz0 dX10_order_106 ?_
          refine va_get (D := (dC, dI)) (ci := 9) (v := .ref torders) (C := RX9) (T := TX9) (N := 10) hx hb hts iX10_order_X9 hown hK.1 hP 1 gz1 vcz9 3 (by decide) (kX10_order_4 hts) (fun _ h9 => h9) gz3 dX10_order_109 ?_
          refine lv_iload hx hb dX10_order_112 (lv_at hl 0 rfl) ?_
          refine lv_iconst (v := 2) hx hb dX10_order_114 (by decide) ?_
          refine lv_iload_n hx hb dX10_order_115 rfl (lv_at hl 5 rfl) ?_
          refine z_v (wr := [(x0, .inr (10, [.ref w0, .ref z0, .ref xi, .ref xt, .int x_tl, .ref xq, .int x_lc, .ref rdr, .ref h0, .ref t0, .ref q0, .ref v0, .ref m0])), (w0, .inr (9, [.ref tnodes, .ref tpasses, .ref tjars, .ref torders, .ref tfeasts, .ref tway, .int tws, .int tnow, .int tfm, .int tx])), (tnodes, .inr (6, [.int 4, .ref tnodesA, .int tnodesS]))]) (va_runV (As := [.int tordersS, .int 2, .int p2]) (rest := []) ⟨hx, hb, hml, hown, hts⟩ (mX6_put_24 l dC dI kA _ torders tordersA 4 o28 o43 tordersS 2 p2) (cwV 3 hts gX10_order_X6_put rfl rfl rfl ⟨rfl, hdX6_put⟩ ⟨(Nat.le_of_ble_eq_true rfl), (Nat.le_of_ble_eq_true rfl)⟩) ⟨zPc.blind, va_recv (q := (RX6, TX6, 3)) hK.1 hP (ci := 6) (q0 := 3) rfl rfl, zPre hK (hP.sub [3, 4] rfl) (hD.sub [3, 4] (by decide) rfl)⟩ rfl rfl hl.1 rfl (lv_room (Nat.le_of_ble_eq_true rfl)) dX10_order_116 ⟨(Nat.le_of_ble_eq_true rfl), (Nat.le_of_ble_eq_true rfl)⟩) hP hD hS hA [3, 4] [0, 1, 2] rfl rfl (by decide) (by decide) (fun u46 H locs hw47 hP hD hS => ?_)
          obtain ⟨o49, rfl⟩ : ∃ z, z = u46 := ⟨_, rfl⟩
          have hp50 := hw47
          have eo49 : o49 = fX6_put_24 4 o43 tordersS 2 p2 := hp50
          have hG := zbnd hG eo49
          obtain ⟨hP, hD⟩ := z_re (L := [(x0, .inr (10, [.ref w0, .ref z0, .ref xi, .ref xt, .int x_tl, .ref xq, .int x_lc, .ref rdr, .ref h0, .ref t0, .ref q0, .ref v0, .ref m0])), (w0, .inr (9, [.ref tnodes, .ref tpasses, .ref tjars, .ref torders, .ref tfeasts, .ref tway, .int tws, .int tnow, .int tfm, .int tx])), (tnodes, .inr (6, [.int 4, .ref tnodesA, .int tnodesS])), (torders, .inr (6, [.int 4, .ref tordersA, .int o28])), (tordersA, .inl (kA 0, 24, .inl o49))]) hP hD
          refine lv_aload_n hx hb dX10_order_119 rfl (lv_at hl 2 rfl) ?_
          refine va_get (D := (dC, dI)) (ci := 10) (v := .ref w0) (C := RX10) (T := TX10) (N := 13) hx hb hts iX10_order_X10 hown hK.1 hP 0 gz0 vcz10 0 (by decide) (kX10_order_2 hts) (fun _ h9 => h9) gz0 dX10_order_120 ?_
          refine va_get (D := (dC, dI)) (ci := 9) (v := .ref torders) (C := RX9) (T := TX9) (N := 10) hx hb hts iX10_order_X9 hown hK.1 hP 1 gz1 vcz9 3 (by decide) (kX10_order_4 hts) (fun _ h9 => h9) gz3 dX10_order_123 ?_
          refine lv_iload hx hb dX10_order_126 (lv_at hl 0 rfl) ?_
          refine lv_iconst (v := 3) hx hb dX10_order_128 (by decide) ?_
          refine lv_iload hx hb dX10_order_129 (lv_at hl 6 rfl) ?_
          refine z_v (wr := [(x0, .inr (10, [.ref w0, .ref z0, .ref xi, .ref xt, .int x_tl, .ref xq, .int x_lc, .ref rdr, .ref h0, .ref t0, .ref q0, .ref v0, .ref m0])), (w0, .inr (9, [.ref tnodes, .ref tpasses, .ref tjars, .ref torders, .ref tfeasts, .ref tway, .int tws, .int tnow, .int tfm, .int tx])), (tnodes, .inr (6, [.int 4, .ref tnodesA, .int tnodesS]))]) (va_runV (As := [.int tordersS, .int 3, .int p3]) (rest := []) ⟨hx, hb, hml, hown, hts⟩ (mX6_put_24 l dC dI kA _ torders tordersA 4 o28 o49 tordersS 3 p3) (cwV 3 hts gX10_order_X6_put rfl rfl rfl ⟨rfl, hdX6_put⟩ ⟨(Nat.le_of_ble_eq_true rfl), (Nat.le_of_ble_eq_true rfl)⟩) ⟨zPc.blind, va_recv (q := (RX6, TX6, 3)) hK.1 hP (ci := 6) (q0 := 3) rfl rfl, zPre hK (hP.sub [3, 4] rfl) (hD.sub [3, 4] (by decide) rfl)⟩ rfl rfl hl.1 rfl (lv_room (Nat.le_of_ble_eq_true rfl)) dX10_order_131 ⟨(Nat.le_of_ble_eq_true rfl), (Nat.le_of_ble_eq_true rfl)⟩) hP hD hS hA [3, 4] [0, 1, 2] rfl rfl (by decide) (by decide) (fun u52 H locs hw53 hP hD hS => ?_)
          obtain ⟨o55, rfl⟩ : ∃ z, z = u52 := ⟨_, rfl⟩
          have hp56 := hw53
          have eo55 : o55 = fX6_put_24 4 o49 tordersS 3 p3 := hp56
          have hG := zbnd hG eo55
          obtain ⟨hP, hD⟩ := z_re (L := [(x0, .inr (10, [.ref w0, .ref z0, .ref xi, .ref xt, .int x_tl, .ref xq, .int x_lc, .ref rdr, .ref h0, .ref t0, .ref q0, .ref v0, .ref m0])), (w0, .inr (9, [.ref tnodes, .ref tpasses, .ref tjars, .ref torders, .ref tfeasts, .ref tway, .int tws, .int tnow, .int tfm, .int tx])), (tnodes, .inr (6, [.int 4, .ref tnodesA, .int tnodesS])), (torders, .inr (6, [.int 4, .ref tordersA, .int o28])), (tordersA, .inl (kA 0, 24, .inl o55))]) hP hD
          refine lv_iload hx hb dX10_order_134 (lv_at hl 0 rfl) ?_
          refine lv_iconst (v := 1) hx hb dX10_order_136 (by decide) ?_
          refine lv_iadd hx hb dX10_order_137 ?_
          obtain ⟨hP9, hD9⟩ := z_sb (L' := [(x0, .inr (10, [.ref w0, .ref z0, .ref xi, .ref xt, .int x_tl, .ref xq, .int x_lc, .ref rdr, .ref h0, .ref t0, .ref q0, .ref v0, .ref m0])), (w0, .inr (9, [.ref tnodes, .ref tpasses, .ref tjars, .ref torders, .ref tfeasts, .ref tway, .int tws, .int tnow, .int tfm, .int tx])), (tnodes, .inr (6, [.int 4, .ref tnodesA, .int tnodesS])), (torders, .inr (6, [.int 4, .ref tordersA, .int o28])), (tordersA, .inl (kA 0, 24, .inl o55))]) hP hD [0, 1, 2, 3, 4] (by decide) rfl
          refine W.widen (k := 0) (n := 0) (Nat.le_of_ble_eq_true rfl) (Nat.le_of_ble_eq_true rfl) ?_
          exact W.iret (v := (tordersS + 1)) hx hb hr (fun t ht hW => ⟨⟨(tordersS + 1), (o28, o55), rfl, ⟨(by simp [sp_or, c_4, c_4a, c_4b, c_10, c_16, c_16a, c_16b, c_23, c_23a, c_23b, hp29, hp30, hp38, hp44, hp50, hp56, fX6_grow_orders_ok, bnd]), (hG.trans hG0.symm), (by simp [sp_orz, c_4, c_4a, c_4b, c_10, c_16, c_16a, c_16b, c_23, c_23a, c_23b, hp29, hp30, hp38, hp44, hp50, hp56, fX6_grow_orders_ok, bnd])⟩, by rw [ht]; exact hP9, hD9⟩, hS.F ht⟩) hS.2.2 dX10_order_138
set_option maxHeartbeats 4000000 in
set_option maxRecDepth 100000 in
theorem mX10_order_full (l : Launch) (dC : Nat → ClassId) (dI : Nat → Nat → Nat) (kA : Nat → ClassId) (sz : Nat) (x0 : Nat) (z0 : Nat) (xi : Nat) (xt : Nat) (xq : Nat) (rdr : Nat) (h0 : Nat) (t0 : Nat) (q0 : Nat) (v0 : Nat) (m0 : Nat) (w0 : Nat) (x_tl : Int32) (x_lc : Int32) (tnodes : Nat) (tnodesA : Nat) (tnodesS : Int32) (tpasses : Nat) (tjars : Nat) (torders : Nat) (tordersA : Nat) (tordersF : Nat → Int32) (tfeasts : Nat) (tway : Nat) (tws : Int32) (tnow : Int32) (tfm : Int32) (tx : Int32) (p0 : Int32) (p1 : Int32) (p2 : Int32) (p3 : Int32)  : Met l yX10_order wsX10_order ({ frames := 1, cells := 0, slots := 0, locals := 21 }) (zPc dC dI kA sz [.ref x0, .int p0, .int p1, .int p2, .int p3] [(x0, .inr (10, [.ref w0, .ref z0, .ref xi, .ref xt, .int x_tl, .ref xq, .int x_lc, .ref rdr, .ref h0, .ref t0, .ref q0, .ref v0, .ref m0])), (w0, .inr (9, [.ref tnodes, .ref tpasses, .ref tjars, .ref torders, .ref tfeasts, .ref tway, .int tws, .int tnow, .int tfm, .int tx])), (tnodes, .inr (6, [.int 4, .ref tnodesA, .int tnodesS])), (torders, .inr (6, [.int 4, .ref tordersA, .int 6])), (tordersA, .inl (kA 0, 24, .inl tordersF))]) (va_Qi (fun (r : Int32) (u : Unit) => r = (-1)) (zB dC dI (va_A [(x0, .inr (10, [.ref w0, .ref z0, .ref xi, .ref xt, .int x_tl, .ref xq, .int x_lc, .ref rdr, .ref h0, .ref t0, .ref q0, .ref v0, .ref m0])), (w0, .inr (9, [.ref tnodes, .ref tpasses, .ref tjars, .ref torders, .ref tfeasts, .ref tway, .int tws, .int tnow, .int tfm, .int tx])), (tnodes, .inr (6, [.int 4, .ref tnodesA, .int tnodesS])), (torders, .inr (6, [.int 4, .ref tordersA, .int 6])), (tordersA, .inl (kA 0, 24, .inl tordersF))] sz) (fun (u : Unit) => [(x0, .inr (10, [.ref w0, .ref z0, .ref xi, .ref xt, .int x_tl, .ref xq, .int x_lc, .ref rdr, .ref h0, .ref t0, .ref q0, .ref v0, .ref m0])), (w0, .inr (9, [.ref tnodes, .ref tpasses, .ref tjars, .ref torders, .ref tfeasts, .ref tway, .int tws, .int tnow, .int tfm, .int tx])), (tnodes, .inr (6, [.int 4, .ref tnodesA, .int tnodesS])), (torders, .inr (6, [.int 4, .ref tordersA, .int 6])), (tordersA, .inl (kA 0, 24, .inl tordersF))])) (va_A [(x0, .inr (10, [.ref w0, .ref z0, .ref xi, .ref xt, .int x_tl, .ref xq, .int x_lc, .ref rdr, .ref h0, .ref t0, .ref q0, .ref v0, .ref m0])), (w0, .inr (9, [.ref tnodes, .ref tpasses, .ref tjars, .ref torders, .ref tfeasts, .ref tway, .int tws, .int tnow, .int tfm, .int tx])), (tnodes, .inr (6, [.int 4, .ref tnodesA, .int tnodesS])), (torders, .inr (6, [.int 4, .ref tordersA, .int 6])), (tordersA, .inl (kA 0, 24, .inl tordersF))] sz)) 0 0 (va_A [(x0, .inr (10, [.ref w0, .ref z0, .ref xi, .ref xt, .int x_tl, .ref xq, .int x_lc, .ref rdr, .ref h0, .ref t0, .ref q0, .ref v0, .ref m0])), (w0, .inr (9, [.ref tnodes, .ref tpasses, .ref tjars, .ref torders, .ref tfeasts, .ref tway, .int tws, .int tnow, .int tfm, .int tx])), (tnodes, .inr (6, [.int 4, .ref tnodesA, .int tnodesS])), (torders, .inr (6, [.int 4, .ref tordersA, .int 6])), (tordersA, .inl (kA 0, 24, .inl tordersF))] sz) := by
  refine Met.ofW (cc := cX10_order) (maxL := 7) (ret := (some .int)) pnX10 rfl ?_
  intro p e s m args below meth c s₁ B hml hv
  obtain ⟨rfl, hsz, hP, hK, hD0⟩ := hv
  have hx := B.exec
  have hb := B.bytes
  have hr := B.returns
  have hts := atoms_spec (ws := wsX10_order) B.pre
  have hown : s.vm.findClass RX10 = some m.cls := findClass_of_methodNamed B.named
  have hlocks := B.notSynchronized
  subst hsz
  have hD := hD0.self (sz := s.heap.size)
  generalize hAe : va_A [(x0, .inr (10, [.ref w0, .ref z0, .ref xi, .ref xt, .int x_tl, .ref xq, .int x_lc, .ref rdr, .ref h0, .ref t0, .ref q0, .ref v0, .ref m0])), (w0, .inr (9, [.ref tnodes, .ref tpasses, .ref tjars, .ref torders, .ref tfeasts, .ref tway, .int tws, .int tnow, .int tfm, .int tx])), (tnodes, .inr (6, [.int 4, .ref tnodesA, .int tnodesS])), (torders, .inr (6, [.int 4, .ref tordersA, .int 6])), (tordersA, .inl (kA 0, 24, .inl tordersF))] s.heap.size = A at hD ⊢
  have hA : ∀ q : Nat, s.heap.size ≤ q → A q := zA_of hAe
  have hS : va_S A s.heap s.heap [] := va_S.rf
  have hP : va_P (dC, dI) vwCl [(x0, .inr (10, [.ref w0, .ref z0, .ref xi, .ref xt, .int x_tl, .ref xq, .int x_lc, .ref rdr, .ref h0, .ref t0, .ref q0, .ref v0, .ref m0])), (w0, .inr (9, [.ref tnodes, .ref tpasses, .ref tjars, .ref torders, .ref tfeasts, .ref tway, .int tws, .int tnow, .int tfm, .int tx])), (tnodes, .inr (6, [.int 4, .ref tnodesA, .int tnodesS])), (torders, .inr (6, [.int 4, .ref tordersA, .int 6])), (tordersA, .inl (kA 0, 24, .inl tordersF))] s.heap := hP
  have hl := lv_entry ([.ref x0, .int p0, .int p1, .int p2, .int p3]) (n := 7) (Nat.le_of_ble_eq_true rfl)
  rw [lg_entry_eq]
  generalize (lg_sl ([.ref x0, .int p0, .int p1, .int p2, .int p3]) ++ List.replicate (7 - (lg_sl ([.ref x0, .int p0, .int p1, .int p2, .int p3])).length) Slot.unset).toArray = ls at hl ⊢
  have hl : lv_has ls 7 [(0, .ref x0), (1, .int p0), (2, .int p1), (3, .int p2), (4, .int p3)] := hl
  refine lv_iload_n hx hb dX10_order_0 rfl (lv_at hl 2 rfl) ?_
  refine lv_ldc hx hb hown (kX10_order_1 hts) dX10_order_1 ?_
  refine z_i (wr := [(x0, .inr (10, [.ref w0, .ref z0, .ref xi, .ref xt, .int x_tl, .ref xq, .int x_lc, .ref rdr, .ref h0, .ref t0, .ref q0, .ref v0, .ref m0])), (w0, .inr (9, [.ref tnodes, .ref tpasses, .ref tjars, .ref torders, .ref tfeasts, .ref tway, .int tws, .int tnow, .int tfm, .int tx])), (tnodes, .inr (6, [.int 4, .ref tnodesA, .int tnodesS])), (torders, .inr (6, [.int 4, .ref tordersA, .int 6])), (tordersA, .inl (kA 0, 24, .inl tordersF))]) (va_runS (As := [.int p1, .int 99999]) (rest := []) ⟨hx, hb, hml, hown, hts⟩ (mX10_within l dC dI kA _ p1 99999) (va_cwS 2 hts gX10_order_X10_within rfl rfl rfl hdX10_within ⟨(Nat.le_of_ble_eq_true rfl), (Nat.le_of_ble_eq_true rfl)⟩) ⟨zPc.blind, zPre hK (hP.sub [] rfl) (hD.sub [] (by decide) rfl)⟩ rfl rfl hl.1 rfl (lv_room (Nat.le_of_ble_eq_true rfl)) dX10_order_3 ⟨(Nat.le_of_ble_eq_true rfl), (Nat.le_of_ble_eq_true rfl)⟩) hP hD hS hA [] [0, 1, 2, 3, 4] rfl rfl (by decide) (by decide) (fun r3 u1 H locs hw2 hP hD hS => ?_)
  obtain rfl := hw2
  obtain ⟨hP, hD⟩ := z_re (L := [(x0, .inr (10, [.ref w0, .ref z0, .ref xi, .ref xt, .int x_tl, .ref xq, .int x_lc, .ref rdr, .ref h0, .ref t0, .ref q0, .ref v0, .ref m0])), (w0, .inr (9, [.ref tnodes, .ref tpasses, .ref tjars, .ref torders, .ref tfeasts, .ref tway, .int tws, .int tnow, .int tfm, .int tx])), (tnodes, .inr (6, [.int 4, .ref tnodesA, .int tnodesS])), (torders, .inr (6, [.int 4, .ref tordersA, .int 6])), (tordersA, .inl (kA 0, 24, .inl tordersF))]) hP hD
  refine lv_if_eq (tgt := 31) hx hb dX10_order_6 (by decide) (fun c_4 => ?_) (fun c_4 => ?_)
  · refine lv_iconst (v := 0) hx hb dX10_order_31 (by decide) ?_
    refine lv_istore (lv' := [(5, .int 0), (0, .ref x0), (1, .int p0), (2, .int p1), (3, .int p2), (4, .int p3)]) hx hb dX10_order_32 hl (by decide) rfl (fun ls hl => ?_)
    refine lv_iload hx hb dX10_order_34 (lv_at hl 0 rfl) ?_
    refine lv_if_eq (tgt := 66) hx hb dX10_order_36 (by decide) (fun _ => ?_) (fun c_5 => absurd (by decide) c_5)
    refine lv_iconst (v := (-1)) hx hb dX10_order_66 (by decide) ?_
    refine lv_istore (lv' := [(6, .int (-1)), (5, .int 0), (0, .ref x0), (1, .int p0), (2, .int p1), (3, .int p2), (4, .int p3)]) hx hb dX10_order_67 hl (by decide) rfl (fun ls hl => ?_)
    refine lv_iload hx hb dX10_order_69 (lv_at hl 0 rfl) ?_
    refine lv_iconst (v := (-1)) hx hb dX10_order_71 (by decide) ?_
    refine lv_icmp_ne (tgt := 77) hx hb dX10_order_72 (by decide) (fun c_6 => absurd (by decide) c_6) (fun _ => ?_)
    refine lv_iconst (v := (-1)) hx hb dX10_order_75 (by decide) ?_
    obtain ⟨hP9, hD9⟩ := z_sb (L' := [(x0, .inr (10, [.ref w0, .ref z0, .ref xi, .ref xt, .int x_tl, .ref xq, .int x_lc, .ref rdr, .ref h0, .ref t0, .ref q0, .ref v0, .ref m0])), (w0, .inr (9, [.ref tnodes, .ref tpasses, .ref tjars, .ref torders, .ref tfeasts, .ref tway, .int tws, .int tnow, .int tfm, .int tx])), (tnodes, .inr (6, [.int 4, .ref tnodesA, .int tnodesS])), (torders, .inr (6, [.int 4, .ref tordersA, .int 6])), (tordersA, .inl (kA 0, 24, .inl tordersF))]) hP hD [0, 1, 2, 3, 4] (by decide) rfl
    refine W.widen (k := 0) (n := 0) (Nat.le_of_ble_eq_true rfl) (Nat.le_of_ble_eq_true rfl) ?_
    exact W.iret (v := (-1)) hx hb hr (fun t ht hW => ⟨⟨(-1), (), rfl, rfl, by rw [ht]; exact hP9, hD9⟩, hS.F ht⟩) hS.2.2 dX10_order_76
  · have c_4a := wi_ne c_4
    have c_4b := c_4a.2
    have c_4a := c_4a.1
    refine lv_iload_n hx hb dX10_order_9 rfl (lv_at hl 3 rfl) ?_
    refine z_i (wr := [(x0, .inr (10, [.ref w0, .ref z0, .ref xi, .ref xt, .int x_tl, .ref xq, .int x_lc, .ref rdr, .ref h0, .ref t0, .ref q0, .ref v0, .ref m0])), (w0, .inr (9, [.ref tnodes, .ref tpasses, .ref tjars, .ref torders, .ref tfeasts, .ref tway, .int tws, .int tnow, .int tfm, .int tx])), (tnodes, .inr (6, [.int 4, .ref tnodesA, .int tnodesS])), (torders, .inr (6, [.int 4, .ref tordersA, .int 6])), (tordersA, .inl (kA 0, 24, .inl tordersF))]) (va_runS (As := [.int p2]) (rest := []) ⟨hx, hb, hml, hown, hts⟩ (mX10_isWish l dC dI kA _ p2) (va_cwS 1 hts gX10_order_X10_isWish rfl rfl rfl hdX10_isWish ⟨(Nat.le_of_ble_eq_true rfl), (Nat.le_of_ble_eq_true rfl)⟩) ⟨zPc.blind, zPre hK (hP.sub [] rfl) (hD.sub [] (by decide) rfl)⟩ rfl rfl hl.1 rfl (lv_room (Nat.le_of_ble_eq_true rfl)) dX10_order_10 ⟨(Nat.le_of_ble_eq_true rfl), (Nat.le_of_ble_eq_true rfl)⟩) hP hD hS hA [] [0, 1, 2, 3, 4] rfl rfl (by decide) (by decide) (fun r9 u7 H locs hw8 hP hD hS => ?_)
    obtain rfl := hw8
    obtain ⟨hP, hD⟩ := z_re (L := [(x0, .inr (10, [.ref w0, .ref z0, .ref xi, .ref xt, .int x_tl, .ref xq, .int x_lc, .ref rdr, .ref h0, .ref t0, .ref q0, .ref v0, .ref m0])), (w0, .inr (9, [.ref tnodes, .ref tpasses, .ref tjars, .ref torders, .ref tfeasts, .ref tway, .int tws, .int tnow, .int tfm, .int tx])), (tnodes, .inr (6, [.int 4, .ref tnodesA, .int tnodesS])), (torders, .inr (6, [.int 4, .ref tordersA, .int 6])), (tordersA, .inl (kA 0, 24, .inl tordersF))]) hP hD
    refine lv_if_eq (tgt := 31) hx hb dX10_order_13 (by decide) (fun c_10 => ?_) (fun c_10 => ?_)
    · refine lv_iconst (v := 0) hx hb dX10_order_31 (by decide) ?_
      refine lv_istore (lv' := [(5, .int 0), (0, .ref x0), (1, .int p0), (2, .int p1), (3, .int p2), (4, .int p3)]) hx hb dX10_order_32 hl (by decide) rfl (fun ls hl => ?_)
      refine lv_iload hx hb dX10_order_34 (lv_at hl 0 rfl) ?_
      refine lv_if_eq (tgt := 66) hx hb dX10_order_36 (by decide) (fun _ => ?_) (fun c_11 => absurd (by decide) c_11)
      refine lv_iconst (v := (-1)) hx hb dX10_order_66 (by decide) ?_
      refine lv_istore (lv' := [(6, .int (-1)), (5, .int 0), (0, .ref x0), (1, .int p0), (2, .int p1), (3, .int p2), (4, .int p3)]) hx hb dX10_order_67 hl (by decide) rfl (fun ls hl => ?_)
      refine lv_iload hx hb dX10_order_69 (lv_at hl 0 rfl) ?_
      refine lv_iconst (v := (-1)) hx hb dX10_order_71 (by decide) ?_
      refine lv_icmp_ne (tgt := 77) hx hb dX10_order_72 (by decide) (fun c_12 => absurd (by decide) c_12) (fun _ => ?_)
      refine lv_iconst (v := (-1)) hx hb dX10_order_75 (by decide) ?_
      obtain ⟨hP9, hD9⟩ := z_sb (L' := [(x0, .inr (10, [.ref w0, .ref z0, .ref xi, .ref xt, .int x_tl, .ref xq, .int x_lc, .ref rdr, .ref h0, .ref t0, .ref q0, .ref v0, .ref m0])), (w0, .inr (9, [.ref tnodes, .ref tpasses, .ref tjars, .ref torders, .ref tfeasts, .ref tway, .int tws, .int tnow, .int tfm, .int tx])), (tnodes, .inr (6, [.int 4, .ref tnodesA, .int tnodesS])), (torders, .inr (6, [.int 4, .ref tordersA, .int 6])), (tordersA, .inl (kA 0, 24, .inl tordersF))]) hP hD [0, 1, 2, 3, 4] (by decide) rfl
      refine W.widen (k := 0) (n := 0) (Nat.le_of_ble_eq_true rfl) (Nat.le_of_ble_eq_true rfl) ?_
      exact W.iret (v := (-1)) hx hb hr (fun t ht hW => ⟨⟨(-1), (), rfl, rfl, by rw [ht]; exact hP9, hD9⟩, hS.F ht⟩) hS.2.2 dX10_order_76
    · refine lv_iload hx hb dX10_order_16 (lv_at hl 4 rfl) ?_
      refine lv_sipush (v := 9999) hx hb dX10_order_18 (by decide) ?_
      refine z_i (wr := [(x0, .inr (10, [.ref w0, .ref z0, .ref xi, .ref xt, .int x_tl, .ref xq, .int x_lc, .ref rdr, .ref h0, .ref t0, .ref q0, .ref v0, .ref m0])), (w0, .inr (9, [.ref tnodes, .ref tpasses, .ref tjars, .ref torders, .ref tfeasts, .ref tway, .int tws, .int tnow, .int tfm, .int tx])), (tnodes, .inr (6, [.int 4, .ref tnodesA, .int tnodesS])), (torders, .inr (6, [.int 4, .ref tordersA, .int 6])), (tordersA, .inl (kA 0, 24, .inl tordersF))]) (va_runS (As := [.int p3, .int 9999]) (rest := []) ⟨hx, hb, hml, hown, hts⟩ (mX10_within l dC dI kA _ p3 9999) (va_cwS 2 hts gX10_order_X10_within rfl rfl rfl hdX10_within ⟨(Nat.le_of_ble_eq_true rfl), (Nat.le_of_ble_eq_true rfl)⟩) ⟨zPc.blind, zPre hK (hP.sub [] rfl) (hD.sub [] (by decide) rfl)⟩ rfl rfl hl.1 rfl (lv_room (Nat.le_of_ble_eq_true rfl)) dX10_order_21 ⟨(Nat.le_of_ble_eq_true rfl), (Nat.le_of_ble_eq_true rfl)⟩) hP hD hS hA [] [0, 1, 2, 3, 4] rfl rfl (by decide) (by decide) (fun r15 u13 H locs hw14 hP hD hS => ?_)
      obtain rfl := hw14
      obtain ⟨hP, hD⟩ := z_re (L := [(x0, .inr (10, [.ref w0, .ref z0, .ref xi, .ref xt, .int x_tl, .ref xq, .int x_lc, .ref rdr, .ref h0, .ref t0, .ref q0, .ref v0, .ref m0])), (w0, .inr (9, [.ref tnodes, .ref tpasses, .ref tjars, .ref torders, .ref tfeasts, .ref tway, .int tws, .int tnow, .int tfm, .int tx])), (tnodes, .inr (6, [.int 4, .ref tnodesA, .int tnodesS])), (torders, .inr (6, [.int 4, .ref tordersA, .int 6])), (tordersA, .inl (kA 0, 24, .inl tordersF))]) hP hD
      refine lv_if_eq (tgt := 31) hx hb dX10_order_24 (by decide) (fun c_16 => ?_) (fun c_16 => ?_)
      · refine lv_iconst (v := 0) hx hb dX10_order_31 (by decide) ?_
        refine lv_istore (lv' := [(5, .int 0), (0, .ref x0), (1, .int p0), (2, .int p1), (3, .int p2), (4, .int p3)]) hx hb dX10_order_32 hl (by decide) rfl (fun ls hl => ?_)
        refine lv_iload hx hb dX10_order_34 (lv_at hl 0 rfl) ?_
        refine lv_if_eq (tgt := 66) hx hb dX10_order_36 (by decide) (fun _ => ?_) (fun c_17 => absurd (by decide) c_17)
        refine lv_iconst (v := (-1)) hx hb dX10_order_66 (by decide) ?_
        refine lv_istore (lv' := [(6, .int (-1)), (5, .int 0), (0, .ref x0), (1, .int p0), (2, .int p1), (3, .int p2), (4, .int p3)]) hx hb dX10_order_67 hl (by decide) rfl (fun ls hl => ?_)
        refine lv_iload hx hb dX10_order_69 (lv_at hl 0 rfl) ?_
        refine lv_iconst (v := (-1)) hx hb dX10_order_71 (by decide) ?_
        refine lv_icmp_ne (tgt := 77) hx hb dX10_order_72 (by decide) (fun c_18 => absurd (by decide) c_18) (fun _ => ?_)
        refine lv_iconst (v := (-1)) hx hb dX10_order_75 (by decide) ?_
        obtain ⟨hP9, hD9⟩ := z_sb (L' := [(x0, .inr (10, [.ref w0, .ref z0, .ref xi, .ref xt, .int x_tl, .ref xq, .int x_lc, .ref rdr, .ref h0, .ref t0, .ref q0, .ref v0, .ref m0])), (w0, .inr (9, [.ref tnodes, .ref tpasses, .ref tjars, .ref torders, .ref tfeasts, .ref tway, .int tws, .int tnow, .int tfm, .int tx])), (tnodes, .inr (6, [.int 4, .ref tnodesA, .int tnodesS])), (torders, .inr (6, [.int 4, .ref tordersA, .int 6])), (tordersA, .inl (kA 0, 24, .inl tordersF))]) hP hD [0, 1, 2, 3, 4] (by decide) rfl
        refine W.widen (k := 0) (n := 0) (Nat.le_of_ble_eq_true rfl) (Nat.le_of_ble_eq_true rfl) ?_
        exact W.iret (v := (-1)) hx hb hr (fun t ht hW => ⟨⟨(-1), (), rfl, rfl, by rw [ht]; exact hP9, hD9⟩, hS.F ht⟩) hS.2.2 dX10_order_76
      · have c_16a := wi_ne c_16
        have c_16b := c_16a.2
        have c_16a := c_16a.1
        refine lv_iconst (v := 1) hx hb dX10_order_27 (by decide) ?_
        refine lv_goto (tgt := 32) hx hb dX10_order_28 (by decide) ?_
        refine lv_istore (lv' := [(5, .int 1), (0, .ref x0), (1, .int p0), (2, .int p1), (3, .int p2), (4, .int p3)]) hx hb dX10_order_32 hl (by decide) rfl (fun ls hl => ?_)
        refine lv_iload hx hb dX10_order_34 (lv_at hl 0 rfl) ?_
        refine lv_if_eq (tgt := 66) hx hb dX10_order_36 (by decide) (fun c_19 => absurd c_19 (by decide)) (fun _ => ?_)
        refine lv_aload_n hx hb dX10_order_39 rfl (lv_at hl 1 rfl) ?_
        refine va_get (D := (dC, dI)) (ci := 10) (v := .ref w0) (C := RX10) (T := TX10) (N := 13) hx hb hts iX10_order_X10 hown hK.1 hP 0 gz0 vcz10 0 (by decide) (kX10_order_2 hts) (fun _ h9 => h9) gz0 dX10_order_40 ?_
        refine va_get (D := (dC, dI)) (ci := 9) (v := .ref tnodes) (C := RX9) (T := TX9) (N := 10) hx hb hts iX10_order_X9 hown hK.1 hP 1 gz1 vcz9 0 (by decide) (kX10_order_3 hts) (fun _ h9 => h9) gz0 dX10_order_43 ?_
        refine lv_iload_n hx hb dX10_order_46 rfl (lv_at hl 2 rfl) ?_
        refine z_i (wr := [(x0, .inr (10, [.ref w0, .ref z0, .ref xi, .ref xt, .int x_tl, .ref xq, .int x_lc, .ref rdr, .ref h0, .ref t0, .ref q0, .ref v0, .ref m0])), (w0, .inr (9, [.ref tnodes, .ref tpasses, .ref tjars, .ref torders, .ref tfeasts, .ref tway, .int tws, .int tnow, .int tfm, .int tx])), (torders, .inr (6, [.int 4, .ref tordersA, .int 6])), (tordersA, .inl (kA 0, 24, .inl tordersF))]) (va_runV (As := [.int p0]) (rest := []) ⟨hx, hb, hml, hown, hts⟩ (mX6_has l dC dI kA _ tnodes tnodesA 4 tnodesS p0) (cwV 1 hts gX10_order_X6_has rfl rfl rfl ⟨rfl, hdX6_has⟩ ⟨(Nat.le_of_ble_eq_true rfl), (Nat.le_of_ble_eq_true rfl)⟩) ⟨zPc.blind, va_recv (q := (RX6, TX6, 3)) hK.1 hP (ci := 6) (q0 := 2) rfl rfl, zPre hK (hP.sub [2] rfl) (hD.sub [2] (by decide) rfl)⟩ rfl rfl hl.1 rfl (lv_room (Nat.le_of_ble_eq_true rfl)) dX10_order_47 ⟨(Nat.le_of_ble_eq_true rfl), (Nat.le_of_ble_eq_true rfl)⟩) hP hD hS hA [2] [0, 1, 3, 4] rfl rfl (by decide) (by decide) (fun r22 u20 H locs hw21 hP hD hS => ?_)
        obtain rfl := hw21
        obtain ⟨hP, hD⟩ := z_re (L := [(x0, .inr (10, [.ref w0, .ref z0, .ref xi, .ref xt, .int x_tl, .ref xq, .int x_lc, .ref rdr, .ref h0, .ref t0, .ref q0, .ref v0, .ref m0])), (w0, .inr (9, [.ref tnodes, .ref tpasses, .ref tjars, .ref torders, .ref tfeasts, .ref tway, .int tws, .int tnow, .int tfm, .int tx])), (torders, .inr (6, [.int 4, .ref tordersA, .int 6])), (tordersA, .inl (kA 0, 24, .inl tordersF)), (tnodes, .inr (6, [.int 4, .ref tnodesA, .int tnodesS]))]) hP hD
        refine lv_if_eq (tgt := 66) hx hb dX10_order_50 (by decide) (fun c_23 => ?_) (fun c_23 => ?_)
        · refine lv_iconst (v := (-1)) hx hb dX10_order_66 (by decide) ?_
          refine lv_istore (lv' := [(6, .int (-1)), (5, .int 1), (0, .ref x0), (1, .int p0), (2, .int p1), (3, .int p2), (4, .int p3)]) hx hb dX10_order_67 hl (by decide) rfl (fun ls hl => ?_)
          refine lv_iload hx hb dX10_order_69 (lv_at hl 0 rfl) ?_
          refine lv_iconst (v := (-1)) hx hb dX10_order_71 (by decide) ?_
          refine lv_icmp_ne (tgt := 77) hx hb dX10_order_72 (by decide) (fun c_24 => absurd (by decide) c_24) (fun _ => ?_)
          refine lv_iconst (v := (-1)) hx hb dX10_order_75 (by decide) ?_
          obtain ⟨hP9, hD9⟩ := z_sb (L' := [(x0, .inr (10, [.ref w0, .ref z0, .ref xi, .ref xt, .int x_tl, .ref xq, .int x_lc, .ref rdr, .ref h0, .ref t0, .ref q0, .ref v0, .ref m0])), (w0, .inr (9, [.ref tnodes, .ref tpasses, .ref tjars, .ref torders, .ref tfeasts, .ref tway, .int tws, .int tnow, .int tfm, .int tx])), (tnodes, .inr (6, [.int 4, .ref tnodesA, .int tnodesS])), (torders, .inr (6, [.int 4, .ref tordersA, .int 6])), (tordersA, .inl (kA 0, 24, .inl tordersF))]) hP hD [0, 1, 4, 2, 3] (by decide) rfl
          refine W.widen (k := 0) (n := 0) (Nat.le_of_ble_eq_true rfl) (Nat.le_of_ble_eq_true rfl) ?_
          exact W.iret (v := (-1)) hx hb hr (fun t ht hW => ⟨⟨(-1), (), rfl, rfl, by rw [ht]; exact hP9, hD9⟩, hS.F ht⟩) hS.2.2 dX10_order_76
        · have c_23a := hs_ne c_23
          have c_23b := c_23a.2
          have c_23a := c_23a.1
          refine lv_aload_n hx hb dX10_order_53 rfl (lv_at hl 1 rfl) ?_
          refine va_get (D := (dC, dI)) (ci := 10) (v := .ref w0) (C := RX10) (T := TX10) (N := 13) hx hb hts iX10_order_X10 hown hK.1 hP 0 gz0 vcz10 0 (by decide) (kX10_order_2 hts) (fun _ h9 => h9) gz0 dX10_order_54 ?_
          refine va_get (D := (dC, dI)) (ci := 9) (v := .ref torders) (C := RX9) (T := TX9) (N := 10) hx hb hts iX10_order_X9 hown hK.1 hP 1 gz1 vcz9 3 (by decide) (kX10_order_4 hts) (fun _ h9 => h9) gz3 dX10_order_57 ?_
          refine z_i (wr := [(x0, .inr (10, [.ref w0, .ref z0, .ref xi, .ref xt, .int x_tl, .ref xq, .int x_lc, .ref rdr, .ref h0, .ref t0, .ref q0, .ref v0, .ref m0])), (w0, .inr (9, [.ref tnodes, .ref tpasses, .ref tjars, .ref torders, .ref tfeasts, .ref tway, .int tws, .int tnow, .int tfm, .int tx])), (tnodes, .inr (6, [.int 4, .ref tnodesA, .int tnodesS]))]) (va_runV (As := []) (rest := []) ⟨hx, hb, hml, hown, hts⟩ (mX6_grow_orders_full l dC dI kA _ torders tordersA tordersF) (cwV 0 hts gX10_order_X6_grow rfl rfl rfl ⟨rfl, hdX6_grow⟩ ⟨(Nat.le_of_ble_eq_true rfl), (Nat.le_of_ble_eq_true rfl)⟩) ⟨zPc.blind, va_recv (q := (RX6, TX6, 3)) hK.1 hP (ci := 6) (q0 := 2) rfl rfl, zPre hK (hP.sub [2, 3] rfl) (hD.sub [2, 3] (by decide) rfl)⟩ rfl rfl hl.1 rfl (lv_room (Nat.le_of_ble_eq_true rfl)) dX10_order_60 ⟨(Nat.le_of_ble_eq_true rfl), (Nat.le_of_ble_eq_true rfl)⟩) hP hD hS hA [2, 3] [0, 1, 4] rfl rfl (by decide) (by decide) (fun r27 u25 H locs hw26 hP hD hS => ?_)
          obtain rfl := hw26
          obtain ⟨hP, hD⟩ := z_re (L := [(x0, .inr (10, [.ref w0, .ref z0, .ref xi, .ref xt, .int x_tl, .ref xq, .int x_lc, .ref rdr, .ref h0, .ref t0, .ref q0, .ref v0, .ref m0])), (w0, .inr (9, [.ref tnodes, .ref tpasses, .ref tjars, .ref torders, .ref tfeasts, .ref tway, .int tws, .int tnow, .int tfm, .int tx])), (tnodes, .inr (6, [.int 4, .ref tnodesA, .int tnodesS])), (torders, .inr (6, [.int 4, .ref tordersA, .int 6])), (tordersA, .inl (kA 0, 24, .inl tordersF))]) hP hD
          refine lv_goto (tgt := 67) hx hb dX10_order_63 (by decide) ?_
          refine lv_istore (lv' := [(6, .int (-1)), (5, .int 1), (0, .ref x0), (1, .int p0), (2, .int p1), (3, .int p2), (4, .int p3)]) hx hb dX10_order_67 hl (by decide) rfl (fun ls hl => ?_)
          refine lv_iload hx hb dX10_order_69 (lv_at hl 0 rfl) ?_
          refine lv_iconst (v := (-1)) hx hb dX10_order_71 (by decide) ?_
          refine lv_icmp_ne (tgt := 77) hx hb dX10_order_72 (by decide) (fun c_28 => absurd (by decide) c_28) (fun _ => ?_)
          refine lv_iconst (v := (-1)) hx hb dX10_order_75 (by decide) ?_
          obtain ⟨hP9, hD9⟩ := z_sb (L' := [(x0, .inr (10, [.ref w0, .ref z0, .ref xi, .ref xt, .int x_tl, .ref xq, .int x_lc, .ref rdr, .ref h0, .ref t0, .ref q0, .ref v0, .ref m0])), (w0, .inr (9, [.ref tnodes, .ref tpasses, .ref tjars, .ref torders, .ref tfeasts, .ref tway, .int tws, .int tnow, .int tfm, .int tx])), (tnodes, .inr (6, [.int 4, .ref tnodesA, .int tnodesS])), (torders, .inr (6, [.int 4, .ref tordersA, .int 6])), (tordersA, .inl (kA 0, 24, .inl tordersF))]) hP hD [0, 1, 2, 3, 4] (by decide) rfl
          refine W.widen (k := 0) (n := 0) (Nat.le_of_ble_eq_true rfl) (Nat.le_of_ble_eq_true rfl) ?_
          exact W.iret (v := (-1)) hx hb hr (fun t ht hW => ⟨⟨(-1), (), rfl, rfl, by rw [ht]; exact hP9, hD9⟩, hS.F ht⟩) hS.2.2 dX10_order_76
set_option maxRecDepth 100000 in
def fX10_feast_ok (tnodesS : Int32) (tfeastsS : Int32) (tfeastsF : Nat → Int32) (p0 : Int32) (p1 : Int32) (p2 : Int32) : Int32 × (Nat → Int32) := if (wi p1 4166) = 0 then ((tfeastsS, tfeastsF)) else (if (wsh p2) = 0 then ((tfeastsS, tfeastsF)) else (if (hs p0 tnodesS) = 0 then ((tfeastsS, tfeastsF)) else (bnd (fX6_grow_feasts_ok tfeastsS) (fun (o22 : Int32) => bnd (fX6_put_24 3 tfeastsF tfeastsS 0 p0) (fun (o31 : Nat → Int32) => bnd (fX6_put_24 3 o31 tfeastsS 1 p1) (fun (o37 : Nat → Int32) => bnd (fX6_put_24 3 o37 tfeastsS 2 p2) (fun (o43 : Nat → Int32) => (o22, o43))))))))
set_option maxHeartbeats 4000000 in
set_option maxRecDepth 100000 in
theorem mX10_feast_ok (l : Launch) (dC : Nat → ClassId) (dI : Nat → Nat → Nat) (kA : Nat → ClassId) (sz : Nat) (x0 : Nat) (z0 : Nat) (xi : Nat) (xt : Nat) (xq : Nat) (rdr : Nat) (h0 : Nat) (t0 : Nat) (q0 : Nat) (v0 : Nat) (m0 : Nat) (w0 : Nat) (x_tl : Int32) (x_lc : Int32) (tnodes : Nat) (tnodesA : Nat) (tnodesS : Int32) (tpasses : Nat) (tjars : Nat) (torders : Nat) (tfeasts : Nat) (tfeastsA : Nat) (tfeastsS : Int32) (tfeastsF : Nat → Int32) (tway : Nat) (tws : Int32) (tnow : Int32) (tfm : Int32) (tx : Int32) (p0 : Int32) (p1 : Int32) (p2 : Int32) (hz0 : ¬ tfeastsS < 0) (hz1 : ¬ 8 ≤ tfeastsS) : Met l yX10_feast wsX10_feast ({ frames := 1, cells := 0, slots := 0, locals := 24 }) (zPc dC dI kA sz [.ref x0, .int p0, .int p1, .int p2] [(x0, .inr (10, [.ref w0, .ref z0, .ref xi, .ref xt, .int x_tl, .ref xq, .int x_lc, .ref rdr, .ref h0, .ref t0, .ref q0, .ref v0, .ref m0])), (w0, .inr (9, [.ref tnodes, .ref tpasses, .ref tjars, .ref torders, .ref tfeasts, .ref tway, .int tws, .int tnow, .int tfm, .int tx])), (tnodes, .inr (6, [.int 4, .ref tnodesA, .int tnodesS])), (tfeasts, .inr (6, [.int 3, .ref tfeastsA, .int tfeastsS])), (tfeastsA, .inl (kA 0, 24, .inl tfeastsF))]) (va_Qi (fun (r : Int32) (u : Int32 × (Nat → Int32)) => r = (sp_fe p0 p1 p2 tnodesS tfeastsS) ∧ (u.1, u.2) = fX10_feast_ok tnodesS tfeastsS tfeastsF p0 p1 p2 ∧ u.1 = (sp_fez p0 p1 p2 tnodesS tfeastsS)) (zB dC dI (va_A [(x0, .inr (10, [.ref w0, .ref z0, .ref xi, .ref xt, .int x_tl, .ref xq, .int x_lc, .ref rdr, .ref h0, .ref t0, .ref q0, .ref v0, .ref m0])), (w0, .inr (9, [.ref tnodes, .ref tpasses, .ref tjars, .ref torders, .ref tfeasts, .ref tway, .int tws, .int tnow, .int tfm, .int tx])), (tnodes, .inr (6, [.int 4, .ref tnodesA, .int tnodesS])), (tfeasts, .inr (6, [.int 3, .ref tfeastsA, .int tfeastsS])), (tfeastsA, .inl (kA 0, 24, .inl tfeastsF))] sz) (fun (u : Int32 × (Nat → Int32)) => [(x0, .inr (10, [.ref w0, .ref z0, .ref xi, .ref xt, .int x_tl, .ref xq, .int x_lc, .ref rdr, .ref h0, .ref t0, .ref q0, .ref v0, .ref m0])), (w0, .inr (9, [.ref tnodes, .ref tpasses, .ref tjars, .ref torders, .ref tfeasts, .ref tway, .int tws, .int tnow, .int tfm, .int tx])), (tnodes, .inr (6, [.int 4, .ref tnodesA, .int tnodesS])), (tfeasts, .inr (6, [.int 3, .ref tfeastsA, .int u.1])), (tfeastsA, .inl (kA 0, 24, .inl u.2))])) (va_A [(x0, .inr (10, [.ref w0, .ref z0, .ref xi, .ref xt, .int x_tl, .ref xq, .int x_lc, .ref rdr, .ref h0, .ref t0, .ref q0, .ref v0, .ref m0])), (w0, .inr (9, [.ref tnodes, .ref tpasses, .ref tjars, .ref torders, .ref tfeasts, .ref tway, .int tws, .int tnow, .int tfm, .int tx])), (tnodes, .inr (6, [.int 4, .ref tnodesA, .int tnodesS])), (tfeasts, .inr (6, [.int 3, .ref tfeastsA, .int tfeastsS])), (tfeastsA, .inl (kA 0, 24, .inl tfeastsF))] sz)) 0 0 (va_A [(x0, .inr (10, [.ref w0, .ref z0, .ref xi, .ref xt, .int x_tl, .ref xq, .int x_lc, .ref rdr, .ref h0, .ref t0, .ref q0, .ref v0, .ref m0])), (w0, .inr (9, [.ref tnodes, .ref tpasses, .ref tjars, .ref torders, .ref tfeasts, .ref tway, .int tws, .int tnow, .int tfm, .int tx])), (tnodes, .inr (6, [.int 4, .ref tnodesA, .int tnodesS])), (tfeasts, .inr (6, [.int 3, .ref tfeastsA, .int tfeastsS])), (tfeastsA, .inl (kA 0, 24, .inl tfeastsF))] sz) := by
  refine Met.ofW (cc := cX10_feast) (maxL := 6) (ret := (some .int)) pnX10 rfl ?_
  intro p e s m args below meth c s₁ B hml hv
  obtain ⟨rfl, hsz, hP, hK, hD0⟩ := hv
  have hx := B.exec
  have hb := B.bytes
  have hr := B.returns
  have hts := atoms_spec (ws := wsX10_feast) B.pre
  have hown : s.vm.findClass RX10 = some m.cls := findClass_of_methodNamed B.named
  have hlocks := B.notSynchronized
  subst hsz
  have hD := hD0.self (sz := s.heap.size)
  generalize hAe : va_A [(x0, .inr (10, [.ref w0, .ref z0, .ref xi, .ref xt, .int x_tl, .ref xq, .int x_lc, .ref rdr, .ref h0, .ref t0, .ref q0, .ref v0, .ref m0])), (w0, .inr (9, [.ref tnodes, .ref tpasses, .ref tjars, .ref torders, .ref tfeasts, .ref tway, .int tws, .int tnow, .int tfm, .int tx])), (tnodes, .inr (6, [.int 4, .ref tnodesA, .int tnodesS])), (tfeasts, .inr (6, [.int 3, .ref tfeastsA, .int tfeastsS])), (tfeastsA, .inl (kA 0, 24, .inl tfeastsF))] s.heap.size = A at hD ⊢
  have hA : ∀ q : Nat, s.heap.size ≤ q → A q := zA_of hAe
  have hS : va_S A s.heap s.heap [] := va_S.rf
  have hP : va_P (dC, dI) vwCl [(x0, .inr (10, [.ref w0, .ref z0, .ref xi, .ref xt, .int x_tl, .ref xq, .int x_lc, .ref rdr, .ref h0, .ref t0, .ref q0, .ref v0, .ref m0])), (w0, .inr (9, [.ref tnodes, .ref tpasses, .ref tjars, .ref torders, .ref tfeasts, .ref tway, .int tws, .int tnow, .int tfm, .int tx])), (tnodes, .inr (6, [.int 4, .ref tnodesA, .int tnodesS])), (tfeasts, .inr (6, [.int 3, .ref tfeastsA, .int tfeastsS])), (tfeastsA, .inl (kA 0, 24, .inl tfeastsF))] s.heap := hP
  have hl := lv_entry ([.ref x0, .int p0, .int p1, .int p2]) (n := 6) (Nat.le_of_ble_eq_true rfl)
  rw [lg_entry_eq]
  generalize (lg_sl ([.ref x0, .int p0, .int p1, .int p2]) ++ List.replicate (6 - (lg_sl ([.ref x0, .int p0, .int p1, .int p2])).length) Slot.unset).toArray = ls at hl ⊢
  have hl : lv_has ls 6 [(0, .ref x0), (1, .int p0), (2, .int p1), (3, .int p2)] := hl
  obtain ⟨G, hG0⟩ : ∃ G : Int32 × (Nat → Int32), fX10_feast_ok tnodesS tfeastsS tfeastsF p0 p1 p2 = G := ⟨_, rfl⟩
  have hG := hG0
  unfold fX10_feast_ok at hG
  refine lv_iload_n hx hb dX10_feast_0 rfl (lv_at hl 2 rfl) ?_
  refine lv_sipush (v := 4166) hx hb dX10_feast_1 (by decide) ?_
  refine z_i (wr := [(x0, .inr (10, [.ref w0, .ref z0, .ref xi, .ref xt, .int x_tl, .ref xq, .int x_lc, .ref rdr, .ref h0, .ref t0, .ref q0, .ref v0, .ref m0])), (w0, .inr (9, [.ref tnodes, .ref tpasses, .ref tjars, .ref torders, .ref tfeasts, .ref tway, .int tws, .int tnow, .int tfm, .int tx])), (tnodes, .inr (6, [.int 4, .ref tnodesA, .int tnodesS])), (tfeasts, .inr (6, [.int 3, .ref tfeastsA, .int tfeastsS])), (tfeastsA, .inl (kA 0, 24, .inl tfeastsF))]) (va_runS (As := [.int p1, .int 4166]) (rest := []) ⟨hx, hb, hml, hown, hts⟩ (mX10_within l dC dI kA _ p1 4166) (va_cwS 2 hts gX10_feast_X10_within rfl rfl rfl hdX10_within ⟨(Nat.le_of_ble_eq_true rfl), (Nat.le_of_ble_eq_true rfl)⟩) ⟨zPc.blind, zPre hK (hP.sub [] rfl) (hD.sub [] (by decide) rfl)⟩ rfl rfl hl.1 rfl (lv_room (Nat.le_of_ble_eq_true rfl)) dX10_feast_4 ⟨(Nat.le_of_ble_eq_true rfl), (Nat.le_of_ble_eq_true rfl)⟩) hP hD hS hA [] [0, 1, 2, 3, 4] rfl rfl (by decide) (by decide) (fun r3 u1 H locs hw2 hP hD hS => ?_)
  obtain rfl := hw2
  obtain ⟨hP, hD⟩ := z_re (L := [(x0, .inr (10, [.ref w0, .ref z0, .ref xi, .ref xt, .int x_tl, .ref xq, .int x_lc, .ref rdr, .ref h0, .ref t0, .ref q0, .ref v0, .ref m0])), (w0, .inr (9, [.ref tnodes, .ref tpasses, .ref tjars, .ref torders, .ref tfeasts, .ref tway, .int tws, .int tnow, .int tfm, .int tx])), (tnodes, .inr (6, [.int 4, .ref tnodesA, .int tnodesS])), (tfeasts, .inr (6, [.int 3, .ref tfeastsA, .int tfeastsS])), (tfeastsA, .inl (kA 0, 24, .inl tfeastsF))]) hP hD
  refine lv_if_eq (tgt := 21) hx hb dX10_feast_7 (by decide) (fun c_4 => ?_) (fun c_4 => ?_)
  · have hG := zthen hG c_4
    refine lv_iconst (v := 0) hx hb dX10_feast_21 (by decide) ?_
    refine lv_istore (lv' := [(4, .int 0), (0, .ref x0), (1, .int p0), (2, .int p1), (3, .int p2)]) hx hb dX10_feast_22 hl (by decide) rfl (fun ls hl => ?_)
    refine lv_iload hx hb dX10_feast_24 (lv_at hl 0 rfl) ?_
    refine lv_if_eq (tgt := 56) hx hb dX10_feast_26 (by decide) (fun _ => ?_) (fun c_5 => absurd (by decide) c_5)
    refine lv_iconst (v := (-1)) hx hb dX10_feast_56 (by decide) ?_
    refine lv_istore (lv' := [(5, .int (-1)), (4, .int 0), (0, .ref x0), (1, .int p0), (2, .int p1), (3, .int p2)]) hx hb dX10_feast_57 hl (by decide) rfl (fun ls hl => ?_)
    refine lv_iload hx hb dX10_feast_59 (lv_at hl 0 rfl) ?_
    refine lv_iconst (v := (-1)) hx hb dX10_feast_61 (by decide) ?_
    refine lv_icmp_ne (tgt := 67) hx hb dX10_feast_62 (by decide) (fun c_6 => absurd (by decide) c_6) (fun _ => ?_)
    refine lv_iconst (v := (-1)) hx hb dX10_feast_65 (by decide) ?_
    obtain ⟨hP9, hD9⟩ := z_sb (L' := [(x0, .inr (10, [.ref w0, .ref z0, .ref xi, .ref xt, .int x_tl, .ref xq, .int x_lc, .ref rdr, .ref h0, .ref t0, .ref q0, .ref v0, .ref m0])), (w0, .inr (9, [.ref tnodes, .ref tpasses, .ref tjars, .ref torders, .ref tfeasts, .ref tway, .int tws, .int tnow, .int tfm, .int tx])), (tnodes, .inr (6, [.int 4, .ref tnodesA, .int tnodesS])), (tfeasts, .inr (6, [.int 3, .ref tfeastsA, .int tfeastsS])), (tfeastsA, .inl (kA 0, 24, .inl tfeastsF))]) hP hD [0, 1, 2, 3, 4] (by decide) rfl
    refine W.widen (k := 0) (n := 0) (Nat.le_of_ble_eq_true rfl) (Nat.le_of_ble_eq_true rfl) ?_
    exact W.iret (v := (-1)) hx hb hr (fun t ht hW => ⟨⟨(-1), (tfeastsS, tfeastsF), rfl, ⟨(by simp [sp_fe, c_4, fX6_grow_feasts_ok, bnd]), (hG.trans hG0.symm), (by simp [sp_fez, c_4, fX6_grow_feasts_ok, bnd])⟩, by rw [ht]; exact hP9, hD9⟩, hS.F ht⟩) hS.2.2 dX10_feast_66
  · have hG := zelse hG c_4
    have c_4a := wi_ne c_4
    have c_4b := c_4a.2
    have c_4a := c_4a.1
    refine lv_iload_n hx hb dX10_feast_10 rfl (lv_at hl 3 rfl) ?_
    refine z_i (wr := [(x0, .inr (10, [.ref w0, .ref z0, .ref xi, .ref xt, .int x_tl, .ref xq, .int x_lc, .ref rdr, .ref h0, .ref t0, .ref q0, .ref v0, .ref m0])), (w0, .inr (9, [.ref tnodes, .ref tpasses, .ref tjars, .ref torders, .ref tfeasts, .ref tway, .int tws, .int tnow, .int tfm, .int tx])), (tnodes, .inr (6, [.int 4, .ref tnodesA, .int tnodesS])), (tfeasts, .inr (6, [.int 3, .ref tfeastsA, .int tfeastsS])), (tfeastsA, .inl (kA 0, 24, .inl tfeastsF))]) (va_runS (As := [.int p2]) (rest := []) ⟨hx, hb, hml, hown, hts⟩ (mX10_isWish l dC dI kA _ p2) (va_cwS 1 hts gX10_feast_X10_isWish rfl rfl rfl hdX10_isWish ⟨(Nat.le_of_ble_eq_true rfl), (Nat.le_of_ble_eq_true rfl)⟩) ⟨zPc.blind, zPre hK (hP.sub [] rfl) (hD.sub [] (by decide) rfl)⟩ rfl rfl hl.1 rfl (lv_room (Nat.le_of_ble_eq_true rfl)) dX10_feast_11 ⟨(Nat.le_of_ble_eq_true rfl), (Nat.le_of_ble_eq_true rfl)⟩) hP hD hS hA [] [0, 1, 2, 3, 4] rfl rfl (by decide) (by decide) (fun r9 u7 H locs hw8 hP hD hS => ?_)
    obtain rfl := hw8
    obtain ⟨hP, hD⟩ := z_re (L := [(x0, .inr (10, [.ref w0, .ref z0, .ref xi, .ref xt, .int x_tl, .ref xq, .int x_lc, .ref rdr, .ref h0, .ref t0, .ref q0, .ref v0, .ref m0])), (w0, .inr (9, [.ref tnodes, .ref tpasses, .ref tjars, .ref torders, .ref tfeasts, .ref tway, .int tws, .int tnow, .int tfm, .int tx])), (tnodes, .inr (6, [.int 4, .ref tnodesA, .int tnodesS])), (tfeasts, .inr (6, [.int 3, .ref tfeastsA, .int tfeastsS])), (tfeastsA, .inl (kA 0, 24, .inl tfeastsF))]) hP hD
    refine lv_if_eq (tgt := 21) hx hb dX10_feast_14 (by decide) (fun c_10 => ?_) (fun c_10 => ?_)
    · have hG := zthen hG c_10
      refine lv_iconst (v := 0) hx hb dX10_feast_21 (by decide) ?_
      refine lv_istore (lv' := [(4, .int 0), (0, .ref x0), (1, .int p0), (2, .int p1), (3, .int p2)]) hx hb dX10_feast_22 hl (by decide) rfl (fun ls hl => ?_)
      refine lv_iload hx hb dX10_feast_24 (lv_at hl 0 rfl) ?_
      refine lv_if_eq (tgt := 56) hx hb dX10_feast_26 (by decide) (fun _ => ?_) (fun c_11 => absurd (by decide) c_11)
      refine lv_iconst (v := (-1)) hx hb dX10_feast_56 (by decide) ?_
      refine lv_istore (lv' := [(5, .int (-1)), (4, .int 0), (0, .ref x0), (1, .int p0), (2, .int p1), (3, .int p2)]) hx hb dX10_feast_57 hl (by decide) rfl (fun ls hl => ?_)
      refine lv_iload hx hb dX10_feast_59 (lv_at hl 0 rfl) ?_
      refine lv_iconst (v := (-1)) hx hb dX10_feast_61 (by decide) ?_
      refine lv_icmp_ne (tgt := 67) hx hb dX10_feast_62 (by decide) (fun c_12 => absurd (by decide) c_12) (fun _ => ?_)
      refine lv_iconst (v := (-1)) hx hb dX10_feast_65 (by decide) ?_
      obtain ⟨hP9, hD9⟩ := z_sb (L' := [(x0, .inr (10, [.ref w0, .ref z0, .ref xi, .ref xt, .int x_tl, .ref xq, .int x_lc, .ref rdr, .ref h0, .ref t0, .ref q0, .ref v0, .ref m0])), (w0, .inr (9, [.ref tnodes, .ref tpasses, .ref tjars, .ref torders, .ref tfeasts, .ref tway, .int tws, .int tnow, .int tfm, .int tx])), (tnodes, .inr (6, [.int 4, .ref tnodesA, .int tnodesS])), (tfeasts, .inr (6, [.int 3, .ref tfeastsA, .int tfeastsS])), (tfeastsA, .inl (kA 0, 24, .inl tfeastsF))]) hP hD [0, 1, 2, 3, 4] (by decide) rfl
      refine W.widen (k := 0) (n := 0) (Nat.le_of_ble_eq_true rfl) (Nat.le_of_ble_eq_true rfl) ?_
      exact W.iret (v := (-1)) hx hb hr (fun t ht hW => ⟨⟨(-1), (tfeastsS, tfeastsF), rfl, ⟨(by simp [sp_fe, c_4, c_4a, c_4b, c_10, fX6_grow_feasts_ok, bnd]), (hG.trans hG0.symm), (by simp [sp_fez, c_4, c_4a, c_4b, c_10, fX6_grow_feasts_ok, bnd])⟩, by rw [ht]; exact hP9, hD9⟩, hS.F ht⟩) hS.2.2 dX10_feast_66
    · have hG := zelse hG c_10
      refine lv_iconst (v := 1) hx hb dX10_feast_17 (by decide) ?_
      refine lv_goto (tgt := 22) hx hb dX10_feast_18 (by decide) ?_
      refine lv_istore (lv' := [(4, .int 1), (0, .ref x0), (1, .int p0), (2, .int p1), (3, .int p2)]) hx hb dX10_feast_22 hl (by decide) rfl (fun ls hl => ?_)
      refine lv_iload hx hb dX10_feast_24 (lv_at hl 0 rfl) ?_
      refine lv_if_eq (tgt := 56) hx hb dX10_feast_26 (by decide) (fun c_13 => absurd c_13 (by decide)) (fun _ => ?_)
      refine lv_aload_n hx hb dX10_feast_29 rfl (lv_at hl 1 rfl) ?_
      refine va_get (D := (dC, dI)) (ci := 10) (v := .ref w0) (C := RX10) (T := TX10) (N := 13) hx hb hts iX10_feast_X10 hown hK.1 hP 0 gz0 vcz10 0 (by decide) (kX10_feast_1 hts) (fun _ h9 => h9) gz0 dX10_feast_30 ?_
      refine va_get (D := (dC, dI)) (ci := 9) (v := .ref tnodes) (C := RX9) (T := TX9) (N := 10) hx hb hts iX10_feast_X9 hown hK.1 hP 1 gz1 vcz9 0 (by decide) (kX10_feast_2 hts) (fun _ h9 => h9) gz0 dX10_feast_33 ?_
      refine lv_iload_n hx hb dX10_feast_36 rfl (lv_at hl 2 rfl) ?_
      refine z_i (wr := [(x0, .inr (10, [.ref w0, .ref z0, .ref xi, .ref xt, .int x_tl, .ref xq, .int x_lc, .ref rdr, .ref h0, .ref t0, .ref q0, .ref v0, .ref m0])), (w0, .inr (9, [.ref tnodes, .ref tpasses, .ref tjars, .ref torders, .ref tfeasts, .ref tway, .int tws, .int tnow, .int tfm, .int tx])), (tfeasts, .inr (6, [.int 3, .ref tfeastsA, .int tfeastsS])), (tfeastsA, .inl (kA 0, 24, .inl tfeastsF))]) (va_runV (As := [.int p0]) (rest := []) ⟨hx, hb, hml, hown, hts⟩ (mX6_has l dC dI kA _ tnodes tnodesA 4 tnodesS p0) (cwV 1 hts gX10_feast_X6_has rfl rfl rfl ⟨rfl, hdX6_has⟩ ⟨(Nat.le_of_ble_eq_true rfl), (Nat.le_of_ble_eq_true rfl)⟩) ⟨zPc.blind, va_recv (q := (RX6, TX6, 3)) hK.1 hP (ci := 6) (q0 := 2) rfl rfl, zPre hK (hP.sub [2] rfl) (hD.sub [2] (by decide) rfl)⟩ rfl rfl hl.1 rfl (lv_room (Nat.le_of_ble_eq_true rfl)) dX10_feast_37 ⟨(Nat.le_of_ble_eq_true rfl), (Nat.le_of_ble_eq_true rfl)⟩) hP hD hS hA [2] [0, 1, 3, 4] rfl rfl (by decide) (by decide) (fun r16 u14 H locs hw15 hP hD hS => ?_)
      obtain rfl := hw15
      obtain ⟨hP, hD⟩ := z_re (L := [(x0, .inr (10, [.ref w0, .ref z0, .ref xi, .ref xt, .int x_tl, .ref xq, .int x_lc, .ref rdr, .ref h0, .ref t0, .ref q0, .ref v0, .ref m0])), (w0, .inr (9, [.ref tnodes, .ref tpasses, .ref tjars, .ref torders, .ref tfeasts, .ref tway, .int tws, .int tnow, .int tfm, .int tx])), (tfeasts, .inr (6, [.int 3, .ref tfeastsA, .int tfeastsS])), (tfeastsA, .inl (kA 0, 24, .inl tfeastsF)), (tnodes, .inr (6, [.int 4, .ref tnodesA, .int tnodesS]))]) hP hD
      refine lv_if_eq (tgt := 56) hx hb dX10_feast_40 (by decide) (fun c_17 => ?_) (fun c_17 => ?_)
      · have hG := zthen hG c_17
        refine lv_iconst (v := (-1)) hx hb dX10_feast_56 (by decide) ?_
        refine lv_istore (lv' := [(5, .int (-1)), (4, .int 1), (0, .ref x0), (1, .int p0), (2, .int p1), (3, .int p2)]) hx hb dX10_feast_57 hl (by decide) rfl (fun ls hl => ?_)
        refine lv_iload hx hb dX10_feast_59 (lv_at hl 0 rfl) ?_
        refine lv_iconst (v := (-1)) hx hb dX10_feast_61 (by decide) ?_
        refine lv_icmp_ne (tgt := 67) hx hb dX10_feast_62 (by decide) (fun c_18 => absurd (by decide) c_18) (fun _ => ?_)
        refine lv_iconst (v := (-1)) hx hb dX10_feast_65 (by decide) ?_
        obtain ⟨hP9, hD9⟩ := z_sb (L' := [(x0, .inr (10, [.ref w0, .ref z0, .ref xi, .ref xt, .int x_tl, .ref xq, .int x_lc, .ref rdr, .ref h0, .ref t0, .ref q0, .ref v0, .ref m0])), (w0, .inr (9, [.ref tnodes, .ref tpasses, .ref tjars, .ref torders, .ref tfeasts, .ref tway, .int tws, .int tnow, .int tfm, .int tx])), (tnodes, .inr (6, [.int 4, .ref tnodesA, .int tnodesS])), (tfeasts, .inr (6, [.int 3, .ref tfeastsA, .int tfeastsS])), (tfeastsA, .inl (kA 0, 24, .inl tfeastsF))]) hP hD [0, 1, 4, 2, 3] (by decide) rfl
        refine W.widen (k := 0) (n := 0) (Nat.le_of_ble_eq_true rfl) (Nat.le_of_ble_eq_true rfl) ?_
        exact W.iret (v := (-1)) hx hb hr (fun t ht hW => ⟨⟨(-1), (tfeastsS, tfeastsF), rfl, ⟨(by simp [sp_fe, c_4, c_4a, c_4b, c_10, c_17, fX6_grow_feasts_ok, bnd]), (hG.trans hG0.symm), (by simp [sp_fez, c_4, c_4a, c_4b, c_10, c_17, fX6_grow_feasts_ok, bnd])⟩, by rw [ht]; exact hP9, hD9⟩, hS.F ht⟩) hS.2.2 dX10_feast_66
      · have hG := zelse hG c_17
        have c_17a := hs_ne c_17
        have c_17b := c_17a.2
        have c_17a := c_17a.1
        refine lv_aload_n hx hb dX10_feast_43 rfl (lv_at hl 1 rfl) ?_
        refine va_get (D := (dC, dI)) (ci := 10) (v := .ref w0) (C := RX10) (T := TX10) (N := 13) hx hb hts iX10_feast_X10 hown hK.1 hP 0 gz0 vcz10 0 (by decide) (kX10_feast_1 hts) (fun _ h9 => h9) gz0 dX10_feast_44 ?_
        refine va_get (D := (dC, dI)) (ci := 9) (v := .ref tfeasts) (C := RX9) (T := TX9) (N := 10) hx hb hts iX10_feast_X9 hown hK.1 hP 1 gz1 vcz9 4 (by decide) (kX10_feast_3 hts) (fun _ h9 => h9) gz4 dX10_feast_47 ?_
        refine z_i (wr := [(x0, .inr (10, [.ref w0, .ref z0, .ref xi, .ref xt, .int x_tl, .ref xq, .int x_lc, .ref rdr, .ref h0, .ref t0, .ref q0, .ref v0, .ref m0])), (w0, .inr (9, [.ref tnodes, .ref tpasses, .ref tjars, .ref torders, .ref tfeasts, .ref tway, .int tws, .int tnow, .int tfm, .int tx])), (tnodes, .inr (6, [.int 4, .ref tnodesA, .int tnodesS]))]) (va_runV (As := []) (rest := []) ⟨hx, hb, hml, hown, hts⟩ (mX6_grow_feasts_ok l dC dI kA _ tfeasts tfeastsA tfeastsS tfeastsF hz0 hz1) (cwV 0 hts gX10_feast_X6_grow rfl rfl rfl ⟨rfl, hdX6_grow⟩ ⟨(Nat.le_of_ble_eq_true rfl), (Nat.le_of_ble_eq_true rfl)⟩) ⟨zPc.blind, va_recv (q := (RX6, TX6, 3)) hK.1 hP (ci := 6) (q0 := 2) rfl rfl, zPre hK (hP.sub [2, 3] rfl) (hD.sub [2, 3] (by decide) rfl)⟩ rfl rfl hl.1 rfl (lv_room (Nat.le_of_ble_eq_true rfl)) dX10_feast_50 ⟨(Nat.le_of_ble_eq_true rfl), (Nat.le_of_ble_eq_true rfl)⟩) hP hD hS hA [2, 3] [0, 1, 4] rfl rfl (by decide) (by decide) (fun r21 u19 H locs hw20 hP hD hS => ?_)
        obtain ⟨o22, rfl⟩ : ∃ z, z = u19 := ⟨_, rfl⟩
        obtain ⟨er25, hp23, hp24⟩ := hw20
        have er25 := Eq.symm er25
        subst er25
        have eo22 : o22 = fX6_grow_feasts_ok tfeastsS := hp23
        have hG := zbnd hG eo22
        obtain ⟨hP, hD⟩ := z_re (L := [(x0, .inr (10, [.ref w0, .ref z0, .ref xi, .ref xt, .int x_tl, .ref xq, .int x_lc, .ref rdr, .ref h0, .ref t0, .ref q0, .ref v0, .ref m0])), (w0, .inr (9, [.ref tnodes, .ref tpasses, .ref tjars, .ref torders, .ref tfeasts, .ref tway, .int tws, .int tnow, .int tfm, .int tx])), (tnodes, .inr (6, [.int 4, .ref tnodesA, .int tnodesS])), (tfeasts, .inr (6, [.int 3, .ref tfeastsA, .int o22])), (tfeastsA, .inl (kA 0, 24, .inl tfeastsF))]) hP hD
        refine lv_goto (tgt := 57) hx hb dX10_feast_53 (by decide) ?_
        refine lv_istore (lv' := [(5, .int tfeastsS), (4, .int 1), (0, .ref x0), (1, .int p0), (2, .int p1), (3, .int p2)]) hx hb dX10_feast_57 hl (by decide) rfl (fun ls hl => ?_)
        refine lv_iload hx hb dX10_feast_59 (lv_at hl 0 rfl) ?_
        refine lv_iconst (v := (-1)) hx hb dX10_feast_61 (by decide) ?_
        refine lv_icmp_ne (tgt := 67) hx hb dX10_feast_62 (by decide) (fun _ => ?_) (fun c_27 => absurd c_27 ((fun q => hz0 (by rw [q]; decide))))
        refine lv_aload_n hx hb dX10_feast_67 rfl (lv_at hl 2 rfl) ?_
        refine va_get (D := (dC, dI)) (ci := 10) (v := .ref w0) (C := RX10) (T := TX10) (N := 13) hx hb hts iX10_feast_X10 hown hK.1 hP 0 gz0 vcz10 0 (by decide) (kX10_feast_1 hts) (fun _ h9 => h9) gz0 dX10_feast_68 ?_
        refine va_get (D := (dC, dI)) (ci := 9) (v := .ref tfeasts) (C := RX9) (T := TX9) (N := 10) hx hb hts iX10_feast_X9 hown hK.1 hP 1 gz1 vcz9 4 (by decide) (kX10_feast_3 hts) (fun _ h9 => h9) gz4 dX10_feast_71 ?_
        refine lv_iload hx hb dX10_feast_74 (lv_at hl 0 rfl) ?_
        refine lv_iconst (v := 0) hx hb dX10_feast_76 (by decide) ?_
        refine lv_iload_n hx hb dX10_feast_77 rfl (lv_at hl 3 rfl) ?_
        refine z_v (wr := [(x0, .inr (10, [.ref w0, .ref z0, .ref xi, .ref xt, .int x_tl, .ref xq, .int x_lc, .ref rdr, .ref h0, .ref t0, .ref q0, .ref v0, .ref m0])), (w0, .inr (9, [.ref tnodes, .ref tpasses, .ref tjars, .ref torders, .ref tfeasts, .ref tway, .int tws, .int tnow, .int tfm, .int tx])), (tnodes, .inr (6, [.int 4, .ref tnodesA, .int tnodesS]))]) (va_runV (As := [.int tfeastsS, .int 0, .int p0]) (rest := []) ⟨hx, hb, hml, hown, hts⟩ (mX6_put_24 l dC dI kA _ tfeasts tfeastsA 3 o22 tfeastsF tfeastsS 0 p0) (cwV 3 hts gX10_feast_X6_put rfl rfl rfl ⟨rfl, hdX6_put⟩ ⟨(Nat.le_of_ble_eq_true rfl), (Nat.le_of_ble_eq_true rfl)⟩) ⟨zPc.blind, va_recv (q := (RX6, TX6, 3)) hK.1 hP (ci := 6) (q0 := 3) rfl rfl, zPre hK (hP.sub [3, 4] rfl) (hD.sub [3, 4] (by decide) rfl)⟩ rfl rfl hl.1 rfl (lv_room (Nat.le_of_ble_eq_true rfl)) dX10_feast_78 ⟨(Nat.le_of_ble_eq_true rfl), (Nat.le_of_ble_eq_true rfl)⟩) hP hD hS hA [3, 4] [0, 1, 2] rfl rfl (by decide) (by decide) (fun u28 H locs hw29 hP hD hS => ?_)
        obtain ⟨o31, rfl⟩ : ∃ z, z = u28 := ⟨_, rfl⟩
        have hp32 := hw29
        have eo31 : o31 = fX6_put_24 3 tfeastsF tfeastsS 0 p0 := hp32
        have hG := zbnd hG eo31
        obtain ⟨hP, hD⟩ := z_re (L := [(x0, .inr (10, [.ref w0, .ref z0, .ref xi, .ref xt, .int x_tl, .ref xq, .int x_lc, .ref rdr, .ref h0, .ref t0, .ref q0, .ref v0, .ref m0])), (w0, .inr (9, [.ref tnodes, .ref tpasses, .ref tjars, .ref torders, .ref tfeasts, .ref tway, .int tws, .int tnow, .int tfm, .int tx])), (tnodes, .inr (6, [.int 4, .ref tnodesA, .int tnodesS])), (tfeasts, .inr (6, [.int 3, .ref tfeastsA, .int o22])), (tfeastsA, .inl (kA 0, 24, .inl o31))]) hP hD
        refine lv_aload_n hx hb dX10_feast_81 rfl (lv_at hl 2 rfl) ?_
        refine va_get (D := (dC, dI)) (ci := 10) (v := .ref w0) (C := RX10) (T := TX10) (N := 13) hx hb hts iX10_feast_X10 hown hK.1 hP 0 gz0 vcz10 0 (by decide) (kX10_feast_1 hts) (fun _ h9 => h9) gz0 dX10_feast_82 ?_
        refine va_get (D := (dC, dI)) (ci := 9) (v := .ref tfeasts) (C := RX9) (T := TX9) (N := 10) hx hb hts iX10_feast_X9 hown hK.1 hP 1 gz1 vcz9 4 (by decide) (kX10_feast_3 hts) (fun _ h9 => h9) gz4 dX10_feast_85 ?_
        refine lv_iload hx hb dX10_feast_88 (lv_at hl 0 rfl) ?_
        refine lv_iconst (v := 1) hx hb dX10_feast_90 (by decide) ?_
        refine lv_iload_n hx hb dX10_feast_91 rfl (lv_at hl 4 rfl) ?_
        refine z_v (wr := [(x0, .inr (10, [.ref w0, .ref z0, .ref xi, .ref xt, .int x_tl, .ref xq, .int x_lc, .ref rdr, .ref h0, .ref t0, .ref q0, .ref v0, .ref m0])), (w0, .inr (9, [.ref tnodes, .ref tpasses, .ref tjars, .ref torders, .ref tfeasts, .ref tway, .int tws, .int tnow, .int tfm, .int tx])), (tnodes, .inr (6, [.int 4, .ref tnodesA, .int tnodesS]))]) (va_runV (As := [.int tfeastsS, .int 1, .int p1]) (rest := []) ⟨hx, hb, hml, hown, hts⟩ (mX6_put_24 l dC dI kA _ tfeasts tfeastsA 3 o22 o31 tfeastsS 1 p1) (cwV 3 hts gX10_feast_X6_put rfl rfl rfl ⟨rfl, hdX6_put⟩ ⟨(Nat.le_of_ble_eq_true rfl), (Nat.le_of_ble_eq_true rfl)⟩) ⟨zPc.blind, va_recv (q := (RX6, TX6, 3)) hK.1 hP (ci := 6) (q0 := 3) rfl rfl, zPre hK (hP.sub [3, 4] rfl) (hD.sub [3, 4] (by decide) rfl)⟩ rfl rfl hl.1 rfl (lv_room (Nat.le_of_ble_eq_true rfl)) dX10_feast_92 ⟨(Nat.le_of_ble_eq_true rfl), (Nat.le_of_ble_eq_true rfl)⟩) hP hD hS hA [3, 4] [0, 1, 2] rfl rfl (by decide) (by decide) (fun u34 H locs hw35 hP hD hS => ?_)
        obtain ⟨o37, rfl⟩ : ∃ z, z = u34 := ⟨_, rfl⟩
        have hp38 := hw35
        have eo37 : o37 = fX6_put_24 3 o31 tfeastsS 1 p1 := hp38
        have hG := zbnd hG eo37
        obtain ⟨hP, hD⟩ := z_re (L := [(x0, .inr (10, [.ref w0, .ref z0, .ref xi, .ref xt, .int x_tl, .ref xq, .int x_lc, .ref rdr, .ref h0, .ref t0, .ref q0, .ref v0, .ref m0])), (w0, .inr (9, [.ref tnodes, .ref tpasses, .ref tjars, .ref torders, .ref tfeasts, .ref tway, .int tws, .int tnow, .int tfm, .int tx])), (tnodes, .inr (6, [.int 4, .ref tnodesA, .int tnodesS])), (tfeasts, .inr (6, [.int 3, .ref tfeastsA, .int o22])), (tfeastsA, .inl (kA 0, 24, .inl o37))]) hP hD
        refine lv_aload_n hx hb dX10_feast_95 rfl (lv_at hl 2 rfl) ?_
        refine va_get (D := (dC, dI)) (ci := 10) (v := .ref w0) (C := RX10) (T := TX10) (N := 13) hx hb hts iX10_feast_X10 hown hK.1 hP 0 gz0 vcz10 0 (by decide) (kX10_feast_1 hts) (fun _ h9 => h9) gz0 dX10_feast_96 ?_
        refine va_get (D := (dC, dI)) (ci := 9) (v := .ref tfeasts) (C := RX9) (T := TX9) (N := 10) hx hb hts iX10_feast_X9 hown hK.1 hP 1 gz1 vcz9 4 (by decide) (kX10_feast_3 hts) (fun _ h9 => h9) gz4 dX10_feast_99 ?_
        refine lv_iload hx hb dX10_feast_102 (lv_at hl 0 rfl) ?_
        refine lv_iconst (v := 2) hx hb dX10_feast_104 (by decide) ?_
        refine lv_iload_n hx hb dX10_feast_105 rfl (lv_at hl 5 rfl) ?_
        refine z_v (wr := [(x0, .inr (10, [.ref w0, .ref z0, .ref xi, .ref xt, .int x_tl, .ref xq, .int x_lc, .ref rdr, .ref h0, .ref t0, .ref q0, .ref v0, .ref m0])), (w0, .inr (9, [.ref tnodes, .ref tpasses, .ref tjars, .ref torders, .ref tfeasts, .ref tway, .int tws, .int tnow, .int tfm, .int tx])), (tnodes, .inr (6, [.int 4, .ref tnodesA, .int tnodesS]))]) (va_runV (As := [.int tfeastsS, .int 2, .int p2]) (rest := []) ⟨hx, hb, hml, hown, hts⟩ (mX6_put_24 l dC dI kA _ tfeasts tfeastsA 3 o22 o37 tfeastsS 2 p2) (cwV 3 hts gX10_feast_X6_put rfl rfl rfl ⟨rfl, hdX6_put⟩ ⟨(Nat.le_of_ble_eq_true rfl), (Nat.le_of_ble_eq_true rfl)⟩) ⟨zPc.blind, va_recv (q := (RX6, TX6, 3)) hK.1 hP (ci := 6) (q0 := 3) rfl rfl, zPre hK (hP.sub [3, 4] rfl) (hD.sub [3, 4] (by decide) rfl)⟩ rfl rfl hl.1 rfl (lv_room (Nat.le_of_ble_eq_true rfl)) dX10_feast_106 ⟨(Nat.le_of_ble_eq_true rfl), (Nat.le_of_ble_eq_true rfl)⟩) hP hD hS hA [3, 4] [0, 1, 2] rfl rfl (by decide) (by decide) (fun u40 H locs hw41 hP hD hS => ?_)
        obtain ⟨o43, rfl⟩ : ∃ z, z = u40 := ⟨_, rfl⟩
        have hp44 := hw41
        have eo43 : o43 = fX6_put_24 3 o37 tfeastsS 2 p2 := hp44
        have hG := zbnd hG eo43
        obtain ⟨hP, hD⟩ := z_re (L := [(x0, .inr (10, [.ref w0, .ref z0, .ref xi, .ref xt, .int x_tl, .ref xq, .int x_lc, .ref rdr, .ref h0, .ref t0, .ref q0, .ref v0, .ref m0])), (w0, .inr (9, [.ref tnodes, .ref tpasses, .ref tjars, .ref torders, .ref tfeasts, .ref tway, .int tws, .int tnow, .int tfm, .int tx])), (tnodes, .inr (6, [.int 4, .ref tnodesA, .int tnodesS])), (tfeasts, .inr (6, [.int 3, .ref tfeastsA, .int o22])), (tfeastsA, .inl (kA 0, 24, .inl o43))]) hP hD
        refine lv_iload hx hb dX10_feast_109 (lv_at hl 0 rfl) ?_
        refine lv_iconst (v := 1) hx hb dX10_feast_111 (by decide) ?_
        refine lv_iadd hx hb dX10_feast_112 ?_
        obtain ⟨hP9, hD9⟩ := z_sb (L' := [(x0, .inr (10, [.ref w0, .ref z0, .ref xi, .ref xt, .int x_tl, .ref xq, .int x_lc, .ref rdr, .ref h0, .ref t0, .ref q0, .ref v0, .ref m0])), (w0, .inr (9, [.ref tnodes, .ref tpasses, .ref tjars, .ref torders, .ref tfeasts, .ref tway, .int tws, .int tnow, .int tfm, .int tx])), (tnodes, .inr (6, [.int 4, .ref tnodesA, .int tnodesS])), (tfeasts, .inr (6, [.int 3, .ref tfeastsA, .int o22])), (tfeastsA, .inl (kA 0, 24, .inl o43))]) hP hD [0, 1, 2, 3, 4] (by decide) rfl
        refine W.widen (k := 0) (n := 0) (Nat.le_of_ble_eq_true rfl) (Nat.le_of_ble_eq_true rfl) ?_
        exact W.iret (v := (tfeastsS + 1)) hx hb hr (fun t ht hW => ⟨⟨(tfeastsS + 1), (o22, o43), rfl, ⟨(by simp [sp_fe, c_4, c_4a, c_4b, c_10, c_17, c_17a, c_17b, hp23, hp24, hp32, hp38, hp44, fX6_grow_feasts_ok, bnd]), (hG.trans hG0.symm), (by simp [sp_fez, c_4, c_4a, c_4b, c_10, c_17, c_17a, c_17b, hp23, hp24, hp32, hp38, hp44, fX6_grow_feasts_ok, bnd])⟩, by rw [ht]; exact hP9, hD9⟩, hS.F ht⟩) hS.2.2 dX10_feast_113
set_option maxHeartbeats 4000000 in
set_option maxRecDepth 100000 in
theorem mX10_feast_full (l : Launch) (dC : Nat → ClassId) (dI : Nat → Nat → Nat) (kA : Nat → ClassId) (sz : Nat) (x0 : Nat) (z0 : Nat) (xi : Nat) (xt : Nat) (xq : Nat) (rdr : Nat) (h0 : Nat) (t0 : Nat) (q0 : Nat) (v0 : Nat) (m0 : Nat) (w0 : Nat) (x_tl : Int32) (x_lc : Int32) (tnodes : Nat) (tnodesA : Nat) (tnodesS : Int32) (tpasses : Nat) (tjars : Nat) (torders : Nat) (tfeasts : Nat) (tfeastsA : Nat) (tfeastsF : Nat → Int32) (tway : Nat) (tws : Int32) (tnow : Int32) (tfm : Int32) (tx : Int32) (p0 : Int32) (p1 : Int32) (p2 : Int32)  : Met l yX10_feast wsX10_feast ({ frames := 1, cells := 0, slots := 0, locals := 21 }) (zPc dC dI kA sz [.ref x0, .int p0, .int p1, .int p2] [(x0, .inr (10, [.ref w0, .ref z0, .ref xi, .ref xt, .int x_tl, .ref xq, .int x_lc, .ref rdr, .ref h0, .ref t0, .ref q0, .ref v0, .ref m0])), (w0, .inr (9, [.ref tnodes, .ref tpasses, .ref tjars, .ref torders, .ref tfeasts, .ref tway, .int tws, .int tnow, .int tfm, .int tx])), (tnodes, .inr (6, [.int 4, .ref tnodesA, .int tnodesS])), (tfeasts, .inr (6, [.int 3, .ref tfeastsA, .int 8])), (tfeastsA, .inl (kA 0, 24, .inl tfeastsF))]) (va_Qi (fun (r : Int32) (u : Unit) => r = (-1)) (zB dC dI (va_A [(x0, .inr (10, [.ref w0, .ref z0, .ref xi, .ref xt, .int x_tl, .ref xq, .int x_lc, .ref rdr, .ref h0, .ref t0, .ref q0, .ref v0, .ref m0])), (w0, .inr (9, [.ref tnodes, .ref tpasses, .ref tjars, .ref torders, .ref tfeasts, .ref tway, .int tws, .int tnow, .int tfm, .int tx])), (tnodes, .inr (6, [.int 4, .ref tnodesA, .int tnodesS])), (tfeasts, .inr (6, [.int 3, .ref tfeastsA, .int 8])), (tfeastsA, .inl (kA 0, 24, .inl tfeastsF))] sz) (fun (u : Unit) => [(x0, .inr (10, [.ref w0, .ref z0, .ref xi, .ref xt, .int x_tl, .ref xq, .int x_lc, .ref rdr, .ref h0, .ref t0, .ref q0, .ref v0, .ref m0])), (w0, .inr (9, [.ref tnodes, .ref tpasses, .ref tjars, .ref torders, .ref tfeasts, .ref tway, .int tws, .int tnow, .int tfm, .int tx])), (tnodes, .inr (6, [.int 4, .ref tnodesA, .int tnodesS])), (tfeasts, .inr (6, [.int 3, .ref tfeastsA, .int 8])), (tfeastsA, .inl (kA 0, 24, .inl tfeastsF))])) (va_A [(x0, .inr (10, [.ref w0, .ref z0, .ref xi, .ref xt, .int x_tl, .ref xq, .int x_lc, .ref rdr, .ref h0, .ref t0, .ref q0, .ref v0, .ref m0])), (w0, .inr (9, [.ref tnodes, .ref tpasses, .ref tjars, .ref torders, .ref tfeasts, .ref tway, .int tws, .int tnow, .int tfm, .int tx])), (tnodes, .inr (6, [.int 4, .ref tnodesA, .int tnodesS])), (tfeasts, .inr (6, [.int 3, .ref tfeastsA, .int 8])), (tfeastsA, .inl (kA 0, 24, .inl tfeastsF))] sz)) 0 0 (va_A [(x0, .inr (10, [.ref w0, .ref z0, .ref xi, .ref xt, .int x_tl, .ref xq, .int x_lc, .ref rdr, .ref h0, .ref t0, .ref q0, .ref v0, .ref m0])), (w0, .inr (9, [.ref tnodes, .ref tpasses, .ref tjars, .ref torders, .ref tfeasts, .ref tway, .int tws, .int tnow, .int tfm, .int tx])), (tnodes, .inr (6, [.int 4, .ref tnodesA, .int tnodesS])), (tfeasts, .inr (6, [.int 3, .ref tfeastsA, .int 8])), (tfeastsA, .inl (kA 0, 24, .inl tfeastsF))] sz) := by
  refine Met.ofW (cc := cX10_feast) (maxL := 6) (ret := (some .int)) pnX10 rfl ?_
  intro p e s m args below meth c s₁ B hml hv
  obtain ⟨rfl, hsz, hP, hK, hD0⟩ := hv
  have hx := B.exec
  have hb := B.bytes
  have hr := B.returns
  have hts := atoms_spec (ws := wsX10_feast) B.pre
  have hown : s.vm.findClass RX10 = some m.cls := findClass_of_methodNamed B.named
  have hlocks := B.notSynchronized
  subst hsz
  have hD := hD0.self (sz := s.heap.size)
  generalize hAe : va_A [(x0, .inr (10, [.ref w0, .ref z0, .ref xi, .ref xt, .int x_tl, .ref xq, .int x_lc, .ref rdr, .ref h0, .ref t0, .ref q0, .ref v0, .ref m0])), (w0, .inr (9, [.ref tnodes, .ref tpasses, .ref tjars, .ref torders, .ref tfeasts, .ref tway, .int tws, .int tnow, .int tfm, .int tx])), (tnodes, .inr (6, [.int 4, .ref tnodesA, .int tnodesS])), (tfeasts, .inr (6, [.int 3, .ref tfeastsA, .int 8])), (tfeastsA, .inl (kA 0, 24, .inl tfeastsF))] s.heap.size = A at hD ⊢
  have hA : ∀ q : Nat, s.heap.size ≤ q → A q := zA_of hAe
  have hS : va_S A s.heap s.heap [] := va_S.rf
  have hP : va_P (dC, dI) vwCl [(x0, .inr (10, [.ref w0, .ref z0, .ref xi, .ref xt, .int x_tl, .ref xq, .int x_lc, .ref rdr, .ref h0, .ref t0, .ref q0, .ref v0, .ref m0])), (w0, .inr (9, [.ref tnodes, .ref tpasses, .ref tjars, .ref torders, .ref tfeasts, .ref tway, .int tws, .int tnow, .int tfm, .int tx])), (tnodes, .inr (6, [.int 4, .ref tnodesA, .int tnodesS])), (tfeasts, .inr (6, [.int 3, .ref tfeastsA, .int 8])), (tfeastsA, .inl (kA 0, 24, .inl tfeastsF))] s.heap := hP
  have hl := lv_entry ([.ref x0, .int p0, .int p1, .int p2]) (n := 6) (Nat.le_of_ble_eq_true rfl)
  rw [lg_entry_eq]
  generalize (lg_sl ([.ref x0, .int p0, .int p1, .int p2]) ++ List.replicate (6 - (lg_sl ([.ref x0, .int p0, .int p1, .int p2])).length) Slot.unset).toArray = ls at hl ⊢
  have hl : lv_has ls 6 [(0, .ref x0), (1, .int p0), (2, .int p1), (3, .int p2)] := hl
  refine lv_iload_n hx hb dX10_feast_0 rfl (lv_at hl 2 rfl) ?_
  refine lv_sipush (v := 4166) hx hb dX10_feast_1 (by decide) ?_
  refine z_i (wr := [(x0, .inr (10, [.ref w0, .ref z0, .ref xi, .ref xt, .int x_tl, .ref xq, .int x_lc, .ref rdr, .ref h0, .ref t0, .ref q0, .ref v0, .ref m0])), (w0, .inr (9, [.ref tnodes, .ref tpasses, .ref tjars, .ref torders, .ref tfeasts, .ref tway, .int tws, .int tnow, .int tfm, .int tx])), (tnodes, .inr (6, [.int 4, .ref tnodesA, .int tnodesS])), (tfeasts, .inr (6, [.int 3, .ref tfeastsA, .int 8])), (tfeastsA, .inl (kA 0, 24, .inl tfeastsF))]) (va_runS (As := [.int p1, .int 4166]) (rest := []) ⟨hx, hb, hml, hown, hts⟩ (mX10_within l dC dI kA _ p1 4166) (va_cwS 2 hts gX10_feast_X10_within rfl rfl rfl hdX10_within ⟨(Nat.le_of_ble_eq_true rfl), (Nat.le_of_ble_eq_true rfl)⟩) ⟨zPc.blind, zPre hK (hP.sub [] rfl) (hD.sub [] (by decide) rfl)⟩ rfl rfl hl.1 rfl (lv_room (Nat.le_of_ble_eq_true rfl)) dX10_feast_4 ⟨(Nat.le_of_ble_eq_true rfl), (Nat.le_of_ble_eq_true rfl)⟩) hP hD hS hA [] [0, 1, 2, 3, 4] rfl rfl (by decide) (by decide) (fun r3 u1 H locs hw2 hP hD hS => ?_)
  obtain rfl := hw2
  obtain ⟨hP, hD⟩ := z_re (L := [(x0, .inr (10, [.ref w0, .ref z0, .ref xi, .ref xt, .int x_tl, .ref xq, .int x_lc, .ref rdr, .ref h0, .ref t0, .ref q0, .ref v0, .ref m0])), (w0, .inr (9, [.ref tnodes, .ref tpasses, .ref tjars, .ref torders, .ref tfeasts, .ref tway, .int tws, .int tnow, .int tfm, .int tx])), (tnodes, .inr (6, [.int 4, .ref tnodesA, .int tnodesS])), (tfeasts, .inr (6, [.int 3, .ref tfeastsA, .int 8])), (tfeastsA, .inl (kA 0, 24, .inl tfeastsF))]) hP hD
  refine lv_if_eq (tgt := 21) hx hb dX10_feast_7 (by decide) (fun c_4 => ?_) (fun c_4 => ?_)
  · refine lv_iconst (v := 0) hx hb dX10_feast_21 (by decide) ?_
    refine lv_istore (lv' := [(4, .int 0), (0, .ref x0), (1, .int p0), (2, .int p1), (3, .int p2)]) hx hb dX10_feast_22 hl (by decide) rfl (fun ls hl => ?_)
    refine lv_iload hx hb dX10_feast_24 (lv_at hl 0 rfl) ?_
    refine lv_if_eq (tgt := 56) hx hb dX10_feast_26 (by decide) (fun _ => ?_) (fun c_5 => absurd (by decide) c_5)
    refine lv_iconst (v := (-1)) hx hb dX10_feast_56 (by decide) ?_
    refine lv_istore (lv' := [(5, .int (-1)), (4, .int 0), (0, .ref x0), (1, .int p0), (2, .int p1), (3, .int p2)]) hx hb dX10_feast_57 hl (by decide) rfl (fun ls hl => ?_)
    refine lv_iload hx hb dX10_feast_59 (lv_at hl 0 rfl) ?_
    refine lv_iconst (v := (-1)) hx hb dX10_feast_61 (by decide) ?_
    refine lv_icmp_ne (tgt := 67) hx hb dX10_feast_62 (by decide) (fun c_6 => absurd (by decide) c_6) (fun _ => ?_)
    refine lv_iconst (v := (-1)) hx hb dX10_feast_65 (by decide) ?_
    obtain ⟨hP9, hD9⟩ := z_sb (L' := [(x0, .inr (10, [.ref w0, .ref z0, .ref xi, .ref xt, .int x_tl, .ref xq, .int x_lc, .ref rdr, .ref h0, .ref t0, .ref q0, .ref v0, .ref m0])), (w0, .inr (9, [.ref tnodes, .ref tpasses, .ref tjars, .ref torders, .ref tfeasts, .ref tway, .int tws, .int tnow, .int tfm, .int tx])), (tnodes, .inr (6, [.int 4, .ref tnodesA, .int tnodesS])), (tfeasts, .inr (6, [.int 3, .ref tfeastsA, .int 8])), (tfeastsA, .inl (kA 0, 24, .inl tfeastsF))]) hP hD [0, 1, 2, 3, 4] (by decide) rfl
    refine W.widen (k := 0) (n := 0) (Nat.le_of_ble_eq_true rfl) (Nat.le_of_ble_eq_true rfl) ?_
    exact W.iret (v := (-1)) hx hb hr (fun t ht hW => ⟨⟨(-1), (), rfl, rfl, by rw [ht]; exact hP9, hD9⟩, hS.F ht⟩) hS.2.2 dX10_feast_66
  · have c_4a := wi_ne c_4
    have c_4b := c_4a.2
    have c_4a := c_4a.1
    refine lv_iload_n hx hb dX10_feast_10 rfl (lv_at hl 3 rfl) ?_
    refine z_i (wr := [(x0, .inr (10, [.ref w0, .ref z0, .ref xi, .ref xt, .int x_tl, .ref xq, .int x_lc, .ref rdr, .ref h0, .ref t0, .ref q0, .ref v0, .ref m0])), (w0, .inr (9, [.ref tnodes, .ref tpasses, .ref tjars, .ref torders, .ref tfeasts, .ref tway, .int tws, .int tnow, .int tfm, .int tx])), (tnodes, .inr (6, [.int 4, .ref tnodesA, .int tnodesS])), (tfeasts, .inr (6, [.int 3, .ref tfeastsA, .int 8])), (tfeastsA, .inl (kA 0, 24, .inl tfeastsF))]) (va_runS (As := [.int p2]) (rest := []) ⟨hx, hb, hml, hown, hts⟩ (mX10_isWish l dC dI kA _ p2) (va_cwS 1 hts gX10_feast_X10_isWish rfl rfl rfl hdX10_isWish ⟨(Nat.le_of_ble_eq_true rfl), (Nat.le_of_ble_eq_true rfl)⟩) ⟨zPc.blind, zPre hK (hP.sub [] rfl) (hD.sub [] (by decide) rfl)⟩ rfl rfl hl.1 rfl (lv_room (Nat.le_of_ble_eq_true rfl)) dX10_feast_11 ⟨(Nat.le_of_ble_eq_true rfl), (Nat.le_of_ble_eq_true rfl)⟩) hP hD hS hA [] [0, 1, 2, 3, 4] rfl rfl (by decide) (by decide) (fun r9 u7 H locs hw8 hP hD hS => ?_)
    obtain rfl := hw8
    obtain ⟨hP, hD⟩ := z_re (L := [(x0, .inr (10, [.ref w0, .ref z0, .ref xi, .ref xt, .int x_tl, .ref xq, .int x_lc, .ref rdr, .ref h0, .ref t0, .ref q0, .ref v0, .ref m0])), (w0, .inr (9, [.ref tnodes, .ref tpasses, .ref tjars, .ref torders, .ref tfeasts, .ref tway, .int tws, .int tnow, .int tfm, .int tx])), (tnodes, .inr (6, [.int 4, .ref tnodesA, .int tnodesS])), (tfeasts, .inr (6, [.int 3, .ref tfeastsA, .int 8])), (tfeastsA, .inl (kA 0, 24, .inl tfeastsF))]) hP hD
    refine lv_if_eq (tgt := 21) hx hb dX10_feast_14 (by decide) (fun c_10 => ?_) (fun c_10 => ?_)
    · refine lv_iconst (v := 0) hx hb dX10_feast_21 (by decide) ?_
      refine lv_istore (lv' := [(4, .int 0), (0, .ref x0), (1, .int p0), (2, .int p1), (3, .int p2)]) hx hb dX10_feast_22 hl (by decide) rfl (fun ls hl => ?_)
      refine lv_iload hx hb dX10_feast_24 (lv_at hl 0 rfl) ?_
      refine lv_if_eq (tgt := 56) hx hb dX10_feast_26 (by decide) (fun _ => ?_) (fun c_11 => absurd (by decide) c_11)
      refine lv_iconst (v := (-1)) hx hb dX10_feast_56 (by decide) ?_
      refine lv_istore (lv' := [(5, .int (-1)), (4, .int 0), (0, .ref x0), (1, .int p0), (2, .int p1), (3, .int p2)]) hx hb dX10_feast_57 hl (by decide) rfl (fun ls hl => ?_)
      refine lv_iload hx hb dX10_feast_59 (lv_at hl 0 rfl) ?_
      refine lv_iconst (v := (-1)) hx hb dX10_feast_61 (by decide) ?_
      refine lv_icmp_ne (tgt := 67) hx hb dX10_feast_62 (by decide) (fun c_12 => absurd (by decide) c_12) (fun _ => ?_)
      refine lv_iconst (v := (-1)) hx hb dX10_feast_65 (by decide) ?_
      obtain ⟨hP9, hD9⟩ := z_sb (L' := [(x0, .inr (10, [.ref w0, .ref z0, .ref xi, .ref xt, .int x_tl, .ref xq, .int x_lc, .ref rdr, .ref h0, .ref t0, .ref q0, .ref v0, .ref m0])), (w0, .inr (9, [.ref tnodes, .ref tpasses, .ref tjars, .ref torders, .ref tfeasts, .ref tway, .int tws, .int tnow, .int tfm, .int tx])), (tnodes, .inr (6, [.int 4, .ref tnodesA, .int tnodesS])), (tfeasts, .inr (6, [.int 3, .ref tfeastsA, .int 8])), (tfeastsA, .inl (kA 0, 24, .inl tfeastsF))]) hP hD [0, 1, 2, 3, 4] (by decide) rfl
      refine W.widen (k := 0) (n := 0) (Nat.le_of_ble_eq_true rfl) (Nat.le_of_ble_eq_true rfl) ?_
      exact W.iret (v := (-1)) hx hb hr (fun t ht hW => ⟨⟨(-1), (), rfl, rfl, by rw [ht]; exact hP9, hD9⟩, hS.F ht⟩) hS.2.2 dX10_feast_66
    · refine lv_iconst (v := 1) hx hb dX10_feast_17 (by decide) ?_
      refine lv_goto (tgt := 22) hx hb dX10_feast_18 (by decide) ?_
      refine lv_istore (lv' := [(4, .int 1), (0, .ref x0), (1, .int p0), (2, .int p1), (3, .int p2)]) hx hb dX10_feast_22 hl (by decide) rfl (fun ls hl => ?_)
      refine lv_iload hx hb dX10_feast_24 (lv_at hl 0 rfl) ?_
      refine lv_if_eq (tgt := 56) hx hb dX10_feast_26 (by decide) (fun c_13 => absurd c_13 (by decide)) (fun _ => ?_)
      refine lv_aload_n hx hb dX10_feast_29 rfl (lv_at hl 1 rfl) ?_
      refine va_get (D := (dC, dI)) (ci := 10) (v := .ref w0) (C := RX10) (T := TX10) (N := 13) hx hb hts iX10_feast_X10 hown hK.1 hP 0 gz0 vcz10 0 (by decide) (kX10_feast_1 hts) (fun _ h9 => h9) gz0 dX10_feast_30 ?_
      refine va_get (D := (dC, dI)) (ci := 9) (v := .ref tnodes) (C := RX9) (T := TX9) (N := 10) hx hb hts iX10_feast_X9 hown hK.1 hP 1 gz1 vcz9 0 (by decide) (kX10_feast_2 hts) (fun _ h9 => h9) gz0 dX10_feast_33 ?_
      refine lv_iload_n hx hb dX10_feast_36 rfl (lv_at hl 2 rfl) ?_
      refine z_i (wr := [(x0, .inr (10, [.ref w0, .ref z0, .ref xi, .ref xt, .int x_tl, .ref xq, .int x_lc, .ref rdr, .ref h0, .ref t0, .ref q0, .ref v0, .ref m0])), (w0, .inr (9, [.ref tnodes, .ref tpasses, .ref tjars, .ref torders, .ref tfeasts, .ref tway, .int tws, .int tnow, .int tfm, .int tx])), (tfeasts, .inr (6, [.int 3, .ref tfeastsA, .int 8])), (tfeastsA, .inl (kA 0, 24, .inl tfeastsF))]) (va_runV (As := [.int p0]) (rest := []) ⟨hx, hb, hml, hown, hts⟩ (mX6_has l dC dI kA _ tnodes tnodesA 4 tnodesS p0) (cwV 1 hts gX10_feast_X6_has rfl rfl rfl ⟨rfl, hdX6_has⟩ ⟨(Nat.le_of_ble_eq_true rfl), (Nat.le_of_ble_eq_true rfl)⟩) ⟨zPc.blind, va_recv (q := (RX6, TX6, 3)) hK.1 hP (ci := 6) (q0 := 2) rfl rfl, zPre hK (hP.sub [2] rfl) (hD.sub [2] (by decide) rfl)⟩ rfl rfl hl.1 rfl (lv_room (Nat.le_of_ble_eq_true rfl)) dX10_feast_37 ⟨(Nat.le_of_ble_eq_true rfl), (Nat.le_of_ble_eq_true rfl)⟩) hP hD hS hA [2] [0, 1, 3, 4] rfl rfl (by decide) (by decide) (fun r16 u14 H locs hw15 hP hD hS => ?_)
      obtain rfl := hw15
      obtain ⟨hP, hD⟩ := z_re (L := [(x0, .inr (10, [.ref w0, .ref z0, .ref xi, .ref xt, .int x_tl, .ref xq, .int x_lc, .ref rdr, .ref h0, .ref t0, .ref q0, .ref v0, .ref m0])), (w0, .inr (9, [.ref tnodes, .ref tpasses, .ref tjars, .ref torders, .ref tfeasts, .ref tway, .int tws, .int tnow, .int tfm, .int tx])), (tfeasts, .inr (6, [.int 3, .ref tfeastsA, .int 8])), (tfeastsA, .inl (kA 0, 24, .inl tfeastsF)), (tnodes, .inr (6, [.int 4, .ref tnodesA, .int tnodesS]))]) hP hD
      refine lv_if_eq (tgt := 56) hx hb dX10_feast_40 (by decide) (fun c_17 => ?_) (fun c_17 => ?_)
      · refine lv_iconst (v := (-1)) hx hb dX10_feast_56 (by decide) ?_
        refine lv_istore (lv' := [(5, .int (-1)), (4, .int 1), (0, .ref x0), (1, .int p0), (2, .int p1), (3, .int p2)]) hx hb dX10_feast_57 hl (by decide) rfl (fun ls hl => ?_)
        refine lv_iload hx hb dX10_feast_59 (lv_at hl 0 rfl) ?_
        refine lv_iconst (v := (-1)) hx hb dX10_feast_61 (by decide) ?_
        refine lv_icmp_ne (tgt := 67) hx hb dX10_feast_62 (by decide) (fun c_18 => absurd (by decide) c_18) (fun _ => ?_)
        refine lv_iconst (v := (-1)) hx hb dX10_feast_65 (by decide) ?_
        obtain ⟨hP9, hD9⟩ := z_sb (L' := [(x0, .inr (10, [.ref w0, .ref z0, .ref xi, .ref xt, .int x_tl, .ref xq, .int x_lc, .ref rdr, .ref h0, .ref t0, .ref q0, .ref v0, .ref m0])), (w0, .inr (9, [.ref tnodes, .ref tpasses, .ref tjars, .ref torders, .ref tfeasts, .ref tway, .int tws, .int tnow, .int tfm, .int tx])), (tnodes, .inr (6, [.int 4, .ref tnodesA, .int tnodesS])), (tfeasts, .inr (6, [.int 3, .ref tfeastsA, .int 8])), (tfeastsA, .inl (kA 0, 24, .inl tfeastsF))]) hP hD [0, 1, 4, 2, 3] (by decide) rfl
        refine W.widen (k := 0) (n := 0) (Nat.le_of_ble_eq_true rfl) (Nat.le_of_ble_eq_true rfl) ?_
        exact W.iret (v := (-1)) hx hb hr (fun t ht hW => ⟨⟨(-1), (), rfl, rfl, by rw [ht]; exact hP9, hD9⟩, hS.F ht⟩) hS.2.2 dX10_feast_66
      · have c_17a := hs_ne c_17
        have c_17b := c_17a.2
        have c_17a := c_17a.1
        refine lv_aload_n hx hb dX10_feast_43 rfl (lv_at hl 1 rfl) ?_
        refine va_get (D := (dC, dI)) (ci := 10) (v := .ref w0) (C := RX10) (T := TX10) (N := 13) hx hb hts iX10_feast_X10 hown hK.1 hP 0 gz0 vcz10 0 (by decide) (kX10_feast_1 hts) (fun _ h9 => h9) gz0 dX10_feast_44 ?_
        refine va_get (D := (dC, dI)) (ci := 9) (v := .ref tfeasts) (C := RX9) (T := TX9) (N := 10) hx hb hts iX10_feast_X9 hown hK.1 hP 1 gz1 vcz9 4 (by decide) (kX10_feast_3 hts) (fun _ h9 => h9) gz4 dX10_feast_47 ?_
        refine z_i (wr := [(x0, .inr (10, [.ref w0, .ref z0, .ref xi, .ref xt, .int x_tl, .ref xq, .int x_lc, .ref rdr, .ref h0, .ref t0, .ref q0, .ref v0, .ref m0])), (w0, .inr (9, [.ref tnodes, .ref tpasses, .ref tjars, .ref torders, .ref tfeasts, .ref tway, .int tws, .int tnow, .int tfm, .int tx])), (tnodes, .inr (6, [.int 4, .ref tnodesA, .int tnodesS]))]) (va_runV (As := []) (rest := []) ⟨hx, hb, hml, hown, hts⟩ (mX6_grow_feasts_full l dC dI kA _ tfeasts tfeastsA tfeastsF) (cwV 0 hts gX10_feast_X6_grow rfl rfl rfl ⟨rfl, hdX6_grow⟩ ⟨(Nat.le_of_ble_eq_true rfl), (Nat.le_of_ble_eq_true rfl)⟩) ⟨zPc.blind, va_recv (q := (RX6, TX6, 3)) hK.1 hP (ci := 6) (q0 := 2) rfl rfl, zPre hK (hP.sub [2, 3] rfl) (hD.sub [2, 3] (by decide) rfl)⟩ rfl rfl hl.1 rfl (lv_room (Nat.le_of_ble_eq_true rfl)) dX10_feast_50 ⟨(Nat.le_of_ble_eq_true rfl), (Nat.le_of_ble_eq_true rfl)⟩) hP hD hS hA [2, 3] [0, 1, 4] rfl rfl (by decide) (by decide) (fun r21 u19 H locs hw20 hP hD hS => ?_)
        obtain rfl := hw20
        obtain ⟨hP, hD⟩ := z_re (L := [(x0, .inr (10, [.ref w0, .ref z0, .ref xi, .ref xt, .int x_tl, .ref xq, .int x_lc, .ref rdr, .ref h0, .ref t0, .ref q0, .ref v0, .ref m0])), (w0, .inr (9, [.ref tnodes, .ref tpasses, .ref tjars, .ref torders, .ref tfeasts, .ref tway, .int tws, .int tnow, .int tfm, .int tx])), (tnodes, .inr (6, [.int 4, .ref tnodesA, .int tnodesS])), (tfeasts, .inr (6, [.int 3, .ref tfeastsA, .int 8])), (tfeastsA, .inl (kA 0, 24, .inl tfeastsF))]) hP hD
        refine lv_goto (tgt := 57) hx hb dX10_feast_53 (by decide) ?_
        refine lv_istore (lv' := [(5, .int (-1)), (4, .int 1), (0, .ref x0), (1, .int p0), (2, .int p1), (3, .int p2)]) hx hb dX10_feast_57 hl (by decide) rfl (fun ls hl => ?_)
        refine lv_iload hx hb dX10_feast_59 (lv_at hl 0 rfl) ?_
        refine lv_iconst (v := (-1)) hx hb dX10_feast_61 (by decide) ?_
        refine lv_icmp_ne (tgt := 67) hx hb dX10_feast_62 (by decide) (fun c_22 => absurd (by decide) c_22) (fun _ => ?_)
        refine lv_iconst (v := (-1)) hx hb dX10_feast_65 (by decide) ?_
        obtain ⟨hP9, hD9⟩ := z_sb (L' := [(x0, .inr (10, [.ref w0, .ref z0, .ref xi, .ref xt, .int x_tl, .ref xq, .int x_lc, .ref rdr, .ref h0, .ref t0, .ref q0, .ref v0, .ref m0])), (w0, .inr (9, [.ref tnodes, .ref tpasses, .ref tjars, .ref torders, .ref tfeasts, .ref tway, .int tws, .int tnow, .int tfm, .int tx])), (tnodes, .inr (6, [.int 4, .ref tnodesA, .int tnodesS])), (tfeasts, .inr (6, [.int 3, .ref tfeastsA, .int 8])), (tfeastsA, .inl (kA 0, 24, .inl tfeastsF))]) hP hD [0, 1, 2, 3, 4] (by decide) rfl
        refine W.widen (k := 0) (n := 0) (Nat.le_of_ble_eq_true rfl) (Nat.le_of_ble_eq_true rfl) ?_
        exact W.iret (v := (-1)) hx hb hr (fun t ht hW => ⟨⟨(-1), (), rfl, rfl, by rw [ht]; exact hP9, hD9⟩, hS.F ht⟩) hS.2.2 dX10_feast_66
set_option maxRecDepth 100000 in
def fX10_month_ok (tfm : Int32) (p0 : Int32) : Int32 := if (wi p0 11) = 0 then (tfm) else (p0)
set_option maxHeartbeats 4000000 in
set_option maxRecDepth 100000 in
theorem mX10_month_ok (l : Launch) (dC : Nat → ClassId) (dI : Nat → Nat → Nat) (kA : Nat → ClassId) (sz : Nat) (x0 : Nat) (z0 : Nat) (xi : Nat) (xt : Nat) (xq : Nat) (rdr : Nat) (h0 : Nat) (t0 : Nat) (q0 : Nat) (v0 : Nat) (m0 : Nat) (w0 : Nat) (x_tl : Int32) (x_lc : Int32) (tnodes : Nat) (tpasses : Nat) (tjars : Nat) (torders : Nat) (tfeasts : Nat) (tway : Nat) (tws : Int32) (tnow : Int32) (tfm : Int32) (tx : Int32) (p0 : Int32)  : Met l yX10_month wsX10_month ({ frames := 1, cells := 0, slots := 0, locals := 21 }) (zPc dC dI kA sz [.ref x0, .int p0] [(x0, .inr (10, [.ref w0, .ref z0, .ref xi, .ref xt, .int x_tl, .ref xq, .int x_lc, .ref rdr, .ref h0, .ref t0, .ref q0, .ref v0, .ref m0])), (w0, .inr (9, [.ref tnodes, .ref tpasses, .ref tjars, .ref torders, .ref tfeasts, .ref tway, .int tws, .int tnow, .int tfm, .int tx]))]) (va_Qi (fun (r : Int32) (u : Int32) => r = (sp_mo p0 tfm) ∧ u = fX10_month_ok tfm p0 ∧ u = (sp_moz p0 tfm)) (zB dC dI (va_A [(x0, .inr (10, [.ref w0, .ref z0, .ref xi, .ref xt, .int x_tl, .ref xq, .int x_lc, .ref rdr, .ref h0, .ref t0, .ref q0, .ref v0, .ref m0])), (w0, .inr (9, [.ref tnodes, .ref tpasses, .ref tjars, .ref torders, .ref tfeasts, .ref tway, .int tws, .int tnow, .int tfm, .int tx]))] sz) (fun (u : Int32) => [(x0, .inr (10, [.ref w0, .ref z0, .ref xi, .ref xt, .int x_tl, .ref xq, .int x_lc, .ref rdr, .ref h0, .ref t0, .ref q0, .ref v0, .ref m0])), (w0, .inr (9, [.ref tnodes, .ref tpasses, .ref tjars, .ref torders, .ref tfeasts, .ref tway, .int tws, .int tnow, .int u, .int tx]))])) (va_A [(x0, .inr (10, [.ref w0, .ref z0, .ref xi, .ref xt, .int x_tl, .ref xq, .int x_lc, .ref rdr, .ref h0, .ref t0, .ref q0, .ref v0, .ref m0])), (w0, .inr (9, [.ref tnodes, .ref tpasses, .ref tjars, .ref torders, .ref tfeasts, .ref tway, .int tws, .int tnow, .int tfm, .int tx]))] sz)) 0 0 (va_A [(x0, .inr (10, [.ref w0, .ref z0, .ref xi, .ref xt, .int x_tl, .ref xq, .int x_lc, .ref rdr, .ref h0, .ref t0, .ref q0, .ref v0, .ref m0])), (w0, .inr (9, [.ref tnodes, .ref tpasses, .ref tjars, .ref torders, .ref tfeasts, .ref tway, .int tws, .int tnow, .int tfm, .int tx]))] sz) := by
  refine Met.ofW (cc := cX10_month) (maxL := 3) (ret := (some .int)) pnX10 rfl ?_
  intro p e s m args below meth c s₁ B hml hv
  obtain ⟨rfl, hsz, hP, hK, hD0⟩ := hv
  have hx := B.exec
  have hb := B.bytes
  have hr := B.returns
  have hts := atoms_spec (ws := wsX10_month) B.pre
  have hown : s.vm.findClass RX10 = some m.cls := findClass_of_methodNamed B.named
  have hlocks := B.notSynchronized
  subst hsz
  have hD := hD0.self (sz := s.heap.size)
  generalize hAe : va_A [(x0, .inr (10, [.ref w0, .ref z0, .ref xi, .ref xt, .int x_tl, .ref xq, .int x_lc, .ref rdr, .ref h0, .ref t0, .ref q0, .ref v0, .ref m0])), (w0, .inr (9, [.ref tnodes, .ref tpasses, .ref tjars, .ref torders, .ref tfeasts, .ref tway, .int tws, .int tnow, .int tfm, .int tx]))] s.heap.size = A at hD ⊢
  have hA : ∀ q : Nat, s.heap.size ≤ q → A q := zA_of hAe
  have hS : va_S A s.heap s.heap [] := va_S.rf
  have hP : va_P (dC, dI) vwCl [(x0, .inr (10, [.ref w0, .ref z0, .ref xi, .ref xt, .int x_tl, .ref xq, .int x_lc, .ref rdr, .ref h0, .ref t0, .ref q0, .ref v0, .ref m0])), (w0, .inr (9, [.ref tnodes, .ref tpasses, .ref tjars, .ref torders, .ref tfeasts, .ref tway, .int tws, .int tnow, .int tfm, .int tx]))] s.heap := hP
  have hl := lv_entry ([.ref x0, .int p0]) (n := 3) (Nat.le_of_ble_eq_true rfl)
  rw [lg_entry_eq]
  generalize (lg_sl ([.ref x0, .int p0]) ++ List.replicate (3 - (lg_sl ([.ref x0, .int p0])).length) Slot.unset).toArray = ls at hl ⊢
  have hl : lv_has ls 3 [(0, .ref x0), (1, .int p0)] := hl
  obtain ⟨G, hG0⟩ : ∃ G : Int32, fX10_month_ok tfm p0 = G := ⟨_, rfl⟩
  have hG := hG0
  unfold fX10_month_ok at hG
  refine lv_iload_n hx hb dX10_month_0 rfl (lv_at hl 1 rfl) ?_
  refine lv_bipush (v := 11) hx hb dX10_month_1 (by decide) ?_
  refine z_i (wr := [(x0, .inr (10, [.ref w0, .ref z0, .ref xi, .ref xt, .int x_tl, .ref xq, .int x_lc, .ref rdr, .ref h0, .ref t0, .ref q0, .ref v0, .ref m0])), (w0, .inr (9, [.ref tnodes, .ref tpasses, .ref tjars, .ref torders, .ref tfeasts, .ref tway, .int tws, .int tnow, .int tfm, .int tx]))]) (va_runS (As := [.int p0, .int 11]) (rest := []) ⟨hx, hb, hml, hown, hts⟩ (mX10_within l dC dI kA _ p0 11) (va_cwS 2 hts gX10_month_X10_within rfl rfl rfl hdX10_within ⟨(Nat.le_of_ble_eq_true rfl), (Nat.le_of_ble_eq_true rfl)⟩) ⟨zPc.blind, zPre hK (hP.sub [] rfl) (hD.sub [] (by decide) rfl)⟩ rfl rfl hl.1 rfl (lv_room (Nat.le_of_ble_eq_true rfl)) dX10_month_3 ⟨(Nat.le_of_ble_eq_true rfl), (Nat.le_of_ble_eq_true rfl)⟩) hP hD hS hA [] [0, 1] rfl rfl (by decide) (by decide) (fun r3 u1 H locs hw2 hP hD hS => ?_)
  obtain rfl := hw2
  obtain ⟨hP, hD⟩ := z_re (L := [(x0, .inr (10, [.ref w0, .ref z0, .ref xi, .ref xt, .int x_tl, .ref xq, .int x_lc, .ref rdr, .ref h0, .ref t0, .ref q0, .ref v0, .ref m0])), (w0, .inr (9, [.ref tnodes, .ref tpasses, .ref tjars, .ref torders, .ref tfeasts, .ref tway, .int tws, .int tnow, .int tfm, .int tx]))]) hP hD
  refine lv_if_ne (tgt := 11) hx hb dX10_month_6 (by decide) (fun c_4 => ?_) (fun c_4 => ?_)
  · have hG := zelse hG c_4
    have c_4a := wi_ne c_4
    have c_4b := c_4a.2
    have c_4a := c_4a.1
    refine lv_aload_n hx hb dX10_month_11 rfl (lv_at hl 0 rfl) ?_
    refine va_get (D := (dC, dI)) (ci := 10) (v := .ref w0) (C := RX10) (T := TX10) (N := 13) hx hb hts iX10_month_X10 hown hK.1 hP 0 gz0 vcz10 0 (by decide) (kX10_month_1 hts) (fun _ h9 => h9) gz0 dX10_month_12 ?_
    refine va_get (D := (dC, dI)) (ci := 9) (v := .int tfm) (C := RX9) (T := TX9) (N := 10) hx hb hts iX10_month_X9 hown hK.1 hP 1 gz1 vcz9 8 (by decide) (kX10_month_2 hts) (fun _ h9 => h9) gz8 dX10_month_15 ?_
    refine lv_istore_n (lv' := [(2, .int tfm), (0, .ref x0), (1, .int p0)]) hx hb dX10_month_18 rfl hl (by decide) rfl (fun ls hl => ?_)
    refine lv_aload_n hx hb dX10_month_19 rfl (lv_at hl 1 rfl) ?_
    refine va_get (D := (dC, dI)) (ci := 10) (v := .ref w0) (C := RX10) (T := TX10) (N := 13) hx hb hts iX10_month_X10 hown hK.1 hP 0 gz0 vcz10 0 (by decide) (kX10_month_1 hts) (fun _ h9 => h9) gz0 dX10_month_20 ?_
    refine lv_iload_n hx hb dX10_month_23 rfl (lv_at hl 2 rfl) ?_
    refine va_put (D := (dC, dI)) (ci := 9) (v := .int p0) (ty := .int) (C := RX9) (T := TX9) (N := 10) hx hb hts iX10_month_X9 tyX9 tyX9_ok nmX9 hown hK.1 hP hD hS 1 gz1 vcz9 8 (by decide) (kX10_month_2 hts) (fun _ h9 => h9) rfl pfdI rfl rfl (Nat.le_of_ble_eq_true rfl) dX10_month_24 (fun H locs hP hD hS => ?_)
    obtain ⟨hP, hD⟩ := z_re (L := [(x0, .inr (10, [.ref w0, .ref z0, .ref xi, .ref xt, .int x_tl, .ref xq, .int x_lc, .ref rdr, .ref h0, .ref t0, .ref q0, .ref v0, .ref m0])), (w0, .inr (9, [.ref tnodes, .ref tpasses, .ref tjars, .ref torders, .ref tfeasts, .ref tway, .int tws, .int tnow, .int p0, .int tx]))]) hP hD
    refine lv_iload_n hx hb dX10_month_27 rfl (lv_at hl 0 rfl) ?_
    obtain ⟨hP9, hD9⟩ := z_sb (L' := [(x0, .inr (10, [.ref w0, .ref z0, .ref xi, .ref xt, .int x_tl, .ref xq, .int x_lc, .ref rdr, .ref h0, .ref t0, .ref q0, .ref v0, .ref m0])), (w0, .inr (9, [.ref tnodes, .ref tpasses, .ref tjars, .ref torders, .ref tfeasts, .ref tway, .int tws, .int tnow, .int p0, .int tx]))]) hP hD [0, 1] (by decide) rfl
    refine W.widen (k := 0) (n := 0) (Nat.le_of_ble_eq_true rfl) (Nat.le_of_ble_eq_true rfl) ?_
    exact W.iret (v := tfm) hx hb hr (fun t ht hW => ⟨⟨tfm, (p0), rfl, ⟨(by simp [sp_mo, c_4, c_4a, c_4b]), (hG.trans hG0.symm), (by simp [sp_moz, c_4, c_4a, c_4b])⟩, by rw [ht]; exact hP9, hD9⟩, hS.F ht⟩) hS.2.2 dX10_month_28
  · have hG := zthen hG c_4
    refine lv_iconst (v := (-1)) hx hb dX10_month_9 (by decide) ?_
    obtain ⟨hP9, hD9⟩ := z_sb (L' := [(x0, .inr (10, [.ref w0, .ref z0, .ref xi, .ref xt, .int x_tl, .ref xq, .int x_lc, .ref rdr, .ref h0, .ref t0, .ref q0, .ref v0, .ref m0])), (w0, .inr (9, [.ref tnodes, .ref tpasses, .ref tjars, .ref torders, .ref tfeasts, .ref tway, .int tws, .int tnow, .int tfm, .int tx]))]) hP hD [0, 1] (by decide) rfl
    refine W.widen (k := 0) (n := 0) (Nat.le_of_ble_eq_true rfl) (Nat.le_of_ble_eq_true rfl) ?_
    exact W.iret (v := (-1)) hx hb hr (fun t ht hW => ⟨⟨(-1), (tfm), rfl, ⟨(by simp [sp_mo, c_4]), (hG.trans hG0.symm), (by simp [sp_moz, c_4])⟩, by rw [ht]; exact hP9, hD9⟩, hS.F ht⟩) hS.2.2 dX10_month_10
set_option maxRecDepth 100000 in
def fX10_from_ok (tnodesS : Int32) (twayS : Int32) (tws : Int32) (p0 : Int32) : Int32 × Int32 := if (hs p0 tnodesS) = 0 then ((tws, twayS)) else ((p0, 0))
set_option maxHeartbeats 4000000 in
set_option maxRecDepth 100000 in
theorem mX10_from_ok (l : Launch) (dC : Nat → ClassId) (dI : Nat → Nat → Nat) (kA : Nat → ClassId) (sz : Nat) (x0 : Nat) (z0 : Nat) (xi : Nat) (xt : Nat) (xq : Nat) (rdr : Nat) (h0 : Nat) (t0 : Nat) (q0 : Nat) (v0 : Nat) (m0 : Nat) (w0 : Nat) (x_tl : Int32) (x_lc : Int32) (tnodes : Nat) (tnodesA : Nat) (tnodesS : Int32) (tpasses : Nat) (tjars : Nat) (torders : Nat) (tfeasts : Nat) (tway : Nat) (twayA : Nat) (twayS : Int32) (tws : Int32) (tnow : Int32) (tfm : Int32) (tx : Int32) (p0 : Int32)  : Met l yX10_from wsX10_from ({ frames := 1, cells := 0, slots := 0, locals := 21 }) (zPc dC dI kA sz [.ref x0, .int p0] [(x0, .inr (10, [.ref w0, .ref z0, .ref xi, .ref xt, .int x_tl, .ref xq, .int x_lc, .ref rdr, .ref h0, .ref t0, .ref q0, .ref v0, .ref m0])), (w0, .inr (9, [.ref tnodes, .ref tpasses, .ref tjars, .ref torders, .ref tfeasts, .ref tway, .int tws, .int tnow, .int tfm, .int tx])), (tnodes, .inr (6, [.int 4, .ref tnodesA, .int tnodesS])), (tway, .inr (6, [.int 1, .ref twayA, .int twayS]))]) (va_Qi (fun (r : Int32) (u : Int32 × Int32) => r = (hs p0 tnodesS) ∧ (u.1, u.2) = fX10_from_ok tnodesS twayS tws p0 ∧ u.1 = (sp_frz p0 tnodesS tws)) (zB dC dI (va_A [(x0, .inr (10, [.ref w0, .ref z0, .ref xi, .ref xt, .int x_tl, .ref xq, .int x_lc, .ref rdr, .ref h0, .ref t0, .ref q0, .ref v0, .ref m0])), (w0, .inr (9, [.ref tnodes, .ref tpasses, .ref tjars, .ref torders, .ref tfeasts, .ref tway, .int tws, .int tnow, .int tfm, .int tx])), (tnodes, .inr (6, [.int 4, .ref tnodesA, .int tnodesS])), (tway, .inr (6, [.int 1, .ref twayA, .int twayS]))] sz) (fun (u : Int32 × Int32) => [(x0, .inr (10, [.ref w0, .ref z0, .ref xi, .ref xt, .int x_tl, .ref xq, .int x_lc, .ref rdr, .ref h0, .ref t0, .ref q0, .ref v0, .ref m0])), (w0, .inr (9, [.ref tnodes, .ref tpasses, .ref tjars, .ref torders, .ref tfeasts, .ref tway, .int u.1, .int tnow, .int tfm, .int tx])), (tnodes, .inr (6, [.int 4, .ref tnodesA, .int tnodesS])), (tway, .inr (6, [.int 1, .ref twayA, .int u.2]))])) (va_A [(x0, .inr (10, [.ref w0, .ref z0, .ref xi, .ref xt, .int x_tl, .ref xq, .int x_lc, .ref rdr, .ref h0, .ref t0, .ref q0, .ref v0, .ref m0])), (w0, .inr (9, [.ref tnodes, .ref tpasses, .ref tjars, .ref torders, .ref tfeasts, .ref tway, .int tws, .int tnow, .int tfm, .int tx])), (tnodes, .inr (6, [.int 4, .ref tnodesA, .int tnodesS])), (tway, .inr (6, [.int 1, .ref twayA, .int twayS]))] sz)) 0 0 (va_A [(x0, .inr (10, [.ref w0, .ref z0, .ref xi, .ref xt, .int x_tl, .ref xq, .int x_lc, .ref rdr, .ref h0, .ref t0, .ref q0, .ref v0, .ref m0])), (w0, .inr (9, [.ref tnodes, .ref tpasses, .ref tjars, .ref torders, .ref tfeasts, .ref tway, .int tws, .int tnow, .int tfm, .int tx])), (tnodes, .inr (6, [.int 4, .ref tnodesA, .int tnodesS])), (tway, .inr (6, [.int 1, .ref twayA, .int twayS]))] sz) := by
  refine Met.ofW (cc := cX10_from) (maxL := 2) (ret := (some .boolean)) pnX10 rfl ?_
  intro p e s m args below meth c s₁ B hml hv
  obtain ⟨rfl, hsz, hP, hK, hD0⟩ := hv
  have hx := B.exec
  have hb := B.bytes
  have hr := B.returns
  have hts := atoms_spec (ws := wsX10_from) B.pre
  have hown : s.vm.findClass RX10 = some m.cls := findClass_of_methodNamed B.named
  have hlocks := B.notSynchronized
  subst hsz
  have hD := hD0.self (sz := s.heap.size)
  generalize hAe : va_A [(x0, .inr (10, [.ref w0, .ref z0, .ref xi, .ref xt, .int x_tl, .ref xq, .int x_lc, .ref rdr, .ref h0, .ref t0, .ref q0, .ref v0, .ref m0])), (w0, .inr (9, [.ref tnodes, .ref tpasses, .ref tjars, .ref torders, .ref tfeasts, .ref tway, .int tws, .int tnow, .int tfm, .int tx])), (tnodes, .inr (6, [.int 4, .ref tnodesA, .int tnodesS])), (tway, .inr (6, [.int 1, .ref twayA, .int twayS]))] s.heap.size = A at hD ⊢
  have hA : ∀ q : Nat, s.heap.size ≤ q → A q := zA_of hAe
  have hS : va_S A s.heap s.heap [] := va_S.rf
  have hP : va_P (dC, dI) vwCl [(x0, .inr (10, [.ref w0, .ref z0, .ref xi, .ref xt, .int x_tl, .ref xq, .int x_lc, .ref rdr, .ref h0, .ref t0, .ref q0, .ref v0, .ref m0])), (w0, .inr (9, [.ref tnodes, .ref tpasses, .ref tjars, .ref torders, .ref tfeasts, .ref tway, .int tws, .int tnow, .int tfm, .int tx])), (tnodes, .inr (6, [.int 4, .ref tnodesA, .int tnodesS])), (tway, .inr (6, [.int 1, .ref twayA, .int twayS]))] s.heap := hP
  have hl := lv_entry ([.ref x0, .int p0]) (n := 2) (Nat.le_of_ble_eq_true rfl)
  rw [lg_entry_eq]
  generalize (lg_sl ([.ref x0, .int p0]) ++ List.replicate (2 - (lg_sl ([.ref x0, .int p0])).length) Slot.unset).toArray = ls at hl ⊢
  have hl : lv_has ls 2 [(0, .ref x0), (1, .int p0)] := hl
  obtain ⟨G, hG0⟩ : ∃ G : Int32 × Int32, fX10_from_ok tnodesS twayS tws p0 = G := ⟨_, rfl⟩
  have hG := hG0
  unfold fX10_from_ok at hG
  refine lv_aload_n hx hb dX10_from_0 rfl (lv_at hl 0 rfl) ?_
  refine va_get (D := (dC, dI)) (ci := 10) (v := .ref w0) (C := RX10) (T := TX10) (N := 13) hx hb hts iX10_from_X10 hown hK.1 hP 0 gz0 vcz10 0 (by decide) (kX10_from_1 hts) (fun _ h9 => h9) gz0 dX10_from_1 ?_
  refine va_get (D := (dC, dI)) (ci := 9) (v := .ref tnodes) (C := RX9) (T := TX9) (N := 10) hx hb hts iX10_from_X9 hown hK.1 hP 1 gz1 vcz9 0 (by decide) (kX10_from_2 hts) (fun _ h9 => h9) gz0 dX10_from_4 ?_
  refine lv_iload_n hx hb dX10_from_7 rfl (lv_at hl 1 rfl) ?_
  refine z_i (wr := [(x0, .inr (10, [.ref w0, .ref z0, .ref xi, .ref xt, .int x_tl, .ref xq, .int x_lc, .ref rdr, .ref h0, .ref t0, .ref q0, .ref v0, .ref m0])), (w0, .inr (9, [.ref tnodes, .ref tpasses, .ref tjars, .ref torders, .ref tfeasts, .ref tway, .int tws, .int tnow, .int tfm, .int tx])), (tway, .inr (6, [.int 1, .ref twayA, .int twayS]))]) (va_runV (As := [.int p0]) (rest := []) ⟨hx, hb, hml, hown, hts⟩ (mX6_has l dC dI kA _ tnodes tnodesA 4 tnodesS p0) (cwV 1 hts gX10_from_X6_has rfl rfl rfl ⟨rfl, hdX6_has⟩ ⟨(Nat.le_of_ble_eq_true rfl), (Nat.le_of_ble_eq_true rfl)⟩) ⟨zPc.blind, va_recv (q := (RX6, TX6, 3)) hK.1 hP (ci := 6) (q0 := 2) rfl rfl, zPre hK (hP.sub [2] rfl) (hD.sub [2] (by decide) rfl)⟩ rfl rfl hl.1 rfl (lv_room (Nat.le_of_ble_eq_true rfl)) dX10_from_8 ⟨(Nat.le_of_ble_eq_true rfl), (Nat.le_of_ble_eq_true rfl)⟩) hP hD hS hA [2] [0, 1, 3] rfl rfl (by decide) (by decide) (fun r3 u1 H locs hw2 hP hD hS => ?_)
  obtain rfl := hw2
  obtain ⟨hP, hD⟩ := z_re (L := [(x0, .inr (10, [.ref w0, .ref z0, .ref xi, .ref xt, .int x_tl, .ref xq, .int x_lc, .ref rdr, .ref h0, .ref t0, .ref q0, .ref v0, .ref m0])), (w0, .inr (9, [.ref tnodes, .ref tpasses, .ref tjars, .ref torders, .ref tfeasts, .ref tway, .int tws, .int tnow, .int tfm, .int tx])), (tway, .inr (6, [.int 1, .ref twayA, .int twayS])), (tnodes, .inr (6, [.int 4, .ref tnodesA, .int tnodesS]))]) hP hD
  refine lv_if_ne (tgt := 16) hx hb dX10_from_11 (by decide) (fun c_4 => ?_) (fun c_4 => ?_)
  · have hG := zelse hG c_4
    have c_4a := hs_ne c_4
    have c_4b := c_4a.2
    have c_4a := c_4a.1
    refine lv_aload_n hx hb dX10_from_16 rfl (lv_at hl 0 rfl) ?_
    refine va_get (D := (dC, dI)) (ci := 10) (v := .ref w0) (C := RX10) (T := TX10) (N := 13) hx hb hts iX10_from_X10 hown hK.1 hP 0 gz0 vcz10 0 (by decide) (kX10_from_1 hts) (fun _ h9 => h9) gz0 dX10_from_17 ?_
    refine lv_iload_n hx hb dX10_from_20 rfl (lv_at hl 1 rfl) ?_
    refine va_put (D := (dC, dI)) (ci := 9) (v := .int p0) (ty := .int) (C := RX9) (T := TX9) (N := 10) hx hb hts iX10_from_X9 tyX9 tyX9_ok nmX9 hown hK.1 hP hD hS 1 gz1 vcz9 6 (by decide) (kX10_from_3 hts) (fun _ h9 => h9) rfl pfdI rfl rfl (Nat.le_of_ble_eq_true rfl) dX10_from_21 (fun H locs hP hD hS => ?_)
    obtain ⟨hP, hD⟩ := z_re (L := [(x0, .inr (10, [.ref w0, .ref z0, .ref xi, .ref xt, .int x_tl, .ref xq, .int x_lc, .ref rdr, .ref h0, .ref t0, .ref q0, .ref v0, .ref m0])), (w0, .inr (9, [.ref tnodes, .ref tpasses, .ref tjars, .ref torders, .ref tfeasts, .ref tway, .int p0, .int tnow, .int tfm, .int tx])), (tway, .inr (6, [.int 1, .ref twayA, .int twayS])), (tnodes, .inr (6, [.int 4, .ref tnodesA, .int tnodesS]))]) hP hD
    refine lv_aload_n hx hb dX10_from_24 rfl (lv_at hl 0 rfl) ?_
    refine va_get (D := (dC, dI)) (ci := 10) (v := .ref w0) (C := RX10) (T := TX10) (N := 13) hx hb hts iX10_from_X10 hown hK.1 hP 0 gz0 vcz10 0 (by decide) (kX10_from_1 hts) (fun _ h9 => h9) gz0 dX10_from_25 ?_
    refine va_get (D := (dC, dI)) (ci := 9) (v := .ref tway) (C := RX9) (T := TX9) (N := 10) hx hb hts iX10_from_X9 hown hK.1 hP 1 gz1 vcz9 5 (by decide) (kX10_from_4 hts) (fun _ h9 => h9) gz5 dX10_from_28 ?_
    refine lv_iconst (v := 0) hx hb dX10_from_31 (by decide) ?_
    refine va_put (D := (dC, dI)) (ci := 6) (v := .int 0) (ty := .int) (C := RX6) (T := TX6) (N := 3) hx hb hts iX10_from_X6 tyX6 tyX6_ok nmX6 hown hK.1 hP hD hS 2 gz2 vcz6 2 (by decide) (kX10_from_5 hts) (fun _ h9 => h9) rfl pfdI rfl rfl (Nat.le_of_ble_eq_true rfl) dX10_from_32 (fun H locs hP hD hS => ?_)
    obtain ⟨hP, hD⟩ := z_re (L := [(x0, .inr (10, [.ref w0, .ref z0, .ref xi, .ref xt, .int x_tl, .ref xq, .int x_lc, .ref rdr, .ref h0, .ref t0, .ref q0, .ref v0, .ref m0])), (w0, .inr (9, [.ref tnodes, .ref tpasses, .ref tjars, .ref torders, .ref tfeasts, .ref tway, .int p0, .int tnow, .int tfm, .int tx])), (tway, .inr (6, [.int 1, .ref twayA, .int 0])), (tnodes, .inr (6, [.int 4, .ref tnodesA, .int tnodesS]))]) hP hD
    refine lv_iconst (v := 1) hx hb dX10_from_35 (by decide) ?_
    obtain ⟨hP9, hD9⟩ := z_sb (L' := [(x0, .inr (10, [.ref w0, .ref z0, .ref xi, .ref xt, .int x_tl, .ref xq, .int x_lc, .ref rdr, .ref h0, .ref t0, .ref q0, .ref v0, .ref m0])), (w0, .inr (9, [.ref tnodes, .ref tpasses, .ref tjars, .ref torders, .ref tfeasts, .ref tway, .int p0, .int tnow, .int tfm, .int tx])), (tnodes, .inr (6, [.int 4, .ref tnodesA, .int tnodesS])), (tway, .inr (6, [.int 1, .ref twayA, .int 0]))]) hP hD [0, 1, 3, 2] (by decide) rfl
    refine W.widen (k := 0) (n := 0) (Nat.le_of_ble_eq_true rfl) (Nat.le_of_ble_eq_true rfl) ?_
    exact W.zret (v := 1) hx hb hr rfl (fun t ht hW => ⟨⟨1, (p0, 0), rfl, ⟨(hs_1 c_4).symm, (hG.trans hG0.symm), (by simp [sp_frz, c_4, c_4a, c_4b])⟩, by rw [ht]; exact hP9, hD9⟩, hS.F ht⟩) hS.2.2 dX10_from_36
  · have hG := zthen hG c_4
    refine lv_iconst (v := 0) hx hb dX10_from_14 (by decide) ?_
    obtain ⟨hP9, hD9⟩ := z_sb (L' := [(x0, .inr (10, [.ref w0, .ref z0, .ref xi, .ref xt, .int x_tl, .ref xq, .int x_lc, .ref rdr, .ref h0, .ref t0, .ref q0, .ref v0, .ref m0])), (w0, .inr (9, [.ref tnodes, .ref tpasses, .ref tjars, .ref torders, .ref tfeasts, .ref tway, .int tws, .int tnow, .int tfm, .int tx])), (tnodes, .inr (6, [.int 4, .ref tnodesA, .int tnodesS])), (tway, .inr (6, [.int 1, .ref twayA, .int twayS]))]) hP hD [0, 1, 3, 2] (by decide) rfl
    refine W.widen (k := 0) (n := 0) (Nat.le_of_ble_eq_true rfl) (Nat.le_of_ble_eq_true rfl) ?_
    exact W.zret (v := 0) hx hb hr rfl (fun t ht hW => ⟨⟨0, (tws, twayS), rfl, ⟨(c_4).symm, (hG.trans hG0.symm), (by simp [sp_frz, c_4])⟩, by rw [ht]; exact hP9, hD9⟩, hS.F ht⟩) hS.2.2 dX10_from_15
