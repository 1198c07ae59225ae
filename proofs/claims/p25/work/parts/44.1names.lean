def ixX10_feast : List Nat := [2, 15, 51, 63, 68, 171, 172, 173, 174, 175, 176, 177, 178, 179, 180, 181, 182, 183, 199, 200, 201, 202, 587, 1194, 1195, 1196, 1292, 1293, 1457, 1458, 1459, 1476, 1477, 1478, 1479, 1480, 1481, 1482, 1483, 1484, 1485, 1486, 1487, 1488, 1489, 1490, 1491, 1492, 1493, 1494, 1495, 1496, 1497, 1498]
def wsX10_feast : List Cond := .code yX10_feast cX10_feast 6 (some .int) :: ixX10_feast.map wt
def ixX10_from : List Nat := [15, 51, 171, 179, 199, 200, 201, 202, 915, 916, 941, 942, 1457, 1458, 1459, 1476, 1477, 1478, 1479, 1480, 1481, 1482, 1483, 1484, 1485, 1486, 1487, 1488, 1489, 1490, 1491, 1492, 1493, 1494, 1495, 1496, 1497, 1498]
def wsX10_from : List Cond := .code yX10_from cX10_from 2 (some .boolean) :: ixX10_from.map wt
def ixX10_jar : List Nat := [2, 14, 15, 51, 54, 63, 68, 171, 172, 173, 174, 175, 176, 177, 178, 179, 180, 181, 182, 183, 199, 200, 201, 202, 216, 217, 218, 219, 220, 221, 222, 223, 224, 225, 1457, 1458, 1459, 1476, 1477, 1478, 1479, 1480, 1481, 1482, 1483, 1484, 1485, 1486, 1487, 1488, 1489, 1490, 1491, 1492, 1493, 1494, 1495, 1496, 1497, 1498]
def wsX10_jar : List Cond := .code yX10_jar cX10_jar 8 (some .int) :: ixX10_jar.map wt
def ixX10_month : List Nat := [2, 15, 172, 173, 174, 235, 236, 1476, 1477, 1478, 1479, 1480, 1481, 1482, 1483, 1484, 1485, 1486, 1487, 1488, 1489, 1490, 1491, 1492, 1493, 1494, 1495, 1496, 1497, 1498]
def wsX10_month : List Cond := .code yX10_month cX10_month 3 (some .int) :: ixX10_month.map wt
def ixX10_node : List Nat := [2, 15, 51, 63, 68, 170, 171, 172, 173, 174, 175, 176, 177, 178, 179, 180, 181, 182, 183, 1457, 1458, 1459, 1476, 1477, 1478, 1479, 1480, 1481, 1482, 1483, 1484, 1485, 1486, 1487, 1488, 1489, 1490, 1491, 1492, 1493, 1494, 1495, 1496, 1497, 1498]
def wsX10_node : List Cond := .code yX10_node cX10_node 6 (some .int) :: ixX10_node.map wt
def ixX10_order : List Nat := [2, 15, 51, 63, 68, 171, 172, 173, 174, 175, 176, 177, 178, 179, 180, 181, 182, 183, 199, 200, 201, 202, 587, 1192, 1193, 1194, 1195, 1196, 1457, 1458, 1459, 1476, 1477, 1478, 1479, 1480, 1481, 1482, 1483, 1484, 1485, 1486, 1487, 1488, 1489, 1490, 1491, 1492, 1493, 1494, 1495, 1496, 1497, 1498]
def wsX10_order : List Cond := .code yX10_order cX10_order 7 (some .int) :: ixX10_order.map wt
def ixX10_pass : List Nat := [2, 15, 51, 63, 68, 171, 172, 173, 174, 175, 176, 177, 178, 179, 180, 181, 182, 183, 197, 198, 199, 200, 201, 202, 1457, 1458, 1459, 1476, 1477, 1478, 1479, 1480, 1481, 1482, 1483, 1484, 1485, 1486, 1487, 1488, 1489, 1490, 1491, 1492, 1493, 1494, 1495, 1496, 1497, 1498]
def wsX10_pass : List Cond := .code yX10_pass cX10_pass 9 (some .int) :: ixX10_pass.map wt
theorem ggX10_feast_X10_isWish : GoodIn wsX10_feast wsX10_isWish := gi_ (A := ixX10_feast) (B := ixX10_isWish) wt1196 (by decide +kernel)
theorem gX10_feast_X10_isWish : GoodIn wsX10_feast (va_wsS RX10 260 yX10_isWish wsX10_isWish) := g3_ (A := ixX10_feast) wt1194 wt1195 wt2 (by decide +kernel) ggX10_feast_X10_isWish
theorem ggX10_feast_X10_within : GoodIn wsX10_feast wsX10_within := gi_ (A := ixX10_feast) (B := ixX10_within) wt174 (by decide +kernel)
theorem gX10_feast_X10_within : GoodIn wsX10_feast (va_wsS RX10 79 yX10_within wsX10_within) := g3_ (A := ixX10_feast) wt172 wt173 wt2 (by decide +kernel) ggX10_feast_X10_within
theorem ggX10_feast_X6_grow : GoodIn wsX10_feast wsX6_grow := gi_ (A := ixX10_feast) (B := ixX6_grow) wt178 (by decide +kernel)
theorem gX10_feast_X6_grow : GoodIn wsX10_feast (wsV RX10 87 RX6 yX6_grow wsX6_grow) := g4_ (A := ixX10_feast) wt175 wt176 wt177 wt51 (by decide +kernel) ggX10_feast_X6_grow
theorem ggX10_feast_X6_has : GoodIn wsX10_feast wsX6_has := gi_ (A := ixX10_feast) (B := ixX6_has) wt202 (by decide +kernel)
theorem gX10_feast_X6_has : GoodIn wsX10_feast (wsV RX10 97 RX6 yX6_has wsX6_has) := g4_ (A := ixX10_feast) wt199 wt200 wt201 wt51 (by decide +kernel) ggX10_feast_X6_has
theorem ggX10_feast_X6_put : GoodIn wsX10_feast wsX6_put := gi_ (A := ixX10_feast) (B := ixX6_put) wt183 (by decide +kernel)
theorem gX10_feast_X6_put : GoodIn wsX10_feast (wsV RX10 93 RX6 yX6_put wsX6_put) := g4_ (A := ixX10_feast) wt180 wt181 wt182 wt51 (by decide +kernel) ggX10_feast_X6_put
theorem ggX10_from_X6_has : GoodIn wsX10_from wsX6_has := gi_ (A := ixX10_from) (B := ixX6_has) wt202 (by decide +kernel)
theorem gX10_from_X6_has : GoodIn wsX10_from (wsV RX10 97 RX6 yX6_has wsX6_has) := g4_ (A := ixX10_from) wt199 wt200 wt201 wt51 (by decide +kernel) ggX10_from_X6_has
theorem ggX10_jar_X10_isCover : GoodIn wsX10_jar wsX10_isCover := gi_ (A := ixX10_jar) (B := ixX10_isCover) wt220 (by decide +kernel)
theorem gX10_jar_X10_isCover : GoodIn wsX10_jar (va_wsS RX10 104 yX10_isCover wsX10_isCover) := g3_ (A := ixX10_jar) wt218 wt219 wt2 (by decide +kernel) ggX10_jar_X10_isCover
theorem ggX10_jar_X10_within : GoodIn wsX10_jar wsX10_within := gi_ (A := ixX10_jar) (B := ixX10_within) wt174 (by decide +kernel)
theorem gX10_jar_X10_within : GoodIn wsX10_jar (va_wsS RX10 79 yX10_within wsX10_within) := g3_ (A := ixX10_jar) wt172 wt173 wt2 (by decide +kernel) ggX10_jar_X10_within
theorem ggX10_jar_X6_grow : GoodIn wsX10_jar wsX6_grow := gi_ (A := ixX10_jar) (B := ixX6_grow) wt178 (by decide +kernel)
theorem gX10_jar_X6_grow : GoodIn wsX10_jar (wsV RX10 87 RX6 yX6_grow wsX6_grow) := g4_ (A := ixX10_jar) wt175 wt176 wt177 wt51 (by decide +kernel) ggX10_jar_X6_grow
theorem ggX10_jar_X6_has : GoodIn wsX10_jar wsX6_has := gi_ (A := ixX10_jar) (B := ixX6_has) wt202 (by decide +kernel)
theorem gX10_jar_X6_has : GoodIn wsX10_jar (wsV RX10 97 RX6 yX6_has wsX6_has) := g4_ (A := ixX10_jar) wt199 wt200 wt201 wt51 (by decide +kernel) ggX10_jar_X6_has
theorem ggX10_jar_X6_put : GoodIn wsX10_jar wsX6_put := gi_ (A := ixX10_jar) (B := ixX6_put) wt183 (by decide +kernel)
theorem gX10_jar_X6_put : GoodIn wsX10_jar (wsV RX10 93 RX6 yX6_put wsX6_put) := g4_ (A := ixX10_jar) wt180 wt181 wt182 wt51 (by decide +kernel) ggX10_jar_X6_put
theorem ggX10_jar_X9_standAt : GoodIn wsX10_jar wsX9_standAt := gi_ (A := ixX10_jar) (B := ixX9_standAt) wt224 (by decide +kernel)
theorem gX10_jar_X9_standAt : GoodIn wsX10_jar (wsV RX10 110 RX9 yX9_standAt wsX9_standAt) := g4_ (A := ixX10_jar) wt221 wt222 wt223 wt14 (by decide +kernel) ggX10_jar_X9_standAt
theorem ggX10_month_X10_within : GoodIn wsX10_month wsX10_within := gi_ (A := ixX10_month) (B := ixX10_within) wt174 (by decide +kernel)
theorem gX10_month_X10_within : GoodIn wsX10_month (va_wsS RX10 79 yX10_within wsX10_within) := g3_ (A := ixX10_month) wt172 wt173 wt2 (by decide +kernel) ggX10_month_X10_within
theorem ggX10_node_X10_within : GoodIn wsX10_node wsX10_within := gi_ (A := ixX10_node) (B := ixX10_within) wt174 (by decide +kernel)
theorem gX10_node_X10_within : GoodIn wsX10_node (va_wsS RX10 79 yX10_within wsX10_within) := g3_ (A := ixX10_node) wt172 wt173 wt2 (by decide +kernel) ggX10_node_X10_within
theorem ggX10_node_X6_grow : GoodIn wsX10_node wsX6_grow := gi_ (A := ixX10_node) (B := ixX6_grow) wt178 (by decide +kernel)
theorem gX10_node_X6_grow : GoodIn wsX10_node (wsV RX10 87 RX6 yX6_grow wsX6_grow) := g4_ (A := ixX10_node) wt175 wt176 wt177 wt51 (by decide +kernel) ggX10_node_X6_grow
theorem ggX10_node_X6_put : GoodIn wsX10_node wsX6_put := gi_ (A := ixX10_node) (B := ixX6_put) wt183 (by decide +kernel)
theorem gX10_node_X6_put : GoodIn wsX10_node (wsV RX10 93 RX6 yX6_put wsX6_put) := g4_ (A := ixX10_node) wt180 wt181 wt182 wt51 (by decide +kernel) ggX10_node_X6_put
theorem ggX10_order_X10_isWish : GoodIn wsX10_order wsX10_isWish := gi_ (A := ixX10_order) (B := ixX10_isWish) wt1196 (by decide +kernel)
theorem gX10_order_X10_isWish : GoodIn wsX10_order (va_wsS RX10 260 yX10_isWish wsX10_isWish) := g3_ (A := ixX10_order) wt1194 wt1195 wt2 (by decide +kernel) ggX10_order_X10_isWish
theorem ggX10_order_X10_within : GoodIn wsX10_order wsX10_within := gi_ (A := ixX10_order) (B := ixX10_within) wt174 (by decide +kernel)
theorem gX10_order_X10_within : GoodIn wsX10_order (va_wsS RX10 79 yX10_within wsX10_within) := g3_ (A := ixX10_order) wt172 wt173 wt2 (by decide +kernel) ggX10_order_X10_within
theorem ggX10_order_X6_grow : GoodIn wsX10_order wsX6_grow := gi_ (A := ixX10_order) (B := ixX6_grow) wt178 (by decide +kernel)
theorem gX10_order_X6_grow : GoodIn wsX10_order (wsV RX10 87 RX6 yX6_grow wsX6_grow) := g4_ (A := ixX10_order) wt175 wt176 wt177 wt51 (by decide +kernel) ggX10_order_X6_grow
theorem ggX10_order_X6_has : GoodIn wsX10_order wsX6_has := gi_ (A := ixX10_order) (B := ixX6_has) wt202 (by decide +kernel)
theorem gX10_order_X6_has : GoodIn wsX10_order (wsV RX10 97 RX6 yX6_has wsX6_has) := g4_ (A := ixX10_order) wt199 wt200 wt201 wt51 (by decide +kernel) ggX10_order_X6_has
theorem ggX10_order_X6_put : GoodIn wsX10_order wsX6_put := gi_ (A := ixX10_order) (B := ixX6_put) wt183 (by decide +kernel)
theorem gX10_order_X6_put : GoodIn wsX10_order (wsV RX10 93 RX6 yX6_put wsX6_put) := g4_ (A := ixX10_order) wt180 wt181 wt182 wt51 (by decide +kernel) ggX10_order_X6_put
theorem ggX10_pass_X10_within : GoodIn wsX10_pass wsX10_within := gi_ (A := ixX10_pass) (B := ixX10_within) wt174 (by decide +kernel)
theorem gX10_pass_X10_within : GoodIn wsX10_pass (va_wsS RX10 79 yX10_within wsX10_within) := g3_ (A := ixX10_pass) wt172 wt173 wt2 (by decide +kernel) ggX10_pass_X10_within
theorem ggX10_pass_X6_grow : GoodIn wsX10_pass wsX6_grow := gi_ (A := ixX10_pass) (B := ixX6_grow) wt178 (by decide +kernel)
theorem gX10_pass_X6_grow : GoodIn wsX10_pass (wsV RX10 87 RX6 yX6_grow wsX6_grow) := g4_ (A := ixX10_pass) wt175 wt176 wt177 wt51 (by decide +kernel) ggX10_pass_X6_grow
theorem ggX10_pass_X6_has : GoodIn wsX10_pass wsX6_has := gi_ (A := ixX10_pass) (B := ixX6_has) wt202 (by decide +kernel)
theorem gX10_pass_X6_has : GoodIn wsX10_pass (wsV RX10 97 RX6 yX6_has wsX6_has) := g4_ (A := ixX10_pass) wt199 wt200 wt201 wt51 (by decide +kernel) ggX10_pass_X6_has
theorem ggX10_pass_X6_put : GoodIn wsX10_pass wsX6_put := gi_ (A := ixX10_pass) (B := ixX6_put) wt183 (by decide +kernel)
theorem gX10_pass_X6_put : GoodIn wsX10_pass (wsV RX10 93 RX6 yX6_put wsX6_put) := g4_ (A := ixX10_pass) wt180 wt181 wt182 wt51 (by decide +kernel) ggX10_pass_X6_put
