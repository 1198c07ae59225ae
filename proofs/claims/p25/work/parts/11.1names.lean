def ixX11_feast : List Nat := [5, 153, 191, 192, 193, 209, 210, 211, 212, 612, 1297, 1298, 1499, 1500, 1501, 1502, 1503, 1504, 1505, 1506, 1507, 1508, 1509, 1510, 1511, 1512, 1513, 1514, 1515, 1516, 1517, 1518, 1519, 1520, 1521, 1522, 1523, 1524, 1525, 1526, 1527, 1528, 1529, 1530, 1531, 1532, 1533, 1534, 1535, 1536, 1537, 1538, 1539, 1540]
def wsX11_feast : List Cond := .code yX11_feast cX11_feast 5 (some .int) :: ixX11_feast.map wt
def ixX11_from : List Nat := [5, 153, 209, 210, 211, 212, 946, 1499, 1500, 1501, 1502, 1503, 1504, 1505, 1506, 1507, 1508, 1509, 1510, 1511, 1512, 1513, 1514, 1515, 1516, 1517, 1518, 1519, 1520, 1521, 1522, 1523, 1524, 1525, 1526, 1527, 1528, 1529, 1530, 1531, 1532, 1533, 1534, 1535, 1536, 1537, 1538, 1539, 1540]
def wsX11_from : List Cond := .code yX11_from cX11_from 2 (some .boolean) :: ixX11_from.map wt
def ixX11_jar : List Nat := [5, 153, 190, 191, 192, 193, 209, 210, 211, 212, 229, 230, 231, 1499, 1500, 1501, 1502, 1503, 1504, 1505, 1506, 1507, 1508, 1509, 1510, 1511, 1512, 1513, 1514, 1515, 1516, 1517, 1518, 1519, 1520, 1521, 1522, 1523, 1524, 1525, 1526, 1527, 1528, 1529, 1530, 1531, 1532, 1533, 1534, 1535, 1536, 1537, 1538, 1539, 1540]
def wsX11_jar : List Cond := .code yX11_jar cX11_jar 7 (some .int) :: ixX11_jar.map wt
def ixX11_month : List Nat := [5, 153, 191, 192, 193, 240, 241, 1499, 1500, 1501, 1502, 1503, 1504, 1505, 1506, 1507, 1508, 1509, 1510, 1511, 1512, 1513, 1514, 1515, 1516, 1517, 1518, 1519, 1520, 1521, 1522, 1523, 1524, 1525, 1526, 1527, 1528, 1529, 1530, 1531, 1532, 1533, 1534, 1535, 1536, 1537, 1538, 1539, 1540]
def wsX11_month : List Cond := .code yX11_month cX11_month 3 (some .int) :: ixX11_month.map wt
def ixX11_node : List Nat := [5, 153, 187, 188, 189, 190, 191, 192, 193, 1499, 1500, 1501, 1502, 1503, 1504, 1505, 1506, 1507, 1508, 1509, 1510, 1511, 1512, 1513, 1514, 1515, 1516, 1517, 1518, 1519, 1520, 1521, 1522, 1523, 1524, 1525, 1526, 1527, 1528, 1529, 1530, 1531, 1532, 1533, 1534, 1535, 1536, 1537, 1538, 1539, 1540]
def wsX11_node : List Cond := .code yX11_node cX11_node 5 (some .int) :: ixX11_node.map wt
def ixX11_order : List Nat := [5, 153, 191, 192, 193, 209, 210, 211, 212, 612, 1200, 1201, 1499, 1500, 1501, 1502, 1503, 1504, 1505, 1506, 1507, 1508, 1509, 1510, 1511, 1512, 1513, 1514, 1515, 1516, 1517, 1518, 1519, 1520, 1521, 1522, 1523, 1524, 1525, 1526, 1527, 1528, 1529, 1530, 1531, 1532, 1533, 1534, 1535, 1536, 1537, 1538, 1539, 1540]
def wsX11_order : List Cond := .code yX11_order cX11_order 6 (some .int) :: ixX11_order.map wt
def ixX11_pass : List Nat := [5, 153, 190, 191, 192, 193, 206, 207, 208, 209, 210, 211, 212, 1499, 1500, 1501, 1502, 1503, 1504, 1505, 1506, 1507, 1508, 1509, 1510, 1511, 1512, 1513, 1514, 1515, 1516, 1517, 1518, 1519, 1520, 1521, 1522, 1523, 1524, 1525, 1526, 1527, 1528, 1529, 1530, 1531, 1532, 1533, 1534, 1535, 1536, 1537, 1538, 1539, 1540]
def wsX11_pass : List Cond := .code yX11_pass cX11_pass 7 (some .int) :: ixX11_pass.map wt
theorem ggX11_feast_X11_in : GoodIn wsX11_feast wsX11_in := gi_ (A := ixX11_feast) (B := ixX11_in) wt193 (by decide +kernel)
theorem gX11_feast_X11_in : GoodIn wsX11_feast (va_wsS RX11 118 yX11_in wsX11_in) := g3_ (A := ixX11_feast) wt191 wt192 wt5 (by decide +kernel) ggX11_feast_X11_in
theorem ggX11_feast_X11_isNode : GoodIn wsX11_feast wsX11_isNode := gi_ (A := ixX11_feast) (B := ixX11_isNode) wt212 (by decide +kernel)
theorem gX11_feast_X11_isNode : GoodIn wsX11_feast (wsV RX11 267 RX11 yX11_isNode wsX11_isNode) := g4_ (A := ixX11_feast) wt209 wt210 wt211 wt5 (by decide +kernel) ggX11_feast_X11_isNode
theorem ggX11_from_X11_isNode : GoodIn wsX11_from wsX11_isNode := gi_ (A := ixX11_from) (B := ixX11_isNode) wt212 (by decide +kernel)
theorem gX11_from_X11_isNode : GoodIn wsX11_from (wsV RX11 267 RX11 yX11_isNode wsX11_isNode) := g4_ (A := ixX11_from) wt209 wt210 wt211 wt5 (by decide +kernel) ggX11_from_X11_isNode
theorem ggX11_jar_X11_in : GoodIn wsX11_jar wsX11_in := gi_ (A := ixX11_jar) (B := ixX11_in) wt193 (by decide +kernel)
theorem gX11_jar_X11_in : GoodIn wsX11_jar (va_wsS RX11 118 yX11_in wsX11_in) := g3_ (A := ixX11_jar) wt191 wt192 wt5 (by decide +kernel) ggX11_jar_X11_in
theorem ggX11_jar_X11_isNode : GoodIn wsX11_jar wsX11_isNode := gi_ (A := ixX11_jar) (B := ixX11_isNode) wt212 (by decide +kernel)
theorem gX11_jar_X11_isNode : GoodIn wsX11_jar (wsV RX11 267 RX11 yX11_isNode wsX11_isNode) := g4_ (A := ixX11_jar) wt209 wt210 wt211 wt5 (by decide +kernel) ggX11_jar_X11_isNode
theorem ggX11_month_X11_in : GoodIn wsX11_month wsX11_in := gi_ (A := ixX11_month) (B := ixX11_in) wt193 (by decide +kernel)
theorem gX11_month_X11_in : GoodIn wsX11_month (va_wsS RX11 118 yX11_in wsX11_in) := g3_ (A := ixX11_month) wt191 wt192 wt5 (by decide +kernel) ggX11_month_X11_in
theorem ggX11_node_X11_in : GoodIn wsX11_node wsX11_in := gi_ (A := ixX11_node) (B := ixX11_in) wt193 (by decide +kernel)
theorem gX11_node_X11_in : GoodIn wsX11_node (va_wsS RX11 118 yX11_in wsX11_in) := g3_ (A := ixX11_node) wt191 wt192 wt5 (by decide +kernel) ggX11_node_X11_in
theorem ggX11_order_X11_in : GoodIn wsX11_order wsX11_in := gi_ (A := ixX11_order) (B := ixX11_in) wt193 (by decide +kernel)
theorem gX11_order_X11_in : GoodIn wsX11_order (va_wsS RX11 118 yX11_in wsX11_in) := g3_ (A := ixX11_order) wt191 wt192 wt5 (by decide +kernel) ggX11_order_X11_in
theorem ggX11_order_X11_isNode : GoodIn wsX11_order wsX11_isNode := gi_ (A := ixX11_order) (B := ixX11_isNode) wt212 (by decide +kernel)
theorem gX11_order_X11_isNode : GoodIn wsX11_order (wsV RX11 267 RX11 yX11_isNode wsX11_isNode) := g4_ (A := ixX11_order) wt209 wt210 wt211 wt5 (by decide +kernel) ggX11_order_X11_isNode
theorem ggX11_pass_X11_in : GoodIn wsX11_pass wsX11_in := gi_ (A := ixX11_pass) (B := ixX11_in) wt193 (by decide +kernel)
theorem gX11_pass_X11_in : GoodIn wsX11_pass (va_wsS RX11 118 yX11_in wsX11_in) := g3_ (A := ixX11_pass) wt191 wt192 wt5 (by decide +kernel) ggX11_pass_X11_in
theorem ggX11_pass_X11_isNode : GoodIn wsX11_pass wsX11_isNode := gi_ (A := ixX11_pass) (B := ixX11_isNode) wt212 (by decide +kernel)
theorem gX11_pass_X11_isNode : GoodIn wsX11_pass (wsV RX11 267 RX11 yX11_isNode wsX11_isNode) := g4_ (A := ixX11_pass) wt209 wt210 wt211 wt5 (by decide +kernel) ggX11_pass_X11_isNode
