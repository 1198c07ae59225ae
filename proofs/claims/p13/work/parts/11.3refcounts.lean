def ixX11_feast : List Nat := [5, 153, 191, 192, 193, 209, 210, 211, 212, 612, 1297, 1298, 1499, 1500, 1501, 1502, 1503, 1504, 1505, 1506, 1507, 1508, 1509, 1510, 1511, 1512, 1513, 1514, 1515, 1516, 1517, 1518, 1519, 1520, 1521, 1522, 1523, 1524, 1525, 1526, 1527, 1528, 1529, 1530, 1531, 1532, 1533, 1534, 1535, 1536, 1537, 1538, 1539, 1540]
def wsX11_feast : List Cond := .code yX11_feast cX11_feast 5 (some .int) :: ixX11_feast.map wt
def ixX11_from : List Nat := [5, 153, 209, 210, 211, 212, 946, 1499, 1500, 1501, 1502, 1503, 1504, 1505, 1506, 1507, 1508, 1509, 1510, 1511, 1512, 1513, 1514, 1515, 1516, 1517, 1518, 1519, 1520, 1521, 1522, 1523, 1524, 1525, 1526, 1527, 1528, 1529, 1530, 1531, 1532, 1533, 1534, 1535, 1536, 1537, 1538, 1539, 1540]
def wsX11_from : List Cond := .code yX11_from cX11_from 2 (some .boolean) :: ixX11_from.map wt
def ixX11_jar : List Nat := [5, 153, 190, 191, 192, 193, 209, 210, 211, 212, 229, 230, 231, 1499, 1500, 1501, 1502, 1503, 1504, 1505, 1506, 1507, 1508, 1509, 1510, 1511, 1512, 1513, 1514, 1515, 1516, 1517, 1518, 1519, 1520, 1521, 1522, 1523, 1524, 1525, 1526, 1527, 1528, 1529, 1530, 1531, 1532, 1533, 1534, 1535, 1536, 1537, 1538, 1539, 1540]
def wsX11_jar : List Cond := .code yX11_jar cX11_jar 7 (some .int) :: ixX11_jar.map wt
def ixX11_month : List Nat := [5, 153, 191, 192, 193, 240, 241, 1499, 1500, 1501, 1502, 1503, 1504, 1505, 1506, 1507, 1508, 1509, 1510, 1511, 1512, 1513, 1514, 1515, 1516, 1517, 1518, 1519, 1520, 1521, 1522, 1523, 1524, 1525, 1526, 1527, 1528, 1529, 1530, 1531, 1532, 1533, 1534, 1535, 1536, 1537, 1538, 1539, 1540]
def wsX11_month : List Cond := .code yX11_month cX11_month 3 (some .int) :: ixX11_month.map wt
def ixX11_node : List Nat := [5, 153, 187, 188, 189, 190, 191, 192, 193, 1499, 1500, 1501, 1502, 1503, 1504, 1505, 1506, 1507, 1508, 1509, 1510, 1511, 1512, 1513, 1514, 1515, 1516, 1517, 1518, 1519, 1520, 1521, 1522, 1523, 1524, 1525, 1526, 1527, 1528, 1529, 1530, 1531, 1532, 1533, 1534, 1535, 1536, 1537, 1538, 1539, 1540]
def wsX11_node : List Cond := .code yX11_node cX11_node 5 (some .int) :: ixX11_node.map wt
def ixX11_order : List Nat := [5, 153, 191, 192, 193, 209, 210, 211, 212, 612, 1200, 1201, 1499, 1500, 1501, 1502, 1503, 1504, 1505, 1506, 1507, 1508, 1509, 1510, 1511, 1512, 1513, 1514, 1515, 1516, 1517, 1518, 1519, 1520, 1521, 1522, 1523, 1524, 1525, 1526, 1527, 1528, 1529, 1530, 1531, 1532, 1533, 1534, 1535, 1536, 1537, 1538, 1539, 1540]
def wsX11_order : List Cond := .code yX11_order cX11_order 6 (some .int) :: ixX11_order.map wt
def ixX11_pass : List Nat := [5, 153, 190, 191, 192, 193, 206, 207, 208, 209, 210, 211, 212, 1499, 1500, 1501, 1502, 1503, 1504, 1505, 1506, 1507, 1508, 1509, 1510, 1511, 1512, 1513, 1514, 1515, 1516, 1517, 1518, 1519, 1520, 1521, 1522, 1523, 1524, 1525, 1526, 1527, 1528, 1529, 1530, 1531, 1532, 1533, 1534, 1535, 1536, 1537, 1538, 1539, 1540]
def wsX11_pass : List Cond := .code yX11_pass cX11_pass 7 (some .int) :: ixX11_pass.map wt
theorem ggX11_feast_X11_in : GoodIn wsX11_feast wsX11_in := gi_ (A := ixX11_feast) (B := ixX11_in) wt193 (by decide +kernel)
theorem gX11_feast_X11_in : GoodIn wsX11_feast (va_wsS RX11 118 yX11_in wsX11_in) := g3_ (A := ixX11_feast) wt191 wt192 wt5 (by decide +kernel) ggX11_feast_X11_in
theorem ggX11_feast_X11_isNode : GoodIn wsX11_feast wsX11_isNode := gi_ (A := ixX11_feast) (B := ixX11_isNode) wt212 (by decide +kernel)
theorem gX11_feast_X11_isNode : GoodIn wsX11_feast (wsV RX11 267 RX11 yX11_isNode wsX11_isNode) := g4_ (A := ixX11_feast) wt209 wt210 wt211 wt5 (by decide +kernel) ggX11_feast_X11_isNode
theorem ggX11_from_X11_isNode : GoodIn wsX11_from wsX11_isNode := gi_ (A := ixX11_from) (B := ixX11_isNode) wt212 (by decide +kernel)
theorem gX11_from_X11_isNode : GoodIn wsX11_from (wsV RX11 267 RX11 yX11_isNode wsX11_isNode) := g4_ (A := ixX11_from) wt209 wt210 wt211 wt5 (by decide +kernel) ggX11_from_X11_isNode
theorem ggX11_jar_X11_in : GoodIn wsX11_jar wsX11_in := gi_ (A := ixX11_jar) (B := ixX11_in) wt193 (by decide +kernel)
theorem gX11_jar_X11_in : GoodIn wsX11_jar (va_wsS RX11 118 yX11_in wsX11_in) := g3_ (A := ixX11_jar) wt191 wt192 wt5 (by decide +kernel) ggX11_jar_X11_in
theorem ggX11_jar_X11_isNode : GoodIn wsX11_jar wsX11_isNode := gi_ (A := ixX11_jar) (B := ixX11_isNode) wt212 (by decide +kernel)
theorem gX11_jar_X11_isNode : GoodIn wsX11_jar (wsV RX11 267 RX11 yX11_isNode wsX11_isNode) := g4_ (A := ixX11_jar) wt209 wt210 wt211 wt5 (by decide +kernel) ggX11_jar_X11_isNode
theorem ggX11_month_X11_in : GoodIn wsX11_month wsX11_in := gi_ (A := ixX11_month) (B := ixX11_in) wt193 (by decide +kernel)
theorem gX11_month_X11_in : GoodIn wsX11_month (va_wsS RX11 118 yX11_in wsX11_in) := g3_ (A := ixX11_month) wt191 wt192 wt5 (by decide +kernel) ggX11_month_X11_in
theorem ggX11_node_X11_in : GoodIn wsX11_node wsX11_in := gi_ (A := ixX11_node) (B := ixX11_in) wt193 (by decide +kernel)
theorem gX11_node_X11_in : GoodIn wsX11_node (va_wsS RX11 118 yX11_in wsX11_in) := g3_ (A := ixX11_node) wt191 wt192 wt5 (by decide +kernel) ggX11_node_X11_in
theorem ggX11_order_X11_in : GoodIn wsX11_order wsX11_in := gi_ (A := ixX11_order) (B := ixX11_in) wt193 (by decide +kernel)
theorem gX11_order_X11_in : GoodIn wsX11_order (va_wsS RX11 118 yX11_in wsX11_in) := g3_ (A := ixX11_order) wt191 wt192 wt5 (by decide +kernel) ggX11_order_X11_in
theorem ggX11_order_X11_isNode : GoodIn wsX11_order wsX11_isNode := gi_ (A := ixX11_order) (B := ixX11_isNode) wt212 (by decide +kernel)
theorem gX11_order_X11_isNode : GoodIn wsX11_order (wsV RX11 267 RX11 yX11_isNode wsX11_isNode) := g4_ (A := ixX11_order) wt209 wt210 wt211 wt5 (by decide +kernel) ggX11_order_X11_isNode
theorem ggX11_pass_X11_in : GoodIn wsX11_pass wsX11_in := gi_ (A := ixX11_pass) (B := ixX11_in) wt193 (by decide +kernel)
theorem gX11_pass_X11_in : GoodIn wsX11_pass (va_wsS RX11 118 yX11_in wsX11_in) := g3_ (A := ixX11_pass) wt191 wt192 wt5 (by decide +kernel) ggX11_pass_X11_in
theorem ggX11_pass_X11_isNode : GoodIn wsX11_pass wsX11_isNode := gi_ (A := ixX11_pass) (B := ixX11_isNode) wt212 (by decide +kernel)
theorem gX11_pass_X11_isNode : GoodIn wsX11_pass (wsV RX11 267 RX11 yX11_isNode wsX11_isNode) := g4_ (A := ixX11_pass) wt209 wt210 wt211 wt5 (by decide +kernel) ggX11_pass_X11_isNode
theorem kX11_node_1 {a : Array Value} {s : State} (hts : ∀ w ∈ wsX11_node, w.before a s = true) : (.fieldLink RX11 39 "SnowMulesModel" "said" "[I" : Cond).before a s = true := kw (A := ixX11_node) wt153 hts (by decide +kernel)
theorem kX11_node_2 {a : Array Value} {s : State} (hts : ∀ w ∈ wsX11_node, w.before a s = true) : (.constantLong RX11 261 (400) : Cond).before a s = true := kw (A := ixX11_node) wt188 hts (by decide +kernel)
theorem kX11_node_3 {a : Array Value} {s : State} (hts : ∀ w ∈ wsX11_node, w.before a s = true) : (.constantLong RX11 263 (4095) : Cond).before a s = true := kw (A := ixX11_node) wt189 hts (by decide +kernel)
theorem kX11_node_4 {a : Array Value} {s : State} (hts : ∀ w ∈ wsX11_node, w.before a s = true) : (.constantLong RX11 265 (9) : Cond).before a s = true := kw (A := ixX11_node) wt190 hts (by decide +kernel)
theorem kX11_pass_1 {a : Array Value} {s : State} (hts : ∀ w ∈ wsX11_pass, w.before a s = true) : (.fieldLink RX11 39 "SnowMulesModel" "said" "[I" : Cond).before a s = true := kw (A := ixX11_pass) wt153 hts (by decide +kernel)
theorem kX11_pass_2 {a : Array Value} {s : State} (hts : ∀ w ∈ wsX11_pass, w.before a s = true) : (.constantLong RX11 270 (24) : Cond).before a s = true := kw (A := ixX11_pass) wt207 hts (by decide +kernel)
theorem kX11_pass_3 {a : Array Value} {s : State} (hts : ∀ w ∈ wsX11_pass, w.before a s = true) : (.constantLong RX11 265 (9) : Cond).before a s = true := kw (A := ixX11_pass) wt190 hts (by decide +kernel)
theorem kX11_pass_4 {a : Array Value} {s : State} (hts : ∀ w ∈ wsX11_pass, w.before a s = true) : (.constantLong RX11 272 (1000) : Cond).before a s = true := kw (A := ixX11_pass) wt208 hts (by decide +kernel)
theorem kX11_jar_1 {a : Array Value} {s : State} (hts : ∀ w ∈ wsX11_jar, w.before a s = true) : (.fieldLink RX11 39 "SnowMulesModel" "said" "[I" : Cond).before a s = true := kw (A := ixX11_jar) wt153 hts (by decide +kernel)
theorem kX11_jar_2 {a : Array Value} {s : State} (hts : ∀ w ∈ wsX11_jar, w.before a s = true) : (.constantLong RX11 265 (9) : Cond).before a s = true := kw (A := ixX11_jar) wt190 hts (by decide +kernel)
theorem kX11_jar_3 {a : Array Value} {s : State} (hts : ∀ w ∈ wsX11_jar, w.before a s = true) : (.constantLong RX11 274 (7) : Cond).before a s = true := kw (A := ixX11_jar) wt230 hts (by decide +kernel)
theorem kX11_jar_4 {a : Array Value} {s : State} (hts : ∀ w ∈ wsX11_jar, w.before a s = true) : (.constantLong RX11 276 (15) : Cond).before a s = true := kw (A := ixX11_jar) wt231 hts (by decide +kernel)
theorem kX11_order_1 {a : Array Value} {s : State} (hts : ∀ w ∈ wsX11_order, w.before a s = true) : (.fieldLink RX11 39 "SnowMulesModel" "said" "[I" : Cond).before a s = true := kw (A := ixX11_order) wt153 hts (by decide +kernel)
theorem kX11_order_2 {a : Array Value} {s : State} (hts : ∀ w ∈ wsX11_order, w.before a s = true) : (.constantLong RX11 289 (99999) : Cond).before a s = true := kw (A := ixX11_order) wt612 hts (by decide +kernel)
theorem kX11_order_3 {a : Array Value} {s : State} (hts : ∀ w ∈ wsX11_order, w.before a s = true) : (.constantLong RX11 445 (9999) : Cond).before a s = true := kw (A := ixX11_order) wt1201 hts (by decide +kernel)
theorem kX11_feast_1 {a : Array Value} {s : State} (hts : ∀ w ∈ wsX11_feast, w.before a s = true) : (.fieldLink RX11 39 "SnowMulesModel" "said" "[I" : Cond).before a s = true := kw (A := ixX11_feast) wt153 hts (by decide +kernel)
theorem kX11_feast_2 {a : Array Value} {s : State} (hts : ∀ w ∈ wsX11_feast, w.before a s = true) : (.constantLong RX11 461 (4166) : Cond).before a s = true := kw (A := ixX11_feast) wt1298 hts (by decide +kernel)
theorem kX11_feast_3 {a : Array Value} {s : State} (hts : ∀ w ∈ wsX11_feast, w.before a s = true) : (.constantLong RX11 289 (99999) : Cond).before a s = true := kw (A := ixX11_feast) wt612 hts (by decide +kernel)
theorem kX11_month_1 {a : Array Value} {s : State} (hts : ∀ w ∈ wsX11_month, w.before a s = true) : (.constantLong RX11 278 (11) : Cond).before a s = true := kw (A := ixX11_month) wt241 hts (by decide +kernel)
theorem kX11_month_2 {a : Array Value} {s : State} (hts : ∀ w ∈ wsX11_month, w.before a s = true) : (.fieldLink RX11 39 "SnowMulesModel" "said" "[I" : Cond).before a s = true := kw (A := ixX11_month) wt153 hts (by decide +kernel)
theorem kX11_from_1 {a : Array Value} {s : State} (hts : ∀ w ∈ wsX11_from, w.before a s = true) : (.fieldLink RX11 39 "SnowMulesModel" "said" "[I" : Cond).before a s = true := kw (A := ixX11_from) wt153 hts (by decide +kernel)
theorem iX11_node_X11 : ∀ w ∈ wsX110, w ∈ wsX11_node := inW (A := ixX11_node) uwX11 (by decide +kernel)
theorem iX11_pass_X11 : ∀ w ∈ wsX110, w ∈ wsX11_pass := inW (A := ixX11_pass) uwX11 (by decide +kernel)
theorem iX11_jar_X11 : ∀ w ∈ wsX110, w ∈ wsX11_jar := inW (A := ixX11_jar) uwX11 (by decide +kernel)
theorem iX11_order_X11 : ∀ w ∈ wsX110, w ∈ wsX11_order := inW (A := ixX11_order) uwX11 (by decide +kernel)
theorem iX11_feast_X11 : ∀ w ∈ wsX110, w ∈ wsX11_feast := inW (A := ixX11_feast) uwX11 (by decide +kernel)
theorem iX11_month_X11 : ∀ w ∈ wsX110, w ∈ wsX11_month := inW (A := ixX11_month) uwX11 (by decide +kernel)
theorem iX11_from_X11 : ∀ w ∈ wsX110, w ∈ wsX11_from := inW (A := ixX11_from) uwX11 (by decide +kernel)
theorem hdX11_in : yX11_in.cls ≠ "java/lang/invoke/MethodHandle" ∧ yX11_in.cls ≠ "java/lang/invoke/VarHandle" ∧ (parseMethodDescriptor yX11_in.desc).map (fun d => d.parameters.length) = some 3 := ⟨hdc_0.1, hdc_0.2, hdd_2⟩
theorem hdX11_isNode : yX11_isNode.cls ≠ "java/lang/invoke/MethodHandle" ∧ yX11_isNode.cls ≠ "java/lang/invoke/VarHandle" ∧ (parseMethodDescriptor yX11_isNode.desc).map (fun d => d.parameters.length) = some 1 := ⟨hdc_0.1, hdc_0.2, hdd_1⟩
def dtX11_node_11_0 : List (Nat × Jvm.ClassFile.Instr × Nat) := [(0, .aload_n 0, 1), (1, .getfield 39, 3), (4, .iconst 0, 1), (5, .iaload, 1), (6, .bipush 12, 2), (8, .if_icmp .eq 39, 3), (47, .iconst (-1), 1), (48, .ireturn, 1), (11, .iload_n 1, 1), (12, .i2l, 1), (13, .lconst 0, 1), (14, .ldc2_w 261, 3), (17, .invokestatic 118, 3), (20, .ifCond .eq 27, 3), (23, .iload_n 2, 1), (24, .i2l, 1), (25, .lconst 0, 1), (26, .ldc2_w 263, 3), (29, .invokestatic 118, 3), (32, .ifCond .eq 15, 3), (35, .iload_n 3, 1), (36, .i2l, 1), (37, .lconst 0, 1), (38, .ldc2_w 265, 3), (41, .invokestatic 118, 3), (44, .ifCond .ne 5, 3), (49, .bipush 20, 2), (51, .iconst 4, 1), (52, .aload_n 0, 1), (53, .getfield 39, 3), (56, .iconst 0, 1), (57, .iaload, 1)]
theorem daX11_node_11_0 : dtX11_node_11_0.all (dqd cX11_node) = true := by decide +kernel
theorem dX11_node_0 : decode cX11_node 0 = .ok (.aload_n 0, 1) := dq daX11_node_11_0 0 rfl
theorem dX11_node_1 : decode cX11_node 1 = .ok (.getfield 39, 3) := dq daX11_node_11_0 1 rfl
theorem dX11_node_4 : decode cX11_node 4 = .ok (.iconst 0, 1) := dq daX11_node_11_0 2 rfl
theorem dX11_node_5 : decode cX11_node 5 = .ok (.iaload, 1) := dq daX11_node_11_0 3 rfl
theorem dX11_node_6 : decode cX11_node 6 = .ok (.bipush 12, 2) := dq daX11_node_11_0 4 rfl
theorem dX11_node_8 : decode cX11_node 8 = .ok (.if_icmp .eq 39, 3) := dq daX11_node_11_0 5 rfl
theorem dX11_node_47 : decode cX11_node 47 = .ok (.iconst (-1), 1) := dq daX11_node_11_0 6 rfl
theorem dX11_node_48 : decode cX11_node 48 = .ok (.ireturn, 1) := dq daX11_node_11_0 7 rfl
theorem dX11_node_11 : decode cX11_node 11 = .ok (.iload_n 1, 1) := dq daX11_node_11_0 8 rfl
theorem dX11_node_12 : decode cX11_node 12 = .ok (.i2l, 1) := dq daX11_node_11_0 9 rfl
theorem dX11_node_13 : decode cX11_node 13 = .ok (.lconst 0, 1) := dq daX11_node_11_0 10 rfl
theorem dX11_node_14 : decode cX11_node 14 = .ok (.ldc2_w 261, 3) := dq daX11_node_11_0 11 rfl
theorem dX11_node_17 : decode cX11_node 17 = .ok (.invokestatic 118, 3) := dq daX11_node_11_0 12 rfl
theorem dX11_node_20 : decode cX11_node 20 = .ok (.ifCond .eq 27, 3) := dq daX11_node_11_0 13 rfl
theorem dX11_node_23 : decode cX11_node 23 = .ok (.iload_n 2, 1) := dq daX11_node_11_0 14 rfl
theorem dX11_node_24 : decode cX11_node 24 = .ok (.i2l, 1) := dq daX11_node_11_0 15 rfl
theorem dX11_node_25 : decode cX11_node 25 = .ok (.lconst 0, 1) := dq daX11_node_11_0 16 rfl
theorem dX11_node_26 : decode cX11_node 26 = .ok (.ldc2_w 263, 3) := dq daX11_node_11_0 17 rfl
theorem dX11_node_29 : decode cX11_node 29 = .ok (.invokestatic 118, 3) := dq daX11_node_11_0 18 rfl
theorem dX11_node_32 : decode cX11_node 32 = .ok (.ifCond .eq 15, 3) := dq daX11_node_11_0 19 rfl
theorem dX11_node_35 : decode cX11_node 35 = .ok (.iload_n 3, 1) := dq daX11_node_11_0 20 rfl
theorem dX11_node_36 : decode cX11_node 36 = .ok (.i2l, 1) := dq daX11_node_11_0 21 rfl
theorem dX11_node_37 : decode cX11_node 37 = .ok (.lconst 0, 1) := dq daX11_node_11_0 22 rfl
theorem dX11_node_38 : decode cX11_node 38 = .ok (.ldc2_w 265, 3) := dq daX11_node_11_0 23 rfl
theorem dX11_node_41 : decode cX11_node 41 = .ok (.invokestatic 118, 3) := dq daX11_node_11_0 24 rfl
theorem dX11_node_44 : decode cX11_node 44 = .ok (.ifCond .ne 5, 3) := dq daX11_node_11_0 25 rfl
theorem dX11_node_49 : decode cX11_node 49 = .ok (.bipush 20, 2) := dq daX11_node_11_0 26 rfl
theorem dX11_node_51 : decode cX11_node 51 = .ok (.iconst 4, 1) := dq daX11_node_11_0 27 rfl
theorem dX11_node_52 : decode cX11_node 52 = .ok (.aload_n 0, 1) := dq daX11_node_11_0 28 rfl
theorem dX11_node_53 : decode cX11_node 53 = .ok (.getfield 39, 3) := dq daX11_node_11_0 29 rfl
theorem dX11_node_56 : decode cX11_node 56 = .ok (.iconst 0, 1) := dq daX11_node_11_0 30 rfl
theorem dX11_node_57 : decode cX11_node 57 = .ok (.iaload, 1) := dq daX11_node_11_0 31 rfl
def dtX11_node_11_1 : List (Nat × Jvm.ClassFile.Instr × Nat) := [(58, .imul, 1), (59, .iadd, 1), (60, .istore 4, 2), (62, .aload_n 0, 1), (63, .getfield 39, 3), (66, .iload 4, 2), (68, .iload_n 1, 1), (69, .iastore, 1), (70, .aload_n 0, 1), (71, .getfield 39, 3), (74, .iload 4, 2), (76, .iconst 1, 1), (77, .iadd, 1), (78, .iload_n 2, 1), (79, .iastore, 1), (80, .aload_n 0, 1), (81, .getfield 39, 3), (84, .iload 4, 2), (86, .iconst 2, 1), (87, .iadd, 1), (88, .iload_n 3, 1), (89, .iastore, 1), (90, .aload_n 0, 1), (91, .getfield 39, 3), (94, .iload 4, 2), (96, .iconst 3, 1), (97, .iadd, 1), (98, .iconst 0, 1), (99, .iastore, 1), (100, .aload_n 0, 1), (101, .getfield 39, 3), (104, .iconst 0, 1)]
theorem daX11_node_11_1 : dtX11_node_11_1.all (dqd cX11_node) = true := by decide +kernel
theorem dX11_node_58 : decode cX11_node 58 = .ok (.imul, 1) := dq daX11_node_11_1 0 rfl
theorem dX11_node_59 : decode cX11_node 59 = .ok (.iadd, 1) := dq daX11_node_11_1 1 rfl
theorem dX11_node_60 : decode cX11_node 60 = .ok (.istore 4, 2) := dq daX11_node_11_1 2 rfl
theorem dX11_node_62 : decode cX11_node 62 = .ok (.aload_n 0, 1) := dq daX11_node_11_1 3 rfl
theorem dX11_node_63 : decode cX11_node 63 = .ok (.getfield 39, 3) := dq daX11_node_11_1 4 rfl
theorem dX11_node_66 : decode cX11_node 66 = .ok (.iload 4, 2) := dq daX11_node_11_1 5 rfl
theorem dX11_node_68 : decode cX11_node 68 = .ok (.iload_n 1, 1) := dq daX11_node_11_1 6 rfl
theorem dX11_node_69 : decode cX11_node 69 = .ok (.iastore, 1) := dq daX11_node_11_1 7 rfl
theorem dX11_node_70 : decode cX11_node 70 = .ok (.aload_n 0, 1) := dq daX11_node_11_1 8 rfl
theorem dX11_node_71 : decode cX11_node 71 = .ok (.getfield 39, 3) := dq daX11_node_11_1 9 rfl
theorem dX11_node_74 : decode cX11_node 74 = .ok (.iload 4, 2) := dq daX11_node_11_1 10 rfl
theorem dX11_node_76 : decode cX11_node 76 = .ok (.iconst 1, 1) := dq daX11_node_11_1 11 rfl
theorem dX11_node_77 : decode cX11_node 77 = .ok (.iadd, 1) := dq daX11_node_11_1 12 rfl
theorem dX11_node_78 : decode cX11_node 78 = .ok (.iload_n 2, 1) := dq daX11_node_11_1 13 rfl
theorem dX11_node_79 : decode cX11_node 79 = .ok (.iastore, 1) := dq daX11_node_11_1 14 rfl
theorem dX11_node_80 : decode cX11_node 80 = .ok (.aload_n 0, 1) := dq daX11_node_11_1 15 rfl
theorem dX11_node_81 : decode cX11_node 81 = .ok (.getfield 39, 3) := dq daX11_node_11_1 16 rfl
theorem dX11_node_84 : decode cX11_node 84 = .ok (.iload 4, 2) := dq daX11_node_11_1 17 rfl
theorem dX11_node_86 : decode cX11_node 86 = .ok (.iconst 2, 1) := dq daX11_node_11_1 18 rfl
theorem dX11_node_87 : decode cX11_node 87 = .ok (.iadd, 1) := dq daX11_node_11_1 19 rfl
theorem dX11_node_88 : decode cX11_node 88 = .ok (.iload_n 3, 1) := dq daX11_node_11_1 20 rfl
theorem dX11_node_89 : decode cX11_node 89 = .ok (.iastore, 1) := dq daX11_node_11_1 21 rfl
theorem dX11_node_90 : decode cX11_node 90 = .ok (.aload_n 0, 1) := dq daX11_node_11_1 22 rfl
theorem dX11_node_91 : decode cX11_node 91 = .ok (.getfield 39, 3) := dq daX11_node_11_1 23 rfl
theorem dX11_node_94 : decode cX11_node 94 = .ok (.iload 4, 2) := dq daX11_node_11_1 24 rfl
theorem dX11_node_96 : decode cX11_node 96 = .ok (.iconst 3, 1) := dq daX11_node_11_1 25 rfl
theorem dX11_node_97 : decode cX11_node 97 = .ok (.iadd, 1) := dq daX11_node_11_1 26 rfl
theorem dX11_node_98 : decode cX11_node 98 = .ok (.iconst 0, 1) := dq daX11_node_11_1 27 rfl
theorem dX11_node_99 : decode cX11_node 99 = .ok (.iastore, 1) := dq daX11_node_11_1 28 rfl
theorem dX11_node_100 : decode cX11_node 100 = .ok (.aload_n 0, 1) := dq daX11_node_11_1 29 rfl
theorem dX11_node_101 : decode cX11_node 101 = .ok (.getfield 39, 3) := dq daX11_node_11_1 30 rfl
theorem dX11_node_104 : decode cX11_node 104 = .ok (.iconst 0, 1) := dq daX11_node_11_1 31 rfl
def dtX11_node_11_2 : List (Nat × Jvm.ClassFile.Instr × Nat) := [(105, .dup2, 1), (106, .iaload, 1), (107, .iconst 1, 1), (108, .iadd, 1), (109, .iastore, 1), (110, .aload_n 0, 1), (111, .getfield 39, 3), (114, .iconst 0, 1), (115, .iaload, 1), (116, .iconst 1, 1), (117, .isub, 1), (118, .ireturn, 1)]
theorem daX11_node_11_2 : dtX11_node_11_2.all (dqd cX11_node) = true := by decide +kernel
theorem dX11_node_105 : decode cX11_node 105 = .ok (.dup2, 1) := dq daX11_node_11_2 0 rfl
theorem dX11_node_106 : decode cX11_node 106 = .ok (.iaload, 1) := dq daX11_node_11_2 1 rfl
theorem dX11_node_107 : decode cX11_node 107 = .ok (.iconst 1, 1) := dq daX11_node_11_2 2 rfl
theorem dX11_node_108 : decode cX11_node 108 = .ok (.iadd, 1) := dq daX11_node_11_2 3 rfl
theorem dX11_node_109 : decode cX11_node 109 = .ok (.iastore, 1) := dq daX11_node_11_2 4 rfl
theorem dX11_node_110 : decode cX11_node 110 = .ok (.aload_n 0, 1) := dq daX11_node_11_2 5 rfl
theorem dX11_node_111 : decode cX11_node 111 = .ok (.getfield 39, 3) := dq daX11_node_11_2 6 rfl
theorem dX11_node_114 : decode cX11_node 114 = .ok (.iconst 0, 1) := dq daX11_node_11_2 7 rfl
theorem dX11_node_115 : decode cX11_node 115 = .ok (.iaload, 1) := dq daX11_node_11_2 8 rfl
theorem dX11_node_116 : decode cX11_node 116 = .ok (.iconst 1, 1) := dq daX11_node_11_2 9 rfl
theorem dX11_node_117 : decode cX11_node 117 = .ok (.isub, 1) := dq daX11_node_11_2 10 rfl
theorem dX11_node_118 : decode cX11_node 118 = .ok (.ireturn, 1) := dq daX11_node_11_2 11 rfl
def dtX11_pass_11_0 : List (Nat × Jvm.ClassFile.Instr × Nat) := [(0, .aload_n 0, 1), (1, .getfield 39, 3), (4, .iconst 1, 1), (5, .iaload, 1), (6, .bipush 20, 2), (8, .if_icmp .eq 62, 3), (70, .iconst (-1), 1), (71, .ireturn, 1), (11, .aload_n 0, 1), (12, .iload_n 1, 1), (13, .invokevirtual 267, 3), (16, .ifCond .eq 54, 3), (19, .aload_n 0, 1), (20, .iload_n 2, 1), (21, .invokevirtual 267, 3), (24, .ifCond .eq 46, 3), (27, .iload_n 1, 1), (28, .iload_n 2, 1), (29, .if_icmp .eq 41, 3), (32, .iload_n 3, 1), (33, .i2l, 1), (34, .lconst 1, 1), (35, .ldc2_w 270, 3), (38, .invokestatic 118, 3), (41, .ifCond .eq 29, 3), (44, .iload 4, 2), (46, .i2l, 1), (47, .lconst 0, 1), (48, .ldc2_w 265, 3), (51, .invokestatic 118, 3), (54, .ifCond .eq 16, 3), (57, .iload 5, 2)]
theorem daX11_pass_11_0 : dtX11_pass_11_0.all (dqd cX11_pass) = true := by decide +kernel
theorem dX11_pass_0 : decode cX11_pass 0 = .ok (.aload_n 0, 1) := dq daX11_pass_11_0 0 rfl
theorem dX11_pass_1 : decode cX11_pass 1 = .ok (.getfield 39, 3) := dq daX11_pass_11_0 1 rfl
theorem dX11_pass_4 : decode cX11_pass 4 = .ok (.iconst 1, 1) := dq daX11_pass_11_0 2 rfl
theorem dX11_pass_5 : decode cX11_pass 5 = .ok (.iaload, 1) := dq daX11_pass_11_0 3 rfl
theorem dX11_pass_6 : decode cX11_pass 6 = .ok (.bipush 20, 2) := dq daX11_pass_11_0 4 rfl
theorem dX11_pass_8 : decode cX11_pass 8 = .ok (.if_icmp .eq 62, 3) := dq daX11_pass_11_0 5 rfl
theorem dX11_pass_70 : decode cX11_pass 70 = .ok (.iconst (-1), 1) := dq daX11_pass_11_0 6 rfl
theorem dX11_pass_71 : decode cX11_pass 71 = .ok (.ireturn, 1) := dq daX11_pass_11_0 7 rfl
theorem dX11_pass_11 : decode cX11_pass 11 = .ok (.aload_n 0, 1) := dq daX11_pass_11_0 8 rfl
theorem dX11_pass_12 : decode cX11_pass 12 = .ok (.iload_n 1, 1) := dq daX11_pass_11_0 9 rfl
theorem dX11_pass_13 : decode cX11_pass 13 = .ok (.invokevirtual 267, 3) := dq daX11_pass_11_0 10 rfl
theorem dX11_pass_16 : decode cX11_pass 16 = .ok (.ifCond .eq 54, 3) := dq daX11_pass_11_0 11 rfl
theorem dX11_pass_19 : decode cX11_pass 19 = .ok (.aload_n 0, 1) := dq daX11_pass_11_0 12 rfl
theorem dX11_pass_20 : decode cX11_pass 20 = .ok (.iload_n 2, 1) := dq daX11_pass_11_0 13 rfl
theorem dX11_pass_21 : decode cX11_pass 21 = .ok (.invokevirtual 267, 3) := dq daX11_pass_11_0 14 rfl
theorem dX11_pass_24 : decode cX11_pass 24 = .ok (.ifCond .eq 46, 3) := dq daX11_pass_11_0 15 rfl
theorem dX11_pass_27 : decode cX11_pass 27 = .ok (.iload_n 1, 1) := dq daX11_pass_11_0 16 rfl
theorem dX11_pass_28 : decode cX11_pass 28 = .ok (.iload_n 2, 1) := dq daX11_pass_11_0 17 rfl
theorem dX11_pass_29 : decode cX11_pass 29 = .ok (.if_icmp .eq 41, 3) := dq daX11_pass_11_0 18 rfl
theorem dX11_pass_32 : decode cX11_pass 32 = .ok (.iload_n 3, 1) := dq daX11_pass_11_0 19 rfl
theorem dX11_pass_33 : decode cX11_pass 33 = .ok (.i2l, 1) := dq daX11_pass_11_0 20 rfl
theorem dX11_pass_34 : decode cX11_pass 34 = .ok (.lconst 1, 1) := dq daX11_pass_11_0 21 rfl
theorem dX11_pass_35 : decode cX11_pass 35 = .ok (.ldc2_w 270, 3) := dq daX11_pass_11_0 22 rfl
theorem dX11_pass_38 : decode cX11_pass 38 = .ok (.invokestatic 118, 3) := dq daX11_pass_11_0 23 rfl
theorem dX11_pass_41 : decode cX11_pass 41 = .ok (.ifCond .eq 29, 3) := dq daX11_pass_11_0 24 rfl
theorem dX11_pass_44 : decode cX11_pass 44 = .ok (.iload 4, 2) := dq daX11_pass_11_0 25 rfl
theorem dX11_pass_46 : decode cX11_pass 46 = .ok (.i2l, 1) := dq daX11_pass_11_0 26 rfl
theorem dX11_pass_47 : decode cX11_pass 47 = .ok (.lconst 0, 1) := dq daX11_pass_11_0 27 rfl
theorem dX11_pass_48 : decode cX11_pass 48 = .ok (.ldc2_w 265, 3) := dq daX11_pass_11_0 28 rfl
theorem dX11_pass_51 : decode cX11_pass 51 = .ok (.invokestatic 118, 3) := dq daX11_pass_11_0 29 rfl
theorem dX11_pass_54 : decode cX11_pass 54 = .ok (.ifCond .eq 16, 3) := dq daX11_pass_11_0 30 rfl
theorem dX11_pass_57 : decode cX11_pass 57 = .ok (.iload 5, 2) := dq daX11_pass_11_0 31 rfl
def dtX11_pass_11_1 : List (Nat × Jvm.ClassFile.Instr × Nat) := [(59, .i2l, 1), (60, .lconst 0, 1), (61, .ldc2_w 272, 3), (64, .invokestatic 118, 3), (67, .ifCond .ne 5, 3), (72, .bipush 68, 2), (74, .iconst 5, 1), (75, .aload_n 0, 1), (76, .getfield 39, 3), (79, .iconst 1, 1), (80, .iaload, 1), (81, .imul, 1), (82, .iadd, 1), (83, .istore 6, 2), (85, .aload_n 0, 1), (86, .getfield 39, 3), (89, .iload 6, 2), (91, .iload_n 1, 1), (92, .iastore, 1), (93, .aload_n 0, 1), (94, .getfield 39, 3), (97, .iload 6, 2), (99, .iconst 1, 1), (100, .iadd, 1), (101, .iload_n 2, 1), (102, .iastore, 1), (103, .aload_n 0, 1), (104, .getfield 39, 3), (107, .iload 6, 2), (109, .iconst 2, 1), (110, .iadd, 1), (111, .iload_n 3, 1)]
theorem daX11_pass_11_1 : dtX11_pass_11_1.all (dqd cX11_pass) = true := by decide +kernel
theorem dX11_pass_59 : decode cX11_pass 59 = .ok (.i2l, 1) := dq daX11_pass_11_1 0 rfl
theorem dX11_pass_60 : decode cX11_pass 60 = .ok (.lconst 0, 1) := dq daX11_pass_11_1 1 rfl
theorem dX11_pass_61 : decode cX11_pass 61 = .ok (.ldc2_w 272, 3) := dq daX11_pass_11_1 2 rfl
theorem dX11_pass_64 : decode cX11_pass 64 = .ok (.invokestatic 118, 3) := dq daX11_pass_11_1 3 rfl
theorem dX11_pass_67 : decode cX11_pass 67 = .ok (.ifCond .ne 5, 3) := dq daX11_pass_11_1 4 rfl
theorem dX11_pass_72 : decode cX11_pass 72 = .ok (.bipush 68, 2) := dq daX11_pass_11_1 5 rfl
theorem dX11_pass_74 : decode cX11_pass 74 = .ok (.iconst 5, 1) := dq daX11_pass_11_1 6 rfl
theorem dX11_pass_75 : decode cX11_pass 75 = .ok (.aload_n 0, 1) := dq daX11_pass_11_1 7 rfl
theorem dX11_pass_76 : decode cX11_pass 76 = .ok (.getfield 39, 3) := dq daX11_pass_11_1 8 rfl
theorem dX11_pass_79 : decode cX11_pass 79 = .ok (.iconst 1, 1) := dq daX11_pass_11_1 9 rfl
theorem dX11_pass_80 : decode cX11_pass 80 = .ok (.iaload, 1) := dq daX11_pass_11_1 10 rfl
theorem dX11_pass_81 : decode cX11_pass 81 = .ok (.imul, 1) := dq daX11_pass_11_1 11 rfl
theorem dX11_pass_82 : decode cX11_pass 82 = .ok (.iadd, 1) := dq daX11_pass_11_1 12 rfl
theorem dX11_pass_83 : decode cX11_pass 83 = .ok (.istore 6, 2) := dq daX11_pass_11_1 13 rfl
theorem dX11_pass_85 : decode cX11_pass 85 = .ok (.aload_n 0, 1) := dq daX11_pass_11_1 14 rfl
theorem dX11_pass_86 : decode cX11_pass 86 = .ok (.getfield 39, 3) := dq daX11_pass_11_1 15 rfl
theorem dX11_pass_89 : decode cX11_pass 89 = .ok (.iload 6, 2) := dq daX11_pass_11_1 16 rfl
theorem dX11_pass_91 : decode cX11_pass 91 = .ok (.iload_n 1, 1) := dq daX11_pass_11_1 17 rfl
theorem dX11_pass_92 : decode cX11_pass 92 = .ok (.iastore, 1) := dq daX11_pass_11_1 18 rfl
theorem dX11_pass_93 : decode cX11_pass 93 = .ok (.aload_n 0, 1) := dq daX11_pass_11_1 19 rfl
theorem dX11_pass_94 : decode cX11_pass 94 = .ok (.getfield 39, 3) := dq daX11_pass_11_1 20 rfl
theorem dX11_pass_97 : decode cX11_pass 97 = .ok (.iload 6, 2) := dq daX11_pass_11_1 21 rfl
theorem dX11_pass_99 : decode cX11_pass 99 = .ok (.iconst 1, 1) := dq daX11_pass_11_1 22 rfl
theorem dX11_pass_100 : decode cX11_pass 100 = .ok (.iadd, 1) := dq daX11_pass_11_1 23 rfl
theorem dX11_pass_101 : decode cX11_pass 101 = .ok (.iload_n 2, 1) := dq daX11_pass_11_1 24 rfl
theorem dX11_pass_102 : decode cX11_pass 102 = .ok (.iastore, 1) := dq daX11_pass_11_1 25 rfl
theorem dX11_pass_103 : decode cX11_pass 103 = .ok (.aload_n 0, 1) := dq daX11_pass_11_1 26 rfl
theorem dX11_pass_104 : decode cX11_pass 104 = .ok (.getfield 39, 3) := dq daX11_pass_11_1 27 rfl
theorem dX11_pass_107 : decode cX11_pass 107 = .ok (.iload 6, 2) := dq daX11_pass_11_1 28 rfl
theorem dX11_pass_109 : decode cX11_pass 109 = .ok (.iconst 2, 1) := dq daX11_pass_11_1 29 rfl
theorem dX11_pass_110 : decode cX11_pass 110 = .ok (.iadd, 1) := dq daX11_pass_11_1 30 rfl
theorem dX11_pass_111 : decode cX11_pass 111 = .ok (.iload_n 3, 1) := dq daX11_pass_11_1 31 rfl
def dtX11_pass_11_2 : List (Nat × Jvm.ClassFile.Instr × Nat) := [(112, .iastore, 1), (113, .aload_n 0, 1), (114, .getfield 39, 3), (117, .iload 6, 2), (119, .iconst 3, 1), (120, .iadd, 1), (121, .iload 4, 2), (123, .iastore, 1), (124, .aload_n 0, 1), (125, .getfield 39, 3), (128, .iload 6, 2), (130, .iconst 4, 1), (131, .iadd, 1), (132, .iload 5, 2), (134, .iastore, 1), (135, .aload_n 0, 1), (136, .getfield 39, 3), (139, .iconst 1, 1), (140, .dup2, 1), (141, .iaload, 1), (142, .iconst 1, 1), (143, .iadd, 1), (144, .iastore, 1), (145, .aload_n 0, 1), (146, .getfield 39, 3), (149, .iconst 1, 1), (150, .iaload, 1), (151, .iconst 1, 1), (152, .isub, 1), (153, .ireturn, 1)]
theorem daX11_pass_11_2 : dtX11_pass_11_2.all (dqd cX11_pass) = true := by decide +kernel
theorem dX11_pass_112 : decode cX11_pass 112 = .ok (.iastore, 1) := dq daX11_pass_11_2 0 rfl
theorem dX11_pass_113 : decode cX11_pass 113 = .ok (.aload_n 0, 1) := dq daX11_pass_11_2 1 rfl
theorem dX11_pass_114 : decode cX11_pass 114 = .ok (.getfield 39, 3) := dq daX11_pass_11_2 2 rfl
theorem dX11_pass_117 : decode cX11_pass 117 = .ok (.iload 6, 2) := dq daX11_pass_11_2 3 rfl
theorem dX11_pass_119 : decode cX11_pass 119 = .ok (.iconst 3, 1) := dq daX11_pass_11_2 4 rfl
theorem dX11_pass_120 : decode cX11_pass 120 = .ok (.iadd, 1) := dq daX11_pass_11_2 5 rfl
theorem dX11_pass_121 : decode cX11_pass 121 = .ok (.iload 4, 2) := dq daX11_pass_11_2 6 rfl
theorem dX11_pass_123 : decode cX11_pass 123 = .ok (.iastore, 1) := dq daX11_pass_11_2 7 rfl
theorem dX11_pass_124 : decode cX11_pass 124 = .ok (.aload_n 0, 1) := dq daX11_pass_11_2 8 rfl
theorem dX11_pass_125 : decode cX11_pass 125 = .ok (.getfield 39, 3) := dq daX11_pass_11_2 9 rfl
theorem dX11_pass_128 : decode cX11_pass 128 = .ok (.iload 6, 2) := dq daX11_pass_11_2 10 rfl
theorem dX11_pass_130 : decode cX11_pass 130 = .ok (.iconst 4, 1) := dq daX11_pass_11_2 11 rfl
theorem dX11_pass_131 : decode cX11_pass 131 = .ok (.iadd, 1) := dq daX11_pass_11_2 12 rfl
theorem dX11_pass_132 : decode cX11_pass 132 = .ok (.iload 5, 2) := dq daX11_pass_11_2 13 rfl
theorem dX11_pass_134 : decode cX11_pass 134 = .ok (.iastore, 1) := dq daX11_pass_11_2 14 rfl
theorem dX11_pass_135 : decode cX11_pass 135 = .ok (.aload_n 0, 1) := dq daX11_pass_11_2 15 rfl
theorem dX11_pass_136 : decode cX11_pass 136 = .ok (.getfield 39, 3) := dq daX11_pass_11_2 16 rfl
theorem dX11_pass_139 : decode cX11_pass 139 = .ok (.iconst 1, 1) := dq daX11_pass_11_2 17 rfl
theorem dX11_pass_140 : decode cX11_pass 140 = .ok (.dup2, 1) := dq daX11_pass_11_2 18 rfl
theorem dX11_pass_141 : decode cX11_pass 141 = .ok (.iaload, 1) := dq daX11_pass_11_2 19 rfl
theorem dX11_pass_142 : decode cX11_pass 142 = .ok (.iconst 1, 1) := dq daX11_pass_11_2 20 rfl
theorem dX11_pass_143 : decode cX11_pass 143 = .ok (.iadd, 1) := dq daX11_pass_11_2 21 rfl
theorem dX11_pass_144 : decode cX11_pass 144 = .ok (.iastore, 1) := dq daX11_pass_11_2 22 rfl
theorem dX11_pass_145 : decode cX11_pass 145 = .ok (.aload_n 0, 1) := dq daX11_pass_11_2 23 rfl
theorem dX11_pass_146 : decode cX11_pass 146 = .ok (.getfield 39, 3) := dq daX11_pass_11_2 24 rfl
theorem dX11_pass_149 : decode cX11_pass 149 = .ok (.iconst 1, 1) := dq daX11_pass_11_2 25 rfl
theorem dX11_pass_150 : decode cX11_pass 150 = .ok (.iaload, 1) := dq daX11_pass_11_2 26 rfl
theorem dX11_pass_151 : decode cX11_pass 151 = .ok (.iconst 1, 1) := dq daX11_pass_11_2 27 rfl
theorem dX11_pass_152 : decode cX11_pass 152 = .ok (.isub, 1) := dq daX11_pass_11_2 28 rfl
theorem dX11_pass_153 : decode cX11_pass 153 = .ok (.ireturn, 1) := dq daX11_pass_11_2 29 rfl
def dtX11_jar_11_0 : List (Nat × Jvm.ClassFile.Instr × Nat) := [(0, .aload_n 0, 1), (1, .getfield 39, 3), (4, .iconst 2, 1), (5, .iaload, 1), (6, .bipush 16, 2), (8, .if_icmp .eq 61, 3), (69, .iconst (-1), 1), (70, .ireturn, 1), (11, .aload_n 0, 1), (12, .iload_n 1, 1), (13, .invokevirtual 267, 3), (16, .ifCond .eq 53, 3), (19, .iload_n 2, 1), (20, .i2l, 1), (21, .lconst 0, 1), (22, .ldc2_w 265, 3), (25, .invokestatic 118, 3), (28, .ifCond .eq 41, 3), (31, .iload_n 3, 1), (32, .i2l, 1), (33, .lconst 0, 1), (34, .ldc2_w 265, 3), (37, .invokestatic 118, 3), (40, .ifCond .eq 29, 3), (43, .iload 4, 2), (45, .i2l, 1), (46, .lconst 0, 1), (47, .ldc2_w 274, 3), (50, .invokestatic 118, 3), (53, .ifCond .eq 16, 3), (56, .iload 5, 2), (58, .i2l, 1)]
theorem daX11_jar_11_0 : dtX11_jar_11_0.all (dqd cX11_jar) = true := by decide +kernel
theorem dX11_jar_0 : decode cX11_jar 0 = .ok (.aload_n 0, 1) := dq daX11_jar_11_0 0 rfl
theorem dX11_jar_1 : decode cX11_jar 1 = .ok (.getfield 39, 3) := dq daX11_jar_11_0 1 rfl
theorem dX11_jar_4 : decode cX11_jar 4 = .ok (.iconst 2, 1) := dq daX11_jar_11_0 2 rfl
theorem dX11_jar_5 : decode cX11_jar 5 = .ok (.iaload, 1) := dq daX11_jar_11_0 3 rfl
theorem dX11_jar_6 : decode cX11_jar 6 = .ok (.bipush 16, 2) := dq daX11_jar_11_0 4 rfl
theorem dX11_jar_8 : decode cX11_jar 8 = .ok (.if_icmp .eq 61, 3) := dq daX11_jar_11_0 5 rfl
theorem dX11_jar_69 : decode cX11_jar 69 = .ok (.iconst (-1), 1) := dq daX11_jar_11_0 6 rfl
theorem dX11_jar_70 : decode cX11_jar 70 = .ok (.ireturn, 1) := dq daX11_jar_11_0 7 rfl
theorem dX11_jar_11 : decode cX11_jar 11 = .ok (.aload_n 0, 1) := dq daX11_jar_11_0 8 rfl
theorem dX11_jar_12 : decode cX11_jar 12 = .ok (.iload_n 1, 1) := dq daX11_jar_11_0 9 rfl
theorem dX11_jar_13 : decode cX11_jar 13 = .ok (.invokevirtual 267, 3) := dq daX11_jar_11_0 10 rfl
theorem dX11_jar_16 : decode cX11_jar 16 = .ok (.ifCond .eq 53, 3) := dq daX11_jar_11_0 11 rfl
theorem dX11_jar_19 : decode cX11_jar 19 = .ok (.iload_n 2, 1) := dq daX11_jar_11_0 12 rfl
theorem dX11_jar_20 : decode cX11_jar 20 = .ok (.i2l, 1) := dq daX11_jar_11_0 13 rfl
theorem dX11_jar_21 : decode cX11_jar 21 = .ok (.lconst 0, 1) := dq daX11_jar_11_0 14 rfl
theorem dX11_jar_22 : decode cX11_jar 22 = .ok (.ldc2_w 265, 3) := dq daX11_jar_11_0 15 rfl
theorem dX11_jar_25 : decode cX11_jar 25 = .ok (.invokestatic 118, 3) := dq daX11_jar_11_0 16 rfl
theorem dX11_jar_28 : decode cX11_jar 28 = .ok (.ifCond .eq 41, 3) := dq daX11_jar_11_0 17 rfl
theorem dX11_jar_31 : decode cX11_jar 31 = .ok (.iload_n 3, 1) := dq daX11_jar_11_0 18 rfl
theorem dX11_jar_32 : decode cX11_jar 32 = .ok (.i2l, 1) := dq daX11_jar_11_0 19 rfl
theorem dX11_jar_33 : decode cX11_jar 33 = .ok (.lconst 0, 1) := dq daX11_jar_11_0 20 rfl
theorem dX11_jar_34 : decode cX11_jar 34 = .ok (.ldc2_w 265, 3) := dq daX11_jar_11_0 21 rfl
theorem dX11_jar_37 : decode cX11_jar 37 = .ok (.invokestatic 118, 3) := dq daX11_jar_11_0 22 rfl
theorem dX11_jar_40 : decode cX11_jar 40 = .ok (.ifCond .eq 29, 3) := dq daX11_jar_11_0 23 rfl
theorem dX11_jar_43 : decode cX11_jar 43 = .ok (.iload 4, 2) := dq daX11_jar_11_0 24 rfl
theorem dX11_jar_45 : decode cX11_jar 45 = .ok (.i2l, 1) := dq daX11_jar_11_0 25 rfl
theorem dX11_jar_46 : decode cX11_jar 46 = .ok (.lconst 0, 1) := dq daX11_jar_11_0 26 rfl
theorem dX11_jar_47 : decode cX11_jar 47 = .ok (.ldc2_w 274, 3) := dq daX11_jar_11_0 27 rfl
theorem dX11_jar_50 : decode cX11_jar 50 = .ok (.invokestatic 118, 3) := dq daX11_jar_11_0 28 rfl
theorem dX11_jar_53 : decode cX11_jar 53 = .ok (.ifCond .eq 16, 3) := dq daX11_jar_11_0 29 rfl
theorem dX11_jar_56 : decode cX11_jar 56 = .ok (.iload 5, 2) := dq daX11_jar_11_0 30 rfl
theorem dX11_jar_58 : decode cX11_jar 58 = .ok (.i2l, 1) := dq daX11_jar_11_0 31 rfl
def dtX11_jar_11_1 : List (Nat × Jvm.ClassFile.Instr × Nat) := [(59, .lconst 0, 1), (60, .ldc2_w 276, 3), (63, .invokestatic 118, 3), (66, .ifCond .ne 5, 3), (71, .sipush 168, 3), (74, .bipush 9, 2), (76, .aload_n 0, 1), (77, .getfield 39, 3), (80, .iconst 2, 1), (81, .iaload, 1), (82, .imul, 1), (83, .iadd, 1), (84, .istore 6, 2), (86, .aload_n 0, 1), (87, .getfield 39, 3), (90, .iload 6, 2), (92, .iload_n 2, 1), (93, .iastore, 1), (94, .aload_n 0, 1), (95, .getfield 39, 3), (98, .iload 6, 2), (100, .iconst 1, 1), (101, .iadd, 1), (102, .iload_n 3, 1), (103, .iastore, 1), (104, .aload_n 0, 1), (105, .getfield 39, 3), (108, .iload 6, 2), (110, .iconst 2, 1), (111, .iadd, 1), (112, .iload 4, 2), (114, .iastore, 1)]
theorem daX11_jar_11_1 : dtX11_jar_11_1.all (dqd cX11_jar) = true := by decide +kernel
theorem dX11_jar_59 : decode cX11_jar 59 = .ok (.lconst 0, 1) := dq daX11_jar_11_1 0 rfl
theorem dX11_jar_60 : decode cX11_jar 60 = .ok (.ldc2_w 276, 3) := dq daX11_jar_11_1 1 rfl
theorem dX11_jar_63 : decode cX11_jar 63 = .ok (.invokestatic 118, 3) := dq daX11_jar_11_1 2 rfl
theorem dX11_jar_66 : decode cX11_jar 66 = .ok (.ifCond .ne 5, 3) := dq daX11_jar_11_1 3 rfl
theorem dX11_jar_71 : decode cX11_jar 71 = .ok (.sipush 168, 3) := dq daX11_jar_11_1 4 rfl
theorem dX11_jar_74 : decode cX11_jar 74 = .ok (.bipush 9, 2) := dq daX11_jar_11_1 5 rfl
theorem dX11_jar_76 : decode cX11_jar 76 = .ok (.aload_n 0, 1) := dq daX11_jar_11_1 6 rfl
theorem dX11_jar_77 : decode cX11_jar 77 = .ok (.getfield 39, 3) := dq daX11_jar_11_1 7 rfl
theorem dX11_jar_80 : decode cX11_jar 80 = .ok (.iconst 2, 1) := dq daX11_jar_11_1 8 rfl
theorem dX11_jar_81 : decode cX11_jar 81 = .ok (.iaload, 1) := dq daX11_jar_11_1 9 rfl
theorem dX11_jar_82 : decode cX11_jar 82 = .ok (.imul, 1) := dq daX11_jar_11_1 10 rfl
theorem dX11_jar_83 : decode cX11_jar 83 = .ok (.iadd, 1) := dq daX11_jar_11_1 11 rfl
theorem dX11_jar_84 : decode cX11_jar 84 = .ok (.istore 6, 2) := dq daX11_jar_11_1 12 rfl
theorem dX11_jar_86 : decode cX11_jar 86 = .ok (.aload_n 0, 1) := dq daX11_jar_11_1 13 rfl
theorem dX11_jar_87 : decode cX11_jar 87 = .ok (.getfield 39, 3) := dq daX11_jar_11_1 14 rfl
theorem dX11_jar_90 : decode cX11_jar 90 = .ok (.iload 6, 2) := dq daX11_jar_11_1 15 rfl
theorem dX11_jar_92 : decode cX11_jar 92 = .ok (.iload_n 2, 1) := dq daX11_jar_11_1 16 rfl
theorem dX11_jar_93 : decode cX11_jar 93 = .ok (.iastore, 1) := dq daX11_jar_11_1 17 rfl
theorem dX11_jar_94 : decode cX11_jar 94 = .ok (.aload_n 0, 1) := dq daX11_jar_11_1 18 rfl
theorem dX11_jar_95 : decode cX11_jar 95 = .ok (.getfield 39, 3) := dq daX11_jar_11_1 19 rfl
theorem dX11_jar_98 : decode cX11_jar 98 = .ok (.iload 6, 2) := dq daX11_jar_11_1 20 rfl
theorem dX11_jar_100 : decode cX11_jar 100 = .ok (.iconst 1, 1) := dq daX11_jar_11_1 21 rfl
theorem dX11_jar_101 : decode cX11_jar 101 = .ok (.iadd, 1) := dq daX11_jar_11_1 22 rfl
theorem dX11_jar_102 : decode cX11_jar 102 = .ok (.iload_n 3, 1) := dq daX11_jar_11_1 23 rfl
theorem dX11_jar_103 : decode cX11_jar 103 = .ok (.iastore, 1) := dq daX11_jar_11_1 24 rfl
theorem dX11_jar_104 : decode cX11_jar 104 = .ok (.aload_n 0, 1) := dq daX11_jar_11_1 25 rfl
theorem dX11_jar_105 : decode cX11_jar 105 = .ok (.getfield 39, 3) := dq daX11_jar_11_1 26 rfl
theorem dX11_jar_108 : decode cX11_jar 108 = .ok (.iload 6, 2) := dq daX11_jar_11_1 27 rfl
theorem dX11_jar_110 : decode cX11_jar 110 = .ok (.iconst 2, 1) := dq daX11_jar_11_1 28 rfl
theorem dX11_jar_111 : decode cX11_jar 111 = .ok (.iadd, 1) := dq daX11_jar_11_1 29 rfl
theorem dX11_jar_112 : decode cX11_jar 112 = .ok (.iload 4, 2) := dq daX11_jar_11_1 30 rfl
theorem dX11_jar_114 : decode cX11_jar 114 = .ok (.iastore, 1) := dq daX11_jar_11_1 31 rfl
def dtX11_jar_11_2 : List (Nat × Jvm.ClassFile.Instr × Nat) := [(115, .aload_n 0, 1), (116, .getfield 39, 3), (119, .iload 6, 2), (121, .iconst 3, 1), (122, .iadd, 1), (123, .iload 5, 2), (125, .iastore, 1), (126, .aload_n 0, 1), (127, .getfield 39, 3), (130, .iload 6, 2), (132, .iconst 4, 1), (133, .iadd, 1), (134, .iconst 0, 1), (135, .iastore, 1), (136, .aload_n 0, 1), (137, .getfield 39, 3), (140, .iload 6, 2), (142, .iconst 5, 1), (143, .iadd, 1), (144, .iload_n 1, 1), (145, .iastore, 1), (146, .aload_n 0, 1), (147, .getfield 39, 3), (150, .iload 6, 2), (152, .bipush 6, 2), (154, .iadd, 1), (155, .iconst (-1), 1), (156, .iastore, 1), (157, .aload_n 0, 1), (158, .getfield 39, 3), (161, .iload 6, 2), (163, .bipush 7, 2)]
theorem daX11_jar_11_2 : dtX11_jar_11_2.all (dqd cX11_jar) = true := by decide +kernel
theorem dX11_jar_115 : decode cX11_jar 115 = .ok (.aload_n 0, 1) := dq daX11_jar_11_2 0 rfl
theorem dX11_jar_116 : decode cX11_jar 116 = .ok (.getfield 39, 3) := dq daX11_jar_11_2 1 rfl
theorem dX11_jar_119 : decode cX11_jar 119 = .ok (.iload 6, 2) := dq daX11_jar_11_2 2 rfl
theorem dX11_jar_121 : decode cX11_jar 121 = .ok (.iconst 3, 1) := dq daX11_jar_11_2 3 rfl
theorem dX11_jar_122 : decode cX11_jar 122 = .ok (.iadd, 1) := dq daX11_jar_11_2 4 rfl
theorem dX11_jar_123 : decode cX11_jar 123 = .ok (.iload 5, 2) := dq daX11_jar_11_2 5 rfl
theorem dX11_jar_125 : decode cX11_jar 125 = .ok (.iastore, 1) := dq daX11_jar_11_2 6 rfl
theorem dX11_jar_126 : decode cX11_jar 126 = .ok (.aload_n 0, 1) := dq daX11_jar_11_2 7 rfl
theorem dX11_jar_127 : decode cX11_jar 127 = .ok (.getfield 39, 3) := dq daX11_jar_11_2 8 rfl
theorem dX11_jar_130 : decode cX11_jar 130 = .ok (.iload 6, 2) := dq daX11_jar_11_2 9 rfl
theorem dX11_jar_132 : decode cX11_jar 132 = .ok (.iconst 4, 1) := dq daX11_jar_11_2 10 rfl
theorem dX11_jar_133 : decode cX11_jar 133 = .ok (.iadd, 1) := dq daX11_jar_11_2 11 rfl
theorem dX11_jar_134 : decode cX11_jar 134 = .ok (.iconst 0, 1) := dq daX11_jar_11_2 12 rfl
theorem dX11_jar_135 : decode cX11_jar 135 = .ok (.iastore, 1) := dq daX11_jar_11_2 13 rfl
theorem dX11_jar_136 : decode cX11_jar 136 = .ok (.aload_n 0, 1) := dq daX11_jar_11_2 14 rfl
theorem dX11_jar_137 : decode cX11_jar 137 = .ok (.getfield 39, 3) := dq daX11_jar_11_2 15 rfl
theorem dX11_jar_140 : decode cX11_jar 140 = .ok (.iload 6, 2) := dq daX11_jar_11_2 16 rfl
theorem dX11_jar_142 : decode cX11_jar 142 = .ok (.iconst 5, 1) := dq daX11_jar_11_2 17 rfl
theorem dX11_jar_143 : decode cX11_jar 143 = .ok (.iadd, 1) := dq daX11_jar_11_2 18 rfl
theorem dX11_jar_144 : decode cX11_jar 144 = .ok (.iload_n 1, 1) := dq daX11_jar_11_2 19 rfl
theorem dX11_jar_145 : decode cX11_jar 145 = .ok (.iastore, 1) := dq daX11_jar_11_2 20 rfl
theorem dX11_jar_146 : decode cX11_jar 146 = .ok (.aload_n 0, 1) := dq daX11_jar_11_2 21 rfl
theorem dX11_jar_147 : decode cX11_jar 147 = .ok (.getfield 39, 3) := dq daX11_jar_11_2 22 rfl
theorem dX11_jar_150 : decode cX11_jar 150 = .ok (.iload 6, 2) := dq daX11_jar_11_2 23 rfl
theorem dX11_jar_152 : decode cX11_jar 152 = .ok (.bipush 6, 2) := dq daX11_jar_11_2 24 rfl
theorem dX11_jar_154 : decode cX11_jar 154 = .ok (.iadd, 1) := dq daX11_jar_11_2 25 rfl
theorem dX11_jar_155 : decode cX11_jar 155 = .ok (.iconst (-1), 1) := dq daX11_jar_11_2 26 rfl
theorem dX11_jar_156 : decode cX11_jar 156 = .ok (.iastore, 1) := dq daX11_jar_11_2 27 rfl
theorem dX11_jar_157 : decode cX11_jar 157 = .ok (.aload_n 0, 1) := dq daX11_jar_11_2 28 rfl
theorem dX11_jar_158 : decode cX11_jar 158 = .ok (.getfield 39, 3) := dq daX11_jar_11_2 29 rfl
theorem dX11_jar_161 : decode cX11_jar 161 = .ok (.iload 6, 2) := dq daX11_jar_11_2 30 rfl
theorem dX11_jar_163 : decode cX11_jar 163 = .ok (.bipush 7, 2) := dq daX11_jar_11_2 31 rfl
def dtX11_jar_11_3 : List (Nat × Jvm.ClassFile.Instr × Nat) := [(165, .iadd, 1), (166, .iconst 0, 1), (167, .iastore, 1), (168, .aload_n 0, 1), (169, .getfield 39, 3), (172, .iload 6, 2), (174, .bipush 8, 2), (176, .iadd, 1), (177, .iconst (-1), 1), (178, .iastore, 1), (179, .aload_n 0, 1), (180, .getfield 39, 3), (183, .iconst 2, 1), (184, .dup2, 1), (185, .iaload, 1), (186, .iconst 1, 1), (187, .iadd, 1), (188, .iastore, 1), (189, .aload_n 0, 1), (190, .getfield 39, 3), (193, .iconst 2, 1), (194, .iaload, 1), (195, .iconst 1, 1), (196, .isub, 1), (197, .ireturn, 1)]
theorem daX11_jar_11_3 : dtX11_jar_11_3.all (dqd cX11_jar) = true := by decide +kernel
theorem dX11_jar_165 : decode cX11_jar 165 = .ok (.iadd, 1) := dq daX11_jar_11_3 0 rfl
theorem dX11_jar_166 : decode cX11_jar 166 = .ok (.iconst 0, 1) := dq daX11_jar_11_3 1 rfl
theorem dX11_jar_167 : decode cX11_jar 167 = .ok (.iastore, 1) := dq daX11_jar_11_3 2 rfl
theorem dX11_jar_168 : decode cX11_jar 168 = .ok (.aload_n 0, 1) := dq daX11_jar_11_3 3 rfl
theorem dX11_jar_169 : decode cX11_jar 169 = .ok (.getfield 39, 3) := dq daX11_jar_11_3 4 rfl
theorem dX11_jar_172 : decode cX11_jar 172 = .ok (.iload 6, 2) := dq daX11_jar_11_3 5 rfl
theorem dX11_jar_174 : decode cX11_jar 174 = .ok (.bipush 8, 2) := dq daX11_jar_11_3 6 rfl
theorem dX11_jar_176 : decode cX11_jar 176 = .ok (.iadd, 1) := dq daX11_jar_11_3 7 rfl
theorem dX11_jar_177 : decode cX11_jar 177 = .ok (.iconst (-1), 1) := dq daX11_jar_11_3 8 rfl
theorem dX11_jar_178 : decode cX11_jar 178 = .ok (.iastore, 1) := dq daX11_jar_11_3 9 rfl
theorem dX11_jar_179 : decode cX11_jar 179 = .ok (.aload_n 0, 1) := dq daX11_jar_11_3 10 rfl
theorem dX11_jar_180 : decode cX11_jar 180 = .ok (.getfield 39, 3) := dq daX11_jar_11_3 11 rfl
theorem dX11_jar_183 : decode cX11_jar 183 = .ok (.iconst 2, 1) := dq daX11_jar_11_3 12 rfl
theorem dX11_jar_184 : decode cX11_jar 184 = .ok (.dup2, 1) := dq daX11_jar_11_3 13 rfl
theorem dX11_jar_185 : decode cX11_jar 185 = .ok (.iaload, 1) := dq daX11_jar_11_3 14 rfl
theorem dX11_jar_186 : decode cX11_jar 186 = .ok (.iconst 1, 1) := dq daX11_jar_11_3 15 rfl
theorem dX11_jar_187 : decode cX11_jar 187 = .ok (.iadd, 1) := dq daX11_jar_11_3 16 rfl
theorem dX11_jar_188 : decode cX11_jar 188 = .ok (.iastore, 1) := dq daX11_jar_11_3 17 rfl
theorem dX11_jar_189 : decode cX11_jar 189 = .ok (.aload_n 0, 1) := dq daX11_jar_11_3 18 rfl
theorem dX11_jar_190 : decode cX11_jar 190 = .ok (.getfield 39, 3) := dq daX11_jar_11_3 19 rfl
theorem dX11_jar_193 : decode cX11_jar 193 = .ok (.iconst 2, 1) := dq daX11_jar_11_3 20 rfl
theorem dX11_jar_194 : decode cX11_jar 194 = .ok (.iaload, 1) := dq daX11_jar_11_3 21 rfl
theorem dX11_jar_195 : decode cX11_jar 195 = .ok (.iconst 1, 1) := dq daX11_jar_11_3 22 rfl
theorem dX11_jar_196 : decode cX11_jar 196 = .ok (.isub, 1) := dq daX11_jar_11_3 23 rfl
theorem dX11_jar_197 : decode cX11_jar 197 = .ok (.ireturn, 1) := dq daX11_jar_11_3 24 rfl
def dtX11_order_11_0 : List (Nat × Jvm.ClassFile.Instr × Nat) := [(0, .aload_n 0, 1), (1, .getfield 39, 3), (4, .iconst 3, 1), (5, .iaload, 1), (6, .bipush 6, 2), (8, .if_icmp .eq 48, 3), (56, .iconst (-1), 1), (57, .ireturn, 1), (11, .aload_n 0, 1), (12, .iload_n 1, 1), (13, .invokevirtual 267, 3), (16, .ifCond .eq 40, 3), (19, .iload_n 2, 1), (20, .i2l, 1), (21, .lconst 0, 1), (22, .ldc2_w 289, 3), (25, .invokestatic 118, 3), (28, .ifCond .eq 28, 3), (31, .iload_n 3, 1), (32, .i2l, 1), (33, .lconst 1, 1), (34, .ldc2_w 289, 3), (37, .invokestatic 118, 3), (40, .ifCond .eq 16, 3), (43, .iload 4, 2), (45, .i2l, 1), (46, .lconst 0, 1), (47, .ldc2_w 445, 3), (50, .invokestatic 118, 3), (53, .ifCond .ne 5, 3), (58, .sipush 312, 3), (61, .iconst 4, 1)]
theorem daX11_order_11_0 : dtX11_order_11_0.all (dqd cX11_order) = true := by decide +kernel
theorem dX11_order_0 : decode cX11_order 0 = .ok (.aload_n 0, 1) := dq daX11_order_11_0 0 rfl
theorem dX11_order_1 : decode cX11_order 1 = .ok (.getfield 39, 3) := dq daX11_order_11_0 1 rfl
theorem dX11_order_4 : decode cX11_order 4 = .ok (.iconst 3, 1) := dq daX11_order_11_0 2 rfl
theorem dX11_order_5 : decode cX11_order 5 = .ok (.iaload, 1) := dq daX11_order_11_0 3 rfl
theorem dX11_order_6 : decode cX11_order 6 = .ok (.bipush 6, 2) := dq daX11_order_11_0 4 rfl
theorem dX11_order_8 : decode cX11_order 8 = .ok (.if_icmp .eq 48, 3) := dq daX11_order_11_0 5 rfl
theorem dX11_order_56 : decode cX11_order 56 = .ok (.iconst (-1), 1) := dq daX11_order_11_0 6 rfl
theorem dX11_order_57 : decode cX11_order 57 = .ok (.ireturn, 1) := dq daX11_order_11_0 7 rfl
theorem dX11_order_11 : decode cX11_order 11 = .ok (.aload_n 0, 1) := dq daX11_order_11_0 8 rfl
theorem dX11_order_12 : decode cX11_order 12 = .ok (.iload_n 1, 1) := dq daX11_order_11_0 9 rfl
theorem dX11_order_13 : decode cX11_order 13 = .ok (.invokevirtual 267, 3) := dq daX11_order_11_0 10 rfl
theorem dX11_order_16 : decode cX11_order 16 = .ok (.ifCond .eq 40, 3) := dq daX11_order_11_0 11 rfl
theorem dX11_order_19 : decode cX11_order 19 = .ok (.iload_n 2, 1) := dq daX11_order_11_0 12 rfl
theorem dX11_order_20 : decode cX11_order 20 = .ok (.i2l, 1) := dq daX11_order_11_0 13 rfl
theorem dX11_order_21 : decode cX11_order 21 = .ok (.lconst 0, 1) := dq daX11_order_11_0 14 rfl
theorem dX11_order_22 : decode cX11_order 22 = .ok (.ldc2_w 289, 3) := dq daX11_order_11_0 15 rfl
theorem dX11_order_25 : decode cX11_order 25 = .ok (.invokestatic 118, 3) := dq daX11_order_11_0 16 rfl
theorem dX11_order_28 : decode cX11_order 28 = .ok (.ifCond .eq 28, 3) := dq daX11_order_11_0 17 rfl
theorem dX11_order_31 : decode cX11_order 31 = .ok (.iload_n 3, 1) := dq daX11_order_11_0 18 rfl
theorem dX11_order_32 : decode cX11_order 32 = .ok (.i2l, 1) := dq daX11_order_11_0 19 rfl
theorem dX11_order_33 : decode cX11_order 33 = .ok (.lconst 1, 1) := dq daX11_order_11_0 20 rfl
theorem dX11_order_34 : decode cX11_order 34 = .ok (.ldc2_w 289, 3) := dq daX11_order_11_0 21 rfl
theorem dX11_order_37 : decode cX11_order 37 = .ok (.invokestatic 118, 3) := dq daX11_order_11_0 22 rfl
theorem dX11_order_40 : decode cX11_order 40 = .ok (.ifCond .eq 16, 3) := dq daX11_order_11_0 23 rfl
theorem dX11_order_43 : decode cX11_order 43 = .ok (.iload 4, 2) := dq daX11_order_11_0 24 rfl
theorem dX11_order_45 : decode cX11_order 45 = .ok (.i2l, 1) := dq daX11_order_11_0 25 rfl
theorem dX11_order_46 : decode cX11_order 46 = .ok (.lconst 0, 1) := dq daX11_order_11_0 26 rfl
theorem dX11_order_47 : decode cX11_order 47 = .ok (.ldc2_w 445, 3) := dq daX11_order_11_0 27 rfl
theorem dX11_order_50 : decode cX11_order 50 = .ok (.invokestatic 118, 3) := dq daX11_order_11_0 28 rfl
theorem dX11_order_53 : decode cX11_order 53 = .ok (.ifCond .ne 5, 3) := dq daX11_order_11_0 29 rfl
theorem dX11_order_58 : decode cX11_order 58 = .ok (.sipush 312, 3) := dq daX11_order_11_0 30 rfl
theorem dX11_order_61 : decode cX11_order 61 = .ok (.iconst 4, 1) := dq daX11_order_11_0 31 rfl
def dtX11_order_11_1 : List (Nat × Jvm.ClassFile.Instr × Nat) := [(62, .aload_n 0, 1), (63, .getfield 39, 3), (66, .iconst 3, 1), (67, .iaload, 1), (68, .imul, 1), (69, .iadd, 1), (70, .istore 5, 2), (72, .aload_n 0, 1), (73, .getfield 39, 3), (76, .iload 5, 2), (78, .iload_n 1, 1), (79, .iastore, 1), (80, .aload_n 0, 1), (81, .getfield 39, 3), (84, .iload 5, 2), (86, .iconst 1, 1), (87, .iadd, 1), (88, .iload_n 2, 1), (89, .iastore, 1), (90, .aload_n 0, 1), (91, .getfield 39, 3), (94, .iload 5, 2), (96, .iconst 2, 1), (97, .iadd, 1), (98, .iload_n 3, 1), (99, .iastore, 1), (100, .aload_n 0, 1), (101, .getfield 39, 3), (104, .iload 5, 2), (106, .iconst 3, 1), (107, .iadd, 1), (108, .iload 4, 2)]
theorem daX11_order_11_1 : dtX11_order_11_1.all (dqd cX11_order) = true := by decide +kernel
theorem dX11_order_62 : decode cX11_order 62 = .ok (.aload_n 0, 1) := dq daX11_order_11_1 0 rfl
theorem dX11_order_63 : decode cX11_order 63 = .ok (.getfield 39, 3) := dq daX11_order_11_1 1 rfl
theorem dX11_order_66 : decode cX11_order 66 = .ok (.iconst 3, 1) := dq daX11_order_11_1 2 rfl
theorem dX11_order_67 : decode cX11_order 67 = .ok (.iaload, 1) := dq daX11_order_11_1 3 rfl
theorem dX11_order_68 : decode cX11_order 68 = .ok (.imul, 1) := dq daX11_order_11_1 4 rfl
theorem dX11_order_69 : decode cX11_order 69 = .ok (.iadd, 1) := dq daX11_order_11_1 5 rfl
theorem dX11_order_70 : decode cX11_order 70 = .ok (.istore 5, 2) := dq daX11_order_11_1 6 rfl
theorem dX11_order_72 : decode cX11_order 72 = .ok (.aload_n 0, 1) := dq daX11_order_11_1 7 rfl
theorem dX11_order_73 : decode cX11_order 73 = .ok (.getfield 39, 3) := dq daX11_order_11_1 8 rfl
theorem dX11_order_76 : decode cX11_order 76 = .ok (.iload 5, 2) := dq daX11_order_11_1 9 rfl
theorem dX11_order_78 : decode cX11_order 78 = .ok (.iload_n 1, 1) := dq daX11_order_11_1 10 rfl
theorem dX11_order_79 : decode cX11_order 79 = .ok (.iastore, 1) := dq daX11_order_11_1 11 rfl
theorem dX11_order_80 : decode cX11_order 80 = .ok (.aload_n 0, 1) := dq daX11_order_11_1 12 rfl
theorem dX11_order_81 : decode cX11_order 81 = .ok (.getfield 39, 3) := dq daX11_order_11_1 13 rfl
theorem dX11_order_84 : decode cX11_order 84 = .ok (.iload 5, 2) := dq daX11_order_11_1 14 rfl
theorem dX11_order_86 : decode cX11_order 86 = .ok (.iconst 1, 1) := dq daX11_order_11_1 15 rfl
theorem dX11_order_87 : decode cX11_order 87 = .ok (.iadd, 1) := dq daX11_order_11_1 16 rfl
theorem dX11_order_88 : decode cX11_order 88 = .ok (.iload_n 2, 1) := dq daX11_order_11_1 17 rfl
theorem dX11_order_89 : decode cX11_order 89 = .ok (.iastore, 1) := dq daX11_order_11_1 18 rfl
theorem dX11_order_90 : decode cX11_order 90 = .ok (.aload_n 0, 1) := dq daX11_order_11_1 19 rfl
theorem dX11_order_91 : decode cX11_order 91 = .ok (.getfield 39, 3) := dq daX11_order_11_1 20 rfl
theorem dX11_order_94 : decode cX11_order 94 = .ok (.iload 5, 2) := dq daX11_order_11_1 21 rfl
theorem dX11_order_96 : decode cX11_order 96 = .ok (.iconst 2, 1) := dq daX11_order_11_1 22 rfl
theorem dX11_order_97 : decode cX11_order 97 = .ok (.iadd, 1) := dq daX11_order_11_1 23 rfl
theorem dX11_order_98 : decode cX11_order 98 = .ok (.iload_n 3, 1) := dq daX11_order_11_1 24 rfl
theorem dX11_order_99 : decode cX11_order 99 = .ok (.iastore, 1) := dq daX11_order_11_1 25 rfl
theorem dX11_order_100 : decode cX11_order 100 = .ok (.aload_n 0, 1) := dq daX11_order_11_1 26 rfl
theorem dX11_order_101 : decode cX11_order 101 = .ok (.getfield 39, 3) := dq daX11_order_11_1 27 rfl
theorem dX11_order_104 : decode cX11_order 104 = .ok (.iload 5, 2) := dq daX11_order_11_1 28 rfl
theorem dX11_order_106 : decode cX11_order 106 = .ok (.iconst 3, 1) := dq daX11_order_11_1 29 rfl
theorem dX11_order_107 : decode cX11_order 107 = .ok (.iadd, 1) := dq daX11_order_11_1 30 rfl
theorem dX11_order_108 : decode cX11_order 108 = .ok (.iload 4, 2) := dq daX11_order_11_1 31 rfl
def dtX11_order_11_2 : List (Nat × Jvm.ClassFile.Instr × Nat) := [(110, .iastore, 1), (111, .aload_n 0, 1), (112, .getfield 39, 3), (115, .iconst 3, 1), (116, .dup2, 1), (117, .iaload, 1), (118, .iconst 1, 1), (119, .iadd, 1), (120, .iastore, 1), (121, .aload_n 0, 1), (122, .getfield 39, 3), (125, .iconst 3, 1), (126, .iaload, 1), (127, .ireturn, 1)]
theorem daX11_order_11_2 : dtX11_order_11_2.all (dqd cX11_order) = true := by decide +kernel
theorem dX11_order_110 : decode cX11_order 110 = .ok (.iastore, 1) := dq daX11_order_11_2 0 rfl
theorem dX11_order_111 : decode cX11_order 111 = .ok (.aload_n 0, 1) := dq daX11_order_11_2 1 rfl
theorem dX11_order_112 : decode cX11_order 112 = .ok (.getfield 39, 3) := dq daX11_order_11_2 2 rfl
theorem dX11_order_115 : decode cX11_order 115 = .ok (.iconst 3, 1) := dq daX11_order_11_2 3 rfl
theorem dX11_order_116 : decode cX11_order 116 = .ok (.dup2, 1) := dq daX11_order_11_2 4 rfl
theorem dX11_order_117 : decode cX11_order 117 = .ok (.iaload, 1) := dq daX11_order_11_2 5 rfl
theorem dX11_order_118 : decode cX11_order 118 = .ok (.iconst 1, 1) := dq daX11_order_11_2 6 rfl
theorem dX11_order_119 : decode cX11_order 119 = .ok (.iadd, 1) := dq daX11_order_11_2 7 rfl
theorem dX11_order_120 : decode cX11_order 120 = .ok (.iastore, 1) := dq daX11_order_11_2 8 rfl
theorem dX11_order_121 : decode cX11_order 121 = .ok (.aload_n 0, 1) := dq daX11_order_11_2 9 rfl
theorem dX11_order_122 : decode cX11_order 122 = .ok (.getfield 39, 3) := dq daX11_order_11_2 10 rfl
theorem dX11_order_125 : decode cX11_order 125 = .ok (.iconst 3, 1) := dq daX11_order_11_2 11 rfl
theorem dX11_order_126 : decode cX11_order 126 = .ok (.iaload, 1) := dq daX11_order_11_2 12 rfl
theorem dX11_order_127 : decode cX11_order 127 = .ok (.ireturn, 1) := dq daX11_order_11_2 13 rfl
def dtX11_feast_11_0 : List (Nat × Jvm.ClassFile.Instr × Nat) := [(0, .aload_n 0, 1), (1, .getfield 39, 3), (4, .iconst 4, 1), (5, .iaload, 1), (6, .bipush 8, 2), (8, .if_icmp .eq 35, 3), (43, .iconst (-1), 1), (44, .ireturn, 1), (11, .aload_n 0, 1), (12, .iload_n 1, 1), (13, .invokevirtual 267, 3), (16, .ifCond .eq 27, 3), (19, .iload_n 2, 1), (20, .i2l, 1), (21, .lconst 0, 1), (22, .ldc2_w 461, 3), (25, .invokestatic 118, 3), (28, .ifCond .eq 15, 3), (31, .iload_n 3, 1), (32, .i2l, 1), (33, .lconst 1, 1), (34, .ldc2_w 289, 3), (37, .invokestatic 118, 3), (40, .ifCond .ne 5, 3), (45, .sipush 336, 3), (48, .iconst 3, 1), (49, .aload_n 0, 1), (50, .getfield 39, 3), (53, .iconst 4, 1), (54, .iaload, 1), (55, .imul, 1), (56, .iadd, 1)]
theorem daX11_feast_11_0 : dtX11_feast_11_0.all (dqd cX11_feast) = true := by decide +kernel
theorem dX11_feast_0 : decode cX11_feast 0 = .ok (.aload_n 0, 1) := dq daX11_feast_11_0 0 rfl
theorem dX11_feast_1 : decode cX11_feast 1 = .ok (.getfield 39, 3) := dq daX11_feast_11_0 1 rfl
theorem dX11_feast_4 : decode cX11_feast 4 = .ok (.iconst 4, 1) := dq daX11_feast_11_0 2 rfl
theorem dX11_feast_5 : decode cX11_feast 5 = .ok (.iaload, 1) := dq daX11_feast_11_0 3 rfl
theorem dX11_feast_6 : decode cX11_feast 6 = .ok (.bipush 8, 2) := dq daX11_feast_11_0 4 rfl
theorem dX11_feast_8 : decode cX11_feast 8 = .ok (.if_icmp .eq 35, 3) := dq daX11_feast_11_0 5 rfl
theorem dX11_feast_43 : decode cX11_feast 43 = .ok (.iconst (-1), 1) := dq daX11_feast_11_0 6 rfl
theorem dX11_feast_44 : decode cX11_feast 44 = .ok (.ireturn, 1) := dq daX11_feast_11_0 7 rfl
theorem dX11_feast_11 : decode cX11_feast 11 = .ok (.aload_n 0, 1) := dq daX11_feast_11_0 8 rfl
theorem dX11_feast_12 : decode cX11_feast 12 = .ok (.iload_n 1, 1) := dq daX11_feast_11_0 9 rfl
theorem dX11_feast_13 : decode cX11_feast 13 = .ok (.invokevirtual 267, 3) := dq daX11_feast_11_0 10 rfl
theorem dX11_feast_16 : decode cX11_feast 16 = .ok (.ifCond .eq 27, 3) := dq daX11_feast_11_0 11 rfl
theorem dX11_feast_19 : decode cX11_feast 19 = .ok (.iload_n 2, 1) := dq daX11_feast_11_0 12 rfl
theorem dX11_feast_20 : decode cX11_feast 20 = .ok (.i2l, 1) := dq daX11_feast_11_0 13 rfl
theorem dX11_feast_21 : decode cX11_feast 21 = .ok (.lconst 0, 1) := dq daX11_feast_11_0 14 rfl
theorem dX11_feast_22 : decode cX11_feast 22 = .ok (.ldc2_w 461, 3) := dq daX11_feast_11_0 15 rfl
theorem dX11_feast_25 : decode cX11_feast 25 = .ok (.invokestatic 118, 3) := dq daX11_feast_11_0 16 rfl
theorem dX11_feast_28 : decode cX11_feast 28 = .ok (.ifCond .eq 15, 3) := dq daX11_feast_11_0 17 rfl
theorem dX11_feast_31 : decode cX11_feast 31 = .ok (.iload_n 3, 1) := dq daX11_feast_11_0 18 rfl
theorem dX11_feast_32 : decode cX11_feast 32 = .ok (.i2l, 1) := dq daX11_feast_11_0 19 rfl
theorem dX11_feast_33 : decode cX11_feast 33 = .ok (.lconst 1, 1) := dq daX11_feast_11_0 20 rfl
theorem dX11_feast_34 : decode cX11_feast 34 = .ok (.ldc2_w 289, 3) := dq daX11_feast_11_0 21 rfl
theorem dX11_feast_37 : decode cX11_feast 37 = .ok (.invokestatic 118, 3) := dq daX11_feast_11_0 22 rfl
theorem dX11_feast_40 : decode cX11_feast 40 = .ok (.ifCond .ne 5, 3) := dq daX11_feast_11_0 23 rfl
theorem dX11_feast_45 : decode cX11_feast 45 = .ok (.sipush 336, 3) := dq daX11_feast_11_0 24 rfl
theorem dX11_feast_48 : decode cX11_feast 48 = .ok (.iconst 3, 1) := dq daX11_feast_11_0 25 rfl
theorem dX11_feast_49 : decode cX11_feast 49 = .ok (.aload_n 0, 1) := dq daX11_feast_11_0 26 rfl
theorem dX11_feast_50 : decode cX11_feast 50 = .ok (.getfield 39, 3) := dq daX11_feast_11_0 27 rfl
theorem dX11_feast_53 : decode cX11_feast 53 = .ok (.iconst 4, 1) := dq daX11_feast_11_0 28 rfl
theorem dX11_feast_54 : decode cX11_feast 54 = .ok (.iaload, 1) := dq daX11_feast_11_0 29 rfl
theorem dX11_feast_55 : decode cX11_feast 55 = .ok (.imul, 1) := dq daX11_feast_11_0 30 rfl
theorem dX11_feast_56 : decode cX11_feast 56 = .ok (.iadd, 1) := dq daX11_feast_11_0 31 rfl
def dtX11_feast_11_1 : List (Nat × Jvm.ClassFile.Instr × Nat) := [(57, .istore 4, 2), (59, .aload_n 0, 1), (60, .getfield 39, 3), (63, .iload 4, 2), (65, .iload_n 1, 1), (66, .iastore, 1), (67, .aload_n 0, 1), (68, .getfield 39, 3), (71, .iload 4, 2), (73, .iconst 1, 1), (74, .iadd, 1), (75, .iload_n 2, 1), (76, .iastore, 1), (77, .aload_n 0, 1), (78, .getfield 39, 3), (81, .iload 4, 2), (83, .iconst 2, 1), (84, .iadd, 1), (85, .iload_n 3, 1), (86, .iastore, 1), (87, .aload_n 0, 1), (88, .getfield 39, 3), (91, .iconst 4, 1), (92, .dup2, 1), (93, .iaload, 1), (94, .iconst 1, 1), (95, .iadd, 1), (96, .iastore, 1), (97, .aload_n 0, 1), (98, .getfield 39, 3), (101, .iconst 4, 1), (102, .iaload, 1)]
theorem daX11_feast_11_1 : dtX11_feast_11_1.all (dqd cX11_feast) = true := by decide +kernel
theorem dX11_feast_57 : decode cX11_feast 57 = .ok (.istore 4, 2) := dq daX11_feast_11_1 0 rfl
theorem dX11_feast_59 : decode cX11_feast 59 = .ok (.aload_n 0, 1) := dq daX11_feast_11_1 1 rfl
theorem dX11_feast_60 : decode cX11_feast 60 = .ok (.getfield 39, 3) := dq daX11_feast_11_1 2 rfl
theorem dX11_feast_63 : decode cX11_feast 63 = .ok (.iload 4, 2) := dq daX11_feast_11_1 3 rfl
theorem dX11_feast_65 : decode cX11_feast 65 = .ok (.iload_n 1, 1) := dq daX11_feast_11_1 4 rfl
theorem dX11_feast_66 : decode cX11_feast 66 = .ok (.iastore, 1) := dq daX11_feast_11_1 5 rfl
theorem dX11_feast_67 : decode cX11_feast 67 = .ok (.aload_n 0, 1) := dq daX11_feast_11_1 6 rfl
theorem dX11_feast_68 : decode cX11_feast 68 = .ok (.getfield 39, 3) := dq daX11_feast_11_1 7 rfl
theorem dX11_feast_71 : decode cX11_feast 71 = .ok (.iload 4, 2) := dq daX11_feast_11_1 8 rfl
theorem dX11_feast_73 : decode cX11_feast 73 = .ok (.iconst 1, 1) := dq daX11_feast_11_1 9 rfl
theorem dX11_feast_74 : decode cX11_feast 74 = .ok (.iadd, 1) := dq daX11_feast_11_1 10 rfl
theorem dX11_feast_75 : decode cX11_feast 75 = .ok (.iload_n 2, 1) := dq daX11_feast_11_1 11 rfl
theorem dX11_feast_76 : decode cX11_feast 76 = .ok (.iastore, 1) := dq daX11_feast_11_1 12 rfl
theorem dX11_feast_77 : decode cX11_feast 77 = .ok (.aload_n 0, 1) := dq daX11_feast_11_1 13 rfl
theorem dX11_feast_78 : decode cX11_feast 78 = .ok (.getfield 39, 3) := dq daX11_feast_11_1 14 rfl
theorem dX11_feast_81 : decode cX11_feast 81 = .ok (.iload 4, 2) := dq daX11_feast_11_1 15 rfl
theorem dX11_feast_83 : decode cX11_feast 83 = .ok (.iconst 2, 1) := dq daX11_feast_11_1 16 rfl
theorem dX11_feast_84 : decode cX11_feast 84 = .ok (.iadd, 1) := dq daX11_feast_11_1 17 rfl
theorem dX11_feast_85 : decode cX11_feast 85 = .ok (.iload_n 3, 1) := dq daX11_feast_11_1 18 rfl
theorem dX11_feast_86 : decode cX11_feast 86 = .ok (.iastore, 1) := dq daX11_feast_11_1 19 rfl
theorem dX11_feast_87 : decode cX11_feast 87 = .ok (.aload_n 0, 1) := dq daX11_feast_11_1 20 rfl
theorem dX11_feast_88 : decode cX11_feast 88 = .ok (.getfield 39, 3) := dq daX11_feast_11_1 21 rfl
theorem dX11_feast_91 : decode cX11_feast 91 = .ok (.iconst 4, 1) := dq daX11_feast_11_1 22 rfl
theorem dX11_feast_92 : decode cX11_feast 92 = .ok (.dup2, 1) := dq daX11_feast_11_1 23 rfl
theorem dX11_feast_93 : decode cX11_feast 93 = .ok (.iaload, 1) := dq daX11_feast_11_1 24 rfl
theorem dX11_feast_94 : decode cX11_feast 94 = .ok (.iconst 1, 1) := dq daX11_feast_11_1 25 rfl
theorem dX11_feast_95 : decode cX11_feast 95 = .ok (.iadd, 1) := dq daX11_feast_11_1 26 rfl
theorem dX11_feast_96 : decode cX11_feast 96 = .ok (.iastore, 1) := dq daX11_feast_11_1 27 rfl
theorem dX11_feast_97 : decode cX11_feast 97 = .ok (.aload_n 0, 1) := dq daX11_feast_11_1 28 rfl
theorem dX11_feast_98 : decode cX11_feast 98 = .ok (.getfield 39, 3) := dq daX11_feast_11_1 29 rfl
theorem dX11_feast_101 : decode cX11_feast 101 = .ok (.iconst 4, 1) := dq daX11_feast_11_1 30 rfl
theorem dX11_feast_102 : decode cX11_feast 102 = .ok (.iaload, 1) := dq daX11_feast_11_1 31 rfl
def dtX11_feast_11_2 : List (Nat × Jvm.ClassFile.Instr × Nat) := [(103, .ireturn, 1)]
theorem daX11_feast_11_2 : dtX11_feast_11_2.all (dqd cX11_feast) = true := by decide +kernel
theorem dX11_feast_103 : decode cX11_feast 103 = .ok (.ireturn, 1) := dq daX11_feast_11_2 0 rfl
def dtX11_month_11_0 : List (Nat × Jvm.ClassFile.Instr × Nat) := [(0, .iload_n 1, 1), (1, .i2l, 1), (2, .lconst 0, 1), (3, .ldc2_w 278, 3), (6, .invokestatic 118, 3), (9, .ifCond .ne 5, 3), (14, .aload_n 0, 1), (15, .getfield 39, 3), (18, .bipush 6, 2), (20, .iaload, 1), (21, .istore_n 2, 1), (22, .aload_n 0, 1), (23, .getfield 39, 3), (26, .bipush 6, 2), (28, .iload_n 1, 1), (29, .iastore, 1), (30, .iload_n 2, 1), (12, .iconst (-1), 1), (13, .ireturn, 1), (31, .ireturn, 1)]
theorem daX11_month_11_0 : dtX11_month_11_0.all (dqd cX11_month) = true := by decide +kernel
theorem dX11_month_0 : decode cX11_month 0 = .ok (.iload_n 1, 1) := dq daX11_month_11_0 0 rfl
theorem dX11_month_1 : decode cX11_month 1 = .ok (.i2l, 1) := dq daX11_month_11_0 1 rfl
theorem dX11_month_2 : decode cX11_month 2 = .ok (.lconst 0, 1) := dq daX11_month_11_0 2 rfl
theorem dX11_month_3 : decode cX11_month 3 = .ok (.ldc2_w 278, 3) := dq daX11_month_11_0 3 rfl
theorem dX11_month_6 : decode cX11_month 6 = .ok (.invokestatic 118, 3) := dq daX11_month_11_0 4 rfl
theorem dX11_month_9 : decode cX11_month 9 = .ok (.ifCond .ne 5, 3) := dq daX11_month_11_0 5 rfl
theorem dX11_month_14 : decode cX11_month 14 = .ok (.aload_n 0, 1) := dq daX11_month_11_0 6 rfl
theorem dX11_month_15 : decode cX11_month 15 = .ok (.getfield 39, 3) := dq daX11_month_11_0 7 rfl
theorem dX11_month_18 : decode cX11_month 18 = .ok (.bipush 6, 2) := dq daX11_month_11_0 8 rfl
theorem dX11_month_20 : decode cX11_month 20 = .ok (.iaload, 1) := dq daX11_month_11_0 9 rfl
theorem dX11_month_21 : decode cX11_month 21 = .ok (.istore_n 2, 1) := dq daX11_month_11_0 10 rfl
theorem dX11_month_22 : decode cX11_month 22 = .ok (.aload_n 0, 1) := dq daX11_month_11_0 11 rfl
theorem dX11_month_23 : decode cX11_month 23 = .ok (.getfield 39, 3) := dq daX11_month_11_0 12 rfl
theorem dX11_month_26 : decode cX11_month 26 = .ok (.bipush 6, 2) := dq daX11_month_11_0 13 rfl
theorem dX11_month_28 : decode cX11_month 28 = .ok (.iload_n 1, 1) := dq daX11_month_11_0 14 rfl
theorem dX11_month_29 : decode cX11_month 29 = .ok (.iastore, 1) := dq daX11_month_11_0 15 rfl
theorem dX11_month_30 : decode cX11_month 30 = .ok (.iload_n 2, 1) := dq daX11_month_11_0 16 rfl
theorem dX11_month_12 : decode cX11_month 12 = .ok (.iconst (-1), 1) := dq daX11_month_11_0 17 rfl
theorem dX11_month_13 : decode cX11_month 13 = .ok (.ireturn, 1) := dq daX11_month_11_0 18 rfl
theorem dX11_month_31 : decode cX11_month 31 = .ok (.ireturn, 1) := dq daX11_month_11_0 19 rfl
def dtX11_from_11_0 : List (Nat × Jvm.ClassFile.Instr × Nat) := [(0, .aload_n 0, 1), (1, .iload_n 1, 1), (2, .invokevirtual 267, 3), (5, .ifCond .ne 5, 3), (10, .aload_n 0, 1), (11, .getfield 39, 3), (14, .bipush 8, 2), (16, .iload_n 1, 1), (17, .iastore, 1), (18, .aload_n 0, 1), (19, .getfield 39, 3), (22, .bipush 9, 2), (24, .iconst 0, 1), (25, .iastore, 1), (26, .iconst 1, 1), (8, .iconst 0, 1), (9, .ireturn, 1), (27, .ireturn, 1)]
theorem daX11_from_11_0 : dtX11_from_11_0.all (dqd cX11_from) = true := by decide +kernel
theorem dX11_from_0 : decode cX11_from 0 = .ok (.aload_n 0, 1) := dq daX11_from_11_0 0 rfl
theorem dX11_from_1 : decode cX11_from 1 = .ok (.iload_n 1, 1) := dq daX11_from_11_0 1 rfl
theorem dX11_from_2 : decode cX11_from 2 = .ok (.invokevirtual 267, 3) := dq daX11_from_11_0 2 rfl
theorem dX11_from_5 : decode cX11_from 5 = .ok (.ifCond .ne 5, 3) := dq daX11_from_11_0 3 rfl
theorem dX11_from_10 : decode cX11_from 10 = .ok (.aload_n 0, 1) := dq daX11_from_11_0 4 rfl
theorem dX11_from_11 : decode cX11_from 11 = .ok (.getfield 39, 3) := dq daX11_from_11_0 5 rfl
theorem dX11_from_14 : decode cX11_from 14 = .ok (.bipush 8, 2) := dq daX11_from_11_0 6 rfl
theorem dX11_from_16 : decode cX11_from 16 = .ok (.iload_n 1, 1) := dq daX11_from_11_0 7 rfl
theorem dX11_from_17 : decode cX11_from 17 = .ok (.iastore, 1) := dq daX11_from_11_0 8 rfl
theorem dX11_from_18 : decode cX11_from 18 = .ok (.aload_n 0, 1) := dq daX11_from_11_0 9 rfl
theorem dX11_from_19 : decode cX11_from 19 = .ok (.getfield 39, 3) := dq daX11_from_11_0 10 rfl
theorem dX11_from_22 : decode cX11_from 22 = .ok (.bipush 9, 2) := dq daX11_from_11_0 11 rfl
theorem dX11_from_24 : decode cX11_from 24 = .ok (.iconst 0, 1) := dq daX11_from_11_0 12 rfl
theorem dX11_from_25 : decode cX11_from 25 = .ok (.iastore, 1) := dq daX11_from_11_0 13 rfl
theorem dX11_from_26 : decode cX11_from 26 = .ok (.iconst 1, 1) := dq daX11_from_11_0 14 rfl
theorem dX11_from_8 : decode cX11_from 8 = .ok (.iconst 0, 1) := dq daX11_from_11_0 15 rfl
theorem dX11_from_9 : decode cX11_from 9 = .ok (.ireturn, 1) := dq daX11_from_11_0 16 rfl
theorem dX11_from_27 : decode cX11_from 27 = .ok (.ireturn, 1) := dq daX11_from_11_0 17 rfl
theorem gl_mX11_node_0 (zn : Int32) (x36 : Int32) (h0 : ¬ zn < 0) (h1 : ¬ 12 < zn) (h2 : ¬ zn = 12) (h3 : x36 = (20 + (4 * zn))) : (¬ x36 < 0 ∧ ¬ 360 ≤ x36) := by grind
theorem gl_mX11_node_1 (zn : Int32) (x36 : Int32) (h0 : ¬ zn < 0) (h1 : ¬ 12 < zn) (h2 : ¬ zn = 12) (h3 : x36 = (20 + (4 * zn))) : (¬ x36 < 20 ∧ ¬ 68 ≤ x36) := by grind
theorem gl_mX11_node_2 (zn : Int32) (x36 : Int32) (h0 : ¬ zn < 0) (h1 : ¬ 12 < zn) (h2 : ¬ zn = 12) (h3 : x36 = (20 + (4 * zn))) : (¬ (x36 + 1) < 0 ∧ ¬ 360 ≤ (x36 + 1)) := by grind
theorem gl_mX11_node_3 (zn : Int32) (x36 : Int32) (h0 : ¬ zn < 0) (h1 : ¬ 12 < zn) (h2 : ¬ zn = 12) (h3 : x36 = (20 + (4 * zn))) : (¬ (x36 + 1) < 20 ∧ ¬ 68 ≤ (x36 + 1)) := by grind
theorem gl_mX11_node_4 (zn : Int32) (x36 : Int32) (h0 : ¬ zn < 0) (h1 : ¬ 12 < zn) (h2 : ¬ zn = 12) (h3 : x36 = (20 + (4 * zn))) : (¬ (x36 + 2) < 0 ∧ ¬ 360 ≤ (x36 + 2)) := by grind
theorem gl_mX11_node_5 (zn : Int32) (x36 : Int32) (h0 : ¬ zn < 0) (h1 : ¬ 12 < zn) (h2 : ¬ zn = 12) (h3 : x36 = (20 + (4 * zn))) : (¬ (x36 + 2) < 20 ∧ ¬ 68 ≤ (x36 + 2)) := by grind
theorem gl_mX11_node_6 (zn : Int32) (x36 : Int32) (h0 : ¬ zn < 0) (h1 : ¬ 12 < zn) (h2 : ¬ zn = 12) (h3 : x36 = (20 + (4 * zn))) : (¬ (x36 + 3) < 0 ∧ ¬ 360 ≤ (x36 + 3)) := by grind
theorem gl_mX11_node_7 (zn : Int32) (x36 : Int32) (h0 : ¬ zn < 0) (h1 : ¬ 12 < zn) (h2 : ¬ zn = 12) (h3 : x36 = (20 + (4 * zn))) : (¬ (x36 + 3) < 20 ∧ ¬ 68 ≤ (x36 + 3)) := by grind
set_option maxRecDepth 100000 in
def fX11_node (saidF : Nat → Int32) (zn : Int32) (p0 : Int32) (p1 : Int32) (p2 : Int32) : (Nat → Int32) := if zn = 12 then (saidF) else (if (li p0.toInt64 0 400) = 0 then (saidF) else (if (li p1.toInt64 0 4095) = 0 then (saidF) else (if (li p2.toInt64 0 9) = 0 then (saidF) else (bnd ((20 + (4 * zn))) (fun (x36 : Int32) => bnd ((upd saidF x36.toNatClampNeg p0)) (fun (f37 : Nat → Int32) => bnd ((upd f37 (x36 + 1).toNatClampNeg p1)) (fun (f48 : Nat → Int32) => bnd ((upd f48 (x36 + 2).toNatClampNeg p2)) (fun (f59 : Nat → Int32) => bnd ((upd f59 (x36 + 3).toNatClampNeg 0)) (fun (f70 : Nat → Int32) => bnd ((upd f70 (0 : Int32).toNatClampNeg (zn + 1))) (fun (f81 : Nat → Int32) => f81))))))))))
set_option maxHeartbeats 4000000 in
set_option maxRecDepth 100000 in
theorem mX11_node (l : Launch) (dC : Nat → ClassId) (dI : Nat → Nat → Nat) (kA : Nat → ClassId) (sz : Nat) (n0 : Nat) (m_taped : Int32) (m_laws : Int32) (m_next : Int32) (m_wrong : Int32) (m_number : Int32) (m_text : Int32) (m_made : Int32) (m_deep : Int32) (m_lines : Int32) (m_opened : Int32) (m_top : Int32) (m_goNode : Int32) (m_goDrops : Int32) (m_goHour : Int32) (m_goFelt : Int32) (m_goSalt : Int32) (m_goMore : Int32) (m_bestLeft : Int32) (m_bestHour : Int32) (m_bestMany : Int32) (a_tape : Nat) (a_sign : Nat) (a_length : Nat) (a_clause : Nat) (a_clauses : Nat) (a_chain : Nat) (a_open : Nat) (a_stack : Nat) (a_word : Nat) (a_said : Nat) (a_kept : Nat) (a_stepNode : Nat) (a_stepDrops : Nat) (a_stepHour : Nat) (a_stepNext : Nat) (a_stepPass : Nat) (a_bestPass : Nat) (a_far : Nat) (a_waited : Nat) (a_servers : Nat) (a_images : Nat) (a_isMade : Nat) (saidF : Nat → Int32) (zn : Int32) (zp : Int32) (zj : Int32) (zo : Int32) (zf : Int32) (zm : Int32) (zk : Int32) (zw : Int32) (pd : Nat → Int32) (p0 : Int32) (p1 : Int32) (p2 : Int32) (hsc : SC saidF zn zp zj zo zf zm zk zw pd) : Met l yX11_node wsX11_node ({ frames := 1, cells := 0, slots := 0, locals := 25 }) (zPc dC dI kA sz [.ref n0, .int p0, .int p1, .int p2] [(n0, .inr (11, .ref a_tape :: .int m_taped :: .int m_laws :: .ref a_sign :: .ref a_length :: .ref a_clause :: .ref a_clauses :: .ref a_chain :: .int m_next :: .int m_wrong :: .int m_number :: .int m_text :: .int m_made :: .int m_deep :: .int m_lines :: .ref a_open :: .int m_opened :: .ref a_stack :: .int m_top :: .ref a_word :: .ref a_said :: .ref a_kept :: [.int m_goNode, .int m_goDrops, .int m_goHour, .int m_goFelt, .int m_goSalt, .int m_goMore, .ref a_stepNode, .ref a_stepDrops, .ref a_stepHour, .ref a_stepNext, .ref a_stepPass, .int m_bestLeft, .int m_bestHour, .int m_bestMany, .ref a_bestPass, .ref a_far, .ref a_waited, .ref a_servers, .ref a_images, .ref a_isMade])), (a_said, .inl (kA 0, 360, .inl saidF))]) (va_Qi (fun (r : Int32) (u : (Nat → Int32)) => r = (ra (ok_nd p0 p1 p2 zn) zn) ∧ u = fX11_node saidF zn p0 p1 p2 ∧ SC u (rz (ok_nd p0 p1 p2 zn) zn) zp zj zo zf zm zk zw pd) (zB dC dI (va_A [(n0, .inr (11, .ref a_tape :: .int m_taped :: .int m_laws :: .ref a_sign :: .ref a_length :: .ref a_clause :: .ref a_clauses :: .ref a_chain :: .int m_next :: .int m_wrong :: .int m_number :: .int m_text :: .int m_made :: .int m_deep :: .int m_lines :: .ref a_open :: .int m_opened :: .ref a_stack :: .int m_top :: .ref a_word :: .ref a_said :: .ref a_kept :: [.int m_goNode, .int m_goDrops, .int m_goHour, .int m_goFelt, .int m_goSalt, .int m_goMore, .ref a_stepNode, .ref a_stepDrops, .ref a_stepHour, .ref a_stepNext, .ref a_stepPass, .int m_bestLeft, .int m_bestHour, .int m_bestMany, .ref a_bestPass, .ref a_far, .ref a_waited, .ref a_servers, .ref a_images, .ref a_isMade])), (a_said, .inl (kA 0, 360, .inl saidF))] sz) (fun (u : (Nat → Int32)) => [(n0, .inr (11, .ref a_tape :: .int m_taped :: .int m_laws :: .ref a_sign :: .ref a_length :: .ref a_clause :: .ref a_clauses :: .ref a_chain :: .int m_next :: .int m_wrong :: .int m_number :: .int m_text :: .int m_made :: .int m_deep :: .int m_lines :: .ref a_open :: .int m_opened :: .ref a_stack :: .int m_top :: .ref a_word :: .ref a_said :: .ref a_kept :: [.int m_goNode, .int m_goDrops, .int m_goHour, .int m_goFelt, .int m_goSalt, .int m_goMore, .ref a_stepNode, .ref a_stepDrops, .ref a_stepHour, .ref a_stepNext, .ref a_stepPass, .int m_bestLeft, .int m_bestHour, .int m_bestMany, .ref a_bestPass, .ref a_far, .ref a_waited, .ref a_servers, .ref a_images, .ref a_isMade])), (a_said, .inl (kA 0, 360, .inl u))])) (va_A [(n0, .inr (11, .ref a_tape :: .int m_taped :: .int m_laws :: .ref a_sign :: .ref a_length :: .ref a_clause :: .ref a_clauses :: .ref a_chain :: .int m_next :: .int m_wrong :: .int m_number :: .int m_text :: .int m_made :: .int m_deep :: .int m_lines :: .ref a_open :: .int m_opened :: .ref a_stack :: .int m_top :: .ref a_word :: .ref a_said :: .ref a_kept :: [.int m_goNode, .int m_goDrops, .int m_goHour, .int m_goFelt, .int m_goSalt, .int m_goMore, .ref a_stepNode, .ref a_stepDrops, .ref a_stepHour, .ref a_stepNext, .ref a_stepPass, .int m_bestLeft, .int m_bestHour, .int m_bestMany, .ref a_bestPass, .ref a_far, .ref a_waited, .ref a_servers, .ref a_images, .ref a_isMade])), (a_said, .inl (kA 0, 360, .inl saidF))] sz)) 0 0 (va_A [(n0, .inr (11, .ref a_tape :: .int m_taped :: .int m_laws :: .ref a_sign :: .ref a_length :: .ref a_clause :: .ref a_clauses :: .ref a_chain :: .int m_next :: .int m_wrong :: .int m_number :: .int m_text :: .int m_made :: .int m_deep :: .int m_lines :: .ref a_open :: .int m_opened :: .ref a_stack :: .int m_top :: .ref a_word :: .ref a_said :: .ref a_kept :: [.int m_goNode, .int m_goDrops, .int m_goHour, .int m_goFelt, .int m_goSalt, .int m_goMore, .ref a_stepNode, .ref a_stepDrops, .ref a_stepHour, .ref a_stepNext, .ref a_stepPass, .int m_bestLeft, .int m_bestHour, .int m_bestMany, .ref a_bestPass, .ref a_far, .ref a_waited, .ref a_servers, .ref a_images, .ref a_isMade])), (a_said, .inl (kA 0, 360, .inl saidF))] sz) := by
  refine Met.ofW (cc := cX11_node) (maxL := 5) (ret := (some .int)) pnX11 rfl ?_
  intro p e s m args below meth c s₁ B hml hv
  obtain ⟨rfl, hsz, hP, hK, hD0⟩ := hv
  have hx := B.exec
  have hb := B.bytes
  have hr := B.returns
  have hts := atoms_spec (ws := wsX11_node) B.pre
  have hown : s.vm.findClass RX11 = some m.cls := findClass_of_methodNamed B.named
  have hlocks := B.notSynchronized
  subst hsz
  have hD := hD0.self (sz := s.heap.size)
  generalize hAe : va_A [(n0, .inr (11, .ref a_tape :: .int m_taped :: .int m_laws :: .ref a_sign :: .ref a_length :: .ref a_clause :: .ref a_clauses :: .ref a_chain :: .int m_next :: .int m_wrong :: .int m_number :: .int m_text :: .int m_made :: .int m_deep :: .int m_lines :: .ref a_open :: .int m_opened :: .ref a_stack :: .int m_top :: .ref a_word :: .ref a_said :: .ref a_kept :: [.int m_goNode, .int m_goDrops, .int m_goHour, .int m_goFelt, .int m_goSalt, .int m_goMore, .ref a_stepNode, .ref a_stepDrops, .ref a_stepHour, .ref a_stepNext, .ref a_stepPass, .int m_bestLeft, .int m_bestHour, .int m_bestMany, .ref a_bestPass, .ref a_far, .ref a_waited, .ref a_servers, .ref a_images, .ref a_isMade])), (a_said, .inl (kA 0, 360, .inl saidF))] s.heap.size = A at hD ⊢
  have hA : ∀ q : Nat, s.heap.size ≤ q → A q := zA_of hAe
  have hS : va_S A s.heap s.heap [] := va_S.rf
  have hP : va_P (dC, dI) vwCl [(n0, .inr (11, .ref a_tape :: .int m_taped :: .int m_laws :: .ref a_sign :: .ref a_length :: .ref a_clause :: .ref a_clauses :: .ref a_chain :: .int m_next :: .int m_wrong :: .int m_number :: .int m_text :: .int m_made :: .int m_deep :: .int m_lines :: .ref a_open :: .int m_opened :: .ref a_stack :: .int m_top :: .ref a_word :: .ref a_said :: .ref a_kept :: [.int m_goNode, .int m_goDrops, .int m_goHour, .int m_goFelt, .int m_goSalt, .int m_goMore, .ref a_stepNode, .ref a_stepDrops, .ref a_stepHour, .ref a_stepNext, .ref a_stepPass, .int m_bestLeft, .int m_bestHour, .int m_bestMany, .ref a_bestPass, .ref a_far, .ref a_waited, .ref a_servers, .ref a_images, .ref a_isMade])), (a_said, .inl (kA 0, 360, .inl saidF))] s.heap := hP
  have hl := lv_entry ([.ref n0, .int p0, .int p1, .int p2]) (n := 5) (Nat.le_of_ble_eq_true rfl)
  rw [lg_entry_eq]
  generalize (lg_sl ([.ref n0, .int p0, .int p1, .int p2]) ++ List.replicate (5 - (lg_sl ([.ref n0, .int p0, .int p1, .int p2])).length) Slot.unset).toArray = ls at hl ⊢
  have hl : lv_has ls 5 [(0, .ref n0), (1, .int p0), (2, .int p1), (3, .int p2)] := hl
  obtain ⟨H, hHe⟩ : ∃ H : Heap, H = s.heap := ⟨_, rfl⟩
  obtain ⟨G, hG0⟩ : ∃ G : (Nat → Int32), fX11_node saidF zn p0 p1 p2 = G := ⟨_, rfl⟩
  have hG := hG0
  unfold fX11_node at hG
  have hz1 : saidF 0 = zn := hsc.1.1
  have hz2 : saidF 1 = zp := hsc.1.2.1
  have hz3 : saidF 2 = zj := hsc.1.2.2.1
  have hz4 : saidF 3 = zo := hsc.1.2.2.2.1
  have hz5 : saidF 4 = zf := hsc.1.2.2.2.2.1
  have hz6 : saidF 6 = zm := hsc.1.2.2.2.2.2.1
  have hz7 : saidF 8 = zk := hsc.1.2.2.2.2.2.2.1
  have hz8 : saidF 9 = zw := hsc.1.2.2.2.2.2.2.2
  have hz9 : ¬ zn < 0 := hsc.2.1.1
  have hz10 : ¬ 12 < zn := hsc.2.1.2
  have hz11 : ¬ zp < 0 := hsc.2.2.1.1
  have hz12 : ¬ 20 < zp := hsc.2.2.1.2
  have hz13 : ¬ zj < 0 := hsc.2.2.2.1.1
  have hz14 : ¬ 16 < zj := hsc.2.2.2.1.2
  have hz15 : ¬ zo < 0 := hsc.2.2.2.2.1.1
  have hz16 : ¬ 6 < zo := hsc.2.2.2.2.1.2
  have hz17 : ¬ zf < 0 := hsc.2.2.2.2.2.1.1
  have hz18 : ¬ 8 < zf := hsc.2.2.2.2.2.1.2
  have hz19 : ¬ zk < (-1) := hsc.2.2.2.2.2.2.1.1
  have hz20 : ¬ 12 ≤ zk := hsc.2.2.2.2.2.2.1.2
  have hz21 : ¬ zw < 0 := hsc.2.2.2.2.2.2.2.1.1
  have hz22 : ¬ 6 < zw := hsc.2.2.2.2.2.2.2.1.2
  refine lv_aload_n hx hb dX11_node_0 rfl (lv_at hl 0 rfl) ?_
  refine va_get (D := (dC, dI)) (ci := 11) (v := .ref a_said) (C := RX11) (T := TX11) (N := 42) hx hb hts iX11_node_X11 hown hK.1 hP 0 gz0 vcz11 20 (by decide) (kX11_node_1 hts) (fun _ h9 => h9) gz20 dX11_node_1 ?_
  refine lv_iconst (v := 0) hx hb dX11_node_4 (by decide) ?_
  refine va_iald hx hb hK.1 hP 1 0 gz1 tzz0 (vpd (by decide)) dX11_node_5 ?_
  refine zi zn hz1 ?_
  refine lv_bipush (v := 12) hx hb dX11_node_6 (by decide) ?_
  refine lv_icmp_eq (tgt := 47) hx hb dX11_node_8 (by decide) (fun c_23 => ?_) (fun c_23 => ?_)
  · have hG := zthen hG c_23
    refine lv_iconst (v := (-1)) hx hb dX11_node_47 (by decide) ?_
    obtain ⟨hP9, hD9⟩ := z_sb (L' := [(n0, .inr (11, .ref a_tape :: .int m_taped :: .int m_laws :: .ref a_sign :: .ref a_length :: .ref a_clause :: .ref a_clauses :: .ref a_chain :: .int m_next :: .int m_wrong :: .int m_number :: .int m_text :: .int m_made :: .int m_deep :: .int m_lines :: .ref a_open :: .int m_opened :: .ref a_stack :: .int m_top :: .ref a_word :: .ref a_said :: .ref a_kept :: [.int m_goNode, .int m_goDrops, .int m_goHour, .int m_goFelt, .int m_goSalt, .int m_goMore, .ref a_stepNode, .ref a_stepDrops, .ref a_stepHour, .ref a_stepNext, .ref a_stepPass, .int m_bestLeft, .int m_bestHour, .int m_bestMany, .ref a_bestPass, .ref a_far, .ref a_waited, .ref a_servers, .ref a_images, .ref a_isMade])), (a_said, .inl (kA 0, 360, .inl saidF))]) hP hD [0, 1] (by decide) rfl
    refine W.widen (k := 0) (n := 0) (Nat.le_of_ble_eq_true rfl) (Nat.le_of_ble_eq_true rfl) ?_
    exact W.iret (v := (-1)) hx hb hr (fun t ht hW => ⟨⟨(-1), (saidF), rfl, ⟨(by have hok : ok_nd p0 p1 p2 zn = 0 := (by simp [ok_nd, c_23]); rw [hok]; rfl), (hG.trans hG0.symm), (by have hok : ok_nd p0 p1 p2 zn = 0 := (by simp [ok_nd, c_23]); rw [hok]; exact hsc)⟩, by rw [ht]; exact hP9, hD9⟩, hS.F ht⟩) hS.2.2 dX11_node_48
  · have hG := zelse hG c_23
    refine lv_iload_n hx hb dX11_node_11 rfl (lv_at hl 1 rfl) ?_
    refine lv_i2l hx hb dX11_node_12 rfl ?_
    refine lv_lconst (v := 0) hx hb dX11_node_13 (by decide) ?_
    refine lv_ldc2 hx hb hown (kX11_node_2 hts) dX11_node_14 ?_
    refine z_i (wr := [(n0, .inr (11, .ref a_tape :: .int m_taped :: .int m_laws :: .ref a_sign :: .ref a_length :: .ref a_clause :: .ref a_clauses :: .ref a_chain :: .int m_next :: .int m_wrong :: .int m_number :: .int m_text :: .int m_made :: .int m_deep :: .int m_lines :: .ref a_open :: .int m_opened :: .ref a_stack :: .int m_top :: .ref a_word :: .ref a_said :: .ref a_kept :: [.int m_goNode, .int m_goDrops, .int m_goHour, .int m_goFelt, .int m_goSalt, .int m_goMore, .ref a_stepNode, .ref a_stepDrops, .ref a_stepHour, .ref a_stepNext, .ref a_stepPass, .int m_bestLeft, .int m_bestHour, .int m_bestMany, .ref a_bestPass, .ref a_far, .ref a_waited, .ref a_servers, .ref a_images, .ref a_isMade])), (a_said, .inl (kA 0, 360, .inl saidF))]) (va_runS (As := [.long p0.toInt64, .long 0, .long 400]) (rest := []) ⟨hx, hb, hml, hown, hts⟩ (mX11_in l dC dI kA _ p0.toInt64 0 400) (va_cwS 3 hts gX11_node_X11_in rfl rfl rfl hdX11_in ⟨(Nat.le_of_ble_eq_true rfl), (Nat.le_of_ble_eq_true rfl)⟩) ⟨zPc.blind, zPre hK (hP.sub [] rfl) (hD.sub [] (by decide) rfl)⟩ rfl rfl hl.1 rfl (lv_room (Nat.le_of_ble_eq_true rfl)) dX11_node_17 ⟨(Nat.le_of_ble_eq_true rfl), (Nat.le_of_ble_eq_true rfl)⟩) hP hD hS hA [] [0, 1] rfl rfl (by decide) (by decide) (fun r26 u24 H locs hw25 hP hD hS => ?_)
    obtain rfl := hw25
    obtain ⟨hP, hD⟩ := z_re (L := [(n0, .inr (11, .ref a_tape :: .int m_taped :: .int m_laws :: .ref a_sign :: .ref a_length :: .ref a_clause :: .ref a_clauses :: .ref a_chain :: .int m_next :: .int m_wrong :: .int m_number :: .int m_text :: .int m_made :: .int m_deep :: .int m_lines :: .ref a_open :: .int m_opened :: .ref a_stack :: .int m_top :: .ref a_word :: .ref a_said :: .ref a_kept :: [.int m_goNode, .int m_goDrops, .int m_goHour, .int m_goFelt, .int m_goSalt, .int m_goMore, .ref a_stepNode, .ref a_stepDrops, .ref a_stepHour, .ref a_stepNext, .ref a_stepPass, .int m_bestLeft, .int m_bestHour, .int m_bestMany, .ref a_bestPass, .ref a_far, .ref a_waited, .ref a_servers, .ref a_images, .ref a_isMade])), (a_said, .inl (kA 0, 360, .inl saidF))]) hP hD
    refine lv_if_eq (tgt := 47) hx hb dX11_node_20 (by decide) (fun c_27 => ?_) (fun c_27 => ?_)
    · have hG := zthen hG c_27
      refine lv_iconst (v := (-1)) hx hb dX11_node_47 (by decide) ?_
      obtain ⟨hP9, hD9⟩ := z_sb (L' := [(n0, .inr (11, .ref a_tape :: .int m_taped :: .int m_laws :: .ref a_sign :: .ref a_length :: .ref a_clause :: .ref a_clauses :: .ref a_chain :: .int m_next :: .int m_wrong :: .int m_number :: .int m_text :: .int m_made :: .int m_deep :: .int m_lines :: .ref a_open :: .int m_opened :: .ref a_stack :: .int m_top :: .ref a_word :: .ref a_said :: .ref a_kept :: [.int m_goNode, .int m_goDrops, .int m_goHour, .int m_goFelt, .int m_goSalt, .int m_goMore, .ref a_stepNode, .ref a_stepDrops, .ref a_stepHour, .ref a_stepNext, .ref a_stepPass, .int m_bestLeft, .int m_bestHour, .int m_bestMany, .ref a_bestPass, .ref a_far, .ref a_waited, .ref a_servers, .ref a_images, .ref a_isMade])), (a_said, .inl (kA 0, 360, .inl saidF))]) hP hD [0, 1] (by decide) rfl
      refine W.widen (k := 0) (n := 0) (Nat.le_of_ble_eq_true rfl) (Nat.le_of_ble_eq_true rfl) ?_
      exact W.iret (v := (-1)) hx hb hr (fun t ht hW => ⟨⟨(-1), (saidF), rfl, ⟨(by have hok : ok_nd p0 p1 p2 zn = 0 := (by simp [ok_nd, c_23, c_27]); rw [hok]; rfl), (hG.trans hG0.symm), (by have hok : ok_nd p0 p1 p2 zn = 0 := (by simp [ok_nd, c_23, c_27]); rw [hok]; exact hsc)⟩, by rw [ht]; exact hP9, hD9⟩, hS.F ht⟩) hS.2.2 dX11_node_48
    · have hG := zelse hG c_27
      have c_27a := li_ne (lo := 0) (hi := 400) (by decide) (by decide) c_27
      have c_27b := c_27a.2
      have c_27a := c_27a.1
      refine lv_iload_n hx hb dX11_node_23 rfl (lv_at hl 2 rfl) ?_
      refine lv_i2l hx hb dX11_node_24 rfl ?_
      refine lv_lconst (v := 0) hx hb dX11_node_25 (by decide) ?_
      refine lv_ldc2 hx hb hown (kX11_node_3 hts) dX11_node_26 ?_
      refine z_i (wr := [(n0, .inr (11, .ref a_tape :: .int m_taped :: .int m_laws :: .ref a_sign :: .ref a_length :: .ref a_clause :: .ref a_clauses :: .ref a_chain :: .int m_next :: .int m_wrong :: .int m_number :: .int m_text :: .int m_made :: .int m_deep :: .int m_lines :: .ref a_open :: .int m_opened :: .ref a_stack :: .int m_top :: .ref a_word :: .ref a_said :: .ref a_kept :: [.int m_goNode, .int m_goDrops, .int m_goHour, .int m_goFelt, .int m_goSalt, .int m_goMore, .ref a_stepNode, .ref a_stepDrops, .ref a_stepHour, .ref a_stepNext, .ref a_stepPass, .int m_bestLeft, .int m_bestHour, .int m_bestMany, .ref a_bestPass, .ref a_far, .ref a_waited, .ref a_servers, .ref a_images, .ref a_isMade])), (a_said, .inl (kA 0, 360, .inl saidF))]) (va_runS (As := [.long p1.toInt64, .long 0, .long 4095]) (rest := []) ⟨hx, hb, hml, hown, hts⟩ (mX11_in l dC dI kA _ p1.toInt64 0 4095) (va_cwS 3 hts gX11_node_X11_in rfl rfl rfl hdX11_in ⟨(Nat.le_of_ble_eq_true rfl), (Nat.le_of_ble_eq_true rfl)⟩) ⟨zPc.blind, zPre hK (hP.sub [] rfl) (hD.sub [] (by decide) rfl)⟩ rfl rfl hl.1 rfl (lv_room (Nat.le_of_ble_eq_true rfl)) dX11_node_29 ⟨(Nat.le_of_ble_eq_true rfl), (Nat.le_of_ble_eq_true rfl)⟩) hP hD hS hA [] [0, 1] rfl rfl (by decide) (by decide) (fun r30 u28 H locs hw29 hP hD hS => ?_)
      obtain rfl := hw29
      obtain ⟨hP, hD⟩ := z_re (L := [(n0, .inr (11, .ref a_tape :: .int m_taped :: .int m_laws :: .ref a_sign :: .ref a_length :: .ref a_clause :: .ref a_clauses :: .ref a_chain :: .int m_next :: .int m_wrong :: .int m_number :: .int m_text :: .int m_made :: .int m_deep :: .int m_lines :: .ref a_open :: .int m_opened :: .ref a_stack :: .int m_top :: .ref a_word :: .ref a_said :: .ref a_kept :: [.int m_goNode, .int m_goDrops, .int m_goHour, .int m_goFelt, .int m_goSalt, .int m_goMore, .ref a_stepNode, .ref a_stepDrops, .ref a_stepHour, .ref a_stepNext, .ref a_stepPass, .int m_bestLeft, .int m_bestHour, .int m_bestMany, .ref a_bestPass, .ref a_far, .ref a_waited, .ref a_servers, .ref a_images, .ref a_isMade])), (a_said, .inl (kA 0, 360, .inl saidF))]) hP hD
      refine lv_if_eq (tgt := 47) hx hb dX11_node_32 (by decide) (fun c_31 => ?_) (fun c_31 => ?_)
      · have hG := zthen hG c_31
        refine lv_iconst (v := (-1)) hx hb dX11_node_47 (by decide) ?_
        obtain ⟨hP9, hD9⟩ := z_sb (L' := [(n0, .inr (11, .ref a_tape :: .int m_taped :: .int m_laws :: .ref a_sign :: .ref a_length :: .ref a_clause :: .ref a_clauses :: .ref a_chain :: .int m_next :: .int m_wrong :: .int m_number :: .int m_text :: .int m_made :: .int m_deep :: .int m_lines :: .ref a_open :: .int m_opened :: .ref a_stack :: .int m_top :: .ref a_word :: .ref a_said :: .ref a_kept :: [.int m_goNode, .int m_goDrops, .int m_goHour, .int m_goFelt, .int m_goSalt, .int m_goMore, .ref a_stepNode, .ref a_stepDrops, .ref a_stepHour, .ref a_stepNext, .ref a_stepPass, .int m_bestLeft, .int m_bestHour, .int m_bestMany, .ref a_bestPass, .ref a_far, .ref a_waited, .ref a_servers, .ref a_images, .ref a_isMade])), (a_said, .inl (kA 0, 360, .inl saidF))]) hP hD [0, 1] (by decide) rfl
        refine W.widen (k := 0) (n := 0) (Nat.le_of_ble_eq_true rfl) (Nat.le_of_ble_eq_true rfl) ?_
        exact W.iret (v := (-1)) hx hb hr (fun t ht hW => ⟨⟨(-1), (saidF), rfl, ⟨(by have hok : ok_nd p0 p1 p2 zn = 0 := (by simp [ok_nd, c_23, c_27, c_31]); rw [hok]; rfl), (hG.trans hG0.symm), (by have hok : ok_nd p0 p1 p2 zn = 0 := (by simp [ok_nd, c_23, c_27, c_31]); rw [hok]; exact hsc)⟩, by rw [ht]; exact hP9, hD9⟩, hS.F ht⟩) hS.2.2 dX11_node_48
      · have hG := zelse hG c_31
        have c_31a := li_ne (lo := 0) (hi := 4095) (by decide) (by decide) c_31
        have c_31b := c_31a.2
        have c_31a := c_31a.1
        refine lv_iload_n hx hb dX11_node_35 rfl (lv_at hl 3 rfl) ?_
        refine lv_i2l hx hb dX11_node_36 rfl ?_
        refine lv_lconst (v := 0) hx hb dX11_node_37 (by decide) ?_
        refine lv_ldc2 hx hb hown (kX11_node_4 hts) dX11_node_38 ?_
        refine z_i (wr := [(n0, .inr (11, .ref a_tape :: .int m_taped :: .int m_laws :: .ref a_sign :: .ref a_length :: .ref a_clause :: .ref a_clauses :: .ref a_chain :: .int m_next :: .int m_wrong :: .int m_number :: .int m_text :: .int m_made :: .int m_deep :: .int m_lines :: .ref a_open :: .int m_opened :: .ref a_stack :: .int m_top :: .ref a_word :: .ref a_said :: .ref a_kept :: [.int m_goNode, .int m_goDrops, .int m_goHour, .int m_goFelt, .int m_goSalt, .int m_goMore, .ref a_stepNode, .ref a_stepDrops, .ref a_stepHour, .ref a_stepNext, .ref a_stepPass, .int m_bestLeft, .int m_bestHour, .int m_bestMany, .ref a_bestPass, .ref a_far, .ref a_waited, .ref a_servers, .ref a_images, .ref a_isMade])), (a_said, .inl (kA 0, 360, .inl saidF))]) (va_runS (As := [.long p2.toInt64, .long 0, .long 9]) (rest := []) ⟨hx, hb, hml, hown, hts⟩ (mX11_in l dC dI kA _ p2.toInt64 0 9) (va_cwS 3 hts gX11_node_X11_in rfl rfl rfl hdX11_in ⟨(Nat.le_of_ble_eq_true rfl), (Nat.le_of_ble_eq_true rfl)⟩) ⟨zPc.blind, zPre hK (hP.sub [] rfl) (hD.sub [] (by decide) rfl)⟩ rfl rfl hl.1 rfl (lv_room (Nat.le_of_ble_eq_true rfl)) dX11_node_41 ⟨(Nat.le_of_ble_eq_true rfl), (Nat.le_of_ble_eq_true rfl)⟩) hP hD hS hA [] [0, 1] rfl rfl (by decide) (by decide) (fun r34 u32 H locs hw33 hP hD hS => ?_)
        obtain rfl := hw33
        obtain ⟨hP, hD⟩ := z_re (L := [(n0, .inr (11, .ref a_tape :: .int m_taped :: .int m_laws :: .ref a_sign :: .ref a_length :: .ref a_clause :: .ref a_clauses :: .ref a_chain :: .int m_next :: .int m_wrong :: .int m_number :: .int m_text :: .int m_made :: .int m_deep :: .int m_lines :: .ref a_open :: .int m_opened :: .ref a_stack :: .int m_top :: .ref a_word :: .ref a_said :: .ref a_kept :: [.int m_goNode, .int m_goDrops, .int m_goHour, .int m_goFelt, .int m_goSalt, .int m_goMore, .ref a_stepNode, .ref a_stepDrops, .ref a_stepHour, .ref a_stepNext, .ref a_stepPass, .int m_bestLeft, .int m_bestHour, .int m_bestMany, .ref a_bestPass, .ref a_far, .ref a_waited, .ref a_servers, .ref a_images, .ref a_isMade])), (a_said, .inl (kA 0, 360, .inl saidF))]) hP hD
        refine lv_if_ne (tgt := 49) hx hb dX11_node_44 (by decide) (fun c_35 => ?_) (fun c_35 => ?_)
        · have hG := zelse hG c_35
          have c_35a := li_ne (lo := 0) (hi := 9) (by decide) (by decide) c_35
          have c_35b := c_35a.2
          have c_35a := c_35a.1
          refine lv_bipush (v := 20) hx hb dX11_node_49 (by decide) ?_
          refine lv_iconst (v := 4) hx hb dX11_node_51 (by decide) ?_
          refine lv_aload_n hx hb dX11_node_52 rfl (lv_at hl 0 rfl) ?_
          refine va_get (D := (dC, dI)) (ci := 11) (v := .ref a_said) (C := RX11) (T := TX11) (N := 42) hx hb hts iX11_node_X11 hown hK.1 hP 0 gz0 vcz11 20 (by decide) (kX11_node_1 hts) (fun _ h9 => h9) gz20 dX11_node_53 ?_
          refine lv_iconst (v := 0) hx hb dX11_node_56 (by decide) ?_
          refine va_iald hx hb hK.1 hP 1 0 gz1 tzz0 (vpd (by decide)) dX11_node_57 ?_
          refine zi zn hz1 ?_
          refine lv_imul hx hb dX11_node_58 ?_
          refine lv_iadd hx hb dX11_node_59 ?_
          refine lv_topi (fun x36 ex36 => ?_)
          have hG := zbnd hG ex36
          refine lv_istore (lv' := [(4, .int x36), (0, .ref n0), (1, .int p0), (2, .int p1), (3, .int p2)]) hx hb dX11_node_60 hl (by decide) rfl (fun ls hl => ?_)
          refine lv_aload_n hx hb dX11_node_62 rfl (lv_at hl 1 rfl) ?_
          refine va_get (D := (dC, dI)) (ci := 11) (v := .ref a_said) (C := RX11) (T := TX11) (N := 42) hx hb hts iX11_node_X11 hown hK.1 hP 0 gz0 vcz11 20 (by decide) (kX11_node_1 hts) (fun _ h9 => h9) gz20 dX11_node_63 ?_
          refine lv_iload hx hb dX11_node_66 (lv_at hl 0 rfl) ?_
          refine lv_iload_n hx hb dX11_node_68 rfl (lv_at hl 2 rfl) ?_
          refine va_iast hx hb hK.1 hP hD hS 1 0 gz1 tzz0 (vp_g (N := 360) (by decide) (gl_mX11_node_0 zn x36 hz9 hz10 c_23 ex36)) dX11_node_69 (fun H locs hP hD hS => ?_)
          obtain ⟨hP, hD⟩ := z_re (L := [(n0, .inr (11, .ref a_tape :: .int m_taped :: .int m_laws :: .ref a_sign :: .ref a_length :: .ref a_clause :: .ref a_clauses :: .ref a_chain :: .int m_next :: .int m_wrong :: .int m_number :: .int m_text :: .int m_made :: .int m_deep :: .int m_lines :: .ref a_open :: .int m_opened :: .ref a_stack :: .int m_top :: .ref a_word :: .ref a_said :: .ref a_kept :: [.int m_goNode, .int m_goDrops, .int m_goHour, .int m_goFelt, .int m_goSalt, .int m_goMore, .ref a_stepNode, .ref a_stepDrops, .ref a_stepHour, .ref a_stepNext, .ref a_stepPass, .int m_bestLeft, .int m_bestHour, .int m_bestMany, .ref a_bestPass, .ref a_far, .ref a_waited, .ref a_servers, .ref a_images, .ref a_isMade])), (a_said, .inl (kA 0, 360, .inl (upd saidF x36.toNatClampNeg p0)))]) hP hD
          obtain ⟨f37, ef37⟩ : ∃ y : Nat → Int32, y = (upd saidF x36.toNatClampNeg p0) := ⟨_, rfl⟩
          rw [← ef37] at hP hD
          have hG := zbnd hG ef37
          have hu38 := upd_at ef37
          have hk39 : SC f37 zn zp zj zo zf zm zk zw pd := by rw [ef37]; exact SC_nd hsc (gl_mX11_node_1 zn x36 hz9 hz10 c_23 ex36)
          have hz40 : f37 0 = zn := hk39.1.1
          have hz41 : f37 1 = zp := hk39.1.2.1
          have hz42 : f37 2 = zj := hk39.1.2.2.1
          have hz43 : f37 3 = zo := hk39.1.2.2.2.1
          have hz44 : f37 4 = zf := hk39.1.2.2.2.2.1
          have hz45 : f37 6 = zm := hk39.1.2.2.2.2.2.1
          have hz46 : f37 8 = zk := hk39.1.2.2.2.2.2.2.1
          have hz47 : f37 9 = zw := hk39.1.2.2.2.2.2.2.2
          refine lv_aload_n hx hb dX11_node_70 rfl (lv_at hl 1 rfl) ?_
          refine va_get (D := (dC, dI)) (ci := 11) (v := .ref a_said) (C := RX11) (T := TX11) (N := 42) hx hb hts iX11_node_X11 hown hK.1 hP 0 gz0 vcz11 20 (by decide) (kX11_node_1 hts) (fun _ h9 => h9) gz20 dX11_node_71 ?_
          refine lv_iload hx hb dX11_node_74 (lv_at hl 0 rfl) ?_
          refine lv_iconst (v := 1) hx hb dX11_node_76 (by decide) ?_
          refine lv_iadd hx hb dX11_node_77 ?_
          refine lv_iload_n hx hb dX11_node_78 rfl (lv_at hl 3 rfl) ?_
          refine va_iast hx hb hK.1 hP hD hS 1 0 gz1 tzz0 (vp_g (N := 360) (by decide) (gl_mX11_node_2 zn x36 hz9 hz10 c_23 ex36)) dX11_node_79 (fun H locs hP hD hS => ?_)
          obtain ⟨hP, hD⟩ := z_re (L := [(n0, .inr (11, .ref a_tape :: .int m_taped :: .int m_laws :: .ref a_sign :: .ref a_length :: .ref a_clause :: .ref a_clauses :: .ref a_chain :: .int m_next :: .int m_wrong :: .int m_number :: .int m_text :: .int m_made :: .int m_deep :: .int m_lines :: .ref a_open :: .int m_opened :: .ref a_stack :: .int m_top :: .ref a_word :: .ref a_said :: .ref a_kept :: [.int m_goNode, .int m_goDrops, .int m_goHour, .int m_goFelt, .int m_goSalt, .int m_goMore, .ref a_stepNode, .ref a_stepDrops, .ref a_stepHour, .ref a_stepNext, .ref a_stepPass, .int m_bestLeft, .int m_bestHour, .int m_bestMany, .ref a_bestPass, .ref a_far, .ref a_waited, .ref a_servers, .ref a_images, .ref a_isMade])), (a_said, .inl (kA 0, 360, .inl (upd f37 (x36 + 1).toNatClampNeg p1)))]) hP hD
          obtain ⟨f48, ef48⟩ : ∃ y : Nat → Int32, y = (upd f37 (x36 + 1).toNatClampNeg p1) := ⟨_, rfl⟩
          rw [← ef48] at hP hD
          have hG := zbnd hG ef48
          have hu49 := upd_at ef48
          have hk50 : SC f48 zn zp zj zo zf zm zk zw pd := by rw [ef48]; exact SC_nd hk39 (gl_mX11_node_3 zn x36 hz9 hz10 c_23 ex36)
          have hz51 : f48 0 = zn := hk50.1.1
          have hz52 : f48 1 = zp := hk50.1.2.1
          have hz53 : f48 2 = zj := hk50.1.2.2.1
          have hz54 : f48 3 = zo := hk50.1.2.2.2.1
          have hz55 : f48 4 = zf := hk50.1.2.2.2.2.1
          have hz56 : f48 6 = zm := hk50.1.2.2.2.2.2.1
          have hz57 : f48 8 = zk := hk50.1.2.2.2.2.2.2.1
          have hz58 : f48 9 = zw := hk50.1.2.2.2.2.2.2.2
          refine lv_aload_n hx hb dX11_node_80 rfl (lv_at hl 1 rfl) ?_
          refine va_get (D := (dC, dI)) (ci := 11) (v := .ref a_said) (C := RX11) (T := TX11) (N := 42) hx hb hts iX11_node_X11 hown hK.1 hP 0 gz0 vcz11 20 (by decide) (kX11_node_1 hts) (fun _ h9 => h9) gz20 dX11_node_81 ?_
          refine lv_iload hx hb dX11_node_84 (lv_at hl 0 rfl) ?_
          refine lv_iconst (v := 2) hx hb dX11_node_86 (by decide) ?_
          refine lv_iadd hx hb dX11_node_87 ?_
          refine lv_iload_n hx hb dX11_node_88 rfl (lv_at hl 4 rfl) ?_
          refine va_iast hx hb hK.1 hP hD hS 1 0 gz1 tzz0 (vp_g (N := 360) (by decide) (gl_mX11_node_4 zn x36 hz9 hz10 c_23 ex36)) dX11_node_89 (fun H locs hP hD hS => ?_)
          obtain ⟨hP, hD⟩ := z_re (L := [(n0, .inr (11, .ref a_tape :: .int m_taped :: .int m_laws :: .ref a_sign :: .ref a_length :: .ref a_clause :: .ref a_clauses :: .ref a_chain :: .int m_next :: .int m_wrong :: .int m_number :: .int m_text :: .int m_made :: .int m_deep :: .int m_lines :: .ref a_open :: .int m_opened :: .ref a_stack :: .int m_top :: .ref a_word :: .ref a_said :: .ref a_kept :: [.int m_goNode, .int m_goDrops, .int m_goHour, .int m_goFelt, .int m_goSalt, .int m_goMore, .ref a_stepNode, .ref a_stepDrops, .ref a_stepHour, .ref a_stepNext, .ref a_stepPass, .int m_bestLeft, .int m_bestHour, .int m_bestMany, .ref a_bestPass, .ref a_far, .ref a_waited, .ref a_servers, .ref a_images, .ref a_isMade])), (a_said, .inl (kA 0, 360, .inl (upd f48 (x36 + 2).toNatClampNeg p2)))]) hP hD
          obtain ⟨f59, ef59⟩ : ∃ y : Nat → Int32, y = (upd f48 (x36 + 2).toNatClampNeg p2) := ⟨_, rfl⟩
          rw [← ef59] at hP hD
          have hG := zbnd hG ef59
          have hu60 := upd_at ef59
          have hk61 : SC f59 zn zp zj zo zf zm zk zw pd := by rw [ef59]; exact SC_nd hk50 (gl_mX11_node_5 zn x36 hz9 hz10 c_23 ex36)
          have hz62 : f59 0 = zn := hk61.1.1
          have hz63 : f59 1 = zp := hk61.1.2.1
          have hz64 : f59 2 = zj := hk61.1.2.2.1
          have hz65 : f59 3 = zo := hk61.1.2.2.2.1
          have hz66 : f59 4 = zf := hk61.1.2.2.2.2.1
          have hz67 : f59 6 = zm := hk61.1.2.2.2.2.2.1
          have hz68 : f59 8 = zk := hk61.1.2.2.2.2.2.2.1
          have hz69 : f59 9 = zw := hk61.1.2.2.2.2.2.2.2
          refine lv_aload_n hx hb dX11_node_90 rfl (lv_at hl 1 rfl) ?_
          refine va_get (D := (dC, dI)) (ci := 11) (v := .ref a_said) (C := RX11) (T := TX11) (N := 42) hx hb hts iX11_node_X11 hown hK.1 hP 0 gz0 vcz11 20 (by decide) (kX11_node_1 hts) (fun _ h9 => h9) gz20 dX11_node_91 ?_
          refine lv_iload hx hb dX11_node_94 (lv_at hl 0 rfl) ?_
          refine lv_iconst (v := 3) hx hb dX11_node_96 (by decide) ?_
          refine lv_iadd hx hb dX11_node_97 ?_
          refine lv_iconst (v := 0) hx hb dX11_node_98 (by decide) ?_
          refine va_iast hx hb hK.1 hP hD hS 1 0 gz1 tzz0 (vp_g (N := 360) (by decide) (gl_mX11_node_6 zn x36 hz9 hz10 c_23 ex36)) dX11_node_99 (fun H locs hP hD hS => ?_)
          obtain ⟨hP, hD⟩ := z_re (L := [(n0, .inr (11, .ref a_tape :: .int m_taped :: .int m_laws :: .ref a_sign :: .ref a_length :: .ref a_clause :: .ref a_clauses :: .ref a_chain :: .int m_next :: .int m_wrong :: .int m_number :: .int m_text :: .int m_made :: .int m_deep :: .int m_lines :: .ref a_open :: .int m_opened :: .ref a_stack :: .int m_top :: .ref a_word :: .ref a_said :: .ref a_kept :: [.int m_goNode, .int m_goDrops, .int m_goHour, .int m_goFelt, .int m_goSalt, .int m_goMore, .ref a_stepNode, .ref a_stepDrops, .ref a_stepHour, .ref a_stepNext, .ref a_stepPass, .int m_bestLeft, .int m_bestHour, .int m_bestMany, .ref a_bestPass, .ref a_far, .ref a_waited, .ref a_servers, .ref a_images, .ref a_isMade])), (a_said, .inl (kA 0, 360, .inl (upd f59 (x36 + 3).toNatClampNeg 0)))]) hP hD
          obtain ⟨f70, ef70⟩ : ∃ y : Nat → Int32, y = (upd f59 (x36 + 3).toNatClampNeg 0) := ⟨_, rfl⟩
          rw [← ef70] at hP hD
          have hG := zbnd hG ef70
          have hu71 := upd_at ef70
          have hk72 : SC f70 zn zp zj zo zf zm zk zw pd := by rw [ef70]; exact SC_nd hk61 (gl_mX11_node_7 zn x36 hz9 hz10 c_23 ex36)
          have hz73 : f70 0 = zn := hk72.1.1
          have hz74 : f70 1 = zp := hk72.1.2.1
          have hz75 : f70 2 = zj := hk72.1.2.2.1
          have hz76 : f70 3 = zo := hk72.1.2.2.2.1
          have hz77 : f70 4 = zf := hk72.1.2.2.2.2.1
          have hz78 : f70 6 = zm := hk72.1.2.2.2.2.2.1
          have hz79 : f70 8 = zk := hk72.1.2.2.2.2.2.2.1
          have hz80 : f70 9 = zw := hk72.1.2.2.2.2.2.2.2
          refine lv_aload_n hx hb dX11_node_100 rfl (lv_at hl 1 rfl) ?_
          refine va_get (D := (dC, dI)) (ci := 11) (v := .ref a_said) (C := RX11) (T := TX11) (N := 42) hx hb hts iX11_node_X11 hown hK.1 hP 0 gz0 vcz11 20 (by decide) (kX11_node_1 hts) (fun _ h9 => h9) gz20 dX11_node_101 ?_
          refine lv_iconst (v := 0) hx hb dX11_node_104 (by decide) ?_
          refine lv_dup2_11 hx hb dX11_node_105 rfl rfl ?_
          refine va_iald hx hb hK.1 hP 1 0 gz1 tzz0 (vpd (by decide)) dX11_node_106 ?_
          refine zi zn hz73 ?_
          refine lv_iconst (v := 1) hx hb dX11_node_107 (by decide) ?_
          refine lv_iadd hx hb dX11_node_108 ?_
          refine va_iast hx hb hK.1 hP hD hS 1 0 gz1 tzz0 (vpd (by decide)) dX11_node_109 (fun H locs hP hD hS => ?_)
          obtain ⟨hP, hD⟩ := z_re (L := [(n0, .inr (11, .ref a_tape :: .int m_taped :: .int m_laws :: .ref a_sign :: .ref a_length :: .ref a_clause :: .ref a_clauses :: .ref a_chain :: .int m_next :: .int m_wrong :: .int m_number :: .int m_text :: .int m_made :: .int m_deep :: .int m_lines :: .ref a_open :: .int m_opened :: .ref a_stack :: .int m_top :: .ref a_word :: .ref a_said :: .ref a_kept :: [.int m_goNode, .int m_goDrops, .int m_goHour, .int m_goFelt, .int m_goSalt, .int m_goMore, .ref a_stepNode, .ref a_stepDrops, .ref a_stepHour, .ref a_stepNext, .ref a_stepPass, .int m_bestLeft, .int m_bestHour, .int m_bestMany, .ref a_bestPass, .ref a_far, .ref a_waited, .ref a_servers, .ref a_images, .ref a_isMade])), (a_said, .inl (kA 0, 360, .inl (upd f70 (0 : Int32).toNatClampNeg (zn + 1))))]) hP hD
          obtain ⟨f81, ef81⟩ : ∃ y : Nat → Int32, y = (upd f70 (0 : Int32).toNatClampNeg (zn + 1)) := ⟨_, rfl⟩
          rw [← ef81] at hP hD
          have hG := zbnd hG ef81
          have hu82 : f81 0 = (zn + 1) := upd_at ef81
          have hk83 : SC f81 (zn + 1) zp zj zo zf zm zk zw pd := by rw [ef81]; exact SC_zn hk72 c_23 rfl
          have hz84 : f81 1 = zp := hk83.1.2.1
          have hz85 : f81 2 = zj := hk83.1.2.2.1
          have hz86 : f81 3 = zo := hk83.1.2.2.2.1
          have hz87 : f81 4 = zf := hk83.1.2.2.2.2.1
          have hz88 : f81 6 = zm := hk83.1.2.2.2.2.2.1
          have hz89 : f81 8 = zk := hk83.1.2.2.2.2.2.2.1
          have hz90 : f81 9 = zw := hk83.1.2.2.2.2.2.2.2
          have hz91 : ¬ (zn + 1) < 0 := hk83.2.1.1
          have hz92 : ¬ 12 < (zn + 1) := hk83.2.1.2
          refine lv_aload_n hx hb dX11_node_110 rfl (lv_at hl 1 rfl) ?_
          refine va_get (D := (dC, dI)) (ci := 11) (v := .ref a_said) (C := RX11) (T := TX11) (N := 42) hx hb hts iX11_node_X11 hown hK.1 hP 0 gz0 vcz11 20 (by decide) (kX11_node_1 hts) (fun _ h9 => h9) gz20 dX11_node_111 ?_
          refine lv_iconst (v := 0) hx hb dX11_node_114 (by decide) ?_
          refine va_iald hx hb hK.1 hP 1 0 gz1 tzz0 (vpd (by decide)) dX11_node_115 ?_
          refine zi (f81 0) rfl ?_
          refine lv_iconst (v := 1) hx hb dX11_node_116 (by decide) ?_
          refine lv_isub hx hb dX11_node_117 ?_
          obtain ⟨hP9, hD9⟩ := z_sb (L' := [(n0, .inr (11, .ref a_tape :: .int m_taped :: .int m_laws :: .ref a_sign :: .ref a_length :: .ref a_clause :: .ref a_clauses :: .ref a_chain :: .int m_next :: .int m_wrong :: .int m_number :: .int m_text :: .int m_made :: .int m_deep :: .int m_lines :: .ref a_open :: .int m_opened :: .ref a_stack :: .int m_top :: .ref a_word :: .ref a_said :: .ref a_kept :: [.int m_goNode, .int m_goDrops, .int m_goHour, .int m_goFelt, .int m_goSalt, .int m_goMore, .ref a_stepNode, .ref a_stepDrops, .ref a_stepHour, .ref a_stepNext, .ref a_stepPass, .int m_bestLeft, .int m_bestHour, .int m_bestMany, .ref a_bestPass, .ref a_far, .ref a_waited, .ref a_servers, .ref a_images, .ref a_isMade])), (a_said, .inl (kA 0, 360, .inl f81))]) hP hD [0, 1] (by decide) rfl
          refine W.widen (k := 0) (n := 0) (Nat.le_of_ble_eq_true rfl) (Nat.le_of_ble_eq_true rfl) ?_
          exact W.iret (v := ((f81 0) - 1)) hx hb hr (fun t ht hW => ⟨⟨((f81 0) - 1), (f81), rfl, ⟨(by have hok : ok_nd p0 p1 p2 zn = 1 := (by simp [ok_nd, c_23, c_27, c_31, c_35]); rw [hok, hu82]; exact gr_sub _), (hG.trans hG0.symm), (by have hok : ok_nd p0 p1 p2 zn = 1 := (by simp [ok_nd, c_23, c_27, c_31, c_35]); rw [hok]; exact hk83)⟩, by rw [ht]; exact hP9, hD9⟩, hS.F ht⟩) hS.2.2 dX11_node_118
        · have hG := zthen hG c_35
          refine lv_iconst (v := (-1)) hx hb dX11_node_47 (by decide) ?_
          obtain ⟨hP9, hD9⟩ := z_sb (L' := [(n0, .inr (11, .ref a_tape :: .int m_taped :: .int m_laws :: .ref a_sign :: .ref a_length :: .ref a_clause :: .ref a_clauses :: .ref a_chain :: .int m_next :: .int m_wrong :: .int m_number :: .int m_text :: .int m_made :: .int m_deep :: .int m_lines :: .ref a_open :: .int m_opened :: .ref a_stack :: .int m_top :: .ref a_word :: .ref a_said :: .ref a_kept :: [.int m_goNode, .int m_goDrops, .int m_goHour, .int m_goFelt, .int m_goSalt, .int m_goMore, .ref a_stepNode, .ref a_stepDrops, .ref a_stepHour, .ref a_stepNext, .ref a_stepPass, .int m_bestLeft, .int m_bestHour, .int m_bestMany, .ref a_bestPass, .ref a_far, .ref a_waited, .ref a_servers, .ref a_images, .ref a_isMade])), (a_said, .inl (kA 0, 360, .inl saidF))]) hP hD [0, 1] (by decide) rfl
          refine W.widen (k := 0) (n := 0) (Nat.le_of_ble_eq_true rfl) (Nat.le_of_ble_eq_true rfl) ?_
          exact W.iret (v := (-1)) hx hb hr (fun t ht hW => ⟨⟨(-1), (saidF), rfl, ⟨(by have hok : ok_nd p0 p1 p2 zn = 0 := (by simp [ok_nd, c_23, c_27, c_31, c_35]); rw [hok]; rfl), (hG.trans hG0.symm), (by have hok : ok_nd p0 p1 p2 zn = 0 := (by simp [ok_nd, c_23, c_27, c_31, c_35]); rw [hok]; exact hsc)⟩, by rw [ht]; exact hP9, hD9⟩, hS.F ht⟩) hS.2.2 dX11_node_48
theorem gl_mX11_pass_0 (zp : Int32) (x45 : Int32) (h0 : ¬ zp < 0) (h1 : ¬ 20 < zp) (h2 : ¬ zp = 20) (h3 : x45 = (68 + (5 * zp))) : (¬ x45 < 0 ∧ ¬ 360 ≤ x45) := by grind
theorem gl_mX11_pass_1 (zp : Int32) (h0 : ¬ zp < 0) (h1 : ¬ 20 < zp) (h2 : ¬ zp = 20) : ¬ 20 ≤ zp := by grind
theorem gl_mX11_pass_2 (zp : Int32) (x45 : Int32) (h0 : ¬ zp < 0) (h1 : ¬ 20 < zp) (h2 : ¬ zp = 20) (h3 : x45 = (68 + (5 * zp))) : (x45 = 68 + 5 * zp + 0) := by grind
theorem gl_mX11_pass_3 (zn : Int32) (p0 : Int32) (p1 : Int32) (h0 : ¬ zn < 0) (h1 : ¬ 12 < zn) (h2 : ¬ p0 < 0) (h3 : ¬ zn ≤ p0) (h4 : ¬ p1 < 0) (h5 : ¬ zn ≤ p1) (h6 : ¬ p0 = p1) : (¬ p0 < 0 ∧ ¬ 12 ≤ p0) := by grind
theorem gl_mX11_pass_4 (zp : Int32) (x45 : Int32) (h0 : ¬ zp < 0) (h1 : ¬ 20 < zp) (h2 : ¬ zp = 20) (h3 : x45 = (68 + (5 * zp))) : (¬ (x45 + 1) < 0 ∧ ¬ 360 ≤ (x45 + 1)) := by grind
theorem gl_mX11_pass_5 (zp : Int32) (x45 : Int32) (h0 : ¬ zp < 0) (h1 : ¬ 20 < zp) (h2 : ¬ zp = 20) (h3 : x45 = (68 + (5 * zp))) : ((x45 + 1) = 68 + 5 * zp + 1) := by grind
theorem gl_mX11_pass_6 (zn : Int32) (p0 : Int32) (p1 : Int32) (h0 : ¬ zn < 0) (h1 : ¬ 12 < zn) (h2 : ¬ p0 < 0) (h3 : ¬ zn ≤ p0) (h4 : ¬ p1 < 0) (h5 : ¬ zn ≤ p1) (h6 : ¬ p0 = p1) : (¬ p1 < 0 ∧ ¬ 12 ≤ p1) := by grind
theorem gl_mX11_pass_7 (zp : Int32) (x45 : Int32) (h0 : ¬ zp < 0) (h1 : ¬ 20 < zp) (h2 : ¬ zp = 20) (h3 : x45 = (68 + (5 * zp))) : (¬ (x45 + 2) < 0 ∧ ¬ 360 ≤ (x45 + 2)) := by grind
theorem gl_mX11_pass_8 (zp : Int32) (x45 : Int32) (h0 : ¬ zp < 0) (h1 : ¬ 20 < zp) (h2 : ¬ zp = 20) (h3 : x45 = (68 + (5 * zp))) : ((x45 + 2) = 68 + 5 * zp + 2) := by grind
theorem gl_mX11_pass_9 (p2 : Int32) (h0 : ¬ p2 < 1) (h1 : ¬ 24 < p2) : (¬ p2 < 1 ∧ ¬ 24 < p2) := by grind
theorem gl_mX11_pass_10 (zp : Int32) (x45 : Int32) (h0 : ¬ zp < 0) (h1 : ¬ 20 < zp) (h2 : ¬ zp = 20) (h3 : x45 = (68 + (5 * zp))) : (¬ (x45 + 3) < 0 ∧ ¬ 360 ≤ (x45 + 3)) := by grind
theorem gl_mX11_pass_11 (zp : Int32) (x45 : Int32) (h0 : ¬ zp < 0) (h1 : ¬ 20 < zp) (h2 : ¬ zp = 20) (h3 : x45 = (68 + (5 * zp))) : ((x45 + 3) = 68 + 5 * zp + 3) := by grind
theorem gl_mX11_pass_12 (zp : Int32) (x45 : Int32) (h0 : ¬ zp < 0) (h1 : ¬ 20 < zp) (h2 : ¬ zp = 20) (h3 : x45 = (68 + (5 * zp))) : (¬ (x45 + 3) < 0 ∧ ¬ (x45 + 2) < 0 ∧ ¬ (x45 + 3) = (x45 + 2)) := by grind
theorem gl_mX11_pass_13 (zp : Int32) (x45 : Int32) (h0 : ¬ zp < 0) (h1 : ¬ 20 < zp) (h2 : ¬ zp = 20) (h3 : x45 = (68 + (5 * zp))) : (¬ (x45 + 4) < 0 ∧ ¬ 360 ≤ (x45 + 4)) := by grind
theorem gl_mX11_pass_14 (zp : Int32) (x45 : Int32) (h0 : ¬ zp < 0) (h1 : ¬ 20 < zp) (h2 : ¬ zp = 20) (h3 : x45 = (68 + (5 * zp))) : ((x45 + 4) = 68 + 5 * zp + 4) := by grind
theorem gl_mX11_pass_15 (zp : Int32) (x45 : Int32) (h0 : ¬ zp < 0) (h1 : ¬ 20 < zp) (h2 : ¬ zp = 20) (h3 : x45 = (68 + (5 * zp))) : (¬ (x45 + 4) < 0 ∧ ¬ (x45 + 2) < 0 ∧ ¬ (x45 + 4) = (x45 + 2)) := by grind
set_option maxRecDepth 100000 in
def fX11_pass (saidF : Nat → Int32) (zn : Int32) (zp : Int32) (p0 : Int32) (p1 : Int32) (p2 : Int32) (p3 : Int32) (p4 : Int32) : (Nat → Int32) := if zp = 20 then (saidF) else (if (hs p0 zn) = 0 then (saidF) else (if (hs p1 zn) = 0 then (saidF) else (if p0 = p1 then (saidF) else (if (li p2.toInt64 1 24) = 0 then (saidF) else (if (li p3.toInt64 0 9) = 0 then (saidF) else (if (li p4.toInt64 0 1000) = 0 then (saidF) else (bnd ((68 + (5 * zp))) (fun (x45 : Int32) => bnd ((upd saidF x45.toNatClampNeg p0)) (fun (f46 : Nat → Int32) => bnd ((upd f46 (x45 + 1).toNatClampNeg p1)) (fun (f57 : Nat → Int32) => bnd ((upd f57 (x45 + 2).toNatClampNeg p2)) (fun (f68 : Nat → Int32) => bnd ((upd f68 (x45 + 3).toNatClampNeg p3)) (fun (f79 : Nat → Int32) => bnd ((upd f79 (x45 + 4).toNatClampNeg p4)) (fun (f91 : Nat → Int32) => bnd ((upd f91 (1 : Int32).toNatClampNeg (zp + 1))) (fun (f103 : Nat → Int32) => f103))))))))))))))
set_option maxHeartbeats 4000000 in
set_option maxRecDepth 100000 in
theorem mX11_pass (l : Launch) (dC : Nat → ClassId) (dI : Nat → Nat → Nat) (kA : Nat → ClassId) (sz : Nat) (n0 : Nat) (m_taped : Int32) (m_laws : Int32) (m_next : Int32) (m_wrong : Int32) (m_number : Int32) (m_text : Int32) (m_made : Int32) (m_deep : Int32) (m_lines : Int32) (m_opened : Int32) (m_top : Int32) (m_goNode : Int32) (m_goDrops : Int32) (m_goHour : Int32) (m_goFelt : Int32) (m_goSalt : Int32) (m_goMore : Int32) (m_bestLeft : Int32) (m_bestHour : Int32) (m_bestMany : Int32) (a_tape : Nat) (a_sign : Nat) (a_length : Nat) (a_clause : Nat) (a_clauses : Nat) (a_chain : Nat) (a_open : Nat) (a_stack : Nat) (a_word : Nat) (a_said : Nat) (a_kept : Nat) (a_stepNode : Nat) (a_stepDrops : Nat) (a_stepHour : Nat) (a_stepNext : Nat) (a_stepPass : Nat) (a_bestPass : Nat) (a_far : Nat) (a_waited : Nat) (a_servers : Nat) (a_images : Nat) (a_isMade : Nat) (saidF : Nat → Int32) (zn : Int32) (zp : Int32) (zj : Int32) (zo : Int32) (zf : Int32) (zm : Int32) (zk : Int32) (zw : Int32) (pd : Nat → Int32) (p0 : Int32) (p1 : Int32) (p2 : Int32) (p3 : Int32) (p4 : Int32) (hsc : SC saidF zn zp zj zo zf zm zk zw pd) : Met l yX11_pass wsX11_pass ({ frames := 1, cells := 0, slots := 0, locals := 25 }) (zPc dC dI kA sz [.ref n0, .int p0, .int p1, .int p2, .int p3, .int p4] [(n0, .inr (11, .ref a_tape :: .int m_taped :: .int m_laws :: .ref a_sign :: .ref a_length :: .ref a_clause :: .ref a_clauses :: .ref a_chain :: .int m_next :: .int m_wrong :: .int m_number :: .int m_text :: .int m_made :: .int m_deep :: .int m_lines :: .ref a_open :: .int m_opened :: .ref a_stack :: .int m_top :: .ref a_word :: .ref a_said :: .ref a_kept :: [.int m_goNode, .int m_goDrops, .int m_goHour, .int m_goFelt, .int m_goSalt, .int m_goMore, .ref a_stepNode, .ref a_stepDrops, .ref a_stepHour, .ref a_stepNext, .ref a_stepPass, .int m_bestLeft, .int m_bestHour, .int m_bestMany, .ref a_bestPass, .ref a_far, .ref a_waited, .ref a_servers, .ref a_images, .ref a_isMade])), (a_said, .inl (kA 0, 360, .inl saidF))]) (va_Qi (fun (r : Int32) (u : (Nat → Int32)) => r = (ra (ok_ps p0 p1 p2 p3 p4 zn zp) zp) ∧ u = fX11_pass saidF zn zp p0 p1 p2 p3 p4 ∧ SC u zn (rz (ok_ps p0 p1 p2 p3 p4 zn zp) zp) zj zo zf zm zk zw (rpd (ok_ps p0 p1 p2 p3 p4 zn zp) (pd5 pd zp p0 p1 p2 p3 p4) pd)) (zB dC dI (va_A [(n0, .inr (11, .ref a_tape :: .int m_taped :: .int m_laws :: .ref a_sign :: .ref a_length :: .ref a_clause :: .ref a_clauses :: .ref a_chain :: .int m_next :: .int m_wrong :: .int m_number :: .int m_text :: .int m_made :: .int m_deep :: .int m_lines :: .ref a_open :: .int m_opened :: .ref a_stack :: .int m_top :: .ref a_word :: .ref a_said :: .ref a_kept :: [.int m_goNode, .int m_goDrops, .int m_goHour, .int m_goFelt, .int m_goSalt, .int m_goMore, .ref a_stepNode, .ref a_stepDrops, .ref a_stepHour, .ref a_stepNext, .ref a_stepPass, .int m_bestLeft, .int m_bestHour, .int m_bestMany, .ref a_bestPass, .ref a_far, .ref a_waited, .ref a_servers, .ref a_images, .ref a_isMade])), (a_said, .inl (kA 0, 360, .inl saidF))] sz) (fun (u : (Nat → Int32)) => [(n0, .inr (11, .ref a_tape :: .int m_taped :: .int m_laws :: .ref a_sign :: .ref a_length :: .ref a_clause :: .ref a_clauses :: .ref a_chain :: .int m_next :: .int m_wrong :: .int m_number :: .int m_text :: .int m_made :: .int m_deep :: .int m_lines :: .ref a_open :: .int m_opened :: .ref a_stack :: .int m_top :: .ref a_word :: .ref a_said :: .ref a_kept :: [.int m_goNode, .int m_goDrops, .int m_goHour, .int m_goFelt, .int m_goSalt, .int m_goMore, .ref a_stepNode, .ref a_stepDrops, .ref a_stepHour, .ref a_stepNext, .ref a_stepPass, .int m_bestLeft, .int m_bestHour, .int m_bestMany, .ref a_bestPass, .ref a_far, .ref a_waited, .ref a_servers, .ref a_images, .ref a_isMade])), (a_said, .inl (kA 0, 360, .inl u))])) (va_A [(n0, .inr (11, .ref a_tape :: .int m_taped :: .int m_laws :: .ref a_sign :: .ref a_length :: .ref a_clause :: .ref a_clauses :: .ref a_chain :: .int m_next :: .int m_wrong :: .int m_number :: .int m_text :: .int m_made :: .int m_deep :: .int m_lines :: .ref a_open :: .int m_opened :: .ref a_stack :: .int m_top :: .ref a_word :: .ref a_said :: .ref a_kept :: [.int m_goNode, .int m_goDrops, .int m_goHour, .int m_goFelt, .int m_goSalt, .int m_goMore, .ref a_stepNode, .ref a_stepDrops, .ref a_stepHour, .ref a_stepNext, .ref a_stepPass, .int m_bestLeft, .int m_bestHour, .int m_bestMany, .ref a_bestPass, .ref a_far, .ref a_waited, .ref a_servers, .ref a_images, .ref a_isMade])), (a_said, .inl (kA 0, 360, .inl saidF))] sz)) 0 0 (va_A [(n0, .inr (11, .ref a_tape :: .int m_taped :: .int m_laws :: .ref a_sign :: .ref a_length :: .ref a_clause :: .ref a_clauses :: .ref a_chain :: .int m_next :: .int m_wrong :: .int m_number :: .int m_text :: .int m_made :: .int m_deep :: .int m_lines :: .ref a_open :: .int m_opened :: .ref a_stack :: .int m_top :: .ref a_word :: .ref a_said :: .ref a_kept :: [.int m_goNode, .int m_goDrops, .int m_goHour, .int m_goFelt, .int m_goSalt, .int m_goMore, .ref a_stepNode, .ref a_stepDrops, .ref a_stepHour, .ref a_stepNext, .ref a_stepPass, .int m_bestLeft, .int m_bestHour, .int m_bestMany, .ref a_bestPass, .ref a_far, .ref a_waited, .ref a_servers, .ref a_images, .ref a_isMade])), (a_said, .inl (kA 0, 360, .inl saidF))] sz) := by
  refine Met.ofW (cc := cX11_pass) (maxL := 7) (ret := (some .int)) pnX11 rfl ?_
  intro p e s m args below meth c s₁ B hml hv
  obtain ⟨rfl, hsz, hP, hK, hD0⟩ := hv
  have hx := B.exec
  have hb := B.bytes
  have hr := B.returns
  have hts := atoms_spec (ws := wsX11_pass) B.pre
  have hown : s.vm.findClass RX11 = some m.cls := findClass_of_methodNamed B.named
  have hlocks := B.notSynchronized
  subst hsz
  have hD := hD0.self (sz := s.heap.size)
  generalize hAe : va_A [(n0, .inr (11, .ref a_tape :: .int m_taped :: .int m_laws :: .ref a_sign :: .ref a_length :: .ref a_clause :: .ref a_clauses :: .ref a_chain :: .int m_next :: .int m_wrong :: .int m_number :: .int m_text :: .int m_made :: .int m_deep :: .int m_lines :: .ref a_open :: .int m_opened :: .ref a_stack :: .int m_top :: .ref a_word :: .ref a_said :: .ref a_kept :: [.int m_goNode, .int m_goDrops, .int m_goHour, .int m_goFelt, .int m_goSalt, .int m_goMore, .ref a_stepNode, .ref a_stepDrops, .ref a_stepHour, .ref a_stepNext, .ref a_stepPass, .int m_bestLeft, .int m_bestHour, .int m_bestMany, .ref a_bestPass, .ref a_far, .ref a_waited, .ref a_servers, .ref a_images, .ref a_isMade])), (a_said, .inl (kA 0, 360, .inl saidF))] s.heap.size = A at hD ⊢
  have hA : ∀ q : Nat, s.heap.size ≤ q → A q := zA_of hAe
  have hS : va_S A s.heap s.heap [] := va_S.rf
  have hP : va_P (dC, dI) vwCl [(n0, .inr (11, .ref a_tape :: .int m_taped :: .int m_laws :: .ref a_sign :: .ref a_length :: .ref a_clause :: .ref a_clauses :: .ref a_chain :: .int m_next :: .int m_wrong :: .int m_number :: .int m_text :: .int m_made :: .int m_deep :: .int m_lines :: .ref a_open :: .int m_opened :: .ref a_stack :: .int m_top :: .ref a_word :: .ref a_said :: .ref a_kept :: [.int m_goNode, .int m_goDrops, .int m_goHour, .int m_goFelt, .int m_goSalt, .int m_goMore, .ref a_stepNode, .ref a_stepDrops, .ref a_stepHour, .ref a_stepNext, .ref a_stepPass, .int m_bestLeft, .int m_bestHour, .int m_bestMany, .ref a_bestPass, .ref a_far, .ref a_waited, .ref a_servers, .ref a_images, .ref a_isMade])), (a_said, .inl (kA 0, 360, .inl saidF))] s.heap := hP
  have hl := lv_entry ([.ref n0, .int p0, .int p1, .int p2, .int p3, .int p4]) (n := 7) (Nat.le_of_ble_eq_true rfl)
  rw [lg_entry_eq]
  generalize (lg_sl ([.ref n0, .int p0, .int p1, .int p2, .int p3, .int p4]) ++ List.replicate (7 - (lg_sl ([.ref n0, .int p0, .int p1, .int p2, .int p3, .int p4])).length) Slot.unset).toArray = ls at hl ⊢
  have hl : lv_has ls 7 [(0, .ref n0), (1, .int p0), (2, .int p1), (3, .int p2), (4, .int p3), (5, .int p4)] := hl
  obtain ⟨H, hHe⟩ : ∃ H : Heap, H = s.heap := ⟨_, rfl⟩
  obtain ⟨G, hG0⟩ : ∃ G : (Nat → Int32), fX11_pass saidF zn zp p0 p1 p2 p3 p4 = G := ⟨_, rfl⟩
  have hG := hG0
  unfold fX11_pass at hG
  have hz1 : saidF 0 = zn := hsc.1.1
  have hz2 : saidF 1 = zp := hsc.1.2.1
  have hz3 : saidF 2 = zj := hsc.1.2.2.1
  have hz4 : saidF 3 = zo := hsc.1.2.2.2.1
  have hz5 : saidF 4 = zf := hsc.1.2.2.2.2.1
  have hz6 : saidF 6 = zm := hsc.1.2.2.2.2.2.1
  have hz7 : saidF 8 = zk := hsc.1.2.2.2.2.2.2.1
  have hz8 : saidF 9 = zw := hsc.1.2.2.2.2.2.2.2
  have hz9 : ¬ zn < 0 := hsc.2.1.1
  have hz10 : ¬ 12 < zn := hsc.2.1.2
  have hz11 : ¬ zp < 0 := hsc.2.2.1.1
  have hz12 : ¬ 20 < zp := hsc.2.2.1.2
  have hz13 : ¬ zj < 0 := hsc.2.2.2.1.1
  have hz14 : ¬ 16 < zj := hsc.2.2.2.1.2
  have hz15 : ¬ zo < 0 := hsc.2.2.2.2.1.1
  have hz16 : ¬ 6 < zo := hsc.2.2.2.2.1.2
  have hz17 : ¬ zf < 0 := hsc.2.2.2.2.2.1.1
  have hz18 : ¬ 8 < zf := hsc.2.2.2.2.2.1.2
  have hz19 : ¬ zk < (-1) := hsc.2.2.2.2.2.2.1.1
  have hz20 : ¬ 12 ≤ zk := hsc.2.2.2.2.2.2.1.2
  have hz21 : ¬ zw < 0 := hsc.2.2.2.2.2.2.2.1.1
  have hz22 : ¬ 6 < zw := hsc.2.2.2.2.2.2.2.1.2
  refine lv_aload_n hx hb dX11_pass_0 rfl (lv_at hl 0 rfl) ?_
  refine va_get (D := (dC, dI)) (ci := 11) (v := .ref a_said) (C := RX11) (T := TX11) (N := 42) hx hb hts iX11_pass_X11 hown hK.1 hP 0 gz0 vcz11 20 (by decide) (kX11_pass_1 hts) (fun _ h9 => h9) gz20 dX11_pass_1 ?_
  refine lv_iconst (v := 1) hx hb dX11_pass_4 (by decide) ?_
  refine va_iald hx hb hK.1 hP 1 0 gz1 tzz0 (vpd (by decide)) dX11_pass_5 ?_
  refine zi zp hz2 ?_
  refine lv_bipush (v := 20) hx hb dX11_pass_6 (by decide) ?_
  refine lv_icmp_eq (tgt := 70) hx hb dX11_pass_8 (by decide) (fun c_23 => ?_) (fun c_23 => ?_)
  · have hG := zthen hG c_23
    refine lv_iconst (v := (-1)) hx hb dX11_pass_70 (by decide) ?_
    obtain ⟨hP9, hD9⟩ := z_sb (L' := [(n0, .inr (11, .ref a_tape :: .int m_taped :: .int m_laws :: .ref a_sign :: .ref a_length :: .ref a_clause :: .ref a_clauses :: .ref a_chain :: .int m_next :: .int m_wrong :: .int m_number :: .int m_text :: .int m_made :: .int m_deep :: .int m_lines :: .ref a_open :: .int m_opened :: .ref a_stack :: .int m_top :: .ref a_word :: .ref a_said :: .ref a_kept :: [.int m_goNode, .int m_goDrops, .int m_goHour, .int m_goFelt, .int m_goSalt, .int m_goMore, .ref a_stepNode, .ref a_stepDrops, .ref a_stepHour, .ref a_stepNext, .ref a_stepPass, .int m_bestLeft, .int m_bestHour, .int m_bestMany, .ref a_bestPass, .ref a_far, .ref a_waited, .ref a_servers, .ref a_images, .ref a_isMade])), (a_said, .inl (kA 0, 360, .inl saidF))]) hP hD [0, 1] (by decide) rfl
    refine W.widen (k := 0) (n := 0) (Nat.le_of_ble_eq_true rfl) (Nat.le_of_ble_eq_true rfl) ?_
    exact W.iret (v := (-1)) hx hb hr (fun t ht hW => ⟨⟨(-1), (saidF), rfl, ⟨(by have hok : ok_ps p0 p1 p2 p3 p4 zn zp = 0 := (by simp [ok_ps, c_23]); rw [hok]; rfl), (hG.trans hG0.symm), (by have hok : ok_ps p0 p1 p2 p3 p4 zn zp = 0 := (by simp [ok_ps, c_23]); rw [hok]; exact hsc)⟩, by rw [ht]; exact hP9, hD9⟩, hS.F ht⟩) hS.2.2 dX11_pass_71
  · have hG := zelse hG c_23
    refine lv_aload_n hx hb dX11_pass_11 rfl (lv_at hl 0 rfl) ?_
    refine lv_iload_n hx hb dX11_pass_12 rfl (lv_at hl 1 rfl) ?_
    refine z_i (wr := []) (va_runV (As := [.int p0]) (rest := []) ⟨hx, hb, hml, hown, hts⟩ (mX11_isNode l dC dI kA _ n0 m_taped m_laws m_next m_wrong m_number m_text m_made m_deep m_lines m_opened m_top m_goNode m_goDrops m_goHour m_goFelt m_goSalt m_goMore m_bestLeft m_bestHour m_bestMany a_tape a_sign a_length a_clause a_clauses a_chain a_open a_stack a_word a_said a_kept a_stepNode a_stepDrops a_stepHour a_stepNext a_stepPass a_bestPass a_far a_waited a_servers a_images a_isMade saidF zn zp zj zo zf zm zk zw pd p0 hsc) (cwV 1 hts gX11_pass_X11_isNode rfl rfl rfl ⟨rfl, hdX11_isNode⟩ ⟨(Nat.le_of_ble_eq_true rfl), (Nat.le_of_ble_eq_true rfl)⟩) ⟨zPc.blind, va_recv (q := (RX11, TX11, 42)) hK.1 hP (ci := 11) (q0 := 0) rfl rfl, zPre hK (hP.sub [0, 1] rfl) (hD.sub [0, 1] (by decide) rfl)⟩ rfl rfl hl.1 rfl (lv_room (Nat.le_of_ble_eq_true rfl)) dX11_pass_13 ⟨(Nat.le_of_ble_eq_true rfl), (Nat.le_of_ble_eq_true rfl)⟩) hP hD hS hA [0, 1] [] rfl rfl (by decide) (by decide) (fun r26 u24 H locs hw25 hP hD hS => ?_)
    obtain rfl := hw25
    obtain ⟨hP, hD⟩ := z_re (L := [(n0, .inr (11, .ref a_tape :: .int m_taped :: .int m_laws :: .ref a_sign :: .ref a_length :: .ref a_clause :: .ref a_clauses :: .ref a_chain :: .int m_next :: .int m_wrong :: .int m_number :: .int m_text :: .int m_made :: .int m_deep :: .int m_lines :: .ref a_open :: .int m_opened :: .ref a_stack :: .int m_top :: .ref a_word :: .ref a_said :: .ref a_kept :: [.int m_goNode, .int m_goDrops, .int m_goHour, .int m_goFelt, .int m_goSalt, .int m_goMore, .ref a_stepNode, .ref a_stepDrops, .ref a_stepHour, .ref a_stepNext, .ref a_stepPass, .int m_bestLeft, .int m_bestHour, .int m_bestMany, .ref a_bestPass, .ref a_far, .ref a_waited, .ref a_servers, .ref a_images, .ref a_isMade])), (a_said, .inl (kA 0, 360, .inl saidF))]) hP hD
    refine lv_if_eq (tgt := 70) hx hb dX11_pass_16 (by decide) (fun c_27 => ?_) (fun c_27 => ?_)
    · have hG := zthen hG c_27
      refine lv_iconst (v := (-1)) hx hb dX11_pass_70 (by decide) ?_
      obtain ⟨hP9, hD9⟩ := z_sb (L' := [(n0, .inr (11, .ref a_tape :: .int m_taped :: .int m_laws :: .ref a_sign :: .ref a_length :: .ref a_clause :: .ref a_clauses :: .ref a_chain :: .int m_next :: .int m_wrong :: .int m_number :: .int m_text :: .int m_made :: .int m_deep :: .int m_lines :: .ref a_open :: .int m_opened :: .ref a_stack :: .int m_top :: .ref a_word :: .ref a_said :: .ref a_kept :: [.int m_goNode, .int m_goDrops, .int m_goHour, .int m_goFelt, .int m_goSalt, .int m_goMore, .ref a_stepNode, .ref a_stepDrops, .ref a_stepHour, .ref a_stepNext, .ref a_stepPass, .int m_bestLeft, .int m_bestHour, .int m_bestMany, .ref a_bestPass, .ref a_far, .ref a_waited, .ref a_servers, .ref a_images, .ref a_isMade])), (a_said, .inl (kA 0, 360, .inl saidF))]) hP hD [0, 1] (by decide) rfl
      refine W.widen (k := 0) (n := 0) (Nat.le_of_ble_eq_true rfl) (Nat.le_of_ble_eq_true rfl) ?_
      exact W.iret (v := (-1)) hx hb hr (fun t ht hW => ⟨⟨(-1), (saidF), rfl, ⟨(by have hok : ok_ps p0 p1 p2 p3 p4 zn zp = 0 := (by simp [ok_ps, c_23, c_27]); rw [hok]; rfl), (hG.trans hG0.symm), (by have hok : ok_ps p0 p1 p2 p3 p4 zn zp = 0 := (by simp [ok_ps, c_23, c_27]); rw [hok]; exact hsc)⟩, by rw [ht]; exact hP9, hD9⟩, hS.F ht⟩) hS.2.2 dX11_pass_71
    · have hG := zelse hG c_27
      have c_27a := hs_ne c_27
      have c_27b := c_27a.2
      have c_27a := c_27a.1
      refine lv_aload_n hx hb dX11_pass_19 rfl (lv_at hl 0 rfl) ?_
      refine lv_iload_n hx hb dX11_pass_20 rfl (lv_at hl 2 rfl) ?_
      refine z_i (wr := []) (va_runV (As := [.int p1]) (rest := []) ⟨hx, hb, hml, hown, hts⟩ (mX11_isNode l dC dI kA _ n0 m_taped m_laws m_next m_wrong m_number m_text m_made m_deep m_lines m_opened m_top m_goNode m_goDrops m_goHour m_goFelt m_goSalt m_goMore m_bestLeft m_bestHour m_bestMany a_tape a_sign a_length a_clause a_clauses a_chain a_open a_stack a_word a_said a_kept a_stepNode a_stepDrops a_stepHour a_stepNext a_stepPass a_bestPass a_far a_waited a_servers a_images a_isMade saidF zn zp zj zo zf zm zk zw pd p1 hsc) (cwV 1 hts gX11_pass_X11_isNode rfl rfl rfl ⟨rfl, hdX11_isNode⟩ ⟨(Nat.le_of_ble_eq_true rfl), (Nat.le_of_ble_eq_true rfl)⟩) ⟨zPc.blind, va_recv (q := (RX11, TX11, 42)) hK.1 hP (ci := 11) (q0 := 0) rfl rfl, zPre hK (hP.sub [0, 1] rfl) (hD.sub [0, 1] (by decide) rfl)⟩ rfl rfl hl.1 rfl (lv_room (Nat.le_of_ble_eq_true rfl)) dX11_pass_21 ⟨(Nat.le_of_ble_eq_true rfl), (Nat.le_of_ble_eq_true rfl)⟩) hP hD hS hA [0, 1] [] rfl rfl (by decide) (by decide) (fun r30 u28 H locs hw29 hP hD hS => ?_)
      obtain rfl := hw29
      obtain ⟨hP, hD⟩ := z_re (L := [(n0, .inr (11, .ref a_tape :: .int m_taped :: .int m_laws :: .ref a_sign :: .ref a_length :: .ref a_clause :: .ref a_clauses :: .ref a_chain :: .int m_next :: .int m_wrong :: .int m_number :: .int m_text :: .int m_made :: .int m_deep :: .int m_lines :: .ref a_open :: .int m_opened :: .ref a_stack :: .int m_top :: .ref a_word :: .ref a_said :: .ref a_kept :: [.int m_goNode, .int m_goDrops, .int m_goHour, .int m_goFelt, .int m_goSalt, .int m_goMore, .ref a_stepNode, .ref a_stepDrops, .ref a_stepHour, .ref a_stepNext, .ref a_stepPass, .int m_bestLeft, .int m_bestHour, .int m_bestMany, .ref a_bestPass, .ref a_far, .ref a_waited, .ref a_servers, .ref a_images, .ref a_isMade])), (a_said, .inl (kA 0, 360, .inl saidF))]) hP hD
      refine lv_if_eq (tgt := 70) hx hb dX11_pass_24 (by decide) (fun c_31 => ?_) (fun c_31 => ?_)
      · have hG := zthen hG c_31
        refine lv_iconst (v := (-1)) hx hb dX11_pass_70 (by decide) ?_
        obtain ⟨hP9, hD9⟩ := z_sb (L' := [(n0, .inr (11, .ref a_tape :: .int m_taped :: .int m_laws :: .ref a_sign :: .ref a_length :: .ref a_clause :: .ref a_clauses :: .ref a_chain :: .int m_next :: .int m_wrong :: .int m_number :: .int m_text :: .int m_made :: .int m_deep :: .int m_lines :: .ref a_open :: .int m_opened :: .ref a_stack :: .int m_top :: .ref a_word :: .ref a_said :: .ref a_kept :: [.int m_goNode, .int m_goDrops, .int m_goHour, .int m_goFelt, .int m_goSalt, .int m_goMore, .ref a_stepNode, .ref a_stepDrops, .ref a_stepHour, .ref a_stepNext, .ref a_stepPass, .int m_bestLeft, .int m_bestHour, .int m_bestMany, .ref a_bestPass, .ref a_far, .ref a_waited, .ref a_servers, .ref a_images, .ref a_isMade])), (a_said, .inl (kA 0, 360, .inl saidF))]) hP hD [0, 1] (by decide) rfl
        refine W.widen (k := 0) (n := 0) (Nat.le_of_ble_eq_true rfl) (Nat.le_of_ble_eq_true rfl) ?_
        exact W.iret (v := (-1)) hx hb hr (fun t ht hW => ⟨⟨(-1), (saidF), rfl, ⟨(by have hok : ok_ps p0 p1 p2 p3 p4 zn zp = 0 := (by simp [ok_ps, c_23, c_27, c_31]); rw [hok]; rfl), (hG.trans hG0.symm), (by have hok : ok_ps p0 p1 p2 p3 p4 zn zp = 0 := (by simp [ok_ps, c_23, c_27, c_31]); rw [hok]; exact hsc)⟩, by rw [ht]; exact hP9, hD9⟩, hS.F ht⟩) hS.2.2 dX11_pass_71
      · have hG := zelse hG c_31
        have c_31a := hs_ne c_31
        have c_31b := c_31a.2
        have c_31a := c_31a.1
        refine lv_iload_n hx hb dX11_pass_27 rfl (lv_at hl 1 rfl) ?_
        refine lv_iload_n hx hb dX11_pass_28 rfl (lv_at hl 2 rfl) ?_
        refine lv_icmp_eq (tgt := 70) hx hb dX11_pass_29 (by decide) (fun c_32 => ?_) (fun c_32 => ?_)
        · have hG := zthen hG c_32
          refine lv_iconst (v := (-1)) hx hb dX11_pass_70 (by decide) ?_
          obtain ⟨hP9, hD9⟩ := z_sb (L' := [(n0, .inr (11, .ref a_tape :: .int m_taped :: .int m_laws :: .ref a_sign :: .ref a_length :: .ref a_clause :: .ref a_clauses :: .ref a_chain :: .int m_next :: .int m_wrong :: .int m_number :: .int m_text :: .int m_made :: .int m_deep :: .int m_lines :: .ref a_open :: .int m_opened :: .ref a_stack :: .int m_top :: .ref a_word :: .ref a_said :: .ref a_kept :: [.int m_goNode, .int m_goDrops, .int m_goHour, .int m_goFelt, .int m_goSalt, .int m_goMore, .ref a_stepNode, .ref a_stepDrops, .ref a_stepHour, .ref a_stepNext, .ref a_stepPass, .int m_bestLeft, .int m_bestHour, .int m_bestMany, .ref a_bestPass, .ref a_far, .ref a_waited, .ref a_servers, .ref a_images, .ref a_isMade])), (a_said, .inl (kA 0, 360, .inl saidF))]) hP hD [0, 1] (by decide) rfl
          refine W.widen (k := 0) (n := 0) (Nat.le_of_ble_eq_true rfl) (Nat.le_of_ble_eq_true rfl) ?_
          exact W.iret (v := (-1)) hx hb hr (fun t ht hW => ⟨⟨(-1), (saidF), rfl, ⟨(by have hok : ok_ps p0 p1 p2 p3 p4 zn zp = 0 := (by simp [ok_ps, c_23, c_27, c_31, c_32]); rw [hok]; rfl), (hG.trans hG0.symm), (by have hok : ok_ps p0 p1 p2 p3 p4 zn zp = 0 := (by simp [ok_ps, c_23, c_27, c_31, c_32]); rw [hok]; exact hsc)⟩, by rw [ht]; exact hP9, hD9⟩, hS.F ht⟩) hS.2.2 dX11_pass_71
        · have hG := zelse hG c_32
          refine lv_iload_n hx hb dX11_pass_32 rfl (lv_at hl 3 rfl) ?_
          refine lv_i2l hx hb dX11_pass_33 rfl ?_
          refine lv_lconst (v := 1) hx hb dX11_pass_34 (by decide) ?_
          refine lv_ldc2 hx hb hown (kX11_pass_2 hts) dX11_pass_35 ?_
          refine z_i (wr := [(n0, .inr (11, .ref a_tape :: .int m_taped :: .int m_laws :: .ref a_sign :: .ref a_length :: .ref a_clause :: .ref a_clauses :: .ref a_chain :: .int m_next :: .int m_wrong :: .int m_number :: .int m_text :: .int m_made :: .int m_deep :: .int m_lines :: .ref a_open :: .int m_opened :: .ref a_stack :: .int m_top :: .ref a_word :: .ref a_said :: .ref a_kept :: [.int m_goNode, .int m_goDrops, .int m_goHour, .int m_goFelt, .int m_goSalt, .int m_goMore, .ref a_stepNode, .ref a_stepDrops, .ref a_stepHour, .ref a_stepNext, .ref a_stepPass, .int m_bestLeft, .int m_bestHour, .int m_bestMany, .ref a_bestPass, .ref a_far, .ref a_waited, .ref a_servers, .ref a_images, .ref a_isMade])), (a_said, .inl (kA 0, 360, .inl saidF))]) (va_runS (As := [.long p2.toInt64, .long 1, .long 24]) (rest := []) ⟨hx, hb, hml, hown, hts⟩ (mX11_in l dC dI kA _ p2.toInt64 1 24) (va_cwS 3 hts gX11_pass_X11_in rfl rfl rfl hdX11_in ⟨(Nat.le_of_ble_eq_true rfl), (Nat.le_of_ble_eq_true rfl)⟩) ⟨zPc.blind, zPre hK (hP.sub [] rfl) (hD.sub [] (by decide) rfl)⟩ rfl rfl hl.1 rfl (lv_room (Nat.le_of_ble_eq_true rfl)) dX11_pass_38 ⟨(Nat.le_of_ble_eq_true rfl), (Nat.le_of_ble_eq_true rfl)⟩) hP hD hS hA [] [0, 1] rfl rfl (by decide) (by decide) (fun r35 u33 H locs hw34 hP hD hS => ?_)
          obtain rfl := hw34
          obtain ⟨hP, hD⟩ := z_re (L := [(n0, .inr (11, .ref a_tape :: .int m_taped :: .int m_laws :: .ref a_sign :: .ref a_length :: .ref a_clause :: .ref a_clauses :: .ref a_chain :: .int m_next :: .int m_wrong :: .int m_number :: .int m_text :: .int m_made :: .int m_deep :: .int m_lines :: .ref a_open :: .int m_opened :: .ref a_stack :: .int m_top :: .ref a_word :: .ref a_said :: .ref a_kept :: [.int m_goNode, .int m_goDrops, .int m_goHour, .int m_goFelt, .int m_goSalt, .int m_goMore, .ref a_stepNode, .ref a_stepDrops, .ref a_stepHour, .ref a_stepNext, .ref a_stepPass, .int m_bestLeft, .int m_bestHour, .int m_bestMany, .ref a_bestPass, .ref a_far, .ref a_waited, .ref a_servers, .ref a_images, .ref a_isMade])), (a_said, .inl (kA 0, 360, .inl saidF))]) hP hD
          refine lv_if_eq (tgt := 70) hx hb dX11_pass_41 (by decide) (fun c_36 => ?_) (fun c_36 => ?_)
          · have hG := zthen hG c_36
            refine lv_iconst (v := (-1)) hx hb dX11_pass_70 (by decide) ?_
            obtain ⟨hP9, hD9⟩ := z_sb (L' := [(n0, .inr (11, .ref a_tape :: .int m_taped :: .int m_laws :: .ref a_sign :: .ref a_length :: .ref a_clause :: .ref a_clauses :: .ref a_chain :: .int m_next :: .int m_wrong :: .int m_number :: .int m_text :: .int m_made :: .int m_deep :: .int m_lines :: .ref a_open :: .int m_opened :: .ref a_stack :: .int m_top :: .ref a_word :: .ref a_said :: .ref a_kept :: [.int m_goNode, .int m_goDrops, .int m_goHour, .int m_goFelt, .int m_goSalt, .int m_goMore, .ref a_stepNode, .ref a_stepDrops, .ref a_stepHour, .ref a_stepNext, .ref a_stepPass, .int m_bestLeft, .int m_bestHour, .int m_bestMany, .ref a_bestPass, .ref a_far, .ref a_waited, .ref a_servers, .ref a_images, .ref a_isMade])), (a_said, .inl (kA 0, 360, .inl saidF))]) hP hD [0, 1] (by decide) rfl
            refine W.widen (k := 0) (n := 0) (Nat.le_of_ble_eq_true rfl) (Nat.le_of_ble_eq_true rfl) ?_
            exact W.iret (v := (-1)) hx hb hr (fun t ht hW => ⟨⟨(-1), (saidF), rfl, ⟨(by have hok : ok_ps p0 p1 p2 p3 p4 zn zp = 0 := (by simp [ok_ps, c_23, c_27, c_31, c_32, c_36]); rw [hok]; rfl), (hG.trans hG0.symm), (by have hok : ok_ps p0 p1 p2 p3 p4 zn zp = 0 := (by simp [ok_ps, c_23, c_27, c_31, c_32, c_36]); rw [hok]; exact hsc)⟩, by rw [ht]; exact hP9, hD9⟩, hS.F ht⟩) hS.2.2 dX11_pass_71
          · have hG := zelse hG c_36
            have c_36a := li_ne (lo := 1) (hi := 24) (by decide) (by decide) c_36
            have c_36b := c_36a.2
            have c_36a := c_36a.1
            refine lv_iload hx hb dX11_pass_44 (lv_at hl 4 rfl) ?_
            refine lv_i2l hx hb dX11_pass_46 rfl ?_
            refine lv_lconst (v := 0) hx hb dX11_pass_47 (by decide) ?_
            refine lv_ldc2 hx hb hown (kX11_pass_3 hts) dX11_pass_48 ?_
            refine z_i (wr := [(n0, .inr (11, .ref a_tape :: .int m_taped :: .int m_laws :: .ref a_sign :: .ref a_length :: .ref a_clause :: .ref a_clauses :: .ref a_chain :: .int m_next :: .int m_wrong :: .int m_number :: .int m_text :: .int m_made :: .int m_deep :: .int m_lines :: .ref a_open :: .int m_opened :: .ref a_stack :: .int m_top :: .ref a_word :: .ref a_said :: .ref a_kept :: [.int m_goNode, .int m_goDrops, .int m_goHour, .int m_goFelt, .int m_goSalt, .int m_goMore, .ref a_stepNode, .ref a_stepDrops, .ref a_stepHour, .ref a_stepNext, .ref a_stepPass, .int m_bestLeft, .int m_bestHour, .int m_bestMany, .ref a_bestPass, .ref a_far, .ref a_waited, .ref a_servers, .ref a_images, .ref a_isMade])), (a_said, .inl (kA 0, 360, .inl saidF))]) (va_runS (As := [.long p3.toInt64, .long 0, .long 9]) (rest := []) ⟨hx, hb, hml, hown, hts⟩ (mX11_in l dC dI kA _ p3.toInt64 0 9) (va_cwS 3 hts gX11_pass_X11_in rfl rfl rfl hdX11_in ⟨(Nat.le_of_ble_eq_true rfl), (Nat.le_of_ble_eq_true rfl)⟩) ⟨zPc.blind, zPre hK (hP.sub [] rfl) (hD.sub [] (by decide) rfl)⟩ rfl rfl hl.1 rfl (lv_room (Nat.le_of_ble_eq_true rfl)) dX11_pass_51 ⟨(Nat.le_of_ble_eq_true rfl), (Nat.le_of_ble_eq_true rfl)⟩) hP hD hS hA [] [0, 1] rfl rfl (by decide) (by decide) (fun r39 u37 H locs hw38 hP hD hS => ?_)
            obtain rfl := hw38
            obtain ⟨hP, hD⟩ := z_re (L := [(n0, .inr (11, .ref a_tape :: .int m_taped :: .int m_laws :: .ref a_sign :: .ref a_length :: .ref a_clause :: .ref a_clauses :: .ref a_chain :: .int m_next :: .int m_wrong :: .int m_number :: .int m_text :: .int m_made :: .int m_deep :: .int m_lines :: .ref a_open :: .int m_opened :: .ref a_stack :: .int m_top :: .ref a_word :: .ref a_said :: .ref a_kept :: [.int m_goNode, .int m_goDrops, .int m_goHour, .int m_goFelt, .int m_goSalt, .int m_goMore, .ref a_stepNode, .ref a_stepDrops, .ref a_stepHour, .ref a_stepNext, .ref a_stepPass, .int m_bestLeft, .int m_bestHour, .int m_bestMany, .ref a_bestPass, .ref a_far, .ref a_waited, .ref a_servers, .ref a_images, .ref a_isMade])), (a_said, .inl (kA 0, 360, .inl saidF))]) hP hD
            refine lv_if_eq (tgt := 70) hx hb dX11_pass_54 (by decide) (fun c_40 => ?_) (fun c_40 => ?_)
            · have hG := zthen hG c_40
              refine lv_iconst (v := (-1)) hx hb dX11_pass_70 (by decide) ?_
              obtain ⟨hP9, hD9⟩ := z_sb (L' := [(n0, .inr (11, .ref a_tape :: .int m_taped :: .int m_laws :: .ref a_sign :: .ref a_length :: .ref a_clause :: .ref a_clauses :: .ref a_chain :: .int m_next :: .int m_wrong :: .int m_number :: .int m_text :: .int m_made :: .int m_deep :: .int m_lines :: .ref a_open :: .int m_opened :: .ref a_stack :: .int m_top :: .ref a_word :: .ref a_said :: .ref a_kept :: [.int m_goNode, .int m_goDrops, .int m_goHour, .int m_goFelt, .int m_goSalt, .int m_goMore, .ref a_stepNode, .ref a_stepDrops, .ref a_stepHour, .ref a_stepNext, .ref a_stepPass, .int m_bestLeft, .int m_bestHour, .int m_bestMany, .ref a_bestPass, .ref a_far, .ref a_waited, .ref a_servers, .ref a_images, .ref a_isMade])), (a_said, .inl (kA 0, 360, .inl saidF))]) hP hD [0, 1] (by decide) rfl
              refine W.widen (k := 0) (n := 0) (Nat.le_of_ble_eq_true rfl) (Nat.le_of_ble_eq_true rfl) ?_
              exact W.iret (v := (-1)) hx hb hr (fun t ht hW => ⟨⟨(-1), (saidF), rfl, ⟨(by have hok : ok_ps p0 p1 p2 p3 p4 zn zp = 0 := (by simp [ok_ps, c_23, c_27, c_31, c_32, c_36, c_40]); rw [hok]; rfl), (hG.trans hG0.symm), (by have hok : ok_ps p0 p1 p2 p3 p4 zn zp = 0 := (by simp [ok_ps, c_23, c_27, c_31, c_32, c_36, c_40]); rw [hok]; exact hsc)⟩, by rw [ht]; exact hP9, hD9⟩, hS.F ht⟩) hS.2.2 dX11_pass_71
            · have hG := zelse hG c_40
              have c_40a := li_ne (lo := 0) (hi := 9) (by decide) (by decide) c_40
              have c_40b := c_40a.2
              have c_40a := c_40a.1
              refine lv_iload hx hb dX11_pass_57 (lv_at hl 5 rfl) ?_
              refine lv_i2l hx hb dX11_pass_59 rfl ?_
              refine lv_lconst (v := 0) hx hb dX11_pass_60 (by decide) ?_
              refine lv_ldc2 hx hb hown (kX11_pass_4 hts) dX11_pass_61 ?_
              refine z_i (wr := [(n0, .inr (11, .ref a_tape :: .int m_taped :: .int m_laws :: .ref a_sign :: .ref a_length :: .ref a_clause :: .ref a_clauses :: .ref a_chain :: .int m_next :: .int m_wrong :: .int m_number :: .int m_text :: .int m_made :: .int m_deep :: .int m_lines :: .ref a_open :: .int m_opened :: .ref a_stack :: .int m_top :: .ref a_word :: .ref a_said :: .ref a_kept :: [.int m_goNode, .int m_goDrops, .int m_goHour, .int m_goFelt, .int m_goSalt, .int m_goMore, .ref a_stepNode, .ref a_stepDrops, .ref a_stepHour, .ref a_stepNext, .ref a_stepPass, .int m_bestLeft, .int m_bestHour, .int m_bestMany, .ref a_bestPass, .ref a_far, .ref a_waited, .ref a_servers, .ref a_images, .ref a_isMade])), (a_said, .inl (kA 0, 360, .inl saidF))]) (va_runS (As := [.long p4.toInt64, .long 0, .long 1000]) (rest := []) ⟨hx, hb, hml, hown, hts⟩ (mX11_in l dC dI kA _ p4.toInt64 0 1000) (va_cwS 3 hts gX11_pass_X11_in rfl rfl rfl hdX11_in ⟨(Nat.le_of_ble_eq_true rfl), (Nat.le_of_ble_eq_true rfl)⟩) ⟨zPc.blind, zPre hK (hP.sub [] rfl) (hD.sub [] (by decide) rfl)⟩ rfl rfl hl.1 rfl (lv_room (Nat.le_of_ble_eq_true rfl)) dX11_pass_64 ⟨(Nat.le_of_ble_eq_true rfl), (Nat.le_of_ble_eq_true rfl)⟩) hP hD hS hA [] [0, 1] rfl rfl (by decide) (by decide) (fun r43 u41 H locs hw42 hP hD hS => ?_)
              obtain rfl := hw42
              obtain ⟨hP, hD⟩ := z_re (L := [(n0, .inr (11, .ref a_tape :: .int m_taped :: .int m_laws :: .ref a_sign :: .ref a_length :: .ref a_clause :: .ref a_clauses :: .ref a_chain :: .int m_next :: .int m_wrong :: .int m_number :: .int m_text :: .int m_made :: .int m_deep :: .int m_lines :: .ref a_open :: .int m_opened :: .ref a_stack :: .int m_top :: .ref a_word :: .ref a_said :: .ref a_kept :: [.int m_goNode, .int m_goDrops, .int m_goHour, .int m_goFelt, .int m_goSalt, .int m_goMore, .ref a_stepNode, .ref a_stepDrops, .ref a_stepHour, .ref a_stepNext, .ref a_stepPass, .int m_bestLeft, .int m_bestHour, .int m_bestMany, .ref a_bestPass, .ref a_far, .ref a_waited, .ref a_servers, .ref a_images, .ref a_isMade])), (a_said, .inl (kA 0, 360, .inl saidF))]) hP hD
              refine lv_if_ne (tgt := 72) hx hb dX11_pass_67 (by decide) (fun c_44 => ?_) (fun c_44 => ?_)
              · have hG := zelse hG c_44
                have c_44a := li_ne (lo := 0) (hi := 1000) (by decide) (by decide) c_44
                have c_44b := c_44a.2
                have c_44a := c_44a.1
                refine lv_bipush (v := 68) hx hb dX11_pass_72 (by decide) ?_
                refine lv_iconst (v := 5) hx hb dX11_pass_74 (by decide) ?_
                refine lv_aload_n hx hb dX11_pass_75 rfl (lv_at hl 0 rfl) ?_
                refine va_get (D := (dC, dI)) (ci := 11) (v := .ref a_said) (C := RX11) (T := TX11) (N := 42) hx hb hts iX11_pass_X11 hown hK.1 hP 0 gz0 vcz11 20 (by decide) (kX11_pass_1 hts) (fun _ h9 => h9) gz20 dX11_pass_76 ?_
                refine lv_iconst (v := 1) hx hb dX11_pass_79 (by decide) ?_
                refine va_iald hx hb hK.1 hP 1 0 gz1 tzz0 (vpd (by decide)) dX11_pass_80 ?_
                refine zi zp hz2 ?_
                refine lv_imul hx hb dX11_pass_81 ?_
                refine lv_iadd hx hb dX11_pass_82 ?_
                refine lv_topi (fun x45 ex45 => ?_)
                have hG := zbnd hG ex45
                refine lv_istore (lv' := [(6, .int x45), (0, .ref n0), (1, .int p0), (2, .int p1), (3, .int p2), (4, .int p3), (5, .int p4)]) hx hb dX11_pass_83 hl (by decide) rfl (fun ls hl => ?_)
                refine lv_aload_n hx hb dX11_pass_85 rfl (lv_at hl 1 rfl) ?_
                refine va_get (D := (dC, dI)) (ci := 11) (v := .ref a_said) (C := RX11) (T := TX11) (N := 42) hx hb hts iX11_pass_X11 hown hK.1 hP 0 gz0 vcz11 20 (by decide) (kX11_pass_1 hts) (fun _ h9 => h9) gz20 dX11_pass_86 ?_
                refine lv_iload hx hb dX11_pass_89 (lv_at hl 0 rfl) ?_
                refine lv_iload_n hx hb dX11_pass_91 rfl (lv_at hl 2 rfl) ?_
                refine va_iast hx hb hK.1 hP hD hS 1 0 gz1 tzz0 (vp_g (N := 360) (by decide) (gl_mX11_pass_0 zp x45 hz11 hz12 c_23 ex45)) dX11_pass_92 (fun H locs hP hD hS => ?_)
                obtain ⟨hP, hD⟩ := z_re (L := [(n0, .inr (11, .ref a_tape :: .int m_taped :: .int m_laws :: .ref a_sign :: .ref a_length :: .ref a_clause :: .ref a_clauses :: .ref a_chain :: .int m_next :: .int m_wrong :: .int m_number :: .int m_text :: .int m_made :: .int m_deep :: .int m_lines :: .ref a_open :: .int m_opened :: .ref a_stack :: .int m_top :: .ref a_word :: .ref a_said :: .ref a_kept :: [.int m_goNode, .int m_goDrops, .int m_goHour, .int m_goFelt, .int m_goSalt, .int m_goMore, .ref a_stepNode, .ref a_stepDrops, .ref a_stepHour, .ref a_stepNext, .ref a_stepPass, .int m_bestLeft, .int m_bestHour, .int m_bestMany, .ref a_bestPass, .ref a_far, .ref a_waited, .ref a_servers, .ref a_images, .ref a_isMade])), (a_said, .inl (kA 0, 360, .inl (upd saidF x45.toNatClampNeg p0)))]) hP hD
                obtain ⟨f46, ef46⟩ : ∃ y : Nat → Int32, y = (upd saidF x45.toNatClampNeg p0) := ⟨_, rfl⟩
                rw [← ef46] at hP hD
                have hG := zbnd hG ef46
                have hu47 := upd_at ef46
                have hk48 : SC f46 zn zp zj zo zf zm zk zw (upd pd (68 + 5 * zp + 0).toNatClampNeg p0) := by rw [ef46]; exact SC_pe (k := 0) hsc hz11 (gl_mX11_pass_1 zp hz11 hz12 c_23) (gl_mX11_pass_2 zp x45 hz11 hz12 c_23 ex45) (by decide) (gl_mX11_pass_3 zn p0 p1 hz9 hz10 c_27a c_27b c_31a c_31b c_32)
                have hz49 : f46 0 = zn := hk48.1.1
                have hz50 : f46 1 = zp := hk48.1.2.1
                have hz51 : f46 2 = zj := hk48.1.2.2.1
                have hz52 : f46 3 = zo := hk48.1.2.2.2.1
                have hz53 : f46 4 = zf := hk48.1.2.2.2.2.1
                have hz54 : f46 6 = zm := hk48.1.2.2.2.2.2.1
                have hz55 : f46 8 = zk := hk48.1.2.2.2.2.2.2.1
                have hz56 : f46 9 = zw := hk48.1.2.2.2.2.2.2.2
                refine lv_aload_n hx hb dX11_pass_93 rfl (lv_at hl 1 rfl) ?_
                refine va_get (D := (dC, dI)) (ci := 11) (v := .ref a_said) (C := RX11) (T := TX11) (N := 42) hx hb hts iX11_pass_X11 hown hK.1 hP 0 gz0 vcz11 20 (by decide) (kX11_pass_1 hts) (fun _ h9 => h9) gz20 dX11_pass_94 ?_
                refine lv_iload hx hb dX11_pass_97 (lv_at hl 0 rfl) ?_
                refine lv_iconst (v := 1) hx hb dX11_pass_99 (by decide) ?_
                refine lv_iadd hx hb dX11_pass_100 ?_
                refine lv_iload_n hx hb dX11_pass_101 rfl (lv_at hl 3 rfl) ?_
                refine va_iast hx hb hK.1 hP hD hS 1 0 gz1 tzz0 (vp_g (N := 360) (by decide) (gl_mX11_pass_4 zp x45 hz11 hz12 c_23 ex45)) dX11_pass_102 (fun H locs hP hD hS => ?_)
                obtain ⟨hP, hD⟩ := z_re (L := [(n0, .inr (11, .ref a_tape :: .int m_taped :: .int m_laws :: .ref a_sign :: .ref a_length :: .ref a_clause :: .ref a_clauses :: .ref a_chain :: .int m_next :: .int m_wrong :: .int m_number :: .int m_text :: .int m_made :: .int m_deep :: .int m_lines :: .ref a_open :: .int m_opened :: .ref a_stack :: .int m_top :: .ref a_word :: .ref a_said :: .ref a_kept :: [.int m_goNode, .int m_goDrops, .int m_goHour, .int m_goFelt, .int m_goSalt, .int m_goMore, .ref a_stepNode, .ref a_stepDrops, .ref a_stepHour, .ref a_stepNext, .ref a_stepPass, .int m_bestLeft, .int m_bestHour, .int m_bestMany, .ref a_bestPass, .ref a_far, .ref a_waited, .ref a_servers, .ref a_images, .ref a_isMade])), (a_said, .inl (kA 0, 360, .inl (upd f46 (x45 + 1).toNatClampNeg p1)))]) hP hD
                obtain ⟨f57, ef57⟩ : ∃ y : Nat → Int32, y = (upd f46 (x45 + 1).toNatClampNeg p1) := ⟨_, rfl⟩
                rw [← ef57] at hP hD
                have hG := zbnd hG ef57
                have hu58 := upd_at ef57
                have hk59 : SC f57 zn zp zj zo zf zm zk zw (upd (upd pd (68 + 5 * zp + 0).toNatClampNeg p0) (68 + 5 * zp + 1).toNatClampNeg p1) := by rw [ef57]; exact SC_pe (k := 1) hk48 hz11 (gl_mX11_pass_1 zp hz11 hz12 c_23) (gl_mX11_pass_5 zp x45 hz11 hz12 c_23 ex45) (by decide) (gl_mX11_pass_6 zn p0 p1 hz9 hz10 c_27a c_27b c_31a c_31b c_32)
                have hz60 : f57 0 = zn := hk59.1.1
                have hz61 : f57 1 = zp := hk59.1.2.1
                have hz62 : f57 2 = zj := hk59.1.2.2.1
                have hz63 : f57 3 = zo := hk59.1.2.2.2.1
                have hz64 : f57 4 = zf := hk59.1.2.2.2.2.1
                have hz65 : f57 6 = zm := hk59.1.2.2.2.2.2.1
                have hz66 : f57 8 = zk := hk59.1.2.2.2.2.2.2.1
                have hz67 : f57 9 = zw := hk59.1.2.2.2.2.2.2.2
                refine lv_aload_n hx hb dX11_pass_103 rfl (lv_at hl 1 rfl) ?_
                refine va_get (D := (dC, dI)) (ci := 11) (v := .ref a_said) (C := RX11) (T := TX11) (N := 42) hx hb hts iX11_pass_X11 hown hK.1 hP 0 gz0 vcz11 20 (by decide) (kX11_pass_1 hts) (fun _ h9 => h9) gz20 dX11_pass_104 ?_
                refine lv_iload hx hb dX11_pass_107 (lv_at hl 0 rfl) ?_
                refine lv_iconst (v := 2) hx hb dX11_pass_109 (by decide) ?_
                refine lv_iadd hx hb dX11_pass_110 ?_
                refine lv_iload_n hx hb dX11_pass_111 rfl (lv_at hl 4 rfl) ?_
                refine va_iast hx hb hK.1 hP hD hS 1 0 gz1 tzz0 (vp_g (N := 360) (by decide) (gl_mX11_pass_7 zp x45 hz11 hz12 c_23 ex45)) dX11_pass_112 (fun H locs hP hD hS => ?_)
                obtain ⟨hP, hD⟩ := z_re (L := [(n0, .inr (11, .ref a_tape :: .int m_taped :: .int m_laws :: .ref a_sign :: .ref a_length :: .ref a_clause :: .ref a_clauses :: .ref a_chain :: .int m_next :: .int m_wrong :: .int m_number :: .int m_text :: .int m_made :: .int m_deep :: .int m_lines :: .ref a_open :: .int m_opened :: .ref a_stack :: .int m_top :: .ref a_word :: .ref a_said :: .ref a_kept :: [.int m_goNode, .int m_goDrops, .int m_goHour, .int m_goFelt, .int m_goSalt, .int m_goMore, .ref a_stepNode, .ref a_stepDrops, .ref a_stepHour, .ref a_stepNext, .ref a_stepPass, .int m_bestLeft, .int m_bestHour, .int m_bestMany, .ref a_bestPass, .ref a_far, .ref a_waited, .ref a_servers, .ref a_images, .ref a_isMade])), (a_said, .inl (kA 0, 360, .inl (upd f57 (x45 + 2).toNatClampNeg p2)))]) hP hD
                obtain ⟨f68, ef68⟩ : ∃ y : Nat → Int32, y = (upd f57 (x45 + 2).toNatClampNeg p2) := ⟨_, rfl⟩
                rw [← ef68] at hP hD
                have hG := zbnd hG ef68
                have hu69 := upd_at ef68
                have hk70 : SC f68 zn zp zj zo zf zm zk zw (upd (upd (upd pd (68 + 5 * zp + 0).toNatClampNeg p0) (68 + 5 * zp + 1).toNatClampNeg p1) (68 + 5 * zp + 2).toNatClampNeg p2) := by rw [ef68]; exact SC_ph hk59 hz11 (gl_mX11_pass_1 zp hz11 hz12 c_23) (gl_mX11_pass_8 zp x45 hz11 hz12 c_23 ex45) (gl_mX11_pass_9 p2 c_36a c_36b)
                have hz71 : f68 0 = zn := hk70.1.1
                have hz72 : f68 1 = zp := hk70.1.2.1
                have hz73 : f68 2 = zj := hk70.1.2.2.1
                have hz74 : f68 3 = zo := hk70.1.2.2.2.1
                have hz75 : f68 4 = zf := hk70.1.2.2.2.2.1
                have hz76 : f68 6 = zm := hk70.1.2.2.2.2.2.1
                have hz77 : f68 8 = zk := hk70.1.2.2.2.2.2.2.1
                have hz78 : f68 9 = zw := hk70.1.2.2.2.2.2.2.2
                refine lv_aload_n hx hb dX11_pass_113 rfl (lv_at hl 1 rfl) ?_
                refine va_get (D := (dC, dI)) (ci := 11) (v := .ref a_said) (C := RX11) (T := TX11) (N := 42) hx hb hts iX11_pass_X11 hown hK.1 hP 0 gz0 vcz11 20 (by decide) (kX11_pass_1 hts) (fun _ h9 => h9) gz20 dX11_pass_114 ?_
                refine lv_iload hx hb dX11_pass_117 (lv_at hl 0 rfl) ?_
                refine lv_iconst (v := 3) hx hb dX11_pass_119 (by decide) ?_
                refine lv_iadd hx hb dX11_pass_120 ?_
                refine lv_iload hx hb dX11_pass_121 (lv_at hl 5 rfl) ?_
                refine va_iast hx hb hK.1 hP hD hS 1 0 gz1 tzz0 (vp_g (N := 360) (by decide) (gl_mX11_pass_10 zp x45 hz11 hz12 c_23 ex45)) dX11_pass_123 (fun H locs hP hD hS => ?_)
                obtain ⟨hP, hD⟩ := z_re (L := [(n0, .inr (11, .ref a_tape :: .int m_taped :: .int m_laws :: .ref a_sign :: .ref a_length :: .ref a_clause :: .ref a_clauses :: .ref a_chain :: .int m_next :: .int m_wrong :: .int m_number :: .int m_text :: .int m_made :: .int m_deep :: .int m_lines :: .ref a_open :: .int m_opened :: .ref a_stack :: .int m_top :: .ref a_word :: .ref a_said :: .ref a_kept :: [.int m_goNode, .int m_goDrops, .int m_goHour, .int m_goFelt, .int m_goSalt, .int m_goMore, .ref a_stepNode, .ref a_stepDrops, .ref a_stepHour, .ref a_stepNext, .ref a_stepPass, .int m_bestLeft, .int m_bestHour, .int m_bestMany, .ref a_bestPass, .ref a_far, .ref a_waited, .ref a_servers, .ref a_images, .ref a_isMade])), (a_said, .inl (kA 0, 360, .inl (upd f68 (x45 + 3).toNatClampNeg p3)))]) hP hD
                obtain ⟨f79, ef79⟩ : ∃ y : Nat → Int32, y = (upd f68 (x45 + 3).toNatClampNeg p3) := ⟨_, rfl⟩
                rw [← ef79] at hP hD
                have hG := zbnd hG ef79
                have hu80 := upd_at ef79
                have hk81 : SC f79 zn zp zj zo zf zm zk zw (upd (upd (upd (upd pd (68 + 5 * zp + 0).toNatClampNeg p0) (68 + 5 * zp + 1).toNatClampNeg p1) (68 + 5 * zp + 2).toNatClampNeg p2) (68 + 5 * zp + 3).toNatClampNeg p3) := by rw [ef79]; exact SC_pf (k := 3) hk70 hz11 (gl_mX11_pass_1 zp hz11 hz12 c_23) (gl_mX11_pass_11 zp x45 hz11 hz12 c_23 ex45) (by decide)
                have hz82 : f79 0 = zn := hk81.1.1
                have hz83 : f79 1 = zp := hk81.1.2.1
                have hz84 : f79 2 = zj := hk81.1.2.2.1
                have hz85 : f79 3 = zo := hk81.1.2.2.2.1
                have hz86 : f79 4 = zf := hk81.1.2.2.2.2.1
                have hz87 : f79 6 = zm := hk81.1.2.2.2.2.2.1
                have hz88 : f79 8 = zk := hk81.1.2.2.2.2.2.2.1
                have hz89 : f79 9 = zw := hk81.1.2.2.2.2.2.2.2
                have hv90 : f79 (x45 + 2).toNatClampNeg = p2 := by rw [ef79, upd_ne (zc_ne (gl_mX11_pass_12 zp x45 hz11 hz12 c_23 ex45))]; exact hu69
                refine lv_aload_n hx hb dX11_pass_124 rfl (lv_at hl 1 rfl) ?_
                refine va_get (D := (dC, dI)) (ci := 11) (v := .ref a_said) (C := RX11) (T := TX11) (N := 42) hx hb hts iX11_pass_X11 hown hK.1 hP 0 gz0 vcz11 20 (by decide) (kX11_pass_1 hts) (fun _ h9 => h9) gz20 dX11_pass_125 ?_
                refine lv_iload hx hb dX11_pass_128 (lv_at hl 0 rfl) ?_
                refine lv_iconst (v := 4) hx hb dX11_pass_130 (by decide) ?_
                refine lv_iadd hx hb dX11_pass_131 ?_
                refine lv_iload hx hb dX11_pass_132 (lv_at hl 6 rfl) ?_
                refine va_iast hx hb hK.1 hP hD hS 1 0 gz1 tzz0 (vp_g (N := 360) (by decide) (gl_mX11_pass_13 zp x45 hz11 hz12 c_23 ex45)) dX11_pass_134 (fun H locs hP hD hS => ?_)
                obtain ⟨hP, hD⟩ := z_re (L := [(n0, .inr (11, .ref a_tape :: .int m_taped :: .int m_laws :: .ref a_sign :: .ref a_length :: .ref a_clause :: .ref a_clauses :: .ref a_chain :: .int m_next :: .int m_wrong :: .int m_number :: .int m_text :: .int m_made :: .int m_deep :: .int m_lines :: .ref a_open :: .int m_opened :: .ref a_stack :: .int m_top :: .ref a_word :: .ref a_said :: .ref a_kept :: [.int m_goNode, .int m_goDrops, .int m_goHour, .int m_goFelt, .int m_goSalt, .int m_goMore, .ref a_stepNode, .ref a_stepDrops, .ref a_stepHour, .ref a_stepNext, .ref a_stepPass, .int m_bestLeft, .int m_bestHour, .int m_bestMany, .ref a_bestPass, .ref a_far, .ref a_waited, .ref a_servers, .ref a_images, .ref a_isMade])), (a_said, .inl (kA 0, 360, .inl (upd f79 (x45 + 4).toNatClampNeg p4)))]) hP hD
                obtain ⟨f91, ef91⟩ : ∃ y : Nat → Int32, y = (upd f79 (x45 + 4).toNatClampNeg p4) := ⟨_, rfl⟩
                rw [← ef91] at hP hD
                have hG := zbnd hG ef91
                have hu92 := upd_at ef91
                have hk93 : SC f91 zn zp zj zo zf zm zk zw (upd (upd (upd (upd (upd pd (68 + 5 * zp + 0).toNatClampNeg p0) (68 + 5 * zp + 1).toNatClampNeg p1) (68 + 5 * zp + 2).toNatClampNeg p2) (68 + 5 * zp + 3).toNatClampNeg p3) (68 + 5 * zp + 4).toNatClampNeg p4) := by rw [ef91]; exact SC_pf (k := 4) hk81 hz11 (gl_mX11_pass_1 zp hz11 hz12 c_23) (gl_mX11_pass_14 zp x45 hz11 hz12 c_23 ex45) (by decide)
                have hz94 : f91 0 = zn := hk93.1.1
                have hz95 : f91 1 = zp := hk93.1.2.1
                have hz96 : f91 2 = zj := hk93.1.2.2.1
                have hz97 : f91 3 = zo := hk93.1.2.2.2.1
                have hz98 : f91 4 = zf := hk93.1.2.2.2.2.1
                have hz99 : f91 6 = zm := hk93.1.2.2.2.2.2.1
                have hz100 : f91 8 = zk := hk93.1.2.2.2.2.2.2.1
                have hz101 : f91 9 = zw := hk93.1.2.2.2.2.2.2.2
                have hv102 : f91 (x45 + 2).toNatClampNeg = p2 := by rw [ef91, upd_ne (zc_ne (gl_mX11_pass_15 zp x45 hz11 hz12 c_23 ex45))]; exact hv90
                refine lv_aload_n hx hb dX11_pass_135 rfl (lv_at hl 1 rfl) ?_
                refine va_get (D := (dC, dI)) (ci := 11) (v := .ref a_said) (C := RX11) (T := TX11) (N := 42) hx hb hts iX11_pass_X11 hown hK.1 hP 0 gz0 vcz11 20 (by decide) (kX11_pass_1 hts) (fun _ h9 => h9) gz20 dX11_pass_136 ?_
                refine lv_iconst (v := 1) hx hb dX11_pass_139 (by decide) ?_
                refine lv_dup2_11 hx hb dX11_pass_140 rfl rfl ?_
                refine va_iald hx hb hK.1 hP 1 0 gz1 tzz0 (vpd (by decide)) dX11_pass_141 ?_
                refine zi zp hz95 ?_
                refine lv_iconst (v := 1) hx hb dX11_pass_142 (by decide) ?_
                refine lv_iadd hx hb dX11_pass_143 ?_
                refine va_iast hx hb hK.1 hP hD hS 1 0 gz1 tzz0 (vpd (by decide)) dX11_pass_144 (fun H locs hP hD hS => ?_)
                obtain ⟨hP, hD⟩ := z_re (L := [(n0, .inr (11, .ref a_tape :: .int m_taped :: .int m_laws :: .ref a_sign :: .ref a_length :: .ref a_clause :: .ref a_clauses :: .ref a_chain :: .int m_next :: .int m_wrong :: .int m_number :: .int m_text :: .int m_made :: .int m_deep :: .int m_lines :: .ref a_open :: .int m_opened :: .ref a_stack :: .int m_top :: .ref a_word :: .ref a_said :: .ref a_kept :: [.int m_goNode, .int m_goDrops, .int m_goHour, .int m_goFelt, .int m_goSalt, .int m_goMore, .ref a_stepNode, .ref a_stepDrops, .ref a_stepHour, .ref a_stepNext, .ref a_stepPass, .int m_bestLeft, .int m_bestHour, .int m_bestMany, .ref a_bestPass, .ref a_far, .ref a_waited, .ref a_servers, .ref a_images, .ref a_isMade])), (a_said, .inl (kA 0, 360, .inl (upd f91 (1 : Int32).toNatClampNeg (zp + 1))))]) hP hD
                obtain ⟨f103, ef103⟩ : ∃ y : Nat → Int32, y = (upd f91 (1 : Int32).toNatClampNeg (zp + 1)) := ⟨_, rfl⟩
                rw [← ef103] at hP hD
                have hG := zbnd hG ef103
                have hu104 : f103 1 = (zp + 1) := upd_at ef103
                have hk105 : SC f103 zn (zp + 1) zj zo zf zm zk zw (upd (upd (upd (upd (upd pd (68 + 5 * zp + 0).toNatClampNeg p0) (68 + 5 * zp + 1).toNatClampNeg p1) (68 + 5 * zp + 2).toNatClampNeg p2) (68 + 5 * zp + 3).toNatClampNeg p3) (68 + 5 * zp + 4).toNatClampNeg p4) := by rw [ef103]; exact SC_zp (i := (x45 + 2)) (x := p2) hk93 c_23 rfl (gl_mX11_pass_8 zp x45 hz11 hz12 c_23 ex45) hv102 (gl_mX11_pass_9 p2 c_36a c_36b)
                have hz106 : f103 0 = zn := hk105.1.1
                have hz107 : f103 2 = zj := hk105.1.2.2.1
                have hz108 : f103 3 = zo := hk105.1.2.2.2.1
                have hz109 : f103 4 = zf := hk105.1.2.2.2.2.1
                have hz110 : f103 6 = zm := hk105.1.2.2.2.2.2.1
                have hz111 : f103 8 = zk := hk105.1.2.2.2.2.2.2.1
                have hz112 : f103 9 = zw := hk105.1.2.2.2.2.2.2.2
                have hz113 : ¬ (zp + 1) < 0 := hk105.2.2.1.1
                have hz114 : ¬ 20 < (zp + 1) := hk105.2.2.1.2
                refine lv_aload_n hx hb dX11_pass_145 rfl (lv_at hl 1 rfl) ?_
                refine va_get (D := (dC, dI)) (ci := 11) (v := .ref a_said) (C := RX11) (T := TX11) (N := 42) hx hb hts iX11_pass_X11 hown hK.1 hP 0 gz0 vcz11 20 (by decide) (kX11_pass_1 hts) (fun _ h9 => h9) gz20 dX11_pass_146 ?_
                refine lv_iconst (v := 1) hx hb dX11_pass_149 (by decide) ?_
                refine va_iald hx hb hK.1 hP 1 0 gz1 tzz0 (vpd (by decide)) dX11_pass_150 ?_
                refine zi (f103 1) rfl ?_
                refine lv_iconst (v := 1) hx hb dX11_pass_151 (by decide) ?_
                refine lv_isub hx hb dX11_pass_152 ?_
                obtain ⟨hP9, hD9⟩ := z_sb (L' := [(n0, .inr (11, .ref a_tape :: .int m_taped :: .int m_laws :: .ref a_sign :: .ref a_length :: .ref a_clause :: .ref a_clauses :: .ref a_chain :: .int m_next :: .int m_wrong :: .int m_number :: .int m_text :: .int m_made :: .int m_deep :: .int m_lines :: .ref a_open :: .int m_opened :: .ref a_stack :: .int m_top :: .ref a_word :: .ref a_said :: .ref a_kept :: [.int m_goNode, .int m_goDrops, .int m_goHour, .int m_goFelt, .int m_goSalt, .int m_goMore, .ref a_stepNode, .ref a_stepDrops, .ref a_stepHour, .ref a_stepNext, .ref a_stepPass, .int m_bestLeft, .int m_bestHour, .int m_bestMany, .ref a_bestPass, .ref a_far, .ref a_waited, .ref a_servers, .ref a_images, .ref a_isMade])), (a_said, .inl (kA 0, 360, .inl f103))]) hP hD [0, 1] (by decide) rfl
                refine W.widen (k := 0) (n := 0) (Nat.le_of_ble_eq_true rfl) (Nat.le_of_ble_eq_true rfl) ?_
                exact W.iret (v := ((f103 1) - 1)) hx hb hr (fun t ht hW => ⟨⟨((f103 1) - 1), (f103), rfl, ⟨(by have hok : ok_ps p0 p1 p2 p3 p4 zn zp = 1 := (by simp [ok_ps, c_23, c_27, c_31, c_32, c_36, c_40, c_44]); rw [hok, hu104]; exact gr_sub _), (hG.trans hG0.symm), (by have hok : ok_ps p0 p1 p2 p3 p4 zn zp = 1 := (by simp [ok_ps, c_23, c_27, c_31, c_32, c_36, c_40, c_44]); rw [hok]; exact hk105)⟩, by rw [ht]; exact hP9, hD9⟩, hS.F ht⟩) hS.2.2 dX11_pass_153
              · have hG := zthen hG c_44
                refine lv_iconst (v := (-1)) hx hb dX11_pass_70 (by decide) ?_
                obtain ⟨hP9, hD9⟩ := z_sb (L' := [(n0, .inr (11, .ref a_tape :: .int m_taped :: .int m_laws :: .ref a_sign :: .ref a_length :: .ref a_clause :: .ref a_clauses :: .ref a_chain :: .int m_next :: .int m_wrong :: .int m_number :: .int m_text :: .int m_made :: .int m_deep :: .int m_lines :: .ref a_open :: .int m_opened :: .ref a_stack :: .int m_top :: .ref a_word :: .ref a_said :: .ref a_kept :: [.int m_goNode, .int m_goDrops, .int m_goHour, .int m_goFelt, .int m_goSalt, .int m_goMore, .ref a_stepNode, .ref a_stepDrops, .ref a_stepHour, .ref a_stepNext, .ref a_stepPass, .int m_bestLeft, .int m_bestHour, .int m_bestMany, .ref a_bestPass, .ref a_far, .ref a_waited, .ref a_servers, .ref a_images, .ref a_isMade])), (a_said, .inl (kA 0, 360, .inl saidF))]) hP hD [0, 1] (by decide) rfl
                refine W.widen (k := 0) (n := 0) (Nat.le_of_ble_eq_true rfl) (Nat.le_of_ble_eq_true rfl) ?_
                exact W.iret (v := (-1)) hx hb hr (fun t ht hW => ⟨⟨(-1), (saidF), rfl, ⟨(by have hok : ok_ps p0 p1 p2 p3 p4 zn zp = 0 := (by simp [ok_ps, c_23, c_27, c_31, c_32, c_36, c_40, c_44]); rw [hok]; rfl), (hG.trans hG0.symm), (by have hok : ok_ps p0 p1 p2 p3 p4 zn zp = 0 := (by simp [ok_ps, c_23, c_27, c_31, c_32, c_36, c_40, c_44]); rw [hok]; exact hsc)⟩, by rw [ht]; exact hP9, hD9⟩, hS.F ht⟩) hS.2.2 dX11_pass_71
theorem gl_mX11_jar_0 (zj : Int32) (x44 : Int32) (h0 : ¬ zj < 0) (h1 : ¬ 16 < zj) (h2 : ¬ zj = 16) (h3 : x44 = (168 + (9 * zj))) : (¬ x44 < 0 ∧ ¬ 360 ≤ x44) := by grind
theorem gl_mX11_jar_1 (zj : Int32) (h0 : ¬ zj < 0) (h1 : ¬ 16 < zj) (h2 : ¬ zj = 16) : ¬ 16 ≤ zj := by grind
theorem gl_mX11_jar_2 (zj : Int32) (x44 : Int32) (h0 : ¬ zj < 0) (h1 : ¬ 16 < zj) (h2 : ¬ zj = 16) (h3 : x44 = (168 + (9 * zj))) : (x44 = 168 + 9 * zj + 0) := by grind
theorem gl_mX11_jar_3 (zj : Int32) (x44 : Int32) (h0 : ¬ zj < 0) (h1 : ¬ 16 < zj) (h2 : ¬ zj = 16) (h3 : x44 = (168 + (9 * zj))) : (¬ (x44 + 1) < 0 ∧ ¬ 360 ≤ (x44 + 1)) := by grind
theorem gl_mX11_jar_4 (zj : Int32) (x44 : Int32) (h0 : ¬ zj < 0) (h1 : ¬ 16 < zj) (h2 : ¬ zj = 16) (h3 : x44 = (168 + (9 * zj))) : ((x44 + 1) = 168 + 9 * zj + 1) := by grind
theorem gl_mX11_jar_5 (zj : Int32) (x44 : Int32) (h0 : ¬ zj < 0) (h1 : ¬ 16 < zj) (h2 : ¬ zj = 16) (h3 : x44 = (168 + (9 * zj))) : (¬ (x44 + 2) < 0 ∧ ¬ 360 ≤ (x44 + 2)) := by grind
theorem gl_mX11_jar_6 (zj : Int32) (x44 : Int32) (h0 : ¬ zj < 0) (h1 : ¬ 16 < zj) (h2 : ¬ zj = 16) (h3 : x44 = (168 + (9 * zj))) : ((x44 + 2) = 168 + 9 * zj + 2) := by grind
theorem gl_mX11_jar_7 (zj : Int32) (x44 : Int32) (h0 : ¬ zj < 0) (h1 : ¬ 16 < zj) (h2 : ¬ zj = 16) (h3 : x44 = (168 + (9 * zj))) : (¬ (x44 + 3) < 0 ∧ ¬ 360 ≤ (x44 + 3)) := by grind
theorem gl_mX11_jar_8 (zj : Int32) (x44 : Int32) (h0 : ¬ zj < 0) (h1 : ¬ 16 < zj) (h2 : ¬ zj = 16) (h3 : x44 = (168 + (9 * zj))) : ((x44 + 3) = 168 + 9 * zj + 3) := by grind
theorem gl_mX11_jar_9 (zj : Int32) (x44 : Int32) (h0 : ¬ zj < 0) (h1 : ¬ 16 < zj) (h2 : ¬ zj = 16) (h3 : x44 = (168 + (9 * zj))) : (¬ (x44 + 4) < 0 ∧ ¬ 360 ≤ (x44 + 4)) := by grind
theorem gl_mX11_jar_10 (zj : Int32) (x44 : Int32) (h0 : ¬ zj < 0) (h1 : ¬ 16 < zj) (h2 : ¬ zj = 16) (h3 : x44 = (168 + (9 * zj))) : ((x44 + 4) = 168 + 9 * zj + 4) := by grind
theorem gl_mX11_jar_11 (zj : Int32) (x44 : Int32) (h0 : ¬ zj < 0) (h1 : ¬ 16 < zj) (h2 : ¬ zj = 16) (h3 : x44 = (168 + (9 * zj))) : (¬ (x44 + 5) < 0 ∧ ¬ 360 ≤ (x44 + 5)) := by grind
theorem gl_mX11_jar_12 (zj : Int32) (x44 : Int32) (h0 : ¬ zj < 0) (h1 : ¬ 16 < zj) (h2 : ¬ zj = 16) (h3 : x44 = (168 + (9 * zj))) : ((x44 + 5) = 168 + 9 * zj + 5) := by grind
theorem gl_mX11_jar_13 (zn : Int32) (p0 : Int32) (h0 : ¬ zn < 0) (h1 : ¬ 12 < zn) (h2 : ¬ p0 < 0) (h3 : ¬ zn ≤ p0) : (¬ p0 < 0 ∧ ¬ 13 < p0 ∧ ¬ p0 = 12) := by grind
theorem gl_mX11_jar_14 (zj : Int32) (x44 : Int32) (h0 : ¬ zj < 0) (h1 : ¬ 16 < zj) (h2 : ¬ zj = 16) (h3 : x44 = (168 + (9 * zj))) : (¬ (x44 + 6) < 0 ∧ ¬ 360 ≤ (x44 + 6)) := by grind
theorem gl_mX11_jar_15 (zj : Int32) (x44 : Int32) (h0 : ¬ zj < 0) (h1 : ¬ 16 < zj) (h2 : ¬ zj = 16) (h3 : x44 = (168 + (9 * zj))) : ((x44 + 6) = 168 + 9 * zj + 6) := by grind
theorem gl_mX11_jar_16 (zn : Int32) (p0 : Int32) (h0 : ¬ zn < 0) (h1 : ¬ 12 < zn) (h2 : ¬ p0 < 0) (h3 : ¬ zn ≤ p0) : ¬ p0 = 12 := by grind
theorem gl_mX11_jar_17 (zj : Int32) (x44 : Int32) (h0 : ¬ zj < 0) (h1 : ¬ 16 < zj) (h2 : ¬ zj = 16) (h3 : x44 = (168 + (9 * zj))) : (¬ (x44 + 6) < 0 ∧ ¬ (x44 + 5) < 0 ∧ ¬ (x44 + 6) = (x44 + 5)) := by grind
theorem gl_mX11_jar_18 (zj : Int32) (x44 : Int32) (h0 : ¬ zj < 0) (h1 : ¬ 16 < zj) (h2 : ¬ zj = 16) (h3 : x44 = (168 + (9 * zj))) : (¬ (x44 + 7) < 0 ∧ ¬ 360 ≤ (x44 + 7)) := by grind
theorem gl_mX11_jar_19 (zj : Int32) (x44 : Int32) (h0 : ¬ zj < 0) (h1 : ¬ 16 < zj) (h2 : ¬ zj = 16) (h3 : x44 = (168 + (9 * zj))) : ((x44 + 7) = 168 + 9 * zj + 7) := by grind
theorem gl_mX11_jar_20 (zj : Int32) (x44 : Int32) (h0 : ¬ zj < 0) (h1 : ¬ 16 < zj) (h2 : ¬ zj = 16) (h3 : x44 = (168 + (9 * zj))) : (¬ (x44 + 7) < 0 ∧ ¬ (x44 + 5) < 0 ∧ ¬ (x44 + 7) = (x44 + 5)) := by grind
theorem gl_mX11_jar_21 (zj : Int32) (x44 : Int32) (h0 : ¬ zj < 0) (h1 : ¬ 16 < zj) (h2 : ¬ zj = 16) (h3 : x44 = (168 + (9 * zj))) : (¬ (x44 + 8) < 0 ∧ ¬ 360 ≤ (x44 + 8)) := by grind
theorem gl_mX11_jar_22 (zj : Int32) (x44 : Int32) (h0 : ¬ zj < 0) (h1 : ¬ 16 < zj) (h2 : ¬ zj = 16) (h3 : x44 = (168 + (9 * zj))) : ((x44 + 8) = 168 + 9 * zj + 8) := by grind
theorem gl_mX11_jar_23 (zj : Int32) (x44 : Int32) (h0 : ¬ zj < 0) (h1 : ¬ 16 < zj) (h2 : ¬ zj = 16) (h3 : x44 = (168 + (9 * zj))) : (¬ (x44 + 8) < 0 ∧ ¬ (x44 + 5) < 0 ∧ ¬ (x44 + 8) = (x44 + 5)) := by grind
set_option maxRecDepth 100000 in
def fX11_jar (saidF : Nat → Int32) (zn : Int32) (zj : Int32) (p0 : Int32) (p1 : Int32) (p2 : Int32) (p3 : Int32) (p4 : Int32) : (Nat → Int32) := if zj = 16 then (saidF) else (if (hs p0 zn) = 0 then (saidF) else (if (li p1.toInt64 0 9) = 0 then (saidF) else (if (li p2.toInt64 0 9) = 0 then (saidF) else (if (li p3.toInt64 0 7) = 0 then (saidF) else (if (li p4.toInt64 0 15) = 0 then (saidF) else (bnd ((168 + (9 * zj))) (fun (x44 : Int32) => bnd ((upd saidF x44.toNatClampNeg p1)) (fun (f45 : Nat → Int32) => bnd ((upd f45 (x44 + 1).toNatClampNeg p2)) (fun (f56 : Nat → Int32) => bnd ((upd f56 (x44 + 2).toNatClampNeg p3)) (fun (f67 : Nat → Int32) => bnd ((upd f67 (x44 + 3).toNatClampNeg p4)) (fun (f78 : Nat → Int32) => bnd ((upd f78 (x44 + 4).toNatClampNeg 0)) (fun (f89 : Nat → Int32) => bnd ((upd f89 (x44 + 5).toNatClampNeg p0)) (fun (f100 : Nat → Int32) => bnd ((upd f100 (x44 + 6).toNatClampNeg (-1))) (fun (f111 : Nat → Int32) => bnd ((upd f111 (x44 + 7).toNatClampNeg 0)) (fun (f123 : Nat → Int32) => bnd ((upd f123 (x44 + 8).toNatClampNeg (-1))) (fun (f135 : Nat → Int32) => bnd ((upd f135 (2 : Int32).toNatClampNeg (zj + 1))) (fun (f147 : Nat → Int32) => f147)))))))))))))))))
set_option maxHeartbeats 4000000 in
set_option maxRecDepth 100000 in
theorem mX11_jar (l : Launch) (dC : Nat → ClassId) (dI : Nat → Nat → Nat) (kA : Nat → ClassId) (sz : Nat) (n0 : Nat) (m_taped : Int32) (m_laws : Int32) (m_next : Int32) (m_wrong : Int32) (m_number : Int32) (m_text : Int32) (m_made : Int32) (m_deep : Int32) (m_lines : Int32) (m_opened : Int32) (m_top : Int32) (m_goNode : Int32) (m_goDrops : Int32) (m_goHour : Int32) (m_goFelt : Int32) (m_goSalt : Int32) (m_goMore : Int32) (m_bestLeft : Int32) (m_bestHour : Int32) (m_bestMany : Int32) (a_tape : Nat) (a_sign : Nat) (a_length : Nat) (a_clause : Nat) (a_clauses : Nat) (a_chain : Nat) (a_open : Nat) (a_stack : Nat) (a_word : Nat) (a_said : Nat) (a_kept : Nat) (a_stepNode : Nat) (a_stepDrops : Nat) (a_stepHour : Nat) (a_stepNext : Nat) (a_stepPass : Nat) (a_bestPass : Nat) (a_far : Nat) (a_waited : Nat) (a_servers : Nat) (a_images : Nat) (a_isMade : Nat) (saidF : Nat → Int32) (zn : Int32) (zp : Int32) (zj : Int32) (zo : Int32) (zf : Int32) (zm : Int32) (zk : Int32) (zw : Int32) (pd : Nat → Int32) (p0 : Int32) (p1 : Int32) (p2 : Int32) (p3 : Int32) (p4 : Int32) (hsc : SC saidF zn zp zj zo zf zm zk zw pd) : Met l yX11_jar wsX11_jar ({ frames := 1, cells := 0, slots := 0, locals := 25 }) (zPc dC dI kA sz [.ref n0, .int p0, .int p1, .int p2, .int p3, .int p4] [(n0, .inr (11, .ref a_tape :: .int m_taped :: .int m_laws :: .ref a_sign :: .ref a_length :: .ref a_clause :: .ref a_clauses :: .ref a_chain :: .int m_next :: .int m_wrong :: .int m_number :: .int m_text :: .int m_made :: .int m_deep :: .int m_lines :: .ref a_open :: .int m_opened :: .ref a_stack :: .int m_top :: .ref a_word :: .ref a_said :: .ref a_kept :: [.int m_goNode, .int m_goDrops, .int m_goHour, .int m_goFelt, .int m_goSalt, .int m_goMore, .ref a_stepNode, .ref a_stepDrops, .ref a_stepHour, .ref a_stepNext, .ref a_stepPass, .int m_bestLeft, .int m_bestHour, .int m_bestMany, .ref a_bestPass, .ref a_far, .ref a_waited, .ref a_servers, .ref a_images, .ref a_isMade])), (a_said, .inl (kA 0, 360, .inl saidF))]) (va_Qi (fun (r : Int32) (u : (Nat → Int32)) => r = (ra (ok_jr p0 p1 p2 p3 p4 zn zj) zj) ∧ u = fX11_jar saidF zn zj p0 p1 p2 p3 p4 ∧ SC u zn zp (rz (ok_jr p0 p1 p2 p3 p4 zn zj) zj) zo zf zm zk zw pd) (zB dC dI (va_A [(n0, .inr (11, .ref a_tape :: .int m_taped :: .int m_laws :: .ref a_sign :: .ref a_length :: .ref a_clause :: .ref a_clauses :: .ref a_chain :: .int m_next :: .int m_wrong :: .int m_number :: .int m_text :: .int m_made :: .int m_deep :: .int m_lines :: .ref a_open :: .int m_opened :: .ref a_stack :: .int m_top :: .ref a_word :: .ref a_said :: .ref a_kept :: [.int m_goNode, .int m_goDrops, .int m_goHour, .int m_goFelt, .int m_goSalt, .int m_goMore, .ref a_stepNode, .ref a_stepDrops, .ref a_stepHour, .ref a_stepNext, .ref a_stepPass, .int m_bestLeft, .int m_bestHour, .int m_bestMany, .ref a_bestPass, .ref a_far, .ref a_waited, .ref a_servers, .ref a_images, .ref a_isMade])), (a_said, .inl (kA 0, 360, .inl saidF))] sz) (fun (u : (Nat → Int32)) => [(n0, .inr (11, .ref a_tape :: .int m_taped :: .int m_laws :: .ref a_sign :: .ref a_length :: .ref a_clause :: .ref a_clauses :: .ref a_chain :: .int m_next :: .int m_wrong :: .int m_number :: .int m_text :: .int m_made :: .int m_deep :: .int m_lines :: .ref a_open :: .int m_opened :: .ref a_stack :: .int m_top :: .ref a_word :: .ref a_said :: .ref a_kept :: [.int m_goNode, .int m_goDrops, .int m_goHour, .int m_goFelt, .int m_goSalt, .int m_goMore, .ref a_stepNode, .ref a_stepDrops, .ref a_stepHour, .ref a_stepNext, .ref a_stepPass, .int m_bestLeft, .int m_bestHour, .int m_bestMany, .ref a_bestPass, .ref a_far, .ref a_waited, .ref a_servers, .ref a_images, .ref a_isMade])), (a_said, .inl (kA 0, 360, .inl u))])) (va_A [(n0, .inr (11, .ref a_tape :: .int m_taped :: .int m_laws :: .ref a_sign :: .ref a_length :: .ref a_clause :: .ref a_clauses :: .ref a_chain :: .int m_next :: .int m_wrong :: .int m_number :: .int m_text :: .int m_made :: .int m_deep :: .int m_lines :: .ref a_open :: .int m_opened :: .ref a_stack :: .int m_top :: .ref a_word :: .ref a_said :: .ref a_kept :: [.int m_goNode, .int m_goDrops, .int m_goHour, .int m_goFelt, .int m_goSalt, .int m_goMore, .ref a_stepNode, .ref a_stepDrops, .ref a_stepHour, .ref a_stepNext, .ref a_stepPass, .int m_bestLeft, .int m_bestHour, .int m_bestMany, .ref a_bestPass, .ref a_far, .ref a_waited, .ref a_servers, .ref a_images, .ref a_isMade])), (a_said, .inl (kA 0, 360, .inl saidF))] sz)) 0 0 (va_A [(n0, .inr (11, .ref a_tape :: .int m_taped :: .int m_laws :: .ref a_sign :: .ref a_length :: .ref a_clause :: .ref a_clauses :: .ref a_chain :: .int m_next :: .int m_wrong :: .int m_number :: .int m_text :: .int m_made :: .int m_deep :: .int m_lines :: .ref a_open :: .int m_opened :: .ref a_stack :: .int m_top :: .ref a_word :: .ref a_said :: .ref a_kept :: [.int m_goNode, .int m_goDrops, .int m_goHour, .int m_goFelt, .int m_goSalt, .int m_goMore, .ref a_stepNode, .ref a_stepDrops, .ref a_stepHour, .ref a_stepNext, .ref a_stepPass, .int m_bestLeft, .int m_bestHour, .int m_bestMany, .ref a_bestPass, .ref a_far, .ref a_waited, .ref a_servers, .ref a_images, .ref a_isMade])), (a_said, .inl (kA 0, 360, .inl saidF))] sz) := by
  refine Met.ofW (cc := cX11_jar) (maxL := 7) (ret := (some .int)) pnX11 rfl ?_
  intro p e s m args below meth c s₁ B hml hv
  obtain ⟨rfl, hsz, hP, hK, hD0⟩ := hv
  have hx := B.exec
  have hb := B.bytes
  have hr := B.returns
  have hts := atoms_spec (ws := wsX11_jar) B.pre
  have hown : s.vm.findClass RX11 = some m.cls := findClass_of_methodNamed B.named
  have hlocks := B.notSynchronized
  subst hsz
  have hD := hD0.self (sz := s.heap.size)
  generalize hAe : va_A [(n0, .inr (11, .ref a_tape :: .int m_taped :: .int m_laws :: .ref a_sign :: .ref a_length :: .ref a_clause :: .ref a_clauses :: .ref a_chain :: .int m_next :: .int m_wrong :: .int m_number :: .int m_text :: .int m_made :: .int m_deep :: .int m_lines :: .ref a_open :: .int m_opened :: .ref a_stack :: .int m_top :: .ref a_word :: .ref a_said :: .ref a_kept :: [.int m_goNode, .int m_goDrops, .int m_goHour, .int m_goFelt, .int m_goSalt, .int m_goMore, .ref a_stepNode, .ref a_stepDrops, .ref a_stepHour, .ref a_stepNext, .ref a_stepPass, .int m_bestLeft, .int m_bestHour, .int m_bestMany, .ref a_bestPass, .ref a_far, .ref a_waited, .ref a_servers, .ref a_images, .ref a_isMade])), (a_said, .inl (kA 0, 360, .inl saidF))] s.heap.size = A at hD ⊢
  have hA : ∀ q : Nat, s.heap.size ≤ q → A q := zA_of hAe
  have hS : va_S A s.heap s.heap [] := va_S.rf
  have hP : va_P (dC, dI) vwCl [(n0, .inr (11, .ref a_tape :: .int m_taped :: .int m_laws :: .ref a_sign :: .ref a_length :: .ref a_clause :: .ref a_clauses :: .ref a_chain :: .int m_next :: .int m_wrong :: .int m_number :: .int m_text :: .int m_made :: .int m_deep :: .int m_lines :: .ref a_open :: .int m_opened :: .ref a_stack :: .int m_top :: .ref a_word :: .ref a_said :: .ref a_kept :: [.int m_goNode, .int m_goDrops, .int m_goHour, .int m_goFelt, .int m_goSalt, .int m_goMore, .ref a_stepNode, .ref a_stepDrops, .ref a_stepHour, .ref a_stepNext, .ref a_stepPass, .int m_bestLeft, .int m_bestHour, .int m_bestMany, .ref a_bestPass, .ref a_far, .ref a_waited, .ref a_servers, .ref a_images, .ref a_isMade])), (a_said, .inl (kA 0, 360, .inl saidF))] s.heap := hP
  have hl := lv_entry ([.ref n0, .int p0, .int p1, .int p2, .int p3, .int p4]) (n := 7) (Nat.le_of_ble_eq_true rfl)
  rw [lg_entry_eq]
  generalize (lg_sl ([.ref n0, .int p0, .int p1, .int p2, .int p3, .int p4]) ++ List.replicate (7 - (lg_sl ([.ref n0, .int p0, .int p1, .int p2, .int p3, .int p4])).length) Slot.unset).toArray = ls at hl ⊢
  have hl : lv_has ls 7 [(0, .ref n0), (1, .int p0), (2, .int p1), (3, .int p2), (4, .int p3), (5, .int p4)] := hl
  obtain ⟨H, hHe⟩ : ∃ H : Heap, H = s.heap := ⟨_, rfl⟩
  obtain ⟨G, hG0⟩ : ∃ G : (Nat → Int32), fX11_jar saidF zn zj p0 p1 p2 p3 p4 = G := ⟨_, rfl⟩
  have hG := hG0
  unfold fX11_jar at hG
  have hz1 : saidF 0 = zn := hsc.1.1
  have hz2 : saidF 1 = zp := hsc.1.2.1
  have hz3 : saidF 2 = zj := hsc.1.2.2.1
  have hz4 : saidF 3 = zo := hsc.1.2.2.2.1
  have hz5 : saidF 4 = zf := hsc.1.2.2.2.2.1
  have hz6 : saidF 6 = zm := hsc.1.2.2.2.2.2.1
  have hz7 : saidF 8 = zk := hsc.1.2.2.2.2.2.2.1
  have hz8 : saidF 9 = zw := hsc.1.2.2.2.2.2.2.2
  have hz9 : ¬ zn < 0 := hsc.2.1.1
  have hz10 : ¬ 12 < zn := hsc.2.1.2
  have hz11 : ¬ zp < 0 := hsc.2.2.1.1
  have hz12 : ¬ 20 < zp := hsc.2.2.1.2
  have hz13 : ¬ zj < 0 := hsc.2.2.2.1.1
  have hz14 : ¬ 16 < zj := hsc.2.2.2.1.2
  have hz15 : ¬ zo < 0 := hsc.2.2.2.2.1.1
  have hz16 : ¬ 6 < zo := hsc.2.2.2.2.1.2
  have hz17 : ¬ zf < 0 := hsc.2.2.2.2.2.1.1
  have hz18 : ¬ 8 < zf := hsc.2.2.2.2.2.1.2
  have hz19 : ¬ zk < (-1) := hsc.2.2.2.2.2.2.1.1
  have hz20 : ¬ 12 ≤ zk := hsc.2.2.2.2.2.2.1.2
  have hz21 : ¬ zw < 0 := hsc.2.2.2.2.2.2.2.1.1
  have hz22 : ¬ 6 < zw := hsc.2.2.2.2.2.2.2.1.2
  refine lv_aload_n hx hb dX11_jar_0 rfl (lv_at hl 0 rfl) ?_
  refine va_get (D := (dC, dI)) (ci := 11) (v := .ref a_said) (C := RX11) (T := TX11) (N := 42) hx hb hts iX11_jar_X11 hown hK.1 hP 0 gz0 vcz11 20 (by decide) (kX11_jar_1 hts) (fun _ h9 => h9) gz20 dX11_jar_1 ?_
  refine lv_iconst (v := 2) hx hb dX11_jar_4 (by decide) ?_
  refine va_iald hx hb hK.1 hP 1 0 gz1 tzz0 (vpd (by decide)) dX11_jar_5 ?_
  refine zi zj hz3 ?_
  refine lv_bipush (v := 16) hx hb dX11_jar_6 (by decide) ?_
  refine lv_icmp_eq (tgt := 69) hx hb dX11_jar_8 (by decide) (fun c_23 => ?_) (fun c_23 => ?_)
  · have hG := zthen hG c_23
    refine lv_iconst (v := (-1)) hx hb dX11_jar_69 (by decide) ?_
    obtain ⟨hP9, hD9⟩ := z_sb (L' := [(n0, .inr (11, .ref a_tape :: .int m_taped :: .int m_laws :: .ref a_sign :: .ref a_length :: .ref a_clause :: .ref a_clauses :: .ref a_chain :: .int m_next :: .int m_wrong :: .int m_number :: .int m_text :: .int m_made :: .int m_deep :: .int m_lines :: .ref a_open :: .int m_opened :: .ref a_stack :: .int m_top :: .ref a_word :: .ref a_said :: .ref a_kept :: [.int m_goNode, .int m_goDrops, .int m_goHour, .int m_goFelt, .int m_goSalt, .int m_goMore, .ref a_stepNode, .ref a_stepDrops, .ref a_stepHour, .ref a_stepNext, .ref a_stepPass, .int m_bestLeft, .int m_bestHour, .int m_bestMany, .ref a_bestPass, .ref a_far, .ref a_waited, .ref a_servers, .ref a_images, .ref a_isMade])), (a_said, .inl (kA 0, 360, .inl saidF))]) hP hD [0, 1] (by decide) rfl
    refine W.widen (k := 0) (n := 0) (Nat.le_of_ble_eq_true rfl) (Nat.le_of_ble_eq_true rfl) ?_
    exact W.iret (v := (-1)) hx hb hr (fun t ht hW => ⟨⟨(-1), (saidF), rfl, ⟨(by have hok : ok_jr p0 p1 p2 p3 p4 zn zj = 0 := (by simp [ok_jr, c_23]); rw [hok]; rfl), (hG.trans hG0.symm), (by have hok : ok_jr p0 p1 p2 p3 p4 zn zj = 0 := (by simp [ok_jr, c_23]); rw [hok]; exact hsc)⟩, by rw [ht]; exact hP9, hD9⟩, hS.F ht⟩) hS.2.2 dX11_jar_70
  · have hG := zelse hG c_23
    refine lv_aload_n hx hb dX11_jar_11 rfl (lv_at hl 0 rfl) ?_
    refine lv_iload_n hx hb dX11_jar_12 rfl (lv_at hl 1 rfl) ?_
    refine z_i (wr := []) (va_runV (As := [.int p0]) (rest := []) ⟨hx, hb, hml, hown, hts⟩ (mX11_isNode l dC dI kA _ n0 m_taped m_laws m_next m_wrong m_number m_text m_made m_deep m_lines m_opened m_top m_goNode m_goDrops m_goHour m_goFelt m_goSalt m_goMore m_bestLeft m_bestHour m_bestMany a_tape a_sign a_length a_clause a_clauses a_chain a_open a_stack a_word a_said a_kept a_stepNode a_stepDrops a_stepHour a_stepNext a_stepPass a_bestPass a_far a_waited a_servers a_images a_isMade saidF zn zp zj zo zf zm zk zw pd p0 hsc) (cwV 1 hts gX11_jar_X11_isNode rfl rfl rfl ⟨rfl, hdX11_isNode⟩ ⟨(Nat.le_of_ble_eq_true rfl), (Nat.le_of_ble_eq_true rfl)⟩) ⟨zPc.blind, va_recv (q := (RX11, TX11, 42)) hK.1 hP (ci := 11) (q0 := 0) rfl rfl, zPre hK (hP.sub [0, 1] rfl) (hD.sub [0, 1] (by decide) rfl)⟩ rfl rfl hl.1 rfl (lv_room (Nat.le_of_ble_eq_true rfl)) dX11_jar_13 ⟨(Nat.le_of_ble_eq_true rfl), (Nat.le_of_ble_eq_true rfl)⟩) hP hD hS hA [0, 1] [] rfl rfl (by decide) (by decide) (fun r26 u24 H locs hw25 hP hD hS => ?_)
    obtain rfl := hw25
    obtain ⟨hP, hD⟩ := z_re (L := [(n0, .inr (11, .ref a_tape :: .int m_taped :: .int m_laws :: .ref a_sign :: .ref a_length :: .ref a_clause :: .ref a_clauses :: .ref a_chain :: .int m_next :: .int m_wrong :: .int m_number :: .int m_text :: .int m_made :: .int m_deep :: .int m_lines :: .ref a_open :: .int m_opened :: .ref a_stack :: .int m_top :: .ref a_word :: .ref a_said :: .ref a_kept :: [.int m_goNode, .int m_goDrops, .int m_goHour, .int m_goFelt, .int m_goSalt, .int m_goMore, .ref a_stepNode, .ref a_stepDrops, .ref a_stepHour, .ref a_stepNext, .ref a_stepPass, .int m_bestLeft, .int m_bestHour, .int m_bestMany, .ref a_bestPass, .ref a_far, .ref a_waited, .ref a_servers, .ref a_images, .ref a_isMade])), (a_said, .inl (kA 0, 360, .inl saidF))]) hP hD
    refine lv_if_eq (tgt := 69) hx hb dX11_jar_16 (by decide) (fun c_27 => ?_) (fun c_27 => ?_)
    · have hG := zthen hG c_27
      refine lv_iconst (v := (-1)) hx hb dX11_jar_69 (by decide) ?_
      obtain ⟨hP9, hD9⟩ := z_sb (L' := [(n0, .inr (11, .ref a_tape :: .int m_taped :: .int m_laws :: .ref a_sign :: .ref a_length :: .ref a_clause :: .ref a_clauses :: .ref a_chain :: .int m_next :: .int m_wrong :: .int m_number :: .int m_text :: .int m_made :: .int m_deep :: .int m_lines :: .ref a_open :: .int m_opened :: .ref a_stack :: .int m_top :: .ref a_word :: .ref a_said :: .ref a_kept :: [.int m_goNode, .int m_goDrops, .int m_goHour, .int m_goFelt, .int m_goSalt, .int m_goMore, .ref a_stepNode, .ref a_stepDrops, .ref a_stepHour, .ref a_stepNext, .ref a_stepPass, .int m_bestLeft, .int m_bestHour, .int m_bestMany, .ref a_bestPass, .ref a_far, .ref a_waited, .ref a_servers, .ref a_images, .ref a_isMade])), (a_said, .inl (kA 0, 360, .inl saidF))]) hP hD [0, 1] (by decide) rfl
      refine W.widen (k := 0) (n := 0) (Nat.le_of_ble_eq_true rfl) (Nat.le_of_ble_eq_true rfl) ?_
      exact W.iret (v := (-1)) hx hb hr (fun t ht hW => ⟨⟨(-1), (saidF), rfl, ⟨(by have hok : ok_jr p0 p1 p2 p3 p4 zn zj = 0 := (by simp [ok_jr, c_23, c_27]); rw [hok]; rfl), (hG.trans hG0.symm), (by have hok : ok_jr p0 p1 p2 p3 p4 zn zj = 0 := (by simp [ok_jr, c_23, c_27]); rw [hok]; exact hsc)⟩, by rw [ht]; exact hP9, hD9⟩, hS.F ht⟩) hS.2.2 dX11_jar_70
    · have hG := zelse hG c_27
      have c_27a := hs_ne c_27
      have c_27b := c_27a.2
      have c_27a := c_27a.1
      refine lv_iload_n hx hb dX11_jar_19 rfl (lv_at hl 2 rfl) ?_
      refine lv_i2l hx hb dX11_jar_20 rfl ?_
      refine lv_lconst (v := 0) hx hb dX11_jar_21 (by decide) ?_
      refine lv_ldc2 hx hb hown (kX11_jar_2 hts) dX11_jar_22 ?_
      refine z_i (wr := [(n0, .inr (11, .ref a_tape :: .int m_taped :: .int m_laws :: .ref a_sign :: .ref a_length :: .ref a_clause :: .ref a_clauses :: .ref a_chain :: .int m_next :: .int m_wrong :: .int m_number :: .int m_text :: .int m_made :: .int m_deep :: .int m_lines :: .ref a_open :: .int m_opened :: .ref a_stack :: .int m_top :: .ref a_word :: .ref a_said :: .ref a_kept :: [.int m_goNode, .int m_goDrops, .int m_goHour, .int m_goFelt, .int m_goSalt, .int m_goMore, .ref a_stepNode, .ref a_stepDrops, .ref a_stepHour, .ref a_stepNext, .ref a_stepPass, .int m_bestLeft, .int m_bestHour, .int m_bestMany, .ref a_bestPass, .ref a_far, .ref a_waited, .ref a_servers, .ref a_images, .ref a_isMade])), (a_said, .inl (kA 0, 360, .inl saidF))]) (va_runS (As := [.long p1.toInt64, .long 0, .long 9]) (rest := []) ⟨hx, hb, hml, hown, hts⟩ (mX11_in l dC dI kA _ p1.toInt64 0 9) (va_cwS 3 hts gX11_jar_X11_in rfl rfl rfl hdX11_in ⟨(Nat.le_of_ble_eq_true rfl), (Nat.le_of_ble_eq_true rfl)⟩) ⟨zPc.blind, zPre hK (hP.sub [] rfl) (hD.sub [] (by decide) rfl)⟩ rfl rfl hl.1 rfl (lv_room (Nat.le_of_ble_eq_true rfl)) dX11_jar_25 ⟨(Nat.le_of_ble_eq_true rfl), (Nat.le_of_ble_eq_true rfl)⟩) hP hD hS hA [] [0, 1] rfl rfl (by decide) (by decide) (fun r30 u28 H locs hw29 hP hD hS => ?_)
      obtain rfl := hw29
      obtain ⟨hP, hD⟩ := z_re (L := [(n0, .inr (11, .ref a_tape :: .int m_taped :: .int m_laws :: .ref a_sign :: .ref a_length :: .ref a_clause :: .ref a_clauses :: .ref a_chain :: .int m_next :: .int m_wrong :: .int m_number :: .int m_text :: .int m_made :: .int m_deep :: .int m_lines :: .ref a_open :: .int m_opened :: .ref a_stack :: .int m_top :: .ref a_word :: .ref a_said :: .ref a_kept :: [.int m_goNode, .int m_goDrops, .int m_goHour, .int m_goFelt, .int m_goSalt, .int m_goMore, .ref a_stepNode, .ref a_stepDrops, .ref a_stepHour, .ref a_stepNext, .ref a_stepPass, .int m_bestLeft, .int m_bestHour, .int m_bestMany, .ref a_bestPass, .ref a_far, .ref a_waited, .ref a_servers, .ref a_images, .ref a_isMade])), (a_said, .inl (kA 0, 360, .inl saidF))]) hP hD
      refine lv_if_eq (tgt := 69) hx hb dX11_jar_28 (by decide) (fun c_31 => ?_) (fun c_31 => ?_)
      · have hG := zthen hG c_31
        refine lv_iconst (v := (-1)) hx hb dX11_jar_69 (by decide) ?_
        obtain ⟨hP9, hD9⟩ := z_sb (L' := [(n0, .inr (11, .ref a_tape :: .int m_taped :: .int m_laws :: .ref a_sign :: .ref a_length :: .ref a_clause :: .ref a_clauses :: .ref a_chain :: .int m_next :: .int m_wrong :: .int m_number :: .int m_text :: .int m_made :: .int m_deep :: .int m_lines :: .ref a_open :: .int m_opened :: .ref a_stack :: .int m_top :: .ref a_word :: .ref a_said :: .ref a_kept :: [.int m_goNode, .int m_goDrops, .int m_goHour, .int m_goFelt, .int m_goSalt, .int m_goMore, .ref a_stepNode, .ref a_stepDrops, .ref a_stepHour, .ref a_stepNext, .ref a_stepPass, .int m_bestLeft, .int m_bestHour, .int m_bestMany, .ref a_bestPass, .ref a_far, .ref a_waited, .ref a_servers, .ref a_images, .ref a_isMade])), (a_said, .inl (kA 0, 360, .inl saidF))]) hP hD [0, 1] (by decide) rfl
        refine W.widen (k := 0) (n := 0) (Nat.le_of_ble_eq_true rfl) (Nat.le_of_ble_eq_true rfl) ?_
        exact W.iret (v := (-1)) hx hb hr (fun t ht hW => ⟨⟨(-1), (saidF), rfl, ⟨(by have hok : ok_jr p0 p1 p2 p3 p4 zn zj = 0 := (by simp [ok_jr, c_23, c_27, c_31]); rw [hok]; rfl), (hG.trans hG0.symm), (by have hok : ok_jr p0 p1 p2 p3 p4 zn zj = 0 := (by simp [ok_jr, c_23, c_27, c_31]); rw [hok]; exact hsc)⟩, by rw [ht]; exact hP9, hD9⟩, hS.F ht⟩) hS.2.2 dX11_jar_70
      · have hG := zelse hG c_31
        have c_31a := li_ne (lo := 0) (hi := 9) (by decide) (by decide) c_31
        have c_31b := c_31a.2
        have c_31a := c_31a.1
        refine lv_iload_n hx hb dX11_jar_31 rfl (lv_at hl 3 rfl) ?_
        refine lv_i2l hx hb dX11_jar_32 rfl ?_
        refine lv_lconst (v := 0) hx hb dX11_jar_33 (by decide) ?_
        refine lv_ldc2 hx hb hown (kX11_jar_2 hts) dX11_jar_34 ?_
        refine z_i (wr := [(n0, .inr (11, .ref a_tape :: .int m_taped :: .int m_laws :: .ref a_sign :: .ref a_length :: .ref a_clause :: .ref a_clauses :: .ref a_chain :: .int m_next :: .int m_wrong :: .int m_number :: .int m_text :: .int m_made :: .int m_deep :: .int m_lines :: .ref a_open :: .int m_opened :: .ref a_stack :: .int m_top :: .ref a_word :: .ref a_said :: .ref a_kept :: [.int m_goNode, .int m_goDrops, .int m_goHour, .int m_goFelt, .int m_goSalt, .int m_goMore, .ref a_stepNode, .ref a_stepDrops, .ref a_stepHour, .ref a_stepNext, .ref a_stepPass, .int m_bestLeft, .int m_bestHour, .int m_bestMany, .ref a_bestPass, .ref a_far, .ref a_waited, .ref a_servers, .ref a_images, .ref a_isMade])), (a_said, .inl (kA 0, 360, .inl saidF))]) (va_runS (As := [.long p2.toInt64, .long 0, .long 9]) (rest := []) ⟨hx, hb, hml, hown, hts⟩ (mX11_in l dC dI kA _ p2.toInt64 0 9) (va_cwS 3 hts gX11_jar_X11_in rfl rfl rfl hdX11_in ⟨(Nat.le_of_ble_eq_true rfl), (Nat.le_of_ble_eq_true rfl)⟩) ⟨zPc.blind, zPre hK (hP.sub [] rfl) (hD.sub [] (by decide) rfl)⟩ rfl rfl hl.1 rfl (lv_room (Nat.le_of_ble_eq_true rfl)) dX11_jar_37 ⟨(Nat.le_of_ble_eq_true rfl), (Nat.le_of_ble_eq_true rfl)⟩) hP hD hS hA [] [0, 1] rfl rfl (by decide) (by decide) (fun r34 u32 H locs hw33 hP hD hS => ?_)
        obtain rfl := hw33
        obtain ⟨hP, hD⟩ := z_re (L := [(n0, .inr (11, .ref a_tape :: .int m_taped :: .int m_laws :: .ref a_sign :: .ref a_length :: .ref a_clause :: .ref a_clauses :: .ref a_chain :: .int m_next :: .int m_wrong :: .int m_number :: .int m_text :: .int m_made :: .int m_deep :: .int m_lines :: .ref a_open :: .int m_opened :: .ref a_stack :: .int m_top :: .ref a_word :: .ref a_said :: .ref a_kept :: [.int m_goNode, .int m_goDrops, .int m_goHour, .int m_goFelt, .int m_goSalt, .int m_goMore, .ref a_stepNode, .ref a_stepDrops, .ref a_stepHour, .ref a_stepNext, .ref a_stepPass, .int m_bestLeft, .int m_bestHour, .int m_bestMany, .ref a_bestPass, .ref a_far, .ref a_waited, .ref a_servers, .ref a_images, .ref a_isMade])), (a_said, .inl (kA 0, 360, .inl saidF))]) hP hD
        refine lv_if_eq (tgt := 69) hx hb dX11_jar_40 (by decide) (fun c_35 => ?_) (fun c_35 => ?_)
        · have hG := zthen hG c_35
          refine lv_iconst (v := (-1)) hx hb dX11_jar_69 (by decide) ?_
          obtain ⟨hP9, hD9⟩ := z_sb (L' := [(n0, .inr (11, .ref a_tape :: .int m_taped :: .int m_laws :: .ref a_sign :: .ref a_length :: .ref a_clause :: .ref a_clauses :: .ref a_chain :: .int m_next :: .int m_wrong :: .int m_number :: .int m_text :: .int m_made :: .int m_deep :: .int m_lines :: .ref a_open :: .int m_opened :: .ref a_stack :: .int m_top :: .ref a_word :: .ref a_said :: .ref a_kept :: [.int m_goNode, .int m_goDrops, .int m_goHour, .int m_goFelt, .int m_goSalt, .int m_goMore, .ref a_stepNode, .ref a_stepDrops, .ref a_stepHour, .ref a_stepNext, .ref a_stepPass, .int m_bestLeft, .int m_bestHour, .int m_bestMany, .ref a_bestPass, .ref a_far, .ref a_waited, .ref a_servers, .ref a_images, .ref a_isMade])), (a_said, .inl (kA 0, 360, .inl saidF))]) hP hD [0, 1] (by decide) rfl
          refine W.widen (k := 0) (n := 0) (Nat.le_of_ble_eq_true rfl) (Nat.le_of_ble_eq_true rfl) ?_
          exact W.iret (v := (-1)) hx hb hr (fun t ht hW => ⟨⟨(-1), (saidF), rfl, ⟨(by have hok : ok_jr p0 p1 p2 p3 p4 zn zj = 0 := (by simp [ok_jr, c_23, c_27, c_31, c_35]); rw [hok]; rfl), (hG.trans hG0.symm), (by have hok : ok_jr p0 p1 p2 p3 p4 zn zj = 0 := (by simp [ok_jr, c_23, c_27, c_31, c_35]); rw [hok]; exact hsc)⟩, by rw [ht]; exact hP9, hD9⟩, hS.F ht⟩) hS.2.2 dX11_jar_70
        · have hG := zelse hG c_35
          have c_35a := li_ne (lo := 0) (hi := 9) (by decide) (by decide) c_35
          have c_35b := c_35a.2
          have c_35a := c_35a.1
          refine lv_iload hx hb dX11_jar_43 (lv_at hl 4 rfl) ?_
          refine lv_i2l hx hb dX11_jar_45 rfl ?_
          refine lv_lconst (v := 0) hx hb dX11_jar_46 (by decide) ?_
          refine lv_ldc2 hx hb hown (kX11_jar_3 hts) dX11_jar_47 ?_
          refine z_i (wr := [(n0, .inr (11, .ref a_tape :: .int m_taped :: .int m_laws :: .ref a_sign :: .ref a_length :: .ref a_clause :: .ref a_clauses :: .ref a_chain :: .int m_next :: .int m_wrong :: .int m_number :: .int m_text :: .int m_made :: .int m_deep :: .int m_lines :: .ref a_open :: .int m_opened :: .ref a_stack :: .int m_top :: .ref a_word :: .ref a_said :: .ref a_kept :: [.int m_goNode, .int m_goDrops, .int m_goHour, .int m_goFelt, .int m_goSalt, .int m_goMore, .ref a_stepNode, .ref a_stepDrops, .ref a_stepHour, .ref a_stepNext, .ref a_stepPass, .int m_bestLeft, .int m_bestHour, .int m_bestMany, .ref a_bestPass, .ref a_far, .ref a_waited, .ref a_servers, .ref a_images, .ref a_isMade])), (a_said, .inl (kA 0, 360, .inl saidF))]) (va_runS (As := [.long p3.toInt64, .long 0, .long 7]) (rest := []) ⟨hx, hb, hml, hown, hts⟩ (mX11_in l dC dI kA _ p3.toInt64 0 7) (va_cwS 3 hts gX11_jar_X11_in rfl rfl rfl hdX11_in ⟨(Nat.le_of_ble_eq_true rfl), (Nat.le_of_ble_eq_true rfl)⟩) ⟨zPc.blind, zPre hK (hP.sub [] rfl) (hD.sub [] (by decide) rfl)⟩ rfl rfl hl.1 rfl (lv_room (Nat.le_of_ble_eq_true rfl)) dX11_jar_50 ⟨(Nat.le_of_ble_eq_true rfl), (Nat.le_of_ble_eq_true rfl)⟩) hP hD hS hA [] [0, 1] rfl rfl (by decide) (by decide) (fun r38 u36 H locs hw37 hP hD hS => ?_)
          obtain rfl := hw37
          obtain ⟨hP, hD⟩ := z_re (L := [(n0, .inr (11, .ref a_tape :: .int m_taped :: .int m_laws :: .ref a_sign :: .ref a_length :: .ref a_clause :: .ref a_clauses :: .ref a_chain :: .int m_next :: .int m_wrong :: .int m_number :: .int m_text :: .int m_made :: .int m_deep :: .int m_lines :: .ref a_open :: .int m_opened :: .ref a_stack :: .int m_top :: .ref a_word :: .ref a_said :: .ref a_kept :: [.int m_goNode, .int m_goDrops, .int m_goHour, .int m_goFelt, .int m_goSalt, .int m_goMore, .ref a_stepNode, .ref a_stepDrops, .ref a_stepHour, .ref a_stepNext, .ref a_stepPass, .int m_bestLeft, .int m_bestHour, .int m_bestMany, .ref a_bestPass, .ref a_far, .ref a_waited, .ref a_servers, .ref a_images, .ref a_isMade])), (a_said, .inl (kA 0, 360, .inl saidF))]) hP hD
          refine lv_if_eq (tgt := 69) hx hb dX11_jar_53 (by decide) (fun c_39 => ?_) (fun c_39 => ?_)
          · have hG := zthen hG c_39
            refine lv_iconst (v := (-1)) hx hb dX11_jar_69 (by decide) ?_
            obtain ⟨hP9, hD9⟩ := z_sb (L' := [(n0, .inr (11, .ref a_tape :: .int m_taped :: .int m_laws :: .ref a_sign :: .ref a_length :: .ref a_clause :: .ref a_clauses :: .ref a_chain :: .int m_next :: .int m_wrong :: .int m_number :: .int m_text :: .int m_made :: .int m_deep :: .int m_lines :: .ref a_open :: .int m_opened :: .ref a_stack :: .int m_top :: .ref a_word :: .ref a_said :: .ref a_kept :: [.int m_goNode, .int m_goDrops, .int m_goHour, .int m_goFelt, .int m_goSalt, .int m_goMore, .ref a_stepNode, .ref a_stepDrops, .ref a_stepHour, .ref a_stepNext, .ref a_stepPass, .int m_bestLeft, .int m_bestHour, .int m_bestMany, .ref a_bestPass, .ref a_far, .ref a_waited, .ref a_servers, .ref a_images, .ref a_isMade])), (a_said, .inl (kA 0, 360, .inl saidF))]) hP hD [0, 1] (by decide) rfl
            refine W.widen (k := 0) (n := 0) (Nat.le_of_ble_eq_true rfl) (Nat.le_of_ble_eq_true rfl) ?_
            exact W.iret (v := (-1)) hx hb hr (fun t ht hW => ⟨⟨(-1), (saidF), rfl, ⟨(by have hok : ok_jr p0 p1 p2 p3 p4 zn zj = 0 := (by simp [ok_jr, c_23, c_27, c_31, c_35, c_39]); rw [hok]; rfl), (hG.trans hG0.symm), (by have hok : ok_jr p0 p1 p2 p3 p4 zn zj = 0 := (by simp [ok_jr, c_23, c_27, c_31, c_35, c_39]); rw [hok]; exact hsc)⟩, by rw [ht]; exact hP9, hD9⟩, hS.F ht⟩) hS.2.2 dX11_jar_70
          · have hG := zelse hG c_39
            have c_39a := li_ne (lo := 0) (hi := 7) (by decide) (by decide) c_39
            have c_39b := c_39a.2
            have c_39a := c_39a.1
            refine lv_iload hx hb dX11_jar_56 (lv_at hl 5 rfl) ?_
            refine lv_i2l hx hb dX11_jar_58 rfl ?_
            refine lv_lconst (v := 0) hx hb dX11_jar_59 (by decide) ?_
            refine lv_ldc2 hx hb hown (kX11_jar_4 hts) dX11_jar_60 ?_
            refine z_i (wr := [(n0, .inr (11, .ref a_tape :: .int m_taped :: .int m_laws :: .ref a_sign :: .ref a_length :: .ref a_clause :: .ref a_clauses :: .ref a_chain :: .int m_next :: .int m_wrong :: .int m_number :: .int m_text :: .int m_made :: .int m_deep :: .int m_lines :: .ref a_open :: .int m_opened :: .ref a_stack :: .int m_top :: .ref a_word :: .ref a_said :: .ref a_kept :: [.int m_goNode, .int m_goDrops, .int m_goHour, .int m_goFelt, .int m_goSalt, .int m_goMore, .ref a_stepNode, .ref a_stepDrops, .ref a_stepHour, .ref a_stepNext, .ref a_stepPass, .int m_bestLeft, .int m_bestHour, .int m_bestMany, .ref a_bestPass, .ref a_far, .ref a_waited, .ref a_servers, .ref a_images, .ref a_isMade])), (a_said, .inl (kA 0, 360, .inl saidF))]) (va_runS (As := [.long p4.toInt64, .long 0, .long 15]) (rest := []) ⟨hx, hb, hml, hown, hts⟩ (mX11_in l dC dI kA _ p4.toInt64 0 15) (va_cwS 3 hts gX11_jar_X11_in rfl rfl rfl hdX11_in ⟨(Nat.le_of_ble_eq_true rfl), (Nat.le_of_ble_eq_true rfl)⟩) ⟨zPc.blind, zPre hK (hP.sub [] rfl) (hD.sub [] (by decide) rfl)⟩ rfl rfl hl.1 rfl (lv_room (Nat.le_of_ble_eq_true rfl)) dX11_jar_63 ⟨(Nat.le_of_ble_eq_true rfl), (Nat.le_of_ble_eq_true rfl)⟩) hP hD hS hA [] [0, 1] rfl rfl (by decide) (by decide) (fun r42 u40 H locs hw41 hP hD hS => ?_)
            obtain rfl := hw41
            obtain ⟨hP, hD⟩ := z_re (L := [(n0, .inr (11, .ref a_tape :: .int m_taped :: .int m_laws :: .ref a_sign :: .ref a_length :: .ref a_clause :: .ref a_clauses :: .ref a_chain :: .int m_next :: .int m_wrong :: .int m_number :: .int m_text :: .int m_made :: .int m_deep :: .int m_lines :: .ref a_open :: .int m_opened :: .ref a_stack :: .int m_top :: .ref a_word :: .ref a_said :: .ref a_kept :: [.int m_goNode, .int m_goDrops, .int m_goHour, .int m_goFelt, .int m_goSalt, .int m_goMore, .ref a_stepNode, .ref a_stepDrops, .ref a_stepHour, .ref a_stepNext, .ref a_stepPass, .int m_bestLeft, .int m_bestHour, .int m_bestMany, .ref a_bestPass, .ref a_far, .ref a_waited, .ref a_servers, .ref a_images, .ref a_isMade])), (a_said, .inl (kA 0, 360, .inl saidF))]) hP hD
            refine lv_if_ne (tgt := 71) hx hb dX11_jar_66 (by decide) (fun c_43 => ?_) (fun c_43 => ?_)
            · have hG := zelse hG c_43
              have c_43a := li_ne (lo := 0) (hi := 15) (by decide) (by decide) c_43
              have c_43b := c_43a.2
              have c_43a := c_43a.1
              refine lv_sipush (v := 168) hx hb dX11_jar_71 (by decide) ?_
              refine lv_bipush (v := 9) hx hb dX11_jar_74 (by decide) ?_
              refine lv_aload_n hx hb dX11_jar_76 rfl (lv_at hl 0 rfl) ?_
              refine va_get (D := (dC, dI)) (ci := 11) (v := .ref a_said) (C := RX11) (T := TX11) (N := 42) hx hb hts iX11_jar_X11 hown hK.1 hP 0 gz0 vcz11 20 (by decide) (kX11_jar_1 hts) (fun _ h9 => h9) gz20 dX11_jar_77 ?_
              refine lv_iconst (v := 2) hx hb dX11_jar_80 (by decide) ?_
              refine va_iald hx hb hK.1 hP 1 0 gz1 tzz0 (vpd (by decide)) dX11_jar_81 ?_
              refine zi zj hz3 ?_
              refine lv_imul hx hb dX11_jar_82 ?_
              refine lv_iadd hx hb dX11_jar_83 ?_
              refine lv_topi (fun x44 ex44 => ?_)
              have hG := zbnd hG ex44
              refine lv_istore (lv' := [(6, .int x44), (0, .ref n0), (1, .int p0), (2, .int p1), (3, .int p2), (4, .int p3), (5, .int p4)]) hx hb dX11_jar_84 hl (by decide) rfl (fun ls hl => ?_)
              refine lv_aload_n hx hb dX11_jar_86 rfl (lv_at hl 1 rfl) ?_
              refine va_get (D := (dC, dI)) (ci := 11) (v := .ref a_said) (C := RX11) (T := TX11) (N := 42) hx hb hts iX11_jar_X11 hown hK.1 hP 0 gz0 vcz11 20 (by decide) (kX11_jar_1 hts) (fun _ h9 => h9) gz20 dX11_jar_87 ?_
              refine lv_iload hx hb dX11_jar_90 (lv_at hl 0 rfl) ?_
              refine lv_iload_n hx hb dX11_jar_92 rfl (lv_at hl 3 rfl) ?_
              refine va_iast hx hb hK.1 hP hD hS 1 0 gz1 tzz0 (vp_g (N := 360) (by decide) (gl_mX11_jar_0 zj x44 hz13 hz14 c_23 ex44)) dX11_jar_93 (fun H locs hP hD hS => ?_)
              obtain ⟨hP, hD⟩ := z_re (L := [(n0, .inr (11, .ref a_tape :: .int m_taped :: .int m_laws :: .ref a_sign :: .ref a_length :: .ref a_clause :: .ref a_clauses :: .ref a_chain :: .int m_next :: .int m_wrong :: .int m_number :: .int m_text :: .int m_made :: .int m_deep :: .int m_lines :: .ref a_open :: .int m_opened :: .ref a_stack :: .int m_top :: .ref a_word :: .ref a_said :: .ref a_kept :: [.int m_goNode, .int m_goDrops, .int m_goHour, .int m_goFelt, .int m_goSalt, .int m_goMore, .ref a_stepNode, .ref a_stepDrops, .ref a_stepHour, .ref a_stepNext, .ref a_stepPass, .int m_bestLeft, .int m_bestHour, .int m_bestMany, .ref a_bestPass, .ref a_far, .ref a_waited, .ref a_servers, .ref a_images, .ref a_isMade])), (a_said, .inl (kA 0, 360, .inl (upd saidF x44.toNatClampNeg p1)))]) hP hD
              obtain ⟨f45, ef45⟩ : ∃ y : Nat → Int32, y = (upd saidF x44.toNatClampNeg p1) := ⟨_, rfl⟩
              rw [← ef45] at hP hD
              have hG := zbnd hG ef45
              have hu46 := upd_at ef45
              have hk47 : SC f45 zn zp zj zo zf zm zk zw pd := by rw [ef45]; exact SC_jf (k := 0) hsc hz13 (gl_mX11_jar_1 zj hz13 hz14 c_23) (gl_mX11_jar_2 zj x44 hz13 hz14 c_23 ex44) (by decide)
              have hz48 : f45 0 = zn := hk47.1.1
              have hz49 : f45 1 = zp := hk47.1.2.1
              have hz50 : f45 2 = zj := hk47.1.2.2.1
              have hz51 : f45 3 = zo := hk47.1.2.2.2.1
              have hz52 : f45 4 = zf := hk47.1.2.2.2.2.1
              have hz53 : f45 6 = zm := hk47.1.2.2.2.2.2.1
              have hz54 : f45 8 = zk := hk47.1.2.2.2.2.2.2.1
              have hz55 : f45 9 = zw := hk47.1.2.2.2.2.2.2.2
              refine lv_aload_n hx hb dX11_jar_94 rfl (lv_at hl 1 rfl) ?_
              refine va_get (D := (dC, dI)) (ci := 11) (v := .ref a_said) (C := RX11) (T := TX11) (N := 42) hx hb hts iX11_jar_X11 hown hK.1 hP 0 gz0 vcz11 20 (by decide) (kX11_jar_1 hts) (fun _ h9 => h9) gz20 dX11_jar_95 ?_
              refine lv_iload hx hb dX11_jar_98 (lv_at hl 0 rfl) ?_
              refine lv_iconst (v := 1) hx hb dX11_jar_100 (by decide) ?_
              refine lv_iadd hx hb dX11_jar_101 ?_
              refine lv_iload_n hx hb dX11_jar_102 rfl (lv_at hl 4 rfl) ?_
              refine va_iast hx hb hK.1 hP hD hS 1 0 gz1 tzz0 (vp_g (N := 360) (by decide) (gl_mX11_jar_3 zj x44 hz13 hz14 c_23 ex44)) dX11_jar_103 (fun H locs hP hD hS => ?_)
              obtain ⟨hP, hD⟩ := z_re (L := [(n0, .inr (11, .ref a_tape :: .int m_taped :: .int m_laws :: .ref a_sign :: .ref a_length :: .ref a_clause :: .ref a_clauses :: .ref a_chain :: .int m_next :: .int m_wrong :: .int m_number :: .int m_text :: .int m_made :: .int m_deep :: .int m_lines :: .ref a_open :: .int m_opened :: .ref a_stack :: .int m_top :: .ref a_word :: .ref a_said :: .ref a_kept :: [.int m_goNode, .int m_goDrops, .int m_goHour, .int m_goFelt, .int m_goSalt, .int m_goMore, .ref a_stepNode, .ref a_stepDrops, .ref a_stepHour, .ref a_stepNext, .ref a_stepPass, .int m_bestLeft, .int m_bestHour, .int m_bestMany, .ref a_bestPass, .ref a_far, .ref a_waited, .ref a_servers, .ref a_images, .ref a_isMade])), (a_said, .inl (kA 0, 360, .inl (upd f45 (x44 + 1).toNatClampNeg p2)))]) hP hD
              obtain ⟨f56, ef56⟩ : ∃ y : Nat → Int32, y = (upd f45 (x44 + 1).toNatClampNeg p2) := ⟨_, rfl⟩
              rw [← ef56] at hP hD
              have hG := zbnd hG ef56
              have hu57 := upd_at ef56
              have hk58 : SC f56 zn zp zj zo zf zm zk zw pd := by rw [ef56]; exact SC_jf (k := 1) hk47 hz13 (gl_mX11_jar_1 zj hz13 hz14 c_23) (gl_mX11_jar_4 zj x44 hz13 hz14 c_23 ex44) (by decide)
              have hz59 : f56 0 = zn := hk58.1.1
              have hz60 : f56 1 = zp := hk58.1.2.1
              have hz61 : f56 2 = zj := hk58.1.2.2.1
              have hz62 : f56 3 = zo := hk58.1.2.2.2.1
              have hz63 : f56 4 = zf := hk58.1.2.2.2.2.1
              have hz64 : f56 6 = zm := hk58.1.2.2.2.2.2.1
              have hz65 : f56 8 = zk := hk58.1.2.2.2.2.2.2.1
              have hz66 : f56 9 = zw := hk58.1.2.2.2.2.2.2.2
              refine lv_aload_n hx hb dX11_jar_104 rfl (lv_at hl 1 rfl) ?_
              refine va_get (D := (dC, dI)) (ci := 11) (v := .ref a_said) (C := RX11) (T := TX11) (N := 42) hx hb hts iX11_jar_X11 hown hK.1 hP 0 gz0 vcz11 20 (by decide) (kX11_jar_1 hts) (fun _ h9 => h9) gz20 dX11_jar_105 ?_
              refine lv_iload hx hb dX11_jar_108 (lv_at hl 0 rfl) ?_
              refine lv_iconst (v := 2) hx hb dX11_jar_110 (by decide) ?_
              refine lv_iadd hx hb dX11_jar_111 ?_
              refine lv_iload hx hb dX11_jar_112 (lv_at hl 5 rfl) ?_
              refine va_iast hx hb hK.1 hP hD hS 1 0 gz1 tzz0 (vp_g (N := 360) (by decide) (gl_mX11_jar_5 zj x44 hz13 hz14 c_23 ex44)) dX11_jar_114 (fun H locs hP hD hS => ?_)
              obtain ⟨hP, hD⟩ := z_re (L := [(n0, .inr (11, .ref a_tape :: .int m_taped :: .int m_laws :: .ref a_sign :: .ref a_length :: .ref a_clause :: .ref a_clauses :: .ref a_chain :: .int m_next :: .int m_wrong :: .int m_number :: .int m_text :: .int m_made :: .int m_deep :: .int m_lines :: .ref a_open :: .int m_opened :: .ref a_stack :: .int m_top :: .ref a_word :: .ref a_said :: .ref a_kept :: [.int m_goNode, .int m_goDrops, .int m_goHour, .int m_goFelt, .int m_goSalt, .int m_goMore, .ref a_stepNode, .ref a_stepDrops, .ref a_stepHour, .ref a_stepNext, .ref a_stepPass, .int m_bestLeft, .int m_bestHour, .int m_bestMany, .ref a_bestPass, .ref a_far, .ref a_waited, .ref a_servers, .ref a_images, .ref a_isMade])), (a_said, .inl (kA 0, 360, .inl (upd f56 (x44 + 2).toNatClampNeg p3)))]) hP hD
              obtain ⟨f67, ef67⟩ : ∃ y : Nat → Int32, y = (upd f56 (x44 + 2).toNatClampNeg p3) := ⟨_, rfl⟩
              rw [← ef67] at hP hD
              have hG := zbnd hG ef67
              have hu68 := upd_at ef67
              have hk69 : SC f67 zn zp zj zo zf zm zk zw pd := by rw [ef67]; exact SC_jf (k := 2) hk58 hz13 (gl_mX11_jar_1 zj hz13 hz14 c_23) (gl_mX11_jar_6 zj x44 hz13 hz14 c_23 ex44) (by decide)
              have hz70 : f67 0 = zn := hk69.1.1
              have hz71 : f67 1 = zp := hk69.1.2.1
              have hz72 : f67 2 = zj := hk69.1.2.2.1
              have hz73 : f67 3 = zo := hk69.1.2.2.2.1
              have hz74 : f67 4 = zf := hk69.1.2.2.2.2.1
              have hz75 : f67 6 = zm := hk69.1.2.2.2.2.2.1
              have hz76 : f67 8 = zk := hk69.1.2.2.2.2.2.2.1
              have hz77 : f67 9 = zw := hk69.1.2.2.2.2.2.2.2
              refine lv_aload_n hx hb dX11_jar_115 rfl (lv_at hl 1 rfl) ?_
              refine va_get (D := (dC, dI)) (ci := 11) (v := .ref a_said) (C := RX11) (T := TX11) (N := 42) hx hb hts iX11_jar_X11 hown hK.1 hP 0 gz0 vcz11 20 (by decide) (kX11_jar_1 hts) (fun _ h9 => h9) gz20 dX11_jar_116 ?_
              refine lv_iload hx hb dX11_jar_119 (lv_at hl 0 rfl) ?_
              refine lv_iconst (v := 3) hx hb dX11_jar_121 (by decide) ?_
              refine lv_iadd hx hb dX11_jar_122 ?_
              refine lv_iload hx hb dX11_jar_123 (lv_at hl 6 rfl) ?_
              refine va_iast hx hb hK.1 hP hD hS 1 0 gz1 tzz0 (vp_g (N := 360) (by decide) (gl_mX11_jar_7 zj x44 hz13 hz14 c_23 ex44)) dX11_jar_125 (fun H locs hP hD hS => ?_)
              obtain ⟨hP, hD⟩ := z_re (L := [(n0, .inr (11, .ref a_tape :: .int m_taped :: .int m_laws :: .ref a_sign :: .ref a_length :: .ref a_clause :: .ref a_clauses :: .ref a_chain :: .int m_next :: .int m_wrong :: .int m_number :: .int m_text :: .int m_made :: .int m_deep :: .int m_lines :: .ref a_open :: .int m_opened :: .ref a_stack :: .int m_top :: .ref a_word :: .ref a_said :: .ref a_kept :: [.int m_goNode, .int m_goDrops, .int m_goHour, .int m_goFelt, .int m_goSalt, .int m_goMore, .ref a_stepNode, .ref a_stepDrops, .ref a_stepHour, .ref a_stepNext, .ref a_stepPass, .int m_bestLeft, .int m_bestHour, .int m_bestMany, .ref a_bestPass, .ref a_far, .ref a_waited, .ref a_servers, .ref a_images, .ref a_isMade])), (a_said, .inl (kA 0, 360, .inl (upd f67 (x44 + 3).toNatClampNeg p4)))]) hP hD
              obtain ⟨f78, ef78⟩ : ∃ y : Nat → Int32, y = (upd f67 (x44 + 3).toNatClampNeg p4) := ⟨_, rfl⟩
              rw [← ef78] at hP hD
              have hG := zbnd hG ef78
              have hu79 := upd_at ef78
              have hk80 : SC f78 zn zp zj zo zf zm zk zw pd := by rw [ef78]; exact SC_jq hk69 hz13 (gl_mX11_jar_1 zj hz13 hz14 c_23) (gl_mX11_jar_8 zj x44 hz13 hz14 c_23 ex44) c_43b
              have hz81 : f78 0 = zn := hk80.1.1
              have hz82 : f78 1 = zp := hk80.1.2.1
              have hz83 : f78 2 = zj := hk80.1.2.2.1
              have hz84 : f78 3 = zo := hk80.1.2.2.2.1
              have hz85 : f78 4 = zf := hk80.1.2.2.2.2.1
              have hz86 : f78 6 = zm := hk80.1.2.2.2.2.2.1
              have hz87 : f78 8 = zk := hk80.1.2.2.2.2.2.2.1
              have hz88 : f78 9 = zw := hk80.1.2.2.2.2.2.2.2
              refine lv_aload_n hx hb dX11_jar_126 rfl (lv_at hl 1 rfl) ?_
              refine va_get (D := (dC, dI)) (ci := 11) (v := .ref a_said) (C := RX11) (T := TX11) (N := 42) hx hb hts iX11_jar_X11 hown hK.1 hP 0 gz0 vcz11 20 (by decide) (kX11_jar_1 hts) (fun _ h9 => h9) gz20 dX11_jar_127 ?_
              refine lv_iload hx hb dX11_jar_130 (lv_at hl 0 rfl) ?_
              refine lv_iconst (v := 4) hx hb dX11_jar_132 (by decide) ?_
              refine lv_iadd hx hb dX11_jar_133 ?_
              refine lv_iconst (v := 0) hx hb dX11_jar_134 (by decide) ?_
              refine va_iast hx hb hK.1 hP hD hS 1 0 gz1 tzz0 (vp_g (N := 360) (by decide) (gl_mX11_jar_9 zj x44 hz13 hz14 c_23 ex44)) dX11_jar_135 (fun H locs hP hD hS => ?_)
              obtain ⟨hP, hD⟩ := z_re (L := [(n0, .inr (11, .ref a_tape :: .int m_taped :: .int m_laws :: .ref a_sign :: .ref a_length :: .ref a_clause :: .ref a_clauses :: .ref a_chain :: .int m_next :: .int m_wrong :: .int m_number :: .int m_text :: .int m_made :: .int m_deep :: .int m_lines :: .ref a_open :: .int m_opened :: .ref a_stack :: .int m_top :: .ref a_word :: .ref a_said :: .ref a_kept :: [.int m_goNode, .int m_goDrops, .int m_goHour, .int m_goFelt, .int m_goSalt, .int m_goMore, .ref a_stepNode, .ref a_stepDrops, .ref a_stepHour, .ref a_stepNext, .ref a_stepPass, .int m_bestLeft, .int m_bestHour, .int m_bestMany, .ref a_bestPass, .ref a_far, .ref a_waited, .ref a_servers, .ref a_images, .ref a_isMade])), (a_said, .inl (kA 0, 360, .inl (upd f78 (x44 + 4).toNatClampNeg 0)))]) hP hD
              obtain ⟨f89, ef89⟩ : ∃ y : Nat → Int32, y = (upd f78 (x44 + 4).toNatClampNeg 0) := ⟨_, rfl⟩
              rw [← ef89] at hP hD
              have hG := zbnd hG ef89
              have hu90 := upd_at ef89
              have hk91 : SC f89 zn zp zj zo zf zm zk zw pd := by rw [ef89]; exact SC_jf (k := 4) hk80 hz13 (gl_mX11_jar_1 zj hz13 hz14 c_23) (gl_mX11_jar_10 zj x44 hz13 hz14 c_23 ex44) (by decide)
              have hz92 : f89 0 = zn := hk91.1.1
              have hz93 : f89 1 = zp := hk91.1.2.1
              have hz94 : f89 2 = zj := hk91.1.2.2.1
              have hz95 : f89 3 = zo := hk91.1.2.2.2.1
              have hz96 : f89 4 = zf := hk91.1.2.2.2.2.1
              have hz97 : f89 6 = zm := hk91.1.2.2.2.2.2.1
              have hz98 : f89 8 = zk := hk91.1.2.2.2.2.2.2.1
              have hz99 : f89 9 = zw := hk91.1.2.2.2.2.2.2.2
              refine lv_aload_n hx hb dX11_jar_136 rfl (lv_at hl 1 rfl) ?_
              refine va_get (D := (dC, dI)) (ci := 11) (v := .ref a_said) (C := RX11) (T := TX11) (N := 42) hx hb hts iX11_jar_X11 hown hK.1 hP 0 gz0 vcz11 20 (by decide) (kX11_jar_1 hts) (fun _ h9 => h9) gz20 dX11_jar_137 ?_
              refine lv_iload hx hb dX11_jar_140 (lv_at hl 0 rfl) ?_
              refine lv_iconst (v := 5) hx hb dX11_jar_142 (by decide) ?_
              refine lv_iadd hx hb dX11_jar_143 ?_
              refine lv_iload_n hx hb dX11_jar_144 rfl (lv_at hl 2 rfl) ?_
              refine va_iast hx hb hK.1 hP hD hS 1 0 gz1 tzz0 (vp_g (N := 360) (by decide) (gl_mX11_jar_11 zj x44 hz13 hz14 c_23 ex44)) dX11_jar_145 (fun H locs hP hD hS => ?_)
              obtain ⟨hP, hD⟩ := z_re (L := [(n0, .inr (11, .ref a_tape :: .int m_taped :: .int m_laws :: .ref a_sign :: .ref a_length :: .ref a_clause :: .ref a_clauses :: .ref a_chain :: .int m_next :: .int m_wrong :: .int m_number :: .int m_text :: .int m_made :: .int m_deep :: .int m_lines :: .ref a_open :: .int m_opened :: .ref a_stack :: .int m_top :: .ref a_word :: .ref a_said :: .ref a_kept :: [.int m_goNode, .int m_goDrops, .int m_goHour, .int m_goFelt, .int m_goSalt, .int m_goMore, .ref a_stepNode, .ref a_stepDrops, .ref a_stepHour, .ref a_stepNext, .ref a_stepPass, .int m_bestLeft, .int m_bestHour, .int m_bestMany, .ref a_bestPass, .ref a_far, .ref a_waited, .ref a_servers, .ref a_images, .ref a_isMade])), (a_said, .inl (kA 0, 360, .inl (upd f89 (x44 + 5).toNatClampNeg p0)))]) hP hD
              obtain ⟨f100, ef100⟩ : ∃ y : Nat → Int32, y = (upd f89 (x44 + 5).toNatClampNeg p0) := ⟨_, rfl⟩
              rw [← ef100] at hP hD
              have hG := zbnd hG ef100
              have hu101 := upd_at ef100
              have hk102 : SC f100 zn zp zj zo zf zm zk zw pd := by rw [ef100]; exact SC_jw hk91 hz13 (gl_mX11_jar_1 zj hz13 hz14 c_23) (gl_mX11_jar_12 zj x44 hz13 hz14 c_23 ex44) (gl_mX11_jar_13 zn p0 hz9 hz10 c_27a c_27b)
              have hz103 : f100 0 = zn := hk102.1.1
              have hz104 : f100 1 = zp := hk102.1.2.1
              have hz105 : f100 2 = zj := hk102.1.2.2.1
              have hz106 : f100 3 = zo := hk102.1.2.2.2.1
              have hz107 : f100 4 = zf := hk102.1.2.2.2.2.1
              have hz108 : f100 6 = zm := hk102.1.2.2.2.2.2.1
              have hz109 : f100 8 = zk := hk102.1.2.2.2.2.2.2.1
              have hz110 : f100 9 = zw := hk102.1.2.2.2.2.2.2.2
              refine lv_aload_n hx hb dX11_jar_146 rfl (lv_at hl 1 rfl) ?_
              refine va_get (D := (dC, dI)) (ci := 11) (v := .ref a_said) (C := RX11) (T := TX11) (N := 42) hx hb hts iX11_jar_X11 hown hK.1 hP 0 gz0 vcz11 20 (by decide) (kX11_jar_1 hts) (fun _ h9 => h9) gz20 dX11_jar_147 ?_
              refine lv_iload hx hb dX11_jar_150 (lv_at hl 0 rfl) ?_
              refine lv_bipush (v := 6) hx hb dX11_jar_152 (by decide) ?_
              refine lv_iadd hx hb dX11_jar_154 ?_
              refine lv_iconst (v := (-1)) hx hb dX11_jar_155 (by decide) ?_
              refine va_iast hx hb hK.1 hP hD hS 1 0 gz1 tzz0 (vp_g (N := 360) (by decide) (gl_mX11_jar_14 zj x44 hz13 hz14 c_23 ex44)) dX11_jar_156 (fun H locs hP hD hS => ?_)
              obtain ⟨hP, hD⟩ := z_re (L := [(n0, .inr (11, .ref a_tape :: .int m_taped :: .int m_laws :: .ref a_sign :: .ref a_length :: .ref a_clause :: .ref a_clauses :: .ref a_chain :: .int m_next :: .int m_wrong :: .int m_number :: .int m_text :: .int m_made :: .int m_deep :: .int m_lines :: .ref a_open :: .int m_opened :: .ref a_stack :: .int m_top :: .ref a_word :: .ref a_said :: .ref a_kept :: [.int m_goNode, .int m_goDrops, .int m_goHour, .int m_goFelt, .int m_goSalt, .int m_goMore, .ref a_stepNode, .ref a_stepDrops, .ref a_stepHour, .ref a_stepNext, .ref a_stepPass, .int m_bestLeft, .int m_bestHour, .int m_bestMany, .ref a_bestPass, .ref a_far, .ref a_waited, .ref a_servers, .ref a_images, .ref a_isMade])), (a_said, .inl (kA 0, 360, .inl (upd f100 (x44 + 6).toNatClampNeg (-1))))]) hP hD
              obtain ⟨f111, ef111⟩ : ∃ y : Nat → Int32, y = (upd f100 (x44 + 6).toNatClampNeg (-1)) := ⟨_, rfl⟩
              rw [← ef111] at hP hD
              have hG := zbnd hG ef111
              have hu112 := upd_at ef111
              have hk113 : SC f111 zn zp zj zo zf zm zk zw pd := by rw [ef111]; exact SC_jx (k := 6) (w := (x44 + 5)) (x := p0) hk102 hz13 (gl_mX11_jar_1 zj hz13 hz14 c_23) (gl_mX11_jar_15 zj x44 hz13 hz14 c_23 ex44) (by decide) (gl_mX11_jar_12 zj x44 hz13 hz14 c_23 ex44) hu101 (gl_mX11_jar_16 zn p0 hz9 hz10 c_27a c_27b)
              have hz114 : f111 0 = zn := hk113.1.1
              have hz115 : f111 1 = zp := hk113.1.2.1
              have hz116 : f111 2 = zj := hk113.1.2.2.1
              have hz117 : f111 3 = zo := hk113.1.2.2.2.1
              have hz118 : f111 4 = zf := hk113.1.2.2.2.2.1
              have hz119 : f111 6 = zm := hk113.1.2.2.2.2.2.1
              have hz120 : f111 8 = zk := hk113.1.2.2.2.2.2.2.1
              have hz121 : f111 9 = zw := hk113.1.2.2.2.2.2.2.2
              have hv122 : f111 (x44 + 5).toNatClampNeg = p0 := by rw [ef111, upd_ne (zc_ne (gl_mX11_jar_17 zj x44 hz13 hz14 c_23 ex44))]; exact hu101
              refine lv_aload_n hx hb dX11_jar_157 rfl (lv_at hl 1 rfl) ?_
              refine va_get (D := (dC, dI)) (ci := 11) (v := .ref a_said) (C := RX11) (T := TX11) (N := 42) hx hb hts iX11_jar_X11 hown hK.1 hP 0 gz0 vcz11 20 (by decide) (kX11_jar_1 hts) (fun _ h9 => h9) gz20 dX11_jar_158 ?_
              refine lv_iload hx hb dX11_jar_161 (lv_at hl 0 rfl) ?_
              refine lv_bipush (v := 7) hx hb dX11_jar_163 (by decide) ?_
              refine lv_iadd hx hb dX11_jar_165 ?_
              refine lv_iconst (v := 0) hx hb dX11_jar_166 (by decide) ?_
              refine va_iast hx hb hK.1 hP hD hS 1 0 gz1 tzz0 (vp_g (N := 360) (by decide) (gl_mX11_jar_18 zj x44 hz13 hz14 c_23 ex44)) dX11_jar_167 (fun H locs hP hD hS => ?_)
              obtain ⟨hP, hD⟩ := z_re (L := [(n0, .inr (11, .ref a_tape :: .int m_taped :: .int m_laws :: .ref a_sign :: .ref a_length :: .ref a_clause :: .ref a_clauses :: .ref a_chain :: .int m_next :: .int m_wrong :: .int m_number :: .int m_text :: .int m_made :: .int m_deep :: .int m_lines :: .ref a_open :: .int m_opened :: .ref a_stack :: .int m_top :: .ref a_word :: .ref a_said :: .ref a_kept :: [.int m_goNode, .int m_goDrops, .int m_goHour, .int m_goFelt, .int m_goSalt, .int m_goMore, .ref a_stepNode, .ref a_stepDrops, .ref a_stepHour, .ref a_stepNext, .ref a_stepPass, .int m_bestLeft, .int m_bestHour, .int m_bestMany, .ref a_bestPass, .ref a_far, .ref a_waited, .ref a_servers, .ref a_images, .ref a_isMade])), (a_said, .inl (kA 0, 360, .inl (upd f111 (x44 + 7).toNatClampNeg 0)))]) hP hD
              obtain ⟨f123, ef123⟩ : ∃ y : Nat → Int32, y = (upd f111 (x44 + 7).toNatClampNeg 0) := ⟨_, rfl⟩
              rw [← ef123] at hP hD
              have hG := zbnd hG ef123
              have hu124 := upd_at ef123
              have hk125 : SC f123 zn zp zj zo zf zm zk zw pd := by rw [ef123]; exact SC_jf (k := 7) hk113 hz13 (gl_mX11_jar_1 zj hz13 hz14 c_23) (gl_mX11_jar_19 zj x44 hz13 hz14 c_23 ex44) (by decide)
              have hz126 : f123 0 = zn := hk125.1.1
              have hz127 : f123 1 = zp := hk125.1.2.1
              have hz128 : f123 2 = zj := hk125.1.2.2.1
              have hz129 : f123 3 = zo := hk125.1.2.2.2.1
              have hz130 : f123 4 = zf := hk125.1.2.2.2.2.1
              have hz131 : f123 6 = zm := hk125.1.2.2.2.2.2.1
              have hz132 : f123 8 = zk := hk125.1.2.2.2.2.2.2.1
              have hz133 : f123 9 = zw := hk125.1.2.2.2.2.2.2.2
              have hv134 : f123 (x44 + 5).toNatClampNeg = p0 := by rw [ef123, upd_ne (zc_ne (gl_mX11_jar_20 zj x44 hz13 hz14 c_23 ex44))]; exact hv122
              refine lv_aload_n hx hb dX11_jar_168 rfl (lv_at hl 1 rfl) ?_
              refine va_get (D := (dC, dI)) (ci := 11) (v := .ref a_said) (C := RX11) (T := TX11) (N := 42) hx hb hts iX11_jar_X11 hown hK.1 hP 0 gz0 vcz11 20 (by decide) (kX11_jar_1 hts) (fun _ h9 => h9) gz20 dX11_jar_169 ?_
              refine lv_iload hx hb dX11_jar_172 (lv_at hl 0 rfl) ?_
              refine lv_bipush (v := 8) hx hb dX11_jar_174 (by decide) ?_
              refine lv_iadd hx hb dX11_jar_176 ?_
              refine lv_iconst (v := (-1)) hx hb dX11_jar_177 (by decide) ?_
              refine va_iast hx hb hK.1 hP hD hS 1 0 gz1 tzz0 (vp_g (N := 360) (by decide) (gl_mX11_jar_21 zj x44 hz13 hz14 c_23 ex44)) dX11_jar_178 (fun H locs hP hD hS => ?_)
              obtain ⟨hP, hD⟩ := z_re (L := [(n0, .inr (11, .ref a_tape :: .int m_taped :: .int m_laws :: .ref a_sign :: .ref a_length :: .ref a_clause :: .ref a_clauses :: .ref a_chain :: .int m_next :: .int m_wrong :: .int m_number :: .int m_text :: .int m_made :: .int m_deep :: .int m_lines :: .ref a_open :: .int m_opened :: .ref a_stack :: .int m_top :: .ref a_word :: .ref a_said :: .ref a_kept :: [.int m_goNode, .int m_goDrops, .int m_goHour, .int m_goFelt, .int m_goSalt, .int m_goMore, .ref a_stepNode, .ref a_stepDrops, .ref a_stepHour, .ref a_stepNext, .ref a_stepPass, .int m_bestLeft, .int m_bestHour, .int m_bestMany, .ref a_bestPass, .ref a_far, .ref a_waited, .ref a_servers, .ref a_images, .ref a_isMade])), (a_said, .inl (kA 0, 360, .inl (upd f123 (x44 + 8).toNatClampNeg (-1))))]) hP hD
              obtain ⟨f135, ef135⟩ : ∃ y : Nat → Int32, y = (upd f123 (x44 + 8).toNatClampNeg (-1)) := ⟨_, rfl⟩
              rw [← ef135] at hP hD
              have hG := zbnd hG ef135
              have hu136 := upd_at ef135
              have hk137 : SC f135 zn zp zj zo zf zm zk zw pd := by rw [ef135]; exact SC_jx (k := 8) (w := (x44 + 5)) (x := p0) hk125 hz13 (gl_mX11_jar_1 zj hz13 hz14 c_23) (gl_mX11_jar_22 zj x44 hz13 hz14 c_23 ex44) (by decide) (gl_mX11_jar_12 zj x44 hz13 hz14 c_23 ex44) hv134 (gl_mX11_jar_16 zn p0 hz9 hz10 c_27a c_27b)
              have hz138 : f135 0 = zn := hk137.1.1
              have hz139 : f135 1 = zp := hk137.1.2.1
              have hz140 : f135 2 = zj := hk137.1.2.2.1
              have hz141 : f135 3 = zo := hk137.1.2.2.2.1
              have hz142 : f135 4 = zf := hk137.1.2.2.2.2.1
              have hz143 : f135 6 = zm := hk137.1.2.2.2.2.2.1
              have hz144 : f135 8 = zk := hk137.1.2.2.2.2.2.2.1
              have hz145 : f135 9 = zw := hk137.1.2.2.2.2.2.2.2
              have hv146 : f135 (x44 + 5).toNatClampNeg = p0 := by rw [ef135, upd_ne (zc_ne (gl_mX11_jar_23 zj x44 hz13 hz14 c_23 ex44))]; exact hv134
              refine lv_aload_n hx hb dX11_jar_179 rfl (lv_at hl 1 rfl) ?_
              refine va_get (D := (dC, dI)) (ci := 11) (v := .ref a_said) (C := RX11) (T := TX11) (N := 42) hx hb hts iX11_jar_X11 hown hK.1 hP 0 gz0 vcz11 20 (by decide) (kX11_jar_1 hts) (fun _ h9 => h9) gz20 dX11_jar_180 ?_
              refine lv_iconst (v := 2) hx hb dX11_jar_183 (by decide) ?_
              refine lv_dup2_11 hx hb dX11_jar_184 rfl rfl ?_
              refine va_iald hx hb hK.1 hP 1 0 gz1 tzz0 (vpd (by decide)) dX11_jar_185 ?_
              refine zi zj hz140 ?_
              refine lv_iconst (v := 1) hx hb dX11_jar_186 (by decide) ?_
              refine lv_iadd hx hb dX11_jar_187 ?_
              refine va_iast hx hb hK.1 hP hD hS 1 0 gz1 tzz0 (vpd (by decide)) dX11_jar_188 (fun H locs hP hD hS => ?_)
              obtain ⟨hP, hD⟩ := z_re (L := [(n0, .inr (11, .ref a_tape :: .int m_taped :: .int m_laws :: .ref a_sign :: .ref a_length :: .ref a_clause :: .ref a_clauses :: .ref a_chain :: .int m_next :: .int m_wrong :: .int m_number :: .int m_text :: .int m_made :: .int m_deep :: .int m_lines :: .ref a_open :: .int m_opened :: .ref a_stack :: .int m_top :: .ref a_word :: .ref a_said :: .ref a_kept :: [.int m_goNode, .int m_goDrops, .int m_goHour, .int m_goFelt, .int m_goSalt, .int m_goMore, .ref a_stepNode, .ref a_stepDrops, .ref a_stepHour, .ref a_stepNext, .ref a_stepPass, .int m_bestLeft, .int m_bestHour, .int m_bestMany, .ref a_bestPass, .ref a_far, .ref a_waited, .ref a_servers, .ref a_images, .ref a_isMade])), (a_said, .inl (kA 0, 360, .inl (upd f135 (2 : Int32).toNatClampNeg (zj + 1))))]) hP hD
              obtain ⟨f147, ef147⟩ : ∃ y : Nat → Int32, y = (upd f135 (2 : Int32).toNatClampNeg (zj + 1)) := ⟨_, rfl⟩
              rw [← ef147] at hP hD
              have hG := zbnd hG ef147
              have hu148 : f147 2 = (zj + 1) := upd_at ef147
              have hk149 : SC f147 zn zp (zj + 1) zo zf zm zk zw pd := by rw [ef147]; exact SC_zj hk137 c_23 rfl
              have hz150 : f147 0 = zn := hk149.1.1
              have hz151 : f147 1 = zp := hk149.1.2.1
              have hz152 : f147 3 = zo := hk149.1.2.2.2.1
              have hz153 : f147 4 = zf := hk149.1.2.2.2.2.1
              have hz154 : f147 6 = zm := hk149.1.2.2.2.2.2.1
              have hz155 : f147 8 = zk := hk149.1.2.2.2.2.2.2.1
              have hz156 : f147 9 = zw := hk149.1.2.2.2.2.2.2.2
              have hz157 : ¬ (zj + 1) < 0 := hk149.2.2.2.1.1
              have hz158 : ¬ 16 < (zj + 1) := hk149.2.2.2.1.2
              refine lv_aload_n hx hb dX11_jar_189 rfl (lv_at hl 1 rfl) ?_
              refine va_get (D := (dC, dI)) (ci := 11) (v := .ref a_said) (C := RX11) (T := TX11) (N := 42) hx hb hts iX11_jar_X11 hown hK.1 hP 0 gz0 vcz11 20 (by decide) (kX11_jar_1 hts) (fun _ h9 => h9) gz20 dX11_jar_190 ?_
              refine lv_iconst (v := 2) hx hb dX11_jar_193 (by decide) ?_
              refine va_iald hx hb hK.1 hP 1 0 gz1 tzz0 (vpd (by decide)) dX11_jar_194 ?_
              refine zi (f147 2) rfl ?_
              refine lv_iconst (v := 1) hx hb dX11_jar_195 (by decide) ?_
              refine lv_isub hx hb dX11_jar_196 ?_
              obtain ⟨hP9, hD9⟩ := z_sb (L' := [(n0, .inr (11, .ref a_tape :: .int m_taped :: .int m_laws :: .ref a_sign :: .ref a_length :: .ref a_clause :: .ref a_clauses :: .ref a_chain :: .int m_next :: .int m_wrong :: .int m_number :: .int m_text :: .int m_made :: .int m_deep :: .int m_lines :: .ref a_open :: .int m_opened :: .ref a_stack :: .int m_top :: .ref a_word :: .ref a_said :: .ref a_kept :: [.int m_goNode, .int m_goDrops, .int m_goHour, .int m_goFelt, .int m_goSalt, .int m_goMore, .ref a_stepNode, .ref a_stepDrops, .ref a_stepHour, .ref a_stepNext, .ref a_stepPass, .int m_bestLeft, .int m_bestHour, .int m_bestMany, .ref a_bestPass, .ref a_far, .ref a_waited, .ref a_servers, .ref a_images, .ref a_isMade])), (a_said, .inl (kA 0, 360, .inl f147))]) hP hD [0, 1] (by decide) rfl
              refine W.widen (k := 0) (n := 0) (Nat.le_of_ble_eq_true rfl) (Nat.le_of_ble_eq_true rfl) ?_
              exact W.iret (v := ((f147 2) - 1)) hx hb hr (fun t ht hW => ⟨⟨((f147 2) - 1), (f147), rfl, ⟨(by have hok : ok_jr p0 p1 p2 p3 p4 zn zj = 1 := (by simp [ok_jr, c_23, c_27, c_31, c_35, c_39, c_43]); rw [hok, hu148]; exact gr_sub _), (hG.trans hG0.symm), (by have hok : ok_jr p0 p1 p2 p3 p4 zn zj = 1 := (by simp [ok_jr, c_23, c_27, c_31, c_35, c_39, c_43]); rw [hok]; exact hk149)⟩, by rw [ht]; exact hP9, hD9⟩, hS.F ht⟩) hS.2.2 dX11_jar_197
            · have hG := zthen hG c_43
              refine lv_iconst (v := (-1)) hx hb dX11_jar_69 (by decide) ?_
              obtain ⟨hP9, hD9⟩ := z_sb (L' := [(n0, .inr (11, .ref a_tape :: .int m_taped :: .int m_laws :: .ref a_sign :: .ref a_length :: .ref a_clause :: .ref a_clauses :: .ref a_chain :: .int m_next :: .int m_wrong :: .int m_number :: .int m_text :: .int m_made :: .int m_deep :: .int m_lines :: .ref a_open :: .int m_opened :: .ref a_stack :: .int m_top :: .ref a_word :: .ref a_said :: .ref a_kept :: [.int m_goNode, .int m_goDrops, .int m_goHour, .int m_goFelt, .int m_goSalt, .int m_goMore, .ref a_stepNode, .ref a_stepDrops, .ref a_stepHour, .ref a_stepNext, .ref a_stepPass, .int m_bestLeft, .int m_bestHour, .int m_bestMany, .ref a_bestPass, .ref a_far, .ref a_waited, .ref a_servers, .ref a_images, .ref a_isMade])), (a_said, .inl (kA 0, 360, .inl saidF))]) hP hD [0, 1] (by decide) rfl
              refine W.widen (k := 0) (n := 0) (Nat.le_of_ble_eq_true rfl) (Nat.le_of_ble_eq_true rfl) ?_
              exact W.iret (v := (-1)) hx hb hr (fun t ht hW => ⟨⟨(-1), (saidF), rfl, ⟨(by have hok : ok_jr p0 p1 p2 p3 p4 zn zj = 0 := (by simp [ok_jr, c_23, c_27, c_31, c_35, c_39, c_43]); rw [hok]; rfl), (hG.trans hG0.symm), (by have hok : ok_jr p0 p1 p2 p3 p4 zn zj = 0 := (by simp [ok_jr, c_23, c_27, c_31, c_35, c_39, c_43]); rw [hok]; exact hsc)⟩, by rw [ht]; exact hP9, hD9⟩, hS.F ht⟩) hS.2.2 dX11_jar_70
theorem gl_mX11_order_0 (zo : Int32) (x40 : Int32) (h0 : ¬ zo < 0) (h1 : ¬ 6 < zo) (h2 : ¬ zo = 6) (h3 : x40 = (312 + (4 * zo))) : (¬ x40 < 0 ∧ ¬ 360 ≤ x40) := by grind
theorem gl_mX11_order_1 (zo : Int32) (x40 : Int32) (h0 : ¬ zo < 0) (h1 : ¬ 6 < zo) (h2 : ¬ zo = 6) (h3 : x40 = (312 + (4 * zo))) : ¬ x40 < 312 := by grind
theorem gl_mX11_order_2 (zo : Int32) (x40 : Int32) (h0 : ¬ zo < 0) (h1 : ¬ 6 < zo) (h2 : ¬ zo = 6) (h3 : x40 = (312 + (4 * zo))) : (¬ (x40 + 1) < 0 ∧ ¬ 360 ≤ (x40 + 1)) := by grind
theorem gl_mX11_order_3 (zo : Int32) (x40 : Int32) (h0 : ¬ zo < 0) (h1 : ¬ 6 < zo) (h2 : ¬ zo = 6) (h3 : x40 = (312 + (4 * zo))) : ¬ (x40 + 1) < 312 := by grind
theorem gl_mX11_order_4 (zo : Int32) (x40 : Int32) (h0 : ¬ zo < 0) (h1 : ¬ 6 < zo) (h2 : ¬ zo = 6) (h3 : x40 = (312 + (4 * zo))) : (¬ (x40 + 2) < 0 ∧ ¬ 360 ≤ (x40 + 2)) := by grind
theorem gl_mX11_order_5 (zo : Int32) (x40 : Int32) (h0 : ¬ zo < 0) (h1 : ¬ 6 < zo) (h2 : ¬ zo = 6) (h3 : x40 = (312 + (4 * zo))) : ¬ (x40 + 2) < 312 := by grind
theorem gl_mX11_order_6 (zo : Int32) (x40 : Int32) (h0 : ¬ zo < 0) (h1 : ¬ 6 < zo) (h2 : ¬ zo = 6) (h3 : x40 = (312 + (4 * zo))) : (¬ (x40 + 3) < 0 ∧ ¬ 360 ≤ (x40 + 3)) := by grind
theorem gl_mX11_order_7 (zo : Int32) (x40 : Int32) (h0 : ¬ zo < 0) (h1 : ¬ 6 < zo) (h2 : ¬ zo = 6) (h3 : x40 = (312 + (4 * zo))) : ¬ (x40 + 3) < 312 := by grind
set_option maxRecDepth 100000 in
def fX11_order (saidF : Nat → Int32) (zn : Int32) (zo : Int32) (p0 : Int32) (p1 : Int32) (p2 : Int32) (p3 : Int32) : (Nat → Int32) := if zo = 6 then (saidF) else (if (hs p0 zn) = 0 then (saidF) else (if (li p1.toInt64 0 99999) = 0 then (saidF) else (if (li p2.toInt64 1 99999) = 0 then (saidF) else (if (li p3.toInt64 0 9999) = 0 then (saidF) else (bnd ((312 + (4 * zo))) (fun (x40 : Int32) => bnd ((upd saidF x40.toNatClampNeg p0)) (fun (f41 : Nat → Int32) => bnd ((upd f41 (x40 + 1).toNatClampNeg p1)) (fun (f52 : Nat → Int32) => bnd ((upd f52 (x40 + 2).toNatClampNeg p2)) (fun (f63 : Nat → Int32) => bnd ((upd f63 (x40 + 3).toNatClampNeg p3)) (fun (f74 : Nat → Int32) => bnd ((upd f74 (3 : Int32).toNatClampNeg (zo + 1))) (fun (f85 : Nat → Int32) => f85)))))))))))
set_option maxHeartbeats 4000000 in
set_option maxRecDepth 100000 in
theorem mX11_order (l : Launch) (dC : Nat → ClassId) (dI : Nat → Nat → Nat) (kA : Nat → ClassId) (sz : Nat) (n0 : Nat) (m_taped : Int32) (m_laws : Int32) (m_next : Int32) (m_wrong : Int32) (m_number : Int32) (m_text : Int32) (m_made : Int32) (m_deep : Int32) (m_lines : Int32) (m_opened : Int32) (m_top : Int32) (m_goNode : Int32) (m_goDrops : Int32) (m_goHour : Int32) (m_goFelt : Int32) (m_goSalt : Int32) (m_goMore : Int32) (m_bestLeft : Int32) (m_bestHour : Int32) (m_bestMany : Int32) (a_tape : Nat) (a_sign : Nat) (a_length : Nat) (a_clause : Nat) (a_clauses : Nat) (a_chain : Nat) (a_open : Nat) (a_stack : Nat) (a_word : Nat) (a_said : Nat) (a_kept : Nat) (a_stepNode : Nat) (a_stepDrops : Nat) (a_stepHour : Nat) (a_stepNext : Nat) (a_stepPass : Nat) (a_bestPass : Nat) (a_far : Nat) (a_waited : Nat) (a_servers : Nat) (a_images : Nat) (a_isMade : Nat) (saidF : Nat → Int32) (zn : Int32) (zp : Int32) (zj : Int32) (zo : Int32) (zf : Int32) (zm : Int32) (zk : Int32) (zw : Int32) (pd : Nat → Int32) (p0 : Int32) (p1 : Int32) (p2 : Int32) (p3 : Int32) (hsc : SC saidF zn zp zj zo zf zm zk zw pd) : Met l yX11_order wsX11_order ({ frames := 1, cells := 0, slots := 0, locals := 25 }) (zPc dC dI kA sz [.ref n0, .int p0, .int p1, .int p2, .int p3] [(n0, .inr (11, .ref a_tape :: .int m_taped :: .int m_laws :: .ref a_sign :: .ref a_length :: .ref a_clause :: .ref a_clauses :: .ref a_chain :: .int m_next :: .int m_wrong :: .int m_number :: .int m_text :: .int m_made :: .int m_deep :: .int m_lines :: .ref a_open :: .int m_opened :: .ref a_stack :: .int m_top :: .ref a_word :: .ref a_said :: .ref a_kept :: [.int m_goNode, .int m_goDrops, .int m_goHour, .int m_goFelt, .int m_goSalt, .int m_goMore, .ref a_stepNode, .ref a_stepDrops, .ref a_stepHour, .ref a_stepNext, .ref a_stepPass, .int m_bestLeft, .int m_bestHour, .int m_bestMany, .ref a_bestPass, .ref a_far, .ref a_waited, .ref a_servers, .ref a_images, .ref a_isMade])), (a_said, .inl (kA 0, 360, .inl saidF))]) (va_Qi (fun (r : Int32) (u : (Nat → Int32)) => r = (ra (ok_or p0 p1 p2 p3 zn zo) (zo + 1)) ∧ u = fX11_order saidF zn zo p0 p1 p2 p3 ∧ SC u zn zp zj (rz (ok_or p0 p1 p2 p3 zn zo) zo) zf zm zk zw pd) (zB dC dI (va_A [(n0, .inr (11, .ref a_tape :: .int m_taped :: .int m_laws :: .ref a_sign :: .ref a_length :: .ref a_clause :: .ref a_clauses :: .ref a_chain :: .int m_next :: .int m_wrong :: .int m_number :: .int m_text :: .int m_made :: .int m_deep :: .int m_lines :: .ref a_open :: .int m_opened :: .ref a_stack :: .int m_top :: .ref a_word :: .ref a_said :: .ref a_kept :: [.int m_goNode, .int m_goDrops, .int m_goHour, .int m_goFelt, .int m_goSalt, .int m_goMore, .ref a_stepNode, .ref a_stepDrops, .ref a_stepHour, .ref a_stepNext, .ref a_stepPass, .int m_bestLeft, .int m_bestHour, .int m_bestMany, .ref a_bestPass, .ref a_far, .ref a_waited, .ref a_servers, .ref a_images, .ref a_isMade])), (a_said, .inl (kA 0, 360, .inl saidF))] sz) (fun (u : (Nat → Int32)) => [(n0, .inr (11, .ref a_tape :: .int m_taped :: .int m_laws :: .ref a_sign :: .ref a_length :: .ref a_clause :: .ref a_clauses :: .ref a_chain :: .int m_next :: .int m_wrong :: .int m_number :: .int m_text :: .int m_made :: .int m_deep :: .int m_lines :: .ref a_open :: .int m_opened :: .ref a_stack :: .int m_top :: .ref a_word :: .ref a_said :: .ref a_kept :: [.int m_goNode, .int m_goDrops, .int m_goHour, .int m_goFelt, .int m_goSalt, .int m_goMore, .ref a_stepNode, .ref a_stepDrops, .ref a_stepHour, .ref a_stepNext, .ref a_stepPass, .int m_bestLeft, .int m_bestHour, .int m_bestMany, .ref a_bestPass, .ref a_far, .ref a_waited, .ref a_servers, .ref a_images, .ref a_isMade])), (a_said, .inl (kA 0, 360, .inl u))])) (va_A [(n0, .inr (11, .ref a_tape :: .int m_taped :: .int m_laws :: .ref a_sign :: .ref a_length :: .ref a_clause :: .ref a_clauses :: .ref a_chain :: .int m_next :: .int m_wrong :: .int m_number :: .int m_text :: .int m_made :: .int m_deep :: .int m_lines :: .ref a_open :: .int m_opened :: .ref a_stack :: .int m_top :: .ref a_word :: .ref a_said :: .ref a_kept :: [.int m_goNode, .int m_goDrops, .int m_goHour, .int m_goFelt, .int m_goSalt, .int m_goMore, .ref a_stepNode, .ref a_stepDrops, .ref a_stepHour, .ref a_stepNext, .ref a_stepPass, .int m_bestLeft, .int m_bestHour, .int m_bestMany, .ref a_bestPass, .ref a_far, .ref a_waited, .ref a_servers, .ref a_images, .ref a_isMade])), (a_said, .inl (kA 0, 360, .inl saidF))] sz)) 0 0 (va_A [(n0, .inr (11, .ref a_tape :: .int m_taped :: .int m_laws :: .ref a_sign :: .ref a_length :: .ref a_clause :: .ref a_clauses :: .ref a_chain :: .int m_next :: .int m_wrong :: .int m_number :: .int m_text :: .int m_made :: .int m_deep :: .int m_lines :: .ref a_open :: .int m_opened :: .ref a_stack :: .int m_top :: .ref a_word :: .ref a_said :: .ref a_kept :: [.int m_goNode, .int m_goDrops, .int m_goHour, .int m_goFelt, .int m_goSalt, .int m_goMore, .ref a_stepNode, .ref a_stepDrops, .ref a_stepHour, .ref a_stepNext, .ref a_stepPass, .int m_bestLeft, .int m_bestHour, .int m_bestMany, .ref a_bestPass, .ref a_far, .ref a_waited, .ref a_servers, .ref a_images, .ref a_isMade])), (a_said, .inl (kA 0, 360, .inl saidF))] sz) := by
  refine Met.ofW (cc := cX11_order) (maxL := 6) (ret := (some .int)) pnX11 rfl ?_
  intro p e s m args below meth c s₁ B hml hv
  obtain ⟨rfl, hsz, hP, hK, hD0⟩ := hv
  have hx := B.exec
  have hb := B.bytes
  have hr := B.returns
  have hts := atoms_spec (ws := wsX11_order) B.pre
  have hown : s.vm.findClass RX11 = some m.cls := findClass_of_methodNamed B.named
  have hlocks := B.notSynchronized
  subst hsz
  have hD := hD0.self (sz := s.heap.size)
  generalize hAe : va_A [(n0, .inr (11, .ref a_tape :: .int m_taped :: .int m_laws :: .ref a_sign :: .ref a_length :: .ref a_clause :: .ref a_clauses :: .ref a_chain :: .int m_next :: .int m_wrong :: .int m_number :: .int m_text :: .int m_made :: .int m_deep :: .int m_lines :: .ref a_open :: .int m_opened :: .ref a_stack :: .int m_top :: .ref a_word :: .ref a_said :: .ref a_kept :: [.int m_goNode, .int m_goDrops, .int m_goHour, .int m_goFelt, .int m_goSalt, .int m_goMore, .ref a_stepNode, .ref a_stepDrops, .ref a_stepHour, .ref a_stepNext, .ref a_stepPass, .int m_bestLeft, .int m_bestHour, .int m_bestMany, .ref a_bestPass, .ref a_far, .ref a_waited, .ref a_servers, .ref a_images, .ref a_isMade])), (a_said, .inl (kA 0, 360, .inl saidF))] s.heap.size = A at hD ⊢
  have hA : ∀ q : Nat, s.heap.size ≤ q → A q := zA_of hAe
  have hS : va_S A s.heap s.heap [] := va_S.rf
  have hP : va_P (dC, dI) vwCl [(n0, .inr (11, .ref a_tape :: .int m_taped :: .int m_laws :: .ref a_sign :: .ref a_length :: .ref a_clause :: .ref a_clauses :: .ref a_chain :: .int m_next :: .int m_wrong :: .int m_number :: .int m_text :: .int m_made :: .int m_deep :: .int m_lines :: .ref a_open :: .int m_opened :: .ref a_stack :: .int m_top :: .ref a_word :: .ref a_said :: .ref a_kept :: [.int m_goNode, .int m_goDrops, .int m_goHour, .int m_goFelt, .int m_goSalt, .int m_goMore, .ref a_stepNode, .ref a_stepDrops, .ref a_stepHour, .ref a_stepNext, .ref a_stepPass, .int m_bestLeft, .int m_bestHour, .int m_bestMany, .ref a_bestPass, .ref a_far, .ref a_waited, .ref a_servers, .ref a_images, .ref a_isMade])), (a_said, .inl (kA 0, 360, .inl saidF))] s.heap := hP
  have hl := lv_entry ([.ref n0, .int p0, .int p1, .int p2, .int p3]) (n := 6) (Nat.le_of_ble_eq_true rfl)
  rw [lg_entry_eq]
  generalize (lg_sl ([.ref n0, .int p0, .int p1, .int p2, .int p3]) ++ List.replicate (6 - (lg_sl ([.ref n0, .int p0, .int p1, .int p2, .int p3])).length) Slot.unset).toArray = ls at hl ⊢
  have hl : lv_has ls 6 [(0, .ref n0), (1, .int p0), (2, .int p1), (3, .int p2), (4, .int p3)] := hl
  obtain ⟨H, hHe⟩ : ∃ H : Heap, H = s.heap := ⟨_, rfl⟩
  obtain ⟨G, hG0⟩ : ∃ G : (Nat → Int32), fX11_order saidF zn zo p0 p1 p2 p3 = G := ⟨_, rfl⟩
  have hG := hG0
  unfold fX11_order at hG
  have hz1 : saidF 0 = zn := hsc.1.1
  have hz2 : saidF 1 = zp := hsc.1.2.1
  have hz3 : saidF 2 = zj := hsc.1.2.2.1
  have hz4 : saidF 3 = zo := hsc.1.2.2.2.1
  have hz5 : saidF 4 = zf := hsc.1.2.2.2.2.1
  have hz6 : saidF 6 = zm := hsc.1.2.2.2.2.2.1
  have hz7 : saidF 8 = zk := hsc.1.2.2.2.2.2.2.1
  have hz8 : saidF 9 = zw := hsc.1.2.2.2.2.2.2.2
  have hz9 : ¬ zn < 0 := hsc.2.1.1
  have hz10 : ¬ 12 < zn := hsc.2.1.2
  have hz11 : ¬ zp < 0 := hsc.2.2.1.1
  have hz12 : ¬ 20 < zp := hsc.2.2.1.2
  have hz13 : ¬ zj < 0 := hsc.2.2.2.1.1
  have hz14 : ¬ 16 < zj := hsc.2.2.2.1.2
  have hz15 : ¬ zo < 0 := hsc.2.2.2.2.1.1
  have hz16 : ¬ 6 < zo := hsc.2.2.2.2.1.2
  have hz17 : ¬ zf < 0 := hsc.2.2.2.2.2.1.1
  have hz18 : ¬ 8 < zf := hsc.2.2.2.2.2.1.2
  have hz19 : ¬ zk < (-1) := hsc.2.2.2.2.2.2.1.1
  have hz20 : ¬ 12 ≤ zk := hsc.2.2.2.2.2.2.1.2
  have hz21 : ¬ zw < 0 := hsc.2.2.2.2.2.2.2.1.1
  have hz22 : ¬ 6 < zw := hsc.2.2.2.2.2.2.2.1.2
  refine lv_aload_n hx hb dX11_order_0 rfl (lv_at hl 0 rfl) ?_
  refine va_get (D := (dC, dI)) (ci := 11) (v := .ref a_said) (C := RX11) (T := TX11) (N := 42) hx hb hts iX11_order_X11 hown hK.1 hP 0 gz0 vcz11 20 (by decide) (kX11_order_1 hts) (fun _ h9 => h9) gz20 dX11_order_1 ?_
  refine lv_iconst (v := 3) hx hb dX11_order_4 (by decide) ?_
  refine va_iald hx hb hK.1 hP 1 0 gz1 tzz0 (vpd (by decide)) dX11_order_5 ?_
  refine zi zo hz4 ?_
  refine lv_bipush (v := 6) hx hb dX11_order_6 (by decide) ?_
  refine lv_icmp_eq (tgt := 56) hx hb dX11_order_8 (by decide) (fun c_23 => ?_) (fun c_23 => ?_)
  · have hG := zthen hG c_23
    refine lv_iconst (v := (-1)) hx hb dX11_order_56 (by decide) ?_
    obtain ⟨hP9, hD9⟩ := z_sb (L' := [(n0, .inr (11, .ref a_tape :: .int m_taped :: .int m_laws :: .ref a_sign :: .ref a_length :: .ref a_clause :: .ref a_clauses :: .ref a_chain :: .int m_next :: .int m_wrong :: .int m_number :: .int m_text :: .int m_made :: .int m_deep :: .int m_lines :: .ref a_open :: .int m_opened :: .ref a_stack :: .int m_top :: .ref a_word :: .ref a_said :: .ref a_kept :: [.int m_goNode, .int m_goDrops, .int m_goHour, .int m_goFelt, .int m_goSalt, .int m_goMore, .ref a_stepNode, .ref a_stepDrops, .ref a_stepHour, .ref a_stepNext, .ref a_stepPass, .int m_bestLeft, .int m_bestHour, .int m_bestMany, .ref a_bestPass, .ref a_far, .ref a_waited, .ref a_servers, .ref a_images, .ref a_isMade])), (a_said, .inl (kA 0, 360, .inl saidF))]) hP hD [0, 1] (by decide) rfl
    refine W.widen (k := 0) (n := 0) (Nat.le_of_ble_eq_true rfl) (Nat.le_of_ble_eq_true rfl) ?_
    exact W.iret (v := (-1)) hx hb hr (fun t ht hW => ⟨⟨(-1), (saidF), rfl, ⟨(by have hok : ok_or p0 p1 p2 p3 zn zo = 0 := (by simp [ok_or, c_23]); rw [hok]; rfl), (hG.trans hG0.symm), (by have hok : ok_or p0 p1 p2 p3 zn zo = 0 := (by simp [ok_or, c_23]); rw [hok]; exact hsc)⟩, by rw [ht]; exact hP9, hD9⟩, hS.F ht⟩) hS.2.2 dX11_order_57
  · have hG := zelse hG c_23
    refine lv_aload_n hx hb dX11_order_11 rfl (lv_at hl 0 rfl) ?_
    refine lv_iload_n hx hb dX11_order_12 rfl (lv_at hl 1 rfl) ?_
    refine z_i (wr := []) (va_runV (As := [.int p0]) (rest := []) ⟨hx, hb, hml, hown, hts⟩ (mX11_isNode l dC dI kA _ n0 m_taped m_laws m_next m_wrong m_number m_text m_made m_deep m_lines m_opened m_top m_goNode m_goDrops m_goHour m_goFelt m_goSalt m_goMore m_bestLeft m_bestHour m_bestMany a_tape a_sign a_length a_clause a_clauses a_chain a_open a_stack a_word a_said a_kept a_stepNode a_stepDrops a_stepHour a_stepNext a_stepPass a_bestPass a_far a_waited a_servers a_images a_isMade saidF zn zp zj zo zf zm zk zw pd p0 hsc) (cwV 1 hts gX11_order_X11_isNode rfl rfl rfl ⟨rfl, hdX11_isNode⟩ ⟨(Nat.le_of_ble_eq_true rfl), (Nat.le_of_ble_eq_true rfl)⟩) ⟨zPc.blind, va_recv (q := (RX11, TX11, 42)) hK.1 hP (ci := 11) (q0 := 0) rfl rfl, zPre hK (hP.sub [0, 1] rfl) (hD.sub [0, 1] (by decide) rfl)⟩ rfl rfl hl.1 rfl (lv_room (Nat.le_of_ble_eq_true rfl)) dX11_order_13 ⟨(Nat.le_of_ble_eq_true rfl), (Nat.le_of_ble_eq_true rfl)⟩) hP hD hS hA [0, 1] [] rfl rfl (by decide) (by decide) (fun r26 u24 H locs hw25 hP hD hS => ?_)
    obtain rfl := hw25
    obtain ⟨hP, hD⟩ := z_re (L := [(n0, .inr (11, .ref a_tape :: .int m_taped :: .int m_laws :: .ref a_sign :: .ref a_length :: .ref a_clause :: .ref a_clauses :: .ref a_chain :: .int m_next :: .int m_wrong :: .int m_number :: .int m_text :: .int m_made :: .int m_deep :: .int m_lines :: .ref a_open :: .int m_opened :: .ref a_stack :: .int m_top :: .ref a_word :: .ref a_said :: .ref a_kept :: [.int m_goNode, .int m_goDrops, .int m_goHour, .int m_goFelt, .int m_goSalt, .int m_goMore, .ref a_stepNode, .ref a_stepDrops, .ref a_stepHour, .ref a_stepNext, .ref a_stepPass, .int m_bestLeft, .int m_bestHour, .int m_bestMany, .ref a_bestPass, .ref a_far, .ref a_waited, .ref a_servers, .ref a_images, .ref a_isMade])), (a_said, .inl (kA 0, 360, .inl saidF))]) hP hD
    refine lv_if_eq (tgt := 56) hx hb dX11_order_16 (by decide) (fun c_27 => ?_) (fun c_27 => ?_)
    · have hG := zthen hG c_27
      refine lv_iconst (v := (-1)) hx hb dX11_order_56 (by decide) ?_
      obtain ⟨hP9, hD9⟩ := z_sb (L' := [(n0, .inr (11, .ref a_tape :: .int m_taped :: .int m_laws :: .ref a_sign :: .ref a_length :: .ref a_clause :: .ref a_clauses :: .ref a_chain :: .int m_next :: .int m_wrong :: .int m_number :: .int m_text :: .int m_made :: .int m_deep :: .int m_lines :: .ref a_open :: .int m_opened :: .ref a_stack :: .int m_top :: .ref a_word :: .ref a_said :: .ref a_kept :: [.int m_goNode, .int m_goDrops, .int m_goHour, .int m_goFelt, .int m_goSalt, .int m_goMore, .ref a_stepNode, .ref a_stepDrops, .ref a_stepHour, .ref a_stepNext, .ref a_stepPass, .int m_bestLeft, .int m_bestHour, .int m_bestMany, .ref a_bestPass, .ref a_far, .ref a_waited, .ref a_servers, .ref a_images, .ref a_isMade])), (a_said, .inl (kA 0, 360, .inl saidF))]) hP hD [0, 1] (by decide) rfl
      refine W.widen (k := 0) (n := 0) (Nat.le_of_ble_eq_true rfl) (Nat.le_of_ble_eq_true rfl) ?_
      exact W.iret (v := (-1)) hx hb hr (fun t ht hW => ⟨⟨(-1), (saidF), rfl, ⟨(by have hok : ok_or p0 p1 p2 p3 zn zo = 0 := (by simp [ok_or, c_23, c_27]); rw [hok]; rfl), (hG.trans hG0.symm), (by have hok : ok_or p0 p1 p2 p3 zn zo = 0 := (by simp [ok_or, c_23, c_27]); rw [hok]; exact hsc)⟩, by rw [ht]; exact hP9, hD9⟩, hS.F ht⟩) hS.2.2 dX11_order_57
    · have hG := zelse hG c_27
      have c_27a := hs_ne c_27
      have c_27b := c_27a.2
      have c_27a := c_27a.1
      refine lv_iload_n hx hb dX11_order_19 rfl (lv_at hl 2 rfl) ?_
      refine lv_i2l hx hb dX11_order_20 rfl ?_
      refine lv_lconst (v := 0) hx hb dX11_order_21 (by decide) ?_
      refine lv_ldc2 hx hb hown (kX11_order_2 hts) dX11_order_22 ?_
      refine z_i (wr := [(n0, .inr (11, .ref a_tape :: .int m_taped :: .int m_laws :: .ref a_sign :: .ref a_length :: .ref a_clause :: .ref a_clauses :: .ref a_chain :: .int m_next :: .int m_wrong :: .int m_number :: .int m_text :: .int m_made :: .int m_deep :: .int m_lines :: .ref a_open :: .int m_opened :: .ref a_stack :: .int m_top :: .ref a_word :: .ref a_said :: .ref a_kept :: [.int m_goNode, .int m_goDrops, .int m_goHour, .int m_goFelt, .int m_goSalt, .int m_goMore, .ref a_stepNode, .ref a_stepDrops, .ref a_stepHour, .ref a_stepNext, .ref a_stepPass, .int m_bestLeft, .int m_bestHour, .int m_bestMany, .ref a_bestPass, .ref a_far, .ref a_waited, .ref a_servers, .ref a_images, .ref a_isMade])), (a_said, .inl (kA 0, 360, .inl saidF))]) (va_runS (As := [.long p1.toInt64, .long 0, .long 99999]) (rest := []) ⟨hx, hb, hml, hown, hts⟩ (mX11_in l dC dI kA _ p1.toInt64 0 99999) (va_cwS 3 hts gX11_order_X11_in rfl rfl rfl hdX11_in ⟨(Nat.le_of_ble_eq_true rfl), (Nat.le_of_ble_eq_true rfl)⟩) ⟨zPc.blind, zPre hK (hP.sub [] rfl) (hD.sub [] (by decide) rfl)⟩ rfl rfl hl.1 rfl (lv_room (Nat.le_of_ble_eq_true rfl)) dX11_order_25 ⟨(Nat.le_of_ble_eq_true rfl), (Nat.le_of_ble_eq_true rfl)⟩) hP hD hS hA [] [0, 1] rfl rfl (by decide) (by decide) (fun r30 u28 H locs hw29 hP hD hS => ?_)
      obtain rfl := hw29
      obtain ⟨hP, hD⟩ := z_re (L := [(n0, .inr (11, .ref a_tape :: .int m_taped :: .int m_laws :: .ref a_sign :: .ref a_length :: .ref a_clause :: .ref a_clauses :: .ref a_chain :: .int m_next :: .int m_wrong :: .int m_number :: .int m_text :: .int m_made :: .int m_deep :: .int m_lines :: .ref a_open :: .int m_opened :: .ref a_stack :: .int m_top :: .ref a_word :: .ref a_said :: .ref a_kept :: [.int m_goNode, .int m_goDrops, .int m_goHour, .int m_goFelt, .int m_goSalt, .int m_goMore, .ref a_stepNode, .ref a_stepDrops, .ref a_stepHour, .ref a_stepNext, .ref a_stepPass, .int m_bestLeft, .int m_bestHour, .int m_bestMany, .ref a_bestPass, .ref a_far, .ref a_waited, .ref a_servers, .ref a_images, .ref a_isMade])), (a_said, .inl (kA 0, 360, .inl saidF))]) hP hD
      refine lv_if_eq (tgt := 56) hx hb dX11_order_28 (by decide) (fun c_31 => ?_) (fun c_31 => ?_)
      · have hG := zthen hG c_31
        refine lv_iconst (v := (-1)) hx hb dX11_order_56 (by decide) ?_
        obtain ⟨hP9, hD9⟩ := z_sb (L' := [(n0, .inr (11, .ref a_tape :: .int m_taped :: .int m_laws :: .ref a_sign :: .ref a_length :: .ref a_clause :: .ref a_clauses :: .ref a_chain :: .int m_next :: .int m_wrong :: .int m_number :: .int m_text :: .int m_made :: .int m_deep :: .int m_lines :: .ref a_open :: .int m_opened :: .ref a_stack :: .int m_top :: .ref a_word :: .ref a_said :: .ref a_kept :: [.int m_goNode, .int m_goDrops, .int m_goHour, .int m_goFelt, .int m_goSalt, .int m_goMore, .ref a_stepNode, .ref a_stepDrops, .ref a_stepHour, .ref a_stepNext, .ref a_stepPass, .int m_bestLeft, .int m_bestHour, .int m_bestMany, .ref a_bestPass, .ref a_far, .ref a_waited, .ref a_servers, .ref a_images, .ref a_isMade])), (a_said, .inl (kA 0, 360, .inl saidF))]) hP hD [0, 1] (by decide) rfl
        refine W.widen (k := 0) (n := 0) (Nat.le_of_ble_eq_true rfl) (Nat.le_of_ble_eq_true rfl) ?_
        exact W.iret (v := (-1)) hx hb hr (fun t ht hW => ⟨⟨(-1), (saidF), rfl, ⟨(by have hok : ok_or p0 p1 p2 p3 zn zo = 0 := (by simp [ok_or, c_23, c_27, c_31]); rw [hok]; rfl), (hG.trans hG0.symm), (by have hok : ok_or p0 p1 p2 p3 zn zo = 0 := (by simp [ok_or, c_23, c_27, c_31]); rw [hok]; exact hsc)⟩, by rw [ht]; exact hP9, hD9⟩, hS.F ht⟩) hS.2.2 dX11_order_57
      · have hG := zelse hG c_31
        have c_31a := li_ne (lo := 0) (hi := 99999) (by decide) (by decide) c_31
        have c_31b := c_31a.2
        have c_31a := c_31a.1
        refine lv_iload_n hx hb dX11_order_31 rfl (lv_at hl 3 rfl) ?_
        refine lv_i2l hx hb dX11_order_32 rfl ?_
        refine lv_lconst (v := 1) hx hb dX11_order_33 (by decide) ?_
        refine lv_ldc2 hx hb hown (kX11_order_2 hts) dX11_order_34 ?_
        refine z_i (wr := [(n0, .inr (11, .ref a_tape :: .int m_taped :: .int m_laws :: .ref a_sign :: .ref a_length :: .ref a_clause :: .ref a_clauses :: .ref a_chain :: .int m_next :: .int m_wrong :: .int m_number :: .int m_text :: .int m_made :: .int m_deep :: .int m_lines :: .ref a_open :: .int m_opened :: .ref a_stack :: .int m_top :: .ref a_word :: .ref a_said :: .ref a_kept :: [.int m_goNode, .int m_goDrops, .int m_goHour, .int m_goFelt, .int m_goSalt, .int m_goMore, .ref a_stepNode, .ref a_stepDrops, .ref a_stepHour, .ref a_stepNext, .ref a_stepPass, .int m_bestLeft, .int m_bestHour, .int m_bestMany, .ref a_bestPass, .ref a_far, .ref a_waited, .ref a_servers, .ref a_images, .ref a_isMade])), (a_said, .inl (kA 0, 360, .inl saidF))]) (va_runS (As := [.long p2.toInt64, .long 1, .long 99999]) (rest := []) ⟨hx, hb, hml, hown, hts⟩ (mX11_in l dC dI kA _ p2.toInt64 1 99999) (va_cwS 3 hts gX11_order_X11_in rfl rfl rfl hdX11_in ⟨(Nat.le_of_ble_eq_true rfl), (Nat.le_of_ble_eq_true rfl)⟩) ⟨zPc.blind, zPre hK (hP.sub [] rfl) (hD.sub [] (by decide) rfl)⟩ rfl rfl hl.1 rfl (lv_room (Nat.le_of_ble_eq_true rfl)) dX11_order_37 ⟨(Nat.le_of_ble_eq_true rfl), (Nat.le_of_ble_eq_true rfl)⟩) hP hD hS hA [] [0, 1] rfl rfl (by decide) (by decide) (fun r34 u32 H locs hw33 hP hD hS => ?_)
        obtain rfl := hw33
        obtain ⟨hP, hD⟩ := z_re (L := [(n0, .inr (11, .ref a_tape :: .int m_taped :: .int m_laws :: .ref a_sign :: .ref a_length :: .ref a_clause :: .ref a_clauses :: .ref a_chain :: .int m_next :: .int m_wrong :: .int m_number :: .int m_text :: .int m_made :: .int m_deep :: .int m_lines :: .ref a_open :: .int m_opened :: .ref a_stack :: .int m_top :: .ref a_word :: .ref a_said :: .ref a_kept :: [.int m_goNode, .int m_goDrops, .int m_goHour, .int m_goFelt, .int m_goSalt, .int m_goMore, .ref a_stepNode, .ref a_stepDrops, .ref a_stepHour, .ref a_stepNext, .ref a_stepPass, .int m_bestLeft, .int m_bestHour, .int m_bestMany, .ref a_bestPass, .ref a_far, .ref a_waited, .ref a_servers, .ref a_images, .ref a_isMade])), (a_said, .inl (kA 0, 360, .inl saidF))]) hP hD
        refine lv_if_eq (tgt := 56) hx hb dX11_order_40 (by decide) (fun c_35 => ?_) (fun c_35 => ?_)
        · have hG := zthen hG c_35
          refine lv_iconst (v := (-1)) hx hb dX11_order_56 (by decide) ?_
          obtain ⟨hP9, hD9⟩ := z_sb (L' := [(n0, .inr (11, .ref a_tape :: .int m_taped :: .int m_laws :: .ref a_sign :: .ref a_length :: .ref a_clause :: .ref a_clauses :: .ref a_chain :: .int m_next :: .int m_wrong :: .int m_number :: .int m_text :: .int m_made :: .int m_deep :: .int m_lines :: .ref a_open :: .int m_opened :: .ref a_stack :: .int m_top :: .ref a_word :: .ref a_said :: .ref a_kept :: [.int m_goNode, .int m_goDrops, .int m_goHour, .int m_goFelt, .int m_goSalt, .int m_goMore, .ref a_stepNode, .ref a_stepDrops, .ref a_stepHour, .ref a_stepNext, .ref a_stepPass, .int m_bestLeft, .int m_bestHour, .int m_bestMany, .ref a_bestPass, .ref a_far, .ref a_waited, .ref a_servers, .ref a_images, .ref a_isMade])), (a_said, .inl (kA 0, 360, .inl saidF))]) hP hD [0, 1] (by decide) rfl
          refine W.widen (k := 0) (n := 0) (Nat.le_of_ble_eq_true rfl) (Nat.le_of_ble_eq_true rfl) ?_
          exact W.iret (v := (-1)) hx hb hr (fun t ht hW => ⟨⟨(-1), (saidF), rfl, ⟨(by have hok : ok_or p0 p1 p2 p3 zn zo = 0 := (by simp [ok_or, c_23, c_27, c_31, c_35]); rw [hok]; rfl), (hG.trans hG0.symm), (by have hok : ok_or p0 p1 p2 p3 zn zo = 0 := (by simp [ok_or, c_23, c_27, c_31, c_35]); rw [hok]; exact hsc)⟩, by rw [ht]; exact hP9, hD9⟩, hS.F ht⟩) hS.2.2 dX11_order_57
        · have hG := zelse hG c_35
          have c_35a := li_ne (lo := 1) (hi := 99999) (by decide) (by decide) c_35
          have c_35b := c_35a.2
          have c_35a := c_35a.1
          refine lv_iload hx hb dX11_order_43 (lv_at hl 4 rfl) ?_
          refine lv_i2l hx hb dX11_order_45 rfl ?_
          refine lv_lconst (v := 0) hx hb dX11_order_46 (by decide) ?_
          refine lv_ldc2 hx hb hown (kX11_order_3 hts) dX11_order_47 ?_
          refine z_i (wr := [(n0, .inr (11, .ref a_tape :: .int m_taped :: .int m_laws :: .ref a_sign :: .ref a_length :: .ref a_clause :: .ref a_clauses :: .ref a_chain :: .int m_next :: .int m_wrong :: .int m_number :: .int m_text :: .int m_made :: .int m_deep :: .int m_lines :: .ref a_open :: .int m_opened :: .ref a_stack :: .int m_top :: .ref a_word :: .ref a_said :: .ref a_kept :: [.int m_goNode, .int m_goDrops, .int m_goHour, .int m_goFelt, .int m_goSalt, .int m_goMore, .ref a_stepNode, .ref a_stepDrops, .ref a_stepHour, .ref a_stepNext, .ref a_stepPass, .int m_bestLeft, .int m_bestHour, .int m_bestMany, .ref a_bestPass, .ref a_far, .ref a_waited, .ref a_servers, .ref a_images, .ref a_isMade])), (a_said, .inl (kA 0, 360, .inl saidF))]) (va_runS (As := [.long p3.toInt64, .long 0, .long 9999]) (rest := []) ⟨hx, hb, hml, hown, hts⟩ (mX11_in l dC dI kA _ p3.toInt64 0 9999) (va_cwS 3 hts gX11_order_X11_in rfl rfl rfl hdX11_in ⟨(Nat.le_of_ble_eq_true rfl), (Nat.le_of_ble_eq_true rfl)⟩) ⟨zPc.blind, zPre hK (hP.sub [] rfl) (hD.sub [] (by decide) rfl)⟩ rfl rfl hl.1 rfl (lv_room (Nat.le_of_ble_eq_true rfl)) dX11_order_50 ⟨(Nat.le_of_ble_eq_true rfl), (Nat.le_of_ble_eq_true rfl)⟩) hP hD hS hA [] [0, 1] rfl rfl (by decide) (by decide) (fun r38 u36 H locs hw37 hP hD hS => ?_)
          obtain rfl := hw37
          obtain ⟨hP, hD⟩ := z_re (L := [(n0, .inr (11, .ref a_tape :: .int m_taped :: .int m_laws :: .ref a_sign :: .ref a_length :: .ref a_clause :: .ref a_clauses :: .ref a_chain :: .int m_next :: .int m_wrong :: .int m_number :: .int m_text :: .int m_made :: .int m_deep :: .int m_lines :: .ref a_open :: .int m_opened :: .ref a_stack :: .int m_top :: .ref a_word :: .ref a_said :: .ref a_kept :: [.int m_goNode, .int m_goDrops, .int m_goHour, .int m_goFelt, .int m_goSalt, .int m_goMore, .ref a_stepNode, .ref a_stepDrops, .ref a_stepHour, .ref a_stepNext, .ref a_stepPass, .int m_bestLeft, .int m_bestHour, .int m_bestMany, .ref a_bestPass, .ref a_far, .ref a_waited, .ref a_servers, .ref a_images, .ref a_isMade])), (a_said, .inl (kA 0, 360, .inl saidF))]) hP hD
          refine lv_if_ne (tgt := 58) hx hb dX11_order_53 (by decide) (fun c_39 => ?_) (fun c_39 => ?_)
          · have hG := zelse hG c_39
            have c_39a := li_ne (lo := 0) (hi := 9999) (by decide) (by decide) c_39
            have c_39b := c_39a.2
            have c_39a := c_39a.1
            refine lv_sipush (v := 312) hx hb dX11_order_58 (by decide) ?_
            refine lv_iconst (v := 4) hx hb dX11_order_61 (by decide) ?_
            refine lv_aload_n hx hb dX11_order_62 rfl (lv_at hl 0 rfl) ?_
            refine va_get (D := (dC, dI)) (ci := 11) (v := .ref a_said) (C := RX11) (T := TX11) (N := 42) hx hb hts iX11_order_X11 hown hK.1 hP 0 gz0 vcz11 20 (by decide) (kX11_order_1 hts) (fun _ h9 => h9) gz20 dX11_order_63 ?_
            refine lv_iconst (v := 3) hx hb dX11_order_66 (by decide) ?_
            refine va_iald hx hb hK.1 hP 1 0 gz1 tzz0 (vpd (by decide)) dX11_order_67 ?_
            refine zi zo hz4 ?_
            refine lv_imul hx hb dX11_order_68 ?_
            refine lv_iadd hx hb dX11_order_69 ?_
            refine lv_topi (fun x40 ex40 => ?_)
            have hG := zbnd hG ex40
            refine lv_istore (lv' := [(5, .int x40), (0, .ref n0), (1, .int p0), (2, .int p1), (3, .int p2), (4, .int p3)]) hx hb dX11_order_70 hl (by decide) rfl (fun ls hl => ?_)
            refine lv_aload_n hx hb dX11_order_72 rfl (lv_at hl 1 rfl) ?_
            refine va_get (D := (dC, dI)) (ci := 11) (v := .ref a_said) (C := RX11) (T := TX11) (N := 42) hx hb hts iX11_order_X11 hown hK.1 hP 0 gz0 vcz11 20 (by decide) (kX11_order_1 hts) (fun _ h9 => h9) gz20 dX11_order_73 ?_
            refine lv_iload hx hb dX11_order_76 (lv_at hl 0 rfl) ?_
            refine lv_iload_n hx hb dX11_order_78 rfl (lv_at hl 2 rfl) ?_
            refine va_iast hx hb hK.1 hP hD hS 1 0 gz1 tzz0 (vp_g (N := 360) (by decide) (gl_mX11_order_0 zo x40 hz15 hz16 c_23 ex40)) dX11_order_79 (fun H locs hP hD hS => ?_)
            obtain ⟨hP, hD⟩ := z_re (L := [(n0, .inr (11, .ref a_tape :: .int m_taped :: .int m_laws :: .ref a_sign :: .ref a_length :: .ref a_clause :: .ref a_clauses :: .ref a_chain :: .int m_next :: .int m_wrong :: .int m_number :: .int m_text :: .int m_made :: .int m_deep :: .int m_lines :: .ref a_open :: .int m_opened :: .ref a_stack :: .int m_top :: .ref a_word :: .ref a_said :: .ref a_kept :: [.int m_goNode, .int m_goDrops, .int m_goHour, .int m_goFelt, .int m_goSalt, .int m_goMore, .ref a_stepNode, .ref a_stepDrops, .ref a_stepHour, .ref a_stepNext, .ref a_stepPass, .int m_bestLeft, .int m_bestHour, .int m_bestMany, .ref a_bestPass, .ref a_far, .ref a_waited, .ref a_servers, .ref a_images, .ref a_isMade])), (a_said, .inl (kA 0, 360, .inl (upd saidF x40.toNatClampNeg p0)))]) hP hD
            obtain ⟨f41, ef41⟩ : ∃ y : Nat → Int32, y = (upd saidF x40.toNatClampNeg p0) := ⟨_, rfl⟩
            rw [← ef41] at hP hD
            have hG := zbnd hG ef41
            have hu42 := upd_at ef41
            have hk43 : SC f41 zn zp zj zo zf zm zk zw pd := by rw [ef41]; exact SC_of hsc (gl_mX11_order_1 zo x40 hz15 hz16 c_23 ex40)
            have hz44 : f41 0 = zn := hk43.1.1
            have hz45 : f41 1 = zp := hk43.1.2.1
            have hz46 : f41 2 = zj := hk43.1.2.2.1
            have hz47 : f41 3 = zo := hk43.1.2.2.2.1
            have hz48 : f41 4 = zf := hk43.1.2.2.2.2.1
            have hz49 : f41 6 = zm := hk43.1.2.2.2.2.2.1
            have hz50 : f41 8 = zk := hk43.1.2.2.2.2.2.2.1
            have hz51 : f41 9 = zw := hk43.1.2.2.2.2.2.2.2
            refine lv_aload_n hx hb dX11_order_80 rfl (lv_at hl 1 rfl) ?_
            refine va_get (D := (dC, dI)) (ci := 11) (v := .ref a_said) (C := RX11) (T := TX11) (N := 42) hx hb hts iX11_order_X11 hown hK.1 hP 0 gz0 vcz11 20 (by decide) (kX11_order_1 hts) (fun _ h9 => h9) gz20 dX11_order_81 ?_
            refine lv_iload hx hb dX11_order_84 (lv_at hl 0 rfl) ?_
            refine lv_iconst (v := 1) hx hb dX11_order_86 (by decide) ?_
            refine lv_iadd hx hb dX11_order_87 ?_
            refine lv_iload_n hx hb dX11_order_88 rfl (lv_at hl 3 rfl) ?_
            refine va_iast hx hb hK.1 hP hD hS 1 0 gz1 tzz0 (vp_g (N := 360) (by decide) (gl_mX11_order_2 zo x40 hz15 hz16 c_23 ex40)) dX11_order_89 (fun H locs hP hD hS => ?_)
            obtain ⟨hP, hD⟩ := z_re (L := [(n0, .inr (11, .ref a_tape :: .int m_taped :: .int m_laws :: .ref a_sign :: .ref a_length :: .ref a_clause :: .ref a_clauses :: .ref a_chain :: .int m_next :: .int m_wrong :: .int m_number :: .int m_text :: .int m_made :: .int m_deep :: .int m_lines :: .ref a_open :: .int m_opened :: .ref a_stack :: .int m_top :: .ref a_word :: .ref a_said :: .ref a_kept :: [.int m_goNode, .int m_goDrops, .int m_goHour, .int m_goFelt, .int m_goSalt, .int m_goMore, .ref a_stepNode, .ref a_stepDrops, .ref a_stepHour, .ref a_stepNext, .ref a_stepPass, .int m_bestLeft, .int m_bestHour, .int m_bestMany, .ref a_bestPass, .ref a_far, .ref a_waited, .ref a_servers, .ref a_images, .ref a_isMade])), (a_said, .inl (kA 0, 360, .inl (upd f41 (x40 + 1).toNatClampNeg p1)))]) hP hD
            obtain ⟨f52, ef52⟩ : ∃ y : Nat → Int32, y = (upd f41 (x40 + 1).toNatClampNeg p1) := ⟨_, rfl⟩
            rw [← ef52] at hP hD
            have hG := zbnd hG ef52
            have hu53 := upd_at ef52
            have hk54 : SC f52 zn zp zj zo zf zm zk zw pd := by rw [ef52]; exact SC_of hk43 (gl_mX11_order_3 zo x40 hz15 hz16 c_23 ex40)
            have hz55 : f52 0 = zn := hk54.1.1
            have hz56 : f52 1 = zp := hk54.1.2.1
            have hz57 : f52 2 = zj := hk54.1.2.2.1
            have hz58 : f52 3 = zo := hk54.1.2.2.2.1
            have hz59 : f52 4 = zf := hk54.1.2.2.2.2.1
            have hz60 : f52 6 = zm := hk54.1.2.2.2.2.2.1
            have hz61 : f52 8 = zk := hk54.1.2.2.2.2.2.2.1
            have hz62 : f52 9 = zw := hk54.1.2.2.2.2.2.2.2
            refine lv_aload_n hx hb dX11_order_90 rfl (lv_at hl 1 rfl) ?_
            refine va_get (D := (dC, dI)) (ci := 11) (v := .ref a_said) (C := RX11) (T := TX11) (N := 42) hx hb hts iX11_order_X11 hown hK.1 hP 0 gz0 vcz11 20 (by decide) (kX11_order_1 hts) (fun _ h9 => h9) gz20 dX11_order_91 ?_
            refine lv_iload hx hb dX11_order_94 (lv_at hl 0 rfl) ?_
            refine lv_iconst (v := 2) hx hb dX11_order_96 (by decide) ?_
            refine lv_iadd hx hb dX11_order_97 ?_
            refine lv_iload_n hx hb dX11_order_98 rfl (lv_at hl 4 rfl) ?_
            refine va_iast hx hb hK.1 hP hD hS 1 0 gz1 tzz0 (vp_g (N := 360) (by decide) (gl_mX11_order_4 zo x40 hz15 hz16 c_23 ex40)) dX11_order_99 (fun H locs hP hD hS => ?_)
            obtain ⟨hP, hD⟩ := z_re (L := [(n0, .inr (11, .ref a_tape :: .int m_taped :: .int m_laws :: .ref a_sign :: .ref a_length :: .ref a_clause :: .ref a_clauses :: .ref a_chain :: .int m_next :: .int m_wrong :: .int m_number :: .int m_text :: .int m_made :: .int m_deep :: .int m_lines :: .ref a_open :: .int m_opened :: .ref a_stack :: .int m_top :: .ref a_word :: .ref a_said :: .ref a_kept :: [.int m_goNode, .int m_goDrops, .int m_goHour, .int m_goFelt, .int m_goSalt, .int m_goMore, .ref a_stepNode, .ref a_stepDrops, .ref a_stepHour, .ref a_stepNext, .ref a_stepPass, .int m_bestLeft, .int m_bestHour, .int m_bestMany, .ref a_bestPass, .ref a_far, .ref a_waited, .ref a_servers, .ref a_images, .ref a_isMade])), (a_said, .inl (kA 0, 360, .inl (upd f52 (x40 + 2).toNatClampNeg p2)))]) hP hD
            obtain ⟨f63, ef63⟩ : ∃ y : Nat → Int32, y = (upd f52 (x40 + 2).toNatClampNeg p2) := ⟨_, rfl⟩
            rw [← ef63] at hP hD
            have hG := zbnd hG ef63
            have hu64 := upd_at ef63
            have hk65 : SC f63 zn zp zj zo zf zm zk zw pd := by rw [ef63]; exact SC_of hk54 (gl_mX11_order_5 zo x40 hz15 hz16 c_23 ex40)
            have hz66 : f63 0 = zn := hk65.1.1
            have hz67 : f63 1 = zp := hk65.1.2.1
            have hz68 : f63 2 = zj := hk65.1.2.2.1
            have hz69 : f63 3 = zo := hk65.1.2.2.2.1
            have hz70 : f63 4 = zf := hk65.1.2.2.2.2.1
            have hz71 : f63 6 = zm := hk65.1.2.2.2.2.2.1
            have hz72 : f63 8 = zk := hk65.1.2.2.2.2.2.2.1
            have hz73 : f63 9 = zw := hk65.1.2.2.2.2.2.2.2
            refine lv_aload_n hx hb dX11_order_100 rfl (lv_at hl 1 rfl) ?_
            refine va_get (D := (dC, dI)) (ci := 11) (v := .ref a_said) (C := RX11) (T := TX11) (N := 42) hx hb hts iX11_order_X11 hown hK.1 hP 0 gz0 vcz11 20 (by decide) (kX11_order_1 hts) (fun _ h9 => h9) gz20 dX11_order_101 ?_
            refine lv_iload hx hb dX11_order_104 (lv_at hl 0 rfl) ?_
            refine lv_iconst (v := 3) hx hb dX11_order_106 (by decide) ?_
            refine lv_iadd hx hb dX11_order_107 ?_
            refine lv_iload hx hb dX11_order_108 (lv_at hl 5 rfl) ?_
            refine va_iast hx hb hK.1 hP hD hS 1 0 gz1 tzz0 (vp_g (N := 360) (by decide) (gl_mX11_order_6 zo x40 hz15 hz16 c_23 ex40)) dX11_order_110 (fun H locs hP hD hS => ?_)
            obtain ⟨hP, hD⟩ := z_re (L := [(n0, .inr (11, .ref a_tape :: .int m_taped :: .int m_laws :: .ref a_sign :: .ref a_length :: .ref a_clause :: .ref a_clauses :: .ref a_chain :: .int m_next :: .int m_wrong :: .int m_number :: .int m_text :: .int m_made :: .int m_deep :: .int m_lines :: .ref a_open :: .int m_opened :: .ref a_stack :: .int m_top :: .ref a_word :: .ref a_said :: .ref a_kept :: [.int m_goNode, .int m_goDrops, .int m_goHour, .int m_goFelt, .int m_goSalt, .int m_goMore, .ref a_stepNode, .ref a_stepDrops, .ref a_stepHour, .ref a_stepNext, .ref a_stepPass, .int m_bestLeft, .int m_bestHour, .int m_bestMany, .ref a_bestPass, .ref a_far, .ref a_waited, .ref a_servers, .ref a_images, .ref a_isMade])), (a_said, .inl (kA 0, 360, .inl (upd f63 (x40 + 3).toNatClampNeg p3)))]) hP hD
            obtain ⟨f74, ef74⟩ : ∃ y : Nat → Int32, y = (upd f63 (x40 + 3).toNatClampNeg p3) := ⟨_, rfl⟩
            rw [← ef74] at hP hD
            have hG := zbnd hG ef74
            have hu75 := upd_at ef74
            have hk76 : SC f74 zn zp zj zo zf zm zk zw pd := by rw [ef74]; exact SC_of hk65 (gl_mX11_order_7 zo x40 hz15 hz16 c_23 ex40)
            have hz77 : f74 0 = zn := hk76.1.1
            have hz78 : f74 1 = zp := hk76.1.2.1
            have hz79 : f74 2 = zj := hk76.1.2.2.1
            have hz80 : f74 3 = zo := hk76.1.2.2.2.1
            have hz81 : f74 4 = zf := hk76.1.2.2.2.2.1
            have hz82 : f74 6 = zm := hk76.1.2.2.2.2.2.1
            have hz83 : f74 8 = zk := hk76.1.2.2.2.2.2.2.1
            have hz84 : f74 9 = zw := hk76.1.2.2.2.2.2.2.2
            refine lv_aload_n hx hb dX11_order_111 rfl (lv_at hl 1 rfl) ?_
            refine va_get (D := (dC, dI)) (ci := 11) (v := .ref a_said) (C := RX11) (T := TX11) (N := 42) hx hb hts iX11_order_X11 hown hK.1 hP 0 gz0 vcz11 20 (by decide) (kX11_order_1 hts) (fun _ h9 => h9) gz20 dX11_order_112 ?_
            refine lv_iconst (v := 3) hx hb dX11_order_115 (by decide) ?_
            refine lv_dup2_11 hx hb dX11_order_116 rfl rfl ?_
            refine va_iald hx hb hK.1 hP 1 0 gz1 tzz0 (vpd (by decide)) dX11_order_117 ?_
            refine zi zo hz80 ?_
            refine lv_iconst (v := 1) hx hb dX11_order_118 (by decide) ?_
            refine lv_iadd hx hb dX11_order_119 ?_
            refine va_iast hx hb hK.1 hP hD hS 1 0 gz1 tzz0 (vpd (by decide)) dX11_order_120 (fun H locs hP hD hS => ?_)
            obtain ⟨hP, hD⟩ := z_re (L := [(n0, .inr (11, .ref a_tape :: .int m_taped :: .int m_laws :: .ref a_sign :: .ref a_length :: .ref a_clause :: .ref a_clauses :: .ref a_chain :: .int m_next :: .int m_wrong :: .int m_number :: .int m_text :: .int m_made :: .int m_deep :: .int m_lines :: .ref a_open :: .int m_opened :: .ref a_stack :: .int m_top :: .ref a_word :: .ref a_said :: .ref a_kept :: [.int m_goNode, .int m_goDrops, .int m_goHour, .int m_goFelt, .int m_goSalt, .int m_goMore, .ref a_stepNode, .ref a_stepDrops, .ref a_stepHour, .ref a_stepNext, .ref a_stepPass, .int m_bestLeft, .int m_bestHour, .int m_bestMany, .ref a_bestPass, .ref a_far, .ref a_waited, .ref a_servers, .ref a_images, .ref a_isMade])), (a_said, .inl (kA 0, 360, .inl (upd f74 (3 : Int32).toNatClampNeg (zo + 1))))]) hP hD
            obtain ⟨f85, ef85⟩ : ∃ y : Nat → Int32, y = (upd f74 (3 : Int32).toNatClampNeg (zo + 1)) := ⟨_, rfl⟩
            rw [← ef85] at hP hD
            have hG := zbnd hG ef85
            have hu86 : f85 3 = (zo + 1) := upd_at ef85
            have hk87 : SC f85 zn zp zj (zo + 1) zf zm zk zw pd := by rw [ef85]; exact SC_zo hk76 c_23 rfl
            have hz88 : f85 0 = zn := hk87.1.1
            have hz89 : f85 1 = zp := hk87.1.2.1
            have hz90 : f85 2 = zj := hk87.1.2.2.1
            have hz91 : f85 4 = zf := hk87.1.2.2.2.2.1
            have hz92 : f85 6 = zm := hk87.1.2.2.2.2.2.1
            have hz93 : f85 8 = zk := hk87.1.2.2.2.2.2.2.1
            have hz94 : f85 9 = zw := hk87.1.2.2.2.2.2.2.2
            have hz95 : ¬ (zo + 1) < 0 := hk87.2.2.2.2.1.1
            have hz96 : ¬ 6 < (zo + 1) := hk87.2.2.2.2.1.2
            refine lv_aload_n hx hb dX11_order_121 rfl (lv_at hl 1 rfl) ?_
            refine va_get (D := (dC, dI)) (ci := 11) (v := .ref a_said) (C := RX11) (T := TX11) (N := 42) hx hb hts iX11_order_X11 hown hK.1 hP 0 gz0 vcz11 20 (by decide) (kX11_order_1 hts) (fun _ h9 => h9) gz20 dX11_order_122 ?_
            refine lv_iconst (v := 3) hx hb dX11_order_125 (by decide) ?_
            refine va_iald hx hb hK.1 hP 1 0 gz1 tzz0 (vpd (by decide)) dX11_order_126 ?_
            refine zi (f85 3) rfl ?_
            obtain ⟨hP9, hD9⟩ := z_sb (L' := [(n0, .inr (11, .ref a_tape :: .int m_taped :: .int m_laws :: .ref a_sign :: .ref a_length :: .ref a_clause :: .ref a_clauses :: .ref a_chain :: .int m_next :: .int m_wrong :: .int m_number :: .int m_text :: .int m_made :: .int m_deep :: .int m_lines :: .ref a_open :: .int m_opened :: .ref a_stack :: .int m_top :: .ref a_word :: .ref a_said :: .ref a_kept :: [.int m_goNode, .int m_goDrops, .int m_goHour, .int m_goFelt, .int m_goSalt, .int m_goMore, .ref a_stepNode, .ref a_stepDrops, .ref a_stepHour, .ref a_stepNext, .ref a_stepPass, .int m_bestLeft, .int m_bestHour, .int m_bestMany, .ref a_bestPass, .ref a_far, .ref a_waited, .ref a_servers, .ref a_images, .ref a_isMade])), (a_said, .inl (kA 0, 360, .inl f85))]) hP hD [0, 1] (by decide) rfl
            refine W.widen (k := 0) (n := 0) (Nat.le_of_ble_eq_true rfl) (Nat.le_of_ble_eq_true rfl) ?_
            exact W.iret (v := (f85 3)) hx hb hr (fun t ht hW => ⟨⟨(f85 3), (f85), rfl, ⟨(by have hok : ok_or p0 p1 p2 p3 zn zo = 1 := (by simp [ok_or, c_23, c_27, c_31, c_35, c_39]); rw [hok, hu86]; exact rfl), (hG.trans hG0.symm), (by have hok : ok_or p0 p1 p2 p3 zn zo = 1 := (by simp [ok_or, c_23, c_27, c_31, c_35, c_39]); rw [hok]; exact hk87)⟩, by rw [ht]; exact hP9, hD9⟩, hS.F ht⟩) hS.2.2 dX11_order_127
          · have hG := zthen hG c_39
            refine lv_iconst (v := (-1)) hx hb dX11_order_56 (by decide) ?_
            obtain ⟨hP9, hD9⟩ := z_sb (L' := [(n0, .inr (11, .ref a_tape :: .int m_taped :: .int m_laws :: .ref a_sign :: .ref a_length :: .ref a_clause :: .ref a_clauses :: .ref a_chain :: .int m_next :: .int m_wrong :: .int m_number :: .int m_text :: .int m_made :: .int m_deep :: .int m_lines :: .ref a_open :: .int m_opened :: .ref a_stack :: .int m_top :: .ref a_word :: .ref a_said :: .ref a_kept :: [.int m_goNode, .int m_goDrops, .int m_goHour, .int m_goFelt, .int m_goSalt, .int m_goMore, .ref a_stepNode, .ref a_stepDrops, .ref a_stepHour, .ref a_stepNext, .ref a_stepPass, .int m_bestLeft, .int m_bestHour, .int m_bestMany, .ref a_bestPass, .ref a_far, .ref a_waited, .ref a_servers, .ref a_images, .ref a_isMade])), (a_said, .inl (kA 0, 360, .inl saidF))]) hP hD [0, 1] (by decide) rfl
            refine W.widen (k := 0) (n := 0) (Nat.le_of_ble_eq_true rfl) (Nat.le_of_ble_eq_true rfl) ?_
            exact W.iret (v := (-1)) hx hb hr (fun t ht hW => ⟨⟨(-1), (saidF), rfl, ⟨(by have hok : ok_or p0 p1 p2 p3 zn zo = 0 := (by simp [ok_or, c_23, c_27, c_31, c_35, c_39]); rw [hok]; rfl), (hG.trans hG0.symm), (by have hok : ok_or p0 p1 p2 p3 zn zo = 0 := (by simp [ok_or, c_23, c_27, c_31, c_35, c_39]); rw [hok]; exact hsc)⟩, by rw [ht]; exact hP9, hD9⟩, hS.F ht⟩) hS.2.2 dX11_order_57
theorem gl_mX11_feast_0 (zf : Int32) (x36 : Int32) (h0 : ¬ zf < 0) (h1 : ¬ 8 < zf) (h2 : ¬ zf = 8) (h3 : x36 = (336 + (3 * zf))) : (¬ x36 < 0 ∧ ¬ 360 ≤ x36) := by grind
theorem gl_mX11_feast_1 (zf : Int32) (x36 : Int32) (h0 : ¬ zf < 0) (h1 : ¬ 8 < zf) (h2 : ¬ zf = 8) (h3 : x36 = (336 + (3 * zf))) : ¬ x36 < 312 := by grind
theorem gl_mX11_feast_2 (zf : Int32) (x36 : Int32) (h0 : ¬ zf < 0) (h1 : ¬ 8 < zf) (h2 : ¬ zf = 8) (h3 : x36 = (336 + (3 * zf))) : (¬ (x36 + 1) < 0 ∧ ¬ 360 ≤ (x36 + 1)) := by grind
theorem gl_mX11_feast_3 (zf : Int32) (x36 : Int32) (h0 : ¬ zf < 0) (h1 : ¬ 8 < zf) (h2 : ¬ zf = 8) (h3 : x36 = (336 + (3 * zf))) : ¬ (x36 + 1) < 312 := by grind
theorem gl_mX11_feast_4 (zf : Int32) (x36 : Int32) (h0 : ¬ zf < 0) (h1 : ¬ 8 < zf) (h2 : ¬ zf = 8) (h3 : x36 = (336 + (3 * zf))) : (¬ (x36 + 2) < 0 ∧ ¬ 360 ≤ (x36 + 2)) := by grind
theorem gl_mX11_feast_5 (zf : Int32) (x36 : Int32) (h0 : ¬ zf < 0) (h1 : ¬ 8 < zf) (h2 : ¬ zf = 8) (h3 : x36 = (336 + (3 * zf))) : ¬ (x36 + 2) < 312 := by grind
set_option maxRecDepth 100000 in
def fX11_feast (saidF : Nat → Int32) (zn : Int32) (zf : Int32) (p0 : Int32) (p1 : Int32) (p2 : Int32) : (Nat → Int32) := if zf = 8 then (saidF) else (if (hs p0 zn) = 0 then (saidF) else (if (li p1.toInt64 0 4166) = 0 then (saidF) else (if (li p2.toInt64 1 99999) = 0 then (saidF) else (bnd ((336 + (3 * zf))) (fun (x36 : Int32) => bnd ((upd saidF x36.toNatClampNeg p0)) (fun (f37 : Nat → Int32) => bnd ((upd f37 (x36 + 1).toNatClampNeg p1)) (fun (f48 : Nat → Int32) => bnd ((upd f48 (x36 + 2).toNatClampNeg p2)) (fun (f59 : Nat → Int32) => bnd ((upd f59 (4 : Int32).toNatClampNeg (zf + 1))) (fun (f70 : Nat → Int32) => f70)))))))))
set_option maxHeartbeats 4000000 in
set_option maxRecDepth 100000 in
theorem mX11_feast (l : Launch) (dC : Nat → ClassId) (dI : Nat → Nat → Nat) (kA : Nat → ClassId) (sz : Nat) (n0 : Nat) (m_taped : Int32) (m_laws : Int32) (m_next : Int32) (m_wrong : Int32) (m_number : Int32) (m_text : Int32) (m_made : Int32) (m_deep : Int32) (m_lines : Int32) (m_opened : Int32) (m_top : Int32) (m_goNode : Int32) (m_goDrops : Int32) (m_goHour : Int32) (m_goFelt : Int32) (m_goSalt : Int32) (m_goMore : Int32) (m_bestLeft : Int32) (m_bestHour : Int32) (m_bestMany : Int32) (a_tape : Nat) (a_sign : Nat) (a_length : Nat) (a_clause : Nat) (a_clauses : Nat) (a_chain : Nat) (a_open : Nat) (a_stack : Nat) (a_word : Nat) (a_said : Nat) (a_kept : Nat) (a_stepNode : Nat) (a_stepDrops : Nat) (a_stepHour : Nat) (a_stepNext : Nat) (a_stepPass : Nat) (a_bestPass : Nat) (a_far : Nat) (a_waited : Nat) (a_servers : Nat) (a_images : Nat) (a_isMade : Nat) (saidF : Nat → Int32) (zn : Int32) (zp : Int32) (zj : Int32) (zo : Int32) (zf : Int32) (zm : Int32) (zk : Int32) (zw : Int32) (pd : Nat → Int32) (p0 : Int32) (p1 : Int32) (p2 : Int32) (hsc : SC saidF zn zp zj zo zf zm zk zw pd) : Met l yX11_feast wsX11_feast ({ frames := 1, cells := 0, slots := 0, locals := 25 }) (zPc dC dI kA sz [.ref n0, .int p0, .int p1, .int p2] [(n0, .inr (11, .ref a_tape :: .int m_taped :: .int m_laws :: .ref a_sign :: .ref a_length :: .ref a_clause :: .ref a_clauses :: .ref a_chain :: .int m_next :: .int m_wrong :: .int m_number :: .int m_text :: .int m_made :: .int m_deep :: .int m_lines :: .ref a_open :: .int m_opened :: .ref a_stack :: .int m_top :: .ref a_word :: .ref a_said :: .ref a_kept :: [.int m_goNode, .int m_goDrops, .int m_goHour, .int m_goFelt, .int m_goSalt, .int m_goMore, .ref a_stepNode, .ref a_stepDrops, .ref a_stepHour, .ref a_stepNext, .ref a_stepPass, .int m_bestLeft, .int m_bestHour, .int m_bestMany, .ref a_bestPass, .ref a_far, .ref a_waited, .ref a_servers, .ref a_images, .ref a_isMade])), (a_said, .inl (kA 0, 360, .inl saidF))]) (va_Qi (fun (r : Int32) (u : (Nat → Int32)) => r = (ra (ok_fe p0 p1 p2 zn zf) (zf + 1)) ∧ u = fX11_feast saidF zn zf p0 p1 p2 ∧ SC u zn zp zj zo (rz (ok_fe p0 p1 p2 zn zf) zf) zm zk zw pd) (zB dC dI (va_A [(n0, .inr (11, .ref a_tape :: .int m_taped :: .int m_laws :: .ref a_sign :: .ref a_length :: .ref a_clause :: .ref a_clauses :: .ref a_chain :: .int m_next :: .int m_wrong :: .int m_number :: .int m_text :: .int m_made :: .int m_deep :: .int m_lines :: .ref a_open :: .int m_opened :: .ref a_stack :: .int m_top :: .ref a_word :: .ref a_said :: .ref a_kept :: [.int m_goNode, .int m_goDrops, .int m_goHour, .int m_goFelt, .int m_goSalt, .int m_goMore, .ref a_stepNode, .ref a_stepDrops, .ref a_stepHour, .ref a_stepNext, .ref a_stepPass, .int m_bestLeft, .int m_bestHour, .int m_bestMany, .ref a_bestPass, .ref a_far, .ref a_waited, .ref a_servers, .ref a_images, .ref a_isMade])), (a_said, .inl (kA 0, 360, .inl saidF))] sz) (fun (u : (Nat → Int32)) => [(n0, .inr (11, .ref a_tape :: .int m_taped :: .int m_laws :: .ref a_sign :: .ref a_length :: .ref a_clause :: .ref a_clauses :: .ref a_chain :: .int m_next :: .int m_wrong :: .int m_number :: .int m_text :: .int m_made :: .int m_deep :: .int m_lines :: .ref a_open :: .int m_opened :: .ref a_stack :: .int m_top :: .ref a_word :: .ref a_said :: .ref a_kept :: [.int m_goNode, .int m_goDrops, .int m_goHour, .int m_goFelt, .int m_goSalt, .int m_goMore, .ref a_stepNode, .ref a_stepDrops, .ref a_stepHour, .ref a_stepNext, .ref a_stepPass, .int m_bestLeft, .int m_bestHour, .int m_bestMany, .ref a_bestPass, .ref a_far, .ref a_waited, .ref a_servers, .ref a_images, .ref a_isMade])), (a_said, .inl (kA 0, 360, .inl u))])) (va_A [(n0, .inr (11, .ref a_tape :: .int m_taped :: .int m_laws :: .ref a_sign :: .ref a_length :: .ref a_clause :: .ref a_clauses :: .ref a_chain :: .int m_next :: .int m_wrong :: .int m_number :: .int m_text :: .int m_made :: .int m_deep :: .int m_lines :: .ref a_open :: .int m_opened :: .ref a_stack :: .int m_top :: .ref a_word :: .ref a_said :: .ref a_kept :: [.int m_goNode, .int m_goDrops, .int m_goHour, .int m_goFelt, .int m_goSalt, .int m_goMore, .ref a_stepNode, .ref a_stepDrops, .ref a_stepHour, .ref a_stepNext, .ref a_stepPass, .int m_bestLeft, .int m_bestHour, .int m_bestMany, .ref a_bestPass, .ref a_far, .ref a_waited, .ref a_servers, .ref a_images, .ref a_isMade])), (a_said, .inl (kA 0, 360, .inl saidF))] sz)) 0 0 (va_A [(n0, .inr (11, .ref a_tape :: .int m_taped :: .int m_laws :: .ref a_sign :: .ref a_length :: .ref a_clause :: .ref a_clauses :: .ref a_chain :: .int m_next :: .int m_wrong :: .int m_number :: .int m_text :: .int m_made :: .int m_deep :: .int m_lines :: .ref a_open :: .int m_opened :: .ref a_stack :: .int m_top :: .ref a_word :: .ref a_said :: .ref a_kept :: [.int m_goNode, .int m_goDrops, .int m_goHour, .int m_goFelt, .int m_goSalt, .int m_goMore, .ref a_stepNode, .ref a_stepDrops, .ref a_stepHour, .ref a_stepNext, .ref a_stepPass, .int m_bestLeft, .int m_bestHour, .int m_bestMany, .ref a_bestPass, .ref a_far, .ref a_waited, .ref a_servers, .ref a_images, .ref a_isMade])), (a_said, .inl (kA 0, 360, .inl saidF))] sz) := by
  refine Met.ofW (cc := cX11_feast) (maxL := 5) (ret := (some .int)) pnX11 rfl ?_
  intro p e s m args below meth c s₁ B hml hv
  obtain ⟨rfl, hsz, hP, hK, hD0⟩ := hv
  have hx := B.exec
  have hb := B.bytes
  have hr := B.returns
  have hts := atoms_spec (ws := wsX11_feast) B.pre
  have hown : s.vm.findClass RX11 = some m.cls := findClass_of_methodNamed B.named
  have hlocks := B.notSynchronized
  subst hsz
  have hD := hD0.self (sz := s.heap.size)
  generalize hAe : va_A [(n0, .inr (11, .ref a_tape :: .int m_taped :: .int m_laws :: .ref a_sign :: .ref a_length :: .ref a_clause :: .ref a_clauses :: .ref a_chain :: .int m_next :: .int m_wrong :: .int m_number :: .int m_text :: .int m_made :: .int m_deep :: .int m_lines :: .ref a_open :: .int m_opened :: .ref a_stack :: .int m_top :: .ref a_word :: .ref a_said :: .ref a_kept :: [.int m_goNode, .int m_goDrops, .int m_goHour, .int m_goFelt, .int m_goSalt, .int m_goMore, .ref a_stepNode, .ref a_stepDrops, .ref a_stepHour, .ref a_stepNext, .ref a_stepPass, .int m_bestLeft, .int m_bestHour, .int m_bestMany, .ref a_bestPass, .ref a_far, .ref a_waited, .ref a_servers, .ref a_images, .ref a_isMade])), (a_said, .inl (kA 0, 360, .inl saidF))] s.heap.size = A at hD ⊢
  have hA : ∀ q : Nat, s.heap.size ≤ q → A q := zA_of hAe
  have hS : va_S A s.heap s.heap [] := va_S.rf
  have hP : va_P (dC, dI) vwCl [(n0, .inr (11, .ref a_tape :: .int m_taped :: .int m_laws :: .ref a_sign :: .ref a_length :: .ref a_clause :: .ref a_clauses :: .ref a_chain :: .int m_next :: .int m_wrong :: .int m_number :: .int m_text :: .int m_made :: .int m_deep :: .int m_lines :: .ref a_open :: .int m_opened :: .ref a_stack :: .int m_top :: .ref a_word :: .ref a_said :: .ref a_kept :: [.int m_goNode, .int m_goDrops, .int m_goHour, .int m_goFelt, .int m_goSalt, .int m_goMore, .ref a_stepNode, .ref a_stepDrops, .ref a_stepHour, .ref a_stepNext, .ref a_stepPass, .int m_bestLeft, .int m_bestHour, .int m_bestMany, .ref a_bestPass, .ref a_far, .ref a_waited, .ref a_servers, .ref a_images, .ref a_isMade])), (a_said, .inl (kA 0, 360, .inl saidF))] s.heap := hP
  have hl := lv_entry ([.ref n0, .int p0, .int p1, .int p2]) (n := 5) (Nat.le_of_ble_eq_true rfl)
  rw [lg_entry_eq]
  generalize (lg_sl ([.ref n0, .int p0, .int p1, .int p2]) ++ List.replicate (5 - (lg_sl ([.ref n0, .int p0, .int p1, .int p2])).length) Slot.unset).toArray = ls at hl ⊢
  have hl : lv_has ls 5 [(0, .ref n0), (1, .int p0), (2, .int p1), (3, .int p2)] := hl
  obtain ⟨H, hHe⟩ : ∃ H : Heap, H = s.heap := ⟨_, rfl⟩
  obtain ⟨G, hG0⟩ : ∃ G : (Nat → Int32), fX11_feast saidF zn zf p0 p1 p2 = G := ⟨_, rfl⟩
  have hG := hG0
  unfold fX11_feast at hG
  have hz1 : saidF 0 = zn := hsc.1.1
  have hz2 : saidF 1 = zp := hsc.1.2.1
  have hz3 : saidF 2 = zj := hsc.1.2.2.1
  have hz4 : saidF 3 = zo := hsc.1.2.2.2.1
  have hz5 : saidF 4 = zf := hsc.1.2.2.2.2.1
  have hz6 : saidF 6 = zm := hsc.1.2.2.2.2.2.1
  have hz7 : saidF 8 = zk := hsc.1.2.2.2.2.2.2.1
  have hz8 : saidF 9 = zw := hsc.1.2.2.2.2.2.2.2
  have hz9 : ¬ zn < 0 := hsc.2.1.1
  have hz10 : ¬ 12 < zn := hsc.2.1.2
  have hz11 : ¬ zp < 0 := hsc.2.2.1.1
  have hz12 : ¬ 20 < zp := hsc.2.2.1.2
  have hz13 : ¬ zj < 0 := hsc.2.2.2.1.1
  have hz14 : ¬ 16 < zj := hsc.2.2.2.1.2
  have hz15 : ¬ zo < 0 := hsc.2.2.2.2.1.1
  have hz16 : ¬ 6 < zo := hsc.2.2.2.2.1.2
  have hz17 : ¬ zf < 0 := hsc.2.2.2.2.2.1.1
  have hz18 : ¬ 8 < zf := hsc.2.2.2.2.2.1.2
  have hz19 : ¬ zk < (-1) := hsc.2.2.2.2.2.2.1.1
  have hz20 : ¬ 12 ≤ zk := hsc.2.2.2.2.2.2.1.2
  have hz21 : ¬ zw < 0 := hsc.2.2.2.2.2.2.2.1.1
  have hz22 : ¬ 6 < zw := hsc.2.2.2.2.2.2.2.1.2
  refine lv_aload_n hx hb dX11_feast_0 rfl (lv_at hl 0 rfl) ?_
  refine va_get (D := (dC, dI)) (ci := 11) (v := .ref a_said) (C := RX11) (T := TX11) (N := 42) hx hb hts iX11_feast_X11 hown hK.1 hP 0 gz0 vcz11 20 (by decide) (kX11_feast_1 hts) (fun _ h9 => h9) gz20 dX11_feast_1 ?_
  refine lv_iconst (v := 4) hx hb dX11_feast_4 (by decide) ?_
  refine va_iald hx hb hK.1 hP 1 0 gz1 tzz0 (vpd (by decide)) dX11_feast_5 ?_
  refine zi zf hz5 ?_
  refine lv_bipush (v := 8) hx hb dX11_feast_6 (by decide) ?_
  refine lv_icmp_eq (tgt := 43) hx hb dX11_feast_8 (by decide) (fun c_23 => ?_) (fun c_23 => ?_)
  · have hG := zthen hG c_23
    refine lv_iconst (v := (-1)) hx hb dX11_feast_43 (by decide) ?_
    obtain ⟨hP9, hD9⟩ := z_sb (L' := [(n0, .inr (11, .ref a_tape :: .int m_taped :: .int m_laws :: .ref a_sign :: .ref a_length :: .ref a_clause :: .ref a_clauses :: .ref a_chain :: .int m_next :: .int m_wrong :: .int m_number :: .int m_text :: .int m_made :: .int m_deep :: .int m_lines :: .ref a_open :: .int m_opened :: .ref a_stack :: .int m_top :: .ref a_word :: .ref a_said :: .ref a_kept :: [.int m_goNode, .int m_goDrops, .int m_goHour, .int m_goFelt, .int m_goSalt, .int m_goMore, .ref a_stepNode, .ref a_stepDrops, .ref a_stepHour, .ref a_stepNext, .ref a_stepPass, .int m_bestLeft, .int m_bestHour, .int m_bestMany, .ref a_bestPass, .ref a_far, .ref a_waited, .ref a_servers, .ref a_images, .ref a_isMade])), (a_said, .inl (kA 0, 360, .inl saidF))]) hP hD [0, 1] (by decide) rfl
    refine W.widen (k := 0) (n := 0) (Nat.le_of_ble_eq_true rfl) (Nat.le_of_ble_eq_true rfl) ?_
    exact W.iret (v := (-1)) hx hb hr (fun t ht hW => ⟨⟨(-1), (saidF), rfl, ⟨(by have hok : ok_fe p0 p1 p2 zn zf = 0 := (by simp [ok_fe, c_23]); rw [hok]; rfl), (hG.trans hG0.symm), (by have hok : ok_fe p0 p1 p2 zn zf = 0 := (by simp [ok_fe, c_23]); rw [hok]; exact hsc)⟩, by rw [ht]; exact hP9, hD9⟩, hS.F ht⟩) hS.2.2 dX11_feast_44
  · have hG := zelse hG c_23
    refine lv_aload_n hx hb dX11_feast_11 rfl (lv_at hl 0 rfl) ?_
    refine lv_iload_n hx hb dX11_feast_12 rfl (lv_at hl 1 rfl) ?_
    refine z_i (wr := []) (va_runV (As := [.int p0]) (rest := []) ⟨hx, hb, hml, hown, hts⟩ (mX11_isNode l dC dI kA _ n0 m_taped m_laws m_next m_wrong m_number m_text m_made m_deep m_lines m_opened m_top m_goNode m_goDrops m_goHour m_goFelt m_goSalt m_goMore m_bestLeft m_bestHour m_bestMany a_tape a_sign a_length a_clause a_clauses a_chain a_open a_stack a_word a_said a_kept a_stepNode a_stepDrops a_stepHour a_stepNext a_stepPass a_bestPass a_far a_waited a_servers a_images a_isMade saidF zn zp zj zo zf zm zk zw pd p0 hsc) (cwV 1 hts gX11_feast_X11_isNode rfl rfl rfl ⟨rfl, hdX11_isNode⟩ ⟨(Nat.le_of_ble_eq_true rfl), (Nat.le_of_ble_eq_true rfl)⟩) ⟨zPc.blind, va_recv (q := (RX11, TX11, 42)) hK.1 hP (ci := 11) (q0 := 0) rfl rfl, zPre hK (hP.sub [0, 1] rfl) (hD.sub [0, 1] (by decide) rfl)⟩ rfl rfl hl.1 rfl (lv_room (Nat.le_of_ble_eq_true rfl)) dX11_feast_13 ⟨(Nat.le_of_ble_eq_true rfl), (Nat.le_of_ble_eq_true rfl)⟩) hP hD hS hA [0, 1] [] rfl rfl (by decide) (by decide) (fun r26 u24 H locs hw25 hP hD hS => ?_)
    obtain rfl := hw25
    obtain ⟨hP, hD⟩ := z_re (L := [(n0, .inr (11, .ref a_tape :: .int m_taped :: .int m_laws :: .ref a_sign :: .ref a_length :: .ref a_clause :: .ref a_clauses :: .ref a_chain :: .int m_next :: .int m_wrong :: .int m_number :: .int m_text :: .int m_made :: .int m_deep :: .int m_lines :: .ref a_open :: .int m_opened :: .ref a_stack :: .int m_top :: .ref a_word :: .ref a_said :: .ref a_kept :: [.int m_goNode, .int m_goDrops, .int m_goHour, .int m_goFelt, .int m_goSalt, .int m_goMore, .ref a_stepNode, .ref a_stepDrops, .ref a_stepHour, .ref a_stepNext, .ref a_stepPass, .int m_bestLeft, .int m_bestHour, .int m_bestMany, .ref a_bestPass, .ref a_far, .ref a_waited, .ref a_servers, .ref a_images, .ref a_isMade])), (a_said, .inl (kA 0, 360, .inl saidF))]) hP hD
    refine lv_if_eq (tgt := 43) hx hb dX11_feast_16 (by decide) (fun c_27 => ?_) (fun c_27 => ?_)
    · have hG := zthen hG c_27
      refine lv_iconst (v := (-1)) hx hb dX11_feast_43 (by decide) ?_
      obtain ⟨hP9, hD9⟩ := z_sb (L' := [(n0, .inr (11, .ref a_tape :: .int m_taped :: .int m_laws :: .ref a_sign :: .ref a_length :: .ref a_clause :: .ref a_clauses :: .ref a_chain :: .int m_next :: .int m_wrong :: .int m_number :: .int m_text :: .int m_made :: .int m_deep :: .int m_lines :: .ref a_open :: .int m_opened :: .ref a_stack :: .int m_top :: .ref a_word :: .ref a_said :: .ref a_kept :: [.int m_goNode, .int m_goDrops, .int m_goHour, .int m_goFelt, .int m_goSalt, .int m_goMore, .ref a_stepNode, .ref a_stepDrops, .ref a_stepHour, .ref a_stepNext, .ref a_stepPass, .int m_bestLeft, .int m_bestHour, .int m_bestMany, .ref a_bestPass, .ref a_far, .ref a_waited, .ref a_servers, .ref a_images, .ref a_isMade])), (a_said, .inl (kA 0, 360, .inl saidF))]) hP hD [0, 1] (by decide) rfl
      refine W.widen (k := 0) (n := 0) (Nat.le_of_ble_eq_true rfl) (Nat.le_of_ble_eq_true rfl) ?_
      exact W.iret (v := (-1)) hx hb hr (fun t ht hW => ⟨⟨(-1), (saidF), rfl, ⟨(by have hok : ok_fe p0 p1 p2 zn zf = 0 := (by simp [ok_fe, c_23, c_27]); rw [hok]; rfl), (hG.trans hG0.symm), (by have hok : ok_fe p0 p1 p2 zn zf = 0 := (by simp [ok_fe, c_23, c_27]); rw [hok]; exact hsc)⟩, by rw [ht]; exact hP9, hD9⟩, hS.F ht⟩) hS.2.2 dX11_feast_44
    · have hG := zelse hG c_27
      have c_27a := hs_ne c_27
      have c_27b := c_27a.2
      have c_27a := c_27a.1
      refine lv_iload_n hx hb dX11_feast_19 rfl (lv_at hl 2 rfl) ?_
      refine lv_i2l hx hb dX11_feast_20 rfl ?_
      refine lv_lconst (v := 0) hx hb dX11_feast_21 (by decide) ?_
      refine lv_ldc2 hx hb hown (kX11_feast_2 hts) dX11_feast_22 ?_
      refine z_i (wr := [(n0, .inr (11, .ref a_tape :: .int m_taped :: .int m_laws :: .ref a_sign :: .ref a_length :: .ref a_clause :: .ref a_clauses :: .ref a_chain :: .int m_next :: .int m_wrong :: .int m_number :: .int m_text :: .int m_made :: .int m_deep :: .int m_lines :: .ref a_open :: .int m_opened :: .ref a_stack :: .int m_top :: .ref a_word :: .ref a_said :: .ref a_kept :: [.int m_goNode, .int m_goDrops, .int m_goHour, .int m_goFelt, .int m_goSalt, .int m_goMore, .ref a_stepNode, .ref a_stepDrops, .ref a_stepHour, .ref a_stepNext, .ref a_stepPass, .int m_bestLeft, .int m_bestHour, .int m_bestMany, .ref a_bestPass, .ref a_far, .ref a_waited, .ref a_servers, .ref a_images, .ref a_isMade])), (a_said, .inl (kA 0, 360, .inl saidF))]) (va_runS (As := [.long p1.toInt64, .long 0, .long 4166]) (rest := []) ⟨hx, hb, hml, hown, hts⟩ (mX11_in l dC dI kA _ p1.toInt64 0 4166) (va_cwS 3 hts gX11_feast_X11_in rfl rfl rfl hdX11_in ⟨(Nat.le_of_ble_eq_true rfl), (Nat.le_of_ble_eq_true rfl)⟩) ⟨zPc.blind, zPre hK (hP.sub [] rfl) (hD.sub [] (by decide) rfl)⟩ rfl rfl hl.1 rfl (lv_room (Nat.le_of_ble_eq_true rfl)) dX11_feast_25 ⟨(Nat.le_of_ble_eq_true rfl), (Nat.le_of_ble_eq_true rfl)⟩) hP hD hS hA [] [0, 1] rfl rfl (by decide) (by decide) (fun r30 u28 H locs hw29 hP hD hS => ?_)
      obtain rfl := hw29
      obtain ⟨hP, hD⟩ := z_re (L := [(n0, .inr (11, .ref a_tape :: .int m_taped :: .int m_laws :: .ref a_sign :: .ref a_length :: .ref a_clause :: .ref a_clauses :: .ref a_chain :: .int m_next :: .int m_wrong :: .int m_number :: .int m_text :: .int m_made :: .int m_deep :: .int m_lines :: .ref a_open :: .int m_opened :: .ref a_stack :: .int m_top :: .ref a_word :: .ref a_said :: .ref a_kept :: [.int m_goNode, .int m_goDrops, .int m_goHour, .int m_goFelt, .int m_goSalt, .int m_goMore, .ref a_stepNode, .ref a_stepDrops, .ref a_stepHour, .ref a_stepNext, .ref a_stepPass, .int m_bestLeft, .int m_bestHour, .int m_bestMany, .ref a_bestPass, .ref a_far, .ref a_waited, .ref a_servers, .ref a_images, .ref a_isMade])), (a_said, .inl (kA 0, 360, .inl saidF))]) hP hD
      refine lv_if_eq (tgt := 43) hx hb dX11_feast_28 (by decide) (fun c_31 => ?_) (fun c_31 => ?_)
      · have hG := zthen hG c_31
        refine lv_iconst (v := (-1)) hx hb dX11_feast_43 (by decide) ?_
        obtain ⟨hP9, hD9⟩ := z_sb (L' := [(n0, .inr (11, .ref a_tape :: .int m_taped :: .int m_laws :: .ref a_sign :: .ref a_length :: .ref a_clause :: .ref a_clauses :: .ref a_chain :: .int m_next :: .int m_wrong :: .int m_number :: .int m_text :: .int m_made :: .int m_deep :: .int m_lines :: .ref a_open :: .int m_opened :: .ref a_stack :: .int m_top :: .ref a_word :: .ref a_said :: .ref a_kept :: [.int m_goNode, .int m_goDrops, .int m_goHour, .int m_goFelt, .int m_goSalt, .int m_goMore, .ref a_stepNode, .ref a_stepDrops, .ref a_stepHour, .ref a_stepNext, .ref a_stepPass, .int m_bestLeft, .int m_bestHour, .int m_bestMany, .ref a_bestPass, .ref a_far, .ref a_waited, .ref a_servers, .ref a_images, .ref a_isMade])), (a_said, .inl (kA 0, 360, .inl saidF))]) hP hD [0, 1] (by decide) rfl
        refine W.widen (k := 0) (n := 0) (Nat.le_of_ble_eq_true rfl) (Nat.le_of_ble_eq_true rfl) ?_
        exact W.iret (v := (-1)) hx hb hr (fun t ht hW => ⟨⟨(-1), (saidF), rfl, ⟨(by have hok : ok_fe p0 p1 p2 zn zf = 0 := (by simp [ok_fe, c_23, c_27, c_31]); rw [hok]; rfl), (hG.trans hG0.symm), (by have hok : ok_fe p0 p1 p2 zn zf = 0 := (by simp [ok_fe, c_23, c_27, c_31]); rw [hok]; exact hsc)⟩, by rw [ht]; exact hP9, hD9⟩, hS.F ht⟩) hS.2.2 dX11_feast_44
      · have hG := zelse hG c_31
        have c_31a := li_ne (lo := 0) (hi := 4166) (by decide) (by decide) c_31
        have c_31b := c_31a.2
        have c_31a := c_31a.1
        refine lv_iload_n hx hb dX11_feast_31 rfl (lv_at hl 3 rfl) ?_
        refine lv_i2l hx hb dX11_feast_32 rfl ?_
        refine lv_lconst (v := 1) hx hb dX11_feast_33 (by decide) ?_
        refine lv_ldc2 hx hb hown (kX11_feast_3 hts) dX11_feast_34 ?_
        refine z_i (wr := [(n0, .inr (11, .ref a_tape :: .int m_taped :: .int m_laws :: .ref a_sign :: .ref a_length :: .ref a_clause :: .ref a_clauses :: .ref a_chain :: .int m_next :: .int m_wrong :: .int m_number :: .int m_text :: .int m_made :: .int m_deep :: .int m_lines :: .ref a_open :: .int m_opened :: .ref a_stack :: .int m_top :: .ref a_word :: .ref a_said :: .ref a_kept :: [.int m_goNode, .int m_goDrops, .int m_goHour, .int m_goFelt, .int m_goSalt, .int m_goMore, .ref a_stepNode, .ref a_stepDrops, .ref a_stepHour, .ref a_stepNext, .ref a_stepPass, .int m_bestLeft, .int m_bestHour, .int m_bestMany, .ref a_bestPass, .ref a_far, .ref a_waited, .ref a_servers, .ref a_images, .ref a_isMade])), (a_said, .inl (kA 0, 360, .inl saidF))]) (va_runS (As := [.long p2.toInt64, .long 1, .long 99999]) (rest := []) ⟨hx, hb, hml, hown, hts⟩ (mX11_in l dC dI kA _ p2.toInt64 1 99999) (va_cwS 3 hts gX11_feast_X11_in rfl rfl rfl hdX11_in ⟨(Nat.le_of_ble_eq_true rfl), (Nat.le_of_ble_eq_true rfl)⟩) ⟨zPc.blind, zPre hK (hP.sub [] rfl) (hD.sub [] (by decide) rfl)⟩ rfl rfl hl.1 rfl (lv_room (Nat.le_of_ble_eq_true rfl)) dX11_feast_37 ⟨(Nat.le_of_ble_eq_true rfl), (Nat.le_of_ble_eq_true rfl)⟩) hP hD hS hA [] [0, 1] rfl rfl (by decide) (by decide) (fun r34 u32 H locs hw33 hP hD hS => ?_)
        obtain rfl := hw33
        obtain ⟨hP, hD⟩ := z_re (L := [(n0, .inr (11, .ref a_tape :: .int m_taped :: .int m_laws :: .ref a_sign :: .ref a_length :: .ref a_clause :: .ref a_clauses :: .ref a_chain :: .int m_next :: .int m_wrong :: .int m_number :: .int m_text :: .int m_made :: .int m_deep :: .int m_lines :: .ref a_open :: .int m_opened :: .ref a_stack :: .int m_top :: .ref a_word :: .ref a_said :: .ref a_kept :: [.int m_goNode, .int m_goDrops, .int m_goHour, .int m_goFelt, .int m_goSalt, .int m_goMore, .ref a_stepNode, .ref a_stepDrops, .ref a_stepHour, .ref a_stepNext, .ref a_stepPass, .int m_bestLeft, .int m_bestHour, .int m_bestMany, .ref a_bestPass, .ref a_far, .ref a_waited, .ref a_servers, .ref a_images, .ref a_isMade])), (a_said, .inl (kA 0, 360, .inl saidF))]) hP hD
        refine lv_if_ne (tgt := 45) hx hb dX11_feast_40 (by decide) (fun c_35 => ?_) (fun c_35 => ?_)
        · have hG := zelse hG c_35
          have c_35a := li_ne (lo := 1) (hi := 99999) (by decide) (by decide) c_35
          have c_35b := c_35a.2
          have c_35a := c_35a.1
          refine lv_sipush (v := 336) hx hb dX11_feast_45 (by decide) ?_
          refine lv_iconst (v := 3) hx hb dX11_feast_48 (by decide) ?_
          refine lv_aload_n hx hb dX11_feast_49 rfl (lv_at hl 0 rfl) ?_
          refine va_get (D := (dC, dI)) (ci := 11) (v := .ref a_said) (C := RX11) (T := TX11) (N := 42) hx hb hts iX11_feast_X11 hown hK.1 hP 0 gz0 vcz11 20 (by decide) (kX11_feast_1 hts) (fun _ h9 => h9) gz20 dX11_feast_50 ?_
          refine lv_iconst (v := 4) hx hb dX11_feast_53 (by decide) ?_
          refine va_iald hx hb hK.1 hP 1 0 gz1 tzz0 (vpd (by decide)) dX11_feast_54 ?_
          refine zi zf hz5 ?_
          refine lv_imul hx hb dX11_feast_55 ?_
          refine lv_iadd hx hb dX11_feast_56 ?_
          refine lv_topi (fun x36 ex36 => ?_)
          have hG := zbnd hG ex36
          refine lv_istore (lv' := [(4, .int x36), (0, .ref n0), (1, .int p0), (2, .int p1), (3, .int p2)]) hx hb dX11_feast_57 hl (by decide) rfl (fun ls hl => ?_)
          refine lv_aload_n hx hb dX11_feast_59 rfl (lv_at hl 1 rfl) ?_
          refine va_get (D := (dC, dI)) (ci := 11) (v := .ref a_said) (C := RX11) (T := TX11) (N := 42) hx hb hts iX11_feast_X11 hown hK.1 hP 0 gz0 vcz11 20 (by decide) (kX11_feast_1 hts) (fun _ h9 => h9) gz20 dX11_feast_60 ?_
          refine lv_iload hx hb dX11_feast_63 (lv_at hl 0 rfl) ?_
          refine lv_iload_n hx hb dX11_feast_65 rfl (lv_at hl 2 rfl) ?_
          refine va_iast hx hb hK.1 hP hD hS 1 0 gz1 tzz0 (vp_g (N := 360) (by decide) (gl_mX11_feast_0 zf x36 hz17 hz18 c_23 ex36)) dX11_feast_66 (fun H locs hP hD hS => ?_)
          obtain ⟨hP, hD⟩ := z_re (L := [(n0, .inr (11, .ref a_tape :: .int m_taped :: .int m_laws :: .ref a_sign :: .ref a_length :: .ref a_clause :: .ref a_clauses :: .ref a_chain :: .int m_next :: .int m_wrong :: .int m_number :: .int m_text :: .int m_made :: .int m_deep :: .int m_lines :: .ref a_open :: .int m_opened :: .ref a_stack :: .int m_top :: .ref a_word :: .ref a_said :: .ref a_kept :: [.int m_goNode, .int m_goDrops, .int m_goHour, .int m_goFelt, .int m_goSalt, .int m_goMore, .ref a_stepNode, .ref a_stepDrops, .ref a_stepHour, .ref a_stepNext, .ref a_stepPass, .int m_bestLeft, .int m_bestHour, .int m_bestMany, .ref a_bestPass, .ref a_far, .ref a_waited, .ref a_servers, .ref a_images, .ref a_isMade])), (a_said, .inl (kA 0, 360, .inl (upd saidF x36.toNatClampNeg p0)))]) hP hD
          obtain ⟨f37, ef37⟩ : ∃ y : Nat → Int32, y = (upd saidF x36.toNatClampNeg p0) := ⟨_, rfl⟩
          rw [← ef37] at hP hD
          have hG := zbnd hG ef37
          have hu38 := upd_at ef37
          have hk39 : SC f37 zn zp zj zo zf zm zk zw pd := by rw [ef37]; exact SC_of hsc (gl_mX11_feast_1 zf x36 hz17 hz18 c_23 ex36)
          have hz40 : f37 0 = zn := hk39.1.1
          have hz41 : f37 1 = zp := hk39.1.2.1
          have hz42 : f37 2 = zj := hk39.1.2.2.1
          have hz43 : f37 3 = zo := hk39.1.2.2.2.1
          have hz44 : f37 4 = zf := hk39.1.2.2.2.2.1
          have hz45 : f37 6 = zm := hk39.1.2.2.2.2.2.1
          have hz46 : f37 8 = zk := hk39.1.2.2.2.2.2.2.1
          have hz47 : f37 9 = zw := hk39.1.2.2.2.2.2.2.2
          refine lv_aload_n hx hb dX11_feast_67 rfl (lv_at hl 1 rfl) ?_
          refine va_get (D := (dC, dI)) (ci := 11) (v := .ref a_said) (C := RX11) (T := TX11) (N := 42) hx hb hts iX11_feast_X11 hown hK.1 hP 0 gz0 vcz11 20 (by decide) (kX11_feast_1 hts) (fun _ h9 => h9) gz20 dX11_feast_68 ?_
          refine lv_iload hx hb dX11_feast_71 (lv_at hl 0 rfl) ?_
          refine lv_iconst (v := 1) hx hb dX11_feast_73 (by decide) ?_
          refine lv_iadd hx hb dX11_feast_74 ?_
          refine lv_iload_n hx hb dX11_feast_75 rfl (lv_at hl 3 rfl) ?_
          refine va_iast hx hb hK.1 hP hD hS 1 0 gz1 tzz0 (vp_g (N := 360) (by decide) (gl_mX11_feast_2 zf x36 hz17 hz18 c_23 ex36)) dX11_feast_76 (fun H locs hP hD hS => ?_)
          obtain ⟨hP, hD⟩ := z_re (L := [(n0, .inr (11, .ref a_tape :: .int m_taped :: .int m_laws :: .ref a_sign :: .ref a_length :: .ref a_clause :: .ref a_clauses :: .ref a_chain :: .int m_next :: .int m_wrong :: .int m_number :: .int m_text :: .int m_made :: .int m_deep :: .int m_lines :: .ref a_open :: .int m_opened :: .ref a_stack :: .int m_top :: .ref a_word :: .ref a_said :: .ref a_kept :: [.int m_goNode, .int m_goDrops, .int m_goHour, .int m_goFelt, .int m_goSalt, .int m_goMore, .ref a_stepNode, .ref a_stepDrops, .ref a_stepHour, .ref a_stepNext, .ref a_stepPass, .int m_bestLeft, .int m_bestHour, .int m_bestMany, .ref a_bestPass, .ref a_far, .ref a_waited, .ref a_servers, .ref a_images, .ref a_isMade])), (a_said, .inl (kA 0, 360, .inl (upd f37 (x36 + 1).toNatClampNeg p1)))]) hP hD
          obtain ⟨f48, ef48⟩ : ∃ y : Nat → Int32, y = (upd f37 (x36 + 1).toNatClampNeg p1) := ⟨_, rfl⟩
          rw [← ef48] at hP hD
          have hG := zbnd hG ef48
          have hu49 := upd_at ef48
          have hk50 : SC f48 zn zp zj zo zf zm zk zw pd := by rw [ef48]; exact SC_of hk39 (gl_mX11_feast_3 zf x36 hz17 hz18 c_23 ex36)
          have hz51 : f48 0 = zn := hk50.1.1
          have hz52 : f48 1 = zp := hk50.1.2.1
          have hz53 : f48 2 = zj := hk50.1.2.2.1
          have hz54 : f48 3 = zo := hk50.1.2.2.2.1
          have hz55 : f48 4 = zf := hk50.1.2.2.2.2.1
          have hz56 : f48 6 = zm := hk50.1.2.2.2.2.2.1
          have hz57 : f48 8 = zk := hk50.1.2.2.2.2.2.2.1
          have hz58 : f48 9 = zw := hk50.1.2.2.2.2.2.2.2
          refine lv_aload_n hx hb dX11_feast_77 rfl (lv_at hl 1 rfl) ?_
          refine va_get (D := (dC, dI)) (ci := 11) (v := .ref a_said) (C := RX11) (T := TX11) (N := 42) hx hb hts iX11_feast_X11 hown hK.1 hP 0 gz0 vcz11 20 (by decide) (kX11_feast_1 hts) (fun _ h9 => h9) gz20 dX11_feast_78 ?_
          refine lv_iload hx hb dX11_feast_81 (lv_at hl 0 rfl) ?_
          refine lv_iconst (v := 2) hx hb dX11_feast_83 (by decide) ?_
          refine lv_iadd hx hb dX11_feast_84 ?_
          refine lv_iload_n hx hb dX11_feast_85 rfl (lv_at hl 4 rfl) ?_
          refine va_iast hx hb hK.1 hP hD hS 1 0 gz1 tzz0 (vp_g (N := 360) (by decide) (gl_mX11_feast_4 zf x36 hz17 hz18 c_23 ex36)) dX11_feast_86 (fun H locs hP hD hS => ?_)
          obtain ⟨hP, hD⟩ := z_re (L := [(n0, .inr (11, .ref a_tape :: .int m_taped :: .int m_laws :: .ref a_sign :: .ref a_length :: .ref a_clause :: .ref a_clauses :: .ref a_chain :: .int m_next :: .int m_wrong :: .int m_number :: .int m_text :: .int m_made :: .int m_deep :: .int m_lines :: .ref a_open :: .int m_opened :: .ref a_stack :: .int m_top :: .ref a_word :: .ref a_said :: .ref a_kept :: [.int m_goNode, .int m_goDrops, .int m_goHour, .int m_goFelt, .int m_goSalt, .int m_goMore, .ref a_stepNode, .ref a_stepDrops, .ref a_stepHour, .ref a_stepNext, .ref a_stepPass, .int m_bestLeft, .int m_bestHour, .int m_bestMany, .ref a_bestPass, .ref a_far, .ref a_waited, .ref a_servers, .ref a_images, .ref a_isMade])), (a_said, .inl (kA 0, 360, .inl (upd f48 (x36 + 2).toNatClampNeg p2)))]) hP hD
          obtain ⟨f59, ef59⟩ : ∃ y : Nat → Int32, y = (upd f48 (x36 + 2).toNatClampNeg p2) := ⟨_, rfl⟩
          rw [← ef59] at hP hD
          have hG := zbnd hG ef59
          have hu60 := upd_at ef59
          have hk61 : SC f59 zn zp zj zo zf zm zk zw pd := by rw [ef59]; exact SC_of hk50 (gl_mX11_feast_5 zf x36 hz17 hz18 c_23 ex36)
          have hz62 : f59 0 = zn := hk61.1.1
          have hz63 : f59 1 = zp := hk61.1.2.1
          have hz64 : f59 2 = zj := hk61.1.2.2.1
          have hz65 : f59 3 = zo := hk61.1.2.2.2.1
          have hz66 : f59 4 = zf := hk61.1.2.2.2.2.1
          have hz67 : f59 6 = zm := hk61.1.2.2.2.2.2.1
          have hz68 : f59 8 = zk := hk61.1.2.2.2.2.2.2.1
          have hz69 : f59 9 = zw := hk61.1.2.2.2.2.2.2.2
          refine lv_aload_n hx hb dX11_feast_87 rfl (lv_at hl 1 rfl) ?_
          refine va_get (D := (dC, dI)) (ci := 11) (v := .ref a_said) (C := RX11) (T := TX11) (N := 42) hx hb hts iX11_feast_X11 hown hK.1 hP 0 gz0 vcz11 20 (by decide) (kX11_feast_1 hts) (fun _ h9 => h9) gz20 dX11_feast_88 ?_
          refine lv_iconst (v := 4) hx hb dX11_feast_91 (by decide) ?_
          refine lv_dup2_11 hx hb dX11_feast_92 rfl rfl ?_
          refine va_iald hx hb hK.1 hP 1 0 gz1 tzz0 (vpd (by decide)) dX11_feast_93 ?_
          refine zi zf hz66 ?_
          refine lv_iconst (v := 1) hx hb dX11_feast_94 (by decide) ?_
          refine lv_iadd hx hb dX11_feast_95 ?_
          refine va_iast hx hb hK.1 hP hD hS 1 0 gz1 tzz0 (vpd (by decide)) dX11_feast_96 (fun H locs hP hD hS => ?_)
          obtain ⟨hP, hD⟩ := z_re (L := [(n0, .inr (11, .ref a_tape :: .int m_taped :: .int m_laws :: .ref a_sign :: .ref a_length :: .ref a_clause :: .ref a_clauses :: .ref a_chain :: .int m_next :: .int m_wrong :: .int m_number :: .int m_text :: .int m_made :: .int m_deep :: .int m_lines :: .ref a_open :: .int m_opened :: .ref a_stack :: .int m_top :: .ref a_word :: .ref a_said :: .ref a_kept :: [.int m_goNode, .int m_goDrops, .int m_goHour, .int m_goFelt, .int m_goSalt, .int m_goMore, .ref a_stepNode, .ref a_stepDrops, .ref a_stepHour, .ref a_stepNext, .ref a_stepPass, .int m_bestLeft, .int m_bestHour, .int m_bestMany, .ref a_bestPass, .ref a_far, .ref a_waited, .ref a_servers, .ref a_images, .ref a_isMade])), (a_said, .inl (kA 0, 360, .inl (upd f59 (4 : Int32).toNatClampNeg (zf + 1))))]) hP hD
          obtain ⟨f70, ef70⟩ : ∃ y : Nat → Int32, y = (upd f59 (4 : Int32).toNatClampNeg (zf + 1)) := ⟨_, rfl⟩
          rw [← ef70] at hP hD
          have hG := zbnd hG ef70
          have hu71 : f70 4 = (zf + 1) := upd_at ef70
          have hk72 : SC f70 zn zp zj zo (zf + 1) zm zk zw pd := by rw [ef70]; exact SC_zf hk61 c_23 rfl
          have hz73 : f70 0 = zn := hk72.1.1
          have hz74 : f70 1 = zp := hk72.1.2.1
          have hz75 : f70 2 = zj := hk72.1.2.2.1
          have hz76 : f70 3 = zo := hk72.1.2.2.2.1
          have hz77 : f70 6 = zm := hk72.1.2.2.2.2.2.1
          have hz78 : f70 8 = zk := hk72.1.2.2.2.2.2.2.1
          have hz79 : f70 9 = zw := hk72.1.2.2.2.2.2.2.2
          have hz80 : ¬ (zf + 1) < 0 := hk72.2.2.2.2.2.1.1
          have hz81 : ¬ 8 < (zf + 1) := hk72.2.2.2.2.2.1.2
          refine lv_aload_n hx hb dX11_feast_97 rfl (lv_at hl 1 rfl) ?_
          refine va_get (D := (dC, dI)) (ci := 11) (v := .ref a_said) (C := RX11) (T := TX11) (N := 42) hx hb hts iX11_feast_X11 hown hK.1 hP 0 gz0 vcz11 20 (by decide) (kX11_feast_1 hts) (fun _ h9 => h9) gz20 dX11_feast_98 ?_
          refine lv_iconst (v := 4) hx hb dX11_feast_101 (by decide) ?_
          refine va_iald hx hb hK.1 hP 1 0 gz1 tzz0 (vpd (by decide)) dX11_feast_102 ?_
          refine zi (f70 4) rfl ?_
          obtain ⟨hP9, hD9⟩ := z_sb (L' := [(n0, .inr (11, .ref a_tape :: .int m_taped :: .int m_laws :: .ref a_sign :: .ref a_length :: .ref a_clause :: .ref a_clauses :: .ref a_chain :: .int m_next :: .int m_wrong :: .int m_number :: .int m_text :: .int m_made :: .int m_deep :: .int m_lines :: .ref a_open :: .int m_opened :: .ref a_stack :: .int m_top :: .ref a_word :: .ref a_said :: .ref a_kept :: [.int m_goNode, .int m_goDrops, .int m_goHour, .int m_goFelt, .int m_goSalt, .int m_goMore, .ref a_stepNode, .ref a_stepDrops, .ref a_stepHour, .ref a_stepNext, .ref a_stepPass, .int m_bestLeft, .int m_bestHour, .int m_bestMany, .ref a_bestPass, .ref a_far, .ref a_waited, .ref a_servers, .ref a_images, .ref a_isMade])), (a_said, .inl (kA 0, 360, .inl f70))]) hP hD [0, 1] (by decide) rfl
          refine W.widen (k := 0) (n := 0) (Nat.le_of_ble_eq_true rfl) (Nat.le_of_ble_eq_true rfl) ?_
          exact W.iret (v := (f70 4)) hx hb hr (fun t ht hW => ⟨⟨(f70 4), (f70), rfl, ⟨(by have hok : ok_fe p0 p1 p2 zn zf = 1 := (by simp [ok_fe, c_23, c_27, c_31, c_35]); rw [hok, hu71]; exact rfl), (hG.trans hG0.symm), (by have hok : ok_fe p0 p1 p2 zn zf = 1 := (by simp [ok_fe, c_23, c_27, c_31, c_35]); rw [hok]; exact hk72)⟩, by rw [ht]; exact hP9, hD9⟩, hS.F ht⟩) hS.2.2 dX11_feast_103
        · have hG := zthen hG c_35
          refine lv_iconst (v := (-1)) hx hb dX11_feast_43 (by decide) ?_
          obtain ⟨hP9, hD9⟩ := z_sb (L' := [(n0, .inr (11, .ref a_tape :: .int m_taped :: .int m_laws :: .ref a_sign :: .ref a_length :: .ref a_clause :: .ref a_clauses :: .ref a_chain :: .int m_next :: .int m_wrong :: .int m_number :: .int m_text :: .int m_made :: .int m_deep :: .int m_lines :: .ref a_open :: .int m_opened :: .ref a_stack :: .int m_top :: .ref a_word :: .ref a_said :: .ref a_kept :: [.int m_goNode, .int m_goDrops, .int m_goHour, .int m_goFelt, .int m_goSalt, .int m_goMore, .ref a_stepNode, .ref a_stepDrops, .ref a_stepHour, .ref a_stepNext, .ref a_stepPass, .int m_bestLeft, .int m_bestHour, .int m_bestMany, .ref a_bestPass, .ref a_far, .ref a_waited, .ref a_servers, .ref a_images, .ref a_isMade])), (a_said, .inl (kA 0, 360, .inl saidF))]) hP hD [0, 1] (by decide) rfl
          refine W.widen (k := 0) (n := 0) (Nat.le_of_ble_eq_true rfl) (Nat.le_of_ble_eq_true rfl) ?_
          exact W.iret (v := (-1)) hx hb hr (fun t ht hW => ⟨⟨(-1), (saidF), rfl, ⟨(by have hok : ok_fe p0 p1 p2 zn zf = 0 := (by simp [ok_fe, c_23, c_27, c_31, c_35]); rw [hok]; rfl), (hG.trans hG0.symm), (by have hok : ok_fe p0 p1 p2 zn zf = 0 := (by simp [ok_fe, c_23, c_27, c_31, c_35]); rw [hok]; exact hsc)⟩, by rw [ht]; exact hP9, hD9⟩, hS.F ht⟩) hS.2.2 dX11_feast_44
set_option maxRecDepth 100000 in
def fX11_month (saidF : Nat → Int32) (p0 : Int32) : (Nat → Int32) := if (li p0.toInt64 0 11) = 0 then (saidF) else (bnd ((upd saidF (6 : Int32).toNatClampNeg p0)) (fun (f27 : Nat → Int32) => f27))
set_option maxHeartbeats 4000000 in
set_option maxRecDepth 100000 in
theorem mX11_month (l : Launch) (dC : Nat → ClassId) (dI : Nat → Nat → Nat) (kA : Nat → ClassId) (sz : Nat) (n0 : Nat) (m_taped : Int32) (m_laws : Int32) (m_next : Int32) (m_wrong : Int32) (m_number : Int32) (m_text : Int32) (m_made : Int32) (m_deep : Int32) (m_lines : Int32) (m_opened : Int32) (m_top : Int32) (m_goNode : Int32) (m_goDrops : Int32) (m_goHour : Int32) (m_goFelt : Int32) (m_goSalt : Int32) (m_goMore : Int32) (m_bestLeft : Int32) (m_bestHour : Int32) (m_bestMany : Int32) (a_tape : Nat) (a_sign : Nat) (a_length : Nat) (a_clause : Nat) (a_clauses : Nat) (a_chain : Nat) (a_open : Nat) (a_stack : Nat) (a_word : Nat) (a_said : Nat) (a_kept : Nat) (a_stepNode : Nat) (a_stepDrops : Nat) (a_stepHour : Nat) (a_stepNext : Nat) (a_stepPass : Nat) (a_bestPass : Nat) (a_far : Nat) (a_waited : Nat) (a_servers : Nat) (a_images : Nat) (a_isMade : Nat) (saidF : Nat → Int32) (zn : Int32) (zp : Int32) (zj : Int32) (zo : Int32) (zf : Int32) (zm : Int32) (zk : Int32) (zw : Int32) (pd : Nat → Int32) (p0 : Int32) (hsc : SC saidF zn zp zj zo zf zm zk zw pd) : Met l yX11_month wsX11_month ({ frames := 1, cells := 0, slots := 0, locals := 25 }) (zPc dC dI kA sz [.ref n0, .int p0] [(n0, .inr (11, .ref a_tape :: .int m_taped :: .int m_laws :: .ref a_sign :: .ref a_length :: .ref a_clause :: .ref a_clauses :: .ref a_chain :: .int m_next :: .int m_wrong :: .int m_number :: .int m_text :: .int m_made :: .int m_deep :: .int m_lines :: .ref a_open :: .int m_opened :: .ref a_stack :: .int m_top :: .ref a_word :: .ref a_said :: .ref a_kept :: [.int m_goNode, .int m_goDrops, .int m_goHour, .int m_goFelt, .int m_goSalt, .int m_goMore, .ref a_stepNode, .ref a_stepDrops, .ref a_stepHour, .ref a_stepNext, .ref a_stepPass, .int m_bestLeft, .int m_bestHour, .int m_bestMany, .ref a_bestPass, .ref a_far, .ref a_waited, .ref a_servers, .ref a_images, .ref a_isMade])), (a_said, .inl (kA 0, 360, .inl saidF))]) (va_Qi (fun (r : Int32) (u : (Nat → Int32)) => r = (mo_r p0 zm) ∧ u = fX11_month saidF p0 ∧ SC u zn zp zj zo zf (mo_z p0 zm) zk zw pd) (zB dC dI (va_A [(n0, .inr (11, .ref a_tape :: .int m_taped :: .int m_laws :: .ref a_sign :: .ref a_length :: .ref a_clause :: .ref a_clauses :: .ref a_chain :: .int m_next :: .int m_wrong :: .int m_number :: .int m_text :: .int m_made :: .int m_deep :: .int m_lines :: .ref a_open :: .int m_opened :: .ref a_stack :: .int m_top :: .ref a_word :: .ref a_said :: .ref a_kept :: [.int m_goNode, .int m_goDrops, .int m_goHour, .int m_goFelt, .int m_goSalt, .int m_goMore, .ref a_stepNode, .ref a_stepDrops, .ref a_stepHour, .ref a_stepNext, .ref a_stepPass, .int m_bestLeft, .int m_bestHour, .int m_bestMany, .ref a_bestPass, .ref a_far, .ref a_waited, .ref a_servers, .ref a_images, .ref a_isMade])), (a_said, .inl (kA 0, 360, .inl saidF))] sz) (fun (u : (Nat → Int32)) => [(n0, .inr (11, .ref a_tape :: .int m_taped :: .int m_laws :: .ref a_sign :: .ref a_length :: .ref a_clause :: .ref a_clauses :: .ref a_chain :: .int m_next :: .int m_wrong :: .int m_number :: .int m_text :: .int m_made :: .int m_deep :: .int m_lines :: .ref a_open :: .int m_opened :: .ref a_stack :: .int m_top :: .ref a_word :: .ref a_said :: .ref a_kept :: [.int m_goNode, .int m_goDrops, .int m_goHour, .int m_goFelt, .int m_goSalt, .int m_goMore, .ref a_stepNode, .ref a_stepDrops, .ref a_stepHour, .ref a_stepNext, .ref a_stepPass, .int m_bestLeft, .int m_bestHour, .int m_bestMany, .ref a_bestPass, .ref a_far, .ref a_waited, .ref a_servers, .ref a_images, .ref a_isMade])), (a_said, .inl (kA 0, 360, .inl u))])) (va_A [(n0, .inr (11, .ref a_tape :: .int m_taped :: .int m_laws :: .ref a_sign :: .ref a_length :: .ref a_clause :: .ref a_clauses :: .ref a_chain :: .int m_next :: .int m_wrong :: .int m_number :: .int m_text :: .int m_made :: .int m_deep :: .int m_lines :: .ref a_open :: .int m_opened :: .ref a_stack :: .int m_top :: .ref a_word :: .ref a_said :: .ref a_kept :: [.int m_goNode, .int m_goDrops, .int m_goHour, .int m_goFelt, .int m_goSalt, .int m_goMore, .ref a_stepNode, .ref a_stepDrops, .ref a_stepHour, .ref a_stepNext, .ref a_stepPass, .int m_bestLeft, .int m_bestHour, .int m_bestMany, .ref a_bestPass, .ref a_far, .ref a_waited, .ref a_servers, .ref a_images, .ref a_isMade])), (a_said, .inl (kA 0, 360, .inl saidF))] sz)) 0 0 (va_A [(n0, .inr (11, .ref a_tape :: .int m_taped :: .int m_laws :: .ref a_sign :: .ref a_length :: .ref a_clause :: .ref a_clauses :: .ref a_chain :: .int m_next :: .int m_wrong :: .int m_number :: .int m_text :: .int m_made :: .int m_deep :: .int m_lines :: .ref a_open :: .int m_opened :: .ref a_stack :: .int m_top :: .ref a_word :: .ref a_said :: .ref a_kept :: [.int m_goNode, .int m_goDrops, .int m_goHour, .int m_goFelt, .int m_goSalt, .int m_goMore, .ref a_stepNode, .ref a_stepDrops, .ref a_stepHour, .ref a_stepNext, .ref a_stepPass, .int m_bestLeft, .int m_bestHour, .int m_bestMany, .ref a_bestPass, .ref a_far, .ref a_waited, .ref a_servers, .ref a_images, .ref a_isMade])), (a_said, .inl (kA 0, 360, .inl saidF))] sz) := by
  refine Met.ofW (cc := cX11_month) (maxL := 3) (ret := (some .int)) pnX11 rfl ?_
  intro p e s m args below meth c s₁ B hml hv
  obtain ⟨rfl, hsz, hP, hK, hD0⟩ := hv
  have hx := B.exec
  have hb := B.bytes
  have hr := B.returns
  have hts := atoms_spec (ws := wsX11_month) B.pre
  have hown : s.vm.findClass RX11 = some m.cls := findClass_of_methodNamed B.named
  have hlocks := B.notSynchronized
  subst hsz
  have hD := hD0.self (sz := s.heap.size)
  generalize hAe : va_A [(n0, .inr (11, .ref a_tape :: .int m_taped :: .int m_laws :: .ref a_sign :: .ref a_length :: .ref a_clause :: .ref a_clauses :: .ref a_chain :: .int m_next :: .int m_wrong :: .int m_number :: .int m_text :: .int m_made :: .int m_deep :: .int m_lines :: .ref a_open :: .int m_opened :: .ref a_stack :: .int m_top :: .ref a_word :: .ref a_said :: .ref a_kept :: [.int m_goNode, .int m_goDrops, .int m_goHour, .int m_goFelt, .int m_goSalt, .int m_goMore, .ref a_stepNode, .ref a_stepDrops, .ref a_stepHour, .ref a_stepNext, .ref a_stepPass, .int m_bestLeft, .int m_bestHour, .int m_bestMany, .ref a_bestPass, .ref a_far, .ref a_waited, .ref a_servers, .ref a_images, .ref a_isMade])), (a_said, .inl (kA 0, 360, .inl saidF))] s.heap.size = A at hD ⊢
  have hA : ∀ q : Nat, s.heap.size ≤ q → A q := zA_of hAe
  have hS : va_S A s.heap s.heap [] := va_S.rf
  have hP : va_P (dC, dI) vwCl [(n0, .inr (11, .ref a_tape :: .int m_taped :: .int m_laws :: .ref a_sign :: .ref a_length :: .ref a_clause :: .ref a_clauses :: .ref a_chain :: .int m_next :: .int m_wrong :: .int m_number :: .int m_text :: .int m_made :: .int m_deep :: .int m_lines :: .ref a_open :: .int m_opened :: .ref a_stack :: .int m_top :: .ref a_word :: .ref a_said :: .ref a_kept :: [.int m_goNode, .int m_goDrops, .int m_goHour, .int m_goFelt, .int m_goSalt, .int m_goMore, .ref a_stepNode, .ref a_stepDrops, .ref a_stepHour, .ref a_stepNext, .ref a_stepPass, .int m_bestLeft, .int m_bestHour, .int m_bestMany, .ref a_bestPass, .ref a_far, .ref a_waited, .ref a_servers, .ref a_images, .ref a_isMade])), (a_said, .inl (kA 0, 360, .inl saidF))] s.heap := hP
  have hl := lv_entry ([.ref n0, .int p0]) (n := 3) (Nat.le_of_ble_eq_true rfl)
  rw [lg_entry_eq]
  generalize (lg_sl ([.ref n0, .int p0]) ++ List.replicate (3 - (lg_sl ([.ref n0, .int p0])).length) Slot.unset).toArray = ls at hl ⊢
  have hl : lv_has ls 3 [(0, .ref n0), (1, .int p0)] := hl
  obtain ⟨G, hG0⟩ : ∃ G : (Nat → Int32), fX11_month saidF p0 = G := ⟨_, rfl⟩
  have hG := hG0
  unfold fX11_month at hG
  have hz1 : saidF 0 = zn := hsc.1.1
  have hz2 : saidF 1 = zp := hsc.1.2.1
  have hz3 : saidF 2 = zj := hsc.1.2.2.1
  have hz4 : saidF 3 = zo := hsc.1.2.2.2.1
  have hz5 : saidF 4 = zf := hsc.1.2.2.2.2.1
  have hz6 : saidF 6 = zm := hsc.1.2.2.2.2.2.1
  have hz7 : saidF 8 = zk := hsc.1.2.2.2.2.2.2.1
  have hz8 : saidF 9 = zw := hsc.1.2.2.2.2.2.2.2
  have hz9 : ¬ zn < 0 := hsc.2.1.1
  have hz10 : ¬ 12 < zn := hsc.2.1.2
  have hz11 : ¬ zp < 0 := hsc.2.2.1.1
  have hz12 : ¬ 20 < zp := hsc.2.2.1.2
  have hz13 : ¬ zj < 0 := hsc.2.2.2.1.1
  have hz14 : ¬ 16 < zj := hsc.2.2.2.1.2
  have hz15 : ¬ zo < 0 := hsc.2.2.2.2.1.1
  have hz16 : ¬ 6 < zo := hsc.2.2.2.2.1.2
  have hz17 : ¬ zf < 0 := hsc.2.2.2.2.2.1.1
  have hz18 : ¬ 8 < zf := hsc.2.2.2.2.2.1.2
  have hz19 : ¬ zk < (-1) := hsc.2.2.2.2.2.2.1.1
  have hz20 : ¬ 12 ≤ zk := hsc.2.2.2.2.2.2.1.2
  have hz21 : ¬ zw < 0 := hsc.2.2.2.2.2.2.2.1.1
  have hz22 : ¬ 6 < zw := hsc.2.2.2.2.2.2.2.1.2
  refine lv_iload_n hx hb dX11_month_0 rfl (lv_at hl 1 rfl) ?_
  refine lv_i2l hx hb dX11_month_1 rfl ?_
  refine lv_lconst (v := 0) hx hb dX11_month_2 (by decide) ?_
  refine lv_ldc2 hx hb hown (kX11_month_1 hts) dX11_month_3 ?_
  refine z_i (wr := [(n0, .inr (11, .ref a_tape :: .int m_taped :: .int m_laws :: .ref a_sign :: .ref a_length :: .ref a_clause :: .ref a_clauses :: .ref a_chain :: .int m_next :: .int m_wrong :: .int m_number :: .int m_text :: .int m_made :: .int m_deep :: .int m_lines :: .ref a_open :: .int m_opened :: .ref a_stack :: .int m_top :: .ref a_word :: .ref a_said :: .ref a_kept :: [.int m_goNode, .int m_goDrops, .int m_goHour, .int m_goFelt, .int m_goSalt, .int m_goMore, .ref a_stepNode, .ref a_stepDrops, .ref a_stepHour, .ref a_stepNext, .ref a_stepPass, .int m_bestLeft, .int m_bestHour, .int m_bestMany, .ref a_bestPass, .ref a_far, .ref a_waited, .ref a_servers, .ref a_images, .ref a_isMade])), (a_said, .inl (kA 0, 360, .inl saidF))]) (va_runS (As := [.long p0.toInt64, .long 0, .long 11]) (rest := []) ⟨hx, hb, hml, hown, hts⟩ (mX11_in l dC dI kA _ p0.toInt64 0 11) (va_cwS 3 hts gX11_month_X11_in rfl rfl rfl hdX11_in ⟨(Nat.le_of_ble_eq_true rfl), (Nat.le_of_ble_eq_true rfl)⟩) ⟨zPc.blind, zPre hK (hP.sub [] rfl) (hD.sub [] (by decide) rfl)⟩ rfl rfl hl.1 rfl (lv_room (Nat.le_of_ble_eq_true rfl)) dX11_month_6 ⟨(Nat.le_of_ble_eq_true rfl), (Nat.le_of_ble_eq_true rfl)⟩) hP hD hS hA [] [0, 1] rfl rfl (by decide) (by decide) (fun r25 u23 H locs hw24 hP hD hS => ?_)
  obtain rfl := hw24
  obtain ⟨hP, hD⟩ := z_re (L := [(n0, .inr (11, .ref a_tape :: .int m_taped :: .int m_laws :: .ref a_sign :: .ref a_length :: .ref a_clause :: .ref a_clauses :: .ref a_chain :: .int m_next :: .int m_wrong :: .int m_number :: .int m_text :: .int m_made :: .int m_deep :: .int m_lines :: .ref a_open :: .int m_opened :: .ref a_stack :: .int m_top :: .ref a_word :: .ref a_said :: .ref a_kept :: [.int m_goNode, .int m_goDrops, .int m_goHour, .int m_goFelt, .int m_goSalt, .int m_goMore, .ref a_stepNode, .ref a_stepDrops, .ref a_stepHour, .ref a_stepNext, .ref a_stepPass, .int m_bestLeft, .int m_bestHour, .int m_bestMany, .ref a_bestPass, .ref a_far, .ref a_waited, .ref a_servers, .ref a_images, .ref a_isMade])), (a_said, .inl (kA 0, 360, .inl saidF))]) hP hD
  refine lv_if_ne (tgt := 14) hx hb dX11_month_9 (by decide) (fun c_26 => ?_) (fun c_26 => ?_)
  · have hG := zelse hG c_26
    have c_26a := li_ne (lo := 0) (hi := 11) (by decide) (by decide) c_26
    have c_26b := c_26a.2
    have c_26a := c_26a.1
    refine lv_aload_n hx hb dX11_month_14 rfl (lv_at hl 0 rfl) ?_
    refine va_get (D := (dC, dI)) (ci := 11) (v := .ref a_said) (C := RX11) (T := TX11) (N := 42) hx hb hts iX11_month_X11 hown hK.1 hP 0 gz0 vcz11 20 (by decide) (kX11_month_2 hts) (fun _ h9 => h9) gz20 dX11_month_15 ?_
    refine lv_bipush (v := 6) hx hb dX11_month_18 (by decide) ?_
    refine va_iald hx hb hK.1 hP 1 0 gz1 tzz0 (vpd (by decide)) dX11_month_20 ?_
    refine zi zm hz6 ?_
    refine lv_istore_n (lv' := [(2, .int zm), (0, .ref n0), (1, .int p0)]) hx hb dX11_month_21 rfl hl (by decide) rfl (fun ls hl => ?_)
    refine lv_aload_n hx hb dX11_month_22 rfl (lv_at hl 1 rfl) ?_
    refine va_get (D := (dC, dI)) (ci := 11) (v := .ref a_said) (C := RX11) (T := TX11) (N := 42) hx hb hts iX11_month_X11 hown hK.1 hP 0 gz0 vcz11 20 (by decide) (kX11_month_2 hts) (fun _ h9 => h9) gz20 dX11_month_23 ?_
    refine lv_bipush (v := 6) hx hb dX11_month_26 (by decide) ?_
    refine lv_iload_n hx hb dX11_month_28 rfl (lv_at hl 2 rfl) ?_
    refine va_iast hx hb hK.1 hP hD hS 1 0 gz1 tzz0 (vpd (by decide)) dX11_month_29 (fun H locs hP hD hS => ?_)
    obtain ⟨hP, hD⟩ := z_re (L := [(n0, .inr (11, .ref a_tape :: .int m_taped :: .int m_laws :: .ref a_sign :: .ref a_length :: .ref a_clause :: .ref a_clauses :: .ref a_chain :: .int m_next :: .int m_wrong :: .int m_number :: .int m_text :: .int m_made :: .int m_deep :: .int m_lines :: .ref a_open :: .int m_opened :: .ref a_stack :: .int m_top :: .ref a_word :: .ref a_said :: .ref a_kept :: [.int m_goNode, .int m_goDrops, .int m_goHour, .int m_goFelt, .int m_goSalt, .int m_goMore, .ref a_stepNode, .ref a_stepDrops, .ref a_stepHour, .ref a_stepNext, .ref a_stepPass, .int m_bestLeft, .int m_bestHour, .int m_bestMany, .ref a_bestPass, .ref a_far, .ref a_waited, .ref a_servers, .ref a_images, .ref a_isMade])), (a_said, .inl (kA 0, 360, .inl (upd saidF (6 : Int32).toNatClampNeg p0)))]) hP hD
    obtain ⟨f27, ef27⟩ : ∃ y : Nat → Int32, y = (upd saidF (6 : Int32).toNatClampNeg p0) := ⟨_, rfl⟩
    rw [← ef27] at hP hD
    have hG := zbnd hG ef27
    have hu28 : f27 6 = p0 := upd_at ef27
    have hk29 : SC f27 zn zp zj zo zf p0 zk zw pd := by rw [ef27]; exact SC_zm hsc
    have hz30 : f27 0 = zn := hk29.1.1
    have hz31 : f27 1 = zp := hk29.1.2.1
    have hz32 : f27 2 = zj := hk29.1.2.2.1
    have hz33 : f27 3 = zo := hk29.1.2.2.2.1
    have hz34 : f27 4 = zf := hk29.1.2.2.2.2.1
    have hz35 : f27 8 = zk := hk29.1.2.2.2.2.2.2.1
    have hz36 : f27 9 = zw := hk29.1.2.2.2.2.2.2.2
    refine lv_iload_n hx hb dX11_month_30 rfl (lv_at hl 0 rfl) ?_
    obtain ⟨hP9, hD9⟩ := z_sb (L' := [(n0, .inr (11, .ref a_tape :: .int m_taped :: .int m_laws :: .ref a_sign :: .ref a_length :: .ref a_clause :: .ref a_clauses :: .ref a_chain :: .int m_next :: .int m_wrong :: .int m_number :: .int m_text :: .int m_made :: .int m_deep :: .int m_lines :: .ref a_open :: .int m_opened :: .ref a_stack :: .int m_top :: .ref a_word :: .ref a_said :: .ref a_kept :: [.int m_goNode, .int m_goDrops, .int m_goHour, .int m_goFelt, .int m_goSalt, .int m_goMore, .ref a_stepNode, .ref a_stepDrops, .ref a_stepHour, .ref a_stepNext, .ref a_stepPass, .int m_bestLeft, .int m_bestHour, .int m_bestMany, .ref a_bestPass, .ref a_far, .ref a_waited, .ref a_servers, .ref a_images, .ref a_isMade])), (a_said, .inl (kA 0, 360, .inl f27))]) hP hD [0, 1] (by decide) rfl
    refine W.widen (k := 0) (n := 0) (Nat.le_of_ble_eq_true rfl) (Nat.le_of_ble_eq_true rfl) ?_
    exact W.iret (v := zm) hx hb hr (fun t ht hW => ⟨⟨zm, (f27), rfl, ⟨(by simp [mo_r, c_26]), (hG.trans hG0.symm), (by rw [show mo_z p0 zm = p0 from by simp [mo_z, c_26]]; exact hk29)⟩, by rw [ht]; exact hP9, hD9⟩, hS.F ht⟩) hS.2.2 dX11_month_31
  · have hG := zthen hG c_26
    refine lv_iconst (v := (-1)) hx hb dX11_month_12 (by decide) ?_
    obtain ⟨hP9, hD9⟩ := z_sb (L' := [(n0, .inr (11, .ref a_tape :: .int m_taped :: .int m_laws :: .ref a_sign :: .ref a_length :: .ref a_clause :: .ref a_clauses :: .ref a_chain :: .int m_next :: .int m_wrong :: .int m_number :: .int m_text :: .int m_made :: .int m_deep :: .int m_lines :: .ref a_open :: .int m_opened :: .ref a_stack :: .int m_top :: .ref a_word :: .ref a_said :: .ref a_kept :: [.int m_goNode, .int m_goDrops, .int m_goHour, .int m_goFelt, .int m_goSalt, .int m_goMore, .ref a_stepNode, .ref a_stepDrops, .ref a_stepHour, .ref a_stepNext, .ref a_stepPass, .int m_bestLeft, .int m_bestHour, .int m_bestMany, .ref a_bestPass, .ref a_far, .ref a_waited, .ref a_servers, .ref a_images, .ref a_isMade])), (a_said, .inl (kA 0, 360, .inl saidF))]) hP hD [0, 1] (by decide) rfl
    refine W.widen (k := 0) (n := 0) (Nat.le_of_ble_eq_true rfl) (Nat.le_of_ble_eq_true rfl) ?_
    exact W.iret (v := (-1)) hx hb hr (fun t ht hW => ⟨⟨(-1), (saidF), rfl, ⟨(by simp [mo_r, c_26]), (hG.trans hG0.symm), (by rw [show mo_z p0 zm = zm from by simp [mo_z, c_26]]; exact hsc)⟩, by rw [ht]; exact hP9, hD9⟩, hS.F ht⟩) hS.2.2 dX11_month_13
theorem gl_mX11_from_0 (zn : Int32) (p0 : Int32) (h0 : ¬ zn < 0) (h1 : ¬ 12 < zn) (h2 : ¬ p0 < 0) (h3 : ¬ zn ≤ p0) : (¬ p0 < 0 ∧ ¬ 12 ≤ p0) := by grind
set_option maxRecDepth 100000 in
def fX11_from (saidF : Nat → Int32) (zn : Int32) (p0 : Int32) : (Nat → Int32) := if (hs p0 zn) = 0 then (saidF) else (bnd ((upd saidF (8 : Int32).toNatClampNeg p0)) (fun (f27 : Nat → Int32) => bnd ((upd f27 (9 : Int32).toNatClampNeg 0)) (fun (f29 : Nat → Int32) => f29)))
set_option maxHeartbeats 4000000 in
set_option maxRecDepth 100000 in
theorem mX11_from (l : Launch) (dC : Nat → ClassId) (dI : Nat → Nat → Nat) (kA : Nat → ClassId) (sz : Nat) (n0 : Nat) (m_taped : Int32) (m_laws : Int32) (m_next : Int32) (m_wrong : Int32) (m_number : Int32) (m_text : Int32) (m_made : Int32) (m_deep : Int32) (m_lines : Int32) (m_opened : Int32) (m_top : Int32) (m_goNode : Int32) (m_goDrops : Int32) (m_goHour : Int32) (m_goFelt : Int32) (m_goSalt : Int32) (m_goMore : Int32) (m_bestLeft : Int32) (m_bestHour : Int32) (m_bestMany : Int32) (a_tape : Nat) (a_sign : Nat) (a_length : Nat) (a_clause : Nat) (a_clauses : Nat) (a_chain : Nat) (a_open : Nat) (a_stack : Nat) (a_word : Nat) (a_said : Nat) (a_kept : Nat) (a_stepNode : Nat) (a_stepDrops : Nat) (a_stepHour : Nat) (a_stepNext : Nat) (a_stepPass : Nat) (a_bestPass : Nat) (a_far : Nat) (a_waited : Nat) (a_servers : Nat) (a_images : Nat) (a_isMade : Nat) (saidF : Nat → Int32) (zn : Int32) (zp : Int32) (zj : Int32) (zo : Int32) (zf : Int32) (zm : Int32) (zk : Int32) (zw : Int32) (pd : Nat → Int32) (p0 : Int32) (hsc : SC saidF zn zp zj zo zf zm zk zw pd) : Met l yX11_from wsX11_from ({ frames := 1, cells := 0, slots := 0, locals := 21 }) (zPc dC dI kA sz [.ref n0, .int p0] [(n0, .inr (11, .ref a_tape :: .int m_taped :: .int m_laws :: .ref a_sign :: .ref a_length :: .ref a_clause :: .ref a_clauses :: .ref a_chain :: .int m_next :: .int m_wrong :: .int m_number :: .int m_text :: .int m_made :: .int m_deep :: .int m_lines :: .ref a_open :: .int m_opened :: .ref a_stack :: .int m_top :: .ref a_word :: .ref a_said :: .ref a_kept :: [.int m_goNode, .int m_goDrops, .int m_goHour, .int m_goFelt, .int m_goSalt, .int m_goMore, .ref a_stepNode, .ref a_stepDrops, .ref a_stepHour, .ref a_stepNext, .ref a_stepPass, .int m_bestLeft, .int m_bestHour, .int m_bestMany, .ref a_bestPass, .ref a_far, .ref a_waited, .ref a_servers, .ref a_images, .ref a_isMade])), (a_said, .inl (kA 0, 360, .inl saidF))]) (va_Qi (fun (r : Int32) (u : (Nat → Int32)) => r = (hs p0 zn) ∧ u = fX11_from saidF zn p0 ∧ SC u zn zp zj zo zf zm (u 8) (u 9) pd) (zB dC dI (va_A [(n0, .inr (11, .ref a_tape :: .int m_taped :: .int m_laws :: .ref a_sign :: .ref a_length :: .ref a_clause :: .ref a_clauses :: .ref a_chain :: .int m_next :: .int m_wrong :: .int m_number :: .int m_text :: .int m_made :: .int m_deep :: .int m_lines :: .ref a_open :: .int m_opened :: .ref a_stack :: .int m_top :: .ref a_word :: .ref a_said :: .ref a_kept :: [.int m_goNode, .int m_goDrops, .int m_goHour, .int m_goFelt, .int m_goSalt, .int m_goMore, .ref a_stepNode, .ref a_stepDrops, .ref a_stepHour, .ref a_stepNext, .ref a_stepPass, .int m_bestLeft, .int m_bestHour, .int m_bestMany, .ref a_bestPass, .ref a_far, .ref a_waited, .ref a_servers, .ref a_images, .ref a_isMade])), (a_said, .inl (kA 0, 360, .inl saidF))] sz) (fun (u : (Nat → Int32)) => [(n0, .inr (11, .ref a_tape :: .int m_taped :: .int m_laws :: .ref a_sign :: .ref a_length :: .ref a_clause :: .ref a_clauses :: .ref a_chain :: .int m_next :: .int m_wrong :: .int m_number :: .int m_text :: .int m_made :: .int m_deep :: .int m_lines :: .ref a_open :: .int m_opened :: .ref a_stack :: .int m_top :: .ref a_word :: .ref a_said :: .ref a_kept :: [.int m_goNode, .int m_goDrops, .int m_goHour, .int m_goFelt, .int m_goSalt, .int m_goMore, .ref a_stepNode, .ref a_stepDrops, .ref a_stepHour, .ref a_stepNext, .ref a_stepPass, .int m_bestLeft, .int m_bestHour, .int m_bestMany, .ref a_bestPass, .ref a_far, .ref a_waited, .ref a_servers, .ref a_images, .ref a_isMade])), (a_said, .inl (kA 0, 360, .inl u))])) (va_A [(n0, .inr (11, .ref a_tape :: .int m_taped :: .int m_laws :: .ref a_sign :: .ref a_length :: .ref a_clause :: .ref a_clauses :: .ref a_chain :: .int m_next :: .int m_wrong :: .int m_number :: .int m_text :: .int m_made :: .int m_deep :: .int m_lines :: .ref a_open :: .int m_opened :: .ref a_stack :: .int m_top :: .ref a_word :: .ref a_said :: .ref a_kept :: [.int m_goNode, .int m_goDrops, .int m_goHour, .int m_goFelt, .int m_goSalt, .int m_goMore, .ref a_stepNode, .ref a_stepDrops, .ref a_stepHour, .ref a_stepNext, .ref a_stepPass, .int m_bestLeft, .int m_bestHour, .int m_bestMany, .ref a_bestPass, .ref a_far, .ref a_waited, .ref a_servers, .ref a_images, .ref a_isMade])), (a_said, .inl (kA 0, 360, .inl saidF))] sz)) 0 0 (va_A [(n0, .inr (11, .ref a_tape :: .int m_taped :: .int m_laws :: .ref a_sign :: .ref a_length :: .ref a_clause :: .ref a_clauses :: .ref a_chain :: .int m_next :: .int m_wrong :: .int m_number :: .int m_text :: .int m_made :: .int m_deep :: .int m_lines :: .ref a_open :: .int m_opened :: .ref a_stack :: .int m_top :: .ref a_word :: .ref a_said :: .ref a_kept :: [.int m_goNode, .int m_goDrops, .int m_goHour, .int m_goFelt, .int m_goSalt, .int m_goMore, .ref a_stepNode, .ref a_stepDrops, .ref a_stepHour, .ref a_stepNext, .ref a_stepPass, .int m_bestLeft, .int m_bestHour, .int m_bestMany, .ref a_bestPass, .ref a_far, .ref a_waited, .ref a_servers, .ref a_images, .ref a_isMade])), (a_said, .inl (kA 0, 360, .inl saidF))] sz) := by
  refine Met.ofW (cc := cX11_from) (maxL := 2) (ret := (some .boolean)) pnX11 rfl ?_
  intro p e s m args below meth c s₁ B hml hv
  obtain ⟨rfl, hsz, hP, hK, hD0⟩ := hv
  have hx := B.exec
  have hb := B.bytes
  have hr := B.returns
  have hts := atoms_spec (ws := wsX11_from) B.pre
  have hown : s.vm.findClass RX11 = some m.cls := findClass_of_methodNamed B.named
  have hlocks := B.notSynchronized
  subst hsz
  have hD := hD0.self (sz := s.heap.size)
  generalize hAe : va_A [(n0, .inr (11, .ref a_tape :: .int m_taped :: .int m_laws :: .ref a_sign :: .ref a_length :: .ref a_clause :: .ref a_clauses :: .ref a_chain :: .int m_next :: .int m_wrong :: .int m_number :: .int m_text :: .int m_made :: .int m_deep :: .int m_lines :: .ref a_open :: .int m_opened :: .ref a_stack :: .int m_top :: .ref a_word :: .ref a_said :: .ref a_kept :: [.int m_goNode, .int m_goDrops, .int m_goHour, .int m_goFelt, .int m_goSalt, .int m_goMore, .ref a_stepNode, .ref a_stepDrops, .ref a_stepHour, .ref a_stepNext, .ref a_stepPass, .int m_bestLeft, .int m_bestHour, .int m_bestMany, .ref a_bestPass, .ref a_far, .ref a_waited, .ref a_servers, .ref a_images, .ref a_isMade])), (a_said, .inl (kA 0, 360, .inl saidF))] s.heap.size = A at hD ⊢
  have hA : ∀ q : Nat, s.heap.size ≤ q → A q := zA_of hAe
  have hS : va_S A s.heap s.heap [] := va_S.rf
  have hP : va_P (dC, dI) vwCl [(n0, .inr (11, .ref a_tape :: .int m_taped :: .int m_laws :: .ref a_sign :: .ref a_length :: .ref a_clause :: .ref a_clauses :: .ref a_chain :: .int m_next :: .int m_wrong :: .int m_number :: .int m_text :: .int m_made :: .int m_deep :: .int m_lines :: .ref a_open :: .int m_opened :: .ref a_stack :: .int m_top :: .ref a_word :: .ref a_said :: .ref a_kept :: [.int m_goNode, .int m_goDrops, .int m_goHour, .int m_goFelt, .int m_goSalt, .int m_goMore, .ref a_stepNode, .ref a_stepDrops, .ref a_stepHour, .ref a_stepNext, .ref a_stepPass, .int m_bestLeft, .int m_bestHour, .int m_bestMany, .ref a_bestPass, .ref a_far, .ref a_waited, .ref a_servers, .ref a_images, .ref a_isMade])), (a_said, .inl (kA 0, 360, .inl saidF))] s.heap := hP
  have hl := lv_entry ([.ref n0, .int p0]) (n := 2) (Nat.le_of_ble_eq_true rfl)
  rw [lg_entry_eq]
  generalize (lg_sl ([.ref n0, .int p0]) ++ List.replicate (2 - (lg_sl ([.ref n0, .int p0])).length) Slot.unset).toArray = ls at hl ⊢
  have hl : lv_has ls 2 [(0, .ref n0), (1, .int p0)] := hl
  obtain ⟨H, hHe⟩ : ∃ H : Heap, H = s.heap := ⟨_, rfl⟩
  obtain ⟨G, hG0⟩ : ∃ G : (Nat → Int32), fX11_from saidF zn p0 = G := ⟨_, rfl⟩
  have hG := hG0
  unfold fX11_from at hG
  have hz1 : saidF 0 = zn := hsc.1.1
  have hz2 : saidF 1 = zp := hsc.1.2.1
  have hz3 : saidF 2 = zj := hsc.1.2.2.1
  have hz4 : saidF 3 = zo := hsc.1.2.2.2.1
  have hz5 : saidF 4 = zf := hsc.1.2.2.2.2.1
  have hz6 : saidF 6 = zm := hsc.1.2.2.2.2.2.1
  have hz7 : saidF 8 = zk := hsc.1.2.2.2.2.2.2.1
  have hz8 : saidF 9 = zw := hsc.1.2.2.2.2.2.2.2
  have hz9 : ¬ zn < 0 := hsc.2.1.1
  have hz10 : ¬ 12 < zn := hsc.2.1.2
  have hz11 : ¬ zp < 0 := hsc.2.2.1.1
  have hz12 : ¬ 20 < zp := hsc.2.2.1.2
  have hz13 : ¬ zj < 0 := hsc.2.2.2.1.1
  have hz14 : ¬ 16 < zj := hsc.2.2.2.1.2
  have hz15 : ¬ zo < 0 := hsc.2.2.2.2.1.1
  have hz16 : ¬ 6 < zo := hsc.2.2.2.2.1.2
  have hz17 : ¬ zf < 0 := hsc.2.2.2.2.2.1.1
  have hz18 : ¬ 8 < zf := hsc.2.2.2.2.2.1.2
  have hz19 : ¬ zk < (-1) := hsc.2.2.2.2.2.2.1.1
  have hz20 : ¬ 12 ≤ zk := hsc.2.2.2.2.2.2.1.2
  have hz21 : ¬ zw < 0 := hsc.2.2.2.2.2.2.2.1.1
  have hz22 : ¬ 6 < zw := hsc.2.2.2.2.2.2.2.1.2
  refine lv_aload_n hx hb dX11_from_0 rfl (lv_at hl 0 rfl) ?_
  refine lv_iload_n hx hb dX11_from_1 rfl (lv_at hl 1 rfl) ?_
  refine z_i (wr := []) (va_runV (As := [.int p0]) (rest := []) ⟨hx, hb, hml, hown, hts⟩ (mX11_isNode l dC dI kA _ n0 m_taped m_laws m_next m_wrong m_number m_text m_made m_deep m_lines m_opened m_top m_goNode m_goDrops m_goHour m_goFelt m_goSalt m_goMore m_bestLeft m_bestHour m_bestMany a_tape a_sign a_length a_clause a_clauses a_chain a_open a_stack a_word a_said a_kept a_stepNode a_stepDrops a_stepHour a_stepNext a_stepPass a_bestPass a_far a_waited a_servers a_images a_isMade saidF zn zp zj zo zf zm zk zw pd p0 hsc) (cwV 1 hts gX11_from_X11_isNode rfl rfl rfl ⟨rfl, hdX11_isNode⟩ ⟨(Nat.le_of_ble_eq_true rfl), (Nat.le_of_ble_eq_true rfl)⟩) ⟨zPc.blind, va_recv (q := (RX11, TX11, 42)) hK.1 hP (ci := 11) (q0 := 0) rfl rfl, zPre hK (hP.sub [0, 1] rfl) (hD.sub [0, 1] (by decide) rfl)⟩ rfl rfl hl.1 rfl (lv_room (Nat.le_of_ble_eq_true rfl)) dX11_from_2 ⟨(Nat.le_of_ble_eq_true rfl), (Nat.le_of_ble_eq_true rfl)⟩) hP hD hS hA [0, 1] [] rfl rfl (by decide) (by decide) (fun r25 u23 H locs hw24 hP hD hS => ?_)
  obtain rfl := hw24
  obtain ⟨hP, hD⟩ := z_re (L := [(n0, .inr (11, .ref a_tape :: .int m_taped :: .int m_laws :: .ref a_sign :: .ref a_length :: .ref a_clause :: .ref a_clauses :: .ref a_chain :: .int m_next :: .int m_wrong :: .int m_number :: .int m_text :: .int m_made :: .int m_deep :: .int m_lines :: .ref a_open :: .int m_opened :: .ref a_stack :: .int m_top :: .ref a_word :: .ref a_said :: .ref a_kept :: [.int m_goNode, .int m_goDrops, .int m_goHour, .int m_goFelt, .int m_goSalt, .int m_goMore, .ref a_stepNode, .ref a_stepDrops, .ref a_stepHour, .ref a_stepNext, .ref a_stepPass, .int m_bestLeft, .int m_bestHour, .int m_bestMany, .ref a_bestPass, .ref a_far, .ref a_waited, .ref a_servers, .ref a_images, .ref a_isMade])), (a_said, .inl (kA 0, 360, .inl saidF))]) hP hD
  refine lv_if_ne (tgt := 10) hx hb dX11_from_5 (by decide) (fun c_26 => ?_) (fun c_26 => ?_)
  · have hG := zelse hG c_26
    have c_26a := hs_ne c_26
    have c_26b := c_26a.2
    have c_26a := c_26a.1
    refine lv_aload_n hx hb dX11_from_10 rfl (lv_at hl 0 rfl) ?_
    refine va_get (D := (dC, dI)) (ci := 11) (v := .ref a_said) (C := RX11) (T := TX11) (N := 42) hx hb hts iX11_from_X11 hown hK.1 hP 0 gz0 vcz11 20 (by decide) (kX11_from_1 hts) (fun _ h9 => h9) gz20 dX11_from_11 ?_
    refine lv_bipush (v := 8) hx hb dX11_from_14 (by decide) ?_
    refine lv_iload_n hx hb dX11_from_16 rfl (lv_at hl 1 rfl) ?_
    refine va_iast hx hb hK.1 hP hD hS 1 0 gz1 tzz0 (vpd (by decide)) dX11_from_17 (fun H locs hP hD hS => ?_)
    obtain ⟨hP, hD⟩ := z_re (L := [(n0, .inr (11, .ref a_tape :: .int m_taped :: .int m_laws :: .ref a_sign :: .ref a_length :: .ref a_clause :: .ref a_clauses :: .ref a_chain :: .int m_next :: .int m_wrong :: .int m_number :: .int m_text :: .int m_made :: .int m_deep :: .int m_lines :: .ref a_open :: .int m_opened :: .ref a_stack :: .int m_top :: .ref a_word :: .ref a_said :: .ref a_kept :: [.int m_goNode, .int m_goDrops, .int m_goHour, .int m_goFelt, .int m_goSalt, .int m_goMore, .ref a_stepNode, .ref a_stepDrops, .ref a_stepHour, .ref a_stepNext, .ref a_stepPass, .int m_bestLeft, .int m_bestHour, .int m_bestMany, .ref a_bestPass, .ref a_far, .ref a_waited, .ref a_servers, .ref a_images, .ref a_isMade])), (a_said, .inl (kA 0, 360, .inl (upd saidF (8 : Int32).toNatClampNeg p0)))]) hP hD
    obtain ⟨f27, ef27⟩ : ∃ y : Nat → Int32, y = (upd saidF (8 : Int32).toNatClampNeg p0) := ⟨_, rfl⟩
    rw [← ef27] at hP hD
    have hG := zbnd hG ef27
    have hu28 : f27 8 = p0 := upd_at ef27
    refine lv_aload_n hx hb dX11_from_18 rfl (lv_at hl 0 rfl) ?_
    refine va_get (D := (dC, dI)) (ci := 11) (v := .ref a_said) (C := RX11) (T := TX11) (N := 42) hx hb hts iX11_from_X11 hown hK.1 hP 0 gz0 vcz11 20 (by decide) (kX11_from_1 hts) (fun _ h9 => h9) gz20 dX11_from_19 ?_
    refine lv_bipush (v := 9) hx hb dX11_from_22 (by decide) ?_
    refine lv_iconst (v := 0) hx hb dX11_from_24 (by decide) ?_
    refine va_iast hx hb hK.1 hP hD hS 1 0 gz1 tzz0 (vpd (by decide)) dX11_from_25 (fun H locs hP hD hS => ?_)
    obtain ⟨hP, hD⟩ := z_re (L := [(n0, .inr (11, .ref a_tape :: .int m_taped :: .int m_laws :: .ref a_sign :: .ref a_length :: .ref a_clause :: .ref a_clauses :: .ref a_chain :: .int m_next :: .int m_wrong :: .int m_number :: .int m_text :: .int m_made :: .int m_deep :: .int m_lines :: .ref a_open :: .int m_opened :: .ref a_stack :: .int m_top :: .ref a_word :: .ref a_said :: .ref a_kept :: [.int m_goNode, .int m_goDrops, .int m_goHour, .int m_goFelt, .int m_goSalt, .int m_goMore, .ref a_stepNode, .ref a_stepDrops, .ref a_stepHour, .ref a_stepNext, .ref a_stepPass, .int m_bestLeft, .int m_bestHour, .int m_bestMany, .ref a_bestPass, .ref a_far, .ref a_waited, .ref a_servers, .ref a_images, .ref a_isMade])), (a_said, .inl (kA 0, 360, .inl (upd f27 (9 : Int32).toNatClampNeg 0)))]) hP hD
    obtain ⟨f29, ef29⟩ : ∃ y : Nat → Int32, y = (upd f27 (9 : Int32).toNatClampNeg 0) := ⟨_, rfl⟩
    rw [← ef29] at hP hD
    have hG := zbnd hG ef29
    have hu30 : f29 9 = 0 := upd_at ef29
    have hk31 : SC f29 zn zp zj zo zf zm p0 0 pd := by rw [ef29, ef27]; exact SC_fr hsc (gl_mX11_from_0 zn p0 hz9 hz10 c_26a c_26b) rfl
    have hz32 : f29 0 = zn := hk31.1.1
    have hz33 : f29 1 = zp := hk31.1.2.1
    have hz34 : f29 2 = zj := hk31.1.2.2.1
    have hz35 : f29 3 = zo := hk31.1.2.2.2.1
    have hz36 : f29 4 = zf := hk31.1.2.2.2.2.1
    have hz37 : f29 6 = zm := hk31.1.2.2.2.2.2.1
    have hz38 : f29 8 = p0 := hk31.1.2.2.2.2.2.2.1
    have hz39 : ¬ p0 < (-1) := hk31.2.2.2.2.2.2.1.1
    have hz40 : ¬ 12 ≤ p0 := hk31.2.2.2.2.2.2.1.2
    refine lv_iconst (v := 1) hx hb dX11_from_26 (by decide) ?_
    obtain ⟨hP9, hD9⟩ := z_sb (L' := [(n0, .inr (11, .ref a_tape :: .int m_taped :: .int m_laws :: .ref a_sign :: .ref a_length :: .ref a_clause :: .ref a_clauses :: .ref a_chain :: .int m_next :: .int m_wrong :: .int m_number :: .int m_text :: .int m_made :: .int m_deep :: .int m_lines :: .ref a_open :: .int m_opened :: .ref a_stack :: .int m_top :: .ref a_word :: .ref a_said :: .ref a_kept :: [.int m_goNode, .int m_goDrops, .int m_goHour, .int m_goFelt, .int m_goSalt, .int m_goMore, .ref a_stepNode, .ref a_stepDrops, .ref a_stepHour, .ref a_stepNext, .ref a_stepPass, .int m_bestLeft, .int m_bestHour, .int m_bestMany, .ref a_bestPass, .ref a_far, .ref a_waited, .ref a_servers, .ref a_images, .ref a_isMade])), (a_said, .inl (kA 0, 360, .inl f29))]) hP hD [0, 1] (by decide) rfl
    refine W.widen (k := 0) (n := 0) (Nat.le_of_ble_eq_true rfl) (Nat.le_of_ble_eq_true rfl) ?_
    exact W.zret (v := 1) hx hb hr rfl (fun t ht hW => ⟨⟨1, (f29), rfl, ⟨(hs_1 c_26).symm, (hG.trans hG0.symm), (by show SC f29 zn zp zj zo zf zm (f29 8) (f29 9) pd; rw [hz38, hu30]; exact hk31)⟩, by rw [ht]; exact hP9, hD9⟩, hS.F ht⟩) hS.2.2 dX11_from_27
  · have hG := zthen hG c_26
    refine lv_iconst (v := 0) hx hb dX11_from_8 (by decide) ?_
    obtain ⟨hP9, hD9⟩ := z_sb (L' := [(n0, .inr (11, .ref a_tape :: .int m_taped :: .int m_laws :: .ref a_sign :: .ref a_length :: .ref a_clause :: .ref a_clauses :: .ref a_chain :: .int m_next :: .int m_wrong :: .int m_number :: .int m_text :: .int m_made :: .int m_deep :: .int m_lines :: .ref a_open :: .int m_opened :: .ref a_stack :: .int m_top :: .ref a_word :: .ref a_said :: .ref a_kept :: [.int m_goNode, .int m_goDrops, .int m_goHour, .int m_goFelt, .int m_goSalt, .int m_goMore, .ref a_stepNode, .ref a_stepDrops, .ref a_stepHour, .ref a_stepNext, .ref a_stepPass, .int m_bestLeft, .int m_bestHour, .int m_bestMany, .ref a_bestPass, .ref a_far, .ref a_waited, .ref a_servers, .ref a_images, .ref a_isMade])), (a_said, .inl (kA 0, 360, .inl saidF))]) hP hD [0, 1] (by decide) rfl
    refine W.widen (k := 0) (n := 0) (Nat.le_of_ble_eq_true rfl) (Nat.le_of_ble_eq_true rfl) ?_
    exact W.zret (v := 0) hx hb hr rfl (fun t ht hW => ⟨⟨0, (saidF), rfl, ⟨(by simp [hs_1, c_26]), (hG.trans hG0.symm), (by show SC saidF zn zp zj zo zf zm (saidF 8) (saidF 9) pd; rw [hz7, hz8]; exact hsc)⟩, by rw [ht]; exact hP9, hD9⟩, hS.F ht⟩) hS.2.2 dX11_from_9
