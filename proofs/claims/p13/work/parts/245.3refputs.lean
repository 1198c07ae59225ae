def ixX11_isInside : List Nat := [149, 551, 582, 1499, 1500, 1501, 1502, 1503, 1504, 1505, 1506, 1507, 1508, 1509, 1510, 1511, 1512, 1513, 1514, 1515, 1516, 1517, 1518, 1519, 1520, 1521, 1522, 1523, 1524, 1525, 1526, 1527, 1528, 1529, 1530, 1531, 1532, 1533, 1534, 1535, 1536, 1537, 1538, 1539, 1540]
def wsX11_isInside : List Cond := .code yX11_isInside cX11_isInside 2 (some .boolean) :: ixX11_isInside.map wt
def ixX11_makes : List Nat := [5, 462, 463, 486, 487, 488, 489, 523, 1499, 1500, 1501, 1502, 1503, 1504, 1505, 1506, 1507, 1508, 1509, 1510, 1511, 1512, 1513, 1514, 1515, 1516, 1517, 1518, 1519, 1520, 1521, 1522, 1523, 1524, 1525, 1526, 1527, 1528, 1529, 1530, 1531, 1532, 1533, 1534, 1535, 1536, 1537, 1538, 1539, 1540]
def wsX11_makes : List Cond := .code yX11_makes cX11_makes 2 (some .boolean) :: ixX11_makes.map wt
def ixX11_opens : List Nat := [5, 149, 461, 462, 486, 487, 488, 489, 551, 552, 563, 1499, 1500, 1501, 1502, 1503, 1504, 1505, 1506, 1507, 1508, 1509, 1510, 1511, 1512, 1513, 1514, 1515, 1516, 1517, 1518, 1519, 1520, 1521, 1522, 1523, 1524, 1525, 1526, 1527, 1528, 1529, 1530, 1531, 1532, 1533, 1534, 1535, 1536, 1537, 1538, 1539, 1540]
def wsX11_opens : List Cond := .code yX11_opens cX11_opens 2 (some .boolean) :: ixX11_opens.map wt
def ixX11_puts : List Nat := [144, 145, 459, 527, 1499, 1500, 1501, 1502, 1503, 1504, 1505, 1506, 1507, 1508, 1509, 1510, 1511, 1512, 1513, 1514, 1515, 1516, 1517, 1518, 1519, 1520, 1521, 1522, 1523, 1524, 1525, 1526, 1527, 1528, 1529, 1530, 1531, 1532, 1533, 1534, 1535, 1536, 1537, 1538, 1539, 1540]
def wsX11_puts : List Cond := .code yX11_puts cX11_puts 3 none :: ixX11_puts.map wt
def ixX11_strength : List Nat := [578]
def wsX11_strength : List Cond := .code yX11_strength cX11_strength 1 (some .int) :: ixX11_strength.map wt
theorem ggX11_makes_X11_fails : GoodIn wsX11_makes wsX11_fails := gi_ (A := ixX11_makes) (B := ixX11_fails) wt489 (by decide +kernel)
theorem gX11_makes_X11_fails : GoodIn wsX11_makes (wsV RX11 111 RX11 yX11_fails wsX11_fails) := g4_ (A := ixX11_makes) wt486 wt487 wt488 wt5 (by decide +kernel) ggX11_makes_X11_fails
theorem ggX11_opens_X11_fails : GoodIn wsX11_opens wsX11_fails := gi_ (A := ixX11_opens) (B := ixX11_fails) wt489 (by decide +kernel)
theorem gX11_opens_X11_fails : GoodIn wsX11_opens (wsV RX11 111 RX11 yX11_fails wsX11_fails) := g4_ (A := ixX11_opens) wt486 wt487 wt488 wt5 (by decide +kernel) ggX11_opens_X11_fails
theorem kX11_makes_1 {a : Array Value} {s : State} (hts : ∀ w ∈ wsX11_makes, w.before a s = true) : (.fieldLink RX11 147 "SnowMulesModel" "made" "I" : Cond).before a s = true := kw (A := ixX11_makes) wt463 hts (by decide +kernel)
theorem kX11_puts_1 {a : Array Value} {s : State} (hts : ∀ w ∈ wsX11_puts, w.before a s = true) : (.fieldLink RX11 13 "SnowMulesModel" "sign" "[I" : Cond).before a s = true := kw (A := ixX11_puts) wt144 hts (by decide +kernel)
theorem kX11_puts_2 {a : Array Value} {s : State} (hts : ∀ w ∈ wsX11_puts, w.before a s = true) : (.fieldLink RX11 144 "SnowMulesModel" "text" "I" : Cond).before a s = true := kw (A := ixX11_puts) wt459 hts (by decide +kernel)
theorem kX11_puts_3 {a : Array Value} {s : State} (hts : ∀ w ∈ wsX11_puts, w.before a s = true) : (.fieldLink RX11 17 "SnowMulesModel" "length" "[I" : Cond).before a s = true := kw (A := ixX11_puts) wt145 hts (by decide +kernel)
theorem kX11_opens_1 {a : Array Value} {s : State} (hts : ∀ w ∈ wsX11_opens, w.before a s = true) : (.fieldLink RX11 150 "SnowMulesModel" "deep" "I" : Cond).before a s = true := kw (A := ixX11_opens) wt552 hts (by decide +kernel)
theorem kX11_opens_3 {a : Array Value} {s : State} (hts : ∀ w ∈ wsX11_opens, w.before a s = true) : (.fieldLink RX11 29 "SnowMulesModel" "open" "[I" : Cond).before a s = true := kw (A := ixX11_opens) wt149 hts (by decide +kernel)
theorem kX11_opens_4 {a : Array Value} {s : State} (hts : ∀ w ∈ wsX11_opens, w.before a s = true) : (.fieldLink RX11 153 "SnowMulesModel" "opened" "I" : Cond).before a s = true := kw (A := ixX11_opens) wt551 hts (by decide +kernel)
theorem kX11_opens_2 {a : Array Value} {s : State} (hts : ∀ w ∈ wsX11_opens, w.before a s = true) : (.fieldLink RX11 90 "SnowMulesModel" "next" "I" : Cond).before a s = true := kw (A := ixX11_opens) wt461 hts (by decide +kernel)
theorem kX11_isInside_1 {a : Array Value} {s : State} (hts : ∀ w ∈ wsX11_isInside, w.before a s = true) : (.fieldLink RX11 153 "SnowMulesModel" "opened" "I" : Cond).before a s = true := kw (A := ixX11_isInside) wt551 hts (by decide +kernel)
theorem kX11_isInside_2 {a : Array Value} {s : State} (hts : ∀ w ∈ wsX11_isInside, w.before a s = true) : (.fieldLink RX11 29 "SnowMulesModel" "open" "[I" : Cond).before a s = true := kw (A := ixX11_isInside) wt149 hts (by decide +kernel)
theorem iX11_makes_X11 : ∀ w ∈ wsX110, w ∈ wsX11_makes := inW (A := ixX11_makes) uwX11 (by decide +kernel)
theorem iX11_puts_X11 : ∀ w ∈ wsX110, w ∈ wsX11_puts := inW (A := ixX11_puts) uwX11 (by decide +kernel)
theorem iX11_opens_X11 : ∀ w ∈ wsX110, w ∈ wsX11_opens := inW (A := ixX11_opens) uwX11 (by decide +kernel)
theorem iX11_isInside_X11 : ∀ w ∈ wsX110, w ∈ wsX11_isInside := inW (A := ixX11_isInside) uwX11 (by decide +kernel)
def dtX11_makes_245_0 : List (Nat × Jvm.ClassFile.Instr × Nat) := [(0, .aload_n 0, 1), (1, .getfield 147, 3), (4, .bipush 60, 2), (6, .if_icmp .ne 10, 3), (16, .aload_n 0, 1), (17, .dup, 1), (18, .getfield 147, 3), (21, .iconst 1, 1), (22, .iadd, 1), (23, .putfield 147, 3), (26, .iconst 1, 1), (9, .aload_n 0, 1), (10, .iconst 3, 1), (11, .iload_n 1, 1), (12, .invokevirtual 111, 3), (27, .ireturn, 1), (15, .ireturn, 1)]
theorem daX11_makes_245_0 : dtX11_makes_245_0.all (dqd cX11_makes) = true := by decide +kernel
theorem dX11_makes_0 : decode cX11_makes 0 = .ok (.aload_n 0, 1) := dq daX11_makes_245_0 0 rfl
theorem dX11_makes_1 : decode cX11_makes 1 = .ok (.getfield 147, 3) := dq daX11_makes_245_0 1 rfl
theorem dX11_makes_4 : decode cX11_makes 4 = .ok (.bipush 60, 2) := dq daX11_makes_245_0 2 rfl
theorem dX11_makes_6 : decode cX11_makes 6 = .ok (.if_icmp .ne 10, 3) := dq daX11_makes_245_0 3 rfl
theorem dX11_makes_16 : decode cX11_makes 16 = .ok (.aload_n 0, 1) := dq daX11_makes_245_0 4 rfl
theorem dX11_makes_17 : decode cX11_makes 17 = .ok (.dup, 1) := dq daX11_makes_245_0 5 rfl
theorem dX11_makes_18 : decode cX11_makes 18 = .ok (.getfield 147, 3) := dq daX11_makes_245_0 6 rfl
theorem dX11_makes_21 : decode cX11_makes 21 = .ok (.iconst 1, 1) := dq daX11_makes_245_0 7 rfl
theorem dX11_makes_22 : decode cX11_makes 22 = .ok (.iadd, 1) := dq daX11_makes_245_0 8 rfl
theorem dX11_makes_23 : decode cX11_makes 23 = .ok (.putfield 147, 3) := dq daX11_makes_245_0 9 rfl
theorem dX11_makes_26 : decode cX11_makes 26 = .ok (.iconst 1, 1) := dq daX11_makes_245_0 10 rfl
theorem dX11_makes_9 : decode cX11_makes 9 = .ok (.aload_n 0, 1) := dq daX11_makes_245_0 11 rfl
theorem dX11_makes_10 : decode cX11_makes 10 = .ok (.iconst 3, 1) := dq daX11_makes_245_0 12 rfl
theorem dX11_makes_11 : decode cX11_makes 11 = .ok (.iload_n 1, 1) := dq daX11_makes_245_0 13 rfl
theorem dX11_makes_12 : decode cX11_makes 12 = .ok (.invokevirtual 111, 3) := dq daX11_makes_245_0 14 rfl
theorem dX11_makes_27 : decode cX11_makes 27 = .ok (.ireturn, 1) := dq daX11_makes_245_0 15 rfl
theorem dX11_makes_15 : decode cX11_makes 15 = .ok (.ireturn, 1) := dq daX11_makes_245_0 16 rfl
def dtX11_puts_245_0 : List (Nat × Jvm.ClassFile.Instr × Nat) := [(0, .aload_n 0, 1), (1, .getfield 13, 3), (4, .sipush 400, 3), (7, .aload_n 0, 1), (8, .getfield 144, 3), (11, .imul, 1), (12, .aload_n 0, 1), (13, .getfield 17, 3), (16, .aload_n 0, 1), (17, .getfield 144, 3), (20, .iaload, 1), (21, .iadd, 1), (22, .iload_n 1, 1), (23, .bipush 16, 2), (25, .iload_n 2, 1), (26, .imul, 1), (27, .iadd, 1), (28, .iastore, 1), (29, .aload_n 0, 1), (30, .getfield 17, 3), (33, .aload_n 0, 1), (34, .getfield 144, 3), (37, .dup2, 1), (38, .iaload, 1), (39, .iconst 1, 1), (40, .iadd, 1), (41, .iastore, 1), (42, .return_, 1)]
theorem daX11_puts_245_0 : dtX11_puts_245_0.all (dqd cX11_puts) = true := by decide +kernel
theorem dX11_puts_0 : decode cX11_puts 0 = .ok (.aload_n 0, 1) := dq daX11_puts_245_0 0 rfl
theorem dX11_puts_1 : decode cX11_puts 1 = .ok (.getfield 13, 3) := dq daX11_puts_245_0 1 rfl
theorem dX11_puts_4 : decode cX11_puts 4 = .ok (.sipush 400, 3) := dq daX11_puts_245_0 2 rfl
theorem dX11_puts_7 : decode cX11_puts 7 = .ok (.aload_n 0, 1) := dq daX11_puts_245_0 3 rfl
theorem dX11_puts_8 : decode cX11_puts 8 = .ok (.getfield 144, 3) := dq daX11_puts_245_0 4 rfl
theorem dX11_puts_11 : decode cX11_puts 11 = .ok (.imul, 1) := dq daX11_puts_245_0 5 rfl
theorem dX11_puts_12 : decode cX11_puts 12 = .ok (.aload_n 0, 1) := dq daX11_puts_245_0 6 rfl
theorem dX11_puts_13 : decode cX11_puts 13 = .ok (.getfield 17, 3) := dq daX11_puts_245_0 7 rfl
theorem dX11_puts_16 : decode cX11_puts 16 = .ok (.aload_n 0, 1) := dq daX11_puts_245_0 8 rfl
theorem dX11_puts_17 : decode cX11_puts 17 = .ok (.getfield 144, 3) := dq daX11_puts_245_0 9 rfl
theorem dX11_puts_20 : decode cX11_puts 20 = .ok (.iaload, 1) := dq daX11_puts_245_0 10 rfl
theorem dX11_puts_21 : decode cX11_puts 21 = .ok (.iadd, 1) := dq daX11_puts_245_0 11 rfl
theorem dX11_puts_22 : decode cX11_puts 22 = .ok (.iload_n 1, 1) := dq daX11_puts_245_0 12 rfl
theorem dX11_puts_23 : decode cX11_puts 23 = .ok (.bipush 16, 2) := dq daX11_puts_245_0 13 rfl
theorem dX11_puts_25 : decode cX11_puts 25 = .ok (.iload_n 2, 1) := dq daX11_puts_245_0 14 rfl
theorem dX11_puts_26 : decode cX11_puts 26 = .ok (.imul, 1) := dq daX11_puts_245_0 15 rfl
theorem dX11_puts_27 : decode cX11_puts 27 = .ok (.iadd, 1) := dq daX11_puts_245_0 16 rfl
theorem dX11_puts_28 : decode cX11_puts 28 = .ok (.iastore, 1) := dq daX11_puts_245_0 17 rfl
theorem dX11_puts_29 : decode cX11_puts 29 = .ok (.aload_n 0, 1) := dq daX11_puts_245_0 18 rfl
theorem dX11_puts_30 : decode cX11_puts 30 = .ok (.getfield 17, 3) := dq daX11_puts_245_0 19 rfl
theorem dX11_puts_33 : decode cX11_puts 33 = .ok (.aload_n 0, 1) := dq daX11_puts_245_0 20 rfl
theorem dX11_puts_34 : decode cX11_puts 34 = .ok (.getfield 144, 3) := dq daX11_puts_245_0 21 rfl
theorem dX11_puts_37 : decode cX11_puts 37 = .ok (.dup2, 1) := dq daX11_puts_245_0 22 rfl
theorem dX11_puts_38 : decode cX11_puts 38 = .ok (.iaload, 1) := dq daX11_puts_245_0 23 rfl
theorem dX11_puts_39 : decode cX11_puts 39 = .ok (.iconst 1, 1) := dq daX11_puts_245_0 24 rfl
theorem dX11_puts_40 : decode cX11_puts 40 = .ok (.iadd, 1) := dq daX11_puts_245_0 25 rfl
theorem dX11_puts_41 : decode cX11_puts 41 = .ok (.iastore, 1) := dq daX11_puts_245_0 26 rfl
theorem dX11_puts_42 : decode cX11_puts 42 = .ok (.return_, 1) := dq daX11_puts_245_0 27 rfl
def dtX11_strength_245_0 : List (Nat × Jvm.ClassFile.Instr × Nat) := [(0, .iload_n 0, 1), (1, .bipush 13, 2), (3, .if_icmp .ne 7, 3), (10, .iload_n 0, 1), (11, .bipush 12, 2), (13, .if_icmp .ne 7, 3), (20, .iload_n 0, 1), (21, .bipush 11, 2), (23, .if_icmp .ne 7, 3), (30, .iconst 0, 1), (31, .ireturn, 1), (26, .iconst 3, 1), (27, .goto 4, 3), (16, .iconst 2, 1), (17, .goto 14, 3), (6, .iconst 1, 1), (7, .goto 24, 3)]
theorem daX11_strength_245_0 : dtX11_strength_245_0.all (dqd cX11_strength) = true := by decide +kernel
theorem dX11_strength_0 : decode cX11_strength 0 = .ok (.iload_n 0, 1) := dq daX11_strength_245_0 0 rfl
theorem dX11_strength_1 : decode cX11_strength 1 = .ok (.bipush 13, 2) := dq daX11_strength_245_0 1 rfl
theorem dX11_strength_3 : decode cX11_strength 3 = .ok (.if_icmp .ne 7, 3) := dq daX11_strength_245_0 2 rfl
theorem dX11_strength_10 : decode cX11_strength 10 = .ok (.iload_n 0, 1) := dq daX11_strength_245_0 3 rfl
theorem dX11_strength_11 : decode cX11_strength 11 = .ok (.bipush 12, 2) := dq daX11_strength_245_0 4 rfl
theorem dX11_strength_13 : decode cX11_strength 13 = .ok (.if_icmp .ne 7, 3) := dq daX11_strength_245_0 5 rfl
theorem dX11_strength_20 : decode cX11_strength 20 = .ok (.iload_n 0, 1) := dq daX11_strength_245_0 6 rfl
theorem dX11_strength_21 : decode cX11_strength 21 = .ok (.bipush 11, 2) := dq daX11_strength_245_0 7 rfl
theorem dX11_strength_23 : decode cX11_strength 23 = .ok (.if_icmp .ne 7, 3) := dq daX11_strength_245_0 8 rfl
theorem dX11_strength_30 : decode cX11_strength 30 = .ok (.iconst 0, 1) := dq daX11_strength_245_0 9 rfl
theorem dX11_strength_31 : decode cX11_strength 31 = .ok (.ireturn, 1) := dq daX11_strength_245_0 10 rfl
theorem dX11_strength_26 : decode cX11_strength 26 = .ok (.iconst 3, 1) := dq daX11_strength_245_0 11 rfl
theorem dX11_strength_27 : decode cX11_strength 27 = .ok (.goto 4, 3) := dq daX11_strength_245_0 12 rfl
theorem dX11_strength_16 : decode cX11_strength 16 = .ok (.iconst 2, 1) := dq daX11_strength_245_0 13 rfl
theorem dX11_strength_17 : decode cX11_strength 17 = .ok (.goto 14, 3) := dq daX11_strength_245_0 14 rfl
theorem dX11_strength_6 : decode cX11_strength 6 = .ok (.iconst 1, 1) := dq daX11_strength_245_0 15 rfl
theorem dX11_strength_7 : decode cX11_strength 7 = .ok (.goto 24, 3) := dq daX11_strength_245_0 16 rfl
def dtX11_opens_245_0 : List (Nat × Jvm.ClassFile.Instr × Nat) := [(0, .aload_n 0, 1), (1, .getfield 150, 3), (4, .bipush 10, 2), (6, .if_icmp .ne 13, 3), (19, .aload_n 0, 1), (20, .dup, 1), (21, .getfield 150, 3), (24, .iconst 1, 1), (25, .iadd, 1), (26, .putfield 150, 3), (29, .aload_n 0, 1), (30, .getfield 29, 3), (33, .aload_n 0, 1), (34, .getfield 153, 3), (37, .iload_n 1, 1), (38, .iastore, 1), (39, .aload_n 0, 1), (40, .dup, 1), (41, .getfield 153, 3), (44, .iconst 1, 1), (45, .iadd, 1), (46, .putfield 153, 3), (49, .iconst 1, 1), (9, .aload_n 0, 1), (10, .iconst 2, 1), (11, .aload_n 0, 1), (12, .getfield 90, 3), (15, .invokevirtual 111, 3), (50, .ireturn, 1), (18, .ireturn, 1)]
theorem daX11_opens_245_0 : dtX11_opens_245_0.all (dqd cX11_opens) = true := by decide +kernel
theorem dX11_opens_0 : decode cX11_opens 0 = .ok (.aload_n 0, 1) := dq daX11_opens_245_0 0 rfl
theorem dX11_opens_1 : decode cX11_opens 1 = .ok (.getfield 150, 3) := dq daX11_opens_245_0 1 rfl
theorem dX11_opens_4 : decode cX11_opens 4 = .ok (.bipush 10, 2) := dq daX11_opens_245_0 2 rfl
theorem dX11_opens_6 : decode cX11_opens 6 = .ok (.if_icmp .ne 13, 3) := dq daX11_opens_245_0 3 rfl
theorem dX11_opens_19 : decode cX11_opens 19 = .ok (.aload_n 0, 1) := dq daX11_opens_245_0 4 rfl
theorem dX11_opens_20 : decode cX11_opens 20 = .ok (.dup, 1) := dq daX11_opens_245_0 5 rfl
theorem dX11_opens_21 : decode cX11_opens 21 = .ok (.getfield 150, 3) := dq daX11_opens_245_0 6 rfl
theorem dX11_opens_24 : decode cX11_opens 24 = .ok (.iconst 1, 1) := dq daX11_opens_245_0 7 rfl
theorem dX11_opens_25 : decode cX11_opens 25 = .ok (.iadd, 1) := dq daX11_opens_245_0 8 rfl
theorem dX11_opens_26 : decode cX11_opens 26 = .ok (.putfield 150, 3) := dq daX11_opens_245_0 9 rfl
theorem dX11_opens_29 : decode cX11_opens 29 = .ok (.aload_n 0, 1) := dq daX11_opens_245_0 10 rfl
theorem dX11_opens_30 : decode cX11_opens 30 = .ok (.getfield 29, 3) := dq daX11_opens_245_0 11 rfl
theorem dX11_opens_33 : decode cX11_opens 33 = .ok (.aload_n 0, 1) := dq daX11_opens_245_0 12 rfl
theorem dX11_opens_34 : decode cX11_opens 34 = .ok (.getfield 153, 3) := dq daX11_opens_245_0 13 rfl
theorem dX11_opens_37 : decode cX11_opens 37 = .ok (.iload_n 1, 1) := dq daX11_opens_245_0 14 rfl
theorem dX11_opens_38 : decode cX11_opens 38 = .ok (.iastore, 1) := dq daX11_opens_245_0 15 rfl
theorem dX11_opens_39 : decode cX11_opens 39 = .ok (.aload_n 0, 1) := dq daX11_opens_245_0 16 rfl
theorem dX11_opens_40 : decode cX11_opens 40 = .ok (.dup, 1) := dq daX11_opens_245_0 17 rfl
theorem dX11_opens_41 : decode cX11_opens 41 = .ok (.getfield 153, 3) := dq daX11_opens_245_0 18 rfl
theorem dX11_opens_44 : decode cX11_opens 44 = .ok (.iconst 1, 1) := dq daX11_opens_245_0 19 rfl
theorem dX11_opens_45 : decode cX11_opens 45 = .ok (.iadd, 1) := dq daX11_opens_245_0 20 rfl
theorem dX11_opens_46 : decode cX11_opens 46 = .ok (.putfield 153, 3) := dq daX11_opens_245_0 21 rfl
theorem dX11_opens_49 : decode cX11_opens 49 = .ok (.iconst 1, 1) := dq daX11_opens_245_0 22 rfl
theorem dX11_opens_9 : decode cX11_opens 9 = .ok (.aload_n 0, 1) := dq daX11_opens_245_0 23 rfl
theorem dX11_opens_10 : decode cX11_opens 10 = .ok (.iconst 2, 1) := dq daX11_opens_245_0 24 rfl
theorem dX11_opens_11 : decode cX11_opens 11 = .ok (.aload_n 0, 1) := dq daX11_opens_245_0 25 rfl
theorem dX11_opens_12 : decode cX11_opens 12 = .ok (.getfield 90, 3) := dq daX11_opens_245_0 26 rfl
theorem dX11_opens_15 : decode cX11_opens 15 = .ok (.invokevirtual 111, 3) := dq daX11_opens_245_0 27 rfl
theorem dX11_opens_50 : decode cX11_opens 50 = .ok (.ireturn, 1) := dq daX11_opens_245_0 28 rfl
theorem dX11_opens_18 : decode cX11_opens 18 = .ok (.ireturn, 1) := dq daX11_opens_245_0 29 rfl
def dtX11_isInside_245_0 : List (Nat × Jvm.ClassFile.Instr × Nat) := [(0, .iconst 0, 1), (1, .istore_n 1, 1), (2, .iload_n 1, 1), (3, .aload_n 0, 1), (4, .getfield 153, 3), (7, .if_icmp .ge 22, 3), (10, .aload_n 0, 1), (11, .getfield 29, 3), (14, .iload_n 1, 1), (15, .iaload, 1), (16, .bipush 91, 2), (18, .if_icmp .ne 5, 3), (23, .iinc 1 1, 3), (26, .goto (-24), 3), (21, .iconst 1, 1), (22, .ireturn, 1), (29, .iconst 0, 1), (30, .ireturn, 1)]
theorem daX11_isInside_245_0 : dtX11_isInside_245_0.all (dqd cX11_isInside) = true := by decide +kernel
theorem dX11_isInside_0 : decode cX11_isInside 0 = .ok (.iconst 0, 1) := dq daX11_isInside_245_0 0 rfl
theorem dX11_isInside_1 : decode cX11_isInside 1 = .ok (.istore_n 1, 1) := dq daX11_isInside_245_0 1 rfl
theorem dX11_isInside_2 : decode cX11_isInside 2 = .ok (.iload_n 1, 1) := dq daX11_isInside_245_0 2 rfl
theorem dX11_isInside_3 : decode cX11_isInside 3 = .ok (.aload_n 0, 1) := dq daX11_isInside_245_0 3 rfl
theorem dX11_isInside_4 : decode cX11_isInside 4 = .ok (.getfield 153, 3) := dq daX11_isInside_245_0 4 rfl
theorem dX11_isInside_7 : decode cX11_isInside 7 = .ok (.if_icmp .ge 22, 3) := dq daX11_isInside_245_0 5 rfl
theorem dX11_isInside_10 : decode cX11_isInside 10 = .ok (.aload_n 0, 1) := dq daX11_isInside_245_0 6 rfl
theorem dX11_isInside_11 : decode cX11_isInside 11 = .ok (.getfield 29, 3) := dq daX11_isInside_245_0 7 rfl
theorem dX11_isInside_14 : decode cX11_isInside 14 = .ok (.iload_n 1, 1) := dq daX11_isInside_245_0 8 rfl
theorem dX11_isInside_15 : decode cX11_isInside 15 = .ok (.iaload, 1) := dq daX11_isInside_245_0 9 rfl
theorem dX11_isInside_16 : decode cX11_isInside 16 = .ok (.bipush 91, 2) := dq daX11_isInside_245_0 10 rfl
theorem dX11_isInside_18 : decode cX11_isInside 18 = .ok (.if_icmp .ne 5, 3) := dq daX11_isInside_245_0 11 rfl
theorem dX11_isInside_23 : decode cX11_isInside 23 = .ok (.iinc 1 1, 3) := dq daX11_isInside_245_0 12 rfl
theorem dX11_isInside_26 : decode cX11_isInside 26 = .ok (.goto (-24), 3) := dq daX11_isInside_245_0 13 rfl
theorem dX11_isInside_21 : decode cX11_isInside 21 = .ok (.iconst 1, 1) := dq daX11_isInside_245_0 14 rfl
theorem dX11_isInside_22 : decode cX11_isInside 22 = .ok (.ireturn, 1) := dq daX11_isInside_245_0 15 rfl
theorem dX11_isInside_29 : decode cX11_isInside 29 = .ok (.iconst 0, 1) := dq daX11_isInside_245_0 16 rfl
theorem dX11_isInside_30 : decode cX11_isInside 30 = .ok (.ireturn, 1) := dq daX11_isInside_245_0 17 rfl
theorem gl_mX11_makes_0 (m_made : Int32) (x2 : Int32) (h0 : ¬ m_made < 0) (h1 : ¬ 60 < m_made) (h2 : ¬ m_made = 60) (h3 : x2 = (m_made + 1)) : (¬ x2 < 0 ∧ ¬ 60 < x2) := by grind
theorem gl_mX11_makes_1 (m_wrong : Int32) (h0 : ¬ m_wrong < 0) : (¬ m_wrong < 0) := by grind
theorem gl_mX11_makes_2 (m_made : Int32) (x2 : Int32) (h0 : ¬ m_made < 0) (h1 : ¬ 60 < m_made) (h2 : ¬ m_made = 60) (h3 : x2 = (m_made + 1)) : x2 = m_made + 1 := by grind
theorem gl_mX11_makes_3 (m_made : Int32) (x2 : Int32) (h0 : ¬ m_made < 0) (h1 : ¬ 60 < m_made) (h2 : ¬ m_made = 60) (h3 : x2 = (m_made + 1)) : (¬ x2 < m_made) := by grind
theorem gl_mX11_makes_4 (m_made : Int32) (h0 : ¬ m_made < 0) (h1 : ¬ 60 < m_made) (h2 : m_made = 60) : (¬ m_made < 0 ∧ ¬ 60 < m_made) := by grind
theorem gl_mX11_makes_5 (o6 : Int32) (h0 : ¬ o6 < 1) : (¬ o6 < 0) := by grind
theorem gl_mX11_makes_6 (o6 : Int32) (h0 : ¬ o6 < 1) : ¬ o6 < 1 := by grind
theorem gl_mX11_makes_7 (m_made : Int32) (h0 : ¬ m_made < 0) (h1 : ¬ 60 < m_made) (h2 : m_made = 60) : (¬ m_made < m_made) := by grind
set_option maxRecDepth 100000 in
def fX11_makes (m_wrong : Int32) (m_made : Int32) (p0 : Int32) : Int32 × Int32 × Int32 := if m_made = 60 then (bnd (fX11_fails m_wrong 3 p0) (fun (o6 : Int32) => (o6, m_made, 0))) else (bnd ((m_made + 1)) (fun (x2 : Int32) => (m_wrong, x2, 1)))
set_option maxHeartbeats 4000000 in
set_option maxRecDepth 100000 in
theorem mX11_makes (l : Launch) (dC : Nat → ClassId) (dI : Nat → Nat → Nat) (kA : Nat → ClassId) (sz : Nat) (n0 : Nat) (m_taped : Int32) (m_laws : Int32) (m_next : Int32) (m_wrong : Int32) (m_number : Int32) (m_text : Int32) (m_made : Int32) (m_deep : Int32) (m_lines : Int32) (m_opened : Int32) (m_top : Int32) (m_goNode : Int32) (m_goDrops : Int32) (m_goHour : Int32) (m_goFelt : Int32) (m_goSalt : Int32) (m_goMore : Int32) (m_bestLeft : Int32) (m_bestHour : Int32) (m_bestMany : Int32) (a_tape : Nat) (a_sign : Nat) (a_length : Nat) (a_clause : Nat) (a_clauses : Nat) (a_chain : Nat) (a_open : Nat) (a_stack : Nat) (a_word : Nat) (a_said : Nat) (a_kept : Nat) (a_stepNode : Nat) (a_stepDrops : Nat) (a_stepHour : Nat) (a_stepNext : Nat) (a_stepPass : Nat) (a_bestPass : Nat) (a_far : Nat) (a_waited : Nat) (a_servers : Nat) (a_images : Nat) (a_isMade : Nat) (p0 : Int32) (w0_ : ¬ m_wrong < 0) (m0_ : ¬ m_made < 0) (m1_ : ¬ 60 < m_made) (a0_ : ¬ p0 < 0) (a4_ : ¬ 400 < p0) : Met l yX11_makes wsX11_makes ({ frames := 1, cells := 0, slots := 0, locals := 22 }) (zPc dC dI kA sz [.ref n0, .int p0] [(n0, .inr (11, .ref a_tape :: .int m_taped :: .int m_laws :: .ref a_sign :: .ref a_length :: .ref a_clause :: .ref a_clauses :: .ref a_chain :: .int m_next :: .int m_wrong :: .int m_number :: .int m_text :: .int m_made :: .int m_deep :: .int m_lines :: .ref a_open :: .int m_opened :: .ref a_stack :: .int m_top :: .ref a_word :: .ref a_said :: .ref a_kept :: [.int m_goNode, .int m_goDrops, .int m_goHour, .int m_goFelt, .int m_goSalt, .int m_goMore, .ref a_stepNode, .ref a_stepDrops, .ref a_stepHour, .ref a_stepNext, .ref a_stepPass, .int m_bestLeft, .int m_bestHour, .int m_bestMany, .ref a_bestPass, .ref a_far, .ref a_waited, .ref a_servers, .ref a_images, .ref a_isMade]))]) (va_Qi (fun (r : Int32) (u : Int32 × Int32 × Int32) => r = u.2.2 ∧ (u.1, u.2.1, u.2.2) = fX11_makes m_wrong m_made p0 ∧ (u.2.2 = 0 ∨ u.2.2 = 1) ∧ (¬ u.2.1 < 0 ∧ ¬ 60 < u.2.1) ∧ (¬ u.1 < 0) ∧ ((u.2.2 : Int32) = 0 → ¬ u.1 < 1) ∧ (¬ (u.2.2 : Int32) = 0 → u.2.1 = m_made + 1) ∧ (¬ u.2.1 < m_made)) (zB dC dI (va_A [(n0, .inr (11, .ref a_tape :: .int m_taped :: .int m_laws :: .ref a_sign :: .ref a_length :: .ref a_clause :: .ref a_clauses :: .ref a_chain :: .int m_next :: .int m_wrong :: .int m_number :: .int m_text :: .int m_made :: .int m_deep :: .int m_lines :: .ref a_open :: .int m_opened :: .ref a_stack :: .int m_top :: .ref a_word :: .ref a_said :: .ref a_kept :: [.int m_goNode, .int m_goDrops, .int m_goHour, .int m_goFelt, .int m_goSalt, .int m_goMore, .ref a_stepNode, .ref a_stepDrops, .ref a_stepHour, .ref a_stepNext, .ref a_stepPass, .int m_bestLeft, .int m_bestHour, .int m_bestMany, .ref a_bestPass, .ref a_far, .ref a_waited, .ref a_servers, .ref a_images, .ref a_isMade]))] sz) (fun (u : Int32 × Int32 × Int32) => [(n0, .inr (11, .ref a_tape :: .int m_taped :: .int m_laws :: .ref a_sign :: .ref a_length :: .ref a_clause :: .ref a_clauses :: .ref a_chain :: .int m_next :: .int u.1 :: .int m_number :: .int m_text :: .int u.2.1 :: .int m_deep :: .int m_lines :: .ref a_open :: .int m_opened :: .ref a_stack :: .int m_top :: .ref a_word :: .ref a_said :: .ref a_kept :: [.int m_goNode, .int m_goDrops, .int m_goHour, .int m_goFelt, .int m_goSalt, .int m_goMore, .ref a_stepNode, .ref a_stepDrops, .ref a_stepHour, .ref a_stepNext, .ref a_stepPass, .int m_bestLeft, .int m_bestHour, .int m_bestMany, .ref a_bestPass, .ref a_far, .ref a_waited, .ref a_servers, .ref a_images, .ref a_isMade]))])) (va_A [(n0, .inr (11, .ref a_tape :: .int m_taped :: .int m_laws :: .ref a_sign :: .ref a_length :: .ref a_clause :: .ref a_clauses :: .ref a_chain :: .int m_next :: .int m_wrong :: .int m_number :: .int m_text :: .int m_made :: .int m_deep :: .int m_lines :: .ref a_open :: .int m_opened :: .ref a_stack :: .int m_top :: .ref a_word :: .ref a_said :: .ref a_kept :: [.int m_goNode, .int m_goDrops, .int m_goHour, .int m_goFelt, .int m_goSalt, .int m_goMore, .ref a_stepNode, .ref a_stepDrops, .ref a_stepHour, .ref a_stepNext, .ref a_stepPass, .int m_bestLeft, .int m_bestHour, .int m_bestMany, .ref a_bestPass, .ref a_far, .ref a_waited, .ref a_servers, .ref a_images, .ref a_isMade]))] sz)) 0 0 (va_A [(n0, .inr (11, .ref a_tape :: .int m_taped :: .int m_laws :: .ref a_sign :: .ref a_length :: .ref a_clause :: .ref a_clauses :: .ref a_chain :: .int m_next :: .int m_wrong :: .int m_number :: .int m_text :: .int m_made :: .int m_deep :: .int m_lines :: .ref a_open :: .int m_opened :: .ref a_stack :: .int m_top :: .ref a_word :: .ref a_said :: .ref a_kept :: [.int m_goNode, .int m_goDrops, .int m_goHour, .int m_goFelt, .int m_goSalt, .int m_goMore, .ref a_stepNode, .ref a_stepDrops, .ref a_stepHour, .ref a_stepNext, .ref a_stepPass, .int m_bestLeft, .int m_bestHour, .int m_bestMany, .ref a_bestPass, .ref a_far, .ref a_waited, .ref a_servers, .ref a_images, .ref a_isMade]))] sz) := by
  refine Met.ofW (cc := cX11_makes) (maxL := 2) (ret := (some .boolean)) pnX11 rfl ?_
  intro p e s m args below meth c s₁ B hml hv
  obtain ⟨rfl, hsz, hP, hK, hD0⟩ := hv
  have hx := B.exec
  have hb := B.bytes
  have hr := B.returns
  have hts := atoms_spec (ws := wsX11_makes) B.pre
  have hown : s.vm.findClass RX11 = some m.cls := findClass_of_methodNamed B.named
  have hlocks := B.notSynchronized
  subst hsz
  have hD := hD0.self (sz := s.heap.size)
  generalize hAe : va_A [(n0, .inr (11, .ref a_tape :: .int m_taped :: .int m_laws :: .ref a_sign :: .ref a_length :: .ref a_clause :: .ref a_clauses :: .ref a_chain :: .int m_next :: .int m_wrong :: .int m_number :: .int m_text :: .int m_made :: .int m_deep :: .int m_lines :: .ref a_open :: .int m_opened :: .ref a_stack :: .int m_top :: .ref a_word :: .ref a_said :: .ref a_kept :: [.int m_goNode, .int m_goDrops, .int m_goHour, .int m_goFelt, .int m_goSalt, .int m_goMore, .ref a_stepNode, .ref a_stepDrops, .ref a_stepHour, .ref a_stepNext, .ref a_stepPass, .int m_bestLeft, .int m_bestHour, .int m_bestMany, .ref a_bestPass, .ref a_far, .ref a_waited, .ref a_servers, .ref a_images, .ref a_isMade]))] s.heap.size = A at hD ⊢
  have hA : ∀ q : Nat, s.heap.size ≤ q → A q := zA_of hAe
  have hS : va_S A s.heap s.heap [] := va_S.rf
  have hP : va_P (dC, dI) vwCl [(n0, .inr (11, .ref a_tape :: .int m_taped :: .int m_laws :: .ref a_sign :: .ref a_length :: .ref a_clause :: .ref a_clauses :: .ref a_chain :: .int m_next :: .int m_wrong :: .int m_number :: .int m_text :: .int m_made :: .int m_deep :: .int m_lines :: .ref a_open :: .int m_opened :: .ref a_stack :: .int m_top :: .ref a_word :: .ref a_said :: .ref a_kept :: [.int m_goNode, .int m_goDrops, .int m_goHour, .int m_goFelt, .int m_goSalt, .int m_goMore, .ref a_stepNode, .ref a_stepDrops, .ref a_stepHour, .ref a_stepNext, .ref a_stepPass, .int m_bestLeft, .int m_bestHour, .int m_bestMany, .ref a_bestPass, .ref a_far, .ref a_waited, .ref a_servers, .ref a_images, .ref a_isMade]))] s.heap := hP
  have hl := lv_entry ([.ref n0, .int p0]) (n := 2) (Nat.le_of_ble_eq_true rfl)
  rw [lg_entry_eq]
  generalize (lg_sl ([.ref n0, .int p0]) ++ List.replicate (2 - (lg_sl ([.ref n0, .int p0])).length) Slot.unset).toArray = ls at hl ⊢
  have hl : lv_has ls 2 [(0, .ref n0), (1, .int p0)] := hl
  obtain ⟨H, hHe⟩ : ∃ H : Heap, H = s.heap := ⟨_, rfl⟩
  obtain ⟨G, hG0⟩ : ∃ G : Int32 × Int32 × Int32, fX11_makes m_wrong m_made p0 = G := ⟨_, rfl⟩
  have hG := hG0
  unfold fX11_makes at hG
  refine lv_aload_n hx hb dX11_makes_0 rfl (lv_at hl 0 rfl) ?_
  refine va_get (D := (dC, dI)) (ci := 11) (v := .int m_made) (C := RX11) (T := TX11) (N := 42) hx hb hts iX11_makes_X11 hown hK.1 hP 0 gz0 vcz11 12 (by decide) (kX11_makes_1 hts) (fun _ h9 => h9) gz12 dX11_makes_1 ?_
  refine lv_bipush (v := 60) hx hb dX11_makes_4 (by decide) ?_
  refine lv_icmp_ne (tgt := 16) hx hb dX11_makes_6 (by decide) (fun c_1 => ?_) (fun c_1 => ?_)
  · have hG := zelse hG c_1
    refine lv_aload_n hx hb dX11_makes_16 rfl (lv_at hl 0 rfl) ?_
    refine lv_dup hx hb dX11_makes_17 rfl ?_
    refine va_get (D := (dC, dI)) (ci := 11) (v := .int m_made) (C := RX11) (T := TX11) (N := 42) hx hb hts iX11_makes_X11 hown hK.1 hP 0 gz0 vcz11 12 (by decide) (kX11_makes_1 hts) (fun _ h9 => h9) gz12 dX11_makes_18 ?_
    refine lv_iconst (v := 1) hx hb dX11_makes_21 (by decide) ?_
    refine lv_iadd hx hb dX11_makes_22 ?_
    refine lv_topi (fun x2 ex2 => ?_)
    have hG := zbnd hG ex2
    refine va_put (D := (dC, dI)) (ci := 11) (v := .int x2) (ty := .int) (C := RX11) (T := TX11) (N := 42) hx hb hts iX11_makes_X11 tyX11 tyX11_ok nmX11 hown hK.1 hP hD hS 0 gz0 vcz11 12 (by decide) (kX11_makes_1 hts) (fun _ h9 => h9) rfl pfdI rfl rfl (Nat.le_of_ble_eq_true rfl) dX11_makes_23 (fun H locs hP hD hS => ?_)
    obtain ⟨hP, hD⟩ := z_re (L := [(n0, .inr (11, .ref a_tape :: .int m_taped :: .int m_laws :: .ref a_sign :: .ref a_length :: .ref a_clause :: .ref a_clauses :: .ref a_chain :: .int m_next :: .int m_wrong :: .int m_number :: .int m_text :: .int x2 :: .int m_deep :: .int m_lines :: .ref a_open :: .int m_opened :: .ref a_stack :: .int m_top :: .ref a_word :: .ref a_said :: .ref a_kept :: [.int m_goNode, .int m_goDrops, .int m_goHour, .int m_goFelt, .int m_goSalt, .int m_goMore, .ref a_stepNode, .ref a_stepDrops, .ref a_stepHour, .ref a_stepNext, .ref a_stepPass, .int m_bestLeft, .int m_bestHour, .int m_bestMany, .ref a_bestPass, .ref a_far, .ref a_waited, .ref a_servers, .ref a_images, .ref a_isMade]))]) hP hD
    refine lv_iconst (v := 1) hx hb dX11_makes_26 (by decide) ?_
    obtain ⟨hP9, hD9⟩ := z_sb (L' := [(n0, .inr (11, .ref a_tape :: .int m_taped :: .int m_laws :: .ref a_sign :: .ref a_length :: .ref a_clause :: .ref a_clauses :: .ref a_chain :: .int m_next :: .int m_wrong :: .int m_number :: .int m_text :: .int x2 :: .int m_deep :: .int m_lines :: .ref a_open :: .int m_opened :: .ref a_stack :: .int m_top :: .ref a_word :: .ref a_said :: .ref a_kept :: [.int m_goNode, .int m_goDrops, .int m_goHour, .int m_goFelt, .int m_goSalt, .int m_goMore, .ref a_stepNode, .ref a_stepDrops, .ref a_stepHour, .ref a_stepNext, .ref a_stepPass, .int m_bestLeft, .int m_bestHour, .int m_bestMany, .ref a_bestPass, .ref a_far, .ref a_waited, .ref a_servers, .ref a_images, .ref a_isMade]))]) hP hD [0] (by decide) rfl
    refine W.widen (k := 0) (n := 0) (Nat.le_of_ble_eq_true rfl) (Nat.le_of_ble_eq_true rfl) ?_
    exact W.zret (v := 1) hx hb hr rfl (fun t ht hW => ⟨⟨1, (m_wrong, x2, 1), rfl, ⟨rfl, (hG.trans hG0.symm), (Or.inr rfl), (gl_mX11_makes_0 m_made x2 m0_ m1_ c_1 ex2), (gl_mX11_makes_1 m_wrong w0_), (fun q => absurd (show ((1) : Int32) = 0 from q) (by decide)), (fun _ => (gl_mX11_makes_2 m_made x2 m0_ m1_ c_1 ex2)), (gl_mX11_makes_3 m_made x2 m0_ m1_ c_1 ex2)⟩, by rw [ht]; exact hP9, hD9⟩, hS.F ht⟩) hS.2.2 dX11_makes_27
  · have hG := zthen hG c_1
    refine lv_aload_n hx hb dX11_makes_9 rfl (lv_at hl 0 rfl) ?_
    refine lv_iconst (v := 3) hx hb dX11_makes_10 (by decide) ?_
    refine lv_iload_n hx hb dX11_makes_11 rfl (lv_at hl 1 rfl) ?_
    refine z_i (wr := []) (va_runV (As := [.int 3, .int p0]) (rest := []) ⟨hx, hb, hml, hown, hts⟩ (mX11_fails l dC dI kA _ n0 m_taped m_laws m_next m_wrong m_number m_text m_made m_deep m_lines m_opened m_top m_goNode m_goDrops m_goHour m_goFelt m_goSalt m_goMore m_bestLeft m_bestHour m_bestMany a_tape a_sign a_length a_clause a_clauses a_chain a_open a_stack a_word a_said a_kept a_stepNode a_stepDrops a_stepHour a_stepNext a_stepPass a_bestPass a_far a_waited a_servers a_images a_isMade 3 p0 w0_ (by decide) (by decide) a0_ a4_) (cwV 2 hts gX11_makes_X11_fails rfl rfl rfl ⟨rfl, hdX11_fails⟩ ⟨(Nat.le_of_ble_eq_true rfl), (Nat.le_of_ble_eq_true rfl)⟩) ⟨zPc.blind, va_recv (q := (RX11, TX11, 42)) hK.1 hP (ci := 11) (q0 := 0) rfl rfl, zPre hK (hP.sub [0] rfl) (hD.sub [0] (by decide) rfl)⟩ rfl rfl hl.1 rfl (lv_room (Nat.le_of_ble_eq_true rfl)) dX11_makes_12 ⟨(Nat.le_of_ble_eq_true rfl), (Nat.le_of_ble_eq_true rfl)⟩) hP hD hS hA [0] [] rfl rfl (by decide) (by decide) (fun r5 u3 H locs hw4 hP hD hS => ?_)
    obtain ⟨o6, rfl⟩ : ∃ z, z = u3 := ⟨_, rfl⟩
    obtain ⟨rfl, hp7, hp8⟩ := hw4
    have eo6 : o6 = fX11_fails m_wrong 3 p0 := hp7
    have hG := zbnd hG eo6
    obtain ⟨hP, hD⟩ := z_re (L := [(n0, .inr (11, .ref a_tape :: .int m_taped :: .int m_laws :: .ref a_sign :: .ref a_length :: .ref a_clause :: .ref a_clauses :: .ref a_chain :: .int m_next :: .int o6 :: .int m_number :: .int m_text :: .int m_made :: .int m_deep :: .int m_lines :: .ref a_open :: .int m_opened :: .ref a_stack :: .int m_top :: .ref a_word :: .ref a_said :: .ref a_kept :: [.int m_goNode, .int m_goDrops, .int m_goHour, .int m_goFelt, .int m_goSalt, .int m_goMore, .ref a_stepNode, .ref a_stepDrops, .ref a_stepHour, .ref a_stepNext, .ref a_stepPass, .int m_bestLeft, .int m_bestHour, .int m_bestMany, .ref a_bestPass, .ref a_far, .ref a_waited, .ref a_servers, .ref a_images, .ref a_isMade]))]) hP hD
    obtain ⟨hP9, hD9⟩ := z_sb (L' := [(n0, .inr (11, .ref a_tape :: .int m_taped :: .int m_laws :: .ref a_sign :: .ref a_length :: .ref a_clause :: .ref a_clauses :: .ref a_chain :: .int m_next :: .int o6 :: .int m_number :: .int m_text :: .int m_made :: .int m_deep :: .int m_lines :: .ref a_open :: .int m_opened :: .ref a_stack :: .int m_top :: .ref a_word :: .ref a_said :: .ref a_kept :: [.int m_goNode, .int m_goDrops, .int m_goHour, .int m_goFelt, .int m_goSalt, .int m_goMore, .ref a_stepNode, .ref a_stepDrops, .ref a_stepHour, .ref a_stepNext, .ref a_stepPass, .int m_bestLeft, .int m_bestHour, .int m_bestMany, .ref a_bestPass, .ref a_far, .ref a_waited, .ref a_servers, .ref a_images, .ref a_isMade]))]) hP hD [0] (by decide) rfl
    refine W.widen (k := 0) (n := 0) (Nat.le_of_ble_eq_true rfl) (Nat.le_of_ble_eq_true rfl) ?_
    exact W.zret (v := 0) hx hb hr rfl (fun t ht hW => ⟨⟨0, (o6, m_made, 0), rfl, ⟨rfl, (hG.trans hG0.symm), (Or.inl rfl), (gl_mX11_makes_4 m_made m0_ m1_ c_1), (gl_mX11_makes_5 o6 hp8), (fun _ => (gl_mX11_makes_6 o6 hp8)), (fun q => absurd rfl q), (gl_mX11_makes_7 m_made m0_ m1_ c_1)⟩, by rw [ht]; exact hP9, hD9⟩, hS.F ht⟩) hS.2.2 dX11_makes_15
theorem gl_mX11_puts_0 (m_text : Int32) (lengthF : Nat → Int32) (x1 : Int32) (h0 : ¬ m_text < 0) (h1 : ¬ 6 ≤ m_text) (h2 : (¬ (lengthF m_text.toNatClampNeg) < 0 ∧ (lengthF m_text.toNatClampNeg) < 400)) (h3 : x1 = lengthF m_text.toNatClampNeg) : (¬ ((400 * m_text) + x1) < 0 ∧ ¬ 2400 ≤ ((400 * m_text) + x1)) := by grind
set_option maxRecDepth 100000 in
def fX11_puts (m_text : Int32) (signF : Nat → Int32) (lengthF : Nat → Int32) (p0 : Int32) (p1 : Int32) : (Nat → Int32) × (Nat → Int32) := bnd (lengthF m_text.toNatClampNeg) (fun (x1 : Int32) => bnd ((upd signF ((400 * m_text) + x1).toNatClampNeg (p0 + (16 * p1)))) (fun (f2 : Nat → Int32) => bnd (lengthF m_text.toNatClampNeg) (fun (x4 : Int32) => bnd ((upd lengthF m_text.toNatClampNeg (x4 + 1))) (fun (f5 : Nat → Int32) => (f2, f5)))))
set_option maxHeartbeats 4000000 in
set_option maxRecDepth 100000 in
theorem mX11_puts (l : Launch) (dC : Nat → ClassId) (dI : Nat → Nat → Nat) (kA : Nat → ClassId) (sz : Nat) (n0 : Nat) (m_taped : Int32) (m_laws : Int32) (m_next : Int32) (m_wrong : Int32) (m_number : Int32) (m_text : Int32) (m_made : Int32) (m_deep : Int32) (m_lines : Int32) (m_opened : Int32) (m_top : Int32) (m_goNode : Int32) (m_goDrops : Int32) (m_goHour : Int32) (m_goFelt : Int32) (m_goSalt : Int32) (m_goMore : Int32) (m_bestLeft : Int32) (m_bestHour : Int32) (m_bestMany : Int32) (a_tape : Nat) (a_sign : Nat) (a_length : Nat) (a_clause : Nat) (a_clauses : Nat) (a_chain : Nat) (a_open : Nat) (a_stack : Nat) (a_word : Nat) (a_said : Nat) (a_kept : Nat) (a_stepNode : Nat) (a_stepDrops : Nat) (a_stepHour : Nat) (a_stepNext : Nat) (a_stepPass : Nat) (a_bestPass : Nat) (a_far : Nat) (a_waited : Nat) (a_servers : Nat) (a_images : Nat) (a_isMade : Nat) (signF : Nat → Int32) (lengthF : Nat → Int32) (p0 : Int32) (p1 : Int32) (x0_ : ¬ m_text < 0) (x1_ : ¬ 6 ≤ m_text) (hl_ : (¬ (lengthF m_text.toNatClampNeg) < 0 ∧ (lengthF m_text.toNatClampNeg) < 400)) : Met l yX11_puts wsX11_puts ({ frames := 0, cells := 0, slots := 0, locals := 0 }) (zPc dC dI kA sz [.ref n0, .int p0, .int p1] [(n0, .inr (11, .ref a_tape :: .int m_taped :: .int m_laws :: .ref a_sign :: .ref a_length :: .ref a_clause :: .ref a_clauses :: .ref a_chain :: .int m_next :: .int m_wrong :: .int m_number :: .int m_text :: .int m_made :: .int m_deep :: .int m_lines :: .ref a_open :: .int m_opened :: .ref a_stack :: .int m_top :: .ref a_word :: .ref a_said :: .ref a_kept :: [.int m_goNode, .int m_goDrops, .int m_goHour, .int m_goFelt, .int m_goSalt, .int m_goMore, .ref a_stepNode, .ref a_stepDrops, .ref a_stepHour, .ref a_stepNext, .ref a_stepPass, .int m_bestLeft, .int m_bestHour, .int m_bestMany, .ref a_bestPass, .ref a_far, .ref a_waited, .ref a_servers, .ref a_images, .ref a_isMade])), (a_sign, .inl (kA 0, 2400, .inl signF)), (a_length, .inl (kA 0, 6, .inl lengthF))]) (va_Qv (fun (u : (Nat → Int32) × (Nat → Int32)) => (u.1, u.2) = fX11_puts m_text signF lengthF p0 p1 ∧ PT signF lengthF u.1 u.2 m_text p0 p1) (zB dC dI (va_A [(n0, .inr (11, .ref a_tape :: .int m_taped :: .int m_laws :: .ref a_sign :: .ref a_length :: .ref a_clause :: .ref a_clauses :: .ref a_chain :: .int m_next :: .int m_wrong :: .int m_number :: .int m_text :: .int m_made :: .int m_deep :: .int m_lines :: .ref a_open :: .int m_opened :: .ref a_stack :: .int m_top :: .ref a_word :: .ref a_said :: .ref a_kept :: [.int m_goNode, .int m_goDrops, .int m_goHour, .int m_goFelt, .int m_goSalt, .int m_goMore, .ref a_stepNode, .ref a_stepDrops, .ref a_stepHour, .ref a_stepNext, .ref a_stepPass, .int m_bestLeft, .int m_bestHour, .int m_bestMany, .ref a_bestPass, .ref a_far, .ref a_waited, .ref a_servers, .ref a_images, .ref a_isMade])), (a_sign, .inl (kA 0, 2400, .inl signF)), (a_length, .inl (kA 0, 6, .inl lengthF))] sz) (fun (u : (Nat → Int32) × (Nat → Int32)) => [(n0, .inr (11, .ref a_tape :: .int m_taped :: .int m_laws :: .ref a_sign :: .ref a_length :: .ref a_clause :: .ref a_clauses :: .ref a_chain :: .int m_next :: .int m_wrong :: .int m_number :: .int m_text :: .int m_made :: .int m_deep :: .int m_lines :: .ref a_open :: .int m_opened :: .ref a_stack :: .int m_top :: .ref a_word :: .ref a_said :: .ref a_kept :: [.int m_goNode, .int m_goDrops, .int m_goHour, .int m_goFelt, .int m_goSalt, .int m_goMore, .ref a_stepNode, .ref a_stepDrops, .ref a_stepHour, .ref a_stepNext, .ref a_stepPass, .int m_bestLeft, .int m_bestHour, .int m_bestMany, .ref a_bestPass, .ref a_far, .ref a_waited, .ref a_servers, .ref a_images, .ref a_isMade])), (a_sign, .inl (kA 0, 2400, .inl u.1)), (a_length, .inl (kA 0, 6, .inl u.2))])) (va_A [(n0, .inr (11, .ref a_tape :: .int m_taped :: .int m_laws :: .ref a_sign :: .ref a_length :: .ref a_clause :: .ref a_clauses :: .ref a_chain :: .int m_next :: .int m_wrong :: .int m_number :: .int m_text :: .int m_made :: .int m_deep :: .int m_lines :: .ref a_open :: .int m_opened :: .ref a_stack :: .int m_top :: .ref a_word :: .ref a_said :: .ref a_kept :: [.int m_goNode, .int m_goDrops, .int m_goHour, .int m_goFelt, .int m_goSalt, .int m_goMore, .ref a_stepNode, .ref a_stepDrops, .ref a_stepHour, .ref a_stepNext, .ref a_stepPass, .int m_bestLeft, .int m_bestHour, .int m_bestMany, .ref a_bestPass, .ref a_far, .ref a_waited, .ref a_servers, .ref a_images, .ref a_isMade])), (a_sign, .inl (kA 0, 2400, .inl signF)), (a_length, .inl (kA 0, 6, .inl lengthF))] sz)) 0 0 (va_A [(n0, .inr (11, .ref a_tape :: .int m_taped :: .int m_laws :: .ref a_sign :: .ref a_length :: .ref a_clause :: .ref a_clauses :: .ref a_chain :: .int m_next :: .int m_wrong :: .int m_number :: .int m_text :: .int m_made :: .int m_deep :: .int m_lines :: .ref a_open :: .int m_opened :: .ref a_stack :: .int m_top :: .ref a_word :: .ref a_said :: .ref a_kept :: [.int m_goNode, .int m_goDrops, .int m_goHour, .int m_goFelt, .int m_goSalt, .int m_goMore, .ref a_stepNode, .ref a_stepDrops, .ref a_stepHour, .ref a_stepNext, .ref a_stepPass, .int m_bestLeft, .int m_bestHour, .int m_bestMany, .ref a_bestPass, .ref a_far, .ref a_waited, .ref a_servers, .ref a_images, .ref a_isMade])), (a_sign, .inl (kA 0, 2400, .inl signF)), (a_length, .inl (kA 0, 6, .inl lengthF))] sz) := by
  refine Met.ofW (cc := cX11_puts) (maxL := 3) (ret := none) pnX11 rfl ?_
  intro p e s m args below meth c s₁ B hml hv
  obtain ⟨rfl, hsz, hP, hK, hD0⟩ := hv
  have hx := B.exec
  have hb := B.bytes
  have hr := B.returns
  have hts := atoms_spec (ws := wsX11_puts) B.pre
  have hown : s.vm.findClass RX11 = some m.cls := findClass_of_methodNamed B.named
  have hlocks := B.notSynchronized
  subst hsz
  have hD := hD0.self (sz := s.heap.size)
  generalize hAe : va_A [(n0, .inr (11, .ref a_tape :: .int m_taped :: .int m_laws :: .ref a_sign :: .ref a_length :: .ref a_clause :: .ref a_clauses :: .ref a_chain :: .int m_next :: .int m_wrong :: .int m_number :: .int m_text :: .int m_made :: .int m_deep :: .int m_lines :: .ref a_open :: .int m_opened :: .ref a_stack :: .int m_top :: .ref a_word :: .ref a_said :: .ref a_kept :: [.int m_goNode, .int m_goDrops, .int m_goHour, .int m_goFelt, .int m_goSalt, .int m_goMore, .ref a_stepNode, .ref a_stepDrops, .ref a_stepHour, .ref a_stepNext, .ref a_stepPass, .int m_bestLeft, .int m_bestHour, .int m_bestMany, .ref a_bestPass, .ref a_far, .ref a_waited, .ref a_servers, .ref a_images, .ref a_isMade])), (a_sign, .inl (kA 0, 2400, .inl signF)), (a_length, .inl (kA 0, 6, .inl lengthF))] s.heap.size = A at hD ⊢
  have hA : ∀ q : Nat, s.heap.size ≤ q → A q := zA_of hAe
  have hS : va_S A s.heap s.heap [] := va_S.rf
  have hP : va_P (dC, dI) vwCl [(n0, .inr (11, .ref a_tape :: .int m_taped :: .int m_laws :: .ref a_sign :: .ref a_length :: .ref a_clause :: .ref a_clauses :: .ref a_chain :: .int m_next :: .int m_wrong :: .int m_number :: .int m_text :: .int m_made :: .int m_deep :: .int m_lines :: .ref a_open :: .int m_opened :: .ref a_stack :: .int m_top :: .ref a_word :: .ref a_said :: .ref a_kept :: [.int m_goNode, .int m_goDrops, .int m_goHour, .int m_goFelt, .int m_goSalt, .int m_goMore, .ref a_stepNode, .ref a_stepDrops, .ref a_stepHour, .ref a_stepNext, .ref a_stepPass, .int m_bestLeft, .int m_bestHour, .int m_bestMany, .ref a_bestPass, .ref a_far, .ref a_waited, .ref a_servers, .ref a_images, .ref a_isMade])), (a_sign, .inl (kA 0, 2400, .inl signF)), (a_length, .inl (kA 0, 6, .inl lengthF))] s.heap := hP
  have hl := lv_entry ([.ref n0, .int p0, .int p1]) (n := 3) (Nat.le_of_ble_eq_true rfl)
  rw [lg_entry_eq]
  generalize (lg_sl ([.ref n0, .int p0, .int p1]) ++ List.replicate (3 - (lg_sl ([.ref n0, .int p0, .int p1])).length) Slot.unset).toArray = ls at hl ⊢
  have hl : lv_has ls 3 [(0, .ref n0), (1, .int p0), (2, .int p1)] := hl
  obtain ⟨H, hHe⟩ : ∃ H : Heap, H = s.heap := ⟨_, rfl⟩
  obtain ⟨G, hG0⟩ : ∃ G : (Nat → Int32) × (Nat → Int32), fX11_puts m_text signF lengthF p0 p1 = G := ⟨_, rfl⟩
  have hG := hG0
  unfold fX11_puts at hG
  refine lv_aload_n hx hb dX11_puts_0 rfl (lv_at hl 0 rfl) ?_
  refine va_get (D := (dC, dI)) (ci := 11) (v := .ref a_sign) (C := RX11) (T := TX11) (N := 42) hx hb hts iX11_puts_X11 hown hK.1 hP 0 gz0 vcz11 3 (by decide) (kX11_puts_1 hts) (fun _ h9 => h9) gz3 dX11_puts_1 ?_
  refine lv_sipush (v := 400) hx hb dX11_puts_4 (by decide) ?_
  refine lv_aload_n hx hb dX11_puts_7 rfl (lv_at hl 0 rfl) ?_
  refine va_get (D := (dC, dI)) (ci := 11) (v := .int m_text) (C := RX11) (T := TX11) (N := 42) hx hb hts iX11_puts_X11 hown hK.1 hP 0 gz0 vcz11 11 (by decide) (kX11_puts_2 hts) (fun _ h9 => h9) gz11 dX11_puts_8 ?_
  refine lv_imul hx hb dX11_puts_11 ?_
  refine lv_aload_n hx hb dX11_puts_12 rfl (lv_at hl 0 rfl) ?_
  refine va_get (D := (dC, dI)) (ci := 11) (v := .ref a_length) (C := RX11) (T := TX11) (N := 42) hx hb hts iX11_puts_X11 hown hK.1 hP 0 gz0 vcz11 4 (by decide) (kX11_puts_3 hts) (fun _ h9 => h9) gz4 dX11_puts_13 ?_
  refine lv_aload_n hx hb dX11_puts_16 rfl (lv_at hl 0 rfl) ?_
  refine va_get (D := (dC, dI)) (ci := 11) (v := .int m_text) (C := RX11) (T := TX11) (N := 42) hx hb hts iX11_puts_X11 hown hK.1 hP 0 gz0 vcz11 11 (by decide) (kX11_puts_2 hts) (fun _ h9 => h9) gz11 dX11_puts_17 ?_
  refine va_iald hx hb hK.1 hP 2 0 gz2 tzz0 (vp_lt (by decide) x0_ x1_) dX11_puts_20 ?_
  refine lv_topi (fun x1 ex1 => ?_)
  have hG := zbnd hG ex1
  refine lv_iadd hx hb dX11_puts_21 ?_
  refine lv_iload_n hx hb dX11_puts_22 rfl (lv_at hl 1 rfl) ?_
  refine lv_bipush (v := 16) hx hb dX11_puts_23 (by decide) ?_
  refine lv_iload_n hx hb dX11_puts_25 rfl (lv_at hl 2 rfl) ?_
  refine lv_imul hx hb dX11_puts_26 ?_
  refine lv_iadd hx hb dX11_puts_27 ?_
  refine va_iast hx hb hK.1 hP hD hS 1 0 gz1 tzz0 (vp_g (N := 2400) (by decide) (gl_mX11_puts_0 m_text lengthF x1 x0_ x1_ hl_ ex1)) dX11_puts_28 (fun H locs hP hD hS => ?_)
  obtain ⟨hP, hD⟩ := z_re (L := [(n0, .inr (11, .ref a_tape :: .int m_taped :: .int m_laws :: .ref a_sign :: .ref a_length :: .ref a_clause :: .ref a_clauses :: .ref a_chain :: .int m_next :: .int m_wrong :: .int m_number :: .int m_text :: .int m_made :: .int m_deep :: .int m_lines :: .ref a_open :: .int m_opened :: .ref a_stack :: .int m_top :: .ref a_word :: .ref a_said :: .ref a_kept :: [.int m_goNode, .int m_goDrops, .int m_goHour, .int m_goFelt, .int m_goSalt, .int m_goMore, .ref a_stepNode, .ref a_stepDrops, .ref a_stepHour, .ref a_stepNext, .ref a_stepPass, .int m_bestLeft, .int m_bestHour, .int m_bestMany, .ref a_bestPass, .ref a_far, .ref a_waited, .ref a_servers, .ref a_images, .ref a_isMade])), (a_sign, .inl (kA 0, 2400, .inl (upd signF ((400 * m_text) + x1).toNatClampNeg (p0 + (16 * p1))))), (a_length, .inl (kA 0, 6, .inl lengthF))]) hP hD
  obtain ⟨f2, ef2⟩ : ∃ y : Nat → Int32, y = (upd signF ((400 * m_text) + x1).toNatClampNeg (p0 + (16 * p1))) := ⟨_, rfl⟩
  rw [← ef2] at hP hD
  have hG := zbnd hG ef2
  have hu3 := upd_at ef2
  refine lv_aload_n hx hb dX11_puts_29 rfl (lv_at hl 0 rfl) ?_
  refine va_get (D := (dC, dI)) (ci := 11) (v := .ref a_length) (C := RX11) (T := TX11) (N := 42) hx hb hts iX11_puts_X11 hown hK.1 hP 0 gz0 vcz11 4 (by decide) (kX11_puts_3 hts) (fun _ h9 => h9) gz4 dX11_puts_30 ?_
  refine lv_aload_n hx hb dX11_puts_33 rfl (lv_at hl 0 rfl) ?_
  refine va_get (D := (dC, dI)) (ci := 11) (v := .int m_text) (C := RX11) (T := TX11) (N := 42) hx hb hts iX11_puts_X11 hown hK.1 hP 0 gz0 vcz11 11 (by decide) (kX11_puts_2 hts) (fun _ h9 => h9) gz11 dX11_puts_34 ?_
  refine lv_dup2_11 hx hb dX11_puts_37 rfl rfl ?_
  refine va_iald hx hb hK.1 hP 2 0 gz2 tzz0 (vp_lt (by decide) x0_ x1_) dX11_puts_38 ?_
  refine lv_topi (fun x4 ex4 => ?_)
  have hG := zbnd hG ex4
  refine lv_iconst (v := 1) hx hb dX11_puts_39 (by decide) ?_
  refine lv_iadd hx hb dX11_puts_40 ?_
  refine va_iast hx hb hK.1 hP hD hS 2 0 gz2 tzz0 (vp_lt (by decide) x0_ x1_) dX11_puts_41 (fun H locs hP hD hS => ?_)
  obtain ⟨hP, hD⟩ := z_re (L := [(n0, .inr (11, .ref a_tape :: .int m_taped :: .int m_laws :: .ref a_sign :: .ref a_length :: .ref a_clause :: .ref a_clauses :: .ref a_chain :: .int m_next :: .int m_wrong :: .int m_number :: .int m_text :: .int m_made :: .int m_deep :: .int m_lines :: .ref a_open :: .int m_opened :: .ref a_stack :: .int m_top :: .ref a_word :: .ref a_said :: .ref a_kept :: [.int m_goNode, .int m_goDrops, .int m_goHour, .int m_goFelt, .int m_goSalt, .int m_goMore, .ref a_stepNode, .ref a_stepDrops, .ref a_stepHour, .ref a_stepNext, .ref a_stepPass, .int m_bestLeft, .int m_bestHour, .int m_bestMany, .ref a_bestPass, .ref a_far, .ref a_waited, .ref a_servers, .ref a_images, .ref a_isMade])), (a_sign, .inl (kA 0, 2400, .inl f2)), (a_length, .inl (kA 0, 6, .inl (upd lengthF m_text.toNatClampNeg (x4 + 1))))]) hP hD
  obtain ⟨f5, ef5⟩ : ∃ y : Nat → Int32, y = (upd lengthF m_text.toNatClampNeg (x4 + 1)) := ⟨_, rfl⟩
  rw [← ef5] at hP hD
  have hG := zbnd hG ef5
  have hu6 := upd_at ef5
  obtain ⟨hP9, hD9⟩ := z_sb (L' := [(n0, .inr (11, .ref a_tape :: .int m_taped :: .int m_laws :: .ref a_sign :: .ref a_length :: .ref a_clause :: .ref a_clauses :: .ref a_chain :: .int m_next :: .int m_wrong :: .int m_number :: .int m_text :: .int m_made :: .int m_deep :: .int m_lines :: .ref a_open :: .int m_opened :: .ref a_stack :: .int m_top :: .ref a_word :: .ref a_said :: .ref a_kept :: [.int m_goNode, .int m_goDrops, .int m_goHour, .int m_goFelt, .int m_goSalt, .int m_goMore, .ref a_stepNode, .ref a_stepDrops, .ref a_stepHour, .ref a_stepNext, .ref a_stepPass, .int m_bestLeft, .int m_bestHour, .int m_bestMany, .ref a_bestPass, .ref a_far, .ref a_waited, .ref a_servers, .ref a_images, .ref a_isMade])), (a_sign, .inl (kA 0, 2400, .inl f2)), (a_length, .inl (kA 0, 6, .inl f5))]) hP hD [0, 1, 2] (by decide) rfl
  refine W.widen (k := 0) (n := 0) (Nat.le_of_ble_eq_true rfl) (Nat.le_of_ble_eq_true rfl) ?_
  exact W.vret hx hb hr (fun t ht hW => ⟨⟨(f2, f5), rfl, ⟨(hG.trans hG0.symm), ⟨by rw [ef2, ex1], by rw [ef5, ex4]⟩⟩, by rw [ht]; exact hP9, hD9⟩, hS.F ht⟩) hS.2.2 dX11_puts_42
set_option maxHeartbeats 4000000 in
set_option maxRecDepth 100000 in
theorem mX11_strength (l : Launch) (dC : Nat → ClassId) (dI : Nat → Nat → Nat) (kA : Nat → ClassId) (sz : Nat) (p0 : Int32)  : Met l yX11_strength wsX11_strength ({ frames := 0, cells := 0, slots := 0, locals := 0 }) (zPc dC dI kA sz [.int p0] []) (va_Qi (fun (r : Int32) (u : Unit) => r = (stg p0)) (zB dC dI (va_A [] sz) (fun (u : Unit) => [])) (va_A [] sz)) 0 0 (va_A [] sz) := by
  refine Met.ofW (cc := cX11_strength) (maxL := 1) (ret := (some .int)) pnX11 rfl ?_
  intro p e s m args below meth c s₁ B hml hv
  obtain ⟨rfl, hsz, hP, hK, hD0⟩ := hv
  have hx := B.exec
  have hb := B.bytes
  have hr := B.returns
  have hts := atoms_spec (ws := wsX11_strength) B.pre
  have hown : s.vm.findClass RX11 = some m.cls := findClass_of_methodNamed B.named
  have hlocks := B.notSynchronized
  subst hsz
  have hD := hD0.self (sz := s.heap.size)
  generalize hAe : va_A [] s.heap.size = A at hD ⊢
  have hA : ∀ q : Nat, s.heap.size ≤ q → A q := zA_of hAe
  have hS : va_S A s.heap s.heap [] := va_S.rf
  have hP : va_P (dC, dI) vwCl [] s.heap := hP
  have hl := lv_entry ([.int p0]) (n := 1) (Nat.le_of_ble_eq_true rfl)
  rw [lg_entry_eq]
  generalize (lg_sl ([.int p0]) ++ List.replicate (1 - (lg_sl ([.int p0])).length) Slot.unset).toArray = ls at hl ⊢
  have hl : lv_has ls 1 [(0, .int p0)] := hl
  refine lv_iload_n hx hb dX11_strength_0 rfl (lv_at hl 0 rfl) ?_
  refine lv_bipush (v := 13) hx hb dX11_strength_1 (by decide) ?_
  refine lv_icmp_ne (tgt := 10) hx hb dX11_strength_3 (by decide) (fun c_1 => ?_) (fun c_1 => ?_)
  · refine lv_iload_n hx hb dX11_strength_10 rfl (lv_at hl 0 rfl) ?_
    refine lv_bipush (v := 12) hx hb dX11_strength_11 (by decide) ?_
    refine lv_icmp_ne (tgt := 20) hx hb dX11_strength_13 (by decide) (fun c_2 => ?_) (fun c_2 => ?_)
    · refine lv_iload_n hx hb dX11_strength_20 rfl (lv_at hl 0 rfl) ?_
      refine lv_bipush (v := 11) hx hb dX11_strength_21 (by decide) ?_
      refine lv_icmp_ne (tgt := 30) hx hb dX11_strength_23 (by decide) (fun c_3 => ?_) (fun c_3 => ?_)
      · refine lv_iconst (v := 0) hx hb dX11_strength_30 (by decide) ?_
        obtain ⟨hP9, hD9⟩ := z_sb (L' := []) hP hD [] (by decide) rfl
        refine W.widen (k := 0) (n := 0) (Nat.le_of_ble_eq_true rfl) (Nat.le_of_ble_eq_true rfl) ?_
        exact W.iret (v := 0) hx hb hr (fun t ht hW => ⟨⟨0, (), rfl, (by simp [stg, c_1, c_2, c_3]), by rw [ht]; exact hP9, hD9⟩, hS.F ht⟩) hS.2.2 dX11_strength_31
      · refine lv_iconst (v := 3) hx hb dX11_strength_26 (by decide) ?_
        refine lv_goto (tgt := 31) hx hb dX11_strength_27 (by decide) ?_
        obtain ⟨hP9, hD9⟩ := z_sb (L' := []) hP hD [] (by decide) rfl
        refine W.widen (k := 0) (n := 0) (Nat.le_of_ble_eq_true rfl) (Nat.le_of_ble_eq_true rfl) ?_
        exact W.iret (v := 3) hx hb hr (fun t ht hW => ⟨⟨3, (), rfl, (by simp [stg, c_1, c_2, c_3]), by rw [ht]; exact hP9, hD9⟩, hS.F ht⟩) hS.2.2 dX11_strength_31
    · refine lv_iconst (v := 2) hx hb dX11_strength_16 (by decide) ?_
      refine lv_goto (tgt := 31) hx hb dX11_strength_17 (by decide) ?_
      obtain ⟨hP9, hD9⟩ := z_sb (L' := []) hP hD [] (by decide) rfl
      refine W.widen (k := 0) (n := 0) (Nat.le_of_ble_eq_true rfl) (Nat.le_of_ble_eq_true rfl) ?_
      exact W.iret (v := 2) hx hb hr (fun t ht hW => ⟨⟨2, (), rfl, (by simp [stg, c_1, c_2]), by rw [ht]; exact hP9, hD9⟩, hS.F ht⟩) hS.2.2 dX11_strength_31
  · refine lv_iconst (v := 1) hx hb dX11_strength_6 (by decide) ?_
    refine lv_goto (tgt := 31) hx hb dX11_strength_7 (by decide) ?_
    obtain ⟨hP9, hD9⟩ := z_sb (L' := []) hP hD [] (by decide) rfl
    refine W.widen (k := 0) (n := 0) (Nat.le_of_ble_eq_true rfl) (Nat.le_of_ble_eq_true rfl) ?_
    exact W.iret (v := 1) hx hb hr (fun t ht hW => ⟨⟨1, (), rfl, (by simp [stg, c_1]), by rw [ht]; exact hP9, hD9⟩, hS.F ht⟩) hS.2.2 dX11_strength_31
theorem gl_mX11_opens_0 (m_wrong : Int32) (h0 : ¬ m_wrong < 0) : (¬ m_wrong < 0) := by grind
theorem gl_mX11_opens_1 (o9 : Int32) (h0 : ¬ o9 < 1) : (¬ o9 < 0) := by grind
theorem gl_mX11_opens_2 (o9 : Int32) (h0 : ¬ o9 < 1) : ¬ o9 < 1 := by grind
set_option maxRecDepth 100000 in
def fX11_opens (m_next : Int32) (m_wrong : Int32) (m_deep : Int32) (m_opened : Int32) (openF : Nat → Int32) (p0 : Int32) : Int32 × Int32 × Int32 × (Nat → Int32) × Int32 := if m_deep = 10 then (bnd (fX11_fails m_wrong 2 m_next) (fun (o9 : Int32) => (o9, m_deep, m_opened, openF, 0))) else (bnd ((m_deep + 1)) (fun (x2 : Int32) => bnd ((upd openF m_opened.toNatClampNeg p0)) (fun (f3 : Nat → Int32) => bnd ((m_opened + 1)) (fun (x5 : Int32) => (m_wrong, x2, x5, f3, 1)))))
set_option maxHeartbeats 4000000 in
set_option maxRecDepth 100000 in
theorem mX11_opens (l : Launch) (dC : Nat → ClassId) (dI : Nat → Nat → Nat) (kA : Nat → ClassId) (sz : Nat) (n0 : Nat) (m_taped : Int32) (m_laws : Int32) (m_next : Int32) (m_wrong : Int32) (m_number : Int32) (m_text : Int32) (m_made : Int32) (m_deep : Int32) (m_lines : Int32) (m_opened : Int32) (m_top : Int32) (m_goNode : Int32) (m_goDrops : Int32) (m_goHour : Int32) (m_goFelt : Int32) (m_goSalt : Int32) (m_goMore : Int32) (m_bestLeft : Int32) (m_bestHour : Int32) (m_bestMany : Int32) (a_tape : Nat) (a_sign : Nat) (a_length : Nat) (a_clause : Nat) (a_clauses : Nat) (a_chain : Nat) (a_open : Nat) (a_stack : Nat) (a_word : Nat) (a_said : Nat) (a_kept : Nat) (a_stepNode : Nat) (a_stepDrops : Nat) (a_stepHour : Nat) (a_stepNext : Nat) (a_stepPass : Nat) (a_bestPass : Nat) (a_far : Nat) (a_waited : Nat) (a_servers : Nat) (a_images : Nat) (a_isMade : Nat) (openF : Nat → Int32) (p0 : Int32) (n0_ : ¬ m_next < 0) (n1_ : ¬ m_taped < m_next) (n2_ : ¬ 400 < m_taped) (w0_ : ¬ m_wrong < 0) (o0_ : ¬ m_opened < 0) (o1_ : ¬ 400 ≤ m_opened) : Met l yX11_opens wsX11_opens ({ frames := 1, cells := 0, slots := 0, locals := 22 }) (zPc dC dI kA sz [.ref n0, .int p0] [(n0, .inr (11, .ref a_tape :: .int m_taped :: .int m_laws :: .ref a_sign :: .ref a_length :: .ref a_clause :: .ref a_clauses :: .ref a_chain :: .int m_next :: .int m_wrong :: .int m_number :: .int m_text :: .int m_made :: .int m_deep :: .int m_lines :: .ref a_open :: .int m_opened :: .ref a_stack :: .int m_top :: .ref a_word :: .ref a_said :: .ref a_kept :: [.int m_goNode, .int m_goDrops, .int m_goHour, .int m_goFelt, .int m_goSalt, .int m_goMore, .ref a_stepNode, .ref a_stepDrops, .ref a_stepHour, .ref a_stepNext, .ref a_stepPass, .int m_bestLeft, .int m_bestHour, .int m_bestMany, .ref a_bestPass, .ref a_far, .ref a_waited, .ref a_servers, .ref a_images, .ref a_isMade])), (a_open, .inl (kA 0, 400, .inl openF))]) (va_Qi (fun (r : Int32) (u : Int32 × Int32 × Int32 × (Nat → Int32) × Int32) => r = u.2.2.2.2 ∧ (u.1, u.2.1, u.2.2.1, u.2.2.2.1, u.2.2.2.2) = fX11_opens m_next m_wrong m_deep m_opened openF p0 ∧ (u.2.2.2.2 = 0 ∨ u.2.2.2.2 = 1) ∧ IFN u.2.2.2.2 (OP openF u.2.2.2.1 m_opened u.2.2.1 p0) ∧ (¬ u.1 < 0) ∧ ((u.2.2.2.2 : Int32) = 0 → ¬ u.1 < 1)) (zB dC dI (va_A [(n0, .inr (11, .ref a_tape :: .int m_taped :: .int m_laws :: .ref a_sign :: .ref a_length :: .ref a_clause :: .ref a_clauses :: .ref a_chain :: .int m_next :: .int m_wrong :: .int m_number :: .int m_text :: .int m_made :: .int m_deep :: .int m_lines :: .ref a_open :: .int m_opened :: .ref a_stack :: .int m_top :: .ref a_word :: .ref a_said :: .ref a_kept :: [.int m_goNode, .int m_goDrops, .int m_goHour, .int m_goFelt, .int m_goSalt, .int m_goMore, .ref a_stepNode, .ref a_stepDrops, .ref a_stepHour, .ref a_stepNext, .ref a_stepPass, .int m_bestLeft, .int m_bestHour, .int m_bestMany, .ref a_bestPass, .ref a_far, .ref a_waited, .ref a_servers, .ref a_images, .ref a_isMade])), (a_open, .inl (kA 0, 400, .inl openF))] sz) (fun (u : Int32 × Int32 × Int32 × (Nat → Int32) × Int32) => [(n0, .inr (11, .ref a_tape :: .int m_taped :: .int m_laws :: .ref a_sign :: .ref a_length :: .ref a_clause :: .ref a_clauses :: .ref a_chain :: .int m_next :: .int u.1 :: .int m_number :: .int m_text :: .int m_made :: .int u.2.1 :: .int m_lines :: .ref a_open :: .int u.2.2.1 :: .ref a_stack :: .int m_top :: .ref a_word :: .ref a_said :: .ref a_kept :: [.int m_goNode, .int m_goDrops, .int m_goHour, .int m_goFelt, .int m_goSalt, .int m_goMore, .ref a_stepNode, .ref a_stepDrops, .ref a_stepHour, .ref a_stepNext, .ref a_stepPass, .int m_bestLeft, .int m_bestHour, .int m_bestMany, .ref a_bestPass, .ref a_far, .ref a_waited, .ref a_servers, .ref a_images, .ref a_isMade])), (a_open, .inl (kA 0, 400, .inl u.2.2.2.1))])) (va_A [(n0, .inr (11, .ref a_tape :: .int m_taped :: .int m_laws :: .ref a_sign :: .ref a_length :: .ref a_clause :: .ref a_clauses :: .ref a_chain :: .int m_next :: .int m_wrong :: .int m_number :: .int m_text :: .int m_made :: .int m_deep :: .int m_lines :: .ref a_open :: .int m_opened :: .ref a_stack :: .int m_top :: .ref a_word :: .ref a_said :: .ref a_kept :: [.int m_goNode, .int m_goDrops, .int m_goHour, .int m_goFelt, .int m_goSalt, .int m_goMore, .ref a_stepNode, .ref a_stepDrops, .ref a_stepHour, .ref a_stepNext, .ref a_stepPass, .int m_bestLeft, .int m_bestHour, .int m_bestMany, .ref a_bestPass, .ref a_far, .ref a_waited, .ref a_servers, .ref a_images, .ref a_isMade])), (a_open, .inl (kA 0, 400, .inl openF))] sz)) 0 0 (va_A [(n0, .inr (11, .ref a_tape :: .int m_taped :: .int m_laws :: .ref a_sign :: .ref a_length :: .ref a_clause :: .ref a_clauses :: .ref a_chain :: .int m_next :: .int m_wrong :: .int m_number :: .int m_text :: .int m_made :: .int m_deep :: .int m_lines :: .ref a_open :: .int m_opened :: .ref a_stack :: .int m_top :: .ref a_word :: .ref a_said :: .ref a_kept :: [.int m_goNode, .int m_goDrops, .int m_goHour, .int m_goFelt, .int m_goSalt, .int m_goMore, .ref a_stepNode, .ref a_stepDrops, .ref a_stepHour, .ref a_stepNext, .ref a_stepPass, .int m_bestLeft, .int m_bestHour, .int m_bestMany, .ref a_bestPass, .ref a_far, .ref a_waited, .ref a_servers, .ref a_images, .ref a_isMade])), (a_open, .inl (kA 0, 400, .inl openF))] sz) := by
  refine Met.ofW (cc := cX11_opens) (maxL := 2) (ret := (some .boolean)) pnX11 rfl ?_
  intro p e s m args below meth c s₁ B hml hv
  obtain ⟨rfl, hsz, hP, hK, hD0⟩ := hv
  have hx := B.exec
  have hb := B.bytes
  have hr := B.returns
  have hts := atoms_spec (ws := wsX11_opens) B.pre
  have hown : s.vm.findClass RX11 = some m.cls := findClass_of_methodNamed B.named
  have hlocks := B.notSynchronized
  subst hsz
  have hD := hD0.self (sz := s.heap.size)
  generalize hAe : va_A [(n0, .inr (11, .ref a_tape :: .int m_taped :: .int m_laws :: .ref a_sign :: .ref a_length :: .ref a_clause :: .ref a_clauses :: .ref a_chain :: .int m_next :: .int m_wrong :: .int m_number :: .int m_text :: .int m_made :: .int m_deep :: .int m_lines :: .ref a_open :: .int m_opened :: .ref a_stack :: .int m_top :: .ref a_word :: .ref a_said :: .ref a_kept :: [.int m_goNode, .int m_goDrops, .int m_goHour, .int m_goFelt, .int m_goSalt, .int m_goMore, .ref a_stepNode, .ref a_stepDrops, .ref a_stepHour, .ref a_stepNext, .ref a_stepPass, .int m_bestLeft, .int m_bestHour, .int m_bestMany, .ref a_bestPass, .ref a_far, .ref a_waited, .ref a_servers, .ref a_images, .ref a_isMade])), (a_open, .inl (kA 0, 400, .inl openF))] s.heap.size = A at hD ⊢
  have hA : ∀ q : Nat, s.heap.size ≤ q → A q := zA_of hAe
  have hS : va_S A s.heap s.heap [] := va_S.rf
  have hP : va_P (dC, dI) vwCl [(n0, .inr (11, .ref a_tape :: .int m_taped :: .int m_laws :: .ref a_sign :: .ref a_length :: .ref a_clause :: .ref a_clauses :: .ref a_chain :: .int m_next :: .int m_wrong :: .int m_number :: .int m_text :: .int m_made :: .int m_deep :: .int m_lines :: .ref a_open :: .int m_opened :: .ref a_stack :: .int m_top :: .ref a_word :: .ref a_said :: .ref a_kept :: [.int m_goNode, .int m_goDrops, .int m_goHour, .int m_goFelt, .int m_goSalt, .int m_goMore, .ref a_stepNode, .ref a_stepDrops, .ref a_stepHour, .ref a_stepNext, .ref a_stepPass, .int m_bestLeft, .int m_bestHour, .int m_bestMany, .ref a_bestPass, .ref a_far, .ref a_waited, .ref a_servers, .ref a_images, .ref a_isMade])), (a_open, .inl (kA 0, 400, .inl openF))] s.heap := hP
  have hl := lv_entry ([.ref n0, .int p0]) (n := 2) (Nat.le_of_ble_eq_true rfl)
  rw [lg_entry_eq]
  generalize (lg_sl ([.ref n0, .int p0]) ++ List.replicate (2 - (lg_sl ([.ref n0, .int p0])).length) Slot.unset).toArray = ls at hl ⊢
  have hl : lv_has ls 2 [(0, .ref n0), (1, .int p0)] := hl
  obtain ⟨H, hHe⟩ : ∃ H : Heap, H = s.heap := ⟨_, rfl⟩
  obtain ⟨G, hG0⟩ : ∃ G : Int32 × Int32 × Int32 × (Nat → Int32) × Int32, fX11_opens m_next m_wrong m_deep m_opened openF p0 = G := ⟨_, rfl⟩
  have hG := hG0
  unfold fX11_opens at hG
  refine lv_aload_n hx hb dX11_opens_0 rfl (lv_at hl 0 rfl) ?_
  refine va_get (D := (dC, dI)) (ci := 11) (v := .int m_deep) (C := RX11) (T := TX11) (N := 42) hx hb hts iX11_opens_X11 hown hK.1 hP 0 gz0 vcz11 13 (by decide) (kX11_opens_1 hts) (fun _ h9 => h9) gz13 dX11_opens_1 ?_
  refine lv_bipush (v := 10) hx hb dX11_opens_4 (by decide) ?_
  refine lv_icmp_ne (tgt := 19) hx hb dX11_opens_6 (by decide) (fun c_1 => ?_) (fun c_1 => ?_)
  · have hG := zelse hG c_1
    refine lv_aload_n hx hb dX11_opens_19 rfl (lv_at hl 0 rfl) ?_
    refine lv_dup hx hb dX11_opens_20 rfl ?_
    refine va_get (D := (dC, dI)) (ci := 11) (v := .int m_deep) (C := RX11) (T := TX11) (N := 42) hx hb hts iX11_opens_X11 hown hK.1 hP 0 gz0 vcz11 13 (by decide) (kX11_opens_1 hts) (fun _ h9 => h9) gz13 dX11_opens_21 ?_
    refine lv_iconst (v := 1) hx hb dX11_opens_24 (by decide) ?_
    refine lv_iadd hx hb dX11_opens_25 ?_
    refine lv_topi (fun x2 ex2 => ?_)
    have hG := zbnd hG ex2
    refine va_put (D := (dC, dI)) (ci := 11) (v := .int x2) (ty := .int) (C := RX11) (T := TX11) (N := 42) hx hb hts iX11_opens_X11 tyX11 tyX11_ok nmX11 hown hK.1 hP hD hS 0 gz0 vcz11 13 (by decide) (kX11_opens_1 hts) (fun _ h9 => h9) rfl pfdI rfl rfl (Nat.le_of_ble_eq_true rfl) dX11_opens_26 (fun H locs hP hD hS => ?_)
    obtain ⟨hP, hD⟩ := z_re (L := [(n0, .inr (11, .ref a_tape :: .int m_taped :: .int m_laws :: .ref a_sign :: .ref a_length :: .ref a_clause :: .ref a_clauses :: .ref a_chain :: .int m_next :: .int m_wrong :: .int m_number :: .int m_text :: .int m_made :: .int x2 :: .int m_lines :: .ref a_open :: .int m_opened :: .ref a_stack :: .int m_top :: .ref a_word :: .ref a_said :: .ref a_kept :: [.int m_goNode, .int m_goDrops, .int m_goHour, .int m_goFelt, .int m_goSalt, .int m_goMore, .ref a_stepNode, .ref a_stepDrops, .ref a_stepHour, .ref a_stepNext, .ref a_stepPass, .int m_bestLeft, .int m_bestHour, .int m_bestMany, .ref a_bestPass, .ref a_far, .ref a_waited, .ref a_servers, .ref a_images, .ref a_isMade])), (a_open, .inl (kA 0, 400, .inl openF))]) hP hD
    refine lv_aload_n hx hb dX11_opens_29 rfl (lv_at hl 0 rfl) ?_
    refine va_get (D := (dC, dI)) (ci := 11) (v := .ref a_open) (C := RX11) (T := TX11) (N := 42) hx hb hts iX11_opens_X11 hown hK.1 hP 0 gz0 vcz11 15 (by decide) (kX11_opens_3 hts) (fun _ h9 => h9) gz15 dX11_opens_30 ?_
    refine lv_aload_n hx hb dX11_opens_33 rfl (lv_at hl 0 rfl) ?_
    refine va_get (D := (dC, dI)) (ci := 11) (v := .int m_opened) (C := RX11) (T := TX11) (N := 42) hx hb hts iX11_opens_X11 hown hK.1 hP 0 gz0 vcz11 16 (by decide) (kX11_opens_4 hts) (fun _ h9 => h9) gz16 dX11_opens_34 ?_
    refine lv_iload_n hx hb dX11_opens_37 rfl (lv_at hl 1 rfl) ?_
    refine va_iast hx hb hK.1 hP hD hS 1 0 gz1 tzz0 (vp_lt (by decide) o0_ o1_) dX11_opens_38 (fun H locs hP hD hS => ?_)
    obtain ⟨hP, hD⟩ := z_re (L := [(n0, .inr (11, .ref a_tape :: .int m_taped :: .int m_laws :: .ref a_sign :: .ref a_length :: .ref a_clause :: .ref a_clauses :: .ref a_chain :: .int m_next :: .int m_wrong :: .int m_number :: .int m_text :: .int m_made :: .int x2 :: .int m_lines :: .ref a_open :: .int m_opened :: .ref a_stack :: .int m_top :: .ref a_word :: .ref a_said :: .ref a_kept :: [.int m_goNode, .int m_goDrops, .int m_goHour, .int m_goFelt, .int m_goSalt, .int m_goMore, .ref a_stepNode, .ref a_stepDrops, .ref a_stepHour, .ref a_stepNext, .ref a_stepPass, .int m_bestLeft, .int m_bestHour, .int m_bestMany, .ref a_bestPass, .ref a_far, .ref a_waited, .ref a_servers, .ref a_images, .ref a_isMade])), (a_open, .inl (kA 0, 400, .inl (upd openF m_opened.toNatClampNeg p0)))]) hP hD
    obtain ⟨f3, ef3⟩ : ∃ y : Nat → Int32, y = (upd openF m_opened.toNatClampNeg p0) := ⟨_, rfl⟩
    rw [← ef3] at hP hD
    have hG := zbnd hG ef3
    have hu4 := upd_at ef3
    refine lv_aload_n hx hb dX11_opens_39 rfl (lv_at hl 0 rfl) ?_
    refine lv_dup hx hb dX11_opens_40 rfl ?_
    refine va_get (D := (dC, dI)) (ci := 11) (v := .int m_opened) (C := RX11) (T := TX11) (N := 42) hx hb hts iX11_opens_X11 hown hK.1 hP 0 gz0 vcz11 16 (by decide) (kX11_opens_4 hts) (fun _ h9 => h9) gz16 dX11_opens_41 ?_
    refine lv_iconst (v := 1) hx hb dX11_opens_44 (by decide) ?_
    refine lv_iadd hx hb dX11_opens_45 ?_
    refine lv_topi (fun x5 ex5 => ?_)
    have hG := zbnd hG ex5
    refine va_put (D := (dC, dI)) (ci := 11) (v := .int x5) (ty := .int) (C := RX11) (T := TX11) (N := 42) hx hb hts iX11_opens_X11 tyX11 tyX11_ok nmX11 hown hK.1 hP hD hS 0 gz0 vcz11 16 (by decide) (kX11_opens_4 hts) (fun _ h9 => h9) rfl pfdI rfl rfl (Nat.le_of_ble_eq_true rfl) dX11_opens_46 (fun H locs hP hD hS => ?_)
    obtain ⟨hP, hD⟩ := z_re (L := [(n0, .inr (11, .ref a_tape :: .int m_taped :: .int m_laws :: .ref a_sign :: .ref a_length :: .ref a_clause :: .ref a_clauses :: .ref a_chain :: .int m_next :: .int m_wrong :: .int m_number :: .int m_text :: .int m_made :: .int x2 :: .int m_lines :: .ref a_open :: .int x5 :: .ref a_stack :: .int m_top :: .ref a_word :: .ref a_said :: .ref a_kept :: [.int m_goNode, .int m_goDrops, .int m_goHour, .int m_goFelt, .int m_goSalt, .int m_goMore, .ref a_stepNode, .ref a_stepDrops, .ref a_stepHour, .ref a_stepNext, .ref a_stepPass, .int m_bestLeft, .int m_bestHour, .int m_bestMany, .ref a_bestPass, .ref a_far, .ref a_waited, .ref a_servers, .ref a_images, .ref a_isMade])), (a_open, .inl (kA 0, 400, .inl f3))]) hP hD
    refine lv_iconst (v := 1) hx hb dX11_opens_49 (by decide) ?_
    obtain ⟨hP9, hD9⟩ := z_sb (L' := [(n0, .inr (11, .ref a_tape :: .int m_taped :: .int m_laws :: .ref a_sign :: .ref a_length :: .ref a_clause :: .ref a_clauses :: .ref a_chain :: .int m_next :: .int m_wrong :: .int m_number :: .int m_text :: .int m_made :: .int x2 :: .int m_lines :: .ref a_open :: .int x5 :: .ref a_stack :: .int m_top :: .ref a_word :: .ref a_said :: .ref a_kept :: [.int m_goNode, .int m_goDrops, .int m_goHour, .int m_goFelt, .int m_goSalt, .int m_goMore, .ref a_stepNode, .ref a_stepDrops, .ref a_stepHour, .ref a_stepNext, .ref a_stepPass, .int m_bestLeft, .int m_bestHour, .int m_bestMany, .ref a_bestPass, .ref a_far, .ref a_waited, .ref a_servers, .ref a_images, .ref a_isMade])), (a_open, .inl (kA 0, 400, .inl f3))]) hP hD [0, 1] (by decide) rfl
    refine W.widen (k := 0) (n := 0) (Nat.le_of_ble_eq_true rfl) (Nat.le_of_ble_eq_true rfl) ?_
    exact W.zret (v := 1) hx hb hr rfl (fun t ht hW => ⟨⟨1, (m_wrong, x2, x5, f3, 1), rfl, ⟨rfl, (hG.trans hG0.symm), (Or.inr rfl), (IFN_1 ⟨ef3, ex5⟩), (gl_mX11_opens_0 m_wrong w0_), (fun q => absurd (show ((1) : Int32) = 0 from q) (by decide))⟩, by rw [ht]; exact hP9, hD9⟩, hS.F ht⟩) hS.2.2 dX11_opens_50
  · have hG := zthen hG c_1
    refine lv_aload_n hx hb dX11_opens_9 rfl (lv_at hl 0 rfl) ?_
    refine lv_iconst (v := 2) hx hb dX11_opens_10 (by decide) ?_
    refine lv_aload_n hx hb dX11_opens_11 rfl (lv_at hl 0 rfl) ?_
    refine va_get (D := (dC, dI)) (ci := 11) (v := .int m_next) (C := RX11) (T := TX11) (N := 42) hx hb hts iX11_opens_X11 hown hK.1 hP 0 gz0 vcz11 8 (by decide) (kX11_opens_2 hts) (fun _ h9 => h9) gz8 dX11_opens_12 ?_
    refine z_i (wr := [(a_open, .inl (kA 0, 400, .inl openF))]) (va_runV (As := [.int 2, .int m_next]) (rest := []) ⟨hx, hb, hml, hown, hts⟩ (mX11_fails l dC dI kA _ n0 m_taped m_laws m_next m_wrong m_number m_text m_made m_deep m_lines m_opened m_top m_goNode m_goDrops m_goHour m_goFelt m_goSalt m_goMore m_bestLeft m_bestHour m_bestMany a_tape a_sign a_length a_clause a_clauses a_chain a_open a_stack a_word a_said a_kept a_stepNode a_stepDrops a_stepHour a_stepNext a_stepPass a_bestPass a_far a_waited a_servers a_images a_isMade 2 m_next w0_ (by decide) (by decide) n0_ (z_trn n2_ n1_)) (cwV 2 hts gX11_opens_X11_fails rfl rfl rfl ⟨rfl, hdX11_fails⟩ ⟨(Nat.le_of_ble_eq_true rfl), (Nat.le_of_ble_eq_true rfl)⟩) ⟨zPc.blind, va_recv (q := (RX11, TX11, 42)) hK.1 hP (ci := 11) (q0 := 0) rfl rfl, zPre hK (hP.sub [0] rfl) (hD.sub [0] (by decide) rfl)⟩ rfl rfl hl.1 rfl (lv_room (Nat.le_of_ble_eq_true rfl)) dX11_opens_15 ⟨(Nat.le_of_ble_eq_true rfl), (Nat.le_of_ble_eq_true rfl)⟩) hP hD hS hA [0] [1] rfl rfl (by decide) (by decide) (fun r8 u6 H locs hw7 hP hD hS => ?_)
    obtain ⟨o9, rfl⟩ : ∃ z, z = u6 := ⟨_, rfl⟩
    obtain ⟨rfl, hp10, hp11⟩ := hw7
    have eo9 : o9 = fX11_fails m_wrong 2 m_next := hp10
    have hG := zbnd hG eo9
    obtain ⟨hP, hD⟩ := z_re (L := [(a_open, .inl (kA 0, 400, .inl openF)), (n0, .inr (11, .ref a_tape :: .int m_taped :: .int m_laws :: .ref a_sign :: .ref a_length :: .ref a_clause :: .ref a_clauses :: .ref a_chain :: .int m_next :: .int o9 :: .int m_number :: .int m_text :: .int m_made :: .int m_deep :: .int m_lines :: .ref a_open :: .int m_opened :: .ref a_stack :: .int m_top :: .ref a_word :: .ref a_said :: .ref a_kept :: [.int m_goNode, .int m_goDrops, .int m_goHour, .int m_goFelt, .int m_goSalt, .int m_goMore, .ref a_stepNode, .ref a_stepDrops, .ref a_stepHour, .ref a_stepNext, .ref a_stepPass, .int m_bestLeft, .int m_bestHour, .int m_bestMany, .ref a_bestPass, .ref a_far, .ref a_waited, .ref a_servers, .ref a_images, .ref a_isMade]))]) hP hD
    obtain ⟨hP9, hD9⟩ := z_sb (L' := [(n0, .inr (11, .ref a_tape :: .int m_taped :: .int m_laws :: .ref a_sign :: .ref a_length :: .ref a_clause :: .ref a_clauses :: .ref a_chain :: .int m_next :: .int o9 :: .int m_number :: .int m_text :: .int m_made :: .int m_deep :: .int m_lines :: .ref a_open :: .int m_opened :: .ref a_stack :: .int m_top :: .ref a_word :: .ref a_said :: .ref a_kept :: [.int m_goNode, .int m_goDrops, .int m_goHour, .int m_goFelt, .int m_goSalt, .int m_goMore, .ref a_stepNode, .ref a_stepDrops, .ref a_stepHour, .ref a_stepNext, .ref a_stepPass, .int m_bestLeft, .int m_bestHour, .int m_bestMany, .ref a_bestPass, .ref a_far, .ref a_waited, .ref a_servers, .ref a_images, .ref a_isMade])), (a_open, .inl (kA 0, 400, .inl openF))]) hP hD [1, 0] (by decide) rfl
    refine W.widen (k := 0) (n := 0) (Nat.le_of_ble_eq_true rfl) (Nat.le_of_ble_eq_true rfl) ?_
    exact W.zret (v := 0) hx hb hr rfl (fun t ht hW => ⟨⟨0, (o9, m_deep, m_opened, openF, 0), rfl, ⟨rfl, (hG.trans hG0.symm), (Or.inl rfl), IFN_0, (gl_mX11_opens_1 o9 hp11), (fun _ => (gl_mX11_opens_2 o9 hp11))⟩, by rw [ht]; exact hP9, hD9⟩, hS.F ht⟩) hS.2.2 dX11_opens_18
theorem gl_mX11_isInside_0 (openF : Nat → Int32) (l2_0 : Int32) (xy2_2 : Int32) (h0 : xy2_2 = openF l2_0.toNatClampNeg) (h1 : xy2_2 = 91) : (openF l2_0.toNatClampNeg) = 91 := by grind
set_option maxRecDepth 100000 in
def fb_mX11_isInside_2 (m_opened : Int32) (openF : Nat → Int32) (E21 : Int32 → Int32) (E29 : Int32 → Int32) (K : Int32 → Int32) (l2_0 : Int32) : Int32 := if m_opened ≤ l2_0 then (E29 l2_0) else (bnd (openF l2_0.toNatClampNeg) (fun (xy2_2 : Int32) => if xy2_2 = 91 then (E21 l2_0) else (bnd ((l2_0 + 1)) (fun (xy2_4 : Int32) => K xy2_4))))
def fl_mX11_isInside_2 (m_opened : Int32) (openF : Nat → Int32) (E21 : Int32 → Int32) (E29 : Int32 → Int32) : Nat → Int32 → Int32
  | 0, _ => 0
  | n + 1, l2_0 => fb_mX11_isInside_2 m_opened openF E21 E29 (fl_mX11_isInside_2 m_opened openF E21 E29 n) l2_0
set_option maxHeartbeats 4000000 in
set_option maxRecDepth 100000 in
theorem lp_mX11_isInside_2 {p : Program} {l : Launch} {e : Env} {R : Room} {s : State} {m : MethodId} {args : Array Value} {below : List Frame} {meth : Method} {c : Code} {Q : State → Prop} {dC : Nat → ClassId} {dI : Nat → Nat → Nat} {kA : Nat → ClassId} {A : Nat → Prop} {H0 : Heap} {cells slots : Nat} (hx : p.tables.exec = Jvm.exec) (hb : c.code = cX11_isInside) (hml : c.maxLocals = 2) (hts : ∀ w ∈ wsX11_isInside, w.before args s = true) (hown : s.vm.findClass RX11 = some m.cls) (hK : zK dC dI kA s) (hA : ∀ q, H0.size ≤ q → A q) (hRf : 0 ≤ R.frames) (hRl : 0 ≤ R.locals) (hRc : cells ≤ R.cells) (hRs : slots ≤ R.slots) (n0 : Nat) (m_taped : Int32) (m_laws : Int32) (m_next : Int32) (m_wrong : Int32) (m_number : Int32) (m_text : Int32) (m_made : Int32) (m_deep : Int32) (m_lines : Int32) (m_opened : Int32) (m_top : Int32) (m_goNode : Int32) (m_goDrops : Int32) (m_goHour : Int32) (m_goFelt : Int32) (m_goSalt : Int32) (m_goMore : Int32) (m_bestLeft : Int32) (m_bestHour : Int32) (m_bestMany : Int32) (a_tape : Nat) (a_sign : Nat) (a_length : Nat) (a_clause : Nat) (a_clauses : Nat) (a_chain : Nat) (a_open : Nat) (a_stack : Nat) (a_word : Nat) (a_said : Nat) (a_kept : Nat) (a_stepNode : Nat) (a_stepDrops : Nat) (a_stepHour : Nat) (a_stepNext : Nat) (a_stepPass : Nat) (a_bestPass : Nat) (a_far : Nat) (a_waited : Nat) (a_servers : Nat) (a_images : Nat) (a_isMade : Nat) (openF : Nat → Int32) {G : Int32} {E21 : Int32 → Int32} {E29 : Int32 → Int32} (o1_ : ¬ 400 < m_opened) (k21 : ∀ (w21_0 : Int32) (H : Heap) (locs : List Loc) (ls : Array Slot), ¬ w21_0 < 0 → NB openF w21_0 → ¬ m_opened ≤ w21_0 → (openF w21_0.toNatClampNeg) = 91 → E21 w21_0 = G → va_P (dC, dI) vwCl [(n0, .inr (11, .ref a_tape :: .int m_taped :: .int m_laws :: .ref a_sign :: .ref a_length :: .ref a_clause :: .ref a_clauses :: .ref a_chain :: .int m_next :: .int m_wrong :: .int m_number :: .int m_text :: .int m_made :: .int m_deep :: .int m_lines :: .ref a_open :: .int m_opened :: .ref a_stack :: .int m_top :: .ref a_word :: .ref a_said :: .ref a_kept :: [.int m_goNode, .int m_goDrops, .int m_goHour, .int m_goFelt, .int m_goSalt, .int m_goMore, .ref a_stepNode, .ref a_stepDrops, .ref a_stepHour, .ref a_stepNext, .ref a_stepPass, .int m_bestLeft, .int m_bestHour, .int m_bestMany, .ref a_bestPass, .ref a_far, .ref a_waited, .ref a_servers, .ref a_images, .ref a_isMade])), (a_open, .inl (kA 0, 400, .inl openF))] H → va_D A [(n0, .inr (11, .ref a_tape :: .int m_taped :: .int m_laws :: .ref a_sign :: .ref a_length :: .ref a_clause :: .ref a_clauses :: .ref a_chain :: .int m_next :: .int m_wrong :: .int m_number :: .int m_text :: .int m_made :: .int m_deep :: .int m_lines :: .ref a_open :: .int m_opened :: .ref a_stack :: .int m_top :: .ref a_word :: .ref a_said :: .ref a_kept :: [.int m_goNode, .int m_goDrops, .int m_goHour, .int m_goFelt, .int m_goSalt, .int m_goMore, .ref a_stepNode, .ref a_stepDrops, .ref a_stepHour, .ref a_stepNext, .ref a_stepPass, .int m_bestLeft, .int m_bestHour, .int m_bestMany, .ref a_bestPass, .ref a_far, .ref a_waited, .ref a_servers, .ref a_images, .ref a_isMade])), (a_open, .inl (kA 0, 400, .inl openF))] → va_S A H0 H locs → lv_has ls 2 [(1, .int w21_0), (0, .ref n0)] → W p l e R s m args below meth c H locs cells slots Q (F0 m 21 ls [])) (k29 : ∀ (w29_0 : Int32) (H : Heap) (locs : List Loc) (ls : Array Slot), ¬ w29_0 < 0 → NB openF w29_0 → m_opened ≤ w29_0 → E29 w29_0 = G → va_P (dC, dI) vwCl [(n0, .inr (11, .ref a_tape :: .int m_taped :: .int m_laws :: .ref a_sign :: .ref a_length :: .ref a_clause :: .ref a_clauses :: .ref a_chain :: .int m_next :: .int m_wrong :: .int m_number :: .int m_text :: .int m_made :: .int m_deep :: .int m_lines :: .ref a_open :: .int m_opened :: .ref a_stack :: .int m_top :: .ref a_word :: .ref a_said :: .ref a_kept :: [.int m_goNode, .int m_goDrops, .int m_goHour, .int m_goFelt, .int m_goSalt, .int m_goMore, .ref a_stepNode, .ref a_stepDrops, .ref a_stepHour, .ref a_stepNext, .ref a_stepPass, .int m_bestLeft, .int m_bestHour, .int m_bestMany, .ref a_bestPass, .ref a_far, .ref a_waited, .ref a_servers, .ref a_images, .ref a_isMade])), (a_open, .inl (kA 0, 400, .inl openF))] H → va_D A [(n0, .inr (11, .ref a_tape :: .int m_taped :: .int m_laws :: .ref a_sign :: .ref a_length :: .ref a_clause :: .ref a_clauses :: .ref a_chain :: .int m_next :: .int m_wrong :: .int m_number :: .int m_text :: .int m_made :: .int m_deep :: .int m_lines :: .ref a_open :: .int m_opened :: .ref a_stack :: .int m_top :: .ref a_word :: .ref a_said :: .ref a_kept :: [.int m_goNode, .int m_goDrops, .int m_goHour, .int m_goFelt, .int m_goSalt, .int m_goMore, .ref a_stepNode, .ref a_stepDrops, .ref a_stepHour, .ref a_stepNext, .ref a_stepPass, .int m_bestLeft, .int m_bestHour, .int m_bestMany, .ref a_bestPass, .ref a_far, .ref a_waited, .ref a_servers, .ref a_images, .ref a_isMade])), (a_open, .inl (kA 0, 400, .inl openF))] → va_S A H0 H locs → lv_has ls 2 [(1, .int w29_0), (0, .ref n0)] → W p l e R s m args below meth c H locs cells slots Q (F0 m 29 ls []))  : ∀ (n : Nat) (l2_0 : Int32) (H : Heap) (locs : List Loc) (ls : Array Slot), ((m_opened : Int32).toInt - l2_0.toInt).toNat < n → fl_mX11_isInside_2 m_opened openF E21 E29 n l2_0 = G → ¬ l2_0 < 0 → NB openF l2_0 → va_P (dC, dI) vwCl [(n0, .inr (11, .ref a_tape :: .int m_taped :: .int m_laws :: .ref a_sign :: .ref a_length :: .ref a_clause :: .ref a_clauses :: .ref a_chain :: .int m_next :: .int m_wrong :: .int m_number :: .int m_text :: .int m_made :: .int m_deep :: .int m_lines :: .ref a_open :: .int m_opened :: .ref a_stack :: .int m_top :: .ref a_word :: .ref a_said :: .ref a_kept :: [.int m_goNode, .int m_goDrops, .int m_goHour, .int m_goFelt, .int m_goSalt, .int m_goMore, .ref a_stepNode, .ref a_stepDrops, .ref a_stepHour, .ref a_stepNext, .ref a_stepPass, .int m_bestLeft, .int m_bestHour, .int m_bestMany, .ref a_bestPass, .ref a_far, .ref a_waited, .ref a_servers, .ref a_images, .ref a_isMade])), (a_open, .inl (kA 0, 400, .inl openF))] H → va_D A [(n0, .inr (11, .ref a_tape :: .int m_taped :: .int m_laws :: .ref a_sign :: .ref a_length :: .ref a_clause :: .ref a_clauses :: .ref a_chain :: .int m_next :: .int m_wrong :: .int m_number :: .int m_text :: .int m_made :: .int m_deep :: .int m_lines :: .ref a_open :: .int m_opened :: .ref a_stack :: .int m_top :: .ref a_word :: .ref a_said :: .ref a_kept :: [.int m_goNode, .int m_goDrops, .int m_goHour, .int m_goFelt, .int m_goSalt, .int m_goMore, .ref a_stepNode, .ref a_stepDrops, .ref a_stepHour, .ref a_stepNext, .ref a_stepPass, .int m_bestLeft, .int m_bestHour, .int m_bestMany, .ref a_bestPass, .ref a_far, .ref a_waited, .ref a_servers, .ref a_images, .ref a_isMade])), (a_open, .inl (kA 0, 400, .inl openF))] → va_S A H0 H locs → lv_has ls 2 [(1, .int l2_0), (0, .ref n0)] → W p l e R s m args below meth c H locs cells slots Q (F0 m 2 ls []) := by
  intro n
  induction n with
  | zero =>
    intro l2_0 H locs ls hn
    exact absurd hn (Nat.not_lt_zero _)
  | succ n ih =>
    intro l2_0 H locs ls hn hG hi2 hnb hP hD hS hl
    have hG : fb_mX11_isInside_2 m_opened openF E21 E29 (fl_mX11_isInside_2 m_opened openF E21 E29 n) l2_0 = G := hG
    unfold fb_mX11_isInside_2 at hG
    refine lv_iload_n hx hb dX11_isInside_2 rfl (lv_at hl 0 rfl) ?_
    refine lv_aload_n hx hb dX11_isInside_3 rfl (lv_at hl 1 rfl) ?_
    refine va_get (D := (dC, dI)) (ci := 11) (v := .int m_opened) (C := RX11) (T := TX11) (N := 42) hx hb hts iX11_isInside_X11 hown hK.1 hP 0 gz0 vcz11 16 (by decide) (kX11_isInside_1 hts) (fun _ h9 => h9) gz16 dX11_isInside_4 ?_
    refine lv_icmp_ge (tgt := 29) hx hb dX11_isInside_7 (by decide) (fun c_y2_1 => ?_) (fun c_y2_1 => ?_)
    · have hG := zthen hG c_y2_1
      exact k29 l2_0 H locs ls hi2 hnb c_y2_1 hG (hP.sub [0, 1] rfl) (hD.sub [0, 1] (by decide) rfl) hS (lv_sub hl [0, 1] rfl)
    · have hG := zelse hG c_y2_1
      refine lv_aload_n hx hb dX11_isInside_10 rfl (lv_at hl 1 rfl) ?_
      refine va_get (D := (dC, dI)) (ci := 11) (v := .ref a_open) (C := RX11) (T := TX11) (N := 42) hx hb hts iX11_isInside_X11 hown hK.1 hP 0 gz0 vcz11 15 (by decide) (kX11_isInside_2 hts) (fun _ h9 => h9) gz15 dX11_isInside_11 ?_
      refine lv_iload_n hx hb dX11_isInside_14 rfl (lv_at hl 0 rfl) ?_
      refine va_iald hx hb hK.1 hP 1 0 gz1 tzz0 (vp_lt (by decide) hi2 (z_tr c_y2_1 o1_)) dX11_isInside_15 ?_
      refine lv_topi (fun xy2_2 exy2_2 => ?_)
      have hG := zbnd hG exy2_2
      refine lv_bipush (v := 91) hx hb dX11_isInside_16 (by decide) ?_
      refine lv_icmp_ne (tgt := 23) hx hb dX11_isInside_18 (by decide) (fun c_y2_3 => ?_) (fun c_y2_3 => ?_)
      · have hG := zelse hG c_y2_3
        obtain ⟨xy2_4, exy2_4⟩ : ∃ y : Int32, y = l2_0 + 1 := ⟨_, rfl⟩
        have hG := zbnd hG exy2_4
        refine lv_iinc (v := xy2_4) (lv' := [(1, .int xy2_4), (0, .ref n0)]) hx hb dX11_isInside_23 hl (k := 0) rfl (by rw [exy2_4]; rfl) (by decide) rfl (fun ls hl => ?_)
        refine lv_goto (tgt := 2) hx hb dX11_isInside_26 (by decide) ?_
        exact ih xy2_4 H locs ls (z_up hn exy2_4 c_y2_1) hG (z_nn exy2_4 c_y2_1 hi2) (NB_s hnb hi2 (z_tr c_y2_1 o1_) exy2_2 c_y2_3 exy2_4) (hP.sub [0, 1] rfl) (hD.sub [0, 1] (by decide) rfl) hS (lv_sub hl [0, 1] rfl)
      · have hG := zthen hG c_y2_3
        exact k21 l2_0 H locs ls hi2 hnb c_y2_1 (gl_mX11_isInside_0 openF l2_0 xy2_2 exy2_2 c_y2_3) hG (hP.sub [0, 1] rfl) (hD.sub [0, 1] (by decide) rfl) hS (lv_sub hl [0, 1] rfl)
set_option maxRecDepth 100000 in
def fX11_isInside (m_opened : Int32) (openF : Nat → Int32) : Int32 := fl_mX11_isInside_2 m_opened openF (fun (w21_0_0 : Int32) => 1) (fun (w29_0_0 : Int32) => 0) (((m_opened : Int32).toInt - (0 : Int32).toInt).toNat + 1) 0
set_option maxHeartbeats 4000000 in
set_option maxRecDepth 100000 in
theorem mX11_isInside (l : Launch) (dC : Nat → ClassId) (dI : Nat → Nat → Nat) (kA : Nat → ClassId) (sz : Nat) (n0 : Nat) (m_taped : Int32) (m_laws : Int32) (m_next : Int32) (m_wrong : Int32) (m_number : Int32) (m_text : Int32) (m_made : Int32) (m_deep : Int32) (m_lines : Int32) (m_opened : Int32) (m_top : Int32) (m_goNode : Int32) (m_goDrops : Int32) (m_goHour : Int32) (m_goFelt : Int32) (m_goSalt : Int32) (m_goMore : Int32) (m_bestLeft : Int32) (m_bestHour : Int32) (m_bestMany : Int32) (a_tape : Nat) (a_sign : Nat) (a_length : Nat) (a_clause : Nat) (a_clauses : Nat) (a_chain : Nat) (a_open : Nat) (a_stack : Nat) (a_word : Nat) (a_said : Nat) (a_kept : Nat) (a_stepNode : Nat) (a_stepDrops : Nat) (a_stepHour : Nat) (a_stepNext : Nat) (a_stepPass : Nat) (a_bestPass : Nat) (a_far : Nat) (a_waited : Nat) (a_servers : Nat) (a_images : Nat) (a_isMade : Nat) (openF : Nat → Int32) (o1_ : ¬ 400 < m_opened) : Met l yX11_isInside wsX11_isInside ({ frames := 0, cells := 0, slots := 0, locals := 0 }) (zPc dC dI kA sz [.ref n0] [(n0, .inr (11, .ref a_tape :: .int m_taped :: .int m_laws :: .ref a_sign :: .ref a_length :: .ref a_clause :: .ref a_clauses :: .ref a_chain :: .int m_next :: .int m_wrong :: .int m_number :: .int m_text :: .int m_made :: .int m_deep :: .int m_lines :: .ref a_open :: .int m_opened :: .ref a_stack :: .int m_top :: .ref a_word :: .ref a_said :: .ref a_kept :: [.int m_goNode, .int m_goDrops, .int m_goHour, .int m_goFelt, .int m_goSalt, .int m_goMore, .ref a_stepNode, .ref a_stepDrops, .ref a_stepHour, .ref a_stepNext, .ref a_stepPass, .int m_bestLeft, .int m_bestHour, .int m_bestMany, .ref a_bestPass, .ref a_far, .ref a_waited, .ref a_servers, .ref a_images, .ref a_isMade])), (a_open, .inl (kA 0, 400, .inl openF))]) (va_Qi (fun (r : Int32) (u : Int32) => r = u ∧ u = fX11_isInside m_opened openF ∧ (u = 0 ∨ u = 1) ∧ IN openF m_opened u) (zB dC dI (va_A [(n0, .inr (11, .ref a_tape :: .int m_taped :: .int m_laws :: .ref a_sign :: .ref a_length :: .ref a_clause :: .ref a_clauses :: .ref a_chain :: .int m_next :: .int m_wrong :: .int m_number :: .int m_text :: .int m_made :: .int m_deep :: .int m_lines :: .ref a_open :: .int m_opened :: .ref a_stack :: .int m_top :: .ref a_word :: .ref a_said :: .ref a_kept :: [.int m_goNode, .int m_goDrops, .int m_goHour, .int m_goFelt, .int m_goSalt, .int m_goMore, .ref a_stepNode, .ref a_stepDrops, .ref a_stepHour, .ref a_stepNext, .ref a_stepPass, .int m_bestLeft, .int m_bestHour, .int m_bestMany, .ref a_bestPass, .ref a_far, .ref a_waited, .ref a_servers, .ref a_images, .ref a_isMade])), (a_open, .inl (kA 0, 400, .inl openF))] sz) (fun (u : Int32) => [(n0, .inr (11, .ref a_tape :: .int m_taped :: .int m_laws :: .ref a_sign :: .ref a_length :: .ref a_clause :: .ref a_clauses :: .ref a_chain :: .int m_next :: .int m_wrong :: .int m_number :: .int m_text :: .int m_made :: .int m_deep :: .int m_lines :: .ref a_open :: .int m_opened :: .ref a_stack :: .int m_top :: .ref a_word :: .ref a_said :: .ref a_kept :: [.int m_goNode, .int m_goDrops, .int m_goHour, .int m_goFelt, .int m_goSalt, .int m_goMore, .ref a_stepNode, .ref a_stepDrops, .ref a_stepHour, .ref a_stepNext, .ref a_stepPass, .int m_bestLeft, .int m_bestHour, .int m_bestMany, .ref a_bestPass, .ref a_far, .ref a_waited, .ref a_servers, .ref a_images, .ref a_isMade])), (a_open, .inl (kA 0, 400, .inl openF))])) (va_A [(n0, .inr (11, .ref a_tape :: .int m_taped :: .int m_laws :: .ref a_sign :: .ref a_length :: .ref a_clause :: .ref a_clauses :: .ref a_chain :: .int m_next :: .int m_wrong :: .int m_number :: .int m_text :: .int m_made :: .int m_deep :: .int m_lines :: .ref a_open :: .int m_opened :: .ref a_stack :: .int m_top :: .ref a_word :: .ref a_said :: .ref a_kept :: [.int m_goNode, .int m_goDrops, .int m_goHour, .int m_goFelt, .int m_goSalt, .int m_goMore, .ref a_stepNode, .ref a_stepDrops, .ref a_stepHour, .ref a_stepNext, .ref a_stepPass, .int m_bestLeft, .int m_bestHour, .int m_bestMany, .ref a_bestPass, .ref a_far, .ref a_waited, .ref a_servers, .ref a_images, .ref a_isMade])), (a_open, .inl (kA 0, 400, .inl openF))] sz)) 0 0 (va_A [(n0, .inr (11, .ref a_tape :: .int m_taped :: .int m_laws :: .ref a_sign :: .ref a_length :: .ref a_clause :: .ref a_clauses :: .ref a_chain :: .int m_next :: .int m_wrong :: .int m_number :: .int m_text :: .int m_made :: .int m_deep :: .int m_lines :: .ref a_open :: .int m_opened :: .ref a_stack :: .int m_top :: .ref a_word :: .ref a_said :: .ref a_kept :: [.int m_goNode, .int m_goDrops, .int m_goHour, .int m_goFelt, .int m_goSalt, .int m_goMore, .ref a_stepNode, .ref a_stepDrops, .ref a_stepHour, .ref a_stepNext, .ref a_stepPass, .int m_bestLeft, .int m_bestHour, .int m_bestMany, .ref a_bestPass, .ref a_far, .ref a_waited, .ref a_servers, .ref a_images, .ref a_isMade])), (a_open, .inl (kA 0, 400, .inl openF))] sz) := by
  refine Met.ofW (cc := cX11_isInside) (maxL := 2) (ret := (some .boolean)) pnX11 rfl ?_
  intro p e s m args below meth c s₁ B hml hv
  obtain ⟨rfl, hsz, hP, hK, hD0⟩ := hv
  have hx := B.exec
  have hb := B.bytes
  have hr := B.returns
  have hts := atoms_spec (ws := wsX11_isInside) B.pre
  have hown : s.vm.findClass RX11 = some m.cls := findClass_of_methodNamed B.named
  have hlocks := B.notSynchronized
  subst hsz
  have hD := hD0.self (sz := s.heap.size)
  generalize hAe : va_A [(n0, .inr (11, .ref a_tape :: .int m_taped :: .int m_laws :: .ref a_sign :: .ref a_length :: .ref a_clause :: .ref a_clauses :: .ref a_chain :: .int m_next :: .int m_wrong :: .int m_number :: .int m_text :: .int m_made :: .int m_deep :: .int m_lines :: .ref a_open :: .int m_opened :: .ref a_stack :: .int m_top :: .ref a_word :: .ref a_said :: .ref a_kept :: [.int m_goNode, .int m_goDrops, .int m_goHour, .int m_goFelt, .int m_goSalt, .int m_goMore, .ref a_stepNode, .ref a_stepDrops, .ref a_stepHour, .ref a_stepNext, .ref a_stepPass, .int m_bestLeft, .int m_bestHour, .int m_bestMany, .ref a_bestPass, .ref a_far, .ref a_waited, .ref a_servers, .ref a_images, .ref a_isMade])), (a_open, .inl (kA 0, 400, .inl openF))] s.heap.size = A at hD ⊢
  have hA : ∀ q : Nat, s.heap.size ≤ q → A q := zA_of hAe
  have hS : va_S A s.heap s.heap [] := va_S.rf
  have hP : va_P (dC, dI) vwCl [(n0, .inr (11, .ref a_tape :: .int m_taped :: .int m_laws :: .ref a_sign :: .ref a_length :: .ref a_clause :: .ref a_clauses :: .ref a_chain :: .int m_next :: .int m_wrong :: .int m_number :: .int m_text :: .int m_made :: .int m_deep :: .int m_lines :: .ref a_open :: .int m_opened :: .ref a_stack :: .int m_top :: .ref a_word :: .ref a_said :: .ref a_kept :: [.int m_goNode, .int m_goDrops, .int m_goHour, .int m_goFelt, .int m_goSalt, .int m_goMore, .ref a_stepNode, .ref a_stepDrops, .ref a_stepHour, .ref a_stepNext, .ref a_stepPass, .int m_bestLeft, .int m_bestHour, .int m_bestMany, .ref a_bestPass, .ref a_far, .ref a_waited, .ref a_servers, .ref a_images, .ref a_isMade])), (a_open, .inl (kA 0, 400, .inl openF))] s.heap := hP
  have hl := lv_entry ([.ref n0]) (n := 2) (Nat.le_of_ble_eq_true rfl)
  rw [lg_entry_eq]
  generalize (lg_sl ([.ref n0]) ++ List.replicate (2 - (lg_sl ([.ref n0])).length) Slot.unset).toArray = ls at hl ⊢
  have hl : lv_has ls 2 [(0, .ref n0)] := hl
  obtain ⟨H, hHe⟩ : ∃ H : Heap, H = s.heap := ⟨_, rfl⟩
  obtain ⟨G, hG0⟩ : ∃ G : Int32, fX11_isInside m_opened openF = G := ⟨_, rfl⟩
  have hG := hG0
  unfold fX11_isInside at hG
  refine lv_iconst (v := 0) hx hb dX11_isInside_0 (by decide) ?_
  refine lv_istore_n (lv' := [(1, .int 0), (0, .ref n0)]) hx hb dX11_isInside_1 rfl hl (by decide) rfl (fun ls hl => ?_)
  refine lp_mX11_isInside_2 hx hb hml hts hown hK hA (Nat.le_of_ble_eq_true rfl) (Nat.le_of_ble_eq_true rfl) (Nat.le_of_ble_eq_true rfl) (Nat.le_of_ble_eq_true rfl) n0 m_taped m_laws m_next m_wrong m_number m_text m_made m_deep m_lines m_opened m_top m_goNode m_goDrops m_goHour m_goFelt m_goSalt m_goMore m_bestLeft m_bestHour m_bestMany a_tape a_sign a_length a_clause a_clauses a_chain a_open a_stack a_word a_said a_kept a_stepNode a_stepDrops a_stepHour a_stepNext a_stepPass a_bestPass a_far a_waited a_servers a_images a_isMade openF o1_ (fun w21_0_0 H locs ls hx21_1_nlt00_0 hnb_0 hlt_0 h91_0 hG hP hD hS hl => ?_) (fun w29_0_0 H locs ls hx29_1_nlt00_0 hnb_0 hle_0 hG hP hD hS hl => ?_) _ 0 _ _ ls (Nat.lt_succ_self _) hG (by decide) (NB_0 openF) hP hD hS (lv_sub hl [0, 1] rfl)
  · obtain ⟨hP, hD⟩ := z_re (L := [(n0, .inr (11, .ref a_tape :: .int m_taped :: .int m_laws :: .ref a_sign :: .ref a_length :: .ref a_clause :: .ref a_clauses :: .ref a_chain :: .int m_next :: .int m_wrong :: .int m_number :: .int m_text :: .int m_made :: .int m_deep :: .int m_lines :: .ref a_open :: .int m_opened :: .ref a_stack :: .int m_top :: .ref a_word :: .ref a_said :: .ref a_kept :: [.int m_goNode, .int m_goDrops, .int m_goHour, .int m_goFelt, .int m_goSalt, .int m_goMore, .ref a_stepNode, .ref a_stepDrops, .ref a_stepHour, .ref a_stepNext, .ref a_stepPass, .int m_bestLeft, .int m_bestHour, .int m_bestMany, .ref a_bestPass, .ref a_far, .ref a_waited, .ref a_servers, .ref a_images, .ref a_isMade])), (a_open, .inl (kA 0, 400, .inl openF))]) hP hD
    refine lv_iconst (v := 1) hx hb dX11_isInside_21 (by decide) ?_
    obtain ⟨hP9, hD9⟩ := z_sb (L' := [(n0, .inr (11, .ref a_tape :: .int m_taped :: .int m_laws :: .ref a_sign :: .ref a_length :: .ref a_clause :: .ref a_clauses :: .ref a_chain :: .int m_next :: .int m_wrong :: .int m_number :: .int m_text :: .int m_made :: .int m_deep :: .int m_lines :: .ref a_open :: .int m_opened :: .ref a_stack :: .int m_top :: .ref a_word :: .ref a_said :: .ref a_kept :: [.int m_goNode, .int m_goDrops, .int m_goHour, .int m_goFelt, .int m_goSalt, .int m_goMore, .ref a_stepNode, .ref a_stepDrops, .ref a_stepHour, .ref a_stepNext, .ref a_stepPass, .int m_bestLeft, .int m_bestHour, .int m_bestMany, .ref a_bestPass, .ref a_far, .ref a_waited, .ref a_servers, .ref a_images, .ref a_isMade])), (a_open, .inl (kA 0, 400, .inl openF))]) hP hD [0, 1] (by decide) rfl
    refine W.widen (k := 0) (n := 0) (Nat.le_of_ble_eq_true rfl) (Nat.le_of_ble_eq_true rfl) ?_
    exact W.zret (v := 1) hx hb hr rfl (fun t ht hW => ⟨⟨1, (1), rfl, ⟨rfl, (hG.trans hG0.symm), (Or.inr rfl), (IN_1 hx21_1_nlt00_0 hlt_0 rfl h91_0)⟩, by rw [ht]; exact hP9, hD9⟩, hS.F ht⟩) hS.2.2 dX11_isInside_22
  · obtain ⟨hP, hD⟩ := z_re (L := [(n0, .inr (11, .ref a_tape :: .int m_taped :: .int m_laws :: .ref a_sign :: .ref a_length :: .ref a_clause :: .ref a_clauses :: .ref a_chain :: .int m_next :: .int m_wrong :: .int m_number :: .int m_text :: .int m_made :: .int m_deep :: .int m_lines :: .ref a_open :: .int m_opened :: .ref a_stack :: .int m_top :: .ref a_word :: .ref a_said :: .ref a_kept :: [.int m_goNode, .int m_goDrops, .int m_goHour, .int m_goFelt, .int m_goSalt, .int m_goMore, .ref a_stepNode, .ref a_stepDrops, .ref a_stepHour, .ref a_stepNext, .ref a_stepPass, .int m_bestLeft, .int m_bestHour, .int m_bestMany, .ref a_bestPass, .ref a_far, .ref a_waited, .ref a_servers, .ref a_images, .ref a_isMade])), (a_open, .inl (kA 0, 400, .inl openF))]) hP hD
    refine lv_iconst (v := 0) hx hb dX11_isInside_29 (by decide) ?_
    obtain ⟨hP9, hD9⟩ := z_sb (L' := [(n0, .inr (11, .ref a_tape :: .int m_taped :: .int m_laws :: .ref a_sign :: .ref a_length :: .ref a_clause :: .ref a_clauses :: .ref a_chain :: .int m_next :: .int m_wrong :: .int m_number :: .int m_text :: .int m_made :: .int m_deep :: .int m_lines :: .ref a_open :: .int m_opened :: .ref a_stack :: .int m_top :: .ref a_word :: .ref a_said :: .ref a_kept :: [.int m_goNode, .int m_goDrops, .int m_goHour, .int m_goFelt, .int m_goSalt, .int m_goMore, .ref a_stepNode, .ref a_stepDrops, .ref a_stepHour, .ref a_stepNext, .ref a_stepPass, .int m_bestLeft, .int m_bestHour, .int m_bestMany, .ref a_bestPass, .ref a_far, .ref a_waited, .ref a_servers, .ref a_images, .ref a_isMade])), (a_open, .inl (kA 0, 400, .inl openF))]) hP hD [0, 1] (by decide) rfl
    refine W.widen (k := 0) (n := 0) (Nat.le_of_ble_eq_true rfl) (Nat.le_of_ble_eq_true rfl) ?_
    exact W.zret (v := 0) hx hb hr rfl (fun t ht hW => ⟨⟨0, (0), rfl, ⟨rfl, (hG.trans hG0.symm), (Or.inl rfl), (IN_0 hnb_0 hle_0)⟩, by rw [ht]; exact hP9, hD9⟩, hS.F ht⟩) hS.2.2 dX11_isInside_30
