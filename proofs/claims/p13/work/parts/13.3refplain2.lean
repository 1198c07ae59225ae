def ixX11_at : List Nat := [5, 153, 191, 192, 193, 209, 210, 211, 212, 621, 622, 623, 624, 625, 626, 627, 628, 629, 630, 631, 632, 633, 634, 635, 636, 891, 892, 1499, 1500, 1501, 1502, 1503, 1504, 1505, 1506, 1507, 1508, 1509, 1510, 1511, 1512, 1513, 1514, 1515, 1516, 1517, 1518, 1519, 1520, 1521, 1522, 1523, 1524, 1525, 1526, 1527, 1528, 1529, 1530, 1531, 1532, 1533, 1534, 1535, 1536, 1537, 1538, 1539, 1540]
def wsX11_at : List Cond := .code yX11_at cX11_at 5 (some .int) :: ixX11_at.map wt
def ixX11_isOfWay : List Nat := [5, 153, 682, 683, 684, 685, 686, 687, 688, 689, 937, 1499, 1500, 1501, 1502, 1503, 1504, 1505, 1506, 1507, 1508, 1509, 1510, 1511, 1512, 1513, 1514, 1515, 1516, 1517, 1518, 1519, 1520, 1521, 1522, 1523, 1524, 1525, 1526, 1527, 1528, 1529, 1530, 1531, 1532, 1533, 1534, 1535, 1536, 1537, 1538, 1539, 1540]
def wsX11_isOfWay : List Cond := .code yX11_isOfWay cX11_isOfWay 5 (some .boolean) :: ixX11_isOfWay.map wt
def ixX11_of : List Nat := [5, 153, 191, 192, 193, 617, 618, 619, 620, 621, 622, 623, 624, 900, 901, 1499, 1500, 1501, 1502, 1503, 1504, 1505, 1506, 1507, 1508, 1509, 1510, 1511, 1512, 1513, 1514, 1515, 1516, 1517, 1518, 1519, 1520, 1521, 1522, 1523, 1524, 1525, 1526, 1527, 1528, 1529, 1530, 1531, 1532, 1533, 1534, 1535, 1536, 1537, 1538, 1539, 1540]
def wsX11_of : List Cond := .code yX11_of cX11_of 3 (some .int) :: ixX11_of.map wt
def ixX11_wayEnd : List Nat := [5, 153, 682, 683, 684, 685, 686, 687, 688, 689, 933, 1499, 1500, 1501, 1502, 1503, 1504, 1505, 1506, 1507, 1508, 1509, 1510, 1511, 1512, 1513, 1514, 1515, 1516, 1517, 1518, 1519, 1520, 1521, 1522, 1523, 1524, 1525, 1526, 1527, 1528, 1529, 1530, 1531, 1532, 1533, 1534, 1535, 1536, 1537, 1538, 1539, 1540]
def wsX11_wayEnd : List Cond := .code yX11_wayEnd cX11_wayEnd 3 (some .int) :: ixX11_wayEnd.map wt
theorem ggX11_at_X11_hasSnow : GoodIn wsX11_at wsX11_hasSnow := gi_ (A := ixX11_at) (B := ixX11_hasSnow) wt632 (by decide +kernel)
theorem gX11_at_X11_hasSnow : GoodIn wsX11_at (wsV RX11 294 RX11 yX11_hasSnow wsX11_hasSnow) := g4_ (A := ixX11_at) wt629 wt630 wt631 wt5 (by decide +kernel) ggX11_at_X11_hasSnow
theorem ggX11_at_X11_in : GoodIn wsX11_at wsX11_in := gi_ (A := ixX11_at) (B := ixX11_in) wt193 (by decide +kernel)
theorem gX11_at_X11_in : GoodIn wsX11_at (va_wsS RX11 118 yX11_in wsX11_in) := g3_ (A := ixX11_at) wt191 wt192 wt5 (by decide +kernel) ggX11_at_X11_in
theorem ggX11_at_X11_isNode : GoodIn wsX11_at wsX11_isNode := gi_ (A := ixX11_at) (B := ixX11_isNode) wt212 (by decide +kernel)
theorem gX11_at_X11_isNode : GoodIn wsX11_at (wsV RX11 267 RX11 yX11_isNode wsX11_isNode) := g4_ (A := ixX11_at) wt209 wt210 wt211 wt5 (by decide +kernel) ggX11_at_X11_isNode
theorem ggX11_at_X11_jarOf : GoodIn wsX11_at wsX11_jarOf := gi_ (A := ixX11_at) (B := ixX11_jarOf) wt624 (by decide +kernel)
theorem gX11_at_X11_jarOf : GoodIn wsX11_at (wsV RX11 283 RX11 yX11_jarOf wsX11_jarOf) := g4_ (A := ixX11_at) wt621 wt622 wt623 wt5 (by decide +kernel) ggX11_at_X11_jarOf
theorem ggX11_at_X11_monthAt : GoodIn wsX11_at wsX11_monthAt := gi_ (A := ixX11_at) (B := ixX11_monthAt) wt628 (by decide +kernel)
theorem gX11_at_X11_monthAt : GoodIn wsX11_at (wsV RX11 291 RX11 yX11_monthAt wsX11_monthAt) := g4_ (A := ixX11_at) wt625 wt626 wt627 wt5 (by decide +kernel) ggX11_at_X11_monthAt
theorem ggX11_at_X11_nodeOf : GoodIn wsX11_at wsX11_nodeOf := gi_ (A := ixX11_at) (B := ixX11_nodeOf) wt636 (by decide +kernel)
theorem gX11_at_X11_nodeOf : GoodIn wsX11_at (wsV RX11 257 RX11 yX11_nodeOf wsX11_nodeOf) := g4_ (A := ixX11_at) wt633 wt634 wt635 wt5 (by decide +kernel) ggX11_at_X11_nodeOf
theorem ggX11_isOfWay_X11_other : GoodIn wsX11_isOfWay wsX11_other := gi_ (A := ixX11_isOfWay) (B := ixX11_other) wt685 (by decide +kernel)
theorem gX11_isOfWay_X11_other : GoodIn wsX11_isOfWay (wsV RX11 309 RX11 yX11_other wsX11_other) := g4_ (A := ixX11_isOfWay) wt682 wt683 wt684 wt5 (by decide +kernel) ggX11_isOfWay_X11_other
theorem ggX11_of_X11_in : GoodIn wsX11_of wsX11_in := gi_ (A := ixX11_of) (B := ixX11_in) wt193 (by decide +kernel)
theorem gX11_of_X11_in : GoodIn wsX11_of (va_wsS RX11 118 yX11_in wsX11_in) := g3_ (A := ixX11_of) wt191 wt192 wt5 (by decide +kernel) ggX11_of_X11_in
theorem ggX11_of_X11_isJar : GoodIn wsX11_of wsX11_isJar := gi_ (A := ixX11_of) (B := ixX11_isJar) wt620 (by decide +kernel)
theorem gX11_of_X11_isJar : GoodIn wsX11_of (wsV RX11 280 RX11 yX11_isJar wsX11_isJar) := g4_ (A := ixX11_of) wt617 wt618 wt619 wt5 (by decide +kernel) ggX11_of_X11_isJar
theorem ggX11_of_X11_jarOf : GoodIn wsX11_of wsX11_jarOf := gi_ (A := ixX11_of) (B := ixX11_jarOf) wt624 (by decide +kernel)
theorem gX11_of_X11_jarOf : GoodIn wsX11_of (wsV RX11 283 RX11 yX11_jarOf wsX11_jarOf) := g4_ (A := ixX11_of) wt621 wt622 wt623 wt5 (by decide +kernel) ggX11_of_X11_jarOf
theorem ggX11_wayEnd_X11_other : GoodIn wsX11_wayEnd wsX11_other := gi_ (A := ixX11_wayEnd) (B := ixX11_other) wt685 (by decide +kernel)
theorem gX11_wayEnd_X11_other : GoodIn wsX11_wayEnd (wsV RX11 309 RX11 yX11_other wsX11_other) := g4_ (A := ixX11_wayEnd) wt682 wt683 wt684 wt5 (by decide +kernel) ggX11_wayEnd_X11_other
theorem kX11_at_1 {a : Array Value} {s : State} (hts : ∀ w ∈ wsX11_at, w.before a s = true) : (.constantLong RX11 371 (5) : Cond).before a s = true := kw (A := ixX11_at) wt892 hts (by decide +kernel)
theorem kX11_at_2 {a : Array Value} {s : State} (hts : ∀ w ∈ wsX11_at, w.before a s = true) : (.fieldLink RX11 39 "SnowMulesModel" "said" "[I" : Cond).before a s = true := kw (A := ixX11_at) wt153 hts (by decide +kernel)
theorem kX11_of_1 {a : Array Value} {s : State} (hts : ∀ w ∈ wsX11_of, w.before a s = true) : (.constantLong RX11 373 (8) : Cond).before a s = true := kw (A := ixX11_of) wt901 hts (by decide +kernel)
theorem kX11_wayEnd_1 {a : Array Value} {s : State} (hts : ∀ w ∈ wsX11_wayEnd, w.before a s = true) : (.fieldLink RX11 39 "SnowMulesModel" "said" "[I" : Cond).before a s = true := kw (A := ixX11_wayEnd) wt153 hts (by decide +kernel)
theorem kX11_isOfWay_1 {a : Array Value} {s : State} (hts : ∀ w ∈ wsX11_isOfWay, w.before a s = true) : (.fieldLink RX11 39 "SnowMulesModel" "said" "[I" : Cond).before a s = true := kw (A := ixX11_isOfWay) wt153 hts (by decide +kernel)
theorem iX11_at_X11 : ∀ w ∈ wsX110, w ∈ wsX11_at := inW (A := ixX11_at) uwX11 (by decide +kernel)
theorem iX11_wayEnd_X11 : ∀ w ∈ wsX110, w ∈ wsX11_wayEnd := inW (A := ixX11_wayEnd) uwX11 (by decide +kernel)
theorem iX11_isOfWay_X11 : ∀ w ∈ wsX110, w ∈ wsX11_isOfWay := inW (A := ixX11_isOfWay) uwX11 (by decide +kernel)
def dtX11_at_13_0 : List (Nat × Jvm.ClassFile.Instr × Nat) := [(0, .aload_n 0, 1), (1, .iload_n 1, 1), (2, .invokevirtual 267, 3), (5, .ifCond .eq 15, 3), (20, .iconst (-1), 1), (21, .ireturn, 1), (8, .iload_n 2, 1), (9, .i2l, 1), (10, .lconst 0, 1), (11, .ldc2_w 371, 3), (14, .invokestatic 118, 3), (17, .ifCond .ne 5, 3), (22, .iload_n 2, 1), (23, .iconst 4, 1), (24, .if_icmp .ge 10, 3), (34, .iload_n 2, 1), (35, .iconst 4, 1), (36, .if_icmp .ne 27, 3), (63, .iconst 0, 1), (64, .istore_n 3, 1), (65, .iconst 0, 1), (66, .istore 4, 2), (68, .iload 4, 2), (70, .aload_n 0, 1), (71, .getfield 39, 3), (74, .iconst 2, 1), (75, .iaload, 1), (76, .if_icmp .ge 28, 3), (79, .iload_n 3, 1), (80, .aload_n 0, 1), (81, .iload 4, 2), (83, .iconst 5, 1)]
theorem daX11_at_13_0 : dtX11_at_13_0.all (dqd cX11_at) = true := by decide +kernel
theorem dX11_at_0 : decode cX11_at 0 = .ok (.aload_n 0, 1) := dq daX11_at_13_0 0 rfl
theorem dX11_at_1 : decode cX11_at 1 = .ok (.iload_n 1, 1) := dq daX11_at_13_0 1 rfl
theorem dX11_at_2 : decode cX11_at 2 = .ok (.invokevirtual 267, 3) := dq daX11_at_13_0 2 rfl
theorem dX11_at_5 : decode cX11_at 5 = .ok (.ifCond .eq 15, 3) := dq daX11_at_13_0 3 rfl
theorem dX11_at_20 : decode cX11_at 20 = .ok (.iconst (-1), 1) := dq daX11_at_13_0 4 rfl
theorem dX11_at_21 : decode cX11_at 21 = .ok (.ireturn, 1) := dq daX11_at_13_0 5 rfl
theorem dX11_at_8 : decode cX11_at 8 = .ok (.iload_n 2, 1) := dq daX11_at_13_0 6 rfl
theorem dX11_at_9 : decode cX11_at 9 = .ok (.i2l, 1) := dq daX11_at_13_0 7 rfl
theorem dX11_at_10 : decode cX11_at 10 = .ok (.lconst 0, 1) := dq daX11_at_13_0 8 rfl
theorem dX11_at_11 : decode cX11_at 11 = .ok (.ldc2_w 371, 3) := dq daX11_at_13_0 9 rfl
theorem dX11_at_14 : decode cX11_at 14 = .ok (.invokestatic 118, 3) := dq daX11_at_13_0 10 rfl
theorem dX11_at_17 : decode cX11_at 17 = .ok (.ifCond .ne 5, 3) := dq daX11_at_13_0 11 rfl
theorem dX11_at_22 : decode cX11_at 22 = .ok (.iload_n 2, 1) := dq daX11_at_13_0 12 rfl
theorem dX11_at_23 : decode cX11_at 23 = .ok (.iconst 4, 1) := dq daX11_at_13_0 13 rfl
theorem dX11_at_24 : decode cX11_at 24 = .ok (.if_icmp .ge 10, 3) := dq daX11_at_13_0 14 rfl
theorem dX11_at_34 : decode cX11_at 34 = .ok (.iload_n 2, 1) := dq daX11_at_13_0 15 rfl
theorem dX11_at_35 : decode cX11_at 35 = .ok (.iconst 4, 1) := dq daX11_at_13_0 16 rfl
theorem dX11_at_36 : decode cX11_at 36 = .ok (.if_icmp .ne 27, 3) := dq daX11_at_13_0 17 rfl
theorem dX11_at_63 : decode cX11_at 63 = .ok (.iconst 0, 1) := dq daX11_at_13_0 18 rfl
theorem dX11_at_64 : decode cX11_at 64 = .ok (.istore_n 3, 1) := dq daX11_at_13_0 19 rfl
theorem dX11_at_65 : decode cX11_at 65 = .ok (.iconst 0, 1) := dq daX11_at_13_0 20 rfl
theorem dX11_at_66 : decode cX11_at 66 = .ok (.istore 4, 2) := dq daX11_at_13_0 21 rfl
theorem dX11_at_68 : decode cX11_at 68 = .ok (.iload 4, 2) := dq daX11_at_13_0 22 rfl
theorem dX11_at_70 : decode cX11_at 70 = .ok (.aload_n 0, 1) := dq daX11_at_13_0 23 rfl
theorem dX11_at_71 : decode cX11_at 71 = .ok (.getfield 39, 3) := dq daX11_at_13_0 24 rfl
theorem dX11_at_74 : decode cX11_at 74 = .ok (.iconst 2, 1) := dq daX11_at_13_0 25 rfl
theorem dX11_at_75 : decode cX11_at 75 = .ok (.iaload, 1) := dq daX11_at_13_0 26 rfl
theorem dX11_at_76 : decode cX11_at 76 = .ok (.if_icmp .ge 28, 3) := dq daX11_at_13_0 27 rfl
theorem dX11_at_79 : decode cX11_at 79 = .ok (.iload_n 3, 1) := dq daX11_at_13_0 28 rfl
theorem dX11_at_80 : decode cX11_at 80 = .ok (.aload_n 0, 1) := dq daX11_at_13_0 29 rfl
theorem dX11_at_81 : decode cX11_at 81 = .ok (.iload 4, 2) := dq daX11_at_13_0 30 rfl
theorem dX11_at_83 : decode cX11_at 83 = .ok (.iconst 5, 1) := dq daX11_at_13_0 31 rfl
def dtX11_at_13_1 : List (Nat × Jvm.ClassFile.Instr × Nat) := [(84, .invokevirtual 283, 3), (87, .iload_n 1, 1), (88, .if_icmp .ne 7, 3), (95, .iconst 0, 1), (96, .iadd, 1), (97, .istore_n 3, 1), (98, .iinc 4 1, 3), (101, .goto (-33), 3), (91, .iconst 1, 1), (92, .goto 4, 3), (104, .iload_n 3, 1), (105, .ireturn, 1), (39, .aload_n 0, 1), (40, .iload_n 1, 1), (41, .aload_n 0, 1), (42, .aload_n 0, 1), (43, .getfield 39, 3), (46, .iconst 5, 1), (47, .iaload, 1), (48, .invokevirtual 291, 3), (51, .invokevirtual 294, 3), (54, .ifCond .eq 7, 3), (61, .iconst 0, 1), (62, .ireturn, 1), (57, .iconst 1, 1), (58, .goto 4, 3), (27, .aload_n 0, 1), (28, .iload_n 1, 1), (29, .iload_n 2, 1), (30, .invokevirtual 257, 3), (33, .ireturn, 1)]
theorem daX11_at_13_1 : dtX11_at_13_1.all (dqd cX11_at) = true := by decide +kernel
theorem dX11_at_84 : decode cX11_at 84 = .ok (.invokevirtual 283, 3) := dq daX11_at_13_1 0 rfl
theorem dX11_at_87 : decode cX11_at 87 = .ok (.iload_n 1, 1) := dq daX11_at_13_1 1 rfl
theorem dX11_at_88 : decode cX11_at 88 = .ok (.if_icmp .ne 7, 3) := dq daX11_at_13_1 2 rfl
theorem dX11_at_95 : decode cX11_at 95 = .ok (.iconst 0, 1) := dq daX11_at_13_1 3 rfl
theorem dX11_at_96 : decode cX11_at 96 = .ok (.iadd, 1) := dq daX11_at_13_1 4 rfl
theorem dX11_at_97 : decode cX11_at 97 = .ok (.istore_n 3, 1) := dq daX11_at_13_1 5 rfl
theorem dX11_at_98 : decode cX11_at 98 = .ok (.iinc 4 1, 3) := dq daX11_at_13_1 6 rfl
theorem dX11_at_101 : decode cX11_at 101 = .ok (.goto (-33), 3) := dq daX11_at_13_1 7 rfl
theorem dX11_at_91 : decode cX11_at 91 = .ok (.iconst 1, 1) := dq daX11_at_13_1 8 rfl
theorem dX11_at_92 : decode cX11_at 92 = .ok (.goto 4, 3) := dq daX11_at_13_1 9 rfl
theorem dX11_at_104 : decode cX11_at 104 = .ok (.iload_n 3, 1) := dq daX11_at_13_1 10 rfl
theorem dX11_at_105 : decode cX11_at 105 = .ok (.ireturn, 1) := dq daX11_at_13_1 11 rfl
theorem dX11_at_39 : decode cX11_at 39 = .ok (.aload_n 0, 1) := dq daX11_at_13_1 12 rfl
theorem dX11_at_40 : decode cX11_at 40 = .ok (.iload_n 1, 1) := dq daX11_at_13_1 13 rfl
theorem dX11_at_41 : decode cX11_at 41 = .ok (.aload_n 0, 1) := dq daX11_at_13_1 14 rfl
theorem dX11_at_42 : decode cX11_at 42 = .ok (.aload_n 0, 1) := dq daX11_at_13_1 15 rfl
theorem dX11_at_43 : decode cX11_at 43 = .ok (.getfield 39, 3) := dq daX11_at_13_1 16 rfl
theorem dX11_at_46 : decode cX11_at 46 = .ok (.iconst 5, 1) := dq daX11_at_13_1 17 rfl
theorem dX11_at_47 : decode cX11_at 47 = .ok (.iaload, 1) := dq daX11_at_13_1 18 rfl
theorem dX11_at_48 : decode cX11_at 48 = .ok (.invokevirtual 291, 3) := dq daX11_at_13_1 19 rfl
theorem dX11_at_51 : decode cX11_at 51 = .ok (.invokevirtual 294, 3) := dq daX11_at_13_1 20 rfl
theorem dX11_at_54 : decode cX11_at 54 = .ok (.ifCond .eq 7, 3) := dq daX11_at_13_1 21 rfl
theorem dX11_at_61 : decode cX11_at 61 = .ok (.iconst 0, 1) := dq daX11_at_13_1 22 rfl
theorem dX11_at_62 : decode cX11_at 62 = .ok (.ireturn, 1) := dq daX11_at_13_1 23 rfl
theorem dX11_at_57 : decode cX11_at 57 = .ok (.iconst 1, 1) := dq daX11_at_13_1 24 rfl
theorem dX11_at_58 : decode cX11_at 58 = .ok (.goto 4, 3) := dq daX11_at_13_1 25 rfl
theorem dX11_at_27 : decode cX11_at 27 = .ok (.aload_n 0, 1) := dq daX11_at_13_1 26 rfl
theorem dX11_at_28 : decode cX11_at 28 = .ok (.iload_n 1, 1) := dq daX11_at_13_1 27 rfl
theorem dX11_at_29 : decode cX11_at 29 = .ok (.iload_n 2, 1) := dq daX11_at_13_1 28 rfl
theorem dX11_at_30 : decode cX11_at 30 = .ok (.invokevirtual 257, 3) := dq daX11_at_13_1 29 rfl
theorem dX11_at_33 : decode cX11_at 33 = .ok (.ireturn, 1) := dq daX11_at_13_1 30 rfl
def dtX11_of_13_0 : List (Nat × Jvm.ClassFile.Instr × Nat) := [(0, .aload_n 0, 1), (1, .iload_n 1, 1), (2, .invokevirtual 280, 3), (5, .ifCond .eq 15, 3), (20, .bipush (-2), 2), (22, .ireturn, 1), (8, .iload_n 2, 1), (9, .i2l, 1), (10, .lconst 0, 1), (11, .ldc2_w 373, 3), (14, .invokestatic 118, 3), (17, .ifCond .ne 6, 3), (23, .aload_n 0, 1), (24, .iload_n 1, 1), (25, .iload_n 2, 1), (26, .iconst 5, 1), (27, .if_icmp .ge 9, 3), (36, .iload_n 2, 1), (37, .iconst 5, 1), (38, .isub, 1), (39, .invokevirtual 283, 3), (42, .ireturn, 1), (30, .iload_n 2, 1), (31, .iconst 4, 1), (32, .iadd, 1), (33, .goto 6, 3)]
theorem daX11_of_13_0 : dtX11_of_13_0.all (dqd cX11_of) = true := by decide +kernel
theorem dX11_of_0 : decode cX11_of 0 = .ok (.aload_n 0, 1) := dq daX11_of_13_0 0 rfl
theorem dX11_of_1 : decode cX11_of 1 = .ok (.iload_n 1, 1) := dq daX11_of_13_0 1 rfl
theorem dX11_of_2 : decode cX11_of 2 = .ok (.invokevirtual 280, 3) := dq daX11_of_13_0 2 rfl
theorem dX11_of_5 : decode cX11_of 5 = .ok (.ifCond .eq 15, 3) := dq daX11_of_13_0 3 rfl
theorem dX11_of_20 : decode cX11_of 20 = .ok (.bipush (-2), 2) := dq daX11_of_13_0 4 rfl
theorem dX11_of_22 : decode cX11_of 22 = .ok (.ireturn, 1) := dq daX11_of_13_0 5 rfl
theorem dX11_of_8 : decode cX11_of 8 = .ok (.iload_n 2, 1) := dq daX11_of_13_0 6 rfl
theorem dX11_of_9 : decode cX11_of 9 = .ok (.i2l, 1) := dq daX11_of_13_0 7 rfl
theorem dX11_of_10 : decode cX11_of 10 = .ok (.lconst 0, 1) := dq daX11_of_13_0 8 rfl
theorem dX11_of_11 : decode cX11_of 11 = .ok (.ldc2_w 373, 3) := dq daX11_of_13_0 9 rfl
theorem dX11_of_14 : decode cX11_of 14 = .ok (.invokestatic 118, 3) := dq daX11_of_13_0 10 rfl
theorem dX11_of_17 : decode cX11_of 17 = .ok (.ifCond .ne 6, 3) := dq daX11_of_13_0 11 rfl
theorem dX11_of_23 : decode cX11_of 23 = .ok (.aload_n 0, 1) := dq daX11_of_13_0 12 rfl
theorem dX11_of_24 : decode cX11_of 24 = .ok (.iload_n 1, 1) := dq daX11_of_13_0 13 rfl
theorem dX11_of_25 : decode cX11_of 25 = .ok (.iload_n 2, 1) := dq daX11_of_13_0 14 rfl
theorem dX11_of_26 : decode cX11_of 26 = .ok (.iconst 5, 1) := dq daX11_of_13_0 15 rfl
theorem dX11_of_27 : decode cX11_of 27 = .ok (.if_icmp .ge 9, 3) := dq daX11_of_13_0 16 rfl
theorem dX11_of_36 : decode cX11_of 36 = .ok (.iload_n 2, 1) := dq daX11_of_13_0 17 rfl
theorem dX11_of_37 : decode cX11_of 37 = .ok (.iconst 5, 1) := dq daX11_of_13_0 18 rfl
theorem dX11_of_38 : decode cX11_of 38 = .ok (.isub, 1) := dq daX11_of_13_0 19 rfl
theorem dX11_of_39 : decode cX11_of 39 = .ok (.invokevirtual 283, 3) := dq daX11_of_13_0 20 rfl
theorem dX11_of_42 : decode cX11_of 42 = .ok (.ireturn, 1) := dq daX11_of_13_0 21 rfl
theorem dX11_of_30 : decode cX11_of 30 = .ok (.iload_n 2, 1) := dq daX11_of_13_0 22 rfl
theorem dX11_of_31 : decode cX11_of 31 = .ok (.iconst 4, 1) := dq daX11_of_13_0 23 rfl
theorem dX11_of_32 : decode cX11_of 32 = .ok (.iadd, 1) := dq daX11_of_13_0 24 rfl
theorem dX11_of_33 : decode cX11_of 33 = .ok (.goto 6, 3) := dq daX11_of_13_0 25 rfl
def dtX11_wayEnd_13_0 : List (Nat × Jvm.ClassFile.Instr × Nat) := [(0, .aload_n 0, 1), (1, .getfield 39, 3), (4, .bipush 8, 2), (6, .iaload, 1), (7, .istore_n 1, 1), (8, .iconst 0, 1), (9, .istore_n 2, 1), (10, .iload_n 2, 1), (11, .aload_n 0, 1), (12, .getfield 39, 3), (15, .bipush 9, 2), (17, .iaload, 1), (18, .if_icmp .ge 24, 3), (21, .aload_n 0, 1), (22, .aload_n 0, 1), (23, .getfield 39, 3), (26, .bipush 10, 2), (28, .iload_n 2, 1), (29, .iadd, 1), (30, .iaload, 1), (31, .iload_n 1, 1), (32, .invokevirtual 309, 3), (35, .istore_n 1, 1), (36, .iinc 2 1, 3), (39, .goto (-29), 3), (42, .iload_n 1, 1), (43, .ireturn, 1)]
theorem daX11_wayEnd_13_0 : dtX11_wayEnd_13_0.all (dqd cX11_wayEnd) = true := by decide +kernel
theorem dX11_wayEnd_0 : decode cX11_wayEnd 0 = .ok (.aload_n 0, 1) := dq daX11_wayEnd_13_0 0 rfl
theorem dX11_wayEnd_1 : decode cX11_wayEnd 1 = .ok (.getfield 39, 3) := dq daX11_wayEnd_13_0 1 rfl
theorem dX11_wayEnd_4 : decode cX11_wayEnd 4 = .ok (.bipush 8, 2) := dq daX11_wayEnd_13_0 2 rfl
theorem dX11_wayEnd_6 : decode cX11_wayEnd 6 = .ok (.iaload, 1) := dq daX11_wayEnd_13_0 3 rfl
theorem dX11_wayEnd_7 : decode cX11_wayEnd 7 = .ok (.istore_n 1, 1) := dq daX11_wayEnd_13_0 4 rfl
theorem dX11_wayEnd_8 : decode cX11_wayEnd 8 = .ok (.iconst 0, 1) := dq daX11_wayEnd_13_0 5 rfl
theorem dX11_wayEnd_9 : decode cX11_wayEnd 9 = .ok (.istore_n 2, 1) := dq daX11_wayEnd_13_0 6 rfl
theorem dX11_wayEnd_10 : decode cX11_wayEnd 10 = .ok (.iload_n 2, 1) := dq daX11_wayEnd_13_0 7 rfl
theorem dX11_wayEnd_11 : decode cX11_wayEnd 11 = .ok (.aload_n 0, 1) := dq daX11_wayEnd_13_0 8 rfl
theorem dX11_wayEnd_12 : decode cX11_wayEnd 12 = .ok (.getfield 39, 3) := dq daX11_wayEnd_13_0 9 rfl
theorem dX11_wayEnd_15 : decode cX11_wayEnd 15 = .ok (.bipush 9, 2) := dq daX11_wayEnd_13_0 10 rfl
theorem dX11_wayEnd_17 : decode cX11_wayEnd 17 = .ok (.iaload, 1) := dq daX11_wayEnd_13_0 11 rfl
theorem dX11_wayEnd_18 : decode cX11_wayEnd 18 = .ok (.if_icmp .ge 24, 3) := dq daX11_wayEnd_13_0 12 rfl
theorem dX11_wayEnd_21 : decode cX11_wayEnd 21 = .ok (.aload_n 0, 1) := dq daX11_wayEnd_13_0 13 rfl
theorem dX11_wayEnd_22 : decode cX11_wayEnd 22 = .ok (.aload_n 0, 1) := dq daX11_wayEnd_13_0 14 rfl
theorem dX11_wayEnd_23 : decode cX11_wayEnd 23 = .ok (.getfield 39, 3) := dq daX11_wayEnd_13_0 15 rfl
theorem dX11_wayEnd_26 : decode cX11_wayEnd 26 = .ok (.bipush 10, 2) := dq daX11_wayEnd_13_0 16 rfl
theorem dX11_wayEnd_28 : decode cX11_wayEnd 28 = .ok (.iload_n 2, 1) := dq daX11_wayEnd_13_0 17 rfl
theorem dX11_wayEnd_29 : decode cX11_wayEnd 29 = .ok (.iadd, 1) := dq daX11_wayEnd_13_0 18 rfl
theorem dX11_wayEnd_30 : decode cX11_wayEnd 30 = .ok (.iaload, 1) := dq daX11_wayEnd_13_0 19 rfl
theorem dX11_wayEnd_31 : decode cX11_wayEnd 31 = .ok (.iload_n 1, 1) := dq daX11_wayEnd_13_0 20 rfl
theorem dX11_wayEnd_32 : decode cX11_wayEnd 32 = .ok (.invokevirtual 309, 3) := dq daX11_wayEnd_13_0 21 rfl
theorem dX11_wayEnd_35 : decode cX11_wayEnd 35 = .ok (.istore_n 1, 1) := dq daX11_wayEnd_13_0 22 rfl
theorem dX11_wayEnd_36 : decode cX11_wayEnd 36 = .ok (.iinc 2 1, 3) := dq daX11_wayEnd_13_0 23 rfl
theorem dX11_wayEnd_39 : decode cX11_wayEnd 39 = .ok (.goto (-29), 3) := dq daX11_wayEnd_13_0 24 rfl
theorem dX11_wayEnd_42 : decode cX11_wayEnd 42 = .ok (.iload_n 1, 1) := dq daX11_wayEnd_13_0 25 rfl
theorem dX11_wayEnd_43 : decode cX11_wayEnd 43 = .ok (.ireturn, 1) := dq daX11_wayEnd_13_0 26 rfl
def dtX11_isOfWay_13_0 : List (Nat × Jvm.ClassFile.Instr × Nat) := [(0, .aload_n 0, 1), (1, .getfield 39, 3), (4, .bipush 8, 2), (6, .iaload, 1), (7, .istore_n 2, 1), (8, .iload_n 2, 1), (9, .iload_n 1, 1), (10, .if_icmp .ne 7, 3), (17, .iconst 0, 1), (18, .istore_n 3, 1), (19, .iconst 0, 1), (20, .istore 4, 2), (22, .iload 4, 2), (24, .aload_n 0, 1), (25, .getfield 39, 3), (28, .bipush 9, 2), (30, .iaload, 1), (31, .if_icmp .ge 40, 3), (34, .aload_n 0, 1), (35, .aload_n 0, 1), (36, .getfield 39, 3), (39, .bipush 10, 2), (41, .iload 4, 2), (43, .iadd, 1), (44, .iaload, 1), (45, .iload_n 2, 1), (46, .invokevirtual 309, 3), (49, .istore_n 2, 1), (50, .iload_n 3, 1), (51, .ifCond .ne 8, 3), (54, .iload_n 2, 1), (55, .iload_n 1, 1)]
theorem daX11_isOfWay_13_0 : dtX11_isOfWay_13_0.all (dqd cX11_isOfWay) = true := by decide +kernel
theorem dX11_isOfWay_0 : decode cX11_isOfWay 0 = .ok (.aload_n 0, 1) := dq daX11_isOfWay_13_0 0 rfl
theorem dX11_isOfWay_1 : decode cX11_isOfWay 1 = .ok (.getfield 39, 3) := dq daX11_isOfWay_13_0 1 rfl
theorem dX11_isOfWay_4 : decode cX11_isOfWay 4 = .ok (.bipush 8, 2) := dq daX11_isOfWay_13_0 2 rfl
theorem dX11_isOfWay_6 : decode cX11_isOfWay 6 = .ok (.iaload, 1) := dq daX11_isOfWay_13_0 3 rfl
theorem dX11_isOfWay_7 : decode cX11_isOfWay 7 = .ok (.istore_n 2, 1) := dq daX11_isOfWay_13_0 4 rfl
theorem dX11_isOfWay_8 : decode cX11_isOfWay 8 = .ok (.iload_n 2, 1) := dq daX11_isOfWay_13_0 5 rfl
theorem dX11_isOfWay_9 : decode cX11_isOfWay 9 = .ok (.iload_n 1, 1) := dq daX11_isOfWay_13_0 6 rfl
theorem dX11_isOfWay_10 : decode cX11_isOfWay 10 = .ok (.if_icmp .ne 7, 3) := dq daX11_isOfWay_13_0 7 rfl
theorem dX11_isOfWay_17 : decode cX11_isOfWay 17 = .ok (.iconst 0, 1) := dq daX11_isOfWay_13_0 8 rfl
theorem dX11_isOfWay_18 : decode cX11_isOfWay 18 = .ok (.istore_n 3, 1) := dq daX11_isOfWay_13_0 9 rfl
theorem dX11_isOfWay_19 : decode cX11_isOfWay 19 = .ok (.iconst 0, 1) := dq daX11_isOfWay_13_0 10 rfl
theorem dX11_isOfWay_20 : decode cX11_isOfWay 20 = .ok (.istore 4, 2) := dq daX11_isOfWay_13_0 11 rfl
theorem dX11_isOfWay_22 : decode cX11_isOfWay 22 = .ok (.iload 4, 2) := dq daX11_isOfWay_13_0 12 rfl
theorem dX11_isOfWay_24 : decode cX11_isOfWay 24 = .ok (.aload_n 0, 1) := dq daX11_isOfWay_13_0 13 rfl
theorem dX11_isOfWay_25 : decode cX11_isOfWay 25 = .ok (.getfield 39, 3) := dq daX11_isOfWay_13_0 14 rfl
theorem dX11_isOfWay_28 : decode cX11_isOfWay 28 = .ok (.bipush 9, 2) := dq daX11_isOfWay_13_0 15 rfl
theorem dX11_isOfWay_30 : decode cX11_isOfWay 30 = .ok (.iaload, 1) := dq daX11_isOfWay_13_0 16 rfl
theorem dX11_isOfWay_31 : decode cX11_isOfWay 31 = .ok (.if_icmp .ge 40, 3) := dq daX11_isOfWay_13_0 17 rfl
theorem dX11_isOfWay_34 : decode cX11_isOfWay 34 = .ok (.aload_n 0, 1) := dq daX11_isOfWay_13_0 18 rfl
theorem dX11_isOfWay_35 : decode cX11_isOfWay 35 = .ok (.aload_n 0, 1) := dq daX11_isOfWay_13_0 19 rfl
theorem dX11_isOfWay_36 : decode cX11_isOfWay 36 = .ok (.getfield 39, 3) := dq daX11_isOfWay_13_0 20 rfl
theorem dX11_isOfWay_39 : decode cX11_isOfWay 39 = .ok (.bipush 10, 2) := dq daX11_isOfWay_13_0 21 rfl
theorem dX11_isOfWay_41 : decode cX11_isOfWay 41 = .ok (.iload 4, 2) := dq daX11_isOfWay_13_0 22 rfl
theorem dX11_isOfWay_43 : decode cX11_isOfWay 43 = .ok (.iadd, 1) := dq daX11_isOfWay_13_0 23 rfl
theorem dX11_isOfWay_44 : decode cX11_isOfWay 44 = .ok (.iaload, 1) := dq daX11_isOfWay_13_0 24 rfl
theorem dX11_isOfWay_45 : decode cX11_isOfWay 45 = .ok (.iload_n 2, 1) := dq daX11_isOfWay_13_0 25 rfl
theorem dX11_isOfWay_46 : decode cX11_isOfWay 46 = .ok (.invokevirtual 309, 3) := dq daX11_isOfWay_13_0 26 rfl
theorem dX11_isOfWay_49 : decode cX11_isOfWay 49 = .ok (.istore_n 2, 1) := dq daX11_isOfWay_13_0 27 rfl
theorem dX11_isOfWay_50 : decode cX11_isOfWay 50 = .ok (.iload_n 3, 1) := dq daX11_isOfWay_13_0 28 rfl
theorem dX11_isOfWay_51 : decode cX11_isOfWay 51 = .ok (.ifCond .ne 8, 3) := dq daX11_isOfWay_13_0 29 rfl
theorem dX11_isOfWay_54 : decode cX11_isOfWay 54 = .ok (.iload_n 2, 1) := dq daX11_isOfWay_13_0 30 rfl
theorem dX11_isOfWay_55 : decode cX11_isOfWay 55 = .ok (.iload_n 1, 1) := dq daX11_isOfWay_13_0 31 rfl
def dtX11_isOfWay_13_1 : List (Nat × Jvm.ClassFile.Instr × Nat) := [(56, .if_icmp .ne 7, 3), (63, .iconst 0, 1), (64, .istore_n 3, 1), (65, .iinc 4 1, 3), (68, .goto (-46), 3), (59, .iconst 1, 1), (60, .goto 4, 3), (71, .iload_n 3, 1), (72, .ireturn, 1), (13, .iconst 1, 1), (14, .goto 4, 3)]
theorem daX11_isOfWay_13_1 : dtX11_isOfWay_13_1.all (dqd cX11_isOfWay) = true := by decide +kernel
theorem dX11_isOfWay_56 : decode cX11_isOfWay 56 = .ok (.if_icmp .ne 7, 3) := dq daX11_isOfWay_13_1 0 rfl
theorem dX11_isOfWay_63 : decode cX11_isOfWay 63 = .ok (.iconst 0, 1) := dq daX11_isOfWay_13_1 1 rfl
theorem dX11_isOfWay_64 : decode cX11_isOfWay 64 = .ok (.istore_n 3, 1) := dq daX11_isOfWay_13_1 2 rfl
theorem dX11_isOfWay_65 : decode cX11_isOfWay 65 = .ok (.iinc 4 1, 3) := dq daX11_isOfWay_13_1 3 rfl
theorem dX11_isOfWay_68 : decode cX11_isOfWay 68 = .ok (.goto (-46), 3) := dq daX11_isOfWay_13_1 4 rfl
theorem dX11_isOfWay_59 : decode cX11_isOfWay 59 = .ok (.iconst 1, 1) := dq daX11_isOfWay_13_1 5 rfl
theorem dX11_isOfWay_60 : decode cX11_isOfWay 60 = .ok (.goto 4, 3) := dq daX11_isOfWay_13_1 6 rfl
theorem dX11_isOfWay_71 : decode cX11_isOfWay 71 = .ok (.iload_n 3, 1) := dq daX11_isOfWay_13_1 7 rfl
theorem dX11_isOfWay_72 : decode cX11_isOfWay 72 = .ok (.ireturn, 1) := dq daX11_isOfWay_13_1 8 rfl
theorem dX11_isOfWay_13 : decode cX11_isOfWay 13 = .ok (.iconst 1, 1) := dq daX11_isOfWay_13_1 9 rfl
theorem dX11_isOfWay_14 : decode cX11_isOfWay 14 = .ok (.goto 4, 3) := dq daX11_isOfWay_13_1 10 rfl
set_option maxRecDepth 100000 in
def fb_mX11_at_68 (saidF : Nat → Int32) (zj : Int32) (p0 : Int32) (E104 : Int32 → Int32 → Int32) (K : Int32 → Int32 → Int32) (l68_0 : Int32) (l68_1 : Int32) : Int32 := if zj ≤ l68_0 then (E104 l68_0 l68_1) else (if (saidF ((168 + (9 * l68_0)) + 5).toNatClampNeg) = p0 then (bnd ((l68_1 + 1)) (fun (xy68_10 : Int32) => bnd ((l68_0 + 1)) (fun (xy68_11 : Int32) => K xy68_11 xy68_10))) else (bnd ((l68_1 + 0)) (fun (xy68_8 : Int32) => bnd ((l68_0 + 1)) (fun (xy68_9 : Int32) => K xy68_9 xy68_8))))
def fl_mX11_at_68 (saidF : Nat → Int32) (zj : Int32) (p0 : Int32) (E104 : Int32 → Int32 → Int32) : Nat → Int32 → Int32 → Int32
  | 0, _, _ => 0
  | n + 1, l68_0, l68_1 => fb_mX11_at_68 saidF zj p0 E104 (fl_mX11_at_68 saidF zj p0 E104 n) l68_0 l68_1
set_option maxHeartbeats 4000000 in
set_option maxRecDepth 100000 in
theorem lp_mX11_at_68 {p : Program} {l : Launch} {e : Env} {R : Room} {s : State} {m : MethodId} {args : Array Value} {below : List Frame} {meth : Method} {c : Code} {Q : State → Prop} {dC : Nat → ClassId} {dI : Nat → Nat → Nat} {kA : Nat → ClassId} {A : Nat → Prop} {H0 : Heap} {cells slots : Nat} (hx : p.tables.exec = Jvm.exec) (hb : c.code = cX11_at) (hml : c.maxLocals = 5) (hts : ∀ w ∈ wsX11_at, w.before args s = true) (hown : s.vm.findClass RX11 = some m.cls) (hK : zK dC dI kA s) (hA : ∀ q, H0.size ≤ q → A q) (hRf : 1 ≤ R.frames) (hRl : 22 ≤ R.locals) (hRc : cells ≤ R.cells) (hRs : slots ≤ R.slots) (n0 : Nat) (m_taped : Int32) (m_laws : Int32) (m_next : Int32) (m_wrong : Int32) (m_number : Int32) (m_text : Int32) (m_made : Int32) (m_deep : Int32) (m_lines : Int32) (m_opened : Int32) (m_top : Int32) (m_goNode : Int32) (m_goDrops : Int32) (m_goHour : Int32) (m_goFelt : Int32) (m_goSalt : Int32) (m_goMore : Int32) (m_bestLeft : Int32) (m_bestHour : Int32) (m_bestMany : Int32) (a_tape : Nat) (a_sign : Nat) (a_length : Nat) (a_clause : Nat) (a_clauses : Nat) (a_chain : Nat) (a_open : Nat) (a_stack : Nat) (a_word : Nat) (a_said : Nat) (a_kept : Nat) (a_stepNode : Nat) (a_stepDrops : Nat) (a_stepHour : Nat) (a_stepNext : Nat) (a_stepPass : Nat) (a_bestPass : Nat) (a_far : Nat) (a_waited : Nat) (a_servers : Nat) (a_images : Nat) (a_isMade : Nat) (saidF : Nat → Int32) (zn : Int32) (zp : Int32) (zj : Int32) (zo : Int32) (zf : Int32) (zm : Int32) (zk : Int32) (zw : Int32) (pd : Nat → Int32) (p0 : Int32) (p1 : Int32) {G : Int32} {E104 : Int32 → Int32 → Int32} (hsc : SC saidF zn zp zj zo zf zm zk zw pd) (hz1 : (saidF 0) = zn) (hz2 : (saidF 1) = zp) (hz3 : (saidF 2) = zj) (hz4 : (saidF 3) = zo) (hz5 : (saidF 4) = zf) (hz6 : (saidF 6) = zm) (hz7 : (saidF 8) = zk) (hz8 : (saidF 9) = zw) (hz9 : ¬ zn < 0) (hz10 : ¬ 12 < zn) (hz11 : ¬ zp < 0) (hz12 : ¬ 20 < zp) (hz13 : ¬ zj < 0) (hz14 : ¬ 16 < zj) (hz15 : ¬ zo < 0) (hz16 : ¬ 6 < zo) (hz17 : ¬ zf < 0) (hz18 : ¬ 8 < zf) (hz19 : ¬ zk < (-1)) (hz20 : ¬ 12 ≤ zk) (hz21 : ¬ zw < 0) (hz22 : ¬ 6 < zw) (c_26 : ¬ (hs p0 zn) = 0) (c_26a : ¬ p0 < 0) (c_26b : ¬ zn ≤ p0) (c_30 : ¬ (li p1.toInt64 0 5) = 0) (c_30a : ¬ p1 < 0) (c_30b : ¬ 5 < p1) (c_31 : 4 ≤ p1) (c_32 : ¬ p1 = 4) (k104 : ∀ (w104_0 : Int32) (w104_1 : Int32) (H : Heap) (locs : List Loc) (ls : Array Slot), ¬ w104_0 < 0 → E104 w104_0 w104_1 = G → va_P (dC, dI) vwCl [(n0, .inr (11, .ref a_tape :: .int m_taped :: .int m_laws :: .ref a_sign :: .ref a_length :: .ref a_clause :: .ref a_clauses :: .ref a_chain :: .int m_next :: .int m_wrong :: .int m_number :: .int m_text :: .int m_made :: .int m_deep :: .int m_lines :: .ref a_open :: .int m_opened :: .ref a_stack :: .int m_top :: .ref a_word :: .ref a_said :: .ref a_kept :: [.int m_goNode, .int m_goDrops, .int m_goHour, .int m_goFelt, .int m_goSalt, .int m_goMore, .ref a_stepNode, .ref a_stepDrops, .ref a_stepHour, .ref a_stepNext, .ref a_stepPass, .int m_bestLeft, .int m_bestHour, .int m_bestMany, .ref a_bestPass, .ref a_far, .ref a_waited, .ref a_servers, .ref a_images, .ref a_isMade])), (a_said, .inl (kA 0, 360, .inl saidF))] H → va_D A [(n0, .inr (11, .ref a_tape :: .int m_taped :: .int m_laws :: .ref a_sign :: .ref a_length :: .ref a_clause :: .ref a_clauses :: .ref a_chain :: .int m_next :: .int m_wrong :: .int m_number :: .int m_text :: .int m_made :: .int m_deep :: .int m_lines :: .ref a_open :: .int m_opened :: .ref a_stack :: .int m_top :: .ref a_word :: .ref a_said :: .ref a_kept :: [.int m_goNode, .int m_goDrops, .int m_goHour, .int m_goFelt, .int m_goSalt, .int m_goMore, .ref a_stepNode, .ref a_stepDrops, .ref a_stepHour, .ref a_stepNext, .ref a_stepPass, .int m_bestLeft, .int m_bestHour, .int m_bestMany, .ref a_bestPass, .ref a_far, .ref a_waited, .ref a_servers, .ref a_images, .ref a_isMade])), (a_said, .inl (kA 0, 360, .inl saidF))] → va_S A H0 H locs → lv_has ls 5 [(4, .int w104_0), (3, .int w104_1), (0, .ref n0), (1, .int p0), (2, .int p1)] → W p l e R s m args below meth c H locs cells slots Q (F0 m 104 ls []))  : ∀ (n : Nat) (l68_0 : Int32) (l68_1 : Int32) (H : Heap) (locs : List Loc) (ls : Array Slot), ((zj : Int32).toInt - l68_0.toInt).toNat < n → fl_mX11_at_68 saidF zj p0 E104 n l68_0 l68_1 = G → ¬ l68_0 < 0 → va_P (dC, dI) vwCl [(n0, .inr (11, .ref a_tape :: .int m_taped :: .int m_laws :: .ref a_sign :: .ref a_length :: .ref a_clause :: .ref a_clauses :: .ref a_chain :: .int m_next :: .int m_wrong :: .int m_number :: .int m_text :: .int m_made :: .int m_deep :: .int m_lines :: .ref a_open :: .int m_opened :: .ref a_stack :: .int m_top :: .ref a_word :: .ref a_said :: .ref a_kept :: [.int m_goNode, .int m_goDrops, .int m_goHour, .int m_goFelt, .int m_goSalt, .int m_goMore, .ref a_stepNode, .ref a_stepDrops, .ref a_stepHour, .ref a_stepNext, .ref a_stepPass, .int m_bestLeft, .int m_bestHour, .int m_bestMany, .ref a_bestPass, .ref a_far, .ref a_waited, .ref a_servers, .ref a_images, .ref a_isMade])), (a_said, .inl (kA 0, 360, .inl saidF))] H → va_D A [(n0, .inr (11, .ref a_tape :: .int m_taped :: .int m_laws :: .ref a_sign :: .ref a_length :: .ref a_clause :: .ref a_clauses :: .ref a_chain :: .int m_next :: .int m_wrong :: .int m_number :: .int m_text :: .int m_made :: .int m_deep :: .int m_lines :: .ref a_open :: .int m_opened :: .ref a_stack :: .int m_top :: .ref a_word :: .ref a_said :: .ref a_kept :: [.int m_goNode, .int m_goDrops, .int m_goHour, .int m_goFelt, .int m_goSalt, .int m_goMore, .ref a_stepNode, .ref a_stepDrops, .ref a_stepHour, .ref a_stepNext, .ref a_stepPass, .int m_bestLeft, .int m_bestHour, .int m_bestMany, .ref a_bestPass, .ref a_far, .ref a_waited, .ref a_servers, .ref a_images, .ref a_isMade])), (a_said, .inl (kA 0, 360, .inl saidF))] → va_S A H0 H locs → lv_has ls 5 [(4, .int l68_0), (3, .int l68_1), (0, .ref n0), (1, .int p0), (2, .int p1)] → W p l e R s m args below meth c H locs cells slots Q (F0 m 68 ls []) := by
  intro n
  induction n with
  | zero =>
    intro l68_0 l68_1 H locs ls hn
    exact absurd hn (Nat.not_lt_zero _)
  | succ n ih =>
    intro l68_0 l68_1 H locs ls hn hG hi68 hP hD hS hl
    have hG : fb_mX11_at_68 saidF zj p0 E104 (fl_mX11_at_68 saidF zj p0 E104 n) l68_0 l68_1 = G := hG
    unfold fb_mX11_at_68 at hG
    refine lv_iload hx hb dX11_at_68 (lv_at hl 0 rfl) ?_
    refine lv_aload_n hx hb dX11_at_70 rfl (lv_at hl 2 rfl) ?_
    refine va_get (D := (dC, dI)) (ci := 11) (v := .ref a_said) (C := RX11) (T := TX11) (N := 42) hx hb hts iX11_at_X11 hown hK.1 hP 0 gz0 vcz11 20 (by decide) (kX11_at_2 hts) (fun _ h9 => h9) gz20 dX11_at_71 ?_
    refine lv_iconst (v := 2) hx hb dX11_at_74 (by decide) ?_
    refine va_iald hx hb hK.1 hP 1 0 gz1 tzz0 (vpd (by decide)) dX11_at_75 ?_
    refine zi zj hz3 ?_
    refine lv_icmp_ge (tgt := 104) hx hb dX11_at_76 (by decide) (fun c_y68_1 => ?_) (fun c_y68_1 => ?_)
    · have hG := zthen hG c_y68_1
      exact k104 l68_0 l68_1 H locs ls hi68 hG (hP.sub [0, 1] rfl) (hD.sub [0, 1] (by decide) rfl) hS (lv_sub hl [0, 1, 2, 3, 4] rfl)
    · have hG := zelse hG c_y68_1
      refine lv_iload_n hx hb dX11_at_79 rfl (lv_at hl 1 rfl) ?_
      refine lv_aload_n hx hb dX11_at_80 rfl (lv_at hl 2 rfl) ?_
      refine lv_iload hx hb dX11_at_81 (lv_at hl 0 rfl) ?_
      refine lv_iconst (v := 5) hx hb dX11_at_83 (by decide) ?_
      refine z_i (wr := []) (va_runV (As := [.int l68_0, .int 5]) (rest := [.int l68_1]) ⟨hx, hb, hml, hown, hts⟩ (mX11_jarOf_5 l dC dI kA _ n0 m_taped m_laws m_next m_wrong m_number m_text m_made m_deep m_lines m_opened m_top m_goNode m_goDrops m_goHour m_goFelt m_goSalt m_goMore m_bestLeft m_bestHour m_bestMany a_tape a_sign a_length a_clause a_clauses a_chain a_open a_stack a_word a_said a_kept a_stepNode a_stepDrops a_stepHour a_stepNext a_stepPass a_bestPass a_far a_waited a_servers a_images a_isMade saidF zn zp zj zo zf zm zk zw pd l68_0 hsc hi68 (z_tr c_y68_1 hz14)) (cwV 2 hts gX11_at_X11_jarOf rfl rfl rfl ⟨rfl, hdX11_jarOf⟩ ⟨(Nat.le_trans (Nat.le_of_ble_eq_true rfl) hRf), (Nat.le_trans (Nat.le_of_ble_eq_true rfl) hRl)⟩) ⟨zPc.blind, va_recv (q := (RX11, TX11, 42)) hK.1 hP (ci := 11) (q0 := 0) rfl rfl, zPre hK (hP.sub [0, 1] rfl) (hD.sub [0, 1] (by decide) rfl)⟩ rfl rfl hl.1 rfl (lv_room (Nat.le_of_ble_eq_true rfl)) dX11_at_84 ⟨hRc, hRs⟩) hP hD hS hA [0, 1] [] rfl rfl (by decide) (by decide) (fun ry68_4 uy68_2 H locs hwy68_3 hP hD hS => ?_)
      obtain ⟨rfl, hpy68_5, hpy68_6⟩ := hwy68_3
      obtain ⟨hP, hD⟩ := z_re (L := [(n0, .inr (11, .ref a_tape :: .int m_taped :: .int m_laws :: .ref a_sign :: .ref a_length :: .ref a_clause :: .ref a_clauses :: .ref a_chain :: .int m_next :: .int m_wrong :: .int m_number :: .int m_text :: .int m_made :: .int m_deep :: .int m_lines :: .ref a_open :: .int m_opened :: .ref a_stack :: .int m_top :: .ref a_word :: .ref a_said :: .ref a_kept :: [.int m_goNode, .int m_goDrops, .int m_goHour, .int m_goFelt, .int m_goSalt, .int m_goMore, .ref a_stepNode, .ref a_stepDrops, .ref a_stepHour, .ref a_stepNext, .ref a_stepPass, .int m_bestLeft, .int m_bestHour, .int m_bestMany, .ref a_bestPass, .ref a_far, .ref a_waited, .ref a_servers, .ref a_images, .ref a_isMade])), (a_said, .inl (kA 0, 360, .inl saidF))]) hP hD
      refine lv_iload_n hx hb dX11_at_87 rfl (lv_at hl 3 rfl) ?_
      refine lv_icmp_ne (tgt := 95) hx hb dX11_at_88 (by decide) (fun c_y68_7 => ?_) (fun c_y68_7 => ?_)
      · have hG := zelse hG c_y68_7
        refine lv_iconst (v := 0) hx hb dX11_at_95 (by decide) ?_
        refine lv_iadd hx hb dX11_at_96 ?_
        refine lv_topi (fun xy68_8 exy68_8 => ?_)
        have hG := zbnd hG exy68_8
        refine lv_istore_n (lv' := [(3, .int xy68_8), (4, .int l68_0), (0, .ref n0), (1, .int p0), (2, .int p1)]) hx hb dX11_at_97 rfl hl (by decide) rfl (fun ls hl => ?_)
        obtain ⟨xy68_9, exy68_9⟩ : ∃ y : Int32, y = l68_0 + 1 := ⟨_, rfl⟩
        have hG := zbnd hG exy68_9
        refine lv_iinc (v := xy68_9) (lv' := [(4, .int xy68_9), (3, .int xy68_8), (0, .ref n0), (1, .int p0), (2, .int p1)]) hx hb dX11_at_98 hl (k := 1) rfl (by rw [exy68_9]; rfl) (by decide) rfl (fun ls hl => ?_)
        refine lv_goto (tgt := 68) hx hb dX11_at_101 (by decide) ?_
        exact ih xy68_9 xy68_8 H locs ls (z_up hn exy68_9 c_y68_1) hG (z_nn exy68_9 c_y68_1 hi68) (hP.sub [0, 1] rfl) (hD.sub [0, 1] (by decide) rfl) hS (lv_sub hl [0, 1, 2, 3, 4] rfl)
      · have hG := zthen hG c_y68_7
        refine lv_iconst (v := 1) hx hb dX11_at_91 (by decide) ?_
        refine lv_goto (tgt := 96) hx hb dX11_at_92 (by decide) ?_
        refine lv_iadd hx hb dX11_at_96 ?_
        refine lv_topi (fun xy68_10 exy68_10 => ?_)
        have hG := zbnd hG exy68_10
        refine lv_istore_n (lv' := [(3, .int xy68_10), (4, .int l68_0), (0, .ref n0), (1, .int p0), (2, .int p1)]) hx hb dX11_at_97 rfl hl (by decide) rfl (fun ls hl => ?_)
        obtain ⟨xy68_11, exy68_11⟩ : ∃ y : Int32, y = l68_0 + 1 := ⟨_, rfl⟩
        have hG := zbnd hG exy68_11
        refine lv_iinc (v := xy68_11) (lv' := [(4, .int xy68_11), (3, .int xy68_10), (0, .ref n0), (1, .int p0), (2, .int p1)]) hx hb dX11_at_98 hl (k := 1) rfl (by rw [exy68_11]; rfl) (by decide) rfl (fun ls hl => ?_)
        refine lv_goto (tgt := 68) hx hb dX11_at_101 (by decide) ?_
        exact ih xy68_11 xy68_10 H locs ls (z_up hn exy68_11 c_y68_1) hG (z_nn exy68_11 c_y68_1 hi68) (hP.sub [0, 1] rfl) (hD.sub [0, 1] (by decide) rfl) hS (lv_sub hl [0, 1, 2, 3, 4] rfl)
theorem gl_mX11_at_0 (zn : Int32) (p0 : Int32) (h0 : ¬ zn < 0) (h1 : ¬ 12 < zn) (h2 : ¬ p0 < 0) (h3 : ¬ zn ≤ p0) : ¬ p0 < (-1) := by grind
theorem gl_mX11_at_1 (zn : Int32) (p0 : Int32) (h0 : ¬ zn < 0) (h1 : ¬ 12 < zn) (h2 : ¬ p0 < 0) (h3 : ¬ zn ≤ p0) : ¬ 12 < p0 := by grind
set_option maxRecDepth 100000 in
def fX11_at (saidF : Nat → Int32) (zn : Int32) (zj : Int32) (zm : Int32) (p0 : Int32) (p1 : Int32) : Int32 := if (hs p0 zn) = 0 then ((-1)) else (if (li p1.toInt64 0 5) = 0 then ((-1)) else (if 4 ≤ p1 then (if p1 = 4 then (bnd (fX11_monthAt zm (saidF 5)) (fun (r35 : Int32) => bnd (fX11_hasSnow saidF p0 r35) (fun (r42 : Int32) => if r42 = 0 then (0) else (1)))) else (fl_mX11_at_68 saidF zj p0 (fun (w104_0_0 : Int32) (w104_1_0 : Int32) => w104_1_0) (((zj : Int32).toInt - (0 : Int32).toInt).toNat + 1) 0 0)) else ((saidF ((20 + (4 * p0)) + p1).toNatClampNeg))))
set_option maxHeartbeats 4000000 in
set_option maxRecDepth 100000 in
theorem mX11_at (l : Launch) (dC : Nat → ClassId) (dI : Nat → Nat → Nat) (kA : Nat → ClassId) (sz : Nat) (n0 : Nat) (m_taped : Int32) (m_laws : Int32) (m_next : Int32) (m_wrong : Int32) (m_number : Int32) (m_text : Int32) (m_made : Int32) (m_deep : Int32) (m_lines : Int32) (m_opened : Int32) (m_top : Int32) (m_goNode : Int32) (m_goDrops : Int32) (m_goHour : Int32) (m_goFelt : Int32) (m_goSalt : Int32) (m_goMore : Int32) (m_bestLeft : Int32) (m_bestHour : Int32) (m_bestMany : Int32) (a_tape : Nat) (a_sign : Nat) (a_length : Nat) (a_clause : Nat) (a_clauses : Nat) (a_chain : Nat) (a_open : Nat) (a_stack : Nat) (a_word : Nat) (a_said : Nat) (a_kept : Nat) (a_stepNode : Nat) (a_stepDrops : Nat) (a_stepHour : Nat) (a_stepNext : Nat) (a_stepPass : Nat) (a_bestPass : Nat) (a_far : Nat) (a_waited : Nat) (a_servers : Nat) (a_images : Nat) (a_isMade : Nat) (saidF : Nat → Int32) (zn : Int32) (zp : Int32) (zj : Int32) (zo : Int32) (zf : Int32) (zm : Int32) (zk : Int32) (zw : Int32) (pd : Nat → Int32) (p0 : Int32) (p1 : Int32) (hsc : SC saidF zn zp zj zo zf zm zk zw pd) : Met l yX11_at wsX11_at ({ frames := 2, cells := 0, slots := 0, locals := 44 }) (zPc dC dI kA sz [.ref n0, .int p0, .int p1] [(n0, .inr (11, .ref a_tape :: .int m_taped :: .int m_laws :: .ref a_sign :: .ref a_length :: .ref a_clause :: .ref a_clauses :: .ref a_chain :: .int m_next :: .int m_wrong :: .int m_number :: .int m_text :: .int m_made :: .int m_deep :: .int m_lines :: .ref a_open :: .int m_opened :: .ref a_stack :: .int m_top :: .ref a_word :: .ref a_said :: .ref a_kept :: [.int m_goNode, .int m_goDrops, .int m_goHour, .int m_goFelt, .int m_goSalt, .int m_goMore, .ref a_stepNode, .ref a_stepDrops, .ref a_stepHour, .ref a_stepNext, .ref a_stepPass, .int m_bestLeft, .int m_bestHour, .int m_bestMany, .ref a_bestPass, .ref a_far, .ref a_waited, .ref a_servers, .ref a_images, .ref a_isMade])), (a_said, .inl (kA 0, 360, .inl saidF))]) (va_Qi (fun (r : Int32) (u : Int32) => r = u ∧ u = fX11_at saidF zn zj zm p0 p1) (zB dC dI (va_A [(n0, .inr (11, .ref a_tape :: .int m_taped :: .int m_laws :: .ref a_sign :: .ref a_length :: .ref a_clause :: .ref a_clauses :: .ref a_chain :: .int m_next :: .int m_wrong :: .int m_number :: .int m_text :: .int m_made :: .int m_deep :: .int m_lines :: .ref a_open :: .int m_opened :: .ref a_stack :: .int m_top :: .ref a_word :: .ref a_said :: .ref a_kept :: [.int m_goNode, .int m_goDrops, .int m_goHour, .int m_goFelt, .int m_goSalt, .int m_goMore, .ref a_stepNode, .ref a_stepDrops, .ref a_stepHour, .ref a_stepNext, .ref a_stepPass, .int m_bestLeft, .int m_bestHour, .int m_bestMany, .ref a_bestPass, .ref a_far, .ref a_waited, .ref a_servers, .ref a_images, .ref a_isMade])), (a_said, .inl (kA 0, 360, .inl saidF))] sz) (fun (u : Int32) => [(n0, .inr (11, .ref a_tape :: .int m_taped :: .int m_laws :: .ref a_sign :: .ref a_length :: .ref a_clause :: .ref a_clauses :: .ref a_chain :: .int m_next :: .int m_wrong :: .int m_number :: .int m_text :: .int m_made :: .int m_deep :: .int m_lines :: .ref a_open :: .int m_opened :: .ref a_stack :: .int m_top :: .ref a_word :: .ref a_said :: .ref a_kept :: [.int m_goNode, .int m_goDrops, .int m_goHour, .int m_goFelt, .int m_goSalt, .int m_goMore, .ref a_stepNode, .ref a_stepDrops, .ref a_stepHour, .ref a_stepNext, .ref a_stepPass, .int m_bestLeft, .int m_bestHour, .int m_bestMany, .ref a_bestPass, .ref a_far, .ref a_waited, .ref a_servers, .ref a_images, .ref a_isMade])), (a_said, .inl (kA 0, 360, .inl saidF))])) (va_A [(n0, .inr (11, .ref a_tape :: .int m_taped :: .int m_laws :: .ref a_sign :: .ref a_length :: .ref a_clause :: .ref a_clauses :: .ref a_chain :: .int m_next :: .int m_wrong :: .int m_number :: .int m_text :: .int m_made :: .int m_deep :: .int m_lines :: .ref a_open :: .int m_opened :: .ref a_stack :: .int m_top :: .ref a_word :: .ref a_said :: .ref a_kept :: [.int m_goNode, .int m_goDrops, .int m_goHour, .int m_goFelt, .int m_goSalt, .int m_goMore, .ref a_stepNode, .ref a_stepDrops, .ref a_stepHour, .ref a_stepNext, .ref a_stepPass, .int m_bestLeft, .int m_bestHour, .int m_bestMany, .ref a_bestPass, .ref a_far, .ref a_waited, .ref a_servers, .ref a_images, .ref a_isMade])), (a_said, .inl (kA 0, 360, .inl saidF))] sz)) 0 0 (va_A [(n0, .inr (11, .ref a_tape :: .int m_taped :: .int m_laws :: .ref a_sign :: .ref a_length :: .ref a_clause :: .ref a_clauses :: .ref a_chain :: .int m_next :: .int m_wrong :: .int m_number :: .int m_text :: .int m_made :: .int m_deep :: .int m_lines :: .ref a_open :: .int m_opened :: .ref a_stack :: .int m_top :: .ref a_word :: .ref a_said :: .ref a_kept :: [.int m_goNode, .int m_goDrops, .int m_goHour, .int m_goFelt, .int m_goSalt, .int m_goMore, .ref a_stepNode, .ref a_stepDrops, .ref a_stepHour, .ref a_stepNext, .ref a_stepPass, .int m_bestLeft, .int m_bestHour, .int m_bestMany, .ref a_bestPass, .ref a_far, .ref a_waited, .ref a_servers, .ref a_images, .ref a_isMade])), (a_said, .inl (kA 0, 360, .inl saidF))] sz) := by
  refine Met.ofW (cc := cX11_at) (maxL := 5) (ret := (some .int)) pnX11 rfl ?_
  intro p e s m args below meth c s₁ B hml hv
  obtain ⟨rfl, hsz, hP, hK, hD0⟩ := hv
  have hx := B.exec
  have hb := B.bytes
  have hr := B.returns
  have hts := atoms_spec (ws := wsX11_at) B.pre
  have hown : s.vm.findClass RX11 = some m.cls := findClass_of_methodNamed B.named
  have hlocks := B.notSynchronized
  subst hsz
  have hD := hD0.self (sz := s.heap.size)
  generalize hAe : va_A [(n0, .inr (11, .ref a_tape :: .int m_taped :: .int m_laws :: .ref a_sign :: .ref a_length :: .ref a_clause :: .ref a_clauses :: .ref a_chain :: .int m_next :: .int m_wrong :: .int m_number :: .int m_text :: .int m_made :: .int m_deep :: .int m_lines :: .ref a_open :: .int m_opened :: .ref a_stack :: .int m_top :: .ref a_word :: .ref a_said :: .ref a_kept :: [.int m_goNode, .int m_goDrops, .int m_goHour, .int m_goFelt, .int m_goSalt, .int m_goMore, .ref a_stepNode, .ref a_stepDrops, .ref a_stepHour, .ref a_stepNext, .ref a_stepPass, .int m_bestLeft, .int m_bestHour, .int m_bestMany, .ref a_bestPass, .ref a_far, .ref a_waited, .ref a_servers, .ref a_images, .ref a_isMade])), (a_said, .inl (kA 0, 360, .inl saidF))] s.heap.size = A at hD ⊢
  have hA : ∀ q : Nat, s.heap.size ≤ q → A q := zA_of hAe
  have hS : va_S A s.heap s.heap [] := va_S.rf
  have hP : va_P (dC, dI) vwCl [(n0, .inr (11, .ref a_tape :: .int m_taped :: .int m_laws :: .ref a_sign :: .ref a_length :: .ref a_clause :: .ref a_clauses :: .ref a_chain :: .int m_next :: .int m_wrong :: .int m_number :: .int m_text :: .int m_made :: .int m_deep :: .int m_lines :: .ref a_open :: .int m_opened :: .ref a_stack :: .int m_top :: .ref a_word :: .ref a_said :: .ref a_kept :: [.int m_goNode, .int m_goDrops, .int m_goHour, .int m_goFelt, .int m_goSalt, .int m_goMore, .ref a_stepNode, .ref a_stepDrops, .ref a_stepHour, .ref a_stepNext, .ref a_stepPass, .int m_bestLeft, .int m_bestHour, .int m_bestMany, .ref a_bestPass, .ref a_far, .ref a_waited, .ref a_servers, .ref a_images, .ref a_isMade])), (a_said, .inl (kA 0, 360, .inl saidF))] s.heap := hP
  have hl := lv_entry ([.ref n0, .int p0, .int p1]) (n := 5) (Nat.le_of_ble_eq_true rfl)
  rw [lg_entry_eq]
  generalize (lg_sl ([.ref n0, .int p0, .int p1]) ++ List.replicate (5 - (lg_sl ([.ref n0, .int p0, .int p1])).length) Slot.unset).toArray = ls at hl ⊢
  have hl : lv_has ls 5 [(0, .ref n0), (1, .int p0), (2, .int p1)] := hl
  obtain ⟨H, hHe⟩ : ∃ H : Heap, H = s.heap := ⟨_, rfl⟩
  obtain ⟨G, hG0⟩ : ∃ G : Int32, fX11_at saidF zn zj zm p0 p1 = G := ⟨_, rfl⟩
  have hG := hG0
  unfold fX11_at at hG
  have hz1 : saidF 0 = zn := hsc.1.1
  have hz2 : saidF 1 = zp := hsc.1.2.1
  have hz3 : saidF 2 = zj := hsc.1.2.2.1
  have hz4 : saidF 3 = zo := hsc.1.2.2.2.1
  have hz5 : saidF 4 = zf := hsc.1.2.2.2.2.1
  have hz6 : saidF 6 = zm := hsc.1.2.2.2.2.2.1
  have hz7 : saidF 8 = zk := hsc.1.2.2.2.2.2.2.1
  have hz8 : saidF 9 = zw := hsc.1.2.2.2.2.2.2.2
  have hz9 : ¬ zn < 0 := hsc.2.1.1
  have hz10 : ¬ 12 < zn := hsc.2.1.2
  have hz11 : ¬ zp < 0 := hsc.2.2.1.1
  have hz12 : ¬ 20 < zp := hsc.2.2.1.2
  have hz13 : ¬ zj < 0 := hsc.2.2.2.1.1
  have hz14 : ¬ 16 < zj := hsc.2.2.2.1.2
  have hz15 : ¬ zo < 0 := hsc.2.2.2.2.1.1
  have hz16 : ¬ 6 < zo := hsc.2.2.2.2.1.2
  have hz17 : ¬ zf < 0 := hsc.2.2.2.2.2.1.1
  have hz18 : ¬ 8 < zf := hsc.2.2.2.2.2.1.2
  have hz19 : ¬ zk < (-1) := hsc.2.2.2.2.2.2.1.1
  have hz20 : ¬ 12 ≤ zk := hsc.2.2.2.2.2.2.1.2
  have hz21 : ¬ zw < 0 := hsc.2.2.2.2.2.2.2.1.1
  have hz22 : ¬ 6 < zw := hsc.2.2.2.2.2.2.2.1.2
  refine lv_aload_n hx hb dX11_at_0 rfl (lv_at hl 0 rfl) ?_
  refine lv_iload_n hx hb dX11_at_1 rfl (lv_at hl 1 rfl) ?_
  refine z_i (wr := []) (va_runV (As := [.int p0]) (rest := []) ⟨hx, hb, hml, hown, hts⟩ (mX11_isNode l dC dI kA _ n0 m_taped m_laws m_next m_wrong m_number m_text m_made m_deep m_lines m_opened m_top m_goNode m_goDrops m_goHour m_goFelt m_goSalt m_goMore m_bestLeft m_bestHour m_bestMany a_tape a_sign a_length a_clause a_clauses a_chain a_open a_stack a_word a_said a_kept a_stepNode a_stepDrops a_stepHour a_stepNext a_stepPass a_bestPass a_far a_waited a_servers a_images a_isMade saidF zn zp zj zo zf zm zk zw pd p0 hsc) (cwV 1 hts gX11_at_X11_isNode rfl rfl rfl ⟨rfl, hdX11_isNode⟩ ⟨(Nat.le_of_ble_eq_true rfl), (Nat.le_of_ble_eq_true rfl)⟩) ⟨zPc.blind, va_recv (q := (RX11, TX11, 42)) hK.1 hP (ci := 11) (q0 := 0) rfl rfl, zPre hK (hP.sub [0, 1] rfl) (hD.sub [0, 1] (by decide) rfl)⟩ rfl rfl hl.1 rfl (lv_room (Nat.le_of_ble_eq_true rfl)) dX11_at_2 ⟨(Nat.le_of_ble_eq_true rfl), (Nat.le_of_ble_eq_true rfl)⟩) hP hD hS hA [0, 1] [] rfl rfl (by decide) (by decide) (fun r25 u23 H locs hw24 hP hD hS => ?_)
  obtain rfl := hw24
  obtain ⟨hP, hD⟩ := z_re (L := [(n0, .inr (11, .ref a_tape :: .int m_taped :: .int m_laws :: .ref a_sign :: .ref a_length :: .ref a_clause :: .ref a_clauses :: .ref a_chain :: .int m_next :: .int m_wrong :: .int m_number :: .int m_text :: .int m_made :: .int m_deep :: .int m_lines :: .ref a_open :: .int m_opened :: .ref a_stack :: .int m_top :: .ref a_word :: .ref a_said :: .ref a_kept :: [.int m_goNode, .int m_goDrops, .int m_goHour, .int m_goFelt, .int m_goSalt, .int m_goMore, .ref a_stepNode, .ref a_stepDrops, .ref a_stepHour, .ref a_stepNext, .ref a_stepPass, .int m_bestLeft, .int m_bestHour, .int m_bestMany, .ref a_bestPass, .ref a_far, .ref a_waited, .ref a_servers, .ref a_images, .ref a_isMade])), (a_said, .inl (kA 0, 360, .inl saidF))]) hP hD
  refine lv_if_eq (tgt := 20) hx hb dX11_at_5 (by decide) (fun c_26 => ?_) (fun c_26 => ?_)
  · have hG := zthen hG c_26
    refine lv_iconst (v := (-1)) hx hb dX11_at_20 (by decide) ?_
    obtain ⟨hP9, hD9⟩ := z_sb (L' := [(n0, .inr (11, .ref a_tape :: .int m_taped :: .int m_laws :: .ref a_sign :: .ref a_length :: .ref a_clause :: .ref a_clauses :: .ref a_chain :: .int m_next :: .int m_wrong :: .int m_number :: .int m_text :: .int m_made :: .int m_deep :: .int m_lines :: .ref a_open :: .int m_opened :: .ref a_stack :: .int m_top :: .ref a_word :: .ref a_said :: .ref a_kept :: [.int m_goNode, .int m_goDrops, .int m_goHour, .int m_goFelt, .int m_goSalt, .int m_goMore, .ref a_stepNode, .ref a_stepDrops, .ref a_stepHour, .ref a_stepNext, .ref a_stepPass, .int m_bestLeft, .int m_bestHour, .int m_bestMany, .ref a_bestPass, .ref a_far, .ref a_waited, .ref a_servers, .ref a_images, .ref a_isMade])), (a_said, .inl (kA 0, 360, .inl saidF))]) hP hD [0, 1] (by decide) rfl
    refine W.widen (k := 0) (n := 0) (Nat.le_of_ble_eq_true rfl) (Nat.le_of_ble_eq_true rfl) ?_
    exact W.iret (v := (-1)) hx hb hr (fun t ht hW => ⟨⟨(-1), ((-1)), rfl, ⟨rfl, (hG.trans hG0.symm)⟩, by rw [ht]; exact hP9, hD9⟩, hS.F ht⟩) hS.2.2 dX11_at_21
  · have hG := zelse hG c_26
    have c_26a := hs_ne c_26
    have c_26b := c_26a.2
    have c_26a := c_26a.1
    refine lv_iload_n hx hb dX11_at_8 rfl (lv_at hl 2 rfl) ?_
    refine lv_i2l hx hb dX11_at_9 rfl ?_
    refine lv_lconst (v := 0) hx hb dX11_at_10 (by decide) ?_
    refine lv_ldc2 hx hb hown (kX11_at_1 hts) dX11_at_11 ?_
    refine z_i (wr := [(n0, .inr (11, .ref a_tape :: .int m_taped :: .int m_laws :: .ref a_sign :: .ref a_length :: .ref a_clause :: .ref a_clauses :: .ref a_chain :: .int m_next :: .int m_wrong :: .int m_number :: .int m_text :: .int m_made :: .int m_deep :: .int m_lines :: .ref a_open :: .int m_opened :: .ref a_stack :: .int m_top :: .ref a_word :: .ref a_said :: .ref a_kept :: [.int m_goNode, .int m_goDrops, .int m_goHour, .int m_goFelt, .int m_goSalt, .int m_goMore, .ref a_stepNode, .ref a_stepDrops, .ref a_stepHour, .ref a_stepNext, .ref a_stepPass, .int m_bestLeft, .int m_bestHour, .int m_bestMany, .ref a_bestPass, .ref a_far, .ref a_waited, .ref a_servers, .ref a_images, .ref a_isMade])), (a_said, .inl (kA 0, 360, .inl saidF))]) (va_runS (As := [.long p1.toInt64, .long 0, .long 5]) (rest := []) ⟨hx, hb, hml, hown, hts⟩ (mX11_in l dC dI kA _ p1.toInt64 0 5) (va_cwS 3 hts gX11_at_X11_in rfl rfl rfl hdX11_in ⟨(Nat.le_of_ble_eq_true rfl), (Nat.le_of_ble_eq_true rfl)⟩) ⟨zPc.blind, zPre hK (hP.sub [] rfl) (hD.sub [] (by decide) rfl)⟩ rfl rfl hl.1 rfl (lv_room (Nat.le_of_ble_eq_true rfl)) dX11_at_14 ⟨(Nat.le_of_ble_eq_true rfl), (Nat.le_of_ble_eq_true rfl)⟩) hP hD hS hA [] [0, 1] rfl rfl (by decide) (by decide) (fun r29 u27 H locs hw28 hP hD hS => ?_)
    obtain rfl := hw28
    obtain ⟨hP, hD⟩ := z_re (L := [(n0, .inr (11, .ref a_tape :: .int m_taped :: .int m_laws :: .ref a_sign :: .ref a_length :: .ref a_clause :: .ref a_clauses :: .ref a_chain :: .int m_next :: .int m_wrong :: .int m_number :: .int m_text :: .int m_made :: .int m_deep :: .int m_lines :: .ref a_open :: .int m_opened :: .ref a_stack :: .int m_top :: .ref a_word :: .ref a_said :: .ref a_kept :: [.int m_goNode, .int m_goDrops, .int m_goHour, .int m_goFelt, .int m_goSalt, .int m_goMore, .ref a_stepNode, .ref a_stepDrops, .ref a_stepHour, .ref a_stepNext, .ref a_stepPass, .int m_bestLeft, .int m_bestHour, .int m_bestMany, .ref a_bestPass, .ref a_far, .ref a_waited, .ref a_servers, .ref a_images, .ref a_isMade])), (a_said, .inl (kA 0, 360, .inl saidF))]) hP hD
    refine lv_if_ne (tgt := 22) hx hb dX11_at_17 (by decide) (fun c_30 => ?_) (fun c_30 => ?_)
    · have hG := zelse hG c_30
      have c_30a := li_ne (lo := 0) (hi := 5) (by decide) (by decide) c_30
      have c_30b := c_30a.2
      have c_30a := c_30a.1
      refine lv_iload_n hx hb dX11_at_22 rfl (lv_at hl 2 rfl) ?_
      refine lv_iconst (v := 4) hx hb dX11_at_23 (by decide) ?_
      refine lv_icmp_ge (tgt := 34) hx hb dX11_at_24 (by decide) (fun c_31 => ?_) (fun c_31 => ?_)
      · have hG := zthen hG c_31
        refine lv_iload_n hx hb dX11_at_34 rfl (lv_at hl 2 rfl) ?_
        refine lv_iconst (v := 4) hx hb dX11_at_35 (by decide) ?_
        refine lv_icmp_ne (tgt := 63) hx hb dX11_at_36 (by decide) (fun c_32 => ?_) (fun c_32 => ?_)
        · have hG := zelse hG c_32
          refine lv_iconst (v := 0) hx hb dX11_at_63 (by decide) ?_
          refine lv_istore_n (lv' := [(3, .int 0), (0, .ref n0), (1, .int p0), (2, .int p1)]) hx hb dX11_at_64 rfl hl (by decide) rfl (fun ls hl => ?_)
          refine lv_iconst (v := 0) hx hb dX11_at_65 (by decide) ?_
          refine lv_istore (lv' := [(4, .int 0), (3, .int 0), (0, .ref n0), (1, .int p0), (2, .int p1)]) hx hb dX11_at_66 hl (by decide) rfl (fun ls hl => ?_)
          refine lp_mX11_at_68 hx hb hml hts hown hK hA (Nat.le_of_ble_eq_true rfl) (Nat.le_of_ble_eq_true rfl) (Nat.le_of_ble_eq_true rfl) (Nat.le_of_ble_eq_true rfl) n0 m_taped m_laws m_next m_wrong m_number m_text m_made m_deep m_lines m_opened m_top m_goNode m_goDrops m_goHour m_goFelt m_goSalt m_goMore m_bestLeft m_bestHour m_bestMany a_tape a_sign a_length a_clause a_clauses a_chain a_open a_stack a_word a_said a_kept a_stepNode a_stepDrops a_stepHour a_stepNext a_stepPass a_bestPass a_far a_waited a_servers a_images a_isMade saidF zn zp zj zo zf zm zk zw pd p0 p1 hsc hz1 hz2 hz3 hz4 hz5 hz6 hz7 hz8 hz9 hz10 hz11 hz12 hz13 hz14 hz15 hz16 hz17 hz18 hz19 hz20 hz21 hz22 c_26 c_26a c_26b c_30 c_30a c_30b c_31 c_32 (fun w104_0_0 w104_1_0 H locs ls hx104_4_nlt00_0 hG hP hD hS hl => ?_) _ 0 0 _ _ ls (Nat.lt_succ_self _) hG (by decide) hP hD hS (lv_sub hl [0, 1, 2, 3, 4] rfl)
          obtain ⟨hP, hD⟩ := z_re (L := [(n0, .inr (11, .ref a_tape :: .int m_taped :: .int m_laws :: .ref a_sign :: .ref a_length :: .ref a_clause :: .ref a_clauses :: .ref a_chain :: .int m_next :: .int m_wrong :: .int m_number :: .int m_text :: .int m_made :: .int m_deep :: .int m_lines :: .ref a_open :: .int m_opened :: .ref a_stack :: .int m_top :: .ref a_word :: .ref a_said :: .ref a_kept :: [.int m_goNode, .int m_goDrops, .int m_goHour, .int m_goFelt, .int m_goSalt, .int m_goMore, .ref a_stepNode, .ref a_stepDrops, .ref a_stepHour, .ref a_stepNext, .ref a_stepPass, .int m_bestLeft, .int m_bestHour, .int m_bestMany, .ref a_bestPass, .ref a_far, .ref a_waited, .ref a_servers, .ref a_images, .ref a_isMade])), (a_said, .inl (kA 0, 360, .inl saidF))]) hP hD
          refine lv_iload_n hx hb dX11_at_104 rfl (lv_at hl 1 rfl) ?_
          obtain ⟨hP9, hD9⟩ := z_sb (L' := [(n0, .inr (11, .ref a_tape :: .int m_taped :: .int m_laws :: .ref a_sign :: .ref a_length :: .ref a_clause :: .ref a_clauses :: .ref a_chain :: .int m_next :: .int m_wrong :: .int m_number :: .int m_text :: .int m_made :: .int m_deep :: .int m_lines :: .ref a_open :: .int m_opened :: .ref a_stack :: .int m_top :: .ref a_word :: .ref a_said :: .ref a_kept :: [.int m_goNode, .int m_goDrops, .int m_goHour, .int m_goFelt, .int m_goSalt, .int m_goMore, .ref a_stepNode, .ref a_stepDrops, .ref a_stepHour, .ref a_stepNext, .ref a_stepPass, .int m_bestLeft, .int m_bestHour, .int m_bestMany, .ref a_bestPass, .ref a_far, .ref a_waited, .ref a_servers, .ref a_images, .ref a_isMade])), (a_said, .inl (kA 0, 360, .inl saidF))]) hP hD [0, 1] (by decide) rfl
          refine W.widen (k := 0) (n := 0) (Nat.le_of_ble_eq_true rfl) (Nat.le_of_ble_eq_true rfl) ?_
          exact W.iret (v := w104_1_0) hx hb hr (fun t ht hW => ⟨⟨w104_1_0, (w104_1_0), rfl, ⟨rfl, (hG.trans hG0.symm)⟩, by rw [ht]; exact hP9, hD9⟩, hS.F ht⟩) hS.2.2 dX11_at_105
        · have hG := zthen hG c_32
          refine lv_aload_n hx hb dX11_at_39 rfl (lv_at hl 0 rfl) ?_
          refine lv_iload_n hx hb dX11_at_40 rfl (lv_at hl 1 rfl) ?_
          refine lv_aload_n hx hb dX11_at_41 rfl (lv_at hl 0 rfl) ?_
          refine lv_aload_n hx hb dX11_at_42 rfl (lv_at hl 0 rfl) ?_
          refine va_get (D := (dC, dI)) (ci := 11) (v := .ref a_said) (C := RX11) (T := TX11) (N := 42) hx hb hts iX11_at_X11 hown hK.1 hP 0 gz0 vcz11 20 (by decide) (kX11_at_2 hts) (fun _ h9 => h9) gz20 dX11_at_43 ?_
          refine lv_iconst (v := 5) hx hb dX11_at_46 (by decide) ?_
          refine va_iald hx hb hK.1 hP 1 0 gz1 tzz0 (vpd (by decide)) dX11_at_47 ?_
          refine zi (saidF 5) rfl ?_
          refine z_i (wr := []) (va_runV (As := [.int (saidF 5)]) (rest := [.int p0, .ref n0]) ⟨hx, hb, hml, hown, hts⟩ (mX11_monthAt l dC dI kA _ n0 m_taped m_laws m_next m_wrong m_number m_text m_made m_deep m_lines m_opened m_top m_goNode m_goDrops m_goHour m_goFelt m_goSalt m_goMore m_bestLeft m_bestHour m_bestMany a_tape a_sign a_length a_clause a_clauses a_chain a_open a_stack a_word a_said a_kept a_stepNode a_stepDrops a_stepHour a_stepNext a_stepPass a_bestPass a_far a_waited a_servers a_images a_isMade saidF zn zp zj zo zf zm zk zw pd (saidF 5) hsc) (cwV 1 hts gX11_at_X11_monthAt rfl rfl rfl ⟨rfl, hdX11_monthAt⟩ ⟨(Nat.le_of_ble_eq_true rfl), (Nat.le_of_ble_eq_true rfl)⟩) ⟨zPc.blind, va_recv (q := (RX11, TX11, 42)) hK.1 hP (ci := 11) (q0 := 0) rfl rfl, zPre hK (hP.sub [0, 1] rfl) (hD.sub [0, 1] (by decide) rfl)⟩ rfl rfl hl.1 rfl (lv_room (Nat.le_of_ble_eq_true rfl)) dX11_at_48 ⟨(Nat.le_of_ble_eq_true rfl), (Nat.le_of_ble_eq_true rfl)⟩) hP hD hS hA [0, 1] [] rfl rfl (by decide) (by decide) (fun r35 u33 H locs hw34 hP hD hS => ?_)
          obtain ⟨er38, hp37⟩ := hw34
          have er38 : r35 = u33 := er38
          subst er38
          have er35 : r35 = fX11_monthAt zm (saidF 5) := hp37
          have hG := zbnd hG er35
          obtain ⟨hP, hD⟩ := z_re (L := [(n0, .inr (11, .ref a_tape :: .int m_taped :: .int m_laws :: .ref a_sign :: .ref a_length :: .ref a_clause :: .ref a_clauses :: .ref a_chain :: .int m_next :: .int m_wrong :: .int m_number :: .int m_text :: .int m_made :: .int m_deep :: .int m_lines :: .ref a_open :: .int m_opened :: .ref a_stack :: .int m_top :: .ref a_word :: .ref a_said :: .ref a_kept :: [.int m_goNode, .int m_goDrops, .int m_goHour, .int m_goFelt, .int m_goSalt, .int m_goMore, .ref a_stepNode, .ref a_stepDrops, .ref a_stepHour, .ref a_stepNext, .ref a_stepPass, .int m_bestLeft, .int m_bestHour, .int m_bestMany, .ref a_bestPass, .ref a_far, .ref a_waited, .ref a_servers, .ref a_images, .ref a_isMade])), (a_said, .inl (kA 0, 360, .inl saidF))]) hP hD
          refine z_i (wr := []) (va_runV (As := [.int p0, .int r35]) (rest := []) ⟨hx, hb, hml, hown, hts⟩ (mX11_hasSnow l dC dI kA _ n0 m_taped m_laws m_next m_wrong m_number m_text m_made m_deep m_lines m_opened m_top m_goNode m_goDrops m_goHour m_goFelt m_goSalt m_goMore m_bestLeft m_bestHour m_bestMany a_tape a_sign a_length a_clause a_clauses a_chain a_open a_stack a_word a_said a_kept a_stepNode a_stepDrops a_stepHour a_stepNext a_stepPass a_bestPass a_far a_waited a_servers a_images a_isMade saidF p0 r35 (gl_mX11_at_0 zn p0 hz9 hz10 c_26a c_26b) (gl_mX11_at_1 zn p0 hz9 hz10 c_26a c_26b)) (cwV 2 hts gX11_at_X11_hasSnow rfl rfl rfl ⟨rfl, hdX11_hasSnow⟩ ⟨(Nat.le_of_ble_eq_true rfl), (Nat.le_of_ble_eq_true rfl)⟩) ⟨zPc.blind, va_recv (q := (RX11, TX11, 42)) hK.1 hP (ci := 11) (q0 := 0) rfl rfl, zPre hK (hP.sub [0, 1] rfl) (hD.sub [0, 1] (by decide) rfl)⟩ rfl rfl hl.1 rfl (lv_room (Nat.le_of_ble_eq_true rfl)) dX11_at_51 ⟨(Nat.le_of_ble_eq_true rfl), (Nat.le_of_ble_eq_true rfl)⟩) hP hD hS hA [0, 1] [] rfl rfl (by decide) (by decide) (fun r42 u40 H locs hw41 hP hD hS => ?_)
          obtain ⟨er46, hp44, hp45⟩ := hw41
          have er46 : r42 = u40 := er46
          subst er46
          have er42 : r42 = fX11_hasSnow saidF p0 r35 := hp44
          have hG := zbnd hG er42
          obtain ⟨hP, hD⟩ := z_re (L := [(n0, .inr (11, .ref a_tape :: .int m_taped :: .int m_laws :: .ref a_sign :: .ref a_length :: .ref a_clause :: .ref a_clauses :: .ref a_chain :: .int m_next :: .int m_wrong :: .int m_number :: .int m_text :: .int m_made :: .int m_deep :: .int m_lines :: .ref a_open :: .int m_opened :: .ref a_stack :: .int m_top :: .ref a_word :: .ref a_said :: .ref a_kept :: [.int m_goNode, .int m_goDrops, .int m_goHour, .int m_goFelt, .int m_goSalt, .int m_goMore, .ref a_stepNode, .ref a_stepDrops, .ref a_stepHour, .ref a_stepNext, .ref a_stepPass, .int m_bestLeft, .int m_bestHour, .int m_bestMany, .ref a_bestPass, .ref a_far, .ref a_waited, .ref a_servers, .ref a_images, .ref a_isMade])), (a_said, .inl (kA 0, 360, .inl saidF))]) hP hD
          refine lv_if_eq (tgt := 61) hx hb dX11_at_54 (by decide) (fun c_48 => ?_) (fun c_48 => ?_)
          · have hG := zthen hG c_48
            refine lv_iconst (v := 0) hx hb dX11_at_61 (by decide) ?_
            obtain ⟨hP9, hD9⟩ := z_sb (L' := [(n0, .inr (11, .ref a_tape :: .int m_taped :: .int m_laws :: .ref a_sign :: .ref a_length :: .ref a_clause :: .ref a_clauses :: .ref a_chain :: .int m_next :: .int m_wrong :: .int m_number :: .int m_text :: .int m_made :: .int m_deep :: .int m_lines :: .ref a_open :: .int m_opened :: .ref a_stack :: .int m_top :: .ref a_word :: .ref a_said :: .ref a_kept :: [.int m_goNode, .int m_goDrops, .int m_goHour, .int m_goFelt, .int m_goSalt, .int m_goMore, .ref a_stepNode, .ref a_stepDrops, .ref a_stepHour, .ref a_stepNext, .ref a_stepPass, .int m_bestLeft, .int m_bestHour, .int m_bestMany, .ref a_bestPass, .ref a_far, .ref a_waited, .ref a_servers, .ref a_images, .ref a_isMade])), (a_said, .inl (kA 0, 360, .inl saidF))]) hP hD [0, 1] (by decide) rfl
            refine W.widen (k := 0) (n := 0) (Nat.le_of_ble_eq_true rfl) (Nat.le_of_ble_eq_true rfl) ?_
            exact W.iret (v := 0) hx hb hr (fun t ht hW => ⟨⟨0, (0), rfl, ⟨rfl, (hG.trans hG0.symm)⟩, by rw [ht]; exact hP9, hD9⟩, hS.F ht⟩) hS.2.2 dX11_at_62
          · have hG := zelse hG c_48
            refine lv_iconst (v := 1) hx hb dX11_at_57 (by decide) ?_
            refine lv_goto (tgt := 62) hx hb dX11_at_58 (by decide) ?_
            obtain ⟨hP9, hD9⟩ := z_sb (L' := [(n0, .inr (11, .ref a_tape :: .int m_taped :: .int m_laws :: .ref a_sign :: .ref a_length :: .ref a_clause :: .ref a_clauses :: .ref a_chain :: .int m_next :: .int m_wrong :: .int m_number :: .int m_text :: .int m_made :: .int m_deep :: .int m_lines :: .ref a_open :: .int m_opened :: .ref a_stack :: .int m_top :: .ref a_word :: .ref a_said :: .ref a_kept :: [.int m_goNode, .int m_goDrops, .int m_goHour, .int m_goFelt, .int m_goSalt, .int m_goMore, .ref a_stepNode, .ref a_stepDrops, .ref a_stepHour, .ref a_stepNext, .ref a_stepPass, .int m_bestLeft, .int m_bestHour, .int m_bestMany, .ref a_bestPass, .ref a_far, .ref a_waited, .ref a_servers, .ref a_images, .ref a_isMade])), (a_said, .inl (kA 0, 360, .inl saidF))]) hP hD [0, 1] (by decide) rfl
            refine W.widen (k := 0) (n := 0) (Nat.le_of_ble_eq_true rfl) (Nat.le_of_ble_eq_true rfl) ?_
            exact W.iret (v := 1) hx hb hr (fun t ht hW => ⟨⟨1, (1), rfl, ⟨rfl, (hG.trans hG0.symm)⟩, by rw [ht]; exact hP9, hD9⟩, hS.F ht⟩) hS.2.2 dX11_at_62
      · have hG := zelse hG c_31
        refine lv_aload_n hx hb dX11_at_27 rfl (lv_at hl 0 rfl) ?_
        refine lv_iload_n hx hb dX11_at_28 rfl (lv_at hl 1 rfl) ?_
        refine lv_iload_n hx hb dX11_at_29 rfl (lv_at hl 2 rfl) ?_
        refine z_i (wr := []) (va_runV (As := [.int p0, .int p1]) (rest := []) ⟨hx, hb, hml, hown, hts⟩ (mX11_nodeOf l dC dI kA _ n0 m_taped m_laws m_next m_wrong m_number m_text m_made m_deep m_lines m_opened m_top m_goNode m_goDrops m_goHour m_goFelt m_goSalt m_goMore m_bestLeft m_bestHour m_bestMany a_tape a_sign a_length a_clause a_clauses a_chain a_open a_stack a_word a_said a_kept a_stepNode a_stepDrops a_stepHour a_stepNext a_stepPass a_bestPass a_far a_waited a_servers a_images a_isMade saidF p0 p1 (gl_mX11_at_0 zn p0 hz9 hz10 c_26a c_26b) (gl_mX11_at_1 zn p0 hz9 hz10 c_26a c_26b) c_30a (z_nle_nlt (by decide) c_31)) (cwV 2 hts gX11_at_X11_nodeOf rfl rfl rfl ⟨rfl, hdX11_nodeOf⟩ ⟨(Nat.le_of_ble_eq_true rfl), (Nat.le_of_ble_eq_true rfl)⟩) ⟨zPc.blind, va_recv (q := (RX11, TX11, 42)) hK.1 hP (ci := 11) (q0 := 0) rfl rfl, zPre hK (hP.sub [0, 1] rfl) (hD.sub [0, 1] (by decide) rfl)⟩ rfl rfl hl.1 rfl (lv_room (Nat.le_of_ble_eq_true rfl)) dX11_at_30 ⟨(Nat.le_of_ble_eq_true rfl), (Nat.le_of_ble_eq_true rfl)⟩) hP hD hS hA [0, 1] [] rfl rfl (by decide) (by decide) (fun r51 u49 H locs hw50 hP hD hS => ?_)
        obtain rfl := hw50
        obtain ⟨hP, hD⟩ := z_re (L := [(n0, .inr (11, .ref a_tape :: .int m_taped :: .int m_laws :: .ref a_sign :: .ref a_length :: .ref a_clause :: .ref a_clauses :: .ref a_chain :: .int m_next :: .int m_wrong :: .int m_number :: .int m_text :: .int m_made :: .int m_deep :: .int m_lines :: .ref a_open :: .int m_opened :: .ref a_stack :: .int m_top :: .ref a_word :: .ref a_said :: .ref a_kept :: [.int m_goNode, .int m_goDrops, .int m_goHour, .int m_goFelt, .int m_goSalt, .int m_goMore, .ref a_stepNode, .ref a_stepDrops, .ref a_stepHour, .ref a_stepNext, .ref a_stepPass, .int m_bestLeft, .int m_bestHour, .int m_bestMany, .ref a_bestPass, .ref a_far, .ref a_waited, .ref a_servers, .ref a_images, .ref a_isMade])), (a_said, .inl (kA 0, 360, .inl saidF))]) hP hD
        obtain ⟨hP9, hD9⟩ := z_sb (L' := [(n0, .inr (11, .ref a_tape :: .int m_taped :: .int m_laws :: .ref a_sign :: .ref a_length :: .ref a_clause :: .ref a_clauses :: .ref a_chain :: .int m_next :: .int m_wrong :: .int m_number :: .int m_text :: .int m_made :: .int m_deep :: .int m_lines :: .ref a_open :: .int m_opened :: .ref a_stack :: .int m_top :: .ref a_word :: .ref a_said :: .ref a_kept :: [.int m_goNode, .int m_goDrops, .int m_goHour, .int m_goFelt, .int m_goSalt, .int m_goMore, .ref a_stepNode, .ref a_stepDrops, .ref a_stepHour, .ref a_stepNext, .ref a_stepPass, .int m_bestLeft, .int m_bestHour, .int m_bestMany, .ref a_bestPass, .ref a_far, .ref a_waited, .ref a_servers, .ref a_images, .ref a_isMade])), (a_said, .inl (kA 0, 360, .inl saidF))]) hP hD [0, 1] (by decide) rfl
        refine W.widen (k := 0) (n := 0) (Nat.le_of_ble_eq_true rfl) (Nat.le_of_ble_eq_true rfl) ?_
        exact W.iret (v := (saidF ((20 + (4 * p0)) + p1).toNatClampNeg)) hx hb hr (fun t ht hW => ⟨⟨(saidF ((20 + (4 * p0)) + p1).toNatClampNeg), ((saidF ((20 + (4 * p0)) + p1).toNatClampNeg)), rfl, ⟨rfl, (hG.trans hG0.symm)⟩, by rw [ht]; exact hP9, hD9⟩, hS.F ht⟩) hS.2.2 dX11_at_33
    · have hG := zthen hG c_30
      refine lv_iconst (v := (-1)) hx hb dX11_at_20 (by decide) ?_
      obtain ⟨hP9, hD9⟩ := z_sb (L' := [(n0, .inr (11, .ref a_tape :: .int m_taped :: .int m_laws :: .ref a_sign :: .ref a_length :: .ref a_clause :: .ref a_clauses :: .ref a_chain :: .int m_next :: .int m_wrong :: .int m_number :: .int m_text :: .int m_made :: .int m_deep :: .int m_lines :: .ref a_open :: .int m_opened :: .ref a_stack :: .int m_top :: .ref a_word :: .ref a_said :: .ref a_kept :: [.int m_goNode, .int m_goDrops, .int m_goHour, .int m_goFelt, .int m_goSalt, .int m_goMore, .ref a_stepNode, .ref a_stepDrops, .ref a_stepHour, .ref a_stepNext, .ref a_stepPass, .int m_bestLeft, .int m_bestHour, .int m_bestMany, .ref a_bestPass, .ref a_far, .ref a_waited, .ref a_servers, .ref a_images, .ref a_isMade])), (a_said, .inl (kA 0, 360, .inl saidF))]) hP hD [0, 1] (by decide) rfl
      refine W.widen (k := 0) (n := 0) (Nat.le_of_ble_eq_true rfl) (Nat.le_of_ble_eq_true rfl) ?_
      exact W.iret (v := (-1)) hx hb hr (fun t ht hW => ⟨⟨(-1), ((-1)), rfl, ⟨rfl, (hG.trans hG0.symm)⟩, by rw [ht]; exact hP9, hD9⟩, hS.F ht⟩) hS.2.2 dX11_at_21
theorem gl_mX11_of_0 (p1 : Int32) (h0 : ¬ p1 < 0) (h1 : ¬ 8 < p1) (h2 : 5 ≤ p1) : ¬ (p1 - 5) < 0 := by grind
theorem gl_mX11_of_1 (p1 : Int32) (h0 : ¬ p1 < 0) (h1 : ¬ 8 < p1) (h2 : 5 ≤ p1) : ¬ 8 < (p1 - 5) := by grind
theorem gl_mX11_of_2 (p1 : Int32) (h0 : ¬ p1 < 0) (h1 : ¬ 8 < p1) (h2 : ¬ 5 ≤ p1) : ¬ (p1 + 4) < 0 := by grind
theorem gl_mX11_of_3 (p1 : Int32) (h0 : ¬ p1 < 0) (h1 : ¬ 8 < p1) (h2 : ¬ 5 ≤ p1) : ¬ 8 < (p1 + 4) := by grind
set_option maxRecDepth 100000 in
def fX11_of (saidF : Nat → Int32) (zj : Int32) (p0 : Int32) (p1 : Int32) : Int32 := if (hs p0 zj) = 0 then ((-2)) else (if (li p1.toInt64 0 8) = 0 then ((-2)) else (if 5 ≤ p1 then ((saidF ((168 + (9 * p0)) + (p1 - 5)).toNatClampNeg)) else ((saidF ((168 + (9 * p0)) + (p1 + 4)).toNatClampNeg))))
set_option maxHeartbeats 4000000 in
set_option maxRecDepth 100000 in
theorem mX11_of (l : Launch) (dC : Nat → ClassId) (dI : Nat → Nat → Nat) (kA : Nat → ClassId) (sz : Nat) (n0 : Nat) (m_taped : Int32) (m_laws : Int32) (m_next : Int32) (m_wrong : Int32) (m_number : Int32) (m_text : Int32) (m_made : Int32) (m_deep : Int32) (m_lines : Int32) (m_opened : Int32) (m_top : Int32) (m_goNode : Int32) (m_goDrops : Int32) (m_goHour : Int32) (m_goFelt : Int32) (m_goSalt : Int32) (m_goMore : Int32) (m_bestLeft : Int32) (m_bestHour : Int32) (m_bestMany : Int32) (a_tape : Nat) (a_sign : Nat) (a_length : Nat) (a_clause : Nat) (a_clauses : Nat) (a_chain : Nat) (a_open : Nat) (a_stack : Nat) (a_word : Nat) (a_said : Nat) (a_kept : Nat) (a_stepNode : Nat) (a_stepDrops : Nat) (a_stepHour : Nat) (a_stepNext : Nat) (a_stepPass : Nat) (a_bestPass : Nat) (a_far : Nat) (a_waited : Nat) (a_servers : Nat) (a_images : Nat) (a_isMade : Nat) (saidF : Nat → Int32) (zn : Int32) (zp : Int32) (zj : Int32) (zo : Int32) (zf : Int32) (zm : Int32) (zk : Int32) (zw : Int32) (pd : Nat → Int32) (p0 : Int32) (p1 : Int32) (hsc : SC saidF zn zp zj zo zf zm zk zw pd) : Met l yX11_of wsX11_of ({ frames := 1, cells := 0, slots := 0, locals := 25 }) (zPc dC dI kA sz [.ref n0, .int p0, .int p1] [(n0, .inr (11, .ref a_tape :: .int m_taped :: .int m_laws :: .ref a_sign :: .ref a_length :: .ref a_clause :: .ref a_clauses :: .ref a_chain :: .int m_next :: .int m_wrong :: .int m_number :: .int m_text :: .int m_made :: .int m_deep :: .int m_lines :: .ref a_open :: .int m_opened :: .ref a_stack :: .int m_top :: .ref a_word :: .ref a_said :: .ref a_kept :: [.int m_goNode, .int m_goDrops, .int m_goHour, .int m_goFelt, .int m_goSalt, .int m_goMore, .ref a_stepNode, .ref a_stepDrops, .ref a_stepHour, .ref a_stepNext, .ref a_stepPass, .int m_bestLeft, .int m_bestHour, .int m_bestMany, .ref a_bestPass, .ref a_far, .ref a_waited, .ref a_servers, .ref a_images, .ref a_isMade])), (a_said, .inl (kA 0, 360, .inl saidF))]) (va_Qi (fun (r : Int32) (u : Int32) => r = u ∧ u = fX11_of saidF zj p0 p1) (zB dC dI (va_A [(n0, .inr (11, .ref a_tape :: .int m_taped :: .int m_laws :: .ref a_sign :: .ref a_length :: .ref a_clause :: .ref a_clauses :: .ref a_chain :: .int m_next :: .int m_wrong :: .int m_number :: .int m_text :: .int m_made :: .int m_deep :: .int m_lines :: .ref a_open :: .int m_opened :: .ref a_stack :: .int m_top :: .ref a_word :: .ref a_said :: .ref a_kept :: [.int m_goNode, .int m_goDrops, .int m_goHour, .int m_goFelt, .int m_goSalt, .int m_goMore, .ref a_stepNode, .ref a_stepDrops, .ref a_stepHour, .ref a_stepNext, .ref a_stepPass, .int m_bestLeft, .int m_bestHour, .int m_bestMany, .ref a_bestPass, .ref a_far, .ref a_waited, .ref a_servers, .ref a_images, .ref a_isMade])), (a_said, .inl (kA 0, 360, .inl saidF))] sz) (fun (u : Int32) => [(n0, .inr (11, .ref a_tape :: .int m_taped :: .int m_laws :: .ref a_sign :: .ref a_length :: .ref a_clause :: .ref a_clauses :: .ref a_chain :: .int m_next :: .int m_wrong :: .int m_number :: .int m_text :: .int m_made :: .int m_deep :: .int m_lines :: .ref a_open :: .int m_opened :: .ref a_stack :: .int m_top :: .ref a_word :: .ref a_said :: .ref a_kept :: [.int m_goNode, .int m_goDrops, .int m_goHour, .int m_goFelt, .int m_goSalt, .int m_goMore, .ref a_stepNode, .ref a_stepDrops, .ref a_stepHour, .ref a_stepNext, .ref a_stepPass, .int m_bestLeft, .int m_bestHour, .int m_bestMany, .ref a_bestPass, .ref a_far, .ref a_waited, .ref a_servers, .ref a_images, .ref a_isMade])), (a_said, .inl (kA 0, 360, .inl saidF))])) (va_A [(n0, .inr (11, .ref a_tape :: .int m_taped :: .int m_laws :: .ref a_sign :: .ref a_length :: .ref a_clause :: .ref a_clauses :: .ref a_chain :: .int m_next :: .int m_wrong :: .int m_number :: .int m_text :: .int m_made :: .int m_deep :: .int m_lines :: .ref a_open :: .int m_opened :: .ref a_stack :: .int m_top :: .ref a_word :: .ref a_said :: .ref a_kept :: [.int m_goNode, .int m_goDrops, .int m_goHour, .int m_goFelt, .int m_goSalt, .int m_goMore, .ref a_stepNode, .ref a_stepDrops, .ref a_stepHour, .ref a_stepNext, .ref a_stepPass, .int m_bestLeft, .int m_bestHour, .int m_bestMany, .ref a_bestPass, .ref a_far, .ref a_waited, .ref a_servers, .ref a_images, .ref a_isMade])), (a_said, .inl (kA 0, 360, .inl saidF))] sz)) 0 0 (va_A [(n0, .inr (11, .ref a_tape :: .int m_taped :: .int m_laws :: .ref a_sign :: .ref a_length :: .ref a_clause :: .ref a_clauses :: .ref a_chain :: .int m_next :: .int m_wrong :: .int m_number :: .int m_text :: .int m_made :: .int m_deep :: .int m_lines :: .ref a_open :: .int m_opened :: .ref a_stack :: .int m_top :: .ref a_word :: .ref a_said :: .ref a_kept :: [.int m_goNode, .int m_goDrops, .int m_goHour, .int m_goFelt, .int m_goSalt, .int m_goMore, .ref a_stepNode, .ref a_stepDrops, .ref a_stepHour, .ref a_stepNext, .ref a_stepPass, .int m_bestLeft, .int m_bestHour, .int m_bestMany, .ref a_bestPass, .ref a_far, .ref a_waited, .ref a_servers, .ref a_images, .ref a_isMade])), (a_said, .inl (kA 0, 360, .inl saidF))] sz) := by
  refine Met.ofW (cc := cX11_of) (maxL := 3) (ret := (some .int)) pnX11 rfl ?_
  intro p e s m args below meth c s₁ B hml hv
  obtain ⟨rfl, hsz, hP, hK, hD0⟩ := hv
  have hx := B.exec
  have hb := B.bytes
  have hr := B.returns
  have hts := atoms_spec (ws := wsX11_of) B.pre
  have hown : s.vm.findClass RX11 = some m.cls := findClass_of_methodNamed B.named
  have hlocks := B.notSynchronized
  subst hsz
  have hD := hD0.self (sz := s.heap.size)
  generalize hAe : va_A [(n0, .inr (11, .ref a_tape :: .int m_taped :: .int m_laws :: .ref a_sign :: .ref a_length :: .ref a_clause :: .ref a_clauses :: .ref a_chain :: .int m_next :: .int m_wrong :: .int m_number :: .int m_text :: .int m_made :: .int m_deep :: .int m_lines :: .ref a_open :: .int m_opened :: .ref a_stack :: .int m_top :: .ref a_word :: .ref a_said :: .ref a_kept :: [.int m_goNode, .int m_goDrops, .int m_goHour, .int m_goFelt, .int m_goSalt, .int m_goMore, .ref a_stepNode, .ref a_stepDrops, .ref a_stepHour, .ref a_stepNext, .ref a_stepPass, .int m_bestLeft, .int m_bestHour, .int m_bestMany, .ref a_bestPass, .ref a_far, .ref a_waited, .ref a_servers, .ref a_images, .ref a_isMade])), (a_said, .inl (kA 0, 360, .inl saidF))] s.heap.size = A at hD ⊢
  have hA : ∀ q : Nat, s.heap.size ≤ q → A q := zA_of hAe
  have hS : va_S A s.heap s.heap [] := va_S.rf
  have hP : va_P (dC, dI) vwCl [(n0, .inr (11, .ref a_tape :: .int m_taped :: .int m_laws :: .ref a_sign :: .ref a_length :: .ref a_clause :: .ref a_clauses :: .ref a_chain :: .int m_next :: .int m_wrong :: .int m_number :: .int m_text :: .int m_made :: .int m_deep :: .int m_lines :: .ref a_open :: .int m_opened :: .ref a_stack :: .int m_top :: .ref a_word :: .ref a_said :: .ref a_kept :: [.int m_goNode, .int m_goDrops, .int m_goHour, .int m_goFelt, .int m_goSalt, .int m_goMore, .ref a_stepNode, .ref a_stepDrops, .ref a_stepHour, .ref a_stepNext, .ref a_stepPass, .int m_bestLeft, .int m_bestHour, .int m_bestMany, .ref a_bestPass, .ref a_far, .ref a_waited, .ref a_servers, .ref a_images, .ref a_isMade])), (a_said, .inl (kA 0, 360, .inl saidF))] s.heap := hP
  have hl := lv_entry ([.ref n0, .int p0, .int p1]) (n := 3) (Nat.le_of_ble_eq_true rfl)
  rw [lg_entry_eq]
  generalize (lg_sl ([.ref n0, .int p0, .int p1]) ++ List.replicate (3 - (lg_sl ([.ref n0, .int p0, .int p1])).length) Slot.unset).toArray = ls at hl ⊢
  have hl : lv_has ls 3 [(0, .ref n0), (1, .int p0), (2, .int p1)] := hl
  obtain ⟨H, hHe⟩ : ∃ H : Heap, H = s.heap := ⟨_, rfl⟩
  obtain ⟨G, hG0⟩ : ∃ G : Int32, fX11_of saidF zj p0 p1 = G := ⟨_, rfl⟩
  have hG := hG0
  unfold fX11_of at hG
  have hz1 : saidF 0 = zn := hsc.1.1
  have hz2 : saidF 1 = zp := hsc.1.2.1
  have hz3 : saidF 2 = zj := hsc.1.2.2.1
  have hz4 : saidF 3 = zo := hsc.1.2.2.2.1
  have hz5 : saidF 4 = zf := hsc.1.2.2.2.2.1
  have hz6 : saidF 6 = zm := hsc.1.2.2.2.2.2.1
  have hz7 : saidF 8 = zk := hsc.1.2.2.2.2.2.2.1
  have hz8 : saidF 9 = zw := hsc.1.2.2.2.2.2.2.2
  have hz9 : ¬ zn < 0 := hsc.2.1.1
  have hz10 : ¬ 12 < zn := hsc.2.1.2
  have hz11 : ¬ zp < 0 := hsc.2.2.1.1
  have hz12 : ¬ 20 < zp := hsc.2.2.1.2
  have hz13 : ¬ zj < 0 := hsc.2.2.2.1.1
  have hz14 : ¬ 16 < zj := hsc.2.2.2.1.2
  have hz15 : ¬ zo < 0 := hsc.2.2.2.2.1.1
  have hz16 : ¬ 6 < zo := hsc.2.2.2.2.1.2
  have hz17 : ¬ zf < 0 := hsc.2.2.2.2.2.1.1
  have hz18 : ¬ 8 < zf := hsc.2.2.2.2.2.1.2
  have hz19 : ¬ zk < (-1) := hsc.2.2.2.2.2.2.1.1
  have hz20 : ¬ 12 ≤ zk := hsc.2.2.2.2.2.2.1.2
  have hz21 : ¬ zw < 0 := hsc.2.2.2.2.2.2.2.1.1
  have hz22 : ¬ 6 < zw := hsc.2.2.2.2.2.2.2.1.2
  refine lv_aload_n hx hb dX11_of_0 rfl (lv_at hl 0 rfl) ?_
  refine lv_iload_n hx hb dX11_of_1 rfl (lv_at hl 1 rfl) ?_
  refine z_i (wr := []) (va_runV (As := [.int p0]) (rest := []) ⟨hx, hb, hml, hown, hts⟩ (mX11_isJar l dC dI kA _ n0 m_taped m_laws m_next m_wrong m_number m_text m_made m_deep m_lines m_opened m_top m_goNode m_goDrops m_goHour m_goFelt m_goSalt m_goMore m_bestLeft m_bestHour m_bestMany a_tape a_sign a_length a_clause a_clauses a_chain a_open a_stack a_word a_said a_kept a_stepNode a_stepDrops a_stepHour a_stepNext a_stepPass a_bestPass a_far a_waited a_servers a_images a_isMade saidF zn zp zj zo zf zm zk zw pd p0 hsc) (cwV 1 hts gX11_of_X11_isJar rfl rfl rfl ⟨rfl, hdX11_isJar⟩ ⟨(Nat.le_of_ble_eq_true rfl), (Nat.le_of_ble_eq_true rfl)⟩) ⟨zPc.blind, va_recv (q := (RX11, TX11, 42)) hK.1 hP (ci := 11) (q0 := 0) rfl rfl, zPre hK (hP.sub [0, 1] rfl) (hD.sub [0, 1] (by decide) rfl)⟩ rfl rfl hl.1 rfl (lv_room (Nat.le_of_ble_eq_true rfl)) dX11_of_2 ⟨(Nat.le_of_ble_eq_true rfl), (Nat.le_of_ble_eq_true rfl)⟩) hP hD hS hA [0, 1] [] rfl rfl (by decide) (by decide) (fun r25 u23 H locs hw24 hP hD hS => ?_)
  obtain rfl := hw24
  obtain ⟨hP, hD⟩ := z_re (L := [(n0, .inr (11, .ref a_tape :: .int m_taped :: .int m_laws :: .ref a_sign :: .ref a_length :: .ref a_clause :: .ref a_clauses :: .ref a_chain :: .int m_next :: .int m_wrong :: .int m_number :: .int m_text :: .int m_made :: .int m_deep :: .int m_lines :: .ref a_open :: .int m_opened :: .ref a_stack :: .int m_top :: .ref a_word :: .ref a_said :: .ref a_kept :: [.int m_goNode, .int m_goDrops, .int m_goHour, .int m_goFelt, .int m_goSalt, .int m_goMore, .ref a_stepNode, .ref a_stepDrops, .ref a_stepHour, .ref a_stepNext, .ref a_stepPass, .int m_bestLeft, .int m_bestHour, .int m_bestMany, .ref a_bestPass, .ref a_far, .ref a_waited, .ref a_servers, .ref a_images, .ref a_isMade])), (a_said, .inl (kA 0, 360, .inl saidF))]) hP hD
  refine lv_if_eq (tgt := 20) hx hb dX11_of_5 (by decide) (fun c_26 => ?_) (fun c_26 => ?_)
  · have hG := zthen hG c_26
    refine lv_bipush (v := (-2)) hx hb dX11_of_20 (by decide) ?_
    obtain ⟨hP9, hD9⟩ := z_sb (L' := [(n0, .inr (11, .ref a_tape :: .int m_taped :: .int m_laws :: .ref a_sign :: .ref a_length :: .ref a_clause :: .ref a_clauses :: .ref a_chain :: .int m_next :: .int m_wrong :: .int m_number :: .int m_text :: .int m_made :: .int m_deep :: .int m_lines :: .ref a_open :: .int m_opened :: .ref a_stack :: .int m_top :: .ref a_word :: .ref a_said :: .ref a_kept :: [.int m_goNode, .int m_goDrops, .int m_goHour, .int m_goFelt, .int m_goSalt, .int m_goMore, .ref a_stepNode, .ref a_stepDrops, .ref a_stepHour, .ref a_stepNext, .ref a_stepPass, .int m_bestLeft, .int m_bestHour, .int m_bestMany, .ref a_bestPass, .ref a_far, .ref a_waited, .ref a_servers, .ref a_images, .ref a_isMade])), (a_said, .inl (kA 0, 360, .inl saidF))]) hP hD [0, 1] (by decide) rfl
    refine W.widen (k := 0) (n := 0) (Nat.le_of_ble_eq_true rfl) (Nat.le_of_ble_eq_true rfl) ?_
    exact W.iret (v := (-2)) hx hb hr (fun t ht hW => ⟨⟨(-2), ((-2)), rfl, ⟨rfl, (hG.trans hG0.symm)⟩, by rw [ht]; exact hP9, hD9⟩, hS.F ht⟩) hS.2.2 dX11_of_22
  · have hG := zelse hG c_26
    have c_26a := hs_ne c_26
    have c_26b := c_26a.2
    have c_26a := c_26a.1
    refine lv_iload_n hx hb dX11_of_8 rfl (lv_at hl 2 rfl) ?_
    refine lv_i2l hx hb dX11_of_9 rfl ?_
    refine lv_lconst (v := 0) hx hb dX11_of_10 (by decide) ?_
    refine lv_ldc2 hx hb hown (kX11_of_1 hts) dX11_of_11 ?_
    refine z_i (wr := [(n0, .inr (11, .ref a_tape :: .int m_taped :: .int m_laws :: .ref a_sign :: .ref a_length :: .ref a_clause :: .ref a_clauses :: .ref a_chain :: .int m_next :: .int m_wrong :: .int m_number :: .int m_text :: .int m_made :: .int m_deep :: .int m_lines :: .ref a_open :: .int m_opened :: .ref a_stack :: .int m_top :: .ref a_word :: .ref a_said :: .ref a_kept :: [.int m_goNode, .int m_goDrops, .int m_goHour, .int m_goFelt, .int m_goSalt, .int m_goMore, .ref a_stepNode, .ref a_stepDrops, .ref a_stepHour, .ref a_stepNext, .ref a_stepPass, .int m_bestLeft, .int m_bestHour, .int m_bestMany, .ref a_bestPass, .ref a_far, .ref a_waited, .ref a_servers, .ref a_images, .ref a_isMade])), (a_said, .inl (kA 0, 360, .inl saidF))]) (va_runS (As := [.long p1.toInt64, .long 0, .long 8]) (rest := []) ⟨hx, hb, hml, hown, hts⟩ (mX11_in l dC dI kA _ p1.toInt64 0 8) (va_cwS 3 hts gX11_of_X11_in rfl rfl rfl hdX11_in ⟨(Nat.le_of_ble_eq_true rfl), (Nat.le_of_ble_eq_true rfl)⟩) ⟨zPc.blind, zPre hK (hP.sub [] rfl) (hD.sub [] (by decide) rfl)⟩ rfl rfl hl.1 rfl (lv_room (Nat.le_of_ble_eq_true rfl)) dX11_of_14 ⟨(Nat.le_of_ble_eq_true rfl), (Nat.le_of_ble_eq_true rfl)⟩) hP hD hS hA [] [0, 1] rfl rfl (by decide) (by decide) (fun r29 u27 H locs hw28 hP hD hS => ?_)
    obtain rfl := hw28
    obtain ⟨hP, hD⟩ := z_re (L := [(n0, .inr (11, .ref a_tape :: .int m_taped :: .int m_laws :: .ref a_sign :: .ref a_length :: .ref a_clause :: .ref a_clauses :: .ref a_chain :: .int m_next :: .int m_wrong :: .int m_number :: .int m_text :: .int m_made :: .int m_deep :: .int m_lines :: .ref a_open :: .int m_opened :: .ref a_stack :: .int m_top :: .ref a_word :: .ref a_said :: .ref a_kept :: [.int m_goNode, .int m_goDrops, .int m_goHour, .int m_goFelt, .int m_goSalt, .int m_goMore, .ref a_stepNode, .ref a_stepDrops, .ref a_stepHour, .ref a_stepNext, .ref a_stepPass, .int m_bestLeft, .int m_bestHour, .int m_bestMany, .ref a_bestPass, .ref a_far, .ref a_waited, .ref a_servers, .ref a_images, .ref a_isMade])), (a_said, .inl (kA 0, 360, .inl saidF))]) hP hD
    refine lv_if_ne (tgt := 23) hx hb dX11_of_17 (by decide) (fun c_30 => ?_) (fun c_30 => ?_)
    · have hG := zelse hG c_30
      have c_30a := li_ne (lo := 0) (hi := 8) (by decide) (by decide) c_30
      have c_30b := c_30a.2
      have c_30a := c_30a.1
      refine lv_aload_n hx hb dX11_of_23 rfl (lv_at hl 0 rfl) ?_
      refine lv_iload_n hx hb dX11_of_24 rfl (lv_at hl 1 rfl) ?_
      refine lv_iload_n hx hb dX11_of_25 rfl (lv_at hl 2 rfl) ?_
      refine lv_iconst (v := 5) hx hb dX11_of_26 (by decide) ?_
      refine lv_icmp_ge (tgt := 36) hx hb dX11_of_27 (by decide) (fun c_31 => ?_) (fun c_31 => ?_)
      · have hG := zthen hG c_31
        refine lv_iload_n hx hb dX11_of_36 rfl (lv_at hl 2 rfl) ?_
        refine lv_iconst (v := 5) hx hb dX11_of_37 (by decide) ?_
        refine lv_isub hx hb dX11_of_38 ?_
        refine z_i (wr := []) (va_runV (As := [.int p0, .int (p1 - 5)]) (rest := []) ⟨hx, hb, hml, hown, hts⟩ (mX11_jarOf l dC dI kA _ n0 m_taped m_laws m_next m_wrong m_number m_text m_made m_deep m_lines m_opened m_top m_goNode m_goDrops m_goHour m_goFelt m_goSalt m_goMore m_bestLeft m_bestHour m_bestMany a_tape a_sign a_length a_clause a_clauses a_chain a_open a_stack a_word a_said a_kept a_stepNode a_stepDrops a_stepHour a_stepNext a_stepPass a_bestPass a_far a_waited a_servers a_images a_isMade saidF p0 (p1 - 5) c_26a (z_tr c_26b hz14) (gl_mX11_of_0 p1 c_30a c_30b c_31) (gl_mX11_of_1 p1 c_30a c_30b c_31)) (cwV 2 hts gX11_of_X11_jarOf rfl rfl rfl ⟨rfl, hdX11_jarOf⟩ ⟨(Nat.le_of_ble_eq_true rfl), (Nat.le_of_ble_eq_true rfl)⟩) ⟨zPc.blind, va_recv (q := (RX11, TX11, 42)) hK.1 hP (ci := 11) (q0 := 0) rfl rfl, zPre hK (hP.sub [0, 1] rfl) (hD.sub [0, 1] (by decide) rfl)⟩ rfl rfl hl.1 rfl (lv_room (Nat.le_of_ble_eq_true rfl)) dX11_of_39 ⟨(Nat.le_of_ble_eq_true rfl), (Nat.le_of_ble_eq_true rfl)⟩) hP hD hS hA [0, 1] [] rfl rfl (by decide) (by decide) (fun r34 u32 H locs hw33 hP hD hS => ?_)
        obtain rfl := hw33
        obtain ⟨hP, hD⟩ := z_re (L := [(n0, .inr (11, .ref a_tape :: .int m_taped :: .int m_laws :: .ref a_sign :: .ref a_length :: .ref a_clause :: .ref a_clauses :: .ref a_chain :: .int m_next :: .int m_wrong :: .int m_number :: .int m_text :: .int m_made :: .int m_deep :: .int m_lines :: .ref a_open :: .int m_opened :: .ref a_stack :: .int m_top :: .ref a_word :: .ref a_said :: .ref a_kept :: [.int m_goNode, .int m_goDrops, .int m_goHour, .int m_goFelt, .int m_goSalt, .int m_goMore, .ref a_stepNode, .ref a_stepDrops, .ref a_stepHour, .ref a_stepNext, .ref a_stepPass, .int m_bestLeft, .int m_bestHour, .int m_bestMany, .ref a_bestPass, .ref a_far, .ref a_waited, .ref a_servers, .ref a_images, .ref a_isMade])), (a_said, .inl (kA 0, 360, .inl saidF))]) hP hD
        obtain ⟨hP9, hD9⟩ := z_sb (L' := [(n0, .inr (11, .ref a_tape :: .int m_taped :: .int m_laws :: .ref a_sign :: .ref a_length :: .ref a_clause :: .ref a_clauses :: .ref a_chain :: .int m_next :: .int m_wrong :: .int m_number :: .int m_text :: .int m_made :: .int m_deep :: .int m_lines :: .ref a_open :: .int m_opened :: .ref a_stack :: .int m_top :: .ref a_word :: .ref a_said :: .ref a_kept :: [.int m_goNode, .int m_goDrops, .int m_goHour, .int m_goFelt, .int m_goSalt, .int m_goMore, .ref a_stepNode, .ref a_stepDrops, .ref a_stepHour, .ref a_stepNext, .ref a_stepPass, .int m_bestLeft, .int m_bestHour, .int m_bestMany, .ref a_bestPass, .ref a_far, .ref a_waited, .ref a_servers, .ref a_images, .ref a_isMade])), (a_said, .inl (kA 0, 360, .inl saidF))]) hP hD [0, 1] (by decide) rfl
        refine W.widen (k := 0) (n := 0) (Nat.le_of_ble_eq_true rfl) (Nat.le_of_ble_eq_true rfl) ?_
        exact W.iret (v := (saidF ((168 + (9 * p0)) + (p1 - 5)).toNatClampNeg)) hx hb hr (fun t ht hW => ⟨⟨(saidF ((168 + (9 * p0)) + (p1 - 5)).toNatClampNeg), ((saidF ((168 + (9 * p0)) + (p1 - 5)).toNatClampNeg)), rfl, ⟨rfl, (hG.trans hG0.symm)⟩, by rw [ht]; exact hP9, hD9⟩, hS.F ht⟩) hS.2.2 dX11_of_42
      · have hG := zelse hG c_31
        refine lv_iload_n hx hb dX11_of_30 rfl (lv_at hl 2 rfl) ?_
        refine lv_iconst (v := 4) hx hb dX11_of_31 (by decide) ?_
        refine lv_iadd hx hb dX11_of_32 ?_
        refine lv_goto (tgt := 39) hx hb dX11_of_33 (by decide) ?_
        refine z_i (wr := []) (va_runV (As := [.int p0, .int (p1 + 4)]) (rest := []) ⟨hx, hb, hml, hown, hts⟩ (mX11_jarOf l dC dI kA _ n0 m_taped m_laws m_next m_wrong m_number m_text m_made m_deep m_lines m_opened m_top m_goNode m_goDrops m_goHour m_goFelt m_goSalt m_goMore m_bestLeft m_bestHour m_bestMany a_tape a_sign a_length a_clause a_clauses a_chain a_open a_stack a_word a_said a_kept a_stepNode a_stepDrops a_stepHour a_stepNext a_stepPass a_bestPass a_far a_waited a_servers a_images a_isMade saidF p0 (p1 + 4) c_26a (z_tr c_26b hz14) (gl_mX11_of_2 p1 c_30a c_30b c_31) (gl_mX11_of_3 p1 c_30a c_30b c_31)) (cwV 2 hts gX11_of_X11_jarOf rfl rfl rfl ⟨rfl, hdX11_jarOf⟩ ⟨(Nat.le_of_ble_eq_true rfl), (Nat.le_of_ble_eq_true rfl)⟩) ⟨zPc.blind, va_recv (q := (RX11, TX11, 42)) hK.1 hP (ci := 11) (q0 := 0) rfl rfl, zPre hK (hP.sub [0, 1] rfl) (hD.sub [0, 1] (by decide) rfl)⟩ rfl rfl hl.1 rfl (lv_room (Nat.le_of_ble_eq_true rfl)) dX11_of_39 ⟨(Nat.le_of_ble_eq_true rfl), (Nat.le_of_ble_eq_true rfl)⟩) hP hD hS hA [0, 1] [] rfl rfl (by decide) (by decide) (fun r37 u35 H locs hw36 hP hD hS => ?_)
        obtain rfl := hw36
        obtain ⟨hP, hD⟩ := z_re (L := [(n0, .inr (11, .ref a_tape :: .int m_taped :: .int m_laws :: .ref a_sign :: .ref a_length :: .ref a_clause :: .ref a_clauses :: .ref a_chain :: .int m_next :: .int m_wrong :: .int m_number :: .int m_text :: .int m_made :: .int m_deep :: .int m_lines :: .ref a_open :: .int m_opened :: .ref a_stack :: .int m_top :: .ref a_word :: .ref a_said :: .ref a_kept :: [.int m_goNode, .int m_goDrops, .int m_goHour, .int m_goFelt, .int m_goSalt, .int m_goMore, .ref a_stepNode, .ref a_stepDrops, .ref a_stepHour, .ref a_stepNext, .ref a_stepPass, .int m_bestLeft, .int m_bestHour, .int m_bestMany, .ref a_bestPass, .ref a_far, .ref a_waited, .ref a_servers, .ref a_images, .ref a_isMade])), (a_said, .inl (kA 0, 360, .inl saidF))]) hP hD
        obtain ⟨hP9, hD9⟩ := z_sb (L' := [(n0, .inr (11, .ref a_tape :: .int m_taped :: .int m_laws :: .ref a_sign :: .ref a_length :: .ref a_clause :: .ref a_clauses :: .ref a_chain :: .int m_next :: .int m_wrong :: .int m_number :: .int m_text :: .int m_made :: .int m_deep :: .int m_lines :: .ref a_open :: .int m_opened :: .ref a_stack :: .int m_top :: .ref a_word :: .ref a_said :: .ref a_kept :: [.int m_goNode, .int m_goDrops, .int m_goHour, .int m_goFelt, .int m_goSalt, .int m_goMore, .ref a_stepNode, .ref a_stepDrops, .ref a_stepHour, .ref a_stepNext, .ref a_stepPass, .int m_bestLeft, .int m_bestHour, .int m_bestMany, .ref a_bestPass, .ref a_far, .ref a_waited, .ref a_servers, .ref a_images, .ref a_isMade])), (a_said, .inl (kA 0, 360, .inl saidF))]) hP hD [0, 1] (by decide) rfl
        refine W.widen (k := 0) (n := 0) (Nat.le_of_ble_eq_true rfl) (Nat.le_of_ble_eq_true rfl) ?_
        exact W.iret (v := (saidF ((168 + (9 * p0)) + (p1 + 4)).toNatClampNeg)) hx hb hr (fun t ht hW => ⟨⟨(saidF ((168 + (9 * p0)) + (p1 + 4)).toNatClampNeg), ((saidF ((168 + (9 * p0)) + (p1 + 4)).toNatClampNeg)), rfl, ⟨rfl, (hG.trans hG0.symm)⟩, by rw [ht]; exact hP9, hD9⟩, hS.F ht⟩) hS.2.2 dX11_of_42
    · have hG := zthen hG c_30
      refine lv_bipush (v := (-2)) hx hb dX11_of_20 (by decide) ?_
      obtain ⟨hP9, hD9⟩ := z_sb (L' := [(n0, .inr (11, .ref a_tape :: .int m_taped :: .int m_laws :: .ref a_sign :: .ref a_length :: .ref a_clause :: .ref a_clauses :: .ref a_chain :: .int m_next :: .int m_wrong :: .int m_number :: .int m_text :: .int m_made :: .int m_deep :: .int m_lines :: .ref a_open :: .int m_opened :: .ref a_stack :: .int m_top :: .ref a_word :: .ref a_said :: .ref a_kept :: [.int m_goNode, .int m_goDrops, .int m_goHour, .int m_goFelt, .int m_goSalt, .int m_goMore, .ref a_stepNode, .ref a_stepDrops, .ref a_stepHour, .ref a_stepNext, .ref a_stepPass, .int m_bestLeft, .int m_bestHour, .int m_bestMany, .ref a_bestPass, .ref a_far, .ref a_waited, .ref a_servers, .ref a_images, .ref a_isMade])), (a_said, .inl (kA 0, 360, .inl saidF))]) hP hD [0, 1] (by decide) rfl
      refine W.widen (k := 0) (n := 0) (Nat.le_of_ble_eq_true rfl) (Nat.le_of_ble_eq_true rfl) ?_
      exact W.iret (v := (-2)) hx hb hr (fun t ht hW => ⟨⟨(-2), ((-2)), rfl, ⟨rfl, (hG.trans hG0.symm)⟩, by rw [ht]; exact hP9, hD9⟩, hS.F ht⟩) hS.2.2 dX11_of_22
theorem gl_mX11_wayEnd_0 (zw : Int32) (l10_0 : Int32) (h0 : ¬ zw < 0) (h1 : ¬ 6 < zw) (h2 : ¬ l10_0 < 0) (h3 : ¬ zw ≤ l10_0) : (¬ (10 + l10_0) < 0 ∧ ¬ 360 ≤ (10 + l10_0)) := by grind
set_option maxRecDepth 100000 in
def fb_mX11_wayEnd_10 (saidF : Nat → Int32) (zw : Int32) (E42 : Int32 → Int32 → Int32) (K : Int32 → Int32 → Int32) (l10_0 : Int32) (l10_1 : Int32) : Int32 := if zw ≤ l10_0 then (E42 l10_0 l10_1) else (bnd (saidF (10 + l10_0).toNatClampNeg) (fun (xy10_2 : Int32) => bnd ((oth saidF xy10_2 l10_1)) (fun (xy10_9 : Int32) => bnd ((l10_0 + 1)) (fun (xy10_10 : Int32) => K xy10_10 xy10_9))))
def fl_mX11_wayEnd_10 (saidF : Nat → Int32) (zw : Int32) (E42 : Int32 → Int32 → Int32) : Nat → Int32 → Int32 → Int32
  | 0, _, _ => 0
  | n + 1, l10_0, l10_1 => fb_mX11_wayEnd_10 saidF zw E42 (fl_mX11_wayEnd_10 saidF zw E42 n) l10_0 l10_1
set_option maxHeartbeats 4000000 in
set_option maxRecDepth 100000 in
theorem lp_mX11_wayEnd_10 {p : Program} {l : Launch} {e : Env} {R : Room} {s : State} {m : MethodId} {args : Array Value} {below : List Frame} {meth : Method} {c : Code} {Q : State → Prop} {dC : Nat → ClassId} {dI : Nat → Nat → Nat} {kA : Nat → ClassId} {A : Nat → Prop} {H0 : Heap} {cells slots : Nat} (hx : p.tables.exec = Jvm.exec) (hb : c.code = cX11_wayEnd) (hml : c.maxLocals = 3) (hts : ∀ w ∈ wsX11_wayEnd, w.before args s = true) (hown : s.vm.findClass RX11 = some m.cls) (hK : zK dC dI kA s) (hA : ∀ q, H0.size ≤ q → A q) (hRf : 2 ≤ R.frames) (hRl : 44 ≤ R.locals) (hRc : cells ≤ R.cells) (hRs : slots ≤ R.slots) (n0 : Nat) (m_taped : Int32) (m_laws : Int32) (m_next : Int32) (m_wrong : Int32) (m_number : Int32) (m_text : Int32) (m_made : Int32) (m_deep : Int32) (m_lines : Int32) (m_opened : Int32) (m_top : Int32) (m_goNode : Int32) (m_goDrops : Int32) (m_goHour : Int32) (m_goFelt : Int32) (m_goSalt : Int32) (m_goMore : Int32) (m_bestLeft : Int32) (m_bestHour : Int32) (m_bestMany : Int32) (a_tape : Nat) (a_sign : Nat) (a_length : Nat) (a_clause : Nat) (a_clauses : Nat) (a_chain : Nat) (a_open : Nat) (a_stack : Nat) (a_word : Nat) (a_said : Nat) (a_kept : Nat) (a_stepNode : Nat) (a_stepDrops : Nat) (a_stepHour : Nat) (a_stepNext : Nat) (a_stepPass : Nat) (a_bestPass : Nat) (a_far : Nat) (a_waited : Nat) (a_servers : Nat) (a_images : Nat) (a_isMade : Nat) (saidF : Nat → Int32) (zn : Int32) (zp : Int32) (zj : Int32) (zo : Int32) (zf : Int32) (zm : Int32) (zk : Int32) (zw : Int32) (pd : Nat → Int32) {G : Int32} {E42 : Int32 → Int32 → Int32} (hsc : SC saidF zn zp zj zo zf zm zk zw pd) (hz1 : (saidF 0) = zn) (hz2 : (saidF 1) = zp) (hz3 : (saidF 2) = zj) (hz4 : (saidF 3) = zo) (hz5 : (saidF 4) = zf) (hz6 : (saidF 6) = zm) (hz7 : (saidF 8) = zk) (hz8 : (saidF 9) = zw) (hz9 : ¬ zn < 0) (hz10 : ¬ 12 < zn) (hz11 : ¬ zp < 0) (hz12 : ¬ 20 < zp) (hz13 : ¬ zj < 0) (hz14 : ¬ 16 < zj) (hz15 : ¬ zo < 0) (hz16 : ¬ 6 < zo) (hz17 : ¬ zf < 0) (hz18 : ¬ 8 < zf) (hz19 : ¬ zk < (-1)) (hz20 : ¬ 12 ≤ zk) (hz21 : ¬ zw < 0) (hz22 : ¬ 6 < zw) (k42 : ∀ (w42_0 : Int32) (w42_1 : Int32) (H : Heap) (locs : List Loc) (ls : Array Slot), ¬ w42_0 < 0 → E42 w42_0 w42_1 = G → va_P (dC, dI) vwCl [(n0, .inr (11, .ref a_tape :: .int m_taped :: .int m_laws :: .ref a_sign :: .ref a_length :: .ref a_clause :: .ref a_clauses :: .ref a_chain :: .int m_next :: .int m_wrong :: .int m_number :: .int m_text :: .int m_made :: .int m_deep :: .int m_lines :: .ref a_open :: .int m_opened :: .ref a_stack :: .int m_top :: .ref a_word :: .ref a_said :: .ref a_kept :: [.int m_goNode, .int m_goDrops, .int m_goHour, .int m_goFelt, .int m_goSalt, .int m_goMore, .ref a_stepNode, .ref a_stepDrops, .ref a_stepHour, .ref a_stepNext, .ref a_stepPass, .int m_bestLeft, .int m_bestHour, .int m_bestMany, .ref a_bestPass, .ref a_far, .ref a_waited, .ref a_servers, .ref a_images, .ref a_isMade])), (a_said, .inl (kA 0, 360, .inl saidF))] H → va_D A [(n0, .inr (11, .ref a_tape :: .int m_taped :: .int m_laws :: .ref a_sign :: .ref a_length :: .ref a_clause :: .ref a_clauses :: .ref a_chain :: .int m_next :: .int m_wrong :: .int m_number :: .int m_text :: .int m_made :: .int m_deep :: .int m_lines :: .ref a_open :: .int m_opened :: .ref a_stack :: .int m_top :: .ref a_word :: .ref a_said :: .ref a_kept :: [.int m_goNode, .int m_goDrops, .int m_goHour, .int m_goFelt, .int m_goSalt, .int m_goMore, .ref a_stepNode, .ref a_stepDrops, .ref a_stepHour, .ref a_stepNext, .ref a_stepPass, .int m_bestLeft, .int m_bestHour, .int m_bestMany, .ref a_bestPass, .ref a_far, .ref a_waited, .ref a_servers, .ref a_images, .ref a_isMade])), (a_said, .inl (kA 0, 360, .inl saidF))] → va_S A H0 H locs → lv_has ls 3 [(2, .int w42_0), (1, .int w42_1), (0, .ref n0)] → W p l e R s m args below meth c H locs cells slots Q (F0 m 42 ls []))  : ∀ (n : Nat) (l10_0 : Int32) (l10_1 : Int32) (H : Heap) (locs : List Loc) (ls : Array Slot), ((zw : Int32).toInt - l10_0.toInt).toNat < n → fl_mX11_wayEnd_10 saidF zw E42 n l10_0 l10_1 = G → ¬ l10_0 < 0 → va_P (dC, dI) vwCl [(n0, .inr (11, .ref a_tape :: .int m_taped :: .int m_laws :: .ref a_sign :: .ref a_length :: .ref a_clause :: .ref a_clauses :: .ref a_chain :: .int m_next :: .int m_wrong :: .int m_number :: .int m_text :: .int m_made :: .int m_deep :: .int m_lines :: .ref a_open :: .int m_opened :: .ref a_stack :: .int m_top :: .ref a_word :: .ref a_said :: .ref a_kept :: [.int m_goNode, .int m_goDrops, .int m_goHour, .int m_goFelt, .int m_goSalt, .int m_goMore, .ref a_stepNode, .ref a_stepDrops, .ref a_stepHour, .ref a_stepNext, .ref a_stepPass, .int m_bestLeft, .int m_bestHour, .int m_bestMany, .ref a_bestPass, .ref a_far, .ref a_waited, .ref a_servers, .ref a_images, .ref a_isMade])), (a_said, .inl (kA 0, 360, .inl saidF))] H → va_D A [(n0, .inr (11, .ref a_tape :: .int m_taped :: .int m_laws :: .ref a_sign :: .ref a_length :: .ref a_clause :: .ref a_clauses :: .ref a_chain :: .int m_next :: .int m_wrong :: .int m_number :: .int m_text :: .int m_made :: .int m_deep :: .int m_lines :: .ref a_open :: .int m_opened :: .ref a_stack :: .int m_top :: .ref a_word :: .ref a_said :: .ref a_kept :: [.int m_goNode, .int m_goDrops, .int m_goHour, .int m_goFelt, .int m_goSalt, .int m_goMore, .ref a_stepNode, .ref a_stepDrops, .ref a_stepHour, .ref a_stepNext, .ref a_stepPass, .int m_bestLeft, .int m_bestHour, .int m_bestMany, .ref a_bestPass, .ref a_far, .ref a_waited, .ref a_servers, .ref a_images, .ref a_isMade])), (a_said, .inl (kA 0, 360, .inl saidF))] → va_S A H0 H locs → lv_has ls 3 [(2, .int l10_0), (1, .int l10_1), (0, .ref n0)] → W p l e R s m args below meth c H locs cells slots Q (F0 m 10 ls []) := by
  intro n
  induction n with
  | zero =>
    intro l10_0 l10_1 H locs ls hn
    exact absurd hn (Nat.not_lt_zero _)
  | succ n ih =>
    intro l10_0 l10_1 H locs ls hn hG hi10 hP hD hS hl
    have hG : fb_mX11_wayEnd_10 saidF zw E42 (fl_mX11_wayEnd_10 saidF zw E42 n) l10_0 l10_1 = G := hG
    unfold fb_mX11_wayEnd_10 at hG
    refine lv_iload_n hx hb dX11_wayEnd_10 rfl (lv_at hl 0 rfl) ?_
    refine lv_aload_n hx hb dX11_wayEnd_11 rfl (lv_at hl 2 rfl) ?_
    refine va_get (D := (dC, dI)) (ci := 11) (v := .ref a_said) (C := RX11) (T := TX11) (N := 42) hx hb hts iX11_wayEnd_X11 hown hK.1 hP 0 gz0 vcz11 20 (by decide) (kX11_wayEnd_1 hts) (fun _ h9 => h9) gz20 dX11_wayEnd_12 ?_
    refine lv_bipush (v := 9) hx hb dX11_wayEnd_15 (by decide) ?_
    refine va_iald hx hb hK.1 hP 1 0 gz1 tzz0 (vpd (by decide)) dX11_wayEnd_17 ?_
    refine zi zw hz8 ?_
    refine lv_icmp_ge (tgt := 42) hx hb dX11_wayEnd_18 (by decide) (fun c_y10_1 => ?_) (fun c_y10_1 => ?_)
    · have hG := zthen hG c_y10_1
      exact k42 l10_0 l10_1 H locs ls hi10 hG (hP.sub [0, 1] rfl) (hD.sub [0, 1] (by decide) rfl) hS (lv_sub hl [0, 1, 2] rfl)
    · have hG := zelse hG c_y10_1
      refine lv_aload_n hx hb dX11_wayEnd_21 rfl (lv_at hl 2 rfl) ?_
      refine lv_aload_n hx hb dX11_wayEnd_22 rfl (lv_at hl 2 rfl) ?_
      refine va_get (D := (dC, dI)) (ci := 11) (v := .ref a_said) (C := RX11) (T := TX11) (N := 42) hx hb hts iX11_wayEnd_X11 hown hK.1 hP 0 gz0 vcz11 20 (by decide) (kX11_wayEnd_1 hts) (fun _ h9 => h9) gz20 dX11_wayEnd_23 ?_
      refine lv_bipush (v := 10) hx hb dX11_wayEnd_26 (by decide) ?_
      refine lv_iload_n hx hb dX11_wayEnd_28 rfl (lv_at hl 0 rfl) ?_
      refine lv_iadd hx hb dX11_wayEnd_29 ?_
      refine va_iald hx hb hK.1 hP 1 0 gz1 tzz0 (vp_g (N := 360) (by decide) (gl_mX11_wayEnd_0 zw l10_0 hz21 hz22 hi10 c_y10_1)) dX11_wayEnd_30 ?_
      refine lv_topi (fun xy10_2 exy10_2 => ?_)
      have hG := zbnd hG exy10_2
      have hyy10_3a : ¬ xy10_2 < 0 := by rw [exy10_2]; exact (S_way hsc hi10 c_y10_1).1
      have hyy10_3b : ¬ zp ≤ xy10_2 := by rw [exy10_2]; exact (S_way hsc hi10 c_y10_1).2
      refine lv_iload_n hx hb dX11_wayEnd_31 rfl (lv_at hl 1 rfl) ?_
      refine z_i (wr := []) (va_runV (As := [.int xy10_2, .int l10_1]) (rest := []) ⟨hx, hb, hml, hown, hts⟩ (mX11_other l dC dI kA _ n0 m_taped m_laws m_next m_wrong m_number m_text m_made m_deep m_lines m_opened m_top m_goNode m_goDrops m_goHour m_goFelt m_goSalt m_goMore m_bestLeft m_bestHour m_bestMany a_tape a_sign a_length a_clause a_clauses a_chain a_open a_stack a_word a_said a_kept a_stepNode a_stepDrops a_stepHour a_stepNext a_stepPass a_bestPass a_far a_waited a_servers a_images a_isMade saidF zn zp zj zo zf zm zk zw pd xy10_2 l10_1 hsc hyy10_3a (z_tr hyy10_3b hz12)) (cwV 2 hts gX11_wayEnd_X11_other rfl rfl rfl ⟨rfl, hdX11_other⟩ ⟨(Nat.le_trans (Nat.le_of_ble_eq_true rfl) hRf), (Nat.le_trans (Nat.le_of_ble_eq_true rfl) hRl)⟩) ⟨zPc.blind, va_recv (q := (RX11, TX11, 42)) hK.1 hP (ci := 11) (q0 := 0) rfl rfl, zPre hK (hP.sub [0, 1] rfl) (hD.sub [0, 1] (by decide) rfl)⟩ rfl rfl hl.1 rfl (lv_room (Nat.le_of_ble_eq_true rfl)) dX11_wayEnd_32 ⟨hRc, hRs⟩) hP hD hS hA [0, 1] [] rfl rfl (by decide) (by decide) (fun ry10_6 uy10_4 H locs hwy10_5 hP hD hS => ?_)
      obtain ⟨rfl, hpy10_7, hpy10_8⟩ := hwy10_5
      obtain ⟨hP, hD⟩ := z_re (L := [(n0, .inr (11, .ref a_tape :: .int m_taped :: .int m_laws :: .ref a_sign :: .ref a_length :: .ref a_clause :: .ref a_clauses :: .ref a_chain :: .int m_next :: .int m_wrong :: .int m_number :: .int m_text :: .int m_made :: .int m_deep :: .int m_lines :: .ref a_open :: .int m_opened :: .ref a_stack :: .int m_top :: .ref a_word :: .ref a_said :: .ref a_kept :: [.int m_goNode, .int m_goDrops, .int m_goHour, .int m_goFelt, .int m_goSalt, .int m_goMore, .ref a_stepNode, .ref a_stepDrops, .ref a_stepHour, .ref a_stepNext, .ref a_stepPass, .int m_bestLeft, .int m_bestHour, .int m_bestMany, .ref a_bestPass, .ref a_far, .ref a_waited, .ref a_servers, .ref a_images, .ref a_isMade])), (a_said, .inl (kA 0, 360, .inl saidF))]) hP hD
      refine lv_topi (fun xy10_9 exy10_9 => ?_)
      have hG := zbnd hG exy10_9
      refine lv_istore_n (lv' := [(1, .int xy10_9), (2, .int l10_0), (0, .ref n0)]) hx hb dX11_wayEnd_35 rfl hl (by decide) rfl (fun ls hl => ?_)
      obtain ⟨xy10_10, exy10_10⟩ : ∃ y : Int32, y = l10_0 + 1 := ⟨_, rfl⟩
      have hG := zbnd hG exy10_10
      refine lv_iinc (v := xy10_10) (lv' := [(2, .int xy10_10), (1, .int xy10_9), (0, .ref n0)]) hx hb dX11_wayEnd_36 hl (k := 1) rfl (by rw [exy10_10]; rfl) (by decide) rfl (fun ls hl => ?_)
      refine lv_goto (tgt := 10) hx hb dX11_wayEnd_39 (by decide) ?_
      exact ih xy10_10 xy10_9 H locs ls (z_up hn exy10_10 c_y10_1) hG (z_nn exy10_10 c_y10_1 hi10) (hP.sub [0, 1] rfl) (hD.sub [0, 1] (by decide) rfl) hS (lv_sub hl [0, 1, 2] rfl)
set_option maxRecDepth 100000 in
def fX11_wayEnd (saidF : Nat → Int32) (zk : Int32) (zw : Int32) : Int32 := fl_mX11_wayEnd_10 saidF zw (fun (w42_0_0 : Int32) (w42_1_0 : Int32) => w42_1_0) (((zw : Int32).toInt - (0 : Int32).toInt).toNat + 1) 0 zk
set_option maxHeartbeats 4000000 in
set_option maxRecDepth 100000 in
theorem mX11_wayEnd (l : Launch) (dC : Nat → ClassId) (dI : Nat → Nat → Nat) (kA : Nat → ClassId) (sz : Nat) (n0 : Nat) (m_taped : Int32) (m_laws : Int32) (m_next : Int32) (m_wrong : Int32) (m_number : Int32) (m_text : Int32) (m_made : Int32) (m_deep : Int32) (m_lines : Int32) (m_opened : Int32) (m_top : Int32) (m_goNode : Int32) (m_goDrops : Int32) (m_goHour : Int32) (m_goFelt : Int32) (m_goSalt : Int32) (m_goMore : Int32) (m_bestLeft : Int32) (m_bestHour : Int32) (m_bestMany : Int32) (a_tape : Nat) (a_sign : Nat) (a_length : Nat) (a_clause : Nat) (a_clauses : Nat) (a_chain : Nat) (a_open : Nat) (a_stack : Nat) (a_word : Nat) (a_said : Nat) (a_kept : Nat) (a_stepNode : Nat) (a_stepDrops : Nat) (a_stepHour : Nat) (a_stepNext : Nat) (a_stepPass : Nat) (a_bestPass : Nat) (a_far : Nat) (a_waited : Nat) (a_servers : Nat) (a_images : Nat) (a_isMade : Nat) (saidF : Nat → Int32) (zn : Int32) (zp : Int32) (zj : Int32) (zo : Int32) (zf : Int32) (zm : Int32) (zk : Int32) (zw : Int32) (pd : Nat → Int32) (hsc : SC saidF zn zp zj zo zf zm zk zw pd) : Met l yX11_wayEnd wsX11_wayEnd ({ frames := 2, cells := 0, slots := 0, locals := 44 }) (zPc dC dI kA sz [.ref n0] [(n0, .inr (11, .ref a_tape :: .int m_taped :: .int m_laws :: .ref a_sign :: .ref a_length :: .ref a_clause :: .ref a_clauses :: .ref a_chain :: .int m_next :: .int m_wrong :: .int m_number :: .int m_text :: .int m_made :: .int m_deep :: .int m_lines :: .ref a_open :: .int m_opened :: .ref a_stack :: .int m_top :: .ref a_word :: .ref a_said :: .ref a_kept :: [.int m_goNode, .int m_goDrops, .int m_goHour, .int m_goFelt, .int m_goSalt, .int m_goMore, .ref a_stepNode, .ref a_stepDrops, .ref a_stepHour, .ref a_stepNext, .ref a_stepPass, .int m_bestLeft, .int m_bestHour, .int m_bestMany, .ref a_bestPass, .ref a_far, .ref a_waited, .ref a_servers, .ref a_images, .ref a_isMade])), (a_said, .inl (kA 0, 360, .inl saidF))]) (va_Qi (fun (r : Int32) (u : Int32) => r = u ∧ u = fX11_wayEnd saidF zk zw) (zB dC dI (va_A [(n0, .inr (11, .ref a_tape :: .int m_taped :: .int m_laws :: .ref a_sign :: .ref a_length :: .ref a_clause :: .ref a_clauses :: .ref a_chain :: .int m_next :: .int m_wrong :: .int m_number :: .int m_text :: .int m_made :: .int m_deep :: .int m_lines :: .ref a_open :: .int m_opened :: .ref a_stack :: .int m_top :: .ref a_word :: .ref a_said :: .ref a_kept :: [.int m_goNode, .int m_goDrops, .int m_goHour, .int m_goFelt, .int m_goSalt, .int m_goMore, .ref a_stepNode, .ref a_stepDrops, .ref a_stepHour, .ref a_stepNext, .ref a_stepPass, .int m_bestLeft, .int m_bestHour, .int m_bestMany, .ref a_bestPass, .ref a_far, .ref a_waited, .ref a_servers, .ref a_images, .ref a_isMade])), (a_said, .inl (kA 0, 360, .inl saidF))] sz) (fun (u : Int32) => [(n0, .inr (11, .ref a_tape :: .int m_taped :: .int m_laws :: .ref a_sign :: .ref a_length :: .ref a_clause :: .ref a_clauses :: .ref a_chain :: .int m_next :: .int m_wrong :: .int m_number :: .int m_text :: .int m_made :: .int m_deep :: .int m_lines :: .ref a_open :: .int m_opened :: .ref a_stack :: .int m_top :: .ref a_word :: .ref a_said :: .ref a_kept :: [.int m_goNode, .int m_goDrops, .int m_goHour, .int m_goFelt, .int m_goSalt, .int m_goMore, .ref a_stepNode, .ref a_stepDrops, .ref a_stepHour, .ref a_stepNext, .ref a_stepPass, .int m_bestLeft, .int m_bestHour, .int m_bestMany, .ref a_bestPass, .ref a_far, .ref a_waited, .ref a_servers, .ref a_images, .ref a_isMade])), (a_said, .inl (kA 0, 360, .inl saidF))])) (va_A [(n0, .inr (11, .ref a_tape :: .int m_taped :: .int m_laws :: .ref a_sign :: .ref a_length :: .ref a_clause :: .ref a_clauses :: .ref a_chain :: .int m_next :: .int m_wrong :: .int m_number :: .int m_text :: .int m_made :: .int m_deep :: .int m_lines :: .ref a_open :: .int m_opened :: .ref a_stack :: .int m_top :: .ref a_word :: .ref a_said :: .ref a_kept :: [.int m_goNode, .int m_goDrops, .int m_goHour, .int m_goFelt, .int m_goSalt, .int m_goMore, .ref a_stepNode, .ref a_stepDrops, .ref a_stepHour, .ref a_stepNext, .ref a_stepPass, .int m_bestLeft, .int m_bestHour, .int m_bestMany, .ref a_bestPass, .ref a_far, .ref a_waited, .ref a_servers, .ref a_images, .ref a_isMade])), (a_said, .inl (kA 0, 360, .inl saidF))] sz)) 0 0 (va_A [(n0, .inr (11, .ref a_tape :: .int m_taped :: .int m_laws :: .ref a_sign :: .ref a_length :: .ref a_clause :: .ref a_clauses :: .ref a_chain :: .int m_next :: .int m_wrong :: .int m_number :: .int m_text :: .int m_made :: .int m_deep :: .int m_lines :: .ref a_open :: .int m_opened :: .ref a_stack :: .int m_top :: .ref a_word :: .ref a_said :: .ref a_kept :: [.int m_goNode, .int m_goDrops, .int m_goHour, .int m_goFelt, .int m_goSalt, .int m_goMore, .ref a_stepNode, .ref a_stepDrops, .ref a_stepHour, .ref a_stepNext, .ref a_stepPass, .int m_bestLeft, .int m_bestHour, .int m_bestMany, .ref a_bestPass, .ref a_far, .ref a_waited, .ref a_servers, .ref a_images, .ref a_isMade])), (a_said, .inl (kA 0, 360, .inl saidF))] sz) := by
  refine Met.ofW (cc := cX11_wayEnd) (maxL := 3) (ret := (some .int)) pnX11 rfl ?_
  intro p e s m args below meth c s₁ B hml hv
  obtain ⟨rfl, hsz, hP, hK, hD0⟩ := hv
  have hx := B.exec
  have hb := B.bytes
  have hr := B.returns
  have hts := atoms_spec (ws := wsX11_wayEnd) B.pre
  have hown : s.vm.findClass RX11 = some m.cls := findClass_of_methodNamed B.named
  have hlocks := B.notSynchronized
  subst hsz
  have hD := hD0.self (sz := s.heap.size)
  generalize hAe : va_A [(n0, .inr (11, .ref a_tape :: .int m_taped :: .int m_laws :: .ref a_sign :: .ref a_length :: .ref a_clause :: .ref a_clauses :: .ref a_chain :: .int m_next :: .int m_wrong :: .int m_number :: .int m_text :: .int m_made :: .int m_deep :: .int m_lines :: .ref a_open :: .int m_opened :: .ref a_stack :: .int m_top :: .ref a_word :: .ref a_said :: .ref a_kept :: [.int m_goNode, .int m_goDrops, .int m_goHour, .int m_goFelt, .int m_goSalt, .int m_goMore, .ref a_stepNode, .ref a_stepDrops, .ref a_stepHour, .ref a_stepNext, .ref a_stepPass, .int m_bestLeft, .int m_bestHour, .int m_bestMany, .ref a_bestPass, .ref a_far, .ref a_waited, .ref a_servers, .ref a_images, .ref a_isMade])), (a_said, .inl (kA 0, 360, .inl saidF))] s.heap.size = A at hD ⊢
  have hA : ∀ q : Nat, s.heap.size ≤ q → A q := zA_of hAe
  have hS : va_S A s.heap s.heap [] := va_S.rf
  have hP : va_P (dC, dI) vwCl [(n0, .inr (11, .ref a_tape :: .int m_taped :: .int m_laws :: .ref a_sign :: .ref a_length :: .ref a_clause :: .ref a_clauses :: .ref a_chain :: .int m_next :: .int m_wrong :: .int m_number :: .int m_text :: .int m_made :: .int m_deep :: .int m_lines :: .ref a_open :: .int m_opened :: .ref a_stack :: .int m_top :: .ref a_word :: .ref a_said :: .ref a_kept :: [.int m_goNode, .int m_goDrops, .int m_goHour, .int m_goFelt, .int m_goSalt, .int m_goMore, .ref a_stepNode, .ref a_stepDrops, .ref a_stepHour, .ref a_stepNext, .ref a_stepPass, .int m_bestLeft, .int m_bestHour, .int m_bestMany, .ref a_bestPass, .ref a_far, .ref a_waited, .ref a_servers, .ref a_images, .ref a_isMade])), (a_said, .inl (kA 0, 360, .inl saidF))] s.heap := hP
  have hl := lv_entry ([.ref n0]) (n := 3) (Nat.le_of_ble_eq_true rfl)
  rw [lg_entry_eq]
  generalize (lg_sl ([.ref n0]) ++ List.replicate (3 - (lg_sl ([.ref n0])).length) Slot.unset).toArray = ls at hl ⊢
  have hl : lv_has ls 3 [(0, .ref n0)] := hl
  obtain ⟨H, hHe⟩ : ∃ H : Heap, H = s.heap := ⟨_, rfl⟩
  obtain ⟨G, hG0⟩ : ∃ G : Int32, fX11_wayEnd saidF zk zw = G := ⟨_, rfl⟩
  have hG := hG0
  unfold fX11_wayEnd at hG
  have hz1 : saidF 0 = zn := hsc.1.1
  have hz2 : saidF 1 = zp := hsc.1.2.1
  have hz3 : saidF 2 = zj := hsc.1.2.2.1
  have hz4 : saidF 3 = zo := hsc.1.2.2.2.1
  have hz5 : saidF 4 = zf := hsc.1.2.2.2.2.1
  have hz6 : saidF 6 = zm := hsc.1.2.2.2.2.2.1
  have hz7 : saidF 8 = zk := hsc.1.2.2.2.2.2.2.1
  have hz8 : saidF 9 = zw := hsc.1.2.2.2.2.2.2.2
  have hz9 : ¬ zn < 0 := hsc.2.1.1
  have hz10 : ¬ 12 < zn := hsc.2.1.2
  have hz11 : ¬ zp < 0 := hsc.2.2.1.1
  have hz12 : ¬ 20 < zp := hsc.2.2.1.2
  have hz13 : ¬ zj < 0 := hsc.2.2.2.1.1
  have hz14 : ¬ 16 < zj := hsc.2.2.2.1.2
  have hz15 : ¬ zo < 0 := hsc.2.2.2.2.1.1
  have hz16 : ¬ 6 < zo := hsc.2.2.2.2.1.2
  have hz17 : ¬ zf < 0 := hsc.2.2.2.2.2.1.1
  have hz18 : ¬ 8 < zf := hsc.2.2.2.2.2.1.2
  have hz19 : ¬ zk < (-1) := hsc.2.2.2.2.2.2.1.1
  have hz20 : ¬ 12 ≤ zk := hsc.2.2.2.2.2.2.1.2
  have hz21 : ¬ zw < 0 := hsc.2.2.2.2.2.2.2.1.1
  have hz22 : ¬ 6 < zw := hsc.2.2.2.2.2.2.2.1.2
  refine lv_aload_n hx hb dX11_wayEnd_0 rfl (lv_at hl 0 rfl) ?_
  refine va_get (D := (dC, dI)) (ci := 11) (v := .ref a_said) (C := RX11) (T := TX11) (N := 42) hx hb hts iX11_wayEnd_X11 hown hK.1 hP 0 gz0 vcz11 20 (by decide) (kX11_wayEnd_1 hts) (fun _ h9 => h9) gz20 dX11_wayEnd_1 ?_
  refine lv_bipush (v := 8) hx hb dX11_wayEnd_4 (by decide) ?_
  refine va_iald hx hb hK.1 hP 1 0 gz1 tzz0 (vpd (by decide)) dX11_wayEnd_6 ?_
  refine zi zk hz7 ?_
  refine lv_istore_n (lv' := [(1, .int zk), (0, .ref n0)]) hx hb dX11_wayEnd_7 rfl hl (by decide) rfl (fun ls hl => ?_)
  refine lv_iconst (v := 0) hx hb dX11_wayEnd_8 (by decide) ?_
  refine lv_istore_n (lv' := [(2, .int 0), (1, .int zk), (0, .ref n0)]) hx hb dX11_wayEnd_9 rfl hl (by decide) rfl (fun ls hl => ?_)
  refine lp_mX11_wayEnd_10 hx hb hml hts hown hK hA (Nat.le_of_ble_eq_true rfl) (Nat.le_of_ble_eq_true rfl) (Nat.le_of_ble_eq_true rfl) (Nat.le_of_ble_eq_true rfl) n0 m_taped m_laws m_next m_wrong m_number m_text m_made m_deep m_lines m_opened m_top m_goNode m_goDrops m_goHour m_goFelt m_goSalt m_goMore m_bestLeft m_bestHour m_bestMany a_tape a_sign a_length a_clause a_clauses a_chain a_open a_stack a_word a_said a_kept a_stepNode a_stepDrops a_stepHour a_stepNext a_stepPass a_bestPass a_far a_waited a_servers a_images a_isMade saidF zn zp zj zo zf zm zk zw pd hsc hz1 hz2 hz3 hz4 hz5 hz6 hz7 hz8 hz9 hz10 hz11 hz12 hz13 hz14 hz15 hz16 hz17 hz18 hz19 hz20 hz21 hz22 (fun w42_0_0 w42_1_0 H locs ls hx42_2_nlt00_0 hG hP hD hS hl => ?_) _ 0 zk _ _ ls (Nat.lt_succ_self _) hG (by decide) hP hD hS (lv_sub hl [0, 1, 2] rfl)
  obtain ⟨hP, hD⟩ := z_re (L := [(n0, .inr (11, .ref a_tape :: .int m_taped :: .int m_laws :: .ref a_sign :: .ref a_length :: .ref a_clause :: .ref a_clauses :: .ref a_chain :: .int m_next :: .int m_wrong :: .int m_number :: .int m_text :: .int m_made :: .int m_deep :: .int m_lines :: .ref a_open :: .int m_opened :: .ref a_stack :: .int m_top :: .ref a_word :: .ref a_said :: .ref a_kept :: [.int m_goNode, .int m_goDrops, .int m_goHour, .int m_goFelt, .int m_goSalt, .int m_goMore, .ref a_stepNode, .ref a_stepDrops, .ref a_stepHour, .ref a_stepNext, .ref a_stepPass, .int m_bestLeft, .int m_bestHour, .int m_bestMany, .ref a_bestPass, .ref a_far, .ref a_waited, .ref a_servers, .ref a_images, .ref a_isMade])), (a_said, .inl (kA 0, 360, .inl saidF))]) hP hD
  refine lv_iload_n hx hb dX11_wayEnd_42 rfl (lv_at hl 1 rfl) ?_
  obtain ⟨hP9, hD9⟩ := z_sb (L' := [(n0, .inr (11, .ref a_tape :: .int m_taped :: .int m_laws :: .ref a_sign :: .ref a_length :: .ref a_clause :: .ref a_clauses :: .ref a_chain :: .int m_next :: .int m_wrong :: .int m_number :: .int m_text :: .int m_made :: .int m_deep :: .int m_lines :: .ref a_open :: .int m_opened :: .ref a_stack :: .int m_top :: .ref a_word :: .ref a_said :: .ref a_kept :: [.int m_goNode, .int m_goDrops, .int m_goHour, .int m_goFelt, .int m_goSalt, .int m_goMore, .ref a_stepNode, .ref a_stepDrops, .ref a_stepHour, .ref a_stepNext, .ref a_stepPass, .int m_bestLeft, .int m_bestHour, .int m_bestMany, .ref a_bestPass, .ref a_far, .ref a_waited, .ref a_servers, .ref a_images, .ref a_isMade])), (a_said, .inl (kA 0, 360, .inl saidF))]) hP hD [0, 1] (by decide) rfl
  refine W.widen (k := 0) (n := 0) (Nat.le_of_ble_eq_true rfl) (Nat.le_of_ble_eq_true rfl) ?_
  exact W.iret (v := w42_1_0) hx hb hr (fun t ht hW => ⟨⟨w42_1_0, (w42_1_0), rfl, ⟨rfl, (hG.trans hG0.symm)⟩, by rw [ht]; exact hP9, hD9⟩, hS.F ht⟩) hS.2.2 dX11_wayEnd_43
theorem gl_mX11_isOfWay_0 (zw : Int32) (l22_0 : Int32) (h0 : ¬ zw < 0) (h1 : ¬ 6 < zw) (h2 : ¬ l22_0 < 0) (h3 : ¬ zw ≤ l22_0) : (¬ (10 + l22_0) < 0 ∧ ¬ 360 ≤ (10 + l22_0)) := by grind
set_option maxRecDepth 100000 in
def fb_mX11_isOfWay_22 (saidF : Nat → Int32) (zw : Int32) (p0 : Int32) (E71 : Int32 → Int32 → Int32 → Int32) (K : Int32 → Int32 → Int32 → Int32) (l22_0 : Int32) (l22_1 : Int32) (l22_2 : Int32) : Int32 := if zw ≤ l22_0 then (E71 l22_0 l22_1 l22_2) else (bnd (saidF (10 + l22_0).toNatClampNeg) (fun (xy22_2 : Int32) => bnd ((oth saidF xy22_2 l22_2)) (fun (xy22_9 : Int32) => if l22_1 = 0 then (if xy22_9 = p0 then (bnd ((l22_0 + 1)) (fun (xy22_14 : Int32) => K xy22_14 1 xy22_9)) else (bnd ((l22_0 + 1)) (fun (xy22_13 : Int32) => K xy22_13 0 xy22_9))) else (bnd ((l22_0 + 1)) (fun (xy22_11 : Int32) => K xy22_11 1 xy22_9)))))
def fl_mX11_isOfWay_22 (saidF : Nat → Int32) (zw : Int32) (p0 : Int32) (E71 : Int32 → Int32 → Int32 → Int32) : Nat → Int32 → Int32 → Int32 → Int32
  | 0, _, _, _ => 0
  | n + 1, l22_0, l22_1, l22_2 => fb_mX11_isOfWay_22 saidF zw p0 E71 (fl_mX11_isOfWay_22 saidF zw p0 E71 n) l22_0 l22_1 l22_2
set_option maxHeartbeats 4000000 in
set_option maxRecDepth 100000 in
theorem lp_mX11_isOfWay_22 {p : Program} {l : Launch} {e : Env} {R : Room} {s : State} {m : MethodId} {args : Array Value} {below : List Frame} {meth : Method} {c : Code} {Q : State → Prop} {dC : Nat → ClassId} {dI : Nat → Nat → Nat} {kA : Nat → ClassId} {A : Nat → Prop} {H0 : Heap} {cells slots : Nat} (hx : p.tables.exec = Jvm.exec) (hb : c.code = cX11_isOfWay) (hml : c.maxLocals = 5) (hts : ∀ w ∈ wsX11_isOfWay, w.before args s = true) (hown : s.vm.findClass RX11 = some m.cls) (hK : zK dC dI kA s) (hA : ∀ q, H0.size ≤ q → A q) (hRf : 2 ≤ R.frames) (hRl : 44 ≤ R.locals) (hRc : cells ≤ R.cells) (hRs : slots ≤ R.slots) (n0 : Nat) (m_taped : Int32) (m_laws : Int32) (m_next : Int32) (m_wrong : Int32) (m_number : Int32) (m_text : Int32) (m_made : Int32) (m_deep : Int32) (m_lines : Int32) (m_opened : Int32) (m_top : Int32) (m_goNode : Int32) (m_goDrops : Int32) (m_goHour : Int32) (m_goFelt : Int32) (m_goSalt : Int32) (m_goMore : Int32) (m_bestLeft : Int32) (m_bestHour : Int32) (m_bestMany : Int32) (a_tape : Nat) (a_sign : Nat) (a_length : Nat) (a_clause : Nat) (a_clauses : Nat) (a_chain : Nat) (a_open : Nat) (a_stack : Nat) (a_word : Nat) (a_said : Nat) (a_kept : Nat) (a_stepNode : Nat) (a_stepDrops : Nat) (a_stepHour : Nat) (a_stepNext : Nat) (a_stepPass : Nat) (a_bestPass : Nat) (a_far : Nat) (a_waited : Nat) (a_servers : Nat) (a_images : Nat) (a_isMade : Nat) (saidF : Nat → Int32) (zn : Int32) (zp : Int32) (zj : Int32) (zo : Int32) (zf : Int32) (zm : Int32) (zk : Int32) (zw : Int32) (pd : Nat → Int32) (p0 : Int32) {G : Int32} {E71 : Int32 → Int32 → Int32 → Int32} (hsc : SC saidF zn zp zj zo zf zm zk zw pd) (hz1 : (saidF 0) = zn) (hz2 : (saidF 1) = zp) (hz3 : (saidF 2) = zj) (hz4 : (saidF 3) = zo) (hz5 : (saidF 4) = zf) (hz6 : (saidF 6) = zm) (hz7 : (saidF 8) = zk) (hz8 : (saidF 9) = zw) (hz9 : ¬ zn < 0) (hz10 : ¬ 12 < zn) (hz11 : ¬ zp < 0) (hz12 : ¬ 20 < zp) (hz13 : ¬ zj < 0) (hz14 : ¬ 16 < zj) (hz15 : ¬ zo < 0) (hz16 : ¬ 6 < zo) (hz17 : ¬ zf < 0) (hz18 : ¬ 8 < zf) (hz19 : ¬ zk < (-1)) (hz20 : ¬ 12 ≤ zk) (hz21 : ¬ zw < 0) (hz22 : ¬ 6 < zw) (c_23 : ¬ zk = p0) (k71 : ∀ (w71_0 : Int32) (w71_1 : Int32) (w71_2 : Int32) (H : Heap) (locs : List Loc) (ls : Array Slot), ¬ w71_0 < 0 → (w71_1 = 0 ∨ w71_1 = 1) → E71 w71_0 w71_1 w71_2 = G → va_P (dC, dI) vwCl [(n0, .inr (11, .ref a_tape :: .int m_taped :: .int m_laws :: .ref a_sign :: .ref a_length :: .ref a_clause :: .ref a_clauses :: .ref a_chain :: .int m_next :: .int m_wrong :: .int m_number :: .int m_text :: .int m_made :: .int m_deep :: .int m_lines :: .ref a_open :: .int m_opened :: .ref a_stack :: .int m_top :: .ref a_word :: .ref a_said :: .ref a_kept :: [.int m_goNode, .int m_goDrops, .int m_goHour, .int m_goFelt, .int m_goSalt, .int m_goMore, .ref a_stepNode, .ref a_stepDrops, .ref a_stepHour, .ref a_stepNext, .ref a_stepPass, .int m_bestLeft, .int m_bestHour, .int m_bestMany, .ref a_bestPass, .ref a_far, .ref a_waited, .ref a_servers, .ref a_images, .ref a_isMade])), (a_said, .inl (kA 0, 360, .inl saidF))] H → va_D A [(n0, .inr (11, .ref a_tape :: .int m_taped :: .int m_laws :: .ref a_sign :: .ref a_length :: .ref a_clause :: .ref a_clauses :: .ref a_chain :: .int m_next :: .int m_wrong :: .int m_number :: .int m_text :: .int m_made :: .int m_deep :: .int m_lines :: .ref a_open :: .int m_opened :: .ref a_stack :: .int m_top :: .ref a_word :: .ref a_said :: .ref a_kept :: [.int m_goNode, .int m_goDrops, .int m_goHour, .int m_goFelt, .int m_goSalt, .int m_goMore, .ref a_stepNode, .ref a_stepDrops, .ref a_stepHour, .ref a_stepNext, .ref a_stepPass, .int m_bestLeft, .int m_bestHour, .int m_bestMany, .ref a_bestPass, .ref a_far, .ref a_waited, .ref a_servers, .ref a_images, .ref a_isMade])), (a_said, .inl (kA 0, 360, .inl saidF))] → va_S A H0 H locs → lv_has ls 5 [(4, .int w71_0), (3, .int w71_1), (2, .int w71_2), (0, .ref n0), (1, .int p0)] → W p l e R s m args below meth c H locs cells slots Q (F0 m 71 ls []))  : ∀ (n : Nat) (l22_0 : Int32) (l22_1 : Int32) (l22_2 : Int32) (H : Heap) (locs : List Loc) (ls : Array Slot), ((zw : Int32).toInt - l22_0.toInt).toNat < n → fl_mX11_isOfWay_22 saidF zw p0 E71 n l22_0 l22_1 l22_2 = G → ¬ l22_0 < 0 → (l22_1 = 0 ∨ l22_1 = 1) → va_P (dC, dI) vwCl [(n0, .inr (11, .ref a_tape :: .int m_taped :: .int m_laws :: .ref a_sign :: .ref a_length :: .ref a_clause :: .ref a_clauses :: .ref a_chain :: .int m_next :: .int m_wrong :: .int m_number :: .int m_text :: .int m_made :: .int m_deep :: .int m_lines :: .ref a_open :: .int m_opened :: .ref a_stack :: .int m_top :: .ref a_word :: .ref a_said :: .ref a_kept :: [.int m_goNode, .int m_goDrops, .int m_goHour, .int m_goFelt, .int m_goSalt, .int m_goMore, .ref a_stepNode, .ref a_stepDrops, .ref a_stepHour, .ref a_stepNext, .ref a_stepPass, .int m_bestLeft, .int m_bestHour, .int m_bestMany, .ref a_bestPass, .ref a_far, .ref a_waited, .ref a_servers, .ref a_images, .ref a_isMade])), (a_said, .inl (kA 0, 360, .inl saidF))] H → va_D A [(n0, .inr (11, .ref a_tape :: .int m_taped :: .int m_laws :: .ref a_sign :: .ref a_length :: .ref a_clause :: .ref a_clauses :: .ref a_chain :: .int m_next :: .int m_wrong :: .int m_number :: .int m_text :: .int m_made :: .int m_deep :: .int m_lines :: .ref a_open :: .int m_opened :: .ref a_stack :: .int m_top :: .ref a_word :: .ref a_said :: .ref a_kept :: [.int m_goNode, .int m_goDrops, .int m_goHour, .int m_goFelt, .int m_goSalt, .int m_goMore, .ref a_stepNode, .ref a_stepDrops, .ref a_stepHour, .ref a_stepNext, .ref a_stepPass, .int m_bestLeft, .int m_bestHour, .int m_bestMany, .ref a_bestPass, .ref a_far, .ref a_waited, .ref a_servers, .ref a_images, .ref a_isMade])), (a_said, .inl (kA 0, 360, .inl saidF))] → va_S A H0 H locs → lv_has ls 5 [(4, .int l22_0), (3, .int l22_1), (2, .int l22_2), (0, .ref n0), (1, .int p0)] → W p l e R s m args below meth c H locs cells slots Q (F0 m 22 ls []) := by
  intro n
  induction n with
  | zero =>
    intro l22_0 l22_1 l22_2 H locs ls hn
    exact absurd hn (Nat.not_lt_zero _)
  | succ n ih =>
    intro l22_0 l22_1 l22_2 H locs ls hn hG hi22 hb3 hP hD hS hl
    have hG : fb_mX11_isOfWay_22 saidF zw p0 E71 (fl_mX11_isOfWay_22 saidF zw p0 E71 n) l22_0 l22_1 l22_2 = G := hG
    unfold fb_mX11_isOfWay_22 at hG
    refine lv_iload hx hb dX11_isOfWay_22 (lv_at hl 0 rfl) ?_
    refine lv_aload_n hx hb dX11_isOfWay_24 rfl (lv_at hl 3 rfl) ?_
    refine va_get (D := (dC, dI)) (ci := 11) (v := .ref a_said) (C := RX11) (T := TX11) (N := 42) hx hb hts iX11_isOfWay_X11 hown hK.1 hP 0 gz0 vcz11 20 (by decide) (kX11_isOfWay_1 hts) (fun _ h9 => h9) gz20 dX11_isOfWay_25 ?_
    refine lv_bipush (v := 9) hx hb dX11_isOfWay_28 (by decide) ?_
    refine va_iald hx hb hK.1 hP 1 0 gz1 tzz0 (vpd (by decide)) dX11_isOfWay_30 ?_
    refine zi zw hz8 ?_
    refine lv_icmp_ge (tgt := 71) hx hb dX11_isOfWay_31 (by decide) (fun c_y22_1 => ?_) (fun c_y22_1 => ?_)
    · have hG := zthen hG c_y22_1
      exact k71 l22_0 l22_1 l22_2 H locs ls hi22 hb3 hG (hP.sub [0, 1] rfl) (hD.sub [0, 1] (by decide) rfl) hS (lv_sub hl [0, 1, 2, 3, 4] rfl)
    · have hG := zelse hG c_y22_1
      refine lv_aload_n hx hb dX11_isOfWay_34 rfl (lv_at hl 3 rfl) ?_
      refine lv_aload_n hx hb dX11_isOfWay_35 rfl (lv_at hl 3 rfl) ?_
      refine va_get (D := (dC, dI)) (ci := 11) (v := .ref a_said) (C := RX11) (T := TX11) (N := 42) hx hb hts iX11_isOfWay_X11 hown hK.1 hP 0 gz0 vcz11 20 (by decide) (kX11_isOfWay_1 hts) (fun _ h9 => h9) gz20 dX11_isOfWay_36 ?_
      refine lv_bipush (v := 10) hx hb dX11_isOfWay_39 (by decide) ?_
      refine lv_iload hx hb dX11_isOfWay_41 (lv_at hl 0 rfl) ?_
      refine lv_iadd hx hb dX11_isOfWay_43 ?_
      refine va_iald hx hb hK.1 hP 1 0 gz1 tzz0 (vp_g (N := 360) (by decide) (gl_mX11_isOfWay_0 zw l22_0 hz21 hz22 hi22 c_y22_1)) dX11_isOfWay_44 ?_
      refine lv_topi (fun xy22_2 exy22_2 => ?_)
      have hG := zbnd hG exy22_2
      have hyy22_3a : ¬ xy22_2 < 0 := by rw [exy22_2]; exact (S_way hsc hi22 c_y22_1).1
      have hyy22_3b : ¬ zp ≤ xy22_2 := by rw [exy22_2]; exact (S_way hsc hi22 c_y22_1).2
      refine lv_iload_n hx hb dX11_isOfWay_45 rfl (lv_at hl 2 rfl) ?_
      refine z_i (wr := []) (va_runV (As := [.int xy22_2, .int l22_2]) (rest := []) ⟨hx, hb, hml, hown, hts⟩ (mX11_other l dC dI kA _ n0 m_taped m_laws m_next m_wrong m_number m_text m_made m_deep m_lines m_opened m_top m_goNode m_goDrops m_goHour m_goFelt m_goSalt m_goMore m_bestLeft m_bestHour m_bestMany a_tape a_sign a_length a_clause a_clauses a_chain a_open a_stack a_word a_said a_kept a_stepNode a_stepDrops a_stepHour a_stepNext a_stepPass a_bestPass a_far a_waited a_servers a_images a_isMade saidF zn zp zj zo zf zm zk zw pd xy22_2 l22_2 hsc hyy22_3a (z_tr hyy22_3b hz12)) (cwV 2 hts gX11_isOfWay_X11_other rfl rfl rfl ⟨rfl, hdX11_other⟩ ⟨(Nat.le_trans (Nat.le_of_ble_eq_true rfl) hRf), (Nat.le_trans (Nat.le_of_ble_eq_true rfl) hRl)⟩) ⟨zPc.blind, va_recv (q := (RX11, TX11, 42)) hK.1 hP (ci := 11) (q0 := 0) rfl rfl, zPre hK (hP.sub [0, 1] rfl) (hD.sub [0, 1] (by decide) rfl)⟩ rfl rfl hl.1 rfl (lv_room (Nat.le_of_ble_eq_true rfl)) dX11_isOfWay_46 ⟨hRc, hRs⟩) hP hD hS hA [0, 1] [] rfl rfl (by decide) (by decide) (fun ry22_6 uy22_4 H locs hwy22_5 hP hD hS => ?_)
      obtain ⟨rfl, hpy22_7, hpy22_8⟩ := hwy22_5
      obtain ⟨hP, hD⟩ := z_re (L := [(n0, .inr (11, .ref a_tape :: .int m_taped :: .int m_laws :: .ref a_sign :: .ref a_length :: .ref a_clause :: .ref a_clauses :: .ref a_chain :: .int m_next :: .int m_wrong :: .int m_number :: .int m_text :: .int m_made :: .int m_deep :: .int m_lines :: .ref a_open :: .int m_opened :: .ref a_stack :: .int m_top :: .ref a_word :: .ref a_said :: .ref a_kept :: [.int m_goNode, .int m_goDrops, .int m_goHour, .int m_goFelt, .int m_goSalt, .int m_goMore, .ref a_stepNode, .ref a_stepDrops, .ref a_stepHour, .ref a_stepNext, .ref a_stepPass, .int m_bestLeft, .int m_bestHour, .int m_bestMany, .ref a_bestPass, .ref a_far, .ref a_waited, .ref a_servers, .ref a_images, .ref a_isMade])), (a_said, .inl (kA 0, 360, .inl saidF))]) hP hD
      refine lv_topi (fun xy22_9 exy22_9 => ?_)
      have hG := zbnd hG exy22_9
      refine lv_istore_n (lv' := [(2, .int xy22_9), (4, .int l22_0), (3, .int l22_1), (0, .ref n0), (1, .int p0)]) hx hb dX11_isOfWay_49 rfl hl (by decide) rfl (fun ls hl => ?_)
      refine lv_iload_n hx hb dX11_isOfWay_50 rfl (lv_at hl 2 rfl) ?_
      refine lv_if_ne (tgt := 59) hx hb dX11_isOfWay_51 (by decide) (fun c_y22_10 => ?_) (fun c_y22_10 => ?_)
      · have hG := zelse hG c_y22_10
        refine lv_iconst (v := 1) hx hb dX11_isOfWay_59 (by decide) ?_
        refine lv_goto (tgt := 64) hx hb dX11_isOfWay_60 (by decide) ?_
        refine lv_istore_n (lv' := [(3, .int 1), (2, .int xy22_9), (4, .int l22_0), (0, .ref n0), (1, .int p0)]) hx hb dX11_isOfWay_64 rfl hl (by decide) rfl (fun ls hl => ?_)
        obtain ⟨xy22_11, exy22_11⟩ : ∃ y : Int32, y = l22_0 + 1 := ⟨_, rfl⟩
        have hG := zbnd hG exy22_11
        refine lv_iinc (v := xy22_11) (lv' := [(4, .int xy22_11), (3, .int 1), (2, .int xy22_9), (0, .ref n0), (1, .int p0)]) hx hb dX11_isOfWay_65 hl (k := 2) rfl (by rw [exy22_11]; rfl) (by decide) rfl (fun ls hl => ?_)
        refine lv_goto (tgt := 22) hx hb dX11_isOfWay_68 (by decide) ?_
        exact ih xy22_11 1 xy22_9 H locs ls (z_up hn exy22_11 c_y22_1) hG (z_nn exy22_11 c_y22_1 hi22) (Or.inr rfl) (hP.sub [0, 1] rfl) (hD.sub [0, 1] (by decide) rfl) hS (lv_sub hl [0, 1, 2, 3, 4] rfl)
      · have hG := zthen hG c_y22_10
        refine lv_iload_n hx hb dX11_isOfWay_54 rfl (lv_at hl 0 rfl) ?_
        refine lv_iload_n hx hb dX11_isOfWay_55 rfl (lv_at hl 4 rfl) ?_
        refine lv_icmp_ne (tgt := 63) hx hb dX11_isOfWay_56 (by decide) (fun c_y22_12 => ?_) (fun c_y22_12 => ?_)
        · have hG := zelse hG c_y22_12
          refine lv_iconst (v := 0) hx hb dX11_isOfWay_63 (by decide) ?_
          refine lv_istore_n (lv' := [(3, .int 0), (2, .int xy22_9), (4, .int l22_0), (0, .ref n0), (1, .int p0)]) hx hb dX11_isOfWay_64 rfl hl (by decide) rfl (fun ls hl => ?_)
          obtain ⟨xy22_13, exy22_13⟩ : ∃ y : Int32, y = l22_0 + 1 := ⟨_, rfl⟩
          have hG := zbnd hG exy22_13
          refine lv_iinc (v := xy22_13) (lv' := [(4, .int xy22_13), (3, .int 0), (2, .int xy22_9), (0, .ref n0), (1, .int p0)]) hx hb dX11_isOfWay_65 hl (k := 2) rfl (by rw [exy22_13]; rfl) (by decide) rfl (fun ls hl => ?_)
          refine lv_goto (tgt := 22) hx hb dX11_isOfWay_68 (by decide) ?_
          exact ih xy22_13 0 xy22_9 H locs ls (z_up hn exy22_13 c_y22_1) hG (z_nn exy22_13 c_y22_1 hi22) (Or.inl rfl) (hP.sub [0, 1] rfl) (hD.sub [0, 1] (by decide) rfl) hS (lv_sub hl [0, 1, 2, 3, 4] rfl)
        · have hG := zthen hG c_y22_12
          refine lv_iconst (v := 1) hx hb dX11_isOfWay_59 (by decide) ?_
          refine lv_goto (tgt := 64) hx hb dX11_isOfWay_60 (by decide) ?_
          refine lv_istore_n (lv' := [(3, .int 1), (2, .int xy22_9), (4, .int l22_0), (0, .ref n0), (1, .int p0)]) hx hb dX11_isOfWay_64 rfl hl (by decide) rfl (fun ls hl => ?_)
          obtain ⟨xy22_14, exy22_14⟩ : ∃ y : Int32, y = l22_0 + 1 := ⟨_, rfl⟩
          have hG := zbnd hG exy22_14
          refine lv_iinc (v := xy22_14) (lv' := [(4, .int xy22_14), (3, .int 1), (2, .int xy22_9), (0, .ref n0), (1, .int p0)]) hx hb dX11_isOfWay_65 hl (k := 2) rfl (by rw [exy22_14]; rfl) (by decide) rfl (fun ls hl => ?_)
          refine lv_goto (tgt := 22) hx hb dX11_isOfWay_68 (by decide) ?_
          exact ih xy22_14 1 xy22_9 H locs ls (z_up hn exy22_14 c_y22_1) hG (z_nn exy22_14 c_y22_1 hi22) (Or.inr rfl) (hP.sub [0, 1] rfl) (hD.sub [0, 1] (by decide) rfl) hS (lv_sub hl [0, 1, 2, 3, 4] rfl)
set_option maxRecDepth 100000 in
def fb_mX11_isOfWay_22_1 (saidF : Nat → Int32) (zw : Int32) (p0 : Int32) (E71 : Int32 → Int32 → Int32 → Int32) (K : Int32 → Int32 → Int32 → Int32) (l22_0 : Int32) (l22_1 : Int32) (l22_2 : Int32) : Int32 := if zw ≤ l22_0 then (E71 l22_0 l22_1 l22_2) else (bnd (saidF (10 + l22_0).toNatClampNeg) (fun (xy22_2 : Int32) => bnd ((oth saidF xy22_2 l22_2)) (fun (xy22_9 : Int32) => if l22_1 = 0 then (if xy22_9 = p0 then (bnd ((l22_0 + 1)) (fun (xy22_14 : Int32) => K xy22_14 1 xy22_9)) else (bnd ((l22_0 + 1)) (fun (xy22_13 : Int32) => K xy22_13 0 xy22_9))) else (bnd ((l22_0 + 1)) (fun (xy22_11 : Int32) => K xy22_11 1 xy22_9)))))
def fl_mX11_isOfWay_22_1 (saidF : Nat → Int32) (zw : Int32) (p0 : Int32) (E71 : Int32 → Int32 → Int32 → Int32) : Nat → Int32 → Int32 → Int32 → Int32
  | 0, _, _, _ => 0
  | n + 1, l22_0, l22_1, l22_2 => fb_mX11_isOfWay_22_1 saidF zw p0 E71 (fl_mX11_isOfWay_22_1 saidF zw p0 E71 n) l22_0 l22_1 l22_2
set_option maxHeartbeats 4000000 in
set_option maxRecDepth 100000 in
theorem lp_mX11_isOfWay_22_1 {p : Program} {l : Launch} {e : Env} {R : Room} {s : State} {m : MethodId} {args : Array Value} {below : List Frame} {meth : Method} {c : Code} {Q : State → Prop} {dC : Nat → ClassId} {dI : Nat → Nat → Nat} {kA : Nat → ClassId} {A : Nat → Prop} {H0 : Heap} {cells slots : Nat} (hx : p.tables.exec = Jvm.exec) (hb : c.code = cX11_isOfWay) (hml : c.maxLocals = 5) (hts : ∀ w ∈ wsX11_isOfWay, w.before args s = true) (hown : s.vm.findClass RX11 = some m.cls) (hK : zK dC dI kA s) (hA : ∀ q, H0.size ≤ q → A q) (hRf : 2 ≤ R.frames) (hRl : 44 ≤ R.locals) (hRc : cells ≤ R.cells) (hRs : slots ≤ R.slots) (n0 : Nat) (m_taped : Int32) (m_laws : Int32) (m_next : Int32) (m_wrong : Int32) (m_number : Int32) (m_text : Int32) (m_made : Int32) (m_deep : Int32) (m_lines : Int32) (m_opened : Int32) (m_top : Int32) (m_goNode : Int32) (m_goDrops : Int32) (m_goHour : Int32) (m_goFelt : Int32) (m_goSalt : Int32) (m_goMore : Int32) (m_bestLeft : Int32) (m_bestHour : Int32) (m_bestMany : Int32) (a_tape : Nat) (a_sign : Nat) (a_length : Nat) (a_clause : Nat) (a_clauses : Nat) (a_chain : Nat) (a_open : Nat) (a_stack : Nat) (a_word : Nat) (a_said : Nat) (a_kept : Nat) (a_stepNode : Nat) (a_stepDrops : Nat) (a_stepHour : Nat) (a_stepNext : Nat) (a_stepPass : Nat) (a_bestPass : Nat) (a_far : Nat) (a_waited : Nat) (a_servers : Nat) (a_images : Nat) (a_isMade : Nat) (saidF : Nat → Int32) (zn : Int32) (zp : Int32) (zj : Int32) (zo : Int32) (zf : Int32) (zm : Int32) (zk : Int32) (zw : Int32) (pd : Nat → Int32) (p0 : Int32) {G : Int32} {E71 : Int32 → Int32 → Int32 → Int32} (hsc : SC saidF zn zp zj zo zf zm zk zw pd) (hz1 : (saidF 0) = zn) (hz2 : (saidF 1) = zp) (hz3 : (saidF 2) = zj) (hz4 : (saidF 3) = zo) (hz5 : (saidF 4) = zf) (hz6 : (saidF 6) = zm) (hz7 : (saidF 8) = zk) (hz8 : (saidF 9) = zw) (hz9 : ¬ zn < 0) (hz10 : ¬ 12 < zn) (hz11 : ¬ zp < 0) (hz12 : ¬ 20 < zp) (hz13 : ¬ zj < 0) (hz14 : ¬ 16 < zj) (hz15 : ¬ zo < 0) (hz16 : ¬ 6 < zo) (hz17 : ¬ zf < 0) (hz18 : ¬ 8 < zf) (hz19 : ¬ zk < (-1)) (hz20 : ¬ 12 ≤ zk) (hz21 : ¬ zw < 0) (hz22 : ¬ 6 < zw) (c_23 : zk = p0) (k71 : ∀ (w71_0 : Int32) (w71_1 : Int32) (w71_2 : Int32) (H : Heap) (locs : List Loc) (ls : Array Slot), ¬ w71_0 < 0 → (w71_1 = 0 ∨ w71_1 = 1) → E71 w71_0 w71_1 w71_2 = G → va_P (dC, dI) vwCl [(n0, .inr (11, .ref a_tape :: .int m_taped :: .int m_laws :: .ref a_sign :: .ref a_length :: .ref a_clause :: .ref a_clauses :: .ref a_chain :: .int m_next :: .int m_wrong :: .int m_number :: .int m_text :: .int m_made :: .int m_deep :: .int m_lines :: .ref a_open :: .int m_opened :: .ref a_stack :: .int m_top :: .ref a_word :: .ref a_said :: .ref a_kept :: [.int m_goNode, .int m_goDrops, .int m_goHour, .int m_goFelt, .int m_goSalt, .int m_goMore, .ref a_stepNode, .ref a_stepDrops, .ref a_stepHour, .ref a_stepNext, .ref a_stepPass, .int m_bestLeft, .int m_bestHour, .int m_bestMany, .ref a_bestPass, .ref a_far, .ref a_waited, .ref a_servers, .ref a_images, .ref a_isMade])), (a_said, .inl (kA 0, 360, .inl saidF))] H → va_D A [(n0, .inr (11, .ref a_tape :: .int m_taped :: .int m_laws :: .ref a_sign :: .ref a_length :: .ref a_clause :: .ref a_clauses :: .ref a_chain :: .int m_next :: .int m_wrong :: .int m_number :: .int m_text :: .int m_made :: .int m_deep :: .int m_lines :: .ref a_open :: .int m_opened :: .ref a_stack :: .int m_top :: .ref a_word :: .ref a_said :: .ref a_kept :: [.int m_goNode, .int m_goDrops, .int m_goHour, .int m_goFelt, .int m_goSalt, .int m_goMore, .ref a_stepNode, .ref a_stepDrops, .ref a_stepHour, .ref a_stepNext, .ref a_stepPass, .int m_bestLeft, .int m_bestHour, .int m_bestMany, .ref a_bestPass, .ref a_far, .ref a_waited, .ref a_servers, .ref a_images, .ref a_isMade])), (a_said, .inl (kA 0, 360, .inl saidF))] → va_S A H0 H locs → lv_has ls 5 [(4, .int w71_0), (3, .int w71_1), (2, .int w71_2), (0, .ref n0), (1, .int p0)] → W p l e R s m args below meth c H locs cells slots Q (F0 m 71 ls []))  : ∀ (n : Nat) (l22_0 : Int32) (l22_1 : Int32) (l22_2 : Int32) (H : Heap) (locs : List Loc) (ls : Array Slot), ((zw : Int32).toInt - l22_0.toInt).toNat < n → fl_mX11_isOfWay_22_1 saidF zw p0 E71 n l22_0 l22_1 l22_2 = G → ¬ l22_0 < 0 → (l22_1 = 0 ∨ l22_1 = 1) → va_P (dC, dI) vwCl [(n0, .inr (11, .ref a_tape :: .int m_taped :: .int m_laws :: .ref a_sign :: .ref a_length :: .ref a_clause :: .ref a_clauses :: .ref a_chain :: .int m_next :: .int m_wrong :: .int m_number :: .int m_text :: .int m_made :: .int m_deep :: .int m_lines :: .ref a_open :: .int m_opened :: .ref a_stack :: .int m_top :: .ref a_word :: .ref a_said :: .ref a_kept :: [.int m_goNode, .int m_goDrops, .int m_goHour, .int m_goFelt, .int m_goSalt, .int m_goMore, .ref a_stepNode, .ref a_stepDrops, .ref a_stepHour, .ref a_stepNext, .ref a_stepPass, .int m_bestLeft, .int m_bestHour, .int m_bestMany, .ref a_bestPass, .ref a_far, .ref a_waited, .ref a_servers, .ref a_images, .ref a_isMade])), (a_said, .inl (kA 0, 360, .inl saidF))] H → va_D A [(n0, .inr (11, .ref a_tape :: .int m_taped :: .int m_laws :: .ref a_sign :: .ref a_length :: .ref a_clause :: .ref a_clauses :: .ref a_chain :: .int m_next :: .int m_wrong :: .int m_number :: .int m_text :: .int m_made :: .int m_deep :: .int m_lines :: .ref a_open :: .int m_opened :: .ref a_stack :: .int m_top :: .ref a_word :: .ref a_said :: .ref a_kept :: [.int m_goNode, .int m_goDrops, .int m_goHour, .int m_goFelt, .int m_goSalt, .int m_goMore, .ref a_stepNode, .ref a_stepDrops, .ref a_stepHour, .ref a_stepNext, .ref a_stepPass, .int m_bestLeft, .int m_bestHour, .int m_bestMany, .ref a_bestPass, .ref a_far, .ref a_waited, .ref a_servers, .ref a_images, .ref a_isMade])), (a_said, .inl (kA 0, 360, .inl saidF))] → va_S A H0 H locs → lv_has ls 5 [(4, .int l22_0), (3, .int l22_1), (2, .int l22_2), (0, .ref n0), (1, .int p0)] → W p l e R s m args below meth c H locs cells slots Q (F0 m 22 ls []) := by
  intro n
  induction n with
  | zero =>
    intro l22_0 l22_1 l22_2 H locs ls hn
    exact absurd hn (Nat.not_lt_zero _)
  | succ n ih =>
    intro l22_0 l22_1 l22_2 H locs ls hn hG hi22 hb3 hP hD hS hl
    have hG : fb_mX11_isOfWay_22_1 saidF zw p0 E71 (fl_mX11_isOfWay_22_1 saidF zw p0 E71 n) l22_0 l22_1 l22_2 = G := hG
    unfold fb_mX11_isOfWay_22_1 at hG
    refine lv_iload hx hb dX11_isOfWay_22 (lv_at hl 0 rfl) ?_
    refine lv_aload_n hx hb dX11_isOfWay_24 rfl (lv_at hl 3 rfl) ?_
    refine va_get (D := (dC, dI)) (ci := 11) (v := .ref a_said) (C := RX11) (T := TX11) (N := 42) hx hb hts iX11_isOfWay_X11 hown hK.1 hP 0 gz0 vcz11 20 (by decide) (kX11_isOfWay_1 hts) (fun _ h9 => h9) gz20 dX11_isOfWay_25 ?_
    refine lv_bipush (v := 9) hx hb dX11_isOfWay_28 (by decide) ?_
    refine va_iald hx hb hK.1 hP 1 0 gz1 tzz0 (vpd (by decide)) dX11_isOfWay_30 ?_
    refine zi zw hz8 ?_
    refine lv_icmp_ge (tgt := 71) hx hb dX11_isOfWay_31 (by decide) (fun c_y22_1 => ?_) (fun c_y22_1 => ?_)
    · have hG := zthen hG c_y22_1
      exact k71 l22_0 l22_1 l22_2 H locs ls hi22 hb3 hG (hP.sub [0, 1] rfl) (hD.sub [0, 1] (by decide) rfl) hS (lv_sub hl [0, 1, 2, 3, 4] rfl)
    · have hG := zelse hG c_y22_1
      refine lv_aload_n hx hb dX11_isOfWay_34 rfl (lv_at hl 3 rfl) ?_
      refine lv_aload_n hx hb dX11_isOfWay_35 rfl (lv_at hl 3 rfl) ?_
      refine va_get (D := (dC, dI)) (ci := 11) (v := .ref a_said) (C := RX11) (T := TX11) (N := 42) hx hb hts iX11_isOfWay_X11 hown hK.1 hP 0 gz0 vcz11 20 (by decide) (kX11_isOfWay_1 hts) (fun _ h9 => h9) gz20 dX11_isOfWay_36 ?_
      refine lv_bipush (v := 10) hx hb dX11_isOfWay_39 (by decide) ?_
      refine lv_iload hx hb dX11_isOfWay_41 (lv_at hl 0 rfl) ?_
      refine lv_iadd hx hb dX11_isOfWay_43 ?_
      refine va_iald hx hb hK.1 hP 1 0 gz1 tzz0 (vp_g (N := 360) (by decide) (gl_mX11_isOfWay_0 zw l22_0 hz21 hz22 hi22 c_y22_1)) dX11_isOfWay_44 ?_
      refine lv_topi (fun xy22_2 exy22_2 => ?_)
      have hG := zbnd hG exy22_2
      have hyy22_3a : ¬ xy22_2 < 0 := by rw [exy22_2]; exact (S_way hsc hi22 c_y22_1).1
      have hyy22_3b : ¬ zp ≤ xy22_2 := by rw [exy22_2]; exact (S_way hsc hi22 c_y22_1).2
      refine lv_iload_n hx hb dX11_isOfWay_45 rfl (lv_at hl 2 rfl) ?_
      refine z_i (wr := []) (va_runV (As := [.int xy22_2, .int l22_2]) (rest := []) ⟨hx, hb, hml, hown, hts⟩ (mX11_other l dC dI kA _ n0 m_taped m_laws m_next m_wrong m_number m_text m_made m_deep m_lines m_opened m_top m_goNode m_goDrops m_goHour m_goFelt m_goSalt m_goMore m_bestLeft m_bestHour m_bestMany a_tape a_sign a_length a_clause a_clauses a_chain a_open a_stack a_word a_said a_kept a_stepNode a_stepDrops a_stepHour a_stepNext a_stepPass a_bestPass a_far a_waited a_servers a_images a_isMade saidF zn zp zj zo zf zm zk zw pd xy22_2 l22_2 hsc hyy22_3a (z_tr hyy22_3b hz12)) (cwV 2 hts gX11_isOfWay_X11_other rfl rfl rfl ⟨rfl, hdX11_other⟩ ⟨(Nat.le_trans (Nat.le_of_ble_eq_true rfl) hRf), (Nat.le_trans (Nat.le_of_ble_eq_true rfl) hRl)⟩) ⟨zPc.blind, va_recv (q := (RX11, TX11, 42)) hK.1 hP (ci := 11) (q0 := 0) rfl rfl, zPre hK (hP.sub [0, 1] rfl) (hD.sub [0, 1] (by decide) rfl)⟩ rfl rfl hl.1 rfl (lv_room (Nat.le_of_ble_eq_true rfl)) dX11_isOfWay_46 ⟨hRc, hRs⟩) hP hD hS hA [0, 1] [] rfl rfl (by decide) (by decide) (fun ry22_6 uy22_4 H locs hwy22_5 hP hD hS => ?_)
      obtain ⟨rfl, hpy22_7, hpy22_8⟩ := hwy22_5
      obtain ⟨hP, hD⟩ := z_re (L := [(n0, .inr (11, .ref a_tape :: .int m_taped :: .int m_laws :: .ref a_sign :: .ref a_length :: .ref a_clause :: .ref a_clauses :: .ref a_chain :: .int m_next :: .int m_wrong :: .int m_number :: .int m_text :: .int m_made :: .int m_deep :: .int m_lines :: .ref a_open :: .int m_opened :: .ref a_stack :: .int m_top :: .ref a_word :: .ref a_said :: .ref a_kept :: [.int m_goNode, .int m_goDrops, .int m_goHour, .int m_goFelt, .int m_goSalt, .int m_goMore, .ref a_stepNode, .ref a_stepDrops, .ref a_stepHour, .ref a_stepNext, .ref a_stepPass, .int m_bestLeft, .int m_bestHour, .int m_bestMany, .ref a_bestPass, .ref a_far, .ref a_waited, .ref a_servers, .ref a_images, .ref a_isMade])), (a_said, .inl (kA 0, 360, .inl saidF))]) hP hD
      refine lv_topi (fun xy22_9 exy22_9 => ?_)
      have hG := zbnd hG exy22_9
      refine lv_istore_n (lv' := [(2, .int xy22_9), (4, .int l22_0), (3, .int l22_1), (0, .ref n0), (1, .int p0)]) hx hb dX11_isOfWay_49 rfl hl (by decide) rfl (fun ls hl => ?_)
      refine lv_iload_n hx hb dX11_isOfWay_50 rfl (lv_at hl 2 rfl) ?_
      refine lv_if_ne (tgt := 59) hx hb dX11_isOfWay_51 (by decide) (fun c_y22_10 => ?_) (fun c_y22_10 => ?_)
      · have hG := zelse hG c_y22_10
        refine lv_iconst (v := 1) hx hb dX11_isOfWay_59 (by decide) ?_
        refine lv_goto (tgt := 64) hx hb dX11_isOfWay_60 (by decide) ?_
        refine lv_istore_n (lv' := [(3, .int 1), (2, .int xy22_9), (4, .int l22_0), (0, .ref n0), (1, .int p0)]) hx hb dX11_isOfWay_64 rfl hl (by decide) rfl (fun ls hl => ?_)
        obtain ⟨xy22_11, exy22_11⟩ : ∃ y : Int32, y = l22_0 + 1 := ⟨_, rfl⟩
        have hG := zbnd hG exy22_11
        refine lv_iinc (v := xy22_11) (lv' := [(4, .int xy22_11), (3, .int 1), (2, .int xy22_9), (0, .ref n0), (1, .int p0)]) hx hb dX11_isOfWay_65 hl (k := 2) rfl (by rw [exy22_11]; rfl) (by decide) rfl (fun ls hl => ?_)
        refine lv_goto (tgt := 22) hx hb dX11_isOfWay_68 (by decide) ?_
        exact ih xy22_11 1 xy22_9 H locs ls (z_up hn exy22_11 c_y22_1) hG (z_nn exy22_11 c_y22_1 hi22) (Or.inr rfl) (hP.sub [0, 1] rfl) (hD.sub [0, 1] (by decide) rfl) hS (lv_sub hl [0, 1, 2, 3, 4] rfl)
      · have hG := zthen hG c_y22_10
        refine lv_iload_n hx hb dX11_isOfWay_54 rfl (lv_at hl 0 rfl) ?_
        refine lv_iload_n hx hb dX11_isOfWay_55 rfl (lv_at hl 4 rfl) ?_
        refine lv_icmp_ne (tgt := 63) hx hb dX11_isOfWay_56 (by decide) (fun c_y22_12 => ?_) (fun c_y22_12 => ?_)
        · have hG := zelse hG c_y22_12
          refine lv_iconst (v := 0) hx hb dX11_isOfWay_63 (by decide) ?_
          refine lv_istore_n (lv' := [(3, .int 0), (2, .int xy22_9), (4, .int l22_0), (0, .ref n0), (1, .int p0)]) hx hb dX11_isOfWay_64 rfl hl (by decide) rfl (fun ls hl => ?_)
          obtain ⟨xy22_13, exy22_13⟩ : ∃ y : Int32, y = l22_0 + 1 := ⟨_, rfl⟩
          have hG := zbnd hG exy22_13
          refine lv_iinc (v := xy22_13) (lv' := [(4, .int xy22_13), (3, .int 0), (2, .int xy22_9), (0, .ref n0), (1, .int p0)]) hx hb dX11_isOfWay_65 hl (k := 2) rfl (by rw [exy22_13]; rfl) (by decide) rfl (fun ls hl => ?_)
          refine lv_goto (tgt := 22) hx hb dX11_isOfWay_68 (by decide) ?_
          exact ih xy22_13 0 xy22_9 H locs ls (z_up hn exy22_13 c_y22_1) hG (z_nn exy22_13 c_y22_1 hi22) (Or.inl rfl) (hP.sub [0, 1] rfl) (hD.sub [0, 1] (by decide) rfl) hS (lv_sub hl [0, 1, 2, 3, 4] rfl)
        · have hG := zthen hG c_y22_12
          refine lv_iconst (v := 1) hx hb dX11_isOfWay_59 (by decide) ?_
          refine lv_goto (tgt := 64) hx hb dX11_isOfWay_60 (by decide) ?_
          refine lv_istore_n (lv' := [(3, .int 1), (2, .int xy22_9), (4, .int l22_0), (0, .ref n0), (1, .int p0)]) hx hb dX11_isOfWay_64 rfl hl (by decide) rfl (fun ls hl => ?_)
          obtain ⟨xy22_14, exy22_14⟩ : ∃ y : Int32, y = l22_0 + 1 := ⟨_, rfl⟩
          have hG := zbnd hG exy22_14
          refine lv_iinc (v := xy22_14) (lv' := [(4, .int xy22_14), (3, .int 1), (2, .int xy22_9), (0, .ref n0), (1, .int p0)]) hx hb dX11_isOfWay_65 hl (k := 2) rfl (by rw [exy22_14]; rfl) (by decide) rfl (fun ls hl => ?_)
          refine lv_goto (tgt := 22) hx hb dX11_isOfWay_68 (by decide) ?_
          exact ih xy22_14 1 xy22_9 H locs ls (z_up hn exy22_14 c_y22_1) hG (z_nn exy22_14 c_y22_1 hi22) (Or.inr rfl) (hP.sub [0, 1] rfl) (hD.sub [0, 1] (by decide) rfl) hS (lv_sub hl [0, 1, 2, 3, 4] rfl)
set_option maxRecDepth 100000 in
def fX11_isOfWay (saidF : Nat → Int32) (zk : Int32) (zw : Int32) (p0 : Int32) : Int32 := if zk = p0 then (fl_mX11_isOfWay_22_1 saidF zw p0 (fun (w71_0_1 : Int32) (w71_1_1 : Int32) (w71_2_1 : Int32) => w71_1_1) (((zw : Int32).toInt - (0 : Int32).toInt).toNat + 1) 0 1 zk) else (fl_mX11_isOfWay_22 saidF zw p0 (fun (w71_0_0 : Int32) (w71_1_0 : Int32) (w71_2_0 : Int32) => w71_1_0) (((zw : Int32).toInt - (0 : Int32).toInt).toNat + 1) 0 0 zk)
set_option maxHeartbeats 4000000 in
set_option maxRecDepth 100000 in
theorem mX11_isOfWay (l : Launch) (dC : Nat → ClassId) (dI : Nat → Nat → Nat) (kA : Nat → ClassId) (sz : Nat) (n0 : Nat) (m_taped : Int32) (m_laws : Int32) (m_next : Int32) (m_wrong : Int32) (m_number : Int32) (m_text : Int32) (m_made : Int32) (m_deep : Int32) (m_lines : Int32) (m_opened : Int32) (m_top : Int32) (m_goNode : Int32) (m_goDrops : Int32) (m_goHour : Int32) (m_goFelt : Int32) (m_goSalt : Int32) (m_goMore : Int32) (m_bestLeft : Int32) (m_bestHour : Int32) (m_bestMany : Int32) (a_tape : Nat) (a_sign : Nat) (a_length : Nat) (a_clause : Nat) (a_clauses : Nat) (a_chain : Nat) (a_open : Nat) (a_stack : Nat) (a_word : Nat) (a_said : Nat) (a_kept : Nat) (a_stepNode : Nat) (a_stepDrops : Nat) (a_stepHour : Nat) (a_stepNext : Nat) (a_stepPass : Nat) (a_bestPass : Nat) (a_far : Nat) (a_waited : Nat) (a_servers : Nat) (a_images : Nat) (a_isMade : Nat) (saidF : Nat → Int32) (zn : Int32) (zp : Int32) (zj : Int32) (zo : Int32) (zf : Int32) (zm : Int32) (zk : Int32) (zw : Int32) (pd : Nat → Int32) (p0 : Int32) (hsc : SC saidF zn zp zj zo zf zm zk zw pd) : Met l yX11_isOfWay wsX11_isOfWay ({ frames := 2, cells := 0, slots := 0, locals := 44 }) (zPc dC dI kA sz [.ref n0, .int p0] [(n0, .inr (11, .ref a_tape :: .int m_taped :: .int m_laws :: .ref a_sign :: .ref a_length :: .ref a_clause :: .ref a_clauses :: .ref a_chain :: .int m_next :: .int m_wrong :: .int m_number :: .int m_text :: .int m_made :: .int m_deep :: .int m_lines :: .ref a_open :: .int m_opened :: .ref a_stack :: .int m_top :: .ref a_word :: .ref a_said :: .ref a_kept :: [.int m_goNode, .int m_goDrops, .int m_goHour, .int m_goFelt, .int m_goSalt, .int m_goMore, .ref a_stepNode, .ref a_stepDrops, .ref a_stepHour, .ref a_stepNext, .ref a_stepPass, .int m_bestLeft, .int m_bestHour, .int m_bestMany, .ref a_bestPass, .ref a_far, .ref a_waited, .ref a_servers, .ref a_images, .ref a_isMade])), (a_said, .inl (kA 0, 360, .inl saidF))]) (va_Qi (fun (r : Int32) (u : Int32) => r = u ∧ u = fX11_isOfWay saidF zk zw p0 ∧ (u = 0 ∨ u = 1)) (zB dC dI (va_A [(n0, .inr (11, .ref a_tape :: .int m_taped :: .int m_laws :: .ref a_sign :: .ref a_length :: .ref a_clause :: .ref a_clauses :: .ref a_chain :: .int m_next :: .int m_wrong :: .int m_number :: .int m_text :: .int m_made :: .int m_deep :: .int m_lines :: .ref a_open :: .int m_opened :: .ref a_stack :: .int m_top :: .ref a_word :: .ref a_said :: .ref a_kept :: [.int m_goNode, .int m_goDrops, .int m_goHour, .int m_goFelt, .int m_goSalt, .int m_goMore, .ref a_stepNode, .ref a_stepDrops, .ref a_stepHour, .ref a_stepNext, .ref a_stepPass, .int m_bestLeft, .int m_bestHour, .int m_bestMany, .ref a_bestPass, .ref a_far, .ref a_waited, .ref a_servers, .ref a_images, .ref a_isMade])), (a_said, .inl (kA 0, 360, .inl saidF))] sz) (fun (u : Int32) => [(n0, .inr (11, .ref a_tape :: .int m_taped :: .int m_laws :: .ref a_sign :: .ref a_length :: .ref a_clause :: .ref a_clauses :: .ref a_chain :: .int m_next :: .int m_wrong :: .int m_number :: .int m_text :: .int m_made :: .int m_deep :: .int m_lines :: .ref a_open :: .int m_opened :: .ref a_stack :: .int m_top :: .ref a_word :: .ref a_said :: .ref a_kept :: [.int m_goNode, .int m_goDrops, .int m_goHour, .int m_goFelt, .int m_goSalt, .int m_goMore, .ref a_stepNode, .ref a_stepDrops, .ref a_stepHour, .ref a_stepNext, .ref a_stepPass, .int m_bestLeft, .int m_bestHour, .int m_bestMany, .ref a_bestPass, .ref a_far, .ref a_waited, .ref a_servers, .ref a_images, .ref a_isMade])), (a_said, .inl (kA 0, 360, .inl saidF))])) (va_A [(n0, .inr (11, .ref a_tape :: .int m_taped :: .int m_laws :: .ref a_sign :: .ref a_length :: .ref a_clause :: .ref a_clauses :: .ref a_chain :: .int m_next :: .int m_wrong :: .int m_number :: .int m_text :: .int m_made :: .int m_deep :: .int m_lines :: .ref a_open :: .int m_opened :: .ref a_stack :: .int m_top :: .ref a_word :: .ref a_said :: .ref a_kept :: [.int m_goNode, .int m_goDrops, .int m_goHour, .int m_goFelt, .int m_goSalt, .int m_goMore, .ref a_stepNode, .ref a_stepDrops, .ref a_stepHour, .ref a_stepNext, .ref a_stepPass, .int m_bestLeft, .int m_bestHour, .int m_bestMany, .ref a_bestPass, .ref a_far, .ref a_waited, .ref a_servers, .ref a_images, .ref a_isMade])), (a_said, .inl (kA 0, 360, .inl saidF))] sz)) 0 0 (va_A [(n0, .inr (11, .ref a_tape :: .int m_taped :: .int m_laws :: .ref a_sign :: .ref a_length :: .ref a_clause :: .ref a_clauses :: .ref a_chain :: .int m_next :: .int m_wrong :: .int m_number :: .int m_text :: .int m_made :: .int m_deep :: .int m_lines :: .ref a_open :: .int m_opened :: .ref a_stack :: .int m_top :: .ref a_word :: .ref a_said :: .ref a_kept :: [.int m_goNode, .int m_goDrops, .int m_goHour, .int m_goFelt, .int m_goSalt, .int m_goMore, .ref a_stepNode, .ref a_stepDrops, .ref a_stepHour, .ref a_stepNext, .ref a_stepPass, .int m_bestLeft, .int m_bestHour, .int m_bestMany, .ref a_bestPass, .ref a_far, .ref a_waited, .ref a_servers, .ref a_images, .ref a_isMade])), (a_said, .inl (kA 0, 360, .inl saidF))] sz) := by
  refine Met.ofW (cc := cX11_isOfWay) (maxL := 5) (ret := (some .boolean)) pnX11 rfl ?_
  intro p e s m args below meth c s₁ B hml hv
  obtain ⟨rfl, hsz, hP, hK, hD0⟩ := hv
  have hx := B.exec
  have hb := B.bytes
  have hr := B.returns
  have hts := atoms_spec (ws := wsX11_isOfWay) B.pre
  have hown : s.vm.findClass RX11 = some m.cls := findClass_of_methodNamed B.named
  have hlocks := B.notSynchronized
  subst hsz
  have hD := hD0.self (sz := s.heap.size)
  generalize hAe : va_A [(n0, .inr (11, .ref a_tape :: .int m_taped :: .int m_laws :: .ref a_sign :: .ref a_length :: .ref a_clause :: .ref a_clauses :: .ref a_chain :: .int m_next :: .int m_wrong :: .int m_number :: .int m_text :: .int m_made :: .int m_deep :: .int m_lines :: .ref a_open :: .int m_opened :: .ref a_stack :: .int m_top :: .ref a_word :: .ref a_said :: .ref a_kept :: [.int m_goNode, .int m_goDrops, .int m_goHour, .int m_goFelt, .int m_goSalt, .int m_goMore, .ref a_stepNode, .ref a_stepDrops, .ref a_stepHour, .ref a_stepNext, .ref a_stepPass, .int m_bestLeft, .int m_bestHour, .int m_bestMany, .ref a_bestPass, .ref a_far, .ref a_waited, .ref a_servers, .ref a_images, .ref a_isMade])), (a_said, .inl (kA 0, 360, .inl saidF))] s.heap.size = A at hD ⊢
  have hA : ∀ q : Nat, s.heap.size ≤ q → A q := zA_of hAe
  have hS : va_S A s.heap s.heap [] := va_S.rf
  have hP : va_P (dC, dI) vwCl [(n0, .inr (11, .ref a_tape :: .int m_taped :: .int m_laws :: .ref a_sign :: .ref a_length :: .ref a_clause :: .ref a_clauses :: .ref a_chain :: .int m_next :: .int m_wrong :: .int m_number :: .int m_text :: .int m_made :: .int m_deep :: .int m_lines :: .ref a_open :: .int m_opened :: .ref a_stack :: .int m_top :: .ref a_word :: .ref a_said :: .ref a_kept :: [.int m_goNode, .int m_goDrops, .int m_goHour, .int m_goFelt, .int m_goSalt, .int m_goMore, .ref a_stepNode, .ref a_stepDrops, .ref a_stepHour, .ref a_stepNext, .ref a_stepPass, .int m_bestLeft, .int m_bestHour, .int m_bestMany, .ref a_bestPass, .ref a_far, .ref a_waited, .ref a_servers, .ref a_images, .ref a_isMade])), (a_said, .inl (kA 0, 360, .inl saidF))] s.heap := hP
  have hl := lv_entry ([.ref n0, .int p0]) (n := 5) (Nat.le_of_ble_eq_true rfl)
  rw [lg_entry_eq]
  generalize (lg_sl ([.ref n0, .int p0]) ++ List.replicate (5 - (lg_sl ([.ref n0, .int p0])).length) Slot.unset).toArray = ls at hl ⊢
  have hl : lv_has ls 5 [(0, .ref n0), (1, .int p0)] := hl
  obtain ⟨H, hHe⟩ : ∃ H : Heap, H = s.heap := ⟨_, rfl⟩
  obtain ⟨G, hG0⟩ : ∃ G : Int32, fX11_isOfWay saidF zk zw p0 = G := ⟨_, rfl⟩
  have hG := hG0
  unfold fX11_isOfWay at hG
  have hz1 : saidF 0 = zn := hsc.1.1
  have hz2 : saidF 1 = zp := hsc.1.2.1
  have hz3 : saidF 2 = zj := hsc.1.2.2.1
  have hz4 : saidF 3 = zo := hsc.1.2.2.2.1
  have hz5 : saidF 4 = zf := hsc.1.2.2.2.2.1
  have hz6 : saidF 6 = zm := hsc.1.2.2.2.2.2.1
  have hz7 : saidF 8 = zk := hsc.1.2.2.2.2.2.2.1
  have hz8 : saidF 9 = zw := hsc.1.2.2.2.2.2.2.2
  have hz9 : ¬ zn < 0 := hsc.2.1.1
  have hz10 : ¬ 12 < zn := hsc.2.1.2
  have hz11 : ¬ zp < 0 := hsc.2.2.1.1
  have hz12 : ¬ 20 < zp := hsc.2.2.1.2
  have hz13 : ¬ zj < 0 := hsc.2.2.2.1.1
  have hz14 : ¬ 16 < zj := hsc.2.2.2.1.2
  have hz15 : ¬ zo < 0 := hsc.2.2.2.2.1.1
  have hz16 : ¬ 6 < zo := hsc.2.2.2.2.1.2
  have hz17 : ¬ zf < 0 := hsc.2.2.2.2.2.1.1
  have hz18 : ¬ 8 < zf := hsc.2.2.2.2.2.1.2
  have hz19 : ¬ zk < (-1) := hsc.2.2.2.2.2.2.1.1
  have hz20 : ¬ 12 ≤ zk := hsc.2.2.2.2.2.2.1.2
  have hz21 : ¬ zw < 0 := hsc.2.2.2.2.2.2.2.1.1
  have hz22 : ¬ 6 < zw := hsc.2.2.2.2.2.2.2.1.2
  refine lv_aload_n hx hb dX11_isOfWay_0 rfl (lv_at hl 0 rfl) ?_
  refine va_get (D := (dC, dI)) (ci := 11) (v := .ref a_said) (C := RX11) (T := TX11) (N := 42) hx hb hts iX11_isOfWay_X11 hown hK.1 hP 0 gz0 vcz11 20 (by decide) (kX11_isOfWay_1 hts) (fun _ h9 => h9) gz20 dX11_isOfWay_1 ?_
  refine lv_bipush (v := 8) hx hb dX11_isOfWay_4 (by decide) ?_
  refine va_iald hx hb hK.1 hP 1 0 gz1 tzz0 (vpd (by decide)) dX11_isOfWay_6 ?_
  refine zi zk hz7 ?_
  refine lv_istore_n (lv' := [(2, .int zk), (0, .ref n0), (1, .int p0)]) hx hb dX11_isOfWay_7 rfl hl (by decide) rfl (fun ls hl => ?_)
  refine lv_iload_n hx hb dX11_isOfWay_8 rfl (lv_at hl 0 rfl) ?_
  refine lv_iload_n hx hb dX11_isOfWay_9 rfl (lv_at hl 2 rfl) ?_
  refine lv_icmp_ne (tgt := 17) hx hb dX11_isOfWay_10 (by decide) (fun c_23 => ?_) (fun c_23 => ?_)
  · have hG := zelse hG c_23
    refine lv_iconst (v := 0) hx hb dX11_isOfWay_17 (by decide) ?_
    refine lv_istore_n (lv' := [(3, .int 0), (2, .int zk), (0, .ref n0), (1, .int p0)]) hx hb dX11_isOfWay_18 rfl hl (by decide) rfl (fun ls hl => ?_)
    refine lv_iconst (v := 0) hx hb dX11_isOfWay_19 (by decide) ?_
    refine lv_istore (lv' := [(4, .int 0), (3, .int 0), (2, .int zk), (0, .ref n0), (1, .int p0)]) hx hb dX11_isOfWay_20 hl (by decide) rfl (fun ls hl => ?_)
    refine lp_mX11_isOfWay_22 hx hb hml hts hown hK hA (Nat.le_of_ble_eq_true rfl) (Nat.le_of_ble_eq_true rfl) (Nat.le_of_ble_eq_true rfl) (Nat.le_of_ble_eq_true rfl) n0 m_taped m_laws m_next m_wrong m_number m_text m_made m_deep m_lines m_opened m_top m_goNode m_goDrops m_goHour m_goFelt m_goSalt m_goMore m_bestLeft m_bestHour m_bestMany a_tape a_sign a_length a_clause a_clauses a_chain a_open a_stack a_word a_said a_kept a_stepNode a_stepDrops a_stepHour a_stepNext a_stepPass a_bestPass a_far a_waited a_servers a_images a_isMade saidF zn zp zj zo zf zm zk zw pd p0 hsc hz1 hz2 hz3 hz4 hz5 hz6 hz7 hz8 hz9 hz10 hz11 hz12 hz13 hz14 hz15 hz16 hz17 hz18 hz19 hz20 hz21 hz22 c_23 (fun w71_0_0 w71_1_0 w71_2_0 H locs ls hx71_4_nlt00_0 hb3_0 hG hP hD hS hl => ?_) _ 0 0 zk _ _ ls (Nat.lt_succ_self _) hG (by decide) (Or.inl rfl) hP hD hS (lv_sub hl [0, 1, 2, 3, 4] rfl)
    obtain ⟨hP, hD⟩ := z_re (L := [(n0, .inr (11, .ref a_tape :: .int m_taped :: .int m_laws :: .ref a_sign :: .ref a_length :: .ref a_clause :: .ref a_clauses :: .ref a_chain :: .int m_next :: .int m_wrong :: .int m_number :: .int m_text :: .int m_made :: .int m_deep :: .int m_lines :: .ref a_open :: .int m_opened :: .ref a_stack :: .int m_top :: .ref a_word :: .ref a_said :: .ref a_kept :: [.int m_goNode, .int m_goDrops, .int m_goHour, .int m_goFelt, .int m_goSalt, .int m_goMore, .ref a_stepNode, .ref a_stepDrops, .ref a_stepHour, .ref a_stepNext, .ref a_stepPass, .int m_bestLeft, .int m_bestHour, .int m_bestMany, .ref a_bestPass, .ref a_far, .ref a_waited, .ref a_servers, .ref a_images, .ref a_isMade])), (a_said, .inl (kA 0, 360, .inl saidF))]) hP hD
    refine lv_iload_n hx hb dX11_isOfWay_71 rfl (lv_at hl 1 rfl) ?_
    obtain ⟨hP9, hD9⟩ := z_sb (L' := [(n0, .inr (11, .ref a_tape :: .int m_taped :: .int m_laws :: .ref a_sign :: .ref a_length :: .ref a_clause :: .ref a_clauses :: .ref a_chain :: .int m_next :: .int m_wrong :: .int m_number :: .int m_text :: .int m_made :: .int m_deep :: .int m_lines :: .ref a_open :: .int m_opened :: .ref a_stack :: .int m_top :: .ref a_word :: .ref a_said :: .ref a_kept :: [.int m_goNode, .int m_goDrops, .int m_goHour, .int m_goFelt, .int m_goSalt, .int m_goMore, .ref a_stepNode, .ref a_stepDrops, .ref a_stepHour, .ref a_stepNext, .ref a_stepPass, .int m_bestLeft, .int m_bestHour, .int m_bestMany, .ref a_bestPass, .ref a_far, .ref a_waited, .ref a_servers, .ref a_images, .ref a_isMade])), (a_said, .inl (kA 0, 360, .inl saidF))]) hP hD [0, 1] (by decide) rfl
    refine W.widen (k := 0) (n := 0) (Nat.le_of_ble_eq_true rfl) (Nat.le_of_ble_eq_true rfl) ?_
    exact W.zret (v := w71_1_0) hx hb hr (znar hb3_0) (fun t ht hW => ⟨⟨w71_1_0, (w71_1_0), rfl, ⟨rfl, (hG.trans hG0.symm), hb3_0⟩, by rw [ht]; exact hP9, hD9⟩, hS.F ht⟩) hS.2.2 dX11_isOfWay_72
  · have hG := zthen hG c_23
    refine lv_iconst (v := 1) hx hb dX11_isOfWay_13 (by decide) ?_
    refine lv_goto (tgt := 18) hx hb dX11_isOfWay_14 (by decide) ?_
    refine lv_istore_n (lv' := [(3, .int 1), (2, .int zk), (0, .ref n0), (1, .int p0)]) hx hb dX11_isOfWay_18 rfl hl (by decide) rfl (fun ls hl => ?_)
    refine lv_iconst (v := 0) hx hb dX11_isOfWay_19 (by decide) ?_
    refine lv_istore (lv' := [(4, .int 0), (3, .int 1), (2, .int zk), (0, .ref n0), (1, .int p0)]) hx hb dX11_isOfWay_20 hl (by decide) rfl (fun ls hl => ?_)
    refine lp_mX11_isOfWay_22_1 hx hb hml hts hown hK hA (Nat.le_of_ble_eq_true rfl) (Nat.le_of_ble_eq_true rfl) (Nat.le_of_ble_eq_true rfl) (Nat.le_of_ble_eq_true rfl) n0 m_taped m_laws m_next m_wrong m_number m_text m_made m_deep m_lines m_opened m_top m_goNode m_goDrops m_goHour m_goFelt m_goSalt m_goMore m_bestLeft m_bestHour m_bestMany a_tape a_sign a_length a_clause a_clauses a_chain a_open a_stack a_word a_said a_kept a_stepNode a_stepDrops a_stepHour a_stepNext a_stepPass a_bestPass a_far a_waited a_servers a_images a_isMade saidF zn zp zj zo zf zm zk zw pd p0 hsc hz1 hz2 hz3 hz4 hz5 hz6 hz7 hz8 hz9 hz10 hz11 hz12 hz13 hz14 hz15 hz16 hz17 hz18 hz19 hz20 hz21 hz22 c_23 (fun w71_0_1 w71_1_1 w71_2_1 H locs ls hx71_4_nlt00_1 hb3_1 hG hP hD hS hl => ?_) _ 0 1 zk _ _ ls (Nat.lt_succ_self _) hG (by decide) (Or.inr rfl) hP hD hS (lv_sub hl [0, 1, 2, 3, 4] rfl)
    obtain ⟨hP, hD⟩ := z_re (L := [(n0, .inr (11, .ref a_tape :: .int m_taped :: .int m_laws :: .ref a_sign :: .ref a_length :: .ref a_clause :: .ref a_clauses :: .ref a_chain :: .int m_next :: .int m_wrong :: .int m_number :: .int m_text :: .int m_made :: .int m_deep :: .int m_lines :: .ref a_open :: .int m_opened :: .ref a_stack :: .int m_top :: .ref a_word :: .ref a_said :: .ref a_kept :: [.int m_goNode, .int m_goDrops, .int m_goHour, .int m_goFelt, .int m_goSalt, .int m_goMore, .ref a_stepNode, .ref a_stepDrops, .ref a_stepHour, .ref a_stepNext, .ref a_stepPass, .int m_bestLeft, .int m_bestHour, .int m_bestMany, .ref a_bestPass, .ref a_far, .ref a_waited, .ref a_servers, .ref a_images, .ref a_isMade])), (a_said, .inl (kA 0, 360, .inl saidF))]) hP hD
    refine lv_iload_n hx hb dX11_isOfWay_71 rfl (lv_at hl 1 rfl) ?_
    obtain ⟨hP9, hD9⟩ := z_sb (L' := [(n0, .inr (11, .ref a_tape :: .int m_taped :: .int m_laws :: .ref a_sign :: .ref a_length :: .ref a_clause :: .ref a_clauses :: .ref a_chain :: .int m_next :: .int m_wrong :: .int m_number :: .int m_text :: .int m_made :: .int m_deep :: .int m_lines :: .ref a_open :: .int m_opened :: .ref a_stack :: .int m_top :: .ref a_word :: .ref a_said :: .ref a_kept :: [.int m_goNode, .int m_goDrops, .int m_goHour, .int m_goFelt, .int m_goSalt, .int m_goMore, .ref a_stepNode, .ref a_stepDrops, .ref a_stepHour, .ref a_stepNext, .ref a_stepPass, .int m_bestLeft, .int m_bestHour, .int m_bestMany, .ref a_bestPass, .ref a_far, .ref a_waited, .ref a_servers, .ref a_images, .ref a_isMade])), (a_said, .inl (kA 0, 360, .inl saidF))]) hP hD [0, 1] (by decide) rfl
    refine W.widen (k := 0) (n := 0) (Nat.le_of_ble_eq_true rfl) (Nat.le_of_ble_eq_true rfl) ?_
    exact W.zret (v := w71_1_1) hx hb hr (znar hb3_1) (fun t ht hW => ⟨⟨w71_1_1, (w71_1_1), rfl, ⟨rfl, (hG.trans hG0.symm), hb3_1⟩, by rw [ht]; exact hP9, hD9⟩, hS.F ht⟩) hS.2.2 dX11_isOfWay_72
