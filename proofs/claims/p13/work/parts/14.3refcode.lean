def ixX11_one : List Nat := [854]
def wsX11_one : List Cond := .code yX11_one cX11_one 5 (some .long) :: ixX11_one.map wt
def ixX11_pop : List Nat := [151, 843, 851, 1499, 1500, 1501, 1502, 1503, 1504, 1505, 1506, 1507, 1508, 1509, 1510, 1511, 1512, 1513, 1514, 1515, 1516, 1517, 1518, 1519, 1520, 1521, 1522, 1523, 1524, 1525, 1526, 1527, 1528, 1529, 1530, 1531, 1532, 1533, 1534, 1535, 1536, 1537, 1538, 1539, 1540]
def wsX11_pop : List Cond := .code yX11_pop cX11_pop 1 (some .long) :: ixX11_pop.map wt
def ixX11_push : List Nat := [151, 843, 847, 1499, 1500, 1501, 1502, 1503, 1504, 1505, 1506, 1507, 1508, 1509, 1510, 1511, 1512, 1513, 1514, 1515, 1516, 1517, 1518, 1519, 1520, 1521, 1522, 1523, 1524, 1525, 1526, 1527, 1528, 1529, 1530, 1531, 1532, 1533, 1534, 1535, 1536, 1537, 1538, 1539, 1540]
def wsX11_push : List Cond := .code yX11_push cX11_push 3 none :: ixX11_push.map wt
def ixX11_reckons : List Nat := [5, 144, 151, 152, 842, 843, 844, 845, 846, 847, 848, 849, 850, 851, 852, 853, 854, 1499, 1500, 1501, 1502, 1503, 1504, 1505, 1506, 1507, 1508, 1509, 1510, 1511, 1512, 1513, 1514, 1515, 1516, 1517, 1518, 1519, 1520, 1521, 1522, 1523, 1524, 1525, 1526, 1527, 1528, 1529, 1530, 1531, 1532, 1533, 1534, 1535, 1536, 1537, 1538, 1539, 1540]
def wsX11_reckons : List Cond := .code yX11_reckons cX11_reckons 11 (some .long) :: ixX11_reckons.map wt
theorem ggX11_reckons_X11_one : GoodIn wsX11_reckons wsX11_one := gi_ (A := ixX11_reckons) (B := ixX11_one) wt854 (by decide +kernel)
theorem gX11_reckons_X11_one : GoodIn wsX11_reckons (va_wsS RX11 249 yX11_one wsX11_one) := g3_ (A := ixX11_reckons) wt852 wt853 wt5 (by decide +kernel) ggX11_reckons_X11_one
theorem ggX11_reckons_X11_pop : GoodIn wsX11_reckons wsX11_pop := gi_ (A := ixX11_reckons) (B := ixX11_pop) wt851 (by decide +kernel)
theorem gX11_reckons_X11_pop : GoodIn wsX11_reckons (wsV RX11 245 RX11 yX11_pop wsX11_pop) := g4_ (A := ixX11_reckons) wt848 wt849 wt850 wt5 (by decide +kernel) ggX11_reckons_X11_pop
theorem ggX11_reckons_X11_push : GoodIn wsX11_reckons wsX11_push := gi_ (A := ixX11_reckons) (B := ixX11_push) wt847 (by decide +kernel)
theorem gX11_reckons_X11_push : GoodIn wsX11_reckons (wsV RX11 241 RX11 yX11_push wsX11_push) := g4_ (A := ixX11_reckons) wt844 wt845 wt846 wt5 (by decide +kernel) ggX11_reckons_X11_push
theorem kX11_push_1 {a : Array Value} {s : State} (hts : ∀ w ∈ wsX11_push, w.before a s = true) : (.fieldLink RX11 32 "SnowMulesModel" "stack" "[J" : Cond).before a s = true := kw (A := ixX11_push) wt151 hts (by decide +kernel)
theorem kX11_push_2 {a : Array Value} {s : State} (hts : ∀ w ∈ wsX11_push, w.before a s = true) : (.fieldLink RX11 238 "SnowMulesModel" "top" "I" : Cond).before a s = true := kw (A := ixX11_push) wt843 hts (by decide +kernel)
theorem kX11_pop_1 {a : Array Value} {s : State} (hts : ∀ w ∈ wsX11_pop, w.before a s = true) : (.fieldLink RX11 238 "SnowMulesModel" "top" "I" : Cond).before a s = true := kw (A := ixX11_pop) wt843 hts (by decide +kernel)
theorem kX11_pop_2 {a : Array Value} {s : State} (hts : ∀ w ∈ wsX11_pop, w.before a s = true) : (.fieldLink RX11 32 "SnowMulesModel" "stack" "[J" : Cond).before a s = true := kw (A := ixX11_pop) wt151 hts (by decide +kernel)
theorem kX11_reckons_1 {a : Array Value} {s : State} (hts : ∀ w ∈ wsX11_reckons, w.before a s = true) : (.fieldLink RX11 238 "SnowMulesModel" "top" "I" : Cond).before a s = true := kw (A := ixX11_reckons) wt843 hts (by decide +kernel)
theorem kX11_reckons_2 {a : Array Value} {s : State} (hts : ∀ w ∈ wsX11_reckons, w.before a s = true) : (.fieldLink RX11 13 "SnowMulesModel" "sign" "[I" : Cond).before a s = true := kw (A := ixX11_reckons) wt144 hts (by decide +kernel)
theorem kX11_reckons_3 {a : Array Value} {s : State} (hts : ∀ w ∈ wsX11_reckons, w.before a s = true) : (.fieldLink RX11 36 "SnowMulesModel" "word" "[J" : Cond).before a s = true := kw (A := ixX11_reckons) wt152 hts (by decide +kernel)
theorem iX11_push_X11 : ∀ w ∈ wsX110, w ∈ wsX11_push := inW (A := ixX11_push) uwX11 (by decide +kernel)
theorem iX11_pop_X11 : ∀ w ∈ wsX110, w ∈ wsX11_pop := inW (A := ixX11_pop) uwX11 (by decide +kernel)
theorem iX11_reckons_X11 : ∀ w ∈ wsX110, w ∈ wsX11_reckons := inW (A := ixX11_reckons) uwX11 (by decide +kernel)
theorem hdX11_pop : yX11_pop.cls ≠ "java/lang/invoke/MethodHandle" ∧ yX11_pop.cls ≠ "java/lang/invoke/VarHandle" ∧ (parseMethodDescriptor yX11_pop.desc).map (fun d => d.parameters.length) = some 0 := ⟨hdc_0.1, hdc_0.2, hdd_8⟩
theorem hdX11_one : yX11_one.cls ≠ "java/lang/invoke/MethodHandle" ∧ yX11_one.cls ≠ "java/lang/invoke/VarHandle" ∧ (parseMethodDescriptor yX11_one.desc).map (fun d => d.parameters.length) = some 3 := ⟨hdc_0.1, hdc_0.2, hdd_9⟩
theorem hdX11_push : yX11_push.cls ≠ "java/lang/invoke/MethodHandle" ∧ yX11_push.cls ≠ "java/lang/invoke/VarHandle" ∧ (parseMethodDescriptor yX11_push.desc).map (fun d => d.parameters.length) = some 1 := ⟨hdc_0.1, hdc_0.2, hdd_10⟩
def dtX11_push_14_0 : List (Nat × Jvm.ClassFile.Instr × Nat) := [(0, .aload_n 0, 1), (1, .getfield 32, 3), (4, .aload_n 0, 1), (5, .getfield 238, 3), (8, .lload_n 1, 1), (9, .lastore, 1), (10, .aload_n 0, 1), (11, .dup, 1), (12, .getfield 238, 3), (15, .iconst 1, 1), (16, .iadd, 1), (17, .putfield 238, 3), (20, .return_, 1)]
theorem daX11_push_14_0 : dtX11_push_14_0.all (dqd cX11_push) = true := by decide +kernel
theorem dX11_push_0 : decode cX11_push 0 = .ok (.aload_n 0, 1) := dq daX11_push_14_0 0 rfl
theorem dX11_push_1 : decode cX11_push 1 = .ok (.getfield 32, 3) := dq daX11_push_14_0 1 rfl
theorem dX11_push_4 : decode cX11_push 4 = .ok (.aload_n 0, 1) := dq daX11_push_14_0 2 rfl
theorem dX11_push_5 : decode cX11_push 5 = .ok (.getfield 238, 3) := dq daX11_push_14_0 3 rfl
theorem dX11_push_8 : decode cX11_push 8 = .ok (.lload_n 1, 1) := dq daX11_push_14_0 4 rfl
theorem dX11_push_9 : decode cX11_push 9 = .ok (.lastore, 1) := dq daX11_push_14_0 5 rfl
theorem dX11_push_10 : decode cX11_push 10 = .ok (.aload_n 0, 1) := dq daX11_push_14_0 6 rfl
theorem dX11_push_11 : decode cX11_push 11 = .ok (.dup, 1) := dq daX11_push_14_0 7 rfl
theorem dX11_push_12 : decode cX11_push 12 = .ok (.getfield 238, 3) := dq daX11_push_14_0 8 rfl
theorem dX11_push_15 : decode cX11_push 15 = .ok (.iconst 1, 1) := dq daX11_push_14_0 9 rfl
theorem dX11_push_16 : decode cX11_push 16 = .ok (.iadd, 1) := dq daX11_push_14_0 10 rfl
theorem dX11_push_17 : decode cX11_push 17 = .ok (.putfield 238, 3) := dq daX11_push_14_0 11 rfl
theorem dX11_push_20 : decode cX11_push 20 = .ok (.return_, 1) := dq daX11_push_14_0 12 rfl
def dtX11_pop_14_0 : List (Nat × Jvm.ClassFile.Instr × Nat) := [(0, .aload_n 0, 1), (1, .dup, 1), (2, .getfield 238, 3), (5, .iconst 1, 1), (6, .isub, 1), (7, .putfield 238, 3), (10, .aload_n 0, 1), (11, .getfield 32, 3), (14, .aload_n 0, 1), (15, .getfield 238, 3), (18, .laload, 1), (19, .lreturn, 1)]
theorem daX11_pop_14_0 : dtX11_pop_14_0.all (dqd cX11_pop) = true := by decide +kernel
theorem dX11_pop_0 : decode cX11_pop 0 = .ok (.aload_n 0, 1) := dq daX11_pop_14_0 0 rfl
theorem dX11_pop_1 : decode cX11_pop 1 = .ok (.dup, 1) := dq daX11_pop_14_0 1 rfl
theorem dX11_pop_2 : decode cX11_pop 2 = .ok (.getfield 238, 3) := dq daX11_pop_14_0 2 rfl
theorem dX11_pop_5 : decode cX11_pop 5 = .ok (.iconst 1, 1) := dq daX11_pop_14_0 3 rfl
theorem dX11_pop_6 : decode cX11_pop 6 = .ok (.isub, 1) := dq daX11_pop_14_0 4 rfl
theorem dX11_pop_7 : decode cX11_pop 7 = .ok (.putfield 238, 3) := dq daX11_pop_14_0 5 rfl
theorem dX11_pop_10 : decode cX11_pop 10 = .ok (.aload_n 0, 1) := dq daX11_pop_14_0 6 rfl
theorem dX11_pop_11 : decode cX11_pop 11 = .ok (.getfield 32, 3) := dq daX11_pop_14_0 7 rfl
theorem dX11_pop_14 : decode cX11_pop 14 = .ok (.aload_n 0, 1) := dq daX11_pop_14_0 8 rfl
theorem dX11_pop_15 : decode cX11_pop 15 = .ok (.getfield 238, 3) := dq daX11_pop_14_0 9 rfl
theorem dX11_pop_18 : decode cX11_pop 18 = .ok (.laload, 1) := dq daX11_pop_14_0 10 rfl
theorem dX11_pop_19 : decode cX11_pop 19 = .ok (.lreturn, 1) := dq daX11_pop_14_0 11 rfl
def dtX11_one_14_0 : List (Nat × Jvm.ClassFile.Instr × Nat) := [(0, .iload_n 0, 1), (1, .tableswitch 149 2 12 #[59, 63, 67, 71, 85, 97, 109, 121, 133, 149, 145], 59), (150, .lload_n 1, 1), (151, .lload_n 3, 1), (152, .lor, 1), (153, .lreturn, 1), (60, .lload_n 1, 1), (61, .lload_n 3, 1), (62, .ladd, 1), (63, .lreturn, 1), (64, .lload_n 1, 1), (65, .lload_n 3, 1), (66, .lsub, 1), (67, .lreturn, 1), (68, .lload_n 1, 1), (69, .lload_n 3, 1), (70, .lmul, 1), (71, .lreturn, 1), (72, .lload_n 3, 1), (73, .lconst 0, 1), (74, .lcmp, 1), (75, .ifCond .ne 7, 3), (82, .lload_n 1, 1), (83, .lload_n 3, 1), (84, .ldiv, 1), (85, .lreturn, 1), (78, .lconst 0, 1), (79, .goto 6, 3), (86, .lload_n 1, 1), (87, .lload_n 3, 1), (88, .lcmp, 1), (89, .ifCond .ge 7, 3)]
theorem daX11_one_14_0 : dtX11_one_14_0.all (dqd cX11_one) = true := by decide +kernel
theorem dX11_one_0 : decode cX11_one 0 = .ok (.iload_n 0, 1) := dq daX11_one_14_0 0 rfl
theorem dX11_one_1 : decode cX11_one 1 = .ok (.tableswitch 149 2 12 #[59, 63, 67, 71, 85, 97, 109, 121, 133, 149, 145], 59) := dq daX11_one_14_0 1 rfl
theorem dX11_one_150 : decode cX11_one 150 = .ok (.lload_n 1, 1) := dq daX11_one_14_0 2 rfl
theorem dX11_one_151 : decode cX11_one 151 = .ok (.lload_n 3, 1) := dq daX11_one_14_0 3 rfl
theorem dX11_one_152 : decode cX11_one 152 = .ok (.lor, 1) := dq daX11_one_14_0 4 rfl
theorem dX11_one_153 : decode cX11_one 153 = .ok (.lreturn, 1) := dq daX11_one_14_0 5 rfl
theorem dX11_one_60 : decode cX11_one 60 = .ok (.lload_n 1, 1) := dq daX11_one_14_0 6 rfl
theorem dX11_one_61 : decode cX11_one 61 = .ok (.lload_n 3, 1) := dq daX11_one_14_0 7 rfl
theorem dX11_one_62 : decode cX11_one 62 = .ok (.ladd, 1) := dq daX11_one_14_0 8 rfl
theorem dX11_one_63 : decode cX11_one 63 = .ok (.lreturn, 1) := dq daX11_one_14_0 9 rfl
theorem dX11_one_64 : decode cX11_one 64 = .ok (.lload_n 1, 1) := dq daX11_one_14_0 10 rfl
theorem dX11_one_65 : decode cX11_one 65 = .ok (.lload_n 3, 1) := dq daX11_one_14_0 11 rfl
theorem dX11_one_66 : decode cX11_one 66 = .ok (.lsub, 1) := dq daX11_one_14_0 12 rfl
theorem dX11_one_67 : decode cX11_one 67 = .ok (.lreturn, 1) := dq daX11_one_14_0 13 rfl
theorem dX11_one_68 : decode cX11_one 68 = .ok (.lload_n 1, 1) := dq daX11_one_14_0 14 rfl
theorem dX11_one_69 : decode cX11_one 69 = .ok (.lload_n 3, 1) := dq daX11_one_14_0 15 rfl
theorem dX11_one_70 : decode cX11_one 70 = .ok (.lmul, 1) := dq daX11_one_14_0 16 rfl
theorem dX11_one_71 : decode cX11_one 71 = .ok (.lreturn, 1) := dq daX11_one_14_0 17 rfl
theorem dX11_one_72 : decode cX11_one 72 = .ok (.lload_n 3, 1) := dq daX11_one_14_0 18 rfl
theorem dX11_one_73 : decode cX11_one 73 = .ok (.lconst 0, 1) := dq daX11_one_14_0 19 rfl
theorem dX11_one_74 : decode cX11_one 74 = .ok (.lcmp, 1) := dq daX11_one_14_0 20 rfl
theorem dX11_one_75 : decode cX11_one 75 = .ok (.ifCond .ne 7, 3) := dq daX11_one_14_0 21 rfl
theorem dX11_one_82 : decode cX11_one 82 = .ok (.lload_n 1, 1) := dq daX11_one_14_0 22 rfl
theorem dX11_one_83 : decode cX11_one 83 = .ok (.lload_n 3, 1) := dq daX11_one_14_0 23 rfl
theorem dX11_one_84 : decode cX11_one 84 = .ok (.ldiv, 1) := dq daX11_one_14_0 24 rfl
theorem dX11_one_85 : decode cX11_one 85 = .ok (.lreturn, 1) := dq daX11_one_14_0 25 rfl
theorem dX11_one_78 : decode cX11_one 78 = .ok (.lconst 0, 1) := dq daX11_one_14_0 26 rfl
theorem dX11_one_79 : decode cX11_one 79 = .ok (.goto 6, 3) := dq daX11_one_14_0 27 rfl
theorem dX11_one_86 : decode cX11_one 86 = .ok (.lload_n 1, 1) := dq daX11_one_14_0 28 rfl
theorem dX11_one_87 : decode cX11_one 87 = .ok (.lload_n 3, 1) := dq daX11_one_14_0 29 rfl
theorem dX11_one_88 : decode cX11_one 88 = .ok (.lcmp, 1) := dq daX11_one_14_0 30 rfl
theorem dX11_one_89 : decode cX11_one 89 = .ok (.ifCond .ge 7, 3) := dq daX11_one_14_0 31 rfl
def dtX11_one_14_1 : List (Nat × Jvm.ClassFile.Instr × Nat) := [(96, .lconst 0, 1), (97, .lreturn, 1), (92, .lconst 1, 1), (93, .goto 4, 3), (98, .lload_n 1, 1), (99, .lload_n 3, 1), (100, .lcmp, 1), (101, .ifCond .gt 7, 3), (108, .lconst 0, 1), (109, .lreturn, 1), (104, .lconst 1, 1), (105, .goto 4, 3), (110, .lload_n 1, 1), (111, .lload_n 3, 1), (112, .lcmp, 1), (113, .ifCond .ne 7, 3), (120, .lconst 0, 1), (121, .lreturn, 1), (116, .lconst 1, 1), (117, .goto 4, 3), (122, .lload_n 1, 1), (123, .lload_n 3, 1), (124, .lcmp, 1), (125, .ifCond .lt 7, 3), (132, .lconst 0, 1), (133, .lreturn, 1), (128, .lconst 1, 1), (129, .goto 4, 3), (134, .lload_n 1, 1), (135, .lload_n 3, 1), (136, .lcmp, 1), (137, .ifCond .le 7, 3)]
theorem daX11_one_14_1 : dtX11_one_14_1.all (dqd cX11_one) = true := by decide +kernel
theorem dX11_one_96 : decode cX11_one 96 = .ok (.lconst 0, 1) := dq daX11_one_14_1 0 rfl
theorem dX11_one_97 : decode cX11_one 97 = .ok (.lreturn, 1) := dq daX11_one_14_1 1 rfl
theorem dX11_one_92 : decode cX11_one 92 = .ok (.lconst 1, 1) := dq daX11_one_14_1 2 rfl
theorem dX11_one_93 : decode cX11_one 93 = .ok (.goto 4, 3) := dq daX11_one_14_1 3 rfl
theorem dX11_one_98 : decode cX11_one 98 = .ok (.lload_n 1, 1) := dq daX11_one_14_1 4 rfl
theorem dX11_one_99 : decode cX11_one 99 = .ok (.lload_n 3, 1) := dq daX11_one_14_1 5 rfl
theorem dX11_one_100 : decode cX11_one 100 = .ok (.lcmp, 1) := dq daX11_one_14_1 6 rfl
theorem dX11_one_101 : decode cX11_one 101 = .ok (.ifCond .gt 7, 3) := dq daX11_one_14_1 7 rfl
theorem dX11_one_108 : decode cX11_one 108 = .ok (.lconst 0, 1) := dq daX11_one_14_1 8 rfl
theorem dX11_one_109 : decode cX11_one 109 = .ok (.lreturn, 1) := dq daX11_one_14_1 9 rfl
theorem dX11_one_104 : decode cX11_one 104 = .ok (.lconst 1, 1) := dq daX11_one_14_1 10 rfl
theorem dX11_one_105 : decode cX11_one 105 = .ok (.goto 4, 3) := dq daX11_one_14_1 11 rfl
theorem dX11_one_110 : decode cX11_one 110 = .ok (.lload_n 1, 1) := dq daX11_one_14_1 12 rfl
theorem dX11_one_111 : decode cX11_one 111 = .ok (.lload_n 3, 1) := dq daX11_one_14_1 13 rfl
theorem dX11_one_112 : decode cX11_one 112 = .ok (.lcmp, 1) := dq daX11_one_14_1 14 rfl
theorem dX11_one_113 : decode cX11_one 113 = .ok (.ifCond .ne 7, 3) := dq daX11_one_14_1 15 rfl
theorem dX11_one_120 : decode cX11_one 120 = .ok (.lconst 0, 1) := dq daX11_one_14_1 16 rfl
theorem dX11_one_121 : decode cX11_one 121 = .ok (.lreturn, 1) := dq daX11_one_14_1 17 rfl
theorem dX11_one_116 : decode cX11_one 116 = .ok (.lconst 1, 1) := dq daX11_one_14_1 18 rfl
theorem dX11_one_117 : decode cX11_one 117 = .ok (.goto 4, 3) := dq daX11_one_14_1 19 rfl
theorem dX11_one_122 : decode cX11_one 122 = .ok (.lload_n 1, 1) := dq daX11_one_14_1 20 rfl
theorem dX11_one_123 : decode cX11_one 123 = .ok (.lload_n 3, 1) := dq daX11_one_14_1 21 rfl
theorem dX11_one_124 : decode cX11_one 124 = .ok (.lcmp, 1) := dq daX11_one_14_1 22 rfl
theorem dX11_one_125 : decode cX11_one 125 = .ok (.ifCond .lt 7, 3) := dq daX11_one_14_1 23 rfl
theorem dX11_one_132 : decode cX11_one 132 = .ok (.lconst 0, 1) := dq daX11_one_14_1 24 rfl
theorem dX11_one_133 : decode cX11_one 133 = .ok (.lreturn, 1) := dq daX11_one_14_1 25 rfl
theorem dX11_one_128 : decode cX11_one 128 = .ok (.lconst 1, 1) := dq daX11_one_14_1 26 rfl
theorem dX11_one_129 : decode cX11_one 129 = .ok (.goto 4, 3) := dq daX11_one_14_1 27 rfl
theorem dX11_one_134 : decode cX11_one 134 = .ok (.lload_n 1, 1) := dq daX11_one_14_1 28 rfl
theorem dX11_one_135 : decode cX11_one 135 = .ok (.lload_n 3, 1) := dq daX11_one_14_1 29 rfl
theorem dX11_one_136 : decode cX11_one 136 = .ok (.lcmp, 1) := dq daX11_one_14_1 30 rfl
theorem dX11_one_137 : decode cX11_one 137 = .ok (.ifCond .le 7, 3) := dq daX11_one_14_1 31 rfl
def dtX11_one_14_2 : List (Nat × Jvm.ClassFile.Instr × Nat) := [(144, .lconst 0, 1), (145, .lreturn, 1), (140, .lconst 1, 1), (141, .goto 4, 3), (146, .lload_n 1, 1), (147, .lload_n 3, 1), (148, .land, 1), (149, .lreturn, 1)]
theorem daX11_one_14_2 : dtX11_one_14_2.all (dqd cX11_one) = true := by decide +kernel
theorem dX11_one_144 : decode cX11_one 144 = .ok (.lconst 0, 1) := dq daX11_one_14_2 0 rfl
theorem dX11_one_145 : decode cX11_one 145 = .ok (.lreturn, 1) := dq daX11_one_14_2 1 rfl
theorem dX11_one_140 : decode cX11_one 140 = .ok (.lconst 1, 1) := dq daX11_one_14_2 2 rfl
theorem dX11_one_141 : decode cX11_one 141 = .ok (.goto 4, 3) := dq daX11_one_14_2 3 rfl
theorem dX11_one_146 : decode cX11_one 146 = .ok (.lload_n 1, 1) := dq daX11_one_14_2 4 rfl
theorem dX11_one_147 : decode cX11_one 147 = .ok (.lload_n 3, 1) := dq daX11_one_14_2 5 rfl
theorem dX11_one_148 : decode cX11_one 148 = .ok (.land, 1) := dq daX11_one_14_2 6 rfl
theorem dX11_one_149 : decode cX11_one 149 = .ok (.lreturn, 1) := dq daX11_one_14_2 7 rfl
def dtX11_reckons_14_0 : List (Nat × Jvm.ClassFile.Instr × Nat) := [(0, .aload_n 0, 1), (1, .iconst 0, 1), (2, .putfield 238, 3), (5, .iload_n 2, 1), (6, .istore 4, 2), (8, .iload 4, 2), (10, .iload_n 3, 1), (11, .if_icmp .ge 124, 3), (14, .aload_n 0, 1), (15, .getfield 13, 3), (18, .sipush 400, 3), (21, .iload_n 1, 1), (22, .imul, 1), (23, .iload 4, 2), (25, .iadd, 1), (26, .iaload, 1), (27, .bipush 15, 2), (29, .iand, 1), (30, .istore 5, 2), (32, .aload_n 0, 1), (33, .getfield 13, 3), (36, .sipush 400, 3), (39, .iload_n 1, 1), (40, .imul, 1), (41, .iload 4, 2), (43, .iadd, 1), (44, .iaload, 1), (45, .iconst 4, 1), (46, .ishr, 1), (47, .istore 6, 2), (49, .iload 5, 2), (51, .ifCond .ne 13, 3)]
theorem daX11_reckons_14_0 : dtX11_reckons_14_0.all (dqd cX11_reckons) = true := by decide +kernel
theorem dX11_reckons_0 : decode cX11_reckons 0 = .ok (.aload_n 0, 1) := dq daX11_reckons_14_0 0 rfl
theorem dX11_reckons_1 : decode cX11_reckons 1 = .ok (.iconst 0, 1) := dq daX11_reckons_14_0 1 rfl
theorem dX11_reckons_2 : decode cX11_reckons 2 = .ok (.putfield 238, 3) := dq daX11_reckons_14_0 2 rfl
theorem dX11_reckons_5 : decode cX11_reckons 5 = .ok (.iload_n 2, 1) := dq daX11_reckons_14_0 3 rfl
theorem dX11_reckons_6 : decode cX11_reckons 6 = .ok (.istore 4, 2) := dq daX11_reckons_14_0 4 rfl
theorem dX11_reckons_8 : decode cX11_reckons 8 = .ok (.iload 4, 2) := dq daX11_reckons_14_0 5 rfl
theorem dX11_reckons_10 : decode cX11_reckons 10 = .ok (.iload_n 3, 1) := dq daX11_reckons_14_0 6 rfl
theorem dX11_reckons_11 : decode cX11_reckons 11 = .ok (.if_icmp .ge 124, 3) := dq daX11_reckons_14_0 7 rfl
theorem dX11_reckons_14 : decode cX11_reckons 14 = .ok (.aload_n 0, 1) := dq daX11_reckons_14_0 8 rfl
theorem dX11_reckons_15 : decode cX11_reckons 15 = .ok (.getfield 13, 3) := dq daX11_reckons_14_0 9 rfl
theorem dX11_reckons_18 : decode cX11_reckons 18 = .ok (.sipush 400, 3) := dq daX11_reckons_14_0 10 rfl
theorem dX11_reckons_21 : decode cX11_reckons 21 = .ok (.iload_n 1, 1) := dq daX11_reckons_14_0 11 rfl
theorem dX11_reckons_22 : decode cX11_reckons 22 = .ok (.imul, 1) := dq daX11_reckons_14_0 12 rfl
theorem dX11_reckons_23 : decode cX11_reckons 23 = .ok (.iload 4, 2) := dq daX11_reckons_14_0 13 rfl
theorem dX11_reckons_25 : decode cX11_reckons 25 = .ok (.iadd, 1) := dq daX11_reckons_14_0 14 rfl
theorem dX11_reckons_26 : decode cX11_reckons 26 = .ok (.iaload, 1) := dq daX11_reckons_14_0 15 rfl
theorem dX11_reckons_27 : decode cX11_reckons 27 = .ok (.bipush 15, 2) := dq daX11_reckons_14_0 16 rfl
theorem dX11_reckons_29 : decode cX11_reckons 29 = .ok (.iand, 1) := dq daX11_reckons_14_0 17 rfl
theorem dX11_reckons_30 : decode cX11_reckons 30 = .ok (.istore 5, 2) := dq daX11_reckons_14_0 18 rfl
theorem dX11_reckons_32 : decode cX11_reckons 32 = .ok (.aload_n 0, 1) := dq daX11_reckons_14_0 19 rfl
theorem dX11_reckons_33 : decode cX11_reckons 33 = .ok (.getfield 13, 3) := dq daX11_reckons_14_0 20 rfl
theorem dX11_reckons_36 : decode cX11_reckons 36 = .ok (.sipush 400, 3) := dq daX11_reckons_14_0 21 rfl
theorem dX11_reckons_39 : decode cX11_reckons 39 = .ok (.iload_n 1, 1) := dq daX11_reckons_14_0 22 rfl
theorem dX11_reckons_40 : decode cX11_reckons 40 = .ok (.imul, 1) := dq daX11_reckons_14_0 23 rfl
theorem dX11_reckons_41 : decode cX11_reckons 41 = .ok (.iload 4, 2) := dq daX11_reckons_14_0 24 rfl
theorem dX11_reckons_43 : decode cX11_reckons 43 = .ok (.iadd, 1) := dq daX11_reckons_14_0 25 rfl
theorem dX11_reckons_44 : decode cX11_reckons 44 = .ok (.iaload, 1) := dq daX11_reckons_14_0 26 rfl
theorem dX11_reckons_45 : decode cX11_reckons 45 = .ok (.iconst 4, 1) := dq daX11_reckons_14_0 27 rfl
theorem dX11_reckons_46 : decode cX11_reckons 46 = .ok (.ishr, 1) := dq daX11_reckons_14_0 28 rfl
theorem dX11_reckons_47 : decode cX11_reckons 47 = .ok (.istore 6, 2) := dq daX11_reckons_14_0 29 rfl
theorem dX11_reckons_49 : decode cX11_reckons 49 = .ok (.iload 5, 2) := dq daX11_reckons_14_0 30 rfl
theorem dX11_reckons_51 : decode cX11_reckons 51 = .ok (.ifCond .ne 13, 3) := dq daX11_reckons_14_0 31 rfl
def dtX11_reckons_14_1 : List (Nat × Jvm.ClassFile.Instr × Nat) := [(64, .iload 5, 2), (66, .iconst 1, 1), (67, .if_icmp .ne 17, 3), (84, .iload 5, 2), (86, .bipush 11, 2), (88, .if_icmp .ne 16, 3), (104, .aload_n 0, 1), (105, .invokevirtual 245, 3), (108, .lstore 7, 2), (110, .aload_n 0, 1), (111, .invokevirtual 245, 3), (114, .lstore 9, 2), (116, .aload_n 0, 1), (117, .iload 5, 2), (119, .lload 9, 2), (121, .lload 7, 2), (123, .invokestatic 249, 3), (126, .invokevirtual 241, 3), (129, .iinc 4 1, 3), (132, .goto (-124), 3), (91, .aload_n 0, 1), (92, .lconst 1, 1), (93, .aload_n 0, 1), (94, .invokevirtual 245, 3), (97, .lsub, 1), (98, .invokevirtual 241, 3), (101, .goto 28, 3), (70, .aload_n 0, 1), (71, .aload_n 0, 1), (72, .getfield 36, 3), (75, .iload 6, 2), (77, .laload, 1)]
theorem daX11_reckons_14_1 : dtX11_reckons_14_1.all (dqd cX11_reckons) = true := by decide +kernel
theorem dX11_reckons_64 : decode cX11_reckons 64 = .ok (.iload 5, 2) := dq daX11_reckons_14_1 0 rfl
theorem dX11_reckons_66 : decode cX11_reckons 66 = .ok (.iconst 1, 1) := dq daX11_reckons_14_1 1 rfl
theorem dX11_reckons_67 : decode cX11_reckons 67 = .ok (.if_icmp .ne 17, 3) := dq daX11_reckons_14_1 2 rfl
theorem dX11_reckons_84 : decode cX11_reckons 84 = .ok (.iload 5, 2) := dq daX11_reckons_14_1 3 rfl
theorem dX11_reckons_86 : decode cX11_reckons 86 = .ok (.bipush 11, 2) := dq daX11_reckons_14_1 4 rfl
theorem dX11_reckons_88 : decode cX11_reckons 88 = .ok (.if_icmp .ne 16, 3) := dq daX11_reckons_14_1 5 rfl
theorem dX11_reckons_104 : decode cX11_reckons 104 = .ok (.aload_n 0, 1) := dq daX11_reckons_14_1 6 rfl
theorem dX11_reckons_105 : decode cX11_reckons 105 = .ok (.invokevirtual 245, 3) := dq daX11_reckons_14_1 7 rfl
theorem dX11_reckons_108 : decode cX11_reckons 108 = .ok (.lstore 7, 2) := dq daX11_reckons_14_1 8 rfl
theorem dX11_reckons_110 : decode cX11_reckons 110 = .ok (.aload_n 0, 1) := dq daX11_reckons_14_1 9 rfl
theorem dX11_reckons_111 : decode cX11_reckons 111 = .ok (.invokevirtual 245, 3) := dq daX11_reckons_14_1 10 rfl
theorem dX11_reckons_114 : decode cX11_reckons 114 = .ok (.lstore 9, 2) := dq daX11_reckons_14_1 11 rfl
theorem dX11_reckons_116 : decode cX11_reckons 116 = .ok (.aload_n 0, 1) := dq daX11_reckons_14_1 12 rfl
theorem dX11_reckons_117 : decode cX11_reckons 117 = .ok (.iload 5, 2) := dq daX11_reckons_14_1 13 rfl
theorem dX11_reckons_119 : decode cX11_reckons 119 = .ok (.lload 9, 2) := dq daX11_reckons_14_1 14 rfl
theorem dX11_reckons_121 : decode cX11_reckons 121 = .ok (.lload 7, 2) := dq daX11_reckons_14_1 15 rfl
theorem dX11_reckons_123 : decode cX11_reckons 123 = .ok (.invokestatic 249, 3) := dq daX11_reckons_14_1 16 rfl
theorem dX11_reckons_126 : decode cX11_reckons 126 = .ok (.invokevirtual 241, 3) := dq daX11_reckons_14_1 17 rfl
theorem dX11_reckons_129 : decode cX11_reckons 129 = .ok (.iinc 4 1, 3) := dq daX11_reckons_14_1 18 rfl
theorem dX11_reckons_132 : decode cX11_reckons 132 = .ok (.goto (-124), 3) := dq daX11_reckons_14_1 19 rfl
theorem dX11_reckons_91 : decode cX11_reckons 91 = .ok (.aload_n 0, 1) := dq daX11_reckons_14_1 20 rfl
theorem dX11_reckons_92 : decode cX11_reckons 92 = .ok (.lconst 1, 1) := dq daX11_reckons_14_1 21 rfl
theorem dX11_reckons_93 : decode cX11_reckons 93 = .ok (.aload_n 0, 1) := dq daX11_reckons_14_1 22 rfl
theorem dX11_reckons_94 : decode cX11_reckons 94 = .ok (.invokevirtual 245, 3) := dq daX11_reckons_14_1 23 rfl
theorem dX11_reckons_97 : decode cX11_reckons 97 = .ok (.lsub, 1) := dq daX11_reckons_14_1 24 rfl
theorem dX11_reckons_98 : decode cX11_reckons 98 = .ok (.invokevirtual 241, 3) := dq daX11_reckons_14_1 25 rfl
theorem dX11_reckons_101 : decode cX11_reckons 101 = .ok (.goto 28, 3) := dq daX11_reckons_14_1 26 rfl
theorem dX11_reckons_70 : decode cX11_reckons 70 = .ok (.aload_n 0, 1) := dq daX11_reckons_14_1 27 rfl
theorem dX11_reckons_71 : decode cX11_reckons 71 = .ok (.aload_n 0, 1) := dq daX11_reckons_14_1 28 rfl
theorem dX11_reckons_72 : decode cX11_reckons 72 = .ok (.getfield 36, 3) := dq daX11_reckons_14_1 29 rfl
theorem dX11_reckons_75 : decode cX11_reckons 75 = .ok (.iload 6, 2) := dq daX11_reckons_14_1 30 rfl
theorem dX11_reckons_77 : decode cX11_reckons 77 = .ok (.laload, 1) := dq daX11_reckons_14_1 31 rfl
def dtX11_reckons_14_2 : List (Nat × Jvm.ClassFile.Instr × Nat) := [(78, .invokevirtual 241, 3), (81, .goto 48, 3), (54, .aload_n 0, 1), (55, .iload 6, 2), (57, .i2l, 1), (58, .invokevirtual 241, 3), (61, .goto 68, 3), (135, .aload_n 0, 1), (136, .invokevirtual 245, 3), (139, .lreturn, 1)]
theorem daX11_reckons_14_2 : dtX11_reckons_14_2.all (dqd cX11_reckons) = true := by decide +kernel
theorem dX11_reckons_78 : decode cX11_reckons 78 = .ok (.invokevirtual 241, 3) := dq daX11_reckons_14_2 0 rfl
theorem dX11_reckons_81 : decode cX11_reckons 81 = .ok (.goto 48, 3) := dq daX11_reckons_14_2 1 rfl
theorem dX11_reckons_54 : decode cX11_reckons 54 = .ok (.aload_n 0, 1) := dq daX11_reckons_14_2 2 rfl
theorem dX11_reckons_55 : decode cX11_reckons 55 = .ok (.iload 6, 2) := dq daX11_reckons_14_2 3 rfl
theorem dX11_reckons_57 : decode cX11_reckons 57 = .ok (.i2l, 1) := dq daX11_reckons_14_2 4 rfl
theorem dX11_reckons_58 : decode cX11_reckons 58 = .ok (.invokevirtual 241, 3) := dq daX11_reckons_14_2 5 rfl
theorem dX11_reckons_61 : decode cX11_reckons 61 = .ok (.goto 68, 3) := dq daX11_reckons_14_2 6 rfl
theorem dX11_reckons_135 : decode cX11_reckons 135 = .ok (.aload_n 0, 1) := dq daX11_reckons_14_2 7 rfl
theorem dX11_reckons_136 : decode cX11_reckons 136 = .ok (.invokevirtual 245, 3) := dq daX11_reckons_14_2 8 rfl
theorem dX11_reckons_139 : decode cX11_reckons 139 = .ok (.lreturn, 1) := dq daX11_reckons_14_2 9 rfl
set_option maxRecDepth 100000 in
def fX11_push (m_top : Int32) (stackF : Nat → Int64) (j0 : Int64) : Int32 × (Nat → Int64) := bnd ((vp_updL stackF m_top.toNatClampNeg j0)) (fun (f1 : Nat → Int64) => bnd ((m_top + 1)) (fun (x2 : Int32) => (x2, f1)))
set_option maxHeartbeats 4000000 in
set_option maxRecDepth 100000 in
theorem mX11_push (l : Launch) (dC : Nat → ClassId) (dI : Nat → Nat → Nat) (kA : Nat → ClassId) (sz : Nat) (n0 : Nat) (m_taped : Int32) (m_laws : Int32) (m_next : Int32) (m_wrong : Int32) (m_number : Int32) (m_text : Int32) (m_made : Int32) (m_deep : Int32) (m_lines : Int32) (m_opened : Int32) (m_top : Int32) (m_goNode : Int32) (m_goDrops : Int32) (m_goHour : Int32) (m_goFelt : Int32) (m_goSalt : Int32) (m_goMore : Int32) (m_bestLeft : Int32) (m_bestHour : Int32) (m_bestMany : Int32) (a_tape : Nat) (a_sign : Nat) (a_length : Nat) (a_clause : Nat) (a_clauses : Nat) (a_chain : Nat) (a_open : Nat) (a_stack : Nat) (a_word : Nat) (a_said : Nat) (a_kept : Nat) (a_stepNode : Nat) (a_stepDrops : Nat) (a_stepHour : Nat) (a_stepNext : Nat) (a_stepPass : Nat) (a_bestPass : Nat) (a_far : Nat) (a_waited : Nat) (a_servers : Nat) (a_images : Nat) (a_isMade : Nat) (stackF : Nat → Int64) (j0 : Int64) (ht0 : ¬ m_top < 0) (ht1 : ¬ 60 < m_top) : Met l yX11_push wsX11_push ({ frames := 0, cells := 0, slots := 0, locals := 0 }) (zPc dC dI kA sz [.ref n0, .long j0] [(n0, .inr (11, .ref a_tape :: .int m_taped :: .int m_laws :: .ref a_sign :: .ref a_length :: .ref a_clause :: .ref a_clauses :: .ref a_chain :: .int m_next :: .int m_wrong :: .int m_number :: .int m_text :: .int m_made :: .int m_deep :: .int m_lines :: .ref a_open :: .int m_opened :: .ref a_stack :: .int m_top :: .ref a_word :: .ref a_said :: .ref a_kept :: [.int m_goNode, .int m_goDrops, .int m_goHour, .int m_goFelt, .int m_goSalt, .int m_goMore, .ref a_stepNode, .ref a_stepDrops, .ref a_stepHour, .ref a_stepNext, .ref a_stepPass, .int m_bestLeft, .int m_bestHour, .int m_bestMany, .ref a_bestPass, .ref a_far, .ref a_waited, .ref a_servers, .ref a_images, .ref a_isMade])), (a_stack, .inl (kA 2, 64, .inr (.inl stackF)))]) (va_Qv (fun (u : Int32 × (Nat → Int64)) => (u.1, u.2) = fX11_push m_top stackF j0 ∧ u.1 = (m_top + 1)) (zB dC dI (va_A [(n0, .inr (11, .ref a_tape :: .int m_taped :: .int m_laws :: .ref a_sign :: .ref a_length :: .ref a_clause :: .ref a_clauses :: .ref a_chain :: .int m_next :: .int m_wrong :: .int m_number :: .int m_text :: .int m_made :: .int m_deep :: .int m_lines :: .ref a_open :: .int m_opened :: .ref a_stack :: .int m_top :: .ref a_word :: .ref a_said :: .ref a_kept :: [.int m_goNode, .int m_goDrops, .int m_goHour, .int m_goFelt, .int m_goSalt, .int m_goMore, .ref a_stepNode, .ref a_stepDrops, .ref a_stepHour, .ref a_stepNext, .ref a_stepPass, .int m_bestLeft, .int m_bestHour, .int m_bestMany, .ref a_bestPass, .ref a_far, .ref a_waited, .ref a_servers, .ref a_images, .ref a_isMade])), (a_stack, .inl (kA 2, 64, .inr (.inl stackF)))] sz) (fun (u : Int32 × (Nat → Int64)) => [(n0, .inr (11, .ref a_tape :: .int m_taped :: .int m_laws :: .ref a_sign :: .ref a_length :: .ref a_clause :: .ref a_clauses :: .ref a_chain :: .int m_next :: .int m_wrong :: .int m_number :: .int m_text :: .int m_made :: .int m_deep :: .int m_lines :: .ref a_open :: .int m_opened :: .ref a_stack :: .int u.1 :: .ref a_word :: .ref a_said :: .ref a_kept :: [.int m_goNode, .int m_goDrops, .int m_goHour, .int m_goFelt, .int m_goSalt, .int m_goMore, .ref a_stepNode, .ref a_stepDrops, .ref a_stepHour, .ref a_stepNext, .ref a_stepPass, .int m_bestLeft, .int m_bestHour, .int m_bestMany, .ref a_bestPass, .ref a_far, .ref a_waited, .ref a_servers, .ref a_images, .ref a_isMade])), (a_stack, .inl (kA 2, 64, .inr (.inl u.2)))])) (va_A [(n0, .inr (11, .ref a_tape :: .int m_taped :: .int m_laws :: .ref a_sign :: .ref a_length :: .ref a_clause :: .ref a_clauses :: .ref a_chain :: .int m_next :: .int m_wrong :: .int m_number :: .int m_text :: .int m_made :: .int m_deep :: .int m_lines :: .ref a_open :: .int m_opened :: .ref a_stack :: .int m_top :: .ref a_word :: .ref a_said :: .ref a_kept :: [.int m_goNode, .int m_goDrops, .int m_goHour, .int m_goFelt, .int m_goSalt, .int m_goMore, .ref a_stepNode, .ref a_stepDrops, .ref a_stepHour, .ref a_stepNext, .ref a_stepPass, .int m_bestLeft, .int m_bestHour, .int m_bestMany, .ref a_bestPass, .ref a_far, .ref a_waited, .ref a_servers, .ref a_images, .ref a_isMade])), (a_stack, .inl (kA 2, 64, .inr (.inl stackF)))] sz)) 0 0 (va_A [(n0, .inr (11, .ref a_tape :: .int m_taped :: .int m_laws :: .ref a_sign :: .ref a_length :: .ref a_clause :: .ref a_clauses :: .ref a_chain :: .int m_next :: .int m_wrong :: .int m_number :: .int m_text :: .int m_made :: .int m_deep :: .int m_lines :: .ref a_open :: .int m_opened :: .ref a_stack :: .int m_top :: .ref a_word :: .ref a_said :: .ref a_kept :: [.int m_goNode, .int m_goDrops, .int m_goHour, .int m_goFelt, .int m_goSalt, .int m_goMore, .ref a_stepNode, .ref a_stepDrops, .ref a_stepHour, .ref a_stepNext, .ref a_stepPass, .int m_bestLeft, .int m_bestHour, .int m_bestMany, .ref a_bestPass, .ref a_far, .ref a_waited, .ref a_servers, .ref a_images, .ref a_isMade])), (a_stack, .inl (kA 2, 64, .inr (.inl stackF)))] sz) := by
  refine Met.ofW (cc := cX11_push) (maxL := 3) (ret := none) pnX11 rfl ?_
  intro p e s m args below meth c s₁ B hml hv
  obtain ⟨rfl, hsz, hP, hK, hD0⟩ := hv
  have hx := B.exec
  have hb := B.bytes
  have hr := B.returns
  have hts := atoms_spec (ws := wsX11_push) B.pre
  have hown : s.vm.findClass RX11 = some m.cls := findClass_of_methodNamed B.named
  have hlocks := B.notSynchronized
  subst hsz
  have hD := hD0.self (sz := s.heap.size)
  generalize hAe : va_A [(n0, .inr (11, .ref a_tape :: .int m_taped :: .int m_laws :: .ref a_sign :: .ref a_length :: .ref a_clause :: .ref a_clauses :: .ref a_chain :: .int m_next :: .int m_wrong :: .int m_number :: .int m_text :: .int m_made :: .int m_deep :: .int m_lines :: .ref a_open :: .int m_opened :: .ref a_stack :: .int m_top :: .ref a_word :: .ref a_said :: .ref a_kept :: [.int m_goNode, .int m_goDrops, .int m_goHour, .int m_goFelt, .int m_goSalt, .int m_goMore, .ref a_stepNode, .ref a_stepDrops, .ref a_stepHour, .ref a_stepNext, .ref a_stepPass, .int m_bestLeft, .int m_bestHour, .int m_bestMany, .ref a_bestPass, .ref a_far, .ref a_waited, .ref a_servers, .ref a_images, .ref a_isMade])), (a_stack, .inl (kA 2, 64, .inr (.inl stackF)))] s.heap.size = A at hD ⊢
  have hA : ∀ q : Nat, s.heap.size ≤ q → A q := zA_of hAe
  have hS : va_S A s.heap s.heap [] := va_S.rf
  have hP : va_P (dC, dI) vwCl [(n0, .inr (11, .ref a_tape :: .int m_taped :: .int m_laws :: .ref a_sign :: .ref a_length :: .ref a_clause :: .ref a_clauses :: .ref a_chain :: .int m_next :: .int m_wrong :: .int m_number :: .int m_text :: .int m_made :: .int m_deep :: .int m_lines :: .ref a_open :: .int m_opened :: .ref a_stack :: .int m_top :: .ref a_word :: .ref a_said :: .ref a_kept :: [.int m_goNode, .int m_goDrops, .int m_goHour, .int m_goFelt, .int m_goSalt, .int m_goMore, .ref a_stepNode, .ref a_stepDrops, .ref a_stepHour, .ref a_stepNext, .ref a_stepPass, .int m_bestLeft, .int m_bestHour, .int m_bestMany, .ref a_bestPass, .ref a_far, .ref a_waited, .ref a_servers, .ref a_images, .ref a_isMade])), (a_stack, .inl (kA 2, 64, .inr (.inl stackF)))] s.heap := hP
  have hl := lv_entry ([.ref n0, .long j0]) (n := 3) (Nat.le_of_ble_eq_true rfl)
  rw [lg_entry_eq]
  generalize (lg_sl ([.ref n0, .long j0]) ++ List.replicate (3 - (lg_sl ([.ref n0, .long j0])).length) Slot.unset).toArray = ls at hl ⊢
  have hl : lv_has ls 3 [(0, .ref n0), (1, .long j0)] := hl
  obtain ⟨G, hG0⟩ : ∃ G : Int32 × (Nat → Int64), fX11_push m_top stackF j0 = G := ⟨_, rfl⟩
  have hG := hG0
  unfold fX11_push at hG
  refine lv_aload_n hx hb dX11_push_0 rfl (lv_at hl 0 rfl) ?_
  refine va_get (D := (dC, dI)) (ci := 11) (v := .ref a_stack) (C := RX11) (T := TX11) (N := 42) hx hb hts iX11_push_X11 hown hK.1 hP 0 gz0 vcz11 17 (by decide) (kX11_push_1 hts) (fun _ h9 => h9) gz17 dX11_push_1 ?_
  refine lv_aload_n hx hb dX11_push_4 rfl (lv_at hl 0 rfl) ?_
  refine va_get (D := (dC, dI)) (ci := 11) (v := .int m_top) (C := RX11) (T := TX11) (N := 42) hx hb hts iX11_push_X11 hown hK.1 hP 0 gz0 vcz11 18 (by decide) (kX11_push_2 hts) (fun _ h9 => h9) gz18 dX11_push_5 ?_
  refine lv_lload_n hx hb dX11_push_8 rfl (lv_at hl 1 rfl) ?_
  refine va_last hx hb hK.1 hP hD hS 1 2 gz1 tzz2 (vp_le (by decide) ht0 ht1) dX11_push_9 (fun H locs hP hD hS => ?_)
  obtain ⟨hP, hD⟩ := z_re (L := [(n0, .inr (11, .ref a_tape :: .int m_taped :: .int m_laws :: .ref a_sign :: .ref a_length :: .ref a_clause :: .ref a_clauses :: .ref a_chain :: .int m_next :: .int m_wrong :: .int m_number :: .int m_text :: .int m_made :: .int m_deep :: .int m_lines :: .ref a_open :: .int m_opened :: .ref a_stack :: .int m_top :: .ref a_word :: .ref a_said :: .ref a_kept :: [.int m_goNode, .int m_goDrops, .int m_goHour, .int m_goFelt, .int m_goSalt, .int m_goMore, .ref a_stepNode, .ref a_stepDrops, .ref a_stepHour, .ref a_stepNext, .ref a_stepPass, .int m_bestLeft, .int m_bestHour, .int m_bestMany, .ref a_bestPass, .ref a_far, .ref a_waited, .ref a_servers, .ref a_images, .ref a_isMade])), (a_stack, .inl (kA 2, 64, .inr (.inl (vp_updL stackF m_top.toNatClampNeg j0))))]) hP hD
  obtain ⟨f1, ef1⟩ : ∃ y : Nat → Int64, y = (vp_updL stackF m_top.toNatClampNeg j0) := ⟨_, rfl⟩
  rw [← ef1] at hP hD
  have hG := zbnd hG ef1
  refine lv_aload_n hx hb dX11_push_10 rfl (lv_at hl 0 rfl) ?_
  refine lv_dup hx hb dX11_push_11 rfl ?_
  refine va_get (D := (dC, dI)) (ci := 11) (v := .int m_top) (C := RX11) (T := TX11) (N := 42) hx hb hts iX11_push_X11 hown hK.1 hP 0 gz0 vcz11 18 (by decide) (kX11_push_2 hts) (fun _ h9 => h9) gz18 dX11_push_12 ?_
  refine lv_iconst (v := 1) hx hb dX11_push_15 (by decide) ?_
  refine lv_iadd hx hb dX11_push_16 ?_
  refine lv_topi (fun x2 ex2 => ?_)
  have hG := zbnd hG ex2
  refine va_put (D := (dC, dI)) (ci := 11) (v := .int x2) (ty := .int) (C := RX11) (T := TX11) (N := 42) hx hb hts iX11_push_X11 tyX11 tyX11_ok nmX11 hown hK.1 hP hD hS 0 gz0 vcz11 18 (by decide) (kX11_push_2 hts) (fun _ h9 => h9) rfl pfdI rfl rfl (Nat.le_of_ble_eq_true rfl) dX11_push_17 (fun H locs hP hD hS => ?_)
  obtain ⟨hP, hD⟩ := z_re (L := [(n0, .inr (11, .ref a_tape :: .int m_taped :: .int m_laws :: .ref a_sign :: .ref a_length :: .ref a_clause :: .ref a_clauses :: .ref a_chain :: .int m_next :: .int m_wrong :: .int m_number :: .int m_text :: .int m_made :: .int m_deep :: .int m_lines :: .ref a_open :: .int m_opened :: .ref a_stack :: .int x2 :: .ref a_word :: .ref a_said :: .ref a_kept :: [.int m_goNode, .int m_goDrops, .int m_goHour, .int m_goFelt, .int m_goSalt, .int m_goMore, .ref a_stepNode, .ref a_stepDrops, .ref a_stepHour, .ref a_stepNext, .ref a_stepPass, .int m_bestLeft, .int m_bestHour, .int m_bestMany, .ref a_bestPass, .ref a_far, .ref a_waited, .ref a_servers, .ref a_images, .ref a_isMade])), (a_stack, .inl (kA 2, 64, .inr (.inl f1)))]) hP hD
  obtain ⟨hP9, hD9⟩ := z_sb (L' := [(n0, .inr (11, .ref a_tape :: .int m_taped :: .int m_laws :: .ref a_sign :: .ref a_length :: .ref a_clause :: .ref a_clauses :: .ref a_chain :: .int m_next :: .int m_wrong :: .int m_number :: .int m_text :: .int m_made :: .int m_deep :: .int m_lines :: .ref a_open :: .int m_opened :: .ref a_stack :: .int x2 :: .ref a_word :: .ref a_said :: .ref a_kept :: [.int m_goNode, .int m_goDrops, .int m_goHour, .int m_goFelt, .int m_goSalt, .int m_goMore, .ref a_stepNode, .ref a_stepDrops, .ref a_stepHour, .ref a_stepNext, .ref a_stepPass, .int m_bestLeft, .int m_bestHour, .int m_bestMany, .ref a_bestPass, .ref a_far, .ref a_waited, .ref a_servers, .ref a_images, .ref a_isMade])), (a_stack, .inl (kA 2, 64, .inr (.inl f1)))]) hP hD [0, 1] (by decide) rfl
  refine W.widen (k := 0) (n := 0) (Nat.le_of_ble_eq_true rfl) (Nat.le_of_ble_eq_true rfl) ?_
  exact W.vret hx hb hr (fun t ht hW => ⟨⟨(x2, f1), rfl, ⟨(hG.trans hG0.symm), ex2⟩, by rw [ht]; exact hP9, hD9⟩, hS.F ht⟩) hS.2.2 dX11_push_20
theorem gl_mX11_pop_0 (m_top : Int32) (x1 : Int32) (h0 : ¬ m_top < 1) (h1 : ¬ 60 < m_top) (h2 : x1 = (m_top - 1)) : (¬ x1 < 0 ∧ ¬ 64 ≤ x1) := by grind
set_option maxRecDepth 100000 in
def fX11_pop (m_top : Int32) (stackF : Nat → Int64) : Int32 × Int64 := bnd ((m_top - 1)) (fun (x1 : Int32) => bnd (stackF x1.toNatClampNeg) (fun (x2 : Int64) => (x1, x2)))
set_option maxHeartbeats 4000000 in
set_option maxRecDepth 100000 in
theorem mX11_pop (l : Launch) (dC : Nat → ClassId) (dI : Nat → Nat → Nat) (kA : Nat → ClassId) (sz : Nat) (n0 : Nat) (m_taped : Int32) (m_laws : Int32) (m_next : Int32) (m_wrong : Int32) (m_number : Int32) (m_text : Int32) (m_made : Int32) (m_deep : Int32) (m_lines : Int32) (m_opened : Int32) (m_top : Int32) (m_goNode : Int32) (m_goDrops : Int32) (m_goHour : Int32) (m_goFelt : Int32) (m_goSalt : Int32) (m_goMore : Int32) (m_bestLeft : Int32) (m_bestHour : Int32) (m_bestMany : Int32) (a_tape : Nat) (a_sign : Nat) (a_length : Nat) (a_clause : Nat) (a_clauses : Nat) (a_chain : Nat) (a_open : Nat) (a_stack : Nat) (a_word : Nat) (a_said : Nat) (a_kept : Nat) (a_stepNode : Nat) (a_stepDrops : Nat) (a_stepHour : Nat) (a_stepNext : Nat) (a_stepPass : Nat) (a_bestPass : Nat) (a_far : Nat) (a_waited : Nat) (a_servers : Nat) (a_images : Nat) (a_isMade : Nat) (stackF : Nat → Int64) (ht0 : ¬ m_top < 1) (ht1 : ¬ 60 < m_top) : Met l yX11_pop wsX11_pop ({ frames := 0, cells := 0, slots := 0, locals := 0 }) (zPc dC dI kA sz [.ref n0] [(n0, .inr (11, .ref a_tape :: .int m_taped :: .int m_laws :: .ref a_sign :: .ref a_length :: .ref a_clause :: .ref a_clauses :: .ref a_chain :: .int m_next :: .int m_wrong :: .int m_number :: .int m_text :: .int m_made :: .int m_deep :: .int m_lines :: .ref a_open :: .int m_opened :: .ref a_stack :: .int m_top :: .ref a_word :: .ref a_said :: .ref a_kept :: [.int m_goNode, .int m_goDrops, .int m_goHour, .int m_goFelt, .int m_goSalt, .int m_goMore, .ref a_stepNode, .ref a_stepDrops, .ref a_stepHour, .ref a_stepNext, .ref a_stepPass, .int m_bestLeft, .int m_bestHour, .int m_bestMany, .ref a_bestPass, .ref a_far, .ref a_waited, .ref a_servers, .ref a_images, .ref a_isMade])), (a_stack, .inl (kA 2, 64, .inr (.inl stackF)))]) (va_Ql (fun (r : Int64) (u : Int32 × Int64) => r = u.2 ∧ (u.1, u.2) = fX11_pop m_top stackF ∧ u.1 = (m_top - 1)) (zB dC dI (va_A [(n0, .inr (11, .ref a_tape :: .int m_taped :: .int m_laws :: .ref a_sign :: .ref a_length :: .ref a_clause :: .ref a_clauses :: .ref a_chain :: .int m_next :: .int m_wrong :: .int m_number :: .int m_text :: .int m_made :: .int m_deep :: .int m_lines :: .ref a_open :: .int m_opened :: .ref a_stack :: .int m_top :: .ref a_word :: .ref a_said :: .ref a_kept :: [.int m_goNode, .int m_goDrops, .int m_goHour, .int m_goFelt, .int m_goSalt, .int m_goMore, .ref a_stepNode, .ref a_stepDrops, .ref a_stepHour, .ref a_stepNext, .ref a_stepPass, .int m_bestLeft, .int m_bestHour, .int m_bestMany, .ref a_bestPass, .ref a_far, .ref a_waited, .ref a_servers, .ref a_images, .ref a_isMade])), (a_stack, .inl (kA 2, 64, .inr (.inl stackF)))] sz) (fun (u : Int32 × Int64) => [(n0, .inr (11, .ref a_tape :: .int m_taped :: .int m_laws :: .ref a_sign :: .ref a_length :: .ref a_clause :: .ref a_clauses :: .ref a_chain :: .int m_next :: .int m_wrong :: .int m_number :: .int m_text :: .int m_made :: .int m_deep :: .int m_lines :: .ref a_open :: .int m_opened :: .ref a_stack :: .int u.1 :: .ref a_word :: .ref a_said :: .ref a_kept :: [.int m_goNode, .int m_goDrops, .int m_goHour, .int m_goFelt, .int m_goSalt, .int m_goMore, .ref a_stepNode, .ref a_stepDrops, .ref a_stepHour, .ref a_stepNext, .ref a_stepPass, .int m_bestLeft, .int m_bestHour, .int m_bestMany, .ref a_bestPass, .ref a_far, .ref a_waited, .ref a_servers, .ref a_images, .ref a_isMade])), (a_stack, .inl (kA 2, 64, .inr (.inl stackF)))])) (va_A [(n0, .inr (11, .ref a_tape :: .int m_taped :: .int m_laws :: .ref a_sign :: .ref a_length :: .ref a_clause :: .ref a_clauses :: .ref a_chain :: .int m_next :: .int m_wrong :: .int m_number :: .int m_text :: .int m_made :: .int m_deep :: .int m_lines :: .ref a_open :: .int m_opened :: .ref a_stack :: .int m_top :: .ref a_word :: .ref a_said :: .ref a_kept :: [.int m_goNode, .int m_goDrops, .int m_goHour, .int m_goFelt, .int m_goSalt, .int m_goMore, .ref a_stepNode, .ref a_stepDrops, .ref a_stepHour, .ref a_stepNext, .ref a_stepPass, .int m_bestLeft, .int m_bestHour, .int m_bestMany, .ref a_bestPass, .ref a_far, .ref a_waited, .ref a_servers, .ref a_images, .ref a_isMade])), (a_stack, .inl (kA 2, 64, .inr (.inl stackF)))] sz)) 0 0 (va_A [(n0, .inr (11, .ref a_tape :: .int m_taped :: .int m_laws :: .ref a_sign :: .ref a_length :: .ref a_clause :: .ref a_clauses :: .ref a_chain :: .int m_next :: .int m_wrong :: .int m_number :: .int m_text :: .int m_made :: .int m_deep :: .int m_lines :: .ref a_open :: .int m_opened :: .ref a_stack :: .int m_top :: .ref a_word :: .ref a_said :: .ref a_kept :: [.int m_goNode, .int m_goDrops, .int m_goHour, .int m_goFelt, .int m_goSalt, .int m_goMore, .ref a_stepNode, .ref a_stepDrops, .ref a_stepHour, .ref a_stepNext, .ref a_stepPass, .int m_bestLeft, .int m_bestHour, .int m_bestMany, .ref a_bestPass, .ref a_far, .ref a_waited, .ref a_servers, .ref a_images, .ref a_isMade])), (a_stack, .inl (kA 2, 64, .inr (.inl stackF)))] sz) := by
  refine Met.ofW (cc := cX11_pop) (maxL := 1) (ret := (some .long)) pnX11 rfl ?_
  intro p e s m args below meth c s₁ B hml hv
  obtain ⟨rfl, hsz, hP, hK, hD0⟩ := hv
  have hx := B.exec
  have hb := B.bytes
  have hr := B.returns
  have hts := atoms_spec (ws := wsX11_pop) B.pre
  have hown : s.vm.findClass RX11 = some m.cls := findClass_of_methodNamed B.named
  have hlocks := B.notSynchronized
  subst hsz
  have hD := hD0.self (sz := s.heap.size)
  generalize hAe : va_A [(n0, .inr (11, .ref a_tape :: .int m_taped :: .int m_laws :: .ref a_sign :: .ref a_length :: .ref a_clause :: .ref a_clauses :: .ref a_chain :: .int m_next :: .int m_wrong :: .int m_number :: .int m_text :: .int m_made :: .int m_deep :: .int m_lines :: .ref a_open :: .int m_opened :: .ref a_stack :: .int m_top :: .ref a_word :: .ref a_said :: .ref a_kept :: [.int m_goNode, .int m_goDrops, .int m_goHour, .int m_goFelt, .int m_goSalt, .int m_goMore, .ref a_stepNode, .ref a_stepDrops, .ref a_stepHour, .ref a_stepNext, .ref a_stepPass, .int m_bestLeft, .int m_bestHour, .int m_bestMany, .ref a_bestPass, .ref a_far, .ref a_waited, .ref a_servers, .ref a_images, .ref a_isMade])), (a_stack, .inl (kA 2, 64, .inr (.inl stackF)))] s.heap.size = A at hD ⊢
  have hA : ∀ q : Nat, s.heap.size ≤ q → A q := zA_of hAe
  have hS : va_S A s.heap s.heap [] := va_S.rf
  have hP : va_P (dC, dI) vwCl [(n0, .inr (11, .ref a_tape :: .int m_taped :: .int m_laws :: .ref a_sign :: .ref a_length :: .ref a_clause :: .ref a_clauses :: .ref a_chain :: .int m_next :: .int m_wrong :: .int m_number :: .int m_text :: .int m_made :: .int m_deep :: .int m_lines :: .ref a_open :: .int m_opened :: .ref a_stack :: .int m_top :: .ref a_word :: .ref a_said :: .ref a_kept :: [.int m_goNode, .int m_goDrops, .int m_goHour, .int m_goFelt, .int m_goSalt, .int m_goMore, .ref a_stepNode, .ref a_stepDrops, .ref a_stepHour, .ref a_stepNext, .ref a_stepPass, .int m_bestLeft, .int m_bestHour, .int m_bestMany, .ref a_bestPass, .ref a_far, .ref a_waited, .ref a_servers, .ref a_images, .ref a_isMade])), (a_stack, .inl (kA 2, 64, .inr (.inl stackF)))] s.heap := hP
  have hl := lv_entry ([.ref n0]) (n := 1) (Nat.le_of_ble_eq_true rfl)
  rw [lg_entry_eq]
  generalize (lg_sl ([.ref n0]) ++ List.replicate (1 - (lg_sl ([.ref n0])).length) Slot.unset).toArray = ls at hl ⊢
  have hl : lv_has ls 1 [(0, .ref n0)] := hl
  obtain ⟨H, hHe⟩ : ∃ H : Heap, H = s.heap := ⟨_, rfl⟩
  obtain ⟨G, hG0⟩ : ∃ G : Int32 × Int64, fX11_pop m_top stackF = G := ⟨_, rfl⟩
  have hG := hG0
  unfold fX11_pop at hG
  refine lv_aload_n hx hb dX11_pop_0 rfl (lv_at hl 0 rfl) ?_
  refine lv_dup hx hb dX11_pop_1 rfl ?_
  refine va_get (D := (dC, dI)) (ci := 11) (v := .int m_top) (C := RX11) (T := TX11) (N := 42) hx hb hts iX11_pop_X11 hown hK.1 hP 0 gz0 vcz11 18 (by decide) (kX11_pop_1 hts) (fun _ h9 => h9) gz18 dX11_pop_2 ?_
  refine lv_iconst (v := 1) hx hb dX11_pop_5 (by decide) ?_
  refine lv_isub hx hb dX11_pop_6 ?_
  refine lv_topi (fun x1 ex1 => ?_)
  have hG := zbnd hG ex1
  refine va_put (D := (dC, dI)) (ci := 11) (v := .int x1) (ty := .int) (C := RX11) (T := TX11) (N := 42) hx hb hts iX11_pop_X11 tyX11 tyX11_ok nmX11 hown hK.1 hP hD hS 0 gz0 vcz11 18 (by decide) (kX11_pop_1 hts) (fun _ h9 => h9) rfl pfdI rfl rfl (Nat.le_of_ble_eq_true rfl) dX11_pop_7 (fun H locs hP hD hS => ?_)
  obtain ⟨hP, hD⟩ := z_re (L := [(n0, .inr (11, .ref a_tape :: .int m_taped :: .int m_laws :: .ref a_sign :: .ref a_length :: .ref a_clause :: .ref a_clauses :: .ref a_chain :: .int m_next :: .int m_wrong :: .int m_number :: .int m_text :: .int m_made :: .int m_deep :: .int m_lines :: .ref a_open :: .int m_opened :: .ref a_stack :: .int x1 :: .ref a_word :: .ref a_said :: .ref a_kept :: [.int m_goNode, .int m_goDrops, .int m_goHour, .int m_goFelt, .int m_goSalt, .int m_goMore, .ref a_stepNode, .ref a_stepDrops, .ref a_stepHour, .ref a_stepNext, .ref a_stepPass, .int m_bestLeft, .int m_bestHour, .int m_bestMany, .ref a_bestPass, .ref a_far, .ref a_waited, .ref a_servers, .ref a_images, .ref a_isMade])), (a_stack, .inl (kA 2, 64, .inr (.inl stackF)))]) hP hD
  refine lv_aload_n hx hb dX11_pop_10 rfl (lv_at hl 0 rfl) ?_
  refine va_get (D := (dC, dI)) (ci := 11) (v := .ref a_stack) (C := RX11) (T := TX11) (N := 42) hx hb hts iX11_pop_X11 hown hK.1 hP 0 gz0 vcz11 17 (by decide) (kX11_pop_2 hts) (fun _ h9 => h9) gz17 dX11_pop_11 ?_
  refine lv_aload_n hx hb dX11_pop_14 rfl (lv_at hl 0 rfl) ?_
  refine va_get (D := (dC, dI)) (ci := 11) (v := .int x1) (C := RX11) (T := TX11) (N := 42) hx hb hts iX11_pop_X11 hown hK.1 hP 0 gz0 vcz11 18 (by decide) (kX11_pop_1 hts) (fun _ h9 => h9) gz18 dX11_pop_15 ?_
  refine va_lald hx hb hK.1 hP 1 2 gz1 tzz2 (vp_g (N := 64) (by decide) (gl_mX11_pop_0 m_top x1 ht0 ht1 ex1)) dX11_pop_18 ?_
  refine lv_topl (fun x2 ex2 => ?_)
  have hG := zbnd hG ex2
  obtain ⟨hP9, hD9⟩ := z_sb (L' := [(n0, .inr (11, .ref a_tape :: .int m_taped :: .int m_laws :: .ref a_sign :: .ref a_length :: .ref a_clause :: .ref a_clauses :: .ref a_chain :: .int m_next :: .int m_wrong :: .int m_number :: .int m_text :: .int m_made :: .int m_deep :: .int m_lines :: .ref a_open :: .int m_opened :: .ref a_stack :: .int x1 :: .ref a_word :: .ref a_said :: .ref a_kept :: [.int m_goNode, .int m_goDrops, .int m_goHour, .int m_goFelt, .int m_goSalt, .int m_goMore, .ref a_stepNode, .ref a_stepDrops, .ref a_stepHour, .ref a_stepNext, .ref a_stepPass, .int m_bestLeft, .int m_bestHour, .int m_bestMany, .ref a_bestPass, .ref a_far, .ref a_waited, .ref a_servers, .ref a_images, .ref a_isMade])), (a_stack, .inl (kA 2, 64, .inr (.inl stackF)))]) hP hD [0, 1] (by decide) rfl
  refine W.widen (k := 0) (n := 0) (Nat.le_of_ble_eq_true rfl) (Nat.le_of_ble_eq_true rfl) ?_
  exact W.lret (v := x2) hx hb hr (fun t ht hW => ⟨⟨x2, (x1, x2), rfl, ⟨rfl, (hG.trans hG0.symm), ex1⟩, by rw [ht]; exact hP9, hD9⟩, hS.F ht⟩) hS.2.2 dX11_pop_19
set_option maxRecDepth 100000 in
def fX11_one (p0 : Int32) (j0 : Int64) (j1 : Int64) : Int64 := if p0 = 2 then (bnd ((j0 + j1)) (fun (x3 : Int64) => x3)) else (if p0 = 3 then (bnd ((j0 - j1)) (fun (x4 : Int64) => x4)) else (if p0 = 4 then (bnd ((j0 * j1)) (fun (x5 : Int64) => x5)) else (if p0 = 5 then (if (lg_cmp j1 0) = 0 then (0) else (bnd ((j0 / j1)) (fun (x7 : Int64) => x7))) else (if p0 = 6 then (if 0 ≤ (lg_cmp j0 j1) then (0) else (1)) else (if p0 = 7 then (if 0 < (lg_cmp j0 j1) then (0) else (1)) else (if p0 = 8 then (if (lg_cmp j0 j1) = 0 then (1) else (0)) else (if p0 = 9 then (if (lg_cmp j0 j1) < 0 then (0) else (1)) else (if p0 = 10 then (if (lg_cmp j0 j1) ≤ 0 then (0) else (1)) else (if p0 = 11 then (bnd ((j0 ||| j1)) (fun (x13 : Int64) => x13)) else (if p0 = 12 then (bnd ((j0 &&& j1)) (fun (x14 : Int64) => x14)) else (bnd ((j0 ||| j1)) (fun (x2 : Int64) => x2))))))))))))
set_option maxHeartbeats 4000000 in
set_option maxRecDepth 100000 in
theorem mX11_one (l : Launch) (dC : Nat → ClassId) (dI : Nat → Nat → Nat) (kA : Nat → ClassId) (sz : Nat) (p0 : Int32) (j0 : Int64) (j1 : Int64)  : Met l yX11_one wsX11_one ({ frames := 0, cells := 0, slots := 0, locals := 0 }) (zPc dC dI kA sz [.int p0, .long j0, .long j1] []) (va_Ql (fun (r : Int64) (u : Int64) => r = u ∧ u = fX11_one p0 j0 j1) (zB dC dI (va_A [] sz) (fun (u : Int64) => [])) (va_A [] sz)) 0 0 (va_A [] sz) := by
  refine Met.ofW (cc := cX11_one) (maxL := 5) (ret := (some .long)) pnX11 rfl ?_
  intro p e s m args below meth c s₁ B hml hv
  obtain ⟨rfl, hsz, hP, hK, hD0⟩ := hv
  have hx := B.exec
  have hb := B.bytes
  have hr := B.returns
  have hts := atoms_spec (ws := wsX11_one) B.pre
  have hown : s.vm.findClass RX11 = some m.cls := findClass_of_methodNamed B.named
  have hlocks := B.notSynchronized
  subst hsz
  have hD := hD0.self (sz := s.heap.size)
  generalize hAe : va_A [] s.heap.size = A at hD ⊢
  have hA : ∀ q : Nat, s.heap.size ≤ q → A q := zA_of hAe
  have hS : va_S A s.heap s.heap [] := va_S.rf
  have hP : va_P (dC, dI) vwCl [] s.heap := hP
  have hl := lv_entry ([.int p0, .long j0, .long j1]) (n := 5) (Nat.le_of_ble_eq_true rfl)
  rw [lg_entry_eq]
  generalize (lg_sl ([.int p0, .long j0, .long j1]) ++ List.replicate (5 - (lg_sl ([.int p0, .long j0, .long j1])).length) Slot.unset).toArray = ls at hl ⊢
  have hl : lv_has ls 5 [(0, .int p0), (1, .long j0), (3, .long j1)] := hl
  obtain ⟨G, hG0⟩ : ∃ G : Int64, fX11_one p0 j0 j1 = G := ⟨_, rfl⟩
  have hG := hG0
  unfold fX11_one at hG
  refine lv_iload_n hx hb dX11_one_0 rfl (lv_at hl 0 rfl) ?_
  rcases sw_2_12 p0 with hs1 | hs1 | hs1 | hs1 | hs1 | hs1 | hs1 | hs1 | hs1 | hs1 | hs1 | hs1
  · have hG := zelse hG (fun q9 => by rw [q9] at hs1; revert hs1; decide)
    have hG := zelse hG (fun q9 => by rw [q9] at hs1; revert hs1; decide)
    have hG := zelse hG (fun q9 => by rw [q9] at hs1; revert hs1; decide)
    have hG := zelse hG (fun q9 => by rw [q9] at hs1; revert hs1; decide)
    have hG := zelse hG (fun q9 => by rw [q9] at hs1; revert hs1; decide)
    have hG := zelse hG (fun q9 => by rw [q9] at hs1; revert hs1; decide)
    have hG := zelse hG (fun q9 => by rw [q9] at hs1; revert hs1; decide)
    have hG := zelse hG (fun q9 => by rw [q9] at hs1; revert hs1; decide)
    have hG := zelse hG (fun q9 => by rw [q9] at hs1; revert hs1; decide)
    have hG := zelse hG (fun q9 => by rw [q9] at hs1; revert hs1; decide)
    have hG := zelse hG (fun q9 => by rw [q9] at hs1; revert hs1; decide)
    refine lv_tableOut (tgt := 150) hx hb dX11_one_1 hs1 (by decide) ?_
    refine lv_lload_n hx hb dX11_one_150 rfl (lv_at hl 1 rfl) ?_
    refine lv_lload_n hx hb dX11_one_151 rfl (lv_at hl 2 rfl) ?_
    refine lv_lor hx hb dX11_one_152 ?_
    refine lv_topl (fun x2 ex2 => ?_)
    have hG := zbnd hG ex2
    obtain ⟨hP9, hD9⟩ := z_sb (L' := []) hP hD [] (by decide) rfl
    refine W.widen (k := 0) (n := 0) (Nat.le_of_ble_eq_true rfl) (Nat.le_of_ble_eq_true rfl) ?_
    exact W.lret (v := x2) hx hb hr (fun t ht hW => ⟨⟨x2, (x2), rfl, ⟨rfl, (hG.trans hG0.symm)⟩, by rw [ht]; exact hP9, hD9⟩, hS.F ht⟩) hS.2.2 dX11_one_153
  · have hG := zthen hG hs1
    refine lv_tableIn (off := 59) (tgt := 60) hx hb dX11_one_1 (by rw [hs1]; decide) (by rw [hs1]; decide) (by rw [hs1]; decide) (by decide) ?_
    have hl : lv_has ls 5 [(0, .int 2), (1, .long j0), (3, .long j1)] := by rw [hs1] at hl; exact hl
    refine lv_lload_n hx hb dX11_one_60 rfl (lv_at hl 1 rfl) ?_
    refine lv_lload_n hx hb dX11_one_61 rfl (lv_at hl 2 rfl) ?_
    refine lv_ladd hx hb dX11_one_62 ?_
    refine lv_topl (fun x3 ex3 => ?_)
    have hG := zbnd hG ex3
    obtain ⟨hP9, hD9⟩ := z_sb (L' := []) hP hD [] (by decide) rfl
    refine W.widen (k := 0) (n := 0) (Nat.le_of_ble_eq_true rfl) (Nat.le_of_ble_eq_true rfl) ?_
    exact W.lret (v := x3) hx hb hr (fun t ht hW => ⟨⟨x3, (x3), rfl, ⟨rfl, (hG.trans hG0.symm)⟩, by rw [ht]; exact hP9, hD9⟩, hS.F ht⟩) hS.2.2 dX11_one_63
  · have hG := zelse hG (fun q9 => by rw [q9] at hs1; revert hs1; decide)
    have hG := zthen hG hs1
    refine lv_tableIn (off := 63) (tgt := 64) hx hb dX11_one_1 (by rw [hs1]; decide) (by rw [hs1]; decide) (by rw [hs1]; decide) (by decide) ?_
    have hl : lv_has ls 5 [(0, .int 3), (1, .long j0), (3, .long j1)] := by rw [hs1] at hl; exact hl
    refine lv_lload_n hx hb dX11_one_64 rfl (lv_at hl 1 rfl) ?_
    refine lv_lload_n hx hb dX11_one_65 rfl (lv_at hl 2 rfl) ?_
    refine lv_lsub hx hb dX11_one_66 ?_
    refine lv_topl (fun x4 ex4 => ?_)
    have hG := zbnd hG ex4
    obtain ⟨hP9, hD9⟩ := z_sb (L' := []) hP hD [] (by decide) rfl
    refine W.widen (k := 0) (n := 0) (Nat.le_of_ble_eq_true rfl) (Nat.le_of_ble_eq_true rfl) ?_
    exact W.lret (v := x4) hx hb hr (fun t ht hW => ⟨⟨x4, (x4), rfl, ⟨rfl, (hG.trans hG0.symm)⟩, by rw [ht]; exact hP9, hD9⟩, hS.F ht⟩) hS.2.2 dX11_one_67
  · have hG := zelse hG (fun q9 => by rw [q9] at hs1; revert hs1; decide)
    have hG := zelse hG (fun q9 => by rw [q9] at hs1; revert hs1; decide)
    have hG := zthen hG hs1
    refine lv_tableIn (off := 67) (tgt := 68) hx hb dX11_one_1 (by rw [hs1]; decide) (by rw [hs1]; decide) (by rw [hs1]; decide) (by decide) ?_
    have hl : lv_has ls 5 [(0, .int 4), (1, .long j0), (3, .long j1)] := by rw [hs1] at hl; exact hl
    refine lv_lload_n hx hb dX11_one_68 rfl (lv_at hl 1 rfl) ?_
    refine lv_lload_n hx hb dX11_one_69 rfl (lv_at hl 2 rfl) ?_
    refine lv_lmul hx hb dX11_one_70 ?_
    refine lv_topl (fun x5 ex5 => ?_)
    have hG := zbnd hG ex5
    obtain ⟨hP9, hD9⟩ := z_sb (L' := []) hP hD [] (by decide) rfl
    refine W.widen (k := 0) (n := 0) (Nat.le_of_ble_eq_true rfl) (Nat.le_of_ble_eq_true rfl) ?_
    exact W.lret (v := x5) hx hb hr (fun t ht hW => ⟨⟨x5, (x5), rfl, ⟨rfl, (hG.trans hG0.symm)⟩, by rw [ht]; exact hP9, hD9⟩, hS.F ht⟩) hS.2.2 dX11_one_71
  · have hG := zelse hG (fun q9 => by rw [q9] at hs1; revert hs1; decide)
    have hG := zelse hG (fun q9 => by rw [q9] at hs1; revert hs1; decide)
    have hG := zelse hG (fun q9 => by rw [q9] at hs1; revert hs1; decide)
    have hG := zthen hG hs1
    refine lv_tableIn (off := 71) (tgt := 72) hx hb dX11_one_1 (by rw [hs1]; decide) (by rw [hs1]; decide) (by rw [hs1]; decide) (by decide) ?_
    have hl : lv_has ls 5 [(0, .int 5), (1, .long j0), (3, .long j1)] := by rw [hs1] at hl; exact hl
    refine lv_lload_n hx hb dX11_one_72 rfl (lv_at hl 2 rfl) ?_
    refine lv_lconst (v := 0) hx hb dX11_one_73 (by decide) ?_
    refine W.lcmp hx hb dX11_one_74 ?_
    refine lv_if_ne (tgt := 82) hx hb dX11_one_75 (by decide) (fun c_6 => ?_) (fun c_6 => ?_)
    · have hG := zelse hG c_6
      refine lv_lload_n hx hb dX11_one_82 rfl (lv_at hl 1 rfl) ?_
      refine lv_lload_n hx hb dX11_one_83 rfl (lv_at hl 2 rfl) ?_
      refine lv_ldiv hx hb dX11_one_84 (fun q => c_6 ((lg_cmp_eq _ _).mpr q)) ?_
      refine lv_topl (fun x7 ex7 => ?_)
      have hG := zbnd hG ex7
      obtain ⟨hP9, hD9⟩ := z_sb (L' := []) hP hD [] (by decide) rfl
      refine W.widen (k := 0) (n := 0) (Nat.le_of_ble_eq_true rfl) (Nat.le_of_ble_eq_true rfl) ?_
      exact W.lret (v := x7) hx hb hr (fun t ht hW => ⟨⟨x7, (x7), rfl, ⟨rfl, (hG.trans hG0.symm)⟩, by rw [ht]; exact hP9, hD9⟩, hS.F ht⟩) hS.2.2 dX11_one_85
    · have hG := zthen hG c_6
      refine lv_lconst (v := 0) hx hb dX11_one_78 (by decide) ?_
      refine lv_goto (tgt := 85) hx hb dX11_one_79 (by decide) ?_
      obtain ⟨hP9, hD9⟩ := z_sb (L' := []) hP hD [] (by decide) rfl
      refine W.widen (k := 0) (n := 0) (Nat.le_of_ble_eq_true rfl) (Nat.le_of_ble_eq_true rfl) ?_
      exact W.lret (v := 0) hx hb hr (fun t ht hW => ⟨⟨0, (0), rfl, ⟨rfl, (hG.trans hG0.symm)⟩, by rw [ht]; exact hP9, hD9⟩, hS.F ht⟩) hS.2.2 dX11_one_85
  · have hG := zelse hG (fun q9 => by rw [q9] at hs1; revert hs1; decide)
    have hG := zelse hG (fun q9 => by rw [q9] at hs1; revert hs1; decide)
    have hG := zelse hG (fun q9 => by rw [q9] at hs1; revert hs1; decide)
    have hG := zelse hG (fun q9 => by rw [q9] at hs1; revert hs1; decide)
    have hG := zthen hG hs1
    refine lv_tableIn (off := 85) (tgt := 86) hx hb dX11_one_1 (by rw [hs1]; decide) (by rw [hs1]; decide) (by rw [hs1]; decide) (by decide) ?_
    have hl : lv_has ls 5 [(0, .int 6), (1, .long j0), (3, .long j1)] := by rw [hs1] at hl; exact hl
    refine lv_lload_n hx hb dX11_one_86 rfl (lv_at hl 1 rfl) ?_
    refine lv_lload_n hx hb dX11_one_87 rfl (lv_at hl 2 rfl) ?_
    refine W.lcmp hx hb dX11_one_88 ?_
    refine lv_if_ge (tgt := 96) hx hb dX11_one_89 (by decide) (fun c_8 => ?_) (fun c_8 => ?_)
    · have hG := zthen hG c_8
      refine lv_lconst (v := 0) hx hb dX11_one_96 (by decide) ?_
      obtain ⟨hP9, hD9⟩ := z_sb (L' := []) hP hD [] (by decide) rfl
      refine W.widen (k := 0) (n := 0) (Nat.le_of_ble_eq_true rfl) (Nat.le_of_ble_eq_true rfl) ?_
      exact W.lret (v := 0) hx hb hr (fun t ht hW => ⟨⟨0, (0), rfl, ⟨rfl, (hG.trans hG0.symm)⟩, by rw [ht]; exact hP9, hD9⟩, hS.F ht⟩) hS.2.2 dX11_one_97
    · have hG := zelse hG c_8
      refine lv_lconst (v := 1) hx hb dX11_one_92 (by decide) ?_
      refine lv_goto (tgt := 97) hx hb dX11_one_93 (by decide) ?_
      obtain ⟨hP9, hD9⟩ := z_sb (L' := []) hP hD [] (by decide) rfl
      refine W.widen (k := 0) (n := 0) (Nat.le_of_ble_eq_true rfl) (Nat.le_of_ble_eq_true rfl) ?_
      exact W.lret (v := 1) hx hb hr (fun t ht hW => ⟨⟨1, (1), rfl, ⟨rfl, (hG.trans hG0.symm)⟩, by rw [ht]; exact hP9, hD9⟩, hS.F ht⟩) hS.2.2 dX11_one_97
  · have hG := zelse hG (fun q9 => by rw [q9] at hs1; revert hs1; decide)
    have hG := zelse hG (fun q9 => by rw [q9] at hs1; revert hs1; decide)
    have hG := zelse hG (fun q9 => by rw [q9] at hs1; revert hs1; decide)
    have hG := zelse hG (fun q9 => by rw [q9] at hs1; revert hs1; decide)
    have hG := zelse hG (fun q9 => by rw [q9] at hs1; revert hs1; decide)
    have hG := zthen hG hs1
    refine lv_tableIn (off := 97) (tgt := 98) hx hb dX11_one_1 (by rw [hs1]; decide) (by rw [hs1]; decide) (by rw [hs1]; decide) (by decide) ?_
    have hl : lv_has ls 5 [(0, .int 7), (1, .long j0), (3, .long j1)] := by rw [hs1] at hl; exact hl
    refine lv_lload_n hx hb dX11_one_98 rfl (lv_at hl 1 rfl) ?_
    refine lv_lload_n hx hb dX11_one_99 rfl (lv_at hl 2 rfl) ?_
    refine W.lcmp hx hb dX11_one_100 ?_
    refine lv_if_gt (tgt := 108) hx hb dX11_one_101 (by decide) (fun c_9 => ?_) (fun c_9 => ?_)
    · have hG := zthen hG c_9
      refine lv_lconst (v := 0) hx hb dX11_one_108 (by decide) ?_
      obtain ⟨hP9, hD9⟩ := z_sb (L' := []) hP hD [] (by decide) rfl
      refine W.widen (k := 0) (n := 0) (Nat.le_of_ble_eq_true rfl) (Nat.le_of_ble_eq_true rfl) ?_
      exact W.lret (v := 0) hx hb hr (fun t ht hW => ⟨⟨0, (0), rfl, ⟨rfl, (hG.trans hG0.symm)⟩, by rw [ht]; exact hP9, hD9⟩, hS.F ht⟩) hS.2.2 dX11_one_109
    · have hG := zelse hG c_9
      refine lv_lconst (v := 1) hx hb dX11_one_104 (by decide) ?_
      refine lv_goto (tgt := 109) hx hb dX11_one_105 (by decide) ?_
      obtain ⟨hP9, hD9⟩ := z_sb (L' := []) hP hD [] (by decide) rfl
      refine W.widen (k := 0) (n := 0) (Nat.le_of_ble_eq_true rfl) (Nat.le_of_ble_eq_true rfl) ?_
      exact W.lret (v := 1) hx hb hr (fun t ht hW => ⟨⟨1, (1), rfl, ⟨rfl, (hG.trans hG0.symm)⟩, by rw [ht]; exact hP9, hD9⟩, hS.F ht⟩) hS.2.2 dX11_one_109
  · have hG := zelse hG (fun q9 => by rw [q9] at hs1; revert hs1; decide)
    have hG := zelse hG (fun q9 => by rw [q9] at hs1; revert hs1; decide)
    have hG := zelse hG (fun q9 => by rw [q9] at hs1; revert hs1; decide)
    have hG := zelse hG (fun q9 => by rw [q9] at hs1; revert hs1; decide)
    have hG := zelse hG (fun q9 => by rw [q9] at hs1; revert hs1; decide)
    have hG := zelse hG (fun q9 => by rw [q9] at hs1; revert hs1; decide)
    have hG := zthen hG hs1
    refine lv_tableIn (off := 109) (tgt := 110) hx hb dX11_one_1 (by rw [hs1]; decide) (by rw [hs1]; decide) (by rw [hs1]; decide) (by decide) ?_
    have hl : lv_has ls 5 [(0, .int 8), (1, .long j0), (3, .long j1)] := by rw [hs1] at hl; exact hl
    refine lv_lload_n hx hb dX11_one_110 rfl (lv_at hl 1 rfl) ?_
    refine lv_lload_n hx hb dX11_one_111 rfl (lv_at hl 2 rfl) ?_
    refine W.lcmp hx hb dX11_one_112 ?_
    refine lv_if_ne (tgt := 120) hx hb dX11_one_113 (by decide) (fun c_10 => ?_) (fun c_10 => ?_)
    · have hG := zelse hG c_10
      refine lv_lconst (v := 0) hx hb dX11_one_120 (by decide) ?_
      obtain ⟨hP9, hD9⟩ := z_sb (L' := []) hP hD [] (by decide) rfl
      refine W.widen (k := 0) (n := 0) (Nat.le_of_ble_eq_true rfl) (Nat.le_of_ble_eq_true rfl) ?_
      exact W.lret (v := 0) hx hb hr (fun t ht hW => ⟨⟨0, (0), rfl, ⟨rfl, (hG.trans hG0.symm)⟩, by rw [ht]; exact hP9, hD9⟩, hS.F ht⟩) hS.2.2 dX11_one_121
    · have hG := zthen hG c_10
      refine lv_lconst (v := 1) hx hb dX11_one_116 (by decide) ?_
      refine lv_goto (tgt := 121) hx hb dX11_one_117 (by decide) ?_
      obtain ⟨hP9, hD9⟩ := z_sb (L' := []) hP hD [] (by decide) rfl
      refine W.widen (k := 0) (n := 0) (Nat.le_of_ble_eq_true rfl) (Nat.le_of_ble_eq_true rfl) ?_
      exact W.lret (v := 1) hx hb hr (fun t ht hW => ⟨⟨1, (1), rfl, ⟨rfl, (hG.trans hG0.symm)⟩, by rw [ht]; exact hP9, hD9⟩, hS.F ht⟩) hS.2.2 dX11_one_121
  · have hG := zelse hG (fun q9 => by rw [q9] at hs1; revert hs1; decide)
    have hG := zelse hG (fun q9 => by rw [q9] at hs1; revert hs1; decide)
    have hG := zelse hG (fun q9 => by rw [q9] at hs1; revert hs1; decide)
    have hG := zelse hG (fun q9 => by rw [q9] at hs1; revert hs1; decide)
    have hG := zelse hG (fun q9 => by rw [q9] at hs1; revert hs1; decide)
    have hG := zelse hG (fun q9 => by rw [q9] at hs1; revert hs1; decide)
    have hG := zelse hG (fun q9 => by rw [q9] at hs1; revert hs1; decide)
    have hG := zthen hG hs1
    refine lv_tableIn (off := 121) (tgt := 122) hx hb dX11_one_1 (by rw [hs1]; decide) (by rw [hs1]; decide) (by rw [hs1]; decide) (by decide) ?_
    have hl : lv_has ls 5 [(0, .int 9), (1, .long j0), (3, .long j1)] := by rw [hs1] at hl; exact hl
    refine lv_lload_n hx hb dX11_one_122 rfl (lv_at hl 1 rfl) ?_
    refine lv_lload_n hx hb dX11_one_123 rfl (lv_at hl 2 rfl) ?_
    refine W.lcmp hx hb dX11_one_124 ?_
    refine lv_if_lt (tgt := 132) hx hb dX11_one_125 (by decide) (fun c_11 => ?_) (fun c_11 => ?_)
    · have hG := zthen hG c_11
      refine lv_lconst (v := 0) hx hb dX11_one_132 (by decide) ?_
      obtain ⟨hP9, hD9⟩ := z_sb (L' := []) hP hD [] (by decide) rfl
      refine W.widen (k := 0) (n := 0) (Nat.le_of_ble_eq_true rfl) (Nat.le_of_ble_eq_true rfl) ?_
      exact W.lret (v := 0) hx hb hr (fun t ht hW => ⟨⟨0, (0), rfl, ⟨rfl, (hG.trans hG0.symm)⟩, by rw [ht]; exact hP9, hD9⟩, hS.F ht⟩) hS.2.2 dX11_one_133
    · have hG := zelse hG c_11
      refine lv_lconst (v := 1) hx hb dX11_one_128 (by decide) ?_
      refine lv_goto (tgt := 133) hx hb dX11_one_129 (by decide) ?_
      obtain ⟨hP9, hD9⟩ := z_sb (L' := []) hP hD [] (by decide) rfl
      refine W.widen (k := 0) (n := 0) (Nat.le_of_ble_eq_true rfl) (Nat.le_of_ble_eq_true rfl) ?_
      exact W.lret (v := 1) hx hb hr (fun t ht hW => ⟨⟨1, (1), rfl, ⟨rfl, (hG.trans hG0.symm)⟩, by rw [ht]; exact hP9, hD9⟩, hS.F ht⟩) hS.2.2 dX11_one_133
  · have hG := zelse hG (fun q9 => by rw [q9] at hs1; revert hs1; decide)
    have hG := zelse hG (fun q9 => by rw [q9] at hs1; revert hs1; decide)
    have hG := zelse hG (fun q9 => by rw [q9] at hs1; revert hs1; decide)
    have hG := zelse hG (fun q9 => by rw [q9] at hs1; revert hs1; decide)
    have hG := zelse hG (fun q9 => by rw [q9] at hs1; revert hs1; decide)
    have hG := zelse hG (fun q9 => by rw [q9] at hs1; revert hs1; decide)
    have hG := zelse hG (fun q9 => by rw [q9] at hs1; revert hs1; decide)
    have hG := zelse hG (fun q9 => by rw [q9] at hs1; revert hs1; decide)
    have hG := zthen hG hs1
    refine lv_tableIn (off := 133) (tgt := 134) hx hb dX11_one_1 (by rw [hs1]; decide) (by rw [hs1]; decide) (by rw [hs1]; decide) (by decide) ?_
    have hl : lv_has ls 5 [(0, .int 10), (1, .long j0), (3, .long j1)] := by rw [hs1] at hl; exact hl
    refine lv_lload_n hx hb dX11_one_134 rfl (lv_at hl 1 rfl) ?_
    refine lv_lload_n hx hb dX11_one_135 rfl (lv_at hl 2 rfl) ?_
    refine W.lcmp hx hb dX11_one_136 ?_
    refine lv_if_le (tgt := 144) hx hb dX11_one_137 (by decide) (fun c_12 => ?_) (fun c_12 => ?_)
    · have hG := zthen hG c_12
      refine lv_lconst (v := 0) hx hb dX11_one_144 (by decide) ?_
      obtain ⟨hP9, hD9⟩ := z_sb (L' := []) hP hD [] (by decide) rfl
      refine W.widen (k := 0) (n := 0) (Nat.le_of_ble_eq_true rfl) (Nat.le_of_ble_eq_true rfl) ?_
      exact W.lret (v := 0) hx hb hr (fun t ht hW => ⟨⟨0, (0), rfl, ⟨rfl, (hG.trans hG0.symm)⟩, by rw [ht]; exact hP9, hD9⟩, hS.F ht⟩) hS.2.2 dX11_one_145
    · have hG := zelse hG c_12
      refine lv_lconst (v := 1) hx hb dX11_one_140 (by decide) ?_
      refine lv_goto (tgt := 145) hx hb dX11_one_141 (by decide) ?_
      obtain ⟨hP9, hD9⟩ := z_sb (L' := []) hP hD [] (by decide) rfl
      refine W.widen (k := 0) (n := 0) (Nat.le_of_ble_eq_true rfl) (Nat.le_of_ble_eq_true rfl) ?_
      exact W.lret (v := 1) hx hb hr (fun t ht hW => ⟨⟨1, (1), rfl, ⟨rfl, (hG.trans hG0.symm)⟩, by rw [ht]; exact hP9, hD9⟩, hS.F ht⟩) hS.2.2 dX11_one_145
  · have hG := zelse hG (fun q9 => by rw [q9] at hs1; revert hs1; decide)
    have hG := zelse hG (fun q9 => by rw [q9] at hs1; revert hs1; decide)
    have hG := zelse hG (fun q9 => by rw [q9] at hs1; revert hs1; decide)
    have hG := zelse hG (fun q9 => by rw [q9] at hs1; revert hs1; decide)
    have hG := zelse hG (fun q9 => by rw [q9] at hs1; revert hs1; decide)
    have hG := zelse hG (fun q9 => by rw [q9] at hs1; revert hs1; decide)
    have hG := zelse hG (fun q9 => by rw [q9] at hs1; revert hs1; decide)
    have hG := zelse hG (fun q9 => by rw [q9] at hs1; revert hs1; decide)
    have hG := zelse hG (fun q9 => by rw [q9] at hs1; revert hs1; decide)
    have hG := zthen hG hs1
    refine lv_tableIn (off := 149) (tgt := 150) hx hb dX11_one_1 (by rw [hs1]; decide) (by rw [hs1]; decide) (by rw [hs1]; decide) (by decide) ?_
    have hl : lv_has ls 5 [(0, .int 11), (1, .long j0), (3, .long j1)] := by rw [hs1] at hl; exact hl
    refine lv_lload_n hx hb dX11_one_150 rfl (lv_at hl 1 rfl) ?_
    refine lv_lload_n hx hb dX11_one_151 rfl (lv_at hl 2 rfl) ?_
    refine lv_lor hx hb dX11_one_152 ?_
    refine lv_topl (fun x13 ex13 => ?_)
    have hG := zbnd hG ex13
    obtain ⟨hP9, hD9⟩ := z_sb (L' := []) hP hD [] (by decide) rfl
    refine W.widen (k := 0) (n := 0) (Nat.le_of_ble_eq_true rfl) (Nat.le_of_ble_eq_true rfl) ?_
    exact W.lret (v := x13) hx hb hr (fun t ht hW => ⟨⟨x13, (x13), rfl, ⟨rfl, (hG.trans hG0.symm)⟩, by rw [ht]; exact hP9, hD9⟩, hS.F ht⟩) hS.2.2 dX11_one_153
  · have hG := zelse hG (fun q9 => by rw [q9] at hs1; revert hs1; decide)
    have hG := zelse hG (fun q9 => by rw [q9] at hs1; revert hs1; decide)
    have hG := zelse hG (fun q9 => by rw [q9] at hs1; revert hs1; decide)
    have hG := zelse hG (fun q9 => by rw [q9] at hs1; revert hs1; decide)
    have hG := zelse hG (fun q9 => by rw [q9] at hs1; revert hs1; decide)
    have hG := zelse hG (fun q9 => by rw [q9] at hs1; revert hs1; decide)
    have hG := zelse hG (fun q9 => by rw [q9] at hs1; revert hs1; decide)
    have hG := zelse hG (fun q9 => by rw [q9] at hs1; revert hs1; decide)
    have hG := zelse hG (fun q9 => by rw [q9] at hs1; revert hs1; decide)
    have hG := zelse hG (fun q9 => by rw [q9] at hs1; revert hs1; decide)
    have hG := zthen hG hs1
    refine lv_tableIn (off := 145) (tgt := 146) hx hb dX11_one_1 (by rw [hs1]; decide) (by rw [hs1]; decide) (by rw [hs1]; decide) (by decide) ?_
    have hl : lv_has ls 5 [(0, .int 12), (1, .long j0), (3, .long j1)] := by rw [hs1] at hl; exact hl
    refine lv_lload_n hx hb dX11_one_146 rfl (lv_at hl 1 rfl) ?_
    refine lv_lload_n hx hb dX11_one_147 rfl (lv_at hl 2 rfl) ?_
    refine lv_land hx hb dX11_one_148 ?_
    refine lv_topl (fun x14 ex14 => ?_)
    have hG := zbnd hG ex14
    obtain ⟨hP9, hD9⟩ := z_sb (L' := []) hP hD [] (by decide) rfl
    refine W.widen (k := 0) (n := 0) (Nat.le_of_ble_eq_true rfl) (Nat.le_of_ble_eq_true rfl) ?_
    exact W.lret (v := x14) hx hb hr (fun t ht hW => ⟨⟨x14, (x14), rfl, ⟨rfl, (hG.trans hG0.symm)⟩, by rw [ht]; exact hP9, hD9⟩, hS.F ht⟩) hS.2.2 dX11_one_149
theorem gl_mX11_reckons_0 (p0 : Int32) (p1 : Int32) (p2 : Int32) (l8_2 : Int32) (h0 : ¬ p0 < 0) (h1 : ¬ 6 ≤ p0) (h2 : ¬ p1 < 0) (h3 : ¬ p2 < p1) (h4 : ¬ 400 < p2) (h5 : ¬ l8_2 < 0) (h6 : ¬ l8_2 < p1) (h7 : ¬ p2 < l8_2) (h8 : ¬ p2 ≤ l8_2) : (¬ ((400 * p0) + l8_2) < 0 ∧ ¬ 2400 ≤ ((400 * p0) + l8_2)) := by grind
theorem gl_mX11_reckons_1 (v8_0 : Int32) (h0 : ¬ v8_0 < 2) (h1 : ¬ 60 < v8_0) : ¬ v8_0 < 1 := by grind
theorem gl_mX11_reckons_2 (v8_0 : Int32) (oy8_15 : Int32) (h0 : ¬ v8_0 < 2) (h1 : ¬ 60 < v8_0) (h2 : oy8_15 = (v8_0 - 1)) : ¬ oy8_15 < 1 := by grind
theorem gl_mX11_reckons_3 (v8_0 : Int32) (oy8_15 : Int32) (h0 : ¬ v8_0 < 2) (h1 : ¬ 60 < v8_0) (h2 : oy8_15 = (v8_0 - 1)) : ¬ 60 < oy8_15 := by grind
theorem gl_mX11_reckons_4 (v8_0 : Int32) (oy8_15 : Int32) (oy8_24 : Int32) (h0 : ¬ v8_0 < 2) (h1 : ¬ 60 < v8_0) (h2 : oy8_15 = (v8_0 - 1)) (h3 : oy8_24 = (oy8_15 - 1)) : ¬ oy8_24 < 0 := by grind
theorem gl_mX11_reckons_5 (v8_0 : Int32) (oy8_15 : Int32) (oy8_24 : Int32) (h0 : ¬ v8_0 < 2) (h1 : ¬ 60 < v8_0) (h2 : oy8_15 = (v8_0 - 1)) (h3 : oy8_24 = (oy8_15 - 1)) : ¬ 60 < oy8_24 := by grind
theorem gl_mX11_reckons_6 (v8_0 : Int32) (oy8_50 : Int32) (h0 : ¬ v8_0 < 1) (h1 : ¬ 60 < v8_0) (h2 : oy8_50 = (v8_0 - 1)) : ¬ oy8_50 < 0 := by grind
theorem gl_mX11_reckons_7 (v8_0 : Int32) (oy8_50 : Int32) (h0 : ¬ v8_0 < 1) (h1 : ¬ 60 < v8_0) (h2 : oy8_50 = (v8_0 - 1)) : ¬ 60 < oy8_50 := by grind
set_option maxRecDepth 100000 in
def fb_mX11_reckons_8 (signF : Nat → Int32) (wordF : Nat → Int64) (p0 : Int32) (p2 : Int32) (E135 : Int32 → (Nat → Int64) → Int32 → (Int32 × (Nat → Int64) × Int64)) (K : Int32 → (Nat → Int64) → Int32 → (Int32 × (Nat → Int64) × Int64)) (v8_0 : Int32) (g8_1 : Nat → Int64) (l8_2 : Int32) : Int32 × (Nat → Int64) × Int64 := if p2 ≤ l8_2 then (E135 v8_0 g8_1 l8_2) else (bnd (signF ((400 * p0) + l8_2).toNatClampNeg) (fun (xy8_4 : Int32) => bnd ((xy8_4 &&& 15)) (fun (xy8_5 : Int32) => bnd (signF ((400 * p0) + l8_2).toNatClampNeg) (fun (xy8_6 : Int32) => bnd ((xy8_6 >>> (4 &&& 31))) (fun (xy8_7 : Int32) => if xy8_5 = 0 then (bnd (fX11_push v8_0 g8_1 xy8_7.toInt64) (fun (qy8_85 : Int32 × (Nat → Int64)) => bnd (qy8_85.1) (fun (oy8_81 : Int32) => bnd (qy8_85.2) (fun (oy8_82 : Nat → Int64) => bnd ((l8_2 + 1)) (fun (xy8_86 : Int32) => K oy8_81 oy8_82 xy8_86))))) else (if xy8_5 = 1 then (bnd (wordF xy8_7.toNatClampNeg) (fun (xy8_67 : Int64) => bnd (fX11_push v8_0 g8_1 xy8_67) (fun (qy8_75 : Int32 × (Nat → Int64)) => bnd (qy8_75.1) (fun (oy8_71 : Int32) => bnd (qy8_75.2) (fun (oy8_72 : Nat → Int64) => bnd ((l8_2 + 1)) (fun (xy8_76 : Int32) => K oy8_71 oy8_72 xy8_76)))))) else (if xy8_5 = 11 then (bnd (fX11_pop v8_0 g8_1) (fun (qy8_55 : Int32 × Int64) => bnd (qy8_55.1) (fun (oy8_50 : Int32) => bnd (qy8_55.2) (fun (ry8_49 : Int64) => bnd ((1 - ry8_49)) (fun (xy8_56 : Int64) => bnd (fX11_push oy8_50 g8_1 xy8_56) (fun (qy8_64 : Int32 × (Nat → Int64)) => bnd (qy8_64.1) (fun (oy8_60 : Int32) => bnd (qy8_64.2) (fun (oy8_61 : Nat → Int64) => bnd ((l8_2 + 1)) (fun (xy8_65 : Int32) => K oy8_60 oy8_61 xy8_65))))))))) else (bnd (fX11_pop v8_0 g8_1) (fun (qy8_20 : Int32 × Int64) => bnd (qy8_20.1) (fun (oy8_15 : Int32) => bnd (qy8_20.2) (fun (ry8_14 : Int64) => bnd (fX11_pop oy8_15 g8_1) (fun (qy8_29 : Int32 × Int64) => bnd (qy8_29.1) (fun (oy8_24 : Int32) => bnd (qy8_29.2) (fun (ry8_23 : Int64) => bnd (fX11_one xy8_5 ry8_23 ry8_14) (fun (ry8_32 : Int64) => bnd (fX11_push oy8_24 g8_1 ry8_32) (fun (qy8_44 : Int32 × (Nat → Int64)) => bnd (qy8_44.1) (fun (oy8_40 : Int32) => bnd (qy8_44.2) (fun (oy8_41 : Nat → Int64) => bnd ((l8_2 + 1)) (fun (xy8_45 : Int32) => K oy8_40 oy8_41 xy8_45)))))))))))))))))))
def fl_mX11_reckons_8 (signF : Nat → Int32) (wordF : Nat → Int64) (p0 : Int32) (p2 : Int32) (E135 : Int32 → (Nat → Int64) → Int32 → (Int32 × (Nat → Int64) × Int64)) : Nat → Int32 → (Nat → Int64) → Int32 → (Int32 × (Nat → Int64) × Int64)
  | 0, _, _, _ => (0, (fun _ => 0), 0)
  | n + 1, v8_0, g8_1, l8_2 => fb_mX11_reckons_8 signF wordF p0 p2 E135 (fl_mX11_reckons_8 signF wordF p0 p2 E135 n) v8_0 g8_1 l8_2
set_option maxHeartbeats 4000000 in
set_option maxRecDepth 100000 in
theorem lp_mX11_reckons_8 {p : Program} {l : Launch} {e : Env} {R : Room} {s : State} {m : MethodId} {args : Array Value} {below : List Frame} {meth : Method} {c : Code} {Q : State → Prop} {dC : Nat → ClassId} {dI : Nat → Nat → Nat} {kA : Nat → ClassId} {A : Nat → Prop} {H0 : Heap} {cells slots : Nat} (hx : p.tables.exec = Jvm.exec) (hb : c.code = cX11_reckons) (hml : c.maxLocals = 11) (hts : ∀ w ∈ wsX11_reckons, w.before args s = true) (hown : s.vm.findClass RX11 = some m.cls) (hK : zK dC dI kA s) (hA : ∀ q, H0.size ≤ q → A q) (hRf : 1 ≤ R.frames) (hRl : 24 ≤ R.locals) (hRc : cells ≤ R.cells) (hRs : slots ≤ R.slots) (n0 : Nat) (m_taped : Int32) (m_laws : Int32) (m_next : Int32) (m_wrong : Int32) (m_number : Int32) (m_text : Int32) (m_made : Int32) (m_deep : Int32) (m_lines : Int32) (m_opened : Int32) (m_goNode : Int32) (m_goDrops : Int32) (m_goHour : Int32) (m_goFelt : Int32) (m_goSalt : Int32) (m_goMore : Int32) (m_bestLeft : Int32) (m_bestHour : Int32) (m_bestMany : Int32) (a_tape : Nat) (a_sign : Nat) (a_length : Nat) (a_clause : Nat) (a_clauses : Nat) (a_chain : Nat) (a_open : Nat) (a_stack : Nat) (a_word : Nat) (a_said : Nat) (a_kept : Nat) (a_stepNode : Nat) (a_stepDrops : Nat) (a_stepHour : Nat) (a_stepNext : Nat) (a_stepPass : Nat) (a_bestPass : Nat) (a_far : Nat) (a_waited : Nat) (a_servers : Nat) (a_images : Nat) (a_isMade : Nat) (signF : Nat → Int32) (wordF : Nat → Int64) (p0 : Int32) (p1 : Int32) (p2 : Int32) {G : Int32 × (Nat → Int64) × Int64} {E135 : Int32 → (Nat → Int64) → Int32 → (Int32 × (Nat → Int64) × Int64)} (hco : CodeOK signF p0 p1 p2) (hz1 : ¬ p0 < 0) (hz2 : ¬ 6 ≤ p0) (hz3 : ¬ p1 < 0) (hz4 : ¬ p2 < p1) (hz5 : ¬ 400 < p2) (k135 : ∀ (w135_0 : Int32) (w135_1 : Nat → Int64) (w135_2 : Int32) (H : Heap) (locs : List Loc) (ls : Array Slot), ¬ w135_2 < 0 → ¬ p2 < w135_2 → RInv signF p0 p1 p2 w135_2 w135_0 → p2 ≤ w135_2 → E135 w135_0 w135_1 w135_2 = G → va_P (dC, dI) vwCl [(n0, .inr (11, .ref a_tape :: .int m_taped :: .int m_laws :: .ref a_sign :: .ref a_length :: .ref a_clause :: .ref a_clauses :: .ref a_chain :: .int m_next :: .int m_wrong :: .int m_number :: .int m_text :: .int m_made :: .int m_deep :: .int m_lines :: .ref a_open :: .int m_opened :: .ref a_stack :: .int w135_0 :: .ref a_word :: .ref a_said :: .ref a_kept :: [.int m_goNode, .int m_goDrops, .int m_goHour, .int m_goFelt, .int m_goSalt, .int m_goMore, .ref a_stepNode, .ref a_stepDrops, .ref a_stepHour, .ref a_stepNext, .ref a_stepPass, .int m_bestLeft, .int m_bestHour, .int m_bestMany, .ref a_bestPass, .ref a_far, .ref a_waited, .ref a_servers, .ref a_images, .ref a_isMade])), (a_sign, .inl (kA 0, 2400, .inl signF)), (a_stack, .inl (kA 2, 64, .inr (.inl w135_1))), (a_word, .inl (kA 2, 11, .inr (.inl wordF)))] H → va_D A [(n0, .inr (11, .ref a_tape :: .int m_taped :: .int m_laws :: .ref a_sign :: .ref a_length :: .ref a_clause :: .ref a_clauses :: .ref a_chain :: .int m_next :: .int m_wrong :: .int m_number :: .int m_text :: .int m_made :: .int m_deep :: .int m_lines :: .ref a_open :: .int m_opened :: .ref a_stack :: .int w135_0 :: .ref a_word :: .ref a_said :: .ref a_kept :: [.int m_goNode, .int m_goDrops, .int m_goHour, .int m_goFelt, .int m_goSalt, .int m_goMore, .ref a_stepNode, .ref a_stepDrops, .ref a_stepHour, .ref a_stepNext, .ref a_stepPass, .int m_bestLeft, .int m_bestHour, .int m_bestMany, .ref a_bestPass, .ref a_far, .ref a_waited, .ref a_servers, .ref a_images, .ref a_isMade])), (a_sign, .inl (kA 0, 2400, .inl signF)), (a_stack, .inl (kA 2, 64, .inr (.inl w135_1))), (a_word, .inl (kA 2, 11, .inr (.inl wordF)))] → va_S A H0 H locs → lv_has ls 11 [(4, .int w135_2), (0, .ref n0), (1, .int p0), (2, .int p1), (3, .int p2)] → W p l e R s m args below meth c H locs cells slots Q (F0 m 135 ls []))  : ∀ (n : Nat) (v8_0 : Int32) (g8_1 : Nat → Int64) (l8_2 : Int32) (H : Heap) (locs : List Loc) (ls : Array Slot), ((p2 : Int32).toInt - l8_2.toInt).toNat < n → fl_mX11_reckons_8 signF wordF p0 p2 E135 n v8_0 g8_1 l8_2 = G → ¬ l8_2 < 0 → RInv signF p0 p1 p2 l8_2 v8_0 → va_P (dC, dI) vwCl [(n0, .inr (11, .ref a_tape :: .int m_taped :: .int m_laws :: .ref a_sign :: .ref a_length :: .ref a_clause :: .ref a_clauses :: .ref a_chain :: .int m_next :: .int m_wrong :: .int m_number :: .int m_text :: .int m_made :: .int m_deep :: .int m_lines :: .ref a_open :: .int m_opened :: .ref a_stack :: .int v8_0 :: .ref a_word :: .ref a_said :: .ref a_kept :: [.int m_goNode, .int m_goDrops, .int m_goHour, .int m_goFelt, .int m_goSalt, .int m_goMore, .ref a_stepNode, .ref a_stepDrops, .ref a_stepHour, .ref a_stepNext, .ref a_stepPass, .int m_bestLeft, .int m_bestHour, .int m_bestMany, .ref a_bestPass, .ref a_far, .ref a_waited, .ref a_servers, .ref a_images, .ref a_isMade])), (a_sign, .inl (kA 0, 2400, .inl signF)), (a_stack, .inl (kA 2, 64, .inr (.inl g8_1))), (a_word, .inl (kA 2, 11, .inr (.inl wordF)))] H → va_D A [(n0, .inr (11, .ref a_tape :: .int m_taped :: .int m_laws :: .ref a_sign :: .ref a_length :: .ref a_clause :: .ref a_clauses :: .ref a_chain :: .int m_next :: .int m_wrong :: .int m_number :: .int m_text :: .int m_made :: .int m_deep :: .int m_lines :: .ref a_open :: .int m_opened :: .ref a_stack :: .int v8_0 :: .ref a_word :: .ref a_said :: .ref a_kept :: [.int m_goNode, .int m_goDrops, .int m_goHour, .int m_goFelt, .int m_goSalt, .int m_goMore, .ref a_stepNode, .ref a_stepDrops, .ref a_stepHour, .ref a_stepNext, .ref a_stepPass, .int m_bestLeft, .int m_bestHour, .int m_bestMany, .ref a_bestPass, .ref a_far, .ref a_waited, .ref a_servers, .ref a_images, .ref a_isMade])), (a_sign, .inl (kA 0, 2400, .inl signF)), (a_stack, .inl (kA 2, 64, .inr (.inl g8_1))), (a_word, .inl (kA 2, 11, .inr (.inl wordF)))] → va_S A H0 H locs → lv_has ls 11 [(4, .int l8_2), (0, .ref n0), (1, .int p0), (2, .int p1), (3, .int p2)] → W p l e R s m args below meth c H locs cells slots Q (F0 m 8 ls []) := by
  intro n
  induction n with
  | zero =>
    intro v8_0 g8_1 l8_2 H locs ls hn
    exact absurd hn (Nat.not_lt_zero _)
  | succ n ih =>
    intro v8_0 g8_1 l8_2 H locs ls hn hG hi8 hri hP hD hS hl
    have hzy8_1 : ¬ l8_2 < p1 := hri.2.1.1
    have hzy8_2 : ¬ p2 < l8_2 := hri.2.1.2
    have hG : fb_mX11_reckons_8 signF wordF p0 p2 E135 (fl_mX11_reckons_8 signF wordF p0 p2 E135 n) v8_0 g8_1 l8_2 = G := hG
    unfold fb_mX11_reckons_8 at hG
    refine lv_iload hx hb dX11_reckons_8 (lv_at hl 0 rfl) ?_
    refine lv_iload_n hx hb dX11_reckons_10 rfl (lv_at hl 4 rfl) ?_
    refine lv_icmp_ge (tgt := 135) hx hb dX11_reckons_11 (by decide) (fun c_y8_3 => ?_) (fun c_y8_3 => ?_)
    · have hG := zthen hG c_y8_3
      exact k135 v8_0 g8_1 l8_2 H locs ls hi8 hzy8_2 hri c_y8_3 hG (hP.sub [0, 1, 2, 3] rfl) (hD.sub [0, 1, 2, 3] (by decide) rfl) hS (lv_sub hl [0, 1, 2, 3, 4] rfl)
    · have hG := zelse hG c_y8_3
      refine lv_aload_n hx hb dX11_reckons_14 rfl (lv_at hl 1 rfl) ?_
      refine va_get (D := (dC, dI)) (ci := 11) (v := .ref a_sign) (C := RX11) (T := TX11) (N := 42) hx hb hts iX11_reckons_X11 hown hK.1 hP 0 gz0 vcz11 3 (by decide) (kX11_reckons_2 hts) (fun _ h9 => h9) gz3 dX11_reckons_15 ?_
      refine lv_sipush (v := 400) hx hb dX11_reckons_18 (by decide) ?_
      refine lv_iload_n hx hb dX11_reckons_21 rfl (lv_at hl 2 rfl) ?_
      refine lv_imul hx hb dX11_reckons_22 ?_
      refine lv_iload hx hb dX11_reckons_23 (lv_at hl 0 rfl) ?_
      refine lv_iadd hx hb dX11_reckons_25 ?_
      refine va_iald hx hb hK.1 hP 1 0 gz1 tzz0 (vp_g (N := 2400) (by decide) (gl_mX11_reckons_0 p0 p1 p2 l8_2 hz1 hz2 hz3 hz4 hz5 hi8 hzy8_1 hzy8_2 c_y8_3)) dX11_reckons_26 ?_
      refine lv_topi (fun xy8_4 exy8_4 => ?_)
      have hG := zbnd hG exy8_4
      refine lv_bipush (v := 15) hx hb dX11_reckons_27 (by decide) ?_
      refine lv_iand hx hb dX11_reckons_29 ?_
      refine lv_topi (fun xy8_5 exy8_5 => ?_)
      have hG := zbnd hG exy8_5
      refine lv_istore (lv' := [(5, .int xy8_5), (4, .int l8_2), (0, .ref n0), (1, .int p0), (2, .int p1), (3, .int p2)]) hx hb dX11_reckons_30 hl (by decide) rfl (fun ls hl => ?_)
      refine lv_aload_n hx hb dX11_reckons_32 rfl (lv_at hl 2 rfl) ?_
      refine va_get (D := (dC, dI)) (ci := 11) (v := .ref a_sign) (C := RX11) (T := TX11) (N := 42) hx hb hts iX11_reckons_X11 hown hK.1 hP 0 gz0 vcz11 3 (by decide) (kX11_reckons_2 hts) (fun _ h9 => h9) gz3 dX11_reckons_33 ?_
      refine lv_sipush (v := 400) hx hb dX11_reckons_36 (by decide) ?_
      refine lv_iload_n hx hb dX11_reckons_39 rfl (lv_at hl 3 rfl) ?_
      refine lv_imul hx hb dX11_reckons_40 ?_
      refine lv_iload hx hb dX11_reckons_41 (lv_at hl 1 rfl) ?_
      refine lv_iadd hx hb dX11_reckons_43 ?_
      refine va_iald hx hb hK.1 hP 1 0 gz1 tzz0 (vp_g (N := 2400) (by decide) (gl_mX11_reckons_0 p0 p1 p2 l8_2 hz1 hz2 hz3 hz4 hz5 hi8 hzy8_1 hzy8_2 c_y8_3)) dX11_reckons_44 ?_
      refine lv_topi (fun xy8_6 exy8_6 => ?_)
      have hG := zbnd hG exy8_6
      refine lv_iconst (v := 4) hx hb dX11_reckons_45 (by decide) ?_
      refine lv_ishr hx hb dX11_reckons_46 ?_
      refine lv_topi (fun xy8_7 exy8_7 => ?_)
      have hG := zbnd hG exy8_7
      refine lv_istore (lv' := [(6, .int xy8_7), (5, .int xy8_5), (4, .int l8_2), (0, .ref n0), (1, .int p0), (2, .int p1), (3, .int p2)]) hx hb dX11_reckons_47 hl (by decide) rfl (fun ls hl => ?_)
      refine lv_iload hx hb dX11_reckons_49 (lv_at hl 1 rfl) ?_
      refine lv_if_ne (tgt := 64) hx hb dX11_reckons_51 (by decide) (fun c_y8_8 => ?_) (fun c_y8_8 => ?_)
      · have hG := zelse hG c_y8_8
        refine lv_iload hx hb dX11_reckons_64 (lv_at hl 1 rfl) ?_
        refine lv_iconst (v := 1) hx hb dX11_reckons_66 (by decide) ?_
        refine lv_icmp_ne (tgt := 84) hx hb dX11_reckons_67 (by decide) (fun c_y8_9 => ?_) (fun c_y8_9 => ?_)
        · have hG := zelse hG c_y8_9
          refine lv_iload hx hb dX11_reckons_84 (lv_at hl 1 rfl) ?_
          refine lv_bipush (v := 11) hx hb dX11_reckons_86 (by decide) ?_
          refine lv_icmp_ne (tgt := 104) hx hb dX11_reckons_88 (by decide) (fun c_y8_10 => ?_) (fun c_y8_10 => ?_)
          · have hG := zelse hG c_y8_10
            have hny8_11 := R_bin hri c_y8_3 exy8_4 exy8_5 c_y8_8 c_y8_9 c_y8_10
            have hny8_11a : ¬ v8_0 < 2 := hny8_11.1.1
            have hny8_11b : ¬ 60 < v8_0 := hny8_11.1.2
            refine lv_aload_n hx hb dX11_reckons_104 rfl (lv_at hl 3 rfl) ?_
            refine z_l (wr := [(a_sign, .inl (kA 0, 2400, .inl signF)), (a_word, .inl (kA 2, 11, .inr (.inl wordF)))]) (va_runV (As := []) (rest := []) ⟨hx, hb, hml, hown, hts⟩ (mX11_pop l dC dI kA _ n0 m_taped m_laws m_next m_wrong m_number m_text m_made m_deep m_lines m_opened v8_0 m_goNode m_goDrops m_goHour m_goFelt m_goSalt m_goMore m_bestLeft m_bestHour m_bestMany a_tape a_sign a_length a_clause a_clauses a_chain a_open a_stack a_word a_said a_kept a_stepNode a_stepDrops a_stepHour a_stepNext a_stepPass a_bestPass a_far a_waited a_servers a_images a_isMade g8_1 (gl_mX11_reckons_1 v8_0 hny8_11a hny8_11b) hny8_11b) (cwV 0 hts gX11_reckons_X11_pop rfl rfl rfl ⟨rfl, hdX11_pop⟩ ⟨(Nat.le_trans (Nat.le_of_ble_eq_true rfl) hRf), (Nat.le_trans (Nat.le_of_ble_eq_true rfl) hRl)⟩) ⟨zPc.blind, va_recv (q := (RX11, TX11, 42)) hK.1 hP (ci := 11) (q0 := 0) rfl rfl, zPre hK (hP.sub [0, 2] rfl) (hD.sub [0, 2] (by decide) rfl)⟩ rfl rfl hl.1 rfl (lv_room (Nat.le_of_ble_eq_true rfl)) dX11_reckons_105 ⟨hRc, hRs⟩) hP hD hS hA [0, 2] [1, 3] rfl rfl (by decide) (by decide) (fun ry8_14 uy8_12 H locs hwy8_13 hP hD hS => ?_)
            obtain ⟨oy8_15, ry8_16⟩ := uy8_12
            obtain ⟨ery8_19, hpy8_17, hpy8_18⟩ := hwy8_13
            have ery8_19 : ry8_14 = ry8_16 := ery8_19
            subst ery8_19
            obtain ⟨qy8_20, eqy8_20⟩ : ∃ y : Int32 × Int64, y = fX11_pop v8_0 g8_1 := ⟨_, rfl⟩
            have hG := zbnd hG eqy8_20
            have eoy8_15 : oy8_15 = qy8_20.1 := by rw [eqy8_20]; exact congrArg (fun z : Int32 × Int64 => z.1) hpy8_17
            have hG := zbnd hG eoy8_15
            have ery8_14 : ry8_14 = qy8_20.2 := by rw [eqy8_20]; exact congrArg (fun z : Int32 × Int64 => z.2) hpy8_17
            have hG := zbnd hG ery8_14
            obtain ⟨hP, hD⟩ := z_re (L := [(a_sign, .inl (kA 0, 2400, .inl signF)), (a_word, .inl (kA 2, 11, .inr (.inl wordF))), (n0, .inr (11, .ref a_tape :: .int m_taped :: .int m_laws :: .ref a_sign :: .ref a_length :: .ref a_clause :: .ref a_clauses :: .ref a_chain :: .int m_next :: .int m_wrong :: .int m_number :: .int m_text :: .int m_made :: .int m_deep :: .int m_lines :: .ref a_open :: .int m_opened :: .ref a_stack :: .int oy8_15 :: .ref a_word :: .ref a_said :: .ref a_kept :: [.int m_goNode, .int m_goDrops, .int m_goHour, .int m_goFelt, .int m_goSalt, .int m_goMore, .ref a_stepNode, .ref a_stepDrops, .ref a_stepHour, .ref a_stepNext, .ref a_stepPass, .int m_bestLeft, .int m_bestHour, .int m_bestMany, .ref a_bestPass, .ref a_far, .ref a_waited, .ref a_servers, .ref a_images, .ref a_isMade])), (a_stack, .inl (kA 2, 64, .inr (.inl g8_1)))]) hP hD
            refine lv_lstore (lv' := [(7, .long ry8_14), (6, .int xy8_7), (5, .int xy8_5), (4, .int l8_2), (0, .ref n0), (1, .int p0), (2, .int p1), (3, .int p2)]) hx hb dX11_reckons_108 hl (by decide) rfl (fun ls hl => ?_)
            refine lv_aload_n hx hb dX11_reckons_110 rfl (lv_at hl 4 rfl) ?_
            refine z_l (wr := [(a_sign, .inl (kA 0, 2400, .inl signF)), (a_word, .inl (kA 2, 11, .inr (.inl wordF)))]) (va_runV (As := []) (rest := []) ⟨hx, hb, hml, hown, hts⟩ (mX11_pop l dC dI kA _ n0 m_taped m_laws m_next m_wrong m_number m_text m_made m_deep m_lines m_opened oy8_15 m_goNode m_goDrops m_goHour m_goFelt m_goSalt m_goMore m_bestLeft m_bestHour m_bestMany a_tape a_sign a_length a_clause a_clauses a_chain a_open a_stack a_word a_said a_kept a_stepNode a_stepDrops a_stepHour a_stepNext a_stepPass a_bestPass a_far a_waited a_servers a_images a_isMade g8_1 (gl_mX11_reckons_2 v8_0 oy8_15 hny8_11a hny8_11b hpy8_18) (gl_mX11_reckons_3 v8_0 oy8_15 hny8_11a hny8_11b hpy8_18)) (cwV 0 hts gX11_reckons_X11_pop rfl rfl rfl ⟨rfl, hdX11_pop⟩ ⟨(Nat.le_trans (Nat.le_of_ble_eq_true rfl) hRf), (Nat.le_trans (Nat.le_of_ble_eq_true rfl) hRl)⟩) ⟨zPc.blind, va_recv (q := (RX11, TX11, 42)) hK.1 hP (ci := 11) (q0 := 2) rfl rfl, zPre hK (hP.sub [2, 3] rfl) (hD.sub [2, 3] (by decide) rfl)⟩ rfl rfl hl.1 rfl (lv_room (Nat.le_of_ble_eq_true rfl)) dX11_reckons_111 ⟨hRc, hRs⟩) hP hD hS hA [2, 3] [0, 1] rfl rfl (by decide) (by decide) (fun ry8_23 uy8_21 H locs hwy8_22 hP hD hS => ?_)
            obtain ⟨oy8_24, ry8_25⟩ := uy8_21
            obtain ⟨ery8_28, hpy8_26, hpy8_27⟩ := hwy8_22
            have ery8_28 : ry8_23 = ry8_25 := ery8_28
            subst ery8_28
            obtain ⟨qy8_29, eqy8_29⟩ : ∃ y : Int32 × Int64, y = fX11_pop oy8_15 g8_1 := ⟨_, rfl⟩
            have hG := zbnd hG eqy8_29
            have eoy8_24 : oy8_24 = qy8_29.1 := by rw [eqy8_29]; exact congrArg (fun z : Int32 × Int64 => z.1) hpy8_26
            have hG := zbnd hG eoy8_24
            have ery8_23 : ry8_23 = qy8_29.2 := by rw [eqy8_29]; exact congrArg (fun z : Int32 × Int64 => z.2) hpy8_26
            have hG := zbnd hG ery8_23
            obtain ⟨hP, hD⟩ := z_re (L := [(a_sign, .inl (kA 0, 2400, .inl signF)), (a_word, .inl (kA 2, 11, .inr (.inl wordF))), (n0, .inr (11, .ref a_tape :: .int m_taped :: .int m_laws :: .ref a_sign :: .ref a_length :: .ref a_clause :: .ref a_clauses :: .ref a_chain :: .int m_next :: .int m_wrong :: .int m_number :: .int m_text :: .int m_made :: .int m_deep :: .int m_lines :: .ref a_open :: .int m_opened :: .ref a_stack :: .int oy8_24 :: .ref a_word :: .ref a_said :: .ref a_kept :: [.int m_goNode, .int m_goDrops, .int m_goHour, .int m_goFelt, .int m_goSalt, .int m_goMore, .ref a_stepNode, .ref a_stepDrops, .ref a_stepHour, .ref a_stepNext, .ref a_stepPass, .int m_bestLeft, .int m_bestHour, .int m_bestMany, .ref a_bestPass, .ref a_far, .ref a_waited, .ref a_servers, .ref a_images, .ref a_isMade])), (a_stack, .inl (kA 2, 64, .inr (.inl g8_1)))]) hP hD
            refine lv_lstore (lv' := [(9, .long ry8_23), (7, .long ry8_14), (6, .int xy8_7), (5, .int xy8_5), (4, .int l8_2), (0, .ref n0), (1, .int p0), (2, .int p1), (3, .int p2)]) hx hb dX11_reckons_114 hl (by decide) rfl (fun ls hl => ?_)
            refine lv_aload_n hx hb dX11_reckons_116 rfl (lv_at hl 5 rfl) ?_
            refine lv_iload hx hb dX11_reckons_117 (lv_at hl 3 rfl) ?_
            refine lv_lload hx hb dX11_reckons_119 (lv_at hl 0 rfl) ?_
            refine lv_lload hx hb dX11_reckons_121 (lv_at hl 1 rfl) ?_
            refine z_l (wr := [(a_sign, .inl (kA 0, 2400, .inl signF)), (a_word, .inl (kA 2, 11, .inr (.inl wordF))), (n0, .inr (11, .ref a_tape :: .int m_taped :: .int m_laws :: .ref a_sign :: .ref a_length :: .ref a_clause :: .ref a_clauses :: .ref a_chain :: .int m_next :: .int m_wrong :: .int m_number :: .int m_text :: .int m_made :: .int m_deep :: .int m_lines :: .ref a_open :: .int m_opened :: .ref a_stack :: .int oy8_24 :: .ref a_word :: .ref a_said :: .ref a_kept :: [.int m_goNode, .int m_goDrops, .int m_goHour, .int m_goFelt, .int m_goSalt, .int m_goMore, .ref a_stepNode, .ref a_stepDrops, .ref a_stepHour, .ref a_stepNext, .ref a_stepPass, .int m_bestLeft, .int m_bestHour, .int m_bestMany, .ref a_bestPass, .ref a_far, .ref a_waited, .ref a_servers, .ref a_images, .ref a_isMade])), (a_stack, .inl (kA 2, 64, .inr (.inl g8_1)))]) (va_runS (As := [.int xy8_5, .long ry8_23, .long ry8_14]) (rest := [.ref n0]) ⟨hx, hb, hml, hown, hts⟩ (mX11_one l dC dI kA _ xy8_5 ry8_23 ry8_14) (va_cwS 3 hts gX11_reckons_X11_one rfl rfl rfl hdX11_one ⟨(Nat.le_trans (Nat.le_of_ble_eq_true rfl) hRf), (Nat.le_trans (Nat.le_of_ble_eq_true rfl) hRl)⟩) ⟨zPc.blind, zPre hK (hP.sub [] rfl) (hD.sub [] (by decide) rfl)⟩ rfl rfl hl.1 rfl (lv_room (Nat.le_of_ble_eq_true rfl)) dX11_reckons_123 ⟨hRc, hRs⟩) hP hD hS hA [] [0, 1, 2, 3] rfl rfl (by decide) (by decide) (fun ry8_32 uy8_30 H locs hwy8_31 hP hD hS => ?_)
            obtain ⟨ery8_35, hpy8_34⟩ := hwy8_31
            have ery8_35 : ry8_32 = uy8_30 := ery8_35
            subst ery8_35
            have ery8_32 : ry8_32 = fX11_one xy8_5 ry8_23 ry8_14 := hpy8_34
            have hG := zbnd hG ery8_32
            obtain ⟨hP, hD⟩ := z_re (L := [(a_sign, .inl (kA 0, 2400, .inl signF)), (a_word, .inl (kA 2, 11, .inr (.inl wordF))), (n0, .inr (11, .ref a_tape :: .int m_taped :: .int m_laws :: .ref a_sign :: .ref a_length :: .ref a_clause :: .ref a_clauses :: .ref a_chain :: .int m_next :: .int m_wrong :: .int m_number :: .int m_text :: .int m_made :: .int m_deep :: .int m_lines :: .ref a_open :: .int m_opened :: .ref a_stack :: .int oy8_24 :: .ref a_word :: .ref a_said :: .ref a_kept :: [.int m_goNode, .int m_goDrops, .int m_goHour, .int m_goFelt, .int m_goSalt, .int m_goMore, .ref a_stepNode, .ref a_stepDrops, .ref a_stepHour, .ref a_stepNext, .ref a_stepPass, .int m_bestLeft, .int m_bestHour, .int m_bestMany, .ref a_bestPass, .ref a_far, .ref a_waited, .ref a_servers, .ref a_images, .ref a_isMade])), (a_stack, .inl (kA 2, 64, .inr (.inl g8_1)))]) hP hD
            refine z_v (wr := [(a_sign, .inl (kA 0, 2400, .inl signF)), (a_word, .inl (kA 2, 11, .inr (.inl wordF)))]) (va_runV (As := [.long ry8_32]) (rest := []) ⟨hx, hb, hml, hown, hts⟩ (mX11_push l dC dI kA _ n0 m_taped m_laws m_next m_wrong m_number m_text m_made m_deep m_lines m_opened oy8_24 m_goNode m_goDrops m_goHour m_goFelt m_goSalt m_goMore m_bestLeft m_bestHour m_bestMany a_tape a_sign a_length a_clause a_clauses a_chain a_open a_stack a_word a_said a_kept a_stepNode a_stepDrops a_stepHour a_stepNext a_stepPass a_bestPass a_far a_waited a_servers a_images a_isMade g8_1 ry8_32 (gl_mX11_reckons_4 v8_0 oy8_15 oy8_24 hny8_11a hny8_11b hpy8_18 hpy8_27) (gl_mX11_reckons_5 v8_0 oy8_15 oy8_24 hny8_11a hny8_11b hpy8_18 hpy8_27)) (cwV 1 hts gX11_reckons_X11_push rfl rfl rfl ⟨rfl, hdX11_push⟩ ⟨(Nat.le_trans (Nat.le_of_ble_eq_true rfl) hRf), (Nat.le_trans (Nat.le_of_ble_eq_true rfl) hRl)⟩) ⟨zPc.blind, va_recv (q := (RX11, TX11, 42)) hK.1 hP (ci := 11) (q0 := 2) rfl rfl, zPre hK (hP.sub [2, 3] rfl) (hD.sub [2, 3] (by decide) rfl)⟩ rfl rfl hl.1 rfl (lv_room (Nat.le_of_ble_eq_true rfl)) dX11_reckons_126 ⟨hRc, hRs⟩) hP hD hS hA [2, 3] [0, 1] rfl rfl (by decide) (by decide) (fun uy8_37 H locs hwy8_38 hP hD hS => ?_)
            obtain ⟨oy8_40, oy8_41⟩ := uy8_37
            obtain ⟨hpy8_42, hpy8_43⟩ := hwy8_38
            obtain ⟨qy8_44, eqy8_44⟩ : ∃ y : Int32 × (Nat → Int64), y = fX11_push oy8_24 g8_1 ry8_32 := ⟨_, rfl⟩
            have hG := zbnd hG eqy8_44
            have eoy8_40 : oy8_40 = qy8_44.1 := by rw [eqy8_44]; exact congrArg (fun z : Int32 × (Nat → Int64) => z.1) hpy8_42
            have hG := zbnd hG eoy8_40
            have eoy8_41 : oy8_41 = qy8_44.2 := by rw [eqy8_44]; exact congrArg (fun z : Int32 × (Nat → Int64) => z.2) hpy8_42
            have hG := zbnd hG eoy8_41
            obtain ⟨hP, hD⟩ := z_re (L := [(a_sign, .inl (kA 0, 2400, .inl signF)), (a_word, .inl (kA 2, 11, .inr (.inl wordF))), (n0, .inr (11, .ref a_tape :: .int m_taped :: .int m_laws :: .ref a_sign :: .ref a_length :: .ref a_clause :: .ref a_clauses :: .ref a_chain :: .int m_next :: .int m_wrong :: .int m_number :: .int m_text :: .int m_made :: .int m_deep :: .int m_lines :: .ref a_open :: .int m_opened :: .ref a_stack :: .int oy8_40 :: .ref a_word :: .ref a_said :: .ref a_kept :: [.int m_goNode, .int m_goDrops, .int m_goHour, .int m_goFelt, .int m_goSalt, .int m_goMore, .ref a_stepNode, .ref a_stepDrops, .ref a_stepHour, .ref a_stepNext, .ref a_stepPass, .int m_bestLeft, .int m_bestHour, .int m_bestMany, .ref a_bestPass, .ref a_far, .ref a_waited, .ref a_servers, .ref a_images, .ref a_isMade])), (a_stack, .inl (kA 2, 64, .inr (.inl oy8_41)))]) hP hD
            obtain ⟨xy8_45, exy8_45⟩ : ∃ y : Int32, y = l8_2 + 1 := ⟨_, rfl⟩
            have hG := zbnd hG exy8_45
            refine lv_iinc (v := xy8_45) (lv' := [(4, .int xy8_45), (9, .long ry8_23), (7, .long ry8_14), (6, .int xy8_7), (5, .int xy8_5), (0, .ref n0), (1, .int p0), (2, .int p1), (3, .int p2)]) hx hb dX11_reckons_129 hl (k := 4) rfl (by rw [exy8_45]; rfl) (by decide) rfl (fun ls hl => ?_)
            refine lv_goto (tgt := 8) hx hb dX11_reckons_132 (by decide) ?_
            exact ih oy8_40 oy8_41 xy8_45 H locs ls (z_up hn exy8_45 c_y8_3) hG (z_nn exy8_45 c_y8_3 hi8) (hny8_11.2 _ _ _ _ exy8_45 hpy8_18 hpy8_27 hpy8_43) (hP.sub [2, 0, 3, 1] rfl) (hD.sub [2, 0, 3, 1] (by decide) rfl) hS (lv_sub hl [0, 5, 6, 7, 8] rfl)
          · have hG := zthen hG c_y8_10
            have hny8_46 := R_not hri c_y8_3 exy8_4 exy8_5 c_y8_10
            have hny8_46a : ¬ v8_0 < 1 := hny8_46.1.1
            have hny8_46b : ¬ 60 < v8_0 := hny8_46.1.2
            refine lv_aload_n hx hb dX11_reckons_91 rfl (lv_at hl 3 rfl) ?_
            refine lv_lconst (v := 1) hx hb dX11_reckons_92 (by decide) ?_
            refine lv_aload_n hx hb dX11_reckons_93 rfl (lv_at hl 3 rfl) ?_
            refine z_l (wr := [(a_sign, .inl (kA 0, 2400, .inl signF)), (a_word, .inl (kA 2, 11, .inr (.inl wordF)))]) (va_runV (As := []) (rest := [.long 1, .ref n0]) ⟨hx, hb, hml, hown, hts⟩ (mX11_pop l dC dI kA _ n0 m_taped m_laws m_next m_wrong m_number m_text m_made m_deep m_lines m_opened v8_0 m_goNode m_goDrops m_goHour m_goFelt m_goSalt m_goMore m_bestLeft m_bestHour m_bestMany a_tape a_sign a_length a_clause a_clauses a_chain a_open a_stack a_word a_said a_kept a_stepNode a_stepDrops a_stepHour a_stepNext a_stepPass a_bestPass a_far a_waited a_servers a_images a_isMade g8_1 hny8_46a hny8_46b) (cwV 0 hts gX11_reckons_X11_pop rfl rfl rfl ⟨rfl, hdX11_pop⟩ ⟨(Nat.le_trans (Nat.le_of_ble_eq_true rfl) hRf), (Nat.le_trans (Nat.le_of_ble_eq_true rfl) hRl)⟩) ⟨zPc.blind, va_recv (q := (RX11, TX11, 42)) hK.1 hP (ci := 11) (q0 := 0) rfl rfl, zPre hK (hP.sub [0, 2] rfl) (hD.sub [0, 2] (by decide) rfl)⟩ rfl rfl hl.1 rfl (lv_room (Nat.le_of_ble_eq_true rfl)) dX11_reckons_94 ⟨hRc, hRs⟩) hP hD hS hA [0, 2] [1, 3] rfl rfl (by decide) (by decide) (fun ry8_49 uy8_47 H locs hwy8_48 hP hD hS => ?_)
            obtain ⟨oy8_50, ry8_51⟩ := uy8_47
            obtain ⟨ery8_54, hpy8_52, hpy8_53⟩ := hwy8_48
            have ery8_54 : ry8_49 = ry8_51 := ery8_54
            subst ery8_54
            obtain ⟨qy8_55, eqy8_55⟩ : ∃ y : Int32 × Int64, y = fX11_pop v8_0 g8_1 := ⟨_, rfl⟩
            have hG := zbnd hG eqy8_55
            have eoy8_50 : oy8_50 = qy8_55.1 := by rw [eqy8_55]; exact congrArg (fun z : Int32 × Int64 => z.1) hpy8_52
            have hG := zbnd hG eoy8_50
            have ery8_49 : ry8_49 = qy8_55.2 := by rw [eqy8_55]; exact congrArg (fun z : Int32 × Int64 => z.2) hpy8_52
            have hG := zbnd hG ery8_49
            obtain ⟨hP, hD⟩ := z_re (L := [(a_sign, .inl (kA 0, 2400, .inl signF)), (a_word, .inl (kA 2, 11, .inr (.inl wordF))), (n0, .inr (11, .ref a_tape :: .int m_taped :: .int m_laws :: .ref a_sign :: .ref a_length :: .ref a_clause :: .ref a_clauses :: .ref a_chain :: .int m_next :: .int m_wrong :: .int m_number :: .int m_text :: .int m_made :: .int m_deep :: .int m_lines :: .ref a_open :: .int m_opened :: .ref a_stack :: .int oy8_50 :: .ref a_word :: .ref a_said :: .ref a_kept :: [.int m_goNode, .int m_goDrops, .int m_goHour, .int m_goFelt, .int m_goSalt, .int m_goMore, .ref a_stepNode, .ref a_stepDrops, .ref a_stepHour, .ref a_stepNext, .ref a_stepPass, .int m_bestLeft, .int m_bestHour, .int m_bestMany, .ref a_bestPass, .ref a_far, .ref a_waited, .ref a_servers, .ref a_images, .ref a_isMade])), (a_stack, .inl (kA 2, 64, .inr (.inl g8_1)))]) hP hD
            refine lv_lsub hx hb dX11_reckons_97 ?_
            refine lv_topl (fun xy8_56 exy8_56 => ?_)
            have hG := zbnd hG exy8_56
            refine z_v (wr := [(a_sign, .inl (kA 0, 2400, .inl signF)), (a_word, .inl (kA 2, 11, .inr (.inl wordF)))]) (va_runV (As := [.long xy8_56]) (rest := []) ⟨hx, hb, hml, hown, hts⟩ (mX11_push l dC dI kA _ n0 m_taped m_laws m_next m_wrong m_number m_text m_made m_deep m_lines m_opened oy8_50 m_goNode m_goDrops m_goHour m_goFelt m_goSalt m_goMore m_bestLeft m_bestHour m_bestMany a_tape a_sign a_length a_clause a_clauses a_chain a_open a_stack a_word a_said a_kept a_stepNode a_stepDrops a_stepHour a_stepNext a_stepPass a_bestPass a_far a_waited a_servers a_images a_isMade g8_1 xy8_56 (gl_mX11_reckons_6 v8_0 oy8_50 hny8_46a hny8_46b hpy8_53) (gl_mX11_reckons_7 v8_0 oy8_50 hny8_46a hny8_46b hpy8_53)) (cwV 1 hts gX11_reckons_X11_push rfl rfl rfl ⟨rfl, hdX11_push⟩ ⟨(Nat.le_trans (Nat.le_of_ble_eq_true rfl) hRf), (Nat.le_trans (Nat.le_of_ble_eq_true rfl) hRl)⟩) ⟨zPc.blind, va_recv (q := (RX11, TX11, 42)) hK.1 hP (ci := 11) (q0 := 2) rfl rfl, zPre hK (hP.sub [2, 3] rfl) (hD.sub [2, 3] (by decide) rfl)⟩ rfl rfl hl.1 rfl (lv_room (Nat.le_of_ble_eq_true rfl)) dX11_reckons_98 ⟨hRc, hRs⟩) hP hD hS hA [2, 3] [0, 1] rfl rfl (by decide) (by decide) (fun uy8_57 H locs hwy8_58 hP hD hS => ?_)
            obtain ⟨oy8_60, oy8_61⟩ := uy8_57
            obtain ⟨hpy8_62, hpy8_63⟩ := hwy8_58
            obtain ⟨qy8_64, eqy8_64⟩ : ∃ y : Int32 × (Nat → Int64), y = fX11_push oy8_50 g8_1 xy8_56 := ⟨_, rfl⟩
            have hG := zbnd hG eqy8_64
            have eoy8_60 : oy8_60 = qy8_64.1 := by rw [eqy8_64]; exact congrArg (fun z : Int32 × (Nat → Int64) => z.1) hpy8_62
            have hG := zbnd hG eoy8_60
            have eoy8_61 : oy8_61 = qy8_64.2 := by rw [eqy8_64]; exact congrArg (fun z : Int32 × (Nat → Int64) => z.2) hpy8_62
            have hG := zbnd hG eoy8_61
            obtain ⟨hP, hD⟩ := z_re (L := [(a_sign, .inl (kA 0, 2400, .inl signF)), (a_word, .inl (kA 2, 11, .inr (.inl wordF))), (n0, .inr (11, .ref a_tape :: .int m_taped :: .int m_laws :: .ref a_sign :: .ref a_length :: .ref a_clause :: .ref a_clauses :: .ref a_chain :: .int m_next :: .int m_wrong :: .int m_number :: .int m_text :: .int m_made :: .int m_deep :: .int m_lines :: .ref a_open :: .int m_opened :: .ref a_stack :: .int oy8_60 :: .ref a_word :: .ref a_said :: .ref a_kept :: [.int m_goNode, .int m_goDrops, .int m_goHour, .int m_goFelt, .int m_goSalt, .int m_goMore, .ref a_stepNode, .ref a_stepDrops, .ref a_stepHour, .ref a_stepNext, .ref a_stepPass, .int m_bestLeft, .int m_bestHour, .int m_bestMany, .ref a_bestPass, .ref a_far, .ref a_waited, .ref a_servers, .ref a_images, .ref a_isMade])), (a_stack, .inl (kA 2, 64, .inr (.inl oy8_61)))]) hP hD
            refine lv_goto (tgt := 129) hx hb dX11_reckons_101 (by decide) ?_
            obtain ⟨xy8_65, exy8_65⟩ : ∃ y : Int32, y = l8_2 + 1 := ⟨_, rfl⟩
            have hG := zbnd hG exy8_65
            refine lv_iinc (v := xy8_65) (lv' := [(4, .int xy8_65), (6, .int xy8_7), (5, .int xy8_5), (0, .ref n0), (1, .int p0), (2, .int p1), (3, .int p2)]) hx hb dX11_reckons_129 hl (k := 2) rfl (by rw [exy8_65]; rfl) (by decide) rfl (fun ls hl => ?_)
            refine lv_goto (tgt := 8) hx hb dX11_reckons_132 (by decide) ?_
            exact ih oy8_60 oy8_61 xy8_65 H locs ls (z_up hn exy8_65 c_y8_3) hG (z_nn exy8_65 c_y8_3 hi8) (hny8_46.2 _ _ _ exy8_65 hpy8_53 hpy8_63) (hP.sub [2, 0, 3, 1] rfl) (hD.sub [2, 0, 3, 1] (by decide) rfl) hS (lv_sub hl [0, 3, 4, 5, 6] rfl)
        · have hG := zthen hG c_y8_9
          have hny8_66 := R_word hri c_y8_3 exy8_4 exy8_6 exy8_7 exy8_5 c_y8_8 c_y8_9
          have hny8_66a : ¬ v8_0 < 0 := hny8_66.1.1
          have hny8_66b : ¬ 60 < v8_0 := hny8_66.1.2
          have hny8_66c : ¬ xy8_7 < 0 := hny8_66.2.1.1
          have hny8_66d : ¬ 11 ≤ xy8_7 := hny8_66.2.1.2
          refine lv_aload_n hx hb dX11_reckons_70 rfl (lv_at hl 3 rfl) ?_
          refine lv_aload_n hx hb dX11_reckons_71 rfl (lv_at hl 3 rfl) ?_
          refine va_get (D := (dC, dI)) (ci := 11) (v := .ref a_word) (C := RX11) (T := TX11) (N := 42) hx hb hts iX11_reckons_X11 hown hK.1 hP 0 gz0 vcz11 19 (by decide) (kX11_reckons_3 hts) (fun _ h9 => h9) gz19 dX11_reckons_72 ?_
          refine lv_iload hx hb dX11_reckons_75 (lv_at hl 0 rfl) ?_
          refine va_lald hx hb hK.1 hP 3 2 gz3 tzz2 (vp_lt (by decide) hny8_66c hny8_66d) dX11_reckons_77 ?_
          refine lv_topl (fun xy8_67 exy8_67 => ?_)
          have hG := zbnd hG exy8_67
          refine z_v (wr := [(a_sign, .inl (kA 0, 2400, .inl signF)), (a_word, .inl (kA 2, 11, .inr (.inl wordF)))]) (va_runV (As := [.long xy8_67]) (rest := []) ⟨hx, hb, hml, hown, hts⟩ (mX11_push l dC dI kA _ n0 m_taped m_laws m_next m_wrong m_number m_text m_made m_deep m_lines m_opened v8_0 m_goNode m_goDrops m_goHour m_goFelt m_goSalt m_goMore m_bestLeft m_bestHour m_bestMany a_tape a_sign a_length a_clause a_clauses a_chain a_open a_stack a_word a_said a_kept a_stepNode a_stepDrops a_stepHour a_stepNext a_stepPass a_bestPass a_far a_waited a_servers a_images a_isMade g8_1 xy8_67 hny8_66a hny8_66b) (cwV 1 hts gX11_reckons_X11_push rfl rfl rfl ⟨rfl, hdX11_push⟩ ⟨(Nat.le_trans (Nat.le_of_ble_eq_true rfl) hRf), (Nat.le_trans (Nat.le_of_ble_eq_true rfl) hRl)⟩) ⟨zPc.blind, va_recv (q := (RX11, TX11, 42)) hK.1 hP (ci := 11) (q0 := 0) rfl rfl, zPre hK (hP.sub [0, 2] rfl) (hD.sub [0, 2] (by decide) rfl)⟩ rfl rfl hl.1 rfl (lv_room (Nat.le_of_ble_eq_true rfl)) dX11_reckons_78 ⟨hRc, hRs⟩) hP hD hS hA [0, 2] [1, 3] rfl rfl (by decide) (by decide) (fun uy8_68 H locs hwy8_69 hP hD hS => ?_)
          obtain ⟨oy8_71, oy8_72⟩ := uy8_68
          obtain ⟨hpy8_73, hpy8_74⟩ := hwy8_69
          obtain ⟨qy8_75, eqy8_75⟩ : ∃ y : Int32 × (Nat → Int64), y = fX11_push v8_0 g8_1 xy8_67 := ⟨_, rfl⟩
          have hG := zbnd hG eqy8_75
          have eoy8_71 : oy8_71 = qy8_75.1 := by rw [eqy8_75]; exact congrArg (fun z : Int32 × (Nat → Int64) => z.1) hpy8_73
          have hG := zbnd hG eoy8_71
          have eoy8_72 : oy8_72 = qy8_75.2 := by rw [eqy8_75]; exact congrArg (fun z : Int32 × (Nat → Int64) => z.2) hpy8_73
          have hG := zbnd hG eoy8_72
          obtain ⟨hP, hD⟩ := z_re (L := [(a_sign, .inl (kA 0, 2400, .inl signF)), (a_word, .inl (kA 2, 11, .inr (.inl wordF))), (n0, .inr (11, .ref a_tape :: .int m_taped :: .int m_laws :: .ref a_sign :: .ref a_length :: .ref a_clause :: .ref a_clauses :: .ref a_chain :: .int m_next :: .int m_wrong :: .int m_number :: .int m_text :: .int m_made :: .int m_deep :: .int m_lines :: .ref a_open :: .int m_opened :: .ref a_stack :: .int oy8_71 :: .ref a_word :: .ref a_said :: .ref a_kept :: [.int m_goNode, .int m_goDrops, .int m_goHour, .int m_goFelt, .int m_goSalt, .int m_goMore, .ref a_stepNode, .ref a_stepDrops, .ref a_stepHour, .ref a_stepNext, .ref a_stepPass, .int m_bestLeft, .int m_bestHour, .int m_bestMany, .ref a_bestPass, .ref a_far, .ref a_waited, .ref a_servers, .ref a_images, .ref a_isMade])), (a_stack, .inl (kA 2, 64, .inr (.inl oy8_72)))]) hP hD
          refine lv_goto (tgt := 129) hx hb dX11_reckons_81 (by decide) ?_
          obtain ⟨xy8_76, exy8_76⟩ : ∃ y : Int32, y = l8_2 + 1 := ⟨_, rfl⟩
          have hG := zbnd hG exy8_76
          refine lv_iinc (v := xy8_76) (lv' := [(4, .int xy8_76), (6, .int xy8_7), (5, .int xy8_5), (0, .ref n0), (1, .int p0), (2, .int p1), (3, .int p2)]) hx hb dX11_reckons_129 hl (k := 2) rfl (by rw [exy8_76]; rfl) (by decide) rfl (fun ls hl => ?_)
          refine lv_goto (tgt := 8) hx hb dX11_reckons_132 (by decide) ?_
          exact ih oy8_71 oy8_72 xy8_76 H locs ls (z_up hn exy8_76 c_y8_3) hG (z_nn exy8_76 c_y8_3 hi8) (hny8_66.2.2 _ _ exy8_76 hpy8_74) (hP.sub [2, 0, 3, 1] rfl) (hD.sub [2, 0, 3, 1] (by decide) rfl) hS (lv_sub hl [0, 3, 4, 5, 6] rfl)
      · have hG := zthen hG c_y8_8
        have hny8_77 := R_num hri c_y8_3 exy8_4 exy8_5 c_y8_8
        have hny8_77a : ¬ v8_0 < 0 := hny8_77.1.1
        have hny8_77b : ¬ 60 < v8_0 := hny8_77.1.2
        refine lv_aload_n hx hb dX11_reckons_54 rfl (lv_at hl 3 rfl) ?_
        refine lv_iload hx hb dX11_reckons_55 (lv_at hl 0 rfl) ?_
        refine lv_i2l hx hb dX11_reckons_57 rfl ?_
        refine z_v (wr := [(a_sign, .inl (kA 0, 2400, .inl signF)), (a_word, .inl (kA 2, 11, .inr (.inl wordF)))]) (va_runV (As := [.long xy8_7.toInt64]) (rest := []) ⟨hx, hb, hml, hown, hts⟩ (mX11_push l dC dI kA _ n0 m_taped m_laws m_next m_wrong m_number m_text m_made m_deep m_lines m_opened v8_0 m_goNode m_goDrops m_goHour m_goFelt m_goSalt m_goMore m_bestLeft m_bestHour m_bestMany a_tape a_sign a_length a_clause a_clauses a_chain a_open a_stack a_word a_said a_kept a_stepNode a_stepDrops a_stepHour a_stepNext a_stepPass a_bestPass a_far a_waited a_servers a_images a_isMade g8_1 xy8_7.toInt64 hny8_77a hny8_77b) (cwV 1 hts gX11_reckons_X11_push rfl rfl rfl ⟨rfl, hdX11_push⟩ ⟨(Nat.le_trans (Nat.le_of_ble_eq_true rfl) hRf), (Nat.le_trans (Nat.le_of_ble_eq_true rfl) hRl)⟩) ⟨zPc.blind, va_recv (q := (RX11, TX11, 42)) hK.1 hP (ci := 11) (q0 := 0) rfl rfl, zPre hK (hP.sub [0, 2] rfl) (hD.sub [0, 2] (by decide) rfl)⟩ rfl rfl hl.1 rfl (lv_room (Nat.le_of_ble_eq_true rfl)) dX11_reckons_58 ⟨hRc, hRs⟩) hP hD hS hA [0, 2] [1, 3] rfl rfl (by decide) (by decide) (fun uy8_78 H locs hwy8_79 hP hD hS => ?_)
        obtain ⟨oy8_81, oy8_82⟩ := uy8_78
        obtain ⟨hpy8_83, hpy8_84⟩ := hwy8_79
        obtain ⟨qy8_85, eqy8_85⟩ : ∃ y : Int32 × (Nat → Int64), y = fX11_push v8_0 g8_1 xy8_7.toInt64 := ⟨_, rfl⟩
        have hG := zbnd hG eqy8_85
        have eoy8_81 : oy8_81 = qy8_85.1 := by rw [eqy8_85]; exact congrArg (fun z : Int32 × (Nat → Int64) => z.1) hpy8_83
        have hG := zbnd hG eoy8_81
        have eoy8_82 : oy8_82 = qy8_85.2 := by rw [eqy8_85]; exact congrArg (fun z : Int32 × (Nat → Int64) => z.2) hpy8_83
        have hG := zbnd hG eoy8_82
        obtain ⟨hP, hD⟩ := z_re (L := [(a_sign, .inl (kA 0, 2400, .inl signF)), (a_word, .inl (kA 2, 11, .inr (.inl wordF))), (n0, .inr (11, .ref a_tape :: .int m_taped :: .int m_laws :: .ref a_sign :: .ref a_length :: .ref a_clause :: .ref a_clauses :: .ref a_chain :: .int m_next :: .int m_wrong :: .int m_number :: .int m_text :: .int m_made :: .int m_deep :: .int m_lines :: .ref a_open :: .int m_opened :: .ref a_stack :: .int oy8_81 :: .ref a_word :: .ref a_said :: .ref a_kept :: [.int m_goNode, .int m_goDrops, .int m_goHour, .int m_goFelt, .int m_goSalt, .int m_goMore, .ref a_stepNode, .ref a_stepDrops, .ref a_stepHour, .ref a_stepNext, .ref a_stepPass, .int m_bestLeft, .int m_bestHour, .int m_bestMany, .ref a_bestPass, .ref a_far, .ref a_waited, .ref a_servers, .ref a_images, .ref a_isMade])), (a_stack, .inl (kA 2, 64, .inr (.inl oy8_82)))]) hP hD
        refine lv_goto (tgt := 129) hx hb dX11_reckons_61 (by decide) ?_
        obtain ⟨xy8_86, exy8_86⟩ : ∃ y : Int32, y = l8_2 + 1 := ⟨_, rfl⟩
        have hG := zbnd hG exy8_86
        refine lv_iinc (v := xy8_86) (lv' := [(4, .int xy8_86), (6, .int xy8_7), (5, .int xy8_5), (0, .ref n0), (1, .int p0), (2, .int p1), (3, .int p2)]) hx hb dX11_reckons_129 hl (k := 2) rfl (by rw [exy8_86]; rfl) (by decide) rfl (fun ls hl => ?_)
        refine lv_goto (tgt := 8) hx hb dX11_reckons_132 (by decide) ?_
        exact ih oy8_81 oy8_82 xy8_86 H locs ls (z_up hn exy8_86 c_y8_3) hG (z_nn exy8_86 c_y8_3 hi8) (hny8_77.2 _ _ exy8_86 hpy8_84) (hP.sub [2, 0, 3, 1] rfl) (hD.sub [2, 0, 3, 1] (by decide) rfl) hS (lv_sub hl [0, 3, 4, 5, 6] rfl)
set_option maxRecDepth 100000 in
def fX11_reckons (signF : Nat → Int32) (stackF : Nat → Int64) (wordF : Nat → Int64) (p0 : Int32) (p1 : Int32) (p2 : Int32) : Int32 × (Nat → Int64) × Int64 := fl_mX11_reckons_8 signF wordF p0 p2 (fun (w135_0_0 : Int32) (w135_1_0 : Nat → Int64) (w135_2_0 : Int32) => bnd (fX11_pop w135_0_0 w135_1_0) (fun (q16 : Int32 × Int64) => bnd (q16.1) (fun (o11 : Int32) => bnd (q16.2) (fun (r10 : Int64) => (o11, w135_1_0, r10))))) (((p2 : Int32).toInt - p1.toInt).toNat + 1) 0 stackF p1
set_option maxHeartbeats 4000000 in
set_option maxRecDepth 100000 in
theorem mX11_reckons (l : Launch) (dC : Nat → ClassId) (dI : Nat → Nat → Nat) (kA : Nat → ClassId) (sz : Nat) (n0 : Nat) (m_taped : Int32) (m_laws : Int32) (m_next : Int32) (m_wrong : Int32) (m_number : Int32) (m_text : Int32) (m_made : Int32) (m_deep : Int32) (m_lines : Int32) (m_opened : Int32) (m_top : Int32) (m_goNode : Int32) (m_goDrops : Int32) (m_goHour : Int32) (m_goFelt : Int32) (m_goSalt : Int32) (m_goMore : Int32) (m_bestLeft : Int32) (m_bestHour : Int32) (m_bestMany : Int32) (a_tape : Nat) (a_sign : Nat) (a_length : Nat) (a_clause : Nat) (a_clauses : Nat) (a_chain : Nat) (a_open : Nat) (a_stack : Nat) (a_word : Nat) (a_said : Nat) (a_kept : Nat) (a_stepNode : Nat) (a_stepDrops : Nat) (a_stepHour : Nat) (a_stepNext : Nat) (a_stepPass : Nat) (a_bestPass : Nat) (a_far : Nat) (a_waited : Nat) (a_servers : Nat) (a_images : Nat) (a_isMade : Nat) (signF : Nat → Int32) (stackF : Nat → Int64) (wordF : Nat → Int64) (p0 : Int32) (p1 : Int32) (p2 : Int32) (hco : CodeOK signF p0 p1 p2) : Met l yX11_reckons wsX11_reckons ({ frames := 1, cells := 0, slots := 0, locals := 24 }) (zPc dC dI kA sz [.ref n0, .int p0, .int p1, .int p2] [(n0, .inr (11, .ref a_tape :: .int m_taped :: .int m_laws :: .ref a_sign :: .ref a_length :: .ref a_clause :: .ref a_clauses :: .ref a_chain :: .int m_next :: .int m_wrong :: .int m_number :: .int m_text :: .int m_made :: .int m_deep :: .int m_lines :: .ref a_open :: .int m_opened :: .ref a_stack :: .int m_top :: .ref a_word :: .ref a_said :: .ref a_kept :: [.int m_goNode, .int m_goDrops, .int m_goHour, .int m_goFelt, .int m_goSalt, .int m_goMore, .ref a_stepNode, .ref a_stepDrops, .ref a_stepHour, .ref a_stepNext, .ref a_stepPass, .int m_bestLeft, .int m_bestHour, .int m_bestMany, .ref a_bestPass, .ref a_far, .ref a_waited, .ref a_servers, .ref a_images, .ref a_isMade])), (a_sign, .inl (kA 0, 2400, .inl signF)), (a_stack, .inl (kA 2, 64, .inr (.inl stackF))), (a_word, .inl (kA 2, 11, .inr (.inl wordF)))]) (va_Ql (fun (r : Int64) (u : Int32 × (Nat → Int64) × Int64) => r = u.2.2 ∧ (u.1, u.2.1, u.2.2) = fX11_reckons signF stackF wordF p0 p1 p2) (zB dC dI (va_A [(n0, .inr (11, .ref a_tape :: .int m_taped :: .int m_laws :: .ref a_sign :: .ref a_length :: .ref a_clause :: .ref a_clauses :: .ref a_chain :: .int m_next :: .int m_wrong :: .int m_number :: .int m_text :: .int m_made :: .int m_deep :: .int m_lines :: .ref a_open :: .int m_opened :: .ref a_stack :: .int m_top :: .ref a_word :: .ref a_said :: .ref a_kept :: [.int m_goNode, .int m_goDrops, .int m_goHour, .int m_goFelt, .int m_goSalt, .int m_goMore, .ref a_stepNode, .ref a_stepDrops, .ref a_stepHour, .ref a_stepNext, .ref a_stepPass, .int m_bestLeft, .int m_bestHour, .int m_bestMany, .ref a_bestPass, .ref a_far, .ref a_waited, .ref a_servers, .ref a_images, .ref a_isMade])), (a_sign, .inl (kA 0, 2400, .inl signF)), (a_stack, .inl (kA 2, 64, .inr (.inl stackF))), (a_word, .inl (kA 2, 11, .inr (.inl wordF)))] sz) (fun (u : Int32 × (Nat → Int64) × Int64) => [(n0, .inr (11, .ref a_tape :: .int m_taped :: .int m_laws :: .ref a_sign :: .ref a_length :: .ref a_clause :: .ref a_clauses :: .ref a_chain :: .int m_next :: .int m_wrong :: .int m_number :: .int m_text :: .int m_made :: .int m_deep :: .int m_lines :: .ref a_open :: .int m_opened :: .ref a_stack :: .int u.1 :: .ref a_word :: .ref a_said :: .ref a_kept :: [.int m_goNode, .int m_goDrops, .int m_goHour, .int m_goFelt, .int m_goSalt, .int m_goMore, .ref a_stepNode, .ref a_stepDrops, .ref a_stepHour, .ref a_stepNext, .ref a_stepPass, .int m_bestLeft, .int m_bestHour, .int m_bestMany, .ref a_bestPass, .ref a_far, .ref a_waited, .ref a_servers, .ref a_images, .ref a_isMade])), (a_sign, .inl (kA 0, 2400, .inl signF)), (a_stack, .inl (kA 2, 64, .inr (.inl u.2.1))), (a_word, .inl (kA 2, 11, .inr (.inl wordF)))])) (va_A [(n0, .inr (11, .ref a_tape :: .int m_taped :: .int m_laws :: .ref a_sign :: .ref a_length :: .ref a_clause :: .ref a_clauses :: .ref a_chain :: .int m_next :: .int m_wrong :: .int m_number :: .int m_text :: .int m_made :: .int m_deep :: .int m_lines :: .ref a_open :: .int m_opened :: .ref a_stack :: .int m_top :: .ref a_word :: .ref a_said :: .ref a_kept :: [.int m_goNode, .int m_goDrops, .int m_goHour, .int m_goFelt, .int m_goSalt, .int m_goMore, .ref a_stepNode, .ref a_stepDrops, .ref a_stepHour, .ref a_stepNext, .ref a_stepPass, .int m_bestLeft, .int m_bestHour, .int m_bestMany, .ref a_bestPass, .ref a_far, .ref a_waited, .ref a_servers, .ref a_images, .ref a_isMade])), (a_sign, .inl (kA 0, 2400, .inl signF)), (a_stack, .inl (kA 2, 64, .inr (.inl stackF))), (a_word, .inl (kA 2, 11, .inr (.inl wordF)))] sz)) 0 0 (va_A [(n0, .inr (11, .ref a_tape :: .int m_taped :: .int m_laws :: .ref a_sign :: .ref a_length :: .ref a_clause :: .ref a_clauses :: .ref a_chain :: .int m_next :: .int m_wrong :: .int m_number :: .int m_text :: .int m_made :: .int m_deep :: .int m_lines :: .ref a_open :: .int m_opened :: .ref a_stack :: .int m_top :: .ref a_word :: .ref a_said :: .ref a_kept :: [.int m_goNode, .int m_goDrops, .int m_goHour, .int m_goFelt, .int m_goSalt, .int m_goMore, .ref a_stepNode, .ref a_stepDrops, .ref a_stepHour, .ref a_stepNext, .ref a_stepPass, .int m_bestLeft, .int m_bestHour, .int m_bestMany, .ref a_bestPass, .ref a_far, .ref a_waited, .ref a_servers, .ref a_images, .ref a_isMade])), (a_sign, .inl (kA 0, 2400, .inl signF)), (a_stack, .inl (kA 2, 64, .inr (.inl stackF))), (a_word, .inl (kA 2, 11, .inr (.inl wordF)))] sz) := by
  refine Met.ofW (cc := cX11_reckons) (maxL := 11) (ret := (some .long)) pnX11 rfl ?_
  intro p e s m args below meth c s₁ B hml hv
  obtain ⟨rfl, hsz, hP, hK, hD0⟩ := hv
  have hx := B.exec
  have hb := B.bytes
  have hr := B.returns
  have hts := atoms_spec (ws := wsX11_reckons) B.pre
  have hown : s.vm.findClass RX11 = some m.cls := findClass_of_methodNamed B.named
  have hlocks := B.notSynchronized
  subst hsz
  have hD := hD0.self (sz := s.heap.size)
  generalize hAe : va_A [(n0, .inr (11, .ref a_tape :: .int m_taped :: .int m_laws :: .ref a_sign :: .ref a_length :: .ref a_clause :: .ref a_clauses :: .ref a_chain :: .int m_next :: .int m_wrong :: .int m_number :: .int m_text :: .int m_made :: .int m_deep :: .int m_lines :: .ref a_open :: .int m_opened :: .ref a_stack :: .int m_top :: .ref a_word :: .ref a_said :: .ref a_kept :: [.int m_goNode, .int m_goDrops, .int m_goHour, .int m_goFelt, .int m_goSalt, .int m_goMore, .ref a_stepNode, .ref a_stepDrops, .ref a_stepHour, .ref a_stepNext, .ref a_stepPass, .int m_bestLeft, .int m_bestHour, .int m_bestMany, .ref a_bestPass, .ref a_far, .ref a_waited, .ref a_servers, .ref a_images, .ref a_isMade])), (a_sign, .inl (kA 0, 2400, .inl signF)), (a_stack, .inl (kA 2, 64, .inr (.inl stackF))), (a_word, .inl (kA 2, 11, .inr (.inl wordF)))] s.heap.size = A at hD ⊢
  have hA : ∀ q : Nat, s.heap.size ≤ q → A q := zA_of hAe
  have hS : va_S A s.heap s.heap [] := va_S.rf
  have hP : va_P (dC, dI) vwCl [(n0, .inr (11, .ref a_tape :: .int m_taped :: .int m_laws :: .ref a_sign :: .ref a_length :: .ref a_clause :: .ref a_clauses :: .ref a_chain :: .int m_next :: .int m_wrong :: .int m_number :: .int m_text :: .int m_made :: .int m_deep :: .int m_lines :: .ref a_open :: .int m_opened :: .ref a_stack :: .int m_top :: .ref a_word :: .ref a_said :: .ref a_kept :: [.int m_goNode, .int m_goDrops, .int m_goHour, .int m_goFelt, .int m_goSalt, .int m_goMore, .ref a_stepNode, .ref a_stepDrops, .ref a_stepHour, .ref a_stepNext, .ref a_stepPass, .int m_bestLeft, .int m_bestHour, .int m_bestMany, .ref a_bestPass, .ref a_far, .ref a_waited, .ref a_servers, .ref a_images, .ref a_isMade])), (a_sign, .inl (kA 0, 2400, .inl signF)), (a_stack, .inl (kA 2, 64, .inr (.inl stackF))), (a_word, .inl (kA 2, 11, .inr (.inl wordF)))] s.heap := hP
  have hl := lv_entry ([.ref n0, .int p0, .int p1, .int p2]) (n := 11) (Nat.le_of_ble_eq_true rfl)
  rw [lg_entry_eq]
  generalize (lg_sl ([.ref n0, .int p0, .int p1, .int p2]) ++ List.replicate (11 - (lg_sl ([.ref n0, .int p0, .int p1, .int p2])).length) Slot.unset).toArray = ls at hl ⊢
  have hl : lv_has ls 11 [(0, .ref n0), (1, .int p0), (2, .int p1), (3, .int p2)] := hl
  obtain ⟨H, hHe⟩ : ∃ H : Heap, H = s.heap := ⟨_, rfl⟩
  obtain ⟨G, hG0⟩ : ∃ G : Int32 × (Nat → Int64) × Int64, fX11_reckons signF stackF wordF p0 p1 p2 = G := ⟨_, rfl⟩
  have hG := hG0
  unfold fX11_reckons at hG
  have hz1 : ¬ p0 < 0 := hco.1.1
  have hz2 : ¬ 6 ≤ p0 := hco.1.2
  have hz3 : ¬ p1 < 0 := hco.2.1.1
  have hz4 : ¬ p2 < p1 := hco.2.1.2.1
  have hz5 : ¬ 400 < p2 := hco.2.1.2.2
  refine lv_aload_n hx hb dX11_reckons_0 rfl (lv_at hl 0 rfl) ?_
  refine lv_iconst (v := 0) hx hb dX11_reckons_1 (by decide) ?_
  refine va_put (D := (dC, dI)) (ci := 11) (v := .int 0) (ty := .int) (C := RX11) (T := TX11) (N := 42) hx hb hts iX11_reckons_X11 tyX11 tyX11_ok nmX11 hown hK.1 hP hD hS 0 gz0 vcz11 18 (by decide) (kX11_reckons_1 hts) (fun _ h9 => h9) rfl pfdI rfl rfl (Nat.le_of_ble_eq_true rfl) dX11_reckons_2 (fun H locs hP hD hS => ?_)
  obtain ⟨hP, hD⟩ := z_re (L := [(n0, .inr (11, .ref a_tape :: .int m_taped :: .int m_laws :: .ref a_sign :: .ref a_length :: .ref a_clause :: .ref a_clauses :: .ref a_chain :: .int m_next :: .int m_wrong :: .int m_number :: .int m_text :: .int m_made :: .int m_deep :: .int m_lines :: .ref a_open :: .int m_opened :: .ref a_stack :: .int 0 :: .ref a_word :: .ref a_said :: .ref a_kept :: [.int m_goNode, .int m_goDrops, .int m_goHour, .int m_goFelt, .int m_goSalt, .int m_goMore, .ref a_stepNode, .ref a_stepDrops, .ref a_stepHour, .ref a_stepNext, .ref a_stepPass, .int m_bestLeft, .int m_bestHour, .int m_bestMany, .ref a_bestPass, .ref a_far, .ref a_waited, .ref a_servers, .ref a_images, .ref a_isMade])), (a_sign, .inl (kA 0, 2400, .inl signF)), (a_stack, .inl (kA 2, 64, .inr (.inl stackF))), (a_word, .inl (kA 2, 11, .inr (.inl wordF)))]) hP hD
  refine lv_iload_n hx hb dX11_reckons_5 rfl (lv_at hl 2 rfl) ?_
  refine lv_istore (lv' := [(4, .int p1), (0, .ref n0), (1, .int p0), (2, .int p1), (3, .int p2)]) hx hb dX11_reckons_6 hl (by decide) rfl (fun ls hl => ?_)
  refine lp_mX11_reckons_8 hx hb hml hts hown hK hA (Nat.le_of_ble_eq_true rfl) (Nat.le_of_ble_eq_true rfl) (Nat.le_of_ble_eq_true rfl) (Nat.le_of_ble_eq_true rfl) n0 m_taped m_laws m_next m_wrong m_number m_text m_made m_deep m_lines m_opened m_goNode m_goDrops m_goHour m_goFelt m_goSalt m_goMore m_bestLeft m_bestHour m_bestMany a_tape a_sign a_length a_clause a_clauses a_chain a_open a_stack a_word a_said a_kept a_stepNode a_stepDrops a_stepHour a_stepNext a_stepPass a_bestPass a_far a_waited a_servers a_images a_isMade signF wordF p0 p1 p2 hco hz1 hz2 hz3 hz4 hz5 (fun w135_0_0 w135_1_0 w135_2_0 H locs ls hx135_4_nlt00_0 hx135_4_nltPp2_0 hrx_0 hrl_0 hG hP hD hS hl => ?_) _ 0 stackF p1 _ _ ls (Nat.lt_succ_self _) hG hz3 (R_start hco) hP hD hS (lv_sub hl [0, 1, 2, 3, 4] rfl)
  obtain ⟨hP, hD⟩ := z_re (L := [(n0, .inr (11, .ref a_tape :: .int m_taped :: .int m_laws :: .ref a_sign :: .ref a_length :: .ref a_clause :: .ref a_clauses :: .ref a_chain :: .int m_next :: .int m_wrong :: .int m_number :: .int m_text :: .int m_made :: .int m_deep :: .int m_lines :: .ref a_open :: .int m_opened :: .ref a_stack :: .int w135_0_0 :: .ref a_word :: .ref a_said :: .ref a_kept :: [.int m_goNode, .int m_goDrops, .int m_goHour, .int m_goFelt, .int m_goSalt, .int m_goMore, .ref a_stepNode, .ref a_stepDrops, .ref a_stepHour, .ref a_stepNext, .ref a_stepPass, .int m_bestLeft, .int m_bestHour, .int m_bestMany, .ref a_bestPass, .ref a_far, .ref a_waited, .ref a_servers, .ref a_images, .ref a_isMade])), (a_sign, .inl (kA 0, 2400, .inl signF)), (a_stack, .inl (kA 2, 64, .inr (.inl w135_1_0))), (a_word, .inl (kA 2, 11, .inr (.inl wordF)))]) hP hD
  have hz6 : ¬ w135_2_0 < p1 := hrx_0.2.1.1
  have hn7 := R_end hrx_0 hrl_0
  have hn7a : ¬ w135_0_0 < 1 := hn7.1
  have hn7b : ¬ 60 < w135_0_0 := hn7.2
  refine lv_aload_n hx hb dX11_reckons_135 rfl (lv_at hl 1 rfl) ?_
  refine z_l (wr := [(a_sign, .inl (kA 0, 2400, .inl signF)), (a_word, .inl (kA 2, 11, .inr (.inl wordF)))]) (va_runV (As := []) (rest := []) ⟨hx, hb, hml, hown, hts⟩ (mX11_pop l dC dI kA _ n0 m_taped m_laws m_next m_wrong m_number m_text m_made m_deep m_lines m_opened w135_0_0 m_goNode m_goDrops m_goHour m_goFelt m_goSalt m_goMore m_bestLeft m_bestHour m_bestMany a_tape a_sign a_length a_clause a_clauses a_chain a_open a_stack a_word a_said a_kept a_stepNode a_stepDrops a_stepHour a_stepNext a_stepPass a_bestPass a_far a_waited a_servers a_images a_isMade w135_1_0 hn7a hn7b) (cwV 0 hts gX11_reckons_X11_pop rfl rfl rfl ⟨rfl, hdX11_pop⟩ ⟨(Nat.le_of_ble_eq_true rfl), (Nat.le_of_ble_eq_true rfl)⟩) ⟨zPc.blind, va_recv (q := (RX11, TX11, 42)) hK.1 hP (ci := 11) (q0 := 0) rfl rfl, zPre hK (hP.sub [0, 2] rfl) (hD.sub [0, 2] (by decide) rfl)⟩ rfl rfl hl.1 rfl (lv_room (Nat.le_of_ble_eq_true rfl)) dX11_reckons_136 ⟨(Nat.le_of_ble_eq_true rfl), (Nat.le_of_ble_eq_true rfl)⟩) hP hD hS hA [0, 2] [1, 3] rfl rfl (by decide) (by decide) (fun r10 u8 H locs hw9 hP hD hS => ?_)
  obtain ⟨o11, r12⟩ := u8
  obtain ⟨er15, hp13, hp14⟩ := hw9
  have er15 : r10 = r12 := er15
  subst er15
  obtain ⟨q16, eq16⟩ : ∃ y : Int32 × Int64, y = fX11_pop w135_0_0 w135_1_0 := ⟨_, rfl⟩
  have hG := zbnd hG eq16
  have eo11 : o11 = q16.1 := by rw [eq16]; exact congrArg (fun z : Int32 × Int64 => z.1) hp13
  have hG := zbnd hG eo11
  have er10 : r10 = q16.2 := by rw [eq16]; exact congrArg (fun z : Int32 × Int64 => z.2) hp13
  have hG := zbnd hG er10
  obtain ⟨hP, hD⟩ := z_re (L := [(a_sign, .inl (kA 0, 2400, .inl signF)), (a_word, .inl (kA 2, 11, .inr (.inl wordF))), (n0, .inr (11, .ref a_tape :: .int m_taped :: .int m_laws :: .ref a_sign :: .ref a_length :: .ref a_clause :: .ref a_clauses :: .ref a_chain :: .int m_next :: .int m_wrong :: .int m_number :: .int m_text :: .int m_made :: .int m_deep :: .int m_lines :: .ref a_open :: .int m_opened :: .ref a_stack :: .int o11 :: .ref a_word :: .ref a_said :: .ref a_kept :: [.int m_goNode, .int m_goDrops, .int m_goHour, .int m_goFelt, .int m_goSalt, .int m_goMore, .ref a_stepNode, .ref a_stepDrops, .ref a_stepHour, .ref a_stepNext, .ref a_stepPass, .int m_bestLeft, .int m_bestHour, .int m_bestMany, .ref a_bestPass, .ref a_far, .ref a_waited, .ref a_servers, .ref a_images, .ref a_isMade])), (a_stack, .inl (kA 2, 64, .inr (.inl w135_1_0)))]) hP hD
  obtain ⟨hP9, hD9⟩ := z_sb (L' := [(n0, .inr (11, .ref a_tape :: .int m_taped :: .int m_laws :: .ref a_sign :: .ref a_length :: .ref a_clause :: .ref a_clauses :: .ref a_chain :: .int m_next :: .int m_wrong :: .int m_number :: .int m_text :: .int m_made :: .int m_deep :: .int m_lines :: .ref a_open :: .int m_opened :: .ref a_stack :: .int o11 :: .ref a_word :: .ref a_said :: .ref a_kept :: [.int m_goNode, .int m_goDrops, .int m_goHour, .int m_goFelt, .int m_goSalt, .int m_goMore, .ref a_stepNode, .ref a_stepDrops, .ref a_stepHour, .ref a_stepNext, .ref a_stepPass, .int m_bestLeft, .int m_bestHour, .int m_bestMany, .ref a_bestPass, .ref a_far, .ref a_waited, .ref a_servers, .ref a_images, .ref a_isMade])), (a_sign, .inl (kA 0, 2400, .inl signF)), (a_stack, .inl (kA 2, 64, .inr (.inl w135_1_0))), (a_word, .inl (kA 2, 11, .inr (.inl wordF)))]) hP hD [2, 0, 3, 1] (by decide) rfl
  refine W.widen (k := 0) (n := 0) (Nat.le_of_ble_eq_true rfl) (Nat.le_of_ble_eq_true rfl) ?_
  exact W.lret (v := r10) hx hb hr (fun t ht hW => ⟨⟨r10, (o11, w135_1_0, r10), rfl, ⟨rfl, (hG.trans hG0.symm)⟩, by rw [ht]; exact hP9, hD9⟩, hS.F ht⟩) hS.2.2 dX11_reckons_139
