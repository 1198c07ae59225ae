def ixX11_canTry : List Nat := [5, 153, 190, 191, 192, 193, 458, 612, 806, 807, 808, 809, 1000, 1001, 1002, 1003, 1499, 1500, 1501, 1502, 1503, 1504, 1505, 1506, 1507, 1508, 1509, 1510, 1511, 1512, 1513, 1514, 1515, 1516, 1517, 1518, 1519, 1520, 1521, 1522, 1523, 1524, 1525, 1526, 1527, 1528, 1529, 1530, 1531, 1532, 1533, 1534, 1535, 1536, 1537, 1538, 1539, 1540]
def wsX11_canTry : List Cond := .code yX11_canTry cX11_canTry 6 (some .boolean) :: ixX11_canTry.map wt
def ixX11_isJarLike : List Nat := [5, 190, 191, 192, 193, 612, 1003]
def wsX11_isJarLike : List Cond := .code yX11_isJarLike cX11_isJarLike 3 (some .boolean) :: ixX11_isJarLike.map wt
def ixX11_sets : List Nat := [995, 996, 1007, 1008, 1009, 1010, 1011, 1499, 1500, 1501, 1502, 1503, 1504, 1505, 1506, 1507, 1508, 1509, 1510, 1511, 1512, 1513, 1514, 1515, 1516, 1517, 1518, 1519, 1520, 1521, 1522, 1523, 1524, 1525, 1526, 1527, 1528, 1529, 1530, 1531, 1532, 1533, 1534, 1535, 1536, 1537, 1538, 1539, 1540]
def wsX11_sets : List Cond := .code yX11_sets cX11_sets 6 none :: ixX11_sets.map wt
theorem ggX11_canTry_X11_in : GoodIn wsX11_canTry wsX11_in := gi_ (A := ixX11_canTry) (B := ixX11_in) wt193 (by decide +kernel)
theorem gX11_canTry_X11_in : GoodIn wsX11_canTry (va_wsS RX11 118 yX11_in wsX11_in) := g3_ (A := ixX11_canTry) wt191 wt192 wt5 (by decide +kernel) ggX11_canTry_X11_in
theorem ggX11_canTry_X11_isJarLike : GoodIn wsX11_canTry wsX11_isJarLike := gi_ (A := ixX11_canTry) (B := ixX11_isJarLike) wt1003 (by decide +kernel)
theorem gX11_canTry_X11_isJarLike : GoodIn wsX11_canTry (va_wsS RX11 399 yX11_isJarLike wsX11_isJarLike) := g3_ (A := ixX11_canTry) wt1001 wt1002 wt5 (by decide +kernel) ggX11_canTry_X11_isJarLike
theorem ggX11_canTry_X11_isLaw : GoodIn wsX11_canTry wsX11_isLaw := gi_ (A := ixX11_canTry) (B := ixX11_isLaw) wt809 (by decide +kernel)
theorem gX11_canTry_X11_isLaw : GoodIn wsX11_canTry (wsV RX11 363 RX11 yX11_isLaw wsX11_isLaw) := g4_ (A := ixX11_canTry) wt806 wt807 wt808 wt5 (by decide +kernel) ggX11_canTry_X11_isLaw
theorem ggX11_isJarLike_X11_in : GoodIn wsX11_isJarLike wsX11_in := gi_ (A := ixX11_isJarLike) (B := ixX11_in) wt193 (by decide +kernel)
theorem gX11_isJarLike_X11_in : GoodIn wsX11_isJarLike (va_wsS RX11 118 yX11_in wsX11_in) := g3_ (A := ixX11_isJarLike) wt191 wt192 wt5 (by decide +kernel) ggX11_isJarLike_X11_in
theorem kX11_sets_1 {a : Array Value} {s : State} (hts : ∀ w ∈ wsX11_sets, w.before a s = true) : (.fieldLink RX11 381 "SnowMulesModel" "goNode" "I" : Cond).before a s = true := kw (A := ixX11_sets) wt1008 hts (by decide +kernel)
theorem kX11_sets_2 {a : Array Value} {s : State} (hts : ∀ w ∈ wsX11_sets, w.before a s = true) : (.fieldLink RX11 384 "SnowMulesModel" "goDrops" "I" : Cond).before a s = true := kw (A := ixX11_sets) wt995 hts (by decide +kernel)
theorem kX11_sets_3 {a : Array Value} {s : State} (hts : ∀ w ∈ wsX11_sets, w.before a s = true) : (.fieldLink RX11 387 "SnowMulesModel" "goHour" "I" : Cond).before a s = true := kw (A := ixX11_sets) wt996 hts (by decide +kernel)
theorem kX11_sets_4 {a : Array Value} {s : State} (hts : ∀ w ∈ wsX11_sets, w.before a s = true) : (.fieldLink RX11 390 "SnowMulesModel" "goFelt" "I" : Cond).before a s = true := kw (A := ixX11_sets) wt1009 hts (by decide +kernel)
theorem kX11_sets_5 {a : Array Value} {s : State} (hts : ∀ w ∈ wsX11_sets, w.before a s = true) : (.fieldLink RX11 393 "SnowMulesModel" "goSalt" "I" : Cond).before a s = true := kw (A := ixX11_sets) wt1010 hts (by decide +kernel)
theorem kX11_sets_6 {a : Array Value} {s : State} (hts : ∀ w ∈ wsX11_sets, w.before a s = true) : (.fieldLink RX11 396 "SnowMulesModel" "goMore" "I" : Cond).before a s = true := kw (A := ixX11_sets) wt1011 hts (by decide +kernel)
theorem kX11_isJarLike_1 {a : Array Value} {s : State} (hts : ∀ w ∈ wsX11_isJarLike, w.before a s = true) : (.constantLong RX11 289 (99999) : Cond).before a s = true := kw (A := ixX11_isJarLike) wt612 hts (by decide +kernel)
theorem kX11_isJarLike_2 {a : Array Value} {s : State} (hts : ∀ w ∈ wsX11_isJarLike, w.before a s = true) : (.constantLong RX11 265 (9) : Cond).before a s = true := kw (A := ixX11_isJarLike) wt190 hts (by decide +kernel)
theorem kX11_canTry_1 {a : Array Value} {s : State} (hts : ∀ w ∈ wsX11_canTry, w.before a s = true) : (.fieldLink RX11 39 "SnowMulesModel" "said" "[I" : Cond).before a s = true := kw (A := ixX11_canTry) wt153 hts (by decide +kernel)
theorem kX11_canTry_2 {a : Array Value} {s : State} (hts : ∀ w ∈ wsX11_canTry, w.before a s = true) : (.constantLong RX11 289 (99999) : Cond).before a s = true := kw (A := ixX11_canTry) wt612 hts (by decide +kernel)
theorem iX11_sets_X11 : ∀ w ∈ wsX110, w ∈ wsX11_sets := inW (A := ixX11_sets) uwX11 (by decide +kernel)
theorem iX11_canTry_X11 : ∀ w ∈ wsX110, w ∈ wsX11_canTry := inW (A := ixX11_canTry) uwX11 (by decide +kernel)
theorem hdX11_isLaw : yX11_isLaw.cls ≠ "java/lang/invoke/MethodHandle" ∧ yX11_isLaw.cls ≠ "java/lang/invoke/VarHandle" ∧ (parseMethodDescriptor yX11_isLaw.desc).map (fun d => d.parameters.length) = some 1 := ⟨hdc_0.1, hdc_0.2, hdd_1⟩
theorem hdX11_isJarLike : yX11_isJarLike.cls ≠ "java/lang/invoke/MethodHandle" ∧ yX11_isJarLike.cls ≠ "java/lang/invoke/VarHandle" ∧ (parseMethodDescriptor yX11_isJarLike.desc).map (fun d => d.parameters.length) = some 3 := ⟨hdc_0.1, hdc_0.2, hdd_7⟩
def dtX11_sets_132_0 : List (Nat × Jvm.ClassFile.Instr × Nat) := [(0, .aload_n 0, 1), (1, .iload_n 1, 1), (2, .putfield 381, 3), (5, .aload_n 0, 1), (6, .iload_n 2, 1), (7, .putfield 384, 3), (10, .aload_n 0, 1), (11, .iload_n 3, 1), (12, .putfield 387, 3), (15, .aload_n 0, 1), (16, .iload 4, 2), (18, .putfield 390, 3), (21, .aload_n 0, 1), (22, .iload 5, 2), (24, .putfield 393, 3), (27, .aload_n 0, 1), (28, .iconst 0, 1), (29, .putfield 396, 3), (32, .return_, 1)]
theorem daX11_sets_132_0 : dtX11_sets_132_0.all (dqd cX11_sets) = true := by decide +kernel
theorem dX11_sets_0 : decode cX11_sets 0 = .ok (.aload_n 0, 1) := dq daX11_sets_132_0 0 rfl
theorem dX11_sets_1 : decode cX11_sets 1 = .ok (.iload_n 1, 1) := dq daX11_sets_132_0 1 rfl
theorem dX11_sets_2 : decode cX11_sets 2 = .ok (.putfield 381, 3) := dq daX11_sets_132_0 2 rfl
theorem dX11_sets_5 : decode cX11_sets 5 = .ok (.aload_n 0, 1) := dq daX11_sets_132_0 3 rfl
theorem dX11_sets_6 : decode cX11_sets 6 = .ok (.iload_n 2, 1) := dq daX11_sets_132_0 4 rfl
theorem dX11_sets_7 : decode cX11_sets 7 = .ok (.putfield 384, 3) := dq daX11_sets_132_0 5 rfl
theorem dX11_sets_10 : decode cX11_sets 10 = .ok (.aload_n 0, 1) := dq daX11_sets_132_0 6 rfl
theorem dX11_sets_11 : decode cX11_sets 11 = .ok (.iload_n 3, 1) := dq daX11_sets_132_0 7 rfl
theorem dX11_sets_12 : decode cX11_sets 12 = .ok (.putfield 387, 3) := dq daX11_sets_132_0 8 rfl
theorem dX11_sets_15 : decode cX11_sets 15 = .ok (.aload_n 0, 1) := dq daX11_sets_132_0 9 rfl
theorem dX11_sets_16 : decode cX11_sets 16 = .ok (.iload 4, 2) := dq daX11_sets_132_0 10 rfl
theorem dX11_sets_18 : decode cX11_sets 18 = .ok (.putfield 390, 3) := dq daX11_sets_132_0 11 rfl
theorem dX11_sets_21 : decode cX11_sets 21 = .ok (.aload_n 0, 1) := dq daX11_sets_132_0 12 rfl
theorem dX11_sets_22 : decode cX11_sets 22 = .ok (.iload 5, 2) := dq daX11_sets_132_0 13 rfl
theorem dX11_sets_24 : decode cX11_sets 24 = .ok (.putfield 393, 3) := dq daX11_sets_132_0 14 rfl
theorem dX11_sets_27 : decode cX11_sets 27 = .ok (.aload_n 0, 1) := dq daX11_sets_132_0 15 rfl
theorem dX11_sets_28 : decode cX11_sets 28 = .ok (.iconst 0, 1) := dq daX11_sets_132_0 16 rfl
theorem dX11_sets_29 : decode cX11_sets 29 = .ok (.putfield 396, 3) := dq daX11_sets_132_0 17 rfl
theorem dX11_sets_32 : decode cX11_sets 32 = .ok (.return_, 1) := dq daX11_sets_132_0 18 rfl
def dtX11_isJarLike_132_0 : List (Nat × Jvm.ClassFile.Instr × Nat) := [(0, .iload_n 0, 1), (1, .i2l, 1), (2, .lconst 0, 1), (3, .ldc2_w 289, 3), (6, .invokestatic 118, 3), (9, .ifCond .eq 31, 3), (40, .iconst 0, 1), (41, .ireturn, 1), (12, .iload_n 1, 1), (13, .i2l, 1), (14, .lconst 0, 1), (15, .ldc2_w 265, 3), (18, .invokestatic 118, 3), (21, .ifCond .eq 19, 3), (24, .iload_n 2, 1), (25, .i2l, 1), (26, .lconst 0, 1), (27, .ldc2_w 265, 3), (30, .invokestatic 118, 3), (33, .ifCond .eq 7, 3), (36, .iconst 1, 1), (37, .goto 4, 3)]
theorem daX11_isJarLike_132_0 : dtX11_isJarLike_132_0.all (dqd cX11_isJarLike) = true := by decide +kernel
theorem dX11_isJarLike_0 : decode cX11_isJarLike 0 = .ok (.iload_n 0, 1) := dq daX11_isJarLike_132_0 0 rfl
theorem dX11_isJarLike_1 : decode cX11_isJarLike 1 = .ok (.i2l, 1) := dq daX11_isJarLike_132_0 1 rfl
theorem dX11_isJarLike_2 : decode cX11_isJarLike 2 = .ok (.lconst 0, 1) := dq daX11_isJarLike_132_0 2 rfl
theorem dX11_isJarLike_3 : decode cX11_isJarLike 3 = .ok (.ldc2_w 289, 3) := dq daX11_isJarLike_132_0 3 rfl
theorem dX11_isJarLike_6 : decode cX11_isJarLike 6 = .ok (.invokestatic 118, 3) := dq daX11_isJarLike_132_0 4 rfl
theorem dX11_isJarLike_9 : decode cX11_isJarLike 9 = .ok (.ifCond .eq 31, 3) := dq daX11_isJarLike_132_0 5 rfl
theorem dX11_isJarLike_40 : decode cX11_isJarLike 40 = .ok (.iconst 0, 1) := dq daX11_isJarLike_132_0 6 rfl
theorem dX11_isJarLike_41 : decode cX11_isJarLike 41 = .ok (.ireturn, 1) := dq daX11_isJarLike_132_0 7 rfl
theorem dX11_isJarLike_12 : decode cX11_isJarLike 12 = .ok (.iload_n 1, 1) := dq daX11_isJarLike_132_0 8 rfl
theorem dX11_isJarLike_13 : decode cX11_isJarLike 13 = .ok (.i2l, 1) := dq daX11_isJarLike_132_0 9 rfl
theorem dX11_isJarLike_14 : decode cX11_isJarLike 14 = .ok (.lconst 0, 1) := dq daX11_isJarLike_132_0 10 rfl
theorem dX11_isJarLike_15 : decode cX11_isJarLike 15 = .ok (.ldc2_w 265, 3) := dq daX11_isJarLike_132_0 11 rfl
theorem dX11_isJarLike_18 : decode cX11_isJarLike 18 = .ok (.invokestatic 118, 3) := dq daX11_isJarLike_132_0 12 rfl
theorem dX11_isJarLike_21 : decode cX11_isJarLike 21 = .ok (.ifCond .eq 19, 3) := dq daX11_isJarLike_132_0 13 rfl
theorem dX11_isJarLike_24 : decode cX11_isJarLike 24 = .ok (.iload_n 2, 1) := dq daX11_isJarLike_132_0 14 rfl
theorem dX11_isJarLike_25 : decode cX11_isJarLike 25 = .ok (.i2l, 1) := dq daX11_isJarLike_132_0 15 rfl
theorem dX11_isJarLike_26 : decode cX11_isJarLike 26 = .ok (.lconst 0, 1) := dq daX11_isJarLike_132_0 16 rfl
theorem dX11_isJarLike_27 : decode cX11_isJarLike 27 = .ok (.ldc2_w 265, 3) := dq daX11_isJarLike_132_0 17 rfl
theorem dX11_isJarLike_30 : decode cX11_isJarLike 30 = .ok (.invokestatic 118, 3) := dq daX11_isJarLike_132_0 18 rfl
theorem dX11_isJarLike_33 : decode cX11_isJarLike 33 = .ok (.ifCond .eq 7, 3) := dq daX11_isJarLike_132_0 19 rfl
theorem dX11_isJarLike_36 : decode cX11_isJarLike 36 = .ok (.iconst 1, 1) := dq daX11_isJarLike_132_0 20 rfl
theorem dX11_isJarLike_37 : decode cX11_isJarLike 37 = .ok (.goto 4, 3) := dq daX11_isJarLike_132_0 21 rfl
def dtX11_canTry_132_0 : List (Nat × Jvm.ClassFile.Instr × Nat) := [(0, .aload_n 0, 1), (1, .iload_n 1, 1), (2, .invokevirtual 363, 3), (5, .ifCond .eq 40, 3), (45, .iconst 0, 1), (46, .ireturn, 1), (8, .aload_n 0, 1), (9, .getfield 39, 3), (12, .bipush 8, 2), (14, .iaload, 1), (15, .ifCond .lt 30, 3), (18, .iload_n 2, 1), (19, .i2l, 1), (20, .lconst 0, 1), (21, .ldc2_w 289, 3), (24, .invokestatic 118, 3), (27, .ifCond .eq 18, 3), (30, .iload_n 3, 1), (31, .iload 4, 2), (33, .iload 5, 2), (35, .invokestatic 399, 3), (38, .ifCond .eq 7, 3), (41, .iconst 1, 1), (42, .goto 4, 3)]
theorem daX11_canTry_132_0 : dtX11_canTry_132_0.all (dqd cX11_canTry) = true := by decide +kernel
theorem dX11_canTry_0 : decode cX11_canTry 0 = .ok (.aload_n 0, 1) := dq daX11_canTry_132_0 0 rfl
theorem dX11_canTry_1 : decode cX11_canTry 1 = .ok (.iload_n 1, 1) := dq daX11_canTry_132_0 1 rfl
theorem dX11_canTry_2 : decode cX11_canTry 2 = .ok (.invokevirtual 363, 3) := dq daX11_canTry_132_0 2 rfl
theorem dX11_canTry_5 : decode cX11_canTry 5 = .ok (.ifCond .eq 40, 3) := dq daX11_canTry_132_0 3 rfl
theorem dX11_canTry_45 : decode cX11_canTry 45 = .ok (.iconst 0, 1) := dq daX11_canTry_132_0 4 rfl
theorem dX11_canTry_46 : decode cX11_canTry 46 = .ok (.ireturn, 1) := dq daX11_canTry_132_0 5 rfl
theorem dX11_canTry_8 : decode cX11_canTry 8 = .ok (.aload_n 0, 1) := dq daX11_canTry_132_0 6 rfl
theorem dX11_canTry_9 : decode cX11_canTry 9 = .ok (.getfield 39, 3) := dq daX11_canTry_132_0 7 rfl
theorem dX11_canTry_12 : decode cX11_canTry 12 = .ok (.bipush 8, 2) := dq daX11_canTry_132_0 8 rfl
theorem dX11_canTry_14 : decode cX11_canTry 14 = .ok (.iaload, 1) := dq daX11_canTry_132_0 9 rfl
theorem dX11_canTry_15 : decode cX11_canTry 15 = .ok (.ifCond .lt 30, 3) := dq daX11_canTry_132_0 10 rfl
theorem dX11_canTry_18 : decode cX11_canTry 18 = .ok (.iload_n 2, 1) := dq daX11_canTry_132_0 11 rfl
theorem dX11_canTry_19 : decode cX11_canTry 19 = .ok (.i2l, 1) := dq daX11_canTry_132_0 12 rfl
theorem dX11_canTry_20 : decode cX11_canTry 20 = .ok (.lconst 0, 1) := dq daX11_canTry_132_0 13 rfl
theorem dX11_canTry_21 : decode cX11_canTry 21 = .ok (.ldc2_w 289, 3) := dq daX11_canTry_132_0 14 rfl
theorem dX11_canTry_24 : decode cX11_canTry 24 = .ok (.invokestatic 118, 3) := dq daX11_canTry_132_0 15 rfl
theorem dX11_canTry_27 : decode cX11_canTry 27 = .ok (.ifCond .eq 18, 3) := dq daX11_canTry_132_0 16 rfl
theorem dX11_canTry_30 : decode cX11_canTry 30 = .ok (.iload_n 3, 1) := dq daX11_canTry_132_0 17 rfl
theorem dX11_canTry_31 : decode cX11_canTry 31 = .ok (.iload 4, 2) := dq daX11_canTry_132_0 18 rfl
theorem dX11_canTry_33 : decode cX11_canTry 33 = .ok (.iload 5, 2) := dq daX11_canTry_132_0 19 rfl
theorem dX11_canTry_35 : decode cX11_canTry 35 = .ok (.invokestatic 399, 3) := dq daX11_canTry_132_0 20 rfl
theorem dX11_canTry_38 : decode cX11_canTry 38 = .ok (.ifCond .eq 7, 3) := dq daX11_canTry_132_0 21 rfl
theorem dX11_canTry_41 : decode cX11_canTry 41 = .ok (.iconst 1, 1) := dq daX11_canTry_132_0 22 rfl
theorem dX11_canTry_42 : decode cX11_canTry 42 = .ok (.goto 4, 3) := dq daX11_canTry_132_0 23 rfl
set_option maxRecDepth 100000 in
def fX11_sets (p0 : Int32) (p1 : Int32) (p2 : Int32) (p3 : Int32) (p4 : Int32) : Int32 × Int32 × Int32 × Int32 × Int32 × Int32 := (p0, p1, p2, p3, p4, 0)
set_option maxHeartbeats 4000000 in
set_option maxRecDepth 100000 in
theorem mX11_sets (l : Launch) (dC : Nat → ClassId) (dI : Nat → Nat → Nat) (kA : Nat → ClassId) (sz : Nat) (n0 : Nat) (m_taped : Int32) (m_laws : Int32) (m_next : Int32) (m_wrong : Int32) (m_number : Int32) (m_text : Int32) (m_made : Int32) (m_deep : Int32) (m_lines : Int32) (m_opened : Int32) (m_top : Int32) (m_goNode : Int32) (m_goDrops : Int32) (m_goHour : Int32) (m_goFelt : Int32) (m_goSalt : Int32) (m_goMore : Int32) (m_bestLeft : Int32) (m_bestHour : Int32) (m_bestMany : Int32) (a_tape : Nat) (a_sign : Nat) (a_length : Nat) (a_clause : Nat) (a_clauses : Nat) (a_chain : Nat) (a_open : Nat) (a_stack : Nat) (a_word : Nat) (a_said : Nat) (a_kept : Nat) (a_stepNode : Nat) (a_stepDrops : Nat) (a_stepHour : Nat) (a_stepNext : Nat) (a_stepPass : Nat) (a_bestPass : Nat) (a_far : Nat) (a_waited : Nat) (a_servers : Nat) (a_images : Nat) (a_isMade : Nat) (p0 : Int32) (p1 : Int32) (p2 : Int32) (p3 : Int32) (p4 : Int32)  : Met l yX11_sets wsX11_sets ({ frames := 0, cells := 0, slots := 0, locals := 0 }) (zPc dC dI kA sz [.ref n0, .int p0, .int p1, .int p2, .int p3, .int p4] [(n0, .inr (11, .ref a_tape :: .int m_taped :: .int m_laws :: .ref a_sign :: .ref a_length :: .ref a_clause :: .ref a_clauses :: .ref a_chain :: .int m_next :: .int m_wrong :: .int m_number :: .int m_text :: .int m_made :: .int m_deep :: .int m_lines :: .ref a_open :: .int m_opened :: .ref a_stack :: .int m_top :: .ref a_word :: .ref a_said :: .ref a_kept :: [.int m_goNode, .int m_goDrops, .int m_goHour, .int m_goFelt, .int m_goSalt, .int m_goMore, .ref a_stepNode, .ref a_stepDrops, .ref a_stepHour, .ref a_stepNext, .ref a_stepPass, .int m_bestLeft, .int m_bestHour, .int m_bestMany, .ref a_bestPass, .ref a_far, .ref a_waited, .ref a_servers, .ref a_images, .ref a_isMade]))]) (va_Qv (fun (u : Int32 × Int32 × Int32 × Int32 × Int32 × Int32) => (u.1, u.2.1, u.2.2.1, u.2.2.2.1, u.2.2.2.2.1, u.2.2.2.2.2) = fX11_sets p0 p1 p2 p3 p4 ∧ u.1 = p0) (zB dC dI (va_A [(n0, .inr (11, .ref a_tape :: .int m_taped :: .int m_laws :: .ref a_sign :: .ref a_length :: .ref a_clause :: .ref a_clauses :: .ref a_chain :: .int m_next :: .int m_wrong :: .int m_number :: .int m_text :: .int m_made :: .int m_deep :: .int m_lines :: .ref a_open :: .int m_opened :: .ref a_stack :: .int m_top :: .ref a_word :: .ref a_said :: .ref a_kept :: [.int m_goNode, .int m_goDrops, .int m_goHour, .int m_goFelt, .int m_goSalt, .int m_goMore, .ref a_stepNode, .ref a_stepDrops, .ref a_stepHour, .ref a_stepNext, .ref a_stepPass, .int m_bestLeft, .int m_bestHour, .int m_bestMany, .ref a_bestPass, .ref a_far, .ref a_waited, .ref a_servers, .ref a_images, .ref a_isMade]))] sz) (fun (u : Int32 × Int32 × Int32 × Int32 × Int32 × Int32) => [(n0, .inr (11, .ref a_tape :: .int m_taped :: .int m_laws :: .ref a_sign :: .ref a_length :: .ref a_clause :: .ref a_clauses :: .ref a_chain :: .int m_next :: .int m_wrong :: .int m_number :: .int m_text :: .int m_made :: .int m_deep :: .int m_lines :: .ref a_open :: .int m_opened :: .ref a_stack :: .int m_top :: .ref a_word :: .ref a_said :: .ref a_kept :: [.int u.1, .int u.2.1, .int u.2.2.1, .int u.2.2.2.1, .int u.2.2.2.2.1, .int u.2.2.2.2.2, .ref a_stepNode, .ref a_stepDrops, .ref a_stepHour, .ref a_stepNext, .ref a_stepPass, .int m_bestLeft, .int m_bestHour, .int m_bestMany, .ref a_bestPass, .ref a_far, .ref a_waited, .ref a_servers, .ref a_images, .ref a_isMade]))])) (va_A [(n0, .inr (11, .ref a_tape :: .int m_taped :: .int m_laws :: .ref a_sign :: .ref a_length :: .ref a_clause :: .ref a_clauses :: .ref a_chain :: .int m_next :: .int m_wrong :: .int m_number :: .int m_text :: .int m_made :: .int m_deep :: .int m_lines :: .ref a_open :: .int m_opened :: .ref a_stack :: .int m_top :: .ref a_word :: .ref a_said :: .ref a_kept :: [.int m_goNode, .int m_goDrops, .int m_goHour, .int m_goFelt, .int m_goSalt, .int m_goMore, .ref a_stepNode, .ref a_stepDrops, .ref a_stepHour, .ref a_stepNext, .ref a_stepPass, .int m_bestLeft, .int m_bestHour, .int m_bestMany, .ref a_bestPass, .ref a_far, .ref a_waited, .ref a_servers, .ref a_images, .ref a_isMade]))] sz)) 0 0 (va_A [(n0, .inr (11, .ref a_tape :: .int m_taped :: .int m_laws :: .ref a_sign :: .ref a_length :: .ref a_clause :: .ref a_clauses :: .ref a_chain :: .int m_next :: .int m_wrong :: .int m_number :: .int m_text :: .int m_made :: .int m_deep :: .int m_lines :: .ref a_open :: .int m_opened :: .ref a_stack :: .int m_top :: .ref a_word :: .ref a_said :: .ref a_kept :: [.int m_goNode, .int m_goDrops, .int m_goHour, .int m_goFelt, .int m_goSalt, .int m_goMore, .ref a_stepNode, .ref a_stepDrops, .ref a_stepHour, .ref a_stepNext, .ref a_stepPass, .int m_bestLeft, .int m_bestHour, .int m_bestMany, .ref a_bestPass, .ref a_far, .ref a_waited, .ref a_servers, .ref a_images, .ref a_isMade]))] sz) := by
  refine Met.ofW (cc := cX11_sets) (maxL := 6) (ret := none) pnX11 rfl ?_
  intro p e s m args below meth c s₁ B hml hv
  obtain ⟨rfl, hsz, hP, hK, hD0⟩ := hv
  have hx := B.exec
  have hb := B.bytes
  have hr := B.returns
  have hts := atoms_spec (ws := wsX11_sets) B.pre
  have hown : s.vm.findClass RX11 = some m.cls := findClass_of_methodNamed B.named
  have hlocks := B.notSynchronized
  subst hsz
  have hD := hD0.self (sz := s.heap.size)
  generalize hAe : va_A [(n0, .inr (11, .ref a_tape :: .int m_taped :: .int m_laws :: .ref a_sign :: .ref a_length :: .ref a_clause :: .ref a_clauses :: .ref a_chain :: .int m_next :: .int m_wrong :: .int m_number :: .int m_text :: .int m_made :: .int m_deep :: .int m_lines :: .ref a_open :: .int m_opened :: .ref a_stack :: .int m_top :: .ref a_word :: .ref a_said :: .ref a_kept :: [.int m_goNode, .int m_goDrops, .int m_goHour, .int m_goFelt, .int m_goSalt, .int m_goMore, .ref a_stepNode, .ref a_stepDrops, .ref a_stepHour, .ref a_stepNext, .ref a_stepPass, .int m_bestLeft, .int m_bestHour, .int m_bestMany, .ref a_bestPass, .ref a_far, .ref a_waited, .ref a_servers, .ref a_images, .ref a_isMade]))] s.heap.size = A at hD ⊢
  have hA : ∀ q : Nat, s.heap.size ≤ q → A q := zA_of hAe
  have hS : va_S A s.heap s.heap [] := va_S.rf
  have hP : va_P (dC, dI) vwCl [(n0, .inr (11, .ref a_tape :: .int m_taped :: .int m_laws :: .ref a_sign :: .ref a_length :: .ref a_clause :: .ref a_clauses :: .ref a_chain :: .int m_next :: .int m_wrong :: .int m_number :: .int m_text :: .int m_made :: .int m_deep :: .int m_lines :: .ref a_open :: .int m_opened :: .ref a_stack :: .int m_top :: .ref a_word :: .ref a_said :: .ref a_kept :: [.int m_goNode, .int m_goDrops, .int m_goHour, .int m_goFelt, .int m_goSalt, .int m_goMore, .ref a_stepNode, .ref a_stepDrops, .ref a_stepHour, .ref a_stepNext, .ref a_stepPass, .int m_bestLeft, .int m_bestHour, .int m_bestMany, .ref a_bestPass, .ref a_far, .ref a_waited, .ref a_servers, .ref a_images, .ref a_isMade]))] s.heap := hP
  have hl := lv_entry ([.ref n0, .int p0, .int p1, .int p2, .int p3, .int p4]) (n := 6) (Nat.le_of_ble_eq_true rfl)
  rw [lg_entry_eq]
  generalize (lg_sl ([.ref n0, .int p0, .int p1, .int p2, .int p3, .int p4]) ++ List.replicate (6 - (lg_sl ([.ref n0, .int p0, .int p1, .int p2, .int p3, .int p4])).length) Slot.unset).toArray = ls at hl ⊢
  have hl : lv_has ls 6 [(0, .ref n0), (1, .int p0), (2, .int p1), (3, .int p2), (4, .int p3), (5, .int p4)] := hl
  obtain ⟨G, hG0⟩ : ∃ G : Int32 × Int32 × Int32 × Int32 × Int32 × Int32, fX11_sets p0 p1 p2 p3 p4 = G := ⟨_, rfl⟩
  have hG := hG0
  unfold fX11_sets at hG
  refine lv_aload_n hx hb dX11_sets_0 rfl (lv_at hl 0 rfl) ?_
  refine lv_iload_n hx hb dX11_sets_1 rfl (lv_at hl 1 rfl) ?_
  refine va_put (D := (dC, dI)) (ci := 11) (v := .int p0) (ty := .int) (C := RX11) (T := TX11) (N := 42) hx hb hts iX11_sets_X11 tyX11 tyX11_ok nmX11 hown hK.1 hP hD hS 0 gz0 vcz11 22 (by decide) (kX11_sets_1 hts) (fun _ h9 => h9) rfl pfdI rfl rfl (Nat.le_of_ble_eq_true rfl) dX11_sets_2 (fun H locs hP hD hS => ?_)
  obtain ⟨hP, hD⟩ := z_re (L := [(n0, .inr (11, .ref a_tape :: .int m_taped :: .int m_laws :: .ref a_sign :: .ref a_length :: .ref a_clause :: .ref a_clauses :: .ref a_chain :: .int m_next :: .int m_wrong :: .int m_number :: .int m_text :: .int m_made :: .int m_deep :: .int m_lines :: .ref a_open :: .int m_opened :: .ref a_stack :: .int m_top :: .ref a_word :: .ref a_said :: .ref a_kept :: [.int p0, .int m_goDrops, .int m_goHour, .int m_goFelt, .int m_goSalt, .int m_goMore, .ref a_stepNode, .ref a_stepDrops, .ref a_stepHour, .ref a_stepNext, .ref a_stepPass, .int m_bestLeft, .int m_bestHour, .int m_bestMany, .ref a_bestPass, .ref a_far, .ref a_waited, .ref a_servers, .ref a_images, .ref a_isMade]))]) hP hD
  refine lv_aload_n hx hb dX11_sets_5 rfl (lv_at hl 0 rfl) ?_
  refine lv_iload_n hx hb dX11_sets_6 rfl (lv_at hl 2 rfl) ?_
  refine va_put (D := (dC, dI)) (ci := 11) (v := .int p1) (ty := .int) (C := RX11) (T := TX11) (N := 42) hx hb hts iX11_sets_X11 tyX11 tyX11_ok nmX11 hown hK.1 hP hD hS 0 gz0 vcz11 23 (by decide) (kX11_sets_2 hts) (fun _ h9 => h9) rfl pfdI rfl rfl (Nat.le_of_ble_eq_true rfl) dX11_sets_7 (fun H locs hP hD hS => ?_)
  obtain ⟨hP, hD⟩ := z_re (L := [(n0, .inr (11, .ref a_tape :: .int m_taped :: .int m_laws :: .ref a_sign :: .ref a_length :: .ref a_clause :: .ref a_clauses :: .ref a_chain :: .int m_next :: .int m_wrong :: .int m_number :: .int m_text :: .int m_made :: .int m_deep :: .int m_lines :: .ref a_open :: .int m_opened :: .ref a_stack :: .int m_top :: .ref a_word :: .ref a_said :: .ref a_kept :: [.int p0, .int p1, .int m_goHour, .int m_goFelt, .int m_goSalt, .int m_goMore, .ref a_stepNode, .ref a_stepDrops, .ref a_stepHour, .ref a_stepNext, .ref a_stepPass, .int m_bestLeft, .int m_bestHour, .int m_bestMany, .ref a_bestPass, .ref a_far, .ref a_waited, .ref a_servers, .ref a_images, .ref a_isMade]))]) hP hD
  refine lv_aload_n hx hb dX11_sets_10 rfl (lv_at hl 0 rfl) ?_
  refine lv_iload_n hx hb dX11_sets_11 rfl (lv_at hl 3 rfl) ?_
  refine va_put (D := (dC, dI)) (ci := 11) (v := .int p2) (ty := .int) (C := RX11) (T := TX11) (N := 42) hx hb hts iX11_sets_X11 tyX11 tyX11_ok nmX11 hown hK.1 hP hD hS 0 gz0 vcz11 24 (by decide) (kX11_sets_3 hts) (fun _ h9 => h9) rfl pfdI rfl rfl (Nat.le_of_ble_eq_true rfl) dX11_sets_12 (fun H locs hP hD hS => ?_)
  obtain ⟨hP, hD⟩ := z_re (L := [(n0, .inr (11, .ref a_tape :: .int m_taped :: .int m_laws :: .ref a_sign :: .ref a_length :: .ref a_clause :: .ref a_clauses :: .ref a_chain :: .int m_next :: .int m_wrong :: .int m_number :: .int m_text :: .int m_made :: .int m_deep :: .int m_lines :: .ref a_open :: .int m_opened :: .ref a_stack :: .int m_top :: .ref a_word :: .ref a_said :: .ref a_kept :: [.int p0, .int p1, .int p2, .int m_goFelt, .int m_goSalt, .int m_goMore, .ref a_stepNode, .ref a_stepDrops, .ref a_stepHour, .ref a_stepNext, .ref a_stepPass, .int m_bestLeft, .int m_bestHour, .int m_bestMany, .ref a_bestPass, .ref a_far, .ref a_waited, .ref a_servers, .ref a_images, .ref a_isMade]))]) hP hD
  refine lv_aload_n hx hb dX11_sets_15 rfl (lv_at hl 0 rfl) ?_
  refine lv_iload hx hb dX11_sets_16 (lv_at hl 4 rfl) ?_
  refine va_put (D := (dC, dI)) (ci := 11) (v := .int p3) (ty := .int) (C := RX11) (T := TX11) (N := 42) hx hb hts iX11_sets_X11 tyX11 tyX11_ok nmX11 hown hK.1 hP hD hS 0 gz0 vcz11 25 (by decide) (kX11_sets_4 hts) (fun _ h9 => h9) rfl pfdI rfl rfl (Nat.le_of_ble_eq_true rfl) dX11_sets_18 (fun H locs hP hD hS => ?_)
  obtain ⟨hP, hD⟩ := z_re (L := [(n0, .inr (11, .ref a_tape :: .int m_taped :: .int m_laws :: .ref a_sign :: .ref a_length :: .ref a_clause :: .ref a_clauses :: .ref a_chain :: .int m_next :: .int m_wrong :: .int m_number :: .int m_text :: .int m_made :: .int m_deep :: .int m_lines :: .ref a_open :: .int m_opened :: .ref a_stack :: .int m_top :: .ref a_word :: .ref a_said :: .ref a_kept :: [.int p0, .int p1, .int p2, .int p3, .int m_goSalt, .int m_goMore, .ref a_stepNode, .ref a_stepDrops, .ref a_stepHour, .ref a_stepNext, .ref a_stepPass, .int m_bestLeft, .int m_bestHour, .int m_bestMany, .ref a_bestPass, .ref a_far, .ref a_waited, .ref a_servers, .ref a_images, .ref a_isMade]))]) hP hD
  refine lv_aload_n hx hb dX11_sets_21 rfl (lv_at hl 0 rfl) ?_
  refine lv_iload hx hb dX11_sets_22 (lv_at hl 5 rfl) ?_
  refine va_put (D := (dC, dI)) (ci := 11) (v := .int p4) (ty := .int) (C := RX11) (T := TX11) (N := 42) hx hb hts iX11_sets_X11 tyX11 tyX11_ok nmX11 hown hK.1 hP hD hS 0 gz0 vcz11 26 (by decide) (kX11_sets_5 hts) (fun _ h9 => h9) rfl pfdI rfl rfl (Nat.le_of_ble_eq_true rfl) dX11_sets_24 (fun H locs hP hD hS => ?_)
  obtain ⟨hP, hD⟩ := z_re (L := [(n0, .inr (11, .ref a_tape :: .int m_taped :: .int m_laws :: .ref a_sign :: .ref a_length :: .ref a_clause :: .ref a_clauses :: .ref a_chain :: .int m_next :: .int m_wrong :: .int m_number :: .int m_text :: .int m_made :: .int m_deep :: .int m_lines :: .ref a_open :: .int m_opened :: .ref a_stack :: .int m_top :: .ref a_word :: .ref a_said :: .ref a_kept :: [.int p0, .int p1, .int p2, .int p3, .int p4, .int m_goMore, .ref a_stepNode, .ref a_stepDrops, .ref a_stepHour, .ref a_stepNext, .ref a_stepPass, .int m_bestLeft, .int m_bestHour, .int m_bestMany, .ref a_bestPass, .ref a_far, .ref a_waited, .ref a_servers, .ref a_images, .ref a_isMade]))]) hP hD
  refine lv_aload_n hx hb dX11_sets_27 rfl (lv_at hl 0 rfl) ?_
  refine lv_iconst (v := 0) hx hb dX11_sets_28 (by decide) ?_
  refine va_put (D := (dC, dI)) (ci := 11) (v := .int 0) (ty := .int) (C := RX11) (T := TX11) (N := 42) hx hb hts iX11_sets_X11 tyX11 tyX11_ok nmX11 hown hK.1 hP hD hS 0 gz0 vcz11 27 (by decide) (kX11_sets_6 hts) (fun _ h9 => h9) rfl pfdI rfl rfl (Nat.le_of_ble_eq_true rfl) dX11_sets_29 (fun H locs hP hD hS => ?_)
  obtain ⟨hP, hD⟩ := z_re (L := [(n0, .inr (11, .ref a_tape :: .int m_taped :: .int m_laws :: .ref a_sign :: .ref a_length :: .ref a_clause :: .ref a_clauses :: .ref a_chain :: .int m_next :: .int m_wrong :: .int m_number :: .int m_text :: .int m_made :: .int m_deep :: .int m_lines :: .ref a_open :: .int m_opened :: .ref a_stack :: .int m_top :: .ref a_word :: .ref a_said :: .ref a_kept :: [.int p0, .int p1, .int p2, .int p3, .int p4, .int 0, .ref a_stepNode, .ref a_stepDrops, .ref a_stepHour, .ref a_stepNext, .ref a_stepPass, .int m_bestLeft, .int m_bestHour, .int m_bestMany, .ref a_bestPass, .ref a_far, .ref a_waited, .ref a_servers, .ref a_images, .ref a_isMade]))]) hP hD
  obtain ⟨hP9, hD9⟩ := z_sb (L' := [(n0, .inr (11, .ref a_tape :: .int m_taped :: .int m_laws :: .ref a_sign :: .ref a_length :: .ref a_clause :: .ref a_clauses :: .ref a_chain :: .int m_next :: .int m_wrong :: .int m_number :: .int m_text :: .int m_made :: .int m_deep :: .int m_lines :: .ref a_open :: .int m_opened :: .ref a_stack :: .int m_top :: .ref a_word :: .ref a_said :: .ref a_kept :: [.int p0, .int p1, .int p2, .int p3, .int p4, .int 0, .ref a_stepNode, .ref a_stepDrops, .ref a_stepHour, .ref a_stepNext, .ref a_stepPass, .int m_bestLeft, .int m_bestHour, .int m_bestMany, .ref a_bestPass, .ref a_far, .ref a_waited, .ref a_servers, .ref a_images, .ref a_isMade]))]) hP hD [0] (by decide) rfl
  refine W.widen (k := 0) (n := 0) (Nat.le_of_ble_eq_true rfl) (Nat.le_of_ble_eq_true rfl) ?_
  exact W.vret hx hb hr (fun t ht hW => ⟨⟨(p0, p1, p2, p3, p4, 0), rfl, ⟨(hG.trans hG0.symm), rfl⟩, by rw [ht]; exact hP9, hD9⟩, hS.F ht⟩) hS.2.2 dX11_sets_32
set_option maxRecDepth 100000 in
def fX11_isJarLike (p0 : Int32) (p1 : Int32) (p2 : Int32) : Int32 := if (li p0.toInt64 0 99999) = 0 then (0) else (if (li p1.toInt64 0 9) = 0 then (0) else (if (li p2.toInt64 0 9) = 0 then (0) else (1)))
set_option maxHeartbeats 4000000 in
set_option maxRecDepth 100000 in
theorem mX11_isJarLike (l : Launch) (dC : Nat → ClassId) (dI : Nat → Nat → Nat) (kA : Nat → ClassId) (sz : Nat) (p0 : Int32) (p1 : Int32) (p2 : Int32)  : Met l yX11_isJarLike wsX11_isJarLike ({ frames := 1, cells := 0, slots := 0, locals := 25 }) (zPc dC dI kA sz [.int p0, .int p1, .int p2] []) (va_Qi (fun (r : Int32) (u : Int32) => r = u ∧ u = fX11_isJarLike p0 p1 p2 ∧ (u = 0 ∨ u = 1)) (zB dC dI (va_A [] sz) (fun (u : Int32) => [])) (va_A [] sz)) 0 0 (va_A [] sz) := by
  refine Met.ofW (cc := cX11_isJarLike) (maxL := 3) (ret := (some .boolean)) pnX11 rfl ?_
  intro p e s m args below meth c s₁ B hml hv
  obtain ⟨rfl, hsz, hP, hK, hD0⟩ := hv
  have hx := B.exec
  have hb := B.bytes
  have hr := B.returns
  have hts := atoms_spec (ws := wsX11_isJarLike) B.pre
  have hown : s.vm.findClass RX11 = some m.cls := findClass_of_methodNamed B.named
  have hlocks := B.notSynchronized
  subst hsz
  have hD := hD0.self (sz := s.heap.size)
  generalize hAe : va_A [] s.heap.size = A at hD ⊢
  have hA : ∀ q : Nat, s.heap.size ≤ q → A q := zA_of hAe
  have hS : va_S A s.heap s.heap [] := va_S.rf
  have hP : va_P (dC, dI) vwCl [] s.heap := hP
  have hl := lv_entry ([.int p0, .int p1, .int p2]) (n := 3) (Nat.le_of_ble_eq_true rfl)
  rw [lg_entry_eq]
  generalize (lg_sl ([.int p0, .int p1, .int p2]) ++ List.replicate (3 - (lg_sl ([.int p0, .int p1, .int p2])).length) Slot.unset).toArray = ls at hl ⊢
  have hl : lv_has ls 3 [(0, .int p0), (1, .int p1), (2, .int p2)] := hl
  obtain ⟨G, hG0⟩ : ∃ G : Int32, fX11_isJarLike p0 p1 p2 = G := ⟨_, rfl⟩
  have hG := hG0
  unfold fX11_isJarLike at hG
  refine lv_iload_n hx hb dX11_isJarLike_0 rfl (lv_at hl 0 rfl) ?_
  refine lv_i2l hx hb dX11_isJarLike_1 rfl ?_
  refine lv_lconst (v := 0) hx hb dX11_isJarLike_2 (by decide) ?_
  refine lv_ldc2 hx hb hown (kX11_isJarLike_1 hts) dX11_isJarLike_3 ?_
  refine z_i (wr := []) (va_runS (As := [.long p0.toInt64, .long 0, .long 99999]) (rest := []) ⟨hx, hb, hml, hown, hts⟩ (mX11_in l dC dI kA _ p0.toInt64 0 99999) (va_cwS 3 hts gX11_isJarLike_X11_in rfl rfl rfl hdX11_in ⟨(Nat.le_of_ble_eq_true rfl), (Nat.le_of_ble_eq_true rfl)⟩) ⟨zPc.blind, zPre hK (hP.sub [] rfl) (hD.sub [] (by decide) rfl)⟩ rfl rfl hl.1 rfl (lv_room (Nat.le_of_ble_eq_true rfl)) dX11_isJarLike_6 ⟨(Nat.le_of_ble_eq_true rfl), (Nat.le_of_ble_eq_true rfl)⟩) hP hD hS hA [] [] rfl rfl (by decide) (by decide) (fun r3 u1 H locs hw2 hP hD hS => ?_)
  obtain rfl := hw2
  obtain ⟨hP, hD⟩ := z_re (L := []) hP hD
  refine lv_if_eq (tgt := 40) hx hb dX11_isJarLike_9 (by decide) (fun c_4 => ?_) (fun c_4 => ?_)
  · have hG := zthen hG c_4
    refine lv_iconst (v := 0) hx hb dX11_isJarLike_40 (by decide) ?_
    obtain ⟨hP9, hD9⟩ := z_sb (L' := []) hP hD [] (by decide) rfl
    refine W.widen (k := 0) (n := 0) (Nat.le_of_ble_eq_true rfl) (Nat.le_of_ble_eq_true rfl) ?_
    exact W.zret (v := 0) hx hb hr rfl (fun t ht hW => ⟨⟨0, (0), rfl, ⟨rfl, (hG.trans hG0.symm), (Or.inl rfl)⟩, by rw [ht]; exact hP9, hD9⟩, hS.F ht⟩) hS.2.2 dX11_isJarLike_41
  · have hG := zelse hG c_4
    have c_4a := li_ne (lo := 0) (hi := 99999) (by decide) (by decide) c_4
    have c_4b := c_4a.2
    have c_4a := c_4a.1
    refine lv_iload_n hx hb dX11_isJarLike_12 rfl (lv_at hl 1 rfl) ?_
    refine lv_i2l hx hb dX11_isJarLike_13 rfl ?_
    refine lv_lconst (v := 0) hx hb dX11_isJarLike_14 (by decide) ?_
    refine lv_ldc2 hx hb hown (kX11_isJarLike_2 hts) dX11_isJarLike_15 ?_
    refine z_i (wr := []) (va_runS (As := [.long p1.toInt64, .long 0, .long 9]) (rest := []) ⟨hx, hb, hml, hown, hts⟩ (mX11_in l dC dI kA _ p1.toInt64 0 9) (va_cwS 3 hts gX11_isJarLike_X11_in rfl rfl rfl hdX11_in ⟨(Nat.le_of_ble_eq_true rfl), (Nat.le_of_ble_eq_true rfl)⟩) ⟨zPc.blind, zPre hK (hP.sub [] rfl) (hD.sub [] (by decide) rfl)⟩ rfl rfl hl.1 rfl (lv_room (Nat.le_of_ble_eq_true rfl)) dX11_isJarLike_18 ⟨(Nat.le_of_ble_eq_true rfl), (Nat.le_of_ble_eq_true rfl)⟩) hP hD hS hA [] [] rfl rfl (by decide) (by decide) (fun r7 u5 H locs hw6 hP hD hS => ?_)
    obtain rfl := hw6
    obtain ⟨hP, hD⟩ := z_re (L := []) hP hD
    refine lv_if_eq (tgt := 40) hx hb dX11_isJarLike_21 (by decide) (fun c_8 => ?_) (fun c_8 => ?_)
    · have hG := zthen hG c_8
      refine lv_iconst (v := 0) hx hb dX11_isJarLike_40 (by decide) ?_
      obtain ⟨hP9, hD9⟩ := z_sb (L' := []) hP hD [] (by decide) rfl
      refine W.widen (k := 0) (n := 0) (Nat.le_of_ble_eq_true rfl) (Nat.le_of_ble_eq_true rfl) ?_
      exact W.zret (v := 0) hx hb hr rfl (fun t ht hW => ⟨⟨0, (0), rfl, ⟨rfl, (hG.trans hG0.symm), (Or.inl rfl)⟩, by rw [ht]; exact hP9, hD9⟩, hS.F ht⟩) hS.2.2 dX11_isJarLike_41
    · have hG := zelse hG c_8
      have c_8a := li_ne (lo := 0) (hi := 9) (by decide) (by decide) c_8
      have c_8b := c_8a.2
      have c_8a := c_8a.1
      refine lv_iload_n hx hb dX11_isJarLike_24 rfl (lv_at hl 2 rfl) ?_
      refine lv_i2l hx hb dX11_isJarLike_25 rfl ?_
      refine lv_lconst (v := 0) hx hb dX11_isJarLike_26 (by decide) ?_
      refine lv_ldc2 hx hb hown (kX11_isJarLike_2 hts) dX11_isJarLike_27 ?_
      refine z_i (wr := []) (va_runS (As := [.long p2.toInt64, .long 0, .long 9]) (rest := []) ⟨hx, hb, hml, hown, hts⟩ (mX11_in l dC dI kA _ p2.toInt64 0 9) (va_cwS 3 hts gX11_isJarLike_X11_in rfl rfl rfl hdX11_in ⟨(Nat.le_of_ble_eq_true rfl), (Nat.le_of_ble_eq_true rfl)⟩) ⟨zPc.blind, zPre hK (hP.sub [] rfl) (hD.sub [] (by decide) rfl)⟩ rfl rfl hl.1 rfl (lv_room (Nat.le_of_ble_eq_true rfl)) dX11_isJarLike_30 ⟨(Nat.le_of_ble_eq_true rfl), (Nat.le_of_ble_eq_true rfl)⟩) hP hD hS hA [] [] rfl rfl (by decide) (by decide) (fun r11 u9 H locs hw10 hP hD hS => ?_)
      obtain rfl := hw10
      obtain ⟨hP, hD⟩ := z_re (L := []) hP hD
      refine lv_if_eq (tgt := 40) hx hb dX11_isJarLike_33 (by decide) (fun c_12 => ?_) (fun c_12 => ?_)
      · have hG := zthen hG c_12
        refine lv_iconst (v := 0) hx hb dX11_isJarLike_40 (by decide) ?_
        obtain ⟨hP9, hD9⟩ := z_sb (L' := []) hP hD [] (by decide) rfl
        refine W.widen (k := 0) (n := 0) (Nat.le_of_ble_eq_true rfl) (Nat.le_of_ble_eq_true rfl) ?_
        exact W.zret (v := 0) hx hb hr rfl (fun t ht hW => ⟨⟨0, (0), rfl, ⟨rfl, (hG.trans hG0.symm), (Or.inl rfl)⟩, by rw [ht]; exact hP9, hD9⟩, hS.F ht⟩) hS.2.2 dX11_isJarLike_41
      · have hG := zelse hG c_12
        have c_12a := li_ne (lo := 0) (hi := 9) (by decide) (by decide) c_12
        have c_12b := c_12a.2
        have c_12a := c_12a.1
        refine lv_iconst (v := 1) hx hb dX11_isJarLike_36 (by decide) ?_
        refine lv_goto (tgt := 41) hx hb dX11_isJarLike_37 (by decide) ?_
        obtain ⟨hP9, hD9⟩ := z_sb (L' := []) hP hD [] (by decide) rfl
        refine W.widen (k := 0) (n := 0) (Nat.le_of_ble_eq_true rfl) (Nat.le_of_ble_eq_true rfl) ?_
        exact W.zret (v := 1) hx hb hr rfl (fun t ht hW => ⟨⟨1, (1), rfl, ⟨rfl, (hG.trans hG0.symm), (Or.inr rfl)⟩, by rw [ht]; exact hP9, hD9⟩, hS.F ht⟩) hS.2.2 dX11_isJarLike_41
theorem gl_mX11_canTry_0 (m_laws : Int32) (zk : Int32) (p0 : Int32) (h0 : ¬ zk < (-1)) (h1 : ¬ 12 ≤ zk) : (¬ (0 : Int32) = 0 → (¬ p0 < 0 ∧ ¬ m_laws ≤ p0 ∧ ¬ zk < 0)) := by grind
theorem gl_mX11_canTry_1 (m_laws : Int32) (zk : Int32) (p0 : Int32) (h0 : ¬ zk < (-1)) (h1 : ¬ 12 ≤ zk) (h2 : ¬ p0 < 0) (h3 : ¬ m_laws ≤ p0) (h4 : zk < 0) : (¬ (0 : Int32) = 0 → (¬ p0 < 0 ∧ ¬ m_laws ≤ p0 ∧ ¬ zk < 0)) := by grind
theorem gl_mX11_canTry_2 (m_laws : Int32) (zk : Int32) (p0 : Int32) (h0 : ¬ zk < (-1)) (h1 : ¬ 12 ≤ zk) (h2 : ¬ p0 < 0) (h3 : ¬ m_laws ≤ p0) (h4 : ¬ zk < 0) : (¬ (0 : Int32) = 0 → (¬ p0 < 0 ∧ ¬ m_laws ≤ p0 ∧ ¬ zk < 0)) := by grind
theorem gl_mX11_canTry_3 (m_laws : Int32) (zk : Int32) (p0 : Int32) (h0 : ¬ zk < (-1)) (h1 : ¬ 12 ≤ zk) (h2 : ¬ p0 < 0) (h3 : ¬ m_laws ≤ p0) (h4 : ¬ zk < 0) : (¬ (1 : Int32) = 0 → (¬ p0 < 0 ∧ ¬ m_laws ≤ p0 ∧ ¬ zk < 0)) := by grind
set_option maxRecDepth 100000 in
def fX11_canTry (m_laws : Int32) (zk : Int32) (p0 : Int32) (p1 : Int32) (p2 : Int32) (p3 : Int32) (p4 : Int32) : Int32 := if (hs p0 m_laws) = 0 then (0) else (if zk < 0 then (0) else (if (li p1.toInt64 0 99999) = 0 then (0) else (bnd (fX11_isJarLike p2 p3 p4) (fun (r34 : Int32) => if r34 = 0 then (0) else (1)))))
set_option maxHeartbeats 4000000 in
set_option maxRecDepth 100000 in
theorem mX11_canTry (l : Launch) (dC : Nat → ClassId) (dI : Nat → Nat → Nat) (kA : Nat → ClassId) (sz : Nat) (n0 : Nat) (m_taped : Int32) (m_laws : Int32) (m_next : Int32) (m_wrong : Int32) (m_number : Int32) (m_text : Int32) (m_made : Int32) (m_deep : Int32) (m_lines : Int32) (m_opened : Int32) (m_top : Int32) (m_goNode : Int32) (m_goDrops : Int32) (m_goHour : Int32) (m_goFelt : Int32) (m_goSalt : Int32) (m_goMore : Int32) (m_bestLeft : Int32) (m_bestHour : Int32) (m_bestMany : Int32) (a_tape : Nat) (a_sign : Nat) (a_length : Nat) (a_clause : Nat) (a_clauses : Nat) (a_chain : Nat) (a_open : Nat) (a_stack : Nat) (a_word : Nat) (a_said : Nat) (a_kept : Nat) (a_stepNode : Nat) (a_stepDrops : Nat) (a_stepHour : Nat) (a_stepNext : Nat) (a_stepPass : Nat) (a_bestPass : Nat) (a_far : Nat) (a_waited : Nat) (a_servers : Nat) (a_images : Nat) (a_isMade : Nat) (saidF : Nat → Int32) (zn : Int32) (zp : Int32) (zj : Int32) (zo : Int32) (zf : Int32) (zm : Int32) (zk : Int32) (zw : Int32) (pd : Nat → Int32) (p0 : Int32) (p1 : Int32) (p2 : Int32) (p3 : Int32) (p4 : Int32) (hsc : SC saidF zn zp zj zo zf zm zk zw pd) : Met l yX11_canTry wsX11_canTry ({ frames := 2, cells := 0, slots := 0, locals := 47 }) (zPc dC dI kA sz [.ref n0, .int p0, .int p1, .int p2, .int p3, .int p4] [(n0, .inr (11, .ref a_tape :: .int m_taped :: .int m_laws :: .ref a_sign :: .ref a_length :: .ref a_clause :: .ref a_clauses :: .ref a_chain :: .int m_next :: .int m_wrong :: .int m_number :: .int m_text :: .int m_made :: .int m_deep :: .int m_lines :: .ref a_open :: .int m_opened :: .ref a_stack :: .int m_top :: .ref a_word :: .ref a_said :: .ref a_kept :: [.int m_goNode, .int m_goDrops, .int m_goHour, .int m_goFelt, .int m_goSalt, .int m_goMore, .ref a_stepNode, .ref a_stepDrops, .ref a_stepHour, .ref a_stepNext, .ref a_stepPass, .int m_bestLeft, .int m_bestHour, .int m_bestMany, .ref a_bestPass, .ref a_far, .ref a_waited, .ref a_servers, .ref a_images, .ref a_isMade])), (a_said, .inl (kA 0, 360, .inl saidF))]) (va_Qi (fun (r : Int32) (u : Int32) => r = u ∧ u = fX11_canTry m_laws zk p0 p1 p2 p3 p4 ∧ (¬ (u : Int32) = 0 → (¬ p0 < 0 ∧ ¬ m_laws ≤ p0 ∧ ¬ zk < 0)) ∧ (u = 0 ∨ u = 1)) (zB dC dI (va_A [(n0, .inr (11, .ref a_tape :: .int m_taped :: .int m_laws :: .ref a_sign :: .ref a_length :: .ref a_clause :: .ref a_clauses :: .ref a_chain :: .int m_next :: .int m_wrong :: .int m_number :: .int m_text :: .int m_made :: .int m_deep :: .int m_lines :: .ref a_open :: .int m_opened :: .ref a_stack :: .int m_top :: .ref a_word :: .ref a_said :: .ref a_kept :: [.int m_goNode, .int m_goDrops, .int m_goHour, .int m_goFelt, .int m_goSalt, .int m_goMore, .ref a_stepNode, .ref a_stepDrops, .ref a_stepHour, .ref a_stepNext, .ref a_stepPass, .int m_bestLeft, .int m_bestHour, .int m_bestMany, .ref a_bestPass, .ref a_far, .ref a_waited, .ref a_servers, .ref a_images, .ref a_isMade])), (a_said, .inl (kA 0, 360, .inl saidF))] sz) (fun (u : Int32) => [(n0, .inr (11, .ref a_tape :: .int m_taped :: .int m_laws :: .ref a_sign :: .ref a_length :: .ref a_clause :: .ref a_clauses :: .ref a_chain :: .int m_next :: .int m_wrong :: .int m_number :: .int m_text :: .int m_made :: .int m_deep :: .int m_lines :: .ref a_open :: .int m_opened :: .ref a_stack :: .int m_top :: .ref a_word :: .ref a_said :: .ref a_kept :: [.int m_goNode, .int m_goDrops, .int m_goHour, .int m_goFelt, .int m_goSalt, .int m_goMore, .ref a_stepNode, .ref a_stepDrops, .ref a_stepHour, .ref a_stepNext, .ref a_stepPass, .int m_bestLeft, .int m_bestHour, .int m_bestMany, .ref a_bestPass, .ref a_far, .ref a_waited, .ref a_servers, .ref a_images, .ref a_isMade])), (a_said, .inl (kA 0, 360, .inl saidF))])) (va_A [(n0, .inr (11, .ref a_tape :: .int m_taped :: .int m_laws :: .ref a_sign :: .ref a_length :: .ref a_clause :: .ref a_clauses :: .ref a_chain :: .int m_next :: .int m_wrong :: .int m_number :: .int m_text :: .int m_made :: .int m_deep :: .int m_lines :: .ref a_open :: .int m_opened :: .ref a_stack :: .int m_top :: .ref a_word :: .ref a_said :: .ref a_kept :: [.int m_goNode, .int m_goDrops, .int m_goHour, .int m_goFelt, .int m_goSalt, .int m_goMore, .ref a_stepNode, .ref a_stepDrops, .ref a_stepHour, .ref a_stepNext, .ref a_stepPass, .int m_bestLeft, .int m_bestHour, .int m_bestMany, .ref a_bestPass, .ref a_far, .ref a_waited, .ref a_servers, .ref a_images, .ref a_isMade])), (a_said, .inl (kA 0, 360, .inl saidF))] sz)) 0 0 (va_A [(n0, .inr (11, .ref a_tape :: .int m_taped :: .int m_laws :: .ref a_sign :: .ref a_length :: .ref a_clause :: .ref a_clauses :: .ref a_chain :: .int m_next :: .int m_wrong :: .int m_number :: .int m_text :: .int m_made :: .int m_deep :: .int m_lines :: .ref a_open :: .int m_opened :: .ref a_stack :: .int m_top :: .ref a_word :: .ref a_said :: .ref a_kept :: [.int m_goNode, .int m_goDrops, .int m_goHour, .int m_goFelt, .int m_goSalt, .int m_goMore, .ref a_stepNode, .ref a_stepDrops, .ref a_stepHour, .ref a_stepNext, .ref a_stepPass, .int m_bestLeft, .int m_bestHour, .int m_bestMany, .ref a_bestPass, .ref a_far, .ref a_waited, .ref a_servers, .ref a_images, .ref a_isMade])), (a_said, .inl (kA 0, 360, .inl saidF))] sz) := by
  refine Met.ofW (cc := cX11_canTry) (maxL := 6) (ret := (some .boolean)) pnX11 rfl ?_
  intro p e s m args below meth c s₁ B hml hv
  obtain ⟨rfl, hsz, hP, hK, hD0⟩ := hv
  have hx := B.exec
  have hb := B.bytes
  have hr := B.returns
  have hts := atoms_spec (ws := wsX11_canTry) B.pre
  have hown : s.vm.findClass RX11 = some m.cls := findClass_of_methodNamed B.named
  have hlocks := B.notSynchronized
  subst hsz
  have hD := hD0.self (sz := s.heap.size)
  generalize hAe : va_A [(n0, .inr (11, .ref a_tape :: .int m_taped :: .int m_laws :: .ref a_sign :: .ref a_length :: .ref a_clause :: .ref a_clauses :: .ref a_chain :: .int m_next :: .int m_wrong :: .int m_number :: .int m_text :: .int m_made :: .int m_deep :: .int m_lines :: .ref a_open :: .int m_opened :: .ref a_stack :: .int m_top :: .ref a_word :: .ref a_said :: .ref a_kept :: [.int m_goNode, .int m_goDrops, .int m_goHour, .int m_goFelt, .int m_goSalt, .int m_goMore, .ref a_stepNode, .ref a_stepDrops, .ref a_stepHour, .ref a_stepNext, .ref a_stepPass, .int m_bestLeft, .int m_bestHour, .int m_bestMany, .ref a_bestPass, .ref a_far, .ref a_waited, .ref a_servers, .ref a_images, .ref a_isMade])), (a_said, .inl (kA 0, 360, .inl saidF))] s.heap.size = A at hD ⊢
  have hA : ∀ q : Nat, s.heap.size ≤ q → A q := zA_of hAe
  have hS : va_S A s.heap s.heap [] := va_S.rf
  have hP : va_P (dC, dI) vwCl [(n0, .inr (11, .ref a_tape :: .int m_taped :: .int m_laws :: .ref a_sign :: .ref a_length :: .ref a_clause :: .ref a_clauses :: .ref a_chain :: .int m_next :: .int m_wrong :: .int m_number :: .int m_text :: .int m_made :: .int m_deep :: .int m_lines :: .ref a_open :: .int m_opened :: .ref a_stack :: .int m_top :: .ref a_word :: .ref a_said :: .ref a_kept :: [.int m_goNode, .int m_goDrops, .int m_goHour, .int m_goFelt, .int m_goSalt, .int m_goMore, .ref a_stepNode, .ref a_stepDrops, .ref a_stepHour, .ref a_stepNext, .ref a_stepPass, .int m_bestLeft, .int m_bestHour, .int m_bestMany, .ref a_bestPass, .ref a_far, .ref a_waited, .ref a_servers, .ref a_images, .ref a_isMade])), (a_said, .inl (kA 0, 360, .inl saidF))] s.heap := hP
  have hl := lv_entry ([.ref n0, .int p0, .int p1, .int p2, .int p3, .int p4]) (n := 6) (Nat.le_of_ble_eq_true rfl)
  rw [lg_entry_eq]
  generalize (lg_sl ([.ref n0, .int p0, .int p1, .int p2, .int p3, .int p4]) ++ List.replicate (6 - (lg_sl ([.ref n0, .int p0, .int p1, .int p2, .int p3, .int p4])).length) Slot.unset).toArray = ls at hl ⊢
  have hl : lv_has ls 6 [(0, .ref n0), (1, .int p0), (2, .int p1), (3, .int p2), (4, .int p3), (5, .int p4)] := hl
  obtain ⟨H, hHe⟩ : ∃ H : Heap, H = s.heap := ⟨_, rfl⟩
  obtain ⟨G, hG0⟩ : ∃ G : Int32, fX11_canTry m_laws zk p0 p1 p2 p3 p4 = G := ⟨_, rfl⟩
  have hG := hG0
  unfold fX11_canTry at hG
  have hz1 : saidF 0 = zn := hsc.1.1
  have hz2 : saidF 1 = zp := hsc.1.2.1
  have hz3 : saidF 2 = zj := hsc.1.2.2.1
  have hz4 : saidF 3 = zo := hsc.1.2.2.2.1
  have hz5 : saidF 4 = zf := hsc.1.2.2.2.2.1
  have hz6 : saidF 6 = zm := hsc.1.2.2.2.2.2.1
  have hz7 : saidF 8 = zk := hsc.1.2.2.2.2.2.2.1
  have hz8 : saidF 9 = zw := hsc.1.2.2.2.2.2.2.2
  have hz9 : ¬ zn < 0 := hsc.2.1.1
  have hz10 : ¬ 12 < zn := hsc.2.1.2
  have hz11 : ¬ zp < 0 := hsc.2.2.1.1
  have hz12 : ¬ 20 < zp := hsc.2.2.1.2
  have hz13 : ¬ zj < 0 := hsc.2.2.2.1.1
  have hz14 : ¬ 16 < zj := hsc.2.2.2.1.2
  have hz15 : ¬ zo < 0 := hsc.2.2.2.2.1.1
  have hz16 : ¬ 6 < zo := hsc.2.2.2.2.1.2
  have hz17 : ¬ zf < 0 := hsc.2.2.2.2.2.1.1
  have hz18 : ¬ 8 < zf := hsc.2.2.2.2.2.1.2
  have hz19 : ¬ zk < (-1) := hsc.2.2.2.2.2.2.1.1
  have hz20 : ¬ 12 ≤ zk := hsc.2.2.2.2.2.2.1.2
  have hz21 : ¬ zw < 0 := hsc.2.2.2.2.2.2.2.1.1
  have hz22 : ¬ 6 < zw := hsc.2.2.2.2.2.2.2.1.2
  refine lv_aload_n hx hb dX11_canTry_0 rfl (lv_at hl 0 rfl) ?_
  refine lv_iload_n hx hb dX11_canTry_1 rfl (lv_at hl 1 rfl) ?_
  refine z_i (wr := [(a_said, .inl (kA 0, 360, .inl saidF))]) (va_runV (As := [.int p0]) (rest := []) ⟨hx, hb, hml, hown, hts⟩ (mX11_isLaw l dC dI kA _ n0 m_taped m_laws m_next m_wrong m_number m_text m_made m_deep m_lines m_opened m_top m_goNode m_goDrops m_goHour m_goFelt m_goSalt m_goMore m_bestLeft m_bestHour m_bestMany a_tape a_sign a_length a_clause a_clauses a_chain a_open a_stack a_word a_said a_kept a_stepNode a_stepDrops a_stepHour a_stepNext a_stepPass a_bestPass a_far a_waited a_servers a_images a_isMade p0) (cwV 1 hts gX11_canTry_X11_isLaw rfl rfl rfl ⟨rfl, hdX11_isLaw⟩ ⟨(Nat.le_of_ble_eq_true rfl), (Nat.le_of_ble_eq_true rfl)⟩) ⟨zPc.blind, va_recv (q := (RX11, TX11, 42)) hK.1 hP (ci := 11) (q0 := 0) rfl rfl, zPre hK (hP.sub [0] rfl) (hD.sub [0] (by decide) rfl)⟩ rfl rfl hl.1 rfl (lv_room (Nat.le_of_ble_eq_true rfl)) dX11_canTry_2 ⟨(Nat.le_of_ble_eq_true rfl), (Nat.le_of_ble_eq_true rfl)⟩) hP hD hS hA [0] [1] rfl rfl (by decide) (by decide) (fun r25 u23 H locs hw24 hP hD hS => ?_)
  obtain rfl := hw24
  obtain ⟨hP, hD⟩ := z_re (L := [(a_said, .inl (kA 0, 360, .inl saidF)), (n0, .inr (11, .ref a_tape :: .int m_taped :: .int m_laws :: .ref a_sign :: .ref a_length :: .ref a_clause :: .ref a_clauses :: .ref a_chain :: .int m_next :: .int m_wrong :: .int m_number :: .int m_text :: .int m_made :: .int m_deep :: .int m_lines :: .ref a_open :: .int m_opened :: .ref a_stack :: .int m_top :: .ref a_word :: .ref a_said :: .ref a_kept :: [.int m_goNode, .int m_goDrops, .int m_goHour, .int m_goFelt, .int m_goSalt, .int m_goMore, .ref a_stepNode, .ref a_stepDrops, .ref a_stepHour, .ref a_stepNext, .ref a_stepPass, .int m_bestLeft, .int m_bestHour, .int m_bestMany, .ref a_bestPass, .ref a_far, .ref a_waited, .ref a_servers, .ref a_images, .ref a_isMade]))]) hP hD
  refine lv_if_eq (tgt := 45) hx hb dX11_canTry_5 (by decide) (fun c_26 => ?_) (fun c_26 => ?_)
  · have hG := zthen hG c_26
    refine lv_iconst (v := 0) hx hb dX11_canTry_45 (by decide) ?_
    obtain ⟨hP9, hD9⟩ := z_sb (L' := [(n0, .inr (11, .ref a_tape :: .int m_taped :: .int m_laws :: .ref a_sign :: .ref a_length :: .ref a_clause :: .ref a_clauses :: .ref a_chain :: .int m_next :: .int m_wrong :: .int m_number :: .int m_text :: .int m_made :: .int m_deep :: .int m_lines :: .ref a_open :: .int m_opened :: .ref a_stack :: .int m_top :: .ref a_word :: .ref a_said :: .ref a_kept :: [.int m_goNode, .int m_goDrops, .int m_goHour, .int m_goFelt, .int m_goSalt, .int m_goMore, .ref a_stepNode, .ref a_stepDrops, .ref a_stepHour, .ref a_stepNext, .ref a_stepPass, .int m_bestLeft, .int m_bestHour, .int m_bestMany, .ref a_bestPass, .ref a_far, .ref a_waited, .ref a_servers, .ref a_images, .ref a_isMade])), (a_said, .inl (kA 0, 360, .inl saidF))]) hP hD [1, 0] (by decide) rfl
    refine W.widen (k := 0) (n := 0) (Nat.le_of_ble_eq_true rfl) (Nat.le_of_ble_eq_true rfl) ?_
    exact W.zret (v := 0) hx hb hr rfl (fun t ht hW => ⟨⟨0, (0), rfl, ⟨rfl, (hG.trans hG0.symm), (gl_mX11_canTry_0 m_laws zk p0 hz19 hz20), (Or.inl rfl)⟩, by rw [ht]; exact hP9, hD9⟩, hS.F ht⟩) hS.2.2 dX11_canTry_46
  · have hG := zelse hG c_26
    have c_26a := hs_ne c_26
    have c_26b := c_26a.2
    have c_26a := c_26a.1
    refine lv_aload_n hx hb dX11_canTry_8 rfl (lv_at hl 0 rfl) ?_
    refine va_get (D := (dC, dI)) (ci := 11) (v := .ref a_said) (C := RX11) (T := TX11) (N := 42) hx hb hts iX11_canTry_X11 hown hK.1 hP 1 gz1 vcz11 20 (by decide) (kX11_canTry_1 hts) (fun _ h9 => h9) gz20 dX11_canTry_9 ?_
    refine lv_bipush (v := 8) hx hb dX11_canTry_12 (by decide) ?_
    refine va_iald hx hb hK.1 hP 0 0 gz0 tzz0 (vpd (by decide)) dX11_canTry_14 ?_
    refine zi zk hz7 ?_
    refine lv_if_lt (tgt := 45) hx hb dX11_canTry_15 (by decide) (fun c_27 => ?_) (fun c_27 => ?_)
    · have hG := zthen hG c_27
      refine lv_iconst (v := 0) hx hb dX11_canTry_45 (by decide) ?_
      obtain ⟨hP9, hD9⟩ := z_sb (L' := [(n0, .inr (11, .ref a_tape :: .int m_taped :: .int m_laws :: .ref a_sign :: .ref a_length :: .ref a_clause :: .ref a_clauses :: .ref a_chain :: .int m_next :: .int m_wrong :: .int m_number :: .int m_text :: .int m_made :: .int m_deep :: .int m_lines :: .ref a_open :: .int m_opened :: .ref a_stack :: .int m_top :: .ref a_word :: .ref a_said :: .ref a_kept :: [.int m_goNode, .int m_goDrops, .int m_goHour, .int m_goFelt, .int m_goSalt, .int m_goMore, .ref a_stepNode, .ref a_stepDrops, .ref a_stepHour, .ref a_stepNext, .ref a_stepPass, .int m_bestLeft, .int m_bestHour, .int m_bestMany, .ref a_bestPass, .ref a_far, .ref a_waited, .ref a_servers, .ref a_images, .ref a_isMade])), (a_said, .inl (kA 0, 360, .inl saidF))]) hP hD [1, 0] (by decide) rfl
      refine W.widen (k := 0) (n := 0) (Nat.le_of_ble_eq_true rfl) (Nat.le_of_ble_eq_true rfl) ?_
      exact W.zret (v := 0) hx hb hr rfl (fun t ht hW => ⟨⟨0, (0), rfl, ⟨rfl, (hG.trans hG0.symm), (gl_mX11_canTry_1 m_laws zk p0 hz19 hz20 c_26a c_26b c_27), (Or.inl rfl)⟩, by rw [ht]; exact hP9, hD9⟩, hS.F ht⟩) hS.2.2 dX11_canTry_46
    · have hG := zelse hG c_27
      refine lv_iload_n hx hb dX11_canTry_18 rfl (lv_at hl 2 rfl) ?_
      refine lv_i2l hx hb dX11_canTry_19 rfl ?_
      refine lv_lconst (v := 0) hx hb dX11_canTry_20 (by decide) ?_
      refine lv_ldc2 hx hb hown (kX11_canTry_2 hts) dX11_canTry_21 ?_
      refine z_i (wr := [(a_said, .inl (kA 0, 360, .inl saidF)), (n0, .inr (11, .ref a_tape :: .int m_taped :: .int m_laws :: .ref a_sign :: .ref a_length :: .ref a_clause :: .ref a_clauses :: .ref a_chain :: .int m_next :: .int m_wrong :: .int m_number :: .int m_text :: .int m_made :: .int m_deep :: .int m_lines :: .ref a_open :: .int m_opened :: .ref a_stack :: .int m_top :: .ref a_word :: .ref a_said :: .ref a_kept :: [.int m_goNode, .int m_goDrops, .int m_goHour, .int m_goFelt, .int m_goSalt, .int m_goMore, .ref a_stepNode, .ref a_stepDrops, .ref a_stepHour, .ref a_stepNext, .ref a_stepPass, .int m_bestLeft, .int m_bestHour, .int m_bestMany, .ref a_bestPass, .ref a_far, .ref a_waited, .ref a_servers, .ref a_images, .ref a_isMade]))]) (va_runS (As := [.long p1.toInt64, .long 0, .long 99999]) (rest := []) ⟨hx, hb, hml, hown, hts⟩ (mX11_in l dC dI kA _ p1.toInt64 0 99999) (va_cwS 3 hts gX11_canTry_X11_in rfl rfl rfl hdX11_in ⟨(Nat.le_of_ble_eq_true rfl), (Nat.le_of_ble_eq_true rfl)⟩) ⟨zPc.blind, zPre hK (hP.sub [] rfl) (hD.sub [] (by decide) rfl)⟩ rfl rfl hl.1 rfl (lv_room (Nat.le_of_ble_eq_true rfl)) dX11_canTry_24 ⟨(Nat.le_of_ble_eq_true rfl), (Nat.le_of_ble_eq_true rfl)⟩) hP hD hS hA [] [0, 1] rfl rfl (by decide) (by decide) (fun r30 u28 H locs hw29 hP hD hS => ?_)
      obtain rfl := hw29
      obtain ⟨hP, hD⟩ := z_re (L := [(a_said, .inl (kA 0, 360, .inl saidF)), (n0, .inr (11, .ref a_tape :: .int m_taped :: .int m_laws :: .ref a_sign :: .ref a_length :: .ref a_clause :: .ref a_clauses :: .ref a_chain :: .int m_next :: .int m_wrong :: .int m_number :: .int m_text :: .int m_made :: .int m_deep :: .int m_lines :: .ref a_open :: .int m_opened :: .ref a_stack :: .int m_top :: .ref a_word :: .ref a_said :: .ref a_kept :: [.int m_goNode, .int m_goDrops, .int m_goHour, .int m_goFelt, .int m_goSalt, .int m_goMore, .ref a_stepNode, .ref a_stepDrops, .ref a_stepHour, .ref a_stepNext, .ref a_stepPass, .int m_bestLeft, .int m_bestHour, .int m_bestMany, .ref a_bestPass, .ref a_far, .ref a_waited, .ref a_servers, .ref a_images, .ref a_isMade]))]) hP hD
      refine lv_if_eq (tgt := 45) hx hb dX11_canTry_27 (by decide) (fun c_31 => ?_) (fun c_31 => ?_)
      · have hG := zthen hG c_31
        refine lv_iconst (v := 0) hx hb dX11_canTry_45 (by decide) ?_
        obtain ⟨hP9, hD9⟩ := z_sb (L' := [(n0, .inr (11, .ref a_tape :: .int m_taped :: .int m_laws :: .ref a_sign :: .ref a_length :: .ref a_clause :: .ref a_clauses :: .ref a_chain :: .int m_next :: .int m_wrong :: .int m_number :: .int m_text :: .int m_made :: .int m_deep :: .int m_lines :: .ref a_open :: .int m_opened :: .ref a_stack :: .int m_top :: .ref a_word :: .ref a_said :: .ref a_kept :: [.int m_goNode, .int m_goDrops, .int m_goHour, .int m_goFelt, .int m_goSalt, .int m_goMore, .ref a_stepNode, .ref a_stepDrops, .ref a_stepHour, .ref a_stepNext, .ref a_stepPass, .int m_bestLeft, .int m_bestHour, .int m_bestMany, .ref a_bestPass, .ref a_far, .ref a_waited, .ref a_servers, .ref a_images, .ref a_isMade])), (a_said, .inl (kA 0, 360, .inl saidF))]) hP hD [1, 0] (by decide) rfl
        refine W.widen (k := 0) (n := 0) (Nat.le_of_ble_eq_true rfl) (Nat.le_of_ble_eq_true rfl) ?_
        exact W.zret (v := 0) hx hb hr rfl (fun t ht hW => ⟨⟨0, (0), rfl, ⟨rfl, (hG.trans hG0.symm), (gl_mX11_canTry_2 m_laws zk p0 hz19 hz20 c_26a c_26b c_27), (Or.inl rfl)⟩, by rw [ht]; exact hP9, hD9⟩, hS.F ht⟩) hS.2.2 dX11_canTry_46
      · have hG := zelse hG c_31
        have c_31a := li_ne (lo := 0) (hi := 99999) (by decide) (by decide) c_31
        have c_31b := c_31a.2
        have c_31a := c_31a.1
        refine lv_iload_n hx hb dX11_canTry_30 rfl (lv_at hl 3 rfl) ?_
        refine lv_iload hx hb dX11_canTry_31 (lv_at hl 4 rfl) ?_
        refine lv_iload hx hb dX11_canTry_33 (lv_at hl 5 rfl) ?_
        refine z_i (wr := [(a_said, .inl (kA 0, 360, .inl saidF)), (n0, .inr (11, .ref a_tape :: .int m_taped :: .int m_laws :: .ref a_sign :: .ref a_length :: .ref a_clause :: .ref a_clauses :: .ref a_chain :: .int m_next :: .int m_wrong :: .int m_number :: .int m_text :: .int m_made :: .int m_deep :: .int m_lines :: .ref a_open :: .int m_opened :: .ref a_stack :: .int m_top :: .ref a_word :: .ref a_said :: .ref a_kept :: [.int m_goNode, .int m_goDrops, .int m_goHour, .int m_goFelt, .int m_goSalt, .int m_goMore, .ref a_stepNode, .ref a_stepDrops, .ref a_stepHour, .ref a_stepNext, .ref a_stepPass, .int m_bestLeft, .int m_bestHour, .int m_bestMany, .ref a_bestPass, .ref a_far, .ref a_waited, .ref a_servers, .ref a_images, .ref a_isMade]))]) (va_runS (As := [.int p2, .int p3, .int p4]) (rest := []) ⟨hx, hb, hml, hown, hts⟩ (mX11_isJarLike l dC dI kA _ p2 p3 p4) (va_cwS 3 hts gX11_canTry_X11_isJarLike rfl rfl rfl hdX11_isJarLike ⟨(Nat.le_of_ble_eq_true rfl), (Nat.le_of_ble_eq_true rfl)⟩) ⟨zPc.blind, zPre hK (hP.sub [] rfl) (hD.sub [] (by decide) rfl)⟩ rfl rfl hl.1 rfl (lv_room (Nat.le_of_ble_eq_true rfl)) dX11_canTry_35 ⟨(Nat.le_of_ble_eq_true rfl), (Nat.le_of_ble_eq_true rfl)⟩) hP hD hS hA [] [0, 1] rfl rfl (by decide) (by decide) (fun r34 u32 H locs hw33 hP hD hS => ?_)
        obtain ⟨er38, hp36, hp37⟩ := hw33
        have er38 : r34 = u32 := er38
        subst er38
        have er34 : r34 = fX11_isJarLike p2 p3 p4 := hp36
        have hG := zbnd hG er34
        obtain ⟨hP, hD⟩ := z_re (L := [(a_said, .inl (kA 0, 360, .inl saidF)), (n0, .inr (11, .ref a_tape :: .int m_taped :: .int m_laws :: .ref a_sign :: .ref a_length :: .ref a_clause :: .ref a_clauses :: .ref a_chain :: .int m_next :: .int m_wrong :: .int m_number :: .int m_text :: .int m_made :: .int m_deep :: .int m_lines :: .ref a_open :: .int m_opened :: .ref a_stack :: .int m_top :: .ref a_word :: .ref a_said :: .ref a_kept :: [.int m_goNode, .int m_goDrops, .int m_goHour, .int m_goFelt, .int m_goSalt, .int m_goMore, .ref a_stepNode, .ref a_stepDrops, .ref a_stepHour, .ref a_stepNext, .ref a_stepPass, .int m_bestLeft, .int m_bestHour, .int m_bestMany, .ref a_bestPass, .ref a_far, .ref a_waited, .ref a_servers, .ref a_images, .ref a_isMade]))]) hP hD
        refine lv_if_eq (tgt := 45) hx hb dX11_canTry_38 (by decide) (fun c_40 => ?_) (fun c_40 => ?_)
        · have hG := zthen hG c_40
          refine lv_iconst (v := 0) hx hb dX11_canTry_45 (by decide) ?_
          obtain ⟨hP9, hD9⟩ := z_sb (L' := [(n0, .inr (11, .ref a_tape :: .int m_taped :: .int m_laws :: .ref a_sign :: .ref a_length :: .ref a_clause :: .ref a_clauses :: .ref a_chain :: .int m_next :: .int m_wrong :: .int m_number :: .int m_text :: .int m_made :: .int m_deep :: .int m_lines :: .ref a_open :: .int m_opened :: .ref a_stack :: .int m_top :: .ref a_word :: .ref a_said :: .ref a_kept :: [.int m_goNode, .int m_goDrops, .int m_goHour, .int m_goFelt, .int m_goSalt, .int m_goMore, .ref a_stepNode, .ref a_stepDrops, .ref a_stepHour, .ref a_stepNext, .ref a_stepPass, .int m_bestLeft, .int m_bestHour, .int m_bestMany, .ref a_bestPass, .ref a_far, .ref a_waited, .ref a_servers, .ref a_images, .ref a_isMade])), (a_said, .inl (kA 0, 360, .inl saidF))]) hP hD [1, 0] (by decide) rfl
          refine W.widen (k := 0) (n := 0) (Nat.le_of_ble_eq_true rfl) (Nat.le_of_ble_eq_true rfl) ?_
          exact W.zret (v := 0) hx hb hr rfl (fun t ht hW => ⟨⟨0, (0), rfl, ⟨rfl, (hG.trans hG0.symm), (gl_mX11_canTry_2 m_laws zk p0 hz19 hz20 c_26a c_26b c_27), (Or.inl rfl)⟩, by rw [ht]; exact hP9, hD9⟩, hS.F ht⟩) hS.2.2 dX11_canTry_46
        · have hG := zelse hG c_40
          refine lv_iconst (v := 1) hx hb dX11_canTry_41 (by decide) ?_
          refine lv_goto (tgt := 46) hx hb dX11_canTry_42 (by decide) ?_
          obtain ⟨hP9, hD9⟩ := z_sb (L' := [(n0, .inr (11, .ref a_tape :: .int m_taped :: .int m_laws :: .ref a_sign :: .ref a_length :: .ref a_clause :: .ref a_clauses :: .ref a_chain :: .int m_next :: .int m_wrong :: .int m_number :: .int m_text :: .int m_made :: .int m_deep :: .int m_lines :: .ref a_open :: .int m_opened :: .ref a_stack :: .int m_top :: .ref a_word :: .ref a_said :: .ref a_kept :: [.int m_goNode, .int m_goDrops, .int m_goHour, .int m_goFelt, .int m_goSalt, .int m_goMore, .ref a_stepNode, .ref a_stepDrops, .ref a_stepHour, .ref a_stepNext, .ref a_stepPass, .int m_bestLeft, .int m_bestHour, .int m_bestMany, .ref a_bestPass, .ref a_far, .ref a_waited, .ref a_servers, .ref a_images, .ref a_isMade])), (a_said, .inl (kA 0, 360, .inl saidF))]) hP hD [1, 0] (by decide) rfl
          refine W.widen (k := 0) (n := 0) (Nat.le_of_ble_eq_true rfl) (Nat.le_of_ble_eq_true rfl) ?_
          exact W.zret (v := 1) hx hb hr rfl (fun t ht hW => ⟨⟨1, (1), rfl, ⟨rfl, (hG.trans hG0.symm), (gl_mX11_canTry_3 m_laws zk p0 hz19 hz20 c_26a c_26b c_27), (Or.inr rfl)⟩, by rw [ht]; exact hP9, hD9⟩, hS.F ht⟩) hS.2.2 dX11_canTry_46
