def ixX11_end : List Nat := [264, 276, 1499, 1500, 1501, 1502, 1503, 1504, 1505, 1506, 1507, 1508, 1509, 1510, 1511, 1512, 1513, 1514, 1515, 1516, 1517, 1518, 1519, 1520, 1521, 1522, 1523, 1524, 1525, 1526, 1527, 1528, 1529, 1530, 1531, 1532, 1533, 1534, 1535, 1536, 1537, 1538, 1539, 1540]
def wsX11_end : List Cond := .code yX11_end cX11_end 2 (some .int) :: ixX11_end.map wt
def ixX11_fails : List Nat := [462, 489, 1499, 1500, 1501, 1502, 1503, 1504, 1505, 1506, 1507, 1508, 1509, 1510, 1511, 1512, 1513, 1514, 1515, 1516, 1517, 1518, 1519, 1520, 1521, 1522, 1523, 1524, 1525, 1526, 1527, 1528, 1529, 1530, 1531, 1532, 1533, 1534, 1535, 1536, 1537, 1538, 1539, 1540]
def wsX11_fails : List Cond := .code yX11_fails cX11_fails 3 (some .boolean) :: ixX11_fails.map wt
def ixX11_feed : List Nat := [5, 143, 263, 264, 265, 266, 267, 268, 1499, 1500, 1501, 1502, 1503, 1504, 1505, 1506, 1507, 1508, 1509, 1510, 1511, 1512, 1513, 1514, 1515, 1516, 1517, 1518, 1519, 1520, 1521, 1522, 1523, 1524, 1525, 1526, 1527, 1528, 1529, 1530, 1531, 1532, 1533, 1534, 1535, 1536, 1537, 1538, 1539, 1540]
def wsX11_feed : List Cond := .code yX11_feed cX11_feed 6 (some .int) :: ixX11_feed.map wt
def ixX11_four : List Nat := [143, 264, 268, 1499, 1500, 1501, 1502, 1503, 1504, 1505, 1506, 1507, 1508, 1509, 1510, 1511, 1512, 1513, 1514, 1515, 1516, 1517, 1518, 1519, 1520, 1521, 1522, 1523, 1524, 1525, 1526, 1527, 1528, 1529, 1530, 1531, 1532, 1533, 1534, 1535, 1536, 1537, 1538, 1539, 1540]
def wsX11_four : List Cond := .code yX11_four cX11_four 3 none :: ixX11_four.map wt
theorem ggX11_feed_X11_four : GoodIn wsX11_feed wsX11_four := gi_ (A := ixX11_feed) (B := ixX11_four) wt268 (by decide +kernel)
theorem gX11_feed_X11_four : GoodIn wsX11_feed (wsV RX11 83 RX11 yX11_four wsX11_four) := g4_ (A := ixX11_feed) wt265 wt266 wt267 wt5 (by decide +kernel) ggX11_feed_X11_four
theorem kX11_four_1 {a : Array Value} {s : State} (hts : ∀ w ∈ wsX11_four, w.before a s = true) : (.fieldLink RX11 7 "SnowMulesModel" "tape" "[B" : Cond).before a s = true := kw (A := ixX11_four) wt143 hts (by decide +kernel)
theorem kX11_four_2 {a : Array Value} {s : State} (hts : ∀ w ∈ wsX11_four, w.before a s = true) : (.fieldLink RX11 79 "SnowMulesModel" "taped" "I" : Cond).before a s = true := kw (A := ixX11_four) wt264 hts (by decide +kernel)
theorem kX11_feed_1 {a : Array Value} {s : State} (hts : ∀ w ∈ wsX11_feed, w.before a s = true) : (.fieldLink RX11 79 "SnowMulesModel" "taped" "I" : Cond).before a s = true := kw (A := ixX11_feed) wt264 hts (by decide +kernel)
theorem kX11_end_1 {a : Array Value} {s : State} (hts : ∀ w ∈ wsX11_end, w.before a s = true) : (.fieldLink RX11 79 "SnowMulesModel" "taped" "I" : Cond).before a s = true := kw (A := ixX11_end) wt264 hts (by decide +kernel)
theorem kX11_fails_1 {a : Array Value} {s : State} (hts : ∀ w ∈ wsX11_fails, w.before a s = true) : (.fieldLink RX11 87 "SnowMulesModel" "wrong" "I" : Cond).before a s = true := kw (A := ixX11_fails) wt462 hts (by decide +kernel)
theorem iX11_four_X11 : ∀ w ∈ wsX110, w ∈ wsX11_four := inW (A := ixX11_four) uwX11 (by decide +kernel)
theorem iX11_feed_X11 : ∀ w ∈ wsX110, w ∈ wsX11_feed := inW (A := ixX11_feed) uwX11 (by decide +kernel)
theorem iX11_end_X11 : ∀ w ∈ wsX110, w ∈ wsX11_end := inW (A := ixX11_end) uwX11 (by decide +kernel)
theorem iX11_fails_X11 : ∀ w ∈ wsX110, w ∈ wsX11_fails := inW (A := ixX11_fails) uwX11 (by decide +kernel)
theorem hdX11_four : yX11_four.cls ≠ "java/lang/invoke/MethodHandle" ∧ yX11_four.cls ≠ "java/lang/invoke/VarHandle" ∧ (parseMethodDescriptor yX11_four.desc).map (fun d => d.parameters.length) = some 1 := ⟨hdc_0.1, hdc_0.2, hdd_17⟩
def dtX11_four_24_0 : List (Nat × Jvm.ClassFile.Instr × Nat) := [(0, .bipush 24, 2), (2, .istore_n 2, 1), (3, .iload_n 2, 1), (4, .ifCond .lt 32, 3), (7, .aload_n 0, 1), (8, .getfield 7, 3), (11, .aload_n 0, 1), (12, .getfield 79, 3), (15, .iload_n 1, 1), (16, .iload_n 2, 1), (17, .ishr, 1), (18, .i2b, 1), (19, .bastore, 1), (20, .aload_n 0, 1), (21, .dup, 1), (22, .getfield 79, 3), (25, .iconst 1, 1), (26, .iadd, 1), (27, .putfield 79, 3), (30, .iinc 2 (-8), 3), (33, .goto (-30), 3), (36, .return_, 1)]
theorem daX11_four_24_0 : dtX11_four_24_0.all (dqd cX11_four) = true := by decide +kernel
theorem dX11_four_0 : decode cX11_four 0 = .ok (.bipush 24, 2) := dq daX11_four_24_0 0 rfl
theorem dX11_four_2 : decode cX11_four 2 = .ok (.istore_n 2, 1) := dq daX11_four_24_0 1 rfl
theorem dX11_four_3 : decode cX11_four 3 = .ok (.iload_n 2, 1) := dq daX11_four_24_0 2 rfl
theorem dX11_four_4 : decode cX11_four 4 = .ok (.ifCond .lt 32, 3) := dq daX11_four_24_0 3 rfl
theorem dX11_four_7 : decode cX11_four 7 = .ok (.aload_n 0, 1) := dq daX11_four_24_0 4 rfl
theorem dX11_four_8 : decode cX11_four 8 = .ok (.getfield 7, 3) := dq daX11_four_24_0 5 rfl
theorem dX11_four_11 : decode cX11_four 11 = .ok (.aload_n 0, 1) := dq daX11_four_24_0 6 rfl
theorem dX11_four_12 : decode cX11_four 12 = .ok (.getfield 79, 3) := dq daX11_four_24_0 7 rfl
theorem dX11_four_15 : decode cX11_four 15 = .ok (.iload_n 1, 1) := dq daX11_four_24_0 8 rfl
theorem dX11_four_16 : decode cX11_four 16 = .ok (.iload_n 2, 1) := dq daX11_four_24_0 9 rfl
theorem dX11_four_17 : decode cX11_four 17 = .ok (.ishr, 1) := dq daX11_four_24_0 10 rfl
theorem dX11_four_18 : decode cX11_four 18 = .ok (.i2b, 1) := dq daX11_four_24_0 11 rfl
theorem dX11_four_19 : decode cX11_four 19 = .ok (.bastore, 1) := dq daX11_four_24_0 12 rfl
theorem dX11_four_20 : decode cX11_four 20 = .ok (.aload_n 0, 1) := dq daX11_four_24_0 13 rfl
theorem dX11_four_21 : decode cX11_four 21 = .ok (.dup, 1) := dq daX11_four_24_0 14 rfl
theorem dX11_four_22 : decode cX11_four 22 = .ok (.getfield 79, 3) := dq daX11_four_24_0 15 rfl
theorem dX11_four_25 : decode cX11_four 25 = .ok (.iconst 1, 1) := dq daX11_four_24_0 16 rfl
theorem dX11_four_26 : decode cX11_four 26 = .ok (.iadd, 1) := dq daX11_four_24_0 17 rfl
theorem dX11_four_27 : decode cX11_four 27 = .ok (.putfield 79, 3) := dq daX11_four_24_0 18 rfl
theorem dX11_four_30 : decode cX11_four 30 = .ok (.iinc 2 (-8), 3) := dq daX11_four_24_0 19 rfl
theorem dX11_four_33 : decode cX11_four 33 = .ok (.goto (-30), 3) := dq daX11_four_24_0 20 rfl
theorem dX11_four_36 : decode cX11_four 36 = .ok (.return_, 1) := dq daX11_four_24_0 21 rfl
def dtX11_feed_24_0 : List (Nat × Jvm.ClassFile.Instr × Nat) := [(0, .aload_n 0, 1), (1, .getfield 79, 3), (4, .bipush 20, 2), (6, .iadd, 1), (7, .sipush 400, 3), (10, .if_icmp .le 5, 3), (15, .aload_n 0, 1), (16, .iload_n 1, 1), (17, .invokevirtual 83, 3), (20, .aload_n 0, 1), (21, .iload_n 2, 1), (22, .invokevirtual 83, 3), (25, .aload_n 0, 1), (26, .iload_n 3, 1), (27, .invokevirtual 83, 3), (30, .aload_n 0, 1), (31, .iload 4, 2), (33, .invokevirtual 83, 3), (36, .aload_n 0, 1), (37, .iload 5, 2), (39, .invokevirtual 83, 3), (42, .aload_n 0, 1), (43, .getfield 79, 3), (13, .iconst (-1), 1), (14, .ireturn, 1), (46, .ireturn, 1)]
theorem daX11_feed_24_0 : dtX11_feed_24_0.all (dqd cX11_feed) = true := by decide +kernel
theorem dX11_feed_0 : decode cX11_feed 0 = .ok (.aload_n 0, 1) := dq daX11_feed_24_0 0 rfl
theorem dX11_feed_1 : decode cX11_feed 1 = .ok (.getfield 79, 3) := dq daX11_feed_24_0 1 rfl
theorem dX11_feed_4 : decode cX11_feed 4 = .ok (.bipush 20, 2) := dq daX11_feed_24_0 2 rfl
theorem dX11_feed_6 : decode cX11_feed 6 = .ok (.iadd, 1) := dq daX11_feed_24_0 3 rfl
theorem dX11_feed_7 : decode cX11_feed 7 = .ok (.sipush 400, 3) := dq daX11_feed_24_0 4 rfl
theorem dX11_feed_10 : decode cX11_feed 10 = .ok (.if_icmp .le 5, 3) := dq daX11_feed_24_0 5 rfl
theorem dX11_feed_15 : decode cX11_feed 15 = .ok (.aload_n 0, 1) := dq daX11_feed_24_0 6 rfl
theorem dX11_feed_16 : decode cX11_feed 16 = .ok (.iload_n 1, 1) := dq daX11_feed_24_0 7 rfl
theorem dX11_feed_17 : decode cX11_feed 17 = .ok (.invokevirtual 83, 3) := dq daX11_feed_24_0 8 rfl
theorem dX11_feed_20 : decode cX11_feed 20 = .ok (.aload_n 0, 1) := dq daX11_feed_24_0 9 rfl
theorem dX11_feed_21 : decode cX11_feed 21 = .ok (.iload_n 2, 1) := dq daX11_feed_24_0 10 rfl
theorem dX11_feed_22 : decode cX11_feed 22 = .ok (.invokevirtual 83, 3) := dq daX11_feed_24_0 11 rfl
theorem dX11_feed_25 : decode cX11_feed 25 = .ok (.aload_n 0, 1) := dq daX11_feed_24_0 12 rfl
theorem dX11_feed_26 : decode cX11_feed 26 = .ok (.iload_n 3, 1) := dq daX11_feed_24_0 13 rfl
theorem dX11_feed_27 : decode cX11_feed 27 = .ok (.invokevirtual 83, 3) := dq daX11_feed_24_0 14 rfl
theorem dX11_feed_30 : decode cX11_feed 30 = .ok (.aload_n 0, 1) := dq daX11_feed_24_0 15 rfl
theorem dX11_feed_31 : decode cX11_feed 31 = .ok (.iload 4, 2) := dq daX11_feed_24_0 16 rfl
theorem dX11_feed_33 : decode cX11_feed 33 = .ok (.invokevirtual 83, 3) := dq daX11_feed_24_0 17 rfl
theorem dX11_feed_36 : decode cX11_feed 36 = .ok (.aload_n 0, 1) := dq daX11_feed_24_0 18 rfl
theorem dX11_feed_37 : decode cX11_feed 37 = .ok (.iload 5, 2) := dq daX11_feed_24_0 19 rfl
theorem dX11_feed_39 : decode cX11_feed 39 = .ok (.invokevirtual 83, 3) := dq daX11_feed_24_0 20 rfl
theorem dX11_feed_42 : decode cX11_feed 42 = .ok (.aload_n 0, 1) := dq daX11_feed_24_0 21 rfl
theorem dX11_feed_43 : decode cX11_feed 43 = .ok (.getfield 79, 3) := dq daX11_feed_24_0 22 rfl
theorem dX11_feed_13 : decode cX11_feed 13 = .ok (.iconst (-1), 1) := dq daX11_feed_24_0 23 rfl
theorem dX11_feed_14 : decode cX11_feed 14 = .ok (.ireturn, 1) := dq daX11_feed_24_0 24 rfl
theorem dX11_feed_46 : decode cX11_feed 46 = .ok (.ireturn, 1) := dq daX11_feed_24_0 25 rfl
def dtX11_end_24_0 : List (Nat × Jvm.ClassFile.Instr × Nat) := [(0, .iload_n 1, 1), (1, .ifCond .lt 11, 3), (12, .iconst (-1), 1), (13, .ireturn, 1), (4, .iload_n 1, 1), (5, .aload_n 0, 1), (6, .getfield 79, 3), (9, .if_icmp .le 5, 3), (14, .aload_n 0, 1), (15, .iload_n 1, 1), (16, .putfield 79, 3), (19, .iload_n 1, 1), (20, .ireturn, 1)]
theorem daX11_end_24_0 : dtX11_end_24_0.all (dqd cX11_end) = true := by decide +kernel
theorem dX11_end_0 : decode cX11_end 0 = .ok (.iload_n 1, 1) := dq daX11_end_24_0 0 rfl
theorem dX11_end_1 : decode cX11_end 1 = .ok (.ifCond .lt 11, 3) := dq daX11_end_24_0 1 rfl
theorem dX11_end_12 : decode cX11_end 12 = .ok (.iconst (-1), 1) := dq daX11_end_24_0 2 rfl
theorem dX11_end_13 : decode cX11_end 13 = .ok (.ireturn, 1) := dq daX11_end_24_0 3 rfl
theorem dX11_end_4 : decode cX11_end 4 = .ok (.iload_n 1, 1) := dq daX11_end_24_0 4 rfl
theorem dX11_end_5 : decode cX11_end 5 = .ok (.aload_n 0, 1) := dq daX11_end_24_0 5 rfl
theorem dX11_end_6 : decode cX11_end 6 = .ok (.getfield 79, 3) := dq daX11_end_24_0 6 rfl
theorem dX11_end_9 : decode cX11_end 9 = .ok (.if_icmp .le 5, 3) := dq daX11_end_24_0 7 rfl
theorem dX11_end_14 : decode cX11_end 14 = .ok (.aload_n 0, 1) := dq daX11_end_24_0 8 rfl
theorem dX11_end_15 : decode cX11_end 15 = .ok (.iload_n 1, 1) := dq daX11_end_24_0 9 rfl
theorem dX11_end_16 : decode cX11_end 16 = .ok (.putfield 79, 3) := dq daX11_end_24_0 10 rfl
theorem dX11_end_19 : decode cX11_end 19 = .ok (.iload_n 1, 1) := dq daX11_end_24_0 11 rfl
theorem dX11_end_20 : decode cX11_end 20 = .ok (.ireturn, 1) := dq daX11_end_24_0 12 rfl
def dtX11_fails_24_0 : List (Nat × Jvm.ClassFile.Instr × Nat) := [(0, .aload_n 0, 1), (1, .getfield 87, 3), (4, .ifCond .ne 15, 3), (19, .iconst 0, 1), (20, .ireturn, 1), (7, .aload_n 0, 1), (8, .iconst 1, 1), (9, .bipush 8, 2), (11, .iload_n 2, 1), (12, .imul, 1), (13, .iadd, 1), (14, .iload_n 1, 1), (15, .iadd, 1), (16, .putfield 87, 3)]
theorem daX11_fails_24_0 : dtX11_fails_24_0.all (dqd cX11_fails) = true := by decide +kernel
theorem dX11_fails_0 : decode cX11_fails 0 = .ok (.aload_n 0, 1) := dq daX11_fails_24_0 0 rfl
theorem dX11_fails_1 : decode cX11_fails 1 = .ok (.getfield 87, 3) := dq daX11_fails_24_0 1 rfl
theorem dX11_fails_4 : decode cX11_fails 4 = .ok (.ifCond .ne 15, 3) := dq daX11_fails_24_0 2 rfl
theorem dX11_fails_19 : decode cX11_fails 19 = .ok (.iconst 0, 1) := dq daX11_fails_24_0 3 rfl
theorem dX11_fails_20 : decode cX11_fails 20 = .ok (.ireturn, 1) := dq daX11_fails_24_0 4 rfl
theorem dX11_fails_7 : decode cX11_fails 7 = .ok (.aload_n 0, 1) := dq daX11_fails_24_0 5 rfl
theorem dX11_fails_8 : decode cX11_fails 8 = .ok (.iconst 1, 1) := dq daX11_fails_24_0 6 rfl
theorem dX11_fails_9 : decode cX11_fails 9 = .ok (.bipush 8, 2) := dq daX11_fails_24_0 7 rfl
theorem dX11_fails_11 : decode cX11_fails 11 = .ok (.iload_n 2, 1) := dq daX11_fails_24_0 8 rfl
theorem dX11_fails_12 : decode cX11_fails 12 = .ok (.imul, 1) := dq daX11_fails_24_0 9 rfl
theorem dX11_fails_13 : decode cX11_fails 13 = .ok (.iadd, 1) := dq daX11_fails_24_0 10 rfl
theorem dX11_fails_14 : decode cX11_fails 14 = .ok (.iload_n 1, 1) := dq daX11_fails_24_0 11 rfl
theorem dX11_fails_15 : decode cX11_fails 15 = .ok (.iadd, 1) := dq daX11_fails_24_0 12 rfl
theorem dX11_fails_16 : decode cX11_fails 16 = .ok (.putfield 87, 3) := dq daX11_fails_24_0 13 rfl
theorem gl_mX11_four_0 (m_taped : Int32) (x6 : Int32) (h0 : ¬ m_taped < 0) (h1 : ¬ 396 < m_taped) (h2 : x6 = (m_taped + 1)) : (¬ x6 < 0 ∧ ¬ 400 ≤ x6) := by grind
theorem gl_mX11_four_1 (m_taped : Int32) (x6 : Int32) (x12 : Int32) (h0 : ¬ m_taped < 0) (h1 : ¬ 396 < m_taped) (h2 : x6 = (m_taped + 1)) (h3 : x12 = (x6 + 1)) : (¬ x12 < 0 ∧ ¬ 400 ≤ x12) := by grind
theorem gl_mX11_four_2 (m_taped : Int32) (x6 : Int32) (x12 : Int32) (x18 : Int32) (h0 : ¬ m_taped < 0) (h1 : ¬ 396 < m_taped) (h2 : x6 = (m_taped + 1)) (h3 : x12 = (x6 + 1)) (h4 : x18 = (x12 + 1)) : (¬ x18 < 0 ∧ ¬ 400 ≤ x18) := by grind
theorem gl_mX11_four_3 (m_taped : Int32) (x6 : Int32) (x12 : Int32) (x18 : Int32) (x24 : Int32) (h0 : ¬ m_taped < 0) (h1 : ¬ 396 < m_taped) (h2 : x6 = (m_taped + 1)) (h3 : x12 = (x6 + 1)) (h4 : x18 = (x12 + 1)) (h5 : x24 = (x18 + 1)) : x24 = (m_taped + 4) := by grind
set_option maxRecDepth 100000 in
def fX11_four (m_taped : Int32) (tapeF : Nat → Int32) (p0 : Int32) : Int32 × (Nat → Int32) := bnd ((p0 >>> (24 &&& 31))) (fun (x2 : Int32) => bnd (((x2 : Int32).toInt8.toInt32)) (fun (x3 : Int32) => bnd ((upd tapeF m_taped.toNatClampNeg (vp_nar .byte x3))) (fun (f4 : Nat → Int32) => bnd ((m_taped + 1)) (fun (x6 : Int32) => bnd ((p0 >>> (16 &&& 31))) (fun (x8 : Int32) => bnd (((x8 : Int32).toInt8.toInt32)) (fun (x9 : Int32) => bnd ((upd f4 x6.toNatClampNeg (vp_nar .byte x9))) (fun (f10 : Nat → Int32) => bnd ((x6 + 1)) (fun (x12 : Int32) => bnd ((p0 >>> (8 &&& 31))) (fun (x14 : Int32) => bnd (((x14 : Int32).toInt8.toInt32)) (fun (x15 : Int32) => bnd ((upd f10 x12.toNatClampNeg (vp_nar .byte x15))) (fun (f16 : Nat → Int32) => bnd ((x12 + 1)) (fun (x18 : Int32) => bnd ((p0 >>> (0 &&& 31))) (fun (x20 : Int32) => bnd (((x20 : Int32).toInt8.toInt32)) (fun (x21 : Int32) => bnd ((upd f16 x18.toNatClampNeg (vp_nar .byte x21))) (fun (f22 : Nat → Int32) => bnd ((x18 + 1)) (fun (x24 : Int32) => (x24, f22)))))))))))))))))
set_option maxHeartbeats 4000000 in
set_option maxRecDepth 100000 in
theorem mX11_four (l : Launch) (dC : Nat → ClassId) (dI : Nat → Nat → Nat) (kA : Nat → ClassId) (sz : Nat) (n0 : Nat) (m_taped : Int32) (m_laws : Int32) (m_next : Int32) (m_wrong : Int32) (m_number : Int32) (m_text : Int32) (m_made : Int32) (m_deep : Int32) (m_lines : Int32) (m_opened : Int32) (m_top : Int32) (m_goNode : Int32) (m_goDrops : Int32) (m_goHour : Int32) (m_goFelt : Int32) (m_goSalt : Int32) (m_goMore : Int32) (m_bestLeft : Int32) (m_bestHour : Int32) (m_bestMany : Int32) (a_tape : Nat) (a_sign : Nat) (a_length : Nat) (a_clause : Nat) (a_clauses : Nat) (a_chain : Nat) (a_open : Nat) (a_stack : Nat) (a_word : Nat) (a_said : Nat) (a_kept : Nat) (a_stepNode : Nat) (a_stepDrops : Nat) (a_stepHour : Nat) (a_stepNext : Nat) (a_stepPass : Nat) (a_bestPass : Nat) (a_far : Nat) (a_waited : Nat) (a_servers : Nat) (a_images : Nat) (a_isMade : Nat) (tapeF : Nat → Int32) (p0 : Int32) (t0_ : ¬ m_taped < 0) (t1_ : ¬ 396 < m_taped) : Met l yX11_four wsX11_four ({ frames := 0, cells := 0, slots := 0, locals := 0 }) (zPc dC dI kA sz [.ref n0, .int p0] [(n0, .inr (11, .ref a_tape :: .int m_taped :: .int m_laws :: .ref a_sign :: .ref a_length :: .ref a_clause :: .ref a_clauses :: .ref a_chain :: .int m_next :: .int m_wrong :: .int m_number :: .int m_text :: .int m_made :: .int m_deep :: .int m_lines :: .ref a_open :: .int m_opened :: .ref a_stack :: .int m_top :: .ref a_word :: .ref a_said :: .ref a_kept :: [.int m_goNode, .int m_goDrops, .int m_goHour, .int m_goFelt, .int m_goSalt, .int m_goMore, .ref a_stepNode, .ref a_stepDrops, .ref a_stepHour, .ref a_stepNext, .ref a_stepPass, .int m_bestLeft, .int m_bestHour, .int m_bestMany, .ref a_bestPass, .ref a_far, .ref a_waited, .ref a_servers, .ref a_images, .ref a_isMade])), (a_tape, .inl (kA 1, 400, .inl tapeF))]) (va_Qv (fun (u : Int32 × (Nat → Int32)) => (u.1, u.2) = fX11_four m_taped tapeF p0 ∧ u.1 = (m_taped + 4)) (zB dC dI (va_A [(n0, .inr (11, .ref a_tape :: .int m_taped :: .int m_laws :: .ref a_sign :: .ref a_length :: .ref a_clause :: .ref a_clauses :: .ref a_chain :: .int m_next :: .int m_wrong :: .int m_number :: .int m_text :: .int m_made :: .int m_deep :: .int m_lines :: .ref a_open :: .int m_opened :: .ref a_stack :: .int m_top :: .ref a_word :: .ref a_said :: .ref a_kept :: [.int m_goNode, .int m_goDrops, .int m_goHour, .int m_goFelt, .int m_goSalt, .int m_goMore, .ref a_stepNode, .ref a_stepDrops, .ref a_stepHour, .ref a_stepNext, .ref a_stepPass, .int m_bestLeft, .int m_bestHour, .int m_bestMany, .ref a_bestPass, .ref a_far, .ref a_waited, .ref a_servers, .ref a_images, .ref a_isMade])), (a_tape, .inl (kA 1, 400, .inl tapeF))] sz) (fun (u : Int32 × (Nat → Int32)) => [(n0, .inr (11, .ref a_tape :: .int u.1 :: .int m_laws :: .ref a_sign :: .ref a_length :: .ref a_clause :: .ref a_clauses :: .ref a_chain :: .int m_next :: .int m_wrong :: .int m_number :: .int m_text :: .int m_made :: .int m_deep :: .int m_lines :: .ref a_open :: .int m_opened :: .ref a_stack :: .int m_top :: .ref a_word :: .ref a_said :: .ref a_kept :: [.int m_goNode, .int m_goDrops, .int m_goHour, .int m_goFelt, .int m_goSalt, .int m_goMore, .ref a_stepNode, .ref a_stepDrops, .ref a_stepHour, .ref a_stepNext, .ref a_stepPass, .int m_bestLeft, .int m_bestHour, .int m_bestMany, .ref a_bestPass, .ref a_far, .ref a_waited, .ref a_servers, .ref a_images, .ref a_isMade])), (a_tape, .inl (kA 1, 400, .inl u.2))])) (va_A [(n0, .inr (11, .ref a_tape :: .int m_taped :: .int m_laws :: .ref a_sign :: .ref a_length :: .ref a_clause :: .ref a_clauses :: .ref a_chain :: .int m_next :: .int m_wrong :: .int m_number :: .int m_text :: .int m_made :: .int m_deep :: .int m_lines :: .ref a_open :: .int m_opened :: .ref a_stack :: .int m_top :: .ref a_word :: .ref a_said :: .ref a_kept :: [.int m_goNode, .int m_goDrops, .int m_goHour, .int m_goFelt, .int m_goSalt, .int m_goMore, .ref a_stepNode, .ref a_stepDrops, .ref a_stepHour, .ref a_stepNext, .ref a_stepPass, .int m_bestLeft, .int m_bestHour, .int m_bestMany, .ref a_bestPass, .ref a_far, .ref a_waited, .ref a_servers, .ref a_images, .ref a_isMade])), (a_tape, .inl (kA 1, 400, .inl tapeF))] sz)) 0 0 (va_A [(n0, .inr (11, .ref a_tape :: .int m_taped :: .int m_laws :: .ref a_sign :: .ref a_length :: .ref a_clause :: .ref a_clauses :: .ref a_chain :: .int m_next :: .int m_wrong :: .int m_number :: .int m_text :: .int m_made :: .int m_deep :: .int m_lines :: .ref a_open :: .int m_opened :: .ref a_stack :: .int m_top :: .ref a_word :: .ref a_said :: .ref a_kept :: [.int m_goNode, .int m_goDrops, .int m_goHour, .int m_goFelt, .int m_goSalt, .int m_goMore, .ref a_stepNode, .ref a_stepDrops, .ref a_stepHour, .ref a_stepNext, .ref a_stepPass, .int m_bestLeft, .int m_bestHour, .int m_bestMany, .ref a_bestPass, .ref a_far, .ref a_waited, .ref a_servers, .ref a_images, .ref a_isMade])), (a_tape, .inl (kA 1, 400, .inl tapeF))] sz) := by
  refine Met.ofW (cc := cX11_four) (maxL := 3) (ret := none) pnX11 rfl ?_
  intro p e s m args below meth c s₁ B hml hv
  obtain ⟨rfl, hsz, hP, hK, hD0⟩ := hv
  have hx := B.exec
  have hb := B.bytes
  have hr := B.returns
  have hts := atoms_spec (ws := wsX11_four) B.pre
  have hown : s.vm.findClass RX11 = some m.cls := findClass_of_methodNamed B.named
  have hlocks := B.notSynchronized
  subst hsz
  have hD := hD0.self (sz := s.heap.size)
  generalize hAe : va_A [(n0, .inr (11, .ref a_tape :: .int m_taped :: .int m_laws :: .ref a_sign :: .ref a_length :: .ref a_clause :: .ref a_clauses :: .ref a_chain :: .int m_next :: .int m_wrong :: .int m_number :: .int m_text :: .int m_made :: .int m_deep :: .int m_lines :: .ref a_open :: .int m_opened :: .ref a_stack :: .int m_top :: .ref a_word :: .ref a_said :: .ref a_kept :: [.int m_goNode, .int m_goDrops, .int m_goHour, .int m_goFelt, .int m_goSalt, .int m_goMore, .ref a_stepNode, .ref a_stepDrops, .ref a_stepHour, .ref a_stepNext, .ref a_stepPass, .int m_bestLeft, .int m_bestHour, .int m_bestMany, .ref a_bestPass, .ref a_far, .ref a_waited, .ref a_servers, .ref a_images, .ref a_isMade])), (a_tape, .inl (kA 1, 400, .inl tapeF))] s.heap.size = A at hD ⊢
  have hA : ∀ q : Nat, s.heap.size ≤ q → A q := zA_of hAe
  have hS : va_S A s.heap s.heap [] := va_S.rf
  have hP : va_P (dC, dI) vwCl [(n0, .inr (11, .ref a_tape :: .int m_taped :: .int m_laws :: .ref a_sign :: .ref a_length :: .ref a_clause :: .ref a_clauses :: .ref a_chain :: .int m_next :: .int m_wrong :: .int m_number :: .int m_text :: .int m_made :: .int m_deep :: .int m_lines :: .ref a_open :: .int m_opened :: .ref a_stack :: .int m_top :: .ref a_word :: .ref a_said :: .ref a_kept :: [.int m_goNode, .int m_goDrops, .int m_goHour, .int m_goFelt, .int m_goSalt, .int m_goMore, .ref a_stepNode, .ref a_stepDrops, .ref a_stepHour, .ref a_stepNext, .ref a_stepPass, .int m_bestLeft, .int m_bestHour, .int m_bestMany, .ref a_bestPass, .ref a_far, .ref a_waited, .ref a_servers, .ref a_images, .ref a_isMade])), (a_tape, .inl (kA 1, 400, .inl tapeF))] s.heap := hP
  have hl := lv_entry ([.ref n0, .int p0]) (n := 3) (Nat.le_of_ble_eq_true rfl)
  rw [lg_entry_eq]
  generalize (lg_sl ([.ref n0, .int p0]) ++ List.replicate (3 - (lg_sl ([.ref n0, .int p0])).length) Slot.unset).toArray = ls at hl ⊢
  have hl : lv_has ls 3 [(0, .ref n0), (1, .int p0)] := hl
  obtain ⟨H, hHe⟩ : ∃ H : Heap, H = s.heap := ⟨_, rfl⟩
  obtain ⟨G, hG0⟩ : ∃ G : Int32 × (Nat → Int32), fX11_four m_taped tapeF p0 = G := ⟨_, rfl⟩
  have hG := hG0
  unfold fX11_four at hG
  refine lv_bipush (v := 24) hx hb dX11_four_0 (by decide) ?_
  refine lv_istore_n (lv' := [(2, .int 24), (0, .ref n0), (1, .int p0)]) hx hb dX11_four_2 rfl hl (by decide) rfl (fun ls hl => ?_)
  refine lv_iload_n hx hb dX11_four_3 rfl (lv_at hl 0 rfl) ?_
  refine lv_if_lt (tgt := 36) hx hb dX11_four_4 (by decide) (fun c_1 => absurd c_1 (by decide)) (fun _ => ?_)
  refine lv_aload_n hx hb dX11_four_7 rfl (lv_at hl 1 rfl) ?_
  refine va_get (D := (dC, dI)) (ci := 11) (v := .ref a_tape) (C := RX11) (T := TX11) (N := 42) hx hb hts iX11_four_X11 hown hK.1 hP 0 gz0 vcz11 0 (by decide) (kX11_four_1 hts) (fun _ h9 => h9) gz0 dX11_four_8 ?_
  refine lv_aload_n hx hb dX11_four_11 rfl (lv_at hl 1 rfl) ?_
  refine va_get (D := (dC, dI)) (ci := 11) (v := .int m_taped) (C := RX11) (T := TX11) (N := 42) hx hb hts iX11_four_X11 hown hK.1 hP 0 gz0 vcz11 1 (by decide) (kX11_four_2 hts) (fun _ h9 => h9) gz1 dX11_four_12 ?_
  refine lv_iload_n hx hb dX11_four_15 rfl (lv_at hl 2 rfl) ?_
  refine lv_iload_n hx hb dX11_four_16 rfl (lv_at hl 0 rfl) ?_
  refine lv_ishr hx hb dX11_four_17 ?_
  refine lv_topi (fun x2 ex2 => ?_)
  have hG := zbnd hG ex2
  refine lv_i2b hx hb dX11_four_18 rfl ?_
  refine lv_topi (fun x3 ex3 => ?_)
  have hG := zbnd hG ex3
  refine va_bast hx hb hK.1 hP hD hS 1 1 gz1 tzz1 (vp_le (by decide) t0_ t1_) dX11_four_19 (fun H locs hP hD hS => ?_)
  obtain ⟨hP, hD⟩ := z_re (L := [(n0, .inr (11, .ref a_tape :: .int m_taped :: .int m_laws :: .ref a_sign :: .ref a_length :: .ref a_clause :: .ref a_clauses :: .ref a_chain :: .int m_next :: .int m_wrong :: .int m_number :: .int m_text :: .int m_made :: .int m_deep :: .int m_lines :: .ref a_open :: .int m_opened :: .ref a_stack :: .int m_top :: .ref a_word :: .ref a_said :: .ref a_kept :: [.int m_goNode, .int m_goDrops, .int m_goHour, .int m_goFelt, .int m_goSalt, .int m_goMore, .ref a_stepNode, .ref a_stepDrops, .ref a_stepHour, .ref a_stepNext, .ref a_stepPass, .int m_bestLeft, .int m_bestHour, .int m_bestMany, .ref a_bestPass, .ref a_far, .ref a_waited, .ref a_servers, .ref a_images, .ref a_isMade])), (a_tape, .inl (kA 1, 400, .inl (upd tapeF m_taped.toNatClampNeg (vp_nar .byte x3))))]) hP hD
  obtain ⟨f4, ef4⟩ : ∃ y : Nat → Int32, y = (upd tapeF m_taped.toNatClampNeg (vp_nar .byte x3)) := ⟨_, rfl⟩
  rw [← ef4] at hP hD
  have hG := zbnd hG ef4
  have hu5 := upd_at ef4
  refine lv_aload_n hx hb dX11_four_20 rfl (lv_at hl 1 rfl) ?_
  refine lv_dup hx hb dX11_four_21 rfl ?_
  refine va_get (D := (dC, dI)) (ci := 11) (v := .int m_taped) (C := RX11) (T := TX11) (N := 42) hx hb hts iX11_four_X11 hown hK.1 hP 0 gz0 vcz11 1 (by decide) (kX11_four_2 hts) (fun _ h9 => h9) gz1 dX11_four_22 ?_
  refine lv_iconst (v := 1) hx hb dX11_four_25 (by decide) ?_
  refine lv_iadd hx hb dX11_four_26 ?_
  refine lv_topi (fun x6 ex6 => ?_)
  have hG := zbnd hG ex6
  refine va_put (D := (dC, dI)) (ci := 11) (v := .int x6) (ty := .int) (C := RX11) (T := TX11) (N := 42) hx hb hts iX11_four_X11 tyX11 tyX11_ok nmX11 hown hK.1 hP hD hS 0 gz0 vcz11 1 (by decide) (kX11_four_2 hts) (fun _ h9 => h9) rfl pfdI rfl rfl (Nat.le_of_ble_eq_true rfl) dX11_four_27 (fun H locs hP hD hS => ?_)
  obtain ⟨hP, hD⟩ := z_re (L := [(n0, .inr (11, .ref a_tape :: .int x6 :: .int m_laws :: .ref a_sign :: .ref a_length :: .ref a_clause :: .ref a_clauses :: .ref a_chain :: .int m_next :: .int m_wrong :: .int m_number :: .int m_text :: .int m_made :: .int m_deep :: .int m_lines :: .ref a_open :: .int m_opened :: .ref a_stack :: .int m_top :: .ref a_word :: .ref a_said :: .ref a_kept :: [.int m_goNode, .int m_goDrops, .int m_goHour, .int m_goFelt, .int m_goSalt, .int m_goMore, .ref a_stepNode, .ref a_stepDrops, .ref a_stepHour, .ref a_stepNext, .ref a_stepPass, .int m_bestLeft, .int m_bestHour, .int m_bestMany, .ref a_bestPass, .ref a_far, .ref a_waited, .ref a_servers, .ref a_images, .ref a_isMade])), (a_tape, .inl (kA 1, 400, .inl f4))]) hP hD
  refine lv_iinc (v := 16) (lv' := [(2, .int 16), (0, .ref n0), (1, .int p0)]) hx hb dX11_four_30 hl (k := 0) rfl (by decide) (by decide) rfl (fun ls hl => ?_)
  refine lv_goto (tgt := 3) hx hb dX11_four_33 (by decide) ?_
  refine lv_iload_n hx hb dX11_four_3 rfl (lv_at hl 0 rfl) ?_
  refine lv_if_lt (tgt := 36) hx hb dX11_four_4 (by decide) (fun c_7 => absurd c_7 (by decide)) (fun _ => ?_)
  refine lv_aload_n hx hb dX11_four_7 rfl (lv_at hl 1 rfl) ?_
  refine va_get (D := (dC, dI)) (ci := 11) (v := .ref a_tape) (C := RX11) (T := TX11) (N := 42) hx hb hts iX11_four_X11 hown hK.1 hP 0 gz0 vcz11 0 (by decide) (kX11_four_1 hts) (fun _ h9 => h9) gz0 dX11_four_8 ?_
  refine lv_aload_n hx hb dX11_four_11 rfl (lv_at hl 1 rfl) ?_
  refine va_get (D := (dC, dI)) (ci := 11) (v := .int x6) (C := RX11) (T := TX11) (N := 42) hx hb hts iX11_four_X11 hown hK.1 hP 0 gz0 vcz11 1 (by decide) (kX11_four_2 hts) (fun _ h9 => h9) gz1 dX11_four_12 ?_
  refine lv_iload_n hx hb dX11_four_15 rfl (lv_at hl 2 rfl) ?_
  refine lv_iload_n hx hb dX11_four_16 rfl (lv_at hl 0 rfl) ?_
  refine lv_ishr hx hb dX11_four_17 ?_
  refine lv_topi (fun x8 ex8 => ?_)
  have hG := zbnd hG ex8
  refine lv_i2b hx hb dX11_four_18 rfl ?_
  refine lv_topi (fun x9 ex9 => ?_)
  have hG := zbnd hG ex9
  refine va_bast hx hb hK.1 hP hD hS 1 1 gz1 tzz1 (vp_g (N := 400) (by decide) (gl_mX11_four_0 m_taped x6 t0_ t1_ ex6)) dX11_four_19 (fun H locs hP hD hS => ?_)
  obtain ⟨hP, hD⟩ := z_re (L := [(n0, .inr (11, .ref a_tape :: .int x6 :: .int m_laws :: .ref a_sign :: .ref a_length :: .ref a_clause :: .ref a_clauses :: .ref a_chain :: .int m_next :: .int m_wrong :: .int m_number :: .int m_text :: .int m_made :: .int m_deep :: .int m_lines :: .ref a_open :: .int m_opened :: .ref a_stack :: .int m_top :: .ref a_word :: .ref a_said :: .ref a_kept :: [.int m_goNode, .int m_goDrops, .int m_goHour, .int m_goFelt, .int m_goSalt, .int m_goMore, .ref a_stepNode, .ref a_stepDrops, .ref a_stepHour, .ref a_stepNext, .ref a_stepPass, .int m_bestLeft, .int m_bestHour, .int m_bestMany, .ref a_bestPass, .ref a_far, .ref a_waited, .ref a_servers, .ref a_images, .ref a_isMade])), (a_tape, .inl (kA 1, 400, .inl (upd f4 x6.toNatClampNeg (vp_nar .byte x9))))]) hP hD
  obtain ⟨f10, ef10⟩ : ∃ y : Nat → Int32, y = (upd f4 x6.toNatClampNeg (vp_nar .byte x9)) := ⟨_, rfl⟩
  rw [← ef10] at hP hD
  have hG := zbnd hG ef10
  have hu11 := upd_at ef10
  refine lv_aload_n hx hb dX11_four_20 rfl (lv_at hl 1 rfl) ?_
  refine lv_dup hx hb dX11_four_21 rfl ?_
  refine va_get (D := (dC, dI)) (ci := 11) (v := .int x6) (C := RX11) (T := TX11) (N := 42) hx hb hts iX11_four_X11 hown hK.1 hP 0 gz0 vcz11 1 (by decide) (kX11_four_2 hts) (fun _ h9 => h9) gz1 dX11_four_22 ?_
  refine lv_iconst (v := 1) hx hb dX11_four_25 (by decide) ?_
  refine lv_iadd hx hb dX11_four_26 ?_
  refine lv_topi (fun x12 ex12 => ?_)
  have hG := zbnd hG ex12
  refine va_put (D := (dC, dI)) (ci := 11) (v := .int x12) (ty := .int) (C := RX11) (T := TX11) (N := 42) hx hb hts iX11_four_X11 tyX11 tyX11_ok nmX11 hown hK.1 hP hD hS 0 gz0 vcz11 1 (by decide) (kX11_four_2 hts) (fun _ h9 => h9) rfl pfdI rfl rfl (Nat.le_of_ble_eq_true rfl) dX11_four_27 (fun H locs hP hD hS => ?_)
  obtain ⟨hP, hD⟩ := z_re (L := [(n0, .inr (11, .ref a_tape :: .int x12 :: .int m_laws :: .ref a_sign :: .ref a_length :: .ref a_clause :: .ref a_clauses :: .ref a_chain :: .int m_next :: .int m_wrong :: .int m_number :: .int m_text :: .int m_made :: .int m_deep :: .int m_lines :: .ref a_open :: .int m_opened :: .ref a_stack :: .int m_top :: .ref a_word :: .ref a_said :: .ref a_kept :: [.int m_goNode, .int m_goDrops, .int m_goHour, .int m_goFelt, .int m_goSalt, .int m_goMore, .ref a_stepNode, .ref a_stepDrops, .ref a_stepHour, .ref a_stepNext, .ref a_stepPass, .int m_bestLeft, .int m_bestHour, .int m_bestMany, .ref a_bestPass, .ref a_far, .ref a_waited, .ref a_servers, .ref a_images, .ref a_isMade])), (a_tape, .inl (kA 1, 400, .inl f10))]) hP hD
  refine lv_iinc (v := 8) (lv' := [(2, .int 8), (0, .ref n0), (1, .int p0)]) hx hb dX11_four_30 hl (k := 0) rfl (by decide) (by decide) rfl (fun ls hl => ?_)
  refine lv_goto (tgt := 3) hx hb dX11_four_33 (by decide) ?_
  refine lv_iload_n hx hb dX11_four_3 rfl (lv_at hl 0 rfl) ?_
  refine lv_if_lt (tgt := 36) hx hb dX11_four_4 (by decide) (fun c_13 => absurd c_13 (by decide)) (fun _ => ?_)
  refine lv_aload_n hx hb dX11_four_7 rfl (lv_at hl 1 rfl) ?_
  refine va_get (D := (dC, dI)) (ci := 11) (v := .ref a_tape) (C := RX11) (T := TX11) (N := 42) hx hb hts iX11_four_X11 hown hK.1 hP 0 gz0 vcz11 0 (by decide) (kX11_four_1 hts) (fun _ h9 => h9) gz0 dX11_four_8 ?_
  refine lv_aload_n hx hb dX11_four_11 rfl (lv_at hl 1 rfl) ?_
  refine va_get (D := (dC, dI)) (ci := 11) (v := .int x12) (C := RX11) (T := TX11) (N := 42) hx hb hts iX11_four_X11 hown hK.1 hP 0 gz0 vcz11 1 (by decide) (kX11_four_2 hts) (fun _ h9 => h9) gz1 dX11_four_12 ?_
  refine lv_iload_n hx hb dX11_four_15 rfl (lv_at hl 2 rfl) ?_
  refine lv_iload_n hx hb dX11_four_16 rfl (lv_at hl 0 rfl) ?_
  refine lv_ishr hx hb dX11_four_17 ?_
  refine lv_topi (fun x14 ex14 => ?_)
  have hG := zbnd hG ex14
  refine lv_i2b hx hb dX11_four_18 rfl ?_
  refine lv_topi (fun x15 ex15 => ?_)
  have hG := zbnd hG ex15
  refine va_bast hx hb hK.1 hP hD hS 1 1 gz1 tzz1 (vp_g (N := 400) (by decide) (gl_mX11_four_1 m_taped x6 x12 t0_ t1_ ex6 ex12)) dX11_four_19 (fun H locs hP hD hS => ?_)
  obtain ⟨hP, hD⟩ := z_re (L := [(n0, .inr (11, .ref a_tape :: .int x12 :: .int m_laws :: .ref a_sign :: .ref a_length :: .ref a_clause :: .ref a_clauses :: .ref a_chain :: .int m_next :: .int m_wrong :: .int m_number :: .int m_text :: .int m_made :: .int m_deep :: .int m_lines :: .ref a_open :: .int m_opened :: .ref a_stack :: .int m_top :: .ref a_word :: .ref a_said :: .ref a_kept :: [.int m_goNode, .int m_goDrops, .int m_goHour, .int m_goFelt, .int m_goSalt, .int m_goMore, .ref a_stepNode, .ref a_stepDrops, .ref a_stepHour, .ref a_stepNext, .ref a_stepPass, .int m_bestLeft, .int m_bestHour, .int m_bestMany, .ref a_bestPass, .ref a_far, .ref a_waited, .ref a_servers, .ref a_images, .ref a_isMade])), (a_tape, .inl (kA 1, 400, .inl (upd f10 x12.toNatClampNeg (vp_nar .byte x15))))]) hP hD
  obtain ⟨f16, ef16⟩ : ∃ y : Nat → Int32, y = (upd f10 x12.toNatClampNeg (vp_nar .byte x15)) := ⟨_, rfl⟩
  rw [← ef16] at hP hD
  have hG := zbnd hG ef16
  have hu17 := upd_at ef16
  refine lv_aload_n hx hb dX11_four_20 rfl (lv_at hl 1 rfl) ?_
  refine lv_dup hx hb dX11_four_21 rfl ?_
  refine va_get (D := (dC, dI)) (ci := 11) (v := .int x12) (C := RX11) (T := TX11) (N := 42) hx hb hts iX11_four_X11 hown hK.1 hP 0 gz0 vcz11 1 (by decide) (kX11_four_2 hts) (fun _ h9 => h9) gz1 dX11_four_22 ?_
  refine lv_iconst (v := 1) hx hb dX11_four_25 (by decide) ?_
  refine lv_iadd hx hb dX11_four_26 ?_
  refine lv_topi (fun x18 ex18 => ?_)
  have hG := zbnd hG ex18
  refine va_put (D := (dC, dI)) (ci := 11) (v := .int x18) (ty := .int) (C := RX11) (T := TX11) (N := 42) hx hb hts iX11_four_X11 tyX11 tyX11_ok nmX11 hown hK.1 hP hD hS 0 gz0 vcz11 1 (by decide) (kX11_four_2 hts) (fun _ h9 => h9) rfl pfdI rfl rfl (Nat.le_of_ble_eq_true rfl) dX11_four_27 (fun H locs hP hD hS => ?_)
  obtain ⟨hP, hD⟩ := z_re (L := [(n0, .inr (11, .ref a_tape :: .int x18 :: .int m_laws :: .ref a_sign :: .ref a_length :: .ref a_clause :: .ref a_clauses :: .ref a_chain :: .int m_next :: .int m_wrong :: .int m_number :: .int m_text :: .int m_made :: .int m_deep :: .int m_lines :: .ref a_open :: .int m_opened :: .ref a_stack :: .int m_top :: .ref a_word :: .ref a_said :: .ref a_kept :: [.int m_goNode, .int m_goDrops, .int m_goHour, .int m_goFelt, .int m_goSalt, .int m_goMore, .ref a_stepNode, .ref a_stepDrops, .ref a_stepHour, .ref a_stepNext, .ref a_stepPass, .int m_bestLeft, .int m_bestHour, .int m_bestMany, .ref a_bestPass, .ref a_far, .ref a_waited, .ref a_servers, .ref a_images, .ref a_isMade])), (a_tape, .inl (kA 1, 400, .inl f16))]) hP hD
  refine lv_iinc (v := 0) (lv' := [(2, .int 0), (0, .ref n0), (1, .int p0)]) hx hb dX11_four_30 hl (k := 0) rfl (by decide) (by decide) rfl (fun ls hl => ?_)
  refine lv_goto (tgt := 3) hx hb dX11_four_33 (by decide) ?_
  refine lv_iload_n hx hb dX11_four_3 rfl (lv_at hl 0 rfl) ?_
  refine lv_if_lt (tgt := 36) hx hb dX11_four_4 (by decide) (fun c_19 => absurd c_19 (by decide)) (fun _ => ?_)
  refine lv_aload_n hx hb dX11_four_7 rfl (lv_at hl 1 rfl) ?_
  refine va_get (D := (dC, dI)) (ci := 11) (v := .ref a_tape) (C := RX11) (T := TX11) (N := 42) hx hb hts iX11_four_X11 hown hK.1 hP 0 gz0 vcz11 0 (by decide) (kX11_four_1 hts) (fun _ h9 => h9) gz0 dX11_four_8 ?_
  refine lv_aload_n hx hb dX11_four_11 rfl (lv_at hl 1 rfl) ?_
  refine va_get (D := (dC, dI)) (ci := 11) (v := .int x18) (C := RX11) (T := TX11) (N := 42) hx hb hts iX11_four_X11 hown hK.1 hP 0 gz0 vcz11 1 (by decide) (kX11_four_2 hts) (fun _ h9 => h9) gz1 dX11_four_12 ?_
  refine lv_iload_n hx hb dX11_four_15 rfl (lv_at hl 2 rfl) ?_
  refine lv_iload_n hx hb dX11_four_16 rfl (lv_at hl 0 rfl) ?_
  refine lv_ishr hx hb dX11_four_17 ?_
  refine lv_topi (fun x20 ex20 => ?_)
  have hG := zbnd hG ex20
  refine lv_i2b hx hb dX11_four_18 rfl ?_
  refine lv_topi (fun x21 ex21 => ?_)
  have hG := zbnd hG ex21
  refine va_bast hx hb hK.1 hP hD hS 1 1 gz1 tzz1 (vp_g (N := 400) (by decide) (gl_mX11_four_2 m_taped x6 x12 x18 t0_ t1_ ex6 ex12 ex18)) dX11_four_19 (fun H locs hP hD hS => ?_)
  obtain ⟨hP, hD⟩ := z_re (L := [(n0, .inr (11, .ref a_tape :: .int x18 :: .int m_laws :: .ref a_sign :: .ref a_length :: .ref a_clause :: .ref a_clauses :: .ref a_chain :: .int m_next :: .int m_wrong :: .int m_number :: .int m_text :: .int m_made :: .int m_deep :: .int m_lines :: .ref a_open :: .int m_opened :: .ref a_stack :: .int m_top :: .ref a_word :: .ref a_said :: .ref a_kept :: [.int m_goNode, .int m_goDrops, .int m_goHour, .int m_goFelt, .int m_goSalt, .int m_goMore, .ref a_stepNode, .ref a_stepDrops, .ref a_stepHour, .ref a_stepNext, .ref a_stepPass, .int m_bestLeft, .int m_bestHour, .int m_bestMany, .ref a_bestPass, .ref a_far, .ref a_waited, .ref a_servers, .ref a_images, .ref a_isMade])), (a_tape, .inl (kA 1, 400, .inl (upd f16 x18.toNatClampNeg (vp_nar .byte x21))))]) hP hD
  obtain ⟨f22, ef22⟩ : ∃ y : Nat → Int32, y = (upd f16 x18.toNatClampNeg (vp_nar .byte x21)) := ⟨_, rfl⟩
  rw [← ef22] at hP hD
  have hG := zbnd hG ef22
  have hu23 := upd_at ef22
  refine lv_aload_n hx hb dX11_four_20 rfl (lv_at hl 1 rfl) ?_
  refine lv_dup hx hb dX11_four_21 rfl ?_
  refine va_get (D := (dC, dI)) (ci := 11) (v := .int x18) (C := RX11) (T := TX11) (N := 42) hx hb hts iX11_four_X11 hown hK.1 hP 0 gz0 vcz11 1 (by decide) (kX11_four_2 hts) (fun _ h9 => h9) gz1 dX11_four_22 ?_
  refine lv_iconst (v := 1) hx hb dX11_four_25 (by decide) ?_
  refine lv_iadd hx hb dX11_four_26 ?_
  refine lv_topi (fun x24 ex24 => ?_)
  have hG := zbnd hG ex24
  refine va_put (D := (dC, dI)) (ci := 11) (v := .int x24) (ty := .int) (C := RX11) (T := TX11) (N := 42) hx hb hts iX11_four_X11 tyX11 tyX11_ok nmX11 hown hK.1 hP hD hS 0 gz0 vcz11 1 (by decide) (kX11_four_2 hts) (fun _ h9 => h9) rfl pfdI rfl rfl (Nat.le_of_ble_eq_true rfl) dX11_four_27 (fun H locs hP hD hS => ?_)
  obtain ⟨hP, hD⟩ := z_re (L := [(n0, .inr (11, .ref a_tape :: .int x24 :: .int m_laws :: .ref a_sign :: .ref a_length :: .ref a_clause :: .ref a_clauses :: .ref a_chain :: .int m_next :: .int m_wrong :: .int m_number :: .int m_text :: .int m_made :: .int m_deep :: .int m_lines :: .ref a_open :: .int m_opened :: .ref a_stack :: .int m_top :: .ref a_word :: .ref a_said :: .ref a_kept :: [.int m_goNode, .int m_goDrops, .int m_goHour, .int m_goFelt, .int m_goSalt, .int m_goMore, .ref a_stepNode, .ref a_stepDrops, .ref a_stepHour, .ref a_stepNext, .ref a_stepPass, .int m_bestLeft, .int m_bestHour, .int m_bestMany, .ref a_bestPass, .ref a_far, .ref a_waited, .ref a_servers, .ref a_images, .ref a_isMade])), (a_tape, .inl (kA 1, 400, .inl f22))]) hP hD
  refine lv_iinc (v := (-8)) (lv' := [(2, .int (-8)), (0, .ref n0), (1, .int p0)]) hx hb dX11_four_30 hl (k := 0) rfl (by decide) (by decide) rfl (fun ls hl => ?_)
  refine lv_goto (tgt := 3) hx hb dX11_four_33 (by decide) ?_
  refine lv_iload_n hx hb dX11_four_3 rfl (lv_at hl 0 rfl) ?_
  refine lv_if_lt (tgt := 36) hx hb dX11_four_4 (by decide) (fun _ => ?_) (fun c_25 => absurd (by decide) c_25)
  obtain ⟨hP9, hD9⟩ := z_sb (L' := [(n0, .inr (11, .ref a_tape :: .int x24 :: .int m_laws :: .ref a_sign :: .ref a_length :: .ref a_clause :: .ref a_clauses :: .ref a_chain :: .int m_next :: .int m_wrong :: .int m_number :: .int m_text :: .int m_made :: .int m_deep :: .int m_lines :: .ref a_open :: .int m_opened :: .ref a_stack :: .int m_top :: .ref a_word :: .ref a_said :: .ref a_kept :: [.int m_goNode, .int m_goDrops, .int m_goHour, .int m_goFelt, .int m_goSalt, .int m_goMore, .ref a_stepNode, .ref a_stepDrops, .ref a_stepHour, .ref a_stepNext, .ref a_stepPass, .int m_bestLeft, .int m_bestHour, .int m_bestMany, .ref a_bestPass, .ref a_far, .ref a_waited, .ref a_servers, .ref a_images, .ref a_isMade])), (a_tape, .inl (kA 1, 400, .inl f22))]) hP hD [0, 1] (by decide) rfl
  refine W.widen (k := 0) (n := 0) (Nat.le_of_ble_eq_true rfl) (Nat.le_of_ble_eq_true rfl) ?_
  exact W.vret hx hb hr (fun t ht hW => ⟨⟨(x24, f22), rfl, ⟨(hG.trans hG0.symm), (gl_mX11_four_3 m_taped x6 x12 x18 x24 t0_ t1_ ex6 ex12 ex18 ex24)⟩, by rw [ht]; exact hP9, hD9⟩, hS.F ht⟩) hS.2.2 dX11_four_36
theorem gl_mX11_feed_0 (m_taped : Int32) (h0 : ¬ m_taped < 0) (h1 : ¬ 400 < m_taped) (h2 : (m_taped + 20) ≤ 400) : ¬ 396 < m_taped := by grind
theorem gl_mX11_feed_1 (m_taped : Int32) (o5 : Int32) (h0 : ¬ m_taped < 0) (h1 : ¬ 400 < m_taped) (h2 : (m_taped + 20) ≤ 400) (h3 : o5 = (m_taped + 4)) : ¬ o5 < 0 := by grind
theorem gl_mX11_feed_2 (m_taped : Int32) (o5 : Int32) (h0 : ¬ m_taped < 0) (h1 : ¬ 400 < m_taped) (h2 : (m_taped + 20) ≤ 400) (h3 : o5 = (m_taped + 4)) : ¬ 396 < o5 := by grind
theorem gl_mX11_feed_3 (m_taped : Int32) (o5 : Int32) (o13 : Int32) (h0 : ¬ m_taped < 0) (h1 : ¬ 400 < m_taped) (h2 : (m_taped + 20) ≤ 400) (h3 : o5 = (m_taped + 4)) (h4 : o13 = (o5 + 4)) : ¬ o13 < 0 := by grind
theorem gl_mX11_feed_4 (m_taped : Int32) (o5 : Int32) (o13 : Int32) (h0 : ¬ m_taped < 0) (h1 : ¬ 400 < m_taped) (h2 : (m_taped + 20) ≤ 400) (h3 : o5 = (m_taped + 4)) (h4 : o13 = (o5 + 4)) : ¬ 396 < o13 := by grind
theorem gl_mX11_feed_5 (m_taped : Int32) (o5 : Int32) (o13 : Int32) (o21 : Int32) (h0 : ¬ m_taped < 0) (h1 : ¬ 400 < m_taped) (h2 : (m_taped + 20) ≤ 400) (h3 : o5 = (m_taped + 4)) (h4 : o13 = (o5 + 4)) (h5 : o21 = (o13 + 4)) : ¬ o21 < 0 := by grind
theorem gl_mX11_feed_6 (m_taped : Int32) (o5 : Int32) (o13 : Int32) (o21 : Int32) (h0 : ¬ m_taped < 0) (h1 : ¬ 400 < m_taped) (h2 : (m_taped + 20) ≤ 400) (h3 : o5 = (m_taped + 4)) (h4 : o13 = (o5 + 4)) (h5 : o21 = (o13 + 4)) : ¬ 396 < o21 := by grind
theorem gl_mX11_feed_7 (m_taped : Int32) (o5 : Int32) (o13 : Int32) (o21 : Int32) (o29 : Int32) (h0 : ¬ m_taped < 0) (h1 : ¬ 400 < m_taped) (h2 : (m_taped + 20) ≤ 400) (h3 : o5 = (m_taped + 4)) (h4 : o13 = (o5 + 4)) (h5 : o21 = (o13 + 4)) (h6 : o29 = (o21 + 4)) : ¬ o29 < 0 := by grind
theorem gl_mX11_feed_8 (m_taped : Int32) (o5 : Int32) (o13 : Int32) (o21 : Int32) (o29 : Int32) (h0 : ¬ m_taped < 0) (h1 : ¬ 400 < m_taped) (h2 : (m_taped + 20) ≤ 400) (h3 : o5 = (m_taped + 4)) (h4 : o13 = (o5 + 4)) (h5 : o21 = (o13 + 4)) (h6 : o29 = (o21 + 4)) : ¬ 396 < o29 := by grind
theorem gl_mX11_feed_9 (m_taped : Int32) (o5 : Int32) (o13 : Int32) (o21 : Int32) (o29 : Int32) (o37 : Int32) (h0 : ¬ m_taped < 0) (h1 : ¬ 400 < m_taped) (h2 : (m_taped + 20) ≤ 400) (h3 : o5 = (m_taped + 4)) (h4 : o13 = (o5 + 4)) (h5 : o21 = (o13 + 4)) (h6 : o29 = (o21 + 4)) (h7 : o37 = (o29 + 4)) : (¬ o37 < 0 ∧ ¬ 400 < o37) := by grind
theorem gl_mX11_feed_10 (m_taped : Int32) (h0 : ¬ m_taped < 0) (h1 : ¬ 400 < m_taped) (h2 : ¬ (m_taped + 20) ≤ 400) : (¬ m_taped < 0 ∧ ¬ 400 < m_taped) := by grind
set_option maxRecDepth 100000 in
def fX11_feed (m_taped : Int32) (tapeF : Nat → Int32) (p0 : Int32) (p1 : Int32) (p2 : Int32) (p3 : Int32) (p4 : Int32) : Int32 × (Nat → Int32) × Int32 := if (m_taped + 20) ≤ 400 then (bnd (fX11_four m_taped tapeF p0) (fun (q9 : Int32 × (Nat → Int32)) => bnd (q9.1) (fun (o5 : Int32) => bnd (q9.2) (fun (o6 : Nat → Int32) => bnd (fX11_four o5 o6 p1) (fun (q17 : Int32 × (Nat → Int32)) => bnd (q17.1) (fun (o13 : Int32) => bnd (q17.2) (fun (o14 : Nat → Int32) => bnd (fX11_four o13 o14 p2) (fun (q25 : Int32 × (Nat → Int32)) => bnd (q25.1) (fun (o21 : Int32) => bnd (q25.2) (fun (o22 : Nat → Int32) => bnd (fX11_four o21 o22 p3) (fun (q33 : Int32 × (Nat → Int32)) => bnd (q33.1) (fun (o29 : Int32) => bnd (q33.2) (fun (o30 : Nat → Int32) => bnd (fX11_four o29 o30 p4) (fun (q41 : Int32 × (Nat → Int32)) => bnd (q41.1) (fun (o37 : Int32) => bnd (q41.2) (fun (o38 : Nat → Int32) => (o37, o38, o37))))))))))))))))) else ((m_taped, tapeF, (-1)))
set_option maxHeartbeats 4000000 in
set_option maxRecDepth 100000 in
theorem mX11_feed (l : Launch) (dC : Nat → ClassId) (dI : Nat → Nat → Nat) (kA : Nat → ClassId) (sz : Nat) (n0 : Nat) (m_taped : Int32) (m_laws : Int32) (m_next : Int32) (m_wrong : Int32) (m_number : Int32) (m_text : Int32) (m_made : Int32) (m_deep : Int32) (m_lines : Int32) (m_opened : Int32) (m_top : Int32) (m_goNode : Int32) (m_goDrops : Int32) (m_goHour : Int32) (m_goFelt : Int32) (m_goSalt : Int32) (m_goMore : Int32) (m_bestLeft : Int32) (m_bestHour : Int32) (m_bestMany : Int32) (a_tape : Nat) (a_sign : Nat) (a_length : Nat) (a_clause : Nat) (a_clauses : Nat) (a_chain : Nat) (a_open : Nat) (a_stack : Nat) (a_word : Nat) (a_said : Nat) (a_kept : Nat) (a_stepNode : Nat) (a_stepDrops : Nat) (a_stepHour : Nat) (a_stepNext : Nat) (a_stepPass : Nat) (a_bestPass : Nat) (a_far : Nat) (a_waited : Nat) (a_servers : Nat) (a_images : Nat) (a_isMade : Nat) (tapeF : Nat → Int32) (p0 : Int32) (p1 : Int32) (p2 : Int32) (p3 : Int32) (p4 : Int32) (t0_ : ¬ m_taped < 0) (t1_ : ¬ 400 < m_taped) : Met l yX11_feed wsX11_feed ({ frames := 1, cells := 0, slots := 0, locals := 22 }) (zPc dC dI kA sz [.ref n0, .int p0, .int p1, .int p2, .int p3, .int p4] [(n0, .inr (11, .ref a_tape :: .int m_taped :: .int m_laws :: .ref a_sign :: .ref a_length :: .ref a_clause :: .ref a_clauses :: .ref a_chain :: .int m_next :: .int m_wrong :: .int m_number :: .int m_text :: .int m_made :: .int m_deep :: .int m_lines :: .ref a_open :: .int m_opened :: .ref a_stack :: .int m_top :: .ref a_word :: .ref a_said :: .ref a_kept :: [.int m_goNode, .int m_goDrops, .int m_goHour, .int m_goFelt, .int m_goSalt, .int m_goMore, .ref a_stepNode, .ref a_stepDrops, .ref a_stepHour, .ref a_stepNext, .ref a_stepPass, .int m_bestLeft, .int m_bestHour, .int m_bestMany, .ref a_bestPass, .ref a_far, .ref a_waited, .ref a_servers, .ref a_images, .ref a_isMade])), (a_tape, .inl (kA 1, 400, .inl tapeF))]) (va_Qi (fun (r : Int32) (u : Int32 × (Nat → Int32) × Int32) => r = u.2.2 ∧ (u.1, u.2.1, u.2.2) = fX11_feed m_taped tapeF p0 p1 p2 p3 p4 ∧ (¬ u.1 < 0 ∧ ¬ 400 < u.1)) (zB dC dI (va_A [(n0, .inr (11, .ref a_tape :: .int m_taped :: .int m_laws :: .ref a_sign :: .ref a_length :: .ref a_clause :: .ref a_clauses :: .ref a_chain :: .int m_next :: .int m_wrong :: .int m_number :: .int m_text :: .int m_made :: .int m_deep :: .int m_lines :: .ref a_open :: .int m_opened :: .ref a_stack :: .int m_top :: .ref a_word :: .ref a_said :: .ref a_kept :: [.int m_goNode, .int m_goDrops, .int m_goHour, .int m_goFelt, .int m_goSalt, .int m_goMore, .ref a_stepNode, .ref a_stepDrops, .ref a_stepHour, .ref a_stepNext, .ref a_stepPass, .int m_bestLeft, .int m_bestHour, .int m_bestMany, .ref a_bestPass, .ref a_far, .ref a_waited, .ref a_servers, .ref a_images, .ref a_isMade])), (a_tape, .inl (kA 1, 400, .inl tapeF))] sz) (fun (u : Int32 × (Nat → Int32) × Int32) => [(n0, .inr (11, .ref a_tape :: .int u.1 :: .int m_laws :: .ref a_sign :: .ref a_length :: .ref a_clause :: .ref a_clauses :: .ref a_chain :: .int m_next :: .int m_wrong :: .int m_number :: .int m_text :: .int m_made :: .int m_deep :: .int m_lines :: .ref a_open :: .int m_opened :: .ref a_stack :: .int m_top :: .ref a_word :: .ref a_said :: .ref a_kept :: [.int m_goNode, .int m_goDrops, .int m_goHour, .int m_goFelt, .int m_goSalt, .int m_goMore, .ref a_stepNode, .ref a_stepDrops, .ref a_stepHour, .ref a_stepNext, .ref a_stepPass, .int m_bestLeft, .int m_bestHour, .int m_bestMany, .ref a_bestPass, .ref a_far, .ref a_waited, .ref a_servers, .ref a_images, .ref a_isMade])), (a_tape, .inl (kA 1, 400, .inl u.2.1))])) (va_A [(n0, .inr (11, .ref a_tape :: .int m_taped :: .int m_laws :: .ref a_sign :: .ref a_length :: .ref a_clause :: .ref a_clauses :: .ref a_chain :: .int m_next :: .int m_wrong :: .int m_number :: .int m_text :: .int m_made :: .int m_deep :: .int m_lines :: .ref a_open :: .int m_opened :: .ref a_stack :: .int m_top :: .ref a_word :: .ref a_said :: .ref a_kept :: [.int m_goNode, .int m_goDrops, .int m_goHour, .int m_goFelt, .int m_goSalt, .int m_goMore, .ref a_stepNode, .ref a_stepDrops, .ref a_stepHour, .ref a_stepNext, .ref a_stepPass, .int m_bestLeft, .int m_bestHour, .int m_bestMany, .ref a_bestPass, .ref a_far, .ref a_waited, .ref a_servers, .ref a_images, .ref a_isMade])), (a_tape, .inl (kA 1, 400, .inl tapeF))] sz)) 0 0 (va_A [(n0, .inr (11, .ref a_tape :: .int m_taped :: .int m_laws :: .ref a_sign :: .ref a_length :: .ref a_clause :: .ref a_clauses :: .ref a_chain :: .int m_next :: .int m_wrong :: .int m_number :: .int m_text :: .int m_made :: .int m_deep :: .int m_lines :: .ref a_open :: .int m_opened :: .ref a_stack :: .int m_top :: .ref a_word :: .ref a_said :: .ref a_kept :: [.int m_goNode, .int m_goDrops, .int m_goHour, .int m_goFelt, .int m_goSalt, .int m_goMore, .ref a_stepNode, .ref a_stepDrops, .ref a_stepHour, .ref a_stepNext, .ref a_stepPass, .int m_bestLeft, .int m_bestHour, .int m_bestMany, .ref a_bestPass, .ref a_far, .ref a_waited, .ref a_servers, .ref a_images, .ref a_isMade])), (a_tape, .inl (kA 1, 400, .inl tapeF))] sz) := by
  refine Met.ofW (cc := cX11_feed) (maxL := 6) (ret := (some .int)) pnX11 rfl ?_
  intro p e s m args below meth c s₁ B hml hv
  obtain ⟨rfl, hsz, hP, hK, hD0⟩ := hv
  have hx := B.exec
  have hb := B.bytes
  have hr := B.returns
  have hts := atoms_spec (ws := wsX11_feed) B.pre
  have hown : s.vm.findClass RX11 = some m.cls := findClass_of_methodNamed B.named
  have hlocks := B.notSynchronized
  subst hsz
  have hD := hD0.self (sz := s.heap.size)
  generalize hAe : va_A [(n0, .inr (11, .ref a_tape :: .int m_taped :: .int m_laws :: .ref a_sign :: .ref a_length :: .ref a_clause :: .ref a_clauses :: .ref a_chain :: .int m_next :: .int m_wrong :: .int m_number :: .int m_text :: .int m_made :: .int m_deep :: .int m_lines :: .ref a_open :: .int m_opened :: .ref a_stack :: .int m_top :: .ref a_word :: .ref a_said :: .ref a_kept :: [.int m_goNode, .int m_goDrops, .int m_goHour, .int m_goFelt, .int m_goSalt, .int m_goMore, .ref a_stepNode, .ref a_stepDrops, .ref a_stepHour, .ref a_stepNext, .ref a_stepPass, .int m_bestLeft, .int m_bestHour, .int m_bestMany, .ref a_bestPass, .ref a_far, .ref a_waited, .ref a_servers, .ref a_images, .ref a_isMade])), (a_tape, .inl (kA 1, 400, .inl tapeF))] s.heap.size = A at hD ⊢
  have hA : ∀ q : Nat, s.heap.size ≤ q → A q := zA_of hAe
  have hS : va_S A s.heap s.heap [] := va_S.rf
  have hP : va_P (dC, dI) vwCl [(n0, .inr (11, .ref a_tape :: .int m_taped :: .int m_laws :: .ref a_sign :: .ref a_length :: .ref a_clause :: .ref a_clauses :: .ref a_chain :: .int m_next :: .int m_wrong :: .int m_number :: .int m_text :: .int m_made :: .int m_deep :: .int m_lines :: .ref a_open :: .int m_opened :: .ref a_stack :: .int m_top :: .ref a_word :: .ref a_said :: .ref a_kept :: [.int m_goNode, .int m_goDrops, .int m_goHour, .int m_goFelt, .int m_goSalt, .int m_goMore, .ref a_stepNode, .ref a_stepDrops, .ref a_stepHour, .ref a_stepNext, .ref a_stepPass, .int m_bestLeft, .int m_bestHour, .int m_bestMany, .ref a_bestPass, .ref a_far, .ref a_waited, .ref a_servers, .ref a_images, .ref a_isMade])), (a_tape, .inl (kA 1, 400, .inl tapeF))] s.heap := hP
  have hl := lv_entry ([.ref n0, .int p0, .int p1, .int p2, .int p3, .int p4]) (n := 6) (Nat.le_of_ble_eq_true rfl)
  rw [lg_entry_eq]
  generalize (lg_sl ([.ref n0, .int p0, .int p1, .int p2, .int p3, .int p4]) ++ List.replicate (6 - (lg_sl ([.ref n0, .int p0, .int p1, .int p2, .int p3, .int p4])).length) Slot.unset).toArray = ls at hl ⊢
  have hl : lv_has ls 6 [(0, .ref n0), (1, .int p0), (2, .int p1), (3, .int p2), (4, .int p3), (5, .int p4)] := hl
  obtain ⟨H, hHe⟩ : ∃ H : Heap, H = s.heap := ⟨_, rfl⟩
  obtain ⟨G, hG0⟩ : ∃ G : Int32 × (Nat → Int32) × Int32, fX11_feed m_taped tapeF p0 p1 p2 p3 p4 = G := ⟨_, rfl⟩
  have hG := hG0
  unfold fX11_feed at hG
  refine lv_aload_n hx hb dX11_feed_0 rfl (lv_at hl 0 rfl) ?_
  refine va_get (D := (dC, dI)) (ci := 11) (v := .int m_taped) (C := RX11) (T := TX11) (N := 42) hx hb hts iX11_feed_X11 hown hK.1 hP 0 gz0 vcz11 1 (by decide) (kX11_feed_1 hts) (fun _ h9 => h9) gz1 dX11_feed_1 ?_
  refine lv_bipush (v := 20) hx hb dX11_feed_4 (by decide) ?_
  refine lv_iadd hx hb dX11_feed_6 ?_
  refine lv_sipush (v := 400) hx hb dX11_feed_7 (by decide) ?_
  refine lv_icmp_le (tgt := 15) hx hb dX11_feed_10 (by decide) (fun c_1 => ?_) (fun c_1 => ?_)
  · have hG := zthen hG c_1
    refine lv_aload_n hx hb dX11_feed_15 rfl (lv_at hl 0 rfl) ?_
    refine lv_iload_n hx hb dX11_feed_16 rfl (lv_at hl 1 rfl) ?_
    refine z_v (wr := []) (va_runV (As := [.int p0]) (rest := []) ⟨hx, hb, hml, hown, hts⟩ (mX11_four l dC dI kA _ n0 m_taped m_laws m_next m_wrong m_number m_text m_made m_deep m_lines m_opened m_top m_goNode m_goDrops m_goHour m_goFelt m_goSalt m_goMore m_bestLeft m_bestHour m_bestMany a_tape a_sign a_length a_clause a_clauses a_chain a_open a_stack a_word a_said a_kept a_stepNode a_stepDrops a_stepHour a_stepNext a_stepPass a_bestPass a_far a_waited a_servers a_images a_isMade tapeF p0 t0_ (gl_mX11_feed_0 m_taped t0_ t1_ c_1)) (cwV 1 hts gX11_feed_X11_four rfl rfl rfl ⟨rfl, hdX11_four⟩ ⟨(Nat.le_of_ble_eq_true rfl), (Nat.le_of_ble_eq_true rfl)⟩) ⟨zPc.blind, va_recv (q := (RX11, TX11, 42)) hK.1 hP (ci := 11) (q0 := 0) rfl rfl, zPre hK (hP.sub [0, 1] rfl) (hD.sub [0, 1] (by decide) rfl)⟩ rfl rfl hl.1 rfl (lv_room (Nat.le_of_ble_eq_true rfl)) dX11_feed_17 ⟨(Nat.le_of_ble_eq_true rfl), (Nat.le_of_ble_eq_true rfl)⟩) hP hD hS hA [0, 1] [] rfl rfl (by decide) (by decide) (fun u2 H locs hw3 hP hD hS => ?_)
    obtain ⟨o5, o6⟩ := u2
    obtain ⟨hp7, hp8⟩ := hw3
    obtain ⟨q9, eq9⟩ : ∃ y : Int32 × (Nat → Int32), y = fX11_four m_taped tapeF p0 := ⟨_, rfl⟩
    have hG := zbnd hG eq9
    have eo5 : o5 = q9.1 := by rw [eq9]; exact congrArg (fun z : Int32 × (Nat → Int32) => z.1) hp7
    have hG := zbnd hG eo5
    have eo6 : o6 = q9.2 := by rw [eq9]; exact congrArg (fun z : Int32 × (Nat → Int32) => z.2) hp7
    have hG := zbnd hG eo6
    obtain ⟨hP, hD⟩ := z_re (L := [(n0, .inr (11, .ref a_tape :: .int o5 :: .int m_laws :: .ref a_sign :: .ref a_length :: .ref a_clause :: .ref a_clauses :: .ref a_chain :: .int m_next :: .int m_wrong :: .int m_number :: .int m_text :: .int m_made :: .int m_deep :: .int m_lines :: .ref a_open :: .int m_opened :: .ref a_stack :: .int m_top :: .ref a_word :: .ref a_said :: .ref a_kept :: [.int m_goNode, .int m_goDrops, .int m_goHour, .int m_goFelt, .int m_goSalt, .int m_goMore, .ref a_stepNode, .ref a_stepDrops, .ref a_stepHour, .ref a_stepNext, .ref a_stepPass, .int m_bestLeft, .int m_bestHour, .int m_bestMany, .ref a_bestPass, .ref a_far, .ref a_waited, .ref a_servers, .ref a_images, .ref a_isMade])), (a_tape, .inl (kA 1, 400, .inl o6))]) hP hD
    refine lv_aload_n hx hb dX11_feed_20 rfl (lv_at hl 0 rfl) ?_
    refine lv_iload_n hx hb dX11_feed_21 rfl (lv_at hl 2 rfl) ?_
    refine z_v (wr := []) (va_runV (As := [.int p1]) (rest := []) ⟨hx, hb, hml, hown, hts⟩ (mX11_four l dC dI kA _ n0 o5 m_laws m_next m_wrong m_number m_text m_made m_deep m_lines m_opened m_top m_goNode m_goDrops m_goHour m_goFelt m_goSalt m_goMore m_bestLeft m_bestHour m_bestMany a_tape a_sign a_length a_clause a_clauses a_chain a_open a_stack a_word a_said a_kept a_stepNode a_stepDrops a_stepHour a_stepNext a_stepPass a_bestPass a_far a_waited a_servers a_images a_isMade o6 p1 (gl_mX11_feed_1 m_taped o5 t0_ t1_ c_1 hp8) (gl_mX11_feed_2 m_taped o5 t0_ t1_ c_1 hp8)) (cwV 1 hts gX11_feed_X11_four rfl rfl rfl ⟨rfl, hdX11_four⟩ ⟨(Nat.le_of_ble_eq_true rfl), (Nat.le_of_ble_eq_true rfl)⟩) ⟨zPc.blind, va_recv (q := (RX11, TX11, 42)) hK.1 hP (ci := 11) (q0 := 0) rfl rfl, zPre hK (hP.sub [0, 1] rfl) (hD.sub [0, 1] (by decide) rfl)⟩ rfl rfl hl.1 rfl (lv_room (Nat.le_of_ble_eq_true rfl)) dX11_feed_22 ⟨(Nat.le_of_ble_eq_true rfl), (Nat.le_of_ble_eq_true rfl)⟩) hP hD hS hA [0, 1] [] rfl rfl (by decide) (by decide) (fun u10 H locs hw11 hP hD hS => ?_)
    obtain ⟨o13, o14⟩ := u10
    obtain ⟨hp15, hp16⟩ := hw11
    obtain ⟨q17, eq17⟩ : ∃ y : Int32 × (Nat → Int32), y = fX11_four o5 o6 p1 := ⟨_, rfl⟩
    have hG := zbnd hG eq17
    have eo13 : o13 = q17.1 := by rw [eq17]; exact congrArg (fun z : Int32 × (Nat → Int32) => z.1) hp15
    have hG := zbnd hG eo13
    have eo14 : o14 = q17.2 := by rw [eq17]; exact congrArg (fun z : Int32 × (Nat → Int32) => z.2) hp15
    have hG := zbnd hG eo14
    obtain ⟨hP, hD⟩ := z_re (L := [(n0, .inr (11, .ref a_tape :: .int o13 :: .int m_laws :: .ref a_sign :: .ref a_length :: .ref a_clause :: .ref a_clauses :: .ref a_chain :: .int m_next :: .int m_wrong :: .int m_number :: .int m_text :: .int m_made :: .int m_deep :: .int m_lines :: .ref a_open :: .int m_opened :: .ref a_stack :: .int m_top :: .ref a_word :: .ref a_said :: .ref a_kept :: [.int m_goNode, .int m_goDrops, .int m_goHour, .int m_goFelt, .int m_goSalt, .int m_goMore, .ref a_stepNode, .ref a_stepDrops, .ref a_stepHour, .ref a_stepNext, .ref a_stepPass, .int m_bestLeft, .int m_bestHour, .int m_bestMany, .ref a_bestPass, .ref a_far, .ref a_waited, .ref a_servers, .ref a_images, .ref a_isMade])), (a_tape, .inl (kA 1, 400, .inl o14))]) hP hD
    refine lv_aload_n hx hb dX11_feed_25 rfl (lv_at hl 0 rfl) ?_
    refine lv_iload_n hx hb dX11_feed_26 rfl (lv_at hl 3 rfl) ?_
    refine z_v (wr := []) (va_runV (As := [.int p2]) (rest := []) ⟨hx, hb, hml, hown, hts⟩ (mX11_four l dC dI kA _ n0 o13 m_laws m_next m_wrong m_number m_text m_made m_deep m_lines m_opened m_top m_goNode m_goDrops m_goHour m_goFelt m_goSalt m_goMore m_bestLeft m_bestHour m_bestMany a_tape a_sign a_length a_clause a_clauses a_chain a_open a_stack a_word a_said a_kept a_stepNode a_stepDrops a_stepHour a_stepNext a_stepPass a_bestPass a_far a_waited a_servers a_images a_isMade o14 p2 (gl_mX11_feed_3 m_taped o5 o13 t0_ t1_ c_1 hp8 hp16) (gl_mX11_feed_4 m_taped o5 o13 t0_ t1_ c_1 hp8 hp16)) (cwV 1 hts gX11_feed_X11_four rfl rfl rfl ⟨rfl, hdX11_four⟩ ⟨(Nat.le_of_ble_eq_true rfl), (Nat.le_of_ble_eq_true rfl)⟩) ⟨zPc.blind, va_recv (q := (RX11, TX11, 42)) hK.1 hP (ci := 11) (q0 := 0) rfl rfl, zPre hK (hP.sub [0, 1] rfl) (hD.sub [0, 1] (by decide) rfl)⟩ rfl rfl hl.1 rfl (lv_room (Nat.le_of_ble_eq_true rfl)) dX11_feed_27 ⟨(Nat.le_of_ble_eq_true rfl), (Nat.le_of_ble_eq_true rfl)⟩) hP hD hS hA [0, 1] [] rfl rfl (by decide) (by decide) (fun u18 H locs hw19 hP hD hS => ?_)
    obtain ⟨o21, o22⟩ := u18
    obtain ⟨hp23, hp24⟩ := hw19
    obtain ⟨q25, eq25⟩ : ∃ y : Int32 × (Nat → Int32), y = fX11_four o13 o14 p2 := ⟨_, rfl⟩
    have hG := zbnd hG eq25
    have eo21 : o21 = q25.1 := by rw [eq25]; exact congrArg (fun z : Int32 × (Nat → Int32) => z.1) hp23
    have hG := zbnd hG eo21
    have eo22 : o22 = q25.2 := by rw [eq25]; exact congrArg (fun z : Int32 × (Nat → Int32) => z.2) hp23
    have hG := zbnd hG eo22
    obtain ⟨hP, hD⟩ := z_re (L := [(n0, .inr (11, .ref a_tape :: .int o21 :: .int m_laws :: .ref a_sign :: .ref a_length :: .ref a_clause :: .ref a_clauses :: .ref a_chain :: .int m_next :: .int m_wrong :: .int m_number :: .int m_text :: .int m_made :: .int m_deep :: .int m_lines :: .ref a_open :: .int m_opened :: .ref a_stack :: .int m_top :: .ref a_word :: .ref a_said :: .ref a_kept :: [.int m_goNode, .int m_goDrops, .int m_goHour, .int m_goFelt, .int m_goSalt, .int m_goMore, .ref a_stepNode, .ref a_stepDrops, .ref a_stepHour, .ref a_stepNext, .ref a_stepPass, .int m_bestLeft, .int m_bestHour, .int m_bestMany, .ref a_bestPass, .ref a_far, .ref a_waited, .ref a_servers, .ref a_images, .ref a_isMade])), (a_tape, .inl (kA 1, 400, .inl o22))]) hP hD
    refine lv_aload_n hx hb dX11_feed_30 rfl (lv_at hl 0 rfl) ?_
    refine lv_iload hx hb dX11_feed_31 (lv_at hl 4 rfl) ?_
    refine z_v (wr := []) (va_runV (As := [.int p3]) (rest := []) ⟨hx, hb, hml, hown, hts⟩ (mX11_four l dC dI kA _ n0 o21 m_laws m_next m_wrong m_number m_text m_made m_deep m_lines m_opened m_top m_goNode m_goDrops m_goHour m_goFelt m_goSalt m_goMore m_bestLeft m_bestHour m_bestMany a_tape a_sign a_length a_clause a_clauses a_chain a_open a_stack a_word a_said a_kept a_stepNode a_stepDrops a_stepHour a_stepNext a_stepPass a_bestPass a_far a_waited a_servers a_images a_isMade o22 p3 (gl_mX11_feed_5 m_taped o5 o13 o21 t0_ t1_ c_1 hp8 hp16 hp24) (gl_mX11_feed_6 m_taped o5 o13 o21 t0_ t1_ c_1 hp8 hp16 hp24)) (cwV 1 hts gX11_feed_X11_four rfl rfl rfl ⟨rfl, hdX11_four⟩ ⟨(Nat.le_of_ble_eq_true rfl), (Nat.le_of_ble_eq_true rfl)⟩) ⟨zPc.blind, va_recv (q := (RX11, TX11, 42)) hK.1 hP (ci := 11) (q0 := 0) rfl rfl, zPre hK (hP.sub [0, 1] rfl) (hD.sub [0, 1] (by decide) rfl)⟩ rfl rfl hl.1 rfl (lv_room (Nat.le_of_ble_eq_true rfl)) dX11_feed_33 ⟨(Nat.le_of_ble_eq_true rfl), (Nat.le_of_ble_eq_true rfl)⟩) hP hD hS hA [0, 1] [] rfl rfl (by decide) (by decide) (fun u26 H locs hw27 hP hD hS => ?_)
    obtain ⟨o29, o30⟩ := u26
    obtain ⟨hp31, hp32⟩ := hw27
    obtain ⟨q33, eq33⟩ : ∃ y : Int32 × (Nat → Int32), y = fX11_four o21 o22 p3 := ⟨_, rfl⟩
    have hG := zbnd hG eq33
    have eo29 : o29 = q33.1 := by rw [eq33]; exact congrArg (fun z : Int32 × (Nat → Int32) => z.1) hp31
    have hG := zbnd hG eo29
    have eo30 : o30 = q33.2 := by rw [eq33]; exact congrArg (fun z : Int32 × (Nat → Int32) => z.2) hp31
    have hG := zbnd hG eo30
    obtain ⟨hP, hD⟩ := z_re (L := [(n0, .inr (11, .ref a_tape :: .int o29 :: .int m_laws :: .ref a_sign :: .ref a_length :: .ref a_clause :: .ref a_clauses :: .ref a_chain :: .int m_next :: .int m_wrong :: .int m_number :: .int m_text :: .int m_made :: .int m_deep :: .int m_lines :: .ref a_open :: .int m_opened :: .ref a_stack :: .int m_top :: .ref a_word :: .ref a_said :: .ref a_kept :: [.int m_goNode, .int m_goDrops, .int m_goHour, .int m_goFelt, .int m_goSalt, .int m_goMore, .ref a_stepNode, .ref a_stepDrops, .ref a_stepHour, .ref a_stepNext, .ref a_stepPass, .int m_bestLeft, .int m_bestHour, .int m_bestMany, .ref a_bestPass, .ref a_far, .ref a_waited, .ref a_servers, .ref a_images, .ref a_isMade])), (a_tape, .inl (kA 1, 400, .inl o30))]) hP hD
    refine lv_aload_n hx hb dX11_feed_36 rfl (lv_at hl 0 rfl) ?_
    refine lv_iload hx hb dX11_feed_37 (lv_at hl 5 rfl) ?_
    refine z_v (wr := []) (va_runV (As := [.int p4]) (rest := []) ⟨hx, hb, hml, hown, hts⟩ (mX11_four l dC dI kA _ n0 o29 m_laws m_next m_wrong m_number m_text m_made m_deep m_lines m_opened m_top m_goNode m_goDrops m_goHour m_goFelt m_goSalt m_goMore m_bestLeft m_bestHour m_bestMany a_tape a_sign a_length a_clause a_clauses a_chain a_open a_stack a_word a_said a_kept a_stepNode a_stepDrops a_stepHour a_stepNext a_stepPass a_bestPass a_far a_waited a_servers a_images a_isMade o30 p4 (gl_mX11_feed_7 m_taped o5 o13 o21 o29 t0_ t1_ c_1 hp8 hp16 hp24 hp32) (gl_mX11_feed_8 m_taped o5 o13 o21 o29 t0_ t1_ c_1 hp8 hp16 hp24 hp32)) (cwV 1 hts gX11_feed_X11_four rfl rfl rfl ⟨rfl, hdX11_four⟩ ⟨(Nat.le_of_ble_eq_true rfl), (Nat.le_of_ble_eq_true rfl)⟩) ⟨zPc.blind, va_recv (q := (RX11, TX11, 42)) hK.1 hP (ci := 11) (q0 := 0) rfl rfl, zPre hK (hP.sub [0, 1] rfl) (hD.sub [0, 1] (by decide) rfl)⟩ rfl rfl hl.1 rfl (lv_room (Nat.le_of_ble_eq_true rfl)) dX11_feed_39 ⟨(Nat.le_of_ble_eq_true rfl), (Nat.le_of_ble_eq_true rfl)⟩) hP hD hS hA [0, 1] [] rfl rfl (by decide) (by decide) (fun u34 H locs hw35 hP hD hS => ?_)
    obtain ⟨o37, o38⟩ := u34
    obtain ⟨hp39, hp40⟩ := hw35
    obtain ⟨q41, eq41⟩ : ∃ y : Int32 × (Nat → Int32), y = fX11_four o29 o30 p4 := ⟨_, rfl⟩
    have hG := zbnd hG eq41
    have eo37 : o37 = q41.1 := by rw [eq41]; exact congrArg (fun z : Int32 × (Nat → Int32) => z.1) hp39
    have hG := zbnd hG eo37
    have eo38 : o38 = q41.2 := by rw [eq41]; exact congrArg (fun z : Int32 × (Nat → Int32) => z.2) hp39
    have hG := zbnd hG eo38
    obtain ⟨hP, hD⟩ := z_re (L := [(n0, .inr (11, .ref a_tape :: .int o37 :: .int m_laws :: .ref a_sign :: .ref a_length :: .ref a_clause :: .ref a_clauses :: .ref a_chain :: .int m_next :: .int m_wrong :: .int m_number :: .int m_text :: .int m_made :: .int m_deep :: .int m_lines :: .ref a_open :: .int m_opened :: .ref a_stack :: .int m_top :: .ref a_word :: .ref a_said :: .ref a_kept :: [.int m_goNode, .int m_goDrops, .int m_goHour, .int m_goFelt, .int m_goSalt, .int m_goMore, .ref a_stepNode, .ref a_stepDrops, .ref a_stepHour, .ref a_stepNext, .ref a_stepPass, .int m_bestLeft, .int m_bestHour, .int m_bestMany, .ref a_bestPass, .ref a_far, .ref a_waited, .ref a_servers, .ref a_images, .ref a_isMade])), (a_tape, .inl (kA 1, 400, .inl o38))]) hP hD
    refine lv_aload_n hx hb dX11_feed_42 rfl (lv_at hl 0 rfl) ?_
    refine va_get (D := (dC, dI)) (ci := 11) (v := .int o37) (C := RX11) (T := TX11) (N := 42) hx hb hts iX11_feed_X11 hown hK.1 hP 0 gz0 vcz11 1 (by decide) (kX11_feed_1 hts) (fun _ h9 => h9) gz1 dX11_feed_43 ?_
    obtain ⟨hP9, hD9⟩ := z_sb (L' := [(n0, .inr (11, .ref a_tape :: .int o37 :: .int m_laws :: .ref a_sign :: .ref a_length :: .ref a_clause :: .ref a_clauses :: .ref a_chain :: .int m_next :: .int m_wrong :: .int m_number :: .int m_text :: .int m_made :: .int m_deep :: .int m_lines :: .ref a_open :: .int m_opened :: .ref a_stack :: .int m_top :: .ref a_word :: .ref a_said :: .ref a_kept :: [.int m_goNode, .int m_goDrops, .int m_goHour, .int m_goFelt, .int m_goSalt, .int m_goMore, .ref a_stepNode, .ref a_stepDrops, .ref a_stepHour, .ref a_stepNext, .ref a_stepPass, .int m_bestLeft, .int m_bestHour, .int m_bestMany, .ref a_bestPass, .ref a_far, .ref a_waited, .ref a_servers, .ref a_images, .ref a_isMade])), (a_tape, .inl (kA 1, 400, .inl o38))]) hP hD [0, 1] (by decide) rfl
    refine W.widen (k := 0) (n := 0) (Nat.le_of_ble_eq_true rfl) (Nat.le_of_ble_eq_true rfl) ?_
    exact W.iret (v := o37) hx hb hr (fun t ht hW => ⟨⟨o37, (o37, o38, o37), rfl, ⟨rfl, (hG.trans hG0.symm), (gl_mX11_feed_9 m_taped o5 o13 o21 o29 o37 t0_ t1_ c_1 hp8 hp16 hp24 hp32 hp40)⟩, by rw [ht]; exact hP9, hD9⟩, hS.F ht⟩) hS.2.2 dX11_feed_46
  · have hG := zelse hG c_1
    refine lv_iconst (v := (-1)) hx hb dX11_feed_13 (by decide) ?_
    obtain ⟨hP9, hD9⟩ := z_sb (L' := [(n0, .inr (11, .ref a_tape :: .int m_taped :: .int m_laws :: .ref a_sign :: .ref a_length :: .ref a_clause :: .ref a_clauses :: .ref a_chain :: .int m_next :: .int m_wrong :: .int m_number :: .int m_text :: .int m_made :: .int m_deep :: .int m_lines :: .ref a_open :: .int m_opened :: .ref a_stack :: .int m_top :: .ref a_word :: .ref a_said :: .ref a_kept :: [.int m_goNode, .int m_goDrops, .int m_goHour, .int m_goFelt, .int m_goSalt, .int m_goMore, .ref a_stepNode, .ref a_stepDrops, .ref a_stepHour, .ref a_stepNext, .ref a_stepPass, .int m_bestLeft, .int m_bestHour, .int m_bestMany, .ref a_bestPass, .ref a_far, .ref a_waited, .ref a_servers, .ref a_images, .ref a_isMade])), (a_tape, .inl (kA 1, 400, .inl tapeF))]) hP hD [0, 1] (by decide) rfl
    refine W.widen (k := 0) (n := 0) (Nat.le_of_ble_eq_true rfl) (Nat.le_of_ble_eq_true rfl) ?_
    exact W.iret (v := (-1)) hx hb hr (fun t ht hW => ⟨⟨(-1), (m_taped, tapeF, (-1)), rfl, ⟨rfl, (hG.trans hG0.symm), (gl_mX11_feed_10 m_taped t0_ t1_ c_1)⟩, by rw [ht]; exact hP9, hD9⟩, hS.F ht⟩) hS.2.2 dX11_feed_14
theorem gl_mX11_end_0 (m_taped : Int32) (h0 : ¬ m_taped < 0) (h1 : ¬ 400 < m_taped) : (¬ m_taped < 0 ∧ ¬ 400 < m_taped) := by grind
theorem gl_mX11_end_1 (m_taped : Int32) (p0 : Int32) (h0 : ¬ m_taped < 0) (h1 : ¬ 400 < m_taped) (h2 : ¬ p0 < 0) (h3 : p0 ≤ m_taped) : (¬ p0 < 0 ∧ ¬ 400 < p0) := by grind
theorem gl_mX11_end_2 (m_taped : Int32) (p0 : Int32) (h0 : ¬ m_taped < 0) (h1 : ¬ 400 < m_taped) (h2 : ¬ p0 < 0) (h3 : ¬ p0 ≤ m_taped) : (¬ m_taped < 0 ∧ ¬ 400 < m_taped) := by grind
set_option maxRecDepth 100000 in
def fX11_end (m_taped : Int32) (p0 : Int32) : Int32 × Int32 := if p0 < 0 then ((m_taped, (-1))) else (if p0 ≤ m_taped then ((p0, p0)) else ((m_taped, (-1))))
set_option maxHeartbeats 4000000 in
set_option maxRecDepth 100000 in
theorem mX11_end (l : Launch) (dC : Nat → ClassId) (dI : Nat → Nat → Nat) (kA : Nat → ClassId) (sz : Nat) (n0 : Nat) (m_taped : Int32) (m_laws : Int32) (m_next : Int32) (m_wrong : Int32) (m_number : Int32) (m_text : Int32) (m_made : Int32) (m_deep : Int32) (m_lines : Int32) (m_opened : Int32) (m_top : Int32) (m_goNode : Int32) (m_goDrops : Int32) (m_goHour : Int32) (m_goFelt : Int32) (m_goSalt : Int32) (m_goMore : Int32) (m_bestLeft : Int32) (m_bestHour : Int32) (m_bestMany : Int32) (a_tape : Nat) (a_sign : Nat) (a_length : Nat) (a_clause : Nat) (a_clauses : Nat) (a_chain : Nat) (a_open : Nat) (a_stack : Nat) (a_word : Nat) (a_said : Nat) (a_kept : Nat) (a_stepNode : Nat) (a_stepDrops : Nat) (a_stepHour : Nat) (a_stepNext : Nat) (a_stepPass : Nat) (a_bestPass : Nat) (a_far : Nat) (a_waited : Nat) (a_servers : Nat) (a_images : Nat) (a_isMade : Nat) (p0 : Int32) (t0_ : ¬ m_taped < 0) (t1_ : ¬ 400 < m_taped) : Met l yX11_end wsX11_end ({ frames := 0, cells := 0, slots := 0, locals := 0 }) (zPc dC dI kA sz [.ref n0, .int p0] [(n0, .inr (11, .ref a_tape :: .int m_taped :: .int m_laws :: .ref a_sign :: .ref a_length :: .ref a_clause :: .ref a_clauses :: .ref a_chain :: .int m_next :: .int m_wrong :: .int m_number :: .int m_text :: .int m_made :: .int m_deep :: .int m_lines :: .ref a_open :: .int m_opened :: .ref a_stack :: .int m_top :: .ref a_word :: .ref a_said :: .ref a_kept :: [.int m_goNode, .int m_goDrops, .int m_goHour, .int m_goFelt, .int m_goSalt, .int m_goMore, .ref a_stepNode, .ref a_stepDrops, .ref a_stepHour, .ref a_stepNext, .ref a_stepPass, .int m_bestLeft, .int m_bestHour, .int m_bestMany, .ref a_bestPass, .ref a_far, .ref a_waited, .ref a_servers, .ref a_images, .ref a_isMade]))]) (va_Qi (fun (r : Int32) (u : Int32 × Int32) => r = u.2 ∧ (u.1, u.2) = fX11_end m_taped p0 ∧ (¬ u.1 < 0 ∧ ¬ 400 < u.1)) (zB dC dI (va_A [(n0, .inr (11, .ref a_tape :: .int m_taped :: .int m_laws :: .ref a_sign :: .ref a_length :: .ref a_clause :: .ref a_clauses :: .ref a_chain :: .int m_next :: .int m_wrong :: .int m_number :: .int m_text :: .int m_made :: .int m_deep :: .int m_lines :: .ref a_open :: .int m_opened :: .ref a_stack :: .int m_top :: .ref a_word :: .ref a_said :: .ref a_kept :: [.int m_goNode, .int m_goDrops, .int m_goHour, .int m_goFelt, .int m_goSalt, .int m_goMore, .ref a_stepNode, .ref a_stepDrops, .ref a_stepHour, .ref a_stepNext, .ref a_stepPass, .int m_bestLeft, .int m_bestHour, .int m_bestMany, .ref a_bestPass, .ref a_far, .ref a_waited, .ref a_servers, .ref a_images, .ref a_isMade]))] sz) (fun (u : Int32 × Int32) => [(n0, .inr (11, .ref a_tape :: .int u.1 :: .int m_laws :: .ref a_sign :: .ref a_length :: .ref a_clause :: .ref a_clauses :: .ref a_chain :: .int m_next :: .int m_wrong :: .int m_number :: .int m_text :: .int m_made :: .int m_deep :: .int m_lines :: .ref a_open :: .int m_opened :: .ref a_stack :: .int m_top :: .ref a_word :: .ref a_said :: .ref a_kept :: [.int m_goNode, .int m_goDrops, .int m_goHour, .int m_goFelt, .int m_goSalt, .int m_goMore, .ref a_stepNode, .ref a_stepDrops, .ref a_stepHour, .ref a_stepNext, .ref a_stepPass, .int m_bestLeft, .int m_bestHour, .int m_bestMany, .ref a_bestPass, .ref a_far, .ref a_waited, .ref a_servers, .ref a_images, .ref a_isMade]))])) (va_A [(n0, .inr (11, .ref a_tape :: .int m_taped :: .int m_laws :: .ref a_sign :: .ref a_length :: .ref a_clause :: .ref a_clauses :: .ref a_chain :: .int m_next :: .int m_wrong :: .int m_number :: .int m_text :: .int m_made :: .int m_deep :: .int m_lines :: .ref a_open :: .int m_opened :: .ref a_stack :: .int m_top :: .ref a_word :: .ref a_said :: .ref a_kept :: [.int m_goNode, .int m_goDrops, .int m_goHour, .int m_goFelt, .int m_goSalt, .int m_goMore, .ref a_stepNode, .ref a_stepDrops, .ref a_stepHour, .ref a_stepNext, .ref a_stepPass, .int m_bestLeft, .int m_bestHour, .int m_bestMany, .ref a_bestPass, .ref a_far, .ref a_waited, .ref a_servers, .ref a_images, .ref a_isMade]))] sz)) 0 0 (va_A [(n0, .inr (11, .ref a_tape :: .int m_taped :: .int m_laws :: .ref a_sign :: .ref a_length :: .ref a_clause :: .ref a_clauses :: .ref a_chain :: .int m_next :: .int m_wrong :: .int m_number :: .int m_text :: .int m_made :: .int m_deep :: .int m_lines :: .ref a_open :: .int m_opened :: .ref a_stack :: .int m_top :: .ref a_word :: .ref a_said :: .ref a_kept :: [.int m_goNode, .int m_goDrops, .int m_goHour, .int m_goFelt, .int m_goSalt, .int m_goMore, .ref a_stepNode, .ref a_stepDrops, .ref a_stepHour, .ref a_stepNext, .ref a_stepPass, .int m_bestLeft, .int m_bestHour, .int m_bestMany, .ref a_bestPass, .ref a_far, .ref a_waited, .ref a_servers, .ref a_images, .ref a_isMade]))] sz) := by
  refine Met.ofW (cc := cX11_end) (maxL := 2) (ret := (some .int)) pnX11 rfl ?_
  intro p e s m args below meth c s₁ B hml hv
  obtain ⟨rfl, hsz, hP, hK, hD0⟩ := hv
  have hx := B.exec
  have hb := B.bytes
  have hr := B.returns
  have hts := atoms_spec (ws := wsX11_end) B.pre
  have hown : s.vm.findClass RX11 = some m.cls := findClass_of_methodNamed B.named
  have hlocks := B.notSynchronized
  subst hsz
  have hD := hD0.self (sz := s.heap.size)
  generalize hAe : va_A [(n0, .inr (11, .ref a_tape :: .int m_taped :: .int m_laws :: .ref a_sign :: .ref a_length :: .ref a_clause :: .ref a_clauses :: .ref a_chain :: .int m_next :: .int m_wrong :: .int m_number :: .int m_text :: .int m_made :: .int m_deep :: .int m_lines :: .ref a_open :: .int m_opened :: .ref a_stack :: .int m_top :: .ref a_word :: .ref a_said :: .ref a_kept :: [.int m_goNode, .int m_goDrops, .int m_goHour, .int m_goFelt, .int m_goSalt, .int m_goMore, .ref a_stepNode, .ref a_stepDrops, .ref a_stepHour, .ref a_stepNext, .ref a_stepPass, .int m_bestLeft, .int m_bestHour, .int m_bestMany, .ref a_bestPass, .ref a_far, .ref a_waited, .ref a_servers, .ref a_images, .ref a_isMade]))] s.heap.size = A at hD ⊢
  have hA : ∀ q : Nat, s.heap.size ≤ q → A q := zA_of hAe
  have hS : va_S A s.heap s.heap [] := va_S.rf
  have hP : va_P (dC, dI) vwCl [(n0, .inr (11, .ref a_tape :: .int m_taped :: .int m_laws :: .ref a_sign :: .ref a_length :: .ref a_clause :: .ref a_clauses :: .ref a_chain :: .int m_next :: .int m_wrong :: .int m_number :: .int m_text :: .int m_made :: .int m_deep :: .int m_lines :: .ref a_open :: .int m_opened :: .ref a_stack :: .int m_top :: .ref a_word :: .ref a_said :: .ref a_kept :: [.int m_goNode, .int m_goDrops, .int m_goHour, .int m_goFelt, .int m_goSalt, .int m_goMore, .ref a_stepNode, .ref a_stepDrops, .ref a_stepHour, .ref a_stepNext, .ref a_stepPass, .int m_bestLeft, .int m_bestHour, .int m_bestMany, .ref a_bestPass, .ref a_far, .ref a_waited, .ref a_servers, .ref a_images, .ref a_isMade]))] s.heap := hP
  have hl := lv_entry ([.ref n0, .int p0]) (n := 2) (Nat.le_of_ble_eq_true rfl)
  rw [lg_entry_eq]
  generalize (lg_sl ([.ref n0, .int p0]) ++ List.replicate (2 - (lg_sl ([.ref n0, .int p0])).length) Slot.unset).toArray = ls at hl ⊢
  have hl : lv_has ls 2 [(0, .ref n0), (1, .int p0)] := hl
  obtain ⟨H, hHe⟩ : ∃ H : Heap, H = s.heap := ⟨_, rfl⟩
  obtain ⟨G, hG0⟩ : ∃ G : Int32 × Int32, fX11_end m_taped p0 = G := ⟨_, rfl⟩
  have hG := hG0
  unfold fX11_end at hG
  refine lv_iload_n hx hb dX11_end_0 rfl (lv_at hl 1 rfl) ?_
  refine lv_if_lt (tgt := 12) hx hb dX11_end_1 (by decide) (fun c_1 => ?_) (fun c_1 => ?_)
  · have hG := zthen hG c_1
    refine lv_iconst (v := (-1)) hx hb dX11_end_12 (by decide) ?_
    obtain ⟨hP9, hD9⟩ := z_sb (L' := [(n0, .inr (11, .ref a_tape :: .int m_taped :: .int m_laws :: .ref a_sign :: .ref a_length :: .ref a_clause :: .ref a_clauses :: .ref a_chain :: .int m_next :: .int m_wrong :: .int m_number :: .int m_text :: .int m_made :: .int m_deep :: .int m_lines :: .ref a_open :: .int m_opened :: .ref a_stack :: .int m_top :: .ref a_word :: .ref a_said :: .ref a_kept :: [.int m_goNode, .int m_goDrops, .int m_goHour, .int m_goFelt, .int m_goSalt, .int m_goMore, .ref a_stepNode, .ref a_stepDrops, .ref a_stepHour, .ref a_stepNext, .ref a_stepPass, .int m_bestLeft, .int m_bestHour, .int m_bestMany, .ref a_bestPass, .ref a_far, .ref a_waited, .ref a_servers, .ref a_images, .ref a_isMade]))]) hP hD [0] (by decide) rfl
    refine W.widen (k := 0) (n := 0) (Nat.le_of_ble_eq_true rfl) (Nat.le_of_ble_eq_true rfl) ?_
    exact W.iret (v := (-1)) hx hb hr (fun t ht hW => ⟨⟨(-1), (m_taped, (-1)), rfl, ⟨rfl, (hG.trans hG0.symm), (gl_mX11_end_0 m_taped t0_ t1_)⟩, by rw [ht]; exact hP9, hD9⟩, hS.F ht⟩) hS.2.2 dX11_end_13
  · have hG := zelse hG c_1
    refine lv_iload_n hx hb dX11_end_4 rfl (lv_at hl 1 rfl) ?_
    refine lv_aload_n hx hb dX11_end_5 rfl (lv_at hl 0 rfl) ?_
    refine va_get (D := (dC, dI)) (ci := 11) (v := .int m_taped) (C := RX11) (T := TX11) (N := 42) hx hb hts iX11_end_X11 hown hK.1 hP 0 gz0 vcz11 1 (by decide) (kX11_end_1 hts) (fun _ h9 => h9) gz1 dX11_end_6 ?_
    refine lv_icmp_le (tgt := 14) hx hb dX11_end_9 (by decide) (fun c_2 => ?_) (fun c_2 => ?_)
    · have hG := zthen hG c_2
      refine lv_aload_n hx hb dX11_end_14 rfl (lv_at hl 0 rfl) ?_
      refine lv_iload_n hx hb dX11_end_15 rfl (lv_at hl 1 rfl) ?_
      refine va_put (D := (dC, dI)) (ci := 11) (v := .int p0) (ty := .int) (C := RX11) (T := TX11) (N := 42) hx hb hts iX11_end_X11 tyX11 tyX11_ok nmX11 hown hK.1 hP hD hS 0 gz0 vcz11 1 (by decide) (kX11_end_1 hts) (fun _ h9 => h9) rfl pfdI rfl rfl (Nat.le_of_ble_eq_true rfl) dX11_end_16 (fun H locs hP hD hS => ?_)
      obtain ⟨hP, hD⟩ := z_re (L := [(n0, .inr (11, .ref a_tape :: .int p0 :: .int m_laws :: .ref a_sign :: .ref a_length :: .ref a_clause :: .ref a_clauses :: .ref a_chain :: .int m_next :: .int m_wrong :: .int m_number :: .int m_text :: .int m_made :: .int m_deep :: .int m_lines :: .ref a_open :: .int m_opened :: .ref a_stack :: .int m_top :: .ref a_word :: .ref a_said :: .ref a_kept :: [.int m_goNode, .int m_goDrops, .int m_goHour, .int m_goFelt, .int m_goSalt, .int m_goMore, .ref a_stepNode, .ref a_stepDrops, .ref a_stepHour, .ref a_stepNext, .ref a_stepPass, .int m_bestLeft, .int m_bestHour, .int m_bestMany, .ref a_bestPass, .ref a_far, .ref a_waited, .ref a_servers, .ref a_images, .ref a_isMade]))]) hP hD
      refine lv_iload_n hx hb dX11_end_19 rfl (lv_at hl 1 rfl) ?_
      obtain ⟨hP9, hD9⟩ := z_sb (L' := [(n0, .inr (11, .ref a_tape :: .int p0 :: .int m_laws :: .ref a_sign :: .ref a_length :: .ref a_clause :: .ref a_clauses :: .ref a_chain :: .int m_next :: .int m_wrong :: .int m_number :: .int m_text :: .int m_made :: .int m_deep :: .int m_lines :: .ref a_open :: .int m_opened :: .ref a_stack :: .int m_top :: .ref a_word :: .ref a_said :: .ref a_kept :: [.int m_goNode, .int m_goDrops, .int m_goHour, .int m_goFelt, .int m_goSalt, .int m_goMore, .ref a_stepNode, .ref a_stepDrops, .ref a_stepHour, .ref a_stepNext, .ref a_stepPass, .int m_bestLeft, .int m_bestHour, .int m_bestMany, .ref a_bestPass, .ref a_far, .ref a_waited, .ref a_servers, .ref a_images, .ref a_isMade]))]) hP hD [0] (by decide) rfl
      refine W.widen (k := 0) (n := 0) (Nat.le_of_ble_eq_true rfl) (Nat.le_of_ble_eq_true rfl) ?_
      exact W.iret (v := p0) hx hb hr (fun t ht hW => ⟨⟨p0, (p0, p0), rfl, ⟨rfl, (hG.trans hG0.symm), (gl_mX11_end_1 m_taped p0 t0_ t1_ c_1 c_2)⟩, by rw [ht]; exact hP9, hD9⟩, hS.F ht⟩) hS.2.2 dX11_end_20
    · have hG := zelse hG c_2
      refine lv_iconst (v := (-1)) hx hb dX11_end_12 (by decide) ?_
      obtain ⟨hP9, hD9⟩ := z_sb (L' := [(n0, .inr (11, .ref a_tape :: .int m_taped :: .int m_laws :: .ref a_sign :: .ref a_length :: .ref a_clause :: .ref a_clauses :: .ref a_chain :: .int m_next :: .int m_wrong :: .int m_number :: .int m_text :: .int m_made :: .int m_deep :: .int m_lines :: .ref a_open :: .int m_opened :: .ref a_stack :: .int m_top :: .ref a_word :: .ref a_said :: .ref a_kept :: [.int m_goNode, .int m_goDrops, .int m_goHour, .int m_goFelt, .int m_goSalt, .int m_goMore, .ref a_stepNode, .ref a_stepDrops, .ref a_stepHour, .ref a_stepNext, .ref a_stepPass, .int m_bestLeft, .int m_bestHour, .int m_bestMany, .ref a_bestPass, .ref a_far, .ref a_waited, .ref a_servers, .ref a_images, .ref a_isMade]))]) hP hD [0] (by decide) rfl
      refine W.widen (k := 0) (n := 0) (Nat.le_of_ble_eq_true rfl) (Nat.le_of_ble_eq_true rfl) ?_
      exact W.iret (v := (-1)) hx hb hr (fun t ht hW => ⟨⟨(-1), (m_taped, (-1)), rfl, ⟨rfl, (hG.trans hG0.symm), (gl_mX11_end_2 m_taped p0 t0_ t1_ c_1 c_2)⟩, by rw [ht]; exact hP9, hD9⟩, hS.F ht⟩) hS.2.2 dX11_end_13
theorem gl_mX11_fails_0 (m_wrong : Int32) (h0 : ¬ m_wrong < 0) (h1 : ¬ m_wrong = 0) : ¬ m_wrong < 1 := by grind
theorem gl_mX11_fails_1 (p0 : Int32) (p1 : Int32) (x2 : Int32) (h0 : ¬ p0 < 0) (h1 : ¬ 4 < p0) (h2 : ¬ p1 < 0) (h3 : ¬ 400 < p1) (h4 : x2 = ((1 + (8 * p1)) + p0)) : ¬ x2 < 1 := by grind
set_option maxRecDepth 100000 in
def fX11_fails (m_wrong : Int32) (p0 : Int32) (p1 : Int32) : Int32 := if m_wrong = 0 then (bnd (((1 + (8 * p1)) + p0)) (fun (x2 : Int32) => x2)) else (m_wrong)
set_option maxHeartbeats 4000000 in
set_option maxRecDepth 100000 in
theorem mX11_fails (l : Launch) (dC : Nat → ClassId) (dI : Nat → Nat → Nat) (kA : Nat → ClassId) (sz : Nat) (n0 : Nat) (m_taped : Int32) (m_laws : Int32) (m_next : Int32) (m_wrong : Int32) (m_number : Int32) (m_text : Int32) (m_made : Int32) (m_deep : Int32) (m_lines : Int32) (m_opened : Int32) (m_top : Int32) (m_goNode : Int32) (m_goDrops : Int32) (m_goHour : Int32) (m_goFelt : Int32) (m_goSalt : Int32) (m_goMore : Int32) (m_bestLeft : Int32) (m_bestHour : Int32) (m_bestMany : Int32) (a_tape : Nat) (a_sign : Nat) (a_length : Nat) (a_clause : Nat) (a_clauses : Nat) (a_chain : Nat) (a_open : Nat) (a_stack : Nat) (a_word : Nat) (a_said : Nat) (a_kept : Nat) (a_stepNode : Nat) (a_stepDrops : Nat) (a_stepHour : Nat) (a_stepNext : Nat) (a_stepPass : Nat) (a_bestPass : Nat) (a_far : Nat) (a_waited : Nat) (a_servers : Nat) (a_images : Nat) (a_isMade : Nat) (p0 : Int32) (p1 : Int32) (w0_ : ¬ m_wrong < 0) (k0_ : ¬ p0 < 0) (k4_ : ¬ 4 < p0) (a0_ : ¬ p1 < 0) (a4_ : ¬ 400 < p1) : Met l yX11_fails wsX11_fails ({ frames := 0, cells := 0, slots := 0, locals := 0 }) (zPc dC dI kA sz [.ref n0, .int p0, .int p1] [(n0, .inr (11, .ref a_tape :: .int m_taped :: .int m_laws :: .ref a_sign :: .ref a_length :: .ref a_clause :: .ref a_clauses :: .ref a_chain :: .int m_next :: .int m_wrong :: .int m_number :: .int m_text :: .int m_made :: .int m_deep :: .int m_lines :: .ref a_open :: .int m_opened :: .ref a_stack :: .int m_top :: .ref a_word :: .ref a_said :: .ref a_kept :: [.int m_goNode, .int m_goDrops, .int m_goHour, .int m_goFelt, .int m_goSalt, .int m_goMore, .ref a_stepNode, .ref a_stepDrops, .ref a_stepHour, .ref a_stepNext, .ref a_stepPass, .int m_bestLeft, .int m_bestHour, .int m_bestMany, .ref a_bestPass, .ref a_far, .ref a_waited, .ref a_servers, .ref a_images, .ref a_isMade]))]) (va_Qi (fun (r : Int32) (u : Int32) => r = 0 ∧ u = fX11_fails m_wrong p0 p1 ∧ ¬ u < 1) (zB dC dI (va_A [(n0, .inr (11, .ref a_tape :: .int m_taped :: .int m_laws :: .ref a_sign :: .ref a_length :: .ref a_clause :: .ref a_clauses :: .ref a_chain :: .int m_next :: .int m_wrong :: .int m_number :: .int m_text :: .int m_made :: .int m_deep :: .int m_lines :: .ref a_open :: .int m_opened :: .ref a_stack :: .int m_top :: .ref a_word :: .ref a_said :: .ref a_kept :: [.int m_goNode, .int m_goDrops, .int m_goHour, .int m_goFelt, .int m_goSalt, .int m_goMore, .ref a_stepNode, .ref a_stepDrops, .ref a_stepHour, .ref a_stepNext, .ref a_stepPass, .int m_bestLeft, .int m_bestHour, .int m_bestMany, .ref a_bestPass, .ref a_far, .ref a_waited, .ref a_servers, .ref a_images, .ref a_isMade]))] sz) (fun (u : Int32) => [(n0, .inr (11, .ref a_tape :: .int m_taped :: .int m_laws :: .ref a_sign :: .ref a_length :: .ref a_clause :: .ref a_clauses :: .ref a_chain :: .int m_next :: .int u :: .int m_number :: .int m_text :: .int m_made :: .int m_deep :: .int m_lines :: .ref a_open :: .int m_opened :: .ref a_stack :: .int m_top :: .ref a_word :: .ref a_said :: .ref a_kept :: [.int m_goNode, .int m_goDrops, .int m_goHour, .int m_goFelt, .int m_goSalt, .int m_goMore, .ref a_stepNode, .ref a_stepDrops, .ref a_stepHour, .ref a_stepNext, .ref a_stepPass, .int m_bestLeft, .int m_bestHour, .int m_bestMany, .ref a_bestPass, .ref a_far, .ref a_waited, .ref a_servers, .ref a_images, .ref a_isMade]))])) (va_A [(n0, .inr (11, .ref a_tape :: .int m_taped :: .int m_laws :: .ref a_sign :: .ref a_length :: .ref a_clause :: .ref a_clauses :: .ref a_chain :: .int m_next :: .int m_wrong :: .int m_number :: .int m_text :: .int m_made :: .int m_deep :: .int m_lines :: .ref a_open :: .int m_opened :: .ref a_stack :: .int m_top :: .ref a_word :: .ref a_said :: .ref a_kept :: [.int m_goNode, .int m_goDrops, .int m_goHour, .int m_goFelt, .int m_goSalt, .int m_goMore, .ref a_stepNode, .ref a_stepDrops, .ref a_stepHour, .ref a_stepNext, .ref a_stepPass, .int m_bestLeft, .int m_bestHour, .int m_bestMany, .ref a_bestPass, .ref a_far, .ref a_waited, .ref a_servers, .ref a_images, .ref a_isMade]))] sz)) 0 0 (va_A [(n0, .inr (11, .ref a_tape :: .int m_taped :: .int m_laws :: .ref a_sign :: .ref a_length :: .ref a_clause :: .ref a_clauses :: .ref a_chain :: .int m_next :: .int m_wrong :: .int m_number :: .int m_text :: .int m_made :: .int m_deep :: .int m_lines :: .ref a_open :: .int m_opened :: .ref a_stack :: .int m_top :: .ref a_word :: .ref a_said :: .ref a_kept :: [.int m_goNode, .int m_goDrops, .int m_goHour, .int m_goFelt, .int m_goSalt, .int m_goMore, .ref a_stepNode, .ref a_stepDrops, .ref a_stepHour, .ref a_stepNext, .ref a_stepPass, .int m_bestLeft, .int m_bestHour, .int m_bestMany, .ref a_bestPass, .ref a_far, .ref a_waited, .ref a_servers, .ref a_images, .ref a_isMade]))] sz) := by
  refine Met.ofW (cc := cX11_fails) (maxL := 3) (ret := (some .boolean)) pnX11 rfl ?_
  intro p e s m args below meth c s₁ B hml hv
  obtain ⟨rfl, hsz, hP, hK, hD0⟩ := hv
  have hx := B.exec
  have hb := B.bytes
  have hr := B.returns
  have hts := atoms_spec (ws := wsX11_fails) B.pre
  have hown : s.vm.findClass RX11 = some m.cls := findClass_of_methodNamed B.named
  have hlocks := B.notSynchronized
  subst hsz
  have hD := hD0.self (sz := s.heap.size)
  generalize hAe : va_A [(n0, .inr (11, .ref a_tape :: .int m_taped :: .int m_laws :: .ref a_sign :: .ref a_length :: .ref a_clause :: .ref a_clauses :: .ref a_chain :: .int m_next :: .int m_wrong :: .int m_number :: .int m_text :: .int m_made :: .int m_deep :: .int m_lines :: .ref a_open :: .int m_opened :: .ref a_stack :: .int m_top :: .ref a_word :: .ref a_said :: .ref a_kept :: [.int m_goNode, .int m_goDrops, .int m_goHour, .int m_goFelt, .int m_goSalt, .int m_goMore, .ref a_stepNode, .ref a_stepDrops, .ref a_stepHour, .ref a_stepNext, .ref a_stepPass, .int m_bestLeft, .int m_bestHour, .int m_bestMany, .ref a_bestPass, .ref a_far, .ref a_waited, .ref a_servers, .ref a_images, .ref a_isMade]))] s.heap.size = A at hD ⊢
  have hA : ∀ q : Nat, s.heap.size ≤ q → A q := zA_of hAe
  have hS : va_S A s.heap s.heap [] := va_S.rf
  have hP : va_P (dC, dI) vwCl [(n0, .inr (11, .ref a_tape :: .int m_taped :: .int m_laws :: .ref a_sign :: .ref a_length :: .ref a_clause :: .ref a_clauses :: .ref a_chain :: .int m_next :: .int m_wrong :: .int m_number :: .int m_text :: .int m_made :: .int m_deep :: .int m_lines :: .ref a_open :: .int m_opened :: .ref a_stack :: .int m_top :: .ref a_word :: .ref a_said :: .ref a_kept :: [.int m_goNode, .int m_goDrops, .int m_goHour, .int m_goFelt, .int m_goSalt, .int m_goMore, .ref a_stepNode, .ref a_stepDrops, .ref a_stepHour, .ref a_stepNext, .ref a_stepPass, .int m_bestLeft, .int m_bestHour, .int m_bestMany, .ref a_bestPass, .ref a_far, .ref a_waited, .ref a_servers, .ref a_images, .ref a_isMade]))] s.heap := hP
  have hl := lv_entry ([.ref n0, .int p0, .int p1]) (n := 3) (Nat.le_of_ble_eq_true rfl)
  rw [lg_entry_eq]
  generalize (lg_sl ([.ref n0, .int p0, .int p1]) ++ List.replicate (3 - (lg_sl ([.ref n0, .int p0, .int p1])).length) Slot.unset).toArray = ls at hl ⊢
  have hl : lv_has ls 3 [(0, .ref n0), (1, .int p0), (2, .int p1)] := hl
  obtain ⟨H, hHe⟩ : ∃ H : Heap, H = s.heap := ⟨_, rfl⟩
  obtain ⟨G, hG0⟩ : ∃ G : Int32, fX11_fails m_wrong p0 p1 = G := ⟨_, rfl⟩
  have hG := hG0
  unfold fX11_fails at hG
  refine lv_aload_n hx hb dX11_fails_0 rfl (lv_at hl 0 rfl) ?_
  refine va_get (D := (dC, dI)) (ci := 11) (v := .int m_wrong) (C := RX11) (T := TX11) (N := 42) hx hb hts iX11_fails_X11 hown hK.1 hP 0 gz0 vcz11 9 (by decide) (kX11_fails_1 hts) (fun _ h9 => h9) gz9 dX11_fails_1 ?_
  refine lv_if_ne (tgt := 19) hx hb dX11_fails_4 (by decide) (fun c_1 => ?_) (fun c_1 => ?_)
  · have hG := zelse hG c_1
    refine lv_iconst (v := 0) hx hb dX11_fails_19 (by decide) ?_
    obtain ⟨hP9, hD9⟩ := z_sb (L' := [(n0, .inr (11, .ref a_tape :: .int m_taped :: .int m_laws :: .ref a_sign :: .ref a_length :: .ref a_clause :: .ref a_clauses :: .ref a_chain :: .int m_next :: .int m_wrong :: .int m_number :: .int m_text :: .int m_made :: .int m_deep :: .int m_lines :: .ref a_open :: .int m_opened :: .ref a_stack :: .int m_top :: .ref a_word :: .ref a_said :: .ref a_kept :: [.int m_goNode, .int m_goDrops, .int m_goHour, .int m_goFelt, .int m_goSalt, .int m_goMore, .ref a_stepNode, .ref a_stepDrops, .ref a_stepHour, .ref a_stepNext, .ref a_stepPass, .int m_bestLeft, .int m_bestHour, .int m_bestMany, .ref a_bestPass, .ref a_far, .ref a_waited, .ref a_servers, .ref a_images, .ref a_isMade]))]) hP hD [0] (by decide) rfl
    refine W.widen (k := 0) (n := 0) (Nat.le_of_ble_eq_true rfl) (Nat.le_of_ble_eq_true rfl) ?_
    exact W.zret (v := 0) hx hb hr rfl (fun t ht hW => ⟨⟨0, (m_wrong), rfl, ⟨rfl, (hG.trans hG0.symm), (gl_mX11_fails_0 m_wrong w0_ c_1)⟩, by rw [ht]; exact hP9, hD9⟩, hS.F ht⟩) hS.2.2 dX11_fails_20
  · have hG := zthen hG c_1
    refine lv_aload_n hx hb dX11_fails_7 rfl (lv_at hl 0 rfl) ?_
    refine lv_iconst (v := 1) hx hb dX11_fails_8 (by decide) ?_
    refine lv_bipush (v := 8) hx hb dX11_fails_9 (by decide) ?_
    refine lv_iload_n hx hb dX11_fails_11 rfl (lv_at hl 2 rfl) ?_
    refine lv_imul hx hb dX11_fails_12 ?_
    refine lv_iadd hx hb dX11_fails_13 ?_
    refine lv_iload_n hx hb dX11_fails_14 rfl (lv_at hl 1 rfl) ?_
    refine lv_iadd hx hb dX11_fails_15 ?_
    refine lv_topi (fun x2 ex2 => ?_)
    have hG := zbnd hG ex2
    refine va_put (D := (dC, dI)) (ci := 11) (v := .int x2) (ty := .int) (C := RX11) (T := TX11) (N := 42) hx hb hts iX11_fails_X11 tyX11 tyX11_ok nmX11 hown hK.1 hP hD hS 0 gz0 vcz11 9 (by decide) (kX11_fails_1 hts) (fun _ h9 => h9) rfl pfdI rfl rfl (Nat.le_of_ble_eq_true rfl) dX11_fails_16 (fun H locs hP hD hS => ?_)
    obtain ⟨hP, hD⟩ := z_re (L := [(n0, .inr (11, .ref a_tape :: .int m_taped :: .int m_laws :: .ref a_sign :: .ref a_length :: .ref a_clause :: .ref a_clauses :: .ref a_chain :: .int m_next :: .int x2 :: .int m_number :: .int m_text :: .int m_made :: .int m_deep :: .int m_lines :: .ref a_open :: .int m_opened :: .ref a_stack :: .int m_top :: .ref a_word :: .ref a_said :: .ref a_kept :: [.int m_goNode, .int m_goDrops, .int m_goHour, .int m_goFelt, .int m_goSalt, .int m_goMore, .ref a_stepNode, .ref a_stepDrops, .ref a_stepHour, .ref a_stepNext, .ref a_stepPass, .int m_bestLeft, .int m_bestHour, .int m_bestMany, .ref a_bestPass, .ref a_far, .ref a_waited, .ref a_servers, .ref a_images, .ref a_isMade]))]) hP hD
    refine lv_iconst (v := 0) hx hb dX11_fails_19 (by decide) ?_
    obtain ⟨hP9, hD9⟩ := z_sb (L' := [(n0, .inr (11, .ref a_tape :: .int m_taped :: .int m_laws :: .ref a_sign :: .ref a_length :: .ref a_clause :: .ref a_clauses :: .ref a_chain :: .int m_next :: .int x2 :: .int m_number :: .int m_text :: .int m_made :: .int m_deep :: .int m_lines :: .ref a_open :: .int m_opened :: .ref a_stack :: .int m_top :: .ref a_word :: .ref a_said :: .ref a_kept :: [.int m_goNode, .int m_goDrops, .int m_goHour, .int m_goFelt, .int m_goSalt, .int m_goMore, .ref a_stepNode, .ref a_stepDrops, .ref a_stepHour, .ref a_stepNext, .ref a_stepPass, .int m_bestLeft, .int m_bestHour, .int m_bestMany, .ref a_bestPass, .ref a_far, .ref a_waited, .ref a_servers, .ref a_images, .ref a_isMade]))]) hP hD [0] (by decide) rfl
    refine W.widen (k := 0) (n := 0) (Nat.le_of_ble_eq_true rfl) (Nat.le_of_ble_eq_true rfl) ?_
    exact W.zret (v := 0) hx hb hr rfl (fun t ht hW => ⟨⟨0, (x2), rfl, ⟨rfl, (hG.trans hG0.symm), (gl_mX11_fails_1 p0 p1 x2 k0_ k4_ a0_ a4_ ex2)⟩, by rw [ht]; exact hP9, hD9⟩, hS.F ht⟩) hS.2.2 dX11_fails_20
