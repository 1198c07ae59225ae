def ixX4_setGone : List Nat := [103, 722, 723, 725, 731, 1440, 1441, 1442, 1443]
def wsX4_setGone : List Cond := .code yX4_setGone cX4_setGone 3 none :: ixX4_setGone.map wt
def ixX4_setHour : List Nat := [14, 103, 599, 600, 601, 602, 739, 740, 1440, 1441, 1442, 1443, 1476, 1477, 1478, 1479, 1480, 1481, 1482, 1483, 1484, 1485]
def wsX4_setHour : List Cond := .code yX4_setHour cX4_setHour 3 none :: ixX4_setHour.map wt
def ixX4_setLoad : List Nat := [103, 748, 1440, 1441, 1442, 1443]
def wsX4_setLoad : List Cond := .code yX4_setLoad cX4_setLoad 4 none :: ixX4_setLoad.map wt
def ixX4_setNode : List Nat := [51, 63, 68, 103, 595, 596, 597, 721, 727, 735, 1440, 1441, 1442, 1443, 1457, 1458, 1459, 1476, 1477, 1478, 1479, 1480, 1481, 1482, 1483, 1484, 1485]
def wsX4_setNode : List Cond := .code yX4_setNode cX4_setNode 3 none :: ixX4_setNode.map wt
def ixX4_setPass : List Nat := [14, 51, 53, 63, 68, 103, 179, 200, 201, 202, 593, 594, 595, 596, 597, 671, 672, 673, 720, 721, 722, 723, 724, 725, 726, 727, 1440, 1441, 1442, 1443, 1457, 1458, 1459, 1476, 1477, 1478, 1479, 1480, 1481, 1482, 1483, 1484, 1485]
def wsX4_setPass : List Cond := .code yX4_setPass cX4_setPass 5 none :: ixX4_setPass.map wt
theorem ggX4_setHour_X9_monthAt : GoodIn wsX4_setHour wsX9_monthAt := gi_ (A := ixX4_setHour) (B := ixX9_monthAt) wt601 (by decide +kernel)
theorem gX4_setHour_X9_monthAt : GoodIn wsX4_setHour (wsV RX4 15 RX9 yX9_monthAt wsX9_monthAt) := g4_ (A := ixX4_setHour) wt740 wt599 wt600 wt14 (by decide +kernel) ggX4_setHour_X9_monthAt
theorem ggX4_setNode_X6_get : GoodIn wsX4_setNode wsX6_get := gi_ (A := ixX4_setNode) (B := ixX6_get) wt597 (by decide +kernel)
theorem gX4_setNode_X6_get : GoodIn wsX4_setNode (wsV RX4 25 RX6 yX6_get wsX6_get) := g4_ (A := ixX4_setNode) wt727 wt595 wt596 wt51 (by decide +kernel) ggX4_setNode_X6_get
theorem ggX4_setPass_X6_get : GoodIn wsX4_setPass wsX6_get := gi_ (A := ixX4_setPass) (B := ixX6_get) wt597 (by decide +kernel)
theorem gX4_setPass_X6_get : GoodIn wsX4_setPass (wsV RX4 25 RX6 yX6_get wsX6_get) := g4_ (A := ixX4_setPass) wt727 wt595 wt596 wt51 (by decide +kernel) ggX4_setPass_X6_get
theorem ggX4_setPass_X9_otherEnd : GoodIn wsX4_setPass wsX9_otherEnd := gi_ (A := ixX4_setPass) (B := ixX9_otherEnd) wt673 (by decide +kernel)
theorem gX4_setPass_X9_otherEnd : GoodIn wsX4_setPass (wsV RX4 31 RX9 yX9_otherEnd wsX9_otherEnd) := g4_ (A := ixX4_setPass) wt726 wt671 wt672 wt14 (by decide +kernel) ggX4_setPass_X9_otherEnd
theorem kX4_setHour_1 {a : Array Value} {s : State} (hts : ∀ w ∈ wsX4_setHour, w.before a s = true) : (.fieldLink RX4 11 "SnowMules$Scene" "words" "[I" : Cond).before a s = true := kw (A := ixX4_setHour) wt103 hts (by decide +kernel)
theorem kX4_setNode_1 {a : Array Value} {s : State} (hts : ∀ w ∈ wsX4_setNode, w.before a s = true) : (.fieldLink RX4 11 "SnowMules$Scene" "words" "[I" : Cond).before a s = true := kw (A := ixX4_setNode) wt103 hts (by decide +kernel)
theorem kX4_setNode_2 {a : Array Value} {s : State} (hts : ∀ w ∈ wsX4_setNode, w.before a s = true) : (.fieldLink RX4 21 "SnowMules$World" "nodes" "LSnowMules$Table;" : Cond).before a s = true := kw (A := ixX4_setNode) wt721 hts (by decide +kernel)
theorem kX4_setPass_1 {a : Array Value} {s : State} (hts : ∀ w ∈ wsX4_setPass, w.before a s = true) : (.fieldLink RX4 21 "SnowMules$World" "nodes" "LSnowMules$Table;" : Cond).before a s = true := kw (A := ixX4_setPass) wt721 hts (by decide +kernel)
theorem kX4_setPass_2 {a : Array Value} {s : State} (hts : ∀ w ∈ wsX4_setPass, w.before a s = true) : (.fieldLink RX4 34 "SnowMules$Scene" "heightBehind" "I" : Cond).before a s = true := kw (A := ixX4_setPass) wt722 hts (by decide +kernel)
theorem kX4_setPass_3 {a : Array Value} {s : State} (hts : ∀ w ∈ wsX4_setPass, w.before a s = true) : (.fieldLink RX4 38 "SnowMules$Scene" "heightAhead" "I" : Cond).before a s = true := kw (A := ixX4_setPass) wt723 hts (by decide +kernel)
theorem kX4_setPass_4 {a : Array Value} {s : State} (hts : ∀ w ∈ wsX4_setPass, w.before a s = true) : (.fieldLink RX4 41 "SnowMules$World" "passes" "LSnowMules$Table;" : Cond).before a s = true := kw (A := ixX4_setPass) wt724 hts (by decide +kernel)
theorem kX4_setPass_5 {a : Array Value} {s : State} (hts : ∀ w ∈ wsX4_setPass, w.before a s = true) : (.fieldLink RX4 44 "SnowMules$Scene" "hoursOfPass" "I" : Cond).before a s = true := kw (A := ixX4_setPass) wt725 hts (by decide +kernel)
theorem kX4_setPass_6 {a : Array Value} {s : State} (hts : ∀ w ∈ wsX4_setPass, w.before a s = true) : (.fieldLink RX4 11 "SnowMules$Scene" "words" "[I" : Cond).before a s = true := kw (A := ixX4_setPass) wt103 hts (by decide +kernel)
theorem kX4_setGone_1 {a : Array Value} {s : State} (hts : ∀ w ∈ wsX4_setGone, w.before a s = true) : (.fieldLink RX4 34 "SnowMules$Scene" "heightBehind" "I" : Cond).before a s = true := kw (A := ixX4_setGone) wt722 hts (by decide +kernel)
theorem kX4_setGone_2 {a : Array Value} {s : State} (hts : ∀ w ∈ wsX4_setGone, w.before a s = true) : (.fieldLink RX4 44 "SnowMules$Scene" "hoursOfPass" "I" : Cond).before a s = true := kw (A := ixX4_setGone) wt725 hts (by decide +kernel)
theorem kX4_setGone_3 {a : Array Value} {s : State} (hts : ∀ w ∈ wsX4_setGone, w.before a s = true) : (.fieldLink RX4 38 "SnowMules$Scene" "heightAhead" "I" : Cond).before a s = true := kw (A := ixX4_setGone) wt723 hts (by decide +kernel)
theorem kX4_setGone_4 {a : Array Value} {s : State} (hts : ∀ w ∈ wsX4_setGone, w.before a s = true) : (.fieldLink RX4 11 "SnowMules$Scene" "words" "[I" : Cond).before a s = true := kw (A := ixX4_setGone) wt103 hts (by decide +kernel)
theorem kX4_setLoad_1 {a : Array Value} {s : State} (hts : ∀ w ∈ wsX4_setLoad, w.before a s = true) : (.fieldLink RX4 11 "SnowMules$Scene" "words" "[I" : Cond).before a s = true := kw (A := ixX4_setLoad) wt103 hts (by decide +kernel)
theorem iX4_setHour_X4 : ∀ w ∈ wsX40, w ∈ wsX4_setHour := inW (A := ixX4_setHour) uwX4 (by decide +kernel)
theorem iX4_setNode_X4 : ∀ w ∈ wsX40, w ∈ wsX4_setNode := inW (A := ixX4_setNode) uwX4 (by decide +kernel)
theorem iX4_setNode_X9 : ∀ w ∈ wsX90, w ∈ wsX4_setNode := inW (A := ixX4_setNode) uwX9 (by decide +kernel)
theorem iX4_setPass_X9 : ∀ w ∈ wsX90, w ∈ wsX4_setPass := inW (A := ixX4_setPass) uwX9 (by decide +kernel)
theorem iX4_setPass_X4 : ∀ w ∈ wsX40, w ∈ wsX4_setPass := inW (A := ixX4_setPass) uwX4 (by decide +kernel)
theorem iX4_setGone_X4 : ∀ w ∈ wsX40, w ∈ wsX4_setGone := inW (A := ixX4_setGone) uwX4 (by decide +kernel)
theorem iX4_setLoad_X4 : ∀ w ∈ wsX40, w ∈ wsX4_setLoad := inW (A := ixX4_setLoad) uwX4 (by decide +kernel)
theorem hdX9_monthAt : yX9_monthAt.cls ≠ "java/lang/invoke/MethodHandle" ∧ yX9_monthAt.cls ≠ "java/lang/invoke/VarHandle" ∧ (parseMethodDescriptor yX9_monthAt.desc).map (fun d => d.parameters.length) = some 1 := ⟨hdc_2.1, hdc_2.2, hdd_3⟩
def dtX4_setHour_32_0 : List (Nat × Jvm.ClassFile.Instr × Nat) := [(0, .aload_n 0, 1), (1, .getfield 11, 3), (4, .iconst 0, 1), (5, .aload_n 1, 1), (6, .iload_n 2, 1), (7, .invokevirtual 15, 3), (10, .iastore, 1), (11, .aload_n 0, 1), (12, .getfield 11, 3), (15, .iconst 1, 1), (16, .iload_n 2, 1), (17, .bipush 24, 2), (19, .irem, 1), (20, .iastore, 1), (21, .aload_n 0, 1), (22, .getfield 11, 3), (25, .iconst 2, 1), (26, .iload_n 2, 1), (27, .bipush 24, 2), (29, .idiv, 1), (30, .iastore, 1), (31, .return_, 1)]
theorem daX4_setHour_32_0 : dtX4_setHour_32_0.all (dqd cX4_setHour) = true := by decide +kernel
theorem dX4_setHour_0 : decode cX4_setHour 0 = .ok (.aload_n 0, 1) := dq daX4_setHour_32_0 0 rfl
theorem dX4_setHour_1 : decode cX4_setHour 1 = .ok (.getfield 11, 3) := dq daX4_setHour_32_0 1 rfl
theorem dX4_setHour_4 : decode cX4_setHour 4 = .ok (.iconst 0, 1) := dq daX4_setHour_32_0 2 rfl
theorem dX4_setHour_5 : decode cX4_setHour 5 = .ok (.aload_n 1, 1) := dq daX4_setHour_32_0 3 rfl
theorem dX4_setHour_6 : decode cX4_setHour 6 = .ok (.iload_n 2, 1) := dq daX4_setHour_32_0 4 rfl
theorem dX4_setHour_7 : decode cX4_setHour 7 = .ok (.invokevirtual 15, 3) := dq daX4_setHour_32_0 5 rfl
theorem dX4_setHour_10 : decode cX4_setHour 10 = .ok (.iastore, 1) := dq daX4_setHour_32_0 6 rfl
theorem dX4_setHour_11 : decode cX4_setHour 11 = .ok (.aload_n 0, 1) := dq daX4_setHour_32_0 7 rfl
theorem dX4_setHour_12 : decode cX4_setHour 12 = .ok (.getfield 11, 3) := dq daX4_setHour_32_0 8 rfl
theorem dX4_setHour_15 : decode cX4_setHour 15 = .ok (.iconst 1, 1) := dq daX4_setHour_32_0 9 rfl
theorem dX4_setHour_16 : decode cX4_setHour 16 = .ok (.iload_n 2, 1) := dq daX4_setHour_32_0 10 rfl
theorem dX4_setHour_17 : decode cX4_setHour 17 = .ok (.bipush 24, 2) := dq daX4_setHour_32_0 11 rfl
theorem dX4_setHour_19 : decode cX4_setHour 19 = .ok (.irem, 1) := dq daX4_setHour_32_0 12 rfl
theorem dX4_setHour_20 : decode cX4_setHour 20 = .ok (.iastore, 1) := dq daX4_setHour_32_0 13 rfl
theorem dX4_setHour_21 : decode cX4_setHour 21 = .ok (.aload_n 0, 1) := dq daX4_setHour_32_0 14 rfl
theorem dX4_setHour_22 : decode cX4_setHour 22 = .ok (.getfield 11, 3) := dq daX4_setHour_32_0 15 rfl
theorem dX4_setHour_25 : decode cX4_setHour 25 = .ok (.iconst 2, 1) := dq daX4_setHour_32_0 16 rfl
theorem dX4_setHour_26 : decode cX4_setHour 26 = .ok (.iload_n 2, 1) := dq daX4_setHour_32_0 17 rfl
theorem dX4_setHour_27 : decode cX4_setHour 27 = .ok (.bipush 24, 2) := dq daX4_setHour_32_0 18 rfl
theorem dX4_setHour_29 : decode cX4_setHour 29 = .ok (.idiv, 1) := dq daX4_setHour_32_0 19 rfl
theorem dX4_setHour_30 : decode cX4_setHour 30 = .ok (.iastore, 1) := dq daX4_setHour_32_0 20 rfl
theorem dX4_setHour_31 : decode cX4_setHour 31 = .ok (.return_, 1) := dq daX4_setHour_32_0 21 rfl
def dtX4_setNode_32_0 : List (Nat × Jvm.ClassFile.Instr × Nat) := [(0, .aload_n 0, 1), (1, .getfield 11, 3), (4, .iconst 3, 1), (5, .aload_n 1, 1), (6, .getfield 21, 3), (9, .iload_n 2, 1), (10, .iconst 0, 1), (11, .invokevirtual 25, 3), (14, .iastore, 1), (15, .aload_n 0, 1), (16, .getfield 11, 3), (19, .iconst 4, 1), (20, .iconst 0, 1), (21, .iastore, 1), (22, .aload_n 0, 1), (23, .getfield 11, 3), (26, .iconst 5, 1), (27, .aload_n 1, 1), (28, .getfield 21, 3), (31, .iload_n 2, 1), (32, .iconst 2, 1), (33, .invokevirtual 25, 3), (36, .iastore, 1), (37, .aload_n 0, 1), (38, .getfield 11, 3), (41, .bipush 6, 2), (43, .iload_n 2, 1), (44, .iastore, 1), (45, .aload_n 0, 1), (46, .getfield 11, 3), (49, .bipush 10, 2), (51, .iconst 0, 1)]
theorem daX4_setNode_32_0 : dtX4_setNode_32_0.all (dqd cX4_setNode) = true := by decide +kernel
theorem dX4_setNode_0 : decode cX4_setNode 0 = .ok (.aload_n 0, 1) := dq daX4_setNode_32_0 0 rfl
theorem dX4_setNode_1 : decode cX4_setNode 1 = .ok (.getfield 11, 3) := dq daX4_setNode_32_0 1 rfl
theorem dX4_setNode_4 : decode cX4_setNode 4 = .ok (.iconst 3, 1) := dq daX4_setNode_32_0 2 rfl
theorem dX4_setNode_5 : decode cX4_setNode 5 = .ok (.aload_n 1, 1) := dq daX4_setNode_32_0 3 rfl
theorem dX4_setNode_6 : decode cX4_setNode 6 = .ok (.getfield 21, 3) := dq daX4_setNode_32_0 4 rfl
theorem dX4_setNode_9 : decode cX4_setNode 9 = .ok (.iload_n 2, 1) := dq daX4_setNode_32_0 5 rfl
theorem dX4_setNode_10 : decode cX4_setNode 10 = .ok (.iconst 0, 1) := dq daX4_setNode_32_0 6 rfl
theorem dX4_setNode_11 : decode cX4_setNode 11 = .ok (.invokevirtual 25, 3) := dq daX4_setNode_32_0 7 rfl
theorem dX4_setNode_14 : decode cX4_setNode 14 = .ok (.iastore, 1) := dq daX4_setNode_32_0 8 rfl
theorem dX4_setNode_15 : decode cX4_setNode 15 = .ok (.aload_n 0, 1) := dq daX4_setNode_32_0 9 rfl
theorem dX4_setNode_16 : decode cX4_setNode 16 = .ok (.getfield 11, 3) := dq daX4_setNode_32_0 10 rfl
theorem dX4_setNode_19 : decode cX4_setNode 19 = .ok (.iconst 4, 1) := dq daX4_setNode_32_0 11 rfl
theorem dX4_setNode_20 : decode cX4_setNode 20 = .ok (.iconst 0, 1) := dq daX4_setNode_32_0 12 rfl
theorem dX4_setNode_21 : decode cX4_setNode 21 = .ok (.iastore, 1) := dq daX4_setNode_32_0 13 rfl
theorem dX4_setNode_22 : decode cX4_setNode 22 = .ok (.aload_n 0, 1) := dq daX4_setNode_32_0 14 rfl
theorem dX4_setNode_23 : decode cX4_setNode 23 = .ok (.getfield 11, 3) := dq daX4_setNode_32_0 15 rfl
theorem dX4_setNode_26 : decode cX4_setNode 26 = .ok (.iconst 5, 1) := dq daX4_setNode_32_0 16 rfl
theorem dX4_setNode_27 : decode cX4_setNode 27 = .ok (.aload_n 1, 1) := dq daX4_setNode_32_0 17 rfl
theorem dX4_setNode_28 : decode cX4_setNode 28 = .ok (.getfield 21, 3) := dq daX4_setNode_32_0 18 rfl
theorem dX4_setNode_31 : decode cX4_setNode 31 = .ok (.iload_n 2, 1) := dq daX4_setNode_32_0 19 rfl
theorem dX4_setNode_32 : decode cX4_setNode 32 = .ok (.iconst 2, 1) := dq daX4_setNode_32_0 20 rfl
theorem dX4_setNode_33 : decode cX4_setNode 33 = .ok (.invokevirtual 25, 3) := dq daX4_setNode_32_0 21 rfl
theorem dX4_setNode_36 : decode cX4_setNode 36 = .ok (.iastore, 1) := dq daX4_setNode_32_0 22 rfl
theorem dX4_setNode_37 : decode cX4_setNode 37 = .ok (.aload_n 0, 1) := dq daX4_setNode_32_0 23 rfl
theorem dX4_setNode_38 : decode cX4_setNode 38 = .ok (.getfield 11, 3) := dq daX4_setNode_32_0 24 rfl
theorem dX4_setNode_41 : decode cX4_setNode 41 = .ok (.bipush 6, 2) := dq daX4_setNode_32_0 25 rfl
theorem dX4_setNode_43 : decode cX4_setNode 43 = .ok (.iload_n 2, 1) := dq daX4_setNode_32_0 26 rfl
theorem dX4_setNode_44 : decode cX4_setNode 44 = .ok (.iastore, 1) := dq daX4_setNode_32_0 27 rfl
theorem dX4_setNode_45 : decode cX4_setNode 45 = .ok (.aload_n 0, 1) := dq daX4_setNode_32_0 28 rfl
theorem dX4_setNode_46 : decode cX4_setNode 46 = .ok (.getfield 11, 3) := dq daX4_setNode_32_0 29 rfl
theorem dX4_setNode_49 : decode cX4_setNode 49 = .ok (.bipush 10, 2) := dq daX4_setNode_32_0 30 rfl
theorem dX4_setNode_51 : decode cX4_setNode 51 = .ok (.iconst 0, 1) := dq daX4_setNode_32_0 31 rfl
def dtX4_setNode_32_1 : List (Nat × Jvm.ClassFile.Instr × Nat) := [(52, .iastore, 1), (53, .return_, 1)]
theorem daX4_setNode_32_1 : dtX4_setNode_32_1.all (dqd cX4_setNode) = true := by decide +kernel
theorem dX4_setNode_52 : decode cX4_setNode 52 = .ok (.iastore, 1) := dq daX4_setNode_32_1 0 rfl
theorem dX4_setNode_53 : decode cX4_setNode 53 = .ok (.return_, 1) := dq daX4_setNode_32_1 1 rfl
def dtX4_setPass_32_0 : List (Nat × Jvm.ClassFile.Instr × Nat) := [(0, .aload_n 1, 1), (1, .iload_n 2, 1), (2, .iload_n 3, 1), (3, .invokevirtual 31, 3), (6, .istore 4, 2), (8, .aload_n 0, 1), (9, .aload_n 1, 1), (10, .getfield 21, 3), (13, .iload 4, 2), (15, .iconst 0, 1), (16, .invokevirtual 25, 3), (19, .putfield 34, 3), (22, .aload_n 0, 1), (23, .aload_n 1, 1), (24, .getfield 21, 3), (27, .iload_n 3, 1), (28, .iconst 0, 1), (29, .invokevirtual 25, 3), (32, .putfield 38, 3), (35, .aload_n 0, 1), (36, .aload_n 1, 1), (37, .getfield 41, 3), (40, .iload_n 2, 1), (41, .iconst 2, 1), (42, .invokevirtual 25, 3), (45, .putfield 44, 3), (48, .aload_n 0, 1), (49, .getfield 11, 3), (52, .iconst 4, 1), (53, .aload_n 1, 1), (54, .getfield 41, 3), (57, .iload_n 2, 1)]
theorem daX4_setPass_32_0 : dtX4_setPass_32_0.all (dqd cX4_setPass) = true := by decide +kernel
theorem dX4_setPass_0 : decode cX4_setPass 0 = .ok (.aload_n 1, 1) := dq daX4_setPass_32_0 0 rfl
theorem dX4_setPass_1 : decode cX4_setPass 1 = .ok (.iload_n 2, 1) := dq daX4_setPass_32_0 1 rfl
theorem dX4_setPass_2 : decode cX4_setPass 2 = .ok (.iload_n 3, 1) := dq daX4_setPass_32_0 2 rfl
theorem dX4_setPass_3 : decode cX4_setPass 3 = .ok (.invokevirtual 31, 3) := dq daX4_setPass_32_0 3 rfl
theorem dX4_setPass_6 : decode cX4_setPass 6 = .ok (.istore 4, 2) := dq daX4_setPass_32_0 4 rfl
theorem dX4_setPass_8 : decode cX4_setPass 8 = .ok (.aload_n 0, 1) := dq daX4_setPass_32_0 5 rfl
theorem dX4_setPass_9 : decode cX4_setPass 9 = .ok (.aload_n 1, 1) := dq daX4_setPass_32_0 6 rfl
theorem dX4_setPass_10 : decode cX4_setPass 10 = .ok (.getfield 21, 3) := dq daX4_setPass_32_0 7 rfl
theorem dX4_setPass_13 : decode cX4_setPass 13 = .ok (.iload 4, 2) := dq daX4_setPass_32_0 8 rfl
theorem dX4_setPass_15 : decode cX4_setPass 15 = .ok (.iconst 0, 1) := dq daX4_setPass_32_0 9 rfl
theorem dX4_setPass_16 : decode cX4_setPass 16 = .ok (.invokevirtual 25, 3) := dq daX4_setPass_32_0 10 rfl
theorem dX4_setPass_19 : decode cX4_setPass 19 = .ok (.putfield 34, 3) := dq daX4_setPass_32_0 11 rfl
theorem dX4_setPass_22 : decode cX4_setPass 22 = .ok (.aload_n 0, 1) := dq daX4_setPass_32_0 12 rfl
theorem dX4_setPass_23 : decode cX4_setPass 23 = .ok (.aload_n 1, 1) := dq daX4_setPass_32_0 13 rfl
theorem dX4_setPass_24 : decode cX4_setPass 24 = .ok (.getfield 21, 3) := dq daX4_setPass_32_0 14 rfl
theorem dX4_setPass_27 : decode cX4_setPass 27 = .ok (.iload_n 3, 1) := dq daX4_setPass_32_0 15 rfl
theorem dX4_setPass_28 : decode cX4_setPass 28 = .ok (.iconst 0, 1) := dq daX4_setPass_32_0 16 rfl
theorem dX4_setPass_29 : decode cX4_setPass 29 = .ok (.invokevirtual 25, 3) := dq daX4_setPass_32_0 17 rfl
theorem dX4_setPass_32 : decode cX4_setPass 32 = .ok (.putfield 38, 3) := dq daX4_setPass_32_0 18 rfl
theorem dX4_setPass_35 : decode cX4_setPass 35 = .ok (.aload_n 0, 1) := dq daX4_setPass_32_0 19 rfl
theorem dX4_setPass_36 : decode cX4_setPass 36 = .ok (.aload_n 1, 1) := dq daX4_setPass_32_0 20 rfl
theorem dX4_setPass_37 : decode cX4_setPass 37 = .ok (.getfield 41, 3) := dq daX4_setPass_32_0 21 rfl
theorem dX4_setPass_40 : decode cX4_setPass 40 = .ok (.iload_n 2, 1) := dq daX4_setPass_32_0 22 rfl
theorem dX4_setPass_41 : decode cX4_setPass 41 = .ok (.iconst 2, 1) := dq daX4_setPass_32_0 23 rfl
theorem dX4_setPass_42 : decode cX4_setPass 42 = .ok (.invokevirtual 25, 3) := dq daX4_setPass_32_0 24 rfl
theorem dX4_setPass_45 : decode cX4_setPass 45 = .ok (.putfield 44, 3) := dq daX4_setPass_32_0 25 rfl
theorem dX4_setPass_48 : decode cX4_setPass 48 = .ok (.aload_n 0, 1) := dq daX4_setPass_32_0 26 rfl
theorem dX4_setPass_49 : decode cX4_setPass 49 = .ok (.getfield 11, 3) := dq daX4_setPass_32_0 27 rfl
theorem dX4_setPass_52 : decode cX4_setPass 52 = .ok (.iconst 4, 1) := dq daX4_setPass_32_0 28 rfl
theorem dX4_setPass_53 : decode cX4_setPass 53 = .ok (.aload_n 1, 1) := dq daX4_setPass_32_0 29 rfl
theorem dX4_setPass_54 : decode cX4_setPass 54 = .ok (.getfield 41, 3) := dq daX4_setPass_32_0 30 rfl
theorem dX4_setPass_57 : decode cX4_setPass 57 = .ok (.iload_n 2, 1) := dq daX4_setPass_32_0 31 rfl
def dtX4_setPass_32_1 : List (Nat × Jvm.ClassFile.Instr × Nat) := [(58, .iconst 3, 1), (59, .invokevirtual 25, 3), (62, .iastore, 1), (63, .aload_n 0, 1), (64, .getfield 11, 3), (67, .iconst 5, 1), (68, .iconst 0, 1), (69, .iastore, 1), (70, .aload_n 0, 1), (71, .getfield 11, 3), (74, .bipush 6, 2), (76, .bipush 12, 2), (78, .iastore, 1), (79, .return_, 1)]
theorem daX4_setPass_32_1 : dtX4_setPass_32_1.all (dqd cX4_setPass) = true := by decide +kernel
theorem dX4_setPass_58 : decode cX4_setPass 58 = .ok (.iconst 3, 1) := dq daX4_setPass_32_1 0 rfl
theorem dX4_setPass_59 : decode cX4_setPass 59 = .ok (.invokevirtual 25, 3) := dq daX4_setPass_32_1 1 rfl
theorem dX4_setPass_62 : decode cX4_setPass 62 = .ok (.iastore, 1) := dq daX4_setPass_32_1 2 rfl
theorem dX4_setPass_63 : decode cX4_setPass 63 = .ok (.aload_n 0, 1) := dq daX4_setPass_32_1 3 rfl
theorem dX4_setPass_64 : decode cX4_setPass 64 = .ok (.getfield 11, 3) := dq daX4_setPass_32_1 4 rfl
theorem dX4_setPass_67 : decode cX4_setPass 67 = .ok (.iconst 5, 1) := dq daX4_setPass_32_1 5 rfl
theorem dX4_setPass_68 : decode cX4_setPass 68 = .ok (.iconst 0, 1) := dq daX4_setPass_32_1 6 rfl
theorem dX4_setPass_69 : decode cX4_setPass 69 = .ok (.iastore, 1) := dq daX4_setPass_32_1 7 rfl
theorem dX4_setPass_70 : decode cX4_setPass 70 = .ok (.aload_n 0, 1) := dq daX4_setPass_32_1 8 rfl
theorem dX4_setPass_71 : decode cX4_setPass 71 = .ok (.getfield 11, 3) := dq daX4_setPass_32_1 9 rfl
theorem dX4_setPass_74 : decode cX4_setPass 74 = .ok (.bipush 6, 2) := dq daX4_setPass_32_1 10 rfl
theorem dX4_setPass_76 : decode cX4_setPass 76 = .ok (.bipush 12, 2) := dq daX4_setPass_32_1 11 rfl
theorem dX4_setPass_78 : decode cX4_setPass 78 = .ok (.iastore, 1) := dq daX4_setPass_32_1 12 rfl
theorem dX4_setPass_79 : decode cX4_setPass 79 = .ok (.return_, 1) := dq daX4_setPass_32_1 13 rfl
def dtX4_setGone_32_0 : List (Nat × Jvm.ClassFile.Instr × Nat) := [(0, .aload_n 0, 1), (1, .getfield 34, 3), (4, .aload_n 0, 1), (5, .getfield 44, 3), (8, .iload_n 1, 1), (9, .isub, 1), (10, .imul, 1), (11, .aload_n 0, 1), (12, .getfield 38, 3), (15, .iload_n 1, 1), (16, .imul, 1), (17, .iadd, 1), (18, .istore_n 2, 1), (19, .aload_n 0, 1), (20, .getfield 11, 3), (23, .iconst 3, 1), (24, .aload_n 0, 1), (25, .getfield 44, 3), (28, .ifCond .le 12, 3), (40, .iconst 0, 1), (41, .iastore, 1), (42, .aload_n 0, 1), (43, .getfield 11, 3), (46, .bipush 10, 2), (48, .iload_n 1, 1), (49, .iastore, 1), (31, .iload_n 2, 1), (32, .aload_n 0, 1), (33, .getfield 44, 3), (36, .idiv, 1), (37, .goto 4, 3), (50, .return_, 1)]
theorem daX4_setGone_32_0 : dtX4_setGone_32_0.all (dqd cX4_setGone) = true := by decide +kernel
theorem dX4_setGone_0 : decode cX4_setGone 0 = .ok (.aload_n 0, 1) := dq daX4_setGone_32_0 0 rfl
theorem dX4_setGone_1 : decode cX4_setGone 1 = .ok (.getfield 34, 3) := dq daX4_setGone_32_0 1 rfl
theorem dX4_setGone_4 : decode cX4_setGone 4 = .ok (.aload_n 0, 1) := dq daX4_setGone_32_0 2 rfl
theorem dX4_setGone_5 : decode cX4_setGone 5 = .ok (.getfield 44, 3) := dq daX4_setGone_32_0 3 rfl
theorem dX4_setGone_8 : decode cX4_setGone 8 = .ok (.iload_n 1, 1) := dq daX4_setGone_32_0 4 rfl
theorem dX4_setGone_9 : decode cX4_setGone 9 = .ok (.isub, 1) := dq daX4_setGone_32_0 5 rfl
theorem dX4_setGone_10 : decode cX4_setGone 10 = .ok (.imul, 1) := dq daX4_setGone_32_0 6 rfl
theorem dX4_setGone_11 : decode cX4_setGone 11 = .ok (.aload_n 0, 1) := dq daX4_setGone_32_0 7 rfl
theorem dX4_setGone_12 : decode cX4_setGone 12 = .ok (.getfield 38, 3) := dq daX4_setGone_32_0 8 rfl
theorem dX4_setGone_15 : decode cX4_setGone 15 = .ok (.iload_n 1, 1) := dq daX4_setGone_32_0 9 rfl
theorem dX4_setGone_16 : decode cX4_setGone 16 = .ok (.imul, 1) := dq daX4_setGone_32_0 10 rfl
theorem dX4_setGone_17 : decode cX4_setGone 17 = .ok (.iadd, 1) := dq daX4_setGone_32_0 11 rfl
theorem dX4_setGone_18 : decode cX4_setGone 18 = .ok (.istore_n 2, 1) := dq daX4_setGone_32_0 12 rfl
theorem dX4_setGone_19 : decode cX4_setGone 19 = .ok (.aload_n 0, 1) := dq daX4_setGone_32_0 13 rfl
theorem dX4_setGone_20 : decode cX4_setGone 20 = .ok (.getfield 11, 3) := dq daX4_setGone_32_0 14 rfl
theorem dX4_setGone_23 : decode cX4_setGone 23 = .ok (.iconst 3, 1) := dq daX4_setGone_32_0 15 rfl
theorem dX4_setGone_24 : decode cX4_setGone 24 = .ok (.aload_n 0, 1) := dq daX4_setGone_32_0 16 rfl
theorem dX4_setGone_25 : decode cX4_setGone 25 = .ok (.getfield 44, 3) := dq daX4_setGone_32_0 17 rfl
theorem dX4_setGone_28 : decode cX4_setGone 28 = .ok (.ifCond .le 12, 3) := dq daX4_setGone_32_0 18 rfl
theorem dX4_setGone_40 : decode cX4_setGone 40 = .ok (.iconst 0, 1) := dq daX4_setGone_32_0 19 rfl
theorem dX4_setGone_41 : decode cX4_setGone 41 = .ok (.iastore, 1) := dq daX4_setGone_32_0 20 rfl
theorem dX4_setGone_42 : decode cX4_setGone 42 = .ok (.aload_n 0, 1) := dq daX4_setGone_32_0 21 rfl
theorem dX4_setGone_43 : decode cX4_setGone 43 = .ok (.getfield 11, 3) := dq daX4_setGone_32_0 22 rfl
theorem dX4_setGone_46 : decode cX4_setGone 46 = .ok (.bipush 10, 2) := dq daX4_setGone_32_0 23 rfl
theorem dX4_setGone_48 : decode cX4_setGone 48 = .ok (.iload_n 1, 1) := dq daX4_setGone_32_0 24 rfl
theorem dX4_setGone_49 : decode cX4_setGone 49 = .ok (.iastore, 1) := dq daX4_setGone_32_0 25 rfl
theorem dX4_setGone_31 : decode cX4_setGone 31 = .ok (.iload_n 2, 1) := dq daX4_setGone_32_0 26 rfl
theorem dX4_setGone_32 : decode cX4_setGone 32 = .ok (.aload_n 0, 1) := dq daX4_setGone_32_0 27 rfl
theorem dX4_setGone_33 : decode cX4_setGone 33 = .ok (.getfield 44, 3) := dq daX4_setGone_32_0 28 rfl
theorem dX4_setGone_36 : decode cX4_setGone 36 = .ok (.idiv, 1) := dq daX4_setGone_32_0 29 rfl
theorem dX4_setGone_37 : decode cX4_setGone 37 = .ok (.goto 4, 3) := dq daX4_setGone_32_0 30 rfl
theorem dX4_setGone_50 : decode cX4_setGone 50 = .ok (.return_, 1) := dq daX4_setGone_32_0 31 rfl
def dtX4_setLoad_32_0 : List (Nat × Jvm.ClassFile.Instr × Nat) := [(0, .aload_n 0, 1), (1, .getfield 11, 3), (4, .bipush 7, 2), (6, .iload_n 1, 1), (7, .iastore, 1), (8, .aload_n 0, 1), (9, .getfield 11, 3), (12, .bipush 8, 2), (14, .iload_n 2, 1), (15, .iastore, 1), (16, .aload_n 0, 1), (17, .getfield 11, 3), (20, .bipush 9, 2), (22, .iload_n 3, 1), (23, .iastore, 1), (24, .return_, 1)]
theorem daX4_setLoad_32_0 : dtX4_setLoad_32_0.all (dqd cX4_setLoad) = true := by decide +kernel
theorem dX4_setLoad_0 : decode cX4_setLoad 0 = .ok (.aload_n 0, 1) := dq daX4_setLoad_32_0 0 rfl
theorem dX4_setLoad_1 : decode cX4_setLoad 1 = .ok (.getfield 11, 3) := dq daX4_setLoad_32_0 1 rfl
theorem dX4_setLoad_4 : decode cX4_setLoad 4 = .ok (.bipush 7, 2) := dq daX4_setLoad_32_0 2 rfl
theorem dX4_setLoad_6 : decode cX4_setLoad 6 = .ok (.iload_n 1, 1) := dq daX4_setLoad_32_0 3 rfl
theorem dX4_setLoad_7 : decode cX4_setLoad 7 = .ok (.iastore, 1) := dq daX4_setLoad_32_0 4 rfl
theorem dX4_setLoad_8 : decode cX4_setLoad 8 = .ok (.aload_n 0, 1) := dq daX4_setLoad_32_0 5 rfl
theorem dX4_setLoad_9 : decode cX4_setLoad 9 = .ok (.getfield 11, 3) := dq daX4_setLoad_32_0 6 rfl
theorem dX4_setLoad_12 : decode cX4_setLoad 12 = .ok (.bipush 8, 2) := dq daX4_setLoad_32_0 7 rfl
theorem dX4_setLoad_14 : decode cX4_setLoad 14 = .ok (.iload_n 2, 1) := dq daX4_setLoad_32_0 8 rfl
theorem dX4_setLoad_15 : decode cX4_setLoad 15 = .ok (.iastore, 1) := dq daX4_setLoad_32_0 9 rfl
theorem dX4_setLoad_16 : decode cX4_setLoad 16 = .ok (.aload_n 0, 1) := dq daX4_setLoad_32_0 10 rfl
theorem dX4_setLoad_17 : decode cX4_setLoad 17 = .ok (.getfield 11, 3) := dq daX4_setLoad_32_0 11 rfl
theorem dX4_setLoad_20 : decode cX4_setLoad 20 = .ok (.bipush 9, 2) := dq daX4_setLoad_32_0 12 rfl
theorem dX4_setLoad_22 : decode cX4_setLoad 22 = .ok (.iload_n 3, 1) := dq daX4_setLoad_32_0 13 rfl
theorem dX4_setLoad_23 : decode cX4_setLoad 23 = .ok (.iastore, 1) := dq daX4_setLoad_32_0 14 rfl
theorem dX4_setLoad_24 : decode cX4_setLoad 24 = .ok (.return_, 1) := dq daX4_setLoad_32_0 15 rfl
set_option maxRecDepth 100000 in
def fX4_setHour (cF : Nat → Int32) (tfm : Int32) (p0 : Int32) : (Nat → Int32) := bnd (fX9_monthAt tfm p0) (fun (r3 : Int32) => bnd ((upd cF (0 : Int32).toNatClampNeg r3)) (fun (f8 : Nat → Int32) => bnd ((p0 - p0 / 24 * 24)) (fun (x9 : Int32) => bnd ((upd f8 (1 : Int32).toNatClampNeg x9)) (fun (f10 : Nat → Int32) => bnd ((p0 / 24)) (fun (x11 : Int32) => bnd ((upd f10 (2 : Int32).toNatClampNeg x11)) (fun (f12 : Nat → Int32) => f12))))))
set_option maxHeartbeats 4000000 in
set_option maxRecDepth 100000 in
theorem mX4_setHour (l : Launch) (dC : Nat → ClassId) (dI : Nat → Nat → Nat) (kA : Nat → ClassId) (sz : Nat) (s0 : Nat) (cW : Nat) (cF : Nat → Int32) (cb : Int32) (ch : Int32) (co : Int32) (w0 : Nat) (tnodes : Nat) (tpasses : Nat) (tjars : Nat) (torders : Nat) (tfeasts : Nat) (tway : Nat) (tws : Int32) (tnow : Int32) (tfm : Int32) (tx : Int32) (p0 : Int32)  : Met l yX4_setHour wsX4_setHour ({ frames := 1, cells := 0, slots := 0, locals := 21 }) (zPc dC dI kA sz [.ref s0, .ref w0, .int p0] [(s0, .inr (4, [.ref cW, .int cb, .int ch, .int co])), (cW, .inl (kA 0, 11, .inl cF)), (w0, .inr (9, [.ref tnodes, .ref tpasses, .ref tjars, .ref torders, .ref tfeasts, .ref tway, .int tws, .int tnow, .int tfm, .int tx]))]) (va_Qv (fun (u : (Nat → Int32)) => u = fX4_setHour cF tfm p0) (zB dC dI (va_A [(s0, .inr (4, [.ref cW, .int cb, .int ch, .int co])), (cW, .inl (kA 0, 11, .inl cF)), (w0, .inr (9, [.ref tnodes, .ref tpasses, .ref tjars, .ref torders, .ref tfeasts, .ref tway, .int tws, .int tnow, .int tfm, .int tx]))] sz) (fun (u : (Nat → Int32)) => [(s0, .inr (4, [.ref cW, .int cb, .int ch, .int co])), (cW, .inl (kA 0, 11, .inl u)), (w0, .inr (9, [.ref tnodes, .ref tpasses, .ref tjars, .ref torders, .ref tfeasts, .ref tway, .int tws, .int tnow, .int tfm, .int tx]))])) (va_A [(s0, .inr (4, [.ref cW, .int cb, .int ch, .int co])), (cW, .inl (kA 0, 11, .inl cF)), (w0, .inr (9, [.ref tnodes, .ref tpasses, .ref tjars, .ref torders, .ref tfeasts, .ref tway, .int tws, .int tnow, .int tfm, .int tx]))] sz)) 0 0 (va_A [(s0, .inr (4, [.ref cW, .int cb, .int ch, .int co])), (cW, .inl (kA 0, 11, .inl cF)), (w0, .inr (9, [.ref tnodes, .ref tpasses, .ref tjars, .ref torders, .ref tfeasts, .ref tway, .int tws, .int tnow, .int tfm, .int tx]))] sz) := by
  refine Met.ofW (cc := cX4_setHour) (maxL := 3) (ret := none) pnX4 rfl ?_
  intro p e s m args below meth c s₁ B hml hv
  obtain ⟨rfl, hsz, hP, hK, hD0⟩ := hv
  have hx := B.exec
  have hb := B.bytes
  have hr := B.returns
  have hts := atoms_spec (ws := wsX4_setHour) B.pre
  have hown : s.vm.findClass RX4 = some m.cls := findClass_of_methodNamed B.named
  have hlocks := B.notSynchronized
  subst hsz
  have hD := hD0.self (sz := s.heap.size)
  generalize hAe : va_A [(s0, .inr (4, [.ref cW, .int cb, .int ch, .int co])), (cW, .inl (kA 0, 11, .inl cF)), (w0, .inr (9, [.ref tnodes, .ref tpasses, .ref tjars, .ref torders, .ref tfeasts, .ref tway, .int tws, .int tnow, .int tfm, .int tx]))] s.heap.size = A at hD ⊢
  have hA : ∀ q : Nat, s.heap.size ≤ q → A q := zA_of hAe
  have hS : va_S A s.heap s.heap [] := va_S.rf
  have hP : va_P (dC, dI) vwCl [(s0, .inr (4, [.ref cW, .int cb, .int ch, .int co])), (cW, .inl (kA 0, 11, .inl cF)), (w0, .inr (9, [.ref tnodes, .ref tpasses, .ref tjars, .ref torders, .ref tfeasts, .ref tway, .int tws, .int tnow, .int tfm, .int tx]))] s.heap := hP
  have hl := lv_entry ([.ref s0, .ref w0, .int p0]) (n := 3) (Nat.le_of_ble_eq_true rfl)
  rw [lg_entry_eq]
  generalize (lg_sl ([.ref s0, .ref w0, .int p0]) ++ List.replicate (3 - (lg_sl ([.ref s0, .ref w0, .int p0])).length) Slot.unset).toArray = ls at hl ⊢
  have hl : lv_has ls 3 [(0, .ref s0), (1, .ref w0), (2, .int p0)] := hl
  obtain ⟨G, hG0⟩ : ∃ G : (Nat → Int32), fX4_setHour cF tfm p0 = G := ⟨_, rfl⟩
  have hG := hG0
  unfold fX4_setHour at hG
  refine lv_aload_n hx hb dX4_setHour_0 rfl (lv_at hl 0 rfl) ?_
  refine va_get (D := (dC, dI)) (ci := 4) (v := .ref cW) (C := RX4) (T := TX4) (N := 4) hx hb hts iX4_setHour_X4 hown hK.1 hP 0 gz0 vcz4 0 (by decide) (kX4_setHour_1 hts) (fun _ h9 => h9) gz0 dX4_setHour_1 ?_
  refine lv_iconst (v := 0) hx hb dX4_setHour_4 (by decide) ?_
  refine lv_aload_n hx hb dX4_setHour_5 rfl (lv_at hl 1 rfl) ?_
  refine lv_iload_n hx hb dX4_setHour_6 rfl (lv_at hl 2 rfl) ?_
  refine z_i (wr := [(s0, .inr (4, [.ref cW, .int cb, .int ch, .int co])), (cW, .inl (kA 0, 11, .inl cF))]) (va_runV (As := [.int p0]) (rest := [.int 0, .ref cW]) ⟨hx, hb, hml, hown, hts⟩ (mX9_monthAt l dC dI kA _ w0 tnodes tpasses tjars torders tfeasts tway tws tnow tfm tx p0) (cwV 1 hts gX4_setHour_X9_monthAt rfl rfl rfl ⟨rfl, hdX9_monthAt⟩ ⟨(Nat.le_of_ble_eq_true rfl), (Nat.le_of_ble_eq_true rfl)⟩) ⟨zPc.blind, va_recv (q := (RX9, TX9, 10)) hK.1 hP (ci := 9) (q0 := 2) rfl rfl, zPre hK (hP.sub [2] rfl) (hD.sub [2] (by decide) rfl)⟩ rfl rfl hl.1 rfl (lv_room (Nat.le_of_ble_eq_true rfl)) dX4_setHour_7 ⟨(Nat.le_of_ble_eq_true rfl), (Nat.le_of_ble_eq_true rfl)⟩) hP hD hS hA [2] [0, 1] rfl rfl (by decide) (by decide) (fun r3 u1 H locs hw2 hP hD hS => ?_)
  obtain ⟨er6, hp5⟩ := hw2
  have er6 : r3 = u1 := er6
  subst er6
  have er3 : r3 = fX9_monthAt tfm p0 := hp5
  have hG := zbnd hG er3
  obtain ⟨hP, hD⟩ := z_re (L := [(s0, .inr (4, [.ref cW, .int cb, .int ch, .int co])), (cW, .inl (kA 0, 11, .inl cF)), (w0, .inr (9, [.ref tnodes, .ref tpasses, .ref tjars, .ref torders, .ref tfeasts, .ref tway, .int tws, .int tnow, .int tfm, .int tx]))]) hP hD
  refine va_iast hx hb hK.1 hP hD hS 1 0 gz1 tzz0 (vpd (by decide)) dX4_setHour_10 (fun H locs hP hD hS => ?_)
  obtain ⟨hP, hD⟩ := z_re (L := [(s0, .inr (4, [.ref cW, .int cb, .int ch, .int co])), (cW, .inl (kA 0, 11, .inl (upd cF (0 : Int32).toNatClampNeg r3))), (w0, .inr (9, [.ref tnodes, .ref tpasses, .ref tjars, .ref torders, .ref tfeasts, .ref tway, .int tws, .int tnow, .int tfm, .int tx]))]) hP hD
  obtain ⟨f8, ef8⟩ : ∃ y : Nat → Int32, y = (upd cF (0 : Int32).toNatClampNeg r3) := ⟨_, rfl⟩
  rw [← ef8] at hP hD
  have hG := zbnd hG ef8
  refine lv_aload_n hx hb dX4_setHour_11 rfl (lv_at hl 0 rfl) ?_
  refine va_get (D := (dC, dI)) (ci := 4) (v := .ref cW) (C := RX4) (T := TX4) (N := 4) hx hb hts iX4_setHour_X4 hown hK.1 hP 0 gz0 vcz4 0 (by decide) (kX4_setHour_1 hts) (fun _ h9 => h9) gz0 dX4_setHour_12 ?_
  refine lv_iconst (v := 1) hx hb dX4_setHour_15 (by decide) ?_
  refine lv_iload_n hx hb dX4_setHour_16 rfl (lv_at hl 2 rfl) ?_
  refine lv_bipush (v := 24) hx hb dX4_setHour_17 (by decide) ?_
  refine lv_irem hx hb dX4_setHour_19 (by decide) ?_
  refine lv_topi (fun x9 ex9 => ?_)
  have hG := zbnd hG ex9
  refine va_iast hx hb hK.1 hP hD hS 1 0 gz1 tzz0 (vpd (by decide)) dX4_setHour_20 (fun H locs hP hD hS => ?_)
  obtain ⟨hP, hD⟩ := z_re (L := [(s0, .inr (4, [.ref cW, .int cb, .int ch, .int co])), (cW, .inl (kA 0, 11, .inl (upd f8 (1 : Int32).toNatClampNeg x9))), (w0, .inr (9, [.ref tnodes, .ref tpasses, .ref tjars, .ref torders, .ref tfeasts, .ref tway, .int tws, .int tnow, .int tfm, .int tx]))]) hP hD
  obtain ⟨f10, ef10⟩ : ∃ y : Nat → Int32, y = (upd f8 (1 : Int32).toNatClampNeg x9) := ⟨_, rfl⟩
  rw [← ef10] at hP hD
  have hG := zbnd hG ef10
  refine lv_aload_n hx hb dX4_setHour_21 rfl (lv_at hl 0 rfl) ?_
  refine va_get (D := (dC, dI)) (ci := 4) (v := .ref cW) (C := RX4) (T := TX4) (N := 4) hx hb hts iX4_setHour_X4 hown hK.1 hP 0 gz0 vcz4 0 (by decide) (kX4_setHour_1 hts) (fun _ h9 => h9) gz0 dX4_setHour_22 ?_
  refine lv_iconst (v := 2) hx hb dX4_setHour_25 (by decide) ?_
  refine lv_iload_n hx hb dX4_setHour_26 rfl (lv_at hl 2 rfl) ?_
  refine lv_bipush (v := 24) hx hb dX4_setHour_27 (by decide) ?_
  refine lv_idiv hx hb dX4_setHour_29 (by decide) ?_
  refine lv_topi (fun x11 ex11 => ?_)
  have hG := zbnd hG ex11
  refine va_iast hx hb hK.1 hP hD hS 1 0 gz1 tzz0 (vpd (by decide)) dX4_setHour_30 (fun H locs hP hD hS => ?_)
  obtain ⟨hP, hD⟩ := z_re (L := [(s0, .inr (4, [.ref cW, .int cb, .int ch, .int co])), (cW, .inl (kA 0, 11, .inl (upd f10 (2 : Int32).toNatClampNeg x11))), (w0, .inr (9, [.ref tnodes, .ref tpasses, .ref tjars, .ref torders, .ref tfeasts, .ref tway, .int tws, .int tnow, .int tfm, .int tx]))]) hP hD
  obtain ⟨f12, ef12⟩ : ∃ y : Nat → Int32, y = (upd f10 (2 : Int32).toNatClampNeg x11) := ⟨_, rfl⟩
  rw [← ef12] at hP hD
  have hG := zbnd hG ef12
  obtain ⟨hP9, hD9⟩ := z_sb (L' := [(s0, .inr (4, [.ref cW, .int cb, .int ch, .int co])), (cW, .inl (kA 0, 11, .inl f12)), (w0, .inr (9, [.ref tnodes, .ref tpasses, .ref tjars, .ref torders, .ref tfeasts, .ref tway, .int tws, .int tnow, .int tfm, .int tx]))]) hP hD [0, 1, 2] (by decide) rfl
  refine W.widen (k := 0) (n := 0) (Nat.le_of_ble_eq_true rfl) (Nat.le_of_ble_eq_true rfl) ?_
  exact W.vret hx hb hr (fun t ht hW => ⟨⟨(f12), rfl, (hG.trans hG0.symm), by rw [ht]; exact hP9, hD9⟩, hS.F ht⟩) hS.2.2 dX4_setHour_31
set_option maxRecDepth 100000 in
def fX4_setNode (cF : Nat → Int32) (tnodesF : Nat → Int32) (p0 : Int32) : (Nat → Int32) := bnd (fX6_get_48 4 tnodesF p0 0) (fun (r3 : Int32) => bnd ((upd cF (3 : Int32).toNatClampNeg r3)) (fun (f8 : Nat → Int32) => bnd ((upd f8 (4 : Int32).toNatClampNeg 0)) (fun (f9 : Nat → Int32) => bnd (fX6_get_48 4 tnodesF p0 2) (fun (r12 : Int32) => bnd ((upd f9 (5 : Int32).toNatClampNeg r12)) (fun (f17 : Nat → Int32) => bnd ((upd f17 (6 : Int32).toNatClampNeg p0)) (fun (f18 : Nat → Int32) => bnd ((upd f18 (10 : Int32).toNatClampNeg 0)) (fun (f19 : Nat → Int32) => f19)))))))
set_option maxHeartbeats 4000000 in
set_option maxRecDepth 100000 in
theorem mX4_setNode (l : Launch) (dC : Nat → ClassId) (dI : Nat → Nat → Nat) (kA : Nat → ClassId) (sz : Nat) (s0 : Nat) (cW : Nat) (cF : Nat → Int32) (cb : Int32) (ch : Int32) (co : Int32) (w0 : Nat) (tnodes : Nat) (tnodesA : Nat) (tnodesS : Int32) (tnodesF : Nat → Int32) (tpasses : Nat) (tjars : Nat) (torders : Nat) (tfeasts : Nat) (tway : Nat) (tws : Int32) (tnow : Int32) (tfm : Int32) (tx : Int32) (p0 : Int32)  : Met l yX4_setNode wsX4_setNode ({ frames := 1, cells := 0, slots := 0, locals := 23 }) (zPc dC dI kA sz [.ref s0, .ref w0, .int p0] [(s0, .inr (4, [.ref cW, .int cb, .int ch, .int co])), (cW, .inl (kA 0, 11, .inl cF)), (w0, .inr (9, [.ref tnodes, .ref tpasses, .ref tjars, .ref torders, .ref tfeasts, .ref tway, .int tws, .int tnow, .int tfm, .int tx])), (tnodes, .inr (6, [.int 4, .ref tnodesA, .int tnodesS])), (tnodesA, .inl (kA 0, 48, .inl tnodesF))]) (va_Qv (fun (u : (Nat → Int32)) => u = fX4_setNode cF tnodesF p0) (zB dC dI (va_A [(s0, .inr (4, [.ref cW, .int cb, .int ch, .int co])), (cW, .inl (kA 0, 11, .inl cF)), (w0, .inr (9, [.ref tnodes, .ref tpasses, .ref tjars, .ref torders, .ref tfeasts, .ref tway, .int tws, .int tnow, .int tfm, .int tx])), (tnodes, .inr (6, [.int 4, .ref tnodesA, .int tnodesS])), (tnodesA, .inl (kA 0, 48, .inl tnodesF))] sz) (fun (u : (Nat → Int32)) => [(s0, .inr (4, [.ref cW, .int cb, .int ch, .int co])), (cW, .inl (kA 0, 11, .inl u)), (w0, .inr (9, [.ref tnodes, .ref tpasses, .ref tjars, .ref torders, .ref tfeasts, .ref tway, .int tws, .int tnow, .int tfm, .int tx])), (tnodes, .inr (6, [.int 4, .ref tnodesA, .int tnodesS])), (tnodesA, .inl (kA 0, 48, .inl tnodesF))])) (va_A [(s0, .inr (4, [.ref cW, .int cb, .int ch, .int co])), (cW, .inl (kA 0, 11, .inl cF)), (w0, .inr (9, [.ref tnodes, .ref tpasses, .ref tjars, .ref torders, .ref tfeasts, .ref tway, .int tws, .int tnow, .int tfm, .int tx])), (tnodes, .inr (6, [.int 4, .ref tnodesA, .int tnodesS])), (tnodesA, .inl (kA 0, 48, .inl tnodesF))] sz)) 0 0 (va_A [(s0, .inr (4, [.ref cW, .int cb, .int ch, .int co])), (cW, .inl (kA 0, 11, .inl cF)), (w0, .inr (9, [.ref tnodes, .ref tpasses, .ref tjars, .ref torders, .ref tfeasts, .ref tway, .int tws, .int tnow, .int tfm, .int tx])), (tnodes, .inr (6, [.int 4, .ref tnodesA, .int tnodesS])), (tnodesA, .inl (kA 0, 48, .inl tnodesF))] sz) := by
  refine Met.ofW (cc := cX4_setNode) (maxL := 3) (ret := none) pnX4 rfl ?_
  intro p e s m args below meth c s₁ B hml hv
  obtain ⟨rfl, hsz, hP, hK, hD0⟩ := hv
  have hx := B.exec
  have hb := B.bytes
  have hr := B.returns
  have hts := atoms_spec (ws := wsX4_setNode) B.pre
  have hown : s.vm.findClass RX4 = some m.cls := findClass_of_methodNamed B.named
  have hlocks := B.notSynchronized
  subst hsz
  have hD := hD0.self (sz := s.heap.size)
  generalize hAe : va_A [(s0, .inr (4, [.ref cW, .int cb, .int ch, .int co])), (cW, .inl (kA 0, 11, .inl cF)), (w0, .inr (9, [.ref tnodes, .ref tpasses, .ref tjars, .ref torders, .ref tfeasts, .ref tway, .int tws, .int tnow, .int tfm, .int tx])), (tnodes, .inr (6, [.int 4, .ref tnodesA, .int tnodesS])), (tnodesA, .inl (kA 0, 48, .inl tnodesF))] s.heap.size = A at hD ⊢
  have hA : ∀ q : Nat, s.heap.size ≤ q → A q := zA_of hAe
  have hS : va_S A s.heap s.heap [] := va_S.rf
  have hP : va_P (dC, dI) vwCl [(s0, .inr (4, [.ref cW, .int cb, .int ch, .int co])), (cW, .inl (kA 0, 11, .inl cF)), (w0, .inr (9, [.ref tnodes, .ref tpasses, .ref tjars, .ref torders, .ref tfeasts, .ref tway, .int tws, .int tnow, .int tfm, .int tx])), (tnodes, .inr (6, [.int 4, .ref tnodesA, .int tnodesS])), (tnodesA, .inl (kA 0, 48, .inl tnodesF))] s.heap := hP
  have hl := lv_entry ([.ref s0, .ref w0, .int p0]) (n := 3) (Nat.le_of_ble_eq_true rfl)
  rw [lg_entry_eq]
  generalize (lg_sl ([.ref s0, .ref w0, .int p0]) ++ List.replicate (3 - (lg_sl ([.ref s0, .ref w0, .int p0])).length) Slot.unset).toArray = ls at hl ⊢
  have hl : lv_has ls 3 [(0, .ref s0), (1, .ref w0), (2, .int p0)] := hl
  obtain ⟨G, hG0⟩ : ∃ G : (Nat → Int32), fX4_setNode cF tnodesF p0 = G := ⟨_, rfl⟩
  have hG := hG0
  unfold fX4_setNode at hG
  refine lv_aload_n hx hb dX4_setNode_0 rfl (lv_at hl 0 rfl) ?_
  refine va_get (D := (dC, dI)) (ci := 4) (v := .ref cW) (C := RX4) (T := TX4) (N := 4) hx hb hts iX4_setNode_X4 hown hK.1 hP 0 gz0 vcz4 0 (by decide) (kX4_setNode_1 hts) (fun _ h9 => h9) gz0 dX4_setNode_1 ?_
  refine lv_iconst (v := 3) hx hb dX4_setNode_4 (by decide) ?_
  refine lv_aload_n hx hb dX4_setNode_5 rfl (lv_at hl 1 rfl) ?_
  refine va_get (D := (dC, dI)) (ci := 9) (v := .ref tnodes) (C := RX9) (T := TX9) (N := 10) hx hb hts iX4_setNode_X9 hown hK.1 hP 2 gz2 vcz9 0 (by decide) (kX4_setNode_2 hts) (fun _ h9 => h9) gz0 dX4_setNode_6 ?_
  refine lv_iload_n hx hb dX4_setNode_9 rfl (lv_at hl 2 rfl) ?_
  refine lv_iconst (v := 0) hx hb dX4_setNode_10 (by decide) ?_
  refine z_i (wr := [(s0, .inr (4, [.ref cW, .int cb, .int ch, .int co])), (cW, .inl (kA 0, 11, .inl cF)), (w0, .inr (9, [.ref tnodes, .ref tpasses, .ref tjars, .ref torders, .ref tfeasts, .ref tway, .int tws, .int tnow, .int tfm, .int tx]))]) (va_runV (As := [.int p0, .int 0]) (rest := [.int 3, .ref cW]) ⟨hx, hb, hml, hown, hts⟩ (mX6_get_48 l dC dI kA _ tnodes tnodesA 4 tnodesS tnodesF p0 0) (cwV 2 hts gX4_setNode_X6_get rfl rfl rfl ⟨rfl, hdX6_get⟩ ⟨(Nat.le_of_ble_eq_true rfl), (Nat.le_of_ble_eq_true rfl)⟩) ⟨zPc.blind, va_recv (q := (RX6, TX6, 3)) hK.1 hP (ci := 6) (q0 := 3) rfl rfl, zPre hK (hP.sub [3, 4] rfl) (hD.sub [3, 4] (by decide) rfl)⟩ rfl rfl hl.1 rfl (lv_room (Nat.le_of_ble_eq_true rfl)) dX4_setNode_11 ⟨(Nat.le_of_ble_eq_true rfl), (Nat.le_of_ble_eq_true rfl)⟩) hP hD hS hA [3, 4] [0, 1, 2] rfl rfl (by decide) (by decide) (fun r3 u1 H locs hw2 hP hD hS => ?_)
  obtain ⟨er6, hp5⟩ := hw2
  have er6 : r3 = u1 := er6
  subst er6
  have er3 : r3 = fX6_get_48 4 tnodesF p0 0 := hp5
  have hG := zbnd hG er3
  obtain ⟨hP, hD⟩ := z_re (L := [(s0, .inr (4, [.ref cW, .int cb, .int ch, .int co])), (cW, .inl (kA 0, 11, .inl cF)), (w0, .inr (9, [.ref tnodes, .ref tpasses, .ref tjars, .ref torders, .ref tfeasts, .ref tway, .int tws, .int tnow, .int tfm, .int tx])), (tnodes, .inr (6, [.int 4, .ref tnodesA, .int tnodesS])), (tnodesA, .inl (kA 0, 48, .inl tnodesF))]) hP hD
  refine va_iast hx hb hK.1 hP hD hS 1 0 gz1 tzz0 (vpd (by decide)) dX4_setNode_14 (fun H locs hP hD hS => ?_)
  obtain ⟨hP, hD⟩ := z_re (L := [(s0, .inr (4, [.ref cW, .int cb, .int ch, .int co])), (cW, .inl (kA 0, 11, .inl (upd cF (3 : Int32).toNatClampNeg r3))), (w0, .inr (9, [.ref tnodes, .ref tpasses, .ref tjars, .ref torders, .ref tfeasts, .ref tway, .int tws, .int tnow, .int tfm, .int tx])), (tnodes, .inr (6, [.int 4, .ref tnodesA, .int tnodesS])), (tnodesA, .inl (kA 0, 48, .inl tnodesF))]) hP hD
  obtain ⟨f8, ef8⟩ : ∃ y : Nat → Int32, y = (upd cF (3 : Int32).toNatClampNeg r3) := ⟨_, rfl⟩
  rw [← ef8] at hP hD
  have hG := zbnd hG ef8
  refine lv_aload_n hx hb dX4_setNode_15 rfl (lv_at hl 0 rfl) ?_
  refine va_get (D := (dC, dI)) (ci := 4) (v := .ref cW) (C := RX4) (T := TX4) (N := 4) hx hb hts iX4_setNode_X4 hown hK.1 hP 0 gz0 vcz4 0 (by decide) (kX4_setNode_1 hts) (fun _ h9 => h9) gz0 dX4_setNode_16 ?_
  refine lv_iconst (v := 4) hx hb dX4_setNode_19 (by decide) ?_
  refine lv_iconst (v := 0) hx hb dX4_setNode_20 (by decide) ?_
  refine va_iast hx hb hK.1 hP hD hS 1 0 gz1 tzz0 (vpd (by decide)) dX4_setNode_21 (fun H locs hP hD hS => ?_)
  obtain ⟨hP, hD⟩ := z_re (L := [(s0, .inr (4, [.ref cW, .int cb, .int ch, .int co])), (cW, .inl (kA 0, 11, .inl (upd f8 (4 : Int32).toNatClampNeg 0))), (w0, .inr (9, [.ref tnodes, .ref tpasses, .ref tjars, .ref torders, .ref tfeasts, .ref tway, .int tws, .int tnow, .int tfm, .int tx])), (tnodes, .inr (6, [.int 4, .ref tnodesA, .int tnodesS])), (tnodesA, .inl (kA 0, 48, .inl tnodesF))]) hP hD
  obtain ⟨f9, ef9⟩ : ∃ y : Nat → Int32, y = (upd f8 (4 : Int32).toNatClampNeg 0) := ⟨_, rfl⟩
  rw [← ef9] at hP hD
  have hG := zbnd hG ef9
  refine lv_aload_n hx hb dX4_setNode_22 rfl (lv_at hl 0 rfl) ?_
  refine va_get (D := (dC, dI)) (ci := 4) (v := .ref cW) (C := RX4) (T := TX4) (N := 4) hx hb hts iX4_setNode_X4 hown hK.1 hP 0 gz0 vcz4 0 (by decide) (kX4_setNode_1 hts) (fun _ h9 => h9) gz0 dX4_setNode_23 ?_
  refine lv_iconst (v := 5) hx hb dX4_setNode_26 (by decide) ?_
  refine lv_aload_n hx hb dX4_setNode_27 rfl (lv_at hl 1 rfl) ?_
  refine va_get (D := (dC, dI)) (ci := 9) (v := .ref tnodes) (C := RX9) (T := TX9) (N := 10) hx hb hts iX4_setNode_X9 hown hK.1 hP 2 gz2 vcz9 0 (by decide) (kX4_setNode_2 hts) (fun _ h9 => h9) gz0 dX4_setNode_28 ?_
  refine lv_iload_n hx hb dX4_setNode_31 rfl (lv_at hl 2 rfl) ?_
  refine lv_iconst (v := 2) hx hb dX4_setNode_32 (by decide) ?_
  refine z_i (wr := [(s0, .inr (4, [.ref cW, .int cb, .int ch, .int co])), (cW, .inl (kA 0, 11, .inl f9)), (w0, .inr (9, [.ref tnodes, .ref tpasses, .ref tjars, .ref torders, .ref tfeasts, .ref tway, .int tws, .int tnow, .int tfm, .int tx]))]) (va_runV (As := [.int p0, .int 2]) (rest := [.int 5, .ref cW]) ⟨hx, hb, hml, hown, hts⟩ (mX6_get_48 l dC dI kA _ tnodes tnodesA 4 tnodesS tnodesF p0 2) (cwV 2 hts gX4_setNode_X6_get rfl rfl rfl ⟨rfl, hdX6_get⟩ ⟨(Nat.le_of_ble_eq_true rfl), (Nat.le_of_ble_eq_true rfl)⟩) ⟨zPc.blind, va_recv (q := (RX6, TX6, 3)) hK.1 hP (ci := 6) (q0 := 3) rfl rfl, zPre hK (hP.sub [3, 4] rfl) (hD.sub [3, 4] (by decide) rfl)⟩ rfl rfl hl.1 rfl (lv_room (Nat.le_of_ble_eq_true rfl)) dX4_setNode_33 ⟨(Nat.le_of_ble_eq_true rfl), (Nat.le_of_ble_eq_true rfl)⟩) hP hD hS hA [3, 4] [0, 1, 2] rfl rfl (by decide) (by decide) (fun r12 u10 H locs hw11 hP hD hS => ?_)
  obtain ⟨er15, hp14⟩ := hw11
  have er15 : r12 = u10 := er15
  subst er15
  have er12 : r12 = fX6_get_48 4 tnodesF p0 2 := hp14
  have hG := zbnd hG er12
  obtain ⟨hP, hD⟩ := z_re (L := [(s0, .inr (4, [.ref cW, .int cb, .int ch, .int co])), (cW, .inl (kA 0, 11, .inl f9)), (w0, .inr (9, [.ref tnodes, .ref tpasses, .ref tjars, .ref torders, .ref tfeasts, .ref tway, .int tws, .int tnow, .int tfm, .int tx])), (tnodes, .inr (6, [.int 4, .ref tnodesA, .int tnodesS])), (tnodesA, .inl (kA 0, 48, .inl tnodesF))]) hP hD
  refine va_iast hx hb hK.1 hP hD hS 1 0 gz1 tzz0 (vpd (by decide)) dX4_setNode_36 (fun H locs hP hD hS => ?_)
  obtain ⟨hP, hD⟩ := z_re (L := [(s0, .inr (4, [.ref cW, .int cb, .int ch, .int co])), (cW, .inl (kA 0, 11, .inl (upd f9 (5 : Int32).toNatClampNeg r12))), (w0, .inr (9, [.ref tnodes, .ref tpasses, .ref tjars, .ref torders, .ref tfeasts, .ref tway, .int tws, .int tnow, .int tfm, .int tx])), (tnodes, .inr (6, [.int 4, .ref tnodesA, .int tnodesS])), (tnodesA, .inl (kA 0, 48, .inl tnodesF))]) hP hD
  obtain ⟨f17, ef17⟩ : ∃ y : Nat → Int32, y = (upd f9 (5 : Int32).toNatClampNeg r12) := ⟨_, rfl⟩
  rw [← ef17] at hP hD
  have hG := zbnd hG ef17
  refine lv_aload_n hx hb dX4_setNode_37 rfl (lv_at hl 0 rfl) ?_
  refine va_get (D := (dC, dI)) (ci := 4) (v := .ref cW) (C := RX4) (T := TX4) (N := 4) hx hb hts iX4_setNode_X4 hown hK.1 hP 0 gz0 vcz4 0 (by decide) (kX4_setNode_1 hts) (fun _ h9 => h9) gz0 dX4_setNode_38 ?_
  refine lv_bipush (v := 6) hx hb dX4_setNode_41 (by decide) ?_
  refine lv_iload_n hx hb dX4_setNode_43 rfl (lv_at hl 2 rfl) ?_
  refine va_iast hx hb hK.1 hP hD hS 1 0 gz1 tzz0 (vpd (by decide)) dX4_setNode_44 (fun H locs hP hD hS => ?_)
  obtain ⟨hP, hD⟩ := z_re (L := [(s0, .inr (4, [.ref cW, .int cb, .int ch, .int co])), (cW, .inl (kA 0, 11, .inl (upd f17 (6 : Int32).toNatClampNeg p0))), (w0, .inr (9, [.ref tnodes, .ref tpasses, .ref tjars, .ref torders, .ref tfeasts, .ref tway, .int tws, .int tnow, .int tfm, .int tx])), (tnodes, .inr (6, [.int 4, .ref tnodesA, .int tnodesS])), (tnodesA, .inl (kA 0, 48, .inl tnodesF))]) hP hD
  obtain ⟨f18, ef18⟩ : ∃ y : Nat → Int32, y = (upd f17 (6 : Int32).toNatClampNeg p0) := ⟨_, rfl⟩
  rw [← ef18] at hP hD
  have hG := zbnd hG ef18
  refine lv_aload_n hx hb dX4_setNode_45 rfl (lv_at hl 0 rfl) ?_
  refine va_get (D := (dC, dI)) (ci := 4) (v := .ref cW) (C := RX4) (T := TX4) (N := 4) hx hb hts iX4_setNode_X4 hown hK.1 hP 0 gz0 vcz4 0 (by decide) (kX4_setNode_1 hts) (fun _ h9 => h9) gz0 dX4_setNode_46 ?_
  refine lv_bipush (v := 10) hx hb dX4_setNode_49 (by decide) ?_
  refine lv_iconst (v := 0) hx hb dX4_setNode_51 (by decide) ?_
  refine va_iast hx hb hK.1 hP hD hS 1 0 gz1 tzz0 (vpd (by decide)) dX4_setNode_52 (fun H locs hP hD hS => ?_)
  obtain ⟨hP, hD⟩ := z_re (L := [(s0, .inr (4, [.ref cW, .int cb, .int ch, .int co])), (cW, .inl (kA 0, 11, .inl (upd f18 (10 : Int32).toNatClampNeg 0))), (w0, .inr (9, [.ref tnodes, .ref tpasses, .ref tjars, .ref torders, .ref tfeasts, .ref tway, .int tws, .int tnow, .int tfm, .int tx])), (tnodes, .inr (6, [.int 4, .ref tnodesA, .int tnodesS])), (tnodesA, .inl (kA 0, 48, .inl tnodesF))]) hP hD
  obtain ⟨f19, ef19⟩ : ∃ y : Nat → Int32, y = (upd f18 (10 : Int32).toNatClampNeg 0) := ⟨_, rfl⟩
  rw [← ef19] at hP hD
  have hG := zbnd hG ef19
  obtain ⟨hP9, hD9⟩ := z_sb (L' := [(s0, .inr (4, [.ref cW, .int cb, .int ch, .int co])), (cW, .inl (kA 0, 11, .inl f19)), (w0, .inr (9, [.ref tnodes, .ref tpasses, .ref tjars, .ref torders, .ref tfeasts, .ref tway, .int tws, .int tnow, .int tfm, .int tx])), (tnodes, .inr (6, [.int 4, .ref tnodesA, .int tnodesS])), (tnodesA, .inl (kA 0, 48, .inl tnodesF))]) hP hD [0, 1, 2, 3, 4] (by decide) rfl
  refine W.widen (k := 0) (n := 0) (Nat.le_of_ble_eq_true rfl) (Nat.le_of_ble_eq_true rfl) ?_
  exact W.vret hx hb hr (fun t ht hW => ⟨⟨(f19), rfl, (hG.trans hG0.symm), by rw [ht]; exact hP9, hD9⟩, hS.F ht⟩) hS.2.2 dX4_setNode_53
set_option maxRecDepth 100000 in
def fX4_setPass (cF : Nat → Int32) (tnodesF : Nat → Int32) (tpassesS : Int32) (tpassesF : Nat → Int32) (p0 : Int32) (p1 : Int32) : Int32 × Int32 × Int32 × (Nat → Int32) := bnd (fX9_otherEnd tpassesS tpassesF p0 p1) (fun (r3 : Int32) => bnd (fX6_get_48 4 tnodesF r3 0) (fun (r10 : Int32) => bnd (fX6_get_48 4 tnodesF p1 0) (fun (r17 : Int32) => bnd (fX6_get_100 5 tpassesF p0 2) (fun (r24 : Int32) => bnd (fX6_get_100 5 tpassesF p0 3) (fun (r31 : Int32) => bnd ((upd cF (4 : Int32).toNatClampNeg r31)) (fun (f36 : Nat → Int32) => bnd ((upd f36 (5 : Int32).toNatClampNeg 0)) (fun (f37 : Nat → Int32) => bnd ((upd f37 (6 : Int32).toNatClampNeg 12)) (fun (f38 : Nat → Int32) => (r10, r17, r24, f38)))))))))
set_option maxHeartbeats 4000000 in
set_option maxRecDepth 100000 in
theorem mX4_setPass (l : Launch) (dC : Nat → ClassId) (dI : Nat → Nat → Nat) (kA : Nat → ClassId) (sz : Nat) (s0 : Nat) (cW : Nat) (cF : Nat → Int32) (cb : Int32) (ch : Int32) (co : Int32) (w0 : Nat) (tnodes : Nat) (tnodesA : Nat) (tnodesS : Int32) (tnodesF : Nat → Int32) (tpasses : Nat) (tpassesA : Nat) (tpassesS : Int32) (tpassesF : Nat → Int32) (tjars : Nat) (torders : Nat) (tfeasts : Nat) (tway : Nat) (tws : Int32) (tnow : Int32) (tfm : Int32) (tx : Int32) (p0 : Int32) (p1 : Int32)  : Met l yX4_setPass wsX4_setPass ({ frames := 2, cells := 0, slots := 0, locals := 47 }) (zPc dC dI kA sz [.ref s0, .ref w0, .int p0, .int p1] [(s0, .inr (4, [.ref cW, .int cb, .int ch, .int co])), (cW, .inl (kA 0, 11, .inl cF)), (w0, .inr (9, [.ref tnodes, .ref tpasses, .ref tjars, .ref torders, .ref tfeasts, .ref tway, .int tws, .int tnow, .int tfm, .int tx])), (tnodes, .inr (6, [.int 4, .ref tnodesA, .int tnodesS])), (tnodesA, .inl (kA 0, 48, .inl tnodesF)), (tpasses, .inr (6, [.int 5, .ref tpassesA, .int tpassesS])), (tpassesA, .inl (kA 0, 100, .inl tpassesF))]) (va_Qv (fun (u : Int32 × Int32 × Int32 × (Nat → Int32)) => (u.1, u.2.1, u.2.2.1, u.2.2.2) = fX4_setPass cF tnodesF tpassesS tpassesF p0 p1) (zB dC dI (va_A [(s0, .inr (4, [.ref cW, .int cb, .int ch, .int co])), (cW, .inl (kA 0, 11, .inl cF)), (w0, .inr (9, [.ref tnodes, .ref tpasses, .ref tjars, .ref torders, .ref tfeasts, .ref tway, .int tws, .int tnow, .int tfm, .int tx])), (tnodes, .inr (6, [.int 4, .ref tnodesA, .int tnodesS])), (tnodesA, .inl (kA 0, 48, .inl tnodesF)), (tpasses, .inr (6, [.int 5, .ref tpassesA, .int tpassesS])), (tpassesA, .inl (kA 0, 100, .inl tpassesF))] sz) (fun (u : Int32 × Int32 × Int32 × (Nat → Int32)) => [(s0, .inr (4, [.ref cW, .int u.1, .int u.2.1, .int u.2.2.1])), (cW, .inl (kA 0, 11, .inl u.2.2.2)), (w0, .inr (9, [.ref tnodes, .ref tpasses, .ref tjars, .ref torders, .ref tfeasts, .ref tway, .int tws, .int tnow, .int tfm, .int tx])), (tnodes, .inr (6, [.int 4, .ref tnodesA, .int tnodesS])), (tnodesA, .inl (kA 0, 48, .inl tnodesF)), (tpasses, .inr (6, [.int 5, .ref tpassesA, .int tpassesS])), (tpassesA, .inl (kA 0, 100, .inl tpassesF))])) (va_A [(s0, .inr (4, [.ref cW, .int cb, .int ch, .int co])), (cW, .inl (kA 0, 11, .inl cF)), (w0, .inr (9, [.ref tnodes, .ref tpasses, .ref tjars, .ref torders, .ref tfeasts, .ref tway, .int tws, .int tnow, .int tfm, .int tx])), (tnodes, .inr (6, [.int 4, .ref tnodesA, .int tnodesS])), (tnodesA, .inl (kA 0, 48, .inl tnodesF)), (tpasses, .inr (6, [.int 5, .ref tpassesA, .int tpassesS])), (tpassesA, .inl (kA 0, 100, .inl tpassesF))] sz)) 0 0 (va_A [(s0, .inr (4, [.ref cW, .int cb, .int ch, .int co])), (cW, .inl (kA 0, 11, .inl cF)), (w0, .inr (9, [.ref tnodes, .ref tpasses, .ref tjars, .ref torders, .ref tfeasts, .ref tway, .int tws, .int tnow, .int tfm, .int tx])), (tnodes, .inr (6, [.int 4, .ref tnodesA, .int tnodesS])), (tnodesA, .inl (kA 0, 48, .inl tnodesF)), (tpasses, .inr (6, [.int 5, .ref tpassesA, .int tpassesS])), (tpassesA, .inl (kA 0, 100, .inl tpassesF))] sz) := by
  refine Met.ofW (cc := cX4_setPass) (maxL := 5) (ret := none) pnX4 rfl ?_
  intro p e s m args below meth c s₁ B hml hv
  obtain ⟨rfl, hsz, hP, hK, hD0⟩ := hv
  have hx := B.exec
  have hb := B.bytes
  have hr := B.returns
  have hts := atoms_spec (ws := wsX4_setPass) B.pre
  have hown : s.vm.findClass RX4 = some m.cls := findClass_of_methodNamed B.named
  have hlocks := B.notSynchronized
  subst hsz
  have hD := hD0.self (sz := s.heap.size)
  generalize hAe : va_A [(s0, .inr (4, [.ref cW, .int cb, .int ch, .int co])), (cW, .inl (kA 0, 11, .inl cF)), (w0, .inr (9, [.ref tnodes, .ref tpasses, .ref tjars, .ref torders, .ref tfeasts, .ref tway, .int tws, .int tnow, .int tfm, .int tx])), (tnodes, .inr (6, [.int 4, .ref tnodesA, .int tnodesS])), (tnodesA, .inl (kA 0, 48, .inl tnodesF)), (tpasses, .inr (6, [.int 5, .ref tpassesA, .int tpassesS])), (tpassesA, .inl (kA 0, 100, .inl tpassesF))] s.heap.size = A at hD ⊢
  have hA : ∀ q : Nat, s.heap.size ≤ q → A q := zA_of hAe
  have hS : va_S A s.heap s.heap [] := va_S.rf
  have hP : va_P (dC, dI) vwCl [(s0, .inr (4, [.ref cW, .int cb, .int ch, .int co])), (cW, .inl (kA 0, 11, .inl cF)), (w0, .inr (9, [.ref tnodes, .ref tpasses, .ref tjars, .ref torders, .ref tfeasts, .ref tway, .int tws, .int tnow, .int tfm, .int tx])), (tnodes, .inr (6, [.int 4, .ref tnodesA, .int tnodesS])), (tnodesA, .inl (kA 0, 48, .inl tnodesF)), (tpasses, .inr (6, [.int 5, .ref tpassesA, .int tpassesS])), (tpassesA, .inl (kA 0, 100, .inl tpassesF))] s.heap := hP
  have hl := lv_entry ([.ref s0, .ref w0, .int p0, .int p1]) (n := 5) (Nat.le_of_ble_eq_true rfl)
  rw [lg_entry_eq]
  generalize (lg_sl ([.ref s0, .ref w0, .int p0, .int p1]) ++ List.replicate (5 - (lg_sl ([.ref s0, .ref w0, .int p0, .int p1])).length) Slot.unset).toArray = ls at hl ⊢
  have hl : lv_has ls 5 [(0, .ref s0), (1, .ref w0), (2, .int p0), (3, .int p1)] := hl
  obtain ⟨G, hG0⟩ : ∃ G : Int32 × Int32 × Int32 × (Nat → Int32), fX4_setPass cF tnodesF tpassesS tpassesF p0 p1 = G := ⟨_, rfl⟩
  have hG := hG0
  unfold fX4_setPass at hG
  refine lv_aload_n hx hb dX4_setPass_0 rfl (lv_at hl 1 rfl) ?_
  refine lv_iload_n hx hb dX4_setPass_1 rfl (lv_at hl 2 rfl) ?_
  refine lv_iload_n hx hb dX4_setPass_2 rfl (lv_at hl 3 rfl) ?_
  refine z_i (wr := [(s0, .inr (4, [.ref cW, .int cb, .int ch, .int co])), (cW, .inl (kA 0, 11, .inl cF)), (tnodes, .inr (6, [.int 4, .ref tnodesA, .int tnodesS])), (tnodesA, .inl (kA 0, 48, .inl tnodesF))]) (va_runV (As := [.int p0, .int p1]) (rest := []) ⟨hx, hb, hml, hown, hts⟩ (mX9_otherEnd l dC dI kA _ w0 tnodes tpasses tpassesA tpassesS tpassesF tjars torders tfeasts tway tws tnow tfm tx p0 p1) (cwV 2 hts gX4_setPass_X9_otherEnd rfl rfl rfl ⟨rfl, hdX9_otherEnd⟩ ⟨(Nat.le_of_ble_eq_true rfl), (Nat.le_of_ble_eq_true rfl)⟩) ⟨zPc.blind, va_recv (q := (RX9, TX9, 10)) hK.1 hP (ci := 9) (q0 := 2) rfl rfl, zPre hK (hP.sub [2, 5, 6] rfl) (hD.sub [2, 5, 6] (by decide) rfl)⟩ rfl rfl hl.1 rfl (lv_room (Nat.le_of_ble_eq_true rfl)) dX4_setPass_3 ⟨(Nat.le_of_ble_eq_true rfl), (Nat.le_of_ble_eq_true rfl)⟩) hP hD hS hA [2, 5, 6] [0, 1, 3, 4] rfl rfl (by decide) (by decide) (fun r3 u1 H locs hw2 hP hD hS => ?_)
  obtain ⟨er6, hp5⟩ := hw2
  have er6 : r3 = u1 := er6
  subst er6
  have er3 : r3 = fX9_otherEnd tpassesS tpassesF p0 p1 := hp5
  have hG := zbnd hG er3
  obtain ⟨hP, hD⟩ := z_re (L := [(s0, .inr (4, [.ref cW, .int cb, .int ch, .int co])), (cW, .inl (kA 0, 11, .inl cF)), (tnodes, .inr (6, [.int 4, .ref tnodesA, .int tnodesS])), (tnodesA, .inl (kA 0, 48, .inl tnodesF)), (w0, .inr (9, [.ref tnodes, .ref tpasses, .ref tjars, .ref torders, .ref tfeasts, .ref tway, .int tws, .int tnow, .int tfm, .int tx])), (tpasses, .inr (6, [.int 5, .ref tpassesA, .int tpassesS])), (tpassesA, .inl (kA 0, 100, .inl tpassesF))]) hP hD
  refine lv_istore (lv' := [(4, .int r3), (0, .ref s0), (1, .ref w0), (2, .int p0), (3, .int p1)]) hx hb dX4_setPass_6 hl (by decide) rfl (fun ls hl => ?_)
  refine lv_aload_n hx hb dX4_setPass_8 rfl (lv_at hl 1 rfl) ?_
  refine lv_aload_n hx hb dX4_setPass_9 rfl (lv_at hl 2 rfl) ?_
  refine va_get (D := (dC, dI)) (ci := 9) (v := .ref tnodes) (C := RX9) (T := TX9) (N := 10) hx hb hts iX4_setPass_X9 hown hK.1 hP 4 gz4 vcz9 0 (by decide) (kX4_setPass_1 hts) (fun _ h9 => h9) gz0 dX4_setPass_10 ?_
  refine lv_iload hx hb dX4_setPass_13 (lv_at hl 0 rfl) ?_
  refine lv_iconst (v := 0) hx hb dX4_setPass_15 (by decide) ?_
  refine z_i (wr := [(s0, .inr (4, [.ref cW, .int cb, .int ch, .int co])), (cW, .inl (kA 0, 11, .inl cF)), (w0, .inr (9, [.ref tnodes, .ref tpasses, .ref tjars, .ref torders, .ref tfeasts, .ref tway, .int tws, .int tnow, .int tfm, .int tx])), (tpasses, .inr (6, [.int 5, .ref tpassesA, .int tpassesS])), (tpassesA, .inl (kA 0, 100, .inl tpassesF))]) (va_runV (As := [.int r3, .int 0]) (rest := [.ref s0]) ⟨hx, hb, hml, hown, hts⟩ (mX6_get_48 l dC dI kA _ tnodes tnodesA 4 tnodesS tnodesF r3 0) (cwV 2 hts gX4_setPass_X6_get rfl rfl rfl ⟨rfl, hdX6_get⟩ ⟨(Nat.le_of_ble_eq_true rfl), (Nat.le_of_ble_eq_true rfl)⟩) ⟨zPc.blind, va_recv (q := (RX6, TX6, 3)) hK.1 hP (ci := 6) (q0 := 2) rfl rfl, zPre hK (hP.sub [2, 3] rfl) (hD.sub [2, 3] (by decide) rfl)⟩ rfl rfl hl.1 rfl (lv_room (Nat.le_of_ble_eq_true rfl)) dX4_setPass_16 ⟨(Nat.le_of_ble_eq_true rfl), (Nat.le_of_ble_eq_true rfl)⟩) hP hD hS hA [2, 3] [0, 1, 4, 5, 6] rfl rfl (by decide) (by decide) (fun r10 u8 H locs hw9 hP hD hS => ?_)
  obtain ⟨er13, hp12⟩ := hw9
  have er13 : r10 = u8 := er13
  subst er13
  have er10 : r10 = fX6_get_48 4 tnodesF r3 0 := hp12
  have hG := zbnd hG er10
  obtain ⟨hP, hD⟩ := z_re (L := [(s0, .inr (4, [.ref cW, .int cb, .int ch, .int co])), (cW, .inl (kA 0, 11, .inl cF)), (w0, .inr (9, [.ref tnodes, .ref tpasses, .ref tjars, .ref torders, .ref tfeasts, .ref tway, .int tws, .int tnow, .int tfm, .int tx])), (tpasses, .inr (6, [.int 5, .ref tpassesA, .int tpassesS])), (tpassesA, .inl (kA 0, 100, .inl tpassesF)), (tnodes, .inr (6, [.int 4, .ref tnodesA, .int tnodesS])), (tnodesA, .inl (kA 0, 48, .inl tnodesF))]) hP hD
  refine va_put (D := (dC, dI)) (ci := 4) (v := .int r10) (ty := .int) (C := RX4) (T := TX4) (N := 4) hx hb hts iX4_setPass_X4 tyX4 tyX4_ok nmX4 hown hK.1 hP hD hS 0 gz0 vcz4 1 (by decide) (kX4_setPass_2 hts) (fun _ h9 => h9) rfl pfdI rfl rfl (Nat.le_of_ble_eq_true rfl) dX4_setPass_19 (fun H locs hP hD hS => ?_)
  obtain ⟨hP, hD⟩ := z_re (L := [(s0, .inr (4, [.ref cW, .int r10, .int ch, .int co])), (cW, .inl (kA 0, 11, .inl cF)), (w0, .inr (9, [.ref tnodes, .ref tpasses, .ref tjars, .ref torders, .ref tfeasts, .ref tway, .int tws, .int tnow, .int tfm, .int tx])), (tpasses, .inr (6, [.int 5, .ref tpassesA, .int tpassesS])), (tpassesA, .inl (kA 0, 100, .inl tpassesF)), (tnodes, .inr (6, [.int 4, .ref tnodesA, .int tnodesS])), (tnodesA, .inl (kA 0, 48, .inl tnodesF))]) hP hD
  refine lv_aload_n hx hb dX4_setPass_22 rfl (lv_at hl 1 rfl) ?_
  refine lv_aload_n hx hb dX4_setPass_23 rfl (lv_at hl 2 rfl) ?_
  refine va_get (D := (dC, dI)) (ci := 9) (v := .ref tnodes) (C := RX9) (T := TX9) (N := 10) hx hb hts iX4_setPass_X9 hown hK.1 hP 2 gz2 vcz9 0 (by decide) (kX4_setPass_1 hts) (fun _ h9 => h9) gz0 dX4_setPass_24 ?_
  refine lv_iload_n hx hb dX4_setPass_27 rfl (lv_at hl 4 rfl) ?_
  refine lv_iconst (v := 0) hx hb dX4_setPass_28 (by decide) ?_
  refine z_i (wr := [(s0, .inr (4, [.ref cW, .int r10, .int ch, .int co])), (cW, .inl (kA 0, 11, .inl cF)), (w0, .inr (9, [.ref tnodes, .ref tpasses, .ref tjars, .ref torders, .ref tfeasts, .ref tway, .int tws, .int tnow, .int tfm, .int tx])), (tpasses, .inr (6, [.int 5, .ref tpassesA, .int tpassesS])), (tpassesA, .inl (kA 0, 100, .inl tpassesF))]) (va_runV (As := [.int p1, .int 0]) (rest := [.ref s0]) ⟨hx, hb, hml, hown, hts⟩ (mX6_get_48 l dC dI kA _ tnodes tnodesA 4 tnodesS tnodesF p1 0) (cwV 2 hts gX4_setPass_X6_get rfl rfl rfl ⟨rfl, hdX6_get⟩ ⟨(Nat.le_of_ble_eq_true rfl), (Nat.le_of_ble_eq_true rfl)⟩) ⟨zPc.blind, va_recv (q := (RX6, TX6, 3)) hK.1 hP (ci := 6) (q0 := 5) rfl rfl, zPre hK (hP.sub [5, 6] rfl) (hD.sub [5, 6] (by decide) rfl)⟩ rfl rfl hl.1 rfl (lv_room (Nat.le_of_ble_eq_true rfl)) dX4_setPass_29 ⟨(Nat.le_of_ble_eq_true rfl), (Nat.le_of_ble_eq_true rfl)⟩) hP hD hS hA [5, 6] [0, 1, 2, 3, 4] rfl rfl (by decide) (by decide) (fun r17 u15 H locs hw16 hP hD hS => ?_)
  obtain ⟨er20, hp19⟩ := hw16
  have er20 : r17 = u15 := er20
  subst er20
  have er17 : r17 = fX6_get_48 4 tnodesF p1 0 := hp19
  have hG := zbnd hG er17
  obtain ⟨hP, hD⟩ := z_re (L := [(s0, .inr (4, [.ref cW, .int r10, .int ch, .int co])), (cW, .inl (kA 0, 11, .inl cF)), (w0, .inr (9, [.ref tnodes, .ref tpasses, .ref tjars, .ref torders, .ref tfeasts, .ref tway, .int tws, .int tnow, .int tfm, .int tx])), (tpasses, .inr (6, [.int 5, .ref tpassesA, .int tpassesS])), (tpassesA, .inl (kA 0, 100, .inl tpassesF)), (tnodes, .inr (6, [.int 4, .ref tnodesA, .int tnodesS])), (tnodesA, .inl (kA 0, 48, .inl tnodesF))]) hP hD
  refine va_put (D := (dC, dI)) (ci := 4) (v := .int r17) (ty := .int) (C := RX4) (T := TX4) (N := 4) hx hb hts iX4_setPass_X4 tyX4 tyX4_ok nmX4 hown hK.1 hP hD hS 0 gz0 vcz4 2 (by decide) (kX4_setPass_3 hts) (fun _ h9 => h9) rfl pfdI rfl rfl (Nat.le_of_ble_eq_true rfl) dX4_setPass_32 (fun H locs hP hD hS => ?_)
  obtain ⟨hP, hD⟩ := z_re (L := [(s0, .inr (4, [.ref cW, .int r10, .int r17, .int co])), (cW, .inl (kA 0, 11, .inl cF)), (w0, .inr (9, [.ref tnodes, .ref tpasses, .ref tjars, .ref torders, .ref tfeasts, .ref tway, .int tws, .int tnow, .int tfm, .int tx])), (tpasses, .inr (6, [.int 5, .ref tpassesA, .int tpassesS])), (tpassesA, .inl (kA 0, 100, .inl tpassesF)), (tnodes, .inr (6, [.int 4, .ref tnodesA, .int tnodesS])), (tnodesA, .inl (kA 0, 48, .inl tnodesF))]) hP hD
  refine lv_aload_n hx hb dX4_setPass_35 rfl (lv_at hl 1 rfl) ?_
  refine lv_aload_n hx hb dX4_setPass_36 rfl (lv_at hl 2 rfl) ?_
  refine va_get (D := (dC, dI)) (ci := 9) (v := .ref tpasses) (C := RX9) (T := TX9) (N := 10) hx hb hts iX4_setPass_X9 hown hK.1 hP 2 gz2 vcz9 1 (by decide) (kX4_setPass_4 hts) (fun _ h9 => h9) gz1 dX4_setPass_37 ?_
  refine lv_iload_n hx hb dX4_setPass_40 rfl (lv_at hl 3 rfl) ?_
  refine lv_iconst (v := 2) hx hb dX4_setPass_41 (by decide) ?_
  refine z_i (wr := [(s0, .inr (4, [.ref cW, .int r10, .int r17, .int co])), (cW, .inl (kA 0, 11, .inl cF)), (w0, .inr (9, [.ref tnodes, .ref tpasses, .ref tjars, .ref torders, .ref tfeasts, .ref tway, .int tws, .int tnow, .int tfm, .int tx])), (tnodes, .inr (6, [.int 4, .ref tnodesA, .int tnodesS])), (tnodesA, .inl (kA 0, 48, .inl tnodesF))]) (va_runV (As := [.int p0, .int 2]) (rest := [.ref s0]) ⟨hx, hb, hml, hown, hts⟩ (mX6_get_100 l dC dI kA _ tpasses tpassesA 5 tpassesS tpassesF p0 2) (cwV 2 hts gX4_setPass_X6_get rfl rfl rfl ⟨rfl, hdX6_get⟩ ⟨(Nat.le_of_ble_eq_true rfl), (Nat.le_of_ble_eq_true rfl)⟩) ⟨zPc.blind, va_recv (q := (RX6, TX6, 3)) hK.1 hP (ci := 6) (q0 := 3) rfl rfl, zPre hK (hP.sub [3, 4] rfl) (hD.sub [3, 4] (by decide) rfl)⟩ rfl rfl hl.1 rfl (lv_room (Nat.le_of_ble_eq_true rfl)) dX4_setPass_42 ⟨(Nat.le_of_ble_eq_true rfl), (Nat.le_of_ble_eq_true rfl)⟩) hP hD hS hA [3, 4] [0, 1, 2, 5, 6] rfl rfl (by decide) (by decide) (fun r24 u22 H locs hw23 hP hD hS => ?_)
  obtain ⟨er27, hp26⟩ := hw23
  have er27 : r24 = u22 := er27
  subst er27
  have er24 : r24 = fX6_get_100 5 tpassesF p0 2 := hp26
  have hG := zbnd hG er24
  obtain ⟨hP, hD⟩ := z_re (L := [(s0, .inr (4, [.ref cW, .int r10, .int r17, .int co])), (cW, .inl (kA 0, 11, .inl cF)), (w0, .inr (9, [.ref tnodes, .ref tpasses, .ref tjars, .ref torders, .ref tfeasts, .ref tway, .int tws, .int tnow, .int tfm, .int tx])), (tnodes, .inr (6, [.int 4, .ref tnodesA, .int tnodesS])), (tnodesA, .inl (kA 0, 48, .inl tnodesF)), (tpasses, .inr (6, [.int 5, .ref tpassesA, .int tpassesS])), (tpassesA, .inl (kA 0, 100, .inl tpassesF))]) hP hD
  refine va_put (D := (dC, dI)) (ci := 4) (v := .int r24) (ty := .int) (C := RX4) (T := TX4) (N := 4) hx hb hts iX4_setPass_X4 tyX4 tyX4_ok nmX4 hown hK.1 hP hD hS 0 gz0 vcz4 3 (by decide) (kX4_setPass_5 hts) (fun _ h9 => h9) rfl pfdI rfl rfl (Nat.le_of_ble_eq_true rfl) dX4_setPass_45 (fun H locs hP hD hS => ?_)
  obtain ⟨hP, hD⟩ := z_re (L := [(s0, .inr (4, [.ref cW, .int r10, .int r17, .int r24])), (cW, .inl (kA 0, 11, .inl cF)), (w0, .inr (9, [.ref tnodes, .ref tpasses, .ref tjars, .ref torders, .ref tfeasts, .ref tway, .int tws, .int tnow, .int tfm, .int tx])), (tnodes, .inr (6, [.int 4, .ref tnodesA, .int tnodesS])), (tnodesA, .inl (kA 0, 48, .inl tnodesF)), (tpasses, .inr (6, [.int 5, .ref tpassesA, .int tpassesS])), (tpassesA, .inl (kA 0, 100, .inl tpassesF))]) hP hD
  refine lv_aload_n hx hb dX4_setPass_48 rfl (lv_at hl 1 rfl) ?_
  refine va_get (D := (dC, dI)) (ci := 4) (v := .ref cW) (C := RX4) (T := TX4) (N := 4) hx hb hts iX4_setPass_X4 hown hK.1 hP 0 gz0 vcz4 0 (by decide) (kX4_setPass_6 hts) (fun _ h9 => h9) gz0 dX4_setPass_49 ?_
  refine lv_iconst (v := 4) hx hb dX4_setPass_52 (by decide) ?_
  refine lv_aload_n hx hb dX4_setPass_53 rfl (lv_at hl 2 rfl) ?_
  refine va_get (D := (dC, dI)) (ci := 9) (v := .ref tpasses) (C := RX9) (T := TX9) (N := 10) hx hb hts iX4_setPass_X9 hown hK.1 hP 2 gz2 vcz9 1 (by decide) (kX4_setPass_4 hts) (fun _ h9 => h9) gz1 dX4_setPass_54 ?_
  refine lv_iload_n hx hb dX4_setPass_57 rfl (lv_at hl 3 rfl) ?_
  refine lv_iconst (v := 3) hx hb dX4_setPass_58 (by decide) ?_
  refine z_i (wr := [(s0, .inr (4, [.ref cW, .int r10, .int r17, .int r24])), (cW, .inl (kA 0, 11, .inl cF)), (w0, .inr (9, [.ref tnodes, .ref tpasses, .ref tjars, .ref torders, .ref tfeasts, .ref tway, .int tws, .int tnow, .int tfm, .int tx])), (tnodes, .inr (6, [.int 4, .ref tnodesA, .int tnodesS])), (tnodesA, .inl (kA 0, 48, .inl tnodesF))]) (va_runV (As := [.int p0, .int 3]) (rest := [.int 4, .ref cW]) ⟨hx, hb, hml, hown, hts⟩ (mX6_get_100 l dC dI kA _ tpasses tpassesA 5 tpassesS tpassesF p0 3) (cwV 2 hts gX4_setPass_X6_get rfl rfl rfl ⟨rfl, hdX6_get⟩ ⟨(Nat.le_of_ble_eq_true rfl), (Nat.le_of_ble_eq_true rfl)⟩) ⟨zPc.blind, va_recv (q := (RX6, TX6, 3)) hK.1 hP (ci := 6) (q0 := 5) rfl rfl, zPre hK (hP.sub [5, 6] rfl) (hD.sub [5, 6] (by decide) rfl)⟩ rfl rfl hl.1 rfl (lv_room (Nat.le_of_ble_eq_true rfl)) dX4_setPass_59 ⟨(Nat.le_of_ble_eq_true rfl), (Nat.le_of_ble_eq_true rfl)⟩) hP hD hS hA [5, 6] [0, 1, 2, 3, 4] rfl rfl (by decide) (by decide) (fun r31 u29 H locs hw30 hP hD hS => ?_)
  obtain ⟨er34, hp33⟩ := hw30
  have er34 : r31 = u29 := er34
  subst er34
  have er31 : r31 = fX6_get_100 5 tpassesF p0 3 := hp33
  have hG := zbnd hG er31
  obtain ⟨hP, hD⟩ := z_re (L := [(s0, .inr (4, [.ref cW, .int r10, .int r17, .int r24])), (cW, .inl (kA 0, 11, .inl cF)), (w0, .inr (9, [.ref tnodes, .ref tpasses, .ref tjars, .ref torders, .ref tfeasts, .ref tway, .int tws, .int tnow, .int tfm, .int tx])), (tnodes, .inr (6, [.int 4, .ref tnodesA, .int tnodesS])), (tnodesA, .inl (kA 0, 48, .inl tnodesF)), (tpasses, .inr (6, [.int 5, .ref tpassesA, .int tpassesS])), (tpassesA, .inl (kA 0, 100, .inl tpassesF))]) hP hD
  refine va_iast hx hb hK.1 hP hD hS 1 0 gz1 tzz0 (vpd (by decide)) dX4_setPass_62 (fun H locs hP hD hS => ?_)
  obtain ⟨hP, hD⟩ := z_re (L := [(s0, .inr (4, [.ref cW, .int r10, .int r17, .int r24])), (cW, .inl (kA 0, 11, .inl (upd cF (4 : Int32).toNatClampNeg r31))), (w0, .inr (9, [.ref tnodes, .ref tpasses, .ref tjars, .ref torders, .ref tfeasts, .ref tway, .int tws, .int tnow, .int tfm, .int tx])), (tnodes, .inr (6, [.int 4, .ref tnodesA, .int tnodesS])), (tnodesA, .inl (kA 0, 48, .inl tnodesF)), (tpasses, .inr (6, [.int 5, .ref tpassesA, .int tpassesS])), (tpassesA, .inl (kA 0, 100, .inl tpassesF))]) hP hD
  obtain ⟨f36, ef36⟩ : ∃ y : Nat → Int32, y = (upd cF (4 : Int32).toNatClampNeg r31) := ⟨_, rfl⟩
  rw [← ef36] at hP hD
  have hG := zbnd hG ef36
  refine lv_aload_n hx hb dX4_setPass_63 rfl (lv_at hl 1 rfl) ?_
  refine va_get (D := (dC, dI)) (ci := 4) (v := .ref cW) (C := RX4) (T := TX4) (N := 4) hx hb hts iX4_setPass_X4 hown hK.1 hP 0 gz0 vcz4 0 (by decide) (kX4_setPass_6 hts) (fun _ h9 => h9) gz0 dX4_setPass_64 ?_
  refine lv_iconst (v := 5) hx hb dX4_setPass_67 (by decide) ?_
  refine lv_iconst (v := 0) hx hb dX4_setPass_68 (by decide) ?_
  refine va_iast hx hb hK.1 hP hD hS 1 0 gz1 tzz0 (vpd (by decide)) dX4_setPass_69 (fun H locs hP hD hS => ?_)
  obtain ⟨hP, hD⟩ := z_re (L := [(s0, .inr (4, [.ref cW, .int r10, .int r17, .int r24])), (cW, .inl (kA 0, 11, .inl (upd f36 (5 : Int32).toNatClampNeg 0))), (w0, .inr (9, [.ref tnodes, .ref tpasses, .ref tjars, .ref torders, .ref tfeasts, .ref tway, .int tws, .int tnow, .int tfm, .int tx])), (tnodes, .inr (6, [.int 4, .ref tnodesA, .int tnodesS])), (tnodesA, .inl (kA 0, 48, .inl tnodesF)), (tpasses, .inr (6, [.int 5, .ref tpassesA, .int tpassesS])), (tpassesA, .inl (kA 0, 100, .inl tpassesF))]) hP hD
  obtain ⟨f37, ef37⟩ : ∃ y : Nat → Int32, y = (upd f36 (5 : Int32).toNatClampNeg 0) := ⟨_, rfl⟩
  rw [← ef37] at hP hD
  have hG := zbnd hG ef37
  refine lv_aload_n hx hb dX4_setPass_70 rfl (lv_at hl 1 rfl) ?_
  refine va_get (D := (dC, dI)) (ci := 4) (v := .ref cW) (C := RX4) (T := TX4) (N := 4) hx hb hts iX4_setPass_X4 hown hK.1 hP 0 gz0 vcz4 0 (by decide) (kX4_setPass_6 hts) (fun _ h9 => h9) gz0 dX4_setPass_71 ?_
  refine lv_bipush (v := 6) hx hb dX4_setPass_74 (by decide) ?_
  refine lv_bipush (v := 12) hx hb dX4_setPass_76 (by decide) ?_
  refine va_iast hx hb hK.1 hP hD hS 1 0 gz1 tzz0 (vpd (by decide)) dX4_setPass_78 (fun H locs hP hD hS => ?_)
  obtain ⟨hP, hD⟩ := z_re (L := [(s0, .inr (4, [.ref cW, .int r10, .int r17, .int r24])), (cW, .inl (kA 0, 11, .inl (upd f37 (6 : Int32).toNatClampNeg 12))), (w0, .inr (9, [.ref tnodes, .ref tpasses, .ref tjars, .ref torders, .ref tfeasts, .ref tway, .int tws, .int tnow, .int tfm, .int tx])), (tnodes, .inr (6, [.int 4, .ref tnodesA, .int tnodesS])), (tnodesA, .inl (kA 0, 48, .inl tnodesF)), (tpasses, .inr (6, [.int 5, .ref tpassesA, .int tpassesS])), (tpassesA, .inl (kA 0, 100, .inl tpassesF))]) hP hD
  obtain ⟨f38, ef38⟩ : ∃ y : Nat → Int32, y = (upd f37 (6 : Int32).toNatClampNeg 12) := ⟨_, rfl⟩
  rw [← ef38] at hP hD
  have hG := zbnd hG ef38
  obtain ⟨hP9, hD9⟩ := z_sb (L' := [(s0, .inr (4, [.ref cW, .int r10, .int r17, .int r24])), (cW, .inl (kA 0, 11, .inl f38)), (w0, .inr (9, [.ref tnodes, .ref tpasses, .ref tjars, .ref torders, .ref tfeasts, .ref tway, .int tws, .int tnow, .int tfm, .int tx])), (tnodes, .inr (6, [.int 4, .ref tnodesA, .int tnodesS])), (tnodesA, .inl (kA 0, 48, .inl tnodesF)), (tpasses, .inr (6, [.int 5, .ref tpassesA, .int tpassesS])), (tpassesA, .inl (kA 0, 100, .inl tpassesF))]) hP hD [0, 1, 2, 3, 4, 5, 6] (by decide) rfl
  refine W.widen (k := 0) (n := 0) (Nat.le_of_ble_eq_true rfl) (Nat.le_of_ble_eq_true rfl) ?_
  exact W.vret hx hb hr (fun t ht hW => ⟨⟨(r10, r17, r24, f38), rfl, (hG.trans hG0.symm), by rw [ht]; exact hP9, hD9⟩, hS.F ht⟩) hS.2.2 dX4_setPass_79
set_option maxRecDepth 100000 in
def fX4_setGone (cF : Nat → Int32) (cb : Int32) (ch : Int32) (co : Int32) (p0 : Int32) : (Nat → Int32) := bnd (((cb * (co - p0)) + (ch * p0))) (fun (x1 : Int32) => if co ≤ 0 then (bnd ((upd cF (3 : Int32).toNatClampNeg 0)) (fun (f3 : Nat → Int32) => bnd ((upd f3 (10 : Int32).toNatClampNeg p0)) (fun (f4 : Nat → Int32) => f4))) else (bnd ((x1 / co)) (fun (x5 : Int32) => bnd ((upd cF (3 : Int32).toNatClampNeg x5)) (fun (f6 : Nat → Int32) => bnd ((upd f6 (10 : Int32).toNatClampNeg p0)) (fun (f7 : Nat → Int32) => f7)))))
set_option maxHeartbeats 4000000 in
set_option maxRecDepth 100000 in
theorem mX4_setGone (l : Launch) (dC : Nat → ClassId) (dI : Nat → Nat → Nat) (kA : Nat → ClassId) (sz : Nat) (s0 : Nat) (cW : Nat) (cF : Nat → Int32) (cb : Int32) (ch : Int32) (co : Int32) (p0 : Int32)  : Met l yX4_setGone wsX4_setGone ({ frames := 0, cells := 0, slots := 0, locals := 0 }) (zPc dC dI kA sz [.ref s0, .int p0] [(s0, .inr (4, [.ref cW, .int cb, .int ch, .int co])), (cW, .inl (kA 0, 11, .inl cF))]) (va_Qv (fun (u : (Nat → Int32)) => u = fX4_setGone cF cb ch co p0) (zB dC dI (va_A [(s0, .inr (4, [.ref cW, .int cb, .int ch, .int co])), (cW, .inl (kA 0, 11, .inl cF))] sz) (fun (u : (Nat → Int32)) => [(s0, .inr (4, [.ref cW, .int cb, .int ch, .int co])), (cW, .inl (kA 0, 11, .inl u))])) (va_A [(s0, .inr (4, [.ref cW, .int cb, .int ch, .int co])), (cW, .inl (kA 0, 11, .inl cF))] sz)) 0 0 (va_A [(s0, .inr (4, [.ref cW, .int cb, .int ch, .int co])), (cW, .inl (kA 0, 11, .inl cF))] sz) := by
  refine Met.ofW (cc := cX4_setGone) (maxL := 3) (ret := none) pnX4 rfl ?_
  intro p e s m args below meth c s₁ B hml hv
  obtain ⟨rfl, hsz, hP, hK, hD0⟩ := hv
  have hx := B.exec
  have hb := B.bytes
  have hr := B.returns
  have hts := atoms_spec (ws := wsX4_setGone) B.pre
  have hown : s.vm.findClass RX4 = some m.cls := findClass_of_methodNamed B.named
  have hlocks := B.notSynchronized
  subst hsz
  have hD := hD0.self (sz := s.heap.size)
  generalize hAe : va_A [(s0, .inr (4, [.ref cW, .int cb, .int ch, .int co])), (cW, .inl (kA 0, 11, .inl cF))] s.heap.size = A at hD ⊢
  have hA : ∀ q : Nat, s.heap.size ≤ q → A q := zA_of hAe
  have hS : va_S A s.heap s.heap [] := va_S.rf
  have hP : va_P (dC, dI) vwCl [(s0, .inr (4, [.ref cW, .int cb, .int ch, .int co])), (cW, .inl (kA 0, 11, .inl cF))] s.heap := hP
  have hl := lv_entry ([.ref s0, .int p0]) (n := 3) (Nat.le_of_ble_eq_true rfl)
  rw [lg_entry_eq]
  generalize (lg_sl ([.ref s0, .int p0]) ++ List.replicate (3 - (lg_sl ([.ref s0, .int p0])).length) Slot.unset).toArray = ls at hl ⊢
  have hl : lv_has ls 3 [(0, .ref s0), (1, .int p0)] := hl
  obtain ⟨G, hG0⟩ : ∃ G : (Nat → Int32), fX4_setGone cF cb ch co p0 = G := ⟨_, rfl⟩
  have hG := hG0
  unfold fX4_setGone at hG
  refine lv_aload_n hx hb dX4_setGone_0 rfl (lv_at hl 0 rfl) ?_
  refine va_get (D := (dC, dI)) (ci := 4) (v := .int cb) (C := RX4) (T := TX4) (N := 4) hx hb hts iX4_setGone_X4 hown hK.1 hP 0 gz0 vcz4 1 (by decide) (kX4_setGone_1 hts) (fun _ h9 => h9) gz1 dX4_setGone_1 ?_
  refine lv_aload_n hx hb dX4_setGone_4 rfl (lv_at hl 0 rfl) ?_
  refine va_get (D := (dC, dI)) (ci := 4) (v := .int co) (C := RX4) (T := TX4) (N := 4) hx hb hts iX4_setGone_X4 hown hK.1 hP 0 gz0 vcz4 3 (by decide) (kX4_setGone_2 hts) (fun _ h9 => h9) gz3 dX4_setGone_5 ?_
  refine lv_iload_n hx hb dX4_setGone_8 rfl (lv_at hl 1 rfl) ?_
  refine lv_isub hx hb dX4_setGone_9 ?_
  refine lv_imul hx hb dX4_setGone_10 ?_
  refine lv_aload_n hx hb dX4_setGone_11 rfl (lv_at hl 0 rfl) ?_
  refine va_get (D := (dC, dI)) (ci := 4) (v := .int ch) (C := RX4) (T := TX4) (N := 4) hx hb hts iX4_setGone_X4 hown hK.1 hP 0 gz0 vcz4 2 (by decide) (kX4_setGone_3 hts) (fun _ h9 => h9) gz2 dX4_setGone_12 ?_
  refine lv_iload_n hx hb dX4_setGone_15 rfl (lv_at hl 1 rfl) ?_
  refine lv_imul hx hb dX4_setGone_16 ?_
  refine lv_iadd hx hb dX4_setGone_17 ?_
  refine lv_topi (fun x1 ex1 => ?_)
  have hG := zbnd hG ex1
  refine lv_istore_n (lv' := [(2, .int x1), (0, .ref s0), (1, .int p0)]) hx hb dX4_setGone_18 rfl hl (by decide) rfl (fun ls hl => ?_)
  refine lv_aload_n hx hb dX4_setGone_19 rfl (lv_at hl 1 rfl) ?_
  refine va_get (D := (dC, dI)) (ci := 4) (v := .ref cW) (C := RX4) (T := TX4) (N := 4) hx hb hts iX4_setGone_X4 hown hK.1 hP 0 gz0 vcz4 0 (by decide) (kX4_setGone_4 hts) (fun _ h9 => h9) gz0 dX4_setGone_20 ?_
  refine lv_iconst (v := 3) hx hb dX4_setGone_23 (by decide) ?_
  refine lv_aload_n hx hb dX4_setGone_24 rfl (lv_at hl 1 rfl) ?_
  refine va_get (D := (dC, dI)) (ci := 4) (v := .int co) (C := RX4) (T := TX4) (N := 4) hx hb hts iX4_setGone_X4 hown hK.1 hP 0 gz0 vcz4 3 (by decide) (kX4_setGone_2 hts) (fun _ h9 => h9) gz3 dX4_setGone_25 ?_
  refine lv_if_le (tgt := 40) hx hb dX4_setGone_28 (by decide) (fun c_2 => ?_) (fun c_2 => ?_)
  · have hG := zthen hG c_2
    refine lv_iconst (v := 0) hx hb dX4_setGone_40 (by decide) ?_
    refine va_iast hx hb hK.1 hP hD hS 1 0 gz1 tzz0 (vpd (by decide)) dX4_setGone_41 (fun H locs hP hD hS => ?_)
    obtain ⟨hP, hD⟩ := z_re (L := [(s0, .inr (4, [.ref cW, .int cb, .int ch, .int co])), (cW, .inl (kA 0, 11, .inl (upd cF (3 : Int32).toNatClampNeg 0)))]) hP hD
    obtain ⟨f3, ef3⟩ : ∃ y : Nat → Int32, y = (upd cF (3 : Int32).toNatClampNeg 0) := ⟨_, rfl⟩
    rw [← ef3] at hP hD
    have hG := zbnd hG ef3
    refine lv_aload_n hx hb dX4_setGone_42 rfl (lv_at hl 1 rfl) ?_
    refine va_get (D := (dC, dI)) (ci := 4) (v := .ref cW) (C := RX4) (T := TX4) (N := 4) hx hb hts iX4_setGone_X4 hown hK.1 hP 0 gz0 vcz4 0 (by decide) (kX4_setGone_4 hts) (fun _ h9 => h9) gz0 dX4_setGone_43 ?_
    refine lv_bipush (v := 10) hx hb dX4_setGone_46 (by decide) ?_
    refine lv_iload_n hx hb dX4_setGone_48 rfl (lv_at hl 2 rfl) ?_
    refine va_iast hx hb hK.1 hP hD hS 1 0 gz1 tzz0 (vpd (by decide)) dX4_setGone_49 (fun H locs hP hD hS => ?_)
    obtain ⟨hP, hD⟩ := z_re (L := [(s0, .inr (4, [.ref cW, .int cb, .int ch, .int co])), (cW, .inl (kA 0, 11, .inl (upd f3 (10 : Int32).toNatClampNeg p0)))]) hP hD
    obtain ⟨f4, ef4⟩ : ∃ y : Nat → Int32, y = (upd f3 (10 : Int32).toNatClampNeg p0) := ⟨_, rfl⟩
    rw [← ef4] at hP hD
    have hG := zbnd hG ef4
    obtain ⟨hP9, hD9⟩ := z_sb (L' := [(s0, .inr (4, [.ref cW, .int cb, .int ch, .int co])), (cW, .inl (kA 0, 11, .inl f4))]) hP hD [0, 1] (by decide) rfl
    refine W.widen (k := 0) (n := 0) (Nat.le_of_ble_eq_true rfl) (Nat.le_of_ble_eq_true rfl) ?_
    exact W.vret hx hb hr (fun t ht hW => ⟨⟨(f4), rfl, (hG.trans hG0.symm), by rw [ht]; exact hP9, hD9⟩, hS.F ht⟩) hS.2.2 dX4_setGone_50
  · have hG := zelse hG c_2
    refine lv_iload_n hx hb dX4_setGone_31 rfl (lv_at hl 0 rfl) ?_
    refine lv_aload_n hx hb dX4_setGone_32 rfl (lv_at hl 1 rfl) ?_
    refine va_get (D := (dC, dI)) (ci := 4) (v := .int co) (C := RX4) (T := TX4) (N := 4) hx hb hts iX4_setGone_X4 hown hK.1 hP 0 gz0 vcz4 3 (by decide) (kX4_setGone_2 hts) (fun _ h9 => h9) gz3 dX4_setGone_33 ?_
    refine lv_idiv hx hb dX4_setGone_36 (z_nz c_2) ?_
    refine lv_topi (fun x5 ex5 => ?_)
    have hG := zbnd hG ex5
    refine lv_goto (tgt := 41) hx hb dX4_setGone_37 (by decide) ?_
    refine va_iast hx hb hK.1 hP hD hS 1 0 gz1 tzz0 (vpd (by decide)) dX4_setGone_41 (fun H locs hP hD hS => ?_)
    obtain ⟨hP, hD⟩ := z_re (L := [(s0, .inr (4, [.ref cW, .int cb, .int ch, .int co])), (cW, .inl (kA 0, 11, .inl (upd cF (3 : Int32).toNatClampNeg x5)))]) hP hD
    obtain ⟨f6, ef6⟩ : ∃ y : Nat → Int32, y = (upd cF (3 : Int32).toNatClampNeg x5) := ⟨_, rfl⟩
    rw [← ef6] at hP hD
    have hG := zbnd hG ef6
    refine lv_aload_n hx hb dX4_setGone_42 rfl (lv_at hl 1 rfl) ?_
    refine va_get (D := (dC, dI)) (ci := 4) (v := .ref cW) (C := RX4) (T := TX4) (N := 4) hx hb hts iX4_setGone_X4 hown hK.1 hP 0 gz0 vcz4 0 (by decide) (kX4_setGone_4 hts) (fun _ h9 => h9) gz0 dX4_setGone_43 ?_
    refine lv_bipush (v := 10) hx hb dX4_setGone_46 (by decide) ?_
    refine lv_iload_n hx hb dX4_setGone_48 rfl (lv_at hl 2 rfl) ?_
    refine va_iast hx hb hK.1 hP hD hS 1 0 gz1 tzz0 (vpd (by decide)) dX4_setGone_49 (fun H locs hP hD hS => ?_)
    obtain ⟨hP, hD⟩ := z_re (L := [(s0, .inr (4, [.ref cW, .int cb, .int ch, .int co])), (cW, .inl (kA 0, 11, .inl (upd f6 (10 : Int32).toNatClampNeg p0)))]) hP hD
    obtain ⟨f7, ef7⟩ : ∃ y : Nat → Int32, y = (upd f6 (10 : Int32).toNatClampNeg p0) := ⟨_, rfl⟩
    rw [← ef7] at hP hD
    have hG := zbnd hG ef7
    obtain ⟨hP9, hD9⟩ := z_sb (L' := [(s0, .inr (4, [.ref cW, .int cb, .int ch, .int co])), (cW, .inl (kA 0, 11, .inl f7))]) hP hD [0, 1] (by decide) rfl
    refine W.widen (k := 0) (n := 0) (Nat.le_of_ble_eq_true rfl) (Nat.le_of_ble_eq_true rfl) ?_
    exact W.vret hx hb hr (fun t ht hW => ⟨⟨(f7), rfl, (hG.trans hG0.symm), by rw [ht]; exact hP9, hD9⟩, hS.F ht⟩) hS.2.2 dX4_setGone_50
set_option maxRecDepth 100000 in
def fX4_setLoad (cF : Nat → Int32) (p0 : Int32) (p1 : Int32) (p2 : Int32) : (Nat → Int32) := bnd ((upd cF (7 : Int32).toNatClampNeg p0)) (fun (f1 : Nat → Int32) => bnd ((upd f1 (8 : Int32).toNatClampNeg p1)) (fun (f2 : Nat → Int32) => bnd ((upd f2 (9 : Int32).toNatClampNeg p2)) (fun (f3 : Nat → Int32) => f3)))
set_option maxHeartbeats 4000000 in
set_option maxRecDepth 100000 in
theorem mX4_setLoad (l : Launch) (dC : Nat → ClassId) (dI : Nat → Nat → Nat) (kA : Nat → ClassId) (sz : Nat) (s0 : Nat) (cW : Nat) (cF : Nat → Int32) (cb : Int32) (ch : Int32) (co : Int32) (p0 : Int32) (p1 : Int32) (p2 : Int32)  : Met l yX4_setLoad wsX4_setLoad ({ frames := 0, cells := 0, slots := 0, locals := 0 }) (zPc dC dI kA sz [.ref s0, .int p0, .int p1, .int p2] [(s0, .inr (4, [.ref cW, .int cb, .int ch, .int co])), (cW, .inl (kA 0, 11, .inl cF))]) (va_Qv (fun (u : (Nat → Int32)) => u = fX4_setLoad cF p0 p1 p2) (zB dC dI (va_A [(s0, .inr (4, [.ref cW, .int cb, .int ch, .int co])), (cW, .inl (kA 0, 11, .inl cF))] sz) (fun (u : (Nat → Int32)) => [(s0, .inr (4, [.ref cW, .int cb, .int ch, .int co])), (cW, .inl (kA 0, 11, .inl u))])) (va_A [(s0, .inr (4, [.ref cW, .int cb, .int ch, .int co])), (cW, .inl (kA 0, 11, .inl cF))] sz)) 0 0 (va_A [(s0, .inr (4, [.ref cW, .int cb, .int ch, .int co])), (cW, .inl (kA 0, 11, .inl cF))] sz) := by
  refine Met.ofW (cc := cX4_setLoad) (maxL := 4) (ret := none) pnX4 rfl ?_
  intro p e s m args below meth c s₁ B hml hv
  obtain ⟨rfl, hsz, hP, hK, hD0⟩ := hv
  have hx := B.exec
  have hb := B.bytes
  have hr := B.returns
  have hts := atoms_spec (ws := wsX4_setLoad) B.pre
  have hown : s.vm.findClass RX4 = some m.cls := findClass_of_methodNamed B.named
  have hlocks := B.notSynchronized
  subst hsz
  have hD := hD0.self (sz := s.heap.size)
  generalize hAe : va_A [(s0, .inr (4, [.ref cW, .int cb, .int ch, .int co])), (cW, .inl (kA 0, 11, .inl cF))] s.heap.size = A at hD ⊢
  have hA : ∀ q : Nat, s.heap.size ≤ q → A q := zA_of hAe
  have hS : va_S A s.heap s.heap [] := va_S.rf
  have hP : va_P (dC, dI) vwCl [(s0, .inr (4, [.ref cW, .int cb, .int ch, .int co])), (cW, .inl (kA 0, 11, .inl cF))] s.heap := hP
  have hl := lv_entry ([.ref s0, .int p0, .int p1, .int p2]) (n := 4) (Nat.le_of_ble_eq_true rfl)
  rw [lg_entry_eq]
  generalize (lg_sl ([.ref s0, .int p0, .int p1, .int p2]) ++ List.replicate (4 - (lg_sl ([.ref s0, .int p0, .int p1, .int p2])).length) Slot.unset).toArray = ls at hl ⊢
  have hl : lv_has ls 4 [(0, .ref s0), (1, .int p0), (2, .int p1), (3, .int p2)] := hl
  obtain ⟨G, hG0⟩ : ∃ G : (Nat → Int32), fX4_setLoad cF p0 p1 p2 = G := ⟨_, rfl⟩
  have hG := hG0
  unfold fX4_setLoad at hG
  refine lv_aload_n hx hb dX4_setLoad_0 rfl (lv_at hl 0 rfl) ?_
  refine va_get (D := (dC, dI)) (ci := 4) (v := .ref cW) (C := RX4) (T := TX4) (N := 4) hx hb hts iX4_setLoad_X4 hown hK.1 hP 0 gz0 vcz4 0 (by decide) (kX4_setLoad_1 hts) (fun _ h9 => h9) gz0 dX4_setLoad_1 ?_
  refine lv_bipush (v := 7) hx hb dX4_setLoad_4 (by decide) ?_
  refine lv_iload_n hx hb dX4_setLoad_6 rfl (lv_at hl 1 rfl) ?_
  refine va_iast hx hb hK.1 hP hD hS 1 0 gz1 tzz0 (vpd (by decide)) dX4_setLoad_7 (fun H locs hP hD hS => ?_)
  obtain ⟨hP, hD⟩ := z_re (L := [(s0, .inr (4, [.ref cW, .int cb, .int ch, .int co])), (cW, .inl (kA 0, 11, .inl (upd cF (7 : Int32).toNatClampNeg p0)))]) hP hD
  obtain ⟨f1, ef1⟩ : ∃ y : Nat → Int32, y = (upd cF (7 : Int32).toNatClampNeg p0) := ⟨_, rfl⟩
  rw [← ef1] at hP hD
  have hG := zbnd hG ef1
  refine lv_aload_n hx hb dX4_setLoad_8 rfl (lv_at hl 0 rfl) ?_
  refine va_get (D := (dC, dI)) (ci := 4) (v := .ref cW) (C := RX4) (T := TX4) (N := 4) hx hb hts iX4_setLoad_X4 hown hK.1 hP 0 gz0 vcz4 0 (by decide) (kX4_setLoad_1 hts) (fun _ h9 => h9) gz0 dX4_setLoad_9 ?_
  refine lv_bipush (v := 8) hx hb dX4_setLoad_12 (by decide) ?_
  refine lv_iload_n hx hb dX4_setLoad_14 rfl (lv_at hl 2 rfl) ?_
  refine va_iast hx hb hK.1 hP hD hS 1 0 gz1 tzz0 (vpd (by decide)) dX4_setLoad_15 (fun H locs hP hD hS => ?_)
  obtain ⟨hP, hD⟩ := z_re (L := [(s0, .inr (4, [.ref cW, .int cb, .int ch, .int co])), (cW, .inl (kA 0, 11, .inl (upd f1 (8 : Int32).toNatClampNeg p1)))]) hP hD
  obtain ⟨f2, ef2⟩ : ∃ y : Nat → Int32, y = (upd f1 (8 : Int32).toNatClampNeg p1) := ⟨_, rfl⟩
  rw [← ef2] at hP hD
  have hG := zbnd hG ef2
  refine lv_aload_n hx hb dX4_setLoad_16 rfl (lv_at hl 0 rfl) ?_
  refine va_get (D := (dC, dI)) (ci := 4) (v := .ref cW) (C := RX4) (T := TX4) (N := 4) hx hb hts iX4_setLoad_X4 hown hK.1 hP 0 gz0 vcz4 0 (by decide) (kX4_setLoad_1 hts) (fun _ h9 => h9) gz0 dX4_setLoad_17 ?_
  refine lv_bipush (v := 9) hx hb dX4_setLoad_20 (by decide) ?_
  refine lv_iload_n hx hb dX4_setLoad_22 rfl (lv_at hl 3 rfl) ?_
  refine va_iast hx hb hK.1 hP hD hS 1 0 gz1 tzz0 (vpd (by decide)) dX4_setLoad_23 (fun H locs hP hD hS => ?_)
  obtain ⟨hP, hD⟩ := z_re (L := [(s0, .inr (4, [.ref cW, .int cb, .int ch, .int co])), (cW, .inl (kA 0, 11, .inl (upd f2 (9 : Int32).toNatClampNeg p2)))]) hP hD
  obtain ⟨f3, ef3⟩ : ∃ y : Nat → Int32, y = (upd f2 (9 : Int32).toNatClampNeg p2) := ⟨_, rfl⟩
  rw [← ef3] at hP hD
  have hG := zbnd hG ef3
  obtain ⟨hP9, hD9⟩ := z_sb (L' := [(s0, .inr (4, [.ref cW, .int cb, .int ch, .int co])), (cW, .inl (kA 0, 11, .inl f3))]) hP hD [0, 1] (by decide) rfl
  refine W.widen (k := 0) (n := 0) (Nat.le_of_ble_eq_true rfl) (Nat.le_of_ble_eq_true rfl) ?_
  exact W.vret hx hb hr (fun t ht hW => ⟨⟨(f3), rfl, (hG.trans hG0.symm), by rw [ht]; exact hP9, hD9⟩, hS.F ht⟩) hS.2.2 dX4_setLoad_24
