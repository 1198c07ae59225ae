def ixX1_init : List Nat := [10, 11, 18, 79, 80, 81, 82, 83, 84, 85, 86, 87, 88, 89, 90, 91, 92, 1411, 1412, 1413, 1414, 1415, 1416, 1417, 1418, 1419, 1420, 1421, 1422, 1423, 1424, 1425, 1426, 1427]
def wsX1_init : List Cond := .code yX1_init cX1_init 1 none :: ixX1_init.map wt
def ixX6_init : List Nat := [10, 11, 18, 61, 62, 63, 64, 65, 66, 67, 68, 1457, 1458, 1459]
def wsX6_init : List Cond := .code yX6_init cX6_init 3 none :: ixX6_init.map wt
def ixX9_init : List Nat := [10, 11, 18, 47, 48, 49, 50, 51, 52, 53, 54, 55, 56, 57, 58, 59, 60, 61, 62, 63, 64, 65, 66, 67, 68, 1457, 1458, 1459, 1476, 1477, 1478, 1479, 1480, 1481, 1482, 1483, 1484, 1485]
def wsX9_init : List Cond := .code yX9_init cX9_init 1 none :: ixX9_init.map wt
theorem ggX9_init_X6_init : GoodIn wsX9_init wsX6_init := gi_ (A := ixX9_init) (B := ixX6_init) wt61 (by decide +kernel)
theorem gX9_init_X6_init : GoodIn wsX9_init (wsX6_init) := ggX9_init_X6_init
theorem fsX6 : ∀ j, j < 3 → defaultValue (tyX6 j) = vp_V [.int 0, .null, .int 0] j := by decide +kernel
theorem kX6_init_1 {a : Array Value} {s : State} (hts : ∀ w ∈ wsX6_init, w.before a s = true) : (.methodLink RX6 3 objectInit : Cond).before a s = true := kw (A := ixX6_init) wt62 hts (by decide +kernel)
theorem kX6_init_2 {a : Array Value} {s : State} (hts : ∀ w ∈ wsX6_init, w.before a s = true) : (.instanceMethod objectInit : Cond).before a s = true := kw (A := ixX6_init) wt10 hts (by decide +kernel)
theorem kX6_init_3 {a : Array Value} {s : State} (hts : ∀ w ∈ wsX6_init, w.before a s = true) : (.code objectInit ⟨#[0xb1]⟩ 1 none : Cond).before a s = true := kw (A := ixX6_init) wt11 hts (by decide +kernel)
theorem kX6_init_4 {a : Array Value} {s : State} (hts : ∀ w ∈ wsX6_init, w.before a s = true) : (.fieldLink RX6 9 "SnowMules$Table" "width" "I" : Cond).before a s = true := kw (A := ixX6_init) wt63 hts (by decide +kernel)
theorem kX6_init_5 {a : Array Value} {s : State} (hts : ∀ w ∈ wsX6_init, w.before a s = true) : (.methodLink RX6 15 Lib.Math.max.name : Cond).before a s = true := kw (A := ixX6_init) wt64 hts (by decide +kernel)
theorem kX6_init_6 {a : Array Value} {s : State} (hts : ∀ w ∈ wsX6_init, w.before a s = true) : (.static Lib.Math.max.name : Cond).before a s = true := kw (A := ixX6_init) wt65 hts (by decide +kernel)
theorem kX6_init_7 {a : Array Value} {s : State} (hts : ∀ w ∈ wsX6_init, w.before a s = true) : (.initialized "java/lang/Math" : Cond).before a s = true := kw (A := ixX6_init) wt66 hts (by decide +kernel)
theorem kX6_init_8 {a : Array Value} {s : State} (hts : ∀ w ∈ wsX6_init, w.before a s = true) : (.code Lib.Math.max.name Lib.Math.max.code 2 (some .int) : Cond).before a s = true := kw (A := ixX6_init) wt67 hts (by decide +kernel)
theorem kX6_init_9 {a : Array Value} {s : State} (hts : ∀ w ∈ wsX6_init, w.before a s = true) : (.arrayClass .int : Cond).before a s = true := kw (A := ixX6_init) wt18 hts (by decide +kernel)
theorem kX6_init_10 {a : Array Value} {s : State} (hts : ∀ w ∈ wsX6_init, w.before a s = true) : (.fieldLink RX6 21 "SnowMules$Table" "cells" "[I" : Cond).before a s = true := kw (A := ixX6_init) wt68 hts (by decide +kernel)
theorem kX9_init_1 {a : Array Value} {s : State} (hts : ∀ w ∈ wsX9_init, w.before a s = true) : (.methodLink RX9 3 objectInit : Cond).before a s = true := kw (A := ixX9_init) wt48 hts (by decide +kernel)
theorem kX9_init_2 {a : Array Value} {s : State} (hts : ∀ w ∈ wsX9_init, w.before a s = true) : (.instanceMethod objectInit : Cond).before a s = true := kw (A := ixX9_init) wt10 hts (by decide +kernel)
theorem kX9_init_3 {a : Array Value} {s : State} (hts : ∀ w ∈ wsX9_init, w.before a s = true) : (.code objectInit ⟨#[0xb1]⟩ 1 none : Cond).before a s = true := kw (A := ixX9_init) wt11 hts (by decide +kernel)
theorem kX9_init_4 {a : Array Value} {s : State} (hts : ∀ w ∈ wsX9_init, w.before a s = true) : (.classLink RX9 9 RX6 : Cond).before a s = true := kw (A := ixX9_init) wt49 hts (by decide +kernel)
theorem kX9_init_5 {a : Array Value} {s : State} (hts : ∀ w ∈ wsX9_init, w.before a s = true) : (.instantiable RX6 3 : Cond).before a s = true := kw (A := ixX9_init) wt50 hts (by decide +kernel)
theorem kX9_init_6 {a : Array Value} {s : State} (hts : ∀ w ∈ wsX9_init, w.before a s = true) : (.initialized RX6 : Cond).before a s = true := kw (A := ixX9_init) wt51 hts (by decide +kernel)
theorem kX9_init_14 {a : Array Value} {s : State} (hts : ∀ w ∈ wsX9_init, w.before a s = true) : (.methodLink RX9 11 yX6_init : Cond).before a s = true := kw (A := ixX9_init) wt59 hts (by decide +kernel)
theorem kX9_init_15 {a : Array Value} {s : State} (hts : ∀ w ∈ wsX9_init, w.before a s = true) : (.instanceMethod yX6_init : Cond).before a s = true := kw (A := ixX9_init) wt60 hts (by decide +kernel)
theorem kX9_init_7 {a : Array Value} {s : State} (hts : ∀ w ∈ wsX9_init, w.before a s = true) : (.fieldLink RX9 14 "SnowMules$World" "nodes" "LSnowMules$Table;" : Cond).before a s = true := kw (A := ixX9_init) wt52 hts (by decide +kernel)
theorem kX9_init_8 {a : Array Value} {s : State} (hts : ∀ w ∈ wsX9_init, w.before a s = true) : (.fieldLink RX9 20 "SnowMules$World" "passes" "LSnowMules$Table;" : Cond).before a s = true := kw (A := ixX9_init) wt53 hts (by decide +kernel)
theorem kX9_init_9 {a : Array Value} {s : State} (hts : ∀ w ∈ wsX9_init, w.before a s = true) : (.fieldLink RX9 23 "SnowMules$World" "jars" "LSnowMules$Table;" : Cond).before a s = true := kw (A := ixX9_init) wt54 hts (by decide +kernel)
theorem kX9_init_10 {a : Array Value} {s : State} (hts : ∀ w ∈ wsX9_init, w.before a s = true) : (.fieldLink RX9 26 "SnowMules$World" "orders" "LSnowMules$Table;" : Cond).before a s = true := kw (A := ixX9_init) wt55 hts (by decide +kernel)
theorem kX9_init_11 {a : Array Value} {s : State} (hts : ∀ w ∈ wsX9_init, w.before a s = true) : (.fieldLink RX9 29 "SnowMules$World" "feasts" "LSnowMules$Table;" : Cond).before a s = true := kw (A := ixX9_init) wt56 hts (by decide +kernel)
theorem kX9_init_12 {a : Array Value} {s : State} (hts : ∀ w ∈ wsX9_init, w.before a s = true) : (.fieldLink RX9 32 "SnowMules$World" "way" "LSnowMules$Table;" : Cond).before a s = true := kw (A := ixX9_init) wt57 hts (by decide +kernel)
theorem kX9_init_13 {a : Array Value} {s : State} (hts : ∀ w ∈ wsX9_init, w.before a s = true) : (.fieldLink RX9 35 "SnowMules$World" "wayStart" "I" : Cond).before a s = true := kw (A := ixX9_init) wt58 hts (by decide +kernel)
theorem kX1_init_1 {a : Array Value} {s : State} (hts : ∀ w ∈ wsX1_init, w.before a s = true) : (.methodLink RX1 1 objectInit : Cond).before a s = true := kw (A := ixX1_init) wt80 hts (by decide +kernel)
theorem kX1_init_2 {a : Array Value} {s : State} (hts : ∀ w ∈ wsX1_init, w.before a s = true) : (.instanceMethod objectInit : Cond).before a s = true := kw (A := ixX1_init) wt10 hts (by decide +kernel)
theorem kX1_init_3 {a : Array Value} {s : State} (hts : ∀ w ∈ wsX1_init, w.before a s = true) : (.code objectInit ⟨#[0xb1]⟩ 1 none : Cond).before a s = true := kw (A := ixX1_init) wt11 hts (by decide +kernel)
theorem kX1_init_4 {a : Array Value} {s : State} (hts : ∀ w ∈ wsX1_init, w.before a s = true) : (.arrayClass .int : Cond).before a s = true := kw (A := ixX1_init) wt18 hts (by decide +kernel)
theorem kX1_init_5 {a : Array Value} {s : State} (hts : ∀ w ∈ wsX1_init, w.before a s = true) : (.fieldLink RX1 9 "SnowMules$Law" "sorts" "[I" : Cond).before a s = true := kw (A := ixX1_init) wt81 hts (by decide +kernel)
theorem kX1_init_6 {a : Array Value} {s : State} (hts : ∀ w ∈ wsX1_init, w.before a s = true) : (.fieldLink RX1 13 "SnowMules$Law" "sumStarts" "[I" : Cond).before a s = true := kw (A := ixX1_init) wt82 hts (by decide +kernel)
theorem kX1_init_7 {a : Array Value} {s : State} (hts : ∀ w ∈ wsX1_init, w.before a s = true) : (.fieldLink RX1 16 "SnowMules$Law" "sumStops" "[I" : Cond).before a s = true := kw (A := ixX1_init) wt83 hts (by decide +kernel)
theorem kX1_init_8 {a : Array Value} {s : State} (hts : ∀ w ∈ wsX1_init, w.before a s = true) : (.fieldLink RX1 19 "SnowMules$Law" "testStarts" "[I" : Cond).before a s = true := kw (A := ixX1_init) wt84 hts (by decide +kernel)
theorem kX1_init_9 {a : Array Value} {s : State} (hts : ∀ w ∈ wsX1_init, w.before a s = true) : (.fieldLink RX1 22 "SnowMules$Law" "testStops" "[I" : Cond).before a s = true := kw (A := ixX1_init) wt85 hts (by decide +kernel)
theorem kX1_init_10 {a : Array Value} {s : State} (hts : ∀ w ∈ wsX1_init, w.before a s = true) : (.fieldLink RX1 25 "SnowMules$Law" "joins" "[I" : Cond).before a s = true := kw (A := ixX1_init) wt86 hts (by decide +kernel)
theorem kX1_init_11 {a : Array Value} {s : State} (hts : ∀ w ∈ wsX1_init, w.before a s = true) : (.fieldLink RX1 28 "SnowMules$Law" "operands" "[I" : Cond).before a s = true := kw (A := ixX1_init) wt87 hts (by decide +kernel)
theorem kX1_init_12 {a : Array Value} {s : State} (hts : ∀ w ∈ wsX1_init, w.before a s = true) : (.fieldLink RX1 31 "SnowMules$Law" "factStarts" "[I" : Cond).before a s = true := kw (A := ixX1_init) wt88 hts (by decide +kernel)
theorem kX1_init_13 {a : Array Value} {s : State} (hts : ∀ w ∈ wsX1_init, w.before a s = true) : (.fieldLink RX1 34 "SnowMules$Law" "factMiddles" "[I" : Cond).before a s = true := kw (A := ixX1_init) wt89 hts (by decide +kernel)
theorem kX1_init_14 {a : Array Value} {s : State} (hts : ∀ w ∈ wsX1_init, w.before a s = true) : (.fieldLink RX1 37 "SnowMules$Law" "factStops" "[I" : Cond).before a s = true := kw (A := ixX1_init) wt90 hts (by decide +kernel)
theorem kX1_init_15 {a : Array Value} {s : State} (hts : ∀ w ∈ wsX1_init, w.before a s = true) : (.fieldLink RX1 40 "SnowMules$Law" "signs" "[I" : Cond).before a s = true := kw (A := ixX1_init) wt91 hts (by decide +kernel)
theorem kX1_init_16 {a : Array Value} {s : State} (hts : ∀ w ∈ wsX1_init, w.before a s = true) : (.fieldLink RX1 43 "SnowMules$Law" "tests" "[I" : Cond).before a s = true := kw (A := ixX1_init) wt92 hts (by decide +kernel)
theorem iX6_init_X6 : ∀ w ∈ wsX60, w ∈ wsX6_init := inW (A := ixX6_init) uwX6 (by decide +kernel)
theorem iX9_init_X6 : ∀ w ∈ wsX60, w ∈ wsX9_init := inW (A := ixX9_init) uwX6 (by decide +kernel)
theorem iX9_init_X9 : ∀ w ∈ wsX90, w ∈ wsX9_init := inW (A := ixX9_init) uwX9 (by decide +kernel)
theorem iX1_init_X1 : ∀ w ∈ wsX10, w ∈ wsX1_init := inW (A := ixX1_init) uwX1 (by decide +kernel)
theorem hdX6_init : yX6_init.cls ≠ "java/lang/invoke/MethodHandle" ∧ yX6_init.cls ≠ "java/lang/invoke/VarHandle" ∧ (parseMethodDescriptor yX6_init.desc).map (fun d => d.parameters.length) = some 2 := ⟨hdc_1.1, hdc_1.2, hdd_18⟩
def dtX6_init_42_0 : List (Nat × Jvm.ClassFile.Instr × Nat) := [(0, .aload_n 0, 1), (1, .invokespecial 3, 3), (4, .aload_n 0, 1), (5, .iload_n 2, 1), (6, .putfield 9, 3), (9, .aload_n 0, 1), (10, .iconst 0, 1), (11, .iload_n 1, 1), (12, .iload_n 2, 1), (13, .imul, 1), (14, .invokestatic 15, 3), (17, .newarray .int, 2), (19, .putfield 21, 3), (22, .return_, 1)]
theorem daX6_init_42_0 : dtX6_init_42_0.all (dqd cX6_init) = true := by decide +kernel
theorem dX6_init_0 : decode cX6_init 0 = .ok (.aload_n 0, 1) := dq daX6_init_42_0 0 rfl
theorem dX6_init_1 : decode cX6_init 1 = .ok (.invokespecial 3, 3) := dq daX6_init_42_0 1 rfl
theorem dX6_init_4 : decode cX6_init 4 = .ok (.aload_n 0, 1) := dq daX6_init_42_0 2 rfl
theorem dX6_init_5 : decode cX6_init 5 = .ok (.iload_n 2, 1) := dq daX6_init_42_0 3 rfl
theorem dX6_init_6 : decode cX6_init 6 = .ok (.putfield 9, 3) := dq daX6_init_42_0 4 rfl
theorem dX6_init_9 : decode cX6_init 9 = .ok (.aload_n 0, 1) := dq daX6_init_42_0 5 rfl
theorem dX6_init_10 : decode cX6_init 10 = .ok (.iconst 0, 1) := dq daX6_init_42_0 6 rfl
theorem dX6_init_11 : decode cX6_init 11 = .ok (.iload_n 1, 1) := dq daX6_init_42_0 7 rfl
theorem dX6_init_12 : decode cX6_init 12 = .ok (.iload_n 2, 1) := dq daX6_init_42_0 8 rfl
theorem dX6_init_13 : decode cX6_init 13 = .ok (.imul, 1) := dq daX6_init_42_0 9 rfl
theorem dX6_init_14 : decode cX6_init 14 = .ok (.invokestatic 15, 3) := dq daX6_init_42_0 10 rfl
theorem dX6_init_17 : decode cX6_init 17 = .ok (.newarray .int, 2) := dq daX6_init_42_0 11 rfl
theorem dX6_init_19 : decode cX6_init 19 = .ok (.putfield 21, 3) := dq daX6_init_42_0 12 rfl
theorem dX6_init_22 : decode cX6_init 22 = .ok (.return_, 1) := dq daX6_init_42_0 13 rfl
def dtX9_init_42_0 : List (Nat × Jvm.ClassFile.Instr × Nat) := [(0, .aload_n 0, 1), (1, .invokespecial 3, 3), (4, .aload_n 0, 1), (5, .new 9, 3), (8, .dup, 1), (9, .bipush 12, 2), (11, .iconst 4, 1), (12, .invokespecial 11, 3), (15, .putfield 14, 3), (18, .aload_n 0, 1), (19, .new 9, 3), (22, .dup, 1), (23, .bipush 20, 2), (25, .iconst 5, 1), (26, .invokespecial 11, 3), (29, .putfield 20, 3), (32, .aload_n 0, 1), (33, .new 9, 3), (36, .dup, 1), (37, .bipush 16, 2), (39, .bipush 9, 2), (41, .invokespecial 11, 3), (44, .putfield 23, 3), (47, .aload_n 0, 1), (48, .new 9, 3), (51, .dup, 1), (52, .bipush 6, 2), (54, .iconst 4, 1), (55, .invokespecial 11, 3), (58, .putfield 26, 3), (61, .aload_n 0, 1), (62, .new 9, 3)]
theorem daX9_init_42_0 : dtX9_init_42_0.all (dqd cX9_init) = true := by decide +kernel
theorem dX9_init_0 : decode cX9_init 0 = .ok (.aload_n 0, 1) := dq daX9_init_42_0 0 rfl
theorem dX9_init_1 : decode cX9_init 1 = .ok (.invokespecial 3, 3) := dq daX9_init_42_0 1 rfl
theorem dX9_init_4 : decode cX9_init 4 = .ok (.aload_n 0, 1) := dq daX9_init_42_0 2 rfl
theorem dX9_init_5 : decode cX9_init 5 = .ok (.new 9, 3) := dq daX9_init_42_0 3 rfl
theorem dX9_init_8 : decode cX9_init 8 = .ok (.dup, 1) := dq daX9_init_42_0 4 rfl
theorem dX9_init_9 : decode cX9_init 9 = .ok (.bipush 12, 2) := dq daX9_init_42_0 5 rfl
theorem dX9_init_11 : decode cX9_init 11 = .ok (.iconst 4, 1) := dq daX9_init_42_0 6 rfl
theorem dX9_init_12 : decode cX9_init 12 = .ok (.invokespecial 11, 3) := dq daX9_init_42_0 7 rfl
theorem dX9_init_15 : decode cX9_init 15 = .ok (.putfield 14, 3) := dq daX9_init_42_0 8 rfl
theorem dX9_init_18 : decode cX9_init 18 = .ok (.aload_n 0, 1) := dq daX9_init_42_0 9 rfl
theorem dX9_init_19 : decode cX9_init 19 = .ok (.new 9, 3) := dq daX9_init_42_0 10 rfl
theorem dX9_init_22 : decode cX9_init 22 = .ok (.dup, 1) := dq daX9_init_42_0 11 rfl
theorem dX9_init_23 : decode cX9_init 23 = .ok (.bipush 20, 2) := dq daX9_init_42_0 12 rfl
theorem dX9_init_25 : decode cX9_init 25 = .ok (.iconst 5, 1) := dq daX9_init_42_0 13 rfl
theorem dX9_init_26 : decode cX9_init 26 = .ok (.invokespecial 11, 3) := dq daX9_init_42_0 14 rfl
theorem dX9_init_29 : decode cX9_init 29 = .ok (.putfield 20, 3) := dq daX9_init_42_0 15 rfl
theorem dX9_init_32 : decode cX9_init 32 = .ok (.aload_n 0, 1) := dq daX9_init_42_0 16 rfl
theorem dX9_init_33 : decode cX9_init 33 = .ok (.new 9, 3) := dq daX9_init_42_0 17 rfl
theorem dX9_init_36 : decode cX9_init 36 = .ok (.dup, 1) := dq daX9_init_42_0 18 rfl
theorem dX9_init_37 : decode cX9_init 37 = .ok (.bipush 16, 2) := dq daX9_init_42_0 19 rfl
theorem dX9_init_39 : decode cX9_init 39 = .ok (.bipush 9, 2) := dq daX9_init_42_0 20 rfl
theorem dX9_init_41 : decode cX9_init 41 = .ok (.invokespecial 11, 3) := dq daX9_init_42_0 21 rfl
theorem dX9_init_44 : decode cX9_init 44 = .ok (.putfield 23, 3) := dq daX9_init_42_0 22 rfl
theorem dX9_init_47 : decode cX9_init 47 = .ok (.aload_n 0, 1) := dq daX9_init_42_0 23 rfl
theorem dX9_init_48 : decode cX9_init 48 = .ok (.new 9, 3) := dq daX9_init_42_0 24 rfl
theorem dX9_init_51 : decode cX9_init 51 = .ok (.dup, 1) := dq daX9_init_42_0 25 rfl
theorem dX9_init_52 : decode cX9_init 52 = .ok (.bipush 6, 2) := dq daX9_init_42_0 26 rfl
theorem dX9_init_54 : decode cX9_init 54 = .ok (.iconst 4, 1) := dq daX9_init_42_0 27 rfl
theorem dX9_init_55 : decode cX9_init 55 = .ok (.invokespecial 11, 3) := dq daX9_init_42_0 28 rfl
theorem dX9_init_58 : decode cX9_init 58 = .ok (.putfield 26, 3) := dq daX9_init_42_0 29 rfl
theorem dX9_init_61 : decode cX9_init 61 = .ok (.aload_n 0, 1) := dq daX9_init_42_0 30 rfl
theorem dX9_init_62 : decode cX9_init 62 = .ok (.new 9, 3) := dq daX9_init_42_0 31 rfl
def dtX9_init_42_1 : List (Nat × Jvm.ClassFile.Instr × Nat) := [(65, .dup, 1), (66, .bipush 8, 2), (68, .iconst 3, 1), (69, .invokespecial 11, 3), (72, .putfield 29, 3), (75, .aload_n 0, 1), (76, .new 9, 3), (79, .dup, 1), (80, .bipush 6, 2), (82, .iconst 1, 1), (83, .invokespecial 11, 3), (86, .putfield 32, 3), (89, .aload_n 0, 1), (90, .iconst (-1), 1), (91, .putfield 35, 3), (94, .return_, 1)]
theorem daX9_init_42_1 : dtX9_init_42_1.all (dqd cX9_init) = true := by decide +kernel
theorem dX9_init_65 : decode cX9_init 65 = .ok (.dup, 1) := dq daX9_init_42_1 0 rfl
theorem dX9_init_66 : decode cX9_init 66 = .ok (.bipush 8, 2) := dq daX9_init_42_1 1 rfl
theorem dX9_init_68 : decode cX9_init 68 = .ok (.iconst 3, 1) := dq daX9_init_42_1 2 rfl
theorem dX9_init_69 : decode cX9_init 69 = .ok (.invokespecial 11, 3) := dq daX9_init_42_1 3 rfl
theorem dX9_init_72 : decode cX9_init 72 = .ok (.putfield 29, 3) := dq daX9_init_42_1 4 rfl
theorem dX9_init_75 : decode cX9_init 75 = .ok (.aload_n 0, 1) := dq daX9_init_42_1 5 rfl
theorem dX9_init_76 : decode cX9_init 76 = .ok (.new 9, 3) := dq daX9_init_42_1 6 rfl
theorem dX9_init_79 : decode cX9_init 79 = .ok (.dup, 1) := dq daX9_init_42_1 7 rfl
theorem dX9_init_80 : decode cX9_init 80 = .ok (.bipush 6, 2) := dq daX9_init_42_1 8 rfl
theorem dX9_init_82 : decode cX9_init 82 = .ok (.iconst 1, 1) := dq daX9_init_42_1 9 rfl
theorem dX9_init_83 : decode cX9_init 83 = .ok (.invokespecial 11, 3) := dq daX9_init_42_1 10 rfl
theorem dX9_init_86 : decode cX9_init 86 = .ok (.putfield 32, 3) := dq daX9_init_42_1 11 rfl
theorem dX9_init_89 : decode cX9_init 89 = .ok (.aload_n 0, 1) := dq daX9_init_42_1 12 rfl
theorem dX9_init_90 : decode cX9_init 90 = .ok (.iconst (-1), 1) := dq daX9_init_42_1 13 rfl
theorem dX9_init_91 : decode cX9_init 91 = .ok (.putfield 35, 3) := dq daX9_init_42_1 14 rfl
theorem dX9_init_94 : decode cX9_init 94 = .ok (.return_, 1) := dq daX9_init_42_1 15 rfl
def dtX1_init_42_0 : List (Nat × Jvm.ClassFile.Instr × Nat) := [(0, .aload_n 0, 1), (1, .invokespecial 1, 3), (4, .aload_n 0, 1), (5, .bipush 12, 2), (7, .newarray .int, 2), (9, .putfield 9, 3), (12, .aload_n 0, 1), (13, .bipush 12, 2), (15, .newarray .int, 2), (17, .putfield 13, 3), (20, .aload_n 0, 1), (21, .bipush 12, 2), (23, .newarray .int, 2), (25, .putfield 16, 3), (28, .aload_n 0, 1), (29, .bipush 12, 2), (31, .newarray .int, 2), (33, .putfield 19, 3), (36, .aload_n 0, 1), (37, .bipush 12, 2), (39, .newarray .int, 2), (41, .putfield 22, 3), (44, .aload_n 0, 1), (45, .bipush 60, 2), (47, .newarray .int, 2), (49, .putfield 25, 3), (52, .aload_n 0, 1), (53, .bipush 60, 2), (55, .newarray .int, 2), (57, .putfield 28, 3), (60, .aload_n 0, 1), (61, .bipush 20, 2)]
theorem daX1_init_42_0 : dtX1_init_42_0.all (dqd cX1_init) = true := by decide +kernel
theorem dX1_init_0 : decode cX1_init 0 = .ok (.aload_n 0, 1) := dq daX1_init_42_0 0 rfl
theorem dX1_init_1 : decode cX1_init 1 = .ok (.invokespecial 1, 3) := dq daX1_init_42_0 1 rfl
theorem dX1_init_4 : decode cX1_init 4 = .ok (.aload_n 0, 1) := dq daX1_init_42_0 2 rfl
theorem dX1_init_5 : decode cX1_init 5 = .ok (.bipush 12, 2) := dq daX1_init_42_0 3 rfl
theorem dX1_init_7 : decode cX1_init 7 = .ok (.newarray .int, 2) := dq daX1_init_42_0 4 rfl
theorem dX1_init_9 : decode cX1_init 9 = .ok (.putfield 9, 3) := dq daX1_init_42_0 5 rfl
theorem dX1_init_12 : decode cX1_init 12 = .ok (.aload_n 0, 1) := dq daX1_init_42_0 6 rfl
theorem dX1_init_13 : decode cX1_init 13 = .ok (.bipush 12, 2) := dq daX1_init_42_0 7 rfl
theorem dX1_init_15 : decode cX1_init 15 = .ok (.newarray .int, 2) := dq daX1_init_42_0 8 rfl
theorem dX1_init_17 : decode cX1_init 17 = .ok (.putfield 13, 3) := dq daX1_init_42_0 9 rfl
theorem dX1_init_20 : decode cX1_init 20 = .ok (.aload_n 0, 1) := dq daX1_init_42_0 10 rfl
theorem dX1_init_21 : decode cX1_init 21 = .ok (.bipush 12, 2) := dq daX1_init_42_0 11 rfl
theorem dX1_init_23 : decode cX1_init 23 = .ok (.newarray .int, 2) := dq daX1_init_42_0 12 rfl
theorem dX1_init_25 : decode cX1_init 25 = .ok (.putfield 16, 3) := dq daX1_init_42_0 13 rfl
theorem dX1_init_28 : decode cX1_init 28 = .ok (.aload_n 0, 1) := dq daX1_init_42_0 14 rfl
theorem dX1_init_29 : decode cX1_init 29 = .ok (.bipush 12, 2) := dq daX1_init_42_0 15 rfl
theorem dX1_init_31 : decode cX1_init 31 = .ok (.newarray .int, 2) := dq daX1_init_42_0 16 rfl
theorem dX1_init_33 : decode cX1_init 33 = .ok (.putfield 19, 3) := dq daX1_init_42_0 17 rfl
theorem dX1_init_36 : decode cX1_init 36 = .ok (.aload_n 0, 1) := dq daX1_init_42_0 18 rfl
theorem dX1_init_37 : decode cX1_init 37 = .ok (.bipush 12, 2) := dq daX1_init_42_0 19 rfl
theorem dX1_init_39 : decode cX1_init 39 = .ok (.newarray .int, 2) := dq daX1_init_42_0 20 rfl
theorem dX1_init_41 : decode cX1_init 41 = .ok (.putfield 22, 3) := dq daX1_init_42_0 21 rfl
theorem dX1_init_44 : decode cX1_init 44 = .ok (.aload_n 0, 1) := dq daX1_init_42_0 22 rfl
theorem dX1_init_45 : decode cX1_init 45 = .ok (.bipush 60, 2) := dq daX1_init_42_0 23 rfl
theorem dX1_init_47 : decode cX1_init 47 = .ok (.newarray .int, 2) := dq daX1_init_42_0 24 rfl
theorem dX1_init_49 : decode cX1_init 49 = .ok (.putfield 25, 3) := dq daX1_init_42_0 25 rfl
theorem dX1_init_52 : decode cX1_init 52 = .ok (.aload_n 0, 1) := dq daX1_init_42_0 26 rfl
theorem dX1_init_53 : decode cX1_init 53 = .ok (.bipush 60, 2) := dq daX1_init_42_0 27 rfl
theorem dX1_init_55 : decode cX1_init 55 = .ok (.newarray .int, 2) := dq daX1_init_42_0 28 rfl
theorem dX1_init_57 : decode cX1_init 57 = .ok (.putfield 28, 3) := dq daX1_init_42_0 29 rfl
theorem dX1_init_60 : decode cX1_init 60 = .ok (.aload_n 0, 1) := dq daX1_init_42_0 30 rfl
theorem dX1_init_61 : decode cX1_init 61 = .ok (.bipush 20, 2) := dq daX1_init_42_0 31 rfl
def dtX1_init_42_1 : List (Nat × Jvm.ClassFile.Instr × Nat) := [(63, .newarray .int, 2), (65, .putfield 31, 3), (68, .aload_n 0, 1), (69, .bipush 20, 2), (71, .newarray .int, 2), (73, .putfield 34, 3), (76, .aload_n 0, 1), (77, .bipush 20, 2), (79, .newarray .int, 2), (81, .putfield 37, 3), (84, .aload_n 0, 1), (85, .bipush 20, 2), (87, .newarray .int, 2), (89, .putfield 40, 3), (92, .aload_n 0, 1), (93, .sipush 256, 3), (96, .newarray .int, 2), (98, .putfield 43, 3), (101, .return_, 1)]
theorem daX1_init_42_1 : dtX1_init_42_1.all (dqd cX1_init) = true := by decide +kernel
theorem dX1_init_63 : decode cX1_init 63 = .ok (.newarray .int, 2) := dq daX1_init_42_1 0 rfl
theorem dX1_init_65 : decode cX1_init 65 = .ok (.putfield 31, 3) := dq daX1_init_42_1 1 rfl
theorem dX1_init_68 : decode cX1_init 68 = .ok (.aload_n 0, 1) := dq daX1_init_42_1 2 rfl
theorem dX1_init_69 : decode cX1_init 69 = .ok (.bipush 20, 2) := dq daX1_init_42_1 3 rfl
theorem dX1_init_71 : decode cX1_init 71 = .ok (.newarray .int, 2) := dq daX1_init_42_1 4 rfl
theorem dX1_init_73 : decode cX1_init 73 = .ok (.putfield 34, 3) := dq daX1_init_42_1 5 rfl
theorem dX1_init_76 : decode cX1_init 76 = .ok (.aload_n 0, 1) := dq daX1_init_42_1 6 rfl
theorem dX1_init_77 : decode cX1_init 77 = .ok (.bipush 20, 2) := dq daX1_init_42_1 7 rfl
theorem dX1_init_79 : decode cX1_init 79 = .ok (.newarray .int, 2) := dq daX1_init_42_1 8 rfl
theorem dX1_init_81 : decode cX1_init 81 = .ok (.putfield 37, 3) := dq daX1_init_42_1 9 rfl
theorem dX1_init_84 : decode cX1_init 84 = .ok (.aload_n 0, 1) := dq daX1_init_42_1 10 rfl
theorem dX1_init_85 : decode cX1_init 85 = .ok (.bipush 20, 2) := dq daX1_init_42_1 11 rfl
theorem dX1_init_87 : decode cX1_init 87 = .ok (.newarray .int, 2) := dq daX1_init_42_1 12 rfl
theorem dX1_init_89 : decode cX1_init 89 = .ok (.putfield 40, 3) := dq daX1_init_42_1 13 rfl
theorem dX1_init_92 : decode cX1_init 92 = .ok (.aload_n 0, 1) := dq daX1_init_42_1 14 rfl
theorem dX1_init_93 : decode cX1_init 93 = .ok (.sipush 256, 3) := dq daX1_init_42_1 15 rfl
theorem dX1_init_96 : decode cX1_init 96 = .ok (.newarray .int, 2) := dq daX1_init_42_1 16 rfl
theorem dX1_init_98 : decode cX1_init 98 = .ok (.putfield 43, 3) := dq daX1_init_42_1 17 rfl
theorem dX1_init_101 : decode cX1_init 101 = .ok (.return_, 1) := dq daX1_init_42_1 18 rfl
set_option maxHeartbeats 4000000 in
set_option maxRecDepth 100000 in
theorem mX6_init_12_4 (l : Launch) (dC : Nat → ClassId) (dI : Nat → Nat → Nat) (kA : Nat → ClassId) (sz : Nat) (a0 : Nat)  : Met l yX6_init wsX6_init ({ frames := 1, cells := 1, slots := 48, locals := 14 }) (zPc dC dI kA sz [.ref a0, .int 12, .int 4] [(a0, .inr (6, [.int 0, .null, .int 0]))]) (va_Qv (fun (u : Nat) => True) (zB dC dI (va_A [(a0, .inr (6, [.int 0, .null, .int 0]))] sz) (fun (u : Nat) => [(a0, .inr (6, [.int 4, .ref u, .int 0])), (u, .inl (kA 0, 48, .inl (fun _ => 0)))])) (va_A [(a0, .inr (6, [.int 0, .null, .int 0]))] sz)) 1 48 (va_A [(a0, .inr (6, [.int 0, .null, .int 0]))] sz) := by
  refine Met.ofW (cc := cX6_init) (maxL := 3) (ret := none) pnX6 rfl ?_
  intro p e s m args below meth c s₁ B hml hv
  obtain ⟨rfl, hsz, hP, hK, hD0⟩ := hv
  have hx := B.exec
  have hb := B.bytes
  have hr := B.returns
  have hts := atoms_spec (ws := wsX6_init) B.pre
  have hown : s.vm.findClass RX6 = some m.cls := findClass_of_methodNamed B.named
  have hlocks := B.notSynchronized
  have hin : meth.name = "<init>" := (name_of_methodNamed B.named B.method).1
  subst hsz
  have hD := hD0.self (sz := s.heap.size)
  generalize hAe : va_A [(a0, .inr (6, [.int 0, .null, .int 0]))] s.heap.size = A at hD ⊢
  have hA : ∀ q : Nat, s.heap.size ≤ q → A q := zA_of hAe
  have hS : va_S A s.heap s.heap [] := va_S.rf
  have hP : va_P (dC, dI) vwCl [(a0, .inr (6, [.int 0, .null, .int 0]))] s.heap := hP
  have hl := lv_entry ([.ref a0, .int 12, .int 4]) (n := 3) (Nat.le_of_ble_eq_true rfl)
  rw [lg_entry_eq]
  generalize (lg_sl ([.ref a0, .int 12, .int 4]) ++ List.replicate (3 - (lg_sl ([.ref a0, .int 12, .int 4])).length) Slot.unset).toArray = ls at hl ⊢
  have hl : lv_has ls 3 [(0, .ref a0), (1, .int 12), (2, .int 4)] := hl
  refine lv_aload_n hx hb dX6_init_0 rfl (lv_at hl 0 rfl) ?_
  refine W.objInit hx hb hown (kX6_init_1 hts) (kX6_init_2 hts) (kX6_init_3 hts) rfl (by rw [hml]; exact hl.1) rfl dX6_init_1 (Nat.le_of_ble_eq_true rfl) (Nat.le_of_ble_eq_true rfl) ?_
  refine W.eq (g2 := F0 m 4 ls []) rfl ?_
  refine lv_aload_n hx hb dX6_init_4 rfl (lv_at hl 0 rfl) ?_
  refine lv_iload_n hx hb dX6_init_5 rfl (lv_at hl 2 rfl) ?_
  refine va_putF (D := (dC, dI)) (ci := 6) (v := .int 4) (ty := .int) (C := RX6) (T := TX6) (N := 3) hx hb hts iX6_init_X6 tyX6 tyX6_ok nmX6 hown hK.1 hP hD hS 0 rfl rfl 0 (by decide) (kX6_init_4 hts) (fun _ h9 => h9) rfl hin rfl (by decide +kernel) rfl rfl (Nat.le_of_ble_eq_true rfl) dX6_init_6 (fun H locs hP hD hS => ?_)
  obtain ⟨hP, hD⟩ := z_re (L := [(a0, .inr (6, [.int 4, .null, .int 0]))]) hP hD
  refine lv_aload_n hx hb dX6_init_9 rfl (lv_at hl 0 rfl) ?_
  refine lv_iconst (v := 0) hx hb dX6_init_10 (by decide) ?_
  refine lv_iload_n hx hb dX6_init_11 rfl (lv_at hl 1 rfl) ?_
  refine lv_iload_n hx hb dX6_init_12 rfl (lv_at hl 2 rfl) ?_
  refine lv_imul hx hb dX6_init_13 ?_
  refine zi 48 (by decide) ?_
  refine va_mmax hx hb (by rw [hml]; exact hl.1.symm) hown (kX6_init_5 hts) (kX6_init_6 hts) (kX6_init_7 hts) (kX6_init_8 hts) (Nat.le_of_ble_eq_true rfl) (Nat.le_of_ble_eq_true rfl) (Nat.le_of_ble_eq_true rfl) (Nat.le_of_ble_eq_true rfl) dX6_init_14 ?_
  refine zi 48 (by decide) ?_
  refine z_newi hx hb (kX6_init_9 hts) hK hP hD hS hA 48 (by decide) (by decide) (by decide) (Nat.le_of_ble_eq_true rfl) (Nat.le_of_ble_eq_true rfl) dX6_init_17 (fun q1 H hP hD hS => ?_)
  refine W.widen (k := 1) (n := 48) (Nat.le_of_ble_eq_true rfl) (Nat.le_of_ble_eq_true rfl) ?_
  obtain ⟨hP, hD⟩ := z_re (L := [(a0, .inr (6, [.int 4, .null, .int 0])), (q1, .inl (kA 0, 48, .inl (fun _ => 0)))]) hP hD
  refine va_putF (D := (dC, dI)) (ci := 6) (v := .ref q1) (ty := .array (.int)) (C := RX6) (T := TX6) (N := 3) hx hb hts iX6_init_X6 tyX6 tyX6_ok nmX6 hown hK.1 hP hD hS 0 rfl rfl 1 (by decide) (kX6_init_10 hts) (fun _ h9 => h9) rfl hin rfl (by decide +kernel) rfl rfl (Nat.le_of_ble_eq_true rfl) dX6_init_19 (fun H locs hP hD hS => ?_)
  obtain ⟨hP, hD⟩ := z_re (L := [(a0, .inr (6, [.int 4, .ref q1, .int 0])), (q1, .inl (kA 0, 48, .inl (fun _ => 0)))]) hP hD
  obtain ⟨hP9, hD9⟩ := z_sb (L' := [(a0, .inr (6, [.int 4, .ref q1, .int 0])), (q1, .inl (kA 0, 48, .inl (fun _ => 0)))]) hP hD [0, 1] (by decide) rfl
  refine W.widen (k := 1) (n := 48) (Nat.le_of_ble_eq_true rfl) (Nat.le_of_ble_eq_true rfl) ?_
  exact W.vret hx hb hr (fun t ht hW => ⟨⟨(q1), rfl, trivial, by rw [ht]; exact hP9, hD9⟩, hS.F ht⟩) hS.2.2 dX6_init_22
set_option maxHeartbeats 4000000 in
set_option maxRecDepth 100000 in
theorem mX6_init_20_5 (l : Launch) (dC : Nat → ClassId) (dI : Nat → Nat → Nat) (kA : Nat → ClassId) (sz : Nat) (a0 : Nat)  : Met l yX6_init wsX6_init ({ frames := 1, cells := 1, slots := 100, locals := 14 }) (zPc dC dI kA sz [.ref a0, .int 20, .int 5] [(a0, .inr (6, [.int 0, .null, .int 0]))]) (va_Qv (fun (u : Nat) => True) (zB dC dI (va_A [(a0, .inr (6, [.int 0, .null, .int 0]))] sz) (fun (u : Nat) => [(a0, .inr (6, [.int 5, .ref u, .int 0])), (u, .inl (kA 0, 100, .inl (fun _ => 0)))])) (va_A [(a0, .inr (6, [.int 0, .null, .int 0]))] sz)) 1 100 (va_A [(a0, .inr (6, [.int 0, .null, .int 0]))] sz) := by
  refine Met.ofW (cc := cX6_init) (maxL := 3) (ret := none) pnX6 rfl ?_
  intro p e s m args below meth c s₁ B hml hv
  obtain ⟨rfl, hsz, hP, hK, hD0⟩ := hv
  have hx := B.exec
  have hb := B.bytes
  have hr := B.returns
  have hts := atoms_spec (ws := wsX6_init) B.pre
  have hown : s.vm.findClass RX6 = some m.cls := findClass_of_methodNamed B.named
  have hlocks := B.notSynchronized
  have hin : meth.name = "<init>" := (name_of_methodNamed B.named B.method).1
  subst hsz
  have hD := hD0.self (sz := s.heap.size)
  generalize hAe : va_A [(a0, .inr (6, [.int 0, .null, .int 0]))] s.heap.size = A at hD ⊢
  have hA : ∀ q : Nat, s.heap.size ≤ q → A q := zA_of hAe
  have hS : va_S A s.heap s.heap [] := va_S.rf
  have hP : va_P (dC, dI) vwCl [(a0, .inr (6, [.int 0, .null, .int 0]))] s.heap := hP
  have hl := lv_entry ([.ref a0, .int 20, .int 5]) (n := 3) (Nat.le_of_ble_eq_true rfl)
  rw [lg_entry_eq]
  generalize (lg_sl ([.ref a0, .int 20, .int 5]) ++ List.replicate (3 - (lg_sl ([.ref a0, .int 20, .int 5])).length) Slot.unset).toArray = ls at hl ⊢
  have hl : lv_has ls 3 [(0, .ref a0), (1, .int 20), (2, .int 5)] := hl
  refine lv_aload_n hx hb dX6_init_0 rfl (lv_at hl 0 rfl) ?_
  refine W.objInit hx hb hown (kX6_init_1 hts) (kX6_init_2 hts) (kX6_init_3 hts) rfl (by rw [hml]; exact hl.1) rfl dX6_init_1 (Nat.le_of_ble_eq_true rfl) (Nat.le_of_ble_eq_true rfl) ?_
  refine W.eq (g2 := F0 m 4 ls []) rfl ?_
  refine lv_aload_n hx hb dX6_init_4 rfl (lv_at hl 0 rfl) ?_
  refine lv_iload_n hx hb dX6_init_5 rfl (lv_at hl 2 rfl) ?_
  refine va_putF (D := (dC, dI)) (ci := 6) (v := .int 5) (ty := .int) (C := RX6) (T := TX6) (N := 3) hx hb hts iX6_init_X6 tyX6 tyX6_ok nmX6 hown hK.1 hP hD hS 0 rfl rfl 0 (by decide) (kX6_init_4 hts) (fun _ h9 => h9) rfl hin rfl (by decide +kernel) rfl rfl (Nat.le_of_ble_eq_true rfl) dX6_init_6 (fun H locs hP hD hS => ?_)
  obtain ⟨hP, hD⟩ := z_re (L := [(a0, .inr (6, [.int 5, .null, .int 0]))]) hP hD
  refine lv_aload_n hx hb dX6_init_9 rfl (lv_at hl 0 rfl) ?_
  refine lv_iconst (v := 0) hx hb dX6_init_10 (by decide) ?_
  refine lv_iload_n hx hb dX6_init_11 rfl (lv_at hl 1 rfl) ?_
  refine lv_iload_n hx hb dX6_init_12 rfl (lv_at hl 2 rfl) ?_
  refine lv_imul hx hb dX6_init_13 ?_
  refine zi 100 (by decide) ?_
  refine va_mmax hx hb (by rw [hml]; exact hl.1.symm) hown (kX6_init_5 hts) (kX6_init_6 hts) (kX6_init_7 hts) (kX6_init_8 hts) (Nat.le_of_ble_eq_true rfl) (Nat.le_of_ble_eq_true rfl) (Nat.le_of_ble_eq_true rfl) (Nat.le_of_ble_eq_true rfl) dX6_init_14 ?_
  refine zi 100 (by decide) ?_
  refine z_newi hx hb (kX6_init_9 hts) hK hP hD hS hA 100 (by decide) (by decide) (by decide) (Nat.le_of_ble_eq_true rfl) (Nat.le_of_ble_eq_true rfl) dX6_init_17 (fun q1 H hP hD hS => ?_)
  refine W.widen (k := 1) (n := 100) (Nat.le_of_ble_eq_true rfl) (Nat.le_of_ble_eq_true rfl) ?_
  obtain ⟨hP, hD⟩ := z_re (L := [(a0, .inr (6, [.int 5, .null, .int 0])), (q1, .inl (kA 0, 100, .inl (fun _ => 0)))]) hP hD
  refine va_putF (D := (dC, dI)) (ci := 6) (v := .ref q1) (ty := .array (.int)) (C := RX6) (T := TX6) (N := 3) hx hb hts iX6_init_X6 tyX6 tyX6_ok nmX6 hown hK.1 hP hD hS 0 rfl rfl 1 (by decide) (kX6_init_10 hts) (fun _ h9 => h9) rfl hin rfl (by decide +kernel) rfl rfl (Nat.le_of_ble_eq_true rfl) dX6_init_19 (fun H locs hP hD hS => ?_)
  obtain ⟨hP, hD⟩ := z_re (L := [(a0, .inr (6, [.int 5, .ref q1, .int 0])), (q1, .inl (kA 0, 100, .inl (fun _ => 0)))]) hP hD
  obtain ⟨hP9, hD9⟩ := z_sb (L' := [(a0, .inr (6, [.int 5, .ref q1, .int 0])), (q1, .inl (kA 0, 100, .inl (fun _ => 0)))]) hP hD [0, 1] (by decide) rfl
  refine W.widen (k := 1) (n := 100) (Nat.le_of_ble_eq_true rfl) (Nat.le_of_ble_eq_true rfl) ?_
  exact W.vret hx hb hr (fun t ht hW => ⟨⟨(q1), rfl, trivial, by rw [ht]; exact hP9, hD9⟩, hS.F ht⟩) hS.2.2 dX6_init_22
set_option maxHeartbeats 4000000 in
set_option maxRecDepth 100000 in
theorem mX6_init_16_9 (l : Launch) (dC : Nat → ClassId) (dI : Nat → Nat → Nat) (kA : Nat → ClassId) (sz : Nat) (a0 : Nat)  : Met l yX6_init wsX6_init ({ frames := 1, cells := 1, slots := 144, locals := 14 }) (zPc dC dI kA sz [.ref a0, .int 16, .int 9] [(a0, .inr (6, [.int 0, .null, .int 0]))]) (va_Qv (fun (u : Nat) => True) (zB dC dI (va_A [(a0, .inr (6, [.int 0, .null, .int 0]))] sz) (fun (u : Nat) => [(a0, .inr (6, [.int 9, .ref u, .int 0])), (u, .inl (kA 0, 144, .inl (fun _ => 0)))])) (va_A [(a0, .inr (6, [.int 0, .null, .int 0]))] sz)) 1 144 (va_A [(a0, .inr (6, [.int 0, .null, .int 0]))] sz) := by
  refine Met.ofW (cc := cX6_init) (maxL := 3) (ret := none) pnX6 rfl ?_
  intro p e s m args below meth c s₁ B hml hv
  obtain ⟨rfl, hsz, hP, hK, hD0⟩ := hv
  have hx := B.exec
  have hb := B.bytes
  have hr := B.returns
  have hts := atoms_spec (ws := wsX6_init) B.pre
  have hown : s.vm.findClass RX6 = some m.cls := findClass_of_methodNamed B.named
  have hlocks := B.notSynchronized
  have hin : meth.name = "<init>" := (name_of_methodNamed B.named B.method).1
  subst hsz
  have hD := hD0.self (sz := s.heap.size)
  generalize hAe : va_A [(a0, .inr (6, [.int 0, .null, .int 0]))] s.heap.size = A at hD ⊢
  have hA : ∀ q : Nat, s.heap.size ≤ q → A q := zA_of hAe
  have hS : va_S A s.heap s.heap [] := va_S.rf
  have hP : va_P (dC, dI) vwCl [(a0, .inr (6, [.int 0, .null, .int 0]))] s.heap := hP
  have hl := lv_entry ([.ref a0, .int 16, .int 9]) (n := 3) (Nat.le_of_ble_eq_true rfl)
  rw [lg_entry_eq]
  generalize (lg_sl ([.ref a0, .int 16, .int 9]) ++ List.replicate (3 - (lg_sl ([.ref a0, .int 16, .int 9])).length) Slot.unset).toArray = ls at hl ⊢
  have hl : lv_has ls 3 [(0, .ref a0), (1, .int 16), (2, .int 9)] := hl
  refine lv_aload_n hx hb dX6_init_0 rfl (lv_at hl 0 rfl) ?_
  refine W.objInit hx hb hown (kX6_init_1 hts) (kX6_init_2 hts) (kX6_init_3 hts) rfl (by rw [hml]; exact hl.1) rfl dX6_init_1 (Nat.le_of_ble_eq_true rfl) (Nat.le_of_ble_eq_true rfl) ?_
  refine W.eq (g2 := F0 m 4 ls []) rfl ?_
  refine lv_aload_n hx hb dX6_init_4 rfl (lv_at hl 0 rfl) ?_
  refine lv_iload_n hx hb dX6_init_5 rfl (lv_at hl 2 rfl) ?_
  refine va_putF (D := (dC, dI)) (ci := 6) (v := .int 9) (ty := .int) (C := RX6) (T := TX6) (N := 3) hx hb hts iX6_init_X6 tyX6 tyX6_ok nmX6 hown hK.1 hP hD hS 0 rfl rfl 0 (by decide) (kX6_init_4 hts) (fun _ h9 => h9) rfl hin rfl (by decide +kernel) rfl rfl (Nat.le_of_ble_eq_true rfl) dX6_init_6 (fun H locs hP hD hS => ?_)
  obtain ⟨hP, hD⟩ := z_re (L := [(a0, .inr (6, [.int 9, .null, .int 0]))]) hP hD
  refine lv_aload_n hx hb dX6_init_9 rfl (lv_at hl 0 rfl) ?_
  refine lv_iconst (v := 0) hx hb dX6_init_10 (by decide) ?_
  refine lv_iload_n hx hb dX6_init_11 rfl (lv_at hl 1 rfl) ?_
  refine lv_iload_n hx hb dX6_init_12 rfl (lv_at hl 2 rfl) ?_
  refine lv_imul hx hb dX6_init_13 ?_
  refine zi 144 (by decide) ?_
  refine va_mmax hx hb (by rw [hml]; exact hl.1.symm) hown (kX6_init_5 hts) (kX6_init_6 hts) (kX6_init_7 hts) (kX6_init_8 hts) (Nat.le_of_ble_eq_true rfl) (Nat.le_of_ble_eq_true rfl) (Nat.le_of_ble_eq_true rfl) (Nat.le_of_ble_eq_true rfl) dX6_init_14 ?_
  refine zi 144 (by decide) ?_
  refine z_newi hx hb (kX6_init_9 hts) hK hP hD hS hA 144 (by decide) (by decide) (by decide) (Nat.le_of_ble_eq_true rfl) (Nat.le_of_ble_eq_true rfl) dX6_init_17 (fun q1 H hP hD hS => ?_)
  refine W.widen (k := 1) (n := 144) (Nat.le_of_ble_eq_true rfl) (Nat.le_of_ble_eq_true rfl) ?_
  obtain ⟨hP, hD⟩ := z_re (L := [(a0, .inr (6, [.int 9, .null, .int 0])), (q1, .inl (kA 0, 144, .inl (fun _ => 0)))]) hP hD
  refine va_putF (D := (dC, dI)) (ci := 6) (v := .ref q1) (ty := .array (.int)) (C := RX6) (T := TX6) (N := 3) hx hb hts iX6_init_X6 tyX6 tyX6_ok nmX6 hown hK.1 hP hD hS 0 rfl rfl 1 (by decide) (kX6_init_10 hts) (fun _ h9 => h9) rfl hin rfl (by decide +kernel) rfl rfl (Nat.le_of_ble_eq_true rfl) dX6_init_19 (fun H locs hP hD hS => ?_)
  obtain ⟨hP, hD⟩ := z_re (L := [(a0, .inr (6, [.int 9, .ref q1, .int 0])), (q1, .inl (kA 0, 144, .inl (fun _ => 0)))]) hP hD
  obtain ⟨hP9, hD9⟩ := z_sb (L' := [(a0, .inr (6, [.int 9, .ref q1, .int 0])), (q1, .inl (kA 0, 144, .inl (fun _ => 0)))]) hP hD [0, 1] (by decide) rfl
  refine W.widen (k := 1) (n := 144) (Nat.le_of_ble_eq_true rfl) (Nat.le_of_ble_eq_true rfl) ?_
  exact W.vret hx hb hr (fun t ht hW => ⟨⟨(q1), rfl, trivial, by rw [ht]; exact hP9, hD9⟩, hS.F ht⟩) hS.2.2 dX6_init_22
set_option maxHeartbeats 4000000 in
set_option maxRecDepth 100000 in
theorem mX6_init_6_4 (l : Launch) (dC : Nat → ClassId) (dI : Nat → Nat → Nat) (kA : Nat → ClassId) (sz : Nat) (a0 : Nat)  : Met l yX6_init wsX6_init ({ frames := 1, cells := 1, slots := 24, locals := 14 }) (zPc dC dI kA sz [.ref a0, .int 6, .int 4] [(a0, .inr (6, [.int 0, .null, .int 0]))]) (va_Qv (fun (u : Nat) => True) (zB dC dI (va_A [(a0, .inr (6, [.int 0, .null, .int 0]))] sz) (fun (u : Nat) => [(a0, .inr (6, [.int 4, .ref u, .int 0])), (u, .inl (kA 0, 24, .inl (fun _ => 0)))])) (va_A [(a0, .inr (6, [.int 0, .null, .int 0]))] sz)) 1 24 (va_A [(a0, .inr (6, [.int 0, .null, .int 0]))] sz) := by
  refine Met.ofW (cc := cX6_init) (maxL := 3) (ret := none) pnX6 rfl ?_
  intro p e s m args below meth c s₁ B hml hv
  obtain ⟨rfl, hsz, hP, hK, hD0⟩ := hv
  have hx := B.exec
  have hb := B.bytes
  have hr := B.returns
  have hts := atoms_spec (ws := wsX6_init) B.pre
  have hown : s.vm.findClass RX6 = some m.cls := findClass_of_methodNamed B.named
  have hlocks := B.notSynchronized
  have hin : meth.name = "<init>" := (name_of_methodNamed B.named B.method).1
  subst hsz
  have hD := hD0.self (sz := s.heap.size)
  generalize hAe : va_A [(a0, .inr (6, [.int 0, .null, .int 0]))] s.heap.size = A at hD ⊢
  have hA : ∀ q : Nat, s.heap.size ≤ q → A q := zA_of hAe
  have hS : va_S A s.heap s.heap [] := va_S.rf
  have hP : va_P (dC, dI) vwCl [(a0, .inr (6, [.int 0, .null, .int 0]))] s.heap := hP
  have hl := lv_entry ([.ref a0, .int 6, .int 4]) (n := 3) (Nat.le_of_ble_eq_true rfl)
  rw [lg_entry_eq]
  generalize (lg_sl ([.ref a0, .int 6, .int 4]) ++ List.replicate (3 - (lg_sl ([.ref a0, .int 6, .int 4])).length) Slot.unset).toArray = ls at hl ⊢
  have hl : lv_has ls 3 [(0, .ref a0), (1, .int 6), (2, .int 4)] := hl
  refine lv_aload_n hx hb dX6_init_0 rfl (lv_at hl 0 rfl) ?_
  refine W.objInit hx hb hown (kX6_init_1 hts) (kX6_init_2 hts) (kX6_init_3 hts) rfl (by rw [hml]; exact hl.1) rfl dX6_init_1 (Nat.le_of_ble_eq_true rfl) (Nat.le_of_ble_eq_true rfl) ?_
  refine W.eq (g2 := F0 m 4 ls []) rfl ?_
  refine lv_aload_n hx hb dX6_init_4 rfl (lv_at hl 0 rfl) ?_
  refine lv_iload_n hx hb dX6_init_5 rfl (lv_at hl 2 rfl) ?_
  refine va_putF (D := (dC, dI)) (ci := 6) (v := .int 4) (ty := .int) (C := RX6) (T := TX6) (N := 3) hx hb hts iX6_init_X6 tyX6 tyX6_ok nmX6 hown hK.1 hP hD hS 0 rfl rfl 0 (by decide) (kX6_init_4 hts) (fun _ h9 => h9) rfl hin rfl (by decide +kernel) rfl rfl (Nat.le_of_ble_eq_true rfl) dX6_init_6 (fun H locs hP hD hS => ?_)
  obtain ⟨hP, hD⟩ := z_re (L := [(a0, .inr (6, [.int 4, .null, .int 0]))]) hP hD
  refine lv_aload_n hx hb dX6_init_9 rfl (lv_at hl 0 rfl) ?_
  refine lv_iconst (v := 0) hx hb dX6_init_10 (by decide) ?_
  refine lv_iload_n hx hb dX6_init_11 rfl (lv_at hl 1 rfl) ?_
  refine lv_iload_n hx hb dX6_init_12 rfl (lv_at hl 2 rfl) ?_
  refine lv_imul hx hb dX6_init_13 ?_
  refine zi 24 (by decide) ?_
  refine va_mmax hx hb (by rw [hml]; exact hl.1.symm) hown (kX6_init_5 hts) (kX6_init_6 hts) (kX6_init_7 hts) (kX6_init_8 hts) (Nat.le_of_ble_eq_true rfl) (Nat.le_of_ble_eq_true rfl) (Nat.le_of_ble_eq_true rfl) (Nat.le_of_ble_eq_true rfl) dX6_init_14 ?_
  refine zi 24 (by decide) ?_
  refine z_newi hx hb (kX6_init_9 hts) hK hP hD hS hA 24 (by decide) (by decide) (by decide) (Nat.le_of_ble_eq_true rfl) (Nat.le_of_ble_eq_true rfl) dX6_init_17 (fun q1 H hP hD hS => ?_)
  refine W.widen (k := 1) (n := 24) (Nat.le_of_ble_eq_true rfl) (Nat.le_of_ble_eq_true rfl) ?_
  obtain ⟨hP, hD⟩ := z_re (L := [(a0, .inr (6, [.int 4, .null, .int 0])), (q1, .inl (kA 0, 24, .inl (fun _ => 0)))]) hP hD
  refine va_putF (D := (dC, dI)) (ci := 6) (v := .ref q1) (ty := .array (.int)) (C := RX6) (T := TX6) (N := 3) hx hb hts iX6_init_X6 tyX6 tyX6_ok nmX6 hown hK.1 hP hD hS 0 rfl rfl 1 (by decide) (kX6_init_10 hts) (fun _ h9 => h9) rfl hin rfl (by decide +kernel) rfl rfl (Nat.le_of_ble_eq_true rfl) dX6_init_19 (fun H locs hP hD hS => ?_)
  obtain ⟨hP, hD⟩ := z_re (L := [(a0, .inr (6, [.int 4, .ref q1, .int 0])), (q1, .inl (kA 0, 24, .inl (fun _ => 0)))]) hP hD
  obtain ⟨hP9, hD9⟩ := z_sb (L' := [(a0, .inr (6, [.int 4, .ref q1, .int 0])), (q1, .inl (kA 0, 24, .inl (fun _ => 0)))]) hP hD [0, 1] (by decide) rfl
  refine W.widen (k := 1) (n := 24) (Nat.le_of_ble_eq_true rfl) (Nat.le_of_ble_eq_true rfl) ?_
  exact W.vret hx hb hr (fun t ht hW => ⟨⟨(q1), rfl, trivial, by rw [ht]; exact hP9, hD9⟩, hS.F ht⟩) hS.2.2 dX6_init_22
set_option maxHeartbeats 4000000 in
set_option maxRecDepth 100000 in
theorem mX6_init_8_3 (l : Launch) (dC : Nat → ClassId) (dI : Nat → Nat → Nat) (kA : Nat → ClassId) (sz : Nat) (a0 : Nat)  : Met l yX6_init wsX6_init ({ frames := 1, cells := 1, slots := 24, locals := 14 }) (zPc dC dI kA sz [.ref a0, .int 8, .int 3] [(a0, .inr (6, [.int 0, .null, .int 0]))]) (va_Qv (fun (u : Nat) => True) (zB dC dI (va_A [(a0, .inr (6, [.int 0, .null, .int 0]))] sz) (fun (u : Nat) => [(a0, .inr (6, [.int 3, .ref u, .int 0])), (u, .inl (kA 0, 24, .inl (fun _ => 0)))])) (va_A [(a0, .inr (6, [.int 0, .null, .int 0]))] sz)) 1 24 (va_A [(a0, .inr (6, [.int 0, .null, .int 0]))] sz) := by
  refine Met.ofW (cc := cX6_init) (maxL := 3) (ret := none) pnX6 rfl ?_
  intro p e s m args below meth c s₁ B hml hv
  obtain ⟨rfl, hsz, hP, hK, hD0⟩ := hv
  have hx := B.exec
  have hb := B.bytes
  have hr := B.returns
  have hts := atoms_spec (ws := wsX6_init) B.pre
  have hown : s.vm.findClass RX6 = some m.cls := findClass_of_methodNamed B.named
  have hlocks := B.notSynchronized
  have hin : meth.name = "<init>" := (name_of_methodNamed B.named B.method).1
  subst hsz
  have hD := hD0.self (sz := s.heap.size)
  generalize hAe : va_A [(a0, .inr (6, [.int 0, .null, .int 0]))] s.heap.size = A at hD ⊢
  have hA : ∀ q : Nat, s.heap.size ≤ q → A q := zA_of hAe
  have hS : va_S A s.heap s.heap [] := va_S.rf
  have hP : va_P (dC, dI) vwCl [(a0, .inr (6, [.int 0, .null, .int 0]))] s.heap := hP
  have hl := lv_entry ([.ref a0, .int 8, .int 3]) (n := 3) (Nat.le_of_ble_eq_true rfl)
  rw [lg_entry_eq]
  generalize (lg_sl ([.ref a0, .int 8, .int 3]) ++ List.replicate (3 - (lg_sl ([.ref a0, .int 8, .int 3])).length) Slot.unset).toArray = ls at hl ⊢
  have hl : lv_has ls 3 [(0, .ref a0), (1, .int 8), (2, .int 3)] := hl
  refine lv_aload_n hx hb dX6_init_0 rfl (lv_at hl 0 rfl) ?_
  refine W.objInit hx hb hown (kX6_init_1 hts) (kX6_init_2 hts) (kX6_init_3 hts) rfl (by rw [hml]; exact hl.1) rfl dX6_init_1 (Nat.le_of_ble_eq_true rfl) (Nat.le_of_ble_eq_true rfl) ?_
  refine W.eq (g2 := F0 m 4 ls []) rfl ?_
  refine lv_aload_n hx hb dX6_init_4 rfl (lv_at hl 0 rfl) ?_
  refine lv_iload_n hx hb dX6_init_5 rfl (lv_at hl 2 rfl) ?_
  refine va_putF (D := (dC, dI)) (ci := 6) (v := .int 3) (ty := .int) (C := RX6) (T := TX6) (N := 3) hx hb hts iX6_init_X6 tyX6 tyX6_ok nmX6 hown hK.1 hP hD hS 0 rfl rfl 0 (by decide) (kX6_init_4 hts) (fun _ h9 => h9) rfl hin rfl (by decide +kernel) rfl rfl (Nat.le_of_ble_eq_true rfl) dX6_init_6 (fun H locs hP hD hS => ?_)
  obtain ⟨hP, hD⟩ := z_re (L := [(a0, .inr (6, [.int 3, .null, .int 0]))]) hP hD
  refine lv_aload_n hx hb dX6_init_9 rfl (lv_at hl 0 rfl) ?_
  refine lv_iconst (v := 0) hx hb dX6_init_10 (by decide) ?_
  refine lv_iload_n hx hb dX6_init_11 rfl (lv_at hl 1 rfl) ?_
  refine lv_iload_n hx hb dX6_init_12 rfl (lv_at hl 2 rfl) ?_
  refine lv_imul hx hb dX6_init_13 ?_
  refine zi 24 (by decide) ?_
  refine va_mmax hx hb (by rw [hml]; exact hl.1.symm) hown (kX6_init_5 hts) (kX6_init_6 hts) (kX6_init_7 hts) (kX6_init_8 hts) (Nat.le_of_ble_eq_true rfl) (Nat.le_of_ble_eq_true rfl) (Nat.le_of_ble_eq_true rfl) (Nat.le_of_ble_eq_true rfl) dX6_init_14 ?_
  refine zi 24 (by decide) ?_
  refine z_newi hx hb (kX6_init_9 hts) hK hP hD hS hA 24 (by decide) (by decide) (by decide) (Nat.le_of_ble_eq_true rfl) (Nat.le_of_ble_eq_true rfl) dX6_init_17 (fun q1 H hP hD hS => ?_)
  refine W.widen (k := 1) (n := 24) (Nat.le_of_ble_eq_true rfl) (Nat.le_of_ble_eq_true rfl) ?_
  obtain ⟨hP, hD⟩ := z_re (L := [(a0, .inr (6, [.int 3, .null, .int 0])), (q1, .inl (kA 0, 24, .inl (fun _ => 0)))]) hP hD
  refine va_putF (D := (dC, dI)) (ci := 6) (v := .ref q1) (ty := .array (.int)) (C := RX6) (T := TX6) (N := 3) hx hb hts iX6_init_X6 tyX6 tyX6_ok nmX6 hown hK.1 hP hD hS 0 rfl rfl 1 (by decide) (kX6_init_10 hts) (fun _ h9 => h9) rfl hin rfl (by decide +kernel) rfl rfl (Nat.le_of_ble_eq_true rfl) dX6_init_19 (fun H locs hP hD hS => ?_)
  obtain ⟨hP, hD⟩ := z_re (L := [(a0, .inr (6, [.int 3, .ref q1, .int 0])), (q1, .inl (kA 0, 24, .inl (fun _ => 0)))]) hP hD
  obtain ⟨hP9, hD9⟩ := z_sb (L' := [(a0, .inr (6, [.int 3, .ref q1, .int 0])), (q1, .inl (kA 0, 24, .inl (fun _ => 0)))]) hP hD [0, 1] (by decide) rfl
  refine W.widen (k := 1) (n := 24) (Nat.le_of_ble_eq_true rfl) (Nat.le_of_ble_eq_true rfl) ?_
  exact W.vret hx hb hr (fun t ht hW => ⟨⟨(q1), rfl, trivial, by rw [ht]; exact hP9, hD9⟩, hS.F ht⟩) hS.2.2 dX6_init_22
set_option maxHeartbeats 4000000 in
set_option maxRecDepth 100000 in
theorem mX6_init_6_1 (l : Launch) (dC : Nat → ClassId) (dI : Nat → Nat → Nat) (kA : Nat → ClassId) (sz : Nat) (a0 : Nat)  : Met l yX6_init wsX6_init ({ frames := 1, cells := 1, slots := 6, locals := 14 }) (zPc dC dI kA sz [.ref a0, .int 6, .int 1] [(a0, .inr (6, [.int 0, .null, .int 0]))]) (va_Qv (fun (u : Nat) => True) (zB dC dI (va_A [(a0, .inr (6, [.int 0, .null, .int 0]))] sz) (fun (u : Nat) => [(a0, .inr (6, [.int 1, .ref u, .int 0])), (u, .inl (kA 0, 6, .inl (fun _ => 0)))])) (va_A [(a0, .inr (6, [.int 0, .null, .int 0]))] sz)) 1 6 (va_A [(a0, .inr (6, [.int 0, .null, .int 0]))] sz) := by
  refine Met.ofW (cc := cX6_init) (maxL := 3) (ret := none) pnX6 rfl ?_
  intro p e s m args below meth c s₁ B hml hv
  obtain ⟨rfl, hsz, hP, hK, hD0⟩ := hv
  have hx := B.exec
  have hb := B.bytes
  have hr := B.returns
  have hts := atoms_spec (ws := wsX6_init) B.pre
  have hown : s.vm.findClass RX6 = some m.cls := findClass_of_methodNamed B.named
  have hlocks := B.notSynchronized
  have hin : meth.name = "<init>" := (name_of_methodNamed B.named B.method).1
  subst hsz
  have hD := hD0.self (sz := s.heap.size)
  generalize hAe : va_A [(a0, .inr (6, [.int 0, .null, .int 0]))] s.heap.size = A at hD ⊢
  have hA : ∀ q : Nat, s.heap.size ≤ q → A q := zA_of hAe
  have hS : va_S A s.heap s.heap [] := va_S.rf
  have hP : va_P (dC, dI) vwCl [(a0, .inr (6, [.int 0, .null, .int 0]))] s.heap := hP
  have hl := lv_entry ([.ref a0, .int 6, .int 1]) (n := 3) (Nat.le_of_ble_eq_true rfl)
  rw [lg_entry_eq]
  generalize (lg_sl ([.ref a0, .int 6, .int 1]) ++ List.replicate (3 - (lg_sl ([.ref a0, .int 6, .int 1])).length) Slot.unset).toArray = ls at hl ⊢
  have hl : lv_has ls 3 [(0, .ref a0), (1, .int 6), (2, .int 1)] := hl
  refine lv_aload_n hx hb dX6_init_0 rfl (lv_at hl 0 rfl) ?_
  refine W.objInit hx hb hown (kX6_init_1 hts) (kX6_init_2 hts) (kX6_init_3 hts) rfl (by rw [hml]; exact hl.1) rfl dX6_init_1 (Nat.le_of_ble_eq_true rfl) (Nat.le_of_ble_eq_true rfl) ?_
  refine W.eq (g2 := F0 m 4 ls []) rfl ?_
  refine lv_aload_n hx hb dX6_init_4 rfl (lv_at hl 0 rfl) ?_
  refine lv_iload_n hx hb dX6_init_5 rfl (lv_at hl 2 rfl) ?_
  refine va_putF (D := (dC, dI)) (ci := 6) (v := .int 1) (ty := .int) (C := RX6) (T := TX6) (N := 3) hx hb hts iX6_init_X6 tyX6 tyX6_ok nmX6 hown hK.1 hP hD hS 0 rfl rfl 0 (by decide) (kX6_init_4 hts) (fun _ h9 => h9) rfl hin rfl (by decide +kernel) rfl rfl (Nat.le_of_ble_eq_true rfl) dX6_init_6 (fun H locs hP hD hS => ?_)
  obtain ⟨hP, hD⟩ := z_re (L := [(a0, .inr (6, [.int 1, .null, .int 0]))]) hP hD
  refine lv_aload_n hx hb dX6_init_9 rfl (lv_at hl 0 rfl) ?_
  refine lv_iconst (v := 0) hx hb dX6_init_10 (by decide) ?_
  refine lv_iload_n hx hb dX6_init_11 rfl (lv_at hl 1 rfl) ?_
  refine lv_iload_n hx hb dX6_init_12 rfl (lv_at hl 2 rfl) ?_
  refine lv_imul hx hb dX6_init_13 ?_
  refine zi 6 (by decide) ?_
  refine va_mmax hx hb (by rw [hml]; exact hl.1.symm) hown (kX6_init_5 hts) (kX6_init_6 hts) (kX6_init_7 hts) (kX6_init_8 hts) (Nat.le_of_ble_eq_true rfl) (Nat.le_of_ble_eq_true rfl) (Nat.le_of_ble_eq_true rfl) (Nat.le_of_ble_eq_true rfl) dX6_init_14 ?_
  refine zi 6 (by decide) ?_
  refine z_newi hx hb (kX6_init_9 hts) hK hP hD hS hA 6 (by decide) (by decide) (by decide) (Nat.le_of_ble_eq_true rfl) (Nat.le_of_ble_eq_true rfl) dX6_init_17 (fun q1 H hP hD hS => ?_)
  refine W.widen (k := 1) (n := 6) (Nat.le_of_ble_eq_true rfl) (Nat.le_of_ble_eq_true rfl) ?_
  obtain ⟨hP, hD⟩ := z_re (L := [(a0, .inr (6, [.int 1, .null, .int 0])), (q1, .inl (kA 0, 6, .inl (fun _ => 0)))]) hP hD
  refine va_putF (D := (dC, dI)) (ci := 6) (v := .ref q1) (ty := .array (.int)) (C := RX6) (T := TX6) (N := 3) hx hb hts iX6_init_X6 tyX6 tyX6_ok nmX6 hown hK.1 hP hD hS 0 rfl rfl 1 (by decide) (kX6_init_10 hts) (fun _ h9 => h9) rfl hin rfl (by decide +kernel) rfl rfl (Nat.le_of_ble_eq_true rfl) dX6_init_19 (fun H locs hP hD hS => ?_)
  obtain ⟨hP, hD⟩ := z_re (L := [(a0, .inr (6, [.int 1, .ref q1, .int 0])), (q1, .inl (kA 0, 6, .inl (fun _ => 0)))]) hP hD
  obtain ⟨hP9, hD9⟩ := z_sb (L' := [(a0, .inr (6, [.int 1, .ref q1, .int 0])), (q1, .inl (kA 0, 6, .inl (fun _ => 0)))]) hP hD [0, 1] (by decide) rfl
  refine W.widen (k := 1) (n := 6) (Nat.le_of_ble_eq_true rfl) (Nat.le_of_ble_eq_true rfl) ?_
  exact W.vret hx hb hr (fun t ht hW => ⟨⟨(q1), rfl, trivial, by rw [ht]; exact hP9, hD9⟩, hS.F ht⟩) hS.2.2 dX6_init_22
set_option maxHeartbeats 4000000 in
set_option maxRecDepth 100000 in
theorem mX9_init (l : Launch) (dC : Nat → ClassId) (dI : Nat → Nat → Nat) (kA : Nat → ClassId) (sz : Nat) (a0 : Nat)  : Met l yX9_init wsX9_init ({ frames := 2, cells := 12, slots := 364, locals := 36 }) (zPc dC dI kA sz [.ref a0] [(a0, .inr (9, [.null, .null, .null, .null, .null, .null, .int 0, .int 0, .int 0, .int 0]))]) (va_Qv (fun (u : Nat × Nat × Nat × Nat × Nat × Nat × Nat × Nat × Nat × Nat × Nat × Nat) => True) (zB dC dI (va_A [(a0, .inr (9, [.null, .null, .null, .null, .null, .null, .int 0, .int 0, .int 0, .int 0]))] sz) (fun (u : Nat × Nat × Nat × Nat × Nat × Nat × Nat × Nat × Nat × Nat × Nat × Nat) => [(a0, .inr (9, [.ref u.1, .ref u.2.2.1, .ref u.2.2.2.2.1, .ref u.2.2.2.2.2.2.1, .ref u.2.2.2.2.2.2.2.2.1, .ref u.2.2.2.2.2.2.2.2.2.2.1, .int (-1), .int 0, .int 0, .int 0])), (u.1, .inr (6, [.int 4, .ref u.2.1, .int 0])), (u.2.1, .inl (kA 0, 48, .inl (fun _ => 0))), (u.2.2.1, .inr (6, [.int 5, .ref u.2.2.2.1, .int 0])), (u.2.2.2.1, .inl (kA 0, 100, .inl (fun _ => 0))), (u.2.2.2.2.1, .inr (6, [.int 9, .ref u.2.2.2.2.2.1, .int 0])), (u.2.2.2.2.2.1, .inl (kA 0, 144, .inl (fun _ => 0))), (u.2.2.2.2.2.2.1, .inr (6, [.int 4, .ref u.2.2.2.2.2.2.2.1, .int 0])), (u.2.2.2.2.2.2.2.1, .inl (kA 0, 24, .inl (fun _ => 0))), (u.2.2.2.2.2.2.2.2.1, .inr (6, [.int 3, .ref u.2.2.2.2.2.2.2.2.2.1, .int 0])), (u.2.2.2.2.2.2.2.2.2.1, .inl (kA 0, 24, .inl (fun _ => 0))), (u.2.2.2.2.2.2.2.2.2.2.1, .inr (6, [.int 1, .ref u.2.2.2.2.2.2.2.2.2.2.2, .int 0])), (u.2.2.2.2.2.2.2.2.2.2.2, .inl (kA 0, 6, .inl (fun _ => 0)))])) (va_A [(a0, .inr (9, [.null, .null, .null, .null, .null, .null, .int 0, .int 0, .int 0, .int 0]))] sz)) 12 364 (va_A [(a0, .inr (9, [.null, .null, .null, .null, .null, .null, .int 0, .int 0, .int 0, .int 0]))] sz) := by
  refine Met.ofW (cc := cX9_init) (maxL := 1) (ret := none) pnX9 rfl ?_
  intro p e s m args below meth c s₁ B hml hv
  obtain ⟨rfl, hsz, hP, hK, hD0⟩ := hv
  have hx := B.exec
  have hb := B.bytes
  have hr := B.returns
  have hts := atoms_spec (ws := wsX9_init) B.pre
  have hown : s.vm.findClass RX9 = some m.cls := findClass_of_methodNamed B.named
  have hlocks := B.notSynchronized
  have hin : meth.name = "<init>" := (name_of_methodNamed B.named B.method).1
  subst hsz
  have hD := hD0.self (sz := s.heap.size)
  generalize hAe : va_A [(a0, .inr (9, [.null, .null, .null, .null, .null, .null, .int 0, .int 0, .int 0, .int 0]))] s.heap.size = A at hD ⊢
  have hA : ∀ q : Nat, s.heap.size ≤ q → A q := zA_of hAe
  have hS : va_S A s.heap s.heap [] := va_S.rf
  have hP : va_P (dC, dI) vwCl [(a0, .inr (9, [.null, .null, .null, .null, .null, .null, .int 0, .int 0, .int 0, .int 0]))] s.heap := hP
  have hl := lv_entry ([.ref a0]) (n := 1) (Nat.le_of_ble_eq_true rfl)
  rw [lg_entry_eq]
  generalize (lg_sl ([.ref a0]) ++ List.replicate (1 - (lg_sl ([.ref a0])).length) Slot.unset).toArray = ls at hl ⊢
  have hl : lv_has ls 1 [(0, .ref a0)] := hl
  refine lv_aload_n hx hb dX9_init_0 rfl (lv_at hl 0 rfl) ?_
  refine W.objInit hx hb hown (kX9_init_1 hts) (kX9_init_2 hts) (kX9_init_3 hts) rfl (by rw [hml]; exact hl.1) rfl dX9_init_1 (Nat.le_of_ble_eq_true rfl) (Nat.le_of_ble_eq_true rfl) ?_
  refine W.eq (g2 := F0 m 4 ls []) rfl ?_
  refine lv_aload_n hx hb dX9_init_4 rfl (lv_at hl 0 rfl) ?_
  refine va_new (ci := 6) (fs := [.int 0, .null, .int 0]) (C := RX6) (T := TX6) (N := 3) hx hb hts iX9_init_X6 tyX6 tyX6_ok hown (kX9_init_4 hts) (kX9_init_5 hts) (kX9_init_6 hts) hK.1 hP hD hS hA rfl fsX6 (Nat.le_of_ble_eq_true rfl) (Nat.le_of_ble_eq_true rfl) dX9_init_5 (fun q1 H hP hD hS => ?_)
  refine W.widen (k := 1) (n := 3) (Nat.le_of_ble_eq_true rfl) (Nat.le_of_ble_eq_true rfl) ?_
  obtain ⟨hP, hD⟩ := z_re (L := [(a0, .inr (9, [.null, .null, .null, .null, .null, .null, .int 0, .int 0, .int 0, .int 0])), (q1, .inr (6, [.int 0, .null, .int 0]))]) hP hD
  refine lv_dup hx hb dX9_init_8 rfl ?_
  refine lv_bipush (v := 12) hx hb dX9_init_9 (by decide) ?_
  refine lv_iconst (v := 4) hx hb dX9_init_11 (by decide) ?_
  refine z_v (wr := [(a0, .inr (9, [.null, .null, .null, .null, .null, .null, .int 0, .int 0, .int 0, .int 0]))]) (va_runI (As := [.int 12, .int 4]) (rest := [.ref q1, .ref a0]) ⟨hx, hb, hml, hown, hts⟩ (mX6_init_12_4 l dC dI kA _ q1) (cwI 2 hts gX9_init_X6_init rfl rfl rfl (kX9_init_6 hts) (kX9_init_14 hts) (kX9_init_15 hts) rfl hdX6_init ⟨(Nat.le_of_ble_eq_true rfl), (Nat.le_of_ble_eq_true rfl)⟩) ⟨zPc.blind, zPre hK (hP.sub [1] rfl) (hD.sub [1] (by decide) rfl)⟩ rfl rfl hl.1 rfl (lv_room (Nat.le_of_ble_eq_true rfl)) dX9_init_12 ⟨(Nat.le_of_ble_eq_true rfl), (Nat.le_of_ble_eq_true rfl)⟩) hP hD hS hA [1] [0] rfl rfl (by decide) (by decide) (fun u2 H locs hw3 hP hD hS => ?_)
  obtain ⟨q5, rfl⟩ : ∃ z, z = u2 := ⟨_, rfl⟩
  refine W.widen (k := 2) (n := 51) (Nat.le_of_ble_eq_true rfl) (Nat.le_of_ble_eq_true rfl) ?_
  obtain ⟨hP, hD⟩ := z_re (L := [(a0, .inr (9, [.null, .null, .null, .null, .null, .null, .int 0, .int 0, .int 0, .int 0])), (q1, .inr (6, [.int 4, .ref q5, .int 0])), (q5, .inl (kA 0, 48, .inl (fun _ => 0)))]) hP hD
  refine va_putF (D := (dC, dI)) (ci := 9) (v := .ref q1) (ty := .object "SnowMules$Table") (C := RX9) (T := TX9) (N := 10) hx hb hts iX9_init_X9 tyX9 tyX9_ok nmX9 hown hK.1 hP hD hS 0 rfl rfl 0 (by decide) (kX9_init_7 hts) (fun _ h9 => h9) rfl hin rfl (by decide +kernel) rfl rfl (Nat.le_of_ble_eq_true rfl) dX9_init_15 (fun H locs hP hD hS => ?_)
  obtain ⟨hP, hD⟩ := z_re (L := [(a0, .inr (9, [.ref q1, .null, .null, .null, .null, .null, .int 0, .int 0, .int 0, .int 0])), (q1, .inr (6, [.int 4, .ref q5, .int 0])), (q5, .inl (kA 0, 48, .inl (fun _ => 0)))]) hP hD
  refine lv_aload_n hx hb dX9_init_18 rfl (lv_at hl 0 rfl) ?_
  refine va_new (ci := 6) (fs := [.int 0, .null, .int 0]) (C := RX6) (T := TX6) (N := 3) hx hb hts iX9_init_X6 tyX6 tyX6_ok hown (kX9_init_4 hts) (kX9_init_5 hts) (kX9_init_6 hts) hK.1 hP hD hS hA rfl fsX6 (Nat.le_of_ble_eq_true rfl) (Nat.le_of_ble_eq_true rfl) dX9_init_19 (fun q6 H hP hD hS => ?_)
  refine W.widen (k := 3) (n := 54) (Nat.le_of_ble_eq_true rfl) (Nat.le_of_ble_eq_true rfl) ?_
  obtain ⟨hP, hD⟩ := z_re (L := [(a0, .inr (9, [.ref q1, .null, .null, .null, .null, .null, .int 0, .int 0, .int 0, .int 0])), (q1, .inr (6, [.int 4, .ref q5, .int 0])), (q5, .inl (kA 0, 48, .inl (fun _ => 0))), (q6, .inr (6, [.int 0, .null, .int 0]))]) hP hD
  refine lv_dup hx hb dX9_init_22 rfl ?_
  refine lv_bipush (v := 20) hx hb dX9_init_23 (by decide) ?_
  refine lv_iconst (v := 5) hx hb dX9_init_25 (by decide) ?_
  refine z_v (wr := [(a0, .inr (9, [.ref q1, .null, .null, .null, .null, .null, .int 0, .int 0, .int 0, .int 0])), (q1, .inr (6, [.int 4, .ref q5, .int 0])), (q5, .inl (kA 0, 48, .inl (fun _ => 0)))]) (va_runI (As := [.int 20, .int 5]) (rest := [.ref q6, .ref a0]) ⟨hx, hb, hml, hown, hts⟩ (mX6_init_20_5 l dC dI kA _ q6) (cwI 2 hts gX9_init_X6_init rfl rfl rfl (kX9_init_6 hts) (kX9_init_14 hts) (kX9_init_15 hts) rfl hdX6_init ⟨(Nat.le_of_ble_eq_true rfl), (Nat.le_of_ble_eq_true rfl)⟩) ⟨zPc.blind, zPre hK (hP.sub [3] rfl) (hD.sub [3] (by decide) rfl)⟩ rfl rfl hl.1 rfl (lv_room (Nat.le_of_ble_eq_true rfl)) dX9_init_26 ⟨(Nat.le_of_ble_eq_true rfl), (Nat.le_of_ble_eq_true rfl)⟩) hP hD hS hA [3] [0, 1, 2] rfl rfl (by decide) (by decide) (fun u7 H locs hw8 hP hD hS => ?_)
  obtain ⟨q10, rfl⟩ : ∃ z, z = u7 := ⟨_, rfl⟩
  refine W.widen (k := 4) (n := 154) (Nat.le_of_ble_eq_true rfl) (Nat.le_of_ble_eq_true rfl) ?_
  obtain ⟨hP, hD⟩ := z_re (L := [(a0, .inr (9, [.ref q1, .null, .null, .null, .null, .null, .int 0, .int 0, .int 0, .int 0])), (q1, .inr (6, [.int 4, .ref q5, .int 0])), (q5, .inl (kA 0, 48, .inl (fun _ => 0))), (q6, .inr (6, [.int 5, .ref q10, .int 0])), (q10, .inl (kA 0, 100, .inl (fun _ => 0)))]) hP hD
  refine va_putF (D := (dC, dI)) (ci := 9) (v := .ref q6) (ty := .object "SnowMules$Table") (C := RX9) (T := TX9) (N := 10) hx hb hts iX9_init_X9 tyX9 tyX9_ok nmX9 hown hK.1 hP hD hS 0 rfl rfl 1 (by decide) (kX9_init_8 hts) (fun _ h9 => h9) rfl hin rfl (by decide +kernel) rfl rfl (Nat.le_of_ble_eq_true rfl) dX9_init_29 (fun H locs hP hD hS => ?_)
  obtain ⟨hP, hD⟩ := z_re (L := [(a0, .inr (9, [.ref q1, .ref q6, .null, .null, .null, .null, .int 0, .int 0, .int 0, .int 0])), (q1, .inr (6, [.int 4, .ref q5, .int 0])), (q5, .inl (kA 0, 48, .inl (fun _ => 0))), (q6, .inr (6, [.int 5, .ref q10, .int 0])), (q10, .inl (kA 0, 100, .inl (fun _ => 0)))]) hP hD
  refine lv_aload_n hx hb dX9_init_32 rfl (lv_at hl 0 rfl) ?_
  refine va_new (ci := 6) (fs := [.int 0, .null, .int 0]) (C := RX6) (T := TX6) (N := 3) hx hb hts iX9_init_X6 tyX6 tyX6_ok hown (kX9_init_4 hts) (kX9_init_5 hts) (kX9_init_6 hts) hK.1 hP hD hS hA rfl fsX6 (Nat.le_of_ble_eq_true rfl) (Nat.le_of_ble_eq_true rfl) dX9_init_33 (fun q11 H hP hD hS => ?_)
  refine W.widen (k := 5) (n := 157) (Nat.le_of_ble_eq_true rfl) (Nat.le_of_ble_eq_true rfl) ?_
  obtain ⟨hP, hD⟩ := z_re (L := [(a0, .inr (9, [.ref q1, .ref q6, .null, .null, .null, .null, .int 0, .int 0, .int 0, .int 0])), (q1, .inr (6, [.int 4, .ref q5, .int 0])), (q5, .inl (kA 0, 48, .inl (fun _ => 0))), (q6, .inr (6, [.int 5, .ref q10, .int 0])), (q10, .inl (kA 0, 100, .inl (fun _ => 0))), (q11, .inr (6, [.int 0, .null, .int 0]))]) hP hD
  refine lv_dup hx hb dX9_init_36 rfl ?_
  refine lv_bipush (v := 16) hx hb dX9_init_37 (by decide) ?_
  refine lv_bipush (v := 9) hx hb dX9_init_39 (by decide) ?_
  refine z_v (wr := [(a0, .inr (9, [.ref q1, .ref q6, .null, .null, .null, .null, .int 0, .int 0, .int 0, .int 0])), (q1, .inr (6, [.int 4, .ref q5, .int 0])), (q5, .inl (kA 0, 48, .inl (fun _ => 0))), (q6, .inr (6, [.int 5, .ref q10, .int 0])), (q10, .inl (kA 0, 100, .inl (fun _ => 0)))]) (va_runI (As := [.int 16, .int 9]) (rest := [.ref q11, .ref a0]) ⟨hx, hb, hml, hown, hts⟩ (mX6_init_16_9 l dC dI kA _ q11) (cwI 2 hts gX9_init_X6_init rfl rfl rfl (kX9_init_6 hts) (kX9_init_14 hts) (kX9_init_15 hts) rfl hdX6_init ⟨(Nat.le_of_ble_eq_true rfl), (Nat.le_of_ble_eq_true rfl)⟩) ⟨zPc.blind, zPre hK (hP.sub [5] rfl) (hD.sub [5] (by decide) rfl)⟩ rfl rfl hl.1 rfl (lv_room (Nat.le_of_ble_eq_true rfl)) dX9_init_41 ⟨(Nat.le_of_ble_eq_true rfl), (Nat.le_of_ble_eq_true rfl)⟩) hP hD hS hA [5] [0, 1, 2, 3, 4] rfl rfl (by decide) (by decide) (fun u12 H locs hw13 hP hD hS => ?_)
  obtain ⟨q15, rfl⟩ : ∃ z, z = u12 := ⟨_, rfl⟩
  refine W.widen (k := 6) (n := 301) (Nat.le_of_ble_eq_true rfl) (Nat.le_of_ble_eq_true rfl) ?_
  obtain ⟨hP, hD⟩ := z_re (L := [(a0, .inr (9, [.ref q1, .ref q6, .null, .null, .null, .null, .int 0, .int 0, .int 0, .int 0])), (q1, .inr (6, [.int 4, .ref q5, .int 0])), (q5, .inl (kA 0, 48, .inl (fun _ => 0))), (q6, .inr (6, [.int 5, .ref q10, .int 0])), (q10, .inl (kA 0, 100, .inl (fun _ => 0))), (q11, .inr (6, [.int 9, .ref q15, .int 0])), (q15, .inl (kA 0, 144, .inl (fun _ => 0)))]) hP hD
  refine va_putF (D := (dC, dI)) (ci := 9) (v := .ref q11) (ty := .object "SnowMules$Table") (C := RX9) (T := TX9) (N := 10) hx hb hts iX9_init_X9 tyX9 tyX9_ok nmX9 hown hK.1 hP hD hS 0 rfl rfl 2 (by decide) (kX9_init_9 hts) (fun _ h9 => h9) rfl hin rfl (by decide +kernel) rfl rfl (Nat.le_of_ble_eq_true rfl) dX9_init_44 (fun H locs hP hD hS => ?_)
  obtain ⟨hP, hD⟩ := z_re (L := [(a0, .inr (9, [.ref q1, .ref q6, .ref q11, .null, .null, .null, .int 0, .int 0, .int 0, .int 0])), (q1, .inr (6, [.int 4, .ref q5, .int 0])), (q5, .inl (kA 0, 48, .inl (fun _ => 0))), (q6, .inr (6, [.int 5, .ref q10, .int 0])), (q10, .inl (kA 0, 100, .inl (fun _ => 0))), (q11, .inr (6, [.int 9, .ref q15, .int 0])), (q15, .inl (kA 0, 144, .inl (fun _ => 0)))]) hP hD
  refine lv_aload_n hx hb dX9_init_47 rfl (lv_at hl 0 rfl) ?_
  refine va_new (ci := 6) (fs := [.int 0, .null, .int 0]) (C := RX6) (T := TX6) (N := 3) hx hb hts iX9_init_X6 tyX6 tyX6_ok hown (kX9_init_4 hts) (kX9_init_5 hts) (kX9_init_6 hts) hK.1 hP hD hS hA rfl fsX6 (Nat.le_of_ble_eq_true rfl) (Nat.le_of_ble_eq_true rfl) dX9_init_48 (fun q16 H hP hD hS => ?_)
  refine W.widen (k := 7) (n := 304) (Nat.le_of_ble_eq_true rfl) (Nat.le_of_ble_eq_true rfl) ?_
  obtain ⟨hP, hD⟩ := z_re (L := [(a0, .inr (9, [.ref q1, .ref q6, .ref q11, .null, .null, .null, .int 0, .int 0, .int 0, .int 0])), (q1, .inr (6, [.int 4, .ref q5, .int 0])), (q5, .inl (kA 0, 48, .inl (fun _ => 0))), (q6, .inr (6, [.int 5, .ref q10, .int 0])), (q10, .inl (kA 0, 100, .inl (fun _ => 0))), (q11, .inr (6, [.int 9, .ref q15, .int 0])), (q15, .inl (kA 0, 144, .inl (fun _ => 0))), (q16, .inr (6, [.int 0, .null, .int 0]))]) hP hD
  refine lv_dup hx hb dX9_init_51 rfl ?_
  refine lv_bipush (v := 6) hx hb dX9_init_52 (by decide) ?_
  refine lv_iconst (v := 4) hx hb dX9_init_54 (by decide) ?_
  refine z_v (wr := [(a0, .inr (9, [.ref q1, .ref q6, .ref q11, .null, .null, .null, .int 0, .int 0, .int 0, .int 0])), (q1, .inr (6, [.int 4, .ref q5, .int 0])), (q5, .inl (kA 0, 48, .inl (fun _ => 0))), (q6, .inr (6, [.int 5, .ref q10, .int 0])), (q10, .inl (kA 0, 100, .inl (fun _ => 0))), (q11, .inr (6, [.int 9, .ref q15, .int 0])), (q15, .inl (kA 0, 144, .inl (fun _ => 0)))]) (va_runI (As := [.int 6, .int 4]) (rest := [.ref q16, .ref a0]) ⟨hx, hb, hml, hown, hts⟩ (mX6_init_6_4 l dC dI kA _ q16) (cwI 2 hts gX9_init_X6_init rfl rfl rfl (kX9_init_6 hts) (kX9_init_14 hts) (kX9_init_15 hts) rfl hdX6_init ⟨(Nat.le_of_ble_eq_true rfl), (Nat.le_of_ble_eq_true rfl)⟩) ⟨zPc.blind, zPre hK (hP.sub [7] rfl) (hD.sub [7] (by decide) rfl)⟩ rfl rfl hl.1 rfl (lv_room (Nat.le_of_ble_eq_true rfl)) dX9_init_55 ⟨(Nat.le_of_ble_eq_true rfl), (Nat.le_of_ble_eq_true rfl)⟩) hP hD hS hA [7] [0, 1, 2, 3, 4, 5, 6] rfl rfl (by decide) (by decide) (fun u17 H locs hw18 hP hD hS => ?_)
  obtain ⟨q20, rfl⟩ : ∃ z, z = u17 := ⟨_, rfl⟩
  refine W.widen (k := 8) (n := 328) (Nat.le_of_ble_eq_true rfl) (Nat.le_of_ble_eq_true rfl) ?_
  obtain ⟨hP, hD⟩ := z_re (L := [(a0, .inr (9, [.ref q1, .ref q6, .ref q11, .null, .null, .null, .int 0, .int 0, .int 0, .int 0])), (q1, .inr (6, [.int 4, .ref q5, .int 0])), (q5, .inl (kA 0, 48, .inl (fun _ => 0))), (q6, .inr (6, [.int 5, .ref q10, .int 0])), (q10, .inl (kA 0, 100, .inl (fun _ => 0))), (q11, .inr (6, [.int 9, .ref q15, .int 0])), (q15, .inl (kA 0, 144, .inl (fun _ => 0))), (q16, .inr (6, [.int 4, .ref q20, .int 0])), (q20, .inl (kA 0, 24, .inl (fun _ => 0)))]) hP hD
  refine va_putF (D := (dC, dI)) (ci := 9) (v := .ref q16) (ty := .object "SnowMules$Table") (C := RX9) (T := TX9) (N := 10) hx hb hts iX9_init_X9 tyX9 tyX9_ok nmX9 hown hK.1 hP hD hS 0 rfl rfl 3 (by decide) (kX9_init_10 hts) (fun _ h9 => h9) rfl hin rfl (by decide +kernel) rfl rfl (Nat.le_of_ble_eq_true rfl) dX9_init_58 (fun H locs hP hD hS => ?_)
  obtain ⟨hP, hD⟩ := z_re (L := [(a0, .inr (9, [.ref q1, .ref q6, .ref q11, .ref q16, .null, .null, .int 0, .int 0, .int 0, .int 0])), (q1, .inr (6, [.int 4, .ref q5, .int 0])), (q5, .inl (kA 0, 48, .inl (fun _ => 0))), (q6, .inr (6, [.int 5, .ref q10, .int 0])), (q10, .inl (kA 0, 100, .inl (fun _ => 0))), (q11, .inr (6, [.int 9, .ref q15, .int 0])), (q15, .inl (kA 0, 144, .inl (fun _ => 0))), (q16, .inr (6, [.int 4, .ref q20, .int 0])), (q20, .inl (kA 0, 24, .inl (fun _ => 0)))]) hP hD
  refine lv_aload_n hx hb dX9_init_61 rfl (lv_at hl 0 rfl) ?_
  refine va_new (ci := 6) (fs := [.int 0, .null, .int 0]) (C := RX6) (T := TX6) (N := 3) hx hb hts iX9_init_X6 tyX6 tyX6_ok hown (kX9_init_4 hts) (kX9_init_5 hts) (kX9_init_6 hts) hK.1 hP hD hS hA rfl fsX6 (Nat.le_of_ble_eq_true rfl) (Nat.le_of_ble_eq_true rfl) dX9_init_62 (fun q21 H hP hD hS => ?_)
  refine W.widen (k := 9) (n := 331) (Nat.le_of_ble_eq_true rfl) (Nat.le_of_ble_eq_true rfl) ?_
  obtain ⟨hP, hD⟩ := z_re (L := [(a0, .inr (9, [.ref q1, .ref q6, .ref q11, .ref q16, .null, .null, .int 0, .int 0, .int 0, .int 0])), (q1, .inr (6, [.int 4, .ref q5, .int 0])), (q5, .inl (kA 0, 48, .inl (fun _ => 0))), (q6, .inr (6, [.int 5, .ref q10, .int 0])), (q10, .inl (kA 0, 100, .inl (fun _ => 0))), (q11, .inr (6, [.int 9, .ref q15, .int 0])), (q15, .inl (kA 0, 144, .inl (fun _ => 0))), (q16, .inr (6, [.int 4, .ref q20, .int 0])), (q20, .inl (kA 0, 24, .inl (fun _ => 0))), (q21, .inr (6, [.int 0, .null, .int 0]))]) hP hD
  refine lv_dup hx hb dX9_init_65 rfl ?_
  refine lv_bipush (v := 8) hx hb dX9_init_66 (by decide) ?_
  refine lv_iconst (v := 3) hx hb dX9_init_68 (by decide) ?_
  refine z_v (wr := [(a0, .inr (9, [.ref q1, .ref q6, .ref q11, .ref q16, .null, .null, .int 0, .int 0, .int 0, .int 0])), (q1, .inr (6, [.int 4, .ref q5, .int 0])), (q5, .inl (kA 0, 48, .inl (fun _ => 0))), (q6, .inr (6, [.int 5, .ref q10, .int 0])), (q10, .inl (kA 0, 100, .inl (fun _ => 0))), (q11, .inr (6, [.int 9, .ref q15, .int 0])), (q15, .inl (kA 0, 144, .inl (fun _ => 0))), (q16, .inr (6, [.int 4, .ref q20, .int 0])), (q20, .inl (kA 0, 24, .inl (fun _ => 0)))]) (va_runI (As := [.int 8, .int 3]) (rest := [.ref q21, .ref a0]) ⟨hx, hb, hml, hown, hts⟩ (mX6_init_8_3 l dC dI kA _ q21) (cwI 2 hts gX9_init_X6_init rfl rfl rfl (kX9_init_6 hts) (kX9_init_14 hts) (kX9_init_15 hts) rfl hdX6_init ⟨(Nat.le_of_ble_eq_true rfl), (Nat.le_of_ble_eq_true rfl)⟩) ⟨zPc.blind, zPre hK (hP.sub [9] rfl) (hD.sub [9] (by decide) rfl)⟩ rfl rfl hl.1 rfl (lv_room (Nat.le_of_ble_eq_true rfl)) dX9_init_69 ⟨(Nat.le_of_ble_eq_true rfl), (Nat.le_of_ble_eq_true rfl)⟩) hP hD hS hA [9] [0, 1, 2, 3, 4, 5, 6, 7, 8] rfl rfl (by decide) (by decide) (fun u22 H locs hw23 hP hD hS => ?_)
  obtain ⟨q25, rfl⟩ : ∃ z, z = u22 := ⟨_, rfl⟩
  refine W.widen (k := 10) (n := 355) (Nat.le_of_ble_eq_true rfl) (Nat.le_of_ble_eq_true rfl) ?_
  obtain ⟨hP, hD⟩ := z_re (L := [(a0, .inr (9, [.ref q1, .ref q6, .ref q11, .ref q16, .null, .null, .int 0, .int 0, .int 0, .int 0])), (q1, .inr (6, [.int 4, .ref q5, .int 0])), (q5, .inl (kA 0, 48, .inl (fun _ => 0))), (q6, .inr (6, [.int 5, .ref q10, .int 0])), (q10, .inl (kA 0, 100, .inl (fun _ => 0))), (q11, .inr (6, [.int 9, .ref q15, .int 0])), (q15, .inl (kA 0, 144, .inl (fun _ => 0))), (q16, .inr (6, [.int 4, .ref q20, .int 0])), (q20, .inl (kA 0, 24, .inl (fun _ => 0))), (q21, .inr (6, [.int 3, .ref q25, .int 0])), (q25, .inl (kA 0, 24, .inl (fun _ => 0)))]) hP hD
  refine va_putF (D := (dC, dI)) (ci := 9) (v := .ref q21) (ty := .object "SnowMules$Table") (C := RX9) (T := TX9) (N := 10) hx hb hts iX9_init_X9 tyX9 tyX9_ok nmX9 hown hK.1 hP hD hS 0 rfl rfl 4 (by decide) (kX9_init_11 hts) (fun _ h9 => h9) rfl hin rfl (by decide +kernel) rfl rfl (Nat.le_of_ble_eq_true rfl) dX9_init_72 (fun H locs hP hD hS => ?_)
  obtain ⟨hP, hD⟩ := z_re (L := [(a0, .inr (9, [.ref q1, .ref q6, .ref q11, .ref q16, .ref q21, .null, .int 0, .int 0, .int 0, .int 0])), (q1, .inr (6, [.int 4, .ref q5, .int 0])), (q5, .inl (kA 0, 48, .inl (fun _ => 0))), (q6, .inr (6, [.int 5, .ref q10, .int 0])), (q10, .inl (kA 0, 100, .inl (fun _ => 0))), (q11, .inr (6, [.int 9, .ref q15, .int 0])), (q15, .inl (kA 0, 144, .inl (fun _ => 0))), (q16, .inr (6, [.int 4, .ref q20, .int 0])), (q20, .inl (kA 0, 24, .inl (fun _ => 0))), (q21, .inr (6, [.int 3, .ref q25, .int 0])), (q25, .inl (kA 0, 24, .inl (fun _ => 0)))]) hP hD
  refine lv_aload_n hx hb dX9_init_75 rfl (lv_at hl 0 rfl) ?_
  refine va_new (ci := 6) (fs := [.int 0, .null, .int 0]) (C := RX6) (T := TX6) (N := 3) hx hb hts iX9_init_X6 tyX6 tyX6_ok hown (kX9_init_4 hts) (kX9_init_5 hts) (kX9_init_6 hts) hK.1 hP hD hS hA rfl fsX6 (Nat.le_of_ble_eq_true rfl) (Nat.le_of_ble_eq_true rfl) dX9_init_76 (fun q26 H hP hD hS => ?_)
  refine W.widen (k := 11) (n := 358) (Nat.le_of_ble_eq_true rfl) (Nat.le_of_ble_eq_true rfl) ?_
  obtain ⟨hP, hD⟩ := z_re (L := [(a0, .inr (9, [.ref q1, .ref q6, .ref q11, .ref q16, .ref q21, .null, .int 0, .int 0, .int 0, .int 0])), (q1, .inr (6, [.int 4, .ref q5, .int 0])), (q5, .inl (kA 0, 48, .inl (fun _ => 0))), (q6, .inr (6, [.int 5, .ref q10, .int 0])), (q10, .inl (kA 0, 100, .inl (fun _ => 0))), (q11, .inr (6, [.int 9, .ref q15, .int 0])), (q15, .inl (kA 0, 144, .inl (fun _ => 0))), (q16, .inr (6, [.int 4, .ref q20, .int 0])), (q20, .inl (kA 0, 24, .inl (fun _ => 0))), (q21, .inr (6, [.int 3, .ref q25, .int 0])), (q25, .inl (kA 0, 24, .inl (fun _ => 0))), (q26, .inr (6, [.int 0, .null, .int 0]))]) hP hD
  refine lv_dup hx hb dX9_init_79 rfl ?_
  refine lv_bipush (v := 6) hx hb dX9_init_80 (by decide) ?_
  refine lv_iconst (v := 1) hx hb dX9_init_82 (by decide) ?_
  refine z_v (wr := [(a0, .inr (9, [.ref q1, .ref q6, .ref q11, .ref q16, .ref q21, .null, .int 0, .int 0, .int 0, .int 0])), (q1, .inr (6, [.int 4, .ref q5, .int 0])), (q5, .inl (kA 0, 48, .inl (fun _ => 0))), (q6, .inr (6, [.int 5, .ref q10, .int 0])), (q10, .inl (kA 0, 100, .inl (fun _ => 0))), (q11, .inr (6, [.int 9, .ref q15, .int 0])), (q15, .inl (kA 0, 144, .inl (fun _ => 0))), (q16, .inr (6, [.int 4, .ref q20, .int 0])), (q20, .inl (kA 0, 24, .inl (fun _ => 0))), (q21, .inr (6, [.int 3, .ref q25, .int 0])), (q25, .inl (kA 0, 24, .inl (fun _ => 0)))]) (va_runI (As := [.int 6, .int 1]) (rest := [.ref q26, .ref a0]) ⟨hx, hb, hml, hown, hts⟩ (mX6_init_6_1 l dC dI kA _ q26) (cwI 2 hts gX9_init_X6_init rfl rfl rfl (kX9_init_6 hts) (kX9_init_14 hts) (kX9_init_15 hts) rfl hdX6_init ⟨(Nat.le_of_ble_eq_true rfl), (Nat.le_of_ble_eq_true rfl)⟩) ⟨zPc.blind, zPre hK (hP.sub [11] rfl) (hD.sub [11] (by decide) rfl)⟩ rfl rfl hl.1 rfl (lv_room (Nat.le_of_ble_eq_true rfl)) dX9_init_83 ⟨(Nat.le_of_ble_eq_true rfl), (Nat.le_of_ble_eq_true rfl)⟩) hP hD hS hA [11] [0, 1, 2, 3, 4, 5, 6, 7, 8, 9, 10] rfl rfl (by decide) (by decide) (fun u27 H locs hw28 hP hD hS => ?_)
  obtain ⟨q30, rfl⟩ : ∃ z, z = u27 := ⟨_, rfl⟩
  refine W.widen (k := 12) (n := 364) (Nat.le_of_ble_eq_true rfl) (Nat.le_of_ble_eq_true rfl) ?_
  obtain ⟨hP, hD⟩ := z_re (L := [(a0, .inr (9, [.ref q1, .ref q6, .ref q11, .ref q16, .ref q21, .null, .int 0, .int 0, .int 0, .int 0])), (q1, .inr (6, [.int 4, .ref q5, .int 0])), (q5, .inl (kA 0, 48, .inl (fun _ => 0))), (q6, .inr (6, [.int 5, .ref q10, .int 0])), (q10, .inl (kA 0, 100, .inl (fun _ => 0))), (q11, .inr (6, [.int 9, .ref q15, .int 0])), (q15, .inl (kA 0, 144, .inl (fun _ => 0))), (q16, .inr (6, [.int 4, .ref q20, .int 0])), (q20, .inl (kA 0, 24, .inl (fun _ => 0))), (q21, .inr (6, [.int 3, .ref q25, .int 0])), (q25, .inl (kA 0, 24, .inl (fun _ => 0))), (q26, .inr (6, [.int 1, .ref q30, .int 0])), (q30, .inl (kA 0, 6, .inl (fun _ => 0)))]) hP hD
  refine va_putF (D := (dC, dI)) (ci := 9) (v := .ref q26) (ty := .object "SnowMules$Table") (C := RX9) (T := TX9) (N := 10) hx hb hts iX9_init_X9 tyX9 tyX9_ok nmX9 hown hK.1 hP hD hS 0 rfl rfl 5 (by decide) (kX9_init_12 hts) (fun _ h9 => h9) rfl hin rfl (by decide +kernel) rfl rfl (Nat.le_of_ble_eq_true rfl) dX9_init_86 (fun H locs hP hD hS => ?_)
  obtain ⟨hP, hD⟩ := z_re (L := [(a0, .inr (9, [.ref q1, .ref q6, .ref q11, .ref q16, .ref q21, .ref q26, .int 0, .int 0, .int 0, .int 0])), (q1, .inr (6, [.int 4, .ref q5, .int 0])), (q5, .inl (kA 0, 48, .inl (fun _ => 0))), (q6, .inr (6, [.int 5, .ref q10, .int 0])), (q10, .inl (kA 0, 100, .inl (fun _ => 0))), (q11, .inr (6, [.int 9, .ref q15, .int 0])), (q15, .inl (kA 0, 144, .inl (fun _ => 0))), (q16, .inr (6, [.int 4, .ref q20, .int 0])), (q20, .inl (kA 0, 24, .inl (fun _ => 0))), (q21, .inr (6, [.int 3, .ref q25, .int 0])), (q25, .inl (kA 0, 24, .inl (fun _ => 0))), (q26, .inr (6, [.int 1, .ref q30, .int 0])), (q30, .inl (kA 0, 6, .inl (fun _ => 0)))]) hP hD
  refine lv_aload_n hx hb dX9_init_89 rfl (lv_at hl 0 rfl) ?_
  refine lv_iconst (v := (-1)) hx hb dX9_init_90 (by decide) ?_
  refine va_put (D := (dC, dI)) (ci := 9) (v := .int (-1)) (ty := .int) (C := RX9) (T := TX9) (N := 10) hx hb hts iX9_init_X9 tyX9 tyX9_ok nmX9 hown hK.1 hP hD hS 0 gz0 vcz9 6 (by decide) (kX9_init_13 hts) (fun _ h9 => h9) rfl pfdI rfl rfl (Nat.le_of_ble_eq_true rfl) dX9_init_91 (fun H locs hP hD hS => ?_)
  obtain ⟨hP, hD⟩ := z_re (L := [(a0, .inr (9, [.ref q1, .ref q6, .ref q11, .ref q16, .ref q21, .ref q26, .int (-1), .int 0, .int 0, .int 0])), (q1, .inr (6, [.int 4, .ref q5, .int 0])), (q5, .inl (kA 0, 48, .inl (fun _ => 0))), (q6, .inr (6, [.int 5, .ref q10, .int 0])), (q10, .inl (kA 0, 100, .inl (fun _ => 0))), (q11, .inr (6, [.int 9, .ref q15, .int 0])), (q15, .inl (kA 0, 144, .inl (fun _ => 0))), (q16, .inr (6, [.int 4, .ref q20, .int 0])), (q20, .inl (kA 0, 24, .inl (fun _ => 0))), (q21, .inr (6, [.int 3, .ref q25, .int 0])), (q25, .inl (kA 0, 24, .inl (fun _ => 0))), (q26, .inr (6, [.int 1, .ref q30, .int 0])), (q30, .inl (kA 0, 6, .inl (fun _ => 0)))]) hP hD
  obtain ⟨hP9, hD9⟩ := z_sb (L' := [(a0, .inr (9, [.ref q1, .ref q6, .ref q11, .ref q16, .ref q21, .ref q26, .int (-1), .int 0, .int 0, .int 0])), (q1, .inr (6, [.int 4, .ref q5, .int 0])), (q5, .inl (kA 0, 48, .inl (fun _ => 0))), (q6, .inr (6, [.int 5, .ref q10, .int 0])), (q10, .inl (kA 0, 100, .inl (fun _ => 0))), (q11, .inr (6, [.int 9, .ref q15, .int 0])), (q15, .inl (kA 0, 144, .inl (fun _ => 0))), (q16, .inr (6, [.int 4, .ref q20, .int 0])), (q20, .inl (kA 0, 24, .inl (fun _ => 0))), (q21, .inr (6, [.int 3, .ref q25, .int 0])), (q25, .inl (kA 0, 24, .inl (fun _ => 0))), (q26, .inr (6, [.int 1, .ref q30, .int 0])), (q30, .inl (kA 0, 6, .inl (fun _ => 0)))]) hP hD [0, 1, 2, 3, 4, 5, 6, 7, 8, 9, 10, 11, 12] (by decide) rfl
  refine W.widen (k := 12) (n := 364) (Nat.le_of_ble_eq_true rfl) (Nat.le_of_ble_eq_true rfl) ?_
  exact W.vret hx hb hr (fun t ht hW => ⟨⟨(q1, q5, q6, q10, q11, q15, q16, q20, q21, q25, q26, q30), rfl, trivial, by rw [ht]; exact hP9, hD9⟩, hS.F ht⟩) hS.2.2 dX9_init_94
set_option maxHeartbeats 4000000 in
set_option maxRecDepth 100000 in
theorem mX1_init (l : Launch) (dC : Nat → ClassId) (dI : Nat → Nat → Nat) (kA : Nat → ClassId) (sz : Nat) (a0 : Nat)  : Met l yX1_init wsX1_init ({ frames := 1, cells := 12, slots := 516, locals := 12 }) (zPc dC dI kA sz [.ref a0] [(a0, .inr (1, [.int 0, .int 0, .null, .null, .null, .null, .null, .int 0, .null, .null, .int 0, .null, .null, .null, .null, .int 0, .null]))]) (va_Qv (fun (u : Nat × Nat × Nat × Nat × Nat × Nat × Nat × Nat × Nat × Nat × Nat × Nat) => True) (zB dC dI (va_A [(a0, .inr (1, [.int 0, .int 0, .null, .null, .null, .null, .null, .int 0, .null, .null, .int 0, .null, .null, .null, .null, .int 0, .null]))] sz) (fun (u : Nat × Nat × Nat × Nat × Nat × Nat × Nat × Nat × Nat × Nat × Nat × Nat) => [(a0, .inr (1, [.int 0, .int 0, .ref u.1, .ref u.2.1, .ref u.2.2.1, .ref u.2.2.2.1, .ref u.2.2.2.2.1, .int 0, .ref u.2.2.2.2.2.1, .ref u.2.2.2.2.2.2.1, .int 0, .ref u.2.2.2.2.2.2.2.1, .ref u.2.2.2.2.2.2.2.2.1, .ref u.2.2.2.2.2.2.2.2.2.1, .ref u.2.2.2.2.2.2.2.2.2.2.1, .int 0, .ref u.2.2.2.2.2.2.2.2.2.2.2])), (u.1, .inl (kA 0, 12, .inl (fun _ => 0))), (u.2.1, .inl (kA 0, 12, .inl (fun _ => 0))), (u.2.2.1, .inl (kA 0, 12, .inl (fun _ => 0))), (u.2.2.2.1, .inl (kA 0, 12, .inl (fun _ => 0))), (u.2.2.2.2.1, .inl (kA 0, 12, .inl (fun _ => 0))), (u.2.2.2.2.2.1, .inl (kA 0, 60, .inl (fun _ => 0))), (u.2.2.2.2.2.2.1, .inl (kA 0, 60, .inl (fun _ => 0))), (u.2.2.2.2.2.2.2.1, .inl (kA 0, 20, .inl (fun _ => 0))), (u.2.2.2.2.2.2.2.2.1, .inl (kA 0, 20, .inl (fun _ => 0))), (u.2.2.2.2.2.2.2.2.2.1, .inl (kA 0, 20, .inl (fun _ => 0))), (u.2.2.2.2.2.2.2.2.2.2.1, .inl (kA 0, 20, .inl (fun _ => 0))), (u.2.2.2.2.2.2.2.2.2.2.2, .inl (kA 0, 256, .inl (fun _ => 0)))])) (va_A [(a0, .inr (1, [.int 0, .int 0, .null, .null, .null, .null, .null, .int 0, .null, .null, .int 0, .null, .null, .null, .null, .int 0, .null]))] sz)) 12 516 (va_A [(a0, .inr (1, [.int 0, .int 0, .null, .null, .null, .null, .null, .int 0, .null, .null, .int 0, .null, .null, .null, .null, .int 0, .null]))] sz) := by
  refine Met.ofW (cc := cX1_init) (maxL := 1) (ret := none) pnX1 rfl ?_
  intro p e s m args below meth c s₁ B hml hv
  obtain ⟨rfl, hsz, hP, hK, hD0⟩ := hv
  have hx := B.exec
  have hb := B.bytes
  have hr := B.returns
  have hts := atoms_spec (ws := wsX1_init) B.pre
  have hown : s.vm.findClass RX1 = some m.cls := findClass_of_methodNamed B.named
  have hlocks := B.notSynchronized
  have hin : meth.name = "<init>" := (name_of_methodNamed B.named B.method).1
  subst hsz
  have hD := hD0.self (sz := s.heap.size)
  generalize hAe : va_A [(a0, .inr (1, [.int 0, .int 0, .null, .null, .null, .null, .null, .int 0, .null, .null, .int 0, .null, .null, .null, .null, .int 0, .null]))] s.heap.size = A at hD ⊢
  have hA : ∀ q : Nat, s.heap.size ≤ q → A q := zA_of hAe
  have hS : va_S A s.heap s.heap [] := va_S.rf
  have hP : va_P (dC, dI) vwCl [(a0, .inr (1, [.int 0, .int 0, .null, .null, .null, .null, .null, .int 0, .null, .null, .int 0, .null, .null, .null, .null, .int 0, .null]))] s.heap := hP
  have hl := lv_entry ([.ref a0]) (n := 1) (Nat.le_of_ble_eq_true rfl)
  rw [lg_entry_eq]
  generalize (lg_sl ([.ref a0]) ++ List.replicate (1 - (lg_sl ([.ref a0])).length) Slot.unset).toArray = ls at hl ⊢
  have hl : lv_has ls 1 [(0, .ref a0)] := hl
  refine lv_aload_n hx hb dX1_init_0 rfl (lv_at hl 0 rfl) ?_
  refine W.objInit hx hb hown (kX1_init_1 hts) (kX1_init_2 hts) (kX1_init_3 hts) rfl (by rw [hml]; exact hl.1) rfl dX1_init_1 (Nat.le_of_ble_eq_true rfl) (Nat.le_of_ble_eq_true rfl) ?_
  refine W.eq (g2 := F0 m 4 ls []) rfl ?_
  refine lv_aload_n hx hb dX1_init_4 rfl (lv_at hl 0 rfl) ?_
  refine lv_bipush (v := 12) hx hb dX1_init_5 (by decide) ?_
  refine z_newi hx hb (kX1_init_4 hts) hK hP hD hS hA 12 (by decide) (by decide) (by decide) (Nat.le_of_ble_eq_true rfl) (Nat.le_of_ble_eq_true rfl) dX1_init_7 (fun q1 H hP hD hS => ?_)
  refine W.widen (k := 1) (n := 12) (Nat.le_of_ble_eq_true rfl) (Nat.le_of_ble_eq_true rfl) ?_
  obtain ⟨hP, hD⟩ := z_re (L := [(a0, .inr (1, [.int 0, .int 0, .null, .null, .null, .null, .null, .int 0, .null, .null, .int 0, .null, .null, .null, .null, .int 0, .null])), (q1, .inl (kA 0, 12, .inl (fun _ => 0)))]) hP hD
  refine va_putF (D := (dC, dI)) (ci := 1) (v := .ref q1) (ty := .array (.int)) (C := RX1) (T := TX1) (N := 17) hx hb hts iX1_init_X1 tyX1 tyX1_ok nmX1 hown hK.1 hP hD hS 0 rfl rfl 2 (by decide) (kX1_init_5 hts) (fun _ h9 => h9) rfl hin rfl (by decide +kernel) rfl rfl (Nat.le_of_ble_eq_true rfl) dX1_init_9 (fun H locs hP hD hS => ?_)
  obtain ⟨hP, hD⟩ := z_re (L := [(a0, .inr (1, [.int 0, .int 0, .ref q1, .null, .null, .null, .null, .int 0, .null, .null, .int 0, .null, .null, .null, .null, .int 0, .null])), (q1, .inl (kA 0, 12, .inl (fun _ => 0)))]) hP hD
  refine lv_aload_n hx hb dX1_init_12 rfl (lv_at hl 0 rfl) ?_
  refine lv_bipush (v := 12) hx hb dX1_init_13 (by decide) ?_
  refine z_newi hx hb (kX1_init_4 hts) hK hP hD hS hA 12 (by decide) (by decide) (by decide) (Nat.le_of_ble_eq_true rfl) (Nat.le_of_ble_eq_true rfl) dX1_init_15 (fun q2 H hP hD hS => ?_)
  refine W.widen (k := 2) (n := 24) (Nat.le_of_ble_eq_true rfl) (Nat.le_of_ble_eq_true rfl) ?_
  obtain ⟨hP, hD⟩ := z_re (L := [(a0, .inr (1, [.int 0, .int 0, .ref q1, .null, .null, .null, .null, .int 0, .null, .null, .int 0, .null, .null, .null, .null, .int 0, .null])), (q1, .inl (kA 0, 12, .inl (fun _ => 0))), (q2, .inl (kA 0, 12, .inl (fun _ => 0)))]) hP hD
  refine va_putF (D := (dC, dI)) (ci := 1) (v := .ref q2) (ty := .array (.int)) (C := RX1) (T := TX1) (N := 17) hx hb hts iX1_init_X1 tyX1 tyX1_ok nmX1 hown hK.1 hP hD hS 0 rfl rfl 3 (by decide) (kX1_init_6 hts) (fun _ h9 => h9) rfl hin rfl (by decide +kernel) rfl rfl (Nat.le_of_ble_eq_true rfl) dX1_init_17 (fun H locs hP hD hS => ?_)
  obtain ⟨hP, hD⟩ := z_re (L := [(a0, .inr (1, [.int 0, .int 0, .ref q1, .ref q2, .null, .null, .null, .int 0, .null, .null, .int 0, .null, .null, .null, .null, .int 0, .null])), (q1, .inl (kA 0, 12, .inl (fun _ => 0))), (q2, .inl (kA 0, 12, .inl (fun _ => 0)))]) hP hD
  refine lv_aload_n hx hb dX1_init_20 rfl (lv_at hl 0 rfl) ?_
  refine lv_bipush (v := 12) hx hb dX1_init_21 (by decide) ?_
  refine z_newi hx hb (kX1_init_4 hts) hK hP hD hS hA 12 (by decide) (by decide) (by decide) (Nat.le_of_ble_eq_true rfl) (Nat.le_of_ble_eq_true rfl) dX1_init_23 (fun q3 H hP hD hS => ?_)
  refine W.widen (k := 3) (n := 36) (Nat.le_of_ble_eq_true rfl) (Nat.le_of_ble_eq_true rfl) ?_
  obtain ⟨hP, hD⟩ := z_re (L := [(a0, .inr (1, [.int 0, .int 0, .ref q1, .ref q2, .null, .null, .null, .int 0, .null, .null, .int 0, .null, .null, .null, .null, .int 0, .null])), (q1, .inl (kA 0, 12, .inl (fun _ => 0))), (q2, .inl (kA 0, 12, .inl (fun _ => 0))), (q3, .inl (kA 0, 12, .inl (fun _ => 0)))]) hP hD
  refine va_putF (D := (dC, dI)) (ci := 1) (v := .ref q3) (ty := .array (.int)) (C := RX1) (T := TX1) (N := 17) hx hb hts iX1_init_X1 tyX1 tyX1_ok nmX1 hown hK.1 hP hD hS 0 rfl rfl 4 (by decide) (kX1_init_7 hts) (fun _ h9 => h9) rfl hin rfl (by decide +kernel) rfl rfl (Nat.le_of_ble_eq_true rfl) dX1_init_25 (fun H locs hP hD hS => ?_)
  obtain ⟨hP, hD⟩ := z_re (L := [(a0, .inr (1, [.int 0, .int 0, .ref q1, .ref q2, .ref q3, .null, .null, .int 0, .null, .null, .int 0, .null, .null, .null, .null, .int 0, .null])), (q1, .inl (kA 0, 12, .inl (fun _ => 0))), (q2, .inl (kA 0, 12, .inl (fun _ => 0))), (q3, .inl (kA 0, 12, .inl (fun _ => 0)))]) hP hD
  refine lv_aload_n hx hb dX1_init_28 rfl (lv_at hl 0 rfl) ?_
  refine lv_bipush (v := 12) hx hb dX1_init_29 (by decide) ?_
  refine z_newi hx hb (kX1_init_4 hts) hK hP hD hS hA 12 (by decide) (by decide) (by decide) (Nat.le_of_ble_eq_true rfl) (Nat.le_of_ble_eq_true rfl) dX1_init_31 (fun q4 H hP hD hS => ?_)
  refine W.widen (k := 4) (n := 48) (Nat.le_of_ble_eq_true rfl) (Nat.le_of_ble_eq_true rfl) ?_
  obtain ⟨hP, hD⟩ := z_re (L := [(a0, .inr (1, [.int 0, .int 0, .ref q1, .ref q2, .ref q3, .null, .null, .int 0, .null, .null, .int 0, .null, .null, .null, .null, .int 0, .null])), (q1, .inl (kA 0, 12, .inl (fun _ => 0))), (q2, .inl (kA 0, 12, .inl (fun _ => 0))), (q3, .inl (kA 0, 12, .inl (fun _ => 0))), (q4, .inl (kA 0, 12, .inl (fun _ => 0)))]) hP hD
  refine va_putF (D := (dC, dI)) (ci := 1) (v := .ref q4) (ty := .array (.int)) (C := RX1) (T := TX1) (N := 17) hx hb hts iX1_init_X1 tyX1 tyX1_ok nmX1 hown hK.1 hP hD hS 0 rfl rfl 5 (by decide) (kX1_init_8 hts) (fun _ h9 => h9) rfl hin rfl (by decide +kernel) rfl rfl (Nat.le_of_ble_eq_true rfl) dX1_init_33 (fun H locs hP hD hS => ?_)
  obtain ⟨hP, hD⟩ := z_re (L := [(a0, .inr (1, [.int 0, .int 0, .ref q1, .ref q2, .ref q3, .ref q4, .null, .int 0, .null, .null, .int 0, .null, .null, .null, .null, .int 0, .null])), (q1, .inl (kA 0, 12, .inl (fun _ => 0))), (q2, .inl (kA 0, 12, .inl (fun _ => 0))), (q3, .inl (kA 0, 12, .inl (fun _ => 0))), (q4, .inl (kA 0, 12, .inl (fun _ => 0)))]) hP hD
  refine lv_aload_n hx hb dX1_init_36 rfl (lv_at hl 0 rfl) ?_
  refine lv_bipush (v := 12) hx hb dX1_init_37 (by decide) ?_
  refine z_newi hx hb (kX1_init_4 hts) hK hP hD hS hA 12 (by decide) (by decide) (by decide) (Nat.le_of_ble_eq_true rfl) (Nat.le_of_ble_eq_true rfl) dX1_init_39 (fun q5 H hP hD hS => ?_)
  refine W.widen (k := 5) (n := 60) (Nat.le_of_ble_eq_true rfl) (Nat.le_of_ble_eq_true rfl) ?_
  obtain ⟨hP, hD⟩ := z_re (L := [(a0, .inr (1, [.int 0, .int 0, .ref q1, .ref q2, .ref q3, .ref q4, .null, .int 0, .null, .null, .int 0, .null, .null, .null, .null, .int 0, .null])), (q1, .inl (kA 0, 12, .inl (fun _ => 0))), (q2, .inl (kA 0, 12, .inl (fun _ => 0))), (q3, .inl (kA 0, 12, .inl (fun _ => 0))), (q4, .inl (kA 0, 12, .inl (fun _ => 0))), (q5, .inl (kA 0, 12, .inl (fun _ => 0)))]) hP hD
  refine va_putF (D := (dC, dI)) (ci := 1) (v := .ref q5) (ty := .array (.int)) (C := RX1) (T := TX1) (N := 17) hx hb hts iX1_init_X1 tyX1 tyX1_ok nmX1 hown hK.1 hP hD hS 0 rfl rfl 6 (by decide) (kX1_init_9 hts) (fun _ h9 => h9) rfl hin rfl (by decide +kernel) rfl rfl (Nat.le_of_ble_eq_true rfl) dX1_init_41 (fun H locs hP hD hS => ?_)
  obtain ⟨hP, hD⟩ := z_re (L := [(a0, .inr (1, [.int 0, .int 0, .ref q1, .ref q2, .ref q3, .ref q4, .ref q5, .int 0, .null, .null, .int 0, .null, .null, .null, .null, .int 0, .null])), (q1, .inl (kA 0, 12, .inl (fun _ => 0))), (q2, .inl (kA 0, 12, .inl (fun _ => 0))), (q3, .inl (kA 0, 12, .inl (fun _ => 0))), (q4, .inl (kA 0, 12, .inl (fun _ => 0))), (q5, .inl (kA 0, 12, .inl (fun _ => 0)))]) hP hD
  refine lv_aload_n hx hb dX1_init_44 rfl (lv_at hl 0 rfl) ?_
  refine lv_bipush (v := 60) hx hb dX1_init_45 (by decide) ?_
  refine z_newi hx hb (kX1_init_4 hts) hK hP hD hS hA 60 (by decide) (by decide) (by decide) (Nat.le_of_ble_eq_true rfl) (Nat.le_of_ble_eq_true rfl) dX1_init_47 (fun q6 H hP hD hS => ?_)
  refine W.widen (k := 6) (n := 120) (Nat.le_of_ble_eq_true rfl) (Nat.le_of_ble_eq_true rfl) ?_
  obtain ⟨hP, hD⟩ := z_re (L := [(a0, .inr (1, [.int 0, .int 0, .ref q1, .ref q2, .ref q3, .ref q4, .ref q5, .int 0, .null, .null, .int 0, .null, .null, .null, .null, .int 0, .null])), (q1, .inl (kA 0, 12, .inl (fun _ => 0))), (q2, .inl (kA 0, 12, .inl (fun _ => 0))), (q3, .inl (kA 0, 12, .inl (fun _ => 0))), (q4, .inl (kA 0, 12, .inl (fun _ => 0))), (q5, .inl (kA 0, 12, .inl (fun _ => 0))), (q6, .inl (kA 0, 60, .inl (fun _ => 0)))]) hP hD
  refine va_putF (D := (dC, dI)) (ci := 1) (v := .ref q6) (ty := .array (.int)) (C := RX1) (T := TX1) (N := 17) hx hb hts iX1_init_X1 tyX1 tyX1_ok nmX1 hown hK.1 hP hD hS 0 rfl rfl 8 (by decide) (kX1_init_10 hts) (fun _ h9 => h9) rfl hin rfl (by decide +kernel) rfl rfl (Nat.le_of_ble_eq_true rfl) dX1_init_49 (fun H locs hP hD hS => ?_)
  obtain ⟨hP, hD⟩ := z_re (L := [(a0, .inr (1, [.int 0, .int 0, .ref q1, .ref q2, .ref q3, .ref q4, .ref q5, .int 0, .ref q6, .null, .int 0, .null, .null, .null, .null, .int 0, .null])), (q1, .inl (kA 0, 12, .inl (fun _ => 0))), (q2, .inl (kA 0, 12, .inl (fun _ => 0))), (q3, .inl (kA 0, 12, .inl (fun _ => 0))), (q4, .inl (kA 0, 12, .inl (fun _ => 0))), (q5, .inl (kA 0, 12, .inl (fun _ => 0))), (q6, .inl (kA 0, 60, .inl (fun _ => 0)))]) hP hD
  refine lv_aload_n hx hb dX1_init_52 rfl (lv_at hl 0 rfl) ?_
  refine lv_bipush (v := 60) hx hb dX1_init_53 (by decide) ?_
  refine z_newi hx hb (kX1_init_4 hts) hK hP hD hS hA 60 (by decide) (by decide) (by decide) (Nat.le_of_ble_eq_true rfl) (Nat.le_of_ble_eq_true rfl) dX1_init_55 (fun q7 H hP hD hS => ?_)
  refine W.widen (k := 7) (n := 180) (Nat.le_of_ble_eq_true rfl) (Nat.le_of_ble_eq_true rfl) ?_
  obtain ⟨hP, hD⟩ := z_re (L := [(a0, .inr (1, [.int 0, .int 0, .ref q1, .ref q2, .ref q3, .ref q4, .ref q5, .int 0, .ref q6, .null, .int 0, .null, .null, .null, .null, .int 0, .null])), (q1, .inl (kA 0, 12, .inl (fun _ => 0))), (q2, .inl (kA 0, 12, .inl (fun _ => 0))), (q3, .inl (kA 0, 12, .inl (fun _ => 0))), (q4, .inl (kA 0, 12, .inl (fun _ => 0))), (q5, .inl (kA 0, 12, .inl (fun _ => 0))), (q6, .inl (kA 0, 60, .inl (fun _ => 0))), (q7, .inl (kA 0, 60, .inl (fun _ => 0)))]) hP hD
  refine va_putF (D := (dC, dI)) (ci := 1) (v := .ref q7) (ty := .array (.int)) (C := RX1) (T := TX1) (N := 17) hx hb hts iX1_init_X1 tyX1 tyX1_ok nmX1 hown hK.1 hP hD hS 0 rfl rfl 9 (by decide) (kX1_init_11 hts) (fun _ h9 => h9) rfl hin rfl (by decide +kernel) rfl rfl (Nat.le_of_ble_eq_true rfl) dX1_init_57 (fun H locs hP hD hS => ?_)
  obtain ⟨hP, hD⟩ := z_re (L := [(a0, .inr (1, [.int 0, .int 0, .ref q1, .ref q2, .ref q3, .ref q4, .ref q5, .int 0, .ref q6, .ref q7, .int 0, .null, .null, .null, .null, .int 0, .null])), (q1, .inl (kA 0, 12, .inl (fun _ => 0))), (q2, .inl (kA 0, 12, .inl (fun _ => 0))), (q3, .inl (kA 0, 12, .inl (fun _ => 0))), (q4, .inl (kA 0, 12, .inl (fun _ => 0))), (q5, .inl (kA 0, 12, .inl (fun _ => 0))), (q6, .inl (kA 0, 60, .inl (fun _ => 0))), (q7, .inl (kA 0, 60, .inl (fun _ => 0)))]) hP hD
  refine lv_aload_n hx hb dX1_init_60 rfl (lv_at hl 0 rfl) ?_
  refine lv_bipush (v := 20) hx hb dX1_init_61 (by decide) ?_
  refine z_newi hx hb (kX1_init_4 hts) hK hP hD hS hA 20 (by decide) (by decide) (by decide) (Nat.le_of_ble_eq_true rfl) (Nat.le_of_ble_eq_true rfl) dX1_init_63 (fun q8 H hP hD hS => ?_)
  refine W.widen (k := 8) (n := 200) (Nat.le_of_ble_eq_true rfl) (Nat.le_of_ble_eq_true rfl) ?_
  obtain ⟨hP, hD⟩ := z_re (L := [(a0, .inr (1, [.int 0, .int 0, .ref q1, .ref q2, .ref q3, .ref q4, .ref q5, .int 0, .ref q6, .ref q7, .int 0, .null, .null, .null, .null, .int 0, .null])), (q1, .inl (kA 0, 12, .inl (fun _ => 0))), (q2, .inl (kA 0, 12, .inl (fun _ => 0))), (q3, .inl (kA 0, 12, .inl (fun _ => 0))), (q4, .inl (kA 0, 12, .inl (fun _ => 0))), (q5, .inl (kA 0, 12, .inl (fun _ => 0))), (q6, .inl (kA 0, 60, .inl (fun _ => 0))), (q7, .inl (kA 0, 60, .inl (fun _ => 0))), (q8, .inl (kA 0, 20, .inl (fun _ => 0)))]) hP hD
  refine va_putF (D := (dC, dI)) (ci := 1) (v := .ref q8) (ty := .array (.int)) (C := RX1) (T := TX1) (N := 17) hx hb hts iX1_init_X1 tyX1 tyX1_ok nmX1 hown hK.1 hP hD hS 0 rfl rfl 11 (by decide) (kX1_init_12 hts) (fun _ h9 => h9) rfl hin rfl (by decide +kernel) rfl rfl (Nat.le_of_ble_eq_true rfl) dX1_init_65 (fun H locs hP hD hS => ?_)
  obtain ⟨hP, hD⟩ := z_re (L := [(a0, .inr (1, [.int 0, .int 0, .ref q1, .ref q2, .ref q3, .ref q4, .ref q5, .int 0, .ref q6, .ref q7, .int 0, .ref q8, .null, .null, .null, .int 0, .null])), (q1, .inl (kA 0, 12, .inl (fun _ => 0))), (q2, .inl (kA 0, 12, .inl (fun _ => 0))), (q3, .inl (kA 0, 12, .inl (fun _ => 0))), (q4, .inl (kA 0, 12, .inl (fun _ => 0))), (q5, .inl (kA 0, 12, .inl (fun _ => 0))), (q6, .inl (kA 0, 60, .inl (fun _ => 0))), (q7, .inl (kA 0, 60, .inl (fun _ => 0))), (q8, .inl (kA 0, 20, .inl (fun _ => 0)))]) hP hD
  refine lv_aload_n hx hb dX1_init_68 rfl (lv_at hl 0 rfl) ?_
  refine lv_bipush (v := 20) hx hb dX1_init_69 (by decide) ?_
  refine z_newi hx hb (kX1_init_4 hts) hK hP hD hS hA 20 (by decide) (by decide) (by decide) (Nat.le_of_ble_eq_true rfl) (Nat.le_of_ble_eq_true rfl) dX1_init_71 (fun q9 H hP hD hS => ?_)
  refine W.widen (k := 9) (n := 220) (Nat.le_of_ble_eq_true rfl) (Nat.le_of_ble_eq_true rfl) ?_
  obtain ⟨hP, hD⟩ := z_re (L := [(a0, .inr (1, [.int 0, .int 0, .ref q1, .ref q2, .ref q3, .ref q4, .ref q5, .int 0, .ref q6, .ref q7, .int 0, .ref q8, .null, .null, .null, .int 0, .null])), (q1, .inl (kA 0, 12, .inl (fun _ => 0))), (q2, .inl (kA 0, 12, .inl (fun _ => 0))), (q3, .inl (kA 0, 12, .inl (fun _ => 0))), (q4, .inl (kA 0, 12, .inl (fun _ => 0))), (q5, .inl (kA 0, 12, .inl (fun _ => 0))), (q6, .inl (kA 0, 60, .inl (fun _ => 0))), (q7, .inl (kA 0, 60, .inl (fun _ => 0))), (q8, .inl (kA 0, 20, .inl (fun _ => 0))), (q9, .inl (kA 0, 20, .inl (fun _ => 0)))]) hP hD
  refine va_putF (D := (dC, dI)) (ci := 1) (v := .ref q9) (ty := .array (.int)) (C := RX1) (T := TX1) (N := 17) hx hb hts iX1_init_X1 tyX1 tyX1_ok nmX1 hown hK.1 hP hD hS 0 rfl rfl 12 (by decide) (kX1_init_13 hts) (fun _ h9 => h9) rfl hin rfl (by decide +kernel) rfl rfl (Nat.le_of_ble_eq_true rfl) dX1_init_73 (fun H locs hP hD hS => ?_)
  obtain ⟨hP, hD⟩ := z_re (L := [(a0, .inr (1, [.int 0, .int 0, .ref q1, .ref q2, .ref q3, .ref q4, .ref q5, .int 0, .ref q6, .ref q7, .int 0, .ref q8, .ref q9, .null, .null, .int 0, .null])), (q1, .inl (kA 0, 12, .inl (fun _ => 0))), (q2, .inl (kA 0, 12, .inl (fun _ => 0))), (q3, .inl (kA 0, 12, .inl (fun _ => 0))), (q4, .inl (kA 0, 12, .inl (fun _ => 0))), (q5, .inl (kA 0, 12, .inl (fun _ => 0))), (q6, .inl (kA 0, 60, .inl (fun _ => 0))), (q7, .inl (kA 0, 60, .inl (fun _ => 0))), (q8, .inl (kA 0, 20, .inl (fun _ => 0))), (q9, .inl (kA 0, 20, .inl (fun _ => 0)))]) hP hD
  refine lv_aload_n hx hb dX1_init_76 rfl (lv_at hl 0 rfl) ?_
  refine lv_bipush (v := 20) hx hb dX1_init_77 (by decide) ?_
  refine z_newi hx hb (kX1_init_4 hts) hK hP hD hS hA 20 (by decide) (by decide) (by decide) (Nat.le_of_ble_eq_true rfl) (Nat.le_of_ble_eq_true rfl) dX1_init_79 (fun q10 H hP hD hS => ?_)
  refine W.widen (k := 10) (n := 240) (Nat.le_of_ble_eq_true rfl) (Nat.le_of_ble_eq_true rfl) ?_
  obtain ⟨hP, hD⟩ := z_re (L := [(a0, .inr (1, [.int 0, .int 0, .ref q1, .ref q2, .ref q3, .ref q4, .ref q5, .int 0, .ref q6, .ref q7, .int 0, .ref q8, .ref q9, .null, .null, .int 0, .null])), (q1, .inl (kA 0, 12, .inl (fun _ => 0))), (q2, .inl (kA 0, 12, .inl (fun _ => 0))), (q3, .inl (kA 0, 12, .inl (fun _ => 0))), (q4, .inl (kA 0, 12, .inl (fun _ => 0))), (q5, .inl (kA 0, 12, .inl (fun _ => 0))), (q6, .inl (kA 0, 60, .inl (fun _ => 0))), (q7, .inl (kA 0, 60, .inl (fun _ => 0))), (q8, .inl (kA 0, 20, .inl (fun _ => 0))), (q9, .inl (kA 0, 20, .inl (fun _ => 0))), (q10, .inl (kA 0, 20, .inl (fun _ => 0)))]) hP hD
  refine va_putF (D := (dC, dI)) (ci := 1) (v := .ref q10) (ty := .array (.int)) (C := RX1) (T := TX1) (N := 17) hx hb hts iX1_init_X1 tyX1 tyX1_ok nmX1 hown hK.1 hP hD hS 0 rfl rfl 13 (by decide) (kX1_init_14 hts) (fun _ h9 => h9) rfl hin rfl (by decide +kernel) rfl rfl (Nat.le_of_ble_eq_true rfl) dX1_init_81 (fun H locs hP hD hS => ?_)
  obtain ⟨hP, hD⟩ := z_re (L := [(a0, .inr (1, [.int 0, .int 0, .ref q1, .ref q2, .ref q3, .ref q4, .ref q5, .int 0, .ref q6, .ref q7, .int 0, .ref q8, .ref q9, .ref q10, .null, .int 0, .null])), (q1, .inl (kA 0, 12, .inl (fun _ => 0))), (q2, .inl (kA 0, 12, .inl (fun _ => 0))), (q3, .inl (kA 0, 12, .inl (fun _ => 0))), (q4, .inl (kA 0, 12, .inl (fun _ => 0))), (q5, .inl (kA 0, 12, .inl (fun _ => 0))), (q6, .inl (kA 0, 60, .inl (fun _ => 0))), (q7, .inl (kA 0, 60, .inl (fun _ => 0))), (q8, .inl (kA 0, 20, .inl (fun _ => 0))), (q9, .inl (kA 0, 20, .inl (fun _ => 0))), (q10, .inl (kA 0, 20, .inl (fun _ => 0)))]) hP hD
  refine lv_aload_n hx hb dX1_init_84 rfl (lv_at hl 0 rfl) ?_
  refine lv_bipush (v := 20) hx hb dX1_init_85 (by decide) ?_
  refine z_newi hx hb (kX1_init_4 hts) hK hP hD hS hA 20 (by decide) (by decide) (by decide) (Nat.le_of_ble_eq_true rfl) (Nat.le_of_ble_eq_true rfl) dX1_init_87 (fun q11 H hP hD hS => ?_)
  refine W.widen (k := 11) (n := 260) (Nat.le_of_ble_eq_true rfl) (Nat.le_of_ble_eq_true rfl) ?_
  obtain ⟨hP, hD⟩ := z_re (L := [(a0, .inr (1, [.int 0, .int 0, .ref q1, .ref q2, .ref q3, .ref q4, .ref q5, .int 0, .ref q6, .ref q7, .int 0, .ref q8, .ref q9, .ref q10, .null, .int 0, .null])), (q1, .inl (kA 0, 12, .inl (fun _ => 0))), (q2, .inl (kA 0, 12, .inl (fun _ => 0))), (q3, .inl (kA 0, 12, .inl (fun _ => 0))), (q4, .inl (kA 0, 12, .inl (fun _ => 0))), (q5, .inl (kA 0, 12, .inl (fun _ => 0))), (q6, .inl (kA 0, 60, .inl (fun _ => 0))), (q7, .inl (kA 0, 60, .inl (fun _ => 0))), (q8, .inl (kA 0, 20, .inl (fun _ => 0))), (q9, .inl (kA 0, 20, .inl (fun _ => 0))), (q10, .inl (kA 0, 20, .inl (fun _ => 0))), (q11, .inl (kA 0, 20, .inl (fun _ => 0)))]) hP hD
  refine va_putF (D := (dC, dI)) (ci := 1) (v := .ref q11) (ty := .array (.int)) (C := RX1) (T := TX1) (N := 17) hx hb hts iX1_init_X1 tyX1 tyX1_ok nmX1 hown hK.1 hP hD hS 0 rfl rfl 14 (by decide) (kX1_init_15 hts) (fun _ h9 => h9) rfl hin rfl (by decide +kernel) rfl rfl (Nat.le_of_ble_eq_true rfl) dX1_init_89 (fun H locs hP hD hS => ?_)
  obtain ⟨hP, hD⟩ := z_re (L := [(a0, .inr (1, [.int 0, .int 0, .ref q1, .ref q2, .ref q3, .ref q4, .ref q5, .int 0, .ref q6, .ref q7, .int 0, .ref q8, .ref q9, .ref q10, .ref q11, .int 0, .null])), (q1, .inl (kA 0, 12, .inl (fun _ => 0))), (q2, .inl (kA 0, 12, .inl (fun _ => 0))), (q3, .inl (kA 0, 12, .inl (fun _ => 0))), (q4, .inl (kA 0, 12, .inl (fun _ => 0))), (q5, .inl (kA 0, 12, .inl (fun _ => 0))), (q6, .inl (kA 0, 60, .inl (fun _ => 0))), (q7, .inl (kA 0, 60, .inl (fun _ => 0))), (q8, .inl (kA 0, 20, .inl (fun _ => 0))), (q9, .inl (kA 0, 20, .inl (fun _ => 0))), (q10, .inl (kA 0, 20, .inl (fun _ => 0))), (q11, .inl (kA 0, 20, .inl (fun _ => 0)))]) hP hD
  refine lv_aload_n hx hb dX1_init_92 rfl (lv_at hl 0 rfl) ?_
  refine lv_sipush (v := 256) hx hb dX1_init_93 (by decide) ?_
  refine z_newi hx hb (kX1_init_4 hts) hK hP hD hS hA 256 (by decide) (by decide) (by decide) (Nat.le_of_ble_eq_true rfl) (Nat.le_of_ble_eq_true rfl) dX1_init_96 (fun q12 H hP hD hS => ?_)
  refine W.widen (k := 12) (n := 516) (Nat.le_of_ble_eq_true rfl) (Nat.le_of_ble_eq_true rfl) ?_
  obtain ⟨hP, hD⟩ := z_re (L := [(a0, .inr (1, [.int 0, .int 0, .ref q1, .ref q2, .ref q3, .ref q4, .ref q5, .int 0, .ref q6, .ref q7, .int 0, .ref q8, .ref q9, .ref q10, .ref q11, .int 0, .null])), (q1, .inl (kA 0, 12, .inl (fun _ => 0))), (q2, .inl (kA 0, 12, .inl (fun _ => 0))), (q3, .inl (kA 0, 12, .inl (fun _ => 0))), (q4, .inl (kA 0, 12, .inl (fun _ => 0))), (q5, .inl (kA 0, 12, .inl (fun _ => 0))), (q6, .inl (kA 0, 60, .inl (fun _ => 0))), (q7, .inl (kA 0, 60, .inl (fun _ => 0))), (q8, .inl (kA 0, 20, .inl (fun _ => 0))), (q9, .inl (kA 0, 20, .inl (fun _ => 0))), (q10, .inl (kA 0, 20, .inl (fun _ => 0))), (q11, .inl (kA 0, 20, .inl (fun _ => 0))), (q12, .inl (kA 0, 256, .inl (fun _ => 0)))]) hP hD
  refine va_putF (D := (dC, dI)) (ci := 1) (v := .ref q12) (ty := .array (.int)) (C := RX1) (T := TX1) (N := 17) hx hb hts iX1_init_X1 tyX1 tyX1_ok nmX1 hown hK.1 hP hD hS 0 rfl rfl 16 (by decide) (kX1_init_16 hts) (fun _ h9 => h9) rfl hin rfl (by decide +kernel) rfl rfl (Nat.le_of_ble_eq_true rfl) dX1_init_98 (fun H locs hP hD hS => ?_)
  obtain ⟨hP, hD⟩ := z_re (L := [(a0, .inr (1, [.int 0, .int 0, .ref q1, .ref q2, .ref q3, .ref q4, .ref q5, .int 0, .ref q6, .ref q7, .int 0, .ref q8, .ref q9, .ref q10, .ref q11, .int 0, .ref q12])), (q1, .inl (kA 0, 12, .inl (fun _ => 0))), (q2, .inl (kA 0, 12, .inl (fun _ => 0))), (q3, .inl (kA 0, 12, .inl (fun _ => 0))), (q4, .inl (kA 0, 12, .inl (fun _ => 0))), (q5, .inl (kA 0, 12, .inl (fun _ => 0))), (q6, .inl (kA 0, 60, .inl (fun _ => 0))), (q7, .inl (kA 0, 60, .inl (fun _ => 0))), (q8, .inl (kA 0, 20, .inl (fun _ => 0))), (q9, .inl (kA 0, 20, .inl (fun _ => 0))), (q10, .inl (kA 0, 20, .inl (fun _ => 0))), (q11, .inl (kA 0, 20, .inl (fun _ => 0))), (q12, .inl (kA 0, 256, .inl (fun _ => 0)))]) hP hD
  obtain ⟨hP9, hD9⟩ := z_sb (L' := [(a0, .inr (1, [.int 0, .int 0, .ref q1, .ref q2, .ref q3, .ref q4, .ref q5, .int 0, .ref q6, .ref q7, .int 0, .ref q8, .ref q9, .ref q10, .ref q11, .int 0, .ref q12])), (q1, .inl (kA 0, 12, .inl (fun _ => 0))), (q2, .inl (kA 0, 12, .inl (fun _ => 0))), (q3, .inl (kA 0, 12, .inl (fun _ => 0))), (q4, .inl (kA 0, 12, .inl (fun _ => 0))), (q5, .inl (kA 0, 12, .inl (fun _ => 0))), (q6, .inl (kA 0, 60, .inl (fun _ => 0))), (q7, .inl (kA 0, 60, .inl (fun _ => 0))), (q8, .inl (kA 0, 20, .inl (fun _ => 0))), (q9, .inl (kA 0, 20, .inl (fun _ => 0))), (q10, .inl (kA 0, 20, .inl (fun _ => 0))), (q11, .inl (kA 0, 20, .inl (fun _ => 0))), (q12, .inl (kA 0, 256, .inl (fun _ => 0)))]) hP hD [0, 1, 2, 3, 4, 5, 6, 7, 8, 9, 10, 11, 12] (by decide) rfl
  refine W.widen (k := 12) (n := 516) (Nat.le_of_ble_eq_true rfl) (Nat.le_of_ble_eq_true rfl) ?_
  exact W.vret hx hb hr (fun t ht hW => ⟨⟨(q1, q2, q3, q4, q5, q6, q7, q8, q9, q10, q11, q12), rfl, trivial, by rw [ht]; exact hP9, hD9⟩, hS.F ht⟩) hS.2.2 dX1_init_101
set_option maxRecDepth 100000 in
def fX6_copyFrom_x48 (fa : Nat → Int32) (ga : Nat → Int32) : (Nat → Int32) := bnd ((va_cpy ga fa (0 : Int32).toNatClampNeg (0 : Int32).toNatClampNeg (48 : Int32).toNatClampNeg)) (fun (f2 : Nat → Int32) => f2)
set_option maxHeartbeats 4000000 in
set_option maxRecDepth 100000 in
theorem mX6_copyFrom_x48 (l : Launch) (dC : Nat → ClassId) (dI : Nat → Nat → Nat) (kA : Nat → ClassId) (sz : Nat) (a0 : Nat) (a1 : Nat) (wd : Int32) (zs : Int32) (fa : Nat → Int32) (b0 : Nat) (b1 : Nat) (wd2 : Int32) (zs2 : Int32) (ga : Nat → Int32)  : Met l yX6_copyFrom wsX6_copyFrom ({ frames := 1, cells := 0, slots := 0, locals := 60 }) (zPc dC dI kA sz [.ref a0, .ref b0] [(a0, .inr (6, [.int wd, .ref a1, .int zs])), (a1, .inl (kA 0, 48, .inl fa)), (b0, .inr (6, [.int wd2, .ref b1, .int zs2])), (b1, .inl (kA 0, 48, .inl ga))]) (va_Qv (fun (u : (Nat → Int32)) => u = fX6_copyFrom_x48 fa ga) (zB dC dI (va_A [(a0, .inr (6, [.int wd, .ref a1, .int zs])), (a1, .inl (kA 0, 48, .inl fa)), (b0, .inr (6, [.int wd2, .ref b1, .int zs2])), (b1, .inl (kA 0, 48, .inl ga))] sz) (fun (u : (Nat → Int32)) => [(a0, .inr (6, [.int wd, .ref a1, .int zs2])), (a1, .inl (kA 0, 48, .inl u)), (b0, .inr (6, [.int wd2, .ref b1, .int zs2])), (b1, .inl (kA 0, 48, .inl ga))])) (va_A [(a0, .inr (6, [.int wd, .ref a1, .int zs])), (a1, .inl (kA 0, 48, .inl fa)), (b0, .inr (6, [.int wd2, .ref b1, .int zs2])), (b1, .inl (kA 0, 48, .inl ga))] sz)) 0 0 (va_A [(a0, .inr (6, [.int wd, .ref a1, .int zs])), (a1, .inl (kA 0, 48, .inl fa)), (b0, .inr (6, [.int wd2, .ref b1, .int zs2])), (b1, .inl (kA 0, 48, .inl ga))] sz) := by
  refine Met.ofW (cc := cX6_copyFrom) (maxL := 2) (ret := none) pnX6 rfl ?_
  intro p e s m args below meth c s₁ B hml hv
  obtain ⟨rfl, hsz, hP, hK, hD0⟩ := hv
  have hx := B.exec
  have hb := B.bytes
  have hr := B.returns
  have hts := atoms_spec (ws := wsX6_copyFrom) B.pre
  have hown : s.vm.findClass RX6 = some m.cls := findClass_of_methodNamed B.named
  have hlocks := B.notSynchronized
  subst hsz
  have hD := hD0.self (sz := s.heap.size)
  generalize hAe : va_A [(a0, .inr (6, [.int wd, .ref a1, .int zs])), (a1, .inl (kA 0, 48, .inl fa)), (b0, .inr (6, [.int wd2, .ref b1, .int zs2])), (b1, .inl (kA 0, 48, .inl ga))] s.heap.size = A at hD ⊢
  have hA : ∀ q : Nat, s.heap.size ≤ q → A q := zA_of hAe
  have hS : va_S A s.heap s.heap [] := va_S.rf
  have hP : va_P (dC, dI) vwCl [(a0, .inr (6, [.int wd, .ref a1, .int zs])), (a1, .inl (kA 0, 48, .inl fa)), (b0, .inr (6, [.int wd2, .ref b1, .int zs2])), (b1, .inl (kA 0, 48, .inl ga))] s.heap := hP
  have hl := lv_entry ([.ref a0, .ref b0]) (n := 2) (Nat.le_of_ble_eq_true rfl)
  rw [lg_entry_eq]
  generalize (lg_sl ([.ref a0, .ref b0]) ++ List.replicate (2 - (lg_sl ([.ref a0, .ref b0])).length) Slot.unset).toArray = ls at hl ⊢
  have hl : lv_has ls 2 [(0, .ref a0), (1, .ref b0)] := hl
  obtain ⟨G, hG0⟩ : ∃ G : (Nat → Int32), fX6_copyFrom_x48 fa ga = G := ⟨_, rfl⟩
  have hG := hG0
  unfold fX6_copyFrom_x48 at hG
  refine lv_aload_n hx hb dX6_copyFrom_0 rfl (lv_at hl 1 rfl) ?_
  refine va_get (D := (dC, dI)) (ci := 6) (v := .ref b1) (C := RX6) (T := TX6) (N := 3) hx hb hts iX6_copyFrom_X6 hown hK.1 hP 2 gz2 vcz6 1 (by decide) (kX6_copyFrom_1 hts) (fun _ h9 => h9) gz1 dX6_copyFrom_1 ?_
  refine va_alen hx hb hK.1 hP 3 0 rfl rfl (v := 48) rfl dX6_copyFrom_4 ?_
  refine lv_aload_n hx hb dX6_copyFrom_5 rfl (lv_at hl 0 rfl) ?_
  refine va_get (D := (dC, dI)) (ci := 6) (v := .ref a1) (C := RX6) (T := TX6) (N := 3) hx hb hts iX6_copyFrom_X6 hown hK.1 hP 0 gz0 vcz6 1 (by decide) (kX6_copyFrom_1 hts) (fun _ h9 => h9) gz1 dX6_copyFrom_6 ?_
  refine va_alen hx hb hK.1 hP 1 0 rfl rfl (v := 48) rfl dX6_copyFrom_9 ?_
  refine lv_icmp_ne (tgt := 39) hx hb dX6_copyFrom_10 (by decide) (fun c_1 => absurd (by decide) c_1) (fun _ => ?_)
  refine lv_aload_n hx hb dX6_copyFrom_13 rfl (lv_at hl 1 rfl) ?_
  refine va_get (D := (dC, dI)) (ci := 6) (v := .ref b1) (C := RX6) (T := TX6) (N := 3) hx hb hts iX6_copyFrom_X6 hown hK.1 hP 2 gz2 vcz6 1 (by decide) (kX6_copyFrom_1 hts) (fun _ h9 => h9) gz1 dX6_copyFrom_14 ?_
  refine lv_iconst (v := 0) hx hb dX6_copyFrom_17 (by decide) ?_
  refine lv_aload_n hx hb dX6_copyFrom_18 rfl (lv_at hl 0 rfl) ?_
  refine va_get (D := (dC, dI)) (ci := 6) (v := .ref a1) (C := RX6) (T := TX6) (N := 3) hx hb hts iX6_copyFrom_X6 hown hK.1 hP 0 gz0 vcz6 1 (by decide) (kX6_copyFrom_1 hts) (fun _ h9 => h9) gz1 dX6_copyFrom_19 ?_
  refine lv_iconst (v := 0) hx hb dX6_copyFrom_22 (by decide) ?_
  refine lv_aload_n hx hb dX6_copyFrom_23 rfl (lv_at hl 0 rfl) ?_
  refine va_get (D := (dC, dI)) (ci := 6) (v := .ref a1) (C := RX6) (T := TX6) (N := 3) hx hb hts iX6_copyFrom_X6 hown hK.1 hP 0 gz0 vcz6 1 (by decide) (kX6_copyFrom_1 hts) (fun _ h9 => h9) gz1 dX6_copyFrom_24 ?_
  refine va_alen hx hb hK.1 hP 1 0 rfl rfl (v := 48) rfl dX6_copyFrom_27 ?_
  refine va_copyi hx hb (by rw [hml]; exact hl.1.symm) hown (kX6_copyFrom_2 hts) (kX6_copyFrom_3 hts) (kX6_copyFrom_4 hts) (kX6_copyFrom_5 hts) hK.1 hP hD hS 3 1 0 0 rfl rfl rfl rfl rfl (by decide) (by decide) (by decide) (by decide) (by decide) (fun _ _ => rfl) (Nat.le_of_ble_eq_true rfl) (Nat.le_of_ble_eq_true rfl) dX6_copyFrom_28 (fun H locs hP hD hS => ?_)
  obtain ⟨hP, hD⟩ := z_re (L := [(a0, .inr (6, [.int wd, .ref a1, .int zs])), (a1, .inl (kA 0, 48, .inl (va_cpy ga fa (0 : Int32).toNatClampNeg (0 : Int32).toNatClampNeg (48 : Int32).toNatClampNeg))), (b0, .inr (6, [.int wd2, .ref b1, .int zs2])), (b1, .inl (kA 0, 48, .inl ga))]) hP hD
  obtain ⟨f2, ef2⟩ : ∃ y : Nat → Int32, y = (va_cpy ga fa (0 : Int32).toNatClampNeg (0 : Int32).toNatClampNeg (48 : Int32).toNatClampNeg) := ⟨_, rfl⟩
  rw [← ef2] at hP hD
  have hG := zbnd hG ef2
  refine lv_aload_n hx hb dX6_copyFrom_31 rfl (lv_at hl 0 rfl) ?_
  refine lv_aload_n hx hb dX6_copyFrom_32 rfl (lv_at hl 1 rfl) ?_
  refine va_get (D := (dC, dI)) (ci := 6) (v := .int zs2) (C := RX6) (T := TX6) (N := 3) hx hb hts iX6_copyFrom_X6 hown hK.1 hP 2 gz2 vcz6 2 (by decide) (kX6_copyFrom_6 hts) (fun _ h9 => h9) gz2 dX6_copyFrom_33 ?_
  refine va_put (D := (dC, dI)) (ci := 6) (v := .int zs2) (ty := .int) (C := RX6) (T := TX6) (N := 3) hx hb hts iX6_copyFrom_X6 tyX6 tyX6_ok nmX6 hown hK.1 hP hD hS 0 gz0 vcz6 2 (by decide) (kX6_copyFrom_6 hts) (fun _ h9 => h9) rfl pfdI rfl rfl (Nat.le_of_ble_eq_true rfl) dX6_copyFrom_36 (fun H locs hP hD hS => ?_)
  obtain ⟨hP, hD⟩ := z_re (L := [(a0, .inr (6, [.int wd, .ref a1, .int zs2])), (a1, .inl (kA 0, 48, .inl f2)), (b0, .inr (6, [.int wd2, .ref b1, .int zs2])), (b1, .inl (kA 0, 48, .inl ga))]) hP hD
  obtain ⟨hP9, hD9⟩ := z_sb (L' := [(a0, .inr (6, [.int wd, .ref a1, .int zs2])), (a1, .inl (kA 0, 48, .inl f2)), (b0, .inr (6, [.int wd2, .ref b1, .int zs2])), (b1, .inl (kA 0, 48, .inl ga))]) hP hD [0, 1, 2, 3] (by decide) rfl
  refine W.widen (k := 0) (n := 0) (Nat.le_of_ble_eq_true rfl) (Nat.le_of_ble_eq_true rfl) ?_
  exact W.vret hx hb hr (fun t ht hW => ⟨⟨(f2), rfl, (hG.trans hG0.symm), by rw [ht]; exact hP9, hD9⟩, hS.F ht⟩) hS.2.2 dX6_copyFrom_39
set_option maxRecDepth 100000 in
def fX6_copyFrom_x100 (fa : Nat → Int32) (ga : Nat → Int32) : (Nat → Int32) := bnd ((va_cpy ga fa (0 : Int32).toNatClampNeg (0 : Int32).toNatClampNeg (100 : Int32).toNatClampNeg)) (fun (f2 : Nat → Int32) => f2)
set_option maxHeartbeats 4000000 in
set_option maxRecDepth 100000 in
theorem mX6_copyFrom_x100 (l : Launch) (dC : Nat → ClassId) (dI : Nat → Nat → Nat) (kA : Nat → ClassId) (sz : Nat) (a0 : Nat) (a1 : Nat) (wd : Int32) (zs : Int32) (fa : Nat → Int32) (b0 : Nat) (b1 : Nat) (wd2 : Int32) (zs2 : Int32) (ga : Nat → Int32)  : Met l yX6_copyFrom wsX6_copyFrom ({ frames := 1, cells := 0, slots := 0, locals := 60 }) (zPc dC dI kA sz [.ref a0, .ref b0] [(a0, .inr (6, [.int wd, .ref a1, .int zs])), (a1, .inl (kA 0, 100, .inl fa)), (b0, .inr (6, [.int wd2, .ref b1, .int zs2])), (b1, .inl (kA 0, 100, .inl ga))]) (va_Qv (fun (u : (Nat → Int32)) => u = fX6_copyFrom_x100 fa ga) (zB dC dI (va_A [(a0, .inr (6, [.int wd, .ref a1, .int zs])), (a1, .inl (kA 0, 100, .inl fa)), (b0, .inr (6, [.int wd2, .ref b1, .int zs2])), (b1, .inl (kA 0, 100, .inl ga))] sz) (fun (u : (Nat → Int32)) => [(a0, .inr (6, [.int wd, .ref a1, .int zs2])), (a1, .inl (kA 0, 100, .inl u)), (b0, .inr (6, [.int wd2, .ref b1, .int zs2])), (b1, .inl (kA 0, 100, .inl ga))])) (va_A [(a0, .inr (6, [.int wd, .ref a1, .int zs])), (a1, .inl (kA 0, 100, .inl fa)), (b0, .inr (6, [.int wd2, .ref b1, .int zs2])), (b1, .inl (kA 0, 100, .inl ga))] sz)) 0 0 (va_A [(a0, .inr (6, [.int wd, .ref a1, .int zs])), (a1, .inl (kA 0, 100, .inl fa)), (b0, .inr (6, [.int wd2, .ref b1, .int zs2])), (b1, .inl (kA 0, 100, .inl ga))] sz) := by
  refine Met.ofW (cc := cX6_copyFrom) (maxL := 2) (ret := none) pnX6 rfl ?_
  intro p e s m args below meth c s₁ B hml hv
  obtain ⟨rfl, hsz, hP, hK, hD0⟩ := hv
  have hx := B.exec
  have hb := B.bytes
  have hr := B.returns
  have hts := atoms_spec (ws := wsX6_copyFrom) B.pre
  have hown : s.vm.findClass RX6 = some m.cls := findClass_of_methodNamed B.named
  have hlocks := B.notSynchronized
  subst hsz
  have hD := hD0.self (sz := s.heap.size)
  generalize hAe : va_A [(a0, .inr (6, [.int wd, .ref a1, .int zs])), (a1, .inl (kA 0, 100, .inl fa)), (b0, .inr (6, [.int wd2, .ref b1, .int zs2])), (b1, .inl (kA 0, 100, .inl ga))] s.heap.size = A at hD ⊢
  have hA : ∀ q : Nat, s.heap.size ≤ q → A q := zA_of hAe
  have hS : va_S A s.heap s.heap [] := va_S.rf
  have hP : va_P (dC, dI) vwCl [(a0, .inr (6, [.int wd, .ref a1, .int zs])), (a1, .inl (kA 0, 100, .inl fa)), (b0, .inr (6, [.int wd2, .ref b1, .int zs2])), (b1, .inl (kA 0, 100, .inl ga))] s.heap := hP
  have hl := lv_entry ([.ref a0, .ref b0]) (n := 2) (Nat.le_of_ble_eq_true rfl)
  rw [lg_entry_eq]
  generalize (lg_sl ([.ref a0, .ref b0]) ++ List.replicate (2 - (lg_sl ([.ref a0, .ref b0])).length) Slot.unset).toArray = ls at hl ⊢
  have hl : lv_has ls 2 [(0, .ref a0), (1, .ref b0)] := hl
  obtain ⟨G, hG0⟩ : ∃ G : (Nat → Int32), fX6_copyFrom_x100 fa ga = G := ⟨_, rfl⟩
  have hG := hG0
  unfold fX6_copyFrom_x100 at hG
  refine lv_aload_n hx hb dX6_copyFrom_0 rfl (lv_at hl 1 rfl) ?_
  refine va_get (D := (dC, dI)) (ci := 6) (v := .ref b1) (C := RX6) (T := TX6) (N := 3) hx hb hts iX6_copyFrom_X6 hown hK.1 hP 2 gz2 vcz6 1 (by decide) (kX6_copyFrom_1 hts) (fun _ h9 => h9) gz1 dX6_copyFrom_1 ?_
  refine va_alen hx hb hK.1 hP 3 0 rfl rfl (v := 100) rfl dX6_copyFrom_4 ?_
  refine lv_aload_n hx hb dX6_copyFrom_5 rfl (lv_at hl 0 rfl) ?_
  refine va_get (D := (dC, dI)) (ci := 6) (v := .ref a1) (C := RX6) (T := TX6) (N := 3) hx hb hts iX6_copyFrom_X6 hown hK.1 hP 0 gz0 vcz6 1 (by decide) (kX6_copyFrom_1 hts) (fun _ h9 => h9) gz1 dX6_copyFrom_6 ?_
  refine va_alen hx hb hK.1 hP 1 0 rfl rfl (v := 100) rfl dX6_copyFrom_9 ?_
  refine lv_icmp_ne (tgt := 39) hx hb dX6_copyFrom_10 (by decide) (fun c_1 => absurd (by decide) c_1) (fun _ => ?_)
  refine lv_aload_n hx hb dX6_copyFrom_13 rfl (lv_at hl 1 rfl) ?_
  refine va_get (D := (dC, dI)) (ci := 6) (v := .ref b1) (C := RX6) (T := TX6) (N := 3) hx hb hts iX6_copyFrom_X6 hown hK.1 hP 2 gz2 vcz6 1 (by decide) (kX6_copyFrom_1 hts) (fun _ h9 => h9) gz1 dX6_copyFrom_14 ?_
  refine lv_iconst (v := 0) hx hb dX6_copyFrom_17 (by decide) ?_
  refine lv_aload_n hx hb dX6_copyFrom_18 rfl (lv_at hl 0 rfl) ?_
  refine va_get (D := (dC, dI)) (ci := 6) (v := .ref a1) (C := RX6) (T := TX6) (N := 3) hx hb hts iX6_copyFrom_X6 hown hK.1 hP 0 gz0 vcz6 1 (by decide) (kX6_copyFrom_1 hts) (fun _ h9 => h9) gz1 dX6_copyFrom_19 ?_
  refine lv_iconst (v := 0) hx hb dX6_copyFrom_22 (by decide) ?_
  refine lv_aload_n hx hb dX6_copyFrom_23 rfl (lv_at hl 0 rfl) ?_
  refine va_get (D := (dC, dI)) (ci := 6) (v := .ref a1) (C := RX6) (T := TX6) (N := 3) hx hb hts iX6_copyFrom_X6 hown hK.1 hP 0 gz0 vcz6 1 (by decide) (kX6_copyFrom_1 hts) (fun _ h9 => h9) gz1 dX6_copyFrom_24 ?_
  refine va_alen hx hb hK.1 hP 1 0 rfl rfl (v := 100) rfl dX6_copyFrom_27 ?_
  refine va_copyi hx hb (by rw [hml]; exact hl.1.symm) hown (kX6_copyFrom_2 hts) (kX6_copyFrom_3 hts) (kX6_copyFrom_4 hts) (kX6_copyFrom_5 hts) hK.1 hP hD hS 3 1 0 0 rfl rfl rfl rfl rfl (by decide) (by decide) (by decide) (by decide) (by decide) (fun _ _ => rfl) (Nat.le_of_ble_eq_true rfl) (Nat.le_of_ble_eq_true rfl) dX6_copyFrom_28 (fun H locs hP hD hS => ?_)
  obtain ⟨hP, hD⟩ := z_re (L := [(a0, .inr (6, [.int wd, .ref a1, .int zs])), (a1, .inl (kA 0, 100, .inl (va_cpy ga fa (0 : Int32).toNatClampNeg (0 : Int32).toNatClampNeg (100 : Int32).toNatClampNeg))), (b0, .inr (6, [.int wd2, .ref b1, .int zs2])), (b1, .inl (kA 0, 100, .inl ga))]) hP hD
  obtain ⟨f2, ef2⟩ : ∃ y : Nat → Int32, y = (va_cpy ga fa (0 : Int32).toNatClampNeg (0 : Int32).toNatClampNeg (100 : Int32).toNatClampNeg) := ⟨_, rfl⟩
  rw [← ef2] at hP hD
  have hG := zbnd hG ef2
  refine lv_aload_n hx hb dX6_copyFrom_31 rfl (lv_at hl 0 rfl) ?_
  refine lv_aload_n hx hb dX6_copyFrom_32 rfl (lv_at hl 1 rfl) ?_
  refine va_get (D := (dC, dI)) (ci := 6) (v := .int zs2) (C := RX6) (T := TX6) (N := 3) hx hb hts iX6_copyFrom_X6 hown hK.1 hP 2 gz2 vcz6 2 (by decide) (kX6_copyFrom_6 hts) (fun _ h9 => h9) gz2 dX6_copyFrom_33 ?_
  refine va_put (D := (dC, dI)) (ci := 6) (v := .int zs2) (ty := .int) (C := RX6) (T := TX6) (N := 3) hx hb hts iX6_copyFrom_X6 tyX6 tyX6_ok nmX6 hown hK.1 hP hD hS 0 gz0 vcz6 2 (by decide) (kX6_copyFrom_6 hts) (fun _ h9 => h9) rfl pfdI rfl rfl (Nat.le_of_ble_eq_true rfl) dX6_copyFrom_36 (fun H locs hP hD hS => ?_)
  obtain ⟨hP, hD⟩ := z_re (L := [(a0, .inr (6, [.int wd, .ref a1, .int zs2])), (a1, .inl (kA 0, 100, .inl f2)), (b0, .inr (6, [.int wd2, .ref b1, .int zs2])), (b1, .inl (kA 0, 100, .inl ga))]) hP hD
  obtain ⟨hP9, hD9⟩ := z_sb (L' := [(a0, .inr (6, [.int wd, .ref a1, .int zs2])), (a1, .inl (kA 0, 100, .inl f2)), (b0, .inr (6, [.int wd2, .ref b1, .int zs2])), (b1, .inl (kA 0, 100, .inl ga))]) hP hD [0, 1, 2, 3] (by decide) rfl
  refine W.widen (k := 0) (n := 0) (Nat.le_of_ble_eq_true rfl) (Nat.le_of_ble_eq_true rfl) ?_
  exact W.vret hx hb hr (fun t ht hW => ⟨⟨(f2), rfl, (hG.trans hG0.symm), by rw [ht]; exact hP9, hD9⟩, hS.F ht⟩) hS.2.2 dX6_copyFrom_39
set_option maxRecDepth 100000 in
def fX6_copyFrom_x144 (fa : Nat → Int32) (ga : Nat → Int32) : (Nat → Int32) := bnd ((va_cpy ga fa (0 : Int32).toNatClampNeg (0 : Int32).toNatClampNeg (144 : Int32).toNatClampNeg)) (fun (f2 : Nat → Int32) => f2)
set_option maxHeartbeats 4000000 in
set_option maxRecDepth 100000 in
theorem mX6_copyFrom_x144 (l : Launch) (dC : Nat → ClassId) (dI : Nat → Nat → Nat) (kA : Nat → ClassId) (sz : Nat) (a0 : Nat) (a1 : Nat) (wd : Int32) (zs : Int32) (fa : Nat → Int32) (b0 : Nat) (b1 : Nat) (wd2 : Int32) (zs2 : Int32) (ga : Nat → Int32)  : Met l yX6_copyFrom wsX6_copyFrom ({ frames := 1, cells := 0, slots := 0, locals := 60 }) (zPc dC dI kA sz [.ref a0, .ref b0] [(a0, .inr (6, [.int wd, .ref a1, .int zs])), (a1, .inl (kA 0, 144, .inl fa)), (b0, .inr (6, [.int wd2, .ref b1, .int zs2])), (b1, .inl (kA 0, 144, .inl ga))]) (va_Qv (fun (u : (Nat → Int32)) => u = fX6_copyFrom_x144 fa ga) (zB dC dI (va_A [(a0, .inr (6, [.int wd, .ref a1, .int zs])), (a1, .inl (kA 0, 144, .inl fa)), (b0, .inr (6, [.int wd2, .ref b1, .int zs2])), (b1, .inl (kA 0, 144, .inl ga))] sz) (fun (u : (Nat → Int32)) => [(a0, .inr (6, [.int wd, .ref a1, .int zs2])), (a1, .inl (kA 0, 144, .inl u)), (b0, .inr (6, [.int wd2, .ref b1, .int zs2])), (b1, .inl (kA 0, 144, .inl ga))])) (va_A [(a0, .inr (6, [.int wd, .ref a1, .int zs])), (a1, .inl (kA 0, 144, .inl fa)), (b0, .inr (6, [.int wd2, .ref b1, .int zs2])), (b1, .inl (kA 0, 144, .inl ga))] sz)) 0 0 (va_A [(a0, .inr (6, [.int wd, .ref a1, .int zs])), (a1, .inl (kA 0, 144, .inl fa)), (b0, .inr (6, [.int wd2, .ref b1, .int zs2])), (b1, .inl (kA 0, 144, .inl ga))] sz) := by
  refine Met.ofW (cc := cX6_copyFrom) (maxL := 2) (ret := none) pnX6 rfl ?_
  intro p e s m args below meth c s₁ B hml hv
  obtain ⟨rfl, hsz, hP, hK, hD0⟩ := hv
  have hx := B.exec
  have hb := B.bytes
  have hr := B.returns
  have hts := atoms_spec (ws := wsX6_copyFrom) B.pre
  have hown : s.vm.findClass RX6 = some m.cls := findClass_of_methodNamed B.named
  have hlocks := B.notSynchronized
  subst hsz
  have hD := hD0.self (sz := s.heap.size)
  generalize hAe : va_A [(a0, .inr (6, [.int wd, .ref a1, .int zs])), (a1, .inl (kA 0, 144, .inl fa)), (b0, .inr (6, [.int wd2, .ref b1, .int zs2])), (b1, .inl (kA 0, 144, .inl ga))] s.heap.size = A at hD ⊢
  have hA : ∀ q : Nat, s.heap.size ≤ q → A q := zA_of hAe
  have hS : va_S A s.heap s.heap [] := va_S.rf
  have hP : va_P (dC, dI) vwCl [(a0, .inr (6, [.int wd, .ref a1, .int zs])), (a1, .inl (kA 0, 144, .inl fa)), (b0, .inr (6, [.int wd2, .ref b1, .int zs2])), (b1, .inl (kA 0, 144, .inl ga))] s.heap := hP
  have hl := lv_entry ([.ref a0, .ref b0]) (n := 2) (Nat.le_of_ble_eq_true rfl)
  rw [lg_entry_eq]
  generalize (lg_sl ([.ref a0, .ref b0]) ++ List.replicate (2 - (lg_sl ([.ref a0, .ref b0])).length) Slot.unset).toArray = ls at hl ⊢
  have hl : lv_has ls 2 [(0, .ref a0), (1, .ref b0)] := hl
  obtain ⟨G, hG0⟩ : ∃ G : (Nat → Int32), fX6_copyFrom_x144 fa ga = G := ⟨_, rfl⟩
  have hG := hG0
  unfold fX6_copyFrom_x144 at hG
  refine lv_aload_n hx hb dX6_copyFrom_0 rfl (lv_at hl 1 rfl) ?_
  refine va_get (D := (dC, dI)) (ci := 6) (v := .ref b1) (C := RX6) (T := TX6) (N := 3) hx hb hts iX6_copyFrom_X6 hown hK.1 hP 2 gz2 vcz6 1 (by decide) (kX6_copyFrom_1 hts) (fun _ h9 => h9) gz1 dX6_copyFrom_1 ?_
  refine va_alen hx hb hK.1 hP 3 0 rfl rfl (v := 144) rfl dX6_copyFrom_4 ?_
  refine lv_aload_n hx hb dX6_copyFrom_5 rfl (lv_at hl 0 rfl) ?_
  refine va_get (D := (dC, dI)) (ci := 6) (v := .ref a1) (C := RX6) (T := TX6) (N := 3) hx hb hts iX6_copyFrom_X6 hown hK.1 hP 0 gz0 vcz6 1 (by decide) (kX6_copyFrom_1 hts) (fun _ h9 => h9) gz1 dX6_copyFrom_6 ?_
  refine va_alen hx hb hK.1 hP 1 0 rfl rfl (v := 144) rfl dX6_copyFrom_9 ?_
  refine lv_icmp_ne (tgt := 39) hx hb dX6_copyFrom_10 (by decide) (fun c_1 => absurd (by decide) c_1) (fun _ => ?_)
  refine lv_aload_n hx hb dX6_copyFrom_13 rfl (lv_at hl 1 rfl) ?_
  refine va_get (D := (dC, dI)) (ci := 6) (v := .ref b1) (C := RX6) (T := TX6) (N := 3) hx hb hts iX6_copyFrom_X6 hown hK.1 hP 2 gz2 vcz6 1 (by decide) (kX6_copyFrom_1 hts) (fun _ h9 => h9) gz1 dX6_copyFrom_14 ?_
  refine lv_iconst (v := 0) hx hb dX6_copyFrom_17 (by decide) ?_
  refine lv_aload_n hx hb dX6_copyFrom_18 rfl (lv_at hl 0 rfl) ?_
  refine va_get (D := (dC, dI)) (ci := 6) (v := .ref a1) (C := RX6) (T := TX6) (N := 3) hx hb hts iX6_copyFrom_X6 hown hK.1 hP 0 gz0 vcz6 1 (by decide) (kX6_copyFrom_1 hts) (fun _ h9 => h9) gz1 dX6_copyFrom_19 ?_
  refine lv_iconst (v := 0) hx hb dX6_copyFrom_22 (by decide) ?_
  refine lv_aload_n hx hb dX6_copyFrom_23 rfl (lv_at hl 0 rfl) ?_
  refine va_get (D := (dC, dI)) (ci := 6) (v := .ref a1) (C := RX6) (T := TX6) (N := 3) hx hb hts iX6_copyFrom_X6 hown hK.1 hP 0 gz0 vcz6 1 (by decide) (kX6_copyFrom_1 hts) (fun _ h9 => h9) gz1 dX6_copyFrom_24 ?_
  refine va_alen hx hb hK.1 hP 1 0 rfl rfl (v := 144) rfl dX6_copyFrom_27 ?_
  refine va_copyi hx hb (by rw [hml]; exact hl.1.symm) hown (kX6_copyFrom_2 hts) (kX6_copyFrom_3 hts) (kX6_copyFrom_4 hts) (kX6_copyFrom_5 hts) hK.1 hP hD hS 3 1 0 0 rfl rfl rfl rfl rfl (by decide) (by decide) (by decide) (by decide) (by decide) (fun _ _ => rfl) (Nat.le_of_ble_eq_true rfl) (Nat.le_of_ble_eq_true rfl) dX6_copyFrom_28 (fun H locs hP hD hS => ?_)
  obtain ⟨hP, hD⟩ := z_re (L := [(a0, .inr (6, [.int wd, .ref a1, .int zs])), (a1, .inl (kA 0, 144, .inl (va_cpy ga fa (0 : Int32).toNatClampNeg (0 : Int32).toNatClampNeg (144 : Int32).toNatClampNeg))), (b0, .inr (6, [.int wd2, .ref b1, .int zs2])), (b1, .inl (kA 0, 144, .inl ga))]) hP hD
  obtain ⟨f2, ef2⟩ : ∃ y : Nat → Int32, y = (va_cpy ga fa (0 : Int32).toNatClampNeg (0 : Int32).toNatClampNeg (144 : Int32).toNatClampNeg) := ⟨_, rfl⟩
  rw [← ef2] at hP hD
  have hG := zbnd hG ef2
  refine lv_aload_n hx hb dX6_copyFrom_31 rfl (lv_at hl 0 rfl) ?_
  refine lv_aload_n hx hb dX6_copyFrom_32 rfl (lv_at hl 1 rfl) ?_
  refine va_get (D := (dC, dI)) (ci := 6) (v := .int zs2) (C := RX6) (T := TX6) (N := 3) hx hb hts iX6_copyFrom_X6 hown hK.1 hP 2 gz2 vcz6 2 (by decide) (kX6_copyFrom_6 hts) (fun _ h9 => h9) gz2 dX6_copyFrom_33 ?_
  refine va_put (D := (dC, dI)) (ci := 6) (v := .int zs2) (ty := .int) (C := RX6) (T := TX6) (N := 3) hx hb hts iX6_copyFrom_X6 tyX6 tyX6_ok nmX6 hown hK.1 hP hD hS 0 gz0 vcz6 2 (by decide) (kX6_copyFrom_6 hts) (fun _ h9 => h9) rfl pfdI rfl rfl (Nat.le_of_ble_eq_true rfl) dX6_copyFrom_36 (fun H locs hP hD hS => ?_)
  obtain ⟨hP, hD⟩ := z_re (L := [(a0, .inr (6, [.int wd, .ref a1, .int zs2])), (a1, .inl (kA 0, 144, .inl f2)), (b0, .inr (6, [.int wd2, .ref b1, .int zs2])), (b1, .inl (kA 0, 144, .inl ga))]) hP hD
  obtain ⟨hP9, hD9⟩ := z_sb (L' := [(a0, .inr (6, [.int wd, .ref a1, .int zs2])), (a1, .inl (kA 0, 144, .inl f2)), (b0, .inr (6, [.int wd2, .ref b1, .int zs2])), (b1, .inl (kA 0, 144, .inl ga))]) hP hD [0, 1, 2, 3] (by decide) rfl
  refine W.widen (k := 0) (n := 0) (Nat.le_of_ble_eq_true rfl) (Nat.le_of_ble_eq_true rfl) ?_
  exact W.vret hx hb hr (fun t ht hW => ⟨⟨(f2), rfl, (hG.trans hG0.symm), by rw [ht]; exact hP9, hD9⟩, hS.F ht⟩) hS.2.2 dX6_copyFrom_39
set_option maxRecDepth 100000 in
def fX6_copyFrom_x24 (fa : Nat → Int32) (ga : Nat → Int32) : (Nat → Int32) := bnd ((va_cpy ga fa (0 : Int32).toNatClampNeg (0 : Int32).toNatClampNeg (24 : Int32).toNatClampNeg)) (fun (f2 : Nat → Int32) => f2)
set_option maxHeartbeats 4000000 in
set_option maxRecDepth 100000 in
theorem mX6_copyFrom_x24 (l : Launch) (dC : Nat → ClassId) (dI : Nat → Nat → Nat) (kA : Nat → ClassId) (sz : Nat) (a0 : Nat) (a1 : Nat) (wd : Int32) (zs : Int32) (fa : Nat → Int32) (b0 : Nat) (b1 : Nat) (wd2 : Int32) (zs2 : Int32) (ga : Nat → Int32)  : Met l yX6_copyFrom wsX6_copyFrom ({ frames := 1, cells := 0, slots := 0, locals := 60 }) (zPc dC dI kA sz [.ref a0, .ref b0] [(a0, .inr (6, [.int wd, .ref a1, .int zs])), (a1, .inl (kA 0, 24, .inl fa)), (b0, .inr (6, [.int wd2, .ref b1, .int zs2])), (b1, .inl (kA 0, 24, .inl ga))]) (va_Qv (fun (u : (Nat → Int32)) => u = fX6_copyFrom_x24 fa ga) (zB dC dI (va_A [(a0, .inr (6, [.int wd, .ref a1, .int zs])), (a1, .inl (kA 0, 24, .inl fa)), (b0, .inr (6, [.int wd2, .ref b1, .int zs2])), (b1, .inl (kA 0, 24, .inl ga))] sz) (fun (u : (Nat → Int32)) => [(a0, .inr (6, [.int wd, .ref a1, .int zs2])), (a1, .inl (kA 0, 24, .inl u)), (b0, .inr (6, [.int wd2, .ref b1, .int zs2])), (b1, .inl (kA 0, 24, .inl ga))])) (va_A [(a0, .inr (6, [.int wd, .ref a1, .int zs])), (a1, .inl (kA 0, 24, .inl fa)), (b0, .inr (6, [.int wd2, .ref b1, .int zs2])), (b1, .inl (kA 0, 24, .inl ga))] sz)) 0 0 (va_A [(a0, .inr (6, [.int wd, .ref a1, .int zs])), (a1, .inl (kA 0, 24, .inl fa)), (b0, .inr (6, [.int wd2, .ref b1, .int zs2])), (b1, .inl (kA 0, 24, .inl ga))] sz) := by
  refine Met.ofW (cc := cX6_copyFrom) (maxL := 2) (ret := none) pnX6 rfl ?_
  intro p e s m args below meth c s₁ B hml hv
  obtain ⟨rfl, hsz, hP, hK, hD0⟩ := hv
  have hx := B.exec
  have hb := B.bytes
  have hr := B.returns
  have hts := atoms_spec (ws := wsX6_copyFrom) B.pre
  have hown : s.vm.findClass RX6 = some m.cls := findClass_of_methodNamed B.named
  have hlocks := B.notSynchronized
  subst hsz
  have hD := hD0.self (sz := s.heap.size)
  generalize hAe : va_A [(a0, .inr (6, [.int wd, .ref a1, .int zs])), (a1, .inl (kA 0, 24, .inl fa)), (b0, .inr (6, [.int wd2, .ref b1, .int zs2])), (b1, .inl (kA 0, 24, .inl ga))] s.heap.size = A at hD ⊢
  have hA : ∀ q : Nat, s.heap.size ≤ q → A q := zA_of hAe
  have hS : va_S A s.heap s.heap [] := va_S.rf
  have hP : va_P (dC, dI) vwCl [(a0, .inr (6, [.int wd, .ref a1, .int zs])), (a1, .inl (kA 0, 24, .inl fa)), (b0, .inr (6, [.int wd2, .ref b1, .int zs2])), (b1, .inl (kA 0, 24, .inl ga))] s.heap := hP
  have hl := lv_entry ([.ref a0, .ref b0]) (n := 2) (Nat.le_of_ble_eq_true rfl)
  rw [lg_entry_eq]
  generalize (lg_sl ([.ref a0, .ref b0]) ++ List.replicate (2 - (lg_sl ([.ref a0, .ref b0])).length) Slot.unset).toArray = ls at hl ⊢
  have hl : lv_has ls 2 [(0, .ref a0), (1, .ref b0)] := hl
  obtain ⟨G, hG0⟩ : ∃ G : (Nat → Int32), fX6_copyFrom_x24 fa ga = G := ⟨_, rfl⟩
  have hG := hG0
  unfold fX6_copyFrom_x24 at hG
  refine lv_aload_n hx hb dX6_copyFrom_0 rfl (lv_at hl 1 rfl) ?_
  refine va_get (D := (dC, dI)) (ci := 6) (v := .ref b1) (C := RX6) (T := TX6) (N := 3) hx hb hts iX6_copyFrom_X6 hown hK.1 hP 2 gz2 vcz6 1 (by decide) (kX6_copyFrom_1 hts) (fun _ h9 => h9) gz1 dX6_copyFrom_1 ?_
  refine va_alen hx hb hK.1 hP 3 0 rfl rfl (v := 24) rfl dX6_copyFrom_4 ?_
  refine lv_aload_n hx hb dX6_copyFrom_5 rfl (lv_at hl 0 rfl) ?_
  refine va_get (D := (dC, dI)) (ci := 6) (v := .ref a1) (C := RX6) (T := TX6) (N := 3) hx hb hts iX6_copyFrom_X6 hown hK.1 hP 0 gz0 vcz6 1 (by decide) (kX6_copyFrom_1 hts) (fun _ h9 => h9) gz1 dX6_copyFrom_6 ?_
  refine va_alen hx hb hK.1 hP 1 0 rfl rfl (v := 24) rfl dX6_copyFrom_9 ?_
  refine lv_icmp_ne (tgt := 39) hx hb dX6_copyFrom_10 (by decide) (fun c_1 => absurd (by decide) c_1) (fun _ => ?_)
  refine lv_aload_n hx hb dX6_copyFrom_13 rfl (lv_at hl 1 rfl) ?_
  refine va_get (D := (dC, dI)) (ci := 6) (v := .ref b1) (C := RX6) (T := TX6) (N := 3) hx hb hts iX6_copyFrom_X6 hown hK.1 hP 2 gz2 vcz6 1 (by decide) (kX6_copyFrom_1 hts) (fun _ h9 => h9) gz1 dX6_copyFrom_14 ?_
  refine lv_iconst (v := 0) hx hb dX6_copyFrom_17 (by decide) ?_
  refine lv_aload_n hx hb dX6_copyFrom_18 rfl (lv_at hl 0 rfl) ?_
  refine va_get (D := (dC, dI)) (ci := 6) (v := .ref a1) (C := RX6) (T := TX6) (N := 3) hx hb hts iX6_copyFrom_X6 hown hK.1 hP 0 gz0 vcz6 1 (by decide) (kX6_copyFrom_1 hts) (fun _ h9 => h9) gz1 dX6_copyFrom_19 ?_
  refine lv_iconst (v := 0) hx hb dX6_copyFrom_22 (by decide) ?_
  refine lv_aload_n hx hb dX6_copyFrom_23 rfl (lv_at hl 0 rfl) ?_
  refine va_get (D := (dC, dI)) (ci := 6) (v := .ref a1) (C := RX6) (T := TX6) (N := 3) hx hb hts iX6_copyFrom_X6 hown hK.1 hP 0 gz0 vcz6 1 (by decide) (kX6_copyFrom_1 hts) (fun _ h9 => h9) gz1 dX6_copyFrom_24 ?_
  refine va_alen hx hb hK.1 hP 1 0 rfl rfl (v := 24) rfl dX6_copyFrom_27 ?_
  refine va_copyi hx hb (by rw [hml]; exact hl.1.symm) hown (kX6_copyFrom_2 hts) (kX6_copyFrom_3 hts) (kX6_copyFrom_4 hts) (kX6_copyFrom_5 hts) hK.1 hP hD hS 3 1 0 0 rfl rfl rfl rfl rfl (by decide) (by decide) (by decide) (by decide) (by decide) (fun _ _ => rfl) (Nat.le_of_ble_eq_true rfl) (Nat.le_of_ble_eq_true rfl) dX6_copyFrom_28 (fun H locs hP hD hS => ?_)
  obtain ⟨hP, hD⟩ := z_re (L := [(a0, .inr (6, [.int wd, .ref a1, .int zs])), (a1, .inl (kA 0, 24, .inl (va_cpy ga fa (0 : Int32).toNatClampNeg (0 : Int32).toNatClampNeg (24 : Int32).toNatClampNeg))), (b0, .inr (6, [.int wd2, .ref b1, .int zs2])), (b1, .inl (kA 0, 24, .inl ga))]) hP hD
  obtain ⟨f2, ef2⟩ : ∃ y : Nat → Int32, y = (va_cpy ga fa (0 : Int32).toNatClampNeg (0 : Int32).toNatClampNeg (24 : Int32).toNatClampNeg) := ⟨_, rfl⟩
  rw [← ef2] at hP hD
  have hG := zbnd hG ef2
  refine lv_aload_n hx hb dX6_copyFrom_31 rfl (lv_at hl 0 rfl) ?_
  refine lv_aload_n hx hb dX6_copyFrom_32 rfl (lv_at hl 1 rfl) ?_
  refine va_get (D := (dC, dI)) (ci := 6) (v := .int zs2) (C := RX6) (T := TX6) (N := 3) hx hb hts iX6_copyFrom_X6 hown hK.1 hP 2 gz2 vcz6 2 (by decide) (kX6_copyFrom_6 hts) (fun _ h9 => h9) gz2 dX6_copyFrom_33 ?_
  refine va_put (D := (dC, dI)) (ci := 6) (v := .int zs2) (ty := .int) (C := RX6) (T := TX6) (N := 3) hx hb hts iX6_copyFrom_X6 tyX6 tyX6_ok nmX6 hown hK.1 hP hD hS 0 gz0 vcz6 2 (by decide) (kX6_copyFrom_6 hts) (fun _ h9 => h9) rfl pfdI rfl rfl (Nat.le_of_ble_eq_true rfl) dX6_copyFrom_36 (fun H locs hP hD hS => ?_)
  obtain ⟨hP, hD⟩ := z_re (L := [(a0, .inr (6, [.int wd, .ref a1, .int zs2])), (a1, .inl (kA 0, 24, .inl f2)), (b0, .inr (6, [.int wd2, .ref b1, .int zs2])), (b1, .inl (kA 0, 24, .inl ga))]) hP hD
  obtain ⟨hP9, hD9⟩ := z_sb (L' := [(a0, .inr (6, [.int wd, .ref a1, .int zs2])), (a1, .inl (kA 0, 24, .inl f2)), (b0, .inr (6, [.int wd2, .ref b1, .int zs2])), (b1, .inl (kA 0, 24, .inl ga))]) hP hD [0, 1, 2, 3] (by decide) rfl
  refine W.widen (k := 0) (n := 0) (Nat.le_of_ble_eq_true rfl) (Nat.le_of_ble_eq_true rfl) ?_
  exact W.vret hx hb hr (fun t ht hW => ⟨⟨(f2), rfl, (hG.trans hG0.symm), by rw [ht]; exact hP9, hD9⟩, hS.F ht⟩) hS.2.2 dX6_copyFrom_39
set_option maxRecDepth 100000 in
def fX6_copyFrom_x6 (fa : Nat → Int32) (ga : Nat → Int32) : (Nat → Int32) := bnd ((va_cpy ga fa (0 : Int32).toNatClampNeg (0 : Int32).toNatClampNeg (6 : Int32).toNatClampNeg)) (fun (f2 : Nat → Int32) => f2)
set_option maxHeartbeats 4000000 in
set_option maxRecDepth 100000 in
theorem mX6_copyFrom_x6 (l : Launch) (dC : Nat → ClassId) (dI : Nat → Nat → Nat) (kA : Nat → ClassId) (sz : Nat) (a0 : Nat) (a1 : Nat) (wd : Int32) (zs : Int32) (fa : Nat → Int32) (b0 : Nat) (b1 : Nat) (wd2 : Int32) (zs2 : Int32) (ga : Nat → Int32)  : Met l yX6_copyFrom wsX6_copyFrom ({ frames := 1, cells := 0, slots := 0, locals := 60 }) (zPc dC dI kA sz [.ref a0, .ref b0] [(a0, .inr (6, [.int wd, .ref a1, .int zs])), (a1, .inl (kA 0, 6, .inl fa)), (b0, .inr (6, [.int wd2, .ref b1, .int zs2])), (b1, .inl (kA 0, 6, .inl ga))]) (va_Qv (fun (u : (Nat → Int32)) => u = fX6_copyFrom_x6 fa ga) (zB dC dI (va_A [(a0, .inr (6, [.int wd, .ref a1, .int zs])), (a1, .inl (kA 0, 6, .inl fa)), (b0, .inr (6, [.int wd2, .ref b1, .int zs2])), (b1, .inl (kA 0, 6, .inl ga))] sz) (fun (u : (Nat → Int32)) => [(a0, .inr (6, [.int wd, .ref a1, .int zs2])), (a1, .inl (kA 0, 6, .inl u)), (b0, .inr (6, [.int wd2, .ref b1, .int zs2])), (b1, .inl (kA 0, 6, .inl ga))])) (va_A [(a0, .inr (6, [.int wd, .ref a1, .int zs])), (a1, .inl (kA 0, 6, .inl fa)), (b0, .inr (6, [.int wd2, .ref b1, .int zs2])), (b1, .inl (kA 0, 6, .inl ga))] sz)) 0 0 (va_A [(a0, .inr (6, [.int wd, .ref a1, .int zs])), (a1, .inl (kA 0, 6, .inl fa)), (b0, .inr (6, [.int wd2, .ref b1, .int zs2])), (b1, .inl (kA 0, 6, .inl ga))] sz) := by
  refine Met.ofW (cc := cX6_copyFrom) (maxL := 2) (ret := none) pnX6 rfl ?_
  intro p e s m args below meth c s₁ B hml hv
  obtain ⟨rfl, hsz, hP, hK, hD0⟩ := hv
  have hx := B.exec
  have hb := B.bytes
  have hr := B.returns
  have hts := atoms_spec (ws := wsX6_copyFrom) B.pre
  have hown : s.vm.findClass RX6 = some m.cls := findClass_of_methodNamed B.named
  have hlocks := B.notSynchronized
  subst hsz
  have hD := hD0.self (sz := s.heap.size)
  generalize hAe : va_A [(a0, .inr (6, [.int wd, .ref a1, .int zs])), (a1, .inl (kA 0, 6, .inl fa)), (b0, .inr (6, [.int wd2, .ref b1, .int zs2])), (b1, .inl (kA 0, 6, .inl ga))] s.heap.size = A at hD ⊢
  have hA : ∀ q : Nat, s.heap.size ≤ q → A q := zA_of hAe
  have hS : va_S A s.heap s.heap [] := va_S.rf
  have hP : va_P (dC, dI) vwCl [(a0, .inr (6, [.int wd, .ref a1, .int zs])), (a1, .inl (kA 0, 6, .inl fa)), (b0, .inr (6, [.int wd2, .ref b1, .int zs2])), (b1, .inl (kA 0, 6, .inl ga))] s.heap := hP
  have hl := lv_entry ([.ref a0, .ref b0]) (n := 2) (Nat.le_of_ble_eq_true rfl)
  rw [lg_entry_eq]
  generalize (lg_sl ([.ref a0, .ref b0]) ++ List.replicate (2 - (lg_sl ([.ref a0, .ref b0])).length) Slot.unset).toArray = ls at hl ⊢
  have hl : lv_has ls 2 [(0, .ref a0), (1, .ref b0)] := hl
  obtain ⟨G, hG0⟩ : ∃ G : (Nat → Int32), fX6_copyFrom_x6 fa ga = G := ⟨_, rfl⟩
  have hG := hG0
  unfold fX6_copyFrom_x6 at hG
  refine lv_aload_n hx hb dX6_copyFrom_0 rfl (lv_at hl 1 rfl) ?_
  refine va_get (D := (dC, dI)) (ci := 6) (v := .ref b1) (C := RX6) (T := TX6) (N := 3) hx hb hts iX6_copyFrom_X6 hown hK.1 hP 2 gz2 vcz6 1 (by decide) (kX6_copyFrom_1 hts) (fun _ h9 => h9) gz1 dX6_copyFrom_1 ?_
  refine va_alen hx hb hK.1 hP 3 0 rfl rfl (v := 6) rfl dX6_copyFrom_4 ?_
  refine lv_aload_n hx hb dX6_copyFrom_5 rfl (lv_at hl 0 rfl) ?_
  refine va_get (D := (dC, dI)) (ci := 6) (v := .ref a1) (C := RX6) (T := TX6) (N := 3) hx hb hts iX6_copyFrom_X6 hown hK.1 hP 0 gz0 vcz6 1 (by decide) (kX6_copyFrom_1 hts) (fun _ h9 => h9) gz1 dX6_copyFrom_6 ?_
  refine va_alen hx hb hK.1 hP 1 0 rfl rfl (v := 6) rfl dX6_copyFrom_9 ?_
  refine lv_icmp_ne (tgt := 39) hx hb dX6_copyFrom_10 (by decide) (fun c_1 => absurd (by decide) c_1) (fun _ => ?_)
  refine lv_aload_n hx hb dX6_copyFrom_13 rfl (lv_at hl 1 rfl) ?_
  refine va_get (D := (dC, dI)) (ci := 6) (v := .ref b1) (C := RX6) (T := TX6) (N := 3) hx hb hts iX6_copyFrom_X6 hown hK.1 hP 2 gz2 vcz6 1 (by decide) (kX6_copyFrom_1 hts) (fun _ h9 => h9) gz1 dX6_copyFrom_14 ?_
  refine lv_iconst (v := 0) hx hb dX6_copyFrom_17 (by decide) ?_
  refine lv_aload_n hx hb dX6_copyFrom_18 rfl (lv_at hl 0 rfl) ?_
  refine va_get (D := (dC, dI)) (ci := 6) (v := .ref a1) (C := RX6) (T := TX6) (N := 3) hx hb hts iX6_copyFrom_X6 hown hK.1 hP 0 gz0 vcz6 1 (by decide) (kX6_copyFrom_1 hts) (fun _ h9 => h9) gz1 dX6_copyFrom_19 ?_
  refine lv_iconst (v := 0) hx hb dX6_copyFrom_22 (by decide) ?_
  refine lv_aload_n hx hb dX6_copyFrom_23 rfl (lv_at hl 0 rfl) ?_
  refine va_get (D := (dC, dI)) (ci := 6) (v := .ref a1) (C := RX6) (T := TX6) (N := 3) hx hb hts iX6_copyFrom_X6 hown hK.1 hP 0 gz0 vcz6 1 (by decide) (kX6_copyFrom_1 hts) (fun _ h9 => h9) gz1 dX6_copyFrom_24 ?_
  refine va_alen hx hb hK.1 hP 1 0 rfl rfl (v := 6) rfl dX6_copyFrom_27 ?_
  refine va_copyi hx hb (by rw [hml]; exact hl.1.symm) hown (kX6_copyFrom_2 hts) (kX6_copyFrom_3 hts) (kX6_copyFrom_4 hts) (kX6_copyFrom_5 hts) hK.1 hP hD hS 3 1 0 0 rfl rfl rfl rfl rfl (by decide) (by decide) (by decide) (by decide) (by decide) (fun _ _ => rfl) (Nat.le_of_ble_eq_true rfl) (Nat.le_of_ble_eq_true rfl) dX6_copyFrom_28 (fun H locs hP hD hS => ?_)
  obtain ⟨hP, hD⟩ := z_re (L := [(a0, .inr (6, [.int wd, .ref a1, .int zs])), (a1, .inl (kA 0, 6, .inl (va_cpy ga fa (0 : Int32).toNatClampNeg (0 : Int32).toNatClampNeg (6 : Int32).toNatClampNeg))), (b0, .inr (6, [.int wd2, .ref b1, .int zs2])), (b1, .inl (kA 0, 6, .inl ga))]) hP hD
  obtain ⟨f2, ef2⟩ : ∃ y : Nat → Int32, y = (va_cpy ga fa (0 : Int32).toNatClampNeg (0 : Int32).toNatClampNeg (6 : Int32).toNatClampNeg) := ⟨_, rfl⟩
  rw [← ef2] at hP hD
  have hG := zbnd hG ef2
  refine lv_aload_n hx hb dX6_copyFrom_31 rfl (lv_at hl 0 rfl) ?_
  refine lv_aload_n hx hb dX6_copyFrom_32 rfl (lv_at hl 1 rfl) ?_
  refine va_get (D := (dC, dI)) (ci := 6) (v := .int zs2) (C := RX6) (T := TX6) (N := 3) hx hb hts iX6_copyFrom_X6 hown hK.1 hP 2 gz2 vcz6 2 (by decide) (kX6_copyFrom_6 hts) (fun _ h9 => h9) gz2 dX6_copyFrom_33 ?_
  refine va_put (D := (dC, dI)) (ci := 6) (v := .int zs2) (ty := .int) (C := RX6) (T := TX6) (N := 3) hx hb hts iX6_copyFrom_X6 tyX6 tyX6_ok nmX6 hown hK.1 hP hD hS 0 gz0 vcz6 2 (by decide) (kX6_copyFrom_6 hts) (fun _ h9 => h9) rfl pfdI rfl rfl (Nat.le_of_ble_eq_true rfl) dX6_copyFrom_36 (fun H locs hP hD hS => ?_)
  obtain ⟨hP, hD⟩ := z_re (L := [(a0, .inr (6, [.int wd, .ref a1, .int zs2])), (a1, .inl (kA 0, 6, .inl f2)), (b0, .inr (6, [.int wd2, .ref b1, .int zs2])), (b1, .inl (kA 0, 6, .inl ga))]) hP hD
  obtain ⟨hP9, hD9⟩ := z_sb (L' := [(a0, .inr (6, [.int wd, .ref a1, .int zs2])), (a1, .inl (kA 0, 6, .inl f2)), (b0, .inr (6, [.int wd2, .ref b1, .int zs2])), (b1, .inl (kA 0, 6, .inl ga))]) hP hD [0, 1, 2, 3] (by decide) rfl
  refine W.widen (k := 0) (n := 0) (Nat.le_of_ble_eq_true rfl) (Nat.le_of_ble_eq_true rfl) ?_
  exact W.vret hx hb hr (fun t ht hW => ⟨⟨(f2), rfl, (hG.trans hG0.symm), by rw [ht]; exact hP9, hD9⟩, hS.F ht⟩) hS.2.2 dX6_copyFrom_39
set_option maxRecDepth 100000 in
def fX9_copyFrom_x (tnodesF : Nat → Int32) (tpassesF : Nat → Int32) (tjarsF : Nat → Int32) (tordersF : Nat → Int32) (tfeastsF : Nat → Int32) (twayF : Nat → Int32) (snodesF : Nat → Int32) (spassesF : Nat → Int32) (sjarsF : Nat → Int32) (sordersF : Nat → Int32) (sfeastsF : Nat → Int32) (swayF : Nat → Int32) : (Nat → Int32) × (Nat → Int32) × (Nat → Int32) × (Nat → Int32) × (Nat → Int32) × (Nat → Int32) := bnd (fX6_copyFrom_x48 tnodesF snodesF) (fun (o4 : Nat → Int32) => bnd (fX6_copyFrom_x100 tpassesF spassesF) (fun (o10 : Nat → Int32) => bnd (fX6_copyFrom_x144 tjarsF sjarsF) (fun (o16 : Nat → Int32) => bnd (fX6_copyFrom_x24 tordersF sordersF) (fun (o22 : Nat → Int32) => bnd (fX6_copyFrom_x24 tfeastsF sfeastsF) (fun (o28 : Nat → Int32) => bnd (fX6_copyFrom_x6 twayF swayF) (fun (o34 : Nat → Int32) => (o4, o10, o16, o22, o28, o34)))))))
set_option maxHeartbeats 4000000 in
set_option maxRecDepth 100000 in
theorem mX9_copyFrom_x (l : Launch) (dC : Nat → ClassId) (dI : Nat → Nat → Nat) (kA : Nat → ClassId) (sz : Nat) (w0 : Nat) (tnodes : Nat) (tnodesA : Nat) (tnodesS : Int32) (tnodesF : Nat → Int32) (tpasses : Nat) (tpassesA : Nat) (tpassesS : Int32) (tpassesF : Nat → Int32) (tjars : Nat) (tjarsA : Nat) (tjarsS : Int32) (tjarsF : Nat → Int32) (torders : Nat) (tordersA : Nat) (tordersS : Int32) (tordersF : Nat → Int32) (tfeasts : Nat) (tfeastsA : Nat) (tfeastsS : Int32) (tfeastsF : Nat → Int32) (tway : Nat) (twayA : Nat) (twayS : Int32) (twayF : Nat → Int32) (tws : Int32) (tnow : Int32) (tfm : Int32) (tx : Int32) (v0 : Nat) (snodes : Nat) (snodesA : Nat) (snodesS : Int32) (snodesF : Nat → Int32) (spasses : Nat) (spassesA : Nat) (spassesS : Int32) (spassesF : Nat → Int32) (sjars : Nat) (sjarsA : Nat) (sjarsS : Int32) (sjarsF : Nat → Int32) (sorders : Nat) (sordersA : Nat) (sordersS : Int32) (sordersF : Nat → Int32) (sfeasts : Nat) (sfeastsA : Nat) (sfeastsS : Int32) (sfeastsF : Nat → Int32) (sway : Nat) (swayA : Nat) (swayS : Int32) (swayF : Nat → Int32) (sws : Int32) (snow : Int32) (sfm : Int32) (sx : Int32)  : Met l yX9_copyFrom wsX9_copyFrom ({ frames := 2, cells := 0, slots := 0, locals := 81 }) (zPc dC dI kA sz [.ref w0, .ref v0] [(w0, .inr (9, [.ref tnodes, .ref tpasses, .ref tjars, .ref torders, .ref tfeasts, .ref tway, .int tws, .int tnow, .int tfm, .int tx])), (tnodes, .inr (6, [.int 4, .ref tnodesA, .int tnodesS])), (tnodesA, .inl (kA 0, 48, .inl tnodesF)), (tpasses, .inr (6, [.int 5, .ref tpassesA, .int tpassesS])), (tpassesA, .inl (kA 0, 100, .inl tpassesF)), (tjars, .inr (6, [.int 9, .ref tjarsA, .int tjarsS])), (tjarsA, .inl (kA 0, 144, .inl tjarsF)), (torders, .inr (6, [.int 4, .ref tordersA, .int tordersS])), (tordersA, .inl (kA 0, 24, .inl tordersF)), (tfeasts, .inr (6, [.int 3, .ref tfeastsA, .int tfeastsS])), (tfeastsA, .inl (kA 0, 24, .inl tfeastsF)), (tway, .inr (6, [.int 1, .ref twayA, .int twayS])), (twayA, .inl (kA 0, 6, .inl twayF)), (v0, .inr (9, [.ref snodes, .ref spasses, .ref sjars, .ref sorders, .ref sfeasts, .ref sway, .int sws, .int snow, .int sfm, .int sx])), (snodes, .inr (6, [.int 4, .ref snodesA, .int snodesS])), (snodesA, .inl (kA 0, 48, .inl snodesF)), (spasses, .inr (6, [.int 5, .ref spassesA, .int spassesS])), (spassesA, .inl (kA 0, 100, .inl spassesF)), (sjars, .inr (6, [.int 9, .ref sjarsA, .int sjarsS])), (sjarsA, .inl (kA 0, 144, .inl sjarsF)), (sorders, .inr (6, [.int 4, .ref sordersA, .int sordersS])), (sordersA, .inl (kA 0, 24, .inl sordersF)), (sfeasts, .inr (6, [.int 3, .ref sfeastsA, .int sfeastsS])), (sfeastsA, .inl (kA 0, 24, .inl sfeastsF)), (sway, .inr (6, [.int 1, .ref swayA, .int swayS])), (swayA, .inl (kA 0, 6, .inl swayF))]) (va_Qv (fun (u : (Nat → Int32) × (Nat → Int32) × (Nat → Int32) × (Nat → Int32) × (Nat → Int32) × (Nat → Int32)) => (u.1, u.2.1, u.2.2.1, u.2.2.2.1, u.2.2.2.2.1, u.2.2.2.2.2) = fX9_copyFrom_x tnodesF tpassesF tjarsF tordersF tfeastsF twayF snodesF spassesF sjarsF sordersF sfeastsF swayF) (zB dC dI (va_A [(w0, .inr (9, [.ref tnodes, .ref tpasses, .ref tjars, .ref torders, .ref tfeasts, .ref tway, .int tws, .int tnow, .int tfm, .int tx])), (tnodes, .inr (6, [.int 4, .ref tnodesA, .int tnodesS])), (tnodesA, .inl (kA 0, 48, .inl tnodesF)), (tpasses, .inr (6, [.int 5, .ref tpassesA, .int tpassesS])), (tpassesA, .inl (kA 0, 100, .inl tpassesF)), (tjars, .inr (6, [.int 9, .ref tjarsA, .int tjarsS])), (tjarsA, .inl (kA 0, 144, .inl tjarsF)), (torders, .inr (6, [.int 4, .ref tordersA, .int tordersS])), (tordersA, .inl (kA 0, 24, .inl tordersF)), (tfeasts, .inr (6, [.int 3, .ref tfeastsA, .int tfeastsS])), (tfeastsA, .inl (kA 0, 24, .inl tfeastsF)), (tway, .inr (6, [.int 1, .ref twayA, .int twayS])), (twayA, .inl (kA 0, 6, .inl twayF)), (v0, .inr (9, [.ref snodes, .ref spasses, .ref sjars, .ref sorders, .ref sfeasts, .ref sway, .int sws, .int snow, .int sfm, .int sx])), (snodes, .inr (6, [.int 4, .ref snodesA, .int snodesS])), (snodesA, .inl (kA 0, 48, .inl snodesF)), (spasses, .inr (6, [.int 5, .ref spassesA, .int spassesS])), (spassesA, .inl (kA 0, 100, .inl spassesF)), (sjars, .inr (6, [.int 9, .ref sjarsA, .int sjarsS])), (sjarsA, .inl (kA 0, 144, .inl sjarsF)), (sorders, .inr (6, [.int 4, .ref sordersA, .int sordersS])), (sordersA, .inl (kA 0, 24, .inl sordersF)), (sfeasts, .inr (6, [.int 3, .ref sfeastsA, .int sfeastsS])), (sfeastsA, .inl (kA 0, 24, .inl sfeastsF)), (sway, .inr (6, [.int 1, .ref swayA, .int swayS])), (swayA, .inl (kA 0, 6, .inl swayF))] sz) (fun (u : (Nat → Int32) × (Nat → Int32) × (Nat → Int32) × (Nat → Int32) × (Nat → Int32) × (Nat → Int32)) => [(w0, .inr (9, [.ref tnodes, .ref tpasses, .ref tjars, .ref torders, .ref tfeasts, .ref tway, .int sws, .int snow, .int sfm, .int sx])), (tnodes, .inr (6, [.int 4, .ref tnodesA, .int snodesS])), (tnodesA, .inl (kA 0, 48, .inl u.1)), (tpasses, .inr (6, [.int 5, .ref tpassesA, .int spassesS])), (tpassesA, .inl (kA 0, 100, .inl u.2.1)), (tjars, .inr (6, [.int 9, .ref tjarsA, .int sjarsS])), (tjarsA, .inl (kA 0, 144, .inl u.2.2.1)), (torders, .inr (6, [.int 4, .ref tordersA, .int sordersS])), (tordersA, .inl (kA 0, 24, .inl u.2.2.2.1)), (tfeasts, .inr (6, [.int 3, .ref tfeastsA, .int sfeastsS])), (tfeastsA, .inl (kA 0, 24, .inl u.2.2.2.2.1)), (tway, .inr (6, [.int 1, .ref twayA, .int swayS])), (twayA, .inl (kA 0, 6, .inl u.2.2.2.2.2)), (v0, .inr (9, [.ref snodes, .ref spasses, .ref sjars, .ref sorders, .ref sfeasts, .ref sway, .int sws, .int snow, .int sfm, .int sx])), (snodes, .inr (6, [.int 4, .ref snodesA, .int snodesS])), (snodesA, .inl (kA 0, 48, .inl snodesF)), (spasses, .inr (6, [.int 5, .ref spassesA, .int spassesS])), (spassesA, .inl (kA 0, 100, .inl spassesF)), (sjars, .inr (6, [.int 9, .ref sjarsA, .int sjarsS])), (sjarsA, .inl (kA 0, 144, .inl sjarsF)), (sorders, .inr (6, [.int 4, .ref sordersA, .int sordersS])), (sordersA, .inl (kA 0, 24, .inl sordersF)), (sfeasts, .inr (6, [.int 3, .ref sfeastsA, .int sfeastsS])), (sfeastsA, .inl (kA 0, 24, .inl sfeastsF)), (sway, .inr (6, [.int 1, .ref swayA, .int swayS])), (swayA, .inl (kA 0, 6, .inl swayF))])) (va_A [(w0, .inr (9, [.ref tnodes, .ref tpasses, .ref tjars, .ref torders, .ref tfeasts, .ref tway, .int tws, .int tnow, .int tfm, .int tx])), (tnodes, .inr (6, [.int 4, .ref tnodesA, .int tnodesS])), (tnodesA, .inl (kA 0, 48, .inl tnodesF)), (tpasses, .inr (6, [.int 5, .ref tpassesA, .int tpassesS])), (tpassesA, .inl (kA 0, 100, .inl tpassesF)), (tjars, .inr (6, [.int 9, .ref tjarsA, .int tjarsS])), (tjarsA, .inl (kA 0, 144, .inl tjarsF)), (torders, .inr (6, [.int 4, .ref tordersA, .int tordersS])), (tordersA, .inl (kA 0, 24, .inl tordersF)), (tfeasts, .inr (6, [.int 3, .ref tfeastsA, .int tfeastsS])), (tfeastsA, .inl (kA 0, 24, .inl tfeastsF)), (tway, .inr (6, [.int 1, .ref twayA, .int twayS])), (twayA, .inl (kA 0, 6, .inl twayF)), (v0, .inr (9, [.ref snodes, .ref spasses, .ref sjars, .ref sorders, .ref sfeasts, .ref sway, .int sws, .int snow, .int sfm, .int sx])), (snodes, .inr (6, [.int 4, .ref snodesA, .int snodesS])), (snodesA, .inl (kA 0, 48, .inl snodesF)), (spasses, .inr (6, [.int 5, .ref spassesA, .int spassesS])), (spassesA, .inl (kA 0, 100, .inl spassesF)), (sjars, .inr (6, [.int 9, .ref sjarsA, .int sjarsS])), (sjarsA, .inl (kA 0, 144, .inl sjarsF)), (sorders, .inr (6, [.int 4, .ref sordersA, .int sordersS])), (sordersA, .inl (kA 0, 24, .inl sordersF)), (sfeasts, .inr (6, [.int 3, .ref sfeastsA, .int sfeastsS])), (sfeastsA, .inl (kA 0, 24, .inl sfeastsF)), (sway, .inr (6, [.int 1, .ref swayA, .int swayS])), (swayA, .inl (kA 0, 6, .inl swayF))] sz)) 0 0 (va_A [(w0, .inr (9, [.ref tnodes, .ref tpasses, .ref tjars, .ref torders, .ref tfeasts, .ref tway, .int tws, .int tnow, .int tfm, .int tx])), (tnodes, .inr (6, [.int 4, .ref tnodesA, .int tnodesS])), (tnodesA, .inl (kA 0, 48, .inl tnodesF)), (tpasses, .inr (6, [.int 5, .ref tpassesA, .int tpassesS])), (tpassesA, .inl (kA 0, 100, .inl tpassesF)), (tjars, .inr (6, [.int 9, .ref tjarsA, .int tjarsS])), (tjarsA, .inl (kA 0, 144, .inl tjarsF)), (torders, .inr (6, [.int 4, .ref tordersA, .int tordersS])), (tordersA, .inl (kA 0, 24, .inl tordersF)), (tfeasts, .inr (6, [.int 3, .ref tfeastsA, .int tfeastsS])), (tfeastsA, .inl (kA 0, 24, .inl tfeastsF)), (tway, .inr (6, [.int 1, .ref twayA, .int twayS])), (twayA, .inl (kA 0, 6, .inl twayF)), (v0, .inr (9, [.ref snodes, .ref spasses, .ref sjars, .ref sorders, .ref sfeasts, .ref sway, .int sws, .int snow, .int sfm, .int sx])), (snodes, .inr (6, [.int 4, .ref snodesA, .int snodesS])), (snodesA, .inl (kA 0, 48, .inl snodesF)), (spasses, .inr (6, [.int 5, .ref spassesA, .int spassesS])), (spassesA, .inl (kA 0, 100, .inl spassesF)), (sjars, .inr (6, [.int 9, .ref sjarsA, .int sjarsS])), (sjarsA, .inl (kA 0, 144, .inl sjarsF)), (sorders, .inr (6, [.int 4, .ref sordersA, .int sordersS])), (sordersA, .inl (kA 0, 24, .inl sordersF)), (sfeasts, .inr (6, [.int 3, .ref sfeastsA, .int sfeastsS])), (sfeastsA, .inl (kA 0, 24, .inl sfeastsF)), (sway, .inr (6, [.int 1, .ref swayA, .int swayS])), (swayA, .inl (kA 0, 6, .inl swayF))] sz) := by
  refine Met.ofW (cc := cX9_copyFrom) (maxL := 2) (ret := none) pnX9 rfl ?_
  intro p e s m args below meth c s₁ B hml hv
  obtain ⟨rfl, hsz, hP, hK, hD0⟩ := hv
  have hx := B.exec
  have hb := B.bytes
  have hr := B.returns
  have hts := atoms_spec (ws := wsX9_copyFrom) B.pre
  have hown : s.vm.findClass RX9 = some m.cls := findClass_of_methodNamed B.named
  have hlocks := B.notSynchronized
  subst hsz
  have hD := hD0.self (sz := s.heap.size)
  generalize hAe : va_A [(w0, .inr (9, [.ref tnodes, .ref tpasses, .ref tjars, .ref torders, .ref tfeasts, .ref tway, .int tws, .int tnow, .int tfm, .int tx])), (tnodes, .inr (6, [.int 4, .ref tnodesA, .int tnodesS])), (tnodesA, .inl (kA 0, 48, .inl tnodesF)), (tpasses, .inr (6, [.int 5, .ref tpassesA, .int tpassesS])), (tpassesA, .inl (kA 0, 100, .inl tpassesF)), (tjars, .inr (6, [.int 9, .ref tjarsA, .int tjarsS])), (tjarsA, .inl (kA 0, 144, .inl tjarsF)), (torders, .inr (6, [.int 4, .ref tordersA, .int tordersS])), (tordersA, .inl (kA 0, 24, .inl tordersF)), (tfeasts, .inr (6, [.int 3, .ref tfeastsA, .int tfeastsS])), (tfeastsA, .inl (kA 0, 24, .inl tfeastsF)), (tway, .inr (6, [.int 1, .ref twayA, .int twayS])), (twayA, .inl (kA 0, 6, .inl twayF)), (v0, .inr (9, [.ref snodes, .ref spasses, .ref sjars, .ref sorders, .ref sfeasts, .ref sway, .int sws, .int snow, .int sfm, .int sx])), (snodes, .inr (6, [.int 4, .ref snodesA, .int snodesS])), (snodesA, .inl (kA 0, 48, .inl snodesF)), (spasses, .inr (6, [.int 5, .ref spassesA, .int spassesS])), (spassesA, .inl (kA 0, 100, .inl spassesF)), (sjars, .inr (6, [.int 9, .ref sjarsA, .int sjarsS])), (sjarsA, .inl (kA 0, 144, .inl sjarsF)), (sorders, .inr (6, [.int 4, .ref sordersA, .int sordersS])), (sordersA, .inl (kA 0, 24, .inl sordersF)), (sfeasts, .inr (6, [.int 3, .ref sfeastsA, .int sfeastsS])), (sfeastsA, .inl (kA 0, 24, .inl sfeastsF)), (sway, .inr (6, [.int 1, .ref swayA, .int swayS])), (swayA, .inl (kA 0, 6, .inl swayF))] s.heap.size = A at hD ⊢
  have hA : ∀ q : Nat, s.heap.size ≤ q → A q := zA_of hAe
  have hS : va_S A s.heap s.heap [] := va_S.rf
  have hP : va_P (dC, dI) vwCl [(w0, .inr (9, [.ref tnodes, .ref tpasses, .ref tjars, .ref torders, .ref tfeasts, .ref tway, .int tws, .int tnow, .int tfm, .int tx])), (tnodes, .inr (6, [.int 4, .ref tnodesA, .int tnodesS])), (tnodesA, .inl (kA 0, 48, .inl tnodesF)), (tpasses, .inr (6, [.int 5, .ref tpassesA, .int tpassesS])), (tpassesA, .inl (kA 0, 100, .inl tpassesF)), (tjars, .inr (6, [.int 9, .ref tjarsA, .int tjarsS])), (tjarsA, .inl (kA 0, 144, .inl tjarsF)), (torders, .inr (6, [.int 4, .ref tordersA, .int tordersS])), (tordersA, .inl (kA 0, 24, .inl tordersF)), (tfeasts, .inr (6, [.int 3, .ref tfeastsA, .int tfeastsS])), (tfeastsA, .inl (kA 0, 24, .inl tfeastsF)), (tway, .inr (6, [.int 1, .ref twayA, .int twayS])), (twayA, .inl (kA 0, 6, .inl twayF)), (v0, .inr (9, [.ref snodes, .ref spasses, .ref sjars, .ref sorders, .ref sfeasts, .ref sway, .int sws, .int snow, .int sfm, .int sx])), (snodes, .inr (6, [.int 4, .ref snodesA, .int snodesS])), (snodesA, .inl (kA 0, 48, .inl snodesF)), (spasses, .inr (6, [.int 5, .ref spassesA, .int spassesS])), (spassesA, .inl (kA 0, 100, .inl spassesF)), (sjars, .inr (6, [.int 9, .ref sjarsA, .int sjarsS])), (sjarsA, .inl (kA 0, 144, .inl sjarsF)), (sorders, .inr (6, [.int 4, .ref sordersA, .int sordersS])), (sordersA, .inl (kA 0, 24, .inl sordersF)), (sfeasts, .inr (6, [.int 3, .ref sfeastsA, .int sfeastsS])), (sfeastsA, .inl (kA 0, 24, .inl sfeastsF)), (sway, .inr (6, [.int 1, .ref swayA, .int swayS])), (swayA, .inl (kA 0, 6, .inl swayF))] s.heap := hP
  have hl := lv_entry ([.ref w0, .ref v0]) (n := 2) (Nat.le_of_ble_eq_true rfl)
  rw [lg_entry_eq]
  generalize (lg_sl ([.ref w0, .ref v0]) ++ List.replicate (2 - (lg_sl ([.ref w0, .ref v0])).length) Slot.unset).toArray = ls at hl ⊢
  have hl : lv_has ls 2 [(0, .ref w0), (1, .ref v0)] := hl
  obtain ⟨G, hG0⟩ : ∃ G : (Nat → Int32) × (Nat → Int32) × (Nat → Int32) × (Nat → Int32) × (Nat → Int32) × (Nat → Int32), fX9_copyFrom_x tnodesF tpassesF tjarsF tordersF tfeastsF twayF snodesF spassesF sjarsF sordersF sfeastsF swayF = G := ⟨_, rfl⟩
  have hG := hG0
  unfold fX9_copyFrom_x at hG
  refine lv_aload_n hx hb dX9_copyFrom_0 rfl (lv_at hl 0 rfl) ?_
  refine va_get (D := (dC, dI)) (ci := 9) (v := .ref tnodes) (C := RX9) (T := TX9) (N := 10) hx hb hts iX9_copyFrom_X9 hown hK.1 hP 0 gz0 vcz9 0 (by decide) (kX9_copyFrom_1 hts) (fun _ h9 => h9) gz0 dX9_copyFrom_1 ?_
  refine lv_aload_n hx hb dX9_copyFrom_4 rfl (lv_at hl 1 rfl) ?_
  refine va_get (D := (dC, dI)) (ci := 9) (v := .ref snodes) (C := RX9) (T := TX9) (N := 10) hx hb hts iX9_copyFrom_X9 hown hK.1 hP 13 gz13 vcz9 0 (by decide) (kX9_copyFrom_1 hts) (fun _ h9 => h9) gz0 dX9_copyFrom_5 ?_
  refine z_v (wr := [(w0, .inr (9, [.ref tnodes, .ref tpasses, .ref tjars, .ref torders, .ref tfeasts, .ref tway, .int tws, .int tnow, .int tfm, .int tx])), (tpasses, .inr (6, [.int 5, .ref tpassesA, .int tpassesS])), (tpassesA, .inl (kA 0, 100, .inl tpassesF)), (tjars, .inr (6, [.int 9, .ref tjarsA, .int tjarsS])), (tjarsA, .inl (kA 0, 144, .inl tjarsF)), (torders, .inr (6, [.int 4, .ref tordersA, .int tordersS])), (tordersA, .inl (kA 0, 24, .inl tordersF)), (tfeasts, .inr (6, [.int 3, .ref tfeastsA, .int tfeastsS])), (tfeastsA, .inl (kA 0, 24, .inl tfeastsF)), (tway, .inr (6, [.int 1, .ref twayA, .int twayS])), (twayA, .inl (kA 0, 6, .inl twayF)), (v0, .inr (9, [.ref snodes, .ref spasses, .ref sjars, .ref sorders, .ref sfeasts, .ref sway, .int sws, .int snow, .int sfm, .int sx])), (spasses, .inr (6, [.int 5, .ref spassesA, .int spassesS])), (spassesA, .inl (kA 0, 100, .inl spassesF)), (sjars, .inr (6, [.int 9, .ref sjarsA, .int sjarsS])), (sjarsA, .inl (kA 0, 144, .inl sjarsF)), (sorders, .inr (6, [.int 4, .ref sordersA, .int sordersS])), (sordersA, .inl (kA 0, 24, .inl sordersF)), (sfeasts, .inr (6, [.int 3, .ref sfeastsA, .int sfeastsS])), (sfeastsA, .inl (kA 0, 24, .inl sfeastsF)), (sway, .inr (6, [.int 1, .ref swayA, .int swayS])), (swayA, .inl (kA 0, 6, .inl swayF))]) (va_runV (As := [.ref snodes]) (rest := []) ⟨hx, hb, hml, hown, hts⟩ (mX6_copyFrom_x48 l dC dI kA _ tnodes tnodesA 4 tnodesS tnodesF snodes snodesA 4 snodesS snodesF) (cwV 1 hts gX9_copyFrom_X6_copyFrom rfl rfl rfl ⟨rfl, hdX6_copyFrom⟩ ⟨(Nat.le_of_ble_eq_true rfl), (Nat.le_of_ble_eq_true rfl)⟩) ⟨zPc.blind, va_recv (q := (RX6, TX6, 3)) hK.1 hP (ci := 6) (q0 := 1) rfl rfl, zPre hK (hP.sub [1, 2, 14, 15] rfl) (hD.sub [1, 2, 14, 15] (by decide) rfl)⟩ rfl rfl hl.1 rfl (lv_room (Nat.le_of_ble_eq_true rfl)) dX9_copyFrom_8 ⟨(Nat.le_of_ble_eq_true rfl), (Nat.le_of_ble_eq_true rfl)⟩) hP hD hS hA [1, 2, 14, 15] [0, 3, 4, 5, 6, 7, 8, 9, 10, 11, 12, 13, 16, 17, 18, 19, 20, 21, 22, 23, 24, 25] rfl rfl (by decide) (by decide) (fun u1 H locs hw2 hP hD hS => ?_)
  obtain ⟨o4, rfl⟩ : ∃ z, z = u1 := ⟨_, rfl⟩
  have hp5 := hw2
  have eo4 : o4 = fX6_copyFrom_x48 tnodesF snodesF := hp5
  have hG := zbnd hG eo4
  obtain ⟨hP, hD⟩ := z_re (L := [(w0, .inr (9, [.ref tnodes, .ref tpasses, .ref tjars, .ref torders, .ref tfeasts, .ref tway, .int tws, .int tnow, .int tfm, .int tx])), (tpasses, .inr (6, [.int 5, .ref tpassesA, .int tpassesS])), (tpassesA, .inl (kA 0, 100, .inl tpassesF)), (tjars, .inr (6, [.int 9, .ref tjarsA, .int tjarsS])), (tjarsA, .inl (kA 0, 144, .inl tjarsF)), (torders, .inr (6, [.int 4, .ref tordersA, .int tordersS])), (tordersA, .inl (kA 0, 24, .inl tordersF)), (tfeasts, .inr (6, [.int 3, .ref tfeastsA, .int tfeastsS])), (tfeastsA, .inl (kA 0, 24, .inl tfeastsF)), (tway, .inr (6, [.int 1, .ref twayA, .int twayS])), (twayA, .inl (kA 0, 6, .inl twayF)), (v0, .inr (9, [.ref snodes, .ref spasses, .ref sjars, .ref sorders, .ref sfeasts, .ref sway, .int sws, .int snow, .int sfm, .int sx])), (spasses, .inr (6, [.int 5, .ref spassesA, .int spassesS])), (spassesA, .inl (kA 0, 100, .inl spassesF)), (sjars, .inr (6, [.int 9, .ref sjarsA, .int sjarsS])), (sjarsA, .inl (kA 0, 144, .inl sjarsF)), (sorders, .inr (6, [.int 4, .ref sordersA, .int sordersS])), (sordersA, .inl (kA 0, 24, .inl sordersF)), (sfeasts, .inr (6, [.int 3, .ref sfeastsA, .int sfeastsS])), (sfeastsA, .inl (kA 0, 24, .inl sfeastsF)), (sway, .inr (6, [.int 1, .ref swayA, .int swayS])), (swayA, .inl (kA 0, 6, .inl swayF)), (tnodes, .inr (6, [.int 4, .ref tnodesA, .int snodesS])), (tnodesA, .inl (kA 0, 48, .inl o4)), (snodes, .inr (6, [.int 4, .ref snodesA, .int snodesS])), (snodesA, .inl (kA 0, 48, .inl snodesF))]) hP hD
  refine lv_aload_n hx hb dX9_copyFrom_11 rfl (lv_at hl 0 rfl) ?_
  refine va_get (D := (dC, dI)) (ci := 9) (v := .ref tpasses) (C := RX9) (T := TX9) (N := 10) hx hb hts iX9_copyFrom_X9 hown hK.1 hP 0 gz0 vcz9 1 (by decide) (kX9_copyFrom_2 hts) (fun _ h9 => h9) gz1 dX9_copyFrom_12 ?_
  refine lv_aload_n hx hb dX9_copyFrom_15 rfl (lv_at hl 1 rfl) ?_
  refine va_get (D := (dC, dI)) (ci := 9) (v := .ref spasses) (C := RX9) (T := TX9) (N := 10) hx hb hts iX9_copyFrom_X9 hown hK.1 hP 11 gz11 vcz9 1 (by decide) (kX9_copyFrom_2 hts) (fun _ h9 => h9) gz1 dX9_copyFrom_16 ?_
  refine z_v (wr := [(w0, .inr (9, [.ref tnodes, .ref tpasses, .ref tjars, .ref torders, .ref tfeasts, .ref tway, .int tws, .int tnow, .int tfm, .int tx])), (tjars, .inr (6, [.int 9, .ref tjarsA, .int tjarsS])), (tjarsA, .inl (kA 0, 144, .inl tjarsF)), (torders, .inr (6, [.int 4, .ref tordersA, .int tordersS])), (tordersA, .inl (kA 0, 24, .inl tordersF)), (tfeasts, .inr (6, [.int 3, .ref tfeastsA, .int tfeastsS])), (tfeastsA, .inl (kA 0, 24, .inl tfeastsF)), (tway, .inr (6, [.int 1, .ref twayA, .int twayS])), (twayA, .inl (kA 0, 6, .inl twayF)), (v0, .inr (9, [.ref snodes, .ref spasses, .ref sjars, .ref sorders, .ref sfeasts, .ref sway, .int sws, .int snow, .int sfm, .int sx])), (sjars, .inr (6, [.int 9, .ref sjarsA, .int sjarsS])), (sjarsA, .inl (kA 0, 144, .inl sjarsF)), (sorders, .inr (6, [.int 4, .ref sordersA, .int sordersS])), (sordersA, .inl (kA 0, 24, .inl sordersF)), (sfeasts, .inr (6, [.int 3, .ref sfeastsA, .int sfeastsS])), (sfeastsA, .inl (kA 0, 24, .inl sfeastsF)), (sway, .inr (6, [.int 1, .ref swayA, .int swayS])), (swayA, .inl (kA 0, 6, .inl swayF)), (tnodes, .inr (6, [.int 4, .ref tnodesA, .int snodesS])), (tnodesA, .inl (kA 0, 48, .inl o4)), (snodes, .inr (6, [.int 4, .ref snodesA, .int snodesS])), (snodesA, .inl (kA 0, 48, .inl snodesF))]) (va_runV (As := [.ref spasses]) (rest := []) ⟨hx, hb, hml, hown, hts⟩ (mX6_copyFrom_x100 l dC dI kA _ tpasses tpassesA 5 tpassesS tpassesF spasses spassesA 5 spassesS spassesF) (cwV 1 hts gX9_copyFrom_X6_copyFrom rfl rfl rfl ⟨rfl, hdX6_copyFrom⟩ ⟨(Nat.le_of_ble_eq_true rfl), (Nat.le_of_ble_eq_true rfl)⟩) ⟨zPc.blind, va_recv (q := (RX6, TX6, 3)) hK.1 hP (ci := 6) (q0 := 1) rfl rfl, zPre hK (hP.sub [1, 2, 12, 13] rfl) (hD.sub [1, 2, 12, 13] (by decide) rfl)⟩ rfl rfl hl.1 rfl (lv_room (Nat.le_of_ble_eq_true rfl)) dX9_copyFrom_19 ⟨(Nat.le_of_ble_eq_true rfl), (Nat.le_of_ble_eq_true rfl)⟩) hP hD hS hA [1, 2, 12, 13] [0, 3, 4, 5, 6, 7, 8, 9, 10, 11, 14, 15, 16, 17, 18, 19, 20, 21, 22, 23, 24, 25] rfl rfl (by decide) (by decide) (fun u7 H locs hw8 hP hD hS => ?_)
  obtain ⟨o10, rfl⟩ : ∃ z, z = u7 := ⟨_, rfl⟩
  have hp11 := hw8
  have eo10 : o10 = fX6_copyFrom_x100 tpassesF spassesF := hp11
  have hG := zbnd hG eo10
  obtain ⟨hP, hD⟩ := z_re (L := [(w0, .inr (9, [.ref tnodes, .ref tpasses, .ref tjars, .ref torders, .ref tfeasts, .ref tway, .int tws, .int tnow, .int tfm, .int tx])), (tjars, .inr (6, [.int 9, .ref tjarsA, .int tjarsS])), (tjarsA, .inl (kA 0, 144, .inl tjarsF)), (torders, .inr (6, [.int 4, .ref tordersA, .int tordersS])), (tordersA, .inl (kA 0, 24, .inl tordersF)), (tfeasts, .inr (6, [.int 3, .ref tfeastsA, .int tfeastsS])), (tfeastsA, .inl (kA 0, 24, .inl tfeastsF)), (tway, .inr (6, [.int 1, .ref twayA, .int twayS])), (twayA, .inl (kA 0, 6, .inl twayF)), (v0, .inr (9, [.ref snodes, .ref spasses, .ref sjars, .ref sorders, .ref sfeasts, .ref sway, .int sws, .int snow, .int sfm, .int sx])), (sjars, .inr (6, [.int 9, .ref sjarsA, .int sjarsS])), (sjarsA, .inl (kA 0, 144, .inl sjarsF)), (sorders, .inr (6, [.int 4, .ref sordersA, .int sordersS])), (sordersA, .inl (kA 0, 24, .inl sordersF)), (sfeasts, .inr (6, [.int 3, .ref sfeastsA, .int sfeastsS])), (sfeastsA, .inl (kA 0, 24, .inl sfeastsF)), (sway, .inr (6, [.int 1, .ref swayA, .int swayS])), (swayA, .inl (kA 0, 6, .inl swayF)), (tnodes, .inr (6, [.int 4, .ref tnodesA, .int snodesS])), (tnodesA, .inl (kA 0, 48, .inl o4)), (snodes, .inr (6, [.int 4, .ref snodesA, .int snodesS])), (snodesA, .inl (kA 0, 48, .inl snodesF)), (tpasses, .inr (6, [.int 5, .ref tpassesA, .int spassesS])), (tpassesA, .inl (kA 0, 100, .inl o10)), (spasses, .inr (6, [.int 5, .ref spassesA, .int spassesS])), (spassesA, .inl (kA 0, 100, .inl spassesF))]) hP hD
  refine lv_aload_n hx hb dX9_copyFrom_22 rfl (lv_at hl 0 rfl) ?_
  refine va_get (D := (dC, dI)) (ci := 9) (v := .ref tjars) (C := RX9) (T := TX9) (N := 10) hx hb hts iX9_copyFrom_X9 hown hK.1 hP 0 gz0 vcz9 2 (by decide) (kX9_copyFrom_3 hts) (fun _ h9 => h9) gz2 dX9_copyFrom_23 ?_
  refine lv_aload_n hx hb dX9_copyFrom_26 rfl (lv_at hl 1 rfl) ?_
  refine va_get (D := (dC, dI)) (ci := 9) (v := .ref sjars) (C := RX9) (T := TX9) (N := 10) hx hb hts iX9_copyFrom_X9 hown hK.1 hP 9 gz9 vcz9 2 (by decide) (kX9_copyFrom_3 hts) (fun _ h9 => h9) gz2 dX9_copyFrom_27 ?_
  refine z_v (wr := [(w0, .inr (9, [.ref tnodes, .ref tpasses, .ref tjars, .ref torders, .ref tfeasts, .ref tway, .int tws, .int tnow, .int tfm, .int tx])), (torders, .inr (6, [.int 4, .ref tordersA, .int tordersS])), (tordersA, .inl (kA 0, 24, .inl tordersF)), (tfeasts, .inr (6, [.int 3, .ref tfeastsA, .int tfeastsS])), (tfeastsA, .inl (kA 0, 24, .inl tfeastsF)), (tway, .inr (6, [.int 1, .ref twayA, .int twayS])), (twayA, .inl (kA 0, 6, .inl twayF)), (v0, .inr (9, [.ref snodes, .ref spasses, .ref sjars, .ref sorders, .ref sfeasts, .ref sway, .int sws, .int snow, .int sfm, .int sx])), (sorders, .inr (6, [.int 4, .ref sordersA, .int sordersS])), (sordersA, .inl (kA 0, 24, .inl sordersF)), (sfeasts, .inr (6, [.int 3, .ref sfeastsA, .int sfeastsS])), (sfeastsA, .inl (kA 0, 24, .inl sfeastsF)), (sway, .inr (6, [.int 1, .ref swayA, .int swayS])), (swayA, .inl (kA 0, 6, .inl swayF)), (tnodes, .inr (6, [.int 4, .ref tnodesA, .int snodesS])), (tnodesA, .inl (kA 0, 48, .inl o4)), (snodes, .inr (6, [.int 4, .ref snodesA, .int snodesS])), (snodesA, .inl (kA 0, 48, .inl snodesF)), (tpasses, .inr (6, [.int 5, .ref tpassesA, .int spassesS])), (tpassesA, .inl (kA 0, 100, .inl o10)), (spasses, .inr (6, [.int 5, .ref spassesA, .int spassesS])), (spassesA, .inl (kA 0, 100, .inl spassesF))]) (va_runV (As := [.ref sjars]) (rest := []) ⟨hx, hb, hml, hown, hts⟩ (mX6_copyFrom_x144 l dC dI kA _ tjars tjarsA 9 tjarsS tjarsF sjars sjarsA 9 sjarsS sjarsF) (cwV 1 hts gX9_copyFrom_X6_copyFrom rfl rfl rfl ⟨rfl, hdX6_copyFrom⟩ ⟨(Nat.le_of_ble_eq_true rfl), (Nat.le_of_ble_eq_true rfl)⟩) ⟨zPc.blind, va_recv (q := (RX6, TX6, 3)) hK.1 hP (ci := 6) (q0 := 1) rfl rfl, zPre hK (hP.sub [1, 2, 10, 11] rfl) (hD.sub [1, 2, 10, 11] (by decide) rfl)⟩ rfl rfl hl.1 rfl (lv_room (Nat.le_of_ble_eq_true rfl)) dX9_copyFrom_30 ⟨(Nat.le_of_ble_eq_true rfl), (Nat.le_of_ble_eq_true rfl)⟩) hP hD hS hA [1, 2, 10, 11] [0, 3, 4, 5, 6, 7, 8, 9, 12, 13, 14, 15, 16, 17, 18, 19, 20, 21, 22, 23, 24, 25] rfl rfl (by decide) (by decide) (fun u13 H locs hw14 hP hD hS => ?_)
  obtain ⟨o16, rfl⟩ : ∃ z, z = u13 := ⟨_, rfl⟩
  have hp17 := hw14
  have eo16 : o16 = fX6_copyFrom_x144 tjarsF sjarsF := hp17
  have hG := zbnd hG eo16
  obtain ⟨hP, hD⟩ := z_re (L := [(w0, .inr (9, [.ref tnodes, .ref tpasses, .ref tjars, .ref torders, .ref tfeasts, .ref tway, .int tws, .int tnow, .int tfm, .int tx])), (torders, .inr (6, [.int 4, .ref tordersA, .int tordersS])), (tordersA, .inl (kA 0, 24, .inl tordersF)), (tfeasts, .inr (6, [.int 3, .ref tfeastsA, .int tfeastsS])), (tfeastsA, .inl (kA 0, 24, .inl tfeastsF)), (tway, .inr (6, [.int 1, .ref twayA, .int twayS])), (twayA, .inl (kA 0, 6, .inl twayF)), (v0, .inr (9, [.ref snodes, .ref spasses, .ref sjars, .ref sorders, .ref sfeasts, .ref sway, .int sws, .int snow, .int sfm, .int sx])), (sorders, .inr (6, [.int 4, .ref sordersA, .int sordersS])), (sordersA, .inl (kA 0, 24, .inl sordersF)), (sfeasts, .inr (6, [.int 3, .ref sfeastsA, .int sfeastsS])), (sfeastsA, .inl (kA 0, 24, .inl sfeastsF)), (sway, .inr (6, [.int 1, .ref swayA, .int swayS])), (swayA, .inl (kA 0, 6, .inl swayF)), (tnodes, .inr (6, [.int 4, .ref tnodesA, .int snodesS])), (tnodesA, .inl (kA 0, 48, .inl o4)), (snodes, .inr (6, [.int 4, .ref snodesA, .int snodesS])), (snodesA, .inl (kA 0, 48, .inl snodesF)), (tpasses, .inr (6, [.int 5, .ref tpassesA, .int spassesS])), (tpassesA, .inl (kA 0, 100, .inl o10)), (spasses, .inr (6, [.int 5, .ref spassesA, .int spassesS])), (spassesA, .inl (kA 0, 100, .inl spassesF)), (tjars, .inr (6, [.int 9, .ref tjarsA, .int sjarsS])), (tjarsA, .inl (kA 0, 144, .inl o16)), (sjars, .inr (6, [.int 9, .ref sjarsA, .int sjarsS])), (sjarsA, .inl (kA 0, 144, .inl sjarsF))]) hP hD
  refine lv_aload_n hx hb dX9_copyFrom_33 rfl (lv_at hl 0 rfl) ?_
  refine va_get (D := (dC, dI)) (ci := 9) (v := .ref torders) (C := RX9) (T := TX9) (N := 10) hx hb hts iX9_copyFrom_X9 hown hK.1 hP 0 gz0 vcz9 3 (by decide) (kX9_copyFrom_4 hts) (fun _ h9 => h9) gz3 dX9_copyFrom_34 ?_
  refine lv_aload_n hx hb dX9_copyFrom_37 rfl (lv_at hl 1 rfl) ?_
  refine va_get (D := (dC, dI)) (ci := 9) (v := .ref sorders) (C := RX9) (T := TX9) (N := 10) hx hb hts iX9_copyFrom_X9 hown hK.1 hP 7 gz7 vcz9 3 (by decide) (kX9_copyFrom_4 hts) (fun _ h9 => h9) gz3 dX9_copyFrom_38 ?_
  refine z_v (wr := [(w0, .inr (9, [.ref tnodes, .ref tpasses, .ref tjars, .ref torders, .ref tfeasts, .ref tway, .int tws, .int tnow, .int tfm, .int tx])), (tfeasts, .inr (6, [.int 3, .ref tfeastsA, .int tfeastsS])), (tfeastsA, .inl (kA 0, 24, .inl tfeastsF)), (tway, .inr (6, [.int 1, .ref twayA, .int twayS])), (twayA, .inl (kA 0, 6, .inl twayF)), (v0, .inr (9, [.ref snodes, .ref spasses, .ref sjars, .ref sorders, .ref sfeasts, .ref sway, .int sws, .int snow, .int sfm, .int sx])), (sfeasts, .inr (6, [.int 3, .ref sfeastsA, .int sfeastsS])), (sfeastsA, .inl (kA 0, 24, .inl sfeastsF)), (sway, .inr (6, [.int 1, .ref swayA, .int swayS])), (swayA, .inl (kA 0, 6, .inl swayF)), (tnodes, .inr (6, [.int 4, .ref tnodesA, .int snodesS])), (tnodesA, .inl (kA 0, 48, .inl o4)), (snodes, .inr (6, [.int 4, .ref snodesA, .int snodesS])), (snodesA, .inl (kA 0, 48, .inl snodesF)), (tpasses, .inr (6, [.int 5, .ref tpassesA, .int spassesS])), (tpassesA, .inl (kA 0, 100, .inl o10)), (spasses, .inr (6, [.int 5, .ref spassesA, .int spassesS])), (spassesA, .inl (kA 0, 100, .inl spassesF)), (tjars, .inr (6, [.int 9, .ref tjarsA, .int sjarsS])), (tjarsA, .inl (kA 0, 144, .inl o16)), (sjars, .inr (6, [.int 9, .ref sjarsA, .int sjarsS])), (sjarsA, .inl (kA 0, 144, .inl sjarsF))]) (va_runV (As := [.ref sorders]) (rest := []) ⟨hx, hb, hml, hown, hts⟩ (mX6_copyFrom_x24 l dC dI kA _ torders tordersA 4 tordersS tordersF sorders sordersA 4 sordersS sordersF) (cwV 1 hts gX9_copyFrom_X6_copyFrom rfl rfl rfl ⟨rfl, hdX6_copyFrom⟩ ⟨(Nat.le_of_ble_eq_true rfl), (Nat.le_of_ble_eq_true rfl)⟩) ⟨zPc.blind, va_recv (q := (RX6, TX6, 3)) hK.1 hP (ci := 6) (q0 := 1) rfl rfl, zPre hK (hP.sub [1, 2, 8, 9] rfl) (hD.sub [1, 2, 8, 9] (by decide) rfl)⟩ rfl rfl hl.1 rfl (lv_room (Nat.le_of_ble_eq_true rfl)) dX9_copyFrom_41 ⟨(Nat.le_of_ble_eq_true rfl), (Nat.le_of_ble_eq_true rfl)⟩) hP hD hS hA [1, 2, 8, 9] [0, 3, 4, 5, 6, 7, 10, 11, 12, 13, 14, 15, 16, 17, 18, 19, 20, 21, 22, 23, 24, 25] rfl rfl (by decide) (by decide) (fun u19 H locs hw20 hP hD hS => ?_)
  obtain ⟨o22, rfl⟩ : ∃ z, z = u19 := ⟨_, rfl⟩
  have hp23 := hw20
  have eo22 : o22 = fX6_copyFrom_x24 tordersF sordersF := hp23
  have hG := zbnd hG eo22
  obtain ⟨hP, hD⟩ := z_re (L := [(w0, .inr (9, [.ref tnodes, .ref tpasses, .ref tjars, .ref torders, .ref tfeasts, .ref tway, .int tws, .int tnow, .int tfm, .int tx])), (tfeasts, .inr (6, [.int 3, .ref tfeastsA, .int tfeastsS])), (tfeastsA, .inl (kA 0, 24, .inl tfeastsF)), (tway, .inr (6, [.int 1, .ref twayA, .int twayS])), (twayA, .inl (kA 0, 6, .inl twayF)), (v0, .inr (9, [.ref snodes, .ref spasses, .ref sjars, .ref sorders, .ref sfeasts, .ref sway, .int sws, .int snow, .int sfm, .int sx])), (sfeasts, .inr (6, [.int 3, .ref sfeastsA, .int sfeastsS])), (sfeastsA, .inl (kA 0, 24, .inl sfeastsF)), (sway, .inr (6, [.int 1, .ref swayA, .int swayS])), (swayA, .inl (kA 0, 6, .inl swayF)), (tnodes, .inr (6, [.int 4, .ref tnodesA, .int snodesS])), (tnodesA, .inl (kA 0, 48, .inl o4)), (snodes, .inr (6, [.int 4, .ref snodesA, .int snodesS])), (snodesA, .inl (kA 0, 48, .inl snodesF)), (tpasses, .inr (6, [.int 5, .ref tpassesA, .int spassesS])), (tpassesA, .inl (kA 0, 100, .inl o10)), (spasses, .inr (6, [.int 5, .ref spassesA, .int spassesS])), (spassesA, .inl (kA 0, 100, .inl spassesF)), (tjars, .inr (6, [.int 9, .ref tjarsA, .int sjarsS])), (tjarsA, .inl (kA 0, 144, .inl o16)), (sjars, .inr (6, [.int 9, .ref sjarsA, .int sjarsS])), (sjarsA, .inl (kA 0, 144, .inl sjarsF)), (torders, .inr (6, [.int 4, .ref tordersA, .int sordersS])), (tordersA, .inl (kA 0, 24, .inl o22)), (sorders, .inr (6, [.int 4, .ref sordersA, .int sordersS])), (sordersA, .inl (kA 0, 24, .inl sordersF))]) hP hD
  refine lv_aload_n hx hb dX9_copyFrom_44 rfl (lv_at hl 0 rfl) ?_
  refine va_get (D := (dC, dI)) (ci := 9) (v := .ref tfeasts) (C := RX9) (T := TX9) (N := 10) hx hb hts iX9_copyFrom_X9 hown hK.1 hP 0 gz0 vcz9 4 (by decide) (kX9_copyFrom_5 hts) (fun _ h9 => h9) gz4 dX9_copyFrom_45 ?_
  refine lv_aload_n hx hb dX9_copyFrom_48 rfl (lv_at hl 1 rfl) ?_
  refine va_get (D := (dC, dI)) (ci := 9) (v := .ref sfeasts) (C := RX9) (T := TX9) (N := 10) hx hb hts iX9_copyFrom_X9 hown hK.1 hP 5 gz5 vcz9 4 (by decide) (kX9_copyFrom_5 hts) (fun _ h9 => h9) gz4 dX9_copyFrom_49 ?_
  refine z_v (wr := [(w0, .inr (9, [.ref tnodes, .ref tpasses, .ref tjars, .ref torders, .ref tfeasts, .ref tway, .int tws, .int tnow, .int tfm, .int tx])), (tway, .inr (6, [.int 1, .ref twayA, .int twayS])), (twayA, .inl (kA 0, 6, .inl twayF)), (v0, .inr (9, [.ref snodes, .ref spasses, .ref sjars, .ref sorders, .ref sfeasts, .ref sway, .int sws, .int snow, .int sfm, .int sx])), (sway, .inr (6, [.int 1, .ref swayA, .int swayS])), (swayA, .inl (kA 0, 6, .inl swayF)), (tnodes, .inr (6, [.int 4, .ref tnodesA, .int snodesS])), (tnodesA, .inl (kA 0, 48, .inl o4)), (snodes, .inr (6, [.int 4, .ref snodesA, .int snodesS])), (snodesA, .inl (kA 0, 48, .inl snodesF)), (tpasses, .inr (6, [.int 5, .ref tpassesA, .int spassesS])), (tpassesA, .inl (kA 0, 100, .inl o10)), (spasses, .inr (6, [.int 5, .ref spassesA, .int spassesS])), (spassesA, .inl (kA 0, 100, .inl spassesF)), (tjars, .inr (6, [.int 9, .ref tjarsA, .int sjarsS])), (tjarsA, .inl (kA 0, 144, .inl o16)), (sjars, .inr (6, [.int 9, .ref sjarsA, .int sjarsS])), (sjarsA, .inl (kA 0, 144, .inl sjarsF)), (torders, .inr (6, [.int 4, .ref tordersA, .int sordersS])), (tordersA, .inl (kA 0, 24, .inl o22)), (sorders, .inr (6, [.int 4, .ref sordersA, .int sordersS])), (sordersA, .inl (kA 0, 24, .inl sordersF))]) (va_runV (As := [.ref sfeasts]) (rest := []) ⟨hx, hb, hml, hown, hts⟩ (mX6_copyFrom_x24 l dC dI kA _ tfeasts tfeastsA 3 tfeastsS tfeastsF sfeasts sfeastsA 3 sfeastsS sfeastsF) (cwV 1 hts gX9_copyFrom_X6_copyFrom rfl rfl rfl ⟨rfl, hdX6_copyFrom⟩ ⟨(Nat.le_of_ble_eq_true rfl), (Nat.le_of_ble_eq_true rfl)⟩) ⟨zPc.blind, va_recv (q := (RX6, TX6, 3)) hK.1 hP (ci := 6) (q0 := 1) rfl rfl, zPre hK (hP.sub [1, 2, 6, 7] rfl) (hD.sub [1, 2, 6, 7] (by decide) rfl)⟩ rfl rfl hl.1 rfl (lv_room (Nat.le_of_ble_eq_true rfl)) dX9_copyFrom_52 ⟨(Nat.le_of_ble_eq_true rfl), (Nat.le_of_ble_eq_true rfl)⟩) hP hD hS hA [1, 2, 6, 7] [0, 3, 4, 5, 8, 9, 10, 11, 12, 13, 14, 15, 16, 17, 18, 19, 20, 21, 22, 23, 24, 25] rfl rfl (by decide) (by decide) (fun u25 H locs hw26 hP hD hS => ?_)
  obtain ⟨o28, rfl⟩ : ∃ z, z = u25 := ⟨_, rfl⟩
  have hp29 := hw26
  have eo28 : o28 = fX6_copyFrom_x24 tfeastsF sfeastsF := hp29
  have hG := zbnd hG eo28
  obtain ⟨hP, hD⟩ := z_re (L := [(w0, .inr (9, [.ref tnodes, .ref tpasses, .ref tjars, .ref torders, .ref tfeasts, .ref tway, .int tws, .int tnow, .int tfm, .int tx])), (tway, .inr (6, [.int 1, .ref twayA, .int twayS])), (twayA, .inl (kA 0, 6, .inl twayF)), (v0, .inr (9, [.ref snodes, .ref spasses, .ref sjars, .ref sorders, .ref sfeasts, .ref sway, .int sws, .int snow, .int sfm, .int sx])), (sway, .inr (6, [.int 1, .ref swayA, .int swayS])), (swayA, .inl (kA 0, 6, .inl swayF)), (tnodes, .inr (6, [.int 4, .ref tnodesA, .int snodesS])), (tnodesA, .inl (kA 0, 48, .inl o4)), (snodes, .inr (6, [.int 4, .ref snodesA, .int snodesS])), (snodesA, .inl (kA 0, 48, .inl snodesF)), (tpasses, .inr (6, [.int 5, .ref tpassesA, .int spassesS])), (tpassesA, .inl (kA 0, 100, .inl o10)), (spasses, .inr (6, [.int 5, .ref spassesA, .int spassesS])), (spassesA, .inl (kA 0, 100, .inl spassesF)), (tjars, .inr (6, [.int 9, .ref tjarsA, .int sjarsS])), (tjarsA, .inl (kA 0, 144, .inl o16)), (sjars, .inr (6, [.int 9, .ref sjarsA, .int sjarsS])), (sjarsA, .inl (kA 0, 144, .inl sjarsF)), (torders, .inr (6, [.int 4, .ref tordersA, .int sordersS])), (tordersA, .inl (kA 0, 24, .inl o22)), (sorders, .inr (6, [.int 4, .ref sordersA, .int sordersS])), (sordersA, .inl (kA 0, 24, .inl sordersF)), (tfeasts, .inr (6, [.int 3, .ref tfeastsA, .int sfeastsS])), (tfeastsA, .inl (kA 0, 24, .inl o28)), (sfeasts, .inr (6, [.int 3, .ref sfeastsA, .int sfeastsS])), (sfeastsA, .inl (kA 0, 24, .inl sfeastsF))]) hP hD
  refine lv_aload_n hx hb dX9_copyFrom_55 rfl (lv_at hl 0 rfl) ?_
  refine va_get (D := (dC, dI)) (ci := 9) (v := .ref tway) (C := RX9) (T := TX9) (N := 10) hx hb hts iX9_copyFrom_X9 hown hK.1 hP 0 gz0 vcz9 5 (by decide) (kX9_copyFrom_6 hts) (fun _ h9 => h9) gz5 dX9_copyFrom_56 ?_
  refine lv_aload_n hx hb dX9_copyFrom_59 rfl (lv_at hl 1 rfl) ?_
  refine va_get (D := (dC, dI)) (ci := 9) (v := .ref sway) (C := RX9) (T := TX9) (N := 10) hx hb hts iX9_copyFrom_X9 hown hK.1 hP 3 gz3 vcz9 5 (by decide) (kX9_copyFrom_6 hts) (fun _ h9 => h9) gz5 dX9_copyFrom_60 ?_
  refine z_v (wr := [(w0, .inr (9, [.ref tnodes, .ref tpasses, .ref tjars, .ref torders, .ref tfeasts, .ref tway, .int tws, .int tnow, .int tfm, .int tx])), (v0, .inr (9, [.ref snodes, .ref spasses, .ref sjars, .ref sorders, .ref sfeasts, .ref sway, .int sws, .int snow, .int sfm, .int sx])), (tnodes, .inr (6, [.int 4, .ref tnodesA, .int snodesS])), (tnodesA, .inl (kA 0, 48, .inl o4)), (snodes, .inr (6, [.int 4, .ref snodesA, .int snodesS])), (snodesA, .inl (kA 0, 48, .inl snodesF)), (tpasses, .inr (6, [.int 5, .ref tpassesA, .int spassesS])), (tpassesA, .inl (kA 0, 100, .inl o10)), (spasses, .inr (6, [.int 5, .ref spassesA, .int spassesS])), (spassesA, .inl (kA 0, 100, .inl spassesF)), (tjars, .inr (6, [.int 9, .ref tjarsA, .int sjarsS])), (tjarsA, .inl (kA 0, 144, .inl o16)), (sjars, .inr (6, [.int 9, .ref sjarsA, .int sjarsS])), (sjarsA, .inl (kA 0, 144, .inl sjarsF)), (torders, .inr (6, [.int 4, .ref tordersA, .int sordersS])), (tordersA, .inl (kA 0, 24, .inl o22)), (sorders, .inr (6, [.int 4, .ref sordersA, .int sordersS])), (sordersA, .inl (kA 0, 24, .inl sordersF)), (tfeasts, .inr (6, [.int 3, .ref tfeastsA, .int sfeastsS])), (tfeastsA, .inl (kA 0, 24, .inl o28)), (sfeasts, .inr (6, [.int 3, .ref sfeastsA, .int sfeastsS])), (sfeastsA, .inl (kA 0, 24, .inl sfeastsF))]) (va_runV (As := [.ref sway]) (rest := []) ⟨hx, hb, hml, hown, hts⟩ (mX6_copyFrom_x6 l dC dI kA _ tway twayA 1 twayS twayF sway swayA 1 swayS swayF) (cwV 1 hts gX9_copyFrom_X6_copyFrom rfl rfl rfl ⟨rfl, hdX6_copyFrom⟩ ⟨(Nat.le_of_ble_eq_true rfl), (Nat.le_of_ble_eq_true rfl)⟩) ⟨zPc.blind, va_recv (q := (RX6, TX6, 3)) hK.1 hP (ci := 6) (q0 := 1) rfl rfl, zPre hK (hP.sub [1, 2, 4, 5] rfl) (hD.sub [1, 2, 4, 5] (by decide) rfl)⟩ rfl rfl hl.1 rfl (lv_room (Nat.le_of_ble_eq_true rfl)) dX9_copyFrom_63 ⟨(Nat.le_of_ble_eq_true rfl), (Nat.le_of_ble_eq_true rfl)⟩) hP hD hS hA [1, 2, 4, 5] [0, 3, 6, 7, 8, 9, 10, 11, 12, 13, 14, 15, 16, 17, 18, 19, 20, 21, 22, 23, 24, 25] rfl rfl (by decide) (by decide) (fun u31 H locs hw32 hP hD hS => ?_)
  obtain ⟨o34, rfl⟩ : ∃ z, z = u31 := ⟨_, rfl⟩
  have hp35 := hw32
  have eo34 : o34 = fX6_copyFrom_x6 twayF swayF := hp35
  have hG := zbnd hG eo34
  obtain ⟨hP, hD⟩ := z_re (L := [(w0, .inr (9, [.ref tnodes, .ref tpasses, .ref tjars, .ref torders, .ref tfeasts, .ref tway, .int tws, .int tnow, .int tfm, .int tx])), (v0, .inr (9, [.ref snodes, .ref spasses, .ref sjars, .ref sorders, .ref sfeasts, .ref sway, .int sws, .int snow, .int sfm, .int sx])), (tnodes, .inr (6, [.int 4, .ref tnodesA, .int snodesS])), (tnodesA, .inl (kA 0, 48, .inl o4)), (snodes, .inr (6, [.int 4, .ref snodesA, .int snodesS])), (snodesA, .inl (kA 0, 48, .inl snodesF)), (tpasses, .inr (6, [.int 5, .ref tpassesA, .int spassesS])), (tpassesA, .inl (kA 0, 100, .inl o10)), (spasses, .inr (6, [.int 5, .ref spassesA, .int spassesS])), (spassesA, .inl (kA 0, 100, .inl spassesF)), (tjars, .inr (6, [.int 9, .ref tjarsA, .int sjarsS])), (tjarsA, .inl (kA 0, 144, .inl o16)), (sjars, .inr (6, [.int 9, .ref sjarsA, .int sjarsS])), (sjarsA, .inl (kA 0, 144, .inl sjarsF)), (torders, .inr (6, [.int 4, .ref tordersA, .int sordersS])), (tordersA, .inl (kA 0, 24, .inl o22)), (sorders, .inr (6, [.int 4, .ref sordersA, .int sordersS])), (sordersA, .inl (kA 0, 24, .inl sordersF)), (tfeasts, .inr (6, [.int 3, .ref tfeastsA, .int sfeastsS])), (tfeastsA, .inl (kA 0, 24, .inl o28)), (sfeasts, .inr (6, [.int 3, .ref sfeastsA, .int sfeastsS])), (sfeastsA, .inl (kA 0, 24, .inl sfeastsF)), (tway, .inr (6, [.int 1, .ref twayA, .int swayS])), (twayA, .inl (kA 0, 6, .inl o34)), (sway, .inr (6, [.int 1, .ref swayA, .int swayS])), (swayA, .inl (kA 0, 6, .inl swayF))]) hP hD
  refine lv_aload_n hx hb dX9_copyFrom_66 rfl (lv_at hl 0 rfl) ?_
  refine lv_aload_n hx hb dX9_copyFrom_67 rfl (lv_at hl 1 rfl) ?_
  refine va_get (D := (dC, dI)) (ci := 9) (v := .int sws) (C := RX9) (T := TX9) (N := 10) hx hb hts iX9_copyFrom_X9 hown hK.1 hP 1 gz1 vcz9 6 (by decide) (kX9_copyFrom_7 hts) (fun _ h9 => h9) gz6 dX9_copyFrom_68 ?_
  refine va_put (D := (dC, dI)) (ci := 9) (v := .int sws) (ty := .int) (C := RX9) (T := TX9) (N := 10) hx hb hts iX9_copyFrom_X9 tyX9 tyX9_ok nmX9 hown hK.1 hP hD hS 0 gz0 vcz9 6 (by decide) (kX9_copyFrom_7 hts) (fun _ h9 => h9) rfl pfdI rfl rfl (Nat.le_of_ble_eq_true rfl) dX9_copyFrom_71 (fun H locs hP hD hS => ?_)
  obtain ⟨hP, hD⟩ := z_re (L := [(w0, .inr (9, [.ref tnodes, .ref tpasses, .ref tjars, .ref torders, .ref tfeasts, .ref tway, .int sws, .int tnow, .int tfm, .int tx])), (v0, .inr (9, [.ref snodes, .ref spasses, .ref sjars, .ref sorders, .ref sfeasts, .ref sway, .int sws, .int snow, .int sfm, .int sx])), (tnodes, .inr (6, [.int 4, .ref tnodesA, .int snodesS])), (tnodesA, .inl (kA 0, 48, .inl o4)), (snodes, .inr (6, [.int 4, .ref snodesA, .int snodesS])), (snodesA, .inl (kA 0, 48, .inl snodesF)), (tpasses, .inr (6, [.int 5, .ref tpassesA, .int spassesS])), (tpassesA, .inl (kA 0, 100, .inl o10)), (spasses, .inr (6, [.int 5, .ref spassesA, .int spassesS])), (spassesA, .inl (kA 0, 100, .inl spassesF)), (tjars, .inr (6, [.int 9, .ref tjarsA, .int sjarsS])), (tjarsA, .inl (kA 0, 144, .inl o16)), (sjars, .inr (6, [.int 9, .ref sjarsA, .int sjarsS])), (sjarsA, .inl (kA 0, 144, .inl sjarsF)), (torders, .inr (6, [.int 4, .ref tordersA, .int sordersS])), (tordersA, .inl (kA 0, 24, .inl o22)), (sorders, .inr (6, [.int 4, .ref sordersA, .int sordersS])), (sordersA, .inl (kA 0, 24, .inl sordersF)), (tfeasts, .inr (6, [.int 3, .ref tfeastsA, .int sfeastsS])), (tfeastsA, .inl (kA 0, 24, .inl o28)), (sfeasts, .inr (6, [.int 3, .ref sfeastsA, .int sfeastsS])), (sfeastsA, .inl (kA 0, 24, .inl sfeastsF)), (tway, .inr (6, [.int 1, .ref twayA, .int swayS])), (twayA, .inl (kA 0, 6, .inl o34)), (sway, .inr (6, [.int 1, .ref swayA, .int swayS])), (swayA, .inl (kA 0, 6, .inl swayF))]) hP hD
  refine lv_aload_n hx hb dX9_copyFrom_74 rfl (lv_at hl 0 rfl) ?_
  refine lv_aload_n hx hb dX9_copyFrom_75 rfl (lv_at hl 1 rfl) ?_
  refine va_get (D := (dC, dI)) (ci := 9) (v := .int snow) (C := RX9) (T := TX9) (N := 10) hx hb hts iX9_copyFrom_X9 hown hK.1 hP 1 gz1 vcz9 7 (by decide) (kX9_copyFrom_8 hts) (fun _ h9 => h9) gz7 dX9_copyFrom_76 ?_
  refine va_put (D := (dC, dI)) (ci := 9) (v := .int snow) (ty := .int) (C := RX9) (T := TX9) (N := 10) hx hb hts iX9_copyFrom_X9 tyX9 tyX9_ok nmX9 hown hK.1 hP hD hS 0 gz0 vcz9 7 (by decide) (kX9_copyFrom_8 hts) (fun _ h9 => h9) rfl pfdI rfl rfl (Nat.le_of_ble_eq_true rfl) dX9_copyFrom_79 (fun H locs hP hD hS => ?_)
  obtain ⟨hP, hD⟩ := z_re (L := [(w0, .inr (9, [.ref tnodes, .ref tpasses, .ref tjars, .ref torders, .ref tfeasts, .ref tway, .int sws, .int snow, .int tfm, .int tx])), (v0, .inr (9, [.ref snodes, .ref spasses, .ref sjars, .ref sorders, .ref sfeasts, .ref sway, .int sws, .int snow, .int sfm, .int sx])), (tnodes, .inr (6, [.int 4, .ref tnodesA, .int snodesS])), (tnodesA, .inl (kA 0, 48, .inl o4)), (snodes, .inr (6, [.int 4, .ref snodesA, .int snodesS])), (snodesA, .inl (kA 0, 48, .inl snodesF)), (tpasses, .inr (6, [.int 5, .ref tpassesA, .int spassesS])), (tpassesA, .inl (kA 0, 100, .inl o10)), (spasses, .inr (6, [.int 5, .ref spassesA, .int spassesS])), (spassesA, .inl (kA 0, 100, .inl spassesF)), (tjars, .inr (6, [.int 9, .ref tjarsA, .int sjarsS])), (tjarsA, .inl (kA 0, 144, .inl o16)), (sjars, .inr (6, [.int 9, .ref sjarsA, .int sjarsS])), (sjarsA, .inl (kA 0, 144, .inl sjarsF)), (torders, .inr (6, [.int 4, .ref tordersA, .int sordersS])), (tordersA, .inl (kA 0, 24, .inl o22)), (sorders, .inr (6, [.int 4, .ref sordersA, .int sordersS])), (sordersA, .inl (kA 0, 24, .inl sordersF)), (tfeasts, .inr (6, [.int 3, .ref tfeastsA, .int sfeastsS])), (tfeastsA, .inl (kA 0, 24, .inl o28)), (sfeasts, .inr (6, [.int 3, .ref sfeastsA, .int sfeastsS])), (sfeastsA, .inl (kA 0, 24, .inl sfeastsF)), (tway, .inr (6, [.int 1, .ref twayA, .int swayS])), (twayA, .inl (kA 0, 6, .inl o34)), (sway, .inr (6, [.int 1, .ref swayA, .int swayS])), (swayA, .inl (kA 0, 6, .inl swayF))]) hP hD
  refine lv_aload_n hx hb dX9_copyFrom_82 rfl (lv_at hl 0 rfl) ?_
  refine lv_aload_n hx hb dX9_copyFrom_83 rfl (lv_at hl 1 rfl) ?_
  refine va_get (D := (dC, dI)) (ci := 9) (v := .int sfm) (C := RX9) (T := TX9) (N := 10) hx hb hts iX9_copyFrom_X9 hown hK.1 hP 1 gz1 vcz9 8 (by decide) (kX9_copyFrom_9 hts) (fun _ h9 => h9) gz8 dX9_copyFrom_84 ?_
  refine va_put (D := (dC, dI)) (ci := 9) (v := .int sfm) (ty := .int) (C := RX9) (T := TX9) (N := 10) hx hb hts iX9_copyFrom_X9 tyX9 tyX9_ok nmX9 hown hK.1 hP hD hS 0 gz0 vcz9 8 (by decide) (kX9_copyFrom_9 hts) (fun _ h9 => h9) rfl pfdI rfl rfl (Nat.le_of_ble_eq_true rfl) dX9_copyFrom_87 (fun H locs hP hD hS => ?_)
  obtain ⟨hP, hD⟩ := z_re (L := [(w0, .inr (9, [.ref tnodes, .ref tpasses, .ref tjars, .ref torders, .ref tfeasts, .ref tway, .int sws, .int snow, .int sfm, .int tx])), (v0, .inr (9, [.ref snodes, .ref spasses, .ref sjars, .ref sorders, .ref sfeasts, .ref sway, .int sws, .int snow, .int sfm, .int sx])), (tnodes, .inr (6, [.int 4, .ref tnodesA, .int snodesS])), (tnodesA, .inl (kA 0, 48, .inl o4)), (snodes, .inr (6, [.int 4, .ref snodesA, .int snodesS])), (snodesA, .inl (kA 0, 48, .inl snodesF)), (tpasses, .inr (6, [.int 5, .ref tpassesA, .int spassesS])), (tpassesA, .inl (kA 0, 100, .inl o10)), (spasses, .inr (6, [.int 5, .ref spassesA, .int spassesS])), (spassesA, .inl (kA 0, 100, .inl spassesF)), (tjars, .inr (6, [.int 9, .ref tjarsA, .int sjarsS])), (tjarsA, .inl (kA 0, 144, .inl o16)), (sjars, .inr (6, [.int 9, .ref sjarsA, .int sjarsS])), (sjarsA, .inl (kA 0, 144, .inl sjarsF)), (torders, .inr (6, [.int 4, .ref tordersA, .int sordersS])), (tordersA, .inl (kA 0, 24, .inl o22)), (sorders, .inr (6, [.int 4, .ref sordersA, .int sordersS])), (sordersA, .inl (kA 0, 24, .inl sordersF)), (tfeasts, .inr (6, [.int 3, .ref tfeastsA, .int sfeastsS])), (tfeastsA, .inl (kA 0, 24, .inl o28)), (sfeasts, .inr (6, [.int 3, .ref sfeastsA, .int sfeastsS])), (sfeastsA, .inl (kA 0, 24, .inl sfeastsF)), (tway, .inr (6, [.int 1, .ref twayA, .int swayS])), (twayA, .inl (kA 0, 6, .inl o34)), (sway, .inr (6, [.int 1, .ref swayA, .int swayS])), (swayA, .inl (kA 0, 6, .inl swayF))]) hP hD
  refine lv_aload_n hx hb dX9_copyFrom_90 rfl (lv_at hl 0 rfl) ?_
  refine lv_aload_n hx hb dX9_copyFrom_91 rfl (lv_at hl 1 rfl) ?_
  refine va_get (D := (dC, dI)) (ci := 9) (v := .int sx) (C := RX9) (T := TX9) (N := 10) hx hb hts iX9_copyFrom_X9 hown hK.1 hP 1 gz1 vcz9 9 (by decide) (kX9_copyFrom_10 hts) (fun _ h9 => h9) gz9 dX9_copyFrom_92 ?_
  refine va_put (D := (dC, dI)) (ci := 9) (v := .int sx) (ty := .int) (C := RX9) (T := TX9) (N := 10) hx hb hts iX9_copyFrom_X9 tyX9 tyX9_ok nmX9 hown hK.1 hP hD hS 0 gz0 vcz9 9 (by decide) (kX9_copyFrom_10 hts) (fun _ h9 => h9) rfl pfdI rfl rfl (Nat.le_of_ble_eq_true rfl) dX9_copyFrom_95 (fun H locs hP hD hS => ?_)
  obtain ⟨hP, hD⟩ := z_re (L := [(w0, .inr (9, [.ref tnodes, .ref tpasses, .ref tjars, .ref torders, .ref tfeasts, .ref tway, .int sws, .int snow, .int sfm, .int sx])), (v0, .inr (9, [.ref snodes, .ref spasses, .ref sjars, .ref sorders, .ref sfeasts, .ref sway, .int sws, .int snow, .int sfm, .int sx])), (tnodes, .inr (6, [.int 4, .ref tnodesA, .int snodesS])), (tnodesA, .inl (kA 0, 48, .inl o4)), (snodes, .inr (6, [.int 4, .ref snodesA, .int snodesS])), (snodesA, .inl (kA 0, 48, .inl snodesF)), (tpasses, .inr (6, [.int 5, .ref tpassesA, .int spassesS])), (tpassesA, .inl (kA 0, 100, .inl o10)), (spasses, .inr (6, [.int 5, .ref spassesA, .int spassesS])), (spassesA, .inl (kA 0, 100, .inl spassesF)), (tjars, .inr (6, [.int 9, .ref tjarsA, .int sjarsS])), (tjarsA, .inl (kA 0, 144, .inl o16)), (sjars, .inr (6, [.int 9, .ref sjarsA, .int sjarsS])), (sjarsA, .inl (kA 0, 144, .inl sjarsF)), (torders, .inr (6, [.int 4, .ref tordersA, .int sordersS])), (tordersA, .inl (kA 0, 24, .inl o22)), (sorders, .inr (6, [.int 4, .ref sordersA, .int sordersS])), (sordersA, .inl (kA 0, 24, .inl sordersF)), (tfeasts, .inr (6, [.int 3, .ref tfeastsA, .int sfeastsS])), (tfeastsA, .inl (kA 0, 24, .inl o28)), (sfeasts, .inr (6, [.int 3, .ref sfeastsA, .int sfeastsS])), (sfeastsA, .inl (kA 0, 24, .inl sfeastsF)), (tway, .inr (6, [.int 1, .ref twayA, .int swayS])), (twayA, .inl (kA 0, 6, .inl o34)), (sway, .inr (6, [.int 1, .ref swayA, .int swayS])), (swayA, .inl (kA 0, 6, .inl swayF))]) hP hD
  obtain ⟨hP9, hD9⟩ := z_sb (L' := [(w0, .inr (9, [.ref tnodes, .ref tpasses, .ref tjars, .ref torders, .ref tfeasts, .ref tway, .int sws, .int snow, .int sfm, .int sx])), (tnodes, .inr (6, [.int 4, .ref tnodesA, .int snodesS])), (tnodesA, .inl (kA 0, 48, .inl o4)), (tpasses, .inr (6, [.int 5, .ref tpassesA, .int spassesS])), (tpassesA, .inl (kA 0, 100, .inl o10)), (tjars, .inr (6, [.int 9, .ref tjarsA, .int sjarsS])), (tjarsA, .inl (kA 0, 144, .inl o16)), (torders, .inr (6, [.int 4, .ref tordersA, .int sordersS])), (tordersA, .inl (kA 0, 24, .inl o22)), (tfeasts, .inr (6, [.int 3, .ref tfeastsA, .int sfeastsS])), (tfeastsA, .inl (kA 0, 24, .inl o28)), (tway, .inr (6, [.int 1, .ref twayA, .int swayS])), (twayA, .inl (kA 0, 6, .inl o34)), (v0, .inr (9, [.ref snodes, .ref spasses, .ref sjars, .ref sorders, .ref sfeasts, .ref sway, .int sws, .int snow, .int sfm, .int sx])), (snodes, .inr (6, [.int 4, .ref snodesA, .int snodesS])), (snodesA, .inl (kA 0, 48, .inl snodesF)), (spasses, .inr (6, [.int 5, .ref spassesA, .int spassesS])), (spassesA, .inl (kA 0, 100, .inl spassesF)), (sjars, .inr (6, [.int 9, .ref sjarsA, .int sjarsS])), (sjarsA, .inl (kA 0, 144, .inl sjarsF)), (sorders, .inr (6, [.int 4, .ref sordersA, .int sordersS])), (sordersA, .inl (kA 0, 24, .inl sordersF)), (sfeasts, .inr (6, [.int 3, .ref sfeastsA, .int sfeastsS])), (sfeastsA, .inl (kA 0, 24, .inl sfeastsF)), (sway, .inr (6, [.int 1, .ref swayA, .int swayS])), (swayA, .inl (kA 0, 6, .inl swayF))]) hP hD [0, 2, 3, 6, 7, 10, 11, 14, 15, 18, 19, 22, 23, 1, 4, 5, 8, 9, 12, 13, 16, 17, 20, 21, 24, 25] (by decide) rfl
  refine W.widen (k := 0) (n := 0) (Nat.le_of_ble_eq_true rfl) (Nat.le_of_ble_eq_true rfl) ?_
  exact W.vret hx hb hr (fun t ht hW => ⟨⟨(o4, o10, o16, o22, o28, o34), rfl, (hG.trans hG0.symm), by rw [ht]; exact hP9, hD9⟩, hS.F ht⟩) hS.2.2 dX9_copyFrom_98
