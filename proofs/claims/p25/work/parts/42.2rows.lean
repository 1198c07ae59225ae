theorem fsX6 : ∀ j, j < 3 → defaultValue (tyX6 j) = vp_V [.int 0, .null, .int 0] j := by decide +kernel
theorem kX6_init_1 {a : Array Value} {s : State} (hts : ∀ w ∈ wsX6_init, w.before a s = true) : (.methodLink RX6 3 objectInit : Cond).before a s = true := kw (A := ixX6_init) wt62 hts (by decide +kernel)
theorem kX6_init_2 {a : Array Value} {s : State} (hts : ∀ w ∈ wsX6_init, w.before a s = true) : (.instanceMethod objectInit : Cond).before a s = true := kw (A := ixX6_init) wt10 hts (by decide +kernel)
theorem kX6_init_3 {a : Array Value} {s : State} (hts : ∀ w ∈ wsX6_init, w.before a s = true) : (.code objectInit ⟨#[0xb1]⟩ 1 none : Cond).before a s = true := kw (A := ixX6_init) wt11 hts (by decide +kernel)
theorem kX6_init_4 {a : Array Value} {s : State} (hts : ∀ w ∈ wsX6_init, w.before a s = true) : (.fieldLink RX6 9 "SnowMules$Table" "width" "I" : Cond).before a s = true := kw (A := ixX6_init) wt63 hts (by decide +kernel)
theorem kX6_init_5 {a : Array Value} {s : State} (hts : ∀ w ∈ wsX6_init, w.before a s = true) : (.methodLink RX6 15 Lib.Math.max.name : Cond).before a s = true := kw (A := ixX6_init) wt64 hts (by decide +kernel)
theorem kX6_init_6 {a : Array Value} {s : State} (hts : ∀ w ∈ wsX6_init, w.before a s = true) : (.static Lib.Math.max.name : Cond).before a s = true := kw (A := ixX6_init) wt65 hts (by decide +kernel)
theorem kX6_init_7 {a : Array Value} {s : State} (hts : ∀ w ∈ wsX6_init, w.before a s = true) : (.initialized "java/lang/Math" : Cond).before a s = true := kw (A := ixX6_init) wt66 hts (by decide +kernel)
theorem kX6_init_8 {a : Array Value} {s : State} (hts : ∀ w ∈ wsX6_init, w.before a s = true) : (.code Lib.Math.max.name Lib.Math.max.code 2 (some .int) : Cond).before a s = true := kw (A := ixX6_init) wt67 hts (by decide +kernel)
theorem kX6_init_9 {a : Array Value} {s : State} (hts : ∀ w ∈ wsX6_init, w.before a s = true) : (.arrayClass .int : Cond).before a s = true := kw (A := ixX6_init) wt18 hts (by decide +kernel)
theorem kX6_init_10 {a : Array Value} {s : State} (hts : ∀ w ∈ wsX6_init, w.before a s = true) : (.fieldLink RX6 21 "SnowMules$Table" "cells" "[I" : Cond).before a s = true := kw (A := ixX6_init) wt68 hts (by decide +kernel)
theorem kX9_init_1 {a : Array Value} {s : State} (hts : ∀ w ∈ wsX9_init, w.before a s = true) : (.methodLink RX9 3 objectInit : Cond).before a s = true := kw (A := ixX9_init) wt48 hts (by decide +kernel)
theorem kX9_init_2 {a : Array Value} {s : State} (hts : ∀ w ∈ wsX9_init, w.before a s = true) : (.instanceMethod objectInit : Cond).before a s = true := kw (A := ixX9_init) wt10 hts (by decide +kernel)
theorem kX9_init_3 {a : Array Value} {s : State} (hts : ∀ w ∈ wsX9_init, w.before a s = true) : (.code objectInit ⟨#[0xb1]⟩ 1 none : Cond).before a s = true := kw (A := ixX9_init) wt11 hts (by decide +kernel)
theorem kX9_init_4 {a : Array Value} {s : State} (hts : ∀ w ∈ wsX9_init, w.before a s = true) : (.classLink RX9 9 RX6 : Cond).before a s = true := kw (A := ixX9_init) wt49 hts (by decide +kernel)
theorem kX9_init_5 {a : Array Value} {s : State} (hts : ∀ w ∈ wsX9_init, w.before a s = true) : (.instantiable RX6 3 : Cond).before a s = true := kw (A := ixX9_init) wt50 hts (by decide +kernel)
theorem kX9_init_6 {a : Array Value} {s : State} (hts : ∀ w ∈ wsX9_init, w.before a s = true) : (.initialized RX6 : Cond).before a s = true := kw (A := ixX9_init) wt51 hts (by decide +kernel)
theorem kX9_init_14 {a : Array Value} {s : State} (hts : ∀ w ∈ wsX9_init, w.before a s = true) : (.methodLink RX9 11 yX6_init : Cond).before a s = true := kw (A := ixX9_init) wt59 hts (by decide +kernel)
theorem kX9_init_15 {a : Array Value} {s : State} (hts : ∀ w ∈ wsX9_init, w.before a s = true) : (.instanceMethod yX6_init : Cond).before a s = true := kw (A := ixX9_init) wt60 hts (by decide +kernel)
theorem kX9_init_7 {a : Array Value} {s : State} (hts : ∀ w ∈ wsX9_init, w.before a s = true) : (.fieldLink RX9 14 "SnowMules$World" "nodes" "LSnowMules$Table;" : Cond).before a s = true := kw (A := ixX9_init) wt52 hts (by decide +kernel)
theorem kX9_init_8 {a : Array Value} {s : State} (hts : ∀ w ∈ wsX9_init, w.before a s = true) : (.fieldLink RX9 20 "SnowMules$World" "passes" "LSnowMules$Table;" : Cond).before a s = true := kw (A := ixX9_init) wt53 hts (by decide +kernel)
theorem kX9_init_9 {a : Array Value} {s : State} (hts : ∀ w ∈ wsX9_init, w.before a s = true) : (.fieldLink RX9 23 "SnowMules$World" "jars" "LSnowMules$Table;" : Cond).before a s = true := kw (A := ixX9_init) wt54 hts (by decide +kernel)
theorem kX9_init_10 {a : Array Value} {s : State} (hts : ∀ w ∈ wsX9_init, w.before a s = true) : (.fieldLink RX9 26 "SnowMules$World" "orders" "LSnowMules$Table;" : Cond).before a s = true := kw (A := ixX9_init) wt55 hts (by decide +kernel)
theorem kX9_init_11 {a : Array Value} {s : State} (hts : ∀ w ∈ wsX9_init, w.before a s = true) : (.fieldLink RX9 29 "SnowMules$World" "feasts" "LSnowMules$Table;" : Cond).before a s = true := kw (A := ixX9_init) wt56 hts (by decide +kernel)
theorem kX9_init_12 {a : Array Value} {s : State} (hts : ∀ w ∈ wsX9_init, w.before a s = true) : (.fieldLink RX9 32 "SnowMules$World" "way" "LSnowMules$Table;" : Cond).before a s = true := kw (A := ixX9_init) wt57 hts (by decide +kernel)
theorem kX9_init_13 {a : Array Value} {s : State} (hts : ∀ w ∈ wsX9_init, w.before a s = true) : (.fieldLink RX9 35 "SnowMules$World" "wayStart" "I" : Cond).before a s = true := kw (A := ixX9_init) wt58 hts (by decide +kernel)
theorem kX1_init_1 {a : Array Value} {s : State} (hts : ∀ w ∈ wsX1_init, w.before a s = true) : (.methodLink RX1 1 objectInit : Cond).before a s = true := kw (A := ixX1_init) wt80 hts (by decide +kernel)
theorem kX1_init_2 {a : Array Value} {s : State} (hts : ∀ w ∈ wsX1_init, w.before a s = true) : (.instanceMethod objectInit : Cond).before a s = true := kw (A := ixX1_init) wt10 hts (by decide +kernel)
theorem kX1_init_3 {a : Array Value} {s : State} (hts : ∀ w ∈ wsX1_init, w.before a s = true) : (.code objectInit ⟨#[0xb1]⟩ 1 none : Cond).before a s = true := kw (A := ixX1_init) wt11 hts (by decide +kernel)
theorem kX1_init_4 {a : Array Value} {s : State} (hts : ∀ w ∈ wsX1_init, w.before a s = true) : (.arrayClass .int : Cond).before a s = true := kw (A := ixX1_init) wt18 hts (by decide +kernel)
theorem kX1_init_5 {a : Array Value} {s : State} (hts : ∀ w ∈ wsX1_init, w.before a s = true) : (.fieldLink RX1 9 "SnowMules$Law" "sorts" "[I" : Cond).before a s = true := kw (A := ixX1_init) wt81 hts (by decide +kernel)
theorem kX1_init_6 {a : Array Value} {s : State} (hts : ∀ w ∈ wsX1_init, w.before a s = true) : (.fieldLink RX1 13 "SnowMules$Law" "sumStarts" "[I" : Cond).before a s = true := kw (A := ixX1_init) wt82 hts (by decide +kernel)
theorem kX1_init_7 {a : Array Value} {s : State} (hts : ∀ w ∈ wsX1_init, w.before a s = true) : (.fieldLink RX1 16 "SnowMules$Law" "sumStops" "[I" : Cond).before a s = true := kw (A := ixX1_init) wt83 hts (by decide +kernel)
theorem kX1_init_8 {a : Array Value} {s : State} (hts : ∀ w ∈ wsX1_init, w.before a s = true) : (.fieldLink RX1 19 "SnowMules$Law" "testStarts" "[I" : Cond).before a s = true := kw (A := ixX1_init) wt84 hts (by decide +kernel)
theorem kX1_init_9 {a : Array Value} {s : State} (hts : ∀ w ∈ wsX1_init, w.before a s = true) : (.fieldLink RX1 22 "SnowMules$Law" "testStops" "[I" : Cond).before a s = true := kw (A := ixX1_init) wt85 hts (by decide +kernel)
theorem kX1_init_10 {a : Array Value} {s : State} (hts : ∀ w ∈ wsX1_init, w.before a s = true) : (.fieldLink RX1 25 "SnowMules$Law" "joins" "[I" : Cond).before a s = true := kw (A := ixX1_init) wt86 hts (by decide +kernel)
theorem kX1_init_11 {a : Array Value} {s : State} (hts : ∀ w ∈ wsX1_init, w.before a s = true) : (.fieldLink RX1 28 "SnowMules$Law" "operands" "[I" : Cond).before a s = true := kw (A := ixX1_init) wt87 hts (by decide +kernel)
theorem kX1_init_12 {a : Array Value} {s : State} (hts : ∀ w ∈ wsX1_init, w.before a s = true) : (.fieldLink RX1 31 "SnowMules$Law" "factStarts" "[I" : Cond).before a s = true := kw (A := ixX1_init) wt88 hts (by decide +kernel)
theorem kX1_init_13 {a : Array Value} {s : State} (hts : ∀ w ∈ wsX1_init, w.before a s = true) : (.fieldLink RX1 34 "SnowMules$Law" "factMiddles" "[I" : Cond).before a s = true := kw (A := ixX1_init) wt89 hts (by decide +kernel)
theorem kX1_init_14 {a : Array Value} {s : State} (hts : ∀ w ∈ wsX1_init, w.before a s = true) : (.fieldLink RX1 37 "SnowMules$Law" "factStops" "[I" : Cond).before a s = true := kw (A := ixX1_init) wt90 hts (by decide +kernel)
theorem kX1_init_15 {a : Array Value} {s : State} (hts : ∀ w ∈ wsX1_init, w.before a s = true) : (.fieldLink RX1 40 "SnowMules$Law" "signs" "[I" : Cond).before a s = true := kw (A := ixX1_init) wt91 hts (by decide +kernel)
theorem kX1_init_16 {a : Array Value} {s : State} (hts : ∀ w ∈ wsX1_init, w.before a s = true) : (.fieldLink RX1 43 "SnowMules$Law" "tests" "[I" : Cond).before a s = true := kw (A := ixX1_init) wt92 hts (by decide +kernel)
theorem iX6_init_X6 : ∀ w ∈ wsX60, w ∈ wsX6_init := inW (A := ixX6_init) uwX6 (by decide +kernel)
theorem iX9_init_X6 : ∀ w ∈ wsX60, w ∈ wsX9_init := inW (A := ixX9_init) uwX6 (by decide +kernel)
theorem iX9_init_X9 : ∀ w ∈ wsX90, w ∈ wsX9_init := inW (A := ixX9_init) uwX9 (by decide +kernel)
theorem iX1_init_X1 : ∀ w ∈ wsX10, w ∈ wsX1_init := inW (A := ixX1_init) uwX1 (by decide +kernel)
theorem hdX6_init : yX6_init.cls ≠ "java/lang/invoke/MethodHandle" ∧ yX6_init.cls ≠ "java/lang/invoke/VarHandle" ∧ (parseMethodDescriptor yX6_init.desc).map (fun d => d.parameters.length) = some 2 := ⟨hdc_1.1, hdc_1.2, hdd_18⟩
def dtX6_init_42_0 : List (Nat × Jvm.ClassFile.Instr × Nat) := [(0, .aload_n 0, 1), (1, .invokespecial 3, 3), (4, .aload_n 0, 1), (5, .iload_n 2, 1), (6, .putfield 9, 3), (9, .aload_n 0, 1), (10, .iconst 0, 1), (11, .iload_n 1, 1), (12, .iload_n 2, 1), (13, .imul, 1), (14, .invokestatic 15, 3), (17, .newarray .int, 2), (19, .putfield 21, 3), (22, .return_, 1)]
theorem daX6_init_42_0 : dtX6_init_42_0.all (dqd cX6_init) = true := by decide +kernel
theorem dX6_init_0 : decode cX6_init 0 = .ok (.aload_n 0, 1) := dq daX6_init_42_0 0 rfl
theorem dX6_init_1 : decode cX6_init 1 = .ok (.invokespecial 3, 3) := dq daX6_init_42_0 1 rfl
theorem dX6_init_4 : decode cX6_init 4 = .ok (.aload_n 0, 1) := dq daX6_init_42_0 2 rfl
theorem dX6_init_5 : decode cX6_init 5 = .ok (.iload_n 2, 1) := dq daX6_init_42_0 3 rfl
theorem dX6_init_6 : decode cX6_init 6 = .ok (.putfield 9, 3) := dq daX6_init_42_0 4 rfl
theorem dX6_init_9 : decode cX6_init 9 = .ok (.aload_n 0, 1) := dq daX6_init_42_0 5 rfl
theorem dX6_init_10 : decode cX6_init 10 = .ok (.iconst 0, 1) := dq daX6_init_42_0 6 rfl
theorem dX6_init_11 : decode cX6_init 11 = .ok (.iload_n 1, 1) := dq daX6_init_42_0 7 rfl
theorem dX6_init_12 : decode cX6_init 12 = .ok (.iload_n 2, 1) := dq daX6_init_42_0 8 rfl
theorem dX6_init_13 : decode cX6_init 13 = .ok (.imul, 1) := dq daX6_init_42_0 9 rfl
theorem dX6_init_14 : decode cX6_init 14 = .ok (.invokestatic 15, 3) := dq daX6_init_42_0 10 rfl
theorem dX6_init_17 : decode cX6_init 17 = .ok (.newarray .int, 2) := dq daX6_init_42_0 11 rfl
theorem dX6_init_19 : decode cX6_init 19 = .ok (.putfield 21, 3) := dq daX6_init_42_0 12 rfl
theorem dX6_init_22 : decode cX6_init 22 = .ok (.return_, 1) := dq daX6_init_42_0 13 rfl
def dtX9_init_42_0 : List (Nat × Jvm.ClassFile.Instr × Nat) := [(0, .aload_n 0, 1), (1, .invokespecial 3, 3), (4, .aload_n 0, 1), (5, .new 9, 3), (8, .dup, 1), (9, .bipush 12, 2), (11, .iconst 4, 1), (12, .invokespecial 11, 3), (15, .putfield 14, 3), (18, .aload_n 0, 1), (19, .new 9, 3), (22, .dup, 1), (23, .bipush 20, 2), (25, .iconst 5, 1), (26, .invokespecial 11, 3), (29, .putfield 20, 3), (32, .aload_n 0, 1), (33, .new 9, 3), (36, .dup, 1), (37, .bipush 16, 2), (39, .bipush 9, 2), (41, .invokespecial 11, 3), (44, .putfield 23, 3), (47, .aload_n 0, 1), (48, .new 9, 3), (51, .dup, 1), (52, .bipush 6, 2), (54, .iconst 4, 1), (55, .invokespecial 11, 3), (58, .putfield 26, 3), (61, .aload_n 0, 1), (62, .new 9, 3)]
theorem daX9_init_42_0 : dtX9_init_42_0.all (dqd cX9_init) = true := by decide +kernel
theorem dX9_init_0 : decode cX9_init 0 = .ok (.aload_n 0, 1) := dq daX9_init_42_0 0 rfl
theorem dX9_init_1 : decode cX9_init 1 = .ok (.invokespecial 3, 3) := dq daX9_init_42_0 1 rfl
theorem dX9_init_4 : decode cX9_init 4 = .ok (.aload_n 0, 1) := dq daX9_init_42_0 2 rfl
theorem dX9_init_5 : decode cX9_init 5 = .ok (.new 9, 3) := dq daX9_init_42_0 3 rfl
theorem dX9_init_8 : decode cX9_init 8 = .ok (.dup, 1) := dq daX9_init_42_0 4 rfl
theorem dX9_init_9 : decode cX9_init 9 = .ok (.bipush 12, 2) := dq daX9_init_42_0 5 rfl
theorem dX9_init_11 : decode cX9_init 11 = .ok (.iconst 4, 1) := dq daX9_init_42_0 6 rfl
theorem dX9_init_12 : decode cX9_init 12 = .ok (.invokespecial 11, 3) := dq daX9_init_42_0 7 rfl
theorem dX9_init_15 : decode cX9_init 15 = .ok (.putfield 14, 3) := dq daX9_init_42_0 8 rfl
theorem dX9_init_18 : decode cX9_init 18 = .ok (.aload_n 0, 1) := dq daX9_init_42_0 9 rfl
theorem dX9_init_19 : decode cX9_init 19 = .ok (.new 9, 3) := dq daX9_init_42_0 10 rfl
theorem dX9_init_22 : decode cX9_init 22 = .ok (.dup, 1) := dq daX9_init_42_0 11 rfl
theorem dX9_init_23 : decode cX9_init 23 = .ok (.bipush 20, 2) := dq daX9_init_42_0 12 rfl
theorem dX9_init_25 : decode cX9_init 25 = .ok (.iconst 5, 1) := dq daX9_init_42_0 13 rfl
theorem dX9_init_26 : decode cX9_init 26 = .ok (.invokespecial 11, 3) := dq daX9_init_42_0 14 rfl
theorem dX9_init_29 : decode cX9_init 29 = .ok (.putfield 20, 3) := dq daX9_init_42_0 15 rfl
theorem dX9_init_32 : decode cX9_init 32 = .ok (.aload_n 0, 1) := dq daX9_init_42_0 16 rfl
theorem dX9_init_33 : decode cX9_init 33 = .ok (.new 9, 3) := dq daX9_init_42_0 17 rfl
theorem dX9_init_36 : decode cX9_init 36 = .ok (.dup, 1) := dq daX9_init_42_0 18 rfl
theorem dX9_init_37 : decode cX9_init 37 = .ok (.bipush 16, 2) := dq daX9_init_42_0 19 rfl
theorem dX9_init_39 : decode cX9_init 39 = .ok (.bipush 9, 2) := dq daX9_init_42_0 20 rfl
theorem dX9_init_41 : decode cX9_init 41 = .ok (.invokespecial 11, 3) := dq daX9_init_42_0 21 rfl
theorem dX9_init_44 : decode cX9_init 44 = .ok (.putfield 23, 3) := dq daX9_init_42_0 22 rfl
theorem dX9_init_47 : decode cX9_init 47 = .ok (.aload_n 0, 1) := dq daX9_init_42_0 23 rfl
theorem dX9_init_48 : decode cX9_init 48 = .ok (.new 9, 3) := dq daX9_init_42_0 24 rfl
theorem dX9_init_51 : decode cX9_init 51 = .ok (.dup, 1) := dq daX9_init_42_0 25 rfl
theorem dX9_init_52 : decode cX9_init 52 = .ok (.bipush 6, 2) := dq daX9_init_42_0 26 rfl
theorem dX9_init_54 : decode cX9_init 54 = .ok (.iconst 4, 1) := dq daX9_init_42_0 27 rfl
theorem dX9_init_55 : decode cX9_init 55 = .ok (.invokespecial 11, 3) := dq daX9_init_42_0 28 rfl
theorem dX9_init_58 : decode cX9_init 58 = .ok (.putfield 26, 3) := dq daX9_init_42_0 29 rfl
theorem dX9_init_61 : decode cX9_init 61 = .ok (.aload_n 0, 1) := dq daX9_init_42_0 30 rfl
theorem dX9_init_62 : decode cX9_init 62 = .ok (.new 9, 3) := dq daX9_init_42_0 31 rfl
def dtX9_init_42_1 : List (Nat × Jvm.ClassFile.Instr × Nat) := [(65, .dup, 1), (66, .bipush 8, 2), (68, .iconst 3, 1), (69, .invokespecial 11, 3), (72, .putfield 29, 3), (75, .aload_n 0, 1), (76, .new 9, 3), (79, .dup, 1), (80, .bipush 6, 2), (82, .iconst 1, 1), (83, .invokespecial 11, 3), (86, .putfield 32, 3), (89, .aload_n 0, 1), (90, .iconst (-1), 1), (91, .putfield 35, 3), (94, .return_, 1)]
theorem daX9_init_42_1 : dtX9_init_42_1.all (dqd cX9_init) = true := by decide +kernel
theorem dX9_init_65 : decode cX9_init 65 = .ok (.dup, 1) := dq daX9_init_42_1 0 rfl
theorem dX9_init_66 : decode cX9_init 66 = .ok (.bipush 8, 2) := dq daX9_init_42_1 1 rfl
theorem dX9_init_68 : decode cX9_init 68 = .ok (.iconst 3, 1) := dq daX9_init_42_1 2 rfl
theorem dX9_init_69 : decode cX9_init 69 = .ok (.invokespecial 11, 3) := dq daX9_init_42_1 3 rfl
theorem dX9_init_72 : decode cX9_init 72 = .ok (.putfield 29, 3) := dq daX9_init_42_1 4 rfl
theorem dX9_init_75 : decode cX9_init 75 = .ok (.aload_n 0, 1) := dq daX9_init_42_1 5 rfl
theorem dX9_init_76 : decode cX9_init 76 = .ok (.new 9, 3) := dq daX9_init_42_1 6 rfl
theorem dX9_init_79 : decode cX9_init 79 = .ok (.dup, 1) := dq daX9_init_42_1 7 rfl
theorem dX9_init_80 : decode cX9_init 80 = .ok (.bipush 6, 2) := dq daX9_init_42_1 8 rfl
theorem dX9_init_82 : decode cX9_init 82 = .ok (.iconst 1, 1) := dq daX9_init_42_1 9 rfl
theorem dX9_init_83 : decode cX9_init 83 = .ok (.invokespecial 11, 3) := dq daX9_init_42_1 10 rfl
theorem dX9_init_86 : decode cX9_init 86 = .ok (.putfield 32, 3) := dq daX9_init_42_1 11 rfl
theorem dX9_init_89 : decode cX9_init 89 = .ok (.aload_n 0, 1) := dq daX9_init_42_1 12 rfl
theorem dX9_init_90 : decode cX9_init 90 = .ok (.iconst (-1), 1) := dq daX9_init_42_1 13 rfl
theorem dX9_init_91 : decode cX9_init 91 = .ok (.putfield 35, 3) := dq daX9_init_42_1 14 rfl
theorem dX9_init_94 : decode cX9_init 94 = .ok (.return_, 1) := dq daX9_init_42_1 15 rfl
def dtX1_init_42_0 : List (Nat × Jvm.ClassFile.Instr × Nat) := [(0, .aload_n 0, 1), (1, .invokespecial 1, 3), (4, .aload_n 0, 1), (5, .bipush 12, 2), (7, .newarray .int, 2), (9, .putfield 9, 3), (12, .aload_n 0, 1), (13, .bipush 12, 2), (15, .newarray .int, 2), (17, .putfield 13, 3), (20, .aload_n 0, 1), (21, .bipush 12, 2), (23, .newarray .int, 2), (25, .putfield 16, 3), (28, .aload_n 0, 1), (29, .bipush 12, 2), (31, .newarray .int, 2), (33, .putfield 19, 3), (36, .aload_n 0, 1), (37, .bipush 12, 2), (39, .newarray .int, 2), (41, .putfield 22, 3), (44, .aload_n 0, 1), (45, .bipush 60, 2), (47, .newarray .int, 2), (49, .putfield 25, 3), (52, .aload_n 0, 1), (53, .bipush 60, 2), (55, .newarray .int, 2), (57, .putfield 28, 3), (60, .aload_n 0, 1), (61, .bipush 20, 2)]
theorem daX1_init_42_0 : dtX1_init_42_0.all (dqd cX1_init) = true := by decide +kernel
theorem dX1_init_0 : decode cX1_init 0 = .ok (.aload_n 0, 1) := dq daX1_init_42_0 0 rfl
theorem dX1_init_1 : decode cX1_init 1 = .ok (.invokespecial 1, 3) := dq daX1_init_42_0 1 rfl
theorem dX1_init_4 : decode cX1_init 4 = .ok (.aload_n 0, 1) := dq daX1_init_42_0 2 rfl
theorem dX1_init_5 : decode cX1_init 5 = .ok (.bipush 12, 2) := dq daX1_init_42_0 3 rfl
theorem dX1_init_7 : decode cX1_init 7 = .ok (.newarray .int, 2) := dq daX1_init_42_0 4 rfl
theorem dX1_init_9 : decode cX1_init 9 = .ok (.putfield 9, 3) := dq daX1_init_42_0 5 rfl
theorem dX1_init_12 : decode cX1_init 12 = .ok (.aload_n 0, 1) := dq daX1_init_42_0 6 rfl
theorem dX1_init_13 : decode cX1_init 13 = .ok (.bipush 12, 2) := dq daX1_init_42_0 7 rfl
theorem dX1_init_15 : decode cX1_init 15 = .ok (.newarray .int, 2) := dq daX1_init_42_0 8 rfl
theorem dX1_init_17 : decode cX1_init 17 = .ok (.putfield 13, 3) := dq daX1_init_42_0 9 rfl
theorem dX1_init_20 : decode cX1_init 20 = .ok (.aload_n 0, 1) := dq daX1_init_42_0 10 rfl
theorem dX1_init_21 : decode cX1_init 21 = .ok (.bipush 12, 2) := dq daX1_init_42_0 11 rfl
theorem dX1_init_23 : decode cX1_init 23 = .ok (.newarray .int, 2) := dq daX1_init_42_0 12 rfl
theorem dX1_init_25 : decode cX1_init 25 = .ok (.putfield 16, 3) := dq daX1_init_42_0 13 rfl
theorem dX1_init_28 : decode cX1_init 28 = .ok (.aload_n 0, 1) := dq daX1_init_42_0 14 rfl
theorem dX1_init_29 : decode cX1_init 29 = .ok (.bipush 12, 2) := dq daX1_init_42_0 15 rfl
theorem dX1_init_31 : decode cX1_init 31 = .ok (.newarray .int, 2) := dq daX1_init_42_0 16 rfl
theorem dX1_init_33 : decode cX1_init 33 = .ok (.putfield 19, 3) := dq daX1_init_42_0 17 rfl
theorem dX1_init_36 : decode cX1_init 36 = .ok (.aload_n 0, 1) := dq daX1_init_42_0 18 rfl
theorem dX1_init_37 : decode cX1_init 37 = .ok (.bipush 12, 2) := dq daX1_init_42_0 19 rfl
theorem dX1_init_39 : decode cX1_init 39 = .ok (.newarray .int, 2) := dq daX1_init_42_0 20 rfl
theorem dX1_init_41 : decode cX1_init 41 = .ok (.putfield 22, 3) := dq daX1_init_42_0 21 rfl
theorem dX1_init_44 : decode cX1_init 44 = .ok (.aload_n 0, 1) := dq daX1_init_42_0 22 rfl
theorem dX1_init_45 : decode cX1_init 45 = .ok (.bipush 60, 2) := dq daX1_init_42_0 23 rfl
theorem dX1_init_47 : decode cX1_init 47 = .ok (.newarray .int, 2) := dq daX1_init_42_0 24 rfl
theorem dX1_init_49 : decode cX1_init 49 = .ok (.putfield 25, 3) := dq daX1_init_42_0 25 rfl
theorem dX1_init_52 : decode cX1_init 52 = .ok (.aload_n 0, 1) := dq daX1_init_42_0 26 rfl
theorem dX1_init_53 : decode cX1_init 53 = .ok (.bipush 60, 2) := dq daX1_init_42_0 27 rfl
theorem dX1_init_55 : decode cX1_init 55 = .ok (.newarray .int, 2) := dq daX1_init_42_0 28 rfl
theorem dX1_init_57 : decode cX1_init 57 = .ok (.putfield 28, 3) := dq daX1_init_42_0 29 rfl
theorem dX1_init_60 : decode cX1_init 60 = .ok (.aload_n 0, 1) := dq daX1_init_42_0 30 rfl
theorem dX1_init_61 : decode cX1_init 61 = .ok (.bipush 20, 2) := dq daX1_init_42_0 31 rfl
def dtX1_init_42_1 : List (Nat × Jvm.ClassFile.Instr × Nat) := [(63, .newarray .int, 2), (65, .putfield 31, 3), (68, .aload_n 0, 1), (69, .bipush 20, 2), (71, .newarray .int, 2), (73, .putfield 34, 3), (76, .aload_n 0, 1), (77, .bipush 20, 2), (79, .newarray .int, 2), (81, .putfield 37, 3), (84, .aload_n 0, 1), (85, .bipush 20, 2), (87, .newarray .int, 2), (89, .putfield 40, 3), (92, .aload_n 0, 1), (93, .sipush 256, 3), (96, .newarray .int, 2), (98, .putfield 43, 3), (101, .return_, 1)]
theorem daX1_init_42_1 : dtX1_init_42_1.all (dqd cX1_init) = true := by decide +kernel
theorem dX1_init_63 : decode cX1_init 63 = .ok (.newarray .int, 2) := dq daX1_init_42_1 0 rfl
theorem dX1_init_65 : decode cX1_init 65 = .ok (.putfield 31, 3) := dq daX1_init_42_1 1 rfl
theorem dX1_init_68 : decode cX1_init 68 = .ok (.aload_n 0, 1) := dq daX1_init_42_1 2 rfl
theorem dX1_init_69 : decode cX1_init 69 = .ok (.bipush 20, 2) := dq daX1_init_42_1 3 rfl
theorem dX1_init_71 : decode cX1_init 71 = .ok (.newarray .int, 2) := dq daX1_init_42_1 4 rfl
theorem dX1_init_73 : decode cX1_init 73 = .ok (.putfield 34, 3) := dq daX1_init_42_1 5 rfl
theorem dX1_init_76 : decode cX1_init 76 = .ok (.aload_n 0, 1) := dq daX1_init_42_1 6 rfl
theorem dX1_init_77 : decode cX1_init 77 = .ok (.bipush 20, 2) := dq daX1_init_42_1 7 rfl
theorem dX1_init_79 : decode cX1_init 79 = .ok (.newarray .int, 2) := dq daX1_init_42_1 8 rfl
theorem dX1_init_81 : decode cX1_init 81 = .ok (.putfield 37, 3) := dq daX1_init_42_1 9 rfl
theorem dX1_init_84 : decode cX1_init 84 = .ok (.aload_n 0, 1) := dq daX1_init_42_1 10 rfl
theorem dX1_init_85 : decode cX1_init 85 = .ok (.bipush 20, 2) := dq daX1_init_42_1 11 rfl
theorem dX1_init_87 : decode cX1_init 87 = .ok (.newarray .int, 2) := dq daX1_init_42_1 12 rfl
theorem dX1_init_89 : decode cX1_init 89 = .ok (.putfield 40, 3) := dq daX1_init_42_1 13 rfl
theorem dX1_init_92 : decode cX1_init 92 = .ok (.aload_n 0, 1) := dq daX1_init_42_1 14 rfl
theorem dX1_init_93 : decode cX1_init 93 = .ok (.sipush 256, 3) := dq daX1_init_42_1 15 rfl
theorem dX1_init_96 : decode cX1_init 96 = .ok (.newarray .int, 2) := dq daX1_init_42_1 16 rfl
theorem dX1_init_98 : decode cX1_init 98 = .ok (.putfield 43, 3) := dq daX1_init_42_1 17 rfl
theorem dX1_init_101 : decode cX1_init 101 = .ok (.return_, 1) := dq daX1_init_42_1 18 rfl
