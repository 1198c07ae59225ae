theorem kX10_node_1 {a : Array Value} {s : State} (hts : ∀ w ∈ wsX10_node, w.before a s = true) : (.fieldLink RX10 10 "SnowMules" "world" "LSnowMules$World;" : Cond).before a s = true := kw (A := ixX10_node) wt15 hts (by decide +kernel)
theorem kX10_node_2 {a : Array Value} {s : State} (hts : ∀ w ∈ wsX10_node, w.before a s = true) : (.fieldLink RX10 83 "SnowMules$World" "nodes" "LSnowMules$Table;" : Cond).before a s = true := kw (A := ixX10_node) wt171 hts (by decide +kernel)
theorem kX10_pass_1 {a : Array Value} {s : State} (hts : ∀ w ∈ wsX10_pass, w.before a s = true) : (.fieldLink RX10 10 "SnowMules" "world" "LSnowMules$World;" : Cond).before a s = true := kw (A := ixX10_pass) wt15 hts (by decide +kernel)
theorem kX10_pass_2 {a : Array Value} {s : State} (hts : ∀ w ∈ wsX10_pass, w.before a s = true) : (.fieldLink RX10 83 "SnowMules$World" "nodes" "LSnowMules$Table;" : Cond).before a s = true := kw (A := ixX10_pass) wt171 hts (by decide +kernel)
theorem kX10_pass_3 {a : Array Value} {s : State} (hts : ∀ w ∈ wsX10_pass, w.before a s = true) : (.fieldLink RX10 101 "SnowMules$World" "passes" "LSnowMules$Table;" : Cond).before a s = true := kw (A := ixX10_pass) wt198 hts (by decide +kernel)
theorem kX10_jar_1 {a : Array Value} {s : State} (hts : ∀ w ∈ wsX10_jar, w.before a s = true) : (.fieldLink RX10 10 "SnowMules" "world" "LSnowMules$World;" : Cond).before a s = true := kw (A := ixX10_jar) wt15 hts (by decide +kernel)
theorem kX10_jar_2 {a : Array Value} {s : State} (hts : ∀ w ∈ wsX10_jar, w.before a s = true) : (.fieldLink RX10 83 "SnowMules$World" "nodes" "LSnowMules$Table;" : Cond).before a s = true := kw (A := ixX10_jar) wt171 hts (by decide +kernel)
theorem kX10_jar_3 {a : Array Value} {s : State} (hts : ∀ w ∈ wsX10_jar, w.before a s = true) : (.fieldLink RX10 107 "SnowMules$World" "jars" "LSnowMules$Table;" : Cond).before a s = true := kw (A := ixX10_jar) wt217 hts (by decide +kernel)
theorem kX10_order_1 {a : Array Value} {s : State} (hts : ∀ w ∈ wsX10_order, w.before a s = true) : (.constant RX10 140 (99999) : Cond).before a s = true := kw (A := ixX10_order) wt587 hts (by decide +kernel)
theorem kX10_order_2 {a : Array Value} {s : State} (hts : ∀ w ∈ wsX10_order, w.before a s = true) : (.fieldLink RX10 10 "SnowMules" "world" "LSnowMules$World;" : Cond).before a s = true := kw (A := ixX10_order) wt15 hts (by decide +kernel)
theorem kX10_order_3 {a : Array Value} {s : State} (hts : ∀ w ∈ wsX10_order, w.before a s = true) : (.fieldLink RX10 83 "SnowMules$World" "nodes" "LSnowMules$Table;" : Cond).before a s = true := kw (A := ixX10_order) wt171 hts (by decide +kernel)
theorem kX10_order_4 {a : Array Value} {s : State} (hts : ∀ w ∈ wsX10_order, w.before a s = true) : (.fieldLink RX10 263 "SnowMules$World" "orders" "LSnowMules$Table;" : Cond).before a s = true := kw (A := ixX10_order) wt1193 hts (by decide +kernel)
theorem kX10_feast_1 {a : Array Value} {s : State} (hts : ∀ w ∈ wsX10_feast, w.before a s = true) : (.fieldLink RX10 10 "SnowMules" "world" "LSnowMules$World;" : Cond).before a s = true := kw (A := ixX10_feast) wt15 hts (by decide +kernel)
theorem kX10_feast_2 {a : Array Value} {s : State} (hts : ∀ w ∈ wsX10_feast, w.before a s = true) : (.fieldLink RX10 83 "SnowMules$World" "nodes" "LSnowMules$Table;" : Cond).before a s = true := kw (A := ixX10_feast) wt171 hts (by decide +kernel)
theorem kX10_feast_3 {a : Array Value} {s : State} (hts : ∀ w ∈ wsX10_feast, w.before a s = true) : (.fieldLink RX10 285 "SnowMules$World" "feasts" "LSnowMules$Table;" : Cond).before a s = true := kw (A := ixX10_feast) wt1293 hts (by decide +kernel)
theorem kX10_month_1 {a : Array Value} {s : State} (hts : ∀ w ∈ wsX10_month, w.before a s = true) : (.fieldLink RX10 10 "SnowMules" "world" "LSnowMules$World;" : Cond).before a s = true := kw (A := ixX10_month) wt15 hts (by decide +kernel)
theorem kX10_month_2 {a : Array Value} {s : State} (hts : ∀ w ∈ wsX10_month, w.before a s = true) : (.fieldLink RX10 114 "SnowMules$World" "firstMonth" "I" : Cond).before a s = true := kw (A := ixX10_month) wt236 hts (by decide +kernel)
theorem kX10_from_1 {a : Array Value} {s : State} (hts : ∀ w ∈ wsX10_from, w.before a s = true) : (.fieldLink RX10 10 "SnowMules" "world" "LSnowMules$World;" : Cond).before a s = true := kw (A := ixX10_from) wt15 hts (by decide +kernel)
theorem kX10_from_2 {a : Array Value} {s : State} (hts : ∀ w ∈ wsX10_from, w.before a s = true) : (.fieldLink RX10 83 "SnowMules$World" "nodes" "LSnowMules$Table;" : Cond).before a s = true := kw (A := ixX10_from) wt171 hts (by decide +kernel)
theorem kX10_from_3 {a : Array Value} {s : State} (hts : ∀ w ∈ wsX10_from, w.before a s = true) : (.fieldLink RX10 176 "SnowMules$World" "wayStart" "I" : Cond).before a s = true := kw (A := ixX10_from) wt915 hts (by decide +kernel)
theorem kX10_from_4 {a : Array Value} {s : State} (hts : ∀ w ∈ wsX10_from, w.before a s = true) : (.fieldLink RX10 185 "SnowMules$World" "way" "LSnowMules$Table;" : Cond).before a s = true := kw (A := ixX10_from) wt916 hts (by decide +kernel)
theorem kX10_from_5 {a : Array Value} {s : State} (hts : ∀ w ∈ wsX10_from, w.before a s = true) : (.fieldLink RX10 188 "SnowMules$Table" "size" "I" : Cond).before a s = true := kw (A := ixX10_from) wt942 hts (by decide +kernel)
theorem iX10_node_X10 : ∀ w ∈ wsX100, w ∈ wsX10_node := inW (A := ixX10_node) uwX10 (by decide +kernel)
theorem iX10_node_X9 : ∀ w ∈ wsX90, w ∈ wsX10_node := inW (A := ixX10_node) uwX9 (by decide +kernel)
theorem iX10_pass_X10 : ∀ w ∈ wsX100, w ∈ wsX10_pass := inW (A := ixX10_pass) uwX10 (by decide +kernel)
theorem iX10_pass_X9 : ∀ w ∈ wsX90, w ∈ wsX10_pass := inW (A := ixX10_pass) uwX9 (by decide +kernel)
theorem iX10_jar_X10 : ∀ w ∈ wsX100, w ∈ wsX10_jar := inW (A := ixX10_jar) uwX10 (by decide +kernel)
theorem iX10_jar_X9 : ∀ w ∈ wsX90, w ∈ wsX10_jar := inW (A := ixX10_jar) uwX9 (by decide +kernel)
theorem iX10_order_X10 : ∀ w ∈ wsX100, w ∈ wsX10_order := inW (A := ixX10_order) uwX10 (by decide +kernel)
theorem iX10_order_X9 : ∀ w ∈ wsX90, w ∈ wsX10_order := inW (A := ixX10_order) uwX9 (by decide +kernel)
theorem iX10_feast_X10 : ∀ w ∈ wsX100, w ∈ wsX10_feast := inW (A := ixX10_feast) uwX10 (by decide +kernel)
theorem iX10_feast_X9 : ∀ w ∈ wsX90, w ∈ wsX10_feast := inW (A := ixX10_feast) uwX9 (by decide +kernel)
theorem iX10_month_X10 : ∀ w ∈ wsX100, w ∈ wsX10_month := inW (A := ixX10_month) uwX10 (by decide +kernel)
theorem iX10_month_X9 : ∀ w ∈ wsX90, w ∈ wsX10_month := inW (A := ixX10_month) uwX9 (by decide +kernel)
theorem iX10_from_X10 : ∀ w ∈ wsX100, w ∈ wsX10_from := inW (A := ixX10_from) uwX10 (by decide +kernel)
theorem iX10_from_X9 : ∀ w ∈ wsX90, w ∈ wsX10_from := inW (A := ixX10_from) uwX9 (by decide +kernel)
theorem iX10_from_X6 : ∀ w ∈ wsX60, w ∈ wsX10_from := inW (A := ixX10_from) uwX6 (by decide +kernel)
theorem hdX10_isWish : yX10_isWish.cls ≠ "java/lang/invoke/MethodHandle" ∧ yX10_isWish.cls ≠ "java/lang/invoke/VarHandle" ∧ (parseMethodDescriptor yX10_isWish.desc).map (fun d => d.parameters.length) = some 1 := ⟨hdc_6.1, hdc_6.2, hdd_1⟩
def dtX10_node_44_0 : List (Nat × Jvm.ClassFile.Instr × Nat) := [(0, .iload_n 1, 1), (1, .sipush 400, 3), (4, .invokestatic 79, 3), (7, .ifCond .eq 26, 3), (33, .iconst 0, 1), (34, .istore 4, 2), (36, .iload 4, 2), (38, .ifCond .eq 16, 3), (54, .iconst (-1), 1), (55, .istore 5, 2), (57, .iload 5, 2), (59, .iconst (-1), 1), (60, .if_icmp .eq 59, 3), (119, .iload 5, 2), (121, .ireturn, 1), (10, .iload_n 2, 1), (11, .sipush 4095, 3), (14, .invokestatic 79, 3), (17, .ifCond .eq 16, 3), (20, .iload_n 3, 1), (21, .bipush 9, 2), (23, .invokestatic 79, 3), (26, .ifCond .eq 7, 3), (29, .iconst 1, 1), (30, .goto 4, 3), (41, .aload_n 0, 1), (42, .getfield 10, 3), (45, .getfield 83, 3), (48, .invokevirtual 87, 3), (51, .goto 4, 3), (63, .aload_n 0, 1), (64, .getfield 10, 3)]
theorem daX10_node_44_0 : dtX10_node_44_0.all (dqd cX10_node) = true := by decide +kernel
theorem dX10_node_0 : decode cX10_node 0 = .ok (.iload_n 1, 1) := dq daX10_node_44_0 0 rfl
theorem dX10_node_1 : decode cX10_node 1 = .ok (.sipush 400, 3) := dq daX10_node_44_0 1 rfl
theorem dX10_node_4 : decode cX10_node 4 = .ok (.invokestatic 79, 3) := dq daX10_node_44_0 2 rfl
theorem dX10_node_7 : decode cX10_node 7 = .ok (.ifCond .eq 26, 3) := dq daX10_node_44_0 3 rfl
theorem dX10_node_33 : decode cX10_node 33 = .ok (.iconst 0, 1) := dq daX10_node_44_0 4 rfl
theorem dX10_node_34 : decode cX10_node 34 = .ok (.istore 4, 2) := dq daX10_node_44_0 5 rfl
theorem dX10_node_36 : decode cX10_node 36 = .ok (.iload 4, 2) := dq daX10_node_44_0 6 rfl
theorem dX10_node_38 : decode cX10_node 38 = .ok (.ifCond .eq 16, 3) := dq daX10_node_44_0 7 rfl
theorem dX10_node_54 : decode cX10_node 54 = .ok (.iconst (-1), 1) := dq daX10_node_44_0 8 rfl
theorem dX10_node_55 : decode cX10_node 55 = .ok (.istore 5, 2) := dq daX10_node_44_0 9 rfl
theorem dX10_node_57 : decode cX10_node 57 = .ok (.iload 5, 2) := dq daX10_node_44_0 10 rfl
theorem dX10_node_59 : decode cX10_node 59 = .ok (.iconst (-1), 1) := dq daX10_node_44_0 11 rfl
theorem dX10_node_60 : decode cX10_node 60 = .ok (.if_icmp .eq 59, 3) := dq daX10_node_44_0 12 rfl
theorem dX10_node_119 : decode cX10_node 119 = .ok (.iload 5, 2) := dq daX10_node_44_0 13 rfl
theorem dX10_node_121 : decode cX10_node 121 = .ok (.ireturn, 1) := dq daX10_node_44_0 14 rfl
theorem dX10_node_10 : decode cX10_node 10 = .ok (.iload_n 2, 1) := dq daX10_node_44_0 15 rfl
theorem dX10_node_11 : decode cX10_node 11 = .ok (.sipush 4095, 3) := dq daX10_node_44_0 16 rfl
theorem dX10_node_14 : decode cX10_node 14 = .ok (.invokestatic 79, 3) := dq daX10_node_44_0 17 rfl
theorem dX10_node_17 : decode cX10_node 17 = .ok (.ifCond .eq 16, 3) := dq daX10_node_44_0 18 rfl
theorem dX10_node_20 : decode cX10_node 20 = .ok (.iload_n 3, 1) := dq daX10_node_44_0 19 rfl
theorem dX10_node_21 : decode cX10_node 21 = .ok (.bipush 9, 2) := dq daX10_node_44_0 20 rfl
theorem dX10_node_23 : decode cX10_node 23 = .ok (.invokestatic 79, 3) := dq daX10_node_44_0 21 rfl
theorem dX10_node_26 : decode cX10_node 26 = .ok (.ifCond .eq 7, 3) := dq daX10_node_44_0 22 rfl
theorem dX10_node_29 : decode cX10_node 29 = .ok (.iconst 1, 1) := dq daX10_node_44_0 23 rfl
theorem dX10_node_30 : decode cX10_node 30 = .ok (.goto 4, 3) := dq daX10_node_44_0 24 rfl
theorem dX10_node_41 : decode cX10_node 41 = .ok (.aload_n 0, 1) := dq daX10_node_44_0 25 rfl
theorem dX10_node_42 : decode cX10_node 42 = .ok (.getfield 10, 3) := dq daX10_node_44_0 26 rfl
theorem dX10_node_45 : decode cX10_node 45 = .ok (.getfield 83, 3) := dq daX10_node_44_0 27 rfl
theorem dX10_node_48 : decode cX10_node 48 = .ok (.invokevirtual 87, 3) := dq daX10_node_44_0 28 rfl
theorem dX10_node_51 : decode cX10_node 51 = .ok (.goto 4, 3) := dq daX10_node_44_0 29 rfl
theorem dX10_node_63 : decode cX10_node 63 = .ok (.aload_n 0, 1) := dq daX10_node_44_0 30 rfl
theorem dX10_node_64 : decode cX10_node 64 = .ok (.getfield 10, 3) := dq daX10_node_44_0 31 rfl
def dtX10_node_44_1 : List (Nat × Jvm.ClassFile.Instr × Nat) := [(67, .getfield 83, 3), (70, .iload 5, 2), (72, .iconst 0, 1), (73, .iload_n 1, 1), (74, .invokevirtual 93, 3), (77, .aload_n 0, 1), (78, .getfield 10, 3), (81, .getfield 83, 3), (84, .iload 5, 2), (86, .iconst 1, 1), (87, .iload_n 2, 1), (88, .invokevirtual 93, 3), (91, .aload_n 0, 1), (92, .getfield 10, 3), (95, .getfield 83, 3), (98, .iload 5, 2), (100, .iconst 2, 1), (101, .iload_n 3, 1), (102, .invokevirtual 93, 3), (105, .aload_n 0, 1), (106, .getfield 10, 3), (109, .getfield 83, 3), (112, .iload 5, 2), (114, .iconst 3, 1), (115, .iconst 0, 1), (116, .invokevirtual 93, 3)]
theorem daX10_node_44_1 : dtX10_node_44_1.all (dqd cX10_node) = true := by decide +kernel
theorem dX10_node_67 : decode cX10_node 67 = .ok (.getfield 83, 3) := dq daX10_node_44_1 0 rfl
theorem dX10_node_70 : decode cX10_node 70 = .ok (.iload 5, 2) := dq daX10_node_44_1 1 rfl
theorem dX10_node_72 : decode cX10_node 72 = .ok (.iconst 0, 1) := dq daX10_node_44_1 2 rfl
theorem dX10_node_73 : decode cX10_node 73 = .ok (.iload_n 1, 1) := dq daX10_node_44_1 3 rfl
theorem dX10_node_74 : decode cX10_node 74 = .ok (.invokevirtual 93, 3) := dq daX10_node_44_1 4 rfl
theorem dX10_node_77 : decode cX10_node 77 = .ok (.aload_n 0, 1) := dq daX10_node_44_1 5 rfl
theorem dX10_node_78 : decode cX10_node 78 = .ok (.getfield 10, 3) := dq daX10_node_44_1 6 rfl
theorem dX10_node_81 : decode cX10_node 81 = .ok (.getfield 83, 3) := dq daX10_node_44_1 7 rfl
theorem dX10_node_84 : decode cX10_node 84 = .ok (.iload 5, 2) := dq daX10_node_44_1 8 rfl
theorem dX10_node_86 : decode cX10_node 86 = .ok (.iconst 1, 1) := dq daX10_node_44_1 9 rfl
theorem dX10_node_87 : decode cX10_node 87 = .ok (.iload_n 2, 1) := dq daX10_node_44_1 10 rfl
theorem dX10_node_88 : decode cX10_node 88 = .ok (.invokevirtual 93, 3) := dq daX10_node_44_1 11 rfl
theorem dX10_node_91 : decode cX10_node 91 = .ok (.aload_n 0, 1) := dq daX10_node_44_1 12 rfl
theorem dX10_node_92 : decode cX10_node 92 = .ok (.getfield 10, 3) := dq daX10_node_44_1 13 rfl
theorem dX10_node_95 : decode cX10_node 95 = .ok (.getfield 83, 3) := dq daX10_node_44_1 14 rfl
theorem dX10_node_98 : decode cX10_node 98 = .ok (.iload 5, 2) := dq daX10_node_44_1 15 rfl
theorem dX10_node_100 : decode cX10_node 100 = .ok (.iconst 2, 1) := dq daX10_node_44_1 16 rfl
theorem dX10_node_101 : decode cX10_node 101 = .ok (.iload_n 3, 1) := dq daX10_node_44_1 17 rfl
theorem dX10_node_102 : decode cX10_node 102 = .ok (.invokevirtual 93, 3) := dq daX10_node_44_1 18 rfl
theorem dX10_node_105 : decode cX10_node 105 = .ok (.aload_n 0, 1) := dq daX10_node_44_1 19 rfl
theorem dX10_node_106 : decode cX10_node 106 = .ok (.getfield 10, 3) := dq daX10_node_44_1 20 rfl
theorem dX10_node_109 : decode cX10_node 109 = .ok (.getfield 83, 3) := dq daX10_node_44_1 21 rfl
theorem dX10_node_112 : decode cX10_node 112 = .ok (.iload 5, 2) := dq daX10_node_44_1 22 rfl
theorem dX10_node_114 : decode cX10_node 114 = .ok (.iconst 3, 1) := dq daX10_node_44_1 23 rfl
theorem dX10_node_115 : decode cX10_node 115 = .ok (.iconst 0, 1) := dq daX10_node_44_1 24 rfl
theorem dX10_node_116 : decode cX10_node 116 = .ok (.invokevirtual 93, 3) := dq daX10_node_44_1 25 rfl
def dtX10_pass_44_0 : List (Nat × Jvm.ClassFile.Instr × Nat) := [(0, .aload_n 0, 1), (1, .getfield 10, 3), (4, .getfield 83, 3), (7, .iload_n 1, 1), (8, .invokevirtual 97, 3), (11, .ifCond .eq 26, 3), (37, .iconst 0, 1), (38, .istore 6, 2), (40, .iload_n 3, 1), (41, .iconst 1, 1), (42, .if_icmp .lt 37, 3), (79, .iconst 0, 1), (80, .istore 7, 2), (82, .iload 6, 2), (84, .ifCond .eq 21, 3), (105, .iconst (-1), 1), (106, .istore 8, 2), (108, .iload 8, 2), (110, .iconst (-1), 1), (111, .if_icmp .eq 75, 3), (186, .iload 8, 2), (188, .ireturn, 1), (45, .iload_n 3, 1), (46, .bipush 24, 2), (48, .invokestatic 79, 3), (51, .ifCond .eq 28, 3), (54, .iload 4, 2), (56, .bipush 9, 2), (58, .invokestatic 79, 3), (61, .ifCond .eq 18, 3), (64, .iload 5, 2), (66, .sipush 1000, 3)]
theorem daX10_pass_44_0 : dtX10_pass_44_0.all (dqd cX10_pass) = true := by decide +kernel
theorem dX10_pass_0 : decode cX10_pass 0 = .ok (.aload_n 0, 1) := dq daX10_pass_44_0 0 rfl
theorem dX10_pass_1 : decode cX10_pass 1 = .ok (.getfield 10, 3) := dq daX10_pass_44_0 1 rfl
theorem dX10_pass_4 : decode cX10_pass 4 = .ok (.getfield 83, 3) := dq daX10_pass_44_0 2 rfl
theorem dX10_pass_7 : decode cX10_pass 7 = .ok (.iload_n 1, 1) := dq daX10_pass_44_0 3 rfl
theorem dX10_pass_8 : decode cX10_pass 8 = .ok (.invokevirtual 97, 3) := dq daX10_pass_44_0 4 rfl
theorem dX10_pass_11 : decode cX10_pass 11 = .ok (.ifCond .eq 26, 3) := dq daX10_pass_44_0 5 rfl
theorem dX10_pass_37 : decode cX10_pass 37 = .ok (.iconst 0, 1) := dq daX10_pass_44_0 6 rfl
theorem dX10_pass_38 : decode cX10_pass 38 = .ok (.istore 6, 2) := dq daX10_pass_44_0 7 rfl
theorem dX10_pass_40 : decode cX10_pass 40 = .ok (.iload_n 3, 1) := dq daX10_pass_44_0 8 rfl
theorem dX10_pass_41 : decode cX10_pass 41 = .ok (.iconst 1, 1) := dq daX10_pass_44_0 9 rfl
theorem dX10_pass_42 : decode cX10_pass 42 = .ok (.if_icmp .lt 37, 3) := dq daX10_pass_44_0 10 rfl
theorem dX10_pass_79 : decode cX10_pass 79 = .ok (.iconst 0, 1) := dq daX10_pass_44_0 11 rfl
theorem dX10_pass_80 : decode cX10_pass 80 = .ok (.istore 7, 2) := dq daX10_pass_44_0 12 rfl
theorem dX10_pass_82 : decode cX10_pass 82 = .ok (.iload 6, 2) := dq daX10_pass_44_0 13 rfl
theorem dX10_pass_84 : decode cX10_pass 84 = .ok (.ifCond .eq 21, 3) := dq daX10_pass_44_0 14 rfl
theorem dX10_pass_105 : decode cX10_pass 105 = .ok (.iconst (-1), 1) := dq daX10_pass_44_0 15 rfl
theorem dX10_pass_106 : decode cX10_pass 106 = .ok (.istore 8, 2) := dq daX10_pass_44_0 16 rfl
theorem dX10_pass_108 : decode cX10_pass 108 = .ok (.iload 8, 2) := dq daX10_pass_44_0 17 rfl
theorem dX10_pass_110 : decode cX10_pass 110 = .ok (.iconst (-1), 1) := dq daX10_pass_44_0 18 rfl
theorem dX10_pass_111 : decode cX10_pass 111 = .ok (.if_icmp .eq 75, 3) := dq daX10_pass_44_0 19 rfl
theorem dX10_pass_186 : decode cX10_pass 186 = .ok (.iload 8, 2) := dq daX10_pass_44_0 20 rfl
theorem dX10_pass_188 : decode cX10_pass 188 = .ok (.ireturn, 1) := dq daX10_pass_44_0 21 rfl
theorem dX10_pass_45 : decode cX10_pass 45 = .ok (.iload_n 3, 1) := dq daX10_pass_44_0 22 rfl
theorem dX10_pass_46 : decode cX10_pass 46 = .ok (.bipush 24, 2) := dq daX10_pass_44_0 23 rfl
theorem dX10_pass_48 : decode cX10_pass 48 = .ok (.invokestatic 79, 3) := dq daX10_pass_44_0 24 rfl
theorem dX10_pass_51 : decode cX10_pass 51 = .ok (.ifCond .eq 28, 3) := dq daX10_pass_44_0 25 rfl
theorem dX10_pass_54 : decode cX10_pass 54 = .ok (.iload 4, 2) := dq daX10_pass_44_0 26 rfl
theorem dX10_pass_56 : decode cX10_pass 56 = .ok (.bipush 9, 2) := dq daX10_pass_44_0 27 rfl
theorem dX10_pass_58 : decode cX10_pass 58 = .ok (.invokestatic 79, 3) := dq daX10_pass_44_0 28 rfl
theorem dX10_pass_61 : decode cX10_pass 61 = .ok (.ifCond .eq 18, 3) := dq daX10_pass_44_0 29 rfl
theorem dX10_pass_64 : decode cX10_pass 64 = .ok (.iload 5, 2) := dq daX10_pass_44_0 30 rfl
theorem dX10_pass_66 : decode cX10_pass 66 = .ok (.sipush 1000, 3) := dq daX10_pass_44_0 31 rfl
def dtX10_pass_44_1 : List (Nat × Jvm.ClassFile.Instr × Nat) := [(69, .invokestatic 79, 3), (72, .ifCond .eq 7, 3), (75, .iconst 1, 1), (76, .goto 4, 3), (14, .aload_n 0, 1), (15, .getfield 10, 3), (18, .getfield 83, 3), (21, .iload_n 2, 1), (22, .invokevirtual 97, 3), (25, .ifCond .eq 12, 3), (28, .iload_n 1, 1), (29, .iload_n 2, 1), (30, .if_icmp .eq 7, 3), (33, .iconst 1, 1), (34, .goto 4, 3), (87, .iload 7, 2), (89, .ifCond .eq 16, 3), (92, .aload_n 0, 1), (93, .getfield 10, 3), (96, .getfield 101, 3), (99, .invokevirtual 87, 3), (102, .goto 4, 3), (114, .aload_n 0, 1), (115, .getfield 10, 3), (118, .getfield 101, 3), (121, .iload 8, 2), (123, .iconst 0, 1), (124, .iload_n 1, 1), (125, .invokevirtual 93, 3), (128, .aload_n 0, 1), (129, .getfield 10, 3), (132, .getfield 101, 3)]
theorem daX10_pass_44_1 : dtX10_pass_44_1.all (dqd cX10_pass) = true := by decide +kernel
theorem dX10_pass_69 : decode cX10_pass 69 = .ok (.invokestatic 79, 3) := dq daX10_pass_44_1 0 rfl
theorem dX10_pass_72 : decode cX10_pass 72 = .ok (.ifCond .eq 7, 3) := dq daX10_pass_44_1 1 rfl
theorem dX10_pass_75 : decode cX10_pass 75 = .ok (.iconst 1, 1) := dq daX10_pass_44_1 2 rfl
theorem dX10_pass_76 : decode cX10_pass 76 = .ok (.goto 4, 3) := dq daX10_pass_44_1 3 rfl
theorem dX10_pass_14 : decode cX10_pass 14 = .ok (.aload_n 0, 1) := dq daX10_pass_44_1 4 rfl
theorem dX10_pass_15 : decode cX10_pass 15 = .ok (.getfield 10, 3) := dq daX10_pass_44_1 5 rfl
theorem dX10_pass_18 : decode cX10_pass 18 = .ok (.getfield 83, 3) := dq daX10_pass_44_1 6 rfl
theorem dX10_pass_21 : decode cX10_pass 21 = .ok (.iload_n 2, 1) := dq daX10_pass_44_1 7 rfl
theorem dX10_pass_22 : decode cX10_pass 22 = .ok (.invokevirtual 97, 3) := dq daX10_pass_44_1 8 rfl
theorem dX10_pass_25 : decode cX10_pass 25 = .ok (.ifCond .eq 12, 3) := dq daX10_pass_44_1 9 rfl
theorem dX10_pass_28 : decode cX10_pass 28 = .ok (.iload_n 1, 1) := dq daX10_pass_44_1 10 rfl
theorem dX10_pass_29 : decode cX10_pass 29 = .ok (.iload_n 2, 1) := dq daX10_pass_44_1 11 rfl
theorem dX10_pass_30 : decode cX10_pass 30 = .ok (.if_icmp .eq 7, 3) := dq daX10_pass_44_1 12 rfl
theorem dX10_pass_33 : decode cX10_pass 33 = .ok (.iconst 1, 1) := dq daX10_pass_44_1 13 rfl
theorem dX10_pass_34 : decode cX10_pass 34 = .ok (.goto 4, 3) := dq daX10_pass_44_1 14 rfl
theorem dX10_pass_87 : decode cX10_pass 87 = .ok (.iload 7, 2) := dq daX10_pass_44_1 15 rfl
theorem dX10_pass_89 : decode cX10_pass 89 = .ok (.ifCond .eq 16, 3) := dq daX10_pass_44_1 16 rfl
theorem dX10_pass_92 : decode cX10_pass 92 = .ok (.aload_n 0, 1) := dq daX10_pass_44_1 17 rfl
theorem dX10_pass_93 : decode cX10_pass 93 = .ok (.getfield 10, 3) := dq daX10_pass_44_1 18 rfl
theorem dX10_pass_96 : decode cX10_pass 96 = .ok (.getfield 101, 3) := dq daX10_pass_44_1 19 rfl
theorem dX10_pass_99 : decode cX10_pass 99 = .ok (.invokevirtual 87, 3) := dq daX10_pass_44_1 20 rfl
theorem dX10_pass_102 : decode cX10_pass 102 = .ok (.goto 4, 3) := dq daX10_pass_44_1 21 rfl
theorem dX10_pass_114 : decode cX10_pass 114 = .ok (.aload_n 0, 1) := dq daX10_pass_44_1 22 rfl
theorem dX10_pass_115 : decode cX10_pass 115 = .ok (.getfield 10, 3) := dq daX10_pass_44_1 23 rfl
theorem dX10_pass_118 : decode cX10_pass 118 = .ok (.getfield 101, 3) := dq daX10_pass_44_1 24 rfl
theorem dX10_pass_121 : decode cX10_pass 121 = .ok (.iload 8, 2) := dq daX10_pass_44_1 25 rfl
theorem dX10_pass_123 : decode cX10_pass 123 = .ok (.iconst 0, 1) := dq daX10_pass_44_1 26 rfl
theorem dX10_pass_124 : decode cX10_pass 124 = .ok (.iload_n 1, 1) := dq daX10_pass_44_1 27 rfl
theorem dX10_pass_125 : decode cX10_pass 125 = .ok (.invokevirtual 93, 3) := dq daX10_pass_44_1 28 rfl
theorem dX10_pass_128 : decode cX10_pass 128 = .ok (.aload_n 0, 1) := dq daX10_pass_44_1 29 rfl
theorem dX10_pass_129 : decode cX10_pass 129 = .ok (.getfield 10, 3) := dq daX10_pass_44_1 30 rfl
theorem dX10_pass_132 : decode cX10_pass 132 = .ok (.getfield 101, 3) := dq daX10_pass_44_1 31 rfl
def dtX10_pass_44_2 : List (Nat × Jvm.ClassFile.Instr × Nat) := [(135, .iload 8, 2), (137, .iconst 1, 1), (138, .iload_n 2, 1), (139, .invokevirtual 93, 3), (142, .aload_n 0, 1), (143, .getfield 10, 3), (146, .getfield 101, 3), (149, .iload 8, 2), (151, .iconst 2, 1), (152, .iload_n 3, 1), (153, .invokevirtual 93, 3), (156, .aload_n 0, 1), (157, .getfield 10, 3), (160, .getfield 101, 3), (163, .iload 8, 2), (165, .iconst 3, 1), (166, .iload 4, 2), (168, .invokevirtual 93, 3), (171, .aload_n 0, 1), (172, .getfield 10, 3), (175, .getfield 101, 3), (178, .iload 8, 2), (180, .iconst 4, 1), (181, .iload 5, 2), (183, .invokevirtual 93, 3)]
theorem daX10_pass_44_2 : dtX10_pass_44_2.all (dqd cX10_pass) = true := by decide +kernel
theorem dX10_pass_135 : decode cX10_pass 135 = .ok (.iload 8, 2) := dq daX10_pass_44_2 0 rfl
theorem dX10_pass_137 : decode cX10_pass 137 = .ok (.iconst 1, 1) := dq daX10_pass_44_2 1 rfl
theorem dX10_pass_138 : decode cX10_pass 138 = .ok (.iload_n 2, 1) := dq daX10_pass_44_2 2 rfl
theorem dX10_pass_139 : decode cX10_pass 139 = .ok (.invokevirtual 93, 3) := dq daX10_pass_44_2 3 rfl
theorem dX10_pass_142 : decode cX10_pass 142 = .ok (.aload_n 0, 1) := dq daX10_pass_44_2 4 rfl
theorem dX10_pass_143 : decode cX10_pass 143 = .ok (.getfield 10, 3) := dq daX10_pass_44_2 5 rfl
theorem dX10_pass_146 : decode cX10_pass 146 = .ok (.getfield 101, 3) := dq daX10_pass_44_2 6 rfl
theorem dX10_pass_149 : decode cX10_pass 149 = .ok (.iload 8, 2) := dq daX10_pass_44_2 7 rfl
theorem dX10_pass_151 : decode cX10_pass 151 = .ok (.iconst 2, 1) := dq daX10_pass_44_2 8 rfl
theorem dX10_pass_152 : decode cX10_pass 152 = .ok (.iload_n 3, 1) := dq daX10_pass_44_2 9 rfl
theorem dX10_pass_153 : decode cX10_pass 153 = .ok (.invokevirtual 93, 3) := dq daX10_pass_44_2 10 rfl
theorem dX10_pass_156 : decode cX10_pass 156 = .ok (.aload_n 0, 1) := dq daX10_pass_44_2 11 rfl
theorem dX10_pass_157 : decode cX10_pass 157 = .ok (.getfield 10, 3) := dq daX10_pass_44_2 12 rfl
theorem dX10_pass_160 : decode cX10_pass 160 = .ok (.getfield 101, 3) := dq daX10_pass_44_2 13 rfl
theorem dX10_pass_163 : decode cX10_pass 163 = .ok (.iload 8, 2) := dq daX10_pass_44_2 14 rfl
theorem dX10_pass_165 : decode cX10_pass 165 = .ok (.iconst 3, 1) := dq daX10_pass_44_2 15 rfl
theorem dX10_pass_166 : decode cX10_pass 166 = .ok (.iload 4, 2) := dq daX10_pass_44_2 16 rfl
theorem dX10_pass_168 : decode cX10_pass 168 = .ok (.invokevirtual 93, 3) := dq daX10_pass_44_2 17 rfl
theorem dX10_pass_171 : decode cX10_pass 171 = .ok (.aload_n 0, 1) := dq daX10_pass_44_2 18 rfl
theorem dX10_pass_172 : decode cX10_pass 172 = .ok (.getfield 10, 3) := dq daX10_pass_44_2 19 rfl
theorem dX10_pass_175 : decode cX10_pass 175 = .ok (.getfield 101, 3) := dq daX10_pass_44_2 20 rfl
theorem dX10_pass_178 : decode cX10_pass 178 = .ok (.iload 8, 2) := dq daX10_pass_44_2 21 rfl
theorem dX10_pass_180 : decode cX10_pass 180 = .ok (.iconst 4, 1) := dq daX10_pass_44_2 22 rfl
theorem dX10_pass_181 : decode cX10_pass 181 = .ok (.iload 5, 2) := dq daX10_pass_44_2 23 rfl
theorem dX10_pass_183 : decode cX10_pass 183 = .ok (.invokevirtual 93, 3) := dq daX10_pass_44_2 24 rfl
def dtX10_jar_44_0 : List (Nat × Jvm.ClassFile.Instr × Nat) := [(0, .iload_n 2, 1), (1, .iload_n 3, 1), (2, .invokestatic 104, 3), (5, .ifCond .eq 27, 3), (32, .iconst 0, 1), (33, .istore 6, 2), (35, .iload 6, 2), (37, .ifCond .eq 30, 3), (67, .iconst (-1), 1), (68, .istore 7, 2), (70, .iload 7, 2), (72, .iconst (-1), 1), (73, .if_icmp .eq 88, 3), (161, .iload 7, 2), (163, .ireturn, 1), (8, .iload 4, 2), (10, .bipush 7, 2), (12, .invokestatic 79, 3), (15, .ifCond .eq 17, 3), (18, .iload 5, 2), (20, .bipush 15, 2), (22, .invokestatic 79, 3), (25, .ifCond .eq 7, 3), (28, .iconst 1, 1), (29, .goto 4, 3), (40, .aload_n 0, 1), (41, .getfield 10, 3), (44, .getfield 83, 3), (47, .iload_n 1, 1), (48, .invokevirtual 97, 3), (51, .ifCond .eq 16, 3), (54, .aload_n 0, 1)]
theorem daX10_jar_44_0 : dtX10_jar_44_0.all (dqd cX10_jar) = true := by decide +kernel
theorem dX10_jar_0 : decode cX10_jar 0 = .ok (.iload_n 2, 1) := dq daX10_jar_44_0 0 rfl
theorem dX10_jar_1 : decode cX10_jar 1 = .ok (.iload_n 3, 1) := dq daX10_jar_44_0 1 rfl
theorem dX10_jar_2 : decode cX10_jar 2 = .ok (.invokestatic 104, 3) := dq daX10_jar_44_0 2 rfl
theorem dX10_jar_5 : decode cX10_jar 5 = .ok (.ifCond .eq 27, 3) := dq daX10_jar_44_0 3 rfl
theorem dX10_jar_32 : decode cX10_jar 32 = .ok (.iconst 0, 1) := dq daX10_jar_44_0 4 rfl
theorem dX10_jar_33 : decode cX10_jar 33 = .ok (.istore 6, 2) := dq daX10_jar_44_0 5 rfl
theorem dX10_jar_35 : decode cX10_jar 35 = .ok (.iload 6, 2) := dq daX10_jar_44_0 6 rfl
theorem dX10_jar_37 : decode cX10_jar 37 = .ok (.ifCond .eq 30, 3) := dq daX10_jar_44_0 7 rfl
theorem dX10_jar_67 : decode cX10_jar 67 = .ok (.iconst (-1), 1) := dq daX10_jar_44_0 8 rfl
theorem dX10_jar_68 : decode cX10_jar 68 = .ok (.istore 7, 2) := dq daX10_jar_44_0 9 rfl
theorem dX10_jar_70 : decode cX10_jar 70 = .ok (.iload 7, 2) := dq daX10_jar_44_0 10 rfl
theorem dX10_jar_72 : decode cX10_jar 72 = .ok (.iconst (-1), 1) := dq daX10_jar_44_0 11 rfl
theorem dX10_jar_73 : decode cX10_jar 73 = .ok (.if_icmp .eq 88, 3) := dq daX10_jar_44_0 12 rfl
theorem dX10_jar_161 : decode cX10_jar 161 = .ok (.iload 7, 2) := dq daX10_jar_44_0 13 rfl
theorem dX10_jar_163 : decode cX10_jar 163 = .ok (.ireturn, 1) := dq daX10_jar_44_0 14 rfl
theorem dX10_jar_8 : decode cX10_jar 8 = .ok (.iload 4, 2) := dq daX10_jar_44_0 15 rfl
theorem dX10_jar_10 : decode cX10_jar 10 = .ok (.bipush 7, 2) := dq daX10_jar_44_0 16 rfl
theorem dX10_jar_12 : decode cX10_jar 12 = .ok (.invokestatic 79, 3) := dq daX10_jar_44_0 17 rfl
theorem dX10_jar_15 : decode cX10_jar 15 = .ok (.ifCond .eq 17, 3) := dq daX10_jar_44_0 18 rfl
theorem dX10_jar_18 : decode cX10_jar 18 = .ok (.iload 5, 2) := dq daX10_jar_44_0 19 rfl
theorem dX10_jar_20 : decode cX10_jar 20 = .ok (.bipush 15, 2) := dq daX10_jar_44_0 20 rfl
theorem dX10_jar_22 : decode cX10_jar 22 = .ok (.invokestatic 79, 3) := dq daX10_jar_44_0 21 rfl
theorem dX10_jar_25 : decode cX10_jar 25 = .ok (.ifCond .eq 7, 3) := dq daX10_jar_44_0 22 rfl
theorem dX10_jar_28 : decode cX10_jar 28 = .ok (.iconst 1, 1) := dq daX10_jar_44_0 23 rfl
theorem dX10_jar_29 : decode cX10_jar 29 = .ok (.goto 4, 3) := dq daX10_jar_44_0 24 rfl
theorem dX10_jar_40 : decode cX10_jar 40 = .ok (.aload_n 0, 1) := dq daX10_jar_44_0 25 rfl
theorem dX10_jar_41 : decode cX10_jar 41 = .ok (.getfield 10, 3) := dq daX10_jar_44_0 26 rfl
theorem dX10_jar_44 : decode cX10_jar 44 = .ok (.getfield 83, 3) := dq daX10_jar_44_0 27 rfl
theorem dX10_jar_47 : decode cX10_jar 47 = .ok (.iload_n 1, 1) := dq daX10_jar_44_0 28 rfl
theorem dX10_jar_48 : decode cX10_jar 48 = .ok (.invokevirtual 97, 3) := dq daX10_jar_44_0 29 rfl
theorem dX10_jar_51 : decode cX10_jar 51 = .ok (.ifCond .eq 16, 3) := dq daX10_jar_44_0 30 rfl
theorem dX10_jar_54 : decode cX10_jar 54 = .ok (.aload_n 0, 1) := dq daX10_jar_44_0 31 rfl
def dtX10_jar_44_1 : List (Nat × Jvm.ClassFile.Instr × Nat) := [(55, .getfield 10, 3), (58, .getfield 107, 3), (61, .invokevirtual 87, 3), (64, .goto 4, 3), (76, .aload_n 0, 1), (77, .getfield 10, 3), (80, .getfield 107, 3), (83, .iload 7, 2), (85, .iconst 0, 1), (86, .iconst 0, 1), (87, .invokevirtual 93, 3), (90, .aload_n 0, 1), (91, .getfield 10, 3), (94, .iload 7, 2), (96, .iload_n 1, 1), (97, .invokevirtual 110, 3), (100, .aload_n 0, 1), (101, .getfield 10, 3), (104, .getfield 107, 3), (107, .iload 7, 2), (109, .iconst 5, 1), (110, .iload_n 2, 1), (111, .invokevirtual 93, 3), (114, .aload_n 0, 1), (115, .getfield 10, 3), (118, .getfield 107, 3), (121, .iload 7, 2), (123, .bipush 6, 2), (125, .iload_n 3, 1), (126, .invokevirtual 93, 3), (129, .aload_n 0, 1), (130, .getfield 10, 3)]
theorem daX10_jar_44_1 : dtX10_jar_44_1.all (dqd cX10_jar) = true := by decide +kernel
theorem dX10_jar_55 : decode cX10_jar 55 = .ok (.getfield 10, 3) := dq daX10_jar_44_1 0 rfl
theorem dX10_jar_58 : decode cX10_jar 58 = .ok (.getfield 107, 3) := dq daX10_jar_44_1 1 rfl
theorem dX10_jar_61 : decode cX10_jar 61 = .ok (.invokevirtual 87, 3) := dq daX10_jar_44_1 2 rfl
theorem dX10_jar_64 : decode cX10_jar 64 = .ok (.goto 4, 3) := dq daX10_jar_44_1 3 rfl
theorem dX10_jar_76 : decode cX10_jar 76 = .ok (.aload_n 0, 1) := dq daX10_jar_44_1 4 rfl
theorem dX10_jar_77 : decode cX10_jar 77 = .ok (.getfield 10, 3) := dq daX10_jar_44_1 5 rfl
theorem dX10_jar_80 : decode cX10_jar 80 = .ok (.getfield 107, 3) := dq daX10_jar_44_1 6 rfl
theorem dX10_jar_83 : decode cX10_jar 83 = .ok (.iload 7, 2) := dq daX10_jar_44_1 7 rfl
theorem dX10_jar_85 : decode cX10_jar 85 = .ok (.iconst 0, 1) := dq daX10_jar_44_1 8 rfl
theorem dX10_jar_86 : decode cX10_jar 86 = .ok (.iconst 0, 1) := dq daX10_jar_44_1 9 rfl
theorem dX10_jar_87 : decode cX10_jar 87 = .ok (.invokevirtual 93, 3) := dq daX10_jar_44_1 10 rfl
theorem dX10_jar_90 : decode cX10_jar 90 = .ok (.aload_n 0, 1) := dq daX10_jar_44_1 11 rfl
theorem dX10_jar_91 : decode cX10_jar 91 = .ok (.getfield 10, 3) := dq daX10_jar_44_1 12 rfl
theorem dX10_jar_94 : decode cX10_jar 94 = .ok (.iload 7, 2) := dq daX10_jar_44_1 13 rfl
theorem dX10_jar_96 : decode cX10_jar 96 = .ok (.iload_n 1, 1) := dq daX10_jar_44_1 14 rfl
theorem dX10_jar_97 : decode cX10_jar 97 = .ok (.invokevirtual 110, 3) := dq daX10_jar_44_1 15 rfl
theorem dX10_jar_100 : decode cX10_jar 100 = .ok (.aload_n 0, 1) := dq daX10_jar_44_1 16 rfl
theorem dX10_jar_101 : decode cX10_jar 101 = .ok (.getfield 10, 3) := dq daX10_jar_44_1 17 rfl
theorem dX10_jar_104 : decode cX10_jar 104 = .ok (.getfield 107, 3) := dq daX10_jar_44_1 18 rfl
theorem dX10_jar_107 : decode cX10_jar 107 = .ok (.iload 7, 2) := dq daX10_jar_44_1 19 rfl
theorem dX10_jar_109 : decode cX10_jar 109 = .ok (.iconst 5, 1) := dq daX10_jar_44_1 20 rfl
theorem dX10_jar_110 : decode cX10_jar 110 = .ok (.iload_n 2, 1) := dq daX10_jar_44_1 21 rfl
theorem dX10_jar_111 : decode cX10_jar 111 = .ok (.invokevirtual 93, 3) := dq daX10_jar_44_1 22 rfl
theorem dX10_jar_114 : decode cX10_jar 114 = .ok (.aload_n 0, 1) := dq daX10_jar_44_1 23 rfl
theorem dX10_jar_115 : decode cX10_jar 115 = .ok (.getfield 10, 3) := dq daX10_jar_44_1 24 rfl
theorem dX10_jar_118 : decode cX10_jar 118 = .ok (.getfield 107, 3) := dq daX10_jar_44_1 25 rfl
theorem dX10_jar_121 : decode cX10_jar 121 = .ok (.iload 7, 2) := dq daX10_jar_44_1 26 rfl
theorem dX10_jar_123 : decode cX10_jar 123 = .ok (.bipush 6, 2) := dq daX10_jar_44_1 27 rfl
theorem dX10_jar_125 : decode cX10_jar 125 = .ok (.iload_n 3, 1) := dq daX10_jar_44_1 28 rfl
theorem dX10_jar_126 : decode cX10_jar 126 = .ok (.invokevirtual 93, 3) := dq daX10_jar_44_1 29 rfl
theorem dX10_jar_129 : decode cX10_jar 129 = .ok (.aload_n 0, 1) := dq daX10_jar_44_1 30 rfl
theorem dX10_jar_130 : decode cX10_jar 130 = .ok (.getfield 10, 3) := dq daX10_jar_44_1 31 rfl
def dtX10_jar_44_2 : List (Nat × Jvm.ClassFile.Instr × Nat) := [(133, .getfield 107, 3), (136, .iload 7, 2), (138, .bipush 7, 2), (140, .iload 4, 2), (142, .invokevirtual 93, 3), (145, .aload_n 0, 1), (146, .getfield 10, 3), (149, .getfield 107, 3), (152, .iload 7, 2), (154, .bipush 8, 2), (156, .iload 5, 2), (158, .invokevirtual 93, 3)]
theorem daX10_jar_44_2 : dtX10_jar_44_2.all (dqd cX10_jar) = true := by decide +kernel
theorem dX10_jar_133 : decode cX10_jar 133 = .ok (.getfield 107, 3) := dq daX10_jar_44_2 0 rfl
theorem dX10_jar_136 : decode cX10_jar 136 = .ok (.iload 7, 2) := dq daX10_jar_44_2 1 rfl
theorem dX10_jar_138 : decode cX10_jar 138 = .ok (.bipush 7, 2) := dq daX10_jar_44_2 2 rfl
theorem dX10_jar_140 : decode cX10_jar 140 = .ok (.iload 4, 2) := dq daX10_jar_44_2 3 rfl
theorem dX10_jar_142 : decode cX10_jar 142 = .ok (.invokevirtual 93, 3) := dq daX10_jar_44_2 4 rfl
theorem dX10_jar_145 : decode cX10_jar 145 = .ok (.aload_n 0, 1) := dq daX10_jar_44_2 5 rfl
theorem dX10_jar_146 : decode cX10_jar 146 = .ok (.getfield 10, 3) := dq daX10_jar_44_2 6 rfl
theorem dX10_jar_149 : decode cX10_jar 149 = .ok (.getfield 107, 3) := dq daX10_jar_44_2 7 rfl
theorem dX10_jar_152 : decode cX10_jar 152 = .ok (.iload 7, 2) := dq daX10_jar_44_2 8 rfl
theorem dX10_jar_154 : decode cX10_jar 154 = .ok (.bipush 8, 2) := dq daX10_jar_44_2 9 rfl
theorem dX10_jar_156 : decode cX10_jar 156 = .ok (.iload 5, 2) := dq daX10_jar_44_2 10 rfl
theorem dX10_jar_158 : decode cX10_jar 158 = .ok (.invokevirtual 93, 3) := dq daX10_jar_44_2 11 rfl
def dtX10_order_44_0 : List (Nat × Jvm.ClassFile.Instr × Nat) := [(0, .iload_n 2, 1), (1, .ldc 140, 2), (3, .invokestatic 79, 3), (6, .ifCond .eq 25, 3), (31, .iconst 0, 1), (32, .istore 5, 2), (34, .iload 5, 2), (36, .ifCond .eq 30, 3), (66, .iconst (-1), 1), (67, .istore 6, 2), (69, .iload 6, 2), (71, .iconst (-1), 1), (72, .if_icmp .ne 5, 3), (75, .iconst (-1), 1), (76, .ireturn, 1), (9, .iload_n 3, 1), (10, .invokestatic 260, 3), (13, .ifCond .eq 18, 3), (16, .iload 4, 2), (18, .sipush 9999, 3), (21, .invokestatic 79, 3), (24, .ifCond .eq 7, 3), (27, .iconst 1, 1), (28, .goto 4, 3), (39, .aload_n 0, 1), (40, .getfield 10, 3), (43, .getfield 83, 3), (46, .iload_n 1, 1), (47, .invokevirtual 97, 3), (50, .ifCond .eq 16, 3), (53, .aload_n 0, 1), (54, .getfield 10, 3)]
theorem daX10_order_44_0 : dtX10_order_44_0.all (dqd cX10_order) = true := by decide +kernel
theorem dX10_order_0 : decode cX10_order 0 = .ok (.iload_n 2, 1) := dq daX10_order_44_0 0 rfl
theorem dX10_order_1 : decode cX10_order 1 = .ok (.ldc 140, 2) := dq daX10_order_44_0 1 rfl
theorem dX10_order_3 : decode cX10_order 3 = .ok (.invokestatic 79, 3) := dq daX10_order_44_0 2 rfl
theorem dX10_order_6 : decode cX10_order 6 = .ok (.ifCond .eq 25, 3) := dq daX10_order_44_0 3 rfl
theorem dX10_order_31 : decode cX10_order 31 = .ok (.iconst 0, 1) := dq daX10_order_44_0 4 rfl
theorem dX10_order_32 : decode cX10_order 32 = .ok (.istore 5, 2) := dq daX10_order_44_0 5 rfl
theorem dX10_order_34 : decode cX10_order 34 = .ok (.iload 5, 2) := dq daX10_order_44_0 6 rfl
theorem dX10_order_36 : decode cX10_order 36 = .ok (.ifCond .eq 30, 3) := dq daX10_order_44_0 7 rfl
theorem dX10_order_66 : decode cX10_order 66 = .ok (.iconst (-1), 1) := dq daX10_order_44_0 8 rfl
theorem dX10_order_67 : decode cX10_order 67 = .ok (.istore 6, 2) := dq daX10_order_44_0 9 rfl
theorem dX10_order_69 : decode cX10_order 69 = .ok (.iload 6, 2) := dq daX10_order_44_0 10 rfl
theorem dX10_order_71 : decode cX10_order 71 = .ok (.iconst (-1), 1) := dq daX10_order_44_0 11 rfl
theorem dX10_order_72 : decode cX10_order 72 = .ok (.if_icmp .ne 5, 3) := dq daX10_order_44_0 12 rfl
theorem dX10_order_75 : decode cX10_order 75 = .ok (.iconst (-1), 1) := dq daX10_order_44_0 13 rfl
theorem dX10_order_76 : decode cX10_order 76 = .ok (.ireturn, 1) := dq daX10_order_44_0 14 rfl
theorem dX10_order_9 : decode cX10_order 9 = .ok (.iload_n 3, 1) := dq daX10_order_44_0 15 rfl
theorem dX10_order_10 : decode cX10_order 10 = .ok (.invokestatic 260, 3) := dq daX10_order_44_0 16 rfl
theorem dX10_order_13 : decode cX10_order 13 = .ok (.ifCond .eq 18, 3) := dq daX10_order_44_0 17 rfl
theorem dX10_order_16 : decode cX10_order 16 = .ok (.iload 4, 2) := dq daX10_order_44_0 18 rfl
theorem dX10_order_18 : decode cX10_order 18 = .ok (.sipush 9999, 3) := dq daX10_order_44_0 19 rfl
theorem dX10_order_21 : decode cX10_order 21 = .ok (.invokestatic 79, 3) := dq daX10_order_44_0 20 rfl
theorem dX10_order_24 : decode cX10_order 24 = .ok (.ifCond .eq 7, 3) := dq daX10_order_44_0 21 rfl
theorem dX10_order_27 : decode cX10_order 27 = .ok (.iconst 1, 1) := dq daX10_order_44_0 22 rfl
theorem dX10_order_28 : decode cX10_order 28 = .ok (.goto 4, 3) := dq daX10_order_44_0 23 rfl
theorem dX10_order_39 : decode cX10_order 39 = .ok (.aload_n 0, 1) := dq daX10_order_44_0 24 rfl
theorem dX10_order_40 : decode cX10_order 40 = .ok (.getfield 10, 3) := dq daX10_order_44_0 25 rfl
theorem dX10_order_43 : decode cX10_order 43 = .ok (.getfield 83, 3) := dq daX10_order_44_0 26 rfl
theorem dX10_order_46 : decode cX10_order 46 = .ok (.iload_n 1, 1) := dq daX10_order_44_0 27 rfl
theorem dX10_order_47 : decode cX10_order 47 = .ok (.invokevirtual 97, 3) := dq daX10_order_44_0 28 rfl
theorem dX10_order_50 : decode cX10_order 50 = .ok (.ifCond .eq 16, 3) := dq daX10_order_44_0 29 rfl
theorem dX10_order_53 : decode cX10_order 53 = .ok (.aload_n 0, 1) := dq daX10_order_44_0 30 rfl
theorem dX10_order_54 : decode cX10_order 54 = .ok (.getfield 10, 3) := dq daX10_order_44_0 31 rfl
def dtX10_order_44_1 : List (Nat × Jvm.ClassFile.Instr × Nat) := [(57, .getfield 263, 3), (60, .invokevirtual 87, 3), (63, .goto 4, 3), (77, .aload_n 0, 1), (78, .getfield 10, 3), (81, .getfield 263, 3), (84, .iload 6, 2), (86, .iconst 0, 1), (87, .iload_n 1, 1), (88, .invokevirtual 93, 3), (91, .aload_n 0, 1), (92, .getfield 10, 3), (95, .getfield 263, 3), (98, .iload 6, 2), (100, .iconst 1, 1), (101, .iload_n 2, 1), (102, .invokevirtual 93, 3), (105, .aload_n 0, 1), (106, .getfield 10, 3), (109, .getfield 263, 3), (112, .iload 6, 2), (114, .iconst 2, 1), (115, .iload_n 3, 1), (116, .invokevirtual 93, 3), (119, .aload_n 0, 1), (120, .getfield 10, 3), (123, .getfield 263, 3), (126, .iload 6, 2), (128, .iconst 3, 1), (129, .iload 4, 2), (131, .invokevirtual 93, 3), (134, .iload 6, 2)]
theorem daX10_order_44_1 : dtX10_order_44_1.all (dqd cX10_order) = true := by decide +kernel
theorem dX10_order_57 : decode cX10_order 57 = .ok (.getfield 263, 3) := dq daX10_order_44_1 0 rfl
theorem dX10_order_60 : decode cX10_order 60 = .ok (.invokevirtual 87, 3) := dq daX10_order_44_1 1 rfl
theorem dX10_order_63 : decode cX10_order 63 = .ok (.goto 4, 3) := dq daX10_order_44_1 2 rfl
theorem dX10_order_77 : decode cX10_order 77 = .ok (.aload_n 0, 1) := dq daX10_order_44_1 3 rfl
theorem dX10_order_78 : decode cX10_order 78 = .ok (.getfield 10, 3) := dq daX10_order_44_1 4 rfl
theorem dX10_order_81 : decode cX10_order 81 = .ok (.getfield 263, 3) := dq daX10_order_44_1 5 rfl
theorem dX10_order_84 : decode cX10_order 84 = .ok (.iload 6, 2) := dq daX10_order_44_1 6 rfl
theorem dX10_order_86 : decode cX10_order 86 = .ok (.iconst 0, 1) := dq daX10_order_44_1 7 rfl
theorem dX10_order_87 : decode cX10_order 87 = .ok (.iload_n 1, 1) := dq daX10_order_44_1 8 rfl
theorem dX10_order_88 : decode cX10_order 88 = .ok (.invokevirtual 93, 3) := dq daX10_order_44_1 9 rfl
theorem dX10_order_91 : decode cX10_order 91 = .ok (.aload_n 0, 1) := dq daX10_order_44_1 10 rfl
theorem dX10_order_92 : decode cX10_order 92 = .ok (.getfield 10, 3) := dq daX10_order_44_1 11 rfl
theorem dX10_order_95 : decode cX10_order 95 = .ok (.getfield 263, 3) := dq daX10_order_44_1 12 rfl
theorem dX10_order_98 : decode cX10_order 98 = .ok (.iload 6, 2) := dq daX10_order_44_1 13 rfl
theorem dX10_order_100 : decode cX10_order 100 = .ok (.iconst 1, 1) := dq daX10_order_44_1 14 rfl
theorem dX10_order_101 : decode cX10_order 101 = .ok (.iload_n 2, 1) := dq daX10_order_44_1 15 rfl
theorem dX10_order_102 : decode cX10_order 102 = .ok (.invokevirtual 93, 3) := dq daX10_order_44_1 16 rfl
theorem dX10_order_105 : decode cX10_order 105 = .ok (.aload_n 0, 1) := dq daX10_order_44_1 17 rfl
theorem dX10_order_106 : decode cX10_order 106 = .ok (.getfield 10, 3) := dq daX10_order_44_1 18 rfl
theorem dX10_order_109 : decode cX10_order 109 = .ok (.getfield 263, 3) := dq daX10_order_44_1 19 rfl
theorem dX10_order_112 : decode cX10_order 112 = .ok (.iload 6, 2) := dq daX10_order_44_1 20 rfl
theorem dX10_order_114 : decode cX10_order 114 = .ok (.iconst 2, 1) := dq daX10_order_44_1 21 rfl
theorem dX10_order_115 : decode cX10_order 115 = .ok (.iload_n 3, 1) := dq daX10_order_44_1 22 rfl
theorem dX10_order_116 : decode cX10_order 116 = .ok (.invokevirtual 93, 3) := dq daX10_order_44_1 23 rfl
theorem dX10_order_119 : decode cX10_order 119 = .ok (.aload_n 0, 1) := dq daX10_order_44_1 24 rfl
theorem dX10_order_120 : decode cX10_order 120 = .ok (.getfield 10, 3) := dq daX10_order_44_1 25 rfl
theorem dX10_order_123 : decode cX10_order 123 = .ok (.getfield 263, 3) := dq daX10_order_44_1 26 rfl
theorem dX10_order_126 : decode cX10_order 126 = .ok (.iload 6, 2) := dq daX10_order_44_1 27 rfl
theorem dX10_order_128 : decode cX10_order 128 = .ok (.iconst 3, 1) := dq daX10_order_44_1 28 rfl
theorem dX10_order_129 : decode cX10_order 129 = .ok (.iload 4, 2) := dq daX10_order_44_1 29 rfl
theorem dX10_order_131 : decode cX10_order 131 = .ok (.invokevirtual 93, 3) := dq daX10_order_44_1 30 rfl
theorem dX10_order_134 : decode cX10_order 134 = .ok (.iload 6, 2) := dq daX10_order_44_1 31 rfl
def dtX10_order_44_2 : List (Nat × Jvm.ClassFile.Instr × Nat) := [(136, .iconst 1, 1), (137, .iadd, 1), (138, .ireturn, 1)]
theorem daX10_order_44_2 : dtX10_order_44_2.all (dqd cX10_order) = true := by decide +kernel
theorem dX10_order_136 : decode cX10_order 136 = .ok (.iconst 1, 1) := dq daX10_order_44_2 0 rfl
theorem dX10_order_137 : decode cX10_order 137 = .ok (.iadd, 1) := dq daX10_order_44_2 1 rfl
theorem dX10_order_138 : decode cX10_order 138 = .ok (.ireturn, 1) := dq daX10_order_44_2 2 rfl
def dtX10_feast_44_0 : List (Nat × Jvm.ClassFile.Instr × Nat) := [(0, .iload_n 2, 1), (1, .sipush 4166, 3), (4, .invokestatic 79, 3), (7, .ifCond .eq 14, 3), (21, .iconst 0, 1), (22, .istore 4, 2), (24, .iload 4, 2), (26, .ifCond .eq 30, 3), (56, .iconst (-1), 1), (57, .istore 5, 2), (59, .iload 5, 2), (61, .iconst (-1), 1), (62, .if_icmp .ne 5, 3), (65, .iconst (-1), 1), (66, .ireturn, 1), (10, .iload_n 3, 1), (11, .invokestatic 260, 3), (14, .ifCond .eq 7, 3), (17, .iconst 1, 1), (18, .goto 4, 3), (29, .aload_n 0, 1), (30, .getfield 10, 3), (33, .getfield 83, 3), (36, .iload_n 1, 1), (37, .invokevirtual 97, 3), (40, .ifCond .eq 16, 3), (43, .aload_n 0, 1), (44, .getfield 10, 3), (47, .getfield 285, 3), (50, .invokevirtual 87, 3), (53, .goto 4, 3), (67, .aload_n 0, 1)]
theorem daX10_feast_44_0 : dtX10_feast_44_0.all (dqd cX10_feast) = true := by decide +kernel
theorem dX10_feast_0 : decode cX10_feast 0 = .ok (.iload_n 2, 1) := dq daX10_feast_44_0 0 rfl
theorem dX10_feast_1 : decode cX10_feast 1 = .ok (.sipush 4166, 3) := dq daX10_feast_44_0 1 rfl
theorem dX10_feast_4 : decode cX10_feast 4 = .ok (.invokestatic 79, 3) := dq daX10_feast_44_0 2 rfl
theorem dX10_feast_7 : decode cX10_feast 7 = .ok (.ifCond .eq 14, 3) := dq daX10_feast_44_0 3 rfl
theorem dX10_feast_21 : decode cX10_feast 21 = .ok (.iconst 0, 1) := dq daX10_feast_44_0 4 rfl
theorem dX10_feast_22 : decode cX10_feast 22 = .ok (.istore 4, 2) := dq daX10_feast_44_0 5 rfl
theorem dX10_feast_24 : decode cX10_feast 24 = .ok (.iload 4, 2) := dq daX10_feast_44_0 6 rfl
theorem dX10_feast_26 : decode cX10_feast 26 = .ok (.ifCond .eq 30, 3) := dq daX10_feast_44_0 7 rfl
theorem dX10_feast_56 : decode cX10_feast 56 = .ok (.iconst (-1), 1) := dq daX10_feast_44_0 8 rfl
theorem dX10_feast_57 : decode cX10_feast 57 = .ok (.istore 5, 2) := dq daX10_feast_44_0 9 rfl
theorem dX10_feast_59 : decode cX10_feast 59 = .ok (.iload 5, 2) := dq daX10_feast_44_0 10 rfl
theorem dX10_feast_61 : decode cX10_feast 61 = .ok (.iconst (-1), 1) := dq daX10_feast_44_0 11 rfl
theorem dX10_feast_62 : decode cX10_feast 62 = .ok (.if_icmp .ne 5, 3) := dq daX10_feast_44_0 12 rfl
theorem dX10_feast_65 : decode cX10_feast 65 = .ok (.iconst (-1), 1) := dq daX10_feast_44_0 13 rfl
theorem dX10_feast_66 : decode cX10_feast 66 = .ok (.ireturn, 1) := dq daX10_feast_44_0 14 rfl
theorem dX10_feast_10 : decode cX10_feast 10 = .ok (.iload_n 3, 1) := dq daX10_feast_44_0 15 rfl
theorem dX10_feast_11 : decode cX10_feast 11 = .ok (.invokestatic 260, 3) := dq daX10_feast_44_0 16 rfl
theorem dX10_feast_14 : decode cX10_feast 14 = .ok (.ifCond .eq 7, 3) := dq daX10_feast_44_0 17 rfl
theorem dX10_feast_17 : decode cX10_feast 17 = .ok (.iconst 1, 1) := dq daX10_feast_44_0 18 rfl
theorem dX10_feast_18 : decode cX10_feast 18 = .ok (.goto 4, 3) := dq daX10_feast_44_0 19 rfl
theorem dX10_feast_29 : decode cX10_feast 29 = .ok (.aload_n 0, 1) := dq daX10_feast_44_0 20 rfl
theorem dX10_feast_30 : decode cX10_feast 30 = .ok (.getfield 10, 3) := dq daX10_feast_44_0 21 rfl
theorem dX10_feast_33 : decode cX10_feast 33 = .ok (.getfield 83, 3) := dq daX10_feast_44_0 22 rfl
theorem dX10_feast_36 : decode cX10_feast 36 = .ok (.iload_n 1, 1) := dq daX10_feast_44_0 23 rfl
theorem dX10_feast_37 : decode cX10_feast 37 = .ok (.invokevirtual 97, 3) := dq daX10_feast_44_0 24 rfl
theorem dX10_feast_40 : decode cX10_feast 40 = .ok (.ifCond .eq 16, 3) := dq daX10_feast_44_0 25 rfl
theorem dX10_feast_43 : decode cX10_feast 43 = .ok (.aload_n 0, 1) := dq daX10_feast_44_0 26 rfl
theorem dX10_feast_44 : decode cX10_feast 44 = .ok (.getfield 10, 3) := dq daX10_feast_44_0 27 rfl
theorem dX10_feast_47 : decode cX10_feast 47 = .ok (.getfield 285, 3) := dq daX10_feast_44_0 28 rfl
theorem dX10_feast_50 : decode cX10_feast 50 = .ok (.invokevirtual 87, 3) := dq daX10_feast_44_0 29 rfl
theorem dX10_feast_53 : decode cX10_feast 53 = .ok (.goto 4, 3) := dq daX10_feast_44_0 30 rfl
theorem dX10_feast_67 : decode cX10_feast 67 = .ok (.aload_n 0, 1) := dq daX10_feast_44_0 31 rfl
def dtX10_feast_44_1 : List (Nat × Jvm.ClassFile.Instr × Nat) := [(68, .getfield 10, 3), (71, .getfield 285, 3), (74, .iload 5, 2), (76, .iconst 0, 1), (77, .iload_n 1, 1), (78, .invokevirtual 93, 3), (81, .aload_n 0, 1), (82, .getfield 10, 3), (85, .getfield 285, 3), (88, .iload 5, 2), (90, .iconst 1, 1), (91, .iload_n 2, 1), (92, .invokevirtual 93, 3), (95, .aload_n 0, 1), (96, .getfield 10, 3), (99, .getfield 285, 3), (102, .iload 5, 2), (104, .iconst 2, 1), (105, .iload_n 3, 1), (106, .invokevirtual 93, 3), (109, .iload 5, 2), (111, .iconst 1, 1), (112, .iadd, 1), (113, .ireturn, 1)]
theorem daX10_feast_44_1 : dtX10_feast_44_1.all (dqd cX10_feast) = true := by decide +kernel
theorem dX10_feast_68 : decode cX10_feast 68 = .ok (.getfield 10, 3) := dq daX10_feast_44_1 0 rfl
theorem dX10_feast_71 : decode cX10_feast 71 = .ok (.getfield 285, 3) := dq daX10_feast_44_1 1 rfl
theorem dX10_feast_74 : decode cX10_feast 74 = .ok (.iload 5, 2) := dq daX10_feast_44_1 2 rfl
theorem dX10_feast_76 : decode cX10_feast 76 = .ok (.iconst 0, 1) := dq daX10_feast_44_1 3 rfl
theorem dX10_feast_77 : decode cX10_feast 77 = .ok (.iload_n 1, 1) := dq daX10_feast_44_1 4 rfl
theorem dX10_feast_78 : decode cX10_feast 78 = .ok (.invokevirtual 93, 3) := dq daX10_feast_44_1 5 rfl
theorem dX10_feast_81 : decode cX10_feast 81 = .ok (.aload_n 0, 1) := dq daX10_feast_44_1 6 rfl
theorem dX10_feast_82 : decode cX10_feast 82 = .ok (.getfield 10, 3) := dq daX10_feast_44_1 7 rfl
theorem dX10_feast_85 : decode cX10_feast 85 = .ok (.getfield 285, 3) := dq daX10_feast_44_1 8 rfl
theorem dX10_feast_88 : decode cX10_feast 88 = .ok (.iload 5, 2) := dq daX10_feast_44_1 9 rfl
theorem dX10_feast_90 : decode cX10_feast 90 = .ok (.iconst 1, 1) := dq daX10_feast_44_1 10 rfl
theorem dX10_feast_91 : decode cX10_feast 91 = .ok (.iload_n 2, 1) := dq daX10_feast_44_1 11 rfl
theorem dX10_feast_92 : decode cX10_feast 92 = .ok (.invokevirtual 93, 3) := dq daX10_feast_44_1 12 rfl
theorem dX10_feast_95 : decode cX10_feast 95 = .ok (.aload_n 0, 1) := dq daX10_feast_44_1 13 rfl
theorem dX10_feast_96 : decode cX10_feast 96 = .ok (.getfield 10, 3) := dq daX10_feast_44_1 14 rfl
theorem dX10_feast_99 : decode cX10_feast 99 = .ok (.getfield 285, 3) := dq daX10_feast_44_1 15 rfl
theorem dX10_feast_102 : decode cX10_feast 102 = .ok (.iload 5, 2) := dq daX10_feast_44_1 16 rfl
theorem dX10_feast_104 : decode cX10_feast 104 = .ok (.iconst 2, 1) := dq daX10_feast_44_1 17 rfl
theorem dX10_feast_105 : decode cX10_feast 105 = .ok (.iload_n 3, 1) := dq daX10_feast_44_1 18 rfl
theorem dX10_feast_106 : decode cX10_feast 106 = .ok (.invokevirtual 93, 3) := dq daX10_feast_44_1 19 rfl
theorem dX10_feast_109 : decode cX10_feast 109 = .ok (.iload 5, 2) := dq daX10_feast_44_1 20 rfl
theorem dX10_feast_111 : decode cX10_feast 111 = .ok (.iconst 1, 1) := dq daX10_feast_44_1 21 rfl
theorem dX10_feast_112 : decode cX10_feast 112 = .ok (.iadd, 1) := dq daX10_feast_44_1 22 rfl
theorem dX10_feast_113 : decode cX10_feast 113 = .ok (.ireturn, 1) := dq daX10_feast_44_1 23 rfl
def dtX10_month_44_0 : List (Nat × Jvm.ClassFile.Instr × Nat) := [(0, .iload_n 1, 1), (1, .bipush 11, 2), (3, .invokestatic 79, 3), (6, .ifCond .ne 5, 3), (11, .aload_n 0, 1), (12, .getfield 10, 3), (15, .getfield 114, 3), (18, .istore_n 2, 1), (19, .aload_n 0, 1), (20, .getfield 10, 3), (23, .iload_n 1, 1), (24, .putfield 114, 3), (27, .iload_n 2, 1), (9, .iconst (-1), 1), (10, .ireturn, 1), (28, .ireturn, 1)]
theorem daX10_month_44_0 : dtX10_month_44_0.all (dqd cX10_month) = true := by decide +kernel
theorem dX10_month_0 : decode cX10_month 0 = .ok (.iload_n 1, 1) := dq daX10_month_44_0 0 rfl
theorem dX10_month_1 : decode cX10_month 1 = .ok (.bipush 11, 2) := dq daX10_month_44_0 1 rfl
theorem dX10_month_3 : decode cX10_month 3 = .ok (.invokestatic 79, 3) := dq daX10_month_44_0 2 rfl
theorem dX10_month_6 : decode cX10_month 6 = .ok (.ifCond .ne 5, 3) := dq daX10_month_44_0 3 rfl
theorem dX10_month_11 : decode cX10_month 11 = .ok (.aload_n 0, 1) := dq daX10_month_44_0 4 rfl
theorem dX10_month_12 : decode cX10_month 12 = .ok (.getfield 10, 3) := dq daX10_month_44_0 5 rfl
theorem dX10_month_15 : decode cX10_month 15 = .ok (.getfield 114, 3) := dq daX10_month_44_0 6 rfl
theorem dX10_month_18 : decode cX10_month 18 = .ok (.istore_n 2, 1) := dq daX10_month_44_0 7 rfl
theorem dX10_month_19 : decode cX10_month 19 = .ok (.aload_n 0, 1) := dq daX10_month_44_0 8 rfl
theorem dX10_month_20 : decode cX10_month 20 = .ok (.getfield 10, 3) := dq daX10_month_44_0 9 rfl
theorem dX10_month_23 : decode cX10_month 23 = .ok (.iload_n 1, 1) := dq daX10_month_44_0 10 rfl
theorem dX10_month_24 : decode cX10_month 24 = .ok (.putfield 114, 3) := dq daX10_month_44_0 11 rfl
theorem dX10_month_27 : decode cX10_month 27 = .ok (.iload_n 2, 1) := dq daX10_month_44_0 12 rfl
theorem dX10_month_9 : decode cX10_month 9 = .ok (.iconst (-1), 1) := dq daX10_month_44_0 13 rfl
theorem dX10_month_10 : decode cX10_month 10 = .ok (.ireturn, 1) := dq daX10_month_44_0 14 rfl
theorem dX10_month_28 : decode cX10_month 28 = .ok (.ireturn, 1) := dq daX10_month_44_0 15 rfl
def dtX10_from_44_0 : List (Nat × Jvm.ClassFile.Instr × Nat) := [(0, .aload_n 0, 1), (1, .getfield 10, 3), (4, .getfield 83, 3), (7, .iload_n 1, 1), (8, .invokevirtual 97, 3), (11, .ifCond .ne 5, 3), (16, .aload_n 0, 1), (17, .getfield 10, 3), (20, .iload_n 1, 1), (21, .putfield 176, 3), (24, .aload_n 0, 1), (25, .getfield 10, 3), (28, .getfield 185, 3), (31, .iconst 0, 1), (32, .putfield 188, 3), (35, .iconst 1, 1), (14, .iconst 0, 1), (15, .ireturn, 1), (36, .ireturn, 1)]
theorem daX10_from_44_0 : dtX10_from_44_0.all (dqd cX10_from) = true := by decide +kernel
theorem dX10_from_0 : decode cX10_from 0 = .ok (.aload_n 0, 1) := dq daX10_from_44_0 0 rfl
theorem dX10_from_1 : decode cX10_from 1 = .ok (.getfield 10, 3) := dq daX10_from_44_0 1 rfl
theorem dX10_from_4 : decode cX10_from 4 = .ok (.getfield 83, 3) := dq daX10_from_44_0 2 rfl
theorem dX10_from_7 : decode cX10_from 7 = .ok (.iload_n 1, 1) := dq daX10_from_44_0 3 rfl
theorem dX10_from_8 : decode cX10_from 8 = .ok (.invokevirtual 97, 3) := dq daX10_from_44_0 4 rfl
theorem dX10_from_11 : decode cX10_from 11 = .ok (.ifCond .ne 5, 3) := dq daX10_from_44_0 5 rfl
theorem dX10_from_16 : decode cX10_from 16 = .ok (.aload_n 0, 1) := dq daX10_from_44_0 6 rfl
theorem dX10_from_17 : decode cX10_from 17 = .ok (.getfield 10, 3) := dq daX10_from_44_0 7 rfl
theorem dX10_from_20 : decode cX10_from 20 = .ok (.iload_n 1, 1) := dq daX10_from_44_0 8 rfl
theorem dX10_from_21 : decode cX10_from 21 = .ok (.putfield 176, 3) := dq daX10_from_44_0 9 rfl
theorem dX10_from_24 : decode cX10_from 24 = .ok (.aload_n 0, 1) := dq daX10_from_44_0 10 rfl
theorem dX10_from_25 : decode cX10_from 25 = .ok (.getfield 10, 3) := dq daX10_from_44_0 11 rfl
theorem dX10_from_28 : decode cX10_from 28 = .ok (.getfield 185, 3) := dq daX10_from_44_0 12 rfl
theorem dX10_from_31 : decode cX10_from 31 = .ok (.iconst 0, 1) := dq daX10_from_44_0 13 rfl
theorem dX10_from_32 : decode cX10_from 32 = .ok (.putfield 188, 3) := dq daX10_from_44_0 14 rfl
theorem dX10_from_35 : decode cX10_from 35 = .ok (.iconst 1, 1) := dq daX10_from_44_0 15 rfl
theorem dX10_from_14 : decode cX10_from 14 = .ok (.iconst 0, 1) := dq daX10_from_44_0 16 rfl
theorem dX10_from_15 : decode cX10_from 15 = .ok (.ireturn, 1) := dq daX10_from_44_0 17 rfl
theorem dX10_from_36 : decode cX10_from 36 = .ok (.ireturn, 1) := dq daX10_from_44_0 18 rfl
