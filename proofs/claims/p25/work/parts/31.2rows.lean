theorem kX9_monthAt_1 {a : Array Value} {s : State} (hts : ∀ w ∈ wsX9_monthAt, w.before a s = true) : (.fieldLink RX9 46 "SnowMules$World" "firstMonth" "I" : Cond).before a s = true := kw (A := ixX9_monthAt) wt602 hts (by decide +kernel)
theorem kX9_hasSnow_1 {a : Array Value} {s : State} (hts : ∀ w ∈ wsX9_hasSnow, w.before a s = true) : (.fieldLink RX9 14 "SnowMules$World" "nodes" "LSnowMules$Table;" : Cond).before a s = true := kw (A := ixX9_hasSnow) wt52 hts (by decide +kernel)
theorem kX9_otherEnd_1 {a : Array Value} {s : State} (hts : ∀ w ∈ wsX9_otherEnd, w.before a s = true) : (.fieldLink RX9 20 "SnowMules$World" "passes" "LSnowMules$Table;" : Cond).before a s = true := kw (A := ixX9_otherEnd) wt53 hts (by decide +kernel)
theorem kX9_wayEnd_1 {a : Array Value} {s : State} (hts : ∀ w ∈ wsX9_wayEnd, w.before a s = true) : (.fieldLink RX9 35 "SnowMules$World" "wayStart" "I" : Cond).before a s = true := kw (A := ixX9_wayEnd) wt58 hts (by decide +kernel)
theorem kX9_wayEnd_2 {a : Array Value} {s : State} (hts : ∀ w ∈ wsX9_wayEnd, w.before a s = true) : (.fieldLink RX9 32 "SnowMules$World" "way" "LSnowMules$Table;" : Cond).before a s = true := kw (A := ixX9_wayEnd) wt57 hts (by decide +kernel)
theorem kX9_wayEnd_3 {a : Array Value} {s : State} (hts : ∀ w ∈ wsX9_wayEnd, w.before a s = true) : (.fieldLink RX9 60 "SnowMules$Table" "size" "I" : Cond).before a s = true := kw (A := ixX9_wayEnd) wt887 hts (by decide +kernel)
theorem kX9_wayHas_1 {a : Array Value} {s : State} (hts : ∀ w ∈ wsX9_wayHas, w.before a s = true) : (.fieldLink RX9 35 "SnowMules$World" "wayStart" "I" : Cond).before a s = true := kw (A := ixX9_wayHas) wt58 hts (by decide +kernel)
theorem kX9_wayHas_2 {a : Array Value} {s : State} (hts : ∀ w ∈ wsX9_wayHas, w.before a s = true) : (.fieldLink RX9 32 "SnowMules$World" "way" "LSnowMules$Table;" : Cond).before a s = true := kw (A := ixX9_wayHas) wt57 hts (by decide +kernel)
theorem kX9_wayHas_3 {a : Array Value} {s : State} (hts : ∀ w ∈ wsX9_wayHas, w.before a s = true) : (.fieldLink RX9 60 "SnowMules$Table" "size" "I" : Cond).before a s = true := kw (A := ixX9_wayHas) wt887 hts (by decide +kernel)
theorem kX9_nodeOf_1 {a : Array Value} {s : State} (hts : ∀ w ∈ wsX9_nodeOf, w.before a s = true) : (.fieldLink RX9 23 "SnowMules$World" "jars" "LSnowMules$Table;" : Cond).before a s = true := kw (A := ixX9_nodeOf) wt54 hts (by decide +kernel)
theorem kX9_standAt_1 {a : Array Value} {s : State} (hts : ∀ w ∈ wsX9_standAt, w.before a s = true) : (.fieldLink RX9 23 "SnowMules$World" "jars" "LSnowMules$Table;" : Cond).before a s = true := kw (A := ixX9_standAt) wt54 hts (by decide +kernel)
theorem kX9_lose_1 {a : Array Value} {s : State} (hts : ∀ w ∈ wsX9_lose, w.before a s = true) : (.fieldLink RX9 23 "SnowMules$World" "jars" "LSnowMules$Table;" : Cond).before a s = true := kw (A := ixX9_lose) wt54 hts (by decide +kernel)
theorem kX9_bring_1 {a : Array Value} {s : State} (hts : ∀ w ∈ wsX9_bring, w.before a s = true) : (.fieldLink RX9 14 "SnowMules$World" "nodes" "LSnowMules$Table;" : Cond).before a s = true := kw (A := ixX9_bring) wt52 hts (by decide +kernel)
theorem kX9_bring_2 {a : Array Value} {s : State} (hts : ∀ w ∈ wsX9_bring, w.before a s = true) : (.constant RX9 73 (999999) : Cond).before a s = true := kw (A := ixX9_bring) wt645 hts (by decide +kernel)
theorem kX9_bring_3 {a : Array Value} {s : State} (hts : ∀ w ∈ wsX9_bring, w.before a s = true) : (.methodLink RX9 74 Lib.Math.min.name : Cond).before a s = true := kw (A := ixX9_bring) wt646 hts (by decide +kernel)
theorem kX9_bring_4 {a : Array Value} {s : State} (hts : ∀ w ∈ wsX9_bring, w.before a s = true) : (.static Lib.Math.min.name : Cond).before a s = true := kw (A := ixX9_bring) wt287 hts (by decide +kernel)
theorem kX9_bring_5 {a : Array Value} {s : State} (hts : ∀ w ∈ wsX9_bring, w.before a s = true) : (.initialized "java/lang/Math" : Cond).before a s = true := kw (A := ixX9_bring) wt66 hts (by decide +kernel)
theorem kX9_bring_6 {a : Array Value} {s : State} (hts : ∀ w ∈ wsX9_bring, w.before a s = true) : (.code Lib.Math.min.name Lib.Math.min.code 2 (some .int) : Cond).before a s = true := kw (A := ixX9_bring) wt288 hts (by decide +kernel)
theorem kX9_jarsAt_1 {a : Array Value} {s : State} (hts : ∀ w ∈ wsX9_jarsAt, w.before a s = true) : (.fieldLink RX9 23 "SnowMules$World" "jars" "LSnowMules$Table;" : Cond).before a s = true := kw (A := ixX9_jarsAt) wt54 hts (by decide +kernel)
theorem kX9_jarsAt_2 {a : Array Value} {s : State} (hts : ∀ w ∈ wsX9_jarsAt, w.before a s = true) : (.fieldLink RX9 60 "SnowMules$Table" "size" "I" : Cond).before a s = true := kw (A := ixX9_jarsAt) wt887 hts (by decide +kernel)
theorem kX9_jarsThatAre_1 {a : Array Value} {s : State} (hts : ∀ w ∈ wsX9_jarsThatAre, w.before a s = true) : (.fieldLink RX9 23 "SnowMules$World" "jars" "LSnowMules$Table;" : Cond).before a s = true := kw (A := ixX9_jarsThatAre) wt54 hts (by decide +kernel)
theorem kX9_jarsThatAre_2 {a : Array Value} {s : State} (hts : ∀ w ∈ wsX9_jarsThatAre, w.before a s = true) : (.fieldLink RX9 60 "SnowMules$Table" "size" "I" : Cond).before a s = true := kw (A := ixX9_jarsThatAre) wt887 hts (by decide +kernel)
theorem kX9_dropsOfAll_1 {a : Array Value} {s : State} (hts : ∀ w ∈ wsX9_dropsOfAll, w.before a s = true) : (.fieldLink RX9 23 "SnowMules$World" "jars" "LSnowMules$Table;" : Cond).before a s = true := kw (A := ixX9_dropsOfAll) wt54 hts (by decide +kernel)
theorem kX9_dropsOfAll_2 {a : Array Value} {s : State} (hts : ∀ w ∈ wsX9_dropsOfAll, w.before a s = true) : (.fieldLink RX9 60 "SnowMules$Table" "size" "I" : Cond).before a s = true := kw (A := ixX9_dropsOfAll) wt887 hts (by decide +kernel)
theorem kX9_dropsOfAll_3 {a : Array Value} {s : State} (hts : ∀ w ∈ wsX9_dropsOfAll, w.before a s = true) : (.fieldLink RX9 14 "SnowMules$World" "nodes" "LSnowMules$Table;" : Cond).before a s = true := kw (A := ixX9_dropsOfAll) wt52 hts (by decide +kernel)
theorem kX9_draw_1 {a : Array Value} {s : State} (hts : ∀ w ∈ wsX9_draw, w.before a s = true) : (.fieldLink RX9 49 "SnowMules$World" "x" "I" : Cond).before a s = true := kw (A := ixX9_draw) wt779 hts (by decide +kernel)
theorem kX9_draw_2 {a : Array Value} {s : State} (hts : ∀ w ∈ wsX9_draw, w.before a s = true) : (.constantLong RX9 83 (1103515245) : Cond).before a s = true := kw (A := ixX9_draw) wt780 hts (by decide +kernel)
theorem kX9_draw_3 {a : Array Value} {s : State} (hts : ∀ w ∈ wsX9_draw, w.before a s = true) : (.constantLong RX9 85 (12345) : Cond).before a s = true := kw (A := ixX9_draw) wt781 hts (by decide +kernel)
theorem kX9_draw_4 {a : Array Value} {s : State} (hts : ∀ w ∈ wsX9_draw, w.before a s = true) : (.constantLong RX9 87 (2147483647) : Cond).before a s = true := kw (A := ixX9_draw) wt782 hts (by decide +kernel)
theorem kX9_draw_5 {a : Array Value} {s : State} (hts : ∀ w ∈ wsX9_draw, w.before a s = true) : (.constant RX9 89 (65536) : Cond).before a s = true := kw (A := ixX9_draw) wt783 hts (by decide +kernel)
theorem kX9_copyFrom_1 {a : Array Value} {s : State} (hts : ∀ w ∈ wsX9_copyFrom, w.before a s = true) : (.fieldLink RX9 14 "SnowMules$World" "nodes" "LSnowMules$Table;" : Cond).before a s = true := kw (A := ixX9_copyFrom) wt52 hts (by decide +kernel)
theorem kX9_copyFrom_2 {a : Array Value} {s : State} (hts : ∀ w ∈ wsX9_copyFrom, w.before a s = true) : (.fieldLink RX9 20 "SnowMules$World" "passes" "LSnowMules$Table;" : Cond).before a s = true := kw (A := ixX9_copyFrom) wt53 hts (by decide +kernel)
theorem kX9_copyFrom_3 {a : Array Value} {s : State} (hts : ∀ w ∈ wsX9_copyFrom, w.before a s = true) : (.fieldLink RX9 23 "SnowMules$World" "jars" "LSnowMules$Table;" : Cond).before a s = true := kw (A := ixX9_copyFrom) wt54 hts (by decide +kernel)
theorem kX9_copyFrom_4 {a : Array Value} {s : State} (hts : ∀ w ∈ wsX9_copyFrom, w.before a s = true) : (.fieldLink RX9 26 "SnowMules$World" "orders" "LSnowMules$Table;" : Cond).before a s = true := kw (A := ixX9_copyFrom) wt55 hts (by decide +kernel)
theorem kX9_copyFrom_5 {a : Array Value} {s : State} (hts : ∀ w ∈ wsX9_copyFrom, w.before a s = true) : (.fieldLink RX9 29 "SnowMules$World" "feasts" "LSnowMules$Table;" : Cond).before a s = true := kw (A := ixX9_copyFrom) wt56 hts (by decide +kernel)
theorem kX9_copyFrom_6 {a : Array Value} {s : State} (hts : ∀ w ∈ wsX9_copyFrom, w.before a s = true) : (.fieldLink RX9 32 "SnowMules$World" "way" "LSnowMules$Table;" : Cond).before a s = true := kw (A := ixX9_copyFrom) wt57 hts (by decide +kernel)
theorem kX9_copyFrom_7 {a : Array Value} {s : State} (hts : ∀ w ∈ wsX9_copyFrom, w.before a s = true) : (.fieldLink RX9 35 "SnowMules$World" "wayStart" "I" : Cond).before a s = true := kw (A := ixX9_copyFrom) wt58 hts (by decide +kernel)
theorem kX9_copyFrom_8 {a : Array Value} {s : State} (hts : ∀ w ∈ wsX9_copyFrom, w.before a s = true) : (.fieldLink RX9 43 "SnowMules$World" "now" "I" : Cond).before a s = true := kw (A := ixX9_copyFrom) wt1363 hts (by decide +kernel)
theorem kX9_copyFrom_9 {a : Array Value} {s : State} (hts : ∀ w ∈ wsX9_copyFrom, w.before a s = true) : (.fieldLink RX9 46 "SnowMules$World" "firstMonth" "I" : Cond).before a s = true := kw (A := ixX9_copyFrom) wt602 hts (by decide +kernel)
theorem kX9_copyFrom_10 {a : Array Value} {s : State} (hts : ∀ w ∈ wsX9_copyFrom, w.before a s = true) : (.fieldLink RX9 49 "SnowMules$World" "x" "I" : Cond).before a s = true := kw (A := ixX9_copyFrom) wt779 hts (by decide +kernel)
theorem iX9_monthAt_X9 : ∀ w ∈ wsX90, w ∈ wsX9_monthAt := inW (A := ixX9_monthAt) uwX9 (by decide +kernel)
theorem iX9_hasSnow_X9 : ∀ w ∈ wsX90, w ∈ wsX9_hasSnow := inW (A := ixX9_hasSnow) uwX9 (by decide +kernel)
theorem iX9_otherEnd_X9 : ∀ w ∈ wsX90, w ∈ wsX9_otherEnd := inW (A := ixX9_otherEnd) uwX9 (by decide +kernel)
theorem iX9_wayEnd_X9 : ∀ w ∈ wsX90, w ∈ wsX9_wayEnd := inW (A := ixX9_wayEnd) uwX9 (by decide +kernel)
theorem iX9_wayEnd_X6 : ∀ w ∈ wsX60, w ∈ wsX9_wayEnd := inW (A := ixX9_wayEnd) uwX6 (by decide +kernel)
theorem iX9_wayHas_X9 : ∀ w ∈ wsX90, w ∈ wsX9_wayHas := inW (A := ixX9_wayHas) uwX9 (by decide +kernel)
theorem iX9_wayHas_X6 : ∀ w ∈ wsX60, w ∈ wsX9_wayHas := inW (A := ixX9_wayHas) uwX6 (by decide +kernel)
theorem iX9_nodeOf_X9 : ∀ w ∈ wsX90, w ∈ wsX9_nodeOf := inW (A := ixX9_nodeOf) uwX9 (by decide +kernel)
theorem iX9_standAt_X9 : ∀ w ∈ wsX90, w ∈ wsX9_standAt := inW (A := ixX9_standAt) uwX9 (by decide +kernel)
theorem iX9_lose_X9 : ∀ w ∈ wsX90, w ∈ wsX9_lose := inW (A := ixX9_lose) uwX9 (by decide +kernel)
theorem iX9_bring_X9 : ∀ w ∈ wsX90, w ∈ wsX9_bring := inW (A := ixX9_bring) uwX9 (by decide +kernel)
theorem iX9_jarsAt_X9 : ∀ w ∈ wsX90, w ∈ wsX9_jarsAt := inW (A := ixX9_jarsAt) uwX9 (by decide +kernel)
theorem iX9_jarsAt_X6 : ∀ w ∈ wsX60, w ∈ wsX9_jarsAt := inW (A := ixX9_jarsAt) uwX6 (by decide +kernel)
theorem iX9_jarsThatAre_X9 : ∀ w ∈ wsX90, w ∈ wsX9_jarsThatAre := inW (A := ixX9_jarsThatAre) uwX9 (by decide +kernel)
theorem iX9_jarsThatAre_X6 : ∀ w ∈ wsX60, w ∈ wsX9_jarsThatAre := inW (A := ixX9_jarsThatAre) uwX6 (by decide +kernel)
theorem iX9_dropsOfAll_X9 : ∀ w ∈ wsX90, w ∈ wsX9_dropsOfAll := inW (A := ixX9_dropsOfAll) uwX9 (by decide +kernel)
theorem iX9_dropsOfAll_X6 : ∀ w ∈ wsX60, w ∈ wsX9_dropsOfAll := inW (A := ixX9_dropsOfAll) uwX6 (by decide +kernel)
theorem iX9_draw_X9 : ∀ w ∈ wsX90, w ∈ wsX9_draw := inW (A := ixX9_draw) uwX9 (by decide +kernel)
theorem iX9_copyFrom_X9 : ∀ w ∈ wsX90, w ∈ wsX9_copyFrom := inW (A := ixX9_copyFrom) uwX9 (by decide +kernel)
theorem hdX6_get : yX6_get.cls ≠ "java/lang/invoke/MethodHandle" ∧ yX6_get.cls ≠ "java/lang/invoke/VarHandle" ∧ (parseMethodDescriptor yX6_get.desc).map (fun d => d.parameters.length) = some 2 := ⟨hdc_1.1, hdc_1.2, hdd_0⟩
theorem hdX6_has : yX6_has.cls ≠ "java/lang/invoke/MethodHandle" ∧ yX6_has.cls ≠ "java/lang/invoke/VarHandle" ∧ (parseMethodDescriptor yX6_has.desc).map (fun d => d.parameters.length) = some 1 := ⟨hdc_1.1, hdc_1.2, hdd_1⟩
theorem hdX9_otherEnd : yX9_otherEnd.cls ≠ "java/lang/invoke/MethodHandle" ∧ yX9_otherEnd.cls ≠ "java/lang/invoke/VarHandle" ∧ (parseMethodDescriptor yX9_otherEnd.desc).map (fun d => d.parameters.length) = some 2 := ⟨hdc_2.1, hdc_2.2, hdd_0⟩
theorem hdX6_put : yX6_put.cls ≠ "java/lang/invoke/MethodHandle" ∧ yX6_put.cls ≠ "java/lang/invoke/VarHandle" ∧ (parseMethodDescriptor yX6_put.desc).map (fun d => d.parameters.length) = some 3 := ⟨hdc_1.1, hdc_1.2, hdd_25⟩
theorem hdX9_standAt : yX9_standAt.cls ≠ "java/lang/invoke/MethodHandle" ∧ yX9_standAt.cls ≠ "java/lang/invoke/VarHandle" ∧ (parseMethodDescriptor yX9_standAt.desc).map (fun d => d.parameters.length) = some 2 := ⟨hdc_2.1, hdc_2.2, hdd_18⟩
theorem hdX9_jarsAt : yX9_jarsAt.cls ≠ "java/lang/invoke/MethodHandle" ∧ yX9_jarsAt.cls ≠ "java/lang/invoke/VarHandle" ∧ (parseMethodDescriptor yX9_jarsAt.desc).map (fun d => d.parameters.length) = some 1 := ⟨hdc_2.1, hdc_2.2, hdd_3⟩
theorem hdX6_copyFrom : yX6_copyFrom.cls ≠ "java/lang/invoke/MethodHandle" ∧ yX6_copyFrom.cls ≠ "java/lang/invoke/VarHandle" ∧ (parseMethodDescriptor yX6_copyFrom.desc).map (fun d => d.parameters.length) = some 1 := ⟨hdc_1.1, hdc_1.2, hdd_26⟩
def dtX9_monthAt_31_0 : List (Nat × Jvm.ClassFile.Instr × Nat) := [(0, .aload_n 0, 1), (1, .getfield 46, 3), (4, .iload_n 1, 1), (5, .bipush 24, 2), (7, .idiv, 1), (8, .bipush 30, 2), (10, .idiv, 1), (11, .iadd, 1), (12, .bipush 12, 2), (14, .irem, 1), (15, .ireturn, 1)]
theorem daX9_monthAt_31_0 : dtX9_monthAt_31_0.all (dqd cX9_monthAt) = true := by decide +kernel
theorem dX9_monthAt_0 : decode cX9_monthAt 0 = .ok (.aload_n 0, 1) := dq daX9_monthAt_31_0 0 rfl
theorem dX9_monthAt_1 : decode cX9_monthAt 1 = .ok (.getfield 46, 3) := dq daX9_monthAt_31_0 1 rfl
theorem dX9_monthAt_4 : decode cX9_monthAt 4 = .ok (.iload_n 1, 1) := dq daX9_monthAt_31_0 2 rfl
theorem dX9_monthAt_5 : decode cX9_monthAt 5 = .ok (.bipush 24, 2) := dq daX9_monthAt_31_0 3 rfl
theorem dX9_monthAt_7 : decode cX9_monthAt 7 = .ok (.idiv, 1) := dq daX9_monthAt_31_0 4 rfl
theorem dX9_monthAt_8 : decode cX9_monthAt 8 = .ok (.bipush 30, 2) := dq daX9_monthAt_31_0 5 rfl
theorem dX9_monthAt_10 : decode cX9_monthAt 10 = .ok (.idiv, 1) := dq daX9_monthAt_31_0 6 rfl
theorem dX9_monthAt_11 : decode cX9_monthAt 11 = .ok (.iadd, 1) := dq daX9_monthAt_31_0 7 rfl
theorem dX9_monthAt_12 : decode cX9_monthAt 12 = .ok (.bipush 12, 2) := dq daX9_monthAt_31_0 8 rfl
theorem dX9_monthAt_14 : decode cX9_monthAt 14 = .ok (.irem, 1) := dq daX9_monthAt_31_0 9 rfl
theorem dX9_monthAt_15 : decode cX9_monthAt 15 = .ok (.ireturn, 1) := dq daX9_monthAt_31_0 10 rfl
def dtX9_hasSnow_31_0 : List (Nat × Jvm.ClassFile.Instr × Nat) := [(0, .aload_n 0, 1), (1, .getfield 14, 3), (4, .iload_n 1, 1), (5, .iconst 1, 1), (6, .invokevirtual 52, 3), (9, .iload_n 2, 1), (10, .ishr, 1), (11, .iconst 1, 1), (12, .iand, 1), (13, .iconst 1, 1), (14, .if_icmp .ne 7, 3), (21, .iconst 0, 1), (22, .ireturn, 1), (17, .iconst 1, 1), (18, .goto 4, 3)]
theorem daX9_hasSnow_31_0 : dtX9_hasSnow_31_0.all (dqd cX9_hasSnow) = true := by decide +kernel
theorem dX9_hasSnow_0 : decode cX9_hasSnow 0 = .ok (.aload_n 0, 1) := dq daX9_hasSnow_31_0 0 rfl
theorem dX9_hasSnow_1 : decode cX9_hasSnow 1 = .ok (.getfield 14, 3) := dq daX9_hasSnow_31_0 1 rfl
theorem dX9_hasSnow_4 : decode cX9_hasSnow 4 = .ok (.iload_n 1, 1) := dq daX9_hasSnow_31_0 2 rfl
theorem dX9_hasSnow_5 : decode cX9_hasSnow 5 = .ok (.iconst 1, 1) := dq daX9_hasSnow_31_0 3 rfl
theorem dX9_hasSnow_6 : decode cX9_hasSnow 6 = .ok (.invokevirtual 52, 3) := dq daX9_hasSnow_31_0 4 rfl
theorem dX9_hasSnow_9 : decode cX9_hasSnow 9 = .ok (.iload_n 2, 1) := dq daX9_hasSnow_31_0 5 rfl
theorem dX9_hasSnow_10 : decode cX9_hasSnow 10 = .ok (.ishr, 1) := dq daX9_hasSnow_31_0 6 rfl
theorem dX9_hasSnow_11 : decode cX9_hasSnow 11 = .ok (.iconst 1, 1) := dq daX9_hasSnow_31_0 7 rfl
theorem dX9_hasSnow_12 : decode cX9_hasSnow 12 = .ok (.iand, 1) := dq daX9_hasSnow_31_0 8 rfl
theorem dX9_hasSnow_13 : decode cX9_hasSnow 13 = .ok (.iconst 1, 1) := dq daX9_hasSnow_31_0 9 rfl
theorem dX9_hasSnow_14 : decode cX9_hasSnow 14 = .ok (.if_icmp .ne 7, 3) := dq daX9_hasSnow_31_0 10 rfl
theorem dX9_hasSnow_21 : decode cX9_hasSnow 21 = .ok (.iconst 0, 1) := dq daX9_hasSnow_31_0 11 rfl
theorem dX9_hasSnow_22 : decode cX9_hasSnow 22 = .ok (.ireturn, 1) := dq daX9_hasSnow_31_0 12 rfl
theorem dX9_hasSnow_17 : decode cX9_hasSnow 17 = .ok (.iconst 1, 1) := dq daX9_hasSnow_31_0 13 rfl
theorem dX9_hasSnow_18 : decode cX9_hasSnow 18 = .ok (.goto 4, 3) := dq daX9_hasSnow_31_0 14 rfl
def dtX9_otherEnd_31_0 : List (Nat × Jvm.ClassFile.Instr × Nat) := [(0, .aload_n 0, 1), (1, .getfield 20, 3), (4, .iload_n 1, 1), (5, .invokevirtual 56, 3), (8, .ifCond .ne 5, 3), (13, .aload_n 0, 1), (14, .getfield 20, 3), (17, .iload_n 1, 1), (18, .iconst 0, 1), (19, .invokevirtual 52, 3), (22, .istore_n 3, 1), (23, .aload_n 0, 1), (24, .getfield 20, 3), (27, .iload_n 1, 1), (28, .iconst 1, 1), (29, .invokevirtual 52, 3), (32, .istore 4, 2), (34, .iload_n 2, 1), (35, .iload_n 3, 1), (36, .if_icmp .ne 6, 3), (42, .iload_n 2, 1), (43, .iload 4, 2), (45, .if_icmp .ne 7, 3), (52, .iconst (-1), 1), (53, .ireturn, 1), (48, .iload_n 3, 1), (49, .goto 4, 3), (39, .iload 4, 2), (41, .ireturn, 1), (11, .iconst (-1), 1), (12, .ireturn, 1)]
theorem daX9_otherEnd_31_0 : dtX9_otherEnd_31_0.all (dqd cX9_otherEnd) = true := by decide +kernel
theorem dX9_otherEnd_0 : decode cX9_otherEnd 0 = .ok (.aload_n 0, 1) := dq daX9_otherEnd_31_0 0 rfl
theorem dX9_otherEnd_1 : decode cX9_otherEnd 1 = .ok (.getfield 20, 3) := dq daX9_otherEnd_31_0 1 rfl
theorem dX9_otherEnd_4 : decode cX9_otherEnd 4 = .ok (.iload_n 1, 1) := dq daX9_otherEnd_31_0 2 rfl
theorem dX9_otherEnd_5 : decode cX9_otherEnd 5 = .ok (.invokevirtual 56, 3) := dq daX9_otherEnd_31_0 3 rfl
theorem dX9_otherEnd_8 : decode cX9_otherEnd 8 = .ok (.ifCond .ne 5, 3) := dq daX9_otherEnd_31_0 4 rfl
theorem dX9_otherEnd_13 : decode cX9_otherEnd 13 = .ok (.aload_n 0, 1) := dq daX9_otherEnd_31_0 5 rfl
theorem dX9_otherEnd_14 : decode cX9_otherEnd 14 = .ok (.getfield 20, 3) := dq daX9_otherEnd_31_0 6 rfl
theorem dX9_otherEnd_17 : decode cX9_otherEnd 17 = .ok (.iload_n 1, 1) := dq daX9_otherEnd_31_0 7 rfl
theorem dX9_otherEnd_18 : decode cX9_otherEnd 18 = .ok (.iconst 0, 1) := dq daX9_otherEnd_31_0 8 rfl
theorem dX9_otherEnd_19 : decode cX9_otherEnd 19 = .ok (.invokevirtual 52, 3) := dq daX9_otherEnd_31_0 9 rfl
theorem dX9_otherEnd_22 : decode cX9_otherEnd 22 = .ok (.istore_n 3, 1) := dq daX9_otherEnd_31_0 10 rfl
theorem dX9_otherEnd_23 : decode cX9_otherEnd 23 = .ok (.aload_n 0, 1) := dq daX9_otherEnd_31_0 11 rfl
theorem dX9_otherEnd_24 : decode cX9_otherEnd 24 = .ok (.getfield 20, 3) := dq daX9_otherEnd_31_0 12 rfl
theorem dX9_otherEnd_27 : decode cX9_otherEnd 27 = .ok (.iload_n 1, 1) := dq daX9_otherEnd_31_0 13 rfl
theorem dX9_otherEnd_28 : decode cX9_otherEnd 28 = .ok (.iconst 1, 1) := dq daX9_otherEnd_31_0 14 rfl
theorem dX9_otherEnd_29 : decode cX9_otherEnd 29 = .ok (.invokevirtual 52, 3) := dq daX9_otherEnd_31_0 15 rfl
theorem dX9_otherEnd_32 : decode cX9_otherEnd 32 = .ok (.istore 4, 2) := dq daX9_otherEnd_31_0 16 rfl
theorem dX9_otherEnd_34 : decode cX9_otherEnd 34 = .ok (.iload_n 2, 1) := dq daX9_otherEnd_31_0 17 rfl
theorem dX9_otherEnd_35 : decode cX9_otherEnd 35 = .ok (.iload_n 3, 1) := dq daX9_otherEnd_31_0 18 rfl
theorem dX9_otherEnd_36 : decode cX9_otherEnd 36 = .ok (.if_icmp .ne 6, 3) := dq daX9_otherEnd_31_0 19 rfl
theorem dX9_otherEnd_42 : decode cX9_otherEnd 42 = .ok (.iload_n 2, 1) := dq daX9_otherEnd_31_0 20 rfl
theorem dX9_otherEnd_43 : decode cX9_otherEnd 43 = .ok (.iload 4, 2) := dq daX9_otherEnd_31_0 21 rfl
theorem dX9_otherEnd_45 : decode cX9_otherEnd 45 = .ok (.if_icmp .ne 7, 3) := dq daX9_otherEnd_31_0 22 rfl
theorem dX9_otherEnd_52 : decode cX9_otherEnd 52 = .ok (.iconst (-1), 1) := dq daX9_otherEnd_31_0 23 rfl
theorem dX9_otherEnd_53 : decode cX9_otherEnd 53 = .ok (.ireturn, 1) := dq daX9_otherEnd_31_0 24 rfl
theorem dX9_otherEnd_48 : decode cX9_otherEnd 48 = .ok (.iload_n 3, 1) := dq daX9_otherEnd_31_0 25 rfl
theorem dX9_otherEnd_49 : decode cX9_otherEnd 49 = .ok (.goto 4, 3) := dq daX9_otherEnd_31_0 26 rfl
theorem dX9_otherEnd_39 : decode cX9_otherEnd 39 = .ok (.iload 4, 2) := dq daX9_otherEnd_31_0 27 rfl
theorem dX9_otherEnd_41 : decode cX9_otherEnd 41 = .ok (.ireturn, 1) := dq daX9_otherEnd_31_0 28 rfl
theorem dX9_otherEnd_11 : decode cX9_otherEnd 11 = .ok (.iconst (-1), 1) := dq daX9_otherEnd_31_0 29 rfl
theorem dX9_otherEnd_12 : decode cX9_otherEnd 12 = .ok (.ireturn, 1) := dq daX9_otherEnd_31_0 30 rfl
def dtX9_wayEnd_31_0 : List (Nat × Jvm.ClassFile.Instr × Nat) := [(0, .aload_n 0, 1), (1, .getfield 35, 3), (4, .istore_n 1, 1), (5, .iconst 0, 1), (6, .istore_n 2, 1), (7, .iload_n 2, 1), (8, .aload_n 0, 1), (9, .getfield 32, 3), (12, .getfield 60, 3), (15, .if_icmp .ge 24, 3), (18, .aload_n 0, 1), (19, .aload_n 0, 1), (20, .getfield 32, 3), (23, .iload_n 2, 1), (24, .iconst 0, 1), (25, .invokevirtual 52, 3), (28, .iload_n 1, 1), (29, .invokevirtual 63, 3), (32, .istore_n 1, 1), (33, .iinc 2 1, 3), (36, .goto (-29), 3), (39, .iload_n 1, 1), (40, .ireturn, 1)]
theorem daX9_wayEnd_31_0 : dtX9_wayEnd_31_0.all (dqd cX9_wayEnd) = true := by decide +kernel
theorem dX9_wayEnd_0 : decode cX9_wayEnd 0 = .ok (.aload_n 0, 1) := dq daX9_wayEnd_31_0 0 rfl
theorem dX9_wayEnd_1 : decode cX9_wayEnd 1 = .ok (.getfield 35, 3) := dq daX9_wayEnd_31_0 1 rfl
theorem dX9_wayEnd_4 : decode cX9_wayEnd 4 = .ok (.istore_n 1, 1) := dq daX9_wayEnd_31_0 2 rfl
theorem dX9_wayEnd_5 : decode cX9_wayEnd 5 = .ok (.iconst 0, 1) := dq daX9_wayEnd_31_0 3 rfl
theorem dX9_wayEnd_6 : decode cX9_wayEnd 6 = .ok (.istore_n 2, 1) := dq daX9_wayEnd_31_0 4 rfl
theorem dX9_wayEnd_7 : decode cX9_wayEnd 7 = .ok (.iload_n 2, 1) := dq daX9_wayEnd_31_0 5 rfl
theorem dX9_wayEnd_8 : decode cX9_wayEnd 8 = .ok (.aload_n 0, 1) := dq daX9_wayEnd_31_0 6 rfl
theorem dX9_wayEnd_9 : decode cX9_wayEnd 9 = .ok (.getfield 32, 3) := dq daX9_wayEnd_31_0 7 rfl
theorem dX9_wayEnd_12 : decode cX9_wayEnd 12 = .ok (.getfield 60, 3) := dq daX9_wayEnd_31_0 8 rfl
theorem dX9_wayEnd_15 : decode cX9_wayEnd 15 = .ok (.if_icmp .ge 24, 3) := dq daX9_wayEnd_31_0 9 rfl
theorem dX9_wayEnd_18 : decode cX9_wayEnd 18 = .ok (.aload_n 0, 1) := dq daX9_wayEnd_31_0 10 rfl
theorem dX9_wayEnd_19 : decode cX9_wayEnd 19 = .ok (.aload_n 0, 1) := dq daX9_wayEnd_31_0 11 rfl
theorem dX9_wayEnd_20 : decode cX9_wayEnd 20 = .ok (.getfield 32, 3) := dq daX9_wayEnd_31_0 12 rfl
theorem dX9_wayEnd_23 : decode cX9_wayEnd 23 = .ok (.iload_n 2, 1) := dq daX9_wayEnd_31_0 13 rfl
theorem dX9_wayEnd_24 : decode cX9_wayEnd 24 = .ok (.iconst 0, 1) := dq daX9_wayEnd_31_0 14 rfl
theorem dX9_wayEnd_25 : decode cX9_wayEnd 25 = .ok (.invokevirtual 52, 3) := dq daX9_wayEnd_31_0 15 rfl
theorem dX9_wayEnd_28 : decode cX9_wayEnd 28 = .ok (.iload_n 1, 1) := dq daX9_wayEnd_31_0 16 rfl
theorem dX9_wayEnd_29 : decode cX9_wayEnd 29 = .ok (.invokevirtual 63, 3) := dq daX9_wayEnd_31_0 17 rfl
theorem dX9_wayEnd_32 : decode cX9_wayEnd 32 = .ok (.istore_n 1, 1) := dq daX9_wayEnd_31_0 18 rfl
theorem dX9_wayEnd_33 : decode cX9_wayEnd 33 = .ok (.iinc 2 1, 3) := dq daX9_wayEnd_31_0 19 rfl
theorem dX9_wayEnd_36 : decode cX9_wayEnd 36 = .ok (.goto (-29), 3) := dq daX9_wayEnd_31_0 20 rfl
theorem dX9_wayEnd_39 : decode cX9_wayEnd 39 = .ok (.iload_n 1, 1) := dq daX9_wayEnd_31_0 21 rfl
theorem dX9_wayEnd_40 : decode cX9_wayEnd 40 = .ok (.ireturn, 1) := dq daX9_wayEnd_31_0 22 rfl
def dtX9_wayHas_31_0 : List (Nat × Jvm.ClassFile.Instr × Nat) := [(0, .aload_n 0, 1), (1, .getfield 35, 3), (4, .istore_n 2, 1), (5, .iconst 0, 1), (6, .istore_n 3, 1), (7, .iload_n 3, 1), (8, .aload_n 0, 1), (9, .getfield 32, 3), (12, .getfield 60, 3), (15, .if_icmp .ge 29, 3), (18, .iload_n 2, 1), (19, .iload_n 1, 1), (20, .if_icmp .eq 24, 3), (23, .aload_n 0, 1), (24, .aload_n 0, 1), (25, .getfield 32, 3), (28, .iload_n 3, 1), (29, .iconst 0, 1), (30, .invokevirtual 52, 3), (33, .iload_n 2, 1), (34, .invokevirtual 63, 3), (37, .istore_n 2, 1), (38, .iinc 3 1, 3), (41, .goto (-34), 3), (44, .iload_n 2, 1), (45, .iload_n 1, 1), (46, .if_icmp .ne 7, 3), (53, .iconst 0, 1), (54, .ireturn, 1), (49, .iconst 1, 1), (50, .goto 4, 3)]
theorem daX9_wayHas_31_0 : dtX9_wayHas_31_0.all (dqd cX9_wayHas) = true := by decide +kernel
theorem dX9_wayHas_0 : decode cX9_wayHas 0 = .ok (.aload_n 0, 1) := dq daX9_wayHas_31_0 0 rfl
theorem dX9_wayHas_1 : decode cX9_wayHas 1 = .ok (.getfield 35, 3) := dq daX9_wayHas_31_0 1 rfl
theorem dX9_wayHas_4 : decode cX9_wayHas 4 = .ok (.istore_n 2, 1) := dq daX9_wayHas_31_0 2 rfl
theorem dX9_wayHas_5 : decode cX9_wayHas 5 = .ok (.iconst 0, 1) := dq daX9_wayHas_31_0 3 rfl
theorem dX9_wayHas_6 : decode cX9_wayHas 6 = .ok (.istore_n 3, 1) := dq daX9_wayHas_31_0 4 rfl
theorem dX9_wayHas_7 : decode cX9_wayHas 7 = .ok (.iload_n 3, 1) := dq daX9_wayHas_31_0 5 rfl
theorem dX9_wayHas_8 : decode cX9_wayHas 8 = .ok (.aload_n 0, 1) := dq daX9_wayHas_31_0 6 rfl
theorem dX9_wayHas_9 : decode cX9_wayHas 9 = .ok (.getfield 32, 3) := dq daX9_wayHas_31_0 7 rfl
theorem dX9_wayHas_12 : decode cX9_wayHas 12 = .ok (.getfield 60, 3) := dq daX9_wayHas_31_0 8 rfl
theorem dX9_wayHas_15 : decode cX9_wayHas 15 = .ok (.if_icmp .ge 29, 3) := dq daX9_wayHas_31_0 9 rfl
theorem dX9_wayHas_18 : decode cX9_wayHas 18 = .ok (.iload_n 2, 1) := dq daX9_wayHas_31_0 10 rfl
theorem dX9_wayHas_19 : decode cX9_wayHas 19 = .ok (.iload_n 1, 1) := dq daX9_wayHas_31_0 11 rfl
theorem dX9_wayHas_20 : decode cX9_wayHas 20 = .ok (.if_icmp .eq 24, 3) := dq daX9_wayHas_31_0 12 rfl
theorem dX9_wayHas_23 : decode cX9_wayHas 23 = .ok (.aload_n 0, 1) := dq daX9_wayHas_31_0 13 rfl
theorem dX9_wayHas_24 : decode cX9_wayHas 24 = .ok (.aload_n 0, 1) := dq daX9_wayHas_31_0 14 rfl
theorem dX9_wayHas_25 : decode cX9_wayHas 25 = .ok (.getfield 32, 3) := dq daX9_wayHas_31_0 15 rfl
theorem dX9_wayHas_28 : decode cX9_wayHas 28 = .ok (.iload_n 3, 1) := dq daX9_wayHas_31_0 16 rfl
theorem dX9_wayHas_29 : decode cX9_wayHas 29 = .ok (.iconst 0, 1) := dq daX9_wayHas_31_0 17 rfl
theorem dX9_wayHas_30 : decode cX9_wayHas 30 = .ok (.invokevirtual 52, 3) := dq daX9_wayHas_31_0 18 rfl
theorem dX9_wayHas_33 : decode cX9_wayHas 33 = .ok (.iload_n 2, 1) := dq daX9_wayHas_31_0 19 rfl
theorem dX9_wayHas_34 : decode cX9_wayHas 34 = .ok (.invokevirtual 63, 3) := dq daX9_wayHas_31_0 20 rfl
theorem dX9_wayHas_37 : decode cX9_wayHas 37 = .ok (.istore_n 2, 1) := dq daX9_wayHas_31_0 21 rfl
theorem dX9_wayHas_38 : decode cX9_wayHas 38 = .ok (.iinc 3 1, 3) := dq daX9_wayHas_31_0 22 rfl
theorem dX9_wayHas_41 : decode cX9_wayHas 41 = .ok (.goto (-34), 3) := dq daX9_wayHas_31_0 23 rfl
theorem dX9_wayHas_44 : decode cX9_wayHas 44 = .ok (.iload_n 2, 1) := dq daX9_wayHas_31_0 24 rfl
theorem dX9_wayHas_45 : decode cX9_wayHas 45 = .ok (.iload_n 1, 1) := dq daX9_wayHas_31_0 25 rfl
theorem dX9_wayHas_46 : decode cX9_wayHas 46 = .ok (.if_icmp .ne 7, 3) := dq daX9_wayHas_31_0 26 rfl
theorem dX9_wayHas_53 : decode cX9_wayHas 53 = .ok (.iconst 0, 1) := dq daX9_wayHas_31_0 27 rfl
theorem dX9_wayHas_54 : decode cX9_wayHas 54 = .ok (.ireturn, 1) := dq daX9_wayHas_31_0 28 rfl
theorem dX9_wayHas_49 : decode cX9_wayHas 49 = .ok (.iconst 1, 1) := dq daX9_wayHas_31_0 29 rfl
theorem dX9_wayHas_50 : decode cX9_wayHas 50 = .ok (.goto 4, 3) := dq daX9_wayHas_31_0 30 rfl
def dtX9_nodeOf_31_0 : List (Nat × Jvm.ClassFile.Instr × Nat) := [(0, .aload_n 0, 1), (1, .getfield 23, 3), (4, .iload_n 1, 1), (5, .invokevirtual 56, 3), (8, .ifCond .eq 15, 3), (23, .bipush 13, 2), (25, .istore_n 2, 1), (26, .iload_n 2, 1), (27, .bipush 12, 2), (29, .if_icmp .ge 7, 3), (36, .iconst (-1), 1), (37, .ireturn, 1), (11, .aload_n 0, 1), (12, .getfield 23, 3), (15, .iload_n 1, 1), (16, .iconst 1, 1), (17, .invokevirtual 52, 3), (20, .goto 5, 3), (32, .iload_n 2, 1), (33, .goto 4, 3)]
theorem daX9_nodeOf_31_0 : dtX9_nodeOf_31_0.all (dqd cX9_nodeOf) = true := by decide +kernel
theorem dX9_nodeOf_0 : decode cX9_nodeOf 0 = .ok (.aload_n 0, 1) := dq daX9_nodeOf_31_0 0 rfl
theorem dX9_nodeOf_1 : decode cX9_nodeOf 1 = .ok (.getfield 23, 3) := dq daX9_nodeOf_31_0 1 rfl
theorem dX9_nodeOf_4 : decode cX9_nodeOf 4 = .ok (.iload_n 1, 1) := dq daX9_nodeOf_31_0 2 rfl
theorem dX9_nodeOf_5 : decode cX9_nodeOf 5 = .ok (.invokevirtual 56, 3) := dq daX9_nodeOf_31_0 3 rfl
theorem dX9_nodeOf_8 : decode cX9_nodeOf 8 = .ok (.ifCond .eq 15, 3) := dq daX9_nodeOf_31_0 4 rfl
theorem dX9_nodeOf_23 : decode cX9_nodeOf 23 = .ok (.bipush 13, 2) := dq daX9_nodeOf_31_0 5 rfl
theorem dX9_nodeOf_25 : decode cX9_nodeOf 25 = .ok (.istore_n 2, 1) := dq daX9_nodeOf_31_0 6 rfl
theorem dX9_nodeOf_26 : decode cX9_nodeOf 26 = .ok (.iload_n 2, 1) := dq daX9_nodeOf_31_0 7 rfl
theorem dX9_nodeOf_27 : decode cX9_nodeOf 27 = .ok (.bipush 12, 2) := dq daX9_nodeOf_31_0 8 rfl
theorem dX9_nodeOf_29 : decode cX9_nodeOf 29 = .ok (.if_icmp .ge 7, 3) := dq daX9_nodeOf_31_0 9 rfl
theorem dX9_nodeOf_36 : decode cX9_nodeOf 36 = .ok (.iconst (-1), 1) := dq daX9_nodeOf_31_0 10 rfl
theorem dX9_nodeOf_37 : decode cX9_nodeOf 37 = .ok (.ireturn, 1) := dq daX9_nodeOf_31_0 11 rfl
theorem dX9_nodeOf_11 : decode cX9_nodeOf 11 = .ok (.aload_n 0, 1) := dq daX9_nodeOf_31_0 12 rfl
theorem dX9_nodeOf_12 : decode cX9_nodeOf 12 = .ok (.getfield 23, 3) := dq daX9_nodeOf_31_0 13 rfl
theorem dX9_nodeOf_15 : decode cX9_nodeOf 15 = .ok (.iload_n 1, 1) := dq daX9_nodeOf_31_0 14 rfl
theorem dX9_nodeOf_16 : decode cX9_nodeOf 16 = .ok (.iconst 1, 1) := dq daX9_nodeOf_31_0 15 rfl
theorem dX9_nodeOf_17 : decode cX9_nodeOf 17 = .ok (.invokevirtual 52, 3) := dq daX9_nodeOf_31_0 16 rfl
theorem dX9_nodeOf_20 : decode cX9_nodeOf 20 = .ok (.goto 5, 3) := dq daX9_nodeOf_31_0 17 rfl
theorem dX9_nodeOf_32 : decode cX9_nodeOf 32 = .ok (.iload_n 2, 1) := dq daX9_nodeOf_31_0 18 rfl
theorem dX9_nodeOf_33 : decode cX9_nodeOf 33 = .ok (.goto 4, 3) := dq daX9_nodeOf_31_0 19 rfl
def dtX9_standAt_31_0 : List (Nat × Jvm.ClassFile.Instr × Nat) := [(0, .aload_n 0, 1), (1, .getfield 23, 3), (4, .iload_n 1, 1), (5, .iconst 1, 1), (6, .iload_n 2, 1), (7, .invokevirtual 66, 3), (10, .aload_n 0, 1), (11, .getfield 23, 3), (14, .iload_n 1, 1), (15, .iconst 2, 1), (16, .iconst (-1), 1), (17, .invokevirtual 66, 3), (20, .aload_n 0, 1), (21, .getfield 23, 3), (24, .iload_n 1, 1), (25, .iconst 3, 1), (26, .iconst 0, 1), (27, .invokevirtual 66, 3), (30, .aload_n 0, 1), (31, .getfield 23, 3), (34, .iload_n 1, 1), (35, .iconst 4, 1), (36, .iconst (-1), 1), (37, .invokevirtual 66, 3), (40, .return_, 1)]
theorem daX9_standAt_31_0 : dtX9_standAt_31_0.all (dqd cX9_standAt) = true := by decide +kernel
theorem dX9_standAt_0 : decode cX9_standAt 0 = .ok (.aload_n 0, 1) := dq daX9_standAt_31_0 0 rfl
theorem dX9_standAt_1 : decode cX9_standAt 1 = .ok (.getfield 23, 3) := dq daX9_standAt_31_0 1 rfl
theorem dX9_standAt_4 : decode cX9_standAt 4 = .ok (.iload_n 1, 1) := dq daX9_standAt_31_0 2 rfl
theorem dX9_standAt_5 : decode cX9_standAt 5 = .ok (.iconst 1, 1) := dq daX9_standAt_31_0 3 rfl
theorem dX9_standAt_6 : decode cX9_standAt 6 = .ok (.iload_n 2, 1) := dq daX9_standAt_31_0 4 rfl
theorem dX9_standAt_7 : decode cX9_standAt 7 = .ok (.invokevirtual 66, 3) := dq daX9_standAt_31_0 5 rfl
theorem dX9_standAt_10 : decode cX9_standAt 10 = .ok (.aload_n 0, 1) := dq daX9_standAt_31_0 6 rfl
theorem dX9_standAt_11 : decode cX9_standAt 11 = .ok (.getfield 23, 3) := dq daX9_standAt_31_0 7 rfl
theorem dX9_standAt_14 : decode cX9_standAt 14 = .ok (.iload_n 1, 1) := dq daX9_standAt_31_0 8 rfl
theorem dX9_standAt_15 : decode cX9_standAt 15 = .ok (.iconst 2, 1) := dq daX9_standAt_31_0 9 rfl
theorem dX9_standAt_16 : decode cX9_standAt 16 = .ok (.iconst (-1), 1) := dq daX9_standAt_31_0 10 rfl
theorem dX9_standAt_17 : decode cX9_standAt 17 = .ok (.invokevirtual 66, 3) := dq daX9_standAt_31_0 11 rfl
theorem dX9_standAt_20 : decode cX9_standAt 20 = .ok (.aload_n 0, 1) := dq daX9_standAt_31_0 12 rfl
theorem dX9_standAt_21 : decode cX9_standAt 21 = .ok (.getfield 23, 3) := dq daX9_standAt_31_0 13 rfl
theorem dX9_standAt_24 : decode cX9_standAt 24 = .ok (.iload_n 1, 1) := dq daX9_standAt_31_0 14 rfl
theorem dX9_standAt_25 : decode cX9_standAt 25 = .ok (.iconst 3, 1) := dq daX9_standAt_31_0 15 rfl
theorem dX9_standAt_26 : decode cX9_standAt 26 = .ok (.iconst 0, 1) := dq daX9_standAt_31_0 16 rfl
theorem dX9_standAt_27 : decode cX9_standAt 27 = .ok (.invokevirtual 66, 3) := dq daX9_standAt_31_0 17 rfl
theorem dX9_standAt_30 : decode cX9_standAt 30 = .ok (.aload_n 0, 1) := dq daX9_standAt_31_0 18 rfl
theorem dX9_standAt_31 : decode cX9_standAt 31 = .ok (.getfield 23, 3) := dq daX9_standAt_31_0 19 rfl
theorem dX9_standAt_34 : decode cX9_standAt 34 = .ok (.iload_n 1, 1) := dq daX9_standAt_31_0 20 rfl
theorem dX9_standAt_35 : decode cX9_standAt 35 = .ok (.iconst 4, 1) := dq daX9_standAt_31_0 21 rfl
theorem dX9_standAt_36 : decode cX9_standAt 36 = .ok (.iconst (-1), 1) := dq daX9_standAt_31_0 22 rfl
theorem dX9_standAt_37 : decode cX9_standAt 37 = .ok (.invokevirtual 66, 3) := dq daX9_standAt_31_0 23 rfl
theorem dX9_standAt_40 : decode cX9_standAt 40 = .ok (.return_, 1) := dq daX9_standAt_31_0 24 rfl
def dtX9_lose_31_0 : List (Nat × Jvm.ClassFile.Instr × Nat) := [(0, .aload_n 0, 1), (1, .iload_n 1, 1), (2, .bipush 13, 2), (4, .invokevirtual 70, 3), (7, .aload_n 0, 1), (8, .getfield 23, 3), (11, .iload_n 1, 1), (12, .iconst 0, 1), (13, .iconst 0, 1), (14, .invokevirtual 66, 3), (17, .return_, 1)]
theorem daX9_lose_31_0 : dtX9_lose_31_0.all (dqd cX9_lose) = true := by decide +kernel
theorem dX9_lose_0 : decode cX9_lose 0 = .ok (.aload_n 0, 1) := dq daX9_lose_31_0 0 rfl
theorem dX9_lose_1 : decode cX9_lose 1 = .ok (.iload_n 1, 1) := dq daX9_lose_31_0 1 rfl
theorem dX9_lose_2 : decode cX9_lose 2 = .ok (.bipush 13, 2) := dq daX9_lose_31_0 2 rfl
theorem dX9_lose_4 : decode cX9_lose 4 = .ok (.invokevirtual 70, 3) := dq daX9_lose_31_0 3 rfl
theorem dX9_lose_7 : decode cX9_lose 7 = .ok (.aload_n 0, 1) := dq daX9_lose_31_0 4 rfl
theorem dX9_lose_8 : decode cX9_lose 8 = .ok (.getfield 23, 3) := dq daX9_lose_31_0 5 rfl
theorem dX9_lose_11 : decode cX9_lose 11 = .ok (.iload_n 1, 1) := dq daX9_lose_31_0 6 rfl
theorem dX9_lose_12 : decode cX9_lose 12 = .ok (.iconst 0, 1) := dq daX9_lose_31_0 7 rfl
theorem dX9_lose_13 : decode cX9_lose 13 = .ok (.iconst 0, 1) := dq daX9_lose_31_0 8 rfl
theorem dX9_lose_14 : decode cX9_lose 14 = .ok (.invokevirtual 66, 3) := dq daX9_lose_31_0 9 rfl
theorem dX9_lose_17 : decode cX9_lose 17 = .ok (.return_, 1) := dq daX9_lose_31_0 10 rfl
def dtX9_bring_31_0 : List (Nat × Jvm.ClassFile.Instr × Nat) := [(0, .aload_n 0, 1), (1, .getfield 14, 3), (4, .iload_n 1, 1), (5, .iconst 3, 1), (6, .invokevirtual 52, 3), (9, .istore_n 3, 1), (10, .iload_n 2, 1), (11, .ldc 73, 2), (13, .iload_n 3, 1), (14, .isub, 1), (15, .invokestatic 74, 3), (18, .istore 4, 2), (20, .aload_n 0, 1), (21, .getfield 14, 3), (24, .iload_n 1, 1), (25, .iconst 3, 1), (26, .iload_n 3, 1), (27, .iload 4, 2), (29, .iadd, 1), (30, .invokevirtual 66, 3), (33, .iload 4, 2), (35, .ireturn, 1)]
theorem daX9_bring_31_0 : dtX9_bring_31_0.all (dqd cX9_bring) = true := by decide +kernel
theorem dX9_bring_0 : decode cX9_bring 0 = .ok (.aload_n 0, 1) := dq daX9_bring_31_0 0 rfl
theorem dX9_bring_1 : decode cX9_bring 1 = .ok (.getfield 14, 3) := dq daX9_bring_31_0 1 rfl
theorem dX9_bring_4 : decode cX9_bring 4 = .ok (.iload_n 1, 1) := dq daX9_bring_31_0 2 rfl
theorem dX9_bring_5 : decode cX9_bring 5 = .ok (.iconst 3, 1) := dq daX9_bring_31_0 3 rfl
theorem dX9_bring_6 : decode cX9_bring 6 = .ok (.invokevirtual 52, 3) := dq daX9_bring_31_0 4 rfl
theorem dX9_bring_9 : decode cX9_bring 9 = .ok (.istore_n 3, 1) := dq daX9_bring_31_0 5 rfl
theorem dX9_bring_10 : decode cX9_bring 10 = .ok (.iload_n 2, 1) := dq daX9_bring_31_0 6 rfl
theorem dX9_bring_11 : decode cX9_bring 11 = .ok (.ldc 73, 2) := dq daX9_bring_31_0 7 rfl
theorem dX9_bring_13 : decode cX9_bring 13 = .ok (.iload_n 3, 1) := dq daX9_bring_31_0 8 rfl
theorem dX9_bring_14 : decode cX9_bring 14 = .ok (.isub, 1) := dq daX9_bring_31_0 9 rfl
theorem dX9_bring_15 : decode cX9_bring 15 = .ok (.invokestatic 74, 3) := dq daX9_bring_31_0 10 rfl
theorem dX9_bring_18 : decode cX9_bring 18 = .ok (.istore 4, 2) := dq daX9_bring_31_0 11 rfl
theorem dX9_bring_20 : decode cX9_bring 20 = .ok (.aload_n 0, 1) := dq daX9_bring_31_0 12 rfl
theorem dX9_bring_21 : decode cX9_bring 21 = .ok (.getfield 14, 3) := dq daX9_bring_31_0 13 rfl
theorem dX9_bring_24 : decode cX9_bring 24 = .ok (.iload_n 1, 1) := dq daX9_bring_31_0 14 rfl
theorem dX9_bring_25 : decode cX9_bring 25 = .ok (.iconst 3, 1) := dq daX9_bring_31_0 15 rfl
theorem dX9_bring_26 : decode cX9_bring 26 = .ok (.iload_n 3, 1) := dq daX9_bring_31_0 16 rfl
theorem dX9_bring_27 : decode cX9_bring 27 = .ok (.iload 4, 2) := dq daX9_bring_31_0 17 rfl
theorem dX9_bring_29 : decode cX9_bring 29 = .ok (.iadd, 1) := dq daX9_bring_31_0 18 rfl
theorem dX9_bring_30 : decode cX9_bring 30 = .ok (.invokevirtual 66, 3) := dq daX9_bring_31_0 19 rfl
theorem dX9_bring_33 : decode cX9_bring 33 = .ok (.iload 4, 2) := dq daX9_bring_31_0 20 rfl
theorem dX9_bring_35 : decode cX9_bring 35 = .ok (.ireturn, 1) := dq daX9_bring_31_0 21 rfl
def dtX9_jarsAt_31_0 : List (Nat × Jvm.ClassFile.Instr × Nat) := [(0, .iconst 0, 1), (1, .istore_n 2, 1), (2, .iconst 0, 1), (3, .istore_n 3, 1), (4, .iload_n 3, 1), (5, .aload_n 0, 1), (6, .getfield 23, 3), (9, .getfield 60, 3), (12, .if_icmp .ge 25, 3), (15, .aload_n 0, 1), (16, .getfield 23, 3), (19, .iload_n 3, 1), (20, .iconst 1, 1), (21, .invokevirtual 52, 3), (24, .iload_n 1, 1), (25, .if_icmp .ne 6, 3), (31, .iinc 3 1, 3), (34, .goto (-30), 3), (28, .iinc 2 1, 3), (37, .iload_n 2, 1), (38, .ireturn, 1)]
theorem daX9_jarsAt_31_0 : dtX9_jarsAt_31_0.all (dqd cX9_jarsAt) = true := by decide +kernel
theorem dX9_jarsAt_0 : decode cX9_jarsAt 0 = .ok (.iconst 0, 1) := dq daX9_jarsAt_31_0 0 rfl
theorem dX9_jarsAt_1 : decode cX9_jarsAt 1 = .ok (.istore_n 2, 1) := dq daX9_jarsAt_31_0 1 rfl
theorem dX9_jarsAt_2 : decode cX9_jarsAt 2 = .ok (.iconst 0, 1) := dq daX9_jarsAt_31_0 2 rfl
theorem dX9_jarsAt_3 : decode cX9_jarsAt 3 = .ok (.istore_n 3, 1) := dq daX9_jarsAt_31_0 3 rfl
theorem dX9_jarsAt_4 : decode cX9_jarsAt 4 = .ok (.iload_n 3, 1) := dq daX9_jarsAt_31_0 4 rfl
theorem dX9_jarsAt_5 : decode cX9_jarsAt 5 = .ok (.aload_n 0, 1) := dq daX9_jarsAt_31_0 5 rfl
theorem dX9_jarsAt_6 : decode cX9_jarsAt 6 = .ok (.getfield 23, 3) := dq daX9_jarsAt_31_0 6 rfl
theorem dX9_jarsAt_9 : decode cX9_jarsAt 9 = .ok (.getfield 60, 3) := dq daX9_jarsAt_31_0 7 rfl
theorem dX9_jarsAt_12 : decode cX9_jarsAt 12 = .ok (.if_icmp .ge 25, 3) := dq daX9_jarsAt_31_0 8 rfl
theorem dX9_jarsAt_15 : decode cX9_jarsAt 15 = .ok (.aload_n 0, 1) := dq daX9_jarsAt_31_0 9 rfl
theorem dX9_jarsAt_16 : decode cX9_jarsAt 16 = .ok (.getfield 23, 3) := dq daX9_jarsAt_31_0 10 rfl
theorem dX9_jarsAt_19 : decode cX9_jarsAt 19 = .ok (.iload_n 3, 1) := dq daX9_jarsAt_31_0 11 rfl
theorem dX9_jarsAt_20 : decode cX9_jarsAt 20 = .ok (.iconst 1, 1) := dq daX9_jarsAt_31_0 12 rfl
theorem dX9_jarsAt_21 : decode cX9_jarsAt 21 = .ok (.invokevirtual 52, 3) := dq daX9_jarsAt_31_0 13 rfl
theorem dX9_jarsAt_24 : decode cX9_jarsAt 24 = .ok (.iload_n 1, 1) := dq daX9_jarsAt_31_0 14 rfl
theorem dX9_jarsAt_25 : decode cX9_jarsAt 25 = .ok (.if_icmp .ne 6, 3) := dq daX9_jarsAt_31_0 15 rfl
theorem dX9_jarsAt_31 : decode cX9_jarsAt 31 = .ok (.iinc 3 1, 3) := dq daX9_jarsAt_31_0 16 rfl
theorem dX9_jarsAt_34 : decode cX9_jarsAt 34 = .ok (.goto (-30), 3) := dq daX9_jarsAt_31_0 17 rfl
theorem dX9_jarsAt_28 : decode cX9_jarsAt 28 = .ok (.iinc 2 1, 3) := dq daX9_jarsAt_31_0 18 rfl
theorem dX9_jarsAt_37 : decode cX9_jarsAt 37 = .ok (.iload_n 2, 1) := dq daX9_jarsAt_31_0 19 rfl
theorem dX9_jarsAt_38 : decode cX9_jarsAt 38 = .ok (.ireturn, 1) := dq daX9_jarsAt_31_0 20 rfl
def dtX9_jarsThatAre_31_0 : List (Nat × Jvm.ClassFile.Instr × Nat) := [(0, .aload_n 0, 1), (1, .getfield 23, 3), (4, .getfield 60, 3), (7, .aload_n 0, 1), (8, .bipush 13, 2), (10, .invokevirtual 79, 3), (13, .isub, 1), (14, .ireturn, 1)]
theorem daX9_jarsThatAre_31_0 : dtX9_jarsThatAre_31_0.all (dqd cX9_jarsThatAre) = true := by decide +kernel
theorem dX9_jarsThatAre_0 : decode cX9_jarsThatAre 0 = .ok (.aload_n 0, 1) := dq daX9_jarsThatAre_31_0 0 rfl
theorem dX9_jarsThatAre_1 : decode cX9_jarsThatAre 1 = .ok (.getfield 23, 3) := dq daX9_jarsThatAre_31_0 1 rfl
theorem dX9_jarsThatAre_4 : decode cX9_jarsThatAre 4 = .ok (.getfield 60, 3) := dq daX9_jarsThatAre_31_0 2 rfl
theorem dX9_jarsThatAre_7 : decode cX9_jarsThatAre 7 = .ok (.aload_n 0, 1) := dq daX9_jarsThatAre_31_0 3 rfl
theorem dX9_jarsThatAre_8 : decode cX9_jarsThatAre 8 = .ok (.bipush 13, 2) := dq daX9_jarsThatAre_31_0 4 rfl
theorem dX9_jarsThatAre_10 : decode cX9_jarsThatAre 10 = .ok (.invokevirtual 79, 3) := dq daX9_jarsThatAre_31_0 5 rfl
theorem dX9_jarsThatAre_13 : decode cX9_jarsThatAre 13 = .ok (.isub, 1) := dq daX9_jarsThatAre_31_0 6 rfl
theorem dX9_jarsThatAre_14 : decode cX9_jarsThatAre 14 = .ok (.ireturn, 1) := dq daX9_jarsThatAre_31_0 7 rfl
def dtX9_dropsOfAll_31_0 : List (Nat × Jvm.ClassFile.Instr × Nat) := [(0, .iconst 0, 1), (1, .istore_n 1, 1), (2, .iconst 0, 1), (3, .istore_n 2, 1), (4, .iload_n 2, 1), (5, .aload_n 0, 1), (6, .getfield 23, 3), (9, .getfield 60, 3), (12, .if_icmp .ge 21, 3), (15, .iload_n 1, 1), (16, .aload_n 0, 1), (17, .getfield 23, 3), (20, .iload_n 2, 1), (21, .iconst 0, 1), (22, .invokevirtual 52, 3), (25, .iadd, 1), (26, .istore_n 1, 1), (27, .iinc 2 1, 3), (30, .goto (-26), 3), (33, .iconst 0, 1), (34, .istore_n 2, 1), (35, .iload_n 2, 1), (36, .aload_n 0, 1), (37, .getfield 14, 3), (40, .getfield 60, 3), (43, .if_icmp .ge 21, 3), (46, .iload_n 1, 1), (47, .aload_n 0, 1), (48, .getfield 14, 3), (51, .iload_n 2, 1), (52, .iconst 3, 1), (53, .invokevirtual 52, 3)]
theorem daX9_dropsOfAll_31_0 : dtX9_dropsOfAll_31_0.all (dqd cX9_dropsOfAll) = true := by decide +kernel
theorem dX9_dropsOfAll_0 : decode cX9_dropsOfAll 0 = .ok (.iconst 0, 1) := dq daX9_dropsOfAll_31_0 0 rfl
theorem dX9_dropsOfAll_1 : decode cX9_dropsOfAll 1 = .ok (.istore_n 1, 1) := dq daX9_dropsOfAll_31_0 1 rfl
theorem dX9_dropsOfAll_2 : decode cX9_dropsOfAll 2 = .ok (.iconst 0, 1) := dq daX9_dropsOfAll_31_0 2 rfl
theorem dX9_dropsOfAll_3 : decode cX9_dropsOfAll 3 = .ok (.istore_n 2, 1) := dq daX9_dropsOfAll_31_0 3 rfl
theorem dX9_dropsOfAll_4 : decode cX9_dropsOfAll 4 = .ok (.iload_n 2, 1) := dq daX9_dropsOfAll_31_0 4 rfl
theorem dX9_dropsOfAll_5 : decode cX9_dropsOfAll 5 = .ok (.aload_n 0, 1) := dq daX9_dropsOfAll_31_0 5 rfl
theorem dX9_dropsOfAll_6 : decode cX9_dropsOfAll 6 = .ok (.getfield 23, 3) := dq daX9_dropsOfAll_31_0 6 rfl
theorem dX9_dropsOfAll_9 : decode cX9_dropsOfAll 9 = .ok (.getfield 60, 3) := dq daX9_dropsOfAll_31_0 7 rfl
theorem dX9_dropsOfAll_12 : decode cX9_dropsOfAll 12 = .ok (.if_icmp .ge 21, 3) := dq daX9_dropsOfAll_31_0 8 rfl
theorem dX9_dropsOfAll_15 : decode cX9_dropsOfAll 15 = .ok (.iload_n 1, 1) := dq daX9_dropsOfAll_31_0 9 rfl
theorem dX9_dropsOfAll_16 : decode cX9_dropsOfAll 16 = .ok (.aload_n 0, 1) := dq daX9_dropsOfAll_31_0 10 rfl
theorem dX9_dropsOfAll_17 : decode cX9_dropsOfAll 17 = .ok (.getfield 23, 3) := dq daX9_dropsOfAll_31_0 11 rfl
theorem dX9_dropsOfAll_20 : decode cX9_dropsOfAll 20 = .ok (.iload_n 2, 1) := dq daX9_dropsOfAll_31_0 12 rfl
theorem dX9_dropsOfAll_21 : decode cX9_dropsOfAll 21 = .ok (.iconst 0, 1) := dq daX9_dropsOfAll_31_0 13 rfl
theorem dX9_dropsOfAll_22 : decode cX9_dropsOfAll 22 = .ok (.invokevirtual 52, 3) := dq daX9_dropsOfAll_31_0 14 rfl
theorem dX9_dropsOfAll_25 : decode cX9_dropsOfAll 25 = .ok (.iadd, 1) := dq daX9_dropsOfAll_31_0 15 rfl
theorem dX9_dropsOfAll_26 : decode cX9_dropsOfAll 26 = .ok (.istore_n 1, 1) := dq daX9_dropsOfAll_31_0 16 rfl
theorem dX9_dropsOfAll_27 : decode cX9_dropsOfAll 27 = .ok (.iinc 2 1, 3) := dq daX9_dropsOfAll_31_0 17 rfl
theorem dX9_dropsOfAll_30 : decode cX9_dropsOfAll 30 = .ok (.goto (-26), 3) := dq daX9_dropsOfAll_31_0 18 rfl
theorem dX9_dropsOfAll_33 : decode cX9_dropsOfAll 33 = .ok (.iconst 0, 1) := dq daX9_dropsOfAll_31_0 19 rfl
theorem dX9_dropsOfAll_34 : decode cX9_dropsOfAll 34 = .ok (.istore_n 2, 1) := dq daX9_dropsOfAll_31_0 20 rfl
theorem dX9_dropsOfAll_35 : decode cX9_dropsOfAll 35 = .ok (.iload_n 2, 1) := dq daX9_dropsOfAll_31_0 21 rfl
theorem dX9_dropsOfAll_36 : decode cX9_dropsOfAll 36 = .ok (.aload_n 0, 1) := dq daX9_dropsOfAll_31_0 22 rfl
theorem dX9_dropsOfAll_37 : decode cX9_dropsOfAll 37 = .ok (.getfield 14, 3) := dq daX9_dropsOfAll_31_0 23 rfl
theorem dX9_dropsOfAll_40 : decode cX9_dropsOfAll 40 = .ok (.getfield 60, 3) := dq daX9_dropsOfAll_31_0 24 rfl
theorem dX9_dropsOfAll_43 : decode cX9_dropsOfAll 43 = .ok (.if_icmp .ge 21, 3) := dq daX9_dropsOfAll_31_0 25 rfl
theorem dX9_dropsOfAll_46 : decode cX9_dropsOfAll 46 = .ok (.iload_n 1, 1) := dq daX9_dropsOfAll_31_0 26 rfl
theorem dX9_dropsOfAll_47 : decode cX9_dropsOfAll 47 = .ok (.aload_n 0, 1) := dq daX9_dropsOfAll_31_0 27 rfl
theorem dX9_dropsOfAll_48 : decode cX9_dropsOfAll 48 = .ok (.getfield 14, 3) := dq daX9_dropsOfAll_31_0 28 rfl
theorem dX9_dropsOfAll_51 : decode cX9_dropsOfAll 51 = .ok (.iload_n 2, 1) := dq daX9_dropsOfAll_31_0 29 rfl
theorem dX9_dropsOfAll_52 : decode cX9_dropsOfAll 52 = .ok (.iconst 3, 1) := dq daX9_dropsOfAll_31_0 30 rfl
theorem dX9_dropsOfAll_53 : decode cX9_dropsOfAll 53 = .ok (.invokevirtual 52, 3) := dq daX9_dropsOfAll_31_0 31 rfl
def dtX9_dropsOfAll_31_1 : List (Nat × Jvm.ClassFile.Instr × Nat) := [(56, .iadd, 1), (57, .istore_n 1, 1), (58, .iinc 2 1, 3), (61, .goto (-26), 3), (64, .iload_n 1, 1), (65, .ireturn, 1)]
theorem daX9_dropsOfAll_31_1 : dtX9_dropsOfAll_31_1.all (dqd cX9_dropsOfAll) = true := by decide +kernel
theorem dX9_dropsOfAll_56 : decode cX9_dropsOfAll 56 = .ok (.iadd, 1) := dq daX9_dropsOfAll_31_1 0 rfl
theorem dX9_dropsOfAll_57 : decode cX9_dropsOfAll 57 = .ok (.istore_n 1, 1) := dq daX9_dropsOfAll_31_1 1 rfl
theorem dX9_dropsOfAll_58 : decode cX9_dropsOfAll 58 = .ok (.iinc 2 1, 3) := dq daX9_dropsOfAll_31_1 2 rfl
theorem dX9_dropsOfAll_61 : decode cX9_dropsOfAll 61 = .ok (.goto (-26), 3) := dq daX9_dropsOfAll_31_1 3 rfl
theorem dX9_dropsOfAll_64 : decode cX9_dropsOfAll 64 = .ok (.iload_n 1, 1) := dq daX9_dropsOfAll_31_1 4 rfl
theorem dX9_dropsOfAll_65 : decode cX9_dropsOfAll 65 = .ok (.ireturn, 1) := dq daX9_dropsOfAll_31_1 5 rfl
def dtX9_draw_31_0 : List (Nat × Jvm.ClassFile.Instr × Nat) := [(0, .aload_n 0, 1), (1, .aload_n 0, 1), (2, .getfield 49, 3), (5, .i2l, 1), (6, .ldc2_w 83, 3), (9, .lmul, 1), (10, .ldc2_w 85, 3), (13, .ladd, 1), (14, .ldc2_w 87, 3), (17, .land, 1), (18, .l2i, 1), (19, .putfield 49, 3), (22, .aload_n 0, 1), (23, .getfield 49, 3), (26, .ldc 89, 2), (28, .idiv, 1), (29, .ireturn, 1)]
theorem daX9_draw_31_0 : dtX9_draw_31_0.all (dqd cX9_draw) = true := by decide +kernel
theorem dX9_draw_0 : decode cX9_draw 0 = .ok (.aload_n 0, 1) := dq daX9_draw_31_0 0 rfl
theorem dX9_draw_1 : decode cX9_draw 1 = .ok (.aload_n 0, 1) := dq daX9_draw_31_0 1 rfl
theorem dX9_draw_2 : decode cX9_draw 2 = .ok (.getfield 49, 3) := dq daX9_draw_31_0 2 rfl
theorem dX9_draw_5 : decode cX9_draw 5 = .ok (.i2l, 1) := dq daX9_draw_31_0 3 rfl
theorem dX9_draw_6 : decode cX9_draw 6 = .ok (.ldc2_w 83, 3) := dq daX9_draw_31_0 4 rfl
theorem dX9_draw_9 : decode cX9_draw 9 = .ok (.lmul, 1) := dq daX9_draw_31_0 5 rfl
theorem dX9_draw_10 : decode cX9_draw 10 = .ok (.ldc2_w 85, 3) := dq daX9_draw_31_0 6 rfl
theorem dX9_draw_13 : decode cX9_draw 13 = .ok (.ladd, 1) := dq daX9_draw_31_0 7 rfl
theorem dX9_draw_14 : decode cX9_draw 14 = .ok (.ldc2_w 87, 3) := dq daX9_draw_31_0 8 rfl
theorem dX9_draw_17 : decode cX9_draw 17 = .ok (.land, 1) := dq daX9_draw_31_0 9 rfl
theorem dX9_draw_18 : decode cX9_draw 18 = .ok (.l2i, 1) := dq daX9_draw_31_0 10 rfl
theorem dX9_draw_19 : decode cX9_draw 19 = .ok (.putfield 49, 3) := dq daX9_draw_31_0 11 rfl
theorem dX9_draw_22 : decode cX9_draw 22 = .ok (.aload_n 0, 1) := dq daX9_draw_31_0 12 rfl
theorem dX9_draw_23 : decode cX9_draw 23 = .ok (.getfield 49, 3) := dq daX9_draw_31_0 13 rfl
theorem dX9_draw_26 : decode cX9_draw 26 = .ok (.ldc 89, 2) := dq daX9_draw_31_0 14 rfl
theorem dX9_draw_28 : decode cX9_draw 28 = .ok (.idiv, 1) := dq daX9_draw_31_0 15 rfl
theorem dX9_draw_29 : decode cX9_draw 29 = .ok (.ireturn, 1) := dq daX9_draw_31_0 16 rfl
def dtX9_copyFrom_31_0 : List (Nat × Jvm.ClassFile.Instr × Nat) := [(0, .aload_n 0, 1), (1, .getfield 14, 3), (4, .aload_n 1, 1), (5, .getfield 14, 3), (8, .invokevirtual 39, 3), (11, .aload_n 0, 1), (12, .getfield 20, 3), (15, .aload_n 1, 1), (16, .getfield 20, 3), (19, .invokevirtual 39, 3), (22, .aload_n 0, 1), (23, .getfield 23, 3), (26, .aload_n 1, 1), (27, .getfield 23, 3), (30, .invokevirtual 39, 3), (33, .aload_n 0, 1), (34, .getfield 26, 3), (37, .aload_n 1, 1), (38, .getfield 26, 3), (41, .invokevirtual 39, 3), (44, .aload_n 0, 1), (45, .getfield 29, 3), (48, .aload_n 1, 1), (49, .getfield 29, 3), (52, .invokevirtual 39, 3), (55, .aload_n 0, 1), (56, .getfield 32, 3), (59, .aload_n 1, 1), (60, .getfield 32, 3), (63, .invokevirtual 39, 3), (66, .aload_n 0, 1), (67, .aload_n 1, 1)]
theorem daX9_copyFrom_31_0 : dtX9_copyFrom_31_0.all (dqd cX9_copyFrom) = true := by decide +kernel
theorem dX9_copyFrom_0 : decode cX9_copyFrom 0 = .ok (.aload_n 0, 1) := dq daX9_copyFrom_31_0 0 rfl
theorem dX9_copyFrom_1 : decode cX9_copyFrom 1 = .ok (.getfield 14, 3) := dq daX9_copyFrom_31_0 1 rfl
theorem dX9_copyFrom_4 : decode cX9_copyFrom 4 = .ok (.aload_n 1, 1) := dq daX9_copyFrom_31_0 2 rfl
theorem dX9_copyFrom_5 : decode cX9_copyFrom 5 = .ok (.getfield 14, 3) := dq daX9_copyFrom_31_0 3 rfl
theorem dX9_copyFrom_8 : decode cX9_copyFrom 8 = .ok (.invokevirtual 39, 3) := dq daX9_copyFrom_31_0 4 rfl
theorem dX9_copyFrom_11 : decode cX9_copyFrom 11 = .ok (.aload_n 0, 1) := dq daX9_copyFrom_31_0 5 rfl
theorem dX9_copyFrom_12 : decode cX9_copyFrom 12 = .ok (.getfield 20, 3) := dq daX9_copyFrom_31_0 6 rfl
theorem dX9_copyFrom_15 : decode cX9_copyFrom 15 = .ok (.aload_n 1, 1) := dq daX9_copyFrom_31_0 7 rfl
theorem dX9_copyFrom_16 : decode cX9_copyFrom 16 = .ok (.getfield 20, 3) := dq daX9_copyFrom_31_0 8 rfl
theorem dX9_copyFrom_19 : decode cX9_copyFrom 19 = .ok (.invokevirtual 39, 3) := dq daX9_copyFrom_31_0 9 rfl
theorem dX9_copyFrom_22 : decode cX9_copyFrom 22 = .ok (.aload_n 0, 1) := dq daX9_copyFrom_31_0 10 rfl
theorem dX9_copyFrom_23 : decode cX9_copyFrom 23 = .ok (.getfield 23, 3) := dq daX9_copyFrom_31_0 11 rfl
theorem dX9_copyFrom_26 : decode cX9_copyFrom 26 = .ok (.aload_n 1, 1) := dq daX9_copyFrom_31_0 12 rfl
theorem dX9_copyFrom_27 : decode cX9_copyFrom 27 = .ok (.getfield 23, 3) := dq daX9_copyFrom_31_0 13 rfl
theorem dX9_copyFrom_30 : decode cX9_copyFrom 30 = .ok (.invokevirtual 39, 3) := dq daX9_copyFrom_31_0 14 rfl
theorem dX9_copyFrom_33 : decode cX9_copyFrom 33 = .ok (.aload_n 0, 1) := dq daX9_copyFrom_31_0 15 rfl
theorem dX9_copyFrom_34 : decode cX9_copyFrom 34 = .ok (.getfield 26, 3) := dq daX9_copyFrom_31_0 16 rfl
theorem dX9_copyFrom_37 : decode cX9_copyFrom 37 = .ok (.aload_n 1, 1) := dq daX9_copyFrom_31_0 17 rfl
theorem dX9_copyFrom_38 : decode cX9_copyFrom 38 = .ok (.getfield 26, 3) := dq daX9_copyFrom_31_0 18 rfl
theorem dX9_copyFrom_41 : decode cX9_copyFrom 41 = .ok (.invokevirtual 39, 3) := dq daX9_copyFrom_31_0 19 rfl
theorem dX9_copyFrom_44 : decode cX9_copyFrom 44 = .ok (.aload_n 0, 1) := dq daX9_copyFrom_31_0 20 rfl
theorem dX9_copyFrom_45 : decode cX9_copyFrom 45 = .ok (.getfield 29, 3) := dq daX9_copyFrom_31_0 21 rfl
theorem dX9_copyFrom_48 : decode cX9_copyFrom 48 = .ok (.aload_n 1, 1) := dq daX9_copyFrom_31_0 22 rfl
theorem dX9_copyFrom_49 : decode cX9_copyFrom 49 = .ok (.getfield 29, 3) := dq daX9_copyFrom_31_0 23 rfl
theorem dX9_copyFrom_52 : decode cX9_copyFrom 52 = .ok (.invokevirtual 39, 3) := dq daX9_copyFrom_31_0 24 rfl
theorem dX9_copyFrom_55 : decode cX9_copyFrom 55 = .ok (.aload_n 0, 1) := dq daX9_copyFrom_31_0 25 rfl
theorem dX9_copyFrom_56 : decode cX9_copyFrom 56 = .ok (.getfield 32, 3) := dq daX9_copyFrom_31_0 26 rfl
theorem dX9_copyFrom_59 : decode cX9_copyFrom 59 = .ok (.aload_n 1, 1) := dq daX9_copyFrom_31_0 27 rfl
theorem dX9_copyFrom_60 : decode cX9_copyFrom 60 = .ok (.getfield 32, 3) := dq daX9_copyFrom_31_0 28 rfl
theorem dX9_copyFrom_63 : decode cX9_copyFrom 63 = .ok (.invokevirtual 39, 3) := dq daX9_copyFrom_31_0 29 rfl
theorem dX9_copyFrom_66 : decode cX9_copyFrom 66 = .ok (.aload_n 0, 1) := dq daX9_copyFrom_31_0 30 rfl
theorem dX9_copyFrom_67 : decode cX9_copyFrom 67 = .ok (.aload_n 1, 1) := dq daX9_copyFrom_31_0 31 rfl
def dtX9_copyFrom_31_1 : List (Nat × Jvm.ClassFile.Instr × Nat) := [(68, .getfield 35, 3), (71, .putfield 35, 3), (74, .aload_n 0, 1), (75, .aload_n 1, 1), (76, .getfield 43, 3), (79, .putfield 43, 3), (82, .aload_n 0, 1), (83, .aload_n 1, 1), (84, .getfield 46, 3), (87, .putfield 46, 3), (90, .aload_n 0, 1), (91, .aload_n 1, 1), (92, .getfield 49, 3), (95, .putfield 49, 3), (98, .return_, 1)]
theorem daX9_copyFrom_31_1 : dtX9_copyFrom_31_1.all (dqd cX9_copyFrom) = true := by decide +kernel
theorem dX9_copyFrom_68 : decode cX9_copyFrom 68 = .ok (.getfield 35, 3) := dq daX9_copyFrom_31_1 0 rfl
theorem dX9_copyFrom_71 : decode cX9_copyFrom 71 = .ok (.putfield 35, 3) := dq daX9_copyFrom_31_1 1 rfl
theorem dX9_copyFrom_74 : decode cX9_copyFrom 74 = .ok (.aload_n 0, 1) := dq daX9_copyFrom_31_1 2 rfl
theorem dX9_copyFrom_75 : decode cX9_copyFrom 75 = .ok (.aload_n 1, 1) := dq daX9_copyFrom_31_1 3 rfl
theorem dX9_copyFrom_76 : decode cX9_copyFrom 76 = .ok (.getfield 43, 3) := dq daX9_copyFrom_31_1 4 rfl
theorem dX9_copyFrom_79 : decode cX9_copyFrom 79 = .ok (.putfield 43, 3) := dq daX9_copyFrom_31_1 5 rfl
theorem dX9_copyFrom_82 : decode cX9_copyFrom 82 = .ok (.aload_n 0, 1) := dq daX9_copyFrom_31_1 6 rfl
theorem dX9_copyFrom_83 : decode cX9_copyFrom 83 = .ok (.aload_n 1, 1) := dq daX9_copyFrom_31_1 7 rfl
theorem dX9_copyFrom_84 : decode cX9_copyFrom 84 = .ok (.getfield 46, 3) := dq daX9_copyFrom_31_1 8 rfl
theorem dX9_copyFrom_87 : decode cX9_copyFrom 87 = .ok (.putfield 46, 3) := dq daX9_copyFrom_31_1 9 rfl
theorem dX9_copyFrom_90 : decode cX9_copyFrom 90 = .ok (.aload_n 0, 1) := dq daX9_copyFrom_31_1 10 rfl
theorem dX9_copyFrom_91 : decode cX9_copyFrom 91 = .ok (.aload_n 1, 1) := dq daX9_copyFrom_31_1 11 rfl
theorem dX9_copyFrom_92 : decode cX9_copyFrom 92 = .ok (.getfield 49, 3) := dq daX9_copyFrom_31_1 12 rfl
theorem dX9_copyFrom_95 : decode cX9_copyFrom 95 = .ok (.putfield 49, 3) := dq daX9_copyFrom_31_1 13 rfl
theorem dX9_copyFrom_98 : decode cX9_copyFrom 98 = .ok (.return_, 1) := dq daX9_copyFrom_31_1 14 rfl
