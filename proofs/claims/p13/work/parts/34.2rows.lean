theorem kX0_setLoadOf_1 {a : Array Value} {s : State} (hts : ∀ w ∈ wsX0_setLoadOf, w.before a s = true) : (.fieldLink RX0 18 "SnowMules$World" "jars" "LSnowMules$Table;" : Cond).before a s = true := kw (A := ixX0_setLoadOf) wt702 hts (by decide +kernel)
theorem kX0_setLoadOf_2 {a : Array Value} {s : State} (hts : ∀ w ∈ wsX0_setLoadOf, w.before a s = true) : (.fieldLink RX0 12 "SnowMules$Hours" "scene" "LSnowMules$Scene;" : Cond).before a s = true := kw (A := ixX0_setLoadOf) wt99 hts (by decide +kernel)
theorem kX0_meltOf_1 {a : Array Value} {s : State} (hts : ∀ w ∈ wsX0_meltOf, w.before a s = true) : (.fieldLink RX0 18 "SnowMules$World" "jars" "LSnowMules$Table;" : Cond).before a s = true := kw (A := ixX0_meltOf) wt702 hts (by decide +kernel)
theorem kX0_meltOf_2 {a : Array Value} {s : State} (hts : ∀ w ∈ wsX0_meltOf, w.before a s = true) : (.fieldLink RX0 12 "SnowMules$Hours" "scene" "LSnowMules$Scene;" : Cond).before a s = true := kw (A := ixX0_meltOf) wt99 hts (by decide +kernel)
theorem kX0_meltOf_3 {a : Array Value} {s : State} (hts : ∀ w ∈ wsX0_meltOf, w.before a s = true) : (.fieldLink RX0 41 "SnowMules$World" "now" "I" : Cond).before a s = true := kw (A := ixX0_meltOf) wt705 hts (by decide +kernel)
theorem kX0_meltOf_4 {a : Array Value} {s : State} (hts : ∀ w ∈ wsX0_meltOf, w.before a s = true) : (.fieldLink RX0 80 "SnowMules$Scene" "words" "[I" : Cond).before a s = true := kw (A := ixX0_meltOf) wt716 hts (by decide +kernel)
theorem kX0_meltOf_93 {a : Array Value} {s : State} (hts : ∀ w ∈ wsX0_meltOf, w.before a s = true) : (.initialized RX10 : Cond).before a s = true := kw (A := ixX0_meltOf) wt2 hts (by decide +kernel)
theorem kX0_meltOf_92 {a : Array Value} {s : State} (hts : ∀ w ∈ wsX0_meltOf, w.before a s = true) : (.static yX10_held : Cond).before a s = true := kw (A := ixX0_meltOf) wt765 hts (by decide +kernel)
theorem kX0_restOf_1 {a : Array Value} {s : State} (hts : ∀ w ∈ wsX0_restOf, w.before a s = true) : (.fieldLink RX0 12 "SnowMules$Hours" "scene" "LSnowMules$Scene;" : Cond).before a s = true := kw (A := ixX0_restOf) wt99 hts (by decide +kernel)
theorem kX0_restOf_2 {a : Array Value} {s : State} (hts : ∀ w ∈ wsX0_restOf, w.before a s = true) : (.fieldLink RX0 80 "SnowMules$Scene" "words" "[I" : Cond).before a s = true := kw (A := ixX0_restOf) wt716 hts (by decide +kernel)
theorem kX0_restOf_62 {a : Array Value} {s : State} (hts : ∀ w ∈ wsX0_restOf, w.before a s = true) : (.initialized RX10 : Cond).before a s = true := kw (A := ixX0_restOf) wt2 hts (by decide +kernel)
theorem kX0_restOf_61 {a : Array Value} {s : State} (hts : ∀ w ∈ wsX0_restOf, w.before a s = true) : (.static yX10_held : Cond).before a s = true := kw (A := ixX0_restOf) wt765 hts (by decide +kernel)
theorem kX0_nextBehind_1 {a : Array Value} {s : State} (hts : ∀ w ∈ wsX0_nextBehind, w.before a s = true) : (.fieldLink RX0 18 "SnowMules$World" "jars" "LSnowMules$Table;" : Cond).before a s = true := kw (A := ixX0_nextBehind) wt702 hts (by decide +kernel)
theorem kX0_nextBehind_2 {a : Array Value} {s : State} (hts : ∀ w ∈ wsX0_nextBehind, w.before a s = true) : (.fieldLink RX0 24 "SnowMules$Table" "size" "I" : Cond).before a s = true := kw (A := ixX0_nextBehind) wt703 hts (by decide +kernel)
theorem kX0_burstFrom_1 {a : Array Value} {s : State} (hts : ∀ w ∈ wsX0_burstFrom, w.before a s = true) : (.fieldLink RX0 18 "SnowMules$World" "jars" "LSnowMules$Table;" : Cond).before a s = true := kw (A := ixX0_burstFrom) wt702 hts (by decide +kernel)
theorem kX0_arrive_1 {a : Array Value} {s : State} (hts : ∀ w ∈ wsX0_arrive, w.before a s = true) : (.fieldLink RX0 18 "SnowMules$World" "jars" "LSnowMules$Table;" : Cond).before a s = true := kw (A := ixX0_arrive) wt702 hts (by decide +kernel)
theorem kX0_arrive_2 {a : Array Value} {s : State} (hts : ∀ w ∈ wsX0_arrive, w.before a s = true) : (.fieldLink RX0 12 "SnowMules$Hours" "scene" "LSnowMules$Scene;" : Cond).before a s = true := kw (A := ixX0_arrive) wt99 hts (by decide +kernel)
theorem kX0_arrive_3 {a : Array Value} {s : State} (hts : ∀ w ∈ wsX0_arrive, w.before a s = true) : (.fieldLink RX0 41 "SnowMules$World" "now" "I" : Cond).before a s = true := kw (A := ixX0_arrive) wt705 hts (by decide +kernel)
theorem kX0_arrive_4 {a : Array Value} {s : State} (hts : ∀ w ∈ wsX0_arrive, w.before a s = true) : (.fieldLink RX0 80 "SnowMules$Scene" "words" "[I" : Cond).before a s = true := kw (A := ixX0_arrive) wt716 hts (by decide +kernel)
theorem kX0_arrive_81 {a : Array Value} {s : State} (hts : ∀ w ∈ wsX0_arrive, w.before a s = true) : (.initialized RX10 : Cond).before a s = true := kw (A := ixX0_arrive) wt2 hts (by decide +kernel)
theorem kX0_arrive_80 {a : Array Value} {s : State} (hts : ∀ w ∈ wsX0_arrive, w.before a s = true) : (.static yX10_held : Cond).before a s = true := kw (A := ixX0_arrive) wt765 hts (by decide +kernel)
theorem kX0_arrive_5 {a : Array Value} {s : State} (hts : ∀ w ∈ wsX0_arrive, w.before a s = true) : (.fieldLink RX0 56 "SnowMules$World" "passes" "LSnowMules$Table;" : Cond).before a s = true := kw (A := ixX0_arrive) wt711 hts (by decide +kernel)
theorem kX0_arrive_6 {a : Array Value} {s : State} (hts : ∀ w ∈ wsX0_arrive, w.before a s = true) : (.fieldLink RX0 111 "SnowMules$Law" "chain" "I" : Cond).before a s = true := kw (A := ixX0_arrive) wt772 hts (by decide +kernel)
theorem kX0_stepJar_1 {a : Array Value} {s : State} (hts : ∀ w ∈ wsX0_stepJar, w.before a s = true) : (.fieldLink RX0 18 "SnowMules$World" "jars" "LSnowMules$Table;" : Cond).before a s = true := kw (A := ixX0_stepJar) wt702 hts (by decide +kernel)
theorem kX0_stepJar_2 {a : Array Value} {s : State} (hts : ∀ w ∈ wsX0_stepJar, w.before a s = true) : (.fieldLink RX0 56 "SnowMules$World" "passes" "LSnowMules$Table;" : Cond).before a s = true := kw (A := ixX0_stepJar) wt711 hts (by decide +kernel)
theorem kX0_step_1 {a : Array Value} {s : State} (hts : ∀ w ∈ wsX0_step, w.before a s = true) : (.fieldLink RX0 18 "SnowMules$World" "jars" "LSnowMules$Table;" : Cond).before a s = true := kw (A := ixX0_step) wt702 hts (by decide +kernel)
theorem kX0_step_2 {a : Array Value} {s : State} (hts : ∀ w ∈ wsX0_step, w.before a s = true) : (.fieldLink RX0 24 "SnowMules$Table" "size" "I" : Cond).before a s = true := kw (A := ixX0_step) wt703 hts (by decide +kernel)
theorem kX0_step_3 {a : Array Value} {s : State} (hts : ∀ w ∈ wsX0_step, w.before a s = true) : (.fieldLink RX0 38 "SnowMules$World" "nodes" "LSnowMules$Table;" : Cond).before a s = true := kw (A := ixX0_step) wt704 hts (by decide +kernel)
theorem kX0_step_4 {a : Array Value} {s : State} (hts : ∀ w ∈ wsX0_step, w.before a s = true) : (.fieldLink RX0 41 "SnowMules$World" "now" "I" : Cond).before a s = true := kw (A := ixX0_step) wt705 hts (by decide +kernel)
theorem kX0_owedAt_1 {a : Array Value} {s : State} (hts : ∀ w ∈ wsX0_owedAt, w.before a s = true) : (.fieldLink RX0 130 "SnowMules$World" "feasts" "LSnowMules$Table;" : Cond).before a s = true := kw (A := ixX0_owedAt) wt1311 hts (by decide +kernel)
theorem kX0_owedAt_2 {a : Array Value} {s : State} (hts : ∀ w ∈ wsX0_owedAt, w.before a s = true) : (.fieldLink RX0 24 "SnowMules$Table" "size" "I" : Cond).before a s = true := kw (A := ixX0_owedAt) wt703 hts (by decide +kernel)
theorem kX0_owedAt_3 {a : Array Value} {s : State} (hts : ∀ w ∈ wsX0_owedAt, w.before a s = true) : (.fieldLink RX0 41 "SnowMules$World" "now" "I" : Cond).before a s = true := kw (A := ixX0_owedAt) wt705 hts (by decide +kernel)
theorem kX0_eatenOn_1 {a : Array Value} {s : State} (hts : ∀ w ∈ wsX0_eatenOn, w.before a s = true) : (.fieldLink RX0 130 "SnowMules$World" "feasts" "LSnowMules$Table;" : Cond).before a s = true := kw (A := ixX0_eatenOn) wt1311 hts (by decide +kernel)
theorem kX0_eatenOn_2 {a : Array Value} {s : State} (hts : ∀ w ∈ wsX0_eatenOn, w.before a s = true) : (.fieldLink RX0 24 "SnowMules$Table" "size" "I" : Cond).before a s = true := kw (A := ixX0_eatenOn) wt703 hts (by decide +kernel)
theorem kX0_lasts_1 {a : Array Value} {s : State} (hts : ∀ w ∈ wsX0_lasts, w.before a s = true) : (.fieldLink RX0 41 "SnowMules$World" "now" "I" : Cond).before a s = true := kw (A := ixX0_lasts) wt705 hts (by decide +kernel)
theorem iX0_setLoadOf_X9 : ∀ w ∈ wsX90, w ∈ wsX0_setLoadOf := inW (A := ixX0_setLoadOf) uwX9 (by decide +kernel)
theorem iX0_setLoadOf_X0 : ∀ w ∈ wsX00, w ∈ wsX0_setLoadOf := inW (A := ixX0_setLoadOf) uwX0 (by decide +kernel)
theorem iX0_meltOf_X9 : ∀ w ∈ wsX90, w ∈ wsX0_meltOf := inW (A := ixX0_meltOf) uwX9 (by decide +kernel)
theorem iX0_meltOf_X0 : ∀ w ∈ wsX00, w ∈ wsX0_meltOf := inW (A := ixX0_meltOf) uwX0 (by decide +kernel)
theorem iX0_meltOf_X4 : ∀ w ∈ wsX40, w ∈ wsX0_meltOf := inW (A := ixX0_meltOf) uwX4 (by decide +kernel)
theorem iX0_restOf_X0 : ∀ w ∈ wsX00, w ∈ wsX0_restOf := inW (A := ixX0_restOf) uwX0 (by decide +kernel)
theorem iX0_restOf_X4 : ∀ w ∈ wsX40, w ∈ wsX0_restOf := inW (A := ixX0_restOf) uwX4 (by decide +kernel)
theorem iX0_nextBehind_X9 : ∀ w ∈ wsX90, w ∈ wsX0_nextBehind := inW (A := ixX0_nextBehind) uwX9 (by decide +kernel)
theorem iX0_nextBehind_X6 : ∀ w ∈ wsX60, w ∈ wsX0_nextBehind := inW (A := ixX0_nextBehind) uwX6 (by decide +kernel)
theorem iX0_burstFrom_X9 : ∀ w ∈ wsX90, w ∈ wsX0_burstFrom := inW (A := ixX0_burstFrom) uwX9 (by decide +kernel)
theorem iX0_arrive_X9 : ∀ w ∈ wsX90, w ∈ wsX0_arrive := inW (A := ixX0_arrive) uwX9 (by decide +kernel)
theorem iX0_arrive_X0 : ∀ w ∈ wsX00, w ∈ wsX0_arrive := inW (A := ixX0_arrive) uwX0 (by decide +kernel)
theorem iX0_arrive_X4 : ∀ w ∈ wsX40, w ∈ wsX0_arrive := inW (A := ixX0_arrive) uwX4 (by decide +kernel)
theorem iX0_arrive_X1 : ∀ w ∈ wsX10, w ∈ wsX0_arrive := inW (A := ixX0_arrive) uwX1 (by decide +kernel)
theorem iX0_stepJar_X9 : ∀ w ∈ wsX90, w ∈ wsX0_stepJar := inW (A := ixX0_stepJar) uwX9 (by decide +kernel)
theorem iX0_step_X9 : ∀ w ∈ wsX90, w ∈ wsX0_step := inW (A := ixX0_step) uwX9 (by decide +kernel)
theorem iX0_step_X6 : ∀ w ∈ wsX60, w ∈ wsX0_step := inW (A := ixX0_step) uwX6 (by decide +kernel)
theorem iX0_owedAt_X9 : ∀ w ∈ wsX90, w ∈ wsX0_owedAt := inW (A := ixX0_owedAt) uwX9 (by decide +kernel)
theorem iX0_owedAt_X6 : ∀ w ∈ wsX60, w ∈ wsX0_owedAt := inW (A := ixX0_owedAt) uwX6 (by decide +kernel)
theorem iX0_eatenOn_X9 : ∀ w ∈ wsX90, w ∈ wsX0_eatenOn := inW (A := ixX0_eatenOn) uwX9 (by decide +kernel)
theorem iX0_eatenOn_X6 : ∀ w ∈ wsX60, w ∈ wsX0_eatenOn := inW (A := ixX0_eatenOn) uwX6 (by decide +kernel)
theorem iX0_lasts_X9 : ∀ w ∈ wsX90, w ∈ wsX0_lasts := inW (A := ixX0_lasts) uwX9 (by decide +kernel)
theorem hdX4_setLoad : yX4_setLoad.cls ≠ "java/lang/invoke/MethodHandle" ∧ yX4_setLoad.cls ≠ "java/lang/invoke/VarHandle" ∧ (parseMethodDescriptor yX4_setLoad.desc).map (fun d => d.parameters.length) = some 3 := ⟨hdc_4.1, hdc_4.2, hdd_25⟩
theorem hdX4_setNode : yX4_setNode.cls ≠ "java/lang/invoke/MethodHandle" ∧ yX4_setNode.cls ≠ "java/lang/invoke/VarHandle" ∧ (parseMethodDescriptor yX4_setNode.desc).map (fun d => d.parameters.length) = some 2 := ⟨hdc_4.1, hdc_4.2, hdd_30⟩
theorem hdX4_setHour : yX4_setHour.cls ≠ "java/lang/invoke/MethodHandle" ∧ yX4_setHour.cls ≠ "java/lang/invoke/VarHandle" ∧ (parseMethodDescriptor yX4_setHour.desc).map (fun d => d.parameters.length) = some 2 := ⟨hdc_4.1, hdc_4.2, hdd_30⟩
theorem hdX0_setLoadOf : yX0_setLoadOf.cls ≠ "java/lang/invoke/MethodHandle" ∧ yX0_setLoadOf.cls ≠ "java/lang/invoke/VarHandle" ∧ (parseMethodDescriptor yX0_setLoadOf.desc).map (fun d => d.parameters.length) = some 2 := ⟨hdc_5.1, hdc_5.2, hdd_30⟩
theorem hdX1_sumOf : yX1_sumOf.cls ≠ "java/lang/invoke/MethodHandle" ∧ yX1_sumOf.cls ≠ "java/lang/invoke/VarHandle" ∧ (parseMethodDescriptor yX1_sumOf.desc).map (fun d => d.parameters.length) = some 2 := ⟨hdc_3.1, hdc_3.2, hdd_31⟩
theorem hdX10_held : yX10_held.cls ≠ "java/lang/invoke/MethodHandle" ∧ yX10_held.cls ≠ "java/lang/invoke/VarHandle" ∧ (parseMethodDescriptor yX10_held.desc).map (fun d => d.parameters.length) = some 2 := ⟨hdc_6.1, hdc_6.2, hdd_32⟩
theorem hdX4_setPass : yX4_setPass.cls ≠ "java/lang/invoke/MethodHandle" ∧ yX4_setPass.cls ≠ "java/lang/invoke/VarHandle" ∧ (parseMethodDescriptor yX4_setPass.desc).map (fun d => d.parameters.length) = some 3 := ⟨hdc_4.1, hdc_4.2, hdd_33⟩
theorem hdX4_setGone : yX4_setGone.cls ≠ "java/lang/invoke/MethodHandle" ∧ yX4_setGone.cls ≠ "java/lang/invoke/VarHandle" ∧ (parseMethodDescriptor yX4_setGone.desc).map (fun d => d.parameters.length) = some 1 := ⟨hdc_4.1, hdc_4.2, hdd_17⟩
theorem hdX0_nextBehind : yX0_nextBehind.cls ≠ "java/lang/invoke/MethodHandle" ∧ yX0_nextBehind.cls ≠ "java/lang/invoke/VarHandle" ∧ (parseMethodDescriptor yX0_nextBehind.desc).map (fun d => d.parameters.length) = some 4 := ⟨hdc_5.1, hdc_5.2, hdd_34⟩
theorem hdX9_lose : yX9_lose.cls ≠ "java/lang/invoke/MethodHandle" ∧ yX9_lose.cls ≠ "java/lang/invoke/VarHandle" ∧ (parseMethodDescriptor yX9_lose.desc).map (fun d => d.parameters.length) = some 1 := ⟨hdc_2.1, hdc_2.2, hdd_17⟩
theorem hdX9_bring : yX9_bring.cls ≠ "java/lang/invoke/MethodHandle" ∧ yX9_bring.cls ≠ "java/lang/invoke/VarHandle" ∧ (parseMethodDescriptor yX9_bring.desc).map (fun d => d.parameters.length) = some 2 := ⟨hdc_2.1, hdc_2.2, hdd_0⟩
theorem hdX9_draw : yX9_draw.cls ≠ "java/lang/invoke/MethodHandle" ∧ yX9_draw.cls ≠ "java/lang/invoke/VarHandle" ∧ (parseMethodDescriptor yX9_draw.desc).map (fun d => d.parameters.length) = some 0 := ⟨hdc_2.1, hdc_2.2, hdd_6⟩
theorem hdX0_burstFrom : yX0_burstFrom.cls ≠ "java/lang/invoke/MethodHandle" ∧ yX0_burstFrom.cls ≠ "java/lang/invoke/VarHandle" ∧ (parseMethodDescriptor yX0_burstFrom.desc).map (fun d => d.parameters.length) = some 5 := ⟨hdc_5.1, hdc_5.2, hdd_35⟩
theorem hdX0_meltOf : yX0_meltOf.cls ≠ "java/lang/invoke/MethodHandle" ∧ yX0_meltOf.cls ≠ "java/lang/invoke/VarHandle" ∧ (parseMethodDescriptor yX0_meltOf.desc).map (fun d => d.parameters.length) = some 3 := ⟨hdc_5.1, hdc_5.2, hdd_36⟩
theorem hdX0_arrive : yX0_arrive.cls ≠ "java/lang/invoke/MethodHandle" ∧ yX0_arrive.cls ≠ "java/lang/invoke/VarHandle" ∧ (parseMethodDescriptor yX0_arrive.desc).map (fun d => d.parameters.length) = some 3 := ⟨hdc_5.1, hdc_5.2, hdd_37⟩
theorem hdX0_stepJar : yX0_stepJar.cls ≠ "java/lang/invoke/MethodHandle" ∧ yX0_stepJar.cls ≠ "java/lang/invoke/VarHandle" ∧ (parseMethodDescriptor yX0_stepJar.desc).map (fun d => d.parameters.length) = some 3 := ⟨hdc_5.1, hdc_5.2, hdd_37⟩
theorem hdX0_restOf : yX0_restOf.cls ≠ "java/lang/invoke/MethodHandle" ∧ yX0_restOf.cls ≠ "java/lang/invoke/VarHandle" ∧ (parseMethodDescriptor yX0_restOf.desc).map (fun d => d.parameters.length) = some 5 := ⟨hdc_5.1, hdc_5.2, hdd_38⟩
theorem hdX0_owedAt : yX0_owedAt.cls ≠ "java/lang/invoke/MethodHandle" ∧ yX0_owedAt.cls ≠ "java/lang/invoke/VarHandle" ∧ (parseMethodDescriptor yX0_owedAt.desc).map (fun d => d.parameters.length) = some 2 := ⟨hdc_5.1, hdc_5.2, hdd_39⟩
theorem hdX0_eatenOn : yX0_eatenOn.cls ≠ "java/lang/invoke/MethodHandle" ∧ yX0_eatenOn.cls ≠ "java/lang/invoke/VarHandle" ∧ (parseMethodDescriptor yX0_eatenOn.desc).map (fun d => d.parameters.length) = some 3 := ⟨hdc_5.1, hdc_5.2, hdd_40⟩
def dtX10_held_34_0 : List (Nat × Jvm.ClassFile.Instr × Nat) := [(0, .lload_n 0, 1), (1, .lconst 0, 1), (2, .lcmp, 1), (3, .ifCond .ge 5, 3), (8, .lload_n 0, 1), (9, .iload_n 2, 1), (10, .i2l, 1), (11, .lcmp, 1), (12, .ifCond .le 7, 3), (19, .lload_n 0, 1), (20, .l2i, 1), (21, .ireturn, 1), (15, .iload_n 2, 1), (16, .goto 5, 3), (6, .iconst 0, 1), (7, .ireturn, 1)]
theorem daX10_held_34_0 : dtX10_held_34_0.all (dqd cX10_held) = true := by decide +kernel
theorem dX10_held_0 : decode cX10_held 0 = .ok (.lload_n 0, 1) := dq daX10_held_34_0 0 rfl
theorem dX10_held_1 : decode cX10_held 1 = .ok (.lconst 0, 1) := dq daX10_held_34_0 1 rfl
theorem dX10_held_2 : decode cX10_held 2 = .ok (.lcmp, 1) := dq daX10_held_34_0 2 rfl
theorem dX10_held_3 : decode cX10_held 3 = .ok (.ifCond .ge 5, 3) := dq daX10_held_34_0 3 rfl
theorem dX10_held_8 : decode cX10_held 8 = .ok (.lload_n 0, 1) := dq daX10_held_34_0 4 rfl
theorem dX10_held_9 : decode cX10_held 9 = .ok (.iload_n 2, 1) := dq daX10_held_34_0 5 rfl
theorem dX10_held_10 : decode cX10_held 10 = .ok (.i2l, 1) := dq daX10_held_34_0 6 rfl
theorem dX10_held_11 : decode cX10_held 11 = .ok (.lcmp, 1) := dq daX10_held_34_0 7 rfl
theorem dX10_held_12 : decode cX10_held 12 = .ok (.ifCond .le 7, 3) := dq daX10_held_34_0 8 rfl
theorem dX10_held_19 : decode cX10_held 19 = .ok (.lload_n 0, 1) := dq daX10_held_34_0 9 rfl
theorem dX10_held_20 : decode cX10_held 20 = .ok (.l2i, 1) := dq daX10_held_34_0 10 rfl
theorem dX10_held_21 : decode cX10_held 21 = .ok (.ireturn, 1) := dq daX10_held_34_0 11 rfl
theorem dX10_held_15 : decode cX10_held 15 = .ok (.iload_n 2, 1) := dq daX10_held_34_0 12 rfl
theorem dX10_held_16 : decode cX10_held 16 = .ok (.goto 5, 3) := dq daX10_held_34_0 13 rfl
theorem dX10_held_6 : decode cX10_held 6 = .ok (.iconst 0, 1) := dq daX10_held_34_0 14 rfl
theorem dX10_held_7 : decode cX10_held 7 = .ok (.ireturn, 1) := dq daX10_held_34_0 15 rfl
def dtX0_setLoadOf_34_0 : List (Nat × Jvm.ClassFile.Instr × Nat) := [(0, .aload_n 1, 1), (1, .getfield 18, 3), (4, .astore_n 3, 1), (5, .aload_n 0, 1), (6, .getfield 12, 3), (9, .aload_n 3, 1), (10, .iload_n 2, 1), (11, .iconst 0, 1), (12, .invokevirtual 30, 3), (15, .aload_n 3, 1), (16, .iload_n 2, 1), (17, .iconst 5, 1), (18, .invokevirtual 30, 3), (21, .aload_n 3, 1), (22, .iload_n 2, 1), (23, .bipush 6, 2), (25, .invokevirtual 30, 3), (28, .invokevirtual 94, 3), (31, .return_, 1)]
theorem daX0_setLoadOf_34_0 : dtX0_setLoadOf_34_0.all (dqd cX0_setLoadOf) = true := by decide +kernel
theorem dX0_setLoadOf_0 : decode cX0_setLoadOf 0 = .ok (.aload_n 1, 1) := dq daX0_setLoadOf_34_0 0 rfl
theorem dX0_setLoadOf_1 : decode cX0_setLoadOf 1 = .ok (.getfield 18, 3) := dq daX0_setLoadOf_34_0 1 rfl
theorem dX0_setLoadOf_4 : decode cX0_setLoadOf 4 = .ok (.astore_n 3, 1) := dq daX0_setLoadOf_34_0 2 rfl
theorem dX0_setLoadOf_5 : decode cX0_setLoadOf 5 = .ok (.aload_n 0, 1) := dq daX0_setLoadOf_34_0 3 rfl
theorem dX0_setLoadOf_6 : decode cX0_setLoadOf 6 = .ok (.getfield 12, 3) := dq daX0_setLoadOf_34_0 4 rfl
theorem dX0_setLoadOf_9 : decode cX0_setLoadOf 9 = .ok (.aload_n 3, 1) := dq daX0_setLoadOf_34_0 5 rfl
theorem dX0_setLoadOf_10 : decode cX0_setLoadOf 10 = .ok (.iload_n 2, 1) := dq daX0_setLoadOf_34_0 6 rfl
theorem dX0_setLoadOf_11 : decode cX0_setLoadOf 11 = .ok (.iconst 0, 1) := dq daX0_setLoadOf_34_0 7 rfl
theorem dX0_setLoadOf_12 : decode cX0_setLoadOf 12 = .ok (.invokevirtual 30, 3) := dq daX0_setLoadOf_34_0 8 rfl
theorem dX0_setLoadOf_15 : decode cX0_setLoadOf 15 = .ok (.aload_n 3, 1) := dq daX0_setLoadOf_34_0 9 rfl
theorem dX0_setLoadOf_16 : decode cX0_setLoadOf 16 = .ok (.iload_n 2, 1) := dq daX0_setLoadOf_34_0 10 rfl
theorem dX0_setLoadOf_17 : decode cX0_setLoadOf 17 = .ok (.iconst 5, 1) := dq daX0_setLoadOf_34_0 11 rfl
theorem dX0_setLoadOf_18 : decode cX0_setLoadOf 18 = .ok (.invokevirtual 30, 3) := dq daX0_setLoadOf_34_0 12 rfl
theorem dX0_setLoadOf_21 : decode cX0_setLoadOf 21 = .ok (.aload_n 3, 1) := dq daX0_setLoadOf_34_0 13 rfl
theorem dX0_setLoadOf_22 : decode cX0_setLoadOf 22 = .ok (.iload_n 2, 1) := dq daX0_setLoadOf_34_0 14 rfl
theorem dX0_setLoadOf_23 : decode cX0_setLoadOf 23 = .ok (.bipush 6, 2) := dq daX0_setLoadOf_34_0 15 rfl
theorem dX0_setLoadOf_25 : decode cX0_setLoadOf 25 = .ok (.invokevirtual 30, 3) := dq daX0_setLoadOf_34_0 16 rfl
theorem dX0_setLoadOf_28 : decode cX0_setLoadOf 28 = .ok (.invokevirtual 94, 3) := dq daX0_setLoadOf_34_0 17 rfl
theorem dX0_setLoadOf_31 : decode cX0_setLoadOf 31 = .ok (.return_, 1) := dq daX0_setLoadOf_34_0 18 rfl
def dtX0_meltOf_34_0 : List (Nat × Jvm.ClassFile.Instr × Nat) := [(0, .aload_n 1, 1), (1, .getfield 18, 3), (4, .iload_n 3, 1), (5, .iconst 0, 1), (6, .invokevirtual 30, 3), (9, .istore 4, 2), (11, .iload 4, 2), (13, .ifCond .ne 5, 3), (18, .aload_n 1, 1), (19, .getfield 18, 3), (22, .iload_n 3, 1), (23, .iconst 1, 1), (24, .invokevirtual 30, 3), (27, .istore 5, 2), (29, .iload 5, 2), (31, .bipush 12, 2), (33, .if_icmp .ne 48, 3), (81, .aload_n 0, 1), (82, .getfield 12, 3), (85, .aload_n 1, 1), (86, .iload 5, 2), (88, .invokevirtual 70, 3), (91, .aload_n 0, 1), (92, .getfield 12, 3), (95, .aload_n 1, 1), (96, .aload_n 1, 1), (97, .getfield 41, 3), (100, .invokevirtual 74, 3), (103, .aload_n 0, 1), (104, .aload_n 1, 1), (105, .iload_n 3, 1), (106, .invokevirtual 77, 3)]
theorem daX0_meltOf_34_0 : dtX0_meltOf_34_0.all (dqd cX0_meltOf) = true := by decide +kernel
theorem dX0_meltOf_0 : decode cX0_meltOf 0 = .ok (.aload_n 1, 1) := dq daX0_meltOf_34_0 0 rfl
theorem dX0_meltOf_1 : decode cX0_meltOf 1 = .ok (.getfield 18, 3) := dq daX0_meltOf_34_0 1 rfl
theorem dX0_meltOf_4 : decode cX0_meltOf 4 = .ok (.iload_n 3, 1) := dq daX0_meltOf_34_0 2 rfl
theorem dX0_meltOf_5 : decode cX0_meltOf 5 = .ok (.iconst 0, 1) := dq daX0_meltOf_34_0 3 rfl
theorem dX0_meltOf_6 : decode cX0_meltOf 6 = .ok (.invokevirtual 30, 3) := dq daX0_meltOf_34_0 4 rfl
theorem dX0_meltOf_9 : decode cX0_meltOf 9 = .ok (.istore 4, 2) := dq daX0_meltOf_34_0 5 rfl
theorem dX0_meltOf_11 : decode cX0_meltOf 11 = .ok (.iload 4, 2) := dq daX0_meltOf_34_0 6 rfl
theorem dX0_meltOf_13 : decode cX0_meltOf 13 = .ok (.ifCond .ne 5, 3) := dq daX0_meltOf_34_0 7 rfl
theorem dX0_meltOf_18 : decode cX0_meltOf 18 = .ok (.aload_n 1, 1) := dq daX0_meltOf_34_0 8 rfl
theorem dX0_meltOf_19 : decode cX0_meltOf 19 = .ok (.getfield 18, 3) := dq daX0_meltOf_34_0 9 rfl
theorem dX0_meltOf_22 : decode cX0_meltOf 22 = .ok (.iload_n 3, 1) := dq daX0_meltOf_34_0 10 rfl
theorem dX0_meltOf_23 : decode cX0_meltOf 23 = .ok (.iconst 1, 1) := dq daX0_meltOf_34_0 11 rfl
theorem dX0_meltOf_24 : decode cX0_meltOf 24 = .ok (.invokevirtual 30, 3) := dq daX0_meltOf_34_0 12 rfl
theorem dX0_meltOf_27 : decode cX0_meltOf 27 = .ok (.istore 5, 2) := dq daX0_meltOf_34_0 13 rfl
theorem dX0_meltOf_29 : decode cX0_meltOf 29 = .ok (.iload 5, 2) := dq daX0_meltOf_34_0 14 rfl
theorem dX0_meltOf_31 : decode cX0_meltOf 31 = .ok (.bipush 12, 2) := dq daX0_meltOf_34_0 15 rfl
theorem dX0_meltOf_33 : decode cX0_meltOf 33 = .ok (.if_icmp .ne 48, 3) := dq daX0_meltOf_34_0 16 rfl
theorem dX0_meltOf_81 : decode cX0_meltOf 81 = .ok (.aload_n 0, 1) := dq daX0_meltOf_34_0 17 rfl
theorem dX0_meltOf_82 : decode cX0_meltOf 82 = .ok (.getfield 12, 3) := dq daX0_meltOf_34_0 18 rfl
theorem dX0_meltOf_85 : decode cX0_meltOf 85 = .ok (.aload_n 1, 1) := dq daX0_meltOf_34_0 19 rfl
theorem dX0_meltOf_86 : decode cX0_meltOf 86 = .ok (.iload 5, 2) := dq daX0_meltOf_34_0 20 rfl
theorem dX0_meltOf_88 : decode cX0_meltOf 88 = .ok (.invokevirtual 70, 3) := dq daX0_meltOf_34_0 21 rfl
theorem dX0_meltOf_91 : decode cX0_meltOf 91 = .ok (.aload_n 0, 1) := dq daX0_meltOf_34_0 22 rfl
theorem dX0_meltOf_92 : decode cX0_meltOf 92 = .ok (.getfield 12, 3) := dq daX0_meltOf_34_0 23 rfl
theorem dX0_meltOf_95 : decode cX0_meltOf 95 = .ok (.aload_n 1, 1) := dq daX0_meltOf_34_0 24 rfl
theorem dX0_meltOf_96 : decode cX0_meltOf 96 = .ok (.aload_n 1, 1) := dq daX0_meltOf_34_0 25 rfl
theorem dX0_meltOf_97 : decode cX0_meltOf 97 = .ok (.getfield 41, 3) := dq daX0_meltOf_34_0 26 rfl
theorem dX0_meltOf_100 : decode cX0_meltOf 100 = .ok (.invokevirtual 74, 3) := dq daX0_meltOf_34_0 27 rfl
theorem dX0_meltOf_103 : decode cX0_meltOf 103 = .ok (.aload_n 0, 1) := dq daX0_meltOf_34_0 28 rfl
theorem dX0_meltOf_104 : decode cX0_meltOf 104 = .ok (.aload_n 1, 1) := dq daX0_meltOf_34_0 29 rfl
theorem dX0_meltOf_105 : decode cX0_meltOf 105 = .ok (.iload_n 3, 1) := dq daX0_meltOf_34_0 30 rfl
theorem dX0_meltOf_106 : decode cX0_meltOf 106 = .ok (.invokevirtual 77, 3) := dq daX0_meltOf_34_0 31 rfl
def dtX0_meltOf_34_1 : List (Nat × Jvm.ClassFile.Instr × Nat) := [(109, .aload_n 2, 1), (110, .iconst 0, 1), (111, .aload_n 0, 1), (112, .getfield 12, 3), (115, .getfield 80, 3), (118, .invokevirtual 84, 3), (121, .iload 4, 2), (123, .invokestatic 90, 3), (36, .aload_n 0, 1), (37, .getfield 12, 3), (40, .aload_n 1, 1), (41, .aload_n 1, 1), (42, .getfield 18, 3), (45, .iload_n 3, 1), (46, .iconst 2, 1), (47, .invokevirtual 30, 3), (50, .aload_n 1, 1), (51, .getfield 18, 3), (54, .iload_n 3, 1), (55, .iconst 4, 1), (56, .invokevirtual 30, 3), (59, .invokevirtual 62, 3), (62, .aload_n 0, 1), (63, .getfield 12, 3), (66, .aload_n 1, 1), (67, .getfield 18, 3), (70, .iload_n 3, 1), (71, .iconst 3, 1), (72, .invokevirtual 30, 3), (75, .invokevirtual 66, 3), (78, .goto 13, 3), (16, .iconst 0, 1)]
theorem daX0_meltOf_34_1 : dtX0_meltOf_34_1.all (dqd cX0_meltOf) = true := by decide +kernel
theorem dX0_meltOf_109 : decode cX0_meltOf 109 = .ok (.aload_n 2, 1) := dq daX0_meltOf_34_1 0 rfl
theorem dX0_meltOf_110 : decode cX0_meltOf 110 = .ok (.iconst 0, 1) := dq daX0_meltOf_34_1 1 rfl
theorem dX0_meltOf_111 : decode cX0_meltOf 111 = .ok (.aload_n 0, 1) := dq daX0_meltOf_34_1 2 rfl
theorem dX0_meltOf_112 : decode cX0_meltOf 112 = .ok (.getfield 12, 3) := dq daX0_meltOf_34_1 3 rfl
theorem dX0_meltOf_115 : decode cX0_meltOf 115 = .ok (.getfield 80, 3) := dq daX0_meltOf_34_1 4 rfl
theorem dX0_meltOf_118 : decode cX0_meltOf 118 = .ok (.invokevirtual 84, 3) := dq daX0_meltOf_34_1 5 rfl
theorem dX0_meltOf_121 : decode cX0_meltOf 121 = .ok (.iload 4, 2) := dq daX0_meltOf_34_1 6 rfl
theorem dX0_meltOf_123 : decode cX0_meltOf 123 = .ok (.invokestatic 90, 3) := dq daX0_meltOf_34_1 7 rfl
theorem dX0_meltOf_36 : decode cX0_meltOf 36 = .ok (.aload_n 0, 1) := dq daX0_meltOf_34_1 8 rfl
theorem dX0_meltOf_37 : decode cX0_meltOf 37 = .ok (.getfield 12, 3) := dq daX0_meltOf_34_1 9 rfl
theorem dX0_meltOf_40 : decode cX0_meltOf 40 = .ok (.aload_n 1, 1) := dq daX0_meltOf_34_1 10 rfl
theorem dX0_meltOf_41 : decode cX0_meltOf 41 = .ok (.aload_n 1, 1) := dq daX0_meltOf_34_1 11 rfl
theorem dX0_meltOf_42 : decode cX0_meltOf 42 = .ok (.getfield 18, 3) := dq daX0_meltOf_34_1 12 rfl
theorem dX0_meltOf_45 : decode cX0_meltOf 45 = .ok (.iload_n 3, 1) := dq daX0_meltOf_34_1 13 rfl
theorem dX0_meltOf_46 : decode cX0_meltOf 46 = .ok (.iconst 2, 1) := dq daX0_meltOf_34_1 14 rfl
theorem dX0_meltOf_47 : decode cX0_meltOf 47 = .ok (.invokevirtual 30, 3) := dq daX0_meltOf_34_1 15 rfl
theorem dX0_meltOf_50 : decode cX0_meltOf 50 = .ok (.aload_n 1, 1) := dq daX0_meltOf_34_1 16 rfl
theorem dX0_meltOf_51 : decode cX0_meltOf 51 = .ok (.getfield 18, 3) := dq daX0_meltOf_34_1 17 rfl
theorem dX0_meltOf_54 : decode cX0_meltOf 54 = .ok (.iload_n 3, 1) := dq daX0_meltOf_34_1 18 rfl
theorem dX0_meltOf_55 : decode cX0_meltOf 55 = .ok (.iconst 4, 1) := dq daX0_meltOf_34_1 19 rfl
theorem dX0_meltOf_56 : decode cX0_meltOf 56 = .ok (.invokevirtual 30, 3) := dq daX0_meltOf_34_1 20 rfl
theorem dX0_meltOf_59 : decode cX0_meltOf 59 = .ok (.invokevirtual 62, 3) := dq daX0_meltOf_34_1 21 rfl
theorem dX0_meltOf_62 : decode cX0_meltOf 62 = .ok (.aload_n 0, 1) := dq daX0_meltOf_34_1 22 rfl
theorem dX0_meltOf_63 : decode cX0_meltOf 63 = .ok (.getfield 12, 3) := dq daX0_meltOf_34_1 23 rfl
theorem dX0_meltOf_66 : decode cX0_meltOf 66 = .ok (.aload_n 1, 1) := dq daX0_meltOf_34_1 24 rfl
theorem dX0_meltOf_67 : decode cX0_meltOf 67 = .ok (.getfield 18, 3) := dq daX0_meltOf_34_1 25 rfl
theorem dX0_meltOf_70 : decode cX0_meltOf 70 = .ok (.iload_n 3, 1) := dq daX0_meltOf_34_1 26 rfl
theorem dX0_meltOf_71 : decode cX0_meltOf 71 = .ok (.iconst 3, 1) := dq daX0_meltOf_34_1 27 rfl
theorem dX0_meltOf_72 : decode cX0_meltOf 72 = .ok (.invokevirtual 30, 3) := dq daX0_meltOf_34_1 28 rfl
theorem dX0_meltOf_75 : decode cX0_meltOf 75 = .ok (.invokevirtual 66, 3) := dq daX0_meltOf_34_1 29 rfl
theorem dX0_meltOf_78 : decode cX0_meltOf 78 = .ok (.goto 13, 3) := dq daX0_meltOf_34_1 30 rfl
theorem dX0_meltOf_16 : decode cX0_meltOf 16 = .ok (.iconst 0, 1) := dq daX0_meltOf_34_1 31 rfl
def dtX0_meltOf_34_2 : List (Nat × Jvm.ClassFile.Instr × Nat) := [(17, .ireturn, 1), (126, .ireturn, 1)]
theorem daX0_meltOf_34_2 : dtX0_meltOf_34_2.all (dqd cX0_meltOf) = true := by decide +kernel
theorem dX0_meltOf_17 : decode cX0_meltOf 17 = .ok (.ireturn, 1) := dq daX0_meltOf_34_2 0 rfl
theorem dX0_meltOf_126 : decode cX0_meltOf 126 = .ok (.ireturn, 1) := dq daX0_meltOf_34_2 1 rfl
def dtX0_restOf_34_0 : List (Nat × Jvm.ClassFile.Instr × Nat) := [(0, .iload 5, 2), (2, .ifCond .ne 5, 3), (7, .aload_n 0, 1), (8, .getfield 12, 3), (11, .aload_n 1, 1), (12, .iload 4, 2), (14, .invokevirtual 74, 3), (17, .aload_n 0, 1), (18, .getfield 12, 3), (21, .aload_n 1, 1), (22, .iload_n 3, 1), (23, .invokevirtual 70, 3), (26, .aload_n 0, 1), (27, .getfield 12, 3), (30, .iload 5, 2), (32, .iconst 0, 1), (33, .iconst 0, 1), (34, .invokevirtual 94, 3), (37, .aload_n 2, 1), (38, .iconst 1, 1), (39, .aload_n 0, 1), (40, .getfield 12, 3), (43, .getfield 80, 3), (46, .invokevirtual 84, 3), (49, .iload 5, 2), (51, .invokestatic 90, 3), (5, .iconst 0, 1), (6, .ireturn, 1), (54, .ireturn, 1)]
theorem daX0_restOf_34_0 : dtX0_restOf_34_0.all (dqd cX0_restOf) = true := by decide +kernel
theorem dX0_restOf_0 : decode cX0_restOf 0 = .ok (.iload 5, 2) := dq daX0_restOf_34_0 0 rfl
theorem dX0_restOf_2 : decode cX0_restOf 2 = .ok (.ifCond .ne 5, 3) := dq daX0_restOf_34_0 1 rfl
theorem dX0_restOf_7 : decode cX0_restOf 7 = .ok (.aload_n 0, 1) := dq daX0_restOf_34_0 2 rfl
theorem dX0_restOf_8 : decode cX0_restOf 8 = .ok (.getfield 12, 3) := dq daX0_restOf_34_0 3 rfl
theorem dX0_restOf_11 : decode cX0_restOf 11 = .ok (.aload_n 1, 1) := dq daX0_restOf_34_0 4 rfl
theorem dX0_restOf_12 : decode cX0_restOf 12 = .ok (.iload 4, 2) := dq daX0_restOf_34_0 5 rfl
theorem dX0_restOf_14 : decode cX0_restOf 14 = .ok (.invokevirtual 74, 3) := dq daX0_restOf_34_0 6 rfl
theorem dX0_restOf_17 : decode cX0_restOf 17 = .ok (.aload_n 0, 1) := dq daX0_restOf_34_0 7 rfl
theorem dX0_restOf_18 : decode cX0_restOf 18 = .ok (.getfield 12, 3) := dq daX0_restOf_34_0 8 rfl
theorem dX0_restOf_21 : decode cX0_restOf 21 = .ok (.aload_n 1, 1) := dq daX0_restOf_34_0 9 rfl
theorem dX0_restOf_22 : decode cX0_restOf 22 = .ok (.iload_n 3, 1) := dq daX0_restOf_34_0 10 rfl
theorem dX0_restOf_23 : decode cX0_restOf 23 = .ok (.invokevirtual 70, 3) := dq daX0_restOf_34_0 11 rfl
theorem dX0_restOf_26 : decode cX0_restOf 26 = .ok (.aload_n 0, 1) := dq daX0_restOf_34_0 12 rfl
theorem dX0_restOf_27 : decode cX0_restOf 27 = .ok (.getfield 12, 3) := dq daX0_restOf_34_0 13 rfl
theorem dX0_restOf_30 : decode cX0_restOf 30 = .ok (.iload 5, 2) := dq daX0_restOf_34_0 14 rfl
theorem dX0_restOf_32 : decode cX0_restOf 32 = .ok (.iconst 0, 1) := dq daX0_restOf_34_0 15 rfl
theorem dX0_restOf_33 : decode cX0_restOf 33 = .ok (.iconst 0, 1) := dq daX0_restOf_34_0 16 rfl
theorem dX0_restOf_34 : decode cX0_restOf 34 = .ok (.invokevirtual 94, 3) := dq daX0_restOf_34_0 17 rfl
theorem dX0_restOf_37 : decode cX0_restOf 37 = .ok (.aload_n 2, 1) := dq daX0_restOf_34_0 18 rfl
theorem dX0_restOf_38 : decode cX0_restOf 38 = .ok (.iconst 1, 1) := dq daX0_restOf_34_0 19 rfl
theorem dX0_restOf_39 : decode cX0_restOf 39 = .ok (.aload_n 0, 1) := dq daX0_restOf_34_0 20 rfl
theorem dX0_restOf_40 : decode cX0_restOf 40 = .ok (.getfield 12, 3) := dq daX0_restOf_34_0 21 rfl
theorem dX0_restOf_43 : decode cX0_restOf 43 = .ok (.getfield 80, 3) := dq daX0_restOf_34_0 22 rfl
theorem dX0_restOf_46 : decode cX0_restOf 46 = .ok (.invokevirtual 84, 3) := dq daX0_restOf_34_0 23 rfl
theorem dX0_restOf_49 : decode cX0_restOf 49 = .ok (.iload 5, 2) := dq daX0_restOf_34_0 24 rfl
theorem dX0_restOf_51 : decode cX0_restOf 51 = .ok (.invokestatic 90, 3) := dq daX0_restOf_34_0 25 rfl
theorem dX0_restOf_5 : decode cX0_restOf 5 = .ok (.iconst 0, 1) := dq daX0_restOf_34_0 26 rfl
theorem dX0_restOf_6 : decode cX0_restOf 6 = .ok (.ireturn, 1) := dq daX0_restOf_34_0 27 rfl
theorem dX0_restOf_54 : decode cX0_restOf 54 = .ok (.ireturn, 1) := dq daX0_restOf_34_0 28 rfl
def dtX0_nextBehind_34_0 : List (Nat × Jvm.ClassFile.Instr × Nat) := [(0, .aload_n 1, 1), (1, .getfield 18, 3), (4, .astore 5, 2), (6, .iconst (-1), 1), (7, .istore 6, 2), (9, .iconst 0, 1), (10, .istore 7, 2), (12, .iload 7, 2), (14, .aload 5, 2), (16, .getfield 24, 3), (19, .if_icmp .ge 153, 3), (22, .aload 5, 2), (24, .iload 7, 2), (26, .iconst 1, 1), (27, .invokevirtual 30, 3), (30, .iload_n 3, 1), (31, .if_icmp .eq 16, 3), (47, .iconst 1, 1), (48, .goto 4, 3), (52, .istore 8, 2), (54, .aload 5, 2), (56, .iload 7, 2), (58, .bipush 7, 2), (60, .invokevirtual 30, 3), (63, .aload 5, 2), (65, .iload_n 2, 1), (66, .bipush 7, 2), (68, .invokevirtual 30, 3), (71, .if_icmp .ne 7, 3), (78, .iconst 0, 1), (79, .istore 9, 2), (81, .aload 5, 2)]
theorem daX0_nextBehind_34_0 : dtX0_nextBehind_34_0.all (dqd cX0_nextBehind) = true := by decide +kernel
theorem dX0_nextBehind_0 : decode cX0_nextBehind 0 = .ok (.aload_n 1, 1) := dq daX0_nextBehind_34_0 0 rfl
theorem dX0_nextBehind_1 : decode cX0_nextBehind 1 = .ok (.getfield 18, 3) := dq daX0_nextBehind_34_0 1 rfl
theorem dX0_nextBehind_4 : decode cX0_nextBehind 4 = .ok (.astore 5, 2) := dq daX0_nextBehind_34_0 2 rfl
theorem dX0_nextBehind_6 : decode cX0_nextBehind 6 = .ok (.iconst (-1), 1) := dq daX0_nextBehind_34_0 3 rfl
theorem dX0_nextBehind_7 : decode cX0_nextBehind 7 = .ok (.istore 6, 2) := dq daX0_nextBehind_34_0 4 rfl
theorem dX0_nextBehind_9 : decode cX0_nextBehind 9 = .ok (.iconst 0, 1) := dq daX0_nextBehind_34_0 5 rfl
theorem dX0_nextBehind_10 : decode cX0_nextBehind 10 = .ok (.istore 7, 2) := dq daX0_nextBehind_34_0 6 rfl
theorem dX0_nextBehind_12 : decode cX0_nextBehind 12 = .ok (.iload 7, 2) := dq daX0_nextBehind_34_0 7 rfl
theorem dX0_nextBehind_14 : decode cX0_nextBehind 14 = .ok (.aload 5, 2) := dq daX0_nextBehind_34_0 8 rfl
theorem dX0_nextBehind_16 : decode cX0_nextBehind 16 = .ok (.getfield 24, 3) := dq daX0_nextBehind_34_0 9 rfl
theorem dX0_nextBehind_19 : decode cX0_nextBehind 19 = .ok (.if_icmp .ge 153, 3) := dq daX0_nextBehind_34_0 10 rfl
theorem dX0_nextBehind_22 : decode cX0_nextBehind 22 = .ok (.aload 5, 2) := dq daX0_nextBehind_34_0 11 rfl
theorem dX0_nextBehind_24 : decode cX0_nextBehind 24 = .ok (.iload 7, 2) := dq daX0_nextBehind_34_0 12 rfl
theorem dX0_nextBehind_26 : decode cX0_nextBehind 26 = .ok (.iconst 1, 1) := dq daX0_nextBehind_34_0 13 rfl
theorem dX0_nextBehind_27 : decode cX0_nextBehind 27 = .ok (.invokevirtual 30, 3) := dq daX0_nextBehind_34_0 14 rfl
theorem dX0_nextBehind_30 : decode cX0_nextBehind 30 = .ok (.iload_n 3, 1) := dq daX0_nextBehind_34_0 15 rfl
theorem dX0_nextBehind_31 : decode cX0_nextBehind 31 = .ok (.if_icmp .eq 16, 3) := dq daX0_nextBehind_34_0 16 rfl
theorem dX0_nextBehind_47 : decode cX0_nextBehind 47 = .ok (.iconst 1, 1) := dq daX0_nextBehind_34_0 17 rfl
theorem dX0_nextBehind_48 : decode cX0_nextBehind 48 = .ok (.goto 4, 3) := dq daX0_nextBehind_34_0 18 rfl
theorem dX0_nextBehind_52 : decode cX0_nextBehind 52 = .ok (.istore 8, 2) := dq daX0_nextBehind_34_0 19 rfl
theorem dX0_nextBehind_54 : decode cX0_nextBehind 54 = .ok (.aload 5, 2) := dq daX0_nextBehind_34_0 20 rfl
theorem dX0_nextBehind_56 : decode cX0_nextBehind 56 = .ok (.iload 7, 2) := dq daX0_nextBehind_34_0 21 rfl
theorem dX0_nextBehind_58 : decode cX0_nextBehind 58 = .ok (.bipush 7, 2) := dq daX0_nextBehind_34_0 22 rfl
theorem dX0_nextBehind_60 : decode cX0_nextBehind 60 = .ok (.invokevirtual 30, 3) := dq daX0_nextBehind_34_0 23 rfl
theorem dX0_nextBehind_63 : decode cX0_nextBehind 63 = .ok (.aload 5, 2) := dq daX0_nextBehind_34_0 24 rfl
theorem dX0_nextBehind_65 : decode cX0_nextBehind 65 = .ok (.iload_n 2, 1) := dq daX0_nextBehind_34_0 25 rfl
theorem dX0_nextBehind_66 : decode cX0_nextBehind 66 = .ok (.bipush 7, 2) := dq daX0_nextBehind_34_0 26 rfl
theorem dX0_nextBehind_68 : decode cX0_nextBehind 68 = .ok (.invokevirtual 30, 3) := dq daX0_nextBehind_34_0 27 rfl
theorem dX0_nextBehind_71 : decode cX0_nextBehind 71 = .ok (.if_icmp .ne 7, 3) := dq daX0_nextBehind_34_0 28 rfl
theorem dX0_nextBehind_78 : decode cX0_nextBehind 78 = .ok (.iconst 0, 1) := dq daX0_nextBehind_34_0 29 rfl
theorem dX0_nextBehind_79 : decode cX0_nextBehind 79 = .ok (.istore 9, 2) := dq daX0_nextBehind_34_0 30 rfl
theorem dX0_nextBehind_81 : decode cX0_nextBehind 81 = .ok (.aload 5, 2) := dq daX0_nextBehind_34_0 31 rfl
def dtX0_nextBehind_34_1 : List (Nat × Jvm.ClassFile.Instr × Nat) := [(83, .iload 7, 2), (85, .bipush 8, 2), (87, .invokevirtual 30, 3), (90, .aload 5, 2), (92, .iload_n 2, 1), (93, .bipush 8, 2), (95, .invokevirtual 30, 3), (98, .if_icmp .le 7, 3), (105, .iconst 0, 1), (106, .istore 10, 2), (108, .iload 6, 2), (110, .iconst (-1), 1), (111, .if_icmp .eq 24, 3), (135, .iconst 1, 1), (136, .goto 4, 3), (140, .istore 11, 2), (142, .iload 8, 2), (144, .ifCond .eq 22, 3), (147, .iload 9, 2), (149, .ifCond .eq 17, 3), (166, .iinc 7 1, 3), (169, .goto (-157), 3), (101, .iconst 1, 1), (102, .goto 4, 3), (74, .iconst 1, 1), (75, .goto 4, 3), (152, .iload 10, 2), (154, .ifCond .eq 12, 3), (157, .iload 11, 2), (159, .ifCond .eq 7, 3), (162, .iload 7, 2), (164, .istore 6, 2)]
theorem daX0_nextBehind_34_1 : dtX0_nextBehind_34_1.all (dqd cX0_nextBehind) = true := by decide +kernel
theorem dX0_nextBehind_83 : decode cX0_nextBehind 83 = .ok (.iload 7, 2) := dq daX0_nextBehind_34_1 0 rfl
theorem dX0_nextBehind_85 : decode cX0_nextBehind 85 = .ok (.bipush 8, 2) := dq daX0_nextBehind_34_1 1 rfl
theorem dX0_nextBehind_87 : decode cX0_nextBehind 87 = .ok (.invokevirtual 30, 3) := dq daX0_nextBehind_34_1 2 rfl
theorem dX0_nextBehind_90 : decode cX0_nextBehind 90 = .ok (.aload 5, 2) := dq daX0_nextBehind_34_1 3 rfl
theorem dX0_nextBehind_92 : decode cX0_nextBehind 92 = .ok (.iload_n 2, 1) := dq daX0_nextBehind_34_1 4 rfl
theorem dX0_nextBehind_93 : decode cX0_nextBehind 93 = .ok (.bipush 8, 2) := dq daX0_nextBehind_34_1 5 rfl
theorem dX0_nextBehind_95 : decode cX0_nextBehind 95 = .ok (.invokevirtual 30, 3) := dq daX0_nextBehind_34_1 6 rfl
theorem dX0_nextBehind_98 : decode cX0_nextBehind 98 = .ok (.if_icmp .le 7, 3) := dq daX0_nextBehind_34_1 7 rfl
theorem dX0_nextBehind_105 : decode cX0_nextBehind 105 = .ok (.iconst 0, 1) := dq daX0_nextBehind_34_1 8 rfl
theorem dX0_nextBehind_106 : decode cX0_nextBehind 106 = .ok (.istore 10, 2) := dq daX0_nextBehind_34_1 9 rfl
theorem dX0_nextBehind_108 : decode cX0_nextBehind 108 = .ok (.iload 6, 2) := dq daX0_nextBehind_34_1 10 rfl
theorem dX0_nextBehind_110 : decode cX0_nextBehind 110 = .ok (.iconst (-1), 1) := dq daX0_nextBehind_34_1 11 rfl
theorem dX0_nextBehind_111 : decode cX0_nextBehind 111 = .ok (.if_icmp .eq 24, 3) := dq daX0_nextBehind_34_1 12 rfl
theorem dX0_nextBehind_135 : decode cX0_nextBehind 135 = .ok (.iconst 1, 1) := dq daX0_nextBehind_34_1 13 rfl
theorem dX0_nextBehind_136 : decode cX0_nextBehind 136 = .ok (.goto 4, 3) := dq daX0_nextBehind_34_1 14 rfl
theorem dX0_nextBehind_140 : decode cX0_nextBehind 140 = .ok (.istore 11, 2) := dq daX0_nextBehind_34_1 15 rfl
theorem dX0_nextBehind_142 : decode cX0_nextBehind 142 = .ok (.iload 8, 2) := dq daX0_nextBehind_34_1 16 rfl
theorem dX0_nextBehind_144 : decode cX0_nextBehind 144 = .ok (.ifCond .eq 22, 3) := dq daX0_nextBehind_34_1 17 rfl
theorem dX0_nextBehind_147 : decode cX0_nextBehind 147 = .ok (.iload 9, 2) := dq daX0_nextBehind_34_1 18 rfl
theorem dX0_nextBehind_149 : decode cX0_nextBehind 149 = .ok (.ifCond .eq 17, 3) := dq daX0_nextBehind_34_1 19 rfl
theorem dX0_nextBehind_166 : decode cX0_nextBehind 166 = .ok (.iinc 7 1, 3) := dq daX0_nextBehind_34_1 20 rfl
theorem dX0_nextBehind_169 : decode cX0_nextBehind 169 = .ok (.goto (-157), 3) := dq daX0_nextBehind_34_1 21 rfl
theorem dX0_nextBehind_101 : decode cX0_nextBehind 101 = .ok (.iconst 1, 1) := dq daX0_nextBehind_34_1 22 rfl
theorem dX0_nextBehind_102 : decode cX0_nextBehind 102 = .ok (.goto 4, 3) := dq daX0_nextBehind_34_1 23 rfl
theorem dX0_nextBehind_74 : decode cX0_nextBehind 74 = .ok (.iconst 1, 1) := dq daX0_nextBehind_34_1 24 rfl
theorem dX0_nextBehind_75 : decode cX0_nextBehind 75 = .ok (.goto 4, 3) := dq daX0_nextBehind_34_1 25 rfl
theorem dX0_nextBehind_152 : decode cX0_nextBehind 152 = .ok (.iload 10, 2) := dq daX0_nextBehind_34_1 26 rfl
theorem dX0_nextBehind_154 : decode cX0_nextBehind 154 = .ok (.ifCond .eq 12, 3) := dq daX0_nextBehind_34_1 27 rfl
theorem dX0_nextBehind_157 : decode cX0_nextBehind 157 = .ok (.iload 11, 2) := dq daX0_nextBehind_34_1 28 rfl
theorem dX0_nextBehind_159 : decode cX0_nextBehind 159 = .ok (.ifCond .eq 7, 3) := dq daX0_nextBehind_34_1 29 rfl
theorem dX0_nextBehind_162 : decode cX0_nextBehind 162 = .ok (.iload 7, 2) := dq daX0_nextBehind_34_1 30 rfl
theorem dX0_nextBehind_164 : decode cX0_nextBehind 164 = .ok (.istore 6, 2) := dq daX0_nextBehind_34_1 31 rfl
def dtX0_nextBehind_34_2 : List (Nat × Jvm.ClassFile.Instr × Nat) := [(34, .aload 5, 2), (36, .iload 7, 2), (38, .iconst 2, 1), (39, .invokevirtual 30, 3), (42, .iload 4, 2), (44, .if_icmp .ne 7, 3), (51, .iconst 0, 1), (172, .iload 6, 2), (174, .ireturn, 1), (114, .aload 5, 2), (116, .iload 7, 2), (118, .bipush 8, 2), (120, .invokevirtual 30, 3), (123, .aload 5, 2), (125, .iload 6, 2), (127, .bipush 8, 2), (129, .invokevirtual 30, 3), (132, .if_icmp .ge 7, 3), (139, .iconst 0, 1)]
theorem daX0_nextBehind_34_2 : dtX0_nextBehind_34_2.all (dqd cX0_nextBehind) = true := by decide +kernel
theorem dX0_nextBehind_34 : decode cX0_nextBehind 34 = .ok (.aload 5, 2) := dq daX0_nextBehind_34_2 0 rfl
theorem dX0_nextBehind_36 : decode cX0_nextBehind 36 = .ok (.iload 7, 2) := dq daX0_nextBehind_34_2 1 rfl
theorem dX0_nextBehind_38 : decode cX0_nextBehind 38 = .ok (.iconst 2, 1) := dq daX0_nextBehind_34_2 2 rfl
theorem dX0_nextBehind_39 : decode cX0_nextBehind 39 = .ok (.invokevirtual 30, 3) := dq daX0_nextBehind_34_2 3 rfl
theorem dX0_nextBehind_42 : decode cX0_nextBehind 42 = .ok (.iload 4, 2) := dq daX0_nextBehind_34_2 4 rfl
theorem dX0_nextBehind_44 : decode cX0_nextBehind 44 = .ok (.if_icmp .ne 7, 3) := dq daX0_nextBehind_34_2 5 rfl
theorem dX0_nextBehind_51 : decode cX0_nextBehind 51 = .ok (.iconst 0, 1) := dq daX0_nextBehind_34_2 6 rfl
theorem dX0_nextBehind_172 : decode cX0_nextBehind 172 = .ok (.iload 6, 2) := dq daX0_nextBehind_34_2 7 rfl
theorem dX0_nextBehind_174 : decode cX0_nextBehind 174 = .ok (.ireturn, 1) := dq daX0_nextBehind_34_2 8 rfl
theorem dX0_nextBehind_114 : decode cX0_nextBehind 114 = .ok (.aload 5, 2) := dq daX0_nextBehind_34_2 9 rfl
theorem dX0_nextBehind_116 : decode cX0_nextBehind 116 = .ok (.iload 7, 2) := dq daX0_nextBehind_34_2 10 rfl
theorem dX0_nextBehind_118 : decode cX0_nextBehind 118 = .ok (.bipush 8, 2) := dq daX0_nextBehind_34_2 11 rfl
theorem dX0_nextBehind_120 : decode cX0_nextBehind 120 = .ok (.invokevirtual 30, 3) := dq daX0_nextBehind_34_2 12 rfl
theorem dX0_nextBehind_123 : decode cX0_nextBehind 123 = .ok (.aload 5, 2) := dq daX0_nextBehind_34_2 13 rfl
theorem dX0_nextBehind_125 : decode cX0_nextBehind 125 = .ok (.iload 6, 2) := dq daX0_nextBehind_34_2 14 rfl
theorem dX0_nextBehind_127 : decode cX0_nextBehind 127 = .ok (.bipush 8, 2) := dq daX0_nextBehind_34_2 15 rfl
theorem dX0_nextBehind_129 : decode cX0_nextBehind 129 = .ok (.invokevirtual 30, 3) := dq daX0_nextBehind_34_2 16 rfl
theorem dX0_nextBehind_132 : decode cX0_nextBehind 132 = .ok (.if_icmp .ge 7, 3) := dq daX0_nextBehind_34_2 17 rfl
theorem dX0_nextBehind_139 : decode cX0_nextBehind 139 = .ok (.iconst 0, 1) := dq daX0_nextBehind_34_2 18 rfl
def dtX0_burstFrom_34_0 : List (Nat × Jvm.ClassFile.Instr × Nat) := [(0, .iload_n 3, 1), (1, .istore 6, 2), (3, .iconst 0, 1), (4, .istore 7, 2), (6, .iload 7, 2), (8, .bipush 16, 2), (10, .if_icmp .ge 53, 3), (13, .aload_n 0, 1), (14, .aload_n 1, 1), (15, .iload 6, 2), (17, .iload 4, 2), (19, .iload 5, 2), (21, .invokevirtual 118, 3), (24, .istore 8, 2), (26, .aload_n 1, 1), (27, .iload 6, 2), (29, .invokevirtual 108, 3), (32, .iload 8, 2), (34, .iconst (-1), 1), (35, .if_icmp .eq 17, 3), (38, .aload_n 1, 1), (39, .getfield 18, 3), (42, .iload 8, 2), (44, .iconst 5, 1), (45, .invokevirtual 30, 3), (48, .iload_n 2, 1), (49, .if_icmp .lt 4, 3), (53, .iload 8, 2), (55, .istore 6, 2), (57, .iinc 7 1, 3), (60, .goto (-54), 3), (52, .return_, 1)]
theorem daX0_burstFrom_34_0 : dtX0_burstFrom_34_0.all (dqd cX0_burstFrom) = true := by decide +kernel
theorem dX0_burstFrom_0 : decode cX0_burstFrom 0 = .ok (.iload_n 3, 1) := dq daX0_burstFrom_34_0 0 rfl
theorem dX0_burstFrom_1 : decode cX0_burstFrom 1 = .ok (.istore 6, 2) := dq daX0_burstFrom_34_0 1 rfl
theorem dX0_burstFrom_3 : decode cX0_burstFrom 3 = .ok (.iconst 0, 1) := dq daX0_burstFrom_34_0 2 rfl
theorem dX0_burstFrom_4 : decode cX0_burstFrom 4 = .ok (.istore 7, 2) := dq daX0_burstFrom_34_0 3 rfl
theorem dX0_burstFrom_6 : decode cX0_burstFrom 6 = .ok (.iload 7, 2) := dq daX0_burstFrom_34_0 4 rfl
theorem dX0_burstFrom_8 : decode cX0_burstFrom 8 = .ok (.bipush 16, 2) := dq daX0_burstFrom_34_0 5 rfl
theorem dX0_burstFrom_10 : decode cX0_burstFrom 10 = .ok (.if_icmp .ge 53, 3) := dq daX0_burstFrom_34_0 6 rfl
theorem dX0_burstFrom_13 : decode cX0_burstFrom 13 = .ok (.aload_n 0, 1) := dq daX0_burstFrom_34_0 7 rfl
theorem dX0_burstFrom_14 : decode cX0_burstFrom 14 = .ok (.aload_n 1, 1) := dq daX0_burstFrom_34_0 8 rfl
theorem dX0_burstFrom_15 : decode cX0_burstFrom 15 = .ok (.iload 6, 2) := dq daX0_burstFrom_34_0 9 rfl
theorem dX0_burstFrom_17 : decode cX0_burstFrom 17 = .ok (.iload 4, 2) := dq daX0_burstFrom_34_0 10 rfl
theorem dX0_burstFrom_19 : decode cX0_burstFrom 19 = .ok (.iload 5, 2) := dq daX0_burstFrom_34_0 11 rfl
theorem dX0_burstFrom_21 : decode cX0_burstFrom 21 = .ok (.invokevirtual 118, 3) := dq daX0_burstFrom_34_0 12 rfl
theorem dX0_burstFrom_24 : decode cX0_burstFrom 24 = .ok (.istore 8, 2) := dq daX0_burstFrom_34_0 13 rfl
theorem dX0_burstFrom_26 : decode cX0_burstFrom 26 = .ok (.aload_n 1, 1) := dq daX0_burstFrom_34_0 14 rfl
theorem dX0_burstFrom_27 : decode cX0_burstFrom 27 = .ok (.iload 6, 2) := dq daX0_burstFrom_34_0 15 rfl
theorem dX0_burstFrom_29 : decode cX0_burstFrom 29 = .ok (.invokevirtual 108, 3) := dq daX0_burstFrom_34_0 16 rfl
theorem dX0_burstFrom_32 : decode cX0_burstFrom 32 = .ok (.iload 8, 2) := dq daX0_burstFrom_34_0 17 rfl
theorem dX0_burstFrom_34 : decode cX0_burstFrom 34 = .ok (.iconst (-1), 1) := dq daX0_burstFrom_34_0 18 rfl
theorem dX0_burstFrom_35 : decode cX0_burstFrom 35 = .ok (.if_icmp .eq 17, 3) := dq daX0_burstFrom_34_0 19 rfl
theorem dX0_burstFrom_38 : decode cX0_burstFrom 38 = .ok (.aload_n 1, 1) := dq daX0_burstFrom_34_0 20 rfl
theorem dX0_burstFrom_39 : decode cX0_burstFrom 39 = .ok (.getfield 18, 3) := dq daX0_burstFrom_34_0 21 rfl
theorem dX0_burstFrom_42 : decode cX0_burstFrom 42 = .ok (.iload 8, 2) := dq daX0_burstFrom_34_0 22 rfl
theorem dX0_burstFrom_44 : decode cX0_burstFrom 44 = .ok (.iconst 5, 1) := dq daX0_burstFrom_34_0 23 rfl
theorem dX0_burstFrom_45 : decode cX0_burstFrom 45 = .ok (.invokevirtual 30, 3) := dq daX0_burstFrom_34_0 24 rfl
theorem dX0_burstFrom_48 : decode cX0_burstFrom 48 = .ok (.iload_n 2, 1) := dq daX0_burstFrom_34_0 25 rfl
theorem dX0_burstFrom_49 : decode cX0_burstFrom 49 = .ok (.if_icmp .lt 4, 3) := dq daX0_burstFrom_34_0 26 rfl
theorem dX0_burstFrom_53 : decode cX0_burstFrom 53 = .ok (.iload 8, 2) := dq daX0_burstFrom_34_0 27 rfl
theorem dX0_burstFrom_55 : decode cX0_burstFrom 55 = .ok (.istore 6, 2) := dq daX0_burstFrom_34_0 28 rfl
theorem dX0_burstFrom_57 : decode cX0_burstFrom 57 = .ok (.iinc 7 1, 3) := dq daX0_burstFrom_34_0 29 rfl
theorem dX0_burstFrom_60 : decode cX0_burstFrom 60 = .ok (.goto (-54), 3) := dq daX0_burstFrom_34_0 30 rfl
theorem dX0_burstFrom_52 : decode cX0_burstFrom 52 = .ok (.return_, 1) := dq daX0_burstFrom_34_0 31 rfl
def dtX0_burstFrom_34_1 : List (Nat × Jvm.ClassFile.Instr × Nat) := [(63, .return_, 1)]
theorem daX0_burstFrom_34_1 : dtX0_burstFrom_34_1.all (dqd cX0_burstFrom) = true := by decide +kernel
theorem dX0_burstFrom_63 : decode cX0_burstFrom 63 = .ok (.return_, 1) := dq daX0_burstFrom_34_1 0 rfl
def dtX0_arrive_34_0 : List (Nat × Jvm.ClassFile.Instr × Nat) := [(0, .aload_n 1, 1), (1, .getfield 18, 3), (4, .iload_n 3, 1), (5, .iconst 2, 1), (6, .invokevirtual 30, 3), (9, .istore 4, 2), (11, .aload_n 1, 1), (12, .getfield 18, 3), (15, .iload_n 3, 1), (16, .iconst 4, 1), (17, .invokevirtual 30, 3), (20, .istore 5, 2), (22, .aload_n 1, 1), (23, .iload_n 3, 1), (24, .iload 5, 2), (26, .invokevirtual 97, 3), (29, .aload_n 0, 1), (30, .getfield 12, 3), (33, .aload_n 1, 1), (34, .aload_n 1, 1), (35, .getfield 41, 3), (38, .iconst 1, 1), (39, .iadd, 1), (40, .invokevirtual 74, 3), (43, .aload_n 0, 1), (44, .getfield 12, 3), (47, .aload_n 1, 1), (48, .iload 5, 2), (50, .invokevirtual 70, 3), (53, .aload_n 0, 1), (54, .aload_n 1, 1), (55, .iload_n 3, 1)]
theorem daX0_arrive_34_0 : dtX0_arrive_34_0.all (dqd cX0_arrive) = true := by decide +kernel
theorem dX0_arrive_0 : decode cX0_arrive 0 = .ok (.aload_n 1, 1) := dq daX0_arrive_34_0 0 rfl
theorem dX0_arrive_1 : decode cX0_arrive 1 = .ok (.getfield 18, 3) := dq daX0_arrive_34_0 1 rfl
theorem dX0_arrive_4 : decode cX0_arrive 4 = .ok (.iload_n 3, 1) := dq daX0_arrive_34_0 2 rfl
theorem dX0_arrive_5 : decode cX0_arrive 5 = .ok (.iconst 2, 1) := dq daX0_arrive_34_0 3 rfl
theorem dX0_arrive_6 : decode cX0_arrive 6 = .ok (.invokevirtual 30, 3) := dq daX0_arrive_34_0 4 rfl
theorem dX0_arrive_9 : decode cX0_arrive 9 = .ok (.istore 4, 2) := dq daX0_arrive_34_0 5 rfl
theorem dX0_arrive_11 : decode cX0_arrive 11 = .ok (.aload_n 1, 1) := dq daX0_arrive_34_0 6 rfl
theorem dX0_arrive_12 : decode cX0_arrive 12 = .ok (.getfield 18, 3) := dq daX0_arrive_34_0 7 rfl
theorem dX0_arrive_15 : decode cX0_arrive 15 = .ok (.iload_n 3, 1) := dq daX0_arrive_34_0 8 rfl
theorem dX0_arrive_16 : decode cX0_arrive 16 = .ok (.iconst 4, 1) := dq daX0_arrive_34_0 9 rfl
theorem dX0_arrive_17 : decode cX0_arrive 17 = .ok (.invokevirtual 30, 3) := dq daX0_arrive_34_0 10 rfl
theorem dX0_arrive_20 : decode cX0_arrive 20 = .ok (.istore 5, 2) := dq daX0_arrive_34_0 11 rfl
theorem dX0_arrive_22 : decode cX0_arrive 22 = .ok (.aload_n 1, 1) := dq daX0_arrive_34_0 12 rfl
theorem dX0_arrive_23 : decode cX0_arrive 23 = .ok (.iload_n 3, 1) := dq daX0_arrive_34_0 13 rfl
theorem dX0_arrive_24 : decode cX0_arrive 24 = .ok (.iload 5, 2) := dq daX0_arrive_34_0 14 rfl
theorem dX0_arrive_26 : decode cX0_arrive 26 = .ok (.invokevirtual 97, 3) := dq daX0_arrive_34_0 15 rfl
theorem dX0_arrive_29 : decode cX0_arrive 29 = .ok (.aload_n 0, 1) := dq daX0_arrive_34_0 16 rfl
theorem dX0_arrive_30 : decode cX0_arrive 30 = .ok (.getfield 12, 3) := dq daX0_arrive_34_0 17 rfl
theorem dX0_arrive_33 : decode cX0_arrive 33 = .ok (.aload_n 1, 1) := dq daX0_arrive_34_0 18 rfl
theorem dX0_arrive_34 : decode cX0_arrive 34 = .ok (.aload_n 1, 1) := dq daX0_arrive_34_0 19 rfl
theorem dX0_arrive_35 : decode cX0_arrive 35 = .ok (.getfield 41, 3) := dq daX0_arrive_34_0 20 rfl
theorem dX0_arrive_38 : decode cX0_arrive 38 = .ok (.iconst 1, 1) := dq daX0_arrive_34_0 21 rfl
theorem dX0_arrive_39 : decode cX0_arrive 39 = .ok (.iadd, 1) := dq daX0_arrive_34_0 22 rfl
theorem dX0_arrive_40 : decode cX0_arrive 40 = .ok (.invokevirtual 74, 3) := dq daX0_arrive_34_0 23 rfl
theorem dX0_arrive_43 : decode cX0_arrive 43 = .ok (.aload_n 0, 1) := dq daX0_arrive_34_0 24 rfl
theorem dX0_arrive_44 : decode cX0_arrive 44 = .ok (.getfield 12, 3) := dq daX0_arrive_34_0 25 rfl
theorem dX0_arrive_47 : decode cX0_arrive 47 = .ok (.aload_n 1, 1) := dq daX0_arrive_34_0 26 rfl
theorem dX0_arrive_48 : decode cX0_arrive 48 = .ok (.iload 5, 2) := dq daX0_arrive_34_0 27 rfl
theorem dX0_arrive_50 : decode cX0_arrive 50 = .ok (.invokevirtual 70, 3) := dq daX0_arrive_34_0 28 rfl
theorem dX0_arrive_53 : decode cX0_arrive 53 = .ok (.aload_n 0, 1) := dq daX0_arrive_34_0 29 rfl
theorem dX0_arrive_54 : decode cX0_arrive 54 = .ok (.aload_n 1, 1) := dq daX0_arrive_34_0 30 rfl
theorem dX0_arrive_55 : decode cX0_arrive 55 = .ok (.iload_n 3, 1) := dq daX0_arrive_34_0 31 rfl
def dtX0_arrive_34_1 : List (Nat × Jvm.ClassFile.Instr × Nat) := [(56, .invokevirtual 77, 3), (59, .aload_n 1, 1), (60, .getfield 18, 3), (63, .iload_n 3, 1), (64, .iconst 0, 1), (65, .invokevirtual 30, 3), (68, .istore 6, 2), (70, .iload 6, 2), (72, .aload_n 2, 1), (73, .iconst 2, 1), (74, .aload_n 0, 1), (75, .getfield 12, 3), (78, .getfield 80, 3), (81, .invokevirtual 84, 3), (84, .bipush 100, 2), (86, .invokestatic 90, 3), (89, .imul, 1), (90, .bipush 100, 2), (92, .idiv, 1), (93, .istore 7, 2), (95, .aload_n 1, 1), (96, .getfield 18, 3), (99, .iload_n 3, 1), (100, .iconst 0, 1), (101, .iload 6, 2), (103, .iload 7, 2), (105, .isub, 1), (106, .invokevirtual 48, 3), (109, .aload_n 1, 1), (110, .iload 5, 2), (112, .iload 7, 2), (114, .invokevirtual 101, 3)]
theorem daX0_arrive_34_1 : dtX0_arrive_34_1.all (dqd cX0_arrive) = true := by decide +kernel
theorem dX0_arrive_56 : decode cX0_arrive 56 = .ok (.invokevirtual 77, 3) := dq daX0_arrive_34_1 0 rfl
theorem dX0_arrive_59 : decode cX0_arrive 59 = .ok (.aload_n 1, 1) := dq daX0_arrive_34_1 1 rfl
theorem dX0_arrive_60 : decode cX0_arrive 60 = .ok (.getfield 18, 3) := dq daX0_arrive_34_1 2 rfl
theorem dX0_arrive_63 : decode cX0_arrive 63 = .ok (.iload_n 3, 1) := dq daX0_arrive_34_1 3 rfl
theorem dX0_arrive_64 : decode cX0_arrive 64 = .ok (.iconst 0, 1) := dq daX0_arrive_34_1 4 rfl
theorem dX0_arrive_65 : decode cX0_arrive 65 = .ok (.invokevirtual 30, 3) := dq daX0_arrive_34_1 5 rfl
theorem dX0_arrive_68 : decode cX0_arrive 68 = .ok (.istore 6, 2) := dq daX0_arrive_34_1 6 rfl
theorem dX0_arrive_70 : decode cX0_arrive 70 = .ok (.iload 6, 2) := dq daX0_arrive_34_1 7 rfl
theorem dX0_arrive_72 : decode cX0_arrive 72 = .ok (.aload_n 2, 1) := dq daX0_arrive_34_1 8 rfl
theorem dX0_arrive_73 : decode cX0_arrive 73 = .ok (.iconst 2, 1) := dq daX0_arrive_34_1 9 rfl
theorem dX0_arrive_74 : decode cX0_arrive 74 = .ok (.aload_n 0, 1) := dq daX0_arrive_34_1 10 rfl
theorem dX0_arrive_75 : decode cX0_arrive 75 = .ok (.getfield 12, 3) := dq daX0_arrive_34_1 11 rfl
theorem dX0_arrive_78 : decode cX0_arrive 78 = .ok (.getfield 80, 3) := dq daX0_arrive_34_1 12 rfl
theorem dX0_arrive_81 : decode cX0_arrive 81 = .ok (.invokevirtual 84, 3) := dq daX0_arrive_34_1 13 rfl
theorem dX0_arrive_84 : decode cX0_arrive 84 = .ok (.bipush 100, 2) := dq daX0_arrive_34_1 14 rfl
theorem dX0_arrive_86 : decode cX0_arrive 86 = .ok (.invokestatic 90, 3) := dq daX0_arrive_34_1 15 rfl
theorem dX0_arrive_89 : decode cX0_arrive 89 = .ok (.imul, 1) := dq daX0_arrive_34_1 16 rfl
theorem dX0_arrive_90 : decode cX0_arrive 90 = .ok (.bipush 100, 2) := dq daX0_arrive_34_1 17 rfl
theorem dX0_arrive_92 : decode cX0_arrive 92 = .ok (.idiv, 1) := dq daX0_arrive_34_1 18 rfl
theorem dX0_arrive_93 : decode cX0_arrive 93 = .ok (.istore 7, 2) := dq daX0_arrive_34_1 19 rfl
theorem dX0_arrive_95 : decode cX0_arrive 95 = .ok (.aload_n 1, 1) := dq daX0_arrive_34_1 20 rfl
theorem dX0_arrive_96 : decode cX0_arrive 96 = .ok (.getfield 18, 3) := dq daX0_arrive_34_1 21 rfl
theorem dX0_arrive_99 : decode cX0_arrive 99 = .ok (.iload_n 3, 1) := dq daX0_arrive_34_1 22 rfl
theorem dX0_arrive_100 : decode cX0_arrive 100 = .ok (.iconst 0, 1) := dq daX0_arrive_34_1 23 rfl
theorem dX0_arrive_101 : decode cX0_arrive 101 = .ok (.iload 6, 2) := dq daX0_arrive_34_1 24 rfl
theorem dX0_arrive_103 : decode cX0_arrive 103 = .ok (.iload 7, 2) := dq daX0_arrive_34_1 25 rfl
theorem dX0_arrive_105 : decode cX0_arrive 105 = .ok (.isub, 1) := dq daX0_arrive_34_1 26 rfl
theorem dX0_arrive_106 : decode cX0_arrive 106 = .ok (.invokevirtual 48, 3) := dq daX0_arrive_34_1 27 rfl
theorem dX0_arrive_109 : decode cX0_arrive 109 = .ok (.aload_n 1, 1) := dq daX0_arrive_34_1 28 rfl
theorem dX0_arrive_110 : decode cX0_arrive 110 = .ok (.iload 5, 2) := dq daX0_arrive_34_1 29 rfl
theorem dX0_arrive_112 : decode cX0_arrive 112 = .ok (.iload 7, 2) := dq daX0_arrive_34_1 30 rfl
theorem dX0_arrive_114 : decode cX0_arrive 114 = .ok (.invokevirtual 101, 3) := dq daX0_arrive_34_1 31 rfl
def dtX0_arrive_34_2 : List (Nat × Jvm.ClassFile.Instr × Nat) := [(117, .pop, 1), (118, .aload_n 1, 1), (119, .invokevirtual 104, 3), (122, .sipush 1000, 3), (125, .irem, 1), (126, .aload_n 1, 1), (127, .getfield 56, 3), (130, .iload 4, 2), (132, .iconst 4, 1), (133, .invokevirtual 30, 3), (136, .if_icmp .ge 9, 3), (145, .aload_n 0, 1), (146, .aload_n 1, 1), (147, .iload_n 3, 1), (148, .invokevirtual 77, 3), (151, .aload_n 1, 1), (152, .invokevirtual 104, 3), (155, .sipush 1000, 3), (158, .irem, 1), (159, .aload_n 2, 1), (160, .iconst 3, 1), (161, .aload_n 0, 1), (162, .getfield 12, 3), (165, .getfield 80, 3), (168, .invokevirtual 84, 3), (171, .sipush 1000, 3), (174, .invokestatic 90, 3), (177, .if_icmp .ge 17, 3), (180, .aload_n 0, 1), (181, .aload_n 1, 1), (182, .aload_n 2, 1), (183, .getfield 111, 3)]
theorem daX0_arrive_34_2 : dtX0_arrive_34_2.all (dqd cX0_arrive) = true := by decide +kernel
theorem dX0_arrive_117 : decode cX0_arrive 117 = .ok (.pop, 1) := dq daX0_arrive_34_2 0 rfl
theorem dX0_arrive_118 : decode cX0_arrive 118 = .ok (.aload_n 1, 1) := dq daX0_arrive_34_2 1 rfl
theorem dX0_arrive_119 : decode cX0_arrive 119 = .ok (.invokevirtual 104, 3) := dq daX0_arrive_34_2 2 rfl
theorem dX0_arrive_122 : decode cX0_arrive 122 = .ok (.sipush 1000, 3) := dq daX0_arrive_34_2 3 rfl
theorem dX0_arrive_125 : decode cX0_arrive 125 = .ok (.irem, 1) := dq daX0_arrive_34_2 4 rfl
theorem dX0_arrive_126 : decode cX0_arrive 126 = .ok (.aload_n 1, 1) := dq daX0_arrive_34_2 5 rfl
theorem dX0_arrive_127 : decode cX0_arrive 127 = .ok (.getfield 56, 3) := dq daX0_arrive_34_2 6 rfl
theorem dX0_arrive_130 : decode cX0_arrive 130 = .ok (.iload 4, 2) := dq daX0_arrive_34_2 7 rfl
theorem dX0_arrive_132 : decode cX0_arrive 132 = .ok (.iconst 4, 1) := dq daX0_arrive_34_2 8 rfl
theorem dX0_arrive_133 : decode cX0_arrive 133 = .ok (.invokevirtual 30, 3) := dq daX0_arrive_34_2 9 rfl
theorem dX0_arrive_136 : decode cX0_arrive 136 = .ok (.if_icmp .ge 9, 3) := dq daX0_arrive_34_2 10 rfl
theorem dX0_arrive_145 : decode cX0_arrive 145 = .ok (.aload_n 0, 1) := dq daX0_arrive_34_2 11 rfl
theorem dX0_arrive_146 : decode cX0_arrive 146 = .ok (.aload_n 1, 1) := dq daX0_arrive_34_2 12 rfl
theorem dX0_arrive_147 : decode cX0_arrive 147 = .ok (.iload_n 3, 1) := dq daX0_arrive_34_2 13 rfl
theorem dX0_arrive_148 : decode cX0_arrive 148 = .ok (.invokevirtual 77, 3) := dq daX0_arrive_34_2 14 rfl
theorem dX0_arrive_151 : decode cX0_arrive 151 = .ok (.aload_n 1, 1) := dq daX0_arrive_34_2 15 rfl
theorem dX0_arrive_152 : decode cX0_arrive 152 = .ok (.invokevirtual 104, 3) := dq daX0_arrive_34_2 16 rfl
theorem dX0_arrive_155 : decode cX0_arrive 155 = .ok (.sipush 1000, 3) := dq daX0_arrive_34_2 17 rfl
theorem dX0_arrive_158 : decode cX0_arrive 158 = .ok (.irem, 1) := dq daX0_arrive_34_2 18 rfl
theorem dX0_arrive_159 : decode cX0_arrive 159 = .ok (.aload_n 2, 1) := dq daX0_arrive_34_2 19 rfl
theorem dX0_arrive_160 : decode cX0_arrive 160 = .ok (.iconst 3, 1) := dq daX0_arrive_34_2 20 rfl
theorem dX0_arrive_161 : decode cX0_arrive 161 = .ok (.aload_n 0, 1) := dq daX0_arrive_34_2 21 rfl
theorem dX0_arrive_162 : decode cX0_arrive 162 = .ok (.getfield 12, 3) := dq daX0_arrive_34_2 22 rfl
theorem dX0_arrive_165 : decode cX0_arrive 165 = .ok (.getfield 80, 3) := dq daX0_arrive_34_2 23 rfl
theorem dX0_arrive_168 : decode cX0_arrive 168 = .ok (.invokevirtual 84, 3) := dq daX0_arrive_34_2 24 rfl
theorem dX0_arrive_171 : decode cX0_arrive 171 = .ok (.sipush 1000, 3) := dq daX0_arrive_34_2 25 rfl
theorem dX0_arrive_174 : decode cX0_arrive 174 = .ok (.invokestatic 90, 3) := dq daX0_arrive_34_2 26 rfl
theorem dX0_arrive_177 : decode cX0_arrive 177 = .ok (.if_icmp .ge 17, 3) := dq daX0_arrive_34_2 27 rfl
theorem dX0_arrive_180 : decode cX0_arrive 180 = .ok (.aload_n 0, 1) := dq daX0_arrive_34_2 28 rfl
theorem dX0_arrive_181 : decode cX0_arrive 181 = .ok (.aload_n 1, 1) := dq daX0_arrive_34_2 29 rfl
theorem dX0_arrive_182 : decode cX0_arrive 182 = .ok (.aload_n 2, 1) := dq daX0_arrive_34_2 30 rfl
theorem dX0_arrive_183 : decode cX0_arrive 183 = .ok (.getfield 111, 3) := dq daX0_arrive_34_2 31 rfl
def dtX0_arrive_34_3 : List (Nat × Jvm.ClassFile.Instr × Nat) := [(186, .iload_n 3, 1), (187, .iload 5, 2), (189, .iload 4, 2), (191, .invokevirtual 114, 3), (139, .aload_n 1, 1), (140, .iload_n 3, 1), (141, .invokevirtual 108, 3), (194, .return_, 1), (144, .return_, 1)]
theorem daX0_arrive_34_3 : dtX0_arrive_34_3.all (dqd cX0_arrive) = true := by decide +kernel
theorem dX0_arrive_186 : decode cX0_arrive 186 = .ok (.iload_n 3, 1) := dq daX0_arrive_34_3 0 rfl
theorem dX0_arrive_187 : decode cX0_arrive 187 = .ok (.iload 5, 2) := dq daX0_arrive_34_3 1 rfl
theorem dX0_arrive_189 : decode cX0_arrive 189 = .ok (.iload 4, 2) := dq daX0_arrive_34_3 2 rfl
theorem dX0_arrive_191 : decode cX0_arrive 191 = .ok (.invokevirtual 114, 3) := dq daX0_arrive_34_3 3 rfl
theorem dX0_arrive_139 : decode cX0_arrive 139 = .ok (.aload_n 1, 1) := dq daX0_arrive_34_3 4 rfl
theorem dX0_arrive_140 : decode cX0_arrive 140 = .ok (.iload_n 3, 1) := dq daX0_arrive_34_3 5 rfl
theorem dX0_arrive_141 : decode cX0_arrive 141 = .ok (.invokevirtual 108, 3) := dq daX0_arrive_34_3 6 rfl
theorem dX0_arrive_194 : decode cX0_arrive 194 = .ok (.return_, 1) := dq daX0_arrive_34_3 7 rfl
theorem dX0_arrive_144 : decode cX0_arrive 144 = .ok (.return_, 1) := dq daX0_arrive_34_3 8 rfl
def dtX0_stepJar_34_0 : List (Nat × Jvm.ClassFile.Instr × Nat) := [(0, .aload_n 1, 1), (1, .getfield 18, 3), (4, .iload_n 3, 1), (5, .iconst 0, 1), (6, .invokevirtual 30, 3), (9, .istore 4, 2), (11, .aload_n 1, 1), (12, .getfield 18, 3), (15, .iload_n 3, 1), (16, .iconst 0, 1), (17, .iload 4, 2), (19, .aload_n 0, 1), (20, .aload_n 1, 1), (21, .aload_n 2, 1), (22, .iload_n 3, 1), (23, .invokevirtual 52, 3), (26, .isub, 1), (27, .invokevirtual 48, 3), (30, .aload_n 1, 1), (31, .getfield 18, 3), (34, .iload_n 3, 1), (35, .iconst 1, 1), (36, .invokevirtual 30, 3), (39, .bipush 12, 2), (41, .if_icmp .eq 4, 3), (45, .aload_n 1, 1), (46, .getfield 18, 3), (49, .iload_n 3, 1), (50, .iconst 3, 1), (51, .invokevirtual 30, 3), (54, .iconst 1, 1), (55, .iadd, 1)]
theorem daX0_stepJar_34_0 : dtX0_stepJar_34_0.all (dqd cX0_stepJar) = true := by decide +kernel
theorem dX0_stepJar_0 : decode cX0_stepJar 0 = .ok (.aload_n 1, 1) := dq daX0_stepJar_34_0 0 rfl
theorem dX0_stepJar_1 : decode cX0_stepJar 1 = .ok (.getfield 18, 3) := dq daX0_stepJar_34_0 1 rfl
theorem dX0_stepJar_4 : decode cX0_stepJar 4 = .ok (.iload_n 3, 1) := dq daX0_stepJar_34_0 2 rfl
theorem dX0_stepJar_5 : decode cX0_stepJar 5 = .ok (.iconst 0, 1) := dq daX0_stepJar_34_0 3 rfl
theorem dX0_stepJar_6 : decode cX0_stepJar 6 = .ok (.invokevirtual 30, 3) := dq daX0_stepJar_34_0 4 rfl
theorem dX0_stepJar_9 : decode cX0_stepJar 9 = .ok (.istore 4, 2) := dq daX0_stepJar_34_0 5 rfl
theorem dX0_stepJar_11 : decode cX0_stepJar 11 = .ok (.aload_n 1, 1) := dq daX0_stepJar_34_0 6 rfl
theorem dX0_stepJar_12 : decode cX0_stepJar 12 = .ok (.getfield 18, 3) := dq daX0_stepJar_34_0 7 rfl
theorem dX0_stepJar_15 : decode cX0_stepJar 15 = .ok (.iload_n 3, 1) := dq daX0_stepJar_34_0 8 rfl
theorem dX0_stepJar_16 : decode cX0_stepJar 16 = .ok (.iconst 0, 1) := dq daX0_stepJar_34_0 9 rfl
theorem dX0_stepJar_17 : decode cX0_stepJar 17 = .ok (.iload 4, 2) := dq daX0_stepJar_34_0 10 rfl
theorem dX0_stepJar_19 : decode cX0_stepJar 19 = .ok (.aload_n 0, 1) := dq daX0_stepJar_34_0 11 rfl
theorem dX0_stepJar_20 : decode cX0_stepJar 20 = .ok (.aload_n 1, 1) := dq daX0_stepJar_34_0 12 rfl
theorem dX0_stepJar_21 : decode cX0_stepJar 21 = .ok (.aload_n 2, 1) := dq daX0_stepJar_34_0 13 rfl
theorem dX0_stepJar_22 : decode cX0_stepJar 22 = .ok (.iload_n 3, 1) := dq daX0_stepJar_34_0 14 rfl
theorem dX0_stepJar_23 : decode cX0_stepJar 23 = .ok (.invokevirtual 52, 3) := dq daX0_stepJar_34_0 15 rfl
theorem dX0_stepJar_26 : decode cX0_stepJar 26 = .ok (.isub, 1) := dq daX0_stepJar_34_0 16 rfl
theorem dX0_stepJar_27 : decode cX0_stepJar 27 = .ok (.invokevirtual 48, 3) := dq daX0_stepJar_34_0 17 rfl
theorem dX0_stepJar_30 : decode cX0_stepJar 30 = .ok (.aload_n 1, 1) := dq daX0_stepJar_34_0 18 rfl
theorem dX0_stepJar_31 : decode cX0_stepJar 31 = .ok (.getfield 18, 3) := dq daX0_stepJar_34_0 19 rfl
theorem dX0_stepJar_34 : decode cX0_stepJar 34 = .ok (.iload_n 3, 1) := dq daX0_stepJar_34_0 20 rfl
theorem dX0_stepJar_35 : decode cX0_stepJar 35 = .ok (.iconst 1, 1) := dq daX0_stepJar_34_0 21 rfl
theorem dX0_stepJar_36 : decode cX0_stepJar 36 = .ok (.invokevirtual 30, 3) := dq daX0_stepJar_34_0 22 rfl
theorem dX0_stepJar_39 : decode cX0_stepJar 39 = .ok (.bipush 12, 2) := dq daX0_stepJar_34_0 23 rfl
theorem dX0_stepJar_41 : decode cX0_stepJar 41 = .ok (.if_icmp .eq 4, 3) := dq daX0_stepJar_34_0 24 rfl
theorem dX0_stepJar_45 : decode cX0_stepJar 45 = .ok (.aload_n 1, 1) := dq daX0_stepJar_34_0 25 rfl
theorem dX0_stepJar_46 : decode cX0_stepJar 46 = .ok (.getfield 18, 3) := dq daX0_stepJar_34_0 26 rfl
theorem dX0_stepJar_49 : decode cX0_stepJar 49 = .ok (.iload_n 3, 1) := dq daX0_stepJar_34_0 27 rfl
theorem dX0_stepJar_50 : decode cX0_stepJar 50 = .ok (.iconst 3, 1) := dq daX0_stepJar_34_0 28 rfl
theorem dX0_stepJar_51 : decode cX0_stepJar 51 = .ok (.invokevirtual 30, 3) := dq daX0_stepJar_34_0 29 rfl
theorem dX0_stepJar_54 : decode cX0_stepJar 54 = .ok (.iconst 1, 1) := dq daX0_stepJar_34_0 30 rfl
theorem dX0_stepJar_55 : decode cX0_stepJar 55 = .ok (.iadd, 1) := dq daX0_stepJar_34_0 31 rfl
def dtX0_stepJar_34_1 : List (Nat × Jvm.ClassFile.Instr × Nat) := [(56, .istore 5, 2), (58, .aload_n 1, 1), (59, .getfield 18, 3), (62, .iload_n 3, 1), (63, .iconst 3, 1), (64, .iload 5, 2), (66, .invokevirtual 48, 3), (69, .iload 5, 2), (71, .aload_n 1, 1), (72, .getfield 56, 3), (75, .aload_n 1, 1), (76, .getfield 18, 3), (79, .iload_n 3, 1), (80, .iconst 2, 1), (81, .invokevirtual 30, 3), (84, .iconst 2, 1), (85, .invokevirtual 30, 3), (88, .if_icmp .lt 10, 3), (91, .aload_n 0, 1), (92, .aload_n 1, 1), (93, .aload_n 2, 1), (94, .iload_n 3, 1), (95, .invokevirtual 59, 3), (98, .return_, 1), (44, .return_, 1)]
theorem daX0_stepJar_34_1 : dtX0_stepJar_34_1.all (dqd cX0_stepJar) = true := by decide +kernel
theorem dX0_stepJar_56 : decode cX0_stepJar 56 = .ok (.istore 5, 2) := dq daX0_stepJar_34_1 0 rfl
theorem dX0_stepJar_58 : decode cX0_stepJar 58 = .ok (.aload_n 1, 1) := dq daX0_stepJar_34_1 1 rfl
theorem dX0_stepJar_59 : decode cX0_stepJar 59 = .ok (.getfield 18, 3) := dq daX0_stepJar_34_1 2 rfl
theorem dX0_stepJar_62 : decode cX0_stepJar 62 = .ok (.iload_n 3, 1) := dq daX0_stepJar_34_1 3 rfl
theorem dX0_stepJar_63 : decode cX0_stepJar 63 = .ok (.iconst 3, 1) := dq daX0_stepJar_34_1 4 rfl
theorem dX0_stepJar_64 : decode cX0_stepJar 64 = .ok (.iload 5, 2) := dq daX0_stepJar_34_1 5 rfl
theorem dX0_stepJar_66 : decode cX0_stepJar 66 = .ok (.invokevirtual 48, 3) := dq daX0_stepJar_34_1 6 rfl
theorem dX0_stepJar_69 : decode cX0_stepJar 69 = .ok (.iload 5, 2) := dq daX0_stepJar_34_1 7 rfl
theorem dX0_stepJar_71 : decode cX0_stepJar 71 = .ok (.aload_n 1, 1) := dq daX0_stepJar_34_1 8 rfl
theorem dX0_stepJar_72 : decode cX0_stepJar 72 = .ok (.getfield 56, 3) := dq daX0_stepJar_34_1 9 rfl
theorem dX0_stepJar_75 : decode cX0_stepJar 75 = .ok (.aload_n 1, 1) := dq daX0_stepJar_34_1 10 rfl
theorem dX0_stepJar_76 : decode cX0_stepJar 76 = .ok (.getfield 18, 3) := dq daX0_stepJar_34_1 11 rfl
theorem dX0_stepJar_79 : decode cX0_stepJar 79 = .ok (.iload_n 3, 1) := dq daX0_stepJar_34_1 12 rfl
theorem dX0_stepJar_80 : decode cX0_stepJar 80 = .ok (.iconst 2, 1) := dq daX0_stepJar_34_1 13 rfl
theorem dX0_stepJar_81 : decode cX0_stepJar 81 = .ok (.invokevirtual 30, 3) := dq daX0_stepJar_34_1 14 rfl
theorem dX0_stepJar_84 : decode cX0_stepJar 84 = .ok (.iconst 2, 1) := dq daX0_stepJar_34_1 15 rfl
theorem dX0_stepJar_85 : decode cX0_stepJar 85 = .ok (.invokevirtual 30, 3) := dq daX0_stepJar_34_1 16 rfl
theorem dX0_stepJar_88 : decode cX0_stepJar 88 = .ok (.if_icmp .lt 10, 3) := dq daX0_stepJar_34_1 17 rfl
theorem dX0_stepJar_91 : decode cX0_stepJar 91 = .ok (.aload_n 0, 1) := dq daX0_stepJar_34_1 18 rfl
theorem dX0_stepJar_92 : decode cX0_stepJar 92 = .ok (.aload_n 1, 1) := dq daX0_stepJar_34_1 19 rfl
theorem dX0_stepJar_93 : decode cX0_stepJar 93 = .ok (.aload_n 2, 1) := dq daX0_stepJar_34_1 20 rfl
theorem dX0_stepJar_94 : decode cX0_stepJar 94 = .ok (.iload_n 3, 1) := dq daX0_stepJar_34_1 21 rfl
theorem dX0_stepJar_95 : decode cX0_stepJar 95 = .ok (.invokevirtual 59, 3) := dq daX0_stepJar_34_1 22 rfl
theorem dX0_stepJar_98 : decode cX0_stepJar 98 = .ok (.return_, 1) := dq daX0_stepJar_34_1 23 rfl
theorem dX0_stepJar_44 : decode cX0_stepJar 44 = .ok (.return_, 1) := dq daX0_stepJar_34_1 24 rfl
def dtX0_step_34_0 : List (Nat × Jvm.ClassFile.Instr × Nat) := [(0, .iconst 0, 1), (1, .istore_n 3, 1), (2, .iload_n 3, 1), (3, .aload_n 1, 1), (4, .getfield 18, 3), (7, .getfield 24, 3), (10, .if_icmp .ge 30, 3), (13, .aload_n 1, 1), (14, .getfield 18, 3), (17, .iload_n 3, 1), (18, .iconst 1, 1), (19, .invokevirtual 30, 3), (22, .bipush 13, 2), (24, .if_icmp .eq 10, 3), (34, .iinc 3 1, 3), (37, .goto (-35), 3), (27, .aload_n 0, 1), (28, .aload_n 1, 1), (29, .aload_n 2, 1), (30, .iload_n 3, 1), (31, .invokevirtual 34, 3), (40, .iconst 0, 1), (41, .istore_n 3, 1), (42, .iload_n 3, 1), (43, .aload_n 1, 1), (44, .getfield 38, 3), (47, .getfield 24, 3), (50, .if_icmp .ge 45, 3), (53, .aload_n 1, 1), (54, .getfield 38, 3), (57, .iload_n 3, 1), (58, .iconst 3, 1)]
theorem daX0_step_34_0 : dtX0_step_34_0.all (dqd cX0_step) = true := by decide +kernel
theorem dX0_step_0 : decode cX0_step 0 = .ok (.iconst 0, 1) := dq daX0_step_34_0 0 rfl
theorem dX0_step_1 : decode cX0_step 1 = .ok (.istore_n 3, 1) := dq daX0_step_34_0 1 rfl
theorem dX0_step_2 : decode cX0_step 2 = .ok (.iload_n 3, 1) := dq daX0_step_34_0 2 rfl
theorem dX0_step_3 : decode cX0_step 3 = .ok (.aload_n 1, 1) := dq daX0_step_34_0 3 rfl
theorem dX0_step_4 : decode cX0_step 4 = .ok (.getfield 18, 3) := dq daX0_step_34_0 4 rfl
theorem dX0_step_7 : decode cX0_step 7 = .ok (.getfield 24, 3) := dq daX0_step_34_0 5 rfl
theorem dX0_step_10 : decode cX0_step 10 = .ok (.if_icmp .ge 30, 3) := dq daX0_step_34_0 6 rfl
theorem dX0_step_13 : decode cX0_step 13 = .ok (.aload_n 1, 1) := dq daX0_step_34_0 7 rfl
theorem dX0_step_14 : decode cX0_step 14 = .ok (.getfield 18, 3) := dq daX0_step_34_0 8 rfl
theorem dX0_step_17 : decode cX0_step 17 = .ok (.iload_n 3, 1) := dq daX0_step_34_0 9 rfl
theorem dX0_step_18 : decode cX0_step 18 = .ok (.iconst 1, 1) := dq daX0_step_34_0 10 rfl
theorem dX0_step_19 : decode cX0_step 19 = .ok (.invokevirtual 30, 3) := dq daX0_step_34_0 11 rfl
theorem dX0_step_22 : decode cX0_step 22 = .ok (.bipush 13, 2) := dq daX0_step_34_0 12 rfl
theorem dX0_step_24 : decode cX0_step 24 = .ok (.if_icmp .eq 10, 3) := dq daX0_step_34_0 13 rfl
theorem dX0_step_34 : decode cX0_step 34 = .ok (.iinc 3 1, 3) := dq daX0_step_34_0 14 rfl
theorem dX0_step_37 : decode cX0_step 37 = .ok (.goto (-35), 3) := dq daX0_step_34_0 15 rfl
theorem dX0_step_27 : decode cX0_step 27 = .ok (.aload_n 0, 1) := dq daX0_step_34_0 16 rfl
theorem dX0_step_28 : decode cX0_step 28 = .ok (.aload_n 1, 1) := dq daX0_step_34_0 17 rfl
theorem dX0_step_29 : decode cX0_step 29 = .ok (.aload_n 2, 1) := dq daX0_step_34_0 18 rfl
theorem dX0_step_30 : decode cX0_step 30 = .ok (.iload_n 3, 1) := dq daX0_step_34_0 19 rfl
theorem dX0_step_31 : decode cX0_step 31 = .ok (.invokevirtual 34, 3) := dq daX0_step_34_0 20 rfl
theorem dX0_step_40 : decode cX0_step 40 = .ok (.iconst 0, 1) := dq daX0_step_34_0 21 rfl
theorem dX0_step_41 : decode cX0_step 41 = .ok (.istore_n 3, 1) := dq daX0_step_34_0 22 rfl
theorem dX0_step_42 : decode cX0_step 42 = .ok (.iload_n 3, 1) := dq daX0_step_34_0 23 rfl
theorem dX0_step_43 : decode cX0_step 43 = .ok (.aload_n 1, 1) := dq daX0_step_34_0 24 rfl
theorem dX0_step_44 : decode cX0_step 44 = .ok (.getfield 38, 3) := dq daX0_step_34_0 25 rfl
theorem dX0_step_47 : decode cX0_step 47 = .ok (.getfield 24, 3) := dq daX0_step_34_0 26 rfl
theorem dX0_step_50 : decode cX0_step 50 = .ok (.if_icmp .ge 45, 3) := dq daX0_step_34_0 27 rfl
theorem dX0_step_53 : decode cX0_step 53 = .ok (.aload_n 1, 1) := dq daX0_step_34_0 28 rfl
theorem dX0_step_54 : decode cX0_step 54 = .ok (.getfield 38, 3) := dq daX0_step_34_0 29 rfl
theorem dX0_step_57 : decode cX0_step 57 = .ok (.iload_n 3, 1) := dq daX0_step_34_0 30 rfl
theorem dX0_step_58 : decode cX0_step 58 = .ok (.iconst 3, 1) := dq daX0_step_34_0 31 rfl
def dtX0_step_34_1 : List (Nat × Jvm.ClassFile.Instr × Nat) := [(59, .invokevirtual 30, 3), (62, .istore 4, 2), (64, .aload_n 1, 1), (65, .getfield 38, 3), (68, .iload_n 3, 1), (69, .iconst 3, 1), (70, .iload 4, 2), (72, .aload_n 0, 1), (73, .aload_n 1, 1), (74, .aload_n 2, 1), (75, .iload_n 3, 1), (76, .aload_n 1, 1), (77, .getfield 41, 3), (80, .iload 4, 2), (82, .invokevirtual 44, 3), (85, .isub, 1), (86, .invokevirtual 48, 3), (89, .iinc 3 1, 3), (92, .goto (-50), 3), (95, .aload_n 1, 1), (96, .dup, 1), (97, .getfield 41, 3), (100, .iconst 1, 1), (101, .iadd, 1), (102, .putfield 41, 3), (105, .return_, 1)]
theorem daX0_step_34_1 : dtX0_step_34_1.all (dqd cX0_step) = true := by decide +kernel
theorem dX0_step_59 : decode cX0_step 59 = .ok (.invokevirtual 30, 3) := dq daX0_step_34_1 0 rfl
theorem dX0_step_62 : decode cX0_step 62 = .ok (.istore 4, 2) := dq daX0_step_34_1 1 rfl
theorem dX0_step_64 : decode cX0_step 64 = .ok (.aload_n 1, 1) := dq daX0_step_34_1 2 rfl
theorem dX0_step_65 : decode cX0_step 65 = .ok (.getfield 38, 3) := dq daX0_step_34_1 3 rfl
theorem dX0_step_68 : decode cX0_step 68 = .ok (.iload_n 3, 1) := dq daX0_step_34_1 4 rfl
theorem dX0_step_69 : decode cX0_step 69 = .ok (.iconst 3, 1) := dq daX0_step_34_1 5 rfl
theorem dX0_step_70 : decode cX0_step 70 = .ok (.iload 4, 2) := dq daX0_step_34_1 6 rfl
theorem dX0_step_72 : decode cX0_step 72 = .ok (.aload_n 0, 1) := dq daX0_step_34_1 7 rfl
theorem dX0_step_73 : decode cX0_step 73 = .ok (.aload_n 1, 1) := dq daX0_step_34_1 8 rfl
theorem dX0_step_74 : decode cX0_step 74 = .ok (.aload_n 2, 1) := dq daX0_step_34_1 9 rfl
theorem dX0_step_75 : decode cX0_step 75 = .ok (.iload_n 3, 1) := dq daX0_step_34_1 10 rfl
theorem dX0_step_76 : decode cX0_step 76 = .ok (.aload_n 1, 1) := dq daX0_step_34_1 11 rfl
theorem dX0_step_77 : decode cX0_step 77 = .ok (.getfield 41, 3) := dq daX0_step_34_1 12 rfl
theorem dX0_step_80 : decode cX0_step 80 = .ok (.iload 4, 2) := dq daX0_step_34_1 13 rfl
theorem dX0_step_82 : decode cX0_step 82 = .ok (.invokevirtual 44, 3) := dq daX0_step_34_1 14 rfl
theorem dX0_step_85 : decode cX0_step 85 = .ok (.isub, 1) := dq daX0_step_34_1 15 rfl
theorem dX0_step_86 : decode cX0_step 86 = .ok (.invokevirtual 48, 3) := dq daX0_step_34_1 16 rfl
theorem dX0_step_89 : decode cX0_step 89 = .ok (.iinc 3 1, 3) := dq daX0_step_34_1 17 rfl
theorem dX0_step_92 : decode cX0_step 92 = .ok (.goto (-50), 3) := dq daX0_step_34_1 18 rfl
theorem dX0_step_95 : decode cX0_step 95 = .ok (.aload_n 1, 1) := dq daX0_step_34_1 19 rfl
theorem dX0_step_96 : decode cX0_step 96 = .ok (.dup, 1) := dq daX0_step_34_1 20 rfl
theorem dX0_step_97 : decode cX0_step 97 = .ok (.getfield 41, 3) := dq daX0_step_34_1 21 rfl
theorem dX0_step_100 : decode cX0_step 100 = .ok (.iconst 1, 1) := dq daX0_step_34_1 22 rfl
theorem dX0_step_101 : decode cX0_step 101 = .ok (.iadd, 1) := dq daX0_step_34_1 23 rfl
theorem dX0_step_102 : decode cX0_step 102 = .ok (.putfield 41, 3) := dq daX0_step_34_1 24 rfl
theorem dX0_step_105 : decode cX0_step 105 = .ok (.return_, 1) := dq daX0_step_34_1 25 rfl
def dtX0_owedAt_34_0 : List (Nat × Jvm.ClassFile.Instr × Nat) := [(0, .iconst 0, 1), (1, .istore_n 3, 1), (2, .iconst 0, 1), (3, .istore 4, 2), (5, .iload 4, 2), (7, .aload_n 1, 1), (8, .getfield 130, 3), (11, .getfield 24, 3), (14, .if_icmp .ge 88, 3), (17, .aload_n 1, 1), (18, .getfield 130, 3), (21, .iload 4, 2), (23, .iconst 1, 1), (24, .invokevirtual 30, 3), (27, .bipush 24, 2), (29, .imul, 1), (30, .bipush 12, 2), (32, .iadd, 1), (33, .istore 5, 2), (35, .iload 5, 2), (37, .aload_n 1, 1), (38, .getfield 41, 3), (41, .if_icmp .lt 20, 3), (61, .iconst 0, 1), (62, .istore 6, 2), (64, .iload 6, 2), (66, .ifCond .eq 30, 3), (96, .iinc 4 1, 3), (99, .goto (-94), 3), (44, .iload 5, 2), (46, .aload_n 1, 1), (47, .getfield 41, 3)]
theorem daX0_owedAt_34_0 : dtX0_owedAt_34_0.all (dqd cX0_owedAt) = true := by decide +kernel
theorem dX0_owedAt_0 : decode cX0_owedAt 0 = .ok (.iconst 0, 1) := dq daX0_owedAt_34_0 0 rfl
theorem dX0_owedAt_1 : decode cX0_owedAt 1 = .ok (.istore_n 3, 1) := dq daX0_owedAt_34_0 1 rfl
theorem dX0_owedAt_2 : decode cX0_owedAt 2 = .ok (.iconst 0, 1) := dq daX0_owedAt_34_0 2 rfl
theorem dX0_owedAt_3 : decode cX0_owedAt 3 = .ok (.istore 4, 2) := dq daX0_owedAt_34_0 3 rfl
theorem dX0_owedAt_5 : decode cX0_owedAt 5 = .ok (.iload 4, 2) := dq daX0_owedAt_34_0 4 rfl
theorem dX0_owedAt_7 : decode cX0_owedAt 7 = .ok (.aload_n 1, 1) := dq daX0_owedAt_34_0 5 rfl
theorem dX0_owedAt_8 : decode cX0_owedAt 8 = .ok (.getfield 130, 3) := dq daX0_owedAt_34_0 6 rfl
theorem dX0_owedAt_11 : decode cX0_owedAt 11 = .ok (.getfield 24, 3) := dq daX0_owedAt_34_0 7 rfl
theorem dX0_owedAt_14 : decode cX0_owedAt 14 = .ok (.if_icmp .ge 88, 3) := dq daX0_owedAt_34_0 8 rfl
theorem dX0_owedAt_17 : decode cX0_owedAt 17 = .ok (.aload_n 1, 1) := dq daX0_owedAt_34_0 9 rfl
theorem dX0_owedAt_18 : decode cX0_owedAt 18 = .ok (.getfield 130, 3) := dq daX0_owedAt_34_0 10 rfl
theorem dX0_owedAt_21 : decode cX0_owedAt 21 = .ok (.iload 4, 2) := dq daX0_owedAt_34_0 11 rfl
theorem dX0_owedAt_23 : decode cX0_owedAt 23 = .ok (.iconst 1, 1) := dq daX0_owedAt_34_0 12 rfl
theorem dX0_owedAt_24 : decode cX0_owedAt 24 = .ok (.invokevirtual 30, 3) := dq daX0_owedAt_34_0 13 rfl
theorem dX0_owedAt_27 : decode cX0_owedAt 27 = .ok (.bipush 24, 2) := dq daX0_owedAt_34_0 14 rfl
theorem dX0_owedAt_29 : decode cX0_owedAt 29 = .ok (.imul, 1) := dq daX0_owedAt_34_0 15 rfl
theorem dX0_owedAt_30 : decode cX0_owedAt 30 = .ok (.bipush 12, 2) := dq daX0_owedAt_34_0 16 rfl
theorem dX0_owedAt_32 : decode cX0_owedAt 32 = .ok (.iadd, 1) := dq daX0_owedAt_34_0 17 rfl
theorem dX0_owedAt_33 : decode cX0_owedAt 33 = .ok (.istore 5, 2) := dq daX0_owedAt_34_0 18 rfl
theorem dX0_owedAt_35 : decode cX0_owedAt 35 = .ok (.iload 5, 2) := dq daX0_owedAt_34_0 19 rfl
theorem dX0_owedAt_37 : decode cX0_owedAt 37 = .ok (.aload_n 1, 1) := dq daX0_owedAt_34_0 20 rfl
theorem dX0_owedAt_38 : decode cX0_owedAt 38 = .ok (.getfield 41, 3) := dq daX0_owedAt_34_0 21 rfl
theorem dX0_owedAt_41 : decode cX0_owedAt 41 = .ok (.if_icmp .lt 20, 3) := dq daX0_owedAt_34_0 22 rfl
theorem dX0_owedAt_61 : decode cX0_owedAt 61 = .ok (.iconst 0, 1) := dq daX0_owedAt_34_0 23 rfl
theorem dX0_owedAt_62 : decode cX0_owedAt 62 = .ok (.istore 6, 2) := dq daX0_owedAt_34_0 24 rfl
theorem dX0_owedAt_64 : decode cX0_owedAt 64 = .ok (.iload 6, 2) := dq daX0_owedAt_34_0 25 rfl
theorem dX0_owedAt_66 : decode cX0_owedAt 66 = .ok (.ifCond .eq 30, 3) := dq daX0_owedAt_34_0 26 rfl
theorem dX0_owedAt_96 : decode cX0_owedAt 96 = .ok (.iinc 4 1, 3) := dq daX0_owedAt_34_0 27 rfl
theorem dX0_owedAt_99 : decode cX0_owedAt 99 = .ok (.goto (-94), 3) := dq daX0_owedAt_34_0 28 rfl
theorem dX0_owedAt_44 : decode cX0_owedAt 44 = .ok (.iload 5, 2) := dq daX0_owedAt_34_0 29 rfl
theorem dX0_owedAt_46 : decode cX0_owedAt 46 = .ok (.aload_n 1, 1) := dq daX0_owedAt_34_0 30 rfl
theorem dX0_owedAt_47 : decode cX0_owedAt 47 = .ok (.getfield 41, 3) := dq daX0_owedAt_34_0 31 rfl
def dtX0_owedAt_34_1 : List (Nat × Jvm.ClassFile.Instr × Nat) := [(50, .sipush 1440, 3), (53, .iadd, 1), (54, .if_icmp .ge 7, 3), (57, .iconst 1, 1), (58, .goto 4, 3), (69, .aload_n 1, 1), (70, .getfield 130, 3), (73, .iload 4, 2), (75, .iconst 0, 1), (76, .invokevirtual 30, 3), (79, .iload_n 2, 1), (80, .if_icmp .ne 16, 3), (83, .iload_n 3, 1), (84, .aload_n 1, 1), (85, .getfield 130, 3), (88, .iload 4, 2), (90, .iconst 2, 1), (91, .invokevirtual 30, 3), (94, .iadd, 1), (95, .istore_n 3, 1), (102, .iload_n 3, 1), (103, .ireturn, 1)]
theorem daX0_owedAt_34_1 : dtX0_owedAt_34_1.all (dqd cX0_owedAt) = true := by decide +kernel
theorem dX0_owedAt_50 : decode cX0_owedAt 50 = .ok (.sipush 1440, 3) := dq daX0_owedAt_34_1 0 rfl
theorem dX0_owedAt_53 : decode cX0_owedAt 53 = .ok (.iadd, 1) := dq daX0_owedAt_34_1 1 rfl
theorem dX0_owedAt_54 : decode cX0_owedAt 54 = .ok (.if_icmp .ge 7, 3) := dq daX0_owedAt_34_1 2 rfl
theorem dX0_owedAt_57 : decode cX0_owedAt 57 = .ok (.iconst 1, 1) := dq daX0_owedAt_34_1 3 rfl
theorem dX0_owedAt_58 : decode cX0_owedAt 58 = .ok (.goto 4, 3) := dq daX0_owedAt_34_1 4 rfl
theorem dX0_owedAt_69 : decode cX0_owedAt 69 = .ok (.aload_n 1, 1) := dq daX0_owedAt_34_1 5 rfl
theorem dX0_owedAt_70 : decode cX0_owedAt 70 = .ok (.getfield 130, 3) := dq daX0_owedAt_34_1 6 rfl
theorem dX0_owedAt_73 : decode cX0_owedAt 73 = .ok (.iload 4, 2) := dq daX0_owedAt_34_1 7 rfl
theorem dX0_owedAt_75 : decode cX0_owedAt 75 = .ok (.iconst 0, 1) := dq daX0_owedAt_34_1 8 rfl
theorem dX0_owedAt_76 : decode cX0_owedAt 76 = .ok (.invokevirtual 30, 3) := dq daX0_owedAt_34_1 9 rfl
theorem dX0_owedAt_79 : decode cX0_owedAt 79 = .ok (.iload_n 2, 1) := dq daX0_owedAt_34_1 10 rfl
theorem dX0_owedAt_80 : decode cX0_owedAt 80 = .ok (.if_icmp .ne 16, 3) := dq daX0_owedAt_34_1 11 rfl
theorem dX0_owedAt_83 : decode cX0_owedAt 83 = .ok (.iload_n 3, 1) := dq daX0_owedAt_34_1 12 rfl
theorem dX0_owedAt_84 : decode cX0_owedAt 84 = .ok (.aload_n 1, 1) := dq daX0_owedAt_34_1 13 rfl
theorem dX0_owedAt_85 : decode cX0_owedAt 85 = .ok (.getfield 130, 3) := dq daX0_owedAt_34_1 14 rfl
theorem dX0_owedAt_88 : decode cX0_owedAt 88 = .ok (.iload 4, 2) := dq daX0_owedAt_34_1 15 rfl
theorem dX0_owedAt_90 : decode cX0_owedAt 90 = .ok (.iconst 2, 1) := dq daX0_owedAt_34_1 16 rfl
theorem dX0_owedAt_91 : decode cX0_owedAt 91 = .ok (.invokevirtual 30, 3) := dq daX0_owedAt_34_1 17 rfl
theorem dX0_owedAt_94 : decode cX0_owedAt 94 = .ok (.iadd, 1) := dq daX0_owedAt_34_1 18 rfl
theorem dX0_owedAt_95 : decode cX0_owedAt 95 = .ok (.istore_n 3, 1) := dq daX0_owedAt_34_1 19 rfl
theorem dX0_owedAt_102 : decode cX0_owedAt 102 = .ok (.iload_n 3, 1) := dq daX0_owedAt_34_1 20 rfl
theorem dX0_owedAt_103 : decode cX0_owedAt 103 = .ok (.ireturn, 1) := dq daX0_owedAt_34_1 21 rfl
def dtX0_eatenOn_34_0 : List (Nat × Jvm.ClassFile.Instr × Nat) := [(0, .iconst 0, 1), (1, .istore 4, 2), (3, .iconst 0, 1), (4, .istore 5, 2), (6, .iload 5, 2), (8, .aload_n 1, 1), (9, .getfield 130, 3), (12, .getfield 24, 3), (15, .if_icmp .ge 52, 3), (18, .aload_n 1, 1), (19, .getfield 130, 3), (22, .iload 5, 2), (24, .iconst 1, 1), (25, .invokevirtual 30, 3), (28, .iload_n 3, 1), (29, .if_icmp .ne 32, 3), (61, .iinc 5 1, 3), (64, .goto (-58), 3), (32, .aload_n 1, 1), (33, .getfield 130, 3), (36, .iload 5, 2), (38, .iconst 0, 1), (39, .invokevirtual 30, 3), (42, .iload_n 2, 1), (43, .if_icmp .ne 18, 3), (46, .iload 4, 2), (48, .aload_n 1, 1), (49, .getfield 130, 3), (52, .iload 5, 2), (54, .iconst 2, 1), (55, .invokevirtual 30, 3), (58, .iadd, 1)]
theorem daX0_eatenOn_34_0 : dtX0_eatenOn_34_0.all (dqd cX0_eatenOn) = true := by decide +kernel
theorem dX0_eatenOn_0 : decode cX0_eatenOn 0 = .ok (.iconst 0, 1) := dq daX0_eatenOn_34_0 0 rfl
theorem dX0_eatenOn_1 : decode cX0_eatenOn 1 = .ok (.istore 4, 2) := dq daX0_eatenOn_34_0 1 rfl
theorem dX0_eatenOn_3 : decode cX0_eatenOn 3 = .ok (.iconst 0, 1) := dq daX0_eatenOn_34_0 2 rfl
theorem dX0_eatenOn_4 : decode cX0_eatenOn 4 = .ok (.istore 5, 2) := dq daX0_eatenOn_34_0 3 rfl
theorem dX0_eatenOn_6 : decode cX0_eatenOn 6 = .ok (.iload 5, 2) := dq daX0_eatenOn_34_0 4 rfl
theorem dX0_eatenOn_8 : decode cX0_eatenOn 8 = .ok (.aload_n 1, 1) := dq daX0_eatenOn_34_0 5 rfl
theorem dX0_eatenOn_9 : decode cX0_eatenOn 9 = .ok (.getfield 130, 3) := dq daX0_eatenOn_34_0 6 rfl
theorem dX0_eatenOn_12 : decode cX0_eatenOn 12 = .ok (.getfield 24, 3) := dq daX0_eatenOn_34_0 7 rfl
theorem dX0_eatenOn_15 : decode cX0_eatenOn 15 = .ok (.if_icmp .ge 52, 3) := dq daX0_eatenOn_34_0 8 rfl
theorem dX0_eatenOn_18 : decode cX0_eatenOn 18 = .ok (.aload_n 1, 1) := dq daX0_eatenOn_34_0 9 rfl
theorem dX0_eatenOn_19 : decode cX0_eatenOn 19 = .ok (.getfield 130, 3) := dq daX0_eatenOn_34_0 10 rfl
theorem dX0_eatenOn_22 : decode cX0_eatenOn 22 = .ok (.iload 5, 2) := dq daX0_eatenOn_34_0 11 rfl
theorem dX0_eatenOn_24 : decode cX0_eatenOn 24 = .ok (.iconst 1, 1) := dq daX0_eatenOn_34_0 12 rfl
theorem dX0_eatenOn_25 : decode cX0_eatenOn 25 = .ok (.invokevirtual 30, 3) := dq daX0_eatenOn_34_0 13 rfl
theorem dX0_eatenOn_28 : decode cX0_eatenOn 28 = .ok (.iload_n 3, 1) := dq daX0_eatenOn_34_0 14 rfl
theorem dX0_eatenOn_29 : decode cX0_eatenOn 29 = .ok (.if_icmp .ne 32, 3) := dq daX0_eatenOn_34_0 15 rfl
theorem dX0_eatenOn_61 : decode cX0_eatenOn 61 = .ok (.iinc 5 1, 3) := dq daX0_eatenOn_34_0 16 rfl
theorem dX0_eatenOn_64 : decode cX0_eatenOn 64 = .ok (.goto (-58), 3) := dq daX0_eatenOn_34_0 17 rfl
theorem dX0_eatenOn_32 : decode cX0_eatenOn 32 = .ok (.aload_n 1, 1) := dq daX0_eatenOn_34_0 18 rfl
theorem dX0_eatenOn_33 : decode cX0_eatenOn 33 = .ok (.getfield 130, 3) := dq daX0_eatenOn_34_0 19 rfl
theorem dX0_eatenOn_36 : decode cX0_eatenOn 36 = .ok (.iload 5, 2) := dq daX0_eatenOn_34_0 20 rfl
theorem dX0_eatenOn_38 : decode cX0_eatenOn 38 = .ok (.iconst 0, 1) := dq daX0_eatenOn_34_0 21 rfl
theorem dX0_eatenOn_39 : decode cX0_eatenOn 39 = .ok (.invokevirtual 30, 3) := dq daX0_eatenOn_34_0 22 rfl
theorem dX0_eatenOn_42 : decode cX0_eatenOn 42 = .ok (.iload_n 2, 1) := dq daX0_eatenOn_34_0 23 rfl
theorem dX0_eatenOn_43 : decode cX0_eatenOn 43 = .ok (.if_icmp .ne 18, 3) := dq daX0_eatenOn_34_0 24 rfl
theorem dX0_eatenOn_46 : decode cX0_eatenOn 46 = .ok (.iload 4, 2) := dq daX0_eatenOn_34_0 25 rfl
theorem dX0_eatenOn_48 : decode cX0_eatenOn 48 = .ok (.aload_n 1, 1) := dq daX0_eatenOn_34_0 26 rfl
theorem dX0_eatenOn_49 : decode cX0_eatenOn 49 = .ok (.getfield 130, 3) := dq daX0_eatenOn_34_0 27 rfl
theorem dX0_eatenOn_52 : decode cX0_eatenOn 52 = .ok (.iload 5, 2) := dq daX0_eatenOn_34_0 28 rfl
theorem dX0_eatenOn_54 : decode cX0_eatenOn 54 = .ok (.iconst 2, 1) := dq daX0_eatenOn_34_0 29 rfl
theorem dX0_eatenOn_55 : decode cX0_eatenOn 55 = .ok (.invokevirtual 30, 3) := dq daX0_eatenOn_34_0 30 rfl
theorem dX0_eatenOn_58 : decode cX0_eatenOn 58 = .ok (.iadd, 1) := dq daX0_eatenOn_34_0 31 rfl
def dtX0_eatenOn_34_1 : List (Nat × Jvm.ClassFile.Instr × Nat) := [(59, .istore 4, 2), (67, .iload 4, 2), (69, .ireturn, 1)]
theorem daX0_eatenOn_34_1 : dtX0_eatenOn_34_1.all (dqd cX0_eatenOn) = true := by decide +kernel
theorem dX0_eatenOn_59 : decode cX0_eatenOn 59 = .ok (.istore 4, 2) := dq daX0_eatenOn_34_1 0 rfl
theorem dX0_eatenOn_67 : decode cX0_eatenOn 67 = .ok (.iload 4, 2) := dq daX0_eatenOn_34_1 1 rfl
theorem dX0_eatenOn_69 : decode cX0_eatenOn 69 = .ok (.ireturn, 1) := dq daX0_eatenOn_34_1 2 rfl
def dtX0_lasts_34_0 : List (Nat × Jvm.ClassFile.Instr × Nat) := [(0, .iload 4, 2), (2, .istore 5, 2), (4, .aload_n 0, 1), (5, .aload_n 1, 1), (6, .iload_n 3, 1), (7, .invokevirtual 122, 3), (10, .istore 6, 2), (12, .iconst 0, 1), (13, .istore 7, 2), (15, .iload 7, 2), (17, .sipush 1440, 3), (20, .if_icmp .ge 85, 3), (23, .iload 6, 2), (25, .ifCond .le 80, 3), (28, .iload 5, 2), (30, .iload 6, 2), (32, .if_icmp .ge 5, 3), (37, .aload_n 1, 1), (38, .getfield 41, 3), (41, .iload 7, 2), (43, .iadd, 1), (44, .istore 8, 2), (46, .iload 8, 2), (48, .bipush 24, 2), (50, .irem, 1), (51, .bipush 12, 2), (53, .if_icmp .ne 30, 3), (83, .iload 5, 2), (85, .aload_n 0, 1), (86, .aload_n 1, 1), (87, .aload_n 2, 1), (88, .iload_n 3, 1)]
theorem daX0_lasts_34_0 : dtX0_lasts_34_0.all (dqd cX0_lasts) = true := by decide +kernel
theorem dX0_lasts_0 : decode cX0_lasts 0 = .ok (.iload 4, 2) := dq daX0_lasts_34_0 0 rfl
theorem dX0_lasts_2 : decode cX0_lasts 2 = .ok (.istore 5, 2) := dq daX0_lasts_34_0 1 rfl
theorem dX0_lasts_4 : decode cX0_lasts 4 = .ok (.aload_n 0, 1) := dq daX0_lasts_34_0 2 rfl
theorem dX0_lasts_5 : decode cX0_lasts 5 = .ok (.aload_n 1, 1) := dq daX0_lasts_34_0 3 rfl
theorem dX0_lasts_6 : decode cX0_lasts 6 = .ok (.iload_n 3, 1) := dq daX0_lasts_34_0 4 rfl
theorem dX0_lasts_7 : decode cX0_lasts 7 = .ok (.invokevirtual 122, 3) := dq daX0_lasts_34_0 5 rfl
theorem dX0_lasts_10 : decode cX0_lasts 10 = .ok (.istore 6, 2) := dq daX0_lasts_34_0 6 rfl
theorem dX0_lasts_12 : decode cX0_lasts 12 = .ok (.iconst 0, 1) := dq daX0_lasts_34_0 7 rfl
theorem dX0_lasts_13 : decode cX0_lasts 13 = .ok (.istore 7, 2) := dq daX0_lasts_34_0 8 rfl
theorem dX0_lasts_15 : decode cX0_lasts 15 = .ok (.iload 7, 2) := dq daX0_lasts_34_0 9 rfl
theorem dX0_lasts_17 : decode cX0_lasts 17 = .ok (.sipush 1440, 3) := dq daX0_lasts_34_0 10 rfl
theorem dX0_lasts_20 : decode cX0_lasts 20 = .ok (.if_icmp .ge 85, 3) := dq daX0_lasts_34_0 11 rfl
theorem dX0_lasts_23 : decode cX0_lasts 23 = .ok (.iload 6, 2) := dq daX0_lasts_34_0 12 rfl
theorem dX0_lasts_25 : decode cX0_lasts 25 = .ok (.ifCond .le 80, 3) := dq daX0_lasts_34_0 13 rfl
theorem dX0_lasts_28 : decode cX0_lasts 28 = .ok (.iload 5, 2) := dq daX0_lasts_34_0 14 rfl
theorem dX0_lasts_30 : decode cX0_lasts 30 = .ok (.iload 6, 2) := dq daX0_lasts_34_0 15 rfl
theorem dX0_lasts_32 : decode cX0_lasts 32 = .ok (.if_icmp .ge 5, 3) := dq daX0_lasts_34_0 16 rfl
theorem dX0_lasts_37 : decode cX0_lasts 37 = .ok (.aload_n 1, 1) := dq daX0_lasts_34_0 17 rfl
theorem dX0_lasts_38 : decode cX0_lasts 38 = .ok (.getfield 41, 3) := dq daX0_lasts_34_0 18 rfl
theorem dX0_lasts_41 : decode cX0_lasts 41 = .ok (.iload 7, 2) := dq daX0_lasts_34_0 19 rfl
theorem dX0_lasts_43 : decode cX0_lasts 43 = .ok (.iadd, 1) := dq daX0_lasts_34_0 20 rfl
theorem dX0_lasts_44 : decode cX0_lasts 44 = .ok (.istore 8, 2) := dq daX0_lasts_34_0 21 rfl
theorem dX0_lasts_46 : decode cX0_lasts 46 = .ok (.iload 8, 2) := dq daX0_lasts_34_0 22 rfl
theorem dX0_lasts_48 : decode cX0_lasts 48 = .ok (.bipush 24, 2) := dq daX0_lasts_34_0 23 rfl
theorem dX0_lasts_50 : decode cX0_lasts 50 = .ok (.irem, 1) := dq daX0_lasts_34_0 24 rfl
theorem dX0_lasts_51 : decode cX0_lasts 51 = .ok (.bipush 12, 2) := dq daX0_lasts_34_0 25 rfl
theorem dX0_lasts_53 : decode cX0_lasts 53 = .ok (.if_icmp .ne 30, 3) := dq daX0_lasts_34_0 26 rfl
theorem dX0_lasts_83 : decode cX0_lasts 83 = .ok (.iload 5, 2) := dq daX0_lasts_34_0 27 rfl
theorem dX0_lasts_85 : decode cX0_lasts 85 = .ok (.aload_n 0, 1) := dq daX0_lasts_34_0 28 rfl
theorem dX0_lasts_86 : decode cX0_lasts 86 = .ok (.aload_n 1, 1) := dq daX0_lasts_34_0 29 rfl
theorem dX0_lasts_87 : decode cX0_lasts 87 = .ok (.aload_n 2, 1) := dq daX0_lasts_34_0 30 rfl
theorem dX0_lasts_88 : decode cX0_lasts 88 = .ok (.iload_n 3, 1) := dq daX0_lasts_34_0 31 rfl
def dtX0_lasts_34_1 : List (Nat × Jvm.ClassFile.Instr × Nat) := [(89, .iload 8, 2), (91, .iload 5, 2), (93, .invokevirtual 44, 3), (96, .isub, 1), (97, .istore 5, 2), (99, .iinc 7 1, 3), (102, .goto (-87), 3), (56, .aload_n 0, 1), (57, .aload_n 1, 1), (58, .iload_n 3, 1), (59, .iload 8, 2), (61, .bipush 24, 2), (63, .idiv, 1), (64, .invokevirtual 126, 3), (67, .istore 9, 2), (69, .iload 5, 2), (71, .iload 9, 2), (73, .isub, 1), (74, .istore 5, 2), (76, .iload 6, 2), (78, .iload 9, 2), (80, .isub, 1), (81, .istore 6, 2), (35, .iconst 0, 1), (105, .iconst 1, 1), (36, .ireturn, 1), (106, .ireturn, 1)]
theorem daX0_lasts_34_1 : dtX0_lasts_34_1.all (dqd cX0_lasts) = true := by decide +kernel
theorem dX0_lasts_89 : decode cX0_lasts 89 = .ok (.iload 8, 2) := dq daX0_lasts_34_1 0 rfl
theorem dX0_lasts_91 : decode cX0_lasts 91 = .ok (.iload 5, 2) := dq daX0_lasts_34_1 1 rfl
theorem dX0_lasts_93 : decode cX0_lasts 93 = .ok (.invokevirtual 44, 3) := dq daX0_lasts_34_1 2 rfl
theorem dX0_lasts_96 : decode cX0_lasts 96 = .ok (.isub, 1) := dq daX0_lasts_34_1 3 rfl
theorem dX0_lasts_97 : decode cX0_lasts 97 = .ok (.istore 5, 2) := dq daX0_lasts_34_1 4 rfl
theorem dX0_lasts_99 : decode cX0_lasts 99 = .ok (.iinc 7 1, 3) := dq daX0_lasts_34_1 5 rfl
theorem dX0_lasts_102 : decode cX0_lasts 102 = .ok (.goto (-87), 3) := dq daX0_lasts_34_1 6 rfl
theorem dX0_lasts_56 : decode cX0_lasts 56 = .ok (.aload_n 0, 1) := dq daX0_lasts_34_1 7 rfl
theorem dX0_lasts_57 : decode cX0_lasts 57 = .ok (.aload_n 1, 1) := dq daX0_lasts_34_1 8 rfl
theorem dX0_lasts_58 : decode cX0_lasts 58 = .ok (.iload_n 3, 1) := dq daX0_lasts_34_1 9 rfl
theorem dX0_lasts_59 : decode cX0_lasts 59 = .ok (.iload 8, 2) := dq daX0_lasts_34_1 10 rfl
theorem dX0_lasts_61 : decode cX0_lasts 61 = .ok (.bipush 24, 2) := dq daX0_lasts_34_1 11 rfl
theorem dX0_lasts_63 : decode cX0_lasts 63 = .ok (.idiv, 1) := dq daX0_lasts_34_1 12 rfl
theorem dX0_lasts_64 : decode cX0_lasts 64 = .ok (.invokevirtual 126, 3) := dq daX0_lasts_34_1 13 rfl
theorem dX0_lasts_67 : decode cX0_lasts 67 = .ok (.istore 9, 2) := dq daX0_lasts_34_1 14 rfl
theorem dX0_lasts_69 : decode cX0_lasts 69 = .ok (.iload 5, 2) := dq daX0_lasts_34_1 15 rfl
theorem dX0_lasts_71 : decode cX0_lasts 71 = .ok (.iload 9, 2) := dq daX0_lasts_34_1 16 rfl
theorem dX0_lasts_73 : decode cX0_lasts 73 = .ok (.isub, 1) := dq daX0_lasts_34_1 17 rfl
theorem dX0_lasts_74 : decode cX0_lasts 74 = .ok (.istore 5, 2) := dq daX0_lasts_34_1 18 rfl
theorem dX0_lasts_76 : decode cX0_lasts 76 = .ok (.iload 6, 2) := dq daX0_lasts_34_1 19 rfl
theorem dX0_lasts_78 : decode cX0_lasts 78 = .ok (.iload 9, 2) := dq daX0_lasts_34_1 20 rfl
theorem dX0_lasts_80 : decode cX0_lasts 80 = .ok (.isub, 1) := dq daX0_lasts_34_1 21 rfl
theorem dX0_lasts_81 : decode cX0_lasts 81 = .ok (.istore 6, 2) := dq daX0_lasts_34_1 22 rfl
theorem dX0_lasts_35 : decode cX0_lasts 35 = .ok (.iconst 0, 1) := dq daX0_lasts_34_1 23 rfl
theorem dX0_lasts_105 : decode cX0_lasts 105 = .ok (.iconst 1, 1) := dq daX0_lasts_34_1 24 rfl
theorem dX0_lasts_36 : decode cX0_lasts 36 = .ok (.ireturn, 1) := dq daX0_lasts_34_1 25 rfl
theorem dX0_lasts_106 : decode cX0_lasts 106 = .ok (.ireturn, 1) := dq daX0_lasts_34_1 26 rfl
