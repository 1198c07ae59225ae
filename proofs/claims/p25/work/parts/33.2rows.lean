theorem kX1_clear_1 {a : Array Value} {s : State} (hts : ∀ w ∈ wsX1_clear, w.before a s = true) : (.fieldLink RX1 46 "SnowMules$Law" "chain" "I" : Cond).before a s = true := kw (A := ixX1_clear) wt373 hts (by decide +kernel)
theorem kX1_clear_2 {a : Array Value} {s : State} (hts : ∀ w ∈ wsX1_clear, w.before a s = true) : (.fieldLink RX1 50 "SnowMules$Law" "clauses" "I" : Cond).before a s = true := kw (A := ixX1_clear) wt374 hts (by decide +kernel)
theorem kX1_clear_3 {a : Array Value} {s : State} (hts : ∀ w ∈ wsX1_clear, w.before a s = true) : (.fieldLink RX1 53 "SnowMules$Law" "values" "I" : Cond).before a s = true := kw (A := ixX1_clear) wt375 hts (by decide +kernel)
theorem kX1_clear_4 {a : Array Value} {s : State} (hts : ∀ w ∈ wsX1_clear, w.before a s = true) : (.fieldLink RX1 56 "SnowMules$Law" "facts" "I" : Cond).before a s = true := kw (A := ixX1_clear) wt376 hts (by decide +kernel)
theorem kX1_clear_5 {a : Array Value} {s : State} (hts : ∀ w ∈ wsX1_clear, w.before a s = true) : (.fieldLink RX1 59 "SnowMules$Law" "steps" "I" : Cond).before a s = true := kw (A := ixX1_clear) wt377 hts (by decide +kernel)
theorem kX1_beginClause_1 {a : Array Value} {s : State} (hts : ∀ w ∈ wsX1_beginClause, w.before a s = true) : (.fieldLink RX1 50 "SnowMules$Law" "clauses" "I" : Cond).before a s = true := kw (A := ixX1_beginClause) wt374 hts (by decide +kernel)
theorem kX1_beginClause_2 {a : Array Value} {s : State} (hts : ∀ w ∈ wsX1_beginClause, w.before a s = true) : (.fieldLink RX1 9 "SnowMules$Law" "sorts" "[I" : Cond).before a s = true := kw (A := ixX1_beginClause) wt81 hts (by decide +kernel)
theorem kX1_beginClause_3 {a : Array Value} {s : State} (hts : ∀ w ∈ wsX1_beginClause, w.before a s = true) : (.fieldLink RX1 13 "SnowMules$Law" "sumStarts" "[I" : Cond).before a s = true := kw (A := ixX1_beginClause) wt82 hts (by decide +kernel)
theorem kX1_beginClause_4 {a : Array Value} {s : State} (hts : ∀ w ∈ wsX1_beginClause, w.before a s = true) : (.fieldLink RX1 53 "SnowMules$Law" "values" "I" : Cond).before a s = true := kw (A := ixX1_beginClause) wt375 hts (by decide +kernel)
theorem kX1_endSum_1 {a : Array Value} {s : State} (hts : ∀ w ∈ wsX1_endSum, w.before a s = true) : (.fieldLink RX1 50 "SnowMules$Law" "clauses" "I" : Cond).before a s = true := kw (A := ixX1_endSum) wt374 hts (by decide +kernel)
theorem kX1_endSum_2 {a : Array Value} {s : State} (hts : ∀ w ∈ wsX1_endSum, w.before a s = true) : (.fieldLink RX1 16 "SnowMules$Law" "sumStops" "[I" : Cond).before a s = true := kw (A := ixX1_endSum) wt83 hts (by decide +kernel)
theorem kX1_endSum_3 {a : Array Value} {s : State} (hts : ∀ w ∈ wsX1_endSum, w.before a s = true) : (.fieldLink RX1 53 "SnowMules$Law" "values" "I" : Cond).before a s = true := kw (A := ixX1_endSum) wt375 hts (by decide +kernel)
theorem kX1_endSum_4 {a : Array Value} {s : State} (hts : ∀ w ∈ wsX1_endSum, w.before a s = true) : (.fieldLink RX1 19 "SnowMules$Law" "testStarts" "[I" : Cond).before a s = true := kw (A := ixX1_endSum) wt84 hts (by decide +kernel)
theorem kX1_endSum_5 {a : Array Value} {s : State} (hts : ∀ w ∈ wsX1_endSum, w.before a s = true) : (.fieldLink RX1 59 "SnowMules$Law" "steps" "I" : Cond).before a s = true := kw (A := ixX1_endSum) wt377 hts (by decide +kernel)
theorem kX1_endSum_6 {a : Array Value} {s : State} (hts : ∀ w ∈ wsX1_endSum, w.before a s = true) : (.fieldLink RX1 22 "SnowMules$Law" "testStops" "[I" : Cond).before a s = true := kw (A := ixX1_endSum) wt85 hts (by decide +kernel)
theorem kX1_endTest_1 {a : Array Value} {s : State} (hts : ∀ w ∈ wsX1_endTest, w.before a s = true) : (.fieldLink RX1 50 "SnowMules$Law" "clauses" "I" : Cond).before a s = true := kw (A := ixX1_endTest) wt374 hts (by decide +kernel)
theorem kX1_endTest_2 {a : Array Value} {s : State} (hts : ∀ w ∈ wsX1_endTest, w.before a s = true) : (.fieldLink RX1 22 "SnowMules$Law" "testStops" "[I" : Cond).before a s = true := kw (A := ixX1_endTest) wt85 hts (by decide +kernel)
theorem kX1_endTest_3 {a : Array Value} {s : State} (hts : ∀ w ∈ wsX1_endTest, w.before a s = true) : (.fieldLink RX1 59 "SnowMules$Law" "steps" "I" : Cond).before a s = true := kw (A := ixX1_endTest) wt377 hts (by decide +kernel)
theorem kX1_addValue_1 {a : Array Value} {s : State} (hts : ∀ w ∈ wsX1_addValue, w.before a s = true) : (.fieldLink RX1 53 "SnowMules$Law" "values" "I" : Cond).before a s = true := kw (A := ixX1_addValue) wt375 hts (by decide +kernel)
theorem kX1_addValue_2 {a : Array Value} {s : State} (hts : ∀ w ∈ wsX1_addValue, w.before a s = true) : (.fieldLink RX1 25 "SnowMules$Law" "joins" "[I" : Cond).before a s = true := kw (A := ixX1_addValue) wt86 hts (by decide +kernel)
theorem kX1_addValue_3 {a : Array Value} {s : State} (hts : ∀ w ∈ wsX1_addValue, w.before a s = true) : (.fieldLink RX1 28 "SnowMules$Law" "operands" "[I" : Cond).before a s = true := kw (A := ixX1_addValue) wt87 hts (by decide +kernel)
theorem kX1_addStep_1 {a : Array Value} {s : State} (hts : ∀ w ∈ wsX1_addStep, w.before a s = true) : (.fieldLink RX1 59 "SnowMules$Law" "steps" "I" : Cond).before a s = true := kw (A := ixX1_addStep) wt377 hts (by decide +kernel)
theorem kX1_addStep_2 {a : Array Value} {s : State} (hts : ∀ w ∈ wsX1_addStep, w.before a s = true) : (.fieldLink RX1 43 "SnowMules$Law" "tests" "[I" : Cond).before a s = true := kw (A := ixX1_addStep) wt92 hts (by decide +kernel)
theorem kX1_addFact_1 {a : Array Value} {s : State} (hts : ∀ w ∈ wsX1_addFact, w.before a s = true) : (.fieldLink RX1 56 "SnowMules$Law" "facts" "I" : Cond).before a s = true := kw (A := ixX1_addFact) wt376 hts (by decide +kernel)
theorem kX1_addFact_2 {a : Array Value} {s : State} (hts : ∀ w ∈ wsX1_addFact, w.before a s = true) : (.fieldLink RX1 31 "SnowMules$Law" "factStarts" "[I" : Cond).before a s = true := kw (A := ixX1_addFact) wt88 hts (by decide +kernel)
theorem kX1_addFact_3 {a : Array Value} {s : State} (hts : ∀ w ∈ wsX1_addFact, w.before a s = true) : (.fieldLink RX1 34 "SnowMules$Law" "factMiddles" "[I" : Cond).before a s = true := kw (A := ixX1_addFact) wt89 hts (by decide +kernel)
theorem kX1_addFact_4 {a : Array Value} {s : State} (hts : ∀ w ∈ wsX1_addFact, w.before a s = true) : (.fieldLink RX1 37 "SnowMules$Law" "factStops" "[I" : Cond).before a s = true := kw (A := ixX1_addFact) wt90 hts (by decide +kernel)
theorem kX1_addFact_5 {a : Array Value} {s : State} (hts : ∀ w ∈ wsX1_addFact, w.before a s = true) : (.fieldLink RX1 53 "SnowMules$Law" "values" "I" : Cond).before a s = true := kw (A := ixX1_addFact) wt375 hts (by decide +kernel)
theorem kX1_addFact_6 {a : Array Value} {s : State} (hts : ∀ w ∈ wsX1_addFact, w.before a s = true) : (.fieldLink RX1 40 "SnowMules$Law" "signs" "[I" : Cond).before a s = true := kw (A := ixX1_addFact) wt91 hts (by decide +kernel)
theorem kX1_total_1 {a : Array Value} {s : State} (hts : ∀ w ∈ wsX1_total, w.before a s = true) : (.fieldLink RX1 28 "SnowMules$Law" "operands" "[I" : Cond).before a s = true := kw (A := ixX1_total) wt87 hts (by decide +kernel)
theorem kX1_total_2 {a : Array Value} {s : State} (hts : ∀ w ∈ wsX1_total, w.before a s = true) : (.fieldLink RX1 25 "SnowMules$Law" "joins" "[I" : Cond).before a s = true := kw (A := ixX1_total) wt86 hts (by decide +kernel)
theorem kX1_holds_1 {a : Array Value} {s : State} (hts : ∀ w ∈ wsX1_holds, w.before a s = true) : (.fieldLink RX1 43 "SnowMules$Law" "tests" "[I" : Cond).before a s = true := kw (A := ixX1_holds) wt92 hts (by decide +kernel)
theorem kX1_holds_3 {a : Array Value} {s : State} (hts : ∀ w ∈ wsX1_holds, w.before a s = true) : (.fieldLink RX1 31 "SnowMules$Law" "factStarts" "[I" : Cond).before a s = true := kw (A := ixX1_holds) wt88 hts (by decide +kernel)
theorem kX1_holds_4 {a : Array Value} {s : State} (hts : ∀ w ∈ wsX1_holds, w.before a s = true) : (.fieldLink RX1 34 "SnowMules$Law" "factMiddles" "[I" : Cond).before a s = true := kw (A := ixX1_holds) wt89 hts (by decide +kernel)
theorem kX1_holds_5 {a : Array Value} {s : State} (hts : ∀ w ∈ wsX1_holds, w.before a s = true) : (.fieldLink RX1 37 "SnowMules$Law" "factStops" "[I" : Cond).before a s = true := kw (A := ixX1_holds) wt90 hts (by decide +kernel)
theorem kX1_holds_6 {a : Array Value} {s : State} (hts : ∀ w ∈ wsX1_holds, w.before a s = true) : (.fieldLink RX1 40 "SnowMules$Law" "signs" "[I" : Cond).before a s = true := kw (A := ixX1_holds) wt91 hts (by decide +kernel)
theorem kX1_holds_2 {a : Array Value} {s : State} (hts : ∀ w ∈ wsX1_holds, w.before a s = true) : (.constantLong RX1 74 (-2) : Cond).before a s = true := kw (A := ixX1_holds) wt757 hts (by decide +kernel)
theorem kX1_sumOf_1 {a : Array Value} {s : State} (hts : ∀ w ∈ wsX1_sumOf, w.before a s = true) : (.fieldLink RX1 50 "SnowMules$Law" "clauses" "I" : Cond).before a s = true := kw (A := ixX1_sumOf) wt374 hts (by decide +kernel)
theorem kX1_sumOf_2 {a : Array Value} {s : State} (hts : ∀ w ∈ wsX1_sumOf, w.before a s = true) : (.fieldLink RX1 9 "SnowMules$Law" "sorts" "[I" : Cond).before a s = true := kw (A := ixX1_sumOf) wt81 hts (by decide +kernel)
theorem kX1_sumOf_3 {a : Array Value} {s : State} (hts : ∀ w ∈ wsX1_sumOf, w.before a s = true) : (.fieldLink RX1 19 "SnowMules$Law" "testStarts" "[I" : Cond).before a s = true := kw (A := ixX1_sumOf) wt84 hts (by decide +kernel)
theorem kX1_sumOf_4 {a : Array Value} {s : State} (hts : ∀ w ∈ wsX1_sumOf, w.before a s = true) : (.fieldLink RX1 22 "SnowMules$Law" "testStops" "[I" : Cond).before a s = true := kw (A := ixX1_sumOf) wt85 hts (by decide +kernel)
theorem kX1_sumOf_5 {a : Array Value} {s : State} (hts : ∀ w ∈ wsX1_sumOf, w.before a s = true) : (.fieldLink RX1 13 "SnowMules$Law" "sumStarts" "[I" : Cond).before a s = true := kw (A := ixX1_sumOf) wt82 hts (by decide +kernel)
theorem kX1_sumOf_6 {a : Array Value} {s : State} (hts : ∀ w ∈ wsX1_sumOf, w.before a s = true) : (.fieldLink RX1 16 "SnowMules$Law" "sumStops" "[I" : Cond).before a s = true := kw (A := ixX1_sumOf) wt83 hts (by decide +kernel)
theorem iX1_clear_X1 : ∀ w ∈ wsX10, w ∈ wsX1_clear := inW (A := ixX1_clear) uwX1 (by decide +kernel)
theorem iX1_beginClause_X1 : ∀ w ∈ wsX10, w ∈ wsX1_beginClause := inW (A := ixX1_beginClause) uwX1 (by decide +kernel)
theorem iX1_endSum_X1 : ∀ w ∈ wsX10, w ∈ wsX1_endSum := inW (A := ixX1_endSum) uwX1 (by decide +kernel)
theorem iX1_endTest_X1 : ∀ w ∈ wsX10, w ∈ wsX1_endTest := inW (A := ixX1_endTest) uwX1 (by decide +kernel)
theorem iX1_addValue_X1 : ∀ w ∈ wsX10, w ∈ wsX1_addValue := inW (A := ixX1_addValue) uwX1 (by decide +kernel)
theorem iX1_addStep_X1 : ∀ w ∈ wsX10, w ∈ wsX1_addStep := inW (A := ixX1_addStep) uwX1 (by decide +kernel)
theorem iX1_addFact_X1 : ∀ w ∈ wsX10, w ∈ wsX1_addFact := inW (A := ixX1_addFact) uwX1 (by decide +kernel)
theorem iX1_total_X1 : ∀ w ∈ wsX10, w ∈ wsX1_total := inW (A := ixX1_total) uwX1 (by decide +kernel)
theorem iX1_holds_X1 : ∀ w ∈ wsX10, w ∈ wsX1_holds := inW (A := ixX1_holds) uwX1 (by decide +kernel)
theorem iX1_sumOf_X1 : ∀ w ∈ wsX10, w ∈ wsX1_sumOf := inW (A := ixX1_sumOf) uwX1 (by decide +kernel)
theorem hdX1_addStep : yX1_addStep.cls ≠ "java/lang/invoke/MethodHandle" ∧ yX1_addStep.cls ≠ "java/lang/invoke/VarHandle" ∧ (parseMethodDescriptor yX1_addStep.desc).map (fun d => d.parameters.length) = some 1 := ⟨hdc_3.1, hdc_3.2, hdd_17⟩
theorem hdX1_total : yX1_total.cls ≠ "java/lang/invoke/MethodHandle" ∧ yX1_total.cls ≠ "java/lang/invoke/VarHandle" ∧ (parseMethodDescriptor yX1_total.desc).map (fun d => d.parameters.length) = some 3 := ⟨hdc_3.1, hdc_3.2, hdd_27⟩
theorem hdX1_isTrue : yX1_isTrue.cls ≠ "java/lang/invoke/MethodHandle" ∧ yX1_isTrue.cls ≠ "java/lang/invoke/VarHandle" ∧ (parseMethodDescriptor yX1_isTrue.desc).map (fun d => d.parameters.length) = some 3 := ⟨hdc_3.1, hdc_3.2, hdd_28⟩
theorem hdX1_holds : yX1_holds.cls ≠ "java/lang/invoke/MethodHandle" ∧ yX1_holds.cls ≠ "java/lang/invoke/VarHandle" ∧ (parseMethodDescriptor yX1_holds.desc).map (fun d => d.parameters.length) = some 3 := ⟨hdc_3.1, hdc_3.2, hdd_29⟩
def dtX1_clear_33_0 : List (Nat × Jvm.ClassFile.Instr × Nat) := [(0, .aload_n 0, 1), (1, .iconst 0, 1), (2, .putfield 46, 3), (5, .aload_n 0, 1), (6, .iconst 0, 1), (7, .putfield 50, 3), (10, .aload_n 0, 1), (11, .iconst 0, 1), (12, .putfield 53, 3), (15, .aload_n 0, 1), (16, .iconst 0, 1), (17, .putfield 56, 3), (20, .aload_n 0, 1), (21, .iconst 0, 1), (22, .putfield 59, 3), (25, .return_, 1)]
theorem daX1_clear_33_0 : dtX1_clear_33_0.all (dqd cX1_clear) = true := by decide +kernel
theorem dX1_clear_0 : decode cX1_clear 0 = .ok (.aload_n 0, 1) := dq daX1_clear_33_0 0 rfl
theorem dX1_clear_1 : decode cX1_clear 1 = .ok (.iconst 0, 1) := dq daX1_clear_33_0 1 rfl
theorem dX1_clear_2 : decode cX1_clear 2 = .ok (.putfield 46, 3) := dq daX1_clear_33_0 2 rfl
theorem dX1_clear_5 : decode cX1_clear 5 = .ok (.aload_n 0, 1) := dq daX1_clear_33_0 3 rfl
theorem dX1_clear_6 : decode cX1_clear 6 = .ok (.iconst 0, 1) := dq daX1_clear_33_0 4 rfl
theorem dX1_clear_7 : decode cX1_clear 7 = .ok (.putfield 50, 3) := dq daX1_clear_33_0 5 rfl
theorem dX1_clear_10 : decode cX1_clear 10 = .ok (.aload_n 0, 1) := dq daX1_clear_33_0 6 rfl
theorem dX1_clear_11 : decode cX1_clear 11 = .ok (.iconst 0, 1) := dq daX1_clear_33_0 7 rfl
theorem dX1_clear_12 : decode cX1_clear 12 = .ok (.putfield 53, 3) := dq daX1_clear_33_0 8 rfl
theorem dX1_clear_15 : decode cX1_clear 15 = .ok (.aload_n 0, 1) := dq daX1_clear_33_0 9 rfl
theorem dX1_clear_16 : decode cX1_clear 16 = .ok (.iconst 0, 1) := dq daX1_clear_33_0 10 rfl
theorem dX1_clear_17 : decode cX1_clear 17 = .ok (.putfield 56, 3) := dq daX1_clear_33_0 11 rfl
theorem dX1_clear_20 : decode cX1_clear 20 = .ok (.aload_n 0, 1) := dq daX1_clear_33_0 12 rfl
theorem dX1_clear_21 : decode cX1_clear 21 = .ok (.iconst 0, 1) := dq daX1_clear_33_0 13 rfl
theorem dX1_clear_22 : decode cX1_clear 22 = .ok (.putfield 59, 3) := dq daX1_clear_33_0 14 rfl
theorem dX1_clear_25 : decode cX1_clear 25 = .ok (.return_, 1) := dq daX1_clear_33_0 15 rfl
def dtX1_beginClause_33_0 : List (Nat × Jvm.ClassFile.Instr × Nat) := [(0, .aload_n 0, 1), (1, .getfield 50, 3), (4, .bipush 12, 2), (6, .if_icmp .ge 36, 3), (42, .return_, 1), (9, .aload_n 0, 1), (10, .getfield 9, 3), (13, .aload_n 0, 1), (14, .getfield 50, 3), (17, .iload_n 1, 1), (18, .iastore, 1), (19, .aload_n 0, 1), (20, .getfield 13, 3), (23, .aload_n 0, 1), (24, .getfield 50, 3), (27, .aload_n 0, 1), (28, .getfield 53, 3), (31, .iastore, 1), (32, .aload_n 0, 1), (33, .dup, 1), (34, .getfield 50, 3), (37, .iconst 1, 1), (38, .iadd, 1), (39, .putfield 50, 3)]
theorem daX1_beginClause_33_0 : dtX1_beginClause_33_0.all (dqd cX1_beginClause) = true := by decide +kernel
theorem dX1_beginClause_0 : decode cX1_beginClause 0 = .ok (.aload_n 0, 1) := dq daX1_beginClause_33_0 0 rfl
theorem dX1_beginClause_1 : decode cX1_beginClause 1 = .ok (.getfield 50, 3) := dq daX1_beginClause_33_0 1 rfl
theorem dX1_beginClause_4 : decode cX1_beginClause 4 = .ok (.bipush 12, 2) := dq daX1_beginClause_33_0 2 rfl
theorem dX1_beginClause_6 : decode cX1_beginClause 6 = .ok (.if_icmp .ge 36, 3) := dq daX1_beginClause_33_0 3 rfl
theorem dX1_beginClause_42 : decode cX1_beginClause 42 = .ok (.return_, 1) := dq daX1_beginClause_33_0 4 rfl
theorem dX1_beginClause_9 : decode cX1_beginClause 9 = .ok (.aload_n 0, 1) := dq daX1_beginClause_33_0 5 rfl
theorem dX1_beginClause_10 : decode cX1_beginClause 10 = .ok (.getfield 9, 3) := dq daX1_beginClause_33_0 6 rfl
theorem dX1_beginClause_13 : decode cX1_beginClause 13 = .ok (.aload_n 0, 1) := dq daX1_beginClause_33_0 7 rfl
theorem dX1_beginClause_14 : decode cX1_beginClause 14 = .ok (.getfield 50, 3) := dq daX1_beginClause_33_0 8 rfl
theorem dX1_beginClause_17 : decode cX1_beginClause 17 = .ok (.iload_n 1, 1) := dq daX1_beginClause_33_0 9 rfl
theorem dX1_beginClause_18 : decode cX1_beginClause 18 = .ok (.iastore, 1) := dq daX1_beginClause_33_0 10 rfl
theorem dX1_beginClause_19 : decode cX1_beginClause 19 = .ok (.aload_n 0, 1) := dq daX1_beginClause_33_0 11 rfl
theorem dX1_beginClause_20 : decode cX1_beginClause 20 = .ok (.getfield 13, 3) := dq daX1_beginClause_33_0 12 rfl
theorem dX1_beginClause_23 : decode cX1_beginClause 23 = .ok (.aload_n 0, 1) := dq daX1_beginClause_33_0 13 rfl
theorem dX1_beginClause_24 : decode cX1_beginClause 24 = .ok (.getfield 50, 3) := dq daX1_beginClause_33_0 14 rfl
theorem dX1_beginClause_27 : decode cX1_beginClause 27 = .ok (.aload_n 0, 1) := dq daX1_beginClause_33_0 15 rfl
theorem dX1_beginClause_28 : decode cX1_beginClause 28 = .ok (.getfield 53, 3) := dq daX1_beginClause_33_0 16 rfl
theorem dX1_beginClause_31 : decode cX1_beginClause 31 = .ok (.iastore, 1) := dq daX1_beginClause_33_0 17 rfl
theorem dX1_beginClause_32 : decode cX1_beginClause 32 = .ok (.aload_n 0, 1) := dq daX1_beginClause_33_0 18 rfl
theorem dX1_beginClause_33 : decode cX1_beginClause 33 = .ok (.dup, 1) := dq daX1_beginClause_33_0 19 rfl
theorem dX1_beginClause_34 : decode cX1_beginClause 34 = .ok (.getfield 50, 3) := dq daX1_beginClause_33_0 20 rfl
theorem dX1_beginClause_37 : decode cX1_beginClause 37 = .ok (.iconst 1, 1) := dq daX1_beginClause_33_0 21 rfl
theorem dX1_beginClause_38 : decode cX1_beginClause 38 = .ok (.iadd, 1) := dq daX1_beginClause_33_0 22 rfl
theorem dX1_beginClause_39 : decode cX1_beginClause 39 = .ok (.putfield 50, 3) := dq daX1_beginClause_33_0 23 rfl
def dtX1_endSum_33_0 : List (Nat × Jvm.ClassFile.Instr × Nat) := [(0, .aload_n 0, 1), (1, .getfield 50, 3), (4, .iconst 1, 1), (5, .isub, 1), (6, .istore_n 1, 1), (7, .iload_n 1, 1), (8, .ifCond .lt 39, 3), (47, .return_, 1), (11, .iload_n 1, 1), (12, .bipush 12, 2), (14, .if_icmp .ge 33, 3), (17, .aload_n 0, 1), (18, .getfield 16, 3), (21, .iload_n 1, 1), (22, .aload_n 0, 1), (23, .getfield 53, 3), (26, .iastore, 1), (27, .aload_n 0, 1), (28, .getfield 19, 3), (31, .iload_n 1, 1), (32, .aload_n 0, 1), (33, .getfield 59, 3), (36, .iastore, 1), (37, .aload_n 0, 1), (38, .getfield 22, 3), (41, .iload_n 1, 1), (42, .aload_n 0, 1), (43, .getfield 59, 3), (46, .iastore, 1)]
theorem daX1_endSum_33_0 : dtX1_endSum_33_0.all (dqd cX1_endSum) = true := by decide +kernel
theorem dX1_endSum_0 : decode cX1_endSum 0 = .ok (.aload_n 0, 1) := dq daX1_endSum_33_0 0 rfl
theorem dX1_endSum_1 : decode cX1_endSum 1 = .ok (.getfield 50, 3) := dq daX1_endSum_33_0 1 rfl
theorem dX1_endSum_4 : decode cX1_endSum 4 = .ok (.iconst 1, 1) := dq daX1_endSum_33_0 2 rfl
theorem dX1_endSum_5 : decode cX1_endSum 5 = .ok (.isub, 1) := dq daX1_endSum_33_0 3 rfl
theorem dX1_endSum_6 : decode cX1_endSum 6 = .ok (.istore_n 1, 1) := dq daX1_endSum_33_0 4 rfl
theorem dX1_endSum_7 : decode cX1_endSum 7 = .ok (.iload_n 1, 1) := dq daX1_endSum_33_0 5 rfl
theorem dX1_endSum_8 : decode cX1_endSum 8 = .ok (.ifCond .lt 39, 3) := dq daX1_endSum_33_0 6 rfl
theorem dX1_endSum_47 : decode cX1_endSum 47 = .ok (.return_, 1) := dq daX1_endSum_33_0 7 rfl
theorem dX1_endSum_11 : decode cX1_endSum 11 = .ok (.iload_n 1, 1) := dq daX1_endSum_33_0 8 rfl
theorem dX1_endSum_12 : decode cX1_endSum 12 = .ok (.bipush 12, 2) := dq daX1_endSum_33_0 9 rfl
theorem dX1_endSum_14 : decode cX1_endSum 14 = .ok (.if_icmp .ge 33, 3) := dq daX1_endSum_33_0 10 rfl
theorem dX1_endSum_17 : decode cX1_endSum 17 = .ok (.aload_n 0, 1) := dq daX1_endSum_33_0 11 rfl
theorem dX1_endSum_18 : decode cX1_endSum 18 = .ok (.getfield 16, 3) := dq daX1_endSum_33_0 12 rfl
theorem dX1_endSum_21 : decode cX1_endSum 21 = .ok (.iload_n 1, 1) := dq daX1_endSum_33_0 13 rfl
theorem dX1_endSum_22 : decode cX1_endSum 22 = .ok (.aload_n 0, 1) := dq daX1_endSum_33_0 14 rfl
theorem dX1_endSum_23 : decode cX1_endSum 23 = .ok (.getfield 53, 3) := dq daX1_endSum_33_0 15 rfl
theorem dX1_endSum_26 : decode cX1_endSum 26 = .ok (.iastore, 1) := dq daX1_endSum_33_0 16 rfl
theorem dX1_endSum_27 : decode cX1_endSum 27 = .ok (.aload_n 0, 1) := dq daX1_endSum_33_0 17 rfl
theorem dX1_endSum_28 : decode cX1_endSum 28 = .ok (.getfield 19, 3) := dq daX1_endSum_33_0 18 rfl
theorem dX1_endSum_31 : decode cX1_endSum 31 = .ok (.iload_n 1, 1) := dq daX1_endSum_33_0 19 rfl
theorem dX1_endSum_32 : decode cX1_endSum 32 = .ok (.aload_n 0, 1) := dq daX1_endSum_33_0 20 rfl
theorem dX1_endSum_33 : decode cX1_endSum 33 = .ok (.getfield 59, 3) := dq daX1_endSum_33_0 21 rfl
theorem dX1_endSum_36 : decode cX1_endSum 36 = .ok (.iastore, 1) := dq daX1_endSum_33_0 22 rfl
theorem dX1_endSum_37 : decode cX1_endSum 37 = .ok (.aload_n 0, 1) := dq daX1_endSum_33_0 23 rfl
theorem dX1_endSum_38 : decode cX1_endSum 38 = .ok (.getfield 22, 3) := dq daX1_endSum_33_0 24 rfl
theorem dX1_endSum_41 : decode cX1_endSum 41 = .ok (.iload_n 1, 1) := dq daX1_endSum_33_0 25 rfl
theorem dX1_endSum_42 : decode cX1_endSum 42 = .ok (.aload_n 0, 1) := dq daX1_endSum_33_0 26 rfl
theorem dX1_endSum_43 : decode cX1_endSum 43 = .ok (.getfield 59, 3) := dq daX1_endSum_33_0 27 rfl
theorem dX1_endSum_46 : decode cX1_endSum 46 = .ok (.iastore, 1) := dq daX1_endSum_33_0 28 rfl
def dtX1_endTest_33_0 : List (Nat × Jvm.ClassFile.Instr × Nat) := [(0, .aload_n 0, 1), (1, .getfield 50, 3), (4, .iconst 1, 1), (5, .isub, 1), (6, .istore_n 1, 1), (7, .iload_n 1, 1), (8, .ifCond .lt 19, 3), (27, .return_, 1), (11, .iload_n 1, 1), (12, .bipush 12, 2), (14, .if_icmp .ge 13, 3), (17, .aload_n 0, 1), (18, .getfield 22, 3), (21, .iload_n 1, 1), (22, .aload_n 0, 1), (23, .getfield 59, 3), (26, .iastore, 1)]
theorem daX1_endTest_33_0 : dtX1_endTest_33_0.all (dqd cX1_endTest) = true := by decide +kernel
theorem dX1_endTest_0 : decode cX1_endTest 0 = .ok (.aload_n 0, 1) := dq daX1_endTest_33_0 0 rfl
theorem dX1_endTest_1 : decode cX1_endTest 1 = .ok (.getfield 50, 3) := dq daX1_endTest_33_0 1 rfl
theorem dX1_endTest_4 : decode cX1_endTest 4 = .ok (.iconst 1, 1) := dq daX1_endTest_33_0 2 rfl
theorem dX1_endTest_5 : decode cX1_endTest 5 = .ok (.isub, 1) := dq daX1_endTest_33_0 3 rfl
theorem dX1_endTest_6 : decode cX1_endTest 6 = .ok (.istore_n 1, 1) := dq daX1_endTest_33_0 4 rfl
theorem dX1_endTest_7 : decode cX1_endTest 7 = .ok (.iload_n 1, 1) := dq daX1_endTest_33_0 5 rfl
theorem dX1_endTest_8 : decode cX1_endTest 8 = .ok (.ifCond .lt 19, 3) := dq daX1_endTest_33_0 6 rfl
theorem dX1_endTest_27 : decode cX1_endTest 27 = .ok (.return_, 1) := dq daX1_endTest_33_0 7 rfl
theorem dX1_endTest_11 : decode cX1_endTest 11 = .ok (.iload_n 1, 1) := dq daX1_endTest_33_0 8 rfl
theorem dX1_endTest_12 : decode cX1_endTest 12 = .ok (.bipush 12, 2) := dq daX1_endTest_33_0 9 rfl
theorem dX1_endTest_14 : decode cX1_endTest 14 = .ok (.if_icmp .ge 13, 3) := dq daX1_endTest_33_0 10 rfl
theorem dX1_endTest_17 : decode cX1_endTest 17 = .ok (.aload_n 0, 1) := dq daX1_endTest_33_0 11 rfl
theorem dX1_endTest_18 : decode cX1_endTest 18 = .ok (.getfield 22, 3) := dq daX1_endTest_33_0 12 rfl
theorem dX1_endTest_21 : decode cX1_endTest 21 = .ok (.iload_n 1, 1) := dq daX1_endTest_33_0 13 rfl
theorem dX1_endTest_22 : decode cX1_endTest 22 = .ok (.aload_n 0, 1) := dq daX1_endTest_33_0 14 rfl
theorem dX1_endTest_23 : decode cX1_endTest 23 = .ok (.getfield 59, 3) := dq daX1_endTest_33_0 15 rfl
theorem dX1_endTest_26 : decode cX1_endTest 26 = .ok (.iastore, 1) := dq daX1_endTest_33_0 16 rfl
def dtX1_addValue_33_0 : List (Nat × Jvm.ClassFile.Instr × Nat) := [(0, .aload_n 0, 1), (1, .getfield 53, 3), (4, .bipush 60, 2), (6, .if_icmp .ge 33, 3), (39, .return_, 1), (9, .aload_n 0, 1), (10, .getfield 25, 3), (13, .aload_n 0, 1), (14, .getfield 53, 3), (17, .iload_n 1, 1), (18, .iastore, 1), (19, .aload_n 0, 1), (20, .getfield 28, 3), (23, .aload_n 0, 1), (24, .getfield 53, 3), (27, .iload_n 2, 1), (28, .iastore, 1), (29, .aload_n 0, 1), (30, .dup, 1), (31, .getfield 53, 3), (34, .iconst 1, 1), (35, .iadd, 1), (36, .putfield 53, 3)]
theorem daX1_addValue_33_0 : dtX1_addValue_33_0.all (dqd cX1_addValue) = true := by decide +kernel
theorem dX1_addValue_0 : decode cX1_addValue 0 = .ok (.aload_n 0, 1) := dq daX1_addValue_33_0 0 rfl
theorem dX1_addValue_1 : decode cX1_addValue 1 = .ok (.getfield 53, 3) := dq daX1_addValue_33_0 1 rfl
theorem dX1_addValue_4 : decode cX1_addValue 4 = .ok (.bipush 60, 2) := dq daX1_addValue_33_0 2 rfl
theorem dX1_addValue_6 : decode cX1_addValue 6 = .ok (.if_icmp .ge 33, 3) := dq daX1_addValue_33_0 3 rfl
theorem dX1_addValue_39 : decode cX1_addValue 39 = .ok (.return_, 1) := dq daX1_addValue_33_0 4 rfl
theorem dX1_addValue_9 : decode cX1_addValue 9 = .ok (.aload_n 0, 1) := dq daX1_addValue_33_0 5 rfl
theorem dX1_addValue_10 : decode cX1_addValue 10 = .ok (.getfield 25, 3) := dq daX1_addValue_33_0 6 rfl
theorem dX1_addValue_13 : decode cX1_addValue 13 = .ok (.aload_n 0, 1) := dq daX1_addValue_33_0 7 rfl
theorem dX1_addValue_14 : decode cX1_addValue 14 = .ok (.getfield 53, 3) := dq daX1_addValue_33_0 8 rfl
theorem dX1_addValue_17 : decode cX1_addValue 17 = .ok (.iload_n 1, 1) := dq daX1_addValue_33_0 9 rfl
theorem dX1_addValue_18 : decode cX1_addValue 18 = .ok (.iastore, 1) := dq daX1_addValue_33_0 10 rfl
theorem dX1_addValue_19 : decode cX1_addValue 19 = .ok (.aload_n 0, 1) := dq daX1_addValue_33_0 11 rfl
theorem dX1_addValue_20 : decode cX1_addValue 20 = .ok (.getfield 28, 3) := dq daX1_addValue_33_0 12 rfl
theorem dX1_addValue_23 : decode cX1_addValue 23 = .ok (.aload_n 0, 1) := dq daX1_addValue_33_0 13 rfl
theorem dX1_addValue_24 : decode cX1_addValue 24 = .ok (.getfield 53, 3) := dq daX1_addValue_33_0 14 rfl
theorem dX1_addValue_27 : decode cX1_addValue 27 = .ok (.iload_n 2, 1) := dq daX1_addValue_33_0 15 rfl
theorem dX1_addValue_28 : decode cX1_addValue 28 = .ok (.iastore, 1) := dq daX1_addValue_33_0 16 rfl
theorem dX1_addValue_29 : decode cX1_addValue 29 = .ok (.aload_n 0, 1) := dq daX1_addValue_33_0 17 rfl
theorem dX1_addValue_30 : decode cX1_addValue 30 = .ok (.dup, 1) := dq daX1_addValue_33_0 18 rfl
theorem dX1_addValue_31 : decode cX1_addValue 31 = .ok (.getfield 53, 3) := dq daX1_addValue_33_0 19 rfl
theorem dX1_addValue_34 : decode cX1_addValue 34 = .ok (.iconst 1, 1) := dq daX1_addValue_33_0 20 rfl
theorem dX1_addValue_35 : decode cX1_addValue 35 = .ok (.iadd, 1) := dq daX1_addValue_33_0 21 rfl
theorem dX1_addValue_36 : decode cX1_addValue 36 = .ok (.putfield 53, 3) := dq daX1_addValue_33_0 22 rfl
def dtX1_addStep_33_0 : List (Nat × Jvm.ClassFile.Instr × Nat) := [(0, .aload_n 0, 1), (1, .getfield 59, 3), (4, .sipush 256, 3), (7, .if_icmp .ge 23, 3), (30, .return_, 1), (10, .aload_n 0, 1), (11, .getfield 43, 3), (14, .aload_n 0, 1), (15, .getfield 59, 3), (18, .iload_n 1, 1), (19, .iastore, 1), (20, .aload_n 0, 1), (21, .dup, 1), (22, .getfield 59, 3), (25, .iconst 1, 1), (26, .iadd, 1), (27, .putfield 59, 3)]
theorem daX1_addStep_33_0 : dtX1_addStep_33_0.all (dqd cX1_addStep) = true := by decide +kernel
theorem dX1_addStep_0 : decode cX1_addStep 0 = .ok (.aload_n 0, 1) := dq daX1_addStep_33_0 0 rfl
theorem dX1_addStep_1 : decode cX1_addStep 1 = .ok (.getfield 59, 3) := dq daX1_addStep_33_0 1 rfl
theorem dX1_addStep_4 : decode cX1_addStep 4 = .ok (.sipush 256, 3) := dq daX1_addStep_33_0 2 rfl
theorem dX1_addStep_7 : decode cX1_addStep 7 = .ok (.if_icmp .ge 23, 3) := dq daX1_addStep_33_0 3 rfl
theorem dX1_addStep_30 : decode cX1_addStep 30 = .ok (.return_, 1) := dq daX1_addStep_33_0 4 rfl
theorem dX1_addStep_10 : decode cX1_addStep 10 = .ok (.aload_n 0, 1) := dq daX1_addStep_33_0 5 rfl
theorem dX1_addStep_11 : decode cX1_addStep 11 = .ok (.getfield 43, 3) := dq daX1_addStep_33_0 6 rfl
theorem dX1_addStep_14 : decode cX1_addStep 14 = .ok (.aload_n 0, 1) := dq daX1_addStep_33_0 7 rfl
theorem dX1_addStep_15 : decode cX1_addStep 15 = .ok (.getfield 59, 3) := dq daX1_addStep_33_0 8 rfl
theorem dX1_addStep_18 : decode cX1_addStep 18 = .ok (.iload_n 1, 1) := dq daX1_addStep_33_0 9 rfl
theorem dX1_addStep_19 : decode cX1_addStep 19 = .ok (.iastore, 1) := dq daX1_addStep_33_0 10 rfl
theorem dX1_addStep_20 : decode cX1_addStep 20 = .ok (.aload_n 0, 1) := dq daX1_addStep_33_0 11 rfl
theorem dX1_addStep_21 : decode cX1_addStep 21 = .ok (.dup, 1) := dq daX1_addStep_33_0 12 rfl
theorem dX1_addStep_22 : decode cX1_addStep 22 = .ok (.getfield 59, 3) := dq daX1_addStep_33_0 13 rfl
theorem dX1_addStep_25 : decode cX1_addStep 25 = .ok (.iconst 1, 1) := dq daX1_addStep_33_0 14 rfl
theorem dX1_addStep_26 : decode cX1_addStep 26 = .ok (.iadd, 1) := dq daX1_addStep_33_0 15 rfl
theorem dX1_addStep_27 : decode cX1_addStep 27 = .ok (.putfield 59, 3) := dq daX1_addStep_33_0 16 rfl
def dtX1_addFact_33_0 : List (Nat × Jvm.ClassFile.Instr × Nat) := [(0, .aload_n 0, 1), (1, .getfield 56, 3), (4, .bipush 20, 2), (6, .if_icmp .ge 64, 3), (70, .return_, 1), (9, .aload_n 0, 1), (10, .getfield 31, 3), (13, .aload_n 0, 1), (14, .getfield 56, 3), (17, .iload_n 1, 1), (18, .iastore, 1), (19, .aload_n 0, 1), (20, .getfield 34, 3), (23, .aload_n 0, 1), (24, .getfield 56, 3), (27, .iload_n 2, 1), (28, .iastore, 1), (29, .aload_n 0, 1), (30, .getfield 37, 3), (33, .aload_n 0, 1), (34, .getfield 56, 3), (37, .aload_n 0, 1), (38, .getfield 53, 3), (41, .iastore, 1), (42, .aload_n 0, 1), (43, .getfield 40, 3), (46, .aload_n 0, 1), (47, .getfield 56, 3), (50, .iload_n 3, 1), (51, .iastore, 1), (52, .aload_n 0, 1), (53, .aload_n 0, 1)]
theorem daX1_addFact_33_0 : dtX1_addFact_33_0.all (dqd cX1_addFact) = true := by decide +kernel
theorem dX1_addFact_0 : decode cX1_addFact 0 = .ok (.aload_n 0, 1) := dq daX1_addFact_33_0 0 rfl
theorem dX1_addFact_1 : decode cX1_addFact 1 = .ok (.getfield 56, 3) := dq daX1_addFact_33_0 1 rfl
theorem dX1_addFact_4 : decode cX1_addFact 4 = .ok (.bipush 20, 2) := dq daX1_addFact_33_0 2 rfl
theorem dX1_addFact_6 : decode cX1_addFact 6 = .ok (.if_icmp .ge 64, 3) := dq daX1_addFact_33_0 3 rfl
theorem dX1_addFact_70 : decode cX1_addFact 70 = .ok (.return_, 1) := dq daX1_addFact_33_0 4 rfl
theorem dX1_addFact_9 : decode cX1_addFact 9 = .ok (.aload_n 0, 1) := dq daX1_addFact_33_0 5 rfl
theorem dX1_addFact_10 : decode cX1_addFact 10 = .ok (.getfield 31, 3) := dq daX1_addFact_33_0 6 rfl
theorem dX1_addFact_13 : decode cX1_addFact 13 = .ok (.aload_n 0, 1) := dq daX1_addFact_33_0 7 rfl
theorem dX1_addFact_14 : decode cX1_addFact 14 = .ok (.getfield 56, 3) := dq daX1_addFact_33_0 8 rfl
theorem dX1_addFact_17 : decode cX1_addFact 17 = .ok (.iload_n 1, 1) := dq daX1_addFact_33_0 9 rfl
theorem dX1_addFact_18 : decode cX1_addFact 18 = .ok (.iastore, 1) := dq daX1_addFact_33_0 10 rfl
theorem dX1_addFact_19 : decode cX1_addFact 19 = .ok (.aload_n 0, 1) := dq daX1_addFact_33_0 11 rfl
theorem dX1_addFact_20 : decode cX1_addFact 20 = .ok (.getfield 34, 3) := dq daX1_addFact_33_0 12 rfl
theorem dX1_addFact_23 : decode cX1_addFact 23 = .ok (.aload_n 0, 1) := dq daX1_addFact_33_0 13 rfl
theorem dX1_addFact_24 : decode cX1_addFact 24 = .ok (.getfield 56, 3) := dq daX1_addFact_33_0 14 rfl
theorem dX1_addFact_27 : decode cX1_addFact 27 = .ok (.iload_n 2, 1) := dq daX1_addFact_33_0 15 rfl
theorem dX1_addFact_28 : decode cX1_addFact 28 = .ok (.iastore, 1) := dq daX1_addFact_33_0 16 rfl
theorem dX1_addFact_29 : decode cX1_addFact 29 = .ok (.aload_n 0, 1) := dq daX1_addFact_33_0 17 rfl
theorem dX1_addFact_30 : decode cX1_addFact 30 = .ok (.getfield 37, 3) := dq daX1_addFact_33_0 18 rfl
theorem dX1_addFact_33 : decode cX1_addFact 33 = .ok (.aload_n 0, 1) := dq daX1_addFact_33_0 19 rfl
theorem dX1_addFact_34 : decode cX1_addFact 34 = .ok (.getfield 56, 3) := dq daX1_addFact_33_0 20 rfl
theorem dX1_addFact_37 : decode cX1_addFact 37 = .ok (.aload_n 0, 1) := dq daX1_addFact_33_0 21 rfl
theorem dX1_addFact_38 : decode cX1_addFact 38 = .ok (.getfield 53, 3) := dq daX1_addFact_33_0 22 rfl
theorem dX1_addFact_41 : decode cX1_addFact 41 = .ok (.iastore, 1) := dq daX1_addFact_33_0 23 rfl
theorem dX1_addFact_42 : decode cX1_addFact 42 = .ok (.aload_n 0, 1) := dq daX1_addFact_33_0 24 rfl
theorem dX1_addFact_43 : decode cX1_addFact 43 = .ok (.getfield 40, 3) := dq daX1_addFact_33_0 25 rfl
theorem dX1_addFact_46 : decode cX1_addFact 46 = .ok (.aload_n 0, 1) := dq daX1_addFact_33_0 26 rfl
theorem dX1_addFact_47 : decode cX1_addFact 47 = .ok (.getfield 56, 3) := dq daX1_addFact_33_0 27 rfl
theorem dX1_addFact_50 : decode cX1_addFact 50 = .ok (.iload_n 3, 1) := dq daX1_addFact_33_0 28 rfl
theorem dX1_addFact_51 : decode cX1_addFact 51 = .ok (.iastore, 1) := dq daX1_addFact_33_0 29 rfl
theorem dX1_addFact_52 : decode cX1_addFact 52 = .ok (.aload_n 0, 1) := dq daX1_addFact_33_0 30 rfl
theorem dX1_addFact_53 : decode cX1_addFact 53 = .ok (.aload_n 0, 1) := dq daX1_addFact_33_0 31 rfl
def dtX1_addFact_33_1 : List (Nat × Jvm.ClassFile.Instr × Nat) := [(54, .getfield 56, 3), (57, .invokevirtual 62, 3), (60, .aload_n 0, 1), (61, .dup, 1), (62, .getfield 56, 3), (65, .iconst 1, 1), (66, .iadd, 1), (67, .putfield 56, 3)]
theorem daX1_addFact_33_1 : dtX1_addFact_33_1.all (dqd cX1_addFact) = true := by decide +kernel
theorem dX1_addFact_54 : decode cX1_addFact 54 = .ok (.getfield 56, 3) := dq daX1_addFact_33_1 0 rfl
theorem dX1_addFact_57 : decode cX1_addFact 57 = .ok (.invokevirtual 62, 3) := dq daX1_addFact_33_1 1 rfl
theorem dX1_addFact_60 : decode cX1_addFact 60 = .ok (.aload_n 0, 1) := dq daX1_addFact_33_1 2 rfl
theorem dX1_addFact_61 : decode cX1_addFact 61 = .ok (.dup, 1) := dq daX1_addFact_33_1 3 rfl
theorem dX1_addFact_62 : decode cX1_addFact 62 = .ok (.getfield 56, 3) := dq daX1_addFact_33_1 4 rfl
theorem dX1_addFact_65 : decode cX1_addFact 65 = .ok (.iconst 1, 1) := dq daX1_addFact_33_1 5 rfl
theorem dX1_addFact_66 : decode cX1_addFact 66 = .ok (.iadd, 1) := dq daX1_addFact_33_1 6 rfl
theorem dX1_addFact_67 : decode cX1_addFact 67 = .ok (.putfield 56, 3) := dq daX1_addFact_33_1 7 rfl
def dtX1_isTrue_33_0 : List (Nat × Jvm.ClassFile.Instr × Nat) := [(0, .iload_n 2, 1), (1, .tableswitch 79 0 3 #[31, 43, 55, 67], 31), (80, .lload_n 0, 1), (81, .lload_n 3, 1), (82, .lcmp, 1), (83, .ifCond .le 7, 3), (90, .iconst 0, 1), (91, .ireturn, 1), (86, .iconst 1, 1), (87, .goto 4, 3), (32, .lload_n 0, 1), (33, .lload_n 3, 1), (34, .lcmp, 1), (35, .ifCond .ge 7, 3), (42, .iconst 0, 1), (43, .ireturn, 1), (38, .iconst 1, 1), (39, .goto 4, 3), (44, .lload_n 0, 1), (45, .lload_n 3, 1), (46, .lcmp, 1), (47, .ifCond .gt 7, 3), (54, .iconst 0, 1), (55, .ireturn, 1), (50, .iconst 1, 1), (51, .goto 4, 3), (56, .lload_n 0, 1), (57, .lload_n 3, 1), (58, .lcmp, 1), (59, .ifCond .ne 7, 3), (66, .iconst 0, 1), (67, .ireturn, 1)]
theorem daX1_isTrue_33_0 : dtX1_isTrue_33_0.all (dqd cX1_isTrue) = true := by decide +kernel
theorem dX1_isTrue_0 : decode cX1_isTrue 0 = .ok (.iload_n 2, 1) := dq daX1_isTrue_33_0 0 rfl
theorem dX1_isTrue_1 : decode cX1_isTrue 1 = .ok (.tableswitch 79 0 3 #[31, 43, 55, 67], 31) := dq daX1_isTrue_33_0 1 rfl
theorem dX1_isTrue_80 : decode cX1_isTrue 80 = .ok (.lload_n 0, 1) := dq daX1_isTrue_33_0 2 rfl
theorem dX1_isTrue_81 : decode cX1_isTrue 81 = .ok (.lload_n 3, 1) := dq daX1_isTrue_33_0 3 rfl
theorem dX1_isTrue_82 : decode cX1_isTrue 82 = .ok (.lcmp, 1) := dq daX1_isTrue_33_0 4 rfl
theorem dX1_isTrue_83 : decode cX1_isTrue 83 = .ok (.ifCond .le 7, 3) := dq daX1_isTrue_33_0 5 rfl
theorem dX1_isTrue_90 : decode cX1_isTrue 90 = .ok (.iconst 0, 1) := dq daX1_isTrue_33_0 6 rfl
theorem dX1_isTrue_91 : decode cX1_isTrue 91 = .ok (.ireturn, 1) := dq daX1_isTrue_33_0 7 rfl
theorem dX1_isTrue_86 : decode cX1_isTrue 86 = .ok (.iconst 1, 1) := dq daX1_isTrue_33_0 8 rfl
theorem dX1_isTrue_87 : decode cX1_isTrue 87 = .ok (.goto 4, 3) := dq daX1_isTrue_33_0 9 rfl
theorem dX1_isTrue_32 : decode cX1_isTrue 32 = .ok (.lload_n 0, 1) := dq daX1_isTrue_33_0 10 rfl
theorem dX1_isTrue_33 : decode cX1_isTrue 33 = .ok (.lload_n 3, 1) := dq daX1_isTrue_33_0 11 rfl
theorem dX1_isTrue_34 : decode cX1_isTrue 34 = .ok (.lcmp, 1) := dq daX1_isTrue_33_0 12 rfl
theorem dX1_isTrue_35 : decode cX1_isTrue 35 = .ok (.ifCond .ge 7, 3) := dq daX1_isTrue_33_0 13 rfl
theorem dX1_isTrue_42 : decode cX1_isTrue 42 = .ok (.iconst 0, 1) := dq daX1_isTrue_33_0 14 rfl
theorem dX1_isTrue_43 : decode cX1_isTrue 43 = .ok (.ireturn, 1) := dq daX1_isTrue_33_0 15 rfl
theorem dX1_isTrue_38 : decode cX1_isTrue 38 = .ok (.iconst 1, 1) := dq daX1_isTrue_33_0 16 rfl
theorem dX1_isTrue_39 : decode cX1_isTrue 39 = .ok (.goto 4, 3) := dq daX1_isTrue_33_0 17 rfl
theorem dX1_isTrue_44 : decode cX1_isTrue 44 = .ok (.lload_n 0, 1) := dq daX1_isTrue_33_0 18 rfl
theorem dX1_isTrue_45 : decode cX1_isTrue 45 = .ok (.lload_n 3, 1) := dq daX1_isTrue_33_0 19 rfl
theorem dX1_isTrue_46 : decode cX1_isTrue 46 = .ok (.lcmp, 1) := dq daX1_isTrue_33_0 20 rfl
theorem dX1_isTrue_47 : decode cX1_isTrue 47 = .ok (.ifCond .gt 7, 3) := dq daX1_isTrue_33_0 21 rfl
theorem dX1_isTrue_54 : decode cX1_isTrue 54 = .ok (.iconst 0, 1) := dq daX1_isTrue_33_0 22 rfl
theorem dX1_isTrue_55 : decode cX1_isTrue 55 = .ok (.ireturn, 1) := dq daX1_isTrue_33_0 23 rfl
theorem dX1_isTrue_50 : decode cX1_isTrue 50 = .ok (.iconst 1, 1) := dq daX1_isTrue_33_0 24 rfl
theorem dX1_isTrue_51 : decode cX1_isTrue 51 = .ok (.goto 4, 3) := dq daX1_isTrue_33_0 25 rfl
theorem dX1_isTrue_56 : decode cX1_isTrue 56 = .ok (.lload_n 0, 1) := dq daX1_isTrue_33_0 26 rfl
theorem dX1_isTrue_57 : decode cX1_isTrue 57 = .ok (.lload_n 3, 1) := dq daX1_isTrue_33_0 27 rfl
theorem dX1_isTrue_58 : decode cX1_isTrue 58 = .ok (.lcmp, 1) := dq daX1_isTrue_33_0 28 rfl
theorem dX1_isTrue_59 : decode cX1_isTrue 59 = .ok (.ifCond .ne 7, 3) := dq daX1_isTrue_33_0 29 rfl
theorem dX1_isTrue_66 : decode cX1_isTrue 66 = .ok (.iconst 0, 1) := dq daX1_isTrue_33_0 30 rfl
theorem dX1_isTrue_67 : decode cX1_isTrue 67 = .ok (.ireturn, 1) := dq daX1_isTrue_33_0 31 rfl
def dtX1_isTrue_33_1 : List (Nat × Jvm.ClassFile.Instr × Nat) := [(62, .iconst 1, 1), (63, .goto 4, 3), (68, .lload_n 0, 1), (69, .lload_n 3, 1), (70, .lcmp, 1), (71, .ifCond .lt 7, 3), (78, .iconst 0, 1), (79, .ireturn, 1), (74, .iconst 1, 1), (75, .goto 4, 3)]
theorem daX1_isTrue_33_1 : dtX1_isTrue_33_1.all (dqd cX1_isTrue) = true := by decide +kernel
theorem dX1_isTrue_62 : decode cX1_isTrue 62 = .ok (.iconst 1, 1) := dq daX1_isTrue_33_1 0 rfl
theorem dX1_isTrue_63 : decode cX1_isTrue 63 = .ok (.goto 4, 3) := dq daX1_isTrue_33_1 1 rfl
theorem dX1_isTrue_68 : decode cX1_isTrue 68 = .ok (.lload_n 0, 1) := dq daX1_isTrue_33_1 2 rfl
theorem dX1_isTrue_69 : decode cX1_isTrue 69 = .ok (.lload_n 3, 1) := dq daX1_isTrue_33_1 3 rfl
theorem dX1_isTrue_70 : decode cX1_isTrue 70 = .ok (.lcmp, 1) := dq daX1_isTrue_33_1 4 rfl
theorem dX1_isTrue_71 : decode cX1_isTrue 71 = .ok (.ifCond .lt 7, 3) := dq daX1_isTrue_33_1 5 rfl
theorem dX1_isTrue_78 : decode cX1_isTrue 78 = .ok (.iconst 0, 1) := dq daX1_isTrue_33_1 6 rfl
theorem dX1_isTrue_79 : decode cX1_isTrue 79 = .ok (.ireturn, 1) := dq daX1_isTrue_33_1 7 rfl
theorem dX1_isTrue_74 : decode cX1_isTrue 74 = .ok (.iconst 1, 1) := dq daX1_isTrue_33_1 8 rfl
theorem dX1_isTrue_75 : decode cX1_isTrue 75 = .ok (.goto 4, 3) := dq daX1_isTrue_33_1 9 rfl
def dtX1_total_33_0 : List (Nat × Jvm.ClassFile.Instr × Nat) := [(0, .lconst 0, 1), (1, .lstore 4, 2), (3, .lconst 0, 1), (4, .lstore 6, 2), (6, .iconst 0, 1), (7, .istore 8, 2), (9, .iload_n 1, 1), (10, .istore 9, 2), (12, .iload 9, 2), (14, .ifCond .lt 151, 3), (17, .iload 9, 2), (19, .iload_n 2, 1), (20, .if_icmp .ge 145, 3), (23, .iload 9, 2), (25, .bipush 60, 2), (27, .if_icmp .ge 138, 3), (30, .aload_n 0, 1), (31, .getfield 28, 3), (34, .iload 9, 2), (36, .iaload, 1), (37, .istore 10, 2), (39, .iconst (-1), 1), (40, .iload 10, 2), (42, .isub, 1), (43, .istore 11, 2), (45, .iload 11, 2), (47, .ifCond .lt 18, 3), (65, .iload 10, 2), (67, .i2l, 1), (68, .lstore 12, 2), (70, .aload_n 0, 1), (71, .getfield 25, 3)]
theorem daX1_total_33_0 : dtX1_total_33_0.all (dqd cX1_total) = true := by decide +kernel
theorem dX1_total_0 : decode cX1_total 0 = .ok (.lconst 0, 1) := dq daX1_total_33_0 0 rfl
theorem dX1_total_1 : decode cX1_total 1 = .ok (.lstore 4, 2) := dq daX1_total_33_0 1 rfl
theorem dX1_total_3 : decode cX1_total 3 = .ok (.lconst 0, 1) := dq daX1_total_33_0 2 rfl
theorem dX1_total_4 : decode cX1_total 4 = .ok (.lstore 6, 2) := dq daX1_total_33_0 3 rfl
theorem dX1_total_6 : decode cX1_total 6 = .ok (.iconst 0, 1) := dq daX1_total_33_0 4 rfl
theorem dX1_total_7 : decode cX1_total 7 = .ok (.istore 8, 2) := dq daX1_total_33_0 5 rfl
theorem dX1_total_9 : decode cX1_total 9 = .ok (.iload_n 1, 1) := dq daX1_total_33_0 6 rfl
theorem dX1_total_10 : decode cX1_total 10 = .ok (.istore 9, 2) := dq daX1_total_33_0 7 rfl
theorem dX1_total_12 : decode cX1_total 12 = .ok (.iload 9, 2) := dq daX1_total_33_0 8 rfl
theorem dX1_total_14 : decode cX1_total 14 = .ok (.ifCond .lt 151, 3) := dq daX1_total_33_0 9 rfl
theorem dX1_total_17 : decode cX1_total 17 = .ok (.iload 9, 2) := dq daX1_total_33_0 10 rfl
theorem dX1_total_19 : decode cX1_total 19 = .ok (.iload_n 2, 1) := dq daX1_total_33_0 11 rfl
theorem dX1_total_20 : decode cX1_total 20 = .ok (.if_icmp .ge 145, 3) := dq daX1_total_33_0 12 rfl
theorem dX1_total_23 : decode cX1_total 23 = .ok (.iload 9, 2) := dq daX1_total_33_0 13 rfl
theorem dX1_total_25 : decode cX1_total 25 = .ok (.bipush 60, 2) := dq daX1_total_33_0 14 rfl
theorem dX1_total_27 : decode cX1_total 27 = .ok (.if_icmp .ge 138, 3) := dq daX1_total_33_0 15 rfl
theorem dX1_total_30 : decode cX1_total 30 = .ok (.aload_n 0, 1) := dq daX1_total_33_0 16 rfl
theorem dX1_total_31 : decode cX1_total 31 = .ok (.getfield 28, 3) := dq daX1_total_33_0 17 rfl
theorem dX1_total_34 : decode cX1_total 34 = .ok (.iload 9, 2) := dq daX1_total_33_0 18 rfl
theorem dX1_total_36 : decode cX1_total 36 = .ok (.iaload, 1) := dq daX1_total_33_0 19 rfl
theorem dX1_total_37 : decode cX1_total 37 = .ok (.istore 10, 2) := dq daX1_total_33_0 20 rfl
theorem dX1_total_39 : decode cX1_total 39 = .ok (.iconst (-1), 1) := dq daX1_total_33_0 21 rfl
theorem dX1_total_40 : decode cX1_total 40 = .ok (.iload 10, 2) := dq daX1_total_33_0 22 rfl
theorem dX1_total_42 : decode cX1_total 42 = .ok (.isub, 1) := dq daX1_total_33_0 23 rfl
theorem dX1_total_43 : decode cX1_total 43 = .ok (.istore 11, 2) := dq daX1_total_33_0 24 rfl
theorem dX1_total_45 : decode cX1_total 45 = .ok (.iload 11, 2) := dq daX1_total_33_0 25 rfl
theorem dX1_total_47 : decode cX1_total 47 = .ok (.ifCond .lt 18, 3) := dq daX1_total_33_0 26 rfl
theorem dX1_total_65 : decode cX1_total 65 = .ok (.iload 10, 2) := dq daX1_total_33_0 27 rfl
theorem dX1_total_67 : decode cX1_total 67 = .ok (.i2l, 1) := dq daX1_total_33_0 28 rfl
theorem dX1_total_68 : decode cX1_total 68 = .ok (.lstore 12, 2) := dq daX1_total_33_0 29 rfl
theorem dX1_total_70 : decode cX1_total 70 = .ok (.aload_n 0, 1) := dq daX1_total_33_0 30 rfl
theorem dX1_total_71 : decode cX1_total 71 = .ok (.getfield 25, 3) := dq daX1_total_33_0 31 rfl
def dtX1_total_33_1 : List (Nat × Jvm.ClassFile.Instr × Nat) := [(74, .iload 9, 2), (76, .iaload, 1), (77, .istore 14, 2), (79, .iload 14, 2), (81, .iconst 2, 1), (82, .if_icmp .ne 13, 3), (95, .iload 14, 2), (97, .iconst 3, 1), (98, .if_icmp .ne 24, 3), (122, .iload 8, 2), (124, .ifCond .eq 11, 3), (135, .lload 4, 2), (137, .lload 6, 2), (139, .ladd, 1), (140, .lstore 4, 2), (142, .lload 12, 2), (144, .lstore 6, 2), (146, .iload 14, 2), (148, .iconst 1, 1), (149, .if_icmp .ne 7, 3), (156, .iconst 0, 1), (157, .istore 8, 2), (159, .iinc 9 1, 3), (162, .goto (-150), 3), (152, .iconst 1, 1), (153, .goto 4, 3), (101, .lload 12, 2), (103, .lconst 0, 1), (104, .lcmp, 1), (105, .ifCond .ne 7, 3), (112, .lload 6, 2), (114, .lload 12, 2)]
theorem daX1_total_33_1 : dtX1_total_33_1.all (dqd cX1_total) = true := by decide +kernel
theorem dX1_total_74 : decode cX1_total 74 = .ok (.iload 9, 2) := dq daX1_total_33_1 0 rfl
theorem dX1_total_76 : decode cX1_total 76 = .ok (.iaload, 1) := dq daX1_total_33_1 1 rfl
theorem dX1_total_77 : decode cX1_total 77 = .ok (.istore 14, 2) := dq daX1_total_33_1 2 rfl
theorem dX1_total_79 : decode cX1_total 79 = .ok (.iload 14, 2) := dq daX1_total_33_1 3 rfl
theorem dX1_total_81 : decode cX1_total 81 = .ok (.iconst 2, 1) := dq daX1_total_33_1 4 rfl
theorem dX1_total_82 : decode cX1_total 82 = .ok (.if_icmp .ne 13, 3) := dq daX1_total_33_1 5 rfl
theorem dX1_total_95 : decode cX1_total 95 = .ok (.iload 14, 2) := dq daX1_total_33_1 6 rfl
theorem dX1_total_97 : decode cX1_total 97 = .ok (.iconst 3, 1) := dq daX1_total_33_1 7 rfl
theorem dX1_total_98 : decode cX1_total 98 = .ok (.if_icmp .ne 24, 3) := dq daX1_total_33_1 8 rfl
theorem dX1_total_122 : decode cX1_total 122 = .ok (.iload 8, 2) := dq daX1_total_33_1 9 rfl
theorem dX1_total_124 : decode cX1_total 124 = .ok (.ifCond .eq 11, 3) := dq daX1_total_33_1 10 rfl
theorem dX1_total_135 : decode cX1_total 135 = .ok (.lload 4, 2) := dq daX1_total_33_1 11 rfl
theorem dX1_total_137 : decode cX1_total 137 = .ok (.lload 6, 2) := dq daX1_total_33_1 12 rfl
theorem dX1_total_139 : decode cX1_total 139 = .ok (.ladd, 1) := dq daX1_total_33_1 13 rfl
theorem dX1_total_140 : decode cX1_total 140 = .ok (.lstore 4, 2) := dq daX1_total_33_1 14 rfl
theorem dX1_total_142 : decode cX1_total 142 = .ok (.lload 12, 2) := dq daX1_total_33_1 15 rfl
theorem dX1_total_144 : decode cX1_total 144 = .ok (.lstore 6, 2) := dq daX1_total_33_1 16 rfl
theorem dX1_total_146 : decode cX1_total 146 = .ok (.iload 14, 2) := dq daX1_total_33_1 17 rfl
theorem dX1_total_148 : decode cX1_total 148 = .ok (.iconst 1, 1) := dq daX1_total_33_1 18 rfl
theorem dX1_total_149 : decode cX1_total 149 = .ok (.if_icmp .ne 7, 3) := dq daX1_total_33_1 19 rfl
theorem dX1_total_156 : decode cX1_total 156 = .ok (.iconst 0, 1) := dq daX1_total_33_1 20 rfl
theorem dX1_total_157 : decode cX1_total 157 = .ok (.istore 8, 2) := dq daX1_total_33_1 21 rfl
theorem dX1_total_159 : decode cX1_total 159 = .ok (.iinc 9 1, 3) := dq daX1_total_33_1 22 rfl
theorem dX1_total_162 : decode cX1_total 162 = .ok (.goto (-150), 3) := dq daX1_total_33_1 23 rfl
theorem dX1_total_152 : decode cX1_total 152 = .ok (.iconst 1, 1) := dq daX1_total_33_1 24 rfl
theorem dX1_total_153 : decode cX1_total 153 = .ok (.goto 4, 3) := dq daX1_total_33_1 25 rfl
theorem dX1_total_101 : decode cX1_total 101 = .ok (.lload 12, 2) := dq daX1_total_33_1 26 rfl
theorem dX1_total_103 : decode cX1_total 103 = .ok (.lconst 0, 1) := dq daX1_total_33_1 27 rfl
theorem dX1_total_104 : decode cX1_total 104 = .ok (.lcmp, 1) := dq daX1_total_33_1 28 rfl
theorem dX1_total_105 : decode cX1_total 105 = .ok (.ifCond .ne 7, 3) := dq daX1_total_33_1 29 rfl
theorem dX1_total_112 : decode cX1_total 112 = .ok (.lload 6, 2) := dq daX1_total_33_1 30 rfl
theorem dX1_total_114 : decode cX1_total 114 = .ok (.lload 12, 2) := dq daX1_total_33_1 31 rfl
def dtX1_total_33_2 : List (Nat × Jvm.ClassFile.Instr × Nat) := [(116, .ldiv, 1), (117, .lstore 6, 2), (119, .goto 40, 3), (108, .lconst 0, 1), (109, .goto 8, 3), (85, .lload 6, 2), (87, .lload 12, 2), (89, .lmul, 1), (90, .lstore 6, 2), (92, .goto 67, 3), (50, .iload 11, 2), (52, .aload_n 3, 1), (53, .arraylength, 1), (54, .if_icmp .ge 11, 3), (57, .aload_n 3, 1), (58, .iload 11, 2), (60, .iaload, 1), (61, .i2l, 1), (62, .goto 6, 3), (165, .iload 8, 2), (167, .ifCond .eq 11, 3), (178, .lload 4, 2), (180, .lload 6, 2), (182, .ladd, 1), (183, .lreturn, 1), (170, .lload 4, 2), (172, .lload 6, 2), (174, .lsub, 1), (175, .goto 8, 3), (127, .lload 4, 2), (129, .lload 6, 2), (131, .lsub, 1)]
theorem daX1_total_33_2 : dtX1_total_33_2.all (dqd cX1_total) = true := by decide +kernel
theorem dX1_total_116 : decode cX1_total 116 = .ok (.ldiv, 1) := dq daX1_total_33_2 0 rfl
theorem dX1_total_117 : decode cX1_total 117 = .ok (.lstore 6, 2) := dq daX1_total_33_2 1 rfl
theorem dX1_total_119 : decode cX1_total 119 = .ok (.goto 40, 3) := dq daX1_total_33_2 2 rfl
theorem dX1_total_108 : decode cX1_total 108 = .ok (.lconst 0, 1) := dq daX1_total_33_2 3 rfl
theorem dX1_total_109 : decode cX1_total 109 = .ok (.goto 8, 3) := dq daX1_total_33_2 4 rfl
theorem dX1_total_85 : decode cX1_total 85 = .ok (.lload 6, 2) := dq daX1_total_33_2 5 rfl
theorem dX1_total_87 : decode cX1_total 87 = .ok (.lload 12, 2) := dq daX1_total_33_2 6 rfl
theorem dX1_total_89 : decode cX1_total 89 = .ok (.lmul, 1) := dq daX1_total_33_2 7 rfl
theorem dX1_total_90 : decode cX1_total 90 = .ok (.lstore 6, 2) := dq daX1_total_33_2 8 rfl
theorem dX1_total_92 : decode cX1_total 92 = .ok (.goto 67, 3) := dq daX1_total_33_2 9 rfl
theorem dX1_total_50 : decode cX1_total 50 = .ok (.iload 11, 2) := dq daX1_total_33_2 10 rfl
theorem dX1_total_52 : decode cX1_total 52 = .ok (.aload_n 3, 1) := dq daX1_total_33_2 11 rfl
theorem dX1_total_53 : decode cX1_total 53 = .ok (.arraylength, 1) := dq daX1_total_33_2 12 rfl
theorem dX1_total_54 : decode cX1_total 54 = .ok (.if_icmp .ge 11, 3) := dq daX1_total_33_2 13 rfl
theorem dX1_total_57 : decode cX1_total 57 = .ok (.aload_n 3, 1) := dq daX1_total_33_2 14 rfl
theorem dX1_total_58 : decode cX1_total 58 = .ok (.iload 11, 2) := dq daX1_total_33_2 15 rfl
theorem dX1_total_60 : decode cX1_total 60 = .ok (.iaload, 1) := dq daX1_total_33_2 16 rfl
theorem dX1_total_61 : decode cX1_total 61 = .ok (.i2l, 1) := dq daX1_total_33_2 17 rfl
theorem dX1_total_62 : decode cX1_total 62 = .ok (.goto 6, 3) := dq daX1_total_33_2 18 rfl
theorem dX1_total_165 : decode cX1_total 165 = .ok (.iload 8, 2) := dq daX1_total_33_2 19 rfl
theorem dX1_total_167 : decode cX1_total 167 = .ok (.ifCond .eq 11, 3) := dq daX1_total_33_2 20 rfl
theorem dX1_total_178 : decode cX1_total 178 = .ok (.lload 4, 2) := dq daX1_total_33_2 21 rfl
theorem dX1_total_180 : decode cX1_total 180 = .ok (.lload 6, 2) := dq daX1_total_33_2 22 rfl
theorem dX1_total_182 : decode cX1_total 182 = .ok (.ladd, 1) := dq daX1_total_33_2 23 rfl
theorem dX1_total_183 : decode cX1_total 183 = .ok (.lreturn, 1) := dq daX1_total_33_2 24 rfl
theorem dX1_total_170 : decode cX1_total 170 = .ok (.lload 4, 2) := dq daX1_total_33_2 25 rfl
theorem dX1_total_172 : decode cX1_total 172 = .ok (.lload 6, 2) := dq daX1_total_33_2 26 rfl
theorem dX1_total_174 : decode cX1_total 174 = .ok (.lsub, 1) := dq daX1_total_33_2 27 rfl
theorem dX1_total_175 : decode cX1_total 175 = .ok (.goto 8, 3) := dq daX1_total_33_2 28 rfl
theorem dX1_total_127 : decode cX1_total 127 = .ok (.lload 4, 2) := dq daX1_total_33_2 29 rfl
theorem dX1_total_129 : decode cX1_total 129 = .ok (.lload 6, 2) := dq daX1_total_33_2 30 rfl
theorem dX1_total_131 : decode cX1_total 131 = .ok (.lsub, 1) := dq daX1_total_33_2 31 rfl
def dtX1_total_33_3 : List (Nat × Jvm.ClassFile.Instr × Nat) := [(132, .goto 8, 3)]
theorem daX1_total_33_3 : dtX1_total_33_3.all (dqd cX1_total) = true := by decide +kernel
theorem dX1_total_132 : decode cX1_total 132 = .ok (.goto 8, 3) := dq daX1_total_33_3 0 rfl
def dtX1_holds_33_0 : List (Nat × Jvm.ClassFile.Instr × Nat) := [(0, .lconst 1, 1), (1, .lstore 4, 2), (3, .iload_n 1, 1), (4, .istore 6, 2), (6, .iload 6, 2), (8, .ifCond .lt 175, 3), (11, .iload 6, 2), (13, .iload_n 2, 1), (14, .if_icmp .ge 169, 3), (17, .iload 6, 2), (19, .sipush 256, 3), (22, .if_icmp .ge 161, 3), (25, .aload_n 0, 1), (26, .getfield 43, 3), (29, .iload 6, 2), (31, .iaload, 1), (32, .istore 7, 2), (34, .iload 7, 2), (36, .iconst (-1), 1), (37, .if_icmp .ne 12, 3), (49, .iload 7, 2), (51, .bipush (-2), 2), (53, .if_icmp .ne 19, 3), (72, .iload 7, 2), (74, .bipush (-3), 2), (76, .if_icmp .ne 17, 3), (93, .iload 7, 2), (95, .ifCond .lt 82, 3), (177, .iinc 6 1, 3), (180, .goto (-174), 3), (98, .iload 7, 2), (100, .bipush 20, 2)]
theorem daX1_holds_33_0 : dtX1_holds_33_0.all (dqd cX1_holds) = true := by decide +kernel
theorem dX1_holds_0 : decode cX1_holds 0 = .ok (.lconst 1, 1) := dq daX1_holds_33_0 0 rfl
theorem dX1_holds_1 : decode cX1_holds 1 = .ok (.lstore 4, 2) := dq daX1_holds_33_0 1 rfl
theorem dX1_holds_3 : decode cX1_holds 3 = .ok (.iload_n 1, 1) := dq daX1_holds_33_0 2 rfl
theorem dX1_holds_4 : decode cX1_holds 4 = .ok (.istore 6, 2) := dq daX1_holds_33_0 3 rfl
theorem dX1_holds_6 : decode cX1_holds 6 = .ok (.iload 6, 2) := dq daX1_holds_33_0 4 rfl
theorem dX1_holds_8 : decode cX1_holds 8 = .ok (.ifCond .lt 175, 3) := dq daX1_holds_33_0 5 rfl
theorem dX1_holds_11 : decode cX1_holds 11 = .ok (.iload 6, 2) := dq daX1_holds_33_0 6 rfl
theorem dX1_holds_13 : decode cX1_holds 13 = .ok (.iload_n 2, 1) := dq daX1_holds_33_0 7 rfl
theorem dX1_holds_14 : decode cX1_holds 14 = .ok (.if_icmp .ge 169, 3) := dq daX1_holds_33_0 8 rfl
theorem dX1_holds_17 : decode cX1_holds 17 = .ok (.iload 6, 2) := dq daX1_holds_33_0 9 rfl
theorem dX1_holds_19 : decode cX1_holds 19 = .ok (.sipush 256, 3) := dq daX1_holds_33_0 10 rfl
theorem dX1_holds_22 : decode cX1_holds 22 = .ok (.if_icmp .ge 161, 3) := dq daX1_holds_33_0 11 rfl
theorem dX1_holds_25 : decode cX1_holds 25 = .ok (.aload_n 0, 1) := dq daX1_holds_33_0 12 rfl
theorem dX1_holds_26 : decode cX1_holds 26 = .ok (.getfield 43, 3) := dq daX1_holds_33_0 13 rfl
theorem dX1_holds_29 : decode cX1_holds 29 = .ok (.iload 6, 2) := dq daX1_holds_33_0 14 rfl
theorem dX1_holds_31 : decode cX1_holds 31 = .ok (.iaload, 1) := dq daX1_holds_33_0 15 rfl
theorem dX1_holds_32 : decode cX1_holds 32 = .ok (.istore 7, 2) := dq daX1_holds_33_0 16 rfl
theorem dX1_holds_34 : decode cX1_holds 34 = .ok (.iload 7, 2) := dq daX1_holds_33_0 17 rfl
theorem dX1_holds_36 : decode cX1_holds 36 = .ok (.iconst (-1), 1) := dq daX1_holds_33_0 18 rfl
theorem dX1_holds_37 : decode cX1_holds 37 = .ok (.if_icmp .ne 12, 3) := dq daX1_holds_33_0 19 rfl
theorem dX1_holds_49 : decode cX1_holds 49 = .ok (.iload 7, 2) := dq daX1_holds_33_0 20 rfl
theorem dX1_holds_51 : decode cX1_holds 51 = .ok (.bipush (-2), 2) := dq daX1_holds_33_0 21 rfl
theorem dX1_holds_53 : decode cX1_holds 53 = .ok (.if_icmp .ne 19, 3) := dq daX1_holds_33_0 22 rfl
theorem dX1_holds_72 : decode cX1_holds 72 = .ok (.iload 7, 2) := dq daX1_holds_33_0 23 rfl
theorem dX1_holds_74 : decode cX1_holds 74 = .ok (.bipush (-3), 2) := dq daX1_holds_33_0 24 rfl
theorem dX1_holds_76 : decode cX1_holds 76 = .ok (.if_icmp .ne 17, 3) := dq daX1_holds_33_0 25 rfl
theorem dX1_holds_93 : decode cX1_holds 93 = .ok (.iload 7, 2) := dq daX1_holds_33_0 26 rfl
theorem dX1_holds_95 : decode cX1_holds 95 = .ok (.ifCond .lt 82, 3) := dq daX1_holds_33_0 27 rfl
theorem dX1_holds_177 : decode cX1_holds 177 = .ok (.iinc 6 1, 3) := dq daX1_holds_33_0 28 rfl
theorem dX1_holds_180 : decode cX1_holds 180 = .ok (.goto (-174), 3) := dq daX1_holds_33_0 29 rfl
theorem dX1_holds_98 : decode cX1_holds 98 = .ok (.iload 7, 2) := dq daX1_holds_33_0 30 rfl
theorem dX1_holds_100 : decode cX1_holds 100 = .ok (.bipush 20, 2) := dq daX1_holds_33_0 31 rfl
def dtX1_holds_33_1 : List (Nat × Jvm.ClassFile.Instr × Nat) := [(102, .if_icmp .ge 75, 3), (105, .aload_n 0, 1), (106, .aload_n 0, 1), (107, .getfield 31, 3), (110, .iload 7, 2), (112, .iaload, 1), (113, .aload_n 0, 1), (114, .getfield 34, 3), (117, .iload 7, 2), (119, .iaload, 1), (120, .aload_n 3, 1), (121, .invokevirtual 70, 3), (124, .lstore 8, 2), (126, .aload_n 0, 1), (127, .aload_n 0, 1), (128, .getfield 34, 3), (131, .iload 7, 2), (133, .iaload, 1), (134, .aload_n 0, 1), (135, .getfield 37, 3), (138, .iload 7, 2), (140, .iaload, 1), (141, .aload_n 3, 1), (142, .invokevirtual 70, 3), (145, .lstore 10, 2), (147, .lload 4, 2), (149, .iconst 1, 1), (150, .lshl, 1), (151, .lload 8, 2), (153, .aload_n 0, 1), (154, .getfield 40, 3), (157, .iload 7, 2)]
theorem daX1_holds_33_1 : dtX1_holds_33_1.all (dqd cX1_holds) = true := by decide +kernel
theorem dX1_holds_102 : decode cX1_holds 102 = .ok (.if_icmp .ge 75, 3) := dq daX1_holds_33_1 0 rfl
theorem dX1_holds_105 : decode cX1_holds 105 = .ok (.aload_n 0, 1) := dq daX1_holds_33_1 1 rfl
theorem dX1_holds_106 : decode cX1_holds 106 = .ok (.aload_n 0, 1) := dq daX1_holds_33_1 2 rfl
theorem dX1_holds_107 : decode cX1_holds 107 = .ok (.getfield 31, 3) := dq daX1_holds_33_1 3 rfl
theorem dX1_holds_110 : decode cX1_holds 110 = .ok (.iload 7, 2) := dq daX1_holds_33_1 4 rfl
theorem dX1_holds_112 : decode cX1_holds 112 = .ok (.iaload, 1) := dq daX1_holds_33_1 5 rfl
theorem dX1_holds_113 : decode cX1_holds 113 = .ok (.aload_n 0, 1) := dq daX1_holds_33_1 6 rfl
theorem dX1_holds_114 : decode cX1_holds 114 = .ok (.getfield 34, 3) := dq daX1_holds_33_1 7 rfl
theorem dX1_holds_117 : decode cX1_holds 117 = .ok (.iload 7, 2) := dq daX1_holds_33_1 8 rfl
theorem dX1_holds_119 : decode cX1_holds 119 = .ok (.iaload, 1) := dq daX1_holds_33_1 9 rfl
theorem dX1_holds_120 : decode cX1_holds 120 = .ok (.aload_n 3, 1) := dq daX1_holds_33_1 10 rfl
theorem dX1_holds_121 : decode cX1_holds 121 = .ok (.invokevirtual 70, 3) := dq daX1_holds_33_1 11 rfl
theorem dX1_holds_124 : decode cX1_holds 124 = .ok (.lstore 8, 2) := dq daX1_holds_33_1 12 rfl
theorem dX1_holds_126 : decode cX1_holds 126 = .ok (.aload_n 0, 1) := dq daX1_holds_33_1 13 rfl
theorem dX1_holds_127 : decode cX1_holds 127 = .ok (.aload_n 0, 1) := dq daX1_holds_33_1 14 rfl
theorem dX1_holds_128 : decode cX1_holds 128 = .ok (.getfield 34, 3) := dq daX1_holds_33_1 15 rfl
theorem dX1_holds_131 : decode cX1_holds 131 = .ok (.iload 7, 2) := dq daX1_holds_33_1 16 rfl
theorem dX1_holds_133 : decode cX1_holds 133 = .ok (.iaload, 1) := dq daX1_holds_33_1 17 rfl
theorem dX1_holds_134 : decode cX1_holds 134 = .ok (.aload_n 0, 1) := dq daX1_holds_33_1 18 rfl
theorem dX1_holds_135 : decode cX1_holds 135 = .ok (.getfield 37, 3) := dq daX1_holds_33_1 19 rfl
theorem dX1_holds_138 : decode cX1_holds 138 = .ok (.iload 7, 2) := dq daX1_holds_33_1 20 rfl
theorem dX1_holds_140 : decode cX1_holds 140 = .ok (.iaload, 1) := dq daX1_holds_33_1 21 rfl
theorem dX1_holds_141 : decode cX1_holds 141 = .ok (.aload_n 3, 1) := dq daX1_holds_33_1 22 rfl
theorem dX1_holds_142 : decode cX1_holds 142 = .ok (.invokevirtual 70, 3) := dq daX1_holds_33_1 23 rfl
theorem dX1_holds_145 : decode cX1_holds 145 = .ok (.lstore 10, 2) := dq daX1_holds_33_1 24 rfl
theorem dX1_holds_147 : decode cX1_holds 147 = .ok (.lload 4, 2) := dq daX1_holds_33_1 25 rfl
theorem dX1_holds_149 : decode cX1_holds 149 = .ok (.iconst 1, 1) := dq daX1_holds_33_1 26 rfl
theorem dX1_holds_150 : decode cX1_holds 150 = .ok (.lshl, 1) := dq daX1_holds_33_1 27 rfl
theorem dX1_holds_151 : decode cX1_holds 151 = .ok (.lload 8, 2) := dq daX1_holds_33_1 28 rfl
theorem dX1_holds_153 : decode cX1_holds 153 = .ok (.aload_n 0, 1) := dq daX1_holds_33_1 29 rfl
theorem dX1_holds_154 : decode cX1_holds 154 = .ok (.getfield 40, 3) := dq daX1_holds_33_1 30 rfl
theorem dX1_holds_157 : decode cX1_holds 157 = .ok (.iload 7, 2) := dq daX1_holds_33_1 31 rfl
def dtX1_holds_33_2 : List (Nat × Jvm.ClassFile.Instr × Nat) := [(159, .iaload, 1), (160, .lload 10, 2), (162, .invokestatic 76, 3), (165, .ifCond .eq 7, 3), (172, .iconst 0, 1), (173, .i2l, 1), (174, .lor, 1), (175, .lstore 4, 2), (168, .iconst 1, 1), (169, .goto 4, 3), (79, .lload 4, 2), (81, .iconst 1, 1), (82, .lushr, 1), (83, .lload 4, 2), (85, .lconst 1, 1), (86, .land, 1), (87, .lor, 1), (88, .lstore 4, 2), (90, .goto 87, 3), (56, .lload 4, 2), (58, .iconst 1, 1), (59, .lushr, 1), (60, .lload 4, 2), (62, .ldc2_w 74, 3), (65, .lor, 1), (66, .land, 1), (67, .lstore 4, 2), (69, .goto 108, 3), (40, .lload 4, 2), (42, .lconst 1, 1), (43, .lxor, 1), (44, .lstore 4, 2)]
theorem daX1_holds_33_2 : dtX1_holds_33_2.all (dqd cX1_holds) = true := by decide +kernel
theorem dX1_holds_159 : decode cX1_holds 159 = .ok (.iaload, 1) := dq daX1_holds_33_2 0 rfl
theorem dX1_holds_160 : decode cX1_holds 160 = .ok (.lload 10, 2) := dq daX1_holds_33_2 1 rfl
theorem dX1_holds_162 : decode cX1_holds 162 = .ok (.invokestatic 76, 3) := dq daX1_holds_33_2 2 rfl
theorem dX1_holds_165 : decode cX1_holds 165 = .ok (.ifCond .eq 7, 3) := dq daX1_holds_33_2 3 rfl
theorem dX1_holds_172 : decode cX1_holds 172 = .ok (.iconst 0, 1) := dq daX1_holds_33_2 4 rfl
theorem dX1_holds_173 : decode cX1_holds 173 = .ok (.i2l, 1) := dq daX1_holds_33_2 5 rfl
theorem dX1_holds_174 : decode cX1_holds 174 = .ok (.lor, 1) := dq daX1_holds_33_2 6 rfl
theorem dX1_holds_175 : decode cX1_holds 175 = .ok (.lstore 4, 2) := dq daX1_holds_33_2 7 rfl
theorem dX1_holds_168 : decode cX1_holds 168 = .ok (.iconst 1, 1) := dq daX1_holds_33_2 8 rfl
theorem dX1_holds_169 : decode cX1_holds 169 = .ok (.goto 4, 3) := dq daX1_holds_33_2 9 rfl
theorem dX1_holds_79 : decode cX1_holds 79 = .ok (.lload 4, 2) := dq daX1_holds_33_2 10 rfl
theorem dX1_holds_81 : decode cX1_holds 81 = .ok (.iconst 1, 1) := dq daX1_holds_33_2 11 rfl
theorem dX1_holds_82 : decode cX1_holds 82 = .ok (.lushr, 1) := dq daX1_holds_33_2 12 rfl
theorem dX1_holds_83 : decode cX1_holds 83 = .ok (.lload 4, 2) := dq daX1_holds_33_2 13 rfl
theorem dX1_holds_85 : decode cX1_holds 85 = .ok (.lconst 1, 1) := dq daX1_holds_33_2 14 rfl
theorem dX1_holds_86 : decode cX1_holds 86 = .ok (.land, 1) := dq daX1_holds_33_2 15 rfl
theorem dX1_holds_87 : decode cX1_holds 87 = .ok (.lor, 1) := dq daX1_holds_33_2 16 rfl
theorem dX1_holds_88 : decode cX1_holds 88 = .ok (.lstore 4, 2) := dq daX1_holds_33_2 17 rfl
theorem dX1_holds_90 : decode cX1_holds 90 = .ok (.goto 87, 3) := dq daX1_holds_33_2 18 rfl
theorem dX1_holds_56 : decode cX1_holds 56 = .ok (.lload 4, 2) := dq daX1_holds_33_2 19 rfl
theorem dX1_holds_58 : decode cX1_holds 58 = .ok (.iconst 1, 1) := dq daX1_holds_33_2 20 rfl
theorem dX1_holds_59 : decode cX1_holds 59 = .ok (.lushr, 1) := dq daX1_holds_33_2 21 rfl
theorem dX1_holds_60 : decode cX1_holds 60 = .ok (.lload 4, 2) := dq daX1_holds_33_2 22 rfl
theorem dX1_holds_62 : decode cX1_holds 62 = .ok (.ldc2_w 74, 3) := dq daX1_holds_33_2 23 rfl
theorem dX1_holds_65 : decode cX1_holds 65 = .ok (.lor, 1) := dq daX1_holds_33_2 24 rfl
theorem dX1_holds_66 : decode cX1_holds 66 = .ok (.land, 1) := dq daX1_holds_33_2 25 rfl
theorem dX1_holds_67 : decode cX1_holds 67 = .ok (.lstore 4, 2) := dq daX1_holds_33_2 26 rfl
theorem dX1_holds_69 : decode cX1_holds 69 = .ok (.goto 108, 3) := dq daX1_holds_33_2 27 rfl
theorem dX1_holds_40 : decode cX1_holds 40 = .ok (.lload 4, 2) := dq daX1_holds_33_2 28 rfl
theorem dX1_holds_42 : decode cX1_holds 42 = .ok (.lconst 1, 1) := dq daX1_holds_33_2 29 rfl
theorem dX1_holds_43 : decode cX1_holds 43 = .ok (.lxor, 1) := dq daX1_holds_33_2 30 rfl
theorem dX1_holds_44 : decode cX1_holds 44 = .ok (.lstore 4, 2) := dq daX1_holds_33_2 31 rfl
def dtX1_holds_33_3 : List (Nat × Jvm.ClassFile.Instr × Nat) := [(46, .goto 131, 3), (183, .lload 4, 2), (185, .lconst 1, 1), (186, .land, 1), (187, .lconst 1, 1), (188, .lcmp, 1), (189, .ifCond .ne 7, 3), (196, .iconst 0, 1), (197, .ireturn, 1), (192, .iconst 1, 1), (193, .goto 4, 3)]
theorem daX1_holds_33_3 : dtX1_holds_33_3.all (dqd cX1_holds) = true := by decide +kernel
theorem dX1_holds_46 : decode cX1_holds 46 = .ok (.goto 131, 3) := dq daX1_holds_33_3 0 rfl
theorem dX1_holds_183 : decode cX1_holds 183 = .ok (.lload 4, 2) := dq daX1_holds_33_3 1 rfl
theorem dX1_holds_185 : decode cX1_holds 185 = .ok (.lconst 1, 1) := dq daX1_holds_33_3 2 rfl
theorem dX1_holds_186 : decode cX1_holds 186 = .ok (.land, 1) := dq daX1_holds_33_3 3 rfl
theorem dX1_holds_187 : decode cX1_holds 187 = .ok (.lconst 1, 1) := dq daX1_holds_33_3 4 rfl
theorem dX1_holds_188 : decode cX1_holds 188 = .ok (.lcmp, 1) := dq daX1_holds_33_3 5 rfl
theorem dX1_holds_189 : decode cX1_holds 189 = .ok (.ifCond .ne 7, 3) := dq daX1_holds_33_3 6 rfl
theorem dX1_holds_196 : decode cX1_holds 196 = .ok (.iconst 0, 1) := dq daX1_holds_33_3 7 rfl
theorem dX1_holds_197 : decode cX1_holds 197 = .ok (.ireturn, 1) := dq daX1_holds_33_3 8 rfl
theorem dX1_holds_192 : decode cX1_holds 192 = .ok (.iconst 1, 1) := dq daX1_holds_33_3 9 rfl
theorem dX1_holds_193 : decode cX1_holds 193 = .ok (.goto 4, 3) := dq daX1_holds_33_3 10 rfl
def dtX1_sumOf_33_0 : List (Nat × Jvm.ClassFile.Instr × Nat) := [(0, .iconst 0, 1), (1, .istore_n 3, 1), (2, .iload_n 3, 1), (3, .aload_n 0, 1), (4, .getfield 50, 3), (7, .if_icmp .ge 63, 3), (10, .iload_n 3, 1), (11, .bipush 12, 2), (13, .if_icmp .ge 57, 3), (16, .aload_n 0, 1), (17, .getfield 9, 3), (20, .iload_n 3, 1), (21, .iaload, 1), (22, .iload_n 1, 1), (23, .if_icmp .ne 41, 3), (64, .iinc 3 1, 3), (67, .goto (-65), 3), (26, .aload_n 0, 1), (27, .aload_n 0, 1), (28, .getfield 19, 3), (31, .iload_n 3, 1), (32, .iaload, 1), (33, .aload_n 0, 1), (34, .getfield 22, 3), (37, .iload_n 3, 1), (38, .iaload, 1), (39, .aload_n 2, 1), (40, .invokevirtual 66, 3), (43, .ifCond .eq 21, 3), (46, .aload_n 0, 1), (47, .aload_n 0, 1), (48, .getfield 13, 3)]
theorem daX1_sumOf_33_0 : dtX1_sumOf_33_0.all (dqd cX1_sumOf) = true := by decide +kernel
theorem dX1_sumOf_0 : decode cX1_sumOf 0 = .ok (.iconst 0, 1) := dq daX1_sumOf_33_0 0 rfl
theorem dX1_sumOf_1 : decode cX1_sumOf 1 = .ok (.istore_n 3, 1) := dq daX1_sumOf_33_0 1 rfl
theorem dX1_sumOf_2 : decode cX1_sumOf 2 = .ok (.iload_n 3, 1) := dq daX1_sumOf_33_0 2 rfl
theorem dX1_sumOf_3 : decode cX1_sumOf 3 = .ok (.aload_n 0, 1) := dq daX1_sumOf_33_0 3 rfl
theorem dX1_sumOf_4 : decode cX1_sumOf 4 = .ok (.getfield 50, 3) := dq daX1_sumOf_33_0 4 rfl
theorem dX1_sumOf_7 : decode cX1_sumOf 7 = .ok (.if_icmp .ge 63, 3) := dq daX1_sumOf_33_0 5 rfl
theorem dX1_sumOf_10 : decode cX1_sumOf 10 = .ok (.iload_n 3, 1) := dq daX1_sumOf_33_0 6 rfl
theorem dX1_sumOf_11 : decode cX1_sumOf 11 = .ok (.bipush 12, 2) := dq daX1_sumOf_33_0 7 rfl
theorem dX1_sumOf_13 : decode cX1_sumOf 13 = .ok (.if_icmp .ge 57, 3) := dq daX1_sumOf_33_0 8 rfl
theorem dX1_sumOf_16 : decode cX1_sumOf 16 = .ok (.aload_n 0, 1) := dq daX1_sumOf_33_0 9 rfl
theorem dX1_sumOf_17 : decode cX1_sumOf 17 = .ok (.getfield 9, 3) := dq daX1_sumOf_33_0 10 rfl
theorem dX1_sumOf_20 : decode cX1_sumOf 20 = .ok (.iload_n 3, 1) := dq daX1_sumOf_33_0 11 rfl
theorem dX1_sumOf_21 : decode cX1_sumOf 21 = .ok (.iaload, 1) := dq daX1_sumOf_33_0 12 rfl
theorem dX1_sumOf_22 : decode cX1_sumOf 22 = .ok (.iload_n 1, 1) := dq daX1_sumOf_33_0 13 rfl
theorem dX1_sumOf_23 : decode cX1_sumOf 23 = .ok (.if_icmp .ne 41, 3) := dq daX1_sumOf_33_0 14 rfl
theorem dX1_sumOf_64 : decode cX1_sumOf 64 = .ok (.iinc 3 1, 3) := dq daX1_sumOf_33_0 15 rfl
theorem dX1_sumOf_67 : decode cX1_sumOf 67 = .ok (.goto (-65), 3) := dq daX1_sumOf_33_0 16 rfl
theorem dX1_sumOf_26 : decode cX1_sumOf 26 = .ok (.aload_n 0, 1) := dq daX1_sumOf_33_0 17 rfl
theorem dX1_sumOf_27 : decode cX1_sumOf 27 = .ok (.aload_n 0, 1) := dq daX1_sumOf_33_0 18 rfl
theorem dX1_sumOf_28 : decode cX1_sumOf 28 = .ok (.getfield 19, 3) := dq daX1_sumOf_33_0 19 rfl
theorem dX1_sumOf_31 : decode cX1_sumOf 31 = .ok (.iload_n 3, 1) := dq daX1_sumOf_33_0 20 rfl
theorem dX1_sumOf_32 : decode cX1_sumOf 32 = .ok (.iaload, 1) := dq daX1_sumOf_33_0 21 rfl
theorem dX1_sumOf_33 : decode cX1_sumOf 33 = .ok (.aload_n 0, 1) := dq daX1_sumOf_33_0 22 rfl
theorem dX1_sumOf_34 : decode cX1_sumOf 34 = .ok (.getfield 22, 3) := dq daX1_sumOf_33_0 23 rfl
theorem dX1_sumOf_37 : decode cX1_sumOf 37 = .ok (.iload_n 3, 1) := dq daX1_sumOf_33_0 24 rfl
theorem dX1_sumOf_38 : decode cX1_sumOf 38 = .ok (.iaload, 1) := dq daX1_sumOf_33_0 25 rfl
theorem dX1_sumOf_39 : decode cX1_sumOf 39 = .ok (.aload_n 2, 1) := dq daX1_sumOf_33_0 26 rfl
theorem dX1_sumOf_40 : decode cX1_sumOf 40 = .ok (.invokevirtual 66, 3) := dq daX1_sumOf_33_0 27 rfl
theorem dX1_sumOf_43 : decode cX1_sumOf 43 = .ok (.ifCond .eq 21, 3) := dq daX1_sumOf_33_0 28 rfl
theorem dX1_sumOf_46 : decode cX1_sumOf 46 = .ok (.aload_n 0, 1) := dq daX1_sumOf_33_0 29 rfl
theorem dX1_sumOf_47 : decode cX1_sumOf 47 = .ok (.aload_n 0, 1) := dq daX1_sumOf_33_0 30 rfl
theorem dX1_sumOf_48 : decode cX1_sumOf 48 = .ok (.getfield 13, 3) := dq daX1_sumOf_33_0 31 rfl
def dtX1_sumOf_33_1 : List (Nat × Jvm.ClassFile.Instr × Nat) := [(51, .iload_n 3, 1), (52, .iaload, 1), (53, .aload_n 0, 1), (54, .getfield 16, 3), (57, .iload_n 3, 1), (58, .iaload, 1), (59, .aload_n 2, 1), (60, .invokevirtual 70, 3), (63, .lreturn, 1), (70, .lconst 0, 1), (71, .lreturn, 1)]
theorem daX1_sumOf_33_1 : dtX1_sumOf_33_1.all (dqd cX1_sumOf) = true := by decide +kernel
theorem dX1_sumOf_51 : decode cX1_sumOf 51 = .ok (.iload_n 3, 1) := dq daX1_sumOf_33_1 0 rfl
theorem dX1_sumOf_52 : decode cX1_sumOf 52 = .ok (.iaload, 1) := dq daX1_sumOf_33_1 1 rfl
theorem dX1_sumOf_53 : decode cX1_sumOf 53 = .ok (.aload_n 0, 1) := dq daX1_sumOf_33_1 2 rfl
theorem dX1_sumOf_54 : decode cX1_sumOf 54 = .ok (.getfield 16, 3) := dq daX1_sumOf_33_1 3 rfl
theorem dX1_sumOf_57 : decode cX1_sumOf 57 = .ok (.iload_n 3, 1) := dq daX1_sumOf_33_1 4 rfl
theorem dX1_sumOf_58 : decode cX1_sumOf 58 = .ok (.iaload, 1) := dq daX1_sumOf_33_1 5 rfl
theorem dX1_sumOf_59 : decode cX1_sumOf 59 = .ok (.aload_n 2, 1) := dq daX1_sumOf_33_1 6 rfl
theorem dX1_sumOf_60 : decode cX1_sumOf 60 = .ok (.invokevirtual 70, 3) := dq daX1_sumOf_33_1 7 rfl
theorem dX1_sumOf_63 : decode cX1_sumOf 63 = .ok (.lreturn, 1) := dq daX1_sumOf_33_1 8 rfl
theorem dX1_sumOf_70 : decode cX1_sumOf 70 = .ok (.lconst 0, 1) := dq daX1_sumOf_33_1 9 rfl
theorem dX1_sumOf_71 : decode cX1_sumOf 71 = .ok (.lreturn, 1) := dq daX1_sumOf_33_1 10 rfl
