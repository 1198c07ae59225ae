theorem kX11_isNode_1 {a : Array Value} {s : State} (hts : ∀ w ∈ wsX11_isNode, w.before a s = true) : (.fieldLink RX11 39 "SnowMulesModel" "said" "[I" : Cond).before a s = true := kw (A := ixX11_isNode) wt153 hts (by decide +kernel)
theorem kX11_isPass_1 {a : Array Value} {s : State} (hts : ∀ w ∈ wsX11_isPass, w.before a s = true) : (.fieldLink RX11 39 "SnowMulesModel" "said" "[I" : Cond).before a s = true := kw (A := ixX11_isPass) wt153 hts (by decide +kernel)
theorem kX11_isJar_1 {a : Array Value} {s : State} (hts : ∀ w ∈ wsX11_isJar, w.before a s = true) : (.fieldLink RX11 39 "SnowMulesModel" "said" "[I" : Cond).before a s = true := kw (A := ixX11_isJar) wt153 hts (by decide +kernel)
theorem kX11_isLaw_1 {a : Array Value} {s : State} (hts : ∀ w ∈ wsX11_isLaw, w.before a s = true) : (.fieldLink RX11 232 "SnowMulesModel" "laws" "I" : Cond).before a s = true := kw (A := ixX11_isLaw) wt458 hts (by decide +kernel)
theorem kX11_monthAt_1 {a : Array Value} {s : State} (hts : ∀ w ∈ wsX11_monthAt, w.before a s = true) : (.fieldLink RX11 39 "SnowMulesModel" "said" "[I" : Cond).before a s = true := kw (A := ixX11_monthAt) wt153 hts (by decide +kernel)
theorem kX11_nodeOf_1 {a : Array Value} {s : State} (hts : ∀ w ∈ wsX11_nodeOf, w.before a s = true) : (.fieldLink RX11 39 "SnowMulesModel" "said" "[I" : Cond).before a s = true := kw (A := ixX11_nodeOf) wt153 hts (by decide +kernel)
theorem kX11_passOf_1 {a : Array Value} {s : State} (hts : ∀ w ∈ wsX11_passOf, w.before a s = true) : (.fieldLink RX11 39 "SnowMulesModel" "said" "[I" : Cond).before a s = true := kw (A := ixX11_passOf) wt153 hts (by decide +kernel)
theorem kX11_jarOf_1 {a : Array Value} {s : State} (hts : ∀ w ∈ wsX11_jarOf, w.before a s = true) : (.fieldLink RX11 39 "SnowMulesModel" "said" "[I" : Cond).before a s = true := kw (A := ixX11_jarOf) wt153 hts (by decide +kernel)
theorem iX11_isNode_X11 : ∀ w ∈ wsX110, w ∈ wsX11_isNode := inW (A := ixX11_isNode) uwX11 (by decide +kernel)
theorem iX11_isPass_X11 : ∀ w ∈ wsX110, w ∈ wsX11_isPass := inW (A := ixX11_isPass) uwX11 (by decide +kernel)
theorem iX11_isJar_X11 : ∀ w ∈ wsX110, w ∈ wsX11_isJar := inW (A := ixX11_isJar) uwX11 (by decide +kernel)
theorem iX11_isLaw_X11 : ∀ w ∈ wsX110, w ∈ wsX11_isLaw := inW (A := ixX11_isLaw) uwX11 (by decide +kernel)
theorem iX11_monthAt_X11 : ∀ w ∈ wsX110, w ∈ wsX11_monthAt := inW (A := ixX11_monthAt) uwX11 (by decide +kernel)
theorem iX11_nodeOf_X11 : ∀ w ∈ wsX110, w ∈ wsX11_nodeOf := inW (A := ixX11_nodeOf) uwX11 (by decide +kernel)
theorem iX11_passOf_X11 : ∀ w ∈ wsX110, w ∈ wsX11_passOf := inW (A := ixX11_passOf) uwX11 (by decide +kernel)
theorem iX11_jarOf_X11 : ∀ w ∈ wsX110, w ∈ wsX11_jarOf := inW (A := ixX11_jarOf) uwX11 (by decide +kernel)
theorem hdX11_nodeOf : yX11_nodeOf.cls ≠ "java/lang/invoke/MethodHandle" ∧ yX11_nodeOf.cls ≠ "java/lang/invoke/VarHandle" ∧ (parseMethodDescriptor yX11_nodeOf.desc).map (fun d => d.parameters.length) = some 2 := ⟨hdc_0.1, hdc_0.2, hdd_0⟩
theorem hdX11_passOf : yX11_passOf.cls ≠ "java/lang/invoke/MethodHandle" ∧ yX11_passOf.cls ≠ "java/lang/invoke/VarHandle" ∧ (parseMethodDescriptor yX11_passOf.desc).map (fun d => d.parameters.length) = some 2 := ⟨hdc_0.1, hdc_0.2, hdd_0⟩
theorem hdX11_isJar : yX11_isJar.cls ≠ "java/lang/invoke/MethodHandle" ∧ yX11_isJar.cls ≠ "java/lang/invoke/VarHandle" ∧ (parseMethodDescriptor yX11_isJar.desc).map (fun d => d.parameters.length) = some 1 := ⟨hdc_0.1, hdc_0.2, hdd_1⟩
theorem hdX11_jarOf : yX11_jarOf.cls ≠ "java/lang/invoke/MethodHandle" ∧ yX11_jarOf.cls ≠ "java/lang/invoke/VarHandle" ∧ (parseMethodDescriptor yX11_jarOf.desc).map (fun d => d.parameters.length) = some 2 := ⟨hdc_0.1, hdc_0.2, hdd_0⟩
def dtX11_in_10_0 : List (Nat × Jvm.ClassFile.Instr × Nat) := [(0, .lload_n 0, 1), (1, .lload_n 2, 1), (2, .lcmp, 1), (3, .ifCond .lt 14, 3), (17, .iconst 0, 1), (18, .ireturn, 1), (6, .lload_n 0, 1), (7, .lload 4, 2), (9, .lcmp, 1), (10, .ifCond .gt 7, 3), (13, .iconst 1, 1), (14, .goto 4, 3)]
theorem daX11_in_10_0 : dtX11_in_10_0.all (dqd cX11_in) = true := by decide +kernel
theorem dX11_in_0 : decode cX11_in 0 = .ok (.lload_n 0, 1) := dq daX11_in_10_0 0 rfl
theorem dX11_in_1 : decode cX11_in 1 = .ok (.lload_n 2, 1) := dq daX11_in_10_0 1 rfl
theorem dX11_in_2 : decode cX11_in 2 = .ok (.lcmp, 1) := dq daX11_in_10_0 2 rfl
theorem dX11_in_3 : decode cX11_in 3 = .ok (.ifCond .lt 14, 3) := dq daX11_in_10_0 3 rfl
theorem dX11_in_17 : decode cX11_in 17 = .ok (.iconst 0, 1) := dq daX11_in_10_0 4 rfl
theorem dX11_in_18 : decode cX11_in 18 = .ok (.ireturn, 1) := dq daX11_in_10_0 5 rfl
theorem dX11_in_6 : decode cX11_in 6 = .ok (.lload_n 0, 1) := dq daX11_in_10_0 6 rfl
theorem dX11_in_7 : decode cX11_in 7 = .ok (.lload 4, 2) := dq daX11_in_10_0 7 rfl
theorem dX11_in_9 : decode cX11_in 9 = .ok (.lcmp, 1) := dq daX11_in_10_0 8 rfl
theorem dX11_in_10 : decode cX11_in 10 = .ok (.ifCond .gt 7, 3) := dq daX11_in_10_0 9 rfl
theorem dX11_in_13 : decode cX11_in 13 = .ok (.iconst 1, 1) := dq daX11_in_10_0 10 rfl
theorem dX11_in_14 : decode cX11_in 14 = .ok (.goto 4, 3) := dq daX11_in_10_0 11 rfl
def dtX11_bounded_10_0 : List (Nat × Jvm.ClassFile.Instr × Nat) := [(0, .lload_n 0, 1), (1, .lload_n 2, 1), (2, .lcmp, 1), (3, .ifCond .ge 7, 3), (10, .lload_n 0, 1), (11, .lload 4, 2), (13, .lcmp, 1), (14, .ifCond .le 8, 3), (22, .lload_n 0, 1), (23, .lreturn, 1), (17, .lload 4, 2), (19, .goto 4, 3), (6, .lload_n 2, 1), (7, .goto 16, 3)]
theorem daX11_bounded_10_0 : dtX11_bounded_10_0.all (dqd cX11_bounded) = true := by decide +kernel
theorem dX11_bounded_0 : decode cX11_bounded 0 = .ok (.lload_n 0, 1) := dq daX11_bounded_10_0 0 rfl
theorem dX11_bounded_1 : decode cX11_bounded 1 = .ok (.lload_n 2, 1) := dq daX11_bounded_10_0 1 rfl
theorem dX11_bounded_2 : decode cX11_bounded 2 = .ok (.lcmp, 1) := dq daX11_bounded_10_0 2 rfl
theorem dX11_bounded_3 : decode cX11_bounded 3 = .ok (.ifCond .ge 7, 3) := dq daX11_bounded_10_0 3 rfl
theorem dX11_bounded_10 : decode cX11_bounded 10 = .ok (.lload_n 0, 1) := dq daX11_bounded_10_0 4 rfl
theorem dX11_bounded_11 : decode cX11_bounded 11 = .ok (.lload 4, 2) := dq daX11_bounded_10_0 5 rfl
theorem dX11_bounded_13 : decode cX11_bounded 13 = .ok (.lcmp, 1) := dq daX11_bounded_10_0 6 rfl
theorem dX11_bounded_14 : decode cX11_bounded 14 = .ok (.ifCond .le 8, 3) := dq daX11_bounded_10_0 7 rfl
theorem dX11_bounded_22 : decode cX11_bounded 22 = .ok (.lload_n 0, 1) := dq daX11_bounded_10_0 8 rfl
theorem dX11_bounded_23 : decode cX11_bounded 23 = .ok (.lreturn, 1) := dq daX11_bounded_10_0 9 rfl
theorem dX11_bounded_17 : decode cX11_bounded 17 = .ok (.lload 4, 2) := dq daX11_bounded_10_0 10 rfl
theorem dX11_bounded_19 : decode cX11_bounded 19 = .ok (.goto 4, 3) := dq daX11_bounded_10_0 11 rfl
theorem dX11_bounded_6 : decode cX11_bounded 6 = .ok (.lload_n 2, 1) := dq daX11_bounded_10_0 12 rfl
theorem dX11_bounded_7 : decode cX11_bounded 7 = .ok (.goto 16, 3) := dq daX11_bounded_10_0 13 rfl
def dtX11_isNode_10_0 : List (Nat × Jvm.ClassFile.Instr × Nat) := [(0, .iload_n 1, 1), (1, .ifCond .lt 17, 3), (18, .iconst 0, 1), (19, .ireturn, 1), (4, .iload_n 1, 1), (5, .aload_n 0, 1), (6, .getfield 39, 3), (9, .iconst 0, 1), (10, .iaload, 1), (11, .if_icmp .ge 7, 3), (14, .iconst 1, 1), (15, .goto 4, 3)]
theorem daX11_isNode_10_0 : dtX11_isNode_10_0.all (dqd cX11_isNode) = true := by decide +kernel
theorem dX11_isNode_0 : decode cX11_isNode 0 = .ok (.iload_n 1, 1) := dq daX11_isNode_10_0 0 rfl
theorem dX11_isNode_1 : decode cX11_isNode 1 = .ok (.ifCond .lt 17, 3) := dq daX11_isNode_10_0 1 rfl
theorem dX11_isNode_18 : decode cX11_isNode 18 = .ok (.iconst 0, 1) := dq daX11_isNode_10_0 2 rfl
theorem dX11_isNode_19 : decode cX11_isNode 19 = .ok (.ireturn, 1) := dq daX11_isNode_10_0 3 rfl
theorem dX11_isNode_4 : decode cX11_isNode 4 = .ok (.iload_n 1, 1) := dq daX11_isNode_10_0 4 rfl
theorem dX11_isNode_5 : decode cX11_isNode 5 = .ok (.aload_n 0, 1) := dq daX11_isNode_10_0 5 rfl
theorem dX11_isNode_6 : decode cX11_isNode 6 = .ok (.getfield 39, 3) := dq daX11_isNode_10_0 6 rfl
theorem dX11_isNode_9 : decode cX11_isNode 9 = .ok (.iconst 0, 1) := dq daX11_isNode_10_0 7 rfl
theorem dX11_isNode_10 : decode cX11_isNode 10 = .ok (.iaload, 1) := dq daX11_isNode_10_0 8 rfl
theorem dX11_isNode_11 : decode cX11_isNode 11 = .ok (.if_icmp .ge 7, 3) := dq daX11_isNode_10_0 9 rfl
theorem dX11_isNode_14 : decode cX11_isNode 14 = .ok (.iconst 1, 1) := dq daX11_isNode_10_0 10 rfl
theorem dX11_isNode_15 : decode cX11_isNode 15 = .ok (.goto 4, 3) := dq daX11_isNode_10_0 11 rfl
def dtX11_isPass_10_0 : List (Nat × Jvm.ClassFile.Instr × Nat) := [(0, .iload_n 1, 1), (1, .ifCond .lt 17, 3), (18, .iconst 0, 1), (19, .ireturn, 1), (4, .iload_n 1, 1), (5, .aload_n 0, 1), (6, .getfield 39, 3), (9, .iconst 1, 1), (10, .iaload, 1), (11, .if_icmp .ge 7, 3), (14, .iconst 1, 1), (15, .goto 4, 3)]
theorem daX11_isPass_10_0 : dtX11_isPass_10_0.all (dqd cX11_isPass) = true := by decide +kernel
theorem dX11_isPass_0 : decode cX11_isPass 0 = .ok (.iload_n 1, 1) := dq daX11_isPass_10_0 0 rfl
theorem dX11_isPass_1 : decode cX11_isPass 1 = .ok (.ifCond .lt 17, 3) := dq daX11_isPass_10_0 1 rfl
theorem dX11_isPass_18 : decode cX11_isPass 18 = .ok (.iconst 0, 1) := dq daX11_isPass_10_0 2 rfl
theorem dX11_isPass_19 : decode cX11_isPass 19 = .ok (.ireturn, 1) := dq daX11_isPass_10_0 3 rfl
theorem dX11_isPass_4 : decode cX11_isPass 4 = .ok (.iload_n 1, 1) := dq daX11_isPass_10_0 4 rfl
theorem dX11_isPass_5 : decode cX11_isPass 5 = .ok (.aload_n 0, 1) := dq daX11_isPass_10_0 5 rfl
theorem dX11_isPass_6 : decode cX11_isPass 6 = .ok (.getfield 39, 3) := dq daX11_isPass_10_0 6 rfl
theorem dX11_isPass_9 : decode cX11_isPass 9 = .ok (.iconst 1, 1) := dq daX11_isPass_10_0 7 rfl
theorem dX11_isPass_10 : decode cX11_isPass 10 = .ok (.iaload, 1) := dq daX11_isPass_10_0 8 rfl
theorem dX11_isPass_11 : decode cX11_isPass 11 = .ok (.if_icmp .ge 7, 3) := dq daX11_isPass_10_0 9 rfl
theorem dX11_isPass_14 : decode cX11_isPass 14 = .ok (.iconst 1, 1) := dq daX11_isPass_10_0 10 rfl
theorem dX11_isPass_15 : decode cX11_isPass 15 = .ok (.goto 4, 3) := dq daX11_isPass_10_0 11 rfl
def dtX11_isJar_10_0 : List (Nat × Jvm.ClassFile.Instr × Nat) := [(0, .iload_n 1, 1), (1, .ifCond .lt 17, 3), (18, .iconst 0, 1), (19, .ireturn, 1), (4, .iload_n 1, 1), (5, .aload_n 0, 1), (6, .getfield 39, 3), (9, .iconst 2, 1), (10, .iaload, 1), (11, .if_icmp .ge 7, 3), (14, .iconst 1, 1), (15, .goto 4, 3)]
theorem daX11_isJar_10_0 : dtX11_isJar_10_0.all (dqd cX11_isJar) = true := by decide +kernel
theorem dX11_isJar_0 : decode cX11_isJar 0 = .ok (.iload_n 1, 1) := dq daX11_isJar_10_0 0 rfl
theorem dX11_isJar_1 : decode cX11_isJar 1 = .ok (.ifCond .lt 17, 3) := dq daX11_isJar_10_0 1 rfl
theorem dX11_isJar_18 : decode cX11_isJar 18 = .ok (.iconst 0, 1) := dq daX11_isJar_10_0 2 rfl
theorem dX11_isJar_19 : decode cX11_isJar 19 = .ok (.ireturn, 1) := dq daX11_isJar_10_0 3 rfl
theorem dX11_isJar_4 : decode cX11_isJar 4 = .ok (.iload_n 1, 1) := dq daX11_isJar_10_0 4 rfl
theorem dX11_isJar_5 : decode cX11_isJar 5 = .ok (.aload_n 0, 1) := dq daX11_isJar_10_0 5 rfl
theorem dX11_isJar_6 : decode cX11_isJar 6 = .ok (.getfield 39, 3) := dq daX11_isJar_10_0 6 rfl
theorem dX11_isJar_9 : decode cX11_isJar 9 = .ok (.iconst 2, 1) := dq daX11_isJar_10_0 7 rfl
theorem dX11_isJar_10 : decode cX11_isJar 10 = .ok (.iaload, 1) := dq daX11_isJar_10_0 8 rfl
theorem dX11_isJar_11 : decode cX11_isJar 11 = .ok (.if_icmp .ge 7, 3) := dq daX11_isJar_10_0 9 rfl
theorem dX11_isJar_14 : decode cX11_isJar 14 = .ok (.iconst 1, 1) := dq daX11_isJar_10_0 10 rfl
theorem dX11_isJar_15 : decode cX11_isJar 15 = .ok (.goto 4, 3) := dq daX11_isJar_10_0 11 rfl
def dtX11_isLaw_10_0 : List (Nat × Jvm.ClassFile.Instr × Nat) := [(0, .iload_n 1, 1), (1, .ifCond .lt 15, 3), (16, .iconst 0, 1), (17, .ireturn, 1), (4, .iload_n 1, 1), (5, .aload_n 0, 1), (6, .getfield 232, 3), (9, .if_icmp .ge 7, 3), (12, .iconst 1, 1), (13, .goto 4, 3)]
theorem daX11_isLaw_10_0 : dtX11_isLaw_10_0.all (dqd cX11_isLaw) = true := by decide +kernel
theorem dX11_isLaw_0 : decode cX11_isLaw 0 = .ok (.iload_n 1, 1) := dq daX11_isLaw_10_0 0 rfl
theorem dX11_isLaw_1 : decode cX11_isLaw 1 = .ok (.ifCond .lt 15, 3) := dq daX11_isLaw_10_0 1 rfl
theorem dX11_isLaw_16 : decode cX11_isLaw 16 = .ok (.iconst 0, 1) := dq daX11_isLaw_10_0 2 rfl
theorem dX11_isLaw_17 : decode cX11_isLaw 17 = .ok (.ireturn, 1) := dq daX11_isLaw_10_0 3 rfl
theorem dX11_isLaw_4 : decode cX11_isLaw 4 = .ok (.iload_n 1, 1) := dq daX11_isLaw_10_0 4 rfl
theorem dX11_isLaw_5 : decode cX11_isLaw 5 = .ok (.aload_n 0, 1) := dq daX11_isLaw_10_0 5 rfl
theorem dX11_isLaw_6 : decode cX11_isLaw 6 = .ok (.getfield 232, 3) := dq daX11_isLaw_10_0 6 rfl
theorem dX11_isLaw_9 : decode cX11_isLaw 9 = .ok (.if_icmp .ge 7, 3) := dq daX11_isLaw_10_0 7 rfl
theorem dX11_isLaw_12 : decode cX11_isLaw 12 = .ok (.iconst 1, 1) := dq daX11_isLaw_10_0 8 rfl
theorem dX11_isLaw_13 : decode cX11_isLaw 13 = .ok (.goto 4, 3) := dq daX11_isLaw_10_0 9 rfl
def dtX11_monthAt_10_0 : List (Nat × Jvm.ClassFile.Instr × Nat) := [(0, .aload_n 0, 1), (1, .getfield 39, 3), (4, .bipush 6, 2), (6, .iaload, 1), (7, .iload_n 1, 1), (8, .bipush 24, 2), (10, .idiv, 1), (11, .bipush 30, 2), (13, .idiv, 1), (14, .iadd, 1), (15, .bipush 12, 2), (17, .irem, 1), (18, .ireturn, 1)]
theorem daX11_monthAt_10_0 : dtX11_monthAt_10_0.all (dqd cX11_monthAt) = true := by decide +kernel
theorem dX11_monthAt_0 : decode cX11_monthAt 0 = .ok (.aload_n 0, 1) := dq daX11_monthAt_10_0 0 rfl
theorem dX11_monthAt_1 : decode cX11_monthAt 1 = .ok (.getfield 39, 3) := dq daX11_monthAt_10_0 1 rfl
theorem dX11_monthAt_4 : decode cX11_monthAt 4 = .ok (.bipush 6, 2) := dq daX11_monthAt_10_0 2 rfl
theorem dX11_monthAt_6 : decode cX11_monthAt 6 = .ok (.iaload, 1) := dq daX11_monthAt_10_0 3 rfl
theorem dX11_monthAt_7 : decode cX11_monthAt 7 = .ok (.iload_n 1, 1) := dq daX11_monthAt_10_0 4 rfl
theorem dX11_monthAt_8 : decode cX11_monthAt 8 = .ok (.bipush 24, 2) := dq daX11_monthAt_10_0 5 rfl
theorem dX11_monthAt_10 : decode cX11_monthAt 10 = .ok (.idiv, 1) := dq daX11_monthAt_10_0 6 rfl
theorem dX11_monthAt_11 : decode cX11_monthAt 11 = .ok (.bipush 30, 2) := dq daX11_monthAt_10_0 7 rfl
theorem dX11_monthAt_13 : decode cX11_monthAt 13 = .ok (.idiv, 1) := dq daX11_monthAt_10_0 8 rfl
theorem dX11_monthAt_14 : decode cX11_monthAt 14 = .ok (.iadd, 1) := dq daX11_monthAt_10_0 9 rfl
theorem dX11_monthAt_15 : decode cX11_monthAt 15 = .ok (.bipush 12, 2) := dq daX11_monthAt_10_0 10 rfl
theorem dX11_monthAt_17 : decode cX11_monthAt 17 = .ok (.irem, 1) := dq daX11_monthAt_10_0 11 rfl
theorem dX11_monthAt_18 : decode cX11_monthAt 18 = .ok (.ireturn, 1) := dq daX11_monthAt_10_0 12 rfl
def dtX11_nodeOf_10_0 : List (Nat × Jvm.ClassFile.Instr × Nat) := [(0, .aload_n 0, 1), (1, .getfield 39, 3), (4, .bipush 20, 2), (6, .iconst 4, 1), (7, .iload_n 1, 1), (8, .imul, 1), (9, .iadd, 1), (10, .iload_n 2, 1), (11, .iadd, 1), (12, .iaload, 1), (13, .ireturn, 1)]
theorem daX11_nodeOf_10_0 : dtX11_nodeOf_10_0.all (dqd cX11_nodeOf) = true := by decide +kernel
theorem dX11_nodeOf_0 : decode cX11_nodeOf 0 = .ok (.aload_n 0, 1) := dq daX11_nodeOf_10_0 0 rfl
theorem dX11_nodeOf_1 : decode cX11_nodeOf 1 = .ok (.getfield 39, 3) := dq daX11_nodeOf_10_0 1 rfl
theorem dX11_nodeOf_4 : decode cX11_nodeOf 4 = .ok (.bipush 20, 2) := dq daX11_nodeOf_10_0 2 rfl
theorem dX11_nodeOf_6 : decode cX11_nodeOf 6 = .ok (.iconst 4, 1) := dq daX11_nodeOf_10_0 3 rfl
theorem dX11_nodeOf_7 : decode cX11_nodeOf 7 = .ok (.iload_n 1, 1) := dq daX11_nodeOf_10_0 4 rfl
theorem dX11_nodeOf_8 : decode cX11_nodeOf 8 = .ok (.imul, 1) := dq daX11_nodeOf_10_0 5 rfl
theorem dX11_nodeOf_9 : decode cX11_nodeOf 9 = .ok (.iadd, 1) := dq daX11_nodeOf_10_0 6 rfl
theorem dX11_nodeOf_10 : decode cX11_nodeOf 10 = .ok (.iload_n 2, 1) := dq daX11_nodeOf_10_0 7 rfl
theorem dX11_nodeOf_11 : decode cX11_nodeOf 11 = .ok (.iadd, 1) := dq daX11_nodeOf_10_0 8 rfl
theorem dX11_nodeOf_12 : decode cX11_nodeOf 12 = .ok (.iaload, 1) := dq daX11_nodeOf_10_0 9 rfl
theorem dX11_nodeOf_13 : decode cX11_nodeOf 13 = .ok (.ireturn, 1) := dq daX11_nodeOf_10_0 10 rfl
def dtX11_passOf_10_0 : List (Nat × Jvm.ClassFile.Instr × Nat) := [(0, .aload_n 0, 1), (1, .getfield 39, 3), (4, .bipush 68, 2), (6, .iconst 5, 1), (7, .iload_n 1, 1), (8, .imul, 1), (9, .iadd, 1), (10, .iload_n 2, 1), (11, .iadd, 1), (12, .iaload, 1), (13, .ireturn, 1)]
theorem daX11_passOf_10_0 : dtX11_passOf_10_0.all (dqd cX11_passOf) = true := by decide +kernel
theorem dX11_passOf_0 : decode cX11_passOf 0 = .ok (.aload_n 0, 1) := dq daX11_passOf_10_0 0 rfl
theorem dX11_passOf_1 : decode cX11_passOf 1 = .ok (.getfield 39, 3) := dq daX11_passOf_10_0 1 rfl
theorem dX11_passOf_4 : decode cX11_passOf 4 = .ok (.bipush 68, 2) := dq daX11_passOf_10_0 2 rfl
theorem dX11_passOf_6 : decode cX11_passOf 6 = .ok (.iconst 5, 1) := dq daX11_passOf_10_0 3 rfl
theorem dX11_passOf_7 : decode cX11_passOf 7 = .ok (.iload_n 1, 1) := dq daX11_passOf_10_0 4 rfl
theorem dX11_passOf_8 : decode cX11_passOf 8 = .ok (.imul, 1) := dq daX11_passOf_10_0 5 rfl
theorem dX11_passOf_9 : decode cX11_passOf 9 = .ok (.iadd, 1) := dq daX11_passOf_10_0 6 rfl
theorem dX11_passOf_10 : decode cX11_passOf 10 = .ok (.iload_n 2, 1) := dq daX11_passOf_10_0 7 rfl
theorem dX11_passOf_11 : decode cX11_passOf 11 = .ok (.iadd, 1) := dq daX11_passOf_10_0 8 rfl
theorem dX11_passOf_12 : decode cX11_passOf 12 = .ok (.iaload, 1) := dq daX11_passOf_10_0 9 rfl
theorem dX11_passOf_13 : decode cX11_passOf 13 = .ok (.ireturn, 1) := dq daX11_passOf_10_0 10 rfl
def dtX11_jarOf_10_0 : List (Nat × Jvm.ClassFile.Instr × Nat) := [(0, .aload_n 0, 1), (1, .getfield 39, 3), (4, .sipush 168, 3), (7, .bipush 9, 2), (9, .iload_n 1, 1), (10, .imul, 1), (11, .iadd, 1), (12, .iload_n 2, 1), (13, .iadd, 1), (14, .iaload, 1), (15, .ireturn, 1)]
theorem daX11_jarOf_10_0 : dtX11_jarOf_10_0.all (dqd cX11_jarOf) = true := by decide +kernel
theorem dX11_jarOf_0 : decode cX11_jarOf 0 = .ok (.aload_n 0, 1) := dq daX11_jarOf_10_0 0 rfl
theorem dX11_jarOf_1 : decode cX11_jarOf 1 = .ok (.getfield 39, 3) := dq daX11_jarOf_10_0 1 rfl
theorem dX11_jarOf_4 : decode cX11_jarOf 4 = .ok (.sipush 168, 3) := dq daX11_jarOf_10_0 2 rfl
theorem dX11_jarOf_7 : decode cX11_jarOf 7 = .ok (.bipush 9, 2) := dq daX11_jarOf_10_0 3 rfl
theorem dX11_jarOf_9 : decode cX11_jarOf 9 = .ok (.iload_n 1, 1) := dq daX11_jarOf_10_0 4 rfl
theorem dX11_jarOf_10 : decode cX11_jarOf 10 = .ok (.imul, 1) := dq daX11_jarOf_10_0 5 rfl
theorem dX11_jarOf_11 : decode cX11_jarOf 11 = .ok (.iadd, 1) := dq daX11_jarOf_10_0 6 rfl
theorem dX11_jarOf_12 : decode cX11_jarOf 12 = .ok (.iload_n 2, 1) := dq daX11_jarOf_10_0 7 rfl
theorem dX11_jarOf_13 : decode cX11_jarOf 13 = .ok (.iadd, 1) := dq daX11_jarOf_10_0 8 rfl
theorem dX11_jarOf_14 : decode cX11_jarOf 14 = .ok (.iaload, 1) := dq daX11_jarOf_10_0 9 rfl
theorem dX11_jarOf_15 : decode cX11_jarOf 15 = .ok (.ireturn, 1) := dq daX11_jarOf_10_0 10 rfl
def dtX11_hasSnow_10_0 : List (Nat × Jvm.ClassFile.Instr × Nat) := [(0, .aload_n 0, 1), (1, .iload_n 1, 1), (2, .iconst 1, 1), (3, .invokevirtual 257, 3), (6, .iload_n 2, 1), (7, .ishr, 1), (8, .iconst 1, 1), (9, .iand, 1), (10, .iconst 1, 1), (11, .if_icmp .ne 7, 3), (18, .iconst 0, 1), (19, .ireturn, 1), (14, .iconst 1, 1), (15, .goto 4, 3)]
theorem daX11_hasSnow_10_0 : dtX11_hasSnow_10_0.all (dqd cX11_hasSnow) = true := by decide +kernel
theorem dX11_hasSnow_0 : decode cX11_hasSnow 0 = .ok (.aload_n 0, 1) := dq daX11_hasSnow_10_0 0 rfl
theorem dX11_hasSnow_1 : decode cX11_hasSnow 1 = .ok (.iload_n 1, 1) := dq daX11_hasSnow_10_0 1 rfl
theorem dX11_hasSnow_2 : decode cX11_hasSnow 2 = .ok (.iconst 1, 1) := dq daX11_hasSnow_10_0 2 rfl
theorem dX11_hasSnow_3 : decode cX11_hasSnow 3 = .ok (.invokevirtual 257, 3) := dq daX11_hasSnow_10_0 3 rfl
theorem dX11_hasSnow_6 : decode cX11_hasSnow 6 = .ok (.iload_n 2, 1) := dq daX11_hasSnow_10_0 4 rfl
theorem dX11_hasSnow_7 : decode cX11_hasSnow 7 = .ok (.ishr, 1) := dq daX11_hasSnow_10_0 5 rfl
theorem dX11_hasSnow_8 : decode cX11_hasSnow 8 = .ok (.iconst 1, 1) := dq daX11_hasSnow_10_0 6 rfl
theorem dX11_hasSnow_9 : decode cX11_hasSnow 9 = .ok (.iand, 1) := dq daX11_hasSnow_10_0 7 rfl
theorem dX11_hasSnow_10 : decode cX11_hasSnow 10 = .ok (.iconst 1, 1) := dq daX11_hasSnow_10_0 8 rfl
theorem dX11_hasSnow_11 : decode cX11_hasSnow 11 = .ok (.if_icmp .ne 7, 3) := dq daX11_hasSnow_10_0 9 rfl
theorem dX11_hasSnow_18 : decode cX11_hasSnow 18 = .ok (.iconst 0, 1) := dq daX11_hasSnow_10_0 10 rfl
theorem dX11_hasSnow_19 : decode cX11_hasSnow 19 = .ok (.ireturn, 1) := dq daX11_hasSnow_10_0 11 rfl
theorem dX11_hasSnow_14 : decode cX11_hasSnow 14 = .ok (.iconst 1, 1) := dq daX11_hasSnow_10_0 12 rfl
theorem dX11_hasSnow_15 : decode cX11_hasSnow 15 = .ok (.goto 4, 3) := dq daX11_hasSnow_10_0 13 rfl
def dtX11_other_10_0 : List (Nat × Jvm.ClassFile.Instr × Nat) := [(0, .aload_n 0, 1), (1, .iload_n 1, 1), (2, .iconst 0, 1), (3, .invokevirtual 303, 3), (6, .iload_n 2, 1), (7, .if_icmp .ne 12, 3), (19, .aload_n 0, 1), (20, .iload_n 1, 1), (21, .iconst 1, 1), (22, .invokevirtual 303, 3), (25, .iload_n 2, 1), (26, .if_icmp .ne 12, 3), (38, .iconst (-1), 1), (39, .ireturn, 1), (29, .aload_n 0, 1), (30, .iload_n 1, 1), (31, .iconst 0, 1), (32, .invokevirtual 303, 3), (35, .goto 4, 3), (10, .aload_n 0, 1), (11, .iload_n 1, 1), (12, .iconst 1, 1), (13, .invokevirtual 303, 3), (16, .goto 23, 3)]
theorem daX11_other_10_0 : dtX11_other_10_0.all (dqd cX11_other) = true := by decide +kernel
theorem dX11_other_0 : decode cX11_other 0 = .ok (.aload_n 0, 1) := dq daX11_other_10_0 0 rfl
theorem dX11_other_1 : decode cX11_other 1 = .ok (.iload_n 1, 1) := dq daX11_other_10_0 1 rfl
theorem dX11_other_2 : decode cX11_other 2 = .ok (.iconst 0, 1) := dq daX11_other_10_0 2 rfl
theorem dX11_other_3 : decode cX11_other 3 = .ok (.invokevirtual 303, 3) := dq daX11_other_10_0 3 rfl
theorem dX11_other_6 : decode cX11_other 6 = .ok (.iload_n 2, 1) := dq daX11_other_10_0 4 rfl
theorem dX11_other_7 : decode cX11_other 7 = .ok (.if_icmp .ne 12, 3) := dq daX11_other_10_0 5 rfl
theorem dX11_other_19 : decode cX11_other 19 = .ok (.aload_n 0, 1) := dq daX11_other_10_0 6 rfl
theorem dX11_other_20 : decode cX11_other 20 = .ok (.iload_n 1, 1) := dq daX11_other_10_0 7 rfl
theorem dX11_other_21 : decode cX11_other 21 = .ok (.iconst 1, 1) := dq daX11_other_10_0 8 rfl
theorem dX11_other_22 : decode cX11_other 22 = .ok (.invokevirtual 303, 3) := dq daX11_other_10_0 9 rfl
theorem dX11_other_25 : decode cX11_other 25 = .ok (.iload_n 2, 1) := dq daX11_other_10_0 10 rfl
theorem dX11_other_26 : decode cX11_other 26 = .ok (.if_icmp .ne 12, 3) := dq daX11_other_10_0 11 rfl
theorem dX11_other_38 : decode cX11_other 38 = .ok (.iconst (-1), 1) := dq daX11_other_10_0 12 rfl
theorem dX11_other_39 : decode cX11_other 39 = .ok (.ireturn, 1) := dq daX11_other_10_0 13 rfl
theorem dX11_other_29 : decode cX11_other 29 = .ok (.aload_n 0, 1) := dq daX11_other_10_0 14 rfl
theorem dX11_other_30 : decode cX11_other 30 = .ok (.iload_n 1, 1) := dq daX11_other_10_0 15 rfl
theorem dX11_other_31 : decode cX11_other 31 = .ok (.iconst 0, 1) := dq daX11_other_10_0 16 rfl
theorem dX11_other_32 : decode cX11_other 32 = .ok (.invokevirtual 303, 3) := dq daX11_other_10_0 17 rfl
theorem dX11_other_35 : decode cX11_other 35 = .ok (.goto 4, 3) := dq daX11_other_10_0 18 rfl
theorem dX11_other_10 : decode cX11_other 10 = .ok (.aload_n 0, 1) := dq daX11_other_10_0 19 rfl
theorem dX11_other_11 : decode cX11_other 11 = .ok (.iload_n 1, 1) := dq daX11_other_10_0 20 rfl
theorem dX11_other_12 : decode cX11_other 12 = .ok (.iconst 1, 1) := dq daX11_other_10_0 21 rfl
theorem dX11_other_13 : decode cX11_other 13 = .ok (.invokevirtual 303, 3) := dq daX11_other_10_0 22 rfl
theorem dX11_other_16 : decode cX11_other 16 = .ok (.goto 23, 3) := dq daX11_other_10_0 23 rfl
def dtX11_stands_10_0 : List (Nat × Jvm.ClassFile.Instr × Nat) := [(0, .aload_n 0, 1), (1, .iload_n 1, 1), (2, .invokevirtual 280, 3), (5, .ifCond .eq 18, 3), (23, .iconst 0, 1), (24, .ireturn, 1), (8, .aload_n 0, 1), (9, .iload_n 1, 1), (10, .iconst 5, 1), (11, .invokevirtual 283, 3), (14, .bipush 12, 2), (16, .if_icmp .ge 7, 3), (19, .iconst 1, 1), (20, .goto 4, 3)]
theorem daX11_stands_10_0 : dtX11_stands_10_0.all (dqd cX11_stands) = true := by decide +kernel
theorem dX11_stands_0 : decode cX11_stands 0 = .ok (.aload_n 0, 1) := dq daX11_stands_10_0 0 rfl
theorem dX11_stands_1 : decode cX11_stands 1 = .ok (.iload_n 1, 1) := dq daX11_stands_10_0 1 rfl
theorem dX11_stands_2 : decode cX11_stands 2 = .ok (.invokevirtual 280, 3) := dq daX11_stands_10_0 2 rfl
theorem dX11_stands_5 : decode cX11_stands 5 = .ok (.ifCond .eq 18, 3) := dq daX11_stands_10_0 3 rfl
theorem dX11_stands_23 : decode cX11_stands 23 = .ok (.iconst 0, 1) := dq daX11_stands_10_0 4 rfl
theorem dX11_stands_24 : decode cX11_stands 24 = .ok (.ireturn, 1) := dq daX11_stands_10_0 5 rfl
theorem dX11_stands_8 : decode cX11_stands 8 = .ok (.aload_n 0, 1) := dq daX11_stands_10_0 6 rfl
theorem dX11_stands_9 : decode cX11_stands 9 = .ok (.iload_n 1, 1) := dq daX11_stands_10_0 7 rfl
theorem dX11_stands_10 : decode cX11_stands 10 = .ok (.iconst 5, 1) := dq daX11_stands_10_0 8 rfl
theorem dX11_stands_11 : decode cX11_stands 11 = .ok (.invokevirtual 283, 3) := dq daX11_stands_10_0 9 rfl
theorem dX11_stands_14 : decode cX11_stands 14 = .ok (.bipush 12, 2) := dq daX11_stands_10_0 10 rfl
theorem dX11_stands_16 : decode cX11_stands 16 = .ok (.if_icmp .ge 7, 3) := dq daX11_stands_10_0 11 rfl
theorem dX11_stands_19 : decode cX11_stands 19 = .ok (.iconst 1, 1) := dq daX11_stands_10_0 12 rfl
theorem dX11_stands_20 : decode cX11_stands 20 = .ok (.goto 4, 3) := dq daX11_stands_10_0 13 rfl
