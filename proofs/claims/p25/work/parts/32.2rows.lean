theorem kX4_setHour_1 {a : Array Value} {s : State} (hts : ∀ w ∈ wsX4_setHour, w.before a s = true) : (.fieldLink RX4 11 "SnowMules$Scene" "words" "[I" : Cond).before a s = true := kw (A := ixX4_setHour) wt103 hts (by decide +kernel)
theorem kX4_setNode_1 {a : Array Value} {s : State} (hts : ∀ w ∈ wsX4_setNode, w.before a s = true) : (.fieldLink RX4 11 "SnowMules$Scene" "words" "[I" : Cond).before a s = true := kw (A := ixX4_setNode) wt103 hts (by decide +kernel)
theorem kX4_setNode_2 {a : Array Value} {s : State} (hts : ∀ w ∈ wsX4_setNode, w.before a s = true) : (.fieldLink RX4 21 "SnowMules$World" "nodes" "LSnowMules$Table;" : Cond).before a s = true := kw (A := ixX4_setNode) wt721 hts (by decide +kernel)
theorem kX4_setPass_1 {a : Array Value} {s : State} (hts : ∀ w ∈ wsX4_setPass, w.before a s = true) : (.fieldLink RX4 21 "SnowMules$World" "nodes" "LSnowMules$Table;" : Cond).before a s = true := kw (A := ixX4_setPass) wt721 hts (by decide +kernel)
theorem kX4_setPass_2 {a : Array Value} {s : State} (hts : ∀ w ∈ wsX4_setPass, w.before a s = true) : (.fieldLink RX4 34 "SnowMules$Scene" "heightBehind" "I" : Cond).before a s = true := kw (A := ixX4_setPass) wt722 hts (by decide +kernel)
theorem kX4_setPass_3 {a : Array Value} {s : State} (hts : ∀ w ∈ wsX4_setPass, w.before a s = true) : (.fieldLink RX4 38 "SnowMules$Scene" "heightAhead" "I" : Cond).before a s = true := kw (A := ixX4_setPass) wt723 hts (by decide +kernel)
theorem kX4_setPass_4 {a : Array Value} {s : State} (hts : ∀ w ∈ wsX4_setPass, w.before a s = true) : (.fieldLink RX4 41 "SnowMules$World" "passes" "LSnowMules$Table;" : Cond).before a s = true := kw (A := ixX4_setPass) wt724 hts (by decide +kernel)
theorem kX4_setPass_5 {a : Array Value} {s : State} (hts : ∀ w ∈ wsX4_setPass, w.before a s = true) : (.fieldLink RX4 44 "SnowMules$Scene" "hoursOfPass" "I" : Cond).before a s = true := kw (A := ixX4_setPass) wt725 hts (by decide +kernel)
theorem kX4_setPass_6 {a : Array Value} {s : State} (hts : ∀ w ∈ wsX4_setPass, w.before a s = true) : (.fieldLink RX4 11 "SnowMules$Scene" "words" "[I" : Cond).before a s = true := kw (A := ixX4_setPass) wt103 hts (by decide +kernel)
theorem kX4_setGone_1 {a : Array Value} {s : State} (hts : ∀ w ∈ wsX4_setGone, w.before a s = true) : (.fieldLink RX4 34 "SnowMules$Scene" "heightBehind" "I" : Cond).before a s = true := kw (A := ixX4_setGone) wt722 hts (by decide +kernel)
theorem kX4_setGone_2 {a : Array Value} {s : State} (hts : ∀ w ∈ wsX4_setGone, w.before a s = true) : (.fieldLink RX4 44 "SnowMules$Scene" "hoursOfPass" "I" : Cond).before a s = true := kw (A := ixX4_setGone) wt725 hts (by decide +kernel)
theorem kX4_setGone_3 {a : Array Value} {s : State} (hts : ∀ w ∈ wsX4_setGone, w.before a s = true) : (.fieldLink RX4 38 "SnowMules$Scene" "heightAhead" "I" : Cond).before a s = true := kw (A := ixX4_setGone) wt723 hts (by decide +kernel)
theorem kX4_setGone_4 {a : Array Value} {s : State} (hts : ∀ w ∈ wsX4_setGone, w.before a s = true) : (.fieldLink RX4 11 "SnowMules$Scene" "words" "[I" : Cond).before a s = true := kw (A := ixX4_setGone) wt103 hts (by decide +kernel)
theorem kX4_setLoad_1 {a : Array Value} {s : State} (hts : ∀ w ∈ wsX4_setLoad, w.before a s = true) : (.fieldLink RX4 11 "SnowMules$Scene" "words" "[I" : Cond).before a s = true := kw (A := ixX4_setLoad) wt103 hts (by decide +kernel)
theorem iX4_setHour_X4 : ∀ w ∈ wsX40, w ∈ wsX4_setHour := inW (A := ixX4_setHour) uwX4 (by decide +kernel)
theorem iX4_setNode_X4 : ∀ w ∈ wsX40, w ∈ wsX4_setNode := inW (A := ixX4_setNode) uwX4 (by decide +kernel)
theorem iX4_setNode_X9 : ∀ w ∈ wsX90, w ∈ wsX4_setNode := inW (A := ixX4_setNode) uwX9 (by decide +kernel)
theorem iX4_setPass_X9 : ∀ w ∈ wsX90, w ∈ wsX4_setPass := inW (A := ixX4_setPass) uwX9 (by decide +kernel)
theorem iX4_setPass_X4 : ∀ w ∈ wsX40, w ∈ wsX4_setPass := inW (A := ixX4_setPass) uwX4 (by decide +kernel)
theorem iX4_setGone_X4 : ∀ w ∈ wsX40, w ∈ wsX4_setGone := inW (A := ixX4_setGone) uwX4 (by decide +kernel)
theorem iX4_setLoad_X4 : ∀ w ∈ wsX40, w ∈ wsX4_setLoad := inW (A := ixX4_setLoad) uwX4 (by decide +kernel)
theorem hdX9_monthAt : yX9_monthAt.cls ≠ "java/lang/invoke/MethodHandle" ∧ yX9_monthAt.cls ≠ "java/lang/invoke/VarHandle" ∧ (parseMethodDescriptor yX9_monthAt.desc).map (fun d => d.parameters.length) = some 1 := ⟨hdc_2.1, hdc_2.2, hdd_3⟩
def dtX4_setHour_32_0 : List (Nat × Jvm.ClassFile.Instr × Nat) := [(0, .aload_n 0, 1), (1, .getfield 11, 3), (4, .iconst 0, 1), (5, .aload_n 1, 1), (6, .iload_n 2, 1), (7, .invokevirtual 15, 3), (10, .iastore, 1), (11, .aload_n 0, 1), (12, .getfield 11, 3), (15, .iconst 1, 1), (16, .iload_n 2, 1), (17, .bipush 24, 2), (19, .irem, 1), (20, .iastore, 1), (21, .aload_n 0, 1), (22, .getfield 11, 3), (25, .iconst 2, 1), (26, .iload_n 2, 1), (27, .bipush 24, 2), (29, .idiv, 1), (30, .iastore, 1), (31, .return_, 1)]
theorem daX4_setHour_32_0 : dtX4_setHour_32_0.all (dqd cX4_setHour) = true := by decide +kernel
theorem dX4_setHour_0 : decode cX4_setHour 0 = .ok (.aload_n 0, 1) := dq daX4_setHour_32_0 0 rfl
theorem dX4_setHour_1 : decode cX4_setHour 1 = .ok (.getfield 11, 3) := dq daX4_setHour_32_0 1 rfl
theorem dX4_setHour_4 : decode cX4_setHour 4 = .ok (.iconst 0, 1) := dq daX4_setHour_32_0 2 rfl
theorem dX4_setHour_5 : decode cX4_setHour 5 = .ok (.aload_n 1, 1) := dq daX4_setHour_32_0 3 rfl
theorem dX4_setHour_6 : decode cX4_setHour 6 = .ok (.iload_n 2, 1) := dq daX4_setHour_32_0 4 rfl
theorem dX4_setHour_7 : decode cX4_setHour 7 = .ok (.invokevirtual 15, 3) := dq daX4_setHour_32_0 5 rfl
theorem dX4_setHour_10 : decode cX4_setHour 10 = .ok (.iastore, 1) := dq daX4_setHour_32_0 6 rfl
theorem dX4_setHour_11 : decode cX4_setHour 11 = .ok (.aload_n 0, 1) := dq daX4_setHour_32_0 7 rfl
theorem dX4_setHour_12 : decode cX4_setHour 12 = .ok (.getfield 11, 3) := dq daX4_setHour_32_0 8 rfl
theorem dX4_setHour_15 : decode cX4_setHour 15 = .ok (.iconst 1, 1) := dq daX4_setHour_32_0 9 rfl
theorem dX4_setHour_16 : decode cX4_setHour 16 = .ok (.iload_n 2, 1) := dq daX4_setHour_32_0 10 rfl
theorem dX4_setHour_17 : decode cX4_setHour 17 = .ok (.bipush 24, 2) := dq daX4_setHour_32_0 11 rfl
theorem dX4_setHour_19 : decode cX4_setHour 19 = .ok (.irem, 1) := dq daX4_setHour_32_0 12 rfl
theorem dX4_setHour_20 : decode cX4_setHour 20 = .ok (.iastore, 1) := dq daX4_setHour_32_0 13 rfl
theorem dX4_setHour_21 : decode cX4_setHour 21 = .ok (.aload_n 0, 1) := dq daX4_setHour_32_0 14 rfl
theorem dX4_setHour_22 : decode cX4_setHour 22 = .ok (.getfield 11, 3) := dq daX4_setHour_32_0 15 rfl
theorem dX4_setHour_25 : decode cX4_setHour 25 = .ok (.iconst 2, 1) := dq daX4_setHour_32_0 16 rfl
theorem dX4_setHour_26 : decode cX4_setHour 26 = .ok (.iload_n 2, 1) := dq daX4_setHour_32_0 17 rfl
theorem dX4_setHour_27 : decode cX4_setHour 27 = .ok (.bipush 24, 2) := dq daX4_setHour_32_0 18 rfl
theorem dX4_setHour_29 : decode cX4_setHour 29 = .ok (.idiv, 1) := dq daX4_setHour_32_0 19 rfl
theorem dX4_setHour_30 : decode cX4_setHour 30 = .ok (.iastore, 1) := dq daX4_setHour_32_0 20 rfl
theorem dX4_setHour_31 : decode cX4_setHour 31 = .ok (.return_, 1) := dq daX4_setHour_32_0 21 rfl
def dtX4_setNode_32_0 : List (Nat × Jvm.ClassFile.Instr × Nat) := [(0, .aload_n 0, 1), (1, .getfield 11, 3), (4, .iconst 3, 1), (5, .aload_n 1, 1), (6, .getfield 21, 3), (9, .iload_n 2, 1), (10, .iconst 0, 1), (11, .invokevirtual 25, 3), (14, .iastore, 1), (15, .aload_n 0, 1), (16, .getfield 11, 3), (19, .iconst 4, 1), (20, .iconst 0, 1), (21, .iastore, 1), (22, .aload_n 0, 1), (23, .getfield 11, 3), (26, .iconst 5, 1), (27, .aload_n 1, 1), (28, .getfield 21, 3), (31, .iload_n 2, 1), (32, .iconst 2, 1), (33, .invokevirtual 25, 3), (36, .iastore, 1), (37, .aload_n 0, 1), (38, .getfield 11, 3), (41, .bipush 6, 2), (43, .iload_n 2, 1), (44, .iastore, 1), (45, .aload_n 0, 1), (46, .getfield 11, 3), (49, .bipush 10, 2), (51, .iconst 0, 1)]
theorem daX4_setNode_32_0 : dtX4_setNode_32_0.all (dqd cX4_setNode) = true := by decide +kernel
theorem dX4_setNode_0 : decode cX4_setNode 0 = .ok (.aload_n 0, 1) := dq daX4_setNode_32_0 0 rfl
theorem dX4_setNode_1 : decode cX4_setNode 1 = .ok (.getfield 11, 3) := dq daX4_setNode_32_0 1 rfl
theorem dX4_setNode_4 : decode cX4_setNode 4 = .ok (.iconst 3, 1) := dq daX4_setNode_32_0 2 rfl
theorem dX4_setNode_5 : decode cX4_setNode 5 = .ok (.aload_n 1, 1) := dq daX4_setNode_32_0 3 rfl
theorem dX4_setNode_6 : decode cX4_setNode 6 = .ok (.getfield 21, 3) := dq daX4_setNode_32_0 4 rfl
theorem dX4_setNode_9 : decode cX4_setNode 9 = .ok (.iload_n 2, 1) := dq daX4_setNode_32_0 5 rfl
theorem dX4_setNode_10 : decode cX4_setNode 10 = .ok (.iconst 0, 1) := dq daX4_setNode_32_0 6 rfl
theorem dX4_setNode_11 : decode cX4_setNode 11 = .ok (.invokevirtual 25, 3) := dq daX4_setNode_32_0 7 rfl
theorem dX4_setNode_14 : decode cX4_setNode 14 = .ok (.iastore, 1) := dq daX4_setNode_32_0 8 rfl
theorem dX4_setNode_15 : decode cX4_setNode 15 = .ok (.aload_n 0, 1) := dq daX4_setNode_32_0 9 rfl
theorem dX4_setNode_16 : decode cX4_setNode 16 = .ok (.getfield 11, 3) := dq daX4_setNode_32_0 10 rfl
theorem dX4_setNode_19 : decode cX4_setNode 19 = .ok (.iconst 4, 1) := dq daX4_setNode_32_0 11 rfl
theorem dX4_setNode_20 : decode cX4_setNode 20 = .ok (.iconst 0, 1) := dq daX4_setNode_32_0 12 rfl
theorem dX4_setNode_21 : decode cX4_setNode 21 = .ok (.iastore, 1) := dq daX4_setNode_32_0 13 rfl
theorem dX4_setNode_22 : decode cX4_setNode 22 = .ok (.aload_n 0, 1) := dq daX4_setNode_32_0 14 rfl
theorem dX4_setNode_23 : decode cX4_setNode 23 = .ok (.getfield 11, 3) := dq daX4_setNode_32_0 15 rfl
theorem dX4_setNode_26 : decode cX4_setNode 26 = .ok (.iconst 5, 1) := dq daX4_setNode_32_0 16 rfl
theorem dX4_setNode_27 : decode cX4_setNode 27 = .ok (.aload_n 1, 1) := dq daX4_setNode_32_0 17 rfl
theorem dX4_setNode_28 : decode cX4_setNode 28 = .ok (.getfield 21, 3) := dq daX4_setNode_32_0 18 rfl
theorem dX4_setNode_31 : decode cX4_setNode 31 = .ok (.iload_n 2, 1) := dq daX4_setNode_32_0 19 rfl
theorem dX4_setNode_32 : decode cX4_setNode 32 = .ok (.iconst 2, 1) := dq daX4_setNode_32_0 20 rfl
theorem dX4_setNode_33 : decode cX4_setNode 33 = .ok (.invokevirtual 25, 3) := dq daX4_setNode_32_0 21 rfl
theorem dX4_setNode_36 : decode cX4_setNode 36 = .ok (.iastore, 1) := dq daX4_setNode_32_0 22 rfl
theorem dX4_setNode_37 : decode cX4_setNode 37 = .ok (.aload_n 0, 1) := dq daX4_setNode_32_0 23 rfl
theorem dX4_setNode_38 : decode cX4_setNode 38 = .ok (.getfield 11, 3) := dq daX4_setNode_32_0 24 rfl
theorem dX4_setNode_41 : decode cX4_setNode 41 = .ok (.bipush 6, 2) := dq daX4_setNode_32_0 25 rfl
theorem dX4_setNode_43 : decode cX4_setNode 43 = .ok (.iload_n 2, 1) := dq daX4_setNode_32_0 26 rfl
theorem dX4_setNode_44 : decode cX4_setNode 44 = .ok (.iastore, 1) := dq daX4_setNode_32_0 27 rfl
theorem dX4_setNode_45 : decode cX4_setNode 45 = .ok (.aload_n 0, 1) := dq daX4_setNode_32_0 28 rfl
theorem dX4_setNode_46 : decode cX4_setNode 46 = .ok (.getfield 11, 3) := dq daX4_setNode_32_0 29 rfl
theorem dX4_setNode_49 : decode cX4_setNode 49 = .ok (.bipush 10, 2) := dq daX4_setNode_32_0 30 rfl
theorem dX4_setNode_51 : decode cX4_setNode 51 = .ok (.iconst 0, 1) := dq daX4_setNode_32_0 31 rfl
def dtX4_setNode_32_1 : List (Nat × Jvm.ClassFile.Instr × Nat) := [(52, .iastore, 1), (53, .return_, 1)]
theorem daX4_setNode_32_1 : dtX4_setNode_32_1.all (dqd cX4_setNode) = true := by decide +kernel
theorem dX4_setNode_52 : decode cX4_setNode 52 = .ok (.iastore, 1) := dq daX4_setNode_32_1 0 rfl
theorem dX4_setNode_53 : decode cX4_setNode 53 = .ok (.return_, 1) := dq daX4_setNode_32_1 1 rfl
def dtX4_setPass_32_0 : List (Nat × Jvm.ClassFile.Instr × Nat) := [(0, .aload_n 1, 1), (1, .iload_n 2, 1), (2, .iload_n 3, 1), (3, .invokevirtual 31, 3), (6, .istore 4, 2), (8, .aload_n 0, 1), (9, .aload_n 1, 1), (10, .getfield 21, 3), (13, .iload 4, 2), (15, .iconst 0, 1), (16, .invokevirtual 25, 3), (19, .putfield 34, 3), (22, .aload_n 0, 1), (23, .aload_n 1, 1), (24, .getfield 21, 3), (27, .iload_n 3, 1), (28, .iconst 0, 1), (29, .invokevirtual 25, 3), (32, .putfield 38, 3), (35, .aload_n 0, 1), (36, .aload_n 1, 1), (37, .getfield 41, 3), (40, .iload_n 2, 1), (41, .iconst 2, 1), (42, .invokevirtual 25, 3), (45, .putfield 44, 3), (48, .aload_n 0, 1), (49, .getfield 11, 3), (52, .iconst 4, 1), (53, .aload_n 1, 1), (54, .getfield 41, 3), (57, .iload_n 2, 1)]
theorem daX4_setPass_32_0 : dtX4_setPass_32_0.all (dqd cX4_setPass) = true := by decide +kernel
theorem dX4_setPass_0 : decode cX4_setPass 0 = .ok (.aload_n 1, 1) := dq daX4_setPass_32_0 0 rfl
theorem dX4_setPass_1 : decode cX4_setPass 1 = .ok (.iload_n 2, 1) := dq daX4_setPass_32_0 1 rfl
theorem dX4_setPass_2 : decode cX4_setPass 2 = .ok (.iload_n 3, 1) := dq daX4_setPass_32_0 2 rfl
theorem dX4_setPass_3 : decode cX4_setPass 3 = .ok (.invokevirtual 31, 3) := dq daX4_setPass_32_0 3 rfl
theorem dX4_setPass_6 : decode cX4_setPass 6 = .ok (.istore 4, 2) := dq daX4_setPass_32_0 4 rfl
theorem dX4_setPass_8 : decode cX4_setPass 8 = .ok (.aload_n 0, 1) := dq daX4_setPass_32_0 5 rfl
theorem dX4_setPass_9 : decode cX4_setPass 9 = .ok (.aload_n 1, 1) := dq daX4_setPass_32_0 6 rfl
theorem dX4_setPass_10 : decode cX4_setPass 10 = .ok (.getfield 21, 3) := dq daX4_setPass_32_0 7 rfl
theorem dX4_setPass_13 : decode cX4_setPass 13 = .ok (.iload 4, 2) := dq daX4_setPass_32_0 8 rfl
theorem dX4_setPass_15 : decode cX4_setPass 15 = .ok (.iconst 0, 1) := dq daX4_setPass_32_0 9 rfl
theorem dX4_setPass_16 : decode cX4_setPass 16 = .ok (.invokevirtual 25, 3) := dq daX4_setPass_32_0 10 rfl
theorem dX4_setPass_19 : decode cX4_setPass 19 = .ok (.putfield 34, 3) := dq daX4_setPass_32_0 11 rfl
theorem dX4_setPass_22 : decode cX4_setPass 22 = .ok (.aload_n 0, 1) := dq daX4_setPass_32_0 12 rfl
theorem dX4_setPass_23 : decode cX4_setPass 23 = .ok (.aload_n 1, 1) := dq daX4_setPass_32_0 13 rfl
theorem dX4_setPass_24 : decode cX4_setPass 24 = .ok (.getfield 21, 3) := dq daX4_setPass_32_0 14 rfl
theorem dX4_setPass_27 : decode cX4_setPass 27 = .ok (.iload_n 3, 1) := dq daX4_setPass_32_0 15 rfl
theorem dX4_setPass_28 : decode cX4_setPass 28 = .ok (.iconst 0, 1) := dq daX4_setPass_32_0 16 rfl
theorem dX4_setPass_29 : decode cX4_setPass 29 = .ok (.invokevirtual 25, 3) := dq daX4_setPass_32_0 17 rfl
theorem dX4_setPass_32 : decode cX4_setPass 32 = .ok (.putfield 38, 3) := dq daX4_setPass_32_0 18 rfl
theorem dX4_setPass_35 : decode cX4_setPass 35 = .ok (.aload_n 0, 1) := dq daX4_setPass_32_0 19 rfl
theorem dX4_setPass_36 : decode cX4_setPass 36 = .ok (.aload_n 1, 1) := dq daX4_setPass_32_0 20 rfl
theorem dX4_setPass_37 : decode cX4_setPass 37 = .ok (.getfield 41, 3) := dq daX4_setPass_32_0 21 rfl
theorem dX4_setPass_40 : decode cX4_setPass 40 = .ok (.iload_n 2, 1) := dq daX4_setPass_32_0 22 rfl
theorem dX4_setPass_41 : decode cX4_setPass 41 = .ok (.iconst 2, 1) := dq daX4_setPass_32_0 23 rfl
theorem dX4_setPass_42 : decode cX4_setPass 42 = .ok (.invokevirtual 25, 3) := dq daX4_setPass_32_0 24 rfl
theorem dX4_setPass_45 : decode cX4_setPass 45 = .ok (.putfield 44, 3) := dq daX4_setPass_32_0 25 rfl
theorem dX4_setPass_48 : decode cX4_setPass 48 = .ok (.aload_n 0, 1) := dq daX4_setPass_32_0 26 rfl
theorem dX4_setPass_49 : decode cX4_setPass 49 = .ok (.getfield 11, 3) := dq daX4_setPass_32_0 27 rfl
theorem dX4_setPass_52 : decode cX4_setPass 52 = .ok (.iconst 4, 1) := dq daX4_setPass_32_0 28 rfl
theorem dX4_setPass_53 : decode cX4_setPass 53 = .ok (.aload_n 1, 1) := dq daX4_setPass_32_0 29 rfl
theorem dX4_setPass_54 : decode cX4_setPass 54 = .ok (.getfield 41, 3) := dq daX4_setPass_32_0 30 rfl
theorem dX4_setPass_57 : decode cX4_setPass 57 = .ok (.iload_n 2, 1) := dq daX4_setPass_32_0 31 rfl
def dtX4_setPass_32_1 : List (Nat × Jvm.ClassFile.Instr × Nat) := [(58, .iconst 3, 1), (59, .invokevirtual 25, 3), (62, .iastore, 1), (63, .aload_n 0, 1), (64, .getfield 11, 3), (67, .iconst 5, 1), (68, .iconst 0, 1), (69, .iastore, 1), (70, .aload_n 0, 1), (71, .getfield 11, 3), (74, .bipush 6, 2), (76, .bipush 12, 2), (78, .iastore, 1), (79, .return_, 1)]
theorem daX4_setPass_32_1 : dtX4_setPass_32_1.all (dqd cX4_setPass) = true := by decide +kernel
theorem dX4_setPass_58 : decode cX4_setPass 58 = .ok (.iconst 3, 1) := dq daX4_setPass_32_1 0 rfl
theorem dX4_setPass_59 : decode cX4_setPass 59 = .ok (.invokevirtual 25, 3) := dq daX4_setPass_32_1 1 rfl
theorem dX4_setPass_62 : decode cX4_setPass 62 = .ok (.iastore, 1) := dq daX4_setPass_32_1 2 rfl
theorem dX4_setPass_63 : decode cX4_setPass 63 = .ok (.aload_n 0, 1) := dq daX4_setPass_32_1 3 rfl
theorem dX4_setPass_64 : decode cX4_setPass 64 = .ok (.getfield 11, 3) := dq daX4_setPass_32_1 4 rfl
theorem dX4_setPass_67 : decode cX4_setPass 67 = .ok (.iconst 5, 1) := dq daX4_setPass_32_1 5 rfl
theorem dX4_setPass_68 : decode cX4_setPass 68 = .ok (.iconst 0, 1) := dq daX4_setPass_32_1 6 rfl
theorem dX4_setPass_69 : decode cX4_setPass 69 = .ok (.iastore, 1) := dq daX4_setPass_32_1 7 rfl
theorem dX4_setPass_70 : decode cX4_setPass 70 = .ok (.aload_n 0, 1) := dq daX4_setPass_32_1 8 rfl
theorem dX4_setPass_71 : decode cX4_setPass 71 = .ok (.getfield 11, 3) := dq daX4_setPass_32_1 9 rfl
theorem dX4_setPass_74 : decode cX4_setPass 74 = .ok (.bipush 6, 2) := dq daX4_setPass_32_1 10 rfl
theorem dX4_setPass_76 : decode cX4_setPass 76 = .ok (.bipush 12, 2) := dq daX4_setPass_32_1 11 rfl
theorem dX4_setPass_78 : decode cX4_setPass 78 = .ok (.iastore, 1) := dq daX4_setPass_32_1 12 rfl
theorem dX4_setPass_79 : decode cX4_setPass 79 = .ok (.return_, 1) := dq daX4_setPass_32_1 13 rfl
def dtX4_setGone_32_0 : List (Nat × Jvm.ClassFile.Instr × Nat) := [(0, .aload_n 0, 1), (1, .getfield 34, 3), (4, .aload_n 0, 1), (5, .getfield 44, 3), (8, .iload_n 1, 1), (9, .isub, 1), (10, .imul, 1), (11, .aload_n 0, 1), (12, .getfield 38, 3), (15, .iload_n 1, 1), (16, .imul, 1), (17, .iadd, 1), (18, .istore_n 2, 1), (19, .aload_n 0, 1), (20, .getfield 11, 3), (23, .iconst 3, 1), (24, .aload_n 0, 1), (25, .getfield 44, 3), (28, .ifCond .le 12, 3), (40, .iconst 0, 1), (41, .iastore, 1), (42, .aload_n 0, 1), (43, .getfield 11, 3), (46, .bipush 10, 2), (48, .iload_n 1, 1), (49, .iastore, 1), (31, .iload_n 2, 1), (32, .aload_n 0, 1), (33, .getfield 44, 3), (36, .idiv, 1), (37, .goto 4, 3), (50, .return_, 1)]
theorem daX4_setGone_32_0 : dtX4_setGone_32_0.all (dqd cX4_setGone) = true := by decide +kernel
theorem dX4_setGone_0 : decode cX4_setGone 0 = .ok (.aload_n 0, 1) := dq daX4_setGone_32_0 0 rfl
theorem dX4_setGone_1 : decode cX4_setGone 1 = .ok (.getfield 34, 3) := dq daX4_setGone_32_0 1 rfl
theorem dX4_setGone_4 : decode cX4_setGone 4 = .ok (.aload_n 0, 1) := dq daX4_setGone_32_0 2 rfl
theorem dX4_setGone_5 : decode cX4_setGone 5 = .ok (.getfield 44, 3) := dq daX4_setGone_32_0 3 rfl
theorem dX4_setGone_8 : decode cX4_setGone 8 = .ok (.iload_n 1, 1) := dq daX4_setGone_32_0 4 rfl
theorem dX4_setGone_9 : decode cX4_setGone 9 = .ok (.isub, 1) := dq daX4_setGone_32_0 5 rfl
theorem dX4_setGone_10 : decode cX4_setGone 10 = .ok (.imul, 1) := dq daX4_setGone_32_0 6 rfl
theorem dX4_setGone_11 : decode cX4_setGone 11 = .ok (.aload_n 0, 1) := dq daX4_setGone_32_0 7 rfl
theorem dX4_setGone_12 : decode cX4_setGone 12 = .ok (.getfield 38, 3) := dq daX4_setGone_32_0 8 rfl
theorem dX4_setGone_15 : decode cX4_setGone 15 = .ok (.iload_n 1, 1) := dq daX4_setGone_32_0 9 rfl
theorem dX4_setGone_16 : decode cX4_setGone 16 = .ok (.imul, 1) := dq daX4_setGone_32_0 10 rfl
theorem dX4_setGone_17 : decode cX4_setGone 17 = .ok (.iadd, 1) := dq daX4_setGone_32_0 11 rfl
theorem dX4_setGone_18 : decode cX4_setGone 18 = .ok (.istore_n 2, 1) := dq daX4_setGone_32_0 12 rfl
theorem dX4_setGone_19 : decode cX4_setGone 19 = .ok (.aload_n 0, 1) := dq daX4_setGone_32_0 13 rfl
theorem dX4_setGone_20 : decode cX4_setGone 20 = .ok (.getfield 11, 3) := dq daX4_setGone_32_0 14 rfl
theorem dX4_setGone_23 : decode cX4_setGone 23 = .ok (.iconst 3, 1) := dq daX4_setGone_32_0 15 rfl
theorem dX4_setGone_24 : decode cX4_setGone 24 = .ok (.aload_n 0, 1) := dq daX4_setGone_32_0 16 rfl
theorem dX4_setGone_25 : decode cX4_setGone 25 = .ok (.getfield 44, 3) := dq daX4_setGone_32_0 17 rfl
theorem dX4_setGone_28 : decode cX4_setGone 28 = .ok (.ifCond .le 12, 3) := dq daX4_setGone_32_0 18 rfl
theorem dX4_setGone_40 : decode cX4_setGone 40 = .ok (.iconst 0, 1) := dq daX4_setGone_32_0 19 rfl
theorem dX4_setGone_41 : decode cX4_setGone 41 = .ok (.iastore, 1) := dq daX4_setGone_32_0 20 rfl
theorem dX4_setGone_42 : decode cX4_setGone 42 = .ok (.aload_n 0, 1) := dq daX4_setGone_32_0 21 rfl
theorem dX4_setGone_43 : decode cX4_setGone 43 = .ok (.getfield 11, 3) := dq daX4_setGone_32_0 22 rfl
theorem dX4_setGone_46 : decode cX4_setGone 46 = .ok (.bipush 10, 2) := dq daX4_setGone_32_0 23 rfl
theorem dX4_setGone_48 : decode cX4_setGone 48 = .ok (.iload_n 1, 1) := dq daX4_setGone_32_0 24 rfl
theorem dX4_setGone_49 : decode cX4_setGone 49 = .ok (.iastore, 1) := dq daX4_setGone_32_0 25 rfl
theorem dX4_setGone_31 : decode cX4_setGone 31 = .ok (.iload_n 2, 1) := dq daX4_setGone_32_0 26 rfl
theorem dX4_setGone_32 : decode cX4_setGone 32 = .ok (.aload_n 0, 1) := dq daX4_setGone_32_0 27 rfl
theorem dX4_setGone_33 : decode cX4_setGone 33 = .ok (.getfield 44, 3) := dq daX4_setGone_32_0 28 rfl
theorem dX4_setGone_36 : decode cX4_setGone 36 = .ok (.idiv, 1) := dq daX4_setGone_32_0 29 rfl
theorem dX4_setGone_37 : decode cX4_setGone 37 = .ok (.goto 4, 3) := dq daX4_setGone_32_0 30 rfl
theorem dX4_setGone_50 : decode cX4_setGone 50 = .ok (.return_, 1) := dq daX4_setGone_32_0 31 rfl
def dtX4_setLoad_32_0 : List (Nat × Jvm.ClassFile.Instr × Nat) := [(0, .aload_n 0, 1), (1, .getfield 11, 3), (4, .bipush 7, 2), (6, .iload_n 1, 1), (7, .iastore, 1), (8, .aload_n 0, 1), (9, .getfield 11, 3), (12, .bipush 8, 2), (14, .iload_n 2, 1), (15, .iastore, 1), (16, .aload_n 0, 1), (17, .getfield 11, 3), (20, .bipush 9, 2), (22, .iload_n 3, 1), (23, .iastore, 1), (24, .return_, 1)]
theorem daX4_setLoad_32_0 : dtX4_setLoad_32_0.all (dqd cX4_setLoad) = true := by decide +kernel
theorem dX4_setLoad_0 : decode cX4_setLoad 0 = .ok (.aload_n 0, 1) := dq daX4_setLoad_32_0 0 rfl
theorem dX4_setLoad_1 : decode cX4_setLoad 1 = .ok (.getfield 11, 3) := dq daX4_setLoad_32_0 1 rfl
theorem dX4_setLoad_4 : decode cX4_setLoad 4 = .ok (.bipush 7, 2) := dq daX4_setLoad_32_0 2 rfl
theorem dX4_setLoad_6 : decode cX4_setLoad 6 = .ok (.iload_n 1, 1) := dq daX4_setLoad_32_0 3 rfl
theorem dX4_setLoad_7 : decode cX4_setLoad 7 = .ok (.iastore, 1) := dq daX4_setLoad_32_0 4 rfl
theorem dX4_setLoad_8 : decode cX4_setLoad 8 = .ok (.aload_n 0, 1) := dq daX4_setLoad_32_0 5 rfl
theorem dX4_setLoad_9 : decode cX4_setLoad 9 = .ok (.getfield 11, 3) := dq daX4_setLoad_32_0 6 rfl
theorem dX4_setLoad_12 : decode cX4_setLoad 12 = .ok (.bipush 8, 2) := dq daX4_setLoad_32_0 7 rfl
theorem dX4_setLoad_14 : decode cX4_setLoad 14 = .ok (.iload_n 2, 1) := dq daX4_setLoad_32_0 8 rfl
theorem dX4_setLoad_15 : decode cX4_setLoad 15 = .ok (.iastore, 1) := dq daX4_setLoad_32_0 9 rfl
theorem dX4_setLoad_16 : decode cX4_setLoad 16 = .ok (.aload_n 0, 1) := dq daX4_setLoad_32_0 10 rfl
theorem dX4_setLoad_17 : decode cX4_setLoad 17 = .ok (.getfield 11, 3) := dq daX4_setLoad_32_0 11 rfl
theorem dX4_setLoad_20 : decode cX4_setLoad 20 = .ok (.bipush 9, 2) := dq daX4_setLoad_32_0 12 rfl
theorem dX4_setLoad_22 : decode cX4_setLoad 22 = .ok (.iload_n 3, 1) := dq daX4_setLoad_32_0 13 rfl
theorem dX4_setLoad_23 : decode cX4_setLoad 23 = .ok (.iastore, 1) := dq daX4_setLoad_32_0 14 rfl
theorem dX4_setLoad_24 : decode cX4_setLoad 24 = .ok (.return_, 1) := dq daX4_setLoad_32_0 15 rfl
