theorem kX8_fewestAt_1 {a : Array Value} {s : State} (hts : ∀ w ∈ wsX8_fewestAt, w.before a s = true) : (.fieldLink RX8 15 "SnowMules$Waits" "fewest" "[I" : Cond).before a s = true := kw (A := ixX8_fewestAt) wt127 hts (by decide +kernel)
theorem kX8_mostAt_1 {a : Array Value} {s : State} (hts : ∀ w ∈ wsX8_mostAt, w.before a s = true) : (.fieldLink RX8 18 "SnowMules$Waits" "most" "[I" : Cond).before a s = true := kw (A := ixX8_mostAt) wt128 hts (by decide +kernel)
theorem kX8_note_1 {a : Array Value} {s : State} (hts : ∀ w ∈ wsX8_note, w.before a s = true) : (.fieldLink RX8 29 "SnowMules$Waits" "found" "I" : Cond).before a s = true := kw (A := ixX8_note) wt1144 hts (by decide +kernel)
theorem kX8_note_2 {a : Array Value} {s : State} (hts : ∀ w ∈ wsX8_note, w.before a s = true) : (.fieldLink RX8 15 "SnowMules$Waits" "fewest" "[I" : Cond).before a s = true := kw (A := ixX8_note) wt127 hts (by decide +kernel)
theorem kX8_note_3 {a : Array Value} {s : State} (hts : ∀ w ∈ wsX8_note, w.before a s = true) : (.fieldLink RX8 9 "SnowMules$Waits" "waited" "[I" : Cond).before a s = true := kw (A := ixX8_note) wt126 hts (by decide +kernel)
theorem kX8_note_4 {a : Array Value} {s : State} (hts : ∀ w ∈ wsX8_note, w.before a s = true) : (.methodLink RX8 84 Lib.Math.min.name : Cond).before a s = true := kw (A := ixX8_note) wt1161 hts (by decide +kernel)
theorem kX8_note_5 {a : Array Value} {s : State} (hts : ∀ w ∈ wsX8_note, w.before a s = true) : (.static Lib.Math.min.name : Cond).before a s = true := kw (A := ixX8_note) wt287 hts (by decide +kernel)
theorem kX8_note_6 {a : Array Value} {s : State} (hts : ∀ w ∈ wsX8_note, w.before a s = true) : (.initialized "java/lang/Math" : Cond).before a s = true := kw (A := ixX8_note) wt66 hts (by decide +kernel)
theorem kX8_note_7 {a : Array Value} {s : State} (hts : ∀ w ∈ wsX8_note, w.before a s = true) : (.code Lib.Math.min.name Lib.Math.min.code 2 (some .int) : Cond).before a s = true := kw (A := ixX8_note) wt288 hts (by decide +kernel)
theorem kX8_note_8 {a : Array Value} {s : State} (hts : ∀ w ∈ wsX8_note, w.before a s = true) : (.fieldLink RX8 18 "SnowMules$Waits" "most" "[I" : Cond).before a s = true := kw (A := ixX8_note) wt128 hts (by decide +kernel)
theorem kX8_note_9 {a : Array Value} {s : State} (hts : ∀ w ∈ wsX8_note, w.before a s = true) : (.methodLink RX8 36 Lib.Math.max.name : Cond).before a s = true := kw (A := ixX8_note) wt1146 hts (by decide +kernel)
theorem kX8_note_10 {a : Array Value} {s : State} (hts : ∀ w ∈ wsX8_note, w.before a s = true) : (.static Lib.Math.max.name : Cond).before a s = true := kw (A := ixX8_note) wt65 hts (by decide +kernel)
theorem kX8_note_11 {a : Array Value} {s : State} (hts : ∀ w ∈ wsX8_note, w.before a s = true) : (.code Lib.Math.max.name Lib.Math.max.code 2 (some .int) : Cond).before a s = true := kw (A := ixX8_note) wt67 hts (by decide +kernel)
theorem kX8_spread_1 {a : Array Value} {s : State} (hts : ∀ w ∈ wsX8_spread, w.before a s = true) : (.fieldLink RX8 21 "SnowMules$Waits" "world" "LSnowMules$World;" : Cond).before a s = true := kw (A := ixX8_spread) wt129 hts (by decide +kernel)
theorem kX8_spread_2 {a : Array Value} {s : State} (hts : ∀ w ∈ wsX8_spread, w.before a s = true) : (.fieldLink RX8 56 "SnowMules$World" "way" "LSnowMules$Table;" : Cond).before a s = true := kw (A := ixX8_spread) wt1153 hts (by decide +kernel)
theorem kX8_spread_3 {a : Array Value} {s : State} (hts : ∀ w ∈ wsX8_spread, w.before a s = true) : (.fieldLink RX8 60 "SnowMules$Table" "size" "I" : Cond).before a s = true := kw (A := ixX8_spread) wt1154 hts (by decide +kernel)
theorem kX8_spread_4 {a : Array Value} {s : State} (hts : ∀ w ∈ wsX8_spread, w.before a s = true) : (.fieldLink RX8 25 "SnowMules$Waits" "trip" "LSnowMules$Trip;" : Cond).before a s = true := kw (A := ixX8_spread) wt130 hts (by decide +kernel)
theorem kX8_spread_5 {a : Array Value} {s : State} (hts : ∀ w ∈ wsX8_spread, w.before a s = true) : (.fieldLink RX8 65 "SnowMules$Trip" "drops" "I" : Cond).before a s = true := kw (A := ixX8_spread) wt1155 hts (by decide +kernel)
theorem kX8_spread_6 {a : Array Value} {s : State} (hts : ∀ w ∈ wsX8_spread, w.before a s = true) : (.fieldLink RX8 33 "SnowMules$Waits" "due" "I" : Cond).before a s = true := kw (A := ixX8_spread) wt1145 hts (by decide +kernel)
theorem kX8_spread_7 {a : Array Value} {s : State} (hts : ∀ w ∈ wsX8_spread, w.before a s = true) : (.fieldLink RX8 75 "SnowMules$Trip" "hour" "I" : Cond).before a s = true := kw (A := ixX8_spread) wt1156 hts (by decide +kernel)
theorem kX8_spread_8 {a : Array Value} {s : State} (hts : ∀ w ∈ wsX8_spread, w.before a s = true) : (.fieldLink RX8 9 "SnowMules$Waits" "waited" "[I" : Cond).before a s = true := kw (A := ixX8_spread) wt126 hts (by decide +kernel)
theorem kX8_find_1 {a : Array Value} {s : State} (hts : ∀ w ∈ wsX8_find, w.before a s = true) : (.fieldLink RX8 29 "SnowMules$Waits" "found" "I" : Cond).before a s = true := kw (A := ixX8_find) wt1144 hts (by decide +kernel)
theorem kX8_find_2 {a : Array Value} {s : State} (hts : ∀ w ∈ wsX8_find, w.before a s = true) : (.fieldLink RX8 33 "SnowMules$Waits" "due" "I" : Cond).before a s = true := kw (A := ixX8_find) wt1145 hts (by decide +kernel)
theorem kX8_find_3 {a : Array Value} {s : State} (hts : ∀ w ∈ wsX8_find, w.before a s = true) : (.fieldLink RX8 25 "SnowMules$Waits" "trip" "LSnowMules$Trip;" : Cond).before a s = true := kw (A := ixX8_find) wt130 hts (by decide +kernel)
theorem kX8_find_4 {a : Array Value} {s : State} (hts : ∀ w ∈ wsX8_find, w.before a s = true) : (.methodLink RX8 36 Lib.Math.max.name : Cond).before a s = true := kw (A := ixX8_find) wt1146 hts (by decide +kernel)
theorem kX8_find_5 {a : Array Value} {s : State} (hts : ∀ w ∈ wsX8_find, w.before a s = true) : (.static Lib.Math.max.name : Cond).before a s = true := kw (A := ixX8_find) wt65 hts (by decide +kernel)
theorem kX8_find_6 {a : Array Value} {s : State} (hts : ∀ w ∈ wsX8_find, w.before a s = true) : (.initialized "java/lang/Math" : Cond).before a s = true := kw (A := ixX8_find) wt66 hts (by decide +kernel)
theorem kX8_find_7 {a : Array Value} {s : State} (hts : ∀ w ∈ wsX8_find, w.before a s = true) : (.code Lib.Math.max.name Lib.Math.max.code 2 (some .int) : Cond).before a s = true := kw (A := ixX8_find) wt67 hts (by decide +kernel)
theorem kX8_find_8 {a : Array Value} {s : State} (hts : ∀ w ∈ wsX8_find, w.before a s = true) : (.fieldLink RX8 42 "SnowMules$Trip" "needed" "I" : Cond).before a s = true := kw (A := ixX8_find) wt1147 hts (by decide +kernel)
theorem kX8_find_9 {a : Array Value} {s : State} (hts : ∀ w ∈ wsX8_find, w.before a s = true) : (.fieldLink RX8 15 "SnowMules$Waits" "fewest" "[I" : Cond).before a s = true := kw (A := ixX8_find) wt127 hts (by decide +kernel)
theorem kX8_find_10 {a : Array Value} {s : State} (hts : ∀ w ∈ wsX8_find, w.before a s = true) : (.fieldLink RX8 18 "SnowMules$Waits" "most" "[I" : Cond).before a s = true := kw (A := ixX8_find) wt128 hts (by decide +kernel)
theorem kX8_find_11 {a : Array Value} {s : State} (hts : ∀ w ∈ wsX8_find, w.before a s = true) : (.fieldLink RX8 21 "SnowMules$Waits" "world" "LSnowMules$World;" : Cond).before a s = true := kw (A := ixX8_find) wt129 hts (by decide +kernel)
theorem kX8_find_12 {a : Array Value} {s : State} (hts : ∀ w ∈ wsX8_find, w.before a s = true) : (.fieldLink RX8 47 "SnowMules$World" "wayStart" "I" : Cond).before a s = true := kw (A := ixX8_find) wt1148 hts (by decide +kernel)
theorem iX8_fewestAt_X8 : ∀ w ∈ wsX80, w ∈ wsX8_fewestAt := inW (A := ixX8_fewestAt) uwX8 (by decide +kernel)
theorem iX8_mostAt_X8 : ∀ w ∈ wsX80, w ∈ wsX8_mostAt := inW (A := ixX8_mostAt) uwX8 (by decide +kernel)
theorem iX8_note_X8 : ∀ w ∈ wsX80, w ∈ wsX8_note := inW (A := ixX8_note) uwX8 (by decide +kernel)
theorem iX8_spread_X8 : ∀ w ∈ wsX80, w ∈ wsX8_spread := inW (A := ixX8_spread) uwX8 (by decide +kernel)
theorem iX8_spread_X9 : ∀ w ∈ wsX90, w ∈ wsX8_spread := inW (A := ixX8_spread) uwX9 (by decide +kernel)
theorem iX8_spread_X6 : ∀ w ∈ wsX60, w ∈ wsX8_spread := inW (A := ixX8_spread) uwX6 (by decide +kernel)
theorem iX8_spread_X7 : ∀ w ∈ wsX70, w ∈ wsX8_spread := inW (A := ixX8_spread) uwX7 (by decide +kernel)
theorem iX8_find_X8 : ∀ w ∈ wsX80, w ∈ wsX8_find := inW (A := ixX8_find) uwX8 (by decide +kernel)
theorem iX8_find_X7 : ∀ w ∈ wsX70, w ∈ wsX8_find := inW (A := ixX8_find) uwX7 (by decide +kernel)
theorem iX8_find_X9 : ∀ w ∈ wsX90, w ∈ wsX8_find := inW (A := ixX8_find) uwX9 (by decide +kernel)
theorem hdX8_note : yX8_note.cls ≠ "java/lang/invoke/MethodHandle" ∧ yX8_note.cls ≠ "java/lang/invoke/VarHandle" ∧ (parseMethodDescriptor yX8_note.desc).map (fun d => d.parameters.length) = some 1 := ⟨hdc_11.1, hdc_11.2, hdd_17⟩
theorem hdX8_spread : yX8_spread.cls ≠ "java/lang/invoke/MethodHandle" ∧ yX8_spread.cls ≠ "java/lang/invoke/VarHandle" ∧ (parseMethodDescriptor yX8_spread.desc).map (fun d => d.parameters.length) = some 3 := ⟨hdc_11.1, hdc_11.2, hdd_25⟩
theorem hdX7_waitAt : yX7_waitAt.cls ≠ "java/lang/invoke/MethodHandle" ∧ yX7_waitAt.cls ≠ "java/lang/invoke/VarHandle" ∧ (parseMethodDescriptor yX7_waitAt.desc).map (fun d => d.parameters.length) = some 1 := ⟨hdc_7.1, hdc_7.2, hdd_17⟩
def dtX8_fewestAt_38_0 : List (Nat × Jvm.ClassFile.Instr × Nat) := [(0, .iload_n 1, 1), (1, .ifCond .lt 18, 3), (19, .iconst (-1), 1), (20, .ireturn, 1), (4, .iload_n 1, 1), (5, .bipush 6, 2), (7, .if_icmp .ge 12, 3), (10, .aload_n 0, 1), (11, .getfield 15, 3), (14, .iload_n 1, 1), (15, .iaload, 1), (16, .goto 4, 3)]
theorem daX8_fewestAt_38_0 : dtX8_fewestAt_38_0.all (dqd cX8_fewestAt) = true := by decide +kernel
theorem dX8_fewestAt_0 : decode cX8_fewestAt 0 = .ok (.iload_n 1, 1) := dq daX8_fewestAt_38_0 0 rfl
theorem dX8_fewestAt_1 : decode cX8_fewestAt 1 = .ok (.ifCond .lt 18, 3) := dq daX8_fewestAt_38_0 1 rfl
theorem dX8_fewestAt_19 : decode cX8_fewestAt 19 = .ok (.iconst (-1), 1) := dq daX8_fewestAt_38_0 2 rfl
theorem dX8_fewestAt_20 : decode cX8_fewestAt 20 = .ok (.ireturn, 1) := dq daX8_fewestAt_38_0 3 rfl
theorem dX8_fewestAt_4 : decode cX8_fewestAt 4 = .ok (.iload_n 1, 1) := dq daX8_fewestAt_38_0 4 rfl
theorem dX8_fewestAt_5 : decode cX8_fewestAt 5 = .ok (.bipush 6, 2) := dq daX8_fewestAt_38_0 5 rfl
theorem dX8_fewestAt_7 : decode cX8_fewestAt 7 = .ok (.if_icmp .ge 12, 3) := dq daX8_fewestAt_38_0 6 rfl
theorem dX8_fewestAt_10 : decode cX8_fewestAt 10 = .ok (.aload_n 0, 1) := dq daX8_fewestAt_38_0 7 rfl
theorem dX8_fewestAt_11 : decode cX8_fewestAt 11 = .ok (.getfield 15, 3) := dq daX8_fewestAt_38_0 8 rfl
theorem dX8_fewestAt_14 : decode cX8_fewestAt 14 = .ok (.iload_n 1, 1) := dq daX8_fewestAt_38_0 9 rfl
theorem dX8_fewestAt_15 : decode cX8_fewestAt 15 = .ok (.iaload, 1) := dq daX8_fewestAt_38_0 10 rfl
theorem dX8_fewestAt_16 : decode cX8_fewestAt 16 = .ok (.goto 4, 3) := dq daX8_fewestAt_38_0 11 rfl
def dtX8_mostAt_38_0 : List (Nat × Jvm.ClassFile.Instr × Nat) := [(0, .iload_n 1, 1), (1, .ifCond .lt 18, 3), (19, .iconst (-1), 1), (20, .ireturn, 1), (4, .iload_n 1, 1), (5, .bipush 6, 2), (7, .if_icmp .ge 12, 3), (10, .aload_n 0, 1), (11, .getfield 18, 3), (14, .iload_n 1, 1), (15, .iaload, 1), (16, .goto 4, 3)]
theorem daX8_mostAt_38_0 : dtX8_mostAt_38_0.all (dqd cX8_mostAt) = true := by decide +kernel
theorem dX8_mostAt_0 : decode cX8_mostAt 0 = .ok (.iload_n 1, 1) := dq daX8_mostAt_38_0 0 rfl
theorem dX8_mostAt_1 : decode cX8_mostAt 1 = .ok (.ifCond .lt 18, 3) := dq daX8_mostAt_38_0 1 rfl
theorem dX8_mostAt_19 : decode cX8_mostAt 19 = .ok (.iconst (-1), 1) := dq daX8_mostAt_38_0 2 rfl
theorem dX8_mostAt_20 : decode cX8_mostAt 20 = .ok (.ireturn, 1) := dq daX8_mostAt_38_0 3 rfl
theorem dX8_mostAt_4 : decode cX8_mostAt 4 = .ok (.iload_n 1, 1) := dq daX8_mostAt_38_0 4 rfl
theorem dX8_mostAt_5 : decode cX8_mostAt 5 = .ok (.bipush 6, 2) := dq daX8_mostAt_38_0 5 rfl
theorem dX8_mostAt_7 : decode cX8_mostAt 7 = .ok (.if_icmp .ge 12, 3) := dq daX8_mostAt_38_0 6 rfl
theorem dX8_mostAt_10 : decode cX8_mostAt 10 = .ok (.aload_n 0, 1) := dq daX8_mostAt_38_0 7 rfl
theorem dX8_mostAt_11 : decode cX8_mostAt 11 = .ok (.getfield 18, 3) := dq daX8_mostAt_38_0 8 rfl
theorem dX8_mostAt_14 : decode cX8_mostAt 14 = .ok (.iload_n 1, 1) := dq daX8_mostAt_38_0 9 rfl
theorem dX8_mostAt_15 : decode cX8_mostAt 15 = .ok (.iaload, 1) := dq daX8_mostAt_38_0 10 rfl
theorem dX8_mostAt_16 : decode cX8_mostAt 16 = .ok (.goto 4, 3) := dq daX8_mostAt_38_0 11 rfl
def dtX8_note_38_0 : List (Nat × Jvm.ClassFile.Instr × Nat) := [(0, .aload_n 0, 1), (1, .dup, 1), (2, .getfield 29, 3), (5, .iconst 1, 1), (6, .iadd, 1), (7, .putfield 29, 3), (10, .iconst 0, 1), (11, .istore_n 2, 1), (12, .iload_n 2, 1), (13, .iload_n 1, 1), (14, .if_icmp .ge 57, 3), (17, .iload_n 2, 1), (18, .bipush 6, 2), (20, .if_icmp .ge 51, 3), (23, .aload_n 0, 1), (24, .getfield 15, 3), (27, .iload_n 2, 1), (28, .aload_n 0, 1), (29, .getfield 15, 3), (32, .iload_n 2, 1), (33, .iaload, 1), (34, .aload_n 0, 1), (35, .getfield 9, 3), (38, .iload_n 2, 1), (39, .iaload, 1), (40, .invokestatic 84, 3), (43, .iastore, 1), (44, .aload_n 0, 1), (45, .getfield 18, 3), (48, .iload_n 2, 1), (49, .aload_n 0, 1), (50, .getfield 18, 3)]
theorem daX8_note_38_0 : dtX8_note_38_0.all (dqd cX8_note) = true := by decide +kernel
theorem dX8_note_0 : decode cX8_note 0 = .ok (.aload_n 0, 1) := dq daX8_note_38_0 0 rfl
theorem dX8_note_1 : decode cX8_note 1 = .ok (.dup, 1) := dq daX8_note_38_0 1 rfl
theorem dX8_note_2 : decode cX8_note 2 = .ok (.getfield 29, 3) := dq daX8_note_38_0 2 rfl
theorem dX8_note_5 : decode cX8_note 5 = .ok (.iconst 1, 1) := dq daX8_note_38_0 3 rfl
theorem dX8_note_6 : decode cX8_note 6 = .ok (.iadd, 1) := dq daX8_note_38_0 4 rfl
theorem dX8_note_7 : decode cX8_note 7 = .ok (.putfield 29, 3) := dq daX8_note_38_0 5 rfl
theorem dX8_note_10 : decode cX8_note 10 = .ok (.iconst 0, 1) := dq daX8_note_38_0 6 rfl
theorem dX8_note_11 : decode cX8_note 11 = .ok (.istore_n 2, 1) := dq daX8_note_38_0 7 rfl
theorem dX8_note_12 : decode cX8_note 12 = .ok (.iload_n 2, 1) := dq daX8_note_38_0 8 rfl
theorem dX8_note_13 : decode cX8_note 13 = .ok (.iload_n 1, 1) := dq daX8_note_38_0 9 rfl
theorem dX8_note_14 : decode cX8_note 14 = .ok (.if_icmp .ge 57, 3) := dq daX8_note_38_0 10 rfl
theorem dX8_note_17 : decode cX8_note 17 = .ok (.iload_n 2, 1) := dq daX8_note_38_0 11 rfl
theorem dX8_note_18 : decode cX8_note 18 = .ok (.bipush 6, 2) := dq daX8_note_38_0 12 rfl
theorem dX8_note_20 : decode cX8_note 20 = .ok (.if_icmp .ge 51, 3) := dq daX8_note_38_0 13 rfl
theorem dX8_note_23 : decode cX8_note 23 = .ok (.aload_n 0, 1) := dq daX8_note_38_0 14 rfl
theorem dX8_note_24 : decode cX8_note 24 = .ok (.getfield 15, 3) := dq daX8_note_38_0 15 rfl
theorem dX8_note_27 : decode cX8_note 27 = .ok (.iload_n 2, 1) := dq daX8_note_38_0 16 rfl
theorem dX8_note_28 : decode cX8_note 28 = .ok (.aload_n 0, 1) := dq daX8_note_38_0 17 rfl
theorem dX8_note_29 : decode cX8_note 29 = .ok (.getfield 15, 3) := dq daX8_note_38_0 18 rfl
theorem dX8_note_32 : decode cX8_note 32 = .ok (.iload_n 2, 1) := dq daX8_note_38_0 19 rfl
theorem dX8_note_33 : decode cX8_note 33 = .ok (.iaload, 1) := dq daX8_note_38_0 20 rfl
theorem dX8_note_34 : decode cX8_note 34 = .ok (.aload_n 0, 1) := dq daX8_note_38_0 21 rfl
theorem dX8_note_35 : decode cX8_note 35 = .ok (.getfield 9, 3) := dq daX8_note_38_0 22 rfl
theorem dX8_note_38 : decode cX8_note 38 = .ok (.iload_n 2, 1) := dq daX8_note_38_0 23 rfl
theorem dX8_note_39 : decode cX8_note 39 = .ok (.iaload, 1) := dq daX8_note_38_0 24 rfl
theorem dX8_note_40 : decode cX8_note 40 = .ok (.invokestatic 84, 3) := dq daX8_note_38_0 25 rfl
theorem dX8_note_43 : decode cX8_note 43 = .ok (.iastore, 1) := dq daX8_note_38_0 26 rfl
theorem dX8_note_44 : decode cX8_note 44 = .ok (.aload_n 0, 1) := dq daX8_note_38_0 27 rfl
theorem dX8_note_45 : decode cX8_note 45 = .ok (.getfield 18, 3) := dq daX8_note_38_0 28 rfl
theorem dX8_note_48 : decode cX8_note 48 = .ok (.iload_n 2, 1) := dq daX8_note_38_0 29 rfl
theorem dX8_note_49 : decode cX8_note 49 = .ok (.aload_n 0, 1) := dq daX8_note_38_0 30 rfl
theorem dX8_note_50 : decode cX8_note 50 = .ok (.getfield 18, 3) := dq daX8_note_38_0 31 rfl
def dtX8_note_38_1 : List (Nat × Jvm.ClassFile.Instr × Nat) := [(53, .iload_n 2, 1), (54, .iaload, 1), (55, .aload_n 0, 1), (56, .getfield 9, 3), (59, .iload_n 2, 1), (60, .iaload, 1), (61, .invokestatic 36, 3), (64, .iastore, 1), (65, .iinc 2 1, 3), (68, .goto (-56), 3), (71, .return_, 1)]
theorem daX8_note_38_1 : dtX8_note_38_1.all (dqd cX8_note) = true := by decide +kernel
theorem dX8_note_53 : decode cX8_note 53 = .ok (.iload_n 2, 1) := dq daX8_note_38_1 0 rfl
theorem dX8_note_54 : decode cX8_note 54 = .ok (.iaload, 1) := dq daX8_note_38_1 1 rfl
theorem dX8_note_55 : decode cX8_note 55 = .ok (.aload_n 0, 1) := dq daX8_note_38_1 2 rfl
theorem dX8_note_56 : decode cX8_note 56 = .ok (.getfield 9, 3) := dq daX8_note_38_1 3 rfl
theorem dX8_note_59 : decode cX8_note 59 = .ok (.iload_n 2, 1) := dq daX8_note_38_1 4 rfl
theorem dX8_note_60 : decode cX8_note 60 = .ok (.iaload, 1) := dq daX8_note_38_1 5 rfl
theorem dX8_note_61 : decode cX8_note 61 = .ok (.invokestatic 36, 3) := dq daX8_note_38_1 6 rfl
theorem dX8_note_64 : decode cX8_note 64 = .ok (.iastore, 1) := dq daX8_note_38_1 7 rfl
theorem dX8_note_65 : decode cX8_note 65 = .ok (.iinc 2 1, 3) := dq daX8_note_38_1 8 rfl
theorem dX8_note_68 : decode cX8_note 68 = .ok (.goto (-56), 3) := dq daX8_note_38_1 9 rfl
theorem dX8_note_71 : decode cX8_note 71 = .ok (.return_, 1) := dq daX8_note_38_1 10 rfl
def dtX8_spread_38_0 : List (Nat × Jvm.ClassFile.Instr × Nat) := [(0, .aload_n 0, 1), (1, .getfield 21, 3), (4, .getfield 56, 3), (7, .getfield 60, 3), (10, .istore 4, 2), (12, .aload_n 0, 1), (13, .getfield 25, 3), (16, .getfield 65, 3), (19, .aload_n 0, 1), (20, .getfield 33, 3), (23, .if_icmp .ge 4, 3), (27, .iload_n 1, 1), (28, .iload 4, 2), (30, .if_icmp .ge 9, 3), (39, .iload_n 3, 1), (40, .ifCond .ne 23, 3), (63, .return_, 1), (43, .aload_n 0, 1), (44, .getfield 25, 3), (47, .getfield 65, 3), (50, .aload_n 0, 1), (51, .getfield 33, 3), (54, .if_icmp .ne 9, 3), (57, .aload_n 0, 1), (58, .iload 4, 2), (60, .invokevirtual 68, 3), (33, .iload_n 1, 1), (34, .bipush 6, 2), (36, .if_icmp .lt 28, 3), (26, .return_, 1), (64, .aload_n 0, 1), (65, .getfield 21, 3)]
theorem daX8_spread_38_0 : dtX8_spread_38_0.all (dqd cX8_spread) = true := by decide +kernel
theorem dX8_spread_0 : decode cX8_spread 0 = .ok (.aload_n 0, 1) := dq daX8_spread_38_0 0 rfl
theorem dX8_spread_1 : decode cX8_spread 1 = .ok (.getfield 21, 3) := dq daX8_spread_38_0 1 rfl
theorem dX8_spread_4 : decode cX8_spread 4 = .ok (.getfield 56, 3) := dq daX8_spread_38_0 2 rfl
theorem dX8_spread_7 : decode cX8_spread 7 = .ok (.getfield 60, 3) := dq daX8_spread_38_0 3 rfl
theorem dX8_spread_10 : decode cX8_spread 10 = .ok (.istore 4, 2) := dq daX8_spread_38_0 4 rfl
theorem dX8_spread_12 : decode cX8_spread 12 = .ok (.aload_n 0, 1) := dq daX8_spread_38_0 5 rfl
theorem dX8_spread_13 : decode cX8_spread 13 = .ok (.getfield 25, 3) := dq daX8_spread_38_0 6 rfl
theorem dX8_spread_16 : decode cX8_spread 16 = .ok (.getfield 65, 3) := dq daX8_spread_38_0 7 rfl
theorem dX8_spread_19 : decode cX8_spread 19 = .ok (.aload_n 0, 1) := dq daX8_spread_38_0 8 rfl
theorem dX8_spread_20 : decode cX8_spread 20 = .ok (.getfield 33, 3) := dq daX8_spread_38_0 9 rfl
theorem dX8_spread_23 : decode cX8_spread 23 = .ok (.if_icmp .ge 4, 3) := dq daX8_spread_38_0 10 rfl
theorem dX8_spread_27 : decode cX8_spread 27 = .ok (.iload_n 1, 1) := dq daX8_spread_38_0 11 rfl
theorem dX8_spread_28 : decode cX8_spread 28 = .ok (.iload 4, 2) := dq daX8_spread_38_0 12 rfl
theorem dX8_spread_30 : decode cX8_spread 30 = .ok (.if_icmp .ge 9, 3) := dq daX8_spread_38_0 13 rfl
theorem dX8_spread_39 : decode cX8_spread 39 = .ok (.iload_n 3, 1) := dq daX8_spread_38_0 14 rfl
theorem dX8_spread_40 : decode cX8_spread 40 = .ok (.ifCond .ne 23, 3) := dq daX8_spread_38_0 15 rfl
theorem dX8_spread_63 : decode cX8_spread 63 = .ok (.return_, 1) := dq daX8_spread_38_0 16 rfl
theorem dX8_spread_43 : decode cX8_spread 43 = .ok (.aload_n 0, 1) := dq daX8_spread_38_0 17 rfl
theorem dX8_spread_44 : decode cX8_spread 44 = .ok (.getfield 25, 3) := dq daX8_spread_38_0 18 rfl
theorem dX8_spread_47 : decode cX8_spread 47 = .ok (.getfield 65, 3) := dq daX8_spread_38_0 19 rfl
theorem dX8_spread_50 : decode cX8_spread 50 = .ok (.aload_n 0, 1) := dq daX8_spread_38_0 20 rfl
theorem dX8_spread_51 : decode cX8_spread 51 = .ok (.getfield 33, 3) := dq daX8_spread_38_0 21 rfl
theorem dX8_spread_54 : decode cX8_spread 54 = .ok (.if_icmp .ne 9, 3) := dq daX8_spread_38_0 22 rfl
theorem dX8_spread_57 : decode cX8_spread 57 = .ok (.aload_n 0, 1) := dq daX8_spread_38_0 23 rfl
theorem dX8_spread_58 : decode cX8_spread 58 = .ok (.iload 4, 2) := dq daX8_spread_38_0 24 rfl
theorem dX8_spread_60 : decode cX8_spread 60 = .ok (.invokevirtual 68, 3) := dq daX8_spread_38_0 25 rfl
theorem dX8_spread_33 : decode cX8_spread 33 = .ok (.iload_n 1, 1) := dq daX8_spread_38_0 26 rfl
theorem dX8_spread_34 : decode cX8_spread 34 = .ok (.bipush 6, 2) := dq daX8_spread_38_0 27 rfl
theorem dX8_spread_36 : decode cX8_spread 36 = .ok (.if_icmp .lt 28, 3) := dq daX8_spread_38_0 28 rfl
theorem dX8_spread_26 : decode cX8_spread 26 = .ok (.return_, 1) := dq daX8_spread_38_0 29 rfl
theorem dX8_spread_64 : decode cX8_spread 64 = .ok (.aload_n 0, 1) := dq daX8_spread_38_0 30 rfl
theorem dX8_spread_65 : decode cX8_spread 65 = .ok (.getfield 21, 3) := dq daX8_spread_38_0 31 rfl
def dtX8_spread_38_1 : List (Nat × Jvm.ClassFile.Instr × Nat) := [(68, .getfield 56, 3), (71, .iload_n 1, 1), (72, .iconst 0, 1), (73, .invokevirtual 72, 3), (76, .istore 5, 2), (78, .iconst 0, 1), (79, .istore 6, 2), (81, .iload 6, 2), (83, .iload_n 3, 1), (84, .if_icmp .gt 100, 3), (87, .iload 6, 2), (89, .iload_n 3, 1), (90, .if_icmp .eq 11, 3), (101, .aload_n 0, 1), (102, .getfield 25, 3), (105, .getfield 65, 3), (108, .istore 7, 2), (110, .aload_n 0, 1), (111, .getfield 25, 3), (114, .getfield 75, 3), (117, .istore 8, 2), (119, .aload_n 0, 1), (120, .getfield 9, 3), (123, .iload_n 1, 1), (124, .iload 6, 2), (126, .iastore, 1), (127, .aload_n 0, 1), (128, .getfield 25, 3), (131, .iload 5, 2), (133, .iload_n 2, 1), (134, .invokevirtual 78, 3), (137, .istore 9, 2)]
theorem daX8_spread_38_1 : dtX8_spread_38_1.all (dqd cX8_spread) = true := by decide +kernel
theorem dX8_spread_68 : decode cX8_spread 68 = .ok (.getfield 56, 3) := dq daX8_spread_38_1 0 rfl
theorem dX8_spread_71 : decode cX8_spread 71 = .ok (.iload_n 1, 1) := dq daX8_spread_38_1 1 rfl
theorem dX8_spread_72 : decode cX8_spread 72 = .ok (.iconst 0, 1) := dq daX8_spread_38_1 2 rfl
theorem dX8_spread_73 : decode cX8_spread 73 = .ok (.invokevirtual 72, 3) := dq daX8_spread_38_1 3 rfl
theorem dX8_spread_76 : decode cX8_spread 76 = .ok (.istore 5, 2) := dq daX8_spread_38_1 4 rfl
theorem dX8_spread_78 : decode cX8_spread 78 = .ok (.iconst 0, 1) := dq daX8_spread_38_1 5 rfl
theorem dX8_spread_79 : decode cX8_spread 79 = .ok (.istore 6, 2) := dq daX8_spread_38_1 6 rfl
theorem dX8_spread_81 : decode cX8_spread 81 = .ok (.iload 6, 2) := dq daX8_spread_38_1 7 rfl
theorem dX8_spread_83 : decode cX8_spread 83 = .ok (.iload_n 3, 1) := dq daX8_spread_38_1 8 rfl
theorem dX8_spread_84 : decode cX8_spread 84 = .ok (.if_icmp .gt 100, 3) := dq daX8_spread_38_1 9 rfl
theorem dX8_spread_87 : decode cX8_spread 87 = .ok (.iload 6, 2) := dq daX8_spread_38_1 10 rfl
theorem dX8_spread_89 : decode cX8_spread 89 = .ok (.iload_n 3, 1) := dq daX8_spread_38_1 11 rfl
theorem dX8_spread_90 : decode cX8_spread 90 = .ok (.if_icmp .eq 11, 3) := dq daX8_spread_38_1 12 rfl
theorem dX8_spread_101 : decode cX8_spread 101 = .ok (.aload_n 0, 1) := dq daX8_spread_38_1 13 rfl
theorem dX8_spread_102 : decode cX8_spread 102 = .ok (.getfield 25, 3) := dq daX8_spread_38_1 14 rfl
theorem dX8_spread_105 : decode cX8_spread 105 = .ok (.getfield 65, 3) := dq daX8_spread_38_1 15 rfl
theorem dX8_spread_108 : decode cX8_spread 108 = .ok (.istore 7, 2) := dq daX8_spread_38_1 16 rfl
theorem dX8_spread_110 : decode cX8_spread 110 = .ok (.aload_n 0, 1) := dq daX8_spread_38_1 17 rfl
theorem dX8_spread_111 : decode cX8_spread 111 = .ok (.getfield 25, 3) := dq daX8_spread_38_1 18 rfl
theorem dX8_spread_114 : decode cX8_spread 114 = .ok (.getfield 75, 3) := dq daX8_spread_38_1 19 rfl
theorem dX8_spread_117 : decode cX8_spread 117 = .ok (.istore 8, 2) := dq daX8_spread_38_1 20 rfl
theorem dX8_spread_119 : decode cX8_spread 119 = .ok (.aload_n 0, 1) := dq daX8_spread_38_1 21 rfl
theorem dX8_spread_120 : decode cX8_spread 120 = .ok (.getfield 9, 3) := dq daX8_spread_38_1 22 rfl
theorem dX8_spread_123 : decode cX8_spread 123 = .ok (.iload_n 1, 1) := dq daX8_spread_38_1 23 rfl
theorem dX8_spread_124 : decode cX8_spread 124 = .ok (.iload 6, 2) := dq daX8_spread_38_1 24 rfl
theorem dX8_spread_126 : decode cX8_spread 126 = .ok (.iastore, 1) := dq daX8_spread_38_1 25 rfl
theorem dX8_spread_127 : decode cX8_spread 127 = .ok (.aload_n 0, 1) := dq daX8_spread_38_1 26 rfl
theorem dX8_spread_128 : decode cX8_spread 128 = .ok (.getfield 25, 3) := dq daX8_spread_38_1 27 rfl
theorem dX8_spread_131 : decode cX8_spread 131 = .ok (.iload 5, 2) := dq daX8_spread_38_1 28 rfl
theorem dX8_spread_133 : decode cX8_spread 133 = .ok (.iload_n 2, 1) := dq daX8_spread_38_1 29 rfl
theorem dX8_spread_134 : decode cX8_spread 134 = .ok (.invokevirtual 78, 3) := dq daX8_spread_38_1 30 rfl
theorem dX8_spread_137 : decode cX8_spread 137 = .ok (.istore 9, 2) := dq daX8_spread_38_1 31 rfl
def dtX8_spread_38_2 : List (Nat × Jvm.ClassFile.Instr × Nat) := [(139, .aload_n 0, 1), (140, .iload_n 1, 1), (141, .iconst 1, 1), (142, .iadd, 1), (143, .iload 9, 2), (145, .iload_n 3, 1), (146, .iload 6, 2), (148, .isub, 1), (149, .invokevirtual 52, 3), (152, .aload_n 0, 1), (153, .getfield 25, 3), (156, .iload 7, 2), (158, .putfield 65, 3), (161, .aload_n 0, 1), (162, .getfield 25, 3), (165, .iload 8, 2), (167, .putfield 75, 3), (170, .aload_n 0, 1), (171, .getfield 25, 3), (174, .iload_n 2, 1), (175, .invokevirtual 81, 3), (178, .iinc 6 1, 3), (181, .goto (-100), 3), (93, .iload_n 1, 1), (94, .iload 4, 2), (96, .iconst 1, 1), (97, .isub, 1), (98, .if_icmp .ge 72, 3), (184, .return_, 1)]
theorem daX8_spread_38_2 : dtX8_spread_38_2.all (dqd cX8_spread) = true := by decide +kernel
theorem dX8_spread_139 : decode cX8_spread 139 = .ok (.aload_n 0, 1) := dq daX8_spread_38_2 0 rfl
theorem dX8_spread_140 : decode cX8_spread 140 = .ok (.iload_n 1, 1) := dq daX8_spread_38_2 1 rfl
theorem dX8_spread_141 : decode cX8_spread 141 = .ok (.iconst 1, 1) := dq daX8_spread_38_2 2 rfl
theorem dX8_spread_142 : decode cX8_spread 142 = .ok (.iadd, 1) := dq daX8_spread_38_2 3 rfl
theorem dX8_spread_143 : decode cX8_spread 143 = .ok (.iload 9, 2) := dq daX8_spread_38_2 4 rfl
theorem dX8_spread_145 : decode cX8_spread 145 = .ok (.iload_n 3, 1) := dq daX8_spread_38_2 5 rfl
theorem dX8_spread_146 : decode cX8_spread 146 = .ok (.iload 6, 2) := dq daX8_spread_38_2 6 rfl
theorem dX8_spread_148 : decode cX8_spread 148 = .ok (.isub, 1) := dq daX8_spread_38_2 7 rfl
theorem dX8_spread_149 : decode cX8_spread 149 = .ok (.invokevirtual 52, 3) := dq daX8_spread_38_2 8 rfl
theorem dX8_spread_152 : decode cX8_spread 152 = .ok (.aload_n 0, 1) := dq daX8_spread_38_2 9 rfl
theorem dX8_spread_153 : decode cX8_spread 153 = .ok (.getfield 25, 3) := dq daX8_spread_38_2 10 rfl
theorem dX8_spread_156 : decode cX8_spread 156 = .ok (.iload 7, 2) := dq daX8_spread_38_2 11 rfl
theorem dX8_spread_158 : decode cX8_spread 158 = .ok (.putfield 65, 3) := dq daX8_spread_38_2 12 rfl
theorem dX8_spread_161 : decode cX8_spread 161 = .ok (.aload_n 0, 1) := dq daX8_spread_38_2 13 rfl
theorem dX8_spread_162 : decode cX8_spread 162 = .ok (.getfield 25, 3) := dq daX8_spread_38_2 14 rfl
theorem dX8_spread_165 : decode cX8_spread 165 = .ok (.iload 8, 2) := dq daX8_spread_38_2 15 rfl
theorem dX8_spread_167 : decode cX8_spread 167 = .ok (.putfield 75, 3) := dq daX8_spread_38_2 16 rfl
theorem dX8_spread_170 : decode cX8_spread 170 = .ok (.aload_n 0, 1) := dq daX8_spread_38_2 17 rfl
theorem dX8_spread_171 : decode cX8_spread 171 = .ok (.getfield 25, 3) := dq daX8_spread_38_2 18 rfl
theorem dX8_spread_174 : decode cX8_spread 174 = .ok (.iload_n 2, 1) := dq daX8_spread_38_2 19 rfl
theorem dX8_spread_175 : decode cX8_spread 175 = .ok (.invokevirtual 81, 3) := dq daX8_spread_38_2 20 rfl
theorem dX8_spread_178 : decode cX8_spread 178 = .ok (.iinc 6 1, 3) := dq daX8_spread_38_2 21 rfl
theorem dX8_spread_181 : decode cX8_spread 181 = .ok (.goto (-100), 3) := dq daX8_spread_38_2 22 rfl
theorem dX8_spread_93 : decode cX8_spread 93 = .ok (.iload_n 1, 1) := dq daX8_spread_38_2 23 rfl
theorem dX8_spread_94 : decode cX8_spread 94 = .ok (.iload 4, 2) := dq daX8_spread_38_2 24 rfl
theorem dX8_spread_96 : decode cX8_spread 96 = .ok (.iconst 1, 1) := dq daX8_spread_38_2 25 rfl
theorem dX8_spread_97 : decode cX8_spread 97 = .ok (.isub, 1) := dq daX8_spread_38_2 26 rfl
theorem dX8_spread_98 : decode cX8_spread 98 = .ok (.if_icmp .ge 72, 3) := dq daX8_spread_38_2 27 rfl
theorem dX8_spread_184 : decode cX8_spread 184 = .ok (.return_, 1) := dq daX8_spread_38_2 28 rfl
def dtX8_find_38_0 : List (Nat × Jvm.ClassFile.Instr × Nat) := [(0, .aload_n 0, 1), (1, .iconst 0, 1), (2, .putfield 29, 3), (5, .aload_n 0, 1), (6, .iload_n 2, 1), (7, .putfield 33, 3), (10, .aload_n 0, 1), (11, .getfield 25, 3), (14, .iconst 1, 1), (15, .iload_n 2, 1), (16, .invokestatic 36, 3), (19, .putfield 42, 3), (22, .iconst 0, 1), (23, .istore_n 3, 1), (24, .iload_n 3, 1), (25, .bipush 6, 2), (27, .if_icmp .ge 24, 3), (30, .aload_n 0, 1), (31, .getfield 15, 3), (34, .iload_n 3, 1), (35, .bipush 12, 2), (37, .iastore, 1), (38, .aload_n 0, 1), (39, .getfield 18, 3), (42, .iload_n 3, 1), (43, .iconst 0, 1), (44, .iastore, 1), (45, .iinc 3 1, 3), (48, .goto (-24), 3), (51, .aload_n 0, 1), (52, .iconst 0, 1), (53, .aload_n 0, 1)]
theorem daX8_find_38_0 : dtX8_find_38_0.all (dqd cX8_find) = true := by decide +kernel
theorem dX8_find_0 : decode cX8_find 0 = .ok (.aload_n 0, 1) := dq daX8_find_38_0 0 rfl
theorem dX8_find_1 : decode cX8_find 1 = .ok (.iconst 0, 1) := dq daX8_find_38_0 1 rfl
theorem dX8_find_2 : decode cX8_find 2 = .ok (.putfield 29, 3) := dq daX8_find_38_0 2 rfl
theorem dX8_find_5 : decode cX8_find 5 = .ok (.aload_n 0, 1) := dq daX8_find_38_0 3 rfl
theorem dX8_find_6 : decode cX8_find 6 = .ok (.iload_n 2, 1) := dq daX8_find_38_0 4 rfl
theorem dX8_find_7 : decode cX8_find 7 = .ok (.putfield 33, 3) := dq daX8_find_38_0 5 rfl
theorem dX8_find_10 : decode cX8_find 10 = .ok (.aload_n 0, 1) := dq daX8_find_38_0 6 rfl
theorem dX8_find_11 : decode cX8_find 11 = .ok (.getfield 25, 3) := dq daX8_find_38_0 7 rfl
theorem dX8_find_14 : decode cX8_find 14 = .ok (.iconst 1, 1) := dq daX8_find_38_0 8 rfl
theorem dX8_find_15 : decode cX8_find 15 = .ok (.iload_n 2, 1) := dq daX8_find_38_0 9 rfl
theorem dX8_find_16 : decode cX8_find 16 = .ok (.invokestatic 36, 3) := dq daX8_find_38_0 10 rfl
theorem dX8_find_19 : decode cX8_find 19 = .ok (.putfield 42, 3) := dq daX8_find_38_0 11 rfl
theorem dX8_find_22 : decode cX8_find 22 = .ok (.iconst 0, 1) := dq daX8_find_38_0 12 rfl
theorem dX8_find_23 : decode cX8_find 23 = .ok (.istore_n 3, 1) := dq daX8_find_38_0 13 rfl
theorem dX8_find_24 : decode cX8_find 24 = .ok (.iload_n 3, 1) := dq daX8_find_38_0 14 rfl
theorem dX8_find_25 : decode cX8_find 25 = .ok (.bipush 6, 2) := dq daX8_find_38_0 15 rfl
theorem dX8_find_27 : decode cX8_find 27 = .ok (.if_icmp .ge 24, 3) := dq daX8_find_38_0 16 rfl
theorem dX8_find_30 : decode cX8_find 30 = .ok (.aload_n 0, 1) := dq daX8_find_38_0 17 rfl
theorem dX8_find_31 : decode cX8_find 31 = .ok (.getfield 15, 3) := dq daX8_find_38_0 18 rfl
theorem dX8_find_34 : decode cX8_find 34 = .ok (.iload_n 3, 1) := dq daX8_find_38_0 19 rfl
theorem dX8_find_35 : decode cX8_find 35 = .ok (.bipush 12, 2) := dq daX8_find_38_0 20 rfl
theorem dX8_find_37 : decode cX8_find 37 = .ok (.iastore, 1) := dq daX8_find_38_0 21 rfl
theorem dX8_find_38 : decode cX8_find 38 = .ok (.aload_n 0, 1) := dq daX8_find_38_0 22 rfl
theorem dX8_find_39 : decode cX8_find 39 = .ok (.getfield 18, 3) := dq daX8_find_38_0 23 rfl
theorem dX8_find_42 : decode cX8_find 42 = .ok (.iload_n 3, 1) := dq daX8_find_38_0 24 rfl
theorem dX8_find_43 : decode cX8_find 43 = .ok (.iconst 0, 1) := dq daX8_find_38_0 25 rfl
theorem dX8_find_44 : decode cX8_find 44 = .ok (.iastore, 1) := dq daX8_find_38_0 26 rfl
theorem dX8_find_45 : decode cX8_find 45 = .ok (.iinc 3 1, 3) := dq daX8_find_38_0 27 rfl
theorem dX8_find_48 : decode cX8_find 48 = .ok (.goto (-24), 3) := dq daX8_find_38_0 28 rfl
theorem dX8_find_51 : decode cX8_find 51 = .ok (.aload_n 0, 1) := dq daX8_find_38_0 29 rfl
theorem dX8_find_52 : decode cX8_find 52 = .ok (.iconst 0, 1) := dq daX8_find_38_0 30 rfl
theorem dX8_find_53 : decode cX8_find 53 = .ok (.aload_n 0, 1) := dq daX8_find_38_0 31 rfl
def dtX8_find_38_1 : List (Nat × Jvm.ClassFile.Instr × Nat) := [(54, .getfield 21, 3), (57, .getfield 47, 3), (60, .iload_n 1, 1), (61, .invokevirtual 52, 3), (64, .return_, 1)]
theorem daX8_find_38_1 : dtX8_find_38_1.all (dqd cX8_find) = true := by decide +kernel
theorem dX8_find_54 : decode cX8_find 54 = .ok (.getfield 21, 3) := dq daX8_find_38_1 0 rfl
theorem dX8_find_57 : decode cX8_find 57 = .ok (.getfield 47, 3) := dq daX8_find_38_1 1 rfl
theorem dX8_find_60 : decode cX8_find 60 = .ok (.iload_n 1, 1) := dq daX8_find_38_1 2 rfl
theorem dX8_find_61 : decode cX8_find 61 = .ok (.invokevirtual 52, 3) := dq daX8_find_38_1 3 rfl
theorem dX8_find_64 : decode cX8_find 64 = .ok (.return_, 1) := dq daX8_find_38_1 4 rfl
