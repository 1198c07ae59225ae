theorem kX7_begin_1 {a : Array Value} {s : State} (hts : ∀ w ∈ wsX7_begin, w.before a s = true) : (.fieldLink RX7 12 "SnowMules$Trip" "law" "LSnowMules$Law;" : Cond).before a s = true := kw (A := ixX7_begin) wt109 hts (by decide +kernel)
theorem kX7_begin_2 {a : Array Value} {s : State} (hts : ∀ w ∈ wsX7_begin, w.before a s = true) : (.fieldLink RX7 29 "SnowMules$Trip" "hour" "I" : Cond).before a s = true := kw (A := ixX7_begin) wt960 hts (by decide +kernel)
theorem kX7_begin_3 {a : Array Value} {s : State} (hts : ∀ w ∈ wsX7_begin, w.before a s = true) : (.fieldLink RX7 33 "SnowMules$Trip" "drops" "I" : Cond).before a s = true := kw (A := ixX7_begin) wt961 hts (by decide +kernel)
theorem kX7_begin_4 {a : Array Value} {s : State} (hts : ∀ w ∈ wsX7_begin, w.before a s = true) : (.fieldLink RX7 36 "SnowMules$Trip" "felt" "I" : Cond).before a s = true := kw (A := ixX7_begin) wt962 hts (by decide +kernel)
theorem kX7_begin_5 {a : Array Value} {s : State} (hts : ∀ w ∈ wsX7_begin, w.before a s = true) : (.fieldLink RX7 39 "SnowMules$Trip" "salt" "I" : Cond).before a s = true := kw (A := ixX7_begin) wt963 hts (by decide +kernel)
theorem kX7_begin_6 {a : Array Value} {s : State} (hts : ∀ w ∈ wsX7_begin, w.before a s = true) : (.fieldLink RX7 42 "SnowMules$Trip" "warmth" "I" : Cond).before a s = true := kw (A := ixX7_begin) wt964 hts (by decide +kernel)
theorem kX7_begin_7 {a : Array Value} {s : State} (hts : ∀ w ∈ wsX7_begin, w.before a s = true) : (.fieldLink RX7 45 "SnowMules$Trip" "needed" "I" : Cond).before a s = true := kw (A := ixX7_begin) wt965 hts (by decide +kernel)
theorem kX7_meltOneHour_1 {a : Array Value} {s : State} (hts : ∀ w ∈ wsX7_meltOneHour, w.before a s = true) : (.fieldLink RX7 33 "SnowMules$Trip" "drops" "I" : Cond).before a s = true := kw (A := ixX7_meltOneHour) wt961 hts (by decide +kernel)
theorem kX7_meltOneHour_2 {a : Array Value} {s : State} (hts : ∀ w ∈ wsX7_meltOneHour, w.before a s = true) : (.fieldLink RX7 45 "SnowMules$Trip" "needed" "I" : Cond).before a s = true := kw (A := ixX7_meltOneHour) wt965 hts (by decide +kernel)
theorem kX7_meltOneHour_5 {a : Array Value} {s : State} (hts : ∀ w ∈ wsX7_meltOneHour, w.before a s = true) : (.fieldLink RX7 29 "SnowMules$Trip" "hour" "I" : Cond).before a s = true := kw (A := ixX7_meltOneHour) wt960 hts (by decide +kernel)
theorem kX7_meltOneHour_3 {a : Array Value} {s : State} (hts : ∀ w ∈ wsX7_meltOneHour, w.before a s = true) : (.fieldLink RX7 21 "SnowMules$Trip" "scene" "LSnowMules$Scene;" : Cond).before a s = true := kw (A := ixX7_meltOneHour) wt111 hts (by decide +kernel)
theorem kX7_meltOneHour_4 {a : Array Value} {s : State} (hts : ∀ w ∈ wsX7_meltOneHour, w.before a s = true) : (.fieldLink RX7 25 "SnowMules$Trip" "world" "LSnowMules$World;" : Cond).before a s = true := kw (A := ixX7_meltOneHour) wt112 hts (by decide +kernel)
theorem kX7_meltOneHour_6 {a : Array Value} {s : State} (hts : ∀ w ∈ wsX7_meltOneHour, w.before a s = true) : (.fieldLink RX7 36 "SnowMules$Trip" "felt" "I" : Cond).before a s = true := kw (A := ixX7_meltOneHour) wt962 hts (by decide +kernel)
theorem kX7_meltOneHour_7 {a : Array Value} {s : State} (hts : ∀ w ∈ wsX7_meltOneHour, w.before a s = true) : (.fieldLink RX7 39 "SnowMules$Trip" "salt" "I" : Cond).before a s = true := kw (A := ixX7_meltOneHour) wt963 hts (by decide +kernel)
theorem kX7_meltOneHour_8 {a : Array Value} {s : State} (hts : ∀ w ∈ wsX7_meltOneHour, w.before a s = true) : (.fieldLink RX7 12 "SnowMules$Trip" "law" "LSnowMules$Law;" : Cond).before a s = true := kw (A := ixX7_meltOneHour) wt109 hts (by decide +kernel)
theorem kX7_meltOneHour_9 {a : Array Value} {s : State} (hts : ∀ w ∈ wsX7_meltOneHour, w.before a s = true) : (.fieldLink RX7 62 "SnowMules$Scene" "words" "[I" : Cond).before a s = true := kw (A := ixX7_meltOneHour) wt979 hts (by decide +kernel)
theorem kX7_meltOneHour_10 {a : Array Value} {s : State} (hts : ∀ w ∈ wsX7_meltOneHour, w.before a s = true) : (.fieldLink RX7 42 "SnowMules$Trip" "warmth" "I" : Cond).before a s = true := kw (A := ixX7_meltOneHour) wt964 hts (by decide +kernel)
theorem kX7_meltOneHour_58 {a : Array Value} {s : State} (hts : ∀ w ∈ wsX7_meltOneHour, w.before a s = true) : (.initialized RX10 : Cond).before a s = true := kw (A := ixX7_meltOneHour) wt2 hts (by decide +kernel)
theorem kX7_meltOneHour_57 {a : Array Value} {s : State} (hts : ∀ w ∈ wsX7_meltOneHour, w.before a s = true) : (.static yX10_held : Cond).before a s = true := kw (A := ixX7_meltOneHour) wt765 hts (by decide +kernel)
theorem kX7_waitAt_1 {a : Array Value} {s : State} (hts : ∀ w ∈ wsX7_waitAt, w.before a s = true) : (.fieldLink RX7 21 "SnowMules$Trip" "scene" "LSnowMules$Scene;" : Cond).before a s = true := kw (A := ixX7_waitAt) wt111 hts (by decide +kernel)
theorem kX7_waitAt_2 {a : Array Value} {s : State} (hts : ∀ w ∈ wsX7_waitAt, w.before a s = true) : (.fieldLink RX7 25 "SnowMules$Trip" "world" "LSnowMules$World;" : Cond).before a s = true := kw (A := ixX7_waitAt) wt112 hts (by decide +kernel)
theorem kX7_cross_1 {a : Array Value} {s : State} (hts : ∀ w ∈ wsX7_cross, w.before a s = true) : (.fieldLink RX7 25 "SnowMules$Trip" "world" "LSnowMules$World;" : Cond).before a s = true := kw (A := ixX7_cross) wt112 hts (by decide +kernel)
theorem kX7_cross_2 {a : Array Value} {s : State} (hts : ∀ w ∈ wsX7_cross, w.before a s = true) : (.fieldLink RX7 80 "SnowMules$World" "passes" "LSnowMules$Table;" : Cond).before a s = true := kw (A := ixX7_cross) wt978 hts (by decide +kernel)
theorem kX7_cross_3 {a : Array Value} {s : State} (hts : ∀ w ∈ wsX7_cross, w.before a s = true) : (.fieldLink RX7 21 "SnowMules$Trip" "scene" "LSnowMules$Scene;" : Cond).before a s = true := kw (A := ixX7_cross) wt111 hts (by decide +kernel)
theorem kX7_cross_4 {a : Array Value} {s : State} (hts : ∀ w ∈ wsX7_cross, w.before a s = true) : (.fieldLink RX7 29 "SnowMules$Trip" "hour" "I" : Cond).before a s = true := kw (A := ixX7_cross) wt960 hts (by decide +kernel)
theorem kX7_cross_5 {a : Array Value} {s : State} (hts : ∀ w ∈ wsX7_cross, w.before a s = true) : (.fieldLink RX7 33 "SnowMules$Trip" "drops" "I" : Cond).before a s = true := kw (A := ixX7_cross) wt961 hts (by decide +kernel)
theorem kX7_cross_6 {a : Array Value} {s : State} (hts : ∀ w ∈ wsX7_cross, w.before a s = true) : (.fieldLink RX7 36 "SnowMules$Trip" "felt" "I" : Cond).before a s = true := kw (A := ixX7_cross) wt962 hts (by decide +kernel)
theorem kX7_cross_7 {a : Array Value} {s : State} (hts : ∀ w ∈ wsX7_cross, w.before a s = true) : (.fieldLink RX7 39 "SnowMules$Trip" "salt" "I" : Cond).before a s = true := kw (A := ixX7_cross) wt963 hts (by decide +kernel)
theorem kX7_cross_8 {a : Array Value} {s : State} (hts : ∀ w ∈ wsX7_cross, w.before a s = true) : (.fieldLink RX7 45 "SnowMules$Trip" "needed" "I" : Cond).before a s = true := kw (A := ixX7_cross) wt965 hts (by decide +kernel)
theorem kX7_cross_9 {a : Array Value} {s : State} (hts : ∀ w ∈ wsX7_cross, w.before a s = true) : (.fieldLink RX7 12 "SnowMules$Trip" "law" "LSnowMules$Law;" : Cond).before a s = true := kw (A := ixX7_cross) wt109 hts (by decide +kernel)
theorem kX7_cross_10 {a : Array Value} {s : State} (hts : ∀ w ∈ wsX7_cross, w.before a s = true) : (.fieldLink RX7 62 "SnowMules$Scene" "words" "[I" : Cond).before a s = true := kw (A := ixX7_cross) wt979 hts (by decide +kernel)
theorem kX7_cross_97 {a : Array Value} {s : State} (hts : ∀ w ∈ wsX7_cross, w.before a s = true) : (.initialized RX10 : Cond).before a s = true := kw (A := ixX7_cross) wt2 hts (by decide +kernel)
theorem kX7_cross_96 {a : Array Value} {s : State} (hts : ∀ w ∈ wsX7_cross, w.before a s = true) : (.static yX10_held : Cond).before a s = true := kw (A := ixX7_cross) wt765 hts (by decide +kernel)
theorem kX7_followKeeping_1 {a : Array Value} {s : State} (hts : ∀ w ∈ wsX7_followKeeping, w.before a s = true) : (.fieldLink RX7 25 "SnowMules$Trip" "world" "LSnowMules$World;" : Cond).before a s = true := kw (A := ixX7_followKeeping) wt112 hts (by decide +kernel)
theorem kX7_followKeeping_2 {a : Array Value} {s : State} (hts : ∀ w ∈ wsX7_followKeeping, w.before a s = true) : (.fieldLink RX7 97 "SnowMules$World" "wayStart" "I" : Cond).before a s = true := kw (A := ixX7_followKeeping) wt970 hts (by decide +kernel)
theorem kX7_followKeeping_3 {a : Array Value} {s : State} (hts : ∀ w ∈ wsX7_followKeeping, w.before a s = true) : (.fieldLink RX7 100 "SnowMules$World" "way" "LSnowMules$Table;" : Cond).before a s = true := kw (A := ixX7_followKeeping) wt971 hts (by decide +kernel)
theorem kX7_followKeeping_4 {a : Array Value} {s : State} (hts : ∀ w ∈ wsX7_followKeeping, w.before a s = true) : (.fieldLink RX7 103 "SnowMules$Table" "size" "I" : Cond).before a s = true := kw (A := ixX7_followKeeping) wt972 hts (by decide +kernel)
theorem kX7_followKeeping_5 {a : Array Value} {s : State} (hts : ∀ w ∈ wsX7_followKeeping, w.before a s = true) : (.fieldLink RX7 33 "SnowMules$Trip" "drops" "I" : Cond).before a s = true := kw (A := ixX7_followKeeping) wt961 hts (by decide +kernel)
theorem kX7_venture_1 {a : Array Value} {s : State} (hts : ∀ w ∈ wsX7_venture, w.before a s = true) : (.fieldLink RX7 25 "SnowMules$Trip" "world" "LSnowMules$World;" : Cond).before a s = true := kw (A := ixX7_venture) wt112 hts (by decide +kernel)
theorem kX7_venture_2 {a : Array Value} {s : State} (hts : ∀ w ∈ wsX7_venture, w.before a s = true) : (.fieldLink RX7 97 "SnowMules$World" "wayStart" "I" : Cond).before a s = true := kw (A := ixX7_venture) wt970 hts (by decide +kernel)
theorem kX7_venture_3 {a : Array Value} {s : State} (hts : ∀ w ∈ wsX7_venture, w.before a s = true) : (.fieldLink RX7 100 "SnowMules$World" "way" "LSnowMules$Table;" : Cond).before a s = true := kw (A := ixX7_venture) wt971 hts (by decide +kernel)
theorem kX7_venture_4 {a : Array Value} {s : State} (hts : ∀ w ∈ wsX7_venture, w.before a s = true) : (.fieldLink RX7 103 "SnowMules$Table" "size" "I" : Cond).before a s = true := kw (A := ixX7_venture) wt972 hts (by decide +kernel)
theorem kX7_venture_5 {a : Array Value} {s : State} (hts : ∀ w ∈ wsX7_venture, w.before a s = true) : (.fieldLink RX7 80 "SnowMules$World" "passes" "LSnowMules$Table;" : Cond).before a s = true := kw (A := ixX7_venture) wt978 hts (by decide +kernel)
theorem kX7_venture_6 {a : Array Value} {s : State} (hts : ∀ w ∈ wsX7_venture, w.before a s = true) : (.fieldLink RX7 21 "SnowMules$Trip" "scene" "LSnowMules$Scene;" : Cond).before a s = true := kw (A := ixX7_venture) wt111 hts (by decide +kernel)
theorem kX7_venture_7 {a : Array Value} {s : State} (hts : ∀ w ∈ wsX7_venture, w.before a s = true) : (.fieldLink RX7 33 "SnowMules$Trip" "drops" "I" : Cond).before a s = true := kw (A := ixX7_venture) wt961 hts (by decide +kernel)
theorem kX7_venture_8 {a : Array Value} {s : State} (hts : ∀ w ∈ wsX7_venture, w.before a s = true) : (.fieldLink RX7 36 "SnowMules$Trip" "felt" "I" : Cond).before a s = true := kw (A := ixX7_venture) wt962 hts (by decide +kernel)
theorem kX7_venture_9 {a : Array Value} {s : State} (hts : ∀ w ∈ wsX7_venture, w.before a s = true) : (.fieldLink RX7 39 "SnowMules$Trip" "salt" "I" : Cond).before a s = true := kw (A := ixX7_venture) wt963 hts (by decide +kernel)
theorem kX7_venture_10 {a : Array Value} {s : State} (hts : ∀ w ∈ wsX7_venture, w.before a s = true) : (.fieldLink RX7 12 "SnowMules$Trip" "law" "LSnowMules$Law;" : Cond).before a s = true := kw (A := ixX7_venture) wt109 hts (by decide +kernel)
theorem kX7_venture_11 {a : Array Value} {s : State} (hts : ∀ w ∈ wsX7_venture, w.before a s = true) : (.fieldLink RX7 62 "SnowMules$Scene" "words" "[I" : Cond).before a s = true := kw (A := ixX7_venture) wt979 hts (by decide +kernel)
theorem kX7_venture_104 {a : Array Value} {s : State} (hts : ∀ w ∈ wsX7_venture, w.before a s = true) : (.initialized RX10 : Cond).before a s = true := kw (A := ixX7_venture) wt2 hts (by decide +kernel)
theorem kX7_venture_103 {a : Array Value} {s : State} (hts : ∀ w ∈ wsX7_venture, w.before a s = true) : (.static yX10_held : Cond).before a s = true := kw (A := ixX7_venture) wt765 hts (by decide +kernel)
theorem iX7_begin_X7 : ∀ w ∈ wsX70, w ∈ wsX7_begin := inW (A := ixX7_begin) uwX7 (by decide +kernel)
theorem iX7_meltOneHour_X7 : ∀ w ∈ wsX70, w ∈ wsX7_meltOneHour := inW (A := ixX7_meltOneHour) uwX7 (by decide +kernel)
theorem iX7_meltOneHour_X4 : ∀ w ∈ wsX40, w ∈ wsX7_meltOneHour := inW (A := ixX7_meltOneHour) uwX4 (by decide +kernel)
theorem iX7_waitAt_X7 : ∀ w ∈ wsX70, w ∈ wsX7_waitAt := inW (A := ixX7_waitAt) uwX7 (by decide +kernel)
theorem iX7_cross_X7 : ∀ w ∈ wsX70, w ∈ wsX7_cross := inW (A := ixX7_cross) uwX7 (by decide +kernel)
theorem iX7_cross_X9 : ∀ w ∈ wsX90, w ∈ wsX7_cross := inW (A := ixX7_cross) uwX9 (by decide +kernel)
theorem iX7_cross_X4 : ∀ w ∈ wsX40, w ∈ wsX7_cross := inW (A := ixX7_cross) uwX4 (by decide +kernel)
theorem iX7_followKeeping_X7 : ∀ w ∈ wsX70, w ∈ wsX7_followKeeping := inW (A := ixX7_followKeeping) uwX7 (by decide +kernel)
theorem iX7_followKeeping_X9 : ∀ w ∈ wsX90, w ∈ wsX7_followKeeping := inW (A := ixX7_followKeeping) uwX9 (by decide +kernel)
theorem iX7_followKeeping_X6 : ∀ w ∈ wsX60, w ∈ wsX7_followKeeping := inW (A := ixX7_followKeeping) uwX6 (by decide +kernel)
theorem iX7_venture_X7 : ∀ w ∈ wsX70, w ∈ wsX7_venture := inW (A := ixX7_venture) uwX7 (by decide +kernel)
theorem iX7_venture_X9 : ∀ w ∈ wsX90, w ∈ wsX7_venture := inW (A := ixX7_venture) uwX9 (by decide +kernel)
theorem iX7_venture_X6 : ∀ w ∈ wsX60, w ∈ wsX7_venture := inW (A := ixX7_venture) uwX6 (by decide +kernel)
theorem iX7_venture_X4 : ∀ w ∈ wsX40, w ∈ wsX7_venture := inW (A := ixX7_venture) uwX4 (by decide +kernel)
theorem hdX7_meltOneHour : yX7_meltOneHour.cls ≠ "java/lang/invoke/MethodHandle" ∧ yX7_meltOneHour.cls ≠ "java/lang/invoke/VarHandle" ∧ (parseMethodDescriptor yX7_meltOneHour.desc).map (fun d => d.parameters.length) = some 0 := ⟨hdc_7.1, hdc_7.2, hdd_24⟩
theorem hdX7_cross : yX7_cross.cls ≠ "java/lang/invoke/MethodHandle" ∧ yX7_cross.cls ≠ "java/lang/invoke/VarHandle" ∧ (parseMethodDescriptor yX7_cross.desc).map (fun d => d.parameters.length) = some 2 := ⟨hdc_7.1, hdc_7.2, hdd_0⟩
def dtX7_begin_35_0 : List (Nat × Jvm.ClassFile.Instr × Nat) := [(0, .aload_n 0, 1), (1, .aload_n 1, 1), (2, .putfield 12, 3), (5, .aload_n 0, 1), (6, .iload_n 2, 1), (7, .putfield 29, 3), (10, .aload_n 0, 1), (11, .iload_n 3, 1), (12, .putfield 33, 3), (15, .aload_n 0, 1), (16, .iload 4, 2), (18, .putfield 36, 3), (21, .aload_n 0, 1), (22, .iload 5, 2), (24, .putfield 39, 3), (27, .aload_n 0, 1), (28, .iconst 0, 1), (29, .putfield 42, 3), (32, .aload_n 0, 1), (33, .iconst 1, 1), (34, .putfield 45, 3), (37, .return_, 1)]
theorem daX7_begin_35_0 : dtX7_begin_35_0.all (dqd cX7_begin) = true := by decide +kernel
theorem dX7_begin_0 : decode cX7_begin 0 = .ok (.aload_n 0, 1) := dq daX7_begin_35_0 0 rfl
theorem dX7_begin_1 : decode cX7_begin 1 = .ok (.aload_n 1, 1) := dq daX7_begin_35_0 1 rfl
theorem dX7_begin_2 : decode cX7_begin 2 = .ok (.putfield 12, 3) := dq daX7_begin_35_0 2 rfl
theorem dX7_begin_5 : decode cX7_begin 5 = .ok (.aload_n 0, 1) := dq daX7_begin_35_0 3 rfl
theorem dX7_begin_6 : decode cX7_begin 6 = .ok (.iload_n 2, 1) := dq daX7_begin_35_0 4 rfl
theorem dX7_begin_7 : decode cX7_begin 7 = .ok (.putfield 29, 3) := dq daX7_begin_35_0 5 rfl
theorem dX7_begin_10 : decode cX7_begin 10 = .ok (.aload_n 0, 1) := dq daX7_begin_35_0 6 rfl
theorem dX7_begin_11 : decode cX7_begin 11 = .ok (.iload_n 3, 1) := dq daX7_begin_35_0 7 rfl
theorem dX7_begin_12 : decode cX7_begin 12 = .ok (.putfield 33, 3) := dq daX7_begin_35_0 8 rfl
theorem dX7_begin_15 : decode cX7_begin 15 = .ok (.aload_n 0, 1) := dq daX7_begin_35_0 9 rfl
theorem dX7_begin_16 : decode cX7_begin 16 = .ok (.iload 4, 2) := dq daX7_begin_35_0 10 rfl
theorem dX7_begin_18 : decode cX7_begin 18 = .ok (.putfield 36, 3) := dq daX7_begin_35_0 11 rfl
theorem dX7_begin_21 : decode cX7_begin 21 = .ok (.aload_n 0, 1) := dq daX7_begin_35_0 12 rfl
theorem dX7_begin_22 : decode cX7_begin 22 = .ok (.iload 5, 2) := dq daX7_begin_35_0 13 rfl
theorem dX7_begin_24 : decode cX7_begin 24 = .ok (.putfield 39, 3) := dq daX7_begin_35_0 14 rfl
theorem dX7_begin_27 : decode cX7_begin 27 = .ok (.aload_n 0, 1) := dq daX7_begin_35_0 15 rfl
theorem dX7_begin_28 : decode cX7_begin 28 = .ok (.iconst 0, 1) := dq daX7_begin_35_0 16 rfl
theorem dX7_begin_29 : decode cX7_begin 29 = .ok (.putfield 42, 3) := dq daX7_begin_35_0 17 rfl
theorem dX7_begin_32 : decode cX7_begin 32 = .ok (.aload_n 0, 1) := dq daX7_begin_35_0 18 rfl
theorem dX7_begin_33 : decode cX7_begin 33 = .ok (.iconst 1, 1) := dq daX7_begin_35_0 19 rfl
theorem dX7_begin_34 : decode cX7_begin 34 = .ok (.putfield 45, 3) := dq daX7_begin_35_0 20 rfl
theorem dX7_begin_37 : decode cX7_begin 37 = .ok (.return_, 1) := dq daX7_begin_35_0 21 rfl
def dtX7_meltOneHour_35_0 : List (Nat × Jvm.ClassFile.Instr × Nat) := [(0, .aload_n 0, 1), (1, .getfield 33, 3), (4, .aload_n 0, 1), (5, .getfield 45, 3), (8, .if_icmp .lt 74, 3), (82, .aload_n 0, 1), (83, .dup, 1), (84, .getfield 29, 3), (87, .iconst 1, 1), (88, .iadd, 1), (89, .putfield 29, 3), (11, .aload_n 0, 1), (12, .getfield 21, 3), (15, .aload_n 0, 1), (16, .getfield 25, 3), (19, .aload_n 0, 1), (20, .getfield 29, 3), (23, .invokevirtual 55, 3), (26, .aload_n 0, 1), (27, .getfield 21, 3), (30, .aload_n 0, 1), (31, .getfield 33, 3), (34, .aload_n 0, 1), (35, .getfield 36, 3), (38, .aload_n 0, 1), (39, .getfield 39, 3), (42, .invokevirtual 58, 3), (45, .aload_n 0, 1), (46, .dup, 1), (47, .getfield 33, 3), (50, .aload_n 0, 1), (51, .getfield 12, 3)]
theorem daX7_meltOneHour_35_0 : dtX7_meltOneHour_35_0.all (dqd cX7_meltOneHour) = true := by decide +kernel
theorem dX7_meltOneHour_0 : decode cX7_meltOneHour 0 = .ok (.aload_n 0, 1) := dq daX7_meltOneHour_35_0 0 rfl
theorem dX7_meltOneHour_1 : decode cX7_meltOneHour 1 = .ok (.getfield 33, 3) := dq daX7_meltOneHour_35_0 1 rfl
theorem dX7_meltOneHour_4 : decode cX7_meltOneHour 4 = .ok (.aload_n 0, 1) := dq daX7_meltOneHour_35_0 2 rfl
theorem dX7_meltOneHour_5 : decode cX7_meltOneHour 5 = .ok (.getfield 45, 3) := dq daX7_meltOneHour_35_0 3 rfl
theorem dX7_meltOneHour_8 : decode cX7_meltOneHour 8 = .ok (.if_icmp .lt 74, 3) := dq daX7_meltOneHour_35_0 4 rfl
theorem dX7_meltOneHour_82 : decode cX7_meltOneHour 82 = .ok (.aload_n 0, 1) := dq daX7_meltOneHour_35_0 5 rfl
theorem dX7_meltOneHour_83 : decode cX7_meltOneHour 83 = .ok (.dup, 1) := dq daX7_meltOneHour_35_0 6 rfl
theorem dX7_meltOneHour_84 : decode cX7_meltOneHour 84 = .ok (.getfield 29, 3) := dq daX7_meltOneHour_35_0 7 rfl
theorem dX7_meltOneHour_87 : decode cX7_meltOneHour 87 = .ok (.iconst 1, 1) := dq daX7_meltOneHour_35_0 8 rfl
theorem dX7_meltOneHour_88 : decode cX7_meltOneHour 88 = .ok (.iadd, 1) := dq daX7_meltOneHour_35_0 9 rfl
theorem dX7_meltOneHour_89 : decode cX7_meltOneHour 89 = .ok (.putfield 29, 3) := dq daX7_meltOneHour_35_0 10 rfl
theorem dX7_meltOneHour_11 : decode cX7_meltOneHour 11 = .ok (.aload_n 0, 1) := dq daX7_meltOneHour_35_0 11 rfl
theorem dX7_meltOneHour_12 : decode cX7_meltOneHour 12 = .ok (.getfield 21, 3) := dq daX7_meltOneHour_35_0 12 rfl
theorem dX7_meltOneHour_15 : decode cX7_meltOneHour 15 = .ok (.aload_n 0, 1) := dq daX7_meltOneHour_35_0 13 rfl
theorem dX7_meltOneHour_16 : decode cX7_meltOneHour 16 = .ok (.getfield 25, 3) := dq daX7_meltOneHour_35_0 14 rfl
theorem dX7_meltOneHour_19 : decode cX7_meltOneHour 19 = .ok (.aload_n 0, 1) := dq daX7_meltOneHour_35_0 15 rfl
theorem dX7_meltOneHour_20 : decode cX7_meltOneHour 20 = .ok (.getfield 29, 3) := dq daX7_meltOneHour_35_0 16 rfl
theorem dX7_meltOneHour_23 : decode cX7_meltOneHour 23 = .ok (.invokevirtual 55, 3) := dq daX7_meltOneHour_35_0 17 rfl
theorem dX7_meltOneHour_26 : decode cX7_meltOneHour 26 = .ok (.aload_n 0, 1) := dq daX7_meltOneHour_35_0 18 rfl
theorem dX7_meltOneHour_27 : decode cX7_meltOneHour 27 = .ok (.getfield 21, 3) := dq daX7_meltOneHour_35_0 19 rfl
theorem dX7_meltOneHour_30 : decode cX7_meltOneHour 30 = .ok (.aload_n 0, 1) := dq daX7_meltOneHour_35_0 20 rfl
theorem dX7_meltOneHour_31 : decode cX7_meltOneHour 31 = .ok (.getfield 33, 3) := dq daX7_meltOneHour_35_0 21 rfl
theorem dX7_meltOneHour_34 : decode cX7_meltOneHour 34 = .ok (.aload_n 0, 1) := dq daX7_meltOneHour_35_0 22 rfl
theorem dX7_meltOneHour_35 : decode cX7_meltOneHour 35 = .ok (.getfield 36, 3) := dq daX7_meltOneHour_35_0 23 rfl
theorem dX7_meltOneHour_38 : decode cX7_meltOneHour 38 = .ok (.aload_n 0, 1) := dq daX7_meltOneHour_35_0 24 rfl
theorem dX7_meltOneHour_39 : decode cX7_meltOneHour 39 = .ok (.getfield 39, 3) := dq daX7_meltOneHour_35_0 25 rfl
theorem dX7_meltOneHour_42 : decode cX7_meltOneHour 42 = .ok (.invokevirtual 58, 3) := dq daX7_meltOneHour_35_0 26 rfl
theorem dX7_meltOneHour_45 : decode cX7_meltOneHour 45 = .ok (.aload_n 0, 1) := dq daX7_meltOneHour_35_0 27 rfl
theorem dX7_meltOneHour_46 : decode cX7_meltOneHour 46 = .ok (.dup, 1) := dq daX7_meltOneHour_35_0 28 rfl
theorem dX7_meltOneHour_47 : decode cX7_meltOneHour 47 = .ok (.getfield 33, 3) := dq daX7_meltOneHour_35_0 29 rfl
theorem dX7_meltOneHour_50 : decode cX7_meltOneHour 50 = .ok (.aload_n 0, 1) := dq daX7_meltOneHour_35_0 30 rfl
theorem dX7_meltOneHour_51 : decode cX7_meltOneHour 51 = .ok (.getfield 12, 3) := dq daX7_meltOneHour_35_0 31 rfl
def dtX7_meltOneHour_35_1 : List (Nat × Jvm.ClassFile.Instr × Nat) := [(54, .iconst 0, 1), (55, .aload_n 0, 1), (56, .getfield 21, 3), (59, .getfield 62, 3), (62, .invokevirtual 66, 3), (65, .aload_n 0, 1), (66, .getfield 42, 3), (69, .i2l, 1), (70, .ladd, 1), (71, .aload_n 0, 1), (72, .getfield 33, 3), (75, .invokestatic 70, 3), (78, .isub, 1), (79, .putfield 33, 3), (92, .return_, 1)]
theorem daX7_meltOneHour_35_1 : dtX7_meltOneHour_35_1.all (dqd cX7_meltOneHour) = true := by decide +kernel
theorem dX7_meltOneHour_54 : decode cX7_meltOneHour 54 = .ok (.iconst 0, 1) := dq daX7_meltOneHour_35_1 0 rfl
theorem dX7_meltOneHour_55 : decode cX7_meltOneHour 55 = .ok (.aload_n 0, 1) := dq daX7_meltOneHour_35_1 1 rfl
theorem dX7_meltOneHour_56 : decode cX7_meltOneHour 56 = .ok (.getfield 21, 3) := dq daX7_meltOneHour_35_1 2 rfl
theorem dX7_meltOneHour_59 : decode cX7_meltOneHour 59 = .ok (.getfield 62, 3) := dq daX7_meltOneHour_35_1 3 rfl
theorem dX7_meltOneHour_62 : decode cX7_meltOneHour 62 = .ok (.invokevirtual 66, 3) := dq daX7_meltOneHour_35_1 4 rfl
theorem dX7_meltOneHour_65 : decode cX7_meltOneHour 65 = .ok (.aload_n 0, 1) := dq daX7_meltOneHour_35_1 5 rfl
theorem dX7_meltOneHour_66 : decode cX7_meltOneHour 66 = .ok (.getfield 42, 3) := dq daX7_meltOneHour_35_1 6 rfl
theorem dX7_meltOneHour_69 : decode cX7_meltOneHour 69 = .ok (.i2l, 1) := dq daX7_meltOneHour_35_1 7 rfl
theorem dX7_meltOneHour_70 : decode cX7_meltOneHour 70 = .ok (.ladd, 1) := dq daX7_meltOneHour_35_1 8 rfl
theorem dX7_meltOneHour_71 : decode cX7_meltOneHour 71 = .ok (.aload_n 0, 1) := dq daX7_meltOneHour_35_1 9 rfl
theorem dX7_meltOneHour_72 : decode cX7_meltOneHour 72 = .ok (.getfield 33, 3) := dq daX7_meltOneHour_35_1 10 rfl
theorem dX7_meltOneHour_75 : decode cX7_meltOneHour 75 = .ok (.invokestatic 70, 3) := dq daX7_meltOneHour_35_1 11 rfl
theorem dX7_meltOneHour_78 : decode cX7_meltOneHour 78 = .ok (.isub, 1) := dq daX7_meltOneHour_35_1 12 rfl
theorem dX7_meltOneHour_79 : decode cX7_meltOneHour 79 = .ok (.putfield 33, 3) := dq daX7_meltOneHour_35_1 13 rfl
theorem dX7_meltOneHour_92 : decode cX7_meltOneHour 92 = .ok (.return_, 1) := dq daX7_meltOneHour_35_1 14 rfl
def dtX7_waitAt_35_0 : List (Nat × Jvm.ClassFile.Instr × Nat) := [(0, .aload_n 0, 1), (1, .getfield 21, 3), (4, .aload_n 0, 1), (5, .getfield 25, 3), (8, .iload_n 1, 1), (9, .invokevirtual 48, 3), (12, .aload_n 0, 1), (13, .invokevirtual 52, 3), (16, .return_, 1)]
theorem daX7_waitAt_35_0 : dtX7_waitAt_35_0.all (dqd cX7_waitAt) = true := by decide +kernel
theorem dX7_waitAt_0 : decode cX7_waitAt 0 = .ok (.aload_n 0, 1) := dq daX7_waitAt_35_0 0 rfl
theorem dX7_waitAt_1 : decode cX7_waitAt 1 = .ok (.getfield 21, 3) := dq daX7_waitAt_35_0 1 rfl
theorem dX7_waitAt_4 : decode cX7_waitAt 4 = .ok (.aload_n 0, 1) := dq daX7_waitAt_35_0 2 rfl
theorem dX7_waitAt_5 : decode cX7_waitAt 5 = .ok (.getfield 25, 3) := dq daX7_waitAt_35_0 3 rfl
theorem dX7_waitAt_8 : decode cX7_waitAt 8 = .ok (.iload_n 1, 1) := dq daX7_waitAt_35_0 4 rfl
theorem dX7_waitAt_9 : decode cX7_waitAt 9 = .ok (.invokevirtual 48, 3) := dq daX7_waitAt_35_0 5 rfl
theorem dX7_waitAt_12 : decode cX7_waitAt 12 = .ok (.aload_n 0, 1) := dq daX7_waitAt_35_0 6 rfl
theorem dX7_waitAt_13 : decode cX7_waitAt 13 = .ok (.invokevirtual 52, 3) := dq daX7_waitAt_35_0 7 rfl
theorem dX7_waitAt_16 : decode cX7_waitAt 16 = .ok (.return_, 1) := dq daX7_waitAt_35_0 8 rfl
def dtX7_cross_35_0 : List (Nat × Jvm.ClassFile.Instr × Nat) := [(0, .aload_n 0, 1), (1, .getfield 25, 3), (4, .iload_n 1, 1), (5, .iload_n 2, 1), (6, .invokevirtual 74, 3), (9, .istore_n 3, 1), (10, .aload_n 0, 1), (11, .getfield 25, 3), (14, .getfield 80, 3), (17, .iload_n 1, 1), (18, .iconst 2, 1), (19, .invokevirtual 84, 3), (22, .istore 4, 2), (24, .aload_n 0, 1), (25, .getfield 21, 3), (28, .aload_n 0, 1), (29, .getfield 25, 3), (32, .iload_n 1, 1), (33, .iload_n 3, 1), (34, .invokevirtual 89, 3), (37, .iconst 0, 1), (38, .istore 5, 2), (40, .iload 5, 2), (42, .iload 4, 2), (44, .if_icmp .ge 22, 3), (47, .aload_n 0, 1), (48, .getfield 21, 3), (51, .iload 5, 2), (53, .invokevirtual 93, 3), (56, .aload_n 0, 1), (57, .invokevirtual 52, 3), (60, .iinc 5 1, 3)]
theorem daX7_cross_35_0 : dtX7_cross_35_0.all (dqd cX7_cross) = true := by decide +kernel
theorem dX7_cross_0 : decode cX7_cross 0 = .ok (.aload_n 0, 1) := dq daX7_cross_35_0 0 rfl
theorem dX7_cross_1 : decode cX7_cross 1 = .ok (.getfield 25, 3) := dq daX7_cross_35_0 1 rfl
theorem dX7_cross_4 : decode cX7_cross 4 = .ok (.iload_n 1, 1) := dq daX7_cross_35_0 2 rfl
theorem dX7_cross_5 : decode cX7_cross 5 = .ok (.iload_n 2, 1) := dq daX7_cross_35_0 3 rfl
theorem dX7_cross_6 : decode cX7_cross 6 = .ok (.invokevirtual 74, 3) := dq daX7_cross_35_0 4 rfl
theorem dX7_cross_9 : decode cX7_cross 9 = .ok (.istore_n 3, 1) := dq daX7_cross_35_0 5 rfl
theorem dX7_cross_10 : decode cX7_cross 10 = .ok (.aload_n 0, 1) := dq daX7_cross_35_0 6 rfl
theorem dX7_cross_11 : decode cX7_cross 11 = .ok (.getfield 25, 3) := dq daX7_cross_35_0 7 rfl
theorem dX7_cross_14 : decode cX7_cross 14 = .ok (.getfield 80, 3) := dq daX7_cross_35_0 8 rfl
theorem dX7_cross_17 : decode cX7_cross 17 = .ok (.iload_n 1, 1) := dq daX7_cross_35_0 9 rfl
theorem dX7_cross_18 : decode cX7_cross 18 = .ok (.iconst 2, 1) := dq daX7_cross_35_0 10 rfl
theorem dX7_cross_19 : decode cX7_cross 19 = .ok (.invokevirtual 84, 3) := dq daX7_cross_35_0 11 rfl
theorem dX7_cross_22 : decode cX7_cross 22 = .ok (.istore 4, 2) := dq daX7_cross_35_0 12 rfl
theorem dX7_cross_24 : decode cX7_cross 24 = .ok (.aload_n 0, 1) := dq daX7_cross_35_0 13 rfl
theorem dX7_cross_25 : decode cX7_cross 25 = .ok (.getfield 21, 3) := dq daX7_cross_35_0 14 rfl
theorem dX7_cross_28 : decode cX7_cross 28 = .ok (.aload_n 0, 1) := dq daX7_cross_35_0 15 rfl
theorem dX7_cross_29 : decode cX7_cross 29 = .ok (.getfield 25, 3) := dq daX7_cross_35_0 16 rfl
theorem dX7_cross_32 : decode cX7_cross 32 = .ok (.iload_n 1, 1) := dq daX7_cross_35_0 17 rfl
theorem dX7_cross_33 : decode cX7_cross 33 = .ok (.iload_n 3, 1) := dq daX7_cross_35_0 18 rfl
theorem dX7_cross_34 : decode cX7_cross 34 = .ok (.invokevirtual 89, 3) := dq daX7_cross_35_0 19 rfl
theorem dX7_cross_37 : decode cX7_cross 37 = .ok (.iconst 0, 1) := dq daX7_cross_35_0 20 rfl
theorem dX7_cross_38 : decode cX7_cross 38 = .ok (.istore 5, 2) := dq daX7_cross_35_0 21 rfl
theorem dX7_cross_40 : decode cX7_cross 40 = .ok (.iload 5, 2) := dq daX7_cross_35_0 22 rfl
theorem dX7_cross_42 : decode cX7_cross 42 = .ok (.iload 4, 2) := dq daX7_cross_35_0 23 rfl
theorem dX7_cross_44 : decode cX7_cross 44 = .ok (.if_icmp .ge 22, 3) := dq daX7_cross_35_0 24 rfl
theorem dX7_cross_47 : decode cX7_cross 47 = .ok (.aload_n 0, 1) := dq daX7_cross_35_0 25 rfl
theorem dX7_cross_48 : decode cX7_cross 48 = .ok (.getfield 21, 3) := dq daX7_cross_35_0 26 rfl
theorem dX7_cross_51 : decode cX7_cross 51 = .ok (.iload 5, 2) := dq daX7_cross_35_0 27 rfl
theorem dX7_cross_53 : decode cX7_cross 53 = .ok (.invokevirtual 93, 3) := dq daX7_cross_35_0 28 rfl
theorem dX7_cross_56 : decode cX7_cross 56 = .ok (.aload_n 0, 1) := dq daX7_cross_35_0 29 rfl
theorem dX7_cross_57 : decode cX7_cross 57 = .ok (.invokevirtual 52, 3) := dq daX7_cross_35_0 30 rfl
theorem dX7_cross_60 : decode cX7_cross 60 = .ok (.iinc 5 1, 3) := dq daX7_cross_35_0 31 rfl
def dtX7_cross_35_1 : List (Nat × Jvm.ClassFile.Instr × Nat) := [(63, .goto (-23), 3), (66, .aload_n 0, 1), (67, .getfield 21, 3), (70, .aload_n 0, 1), (71, .getfield 25, 3), (74, .aload_n 0, 1), (75, .getfield 29, 3), (78, .invokevirtual 55, 3), (81, .aload_n 0, 1), (82, .getfield 21, 3), (85, .aload_n 0, 1), (86, .getfield 25, 3), (89, .iload_n 3, 1), (90, .invokevirtual 48, 3), (93, .aload_n 0, 1), (94, .getfield 21, 3), (97, .aload_n 0, 1), (98, .getfield 33, 3), (101, .aload_n 0, 1), (102, .getfield 36, 3), (105, .aload_n 0, 1), (106, .getfield 39, 3), (109, .invokevirtual 58, 3), (112, .aload_n 0, 1), (113, .getfield 33, 3), (116, .aload_n 0, 1), (117, .getfield 45, 3), (120, .if_icmp .lt 40, 3), (160, .iload_n 3, 1), (123, .aload_n 0, 1), (124, .dup, 1), (125, .getfield 33, 3)]
theorem daX7_cross_35_1 : dtX7_cross_35_1.all (dqd cX7_cross) = true := by decide +kernel
theorem dX7_cross_63 : decode cX7_cross 63 = .ok (.goto (-23), 3) := dq daX7_cross_35_1 0 rfl
theorem dX7_cross_66 : decode cX7_cross 66 = .ok (.aload_n 0, 1) := dq daX7_cross_35_1 1 rfl
theorem dX7_cross_67 : decode cX7_cross 67 = .ok (.getfield 21, 3) := dq daX7_cross_35_1 2 rfl
theorem dX7_cross_70 : decode cX7_cross 70 = .ok (.aload_n 0, 1) := dq daX7_cross_35_1 3 rfl
theorem dX7_cross_71 : decode cX7_cross 71 = .ok (.getfield 25, 3) := dq daX7_cross_35_1 4 rfl
theorem dX7_cross_74 : decode cX7_cross 74 = .ok (.aload_n 0, 1) := dq daX7_cross_35_1 5 rfl
theorem dX7_cross_75 : decode cX7_cross 75 = .ok (.getfield 29, 3) := dq daX7_cross_35_1 6 rfl
theorem dX7_cross_78 : decode cX7_cross 78 = .ok (.invokevirtual 55, 3) := dq daX7_cross_35_1 7 rfl
theorem dX7_cross_81 : decode cX7_cross 81 = .ok (.aload_n 0, 1) := dq daX7_cross_35_1 8 rfl
theorem dX7_cross_82 : decode cX7_cross 82 = .ok (.getfield 21, 3) := dq daX7_cross_35_1 9 rfl
theorem dX7_cross_85 : decode cX7_cross 85 = .ok (.aload_n 0, 1) := dq daX7_cross_35_1 10 rfl
theorem dX7_cross_86 : decode cX7_cross 86 = .ok (.getfield 25, 3) := dq daX7_cross_35_1 11 rfl
theorem dX7_cross_89 : decode cX7_cross 89 = .ok (.iload_n 3, 1) := dq daX7_cross_35_1 12 rfl
theorem dX7_cross_90 : decode cX7_cross 90 = .ok (.invokevirtual 48, 3) := dq daX7_cross_35_1 13 rfl
theorem dX7_cross_93 : decode cX7_cross 93 = .ok (.aload_n 0, 1) := dq daX7_cross_35_1 14 rfl
theorem dX7_cross_94 : decode cX7_cross 94 = .ok (.getfield 21, 3) := dq daX7_cross_35_1 15 rfl
theorem dX7_cross_97 : decode cX7_cross 97 = .ok (.aload_n 0, 1) := dq daX7_cross_35_1 16 rfl
theorem dX7_cross_98 : decode cX7_cross 98 = .ok (.getfield 33, 3) := dq daX7_cross_35_1 17 rfl
theorem dX7_cross_101 : decode cX7_cross 101 = .ok (.aload_n 0, 1) := dq daX7_cross_35_1 18 rfl
theorem dX7_cross_102 : decode cX7_cross 102 = .ok (.getfield 36, 3) := dq daX7_cross_35_1 19 rfl
theorem dX7_cross_105 : decode cX7_cross 105 = .ok (.aload_n 0, 1) := dq daX7_cross_35_1 20 rfl
theorem dX7_cross_106 : decode cX7_cross 106 = .ok (.getfield 39, 3) := dq daX7_cross_35_1 21 rfl
theorem dX7_cross_109 : decode cX7_cross 109 = .ok (.invokevirtual 58, 3) := dq daX7_cross_35_1 22 rfl
theorem dX7_cross_112 : decode cX7_cross 112 = .ok (.aload_n 0, 1) := dq daX7_cross_35_1 23 rfl
theorem dX7_cross_113 : decode cX7_cross 113 = .ok (.getfield 33, 3) := dq daX7_cross_35_1 24 rfl
theorem dX7_cross_116 : decode cX7_cross 116 = .ok (.aload_n 0, 1) := dq daX7_cross_35_1 25 rfl
theorem dX7_cross_117 : decode cX7_cross 117 = .ok (.getfield 45, 3) := dq daX7_cross_35_1 26 rfl
theorem dX7_cross_120 : decode cX7_cross 120 = .ok (.if_icmp .lt 40, 3) := dq daX7_cross_35_1 27 rfl
theorem dX7_cross_160 : decode cX7_cross 160 = .ok (.iload_n 3, 1) := dq daX7_cross_35_1 28 rfl
theorem dX7_cross_123 : decode cX7_cross 123 = .ok (.aload_n 0, 1) := dq daX7_cross_35_1 29 rfl
theorem dX7_cross_124 : decode cX7_cross 124 = .ok (.dup, 1) := dq daX7_cross_35_1 30 rfl
theorem dX7_cross_125 : decode cX7_cross 125 = .ok (.getfield 33, 3) := dq daX7_cross_35_1 31 rfl
def dtX7_cross_35_2 : List (Nat × Jvm.ClassFile.Instr × Nat) := [(128, .aload_n 0, 1), (129, .getfield 33, 3), (132, .aload_n 0, 1), (133, .getfield 12, 3), (136, .iconst 2, 1), (137, .aload_n 0, 1), (138, .getfield 21, 3), (141, .getfield 62, 3), (144, .invokevirtual 66, 3), (147, .bipush 100, 2), (149, .invokestatic 70, 3), (152, .imul, 1), (153, .bipush 100, 2), (155, .idiv, 1), (156, .isub, 1), (157, .putfield 33, 3), (161, .ireturn, 1)]
theorem daX7_cross_35_2 : dtX7_cross_35_2.all (dqd cX7_cross) = true := by decide +kernel
theorem dX7_cross_128 : decode cX7_cross 128 = .ok (.aload_n 0, 1) := dq daX7_cross_35_2 0 rfl
theorem dX7_cross_129 : decode cX7_cross 129 = .ok (.getfield 33, 3) := dq daX7_cross_35_2 1 rfl
theorem dX7_cross_132 : decode cX7_cross 132 = .ok (.aload_n 0, 1) := dq daX7_cross_35_2 2 rfl
theorem dX7_cross_133 : decode cX7_cross 133 = .ok (.getfield 12, 3) := dq daX7_cross_35_2 3 rfl
theorem dX7_cross_136 : decode cX7_cross 136 = .ok (.iconst 2, 1) := dq daX7_cross_35_2 4 rfl
theorem dX7_cross_137 : decode cX7_cross 137 = .ok (.aload_n 0, 1) := dq daX7_cross_35_2 5 rfl
theorem dX7_cross_138 : decode cX7_cross 138 = .ok (.getfield 21, 3) := dq daX7_cross_35_2 6 rfl
theorem dX7_cross_141 : decode cX7_cross 141 = .ok (.getfield 62, 3) := dq daX7_cross_35_2 7 rfl
theorem dX7_cross_144 : decode cX7_cross 144 = .ok (.invokevirtual 66, 3) := dq daX7_cross_35_2 8 rfl
theorem dX7_cross_147 : decode cX7_cross 147 = .ok (.bipush 100, 2) := dq daX7_cross_35_2 9 rfl
theorem dX7_cross_149 : decode cX7_cross 149 = .ok (.invokestatic 70, 3) := dq daX7_cross_35_2 10 rfl
theorem dX7_cross_152 : decode cX7_cross 152 = .ok (.imul, 1) := dq daX7_cross_35_2 11 rfl
theorem dX7_cross_153 : decode cX7_cross 153 = .ok (.bipush 100, 2) := dq daX7_cross_35_2 12 rfl
theorem dX7_cross_155 : decode cX7_cross 155 = .ok (.idiv, 1) := dq daX7_cross_35_2 13 rfl
theorem dX7_cross_156 : decode cX7_cross 156 = .ok (.isub, 1) := dq daX7_cross_35_2 14 rfl
theorem dX7_cross_157 : decode cX7_cross 157 = .ok (.putfield 33, 3) := dq daX7_cross_35_2 15 rfl
theorem dX7_cross_161 : decode cX7_cross 161 = .ok (.ireturn, 1) := dq daX7_cross_35_2 16 rfl
def dtX7_followKeeping_35_0 : List (Nat × Jvm.ClassFile.Instr × Nat) := [(0, .aload_n 0, 1), (1, .getfield 25, 3), (4, .getfield 97, 3), (7, .istore_n 2, 1), (8, .iconst 0, 1), (9, .istore_n 3, 1), (10, .iload_n 3, 1), (11, .aload_n 0, 1), (12, .getfield 25, 3), (15, .getfield 100, 3), (18, .getfield 103, 3), (21, .if_icmp .ge 35, 3), (24, .aload_n 0, 1), (25, .getfield 33, 3), (28, .iload_n 1, 1), (29, .if_icmp .lt 27, 3), (32, .aload_n 0, 1), (33, .aload_n 0, 1), (34, .getfield 25, 3), (37, .getfield 100, 3), (40, .iload_n 3, 1), (41, .iconst 0, 1), (42, .invokevirtual 84, 3), (45, .iload_n 2, 1), (46, .invokevirtual 106, 3), (49, .istore_n 2, 1), (50, .iinc 3 1, 3), (53, .goto (-43), 3), (56, .aload_n 0, 1), (57, .getfield 33, 3), (60, .iload_n 1, 1), (61, .if_icmp .lt 7, 3)]
theorem daX7_followKeeping_35_0 : dtX7_followKeeping_35_0.all (dqd cX7_followKeeping) = true := by decide +kernel
theorem dX7_followKeeping_0 : decode cX7_followKeeping 0 = .ok (.aload_n 0, 1) := dq daX7_followKeeping_35_0 0 rfl
theorem dX7_followKeeping_1 : decode cX7_followKeeping 1 = .ok (.getfield 25, 3) := dq daX7_followKeeping_35_0 1 rfl
theorem dX7_followKeeping_4 : decode cX7_followKeeping 4 = .ok (.getfield 97, 3) := dq daX7_followKeeping_35_0 2 rfl
theorem dX7_followKeeping_7 : decode cX7_followKeeping 7 = .ok (.istore_n 2, 1) := dq daX7_followKeeping_35_0 3 rfl
theorem dX7_followKeeping_8 : decode cX7_followKeeping 8 = .ok (.iconst 0, 1) := dq daX7_followKeeping_35_0 4 rfl
theorem dX7_followKeeping_9 : decode cX7_followKeeping 9 = .ok (.istore_n 3, 1) := dq daX7_followKeeping_35_0 5 rfl
theorem dX7_followKeeping_10 : decode cX7_followKeeping 10 = .ok (.iload_n 3, 1) := dq daX7_followKeeping_35_0 6 rfl
theorem dX7_followKeeping_11 : decode cX7_followKeeping 11 = .ok (.aload_n 0, 1) := dq daX7_followKeeping_35_0 7 rfl
theorem dX7_followKeeping_12 : decode cX7_followKeeping 12 = .ok (.getfield 25, 3) := dq daX7_followKeeping_35_0 8 rfl
theorem dX7_followKeeping_15 : decode cX7_followKeeping 15 = .ok (.getfield 100, 3) := dq daX7_followKeeping_35_0 9 rfl
theorem dX7_followKeeping_18 : decode cX7_followKeeping 18 = .ok (.getfield 103, 3) := dq daX7_followKeeping_35_0 10 rfl
theorem dX7_followKeeping_21 : decode cX7_followKeeping 21 = .ok (.if_icmp .ge 35, 3) := dq daX7_followKeeping_35_0 11 rfl
theorem dX7_followKeeping_24 : decode cX7_followKeeping 24 = .ok (.aload_n 0, 1) := dq daX7_followKeeping_35_0 12 rfl
theorem dX7_followKeeping_25 : decode cX7_followKeeping 25 = .ok (.getfield 33, 3) := dq daX7_followKeeping_35_0 13 rfl
theorem dX7_followKeeping_28 : decode cX7_followKeeping 28 = .ok (.iload_n 1, 1) := dq daX7_followKeeping_35_0 14 rfl
theorem dX7_followKeeping_29 : decode cX7_followKeeping 29 = .ok (.if_icmp .lt 27, 3) := dq daX7_followKeeping_35_0 15 rfl
theorem dX7_followKeeping_32 : decode cX7_followKeeping 32 = .ok (.aload_n 0, 1) := dq daX7_followKeeping_35_0 16 rfl
theorem dX7_followKeeping_33 : decode cX7_followKeeping 33 = .ok (.aload_n 0, 1) := dq daX7_followKeeping_35_0 17 rfl
theorem dX7_followKeeping_34 : decode cX7_followKeeping 34 = .ok (.getfield 25, 3) := dq daX7_followKeeping_35_0 18 rfl
theorem dX7_followKeeping_37 : decode cX7_followKeeping 37 = .ok (.getfield 100, 3) := dq daX7_followKeeping_35_0 19 rfl
theorem dX7_followKeeping_40 : decode cX7_followKeeping 40 = .ok (.iload_n 3, 1) := dq daX7_followKeeping_35_0 20 rfl
theorem dX7_followKeeping_41 : decode cX7_followKeeping 41 = .ok (.iconst 0, 1) := dq daX7_followKeeping_35_0 21 rfl
theorem dX7_followKeeping_42 : decode cX7_followKeeping 42 = .ok (.invokevirtual 84, 3) := dq daX7_followKeeping_35_0 22 rfl
theorem dX7_followKeeping_45 : decode cX7_followKeeping 45 = .ok (.iload_n 2, 1) := dq daX7_followKeeping_35_0 23 rfl
theorem dX7_followKeeping_46 : decode cX7_followKeeping 46 = .ok (.invokevirtual 106, 3) := dq daX7_followKeeping_35_0 24 rfl
theorem dX7_followKeeping_49 : decode cX7_followKeeping 49 = .ok (.istore_n 2, 1) := dq daX7_followKeeping_35_0 25 rfl
theorem dX7_followKeeping_50 : decode cX7_followKeeping 50 = .ok (.iinc 3 1, 3) := dq daX7_followKeeping_35_0 26 rfl
theorem dX7_followKeeping_53 : decode cX7_followKeeping 53 = .ok (.goto (-43), 3) := dq daX7_followKeeping_35_0 27 rfl
theorem dX7_followKeeping_56 : decode cX7_followKeeping 56 = .ok (.aload_n 0, 1) := dq daX7_followKeeping_35_0 28 rfl
theorem dX7_followKeeping_57 : decode cX7_followKeeping 57 = .ok (.getfield 33, 3) := dq daX7_followKeeping_35_0 29 rfl
theorem dX7_followKeeping_60 : decode cX7_followKeeping 60 = .ok (.iload_n 1, 1) := dq daX7_followKeeping_35_0 30 rfl
theorem dX7_followKeeping_61 : decode cX7_followKeeping 61 = .ok (.if_icmp .lt 7, 3) := dq daX7_followKeeping_35_0 31 rfl
def dtX7_followKeeping_35_1 : List (Nat × Jvm.ClassFile.Instr × Nat) := [(68, .iconst 0, 1), (64, .iconst 1, 1), (65, .goto 4, 3), (69, .ireturn, 1)]
theorem daX7_followKeeping_35_1 : dtX7_followKeeping_35_1.all (dqd cX7_followKeeping) = true := by decide +kernel
theorem dX7_followKeeping_68 : decode cX7_followKeeping 68 = .ok (.iconst 0, 1) := dq daX7_followKeeping_35_1 0 rfl
theorem dX7_followKeeping_64 : decode cX7_followKeeping 64 = .ok (.iconst 1, 1) := dq daX7_followKeeping_35_1 1 rfl
theorem dX7_followKeeping_65 : decode cX7_followKeeping 65 = .ok (.goto 4, 3) := dq daX7_followKeeping_35_1 2 rfl
theorem dX7_followKeeping_69 : decode cX7_followKeeping 69 = .ok (.ireturn, 1) := dq daX7_followKeeping_35_1 3 rfl
def dtX7_venture_35_0 : List (Nat × Jvm.ClassFile.Instr × Nat) := [(0, .aload_n 0, 1), (1, .getfield 25, 3), (4, .getfield 97, 3), (7, .istore_n 1, 1), (8, .iconst 0, 1), (9, .istore_n 2, 1), (10, .iload_n 2, 1), (11, .aload_n 0, 1), (12, .getfield 25, 3), (15, .getfield 100, 3), (18, .getfield 103, 3), (21, .if_icmp .ge 113, 3), (24, .aload_n 0, 1), (25, .getfield 25, 3), (28, .getfield 100, 3), (31, .iload_n 2, 1), (32, .iconst 0, 1), (33, .invokevirtual 84, 3), (36, .istore_n 3, 1), (37, .aload_n 0, 1), (38, .iload_n 3, 1), (39, .iload_n 1, 1), (40, .invokevirtual 106, 3), (43, .istore_n 1, 1), (44, .aload_n 0, 1), (45, .getfield 25, 3), (48, .invokevirtual 109, 3), (51, .sipush 1000, 3), (54, .irem, 1), (55, .aload_n 0, 1), (56, .getfield 25, 3), (59, .getfield 80, 3)]
theorem daX7_venture_35_0 : dtX7_venture_35_0.all (dqd cX7_venture) = true := by decide +kernel
theorem dX7_venture_0 : decode cX7_venture 0 = .ok (.aload_n 0, 1) := dq daX7_venture_35_0 0 rfl
theorem dX7_venture_1 : decode cX7_venture 1 = .ok (.getfield 25, 3) := dq daX7_venture_35_0 1 rfl
theorem dX7_venture_4 : decode cX7_venture 4 = .ok (.getfield 97, 3) := dq daX7_venture_35_0 2 rfl
theorem dX7_venture_7 : decode cX7_venture 7 = .ok (.istore_n 1, 1) := dq daX7_venture_35_0 3 rfl
theorem dX7_venture_8 : decode cX7_venture 8 = .ok (.iconst 0, 1) := dq daX7_venture_35_0 4 rfl
theorem dX7_venture_9 : decode cX7_venture 9 = .ok (.istore_n 2, 1) := dq daX7_venture_35_0 5 rfl
theorem dX7_venture_10 : decode cX7_venture 10 = .ok (.iload_n 2, 1) := dq daX7_venture_35_0 6 rfl
theorem dX7_venture_11 : decode cX7_venture 11 = .ok (.aload_n 0, 1) := dq daX7_venture_35_0 7 rfl
theorem dX7_venture_12 : decode cX7_venture 12 = .ok (.getfield 25, 3) := dq daX7_venture_35_0 8 rfl
theorem dX7_venture_15 : decode cX7_venture 15 = .ok (.getfield 100, 3) := dq daX7_venture_35_0 9 rfl
theorem dX7_venture_18 : decode cX7_venture 18 = .ok (.getfield 103, 3) := dq daX7_venture_35_0 10 rfl
theorem dX7_venture_21 : decode cX7_venture 21 = .ok (.if_icmp .ge 113, 3) := dq daX7_venture_35_0 11 rfl
theorem dX7_venture_24 : decode cX7_venture 24 = .ok (.aload_n 0, 1) := dq daX7_venture_35_0 12 rfl
theorem dX7_venture_25 : decode cX7_venture 25 = .ok (.getfield 25, 3) := dq daX7_venture_35_0 13 rfl
theorem dX7_venture_28 : decode cX7_venture 28 = .ok (.getfield 100, 3) := dq daX7_venture_35_0 14 rfl
theorem dX7_venture_31 : decode cX7_venture 31 = .ok (.iload_n 2, 1) := dq daX7_venture_35_0 15 rfl
theorem dX7_venture_32 : decode cX7_venture 32 = .ok (.iconst 0, 1) := dq daX7_venture_35_0 16 rfl
theorem dX7_venture_33 : decode cX7_venture 33 = .ok (.invokevirtual 84, 3) := dq daX7_venture_35_0 17 rfl
theorem dX7_venture_36 : decode cX7_venture 36 = .ok (.istore_n 3, 1) := dq daX7_venture_35_0 18 rfl
theorem dX7_venture_37 : decode cX7_venture 37 = .ok (.aload_n 0, 1) := dq daX7_venture_35_0 19 rfl
theorem dX7_venture_38 : decode cX7_venture 38 = .ok (.iload_n 3, 1) := dq daX7_venture_35_0 20 rfl
theorem dX7_venture_39 : decode cX7_venture 39 = .ok (.iload_n 1, 1) := dq daX7_venture_35_0 21 rfl
theorem dX7_venture_40 : decode cX7_venture 40 = .ok (.invokevirtual 106, 3) := dq daX7_venture_35_0 22 rfl
theorem dX7_venture_43 : decode cX7_venture 43 = .ok (.istore_n 1, 1) := dq daX7_venture_35_0 23 rfl
theorem dX7_venture_44 : decode cX7_venture 44 = .ok (.aload_n 0, 1) := dq daX7_venture_35_0 24 rfl
theorem dX7_venture_45 : decode cX7_venture 45 = .ok (.getfield 25, 3) := dq daX7_venture_35_0 25 rfl
theorem dX7_venture_48 : decode cX7_venture 48 = .ok (.invokevirtual 109, 3) := dq daX7_venture_35_0 26 rfl
theorem dX7_venture_51 : decode cX7_venture 51 = .ok (.sipush 1000, 3) := dq daX7_venture_35_0 27 rfl
theorem dX7_venture_54 : decode cX7_venture 54 = .ok (.irem, 1) := dq daX7_venture_35_0 28 rfl
theorem dX7_venture_55 : decode cX7_venture 55 = .ok (.aload_n 0, 1) := dq daX7_venture_35_0 29 rfl
theorem dX7_venture_56 : decode cX7_venture 56 = .ok (.getfield 25, 3) := dq daX7_venture_35_0 30 rfl
theorem dX7_venture_59 : decode cX7_venture 59 = .ok (.getfield 80, 3) := dq daX7_venture_35_0 31 rfl
def dtX7_venture_35_1 : List (Nat × Jvm.ClassFile.Instr × Nat) := [(62, .iload_n 3, 1), (63, .iconst 4, 1), (64, .invokevirtual 84, 3), (67, .if_icmp .ge 5, 3), (72, .aload_n 0, 1), (73, .getfield 21, 3), (76, .aload_n 0, 1), (77, .getfield 33, 3), (80, .aload_n 0, 1), (81, .getfield 36, 3), (84, .aload_n 0, 1), (85, .getfield 39, 3), (88, .invokevirtual 58, 3), (91, .aload_n 0, 1), (92, .getfield 25, 3), (95, .invokevirtual 109, 3), (98, .sipush 1000, 3), (101, .irem, 1), (102, .aload_n 0, 1), (103, .getfield 12, 3), (106, .iconst 3, 1), (107, .aload_n 0, 1), (108, .getfield 21, 3), (111, .getfield 62, 3), (114, .invokevirtual 66, 3), (117, .sipush 1000, 3), (120, .invokestatic 70, 3), (123, .if_icmp .ge 5, 3), (128, .iinc 2 1, 3), (131, .goto (-121), 3), (70, .iconst 1, 1), (126, .iconst 2, 1)]
theorem daX7_venture_35_1 : dtX7_venture_35_1.all (dqd cX7_venture) = true := by decide +kernel
theorem dX7_venture_62 : decode cX7_venture 62 = .ok (.iload_n 3, 1) := dq daX7_venture_35_1 0 rfl
theorem dX7_venture_63 : decode cX7_venture 63 = .ok (.iconst 4, 1) := dq daX7_venture_35_1 1 rfl
theorem dX7_venture_64 : decode cX7_venture 64 = .ok (.invokevirtual 84, 3) := dq daX7_venture_35_1 2 rfl
theorem dX7_venture_67 : decode cX7_venture 67 = .ok (.if_icmp .ge 5, 3) := dq daX7_venture_35_1 3 rfl
theorem dX7_venture_72 : decode cX7_venture 72 = .ok (.aload_n 0, 1) := dq daX7_venture_35_1 4 rfl
theorem dX7_venture_73 : decode cX7_venture 73 = .ok (.getfield 21, 3) := dq daX7_venture_35_1 5 rfl
theorem dX7_venture_76 : decode cX7_venture 76 = .ok (.aload_n 0, 1) := dq daX7_venture_35_1 6 rfl
theorem dX7_venture_77 : decode cX7_venture 77 = .ok (.getfield 33, 3) := dq daX7_venture_35_1 7 rfl
theorem dX7_venture_80 : decode cX7_venture 80 = .ok (.aload_n 0, 1) := dq daX7_venture_35_1 8 rfl
theorem dX7_venture_81 : decode cX7_venture 81 = .ok (.getfield 36, 3) := dq daX7_venture_35_1 9 rfl
theorem dX7_venture_84 : decode cX7_venture 84 = .ok (.aload_n 0, 1) := dq daX7_venture_35_1 10 rfl
theorem dX7_venture_85 : decode cX7_venture 85 = .ok (.getfield 39, 3) := dq daX7_venture_35_1 11 rfl
theorem dX7_venture_88 : decode cX7_venture 88 = .ok (.invokevirtual 58, 3) := dq daX7_venture_35_1 12 rfl
theorem dX7_venture_91 : decode cX7_venture 91 = .ok (.aload_n 0, 1) := dq daX7_venture_35_1 13 rfl
theorem dX7_venture_92 : decode cX7_venture 92 = .ok (.getfield 25, 3) := dq daX7_venture_35_1 14 rfl
theorem dX7_venture_95 : decode cX7_venture 95 = .ok (.invokevirtual 109, 3) := dq daX7_venture_35_1 15 rfl
theorem dX7_venture_98 : decode cX7_venture 98 = .ok (.sipush 1000, 3) := dq daX7_venture_35_1 16 rfl
theorem dX7_venture_101 : decode cX7_venture 101 = .ok (.irem, 1) := dq daX7_venture_35_1 17 rfl
theorem dX7_venture_102 : decode cX7_venture 102 = .ok (.aload_n 0, 1) := dq daX7_venture_35_1 18 rfl
theorem dX7_venture_103 : decode cX7_venture 103 = .ok (.getfield 12, 3) := dq daX7_venture_35_1 19 rfl
theorem dX7_venture_106 : decode cX7_venture 106 = .ok (.iconst 3, 1) := dq daX7_venture_35_1 20 rfl
theorem dX7_venture_107 : decode cX7_venture 107 = .ok (.aload_n 0, 1) := dq daX7_venture_35_1 21 rfl
theorem dX7_venture_108 : decode cX7_venture 108 = .ok (.getfield 21, 3) := dq daX7_venture_35_1 22 rfl
theorem dX7_venture_111 : decode cX7_venture 111 = .ok (.getfield 62, 3) := dq daX7_venture_35_1 23 rfl
theorem dX7_venture_114 : decode cX7_venture 114 = .ok (.invokevirtual 66, 3) := dq daX7_venture_35_1 24 rfl
theorem dX7_venture_117 : decode cX7_venture 117 = .ok (.sipush 1000, 3) := dq daX7_venture_35_1 25 rfl
theorem dX7_venture_120 : decode cX7_venture 120 = .ok (.invokestatic 70, 3) := dq daX7_venture_35_1 26 rfl
theorem dX7_venture_123 : decode cX7_venture 123 = .ok (.if_icmp .ge 5, 3) := dq daX7_venture_35_1 27 rfl
theorem dX7_venture_128 : decode cX7_venture 128 = .ok (.iinc 2 1, 3) := dq daX7_venture_35_1 28 rfl
theorem dX7_venture_131 : decode cX7_venture 131 = .ok (.goto (-121), 3) := dq daX7_venture_35_1 29 rfl
theorem dX7_venture_70 : decode cX7_venture 70 = .ok (.iconst 1, 1) := dq daX7_venture_35_1 30 rfl
theorem dX7_venture_126 : decode cX7_venture 126 = .ok (.iconst 2, 1) := dq daX7_venture_35_1 31 rfl
def dtX7_venture_35_2 : List (Nat × Jvm.ClassFile.Instr × Nat) := [(134, .iconst 0, 1), (71, .ireturn, 1), (127, .ireturn, 1), (135, .ireturn, 1)]
theorem daX7_venture_35_2 : dtX7_venture_35_2.all (dqd cX7_venture) = true := by decide +kernel
theorem dX7_venture_134 : decode cX7_venture 134 = .ok (.iconst 0, 1) := dq daX7_venture_35_2 0 rfl
theorem dX7_venture_71 : decode cX7_venture 71 = .ok (.ireturn, 1) := dq daX7_venture_35_2 1 rfl
theorem dX7_venture_127 : decode cX7_venture 127 = .ok (.ireturn, 1) := dq daX7_venture_35_2 2 rfl
theorem dX7_venture_135 : decode cX7_venture 135 = .ok (.ireturn, 1) := dq daX7_venture_35_2 3 rfl
