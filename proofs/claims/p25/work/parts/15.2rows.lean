theorem kX11_summed_1 {a : Array Value} {s : State} (hts : ∀ w ∈ wsX11_summed, w.before a s = true) : (.fieldLink RX11 23 "SnowMulesModel" "clauses" "[I" : Cond).before a s = true := kw (A := ixX11_summed) wt147 hts (by decide +kernel)
theorem kX11_summed_2 {a : Array Value} {s : State} (hts : ∀ w ∈ wsX11_summed, w.before a s = true) : (.fieldLink RX11 20 "SnowMulesModel" "clause" "[I" : Cond).before a s = true := kw (A := ixX11_summed) wt146 hts (by decide +kernel)
theorem kX11_meltOf_1 {a : Array Value} {s : State} (hts : ∀ w ∈ wsX11_meltOf, w.before a s = true) : (.fieldLink RX11 39 "SnowMulesModel" "said" "[I" : Cond).before a s = true := kw (A := ixX11_meltOf) wt153 hts (by decide +kernel)
theorem kX11_bursts_1 {a : Array Value} {s : State} (hts : ∀ w ∈ wsX11_bursts, w.before a s = true) : (.fieldLink RX11 39 "SnowMulesModel" "said" "[I" : Cond).before a s = true := kw (A := ixX11_bursts) wt153 hts (by decide +kernel)
theorem kX11_bursts_2 {a : Array Value} {s : State} (hts : ∀ w ∈ wsX11_bursts, w.before a s = true) : (.fieldLink RX11 26 "SnowMulesModel" "chain" "[I" : Cond).before a s = true := kw (A := ixX11_bursts) wt148 hts (by decide +kernel)
theorem kX11_comes_1 {a : Array Value} {s : State} (hts : ∀ w ∈ wsX11_comes, w.before a s = true) : (.fieldLink RX11 39 "SnowMulesModel" "said" "[I" : Cond).before a s = true := kw (A := ixX11_comes) wt153 hts (by decide +kernel)
theorem kX11_comes_2 {a : Array Value} {s : State} (hts : ∀ w ∈ wsX11_comes, w.before a s = true) : (.constantLong RX11 349 (100) : Cond).before a s = true := kw (A := ixX11_comes) wt862 hts (by decide +kernel)
theorem kX11_comes_3 {a : Array Value} {s : State} (hts : ∀ w ∈ wsX11_comes, w.before a s = true) : (.constantLong RX11 272 (1000) : Cond).before a s = true := kw (A := ixX11_comes) wt208 hts (by decide +kernel)
theorem kX11_hour_1 {a : Array Value} {s : State} (hts : ∀ w ∈ wsX11_hour, w.before a s = true) : (.fieldLink RX11 39 "SnowMulesModel" "said" "[I" : Cond).before a s = true := kw (A := ixX11_hour) wt153 hts (by decide +kernel)
theorem kX11_tick_1 {a : Array Value} {s : State} (hts : ∀ w ∈ wsX11_tick, w.before a s = true) : (.constantLong RX11 366 (240) : Cond).before a s = true := kw (A := ixX11_tick) wt805 hts (by decide +kernel)
theorem kX11_tick_2 {a : Array Value} {s : State} (hts : ∀ w ∈ wsX11_tick, w.before a s = true) : (.fieldLink RX11 39 "SnowMulesModel" "said" "[I" : Cond).before a s = true := kw (A := ixX11_tick) wt153 hts (by decide +kernel)
theorem kX11_tick_3 {a : Array Value} {s : State} (hts : ∀ w ∈ wsX11_tick, w.before a s = true) : (.constant RX11 164 (99999) : Cond).before a s = true := kw (A := ixX11_tick) wt511 hts (by decide +kernel)
theorem iX11_summed_X11 : ∀ w ∈ wsX110, w ∈ wsX11_summed := inW (A := ixX11_summed) uwX11 (by decide +kernel)
theorem iX11_meltOf_X11 : ∀ w ∈ wsX110, w ∈ wsX11_meltOf := inW (A := ixX11_meltOf) uwX11 (by decide +kernel)
theorem iX11_bursts_X11 : ∀ w ∈ wsX110, w ∈ wsX11_bursts := inW (A := ixX11_bursts) uwX11 (by decide +kernel)
theorem iX11_comes_X11 : ∀ w ∈ wsX110, w ∈ wsX11_comes := inW (A := ixX11_comes) uwX11 (by decide +kernel)
theorem iX11_hour_X11 : ∀ w ∈ wsX110, w ∈ wsX11_hour := inW (A := ixX11_hour) uwX11 (by decide +kernel)
theorem iX11_tick_X11 : ∀ w ∈ wsX110, w ∈ wsX11_tick := inW (A := ixX11_tick) uwX11 (by decide +kernel)
theorem hdX11_reckons : yX11_reckons.cls ≠ "java/lang/invoke/MethodHandle" ∧ yX11_reckons.cls ≠ "java/lang/invoke/VarHandle" ∧ (parseMethodDescriptor yX11_reckons.desc).map (fun d => d.parameters.length) = some 3 := ⟨hdc_0.1, hdc_0.2, hdd_11⟩
theorem hdX11_summed : yX11_summed.cls ≠ "java/lang/invoke/MethodHandle" ∧ yX11_summed.cls ≠ "java/lang/invoke/VarHandle" ∧ (parseMethodDescriptor yX11_summed.desc).map (fun d => d.parameters.length) = some 2 := ⟨hdc_0.1, hdc_0.2, hdd_12⟩
theorem hdX11_bounded : yX11_bounded.cls ≠ "java/lang/invoke/MethodHandle" ∧ yX11_bounded.cls ≠ "java/lang/invoke/VarHandle" ∧ (parseMethodDescriptor yX11_bounded.desc).map (fun d => d.parameters.length) = some 3 := ⟨hdc_0.1, hdc_0.2, hdd_13⟩
theorem hdX11_nodeWords : yX11_nodeWords.cls ≠ "java/lang/invoke/MethodHandle" ∧ yX11_nodeWords.cls ≠ "java/lang/invoke/VarHandle" ∧ (parseMethodDescriptor yX11_nodeWords.desc).map (fun d => d.parameters.length) = some 5 := ⟨hdc_0.1, hdc_0.2, hdd_14⟩
theorem hdX11_meltBy : yX11_meltBy.cls ≠ "java/lang/invoke/MethodHandle" ∧ yX11_meltBy.cls ≠ "java/lang/invoke/VarHandle" ∧ (parseMethodDescriptor yX11_meltBy.desc).map (fun d => d.parameters.length) = some 3 := ⟨hdc_0.1, hdc_0.2, hdd_15⟩
theorem hdX11_passWords : yX11_passWords.cls ≠ "java/lang/invoke/MethodHandle" ∧ yX11_passWords.cls ≠ "java/lang/invoke/VarHandle" ∧ (parseMethodDescriptor yX11_passWords.desc).map (fun d => d.parameters.length) = some 7 := ⟨hdc_0.1, hdc_0.2, hdd_16⟩
theorem hdX11_meltOf : yX11_meltOf.cls ≠ "java/lang/invoke/MethodHandle" ∧ yX11_meltOf.cls ≠ "java/lang/invoke/VarHandle" ∧ (parseMethodDescriptor yX11_meltOf.desc).map (fun d => d.parameters.length) = some 2 := ⟨hdc_0.1, hdc_0.2, hdd_0⟩
theorem hdX11_goesFor : yX11_goesFor.cls ≠ "java/lang/invoke/MethodHandle" ∧ yX11_goesFor.cls ≠ "java/lang/invoke/VarHandle" ∧ (parseMethodDescriptor yX11_goesFor.desc).map (fun d => d.parameters.length) = some 1 := ⟨hdc_0.1, hdc_0.2, hdd_17⟩
theorem hdX11_draw : yX11_draw.cls ≠ "java/lang/invoke/MethodHandle" ∧ yX11_draw.cls ≠ "java/lang/invoke/VarHandle" ∧ (parseMethodDescriptor yX11_draw.desc).map (fun d => d.parameters.length) = some 0 := ⟨hdc_0.1, hdc_0.2, hdd_6⟩
theorem hdX11_bursts : yX11_bursts.cls ≠ "java/lang/invoke/MethodHandle" ∧ yX11_bursts.cls ≠ "java/lang/invoke/VarHandle" ∧ (parseMethodDescriptor yX11_bursts.desc).map (fun d => d.parameters.length) = some 4 := ⟨hdc_0.1, hdc_0.2, hdd_5⟩
theorem hdX11_comes : yX11_comes.cls ≠ "java/lang/invoke/MethodHandle" ∧ yX11_comes.cls ≠ "java/lang/invoke/VarHandle" ∧ (parseMethodDescriptor yX11_comes.desc).map (fun d => d.parameters.length) = some 2 := ⟨hdc_0.1, hdc_0.2, hdd_18⟩
theorem hdX11_hour : yX11_hour.cls ≠ "java/lang/invoke/MethodHandle" ∧ yX11_hour.cls ≠ "java/lang/invoke/VarHandle" ∧ (parseMethodDescriptor yX11_hour.desc).map (fun d => d.parameters.length) = some 1 := ⟨hdc_0.1, hdc_0.2, hdd_17⟩
def dtX11_summed_15_0 : List (Nat × Jvm.ClassFile.Instr × Nat) := [(0, .iconst 0, 1), (1, .istore_n 3, 1), (2, .iload_n 3, 1), (3, .aload_n 0, 1), (4, .getfield 23, 3), (7, .iload_n 1, 1), (8, .iaload, 1), (9, .if_icmp .ge 97, 3), (12, .bipush 60, 2), (14, .iload_n 1, 1), (15, .imul, 1), (16, .iconst 5, 1), (17, .iload_n 3, 1), (18, .imul, 1), (19, .iadd, 1), (20, .istore 4, 2), (22, .aload_n 0, 1), (23, .getfield 20, 3), (26, .iload 4, 2), (28, .iaload, 1), (29, .iload_n 2, 1), (30, .if_icmp .ne 70, 3), (100, .iinc 3 1, 3), (103, .goto (-101), 3), (33, .aload_n 0, 1), (34, .getfield 20, 3), (37, .iload 4, 2), (39, .iconst 3, 1), (40, .iadd, 1), (41, .iaload, 1), (42, .ifCond .lt 34, 3), (45, .aload_n 0, 1)]
theorem daX11_summed_15_0 : dtX11_summed_15_0.all (dqd cX11_summed) = true := by decide +kernel
theorem dX11_summed_0 : decode cX11_summed 0 = .ok (.iconst 0, 1) := dq daX11_summed_15_0 0 rfl
theorem dX11_summed_1 : decode cX11_summed 1 = .ok (.istore_n 3, 1) := dq daX11_summed_15_0 1 rfl
theorem dX11_summed_2 : decode cX11_summed 2 = .ok (.iload_n 3, 1) := dq daX11_summed_15_0 2 rfl
theorem dX11_summed_3 : decode cX11_summed 3 = .ok (.aload_n 0, 1) := dq daX11_summed_15_0 3 rfl
theorem dX11_summed_4 : decode cX11_summed 4 = .ok (.getfield 23, 3) := dq daX11_summed_15_0 4 rfl
theorem dX11_summed_7 : decode cX11_summed 7 = .ok (.iload_n 1, 1) := dq daX11_summed_15_0 5 rfl
theorem dX11_summed_8 : decode cX11_summed 8 = .ok (.iaload, 1) := dq daX11_summed_15_0 6 rfl
theorem dX11_summed_9 : decode cX11_summed 9 = .ok (.if_icmp .ge 97, 3) := dq daX11_summed_15_0 7 rfl
theorem dX11_summed_12 : decode cX11_summed 12 = .ok (.bipush 60, 2) := dq daX11_summed_15_0 8 rfl
theorem dX11_summed_14 : decode cX11_summed 14 = .ok (.iload_n 1, 1) := dq daX11_summed_15_0 9 rfl
theorem dX11_summed_15 : decode cX11_summed 15 = .ok (.imul, 1) := dq daX11_summed_15_0 10 rfl
theorem dX11_summed_16 : decode cX11_summed 16 = .ok (.iconst 5, 1) := dq daX11_summed_15_0 11 rfl
theorem dX11_summed_17 : decode cX11_summed 17 = .ok (.iload_n 3, 1) := dq daX11_summed_15_0 12 rfl
theorem dX11_summed_18 : decode cX11_summed 18 = .ok (.imul, 1) := dq daX11_summed_15_0 13 rfl
theorem dX11_summed_19 : decode cX11_summed 19 = .ok (.iadd, 1) := dq daX11_summed_15_0 14 rfl
theorem dX11_summed_20 : decode cX11_summed 20 = .ok (.istore 4, 2) := dq daX11_summed_15_0 15 rfl
theorem dX11_summed_22 : decode cX11_summed 22 = .ok (.aload_n 0, 1) := dq daX11_summed_15_0 16 rfl
theorem dX11_summed_23 : decode cX11_summed 23 = .ok (.getfield 20, 3) := dq daX11_summed_15_0 17 rfl
theorem dX11_summed_26 : decode cX11_summed 26 = .ok (.iload 4, 2) := dq daX11_summed_15_0 18 rfl
theorem dX11_summed_28 : decode cX11_summed 28 = .ok (.iaload, 1) := dq daX11_summed_15_0 19 rfl
theorem dX11_summed_29 : decode cX11_summed 29 = .ok (.iload_n 2, 1) := dq daX11_summed_15_0 20 rfl
theorem dX11_summed_30 : decode cX11_summed 30 = .ok (.if_icmp .ne 70, 3) := dq daX11_summed_15_0 21 rfl
theorem dX11_summed_100 : decode cX11_summed 100 = .ok (.iinc 3 1, 3) := dq daX11_summed_15_0 22 rfl
theorem dX11_summed_103 : decode cX11_summed 103 = .ok (.goto (-101), 3) := dq daX11_summed_15_0 23 rfl
theorem dX11_summed_33 : decode cX11_summed 33 = .ok (.aload_n 0, 1) := dq daX11_summed_15_0 24 rfl
theorem dX11_summed_34 : decode cX11_summed 34 = .ok (.getfield 20, 3) := dq daX11_summed_15_0 25 rfl
theorem dX11_summed_37 : decode cX11_summed 37 = .ok (.iload 4, 2) := dq daX11_summed_15_0 26 rfl
theorem dX11_summed_39 : decode cX11_summed 39 = .ok (.iconst 3, 1) := dq daX11_summed_15_0 27 rfl
theorem dX11_summed_40 : decode cX11_summed 40 = .ok (.iadd, 1) := dq daX11_summed_15_0 28 rfl
theorem dX11_summed_41 : decode cX11_summed 41 = .ok (.iaload, 1) := dq daX11_summed_15_0 29 rfl
theorem dX11_summed_42 : decode cX11_summed 42 = .ok (.ifCond .lt 34, 3) := dq daX11_summed_15_0 30 rfl
theorem dX11_summed_45 : decode cX11_summed 45 = .ok (.aload_n 0, 1) := dq daX11_summed_15_0 31 rfl
def dtX11_summed_15_1 : List (Nat × Jvm.ClassFile.Instr × Nat) := [(46, .iload_n 1, 1), (47, .aload_n 0, 1), (48, .getfield 20, 3), (51, .iload 4, 2), (53, .iconst 3, 1), (54, .iadd, 1), (55, .iaload, 1), (56, .aload_n 0, 1), (57, .getfield 20, 3), (60, .iload 4, 2), (62, .iconst 4, 1), (63, .iadd, 1), (64, .iaload, 1), (65, .invokevirtual 253, 3), (68, .lconst 0, 1), (69, .lcmp, 1), (70, .ifCond .ne 6, 3), (73, .goto 27, 3), (76, .aload_n 0, 1), (77, .iload_n 1, 1), (78, .aload_n 0, 1), (79, .getfield 20, 3), (82, .iload 4, 2), (84, .iconst 1, 1), (85, .iadd, 1), (86, .iaload, 1), (87, .aload_n 0, 1), (88, .getfield 20, 3), (91, .iload 4, 2), (93, .iconst 2, 1), (94, .iadd, 1), (95, .iaload, 1)]
theorem daX11_summed_15_1 : dtX11_summed_15_1.all (dqd cX11_summed) = true := by decide +kernel
theorem dX11_summed_46 : decode cX11_summed 46 = .ok (.iload_n 1, 1) := dq daX11_summed_15_1 0 rfl
theorem dX11_summed_47 : decode cX11_summed 47 = .ok (.aload_n 0, 1) := dq daX11_summed_15_1 1 rfl
theorem dX11_summed_48 : decode cX11_summed 48 = .ok (.getfield 20, 3) := dq daX11_summed_15_1 2 rfl
theorem dX11_summed_51 : decode cX11_summed 51 = .ok (.iload 4, 2) := dq daX11_summed_15_1 3 rfl
theorem dX11_summed_53 : decode cX11_summed 53 = .ok (.iconst 3, 1) := dq daX11_summed_15_1 4 rfl
theorem dX11_summed_54 : decode cX11_summed 54 = .ok (.iadd, 1) := dq daX11_summed_15_1 5 rfl
theorem dX11_summed_55 : decode cX11_summed 55 = .ok (.iaload, 1) := dq daX11_summed_15_1 6 rfl
theorem dX11_summed_56 : decode cX11_summed 56 = .ok (.aload_n 0, 1) := dq daX11_summed_15_1 7 rfl
theorem dX11_summed_57 : decode cX11_summed 57 = .ok (.getfield 20, 3) := dq daX11_summed_15_1 8 rfl
theorem dX11_summed_60 : decode cX11_summed 60 = .ok (.iload 4, 2) := dq daX11_summed_15_1 9 rfl
theorem dX11_summed_62 : decode cX11_summed 62 = .ok (.iconst 4, 1) := dq daX11_summed_15_1 10 rfl
theorem dX11_summed_63 : decode cX11_summed 63 = .ok (.iadd, 1) := dq daX11_summed_15_1 11 rfl
theorem dX11_summed_64 : decode cX11_summed 64 = .ok (.iaload, 1) := dq daX11_summed_15_1 12 rfl
theorem dX11_summed_65 : decode cX11_summed 65 = .ok (.invokevirtual 253, 3) := dq daX11_summed_15_1 13 rfl
theorem dX11_summed_68 : decode cX11_summed 68 = .ok (.lconst 0, 1) := dq daX11_summed_15_1 14 rfl
theorem dX11_summed_69 : decode cX11_summed 69 = .ok (.lcmp, 1) := dq daX11_summed_15_1 15 rfl
theorem dX11_summed_70 : decode cX11_summed 70 = .ok (.ifCond .ne 6, 3) := dq daX11_summed_15_1 16 rfl
theorem dX11_summed_73 : decode cX11_summed 73 = .ok (.goto 27, 3) := dq daX11_summed_15_1 17 rfl
theorem dX11_summed_76 : decode cX11_summed 76 = .ok (.aload_n 0, 1) := dq daX11_summed_15_1 18 rfl
theorem dX11_summed_77 : decode cX11_summed 77 = .ok (.iload_n 1, 1) := dq daX11_summed_15_1 19 rfl
theorem dX11_summed_78 : decode cX11_summed 78 = .ok (.aload_n 0, 1) := dq daX11_summed_15_1 20 rfl
theorem dX11_summed_79 : decode cX11_summed 79 = .ok (.getfield 20, 3) := dq daX11_summed_15_1 21 rfl
theorem dX11_summed_82 : decode cX11_summed 82 = .ok (.iload 4, 2) := dq daX11_summed_15_1 22 rfl
theorem dX11_summed_84 : decode cX11_summed 84 = .ok (.iconst 1, 1) := dq daX11_summed_15_1 23 rfl
theorem dX11_summed_85 : decode cX11_summed 85 = .ok (.iadd, 1) := dq daX11_summed_15_1 24 rfl
theorem dX11_summed_86 : decode cX11_summed 86 = .ok (.iaload, 1) := dq daX11_summed_15_1 25 rfl
theorem dX11_summed_87 : decode cX11_summed 87 = .ok (.aload_n 0, 1) := dq daX11_summed_15_1 26 rfl
theorem dX11_summed_88 : decode cX11_summed 88 = .ok (.getfield 20, 3) := dq daX11_summed_15_1 27 rfl
theorem dX11_summed_91 : decode cX11_summed 91 = .ok (.iload 4, 2) := dq daX11_summed_15_1 28 rfl
theorem dX11_summed_93 : decode cX11_summed 93 = .ok (.iconst 2, 1) := dq daX11_summed_15_1 29 rfl
theorem dX11_summed_94 : decode cX11_summed 94 = .ok (.iadd, 1) := dq daX11_summed_15_1 30 rfl
theorem dX11_summed_95 : decode cX11_summed 95 = .ok (.iaload, 1) := dq daX11_summed_15_1 31 rfl
def dtX11_summed_15_2 : List (Nat × Jvm.ClassFile.Instr × Nat) := [(96, .invokevirtual 253, 3), (106, .lconst 0, 1), (99, .lreturn, 1), (107, .lreturn, 1)]
theorem daX11_summed_15_2 : dtX11_summed_15_2.all (dqd cX11_summed) = true := by decide +kernel
theorem dX11_summed_96 : decode cX11_summed 96 = .ok (.invokevirtual 253, 3) := dq daX11_summed_15_2 0 rfl
theorem dX11_summed_106 : decode cX11_summed 106 = .ok (.lconst 0, 1) := dq daX11_summed_15_2 1 rfl
theorem dX11_summed_99 : decode cX11_summed 99 = .ok (.lreturn, 1) := dq daX11_summed_15_2 2 rfl
theorem dX11_summed_107 : decode cX11_summed 107 = .ok (.lreturn, 1) := dq daX11_summed_15_2 3 rfl
def dtX11_meltBy_15_0 : List (Nat × Jvm.ClassFile.Instr × Nat) := [(0, .aload_n 0, 1), (1, .iload_n 1, 1), (2, .iconst 0, 1), (3, .invokevirtual 318, 3), (6, .iload_n 3, 1), (7, .i2l, 1), (8, .ladd, 1), (9, .lconst 0, 1), (10, .iload_n 2, 1), (11, .i2l, 1), (12, .invokestatic 322, 3), (15, .l2i, 1), (16, .ireturn, 1)]
theorem daX11_meltBy_15_0 : dtX11_meltBy_15_0.all (dqd cX11_meltBy) = true := by decide +kernel
theorem dX11_meltBy_0 : decode cX11_meltBy 0 = .ok (.aload_n 0, 1) := dq daX11_meltBy_15_0 0 rfl
theorem dX11_meltBy_1 : decode cX11_meltBy 1 = .ok (.iload_n 1, 1) := dq daX11_meltBy_15_0 1 rfl
theorem dX11_meltBy_2 : decode cX11_meltBy 2 = .ok (.iconst 0, 1) := dq daX11_meltBy_15_0 2 rfl
theorem dX11_meltBy_3 : decode cX11_meltBy 3 = .ok (.invokevirtual 318, 3) := dq daX11_meltBy_15_0 3 rfl
theorem dX11_meltBy_6 : decode cX11_meltBy 6 = .ok (.iload_n 3, 1) := dq daX11_meltBy_15_0 4 rfl
theorem dX11_meltBy_7 : decode cX11_meltBy 7 = .ok (.i2l, 1) := dq daX11_meltBy_15_0 5 rfl
theorem dX11_meltBy_8 : decode cX11_meltBy 8 = .ok (.ladd, 1) := dq daX11_meltBy_15_0 6 rfl
theorem dX11_meltBy_9 : decode cX11_meltBy 9 = .ok (.lconst 0, 1) := dq daX11_meltBy_15_0 7 rfl
theorem dX11_meltBy_10 : decode cX11_meltBy 10 = .ok (.iload_n 2, 1) := dq daX11_meltBy_15_0 8 rfl
theorem dX11_meltBy_11 : decode cX11_meltBy 11 = .ok (.i2l, 1) := dq daX11_meltBy_15_0 9 rfl
theorem dX11_meltBy_12 : decode cX11_meltBy 12 = .ok (.invokestatic 322, 3) := dq daX11_meltBy_15_0 10 rfl
theorem dX11_meltBy_15 : decode cX11_meltBy 15 = .ok (.l2i, 1) := dq daX11_meltBy_15_0 11 rfl
theorem dX11_meltBy_16 : decode cX11_meltBy 16 = .ok (.ireturn, 1) := dq daX11_meltBy_15_0 12 rfl
def dtX11_meltOf_15_0 : List (Nat × Jvm.ClassFile.Instr × Nat) := [(0, .aload_n 0, 1), (1, .iload_n 2, 1), (2, .iconst 5, 1), (3, .invokevirtual 283, 3), (6, .bipush 12, 2), (8, .if_icmp .ne 55, 3), (63, .aload_n 0, 1), (64, .aload_n 0, 1), (65, .getfield 39, 3), (68, .iconst 5, 1), (69, .iaload, 1), (70, .aload_n 0, 1), (71, .iload_n 2, 1), (72, .iconst 5, 1), (73, .invokevirtual 283, 3), (76, .aload_n 0, 1), (77, .iload_n 2, 1), (78, .iconst 4, 1), (79, .invokevirtual 283, 3), (82, .aload_n 0, 1), (83, .iload_n 2, 1), (84, .iconst 0, 1), (85, .invokevirtual 283, 3), (88, .aload_n 0, 1), (89, .iload_n 2, 1), (90, .iconst 1, 1), (91, .invokevirtual 283, 3), (94, .invokevirtual 330, 3), (97, .aload_n 0, 1), (98, .iload_n 1, 1), (99, .aload_n 0, 1), (100, .iload_n 2, 1)]
theorem daX11_meltOf_15_0 : dtX11_meltOf_15_0.all (dqd cX11_meltOf) = true := by decide +kernel
theorem dX11_meltOf_0 : decode cX11_meltOf 0 = .ok (.aload_n 0, 1) := dq daX11_meltOf_15_0 0 rfl
theorem dX11_meltOf_1 : decode cX11_meltOf 1 = .ok (.iload_n 2, 1) := dq daX11_meltOf_15_0 1 rfl
theorem dX11_meltOf_2 : decode cX11_meltOf 2 = .ok (.iconst 5, 1) := dq daX11_meltOf_15_0 2 rfl
theorem dX11_meltOf_3 : decode cX11_meltOf 3 = .ok (.invokevirtual 283, 3) := dq daX11_meltOf_15_0 3 rfl
theorem dX11_meltOf_6 : decode cX11_meltOf 6 = .ok (.bipush 12, 2) := dq daX11_meltOf_15_0 4 rfl
theorem dX11_meltOf_8 : decode cX11_meltOf 8 = .ok (.if_icmp .ne 55, 3) := dq daX11_meltOf_15_0 5 rfl
theorem dX11_meltOf_63 : decode cX11_meltOf 63 = .ok (.aload_n 0, 1) := dq daX11_meltOf_15_0 6 rfl
theorem dX11_meltOf_64 : decode cX11_meltOf 64 = .ok (.aload_n 0, 1) := dq daX11_meltOf_15_0 7 rfl
theorem dX11_meltOf_65 : decode cX11_meltOf 65 = .ok (.getfield 39, 3) := dq daX11_meltOf_15_0 8 rfl
theorem dX11_meltOf_68 : decode cX11_meltOf 68 = .ok (.iconst 5, 1) := dq daX11_meltOf_15_0 9 rfl
theorem dX11_meltOf_69 : decode cX11_meltOf 69 = .ok (.iaload, 1) := dq daX11_meltOf_15_0 10 rfl
theorem dX11_meltOf_70 : decode cX11_meltOf 70 = .ok (.aload_n 0, 1) := dq daX11_meltOf_15_0 11 rfl
theorem dX11_meltOf_71 : decode cX11_meltOf 71 = .ok (.iload_n 2, 1) := dq daX11_meltOf_15_0 12 rfl
theorem dX11_meltOf_72 : decode cX11_meltOf 72 = .ok (.iconst 5, 1) := dq daX11_meltOf_15_0 13 rfl
theorem dX11_meltOf_73 : decode cX11_meltOf 73 = .ok (.invokevirtual 283, 3) := dq daX11_meltOf_15_0 14 rfl
theorem dX11_meltOf_76 : decode cX11_meltOf 76 = .ok (.aload_n 0, 1) := dq daX11_meltOf_15_0 15 rfl
theorem dX11_meltOf_77 : decode cX11_meltOf 77 = .ok (.iload_n 2, 1) := dq daX11_meltOf_15_0 16 rfl
theorem dX11_meltOf_78 : decode cX11_meltOf 78 = .ok (.iconst 4, 1) := dq daX11_meltOf_15_0 17 rfl
theorem dX11_meltOf_79 : decode cX11_meltOf 79 = .ok (.invokevirtual 283, 3) := dq daX11_meltOf_15_0 18 rfl
theorem dX11_meltOf_82 : decode cX11_meltOf 82 = .ok (.aload_n 0, 1) := dq daX11_meltOf_15_0 19 rfl
theorem dX11_meltOf_83 : decode cX11_meltOf 83 = .ok (.iload_n 2, 1) := dq daX11_meltOf_15_0 20 rfl
theorem dX11_meltOf_84 : decode cX11_meltOf 84 = .ok (.iconst 0, 1) := dq daX11_meltOf_15_0 21 rfl
theorem dX11_meltOf_85 : decode cX11_meltOf 85 = .ok (.invokevirtual 283, 3) := dq daX11_meltOf_15_0 22 rfl
theorem dX11_meltOf_88 : decode cX11_meltOf 88 = .ok (.aload_n 0, 1) := dq daX11_meltOf_15_0 23 rfl
theorem dX11_meltOf_89 : decode cX11_meltOf 89 = .ok (.iload_n 2, 1) := dq daX11_meltOf_15_0 24 rfl
theorem dX11_meltOf_90 : decode cX11_meltOf 90 = .ok (.iconst 1, 1) := dq daX11_meltOf_15_0 25 rfl
theorem dX11_meltOf_91 : decode cX11_meltOf 91 = .ok (.invokevirtual 283, 3) := dq daX11_meltOf_15_0 26 rfl
theorem dX11_meltOf_94 : decode cX11_meltOf 94 = .ok (.invokevirtual 330, 3) := dq daX11_meltOf_15_0 27 rfl
theorem dX11_meltOf_97 : decode cX11_meltOf 97 = .ok (.aload_n 0, 1) := dq daX11_meltOf_15_0 28 rfl
theorem dX11_meltOf_98 : decode cX11_meltOf 98 = .ok (.iload_n 1, 1) := dq daX11_meltOf_15_0 29 rfl
theorem dX11_meltOf_99 : decode cX11_meltOf 99 = .ok (.aload_n 0, 1) := dq daX11_meltOf_15_0 30 rfl
theorem dX11_meltOf_100 : decode cX11_meltOf 100 = .ok (.iload_n 2, 1) := dq daX11_meltOf_15_0 31 rfl
def dtX11_meltOf_15_1 : List (Nat × Jvm.ClassFile.Instr × Nat) := [(101, .iconst 4, 1), (102, .invokevirtual 283, 3), (105, .iconst 0, 1), (106, .invokevirtual 334, 3), (11, .aload_n 0, 1), (12, .aload_n 0, 1), (13, .getfield 39, 3), (16, .iconst 5, 1), (17, .iaload, 1), (18, .aload_n 0, 1), (19, .iload_n 2, 1), (20, .bipush 6, 2), (22, .invokevirtual 283, 3), (25, .aload_n 0, 1), (26, .iload_n 2, 1), (27, .bipush 8, 2), (29, .invokevirtual 283, 3), (32, .aload_n 0, 1), (33, .iload_n 2, 1), (34, .bipush 7, 2), (36, .invokevirtual 283, 3), (39, .aload_n 0, 1), (40, .iload_n 2, 1), (41, .iconst 4, 1), (42, .invokevirtual 283, 3), (45, .aload_n 0, 1), (46, .iload_n 2, 1), (47, .iconst 0, 1), (48, .invokevirtual 283, 3), (51, .aload_n 0, 1), (52, .iload_n 2, 1), (53, .iconst 1, 1)]
theorem daX11_meltOf_15_1 : dtX11_meltOf_15_1.all (dqd cX11_meltOf) = true := by decide +kernel
theorem dX11_meltOf_101 : decode cX11_meltOf 101 = .ok (.iconst 4, 1) := dq daX11_meltOf_15_1 0 rfl
theorem dX11_meltOf_102 : decode cX11_meltOf 102 = .ok (.invokevirtual 283, 3) := dq daX11_meltOf_15_1 1 rfl
theorem dX11_meltOf_105 : decode cX11_meltOf 105 = .ok (.iconst 0, 1) := dq daX11_meltOf_15_1 2 rfl
theorem dX11_meltOf_106 : decode cX11_meltOf 106 = .ok (.invokevirtual 334, 3) := dq daX11_meltOf_15_1 3 rfl
theorem dX11_meltOf_11 : decode cX11_meltOf 11 = .ok (.aload_n 0, 1) := dq daX11_meltOf_15_1 4 rfl
theorem dX11_meltOf_12 : decode cX11_meltOf 12 = .ok (.aload_n 0, 1) := dq daX11_meltOf_15_1 5 rfl
theorem dX11_meltOf_13 : decode cX11_meltOf 13 = .ok (.getfield 39, 3) := dq daX11_meltOf_15_1 6 rfl
theorem dX11_meltOf_16 : decode cX11_meltOf 16 = .ok (.iconst 5, 1) := dq daX11_meltOf_15_1 7 rfl
theorem dX11_meltOf_17 : decode cX11_meltOf 17 = .ok (.iaload, 1) := dq daX11_meltOf_15_1 8 rfl
theorem dX11_meltOf_18 : decode cX11_meltOf 18 = .ok (.aload_n 0, 1) := dq daX11_meltOf_15_1 9 rfl
theorem dX11_meltOf_19 : decode cX11_meltOf 19 = .ok (.iload_n 2, 1) := dq daX11_meltOf_15_1 10 rfl
theorem dX11_meltOf_20 : decode cX11_meltOf 20 = .ok (.bipush 6, 2) := dq daX11_meltOf_15_1 11 rfl
theorem dX11_meltOf_22 : decode cX11_meltOf 22 = .ok (.invokevirtual 283, 3) := dq daX11_meltOf_15_1 12 rfl
theorem dX11_meltOf_25 : decode cX11_meltOf 25 = .ok (.aload_n 0, 1) := dq daX11_meltOf_15_1 13 rfl
theorem dX11_meltOf_26 : decode cX11_meltOf 26 = .ok (.iload_n 2, 1) := dq daX11_meltOf_15_1 14 rfl
theorem dX11_meltOf_27 : decode cX11_meltOf 27 = .ok (.bipush 8, 2) := dq daX11_meltOf_15_1 15 rfl
theorem dX11_meltOf_29 : decode cX11_meltOf 29 = .ok (.invokevirtual 283, 3) := dq daX11_meltOf_15_1 16 rfl
theorem dX11_meltOf_32 : decode cX11_meltOf 32 = .ok (.aload_n 0, 1) := dq daX11_meltOf_15_1 17 rfl
theorem dX11_meltOf_33 : decode cX11_meltOf 33 = .ok (.iload_n 2, 1) := dq daX11_meltOf_15_1 18 rfl
theorem dX11_meltOf_34 : decode cX11_meltOf 34 = .ok (.bipush 7, 2) := dq daX11_meltOf_15_1 19 rfl
theorem dX11_meltOf_36 : decode cX11_meltOf 36 = .ok (.invokevirtual 283, 3) := dq daX11_meltOf_15_1 20 rfl
theorem dX11_meltOf_39 : decode cX11_meltOf 39 = .ok (.aload_n 0, 1) := dq daX11_meltOf_15_1 21 rfl
theorem dX11_meltOf_40 : decode cX11_meltOf 40 = .ok (.iload_n 2, 1) := dq daX11_meltOf_15_1 22 rfl
theorem dX11_meltOf_41 : decode cX11_meltOf 41 = .ok (.iconst 4, 1) := dq daX11_meltOf_15_1 23 rfl
theorem dX11_meltOf_42 : decode cX11_meltOf 42 = .ok (.invokevirtual 283, 3) := dq daX11_meltOf_15_1 24 rfl
theorem dX11_meltOf_45 : decode cX11_meltOf 45 = .ok (.aload_n 0, 1) := dq daX11_meltOf_15_1 25 rfl
theorem dX11_meltOf_46 : decode cX11_meltOf 46 = .ok (.iload_n 2, 1) := dq daX11_meltOf_15_1 26 rfl
theorem dX11_meltOf_47 : decode cX11_meltOf 47 = .ok (.iconst 0, 1) := dq daX11_meltOf_15_1 27 rfl
theorem dX11_meltOf_48 : decode cX11_meltOf 48 = .ok (.invokevirtual 283, 3) := dq daX11_meltOf_15_1 28 rfl
theorem dX11_meltOf_51 : decode cX11_meltOf 51 = .ok (.aload_n 0, 1) := dq daX11_meltOf_15_1 29 rfl
theorem dX11_meltOf_52 : decode cX11_meltOf 52 = .ok (.iload_n 2, 1) := dq daX11_meltOf_15_1 30 rfl
theorem dX11_meltOf_53 : decode cX11_meltOf 53 = .ok (.iconst 1, 1) := dq daX11_meltOf_15_1 31 rfl
def dtX11_meltOf_15_2 : List (Nat × Jvm.ClassFile.Instr × Nat) := [(54, .invokevirtual 283, 3), (57, .invokevirtual 326, 3), (60, .goto 37, 3), (109, .ireturn, 1)]
theorem daX11_meltOf_15_2 : dtX11_meltOf_15_2.all (dqd cX11_meltOf) = true := by decide +kernel
theorem dX11_meltOf_54 : decode cX11_meltOf 54 = .ok (.invokevirtual 283, 3) := dq daX11_meltOf_15_2 0 rfl
theorem dX11_meltOf_57 : decode cX11_meltOf 57 = .ok (.invokevirtual 326, 3) := dq daX11_meltOf_15_2 1 rfl
theorem dX11_meltOf_60 : decode cX11_meltOf 60 = .ok (.goto 37, 3) := dq daX11_meltOf_15_2 2 rfl
theorem dX11_meltOf_109 : decode cX11_meltOf 109 = .ok (.ireturn, 1) := dq daX11_meltOf_15_2 3 rfl
def dtX11_melt_15_0 : List (Nat × Jvm.ClassFile.Instr × Nat) := [(0, .aload_n 0, 1), (1, .iload_n 1, 1), (2, .invokevirtual 363, 3), (5, .ifCond .eq 31, 3), (36, .iconst (-1), 1), (37, .ireturn, 1), (8, .aload_n 0, 1), (9, .iload_n 2, 1), (10, .invokevirtual 280, 3), (13, .ifCond .eq 23, 3), (16, .aload_n 0, 1), (17, .iload_n 2, 1), (18, .iconst 5, 1), (19, .invokevirtual 283, 3), (22, .bipush 13, 2), (24, .if_icmp .eq 12, 3), (27, .aload_n 0, 1), (28, .iload_n 1, 1), (29, .iload_n 2, 1), (30, .invokevirtual 357, 3), (33, .goto 4, 3)]
theorem daX11_melt_15_0 : dtX11_melt_15_0.all (dqd cX11_melt) = true := by decide +kernel
theorem dX11_melt_0 : decode cX11_melt 0 = .ok (.aload_n 0, 1) := dq daX11_melt_15_0 0 rfl
theorem dX11_melt_1 : decode cX11_melt 1 = .ok (.iload_n 1, 1) := dq daX11_melt_15_0 1 rfl
theorem dX11_melt_2 : decode cX11_melt 2 = .ok (.invokevirtual 363, 3) := dq daX11_melt_15_0 2 rfl
theorem dX11_melt_5 : decode cX11_melt 5 = .ok (.ifCond .eq 31, 3) := dq daX11_melt_15_0 3 rfl
theorem dX11_melt_36 : decode cX11_melt 36 = .ok (.iconst (-1), 1) := dq daX11_melt_15_0 4 rfl
theorem dX11_melt_37 : decode cX11_melt 37 = .ok (.ireturn, 1) := dq daX11_melt_15_0 5 rfl
theorem dX11_melt_8 : decode cX11_melt 8 = .ok (.aload_n 0, 1) := dq daX11_melt_15_0 6 rfl
theorem dX11_melt_9 : decode cX11_melt 9 = .ok (.iload_n 2, 1) := dq daX11_melt_15_0 7 rfl
theorem dX11_melt_10 : decode cX11_melt 10 = .ok (.invokevirtual 280, 3) := dq daX11_melt_15_0 8 rfl
theorem dX11_melt_13 : decode cX11_melt 13 = .ok (.ifCond .eq 23, 3) := dq daX11_melt_15_0 9 rfl
theorem dX11_melt_16 : decode cX11_melt 16 = .ok (.aload_n 0, 1) := dq daX11_melt_15_0 10 rfl
theorem dX11_melt_17 : decode cX11_melt 17 = .ok (.iload_n 2, 1) := dq daX11_melt_15_0 11 rfl
theorem dX11_melt_18 : decode cX11_melt 18 = .ok (.iconst 5, 1) := dq daX11_melt_15_0 12 rfl
theorem dX11_melt_19 : decode cX11_melt 19 = .ok (.invokevirtual 283, 3) := dq daX11_melt_15_0 13 rfl
theorem dX11_melt_22 : decode cX11_melt 22 = .ok (.bipush 13, 2) := dq daX11_melt_15_0 14 rfl
theorem dX11_melt_24 : decode cX11_melt 24 = .ok (.if_icmp .eq 12, 3) := dq daX11_melt_15_0 15 rfl
theorem dX11_melt_27 : decode cX11_melt 27 = .ok (.aload_n 0, 1) := dq daX11_melt_15_0 16 rfl
theorem dX11_melt_28 : decode cX11_melt 28 = .ok (.iload_n 1, 1) := dq daX11_melt_15_0 17 rfl
theorem dX11_melt_29 : decode cX11_melt 29 = .ok (.iload_n 2, 1) := dq daX11_melt_15_0 18 rfl
theorem dX11_melt_30 : decode cX11_melt 30 = .ok (.invokevirtual 357, 3) := dq daX11_melt_15_0 19 rfl
theorem dX11_melt_33 : decode cX11_melt 33 = .ok (.goto 4, 3) := dq daX11_melt_15_0 20 rfl
def dtX11_bursts_15_0 : List (Nat × Jvm.ClassFile.Instr × Nat) := [(0, .iload_n 2, 1), (1, .istore 5, 2), (3, .iload 5, 2), (5, .ifCond .lt 172, 3), (8, .aload_n 0, 1), (9, .iload 5, 2), (11, .invokevirtual 346, 3), (14, .iconst (-1), 1), (15, .istore 6, 2), (17, .iconst 0, 1), (18, .istore 7, 2), (20, .iload 7, 2), (22, .aload_n 0, 1), (23, .getfield 39, 3), (26, .iconst 2, 1), (27, .iaload, 1), (28, .if_icmp .ge 117, 3), (31, .aload_n 0, 1), (32, .iload 7, 2), (34, .iconst 5, 1), (35, .invokevirtual 283, 3), (38, .iload_n 3, 1), (39, .if_icmp .eq 28, 3), (67, .iconst 1, 1), (68, .goto 4, 3), (72, .istore 8, 2), (74, .iload 8, 2), (76, .ifCond .eq 63, 3), (79, .aload_n 0, 1), (80, .iload 7, 2), (82, .iconst 2, 1), (83, .invokevirtual 283, 3)]
theorem daX11_bursts_15_0 : dtX11_bursts_15_0.all (dqd cX11_bursts) = true := by decide +kernel
theorem dX11_bursts_0 : decode cX11_bursts 0 = .ok (.iload_n 2, 1) := dq daX11_bursts_15_0 0 rfl
theorem dX11_bursts_1 : decode cX11_bursts 1 = .ok (.istore 5, 2) := dq daX11_bursts_15_0 1 rfl
theorem dX11_bursts_3 : decode cX11_bursts 3 = .ok (.iload 5, 2) := dq daX11_bursts_15_0 2 rfl
theorem dX11_bursts_5 : decode cX11_bursts 5 = .ok (.ifCond .lt 172, 3) := dq daX11_bursts_15_0 3 rfl
theorem dX11_bursts_8 : decode cX11_bursts 8 = .ok (.aload_n 0, 1) := dq daX11_bursts_15_0 4 rfl
theorem dX11_bursts_9 : decode cX11_bursts 9 = .ok (.iload 5, 2) := dq daX11_bursts_15_0 5 rfl
theorem dX11_bursts_11 : decode cX11_bursts 11 = .ok (.invokevirtual 346, 3) := dq daX11_bursts_15_0 6 rfl
theorem dX11_bursts_14 : decode cX11_bursts 14 = .ok (.iconst (-1), 1) := dq daX11_bursts_15_0 7 rfl
theorem dX11_bursts_15 : decode cX11_bursts 15 = .ok (.istore 6, 2) := dq daX11_bursts_15_0 8 rfl
theorem dX11_bursts_17 : decode cX11_bursts 17 = .ok (.iconst 0, 1) := dq daX11_bursts_15_0 9 rfl
theorem dX11_bursts_18 : decode cX11_bursts 18 = .ok (.istore 7, 2) := dq daX11_bursts_15_0 10 rfl
theorem dX11_bursts_20 : decode cX11_bursts 20 = .ok (.iload 7, 2) := dq daX11_bursts_15_0 11 rfl
theorem dX11_bursts_22 : decode cX11_bursts 22 = .ok (.aload_n 0, 1) := dq daX11_bursts_15_0 12 rfl
theorem dX11_bursts_23 : decode cX11_bursts 23 = .ok (.getfield 39, 3) := dq daX11_bursts_15_0 13 rfl
theorem dX11_bursts_26 : decode cX11_bursts 26 = .ok (.iconst 2, 1) := dq daX11_bursts_15_0 14 rfl
theorem dX11_bursts_27 : decode cX11_bursts 27 = .ok (.iaload, 1) := dq daX11_bursts_15_0 15 rfl
theorem dX11_bursts_28 : decode cX11_bursts 28 = .ok (.if_icmp .ge 117, 3) := dq daX11_bursts_15_0 16 rfl
theorem dX11_bursts_31 : decode cX11_bursts 31 = .ok (.aload_n 0, 1) := dq daX11_bursts_15_0 17 rfl
theorem dX11_bursts_32 : decode cX11_bursts 32 = .ok (.iload 7, 2) := dq daX11_bursts_15_0 18 rfl
theorem dX11_bursts_34 : decode cX11_bursts 34 = .ok (.iconst 5, 1) := dq daX11_bursts_15_0 19 rfl
theorem dX11_bursts_35 : decode cX11_bursts 35 = .ok (.invokevirtual 283, 3) := dq daX11_bursts_15_0 20 rfl
theorem dX11_bursts_38 : decode cX11_bursts 38 = .ok (.iload_n 3, 1) := dq daX11_bursts_15_0 21 rfl
theorem dX11_bursts_39 : decode cX11_bursts 39 = .ok (.if_icmp .eq 28, 3) := dq daX11_bursts_15_0 22 rfl
theorem dX11_bursts_67 : decode cX11_bursts 67 = .ok (.iconst 1, 1) := dq daX11_bursts_15_0 23 rfl
theorem dX11_bursts_68 : decode cX11_bursts 68 = .ok (.goto 4, 3) := dq daX11_bursts_15_0 24 rfl
theorem dX11_bursts_72 : decode cX11_bursts 72 = .ok (.istore 8, 2) := dq daX11_bursts_15_0 25 rfl
theorem dX11_bursts_74 : decode cX11_bursts 74 = .ok (.iload 8, 2) := dq daX11_bursts_15_0 26 rfl
theorem dX11_bursts_76 : decode cX11_bursts 76 = .ok (.ifCond .eq 63, 3) := dq daX11_bursts_15_0 27 rfl
theorem dX11_bursts_79 : decode cX11_bursts 79 = .ok (.aload_n 0, 1) := dq daX11_bursts_15_0 28 rfl
theorem dX11_bursts_80 : decode cX11_bursts 80 = .ok (.iload 7, 2) := dq daX11_bursts_15_0 29 rfl
theorem dX11_bursts_82 : decode cX11_bursts 82 = .ok (.iconst 2, 1) := dq daX11_bursts_15_0 30 rfl
theorem dX11_bursts_83 : decode cX11_bursts 83 = .ok (.invokevirtual 283, 3) := dq daX11_bursts_15_0 31 rfl
def dtX11_bursts_15_1 : List (Nat × Jvm.ClassFile.Instr × Nat) := [(86, .aload_n 0, 1), (87, .iload 5, 2), (89, .iconst 2, 1), (90, .invokevirtual 283, 3), (93, .if_icmp .ne 46, 3), (139, .iinc 7 1, 3), (142, .goto (-122), 3), (96, .aload_n 0, 1), (97, .iload 7, 2), (99, .iconst 3, 1), (100, .invokevirtual 283, 3), (103, .aload_n 0, 1), (104, .iload 5, 2), (106, .iconst 3, 1), (107, .invokevirtual 283, 3), (110, .if_icmp .le 29, 3), (113, .iload 6, 2), (115, .ifCond .lt 20, 3), (135, .iload 7, 2), (137, .istore 6, 2), (42, .aload_n 0, 1), (43, .iload 7, 2), (45, .iconst 5, 1), (46, .invokevirtual 283, 3), (49, .bipush 12, 2), (51, .if_icmp .ne 20, 3), (71, .iconst 0, 1), (54, .aload_n 0, 1), (55, .iload 7, 2), (57, .bipush 6, 2), (59, .invokevirtual 283, 3), (62, .iload 4, 2)]
theorem daX11_bursts_15_1 : dtX11_bursts_15_1.all (dqd cX11_bursts) = true := by decide +kernel
theorem dX11_bursts_86 : decode cX11_bursts 86 = .ok (.aload_n 0, 1) := dq daX11_bursts_15_1 0 rfl
theorem dX11_bursts_87 : decode cX11_bursts 87 = .ok (.iload 5, 2) := dq daX11_bursts_15_1 1 rfl
theorem dX11_bursts_89 : decode cX11_bursts 89 = .ok (.iconst 2, 1) := dq daX11_bursts_15_1 2 rfl
theorem dX11_bursts_90 : decode cX11_bursts 90 = .ok (.invokevirtual 283, 3) := dq daX11_bursts_15_1 3 rfl
theorem dX11_bursts_93 : decode cX11_bursts 93 = .ok (.if_icmp .ne 46, 3) := dq daX11_bursts_15_1 4 rfl
theorem dX11_bursts_139 : decode cX11_bursts 139 = .ok (.iinc 7 1, 3) := dq daX11_bursts_15_1 5 rfl
theorem dX11_bursts_142 : decode cX11_bursts 142 = .ok (.goto (-122), 3) := dq daX11_bursts_15_1 6 rfl
theorem dX11_bursts_96 : decode cX11_bursts 96 = .ok (.aload_n 0, 1) := dq daX11_bursts_15_1 7 rfl
theorem dX11_bursts_97 : decode cX11_bursts 97 = .ok (.iload 7, 2) := dq daX11_bursts_15_1 8 rfl
theorem dX11_bursts_99 : decode cX11_bursts 99 = .ok (.iconst 3, 1) := dq daX11_bursts_15_1 9 rfl
theorem dX11_bursts_100 : decode cX11_bursts 100 = .ok (.invokevirtual 283, 3) := dq daX11_bursts_15_1 10 rfl
theorem dX11_bursts_103 : decode cX11_bursts 103 = .ok (.aload_n 0, 1) := dq daX11_bursts_15_1 11 rfl
theorem dX11_bursts_104 : decode cX11_bursts 104 = .ok (.iload 5, 2) := dq daX11_bursts_15_1 12 rfl
theorem dX11_bursts_106 : decode cX11_bursts 106 = .ok (.iconst 3, 1) := dq daX11_bursts_15_1 13 rfl
theorem dX11_bursts_107 : decode cX11_bursts 107 = .ok (.invokevirtual 283, 3) := dq daX11_bursts_15_1 14 rfl
theorem dX11_bursts_110 : decode cX11_bursts 110 = .ok (.if_icmp .le 29, 3) := dq daX11_bursts_15_1 15 rfl
theorem dX11_bursts_113 : decode cX11_bursts 113 = .ok (.iload 6, 2) := dq daX11_bursts_15_1 16 rfl
theorem dX11_bursts_115 : decode cX11_bursts 115 = .ok (.ifCond .lt 20, 3) := dq daX11_bursts_15_1 17 rfl
theorem dX11_bursts_135 : decode cX11_bursts 135 = .ok (.iload 7, 2) := dq daX11_bursts_15_1 18 rfl
theorem dX11_bursts_137 : decode cX11_bursts 137 = .ok (.istore 6, 2) := dq daX11_bursts_15_1 19 rfl
theorem dX11_bursts_42 : decode cX11_bursts 42 = .ok (.aload_n 0, 1) := dq daX11_bursts_15_1 20 rfl
theorem dX11_bursts_43 : decode cX11_bursts 43 = .ok (.iload 7, 2) := dq daX11_bursts_15_1 21 rfl
theorem dX11_bursts_45 : decode cX11_bursts 45 = .ok (.iconst 5, 1) := dq daX11_bursts_15_1 22 rfl
theorem dX11_bursts_46 : decode cX11_bursts 46 = .ok (.invokevirtual 283, 3) := dq daX11_bursts_15_1 23 rfl
theorem dX11_bursts_49 : decode cX11_bursts 49 = .ok (.bipush 12, 2) := dq daX11_bursts_15_1 24 rfl
theorem dX11_bursts_51 : decode cX11_bursts 51 = .ok (.if_icmp .ne 20, 3) := dq daX11_bursts_15_1 25 rfl
theorem dX11_bursts_71 : decode cX11_bursts 71 = .ok (.iconst 0, 1) := dq daX11_bursts_15_1 26 rfl
theorem dX11_bursts_54 : decode cX11_bursts 54 = .ok (.aload_n 0, 1) := dq daX11_bursts_15_1 27 rfl
theorem dX11_bursts_55 : decode cX11_bursts 55 = .ok (.iload 7, 2) := dq daX11_bursts_15_1 28 rfl
theorem dX11_bursts_57 : decode cX11_bursts 57 = .ok (.bipush 6, 2) := dq daX11_bursts_15_1 29 rfl
theorem dX11_bursts_59 : decode cX11_bursts 59 = .ok (.invokevirtual 283, 3) := dq daX11_bursts_15_1 30 rfl
theorem dX11_bursts_62 : decode cX11_bursts 62 = .ok (.iload 4, 2) := dq daX11_bursts_15_1 31 rfl
def dtX11_bursts_15_2 : List (Nat × Jvm.ClassFile.Instr × Nat) := [(64, .if_icmp .ne 7, 3), (145, .iload 6, 2), (147, .ifCond .lt 24, 3), (171, .iconst (-1), 1), (172, .istore 5, 2), (174, .goto (-171), 3), (150, .aload_n 0, 1), (151, .iload 6, 2), (153, .iconst 0, 1), (154, .invokevirtual 283, 3), (157, .aload_n 0, 1), (158, .getfield 26, 3), (161, .iload_n 1, 1), (162, .iaload, 1), (163, .if_icmp .ge 8, 3), (166, .iload 6, 2), (168, .goto 4, 3), (118, .aload_n 0, 1), (119, .iload 7, 2), (121, .iconst 3, 1), (122, .invokevirtual 283, 3), (125, .aload_n 0, 1), (126, .iload 6, 2), (128, .iconst 3, 1), (129, .invokevirtual 283, 3), (132, .if_icmp .ge 7, 3), (177, .return_, 1)]
theorem daX11_bursts_15_2 : dtX11_bursts_15_2.all (dqd cX11_bursts) = true := by decide +kernel
theorem dX11_bursts_64 : decode cX11_bursts 64 = .ok (.if_icmp .ne 7, 3) := dq daX11_bursts_15_2 0 rfl
theorem dX11_bursts_145 : decode cX11_bursts 145 = .ok (.iload 6, 2) := dq daX11_bursts_15_2 1 rfl
theorem dX11_bursts_147 : decode cX11_bursts 147 = .ok (.ifCond .lt 24, 3) := dq daX11_bursts_15_2 2 rfl
theorem dX11_bursts_171 : decode cX11_bursts 171 = .ok (.iconst (-1), 1) := dq daX11_bursts_15_2 3 rfl
theorem dX11_bursts_172 : decode cX11_bursts 172 = .ok (.istore 5, 2) := dq daX11_bursts_15_2 4 rfl
theorem dX11_bursts_174 : decode cX11_bursts 174 = .ok (.goto (-171), 3) := dq daX11_bursts_15_2 5 rfl
theorem dX11_bursts_150 : decode cX11_bursts 150 = .ok (.aload_n 0, 1) := dq daX11_bursts_15_2 6 rfl
theorem dX11_bursts_151 : decode cX11_bursts 151 = .ok (.iload 6, 2) := dq daX11_bursts_15_2 7 rfl
theorem dX11_bursts_153 : decode cX11_bursts 153 = .ok (.iconst 0, 1) := dq daX11_bursts_15_2 8 rfl
theorem dX11_bursts_154 : decode cX11_bursts 154 = .ok (.invokevirtual 283, 3) := dq daX11_bursts_15_2 9 rfl
theorem dX11_bursts_157 : decode cX11_bursts 157 = .ok (.aload_n 0, 1) := dq daX11_bursts_15_2 10 rfl
theorem dX11_bursts_158 : decode cX11_bursts 158 = .ok (.getfield 26, 3) := dq daX11_bursts_15_2 11 rfl
theorem dX11_bursts_161 : decode cX11_bursts 161 = .ok (.iload_n 1, 1) := dq daX11_bursts_15_2 12 rfl
theorem dX11_bursts_162 : decode cX11_bursts 162 = .ok (.iaload, 1) := dq daX11_bursts_15_2 13 rfl
theorem dX11_bursts_163 : decode cX11_bursts 163 = .ok (.if_icmp .ge 8, 3) := dq daX11_bursts_15_2 14 rfl
theorem dX11_bursts_166 : decode cX11_bursts 166 = .ok (.iload 6, 2) := dq daX11_bursts_15_2 15 rfl
theorem dX11_bursts_168 : decode cX11_bursts 168 = .ok (.goto 4, 3) := dq daX11_bursts_15_2 16 rfl
theorem dX11_bursts_118 : decode cX11_bursts 118 = .ok (.aload_n 0, 1) := dq daX11_bursts_15_2 17 rfl
theorem dX11_bursts_119 : decode cX11_bursts 119 = .ok (.iload 7, 2) := dq daX11_bursts_15_2 18 rfl
theorem dX11_bursts_121 : decode cX11_bursts 121 = .ok (.iconst 3, 1) := dq daX11_bursts_15_2 19 rfl
theorem dX11_bursts_122 : decode cX11_bursts 122 = .ok (.invokevirtual 283, 3) := dq daX11_bursts_15_2 20 rfl
theorem dX11_bursts_125 : decode cX11_bursts 125 = .ok (.aload_n 0, 1) := dq daX11_bursts_15_2 21 rfl
theorem dX11_bursts_126 : decode cX11_bursts 126 = .ok (.iload 6, 2) := dq daX11_bursts_15_2 22 rfl
theorem dX11_bursts_128 : decode cX11_bursts 128 = .ok (.iconst 3, 1) := dq daX11_bursts_15_2 23 rfl
theorem dX11_bursts_129 : decode cX11_bursts 129 = .ok (.invokevirtual 283, 3) := dq daX11_bursts_15_2 24 rfl
theorem dX11_bursts_132 : decode cX11_bursts 132 = .ok (.if_icmp .ge 7, 3) := dq daX11_bursts_15_2 25 rfl
theorem dX11_bursts_177 : decode cX11_bursts 177 = .ok (.return_, 1) := dq daX11_bursts_15_2 26 rfl
def dtX11_comes_15_0 : List (Nat × Jvm.ClassFile.Instr × Nat) := [(0, .sipush 168, 3), (3, .bipush 9, 2), (5, .iload_n 2, 1), (6, .imul, 1), (7, .iadd, 1), (8, .istore_n 3, 1), (9, .aload_n 0, 1), (10, .getfield 39, 3), (13, .iload_n 3, 1), (14, .bipush 8, 2), (16, .iadd, 1), (17, .iaload, 1), (18, .istore 4, 2), (20, .aload_n 0, 1), (21, .getfield 39, 3), (24, .iload_n 3, 1), (25, .bipush 6, 2), (27, .iadd, 1), (28, .iaload, 1), (29, .istore 5, 2), (31, .aload_n 0, 1), (32, .aload_n 0, 1), (33, .getfield 39, 3), (36, .iconst 5, 1), (37, .iaload, 1), (38, .iconst 1, 1), (39, .iadd, 1), (40, .iload 4, 2), (42, .aload_n 0, 1), (43, .getfield 39, 3), (46, .iload_n 3, 1), (47, .iconst 4, 1)]
theorem daX11_comes_15_0 : dtX11_comes_15_0.all (dqd cX11_comes) = true := by decide +kernel
theorem dX11_comes_0 : decode cX11_comes 0 = .ok (.sipush 168, 3) := dq daX11_comes_15_0 0 rfl
theorem dX11_comes_3 : decode cX11_comes 3 = .ok (.bipush 9, 2) := dq daX11_comes_15_0 1 rfl
theorem dX11_comes_5 : decode cX11_comes 5 = .ok (.iload_n 2, 1) := dq daX11_comes_15_0 2 rfl
theorem dX11_comes_6 : decode cX11_comes 6 = .ok (.imul, 1) := dq daX11_comes_15_0 3 rfl
theorem dX11_comes_7 : decode cX11_comes 7 = .ok (.iadd, 1) := dq daX11_comes_15_0 4 rfl
theorem dX11_comes_8 : decode cX11_comes 8 = .ok (.istore_n 3, 1) := dq daX11_comes_15_0 5 rfl
theorem dX11_comes_9 : decode cX11_comes 9 = .ok (.aload_n 0, 1) := dq daX11_comes_15_0 6 rfl
theorem dX11_comes_10 : decode cX11_comes 10 = .ok (.getfield 39, 3) := dq daX11_comes_15_0 7 rfl
theorem dX11_comes_13 : decode cX11_comes 13 = .ok (.iload_n 3, 1) := dq daX11_comes_15_0 8 rfl
theorem dX11_comes_14 : decode cX11_comes 14 = .ok (.bipush 8, 2) := dq daX11_comes_15_0 9 rfl
theorem dX11_comes_16 : decode cX11_comes 16 = .ok (.iadd, 1) := dq daX11_comes_15_0 10 rfl
theorem dX11_comes_17 : decode cX11_comes 17 = .ok (.iaload, 1) := dq daX11_comes_15_0 11 rfl
theorem dX11_comes_18 : decode cX11_comes 18 = .ok (.istore 4, 2) := dq daX11_comes_15_0 12 rfl
theorem dX11_comes_20 : decode cX11_comes 20 = .ok (.aload_n 0, 1) := dq daX11_comes_15_0 13 rfl
theorem dX11_comes_21 : decode cX11_comes 21 = .ok (.getfield 39, 3) := dq daX11_comes_15_0 14 rfl
theorem dX11_comes_24 : decode cX11_comes 24 = .ok (.iload_n 3, 1) := dq daX11_comes_15_0 15 rfl
theorem dX11_comes_25 : decode cX11_comes 25 = .ok (.bipush 6, 2) := dq daX11_comes_15_0 16 rfl
theorem dX11_comes_27 : decode cX11_comes 27 = .ok (.iadd, 1) := dq daX11_comes_15_0 17 rfl
theorem dX11_comes_28 : decode cX11_comes 28 = .ok (.iaload, 1) := dq daX11_comes_15_0 18 rfl
theorem dX11_comes_29 : decode cX11_comes 29 = .ok (.istore 5, 2) := dq daX11_comes_15_0 19 rfl
theorem dX11_comes_31 : decode cX11_comes 31 = .ok (.aload_n 0, 1) := dq daX11_comes_15_0 20 rfl
theorem dX11_comes_32 : decode cX11_comes 32 = .ok (.aload_n 0, 1) := dq daX11_comes_15_0 21 rfl
theorem dX11_comes_33 : decode cX11_comes 33 = .ok (.getfield 39, 3) := dq daX11_comes_15_0 22 rfl
theorem dX11_comes_36 : decode cX11_comes 36 = .ok (.iconst 5, 1) := dq daX11_comes_15_0 23 rfl
theorem dX11_comes_37 : decode cX11_comes 37 = .ok (.iaload, 1) := dq daX11_comes_15_0 24 rfl
theorem dX11_comes_38 : decode cX11_comes 38 = .ok (.iconst 1, 1) := dq daX11_comes_15_0 25 rfl
theorem dX11_comes_39 : decode cX11_comes 39 = .ok (.iadd, 1) := dq daX11_comes_15_0 26 rfl
theorem dX11_comes_40 : decode cX11_comes 40 = .ok (.iload 4, 2) := dq daX11_comes_15_0 27 rfl
theorem dX11_comes_42 : decode cX11_comes 42 = .ok (.aload_n 0, 1) := dq daX11_comes_15_0 28 rfl
theorem dX11_comes_43 : decode cX11_comes 43 = .ok (.getfield 39, 3) := dq daX11_comes_15_0 29 rfl
theorem dX11_comes_46 : decode cX11_comes 46 = .ok (.iload_n 3, 1) := dq daX11_comes_15_0 30 rfl
theorem dX11_comes_47 : decode cX11_comes 47 = .ok (.iconst 4, 1) := dq daX11_comes_15_0 31 rfl
def dtX11_comes_15_1 : List (Nat × Jvm.ClassFile.Instr × Nat) := [(48, .iadd, 1), (49, .iaload, 1), (50, .aload_n 0, 1), (51, .getfield 39, 3), (54, .iload_n 3, 1), (55, .iaload, 1), (56, .aload_n 0, 1), (57, .getfield 39, 3), (60, .iload_n 3, 1), (61, .iconst 1, 1), (62, .iadd, 1), (63, .iaload, 1), (64, .invokevirtual 330, 3), (67, .aload_n 0, 1), (68, .getfield 39, 3), (71, .iload_n 3, 1), (72, .iconst 4, 1), (73, .iadd, 1), (74, .iaload, 1), (75, .i2l, 1), (76, .aload_n 0, 1), (77, .iload_n 1, 1), (78, .iconst 2, 1), (79, .invokevirtual 318, 3), (82, .lconst 0, 1), (83, .ldc2_w 349, 3), (86, .invokestatic 322, 3), (89, .lmul, 1), (90, .ldc2_w 349, 3), (93, .ldiv, 1), (94, .l2i, 1), (95, .istore 6, 2)]
theorem daX11_comes_15_1 : dtX11_comes_15_1.all (dqd cX11_comes) = true := by decide +kernel
theorem dX11_comes_48 : decode cX11_comes 48 = .ok (.iadd, 1) := dq daX11_comes_15_1 0 rfl
theorem dX11_comes_49 : decode cX11_comes 49 = .ok (.iaload, 1) := dq daX11_comes_15_1 1 rfl
theorem dX11_comes_50 : decode cX11_comes 50 = .ok (.aload_n 0, 1) := dq daX11_comes_15_1 2 rfl
theorem dX11_comes_51 : decode cX11_comes 51 = .ok (.getfield 39, 3) := dq daX11_comes_15_1 3 rfl
theorem dX11_comes_54 : decode cX11_comes 54 = .ok (.iload_n 3, 1) := dq daX11_comes_15_1 4 rfl
theorem dX11_comes_55 : decode cX11_comes 55 = .ok (.iaload, 1) := dq daX11_comes_15_1 5 rfl
theorem dX11_comes_56 : decode cX11_comes 56 = .ok (.aload_n 0, 1) := dq daX11_comes_15_1 6 rfl
theorem dX11_comes_57 : decode cX11_comes 57 = .ok (.getfield 39, 3) := dq daX11_comes_15_1 7 rfl
theorem dX11_comes_60 : decode cX11_comes 60 = .ok (.iload_n 3, 1) := dq daX11_comes_15_1 8 rfl
theorem dX11_comes_61 : decode cX11_comes 61 = .ok (.iconst 1, 1) := dq daX11_comes_15_1 9 rfl
theorem dX11_comes_62 : decode cX11_comes 62 = .ok (.iadd, 1) := dq daX11_comes_15_1 10 rfl
theorem dX11_comes_63 : decode cX11_comes 63 = .ok (.iaload, 1) := dq daX11_comes_15_1 11 rfl
theorem dX11_comes_64 : decode cX11_comes 64 = .ok (.invokevirtual 330, 3) := dq daX11_comes_15_1 12 rfl
theorem dX11_comes_67 : decode cX11_comes 67 = .ok (.aload_n 0, 1) := dq daX11_comes_15_1 13 rfl
theorem dX11_comes_68 : decode cX11_comes 68 = .ok (.getfield 39, 3) := dq daX11_comes_15_1 14 rfl
theorem dX11_comes_71 : decode cX11_comes 71 = .ok (.iload_n 3, 1) := dq daX11_comes_15_1 15 rfl
theorem dX11_comes_72 : decode cX11_comes 72 = .ok (.iconst 4, 1) := dq daX11_comes_15_1 16 rfl
theorem dX11_comes_73 : decode cX11_comes 73 = .ok (.iadd, 1) := dq daX11_comes_15_1 17 rfl
theorem dX11_comes_74 : decode cX11_comes 74 = .ok (.iaload, 1) := dq daX11_comes_15_1 18 rfl
theorem dX11_comes_75 : decode cX11_comes 75 = .ok (.i2l, 1) := dq daX11_comes_15_1 19 rfl
theorem dX11_comes_76 : decode cX11_comes 76 = .ok (.aload_n 0, 1) := dq daX11_comes_15_1 20 rfl
theorem dX11_comes_77 : decode cX11_comes 77 = .ok (.iload_n 1, 1) := dq daX11_comes_15_1 21 rfl
theorem dX11_comes_78 : decode cX11_comes 78 = .ok (.iconst 2, 1) := dq daX11_comes_15_1 22 rfl
theorem dX11_comes_79 : decode cX11_comes 79 = .ok (.invokevirtual 318, 3) := dq daX11_comes_15_1 23 rfl
theorem dX11_comes_82 : decode cX11_comes 82 = .ok (.lconst 0, 1) := dq daX11_comes_15_1 24 rfl
theorem dX11_comes_83 : decode cX11_comes 83 = .ok (.ldc2_w 349, 3) := dq daX11_comes_15_1 25 rfl
theorem dX11_comes_86 : decode cX11_comes 86 = .ok (.invokestatic 322, 3) := dq daX11_comes_15_1 26 rfl
theorem dX11_comes_89 : decode cX11_comes 89 = .ok (.lmul, 1) := dq daX11_comes_15_1 27 rfl
theorem dX11_comes_90 : decode cX11_comes 90 = .ok (.ldc2_w 349, 3) := dq daX11_comes_15_1 28 rfl
theorem dX11_comes_93 : decode cX11_comes 93 = .ok (.ldiv, 1) := dq daX11_comes_15_1 29 rfl
theorem dX11_comes_94 : decode cX11_comes 94 = .ok (.l2i, 1) := dq daX11_comes_15_1 30 rfl
theorem dX11_comes_95 : decode cX11_comes 95 = .ok (.istore 6, 2) := dq daX11_comes_15_1 31 rfl
def dtX11_comes_15_2 : List (Nat × Jvm.ClassFile.Instr × Nat) := [(97, .aload_n 0, 1), (98, .getfield 39, 3), (101, .iload_n 3, 1), (102, .iconst 4, 1), (103, .iadd, 1), (104, .dup2, 1), (105, .iaload, 1), (106, .iload 6, 2), (108, .isub, 1), (109, .iastore, 1), (110, .aload_n 0, 1), (111, .iload 4, 2), (113, .iload 6, 2), (115, .invokevirtual 298, 3), (118, .pop, 1), (119, .aload_n 0, 1), (120, .getfield 39, 3), (123, .iload_n 3, 1), (124, .iconst 5, 1), (125, .iadd, 1), (126, .iload 4, 2), (128, .iastore, 1), (129, .aload_n 0, 1), (130, .getfield 39, 3), (133, .iload_n 3, 1), (134, .bipush 6, 2), (136, .iadd, 1), (137, .iconst (-1), 1), (138, .iastore, 1), (139, .aload_n 0, 1), (140, .getfield 39, 3), (143, .iload_n 3, 1)]
theorem daX11_comes_15_2 : dtX11_comes_15_2.all (dqd cX11_comes) = true := by decide +kernel
theorem dX11_comes_97 : decode cX11_comes 97 = .ok (.aload_n 0, 1) := dq daX11_comes_15_2 0 rfl
theorem dX11_comes_98 : decode cX11_comes 98 = .ok (.getfield 39, 3) := dq daX11_comes_15_2 1 rfl
theorem dX11_comes_101 : decode cX11_comes 101 = .ok (.iload_n 3, 1) := dq daX11_comes_15_2 2 rfl
theorem dX11_comes_102 : decode cX11_comes 102 = .ok (.iconst 4, 1) := dq daX11_comes_15_2 3 rfl
theorem dX11_comes_103 : decode cX11_comes 103 = .ok (.iadd, 1) := dq daX11_comes_15_2 4 rfl
theorem dX11_comes_104 : decode cX11_comes 104 = .ok (.dup2, 1) := dq daX11_comes_15_2 5 rfl
theorem dX11_comes_105 : decode cX11_comes 105 = .ok (.iaload, 1) := dq daX11_comes_15_2 6 rfl
theorem dX11_comes_106 : decode cX11_comes 106 = .ok (.iload 6, 2) := dq daX11_comes_15_2 7 rfl
theorem dX11_comes_108 : decode cX11_comes 108 = .ok (.isub, 1) := dq daX11_comes_15_2 8 rfl
theorem dX11_comes_109 : decode cX11_comes 109 = .ok (.iastore, 1) := dq daX11_comes_15_2 9 rfl
theorem dX11_comes_110 : decode cX11_comes 110 = .ok (.aload_n 0, 1) := dq daX11_comes_15_2 10 rfl
theorem dX11_comes_111 : decode cX11_comes 111 = .ok (.iload 4, 2) := dq daX11_comes_15_2 11 rfl
theorem dX11_comes_113 : decode cX11_comes 113 = .ok (.iload 6, 2) := dq daX11_comes_15_2 12 rfl
theorem dX11_comes_115 : decode cX11_comes 115 = .ok (.invokevirtual 298, 3) := dq daX11_comes_15_2 13 rfl
theorem dX11_comes_118 : decode cX11_comes 118 = .ok (.pop, 1) := dq daX11_comes_15_2 14 rfl
theorem dX11_comes_119 : decode cX11_comes 119 = .ok (.aload_n 0, 1) := dq daX11_comes_15_2 15 rfl
theorem dX11_comes_120 : decode cX11_comes 120 = .ok (.getfield 39, 3) := dq daX11_comes_15_2 16 rfl
theorem dX11_comes_123 : decode cX11_comes 123 = .ok (.iload_n 3, 1) := dq daX11_comes_15_2 17 rfl
theorem dX11_comes_124 : decode cX11_comes 124 = .ok (.iconst 5, 1) := dq daX11_comes_15_2 18 rfl
theorem dX11_comes_125 : decode cX11_comes 125 = .ok (.iadd, 1) := dq daX11_comes_15_2 19 rfl
theorem dX11_comes_126 : decode cX11_comes 126 = .ok (.iload 4, 2) := dq daX11_comes_15_2 20 rfl
theorem dX11_comes_128 : decode cX11_comes 128 = .ok (.iastore, 1) := dq daX11_comes_15_2 21 rfl
theorem dX11_comes_129 : decode cX11_comes 129 = .ok (.aload_n 0, 1) := dq daX11_comes_15_2 22 rfl
theorem dX11_comes_130 : decode cX11_comes 130 = .ok (.getfield 39, 3) := dq daX11_comes_15_2 23 rfl
theorem dX11_comes_133 : decode cX11_comes 133 = .ok (.iload_n 3, 1) := dq daX11_comes_15_2 24 rfl
theorem dX11_comes_134 : decode cX11_comes 134 = .ok (.bipush 6, 2) := dq daX11_comes_15_2 25 rfl
theorem dX11_comes_136 : decode cX11_comes 136 = .ok (.iadd, 1) := dq daX11_comes_15_2 26 rfl
theorem dX11_comes_137 : decode cX11_comes 137 = .ok (.iconst (-1), 1) := dq daX11_comes_15_2 27 rfl
theorem dX11_comes_138 : decode cX11_comes 138 = .ok (.iastore, 1) := dq daX11_comes_15_2 28 rfl
theorem dX11_comes_139 : decode cX11_comes 139 = .ok (.aload_n 0, 1) := dq daX11_comes_15_2 29 rfl
theorem dX11_comes_140 : decode cX11_comes 140 = .ok (.getfield 39, 3) := dq daX11_comes_15_2 30 rfl
theorem dX11_comes_143 : decode cX11_comes 143 = .ok (.iload_n 3, 1) := dq daX11_comes_15_2 31 rfl
def dtX11_comes_15_3 : List (Nat × Jvm.ClassFile.Instr × Nat) := [(144, .bipush 7, 2), (146, .iadd, 1), (147, .iconst 0, 1), (148, .iastore, 1), (149, .aload_n 0, 1), (150, .getfield 39, 3), (153, .iload_n 3, 1), (154, .bipush 8, 2), (156, .iadd, 1), (157, .iconst (-1), 1), (158, .iastore, 1), (159, .aload_n 0, 1), (160, .invokevirtual 351, 3), (163, .aload_n 0, 1), (164, .iload 5, 2), (166, .iconst 4, 1), (167, .invokevirtual 303, 3), (170, .if_icmp .ge 9, 3), (179, .aload_n 0, 1), (180, .aload_n 0, 1), (181, .getfield 39, 3), (184, .iconst 5, 1), (185, .iaload, 1), (186, .iconst 1, 1), (187, .iadd, 1), (188, .iload 4, 2), (190, .aload_n 0, 1), (191, .getfield 39, 3), (194, .iload_n 3, 1), (195, .iconst 4, 1), (196, .iadd, 1), (197, .iaload, 1)]
theorem daX11_comes_15_3 : dtX11_comes_15_3.all (dqd cX11_comes) = true := by decide +kernel
theorem dX11_comes_144 : decode cX11_comes 144 = .ok (.bipush 7, 2) := dq daX11_comes_15_3 0 rfl
theorem dX11_comes_146 : decode cX11_comes 146 = .ok (.iadd, 1) := dq daX11_comes_15_3 1 rfl
theorem dX11_comes_147 : decode cX11_comes 147 = .ok (.iconst 0, 1) := dq daX11_comes_15_3 2 rfl
theorem dX11_comes_148 : decode cX11_comes 148 = .ok (.iastore, 1) := dq daX11_comes_15_3 3 rfl
theorem dX11_comes_149 : decode cX11_comes 149 = .ok (.aload_n 0, 1) := dq daX11_comes_15_3 4 rfl
theorem dX11_comes_150 : decode cX11_comes 150 = .ok (.getfield 39, 3) := dq daX11_comes_15_3 5 rfl
theorem dX11_comes_153 : decode cX11_comes 153 = .ok (.iload_n 3, 1) := dq daX11_comes_15_3 6 rfl
theorem dX11_comes_154 : decode cX11_comes 154 = .ok (.bipush 8, 2) := dq daX11_comes_15_3 7 rfl
theorem dX11_comes_156 : decode cX11_comes 156 = .ok (.iadd, 1) := dq daX11_comes_15_3 8 rfl
theorem dX11_comes_157 : decode cX11_comes 157 = .ok (.iconst (-1), 1) := dq daX11_comes_15_3 9 rfl
theorem dX11_comes_158 : decode cX11_comes 158 = .ok (.iastore, 1) := dq daX11_comes_15_3 10 rfl
theorem dX11_comes_159 : decode cX11_comes 159 = .ok (.aload_n 0, 1) := dq daX11_comes_15_3 11 rfl
theorem dX11_comes_160 : decode cX11_comes 160 = .ok (.invokevirtual 351, 3) := dq daX11_comes_15_3 12 rfl
theorem dX11_comes_163 : decode cX11_comes 163 = .ok (.aload_n 0, 1) := dq daX11_comes_15_3 13 rfl
theorem dX11_comes_164 : decode cX11_comes 164 = .ok (.iload 5, 2) := dq daX11_comes_15_3 14 rfl
theorem dX11_comes_166 : decode cX11_comes 166 = .ok (.iconst 4, 1) := dq daX11_comes_15_3 15 rfl
theorem dX11_comes_167 : decode cX11_comes 167 = .ok (.invokevirtual 303, 3) := dq daX11_comes_15_3 16 rfl
theorem dX11_comes_170 : decode cX11_comes 170 = .ok (.if_icmp .ge 9, 3) := dq daX11_comes_15_3 17 rfl
theorem dX11_comes_179 : decode cX11_comes 179 = .ok (.aload_n 0, 1) := dq daX11_comes_15_3 18 rfl
theorem dX11_comes_180 : decode cX11_comes 180 = .ok (.aload_n 0, 1) := dq daX11_comes_15_3 19 rfl
theorem dX11_comes_181 : decode cX11_comes 181 = .ok (.getfield 39, 3) := dq daX11_comes_15_3 20 rfl
theorem dX11_comes_184 : decode cX11_comes 184 = .ok (.iconst 5, 1) := dq daX11_comes_15_3 21 rfl
theorem dX11_comes_185 : decode cX11_comes 185 = .ok (.iaload, 1) := dq daX11_comes_15_3 22 rfl
theorem dX11_comes_186 : decode cX11_comes 186 = .ok (.iconst 1, 1) := dq daX11_comes_15_3 23 rfl
theorem dX11_comes_187 : decode cX11_comes 187 = .ok (.iadd, 1) := dq daX11_comes_15_3 24 rfl
theorem dX11_comes_188 : decode cX11_comes 188 = .ok (.iload 4, 2) := dq daX11_comes_15_3 25 rfl
theorem dX11_comes_190 : decode cX11_comes 190 = .ok (.aload_n 0, 1) := dq daX11_comes_15_3 26 rfl
theorem dX11_comes_191 : decode cX11_comes 191 = .ok (.getfield 39, 3) := dq daX11_comes_15_3 27 rfl
theorem dX11_comes_194 : decode cX11_comes 194 = .ok (.iload_n 3, 1) := dq daX11_comes_15_3 28 rfl
theorem dX11_comes_195 : decode cX11_comes 195 = .ok (.iconst 4, 1) := dq daX11_comes_15_3 29 rfl
theorem dX11_comes_196 : decode cX11_comes 196 = .ok (.iadd, 1) := dq daX11_comes_15_3 30 rfl
theorem dX11_comes_197 : decode cX11_comes 197 = .ok (.iaload, 1) := dq daX11_comes_15_3 31 rfl
def dtX11_comes_15_4 : List (Nat × Jvm.ClassFile.Instr × Nat) := [(198, .aload_n 0, 1), (199, .getfield 39, 3), (202, .iload_n 3, 1), (203, .iaload, 1), (204, .aload_n 0, 1), (205, .getfield 39, 3), (208, .iload_n 3, 1), (209, .iconst 1, 1), (210, .iadd, 1), (211, .iaload, 1), (212, .invokevirtual 330, 3), (215, .aload_n 0, 1), (216, .invokevirtual 351, 3), (219, .i2l, 1), (220, .aload_n 0, 1), (221, .iload_n 1, 1), (222, .iconst 3, 1), (223, .invokevirtual 318, 3), (226, .lconst 0, 1), (227, .ldc2_w 272, 3), (230, .invokestatic 322, 3), (233, .lcmp, 1), (234, .ifCond .ge 13, 3), (237, .aload_n 0, 1), (238, .iload_n 1, 1), (239, .iload_n 2, 1), (240, .iload 4, 2), (242, .iload 5, 2), (244, .invokevirtual 354, 3), (173, .aload_n 0, 1), (174, .iload_n 2, 1), (175, .invokevirtual 346, 3)]
theorem daX11_comes_15_4 : dtX11_comes_15_4.all (dqd cX11_comes) = true := by decide +kernel
theorem dX11_comes_198 : decode cX11_comes 198 = .ok (.aload_n 0, 1) := dq daX11_comes_15_4 0 rfl
theorem dX11_comes_199 : decode cX11_comes 199 = .ok (.getfield 39, 3) := dq daX11_comes_15_4 1 rfl
theorem dX11_comes_202 : decode cX11_comes 202 = .ok (.iload_n 3, 1) := dq daX11_comes_15_4 2 rfl
theorem dX11_comes_203 : decode cX11_comes 203 = .ok (.iaload, 1) := dq daX11_comes_15_4 3 rfl
theorem dX11_comes_204 : decode cX11_comes 204 = .ok (.aload_n 0, 1) := dq daX11_comes_15_4 4 rfl
theorem dX11_comes_205 : decode cX11_comes 205 = .ok (.getfield 39, 3) := dq daX11_comes_15_4 5 rfl
theorem dX11_comes_208 : decode cX11_comes 208 = .ok (.iload_n 3, 1) := dq daX11_comes_15_4 6 rfl
theorem dX11_comes_209 : decode cX11_comes 209 = .ok (.iconst 1, 1) := dq daX11_comes_15_4 7 rfl
theorem dX11_comes_210 : decode cX11_comes 210 = .ok (.iadd, 1) := dq daX11_comes_15_4 8 rfl
theorem dX11_comes_211 : decode cX11_comes 211 = .ok (.iaload, 1) := dq daX11_comes_15_4 9 rfl
theorem dX11_comes_212 : decode cX11_comes 212 = .ok (.invokevirtual 330, 3) := dq daX11_comes_15_4 10 rfl
theorem dX11_comes_215 : decode cX11_comes 215 = .ok (.aload_n 0, 1) := dq daX11_comes_15_4 11 rfl
theorem dX11_comes_216 : decode cX11_comes 216 = .ok (.invokevirtual 351, 3) := dq daX11_comes_15_4 12 rfl
theorem dX11_comes_219 : decode cX11_comes 219 = .ok (.i2l, 1) := dq daX11_comes_15_4 13 rfl
theorem dX11_comes_220 : decode cX11_comes 220 = .ok (.aload_n 0, 1) := dq daX11_comes_15_4 14 rfl
theorem dX11_comes_221 : decode cX11_comes 221 = .ok (.iload_n 1, 1) := dq daX11_comes_15_4 15 rfl
theorem dX11_comes_222 : decode cX11_comes 222 = .ok (.iconst 3, 1) := dq daX11_comes_15_4 16 rfl
theorem dX11_comes_223 : decode cX11_comes 223 = .ok (.invokevirtual 318, 3) := dq daX11_comes_15_4 17 rfl
theorem dX11_comes_226 : decode cX11_comes 226 = .ok (.lconst 0, 1) := dq daX11_comes_15_4 18 rfl
theorem dX11_comes_227 : decode cX11_comes 227 = .ok (.ldc2_w 272, 3) := dq daX11_comes_15_4 19 rfl
theorem dX11_comes_230 : decode cX11_comes 230 = .ok (.invokestatic 322, 3) := dq daX11_comes_15_4 20 rfl
theorem dX11_comes_233 : decode cX11_comes 233 = .ok (.lcmp, 1) := dq daX11_comes_15_4 21 rfl
theorem dX11_comes_234 : decode cX11_comes 234 = .ok (.ifCond .ge 13, 3) := dq daX11_comes_15_4 22 rfl
theorem dX11_comes_237 : decode cX11_comes 237 = .ok (.aload_n 0, 1) := dq daX11_comes_15_4 23 rfl
theorem dX11_comes_238 : decode cX11_comes 238 = .ok (.iload_n 1, 1) := dq daX11_comes_15_4 24 rfl
theorem dX11_comes_239 : decode cX11_comes 239 = .ok (.iload_n 2, 1) := dq daX11_comes_15_4 25 rfl
theorem dX11_comes_240 : decode cX11_comes 240 = .ok (.iload 4, 2) := dq daX11_comes_15_4 26 rfl
theorem dX11_comes_242 : decode cX11_comes 242 = .ok (.iload 5, 2) := dq daX11_comes_15_4 27 rfl
theorem dX11_comes_244 : decode cX11_comes 244 = .ok (.invokevirtual 354, 3) := dq daX11_comes_15_4 28 rfl
theorem dX11_comes_173 : decode cX11_comes 173 = .ok (.aload_n 0, 1) := dq daX11_comes_15_4 29 rfl
theorem dX11_comes_174 : decode cX11_comes 174 = .ok (.iload_n 2, 1) := dq daX11_comes_15_4 30 rfl
theorem dX11_comes_175 : decode cX11_comes 175 = .ok (.invokevirtual 346, 3) := dq daX11_comes_15_4 31 rfl
def dtX11_comes_15_5 : List (Nat × Jvm.ClassFile.Instr × Nat) := [(247, .return_, 1), (178, .return_, 1)]
theorem daX11_comes_15_5 : dtX11_comes_15_5.all (dqd cX11_comes) = true := by decide +kernel
theorem dX11_comes_247 : decode cX11_comes 247 = .ok (.return_, 1) := dq daX11_comes_15_5 0 rfl
theorem dX11_comes_178 : decode cX11_comes 178 = .ok (.return_, 1) := dq daX11_comes_15_5 1 rfl
def dtX11_hour_15_0 : List (Nat × Jvm.ClassFile.Instr × Nat) := [(0, .iconst 0, 1), (1, .istore_n 2, 1), (2, .iload_n 2, 1), (3, .aload_n 0, 1), (4, .getfield 39, 3), (7, .iconst 2, 1), (8, .iaload, 1), (9, .if_icmp .ge 109, 3), (12, .aload_n 0, 1), (13, .iload_n 2, 1), (14, .iconst 5, 1), (15, .invokevirtual 283, 3), (18, .bipush 13, 2), (20, .if_icmp .ne 6, 3), (26, .aload_n 0, 1), (27, .getfield 39, 3), (30, .sipush 168, 3), (33, .bipush 9, 2), (35, .iload_n 2, 1), (36, .imul, 1), (37, .iadd, 1), (38, .iconst 4, 1), (39, .iadd, 1), (40, .dup2, 1), (41, .iaload, 1), (42, .aload_n 0, 1), (43, .iload_n 1, 1), (44, .iload_n 2, 1), (45, .invokevirtual 357, 3), (48, .isub, 1), (49, .iastore, 1), (50, .aload_n 0, 1)]
theorem daX11_hour_15_0 : dtX11_hour_15_0.all (dqd cX11_hour) = true := by decide +kernel
theorem dX11_hour_0 : decode cX11_hour 0 = .ok (.iconst 0, 1) := dq daX11_hour_15_0 0 rfl
theorem dX11_hour_1 : decode cX11_hour 1 = .ok (.istore_n 2, 1) := dq daX11_hour_15_0 1 rfl
theorem dX11_hour_2 : decode cX11_hour 2 = .ok (.iload_n 2, 1) := dq daX11_hour_15_0 2 rfl
theorem dX11_hour_3 : decode cX11_hour 3 = .ok (.aload_n 0, 1) := dq daX11_hour_15_0 3 rfl
theorem dX11_hour_4 : decode cX11_hour 4 = .ok (.getfield 39, 3) := dq daX11_hour_15_0 4 rfl
theorem dX11_hour_7 : decode cX11_hour 7 = .ok (.iconst 2, 1) := dq daX11_hour_15_0 5 rfl
theorem dX11_hour_8 : decode cX11_hour 8 = .ok (.iaload, 1) := dq daX11_hour_15_0 6 rfl
theorem dX11_hour_9 : decode cX11_hour 9 = .ok (.if_icmp .ge 109, 3) := dq daX11_hour_15_0 7 rfl
theorem dX11_hour_12 : decode cX11_hour 12 = .ok (.aload_n 0, 1) := dq daX11_hour_15_0 8 rfl
theorem dX11_hour_13 : decode cX11_hour 13 = .ok (.iload_n 2, 1) := dq daX11_hour_15_0 9 rfl
theorem dX11_hour_14 : decode cX11_hour 14 = .ok (.iconst 5, 1) := dq daX11_hour_15_0 10 rfl
theorem dX11_hour_15 : decode cX11_hour 15 = .ok (.invokevirtual 283, 3) := dq daX11_hour_15_0 11 rfl
theorem dX11_hour_18 : decode cX11_hour 18 = .ok (.bipush 13, 2) := dq daX11_hour_15_0 12 rfl
theorem dX11_hour_20 : decode cX11_hour 20 = .ok (.if_icmp .ne 6, 3) := dq daX11_hour_15_0 13 rfl
theorem dX11_hour_26 : decode cX11_hour 26 = .ok (.aload_n 0, 1) := dq daX11_hour_15_0 14 rfl
theorem dX11_hour_27 : decode cX11_hour 27 = .ok (.getfield 39, 3) := dq daX11_hour_15_0 15 rfl
theorem dX11_hour_30 : decode cX11_hour 30 = .ok (.sipush 168, 3) := dq daX11_hour_15_0 16 rfl
theorem dX11_hour_33 : decode cX11_hour 33 = .ok (.bipush 9, 2) := dq daX11_hour_15_0 17 rfl
theorem dX11_hour_35 : decode cX11_hour 35 = .ok (.iload_n 2, 1) := dq daX11_hour_15_0 18 rfl
theorem dX11_hour_36 : decode cX11_hour 36 = .ok (.imul, 1) := dq daX11_hour_15_0 19 rfl
theorem dX11_hour_37 : decode cX11_hour 37 = .ok (.iadd, 1) := dq daX11_hour_15_0 20 rfl
theorem dX11_hour_38 : decode cX11_hour 38 = .ok (.iconst 4, 1) := dq daX11_hour_15_0 21 rfl
theorem dX11_hour_39 : decode cX11_hour 39 = .ok (.iadd, 1) := dq daX11_hour_15_0 22 rfl
theorem dX11_hour_40 : decode cX11_hour 40 = .ok (.dup2, 1) := dq daX11_hour_15_0 23 rfl
theorem dX11_hour_41 : decode cX11_hour 41 = .ok (.iaload, 1) := dq daX11_hour_15_0 24 rfl
theorem dX11_hour_42 : decode cX11_hour 42 = .ok (.aload_n 0, 1) := dq daX11_hour_15_0 25 rfl
theorem dX11_hour_43 : decode cX11_hour 43 = .ok (.iload_n 1, 1) := dq daX11_hour_15_0 26 rfl
theorem dX11_hour_44 : decode cX11_hour 44 = .ok (.iload_n 2, 1) := dq daX11_hour_15_0 27 rfl
theorem dX11_hour_45 : decode cX11_hour 45 = .ok (.invokevirtual 357, 3) := dq daX11_hour_15_0 28 rfl
theorem dX11_hour_48 : decode cX11_hour 48 = .ok (.isub, 1) := dq daX11_hour_15_0 29 rfl
theorem dX11_hour_49 : decode cX11_hour 49 = .ok (.iastore, 1) := dq daX11_hour_15_0 30 rfl
theorem dX11_hour_50 : decode cX11_hour 50 = .ok (.aload_n 0, 1) := dq daX11_hour_15_0 31 rfl
def dtX11_hour_15_1 : List (Nat × Jvm.ClassFile.Instr × Nat) := [(51, .iload_n 2, 1), (52, .iconst 5, 1), (53, .invokevirtual 283, 3), (56, .bipush 12, 2), (58, .if_icmp .eq 6, 3), (64, .aload_n 0, 1), (65, .getfield 39, 3), (68, .sipush 168, 3), (71, .bipush 9, 2), (73, .iload_n 2, 1), (74, .imul, 1), (75, .iadd, 1), (76, .bipush 7, 2), (78, .iadd, 1), (79, .dup2, 1), (80, .iaload, 1), (81, .iconst 1, 1), (82, .iadd, 1), (83, .iastore, 1), (84, .aload_n 0, 1), (85, .iload_n 2, 1), (86, .bipush 7, 2), (88, .invokevirtual 283, 3), (91, .aload_n 0, 1), (92, .aload_n 0, 1), (93, .iload_n 2, 1), (94, .bipush 6, 2), (96, .invokevirtual 283, 3), (99, .iconst 2, 1), (100, .invokevirtual 303, 3), (103, .if_icmp .ne 9, 3), (112, .iinc 2 1, 3)]
theorem daX11_hour_15_1 : dtX11_hour_15_1.all (dqd cX11_hour) = true := by decide +kernel
theorem dX11_hour_51 : decode cX11_hour 51 = .ok (.iload_n 2, 1) := dq daX11_hour_15_1 0 rfl
theorem dX11_hour_52 : decode cX11_hour 52 = .ok (.iconst 5, 1) := dq daX11_hour_15_1 1 rfl
theorem dX11_hour_53 : decode cX11_hour 53 = .ok (.invokevirtual 283, 3) := dq daX11_hour_15_1 2 rfl
theorem dX11_hour_56 : decode cX11_hour 56 = .ok (.bipush 12, 2) := dq daX11_hour_15_1 3 rfl
theorem dX11_hour_58 : decode cX11_hour 58 = .ok (.if_icmp .eq 6, 3) := dq daX11_hour_15_1 4 rfl
theorem dX11_hour_64 : decode cX11_hour 64 = .ok (.aload_n 0, 1) := dq daX11_hour_15_1 5 rfl
theorem dX11_hour_65 : decode cX11_hour 65 = .ok (.getfield 39, 3) := dq daX11_hour_15_1 6 rfl
theorem dX11_hour_68 : decode cX11_hour 68 = .ok (.sipush 168, 3) := dq daX11_hour_15_1 7 rfl
theorem dX11_hour_71 : decode cX11_hour 71 = .ok (.bipush 9, 2) := dq daX11_hour_15_1 8 rfl
theorem dX11_hour_73 : decode cX11_hour 73 = .ok (.iload_n 2, 1) := dq daX11_hour_15_1 9 rfl
theorem dX11_hour_74 : decode cX11_hour 74 = .ok (.imul, 1) := dq daX11_hour_15_1 10 rfl
theorem dX11_hour_75 : decode cX11_hour 75 = .ok (.iadd, 1) := dq daX11_hour_15_1 11 rfl
theorem dX11_hour_76 : decode cX11_hour 76 = .ok (.bipush 7, 2) := dq daX11_hour_15_1 12 rfl
theorem dX11_hour_78 : decode cX11_hour 78 = .ok (.iadd, 1) := dq daX11_hour_15_1 13 rfl
theorem dX11_hour_79 : decode cX11_hour 79 = .ok (.dup2, 1) := dq daX11_hour_15_1 14 rfl
theorem dX11_hour_80 : decode cX11_hour 80 = .ok (.iaload, 1) := dq daX11_hour_15_1 15 rfl
theorem dX11_hour_81 : decode cX11_hour 81 = .ok (.iconst 1, 1) := dq daX11_hour_15_1 16 rfl
theorem dX11_hour_82 : decode cX11_hour 82 = .ok (.iadd, 1) := dq daX11_hour_15_1 17 rfl
theorem dX11_hour_83 : decode cX11_hour 83 = .ok (.iastore, 1) := dq daX11_hour_15_1 18 rfl
theorem dX11_hour_84 : decode cX11_hour 84 = .ok (.aload_n 0, 1) := dq daX11_hour_15_1 19 rfl
theorem dX11_hour_85 : decode cX11_hour 85 = .ok (.iload_n 2, 1) := dq daX11_hour_15_1 20 rfl
theorem dX11_hour_86 : decode cX11_hour 86 = .ok (.bipush 7, 2) := dq daX11_hour_15_1 21 rfl
theorem dX11_hour_88 : decode cX11_hour 88 = .ok (.invokevirtual 283, 3) := dq daX11_hour_15_1 22 rfl
theorem dX11_hour_91 : decode cX11_hour 91 = .ok (.aload_n 0, 1) := dq daX11_hour_15_1 23 rfl
theorem dX11_hour_92 : decode cX11_hour 92 = .ok (.aload_n 0, 1) := dq daX11_hour_15_1 24 rfl
theorem dX11_hour_93 : decode cX11_hour 93 = .ok (.iload_n 2, 1) := dq daX11_hour_15_1 25 rfl
theorem dX11_hour_94 : decode cX11_hour 94 = .ok (.bipush 6, 2) := dq daX11_hour_15_1 26 rfl
theorem dX11_hour_96 : decode cX11_hour 96 = .ok (.invokevirtual 283, 3) := dq daX11_hour_15_1 27 rfl
theorem dX11_hour_99 : decode cX11_hour 99 = .ok (.iconst 2, 1) := dq daX11_hour_15_1 28 rfl
theorem dX11_hour_100 : decode cX11_hour 100 = .ok (.invokevirtual 303, 3) := dq daX11_hour_15_1 29 rfl
theorem dX11_hour_103 : decode cX11_hour 103 = .ok (.if_icmp .ne 9, 3) := dq daX11_hour_15_1 30 rfl
theorem dX11_hour_112 : decode cX11_hour 112 = .ok (.iinc 2 1, 3) := dq daX11_hour_15_1 31 rfl
def dtX11_hour_15_2 : List (Nat × Jvm.ClassFile.Instr × Nat) := [(115, .goto (-113), 3), (106, .aload_n 0, 1), (107, .iload_n 1, 1), (108, .iload_n 2, 1), (109, .invokevirtual 360, 3), (61, .goto 51, 3), (23, .goto 89, 3), (118, .iconst 0, 1), (119, .istore_n 2, 1), (120, .iload_n 2, 1), (121, .aload_n 0, 1), (122, .getfield 39, 3), (125, .iconst 0, 1), (126, .iaload, 1), (127, .if_icmp .ge 59, 3), (130, .aload_n 0, 1), (131, .iload_n 2, 1), (132, .iconst 3, 1), (133, .invokevirtual 257, 3), (136, .istore_n 3, 1), (137, .aload_n 0, 1), (138, .aload_n 0, 1), (139, .getfield 39, 3), (142, .iconst 5, 1), (143, .iaload, 1), (144, .iload_n 2, 1), (145, .iload_n 3, 1), (146, .iconst 0, 1), (147, .iconst 0, 1), (148, .invokevirtual 330, 3), (151, .aload_n 0, 1), (152, .getfield 39, 3)]
theorem daX11_hour_15_2 : dtX11_hour_15_2.all (dqd cX11_hour) = true := by decide +kernel
theorem dX11_hour_115 : decode cX11_hour 115 = .ok (.goto (-113), 3) := dq daX11_hour_15_2 0 rfl
theorem dX11_hour_106 : decode cX11_hour 106 = .ok (.aload_n 0, 1) := dq daX11_hour_15_2 1 rfl
theorem dX11_hour_107 : decode cX11_hour 107 = .ok (.iload_n 1, 1) := dq daX11_hour_15_2 2 rfl
theorem dX11_hour_108 : decode cX11_hour 108 = .ok (.iload_n 2, 1) := dq daX11_hour_15_2 3 rfl
theorem dX11_hour_109 : decode cX11_hour 109 = .ok (.invokevirtual 360, 3) := dq daX11_hour_15_2 4 rfl
theorem dX11_hour_61 : decode cX11_hour 61 = .ok (.goto 51, 3) := dq daX11_hour_15_2 5 rfl
theorem dX11_hour_23 : decode cX11_hour 23 = .ok (.goto 89, 3) := dq daX11_hour_15_2 6 rfl
theorem dX11_hour_118 : decode cX11_hour 118 = .ok (.iconst 0, 1) := dq daX11_hour_15_2 7 rfl
theorem dX11_hour_119 : decode cX11_hour 119 = .ok (.istore_n 2, 1) := dq daX11_hour_15_2 8 rfl
theorem dX11_hour_120 : decode cX11_hour 120 = .ok (.iload_n 2, 1) := dq daX11_hour_15_2 9 rfl
theorem dX11_hour_121 : decode cX11_hour 121 = .ok (.aload_n 0, 1) := dq daX11_hour_15_2 10 rfl
theorem dX11_hour_122 : decode cX11_hour 122 = .ok (.getfield 39, 3) := dq daX11_hour_15_2 11 rfl
theorem dX11_hour_125 : decode cX11_hour 125 = .ok (.iconst 0, 1) := dq daX11_hour_15_2 12 rfl
theorem dX11_hour_126 : decode cX11_hour 126 = .ok (.iaload, 1) := dq daX11_hour_15_2 13 rfl
theorem dX11_hour_127 : decode cX11_hour 127 = .ok (.if_icmp .ge 59, 3) := dq daX11_hour_15_2 14 rfl
theorem dX11_hour_130 : decode cX11_hour 130 = .ok (.aload_n 0, 1) := dq daX11_hour_15_2 15 rfl
theorem dX11_hour_131 : decode cX11_hour 131 = .ok (.iload_n 2, 1) := dq daX11_hour_15_2 16 rfl
theorem dX11_hour_132 : decode cX11_hour 132 = .ok (.iconst 3, 1) := dq daX11_hour_15_2 17 rfl
theorem dX11_hour_133 : decode cX11_hour 133 = .ok (.invokevirtual 257, 3) := dq daX11_hour_15_2 18 rfl
theorem dX11_hour_136 : decode cX11_hour 136 = .ok (.istore_n 3, 1) := dq daX11_hour_15_2 19 rfl
theorem dX11_hour_137 : decode cX11_hour 137 = .ok (.aload_n 0, 1) := dq daX11_hour_15_2 20 rfl
theorem dX11_hour_138 : decode cX11_hour 138 = .ok (.aload_n 0, 1) := dq daX11_hour_15_2 21 rfl
theorem dX11_hour_139 : decode cX11_hour 139 = .ok (.getfield 39, 3) := dq daX11_hour_15_2 22 rfl
theorem dX11_hour_142 : decode cX11_hour 142 = .ok (.iconst 5, 1) := dq daX11_hour_15_2 23 rfl
theorem dX11_hour_143 : decode cX11_hour 143 = .ok (.iaload, 1) := dq daX11_hour_15_2 24 rfl
theorem dX11_hour_144 : decode cX11_hour 144 = .ok (.iload_n 2, 1) := dq daX11_hour_15_2 25 rfl
theorem dX11_hour_145 : decode cX11_hour 145 = .ok (.iload_n 3, 1) := dq daX11_hour_15_2 26 rfl
theorem dX11_hour_146 : decode cX11_hour 146 = .ok (.iconst 0, 1) := dq daX11_hour_15_2 27 rfl
theorem dX11_hour_147 : decode cX11_hour 147 = .ok (.iconst 0, 1) := dq daX11_hour_15_2 28 rfl
theorem dX11_hour_148 : decode cX11_hour 148 = .ok (.invokevirtual 330, 3) := dq daX11_hour_15_2 29 rfl
theorem dX11_hour_151 : decode cX11_hour 151 = .ok (.aload_n 0, 1) := dq daX11_hour_15_2 30 rfl
theorem dX11_hour_152 : decode cX11_hour 152 = .ok (.getfield 39, 3) := dq daX11_hour_15_2 31 rfl
def dtX11_hour_15_3 : List (Nat × Jvm.ClassFile.Instr × Nat) := [(155, .bipush 20, 2), (157, .iconst 4, 1), (158, .iload_n 2, 1), (159, .imul, 1), (160, .iadd, 1), (161, .iconst 3, 1), (162, .iadd, 1), (163, .dup2, 1), (164, .iaload, 1), (165, .aload_n 0, 1), (166, .iload_n 1, 1), (167, .iconst 1, 1), (168, .invokevirtual 318, 3), (171, .lconst 0, 1), (172, .iload_n 3, 1), (173, .i2l, 1), (174, .invokestatic 322, 3), (177, .l2i, 1), (178, .isub, 1), (179, .iastore, 1), (180, .iinc 2 1, 3), (183, .goto (-63), 3), (186, .aload_n 0, 1), (187, .getfield 39, 3), (190, .iconst 5, 1), (191, .dup2, 1), (192, .iaload, 1), (193, .iconst 1, 1), (194, .iadd, 1), (195, .iastore, 1), (196, .return_, 1)]
theorem daX11_hour_15_3 : dtX11_hour_15_3.all (dqd cX11_hour) = true := by decide +kernel
theorem dX11_hour_155 : decode cX11_hour 155 = .ok (.bipush 20, 2) := dq daX11_hour_15_3 0 rfl
theorem dX11_hour_157 : decode cX11_hour 157 = .ok (.iconst 4, 1) := dq daX11_hour_15_3 1 rfl
theorem dX11_hour_158 : decode cX11_hour 158 = .ok (.iload_n 2, 1) := dq daX11_hour_15_3 2 rfl
theorem dX11_hour_159 : decode cX11_hour 159 = .ok (.imul, 1) := dq daX11_hour_15_3 3 rfl
theorem dX11_hour_160 : decode cX11_hour 160 = .ok (.iadd, 1) := dq daX11_hour_15_3 4 rfl
theorem dX11_hour_161 : decode cX11_hour 161 = .ok (.iconst 3, 1) := dq daX11_hour_15_3 5 rfl
theorem dX11_hour_162 : decode cX11_hour 162 = .ok (.iadd, 1) := dq daX11_hour_15_3 6 rfl
theorem dX11_hour_163 : decode cX11_hour 163 = .ok (.dup2, 1) := dq daX11_hour_15_3 7 rfl
theorem dX11_hour_164 : decode cX11_hour 164 = .ok (.iaload, 1) := dq daX11_hour_15_3 8 rfl
theorem dX11_hour_165 : decode cX11_hour 165 = .ok (.aload_n 0, 1) := dq daX11_hour_15_3 9 rfl
theorem dX11_hour_166 : decode cX11_hour 166 = .ok (.iload_n 1, 1) := dq daX11_hour_15_3 10 rfl
theorem dX11_hour_167 : decode cX11_hour 167 = .ok (.iconst 1, 1) := dq daX11_hour_15_3 11 rfl
theorem dX11_hour_168 : decode cX11_hour 168 = .ok (.invokevirtual 318, 3) := dq daX11_hour_15_3 12 rfl
theorem dX11_hour_171 : decode cX11_hour 171 = .ok (.lconst 0, 1) := dq daX11_hour_15_3 13 rfl
theorem dX11_hour_172 : decode cX11_hour 172 = .ok (.iload_n 3, 1) := dq daX11_hour_15_3 14 rfl
theorem dX11_hour_173 : decode cX11_hour 173 = .ok (.i2l, 1) := dq daX11_hour_15_3 15 rfl
theorem dX11_hour_174 : decode cX11_hour 174 = .ok (.invokestatic 322, 3) := dq daX11_hour_15_3 16 rfl
theorem dX11_hour_177 : decode cX11_hour 177 = .ok (.l2i, 1) := dq daX11_hour_15_3 17 rfl
theorem dX11_hour_178 : decode cX11_hour 178 = .ok (.isub, 1) := dq daX11_hour_15_3 18 rfl
theorem dX11_hour_179 : decode cX11_hour 179 = .ok (.iastore, 1) := dq daX11_hour_15_3 19 rfl
theorem dX11_hour_180 : decode cX11_hour 180 = .ok (.iinc 2 1, 3) := dq daX11_hour_15_3 20 rfl
theorem dX11_hour_183 : decode cX11_hour 183 = .ok (.goto (-63), 3) := dq daX11_hour_15_3 21 rfl
theorem dX11_hour_186 : decode cX11_hour 186 = .ok (.aload_n 0, 1) := dq daX11_hour_15_3 22 rfl
theorem dX11_hour_187 : decode cX11_hour 187 = .ok (.getfield 39, 3) := dq daX11_hour_15_3 23 rfl
theorem dX11_hour_190 : decode cX11_hour 190 = .ok (.iconst 5, 1) := dq daX11_hour_15_3 24 rfl
theorem dX11_hour_191 : decode cX11_hour 191 = .ok (.dup2, 1) := dq daX11_hour_15_3 25 rfl
theorem dX11_hour_192 : decode cX11_hour 192 = .ok (.iaload, 1) := dq daX11_hour_15_3 26 rfl
theorem dX11_hour_193 : decode cX11_hour 193 = .ok (.iconst 1, 1) := dq daX11_hour_15_3 27 rfl
theorem dX11_hour_194 : decode cX11_hour 194 = .ok (.iadd, 1) := dq daX11_hour_15_3 28 rfl
theorem dX11_hour_195 : decode cX11_hour 195 = .ok (.iastore, 1) := dq daX11_hour_15_3 29 rfl
theorem dX11_hour_196 : decode cX11_hour 196 = .ok (.return_, 1) := dq daX11_hour_15_3 30 rfl
def dtX11_tick_15_0 : List (Nat × Jvm.ClassFile.Instr × Nat) := [(0, .aload_n 0, 1), (1, .iload_n 1, 1), (2, .invokevirtual 363, 3), (5, .ifCond .eq 28, 3), (33, .iconst (-1), 1), (34, .ireturn, 1), (8, .iload_n 2, 1), (9, .i2l, 1), (10, .lconst 1, 1), (11, .ldc2_w 366, 3), (14, .invokestatic 118, 3), (17, .ifCond .eq 16, 3), (20, .aload_n 0, 1), (21, .getfield 39, 3), (24, .iconst 5, 1), (25, .iaload, 1), (26, .iload_n 2, 1), (27, .iadd, 1), (28, .ldc 164, 2), (30, .if_icmp .le 5, 3), (35, .iconst 0, 1), (36, .istore_n 3, 1), (37, .iload_n 3, 1), (38, .iload_n 2, 1), (39, .if_icmp .ge 14, 3), (42, .aload_n 0, 1), (43, .iload_n 1, 1), (44, .invokevirtual 368, 3), (47, .iinc 3 1, 3), (50, .goto (-13), 3), (53, .aload_n 0, 1), (54, .getfield 39, 3)]
theorem daX11_tick_15_0 : dtX11_tick_15_0.all (dqd cX11_tick) = true := by decide +kernel
theorem dX11_tick_0 : decode cX11_tick 0 = .ok (.aload_n 0, 1) := dq daX11_tick_15_0 0 rfl
theorem dX11_tick_1 : decode cX11_tick 1 = .ok (.iload_n 1, 1) := dq daX11_tick_15_0 1 rfl
theorem dX11_tick_2 : decode cX11_tick 2 = .ok (.invokevirtual 363, 3) := dq daX11_tick_15_0 2 rfl
theorem dX11_tick_5 : decode cX11_tick 5 = .ok (.ifCond .eq 28, 3) := dq daX11_tick_15_0 3 rfl
theorem dX11_tick_33 : decode cX11_tick 33 = .ok (.iconst (-1), 1) := dq daX11_tick_15_0 4 rfl
theorem dX11_tick_34 : decode cX11_tick 34 = .ok (.ireturn, 1) := dq daX11_tick_15_0 5 rfl
theorem dX11_tick_8 : decode cX11_tick 8 = .ok (.iload_n 2, 1) := dq daX11_tick_15_0 6 rfl
theorem dX11_tick_9 : decode cX11_tick 9 = .ok (.i2l, 1) := dq daX11_tick_15_0 7 rfl
theorem dX11_tick_10 : decode cX11_tick 10 = .ok (.lconst 1, 1) := dq daX11_tick_15_0 8 rfl
theorem dX11_tick_11 : decode cX11_tick 11 = .ok (.ldc2_w 366, 3) := dq daX11_tick_15_0 9 rfl
theorem dX11_tick_14 : decode cX11_tick 14 = .ok (.invokestatic 118, 3) := dq daX11_tick_15_0 10 rfl
theorem dX11_tick_17 : decode cX11_tick 17 = .ok (.ifCond .eq 16, 3) := dq daX11_tick_15_0 11 rfl
theorem dX11_tick_20 : decode cX11_tick 20 = .ok (.aload_n 0, 1) := dq daX11_tick_15_0 12 rfl
theorem dX11_tick_21 : decode cX11_tick 21 = .ok (.getfield 39, 3) := dq daX11_tick_15_0 13 rfl
theorem dX11_tick_24 : decode cX11_tick 24 = .ok (.iconst 5, 1) := dq daX11_tick_15_0 14 rfl
theorem dX11_tick_25 : decode cX11_tick 25 = .ok (.iaload, 1) := dq daX11_tick_15_0 15 rfl
theorem dX11_tick_26 : decode cX11_tick 26 = .ok (.iload_n 2, 1) := dq daX11_tick_15_0 16 rfl
theorem dX11_tick_27 : decode cX11_tick 27 = .ok (.iadd, 1) := dq daX11_tick_15_0 17 rfl
theorem dX11_tick_28 : decode cX11_tick 28 = .ok (.ldc 164, 2) := dq daX11_tick_15_0 18 rfl
theorem dX11_tick_30 : decode cX11_tick 30 = .ok (.if_icmp .le 5, 3) := dq daX11_tick_15_0 19 rfl
theorem dX11_tick_35 : decode cX11_tick 35 = .ok (.iconst 0, 1) := dq daX11_tick_15_0 20 rfl
theorem dX11_tick_36 : decode cX11_tick 36 = .ok (.istore_n 3, 1) := dq daX11_tick_15_0 21 rfl
theorem dX11_tick_37 : decode cX11_tick 37 = .ok (.iload_n 3, 1) := dq daX11_tick_15_0 22 rfl
theorem dX11_tick_38 : decode cX11_tick 38 = .ok (.iload_n 2, 1) := dq daX11_tick_15_0 23 rfl
theorem dX11_tick_39 : decode cX11_tick 39 = .ok (.if_icmp .ge 14, 3) := dq daX11_tick_15_0 24 rfl
theorem dX11_tick_42 : decode cX11_tick 42 = .ok (.aload_n 0, 1) := dq daX11_tick_15_0 25 rfl
theorem dX11_tick_43 : decode cX11_tick 43 = .ok (.iload_n 1, 1) := dq daX11_tick_15_0 26 rfl
theorem dX11_tick_44 : decode cX11_tick 44 = .ok (.invokevirtual 368, 3) := dq daX11_tick_15_0 27 rfl
theorem dX11_tick_47 : decode cX11_tick 47 = .ok (.iinc 3 1, 3) := dq daX11_tick_15_0 28 rfl
theorem dX11_tick_50 : decode cX11_tick 50 = .ok (.goto (-13), 3) := dq daX11_tick_15_0 29 rfl
theorem dX11_tick_53 : decode cX11_tick 53 = .ok (.aload_n 0, 1) := dq daX11_tick_15_0 30 rfl
theorem dX11_tick_54 : decode cX11_tick 54 = .ok (.getfield 39, 3) := dq daX11_tick_15_0 31 rfl
def dtX11_tick_15_1 : List (Nat × Jvm.ClassFile.Instr × Nat) := [(57, .iconst 5, 1), (58, .iaload, 1), (59, .ireturn, 1)]
theorem daX11_tick_15_1 : dtX11_tick_15_1.all (dqd cX11_tick) = true := by decide +kernel
theorem dX11_tick_57 : decode cX11_tick 57 = .ok (.iconst 5, 1) := dq daX11_tick_15_1 0 rfl
theorem dX11_tick_58 : decode cX11_tick 58 = .ok (.iaload, 1) := dq daX11_tick_15_1 1 rfl
theorem dX11_tick_59 : decode cX11_tick 59 = .ok (.ireturn, 1) := dq daX11_tick_15_1 2 rfl
