theorem kX11_law_1 {a : Array Value} {s : State} (hts : ∀ w ∈ wsX11_law, w.before a s = true) : (.fieldLink RX11 232 "SnowMulesModel" "laws" "I" : Cond).before a s = true := kw (A := ixX11_law) wt458 hts (by decide +kernel)
theorem kX11_law_2 {a : Array Value} {s : State} (hts : ∀ w ∈ wsX11_law, w.before a s = true) : (.fieldLink RX11 144 "SnowMulesModel" "text" "I" : Cond).before a s = true := kw (A := ixX11_law) wt459 hts (by decide +kernel)
theorem kX11_law_3 {a : Array Value} {s : State} (hts : ∀ w ∈ wsX11_law, w.before a s = true) : (.fieldLink RX11 17 "SnowMulesModel" "length" "[I" : Cond).before a s = true := kw (A := ixX11_law) wt145 hts (by decide +kernel)
theorem kX11_law_4 {a : Array Value} {s : State} (hts : ∀ w ∈ wsX11_law, w.before a s = true) : (.fieldLink RX11 23 "SnowMulesModel" "clauses" "[I" : Cond).before a s = true := kw (A := ixX11_law) wt147 hts (by decide +kernel)
theorem kX11_law_5 {a : Array Value} {s : State} (hts : ∀ w ∈ wsX11_law, w.before a s = true) : (.fieldLink RX11 26 "SnowMulesModel" "chain" "[I" : Cond).before a s = true := kw (A := ixX11_law) wt148 hts (by decide +kernel)
theorem kX11_law_6 {a : Array Value} {s : State} (hts : ∀ w ∈ wsX11_law, w.before a s = true) : (.fieldLink RX11 226 "SnowMulesModel" "lines" "I" : Cond).before a s = true := kw (A := ixX11_law) wt460 hts (by decide +kernel)
theorem kX11_law_7 {a : Array Value} {s : State} (hts : ∀ w ∈ wsX11_law, w.before a s = true) : (.fieldLink RX11 90 "SnowMulesModel" "next" "I" : Cond).before a s = true := kw (A := ixX11_law) wt461 hts (by decide +kernel)
theorem kX11_law_8 {a : Array Value} {s : State} (hts : ∀ w ∈ wsX11_law, w.before a s = true) : (.fieldLink RX11 87 "SnowMulesModel" "wrong" "I" : Cond).before a s = true := kw (A := ixX11_law) wt462 hts (by decide +kernel)
theorem kX11_law_9 {a : Array Value} {s : State} (hts : ∀ w ∈ wsX11_law, w.before a s = true) : (.fieldLink RX11 147 "SnowMulesModel" "made" "I" : Cond).before a s = true := kw (A := ixX11_law) wt463 hts (by decide +kernel)
theorem kX11_law_10 {a : Array Value} {s : State} (hts : ∀ w ∈ wsX11_law, w.before a s = true) : (.fieldLink RX11 79 "SnowMulesModel" "taped" "I" : Cond).before a s = true := kw (A := ixX11_law) wt264 hts (by decide +kernel)
theorem iX11_law_X11 : ∀ w ∈ wsX110, w ∈ wsX11_law := inW (A := ixX11_law) uwX11 (by decide +kernel)
theorem hdX11_clauseHere : yX11_clauseHere.cls ≠ "java/lang/invoke/MethodHandle" ∧ yX11_clauseHere.cls ≠ "java/lang/invoke/VarHandle" ∧ (parseMethodDescriptor yX11_clauseHere.desc).map (fun d => d.parameters.length) = some 0 := ⟨hdc_0.1, hdc_0.2, hdd_22⟩
def dtX11_law_28_0 : List (Nat × Jvm.ClassFile.Instr × Nat) := [(0, .aload_n 0, 1), (1, .getfield 232, 3), (4, .bipush 6, 2), (6, .if_icmp .ne 5, 3), (11, .aload_n 0, 1), (12, .aload_n 0, 1), (13, .getfield 232, 3), (16, .putfield 144, 3), (19, .aload_n 0, 1), (20, .getfield 17, 3), (23, .aload_n 0, 1), (24, .getfield 144, 3), (27, .iconst 0, 1), (28, .iastore, 1), (29, .aload_n 0, 1), (30, .getfield 23, 3), (33, .aload_n 0, 1), (34, .getfield 144, 3), (37, .iconst 0, 1), (38, .iastore, 1), (39, .aload_n 0, 1), (40, .getfield 26, 3), (43, .aload_n 0, 1), (44, .getfield 144, 3), (47, .iconst (-1), 1), (48, .iastore, 1), (49, .aload_n 0, 1), (50, .iconst 0, 1), (51, .putfield 226, 3), (54, .aload_n 0, 1), (55, .iconst 0, 1), (56, .putfield 90, 3)]
theorem daX11_law_28_0 : dtX11_law_28_0.all (dqd cX11_law) = true := by decide +kernel
theorem dX11_law_0 : decode cX11_law 0 = .ok (.aload_n 0, 1) := dq daX11_law_28_0 0 rfl
theorem dX11_law_1 : decode cX11_law 1 = .ok (.getfield 232, 3) := dq daX11_law_28_0 1 rfl
theorem dX11_law_4 : decode cX11_law 4 = .ok (.bipush 6, 2) := dq daX11_law_28_0 2 rfl
theorem dX11_law_6 : decode cX11_law 6 = .ok (.if_icmp .ne 5, 3) := dq daX11_law_28_0 3 rfl
theorem dX11_law_11 : decode cX11_law 11 = .ok (.aload_n 0, 1) := dq daX11_law_28_0 4 rfl
theorem dX11_law_12 : decode cX11_law 12 = .ok (.aload_n 0, 1) := dq daX11_law_28_0 5 rfl
theorem dX11_law_13 : decode cX11_law 13 = .ok (.getfield 232, 3) := dq daX11_law_28_0 6 rfl
theorem dX11_law_16 : decode cX11_law 16 = .ok (.putfield 144, 3) := dq daX11_law_28_0 7 rfl
theorem dX11_law_19 : decode cX11_law 19 = .ok (.aload_n 0, 1) := dq daX11_law_28_0 8 rfl
theorem dX11_law_20 : decode cX11_law 20 = .ok (.getfield 17, 3) := dq daX11_law_28_0 9 rfl
theorem dX11_law_23 : decode cX11_law 23 = .ok (.aload_n 0, 1) := dq daX11_law_28_0 10 rfl
theorem dX11_law_24 : decode cX11_law 24 = .ok (.getfield 144, 3) := dq daX11_law_28_0 11 rfl
theorem dX11_law_27 : decode cX11_law 27 = .ok (.iconst 0, 1) := dq daX11_law_28_0 12 rfl
theorem dX11_law_28 : decode cX11_law 28 = .ok (.iastore, 1) := dq daX11_law_28_0 13 rfl
theorem dX11_law_29 : decode cX11_law 29 = .ok (.aload_n 0, 1) := dq daX11_law_28_0 14 rfl
theorem dX11_law_30 : decode cX11_law 30 = .ok (.getfield 23, 3) := dq daX11_law_28_0 15 rfl
theorem dX11_law_33 : decode cX11_law 33 = .ok (.aload_n 0, 1) := dq daX11_law_28_0 16 rfl
theorem dX11_law_34 : decode cX11_law 34 = .ok (.getfield 144, 3) := dq daX11_law_28_0 17 rfl
theorem dX11_law_37 : decode cX11_law 37 = .ok (.iconst 0, 1) := dq daX11_law_28_0 18 rfl
theorem dX11_law_38 : decode cX11_law 38 = .ok (.iastore, 1) := dq daX11_law_28_0 19 rfl
theorem dX11_law_39 : decode cX11_law 39 = .ok (.aload_n 0, 1) := dq daX11_law_28_0 20 rfl
theorem dX11_law_40 : decode cX11_law 40 = .ok (.getfield 26, 3) := dq daX11_law_28_0 21 rfl
theorem dX11_law_43 : decode cX11_law 43 = .ok (.aload_n 0, 1) := dq daX11_law_28_0 22 rfl
theorem dX11_law_44 : decode cX11_law 44 = .ok (.getfield 144, 3) := dq daX11_law_28_0 23 rfl
theorem dX11_law_47 : decode cX11_law 47 = .ok (.iconst (-1), 1) := dq daX11_law_28_0 24 rfl
theorem dX11_law_48 : decode cX11_law 48 = .ok (.iastore, 1) := dq daX11_law_28_0 25 rfl
theorem dX11_law_49 : decode cX11_law 49 = .ok (.aload_n 0, 1) := dq daX11_law_28_0 26 rfl
theorem dX11_law_50 : decode cX11_law 50 = .ok (.iconst 0, 1) := dq daX11_law_28_0 27 rfl
theorem dX11_law_51 : decode cX11_law 51 = .ok (.putfield 226, 3) := dq daX11_law_28_0 28 rfl
theorem dX11_law_54 : decode cX11_law 54 = .ok (.aload_n 0, 1) := dq daX11_law_28_0 29 rfl
theorem dX11_law_55 : decode cX11_law 55 = .ok (.iconst 0, 1) := dq daX11_law_28_0 30 rfl
theorem dX11_law_56 : decode cX11_law 56 = .ok (.putfield 90, 3) := dq daX11_law_28_0 31 rfl
def dtX11_law_28_1 : List (Nat × Jvm.ClassFile.Instr × Nat) := [(59, .aload_n 0, 1), (60, .iconst 0, 1), (61, .putfield 87, 3), (64, .aload_n 0, 1), (65, .iconst 0, 1), (66, .putfield 147, 3), (69, .aload_n 0, 1), (70, .invokevirtual 235, 3), (73, .istore_n 1, 1), (74, .iload_n 1, 1), (75, .ifCond .eq 30, 3), (78, .aload_n 0, 1), (79, .invokevirtual 93, 3), (82, .bipush 59, 2), (84, .if_icmp .ne 21, 3), (87, .aload_n 0, 1), (88, .dup, 1), (89, .getfield 90, 3), (92, .iconst 1, 1), (93, .iadd, 1), (94, .putfield 90, 3), (97, .aload_n 0, 1), (98, .invokevirtual 235, 3), (101, .istore_n 1, 1), (102, .goto (-28), 3), (105, .iload_n 1, 1), (106, .ifCond .eq 21, 3), (127, .aload_n 0, 1), (128, .iconst 0, 1), (129, .putfield 79, 3), (132, .aload_n 0, 1), (133, .getfield 87, 3)]
theorem daX11_law_28_1 : dtX11_law_28_1.all (dqd cX11_law) = true := by decide +kernel
theorem dX11_law_59 : decode cX11_law 59 = .ok (.aload_n 0, 1) := dq daX11_law_28_1 0 rfl
theorem dX11_law_60 : decode cX11_law 60 = .ok (.iconst 0, 1) := dq daX11_law_28_1 1 rfl
theorem dX11_law_61 : decode cX11_law 61 = .ok (.putfield 87, 3) := dq daX11_law_28_1 2 rfl
theorem dX11_law_64 : decode cX11_law 64 = .ok (.aload_n 0, 1) := dq daX11_law_28_1 3 rfl
theorem dX11_law_65 : decode cX11_law 65 = .ok (.iconst 0, 1) := dq daX11_law_28_1 4 rfl
theorem dX11_law_66 : decode cX11_law 66 = .ok (.putfield 147, 3) := dq daX11_law_28_1 5 rfl
theorem dX11_law_69 : decode cX11_law 69 = .ok (.aload_n 0, 1) := dq daX11_law_28_1 6 rfl
theorem dX11_law_70 : decode cX11_law 70 = .ok (.invokevirtual 235, 3) := dq daX11_law_28_1 7 rfl
theorem dX11_law_73 : decode cX11_law 73 = .ok (.istore_n 1, 1) := dq daX11_law_28_1 8 rfl
theorem dX11_law_74 : decode cX11_law 74 = .ok (.iload_n 1, 1) := dq daX11_law_28_1 9 rfl
theorem dX11_law_75 : decode cX11_law 75 = .ok (.ifCond .eq 30, 3) := dq daX11_law_28_1 10 rfl
theorem dX11_law_78 : decode cX11_law 78 = .ok (.aload_n 0, 1) := dq daX11_law_28_1 11 rfl
theorem dX11_law_79 : decode cX11_law 79 = .ok (.invokevirtual 93, 3) := dq daX11_law_28_1 12 rfl
theorem dX11_law_82 : decode cX11_law 82 = .ok (.bipush 59, 2) := dq daX11_law_28_1 13 rfl
theorem dX11_law_84 : decode cX11_law 84 = .ok (.if_icmp .ne 21, 3) := dq daX11_law_28_1 14 rfl
theorem dX11_law_87 : decode cX11_law 87 = .ok (.aload_n 0, 1) := dq daX11_law_28_1 15 rfl
theorem dX11_law_88 : decode cX11_law 88 = .ok (.dup, 1) := dq daX11_law_28_1 16 rfl
theorem dX11_law_89 : decode cX11_law 89 = .ok (.getfield 90, 3) := dq daX11_law_28_1 17 rfl
theorem dX11_law_92 : decode cX11_law 92 = .ok (.iconst 1, 1) := dq daX11_law_28_1 18 rfl
theorem dX11_law_93 : decode cX11_law 93 = .ok (.iadd, 1) := dq daX11_law_28_1 19 rfl
theorem dX11_law_94 : decode cX11_law 94 = .ok (.putfield 90, 3) := dq daX11_law_28_1 20 rfl
theorem dX11_law_97 : decode cX11_law 97 = .ok (.aload_n 0, 1) := dq daX11_law_28_1 21 rfl
theorem dX11_law_98 : decode cX11_law 98 = .ok (.invokevirtual 235, 3) := dq daX11_law_28_1 22 rfl
theorem dX11_law_101 : decode cX11_law 101 = .ok (.istore_n 1, 1) := dq daX11_law_28_1 23 rfl
theorem dX11_law_102 : decode cX11_law 102 = .ok (.goto (-28), 3) := dq daX11_law_28_1 24 rfl
theorem dX11_law_105 : decode cX11_law 105 = .ok (.iload_n 1, 1) := dq daX11_law_28_1 25 rfl
theorem dX11_law_106 : decode cX11_law 106 = .ok (.ifCond .eq 21, 3) := dq daX11_law_28_1 26 rfl
theorem dX11_law_127 : decode cX11_law 127 = .ok (.aload_n 0, 1) := dq daX11_law_28_1 27 rfl
theorem dX11_law_128 : decode cX11_law 128 = .ok (.iconst 0, 1) := dq daX11_law_28_1 28 rfl
theorem dX11_law_129 : decode cX11_law 129 = .ok (.putfield 79, 3) := dq daX11_law_28_1 29 rfl
theorem dX11_law_132 : decode cX11_law 132 = .ok (.aload_n 0, 1) := dq daX11_law_28_1 30 rfl
theorem dX11_law_133 : decode cX11_law 133 = .ok (.getfield 87, 3) := dq daX11_law_28_1 31 rfl
def dtX11_law_28_2 : List (Nat × Jvm.ClassFile.Instr × Nat) := [(136, .ifCond .le 11, 3), (147, .aload_n 0, 1), (148, .getfield 26, 3), (151, .aload_n 0, 1), (152, .getfield 144, 3), (155, .iaload, 1), (156, .ifCond .ge 13, 3), (169, .aload_n 0, 1), (170, .dup, 1), (171, .getfield 232, 3), (174, .iconst 1, 1), (175, .iadd, 1), (176, .putfield 232, 3), (179, .aload_n 0, 1), (180, .getfield 232, 3), (183, .iconst 1, 1), (184, .isub, 1), (159, .aload_n 0, 1), (160, .getfield 26, 3), (163, .aload_n 0, 1), (164, .getfield 144, 3), (167, .iconst 0, 1), (168, .iastore, 1), (139, .bipush (-2), 2), (141, .aload_n 0, 1), (142, .getfield 87, 3), (145, .isub, 1), (109, .aload_n 0, 1), (110, .invokevirtual 93, 3), (113, .iconst (-1), 1), (114, .if_icmp .eq 13, 3), (117, .aload_n 0, 1)]
theorem daX11_law_28_2 : dtX11_law_28_2.all (dqd cX11_law) = true := by decide +kernel
theorem dX11_law_136 : decode cX11_law 136 = .ok (.ifCond .le 11, 3) := dq daX11_law_28_2 0 rfl
theorem dX11_law_147 : decode cX11_law 147 = .ok (.aload_n 0, 1) := dq daX11_law_28_2 1 rfl
theorem dX11_law_148 : decode cX11_law 148 = .ok (.getfield 26, 3) := dq daX11_law_28_2 2 rfl
theorem dX11_law_151 : decode cX11_law 151 = .ok (.aload_n 0, 1) := dq daX11_law_28_2 3 rfl
theorem dX11_law_152 : decode cX11_law 152 = .ok (.getfield 144, 3) := dq daX11_law_28_2 4 rfl
theorem dX11_law_155 : decode cX11_law 155 = .ok (.iaload, 1) := dq daX11_law_28_2 5 rfl
theorem dX11_law_156 : decode cX11_law 156 = .ok (.ifCond .ge 13, 3) := dq daX11_law_28_2 6 rfl
theorem dX11_law_169 : decode cX11_law 169 = .ok (.aload_n 0, 1) := dq daX11_law_28_2 7 rfl
theorem dX11_law_170 : decode cX11_law 170 = .ok (.dup, 1) := dq daX11_law_28_2 8 rfl
theorem dX11_law_171 : decode cX11_law 171 = .ok (.getfield 232, 3) := dq daX11_law_28_2 9 rfl
theorem dX11_law_174 : decode cX11_law 174 = .ok (.iconst 1, 1) := dq daX11_law_28_2 10 rfl
theorem dX11_law_175 : decode cX11_law 175 = .ok (.iadd, 1) := dq daX11_law_28_2 11 rfl
theorem dX11_law_176 : decode cX11_law 176 = .ok (.putfield 232, 3) := dq daX11_law_28_2 12 rfl
theorem dX11_law_179 : decode cX11_law 179 = .ok (.aload_n 0, 1) := dq daX11_law_28_2 13 rfl
theorem dX11_law_180 : decode cX11_law 180 = .ok (.getfield 232, 3) := dq daX11_law_28_2 14 rfl
theorem dX11_law_183 : decode cX11_law 183 = .ok (.iconst 1, 1) := dq daX11_law_28_2 15 rfl
theorem dX11_law_184 : decode cX11_law 184 = .ok (.isub, 1) := dq daX11_law_28_2 16 rfl
theorem dX11_law_159 : decode cX11_law 159 = .ok (.aload_n 0, 1) := dq daX11_law_28_2 17 rfl
theorem dX11_law_160 : decode cX11_law 160 = .ok (.getfield 26, 3) := dq daX11_law_28_2 18 rfl
theorem dX11_law_163 : decode cX11_law 163 = .ok (.aload_n 0, 1) := dq daX11_law_28_2 19 rfl
theorem dX11_law_164 : decode cX11_law 164 = .ok (.getfield 144, 3) := dq daX11_law_28_2 20 rfl
theorem dX11_law_167 : decode cX11_law 167 = .ok (.iconst 0, 1) := dq daX11_law_28_2 21 rfl
theorem dX11_law_168 : decode cX11_law 168 = .ok (.iastore, 1) := dq daX11_law_28_2 22 rfl
theorem dX11_law_139 : decode cX11_law 139 = .ok (.bipush (-2), 2) := dq daX11_law_28_2 23 rfl
theorem dX11_law_141 : decode cX11_law 141 = .ok (.aload_n 0, 1) := dq daX11_law_28_2 24 rfl
theorem dX11_law_142 : decode cX11_law 142 = .ok (.getfield 87, 3) := dq daX11_law_28_2 25 rfl
theorem dX11_law_145 : decode cX11_law 145 = .ok (.isub, 1) := dq daX11_law_28_2 26 rfl
theorem dX11_law_109 : decode cX11_law 109 = .ok (.aload_n 0, 1) := dq daX11_law_28_2 27 rfl
theorem dX11_law_110 : decode cX11_law 110 = .ok (.invokevirtual 93, 3) := dq daX11_law_28_2 28 rfl
theorem dX11_law_113 : decode cX11_law 113 = .ok (.iconst (-1), 1) := dq daX11_law_28_2 29 rfl
theorem dX11_law_114 : decode cX11_law 114 = .ok (.if_icmp .eq 13, 3) := dq daX11_law_28_2 30 rfl
theorem dX11_law_117 : decode cX11_law 117 = .ok (.aload_n 0, 1) := dq daX11_law_28_2 31 rfl
def dtX11_law_28_3 : List (Nat × Jvm.ClassFile.Instr × Nat) := [(118, .iconst 0, 1), (119, .aload_n 0, 1), (120, .getfield 90, 3), (123, .invokevirtual 111, 3), (126, .pop, 1), (9, .iconst (-1), 1), (10, .ireturn, 1), (185, .ireturn, 1), (146, .ireturn, 1)]
theorem daX11_law_28_3 : dtX11_law_28_3.all (dqd cX11_law) = true := by decide +kernel
theorem dX11_law_118 : decode cX11_law 118 = .ok (.iconst 0, 1) := dq daX11_law_28_3 0 rfl
theorem dX11_law_119 : decode cX11_law 119 = .ok (.aload_n 0, 1) := dq daX11_law_28_3 1 rfl
theorem dX11_law_120 : decode cX11_law 120 = .ok (.getfield 90, 3) := dq daX11_law_28_3 2 rfl
theorem dX11_law_123 : decode cX11_law 123 = .ok (.invokevirtual 111, 3) := dq daX11_law_28_3 3 rfl
theorem dX11_law_126 : decode cX11_law 126 = .ok (.pop, 1) := dq daX11_law_28_3 4 rfl
theorem dX11_law_9 : decode cX11_law 9 = .ok (.iconst (-1), 1) := dq daX11_law_28_3 5 rfl
theorem dX11_law_10 : decode cX11_law 10 = .ok (.ireturn, 1) := dq daX11_law_28_3 6 rfl
theorem dX11_law_185 : decode cX11_law 185 = .ok (.ireturn, 1) := dq daX11_law_28_3 7 rfl
theorem dX11_law_146 : decode cX11_law 146 = .ok (.ireturn, 1) := dq daX11_law_28_3 8 rfl
