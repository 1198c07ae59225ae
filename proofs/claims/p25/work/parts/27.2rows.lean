theorem kX11_clauseOf_1 {a : Array Value} {s : State} (hts : ∀ w ∈ wsX11_clauseOf, w.before a s = true) : (.fieldLink RX11 144 "SnowMulesModel" "text" "I" : Cond).before a s = true := kw (A := ixX11_clauseOf) wt459 hts (by decide +kernel)
theorem kX11_clauseOf_2 {a : Array Value} {s : State} (hts : ∀ w ∈ wsX11_clauseOf, w.before a s = true) : (.fieldLink RX11 23 "SnowMulesModel" "clauses" "[I" : Cond).before a s = true := kw (A := ixX11_clauseOf) wt147 hts (by decide +kernel)
theorem kX11_clauseOf_3 {a : Array Value} {s : State} (hts : ∀ w ∈ wsX11_clauseOf, w.before a s = true) : (.fieldLink RX11 20 "SnowMulesModel" "clause" "[I" : Cond).before a s = true := kw (A := ixX11_clauseOf) wt146 hts (by decide +kernel)
theorem kX11_clauseOf_4 {a : Array Value} {s : State} (hts : ∀ w ∈ wsX11_clauseOf, w.before a s = true) : (.fieldLink RX11 17 "SnowMulesModel" "length" "[I" : Cond).before a s = true := kw (A := ixX11_clauseOf) wt145 hts (by decide +kernel)
theorem kX11_clauseOf_5 {a : Array Value} {s : State} (hts : ∀ w ∈ wsX11_clauseOf, w.before a s = true) : (.constantLong RX11 208 (26982) : Cond).before a s = true := kw (A := ixX11_clauseOf) wt494 hts (by decide +kernel)
theorem iX11_clauseOf_X11 : ∀ w ∈ wsX110, w ∈ wsX11_clauseOf := inW (A := ixX11_clauseOf) uwX11 (by decide +kernel)
theorem hdX11_takesWord : yX11_takesWord.cls ≠ "java/lang/invoke/MethodHandle" ∧ yX11_takesWord.cls ≠ "java/lang/invoke/VarHandle" ∧ (parseMethodDescriptor yX11_takesWord.desc).map (fun d => d.parameters.length) = some 1 := ⟨hdc_0.1, hdc_0.2, hdd_23⟩
theorem hdX11_tested : yX11_tested.cls ≠ "java/lang/invoke/MethodHandle" ∧ yX11_tested.cls ≠ "java/lang/invoke/VarHandle" ∧ (parseMethodDescriptor yX11_tested.desc).map (fun d => d.parameters.length) = some 0 := ⟨hdc_0.1, hdc_0.2, hdd_22⟩
def dtX11_clauseOf_27_0 : List (Nat × Jvm.ClassFile.Instr × Nat) := [(0, .aload_n 0, 1), (1, .invokevirtual 105, 3), (4, .bipush 60, 2), (6, .aload_n 0, 1), (7, .getfield 144, 3), (10, .imul, 1), (11, .iconst 5, 1), (12, .aload_n 0, 1), (13, .getfield 23, 3), (16, .aload_n 0, 1), (17, .getfield 144, 3), (20, .iaload, 1), (21, .imul, 1), (22, .iadd, 1), (23, .istore_n 2, 1), (24, .aload_n 0, 1), (25, .getfield 20, 3), (28, .iload_n 2, 1), (29, .iload_n 1, 1), (30, .iastore, 1), (31, .aload_n 0, 1), (32, .getfield 20, 3), (35, .iload_n 2, 1), (36, .iconst 1, 1), (37, .iadd, 1), (38, .aload_n 0, 1), (39, .getfield 17, 3), (42, .aload_n 0, 1), (43, .getfield 144, 3), (46, .iaload, 1), (47, .iastore, 1), (48, .aload_n 0, 1)]
theorem daX11_clauseOf_27_0 : dtX11_clauseOf_27_0.all (dqd cX11_clauseOf) = true := by decide +kernel
theorem dX11_clauseOf_0 : decode cX11_clauseOf 0 = .ok (.aload_n 0, 1) := dq daX11_clauseOf_27_0 0 rfl
theorem dX11_clauseOf_1 : decode cX11_clauseOf 1 = .ok (.invokevirtual 105, 3) := dq daX11_clauseOf_27_0 1 rfl
theorem dX11_clauseOf_4 : decode cX11_clauseOf 4 = .ok (.bipush 60, 2) := dq daX11_clauseOf_27_0 2 rfl
theorem dX11_clauseOf_6 : decode cX11_clauseOf 6 = .ok (.aload_n 0, 1) := dq daX11_clauseOf_27_0 3 rfl
theorem dX11_clauseOf_7 : decode cX11_clauseOf 7 = .ok (.getfield 144, 3) := dq daX11_clauseOf_27_0 4 rfl
theorem dX11_clauseOf_10 : decode cX11_clauseOf 10 = .ok (.imul, 1) := dq daX11_clauseOf_27_0 5 rfl
theorem dX11_clauseOf_11 : decode cX11_clauseOf 11 = .ok (.iconst 5, 1) := dq daX11_clauseOf_27_0 6 rfl
theorem dX11_clauseOf_12 : decode cX11_clauseOf 12 = .ok (.aload_n 0, 1) := dq daX11_clauseOf_27_0 7 rfl
theorem dX11_clauseOf_13 : decode cX11_clauseOf 13 = .ok (.getfield 23, 3) := dq daX11_clauseOf_27_0 8 rfl
theorem dX11_clauseOf_16 : decode cX11_clauseOf 16 = .ok (.aload_n 0, 1) := dq daX11_clauseOf_27_0 9 rfl
theorem dX11_clauseOf_17 : decode cX11_clauseOf 17 = .ok (.getfield 144, 3) := dq daX11_clauseOf_27_0 10 rfl
theorem dX11_clauseOf_20 : decode cX11_clauseOf 20 = .ok (.iaload, 1) := dq daX11_clauseOf_27_0 11 rfl
theorem dX11_clauseOf_21 : decode cX11_clauseOf 21 = .ok (.imul, 1) := dq daX11_clauseOf_27_0 12 rfl
theorem dX11_clauseOf_22 : decode cX11_clauseOf 22 = .ok (.iadd, 1) := dq daX11_clauseOf_27_0 13 rfl
theorem dX11_clauseOf_23 : decode cX11_clauseOf 23 = .ok (.istore_n 2, 1) := dq daX11_clauseOf_27_0 14 rfl
theorem dX11_clauseOf_24 : decode cX11_clauseOf 24 = .ok (.aload_n 0, 1) := dq daX11_clauseOf_27_0 15 rfl
theorem dX11_clauseOf_25 : decode cX11_clauseOf 25 = .ok (.getfield 20, 3) := dq daX11_clauseOf_27_0 16 rfl
theorem dX11_clauseOf_28 : decode cX11_clauseOf 28 = .ok (.iload_n 2, 1) := dq daX11_clauseOf_27_0 17 rfl
theorem dX11_clauseOf_29 : decode cX11_clauseOf 29 = .ok (.iload_n 1, 1) := dq daX11_clauseOf_27_0 18 rfl
theorem dX11_clauseOf_30 : decode cX11_clauseOf 30 = .ok (.iastore, 1) := dq daX11_clauseOf_27_0 19 rfl
theorem dX11_clauseOf_31 : decode cX11_clauseOf 31 = .ok (.aload_n 0, 1) := dq daX11_clauseOf_27_0 20 rfl
theorem dX11_clauseOf_32 : decode cX11_clauseOf 32 = .ok (.getfield 20, 3) := dq daX11_clauseOf_27_0 21 rfl
theorem dX11_clauseOf_35 : decode cX11_clauseOf 35 = .ok (.iload_n 2, 1) := dq daX11_clauseOf_27_0 22 rfl
theorem dX11_clauseOf_36 : decode cX11_clauseOf 36 = .ok (.iconst 1, 1) := dq daX11_clauseOf_27_0 23 rfl
theorem dX11_clauseOf_37 : decode cX11_clauseOf 37 = .ok (.iadd, 1) := dq daX11_clauseOf_27_0 24 rfl
theorem dX11_clauseOf_38 : decode cX11_clauseOf 38 = .ok (.aload_n 0, 1) := dq daX11_clauseOf_27_0 25 rfl
theorem dX11_clauseOf_39 : decode cX11_clauseOf 39 = .ok (.getfield 17, 3) := dq daX11_clauseOf_27_0 26 rfl
theorem dX11_clauseOf_42 : decode cX11_clauseOf 42 = .ok (.aload_n 0, 1) := dq daX11_clauseOf_27_0 27 rfl
theorem dX11_clauseOf_43 : decode cX11_clauseOf 43 = .ok (.getfield 144, 3) := dq daX11_clauseOf_27_0 28 rfl
theorem dX11_clauseOf_46 : decode cX11_clauseOf 46 = .ok (.iaload, 1) := dq daX11_clauseOf_27_0 29 rfl
theorem dX11_clauseOf_47 : decode cX11_clauseOf 47 = .ok (.iastore, 1) := dq daX11_clauseOf_27_0 30 rfl
theorem dX11_clauseOf_48 : decode cX11_clauseOf 48 = .ok (.aload_n 0, 1) := dq daX11_clauseOf_27_0 31 rfl
def dtX11_clauseOf_27_1 : List (Nat × Jvm.ClassFile.Instr × Nat) := [(49, .invokevirtual 181, 3), (52, .ifCond .ne 5, 3), (57, .aload_n 0, 1), (58, .getfield 20, 3), (61, .iload_n 2, 1), (62, .iconst 2, 1), (63, .iadd, 1), (64, .aload_n 0, 1), (65, .getfield 17, 3), (68, .aload_n 0, 1), (69, .getfield 144, 3), (72, .iaload, 1), (73, .iastore, 1), (74, .aload_n 0, 1), (75, .getfield 20, 3), (78, .iload_n 2, 1), (79, .iconst 3, 1), (80, .iadd, 1), (81, .iconst (-1), 1), (82, .iastore, 1), (83, .aload_n 0, 1), (84, .ldc2_w 208, 3), (87, .invokevirtual 210, 3), (90, .ifCond .eq 29, 3), (119, .aload_n 0, 1), (120, .getfield 20, 3), (123, .iload_n 2, 1), (124, .iconst 4, 1), (125, .iadd, 1), (126, .aload_n 0, 1), (127, .getfield 17, 3), (130, .aload_n 0, 1)]
theorem daX11_clauseOf_27_1 : dtX11_clauseOf_27_1.all (dqd cX11_clauseOf) = true := by decide +kernel
theorem dX11_clauseOf_49 : decode cX11_clauseOf 49 = .ok (.invokevirtual 181, 3) := dq daX11_clauseOf_27_1 0 rfl
theorem dX11_clauseOf_52 : decode cX11_clauseOf 52 = .ok (.ifCond .ne 5, 3) := dq daX11_clauseOf_27_1 1 rfl
theorem dX11_clauseOf_57 : decode cX11_clauseOf 57 = .ok (.aload_n 0, 1) := dq daX11_clauseOf_27_1 2 rfl
theorem dX11_clauseOf_58 : decode cX11_clauseOf 58 = .ok (.getfield 20, 3) := dq daX11_clauseOf_27_1 3 rfl
theorem dX11_clauseOf_61 : decode cX11_clauseOf 61 = .ok (.iload_n 2, 1) := dq daX11_clauseOf_27_1 4 rfl
theorem dX11_clauseOf_62 : decode cX11_clauseOf 62 = .ok (.iconst 2, 1) := dq daX11_clauseOf_27_1 5 rfl
theorem dX11_clauseOf_63 : decode cX11_clauseOf 63 = .ok (.iadd, 1) := dq daX11_clauseOf_27_1 6 rfl
theorem dX11_clauseOf_64 : decode cX11_clauseOf 64 = .ok (.aload_n 0, 1) := dq daX11_clauseOf_27_1 7 rfl
theorem dX11_clauseOf_65 : decode cX11_clauseOf 65 = .ok (.getfield 17, 3) := dq daX11_clauseOf_27_1 8 rfl
theorem dX11_clauseOf_68 : decode cX11_clauseOf 68 = .ok (.aload_n 0, 1) := dq daX11_clauseOf_27_1 9 rfl
theorem dX11_clauseOf_69 : decode cX11_clauseOf 69 = .ok (.getfield 144, 3) := dq daX11_clauseOf_27_1 10 rfl
theorem dX11_clauseOf_72 : decode cX11_clauseOf 72 = .ok (.iaload, 1) := dq daX11_clauseOf_27_1 11 rfl
theorem dX11_clauseOf_73 : decode cX11_clauseOf 73 = .ok (.iastore, 1) := dq daX11_clauseOf_27_1 12 rfl
theorem dX11_clauseOf_74 : decode cX11_clauseOf 74 = .ok (.aload_n 0, 1) := dq daX11_clauseOf_27_1 13 rfl
theorem dX11_clauseOf_75 : decode cX11_clauseOf 75 = .ok (.getfield 20, 3) := dq daX11_clauseOf_27_1 14 rfl
theorem dX11_clauseOf_78 : decode cX11_clauseOf 78 = .ok (.iload_n 2, 1) := dq daX11_clauseOf_27_1 15 rfl
theorem dX11_clauseOf_79 : decode cX11_clauseOf 79 = .ok (.iconst 3, 1) := dq daX11_clauseOf_27_1 16 rfl
theorem dX11_clauseOf_80 : decode cX11_clauseOf 80 = .ok (.iadd, 1) := dq daX11_clauseOf_27_1 17 rfl
theorem dX11_clauseOf_81 : decode cX11_clauseOf 81 = .ok (.iconst (-1), 1) := dq daX11_clauseOf_27_1 18 rfl
theorem dX11_clauseOf_82 : decode cX11_clauseOf 82 = .ok (.iastore, 1) := dq daX11_clauseOf_27_1 19 rfl
theorem dX11_clauseOf_83 : decode cX11_clauseOf 83 = .ok (.aload_n 0, 1) := dq daX11_clauseOf_27_1 20 rfl
theorem dX11_clauseOf_84 : decode cX11_clauseOf 84 = .ok (.ldc2_w 208, 3) := dq daX11_clauseOf_27_1 21 rfl
theorem dX11_clauseOf_87 : decode cX11_clauseOf 87 = .ok (.invokevirtual 210, 3) := dq daX11_clauseOf_27_1 22 rfl
theorem dX11_clauseOf_90 : decode cX11_clauseOf 90 = .ok (.ifCond .eq 29, 3) := dq daX11_clauseOf_27_1 23 rfl
theorem dX11_clauseOf_119 : decode cX11_clauseOf 119 = .ok (.aload_n 0, 1) := dq daX11_clauseOf_27_1 24 rfl
theorem dX11_clauseOf_120 : decode cX11_clauseOf 120 = .ok (.getfield 20, 3) := dq daX11_clauseOf_27_1 25 rfl
theorem dX11_clauseOf_123 : decode cX11_clauseOf 123 = .ok (.iload_n 2, 1) := dq daX11_clauseOf_27_1 26 rfl
theorem dX11_clauseOf_124 : decode cX11_clauseOf 124 = .ok (.iconst 4, 1) := dq daX11_clauseOf_27_1 27 rfl
theorem dX11_clauseOf_125 : decode cX11_clauseOf 125 = .ok (.iadd, 1) := dq daX11_clauseOf_27_1 28 rfl
theorem dX11_clauseOf_126 : decode cX11_clauseOf 126 = .ok (.aload_n 0, 1) := dq daX11_clauseOf_27_1 29 rfl
theorem dX11_clauseOf_127 : decode cX11_clauseOf 127 = .ok (.getfield 17, 3) := dq daX11_clauseOf_27_1 30 rfl
theorem dX11_clauseOf_130 : decode cX11_clauseOf 130 = .ok (.aload_n 0, 1) := dq daX11_clauseOf_27_1 31 rfl
def dtX11_clauseOf_27_2 : List (Nat × Jvm.ClassFile.Instr × Nat) := [(131, .getfield 144, 3), (134, .iaload, 1), (135, .iastore, 1), (136, .aload_n 0, 1), (137, .getfield 23, 3), (140, .aload_n 0, 1), (141, .getfield 144, 3), (144, .dup2, 1), (145, .iaload, 1), (146, .iconst 1, 1), (147, .iadd, 1), (148, .iastore, 1), (149, .iconst 1, 1), (93, .aload_n 0, 1), (94, .getfield 20, 3), (97, .iload_n 2, 1), (98, .iconst 3, 1), (99, .iadd, 1), (100, .aload_n 0, 1), (101, .getfield 17, 3), (104, .aload_n 0, 1), (105, .getfield 144, 3), (108, .iaload, 1), (109, .iastore, 1), (110, .aload_n 0, 1), (111, .invokevirtual 213, 3), (114, .ifCond .ne 5, 3), (117, .iconst 0, 1), (55, .iconst 0, 1), (150, .ireturn, 1), (118, .ireturn, 1), (56, .ireturn, 1)]
theorem daX11_clauseOf_27_2 : dtX11_clauseOf_27_2.all (dqd cX11_clauseOf) = true := by decide +kernel
theorem dX11_clauseOf_131 : decode cX11_clauseOf 131 = .ok (.getfield 144, 3) := dq daX11_clauseOf_27_2 0 rfl
theorem dX11_clauseOf_134 : decode cX11_clauseOf 134 = .ok (.iaload, 1) := dq daX11_clauseOf_27_2 1 rfl
theorem dX11_clauseOf_135 : decode cX11_clauseOf 135 = .ok (.iastore, 1) := dq daX11_clauseOf_27_2 2 rfl
theorem dX11_clauseOf_136 : decode cX11_clauseOf 136 = .ok (.aload_n 0, 1) := dq daX11_clauseOf_27_2 3 rfl
theorem dX11_clauseOf_137 : decode cX11_clauseOf 137 = .ok (.getfield 23, 3) := dq daX11_clauseOf_27_2 4 rfl
theorem dX11_clauseOf_140 : decode cX11_clauseOf 140 = .ok (.aload_n 0, 1) := dq daX11_clauseOf_27_2 5 rfl
theorem dX11_clauseOf_141 : decode cX11_clauseOf 141 = .ok (.getfield 144, 3) := dq daX11_clauseOf_27_2 6 rfl
theorem dX11_clauseOf_144 : decode cX11_clauseOf 144 = .ok (.dup2, 1) := dq daX11_clauseOf_27_2 7 rfl
theorem dX11_clauseOf_145 : decode cX11_clauseOf 145 = .ok (.iaload, 1) := dq daX11_clauseOf_27_2 8 rfl
theorem dX11_clauseOf_146 : decode cX11_clauseOf 146 = .ok (.iconst 1, 1) := dq daX11_clauseOf_27_2 9 rfl
theorem dX11_clauseOf_147 : decode cX11_clauseOf 147 = .ok (.iadd, 1) := dq daX11_clauseOf_27_2 10 rfl
theorem dX11_clauseOf_148 : decode cX11_clauseOf 148 = .ok (.iastore, 1) := dq daX11_clauseOf_27_2 11 rfl
theorem dX11_clauseOf_149 : decode cX11_clauseOf 149 = .ok (.iconst 1, 1) := dq daX11_clauseOf_27_2 12 rfl
theorem dX11_clauseOf_93 : decode cX11_clauseOf 93 = .ok (.aload_n 0, 1) := dq daX11_clauseOf_27_2 13 rfl
theorem dX11_clauseOf_94 : decode cX11_clauseOf 94 = .ok (.getfield 20, 3) := dq daX11_clauseOf_27_2 14 rfl
theorem dX11_clauseOf_97 : decode cX11_clauseOf 97 = .ok (.iload_n 2, 1) := dq daX11_clauseOf_27_2 15 rfl
theorem dX11_clauseOf_98 : decode cX11_clauseOf 98 = .ok (.iconst 3, 1) := dq daX11_clauseOf_27_2 16 rfl
theorem dX11_clauseOf_99 : decode cX11_clauseOf 99 = .ok (.iadd, 1) := dq daX11_clauseOf_27_2 17 rfl
theorem dX11_clauseOf_100 : decode cX11_clauseOf 100 = .ok (.aload_n 0, 1) := dq daX11_clauseOf_27_2 18 rfl
theorem dX11_clauseOf_101 : decode cX11_clauseOf 101 = .ok (.getfield 17, 3) := dq daX11_clauseOf_27_2 19 rfl
theorem dX11_clauseOf_104 : decode cX11_clauseOf 104 = .ok (.aload_n 0, 1) := dq daX11_clauseOf_27_2 20 rfl
theorem dX11_clauseOf_105 : decode cX11_clauseOf 105 = .ok (.getfield 144, 3) := dq daX11_clauseOf_27_2 21 rfl
theorem dX11_clauseOf_108 : decode cX11_clauseOf 108 = .ok (.iaload, 1) := dq daX11_clauseOf_27_2 22 rfl
theorem dX11_clauseOf_109 : decode cX11_clauseOf 109 = .ok (.iastore, 1) := dq daX11_clauseOf_27_2 23 rfl
theorem dX11_clauseOf_110 : decode cX11_clauseOf 110 = .ok (.aload_n 0, 1) := dq daX11_clauseOf_27_2 24 rfl
theorem dX11_clauseOf_111 : decode cX11_clauseOf 111 = .ok (.invokevirtual 213, 3) := dq daX11_clauseOf_27_2 25 rfl
theorem dX11_clauseOf_114 : decode cX11_clauseOf 114 = .ok (.ifCond .ne 5, 3) := dq daX11_clauseOf_27_2 26 rfl
theorem dX11_clauseOf_117 : decode cX11_clauseOf 117 = .ok (.iconst 0, 1) := dq daX11_clauseOf_27_2 27 rfl
theorem dX11_clauseOf_55 : decode cX11_clauseOf 55 = .ok (.iconst 0, 1) := dq daX11_clauseOf_27_2 28 rfl
theorem dX11_clauseOf_150 : decode cX11_clauseOf 150 = .ok (.ireturn, 1) := dq daX11_clauseOf_27_2 29 rfl
theorem dX11_clauseOf_118 : decode cX11_clauseOf 118 = .ok (.ireturn, 1) := dq daX11_clauseOf_27_2 30 rfl
theorem dX11_clauseOf_56 : decode cX11_clauseOf 56 = .ok (.ireturn, 1) := dq daX11_clauseOf_27_2 31 rfl
