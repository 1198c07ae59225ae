theorem kX11_push_1 {a : Array Value} {s : State} (hts : ∀ w ∈ wsX11_push, w.before a s = true) : (.fieldLink RX11 32 "SnowMulesModel" "stack" "[J" : Cond).before a s = true := kw (A := ixX11_push) wt151 hts (by decide +kernel)
theorem kX11_push_2 {a : Array Value} {s : State} (hts : ∀ w ∈ wsX11_push, w.before a s = true) : (.fieldLink RX11 238 "SnowMulesModel" "top" "I" : Cond).before a s = true := kw (A := ixX11_push) wt843 hts (by decide +kernel)
theorem kX11_pop_1 {a : Array Value} {s : State} (hts : ∀ w ∈ wsX11_pop, w.before a s = true) : (.fieldLink RX11 238 "SnowMulesModel" "top" "I" : Cond).before a s = true := kw (A := ixX11_pop) wt843 hts (by decide +kernel)
theorem kX11_pop_2 {a : Array Value} {s : State} (hts : ∀ w ∈ wsX11_pop, w.before a s = true) : (.fieldLink RX11 32 "SnowMulesModel" "stack" "[J" : Cond).before a s = true := kw (A := ixX11_pop) wt151 hts (by decide +kernel)
theorem kX11_reckons_1 {a : Array Value} {s : State} (hts : ∀ w ∈ wsX11_reckons, w.before a s = true) : (.fieldLink RX11 238 "SnowMulesModel" "top" "I" : Cond).before a s = true := kw (A := ixX11_reckons) wt843 hts (by decide +kernel)
theorem kX11_reckons_2 {a : Array Value} {s : State} (hts : ∀ w ∈ wsX11_reckons, w.before a s = true) : (.fieldLink RX11 13 "SnowMulesModel" "sign" "[I" : Cond).before a s = true := kw (A := ixX11_reckons) wt144 hts (by decide +kernel)
theorem kX11_reckons_3 {a : Array Value} {s : State} (hts : ∀ w ∈ wsX11_reckons, w.before a s = true) : (.fieldLink RX11 36 "SnowMulesModel" "word" "[J" : Cond).before a s = true := kw (A := ixX11_reckons) wt152 hts (by decide +kernel)
theorem iX11_push_X11 : ∀ w ∈ wsX110, w ∈ wsX11_push := inW (A := ixX11_push) uwX11 (by decide +kernel)
theorem iX11_pop_X11 : ∀ w ∈ wsX110, w ∈ wsX11_pop := inW (A := ixX11_pop) uwX11 (by decide +kernel)
theorem iX11_reckons_X11 : ∀ w ∈ wsX110, w ∈ wsX11_reckons := inW (A := ixX11_reckons) uwX11 (by decide +kernel)
theorem hdX11_pop : yX11_pop.cls ≠ "java/lang/invoke/MethodHandle" ∧ yX11_pop.cls ≠ "java/lang/invoke/VarHandle" ∧ (parseMethodDescriptor yX11_pop.desc).map (fun d => d.parameters.length) = some 0 := ⟨hdc_0.1, hdc_0.2, hdd_8⟩
theorem hdX11_one : yX11_one.cls ≠ "java/lang/invoke/MethodHandle" ∧ yX11_one.cls ≠ "java/lang/invoke/VarHandle" ∧ (parseMethodDescriptor yX11_one.desc).map (fun d => d.parameters.length) = some 3 := ⟨hdc_0.1, hdc_0.2, hdd_9⟩
theorem hdX11_push : yX11_push.cls ≠ "java/lang/invoke/MethodHandle" ∧ yX11_push.cls ≠ "java/lang/invoke/VarHandle" ∧ (parseMethodDescriptor yX11_push.desc).map (fun d => d.parameters.length) = some 1 := ⟨hdc_0.1, hdc_0.2, hdd_10⟩
def dtX11_push_14_0 : List (Nat × Jvm.ClassFile.Instr × Nat) := [(0, .aload_n 0, 1), (1, .getfield 32, 3), (4, .aload_n 0, 1), (5, .getfield 238, 3), (8, .lload_n 1, 1), (9, .lastore, 1), (10, .aload_n 0, 1), (11, .dup, 1), (12, .getfield 238, 3), (15, .iconst 1, 1), (16, .iadd, 1), (17, .putfield 238, 3), (20, .return_, 1)]
theorem daX11_push_14_0 : dtX11_push_14_0.all (dqd cX11_push) = true := by decide +kernel
theorem dX11_push_0 : decode cX11_push 0 = .ok (.aload_n 0, 1) := dq daX11_push_14_0 0 rfl
theorem dX11_push_1 : decode cX11_push 1 = .ok (.getfield 32, 3) := dq daX11_push_14_0 1 rfl
theorem dX11_push_4 : decode cX11_push 4 = .ok (.aload_n 0, 1) := dq daX11_push_14_0 2 rfl
theorem dX11_push_5 : decode cX11_push 5 = .ok (.getfield 238, 3) := dq daX11_push_14_0 3 rfl
theorem dX11_push_8 : decode cX11_push 8 = .ok (.lload_n 1, 1) := dq daX11_push_14_0 4 rfl
theorem dX11_push_9 : decode cX11_push 9 = .ok (.lastore, 1) := dq daX11_push_14_0 5 rfl
theorem dX11_push_10 : decode cX11_push 10 = .ok (.aload_n 0, 1) := dq daX11_push_14_0 6 rfl
theorem dX11_push_11 : decode cX11_push 11 = .ok (.dup, 1) := dq daX11_push_14_0 7 rfl
theorem dX11_push_12 : decode cX11_push 12 = .ok (.getfield 238, 3) := dq daX11_push_14_0 8 rfl
theorem dX11_push_15 : decode cX11_push 15 = .ok (.iconst 1, 1) := dq daX11_push_14_0 9 rfl
theorem dX11_push_16 : decode cX11_push 16 = .ok (.iadd, 1) := dq daX11_push_14_0 10 rfl
theorem dX11_push_17 : decode cX11_push 17 = .ok (.putfield 238, 3) := dq daX11_push_14_0 11 rfl
theorem dX11_push_20 : decode cX11_push 20 = .ok (.return_, 1) := dq daX11_push_14_0 12 rfl
def dtX11_pop_14_0 : List (Nat × Jvm.ClassFile.Instr × Nat) := [(0, .aload_n 0, 1), (1, .dup, 1), (2, .getfield 238, 3), (5, .iconst 1, 1), (6, .isub, 1), (7, .putfield 238, 3), (10, .aload_n 0, 1), (11, .getfield 32, 3), (14, .aload_n 0, 1), (15, .getfield 238, 3), (18, .laload, 1), (19, .lreturn, 1)]
theorem daX11_pop_14_0 : dtX11_pop_14_0.all (dqd cX11_pop) = true := by decide +kernel
theorem dX11_pop_0 : decode cX11_pop 0 = .ok (.aload_n 0, 1) := dq daX11_pop_14_0 0 rfl
theorem dX11_pop_1 : decode cX11_pop 1 = .ok (.dup, 1) := dq daX11_pop_14_0 1 rfl
theorem dX11_pop_2 : decode cX11_pop 2 = .ok (.getfield 238, 3) := dq daX11_pop_14_0 2 rfl
theorem dX11_pop_5 : decode cX11_pop 5 = .ok (.iconst 1, 1) := dq daX11_pop_14_0 3 rfl
theorem dX11_pop_6 : decode cX11_pop 6 = .ok (.isub, 1) := dq daX11_pop_14_0 4 rfl
theorem dX11_pop_7 : decode cX11_pop 7 = .ok (.putfield 238, 3) := dq daX11_pop_14_0 5 rfl
theorem dX11_pop_10 : decode cX11_pop 10 = .ok (.aload_n 0, 1) := dq daX11_pop_14_0 6 rfl
theorem dX11_pop_11 : decode cX11_pop 11 = .ok (.getfield 32, 3) := dq daX11_pop_14_0 7 rfl
theorem dX11_pop_14 : decode cX11_pop 14 = .ok (.aload_n 0, 1) := dq daX11_pop_14_0 8 rfl
theorem dX11_pop_15 : decode cX11_pop 15 = .ok (.getfield 238, 3) := dq daX11_pop_14_0 9 rfl
theorem dX11_pop_18 : decode cX11_pop 18 = .ok (.laload, 1) := dq daX11_pop_14_0 10 rfl
theorem dX11_pop_19 : decode cX11_pop 19 = .ok (.lreturn, 1) := dq daX11_pop_14_0 11 rfl
def dtX11_one_14_0 : List (Nat × Jvm.ClassFile.Instr × Nat) := [(0, .iload_n 0, 1), (1, .tableswitch 149 2 12 #[59, 63, 67, 71, 85, 97, 109, 121, 133, 149, 145], 59), (150, .lload_n 1, 1), (151, .lload_n 3, 1), (152, .lor, 1), (153, .lreturn, 1), (60, .lload_n 1, 1), (61, .lload_n 3, 1), (62, .ladd, 1), (63, .lreturn, 1), (64, .lload_n 1, 1), (65, .lload_n 3, 1), (66, .lsub, 1), (67, .lreturn, 1), (68, .lload_n 1, 1), (69, .lload_n 3, 1), (70, .lmul, 1), (71, .lreturn, 1), (72, .lload_n 3, 1), (73, .lconst 0, 1), (74, .lcmp, 1), (75, .ifCond .ne 7, 3), (82, .lload_n 1, 1), (83, .lload_n 3, 1), (84, .ldiv, 1), (85, .lreturn, 1), (78, .lconst 0, 1), (79, .goto 6, 3), (86, .lload_n 1, 1), (87, .lload_n 3, 1), (88, .lcmp, 1), (89, .ifCond .ge 7, 3)]
theorem daX11_one_14_0 : dtX11_one_14_0.all (dqd cX11_one) = true := by decide +kernel
theorem dX11_one_0 : decode cX11_one 0 = .ok (.iload_n 0, 1) := dq daX11_one_14_0 0 rfl
theorem dX11_one_1 : decode cX11_one 1 = .ok (.tableswitch 149 2 12 #[59, 63, 67, 71, 85, 97, 109, 121, 133, 149, 145], 59) := dq daX11_one_14_0 1 rfl
theorem dX11_one_150 : decode cX11_one 150 = .ok (.lload_n 1, 1) := dq daX11_one_14_0 2 rfl
theorem dX11_one_151 : decode cX11_one 151 = .ok (.lload_n 3, 1) := dq daX11_one_14_0 3 rfl
theorem dX11_one_152 : decode cX11_one 152 = .ok (.lor, 1) := dq daX11_one_14_0 4 rfl
theorem dX11_one_153 : decode cX11_one 153 = .ok (.lreturn, 1) := dq daX11_one_14_0 5 rfl
theorem dX11_one_60 : decode cX11_one 60 = .ok (.lload_n 1, 1) := dq daX11_one_14_0 6 rfl
theorem dX11_one_61 : decode cX11_one 61 = .ok (.lload_n 3, 1) := dq daX11_one_14_0 7 rfl
theorem dX11_one_62 : decode cX11_one 62 = .ok (.ladd, 1) := dq daX11_one_14_0 8 rfl
theorem dX11_one_63 : decode cX11_one 63 = .ok (.lreturn, 1) := dq daX11_one_14_0 9 rfl
theorem dX11_one_64 : decode cX11_one 64 = .ok (.lload_n 1, 1) := dq daX11_one_14_0 10 rfl
theorem dX11_one_65 : decode cX11_one 65 = .ok (.lload_n 3, 1) := dq daX11_one_14_0 11 rfl
theorem dX11_one_66 : decode cX11_one 66 = .ok (.lsub, 1) := dq daX11_one_14_0 12 rfl
theorem dX11_one_67 : decode cX11_one 67 = .ok (.lreturn, 1) := dq daX11_one_14_0 13 rfl
theorem dX11_one_68 : decode cX11_one 68 = .ok (.lload_n 1, 1) := dq daX11_one_14_0 14 rfl
theorem dX11_one_69 : decode cX11_one 69 = .ok (.lload_n 3, 1) := dq daX11_one_14_0 15 rfl
theorem dX11_one_70 : decode cX11_one 70 = .ok (.lmul, 1) := dq daX11_one_14_0 16 rfl
theorem dX11_one_71 : decode cX11_one 71 = .ok (.lreturn, 1) := dq daX11_one_14_0 17 rfl
theorem dX11_one_72 : decode cX11_one 72 = .ok (.lload_n 3, 1) := dq daX11_one_14_0 18 rfl
theorem dX11_one_73 : decode cX11_one 73 = .ok (.lconst 0, 1) := dq daX11_one_14_0 19 rfl
theorem dX11_one_74 : decode cX11_one 74 = .ok (.lcmp, 1) := dq daX11_one_14_0 20 rfl
theorem dX11_one_75 : decode cX11_one 75 = .ok (.ifCond .ne 7, 3) := dq daX11_one_14_0 21 rfl
theorem dX11_one_82 : decode cX11_one 82 = .ok (.lload_n 1, 1) := dq daX11_one_14_0 22 rfl
theorem dX11_one_83 : decode cX11_one 83 = .ok (.lload_n 3, 1) := dq daX11_one_14_0 23 rfl
theorem dX11_one_84 : decode cX11_one 84 = .ok (.ldiv, 1) := dq daX11_one_14_0 24 rfl
theorem dX11_one_85 : decode cX11_one 85 = .ok (.lreturn, 1) := dq daX11_one_14_0 25 rfl
theorem dX11_one_78 : decode cX11_one 78 = .ok (.lconst 0, 1) := dq daX11_one_14_0 26 rfl
theorem dX11_one_79 : decode cX11_one 79 = .ok (.goto 6, 3) := dq daX11_one_14_0 27 rfl
theorem dX11_one_86 : decode cX11_one 86 = .ok (.lload_n 1, 1) := dq daX11_one_14_0 28 rfl
theorem dX11_one_87 : decode cX11_one 87 = .ok (.lload_n 3, 1) := dq daX11_one_14_0 29 rfl
theorem dX11_one_88 : decode cX11_one 88 = .ok (.lcmp, 1) := dq daX11_one_14_0 30 rfl
theorem dX11_one_89 : decode cX11_one 89 = .ok (.ifCond .ge 7, 3) := dq daX11_one_14_0 31 rfl
def dtX11_one_14_1 : List (Nat × Jvm.ClassFile.Instr × Nat) := [(96, .lconst 0, 1), (97, .lreturn, 1), (92, .lconst 1, 1), (93, .goto 4, 3), (98, .lload_n 1, 1), (99, .lload_n 3, 1), (100, .lcmp, 1), (101, .ifCond .gt 7, 3), (108, .lconst 0, 1), (109, .lreturn, 1), (104, .lconst 1, 1), (105, .goto 4, 3), (110, .lload_n 1, 1), (111, .lload_n 3, 1), (112, .lcmp, 1), (113, .ifCond .ne 7, 3), (120, .lconst 0, 1), (121, .lreturn, 1), (116, .lconst 1, 1), (117, .goto 4, 3), (122, .lload_n 1, 1), (123, .lload_n 3, 1), (124, .lcmp, 1), (125, .ifCond .lt 7, 3), (132, .lconst 0, 1), (133, .lreturn, 1), (128, .lconst 1, 1), (129, .goto 4, 3), (134, .lload_n 1, 1), (135, .lload_n 3, 1), (136, .lcmp, 1), (137, .ifCond .le 7, 3)]
theorem daX11_one_14_1 : dtX11_one_14_1.all (dqd cX11_one) = true := by decide +kernel
theorem dX11_one_96 : decode cX11_one 96 = .ok (.lconst 0, 1) := dq daX11_one_14_1 0 rfl
theorem dX11_one_97 : decode cX11_one 97 = .ok (.lreturn, 1) := dq daX11_one_14_1 1 rfl
theorem dX11_one_92 : decode cX11_one 92 = .ok (.lconst 1, 1) := dq daX11_one_14_1 2 rfl
theorem dX11_one_93 : decode cX11_one 93 = .ok (.goto 4, 3) := dq daX11_one_14_1 3 rfl
theorem dX11_one_98 : decode cX11_one 98 = .ok (.lload_n 1, 1) := dq daX11_one_14_1 4 rfl
theorem dX11_one_99 : decode cX11_one 99 = .ok (.lload_n 3, 1) := dq daX11_one_14_1 5 rfl
theorem dX11_one_100 : decode cX11_one 100 = .ok (.lcmp, 1) := dq daX11_one_14_1 6 rfl
theorem dX11_one_101 : decode cX11_one 101 = .ok (.ifCond .gt 7, 3) := dq daX11_one_14_1 7 rfl
theorem dX11_one_108 : decode cX11_one 108 = .ok (.lconst 0, 1) := dq daX11_one_14_1 8 rfl
theorem dX11_one_109 : decode cX11_one 109 = .ok (.lreturn, 1) := dq daX11_one_14_1 9 rfl
theorem dX11_one_104 : decode cX11_one 104 = .ok (.lconst 1, 1) := dq daX11_one_14_1 10 rfl
theorem dX11_one_105 : decode cX11_one 105 = .ok (.goto 4, 3) := dq daX11_one_14_1 11 rfl
theorem dX11_one_110 : decode cX11_one 110 = .ok (.lload_n 1, 1) := dq daX11_one_14_1 12 rfl
theorem dX11_one_111 : decode cX11_one 111 = .ok (.lload_n 3, 1) := dq daX11_one_14_1 13 rfl
theorem dX11_one_112 : decode cX11_one 112 = .ok (.lcmp, 1) := dq daX11_one_14_1 14 rfl
theorem dX11_one_113 : decode cX11_one 113 = .ok (.ifCond .ne 7, 3) := dq daX11_one_14_1 15 rfl
theorem dX11_one_120 : decode cX11_one 120 = .ok (.lconst 0, 1) := dq daX11_one_14_1 16 rfl
theorem dX11_one_121 : decode cX11_one 121 = .ok (.lreturn, 1) := dq daX11_one_14_1 17 rfl
theorem dX11_one_116 : decode cX11_one 116 = .ok (.lconst 1, 1) := dq daX11_one_14_1 18 rfl
theorem dX11_one_117 : decode cX11_one 117 = .ok (.goto 4, 3) := dq daX11_one_14_1 19 rfl
theorem dX11_one_122 : decode cX11_one 122 = .ok (.lload_n 1, 1) := dq daX11_one_14_1 20 rfl
theorem dX11_one_123 : decode cX11_one 123 = .ok (.lload_n 3, 1) := dq daX11_one_14_1 21 rfl
theorem dX11_one_124 : decode cX11_one 124 = .ok (.lcmp, 1) := dq daX11_one_14_1 22 rfl
theorem dX11_one_125 : decode cX11_one 125 = .ok (.ifCond .lt 7, 3) := dq daX11_one_14_1 23 rfl
theorem dX11_one_132 : decode cX11_one 132 = .ok (.lconst 0, 1) := dq daX11_one_14_1 24 rfl
theorem dX11_one_133 : decode cX11_one 133 = .ok (.lreturn, 1) := dq daX11_one_14_1 25 rfl
theorem dX11_one_128 : decode cX11_one 128 = .ok (.lconst 1, 1) := dq daX11_one_14_1 26 rfl
theorem dX11_one_129 : decode cX11_one 129 = .ok (.goto 4, 3) := dq daX11_one_14_1 27 rfl
theorem dX11_one_134 : decode cX11_one 134 = .ok (.lload_n 1, 1) := dq daX11_one_14_1 28 rfl
theorem dX11_one_135 : decode cX11_one 135 = .ok (.lload_n 3, 1) := dq daX11_one_14_1 29 rfl
theorem dX11_one_136 : decode cX11_one 136 = .ok (.lcmp, 1) := dq daX11_one_14_1 30 rfl
theorem dX11_one_137 : decode cX11_one 137 = .ok (.ifCond .le 7, 3) := dq daX11_one_14_1 31 rfl
def dtX11_one_14_2 : List (Nat × Jvm.ClassFile.Instr × Nat) := [(144, .lconst 0, 1), (145, .lreturn, 1), (140, .lconst 1, 1), (141, .goto 4, 3), (146, .lload_n 1, 1), (147, .lload_n 3, 1), (148, .land, 1), (149, .lreturn, 1)]
theorem daX11_one_14_2 : dtX11_one_14_2.all (dqd cX11_one) = true := by decide +kernel
theorem dX11_one_144 : decode cX11_one 144 = .ok (.lconst 0, 1) := dq daX11_one_14_2 0 rfl
theorem dX11_one_145 : decode cX11_one 145 = .ok (.lreturn, 1) := dq daX11_one_14_2 1 rfl
theorem dX11_one_140 : decode cX11_one 140 = .ok (.lconst 1, 1) := dq daX11_one_14_2 2 rfl
theorem dX11_one_141 : decode cX11_one 141 = .ok (.goto 4, 3) := dq daX11_one_14_2 3 rfl
theorem dX11_one_146 : decode cX11_one 146 = .ok (.lload_n 1, 1) := dq daX11_one_14_2 4 rfl
theorem dX11_one_147 : decode cX11_one 147 = .ok (.lload_n 3, 1) := dq daX11_one_14_2 5 rfl
theorem dX11_one_148 : decode cX11_one 148 = .ok (.land, 1) := dq daX11_one_14_2 6 rfl
theorem dX11_one_149 : decode cX11_one 149 = .ok (.lreturn, 1) := dq daX11_one_14_2 7 rfl
def dtX11_reckons_14_0 : List (Nat × Jvm.ClassFile.Instr × Nat) := [(0, .aload_n 0, 1), (1, .iconst 0, 1), (2, .putfield 238, 3), (5, .iload_n 2, 1), (6, .istore 4, 2), (8, .iload 4, 2), (10, .iload_n 3, 1), (11, .if_icmp .ge 124, 3), (14, .aload_n 0, 1), (15, .getfield 13, 3), (18, .sipush 400, 3), (21, .iload_n 1, 1), (22, .imul, 1), (23, .iload 4, 2), (25, .iadd, 1), (26, .iaload, 1), (27, .bipush 15, 2), (29, .iand, 1), (30, .istore 5, 2), (32, .aload_n 0, 1), (33, .getfield 13, 3), (36, .sipush 400, 3), (39, .iload_n 1, 1), (40, .imul, 1), (41, .iload 4, 2), (43, .iadd, 1), (44, .iaload, 1), (45, .iconst 4, 1), (46, .ishr, 1), (47, .istore 6, 2), (49, .iload 5, 2), (51, .ifCond .ne 13, 3)]
theorem daX11_reckons_14_0 : dtX11_reckons_14_0.all (dqd cX11_reckons) = true := by decide +kernel
theorem dX11_reckons_0 : decode cX11_reckons 0 = .ok (.aload_n 0, 1) := dq daX11_reckons_14_0 0 rfl
theorem dX11_reckons_1 : decode cX11_reckons 1 = .ok (.iconst 0, 1) := dq daX11_reckons_14_0 1 rfl
theorem dX11_reckons_2 : decode cX11_reckons 2 = .ok (.putfield 238, 3) := dq daX11_reckons_14_0 2 rfl
theorem dX11_reckons_5 : decode cX11_reckons 5 = .ok (.iload_n 2, 1) := dq daX11_reckons_14_0 3 rfl
theorem dX11_reckons_6 : decode cX11_reckons 6 = .ok (.istore 4, 2) := dq daX11_reckons_14_0 4 rfl
theorem dX11_reckons_8 : decode cX11_reckons 8 = .ok (.iload 4, 2) := dq daX11_reckons_14_0 5 rfl
theorem dX11_reckons_10 : decode cX11_reckons 10 = .ok (.iload_n 3, 1) := dq daX11_reckons_14_0 6 rfl
theorem dX11_reckons_11 : decode cX11_reckons 11 = .ok (.if_icmp .ge 124, 3) := dq daX11_reckons_14_0 7 rfl
theorem dX11_reckons_14 : decode cX11_reckons 14 = .ok (.aload_n 0, 1) := dq daX11_reckons_14_0 8 rfl
theorem dX11_reckons_15 : decode cX11_reckons 15 = .ok (.getfield 13, 3) := dq daX11_reckons_14_0 9 rfl
theorem dX11_reckons_18 : decode cX11_reckons 18 = .ok (.sipush 400, 3) := dq daX11_reckons_14_0 10 rfl
theorem dX11_reckons_21 : decode cX11_reckons 21 = .ok (.iload_n 1, 1) := dq daX11_reckons_14_0 11 rfl
theorem dX11_reckons_22 : decode cX11_reckons 22 = .ok (.imul, 1) := dq daX11_reckons_14_0 12 rfl
theorem dX11_reckons_23 : decode cX11_reckons 23 = .ok (.iload 4, 2) := dq daX11_reckons_14_0 13 rfl
theorem dX11_reckons_25 : decode cX11_reckons 25 = .ok (.iadd, 1) := dq daX11_reckons_14_0 14 rfl
theorem dX11_reckons_26 : decode cX11_reckons 26 = .ok (.iaload, 1) := dq daX11_reckons_14_0 15 rfl
theorem dX11_reckons_27 : decode cX11_reckons 27 = .ok (.bipush 15, 2) := dq daX11_reckons_14_0 16 rfl
theorem dX11_reckons_29 : decode cX11_reckons 29 = .ok (.iand, 1) := dq daX11_reckons_14_0 17 rfl
theorem dX11_reckons_30 : decode cX11_reckons 30 = .ok (.istore 5, 2) := dq daX11_reckons_14_0 18 rfl
theorem dX11_reckons_32 : decode cX11_reckons 32 = .ok (.aload_n 0, 1) := dq daX11_reckons_14_0 19 rfl
theorem dX11_reckons_33 : decode cX11_reckons 33 = .ok (.getfield 13, 3) := dq daX11_reckons_14_0 20 rfl
theorem dX11_reckons_36 : decode cX11_reckons 36 = .ok (.sipush 400, 3) := dq daX11_reckons_14_0 21 rfl
theorem dX11_reckons_39 : decode cX11_reckons 39 = .ok (.iload_n 1, 1) := dq daX11_reckons_14_0 22 rfl
theorem dX11_reckons_40 : decode cX11_reckons 40 = .ok (.imul, 1) := dq daX11_reckons_14_0 23 rfl
theorem dX11_reckons_41 : decode cX11_reckons 41 = .ok (.iload 4, 2) := dq daX11_reckons_14_0 24 rfl
theorem dX11_reckons_43 : decode cX11_reckons 43 = .ok (.iadd, 1) := dq daX11_reckons_14_0 25 rfl
theorem dX11_reckons_44 : decode cX11_reckons 44 = .ok (.iaload, 1) := dq daX11_reckons_14_0 26 rfl
theorem dX11_reckons_45 : decode cX11_reckons 45 = .ok (.iconst 4, 1) := dq daX11_reckons_14_0 27 rfl
theorem dX11_reckons_46 : decode cX11_reckons 46 = .ok (.ishr, 1) := dq daX11_reckons_14_0 28 rfl
theorem dX11_reckons_47 : decode cX11_reckons 47 = .ok (.istore 6, 2) := dq daX11_reckons_14_0 29 rfl
theorem dX11_reckons_49 : decode cX11_reckons 49 = .ok (.iload 5, 2) := dq daX11_reckons_14_0 30 rfl
theorem dX11_reckons_51 : decode cX11_reckons 51 = .ok (.ifCond .ne 13, 3) := dq daX11_reckons_14_0 31 rfl
def dtX11_reckons_14_1 : List (Nat × Jvm.ClassFile.Instr × Nat) := [(64, .iload 5, 2), (66, .iconst 1, 1), (67, .if_icmp .ne 17, 3), (84, .iload 5, 2), (86, .bipush 11, 2), (88, .if_icmp .ne 16, 3), (104, .aload_n 0, 1), (105, .invokevirtual 245, 3), (108, .lstore 7, 2), (110, .aload_n 0, 1), (111, .invokevirtual 245, 3), (114, .lstore 9, 2), (116, .aload_n 0, 1), (117, .iload 5, 2), (119, .lload 9, 2), (121, .lload 7, 2), (123, .invokestatic 249, 3), (126, .invokevirtual 241, 3), (129, .iinc 4 1, 3), (132, .goto (-124), 3), (91, .aload_n 0, 1), (92, .lconst 1, 1), (93, .aload_n 0, 1), (94, .invokevirtual 245, 3), (97, .lsub, 1), (98, .invokevirtual 241, 3), (101, .goto 28, 3), (70, .aload_n 0, 1), (71, .aload_n 0, 1), (72, .getfield 36, 3), (75, .iload 6, 2), (77, .laload, 1)]
theorem daX11_reckons_14_1 : dtX11_reckons_14_1.all (dqd cX11_reckons) = true := by decide +kernel
theorem dX11_reckons_64 : decode cX11_reckons 64 = .ok (.iload 5, 2) := dq daX11_reckons_14_1 0 rfl
theorem dX11_reckons_66 : decode cX11_reckons 66 = .ok (.iconst 1, 1) := dq daX11_reckons_14_1 1 rfl
theorem dX11_reckons_67 : decode cX11_reckons 67 = .ok (.if_icmp .ne 17, 3) := dq daX11_reckons_14_1 2 rfl
theorem dX11_reckons_84 : decode cX11_reckons 84 = .ok (.iload 5, 2) := dq daX11_reckons_14_1 3 rfl
theorem dX11_reckons_86 : decode cX11_reckons 86 = .ok (.bipush 11, 2) := dq daX11_reckons_14_1 4 rfl
theorem dX11_reckons_88 : decode cX11_reckons 88 = .ok (.if_icmp .ne 16, 3) := dq daX11_reckons_14_1 5 rfl
theorem dX11_reckons_104 : decode cX11_reckons 104 = .ok (.aload_n 0, 1) := dq daX11_reckons_14_1 6 rfl
theorem dX11_reckons_105 : decode cX11_reckons 105 = .ok (.invokevirtual 245, 3) := dq daX11_reckons_14_1 7 rfl
theorem dX11_reckons_108 : decode cX11_reckons 108 = .ok (.lstore 7, 2) := dq daX11_reckons_14_1 8 rfl
theorem dX11_reckons_110 : decode cX11_reckons 110 = .ok (.aload_n 0, 1) := dq daX11_reckons_14_1 9 rfl
theorem dX11_reckons_111 : decode cX11_reckons 111 = .ok (.invokevirtual 245, 3) := dq daX11_reckons_14_1 10 rfl
theorem dX11_reckons_114 : decode cX11_reckons 114 = .ok (.lstore 9, 2) := dq daX11_reckons_14_1 11 rfl
theorem dX11_reckons_116 : decode cX11_reckons 116 = .ok (.aload_n 0, 1) := dq daX11_reckons_14_1 12 rfl
theorem dX11_reckons_117 : decode cX11_reckons 117 = .ok (.iload 5, 2) := dq daX11_reckons_14_1 13 rfl
theorem dX11_reckons_119 : decode cX11_reckons 119 = .ok (.lload 9, 2) := dq daX11_reckons_14_1 14 rfl
theorem dX11_reckons_121 : decode cX11_reckons 121 = .ok (.lload 7, 2) := dq daX11_reckons_14_1 15 rfl
theorem dX11_reckons_123 : decode cX11_reckons 123 = .ok (.invokestatic 249, 3) := dq daX11_reckons_14_1 16 rfl
theorem dX11_reckons_126 : decode cX11_reckons 126 = .ok (.invokevirtual 241, 3) := dq daX11_reckons_14_1 17 rfl
theorem dX11_reckons_129 : decode cX11_reckons 129 = .ok (.iinc 4 1, 3) := dq daX11_reckons_14_1 18 rfl
theorem dX11_reckons_132 : decode cX11_reckons 132 = .ok (.goto (-124), 3) := dq daX11_reckons_14_1 19 rfl
theorem dX11_reckons_91 : decode cX11_reckons 91 = .ok (.aload_n 0, 1) := dq daX11_reckons_14_1 20 rfl
theorem dX11_reckons_92 : decode cX11_reckons 92 = .ok (.lconst 1, 1) := dq daX11_reckons_14_1 21 rfl
theorem dX11_reckons_93 : decode cX11_reckons 93 = .ok (.aload_n 0, 1) := dq daX11_reckons_14_1 22 rfl
theorem dX11_reckons_94 : decode cX11_reckons 94 = .ok (.invokevirtual 245, 3) := dq daX11_reckons_14_1 23 rfl
theorem dX11_reckons_97 : decode cX11_reckons 97 = .ok (.lsub, 1) := dq daX11_reckons_14_1 24 rfl
theorem dX11_reckons_98 : decode cX11_reckons 98 = .ok (.invokevirtual 241, 3) := dq daX11_reckons_14_1 25 rfl
theorem dX11_reckons_101 : decode cX11_reckons 101 = .ok (.goto 28, 3) := dq daX11_reckons_14_1 26 rfl
theorem dX11_reckons_70 : decode cX11_reckons 70 = .ok (.aload_n 0, 1) := dq daX11_reckons_14_1 27 rfl
theorem dX11_reckons_71 : decode cX11_reckons 71 = .ok (.aload_n 0, 1) := dq daX11_reckons_14_1 28 rfl
theorem dX11_reckons_72 : decode cX11_reckons 72 = .ok (.getfield 36, 3) := dq daX11_reckons_14_1 29 rfl
theorem dX11_reckons_75 : decode cX11_reckons 75 = .ok (.iload 6, 2) := dq daX11_reckons_14_1 30 rfl
theorem dX11_reckons_77 : decode cX11_reckons 77 = .ok (.laload, 1) := dq daX11_reckons_14_1 31 rfl
def dtX11_reckons_14_2 : List (Nat × Jvm.ClassFile.Instr × Nat) := [(78, .invokevirtual 241, 3), (81, .goto 48, 3), (54, .aload_n 0, 1), (55, .iload 6, 2), (57, .i2l, 1), (58, .invokevirtual 241, 3), (61, .goto 68, 3), (135, .aload_n 0, 1), (136, .invokevirtual 245, 3), (139, .lreturn, 1)]
theorem daX11_reckons_14_2 : dtX11_reckons_14_2.all (dqd cX11_reckons) = true := by decide +kernel
theorem dX11_reckons_78 : decode cX11_reckons 78 = .ok (.invokevirtual 241, 3) := dq daX11_reckons_14_2 0 rfl
theorem dX11_reckons_81 : decode cX11_reckons 81 = .ok (.goto 48, 3) := dq daX11_reckons_14_2 1 rfl
theorem dX11_reckons_54 : decode cX11_reckons 54 = .ok (.aload_n 0, 1) := dq daX11_reckons_14_2 2 rfl
theorem dX11_reckons_55 : decode cX11_reckons 55 = .ok (.iload 6, 2) := dq daX11_reckons_14_2 3 rfl
theorem dX11_reckons_57 : decode cX11_reckons 57 = .ok (.i2l, 1) := dq daX11_reckons_14_2 4 rfl
theorem dX11_reckons_58 : decode cX11_reckons 58 = .ok (.invokevirtual 241, 3) := dq daX11_reckons_14_2 5 rfl
theorem dX11_reckons_61 : decode cX11_reckons 61 = .ok (.goto 68, 3) := dq daX11_reckons_14_2 6 rfl
theorem dX11_reckons_135 : decode cX11_reckons 135 = .ok (.aload_n 0, 1) := dq daX11_reckons_14_2 7 rfl
theorem dX11_reckons_136 : decode cX11_reckons 136 = .ok (.invokevirtual 245, 3) := dq daX11_reckons_14_2 8 rfl
theorem dX11_reckons_139 : decode cX11_reckons 139 = .ok (.lreturn, 1) := dq daX11_reckons_14_2 9 rfl
