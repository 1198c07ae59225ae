theorem kX11_clauseHere_1 {a : Array Value} {s : State} (hts : ∀ w ∈ wsX11_clauseHere, w.before a s = true) : (.fieldLink RX11 90 "SnowMulesModel" "next" "I" : Cond).before a s = true := kw (A := ixX11_clauseHere) wt461 hts (by decide +kernel)
theorem kX11_clauseHere_2 {a : Array Value} {s : State} (hts : ∀ w ∈ wsX11_clauseHere, w.before a s = true) : (.constantLong RX11 216 (1835363444) : Cond).before a s = true := kw (A := ixX11_clauseHere) wt468 hts (by decide +kernel)
theorem kX11_clauseHere_3 {a : Array Value} {s : State} (hts : ∀ w ∈ wsX11_clauseHere, w.before a s = true) : (.constantLong RX11 218 (1919251316) : Cond).before a s = true := kw (A := ixX11_clauseHere) wt469 hts (by decide +kernel)
theorem kX11_clauseHere_4 {a : Array Value} {s : State} (hts : ∀ w ∈ wsX11_clauseHere, w.before a s = true) : (.constantLong RX11 220 (495672455781) : Cond).before a s = true := kw (A := ixX11_clauseHere) wt470 hts (by decide +kernel)
theorem kX11_clauseHere_5 {a : Array Value} {s : State} (hts : ∀ w ∈ wsX11_clauseHere, w.before a s = true) : (.constantLong RX11 222 (422877229940) : Cond).before a s = true := kw (A := ixX11_clauseHere) wt471 hts (by decide +kernel)
theorem kX11_clauseHere_6 {a : Array Value} {s : State} (hts : ∀ w ∈ wsX11_clauseHere, w.before a s = true) : (.constantLong RX11 224 (426952976750) : Cond).before a s = true := kw (A := ixX11_clauseHere) wt472 hts (by decide +kernel)
theorem kX11_clauseHere_7 {a : Array Value} {s : State} (hts : ∀ w ∈ wsX11_clauseHere, w.before a s = true) : (.fieldLink RX11 226 "SnowMulesModel" "lines" "I" : Cond).before a s = true := kw (A := ixX11_clauseHere) wt460 hts (by decide +kernel)
theorem kX11_clauseHere_8 {a : Array Value} {s : State} (hts : ∀ w ∈ wsX11_clauseHere, w.before a s = true) : (.fieldLink RX11 26 "SnowMulesModel" "chain" "[I" : Cond).before a s = true := kw (A := ixX11_clauseHere) wt148 hts (by decide +kernel)
theorem kX11_clauseHere_9 {a : Array Value} {s : State} (hts : ∀ w ∈ wsX11_clauseHere, w.before a s = true) : (.fieldLink RX11 144 "SnowMulesModel" "text" "I" : Cond).before a s = true := kw (A := ixX11_clauseHere) wt459 hts (by decide +kernel)
theorem kX11_clauseHere_10 {a : Array Value} {s : State} (hts : ∀ w ∈ wsX11_clauseHere, w.before a s = true) : (.fieldLink RX11 115 "SnowMulesModel" "number" "I" : Cond).before a s = true := kw (A := ixX11_clauseHere) wt473 hts (by decide +kernel)
theorem iX11_clauseHere_X11 : ∀ w ∈ wsX110, w ∈ wsX11_clauseHere := inW (A := ixX11_clauseHere) uwX11 (by decide +kernel)
theorem hdX11_clauseOf : yX11_clauseOf.cls ≠ "java/lang/invoke/MethodHandle" ∧ yX11_clauseOf.cls ≠ "java/lang/invoke/VarHandle" ∧ (parseMethodDescriptor yX11_clauseOf.desc).map (fun d => d.parameters.length) = some 1 := ⟨hdc_0.1, hdc_0.2, hdd_1⟩
def dtX11_clauseHere_271_0 : List (Nat × Jvm.ClassFile.Instr × Nat) := [(0, .aload_n 0, 1), (1, .invokevirtual 93, 3), (4, .pop, 1), (5, .aload_n 0, 1), (6, .getfield 90, 3), (9, .istore_n 1, 1), (10, .aload_n 0, 1), (11, .ldc2_w 216, 3), (14, .invokevirtual 101, 3), (17, .ifCond .eq 7, 3), (24, .aload_n 0, 1), (25, .ldc2_w 218, 3), (28, .invokevirtual 101, 3), (31, .ifCond .eq 7, 3), (38, .aload_n 0, 1), (39, .ldc2_w 220, 3), (42, .invokevirtual 101, 3), (45, .ifCond .eq 7, 3), (52, .aload_n 0, 1), (53, .ldc2_w 222, 3), (56, .invokevirtual 101, 3), (59, .ifCond .eq 7, 3), (66, .aload_n 0, 1), (67, .ldc2_w 224, 3), (70, .invokevirtual 101, 3), (73, .ifCond .eq 7, 3), (80, .iconst (-1), 1), (81, .istore_n 2, 1), (82, .iload_n 2, 1), (83, .ifCond .ge 10, 3), (86, .aload_n 0, 1), (87, .iconst 0, 1)]
theorem daX11_clauseHere_271_0 : dtX11_clauseHere_271_0.all (dqd cX11_clauseHere) = true := by decide +kernel
theorem dX11_clauseHere_0 : decode cX11_clauseHere 0 = .ok (.aload_n 0, 1) := dq daX11_clauseHere_271_0 0 rfl
theorem dX11_clauseHere_1 : decode cX11_clauseHere 1 = .ok (.invokevirtual 93, 3) := dq daX11_clauseHere_271_0 1 rfl
theorem dX11_clauseHere_4 : decode cX11_clauseHere 4 = .ok (.pop, 1) := dq daX11_clauseHere_271_0 2 rfl
theorem dX11_clauseHere_5 : decode cX11_clauseHere 5 = .ok (.aload_n 0, 1) := dq daX11_clauseHere_271_0 3 rfl
theorem dX11_clauseHere_6 : decode cX11_clauseHere 6 = .ok (.getfield 90, 3) := dq daX11_clauseHere_271_0 4 rfl
theorem dX11_clauseHere_9 : decode cX11_clauseHere 9 = .ok (.istore_n 1, 1) := dq daX11_clauseHere_271_0 5 rfl
theorem dX11_clauseHere_10 : decode cX11_clauseHere 10 = .ok (.aload_n 0, 1) := dq daX11_clauseHere_271_0 6 rfl
theorem dX11_clauseHere_11 : decode cX11_clauseHere 11 = .ok (.ldc2_w 216, 3) := dq daX11_clauseHere_271_0 7 rfl
theorem dX11_clauseHere_14 : decode cX11_clauseHere 14 = .ok (.invokevirtual 101, 3) := dq daX11_clauseHere_271_0 8 rfl
theorem dX11_clauseHere_17 : decode cX11_clauseHere 17 = .ok (.ifCond .eq 7, 3) := dq daX11_clauseHere_271_0 9 rfl
theorem dX11_clauseHere_24 : decode cX11_clauseHere 24 = .ok (.aload_n 0, 1) := dq daX11_clauseHere_271_0 10 rfl
theorem dX11_clauseHere_25 : decode cX11_clauseHere 25 = .ok (.ldc2_w 218, 3) := dq daX11_clauseHere_271_0 11 rfl
theorem dX11_clauseHere_28 : decode cX11_clauseHere 28 = .ok (.invokevirtual 101, 3) := dq daX11_clauseHere_271_0 12 rfl
theorem dX11_clauseHere_31 : decode cX11_clauseHere 31 = .ok (.ifCond .eq 7, 3) := dq daX11_clauseHere_271_0 13 rfl
theorem dX11_clauseHere_38 : decode cX11_clauseHere 38 = .ok (.aload_n 0, 1) := dq daX11_clauseHere_271_0 14 rfl
theorem dX11_clauseHere_39 : decode cX11_clauseHere 39 = .ok (.ldc2_w 220, 3) := dq daX11_clauseHere_271_0 15 rfl
theorem dX11_clauseHere_42 : decode cX11_clauseHere 42 = .ok (.invokevirtual 101, 3) := dq daX11_clauseHere_271_0 16 rfl
theorem dX11_clauseHere_45 : decode cX11_clauseHere 45 = .ok (.ifCond .eq 7, 3) := dq daX11_clauseHere_271_0 17 rfl
theorem dX11_clauseHere_52 : decode cX11_clauseHere 52 = .ok (.aload_n 0, 1) := dq daX11_clauseHere_271_0 18 rfl
theorem dX11_clauseHere_53 : decode cX11_clauseHere 53 = .ok (.ldc2_w 222, 3) := dq daX11_clauseHere_271_0 19 rfl
theorem dX11_clauseHere_56 : decode cX11_clauseHere 56 = .ok (.invokevirtual 101, 3) := dq daX11_clauseHere_271_0 20 rfl
theorem dX11_clauseHere_59 : decode cX11_clauseHere 59 = .ok (.ifCond .eq 7, 3) := dq daX11_clauseHere_271_0 21 rfl
theorem dX11_clauseHere_66 : decode cX11_clauseHere 66 = .ok (.aload_n 0, 1) := dq daX11_clauseHere_271_0 22 rfl
theorem dX11_clauseHere_67 : decode cX11_clauseHere 67 = .ok (.ldc2_w 224, 3) := dq daX11_clauseHere_271_0 23 rfl
theorem dX11_clauseHere_70 : decode cX11_clauseHere 70 = .ok (.invokevirtual 101, 3) := dq daX11_clauseHere_271_0 24 rfl
theorem dX11_clauseHere_73 : decode cX11_clauseHere 73 = .ok (.ifCond .eq 7, 3) := dq daX11_clauseHere_271_0 25 rfl
theorem dX11_clauseHere_80 : decode cX11_clauseHere 80 = .ok (.iconst (-1), 1) := dq daX11_clauseHere_271_0 26 rfl
theorem dX11_clauseHere_81 : decode cX11_clauseHere 81 = .ok (.istore_n 2, 1) := dq daX11_clauseHere_271_0 27 rfl
theorem dX11_clauseHere_82 : decode cX11_clauseHere 82 = .ok (.iload_n 2, 1) := dq daX11_clauseHere_271_0 28 rfl
theorem dX11_clauseHere_83 : decode cX11_clauseHere 83 = .ok (.ifCond .ge 10, 3) := dq daX11_clauseHere_271_0 29 rfl
theorem dX11_clauseHere_86 : decode cX11_clauseHere 86 = .ok (.aload_n 0, 1) := dq daX11_clauseHere_271_0 30 rfl
theorem dX11_clauseHere_87 : decode cX11_clauseHere 87 = .ok (.iconst 0, 1) := dq daX11_clauseHere_271_0 31 rfl
def dtX11_clauseHere_271_1 : List (Nat × Jvm.ClassFile.Instr × Nat) := [(88, .iload_n 1, 1), (89, .invokevirtual 111, 3), (76, .iconst 4, 1), (77, .goto 4, 3), (93, .aload_n 0, 1), (94, .getfield 226, 3), (97, .bipush 12, 2), (99, .if_icmp .ne 10, 3), (109, .aload_n 0, 1), (110, .dup, 1), (111, .getfield 226, 3), (114, .iconst 1, 1), (115, .iadd, 1), (116, .putfield 226, 3), (119, .iload_n 2, 1), (120, .iconst 4, 1), (121, .if_icmp .ge 9, 3), (130, .aload_n 0, 1), (131, .getfield 26, 3), (134, .aload_n 0, 1), (135, .getfield 144, 3), (138, .iaload, 1), (139, .ifCond .lt 10, 3), (149, .aload_n 0, 1), (150, .invokevirtual 105, 3), (153, .aload_n 0, 1), (154, .iconst 0, 1), (155, .bipush 10, 2), (157, .invokevirtual 165, 3), (160, .ifCond .ne 5, 3), (165, .aload_n 0, 1), (166, .getfield 26, 3)]
theorem daX11_clauseHere_271_1 : dtX11_clauseHere_271_1.all (dqd cX11_clauseHere) = true := by decide +kernel
theorem dX11_clauseHere_88 : decode cX11_clauseHere 88 = .ok (.iload_n 1, 1) := dq daX11_clauseHere_271_1 0 rfl
theorem dX11_clauseHere_89 : decode cX11_clauseHere 89 = .ok (.invokevirtual 111, 3) := dq daX11_clauseHere_271_1 1 rfl
theorem dX11_clauseHere_76 : decode cX11_clauseHere 76 = .ok (.iconst 4, 1) := dq daX11_clauseHere_271_1 2 rfl
theorem dX11_clauseHere_77 : decode cX11_clauseHere 77 = .ok (.goto 4, 3) := dq daX11_clauseHere_271_1 3 rfl
theorem dX11_clauseHere_93 : decode cX11_clauseHere 93 = .ok (.aload_n 0, 1) := dq daX11_clauseHere_271_1 4 rfl
theorem dX11_clauseHere_94 : decode cX11_clauseHere 94 = .ok (.getfield 226, 3) := dq daX11_clauseHere_271_1 5 rfl
theorem dX11_clauseHere_97 : decode cX11_clauseHere 97 = .ok (.bipush 12, 2) := dq daX11_clauseHere_271_1 6 rfl
theorem dX11_clauseHere_99 : decode cX11_clauseHere 99 = .ok (.if_icmp .ne 10, 3) := dq daX11_clauseHere_271_1 7 rfl
theorem dX11_clauseHere_109 : decode cX11_clauseHere 109 = .ok (.aload_n 0, 1) := dq daX11_clauseHere_271_1 8 rfl
theorem dX11_clauseHere_110 : decode cX11_clauseHere 110 = .ok (.dup, 1) := dq daX11_clauseHere_271_1 9 rfl
theorem dX11_clauseHere_111 : decode cX11_clauseHere 111 = .ok (.getfield 226, 3) := dq daX11_clauseHere_271_1 10 rfl
theorem dX11_clauseHere_114 : decode cX11_clauseHere 114 = .ok (.iconst 1, 1) := dq daX11_clauseHere_271_1 11 rfl
theorem dX11_clauseHere_115 : decode cX11_clauseHere 115 = .ok (.iadd, 1) := dq daX11_clauseHere_271_1 12 rfl
theorem dX11_clauseHere_116 : decode cX11_clauseHere 116 = .ok (.putfield 226, 3) := dq daX11_clauseHere_271_1 13 rfl
theorem dX11_clauseHere_119 : decode cX11_clauseHere 119 = .ok (.iload_n 2, 1) := dq daX11_clauseHere_271_1 14 rfl
theorem dX11_clauseHere_120 : decode cX11_clauseHere 120 = .ok (.iconst 4, 1) := dq daX11_clauseHere_271_1 15 rfl
theorem dX11_clauseHere_121 : decode cX11_clauseHere 121 = .ok (.if_icmp .ge 9, 3) := dq daX11_clauseHere_271_1 16 rfl
theorem dX11_clauseHere_130 : decode cX11_clauseHere 130 = .ok (.aload_n 0, 1) := dq daX11_clauseHere_271_1 17 rfl
theorem dX11_clauseHere_131 : decode cX11_clauseHere 131 = .ok (.getfield 26, 3) := dq daX11_clauseHere_271_1 18 rfl
theorem dX11_clauseHere_134 : decode cX11_clauseHere 134 = .ok (.aload_n 0, 1) := dq daX11_clauseHere_271_1 19 rfl
theorem dX11_clauseHere_135 : decode cX11_clauseHere 135 = .ok (.getfield 144, 3) := dq daX11_clauseHere_271_1 20 rfl
theorem dX11_clauseHere_138 : decode cX11_clauseHere 138 = .ok (.iaload, 1) := dq daX11_clauseHere_271_1 21 rfl
theorem dX11_clauseHere_139 : decode cX11_clauseHere 139 = .ok (.ifCond .lt 10, 3) := dq daX11_clauseHere_271_1 22 rfl
theorem dX11_clauseHere_149 : decode cX11_clauseHere 149 = .ok (.aload_n 0, 1) := dq daX11_clauseHere_271_1 23 rfl
theorem dX11_clauseHere_150 : decode cX11_clauseHere 150 = .ok (.invokevirtual 105, 3) := dq daX11_clauseHere_271_1 24 rfl
theorem dX11_clauseHere_153 : decode cX11_clauseHere 153 = .ok (.aload_n 0, 1) := dq daX11_clauseHere_271_1 25 rfl
theorem dX11_clauseHere_154 : decode cX11_clauseHere 154 = .ok (.iconst 0, 1) := dq daX11_clauseHere_271_1 26 rfl
theorem dX11_clauseHere_155 : decode cX11_clauseHere 155 = .ok (.bipush 10, 2) := dq daX11_clauseHere_271_1 27 rfl
theorem dX11_clauseHere_157 : decode cX11_clauseHere 157 = .ok (.invokevirtual 165, 3) := dq daX11_clauseHere_271_1 28 rfl
theorem dX11_clauseHere_160 : decode cX11_clauseHere 160 = .ok (.ifCond .ne 5, 3) := dq daX11_clauseHere_271_1 29 rfl
theorem dX11_clauseHere_165 : decode cX11_clauseHere 165 = .ok (.aload_n 0, 1) := dq daX11_clauseHere_271_1 30 rfl
theorem dX11_clauseHere_166 : decode cX11_clauseHere 166 = .ok (.getfield 26, 3) := dq daX11_clauseHere_271_1 31 rfl
def dtX11_clauseHere_271_2 : List (Nat × Jvm.ClassFile.Instr × Nat) := [(169, .aload_n 0, 1), (170, .getfield 144, 3), (173, .aload_n 0, 1), (174, .getfield 115, 3), (177, .iastore, 1), (178, .iconst 1, 1), (163, .iconst 0, 1), (142, .aload_n 0, 1), (143, .iconst 4, 1), (144, .iload_n 1, 1), (145, .invokevirtual 111, 3), (102, .aload_n 0, 1), (103, .iconst 4, 1), (104, .iload_n 1, 1), (105, .invokevirtual 111, 3), (62, .iconst 3, 1), (63, .goto 18, 3), (124, .aload_n 0, 1), (125, .iload_n 2, 1), (126, .invokevirtual 229, 3), (48, .iconst 2, 1), (49, .goto 32, 3), (34, .iconst 1, 1), (35, .goto 46, 3), (20, .iconst 0, 1), (21, .goto 60, 3), (92, .ireturn, 1), (179, .ireturn, 1), (164, .ireturn, 1), (148, .ireturn, 1), (108, .ireturn, 1), (129, .ireturn, 1)]
theorem daX11_clauseHere_271_2 : dtX11_clauseHere_271_2.all (dqd cX11_clauseHere) = true := by decide +kernel
theorem dX11_clauseHere_169 : decode cX11_clauseHere 169 = .ok (.aload_n 0, 1) := dq daX11_clauseHere_271_2 0 rfl
theorem dX11_clauseHere_170 : decode cX11_clauseHere 170 = .ok (.getfield 144, 3) := dq daX11_clauseHere_271_2 1 rfl
theorem dX11_clauseHere_173 : decode cX11_clauseHere 173 = .ok (.aload_n 0, 1) := dq daX11_clauseHere_271_2 2 rfl
theorem dX11_clauseHere_174 : decode cX11_clauseHere 174 = .ok (.getfield 115, 3) := dq daX11_clauseHere_271_2 3 rfl
theorem dX11_clauseHere_177 : decode cX11_clauseHere 177 = .ok (.iastore, 1) := dq daX11_clauseHere_271_2 4 rfl
theorem dX11_clauseHere_178 : decode cX11_clauseHere 178 = .ok (.iconst 1, 1) := dq daX11_clauseHere_271_2 5 rfl
theorem dX11_clauseHere_163 : decode cX11_clauseHere 163 = .ok (.iconst 0, 1) := dq daX11_clauseHere_271_2 6 rfl
theorem dX11_clauseHere_142 : decode cX11_clauseHere 142 = .ok (.aload_n 0, 1) := dq daX11_clauseHere_271_2 7 rfl
theorem dX11_clauseHere_143 : decode cX11_clauseHere 143 = .ok (.iconst 4, 1) := dq daX11_clauseHere_271_2 8 rfl
theorem dX11_clauseHere_144 : decode cX11_clauseHere 144 = .ok (.iload_n 1, 1) := dq daX11_clauseHere_271_2 9 rfl
theorem dX11_clauseHere_145 : decode cX11_clauseHere 145 = .ok (.invokevirtual 111, 3) := dq daX11_clauseHere_271_2 10 rfl
theorem dX11_clauseHere_102 : decode cX11_clauseHere 102 = .ok (.aload_n 0, 1) := dq daX11_clauseHere_271_2 11 rfl
theorem dX11_clauseHere_103 : decode cX11_clauseHere 103 = .ok (.iconst 4, 1) := dq daX11_clauseHere_271_2 12 rfl
theorem dX11_clauseHere_104 : decode cX11_clauseHere 104 = .ok (.iload_n 1, 1) := dq daX11_clauseHere_271_2 13 rfl
theorem dX11_clauseHere_105 : decode cX11_clauseHere 105 = .ok (.invokevirtual 111, 3) := dq daX11_clauseHere_271_2 14 rfl
theorem dX11_clauseHere_62 : decode cX11_clauseHere 62 = .ok (.iconst 3, 1) := dq daX11_clauseHere_271_2 15 rfl
theorem dX11_clauseHere_63 : decode cX11_clauseHere 63 = .ok (.goto 18, 3) := dq daX11_clauseHere_271_2 16 rfl
theorem dX11_clauseHere_124 : decode cX11_clauseHere 124 = .ok (.aload_n 0, 1) := dq daX11_clauseHere_271_2 17 rfl
theorem dX11_clauseHere_125 : decode cX11_clauseHere 125 = .ok (.iload_n 2, 1) := dq daX11_clauseHere_271_2 18 rfl
theorem dX11_clauseHere_126 : decode cX11_clauseHere 126 = .ok (.invokevirtual 229, 3) := dq daX11_clauseHere_271_2 19 rfl
theorem dX11_clauseHere_48 : decode cX11_clauseHere 48 = .ok (.iconst 2, 1) := dq daX11_clauseHere_271_2 20 rfl
theorem dX11_clauseHere_49 : decode cX11_clauseHere 49 = .ok (.goto 32, 3) := dq daX11_clauseHere_271_2 21 rfl
theorem dX11_clauseHere_34 : decode cX11_clauseHere 34 = .ok (.iconst 1, 1) := dq daX11_clauseHere_271_2 22 rfl
theorem dX11_clauseHere_35 : decode cX11_clauseHere 35 = .ok (.goto 46, 3) := dq daX11_clauseHere_271_2 23 rfl
theorem dX11_clauseHere_20 : decode cX11_clauseHere 20 = .ok (.iconst 0, 1) := dq daX11_clauseHere_271_2 24 rfl
theorem dX11_clauseHere_21 : decode cX11_clauseHere 21 = .ok (.goto 60, 3) := dq daX11_clauseHere_271_2 25 rfl
theorem dX11_clauseHere_92 : decode cX11_clauseHere 92 = .ok (.ireturn, 1) := dq daX11_clauseHere_271_2 26 rfl
theorem dX11_clauseHere_179 : decode cX11_clauseHere 179 = .ok (.ireturn, 1) := dq daX11_clauseHere_271_2 27 rfl
theorem dX11_clauseHere_164 : decode cX11_clauseHere 164 = .ok (.ireturn, 1) := dq daX11_clauseHere_271_2 28 rfl
theorem dX11_clauseHere_148 : decode cX11_clauseHere 148 = .ok (.ireturn, 1) := dq daX11_clauseHere_271_2 29 rfl
theorem dX11_clauseHere_108 : decode cX11_clauseHere 108 = .ok (.ireturn, 1) := dq daX11_clauseHere_271_2 30 rfl
theorem dX11_clauseHere_129 : decode cX11_clauseHere 129 = .ok (.ireturn, 1) := dq daX11_clauseHere_271_2 31 rfl
