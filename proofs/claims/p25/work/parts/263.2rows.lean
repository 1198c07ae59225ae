theorem kX11_tested_1 {a : Array Value} {s : State} (hts : ∀ w ∈ wsX11_tested, w.before a s = true) : (.fieldLink RX11 153 "SnowMulesModel" "opened" "I" : Cond).before a s = true := kw (A := ixX11_tested) wt551 hts (by decide +kernel)
theorem kX11_tested_2 {a : Array Value} {s : State} (hts : ∀ w ∈ wsX11_tested, w.before a s = true) : (.fieldLink RX11 150 "SnowMulesModel" "deep" "I" : Cond).before a s = true := kw (A := ixX11_tested) wt552 hts (by decide +kernel)
theorem kX11_tested_3 {a : Array Value} {s : State} (hts : ∀ w ∈ wsX11_tested, w.before a s = true) : (.constantLong RX11 204 (6385252) : Cond).before a s = true := kw (A := ixX11_tested) wt553 hts (by decide +kernel)
theorem kX11_tested_5 {a : Array Value} {s : State} (hts : ∀ w ∈ wsX11_tested, w.before a s = true) : (.fieldLink RX11 29 "SnowMulesModel" "open" "[I" : Cond).before a s = true := kw (A := ixX11_tested) wt149 hts (by decide +kernel)
theorem kX11_tested_4 {a : Array Value} {s : State} (hts : ∀ w ∈ wsX11_tested, w.before a s = true) : (.constantLong RX11 206 (28530) : Cond).before a s = true := kw (A := ixX11_tested) wt554 hts (by decide +kernel)
theorem kX11_tested_6 {a : Array Value} {s : State} (hts : ∀ w ∈ wsX11_tested, w.before a s = true) : (.fieldLink RX11 90 "SnowMulesModel" "next" "I" : Cond).before a s = true := kw (A := ixX11_tested) wt461 hts (by decide +kernel)
theorem iX11_tested_X11 : ∀ w ∈ wsX110, w ∈ wsX11_tested := inW (A := ixX11_tested) uwX11 (by decide +kernel)
theorem hdX11_fact : yX11_fact.cls ≠ "java/lang/invoke/MethodHandle" ∧ yX11_fact.cls ≠ "java/lang/invoke/VarHandle" ∧ (parseMethodDescriptor yX11_fact.desc).map (fun d => d.parameters.length) = some 0 := ⟨hdc_0.1, hdc_0.2, hdd_22⟩
theorem hdX11_closes : yX11_closes.cls ≠ "java/lang/invoke/MethodHandle" ∧ yX11_closes.cls ≠ "java/lang/invoke/VarHandle" ∧ (parseMethodDescriptor yX11_closes.desc).map (fun d => d.parameters.length) = some 0 := ⟨hdc_0.1, hdc_0.2, hdd_24⟩
def dtX11_tested_263_0 : List (Nat × Jvm.ClassFile.Instr × Nat) := [(0, .aload_n 0, 1), (1, .iconst 0, 1), (2, .putfield 153, 3), (5, .aload_n 0, 1), (6, .iconst 0, 1), (7, .putfield 150, 3), (10, .iconst 1, 1), (11, .istore_n 1, 1), (12, .iload_n 1, 1), (13, .ifCond .eq 99, 3), (16, .aload_n 0, 1), (17, .invokevirtual 198, 3), (20, .ifCond .ne 5, 3), (25, .aload_n 0, 1), (26, .invokevirtual 201, 3), (29, .aload_n 0, 1), (30, .ldc2_w 204, 3), (33, .invokevirtual 101, 3), (36, .ifCond .ne 13, 3), (49, .iconst 1, 1), (50, .goto 4, 3), (54, .istore_n 1, 1), (55, .iload_n 1, 1), (56, .ifCond .eq (-44), 3), (59, .aload_n 0, 1), (60, .ldc2_w 204, 3), (63, .invokevirtual 101, 3), (66, .ifCond .eq 8, 3), (74, .bipush 13, 2), (76, .istore_n 2, 1), (77, .aload_n 0, 1), (78, .invokevirtual 105, 3)]
theorem daX11_tested_263_0 : dtX11_tested_263_0.all (dqd cX11_tested) = true := by decide +kernel
theorem dX11_tested_0 : decode cX11_tested 0 = .ok (.aload_n 0, 1) := dq daX11_tested_263_0 0 rfl
theorem dX11_tested_1 : decode cX11_tested 1 = .ok (.iconst 0, 1) := dq daX11_tested_263_0 1 rfl
theorem dX11_tested_2 : decode cX11_tested 2 = .ok (.putfield 153, 3) := dq daX11_tested_263_0 2 rfl
theorem dX11_tested_5 : decode cX11_tested 5 = .ok (.aload_n 0, 1) := dq daX11_tested_263_0 3 rfl
theorem dX11_tested_6 : decode cX11_tested 6 = .ok (.iconst 0, 1) := dq daX11_tested_263_0 4 rfl
theorem dX11_tested_7 : decode cX11_tested 7 = .ok (.putfield 150, 3) := dq daX11_tested_263_0 5 rfl
theorem dX11_tested_10 : decode cX11_tested 10 = .ok (.iconst 1, 1) := dq daX11_tested_263_0 6 rfl
theorem dX11_tested_11 : decode cX11_tested 11 = .ok (.istore_n 1, 1) := dq daX11_tested_263_0 7 rfl
theorem dX11_tested_12 : decode cX11_tested 12 = .ok (.iload_n 1, 1) := dq daX11_tested_263_0 8 rfl
theorem dX11_tested_13 : decode cX11_tested 13 = .ok (.ifCond .eq 99, 3) := dq daX11_tested_263_0 9 rfl
theorem dX11_tested_16 : decode cX11_tested 16 = .ok (.aload_n 0, 1) := dq daX11_tested_263_0 10 rfl
theorem dX11_tested_17 : decode cX11_tested 17 = .ok (.invokevirtual 198, 3) := dq daX11_tested_263_0 11 rfl
theorem dX11_tested_20 : decode cX11_tested 20 = .ok (.ifCond .ne 5, 3) := dq daX11_tested_263_0 12 rfl
theorem dX11_tested_25 : decode cX11_tested 25 = .ok (.aload_n 0, 1) := dq daX11_tested_263_0 13 rfl
theorem dX11_tested_26 : decode cX11_tested 26 = .ok (.invokevirtual 201, 3) := dq daX11_tested_263_0 14 rfl
theorem dX11_tested_29 : decode cX11_tested 29 = .ok (.aload_n 0, 1) := dq daX11_tested_263_0 15 rfl
theorem dX11_tested_30 : decode cX11_tested 30 = .ok (.ldc2_w 204, 3) := dq daX11_tested_263_0 16 rfl
theorem dX11_tested_33 : decode cX11_tested 33 = .ok (.invokevirtual 101, 3) := dq daX11_tested_263_0 17 rfl
theorem dX11_tested_36 : decode cX11_tested 36 = .ok (.ifCond .ne 13, 3) := dq daX11_tested_263_0 18 rfl
theorem dX11_tested_49 : decode cX11_tested 49 = .ok (.iconst 1, 1) := dq daX11_tested_263_0 19 rfl
theorem dX11_tested_50 : decode cX11_tested 50 = .ok (.goto 4, 3) := dq daX11_tested_263_0 20 rfl
theorem dX11_tested_54 : decode cX11_tested 54 = .ok (.istore_n 1, 1) := dq daX11_tested_263_0 21 rfl
theorem dX11_tested_55 : decode cX11_tested 55 = .ok (.iload_n 1, 1) := dq daX11_tested_263_0 22 rfl
theorem dX11_tested_56 : decode cX11_tested 56 = .ok (.ifCond .eq (-44), 3) := dq daX11_tested_263_0 23 rfl
theorem dX11_tested_59 : decode cX11_tested 59 = .ok (.aload_n 0, 1) := dq daX11_tested_263_0 24 rfl
theorem dX11_tested_60 : decode cX11_tested 60 = .ok (.ldc2_w 204, 3) := dq daX11_tested_263_0 25 rfl
theorem dX11_tested_63 : decode cX11_tested 63 = .ok (.invokevirtual 101, 3) := dq daX11_tested_263_0 26 rfl
theorem dX11_tested_66 : decode cX11_tested 66 = .ok (.ifCond .eq 8, 3) := dq daX11_tested_263_0 27 rfl
theorem dX11_tested_74 : decode cX11_tested 74 = .ok (.bipush 13, 2) := dq daX11_tested_263_0 28 rfl
theorem dX11_tested_76 : decode cX11_tested 76 = .ok (.istore_n 2, 1) := dq daX11_tested_263_0 29 rfl
theorem dX11_tested_77 : decode cX11_tested 77 = .ok (.aload_n 0, 1) := dq daX11_tested_263_0 30 rfl
theorem dX11_tested_78 : decode cX11_tested 78 = .ok (.invokevirtual 105, 3) := dq daX11_tested_263_0 31 rfl
def dtX11_tested_263_1 : List (Nat × Jvm.ClassFile.Instr × Nat) := [(81, .aload_n 0, 1), (82, .iload_n 2, 1), (83, .invokestatic 156, 3), (86, .invokevirtual 192, 3), (89, .aload_n 0, 1), (90, .getfield 29, 3), (93, .aload_n 0, 1), (94, .getfield 153, 3), (97, .iload_n 2, 1), (98, .iastore, 1), (99, .aload_n 0, 1), (100, .dup, 1), (101, .getfield 153, 3), (104, .iconst 1, 1), (105, .iadd, 1), (106, .putfield 153, 3), (109, .goto (-97), 3), (69, .bipush 12, 2), (71, .goto 5, 3), (39, .aload_n 0, 1), (40, .ldc2_w 206, 3), (43, .invokevirtual 101, 3), (46, .ifCond .eq 7, 3), (53, .iconst 0, 1), (23, .iconst 0, 1), (24, .ireturn, 1), (112, .aload_n 0, 1), (113, .invokevirtual 195, 3), (116, .ifCond .eq 18, 3), (134, .aload_n 0, 1), (135, .iconst 1, 1), (136, .invokevirtual 192, 3)]
theorem daX11_tested_263_1 : dtX11_tested_263_1.all (dqd cX11_tested) = true := by decide +kernel
theorem dX11_tested_81 : decode cX11_tested 81 = .ok (.aload_n 0, 1) := dq daX11_tested_263_1 0 rfl
theorem dX11_tested_82 : decode cX11_tested 82 = .ok (.iload_n 2, 1) := dq daX11_tested_263_1 1 rfl
theorem dX11_tested_83 : decode cX11_tested 83 = .ok (.invokestatic 156, 3) := dq daX11_tested_263_1 2 rfl
theorem dX11_tested_86 : decode cX11_tested 86 = .ok (.invokevirtual 192, 3) := dq daX11_tested_263_1 3 rfl
theorem dX11_tested_89 : decode cX11_tested 89 = .ok (.aload_n 0, 1) := dq daX11_tested_263_1 4 rfl
theorem dX11_tested_90 : decode cX11_tested 90 = .ok (.getfield 29, 3) := dq daX11_tested_263_1 5 rfl
theorem dX11_tested_93 : decode cX11_tested 93 = .ok (.aload_n 0, 1) := dq daX11_tested_263_1 6 rfl
theorem dX11_tested_94 : decode cX11_tested 94 = .ok (.getfield 153, 3) := dq daX11_tested_263_1 7 rfl
theorem dX11_tested_97 : decode cX11_tested 97 = .ok (.iload_n 2, 1) := dq daX11_tested_263_1 8 rfl
theorem dX11_tested_98 : decode cX11_tested 98 = .ok (.iastore, 1) := dq daX11_tested_263_1 9 rfl
theorem dX11_tested_99 : decode cX11_tested 99 = .ok (.aload_n 0, 1) := dq daX11_tested_263_1 10 rfl
theorem dX11_tested_100 : decode cX11_tested 100 = .ok (.dup, 1) := dq daX11_tested_263_1 11 rfl
theorem dX11_tested_101 : decode cX11_tested 101 = .ok (.getfield 153, 3) := dq daX11_tested_263_1 12 rfl
theorem dX11_tested_104 : decode cX11_tested 104 = .ok (.iconst 1, 1) := dq daX11_tested_263_1 13 rfl
theorem dX11_tested_105 : decode cX11_tested 105 = .ok (.iadd, 1) := dq daX11_tested_263_1 14 rfl
theorem dX11_tested_106 : decode cX11_tested 106 = .ok (.putfield 153, 3) := dq daX11_tested_263_1 15 rfl
theorem dX11_tested_109 : decode cX11_tested 109 = .ok (.goto (-97), 3) := dq daX11_tested_263_1 16 rfl
theorem dX11_tested_69 : decode cX11_tested 69 = .ok (.bipush 12, 2) := dq daX11_tested_263_1 17 rfl
theorem dX11_tested_71 : decode cX11_tested 71 = .ok (.goto 5, 3) := dq daX11_tested_263_1 18 rfl
theorem dX11_tested_39 : decode cX11_tested 39 = .ok (.aload_n 0, 1) := dq daX11_tested_263_1 19 rfl
theorem dX11_tested_40 : decode cX11_tested 40 = .ok (.ldc2_w 206, 3) := dq daX11_tested_263_1 20 rfl
theorem dX11_tested_43 : decode cX11_tested 43 = .ok (.invokevirtual 101, 3) := dq daX11_tested_263_1 21 rfl
theorem dX11_tested_46 : decode cX11_tested 46 = .ok (.ifCond .eq 7, 3) := dq daX11_tested_263_1 22 rfl
theorem dX11_tested_53 : decode cX11_tested 53 = .ok (.iconst 0, 1) := dq daX11_tested_263_1 23 rfl
theorem dX11_tested_23 : decode cX11_tested 23 = .ok (.iconst 0, 1) := dq daX11_tested_263_1 24 rfl
theorem dX11_tested_24 : decode cX11_tested 24 = .ok (.ireturn, 1) := dq daX11_tested_263_1 25 rfl
theorem dX11_tested_112 : decode cX11_tested 112 = .ok (.aload_n 0, 1) := dq daX11_tested_263_1 26 rfl
theorem dX11_tested_113 : decode cX11_tested 113 = .ok (.invokevirtual 195, 3) := dq daX11_tested_263_1 27 rfl
theorem dX11_tested_116 : decode cX11_tested 116 = .ok (.ifCond .eq 18, 3) := dq daX11_tested_263_1 28 rfl
theorem dX11_tested_134 : decode cX11_tested 134 = .ok (.aload_n 0, 1) := dq daX11_tested_263_1 29 rfl
theorem dX11_tested_135 : decode cX11_tested 135 = .ok (.iconst 1, 1) := dq daX11_tested_263_1 30 rfl
theorem dX11_tested_136 : decode cX11_tested 136 = .ok (.invokevirtual 192, 3) := dq daX11_tested_263_1 31 rfl
def dtX11_tested_263_2 : List (Nat × Jvm.ClassFile.Instr × Nat) := [(139, .iconst 1, 1), (140, .ireturn, 1), (119, .aload_n 0, 1), (120, .invokevirtual 93, 3), (123, .pop, 1), (124, .aload_n 0, 1), (125, .iconst 0, 1), (126, .aload_n 0, 1), (127, .getfield 90, 3), (130, .invokevirtual 111, 3), (133, .ireturn, 1)]
theorem daX11_tested_263_2 : dtX11_tested_263_2.all (dqd cX11_tested) = true := by decide +kernel
theorem dX11_tested_139 : decode cX11_tested 139 = .ok (.iconst 1, 1) := dq daX11_tested_263_2 0 rfl
theorem dX11_tested_140 : decode cX11_tested 140 = .ok (.ireturn, 1) := dq daX11_tested_263_2 1 rfl
theorem dX11_tested_119 : decode cX11_tested 119 = .ok (.aload_n 0, 1) := dq daX11_tested_263_2 2 rfl
theorem dX11_tested_120 : decode cX11_tested 120 = .ok (.invokevirtual 93, 3) := dq daX11_tested_263_2 3 rfl
theorem dX11_tested_123 : decode cX11_tested 123 = .ok (.pop, 1) := dq daX11_tested_263_2 4 rfl
theorem dX11_tested_124 : decode cX11_tested 124 = .ok (.aload_n 0, 1) := dq daX11_tested_263_2 5 rfl
theorem dX11_tested_125 : decode cX11_tested 125 = .ok (.iconst 0, 1) := dq daX11_tested_263_2 6 rfl
theorem dX11_tested_126 : decode cX11_tested 126 = .ok (.aload_n 0, 1) := dq daX11_tested_263_2 7 rfl
theorem dX11_tested_127 : decode cX11_tested 127 = .ok (.getfield 90, 3) := dq daX11_tested_263_2 8 rfl
theorem dX11_tested_130 : decode cX11_tested 130 = .ok (.invokevirtual 111, 3) := dq daX11_tested_263_2 9 rfl
theorem dX11_tested_133 : decode cX11_tested 133 = .ok (.ireturn, 1) := dq daX11_tested_263_2 10 rfl
