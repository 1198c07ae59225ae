theorem kX11_value_1 {a : Array Value} {s : State} (hts : ∀ w ∈ wsX11_value, w.before a s = true) : (.fieldLink RX11 90 "SnowMulesModel" "next" "I" : Cond).before a s = true := kw (A := ixX11_value) wt461 hts (by decide +kernel)
theorem kX11_value_2 {a : Array Value} {s : State} (hts : ∀ w ∈ wsX11_value, w.before a s = true) : (.constant RX11 164 (99999) : Cond).before a s = true := kw (A := ixX11_value) wt511 hts (by decide +kernel)
theorem kX11_value_3 {a : Array Value} {s : State} (hts : ∀ w ∈ wsX11_value, w.before a s = true) : (.fieldLink RX11 115 "SnowMulesModel" "number" "I" : Cond).before a s = true := kw (A := ixX11_value) wt473 hts (by decide +kernel)
theorem iX11_value_X11 : ∀ w ∈ wsX110, w ∈ wsX11_value := inW (A := ixX11_value) uwX11 (by decide +kernel)
theorem hdX11_wordHere : yX11_wordHere.cls ≠ "java/lang/invoke/MethodHandle" ∧ yX11_wordHere.cls ≠ "java/lang/invoke/VarHandle" ∧ (parseMethodDescriptor yX11_wordHere.desc).map (fun d => d.parameters.length) = some 0 := ⟨hdc_0.1, hdc_0.2, hdd_6⟩
theorem hdX11_makes : yX11_makes.cls ≠ "java/lang/invoke/MethodHandle" ∧ yX11_makes.cls ≠ "java/lang/invoke/VarHandle" ∧ (parseMethodDescriptor yX11_makes.desc).map (fun d => d.parameters.length) = some 1 := ⟨hdc_0.1, hdc_0.2, hdd_1⟩
theorem hdX11_puts : yX11_puts.cls ≠ "java/lang/invoke/MethodHandle" ∧ yX11_puts.cls ≠ "java/lang/invoke/VarHandle" ∧ (parseMethodDescriptor yX11_puts.desc).map (fun d => d.parameters.length) = some 2 := ⟨hdc_0.1, hdc_0.2, hdd_18⟩
theorem hdX11_numberHere : yX11_numberHere.cls ≠ "java/lang/invoke/MethodHandle" ∧ yX11_numberHere.cls ≠ "java/lang/invoke/VarHandle" ∧ (parseMethodDescriptor yX11_numberHere.desc).map (fun d => d.parameters.length) = some 2 := ⟨hdc_0.1, hdc_0.2, hdd_4⟩
def dtX11_value_25_0 : List (Nat × Jvm.ClassFile.Instr × Nat) := [(0, .aload_n 0, 1), (1, .invokevirtual 93, 3), (4, .pop, 1), (5, .aload_n 0, 1), (6, .getfield 90, 3), (9, .istore_n 1, 1), (10, .aload_n 0, 1), (11, .aload_n 0, 1), (12, .getfield 90, 3), (15, .invokevirtual 108, 3), (18, .ifCond .eq 34, 3), (52, .aload_n 0, 1), (53, .invokevirtual 171, 3), (56, .istore_n 2, 1), (57, .iload_n 2, 1), (58, .ifCond .ge 10, 3), (68, .aload_n 0, 1), (69, .iload_n 1, 1), (70, .invokevirtual 168, 3), (73, .ifCond .ne 5, 3), (78, .aload_n 0, 1), (79, .invokevirtual 105, 3), (82, .aload_n 0, 1), (83, .iconst 1, 1), (84, .iload_n 2, 1), (85, .invokevirtual 160, 3), (88, .iconst 1, 1), (76, .iconst 0, 1), (61, .aload_n 0, 1), (62, .iconst 0, 1), (63, .iload_n 1, 1), (64, .invokevirtual 111, 3)]
theorem daX11_value_25_0 : dtX11_value_25_0.all (dqd cX11_value) = true := by decide +kernel
theorem dX11_value_0 : decode cX11_value 0 = .ok (.aload_n 0, 1) := dq daX11_value_25_0 0 rfl
theorem dX11_value_1 : decode cX11_value 1 = .ok (.invokevirtual 93, 3) := dq daX11_value_25_0 1 rfl
theorem dX11_value_4 : decode cX11_value 4 = .ok (.pop, 1) := dq daX11_value_25_0 2 rfl
theorem dX11_value_5 : decode cX11_value 5 = .ok (.aload_n 0, 1) := dq daX11_value_25_0 3 rfl
theorem dX11_value_6 : decode cX11_value 6 = .ok (.getfield 90, 3) := dq daX11_value_25_0 4 rfl
theorem dX11_value_9 : decode cX11_value 9 = .ok (.istore_n 1, 1) := dq daX11_value_25_0 5 rfl
theorem dX11_value_10 : decode cX11_value 10 = .ok (.aload_n 0, 1) := dq daX11_value_25_0 6 rfl
theorem dX11_value_11 : decode cX11_value 11 = .ok (.aload_n 0, 1) := dq daX11_value_25_0 7 rfl
theorem dX11_value_12 : decode cX11_value 12 = .ok (.getfield 90, 3) := dq daX11_value_25_0 8 rfl
theorem dX11_value_15 : decode cX11_value 15 = .ok (.invokevirtual 108, 3) := dq daX11_value_25_0 9 rfl
theorem dX11_value_18 : decode cX11_value 18 = .ok (.ifCond .eq 34, 3) := dq daX11_value_25_0 10 rfl
theorem dX11_value_52 : decode cX11_value 52 = .ok (.aload_n 0, 1) := dq daX11_value_25_0 11 rfl
theorem dX11_value_53 : decode cX11_value 53 = .ok (.invokevirtual 171, 3) := dq daX11_value_25_0 12 rfl
theorem dX11_value_56 : decode cX11_value 56 = .ok (.istore_n 2, 1) := dq daX11_value_25_0 13 rfl
theorem dX11_value_57 : decode cX11_value 57 = .ok (.iload_n 2, 1) := dq daX11_value_25_0 14 rfl
theorem dX11_value_58 : decode cX11_value 58 = .ok (.ifCond .ge 10, 3) := dq daX11_value_25_0 15 rfl
theorem dX11_value_68 : decode cX11_value 68 = .ok (.aload_n 0, 1) := dq daX11_value_25_0 16 rfl
theorem dX11_value_69 : decode cX11_value 69 = .ok (.iload_n 1, 1) := dq daX11_value_25_0 17 rfl
theorem dX11_value_70 : decode cX11_value 70 = .ok (.invokevirtual 168, 3) := dq daX11_value_25_0 18 rfl
theorem dX11_value_73 : decode cX11_value 73 = .ok (.ifCond .ne 5, 3) := dq daX11_value_25_0 19 rfl
theorem dX11_value_78 : decode cX11_value 78 = .ok (.aload_n 0, 1) := dq daX11_value_25_0 20 rfl
theorem dX11_value_79 : decode cX11_value 79 = .ok (.invokevirtual 105, 3) := dq daX11_value_25_0 21 rfl
theorem dX11_value_82 : decode cX11_value 82 = .ok (.aload_n 0, 1) := dq daX11_value_25_0 22 rfl
theorem dX11_value_83 : decode cX11_value 83 = .ok (.iconst 1, 1) := dq daX11_value_25_0 23 rfl
theorem dX11_value_84 : decode cX11_value 84 = .ok (.iload_n 2, 1) := dq daX11_value_25_0 24 rfl
theorem dX11_value_85 : decode cX11_value 85 = .ok (.invokevirtual 160, 3) := dq daX11_value_25_0 25 rfl
theorem dX11_value_88 : decode cX11_value 88 = .ok (.iconst 1, 1) := dq daX11_value_25_0 26 rfl
theorem dX11_value_76 : decode cX11_value 76 = .ok (.iconst 0, 1) := dq daX11_value_25_0 27 rfl
theorem dX11_value_61 : decode cX11_value 61 = .ok (.aload_n 0, 1) := dq daX11_value_25_0 28 rfl
theorem dX11_value_62 : decode cX11_value 62 = .ok (.iconst 0, 1) := dq daX11_value_25_0 29 rfl
theorem dX11_value_63 : decode cX11_value 63 = .ok (.iload_n 1, 1) := dq daX11_value_25_0 30 rfl
theorem dX11_value_64 : decode cX11_value 64 = .ok (.invokevirtual 111, 3) := dq daX11_value_25_0 31 rfl
def dtX11_value_25_1 : List (Nat × Jvm.ClassFile.Instr × Nat) := [(21, .aload_n 0, 1), (22, .iconst 0, 1), (23, .ldc 164, 2), (25, .invokevirtual 165, 3), (28, .ifCond .eq 11, 3), (39, .iconst 0, 1), (31, .aload_n 0, 1), (32, .iload_n 1, 1), (33, .invokevirtual 168, 3), (36, .ifCond .ne 5, 3), (41, .aload_n 0, 1), (42, .iconst 0, 1), (43, .aload_n 0, 1), (44, .getfield 115, 3), (47, .invokevirtual 160, 3), (50, .iconst 1, 1), (89, .ireturn, 1), (77, .ireturn, 1), (67, .ireturn, 1), (40, .ireturn, 1), (51, .ireturn, 1)]
theorem daX11_value_25_1 : dtX11_value_25_1.all (dqd cX11_value) = true := by decide +kernel
theorem dX11_value_21 : decode cX11_value 21 = .ok (.aload_n 0, 1) := dq daX11_value_25_1 0 rfl
theorem dX11_value_22 : decode cX11_value 22 = .ok (.iconst 0, 1) := dq daX11_value_25_1 1 rfl
theorem dX11_value_23 : decode cX11_value 23 = .ok (.ldc 164, 2) := dq daX11_value_25_1 2 rfl
theorem dX11_value_25 : decode cX11_value 25 = .ok (.invokevirtual 165, 3) := dq daX11_value_25_1 3 rfl
theorem dX11_value_28 : decode cX11_value 28 = .ok (.ifCond .eq 11, 3) := dq daX11_value_25_1 4 rfl
theorem dX11_value_39 : decode cX11_value 39 = .ok (.iconst 0, 1) := dq daX11_value_25_1 5 rfl
theorem dX11_value_31 : decode cX11_value 31 = .ok (.aload_n 0, 1) := dq daX11_value_25_1 6 rfl
theorem dX11_value_32 : decode cX11_value 32 = .ok (.iload_n 1, 1) := dq daX11_value_25_1 7 rfl
theorem dX11_value_33 : decode cX11_value 33 = .ok (.invokevirtual 168, 3) := dq daX11_value_25_1 8 rfl
theorem dX11_value_36 : decode cX11_value 36 = .ok (.ifCond .ne 5, 3) := dq daX11_value_25_1 9 rfl
theorem dX11_value_41 : decode cX11_value 41 = .ok (.aload_n 0, 1) := dq daX11_value_25_1 10 rfl
theorem dX11_value_42 : decode cX11_value 42 = .ok (.iconst 0, 1) := dq daX11_value_25_1 11 rfl
theorem dX11_value_43 : decode cX11_value 43 = .ok (.aload_n 0, 1) := dq daX11_value_25_1 12 rfl
theorem dX11_value_44 : decode cX11_value 44 = .ok (.getfield 115, 3) := dq daX11_value_25_1 13 rfl
theorem dX11_value_47 : decode cX11_value 47 = .ok (.invokevirtual 160, 3) := dq daX11_value_25_1 14 rfl
theorem dX11_value_50 : decode cX11_value 50 = .ok (.iconst 1, 1) := dq daX11_value_25_1 15 rfl
theorem dX11_value_89 : decode cX11_value 89 = .ok (.ireturn, 1) := dq daX11_value_25_1 16 rfl
theorem dX11_value_77 : decode cX11_value 77 = .ok (.ireturn, 1) := dq daX11_value_25_1 17 rfl
theorem dX11_value_67 : decode cX11_value 67 = .ok (.ireturn, 1) := dq daX11_value_25_1 18 rfl
theorem dX11_value_40 : decode cX11_value 40 = .ok (.ireturn, 1) := dq daX11_value_25_1 19 rfl
theorem dX11_value_51 : decode cX11_value 51 = .ok (.ireturn, 1) := dq daX11_value_25_1 20 rfl
