theorem kX11_numberHere_1 {a : Array Value} {s : State} (hts : ∀ w ∈ wsX11_numberHere, w.before a s = true) : (.fieldLink RX11 90 "SnowMulesModel" "next" "I" : Cond).before a s = true := kw (A := ixX11_numberHere) wt461 hts (by decide +kernel)
theorem kX11_numberHere_2 {a : Array Value} {s : State} (hts : ∀ w ∈ wsX11_numberHere, w.before a s = true) : (.fieldLink RX11 7 "SnowMulesModel" "tape" "[B" : Cond).before a s = true := kw (A := ixX11_numberHere) wt143 hts (by decide +kernel)
theorem kX11_numberHere_3 {a : Array Value} {s : State} (hts : ∀ w ∈ wsX11_numberHere, w.before a s = true) : (.fieldLink RX11 115 "SnowMulesModel" "number" "I" : Cond).before a s = true := kw (A := ixX11_numberHere) wt473 hts (by decide +kernel)
theorem iX11_numberHere_X11 : ∀ w ∈ wsX110, w ∈ wsX11_numberHere := inW (A := ixX11_numberHere) uwX11 (by decide +kernel)
theorem hdX11_isDigit : yX11_isDigit.cls ≠ "java/lang/invoke/MethodHandle" ∧ yX11_isDigit.cls ≠ "java/lang/invoke/VarHandle" ∧ (parseMethodDescriptor yX11_isDigit.desc).map (fun d => d.parameters.length) = some 1 := ⟨hdc_0.1, hdc_0.2, hdd_1⟩
theorem hdX11_fails : yX11_fails.cls ≠ "java/lang/invoke/MethodHandle" ∧ yX11_fails.cls ≠ "java/lang/invoke/VarHandle" ∧ (parseMethodDescriptor yX11_fails.desc).map (fun d => d.parameters.length) = some 2 := ⟨hdc_0.1, hdc_0.2, hdd_4⟩
def dtX11_numberHere_243_0 : List (Nat × Jvm.ClassFile.Instr × Nat) := [(0, .aload_n 0, 1), (1, .invokevirtual 93, 3), (4, .pop, 1), (5, .aload_n 0, 1), (6, .aload_n 0, 1), (7, .getfield 90, 3), (10, .invokevirtual 108, 3), (13, .ifCond .ne 13, 3), (26, .aload_n 0, 1), (27, .getfield 90, 3), (30, .istore_n 3, 1), (31, .iconst 0, 1), (32, .istore 4, 2), (34, .aload_n 0, 1), (35, .aload_n 0, 1), (36, .getfield 90, 3), (39, .invokevirtual 108, 3), (42, .ifCond .eq 46, 3), (45, .aload_n 0, 1), (46, .getfield 90, 3), (49, .iload_n 3, 1), (50, .isub, 1), (51, .iconst 5, 1), (52, .if_icmp .ge 23, 3), (75, .aload_n 0, 1), (76, .dup, 1), (77, .getfield 90, 3), (80, .iconst 1, 1), (81, .iadd, 1), (82, .putfield 90, 3), (85, .goto (-51), 3), (55, .bipush 10, 2)]
theorem daX11_numberHere_243_0 : dtX11_numberHere_243_0.all (dqd cX11_numberHere) = true := by decide +kernel
theorem dX11_numberHere_0 : decode cX11_numberHere 0 = .ok (.aload_n 0, 1) := dq daX11_numberHere_243_0 0 rfl
theorem dX11_numberHere_1 : decode cX11_numberHere 1 = .ok (.invokevirtual 93, 3) := dq daX11_numberHere_243_0 1 rfl
theorem dX11_numberHere_4 : decode cX11_numberHere 4 = .ok (.pop, 1) := dq daX11_numberHere_243_0 2 rfl
theorem dX11_numberHere_5 : decode cX11_numberHere 5 = .ok (.aload_n 0, 1) := dq daX11_numberHere_243_0 3 rfl
theorem dX11_numberHere_6 : decode cX11_numberHere 6 = .ok (.aload_n 0, 1) := dq daX11_numberHere_243_0 4 rfl
theorem dX11_numberHere_7 : decode cX11_numberHere 7 = .ok (.getfield 90, 3) := dq daX11_numberHere_243_0 5 rfl
theorem dX11_numberHere_10 : decode cX11_numberHere 10 = .ok (.invokevirtual 108, 3) := dq daX11_numberHere_243_0 6 rfl
theorem dX11_numberHere_13 : decode cX11_numberHere 13 = .ok (.ifCond .ne 13, 3) := dq daX11_numberHere_243_0 7 rfl
theorem dX11_numberHere_26 : decode cX11_numberHere 26 = .ok (.aload_n 0, 1) := dq daX11_numberHere_243_0 8 rfl
theorem dX11_numberHere_27 : decode cX11_numberHere 27 = .ok (.getfield 90, 3) := dq daX11_numberHere_243_0 9 rfl
theorem dX11_numberHere_30 : decode cX11_numberHere 30 = .ok (.istore_n 3, 1) := dq daX11_numberHere_243_0 10 rfl
theorem dX11_numberHere_31 : decode cX11_numberHere 31 = .ok (.iconst 0, 1) := dq daX11_numberHere_243_0 11 rfl
theorem dX11_numberHere_32 : decode cX11_numberHere 32 = .ok (.istore 4, 2) := dq daX11_numberHere_243_0 12 rfl
theorem dX11_numberHere_34 : decode cX11_numberHere 34 = .ok (.aload_n 0, 1) := dq daX11_numberHere_243_0 13 rfl
theorem dX11_numberHere_35 : decode cX11_numberHere 35 = .ok (.aload_n 0, 1) := dq daX11_numberHere_243_0 14 rfl
theorem dX11_numberHere_36 : decode cX11_numberHere 36 = .ok (.getfield 90, 3) := dq daX11_numberHere_243_0 15 rfl
theorem dX11_numberHere_39 : decode cX11_numberHere 39 = .ok (.invokevirtual 108, 3) := dq daX11_numberHere_243_0 16 rfl
theorem dX11_numberHere_42 : decode cX11_numberHere 42 = .ok (.ifCond .eq 46, 3) := dq daX11_numberHere_243_0 17 rfl
theorem dX11_numberHere_45 : decode cX11_numberHere 45 = .ok (.aload_n 0, 1) := dq daX11_numberHere_243_0 18 rfl
theorem dX11_numberHere_46 : decode cX11_numberHere 46 = .ok (.getfield 90, 3) := dq daX11_numberHere_243_0 19 rfl
theorem dX11_numberHere_49 : decode cX11_numberHere 49 = .ok (.iload_n 3, 1) := dq daX11_numberHere_243_0 20 rfl
theorem dX11_numberHere_50 : decode cX11_numberHere 50 = .ok (.isub, 1) := dq daX11_numberHere_243_0 21 rfl
theorem dX11_numberHere_51 : decode cX11_numberHere 51 = .ok (.iconst 5, 1) := dq daX11_numberHere_243_0 22 rfl
theorem dX11_numberHere_52 : decode cX11_numberHere 52 = .ok (.if_icmp .ge 23, 3) := dq daX11_numberHere_243_0 23 rfl
theorem dX11_numberHere_75 : decode cX11_numberHere 75 = .ok (.aload_n 0, 1) := dq daX11_numberHere_243_0 24 rfl
theorem dX11_numberHere_76 : decode cX11_numberHere 76 = .ok (.dup, 1) := dq daX11_numberHere_243_0 25 rfl
theorem dX11_numberHere_77 : decode cX11_numberHere 77 = .ok (.getfield 90, 3) := dq daX11_numberHere_243_0 26 rfl
theorem dX11_numberHere_80 : decode cX11_numberHere 80 = .ok (.iconst 1, 1) := dq daX11_numberHere_243_0 27 rfl
theorem dX11_numberHere_81 : decode cX11_numberHere 81 = .ok (.iadd, 1) := dq daX11_numberHere_243_0 28 rfl
theorem dX11_numberHere_82 : decode cX11_numberHere 82 = .ok (.putfield 90, 3) := dq daX11_numberHere_243_0 29 rfl
theorem dX11_numberHere_85 : decode cX11_numberHere 85 = .ok (.goto (-51), 3) := dq daX11_numberHere_243_0 30 rfl
theorem dX11_numberHere_55 : decode cX11_numberHere 55 = .ok (.bipush 10, 2) := dq daX11_numberHere_243_0 31 rfl
def dtX11_numberHere_243_1 : List (Nat × Jvm.ClassFile.Instr × Nat) := [(57, .iload 4, 2), (59, .imul, 1), (60, .aload_n 0, 1), (61, .getfield 7, 3), (64, .aload_n 0, 1), (65, .getfield 90, 3), (68, .baload, 1), (69, .iadd, 1), (70, .bipush 48, 2), (72, .isub, 1), (73, .istore 4, 2), (16, .aload_n 0, 1), (17, .iconst 0, 1), (18, .aload_n 0, 1), (19, .getfield 90, 3), (22, .invokevirtual 111, 3), (88, .aload_n 0, 1), (89, .iload 4, 2), (91, .putfield 115, 3), (94, .aload_n 0, 1), (95, .getfield 90, 3), (98, .iload_n 3, 1), (99, .isub, 1), (100, .iconst 5, 1), (101, .if_icmp .gt 16, 3), (117, .aload_n 0, 1), (118, .iconst 1, 1), (119, .iload_n 3, 1), (120, .invokevirtual 111, 3), (123, .ifCond .eq 7, 3), (130, .iconst 0, 1), (104, .iload 4, 2)]
theorem daX11_numberHere_243_1 : dtX11_numberHere_243_1.all (dqd cX11_numberHere) = true := by decide +kernel
theorem dX11_numberHere_57 : decode cX11_numberHere 57 = .ok (.iload 4, 2) := dq daX11_numberHere_243_1 0 rfl
theorem dX11_numberHere_59 : decode cX11_numberHere 59 = .ok (.imul, 1) := dq daX11_numberHere_243_1 1 rfl
theorem dX11_numberHere_60 : decode cX11_numberHere 60 = .ok (.aload_n 0, 1) := dq daX11_numberHere_243_1 2 rfl
theorem dX11_numberHere_61 : decode cX11_numberHere 61 = .ok (.getfield 7, 3) := dq daX11_numberHere_243_1 3 rfl
theorem dX11_numberHere_64 : decode cX11_numberHere 64 = .ok (.aload_n 0, 1) := dq daX11_numberHere_243_1 4 rfl
theorem dX11_numberHere_65 : decode cX11_numberHere 65 = .ok (.getfield 90, 3) := dq daX11_numberHere_243_1 5 rfl
theorem dX11_numberHere_68 : decode cX11_numberHere 68 = .ok (.baload, 1) := dq daX11_numberHere_243_1 6 rfl
theorem dX11_numberHere_69 : decode cX11_numberHere 69 = .ok (.iadd, 1) := dq daX11_numberHere_243_1 7 rfl
theorem dX11_numberHere_70 : decode cX11_numberHere 70 = .ok (.bipush 48, 2) := dq daX11_numberHere_243_1 8 rfl
theorem dX11_numberHere_72 : decode cX11_numberHere 72 = .ok (.isub, 1) := dq daX11_numberHere_243_1 9 rfl
theorem dX11_numberHere_73 : decode cX11_numberHere 73 = .ok (.istore 4, 2) := dq daX11_numberHere_243_1 10 rfl
theorem dX11_numberHere_16 : decode cX11_numberHere 16 = .ok (.aload_n 0, 1) := dq daX11_numberHere_243_1 11 rfl
theorem dX11_numberHere_17 : decode cX11_numberHere 17 = .ok (.iconst 0, 1) := dq daX11_numberHere_243_1 12 rfl
theorem dX11_numberHere_18 : decode cX11_numberHere 18 = .ok (.aload_n 0, 1) := dq daX11_numberHere_243_1 13 rfl
theorem dX11_numberHere_19 : decode cX11_numberHere 19 = .ok (.getfield 90, 3) := dq daX11_numberHere_243_1 14 rfl
theorem dX11_numberHere_22 : decode cX11_numberHere 22 = .ok (.invokevirtual 111, 3) := dq daX11_numberHere_243_1 15 rfl
theorem dX11_numberHere_88 : decode cX11_numberHere 88 = .ok (.aload_n 0, 1) := dq daX11_numberHere_243_1 16 rfl
theorem dX11_numberHere_89 : decode cX11_numberHere 89 = .ok (.iload 4, 2) := dq daX11_numberHere_243_1 17 rfl
theorem dX11_numberHere_91 : decode cX11_numberHere 91 = .ok (.putfield 115, 3) := dq daX11_numberHere_243_1 18 rfl
theorem dX11_numberHere_94 : decode cX11_numberHere 94 = .ok (.aload_n 0, 1) := dq daX11_numberHere_243_1 19 rfl
theorem dX11_numberHere_95 : decode cX11_numberHere 95 = .ok (.getfield 90, 3) := dq daX11_numberHere_243_1 20 rfl
theorem dX11_numberHere_98 : decode cX11_numberHere 98 = .ok (.iload_n 3, 1) := dq daX11_numberHere_243_1 21 rfl
theorem dX11_numberHere_99 : decode cX11_numberHere 99 = .ok (.isub, 1) := dq daX11_numberHere_243_1 22 rfl
theorem dX11_numberHere_100 : decode cX11_numberHere 100 = .ok (.iconst 5, 1) := dq daX11_numberHere_243_1 23 rfl
theorem dX11_numberHere_101 : decode cX11_numberHere 101 = .ok (.if_icmp .gt 16, 3) := dq daX11_numberHere_243_1 24 rfl
theorem dX11_numberHere_117 : decode cX11_numberHere 117 = .ok (.aload_n 0, 1) := dq daX11_numberHere_243_1 25 rfl
theorem dX11_numberHere_118 : decode cX11_numberHere 118 = .ok (.iconst 1, 1) := dq daX11_numberHere_243_1 26 rfl
theorem dX11_numberHere_119 : decode cX11_numberHere 119 = .ok (.iload_n 3, 1) := dq daX11_numberHere_243_1 27 rfl
theorem dX11_numberHere_120 : decode cX11_numberHere 120 = .ok (.invokevirtual 111, 3) := dq daX11_numberHere_243_1 28 rfl
theorem dX11_numberHere_123 : decode cX11_numberHere 123 = .ok (.ifCond .eq 7, 3) := dq daX11_numberHere_243_1 29 rfl
theorem dX11_numberHere_130 : decode cX11_numberHere 130 = .ok (.iconst 0, 1) := dq daX11_numberHere_243_1 30 rfl
theorem dX11_numberHere_104 : decode cX11_numberHere 104 = .ok (.iload 4, 2) := dq daX11_numberHere_243_1 31 rfl
def dtX11_numberHere_243_2 : List (Nat × Jvm.ClassFile.Instr × Nat) := [(106, .i2l, 1), (107, .iload_n 1, 1), (108, .i2l, 1), (109, .iload_n 2, 1), (110, .i2l, 1), (111, .invokestatic 118, 3), (114, .ifCond .ne 12, 3), (126, .iconst 1, 1), (127, .goto 4, 3), (25, .ireturn, 1), (131, .ireturn, 1)]
theorem daX11_numberHere_243_2 : dtX11_numberHere_243_2.all (dqd cX11_numberHere) = true := by decide +kernel
theorem dX11_numberHere_106 : decode cX11_numberHere 106 = .ok (.i2l, 1) := dq daX11_numberHere_243_2 0 rfl
theorem dX11_numberHere_107 : decode cX11_numberHere 107 = .ok (.iload_n 1, 1) := dq daX11_numberHere_243_2 1 rfl
theorem dX11_numberHere_108 : decode cX11_numberHere 108 = .ok (.i2l, 1) := dq daX11_numberHere_243_2 2 rfl
theorem dX11_numberHere_109 : decode cX11_numberHere 109 = .ok (.iload_n 2, 1) := dq daX11_numberHere_243_2 3 rfl
theorem dX11_numberHere_110 : decode cX11_numberHere 110 = .ok (.i2l, 1) := dq daX11_numberHere_243_2 4 rfl
theorem dX11_numberHere_111 : decode cX11_numberHere 111 = .ok (.invokestatic 118, 3) := dq daX11_numberHere_243_2 5 rfl
theorem dX11_numberHere_114 : decode cX11_numberHere 114 = .ok (.ifCond .ne 12, 3) := dq daX11_numberHere_243_2 6 rfl
theorem dX11_numberHere_126 : decode cX11_numberHere 126 = .ok (.iconst 1, 1) := dq daX11_numberHere_243_2 7 rfl
theorem dX11_numberHere_127 : decode cX11_numberHere 127 = .ok (.goto 4, 3) := dq daX11_numberHere_243_2 8 rfl
theorem dX11_numberHere_25 : decode cX11_numberHere 25 = .ok (.ireturn, 1) := dq daX11_numberHere_243_2 9 rfl
theorem dX11_numberHere_131 : decode cX11_numberHere 131 = .ok (.ireturn, 1) := dq daX11_numberHere_243_2 10 rfl
