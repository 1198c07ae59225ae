theorem kX11_isWord_1 {a : Array Value} {s : State} (hts : ∀ w ∈ wsX11_isWord, w.before a s = true) : (.fieldLink RX11 90 "SnowMulesModel" "next" "I" : Cond).before a s = true := kw (A := ixX11_isWord) wt461 hts (by decide +kernel)
theorem kX11_isWord_2 {a : Array Value} {s : State} (hts : ∀ w ∈ wsX11_isWord, w.before a s = true) : (.fieldLink RX11 7 "SnowMulesModel" "tape" "[B" : Cond).before a s = true := kw (A := ixX11_isWord) wt143 hts (by decide +kernel)
theorem kX11_passWord_1 {a : Array Value} {s : State} (hts : ∀ w ∈ wsX11_passWord, w.before a s = true) : (.fieldLink RX11 90 "SnowMulesModel" "next" "I" : Cond).before a s = true := kw (A := ixX11_passWord) wt461 hts (by decide +kernel)
theorem iX11_isWord_X11 : ∀ w ∈ wsX110, w ∈ wsX11_isWord := inW (A := ixX11_isWord) uwX11 (by decide +kernel)
theorem iX11_passWord_X11 : ∀ w ∈ wsX110, w ∈ wsX11_passWord := inW (A := ixX11_passWord) uwX11 (by decide +kernel)
theorem hdX11_see : yX11_see.cls ≠ "java/lang/invoke/MethodHandle" ∧ yX11_see.cls ≠ "java/lang/invoke/VarHandle" ∧ (parseMethodDescriptor yX11_see.desc).map (fun d => d.parameters.length) = some 0 := ⟨hdc_0.1, hdc_0.2, hdd_6⟩
theorem hdX11_isLetter : yX11_isLetter.cls ≠ "java/lang/invoke/MethodHandle" ∧ yX11_isLetter.cls ≠ "java/lang/invoke/VarHandle" ∧ (parseMethodDescriptor yX11_isLetter.desc).map (fun d => d.parameters.length) = some 1 := ⟨hdc_0.1, hdc_0.2, hdd_1⟩
theorem hdX11_isWord : yX11_isWord.cls ≠ "java/lang/invoke/MethodHandle" ∧ yX11_isWord.cls ≠ "java/lang/invoke/VarHandle" ∧ (parseMethodDescriptor yX11_isWord.desc).map (fun d => d.parameters.length) = some 1 := ⟨hdc_0.1, hdc_0.2, hdd_23⟩
theorem hdX11_passWord : yX11_passWord.cls ≠ "java/lang/invoke/MethodHandle" ∧ yX11_passWord.cls ≠ "java/lang/invoke/VarHandle" ∧ (parseMethodDescriptor yX11_passWord.desc).map (fun d => d.parameters.length) = some 0 := ⟨hdc_0.1, hdc_0.2, hdd_24⟩
def dtX11_isWord_242_0 : List (Nat × Jvm.ClassFile.Instr × Nat) := [(0, .aload_n 0, 1), (1, .invokevirtual 93, 3), (4, .pop, 1), (5, .lconst 0, 1), (6, .lstore_n 3, 1), (7, .iconst 0, 1), (8, .istore 5, 2), (10, .aload_n 0, 1), (11, .aload_n 0, 1), (12, .getfield 90, 3), (15, .iload 5, 2), (17, .iadd, 1), (18, .invokevirtual 97, 3), (21, .ifCond .eq 35, 3), (24, .iload 5, 2), (26, .bipush 8, 2), (28, .if_icmp .ge 22, 3), (31, .lload_n 3, 1), (32, .bipush 8, 2), (34, .lshl, 1), (35, .aload_n 0, 1), (36, .getfield 7, 3), (39, .aload_n 0, 1), (40, .getfield 90, 3), (43, .iload 5, 2), (45, .iadd, 1), (46, .baload, 1), (47, .i2l, 1), (48, .lor, 1), (49, .lstore_n 3, 1), (50, .iinc 5 1, 3), (53, .goto (-43), 3)]
theorem daX11_isWord_242_0 : dtX11_isWord_242_0.all (dqd cX11_isWord) = true := by decide +kernel
theorem dX11_isWord_0 : decode cX11_isWord 0 = .ok (.aload_n 0, 1) := dq daX11_isWord_242_0 0 rfl
theorem dX11_isWord_1 : decode cX11_isWord 1 = .ok (.invokevirtual 93, 3) := dq daX11_isWord_242_0 1 rfl
theorem dX11_isWord_4 : decode cX11_isWord 4 = .ok (.pop, 1) := dq daX11_isWord_242_0 2 rfl
theorem dX11_isWord_5 : decode cX11_isWord 5 = .ok (.lconst 0, 1) := dq daX11_isWord_242_0 3 rfl
theorem dX11_isWord_6 : decode cX11_isWord 6 = .ok (.lstore_n 3, 1) := dq daX11_isWord_242_0 4 rfl
theorem dX11_isWord_7 : decode cX11_isWord 7 = .ok (.iconst 0, 1) := dq daX11_isWord_242_0 5 rfl
theorem dX11_isWord_8 : decode cX11_isWord 8 = .ok (.istore 5, 2) := dq daX11_isWord_242_0 6 rfl
theorem dX11_isWord_10 : decode cX11_isWord 10 = .ok (.aload_n 0, 1) := dq daX11_isWord_242_0 7 rfl
theorem dX11_isWord_11 : decode cX11_isWord 11 = .ok (.aload_n 0, 1) := dq daX11_isWord_242_0 8 rfl
theorem dX11_isWord_12 : decode cX11_isWord 12 = .ok (.getfield 90, 3) := dq daX11_isWord_242_0 9 rfl
theorem dX11_isWord_15 : decode cX11_isWord 15 = .ok (.iload 5, 2) := dq daX11_isWord_242_0 10 rfl
theorem dX11_isWord_17 : decode cX11_isWord 17 = .ok (.iadd, 1) := dq daX11_isWord_242_0 11 rfl
theorem dX11_isWord_18 : decode cX11_isWord 18 = .ok (.invokevirtual 97, 3) := dq daX11_isWord_242_0 12 rfl
theorem dX11_isWord_21 : decode cX11_isWord 21 = .ok (.ifCond .eq 35, 3) := dq daX11_isWord_242_0 13 rfl
theorem dX11_isWord_24 : decode cX11_isWord 24 = .ok (.iload 5, 2) := dq daX11_isWord_242_0 14 rfl
theorem dX11_isWord_26 : decode cX11_isWord 26 = .ok (.bipush 8, 2) := dq daX11_isWord_242_0 15 rfl
theorem dX11_isWord_28 : decode cX11_isWord 28 = .ok (.if_icmp .ge 22, 3) := dq daX11_isWord_242_0 16 rfl
theorem dX11_isWord_31 : decode cX11_isWord 31 = .ok (.lload_n 3, 1) := dq daX11_isWord_242_0 17 rfl
theorem dX11_isWord_32 : decode cX11_isWord 32 = .ok (.bipush 8, 2) := dq daX11_isWord_242_0 18 rfl
theorem dX11_isWord_34 : decode cX11_isWord 34 = .ok (.lshl, 1) := dq daX11_isWord_242_0 19 rfl
theorem dX11_isWord_35 : decode cX11_isWord 35 = .ok (.aload_n 0, 1) := dq daX11_isWord_242_0 20 rfl
theorem dX11_isWord_36 : decode cX11_isWord 36 = .ok (.getfield 7, 3) := dq daX11_isWord_242_0 21 rfl
theorem dX11_isWord_39 : decode cX11_isWord 39 = .ok (.aload_n 0, 1) := dq daX11_isWord_242_0 22 rfl
theorem dX11_isWord_40 : decode cX11_isWord 40 = .ok (.getfield 90, 3) := dq daX11_isWord_242_0 23 rfl
theorem dX11_isWord_43 : decode cX11_isWord 43 = .ok (.iload 5, 2) := dq daX11_isWord_242_0 24 rfl
theorem dX11_isWord_45 : decode cX11_isWord 45 = .ok (.iadd, 1) := dq daX11_isWord_242_0 25 rfl
theorem dX11_isWord_46 : decode cX11_isWord 46 = .ok (.baload, 1) := dq daX11_isWord_242_0 26 rfl
theorem dX11_isWord_47 : decode cX11_isWord 47 = .ok (.i2l, 1) := dq daX11_isWord_242_0 27 rfl
theorem dX11_isWord_48 : decode cX11_isWord 48 = .ok (.lor, 1) := dq daX11_isWord_242_0 28 rfl
theorem dX11_isWord_49 : decode cX11_isWord 49 = .ok (.lstore_n 3, 1) := dq daX11_isWord_242_0 29 rfl
theorem dX11_isWord_50 : decode cX11_isWord 50 = .ok (.iinc 5 1, 3) := dq daX11_isWord_242_0 30 rfl
theorem dX11_isWord_53 : decode cX11_isWord 53 = .ok (.goto (-43), 3) := dq daX11_isWord_242_0 31 rfl
def dtX11_isWord_242_1 : List (Nat × Jvm.ClassFile.Instr × Nat) := [(56, .iload 5, 2), (58, .ifCond .le 20, 3), (78, .iconst 0, 1), (61, .iload 5, 2), (63, .bipush 8, 2), (65, .if_icmp .ge 13, 3), (68, .lload_n 3, 1), (69, .lload_n 1, 1), (70, .lcmp, 1), (71, .ifCond .ne 7, 3), (74, .iconst 1, 1), (75, .goto 4, 3), (79, .ireturn, 1)]
theorem daX11_isWord_242_1 : dtX11_isWord_242_1.all (dqd cX11_isWord) = true := by decide +kernel
theorem dX11_isWord_56 : decode cX11_isWord 56 = .ok (.iload 5, 2) := dq daX11_isWord_242_1 0 rfl
theorem dX11_isWord_58 : decode cX11_isWord 58 = .ok (.ifCond .le 20, 3) := dq daX11_isWord_242_1 1 rfl
theorem dX11_isWord_78 : decode cX11_isWord 78 = .ok (.iconst 0, 1) := dq daX11_isWord_242_1 2 rfl
theorem dX11_isWord_61 : decode cX11_isWord 61 = .ok (.iload 5, 2) := dq daX11_isWord_242_1 3 rfl
theorem dX11_isWord_63 : decode cX11_isWord 63 = .ok (.bipush 8, 2) := dq daX11_isWord_242_1 4 rfl
theorem dX11_isWord_65 : decode cX11_isWord 65 = .ok (.if_icmp .ge 13, 3) := dq daX11_isWord_242_1 5 rfl
theorem dX11_isWord_68 : decode cX11_isWord 68 = .ok (.lload_n 3, 1) := dq daX11_isWord_242_1 6 rfl
theorem dX11_isWord_69 : decode cX11_isWord 69 = .ok (.lload_n 1, 1) := dq daX11_isWord_242_1 7 rfl
theorem dX11_isWord_70 : decode cX11_isWord 70 = .ok (.lcmp, 1) := dq daX11_isWord_242_1 8 rfl
theorem dX11_isWord_71 : decode cX11_isWord 71 = .ok (.ifCond .ne 7, 3) := dq daX11_isWord_242_1 9 rfl
theorem dX11_isWord_74 : decode cX11_isWord 74 = .ok (.iconst 1, 1) := dq daX11_isWord_242_1 10 rfl
theorem dX11_isWord_75 : decode cX11_isWord 75 = .ok (.goto 4, 3) := dq daX11_isWord_242_1 11 rfl
theorem dX11_isWord_79 : decode cX11_isWord 79 = .ok (.ireturn, 1) := dq daX11_isWord_242_1 12 rfl
def dtX11_passWord_242_0 : List (Nat × Jvm.ClassFile.Instr × Nat) := [(0, .aload_n 0, 1), (1, .aload_n 0, 1), (2, .getfield 90, 3), (5, .invokevirtual 97, 3), (8, .ifCond .eq 16, 3), (11, .aload_n 0, 1), (12, .dup, 1), (13, .getfield 90, 3), (16, .iconst 1, 1), (17, .iadd, 1), (18, .putfield 90, 3), (21, .goto (-21), 3), (24, .return_, 1)]
theorem daX11_passWord_242_0 : dtX11_passWord_242_0.all (dqd cX11_passWord) = true := by decide +kernel
theorem dX11_passWord_0 : decode cX11_passWord 0 = .ok (.aload_n 0, 1) := dq daX11_passWord_242_0 0 rfl
theorem dX11_passWord_1 : decode cX11_passWord 1 = .ok (.aload_n 0, 1) := dq daX11_passWord_242_0 1 rfl
theorem dX11_passWord_2 : decode cX11_passWord 2 = .ok (.getfield 90, 3) := dq daX11_passWord_242_0 2 rfl
theorem dX11_passWord_5 : decode cX11_passWord 5 = .ok (.invokevirtual 97, 3) := dq daX11_passWord_242_0 3 rfl
theorem dX11_passWord_8 : decode cX11_passWord 8 = .ok (.ifCond .eq 16, 3) := dq daX11_passWord_242_0 4 rfl
theorem dX11_passWord_11 : decode cX11_passWord 11 = .ok (.aload_n 0, 1) := dq daX11_passWord_242_0 5 rfl
theorem dX11_passWord_12 : decode cX11_passWord 12 = .ok (.dup, 1) := dq daX11_passWord_242_0 6 rfl
theorem dX11_passWord_13 : decode cX11_passWord 13 = .ok (.getfield 90, 3) := dq daX11_passWord_242_0 7 rfl
theorem dX11_passWord_16 : decode cX11_passWord 16 = .ok (.iconst 1, 1) := dq daX11_passWord_242_0 8 rfl
theorem dX11_passWord_17 : decode cX11_passWord 17 = .ok (.iadd, 1) := dq daX11_passWord_242_0 9 rfl
theorem dX11_passWord_18 : decode cX11_passWord 18 = .ok (.putfield 90, 3) := dq daX11_passWord_242_0 10 rfl
theorem dX11_passWord_21 : decode cX11_passWord 21 = .ok (.goto (-21), 3) := dq daX11_passWord_242_0 11 rfl
theorem dX11_passWord_24 : decode cX11_passWord 24 = .ok (.return_, 1) := dq daX11_passWord_242_0 12 rfl
def dtX11_takesWord_242_0 : List (Nat × Jvm.ClassFile.Instr × Nat) := [(0, .aload_n 0, 1), (1, .lload_n 1, 1), (2, .invokevirtual 101, 3), (5, .ifCond .ne 5, 3), (10, .aload_n 0, 1), (11, .invokevirtual 105, 3), (14, .iconst 1, 1), (8, .iconst 0, 1), (15, .ireturn, 1), (9, .ireturn, 1)]
theorem daX11_takesWord_242_0 : dtX11_takesWord_242_0.all (dqd cX11_takesWord) = true := by decide +kernel
theorem dX11_takesWord_0 : decode cX11_takesWord 0 = .ok (.aload_n 0, 1) := dq daX11_takesWord_242_0 0 rfl
theorem dX11_takesWord_1 : decode cX11_takesWord 1 = .ok (.lload_n 1, 1) := dq daX11_takesWord_242_0 1 rfl
theorem dX11_takesWord_2 : decode cX11_takesWord 2 = .ok (.invokevirtual 101, 3) := dq daX11_takesWord_242_0 2 rfl
theorem dX11_takesWord_5 : decode cX11_takesWord 5 = .ok (.ifCond .ne 5, 3) := dq daX11_takesWord_242_0 3 rfl
theorem dX11_takesWord_10 : decode cX11_takesWord 10 = .ok (.aload_n 0, 1) := dq daX11_takesWord_242_0 4 rfl
theorem dX11_takesWord_11 : decode cX11_takesWord 11 = .ok (.invokevirtual 105, 3) := dq daX11_takesWord_242_0 5 rfl
theorem dX11_takesWord_14 : decode cX11_takesWord 14 = .ok (.iconst 1, 1) := dq daX11_takesWord_242_0 6 rfl
theorem dX11_takesWord_8 : decode cX11_takesWord 8 = .ok (.iconst 0, 1) := dq daX11_takesWord_242_0 7 rfl
theorem dX11_takesWord_15 : decode cX11_takesWord 15 = .ok (.ireturn, 1) := dq daX11_takesWord_242_0 8 rfl
theorem dX11_takesWord_9 : decode cX11_takesWord 9 = .ok (.ireturn, 1) := dq daX11_takesWord_242_0 9 rfl
