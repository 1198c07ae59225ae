theorem kX11_term_1 {a : Array Value} {s : State} (hts : ∀ w ∈ wsX11_term, w.before a s = true) : (.fieldLink RX11 7 "SnowMulesModel" "tape" "[B" : Cond).before a s = true := kw (A := ixX11_term) wt143 hts (by decide +kernel)
theorem kX11_term_2 {a : Array Value} {s : State} (hts : ∀ w ∈ wsX11_term, w.before a s = true) : (.fieldLink RX11 90 "SnowMulesModel" "next" "I" : Cond).before a s = true := kw (A := ixX11_term) wt461 hts (by decide +kernel)
theorem iX11_term_X11 : ∀ w ∈ wsX110, w ∈ wsX11_term := inW (A := ixX11_term) uwX11 (by decide +kernel)
theorem hdX11_value : yX11_value.cls ≠ "java/lang/invoke/MethodHandle" ∧ yX11_value.cls ≠ "java/lang/invoke/VarHandle" ∧ (parseMethodDescriptor yX11_value.desc).map (fun d => d.parameters.length) = some 0 := ⟨hdc_0.1, hdc_0.2, hdd_22⟩
def dtX11_term_251_0 : List (Nat × Jvm.ClassFile.Instr × Nat) := [(0, .aload_n 0, 1), (1, .invokevirtual 174, 3), (4, .ifCond .ne 5, 3), (9, .aload_n 0, 1), (10, .invokevirtual 93, 3), (13, .bipush 42, 2), (15, .if_icmp .eq 12, 3), (27, .aload_n 0, 1), (28, .getfield 7, 3), (31, .aload_n 0, 1), (32, .getfield 90, 3), (35, .baload, 1), (36, .bipush 42, 2), (38, .if_icmp .ne 7, 3), (45, .iconst 5, 1), (46, .istore_n 1, 1), (47, .aload_n 0, 1), (48, .dup, 1), (49, .getfield 90, 3), (52, .iconst 1, 1), (53, .iadd, 1), (54, .putfield 90, 3), (57, .aload_n 0, 1), (58, .invokevirtual 174, 3), (61, .ifCond .ne 5, 3), (66, .aload_n 0, 1), (67, .iload_n 1, 1), (68, .iconst 0, 1), (69, .invokevirtual 160, 3), (72, .goto (-63), 3), (41, .iconst 4, 1), (42, .goto 4, 3)]
theorem daX11_term_251_0 : dtX11_term_251_0.all (dqd cX11_term) = true := by decide +kernel
theorem dX11_term_0 : decode cX11_term 0 = .ok (.aload_n 0, 1) := dq daX11_term_251_0 0 rfl
theorem dX11_term_1 : decode cX11_term 1 = .ok (.invokevirtual 174, 3) := dq daX11_term_251_0 1 rfl
theorem dX11_term_4 : decode cX11_term 4 = .ok (.ifCond .ne 5, 3) := dq daX11_term_251_0 2 rfl
theorem dX11_term_9 : decode cX11_term 9 = .ok (.aload_n 0, 1) := dq daX11_term_251_0 3 rfl
theorem dX11_term_10 : decode cX11_term 10 = .ok (.invokevirtual 93, 3) := dq daX11_term_251_0 4 rfl
theorem dX11_term_13 : decode cX11_term 13 = .ok (.bipush 42, 2) := dq daX11_term_251_0 5 rfl
theorem dX11_term_15 : decode cX11_term 15 = .ok (.if_icmp .eq 12, 3) := dq daX11_term_251_0 6 rfl
theorem dX11_term_27 : decode cX11_term 27 = .ok (.aload_n 0, 1) := dq daX11_term_251_0 7 rfl
theorem dX11_term_28 : decode cX11_term 28 = .ok (.getfield 7, 3) := dq daX11_term_251_0 8 rfl
theorem dX11_term_31 : decode cX11_term 31 = .ok (.aload_n 0, 1) := dq daX11_term_251_0 9 rfl
theorem dX11_term_32 : decode cX11_term 32 = .ok (.getfield 90, 3) := dq daX11_term_251_0 10 rfl
theorem dX11_term_35 : decode cX11_term 35 = .ok (.baload, 1) := dq daX11_term_251_0 11 rfl
theorem dX11_term_36 : decode cX11_term 36 = .ok (.bipush 42, 2) := dq daX11_term_251_0 12 rfl
theorem dX11_term_38 : decode cX11_term 38 = .ok (.if_icmp .ne 7, 3) := dq daX11_term_251_0 13 rfl
theorem dX11_term_45 : decode cX11_term 45 = .ok (.iconst 5, 1) := dq daX11_term_251_0 14 rfl
theorem dX11_term_46 : decode cX11_term 46 = .ok (.istore_n 1, 1) := dq daX11_term_251_0 15 rfl
theorem dX11_term_47 : decode cX11_term 47 = .ok (.aload_n 0, 1) := dq daX11_term_251_0 16 rfl
theorem dX11_term_48 : decode cX11_term 48 = .ok (.dup, 1) := dq daX11_term_251_0 17 rfl
theorem dX11_term_49 : decode cX11_term 49 = .ok (.getfield 90, 3) := dq daX11_term_251_0 18 rfl
theorem dX11_term_52 : decode cX11_term 52 = .ok (.iconst 1, 1) := dq daX11_term_251_0 19 rfl
theorem dX11_term_53 : decode cX11_term 53 = .ok (.iadd, 1) := dq daX11_term_251_0 20 rfl
theorem dX11_term_54 : decode cX11_term 54 = .ok (.putfield 90, 3) := dq daX11_term_251_0 21 rfl
theorem dX11_term_57 : decode cX11_term 57 = .ok (.aload_n 0, 1) := dq daX11_term_251_0 22 rfl
theorem dX11_term_58 : decode cX11_term 58 = .ok (.invokevirtual 174, 3) := dq daX11_term_251_0 23 rfl
theorem dX11_term_61 : decode cX11_term 61 = .ok (.ifCond .ne 5, 3) := dq daX11_term_251_0 24 rfl
theorem dX11_term_66 : decode cX11_term 66 = .ok (.aload_n 0, 1) := dq daX11_term_251_0 25 rfl
theorem dX11_term_67 : decode cX11_term 67 = .ok (.iload_n 1, 1) := dq daX11_term_251_0 26 rfl
theorem dX11_term_68 : decode cX11_term 68 = .ok (.iconst 0, 1) := dq daX11_term_251_0 27 rfl
theorem dX11_term_69 : decode cX11_term 69 = .ok (.invokevirtual 160, 3) := dq daX11_term_251_0 28 rfl
theorem dX11_term_72 : decode cX11_term 72 = .ok (.goto (-63), 3) := dq daX11_term_251_0 29 rfl
theorem dX11_term_41 : decode cX11_term 41 = .ok (.iconst 4, 1) := dq daX11_term_251_0 30 rfl
theorem dX11_term_42 : decode cX11_term 42 = .ok (.goto 4, 3) := dq daX11_term_251_0 31 rfl
def dtX11_term_251_1 : List (Nat × Jvm.ClassFile.Instr × Nat) := [(18, .aload_n 0, 1), (19, .invokevirtual 93, 3), (22, .bipush 47, 2), (24, .if_icmp .ne 51, 3), (64, .iconst 0, 1), (75, .iconst 1, 1), (7, .iconst 0, 1), (65, .ireturn, 1), (76, .ireturn, 1), (8, .ireturn, 1)]
theorem daX11_term_251_1 : dtX11_term_251_1.all (dqd cX11_term) = true := by decide +kernel
theorem dX11_term_18 : decode cX11_term 18 = .ok (.aload_n 0, 1) := dq daX11_term_251_1 0 rfl
theorem dX11_term_19 : decode cX11_term 19 = .ok (.invokevirtual 93, 3) := dq daX11_term_251_1 1 rfl
theorem dX11_term_22 : decode cX11_term 22 = .ok (.bipush 47, 2) := dq daX11_term_251_1 2 rfl
theorem dX11_term_24 : decode cX11_term 24 = .ok (.if_icmp .ne 51, 3) := dq daX11_term_251_1 3 rfl
theorem dX11_term_64 : decode cX11_term 64 = .ok (.iconst 0, 1) := dq daX11_term_251_1 4 rfl
theorem dX11_term_75 : decode cX11_term 75 = .ok (.iconst 1, 1) := dq daX11_term_251_1 5 rfl
theorem dX11_term_7 : decode cX11_term 7 = .ok (.iconst 0, 1) := dq daX11_term_251_1 6 rfl
theorem dX11_term_65 : decode cX11_term 65 = .ok (.ireturn, 1) := dq daX11_term_251_1 7 rfl
theorem dX11_term_76 : decode cX11_term 76 = .ok (.ireturn, 1) := dq daX11_term_251_1 8 rfl
theorem dX11_term_8 : decode cX11_term 8 = .ok (.ireturn, 1) := dq daX11_term_251_1 9 rfl
