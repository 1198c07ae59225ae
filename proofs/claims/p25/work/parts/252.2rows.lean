theorem kX11_sum_1 {a : Array Value} {s : State} (hts : ∀ w ∈ wsX11_sum, w.before a s = true) : (.fieldLink RX11 7 "SnowMulesModel" "tape" "[B" : Cond).before a s = true := kw (A := ixX11_sum) wt143 hts (by decide +kernel)
theorem kX11_sum_2 {a : Array Value} {s : State} (hts : ∀ w ∈ wsX11_sum, w.before a s = true) : (.fieldLink RX11 90 "SnowMulesModel" "next" "I" : Cond).before a s = true := kw (A := ixX11_sum) wt461 hts (by decide +kernel)
theorem iX11_sum_X11 : ∀ w ∈ wsX110, w ∈ wsX11_sum := inW (A := ixX11_sum) uwX11 (by decide +kernel)
theorem hdX11_term : yX11_term.cls ≠ "java/lang/invoke/MethodHandle" ∧ yX11_term.cls ≠ "java/lang/invoke/VarHandle" ∧ (parseMethodDescriptor yX11_term.desc).map (fun d => d.parameters.length) = some 0 := ⟨hdc_0.1, hdc_0.2, hdd_22⟩
def dtX11_sum_252_0 : List (Nat × Jvm.ClassFile.Instr × Nat) := [(0, .aload_n 0, 1), (1, .invokevirtual 178, 3), (4, .ifCond .ne 5, 3), (9, .aload_n 0, 1), (10, .invokevirtual 93, 3), (13, .bipush 43, 2), (15, .if_icmp .eq 12, 3), (27, .aload_n 0, 1), (28, .getfield 7, 3), (31, .aload_n 0, 1), (32, .getfield 90, 3), (35, .baload, 1), (36, .bipush 43, 2), (38, .if_icmp .ne 7, 3), (45, .iconst 3, 1), (46, .istore_n 1, 1), (47, .aload_n 0, 1), (48, .dup, 1), (49, .getfield 90, 3), (52, .iconst 1, 1), (53, .iadd, 1), (54, .putfield 90, 3), (57, .aload_n 0, 1), (58, .invokevirtual 178, 3), (61, .ifCond .ne 5, 3), (66, .aload_n 0, 1), (67, .iload_n 1, 1), (68, .iconst 0, 1), (69, .invokevirtual 160, 3), (72, .goto (-63), 3), (41, .iconst 2, 1), (42, .goto 4, 3)]
theorem daX11_sum_252_0 : dtX11_sum_252_0.all (dqd cX11_sum) = true := by decide +kernel
theorem dX11_sum_0 : decode cX11_sum 0 = .ok (.aload_n 0, 1) := dq daX11_sum_252_0 0 rfl
theorem dX11_sum_1 : decode cX11_sum 1 = .ok (.invokevirtual 178, 3) := dq daX11_sum_252_0 1 rfl
theorem dX11_sum_4 : decode cX11_sum 4 = .ok (.ifCond .ne 5, 3) := dq daX11_sum_252_0 2 rfl
theorem dX11_sum_9 : decode cX11_sum 9 = .ok (.aload_n 0, 1) := dq daX11_sum_252_0 3 rfl
theorem dX11_sum_10 : decode cX11_sum 10 = .ok (.invokevirtual 93, 3) := dq daX11_sum_252_0 4 rfl
theorem dX11_sum_13 : decode cX11_sum 13 = .ok (.bipush 43, 2) := dq daX11_sum_252_0 5 rfl
theorem dX11_sum_15 : decode cX11_sum 15 = .ok (.if_icmp .eq 12, 3) := dq daX11_sum_252_0 6 rfl
theorem dX11_sum_27 : decode cX11_sum 27 = .ok (.aload_n 0, 1) := dq daX11_sum_252_0 7 rfl
theorem dX11_sum_28 : decode cX11_sum 28 = .ok (.getfield 7, 3) := dq daX11_sum_252_0 8 rfl
theorem dX11_sum_31 : decode cX11_sum 31 = .ok (.aload_n 0, 1) := dq daX11_sum_252_0 9 rfl
theorem dX11_sum_32 : decode cX11_sum 32 = .ok (.getfield 90, 3) := dq daX11_sum_252_0 10 rfl
theorem dX11_sum_35 : decode cX11_sum 35 = .ok (.baload, 1) := dq daX11_sum_252_0 11 rfl
theorem dX11_sum_36 : decode cX11_sum 36 = .ok (.bipush 43, 2) := dq daX11_sum_252_0 12 rfl
theorem dX11_sum_38 : decode cX11_sum 38 = .ok (.if_icmp .ne 7, 3) := dq daX11_sum_252_0 13 rfl
theorem dX11_sum_45 : decode cX11_sum 45 = .ok (.iconst 3, 1) := dq daX11_sum_252_0 14 rfl
theorem dX11_sum_46 : decode cX11_sum 46 = .ok (.istore_n 1, 1) := dq daX11_sum_252_0 15 rfl
theorem dX11_sum_47 : decode cX11_sum 47 = .ok (.aload_n 0, 1) := dq daX11_sum_252_0 16 rfl
theorem dX11_sum_48 : decode cX11_sum 48 = .ok (.dup, 1) := dq daX11_sum_252_0 17 rfl
theorem dX11_sum_49 : decode cX11_sum 49 = .ok (.getfield 90, 3) := dq daX11_sum_252_0 18 rfl
theorem dX11_sum_52 : decode cX11_sum 52 = .ok (.iconst 1, 1) := dq daX11_sum_252_0 19 rfl
theorem dX11_sum_53 : decode cX11_sum 53 = .ok (.iadd, 1) := dq daX11_sum_252_0 20 rfl
theorem dX11_sum_54 : decode cX11_sum 54 = .ok (.putfield 90, 3) := dq daX11_sum_252_0 21 rfl
theorem dX11_sum_57 : decode cX11_sum 57 = .ok (.aload_n 0, 1) := dq daX11_sum_252_0 22 rfl
theorem dX11_sum_58 : decode cX11_sum 58 = .ok (.invokevirtual 178, 3) := dq daX11_sum_252_0 23 rfl
theorem dX11_sum_61 : decode cX11_sum 61 = .ok (.ifCond .ne 5, 3) := dq daX11_sum_252_0 24 rfl
theorem dX11_sum_66 : decode cX11_sum 66 = .ok (.aload_n 0, 1) := dq daX11_sum_252_0 25 rfl
theorem dX11_sum_67 : decode cX11_sum 67 = .ok (.iload_n 1, 1) := dq daX11_sum_252_0 26 rfl
theorem dX11_sum_68 : decode cX11_sum 68 = .ok (.iconst 0, 1) := dq daX11_sum_252_0 27 rfl
theorem dX11_sum_69 : decode cX11_sum 69 = .ok (.invokevirtual 160, 3) := dq daX11_sum_252_0 28 rfl
theorem dX11_sum_72 : decode cX11_sum 72 = .ok (.goto (-63), 3) := dq daX11_sum_252_0 29 rfl
theorem dX11_sum_41 : decode cX11_sum 41 = .ok (.iconst 2, 1) := dq daX11_sum_252_0 30 rfl
theorem dX11_sum_42 : decode cX11_sum 42 = .ok (.goto 4, 3) := dq daX11_sum_252_0 31 rfl
def dtX11_sum_252_1 : List (Nat × Jvm.ClassFile.Instr × Nat) := [(18, .aload_n 0, 1), (19, .invokevirtual 93, 3), (22, .bipush 45, 2), (24, .if_icmp .ne 51, 3), (64, .iconst 0, 1), (75, .iconst 1, 1), (7, .iconst 0, 1), (65, .ireturn, 1), (76, .ireturn, 1), (8, .ireturn, 1)]
theorem daX11_sum_252_1 : dtX11_sum_252_1.all (dqd cX11_sum) = true := by decide +kernel
theorem dX11_sum_18 : decode cX11_sum 18 = .ok (.aload_n 0, 1) := dq daX11_sum_252_1 0 rfl
theorem dX11_sum_19 : decode cX11_sum 19 = .ok (.invokevirtual 93, 3) := dq daX11_sum_252_1 1 rfl
theorem dX11_sum_22 : decode cX11_sum 22 = .ok (.bipush 45, 2) := dq daX11_sum_252_1 2 rfl
theorem dX11_sum_24 : decode cX11_sum 24 = .ok (.if_icmp .ne 51, 3) := dq daX11_sum_252_1 3 rfl
theorem dX11_sum_64 : decode cX11_sum 64 = .ok (.iconst 0, 1) := dq daX11_sum_252_1 4 rfl
theorem dX11_sum_75 : decode cX11_sum 75 = .ok (.iconst 1, 1) := dq daX11_sum_252_1 5 rfl
theorem dX11_sum_7 : decode cX11_sum 7 = .ok (.iconst 0, 1) := dq daX11_sum_252_1 6 rfl
theorem dX11_sum_65 : decode cX11_sum 65 = .ok (.ireturn, 1) := dq daX11_sum_252_1 7 rfl
theorem dX11_sum_76 : decode cX11_sum 76 = .ok (.ireturn, 1) := dq daX11_sum_252_1 8 rfl
theorem dX11_sum_8 : decode cX11_sum 8 = .ok (.ireturn, 1) := dq daX11_sum_252_1 9 rfl
