theorem kX11_closes_1 {a : Array Value} {s : State} (hts : ∀ w ∈ wsX11_closes, w.before a s = true) : (.fieldLink RX11 153 "SnowMulesModel" "opened" "I" : Cond).before a s = true := kw (A := ixX11_closes) wt551 hts (by decide +kernel)
theorem kX11_closes_2 {a : Array Value} {s : State} (hts : ∀ w ∈ wsX11_closes, w.before a s = true) : (.fieldLink RX11 150 "SnowMulesModel" "deep" "I" : Cond).before a s = true := kw (A := ixX11_closes) wt552 hts (by decide +kernel)
theorem kX11_closes_3 {a : Array Value} {s : State} (hts : ∀ w ∈ wsX11_closes, w.before a s = true) : (.fieldLink RX11 90 "SnowMulesModel" "next" "I" : Cond).before a s = true := kw (A := ixX11_closes) wt461 hts (by decide +kernel)
theorem iX11_closes_X11 : ∀ w ∈ wsX110, w ∈ wsX11_closes := inW (A := ixX11_closes) uwX11 (by decide +kernel)
theorem hdX11_settles : yX11_settles.cls ≠ "java/lang/invoke/MethodHandle" ∧ yX11_settles.cls ≠ "java/lang/invoke/VarHandle" ∧ (parseMethodDescriptor yX11_settles.desc).map (fun d => d.parameters.length) = some 1 := ⟨hdc_0.1, hdc_0.2, hdd_17⟩
theorem hdX11_isInside : yX11_isInside.cls ≠ "java/lang/invoke/MethodHandle" ∧ yX11_isInside.cls ≠ "java/lang/invoke/VarHandle" ∧ (parseMethodDescriptor yX11_isInside.desc).map (fun d => d.parameters.length) = some 0 := ⟨hdc_0.1, hdc_0.2, hdd_22⟩
def dtX11_closes_262_0 : List (Nat × Jvm.ClassFile.Instr × Nat) := [(0, .aload_n 0, 1), (1, .iconst 3, 1), (2, .invokevirtual 192, 3), (5, .aload_n 0, 1), (6, .invokevirtual 93, 3), (9, .bipush 93, 2), (11, .if_icmp .ne 53, 3), (14, .aload_n 0, 1), (15, .invokevirtual 195, 3), (18, .ifCond .eq 46, 3), (21, .aload_n 0, 1), (22, .iconst 1, 1), (23, .invokevirtual 192, 3), (26, .aload_n 0, 1), (27, .dup, 1), (28, .getfield 153, 3), (31, .iconst 1, 1), (32, .isub, 1), (33, .putfield 153, 3), (36, .aload_n 0, 1), (37, .dup, 1), (38, .getfield 150, 3), (41, .iconst 1, 1), (42, .isub, 1), (43, .putfield 150, 3), (46, .aload_n 0, 1), (47, .dup, 1), (48, .getfield 90, 3), (51, .iconst 1, 1), (52, .iadd, 1), (53, .putfield 90, 3), (56, .aload_n 0, 1)]
theorem daX11_closes_262_0 : dtX11_closes_262_0.all (dqd cX11_closes) = true := by decide +kernel
theorem dX11_closes_0 : decode cX11_closes 0 = .ok (.aload_n 0, 1) := dq daX11_closes_262_0 0 rfl
theorem dX11_closes_1 : decode cX11_closes 1 = .ok (.iconst 3, 1) := dq daX11_closes_262_0 1 rfl
theorem dX11_closes_2 : decode cX11_closes 2 = .ok (.invokevirtual 192, 3) := dq daX11_closes_262_0 2 rfl
theorem dX11_closes_5 : decode cX11_closes 5 = .ok (.aload_n 0, 1) := dq daX11_closes_262_0 3 rfl
theorem dX11_closes_6 : decode cX11_closes 6 = .ok (.invokevirtual 93, 3) := dq daX11_closes_262_0 4 rfl
theorem dX11_closes_9 : decode cX11_closes 9 = .ok (.bipush 93, 2) := dq daX11_closes_262_0 5 rfl
theorem dX11_closes_11 : decode cX11_closes 11 = .ok (.if_icmp .ne 53, 3) := dq daX11_closes_262_0 6 rfl
theorem dX11_closes_14 : decode cX11_closes 14 = .ok (.aload_n 0, 1) := dq daX11_closes_262_0 7 rfl
theorem dX11_closes_15 : decode cX11_closes 15 = .ok (.invokevirtual 195, 3) := dq daX11_closes_262_0 8 rfl
theorem dX11_closes_18 : decode cX11_closes 18 = .ok (.ifCond .eq 46, 3) := dq daX11_closes_262_0 9 rfl
theorem dX11_closes_21 : decode cX11_closes 21 = .ok (.aload_n 0, 1) := dq daX11_closes_262_0 10 rfl
theorem dX11_closes_22 : decode cX11_closes 22 = .ok (.iconst 1, 1) := dq daX11_closes_262_0 11 rfl
theorem dX11_closes_23 : decode cX11_closes 23 = .ok (.invokevirtual 192, 3) := dq daX11_closes_262_0 12 rfl
theorem dX11_closes_26 : decode cX11_closes 26 = .ok (.aload_n 0, 1) := dq daX11_closes_262_0 13 rfl
theorem dX11_closes_27 : decode cX11_closes 27 = .ok (.dup, 1) := dq daX11_closes_262_0 14 rfl
theorem dX11_closes_28 : decode cX11_closes 28 = .ok (.getfield 153, 3) := dq daX11_closes_262_0 15 rfl
theorem dX11_closes_31 : decode cX11_closes 31 = .ok (.iconst 1, 1) := dq daX11_closes_262_0 16 rfl
theorem dX11_closes_32 : decode cX11_closes 32 = .ok (.isub, 1) := dq daX11_closes_262_0 17 rfl
theorem dX11_closes_33 : decode cX11_closes 33 = .ok (.putfield 153, 3) := dq daX11_closes_262_0 18 rfl
theorem dX11_closes_36 : decode cX11_closes 36 = .ok (.aload_n 0, 1) := dq daX11_closes_262_0 19 rfl
theorem dX11_closes_37 : decode cX11_closes 37 = .ok (.dup, 1) := dq daX11_closes_262_0 20 rfl
theorem dX11_closes_38 : decode cX11_closes 38 = .ok (.getfield 150, 3) := dq daX11_closes_262_0 21 rfl
theorem dX11_closes_41 : decode cX11_closes 41 = .ok (.iconst 1, 1) := dq daX11_closes_262_0 22 rfl
theorem dX11_closes_42 : decode cX11_closes 42 = .ok (.isub, 1) := dq daX11_closes_262_0 23 rfl
theorem dX11_closes_43 : decode cX11_closes 43 = .ok (.putfield 150, 3) := dq daX11_closes_262_0 24 rfl
theorem dX11_closes_46 : decode cX11_closes 46 = .ok (.aload_n 0, 1) := dq daX11_closes_262_0 25 rfl
theorem dX11_closes_47 : decode cX11_closes 47 = .ok (.dup, 1) := dq daX11_closes_262_0 26 rfl
theorem dX11_closes_48 : decode cX11_closes 48 = .ok (.getfield 90, 3) := dq daX11_closes_262_0 27 rfl
theorem dX11_closes_51 : decode cX11_closes 51 = .ok (.iconst 1, 1) := dq daX11_closes_262_0 28 rfl
theorem dX11_closes_52 : decode cX11_closes 52 = .ok (.iadd, 1) := dq daX11_closes_262_0 29 rfl
theorem dX11_closes_53 : decode cX11_closes 53 = .ok (.putfield 90, 3) := dq daX11_closes_262_0 30 rfl
theorem dX11_closes_56 : decode cX11_closes 56 = .ok (.aload_n 0, 1) := dq daX11_closes_262_0 31 rfl
def dtX11_closes_262_1 : List (Nat × Jvm.ClassFile.Instr × Nat) := [(57, .iconst 3, 1), (58, .invokevirtual 192, 3), (61, .goto (-56), 3), (64, .return_, 1)]
theorem daX11_closes_262_1 : dtX11_closes_262_1.all (dqd cX11_closes) = true := by decide +kernel
theorem dX11_closes_57 : decode cX11_closes 57 = .ok (.iconst 3, 1) := dq daX11_closes_262_1 0 rfl
theorem dX11_closes_58 : decode cX11_closes 58 = .ok (.invokevirtual 192, 3) := dq daX11_closes_262_1 1 rfl
theorem dX11_closes_61 : decode cX11_closes 61 = .ok (.goto (-56), 3) := dq daX11_closes_262_1 2 rfl
theorem dX11_closes_64 : decode cX11_closes 64 = .ok (.return_, 1) := dq daX11_closes_262_1 3 rfl
