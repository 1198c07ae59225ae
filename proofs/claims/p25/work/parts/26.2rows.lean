theorem kX11_settles_1 {a : Array Value} {s : State} (hts : ∀ w ∈ wsX11_settles, w.before a s = true) : (.fieldLink RX11 153 "SnowMulesModel" "opened" "I" : Cond).before a s = true := kw (A := ixX11_settles) wt551 hts (by decide +kernel)
theorem kX11_settles_2 {a : Array Value} {s : State} (hts : ∀ w ∈ wsX11_settles, w.before a s = true) : (.fieldLink RX11 29 "SnowMulesModel" "open" "[I" : Cond).before a s = true := kw (A := ixX11_settles) wt149 hts (by decide +kernel)
theorem kX11_settles_3 {a : Array Value} {s : State} (hts : ∀ w ∈ wsX11_settles, w.before a s = true) : (.fieldLink RX11 150 "SnowMulesModel" "deep" "I" : Cond).before a s = true := kw (A := ixX11_settles) wt552 hts (by decide +kernel)
theorem iX11_settles_X11 : ∀ w ∈ wsX110, w ∈ wsX11_settles := inW (A := ixX11_settles) uwX11 (by decide +kernel)
theorem hdX11_strength : yX11_strength.cls ≠ "java/lang/invoke/MethodHandle" ∧ yX11_strength.cls ≠ "java/lang/invoke/VarHandle" ∧ (parseMethodDescriptor yX11_strength.desc).map (fun d => d.parameters.length) = some 1 := ⟨hdc_0.1, hdc_0.2, hdd_3⟩
def dtX11_settles_26_0 : List (Nat × Jvm.ClassFile.Instr × Nat) := [(0, .aload_n 0, 1), (1, .getfield 153, 3), (4, .ifCond .le 72, 3), (7, .aload_n 0, 1), (8, .getfield 29, 3), (11, .aload_n 0, 1), (12, .getfield 153, 3), (15, .iconst 1, 1), (16, .isub, 1), (17, .iaload, 1), (18, .invokestatic 156, 3), (21, .iload_n 1, 1), (22, .if_icmp .lt 54, 3), (25, .aload_n 0, 1), (26, .dup, 1), (27, .getfield 153, 3), (30, .iconst 1, 1), (31, .isub, 1), (32, .putfield 153, 3), (35, .aload_n 0, 1), (36, .aload_n 0, 1), (37, .getfield 29, 3), (40, .aload_n 0, 1), (41, .getfield 153, 3), (44, .iaload, 1), (45, .iconst 0, 1), (46, .invokevirtual 160, 3), (49, .aload_n 0, 1), (50, .getfield 29, 3), (53, .aload_n 0, 1), (54, .getfield 153, 3), (57, .iaload, 1)]
theorem daX11_settles_26_0 : dtX11_settles_26_0.all (dqd cX11_settles) = true := by decide +kernel
theorem dX11_settles_0 : decode cX11_settles 0 = .ok (.aload_n 0, 1) := dq daX11_settles_26_0 0 rfl
theorem dX11_settles_1 : decode cX11_settles 1 = .ok (.getfield 153, 3) := dq daX11_settles_26_0 1 rfl
theorem dX11_settles_4 : decode cX11_settles 4 = .ok (.ifCond .le 72, 3) := dq daX11_settles_26_0 2 rfl
theorem dX11_settles_7 : decode cX11_settles 7 = .ok (.aload_n 0, 1) := dq daX11_settles_26_0 3 rfl
theorem dX11_settles_8 : decode cX11_settles 8 = .ok (.getfield 29, 3) := dq daX11_settles_26_0 4 rfl
theorem dX11_settles_11 : decode cX11_settles 11 = .ok (.aload_n 0, 1) := dq daX11_settles_26_0 5 rfl
theorem dX11_settles_12 : decode cX11_settles 12 = .ok (.getfield 153, 3) := dq daX11_settles_26_0 6 rfl
theorem dX11_settles_15 : decode cX11_settles 15 = .ok (.iconst 1, 1) := dq daX11_settles_26_0 7 rfl
theorem dX11_settles_16 : decode cX11_settles 16 = .ok (.isub, 1) := dq daX11_settles_26_0 8 rfl
theorem dX11_settles_17 : decode cX11_settles 17 = .ok (.iaload, 1) := dq daX11_settles_26_0 9 rfl
theorem dX11_settles_18 : decode cX11_settles 18 = .ok (.invokestatic 156, 3) := dq daX11_settles_26_0 10 rfl
theorem dX11_settles_21 : decode cX11_settles 21 = .ok (.iload_n 1, 1) := dq daX11_settles_26_0 11 rfl
theorem dX11_settles_22 : decode cX11_settles 22 = .ok (.if_icmp .lt 54, 3) := dq daX11_settles_26_0 12 rfl
theorem dX11_settles_25 : decode cX11_settles 25 = .ok (.aload_n 0, 1) := dq daX11_settles_26_0 13 rfl
theorem dX11_settles_26 : decode cX11_settles 26 = .ok (.dup, 1) := dq daX11_settles_26_0 14 rfl
theorem dX11_settles_27 : decode cX11_settles 27 = .ok (.getfield 153, 3) := dq daX11_settles_26_0 15 rfl
theorem dX11_settles_30 : decode cX11_settles 30 = .ok (.iconst 1, 1) := dq daX11_settles_26_0 16 rfl
theorem dX11_settles_31 : decode cX11_settles 31 = .ok (.isub, 1) := dq daX11_settles_26_0 17 rfl
theorem dX11_settles_32 : decode cX11_settles 32 = .ok (.putfield 153, 3) := dq daX11_settles_26_0 18 rfl
theorem dX11_settles_35 : decode cX11_settles 35 = .ok (.aload_n 0, 1) := dq daX11_settles_26_0 19 rfl
theorem dX11_settles_36 : decode cX11_settles 36 = .ok (.aload_n 0, 1) := dq daX11_settles_26_0 20 rfl
theorem dX11_settles_37 : decode cX11_settles 37 = .ok (.getfield 29, 3) := dq daX11_settles_26_0 21 rfl
theorem dX11_settles_40 : decode cX11_settles 40 = .ok (.aload_n 0, 1) := dq daX11_settles_26_0 22 rfl
theorem dX11_settles_41 : decode cX11_settles 41 = .ok (.getfield 153, 3) := dq daX11_settles_26_0 23 rfl
theorem dX11_settles_44 : decode cX11_settles 44 = .ok (.iaload, 1) := dq daX11_settles_26_0 24 rfl
theorem dX11_settles_45 : decode cX11_settles 45 = .ok (.iconst 0, 1) := dq daX11_settles_26_0 25 rfl
theorem dX11_settles_46 : decode cX11_settles 46 = .ok (.invokevirtual 160, 3) := dq daX11_settles_26_0 26 rfl
theorem dX11_settles_49 : decode cX11_settles 49 = .ok (.aload_n 0, 1) := dq daX11_settles_26_0 27 rfl
theorem dX11_settles_50 : decode cX11_settles 50 = .ok (.getfield 29, 3) := dq daX11_settles_26_0 28 rfl
theorem dX11_settles_53 : decode cX11_settles 53 = .ok (.aload_n 0, 1) := dq daX11_settles_26_0 29 rfl
theorem dX11_settles_54 : decode cX11_settles 54 = .ok (.getfield 153, 3) := dq daX11_settles_26_0 30 rfl
theorem dX11_settles_57 : decode cX11_settles 57 = .ok (.iaload, 1) := dq daX11_settles_26_0 31 rfl
def dtX11_settles_26_1 : List (Nat × Jvm.ClassFile.Instr × Nat) := [(58, .bipush 11, 2), (60, .if_icmp .ne (-60), 3), (63, .aload_n 0, 1), (64, .dup, 1), (65, .getfield 150, 3), (68, .iconst 1, 1), (69, .isub, 1), (70, .putfield 150, 3), (73, .goto (-73), 3), (76, .return_, 1)]
theorem daX11_settles_26_1 : dtX11_settles_26_1.all (dqd cX11_settles) = true := by decide +kernel
theorem dX11_settles_58 : decode cX11_settles 58 = .ok (.bipush 11, 2) := dq daX11_settles_26_1 0 rfl
theorem dX11_settles_60 : decode cX11_settles 60 = .ok (.if_icmp .ne (-60), 3) := dq daX11_settles_26_1 1 rfl
theorem dX11_settles_63 : decode cX11_settles 63 = .ok (.aload_n 0, 1) := dq daX11_settles_26_1 2 rfl
theorem dX11_settles_64 : decode cX11_settles 64 = .ok (.dup, 1) := dq daX11_settles_26_1 3 rfl
theorem dX11_settles_65 : decode cX11_settles 65 = .ok (.getfield 150, 3) := dq daX11_settles_26_1 4 rfl
theorem dX11_settles_68 : decode cX11_settles 68 = .ok (.iconst 1, 1) := dq daX11_settles_26_1 5 rfl
theorem dX11_settles_69 : decode cX11_settles 69 = .ok (.isub, 1) := dq daX11_settles_26_1 6 rfl
theorem dX11_settles_70 : decode cX11_settles 70 = .ok (.putfield 150, 3) := dq daX11_settles_26_1 7 rfl
theorem dX11_settles_73 : decode cX11_settles 73 = .ok (.goto (-73), 3) := dq daX11_settles_26_1 8 rfl
theorem dX11_settles_76 : decode cX11_settles 76 = .ok (.return_, 1) := dq daX11_settles_26_1 9 rfl
