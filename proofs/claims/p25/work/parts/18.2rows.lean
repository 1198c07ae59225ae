theorem kX11_servesBy_1 {a : Array Value} {s : State} (hts : ∀ w ∈ wsX11_servesBy, w.before a s = true) : (.fieldLink RX11 413 "SnowMulesModel" "bestLeft" "I" : Cond).before a s = true := kw (A := ixX11_servesBy) wt1085 hts (by decide +kernel)
theorem kX11_servesBy_2 {a : Array Value} {s : State} (hts : ∀ w ∈ wsX11_servesBy, w.before a s = true) : (.fieldLink RX11 39 "SnowMulesModel" "said" "[I" : Cond).before a s = true := kw (A := ixX11_servesBy) wt153 hts (by decide +kernel)
theorem kX11_serves_1 {a : Array Value} {s : State} (hts : ∀ w ∈ wsX11_serves, w.before a s = true) : (.fieldLink RX11 39 "SnowMulesModel" "said" "[I" : Cond).before a s = true := kw (A := ixX11_serves) wt153 hts (by decide +kernel)
theorem kX11_priceFrom_1 {a : Array Value} {s : State} (hts : ∀ w ∈ wsX11_priceFrom, w.before a s = true) : (.fieldLink RX11 39 "SnowMulesModel" "said" "[I" : Cond).before a s = true := kw (A := ixX11_priceFrom) wt153 hts (by decide +kernel)
theorem iX11_servesBy_X11 : ∀ w ∈ wsX110, w ∈ wsX11_servesBy := inW (A := ixX11_servesBy) uwX11 (by decide +kernel)
theorem iX11_serves_X11 : ∀ w ∈ wsX110, w ∈ wsX11_serves := inW (A := ixX11_serves) uwX11 (by decide +kernel)
theorem iX11_priceFrom_X11 : ∀ w ∈ wsX110, w ∈ wsX11_priceFrom := inW (A := ixX11_priceFrom) uwX11 (by decide +kernel)
theorem hdX11_servesBy : yX11_servesBy.cls ≠ "java/lang/invoke/MethodHandle" ∧ yX11_servesBy.cls ≠ "java/lang/invoke/VarHandle" ∧ (parseMethodDescriptor yX11_servesBy.desc).map (fun d => d.parameters.length) = some 3 := ⟨hdc_0.1, hdc_0.2, hdd_15⟩
theorem hdX11_canServe : yX11_canServe.cls ≠ "java/lang/invoke/MethodHandle" ∧ yX11_canServe.cls ≠ "java/lang/invoke/VarHandle" ∧ (parseMethodDescriptor yX11_canServe.desc).map (fun d => d.parameters.length) = some 2 := ⟨hdc_0.1, hdc_0.2, hdd_4⟩
def dtX11_servesBy_18_0 : List (Nat × Jvm.ClassFile.Instr × Nat) := [(0, .sipush 312, 3), (3, .iconst 4, 1), (4, .iload_n 3, 1), (5, .imul, 1), (6, .iadd, 1), (7, .istore 4, 2), (9, .aload_n 0, 1), (10, .iload_n 2, 1), (11, .invokevirtual 286, 3), (14, .ifCond .ne 6, 3), (20, .aload_n 0, 1), (21, .iconst (-1), 1), (22, .putfield 413, 3), (25, .aload_n 0, 1), (26, .iload_n 1, 1), (27, .aload_n 0, 1), (28, .iload_n 2, 1), (29, .iconst 5, 1), (30, .invokevirtual 283, 3), (33, .aload_n 0, 1), (34, .getfield 39, 3), (37, .iload 4, 2), (39, .iaload, 1), (40, .aload_n 0, 1), (41, .getfield 39, 3), (44, .iconst 5, 1), (45, .iaload, 1), (46, .aload_n 0, 1), (47, .iload_n 2, 1), (48, .iconst 4, 1), (49, .invokevirtual 283, 3), (52, .aload_n 0, 1)]
theorem daX11_servesBy_18_0 : dtX11_servesBy_18_0.all (dqd cX11_servesBy) = true := by decide +kernel
theorem dX11_servesBy_0 : decode cX11_servesBy 0 = .ok (.sipush 312, 3) := dq daX11_servesBy_18_0 0 rfl
theorem dX11_servesBy_3 : decode cX11_servesBy 3 = .ok (.iconst 4, 1) := dq daX11_servesBy_18_0 1 rfl
theorem dX11_servesBy_4 : decode cX11_servesBy 4 = .ok (.iload_n 3, 1) := dq daX11_servesBy_18_0 2 rfl
theorem dX11_servesBy_5 : decode cX11_servesBy 5 = .ok (.imul, 1) := dq daX11_servesBy_18_0 3 rfl
theorem dX11_servesBy_6 : decode cX11_servesBy 6 = .ok (.iadd, 1) := dq daX11_servesBy_18_0 4 rfl
theorem dX11_servesBy_7 : decode cX11_servesBy 7 = .ok (.istore 4, 2) := dq daX11_servesBy_18_0 5 rfl
theorem dX11_servesBy_9 : decode cX11_servesBy 9 = .ok (.aload_n 0, 1) := dq daX11_servesBy_18_0 6 rfl
theorem dX11_servesBy_10 : decode cX11_servesBy 10 = .ok (.iload_n 2, 1) := dq daX11_servesBy_18_0 7 rfl
theorem dX11_servesBy_11 : decode cX11_servesBy 11 = .ok (.invokevirtual 286, 3) := dq daX11_servesBy_18_0 8 rfl
theorem dX11_servesBy_14 : decode cX11_servesBy 14 = .ok (.ifCond .ne 6, 3) := dq daX11_servesBy_18_0 9 rfl
theorem dX11_servesBy_20 : decode cX11_servesBy 20 = .ok (.aload_n 0, 1) := dq daX11_servesBy_18_0 10 rfl
theorem dX11_servesBy_21 : decode cX11_servesBy 21 = .ok (.iconst (-1), 1) := dq daX11_servesBy_18_0 11 rfl
theorem dX11_servesBy_22 : decode cX11_servesBy 22 = .ok (.putfield 413, 3) := dq daX11_servesBy_18_0 12 rfl
theorem dX11_servesBy_25 : decode cX11_servesBy 25 = .ok (.aload_n 0, 1) := dq daX11_servesBy_18_0 13 rfl
theorem dX11_servesBy_26 : decode cX11_servesBy 26 = .ok (.iload_n 1, 1) := dq daX11_servesBy_18_0 14 rfl
theorem dX11_servesBy_27 : decode cX11_servesBy 27 = .ok (.aload_n 0, 1) := dq daX11_servesBy_18_0 15 rfl
theorem dX11_servesBy_28 : decode cX11_servesBy 28 = .ok (.iload_n 2, 1) := dq daX11_servesBy_18_0 16 rfl
theorem dX11_servesBy_29 : decode cX11_servesBy 29 = .ok (.iconst 5, 1) := dq daX11_servesBy_18_0 17 rfl
theorem dX11_servesBy_30 : decode cX11_servesBy 30 = .ok (.invokevirtual 283, 3) := dq daX11_servesBy_18_0 18 rfl
theorem dX11_servesBy_33 : decode cX11_servesBy 33 = .ok (.aload_n 0, 1) := dq daX11_servesBy_18_0 19 rfl
theorem dX11_servesBy_34 : decode cX11_servesBy 34 = .ok (.getfield 39, 3) := dq daX11_servesBy_18_0 20 rfl
theorem dX11_servesBy_37 : decode cX11_servesBy 37 = .ok (.iload 4, 2) := dq daX11_servesBy_18_0 21 rfl
theorem dX11_servesBy_39 : decode cX11_servesBy 39 = .ok (.iaload, 1) := dq daX11_servesBy_18_0 22 rfl
theorem dX11_servesBy_40 : decode cX11_servesBy 40 = .ok (.aload_n 0, 1) := dq daX11_servesBy_18_0 23 rfl
theorem dX11_servesBy_41 : decode cX11_servesBy 41 = .ok (.getfield 39, 3) := dq daX11_servesBy_18_0 24 rfl
theorem dX11_servesBy_44 : decode cX11_servesBy 44 = .ok (.iconst 5, 1) := dq daX11_servesBy_18_0 25 rfl
theorem dX11_servesBy_45 : decode cX11_servesBy 45 = .ok (.iaload, 1) := dq daX11_servesBy_18_0 26 rfl
theorem dX11_servesBy_46 : decode cX11_servesBy 46 = .ok (.aload_n 0, 1) := dq daX11_servesBy_18_0 27 rfl
theorem dX11_servesBy_47 : decode cX11_servesBy 47 = .ok (.iload_n 2, 1) := dq daX11_servesBy_18_0 28 rfl
theorem dX11_servesBy_48 : decode cX11_servesBy 48 = .ok (.iconst 4, 1) := dq daX11_servesBy_18_0 29 rfl
theorem dX11_servesBy_49 : decode cX11_servesBy 49 = .ok (.invokevirtual 283, 3) := dq daX11_servesBy_18_0 30 rfl
theorem dX11_servesBy_52 : decode cX11_servesBy 52 = .ok (.aload_n 0, 1) := dq daX11_servesBy_18_0 31 rfl
def dtX11_servesBy_18_1 : List (Nat × Jvm.ClassFile.Instr × Nat) := [(53, .iload_n 2, 1), (54, .iconst 0, 1), (55, .invokevirtual 283, 3), (58, .aload_n 0, 1), (59, .iload_n 2, 1), (60, .iconst 1, 1), (61, .invokevirtual 283, 3), (64, .iconst (-1), 1), (65, .aload_n 0, 1), (66, .getfield 39, 3), (69, .iload 4, 2), (71, .iconst 1, 1), (72, .iadd, 1), (73, .iaload, 1), (74, .invokevirtual 426, 3), (77, .aload_n 0, 1), (78, .getfield 413, 3), (81, .aload_n 0, 1), (82, .getfield 39, 3), (85, .iload 4, 2), (87, .iconst 2, 1), (88, .iadd, 1), (89, .iaload, 1), (90, .if_icmp .lt 10, 3), (100, .bipush (-2), 2), (93, .aload_n 0, 1), (94, .getfield 413, 3), (97, .goto 5, 3), (17, .bipush (-2), 2), (19, .ireturn, 1), (102, .ireturn, 1)]
theorem daX11_servesBy_18_1 : dtX11_servesBy_18_1.all (dqd cX11_servesBy) = true := by decide +kernel
theorem dX11_servesBy_53 : decode cX11_servesBy 53 = .ok (.iload_n 2, 1) := dq daX11_servesBy_18_1 0 rfl
theorem dX11_servesBy_54 : decode cX11_servesBy 54 = .ok (.iconst 0, 1) := dq daX11_servesBy_18_1 1 rfl
theorem dX11_servesBy_55 : decode cX11_servesBy 55 = .ok (.invokevirtual 283, 3) := dq daX11_servesBy_18_1 2 rfl
theorem dX11_servesBy_58 : decode cX11_servesBy 58 = .ok (.aload_n 0, 1) := dq daX11_servesBy_18_1 3 rfl
theorem dX11_servesBy_59 : decode cX11_servesBy 59 = .ok (.iload_n 2, 1) := dq daX11_servesBy_18_1 4 rfl
theorem dX11_servesBy_60 : decode cX11_servesBy 60 = .ok (.iconst 1, 1) := dq daX11_servesBy_18_1 5 rfl
theorem dX11_servesBy_61 : decode cX11_servesBy 61 = .ok (.invokevirtual 283, 3) := dq daX11_servesBy_18_1 6 rfl
theorem dX11_servesBy_64 : decode cX11_servesBy 64 = .ok (.iconst (-1), 1) := dq daX11_servesBy_18_1 7 rfl
theorem dX11_servesBy_65 : decode cX11_servesBy 65 = .ok (.aload_n 0, 1) := dq daX11_servesBy_18_1 8 rfl
theorem dX11_servesBy_66 : decode cX11_servesBy 66 = .ok (.getfield 39, 3) := dq daX11_servesBy_18_1 9 rfl
theorem dX11_servesBy_69 : decode cX11_servesBy 69 = .ok (.iload 4, 2) := dq daX11_servesBy_18_1 10 rfl
theorem dX11_servesBy_71 : decode cX11_servesBy 71 = .ok (.iconst 1, 1) := dq daX11_servesBy_18_1 11 rfl
theorem dX11_servesBy_72 : decode cX11_servesBy 72 = .ok (.iadd, 1) := dq daX11_servesBy_18_1 12 rfl
theorem dX11_servesBy_73 : decode cX11_servesBy 73 = .ok (.iaload, 1) := dq daX11_servesBy_18_1 13 rfl
theorem dX11_servesBy_74 : decode cX11_servesBy 74 = .ok (.invokevirtual 426, 3) := dq daX11_servesBy_18_1 14 rfl
theorem dX11_servesBy_77 : decode cX11_servesBy 77 = .ok (.aload_n 0, 1) := dq daX11_servesBy_18_1 15 rfl
theorem dX11_servesBy_78 : decode cX11_servesBy 78 = .ok (.getfield 413, 3) := dq daX11_servesBy_18_1 16 rfl
theorem dX11_servesBy_81 : decode cX11_servesBy 81 = .ok (.aload_n 0, 1) := dq daX11_servesBy_18_1 17 rfl
theorem dX11_servesBy_82 : decode cX11_servesBy 82 = .ok (.getfield 39, 3) := dq daX11_servesBy_18_1 18 rfl
theorem dX11_servesBy_85 : decode cX11_servesBy 85 = .ok (.iload 4, 2) := dq daX11_servesBy_18_1 19 rfl
theorem dX11_servesBy_87 : decode cX11_servesBy 87 = .ok (.iconst 2, 1) := dq daX11_servesBy_18_1 20 rfl
theorem dX11_servesBy_88 : decode cX11_servesBy 88 = .ok (.iadd, 1) := dq daX11_servesBy_18_1 21 rfl
theorem dX11_servesBy_89 : decode cX11_servesBy 89 = .ok (.iaload, 1) := dq daX11_servesBy_18_1 22 rfl
theorem dX11_servesBy_90 : decode cX11_servesBy 90 = .ok (.if_icmp .lt 10, 3) := dq daX11_servesBy_18_1 23 rfl
theorem dX11_servesBy_100 : decode cX11_servesBy 100 = .ok (.bipush (-2), 2) := dq daX11_servesBy_18_1 24 rfl
theorem dX11_servesBy_93 : decode cX11_servesBy 93 = .ok (.aload_n 0, 1) := dq daX11_servesBy_18_1 25 rfl
theorem dX11_servesBy_94 : decode cX11_servesBy 94 = .ok (.getfield 413, 3) := dq daX11_servesBy_18_1 26 rfl
theorem dX11_servesBy_97 : decode cX11_servesBy 97 = .ok (.goto 5, 3) := dq daX11_servesBy_18_1 27 rfl
theorem dX11_servesBy_17 : decode cX11_servesBy 17 = .ok (.bipush (-2), 2) := dq daX11_servesBy_18_1 28 rfl
theorem dX11_servesBy_19 : decode cX11_servesBy 19 = .ok (.ireturn, 1) := dq daX11_servesBy_18_1 29 rfl
theorem dX11_servesBy_102 : decode cX11_servesBy 102 = .ok (.ireturn, 1) := dq daX11_servesBy_18_1 30 rfl
def dtX11_serves_18_0 : List (Nat × Jvm.ClassFile.Instr × Nat) := [(0, .aload_n 0, 1), (1, .iload_n 1, 1), (2, .invokevirtual 363, 3), (5, .ifCond .eq 39, 3), (44, .iconst (-1), 1), (45, .ireturn, 1), (8, .aload_n 0, 1), (9, .iload_n 2, 1), (10, .invokevirtual 280, 3), (13, .ifCond .eq 31, 3), (16, .iload_n 3, 1), (17, .i2l, 1), (18, .lconst 0, 1), (19, .aload_n 0, 1), (20, .getfield 39, 3), (23, .iconst 3, 1), (24, .iaload, 1), (25, .iconst 1, 1), (26, .isub, 1), (27, .i2l, 1), (28, .invokestatic 118, 3), (31, .ifCond .eq 13, 3), (34, .aload_n 0, 1), (35, .iload_n 1, 1), (36, .iload_n 2, 1), (37, .iload_n 3, 1), (38, .invokevirtual 447, 3), (41, .goto 4, 3)]
theorem daX11_serves_18_0 : dtX11_serves_18_0.all (dqd cX11_serves) = true := by decide +kernel
theorem dX11_serves_0 : decode cX11_serves 0 = .ok (.aload_n 0, 1) := dq daX11_serves_18_0 0 rfl
theorem dX11_serves_1 : decode cX11_serves 1 = .ok (.iload_n 1, 1) := dq daX11_serves_18_0 1 rfl
theorem dX11_serves_2 : decode cX11_serves 2 = .ok (.invokevirtual 363, 3) := dq daX11_serves_18_0 2 rfl
theorem dX11_serves_5 : decode cX11_serves 5 = .ok (.ifCond .eq 39, 3) := dq daX11_serves_18_0 3 rfl
theorem dX11_serves_44 : decode cX11_serves 44 = .ok (.iconst (-1), 1) := dq daX11_serves_18_0 4 rfl
theorem dX11_serves_45 : decode cX11_serves 45 = .ok (.ireturn, 1) := dq daX11_serves_18_0 5 rfl
theorem dX11_serves_8 : decode cX11_serves 8 = .ok (.aload_n 0, 1) := dq daX11_serves_18_0 6 rfl
theorem dX11_serves_9 : decode cX11_serves 9 = .ok (.iload_n 2, 1) := dq daX11_serves_18_0 7 rfl
theorem dX11_serves_10 : decode cX11_serves 10 = .ok (.invokevirtual 280, 3) := dq daX11_serves_18_0 8 rfl
theorem dX11_serves_13 : decode cX11_serves 13 = .ok (.ifCond .eq 31, 3) := dq daX11_serves_18_0 9 rfl
theorem dX11_serves_16 : decode cX11_serves 16 = .ok (.iload_n 3, 1) := dq daX11_serves_18_0 10 rfl
theorem dX11_serves_17 : decode cX11_serves 17 = .ok (.i2l, 1) := dq daX11_serves_18_0 11 rfl
theorem dX11_serves_18 : decode cX11_serves 18 = .ok (.lconst 0, 1) := dq daX11_serves_18_0 12 rfl
theorem dX11_serves_19 : decode cX11_serves 19 = .ok (.aload_n 0, 1) := dq daX11_serves_18_0 13 rfl
theorem dX11_serves_20 : decode cX11_serves 20 = .ok (.getfield 39, 3) := dq daX11_serves_18_0 14 rfl
theorem dX11_serves_23 : decode cX11_serves 23 = .ok (.iconst 3, 1) := dq daX11_serves_18_0 15 rfl
theorem dX11_serves_24 : decode cX11_serves 24 = .ok (.iaload, 1) := dq daX11_serves_18_0 16 rfl
theorem dX11_serves_25 : decode cX11_serves 25 = .ok (.iconst 1, 1) := dq daX11_serves_18_0 17 rfl
theorem dX11_serves_26 : decode cX11_serves 26 = .ok (.isub, 1) := dq daX11_serves_18_0 18 rfl
theorem dX11_serves_27 : decode cX11_serves 27 = .ok (.i2l, 1) := dq daX11_serves_18_0 19 rfl
theorem dX11_serves_28 : decode cX11_serves 28 = .ok (.invokestatic 118, 3) := dq daX11_serves_18_0 20 rfl
theorem dX11_serves_31 : decode cX11_serves 31 = .ok (.ifCond .eq 13, 3) := dq daX11_serves_18_0 21 rfl
theorem dX11_serves_34 : decode cX11_serves 34 = .ok (.aload_n 0, 1) := dq daX11_serves_18_0 22 rfl
theorem dX11_serves_35 : decode cX11_serves 35 = .ok (.iload_n 1, 1) := dq daX11_serves_18_0 23 rfl
theorem dX11_serves_36 : decode cX11_serves 36 = .ok (.iload_n 2, 1) := dq daX11_serves_18_0 24 rfl
theorem dX11_serves_37 : decode cX11_serves 37 = .ok (.iload_n 3, 1) := dq daX11_serves_18_0 25 rfl
theorem dX11_serves_38 : decode cX11_serves 38 = .ok (.invokevirtual 447, 3) := dq daX11_serves_18_0 26 rfl
theorem dX11_serves_41 : decode cX11_serves 41 = .ok (.goto 4, 3) := dq daX11_serves_18_0 27 rfl
def dtX11_priceFrom_18_0 : List (Nat × Jvm.ClassFile.Instr × Nat) := [(0, .iconst 0, 1), (1, .istore_n 3, 1), (2, .iconst 0, 1), (3, .istore 4, 2), (5, .iload 4, 2), (7, .iconst 1, 1), (8, .aload_n 0, 1), (9, .getfield 39, 3), (12, .iconst 3, 1), (13, .iaload, 1), (14, .ishl, 1), (15, .if_icmp .ge 104, 3), (18, .iload 4, 2), (20, .iconst 1, 1), (21, .iload_n 1, 1), (22, .ishl, 1), (23, .iconst 1, 1), (24, .isub, 1), (25, .iand, 1), (26, .ifCond .ne 87, 3), (113, .iinc 4 1, 3), (116, .goto (-111), 3), (29, .aload_n 0, 1), (30, .iload 4, 2), (32, .iload_n 2, 1), (33, .invokevirtual 453, 3), (36, .ifCond .ne 6, 3), (42, .iconst 0, 1), (43, .istore 5, 2), (45, .iconst 0, 1), (46, .istore 6, 2), (48, .iload 6, 2)]
theorem daX11_priceFrom_18_0 : dtX11_priceFrom_18_0.all (dqd cX11_priceFrom) = true := by decide +kernel
theorem dX11_priceFrom_0 : decode cX11_priceFrom 0 = .ok (.iconst 0, 1) := dq daX11_priceFrom_18_0 0 rfl
theorem dX11_priceFrom_1 : decode cX11_priceFrom 1 = .ok (.istore_n 3, 1) := dq daX11_priceFrom_18_0 1 rfl
theorem dX11_priceFrom_2 : decode cX11_priceFrom 2 = .ok (.iconst 0, 1) := dq daX11_priceFrom_18_0 2 rfl
theorem dX11_priceFrom_3 : decode cX11_priceFrom 3 = .ok (.istore 4, 2) := dq daX11_priceFrom_18_0 3 rfl
theorem dX11_priceFrom_5 : decode cX11_priceFrom 5 = .ok (.iload 4, 2) := dq daX11_priceFrom_18_0 4 rfl
theorem dX11_priceFrom_7 : decode cX11_priceFrom 7 = .ok (.iconst 1, 1) := dq daX11_priceFrom_18_0 5 rfl
theorem dX11_priceFrom_8 : decode cX11_priceFrom 8 = .ok (.aload_n 0, 1) := dq daX11_priceFrom_18_0 6 rfl
theorem dX11_priceFrom_9 : decode cX11_priceFrom 9 = .ok (.getfield 39, 3) := dq daX11_priceFrom_18_0 7 rfl
theorem dX11_priceFrom_12 : decode cX11_priceFrom 12 = .ok (.iconst 3, 1) := dq daX11_priceFrom_18_0 8 rfl
theorem dX11_priceFrom_13 : decode cX11_priceFrom 13 = .ok (.iaload, 1) := dq daX11_priceFrom_18_0 9 rfl
theorem dX11_priceFrom_14 : decode cX11_priceFrom 14 = .ok (.ishl, 1) := dq daX11_priceFrom_18_0 10 rfl
theorem dX11_priceFrom_15 : decode cX11_priceFrom 15 = .ok (.if_icmp .ge 104, 3) := dq daX11_priceFrom_18_0 11 rfl
theorem dX11_priceFrom_18 : decode cX11_priceFrom 18 = .ok (.iload 4, 2) := dq daX11_priceFrom_18_0 12 rfl
theorem dX11_priceFrom_20 : decode cX11_priceFrom 20 = .ok (.iconst 1, 1) := dq daX11_priceFrom_18_0 13 rfl
theorem dX11_priceFrom_21 : decode cX11_priceFrom 21 = .ok (.iload_n 1, 1) := dq daX11_priceFrom_18_0 14 rfl
theorem dX11_priceFrom_22 : decode cX11_priceFrom 22 = .ok (.ishl, 1) := dq daX11_priceFrom_18_0 15 rfl
theorem dX11_priceFrom_23 : decode cX11_priceFrom 23 = .ok (.iconst 1, 1) := dq daX11_priceFrom_18_0 16 rfl
theorem dX11_priceFrom_24 : decode cX11_priceFrom 24 = .ok (.isub, 1) := dq daX11_priceFrom_18_0 17 rfl
theorem dX11_priceFrom_25 : decode cX11_priceFrom 25 = .ok (.iand, 1) := dq daX11_priceFrom_18_0 18 rfl
theorem dX11_priceFrom_26 : decode cX11_priceFrom 26 = .ok (.ifCond .ne 87, 3) := dq daX11_priceFrom_18_0 19 rfl
theorem dX11_priceFrom_113 : decode cX11_priceFrom 113 = .ok (.iinc 4 1, 3) := dq daX11_priceFrom_18_0 20 rfl
theorem dX11_priceFrom_116 : decode cX11_priceFrom 116 = .ok (.goto (-111), 3) := dq daX11_priceFrom_18_0 21 rfl
theorem dX11_priceFrom_29 : decode cX11_priceFrom 29 = .ok (.aload_n 0, 1) := dq daX11_priceFrom_18_0 22 rfl
theorem dX11_priceFrom_30 : decode cX11_priceFrom 30 = .ok (.iload 4, 2) := dq daX11_priceFrom_18_0 23 rfl
theorem dX11_priceFrom_32 : decode cX11_priceFrom 32 = .ok (.iload_n 2, 1) := dq daX11_priceFrom_18_0 24 rfl
theorem dX11_priceFrom_33 : decode cX11_priceFrom 33 = .ok (.invokevirtual 453, 3) := dq daX11_priceFrom_18_0 25 rfl
theorem dX11_priceFrom_36 : decode cX11_priceFrom 36 = .ok (.ifCond .ne 6, 3) := dq daX11_priceFrom_18_0 26 rfl
theorem dX11_priceFrom_42 : decode cX11_priceFrom 42 = .ok (.iconst 0, 1) := dq daX11_priceFrom_18_0 27 rfl
theorem dX11_priceFrom_43 : decode cX11_priceFrom 43 = .ok (.istore 5, 2) := dq daX11_priceFrom_18_0 28 rfl
theorem dX11_priceFrom_45 : decode cX11_priceFrom 45 = .ok (.iconst 0, 1) := dq daX11_priceFrom_18_0 29 rfl
theorem dX11_priceFrom_46 : decode cX11_priceFrom 46 = .ok (.istore 6, 2) := dq daX11_priceFrom_18_0 30 rfl
theorem dX11_priceFrom_48 : decode cX11_priceFrom 48 = .ok (.iload 6, 2) := dq daX11_priceFrom_18_0 31 rfl
def dtX11_priceFrom_18_1 : List (Nat × Jvm.ClassFile.Instr × Nat) := [(50, .aload_n 0, 1), (51, .getfield 39, 3), (54, .iconst 3, 1), (55, .iaload, 1), (56, .if_icmp .ge 44, 3), (59, .iload 5, 2), (61, .iload 4, 2), (63, .iload 6, 2), (65, .ishr, 1), (66, .iconst 1, 1), (67, .iand, 1), (68, .iconst 1, 1), (69, .if_icmp .ne 21, 3), (90, .iconst 0, 1), (91, .iadd, 1), (92, .istore 5, 2), (94, .iinc 6 1, 3), (97, .goto (-49), 3), (100, .iload 5, 2), (102, .iload_n 3, 1), (103, .if_icmp .le 8, 3), (111, .iload_n 3, 1), (112, .istore_n 3, 1), (39, .goto 74, 3), (119, .iload_n 3, 1), (120, .ireturn, 1), (72, .aload_n 0, 1), (73, .getfield 39, 3), (76, .sipush 312, 3), (79, .iconst 4, 1), (80, .iload 6, 2), (82, .imul, 1)]
theorem daX11_priceFrom_18_1 : dtX11_priceFrom_18_1.all (dqd cX11_priceFrom) = true := by decide +kernel
theorem dX11_priceFrom_50 : decode cX11_priceFrom 50 = .ok (.aload_n 0, 1) := dq daX11_priceFrom_18_1 0 rfl
theorem dX11_priceFrom_51 : decode cX11_priceFrom 51 = .ok (.getfield 39, 3) := dq daX11_priceFrom_18_1 1 rfl
theorem dX11_priceFrom_54 : decode cX11_priceFrom 54 = .ok (.iconst 3, 1) := dq daX11_priceFrom_18_1 2 rfl
theorem dX11_priceFrom_55 : decode cX11_priceFrom 55 = .ok (.iaload, 1) := dq daX11_priceFrom_18_1 3 rfl
theorem dX11_priceFrom_56 : decode cX11_priceFrom 56 = .ok (.if_icmp .ge 44, 3) := dq daX11_priceFrom_18_1 4 rfl
theorem dX11_priceFrom_59 : decode cX11_priceFrom 59 = .ok (.iload 5, 2) := dq daX11_priceFrom_18_1 5 rfl
theorem dX11_priceFrom_61 : decode cX11_priceFrom 61 = .ok (.iload 4, 2) := dq daX11_priceFrom_18_1 6 rfl
theorem dX11_priceFrom_63 : decode cX11_priceFrom 63 = .ok (.iload 6, 2) := dq daX11_priceFrom_18_1 7 rfl
theorem dX11_priceFrom_65 : decode cX11_priceFrom 65 = .ok (.ishr, 1) := dq daX11_priceFrom_18_1 8 rfl
theorem dX11_priceFrom_66 : decode cX11_priceFrom 66 = .ok (.iconst 1, 1) := dq daX11_priceFrom_18_1 9 rfl
theorem dX11_priceFrom_67 : decode cX11_priceFrom 67 = .ok (.iand, 1) := dq daX11_priceFrom_18_1 10 rfl
theorem dX11_priceFrom_68 : decode cX11_priceFrom 68 = .ok (.iconst 1, 1) := dq daX11_priceFrom_18_1 11 rfl
theorem dX11_priceFrom_69 : decode cX11_priceFrom 69 = .ok (.if_icmp .ne 21, 3) := dq daX11_priceFrom_18_1 12 rfl
theorem dX11_priceFrom_90 : decode cX11_priceFrom 90 = .ok (.iconst 0, 1) := dq daX11_priceFrom_18_1 13 rfl
theorem dX11_priceFrom_91 : decode cX11_priceFrom 91 = .ok (.iadd, 1) := dq daX11_priceFrom_18_1 14 rfl
theorem dX11_priceFrom_92 : decode cX11_priceFrom 92 = .ok (.istore 5, 2) := dq daX11_priceFrom_18_1 15 rfl
theorem dX11_priceFrom_94 : decode cX11_priceFrom 94 = .ok (.iinc 6 1, 3) := dq daX11_priceFrom_18_1 16 rfl
theorem dX11_priceFrom_97 : decode cX11_priceFrom 97 = .ok (.goto (-49), 3) := dq daX11_priceFrom_18_1 17 rfl
theorem dX11_priceFrom_100 : decode cX11_priceFrom 100 = .ok (.iload 5, 2) := dq daX11_priceFrom_18_1 18 rfl
theorem dX11_priceFrom_102 : decode cX11_priceFrom 102 = .ok (.iload_n 3, 1) := dq daX11_priceFrom_18_1 19 rfl
theorem dX11_priceFrom_103 : decode cX11_priceFrom 103 = .ok (.if_icmp .le 8, 3) := dq daX11_priceFrom_18_1 20 rfl
theorem dX11_priceFrom_111 : decode cX11_priceFrom 111 = .ok (.iload_n 3, 1) := dq daX11_priceFrom_18_1 21 rfl
theorem dX11_priceFrom_112 : decode cX11_priceFrom 112 = .ok (.istore_n 3, 1) := dq daX11_priceFrom_18_1 22 rfl
theorem dX11_priceFrom_39 : decode cX11_priceFrom 39 = .ok (.goto 74, 3) := dq daX11_priceFrom_18_1 23 rfl
theorem dX11_priceFrom_119 : decode cX11_priceFrom 119 = .ok (.iload_n 3, 1) := dq daX11_priceFrom_18_1 24 rfl
theorem dX11_priceFrom_120 : decode cX11_priceFrom 120 = .ok (.ireturn, 1) := dq daX11_priceFrom_18_1 25 rfl
theorem dX11_priceFrom_72 : decode cX11_priceFrom 72 = .ok (.aload_n 0, 1) := dq daX11_priceFrom_18_1 26 rfl
theorem dX11_priceFrom_73 : decode cX11_priceFrom 73 = .ok (.getfield 39, 3) := dq daX11_priceFrom_18_1 27 rfl
theorem dX11_priceFrom_76 : decode cX11_priceFrom 76 = .ok (.sipush 312, 3) := dq daX11_priceFrom_18_1 28 rfl
theorem dX11_priceFrom_79 : decode cX11_priceFrom 79 = .ok (.iconst 4, 1) := dq daX11_priceFrom_18_1 29 rfl
theorem dX11_priceFrom_80 : decode cX11_priceFrom 80 = .ok (.iload 6, 2) := dq daX11_priceFrom_18_1 30 rfl
theorem dX11_priceFrom_82 : decode cX11_priceFrom 82 = .ok (.imul, 1) := dq daX11_priceFrom_18_1 31 rfl
def dtX11_priceFrom_18_2 : List (Nat × Jvm.ClassFile.Instr × Nat) := [(83, .iadd, 1), (84, .iconst 3, 1), (85, .iadd, 1), (86, .iaload, 1), (87, .goto 4, 3), (106, .iload 5, 2), (108, .goto 4, 3)]
theorem daX11_priceFrom_18_2 : dtX11_priceFrom_18_2.all (dqd cX11_priceFrom) = true := by decide +kernel
theorem dX11_priceFrom_83 : decode cX11_priceFrom 83 = .ok (.iadd, 1) := dq daX11_priceFrom_18_2 0 rfl
theorem dX11_priceFrom_84 : decode cX11_priceFrom 84 = .ok (.iconst 3, 1) := dq daX11_priceFrom_18_2 1 rfl
theorem dX11_priceFrom_85 : decode cX11_priceFrom 85 = .ok (.iadd, 1) := dq daX11_priceFrom_18_2 2 rfl
theorem dX11_priceFrom_86 : decode cX11_priceFrom 86 = .ok (.iaload, 1) := dq daX11_priceFrom_18_2 3 rfl
theorem dX11_priceFrom_87 : decode cX11_priceFrom 87 = .ok (.goto 4, 3) := dq daX11_priceFrom_18_2 4 rfl
theorem dX11_priceFrom_106 : decode cX11_priceFrom 106 = .ok (.iload 5, 2) := dq daX11_priceFrom_18_2 5 rfl
theorem dX11_priceFrom_108 : decode cX11_priceFrom 108 = .ok (.goto 4, 3) := dq daX11_priceFrom_18_2 6 rfl
