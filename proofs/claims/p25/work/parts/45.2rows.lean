theorem fsX1 : ∀ j, j < 17 → defaultValue (tyX1 j) = vp_V [.int 0, .int 0, .null, .null, .null, .null, .null, .int 0, .null, .null, .int 0, .null, .null, .null, .null, .int 0, .null] j := by decide +kernel
theorem kX10_law_1 {a : Array Value} {s : State} (hts : ∀ w ∈ wsX10_law, w.before a s = true) : (.fieldLink RX10 128 "SnowMules" "lawCount" "I" : Cond).before a s = true := kw (A := ixX10_law) wt281 hts (by decide +kernel)
theorem kX10_law_2 {a : Array Value} {s : State} (hts : ∀ w ∈ wsX10_law, w.before a s = true) : (.fieldLink RX10 29 "SnowMules" "laws" "[LSnowMules$Law;" : Cond).before a s = true := kw (A := ixX10_law) wt21 hts (by decide +kernel)
theorem kX10_law_6 {a : Array Value} {s : State} (hts : ∀ w ∈ wsX10_law, w.before a s = true) : (.fieldLink RX10 36 "SnowMules" "reader" "LSnowMules$LawReader;" : Cond).before a s = true := kw (A := ixX10_law) wt25 hts (by decide +kernel)
theorem kX10_law_7 {a : Array Value} {s : State} (hts : ∀ w ∈ wsX10_law, w.before a s = true) : (.fieldLink RX10 23 "SnowMules" "tape" "[I" : Cond).before a s = true := kw (A := ixX10_law) wt19 hts (by decide +kernel)
theorem kX10_law_8 {a : Array Value} {s : State} (hts : ∀ w ∈ wsX10_law, w.before a s = true) : (.fieldLink RX10 121 "SnowMules" "tapeLength" "I" : Cond).before a s = true := kw (A := ixX10_law) wt255 hts (by decide +kernel)
theorem kX10_law_3 {a : Array Value} {s : State} (hts : ∀ w ∈ wsX10_law, w.before a s = true) : (.classLink RX10 27 RX1 : Cond).before a s = true := kw (A := ixX10_law) wt20 hts (by decide +kernel)
theorem kX10_law_4 {a : Array Value} {s : State} (hts : ∀ w ∈ wsX10_law, w.before a s = true) : (.instantiable RX1 17 : Cond).before a s = true := kw (A := ixX10_law) wt75 hts (by decide +kernel)
theorem kX10_law_5 {a : Array Value} {s : State} (hts : ∀ w ∈ wsX10_law, w.before a s = true) : (.initialized RX1 : Cond).before a s = true := kw (A := ixX10_law) wt76 hts (by decide +kernel)
theorem kX10_law_9 {a : Array Value} {s : State} (hts : ∀ w ∈ wsX10_law, w.before a s = true) : (.instanceMethod yX1_init : Cond).before a s = true := kw (A := ixX10_law) wt78 hts (by decide +kernel)
theorem iX10_law_X10 : ∀ w ∈ wsX100, w ∈ wsX10_law := inW (A := ixX10_law) uwX10 (by decide +kernel)
theorem iX10_law_X1 : ∀ w ∈ wsX10, w ∈ wsX10_law := inW (A := ixX10_law) uwX1 (by decide +kernel)
theorem hdX2_read : yX2_read.cls ≠ "java/lang/invoke/MethodHandle" ∧ yX2_read.cls ≠ "java/lang/invoke/VarHandle" ∧ (parseMethodDescriptor yX2_read.desc).map (fun d => d.parameters.length) = some 3 := ⟨hdc_12.1, hdc_12.2, hdd_56⟩
theorem hdX1_init : yX1_init.cls ≠ "java/lang/invoke/MethodHandle" ∧ yX1_init.cls ≠ "java/lang/invoke/VarHandle" ∧ (parseMethodDescriptor yX1_init.desc).map (fun d => d.parameters.length) = some 0 := ⟨hdc_3.1, hdc_3.2, hdd_24⟩
def dtX10_law_45_0 : List (Nat × Jvm.ClassFile.Instr × Nat) := [(0, .aload_n 0, 1), (1, .getfield 128, 3), (4, .bipush 6, 2), (6, .if_icmp .lt 5, 3), (9, .iconst (-1), 1), (10, .ireturn, 1), (11, .aload_n 0, 1), (12, .getfield 29, 3), (15, .aload_n 0, 1), (16, .getfield 128, 3), (19, .aaload, 1), (20, .ifnonnull 19, 3), (39, .aload_n 0, 1), (40, .getfield 36, 3), (43, .aload_n 0, 1), (44, .getfield 23, 3), (47, .aload_n 0, 1), (48, .getfield 121, 3), (51, .aload_n 0, 1), (52, .getfield 29, 3), (55, .aload_n 0, 1), (56, .getfield 128, 3), (59, .aaload, 1), (60, .invokevirtual 132, 3), (63, .istore_n 1, 1), (64, .aload_n 0, 1), (65, .iconst 0, 1), (66, .putfield 121, 3), (69, .iload_n 1, 1), (70, .ifCond .eq 8, 3), (78, .aload_n 0, 1), (79, .dup, 1)]
theorem daX10_law_45_0 : dtX10_law_45_0.all (dqd cX10_law) = true := by decide +kernel
theorem dX10_law_0 : decode cX10_law 0 = .ok (.aload_n 0, 1) := dq daX10_law_45_0 0 rfl
theorem dX10_law_1 : decode cX10_law 1 = .ok (.getfield 128, 3) := dq daX10_law_45_0 1 rfl
theorem dX10_law_4 : decode cX10_law 4 = .ok (.bipush 6, 2) := dq daX10_law_45_0 2 rfl
theorem dX10_law_6 : decode cX10_law 6 = .ok (.if_icmp .lt 5, 3) := dq daX10_law_45_0 3 rfl
theorem dX10_law_9 : decode cX10_law 9 = .ok (.iconst (-1), 1) := dq daX10_law_45_0 4 rfl
theorem dX10_law_10 : decode cX10_law 10 = .ok (.ireturn, 1) := dq daX10_law_45_0 5 rfl
theorem dX10_law_11 : decode cX10_law 11 = .ok (.aload_n 0, 1) := dq daX10_law_45_0 6 rfl
theorem dX10_law_12 : decode cX10_law 12 = .ok (.getfield 29, 3) := dq daX10_law_45_0 7 rfl
theorem dX10_law_15 : decode cX10_law 15 = .ok (.aload_n 0, 1) := dq daX10_law_45_0 8 rfl
theorem dX10_law_16 : decode cX10_law 16 = .ok (.getfield 128, 3) := dq daX10_law_45_0 9 rfl
theorem dX10_law_19 : decode cX10_law 19 = .ok (.aaload, 1) := dq daX10_law_45_0 10 rfl
theorem dX10_law_20 : decode cX10_law 20 = .ok (.ifnonnull 19, 3) := dq daX10_law_45_0 11 rfl
theorem dX10_law_39 : decode cX10_law 39 = .ok (.aload_n 0, 1) := dq daX10_law_45_0 12 rfl
theorem dX10_law_40 : decode cX10_law 40 = .ok (.getfield 36, 3) := dq daX10_law_45_0 13 rfl
theorem dX10_law_43 : decode cX10_law 43 = .ok (.aload_n 0, 1) := dq daX10_law_45_0 14 rfl
theorem dX10_law_44 : decode cX10_law 44 = .ok (.getfield 23, 3) := dq daX10_law_45_0 15 rfl
theorem dX10_law_47 : decode cX10_law 47 = .ok (.aload_n 0, 1) := dq daX10_law_45_0 16 rfl
theorem dX10_law_48 : decode cX10_law 48 = .ok (.getfield 121, 3) := dq daX10_law_45_0 17 rfl
theorem dX10_law_51 : decode cX10_law 51 = .ok (.aload_n 0, 1) := dq daX10_law_45_0 18 rfl
theorem dX10_law_52 : decode cX10_law 52 = .ok (.getfield 29, 3) := dq daX10_law_45_0 19 rfl
theorem dX10_law_55 : decode cX10_law 55 = .ok (.aload_n 0, 1) := dq daX10_law_45_0 20 rfl
theorem dX10_law_56 : decode cX10_law 56 = .ok (.getfield 128, 3) := dq daX10_law_45_0 21 rfl
theorem dX10_law_59 : decode cX10_law 59 = .ok (.aaload, 1) := dq daX10_law_45_0 22 rfl
theorem dX10_law_60 : decode cX10_law 60 = .ok (.invokevirtual 132, 3) := dq daX10_law_45_0 23 rfl
theorem dX10_law_63 : decode cX10_law 63 = .ok (.istore_n 1, 1) := dq daX10_law_45_0 24 rfl
theorem dX10_law_64 : decode cX10_law 64 = .ok (.aload_n 0, 1) := dq daX10_law_45_0 25 rfl
theorem dX10_law_65 : decode cX10_law 65 = .ok (.iconst 0, 1) := dq daX10_law_45_0 26 rfl
theorem dX10_law_66 : decode cX10_law 66 = .ok (.putfield 121, 3) := dq daX10_law_45_0 27 rfl
theorem dX10_law_69 : decode cX10_law 69 = .ok (.iload_n 1, 1) := dq daX10_law_45_0 28 rfl
theorem dX10_law_70 : decode cX10_law 70 = .ok (.ifCond .eq 8, 3) := dq daX10_law_45_0 29 rfl
theorem dX10_law_78 : decode cX10_law 78 = .ok (.aload_n 0, 1) := dq daX10_law_45_0 30 rfl
theorem dX10_law_79 : decode cX10_law 79 = .ok (.dup, 1) := dq daX10_law_45_0 31 rfl
def dtX10_law_45_1 : List (Nat × Jvm.ClassFile.Instr × Nat) := [(80, .getfield 128, 3), (83, .iconst 1, 1), (84, .iadd, 1), (85, .putfield 128, 3), (88, .aload_n 0, 1), (89, .getfield 128, 3), (92, .iconst 1, 1), (93, .isub, 1), (94, .ireturn, 1), (73, .bipush (-2), 2), (75, .iload_n 1, 1), (76, .isub, 1), (77, .ireturn, 1), (23, .aload_n 0, 1), (24, .getfield 29, 3), (27, .aload_n 0, 1), (28, .getfield 128, 3), (31, .new 27, 3), (34, .dup, 1), (35, .invokespecial 131, 3), (38, .aastore, 1)]
theorem daX10_law_45_1 : dtX10_law_45_1.all (dqd cX10_law) = true := by decide +kernel
theorem dX10_law_80 : decode cX10_law 80 = .ok (.getfield 128, 3) := dq daX10_law_45_1 0 rfl
theorem dX10_law_83 : decode cX10_law 83 = .ok (.iconst 1, 1) := dq daX10_law_45_1 1 rfl
theorem dX10_law_84 : decode cX10_law 84 = .ok (.iadd, 1) := dq daX10_law_45_1 2 rfl
theorem dX10_law_85 : decode cX10_law 85 = .ok (.putfield 128, 3) := dq daX10_law_45_1 3 rfl
theorem dX10_law_88 : decode cX10_law 88 = .ok (.aload_n 0, 1) := dq daX10_law_45_1 4 rfl
theorem dX10_law_89 : decode cX10_law 89 = .ok (.getfield 128, 3) := dq daX10_law_45_1 5 rfl
theorem dX10_law_92 : decode cX10_law 92 = .ok (.iconst 1, 1) := dq daX10_law_45_1 6 rfl
theorem dX10_law_93 : decode cX10_law 93 = .ok (.isub, 1) := dq daX10_law_45_1 7 rfl
theorem dX10_law_94 : decode cX10_law 94 = .ok (.ireturn, 1) := dq daX10_law_45_1 8 rfl
theorem dX10_law_73 : decode cX10_law 73 = .ok (.bipush (-2), 2) := dq daX10_law_45_1 9 rfl
theorem dX10_law_75 : decode cX10_law 75 = .ok (.iload_n 1, 1) := dq daX10_law_45_1 10 rfl
theorem dX10_law_76 : decode cX10_law 76 = .ok (.isub, 1) := dq daX10_law_45_1 11 rfl
theorem dX10_law_77 : decode cX10_law 77 = .ok (.ireturn, 1) := dq daX10_law_45_1 12 rfl
theorem dX10_law_23 : decode cX10_law 23 = .ok (.aload_n 0, 1) := dq daX10_law_45_1 13 rfl
theorem dX10_law_24 : decode cX10_law 24 = .ok (.getfield 29, 3) := dq daX10_law_45_1 14 rfl
theorem dX10_law_27 : decode cX10_law 27 = .ok (.aload_n 0, 1) := dq daX10_law_45_1 15 rfl
theorem dX10_law_28 : decode cX10_law 28 = .ok (.getfield 128, 3) := dq daX10_law_45_1 16 rfl
theorem dX10_law_31 : decode cX10_law 31 = .ok (.new 27, 3) := dq daX10_law_45_1 17 rfl
theorem dX10_law_34 : decode cX10_law 34 = .ok (.dup, 1) := dq daX10_law_45_1 18 rfl
theorem dX10_law_35 : decode cX10_law 35 = .ok (.invokespecial 131, 3) := dq daX10_law_45_1 19 rfl
theorem dX10_law_38 : decode cX10_law 38 = .ok (.aastore, 1) := dq daX10_law_45_1 20 rfl
