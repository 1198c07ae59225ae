theorem fsX9 : ∀ j, j < 10 → defaultValue (tyX9 j) = vp_V [.null, .null, .null, .null, .null, .null, .int 0, .int 0, .int 0, .int 0] j := by decide +kernel
theorem kX10_back_1 {a : Array Value} {s : State} (hts : ∀ w ∈ wsX10_back, w.before a s = true) : (.fieldLink RX10 19 "SnowMules" "images" "[LSnowMules$World;" : Cond).before a s = true := kw (A := ixX10_back) wt17 hts (by decide +kernel)
theorem kX10_back_2 {a : Array Value} {s : State} (hts : ∀ w ∈ wsX10_back, w.before a s = true) : (.fieldLink RX10 10 "SnowMules" "world" "LSnowMules$World;" : Cond).before a s = true := kw (A := ixX10_back) wt15 hts (by decide +kernel)
theorem kX10_back_3 {a : Array Value} {s : State} (hts : ∀ w ∈ wsX10_back, w.before a s = true) : (.fieldLink RX10 141 "SnowMules$World" "now" "I" : Cond).before a s = true := kw (A := ixX10_back) wt588 hts (by decide +kernel)
theorem kX10_image_1 {a : Array Value} {s : State} (hts : ∀ w ∈ wsX10_image, w.before a s = true) : (.fieldLink RX10 19 "SnowMules" "images" "[LSnowMules$World;" : Cond).before a s = true := kw (A := ixX10_image) wt17 hts (by decide +kernel)
theorem kX10_image_5 {a : Array Value} {s : State} (hts : ∀ w ∈ wsX10_image, w.before a s = true) : (.fieldLink RX10 10 "SnowMules" "world" "LSnowMules$World;" : Cond).before a s = true := kw (A := ixX10_image) wt15 hts (by decide +kernel)
theorem kX10_image_6 {a : Array Value} {s : State} (hts : ∀ w ∈ wsX10_image, w.before a s = true) : (.fieldLink RX10 141 "SnowMules$World" "now" "I" : Cond).before a s = true := kw (A := ixX10_image) wt588 hts (by decide +kernel)
theorem kX10_image_2 {a : Array Value} {s : State} (hts : ∀ w ∈ wsX10_image, w.before a s = true) : (.classLink RX10 7 RX9 : Cond).before a s = true := kw (A := ixX10_image) wt12 hts (by decide +kernel)
theorem kX10_image_3 {a : Array Value} {s : State} (hts : ∀ w ∈ wsX10_image, w.before a s = true) : (.instantiable RX9 10 : Cond).before a s = true := kw (A := ixX10_image) wt13 hts (by decide +kernel)
theorem kX10_image_4 {a : Array Value} {s : State} (hts : ∀ w ∈ wsX10_image, w.before a s = true) : (.initialized RX9 : Cond).before a s = true := kw (A := ixX10_image) wt14 hts (by decide +kernel)
theorem kX10_image_11 {a : Array Value} {s : State} (hts : ∀ w ∈ wsX10_image, w.before a s = true) : (.instanceMethod yX9_init : Cond).before a s = true := kw (A := ixX10_image) wt46 hts (by decide +kernel)
theorem iX10_back_X10 : ∀ w ∈ wsX100, w ∈ wsX10_back := inW (A := ixX10_back) uwX10 (by decide +kernel)
theorem iX10_back_X9 : ∀ w ∈ wsX90, w ∈ wsX10_back := inW (A := ixX10_back) uwX9 (by decide +kernel)
theorem iX10_image_X10 : ∀ w ∈ wsX100, w ∈ wsX10_image := inW (A := ixX10_image) uwX10 (by decide +kernel)
theorem iX10_image_X9 : ∀ w ∈ wsX90, w ∈ wsX10_image := inW (A := ixX10_image) uwX9 (by decide +kernel)
theorem hdX9_init : yX9_init.cls ≠ "java/lang/invoke/MethodHandle" ∧ yX9_init.cls ≠ "java/lang/invoke/VarHandle" ∧ (parseMethodDescriptor yX9_init.desc).map (fun d => d.parameters.length) = some 0 := ⟨hdc_2.1, hdc_2.2, hdd_24⟩
def dtX10_image_43_0 : List (Nat × Jvm.ClassFile.Instr × Nat) := [(0, .iload_n 1, 1), (1, .iconst 3, 1), (2, .invokestatic 79, 3), (5, .ifCond .ne 5, 3), (8, .iconst (-1), 1), (9, .ireturn, 1), (10, .aload_n 0, 1), (11, .getfield 19, 3), (14, .iload_n 1, 1), (15, .aaload, 1), (16, .ifnonnull 16, 3), (32, .aload_n 0, 1), (33, .getfield 19, 3), (36, .iload_n 1, 1), (37, .aaload, 1), (38, .aload_n 0, 1), (39, .getfield 10, 3), (42, .invokevirtual 295, 3), (45, .aload_n 0, 1), (46, .getfield 10, 3), (49, .getfield 141, 3), (52, .ireturn, 1), (19, .aload_n 0, 1), (20, .getfield 19, 3), (23, .iload_n 1, 1), (24, .new 7, 3), (27, .dup, 1), (28, .invokespecial 9, 3), (31, .aastore, 1)]
theorem daX10_image_43_0 : dtX10_image_43_0.all (dqd cX10_image) = true := by decide +kernel
theorem dX10_image_0 : decode cX10_image 0 = .ok (.iload_n 1, 1) := dq daX10_image_43_0 0 rfl
theorem dX10_image_1 : decode cX10_image 1 = .ok (.iconst 3, 1) := dq daX10_image_43_0 1 rfl
theorem dX10_image_2 : decode cX10_image 2 = .ok (.invokestatic 79, 3) := dq daX10_image_43_0 2 rfl
theorem dX10_image_5 : decode cX10_image 5 = .ok (.ifCond .ne 5, 3) := dq daX10_image_43_0 3 rfl
theorem dX10_image_8 : decode cX10_image 8 = .ok (.iconst (-1), 1) := dq daX10_image_43_0 4 rfl
theorem dX10_image_9 : decode cX10_image 9 = .ok (.ireturn, 1) := dq daX10_image_43_0 5 rfl
theorem dX10_image_10 : decode cX10_image 10 = .ok (.aload_n 0, 1) := dq daX10_image_43_0 6 rfl
theorem dX10_image_11 : decode cX10_image 11 = .ok (.getfield 19, 3) := dq daX10_image_43_0 7 rfl
theorem dX10_image_14 : decode cX10_image 14 = .ok (.iload_n 1, 1) := dq daX10_image_43_0 8 rfl
theorem dX10_image_15 : decode cX10_image 15 = .ok (.aaload, 1) := dq daX10_image_43_0 9 rfl
theorem dX10_image_16 : decode cX10_image 16 = .ok (.ifnonnull 16, 3) := dq daX10_image_43_0 10 rfl
theorem dX10_image_32 : decode cX10_image 32 = .ok (.aload_n 0, 1) := dq daX10_image_43_0 11 rfl
theorem dX10_image_33 : decode cX10_image 33 = .ok (.getfield 19, 3) := dq daX10_image_43_0 12 rfl
theorem dX10_image_36 : decode cX10_image 36 = .ok (.iload_n 1, 1) := dq daX10_image_43_0 13 rfl
theorem dX10_image_37 : decode cX10_image 37 = .ok (.aaload, 1) := dq daX10_image_43_0 14 rfl
theorem dX10_image_38 : decode cX10_image 38 = .ok (.aload_n 0, 1) := dq daX10_image_43_0 15 rfl
theorem dX10_image_39 : decode cX10_image 39 = .ok (.getfield 10, 3) := dq daX10_image_43_0 16 rfl
theorem dX10_image_42 : decode cX10_image 42 = .ok (.invokevirtual 295, 3) := dq daX10_image_43_0 17 rfl
theorem dX10_image_45 : decode cX10_image 45 = .ok (.aload_n 0, 1) := dq daX10_image_43_0 18 rfl
theorem dX10_image_46 : decode cX10_image 46 = .ok (.getfield 10, 3) := dq daX10_image_43_0 19 rfl
theorem dX10_image_49 : decode cX10_image 49 = .ok (.getfield 141, 3) := dq daX10_image_43_0 20 rfl
theorem dX10_image_52 : decode cX10_image 52 = .ok (.ireturn, 1) := dq daX10_image_43_0 21 rfl
theorem dX10_image_19 : decode cX10_image 19 = .ok (.aload_n 0, 1) := dq daX10_image_43_0 22 rfl
theorem dX10_image_20 : decode cX10_image 20 = .ok (.getfield 19, 3) := dq daX10_image_43_0 23 rfl
theorem dX10_image_23 : decode cX10_image 23 = .ok (.iload_n 1, 1) := dq daX10_image_43_0 24 rfl
theorem dX10_image_24 : decode cX10_image 24 = .ok (.new 7, 3) := dq daX10_image_43_0 25 rfl
theorem dX10_image_27 : decode cX10_image 27 = .ok (.dup, 1) := dq daX10_image_43_0 26 rfl
theorem dX10_image_28 : decode cX10_image 28 = .ok (.invokespecial 9, 3) := dq daX10_image_43_0 27 rfl
theorem dX10_image_31 : decode cX10_image 31 = .ok (.aastore, 1) := dq daX10_image_43_0 28 rfl
def dtX10_back_43_0 : List (Nat × Jvm.ClassFile.Instr × Nat) := [(0, .iload_n 1, 1), (1, .iconst 3, 1), (2, .invokestatic 79, 3), (5, .ifCond .eq 12, 3), (17, .iconst (-1), 1), (18, .ireturn, 1), (8, .aload_n 0, 1), (9, .getfield 19, 3), (12, .iload_n 1, 1), (13, .aaload, 1), (14, .ifnonnull 5, 3), (19, .aload_n 0, 1), (20, .getfield 10, 3), (23, .aload_n 0, 1), (24, .getfield 19, 3), (27, .iload_n 1, 1), (28, .aaload, 1), (29, .invokevirtual 295, 3), (32, .aload_n 0, 1), (33, .getfield 10, 3), (36, .getfield 141, 3), (39, .ireturn, 1)]
theorem daX10_back_43_0 : dtX10_back_43_0.all (dqd cX10_back) = true := by decide +kernel
theorem dX10_back_0 : decode cX10_back 0 = .ok (.iload_n 1, 1) := dq daX10_back_43_0 0 rfl
theorem dX10_back_1 : decode cX10_back 1 = .ok (.iconst 3, 1) := dq daX10_back_43_0 1 rfl
theorem dX10_back_2 : decode cX10_back 2 = .ok (.invokestatic 79, 3) := dq daX10_back_43_0 2 rfl
theorem dX10_back_5 : decode cX10_back 5 = .ok (.ifCond .eq 12, 3) := dq daX10_back_43_0 3 rfl
theorem dX10_back_17 : decode cX10_back 17 = .ok (.iconst (-1), 1) := dq daX10_back_43_0 4 rfl
theorem dX10_back_18 : decode cX10_back 18 = .ok (.ireturn, 1) := dq daX10_back_43_0 5 rfl
theorem dX10_back_8 : decode cX10_back 8 = .ok (.aload_n 0, 1) := dq daX10_back_43_0 6 rfl
theorem dX10_back_9 : decode cX10_back 9 = .ok (.getfield 19, 3) := dq daX10_back_43_0 7 rfl
theorem dX10_back_12 : decode cX10_back 12 = .ok (.iload_n 1, 1) := dq daX10_back_43_0 8 rfl
theorem dX10_back_13 : decode cX10_back 13 = .ok (.aaload, 1) := dq daX10_back_43_0 9 rfl
theorem dX10_back_14 : decode cX10_back 14 = .ok (.ifnonnull 5, 3) := dq daX10_back_43_0 10 rfl
theorem dX10_back_19 : decode cX10_back 19 = .ok (.aload_n 0, 1) := dq daX10_back_43_0 11 rfl
theorem dX10_back_20 : decode cX10_back 20 = .ok (.getfield 10, 3) := dq daX10_back_43_0 12 rfl
theorem dX10_back_23 : decode cX10_back 23 = .ok (.aload_n 0, 1) := dq daX10_back_43_0 13 rfl
theorem dX10_back_24 : decode cX10_back 24 = .ok (.getfield 19, 3) := dq daX10_back_43_0 14 rfl
theorem dX10_back_27 : decode cX10_back 27 = .ok (.iload_n 1, 1) := dq daX10_back_43_0 15 rfl
theorem dX10_back_28 : decode cX10_back 28 = .ok (.aaload, 1) := dq daX10_back_43_0 16 rfl
theorem dX10_back_29 : decode cX10_back 29 = .ok (.invokevirtual 295, 3) := dq daX10_back_43_0 17 rfl
theorem dX10_back_32 : decode cX10_back 32 = .ok (.aload_n 0, 1) := dq daX10_back_43_0 18 rfl
theorem dX10_back_33 : decode cX10_back 33 = .ok (.getfield 10, 3) := dq daX10_back_43_0 19 rfl
theorem dX10_back_36 : decode cX10_back 36 = .ok (.getfield 141, 3) := dq daX10_back_43_0 20 rfl
theorem dX10_back_39 : decode cX10_back 39 = .ok (.ireturn, 1) := dq daX10_back_43_0 21 rfl
