theorem fsX10 : ∀ j, j < 13 → defaultValue (tyX10 j) = vp_V [.null, .null, .null, .null, .int 0, .null, .int 0, .null, .null, .null, .null, .null, .null] j := by decide +kernel
theorem fsX11 : ∀ j, j < 42 → defaultValue (tyX11 j) = vp_V (.null :: .int 0 :: .int 0 :: .null :: .null :: .null :: .null :: .null :: .int 0 :: .int 0 :: .int 0 :: .int 0 :: .int 0 :: .int 0 :: .int 0 :: .null :: .int 0 :: .null :: .int 0 :: .null :: .null :: .null :: [.int 0, .int 0, .int 0, .int 0, .int 0, .int 0, .null, .null, .null, .null, .null, .int 0, .int 0, .int 0, .null, .null, .null, .null, .null, .null]) j := by decide +kernel
theorem kL_law_0 {a : Array Value} {s : State} (hts : ∀ w ∈ wsL_law, w.before a s = true) : (.classLink RL 7 RX10 : Cond).before a s = true := kwL (A := ixL_law) wt0 hts (by decide +kernel)
theorem kL_law_1 {a : Array Value} {s : State} (hts : ∀ w ∈ wsL_law, w.before a s = true) : (.instantiable RX10 13 : Cond).before a s = true := kwL (A := ixL_law) wt1 hts (by decide +kernel)
theorem kL_law_2 {a : Array Value} {s : State} (hts : ∀ w ∈ wsL_law, w.before a s = true) : (.initialized RX10 : Cond).before a s = true := kwL (A := ixL_law) wt2 hts (by decide +kernel)
theorem kL_law_6 {a : Array Value} {s : State} (hts : ∀ w ∈ wsL_law, w.before a s = true) : (.methodLink RL 9 yX10_init : Cond).before a s = true := kwL (A := ixL_law) wt6 hts (by decide +kernel)
theorem kL_law_7 {a : Array Value} {s : State} (hts : ∀ w ∈ wsL_law, w.before a s = true) : (.instanceMethod yX10_init : Cond).before a s = true := kwL (A := ixL_law) wt7 hts (by decide +kernel)
theorem kL_law_3 {a : Array Value} {s : State} (hts : ∀ w ∈ wsL_law, w.before a s = true) : (.classLink RL 10 RX11 : Cond).before a s = true := kwL (A := ixL_law) wt3 hts (by decide +kernel)
theorem kL_law_4 {a : Array Value} {s : State} (hts : ∀ w ∈ wsL_law, w.before a s = true) : (.instantiable RX11 42 : Cond).before a s = true := kwL (A := ixL_law) wt4 hts (by decide +kernel)
theorem kL_law_5 {a : Array Value} {s : State} (hts : ∀ w ∈ wsL_law, w.before a s = true) : (.initialized RX11 : Cond).before a s = true := kwL (A := ixL_law) wt5 hts (by decide +kernel)
theorem kL_law_138 {a : Array Value} {s : State} (hts : ∀ w ∈ wsL_law, w.before a s = true) : (.methodLink RL 12 yX11_init : Cond).before a s = true := kwL (A := ixL_law) wt138 hts (by decide +kernel)
theorem kL_law_139 {a : Array Value} {s : State} (hts : ∀ w ∈ wsL_law, w.before a s = true) : (.instanceMethod yX11_init : Cond).before a s = true := kwL (A := ixL_law) wt139 hts (by decide +kernel)
theorem hdX10_init : yX10_init.cls ≠ "java/lang/invoke/MethodHandle" ∧ yX10_init.cls ≠ "java/lang/invoke/VarHandle" ∧ (parseMethodDescriptor yX10_init.desc).map (fun d => d.parameters.length) = some 0 := ⟨hdc_6.1, hdc_6.2, hdd_24⟩
theorem hdX11_init : yX11_init.cls ≠ "java/lang/invoke/MethodHandle" ∧ yX11_init.cls ≠ "java/lang/invoke/VarHandle" ∧ (parseMethodDescriptor yX11_init.desc).map (fun d => d.parameters.length) = some 0 := ⟨hdc_0.1, hdc_0.2, hdd_24⟩
def dtL_law_65_0 : List (Nat × Jvm.ClassFile.Instr × Nat) := [(0, .new 7, 3), (3, .dup, 1), (4, .invokespecial 9, 3), (7, .astore_n 1, 1), (8, .new 10, 3), (11, .dup, 1), (12, .invokespecial 12, 3), (15, .astore_n 2, 1), (16, .iconst 0, 1), (17, .istore_n 3, 1)]
theorem daL_law_65_0 : dtL_law_65_0.all (dqd cL_law) = true := by decide +kernel
theorem dL_law_0 : decode cL_law 0 = .ok (.new 7, 3) := dq daL_law_65_0 0 rfl
theorem dL_law_3 : decode cL_law 3 = .ok (.dup, 1) := dq daL_law_65_0 1 rfl
theorem dL_law_4 : decode cL_law 4 = .ok (.invokespecial 9, 3) := dq daL_law_65_0 2 rfl
theorem dL_law_7 : decode cL_law 7 = .ok (.astore_n 1, 1) := dq daL_law_65_0 3 rfl
theorem dL_law_8 : decode cL_law 8 = .ok (.new 10, 3) := dq daL_law_65_0 4 rfl
theorem dL_law_11 : decode cL_law 11 = .ok (.dup, 1) := dq daL_law_65_0 5 rfl
theorem dL_law_12 : decode cL_law 12 = .ok (.invokespecial 12, 3) := dq daL_law_65_0 6 rfl
theorem dL_law_15 : decode cL_law 15 = .ok (.astore_n 2, 1) := dq daL_law_65_0 7 rfl
theorem dL_law_16 : decode cL_law 16 = .ok (.iconst 0, 1) := dq daL_law_65_0 8 rfl
theorem dL_law_17 : decode cL_law 17 = .ok (.istore_n 3, 1) := dq daL_law_65_0 9 rfl
