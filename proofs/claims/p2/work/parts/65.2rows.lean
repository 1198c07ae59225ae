theorem fsX10 : ∀ j, j < 13 → defaultValue (tyX10 j) = vp_V [.null, .null, .null, .null, .int 0, .null, .int 0, .null, .null, .null, .null, .null, .null] j := by decide +kernel
theorem fsX11 : ∀ j, j < 42 → defaultValue (tyX11 j) = vp_V (.null :: .int 0 :: .int 0 :: .null :: .null :: .null :: .null :: .null :: .int 0 :: .int 0 :: .int 0 :: .int 0 :: .int 0 :: .int 0 :: .int 0 :: .null :: .int 0 :: .null :: .int 0 :: .null :: .null :: .null :: [.int 0, .int 0, .int 0, .int 0, .int 0, .int 0, .null, .null, .null, .null, .null, .int 0, .int 0, .int 0, .null, .null, .null, .null, .null, .null]) j := by decide +kernel
theorem kL_law_0 {a : Array Value} {s : State} (hts : ∀ w ∈ wsL_law, w.before a s = true) : (.classLink RL 7 RX10 : Cond).before a s = true := hts _ (mem_c lawC lawC_in (ws := [.classLink RL 7 RX10]) [(0, 0)] (by decide +kernel) _ List.mem_cons_self)
theorem kL_law_1 {a : Array Value} {s : State} (hts : ∀ w ∈ wsL_law, w.before a s = true) : (.instantiable RX10 13 : Cond).before a s = true := hts _ (mem_c lawC lawC_in (ws := [.instantiable RX10 13]) [(0, 1)] (by decide +kernel) _ List.mem_cons_self)
theorem kL_law_2 {a : Array Value} {s : State} (hts : ∀ w ∈ wsL_law, w.before a s = true) : (.initialized RX10 : Cond).before a s = true := hts _ (mem_c lawC lawC_in (ws := [.initialized RX10]) [(0, 2)] (by decide +kernel) _ List.mem_cons_self)
theorem kL_law_6 {a : Array Value} {s : State} (hts : ∀ w ∈ wsL_law, w.before a s = true) : (.methodLink RL 9 yX10_init : Cond).before a s = true := hts _ (mem_c lawC lawC_in (ws := [.methodLink RL 9 yX10_init]) [(0, 6)] (by decide +kernel) _ List.mem_cons_self)
theorem kL_law_7 {a : Array Value} {s : State} (hts : ∀ w ∈ wsL_law, w.before a s = true) : (.instanceMethod yX10_init : Cond).before a s = true := hts _ (mem_c lawC lawC_in (ws := [.instanceMethod yX10_init]) [(0, 7)] (by decide +kernel) _ List.mem_cons_self)
theorem kL_law_3 {a : Array Value} {s : State} (hts : ∀ w ∈ wsL_law, w.before a s = true) : (.classLink RL 10 RX11 : Cond).before a s = true := hts _ (mem_c lawC lawC_in (ws := [.classLink RL 10 RX11]) [(0, 3)] (by decide +kernel) _ List.mem_cons_self)
theorem kL_law_4 {a : Array Value} {s : State} (hts : ∀ w ∈ wsL_law, w.before a s = true) : (.instantiable RX11 42 : Cond).before a s = true := hts _ (mem_c lawC lawC_in (ws := [.instantiable RX11 42]) [(0, 4)] (by decide +kernel) _ List.mem_cons_self)
theorem kL_law_5 {a : Array Value} {s : State} (hts : ∀ w ∈ wsL_law, w.before a s = true) : (.initialized RX11 : Cond).before a s = true := hts _ (mem_c lawC lawC_in (ws := [.initialized RX11]) [(0, 5)] (by decide +kernel) _ List.mem_cons_self)
theorem kL_law_138 {a : Array Value} {s : State} (hts : ∀ w ∈ wsL_law, w.before a s = true) : (.methodLink RL 12 yX11_init : Cond).before a s = true := hts _ (mem_c lawC lawC_in (ws := [.methodLink RL 12 yX11_init]) [(5, 18)] (by decide +kernel) _ List.mem_cons_self)
theorem kL_law_139 {a : Array Value} {s : State} (hts : ∀ w ∈ wsL_law, w.before a s = true) : (.instanceMethod yX11_init : Cond).before a s = true := hts _ (mem_c lawC lawC_in (ws := [.instanceMethod yX11_init]) [(5, 19)] (by decide +kernel) _ List.mem_cons_self)
theorem dL_law_0 : decode cL_law 0 = .ok (.new 7, 3) := by decide +kernel
theorem dL_law_3 : decode cL_law 3 = .ok (.dup, 1) := by decide +kernel
theorem dL_law_4 : decode cL_law 4 = .ok (.invokespecial 9, 3) := by decide +kernel
theorem dL_law_7 : decode cL_law 7 = .ok (.astore_n 1, 1) := by decide +kernel
theorem dL_law_8 : decode cL_law 8 = .ok (.new 10, 3) := by decide +kernel
theorem dL_law_11 : decode cL_law 11 = .ok (.dup, 1) := by decide +kernel
theorem dL_law_12 : decode cL_law 12 = .ok (.invokespecial 12, 3) := by decide +kernel
theorem dL_law_15 : decode cL_law 15 = .ok (.astore_n 2, 1) := by decide +kernel
theorem dL_law_16 : decode cL_law 16 = .ok (.iconst 0, 1) := by decide +kernel
theorem dL_law_17 : decode cL_law 17 = .ok (.istore_n 3, 1) := by decide +kernel
