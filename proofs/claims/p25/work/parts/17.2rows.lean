theorem kX11_searches_1 {a : Array Value} {s : State} (hts : ∀ w ∈ wsX11_searches, w.before a s = true) : (.fieldLink RX11 45 "SnowMulesModel" "stepNode" "[I" : Cond).before a s = true := kw (A := ixX11_searches) wt155 hts (by decide +kernel)
theorem kX11_searches_2 {a : Array Value} {s : State} (hts : ∀ w ∈ wsX11_searches, w.before a s = true) : (.fieldLink RX11 48 "SnowMulesModel" "stepDrops" "[I" : Cond).before a s = true := kw (A := ixX11_searches) wt156 hts (by decide +kernel)
theorem kX11_searches_3 {a : Array Value} {s : State} (hts : ∀ w ∈ wsX11_searches, w.before a s = true) : (.fieldLink RX11 51 "SnowMulesModel" "stepHour" "[I" : Cond).before a s = true := kw (A := ixX11_searches) wt157 hts (by decide +kernel)
theorem kX11_searches_4 {a : Array Value} {s : State} (hts : ∀ w ∈ wsX11_searches, w.before a s = true) : (.fieldLink RX11 54 "SnowMulesModel" "stepNext" "[I" : Cond).before a s = true := kw (A := ixX11_searches) wt158 hts (by decide +kernel)
theorem kX11_searches_10 {a : Array Value} {s : State} (hts : ∀ w ∈ wsX11_searches, w.before a s = true) : (.fieldLink RX11 39 "SnowMulesModel" "said" "[I" : Cond).before a s = true := kw (A := ixX11_searches) wt153 hts (by decide +kernel)
theorem kX11_searches_9 {a : Array Value} {s : State} (hts : ∀ w ∈ wsX11_searches, w.before a s = true) : (.fieldLink RX11 57 "SnowMulesModel" "stepPass" "[I" : Cond).before a s = true := kw (A := ixX11_searches) wt159 hts (by decide +kernel)
theorem kX11_searches_11 {a : Array Value} {s : State} (hts : ∀ w ∈ wsX11_searches, w.before a s = true) : (.fieldLink RX11 384 "SnowMulesModel" "goDrops" "I" : Cond).before a s = true := kw (A := ixX11_searches) wt995 hts (by decide +kernel)
theorem kX11_searches_12 {a : Array Value} {s : State} (hts : ∀ w ∈ wsX11_searches, w.before a s = true) : (.fieldLink RX11 387 "SnowMulesModel" "goHour" "I" : Cond).before a s = true := kw (A := ixX11_searches) wt996 hts (by decide +kernel)
theorem kX11_searches_5 {a : Array Value} {s : State} (hts : ∀ w ∈ wsX11_searches, w.before a s = true) : (.fieldLink RX11 413 "SnowMulesModel" "bestLeft" "I" : Cond).before a s = true := kw (A := ixX11_searches) wt1085 hts (by decide +kernel)
theorem kX11_searches_6 {a : Array Value} {s : State} (hts : ∀ w ∈ wsX11_searches, w.before a s = true) : (.fieldLink RX11 416 "SnowMulesModel" "bestHour" "I" : Cond).before a s = true := kw (A := ixX11_searches) wt1086 hts (by decide +kernel)
theorem kX11_searches_7 {a : Array Value} {s : State} (hts : ∀ w ∈ wsX11_searches, w.before a s = true) : (.fieldLink RX11 419 "SnowMulesModel" "bestMany" "I" : Cond).before a s = true := kw (A := ixX11_searches) wt1087 hts (by decide +kernel)
theorem kX11_searches_8 {a : Array Value} {s : State} (hts : ∀ w ∈ wsX11_searches, w.before a s = true) : (.fieldLink RX11 60 "SnowMulesModel" "bestPass" "[I" : Cond).before a s = true := kw (A := ixX11_searches) wt160 hts (by decide +kernel)
theorem kX11_searchesDay_1 {a : Array Value} {s : State} (hts : ∀ w ∈ wsX11_searchesDay, w.before a s = true) : (.fieldLink RX11 413 "SnowMulesModel" "bestLeft" "I" : Cond).before a s = true := kw (A := ixX11_searchesDay) wt1085 hts (by decide +kernel)
theorem kX11_searchesDay_2 {a : Array Value} {s : State} (hts : ∀ w ∈ wsX11_searchesDay, w.before a s = true) : (.constant RX11 425 (2147483647) : Cond).before a s = true := kw (A := ixX11_searchesDay) wt1092 hts (by decide +kernel)
theorem kX11_best_1 {a : Array Value} {s : State} (hts : ∀ w ∈ wsX11_best, w.before a s = true) : (.constantLong RX11 289 (99999) : Cond).before a s = true := kw (A := ixX11_best) wt612 hts (by decide +kernel)
theorem kX11_best_2 {a : Array Value} {s : State} (hts : ∀ w ∈ wsX11_best, w.before a s = true) : (.constantLong RX11 373 (8) : Cond).before a s = true := kw (A := ixX11_best) wt901 hts (by decide +kernel)
theorem kX11_best_3 {a : Array Value} {s : State} (hts : ∀ w ∈ wsX11_best, w.before a s = true) : (.fieldLink RX11 413 "SnowMulesModel" "bestLeft" "I" : Cond).before a s = true := kw (A := ixX11_best) wt1085 hts (by decide +kernel)
theorem kX11_best_5 {a : Array Value} {s : State} (hts : ∀ w ∈ wsX11_best, w.before a s = true) : (.fieldLink RX11 419 "SnowMulesModel" "bestMany" "I" : Cond).before a s = true := kw (A := ixX11_best) wt1087 hts (by decide +kernel)
theorem kX11_best_6 {a : Array Value} {s : State} (hts : ∀ w ∈ wsX11_best, w.before a s = true) : (.fieldLink RX11 60 "SnowMulesModel" "bestPass" "[I" : Cond).before a s = true := kw (A := ixX11_best) wt160 hts (by decide +kernel)
theorem kX11_best_4 {a : Array Value} {s : State} (hts : ∀ w ∈ wsX11_best, w.before a s = true) : (.fieldLink RX11 416 "SnowMulesModel" "bestHour" "I" : Cond).before a s = true := kw (A := ixX11_best) wt1086 hts (by decide +kernel)
theorem kX11_price_1 {a : Array Value} {s : State} (hts : ∀ w ∈ wsX11_price, w.before a s = true) : (.constantLong RX11 289 (99999) : Cond).before a s = true := kw (A := ixX11_price) wt612 hts (by decide +kernel)
theorem kX11_price_2 {a : Array Value} {s : State} (hts : ∀ w ∈ wsX11_price, w.before a s = true) : (.fieldLink RX11 413 "SnowMulesModel" "bestLeft" "I" : Cond).before a s = true := kw (A := ixX11_price) wt1085 hts (by decide +kernel)
theorem iX11_searches_X11 : ∀ w ∈ wsX110, w ∈ wsX11_searches := inW (A := ixX11_searches) uwX11 (by decide +kernel)
theorem iX11_searchesDay_X11 : ∀ w ∈ wsX110, w ∈ wsX11_searchesDay := inW (A := ixX11_searchesDay) uwX11 (by decide +kernel)
theorem iX11_best_X11 : ∀ w ∈ wsX110, w ∈ wsX11_best := inW (A := ixX11_best) uwX11 (by decide +kernel)
theorem iX11_price_X11 : ∀ w ∈ wsX110, w ∈ wsX11_price := inW (A := ixX11_price) uwX11 (by decide +kernel)
theorem hdX11_wasAt : yX11_wasAt.cls ≠ "java/lang/invoke/MethodHandle" ∧ yX11_wasAt.cls ≠ "java/lang/invoke/VarHandle" ∧ (parseMethodDescriptor yX11_wasAt.desc).map (fun d => d.parameters.length) = some 2 := ⟨hdc_0.1, hdc_0.2, hdd_4⟩
theorem hdX11_searches : yX11_searches.cls ≠ "java/lang/invoke/MethodHandle" ∧ yX11_searches.cls ≠ "java/lang/invoke/VarHandle" ∧ (parseMethodDescriptor yX11_searches.desc).map (fun d => d.parameters.length) = some 9 := ⟨hdc_0.1, hdc_0.2, hdd_20⟩
theorem hdX11_searchesDay : yX11_searchesDay.cls ≠ "java/lang/invoke/MethodHandle" ∧ yX11_searchesDay.cls ≠ "java/lang/invoke/VarHandle" ∧ (parseMethodDescriptor yX11_searchesDay.desc).map (fun d => d.parameters.length) = some 8 := ⟨hdc_0.1, hdc_0.2, hdd_21⟩
def dtX11_searches_17_0 : List (Nat × Jvm.ClassFile.Instr × Nat) := [(0, .iconst 0, 1), (1, .istore 10, 2), (3, .aload_n 0, 1), (4, .getfield 45, 3), (7, .iconst 0, 1), (8, .iload_n 2, 1), (9, .iastore, 1), (10, .aload_n 0, 1), (11, .getfield 48, 3), (14, .iconst 0, 1), (15, .iload 5, 2), (17, .iastore, 1), (18, .aload_n 0, 1), (19, .getfield 51, 3), (22, .iconst 0, 1), (23, .iload 4, 2), (25, .iastore, 1), (26, .aload_n 0, 1), (27, .getfield 54, 3), (30, .iconst 0, 1), (31, .iconst 0, 1), (32, .iastore, 1), (33, .iload 10, 2), (35, .ifCond .lt 279, 3), (38, .aload_n 0, 1), (39, .getfield 45, 3), (42, .iload 10, 2), (44, .iaload, 1), (45, .iload_n 3, 1), (46, .if_icmp .ne 88, 3), (134, .iload 10, 2), (136, .bipush 6, 2)]
theorem daX11_searches_17_0 : dtX11_searches_17_0.all (dqd cX11_searches) = true := by decide +kernel
theorem dX11_searches_0 : decode cX11_searches 0 = .ok (.iconst 0, 1) := dq daX11_searches_17_0 0 rfl
theorem dX11_searches_1 : decode cX11_searches 1 = .ok (.istore 10, 2) := dq daX11_searches_17_0 1 rfl
theorem dX11_searches_3 : decode cX11_searches 3 = .ok (.aload_n 0, 1) := dq daX11_searches_17_0 2 rfl
theorem dX11_searches_4 : decode cX11_searches 4 = .ok (.getfield 45, 3) := dq daX11_searches_17_0 3 rfl
theorem dX11_searches_7 : decode cX11_searches 7 = .ok (.iconst 0, 1) := dq daX11_searches_17_0 4 rfl
theorem dX11_searches_8 : decode cX11_searches 8 = .ok (.iload_n 2, 1) := dq daX11_searches_17_0 5 rfl
theorem dX11_searches_9 : decode cX11_searches 9 = .ok (.iastore, 1) := dq daX11_searches_17_0 6 rfl
theorem dX11_searches_10 : decode cX11_searches 10 = .ok (.aload_n 0, 1) := dq daX11_searches_17_0 7 rfl
theorem dX11_searches_11 : decode cX11_searches 11 = .ok (.getfield 48, 3) := dq daX11_searches_17_0 8 rfl
theorem dX11_searches_14 : decode cX11_searches 14 = .ok (.iconst 0, 1) := dq daX11_searches_17_0 9 rfl
theorem dX11_searches_15 : decode cX11_searches 15 = .ok (.iload 5, 2) := dq daX11_searches_17_0 10 rfl
theorem dX11_searches_17 : decode cX11_searches 17 = .ok (.iastore, 1) := dq daX11_searches_17_0 11 rfl
theorem dX11_searches_18 : decode cX11_searches 18 = .ok (.aload_n 0, 1) := dq daX11_searches_17_0 12 rfl
theorem dX11_searches_19 : decode cX11_searches 19 = .ok (.getfield 51, 3) := dq daX11_searches_17_0 13 rfl
theorem dX11_searches_22 : decode cX11_searches 22 = .ok (.iconst 0, 1) := dq daX11_searches_17_0 14 rfl
theorem dX11_searches_23 : decode cX11_searches 23 = .ok (.iload 4, 2) := dq daX11_searches_17_0 15 rfl
theorem dX11_searches_25 : decode cX11_searches 25 = .ok (.iastore, 1) := dq daX11_searches_17_0 16 rfl
theorem dX11_searches_26 : decode cX11_searches 26 = .ok (.aload_n 0, 1) := dq daX11_searches_17_0 17 rfl
theorem dX11_searches_27 : decode cX11_searches 27 = .ok (.getfield 54, 3) := dq daX11_searches_17_0 18 rfl
theorem dX11_searches_30 : decode cX11_searches 30 = .ok (.iconst 0, 1) := dq daX11_searches_17_0 19 rfl
theorem dX11_searches_31 : decode cX11_searches 31 = .ok (.iconst 0, 1) := dq daX11_searches_17_0 20 rfl
theorem dX11_searches_32 : decode cX11_searches 32 = .ok (.iastore, 1) := dq daX11_searches_17_0 21 rfl
theorem dX11_searches_33 : decode cX11_searches 33 = .ok (.iload 10, 2) := dq daX11_searches_17_0 22 rfl
theorem dX11_searches_35 : decode cX11_searches 35 = .ok (.ifCond .lt 279, 3) := dq daX11_searches_17_0 23 rfl
theorem dX11_searches_38 : decode cX11_searches 38 = .ok (.aload_n 0, 1) := dq daX11_searches_17_0 24 rfl
theorem dX11_searches_39 : decode cX11_searches 39 = .ok (.getfield 45, 3) := dq daX11_searches_17_0 25 rfl
theorem dX11_searches_42 : decode cX11_searches 42 = .ok (.iload 10, 2) := dq daX11_searches_17_0 26 rfl
theorem dX11_searches_44 : decode cX11_searches 44 = .ok (.iaload, 1) := dq daX11_searches_17_0 27 rfl
theorem dX11_searches_45 : decode cX11_searches 45 = .ok (.iload_n 3, 1) := dq daX11_searches_17_0 28 rfl
theorem dX11_searches_46 : decode cX11_searches 46 = .ok (.if_icmp .ne 88, 3) := dq daX11_searches_17_0 29 rfl
theorem dX11_searches_134 : decode cX11_searches 134 = .ok (.iload 10, 2) := dq daX11_searches_17_0 30 rfl
theorem dX11_searches_136 : decode cX11_searches 136 = .ok (.bipush 6, 2) := dq daX11_searches_17_0 31 rfl
def dtX11_searches_17_1 : List (Nat × Jvm.ClassFile.Instr × Nat) := [(138, .if_icmp .eq 19, 3), (141, .aload_n 0, 1), (142, .getfield 54, 3), (145, .iload 10, 2), (147, .iaload, 1), (148, .aload_n 0, 1), (149, .getfield 39, 3), (152, .iconst 1, 1), (153, .iaload, 1), (154, .if_icmp .ne 9, 3), (163, .aload_n 0, 1), (164, .getfield 54, 3), (167, .iload 10, 2), (169, .iaload, 1), (170, .istore 11, 2), (172, .aload_n 0, 1), (173, .getfield 54, 3), (176, .iload 10, 2), (178, .dup2, 1), (179, .iaload, 1), (180, .iconst 1, 1), (181, .iadd, 1), (182, .iastore, 1), (183, .aload_n 0, 1), (184, .iload 11, 2), (186, .aload_n 0, 1), (187, .getfield 45, 3), (190, .iload 10, 2), (192, .iaload, 1), (193, .invokevirtual 309, 3), (196, .istore 12, 2), (198, .iload 11, 2)]
theorem daX11_searches_17_1 : dtX11_searches_17_1.all (dqd cX11_searches) = true := by decide +kernel
theorem dX11_searches_138 : decode cX11_searches 138 = .ok (.if_icmp .eq 19, 3) := dq daX11_searches_17_1 0 rfl
theorem dX11_searches_141 : decode cX11_searches 141 = .ok (.aload_n 0, 1) := dq daX11_searches_17_1 1 rfl
theorem dX11_searches_142 : decode cX11_searches 142 = .ok (.getfield 54, 3) := dq daX11_searches_17_1 2 rfl
theorem dX11_searches_145 : decode cX11_searches 145 = .ok (.iload 10, 2) := dq daX11_searches_17_1 3 rfl
theorem dX11_searches_147 : decode cX11_searches 147 = .ok (.iaload, 1) := dq daX11_searches_17_1 4 rfl
theorem dX11_searches_148 : decode cX11_searches 148 = .ok (.aload_n 0, 1) := dq daX11_searches_17_1 5 rfl
theorem dX11_searches_149 : decode cX11_searches 149 = .ok (.getfield 39, 3) := dq daX11_searches_17_1 6 rfl
theorem dX11_searches_152 : decode cX11_searches 152 = .ok (.iconst 1, 1) := dq daX11_searches_17_1 7 rfl
theorem dX11_searches_153 : decode cX11_searches 153 = .ok (.iaload, 1) := dq daX11_searches_17_1 8 rfl
theorem dX11_searches_154 : decode cX11_searches 154 = .ok (.if_icmp .ne 9, 3) := dq daX11_searches_17_1 9 rfl
theorem dX11_searches_163 : decode cX11_searches 163 = .ok (.aload_n 0, 1) := dq daX11_searches_17_1 10 rfl
theorem dX11_searches_164 : decode cX11_searches 164 = .ok (.getfield 54, 3) := dq daX11_searches_17_1 11 rfl
theorem dX11_searches_167 : decode cX11_searches 167 = .ok (.iload 10, 2) := dq daX11_searches_17_1 12 rfl
theorem dX11_searches_169 : decode cX11_searches 169 = .ok (.iaload, 1) := dq daX11_searches_17_1 13 rfl
theorem dX11_searches_170 : decode cX11_searches 170 = .ok (.istore 11, 2) := dq daX11_searches_17_1 14 rfl
theorem dX11_searches_172 : decode cX11_searches 172 = .ok (.aload_n 0, 1) := dq daX11_searches_17_1 15 rfl
theorem dX11_searches_173 : decode cX11_searches 173 = .ok (.getfield 54, 3) := dq daX11_searches_17_1 16 rfl
theorem dX11_searches_176 : decode cX11_searches 176 = .ok (.iload 10, 2) := dq daX11_searches_17_1 17 rfl
theorem dX11_searches_178 : decode cX11_searches 178 = .ok (.dup2, 1) := dq daX11_searches_17_1 18 rfl
theorem dX11_searches_179 : decode cX11_searches 179 = .ok (.iaload, 1) := dq daX11_searches_17_1 19 rfl
theorem dX11_searches_180 : decode cX11_searches 180 = .ok (.iconst 1, 1) := dq daX11_searches_17_1 20 rfl
theorem dX11_searches_181 : decode cX11_searches 181 = .ok (.iadd, 1) := dq daX11_searches_17_1 21 rfl
theorem dX11_searches_182 : decode cX11_searches 182 = .ok (.iastore, 1) := dq daX11_searches_17_1 22 rfl
theorem dX11_searches_183 : decode cX11_searches 183 = .ok (.aload_n 0, 1) := dq daX11_searches_17_1 23 rfl
theorem dX11_searches_184 : decode cX11_searches 184 = .ok (.iload 11, 2) := dq daX11_searches_17_1 24 rfl
theorem dX11_searches_186 : decode cX11_searches 186 = .ok (.aload_n 0, 1) := dq daX11_searches_17_1 25 rfl
theorem dX11_searches_187 : decode cX11_searches 187 = .ok (.getfield 45, 3) := dq daX11_searches_17_1 26 rfl
theorem dX11_searches_190 : decode cX11_searches 190 = .ok (.iload 10, 2) := dq daX11_searches_17_1 27 rfl
theorem dX11_searches_192 : decode cX11_searches 192 = .ok (.iaload, 1) := dq daX11_searches_17_1 28 rfl
theorem dX11_searches_193 : decode cX11_searches 193 = .ok (.invokevirtual 309, 3) := dq daX11_searches_17_1 29 rfl
theorem dX11_searches_196 : decode cX11_searches 196 = .ok (.istore 12, 2) := dq daX11_searches_17_1 30 rfl
theorem dX11_searches_198 : decode cX11_searches 198 = .ok (.iload 11, 2) := dq daX11_searches_17_1 31 rfl
def dtX11_searches_17_2 : List (Nat × Jvm.ClassFile.Instr × Nat) := [(200, .iload 8, 2), (202, .if_icmp .eq (-169), 3), (205, .iload 12, 2), (207, .ifCond .lt (-174), 3), (210, .aload_n 0, 1), (211, .iload 12, 2), (213, .iload 10, 2), (215, .invokevirtual 422, 3), (218, .ifCond .eq 6, 3), (224, .aload_n 0, 1), (225, .aload_n 0, 1), (226, .getfield 45, 3), (229, .iload 10, 2), (231, .iaload, 1), (232, .aload_n 0, 1), (233, .getfield 48, 3), (236, .iload 10, 2), (238, .iaload, 1), (239, .aload_n 0, 1), (240, .getfield 51, 3), (243, .iload 10, 2), (245, .iaload, 1), (246, .iload 6, 2), (248, .iload 7, 2), (250, .invokevirtual 407, 3), (253, .aload_n 0, 1), (254, .iload_n 1, 1), (255, .iload 11, 2), (257, .invokevirtual 410, 3), (260, .aload_n 0, 1), (261, .getfield 57, 3), (264, .iload 10, 2)]
theorem daX11_searches_17_2 : dtX11_searches_17_2.all (dqd cX11_searches) = true := by decide +kernel
theorem dX11_searches_200 : decode cX11_searches 200 = .ok (.iload 8, 2) := dq daX11_searches_17_2 0 rfl
theorem dX11_searches_202 : decode cX11_searches 202 = .ok (.if_icmp .eq (-169), 3) := dq daX11_searches_17_2 1 rfl
theorem dX11_searches_205 : decode cX11_searches 205 = .ok (.iload 12, 2) := dq daX11_searches_17_2 2 rfl
theorem dX11_searches_207 : decode cX11_searches 207 = .ok (.ifCond .lt (-174), 3) := dq daX11_searches_17_2 3 rfl
theorem dX11_searches_210 : decode cX11_searches 210 = .ok (.aload_n 0, 1) := dq daX11_searches_17_2 4 rfl
theorem dX11_searches_211 : decode cX11_searches 211 = .ok (.iload 12, 2) := dq daX11_searches_17_2 5 rfl
theorem dX11_searches_213 : decode cX11_searches 213 = .ok (.iload 10, 2) := dq daX11_searches_17_2 6 rfl
theorem dX11_searches_215 : decode cX11_searches 215 = .ok (.invokevirtual 422, 3) := dq daX11_searches_17_2 7 rfl
theorem dX11_searches_218 : decode cX11_searches 218 = .ok (.ifCond .eq 6, 3) := dq daX11_searches_17_2 8 rfl
theorem dX11_searches_224 : decode cX11_searches 224 = .ok (.aload_n 0, 1) := dq daX11_searches_17_2 9 rfl
theorem dX11_searches_225 : decode cX11_searches 225 = .ok (.aload_n 0, 1) := dq daX11_searches_17_2 10 rfl
theorem dX11_searches_226 : decode cX11_searches 226 = .ok (.getfield 45, 3) := dq daX11_searches_17_2 11 rfl
theorem dX11_searches_229 : decode cX11_searches 229 = .ok (.iload 10, 2) := dq daX11_searches_17_2 12 rfl
theorem dX11_searches_231 : decode cX11_searches 231 = .ok (.iaload, 1) := dq daX11_searches_17_2 13 rfl
theorem dX11_searches_232 : decode cX11_searches 232 = .ok (.aload_n 0, 1) := dq daX11_searches_17_2 14 rfl
theorem dX11_searches_233 : decode cX11_searches 233 = .ok (.getfield 48, 3) := dq daX11_searches_17_2 15 rfl
theorem dX11_searches_236 : decode cX11_searches 236 = .ok (.iload 10, 2) := dq daX11_searches_17_2 16 rfl
theorem dX11_searches_238 : decode cX11_searches 238 = .ok (.iaload, 1) := dq daX11_searches_17_2 17 rfl
theorem dX11_searches_239 : decode cX11_searches 239 = .ok (.aload_n 0, 1) := dq daX11_searches_17_2 18 rfl
theorem dX11_searches_240 : decode cX11_searches 240 = .ok (.getfield 51, 3) := dq daX11_searches_17_2 19 rfl
theorem dX11_searches_243 : decode cX11_searches 243 = .ok (.iload 10, 2) := dq daX11_searches_17_2 20 rfl
theorem dX11_searches_245 : decode cX11_searches 245 = .ok (.iaload, 1) := dq daX11_searches_17_2 21 rfl
theorem dX11_searches_246 : decode cX11_searches 246 = .ok (.iload 6, 2) := dq daX11_searches_17_2 22 rfl
theorem dX11_searches_248 : decode cX11_searches 248 = .ok (.iload 7, 2) := dq daX11_searches_17_2 23 rfl
theorem dX11_searches_250 : decode cX11_searches 250 = .ok (.invokevirtual 407, 3) := dq daX11_searches_17_2 24 rfl
theorem dX11_searches_253 : decode cX11_searches 253 = .ok (.aload_n 0, 1) := dq daX11_searches_17_2 25 rfl
theorem dX11_searches_254 : decode cX11_searches 254 = .ok (.iload_n 1, 1) := dq daX11_searches_17_2 26 rfl
theorem dX11_searches_255 : decode cX11_searches 255 = .ok (.iload 11, 2) := dq daX11_searches_17_2 27 rfl
theorem dX11_searches_257 : decode cX11_searches 257 = .ok (.invokevirtual 410, 3) := dq daX11_searches_17_2 28 rfl
theorem dX11_searches_260 : decode cX11_searches 260 = .ok (.aload_n 0, 1) := dq daX11_searches_17_2 29 rfl
theorem dX11_searches_261 : decode cX11_searches 261 = .ok (.getfield 57, 3) := dq daX11_searches_17_2 30 rfl
theorem dX11_searches_264 : decode cX11_searches 264 = .ok (.iload 10, 2) := dq daX11_searches_17_2 31 rfl
def dtX11_searches_17_3 : List (Nat × Jvm.ClassFile.Instr × Nat) := [(266, .iload 11, 2), (268, .iastore, 1), (269, .iinc 10 1, 3), (272, .aload_n 0, 1), (273, .getfield 45, 3), (276, .iload 10, 2), (278, .iload 12, 2), (280, .iastore, 1), (281, .aload_n 0, 1), (282, .getfield 48, 3), (285, .iload 10, 2), (287, .aload_n 0, 1), (288, .getfield 384, 3), (291, .iastore, 1), (292, .aload_n 0, 1), (293, .getfield 51, 3), (296, .iload 10, 2), (298, .aload_n 0, 1), (299, .getfield 387, 3), (302, .iastore, 1), (303, .aload_n 0, 1), (304, .getfield 54, 3), (307, .iload 10, 2), (309, .iconst 0, 1), (310, .iastore, 1), (311, .goto (-278), 3), (221, .goto (-188), 3), (157, .iinc 10 (-1), 3), (160, .goto (-127), 3), (49, .aload_n 0, 1), (50, .getfield 51, 3), (53, .iload 10, 2)]
theorem daX11_searches_17_3 : dtX11_searches_17_3.all (dqd cX11_searches) = true := by decide +kernel
theorem dX11_searches_266 : decode cX11_searches 266 = .ok (.iload 11, 2) := dq daX11_searches_17_3 0 rfl
theorem dX11_searches_268 : decode cX11_searches 268 = .ok (.iastore, 1) := dq daX11_searches_17_3 1 rfl
theorem dX11_searches_269 : decode cX11_searches 269 = .ok (.iinc 10 1, 3) := dq daX11_searches_17_3 2 rfl
theorem dX11_searches_272 : decode cX11_searches 272 = .ok (.aload_n 0, 1) := dq daX11_searches_17_3 3 rfl
theorem dX11_searches_273 : decode cX11_searches 273 = .ok (.getfield 45, 3) := dq daX11_searches_17_3 4 rfl
theorem dX11_searches_276 : decode cX11_searches 276 = .ok (.iload 10, 2) := dq daX11_searches_17_3 5 rfl
theorem dX11_searches_278 : decode cX11_searches 278 = .ok (.iload 12, 2) := dq daX11_searches_17_3 6 rfl
theorem dX11_searches_280 : decode cX11_searches 280 = .ok (.iastore, 1) := dq daX11_searches_17_3 7 rfl
theorem dX11_searches_281 : decode cX11_searches 281 = .ok (.aload_n 0, 1) := dq daX11_searches_17_3 8 rfl
theorem dX11_searches_282 : decode cX11_searches 282 = .ok (.getfield 48, 3) := dq daX11_searches_17_3 9 rfl
theorem dX11_searches_285 : decode cX11_searches 285 = .ok (.iload 10, 2) := dq daX11_searches_17_3 10 rfl
theorem dX11_searches_287 : decode cX11_searches 287 = .ok (.aload_n 0, 1) := dq daX11_searches_17_3 11 rfl
theorem dX11_searches_288 : decode cX11_searches 288 = .ok (.getfield 384, 3) := dq daX11_searches_17_3 12 rfl
theorem dX11_searches_291 : decode cX11_searches 291 = .ok (.iastore, 1) := dq daX11_searches_17_3 13 rfl
theorem dX11_searches_292 : decode cX11_searches 292 = .ok (.aload_n 0, 1) := dq daX11_searches_17_3 14 rfl
theorem dX11_searches_293 : decode cX11_searches 293 = .ok (.getfield 51, 3) := dq daX11_searches_17_3 15 rfl
theorem dX11_searches_296 : decode cX11_searches 296 = .ok (.iload 10, 2) := dq daX11_searches_17_3 16 rfl
theorem dX11_searches_298 : decode cX11_searches 298 = .ok (.aload_n 0, 1) := dq daX11_searches_17_3 17 rfl
theorem dX11_searches_299 : decode cX11_searches 299 = .ok (.getfield 387, 3) := dq daX11_searches_17_3 18 rfl
theorem dX11_searches_302 : decode cX11_searches 302 = .ok (.iastore, 1) := dq daX11_searches_17_3 19 rfl
theorem dX11_searches_303 : decode cX11_searches 303 = .ok (.aload_n 0, 1) := dq daX11_searches_17_3 20 rfl
theorem dX11_searches_304 : decode cX11_searches 304 = .ok (.getfield 54, 3) := dq daX11_searches_17_3 21 rfl
theorem dX11_searches_307 : decode cX11_searches 307 = .ok (.iload 10, 2) := dq daX11_searches_17_3 22 rfl
theorem dX11_searches_309 : decode cX11_searches 309 = .ok (.iconst 0, 1) := dq daX11_searches_17_3 23 rfl
theorem dX11_searches_310 : decode cX11_searches 310 = .ok (.iastore, 1) := dq daX11_searches_17_3 24 rfl
theorem dX11_searches_311 : decode cX11_searches 311 = .ok (.goto (-278), 3) := dq daX11_searches_17_3 25 rfl
theorem dX11_searches_221 : decode cX11_searches 221 = .ok (.goto (-188), 3) := dq daX11_searches_17_3 26 rfl
theorem dX11_searches_157 : decode cX11_searches 157 = .ok (.iinc 10 (-1), 3) := dq daX11_searches_17_3 27 rfl
theorem dX11_searches_160 : decode cX11_searches 160 = .ok (.goto (-127), 3) := dq daX11_searches_17_3 28 rfl
theorem dX11_searches_49 : decode cX11_searches 49 = .ok (.aload_n 0, 1) := dq daX11_searches_17_3 29 rfl
theorem dX11_searches_50 : decode cX11_searches 50 = .ok (.getfield 51, 3) := dq daX11_searches_17_3 30 rfl
theorem dX11_searches_53 : decode cX11_searches 53 = .ok (.iload 10, 2) := dq daX11_searches_17_3 31 rfl
def dtX11_searches_17_4 : List (Nat × Jvm.ClassFile.Instr × Nat) := [(55, .iaload, 1), (56, .iload 9, 2), (58, .if_icmp .gt 70, 3), (128, .iinc 10 (-1), 3), (131, .goto (-98), 3), (61, .aload_n 0, 1), (62, .getfield 48, 3), (65, .iload 10, 2), (67, .iaload, 1), (68, .aload_n 0, 1), (69, .getfield 413, 3), (72, .if_icmp .le 56, 3), (75, .aload_n 0, 1), (76, .aload_n 0, 1), (77, .getfield 48, 3), (80, .iload 10, 2), (82, .iaload, 1), (83, .putfield 413, 3), (86, .aload_n 0, 1), (87, .iload 4, 2), (89, .putfield 416, 3), (92, .aload_n 0, 1), (93, .iload 10, 2), (95, .putfield 419, 3), (98, .iconst 0, 1), (99, .istore 11, 2), (101, .iload 11, 2), (103, .iload 10, 2), (105, .if_icmp .ge 23, 3), (108, .aload_n 0, 1), (109, .getfield 60, 3), (112, .iload 11, 2)]
theorem daX11_searches_17_4 : dtX11_searches_17_4.all (dqd cX11_searches) = true := by decide +kernel
theorem dX11_searches_55 : decode cX11_searches 55 = .ok (.iaload, 1) := dq daX11_searches_17_4 0 rfl
theorem dX11_searches_56 : decode cX11_searches 56 = .ok (.iload 9, 2) := dq daX11_searches_17_4 1 rfl
theorem dX11_searches_58 : decode cX11_searches 58 = .ok (.if_icmp .gt 70, 3) := dq daX11_searches_17_4 2 rfl
theorem dX11_searches_128 : decode cX11_searches 128 = .ok (.iinc 10 (-1), 3) := dq daX11_searches_17_4 3 rfl
theorem dX11_searches_131 : decode cX11_searches 131 = .ok (.goto (-98), 3) := dq daX11_searches_17_4 4 rfl
theorem dX11_searches_61 : decode cX11_searches 61 = .ok (.aload_n 0, 1) := dq daX11_searches_17_4 5 rfl
theorem dX11_searches_62 : decode cX11_searches 62 = .ok (.getfield 48, 3) := dq daX11_searches_17_4 6 rfl
theorem dX11_searches_65 : decode cX11_searches 65 = .ok (.iload 10, 2) := dq daX11_searches_17_4 7 rfl
theorem dX11_searches_67 : decode cX11_searches 67 = .ok (.iaload, 1) := dq daX11_searches_17_4 8 rfl
theorem dX11_searches_68 : decode cX11_searches 68 = .ok (.aload_n 0, 1) := dq daX11_searches_17_4 9 rfl
theorem dX11_searches_69 : decode cX11_searches 69 = .ok (.getfield 413, 3) := dq daX11_searches_17_4 10 rfl
theorem dX11_searches_72 : decode cX11_searches 72 = .ok (.if_icmp .le 56, 3) := dq daX11_searches_17_4 11 rfl
theorem dX11_searches_75 : decode cX11_searches 75 = .ok (.aload_n 0, 1) := dq daX11_searches_17_4 12 rfl
theorem dX11_searches_76 : decode cX11_searches 76 = .ok (.aload_n 0, 1) := dq daX11_searches_17_4 13 rfl
theorem dX11_searches_77 : decode cX11_searches 77 = .ok (.getfield 48, 3) := dq daX11_searches_17_4 14 rfl
theorem dX11_searches_80 : decode cX11_searches 80 = .ok (.iload 10, 2) := dq daX11_searches_17_4 15 rfl
theorem dX11_searches_82 : decode cX11_searches 82 = .ok (.iaload, 1) := dq daX11_searches_17_4 16 rfl
theorem dX11_searches_83 : decode cX11_searches 83 = .ok (.putfield 413, 3) := dq daX11_searches_17_4 17 rfl
theorem dX11_searches_86 : decode cX11_searches 86 = .ok (.aload_n 0, 1) := dq daX11_searches_17_4 18 rfl
theorem dX11_searches_87 : decode cX11_searches 87 = .ok (.iload 4, 2) := dq daX11_searches_17_4 19 rfl
theorem dX11_searches_89 : decode cX11_searches 89 = .ok (.putfield 416, 3) := dq daX11_searches_17_4 20 rfl
theorem dX11_searches_92 : decode cX11_searches 92 = .ok (.aload_n 0, 1) := dq daX11_searches_17_4 21 rfl
theorem dX11_searches_93 : decode cX11_searches 93 = .ok (.iload 10, 2) := dq daX11_searches_17_4 22 rfl
theorem dX11_searches_95 : decode cX11_searches 95 = .ok (.putfield 419, 3) := dq daX11_searches_17_4 23 rfl
theorem dX11_searches_98 : decode cX11_searches 98 = .ok (.iconst 0, 1) := dq daX11_searches_17_4 24 rfl
theorem dX11_searches_99 : decode cX11_searches 99 = .ok (.istore 11, 2) := dq daX11_searches_17_4 25 rfl
theorem dX11_searches_101 : decode cX11_searches 101 = .ok (.iload 11, 2) := dq daX11_searches_17_4 26 rfl
theorem dX11_searches_103 : decode cX11_searches 103 = .ok (.iload 10, 2) := dq daX11_searches_17_4 27 rfl
theorem dX11_searches_105 : decode cX11_searches 105 = .ok (.if_icmp .ge 23, 3) := dq daX11_searches_17_4 28 rfl
theorem dX11_searches_108 : decode cX11_searches 108 = .ok (.aload_n 0, 1) := dq daX11_searches_17_4 29 rfl
theorem dX11_searches_109 : decode cX11_searches 109 = .ok (.getfield 60, 3) := dq daX11_searches_17_4 30 rfl
theorem dX11_searches_112 : decode cX11_searches 112 = .ok (.iload 11, 2) := dq daX11_searches_17_4 31 rfl
def dtX11_searches_17_5 : List (Nat × Jvm.ClassFile.Instr × Nat) := [(114, .aload_n 0, 1), (115, .getfield 57, 3), (118, .iload 11, 2), (120, .iaload, 1), (121, .iastore, 1), (122, .iinc 11 1, 3), (125, .goto (-24), 3), (314, .return_, 1)]
theorem daX11_searches_17_5 : dtX11_searches_17_5.all (dqd cX11_searches) = true := by decide +kernel
theorem dX11_searches_114 : decode cX11_searches 114 = .ok (.aload_n 0, 1) := dq daX11_searches_17_5 0 rfl
theorem dX11_searches_115 : decode cX11_searches 115 = .ok (.getfield 57, 3) := dq daX11_searches_17_5 1 rfl
theorem dX11_searches_118 : decode cX11_searches 118 = .ok (.iload 11, 2) := dq daX11_searches_17_5 2 rfl
theorem dX11_searches_120 : decode cX11_searches 120 = .ok (.iaload, 1) := dq daX11_searches_17_5 3 rfl
theorem dX11_searches_121 : decode cX11_searches 121 = .ok (.iastore, 1) := dq daX11_searches_17_5 4 rfl
theorem dX11_searches_122 : decode cX11_searches 122 = .ok (.iinc 11 1, 3) := dq daX11_searches_17_5 5 rfl
theorem dX11_searches_125 : decode cX11_searches 125 = .ok (.goto (-24), 3) := dq daX11_searches_17_5 6 rfl
theorem dX11_searches_314 : decode cX11_searches 314 = .ok (.return_, 1) := dq daX11_searches_17_5 7 rfl
def dtX11_searchesDay_17_0 : List (Nat × Jvm.ClassFile.Instr × Nat) := [(0, .aload_n 0, 1), (1, .iconst (-1), 1), (2, .putfield 413, 3), (5, .iconst 0, 1), (6, .istore 9, 2), (8, .iload 9, 2), (10, .bipush 24, 2), (12, .if_icmp .ge 32, 3), (15, .aload_n 0, 1), (16, .iload_n 1, 1), (17, .iload_n 2, 1), (18, .iload_n 3, 1), (19, .iload 4, 2), (21, .iload 9, 2), (23, .iadd, 1), (24, .iload 5, 2), (26, .iload 6, 2), (28, .iload 7, 2), (30, .iload 8, 2), (32, .ldc_w 425, 3), (35, .invokevirtual 426, 3), (38, .iinc 9 1, 3), (41, .goto (-33), 3), (44, .return_, 1)]
theorem daX11_searchesDay_17_0 : dtX11_searchesDay_17_0.all (dqd cX11_searchesDay) = true := by decide +kernel
theorem dX11_searchesDay_0 : decode cX11_searchesDay 0 = .ok (.aload_n 0, 1) := dq daX11_searchesDay_17_0 0 rfl
theorem dX11_searchesDay_1 : decode cX11_searchesDay 1 = .ok (.iconst (-1), 1) := dq daX11_searchesDay_17_0 1 rfl
theorem dX11_searchesDay_2 : decode cX11_searchesDay 2 = .ok (.putfield 413, 3) := dq daX11_searchesDay_17_0 2 rfl
theorem dX11_searchesDay_5 : decode cX11_searchesDay 5 = .ok (.iconst 0, 1) := dq daX11_searchesDay_17_0 3 rfl
theorem dX11_searchesDay_6 : decode cX11_searchesDay 6 = .ok (.istore 9, 2) := dq daX11_searchesDay_17_0 4 rfl
theorem dX11_searchesDay_8 : decode cX11_searchesDay 8 = .ok (.iload 9, 2) := dq daX11_searchesDay_17_0 5 rfl
theorem dX11_searchesDay_10 : decode cX11_searchesDay 10 = .ok (.bipush 24, 2) := dq daX11_searchesDay_17_0 6 rfl
theorem dX11_searchesDay_12 : decode cX11_searchesDay 12 = .ok (.if_icmp .ge 32, 3) := dq daX11_searchesDay_17_0 7 rfl
theorem dX11_searchesDay_15 : decode cX11_searchesDay 15 = .ok (.aload_n 0, 1) := dq daX11_searchesDay_17_0 8 rfl
theorem dX11_searchesDay_16 : decode cX11_searchesDay 16 = .ok (.iload_n 1, 1) := dq daX11_searchesDay_17_0 9 rfl
theorem dX11_searchesDay_17 : decode cX11_searchesDay 17 = .ok (.iload_n 2, 1) := dq daX11_searchesDay_17_0 10 rfl
theorem dX11_searchesDay_18 : decode cX11_searchesDay 18 = .ok (.iload_n 3, 1) := dq daX11_searchesDay_17_0 11 rfl
theorem dX11_searchesDay_19 : decode cX11_searchesDay 19 = .ok (.iload 4, 2) := dq daX11_searchesDay_17_0 12 rfl
theorem dX11_searchesDay_21 : decode cX11_searchesDay 21 = .ok (.iload 9, 2) := dq daX11_searchesDay_17_0 13 rfl
theorem dX11_searchesDay_23 : decode cX11_searchesDay 23 = .ok (.iadd, 1) := dq daX11_searchesDay_17_0 14 rfl
theorem dX11_searchesDay_24 : decode cX11_searchesDay 24 = .ok (.iload 5, 2) := dq daX11_searchesDay_17_0 15 rfl
theorem dX11_searchesDay_26 : decode cX11_searchesDay 26 = .ok (.iload 6, 2) := dq daX11_searchesDay_17_0 16 rfl
theorem dX11_searchesDay_28 : decode cX11_searchesDay 28 = .ok (.iload 7, 2) := dq daX11_searchesDay_17_0 17 rfl
theorem dX11_searchesDay_30 : decode cX11_searchesDay 30 = .ok (.iload 8, 2) := dq daX11_searchesDay_17_0 18 rfl
theorem dX11_searchesDay_32 : decode cX11_searchesDay 32 = .ok (.ldc_w 425, 3) := dq daX11_searchesDay_17_0 19 rfl
theorem dX11_searchesDay_35 : decode cX11_searchesDay 35 = .ok (.invokevirtual 426, 3) := dq daX11_searchesDay_17_0 20 rfl
theorem dX11_searchesDay_38 : decode cX11_searchesDay 38 = .ok (.iinc 9 1, 3) := dq daX11_searchesDay_17_0 21 rfl
theorem dX11_searchesDay_41 : decode cX11_searchesDay 41 = .ok (.goto (-33), 3) := dq daX11_searchesDay_17_0 22 rfl
theorem dX11_searchesDay_44 : decode cX11_searchesDay 44 = .ok (.return_, 1) := dq daX11_searchesDay_17_0 23 rfl
def dtX11_best_17_0 : List (Nat × Jvm.ClassFile.Instr × Nat) := [(0, .aload_n 0, 1), (1, .iload_n 1, 1), (2, .invokevirtual 363, 3), (5, .ifCond .eq 57, 3), (62, .iconst (-1), 1), (63, .ireturn, 1), (8, .aload_n 0, 1), (9, .iload_n 2, 1), (10, .invokevirtual 267, 3), (13, .ifCond .eq 49, 3), (16, .aload_n 0, 1), (17, .iload_n 3, 1), (18, .invokevirtual 267, 3), (21, .ifCond .eq 41, 3), (24, .iload 4, 2), (26, .i2l, 1), (27, .lconst 0, 1), (28, .ldc2_w 289, 3), (31, .invokestatic 118, 3), (34, .ifCond .eq 28, 3), (37, .iload 5, 2), (39, .iload 6, 2), (41, .iload 7, 2), (43, .invokestatic 399, 3), (46, .ifCond .eq 16, 3), (49, .iload 8, 2), (51, .i2l, 1), (52, .lconst 0, 1), (53, .ldc2_w 373, 3), (56, .invokestatic 118, 3), (59, .ifCond .ne 5, 3), (64, .aload_n 0, 1)]
theorem daX11_best_17_0 : dtX11_best_17_0.all (dqd cX11_best) = true := by decide +kernel
theorem dX11_best_0 : decode cX11_best 0 = .ok (.aload_n 0, 1) := dq daX11_best_17_0 0 rfl
theorem dX11_best_1 : decode cX11_best 1 = .ok (.iload_n 1, 1) := dq daX11_best_17_0 1 rfl
theorem dX11_best_2 : decode cX11_best 2 = .ok (.invokevirtual 363, 3) := dq daX11_best_17_0 2 rfl
theorem dX11_best_5 : decode cX11_best 5 = .ok (.ifCond .eq 57, 3) := dq daX11_best_17_0 3 rfl
theorem dX11_best_62 : decode cX11_best 62 = .ok (.iconst (-1), 1) := dq daX11_best_17_0 4 rfl
theorem dX11_best_63 : decode cX11_best 63 = .ok (.ireturn, 1) := dq daX11_best_17_0 5 rfl
theorem dX11_best_8 : decode cX11_best 8 = .ok (.aload_n 0, 1) := dq daX11_best_17_0 6 rfl
theorem dX11_best_9 : decode cX11_best 9 = .ok (.iload_n 2, 1) := dq daX11_best_17_0 7 rfl
theorem dX11_best_10 : decode cX11_best 10 = .ok (.invokevirtual 267, 3) := dq daX11_best_17_0 8 rfl
theorem dX11_best_13 : decode cX11_best 13 = .ok (.ifCond .eq 49, 3) := dq daX11_best_17_0 9 rfl
theorem dX11_best_16 : decode cX11_best 16 = .ok (.aload_n 0, 1) := dq daX11_best_17_0 10 rfl
theorem dX11_best_17 : decode cX11_best 17 = .ok (.iload_n 3, 1) := dq daX11_best_17_0 11 rfl
theorem dX11_best_18 : decode cX11_best 18 = .ok (.invokevirtual 267, 3) := dq daX11_best_17_0 12 rfl
theorem dX11_best_21 : decode cX11_best 21 = .ok (.ifCond .eq 41, 3) := dq daX11_best_17_0 13 rfl
theorem dX11_best_24 : decode cX11_best 24 = .ok (.iload 4, 2) := dq daX11_best_17_0 14 rfl
theorem dX11_best_26 : decode cX11_best 26 = .ok (.i2l, 1) := dq daX11_best_17_0 15 rfl
theorem dX11_best_27 : decode cX11_best 27 = .ok (.lconst 0, 1) := dq daX11_best_17_0 16 rfl
theorem dX11_best_28 : decode cX11_best 28 = .ok (.ldc2_w 289, 3) := dq daX11_best_17_0 17 rfl
theorem dX11_best_31 : decode cX11_best 31 = .ok (.invokestatic 118, 3) := dq daX11_best_17_0 18 rfl
theorem dX11_best_34 : decode cX11_best 34 = .ok (.ifCond .eq 28, 3) := dq daX11_best_17_0 19 rfl
theorem dX11_best_37 : decode cX11_best 37 = .ok (.iload 5, 2) := dq daX11_best_17_0 20 rfl
theorem dX11_best_39 : decode cX11_best 39 = .ok (.iload 6, 2) := dq daX11_best_17_0 21 rfl
theorem dX11_best_41 : decode cX11_best 41 = .ok (.iload 7, 2) := dq daX11_best_17_0 22 rfl
theorem dX11_best_43 : decode cX11_best 43 = .ok (.invokestatic 399, 3) := dq daX11_best_17_0 23 rfl
theorem dX11_best_46 : decode cX11_best 46 = .ok (.ifCond .eq 16, 3) := dq daX11_best_17_0 24 rfl
theorem dX11_best_49 : decode cX11_best 49 = .ok (.iload 8, 2) := dq daX11_best_17_0 25 rfl
theorem dX11_best_51 : decode cX11_best 51 = .ok (.i2l, 1) := dq daX11_best_17_0 26 rfl
theorem dX11_best_52 : decode cX11_best 52 = .ok (.lconst 0, 1) := dq daX11_best_17_0 27 rfl
theorem dX11_best_53 : decode cX11_best 53 = .ok (.ldc2_w 373, 3) := dq daX11_best_17_0 28 rfl
theorem dX11_best_56 : decode cX11_best 56 = .ok (.invokestatic 118, 3) := dq daX11_best_17_0 29 rfl
theorem dX11_best_59 : decode cX11_best 59 = .ok (.ifCond .ne 5, 3) := dq daX11_best_17_0 30 rfl
theorem dX11_best_64 : decode cX11_best 64 = .ok (.aload_n 0, 1) := dq daX11_best_17_0 31 rfl
def dtX11_best_17_1 : List (Nat × Jvm.ClassFile.Instr × Nat) := [(65, .iload_n 1, 1), (66, .iload_n 2, 1), (67, .iload_n 3, 1), (68, .iload 4, 2), (70, .iload 5, 2), (72, .iload 6, 2), (74, .iload 7, 2), (76, .iconst (-1), 1), (77, .invokevirtual 430, 3), (80, .aload_n 0, 1), (81, .getfield 413, 3), (84, .ifCond .ge 6, 3), (90, .iload 8, 2), (92, .iconst 3, 1), (93, .if_icmp .ge 36, 3), (129, .iload 8, 2), (131, .iconst 3, 1), (132, .isub, 1), (133, .aload_n 0, 1), (134, .getfield 419, 3), (137, .if_icmp .ge 15, 3), (152, .bipush (-2), 2), (140, .aload_n 0, 1), (141, .getfield 60, 3), (144, .iload 8, 2), (146, .iconst 3, 1), (147, .isub, 1), (148, .iaload, 1), (149, .goto 5, 3), (96, .iload 8, 2), (98, .ifCond .ne 10, 3), (108, .iload 8, 2)]
theorem daX11_best_17_1 : dtX11_best_17_1.all (dqd cX11_best) = true := by decide +kernel
theorem dX11_best_65 : decode cX11_best 65 = .ok (.iload_n 1, 1) := dq daX11_best_17_1 0 rfl
theorem dX11_best_66 : decode cX11_best 66 = .ok (.iload_n 2, 1) := dq daX11_best_17_1 1 rfl
theorem dX11_best_67 : decode cX11_best 67 = .ok (.iload_n 3, 1) := dq daX11_best_17_1 2 rfl
theorem dX11_best_68 : decode cX11_best 68 = .ok (.iload 4, 2) := dq daX11_best_17_1 3 rfl
theorem dX11_best_70 : decode cX11_best 70 = .ok (.iload 5, 2) := dq daX11_best_17_1 4 rfl
theorem dX11_best_72 : decode cX11_best 72 = .ok (.iload 6, 2) := dq daX11_best_17_1 5 rfl
theorem dX11_best_74 : decode cX11_best 74 = .ok (.iload 7, 2) := dq daX11_best_17_1 6 rfl
theorem dX11_best_76 : decode cX11_best 76 = .ok (.iconst (-1), 1) := dq daX11_best_17_1 7 rfl
theorem dX11_best_77 : decode cX11_best 77 = .ok (.invokevirtual 430, 3) := dq daX11_best_17_1 8 rfl
theorem dX11_best_80 : decode cX11_best 80 = .ok (.aload_n 0, 1) := dq daX11_best_17_1 9 rfl
theorem dX11_best_81 : decode cX11_best 81 = .ok (.getfield 413, 3) := dq daX11_best_17_1 10 rfl
theorem dX11_best_84 : decode cX11_best 84 = .ok (.ifCond .ge 6, 3) := dq daX11_best_17_1 11 rfl
theorem dX11_best_90 : decode cX11_best 90 = .ok (.iload 8, 2) := dq daX11_best_17_1 12 rfl
theorem dX11_best_92 : decode cX11_best 92 = .ok (.iconst 3, 1) := dq daX11_best_17_1 13 rfl
theorem dX11_best_93 : decode cX11_best 93 = .ok (.if_icmp .ge 36, 3) := dq daX11_best_17_1 14 rfl
theorem dX11_best_129 : decode cX11_best 129 = .ok (.iload 8, 2) := dq daX11_best_17_1 15 rfl
theorem dX11_best_131 : decode cX11_best 131 = .ok (.iconst 3, 1) := dq daX11_best_17_1 16 rfl
theorem dX11_best_132 : decode cX11_best 132 = .ok (.isub, 1) := dq daX11_best_17_1 17 rfl
theorem dX11_best_133 : decode cX11_best 133 = .ok (.aload_n 0, 1) := dq daX11_best_17_1 18 rfl
theorem dX11_best_134 : decode cX11_best 134 = .ok (.getfield 419, 3) := dq daX11_best_17_1 19 rfl
theorem dX11_best_137 : decode cX11_best 137 = .ok (.if_icmp .ge 15, 3) := dq daX11_best_17_1 20 rfl
theorem dX11_best_152 : decode cX11_best 152 = .ok (.bipush (-2), 2) := dq daX11_best_17_1 21 rfl
theorem dX11_best_140 : decode cX11_best 140 = .ok (.aload_n 0, 1) := dq daX11_best_17_1 22 rfl
theorem dX11_best_141 : decode cX11_best 141 = .ok (.getfield 60, 3) := dq daX11_best_17_1 23 rfl
theorem dX11_best_144 : decode cX11_best 144 = .ok (.iload 8, 2) := dq daX11_best_17_1 24 rfl
theorem dX11_best_146 : decode cX11_best 146 = .ok (.iconst 3, 1) := dq daX11_best_17_1 25 rfl
theorem dX11_best_147 : decode cX11_best 147 = .ok (.isub, 1) := dq daX11_best_17_1 26 rfl
theorem dX11_best_148 : decode cX11_best 148 = .ok (.iaload, 1) := dq daX11_best_17_1 27 rfl
theorem dX11_best_149 : decode cX11_best 149 = .ok (.goto 5, 3) := dq daX11_best_17_1 28 rfl
theorem dX11_best_96 : decode cX11_best 96 = .ok (.iload 8, 2) := dq daX11_best_17_1 29 rfl
theorem dX11_best_98 : decode cX11_best 98 = .ok (.ifCond .ne 10, 3) := dq daX11_best_17_1 30 rfl
theorem dX11_best_108 : decode cX11_best 108 = .ok (.iload 8, 2) := dq daX11_best_17_1 31 rfl
def dtX11_best_17_2 : List (Nat × Jvm.ClassFile.Instr × Nat) := [(110, .iconst 1, 1), (111, .if_icmp .ne 13, 3), (124, .aload_n 0, 1), (125, .getfield 419, 3), (114, .aload_n 0, 1), (115, .getfield 416, 3), (118, .iload 4, 2), (120, .isub, 1), (121, .goto 7, 3), (101, .aload_n 0, 1), (102, .getfield 413, 3), (105, .goto 23, 3), (87, .bipush (-3), 2), (154, .ireturn, 1), (128, .ireturn, 1), (89, .ireturn, 1)]
theorem daX11_best_17_2 : dtX11_best_17_2.all (dqd cX11_best) = true := by decide +kernel
theorem dX11_best_110 : decode cX11_best 110 = .ok (.iconst 1, 1) := dq daX11_best_17_2 0 rfl
theorem dX11_best_111 : decode cX11_best 111 = .ok (.if_icmp .ne 13, 3) := dq daX11_best_17_2 1 rfl
theorem dX11_best_124 : decode cX11_best 124 = .ok (.aload_n 0, 1) := dq daX11_best_17_2 2 rfl
theorem dX11_best_125 : decode cX11_best 125 = .ok (.getfield 419, 3) := dq daX11_best_17_2 3 rfl
theorem dX11_best_114 : decode cX11_best 114 = .ok (.aload_n 0, 1) := dq daX11_best_17_2 4 rfl
theorem dX11_best_115 : decode cX11_best 115 = .ok (.getfield 416, 3) := dq daX11_best_17_2 5 rfl
theorem dX11_best_118 : decode cX11_best 118 = .ok (.iload 4, 2) := dq daX11_best_17_2 6 rfl
theorem dX11_best_120 : decode cX11_best 120 = .ok (.isub, 1) := dq daX11_best_17_2 7 rfl
theorem dX11_best_121 : decode cX11_best 121 = .ok (.goto 7, 3) := dq daX11_best_17_2 8 rfl
theorem dX11_best_101 : decode cX11_best 101 = .ok (.aload_n 0, 1) := dq daX11_best_17_2 9 rfl
theorem dX11_best_102 : decode cX11_best 102 = .ok (.getfield 413, 3) := dq daX11_best_17_2 10 rfl
theorem dX11_best_105 : decode cX11_best 105 = .ok (.goto 23, 3) := dq daX11_best_17_2 11 rfl
theorem dX11_best_87 : decode cX11_best 87 = .ok (.bipush (-3), 2) := dq daX11_best_17_2 12 rfl
theorem dX11_best_154 : decode cX11_best 154 = .ok (.ireturn, 1) := dq daX11_best_17_2 13 rfl
theorem dX11_best_128 : decode cX11_best 128 = .ok (.ireturn, 1) := dq daX11_best_17_2 14 rfl
theorem dX11_best_89 : decode cX11_best 89 = .ok (.ireturn, 1) := dq daX11_best_17_2 15 rfl
def dtX11_price_17_0 : List (Nat × Jvm.ClassFile.Instr × Nat) := [(0, .aload_n 0, 1), (1, .iload_n 1, 1), (2, .invokevirtual 363, 3), (5, .ifCond .eq 54, 3), (59, .iconst (-1), 1), (60, .ireturn, 1), (8, .aload_n 0, 1), (9, .iload_n 2, 1), (10, .invokevirtual 267, 3), (13, .ifCond .eq 46, 3), (16, .aload_n 0, 1), (17, .iload_n 3, 1), (18, .invokevirtual 267, 3), (21, .ifCond .eq 38, 3), (24, .iload 4, 2), (26, .i2l, 1), (27, .lconst 0, 1), (28, .ldc2_w 289, 3), (31, .invokestatic 118, 3), (34, .ifCond .eq 25, 3), (37, .iload 5, 2), (39, .i2l, 1), (40, .lconst 0, 1), (41, .ldc2_w 289, 3), (44, .invokestatic 118, 3), (47, .ifCond .eq 12, 3), (50, .aload_n 0, 1), (51, .iload 6, 2), (53, .invokevirtual 306, 3), (56, .ifCond .ne 5, 3), (61, .aload_n 0, 1), (62, .iload_n 1, 1)]
theorem daX11_price_17_0 : dtX11_price_17_0.all (dqd cX11_price) = true := by decide +kernel
theorem dX11_price_0 : decode cX11_price 0 = .ok (.aload_n 0, 1) := dq daX11_price_17_0 0 rfl
theorem dX11_price_1 : decode cX11_price 1 = .ok (.iload_n 1, 1) := dq daX11_price_17_0 1 rfl
theorem dX11_price_2 : decode cX11_price 2 = .ok (.invokevirtual 363, 3) := dq daX11_price_17_0 2 rfl
theorem dX11_price_5 : decode cX11_price 5 = .ok (.ifCond .eq 54, 3) := dq daX11_price_17_0 3 rfl
theorem dX11_price_59 : decode cX11_price 59 = .ok (.iconst (-1), 1) := dq daX11_price_17_0 4 rfl
theorem dX11_price_60 : decode cX11_price 60 = .ok (.ireturn, 1) := dq daX11_price_17_0 5 rfl
theorem dX11_price_8 : decode cX11_price 8 = .ok (.aload_n 0, 1) := dq daX11_price_17_0 6 rfl
theorem dX11_price_9 : decode cX11_price 9 = .ok (.iload_n 2, 1) := dq daX11_price_17_0 7 rfl
theorem dX11_price_10 : decode cX11_price 10 = .ok (.invokevirtual 267, 3) := dq daX11_price_17_0 8 rfl
theorem dX11_price_13 : decode cX11_price 13 = .ok (.ifCond .eq 46, 3) := dq daX11_price_17_0 9 rfl
theorem dX11_price_16 : decode cX11_price 16 = .ok (.aload_n 0, 1) := dq daX11_price_17_0 10 rfl
theorem dX11_price_17 : decode cX11_price 17 = .ok (.iload_n 3, 1) := dq daX11_price_17_0 11 rfl
theorem dX11_price_18 : decode cX11_price 18 = .ok (.invokevirtual 267, 3) := dq daX11_price_17_0 12 rfl
theorem dX11_price_21 : decode cX11_price 21 = .ok (.ifCond .eq 38, 3) := dq daX11_price_17_0 13 rfl
theorem dX11_price_24 : decode cX11_price 24 = .ok (.iload 4, 2) := dq daX11_price_17_0 14 rfl
theorem dX11_price_26 : decode cX11_price 26 = .ok (.i2l, 1) := dq daX11_price_17_0 15 rfl
theorem dX11_price_27 : decode cX11_price 27 = .ok (.lconst 0, 1) := dq daX11_price_17_0 16 rfl
theorem dX11_price_28 : decode cX11_price 28 = .ok (.ldc2_w 289, 3) := dq daX11_price_17_0 17 rfl
theorem dX11_price_31 : decode cX11_price 31 = .ok (.invokestatic 118, 3) := dq daX11_price_17_0 18 rfl
theorem dX11_price_34 : decode cX11_price 34 = .ok (.ifCond .eq 25, 3) := dq daX11_price_17_0 19 rfl
theorem dX11_price_37 : decode cX11_price 37 = .ok (.iload 5, 2) := dq daX11_price_17_0 20 rfl
theorem dX11_price_39 : decode cX11_price 39 = .ok (.i2l, 1) := dq daX11_price_17_0 21 rfl
theorem dX11_price_40 : decode cX11_price 40 = .ok (.lconst 0, 1) := dq daX11_price_17_0 22 rfl
theorem dX11_price_41 : decode cX11_price 41 = .ok (.ldc2_w 289, 3) := dq daX11_price_17_0 23 rfl
theorem dX11_price_44 : decode cX11_price 44 = .ok (.invokestatic 118, 3) := dq daX11_price_17_0 24 rfl
theorem dX11_price_47 : decode cX11_price 47 = .ok (.ifCond .eq 12, 3) := dq daX11_price_17_0 25 rfl
theorem dX11_price_50 : decode cX11_price 50 = .ok (.aload_n 0, 1) := dq daX11_price_17_0 26 rfl
theorem dX11_price_51 : decode cX11_price 51 = .ok (.iload 6, 2) := dq daX11_price_17_0 27 rfl
theorem dX11_price_53 : decode cX11_price 53 = .ok (.invokevirtual 306, 3) := dq daX11_price_17_0 28 rfl
theorem dX11_price_56 : decode cX11_price 56 = .ok (.ifCond .ne 5, 3) := dq daX11_price_17_0 29 rfl
theorem dX11_price_61 : decode cX11_price 61 = .ok (.aload_n 0, 1) := dq daX11_price_17_0 30 rfl
theorem dX11_price_62 : decode cX11_price 62 = .ok (.iload_n 1, 1) := dq daX11_price_17_0 31 rfl
def dtX11_price_17_1 : List (Nat × Jvm.ClassFile.Instr × Nat) := [(63, .iload_n 2, 1), (64, .iload_n 3, 1), (65, .iload 4, 2), (67, .iload 5, 2), (69, .iconst 0, 1), (70, .iconst 0, 1), (71, .iconst (-1), 1), (72, .invokevirtual 430, 3), (75, .aload_n 0, 1), (76, .getfield 413, 3), (79, .ifCond .ge 6, 3), (85, .aload_n 0, 1), (86, .getfield 413, 3), (89, .istore 7, 2), (91, .aload_n 0, 1), (92, .iload_n 1, 1), (93, .iload_n 2, 1), (94, .iload_n 3, 1), (95, .iload 4, 2), (97, .iload 5, 2), (99, .iconst 0, 1), (100, .iconst 0, 1), (101, .iload 6, 2), (103, .invokevirtual 430, 3), (106, .aload_n 0, 1), (107, .getfield 413, 3), (110, .ifCond .ge 8, 3), (118, .iload 7, 2), (120, .aload_n 0, 1), (121, .getfield 413, 3), (124, .isub, 1), (113, .iload 7, 2)]
theorem daX11_price_17_1 : dtX11_price_17_1.all (dqd cX11_price) = true := by decide +kernel
theorem dX11_price_63 : decode cX11_price 63 = .ok (.iload_n 2, 1) := dq daX11_price_17_1 0 rfl
theorem dX11_price_64 : decode cX11_price 64 = .ok (.iload_n 3, 1) := dq daX11_price_17_1 1 rfl
theorem dX11_price_65 : decode cX11_price 65 = .ok (.iload 4, 2) := dq daX11_price_17_1 2 rfl
theorem dX11_price_67 : decode cX11_price 67 = .ok (.iload 5, 2) := dq daX11_price_17_1 3 rfl
theorem dX11_price_69 : decode cX11_price 69 = .ok (.iconst 0, 1) := dq daX11_price_17_1 4 rfl
theorem dX11_price_70 : decode cX11_price 70 = .ok (.iconst 0, 1) := dq daX11_price_17_1 5 rfl
theorem dX11_price_71 : decode cX11_price 71 = .ok (.iconst (-1), 1) := dq daX11_price_17_1 6 rfl
theorem dX11_price_72 : decode cX11_price 72 = .ok (.invokevirtual 430, 3) := dq daX11_price_17_1 7 rfl
theorem dX11_price_75 : decode cX11_price 75 = .ok (.aload_n 0, 1) := dq daX11_price_17_1 8 rfl
theorem dX11_price_76 : decode cX11_price 76 = .ok (.getfield 413, 3) := dq daX11_price_17_1 9 rfl
theorem dX11_price_79 : decode cX11_price 79 = .ok (.ifCond .ge 6, 3) := dq daX11_price_17_1 10 rfl
theorem dX11_price_85 : decode cX11_price 85 = .ok (.aload_n 0, 1) := dq daX11_price_17_1 11 rfl
theorem dX11_price_86 : decode cX11_price 86 = .ok (.getfield 413, 3) := dq daX11_price_17_1 12 rfl
theorem dX11_price_89 : decode cX11_price 89 = .ok (.istore 7, 2) := dq daX11_price_17_1 13 rfl
theorem dX11_price_91 : decode cX11_price 91 = .ok (.aload_n 0, 1) := dq daX11_price_17_1 14 rfl
theorem dX11_price_92 : decode cX11_price 92 = .ok (.iload_n 1, 1) := dq daX11_price_17_1 15 rfl
theorem dX11_price_93 : decode cX11_price 93 = .ok (.iload_n 2, 1) := dq daX11_price_17_1 16 rfl
theorem dX11_price_94 : decode cX11_price 94 = .ok (.iload_n 3, 1) := dq daX11_price_17_1 17 rfl
theorem dX11_price_95 : decode cX11_price 95 = .ok (.iload 4, 2) := dq daX11_price_17_1 18 rfl
theorem dX11_price_97 : decode cX11_price 97 = .ok (.iload 5, 2) := dq daX11_price_17_1 19 rfl
theorem dX11_price_99 : decode cX11_price 99 = .ok (.iconst 0, 1) := dq daX11_price_17_1 20 rfl
theorem dX11_price_100 : decode cX11_price 100 = .ok (.iconst 0, 1) := dq daX11_price_17_1 21 rfl
theorem dX11_price_101 : decode cX11_price 101 = .ok (.iload 6, 2) := dq daX11_price_17_1 22 rfl
theorem dX11_price_103 : decode cX11_price 103 = .ok (.invokevirtual 430, 3) := dq daX11_price_17_1 23 rfl
theorem dX11_price_106 : decode cX11_price 106 = .ok (.aload_n 0, 1) := dq daX11_price_17_1 24 rfl
theorem dX11_price_107 : decode cX11_price 107 = .ok (.getfield 413, 3) := dq daX11_price_17_1 25 rfl
theorem dX11_price_110 : decode cX11_price 110 = .ok (.ifCond .ge 8, 3) := dq daX11_price_17_1 26 rfl
theorem dX11_price_118 : decode cX11_price 118 = .ok (.iload 7, 2) := dq daX11_price_17_1 27 rfl
theorem dX11_price_120 : decode cX11_price 120 = .ok (.aload_n 0, 1) := dq daX11_price_17_1 28 rfl
theorem dX11_price_121 : decode cX11_price 121 = .ok (.getfield 413, 3) := dq daX11_price_17_1 29 rfl
theorem dX11_price_124 : decode cX11_price 124 = .ok (.isub, 1) := dq daX11_price_17_1 30 rfl
theorem dX11_price_113 : decode cX11_price 113 = .ok (.iload 7, 2) := dq daX11_price_17_1 31 rfl
def dtX11_price_17_2 : List (Nat × Jvm.ClassFile.Instr × Nat) := [(115, .goto 10, 3), (82, .bipush (-3), 2), (125, .ireturn, 1), (84, .ireturn, 1)]
theorem daX11_price_17_2 : dtX11_price_17_2.all (dqd cX11_price) = true := by decide +kernel
theorem dX11_price_115 : decode cX11_price 115 = .ok (.goto 10, 3) := dq daX11_price_17_2 0 rfl
theorem dX11_price_82 : decode cX11_price 82 = .ok (.bipush (-3), 2) := dq daX11_price_17_2 1 rfl
theorem dX11_price_125 : decode cX11_price 125 = .ok (.ireturn, 1) := dq daX11_price_17_2 2 rfl
theorem dX11_price_84 : decode cX11_price 84 = .ok (.ireturn, 1) := dq daX11_price_17_2 3 rfl
