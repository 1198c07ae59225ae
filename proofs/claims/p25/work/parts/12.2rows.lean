theorem kX11_seed_1 {a : Array Value} {s : State} (hts : ∀ w ∈ wsX11_seed, w.before a s = true) : (.fieldLink RX11 39 "SnowMulesModel" "said" "[I" : Cond).before a s = true := kw (A := ixX11_seed) wt153 hts (by decide +kernel)
theorem kX11_fill_1 {a : Array Value} {s : State} (hts : ∀ w ∈ wsX11_fill, w.before a s = true) : (.constantLong RX11 289 (99999) : Cond).before a s = true := kw (A := ixX11_fill) wt612 hts (by decide +kernel)
theorem kX11_fill_2 {a : Array Value} {s : State} (hts : ∀ w ∈ wsX11_fill, w.before a s = true) : (.fieldLink RX11 39 "SnowMulesModel" "said" "[I" : Cond).before a s = true := kw (A := ixX11_fill) wt153 hts (by decide +kernel)
theorem kX11_stores_1 {a : Array Value} {s : State} (hts : ∀ w ∈ wsX11_stores, w.before a s = true) : (.fieldLink RX11 39 "SnowMulesModel" "said" "[I" : Cond).before a s = true := kw (A := ixX11_stores) wt153 hts (by decide +kernel)
theorem kX11_stores_2 {a : Array Value} {s : State} (hts : ∀ w ∈ wsX11_stores, w.before a s = true) : (.constant RX11 297 (999999) : Cond).before a s = true := kw (A := ixX11_stores) wt655 hts (by decide +kernel)
theorem kX11_pour_1 {a : Array Value} {s : State} (hts : ∀ w ∈ wsX11_pour, w.before a s = true) : (.fieldLink RX11 39 "SnowMulesModel" "said" "[I" : Cond).before a s = true := kw (A := ixX11_pour) wt153 hts (by decide +kernel)
theorem kX11_store_1 {a : Array Value} {s : State} (hts : ∀ w ∈ wsX11_store, w.before a s = true) : (.constantLong RX11 301 (999999) : Cond).before a s = true := kw (A := ixX11_store) wt665 hts (by decide +kernel)
theorem kX11_store_2 {a : Array Value} {s : State} (hts : ∀ w ∈ wsX11_store, w.before a s = true) : (.fieldLink RX11 39 "SnowMulesModel" "said" "[I" : Cond).before a s = true := kw (A := ixX11_store) wt153 hts (by decide +kernel)
theorem kX11_leave_1 {a : Array Value} {s : State} (hts : ∀ w ∈ wsX11_leave, w.before a s = true) : (.fieldLink RX11 39 "SnowMulesModel" "said" "[I" : Cond).before a s = true := kw (A := ixX11_leave) wt153 hts (by decide +kernel)
theorem kX11_hourWords_1 {a : Array Value} {s : State} (hts : ∀ w ∈ wsX11_hourWords, w.before a s = true) : (.fieldLink RX11 36 "SnowMulesModel" "word" "[J" : Cond).before a s = true := kw (A := ixX11_hourWords) wt152 hts (by decide +kernel)
theorem kX11_nodeWords_1 {a : Array Value} {s : State} (hts : ∀ w ∈ wsX11_nodeWords, w.before a s = true) : (.fieldLink RX11 36 "SnowMulesModel" "word" "[J" : Cond).before a s = true := kw (A := ixX11_nodeWords) wt152 hts (by decide +kernel)
theorem kX11_passWords_1 {a : Array Value} {s : State} (hts : ∀ w ∈ wsX11_passWords, w.before a s = true) : (.fieldLink RX11 36 "SnowMulesModel" "word" "[J" : Cond).before a s = true := kw (A := ixX11_passWords) wt152 hts (by decide +kernel)
theorem kX11_passWords_2 {a : Array Value} {s : State} (hts : ∀ w ∈ wsX11_passWords, w.before a s = true) : (.constantLong RX11 316 (12) : Cond).before a s = true := kw (A := ixX11_passWords) wt822 hts (by decide +kernel)
theorem kX11_draw_1 {a : Array Value} {s : State} (hts : ∀ w ∈ wsX11_draw, w.before a s = true) : (.fieldLink RX11 39 "SnowMulesModel" "said" "[I" : Cond).before a s = true := kw (A := ixX11_draw) wt153 hts (by decide +kernel)
theorem kX11_draw_2 {a : Array Value} {s : State} (hts : ∀ w ∈ wsX11_draw, w.before a s = true) : (.constantLong RX11 338 (1103515245) : Cond).before a s = true := kw (A := ixX11_draw) wt867 hts (by decide +kernel)
theorem kX11_draw_3 {a : Array Value} {s : State} (hts : ∀ w ∈ wsX11_draw, w.before a s = true) : (.constantLong RX11 340 (12345) : Cond).before a s = true := kw (A := ixX11_draw) wt868 hts (by decide +kernel)
theorem kX11_draw_4 {a : Array Value} {s : State} (hts : ∀ w ∈ wsX11_draw, w.before a s = true) : (.constantLong RX11 342 (2147483648) : Cond).before a s = true := kw (A := ixX11_draw) wt869 hts (by decide +kernel)
theorem kX11_draw_5 {a : Array Value} {s : State} (hts : ∀ w ∈ wsX11_draw, w.before a s = true) : (.constantLong RX11 344 (65536) : Cond).before a s = true := kw (A := ixX11_draw) wt870 hts (by decide +kernel)
theorem kX11_draw_6 {a : Array Value} {s : State} (hts : ∀ w ∈ wsX11_draw, w.before a s = true) : (.constantLong RX11 272 (1000) : Cond).before a s = true := kw (A := ixX11_draw) wt208 hts (by decide +kernel)
theorem kX11_goesFor_1 {a : Array Value} {s : State} (hts : ∀ w ∈ wsX11_goesFor, w.before a s = true) : (.fieldLink RX11 39 "SnowMulesModel" "said" "[I" : Cond).before a s = true := kw (A := ixX11_goesFor) wt153 hts (by decide +kernel)
theorem iX11_seed_X11 : ∀ w ∈ wsX110, w ∈ wsX11_seed := inW (A := ixX11_seed) uwX11 (by decide +kernel)
theorem iX11_fill_X11 : ∀ w ∈ wsX110, w ∈ wsX11_fill := inW (A := ixX11_fill) uwX11 (by decide +kernel)
theorem iX11_stores_X11 : ∀ w ∈ wsX110, w ∈ wsX11_stores := inW (A := ixX11_stores) uwX11 (by decide +kernel)
theorem iX11_pour_X11 : ∀ w ∈ wsX110, w ∈ wsX11_pour := inW (A := ixX11_pour) uwX11 (by decide +kernel)
theorem iX11_store_X11 : ∀ w ∈ wsX110, w ∈ wsX11_store := inW (A := ixX11_store) uwX11 (by decide +kernel)
theorem iX11_leave_X11 : ∀ w ∈ wsX110, w ∈ wsX11_leave := inW (A := ixX11_leave) uwX11 (by decide +kernel)
theorem iX11_hourWords_X11 : ∀ w ∈ wsX110, w ∈ wsX11_hourWords := inW (A := ixX11_hourWords) uwX11 (by decide +kernel)
theorem iX11_nodeWords_X11 : ∀ w ∈ wsX110, w ∈ wsX11_nodeWords := inW (A := ixX11_nodeWords) uwX11 (by decide +kernel)
theorem iX11_passWords_X11 : ∀ w ∈ wsX110, w ∈ wsX11_passWords := inW (A := ixX11_passWords) uwX11 (by decide +kernel)
theorem iX11_draw_X11 : ∀ w ∈ wsX110, w ∈ wsX11_draw := inW (A := ixX11_draw) uwX11 (by decide +kernel)
theorem iX11_goesFor_X11 : ∀ w ∈ wsX110, w ∈ wsX11_goesFor := inW (A := ixX11_goesFor) uwX11 (by decide +kernel)
theorem hdX11_stands : yX11_stands.cls ≠ "java/lang/invoke/MethodHandle" ∧ yX11_stands.cls ≠ "java/lang/invoke/VarHandle" ∧ (parseMethodDescriptor yX11_stands.desc).map (fun d => d.parameters.length) = some 1 := ⟨hdc_0.1, hdc_0.2, hdd_1⟩
theorem hdX11_monthAt : yX11_monthAt.cls ≠ "java/lang/invoke/MethodHandle" ∧ yX11_monthAt.cls ≠ "java/lang/invoke/VarHandle" ∧ (parseMethodDescriptor yX11_monthAt.desc).map (fun d => d.parameters.length) = some 1 := ⟨hdc_0.1, hdc_0.2, hdd_3⟩
theorem hdX11_hasSnow : yX11_hasSnow.cls ≠ "java/lang/invoke/MethodHandle" ∧ yX11_hasSnow.cls ≠ "java/lang/invoke/VarHandle" ∧ (parseMethodDescriptor yX11_hasSnow.desc).map (fun d => d.parameters.length) = some 2 := ⟨hdc_0.1, hdc_0.2, hdd_4⟩
theorem hdX11_stores : yX11_stores.cls ≠ "java/lang/invoke/MethodHandle" ∧ yX11_stores.cls ≠ "java/lang/invoke/VarHandle" ∧ (parseMethodDescriptor yX11_stores.desc).map (fun d => d.parameters.length) = some 2 := ⟨hdc_0.1, hdc_0.2, hdd_0⟩
theorem hdX11_isPass : yX11_isPass.cls ≠ "java/lang/invoke/MethodHandle" ∧ yX11_isPass.cls ≠ "java/lang/invoke/VarHandle" ∧ (parseMethodDescriptor yX11_isPass.desc).map (fun d => d.parameters.length) = some 1 := ⟨hdc_0.1, hdc_0.2, hdd_1⟩
theorem hdX11_other : yX11_other.cls ≠ "java/lang/invoke/MethodHandle" ∧ yX11_other.cls ≠ "java/lang/invoke/VarHandle" ∧ (parseMethodDescriptor yX11_other.desc).map (fun d => d.parameters.length) = some 2 := ⟨hdc_0.1, hdc_0.2, hdd_0⟩
theorem hdX11_hourWords : yX11_hourWords.cls ≠ "java/lang/invoke/MethodHandle" ∧ yX11_hourWords.cls ≠ "java/lang/invoke/VarHandle" ∧ (parseMethodDescriptor yX11_hourWords.desc).map (fun d => d.parameters.length) = some 4 := ⟨hdc_0.1, hdc_0.2, hdd_5⟩
def dtX11_seed_12_0 : List (Nat × Jvm.ClassFile.Instr × Nat) := [(0, .iload_n 1, 1), (1, .ifCond .ge 5, 3), (6, .aload_n 0, 1), (7, .getfield 39, 3), (10, .bipush 7, 2), (12, .iaload, 1), (13, .istore_n 2, 1), (14, .aload_n 0, 1), (15, .getfield 39, 3), (18, .bipush 7, 2), (20, .iload_n 1, 1), (21, .iastore, 1), (22, .iload_n 2, 1), (4, .iconst (-1), 1), (5, .ireturn, 1), (23, .ireturn, 1)]
theorem daX11_seed_12_0 : dtX11_seed_12_0.all (dqd cX11_seed) = true := by decide +kernel
theorem dX11_seed_0 : decode cX11_seed 0 = .ok (.iload_n 1, 1) := dq daX11_seed_12_0 0 rfl
theorem dX11_seed_1 : decode cX11_seed 1 = .ok (.ifCond .ge 5, 3) := dq daX11_seed_12_0 1 rfl
theorem dX11_seed_6 : decode cX11_seed 6 = .ok (.aload_n 0, 1) := dq daX11_seed_12_0 2 rfl
theorem dX11_seed_7 : decode cX11_seed 7 = .ok (.getfield 39, 3) := dq daX11_seed_12_0 3 rfl
theorem dX11_seed_10 : decode cX11_seed 10 = .ok (.bipush 7, 2) := dq daX11_seed_12_0 4 rfl
theorem dX11_seed_12 : decode cX11_seed 12 = .ok (.iaload, 1) := dq daX11_seed_12_0 5 rfl
theorem dX11_seed_13 : decode cX11_seed 13 = .ok (.istore_n 2, 1) := dq daX11_seed_12_0 6 rfl
theorem dX11_seed_14 : decode cX11_seed 14 = .ok (.aload_n 0, 1) := dq daX11_seed_12_0 7 rfl
theorem dX11_seed_15 : decode cX11_seed 15 = .ok (.getfield 39, 3) := dq daX11_seed_12_0 8 rfl
theorem dX11_seed_18 : decode cX11_seed 18 = .ok (.bipush 7, 2) := dq daX11_seed_12_0 9 rfl
theorem dX11_seed_20 : decode cX11_seed 20 = .ok (.iload_n 1, 1) := dq daX11_seed_12_0 10 rfl
theorem dX11_seed_21 : decode cX11_seed 21 = .ok (.iastore, 1) := dq daX11_seed_12_0 11 rfl
theorem dX11_seed_22 : decode cX11_seed 22 = .ok (.iload_n 2, 1) := dq daX11_seed_12_0 12 rfl
theorem dX11_seed_4 : decode cX11_seed 4 = .ok (.iconst (-1), 1) := dq daX11_seed_12_0 13 rfl
theorem dX11_seed_5 : decode cX11_seed 5 = .ok (.ireturn, 1) := dq daX11_seed_12_0 14 rfl
theorem dX11_seed_23 : decode cX11_seed 23 = .ok (.ireturn, 1) := dq daX11_seed_12_0 15 rfl
def dtX11_fill_12_0 : List (Nat × Jvm.ClassFile.Instr × Nat) := [(0, .aload_n 0, 1), (1, .iload_n 1, 1), (2, .invokevirtual 286, 3), (5, .ifCond .eq 38, 3), (43, .iconst (-1), 1), (44, .ireturn, 1), (8, .iload_n 2, 1), (9, .i2l, 1), (10, .lconst 0, 1), (11, .ldc2_w 289, 3), (14, .invokestatic 118, 3), (17, .ifCond .eq 26, 3), (20, .aload_n 0, 1), (21, .aload_n 0, 1), (22, .iload_n 1, 1), (23, .iconst 5, 1), (24, .invokevirtual 283, 3), (27, .aload_n 0, 1), (28, .aload_n 0, 1), (29, .getfield 39, 3), (32, .iconst 5, 1), (33, .iaload, 1), (34, .invokevirtual 291, 3), (37, .invokevirtual 294, 3), (40, .ifCond .ne 5, 3), (45, .aload_n 0, 1), (46, .iload_n 1, 1), (47, .iconst 4, 1), (48, .invokevirtual 283, 3), (51, .istore_n 3, 1), (52, .aload_n 0, 1), (53, .getfield 39, 3)]
theorem daX11_fill_12_0 : dtX11_fill_12_0.all (dqd cX11_fill) = true := by decide +kernel
theorem dX11_fill_0 : decode cX11_fill 0 = .ok (.aload_n 0, 1) := dq daX11_fill_12_0 0 rfl
theorem dX11_fill_1 : decode cX11_fill 1 = .ok (.iload_n 1, 1) := dq daX11_fill_12_0 1 rfl
theorem dX11_fill_2 : decode cX11_fill 2 = .ok (.invokevirtual 286, 3) := dq daX11_fill_12_0 2 rfl
theorem dX11_fill_5 : decode cX11_fill 5 = .ok (.ifCond .eq 38, 3) := dq daX11_fill_12_0 3 rfl
theorem dX11_fill_43 : decode cX11_fill 43 = .ok (.iconst (-1), 1) := dq daX11_fill_12_0 4 rfl
theorem dX11_fill_44 : decode cX11_fill 44 = .ok (.ireturn, 1) := dq daX11_fill_12_0 5 rfl
theorem dX11_fill_8 : decode cX11_fill 8 = .ok (.iload_n 2, 1) := dq daX11_fill_12_0 6 rfl
theorem dX11_fill_9 : decode cX11_fill 9 = .ok (.i2l, 1) := dq daX11_fill_12_0 7 rfl
theorem dX11_fill_10 : decode cX11_fill 10 = .ok (.lconst 0, 1) := dq daX11_fill_12_0 8 rfl
theorem dX11_fill_11 : decode cX11_fill 11 = .ok (.ldc2_w 289, 3) := dq daX11_fill_12_0 9 rfl
theorem dX11_fill_14 : decode cX11_fill 14 = .ok (.invokestatic 118, 3) := dq daX11_fill_12_0 10 rfl
theorem dX11_fill_17 : decode cX11_fill 17 = .ok (.ifCond .eq 26, 3) := dq daX11_fill_12_0 11 rfl
theorem dX11_fill_20 : decode cX11_fill 20 = .ok (.aload_n 0, 1) := dq daX11_fill_12_0 12 rfl
theorem dX11_fill_21 : decode cX11_fill 21 = .ok (.aload_n 0, 1) := dq daX11_fill_12_0 13 rfl
theorem dX11_fill_22 : decode cX11_fill 22 = .ok (.iload_n 1, 1) := dq daX11_fill_12_0 14 rfl
theorem dX11_fill_23 : decode cX11_fill 23 = .ok (.iconst 5, 1) := dq daX11_fill_12_0 15 rfl
theorem dX11_fill_24 : decode cX11_fill 24 = .ok (.invokevirtual 283, 3) := dq daX11_fill_12_0 16 rfl
theorem dX11_fill_27 : decode cX11_fill 27 = .ok (.aload_n 0, 1) := dq daX11_fill_12_0 17 rfl
theorem dX11_fill_28 : decode cX11_fill 28 = .ok (.aload_n 0, 1) := dq daX11_fill_12_0 18 rfl
theorem dX11_fill_29 : decode cX11_fill 29 = .ok (.getfield 39, 3) := dq daX11_fill_12_0 19 rfl
theorem dX11_fill_32 : decode cX11_fill 32 = .ok (.iconst 5, 1) := dq daX11_fill_12_0 20 rfl
theorem dX11_fill_33 : decode cX11_fill 33 = .ok (.iaload, 1) := dq daX11_fill_12_0 21 rfl
theorem dX11_fill_34 : decode cX11_fill 34 = .ok (.invokevirtual 291, 3) := dq daX11_fill_12_0 22 rfl
theorem dX11_fill_37 : decode cX11_fill 37 = .ok (.invokevirtual 294, 3) := dq daX11_fill_12_0 23 rfl
theorem dX11_fill_40 : decode cX11_fill 40 = .ok (.ifCond .ne 5, 3) := dq daX11_fill_12_0 24 rfl
theorem dX11_fill_45 : decode cX11_fill 45 = .ok (.aload_n 0, 1) := dq daX11_fill_12_0 25 rfl
theorem dX11_fill_46 : decode cX11_fill 46 = .ok (.iload_n 1, 1) := dq daX11_fill_12_0 26 rfl
theorem dX11_fill_47 : decode cX11_fill 47 = .ok (.iconst 4, 1) := dq daX11_fill_12_0 27 rfl
theorem dX11_fill_48 : decode cX11_fill 48 = .ok (.invokevirtual 283, 3) := dq daX11_fill_12_0 28 rfl
theorem dX11_fill_51 : decode cX11_fill 51 = .ok (.istore_n 3, 1) := dq daX11_fill_12_0 29 rfl
theorem dX11_fill_52 : decode cX11_fill 52 = .ok (.aload_n 0, 1) := dq daX11_fill_12_0 30 rfl
theorem dX11_fill_53 : decode cX11_fill 53 = .ok (.getfield 39, 3) := dq daX11_fill_12_0 31 rfl
def dtX11_fill_12_1 : List (Nat × Jvm.ClassFile.Instr × Nat) := [(56, .sipush 168, 3), (59, .bipush 9, 2), (61, .iload_n 1, 1), (62, .imul, 1), (63, .iadd, 1), (64, .iconst 4, 1), (65, .iadd, 1), (66, .iload_n 2, 1), (67, .iastore, 1), (68, .iload_n 3, 1), (69, .ireturn, 1)]
theorem daX11_fill_12_1 : dtX11_fill_12_1.all (dqd cX11_fill) = true := by decide +kernel
theorem dX11_fill_56 : decode cX11_fill 56 = .ok (.sipush 168, 3) := dq daX11_fill_12_1 0 rfl
theorem dX11_fill_59 : decode cX11_fill 59 = .ok (.bipush 9, 2) := dq daX11_fill_12_1 1 rfl
theorem dX11_fill_61 : decode cX11_fill 61 = .ok (.iload_n 1, 1) := dq daX11_fill_12_1 2 rfl
theorem dX11_fill_62 : decode cX11_fill 62 = .ok (.imul, 1) := dq daX11_fill_12_1 3 rfl
theorem dX11_fill_63 : decode cX11_fill 63 = .ok (.iadd, 1) := dq daX11_fill_12_1 4 rfl
theorem dX11_fill_64 : decode cX11_fill 64 = .ok (.iconst 4, 1) := dq daX11_fill_12_1 5 rfl
theorem dX11_fill_65 : decode cX11_fill 65 = .ok (.iadd, 1) := dq daX11_fill_12_1 6 rfl
theorem dX11_fill_66 : decode cX11_fill 66 = .ok (.iload_n 2, 1) := dq daX11_fill_12_1 7 rfl
theorem dX11_fill_67 : decode cX11_fill 67 = .ok (.iastore, 1) := dq daX11_fill_12_1 8 rfl
theorem dX11_fill_68 : decode cX11_fill 68 = .ok (.iload_n 3, 1) := dq daX11_fill_12_1 9 rfl
theorem dX11_fill_69 : decode cX11_fill 69 = .ok (.ireturn, 1) := dq daX11_fill_12_1 10 rfl
def dtX11_stores_12_0 : List (Nat × Jvm.ClassFile.Instr × Nat) := [(0, .bipush 20, 2), (2, .iconst 4, 1), (3, .iload_n 1, 1), (4, .imul, 1), (5, .iadd, 1), (6, .iconst 3, 1), (7, .iadd, 1), (8, .istore_n 3, 1), (9, .aload_n 0, 1), (10, .getfield 39, 3), (13, .iload_n 3, 1), (14, .iaload, 1), (15, .iload_n 2, 1), (16, .iadd, 1), (17, .ldc_w 297, 3), (20, .if_icmp .le 16, 3), (36, .iload_n 2, 1), (37, .istore 4, 2), (39, .aload_n 0, 1), (40, .getfield 39, 3), (43, .iload_n 3, 1), (44, .dup2, 1), (45, .iaload, 1), (46, .iload 4, 2), (48, .iadd, 1), (49, .iastore, 1), (50, .iload 4, 2), (23, .ldc_w 297, 3), (26, .aload_n 0, 1), (27, .getfield 39, 3), (30, .iload_n 3, 1), (31, .iaload, 1)]
theorem daX11_stores_12_0 : dtX11_stores_12_0.all (dqd cX11_stores) = true := by decide +kernel
theorem dX11_stores_0 : decode cX11_stores 0 = .ok (.bipush 20, 2) := dq daX11_stores_12_0 0 rfl
theorem dX11_stores_2 : decode cX11_stores 2 = .ok (.iconst 4, 1) := dq daX11_stores_12_0 1 rfl
theorem dX11_stores_3 : decode cX11_stores 3 = .ok (.iload_n 1, 1) := dq daX11_stores_12_0 2 rfl
theorem dX11_stores_4 : decode cX11_stores 4 = .ok (.imul, 1) := dq daX11_stores_12_0 3 rfl
theorem dX11_stores_5 : decode cX11_stores 5 = .ok (.iadd, 1) := dq daX11_stores_12_0 4 rfl
theorem dX11_stores_6 : decode cX11_stores 6 = .ok (.iconst 3, 1) := dq daX11_stores_12_0 5 rfl
theorem dX11_stores_7 : decode cX11_stores 7 = .ok (.iadd, 1) := dq daX11_stores_12_0 6 rfl
theorem dX11_stores_8 : decode cX11_stores 8 = .ok (.istore_n 3, 1) := dq daX11_stores_12_0 7 rfl
theorem dX11_stores_9 : decode cX11_stores 9 = .ok (.aload_n 0, 1) := dq daX11_stores_12_0 8 rfl
theorem dX11_stores_10 : decode cX11_stores 10 = .ok (.getfield 39, 3) := dq daX11_stores_12_0 9 rfl
theorem dX11_stores_13 : decode cX11_stores 13 = .ok (.iload_n 3, 1) := dq daX11_stores_12_0 10 rfl
theorem dX11_stores_14 : decode cX11_stores 14 = .ok (.iaload, 1) := dq daX11_stores_12_0 11 rfl
theorem dX11_stores_15 : decode cX11_stores 15 = .ok (.iload_n 2, 1) := dq daX11_stores_12_0 12 rfl
theorem dX11_stores_16 : decode cX11_stores 16 = .ok (.iadd, 1) := dq daX11_stores_12_0 13 rfl
theorem dX11_stores_17 : decode cX11_stores 17 = .ok (.ldc_w 297, 3) := dq daX11_stores_12_0 14 rfl
theorem dX11_stores_20 : decode cX11_stores 20 = .ok (.if_icmp .le 16, 3) := dq daX11_stores_12_0 15 rfl
theorem dX11_stores_36 : decode cX11_stores 36 = .ok (.iload_n 2, 1) := dq daX11_stores_12_0 16 rfl
theorem dX11_stores_37 : decode cX11_stores 37 = .ok (.istore 4, 2) := dq daX11_stores_12_0 17 rfl
theorem dX11_stores_39 : decode cX11_stores 39 = .ok (.aload_n 0, 1) := dq daX11_stores_12_0 18 rfl
theorem dX11_stores_40 : decode cX11_stores 40 = .ok (.getfield 39, 3) := dq daX11_stores_12_0 19 rfl
theorem dX11_stores_43 : decode cX11_stores 43 = .ok (.iload_n 3, 1) := dq daX11_stores_12_0 20 rfl
theorem dX11_stores_44 : decode cX11_stores 44 = .ok (.dup2, 1) := dq daX11_stores_12_0 21 rfl
theorem dX11_stores_45 : decode cX11_stores 45 = .ok (.iaload, 1) := dq daX11_stores_12_0 22 rfl
theorem dX11_stores_46 : decode cX11_stores 46 = .ok (.iload 4, 2) := dq daX11_stores_12_0 23 rfl
theorem dX11_stores_48 : decode cX11_stores 48 = .ok (.iadd, 1) := dq daX11_stores_12_0 24 rfl
theorem dX11_stores_49 : decode cX11_stores 49 = .ok (.iastore, 1) := dq daX11_stores_12_0 25 rfl
theorem dX11_stores_50 : decode cX11_stores 50 = .ok (.iload 4, 2) := dq daX11_stores_12_0 26 rfl
theorem dX11_stores_23 : decode cX11_stores 23 = .ok (.ldc_w 297, 3) := dq daX11_stores_12_0 27 rfl
theorem dX11_stores_26 : decode cX11_stores 26 = .ok (.aload_n 0, 1) := dq daX11_stores_12_0 28 rfl
theorem dX11_stores_27 : decode cX11_stores 27 = .ok (.getfield 39, 3) := dq daX11_stores_12_0 29 rfl
theorem dX11_stores_30 : decode cX11_stores 30 = .ok (.iload_n 3, 1) := dq daX11_stores_12_0 30 rfl
theorem dX11_stores_31 : decode cX11_stores 31 = .ok (.iaload, 1) := dq daX11_stores_12_0 31 rfl
def dtX11_stores_12_1 : List (Nat × Jvm.ClassFile.Instr × Nat) := [(32, .isub, 1), (33, .goto 4, 3), (52, .ireturn, 1)]
theorem daX11_stores_12_1 : dtX11_stores_12_1.all (dqd cX11_stores) = true := by decide +kernel
theorem dX11_stores_32 : decode cX11_stores 32 = .ok (.isub, 1) := dq daX11_stores_12_1 0 rfl
theorem dX11_stores_33 : decode cX11_stores 33 = .ok (.goto 4, 3) := dq daX11_stores_12_1 1 rfl
theorem dX11_stores_52 : decode cX11_stores 52 = .ok (.ireturn, 1) := dq daX11_stores_12_1 2 rfl
def dtX11_pour_12_0 : List (Nat × Jvm.ClassFile.Instr × Nat) := [(0, .aload_n 0, 1), (1, .iload_n 1, 1), (2, .invokevirtual 286, 3), (5, .ifCond .ne 5, 3), (10, .aload_n 0, 1), (11, .aload_n 0, 1), (12, .iload_n 1, 1), (13, .iconst 5, 1), (14, .invokevirtual 283, 3), (17, .aload_n 0, 1), (18, .iload_n 1, 1), (19, .iconst 4, 1), (20, .invokevirtual 283, 3), (23, .invokevirtual 298, 3), (26, .istore_n 2, 1), (27, .aload_n 0, 1), (28, .getfield 39, 3), (31, .sipush 168, 3), (34, .bipush 9, 2), (36, .iload_n 1, 1), (37, .imul, 1), (38, .iadd, 1), (39, .iconst 4, 1), (40, .iadd, 1), (41, .iconst 0, 1), (42, .iastore, 1), (43, .iload_n 2, 1), (8, .iconst (-1), 1), (9, .ireturn, 1), (44, .ireturn, 1)]
theorem daX11_pour_12_0 : dtX11_pour_12_0.all (dqd cX11_pour) = true := by decide +kernel
theorem dX11_pour_0 : decode cX11_pour 0 = .ok (.aload_n 0, 1) := dq daX11_pour_12_0 0 rfl
theorem dX11_pour_1 : decode cX11_pour 1 = .ok (.iload_n 1, 1) := dq daX11_pour_12_0 1 rfl
theorem dX11_pour_2 : decode cX11_pour 2 = .ok (.invokevirtual 286, 3) := dq daX11_pour_12_0 2 rfl
theorem dX11_pour_5 : decode cX11_pour 5 = .ok (.ifCond .ne 5, 3) := dq daX11_pour_12_0 3 rfl
theorem dX11_pour_10 : decode cX11_pour 10 = .ok (.aload_n 0, 1) := dq daX11_pour_12_0 4 rfl
theorem dX11_pour_11 : decode cX11_pour 11 = .ok (.aload_n 0, 1) := dq daX11_pour_12_0 5 rfl
theorem dX11_pour_12 : decode cX11_pour 12 = .ok (.iload_n 1, 1) := dq daX11_pour_12_0 6 rfl
theorem dX11_pour_13 : decode cX11_pour 13 = .ok (.iconst 5, 1) := dq daX11_pour_12_0 7 rfl
theorem dX11_pour_14 : decode cX11_pour 14 = .ok (.invokevirtual 283, 3) := dq daX11_pour_12_0 8 rfl
theorem dX11_pour_17 : decode cX11_pour 17 = .ok (.aload_n 0, 1) := dq daX11_pour_12_0 9 rfl
theorem dX11_pour_18 : decode cX11_pour 18 = .ok (.iload_n 1, 1) := dq daX11_pour_12_0 10 rfl
theorem dX11_pour_19 : decode cX11_pour 19 = .ok (.iconst 4, 1) := dq daX11_pour_12_0 11 rfl
theorem dX11_pour_20 : decode cX11_pour 20 = .ok (.invokevirtual 283, 3) := dq daX11_pour_12_0 12 rfl
theorem dX11_pour_23 : decode cX11_pour 23 = .ok (.invokevirtual 298, 3) := dq daX11_pour_12_0 13 rfl
theorem dX11_pour_26 : decode cX11_pour 26 = .ok (.istore_n 2, 1) := dq daX11_pour_12_0 14 rfl
theorem dX11_pour_27 : decode cX11_pour 27 = .ok (.aload_n 0, 1) := dq daX11_pour_12_0 15 rfl
theorem dX11_pour_28 : decode cX11_pour 28 = .ok (.getfield 39, 3) := dq daX11_pour_12_0 16 rfl
theorem dX11_pour_31 : decode cX11_pour 31 = .ok (.sipush 168, 3) := dq daX11_pour_12_0 17 rfl
theorem dX11_pour_34 : decode cX11_pour 34 = .ok (.bipush 9, 2) := dq daX11_pour_12_0 18 rfl
theorem dX11_pour_36 : decode cX11_pour 36 = .ok (.iload_n 1, 1) := dq daX11_pour_12_0 19 rfl
theorem dX11_pour_37 : decode cX11_pour 37 = .ok (.imul, 1) := dq daX11_pour_12_0 20 rfl
theorem dX11_pour_38 : decode cX11_pour 38 = .ok (.iadd, 1) := dq daX11_pour_12_0 21 rfl
theorem dX11_pour_39 : decode cX11_pour 39 = .ok (.iconst 4, 1) := dq daX11_pour_12_0 22 rfl
theorem dX11_pour_40 : decode cX11_pour 40 = .ok (.iadd, 1) := dq daX11_pour_12_0 23 rfl
theorem dX11_pour_41 : decode cX11_pour 41 = .ok (.iconst 0, 1) := dq daX11_pour_12_0 24 rfl
theorem dX11_pour_42 : decode cX11_pour 42 = .ok (.iastore, 1) := dq daX11_pour_12_0 25 rfl
theorem dX11_pour_43 : decode cX11_pour 43 = .ok (.iload_n 2, 1) := dq daX11_pour_12_0 26 rfl
theorem dX11_pour_8 : decode cX11_pour 8 = .ok (.iconst (-1), 1) := dq daX11_pour_12_0 27 rfl
theorem dX11_pour_9 : decode cX11_pour 9 = .ok (.ireturn, 1) := dq daX11_pour_12_0 28 rfl
theorem dX11_pour_44 : decode cX11_pour 44 = .ok (.ireturn, 1) := dq daX11_pour_12_0 29 rfl
def dtX11_store_12_0 : List (Nat × Jvm.ClassFile.Instr × Nat) := [(0, .aload_n 0, 1), (1, .iload_n 1, 1), (2, .invokevirtual 267, 3), (5, .ifCond .eq 15, 3), (20, .iconst (-1), 1), (21, .ireturn, 1), (8, .iload_n 2, 1), (9, .i2l, 1), (10, .lconst 0, 1), (11, .ldc2_w 301, 3), (14, .invokestatic 118, 3), (17, .ifCond .ne 5, 3), (22, .aload_n 0, 1), (23, .iload_n 1, 1), (24, .iconst 3, 1), (25, .invokevirtual 257, 3), (28, .istore_n 3, 1), (29, .aload_n 0, 1), (30, .getfield 39, 3), (33, .bipush 20, 2), (35, .iconst 4, 1), (36, .iload_n 1, 1), (37, .imul, 1), (38, .iadd, 1), (39, .iconst 3, 1), (40, .iadd, 1), (41, .iload_n 2, 1), (42, .iastore, 1), (43, .iload_n 3, 1), (44, .ireturn, 1)]
theorem daX11_store_12_0 : dtX11_store_12_0.all (dqd cX11_store) = true := by decide +kernel
theorem dX11_store_0 : decode cX11_store 0 = .ok (.aload_n 0, 1) := dq daX11_store_12_0 0 rfl
theorem dX11_store_1 : decode cX11_store 1 = .ok (.iload_n 1, 1) := dq daX11_store_12_0 1 rfl
theorem dX11_store_2 : decode cX11_store 2 = .ok (.invokevirtual 267, 3) := dq daX11_store_12_0 2 rfl
theorem dX11_store_5 : decode cX11_store 5 = .ok (.ifCond .eq 15, 3) := dq daX11_store_12_0 3 rfl
theorem dX11_store_20 : decode cX11_store 20 = .ok (.iconst (-1), 1) := dq daX11_store_12_0 4 rfl
theorem dX11_store_21 : decode cX11_store 21 = .ok (.ireturn, 1) := dq daX11_store_12_0 5 rfl
theorem dX11_store_8 : decode cX11_store 8 = .ok (.iload_n 2, 1) := dq daX11_store_12_0 6 rfl
theorem dX11_store_9 : decode cX11_store 9 = .ok (.i2l, 1) := dq daX11_store_12_0 7 rfl
theorem dX11_store_10 : decode cX11_store 10 = .ok (.lconst 0, 1) := dq daX11_store_12_0 8 rfl
theorem dX11_store_11 : decode cX11_store 11 = .ok (.ldc2_w 301, 3) := dq daX11_store_12_0 9 rfl
theorem dX11_store_14 : decode cX11_store 14 = .ok (.invokestatic 118, 3) := dq daX11_store_12_0 10 rfl
theorem dX11_store_17 : decode cX11_store 17 = .ok (.ifCond .ne 5, 3) := dq daX11_store_12_0 11 rfl
theorem dX11_store_22 : decode cX11_store 22 = .ok (.aload_n 0, 1) := dq daX11_store_12_0 12 rfl
theorem dX11_store_23 : decode cX11_store 23 = .ok (.iload_n 1, 1) := dq daX11_store_12_0 13 rfl
theorem dX11_store_24 : decode cX11_store 24 = .ok (.iconst 3, 1) := dq daX11_store_12_0 14 rfl
theorem dX11_store_25 : decode cX11_store 25 = .ok (.invokevirtual 257, 3) := dq daX11_store_12_0 15 rfl
theorem dX11_store_28 : decode cX11_store 28 = .ok (.istore_n 3, 1) := dq daX11_store_12_0 16 rfl
theorem dX11_store_29 : decode cX11_store 29 = .ok (.aload_n 0, 1) := dq daX11_store_12_0 17 rfl
theorem dX11_store_30 : decode cX11_store 30 = .ok (.getfield 39, 3) := dq daX11_store_12_0 18 rfl
theorem dX11_store_33 : decode cX11_store 33 = .ok (.bipush 20, 2) := dq daX11_store_12_0 19 rfl
theorem dX11_store_35 : decode cX11_store 35 = .ok (.iconst 4, 1) := dq daX11_store_12_0 20 rfl
theorem dX11_store_36 : decode cX11_store 36 = .ok (.iload_n 1, 1) := dq daX11_store_12_0 21 rfl
theorem dX11_store_37 : decode cX11_store 37 = .ok (.imul, 1) := dq daX11_store_12_0 22 rfl
theorem dX11_store_38 : decode cX11_store 38 = .ok (.iadd, 1) := dq daX11_store_12_0 23 rfl
theorem dX11_store_39 : decode cX11_store 39 = .ok (.iconst 3, 1) := dq daX11_store_12_0 24 rfl
theorem dX11_store_40 : decode cX11_store 40 = .ok (.iadd, 1) := dq daX11_store_12_0 25 rfl
theorem dX11_store_41 : decode cX11_store 41 = .ok (.iload_n 2, 1) := dq daX11_store_12_0 26 rfl
theorem dX11_store_42 : decode cX11_store 42 = .ok (.iastore, 1) := dq daX11_store_12_0 27 rfl
theorem dX11_store_43 : decode cX11_store 43 = .ok (.iload_n 3, 1) := dq daX11_store_12_0 28 rfl
theorem dX11_store_44 : decode cX11_store 44 = .ok (.ireturn, 1) := dq daX11_store_12_0 29 rfl
def dtX11_leave_12_0 : List (Nat × Jvm.ClassFile.Instr × Nat) := [(0, .aload_n 0, 1), (1, .iload_n 1, 1), (2, .invokevirtual 286, 3), (5, .ifCond .eq 25, 3), (30, .iconst 0, 1), (31, .ireturn, 1), (8, .aload_n 0, 1), (9, .iload_n 2, 1), (10, .invokevirtual 306, 3), (13, .ifCond .eq 17, 3), (16, .aload_n 0, 1), (17, .iload_n 2, 1), (18, .aload_n 0, 1), (19, .iload_n 1, 1), (20, .iconst 5, 1), (21, .invokevirtual 283, 3), (24, .invokevirtual 309, 3), (27, .ifCond .ge 5, 3), (32, .sipush 168, 3), (35, .bipush 9, 2), (37, .iload_n 1, 1), (38, .imul, 1), (39, .iadd, 1), (40, .istore_n 3, 1), (41, .aload_n 0, 1), (42, .getfield 39, 3), (45, .iload_n 3, 1), (46, .bipush 8, 2), (48, .iadd, 1), (49, .aload_n 0, 1), (50, .iload_n 2, 1), (51, .aload_n 0, 1)]
theorem daX11_leave_12_0 : dtX11_leave_12_0.all (dqd cX11_leave) = true := by decide +kernel
theorem dX11_leave_0 : decode cX11_leave 0 = .ok (.aload_n 0, 1) := dq daX11_leave_12_0 0 rfl
theorem dX11_leave_1 : decode cX11_leave 1 = .ok (.iload_n 1, 1) := dq daX11_leave_12_0 1 rfl
theorem dX11_leave_2 : decode cX11_leave 2 = .ok (.invokevirtual 286, 3) := dq daX11_leave_12_0 2 rfl
theorem dX11_leave_5 : decode cX11_leave 5 = .ok (.ifCond .eq 25, 3) := dq daX11_leave_12_0 3 rfl
theorem dX11_leave_30 : decode cX11_leave 30 = .ok (.iconst 0, 1) := dq daX11_leave_12_0 4 rfl
theorem dX11_leave_31 : decode cX11_leave 31 = .ok (.ireturn, 1) := dq daX11_leave_12_0 5 rfl
theorem dX11_leave_8 : decode cX11_leave 8 = .ok (.aload_n 0, 1) := dq daX11_leave_12_0 6 rfl
theorem dX11_leave_9 : decode cX11_leave 9 = .ok (.iload_n 2, 1) := dq daX11_leave_12_0 7 rfl
theorem dX11_leave_10 : decode cX11_leave 10 = .ok (.invokevirtual 306, 3) := dq daX11_leave_12_0 8 rfl
theorem dX11_leave_13 : decode cX11_leave 13 = .ok (.ifCond .eq 17, 3) := dq daX11_leave_12_0 9 rfl
theorem dX11_leave_16 : decode cX11_leave 16 = .ok (.aload_n 0, 1) := dq daX11_leave_12_0 10 rfl
theorem dX11_leave_17 : decode cX11_leave 17 = .ok (.iload_n 2, 1) := dq daX11_leave_12_0 11 rfl
theorem dX11_leave_18 : decode cX11_leave 18 = .ok (.aload_n 0, 1) := dq daX11_leave_12_0 12 rfl
theorem dX11_leave_19 : decode cX11_leave 19 = .ok (.iload_n 1, 1) := dq daX11_leave_12_0 13 rfl
theorem dX11_leave_20 : decode cX11_leave 20 = .ok (.iconst 5, 1) := dq daX11_leave_12_0 14 rfl
theorem dX11_leave_21 : decode cX11_leave 21 = .ok (.invokevirtual 283, 3) := dq daX11_leave_12_0 15 rfl
theorem dX11_leave_24 : decode cX11_leave 24 = .ok (.invokevirtual 309, 3) := dq daX11_leave_12_0 16 rfl
theorem dX11_leave_27 : decode cX11_leave 27 = .ok (.ifCond .ge 5, 3) := dq daX11_leave_12_0 17 rfl
theorem dX11_leave_32 : decode cX11_leave 32 = .ok (.sipush 168, 3) := dq daX11_leave_12_0 18 rfl
theorem dX11_leave_35 : decode cX11_leave 35 = .ok (.bipush 9, 2) := dq daX11_leave_12_0 19 rfl
theorem dX11_leave_37 : decode cX11_leave 37 = .ok (.iload_n 1, 1) := dq daX11_leave_12_0 20 rfl
theorem dX11_leave_38 : decode cX11_leave 38 = .ok (.imul, 1) := dq daX11_leave_12_0 21 rfl
theorem dX11_leave_39 : decode cX11_leave 39 = .ok (.iadd, 1) := dq daX11_leave_12_0 22 rfl
theorem dX11_leave_40 : decode cX11_leave 40 = .ok (.istore_n 3, 1) := dq daX11_leave_12_0 23 rfl
theorem dX11_leave_41 : decode cX11_leave 41 = .ok (.aload_n 0, 1) := dq daX11_leave_12_0 24 rfl
theorem dX11_leave_42 : decode cX11_leave 42 = .ok (.getfield 39, 3) := dq daX11_leave_12_0 25 rfl
theorem dX11_leave_45 : decode cX11_leave 45 = .ok (.iload_n 3, 1) := dq daX11_leave_12_0 26 rfl
theorem dX11_leave_46 : decode cX11_leave 46 = .ok (.bipush 8, 2) := dq daX11_leave_12_0 27 rfl
theorem dX11_leave_48 : decode cX11_leave 48 = .ok (.iadd, 1) := dq daX11_leave_12_0 28 rfl
theorem dX11_leave_49 : decode cX11_leave 49 = .ok (.aload_n 0, 1) := dq daX11_leave_12_0 29 rfl
theorem dX11_leave_50 : decode cX11_leave 50 = .ok (.iload_n 2, 1) := dq daX11_leave_12_0 30 rfl
theorem dX11_leave_51 : decode cX11_leave 51 = .ok (.aload_n 0, 1) := dq daX11_leave_12_0 31 rfl
def dtX11_leave_12_1 : List (Nat × Jvm.ClassFile.Instr × Nat) := [(52, .getfield 39, 3), (55, .iload_n 3, 1), (56, .iconst 5, 1), (57, .iadd, 1), (58, .iaload, 1), (59, .invokevirtual 309, 3), (62, .iastore, 1), (63, .aload_n 0, 1), (64, .getfield 39, 3), (67, .iload_n 3, 1), (68, .iconst 5, 1), (69, .iadd, 1), (70, .bipush 12, 2), (72, .iastore, 1), (73, .aload_n 0, 1), (74, .getfield 39, 3), (77, .iload_n 3, 1), (78, .bipush 6, 2), (80, .iadd, 1), (81, .iload_n 2, 1), (82, .iastore, 1), (83, .aload_n 0, 1), (84, .getfield 39, 3), (87, .iload_n 3, 1), (88, .bipush 7, 2), (90, .iadd, 1), (91, .iconst 0, 1), (92, .iastore, 1), (93, .iconst 1, 1), (94, .ireturn, 1)]
theorem daX11_leave_12_1 : dtX11_leave_12_1.all (dqd cX11_leave) = true := by decide +kernel
theorem dX11_leave_52 : decode cX11_leave 52 = .ok (.getfield 39, 3) := dq daX11_leave_12_1 0 rfl
theorem dX11_leave_55 : decode cX11_leave 55 = .ok (.iload_n 3, 1) := dq daX11_leave_12_1 1 rfl
theorem dX11_leave_56 : decode cX11_leave 56 = .ok (.iconst 5, 1) := dq daX11_leave_12_1 2 rfl
theorem dX11_leave_57 : decode cX11_leave 57 = .ok (.iadd, 1) := dq daX11_leave_12_1 3 rfl
theorem dX11_leave_58 : decode cX11_leave 58 = .ok (.iaload, 1) := dq daX11_leave_12_1 4 rfl
theorem dX11_leave_59 : decode cX11_leave 59 = .ok (.invokevirtual 309, 3) := dq daX11_leave_12_1 5 rfl
theorem dX11_leave_62 : decode cX11_leave 62 = .ok (.iastore, 1) := dq daX11_leave_12_1 6 rfl
theorem dX11_leave_63 : decode cX11_leave 63 = .ok (.aload_n 0, 1) := dq daX11_leave_12_1 7 rfl
theorem dX11_leave_64 : decode cX11_leave 64 = .ok (.getfield 39, 3) := dq daX11_leave_12_1 8 rfl
theorem dX11_leave_67 : decode cX11_leave 67 = .ok (.iload_n 3, 1) := dq daX11_leave_12_1 9 rfl
theorem dX11_leave_68 : decode cX11_leave 68 = .ok (.iconst 5, 1) := dq daX11_leave_12_1 10 rfl
theorem dX11_leave_69 : decode cX11_leave 69 = .ok (.iadd, 1) := dq daX11_leave_12_1 11 rfl
theorem dX11_leave_70 : decode cX11_leave 70 = .ok (.bipush 12, 2) := dq daX11_leave_12_1 12 rfl
theorem dX11_leave_72 : decode cX11_leave 72 = .ok (.iastore, 1) := dq daX11_leave_12_1 13 rfl
theorem dX11_leave_73 : decode cX11_leave 73 = .ok (.aload_n 0, 1) := dq daX11_leave_12_1 14 rfl
theorem dX11_leave_74 : decode cX11_leave 74 = .ok (.getfield 39, 3) := dq daX11_leave_12_1 15 rfl
theorem dX11_leave_77 : decode cX11_leave 77 = .ok (.iload_n 3, 1) := dq daX11_leave_12_1 16 rfl
theorem dX11_leave_78 : decode cX11_leave 78 = .ok (.bipush 6, 2) := dq daX11_leave_12_1 17 rfl
theorem dX11_leave_80 : decode cX11_leave 80 = .ok (.iadd, 1) := dq daX11_leave_12_1 18 rfl
theorem dX11_leave_81 : decode cX11_leave 81 = .ok (.iload_n 2, 1) := dq daX11_leave_12_1 19 rfl
theorem dX11_leave_82 : decode cX11_leave 82 = .ok (.iastore, 1) := dq daX11_leave_12_1 20 rfl
theorem dX11_leave_83 : decode cX11_leave 83 = .ok (.aload_n 0, 1) := dq daX11_leave_12_1 21 rfl
theorem dX11_leave_84 : decode cX11_leave 84 = .ok (.getfield 39, 3) := dq daX11_leave_12_1 22 rfl
theorem dX11_leave_87 : decode cX11_leave 87 = .ok (.iload_n 3, 1) := dq daX11_leave_12_1 23 rfl
theorem dX11_leave_88 : decode cX11_leave 88 = .ok (.bipush 7, 2) := dq daX11_leave_12_1 24 rfl
theorem dX11_leave_90 : decode cX11_leave 90 = .ok (.iadd, 1) := dq daX11_leave_12_1 25 rfl
theorem dX11_leave_91 : decode cX11_leave 91 = .ok (.iconst 0, 1) := dq daX11_leave_12_1 26 rfl
theorem dX11_leave_92 : decode cX11_leave 92 = .ok (.iastore, 1) := dq daX11_leave_12_1 27 rfl
theorem dX11_leave_93 : decode cX11_leave 93 = .ok (.iconst 1, 1) := dq daX11_leave_12_1 28 rfl
theorem dX11_leave_94 : decode cX11_leave 94 = .ok (.ireturn, 1) := dq daX11_leave_12_1 29 rfl
def dtX11_hourWords_12_0 : List (Nat × Jvm.ClassFile.Instr × Nat) := [(0, .aload_n 0, 1), (1, .getfield 36, 3), (4, .iconst 0, 1), (5, .aload_n 0, 1), (6, .iload_n 1, 1), (7, .invokevirtual 291, 3), (10, .i2l, 1), (11, .lastore, 1), (12, .aload_n 0, 1), (13, .getfield 36, 3), (16, .iconst 1, 1), (17, .iload_n 1, 1), (18, .bipush 24, 2), (20, .irem, 1), (21, .i2l, 1), (22, .lastore, 1), (23, .aload_n 0, 1), (24, .getfield 36, 3), (27, .iconst 2, 1), (28, .iload_n 1, 1), (29, .bipush 24, 2), (31, .idiv, 1), (32, .i2l, 1), (33, .lastore, 1), (34, .aload_n 0, 1), (35, .getfield 36, 3), (38, .bipush 7, 2), (40, .iload_n 2, 1), (41, .i2l, 1), (42, .lastore, 1), (43, .aload_n 0, 1), (44, .getfield 36, 3)]
theorem daX11_hourWords_12_0 : dtX11_hourWords_12_0.all (dqd cX11_hourWords) = true := by decide +kernel
theorem dX11_hourWords_0 : decode cX11_hourWords 0 = .ok (.aload_n 0, 1) := dq daX11_hourWords_12_0 0 rfl
theorem dX11_hourWords_1 : decode cX11_hourWords 1 = .ok (.getfield 36, 3) := dq daX11_hourWords_12_0 1 rfl
theorem dX11_hourWords_4 : decode cX11_hourWords 4 = .ok (.iconst 0, 1) := dq daX11_hourWords_12_0 2 rfl
theorem dX11_hourWords_5 : decode cX11_hourWords 5 = .ok (.aload_n 0, 1) := dq daX11_hourWords_12_0 3 rfl
theorem dX11_hourWords_6 : decode cX11_hourWords 6 = .ok (.iload_n 1, 1) := dq daX11_hourWords_12_0 4 rfl
theorem dX11_hourWords_7 : decode cX11_hourWords 7 = .ok (.invokevirtual 291, 3) := dq daX11_hourWords_12_0 5 rfl
theorem dX11_hourWords_10 : decode cX11_hourWords 10 = .ok (.i2l, 1) := dq daX11_hourWords_12_0 6 rfl
theorem dX11_hourWords_11 : decode cX11_hourWords 11 = .ok (.lastore, 1) := dq daX11_hourWords_12_0 7 rfl
theorem dX11_hourWords_12 : decode cX11_hourWords 12 = .ok (.aload_n 0, 1) := dq daX11_hourWords_12_0 8 rfl
theorem dX11_hourWords_13 : decode cX11_hourWords 13 = .ok (.getfield 36, 3) := dq daX11_hourWords_12_0 9 rfl
theorem dX11_hourWords_16 : decode cX11_hourWords 16 = .ok (.iconst 1, 1) := dq daX11_hourWords_12_0 10 rfl
theorem dX11_hourWords_17 : decode cX11_hourWords 17 = .ok (.iload_n 1, 1) := dq daX11_hourWords_12_0 11 rfl
theorem dX11_hourWords_18 : decode cX11_hourWords 18 = .ok (.bipush 24, 2) := dq daX11_hourWords_12_0 12 rfl
theorem dX11_hourWords_20 : decode cX11_hourWords 20 = .ok (.irem, 1) := dq daX11_hourWords_12_0 13 rfl
theorem dX11_hourWords_21 : decode cX11_hourWords 21 = .ok (.i2l, 1) := dq daX11_hourWords_12_0 14 rfl
theorem dX11_hourWords_22 : decode cX11_hourWords 22 = .ok (.lastore, 1) := dq daX11_hourWords_12_0 15 rfl
theorem dX11_hourWords_23 : decode cX11_hourWords 23 = .ok (.aload_n 0, 1) := dq daX11_hourWords_12_0 16 rfl
theorem dX11_hourWords_24 : decode cX11_hourWords 24 = .ok (.getfield 36, 3) := dq daX11_hourWords_12_0 17 rfl
theorem dX11_hourWords_27 : decode cX11_hourWords 27 = .ok (.iconst 2, 1) := dq daX11_hourWords_12_0 18 rfl
theorem dX11_hourWords_28 : decode cX11_hourWords 28 = .ok (.iload_n 1, 1) := dq daX11_hourWords_12_0 19 rfl
theorem dX11_hourWords_29 : decode cX11_hourWords 29 = .ok (.bipush 24, 2) := dq daX11_hourWords_12_0 20 rfl
theorem dX11_hourWords_31 : decode cX11_hourWords 31 = .ok (.idiv, 1) := dq daX11_hourWords_12_0 21 rfl
theorem dX11_hourWords_32 : decode cX11_hourWords 32 = .ok (.i2l, 1) := dq daX11_hourWords_12_0 22 rfl
theorem dX11_hourWords_33 : decode cX11_hourWords 33 = .ok (.lastore, 1) := dq daX11_hourWords_12_0 23 rfl
theorem dX11_hourWords_34 : decode cX11_hourWords 34 = .ok (.aload_n 0, 1) := dq daX11_hourWords_12_0 24 rfl
theorem dX11_hourWords_35 : decode cX11_hourWords 35 = .ok (.getfield 36, 3) := dq daX11_hourWords_12_0 25 rfl
theorem dX11_hourWords_38 : decode cX11_hourWords 38 = .ok (.bipush 7, 2) := dq daX11_hourWords_12_0 26 rfl
theorem dX11_hourWords_40 : decode cX11_hourWords 40 = .ok (.iload_n 2, 1) := dq daX11_hourWords_12_0 27 rfl
theorem dX11_hourWords_41 : decode cX11_hourWords 41 = .ok (.i2l, 1) := dq daX11_hourWords_12_0 28 rfl
theorem dX11_hourWords_42 : decode cX11_hourWords 42 = .ok (.lastore, 1) := dq daX11_hourWords_12_0 29 rfl
theorem dX11_hourWords_43 : decode cX11_hourWords 43 = .ok (.aload_n 0, 1) := dq daX11_hourWords_12_0 30 rfl
theorem dX11_hourWords_44 : decode cX11_hourWords 44 = .ok (.getfield 36, 3) := dq daX11_hourWords_12_0 31 rfl
def dtX11_hourWords_12_1 : List (Nat × Jvm.ClassFile.Instr × Nat) := [(47, .bipush 8, 2), (49, .iload_n 3, 1), (50, .i2l, 1), (51, .lastore, 1), (52, .aload_n 0, 1), (53, .getfield 36, 3), (56, .bipush 9, 2), (58, .iload 4, 2), (60, .i2l, 1), (61, .lastore, 1), (62, .aload_n 0, 1), (63, .getfield 36, 3), (66, .bipush 10, 2), (68, .lconst 0, 1), (69, .lastore, 1), (70, .return_, 1)]
theorem daX11_hourWords_12_1 : dtX11_hourWords_12_1.all (dqd cX11_hourWords) = true := by decide +kernel
theorem dX11_hourWords_47 : decode cX11_hourWords 47 = .ok (.bipush 8, 2) := dq daX11_hourWords_12_1 0 rfl
theorem dX11_hourWords_49 : decode cX11_hourWords 49 = .ok (.iload_n 3, 1) := dq daX11_hourWords_12_1 1 rfl
theorem dX11_hourWords_50 : decode cX11_hourWords 50 = .ok (.i2l, 1) := dq daX11_hourWords_12_1 2 rfl
theorem dX11_hourWords_51 : decode cX11_hourWords 51 = .ok (.lastore, 1) := dq daX11_hourWords_12_1 3 rfl
theorem dX11_hourWords_52 : decode cX11_hourWords 52 = .ok (.aload_n 0, 1) := dq daX11_hourWords_12_1 4 rfl
theorem dX11_hourWords_53 : decode cX11_hourWords 53 = .ok (.getfield 36, 3) := dq daX11_hourWords_12_1 5 rfl
theorem dX11_hourWords_56 : decode cX11_hourWords 56 = .ok (.bipush 9, 2) := dq daX11_hourWords_12_1 6 rfl
theorem dX11_hourWords_58 : decode cX11_hourWords 58 = .ok (.iload 4, 2) := dq daX11_hourWords_12_1 7 rfl
theorem dX11_hourWords_60 : decode cX11_hourWords 60 = .ok (.i2l, 1) := dq daX11_hourWords_12_1 8 rfl
theorem dX11_hourWords_61 : decode cX11_hourWords 61 = .ok (.lastore, 1) := dq daX11_hourWords_12_1 9 rfl
theorem dX11_hourWords_62 : decode cX11_hourWords 62 = .ok (.aload_n 0, 1) := dq daX11_hourWords_12_1 10 rfl
theorem dX11_hourWords_63 : decode cX11_hourWords 63 = .ok (.getfield 36, 3) := dq daX11_hourWords_12_1 11 rfl
theorem dX11_hourWords_66 : decode cX11_hourWords 66 = .ok (.bipush 10, 2) := dq daX11_hourWords_12_1 12 rfl
theorem dX11_hourWords_68 : decode cX11_hourWords 68 = .ok (.lconst 0, 1) := dq daX11_hourWords_12_1 13 rfl
theorem dX11_hourWords_69 : decode cX11_hourWords 69 = .ok (.lastore, 1) := dq daX11_hourWords_12_1 14 rfl
theorem dX11_hourWords_70 : decode cX11_hourWords 70 = .ok (.return_, 1) := dq daX11_hourWords_12_1 15 rfl
def dtX11_nodeWords_12_0 : List (Nat × Jvm.ClassFile.Instr × Nat) := [(0, .aload_n 0, 1), (1, .iload_n 1, 1), (2, .iload_n 3, 1), (3, .iload 4, 2), (5, .iload 5, 2), (7, .invokevirtual 312, 3), (10, .aload_n 0, 1), (11, .getfield 36, 3), (14, .iconst 3, 1), (15, .aload_n 0, 1), (16, .iload_n 2, 1), (17, .iconst 0, 1), (18, .invokevirtual 257, 3), (21, .i2l, 1), (22, .lastore, 1), (23, .aload_n 0, 1), (24, .getfield 36, 3), (27, .iconst 4, 1), (28, .lconst 0, 1), (29, .lastore, 1), (30, .aload_n 0, 1), (31, .getfield 36, 3), (34, .iconst 5, 1), (35, .aload_n 0, 1), (36, .iload_n 2, 1), (37, .iconst 2, 1), (38, .invokevirtual 257, 3), (41, .i2l, 1), (42, .lastore, 1), (43, .aload_n 0, 1), (44, .getfield 36, 3), (47, .bipush 6, 2)]
theorem daX11_nodeWords_12_0 : dtX11_nodeWords_12_0.all (dqd cX11_nodeWords) = true := by decide +kernel
theorem dX11_nodeWords_0 : decode cX11_nodeWords 0 = .ok (.aload_n 0, 1) := dq daX11_nodeWords_12_0 0 rfl
theorem dX11_nodeWords_1 : decode cX11_nodeWords 1 = .ok (.iload_n 1, 1) := dq daX11_nodeWords_12_0 1 rfl
theorem dX11_nodeWords_2 : decode cX11_nodeWords 2 = .ok (.iload_n 3, 1) := dq daX11_nodeWords_12_0 2 rfl
theorem dX11_nodeWords_3 : decode cX11_nodeWords 3 = .ok (.iload 4, 2) := dq daX11_nodeWords_12_0 3 rfl
theorem dX11_nodeWords_5 : decode cX11_nodeWords 5 = .ok (.iload 5, 2) := dq daX11_nodeWords_12_0 4 rfl
theorem dX11_nodeWords_7 : decode cX11_nodeWords 7 = .ok (.invokevirtual 312, 3) := dq daX11_nodeWords_12_0 5 rfl
theorem dX11_nodeWords_10 : decode cX11_nodeWords 10 = .ok (.aload_n 0, 1) := dq daX11_nodeWords_12_0 6 rfl
theorem dX11_nodeWords_11 : decode cX11_nodeWords 11 = .ok (.getfield 36, 3) := dq daX11_nodeWords_12_0 7 rfl
theorem dX11_nodeWords_14 : decode cX11_nodeWords 14 = .ok (.iconst 3, 1) := dq daX11_nodeWords_12_0 8 rfl
theorem dX11_nodeWords_15 : decode cX11_nodeWords 15 = .ok (.aload_n 0, 1) := dq daX11_nodeWords_12_0 9 rfl
theorem dX11_nodeWords_16 : decode cX11_nodeWords 16 = .ok (.iload_n 2, 1) := dq daX11_nodeWords_12_0 10 rfl
theorem dX11_nodeWords_17 : decode cX11_nodeWords 17 = .ok (.iconst 0, 1) := dq daX11_nodeWords_12_0 11 rfl
theorem dX11_nodeWords_18 : decode cX11_nodeWords 18 = .ok (.invokevirtual 257, 3) := dq daX11_nodeWords_12_0 12 rfl
theorem dX11_nodeWords_21 : decode cX11_nodeWords 21 = .ok (.i2l, 1) := dq daX11_nodeWords_12_0 13 rfl
theorem dX11_nodeWords_22 : decode cX11_nodeWords 22 = .ok (.lastore, 1) := dq daX11_nodeWords_12_0 14 rfl
theorem dX11_nodeWords_23 : decode cX11_nodeWords 23 = .ok (.aload_n 0, 1) := dq daX11_nodeWords_12_0 15 rfl
theorem dX11_nodeWords_24 : decode cX11_nodeWords 24 = .ok (.getfield 36, 3) := dq daX11_nodeWords_12_0 16 rfl
theorem dX11_nodeWords_27 : decode cX11_nodeWords 27 = .ok (.iconst 4, 1) := dq daX11_nodeWords_12_0 17 rfl
theorem dX11_nodeWords_28 : decode cX11_nodeWords 28 = .ok (.lconst 0, 1) := dq daX11_nodeWords_12_0 18 rfl
theorem dX11_nodeWords_29 : decode cX11_nodeWords 29 = .ok (.lastore, 1) := dq daX11_nodeWords_12_0 19 rfl
theorem dX11_nodeWords_30 : decode cX11_nodeWords 30 = .ok (.aload_n 0, 1) := dq daX11_nodeWords_12_0 20 rfl
theorem dX11_nodeWords_31 : decode cX11_nodeWords 31 = .ok (.getfield 36, 3) := dq daX11_nodeWords_12_0 21 rfl
theorem dX11_nodeWords_34 : decode cX11_nodeWords 34 = .ok (.iconst 5, 1) := dq daX11_nodeWords_12_0 22 rfl
theorem dX11_nodeWords_35 : decode cX11_nodeWords 35 = .ok (.aload_n 0, 1) := dq daX11_nodeWords_12_0 23 rfl
theorem dX11_nodeWords_36 : decode cX11_nodeWords 36 = .ok (.iload_n 2, 1) := dq daX11_nodeWords_12_0 24 rfl
theorem dX11_nodeWords_37 : decode cX11_nodeWords 37 = .ok (.iconst 2, 1) := dq daX11_nodeWords_12_0 25 rfl
theorem dX11_nodeWords_38 : decode cX11_nodeWords 38 = .ok (.invokevirtual 257, 3) := dq daX11_nodeWords_12_0 26 rfl
theorem dX11_nodeWords_41 : decode cX11_nodeWords 41 = .ok (.i2l, 1) := dq daX11_nodeWords_12_0 27 rfl
theorem dX11_nodeWords_42 : decode cX11_nodeWords 42 = .ok (.lastore, 1) := dq daX11_nodeWords_12_0 28 rfl
theorem dX11_nodeWords_43 : decode cX11_nodeWords 43 = .ok (.aload_n 0, 1) := dq daX11_nodeWords_12_0 29 rfl
theorem dX11_nodeWords_44 : decode cX11_nodeWords 44 = .ok (.getfield 36, 3) := dq daX11_nodeWords_12_0 30 rfl
theorem dX11_nodeWords_47 : decode cX11_nodeWords 47 = .ok (.bipush 6, 2) := dq daX11_nodeWords_12_0 31 rfl
def dtX11_nodeWords_12_1 : List (Nat × Jvm.ClassFile.Instr × Nat) := [(49, .iload_n 2, 1), (50, .i2l, 1), (51, .lastore, 1), (52, .return_, 1)]
theorem daX11_nodeWords_12_1 : dtX11_nodeWords_12_1.all (dqd cX11_nodeWords) = true := by decide +kernel
theorem dX11_nodeWords_49 : decode cX11_nodeWords 49 = .ok (.iload_n 2, 1) := dq daX11_nodeWords_12_1 0 rfl
theorem dX11_nodeWords_50 : decode cX11_nodeWords 50 = .ok (.i2l, 1) := dq daX11_nodeWords_12_1 1 rfl
theorem dX11_nodeWords_51 : decode cX11_nodeWords 51 = .ok (.lastore, 1) := dq daX11_nodeWords_12_1 2 rfl
theorem dX11_nodeWords_52 : decode cX11_nodeWords 52 = .ok (.return_, 1) := dq daX11_nodeWords_12_1 3 rfl
def dtX11_passWords_12_0 : List (Nat × Jvm.ClassFile.Instr × Nat) := [(0, .aload_n 0, 1), (1, .iload_n 1, 1), (2, .iload 5, 2), (4, .iload 6, 2), (6, .iload 7, 2), (8, .invokevirtual 312, 3), (11, .aload_n 0, 1), (12, .iload_n 2, 1), (13, .iconst 2, 1), (14, .invokevirtual 303, 3), (17, .istore 8, 2), (19, .aload_n 0, 1), (20, .getfield 36, 3), (23, .iconst 3, 1), (24, .aload_n 0, 1), (25, .aload_n 0, 1), (26, .iload_n 2, 1), (27, .iload_n 3, 1), (28, .invokevirtual 309, 3), (31, .iconst 0, 1), (32, .invokevirtual 257, 3), (35, .iload 8, 2), (37, .iload 4, 2), (39, .isub, 1), (40, .imul, 1), (41, .aload_n 0, 1), (42, .iload_n 3, 1), (43, .iconst 0, 1), (44, .invokevirtual 257, 3), (47, .iload 4, 2), (49, .imul, 1), (50, .iadd, 1)]
theorem daX11_passWords_12_0 : dtX11_passWords_12_0.all (dqd cX11_passWords) = true := by decide +kernel
theorem dX11_passWords_0 : decode cX11_passWords 0 = .ok (.aload_n 0, 1) := dq daX11_passWords_12_0 0 rfl
theorem dX11_passWords_1 : decode cX11_passWords 1 = .ok (.iload_n 1, 1) := dq daX11_passWords_12_0 1 rfl
theorem dX11_passWords_2 : decode cX11_passWords 2 = .ok (.iload 5, 2) := dq daX11_passWords_12_0 2 rfl
theorem dX11_passWords_4 : decode cX11_passWords 4 = .ok (.iload 6, 2) := dq daX11_passWords_12_0 3 rfl
theorem dX11_passWords_6 : decode cX11_passWords 6 = .ok (.iload 7, 2) := dq daX11_passWords_12_0 4 rfl
theorem dX11_passWords_8 : decode cX11_passWords 8 = .ok (.invokevirtual 312, 3) := dq daX11_passWords_12_0 5 rfl
theorem dX11_passWords_11 : decode cX11_passWords 11 = .ok (.aload_n 0, 1) := dq daX11_passWords_12_0 6 rfl
theorem dX11_passWords_12 : decode cX11_passWords 12 = .ok (.iload_n 2, 1) := dq daX11_passWords_12_0 7 rfl
theorem dX11_passWords_13 : decode cX11_passWords 13 = .ok (.iconst 2, 1) := dq daX11_passWords_12_0 8 rfl
theorem dX11_passWords_14 : decode cX11_passWords 14 = .ok (.invokevirtual 303, 3) := dq daX11_passWords_12_0 9 rfl
theorem dX11_passWords_17 : decode cX11_passWords 17 = .ok (.istore 8, 2) := dq daX11_passWords_12_0 10 rfl
theorem dX11_passWords_19 : decode cX11_passWords 19 = .ok (.aload_n 0, 1) := dq daX11_passWords_12_0 11 rfl
theorem dX11_passWords_20 : decode cX11_passWords 20 = .ok (.getfield 36, 3) := dq daX11_passWords_12_0 12 rfl
theorem dX11_passWords_23 : decode cX11_passWords 23 = .ok (.iconst 3, 1) := dq daX11_passWords_12_0 13 rfl
theorem dX11_passWords_24 : decode cX11_passWords 24 = .ok (.aload_n 0, 1) := dq daX11_passWords_12_0 14 rfl
theorem dX11_passWords_25 : decode cX11_passWords 25 = .ok (.aload_n 0, 1) := dq daX11_passWords_12_0 15 rfl
theorem dX11_passWords_26 : decode cX11_passWords 26 = .ok (.iload_n 2, 1) := dq daX11_passWords_12_0 16 rfl
theorem dX11_passWords_27 : decode cX11_passWords 27 = .ok (.iload_n 3, 1) := dq daX11_passWords_12_0 17 rfl
theorem dX11_passWords_28 : decode cX11_passWords 28 = .ok (.invokevirtual 309, 3) := dq daX11_passWords_12_0 18 rfl
theorem dX11_passWords_31 : decode cX11_passWords 31 = .ok (.iconst 0, 1) := dq daX11_passWords_12_0 19 rfl
theorem dX11_passWords_32 : decode cX11_passWords 32 = .ok (.invokevirtual 257, 3) := dq daX11_passWords_12_0 20 rfl
theorem dX11_passWords_35 : decode cX11_passWords 35 = .ok (.iload 8, 2) := dq daX11_passWords_12_0 21 rfl
theorem dX11_passWords_37 : decode cX11_passWords 37 = .ok (.iload 4, 2) := dq daX11_passWords_12_0 22 rfl
theorem dX11_passWords_39 : decode cX11_passWords 39 = .ok (.isub, 1) := dq daX11_passWords_12_0 23 rfl
theorem dX11_passWords_40 : decode cX11_passWords 40 = .ok (.imul, 1) := dq daX11_passWords_12_0 24 rfl
theorem dX11_passWords_41 : decode cX11_passWords 41 = .ok (.aload_n 0, 1) := dq daX11_passWords_12_0 25 rfl
theorem dX11_passWords_42 : decode cX11_passWords 42 = .ok (.iload_n 3, 1) := dq daX11_passWords_12_0 26 rfl
theorem dX11_passWords_43 : decode cX11_passWords 43 = .ok (.iconst 0, 1) := dq daX11_passWords_12_0 27 rfl
theorem dX11_passWords_44 : decode cX11_passWords 44 = .ok (.invokevirtual 257, 3) := dq daX11_passWords_12_0 28 rfl
theorem dX11_passWords_47 : decode cX11_passWords 47 = .ok (.iload 4, 2) := dq daX11_passWords_12_0 29 rfl
theorem dX11_passWords_49 : decode cX11_passWords 49 = .ok (.imul, 1) := dq daX11_passWords_12_0 30 rfl
theorem dX11_passWords_50 : decode cX11_passWords 50 = .ok (.iadd, 1) := dq daX11_passWords_12_0 31 rfl
def dtX11_passWords_12_1 : List (Nat × Jvm.ClassFile.Instr × Nat) := [(51, .iload 8, 2), (53, .idiv, 1), (54, .i2l, 1), (55, .lastore, 1), (56, .aload_n 0, 1), (57, .getfield 36, 3), (60, .iconst 4, 1), (61, .aload_n 0, 1), (62, .iload_n 2, 1), (63, .iconst 3, 1), (64, .invokevirtual 303, 3), (67, .i2l, 1), (68, .lastore, 1), (69, .aload_n 0, 1), (70, .getfield 36, 3), (73, .iconst 5, 1), (74, .lconst 0, 1), (75, .lastore, 1), (76, .aload_n 0, 1), (77, .getfield 36, 3), (80, .bipush 6, 2), (82, .ldc2_w 316, 3), (85, .lastore, 1), (86, .aload_n 0, 1), (87, .getfield 36, 3), (90, .bipush 10, 2), (92, .iload 4, 2), (94, .i2l, 1), (95, .lastore, 1), (96, .return_, 1)]
theorem daX11_passWords_12_1 : dtX11_passWords_12_1.all (dqd cX11_passWords) = true := by decide +kernel
theorem dX11_passWords_51 : decode cX11_passWords 51 = .ok (.iload 8, 2) := dq daX11_passWords_12_1 0 rfl
theorem dX11_passWords_53 : decode cX11_passWords 53 = .ok (.idiv, 1) := dq daX11_passWords_12_1 1 rfl
theorem dX11_passWords_54 : decode cX11_passWords 54 = .ok (.i2l, 1) := dq daX11_passWords_12_1 2 rfl
theorem dX11_passWords_55 : decode cX11_passWords 55 = .ok (.lastore, 1) := dq daX11_passWords_12_1 3 rfl
theorem dX11_passWords_56 : decode cX11_passWords 56 = .ok (.aload_n 0, 1) := dq daX11_passWords_12_1 4 rfl
theorem dX11_passWords_57 : decode cX11_passWords 57 = .ok (.getfield 36, 3) := dq daX11_passWords_12_1 5 rfl
theorem dX11_passWords_60 : decode cX11_passWords 60 = .ok (.iconst 4, 1) := dq daX11_passWords_12_1 6 rfl
theorem dX11_passWords_61 : decode cX11_passWords 61 = .ok (.aload_n 0, 1) := dq daX11_passWords_12_1 7 rfl
theorem dX11_passWords_62 : decode cX11_passWords 62 = .ok (.iload_n 2, 1) := dq daX11_passWords_12_1 8 rfl
theorem dX11_passWords_63 : decode cX11_passWords 63 = .ok (.iconst 3, 1) := dq daX11_passWords_12_1 9 rfl
theorem dX11_passWords_64 : decode cX11_passWords 64 = .ok (.invokevirtual 303, 3) := dq daX11_passWords_12_1 10 rfl
theorem dX11_passWords_67 : decode cX11_passWords 67 = .ok (.i2l, 1) := dq daX11_passWords_12_1 11 rfl
theorem dX11_passWords_68 : decode cX11_passWords 68 = .ok (.lastore, 1) := dq daX11_passWords_12_1 12 rfl
theorem dX11_passWords_69 : decode cX11_passWords 69 = .ok (.aload_n 0, 1) := dq daX11_passWords_12_1 13 rfl
theorem dX11_passWords_70 : decode cX11_passWords 70 = .ok (.getfield 36, 3) := dq daX11_passWords_12_1 14 rfl
theorem dX11_passWords_73 : decode cX11_passWords 73 = .ok (.iconst 5, 1) := dq daX11_passWords_12_1 15 rfl
theorem dX11_passWords_74 : decode cX11_passWords 74 = .ok (.lconst 0, 1) := dq daX11_passWords_12_1 16 rfl
theorem dX11_passWords_75 : decode cX11_passWords 75 = .ok (.lastore, 1) := dq daX11_passWords_12_1 17 rfl
theorem dX11_passWords_76 : decode cX11_passWords 76 = .ok (.aload_n 0, 1) := dq daX11_passWords_12_1 18 rfl
theorem dX11_passWords_77 : decode cX11_passWords 77 = .ok (.getfield 36, 3) := dq daX11_passWords_12_1 19 rfl
theorem dX11_passWords_80 : decode cX11_passWords 80 = .ok (.bipush 6, 2) := dq daX11_passWords_12_1 20 rfl
theorem dX11_passWords_82 : decode cX11_passWords 82 = .ok (.ldc2_w 316, 3) := dq daX11_passWords_12_1 21 rfl
theorem dX11_passWords_85 : decode cX11_passWords 85 = .ok (.lastore, 1) := dq daX11_passWords_12_1 22 rfl
theorem dX11_passWords_86 : decode cX11_passWords 86 = .ok (.aload_n 0, 1) := dq daX11_passWords_12_1 23 rfl
theorem dX11_passWords_87 : decode cX11_passWords 87 = .ok (.getfield 36, 3) := dq daX11_passWords_12_1 24 rfl
theorem dX11_passWords_90 : decode cX11_passWords 90 = .ok (.bipush 10, 2) := dq daX11_passWords_12_1 25 rfl
theorem dX11_passWords_92 : decode cX11_passWords 92 = .ok (.iload 4, 2) := dq daX11_passWords_12_1 26 rfl
theorem dX11_passWords_94 : decode cX11_passWords 94 = .ok (.i2l, 1) := dq daX11_passWords_12_1 27 rfl
theorem dX11_passWords_95 : decode cX11_passWords 95 = .ok (.lastore, 1) := dq daX11_passWords_12_1 28 rfl
theorem dX11_passWords_96 : decode cX11_passWords 96 = .ok (.return_, 1) := dq daX11_passWords_12_1 29 rfl
def dtX11_draw_12_0 : List (Nat × Jvm.ClassFile.Instr × Nat) := [(0, .aload_n 0, 1), (1, .getfield 39, 3), (4, .bipush 7, 2), (6, .iaload, 1), (7, .i2l, 1), (8, .ldc2_w 338, 3), (11, .lmul, 1), (12, .ldc2_w 340, 3), (15, .ladd, 1), (16, .ldc2_w 342, 3), (19, .lrem, 1), (20, .lstore_n 1, 1), (21, .aload_n 0, 1), (22, .getfield 39, 3), (25, .bipush 7, 2), (27, .lload_n 1, 1), (28, .l2i, 1), (29, .iastore, 1), (30, .lload_n 1, 1), (31, .ldc2_w 344, 3), (34, .ldiv, 1), (35, .ldc2_w 272, 3), (38, .lrem, 1), (39, .l2i, 1), (40, .ireturn, 1)]
theorem daX11_draw_12_0 : dtX11_draw_12_0.all (dqd cX11_draw) = true := by decide +kernel
theorem dX11_draw_0 : decode cX11_draw 0 = .ok (.aload_n 0, 1) := dq daX11_draw_12_0 0 rfl
theorem dX11_draw_1 : decode cX11_draw 1 = .ok (.getfield 39, 3) := dq daX11_draw_12_0 1 rfl
theorem dX11_draw_4 : decode cX11_draw 4 = .ok (.bipush 7, 2) := dq daX11_draw_12_0 2 rfl
theorem dX11_draw_6 : decode cX11_draw 6 = .ok (.iaload, 1) := dq daX11_draw_12_0 3 rfl
theorem dX11_draw_7 : decode cX11_draw 7 = .ok (.i2l, 1) := dq daX11_draw_12_0 4 rfl
theorem dX11_draw_8 : decode cX11_draw 8 = .ok (.ldc2_w 338, 3) := dq daX11_draw_12_0 5 rfl
theorem dX11_draw_11 : decode cX11_draw 11 = .ok (.lmul, 1) := dq daX11_draw_12_0 6 rfl
theorem dX11_draw_12 : decode cX11_draw 12 = .ok (.ldc2_w 340, 3) := dq daX11_draw_12_0 7 rfl
theorem dX11_draw_15 : decode cX11_draw 15 = .ok (.ladd, 1) := dq daX11_draw_12_0 8 rfl
theorem dX11_draw_16 : decode cX11_draw 16 = .ok (.ldc2_w 342, 3) := dq daX11_draw_12_0 9 rfl
theorem dX11_draw_19 : decode cX11_draw 19 = .ok (.lrem, 1) := dq daX11_draw_12_0 10 rfl
theorem dX11_draw_20 : decode cX11_draw 20 = .ok (.lstore_n 1, 1) := dq daX11_draw_12_0 11 rfl
theorem dX11_draw_21 : decode cX11_draw 21 = .ok (.aload_n 0, 1) := dq daX11_draw_12_0 12 rfl
theorem dX11_draw_22 : decode cX11_draw 22 = .ok (.getfield 39, 3) := dq daX11_draw_12_0 13 rfl
theorem dX11_draw_25 : decode cX11_draw 25 = .ok (.bipush 7, 2) := dq daX11_draw_12_0 14 rfl
theorem dX11_draw_27 : decode cX11_draw 27 = .ok (.lload_n 1, 1) := dq daX11_draw_12_0 15 rfl
theorem dX11_draw_28 : decode cX11_draw 28 = .ok (.l2i, 1) := dq daX11_draw_12_0 16 rfl
theorem dX11_draw_29 : decode cX11_draw 29 = .ok (.iastore, 1) := dq daX11_draw_12_0 17 rfl
theorem dX11_draw_30 : decode cX11_draw 30 = .ok (.lload_n 1, 1) := dq daX11_draw_12_0 18 rfl
theorem dX11_draw_31 : decode cX11_draw 31 = .ok (.ldc2_w 344, 3) := dq daX11_draw_12_0 19 rfl
theorem dX11_draw_34 : decode cX11_draw 34 = .ok (.ldiv, 1) := dq daX11_draw_12_0 20 rfl
theorem dX11_draw_35 : decode cX11_draw 35 = .ok (.ldc2_w 272, 3) := dq daX11_draw_12_0 21 rfl
theorem dX11_draw_38 : decode cX11_draw 38 = .ok (.lrem, 1) := dq daX11_draw_12_0 22 rfl
theorem dX11_draw_39 : decode cX11_draw 39 = .ok (.l2i, 1) := dq daX11_draw_12_0 23 rfl
theorem dX11_draw_40 : decode cX11_draw 40 = .ok (.ireturn, 1) := dq daX11_draw_12_0 24 rfl
def dtX11_goesFor_12_0 : List (Nat × Jvm.ClassFile.Instr × Nat) := [(0, .sipush 168, 3), (3, .bipush 9, 2), (5, .iload_n 1, 1), (6, .imul, 1), (7, .iadd, 1), (8, .istore_n 2, 1), (9, .aload_n 0, 1), (10, .getfield 39, 3), (13, .iload_n 2, 1), (14, .iconst 4, 1), (15, .iadd, 1), (16, .iconst 0, 1), (17, .iastore, 1), (18, .aload_n 0, 1), (19, .getfield 39, 3), (22, .iload_n 2, 1), (23, .iconst 5, 1), (24, .iadd, 1), (25, .bipush 13, 2), (27, .iastore, 1), (28, .aload_n 0, 1), (29, .getfield 39, 3), (32, .iload_n 2, 1), (33, .bipush 6, 2), (35, .iadd, 1), (36, .iconst (-1), 1), (37, .iastore, 1), (38, .aload_n 0, 1), (39, .getfield 39, 3), (42, .iload_n 2, 1), (43, .bipush 7, 2), (45, .iadd, 1)]
theorem daX11_goesFor_12_0 : dtX11_goesFor_12_0.all (dqd cX11_goesFor) = true := by decide +kernel
theorem dX11_goesFor_0 : decode cX11_goesFor 0 = .ok (.sipush 168, 3) := dq daX11_goesFor_12_0 0 rfl
theorem dX11_goesFor_3 : decode cX11_goesFor 3 = .ok (.bipush 9, 2) := dq daX11_goesFor_12_0 1 rfl
theorem dX11_goesFor_5 : decode cX11_goesFor 5 = .ok (.iload_n 1, 1) := dq daX11_goesFor_12_0 2 rfl
theorem dX11_goesFor_6 : decode cX11_goesFor 6 = .ok (.imul, 1) := dq daX11_goesFor_12_0 3 rfl
theorem dX11_goesFor_7 : decode cX11_goesFor 7 = .ok (.iadd, 1) := dq daX11_goesFor_12_0 4 rfl
theorem dX11_goesFor_8 : decode cX11_goesFor 8 = .ok (.istore_n 2, 1) := dq daX11_goesFor_12_0 5 rfl
theorem dX11_goesFor_9 : decode cX11_goesFor 9 = .ok (.aload_n 0, 1) := dq daX11_goesFor_12_0 6 rfl
theorem dX11_goesFor_10 : decode cX11_goesFor 10 = .ok (.getfield 39, 3) := dq daX11_goesFor_12_0 7 rfl
theorem dX11_goesFor_13 : decode cX11_goesFor 13 = .ok (.iload_n 2, 1) := dq daX11_goesFor_12_0 8 rfl
theorem dX11_goesFor_14 : decode cX11_goesFor 14 = .ok (.iconst 4, 1) := dq daX11_goesFor_12_0 9 rfl
theorem dX11_goesFor_15 : decode cX11_goesFor 15 = .ok (.iadd, 1) := dq daX11_goesFor_12_0 10 rfl
theorem dX11_goesFor_16 : decode cX11_goesFor 16 = .ok (.iconst 0, 1) := dq daX11_goesFor_12_0 11 rfl
theorem dX11_goesFor_17 : decode cX11_goesFor 17 = .ok (.iastore, 1) := dq daX11_goesFor_12_0 12 rfl
theorem dX11_goesFor_18 : decode cX11_goesFor 18 = .ok (.aload_n 0, 1) := dq daX11_goesFor_12_0 13 rfl
theorem dX11_goesFor_19 : decode cX11_goesFor 19 = .ok (.getfield 39, 3) := dq daX11_goesFor_12_0 14 rfl
theorem dX11_goesFor_22 : decode cX11_goesFor 22 = .ok (.iload_n 2, 1) := dq daX11_goesFor_12_0 15 rfl
theorem dX11_goesFor_23 : decode cX11_goesFor 23 = .ok (.iconst 5, 1) := dq daX11_goesFor_12_0 16 rfl
theorem dX11_goesFor_24 : decode cX11_goesFor 24 = .ok (.iadd, 1) := dq daX11_goesFor_12_0 17 rfl
theorem dX11_goesFor_25 : decode cX11_goesFor 25 = .ok (.bipush 13, 2) := dq daX11_goesFor_12_0 18 rfl
theorem dX11_goesFor_27 : decode cX11_goesFor 27 = .ok (.iastore, 1) := dq daX11_goesFor_12_0 19 rfl
theorem dX11_goesFor_28 : decode cX11_goesFor 28 = .ok (.aload_n 0, 1) := dq daX11_goesFor_12_0 20 rfl
theorem dX11_goesFor_29 : decode cX11_goesFor 29 = .ok (.getfield 39, 3) := dq daX11_goesFor_12_0 21 rfl
theorem dX11_goesFor_32 : decode cX11_goesFor 32 = .ok (.iload_n 2, 1) := dq daX11_goesFor_12_0 22 rfl
theorem dX11_goesFor_33 : decode cX11_goesFor 33 = .ok (.bipush 6, 2) := dq daX11_goesFor_12_0 23 rfl
theorem dX11_goesFor_35 : decode cX11_goesFor 35 = .ok (.iadd, 1) := dq daX11_goesFor_12_0 24 rfl
theorem dX11_goesFor_36 : decode cX11_goesFor 36 = .ok (.iconst (-1), 1) := dq daX11_goesFor_12_0 25 rfl
theorem dX11_goesFor_37 : decode cX11_goesFor 37 = .ok (.iastore, 1) := dq daX11_goesFor_12_0 26 rfl
theorem dX11_goesFor_38 : decode cX11_goesFor 38 = .ok (.aload_n 0, 1) := dq daX11_goesFor_12_0 27 rfl
theorem dX11_goesFor_39 : decode cX11_goesFor 39 = .ok (.getfield 39, 3) := dq daX11_goesFor_12_0 28 rfl
theorem dX11_goesFor_42 : decode cX11_goesFor 42 = .ok (.iload_n 2, 1) := dq daX11_goesFor_12_0 29 rfl
theorem dX11_goesFor_43 : decode cX11_goesFor 43 = .ok (.bipush 7, 2) := dq daX11_goesFor_12_0 30 rfl
theorem dX11_goesFor_45 : decode cX11_goesFor 45 = .ok (.iadd, 1) := dq daX11_goesFor_12_0 31 rfl
def dtX11_goesFor_12_1 : List (Nat × Jvm.ClassFile.Instr × Nat) := [(46, .iconst 0, 1), (47, .iastore, 1), (48, .aload_n 0, 1), (49, .getfield 39, 3), (52, .iload_n 2, 1), (53, .bipush 8, 2), (55, .iadd, 1), (56, .iconst (-1), 1), (57, .iastore, 1), (58, .return_, 1)]
theorem daX11_goesFor_12_1 : dtX11_goesFor_12_1.all (dqd cX11_goesFor) = true := by decide +kernel
theorem dX11_goesFor_46 : decode cX11_goesFor 46 = .ok (.iconst 0, 1) := dq daX11_goesFor_12_1 0 rfl
theorem dX11_goesFor_47 : decode cX11_goesFor 47 = .ok (.iastore, 1) := dq daX11_goesFor_12_1 1 rfl
theorem dX11_goesFor_48 : decode cX11_goesFor 48 = .ok (.aload_n 0, 1) := dq daX11_goesFor_12_1 2 rfl
theorem dX11_goesFor_49 : decode cX11_goesFor 49 = .ok (.getfield 39, 3) := dq daX11_goesFor_12_1 3 rfl
theorem dX11_goesFor_52 : decode cX11_goesFor 52 = .ok (.iload_n 2, 1) := dq daX11_goesFor_12_1 4 rfl
theorem dX11_goesFor_53 : decode cX11_goesFor 53 = .ok (.bipush 8, 2) := dq daX11_goesFor_12_1 5 rfl
theorem dX11_goesFor_55 : decode cX11_goesFor 55 = .ok (.iadd, 1) := dq daX11_goesFor_12_1 6 rfl
theorem dX11_goesFor_56 : decode cX11_goesFor 56 = .ok (.iconst (-1), 1) := dq daX11_goesFor_12_1 7 rfl
theorem dX11_goesFor_57 : decode cX11_goesFor 57 = .ok (.iastore, 1) := dq daX11_goesFor_12_1 8 rfl
theorem dX11_goesFor_58 : decode cX11_goesFor 58 = .ok (.return_, 1) := dq daX11_goesFor_12_1 9 rfl
