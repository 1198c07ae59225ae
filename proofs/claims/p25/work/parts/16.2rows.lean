theorem kX11_waits_1 {a : Array Value} {s : State} (hts : ∀ w ∈ wsX11_waits, w.before a s = true) : (.fieldLink RX11 387 "SnowMulesModel" "goHour" "I" : Cond).before a s = true := kw (A := ixX11_waits) wt996 hts (by decide +kernel)
theorem kX11_waits_2 {a : Array Value} {s : State} (hts : ∀ w ∈ wsX11_waits, w.before a s = true) : (.fieldLink RX11 381 "SnowMulesModel" "goNode" "I" : Cond).before a s = true := kw (A := ixX11_waits) wt1008 hts (by decide +kernel)
theorem kX11_waits_3 {a : Array Value} {s : State} (hts : ∀ w ∈ wsX11_waits, w.before a s = true) : (.fieldLink RX11 384 "SnowMulesModel" "goDrops" "I" : Cond).before a s = true := kw (A := ixX11_waits) wt995 hts (by decide +kernel)
theorem kX11_waits_4 {a : Array Value} {s : State} (hts : ∀ w ∈ wsX11_waits, w.before a s = true) : (.fieldLink RX11 390 "SnowMulesModel" "goFelt" "I" : Cond).before a s = true := kw (A := ixX11_waits) wt1009 hts (by decide +kernel)
theorem kX11_waits_5 {a : Array Value} {s : State} (hts : ∀ w ∈ wsX11_waits, w.before a s = true) : (.fieldLink RX11 393 "SnowMulesModel" "goSalt" "I" : Cond).before a s = true := kw (A := ixX11_waits) wt1010 hts (by decide +kernel)
theorem kX11_waits_6 {a : Array Value} {s : State} (hts : ∀ w ∈ wsX11_waits, w.before a s = true) : (.fieldLink RX11 396 "SnowMulesModel" "goMore" "I" : Cond).before a s = true := kw (A := ixX11_waits) wt1011 hts (by decide +kernel)
theorem kX11_travels_1 {a : Array Value} {s : State} (hts : ∀ w ∈ wsX11_travels, w.before a s = true) : (.fieldLink RX11 381 "SnowMulesModel" "goNode" "I" : Cond).before a s = true := kw (A := ixX11_travels) wt1008 hts (by decide +kernel)
theorem kX11_travels_2 {a : Array Value} {s : State} (hts : ∀ w ∈ wsX11_travels, w.before a s = true) : (.fieldLink RX11 387 "SnowMulesModel" "goHour" "I" : Cond).before a s = true := kw (A := ixX11_travels) wt996 hts (by decide +kernel)
theorem kX11_travels_3 {a : Array Value} {s : State} (hts : ∀ w ∈ wsX11_travels, w.before a s = true) : (.fieldLink RX11 384 "SnowMulesModel" "goDrops" "I" : Cond).before a s = true := kw (A := ixX11_travels) wt995 hts (by decide +kernel)
theorem kX11_travels_4 {a : Array Value} {s : State} (hts : ∀ w ∈ wsX11_travels, w.before a s = true) : (.fieldLink RX11 390 "SnowMulesModel" "goFelt" "I" : Cond).before a s = true := kw (A := ixX11_travels) wt1009 hts (by decide +kernel)
theorem kX11_travels_5 {a : Array Value} {s : State} (hts : ∀ w ∈ wsX11_travels, w.before a s = true) : (.fieldLink RX11 393 "SnowMulesModel" "goSalt" "I" : Cond).before a s = true := kw (A := ixX11_travels) wt1010 hts (by decide +kernel)
theorem kX11_travels_6 {a : Array Value} {s : State} (hts : ∀ w ∈ wsX11_travels, w.before a s = true) : (.fieldLink RX11 396 "SnowMulesModel" "goMore" "I" : Cond).before a s = true := kw (A := ixX11_travels) wt1011 hts (by decide +kernel)
theorem kX11_travels_7 {a : Array Value} {s : State} (hts : ∀ w ∈ wsX11_travels, w.before a s = true) : (.constantLong RX11 349 (100) : Cond).before a s = true := kw (A := ixX11_travels) wt862 hts (by decide +kernel)
theorem kX11_tried_1 {a : Array Value} {s : State} (hts : ∀ w ∈ wsX11_tried, w.before a s = true) : (.fieldLink RX11 39 "SnowMulesModel" "said" "[I" : Cond).before a s = true := kw (A := ixX11_tried) wt153 hts (by decide +kernel)
theorem kX11_tried_3 {a : Array Value} {s : State} (hts : ∀ w ∈ wsX11_tried, w.before a s = true) : (.fieldLink RX11 387 "SnowMulesModel" "goHour" "I" : Cond).before a s = true := kw (A := ixX11_tried) wt996 hts (by decide +kernel)
theorem kX11_tried_2 {a : Array Value} {s : State} (hts : ∀ w ∈ wsX11_tried, w.before a s = true) : (.fieldLink RX11 384 "SnowMulesModel" "goDrops" "I" : Cond).before a s = true := kw (A := ixX11_tried) wt995 hts (by decide +kernel)
theorem kX11_wasAt_1 {a : Array Value} {s : State} (hts : ∀ w ∈ wsX11_wasAt, w.before a s = true) : (.fieldLink RX11 45 "SnowMulesModel" "stepNode" "[I" : Cond).before a s = true := kw (A := ixX11_wasAt) wt155 hts (by decide +kernel)
theorem iX11_waits_X11 : ∀ w ∈ wsX110, w ∈ wsX11_waits := inW (A := ixX11_waits) uwX11 (by decide +kernel)
theorem iX11_travels_X11 : ∀ w ∈ wsX110, w ∈ wsX11_travels := inW (A := ixX11_travels) uwX11 (by decide +kernel)
theorem iX11_tried_X11 : ∀ w ∈ wsX110, w ∈ wsX11_tried := inW (A := ixX11_tried) uwX11 (by decide +kernel)
theorem iX11_wasAt_X11 : ∀ w ∈ wsX110, w ∈ wsX11_wasAt := inW (A := ixX11_wasAt) uwX11 (by decide +kernel)
theorem hdX11_canTry : yX11_canTry.cls ≠ "java/lang/invoke/MethodHandle" ∧ yX11_canTry.cls ≠ "java/lang/invoke/VarHandle" ∧ (parseMethodDescriptor yX11_canTry.desc).map (fun d => d.parameters.length) = some 5 := ⟨hdc_0.1, hdc_0.2, hdd_19⟩
theorem hdX11_sets : yX11_sets.cls ≠ "java/lang/invoke/MethodHandle" ∧ yX11_sets.cls ≠ "java/lang/invoke/VarHandle" ∧ (parseMethodDescriptor yX11_sets.desc).map (fun d => d.parameters.length) = some 5 := ⟨hdc_0.1, hdc_0.2, hdd_14⟩
theorem hdX11_travels : yX11_travels.cls ≠ "java/lang/invoke/MethodHandle" ∧ yX11_travels.cls ≠ "java/lang/invoke/VarHandle" ∧ (parseMethodDescriptor yX11_travels.desc).map (fun d => d.parameters.length) = some 2 := ⟨hdc_0.1, hdc_0.2, hdd_18⟩
def dtX11_waits_16_0 : List (Nat × Jvm.ClassFile.Instr × Nat) := [(0, .aload_n 0, 1), (1, .aload_n 0, 1), (2, .getfield 387, 3), (5, .aload_n 0, 1), (6, .getfield 381, 3), (9, .aload_n 0, 1), (10, .getfield 384, 3), (13, .aload_n 0, 1), (14, .getfield 390, 3), (17, .aload_n 0, 1), (18, .getfield 393, 3), (21, .invokevirtual 330, 3), (24, .aload_n 0, 1), (25, .dup, 1), (26, .getfield 384, 3), (29, .aload_n 0, 1), (30, .iload_n 1, 1), (31, .aload_n 0, 1), (32, .getfield 384, 3), (35, .aload_n 0, 1), (36, .getfield 396, 3), (39, .invokevirtual 334, 3), (42, .isub, 1), (43, .putfield 384, 3), (46, .aload_n 0, 1), (47, .dup, 1), (48, .getfield 387, 3), (51, .iconst 1, 1), (52, .iadd, 1), (53, .putfield 387, 3), (56, .return_, 1)]
theorem daX11_waits_16_0 : dtX11_waits_16_0.all (dqd cX11_waits) = true := by decide +kernel
theorem dX11_waits_0 : decode cX11_waits 0 = .ok (.aload_n 0, 1) := dq daX11_waits_16_0 0 rfl
theorem dX11_waits_1 : decode cX11_waits 1 = .ok (.aload_n 0, 1) := dq daX11_waits_16_0 1 rfl
theorem dX11_waits_2 : decode cX11_waits 2 = .ok (.getfield 387, 3) := dq daX11_waits_16_0 2 rfl
theorem dX11_waits_5 : decode cX11_waits 5 = .ok (.aload_n 0, 1) := dq daX11_waits_16_0 3 rfl
theorem dX11_waits_6 : decode cX11_waits 6 = .ok (.getfield 381, 3) := dq daX11_waits_16_0 4 rfl
theorem dX11_waits_9 : decode cX11_waits 9 = .ok (.aload_n 0, 1) := dq daX11_waits_16_0 5 rfl
theorem dX11_waits_10 : decode cX11_waits 10 = .ok (.getfield 384, 3) := dq daX11_waits_16_0 6 rfl
theorem dX11_waits_13 : decode cX11_waits 13 = .ok (.aload_n 0, 1) := dq daX11_waits_16_0 7 rfl
theorem dX11_waits_14 : decode cX11_waits 14 = .ok (.getfield 390, 3) := dq daX11_waits_16_0 8 rfl
theorem dX11_waits_17 : decode cX11_waits 17 = .ok (.aload_n 0, 1) := dq daX11_waits_16_0 9 rfl
theorem dX11_waits_18 : decode cX11_waits 18 = .ok (.getfield 393, 3) := dq daX11_waits_16_0 10 rfl
theorem dX11_waits_21 : decode cX11_waits 21 = .ok (.invokevirtual 330, 3) := dq daX11_waits_16_0 11 rfl
theorem dX11_waits_24 : decode cX11_waits 24 = .ok (.aload_n 0, 1) := dq daX11_waits_16_0 12 rfl
theorem dX11_waits_25 : decode cX11_waits 25 = .ok (.dup, 1) := dq daX11_waits_16_0 13 rfl
theorem dX11_waits_26 : decode cX11_waits 26 = .ok (.getfield 384, 3) := dq daX11_waits_16_0 14 rfl
theorem dX11_waits_29 : decode cX11_waits 29 = .ok (.aload_n 0, 1) := dq daX11_waits_16_0 15 rfl
theorem dX11_waits_30 : decode cX11_waits 30 = .ok (.iload_n 1, 1) := dq daX11_waits_16_0 16 rfl
theorem dX11_waits_31 : decode cX11_waits 31 = .ok (.aload_n 0, 1) := dq daX11_waits_16_0 17 rfl
theorem dX11_waits_32 : decode cX11_waits 32 = .ok (.getfield 384, 3) := dq daX11_waits_16_0 18 rfl
theorem dX11_waits_35 : decode cX11_waits 35 = .ok (.aload_n 0, 1) := dq daX11_waits_16_0 19 rfl
theorem dX11_waits_36 : decode cX11_waits 36 = .ok (.getfield 396, 3) := dq daX11_waits_16_0 20 rfl
theorem dX11_waits_39 : decode cX11_waits 39 = .ok (.invokevirtual 334, 3) := dq daX11_waits_16_0 21 rfl
theorem dX11_waits_42 : decode cX11_waits 42 = .ok (.isub, 1) := dq daX11_waits_16_0 22 rfl
theorem dX11_waits_43 : decode cX11_waits 43 = .ok (.putfield 384, 3) := dq daX11_waits_16_0 23 rfl
theorem dX11_waits_46 : decode cX11_waits 46 = .ok (.aload_n 0, 1) := dq daX11_waits_16_0 24 rfl
theorem dX11_waits_47 : decode cX11_waits 47 = .ok (.dup, 1) := dq daX11_waits_16_0 25 rfl
theorem dX11_waits_48 : decode cX11_waits 48 = .ok (.getfield 387, 3) := dq daX11_waits_16_0 26 rfl
theorem dX11_waits_51 : decode cX11_waits 51 = .ok (.iconst 1, 1) := dq daX11_waits_16_0 27 rfl
theorem dX11_waits_52 : decode cX11_waits 52 = .ok (.iadd, 1) := dq daX11_waits_16_0 28 rfl
theorem dX11_waits_53 : decode cX11_waits 53 = .ok (.putfield 387, 3) := dq daX11_waits_16_0 29 rfl
theorem dX11_waits_56 : decode cX11_waits 56 = .ok (.return_, 1) := dq daX11_waits_16_0 30 rfl
def dtX11_travels_16_0 : List (Nat × Jvm.ClassFile.Instr × Nat) := [(0, .aload_n 0, 1), (1, .iload_n 2, 1), (2, .aload_n 0, 1), (3, .getfield 381, 3), (6, .invokevirtual 309, 3), (9, .istore_n 3, 1), (10, .iconst 0, 1), (11, .istore 4, 2), (13, .iload 4, 2), (15, .aload_n 0, 1), (16, .iload_n 2, 1), (17, .iconst 2, 1), (18, .invokevirtual 303, 3), (21, .if_icmp .ge 65, 3), (24, .aload_n 0, 1), (25, .aload_n 0, 1), (26, .getfield 387, 3), (29, .iload_n 2, 1), (30, .iload_n 3, 1), (31, .iload 4, 2), (33, .aload_n 0, 1), (34, .getfield 384, 3), (37, .aload_n 0, 1), (38, .getfield 390, 3), (41, .aload_n 0, 1), (42, .getfield 393, 3), (45, .invokevirtual 326, 3), (48, .aload_n 0, 1), (49, .dup, 1), (50, .getfield 384, 3), (53, .aload_n 0, 1), (54, .iload_n 1, 1)]
theorem daX11_travels_16_0 : dtX11_travels_16_0.all (dqd cX11_travels) = true := by decide +kernel
theorem dX11_travels_0 : decode cX11_travels 0 = .ok (.aload_n 0, 1) := dq daX11_travels_16_0 0 rfl
theorem dX11_travels_1 : decode cX11_travels 1 = .ok (.iload_n 2, 1) := dq daX11_travels_16_0 1 rfl
theorem dX11_travels_2 : decode cX11_travels 2 = .ok (.aload_n 0, 1) := dq daX11_travels_16_0 2 rfl
theorem dX11_travels_3 : decode cX11_travels 3 = .ok (.getfield 381, 3) := dq daX11_travels_16_0 3 rfl
theorem dX11_travels_6 : decode cX11_travels 6 = .ok (.invokevirtual 309, 3) := dq daX11_travels_16_0 4 rfl
theorem dX11_travels_9 : decode cX11_travels 9 = .ok (.istore_n 3, 1) := dq daX11_travels_16_0 5 rfl
theorem dX11_travels_10 : decode cX11_travels 10 = .ok (.iconst 0, 1) := dq daX11_travels_16_0 6 rfl
theorem dX11_travels_11 : decode cX11_travels 11 = .ok (.istore 4, 2) := dq daX11_travels_16_0 7 rfl
theorem dX11_travels_13 : decode cX11_travels 13 = .ok (.iload 4, 2) := dq daX11_travels_16_0 8 rfl
theorem dX11_travels_15 : decode cX11_travels 15 = .ok (.aload_n 0, 1) := dq daX11_travels_16_0 9 rfl
theorem dX11_travels_16 : decode cX11_travels 16 = .ok (.iload_n 2, 1) := dq daX11_travels_16_0 10 rfl
theorem dX11_travels_17 : decode cX11_travels 17 = .ok (.iconst 2, 1) := dq daX11_travels_16_0 11 rfl
theorem dX11_travels_18 : decode cX11_travels 18 = .ok (.invokevirtual 303, 3) := dq daX11_travels_16_0 12 rfl
theorem dX11_travels_21 : decode cX11_travels 21 = .ok (.if_icmp .ge 65, 3) := dq daX11_travels_16_0 13 rfl
theorem dX11_travels_24 : decode cX11_travels 24 = .ok (.aload_n 0, 1) := dq daX11_travels_16_0 14 rfl
theorem dX11_travels_25 : decode cX11_travels 25 = .ok (.aload_n 0, 1) := dq daX11_travels_16_0 15 rfl
theorem dX11_travels_26 : decode cX11_travels 26 = .ok (.getfield 387, 3) := dq daX11_travels_16_0 16 rfl
theorem dX11_travels_29 : decode cX11_travels 29 = .ok (.iload_n 2, 1) := dq daX11_travels_16_0 17 rfl
theorem dX11_travels_30 : decode cX11_travels 30 = .ok (.iload_n 3, 1) := dq daX11_travels_16_0 18 rfl
theorem dX11_travels_31 : decode cX11_travels 31 = .ok (.iload 4, 2) := dq daX11_travels_16_0 19 rfl
theorem dX11_travels_33 : decode cX11_travels 33 = .ok (.aload_n 0, 1) := dq daX11_travels_16_0 20 rfl
theorem dX11_travels_34 : decode cX11_travels 34 = .ok (.getfield 384, 3) := dq daX11_travels_16_0 21 rfl
theorem dX11_travels_37 : decode cX11_travels 37 = .ok (.aload_n 0, 1) := dq daX11_travels_16_0 22 rfl
theorem dX11_travels_38 : decode cX11_travels 38 = .ok (.getfield 390, 3) := dq daX11_travels_16_0 23 rfl
theorem dX11_travels_41 : decode cX11_travels 41 = .ok (.aload_n 0, 1) := dq daX11_travels_16_0 24 rfl
theorem dX11_travels_42 : decode cX11_travels 42 = .ok (.getfield 393, 3) := dq daX11_travels_16_0 25 rfl
theorem dX11_travels_45 : decode cX11_travels 45 = .ok (.invokevirtual 326, 3) := dq daX11_travels_16_0 26 rfl
theorem dX11_travels_48 : decode cX11_travels 48 = .ok (.aload_n 0, 1) := dq daX11_travels_16_0 27 rfl
theorem dX11_travels_49 : decode cX11_travels 49 = .ok (.dup, 1) := dq daX11_travels_16_0 28 rfl
theorem dX11_travels_50 : decode cX11_travels 50 = .ok (.getfield 384, 3) := dq daX11_travels_16_0 29 rfl
theorem dX11_travels_53 : decode cX11_travels 53 = .ok (.aload_n 0, 1) := dq daX11_travels_16_0 30 rfl
theorem dX11_travels_54 : decode cX11_travels 54 = .ok (.iload_n 1, 1) := dq daX11_travels_16_0 31 rfl
def dtX11_travels_16_1 : List (Nat × Jvm.ClassFile.Instr × Nat) := [(55, .aload_n 0, 1), (56, .getfield 384, 3), (59, .aload_n 0, 1), (60, .getfield 396, 3), (63, .invokevirtual 334, 3), (66, .isub, 1), (67, .putfield 384, 3), (70, .aload_n 0, 1), (71, .dup, 1), (72, .getfield 387, 3), (75, .iconst 1, 1), (76, .iadd, 1), (77, .putfield 387, 3), (80, .iinc 4 1, 3), (83, .goto (-70), 3), (86, .aload_n 0, 1), (87, .iload_n 3, 1), (88, .putfield 381, 3), (91, .aload_n 0, 1), (92, .aload_n 0, 1), (93, .getfield 387, 3), (96, .iload_n 3, 1), (97, .aload_n 0, 1), (98, .getfield 384, 3), (101, .aload_n 0, 1), (102, .getfield 390, 3), (105, .aload_n 0, 1), (106, .getfield 393, 3), (109, .invokevirtual 330, 3), (112, .aload_n 0, 1), (113, .dup, 1), (114, .getfield 384, 3)]
theorem daX11_travels_16_1 : dtX11_travels_16_1.all (dqd cX11_travels) = true := by decide +kernel
theorem dX11_travels_55 : decode cX11_travels 55 = .ok (.aload_n 0, 1) := dq daX11_travels_16_1 0 rfl
theorem dX11_travels_56 : decode cX11_travels 56 = .ok (.getfield 384, 3) := dq daX11_travels_16_1 1 rfl
theorem dX11_travels_59 : decode cX11_travels 59 = .ok (.aload_n 0, 1) := dq daX11_travels_16_1 2 rfl
theorem dX11_travels_60 : decode cX11_travels 60 = .ok (.getfield 396, 3) := dq daX11_travels_16_1 3 rfl
theorem dX11_travels_63 : decode cX11_travels 63 = .ok (.invokevirtual 334, 3) := dq daX11_travels_16_1 4 rfl
theorem dX11_travels_66 : decode cX11_travels 66 = .ok (.isub, 1) := dq daX11_travels_16_1 5 rfl
theorem dX11_travels_67 : decode cX11_travels 67 = .ok (.putfield 384, 3) := dq daX11_travels_16_1 6 rfl
theorem dX11_travels_70 : decode cX11_travels 70 = .ok (.aload_n 0, 1) := dq daX11_travels_16_1 7 rfl
theorem dX11_travels_71 : decode cX11_travels 71 = .ok (.dup, 1) := dq daX11_travels_16_1 8 rfl
theorem dX11_travels_72 : decode cX11_travels 72 = .ok (.getfield 387, 3) := dq daX11_travels_16_1 9 rfl
theorem dX11_travels_75 : decode cX11_travels 75 = .ok (.iconst 1, 1) := dq daX11_travels_16_1 10 rfl
theorem dX11_travels_76 : decode cX11_travels 76 = .ok (.iadd, 1) := dq daX11_travels_16_1 11 rfl
theorem dX11_travels_77 : decode cX11_travels 77 = .ok (.putfield 387, 3) := dq daX11_travels_16_1 12 rfl
theorem dX11_travels_80 : decode cX11_travels 80 = .ok (.iinc 4 1, 3) := dq daX11_travels_16_1 13 rfl
theorem dX11_travels_83 : decode cX11_travels 83 = .ok (.goto (-70), 3) := dq daX11_travels_16_1 14 rfl
theorem dX11_travels_86 : decode cX11_travels 86 = .ok (.aload_n 0, 1) := dq daX11_travels_16_1 15 rfl
theorem dX11_travels_87 : decode cX11_travels 87 = .ok (.iload_n 3, 1) := dq daX11_travels_16_1 16 rfl
theorem dX11_travels_88 : decode cX11_travels 88 = .ok (.putfield 381, 3) := dq daX11_travels_16_1 17 rfl
theorem dX11_travels_91 : decode cX11_travels 91 = .ok (.aload_n 0, 1) := dq daX11_travels_16_1 18 rfl
theorem dX11_travels_92 : decode cX11_travels 92 = .ok (.aload_n 0, 1) := dq daX11_travels_16_1 19 rfl
theorem dX11_travels_93 : decode cX11_travels 93 = .ok (.getfield 387, 3) := dq daX11_travels_16_1 20 rfl
theorem dX11_travels_96 : decode cX11_travels 96 = .ok (.iload_n 3, 1) := dq daX11_travels_16_1 21 rfl
theorem dX11_travels_97 : decode cX11_travels 97 = .ok (.aload_n 0, 1) := dq daX11_travels_16_1 22 rfl
theorem dX11_travels_98 : decode cX11_travels 98 = .ok (.getfield 384, 3) := dq daX11_travels_16_1 23 rfl
theorem dX11_travels_101 : decode cX11_travels 101 = .ok (.aload_n 0, 1) := dq daX11_travels_16_1 24 rfl
theorem dX11_travels_102 : decode cX11_travels 102 = .ok (.getfield 390, 3) := dq daX11_travels_16_1 25 rfl
theorem dX11_travels_105 : decode cX11_travels 105 = .ok (.aload_n 0, 1) := dq daX11_travels_16_1 26 rfl
theorem dX11_travels_106 : decode cX11_travels 106 = .ok (.getfield 393, 3) := dq daX11_travels_16_1 27 rfl
theorem dX11_travels_109 : decode cX11_travels 109 = .ok (.invokevirtual 330, 3) := dq daX11_travels_16_1 28 rfl
theorem dX11_travels_112 : decode cX11_travels 112 = .ok (.aload_n 0, 1) := dq daX11_travels_16_1 29 rfl
theorem dX11_travels_113 : decode cX11_travels 113 = .ok (.dup, 1) := dq daX11_travels_16_1 30 rfl
theorem dX11_travels_114 : decode cX11_travels 114 = .ok (.getfield 384, 3) := dq daX11_travels_16_1 31 rfl
def dtX11_travels_16_2 : List (Nat × Jvm.ClassFile.Instr × Nat) := [(117, .aload_n 0, 1), (118, .getfield 384, 3), (121, .i2l, 1), (122, .aload_n 0, 1), (123, .iload_n 1, 1), (124, .iconst 2, 1), (125, .invokevirtual 318, 3), (128, .lconst 0, 1), (129, .ldc2_w 349, 3), (132, .invokestatic 322, 3), (135, .lmul, 1), (136, .ldc2_w 349, 3), (139, .ldiv, 1), (140, .l2i, 1), (141, .isub, 1), (142, .putfield 384, 3), (145, .return_, 1)]
theorem daX11_travels_16_2 : dtX11_travels_16_2.all (dqd cX11_travels) = true := by decide +kernel
theorem dX11_travels_117 : decode cX11_travels 117 = .ok (.aload_n 0, 1) := dq daX11_travels_16_2 0 rfl
theorem dX11_travels_118 : decode cX11_travels 118 = .ok (.getfield 384, 3) := dq daX11_travels_16_2 1 rfl
theorem dX11_travels_121 : decode cX11_travels 121 = .ok (.i2l, 1) := dq daX11_travels_16_2 2 rfl
theorem dX11_travels_122 : decode cX11_travels 122 = .ok (.aload_n 0, 1) := dq daX11_travels_16_2 3 rfl
theorem dX11_travels_123 : decode cX11_travels 123 = .ok (.iload_n 1, 1) := dq daX11_travels_16_2 4 rfl
theorem dX11_travels_124 : decode cX11_travels 124 = .ok (.iconst 2, 1) := dq daX11_travels_16_2 5 rfl
theorem dX11_travels_125 : decode cX11_travels 125 = .ok (.invokevirtual 318, 3) := dq daX11_travels_16_2 6 rfl
theorem dX11_travels_128 : decode cX11_travels 128 = .ok (.lconst 0, 1) := dq daX11_travels_16_2 7 rfl
theorem dX11_travels_129 : decode cX11_travels 129 = .ok (.ldc2_w 349, 3) := dq daX11_travels_16_2 8 rfl
theorem dX11_travels_132 : decode cX11_travels 132 = .ok (.invokestatic 322, 3) := dq daX11_travels_16_2 9 rfl
theorem dX11_travels_135 : decode cX11_travels 135 = .ok (.lmul, 1) := dq daX11_travels_16_2 10 rfl
theorem dX11_travels_136 : decode cX11_travels 136 = .ok (.ldc2_w 349, 3) := dq daX11_travels_16_2 11 rfl
theorem dX11_travels_139 : decode cX11_travels 139 = .ok (.ldiv, 1) := dq daX11_travels_16_2 12 rfl
theorem dX11_travels_140 : decode cX11_travels 140 = .ok (.l2i, 1) := dq daX11_travels_16_2 13 rfl
theorem dX11_travels_141 : decode cX11_travels 141 = .ok (.isub, 1) := dq daX11_travels_16_2 14 rfl
theorem dX11_travels_142 : decode cX11_travels 142 = .ok (.putfield 384, 3) := dq daX11_travels_16_2 15 rfl
theorem dX11_travels_145 : decode cX11_travels 145 = .ok (.return_, 1) := dq daX11_travels_16_2 16 rfl
def dtX11_tried_16_0 : List (Nat × Jvm.ClassFile.Instr × Nat) := [(0, .aload_n 0, 1), (1, .iload_n 1, 1), (2, .iload_n 2, 1), (3, .iload_n 3, 1), (4, .iload 4, 2), (6, .iload 5, 2), (8, .invokevirtual 403, 3), (11, .ifCond .eq 14, 3), (25, .iconst (-1), 1), (26, .ireturn, 1), (14, .iload 6, 2), (16, .i2l, 1), (17, .lconst 0, 1), (18, .lconst 1, 1), (19, .invokestatic 118, 3), (22, .ifCond .ne 5, 3), (27, .aload_n 0, 1), (28, .aload_n 0, 1), (29, .getfield 39, 3), (32, .bipush 8, 2), (34, .iaload, 1), (35, .iload_n 3, 1), (36, .iload_n 2, 1), (37, .iload 4, 2), (39, .iload 5, 2), (41, .invokevirtual 407, 3), (44, .iconst 0, 1), (45, .istore 7, 2), (47, .iload 7, 2), (49, .aload_n 0, 1), (50, .getfield 39, 3), (53, .bipush 9, 2)]
theorem daX11_tried_16_0 : dtX11_tried_16_0.all (dqd cX11_tried) = true := by decide +kernel
theorem dX11_tried_0 : decode cX11_tried 0 = .ok (.aload_n 0, 1) := dq daX11_tried_16_0 0 rfl
theorem dX11_tried_1 : decode cX11_tried 1 = .ok (.iload_n 1, 1) := dq daX11_tried_16_0 1 rfl
theorem dX11_tried_2 : decode cX11_tried 2 = .ok (.iload_n 2, 1) := dq daX11_tried_16_0 2 rfl
theorem dX11_tried_3 : decode cX11_tried 3 = .ok (.iload_n 3, 1) := dq daX11_tried_16_0 3 rfl
theorem dX11_tried_4 : decode cX11_tried 4 = .ok (.iload 4, 2) := dq daX11_tried_16_0 4 rfl
theorem dX11_tried_6 : decode cX11_tried 6 = .ok (.iload 5, 2) := dq daX11_tried_16_0 5 rfl
theorem dX11_tried_8 : decode cX11_tried 8 = .ok (.invokevirtual 403, 3) := dq daX11_tried_16_0 6 rfl
theorem dX11_tried_11 : decode cX11_tried 11 = .ok (.ifCond .eq 14, 3) := dq daX11_tried_16_0 7 rfl
theorem dX11_tried_25 : decode cX11_tried 25 = .ok (.iconst (-1), 1) := dq daX11_tried_16_0 8 rfl
theorem dX11_tried_26 : decode cX11_tried 26 = .ok (.ireturn, 1) := dq daX11_tried_16_0 9 rfl
theorem dX11_tried_14 : decode cX11_tried 14 = .ok (.iload 6, 2) := dq daX11_tried_16_0 10 rfl
theorem dX11_tried_16 : decode cX11_tried 16 = .ok (.i2l, 1) := dq daX11_tried_16_0 11 rfl
theorem dX11_tried_17 : decode cX11_tried 17 = .ok (.lconst 0, 1) := dq daX11_tried_16_0 12 rfl
theorem dX11_tried_18 : decode cX11_tried 18 = .ok (.lconst 1, 1) := dq daX11_tried_16_0 13 rfl
theorem dX11_tried_19 : decode cX11_tried 19 = .ok (.invokestatic 118, 3) := dq daX11_tried_16_0 14 rfl
theorem dX11_tried_22 : decode cX11_tried 22 = .ok (.ifCond .ne 5, 3) := dq daX11_tried_16_0 15 rfl
theorem dX11_tried_27 : decode cX11_tried 27 = .ok (.aload_n 0, 1) := dq daX11_tried_16_0 16 rfl
theorem dX11_tried_28 : decode cX11_tried 28 = .ok (.aload_n 0, 1) := dq daX11_tried_16_0 17 rfl
theorem dX11_tried_29 : decode cX11_tried 29 = .ok (.getfield 39, 3) := dq daX11_tried_16_0 18 rfl
theorem dX11_tried_32 : decode cX11_tried 32 = .ok (.bipush 8, 2) := dq daX11_tried_16_0 19 rfl
theorem dX11_tried_34 : decode cX11_tried 34 = .ok (.iaload, 1) := dq daX11_tried_16_0 20 rfl
theorem dX11_tried_35 : decode cX11_tried 35 = .ok (.iload_n 3, 1) := dq daX11_tried_16_0 21 rfl
theorem dX11_tried_36 : decode cX11_tried 36 = .ok (.iload_n 2, 1) := dq daX11_tried_16_0 22 rfl
theorem dX11_tried_37 : decode cX11_tried 37 = .ok (.iload 4, 2) := dq daX11_tried_16_0 23 rfl
theorem dX11_tried_39 : decode cX11_tried 39 = .ok (.iload 5, 2) := dq daX11_tried_16_0 24 rfl
theorem dX11_tried_41 : decode cX11_tried 41 = .ok (.invokevirtual 407, 3) := dq daX11_tried_16_0 25 rfl
theorem dX11_tried_44 : decode cX11_tried 44 = .ok (.iconst 0, 1) := dq daX11_tried_16_0 26 rfl
theorem dX11_tried_45 : decode cX11_tried 45 = .ok (.istore 7, 2) := dq daX11_tried_16_0 27 rfl
theorem dX11_tried_47 : decode cX11_tried 47 = .ok (.iload 7, 2) := dq daX11_tried_16_0 28 rfl
theorem dX11_tried_49 : decode cX11_tried 49 = .ok (.aload_n 0, 1) := dq daX11_tried_16_0 29 rfl
theorem dX11_tried_50 : decode cX11_tried 50 = .ok (.getfield 39, 3) := dq daX11_tried_16_0 30 rfl
theorem dX11_tried_53 : decode cX11_tried 53 = .ok (.bipush 9, 2) := dq daX11_tried_16_0 31 rfl
def dtX11_tried_16_1 : List (Nat × Jvm.ClassFile.Instr × Nat) := [(55, .iaload, 1), (56, .if_icmp .ge 24, 3), (59, .aload_n 0, 1), (60, .iload_n 1, 1), (61, .aload_n 0, 1), (62, .getfield 39, 3), (65, .bipush 10, 2), (67, .iload 7, 2), (69, .iadd, 1), (70, .iaload, 1), (71, .invokevirtual 410, 3), (74, .iinc 7 1, 3), (77, .goto (-30), 3), (80, .iload 6, 2), (82, .ifCond .ne 10, 3), (92, .aload_n 0, 1), (93, .getfield 387, 3), (96, .iload_n 2, 1), (97, .isub, 1), (85, .aload_n 0, 1), (86, .getfield 384, 3), (89, .goto 9, 3), (98, .ireturn, 1)]
theorem daX11_tried_16_1 : dtX11_tried_16_1.all (dqd cX11_tried) = true := by decide +kernel
theorem dX11_tried_55 : decode cX11_tried 55 = .ok (.iaload, 1) := dq daX11_tried_16_1 0 rfl
theorem dX11_tried_56 : decode cX11_tried 56 = .ok (.if_icmp .ge 24, 3) := dq daX11_tried_16_1 1 rfl
theorem dX11_tried_59 : decode cX11_tried 59 = .ok (.aload_n 0, 1) := dq daX11_tried_16_1 2 rfl
theorem dX11_tried_60 : decode cX11_tried 60 = .ok (.iload_n 1, 1) := dq daX11_tried_16_1 3 rfl
theorem dX11_tried_61 : decode cX11_tried 61 = .ok (.aload_n 0, 1) := dq daX11_tried_16_1 4 rfl
theorem dX11_tried_62 : decode cX11_tried 62 = .ok (.getfield 39, 3) := dq daX11_tried_16_1 5 rfl
theorem dX11_tried_65 : decode cX11_tried 65 = .ok (.bipush 10, 2) := dq daX11_tried_16_1 6 rfl
theorem dX11_tried_67 : decode cX11_tried 67 = .ok (.iload 7, 2) := dq daX11_tried_16_1 7 rfl
theorem dX11_tried_69 : decode cX11_tried 69 = .ok (.iadd, 1) := dq daX11_tried_16_1 8 rfl
theorem dX11_tried_70 : decode cX11_tried 70 = .ok (.iaload, 1) := dq daX11_tried_16_1 9 rfl
theorem dX11_tried_71 : decode cX11_tried 71 = .ok (.invokevirtual 410, 3) := dq daX11_tried_16_1 10 rfl
theorem dX11_tried_74 : decode cX11_tried 74 = .ok (.iinc 7 1, 3) := dq daX11_tried_16_1 11 rfl
theorem dX11_tried_77 : decode cX11_tried 77 = .ok (.goto (-30), 3) := dq daX11_tried_16_1 12 rfl
theorem dX11_tried_80 : decode cX11_tried 80 = .ok (.iload 6, 2) := dq daX11_tried_16_1 13 rfl
theorem dX11_tried_82 : decode cX11_tried 82 = .ok (.ifCond .ne 10, 3) := dq daX11_tried_16_1 14 rfl
theorem dX11_tried_92 : decode cX11_tried 92 = .ok (.aload_n 0, 1) := dq daX11_tried_16_1 15 rfl
theorem dX11_tried_93 : decode cX11_tried 93 = .ok (.getfield 387, 3) := dq daX11_tried_16_1 16 rfl
theorem dX11_tried_96 : decode cX11_tried 96 = .ok (.iload_n 2, 1) := dq daX11_tried_16_1 17 rfl
theorem dX11_tried_97 : decode cX11_tried 97 = .ok (.isub, 1) := dq daX11_tried_16_1 18 rfl
theorem dX11_tried_85 : decode cX11_tried 85 = .ok (.aload_n 0, 1) := dq daX11_tried_16_1 19 rfl
theorem dX11_tried_86 : decode cX11_tried 86 = .ok (.getfield 384, 3) := dq daX11_tried_16_1 20 rfl
theorem dX11_tried_89 : decode cX11_tried 89 = .ok (.goto 9, 3) := dq daX11_tried_16_1 21 rfl
theorem dX11_tried_98 : decode cX11_tried 98 = .ok (.ireturn, 1) := dq daX11_tried_16_1 22 rfl
def dtX11_wasAt_16_0 : List (Nat × Jvm.ClassFile.Instr × Nat) := [(0, .iconst 0, 1), (1, .istore_n 3, 1), (2, .iload_n 3, 1), (3, .iload_n 2, 1), (4, .if_icmp .gt 21, 3), (7, .aload_n 0, 1), (8, .getfield 45, 3), (11, .iload_n 3, 1), (12, .iaload, 1), (13, .iload_n 1, 1), (14, .if_icmp .ne 5, 3), (19, .iinc 3 1, 3), (22, .goto (-20), 3), (17, .iconst 1, 1), (18, .ireturn, 1), (25, .iconst 0, 1), (26, .ireturn, 1)]
theorem daX11_wasAt_16_0 : dtX11_wasAt_16_0.all (dqd cX11_wasAt) = true := by decide +kernel
theorem dX11_wasAt_0 : decode cX11_wasAt 0 = .ok (.iconst 0, 1) := dq daX11_wasAt_16_0 0 rfl
theorem dX11_wasAt_1 : decode cX11_wasAt 1 = .ok (.istore_n 3, 1) := dq daX11_wasAt_16_0 1 rfl
theorem dX11_wasAt_2 : decode cX11_wasAt 2 = .ok (.iload_n 3, 1) := dq daX11_wasAt_16_0 2 rfl
theorem dX11_wasAt_3 : decode cX11_wasAt 3 = .ok (.iload_n 2, 1) := dq daX11_wasAt_16_0 3 rfl
theorem dX11_wasAt_4 : decode cX11_wasAt 4 = .ok (.if_icmp .gt 21, 3) := dq daX11_wasAt_16_0 4 rfl
theorem dX11_wasAt_7 : decode cX11_wasAt 7 = .ok (.aload_n 0, 1) := dq daX11_wasAt_16_0 5 rfl
theorem dX11_wasAt_8 : decode cX11_wasAt 8 = .ok (.getfield 45, 3) := dq daX11_wasAt_16_0 6 rfl
theorem dX11_wasAt_11 : decode cX11_wasAt 11 = .ok (.iload_n 3, 1) := dq daX11_wasAt_16_0 7 rfl
theorem dX11_wasAt_12 : decode cX11_wasAt 12 = .ok (.iaload, 1) := dq daX11_wasAt_16_0 8 rfl
theorem dX11_wasAt_13 : decode cX11_wasAt 13 = .ok (.iload_n 1, 1) := dq daX11_wasAt_16_0 9 rfl
theorem dX11_wasAt_14 : decode cX11_wasAt 14 = .ok (.if_icmp .ne 5, 3) := dq daX11_wasAt_16_0 10 rfl
theorem dX11_wasAt_19 : decode cX11_wasAt 19 = .ok (.iinc 3 1, 3) := dq daX11_wasAt_16_0 11 rfl
theorem dX11_wasAt_22 : decode cX11_wasAt 22 = .ok (.goto (-20), 3) := dq daX11_wasAt_16_0 12 rfl
theorem dX11_wasAt_17 : decode cX11_wasAt 17 = .ok (.iconst 1, 1) := dq daX11_wasAt_16_0 13 rfl
theorem dX11_wasAt_18 : decode cX11_wasAt 18 = .ok (.ireturn, 1) := dq daX11_wasAt_16_0 14 rfl
theorem dX11_wasAt_25 : decode cX11_wasAt 25 = .ok (.iconst 0, 1) := dq daX11_wasAt_16_0 15 rfl
theorem dX11_wasAt_26 : decode cX11_wasAt 26 = .ok (.ireturn, 1) := dq daX11_wasAt_16_0 16 rfl
