theorem kX11_sets_1 {a : Array Value} {s : State} (hts : ∀ w ∈ wsX11_sets, w.before a s = true) : (.fieldLink RX11 381 "SnowMulesModel" "goNode" "I" : Cond).before a s = true := kw (A := ixX11_sets) wt1008 hts (by decide +kernel)
theorem kX11_sets_2 {a : Array Value} {s : State} (hts : ∀ w ∈ wsX11_sets, w.before a s = true) : (.fieldLink RX11 384 "SnowMulesModel" "goDrops" "I" : Cond).before a s = true := kw (A := ixX11_sets) wt995 hts (by decide +kernel)
theorem kX11_sets_3 {a : Array Value} {s : State} (hts : ∀ w ∈ wsX11_sets, w.before a s = true) : (.fieldLink RX11 387 "SnowMulesModel" "goHour" "I" : Cond).before a s = true := kw (A := ixX11_sets) wt996 hts (by decide +kernel)
theorem kX11_sets_4 {a : Array Value} {s : State} (hts : ∀ w ∈ wsX11_sets, w.before a s = true) : (.fieldLink RX11 390 "SnowMulesModel" "goFelt" "I" : Cond).before a s = true := kw (A := ixX11_sets) wt1009 hts (by decide +kernel)
theorem kX11_sets_5 {a : Array Value} {s : State} (hts : ∀ w ∈ wsX11_sets, w.before a s = true) : (.fieldLink RX11 393 "SnowMulesModel" "goSalt" "I" : Cond).before a s = true := kw (A := ixX11_sets) wt1010 hts (by decide +kernel)
theorem kX11_sets_6 {a : Array Value} {s : State} (hts : ∀ w ∈ wsX11_sets, w.before a s = true) : (.fieldLink RX11 396 "SnowMulesModel" "goMore" "I" : Cond).before a s = true := kw (A := ixX11_sets) wt1011 hts (by decide +kernel)
theorem kX11_isJarLike_1 {a : Array Value} {s : State} (hts : ∀ w ∈ wsX11_isJarLike, w.before a s = true) : (.constantLong RX11 289 (99999) : Cond).before a s = true := kw (A := ixX11_isJarLike) wt612 hts (by decide +kernel)
theorem kX11_isJarLike_2 {a : Array Value} {s : State} (hts : ∀ w ∈ wsX11_isJarLike, w.before a s = true) : (.constantLong RX11 265 (9) : Cond).before a s = true := kw (A := ixX11_isJarLike) wt190 hts (by decide +kernel)
theorem kX11_canTry_1 {a : Array Value} {s : State} (hts : ∀ w ∈ wsX11_canTry, w.before a s = true) : (.fieldLink RX11 39 "SnowMulesModel" "said" "[I" : Cond).before a s = true := kw (A := ixX11_canTry) wt153 hts (by decide +kernel)
theorem kX11_canTry_2 {a : Array Value} {s : State} (hts : ∀ w ∈ wsX11_canTry, w.before a s = true) : (.constantLong RX11 289 (99999) : Cond).before a s = true := kw (A := ixX11_canTry) wt612 hts (by decide +kernel)
theorem iX11_sets_X11 : ∀ w ∈ wsX110, w ∈ wsX11_sets := inW (A := ixX11_sets) uwX11 (by decide +kernel)
theorem iX11_canTry_X11 : ∀ w ∈ wsX110, w ∈ wsX11_canTry := inW (A := ixX11_canTry) uwX11 (by decide +kernel)
theorem hdX11_isLaw : yX11_isLaw.cls ≠ "java/lang/invoke/MethodHandle" ∧ yX11_isLaw.cls ≠ "java/lang/invoke/VarHandle" ∧ (parseMethodDescriptor yX11_isLaw.desc).map (fun d => d.parameters.length) = some 1 := ⟨hdc_0.1, hdc_0.2, hdd_1⟩
theorem hdX11_isJarLike : yX11_isJarLike.cls ≠ "java/lang/invoke/MethodHandle" ∧ yX11_isJarLike.cls ≠ "java/lang/invoke/VarHandle" ∧ (parseMethodDescriptor yX11_isJarLike.desc).map (fun d => d.parameters.length) = some 3 := ⟨hdc_0.1, hdc_0.2, hdd_7⟩
def dtX11_sets_132_0 : List (Nat × Jvm.ClassFile.Instr × Nat) := [(0, .aload_n 0, 1), (1, .iload_n 1, 1), (2, .putfield 381, 3), (5, .aload_n 0, 1), (6, .iload_n 2, 1), (7, .putfield 384, 3), (10, .aload_n 0, 1), (11, .iload_n 3, 1), (12, .putfield 387, 3), (15, .aload_n 0, 1), (16, .iload 4, 2), (18, .putfield 390, 3), (21, .aload_n 0, 1), (22, .iload 5, 2), (24, .putfield 393, 3), (27, .aload_n 0, 1), (28, .iconst 0, 1), (29, .putfield 396, 3), (32, .return_, 1)]
theorem daX11_sets_132_0 : dtX11_sets_132_0.all (dqd cX11_sets) = true := by decide +kernel
theorem dX11_sets_0 : decode cX11_sets 0 = .ok (.aload_n 0, 1) := dq daX11_sets_132_0 0 rfl
theorem dX11_sets_1 : decode cX11_sets 1 = .ok (.iload_n 1, 1) := dq daX11_sets_132_0 1 rfl
theorem dX11_sets_2 : decode cX11_sets 2 = .ok (.putfield 381, 3) := dq daX11_sets_132_0 2 rfl
theorem dX11_sets_5 : decode cX11_sets 5 = .ok (.aload_n 0, 1) := dq daX11_sets_132_0 3 rfl
theorem dX11_sets_6 : decode cX11_sets 6 = .ok (.iload_n 2, 1) := dq daX11_sets_132_0 4 rfl
theorem dX11_sets_7 : decode cX11_sets 7 = .ok (.putfield 384, 3) := dq daX11_sets_132_0 5 rfl
theorem dX11_sets_10 : decode cX11_sets 10 = .ok (.aload_n 0, 1) := dq daX11_sets_132_0 6 rfl
theorem dX11_sets_11 : decode cX11_sets 11 = .ok (.iload_n 3, 1) := dq daX11_sets_132_0 7 rfl
theorem dX11_sets_12 : decode cX11_sets 12 = .ok (.putfield 387, 3) := dq daX11_sets_132_0 8 rfl
theorem dX11_sets_15 : decode cX11_sets 15 = .ok (.aload_n 0, 1) := dq daX11_sets_132_0 9 rfl
theorem dX11_sets_16 : decode cX11_sets 16 = .ok (.iload 4, 2) := dq daX11_sets_132_0 10 rfl
theorem dX11_sets_18 : decode cX11_sets 18 = .ok (.putfield 390, 3) := dq daX11_sets_132_0 11 rfl
theorem dX11_sets_21 : decode cX11_sets 21 = .ok (.aload_n 0, 1) := dq daX11_sets_132_0 12 rfl
theorem dX11_sets_22 : decode cX11_sets 22 = .ok (.iload 5, 2) := dq daX11_sets_132_0 13 rfl
theorem dX11_sets_24 : decode cX11_sets 24 = .ok (.putfield 393, 3) := dq daX11_sets_132_0 14 rfl
theorem dX11_sets_27 : decode cX11_sets 27 = .ok (.aload_n 0, 1) := dq daX11_sets_132_0 15 rfl
theorem dX11_sets_28 : decode cX11_sets 28 = .ok (.iconst 0, 1) := dq daX11_sets_132_0 16 rfl
theorem dX11_sets_29 : decode cX11_sets 29 = .ok (.putfield 396, 3) := dq daX11_sets_132_0 17 rfl
theorem dX11_sets_32 : decode cX11_sets 32 = .ok (.return_, 1) := dq daX11_sets_132_0 18 rfl
def dtX11_isJarLike_132_0 : List (Nat × Jvm.ClassFile.Instr × Nat) := [(0, .iload_n 0, 1), (1, .i2l, 1), (2, .lconst 0, 1), (3, .ldc2_w 289, 3), (6, .invokestatic 118, 3), (9, .ifCond .eq 31, 3), (40, .iconst 0, 1), (41, .ireturn, 1), (12, .iload_n 1, 1), (13, .i2l, 1), (14, .lconst 0, 1), (15, .ldc2_w 265, 3), (18, .invokestatic 118, 3), (21, .ifCond .eq 19, 3), (24, .iload_n 2, 1), (25, .i2l, 1), (26, .lconst 0, 1), (27, .ldc2_w 265, 3), (30, .invokestatic 118, 3), (33, .ifCond .eq 7, 3), (36, .iconst 1, 1), (37, .goto 4, 3)]
theorem daX11_isJarLike_132_0 : dtX11_isJarLike_132_0.all (dqd cX11_isJarLike) = true := by decide +kernel
theorem dX11_isJarLike_0 : decode cX11_isJarLike 0 = .ok (.iload_n 0, 1) := dq daX11_isJarLike_132_0 0 rfl
theorem dX11_isJarLike_1 : decode cX11_isJarLike 1 = .ok (.i2l, 1) := dq daX11_isJarLike_132_0 1 rfl
theorem dX11_isJarLike_2 : decode cX11_isJarLike 2 = .ok (.lconst 0, 1) := dq daX11_isJarLike_132_0 2 rfl
theorem dX11_isJarLike_3 : decode cX11_isJarLike 3 = .ok (.ldc2_w 289, 3) := dq daX11_isJarLike_132_0 3 rfl
theorem dX11_isJarLike_6 : decode cX11_isJarLike 6 = .ok (.invokestatic 118, 3) := dq daX11_isJarLike_132_0 4 rfl
theorem dX11_isJarLike_9 : decode cX11_isJarLike 9 = .ok (.ifCond .eq 31, 3) := dq daX11_isJarLike_132_0 5 rfl
theorem dX11_isJarLike_40 : decode cX11_isJarLike 40 = .ok (.iconst 0, 1) := dq daX11_isJarLike_132_0 6 rfl
theorem dX11_isJarLike_41 : decode cX11_isJarLike 41 = .ok (.ireturn, 1) := dq daX11_isJarLike_132_0 7 rfl
theorem dX11_isJarLike_12 : decode cX11_isJarLike 12 = .ok (.iload_n 1, 1) := dq daX11_isJarLike_132_0 8 rfl
theorem dX11_isJarLike_13 : decode cX11_isJarLike 13 = .ok (.i2l, 1) := dq daX11_isJarLike_132_0 9 rfl
theorem dX11_isJarLike_14 : decode cX11_isJarLike 14 = .ok (.lconst 0, 1) := dq daX11_isJarLike_132_0 10 rfl
theorem dX11_isJarLike_15 : decode cX11_isJarLike 15 = .ok (.ldc2_w 265, 3) := dq daX11_isJarLike_132_0 11 rfl
theorem dX11_isJarLike_18 : decode cX11_isJarLike 18 = .ok (.invokestatic 118, 3) := dq daX11_isJarLike_132_0 12 rfl
theorem dX11_isJarLike_21 : decode cX11_isJarLike 21 = .ok (.ifCond .eq 19, 3) := dq daX11_isJarLike_132_0 13 rfl
theorem dX11_isJarLike_24 : decode cX11_isJarLike 24 = .ok (.iload_n 2, 1) := dq daX11_isJarLike_132_0 14 rfl
theorem dX11_isJarLike_25 : decode cX11_isJarLike 25 = .ok (.i2l, 1) := dq daX11_isJarLike_132_0 15 rfl
theorem dX11_isJarLike_26 : decode cX11_isJarLike 26 = .ok (.lconst 0, 1) := dq daX11_isJarLike_132_0 16 rfl
theorem dX11_isJarLike_27 : decode cX11_isJarLike 27 = .ok (.ldc2_w 265, 3) := dq daX11_isJarLike_132_0 17 rfl
theorem dX11_isJarLike_30 : decode cX11_isJarLike 30 = .ok (.invokestatic 118, 3) := dq daX11_isJarLike_132_0 18 rfl
theorem dX11_isJarLike_33 : decode cX11_isJarLike 33 = .ok (.ifCond .eq 7, 3) := dq daX11_isJarLike_132_0 19 rfl
theorem dX11_isJarLike_36 : decode cX11_isJarLike 36 = .ok (.iconst 1, 1) := dq daX11_isJarLike_132_0 20 rfl
theorem dX11_isJarLike_37 : decode cX11_isJarLike 37 = .ok (.goto 4, 3) := dq daX11_isJarLike_132_0 21 rfl
def dtX11_canTry_132_0 : List (Nat × Jvm.ClassFile.Instr × Nat) := [(0, .aload_n 0, 1), (1, .iload_n 1, 1), (2, .invokevirtual 363, 3), (5, .ifCond .eq 40, 3), (45, .iconst 0, 1), (46, .ireturn, 1), (8, .aload_n 0, 1), (9, .getfield 39, 3), (12, .bipush 8, 2), (14, .iaload, 1), (15, .ifCond .lt 30, 3), (18, .iload_n 2, 1), (19, .i2l, 1), (20, .lconst 0, 1), (21, .ldc2_w 289, 3), (24, .invokestatic 118, 3), (27, .ifCond .eq 18, 3), (30, .iload_n 3, 1), (31, .iload 4, 2), (33, .iload 5, 2), (35, .invokestatic 399, 3), (38, .ifCond .eq 7, 3), (41, .iconst 1, 1), (42, .goto 4, 3)]
theorem daX11_canTry_132_0 : dtX11_canTry_132_0.all (dqd cX11_canTry) = true := by decide +kernel
theorem dX11_canTry_0 : decode cX11_canTry 0 = .ok (.aload_n 0, 1) := dq daX11_canTry_132_0 0 rfl
theorem dX11_canTry_1 : decode cX11_canTry 1 = .ok (.iload_n 1, 1) := dq daX11_canTry_132_0 1 rfl
theorem dX11_canTry_2 : decode cX11_canTry 2 = .ok (.invokevirtual 363, 3) := dq daX11_canTry_132_0 2 rfl
theorem dX11_canTry_5 : decode cX11_canTry 5 = .ok (.ifCond .eq 40, 3) := dq daX11_canTry_132_0 3 rfl
theorem dX11_canTry_45 : decode cX11_canTry 45 = .ok (.iconst 0, 1) := dq daX11_canTry_132_0 4 rfl
theorem dX11_canTry_46 : decode cX11_canTry 46 = .ok (.ireturn, 1) := dq daX11_canTry_132_0 5 rfl
theorem dX11_canTry_8 : decode cX11_canTry 8 = .ok (.aload_n 0, 1) := dq daX11_canTry_132_0 6 rfl
theorem dX11_canTry_9 : decode cX11_canTry 9 = .ok (.getfield 39, 3) := dq daX11_canTry_132_0 7 rfl
theorem dX11_canTry_12 : decode cX11_canTry 12 = .ok (.bipush 8, 2) := dq daX11_canTry_132_0 8 rfl
theorem dX11_canTry_14 : decode cX11_canTry 14 = .ok (.iaload, 1) := dq daX11_canTry_132_0 9 rfl
theorem dX11_canTry_15 : decode cX11_canTry 15 = .ok (.ifCond .lt 30, 3) := dq daX11_canTry_132_0 10 rfl
theorem dX11_canTry_18 : decode cX11_canTry 18 = .ok (.iload_n 2, 1) := dq daX11_canTry_132_0 11 rfl
theorem dX11_canTry_19 : decode cX11_canTry 19 = .ok (.i2l, 1) := dq daX11_canTry_132_0 12 rfl
theorem dX11_canTry_20 : decode cX11_canTry 20 = .ok (.lconst 0, 1) := dq daX11_canTry_132_0 13 rfl
theorem dX11_canTry_21 : decode cX11_canTry 21 = .ok (.ldc2_w 289, 3) := dq daX11_canTry_132_0 14 rfl
theorem dX11_canTry_24 : decode cX11_canTry 24 = .ok (.invokestatic 118, 3) := dq daX11_canTry_132_0 15 rfl
theorem dX11_canTry_27 : decode cX11_canTry 27 = .ok (.ifCond .eq 18, 3) := dq daX11_canTry_132_0 16 rfl
theorem dX11_canTry_30 : decode cX11_canTry 30 = .ok (.iload_n 3, 1) := dq daX11_canTry_132_0 17 rfl
theorem dX11_canTry_31 : decode cX11_canTry 31 = .ok (.iload 4, 2) := dq daX11_canTry_132_0 18 rfl
theorem dX11_canTry_33 : decode cX11_canTry 33 = .ok (.iload 5, 2) := dq daX11_canTry_132_0 19 rfl
theorem dX11_canTry_35 : decode cX11_canTry 35 = .ok (.invokestatic 399, 3) := dq daX11_canTry_132_0 20 rfl
theorem dX11_canTry_38 : decode cX11_canTry 38 = .ok (.ifCond .eq 7, 3) := dq daX11_canTry_132_0 21 rfl
theorem dX11_canTry_41 : decode cX11_canTry 41 = .ok (.iconst 1, 1) := dq daX11_canTry_132_0 22 rfl
theorem dX11_canTry_42 : decode cX11_canTry 42 = .ok (.goto 4, 3) := dq daX11_canTry_132_0 23 rfl
