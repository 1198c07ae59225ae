theorem kX11_four_1 {a : Array Value} {s : State} (hts : ∀ w ∈ wsX11_four, w.before a s = true) : (.fieldLink RX11 7 "SnowMulesModel" "tape" "[B" : Cond).before a s = true := kw (A := ixX11_four) wt143 hts (by decide +kernel)
theorem kX11_four_2 {a : Array Value} {s : State} (hts : ∀ w ∈ wsX11_four, w.before a s = true) : (.fieldLink RX11 79 "SnowMulesModel" "taped" "I" : Cond).before a s = true := kw (A := ixX11_four) wt264 hts (by decide +kernel)
theorem kX11_feed_1 {a : Array Value} {s : State} (hts : ∀ w ∈ wsX11_feed, w.before a s = true) : (.fieldLink RX11 79 "SnowMulesModel" "taped" "I" : Cond).before a s = true := kw (A := ixX11_feed) wt264 hts (by decide +kernel)
theorem kX11_end_1 {a : Array Value} {s : State} (hts : ∀ w ∈ wsX11_end, w.before a s = true) : (.fieldLink RX11 79 "SnowMulesModel" "taped" "I" : Cond).before a s = true := kw (A := ixX11_end) wt264 hts (by decide +kernel)
theorem kX11_fails_1 {a : Array Value} {s : State} (hts : ∀ w ∈ wsX11_fails, w.before a s = true) : (.fieldLink RX11 87 "SnowMulesModel" "wrong" "I" : Cond).before a s = true := kw (A := ixX11_fails) wt462 hts (by decide +kernel)
theorem iX11_four_X11 : ∀ w ∈ wsX110, w ∈ wsX11_four := inW (A := ixX11_four) uwX11 (by decide +kernel)
theorem iX11_feed_X11 : ∀ w ∈ wsX110, w ∈ wsX11_feed := inW (A := ixX11_feed) uwX11 (by decide +kernel)
theorem iX11_end_X11 : ∀ w ∈ wsX110, w ∈ wsX11_end := inW (A := ixX11_end) uwX11 (by decide +kernel)
theorem iX11_fails_X11 : ∀ w ∈ wsX110, w ∈ wsX11_fails := inW (A := ixX11_fails) uwX11 (by decide +kernel)
theorem hdX11_four : yX11_four.cls ≠ "java/lang/invoke/MethodHandle" ∧ yX11_four.cls ≠ "java/lang/invoke/VarHandle" ∧ (parseMethodDescriptor yX11_four.desc).map (fun d => d.parameters.length) = some 1 := ⟨hdc_0.1, hdc_0.2, hdd_17⟩
def dtX11_four_24_0 : List (Nat × Jvm.ClassFile.Instr × Nat) := [(0, .bipush 24, 2), (2, .istore_n 2, 1), (3, .iload_n 2, 1), (4, .ifCond .lt 32, 3), (7, .aload_n 0, 1), (8, .getfield 7, 3), (11, .aload_n 0, 1), (12, .getfield 79, 3), (15, .iload_n 1, 1), (16, .iload_n 2, 1), (17, .ishr, 1), (18, .i2b, 1), (19, .bastore, 1), (20, .aload_n 0, 1), (21, .dup, 1), (22, .getfield 79, 3), (25, .iconst 1, 1), (26, .iadd, 1), (27, .putfield 79, 3), (30, .iinc 2 (-8), 3), (33, .goto (-30), 3), (36, .return_, 1)]
theorem daX11_four_24_0 : dtX11_four_24_0.all (dqd cX11_four) = true := by decide +kernel
theorem dX11_four_0 : decode cX11_four 0 = .ok (.bipush 24, 2) := dq daX11_four_24_0 0 rfl
theorem dX11_four_2 : decode cX11_four 2 = .ok (.istore_n 2, 1) := dq daX11_four_24_0 1 rfl
theorem dX11_four_3 : decode cX11_four 3 = .ok (.iload_n 2, 1) := dq daX11_four_24_0 2 rfl
theorem dX11_four_4 : decode cX11_four 4 = .ok (.ifCond .lt 32, 3) := dq daX11_four_24_0 3 rfl
theorem dX11_four_7 : decode cX11_four 7 = .ok (.aload_n 0, 1) := dq daX11_four_24_0 4 rfl
theorem dX11_four_8 : decode cX11_four 8 = .ok (.getfield 7, 3) := dq daX11_four_24_0 5 rfl
theorem dX11_four_11 : decode cX11_four 11 = .ok (.aload_n 0, 1) := dq daX11_four_24_0 6 rfl
theorem dX11_four_12 : decode cX11_four 12 = .ok (.getfield 79, 3) := dq daX11_four_24_0 7 rfl
theorem dX11_four_15 : decode cX11_four 15 = .ok (.iload_n 1, 1) := dq daX11_four_24_0 8 rfl
theorem dX11_four_16 : decode cX11_four 16 = .ok (.iload_n 2, 1) := dq daX11_four_24_0 9 rfl
theorem dX11_four_17 : decode cX11_four 17 = .ok (.ishr, 1) := dq daX11_four_24_0 10 rfl
theorem dX11_four_18 : decode cX11_four 18 = .ok (.i2b, 1) := dq daX11_four_24_0 11 rfl
theorem dX11_four_19 : decode cX11_four 19 = .ok (.bastore, 1) := dq daX11_four_24_0 12 rfl
theorem dX11_four_20 : decode cX11_four 20 = .ok (.aload_n 0, 1) := dq daX11_four_24_0 13 rfl
theorem dX11_four_21 : decode cX11_four 21 = .ok (.dup, 1) := dq daX11_four_24_0 14 rfl
theorem dX11_four_22 : decode cX11_four 22 = .ok (.getfield 79, 3) := dq daX11_four_24_0 15 rfl
theorem dX11_four_25 : decode cX11_four 25 = .ok (.iconst 1, 1) := dq daX11_four_24_0 16 rfl
theorem dX11_four_26 : decode cX11_four 26 = .ok (.iadd, 1) := dq daX11_four_24_0 17 rfl
theorem dX11_four_27 : decode cX11_four 27 = .ok (.putfield 79, 3) := dq daX11_four_24_0 18 rfl
theorem dX11_four_30 : decode cX11_four 30 = .ok (.iinc 2 (-8), 3) := dq daX11_four_24_0 19 rfl
theorem dX11_four_33 : decode cX11_four 33 = .ok (.goto (-30), 3) := dq daX11_four_24_0 20 rfl
theorem dX11_four_36 : decode cX11_four 36 = .ok (.return_, 1) := dq daX11_four_24_0 21 rfl
def dtX11_feed_24_0 : List (Nat × Jvm.ClassFile.Instr × Nat) := [(0, .aload_n 0, 1), (1, .getfield 79, 3), (4, .bipush 20, 2), (6, .iadd, 1), (7, .sipush 400, 3), (10, .if_icmp .le 5, 3), (15, .aload_n 0, 1), (16, .iload_n 1, 1), (17, .invokevirtual 83, 3), (20, .aload_n 0, 1), (21, .iload_n 2, 1), (22, .invokevirtual 83, 3), (25, .aload_n 0, 1), (26, .iload_n 3, 1), (27, .invokevirtual 83, 3), (30, .aload_n 0, 1), (31, .iload 4, 2), (33, .invokevirtual 83, 3), (36, .aload_n 0, 1), (37, .iload 5, 2), (39, .invokevirtual 83, 3), (42, .aload_n 0, 1), (43, .getfield 79, 3), (13, .iconst (-1), 1), (14, .ireturn, 1), (46, .ireturn, 1)]
theorem daX11_feed_24_0 : dtX11_feed_24_0.all (dqd cX11_feed) = true := by decide +kernel
theorem dX11_feed_0 : decode cX11_feed 0 = .ok (.aload_n 0, 1) := dq daX11_feed_24_0 0 rfl
theorem dX11_feed_1 : decode cX11_feed 1 = .ok (.getfield 79, 3) := dq daX11_feed_24_0 1 rfl
theorem dX11_feed_4 : decode cX11_feed 4 = .ok (.bipush 20, 2) := dq daX11_feed_24_0 2 rfl
theorem dX11_feed_6 : decode cX11_feed 6 = .ok (.iadd, 1) := dq daX11_feed_24_0 3 rfl
theorem dX11_feed_7 : decode cX11_feed 7 = .ok (.sipush 400, 3) := dq daX11_feed_24_0 4 rfl
theorem dX11_feed_10 : decode cX11_feed 10 = .ok (.if_icmp .le 5, 3) := dq daX11_feed_24_0 5 rfl
theorem dX11_feed_15 : decode cX11_feed 15 = .ok (.aload_n 0, 1) := dq daX11_feed_24_0 6 rfl
theorem dX11_feed_16 : decode cX11_feed 16 = .ok (.iload_n 1, 1) := dq daX11_feed_24_0 7 rfl
theorem dX11_feed_17 : decode cX11_feed 17 = .ok (.invokevirtual 83, 3) := dq daX11_feed_24_0 8 rfl
theorem dX11_feed_20 : decode cX11_feed 20 = .ok (.aload_n 0, 1) := dq daX11_feed_24_0 9 rfl
theorem dX11_feed_21 : decode cX11_feed 21 = .ok (.iload_n 2, 1) := dq daX11_feed_24_0 10 rfl
theorem dX11_feed_22 : decode cX11_feed 22 = .ok (.invokevirtual 83, 3) := dq daX11_feed_24_0 11 rfl
theorem dX11_feed_25 : decode cX11_feed 25 = .ok (.aload_n 0, 1) := dq daX11_feed_24_0 12 rfl
theorem dX11_feed_26 : decode cX11_feed 26 = .ok (.iload_n 3, 1) := dq daX11_feed_24_0 13 rfl
theorem dX11_feed_27 : decode cX11_feed 27 = .ok (.invokevirtual 83, 3) := dq daX11_feed_24_0 14 rfl
theorem dX11_feed_30 : decode cX11_feed 30 = .ok (.aload_n 0, 1) := dq daX11_feed_24_0 15 rfl
theorem dX11_feed_31 : decode cX11_feed 31 = .ok (.iload 4, 2) := dq daX11_feed_24_0 16 rfl
theorem dX11_feed_33 : decode cX11_feed 33 = .ok (.invokevirtual 83, 3) := dq daX11_feed_24_0 17 rfl
theorem dX11_feed_36 : decode cX11_feed 36 = .ok (.aload_n 0, 1) := dq daX11_feed_24_0 18 rfl
theorem dX11_feed_37 : decode cX11_feed 37 = .ok (.iload 5, 2) := dq daX11_feed_24_0 19 rfl
theorem dX11_feed_39 : decode cX11_feed 39 = .ok (.invokevirtual 83, 3) := dq daX11_feed_24_0 20 rfl
theorem dX11_feed_42 : decode cX11_feed 42 = .ok (.aload_n 0, 1) := dq daX11_feed_24_0 21 rfl
theorem dX11_feed_43 : decode cX11_feed 43 = .ok (.getfield 79, 3) := dq daX11_feed_24_0 22 rfl
theorem dX11_feed_13 : decode cX11_feed 13 = .ok (.iconst (-1), 1) := dq daX11_feed_24_0 23 rfl
theorem dX11_feed_14 : decode cX11_feed 14 = .ok (.ireturn, 1) := dq daX11_feed_24_0 24 rfl
theorem dX11_feed_46 : decode cX11_feed 46 = .ok (.ireturn, 1) := dq daX11_feed_24_0 25 rfl
def dtX11_end_24_0 : List (Nat × Jvm.ClassFile.Instr × Nat) := [(0, .iload_n 1, 1), (1, .ifCond .lt 11, 3), (12, .iconst (-1), 1), (13, .ireturn, 1), (4, .iload_n 1, 1), (5, .aload_n 0, 1), (6, .getfield 79, 3), (9, .if_icmp .le 5, 3), (14, .aload_n 0, 1), (15, .iload_n 1, 1), (16, .putfield 79, 3), (19, .iload_n 1, 1), (20, .ireturn, 1)]
theorem daX11_end_24_0 : dtX11_end_24_0.all (dqd cX11_end) = true := by decide +kernel
theorem dX11_end_0 : decode cX11_end 0 = .ok (.iload_n 1, 1) := dq daX11_end_24_0 0 rfl
theorem dX11_end_1 : decode cX11_end 1 = .ok (.ifCond .lt 11, 3) := dq daX11_end_24_0 1 rfl
theorem dX11_end_12 : decode cX11_end 12 = .ok (.iconst (-1), 1) := dq daX11_end_24_0 2 rfl
theorem dX11_end_13 : decode cX11_end 13 = .ok (.ireturn, 1) := dq daX11_end_24_0 3 rfl
theorem dX11_end_4 : decode cX11_end 4 = .ok (.iload_n 1, 1) := dq daX11_end_24_0 4 rfl
theorem dX11_end_5 : decode cX11_end 5 = .ok (.aload_n 0, 1) := dq daX11_end_24_0 5 rfl
theorem dX11_end_6 : decode cX11_end 6 = .ok (.getfield 79, 3) := dq daX11_end_24_0 6 rfl
theorem dX11_end_9 : decode cX11_end 9 = .ok (.if_icmp .le 5, 3) := dq daX11_end_24_0 7 rfl
theorem dX11_end_14 : decode cX11_end 14 = .ok (.aload_n 0, 1) := dq daX11_end_24_0 8 rfl
theorem dX11_end_15 : decode cX11_end 15 = .ok (.iload_n 1, 1) := dq daX11_end_24_0 9 rfl
theorem dX11_end_16 : decode cX11_end 16 = .ok (.putfield 79, 3) := dq daX11_end_24_0 10 rfl
theorem dX11_end_19 : decode cX11_end 19 = .ok (.iload_n 1, 1) := dq daX11_end_24_0 11 rfl
theorem dX11_end_20 : decode cX11_end 20 = .ok (.ireturn, 1) := dq daX11_end_24_0 12 rfl
def dtX11_fails_24_0 : List (Nat × Jvm.ClassFile.Instr × Nat) := [(0, .aload_n 0, 1), (1, .getfield 87, 3), (4, .ifCond .ne 15, 3), (19, .iconst 0, 1), (20, .ireturn, 1), (7, .aload_n 0, 1), (8, .iconst 1, 1), (9, .bipush 8, 2), (11, .iload_n 2, 1), (12, .imul, 1), (13, .iadd, 1), (14, .iload_n 1, 1), (15, .iadd, 1), (16, .putfield 87, 3)]
theorem daX11_fails_24_0 : dtX11_fails_24_0.all (dqd cX11_fails) = true := by decide +kernel
theorem dX11_fails_0 : decode cX11_fails 0 = .ok (.aload_n 0, 1) := dq daX11_fails_24_0 0 rfl
theorem dX11_fails_1 : decode cX11_fails 1 = .ok (.getfield 87, 3) := dq daX11_fails_24_0 1 rfl
theorem dX11_fails_4 : decode cX11_fails 4 = .ok (.ifCond .ne 15, 3) := dq daX11_fails_24_0 2 rfl
theorem dX11_fails_19 : decode cX11_fails 19 = .ok (.iconst 0, 1) := dq daX11_fails_24_0 3 rfl
theorem dX11_fails_20 : decode cX11_fails 20 = .ok (.ireturn, 1) := dq daX11_fails_24_0 4 rfl
theorem dX11_fails_7 : decode cX11_fails 7 = .ok (.aload_n 0, 1) := dq daX11_fails_24_0 5 rfl
theorem dX11_fails_8 : decode cX11_fails 8 = .ok (.iconst 1, 1) := dq daX11_fails_24_0 6 rfl
theorem dX11_fails_9 : decode cX11_fails 9 = .ok (.bipush 8, 2) := dq daX11_fails_24_0 7 rfl
theorem dX11_fails_11 : decode cX11_fails 11 = .ok (.iload_n 2, 1) := dq daX11_fails_24_0 8 rfl
theorem dX11_fails_12 : decode cX11_fails 12 = .ok (.imul, 1) := dq daX11_fails_24_0 9 rfl
theorem dX11_fails_13 : decode cX11_fails 13 = .ok (.iadd, 1) := dq daX11_fails_24_0 10 rfl
theorem dX11_fails_14 : decode cX11_fails 14 = .ok (.iload_n 1, 1) := dq daX11_fails_24_0 11 rfl
theorem dX11_fails_15 : decode cX11_fails 15 = .ok (.iadd, 1) := dq daX11_fails_24_0 12 rfl
theorem dX11_fails_16 : decode cX11_fails 16 = .ok (.putfield 87, 3) := dq daX11_fails_24_0 13 rfl
