theorem kX11_makes_1 {a : Array Value} {s : State} (hts : ∀ w ∈ wsX11_makes, w.before a s = true) : (.fieldLink RX11 147 "SnowMulesModel" "made" "I" : Cond).before a s = true := kw (A := ixX11_makes) wt463 hts (by decide +kernel)
theorem kX11_puts_1 {a : Array Value} {s : State} (hts : ∀ w ∈ wsX11_puts, w.before a s = true) : (.fieldLink RX11 13 "SnowMulesModel" "sign" "[I" : Cond).before a s = true := kw (A := ixX11_puts) wt144 hts (by decide +kernel)
theorem kX11_puts_2 {a : Array Value} {s : State} (hts : ∀ w ∈ wsX11_puts, w.before a s = true) : (.fieldLink RX11 144 "SnowMulesModel" "text" "I" : Cond).before a s = true := kw (A := ixX11_puts) wt459 hts (by decide +kernel)
theorem kX11_puts_3 {a : Array Value} {s : State} (hts : ∀ w ∈ wsX11_puts, w.before a s = true) : (.fieldLink RX11 17 "SnowMulesModel" "length" "[I" : Cond).before a s = true := kw (A := ixX11_puts) wt145 hts (by decide +kernel)
theorem kX11_opens_1 {a : Array Value} {s : State} (hts : ∀ w ∈ wsX11_opens, w.before a s = true) : (.fieldLink RX11 150 "SnowMulesModel" "deep" "I" : Cond).before a s = true := kw (A := ixX11_opens) wt552 hts (by decide +kernel)
theorem kX11_opens_3 {a : Array Value} {s : State} (hts : ∀ w ∈ wsX11_opens, w.before a s = true) : (.fieldLink RX11 29 "SnowMulesModel" "open" "[I" : Cond).before a s = true := kw (A := ixX11_opens) wt149 hts (by decide +kernel)
theorem kX11_opens_4 {a : Array Value} {s : State} (hts : ∀ w ∈ wsX11_opens, w.before a s = true) : (.fieldLink RX11 153 "SnowMulesModel" "opened" "I" : Cond).before a s = true := kw (A := ixX11_opens) wt551 hts (by decide +kernel)
theorem kX11_opens_2 {a : Array Value} {s : State} (hts : ∀ w ∈ wsX11_opens, w.before a s = true) : (.fieldLink RX11 90 "SnowMulesModel" "next" "I" : Cond).before a s = true := kw (A := ixX11_opens) wt461 hts (by decide +kernel)
theorem kX11_isInside_1 {a : Array Value} {s : State} (hts : ∀ w ∈ wsX11_isInside, w.before a s = true) : (.fieldLink RX11 153 "SnowMulesModel" "opened" "I" : Cond).before a s = true := kw (A := ixX11_isInside) wt551 hts (by decide +kernel)
theorem kX11_isInside_2 {a : Array Value} {s : State} (hts : ∀ w ∈ wsX11_isInside, w.before a s = true) : (.fieldLink RX11 29 "SnowMulesModel" "open" "[I" : Cond).before a s = true := kw (A := ixX11_isInside) wt149 hts (by decide +kernel)
theorem iX11_makes_X11 : ∀ w ∈ wsX110, w ∈ wsX11_makes := inW (A := ixX11_makes) uwX11 (by decide +kernel)
theorem iX11_puts_X11 : ∀ w ∈ wsX110, w ∈ wsX11_puts := inW (A := ixX11_puts) uwX11 (by decide +kernel)
theorem iX11_opens_X11 : ∀ w ∈ wsX110, w ∈ wsX11_opens := inW (A := ixX11_opens) uwX11 (by decide +kernel)
theorem iX11_isInside_X11 : ∀ w ∈ wsX110, w ∈ wsX11_isInside := inW (A := ixX11_isInside) uwX11 (by decide +kernel)
def dtX11_makes_245_0 : List (Nat × Jvm.ClassFile.Instr × Nat) := [(0, .aload_n 0, 1), (1, .getfield 147, 3), (4, .bipush 60, 2), (6, .if_icmp .ne 10, 3), (16, .aload_n 0, 1), (17, .dup, 1), (18, .getfield 147, 3), (21, .iconst 1, 1), (22, .iadd, 1), (23, .putfield 147, 3), (26, .iconst 1, 1), (9, .aload_n 0, 1), (10, .iconst 3, 1), (11, .iload_n 1, 1), (12, .invokevirtual 111, 3), (27, .ireturn, 1), (15, .ireturn, 1)]
theorem daX11_makes_245_0 : dtX11_makes_245_0.all (dqd cX11_makes) = true := by decide +kernel
theorem dX11_makes_0 : decode cX11_makes 0 = .ok (.aload_n 0, 1) := dq daX11_makes_245_0 0 rfl
theorem dX11_makes_1 : decode cX11_makes 1 = .ok (.getfield 147, 3) := dq daX11_makes_245_0 1 rfl
theorem dX11_makes_4 : decode cX11_makes 4 = .ok (.bipush 60, 2) := dq daX11_makes_245_0 2 rfl
theorem dX11_makes_6 : decode cX11_makes 6 = .ok (.if_icmp .ne 10, 3) := dq daX11_makes_245_0 3 rfl
theorem dX11_makes_16 : decode cX11_makes 16 = .ok (.aload_n 0, 1) := dq daX11_makes_245_0 4 rfl
theorem dX11_makes_17 : decode cX11_makes 17 = .ok (.dup, 1) := dq daX11_makes_245_0 5 rfl
theorem dX11_makes_18 : decode cX11_makes 18 = .ok (.getfield 147, 3) := dq daX11_makes_245_0 6 rfl
theorem dX11_makes_21 : decode cX11_makes 21 = .ok (.iconst 1, 1) := dq daX11_makes_245_0 7 rfl
theorem dX11_makes_22 : decode cX11_makes 22 = .ok (.iadd, 1) := dq daX11_makes_245_0 8 rfl
theorem dX11_makes_23 : decode cX11_makes 23 = .ok (.putfield 147, 3) := dq daX11_makes_245_0 9 rfl
theorem dX11_makes_26 : decode cX11_makes 26 = .ok (.iconst 1, 1) := dq daX11_makes_245_0 10 rfl
theorem dX11_makes_9 : decode cX11_makes 9 = .ok (.aload_n 0, 1) := dq daX11_makes_245_0 11 rfl
theorem dX11_makes_10 : decode cX11_makes 10 = .ok (.iconst 3, 1) := dq daX11_makes_245_0 12 rfl
theorem dX11_makes_11 : decode cX11_makes 11 = .ok (.iload_n 1, 1) := dq daX11_makes_245_0 13 rfl
theorem dX11_makes_12 : decode cX11_makes 12 = .ok (.invokevirtual 111, 3) := dq daX11_makes_245_0 14 rfl
theorem dX11_makes_27 : decode cX11_makes 27 = .ok (.ireturn, 1) := dq daX11_makes_245_0 15 rfl
theorem dX11_makes_15 : decode cX11_makes 15 = .ok (.ireturn, 1) := dq daX11_makes_245_0 16 rfl
def dtX11_puts_245_0 : List (Nat × Jvm.ClassFile.Instr × Nat) := [(0, .aload_n 0, 1), (1, .getfield 13, 3), (4, .sipush 400, 3), (7, .aload_n 0, 1), (8, .getfield 144, 3), (11, .imul, 1), (12, .aload_n 0, 1), (13, .getfield 17, 3), (16, .aload_n 0, 1), (17, .getfield 144, 3), (20, .iaload, 1), (21, .iadd, 1), (22, .iload_n 1, 1), (23, .bipush 16, 2), (25, .iload_n 2, 1), (26, .imul, 1), (27, .iadd, 1), (28, .iastore, 1), (29, .aload_n 0, 1), (30, .getfield 17, 3), (33, .aload_n 0, 1), (34, .getfield 144, 3), (37, .dup2, 1), (38, .iaload, 1), (39, .iconst 1, 1), (40, .iadd, 1), (41, .iastore, 1), (42, .return_, 1)]
theorem daX11_puts_245_0 : dtX11_puts_245_0.all (dqd cX11_puts) = true := by decide +kernel
theorem dX11_puts_0 : decode cX11_puts 0 = .ok (.aload_n 0, 1) := dq daX11_puts_245_0 0 rfl
theorem dX11_puts_1 : decode cX11_puts 1 = .ok (.getfield 13, 3) := dq daX11_puts_245_0 1 rfl
theorem dX11_puts_4 : decode cX11_puts 4 = .ok (.sipush 400, 3) := dq daX11_puts_245_0 2 rfl
theorem dX11_puts_7 : decode cX11_puts 7 = .ok (.aload_n 0, 1) := dq daX11_puts_245_0 3 rfl
theorem dX11_puts_8 : decode cX11_puts 8 = .ok (.getfield 144, 3) := dq daX11_puts_245_0 4 rfl
theorem dX11_puts_11 : decode cX11_puts 11 = .ok (.imul, 1) := dq daX11_puts_245_0 5 rfl
theorem dX11_puts_12 : decode cX11_puts 12 = .ok (.aload_n 0, 1) := dq daX11_puts_245_0 6 rfl
theorem dX11_puts_13 : decode cX11_puts 13 = .ok (.getfield 17, 3) := dq daX11_puts_245_0 7 rfl
theorem dX11_puts_16 : decode cX11_puts 16 = .ok (.aload_n 0, 1) := dq daX11_puts_245_0 8 rfl
theorem dX11_puts_17 : decode cX11_puts 17 = .ok (.getfield 144, 3) := dq daX11_puts_245_0 9 rfl
theorem dX11_puts_20 : decode cX11_puts 20 = .ok (.iaload, 1) := dq daX11_puts_245_0 10 rfl
theorem dX11_puts_21 : decode cX11_puts 21 = .ok (.iadd, 1) := dq daX11_puts_245_0 11 rfl
theorem dX11_puts_22 : decode cX11_puts 22 = .ok (.iload_n 1, 1) := dq daX11_puts_245_0 12 rfl
theorem dX11_puts_23 : decode cX11_puts 23 = .ok (.bipush 16, 2) := dq daX11_puts_245_0 13 rfl
theorem dX11_puts_25 : decode cX11_puts 25 = .ok (.iload_n 2, 1) := dq daX11_puts_245_0 14 rfl
theorem dX11_puts_26 : decode cX11_puts 26 = .ok (.imul, 1) := dq daX11_puts_245_0 15 rfl
theorem dX11_puts_27 : decode cX11_puts 27 = .ok (.iadd, 1) := dq daX11_puts_245_0 16 rfl
theorem dX11_puts_28 : decode cX11_puts 28 = .ok (.iastore, 1) := dq daX11_puts_245_0 17 rfl
theorem dX11_puts_29 : decode cX11_puts 29 = .ok (.aload_n 0, 1) := dq daX11_puts_245_0 18 rfl
theorem dX11_puts_30 : decode cX11_puts 30 = .ok (.getfield 17, 3) := dq daX11_puts_245_0 19 rfl
theorem dX11_puts_33 : decode cX11_puts 33 = .ok (.aload_n 0, 1) := dq daX11_puts_245_0 20 rfl
theorem dX11_puts_34 : decode cX11_puts 34 = .ok (.getfield 144, 3) := dq daX11_puts_245_0 21 rfl
theorem dX11_puts_37 : decode cX11_puts 37 = .ok (.dup2, 1) := dq daX11_puts_245_0 22 rfl
theorem dX11_puts_38 : decode cX11_puts 38 = .ok (.iaload, 1) := dq daX11_puts_245_0 23 rfl
theorem dX11_puts_39 : decode cX11_puts 39 = .ok (.iconst 1, 1) := dq daX11_puts_245_0 24 rfl
theorem dX11_puts_40 : decode cX11_puts 40 = .ok (.iadd, 1) := dq daX11_puts_245_0 25 rfl
theorem dX11_puts_41 : decode cX11_puts 41 = .ok (.iastore, 1) := dq daX11_puts_245_0 26 rfl
theorem dX11_puts_42 : decode cX11_puts 42 = .ok (.return_, 1) := dq daX11_puts_245_0 27 rfl
def dtX11_strength_245_0 : List (Nat × Jvm.ClassFile.Instr × Nat) := [(0, .iload_n 0, 1), (1, .bipush 13, 2), (3, .if_icmp .ne 7, 3), (10, .iload_n 0, 1), (11, .bipush 12, 2), (13, .if_icmp .ne 7, 3), (20, .iload_n 0, 1), (21, .bipush 11, 2), (23, .if_icmp .ne 7, 3), (30, .iconst 0, 1), (31, .ireturn, 1), (26, .iconst 3, 1), (27, .goto 4, 3), (16, .iconst 2, 1), (17, .goto 14, 3), (6, .iconst 1, 1), (7, .goto 24, 3)]
theorem daX11_strength_245_0 : dtX11_strength_245_0.all (dqd cX11_strength) = true := by decide +kernel
theorem dX11_strength_0 : decode cX11_strength 0 = .ok (.iload_n 0, 1) := dq daX11_strength_245_0 0 rfl
theorem dX11_strength_1 : decode cX11_strength 1 = .ok (.bipush 13, 2) := dq daX11_strength_245_0 1 rfl
theorem dX11_strength_3 : decode cX11_strength 3 = .ok (.if_icmp .ne 7, 3) := dq daX11_strength_245_0 2 rfl
theorem dX11_strength_10 : decode cX11_strength 10 = .ok (.iload_n 0, 1) := dq daX11_strength_245_0 3 rfl
theorem dX11_strength_11 : decode cX11_strength 11 = .ok (.bipush 12, 2) := dq daX11_strength_245_0 4 rfl
theorem dX11_strength_13 : decode cX11_strength 13 = .ok (.if_icmp .ne 7, 3) := dq daX11_strength_245_0 5 rfl
theorem dX11_strength_20 : decode cX11_strength 20 = .ok (.iload_n 0, 1) := dq daX11_strength_245_0 6 rfl
theorem dX11_strength_21 : decode cX11_strength 21 = .ok (.bipush 11, 2) := dq daX11_strength_245_0 7 rfl
theorem dX11_strength_23 : decode cX11_strength 23 = .ok (.if_icmp .ne 7, 3) := dq daX11_strength_245_0 8 rfl
theorem dX11_strength_30 : decode cX11_strength 30 = .ok (.iconst 0, 1) := dq daX11_strength_245_0 9 rfl
theorem dX11_strength_31 : decode cX11_strength 31 = .ok (.ireturn, 1) := dq daX11_strength_245_0 10 rfl
theorem dX11_strength_26 : decode cX11_strength 26 = .ok (.iconst 3, 1) := dq daX11_strength_245_0 11 rfl
theorem dX11_strength_27 : decode cX11_strength 27 = .ok (.goto 4, 3) := dq daX11_strength_245_0 12 rfl
theorem dX11_strength_16 : decode cX11_strength 16 = .ok (.iconst 2, 1) := dq daX11_strength_245_0 13 rfl
theorem dX11_strength_17 : decode cX11_strength 17 = .ok (.goto 14, 3) := dq daX11_strength_245_0 14 rfl
theorem dX11_strength_6 : decode cX11_strength 6 = .ok (.iconst 1, 1) := dq daX11_strength_245_0 15 rfl
theorem dX11_strength_7 : decode cX11_strength 7 = .ok (.goto 24, 3) := dq daX11_strength_245_0 16 rfl
def dtX11_opens_245_0 : List (Nat × Jvm.ClassFile.Instr × Nat) := [(0, .aload_n 0, 1), (1, .getfield 150, 3), (4, .bipush 10, 2), (6, .if_icmp .ne 13, 3), (19, .aload_n 0, 1), (20, .dup, 1), (21, .getfield 150, 3), (24, .iconst 1, 1), (25, .iadd, 1), (26, .putfield 150, 3), (29, .aload_n 0, 1), (30, .getfield 29, 3), (33, .aload_n 0, 1), (34, .getfield 153, 3), (37, .iload_n 1, 1), (38, .iastore, 1), (39, .aload_n 0, 1), (40, .dup, 1), (41, .getfield 153, 3), (44, .iconst 1, 1), (45, .iadd, 1), (46, .putfield 153, 3), (49, .iconst 1, 1), (9, .aload_n 0, 1), (10, .iconst 2, 1), (11, .aload_n 0, 1), (12, .getfield 90, 3), (15, .invokevirtual 111, 3), (50, .ireturn, 1), (18, .ireturn, 1)]
theorem daX11_opens_245_0 : dtX11_opens_245_0.all (dqd cX11_opens) = true := by decide +kernel
theorem dX11_opens_0 : decode cX11_opens 0 = .ok (.aload_n 0, 1) := dq daX11_opens_245_0 0 rfl
theorem dX11_opens_1 : decode cX11_opens 1 = .ok (.getfield 150, 3) := dq daX11_opens_245_0 1 rfl
theorem dX11_opens_4 : decode cX11_opens 4 = .ok (.bipush 10, 2) := dq daX11_opens_245_0 2 rfl
theorem dX11_opens_6 : decode cX11_opens 6 = .ok (.if_icmp .ne 13, 3) := dq daX11_opens_245_0 3 rfl
theorem dX11_opens_19 : decode cX11_opens 19 = .ok (.aload_n 0, 1) := dq daX11_opens_245_0 4 rfl
theorem dX11_opens_20 : decode cX11_opens 20 = .ok (.dup, 1) := dq daX11_opens_245_0 5 rfl
theorem dX11_opens_21 : decode cX11_opens 21 = .ok (.getfield 150, 3) := dq daX11_opens_245_0 6 rfl
theorem dX11_opens_24 : decode cX11_opens 24 = .ok (.iconst 1, 1) := dq daX11_opens_245_0 7 rfl
theorem dX11_opens_25 : decode cX11_opens 25 = .ok (.iadd, 1) := dq daX11_opens_245_0 8 rfl
theorem dX11_opens_26 : decode cX11_opens 26 = .ok (.putfield 150, 3) := dq daX11_opens_245_0 9 rfl
theorem dX11_opens_29 : decode cX11_opens 29 = .ok (.aload_n 0, 1) := dq daX11_opens_245_0 10 rfl
theorem dX11_opens_30 : decode cX11_opens 30 = .ok (.getfield 29, 3) := dq daX11_opens_245_0 11 rfl
theorem dX11_opens_33 : decode cX11_opens 33 = .ok (.aload_n 0, 1) := dq daX11_opens_245_0 12 rfl
theorem dX11_opens_34 : decode cX11_opens 34 = .ok (.getfield 153, 3) := dq daX11_opens_245_0 13 rfl
theorem dX11_opens_37 : decode cX11_opens 37 = .ok (.iload_n 1, 1) := dq daX11_opens_245_0 14 rfl
theorem dX11_opens_38 : decode cX11_opens 38 = .ok (.iastore, 1) := dq daX11_opens_245_0 15 rfl
theorem dX11_opens_39 : decode cX11_opens 39 = .ok (.aload_n 0, 1) := dq daX11_opens_245_0 16 rfl
theorem dX11_opens_40 : decode cX11_opens 40 = .ok (.dup, 1) := dq daX11_opens_245_0 17 rfl
theorem dX11_opens_41 : decode cX11_opens 41 = .ok (.getfield 153, 3) := dq daX11_opens_245_0 18 rfl
theorem dX11_opens_44 : decode cX11_opens 44 = .ok (.iconst 1, 1) := dq daX11_opens_245_0 19 rfl
theorem dX11_opens_45 : decode cX11_opens 45 = .ok (.iadd, 1) := dq daX11_opens_245_0 20 rfl
theorem dX11_opens_46 : decode cX11_opens 46 = .ok (.putfield 153, 3) := dq daX11_opens_245_0 21 rfl
theorem dX11_opens_49 : decode cX11_opens 49 = .ok (.iconst 1, 1) := dq daX11_opens_245_0 22 rfl
theorem dX11_opens_9 : decode cX11_opens 9 = .ok (.aload_n 0, 1) := dq daX11_opens_245_0 23 rfl
theorem dX11_opens_10 : decode cX11_opens 10 = .ok (.iconst 2, 1) := dq daX11_opens_245_0 24 rfl
theorem dX11_opens_11 : decode cX11_opens 11 = .ok (.aload_n 0, 1) := dq daX11_opens_245_0 25 rfl
theorem dX11_opens_12 : decode cX11_opens 12 = .ok (.getfield 90, 3) := dq daX11_opens_245_0 26 rfl
theorem dX11_opens_15 : decode cX11_opens 15 = .ok (.invokevirtual 111, 3) := dq daX11_opens_245_0 27 rfl
theorem dX11_opens_50 : decode cX11_opens 50 = .ok (.ireturn, 1) := dq daX11_opens_245_0 28 rfl
theorem dX11_opens_18 : decode cX11_opens 18 = .ok (.ireturn, 1) := dq daX11_opens_245_0 29 rfl
def dtX11_isInside_245_0 : List (Nat × Jvm.ClassFile.Instr × Nat) := [(0, .iconst 0, 1), (1, .istore_n 1, 1), (2, .iload_n 1, 1), (3, .aload_n 0, 1), (4, .getfield 153, 3), (7, .if_icmp .ge 22, 3), (10, .aload_n 0, 1), (11, .getfield 29, 3), (14, .iload_n 1, 1), (15, .iaload, 1), (16, .bipush 91, 2), (18, .if_icmp .ne 5, 3), (23, .iinc 1 1, 3), (26, .goto (-24), 3), (21, .iconst 1, 1), (22, .ireturn, 1), (29, .iconst 0, 1), (30, .ireturn, 1)]
theorem daX11_isInside_245_0 : dtX11_isInside_245_0.all (dqd cX11_isInside) = true := by decide +kernel
theorem dX11_isInside_0 : decode cX11_isInside 0 = .ok (.iconst 0, 1) := dq daX11_isInside_245_0 0 rfl
theorem dX11_isInside_1 : decode cX11_isInside 1 = .ok (.istore_n 1, 1) := dq daX11_isInside_245_0 1 rfl
theorem dX11_isInside_2 : decode cX11_isInside 2 = .ok (.iload_n 1, 1) := dq daX11_isInside_245_0 2 rfl
theorem dX11_isInside_3 : decode cX11_isInside 3 = .ok (.aload_n 0, 1) := dq daX11_isInside_245_0 3 rfl
theorem dX11_isInside_4 : decode cX11_isInside 4 = .ok (.getfield 153, 3) := dq daX11_isInside_245_0 4 rfl
theorem dX11_isInside_7 : decode cX11_isInside 7 = .ok (.if_icmp .ge 22, 3) := dq daX11_isInside_245_0 5 rfl
theorem dX11_isInside_10 : decode cX11_isInside 10 = .ok (.aload_n 0, 1) := dq daX11_isInside_245_0 6 rfl
theorem dX11_isInside_11 : decode cX11_isInside 11 = .ok (.getfield 29, 3) := dq daX11_isInside_245_0 7 rfl
theorem dX11_isInside_14 : decode cX11_isInside 14 = .ok (.iload_n 1, 1) := dq daX11_isInside_245_0 8 rfl
theorem dX11_isInside_15 : decode cX11_isInside 15 = .ok (.iaload, 1) := dq daX11_isInside_245_0 9 rfl
theorem dX11_isInside_16 : decode cX11_isInside 16 = .ok (.bipush 91, 2) := dq daX11_isInside_245_0 10 rfl
theorem dX11_isInside_18 : decode cX11_isInside 18 = .ok (.if_icmp .ne 5, 3) := dq daX11_isInside_245_0 11 rfl
theorem dX11_isInside_23 : decode cX11_isInside 23 = .ok (.iinc 1 1, 3) := dq daX11_isInside_245_0 12 rfl
theorem dX11_isInside_26 : decode cX11_isInside 26 = .ok (.goto (-24), 3) := dq daX11_isInside_245_0 13 rfl
theorem dX11_isInside_21 : decode cX11_isInside 21 = .ok (.iconst 1, 1) := dq daX11_isInside_245_0 14 rfl
theorem dX11_isInside_22 : decode cX11_isInside 22 = .ok (.ireturn, 1) := dq daX11_isInside_245_0 15 rfl
theorem dX11_isInside_29 : decode cX11_isInside 29 = .ok (.iconst 0, 1) := dq daX11_isInside_245_0 16 rfl
theorem dX11_isInside_30 : decode cX11_isInside 30 = .ok (.ireturn, 1) := dq daX11_isInside_245_0 17 rfl
