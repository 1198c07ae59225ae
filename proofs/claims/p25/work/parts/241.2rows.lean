theorem kX11_see_1 {a : Array Value} {s : State} (hts : ∀ w ∈ wsX11_see, w.before a s = true) : (.fieldLink RX11 90 "SnowMulesModel" "next" "I" : Cond).before a s = true := kw (A := ixX11_see) wt461 hts (by decide +kernel)
theorem kX11_see_2 {a : Array Value} {s : State} (hts : ∀ w ∈ wsX11_see, w.before a s = true) : (.fieldLink RX11 79 "SnowMulesModel" "taped" "I" : Cond).before a s = true := kw (A := ixX11_see) wt264 hts (by decide +kernel)
theorem kX11_see_3 {a : Array Value} {s : State} (hts : ∀ w ∈ wsX11_see, w.before a s = true) : (.fieldLink RX11 7 "SnowMulesModel" "tape" "[B" : Cond).before a s = true := kw (A := ixX11_see) wt143 hts (by decide +kernel)
theorem kX11_isDigit_1 {a : Array Value} {s : State} (hts : ∀ w ∈ wsX11_isDigit, w.before a s = true) : (.fieldLink RX11 79 "SnowMulesModel" "taped" "I" : Cond).before a s = true := kw (A := ixX11_isDigit) wt264 hts (by decide +kernel)
theorem kX11_isDigit_2 {a : Array Value} {s : State} (hts : ∀ w ∈ wsX11_isDigit, w.before a s = true) : (.fieldLink RX11 7 "SnowMulesModel" "tape" "[B" : Cond).before a s = true := kw (A := ixX11_isDigit) wt143 hts (by decide +kernel)
theorem kX11_isLetter_1 {a : Array Value} {s : State} (hts : ∀ w ∈ wsX11_isLetter, w.before a s = true) : (.fieldLink RX11 79 "SnowMulesModel" "taped" "I" : Cond).before a s = true := kw (A := ixX11_isLetter) wt264 hts (by decide +kernel)
theorem kX11_isLetter_2 {a : Array Value} {s : State} (hts : ∀ w ∈ wsX11_isLetter, w.before a s = true) : (.fieldLink RX11 7 "SnowMulesModel" "tape" "[B" : Cond).before a s = true := kw (A := ixX11_isLetter) wt143 hts (by decide +kernel)
theorem iX11_see_X11 : ∀ w ∈ wsX110, w ∈ wsX11_see := inW (A := ixX11_see) uwX11 (by decide +kernel)
theorem iX11_isDigit_X11 : ∀ w ∈ wsX110, w ∈ wsX11_isDigit := inW (A := ixX11_isDigit) uwX11 (by decide +kernel)
theorem iX11_isLetter_X11 : ∀ w ∈ wsX110, w ∈ wsX11_isLetter := inW (A := ixX11_isLetter) uwX11 (by decide +kernel)
def dtX11_see_241_0 : List (Nat × Jvm.ClassFile.Instr × Nat) := [(0, .aload_n 0, 1), (1, .getfield 90, 3), (4, .aload_n 0, 1), (5, .getfield 79, 3), (8, .if_icmp .ge 30, 3), (11, .aload_n 0, 1), (12, .getfield 7, 3), (15, .aload_n 0, 1), (16, .getfield 90, 3), (19, .baload, 1), (20, .bipush 32, 2), (22, .if_icmp .ne 16, 3), (25, .aload_n 0, 1), (26, .dup, 1), (27, .getfield 90, 3), (30, .iconst 1, 1), (31, .iadd, 1), (32, .putfield 90, 3), (35, .goto (-35), 3), (38, .aload_n 0, 1), (39, .getfield 90, 3), (42, .aload_n 0, 1), (43, .getfield 79, 3), (46, .if_icmp .ge 19, 3), (65, .iconst (-1), 1), (49, .aload_n 0, 1), (50, .getfield 7, 3), (53, .aload_n 0, 1), (54, .getfield 90, 3), (57, .baload, 1), (58, .sipush 255, 3), (61, .iand, 1)]
theorem daX11_see_241_0 : dtX11_see_241_0.all (dqd cX11_see) = true := by decide +kernel
theorem dX11_see_0 : decode cX11_see 0 = .ok (.aload_n 0, 1) := dq daX11_see_241_0 0 rfl
theorem dX11_see_1 : decode cX11_see 1 = .ok (.getfield 90, 3) := dq daX11_see_241_0 1 rfl
theorem dX11_see_4 : decode cX11_see 4 = .ok (.aload_n 0, 1) := dq daX11_see_241_0 2 rfl
theorem dX11_see_5 : decode cX11_see 5 = .ok (.getfield 79, 3) := dq daX11_see_241_0 3 rfl
theorem dX11_see_8 : decode cX11_see 8 = .ok (.if_icmp .ge 30, 3) := dq daX11_see_241_0 4 rfl
theorem dX11_see_11 : decode cX11_see 11 = .ok (.aload_n 0, 1) := dq daX11_see_241_0 5 rfl
theorem dX11_see_12 : decode cX11_see 12 = .ok (.getfield 7, 3) := dq daX11_see_241_0 6 rfl
theorem dX11_see_15 : decode cX11_see 15 = .ok (.aload_n 0, 1) := dq daX11_see_241_0 7 rfl
theorem dX11_see_16 : decode cX11_see 16 = .ok (.getfield 90, 3) := dq daX11_see_241_0 8 rfl
theorem dX11_see_19 : decode cX11_see 19 = .ok (.baload, 1) := dq daX11_see_241_0 9 rfl
theorem dX11_see_20 : decode cX11_see 20 = .ok (.bipush 32, 2) := dq daX11_see_241_0 10 rfl
theorem dX11_see_22 : decode cX11_see 22 = .ok (.if_icmp .ne 16, 3) := dq daX11_see_241_0 11 rfl
theorem dX11_see_25 : decode cX11_see 25 = .ok (.aload_n 0, 1) := dq daX11_see_241_0 12 rfl
theorem dX11_see_26 : decode cX11_see 26 = .ok (.dup, 1) := dq daX11_see_241_0 13 rfl
theorem dX11_see_27 : decode cX11_see 27 = .ok (.getfield 90, 3) := dq daX11_see_241_0 14 rfl
theorem dX11_see_30 : decode cX11_see 30 = .ok (.iconst 1, 1) := dq daX11_see_241_0 15 rfl
theorem dX11_see_31 : decode cX11_see 31 = .ok (.iadd, 1) := dq daX11_see_241_0 16 rfl
theorem dX11_see_32 : decode cX11_see 32 = .ok (.putfield 90, 3) := dq daX11_see_241_0 17 rfl
theorem dX11_see_35 : decode cX11_see 35 = .ok (.goto (-35), 3) := dq daX11_see_241_0 18 rfl
theorem dX11_see_38 : decode cX11_see 38 = .ok (.aload_n 0, 1) := dq daX11_see_241_0 19 rfl
theorem dX11_see_39 : decode cX11_see 39 = .ok (.getfield 90, 3) := dq daX11_see_241_0 20 rfl
theorem dX11_see_42 : decode cX11_see 42 = .ok (.aload_n 0, 1) := dq daX11_see_241_0 21 rfl
theorem dX11_see_43 : decode cX11_see 43 = .ok (.getfield 79, 3) := dq daX11_see_241_0 22 rfl
theorem dX11_see_46 : decode cX11_see 46 = .ok (.if_icmp .ge 19, 3) := dq daX11_see_241_0 23 rfl
theorem dX11_see_65 : decode cX11_see 65 = .ok (.iconst (-1), 1) := dq daX11_see_241_0 24 rfl
theorem dX11_see_49 : decode cX11_see 49 = .ok (.aload_n 0, 1) := dq daX11_see_241_0 25 rfl
theorem dX11_see_50 : decode cX11_see 50 = .ok (.getfield 7, 3) := dq daX11_see_241_0 26 rfl
theorem dX11_see_53 : decode cX11_see 53 = .ok (.aload_n 0, 1) := dq daX11_see_241_0 27 rfl
theorem dX11_see_54 : decode cX11_see 54 = .ok (.getfield 90, 3) := dq daX11_see_241_0 28 rfl
theorem dX11_see_57 : decode cX11_see 57 = .ok (.baload, 1) := dq daX11_see_241_0 29 rfl
theorem dX11_see_58 : decode cX11_see 58 = .ok (.sipush 255, 3) := dq daX11_see_241_0 30 rfl
theorem dX11_see_61 : decode cX11_see 61 = .ok (.iand, 1) := dq daX11_see_241_0 31 rfl
def dtX11_see_241_1 : List (Nat × Jvm.ClassFile.Instr × Nat) := [(62, .goto 4, 3), (66, .ireturn, 1)]
theorem daX11_see_241_1 : dtX11_see_241_1.all (dqd cX11_see) = true := by decide +kernel
theorem dX11_see_62 : decode cX11_see 62 = .ok (.goto 4, 3) := dq daX11_see_241_1 0 rfl
theorem dX11_see_66 : decode cX11_see 66 = .ok (.ireturn, 1) := dq daX11_see_241_1 1 rfl
def dtX11_isDigit_241_0 : List (Nat × Jvm.ClassFile.Instr × Nat) := [(0, .iload_n 1, 1), (1, .aload_n 0, 1), (2, .getfield 79, 3), (5, .if_icmp .ge 29, 3), (34, .iconst 0, 1), (35, .ireturn, 1), (8, .aload_n 0, 1), (9, .getfield 7, 3), (12, .iload_n 1, 1), (13, .baload, 1), (14, .bipush 48, 2), (16, .if_icmp .lt 18, 3), (19, .aload_n 0, 1), (20, .getfield 7, 3), (23, .iload_n 1, 1), (24, .baload, 1), (25, .bipush 57, 2), (27, .if_icmp .gt 7, 3), (30, .iconst 1, 1), (31, .goto 4, 3)]
theorem daX11_isDigit_241_0 : dtX11_isDigit_241_0.all (dqd cX11_isDigit) = true := by decide +kernel
theorem dX11_isDigit_0 : decode cX11_isDigit 0 = .ok (.iload_n 1, 1) := dq daX11_isDigit_241_0 0 rfl
theorem dX11_isDigit_1 : decode cX11_isDigit 1 = .ok (.aload_n 0, 1) := dq daX11_isDigit_241_0 1 rfl
theorem dX11_isDigit_2 : decode cX11_isDigit 2 = .ok (.getfield 79, 3) := dq daX11_isDigit_241_0 2 rfl
theorem dX11_isDigit_5 : decode cX11_isDigit 5 = .ok (.if_icmp .ge 29, 3) := dq daX11_isDigit_241_0 3 rfl
theorem dX11_isDigit_34 : decode cX11_isDigit 34 = .ok (.iconst 0, 1) := dq daX11_isDigit_241_0 4 rfl
theorem dX11_isDigit_35 : decode cX11_isDigit 35 = .ok (.ireturn, 1) := dq daX11_isDigit_241_0 5 rfl
theorem dX11_isDigit_8 : decode cX11_isDigit 8 = .ok (.aload_n 0, 1) := dq daX11_isDigit_241_0 6 rfl
theorem dX11_isDigit_9 : decode cX11_isDigit 9 = .ok (.getfield 7, 3) := dq daX11_isDigit_241_0 7 rfl
theorem dX11_isDigit_12 : decode cX11_isDigit 12 = .ok (.iload_n 1, 1) := dq daX11_isDigit_241_0 8 rfl
theorem dX11_isDigit_13 : decode cX11_isDigit 13 = .ok (.baload, 1) := dq daX11_isDigit_241_0 9 rfl
theorem dX11_isDigit_14 : decode cX11_isDigit 14 = .ok (.bipush 48, 2) := dq daX11_isDigit_241_0 10 rfl
theorem dX11_isDigit_16 : decode cX11_isDigit 16 = .ok (.if_icmp .lt 18, 3) := dq daX11_isDigit_241_0 11 rfl
theorem dX11_isDigit_19 : decode cX11_isDigit 19 = .ok (.aload_n 0, 1) := dq daX11_isDigit_241_0 12 rfl
theorem dX11_isDigit_20 : decode cX11_isDigit 20 = .ok (.getfield 7, 3) := dq daX11_isDigit_241_0 13 rfl
theorem dX11_isDigit_23 : decode cX11_isDigit 23 = .ok (.iload_n 1, 1) := dq daX11_isDigit_241_0 14 rfl
theorem dX11_isDigit_24 : decode cX11_isDigit 24 = .ok (.baload, 1) := dq daX11_isDigit_241_0 15 rfl
theorem dX11_isDigit_25 : decode cX11_isDigit 25 = .ok (.bipush 57, 2) := dq daX11_isDigit_241_0 16 rfl
theorem dX11_isDigit_27 : decode cX11_isDigit 27 = .ok (.if_icmp .gt 7, 3) := dq daX11_isDigit_241_0 17 rfl
theorem dX11_isDigit_30 : decode cX11_isDigit 30 = .ok (.iconst 1, 1) := dq daX11_isDigit_241_0 18 rfl
theorem dX11_isDigit_31 : decode cX11_isDigit 31 = .ok (.goto 4, 3) := dq daX11_isDigit_241_0 19 rfl
def dtX11_isLetter_241_0 : List (Nat × Jvm.ClassFile.Instr × Nat) := [(0, .iload_n 1, 1), (1, .aload_n 0, 1), (2, .getfield 79, 3), (5, .if_icmp .ge 29, 3), (34, .iconst 0, 1), (35, .ireturn, 1), (8, .aload_n 0, 1), (9, .getfield 7, 3), (12, .iload_n 1, 1), (13, .baload, 1), (14, .bipush 97, 2), (16, .if_icmp .lt 18, 3), (19, .aload_n 0, 1), (20, .getfield 7, 3), (23, .iload_n 1, 1), (24, .baload, 1), (25, .bipush 122, 2), (27, .if_icmp .gt 7, 3), (30, .iconst 1, 1), (31, .goto 4, 3)]
theorem daX11_isLetter_241_0 : dtX11_isLetter_241_0.all (dqd cX11_isLetter) = true := by decide +kernel
theorem dX11_isLetter_0 : decode cX11_isLetter 0 = .ok (.iload_n 1, 1) := dq daX11_isLetter_241_0 0 rfl
theorem dX11_isLetter_1 : decode cX11_isLetter 1 = .ok (.aload_n 0, 1) := dq daX11_isLetter_241_0 1 rfl
theorem dX11_isLetter_2 : decode cX11_isLetter 2 = .ok (.getfield 79, 3) := dq daX11_isLetter_241_0 2 rfl
theorem dX11_isLetter_5 : decode cX11_isLetter 5 = .ok (.if_icmp .ge 29, 3) := dq daX11_isLetter_241_0 3 rfl
theorem dX11_isLetter_34 : decode cX11_isLetter 34 = .ok (.iconst 0, 1) := dq daX11_isLetter_241_0 4 rfl
theorem dX11_isLetter_35 : decode cX11_isLetter 35 = .ok (.ireturn, 1) := dq daX11_isLetter_241_0 5 rfl
theorem dX11_isLetter_8 : decode cX11_isLetter 8 = .ok (.aload_n 0, 1) := dq daX11_isLetter_241_0 6 rfl
theorem dX11_isLetter_9 : decode cX11_isLetter 9 = .ok (.getfield 7, 3) := dq daX11_isLetter_241_0 7 rfl
theorem dX11_isLetter_12 : decode cX11_isLetter 12 = .ok (.iload_n 1, 1) := dq daX11_isLetter_241_0 8 rfl
theorem dX11_isLetter_13 : decode cX11_isLetter 13 = .ok (.baload, 1) := dq daX11_isLetter_241_0 9 rfl
theorem dX11_isLetter_14 : decode cX11_isLetter 14 = .ok (.bipush 97, 2) := dq daX11_isLetter_241_0 10 rfl
theorem dX11_isLetter_16 : decode cX11_isLetter 16 = .ok (.if_icmp .lt 18, 3) := dq daX11_isLetter_241_0 11 rfl
theorem dX11_isLetter_19 : decode cX11_isLetter 19 = .ok (.aload_n 0, 1) := dq daX11_isLetter_241_0 12 rfl
theorem dX11_isLetter_20 : decode cX11_isLetter 20 = .ok (.getfield 7, 3) := dq daX11_isLetter_241_0 13 rfl
theorem dX11_isLetter_23 : decode cX11_isLetter 23 = .ok (.iload_n 1, 1) := dq daX11_isLetter_241_0 14 rfl
theorem dX11_isLetter_24 : decode cX11_isLetter 24 = .ok (.baload, 1) := dq daX11_isLetter_241_0 15 rfl
theorem dX11_isLetter_25 : decode cX11_isLetter 25 = .ok (.bipush 122, 2) := dq daX11_isLetter_241_0 16 rfl
theorem dX11_isLetter_27 : decode cX11_isLetter 27 = .ok (.if_icmp .gt 7, 3) := dq daX11_isLetter_241_0 17 rfl
theorem dX11_isLetter_30 : decode cX11_isLetter 30 = .ok (.iconst 1, 1) := dq daX11_isLetter_241_0 18 rfl
theorem dX11_isLetter_31 : decode cX11_isLetter 31 = .ok (.goto 4, 3) := dq daX11_isLetter_241_0 19 rfl
