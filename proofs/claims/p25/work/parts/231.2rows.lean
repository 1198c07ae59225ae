theorem kX11_image_1 {a : Array Value} {s : State} (hts : ∀ w ∈ wsX11_image, w.before a s = true) : (.constantLong RX11 469 (3) : Cond).before a s = true := kw (A := ixX11_image) wt1401 hts (by decide +kernel)
theorem kX11_back_1 {a : Array Value} {s : State} (hts : ∀ w ∈ wsX11_back, w.before a s = true) : (.constantLong RX11 469 (3) : Cond).before a s = true := kw (A := ixX11_back) wt1401 hts (by decide +kernel)
theorem kX11_image_2 {a : Array Value} {s : State} (hts : ∀ w ∈ wsX11_image, w.before a s = true) : (.fieldLink RX11 75 "SnowMulesModel" "isMade" "[Z" : Cond).before a s = true := kw (A := ixX11_image) wt166 hts (by decide +kernel)
theorem kX11_image_3 {a : Array Value} {s : State} (hts : ∀ w ∈ wsX11_image, w.before a s = true) : (.fieldLink RX11 72 "SnowMulesModel" "images" "[I" : Cond).before a s = true := kw (A := ixX11_image) wt164 hts (by decide +kernel)
theorem kX11_image_4 {a : Array Value} {s : State} (hts : ∀ w ∈ wsX11_image, w.before a s = true) : (.fieldLink RX11 39 "SnowMulesModel" "said" "[I" : Cond).before a s = true := kw (A := ixX11_image) wt153 hts (by decide +kernel)
theorem kX11_back_2 {a : Array Value} {s : State} (hts : ∀ w ∈ wsX11_back, w.before a s = true) : (.fieldLink RX11 75 "SnowMulesModel" "isMade" "[Z" : Cond).before a s = true := kw (A := ixX11_back) wt166 hts (by decide +kernel)
theorem kX11_back_3 {a : Array Value} {s : State} (hts : ∀ w ∈ wsX11_back, w.before a s = true) : (.fieldLink RX11 39 "SnowMulesModel" "said" "[I" : Cond).before a s = true := kw (A := ixX11_back) wt153 hts (by decide +kernel)
theorem kX11_back_4 {a : Array Value} {s : State} (hts : ∀ w ∈ wsX11_back, w.before a s = true) : (.fieldLink RX11 72 "SnowMulesModel" "images" "[I" : Cond).before a s = true := kw (A := ixX11_back) wt164 hts (by decide +kernel)
theorem iX11_image_X11 : ∀ w ∈ wsX110, w ∈ wsX11_image := inW (A := ixX11_image) uwX11 (by decide +kernel)
theorem iX11_back_X11 : ∀ w ∈ wsX110, w ∈ wsX11_back := inW (A := ixX11_back) uwX11 (by decide +kernel)
def dtX11_image_231_0 : List (Nat × Jvm.ClassFile.Instr × Nat) := [(0, .iload_n 1, 1), (1, .i2l, 1), (2, .lconst 0, 1), (3, .ldc2_w 469, 3), (6, .invokestatic 118, 3), (9, .ifCond .ne 5, 3), (12, .iconst (-1), 1), (13, .ireturn, 1), (14, .aload_n 0, 1), (15, .getfield 75, 3), (18, .iload_n 1, 1), (19, .iconst 1, 1), (20, .bastore, 1), (21, .iconst 0, 1), (22, .istore_n 2, 1), (23, .iload_n 2, 1), (24, .sipush 360, 3), (27, .if_icmp .ge 27, 3), (30, .aload_n 0, 1), (31, .getfield 72, 3), (34, .sipush 360, 3), (37, .iload_n 1, 1), (38, .imul, 1), (39, .iload_n 2, 1), (40, .iadd, 1), (41, .aload_n 0, 1), (42, .getfield 39, 3), (45, .iload_n 2, 1), (46, .iaload, 1), (47, .iastore, 1), (48, .iinc 2 1, 3), (51, .goto (-28), 3)]
theorem daX11_image_231_0 : dtX11_image_231_0.all (dqd cX11_image) = true := by decide +kernel
theorem dX11_image_0 : decode cX11_image 0 = .ok (.iload_n 1, 1) := dq daX11_image_231_0 0 rfl
theorem dX11_image_1 : decode cX11_image 1 = .ok (.i2l, 1) := dq daX11_image_231_0 1 rfl
theorem dX11_image_2 : decode cX11_image 2 = .ok (.lconst 0, 1) := dq daX11_image_231_0 2 rfl
theorem dX11_image_3 : decode cX11_image 3 = .ok (.ldc2_w 469, 3) := dq daX11_image_231_0 3 rfl
theorem dX11_image_6 : decode cX11_image 6 = .ok (.invokestatic 118, 3) := dq daX11_image_231_0 4 rfl
theorem dX11_image_9 : decode cX11_image 9 = .ok (.ifCond .ne 5, 3) := dq daX11_image_231_0 5 rfl
theorem dX11_image_12 : decode cX11_image 12 = .ok (.iconst (-1), 1) := dq daX11_image_231_0 6 rfl
theorem dX11_image_13 : decode cX11_image 13 = .ok (.ireturn, 1) := dq daX11_image_231_0 7 rfl
theorem dX11_image_14 : decode cX11_image 14 = .ok (.aload_n 0, 1) := dq daX11_image_231_0 8 rfl
theorem dX11_image_15 : decode cX11_image 15 = .ok (.getfield 75, 3) := dq daX11_image_231_0 9 rfl
theorem dX11_image_18 : decode cX11_image 18 = .ok (.iload_n 1, 1) := dq daX11_image_231_0 10 rfl
theorem dX11_image_19 : decode cX11_image 19 = .ok (.iconst 1, 1) := dq daX11_image_231_0 11 rfl
theorem dX11_image_20 : decode cX11_image 20 = .ok (.bastore, 1) := dq daX11_image_231_0 12 rfl
theorem dX11_image_21 : decode cX11_image 21 = .ok (.iconst 0, 1) := dq daX11_image_231_0 13 rfl
theorem dX11_image_22 : decode cX11_image 22 = .ok (.istore_n 2, 1) := dq daX11_image_231_0 14 rfl
theorem dX11_image_23 : decode cX11_image 23 = .ok (.iload_n 2, 1) := dq daX11_image_231_0 15 rfl
theorem dX11_image_24 : decode cX11_image 24 = .ok (.sipush 360, 3) := dq daX11_image_231_0 16 rfl
theorem dX11_image_27 : decode cX11_image 27 = .ok (.if_icmp .ge 27, 3) := dq daX11_image_231_0 17 rfl
theorem dX11_image_30 : decode cX11_image 30 = .ok (.aload_n 0, 1) := dq daX11_image_231_0 18 rfl
theorem dX11_image_31 : decode cX11_image 31 = .ok (.getfield 72, 3) := dq daX11_image_231_0 19 rfl
theorem dX11_image_34 : decode cX11_image 34 = .ok (.sipush 360, 3) := dq daX11_image_231_0 20 rfl
theorem dX11_image_37 : decode cX11_image 37 = .ok (.iload_n 1, 1) := dq daX11_image_231_0 21 rfl
theorem dX11_image_38 : decode cX11_image 38 = .ok (.imul, 1) := dq daX11_image_231_0 22 rfl
theorem dX11_image_39 : decode cX11_image 39 = .ok (.iload_n 2, 1) := dq daX11_image_231_0 23 rfl
theorem dX11_image_40 : decode cX11_image 40 = .ok (.iadd, 1) := dq daX11_image_231_0 24 rfl
theorem dX11_image_41 : decode cX11_image 41 = .ok (.aload_n 0, 1) := dq daX11_image_231_0 25 rfl
theorem dX11_image_42 : decode cX11_image 42 = .ok (.getfield 39, 3) := dq daX11_image_231_0 26 rfl
theorem dX11_image_45 : decode cX11_image 45 = .ok (.iload_n 2, 1) := dq daX11_image_231_0 27 rfl
theorem dX11_image_46 : decode cX11_image 46 = .ok (.iaload, 1) := dq daX11_image_231_0 28 rfl
theorem dX11_image_47 : decode cX11_image 47 = .ok (.iastore, 1) := dq daX11_image_231_0 29 rfl
theorem dX11_image_48 : decode cX11_image 48 = .ok (.iinc 2 1, 3) := dq daX11_image_231_0 30 rfl
theorem dX11_image_51 : decode cX11_image 51 = .ok (.goto (-28), 3) := dq daX11_image_231_0 31 rfl
def dtX11_image_231_1 : List (Nat × Jvm.ClassFile.Instr × Nat) := [(54, .aload_n 0, 1), (55, .getfield 39, 3), (58, .iconst 5, 1), (59, .iaload, 1), (60, .ireturn, 1)]
theorem daX11_image_231_1 : dtX11_image_231_1.all (dqd cX11_image) = true := by decide +kernel
theorem dX11_image_54 : decode cX11_image 54 = .ok (.aload_n 0, 1) := dq daX11_image_231_1 0 rfl
theorem dX11_image_55 : decode cX11_image 55 = .ok (.getfield 39, 3) := dq daX11_image_231_1 1 rfl
theorem dX11_image_58 : decode cX11_image 58 = .ok (.iconst 5, 1) := dq daX11_image_231_1 2 rfl
theorem dX11_image_59 : decode cX11_image 59 = .ok (.iaload, 1) := dq daX11_image_231_1 3 rfl
theorem dX11_image_60 : decode cX11_image 60 = .ok (.ireturn, 1) := dq daX11_image_231_1 4 rfl
def dtX11_back_231_0 : List (Nat × Jvm.ClassFile.Instr × Nat) := [(0, .iload_n 1, 1), (1, .i2l, 1), (2, .lconst 0, 1), (3, .ldc2_w 469, 3), (6, .invokestatic 118, 3), (9, .ifCond .eq 12, 3), (21, .iconst (-1), 1), (22, .ireturn, 1), (12, .aload_n 0, 1), (13, .getfield 75, 3), (16, .iload_n 1, 1), (17, .baload, 1), (18, .ifCond .ne 5, 3), (23, .iconst 0, 1), (24, .istore_n 2, 1), (25, .iload_n 2, 1), (26, .sipush 360, 3), (29, .if_icmp .ge 27, 3), (32, .aload_n 0, 1), (33, .getfield 39, 3), (36, .iload_n 2, 1), (37, .aload_n 0, 1), (38, .getfield 72, 3), (41, .sipush 360, 3), (44, .iload_n 1, 1), (45, .imul, 1), (46, .iload_n 2, 1), (47, .iadd, 1), (48, .iaload, 1), (49, .iastore, 1), (50, .iinc 2 1, 3), (53, .goto (-28), 3)]
theorem daX11_back_231_0 : dtX11_back_231_0.all (dqd cX11_back) = true := by decide +kernel
theorem dX11_back_0 : decode cX11_back 0 = .ok (.iload_n 1, 1) := dq daX11_back_231_0 0 rfl
theorem dX11_back_1 : decode cX11_back 1 = .ok (.i2l, 1) := dq daX11_back_231_0 1 rfl
theorem dX11_back_2 : decode cX11_back 2 = .ok (.lconst 0, 1) := dq daX11_back_231_0 2 rfl
theorem dX11_back_3 : decode cX11_back 3 = .ok (.ldc2_w 469, 3) := dq daX11_back_231_0 3 rfl
theorem dX11_back_6 : decode cX11_back 6 = .ok (.invokestatic 118, 3) := dq daX11_back_231_0 4 rfl
theorem dX11_back_9 : decode cX11_back 9 = .ok (.ifCond .eq 12, 3) := dq daX11_back_231_0 5 rfl
theorem dX11_back_21 : decode cX11_back 21 = .ok (.iconst (-1), 1) := dq daX11_back_231_0 6 rfl
theorem dX11_back_22 : decode cX11_back 22 = .ok (.ireturn, 1) := dq daX11_back_231_0 7 rfl
theorem dX11_back_12 : decode cX11_back 12 = .ok (.aload_n 0, 1) := dq daX11_back_231_0 8 rfl
theorem dX11_back_13 : decode cX11_back 13 = .ok (.getfield 75, 3) := dq daX11_back_231_0 9 rfl
theorem dX11_back_16 : decode cX11_back 16 = .ok (.iload_n 1, 1) := dq daX11_back_231_0 10 rfl
theorem dX11_back_17 : decode cX11_back 17 = .ok (.baload, 1) := dq daX11_back_231_0 11 rfl
theorem dX11_back_18 : decode cX11_back 18 = .ok (.ifCond .ne 5, 3) := dq daX11_back_231_0 12 rfl
theorem dX11_back_23 : decode cX11_back 23 = .ok (.iconst 0, 1) := dq daX11_back_231_0 13 rfl
theorem dX11_back_24 : decode cX11_back 24 = .ok (.istore_n 2, 1) := dq daX11_back_231_0 14 rfl
theorem dX11_back_25 : decode cX11_back 25 = .ok (.iload_n 2, 1) := dq daX11_back_231_0 15 rfl
theorem dX11_back_26 : decode cX11_back 26 = .ok (.sipush 360, 3) := dq daX11_back_231_0 16 rfl
theorem dX11_back_29 : decode cX11_back 29 = .ok (.if_icmp .ge 27, 3) := dq daX11_back_231_0 17 rfl
theorem dX11_back_32 : decode cX11_back 32 = .ok (.aload_n 0, 1) := dq daX11_back_231_0 18 rfl
theorem dX11_back_33 : decode cX11_back 33 = .ok (.getfield 39, 3) := dq daX11_back_231_0 19 rfl
theorem dX11_back_36 : decode cX11_back 36 = .ok (.iload_n 2, 1) := dq daX11_back_231_0 20 rfl
theorem dX11_back_37 : decode cX11_back 37 = .ok (.aload_n 0, 1) := dq daX11_back_231_0 21 rfl
theorem dX11_back_38 : decode cX11_back 38 = .ok (.getfield 72, 3) := dq daX11_back_231_0 22 rfl
theorem dX11_back_41 : decode cX11_back 41 = .ok (.sipush 360, 3) := dq daX11_back_231_0 23 rfl
theorem dX11_back_44 : decode cX11_back 44 = .ok (.iload_n 1, 1) := dq daX11_back_231_0 24 rfl
theorem dX11_back_45 : decode cX11_back 45 = .ok (.imul, 1) := dq daX11_back_231_0 25 rfl
theorem dX11_back_46 : decode cX11_back 46 = .ok (.iload_n 2, 1) := dq daX11_back_231_0 26 rfl
theorem dX11_back_47 : decode cX11_back 47 = .ok (.iadd, 1) := dq daX11_back_231_0 27 rfl
theorem dX11_back_48 : decode cX11_back 48 = .ok (.iaload, 1) := dq daX11_back_231_0 28 rfl
theorem dX11_back_49 : decode cX11_back 49 = .ok (.iastore, 1) := dq daX11_back_231_0 29 rfl
theorem dX11_back_50 : decode cX11_back 50 = .ok (.iinc 2 1, 3) := dq daX11_back_231_0 30 rfl
theorem dX11_back_53 : decode cX11_back 53 = .ok (.goto (-28), 3) := dq daX11_back_231_0 31 rfl
def dtX11_back_231_1 : List (Nat × Jvm.ClassFile.Instr × Nat) := [(56, .aload_n 0, 1), (57, .getfield 39, 3), (60, .iconst 5, 1), (61, .iaload, 1), (62, .ireturn, 1)]
theorem daX11_back_231_1 : dtX11_back_231_1.all (dqd cX11_back) = true := by decide +kernel
theorem dX11_back_56 : decode cX11_back 56 = .ok (.aload_n 0, 1) := dq daX11_back_231_1 0 rfl
theorem dX11_back_57 : decode cX11_back 57 = .ok (.getfield 39, 3) := dq daX11_back_231_1 1 rfl
theorem dX11_back_60 : decode cX11_back 60 = .ok (.iconst 5, 1) := dq daX11_back_231_1 2 rfl
theorem dX11_back_61 : decode cX11_back 61 = .ok (.iaload, 1) := dq daX11_back_231_1 3 rfl
theorem dX11_back_62 : decode cX11_back 62 = .ok (.ireturn, 1) := dq daX11_back_231_1 4 rfl
