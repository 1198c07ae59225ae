theorem kX11_waitsOtherwise_1 {a : Array Value} {s : State} (hts : ∀ w ∈ wsX11_waitsOtherwise, w.before a s = true) : (.fieldLink RX11 39 "SnowMulesModel" "said" "[I" : Cond).before a s = true := kw (A := ixX11_waitsOtherwise) wt153 hts (by decide +kernel)
theorem kX11_waitsOtherwise_2 {a : Array Value} {s : State} (hts : ∀ w ∈ wsX11_waitsOtherwise, w.before a s = true) : (.fieldLink RX11 66 "SnowMulesModel" "waited" "[I" : Cond).before a s = true := kw (A := ixX11_waitsOtherwise) wt162 hts (by decide +kernel)
theorem iX11_waitsOtherwise_X11 : ∀ w ∈ wsX110, w ∈ wsX11_waitsOtherwise := inW (A := ixX11_waitsOtherwise) uwX11 (by decide +kernel)
def dtX11_waitsOtherwise_22_0 : List (Nat × Jvm.ClassFile.Instr × Nat) := [(0, .aload_n 0, 1), (1, .getfield 39, 3), (4, .bipush 9, 2), (6, .iaload, 1), (7, .iconst 1, 1), (8, .isub, 1), (9, .istore_n 1, 1), (10, .aload_n 0, 1), (11, .getfield 66, 3), (14, .iload_n 1, 1), (15, .iaload, 1), (16, .istore_n 2, 1), (17, .iload_n 1, 1), (18, .iconst 1, 1), (19, .isub, 1), (20, .istore_n 3, 1), (21, .iload_n 3, 1), (22, .ifCond .lt 68, 3), (25, .iload_n 2, 1), (26, .ifCond .le 49, 3), (75, .iload_n 2, 1), (76, .aload_n 0, 1), (77, .getfield 66, 3), (80, .iload_n 3, 1), (81, .iaload, 1), (82, .iadd, 1), (83, .istore_n 2, 1), (84, .iinc 3 (-1), 3), (87, .goto (-66), 3), (29, .aload_n 0, 1), (30, .getfield 66, 3), (33, .iload_n 3, 1)]
theorem daX11_waitsOtherwise_22_0 : dtX11_waitsOtherwise_22_0.all (dqd cX11_waitsOtherwise) = true := by decide +kernel
theorem dX11_waitsOtherwise_0 : decode cX11_waitsOtherwise 0 = .ok (.aload_n 0, 1) := dq daX11_waitsOtherwise_22_0 0 rfl
theorem dX11_waitsOtherwise_1 : decode cX11_waitsOtherwise 1 = .ok (.getfield 39, 3) := dq daX11_waitsOtherwise_22_0 1 rfl
theorem dX11_waitsOtherwise_4 : decode cX11_waitsOtherwise 4 = .ok (.bipush 9, 2) := dq daX11_waitsOtherwise_22_0 2 rfl
theorem dX11_waitsOtherwise_6 : decode cX11_waitsOtherwise 6 = .ok (.iaload, 1) := dq daX11_waitsOtherwise_22_0 3 rfl
theorem dX11_waitsOtherwise_7 : decode cX11_waitsOtherwise 7 = .ok (.iconst 1, 1) := dq daX11_waitsOtherwise_22_0 4 rfl
theorem dX11_waitsOtherwise_8 : decode cX11_waitsOtherwise 8 = .ok (.isub, 1) := dq daX11_waitsOtherwise_22_0 5 rfl
theorem dX11_waitsOtherwise_9 : decode cX11_waitsOtherwise 9 = .ok (.istore_n 1, 1) := dq daX11_waitsOtherwise_22_0 6 rfl
theorem dX11_waitsOtherwise_10 : decode cX11_waitsOtherwise 10 = .ok (.aload_n 0, 1) := dq daX11_waitsOtherwise_22_0 7 rfl
theorem dX11_waitsOtherwise_11 : decode cX11_waitsOtherwise 11 = .ok (.getfield 66, 3) := dq daX11_waitsOtherwise_22_0 8 rfl
theorem dX11_waitsOtherwise_14 : decode cX11_waitsOtherwise 14 = .ok (.iload_n 1, 1) := dq daX11_waitsOtherwise_22_0 9 rfl
theorem dX11_waitsOtherwise_15 : decode cX11_waitsOtherwise 15 = .ok (.iaload, 1) := dq daX11_waitsOtherwise_22_0 10 rfl
theorem dX11_waitsOtherwise_16 : decode cX11_waitsOtherwise 16 = .ok (.istore_n 2, 1) := dq daX11_waitsOtherwise_22_0 11 rfl
theorem dX11_waitsOtherwise_17 : decode cX11_waitsOtherwise 17 = .ok (.iload_n 1, 1) := dq daX11_waitsOtherwise_22_0 12 rfl
theorem dX11_waitsOtherwise_18 : decode cX11_waitsOtherwise 18 = .ok (.iconst 1, 1) := dq daX11_waitsOtherwise_22_0 13 rfl
theorem dX11_waitsOtherwise_19 : decode cX11_waitsOtherwise 19 = .ok (.isub, 1) := dq daX11_waitsOtherwise_22_0 14 rfl
theorem dX11_waitsOtherwise_20 : decode cX11_waitsOtherwise 20 = .ok (.istore_n 3, 1) := dq daX11_waitsOtherwise_22_0 15 rfl
theorem dX11_waitsOtherwise_21 : decode cX11_waitsOtherwise 21 = .ok (.iload_n 3, 1) := dq daX11_waitsOtherwise_22_0 16 rfl
theorem dX11_waitsOtherwise_22 : decode cX11_waitsOtherwise 22 = .ok (.ifCond .lt 68, 3) := dq daX11_waitsOtherwise_22_0 17 rfl
theorem dX11_waitsOtherwise_25 : decode cX11_waitsOtherwise 25 = .ok (.iload_n 2, 1) := dq daX11_waitsOtherwise_22_0 18 rfl
theorem dX11_waitsOtherwise_26 : decode cX11_waitsOtherwise 26 = .ok (.ifCond .le 49, 3) := dq daX11_waitsOtherwise_22_0 19 rfl
theorem dX11_waitsOtherwise_75 : decode cX11_waitsOtherwise 75 = .ok (.iload_n 2, 1) := dq daX11_waitsOtherwise_22_0 20 rfl
theorem dX11_waitsOtherwise_76 : decode cX11_waitsOtherwise 76 = .ok (.aload_n 0, 1) := dq daX11_waitsOtherwise_22_0 21 rfl
theorem dX11_waitsOtherwise_77 : decode cX11_waitsOtherwise 77 = .ok (.getfield 66, 3) := dq daX11_waitsOtherwise_22_0 22 rfl
theorem dX11_waitsOtherwise_80 : decode cX11_waitsOtherwise 80 = .ok (.iload_n 3, 1) := dq daX11_waitsOtherwise_22_0 23 rfl
theorem dX11_waitsOtherwise_81 : decode cX11_waitsOtherwise 81 = .ok (.iaload, 1) := dq daX11_waitsOtherwise_22_0 24 rfl
theorem dX11_waitsOtherwise_82 : decode cX11_waitsOtherwise 82 = .ok (.iadd, 1) := dq daX11_waitsOtherwise_22_0 25 rfl
theorem dX11_waitsOtherwise_83 : decode cX11_waitsOtherwise 83 = .ok (.istore_n 2, 1) := dq daX11_waitsOtherwise_22_0 26 rfl
theorem dX11_waitsOtherwise_84 : decode cX11_waitsOtherwise 84 = .ok (.iinc 3 (-1), 3) := dq daX11_waitsOtherwise_22_0 27 rfl
theorem dX11_waitsOtherwise_87 : decode cX11_waitsOtherwise 87 = .ok (.goto (-66), 3) := dq daX11_waitsOtherwise_22_0 28 rfl
theorem dX11_waitsOtherwise_29 : decode cX11_waitsOtherwise 29 = .ok (.aload_n 0, 1) := dq daX11_waitsOtherwise_22_0 29 rfl
theorem dX11_waitsOtherwise_30 : decode cX11_waitsOtherwise 30 = .ok (.getfield 66, 3) := dq daX11_waitsOtherwise_22_0 30 rfl
theorem dX11_waitsOtherwise_33 : decode cX11_waitsOtherwise 33 = .ok (.iload_n 3, 1) := dq daX11_waitsOtherwise_22_0 31 rfl
def dtX11_waitsOtherwise_22_1 : List (Nat × Jvm.ClassFile.Instr × Nat) := [(34, .dup2, 1), (35, .iaload, 1), (36, .iconst 1, 1), (37, .iadd, 1), (38, .iastore, 1), (39, .iload_n 3, 1), (40, .iconst 1, 1), (41, .iadd, 1), (42, .istore 4, 2), (44, .iload 4, 2), (46, .iload_n 1, 1), (47, .if_icmp .ge 17, 3), (50, .aload_n 0, 1), (51, .getfield 66, 3), (54, .iload 4, 2), (56, .iconst 0, 1), (57, .iastore, 1), (58, .iinc 4 1, 3), (61, .goto (-17), 3), (64, .aload_n 0, 1), (65, .getfield 66, 3), (68, .iload_n 1, 1), (69, .iload_n 2, 1), (70, .iconst 1, 1), (71, .isub, 1), (72, .iastore, 1), (73, .iconst 1, 1), (90, .iconst 0, 1), (91, .ireturn, 1), (74, .ireturn, 1)]
theorem daX11_waitsOtherwise_22_1 : dtX11_waitsOtherwise_22_1.all (dqd cX11_waitsOtherwise) = true := by decide +kernel
theorem dX11_waitsOtherwise_34 : decode cX11_waitsOtherwise 34 = .ok (.dup2, 1) := dq daX11_waitsOtherwise_22_1 0 rfl
theorem dX11_waitsOtherwise_35 : decode cX11_waitsOtherwise 35 = .ok (.iaload, 1) := dq daX11_waitsOtherwise_22_1 1 rfl
theorem dX11_waitsOtherwise_36 : decode cX11_waitsOtherwise 36 = .ok (.iconst 1, 1) := dq daX11_waitsOtherwise_22_1 2 rfl
theorem dX11_waitsOtherwise_37 : decode cX11_waitsOtherwise 37 = .ok (.iadd, 1) := dq daX11_waitsOtherwise_22_1 3 rfl
theorem dX11_waitsOtherwise_38 : decode cX11_waitsOtherwise 38 = .ok (.iastore, 1) := dq daX11_waitsOtherwise_22_1 4 rfl
theorem dX11_waitsOtherwise_39 : decode cX11_waitsOtherwise 39 = .ok (.iload_n 3, 1) := dq daX11_waitsOtherwise_22_1 5 rfl
theorem dX11_waitsOtherwise_40 : decode cX11_waitsOtherwise 40 = .ok (.iconst 1, 1) := dq daX11_waitsOtherwise_22_1 6 rfl
theorem dX11_waitsOtherwise_41 : decode cX11_waitsOtherwise 41 = .ok (.iadd, 1) := dq daX11_waitsOtherwise_22_1 7 rfl
theorem dX11_waitsOtherwise_42 : decode cX11_waitsOtherwise 42 = .ok (.istore 4, 2) := dq daX11_waitsOtherwise_22_1 8 rfl
theorem dX11_waitsOtherwise_44 : decode cX11_waitsOtherwise 44 = .ok (.iload 4, 2) := dq daX11_waitsOtherwise_22_1 9 rfl
theorem dX11_waitsOtherwise_46 : decode cX11_waitsOtherwise 46 = .ok (.iload_n 1, 1) := dq daX11_waitsOtherwise_22_1 10 rfl
theorem dX11_waitsOtherwise_47 : decode cX11_waitsOtherwise 47 = .ok (.if_icmp .ge 17, 3) := dq daX11_waitsOtherwise_22_1 11 rfl
theorem dX11_waitsOtherwise_50 : decode cX11_waitsOtherwise 50 = .ok (.aload_n 0, 1) := dq daX11_waitsOtherwise_22_1 12 rfl
theorem dX11_waitsOtherwise_51 : decode cX11_waitsOtherwise 51 = .ok (.getfield 66, 3) := dq daX11_waitsOtherwise_22_1 13 rfl
theorem dX11_waitsOtherwise_54 : decode cX11_waitsOtherwise 54 = .ok (.iload 4, 2) := dq daX11_waitsOtherwise_22_1 14 rfl
theorem dX11_waitsOtherwise_56 : decode cX11_waitsOtherwise 56 = .ok (.iconst 0, 1) := dq daX11_waitsOtherwise_22_1 15 rfl
theorem dX11_waitsOtherwise_57 : decode cX11_waitsOtherwise 57 = .ok (.iastore, 1) := dq daX11_waitsOtherwise_22_1 16 rfl
theorem dX11_waitsOtherwise_58 : decode cX11_waitsOtherwise 58 = .ok (.iinc 4 1, 3) := dq daX11_waitsOtherwise_22_1 17 rfl
theorem dX11_waitsOtherwise_61 : decode cX11_waitsOtherwise 61 = .ok (.goto (-17), 3) := dq daX11_waitsOtherwise_22_1 18 rfl
theorem dX11_waitsOtherwise_64 : decode cX11_waitsOtherwise 64 = .ok (.aload_n 0, 1) := dq daX11_waitsOtherwise_22_1 19 rfl
theorem dX11_waitsOtherwise_65 : decode cX11_waitsOtherwise 65 = .ok (.getfield 66, 3) := dq daX11_waitsOtherwise_22_1 20 rfl
theorem dX11_waitsOtherwise_68 : decode cX11_waitsOtherwise 68 = .ok (.iload_n 1, 1) := dq daX11_waitsOtherwise_22_1 21 rfl
theorem dX11_waitsOtherwise_69 : decode cX11_waitsOtherwise 69 = .ok (.iload_n 2, 1) := dq daX11_waitsOtherwise_22_1 22 rfl
theorem dX11_waitsOtherwise_70 : decode cX11_waitsOtherwise 70 = .ok (.iconst 1, 1) := dq daX11_waitsOtherwise_22_1 23 rfl
theorem dX11_waitsOtherwise_71 : decode cX11_waitsOtherwise 71 = .ok (.isub, 1) := dq daX11_waitsOtherwise_22_1 24 rfl
theorem dX11_waitsOtherwise_72 : decode cX11_waitsOtherwise 72 = .ok (.iastore, 1) := dq daX11_waitsOtherwise_22_1 25 rfl
theorem dX11_waitsOtherwise_73 : decode cX11_waitsOtherwise 73 = .ok (.iconst 1, 1) := dq daX11_waitsOtherwise_22_1 26 rfl
theorem dX11_waitsOtherwise_90 : decode cX11_waitsOtherwise 90 = .ok (.iconst 0, 1) := dq daX11_waitsOtherwise_22_1 27 rfl
theorem dX11_waitsOtherwise_91 : decode cX11_waitsOtherwise 91 = .ok (.ireturn, 1) := dq daX11_waitsOtherwise_22_1 28 rfl
theorem dX11_waitsOtherwise_74 : decode cX11_waitsOtherwise 74 = .ok (.ireturn, 1) := dq daX11_waitsOtherwise_22_1 29 rfl
