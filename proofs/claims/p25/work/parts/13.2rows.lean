theorem kX11_at_1 {a : Array Value} {s : State} (hts : ∀ w ∈ wsX11_at, w.before a s = true) : (.constantLong RX11 371 (5) : Cond).before a s = true := kw (A := ixX11_at) wt892 hts (by decide +kernel)
theorem kX11_at_2 {a : Array Value} {s : State} (hts : ∀ w ∈ wsX11_at, w.before a s = true) : (.fieldLink RX11 39 "SnowMulesModel" "said" "[I" : Cond).before a s = true := kw (A := ixX11_at) wt153 hts (by decide +kernel)
theorem kX11_of_1 {a : Array Value} {s : State} (hts : ∀ w ∈ wsX11_of, w.before a s = true) : (.constantLong RX11 373 (8) : Cond).before a s = true := kw (A := ixX11_of) wt901 hts (by decide +kernel)
theorem kX11_wayEnd_1 {a : Array Value} {s : State} (hts : ∀ w ∈ wsX11_wayEnd, w.before a s = true) : (.fieldLink RX11 39 "SnowMulesModel" "said" "[I" : Cond).before a s = true := kw (A := ixX11_wayEnd) wt153 hts (by decide +kernel)
theorem kX11_isOfWay_1 {a : Array Value} {s : State} (hts : ∀ w ∈ wsX11_isOfWay, w.before a s = true) : (.fieldLink RX11 39 "SnowMulesModel" "said" "[I" : Cond).before a s = true := kw (A := ixX11_isOfWay) wt153 hts (by decide +kernel)
theorem iX11_at_X11 : ∀ w ∈ wsX110, w ∈ wsX11_at := inW (A := ixX11_at) uwX11 (by decide +kernel)
theorem iX11_wayEnd_X11 : ∀ w ∈ wsX110, w ∈ wsX11_wayEnd := inW (A := ixX11_wayEnd) uwX11 (by decide +kernel)
theorem iX11_isOfWay_X11 : ∀ w ∈ wsX110, w ∈ wsX11_isOfWay := inW (A := ixX11_isOfWay) uwX11 (by decide +kernel)
def dtX11_at_13_0 : List (Nat × Jvm.ClassFile.Instr × Nat) := [(0, .aload_n 0, 1), (1, .iload_n 1, 1), (2, .invokevirtual 267, 3), (5, .ifCond .eq 15, 3), (20, .iconst (-1), 1), (21, .ireturn, 1), (8, .iload_n 2, 1), (9, .i2l, 1), (10, .lconst 0, 1), (11, .ldc2_w 371, 3), (14, .invokestatic 118, 3), (17, .ifCond .ne 5, 3), (22, .iload_n 2, 1), (23, .iconst 4, 1), (24, .if_icmp .ge 10, 3), (34, .iload_n 2, 1), (35, .iconst 4, 1), (36, .if_icmp .ne 27, 3), (63, .iconst 0, 1), (64, .istore_n 3, 1), (65, .iconst 0, 1), (66, .istore 4, 2), (68, .iload 4, 2), (70, .aload_n 0, 1), (71, .getfield 39, 3), (74, .iconst 2, 1), (75, .iaload, 1), (76, .if_icmp .ge 28, 3), (79, .iload_n 3, 1), (80, .aload_n 0, 1), (81, .iload 4, 2), (83, .iconst 5, 1)]
theorem daX11_at_13_0 : dtX11_at_13_0.all (dqd cX11_at) = true := by decide +kernel
theorem dX11_at_0 : decode cX11_at 0 = .ok (.aload_n 0, 1) := dq daX11_at_13_0 0 rfl
theorem dX11_at_1 : decode cX11_at 1 = .ok (.iload_n 1, 1) := dq daX11_at_13_0 1 rfl
theorem dX11_at_2 : decode cX11_at 2 = .ok (.invokevirtual 267, 3) := dq daX11_at_13_0 2 rfl
theorem dX11_at_5 : decode cX11_at 5 = .ok (.ifCond .eq 15, 3) := dq daX11_at_13_0 3 rfl
theorem dX11_at_20 : decode cX11_at 20 = .ok (.iconst (-1), 1) := dq daX11_at_13_0 4 rfl
theorem dX11_at_21 : decode cX11_at 21 = .ok (.ireturn, 1) := dq daX11_at_13_0 5 rfl
theorem dX11_at_8 : decode cX11_at 8 = .ok (.iload_n 2, 1) := dq daX11_at_13_0 6 rfl
theorem dX11_at_9 : decode cX11_at 9 = .ok (.i2l, 1) := dq daX11_at_13_0 7 rfl
theorem dX11_at_10 : decode cX11_at 10 = .ok (.lconst 0, 1) := dq daX11_at_13_0 8 rfl
theorem dX11_at_11 : decode cX11_at 11 = .ok (.ldc2_w 371, 3) := dq daX11_at_13_0 9 rfl
theorem dX11_at_14 : decode cX11_at 14 = .ok (.invokestatic 118, 3) := dq daX11_at_13_0 10 rfl
theorem dX11_at_17 : decode cX11_at 17 = .ok (.ifCond .ne 5, 3) := dq daX11_at_13_0 11 rfl
theorem dX11_at_22 : decode cX11_at 22 = .ok (.iload_n 2, 1) := dq daX11_at_13_0 12 rfl
theorem dX11_at_23 : decode cX11_at 23 = .ok (.iconst 4, 1) := dq daX11_at_13_0 13 rfl
theorem dX11_at_24 : decode cX11_at 24 = .ok (.if_icmp .ge 10, 3) := dq daX11_at_13_0 14 rfl
theorem dX11_at_34 : decode cX11_at 34 = .ok (.iload_n 2, 1) := dq daX11_at_13_0 15 rfl
theorem dX11_at_35 : decode cX11_at 35 = .ok (.iconst 4, 1) := dq daX11_at_13_0 16 rfl
theorem dX11_at_36 : decode cX11_at 36 = .ok (.if_icmp .ne 27, 3) := dq daX11_at_13_0 17 rfl
theorem dX11_at_63 : decode cX11_at 63 = .ok (.iconst 0, 1) := dq daX11_at_13_0 18 rfl
theorem dX11_at_64 : decode cX11_at 64 = .ok (.istore_n 3, 1) := dq daX11_at_13_0 19 rfl
theorem dX11_at_65 : decode cX11_at 65 = .ok (.iconst 0, 1) := dq daX11_at_13_0 20 rfl
theorem dX11_at_66 : decode cX11_at 66 = .ok (.istore 4, 2) := dq daX11_at_13_0 21 rfl
theorem dX11_at_68 : decode cX11_at 68 = .ok (.iload 4, 2) := dq daX11_at_13_0 22 rfl
theorem dX11_at_70 : decode cX11_at 70 = .ok (.aload_n 0, 1) := dq daX11_at_13_0 23 rfl
theorem dX11_at_71 : decode cX11_at 71 = .ok (.getfield 39, 3) := dq daX11_at_13_0 24 rfl
theorem dX11_at_74 : decode cX11_at 74 = .ok (.iconst 2, 1) := dq daX11_at_13_0 25 rfl
theorem dX11_at_75 : decode cX11_at 75 = .ok (.iaload, 1) := dq daX11_at_13_0 26 rfl
theorem dX11_at_76 : decode cX11_at 76 = .ok (.if_icmp .ge 28, 3) := dq daX11_at_13_0 27 rfl
theorem dX11_at_79 : decode cX11_at 79 = .ok (.iload_n 3, 1) := dq daX11_at_13_0 28 rfl
theorem dX11_at_80 : decode cX11_at 80 = .ok (.aload_n 0, 1) := dq daX11_at_13_0 29 rfl
theorem dX11_at_81 : decode cX11_at 81 = .ok (.iload 4, 2) := dq daX11_at_13_0 30 rfl
theorem dX11_at_83 : decode cX11_at 83 = .ok (.iconst 5, 1) := dq daX11_at_13_0 31 rfl
def dtX11_at_13_1 : List (Nat × Jvm.ClassFile.Instr × Nat) := [(84, .invokevirtual 283, 3), (87, .iload_n 1, 1), (88, .if_icmp .ne 7, 3), (95, .iconst 0, 1), (96, .iadd, 1), (97, .istore_n 3, 1), (98, .iinc 4 1, 3), (101, .goto (-33), 3), (91, .iconst 1, 1), (92, .goto 4, 3), (104, .iload_n 3, 1), (105, .ireturn, 1), (39, .aload_n 0, 1), (40, .iload_n 1, 1), (41, .aload_n 0, 1), (42, .aload_n 0, 1), (43, .getfield 39, 3), (46, .iconst 5, 1), (47, .iaload, 1), (48, .invokevirtual 291, 3), (51, .invokevirtual 294, 3), (54, .ifCond .eq 7, 3), (61, .iconst 0, 1), (62, .ireturn, 1), (57, .iconst 1, 1), (58, .goto 4, 3), (27, .aload_n 0, 1), (28, .iload_n 1, 1), (29, .iload_n 2, 1), (30, .invokevirtual 257, 3), (33, .ireturn, 1)]
theorem daX11_at_13_1 : dtX11_at_13_1.all (dqd cX11_at) = true := by decide +kernel
theorem dX11_at_84 : decode cX11_at 84 = .ok (.invokevirtual 283, 3) := dq daX11_at_13_1 0 rfl
theorem dX11_at_87 : decode cX11_at 87 = .ok (.iload_n 1, 1) := dq daX11_at_13_1 1 rfl
theorem dX11_at_88 : decode cX11_at 88 = .ok (.if_icmp .ne 7, 3) := dq daX11_at_13_1 2 rfl
theorem dX11_at_95 : decode cX11_at 95 = .ok (.iconst 0, 1) := dq daX11_at_13_1 3 rfl
theorem dX11_at_96 : decode cX11_at 96 = .ok (.iadd, 1) := dq daX11_at_13_1 4 rfl
theorem dX11_at_97 : decode cX11_at 97 = .ok (.istore_n 3, 1) := dq daX11_at_13_1 5 rfl
theorem dX11_at_98 : decode cX11_at 98 = .ok (.iinc 4 1, 3) := dq daX11_at_13_1 6 rfl
theorem dX11_at_101 : decode cX11_at 101 = .ok (.goto (-33), 3) := dq daX11_at_13_1 7 rfl
theorem dX11_at_91 : decode cX11_at 91 = .ok (.iconst 1, 1) := dq daX11_at_13_1 8 rfl
theorem dX11_at_92 : decode cX11_at 92 = .ok (.goto 4, 3) := dq daX11_at_13_1 9 rfl
theorem dX11_at_104 : decode cX11_at 104 = .ok (.iload_n 3, 1) := dq daX11_at_13_1 10 rfl
theorem dX11_at_105 : decode cX11_at 105 = .ok (.ireturn, 1) := dq daX11_at_13_1 11 rfl
theorem dX11_at_39 : decode cX11_at 39 = .ok (.aload_n 0, 1) := dq daX11_at_13_1 12 rfl
theorem dX11_at_40 : decode cX11_at 40 = .ok (.iload_n 1, 1) := dq daX11_at_13_1 13 rfl
theorem dX11_at_41 : decode cX11_at 41 = .ok (.aload_n 0, 1) := dq daX11_at_13_1 14 rfl
theorem dX11_at_42 : decode cX11_at 42 = .ok (.aload_n 0, 1) := dq daX11_at_13_1 15 rfl
theorem dX11_at_43 : decode cX11_at 43 = .ok (.getfield 39, 3) := dq daX11_at_13_1 16 rfl
theorem dX11_at_46 : decode cX11_at 46 = .ok (.iconst 5, 1) := dq daX11_at_13_1 17 rfl
theorem dX11_at_47 : decode cX11_at 47 = .ok (.iaload, 1) := dq daX11_at_13_1 18 rfl
theorem dX11_at_48 : decode cX11_at 48 = .ok (.invokevirtual 291, 3) := dq daX11_at_13_1 19 rfl
theorem dX11_at_51 : decode cX11_at 51 = .ok (.invokevirtual 294, 3) := dq daX11_at_13_1 20 rfl
theorem dX11_at_54 : decode cX11_at 54 = .ok (.ifCond .eq 7, 3) := dq daX11_at_13_1 21 rfl
theorem dX11_at_61 : decode cX11_at 61 = .ok (.iconst 0, 1) := dq daX11_at_13_1 22 rfl
theorem dX11_at_62 : decode cX11_at 62 = .ok (.ireturn, 1) := dq daX11_at_13_1 23 rfl
theorem dX11_at_57 : decode cX11_at 57 = .ok (.iconst 1, 1) := dq daX11_at_13_1 24 rfl
theorem dX11_at_58 : decode cX11_at 58 = .ok (.goto 4, 3) := dq daX11_at_13_1 25 rfl
theorem dX11_at_27 : decode cX11_at 27 = .ok (.aload_n 0, 1) := dq daX11_at_13_1 26 rfl
theorem dX11_at_28 : decode cX11_at 28 = .ok (.iload_n 1, 1) := dq daX11_at_13_1 27 rfl
theorem dX11_at_29 : decode cX11_at 29 = .ok (.iload_n 2, 1) := dq daX11_at_13_1 28 rfl
theorem dX11_at_30 : decode cX11_at 30 = .ok (.invokevirtual 257, 3) := dq daX11_at_13_1 29 rfl
theorem dX11_at_33 : decode cX11_at 33 = .ok (.ireturn, 1) := dq daX11_at_13_1 30 rfl
def dtX11_of_13_0 : List (Nat × Jvm.ClassFile.Instr × Nat) := [(0, .aload_n 0, 1), (1, .iload_n 1, 1), (2, .invokevirtual 280, 3), (5, .ifCond .eq 15, 3), (20, .bipush (-2), 2), (22, .ireturn, 1), (8, .iload_n 2, 1), (9, .i2l, 1), (10, .lconst 0, 1), (11, .ldc2_w 373, 3), (14, .invokestatic 118, 3), (17, .ifCond .ne 6, 3), (23, .aload_n 0, 1), (24, .iload_n 1, 1), (25, .iload_n 2, 1), (26, .iconst 5, 1), (27, .if_icmp .ge 9, 3), (36, .iload_n 2, 1), (37, .iconst 5, 1), (38, .isub, 1), (39, .invokevirtual 283, 3), (42, .ireturn, 1), (30, .iload_n 2, 1), (31, .iconst 4, 1), (32, .iadd, 1), (33, .goto 6, 3)]
theorem daX11_of_13_0 : dtX11_of_13_0.all (dqd cX11_of) = true := by decide +kernel
theorem dX11_of_0 : decode cX11_of 0 = .ok (.aload_n 0, 1) := dq daX11_of_13_0 0 rfl
theorem dX11_of_1 : decode cX11_of 1 = .ok (.iload_n 1, 1) := dq daX11_of_13_0 1 rfl
theorem dX11_of_2 : decode cX11_of 2 = .ok (.invokevirtual 280, 3) := dq daX11_of_13_0 2 rfl
theorem dX11_of_5 : decode cX11_of 5 = .ok (.ifCond .eq 15, 3) := dq daX11_of_13_0 3 rfl
theorem dX11_of_20 : decode cX11_of 20 = .ok (.bipush (-2), 2) := dq daX11_of_13_0 4 rfl
theorem dX11_of_22 : decode cX11_of 22 = .ok (.ireturn, 1) := dq daX11_of_13_0 5 rfl
theorem dX11_of_8 : decode cX11_of 8 = .ok (.iload_n 2, 1) := dq daX11_of_13_0 6 rfl
theorem dX11_of_9 : decode cX11_of 9 = .ok (.i2l, 1) := dq daX11_of_13_0 7 rfl
theorem dX11_of_10 : decode cX11_of 10 = .ok (.lconst 0, 1) := dq daX11_of_13_0 8 rfl
theorem dX11_of_11 : decode cX11_of 11 = .ok (.ldc2_w 373, 3) := dq daX11_of_13_0 9 rfl
theorem dX11_of_14 : decode cX11_of 14 = .ok (.invokestatic 118, 3) := dq daX11_of_13_0 10 rfl
theorem dX11_of_17 : decode cX11_of 17 = .ok (.ifCond .ne 6, 3) := dq daX11_of_13_0 11 rfl
theorem dX11_of_23 : decode cX11_of 23 = .ok (.aload_n 0, 1) := dq daX11_of_13_0 12 rfl
theorem dX11_of_24 : decode cX11_of 24 = .ok (.iload_n 1, 1) := dq daX11_of_13_0 13 rfl
theorem dX11_of_25 : decode cX11_of 25 = .ok (.iload_n 2, 1) := dq daX11_of_13_0 14 rfl
theorem dX11_of_26 : decode cX11_of 26 = .ok (.iconst 5, 1) := dq daX11_of_13_0 15 rfl
theorem dX11_of_27 : decode cX11_of 27 = .ok (.if_icmp .ge 9, 3) := dq daX11_of_13_0 16 rfl
theorem dX11_of_36 : decode cX11_of 36 = .ok (.iload_n 2, 1) := dq daX11_of_13_0 17 rfl
theorem dX11_of_37 : decode cX11_of 37 = .ok (.iconst 5, 1) := dq daX11_of_13_0 18 rfl
theorem dX11_of_38 : decode cX11_of 38 = .ok (.isub, 1) := dq daX11_of_13_0 19 rfl
theorem dX11_of_39 : decode cX11_of 39 = .ok (.invokevirtual 283, 3) := dq daX11_of_13_0 20 rfl
theorem dX11_of_42 : decode cX11_of 42 = .ok (.ireturn, 1) := dq daX11_of_13_0 21 rfl
theorem dX11_of_30 : decode cX11_of 30 = .ok (.iload_n 2, 1) := dq daX11_of_13_0 22 rfl
theorem dX11_of_31 : decode cX11_of 31 = .ok (.iconst 4, 1) := dq daX11_of_13_0 23 rfl
theorem dX11_of_32 : decode cX11_of 32 = .ok (.iadd, 1) := dq daX11_of_13_0 24 rfl
theorem dX11_of_33 : decode cX11_of 33 = .ok (.goto 6, 3) := dq daX11_of_13_0 25 rfl
def dtX11_wayEnd_13_0 : List (Nat × Jvm.ClassFile.Instr × Nat) := [(0, .aload_n 0, 1), (1, .getfield 39, 3), (4, .bipush 8, 2), (6, .iaload, 1), (7, .istore_n 1, 1), (8, .iconst 0, 1), (9, .istore_n 2, 1), (10, .iload_n 2, 1), (11, .aload_n 0, 1), (12, .getfield 39, 3), (15, .bipush 9, 2), (17, .iaload, 1), (18, .if_icmp .ge 24, 3), (21, .aload_n 0, 1), (22, .aload_n 0, 1), (23, .getfield 39, 3), (26, .bipush 10, 2), (28, .iload_n 2, 1), (29, .iadd, 1), (30, .iaload, 1), (31, .iload_n 1, 1), (32, .invokevirtual 309, 3), (35, .istore_n 1, 1), (36, .iinc 2 1, 3), (39, .goto (-29), 3), (42, .iload_n 1, 1), (43, .ireturn, 1)]
theorem daX11_wayEnd_13_0 : dtX11_wayEnd_13_0.all (dqd cX11_wayEnd) = true := by decide +kernel
theorem dX11_wayEnd_0 : decode cX11_wayEnd 0 = .ok (.aload_n 0, 1) := dq daX11_wayEnd_13_0 0 rfl
theorem dX11_wayEnd_1 : decode cX11_wayEnd 1 = .ok (.getfield 39, 3) := dq daX11_wayEnd_13_0 1 rfl
theorem dX11_wayEnd_4 : decode cX11_wayEnd 4 = .ok (.bipush 8, 2) := dq daX11_wayEnd_13_0 2 rfl
theorem dX11_wayEnd_6 : decode cX11_wayEnd 6 = .ok (.iaload, 1) := dq daX11_wayEnd_13_0 3 rfl
theorem dX11_wayEnd_7 : decode cX11_wayEnd 7 = .ok (.istore_n 1, 1) := dq daX11_wayEnd_13_0 4 rfl
theorem dX11_wayEnd_8 : decode cX11_wayEnd 8 = .ok (.iconst 0, 1) := dq daX11_wayEnd_13_0 5 rfl
theorem dX11_wayEnd_9 : decode cX11_wayEnd 9 = .ok (.istore_n 2, 1) := dq daX11_wayEnd_13_0 6 rfl
theorem dX11_wayEnd_10 : decode cX11_wayEnd 10 = .ok (.iload_n 2, 1) := dq daX11_wayEnd_13_0 7 rfl
theorem dX11_wayEnd_11 : decode cX11_wayEnd 11 = .ok (.aload_n 0, 1) := dq daX11_wayEnd_13_0 8 rfl
theorem dX11_wayEnd_12 : decode cX11_wayEnd 12 = .ok (.getfield 39, 3) := dq daX11_wayEnd_13_0 9 rfl
theorem dX11_wayEnd_15 : decode cX11_wayEnd 15 = .ok (.bipush 9, 2) := dq daX11_wayEnd_13_0 10 rfl
theorem dX11_wayEnd_17 : decode cX11_wayEnd 17 = .ok (.iaload, 1) := dq daX11_wayEnd_13_0 11 rfl
theorem dX11_wayEnd_18 : decode cX11_wayEnd 18 = .ok (.if_icmp .ge 24, 3) := dq daX11_wayEnd_13_0 12 rfl
theorem dX11_wayEnd_21 : decode cX11_wayEnd 21 = .ok (.aload_n 0, 1) := dq daX11_wayEnd_13_0 13 rfl
theorem dX11_wayEnd_22 : decode cX11_wayEnd 22 = .ok (.aload_n 0, 1) := dq daX11_wayEnd_13_0 14 rfl
theorem dX11_wayEnd_23 : decode cX11_wayEnd 23 = .ok (.getfield 39, 3) := dq daX11_wayEnd_13_0 15 rfl
theorem dX11_wayEnd_26 : decode cX11_wayEnd 26 = .ok (.bipush 10, 2) := dq daX11_wayEnd_13_0 16 rfl
theorem dX11_wayEnd_28 : decode cX11_wayEnd 28 = .ok (.iload_n 2, 1) := dq daX11_wayEnd_13_0 17 rfl
theorem dX11_wayEnd_29 : decode cX11_wayEnd 29 = .ok (.iadd, 1) := dq daX11_wayEnd_13_0 18 rfl
theorem dX11_wayEnd_30 : decode cX11_wayEnd 30 = .ok (.iaload, 1) := dq daX11_wayEnd_13_0 19 rfl
theorem dX11_wayEnd_31 : decode cX11_wayEnd 31 = .ok (.iload_n 1, 1) := dq daX11_wayEnd_13_0 20 rfl
theorem dX11_wayEnd_32 : decode cX11_wayEnd 32 = .ok (.invokevirtual 309, 3) := dq daX11_wayEnd_13_0 21 rfl
theorem dX11_wayEnd_35 : decode cX11_wayEnd 35 = .ok (.istore_n 1, 1) := dq daX11_wayEnd_13_0 22 rfl
theorem dX11_wayEnd_36 : decode cX11_wayEnd 36 = .ok (.iinc 2 1, 3) := dq daX11_wayEnd_13_0 23 rfl
theorem dX11_wayEnd_39 : decode cX11_wayEnd 39 = .ok (.goto (-29), 3) := dq daX11_wayEnd_13_0 24 rfl
theorem dX11_wayEnd_42 : decode cX11_wayEnd 42 = .ok (.iload_n 1, 1) := dq daX11_wayEnd_13_0 25 rfl
theorem dX11_wayEnd_43 : decode cX11_wayEnd 43 = .ok (.ireturn, 1) := dq daX11_wayEnd_13_0 26 rfl
def dtX11_isOfWay_13_0 : List (Nat × Jvm.ClassFile.Instr × Nat) := [(0, .aload_n 0, 1), (1, .getfield 39, 3), (4, .bipush 8, 2), (6, .iaload, 1), (7, .istore_n 2, 1), (8, .iload_n 2, 1), (9, .iload_n 1, 1), (10, .if_icmp .ne 7, 3), (17, .iconst 0, 1), (18, .istore_n 3, 1), (19, .iconst 0, 1), (20, .istore 4, 2), (22, .iload 4, 2), (24, .aload_n 0, 1), (25, .getfield 39, 3), (28, .bipush 9, 2), (30, .iaload, 1), (31, .if_icmp .ge 40, 3), (34, .aload_n 0, 1), (35, .aload_n 0, 1), (36, .getfield 39, 3), (39, .bipush 10, 2), (41, .iload 4, 2), (43, .iadd, 1), (44, .iaload, 1), (45, .iload_n 2, 1), (46, .invokevirtual 309, 3), (49, .istore_n 2, 1), (50, .iload_n 3, 1), (51, .ifCond .ne 8, 3), (54, .iload_n 2, 1), (55, .iload_n 1, 1)]
theorem daX11_isOfWay_13_0 : dtX11_isOfWay_13_0.all (dqd cX11_isOfWay) = true := by decide +kernel
theorem dX11_isOfWay_0 : decode cX11_isOfWay 0 = .ok (.aload_n 0, 1) := dq daX11_isOfWay_13_0 0 rfl
theorem dX11_isOfWay_1 : decode cX11_isOfWay 1 = .ok (.getfield 39, 3) := dq daX11_isOfWay_13_0 1 rfl
theorem dX11_isOfWay_4 : decode cX11_isOfWay 4 = .ok (.bipush 8, 2) := dq daX11_isOfWay_13_0 2 rfl
theorem dX11_isOfWay_6 : decode cX11_isOfWay 6 = .ok (.iaload, 1) := dq daX11_isOfWay_13_0 3 rfl
theorem dX11_isOfWay_7 : decode cX11_isOfWay 7 = .ok (.istore_n 2, 1) := dq daX11_isOfWay_13_0 4 rfl
theorem dX11_isOfWay_8 : decode cX11_isOfWay 8 = .ok (.iload_n 2, 1) := dq daX11_isOfWay_13_0 5 rfl
theorem dX11_isOfWay_9 : decode cX11_isOfWay 9 = .ok (.iload_n 1, 1) := dq daX11_isOfWay_13_0 6 rfl
theorem dX11_isOfWay_10 : decode cX11_isOfWay 10 = .ok (.if_icmp .ne 7, 3) := dq daX11_isOfWay_13_0 7 rfl
theorem dX11_isOfWay_17 : decode cX11_isOfWay 17 = .ok (.iconst 0, 1) := dq daX11_isOfWay_13_0 8 rfl
theorem dX11_isOfWay_18 : decode cX11_isOfWay 18 = .ok (.istore_n 3, 1) := dq daX11_isOfWay_13_0 9 rfl
theorem dX11_isOfWay_19 : decode cX11_isOfWay 19 = .ok (.iconst 0, 1) := dq daX11_isOfWay_13_0 10 rfl
theorem dX11_isOfWay_20 : decode cX11_isOfWay 20 = .ok (.istore 4, 2) := dq daX11_isOfWay_13_0 11 rfl
theorem dX11_isOfWay_22 : decode cX11_isOfWay 22 = .ok (.iload 4, 2) := dq daX11_isOfWay_13_0 12 rfl
theorem dX11_isOfWay_24 : decode cX11_isOfWay 24 = .ok (.aload_n 0, 1) := dq daX11_isOfWay_13_0 13 rfl
theorem dX11_isOfWay_25 : decode cX11_isOfWay 25 = .ok (.getfield 39, 3) := dq daX11_isOfWay_13_0 14 rfl
theorem dX11_isOfWay_28 : decode cX11_isOfWay 28 = .ok (.bipush 9, 2) := dq daX11_isOfWay_13_0 15 rfl
theorem dX11_isOfWay_30 : decode cX11_isOfWay 30 = .ok (.iaload, 1) := dq daX11_isOfWay_13_0 16 rfl
theorem dX11_isOfWay_31 : decode cX11_isOfWay 31 = .ok (.if_icmp .ge 40, 3) := dq daX11_isOfWay_13_0 17 rfl
theorem dX11_isOfWay_34 : decode cX11_isOfWay 34 = .ok (.aload_n 0, 1) := dq daX11_isOfWay_13_0 18 rfl
theorem dX11_isOfWay_35 : decode cX11_isOfWay 35 = .ok (.aload_n 0, 1) := dq daX11_isOfWay_13_0 19 rfl
theorem dX11_isOfWay_36 : decode cX11_isOfWay 36 = .ok (.getfield 39, 3) := dq daX11_isOfWay_13_0 20 rfl
theorem dX11_isOfWay_39 : decode cX11_isOfWay 39 = .ok (.bipush 10, 2) := dq daX11_isOfWay_13_0 21 rfl
theorem dX11_isOfWay_41 : decode cX11_isOfWay 41 = .ok (.iload 4, 2) := dq daX11_isOfWay_13_0 22 rfl
theorem dX11_isOfWay_43 : decode cX11_isOfWay 43 = .ok (.iadd, 1) := dq daX11_isOfWay_13_0 23 rfl
theorem dX11_isOfWay_44 : decode cX11_isOfWay 44 = .ok (.iaload, 1) := dq daX11_isOfWay_13_0 24 rfl
theorem dX11_isOfWay_45 : decode cX11_isOfWay 45 = .ok (.iload_n 2, 1) := dq daX11_isOfWay_13_0 25 rfl
theorem dX11_isOfWay_46 : decode cX11_isOfWay 46 = .ok (.invokevirtual 309, 3) := dq daX11_isOfWay_13_0 26 rfl
theorem dX11_isOfWay_49 : decode cX11_isOfWay 49 = .ok (.istore_n 2, 1) := dq daX11_isOfWay_13_0 27 rfl
theorem dX11_isOfWay_50 : decode cX11_isOfWay 50 = .ok (.iload_n 3, 1) := dq daX11_isOfWay_13_0 28 rfl
theorem dX11_isOfWay_51 : decode cX11_isOfWay 51 = .ok (.ifCond .ne 8, 3) := dq daX11_isOfWay_13_0 29 rfl
theorem dX11_isOfWay_54 : decode cX11_isOfWay 54 = .ok (.iload_n 2, 1) := dq daX11_isOfWay_13_0 30 rfl
theorem dX11_isOfWay_55 : decode cX11_isOfWay 55 = .ok (.iload_n 1, 1) := dq daX11_isOfWay_13_0 31 rfl
def dtX11_isOfWay_13_1 : List (Nat × Jvm.ClassFile.Instr × Nat) := [(56, .if_icmp .ne 7, 3), (63, .iconst 0, 1), (64, .istore_n 3, 1), (65, .iinc 4 1, 3), (68, .goto (-46), 3), (59, .iconst 1, 1), (60, .goto 4, 3), (71, .iload_n 3, 1), (72, .ireturn, 1), (13, .iconst 1, 1), (14, .goto 4, 3)]
theorem daX11_isOfWay_13_1 : dtX11_isOfWay_13_1.all (dqd cX11_isOfWay) = true := by decide +kernel
theorem dX11_isOfWay_56 : decode cX11_isOfWay 56 = .ok (.if_icmp .ne 7, 3) := dq daX11_isOfWay_13_1 0 rfl
theorem dX11_isOfWay_63 : decode cX11_isOfWay 63 = .ok (.iconst 0, 1) := dq daX11_isOfWay_13_1 1 rfl
theorem dX11_isOfWay_64 : decode cX11_isOfWay 64 = .ok (.istore_n 3, 1) := dq daX11_isOfWay_13_1 2 rfl
theorem dX11_isOfWay_65 : decode cX11_isOfWay 65 = .ok (.iinc 4 1, 3) := dq daX11_isOfWay_13_1 3 rfl
theorem dX11_isOfWay_68 : decode cX11_isOfWay 68 = .ok (.goto (-46), 3) := dq daX11_isOfWay_13_1 4 rfl
theorem dX11_isOfWay_59 : decode cX11_isOfWay 59 = .ok (.iconst 1, 1) := dq daX11_isOfWay_13_1 5 rfl
theorem dX11_isOfWay_60 : decode cX11_isOfWay 60 = .ok (.goto 4, 3) := dq daX11_isOfWay_13_1 6 rfl
theorem dX11_isOfWay_71 : decode cX11_isOfWay 71 = .ok (.iload_n 3, 1) := dq daX11_isOfWay_13_1 7 rfl
theorem dX11_isOfWay_72 : decode cX11_isOfWay 72 = .ok (.ireturn, 1) := dq daX11_isOfWay_13_1 8 rfl
theorem dX11_isOfWay_13 : decode cX11_isOfWay 13 = .ok (.iconst 1, 1) := dq daX11_isOfWay_13_1 9 rfl
theorem dX11_isOfWay_14 : decode cX11_isOfWay 14 = .ok (.goto 4, 3) := dq daX11_isOfWay_13_1 10 rfl
