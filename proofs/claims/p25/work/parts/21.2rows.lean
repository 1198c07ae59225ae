theorem kX11_spreads_1 {a : Array Value} {s : State} (hts : ∀ w ∈ wsX11_spreads, w.before a s = true) : (.fieldLink RX11 63 "SnowMulesModel" "far" "[I" : Cond).before a s = true := kw (A := ixX11_spreads) wt161 hts (by decide +kernel)
theorem kX11_spreads_2 {a : Array Value} {s : State} (hts : ∀ w ∈ wsX11_spreads, w.before a s = true) : (.fieldLink RX11 39 "SnowMulesModel" "said" "[I" : Cond).before a s = true := kw (A := ixX11_spreads) wt153 hts (by decide +kernel)
theorem kX11_soonest_1 {a : Array Value} {s : State} (hts : ∀ w ∈ wsX11_soonest, w.before a s = true) : (.fieldLink RX11 63 "SnowMulesModel" "far" "[I" : Cond).before a s = true := kw (A := ixX11_soonest) wt161 hts (by decide +kernel)
theorem kX11_nearest_1 {a : Array Value} {s : State} (hts : ∀ w ∈ wsX11_nearest, w.before a s = true) : (.constantLong RX11 278 (11) : Cond).before a s = true := kw (A := ixX11_nearest) wt241 hts (by decide +kernel)
theorem kX11_nearest_2 {a : Array Value} {s : State} (hts : ∀ w ∈ wsX11_nearest, w.before a s = true) : (.fieldLink RX11 39 "SnowMulesModel" "said" "[I" : Cond).before a s = true := kw (A := ixX11_nearest) wt153 hts (by decide +kernel)
theorem kX11_nearest_3 {a : Array Value} {s : State} (hts : ∀ w ∈ wsX11_nearest, w.before a s = true) : (.fieldLink RX11 63 "SnowMulesModel" "far" "[I" : Cond).before a s = true := kw (A := ixX11_nearest) wt161 hts (by decide +kernel)
theorem iX11_spreads_X11 : ∀ w ∈ wsX110, w ∈ wsX11_spreads := inW (A := ixX11_spreads) uwX11 (by decide +kernel)
theorem iX11_soonest_X11 : ∀ w ∈ wsX110, w ∈ wsX11_soonest := inW (A := ixX11_soonest) uwX11 (by decide +kernel)
theorem iX11_nearest_X11 : ∀ w ∈ wsX110, w ∈ wsX11_nearest := inW (A := ixX11_nearest) uwX11 (by decide +kernel)
theorem hdX11_spreads : yX11_spreads.cls ≠ "java/lang/invoke/MethodHandle" ∧ yX11_spreads.cls ≠ "java/lang/invoke/VarHandle" ∧ (parseMethodDescriptor yX11_spreads.desc).map (fun d => d.parameters.length) = some 1 := ⟨hdc_0.1, hdc_0.2, hdd_17⟩
def dtX11_spreads_21_0 : List (Nat × Jvm.ClassFile.Instr × Nat) := [(0, .iconst 0, 1), (1, .istore_n 2, 1), (2, .iload_n 2, 1), (3, .bipush 12, 2), (5, .if_icmp .ge 16, 3), (8, .aload_n 0, 1), (9, .getfield 63, 3), (12, .iload_n 2, 1), (13, .iconst (-1), 1), (14, .iastore, 1), (15, .iinc 2 1, 3), (18, .goto (-16), 3), (21, .aload_n 0, 1), (22, .getfield 63, 3), (25, .iload_n 1, 1), (26, .iconst 0, 1), (27, .iastore, 1), (28, .iconst 1, 1), (29, .istore_n 2, 1), (30, .iload_n 2, 1), (31, .ifCond .eq 131, 3), (34, .iconst 0, 1), (35, .istore_n 2, 1), (36, .iconst 0, 1), (37, .istore_n 3, 1), (38, .iload_n 3, 1), (39, .aload_n 0, 1), (40, .getfield 39, 3), (43, .iconst 1, 1), (44, .iaload, 1), (45, .if_icmp .ge 114, 3), (48, .iconst 0, 1)]
theorem daX11_spreads_21_0 : dtX11_spreads_21_0.all (dqd cX11_spreads) = true := by decide +kernel
theorem dX11_spreads_0 : decode cX11_spreads 0 = .ok (.iconst 0, 1) := dq daX11_spreads_21_0 0 rfl
theorem dX11_spreads_1 : decode cX11_spreads 1 = .ok (.istore_n 2, 1) := dq daX11_spreads_21_0 1 rfl
theorem dX11_spreads_2 : decode cX11_spreads 2 = .ok (.iload_n 2, 1) := dq daX11_spreads_21_0 2 rfl
theorem dX11_spreads_3 : decode cX11_spreads 3 = .ok (.bipush 12, 2) := dq daX11_spreads_21_0 3 rfl
theorem dX11_spreads_5 : decode cX11_spreads 5 = .ok (.if_icmp .ge 16, 3) := dq daX11_spreads_21_0 4 rfl
theorem dX11_spreads_8 : decode cX11_spreads 8 = .ok (.aload_n 0, 1) := dq daX11_spreads_21_0 5 rfl
theorem dX11_spreads_9 : decode cX11_spreads 9 = .ok (.getfield 63, 3) := dq daX11_spreads_21_0 6 rfl
theorem dX11_spreads_12 : decode cX11_spreads 12 = .ok (.iload_n 2, 1) := dq daX11_spreads_21_0 7 rfl
theorem dX11_spreads_13 : decode cX11_spreads 13 = .ok (.iconst (-1), 1) := dq daX11_spreads_21_0 8 rfl
theorem dX11_spreads_14 : decode cX11_spreads 14 = .ok (.iastore, 1) := dq daX11_spreads_21_0 9 rfl
theorem dX11_spreads_15 : decode cX11_spreads 15 = .ok (.iinc 2 1, 3) := dq daX11_spreads_21_0 10 rfl
theorem dX11_spreads_18 : decode cX11_spreads 18 = .ok (.goto (-16), 3) := dq daX11_spreads_21_0 11 rfl
theorem dX11_spreads_21 : decode cX11_spreads 21 = .ok (.aload_n 0, 1) := dq daX11_spreads_21_0 12 rfl
theorem dX11_spreads_22 : decode cX11_spreads 22 = .ok (.getfield 63, 3) := dq daX11_spreads_21_0 13 rfl
theorem dX11_spreads_25 : decode cX11_spreads 25 = .ok (.iload_n 1, 1) := dq daX11_spreads_21_0 14 rfl
theorem dX11_spreads_26 : decode cX11_spreads 26 = .ok (.iconst 0, 1) := dq daX11_spreads_21_0 15 rfl
theorem dX11_spreads_27 : decode cX11_spreads 27 = .ok (.iastore, 1) := dq daX11_spreads_21_0 16 rfl
theorem dX11_spreads_28 : decode cX11_spreads 28 = .ok (.iconst 1, 1) := dq daX11_spreads_21_0 17 rfl
theorem dX11_spreads_29 : decode cX11_spreads 29 = .ok (.istore_n 2, 1) := dq daX11_spreads_21_0 18 rfl
theorem dX11_spreads_30 : decode cX11_spreads 30 = .ok (.iload_n 2, 1) := dq daX11_spreads_21_0 19 rfl
theorem dX11_spreads_31 : decode cX11_spreads 31 = .ok (.ifCond .eq 131, 3) := dq daX11_spreads_21_0 20 rfl
theorem dX11_spreads_34 : decode cX11_spreads 34 = .ok (.iconst 0, 1) := dq daX11_spreads_21_0 21 rfl
theorem dX11_spreads_35 : decode cX11_spreads 35 = .ok (.istore_n 2, 1) := dq daX11_spreads_21_0 22 rfl
theorem dX11_spreads_36 : decode cX11_spreads 36 = .ok (.iconst 0, 1) := dq daX11_spreads_21_0 23 rfl
theorem dX11_spreads_37 : decode cX11_spreads 37 = .ok (.istore_n 3, 1) := dq daX11_spreads_21_0 24 rfl
theorem dX11_spreads_38 : decode cX11_spreads 38 = .ok (.iload_n 3, 1) := dq daX11_spreads_21_0 25 rfl
theorem dX11_spreads_39 : decode cX11_spreads 39 = .ok (.aload_n 0, 1) := dq daX11_spreads_21_0 26 rfl
theorem dX11_spreads_40 : decode cX11_spreads 40 = .ok (.getfield 39, 3) := dq daX11_spreads_21_0 27 rfl
theorem dX11_spreads_43 : decode cX11_spreads 43 = .ok (.iconst 1, 1) := dq daX11_spreads_21_0 28 rfl
theorem dX11_spreads_44 : decode cX11_spreads 44 = .ok (.iaload, 1) := dq daX11_spreads_21_0 29 rfl
theorem dX11_spreads_45 : decode cX11_spreads 45 = .ok (.if_icmp .ge 114, 3) := dq daX11_spreads_21_0 30 rfl
theorem dX11_spreads_48 : decode cX11_spreads 48 = .ok (.iconst 0, 1) := dq daX11_spreads_21_0 31 rfl
def dtX11_spreads_21_1 : List (Nat × Jvm.ClassFile.Instr × Nat) := [(49, .istore 4, 2), (51, .iload 4, 2), (53, .iconst 2, 1), (54, .if_icmp .ge 99, 3), (57, .aload_n 0, 1), (58, .iload_n 3, 1), (59, .iload 4, 2), (61, .invokevirtual 303, 3), (64, .istore 5, 2), (66, .aload_n 0, 1), (67, .iload_n 3, 1), (68, .iconst 1, 1), (69, .iload 4, 2), (71, .isub, 1), (72, .invokevirtual 303, 3), (75, .istore 6, 2), (77, .aload_n 0, 1), (78, .getfield 63, 3), (81, .iload 5, 2), (83, .iaload, 1), (84, .ifCond .lt 63, 3), (147, .iinc 4 1, 3), (150, .goto (-99), 3), (153, .iinc 3 1, 3), (156, .goto (-118), 3), (87, .aload_n 0, 1), (88, .getfield 63, 3), (91, .iload 6, 2), (93, .iaload, 1), (94, .ifCond .lt 30, 3), (124, .aload_n 0, 1), (125, .getfield 63, 3)]
theorem daX11_spreads_21_1 : dtX11_spreads_21_1.all (dqd cX11_spreads) = true := by decide +kernel
theorem dX11_spreads_49 : decode cX11_spreads 49 = .ok (.istore 4, 2) := dq daX11_spreads_21_1 0 rfl
theorem dX11_spreads_51 : decode cX11_spreads 51 = .ok (.iload 4, 2) := dq daX11_spreads_21_1 1 rfl
theorem dX11_spreads_53 : decode cX11_spreads 53 = .ok (.iconst 2, 1) := dq daX11_spreads_21_1 2 rfl
theorem dX11_spreads_54 : decode cX11_spreads 54 = .ok (.if_icmp .ge 99, 3) := dq daX11_spreads_21_1 3 rfl
theorem dX11_spreads_57 : decode cX11_spreads 57 = .ok (.aload_n 0, 1) := dq daX11_spreads_21_1 4 rfl
theorem dX11_spreads_58 : decode cX11_spreads 58 = .ok (.iload_n 3, 1) := dq daX11_spreads_21_1 5 rfl
theorem dX11_spreads_59 : decode cX11_spreads 59 = .ok (.iload 4, 2) := dq daX11_spreads_21_1 6 rfl
theorem dX11_spreads_61 : decode cX11_spreads 61 = .ok (.invokevirtual 303, 3) := dq daX11_spreads_21_1 7 rfl
theorem dX11_spreads_64 : decode cX11_spreads 64 = .ok (.istore 5, 2) := dq daX11_spreads_21_1 8 rfl
theorem dX11_spreads_66 : decode cX11_spreads 66 = .ok (.aload_n 0, 1) := dq daX11_spreads_21_1 9 rfl
theorem dX11_spreads_67 : decode cX11_spreads 67 = .ok (.iload_n 3, 1) := dq daX11_spreads_21_1 10 rfl
theorem dX11_spreads_68 : decode cX11_spreads 68 = .ok (.iconst 1, 1) := dq daX11_spreads_21_1 11 rfl
theorem dX11_spreads_69 : decode cX11_spreads 69 = .ok (.iload 4, 2) := dq daX11_spreads_21_1 12 rfl
theorem dX11_spreads_71 : decode cX11_spreads 71 = .ok (.isub, 1) := dq daX11_spreads_21_1 13 rfl
theorem dX11_spreads_72 : decode cX11_spreads 72 = .ok (.invokevirtual 303, 3) := dq daX11_spreads_21_1 14 rfl
theorem dX11_spreads_75 : decode cX11_spreads 75 = .ok (.istore 6, 2) := dq daX11_spreads_21_1 15 rfl
theorem dX11_spreads_77 : decode cX11_spreads 77 = .ok (.aload_n 0, 1) := dq daX11_spreads_21_1 16 rfl
theorem dX11_spreads_78 : decode cX11_spreads 78 = .ok (.getfield 63, 3) := dq daX11_spreads_21_1 17 rfl
theorem dX11_spreads_81 : decode cX11_spreads 81 = .ok (.iload 5, 2) := dq daX11_spreads_21_1 18 rfl
theorem dX11_spreads_83 : decode cX11_spreads 83 = .ok (.iaload, 1) := dq daX11_spreads_21_1 19 rfl
theorem dX11_spreads_84 : decode cX11_spreads 84 = .ok (.ifCond .lt 63, 3) := dq daX11_spreads_21_1 20 rfl
theorem dX11_spreads_147 : decode cX11_spreads 147 = .ok (.iinc 4 1, 3) := dq daX11_spreads_21_1 21 rfl
theorem dX11_spreads_150 : decode cX11_spreads 150 = .ok (.goto (-99), 3) := dq daX11_spreads_21_1 22 rfl
theorem dX11_spreads_153 : decode cX11_spreads 153 = .ok (.iinc 3 1, 3) := dq daX11_spreads_21_1 23 rfl
theorem dX11_spreads_156 : decode cX11_spreads 156 = .ok (.goto (-118), 3) := dq daX11_spreads_21_1 24 rfl
theorem dX11_spreads_87 : decode cX11_spreads 87 = .ok (.aload_n 0, 1) := dq daX11_spreads_21_1 25 rfl
theorem dX11_spreads_88 : decode cX11_spreads 88 = .ok (.getfield 63, 3) := dq daX11_spreads_21_1 26 rfl
theorem dX11_spreads_91 : decode cX11_spreads 91 = .ok (.iload 6, 2) := dq daX11_spreads_21_1 27 rfl
theorem dX11_spreads_93 : decode cX11_spreads 93 = .ok (.iaload, 1) := dq daX11_spreads_21_1 28 rfl
theorem dX11_spreads_94 : decode cX11_spreads 94 = .ok (.ifCond .lt 30, 3) := dq daX11_spreads_21_1 29 rfl
theorem dX11_spreads_124 : decode cX11_spreads 124 = .ok (.aload_n 0, 1) := dq daX11_spreads_21_1 30 rfl
theorem dX11_spreads_125 : decode cX11_spreads 125 = .ok (.getfield 63, 3) := dq daX11_spreads_21_1 31 rfl
def dtX11_spreads_21_2 : List (Nat × Jvm.ClassFile.Instr × Nat) := [(128, .iload 6, 2), (130, .aload_n 0, 1), (131, .getfield 63, 3), (134, .iload 5, 2), (136, .iaload, 1), (137, .aload_n 0, 1), (138, .iload_n 3, 1), (139, .iconst 2, 1), (140, .invokevirtual 303, 3), (143, .iadd, 1), (144, .iastore, 1), (145, .iconst 1, 1), (146, .istore_n 2, 1), (97, .aload_n 0, 1), (98, .getfield 63, 3), (101, .iload 6, 2), (103, .iaload, 1), (104, .aload_n 0, 1), (105, .getfield 63, 3), (108, .iload 5, 2), (110, .iaload, 1), (111, .aload_n 0, 1), (112, .iload_n 3, 1), (113, .iconst 2, 1), (114, .invokevirtual 303, 3), (117, .iadd, 1), (118, .if_icmp .gt 6, 3), (121, .goto 26, 3), (159, .goto (-129), 3), (162, .return_, 1)]
theorem daX11_spreads_21_2 : dtX11_spreads_21_2.all (dqd cX11_spreads) = true := by decide +kernel
theorem dX11_spreads_128 : decode cX11_spreads 128 = .ok (.iload 6, 2) := dq daX11_spreads_21_2 0 rfl
theorem dX11_spreads_130 : decode cX11_spreads 130 = .ok (.aload_n 0, 1) := dq daX11_spreads_21_2 1 rfl
theorem dX11_spreads_131 : decode cX11_spreads 131 = .ok (.getfield 63, 3) := dq daX11_spreads_21_2 2 rfl
theorem dX11_spreads_134 : decode cX11_spreads 134 = .ok (.iload 5, 2) := dq daX11_spreads_21_2 3 rfl
theorem dX11_spreads_136 : decode cX11_spreads 136 = .ok (.iaload, 1) := dq daX11_spreads_21_2 4 rfl
theorem dX11_spreads_137 : decode cX11_spreads 137 = .ok (.aload_n 0, 1) := dq daX11_spreads_21_2 5 rfl
theorem dX11_spreads_138 : decode cX11_spreads 138 = .ok (.iload_n 3, 1) := dq daX11_spreads_21_2 6 rfl
theorem dX11_spreads_139 : decode cX11_spreads 139 = .ok (.iconst 2, 1) := dq daX11_spreads_21_2 7 rfl
theorem dX11_spreads_140 : decode cX11_spreads 140 = .ok (.invokevirtual 303, 3) := dq daX11_spreads_21_2 8 rfl
theorem dX11_spreads_143 : decode cX11_spreads 143 = .ok (.iadd, 1) := dq daX11_spreads_21_2 9 rfl
theorem dX11_spreads_144 : decode cX11_spreads 144 = .ok (.iastore, 1) := dq daX11_spreads_21_2 10 rfl
theorem dX11_spreads_145 : decode cX11_spreads 145 = .ok (.iconst 1, 1) := dq daX11_spreads_21_2 11 rfl
theorem dX11_spreads_146 : decode cX11_spreads 146 = .ok (.istore_n 2, 1) := dq daX11_spreads_21_2 12 rfl
theorem dX11_spreads_97 : decode cX11_spreads 97 = .ok (.aload_n 0, 1) := dq daX11_spreads_21_2 13 rfl
theorem dX11_spreads_98 : decode cX11_spreads 98 = .ok (.getfield 63, 3) := dq daX11_spreads_21_2 14 rfl
theorem dX11_spreads_101 : decode cX11_spreads 101 = .ok (.iload 6, 2) := dq daX11_spreads_21_2 15 rfl
theorem dX11_spreads_103 : decode cX11_spreads 103 = .ok (.iaload, 1) := dq daX11_spreads_21_2 16 rfl
theorem dX11_spreads_104 : decode cX11_spreads 104 = .ok (.aload_n 0, 1) := dq daX11_spreads_21_2 17 rfl
theorem dX11_spreads_105 : decode cX11_spreads 105 = .ok (.getfield 63, 3) := dq daX11_spreads_21_2 18 rfl
theorem dX11_spreads_108 : decode cX11_spreads 108 = .ok (.iload 5, 2) := dq daX11_spreads_21_2 19 rfl
theorem dX11_spreads_110 : decode cX11_spreads 110 = .ok (.iaload, 1) := dq daX11_spreads_21_2 20 rfl
theorem dX11_spreads_111 : decode cX11_spreads 111 = .ok (.aload_n 0, 1) := dq daX11_spreads_21_2 21 rfl
theorem dX11_spreads_112 : decode cX11_spreads 112 = .ok (.iload_n 3, 1) := dq daX11_spreads_21_2 22 rfl
theorem dX11_spreads_113 : decode cX11_spreads 113 = .ok (.iconst 2, 1) := dq daX11_spreads_21_2 23 rfl
theorem dX11_spreads_114 : decode cX11_spreads 114 = .ok (.invokevirtual 303, 3) := dq daX11_spreads_21_2 24 rfl
theorem dX11_spreads_117 : decode cX11_spreads 117 = .ok (.iadd, 1) := dq daX11_spreads_21_2 25 rfl
theorem dX11_spreads_118 : decode cX11_spreads 118 = .ok (.if_icmp .gt 6, 3) := dq daX11_spreads_21_2 26 rfl
theorem dX11_spreads_121 : decode cX11_spreads 121 = .ok (.goto 26, 3) := dq daX11_spreads_21_2 27 rfl
theorem dX11_spreads_159 : decode cX11_spreads 159 = .ok (.goto (-129), 3) := dq daX11_spreads_21_2 28 rfl
theorem dX11_spreads_162 : decode cX11_spreads 162 = .ok (.return_, 1) := dq daX11_spreads_21_2 29 rfl
def dtX11_soonest_21_0 : List (Nat × Jvm.ClassFile.Instr × Nat) := [(0, .aload_n 0, 1), (1, .iload_n 1, 1), (2, .invokevirtual 267, 3), (5, .ifCond .eq 11, 3), (16, .iconst (-1), 1), (17, .ireturn, 1), (8, .aload_n 0, 1), (9, .iload_n 2, 1), (10, .invokevirtual 267, 3), (13, .ifCond .ne 5, 3), (18, .aload_n 0, 1), (19, .iload_n 1, 1), (20, .invokevirtual 434, 3), (23, .aload_n 0, 1), (24, .getfield 63, 3), (27, .iload_n 2, 1), (28, .iaload, 1), (29, .ifCond .ge 8, 3), (37, .aload_n 0, 1), (38, .getfield 63, 3), (41, .iload_n 2, 1), (42, .iaload, 1), (32, .bipush (-2), 2), (34, .goto 9, 3), (43, .ireturn, 1)]
theorem daX11_soonest_21_0 : dtX11_soonest_21_0.all (dqd cX11_soonest) = true := by decide +kernel
theorem dX11_soonest_0 : decode cX11_soonest 0 = .ok (.aload_n 0, 1) := dq daX11_soonest_21_0 0 rfl
theorem dX11_soonest_1 : decode cX11_soonest 1 = .ok (.iload_n 1, 1) := dq daX11_soonest_21_0 1 rfl
theorem dX11_soonest_2 : decode cX11_soonest 2 = .ok (.invokevirtual 267, 3) := dq daX11_soonest_21_0 2 rfl
theorem dX11_soonest_5 : decode cX11_soonest 5 = .ok (.ifCond .eq 11, 3) := dq daX11_soonest_21_0 3 rfl
theorem dX11_soonest_16 : decode cX11_soonest 16 = .ok (.iconst (-1), 1) := dq daX11_soonest_21_0 4 rfl
theorem dX11_soonest_17 : decode cX11_soonest 17 = .ok (.ireturn, 1) := dq daX11_soonest_21_0 5 rfl
theorem dX11_soonest_8 : decode cX11_soonest 8 = .ok (.aload_n 0, 1) := dq daX11_soonest_21_0 6 rfl
theorem dX11_soonest_9 : decode cX11_soonest 9 = .ok (.iload_n 2, 1) := dq daX11_soonest_21_0 7 rfl
theorem dX11_soonest_10 : decode cX11_soonest 10 = .ok (.invokevirtual 267, 3) := dq daX11_soonest_21_0 8 rfl
theorem dX11_soonest_13 : decode cX11_soonest 13 = .ok (.ifCond .ne 5, 3) := dq daX11_soonest_21_0 9 rfl
theorem dX11_soonest_18 : decode cX11_soonest 18 = .ok (.aload_n 0, 1) := dq daX11_soonest_21_0 10 rfl
theorem dX11_soonest_19 : decode cX11_soonest 19 = .ok (.iload_n 1, 1) := dq daX11_soonest_21_0 11 rfl
theorem dX11_soonest_20 : decode cX11_soonest 20 = .ok (.invokevirtual 434, 3) := dq daX11_soonest_21_0 12 rfl
theorem dX11_soonest_23 : decode cX11_soonest 23 = .ok (.aload_n 0, 1) := dq daX11_soonest_21_0 13 rfl
theorem dX11_soonest_24 : decode cX11_soonest 24 = .ok (.getfield 63, 3) := dq daX11_soonest_21_0 14 rfl
theorem dX11_soonest_27 : decode cX11_soonest 27 = .ok (.iload_n 2, 1) := dq daX11_soonest_21_0 15 rfl
theorem dX11_soonest_28 : decode cX11_soonest 28 = .ok (.iaload, 1) := dq daX11_soonest_21_0 16 rfl
theorem dX11_soonest_29 : decode cX11_soonest 29 = .ok (.ifCond .ge 8, 3) := dq daX11_soonest_21_0 17 rfl
theorem dX11_soonest_37 : decode cX11_soonest 37 = .ok (.aload_n 0, 1) := dq daX11_soonest_21_0 18 rfl
theorem dX11_soonest_38 : decode cX11_soonest 38 = .ok (.getfield 63, 3) := dq daX11_soonest_21_0 19 rfl
theorem dX11_soonest_41 : decode cX11_soonest 41 = .ok (.iload_n 2, 1) := dq daX11_soonest_21_0 20 rfl
theorem dX11_soonest_42 : decode cX11_soonest 42 = .ok (.iaload, 1) := dq daX11_soonest_21_0 21 rfl
theorem dX11_soonest_32 : decode cX11_soonest 32 = .ok (.bipush (-2), 2) := dq daX11_soonest_21_0 22 rfl
theorem dX11_soonest_34 : decode cX11_soonest 34 = .ok (.goto 9, 3) := dq daX11_soonest_21_0 23 rfl
theorem dX11_soonest_43 : decode cX11_soonest 43 = .ok (.ireturn, 1) := dq daX11_soonest_21_0 24 rfl
def dtX11_nearest_21_0 : List (Nat × Jvm.ClassFile.Instr × Nat) := [(0, .aload_n 0, 1), (1, .iload_n 1, 1), (2, .invokevirtual 267, 3), (5, .ifCond .eq 15, 3), (20, .iconst (-1), 1), (21, .ireturn, 1), (8, .iload_n 2, 1), (9, .i2l, 1), (10, .lconst 0, 1), (11, .ldc2_w 278, 3), (14, .invokestatic 118, 3), (17, .ifCond .ne 5, 3), (22, .aload_n 0, 1), (23, .iload_n 1, 1), (24, .invokevirtual 434, 3), (27, .bipush (-2), 2), (29, .istore_n 3, 1), (30, .iconst 0, 1), (31, .istore 4, 2), (33, .iload 4, 2), (35, .aload_n 0, 1), (36, .getfield 39, 3), (39, .iconst 0, 1), (40, .iaload, 1), (41, .if_icmp .ge 52, 3), (44, .aload_n 0, 1), (45, .getfield 63, 3), (48, .iload 4, 2), (50, .iaload, 1), (51, .ifCond .lt 36, 3), (87, .iinc 4 1, 3), (90, .goto (-57), 3)]
theorem daX11_nearest_21_0 : dtX11_nearest_21_0.all (dqd cX11_nearest) = true := by decide +kernel
theorem dX11_nearest_0 : decode cX11_nearest 0 = .ok (.aload_n 0, 1) := dq daX11_nearest_21_0 0 rfl
theorem dX11_nearest_1 : decode cX11_nearest 1 = .ok (.iload_n 1, 1) := dq daX11_nearest_21_0 1 rfl
theorem dX11_nearest_2 : decode cX11_nearest 2 = .ok (.invokevirtual 267, 3) := dq daX11_nearest_21_0 2 rfl
theorem dX11_nearest_5 : decode cX11_nearest 5 = .ok (.ifCond .eq 15, 3) := dq daX11_nearest_21_0 3 rfl
theorem dX11_nearest_20 : decode cX11_nearest 20 = .ok (.iconst (-1), 1) := dq daX11_nearest_21_0 4 rfl
theorem dX11_nearest_21 : decode cX11_nearest 21 = .ok (.ireturn, 1) := dq daX11_nearest_21_0 5 rfl
theorem dX11_nearest_8 : decode cX11_nearest 8 = .ok (.iload_n 2, 1) := dq daX11_nearest_21_0 6 rfl
theorem dX11_nearest_9 : decode cX11_nearest 9 = .ok (.i2l, 1) := dq daX11_nearest_21_0 7 rfl
theorem dX11_nearest_10 : decode cX11_nearest 10 = .ok (.lconst 0, 1) := dq daX11_nearest_21_0 8 rfl
theorem dX11_nearest_11 : decode cX11_nearest 11 = .ok (.ldc2_w 278, 3) := dq daX11_nearest_21_0 9 rfl
theorem dX11_nearest_14 : decode cX11_nearest 14 = .ok (.invokestatic 118, 3) := dq daX11_nearest_21_0 10 rfl
theorem dX11_nearest_17 : decode cX11_nearest 17 = .ok (.ifCond .ne 5, 3) := dq daX11_nearest_21_0 11 rfl
theorem dX11_nearest_22 : decode cX11_nearest 22 = .ok (.aload_n 0, 1) := dq daX11_nearest_21_0 12 rfl
theorem dX11_nearest_23 : decode cX11_nearest 23 = .ok (.iload_n 1, 1) := dq daX11_nearest_21_0 13 rfl
theorem dX11_nearest_24 : decode cX11_nearest 24 = .ok (.invokevirtual 434, 3) := dq daX11_nearest_21_0 14 rfl
theorem dX11_nearest_27 : decode cX11_nearest 27 = .ok (.bipush (-2), 2) := dq daX11_nearest_21_0 15 rfl
theorem dX11_nearest_29 : decode cX11_nearest 29 = .ok (.istore_n 3, 1) := dq daX11_nearest_21_0 16 rfl
theorem dX11_nearest_30 : decode cX11_nearest 30 = .ok (.iconst 0, 1) := dq daX11_nearest_21_0 17 rfl
theorem dX11_nearest_31 : decode cX11_nearest 31 = .ok (.istore 4, 2) := dq daX11_nearest_21_0 18 rfl
theorem dX11_nearest_33 : decode cX11_nearest 33 = .ok (.iload 4, 2) := dq daX11_nearest_21_0 19 rfl
theorem dX11_nearest_35 : decode cX11_nearest 35 = .ok (.aload_n 0, 1) := dq daX11_nearest_21_0 20 rfl
theorem dX11_nearest_36 : decode cX11_nearest 36 = .ok (.getfield 39, 3) := dq daX11_nearest_21_0 21 rfl
theorem dX11_nearest_39 : decode cX11_nearest 39 = .ok (.iconst 0, 1) := dq daX11_nearest_21_0 22 rfl
theorem dX11_nearest_40 : decode cX11_nearest 40 = .ok (.iaload, 1) := dq daX11_nearest_21_0 23 rfl
theorem dX11_nearest_41 : decode cX11_nearest 41 = .ok (.if_icmp .ge 52, 3) := dq daX11_nearest_21_0 24 rfl
theorem dX11_nearest_44 : decode cX11_nearest 44 = .ok (.aload_n 0, 1) := dq daX11_nearest_21_0 25 rfl
theorem dX11_nearest_45 : decode cX11_nearest 45 = .ok (.getfield 63, 3) := dq daX11_nearest_21_0 26 rfl
theorem dX11_nearest_48 : decode cX11_nearest 48 = .ok (.iload 4, 2) := dq daX11_nearest_21_0 27 rfl
theorem dX11_nearest_50 : decode cX11_nearest 50 = .ok (.iaload, 1) := dq daX11_nearest_21_0 28 rfl
theorem dX11_nearest_51 : decode cX11_nearest 51 = .ok (.ifCond .lt 36, 3) := dq daX11_nearest_21_0 29 rfl
theorem dX11_nearest_87 : decode cX11_nearest 87 = .ok (.iinc 4 1, 3) := dq daX11_nearest_21_0 30 rfl
theorem dX11_nearest_90 : decode cX11_nearest 90 = .ok (.goto (-57), 3) := dq daX11_nearest_21_0 31 rfl
def dtX11_nearest_21_1 : List (Nat × Jvm.ClassFile.Instr × Nat) := [(54, .aload_n 0, 1), (55, .iload 4, 2), (57, .iload_n 2, 1), (58, .invokevirtual 294, 3), (61, .ifCond .eq 26, 3), (64, .iload_n 3, 1), (65, .ifCond .lt 19, 3), (84, .iload 4, 2), (86, .istore_n 3, 1), (93, .iload_n 3, 1), (68, .aload_n 0, 1), (69, .getfield 63, 3), (72, .iload 4, 2), (74, .iaload, 1), (75, .aload_n 0, 1), (76, .getfield 63, 3), (79, .iload_n 3, 1), (80, .iaload, 1), (81, .if_icmp .ge 6, 3), (94, .ireturn, 1)]
theorem daX11_nearest_21_1 : dtX11_nearest_21_1.all (dqd cX11_nearest) = true := by decide +kernel
theorem dX11_nearest_54 : decode cX11_nearest 54 = .ok (.aload_n 0, 1) := dq daX11_nearest_21_1 0 rfl
theorem dX11_nearest_55 : decode cX11_nearest 55 = .ok (.iload 4, 2) := dq daX11_nearest_21_1 1 rfl
theorem dX11_nearest_57 : decode cX11_nearest 57 = .ok (.iload_n 2, 1) := dq daX11_nearest_21_1 2 rfl
theorem dX11_nearest_58 : decode cX11_nearest 58 = .ok (.invokevirtual 294, 3) := dq daX11_nearest_21_1 3 rfl
theorem dX11_nearest_61 : decode cX11_nearest 61 = .ok (.ifCond .eq 26, 3) := dq daX11_nearest_21_1 4 rfl
theorem dX11_nearest_64 : decode cX11_nearest 64 = .ok (.iload_n 3, 1) := dq daX11_nearest_21_1 5 rfl
theorem dX11_nearest_65 : decode cX11_nearest 65 = .ok (.ifCond .lt 19, 3) := dq daX11_nearest_21_1 6 rfl
theorem dX11_nearest_84 : decode cX11_nearest 84 = .ok (.iload 4, 2) := dq daX11_nearest_21_1 7 rfl
theorem dX11_nearest_86 : decode cX11_nearest 86 = .ok (.istore_n 3, 1) := dq daX11_nearest_21_1 8 rfl
theorem dX11_nearest_93 : decode cX11_nearest 93 = .ok (.iload_n 3, 1) := dq daX11_nearest_21_1 9 rfl
theorem dX11_nearest_68 : decode cX11_nearest 68 = .ok (.aload_n 0, 1) := dq daX11_nearest_21_1 10 rfl
theorem dX11_nearest_69 : decode cX11_nearest 69 = .ok (.getfield 63, 3) := dq daX11_nearest_21_1 11 rfl
theorem dX11_nearest_72 : decode cX11_nearest 72 = .ok (.iload 4, 2) := dq daX11_nearest_21_1 12 rfl
theorem dX11_nearest_74 : decode cX11_nearest 74 = .ok (.iaload, 1) := dq daX11_nearest_21_1 13 rfl
theorem dX11_nearest_75 : decode cX11_nearest 75 = .ok (.aload_n 0, 1) := dq daX11_nearest_21_1 14 rfl
theorem dX11_nearest_76 : decode cX11_nearest 76 = .ok (.getfield 63, 3) := dq daX11_nearest_21_1 15 rfl
theorem dX11_nearest_79 : decode cX11_nearest 79 = .ok (.iload_n 3, 1) := dq daX11_nearest_21_1 16 rfl
theorem dX11_nearest_80 : decode cX11_nearest 80 = .ok (.iaload, 1) := dq daX11_nearest_21_1 17 rfl
theorem dX11_nearest_81 : decode cX11_nearest 81 = .ok (.if_icmp .ge 6, 3) := dq daX11_nearest_21_1 18 rfl
theorem dX11_nearest_94 : decode cX11_nearest 94 = .ok (.ireturn, 1) := dq daX11_nearest_21_1 19 rfl
