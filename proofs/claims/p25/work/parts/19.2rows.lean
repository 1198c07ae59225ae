theorem kX11_isEnough_1 {a : Array Value} {s : State} (hts : ∀ w ∈ wsX11_isEnough, w.before a s = true) : (.fieldLink RX11 39 "SnowMulesModel" "said" "[I" : Cond).before a s = true := kw (A := ixX11_isEnough) wt153 hts (by decide +kernel)
theorem kX11_enough_1 {a : Array Value} {s : State} (hts : ∀ w ∈ wsX11_enough, w.before a s = true) : (.constantLong RX11 301 (999999) : Cond).before a s = true := kw (A := ixX11_enough) wt665 hts (by decide +kernel)
theorem kX11_least_1 {a : Array Value} {s : State} (hts : ∀ w ∈ wsX11_least, w.before a s = true) : (.constant RX11 466 (100000) : Cond).before a s = true := kw (A := ixX11_least) wt1332 hts (by decide +kernel)
theorem iX11_isEnough_X11 : ∀ w ∈ wsX110, w ∈ wsX11_isEnough := inW (A := ixX11_isEnough) uwX11 (by decide +kernel)
theorem hdX11_isEnough : yX11_isEnough.cls ≠ "java/lang/invoke/MethodHandle" ∧ yX11_isEnough.cls ≠ "java/lang/invoke/VarHandle" ∧ (parseMethodDescriptor yX11_isEnough.desc).map (fun d => d.parameters.length) = some 3 := ⟨hdc_0.1, hdc_0.2, hdd_7⟩
def dtX11_isEnough_19_0 : List (Nat × Jvm.ClassFile.Instr × Nat) := [(0, .iload_n 3, 1), (1, .istore 4, 2), (3, .iconst (-1), 1), (4, .istore 5, 2), (6, .iconst 0, 1), (7, .istore 6, 2), (9, .iload 6, 2), (11, .aload_n 0, 1), (12, .getfield 39, 3), (15, .iconst 4, 1), (16, .iaload, 1), (17, .if_icmp .ge 75, 3), (20, .bipush 24, 2), (22, .aload_n 0, 1), (23, .getfield 39, 3), (26, .sipush 336, 3), (29, .iconst 3, 1), (30, .iload 6, 2), (32, .imul, 1), (33, .iadd, 1), (34, .iconst 1, 1), (35, .iadd, 1), (36, .iaload, 1), (37, .imul, 1), (38, .bipush 12, 2), (40, .iadd, 1), (41, .istore 7, 2), (43, .aload_n 0, 1), (44, .getfield 39, 3), (47, .sipush 336, 3), (50, .iconst 3, 1), (51, .iload 6, 2)]
theorem daX11_isEnough_19_0 : dtX11_isEnough_19_0.all (dqd cX11_isEnough) = true := by decide +kernel
theorem dX11_isEnough_0 : decode cX11_isEnough 0 = .ok (.iload_n 3, 1) := dq daX11_isEnough_19_0 0 rfl
theorem dX11_isEnough_1 : decode cX11_isEnough 1 = .ok (.istore 4, 2) := dq daX11_isEnough_19_0 1 rfl
theorem dX11_isEnough_3 : decode cX11_isEnough 3 = .ok (.iconst (-1), 1) := dq daX11_isEnough_19_0 2 rfl
theorem dX11_isEnough_4 : decode cX11_isEnough 4 = .ok (.istore 5, 2) := dq daX11_isEnough_19_0 3 rfl
theorem dX11_isEnough_6 : decode cX11_isEnough 6 = .ok (.iconst 0, 1) := dq daX11_isEnough_19_0 4 rfl
theorem dX11_isEnough_7 : decode cX11_isEnough 7 = .ok (.istore 6, 2) := dq daX11_isEnough_19_0 5 rfl
theorem dX11_isEnough_9 : decode cX11_isEnough 9 = .ok (.iload 6, 2) := dq daX11_isEnough_19_0 6 rfl
theorem dX11_isEnough_11 : decode cX11_isEnough 11 = .ok (.aload_n 0, 1) := dq daX11_isEnough_19_0 7 rfl
theorem dX11_isEnough_12 : decode cX11_isEnough 12 = .ok (.getfield 39, 3) := dq daX11_isEnough_19_0 8 rfl
theorem dX11_isEnough_15 : decode cX11_isEnough 15 = .ok (.iconst 4, 1) := dq daX11_isEnough_19_0 9 rfl
theorem dX11_isEnough_16 : decode cX11_isEnough 16 = .ok (.iaload, 1) := dq daX11_isEnough_19_0 10 rfl
theorem dX11_isEnough_17 : decode cX11_isEnough 17 = .ok (.if_icmp .ge 75, 3) := dq daX11_isEnough_19_0 11 rfl
theorem dX11_isEnough_20 : decode cX11_isEnough 20 = .ok (.bipush 24, 2) := dq daX11_isEnough_19_0 12 rfl
theorem dX11_isEnough_22 : decode cX11_isEnough 22 = .ok (.aload_n 0, 1) := dq daX11_isEnough_19_0 13 rfl
theorem dX11_isEnough_23 : decode cX11_isEnough 23 = .ok (.getfield 39, 3) := dq daX11_isEnough_19_0 14 rfl
theorem dX11_isEnough_26 : decode cX11_isEnough 26 = .ok (.sipush 336, 3) := dq daX11_isEnough_19_0 15 rfl
theorem dX11_isEnough_29 : decode cX11_isEnough 29 = .ok (.iconst 3, 1) := dq daX11_isEnough_19_0 16 rfl
theorem dX11_isEnough_30 : decode cX11_isEnough 30 = .ok (.iload 6, 2) := dq daX11_isEnough_19_0 17 rfl
theorem dX11_isEnough_32 : decode cX11_isEnough 32 = .ok (.imul, 1) := dq daX11_isEnough_19_0 18 rfl
theorem dX11_isEnough_33 : decode cX11_isEnough 33 = .ok (.iadd, 1) := dq daX11_isEnough_19_0 19 rfl
theorem dX11_isEnough_34 : decode cX11_isEnough 34 = .ok (.iconst 1, 1) := dq daX11_isEnough_19_0 20 rfl
theorem dX11_isEnough_35 : decode cX11_isEnough 35 = .ok (.iadd, 1) := dq daX11_isEnough_19_0 21 rfl
theorem dX11_isEnough_36 : decode cX11_isEnough 36 = .ok (.iaload, 1) := dq daX11_isEnough_19_0 22 rfl
theorem dX11_isEnough_37 : decode cX11_isEnough 37 = .ok (.imul, 1) := dq daX11_isEnough_19_0 23 rfl
theorem dX11_isEnough_38 : decode cX11_isEnough 38 = .ok (.bipush 12, 2) := dq daX11_isEnough_19_0 24 rfl
theorem dX11_isEnough_40 : decode cX11_isEnough 40 = .ok (.iadd, 1) := dq daX11_isEnough_19_0 25 rfl
theorem dX11_isEnough_41 : decode cX11_isEnough 41 = .ok (.istore 7, 2) := dq daX11_isEnough_19_0 26 rfl
theorem dX11_isEnough_43 : decode cX11_isEnough 43 = .ok (.aload_n 0, 1) := dq daX11_isEnough_19_0 27 rfl
theorem dX11_isEnough_44 : decode cX11_isEnough 44 = .ok (.getfield 39, 3) := dq daX11_isEnough_19_0 28 rfl
theorem dX11_isEnough_47 : decode cX11_isEnough 47 = .ok (.sipush 336, 3) := dq daX11_isEnough_19_0 29 rfl
theorem dX11_isEnough_50 : decode cX11_isEnough 50 = .ok (.iconst 3, 1) := dq daX11_isEnough_19_0 30 rfl
theorem dX11_isEnough_51 : decode cX11_isEnough 51 = .ok (.iload 6, 2) := dq daX11_isEnough_19_0 31 rfl
def dtX11_isEnough_19_1 : List (Nat × Jvm.ClassFile.Instr × Nat) := [(53, .imul, 1), (54, .iadd, 1), (55, .iaload, 1), (56, .iload_n 2, 1), (57, .if_icmp .ne 29, 3), (86, .iinc 6 1, 3), (89, .goto (-80), 3), (60, .iload 7, 2), (62, .aload_n 0, 1), (63, .getfield 39, 3), (66, .iconst 5, 1), (67, .iaload, 1), (68, .sipush 1440, 3), (71, .iadd, 1), (72, .if_icmp .ge 14, 3), (75, .iload 7, 2), (77, .iload 5, 2), (79, .if_icmp .le 7, 3), (82, .iload 7, 2), (84, .istore 5, 2), (92, .aload_n 0, 1), (93, .getfield 39, 3), (96, .iconst 5, 1), (97, .iaload, 1), (98, .istore 6, 2), (100, .iload 6, 2), (102, .iload 5, 2), (104, .if_icmp .gt 140, 3), (107, .iconst 0, 1), (108, .istore 7, 2), (110, .iload 7, 2), (112, .aload_n 0, 1)]
theorem daX11_isEnough_19_1 : dtX11_isEnough_19_1.all (dqd cX11_isEnough) = true := by decide +kernel
theorem dX11_isEnough_53 : decode cX11_isEnough 53 = .ok (.imul, 1) := dq daX11_isEnough_19_1 0 rfl
theorem dX11_isEnough_54 : decode cX11_isEnough 54 = .ok (.iadd, 1) := dq daX11_isEnough_19_1 1 rfl
theorem dX11_isEnough_55 : decode cX11_isEnough 55 = .ok (.iaload, 1) := dq daX11_isEnough_19_1 2 rfl
theorem dX11_isEnough_56 : decode cX11_isEnough 56 = .ok (.iload_n 2, 1) := dq daX11_isEnough_19_1 3 rfl
theorem dX11_isEnough_57 : decode cX11_isEnough 57 = .ok (.if_icmp .ne 29, 3) := dq daX11_isEnough_19_1 4 rfl
theorem dX11_isEnough_86 : decode cX11_isEnough 86 = .ok (.iinc 6 1, 3) := dq daX11_isEnough_19_1 5 rfl
theorem dX11_isEnough_89 : decode cX11_isEnough 89 = .ok (.goto (-80), 3) := dq daX11_isEnough_19_1 6 rfl
theorem dX11_isEnough_60 : decode cX11_isEnough 60 = .ok (.iload 7, 2) := dq daX11_isEnough_19_1 7 rfl
theorem dX11_isEnough_62 : decode cX11_isEnough 62 = .ok (.aload_n 0, 1) := dq daX11_isEnough_19_1 8 rfl
theorem dX11_isEnough_63 : decode cX11_isEnough 63 = .ok (.getfield 39, 3) := dq daX11_isEnough_19_1 9 rfl
theorem dX11_isEnough_66 : decode cX11_isEnough 66 = .ok (.iconst 5, 1) := dq daX11_isEnough_19_1 10 rfl
theorem dX11_isEnough_67 : decode cX11_isEnough 67 = .ok (.iaload, 1) := dq daX11_isEnough_19_1 11 rfl
theorem dX11_isEnough_68 : decode cX11_isEnough 68 = .ok (.sipush 1440, 3) := dq daX11_isEnough_19_1 12 rfl
theorem dX11_isEnough_71 : decode cX11_isEnough 71 = .ok (.iadd, 1) := dq daX11_isEnough_19_1 13 rfl
theorem dX11_isEnough_72 : decode cX11_isEnough 72 = .ok (.if_icmp .ge 14, 3) := dq daX11_isEnough_19_1 14 rfl
theorem dX11_isEnough_75 : decode cX11_isEnough 75 = .ok (.iload 7, 2) := dq daX11_isEnough_19_1 15 rfl
theorem dX11_isEnough_77 : decode cX11_isEnough 77 = .ok (.iload 5, 2) := dq daX11_isEnough_19_1 16 rfl
theorem dX11_isEnough_79 : decode cX11_isEnough 79 = .ok (.if_icmp .le 7, 3) := dq daX11_isEnough_19_1 17 rfl
theorem dX11_isEnough_82 : decode cX11_isEnough 82 = .ok (.iload 7, 2) := dq daX11_isEnough_19_1 18 rfl
theorem dX11_isEnough_84 : decode cX11_isEnough 84 = .ok (.istore 5, 2) := dq daX11_isEnough_19_1 19 rfl
theorem dX11_isEnough_92 : decode cX11_isEnough 92 = .ok (.aload_n 0, 1) := dq daX11_isEnough_19_1 20 rfl
theorem dX11_isEnough_93 : decode cX11_isEnough 93 = .ok (.getfield 39, 3) := dq daX11_isEnough_19_1 21 rfl
theorem dX11_isEnough_96 : decode cX11_isEnough 96 = .ok (.iconst 5, 1) := dq daX11_isEnough_19_1 22 rfl
theorem dX11_isEnough_97 : decode cX11_isEnough 97 = .ok (.iaload, 1) := dq daX11_isEnough_19_1 23 rfl
theorem dX11_isEnough_98 : decode cX11_isEnough 98 = .ok (.istore 6, 2) := dq daX11_isEnough_19_1 24 rfl
theorem dX11_isEnough_100 : decode cX11_isEnough 100 = .ok (.iload 6, 2) := dq daX11_isEnough_19_1 25 rfl
theorem dX11_isEnough_102 : decode cX11_isEnough 102 = .ok (.iload 5, 2) := dq daX11_isEnough_19_1 26 rfl
theorem dX11_isEnough_104 : decode cX11_isEnough 104 = .ok (.if_icmp .gt 140, 3) := dq daX11_isEnough_19_1 27 rfl
theorem dX11_isEnough_107 : decode cX11_isEnough 107 = .ok (.iconst 0, 1) := dq daX11_isEnough_19_1 28 rfl
theorem dX11_isEnough_108 : decode cX11_isEnough 108 = .ok (.istore 7, 2) := dq daX11_isEnough_19_1 29 rfl
theorem dX11_isEnough_110 : decode cX11_isEnough 110 = .ok (.iload 7, 2) := dq daX11_isEnough_19_1 30 rfl
theorem dX11_isEnough_112 : decode cX11_isEnough 112 = .ok (.aload_n 0, 1) := dq daX11_isEnough_19_1 31 rfl
def dtX11_isEnough_19_2 : List (Nat × Jvm.ClassFile.Instr × Nat) := [(113, .getfield 39, 3), (116, .iconst 4, 1), (117, .iaload, 1), (118, .if_icmp .ge 90, 3), (121, .iload 6, 2), (123, .bipush 24, 2), (125, .irem, 1), (126, .bipush 12, 2), (128, .if_icmp .ne 80, 3), (131, .sipush 336, 3), (134, .iconst 3, 1), (135, .iload 7, 2), (137, .imul, 1), (138, .iadd, 1), (139, .istore 8, 2), (141, .aload_n 0, 1), (142, .getfield 39, 3), (145, .iload 8, 2), (147, .iaload, 1), (148, .iload_n 2, 1), (149, .if_icmp .ne 53, 3), (202, .iinc 7 1, 3), (205, .goto (-95), 3), (152, .aload_n 0, 1), (153, .getfield 39, 3), (156, .iload 8, 2), (158, .iconst 1, 1), (159, .iadd, 1), (160, .iaload, 1), (161, .iload 6, 2), (163, .bipush 24, 2), (165, .idiv, 1)]
theorem daX11_isEnough_19_2 : dtX11_isEnough_19_2.all (dqd cX11_isEnough) = true := by decide +kernel
theorem dX11_isEnough_113 : decode cX11_isEnough 113 = .ok (.getfield 39, 3) := dq daX11_isEnough_19_2 0 rfl
theorem dX11_isEnough_116 : decode cX11_isEnough 116 = .ok (.iconst 4, 1) := dq daX11_isEnough_19_2 1 rfl
theorem dX11_isEnough_117 : decode cX11_isEnough 117 = .ok (.iaload, 1) := dq daX11_isEnough_19_2 2 rfl
theorem dX11_isEnough_118 : decode cX11_isEnough 118 = .ok (.if_icmp .ge 90, 3) := dq daX11_isEnough_19_2 3 rfl
theorem dX11_isEnough_121 : decode cX11_isEnough 121 = .ok (.iload 6, 2) := dq daX11_isEnough_19_2 4 rfl
theorem dX11_isEnough_123 : decode cX11_isEnough 123 = .ok (.bipush 24, 2) := dq daX11_isEnough_19_2 5 rfl
theorem dX11_isEnough_125 : decode cX11_isEnough 125 = .ok (.irem, 1) := dq daX11_isEnough_19_2 6 rfl
theorem dX11_isEnough_126 : decode cX11_isEnough 126 = .ok (.bipush 12, 2) := dq daX11_isEnough_19_2 7 rfl
theorem dX11_isEnough_128 : decode cX11_isEnough 128 = .ok (.if_icmp .ne 80, 3) := dq daX11_isEnough_19_2 8 rfl
theorem dX11_isEnough_131 : decode cX11_isEnough 131 = .ok (.sipush 336, 3) := dq daX11_isEnough_19_2 9 rfl
theorem dX11_isEnough_134 : decode cX11_isEnough 134 = .ok (.iconst 3, 1) := dq daX11_isEnough_19_2 10 rfl
theorem dX11_isEnough_135 : decode cX11_isEnough 135 = .ok (.iload 7, 2) := dq daX11_isEnough_19_2 11 rfl
theorem dX11_isEnough_137 : decode cX11_isEnough 137 = .ok (.imul, 1) := dq daX11_isEnough_19_2 12 rfl
theorem dX11_isEnough_138 : decode cX11_isEnough 138 = .ok (.iadd, 1) := dq daX11_isEnough_19_2 13 rfl
theorem dX11_isEnough_139 : decode cX11_isEnough 139 = .ok (.istore 8, 2) := dq daX11_isEnough_19_2 14 rfl
theorem dX11_isEnough_141 : decode cX11_isEnough 141 = .ok (.aload_n 0, 1) := dq daX11_isEnough_19_2 15 rfl
theorem dX11_isEnough_142 : decode cX11_isEnough 142 = .ok (.getfield 39, 3) := dq daX11_isEnough_19_2 16 rfl
theorem dX11_isEnough_145 : decode cX11_isEnough 145 = .ok (.iload 8, 2) := dq daX11_isEnough_19_2 17 rfl
theorem dX11_isEnough_147 : decode cX11_isEnough 147 = .ok (.iaload, 1) := dq daX11_isEnough_19_2 18 rfl
theorem dX11_isEnough_148 : decode cX11_isEnough 148 = .ok (.iload_n 2, 1) := dq daX11_isEnough_19_2 19 rfl
theorem dX11_isEnough_149 : decode cX11_isEnough 149 = .ok (.if_icmp .ne 53, 3) := dq daX11_isEnough_19_2 20 rfl
theorem dX11_isEnough_202 : decode cX11_isEnough 202 = .ok (.iinc 7 1, 3) := dq daX11_isEnough_19_2 21 rfl
theorem dX11_isEnough_205 : decode cX11_isEnough 205 = .ok (.goto (-95), 3) := dq daX11_isEnough_19_2 22 rfl
theorem dX11_isEnough_152 : decode cX11_isEnough 152 = .ok (.aload_n 0, 1) := dq daX11_isEnough_19_2 23 rfl
theorem dX11_isEnough_153 : decode cX11_isEnough 153 = .ok (.getfield 39, 3) := dq daX11_isEnough_19_2 24 rfl
theorem dX11_isEnough_156 : decode cX11_isEnough 156 = .ok (.iload 8, 2) := dq daX11_isEnough_19_2 25 rfl
theorem dX11_isEnough_158 : decode cX11_isEnough 158 = .ok (.iconst 1, 1) := dq daX11_isEnough_19_2 26 rfl
theorem dX11_isEnough_159 : decode cX11_isEnough 159 = .ok (.iadd, 1) := dq daX11_isEnough_19_2 27 rfl
theorem dX11_isEnough_160 : decode cX11_isEnough 160 = .ok (.iaload, 1) := dq daX11_isEnough_19_2 28 rfl
theorem dX11_isEnough_161 : decode cX11_isEnough 161 = .ok (.iload 6, 2) := dq daX11_isEnough_19_2 29 rfl
theorem dX11_isEnough_163 : decode cX11_isEnough 163 = .ok (.bipush 24, 2) := dq daX11_isEnough_19_2 30 rfl
theorem dX11_isEnough_165 : decode cX11_isEnough 165 = .ok (.idiv, 1) := dq daX11_isEnough_19_2 31 rfl
def dtX11_isEnough_19_3 : List (Nat × Jvm.ClassFile.Instr × Nat) := [(166, .if_icmp .eq 6, 3), (172, .iload 4, 2), (174, .aload_n 0, 1), (175, .getfield 39, 3), (178, .iload 8, 2), (180, .iconst 2, 1), (181, .iadd, 1), (182, .iaload, 1), (183, .if_icmp .ge 5, 3), (188, .iload 4, 2), (190, .aload_n 0, 1), (191, .getfield 39, 3), (194, .iload 8, 2), (196, .iconst 2, 1), (197, .iadd, 1), (198, .iaload, 1), (199, .isub, 1), (200, .istore 4, 2), (169, .goto 33, 3), (208, .aload_n 0, 1), (209, .iload 6, 2), (211, .iload_n 2, 1), (212, .iload 4, 2), (214, .iconst 0, 1), (215, .iconst 0, 1), (216, .invokevirtual 330, 3), (219, .iload 4, 2), (221, .aload_n 0, 1), (222, .iload_n 1, 1), (223, .iconst 1, 1), (224, .invokevirtual 318, 3), (227, .lconst 0, 1)]
theorem daX11_isEnough_19_3 : dtX11_isEnough_19_3.all (dqd cX11_isEnough) = true := by decide +kernel
theorem dX11_isEnough_166 : decode cX11_isEnough 166 = .ok (.if_icmp .eq 6, 3) := dq daX11_isEnough_19_3 0 rfl
theorem dX11_isEnough_172 : decode cX11_isEnough 172 = .ok (.iload 4, 2) := dq daX11_isEnough_19_3 1 rfl
theorem dX11_isEnough_174 : decode cX11_isEnough 174 = .ok (.aload_n 0, 1) := dq daX11_isEnough_19_3 2 rfl
theorem dX11_isEnough_175 : decode cX11_isEnough 175 = .ok (.getfield 39, 3) := dq daX11_isEnough_19_3 3 rfl
theorem dX11_isEnough_178 : decode cX11_isEnough 178 = .ok (.iload 8, 2) := dq daX11_isEnough_19_3 4 rfl
theorem dX11_isEnough_180 : decode cX11_isEnough 180 = .ok (.iconst 2, 1) := dq daX11_isEnough_19_3 5 rfl
theorem dX11_isEnough_181 : decode cX11_isEnough 181 = .ok (.iadd, 1) := dq daX11_isEnough_19_3 6 rfl
theorem dX11_isEnough_182 : decode cX11_isEnough 182 = .ok (.iaload, 1) := dq daX11_isEnough_19_3 7 rfl
theorem dX11_isEnough_183 : decode cX11_isEnough 183 = .ok (.if_icmp .ge 5, 3) := dq daX11_isEnough_19_3 8 rfl
theorem dX11_isEnough_188 : decode cX11_isEnough 188 = .ok (.iload 4, 2) := dq daX11_isEnough_19_3 9 rfl
theorem dX11_isEnough_190 : decode cX11_isEnough 190 = .ok (.aload_n 0, 1) := dq daX11_isEnough_19_3 10 rfl
theorem dX11_isEnough_191 : decode cX11_isEnough 191 = .ok (.getfield 39, 3) := dq daX11_isEnough_19_3 11 rfl
theorem dX11_isEnough_194 : decode cX11_isEnough 194 = .ok (.iload 8, 2) := dq daX11_isEnough_19_3 12 rfl
theorem dX11_isEnough_196 : decode cX11_isEnough 196 = .ok (.iconst 2, 1) := dq daX11_isEnough_19_3 13 rfl
theorem dX11_isEnough_197 : decode cX11_isEnough 197 = .ok (.iadd, 1) := dq daX11_isEnough_19_3 14 rfl
theorem dX11_isEnough_198 : decode cX11_isEnough 198 = .ok (.iaload, 1) := dq daX11_isEnough_19_3 15 rfl
theorem dX11_isEnough_199 : decode cX11_isEnough 199 = .ok (.isub, 1) := dq daX11_isEnough_19_3 16 rfl
theorem dX11_isEnough_200 : decode cX11_isEnough 200 = .ok (.istore 4, 2) := dq daX11_isEnough_19_3 17 rfl
theorem dX11_isEnough_169 : decode cX11_isEnough 169 = .ok (.goto 33, 3) := dq daX11_isEnough_19_3 18 rfl
theorem dX11_isEnough_208 : decode cX11_isEnough 208 = .ok (.aload_n 0, 1) := dq daX11_isEnough_19_3 19 rfl
theorem dX11_isEnough_209 : decode cX11_isEnough 209 = .ok (.iload 6, 2) := dq daX11_isEnough_19_3 20 rfl
theorem dX11_isEnough_211 : decode cX11_isEnough 211 = .ok (.iload_n 2, 1) := dq daX11_isEnough_19_3 21 rfl
theorem dX11_isEnough_212 : decode cX11_isEnough 212 = .ok (.iload 4, 2) := dq daX11_isEnough_19_3 22 rfl
theorem dX11_isEnough_214 : decode cX11_isEnough 214 = .ok (.iconst 0, 1) := dq daX11_isEnough_19_3 23 rfl
theorem dX11_isEnough_215 : decode cX11_isEnough 215 = .ok (.iconst 0, 1) := dq daX11_isEnough_19_3 24 rfl
theorem dX11_isEnough_216 : decode cX11_isEnough 216 = .ok (.invokevirtual 330, 3) := dq daX11_isEnough_19_3 25 rfl
theorem dX11_isEnough_219 : decode cX11_isEnough 219 = .ok (.iload 4, 2) := dq daX11_isEnough_19_3 26 rfl
theorem dX11_isEnough_221 : decode cX11_isEnough 221 = .ok (.aload_n 0, 1) := dq daX11_isEnough_19_3 27 rfl
theorem dX11_isEnough_222 : decode cX11_isEnough 222 = .ok (.iload_n 1, 1) := dq daX11_isEnough_19_3 28 rfl
theorem dX11_isEnough_223 : decode cX11_isEnough 223 = .ok (.iconst 1, 1) := dq daX11_isEnough_19_3 29 rfl
theorem dX11_isEnough_224 : decode cX11_isEnough 224 = .ok (.invokevirtual 318, 3) := dq daX11_isEnough_19_3 30 rfl
theorem dX11_isEnough_227 : decode cX11_isEnough 227 = .ok (.lconst 0, 1) := dq daX11_isEnough_19_3 31 rfl
def dtX11_isEnough_19_4 : List (Nat × Jvm.ClassFile.Instr × Nat) := [(228, .iload 4, 2), (230, .i2l, 1), (231, .invokestatic 322, 3), (234, .l2i, 1), (235, .isub, 1), (236, .istore 4, 2), (238, .iinc 6 1, 3), (241, .goto (-141), 3), (186, .iconst 0, 1), (244, .iconst 1, 1), (187, .ireturn, 1), (245, .ireturn, 1)]
theorem daX11_isEnough_19_4 : dtX11_isEnough_19_4.all (dqd cX11_isEnough) = true := by decide +kernel
theorem dX11_isEnough_228 : decode cX11_isEnough 228 = .ok (.iload 4, 2) := dq daX11_isEnough_19_4 0 rfl
theorem dX11_isEnough_230 : decode cX11_isEnough 230 = .ok (.i2l, 1) := dq daX11_isEnough_19_4 1 rfl
theorem dX11_isEnough_231 : decode cX11_isEnough 231 = .ok (.invokestatic 322, 3) := dq daX11_isEnough_19_4 2 rfl
theorem dX11_isEnough_234 : decode cX11_isEnough 234 = .ok (.l2i, 1) := dq daX11_isEnough_19_4 3 rfl
theorem dX11_isEnough_235 : decode cX11_isEnough 235 = .ok (.isub, 1) := dq daX11_isEnough_19_4 4 rfl
theorem dX11_isEnough_236 : decode cX11_isEnough 236 = .ok (.istore 4, 2) := dq daX11_isEnough_19_4 5 rfl
theorem dX11_isEnough_238 : decode cX11_isEnough 238 = .ok (.iinc 6 1, 3) := dq daX11_isEnough_19_4 6 rfl
theorem dX11_isEnough_241 : decode cX11_isEnough 241 = .ok (.goto (-141), 3) := dq daX11_isEnough_19_4 7 rfl
theorem dX11_isEnough_186 : decode cX11_isEnough 186 = .ok (.iconst 0, 1) := dq daX11_isEnough_19_4 8 rfl
theorem dX11_isEnough_244 : decode cX11_isEnough 244 = .ok (.iconst 1, 1) := dq daX11_isEnough_19_4 9 rfl
theorem dX11_isEnough_187 : decode cX11_isEnough 187 = .ok (.ireturn, 1) := dq daX11_isEnough_19_4 10 rfl
theorem dX11_isEnough_245 : decode cX11_isEnough 245 = .ok (.ireturn, 1) := dq daX11_isEnough_19_4 11 rfl
def dtX11_enough_19_0 : List (Nat × Jvm.ClassFile.Instr × Nat) := [(0, .aload_n 0, 1), (1, .iload_n 1, 1), (2, .invokevirtual 363, 3), (5, .ifCond .eq 23, 3), (28, .iconst (-1), 1), (29, .goto 18, 3), (47, .ireturn, 1), (8, .aload_n 0, 1), (9, .iload_n 2, 1), (10, .invokevirtual 267, 3), (13, .ifCond .eq 15, 3), (16, .iload_n 3, 1), (17, .i2l, 1), (18, .lconst 0, 1), (19, .ldc2_w 301, 3), (22, .invokestatic 118, 3), (25, .ifCond .ne 7, 3), (32, .aload_n 0, 1), (33, .iload_n 1, 1), (34, .iload_n 2, 1), (35, .iload_n 3, 1), (36, .invokevirtual 463, 3), (39, .ifCond .eq 7, 3), (46, .iconst 0, 1), (42, .iconst 1, 1), (43, .goto 4, 3)]
theorem daX11_enough_19_0 : dtX11_enough_19_0.all (dqd cX11_enough) = true := by decide +kernel
theorem dX11_enough_0 : decode cX11_enough 0 = .ok (.aload_n 0, 1) := dq daX11_enough_19_0 0 rfl
theorem dX11_enough_1 : decode cX11_enough 1 = .ok (.iload_n 1, 1) := dq daX11_enough_19_0 1 rfl
theorem dX11_enough_2 : decode cX11_enough 2 = .ok (.invokevirtual 363, 3) := dq daX11_enough_19_0 2 rfl
theorem dX11_enough_5 : decode cX11_enough 5 = .ok (.ifCond .eq 23, 3) := dq daX11_enough_19_0 3 rfl
theorem dX11_enough_28 : decode cX11_enough 28 = .ok (.iconst (-1), 1) := dq daX11_enough_19_0 4 rfl
theorem dX11_enough_29 : decode cX11_enough 29 = .ok (.goto 18, 3) := dq daX11_enough_19_0 5 rfl
theorem dX11_enough_47 : decode cX11_enough 47 = .ok (.ireturn, 1) := dq daX11_enough_19_0 6 rfl
theorem dX11_enough_8 : decode cX11_enough 8 = .ok (.aload_n 0, 1) := dq daX11_enough_19_0 7 rfl
theorem dX11_enough_9 : decode cX11_enough 9 = .ok (.iload_n 2, 1) := dq daX11_enough_19_0 8 rfl
theorem dX11_enough_10 : decode cX11_enough 10 = .ok (.invokevirtual 267, 3) := dq daX11_enough_19_0 9 rfl
theorem dX11_enough_13 : decode cX11_enough 13 = .ok (.ifCond .eq 15, 3) := dq daX11_enough_19_0 10 rfl
theorem dX11_enough_16 : decode cX11_enough 16 = .ok (.iload_n 3, 1) := dq daX11_enough_19_0 11 rfl
theorem dX11_enough_17 : decode cX11_enough 17 = .ok (.i2l, 1) := dq daX11_enough_19_0 12 rfl
theorem dX11_enough_18 : decode cX11_enough 18 = .ok (.lconst 0, 1) := dq daX11_enough_19_0 13 rfl
theorem dX11_enough_19 : decode cX11_enough 19 = .ok (.ldc2_w 301, 3) := dq daX11_enough_19_0 14 rfl
theorem dX11_enough_22 : decode cX11_enough 22 = .ok (.invokestatic 118, 3) := dq daX11_enough_19_0 15 rfl
theorem dX11_enough_25 : decode cX11_enough 25 = .ok (.ifCond .ne 7, 3) := dq daX11_enough_19_0 16 rfl
theorem dX11_enough_32 : decode cX11_enough 32 = .ok (.aload_n 0, 1) := dq daX11_enough_19_0 17 rfl
theorem dX11_enough_33 : decode cX11_enough 33 = .ok (.iload_n 1, 1) := dq daX11_enough_19_0 18 rfl
theorem dX11_enough_34 : decode cX11_enough 34 = .ok (.iload_n 2, 1) := dq daX11_enough_19_0 19 rfl
theorem dX11_enough_35 : decode cX11_enough 35 = .ok (.iload_n 3, 1) := dq daX11_enough_19_0 20 rfl
theorem dX11_enough_36 : decode cX11_enough 36 = .ok (.invokevirtual 463, 3) := dq daX11_enough_19_0 21 rfl
theorem dX11_enough_39 : decode cX11_enough 39 = .ok (.ifCond .eq 7, 3) := dq daX11_enough_19_0 22 rfl
theorem dX11_enough_46 : decode cX11_enough 46 = .ok (.iconst 0, 1) := dq daX11_enough_19_0 23 rfl
theorem dX11_enough_42 : decode cX11_enough 42 = .ok (.iconst 1, 1) := dq daX11_enough_19_0 24 rfl
theorem dX11_enough_43 : decode cX11_enough 43 = .ok (.goto 4, 3) := dq daX11_enough_19_0 25 rfl
def dtX11_least_19_0 : List (Nat × Jvm.ClassFile.Instr × Nat) := [(0, .aload_n 0, 1), (1, .iload_n 1, 1), (2, .invokevirtual 363, 3), (5, .ifCond .eq 11, 3), (16, .iconst (-1), 1), (17, .ireturn, 1), (8, .aload_n 0, 1), (9, .iload_n 2, 1), (10, .invokevirtual 267, 3), (13, .ifCond .ne 5, 3), (18, .iconst 0, 1), (19, .istore_n 3, 1), (20, .iload_n 3, 1), (21, .ldc_w 466, 3), (24, .if_icmp .ge 21, 3), (27, .aload_n 0, 1), (28, .iload_n 1, 1), (29, .iload_n 2, 1), (30, .iload_n 3, 1), (31, .invokevirtual 463, 3), (34, .ifCond .eq 5, 3), (39, .iinc 3 100, 3), (42, .goto (-22), 3), (37, .iload_n 3, 1), (38, .ireturn, 1), (45, .bipush (-2), 2), (47, .ireturn, 1)]
theorem daX11_least_19_0 : dtX11_least_19_0.all (dqd cX11_least) = true := by decide +kernel
theorem dX11_least_0 : decode cX11_least 0 = .ok (.aload_n 0, 1) := dq daX11_least_19_0 0 rfl
theorem dX11_least_1 : decode cX11_least 1 = .ok (.iload_n 1, 1) := dq daX11_least_19_0 1 rfl
theorem dX11_least_2 : decode cX11_least 2 = .ok (.invokevirtual 363, 3) := dq daX11_least_19_0 2 rfl
theorem dX11_least_5 : decode cX11_least 5 = .ok (.ifCond .eq 11, 3) := dq daX11_least_19_0 3 rfl
theorem dX11_least_16 : decode cX11_least 16 = .ok (.iconst (-1), 1) := dq daX11_least_19_0 4 rfl
theorem dX11_least_17 : decode cX11_least 17 = .ok (.ireturn, 1) := dq daX11_least_19_0 5 rfl
theorem dX11_least_8 : decode cX11_least 8 = .ok (.aload_n 0, 1) := dq daX11_least_19_0 6 rfl
theorem dX11_least_9 : decode cX11_least 9 = .ok (.iload_n 2, 1) := dq daX11_least_19_0 7 rfl
theorem dX11_least_10 : decode cX11_least 10 = .ok (.invokevirtual 267, 3) := dq daX11_least_19_0 8 rfl
theorem dX11_least_13 : decode cX11_least 13 = .ok (.ifCond .ne 5, 3) := dq daX11_least_19_0 9 rfl
theorem dX11_least_18 : decode cX11_least 18 = .ok (.iconst 0, 1) := dq daX11_least_19_0 10 rfl
theorem dX11_least_19 : decode cX11_least 19 = .ok (.istore_n 3, 1) := dq daX11_least_19_0 11 rfl
theorem dX11_least_20 : decode cX11_least 20 = .ok (.iload_n 3, 1) := dq daX11_least_19_0 12 rfl
theorem dX11_least_21 : decode cX11_least 21 = .ok (.ldc_w 466, 3) := dq daX11_least_19_0 13 rfl
theorem dX11_least_24 : decode cX11_least 24 = .ok (.if_icmp .ge 21, 3) := dq daX11_least_19_0 14 rfl
theorem dX11_least_27 : decode cX11_least 27 = .ok (.aload_n 0, 1) := dq daX11_least_19_0 15 rfl
theorem dX11_least_28 : decode cX11_least 28 = .ok (.iload_n 1, 1) := dq daX11_least_19_0 16 rfl
theorem dX11_least_29 : decode cX11_least 29 = .ok (.iload_n 2, 1) := dq daX11_least_19_0 17 rfl
theorem dX11_least_30 : decode cX11_least 30 = .ok (.iload_n 3, 1) := dq daX11_least_19_0 18 rfl
theorem dX11_least_31 : decode cX11_least 31 = .ok (.invokevirtual 463, 3) := dq daX11_least_19_0 19 rfl
theorem dX11_least_34 : decode cX11_least 34 = .ok (.ifCond .eq 5, 3) := dq daX11_least_19_0 20 rfl
theorem dX11_least_39 : decode cX11_least 39 = .ok (.iinc 3 100, 3) := dq daX11_least_19_0 21 rfl
theorem dX11_least_42 : decode cX11_least 42 = .ok (.goto (-22), 3) := dq daX11_least_19_0 22 rfl
theorem dX11_least_37 : decode cX11_least 37 = .ok (.iload_n 3, 1) := dq daX11_least_19_0 23 rfl
theorem dX11_least_38 : decode cX11_least 38 = .ok (.ireturn, 1) := dq daX11_least_19_0 24 rfl
theorem dX11_least_45 : decode cX11_least 45 = .ok (.bipush (-2), 2) := dq daX11_least_19_0 25 rfl
theorem dX11_least_47 : decode cX11_least 47 = .ok (.ireturn, 1) := dq daX11_least_19_0 26 rfl
