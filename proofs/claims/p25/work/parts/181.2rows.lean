theorem kX11_all_1 {a : Array Value} {s : State} (hts : ∀ w ∈ wsX11_all, w.before a s = true) : (.constantLong RX11 456 (6) : Cond).before a s = true := kw (A := ixX11_all) wt1277 hts (by decide +kernel)
theorem kX11_all_2 {a : Array Value} {s : State} (hts : ∀ w ∈ wsX11_all, w.before a s = true) : (.fieldLink RX11 39 "SnowMulesModel" "said" "[I" : Cond).before a s = true := kw (A := ixX11_all) wt153 hts (by decide +kernel)
theorem kX11_all_3 {a : Array Value} {s : State} (hts : ∀ w ∈ wsX11_all, w.before a s = true) : (.fieldLink RX11 69 "SnowMulesModel" "servers" "[I" : Cond).before a s = true := kw (A := ixX11_all) wt163 hts (by decide +kernel)
theorem iX11_all_X11 : ∀ w ∈ wsX110, w ∈ wsX11_all := inW (A := ixX11_all) uwX11 (by decide +kernel)
theorem hdX11_priceFrom : yX11_priceFrom.cls ≠ "java/lang/invoke/MethodHandle" ∧ yX11_priceFrom.cls ≠ "java/lang/invoke/VarHandle" ∧ (parseMethodDescriptor yX11_priceFrom.desc).map (fun d => d.parameters.length) = some 2 := ⟨hdc_0.1, hdc_0.2, hdd_0⟩
def dtX11_all_181_0 : List (Nat × Jvm.ClassFile.Instr × Nat) := [(0, .aload_n 0, 1), (1, .iload_n 1, 1), (2, .invokevirtual 363, 3), (5, .ifCond .eq 15, 3), (20, .iconst (-1), 1), (21, .ireturn, 1), (8, .iload_n 2, 1), (9, .i2l, 1), (10, .lconst 0, 1), (11, .ldc2_w 456, 3), (14, .invokestatic 118, 3), (17, .ifCond .ne 5, 3), (22, .iload_n 2, 1), (23, .aload_n 0, 1), (24, .getfield 39, 3), (27, .iconst 3, 1), (28, .iaload, 1), (29, .if_icmp .le 6, 3), (35, .iconst 0, 1), (36, .istore_n 3, 1), (37, .iload_n 3, 1), (38, .bipush 6, 2), (40, .if_icmp .ge 74, 3), (43, .aload_n 0, 1), (44, .getfield 69, 3), (47, .iload_n 3, 1), (48, .iconst 0, 1), (49, .iastore, 1), (50, .iconst 0, 1), (51, .istore 4, 2), (53, .iload 4, 2), (55, .aload_n 0, 1)]
theorem daX11_all_181_0 : dtX11_all_181_0.all (dqd cX11_all) = true := by decide +kernel
theorem dX11_all_0 : decode cX11_all 0 = .ok (.aload_n 0, 1) := dq daX11_all_181_0 0 rfl
theorem dX11_all_1 : decode cX11_all 1 = .ok (.iload_n 1, 1) := dq daX11_all_181_0 1 rfl
theorem dX11_all_2 : decode cX11_all 2 = .ok (.invokevirtual 363, 3) := dq daX11_all_181_0 2 rfl
theorem dX11_all_5 : decode cX11_all 5 = .ok (.ifCond .eq 15, 3) := dq daX11_all_181_0 3 rfl
theorem dX11_all_20 : decode cX11_all 20 = .ok (.iconst (-1), 1) := dq daX11_all_181_0 4 rfl
theorem dX11_all_21 : decode cX11_all 21 = .ok (.ireturn, 1) := dq daX11_all_181_0 5 rfl
theorem dX11_all_8 : decode cX11_all 8 = .ok (.iload_n 2, 1) := dq daX11_all_181_0 6 rfl
theorem dX11_all_9 : decode cX11_all 9 = .ok (.i2l, 1) := dq daX11_all_181_0 7 rfl
theorem dX11_all_10 : decode cX11_all 10 = .ok (.lconst 0, 1) := dq daX11_all_181_0 8 rfl
theorem dX11_all_11 : decode cX11_all 11 = .ok (.ldc2_w 456, 3) := dq daX11_all_181_0 9 rfl
theorem dX11_all_14 : decode cX11_all 14 = .ok (.invokestatic 118, 3) := dq daX11_all_181_0 10 rfl
theorem dX11_all_17 : decode cX11_all 17 = .ok (.ifCond .ne 5, 3) := dq daX11_all_181_0 11 rfl
theorem dX11_all_22 : decode cX11_all 22 = .ok (.iload_n 2, 1) := dq daX11_all_181_0 12 rfl
theorem dX11_all_23 : decode cX11_all 23 = .ok (.aload_n 0, 1) := dq daX11_all_181_0 13 rfl
theorem dX11_all_24 : decode cX11_all 24 = .ok (.getfield 39, 3) := dq daX11_all_181_0 14 rfl
theorem dX11_all_27 : decode cX11_all 27 = .ok (.iconst 3, 1) := dq daX11_all_181_0 15 rfl
theorem dX11_all_28 : decode cX11_all 28 = .ok (.iaload, 1) := dq daX11_all_181_0 16 rfl
theorem dX11_all_29 : decode cX11_all 29 = .ok (.if_icmp .le 6, 3) := dq daX11_all_181_0 17 rfl
theorem dX11_all_35 : decode cX11_all 35 = .ok (.iconst 0, 1) := dq daX11_all_181_0 18 rfl
theorem dX11_all_36 : decode cX11_all 36 = .ok (.istore_n 3, 1) := dq daX11_all_181_0 19 rfl
theorem dX11_all_37 : decode cX11_all 37 = .ok (.iload_n 3, 1) := dq daX11_all_181_0 20 rfl
theorem dX11_all_38 : decode cX11_all 38 = .ok (.bipush 6, 2) := dq daX11_all_181_0 21 rfl
theorem dX11_all_40 : decode cX11_all 40 = .ok (.if_icmp .ge 74, 3) := dq daX11_all_181_0 22 rfl
theorem dX11_all_43 : decode cX11_all 43 = .ok (.aload_n 0, 1) := dq daX11_all_181_0 23 rfl
theorem dX11_all_44 : decode cX11_all 44 = .ok (.getfield 69, 3) := dq daX11_all_181_0 24 rfl
theorem dX11_all_47 : decode cX11_all 47 = .ok (.iload_n 3, 1) := dq daX11_all_181_0 25 rfl
theorem dX11_all_48 : decode cX11_all 48 = .ok (.iconst 0, 1) := dq daX11_all_181_0 26 rfl
theorem dX11_all_49 : decode cX11_all 49 = .ok (.iastore, 1) := dq daX11_all_181_0 27 rfl
theorem dX11_all_50 : decode cX11_all 50 = .ok (.iconst 0, 1) := dq daX11_all_181_0 28 rfl
theorem dX11_all_51 : decode cX11_all 51 = .ok (.istore 4, 2) := dq daX11_all_181_0 29 rfl
theorem dX11_all_53 : decode cX11_all 53 = .ok (.iload 4, 2) := dq daX11_all_181_0 30 rfl
theorem dX11_all_55 : decode cX11_all 55 = .ok (.aload_n 0, 1) := dq daX11_all_181_0 31 rfl
def dtX11_all_181_1 : List (Nat × Jvm.ClassFile.Instr × Nat) := [(56, .getfield 39, 3), (59, .iconst 2, 1), (60, .iaload, 1), (61, .if_icmp .ge 47, 3), (64, .iload_n 3, 1), (65, .aload_n 0, 1), (66, .getfield 39, 3), (69, .iconst 3, 1), (70, .iaload, 1), (71, .if_icmp .ge 37, 3), (74, .aload_n 0, 1), (75, .getfield 69, 3), (78, .iload_n 3, 1), (79, .dup2, 1), (80, .iaload, 1), (81, .aload_n 0, 1), (82, .iload_n 1, 1), (83, .iload 4, 2), (85, .iload_n 3, 1), (86, .invokevirtual 447, 3), (89, .ifCond .lt 10, 3), (99, .iconst 0, 1), (100, .ior, 1), (101, .iastore, 1), (102, .iinc 4 1, 3), (105, .goto (-52), 3), (92, .iconst 1, 1), (93, .iload 4, 2), (95, .ishl, 1), (96, .goto 4, 3), (108, .iinc 3 1, 3), (111, .goto (-74), 3)]
theorem daX11_all_181_1 : dtX11_all_181_1.all (dqd cX11_all) = true := by decide +kernel
theorem dX11_all_56 : decode cX11_all 56 = .ok (.getfield 39, 3) := dq daX11_all_181_1 0 rfl
theorem dX11_all_59 : decode cX11_all 59 = .ok (.iconst 2, 1) := dq daX11_all_181_1 1 rfl
theorem dX11_all_60 : decode cX11_all 60 = .ok (.iaload, 1) := dq daX11_all_181_1 2 rfl
theorem dX11_all_61 : decode cX11_all 61 = .ok (.if_icmp .ge 47, 3) := dq daX11_all_181_1 3 rfl
theorem dX11_all_64 : decode cX11_all 64 = .ok (.iload_n 3, 1) := dq daX11_all_181_1 4 rfl
theorem dX11_all_65 : decode cX11_all 65 = .ok (.aload_n 0, 1) := dq daX11_all_181_1 5 rfl
theorem dX11_all_66 : decode cX11_all 66 = .ok (.getfield 39, 3) := dq daX11_all_181_1 6 rfl
theorem dX11_all_69 : decode cX11_all 69 = .ok (.iconst 3, 1) := dq daX11_all_181_1 7 rfl
theorem dX11_all_70 : decode cX11_all 70 = .ok (.iaload, 1) := dq daX11_all_181_1 8 rfl
theorem dX11_all_71 : decode cX11_all 71 = .ok (.if_icmp .ge 37, 3) := dq daX11_all_181_1 9 rfl
theorem dX11_all_74 : decode cX11_all 74 = .ok (.aload_n 0, 1) := dq daX11_all_181_1 10 rfl
theorem dX11_all_75 : decode cX11_all 75 = .ok (.getfield 69, 3) := dq daX11_all_181_1 11 rfl
theorem dX11_all_78 : decode cX11_all 78 = .ok (.iload_n 3, 1) := dq daX11_all_181_1 12 rfl
theorem dX11_all_79 : decode cX11_all 79 = .ok (.dup2, 1) := dq daX11_all_181_1 13 rfl
theorem dX11_all_80 : decode cX11_all 80 = .ok (.iaload, 1) := dq daX11_all_181_1 14 rfl
theorem dX11_all_81 : decode cX11_all 81 = .ok (.aload_n 0, 1) := dq daX11_all_181_1 15 rfl
theorem dX11_all_82 : decode cX11_all 82 = .ok (.iload_n 1, 1) := dq daX11_all_181_1 16 rfl
theorem dX11_all_83 : decode cX11_all 83 = .ok (.iload 4, 2) := dq daX11_all_181_1 17 rfl
theorem dX11_all_85 : decode cX11_all 85 = .ok (.iload_n 3, 1) := dq daX11_all_181_1 18 rfl
theorem dX11_all_86 : decode cX11_all 86 = .ok (.invokevirtual 447, 3) := dq daX11_all_181_1 19 rfl
theorem dX11_all_89 : decode cX11_all 89 = .ok (.ifCond .lt 10, 3) := dq daX11_all_181_1 20 rfl
theorem dX11_all_99 : decode cX11_all 99 = .ok (.iconst 0, 1) := dq daX11_all_181_1 21 rfl
theorem dX11_all_100 : decode cX11_all 100 = .ok (.ior, 1) := dq daX11_all_181_1 22 rfl
theorem dX11_all_101 : decode cX11_all 101 = .ok (.iastore, 1) := dq daX11_all_181_1 23 rfl
theorem dX11_all_102 : decode cX11_all 102 = .ok (.iinc 4 1, 3) := dq daX11_all_181_1 24 rfl
theorem dX11_all_105 : decode cX11_all 105 = .ok (.goto (-52), 3) := dq daX11_all_181_1 25 rfl
theorem dX11_all_92 : decode cX11_all 92 = .ok (.iconst 1, 1) := dq daX11_all_181_1 26 rfl
theorem dX11_all_93 : decode cX11_all 93 = .ok (.iload 4, 2) := dq daX11_all_181_1 27 rfl
theorem dX11_all_95 : decode cX11_all 95 = .ok (.ishl, 1) := dq daX11_all_181_1 28 rfl
theorem dX11_all_96 : decode cX11_all 96 = .ok (.goto 4, 3) := dq daX11_all_181_1 29 rfl
theorem dX11_all_108 : decode cX11_all 108 = .ok (.iinc 3 1, 3) := dq daX11_all_181_1 30 rfl
theorem dX11_all_111 : decode cX11_all 111 = .ok (.goto (-74), 3) := dq daX11_all_181_1 31 rfl
def dtX11_all_181_2 : List (Nat × Jvm.ClassFile.Instr × Nat) := [(32, .bipush (-2), 2), (34, .ireturn, 1), (114, .aload_n 0, 1), (115, .iconst 0, 1), (116, .iconst 0, 1), (117, .invokevirtual 458, 3), (120, .istore_n 3, 1), (121, .iload_n 2, 1), (122, .ifCond .ne 5, 3), (127, .iconst 0, 1), (128, .istore 4, 2), (130, .iload_n 3, 1), (131, .istore 5, 2), (133, .iconst (-1), 1), (134, .istore 6, 2), (136, .iconst 0, 1), (137, .istore 7, 2), (139, .iload 7, 2), (141, .iload_n 2, 1), (142, .if_icmp .ge 122, 3), (145, .aload_n 0, 1), (146, .getfield 39, 3), (149, .sipush 312, 3), (152, .iconst 4, 1), (153, .iload 7, 2), (155, .imul, 1), (156, .iadd, 1), (157, .iconst 3, 1), (158, .iadd, 1), (159, .iaload, 1), (160, .istore 8, 2), (162, .iconst (-1), 1)]
theorem daX11_all_181_2 : dtX11_all_181_2.all (dqd cX11_all) = true := by decide +kernel
theorem dX11_all_32 : decode cX11_all 32 = .ok (.bipush (-2), 2) := dq daX11_all_181_2 0 rfl
theorem dX11_all_34 : decode cX11_all 34 = .ok (.ireturn, 1) := dq daX11_all_181_2 1 rfl
theorem dX11_all_114 : decode cX11_all 114 = .ok (.aload_n 0, 1) := dq daX11_all_181_2 2 rfl
theorem dX11_all_115 : decode cX11_all 115 = .ok (.iconst 0, 1) := dq daX11_all_181_2 3 rfl
theorem dX11_all_116 : decode cX11_all 116 = .ok (.iconst 0, 1) := dq daX11_all_181_2 4 rfl
theorem dX11_all_117 : decode cX11_all 117 = .ok (.invokevirtual 458, 3) := dq daX11_all_181_2 5 rfl
theorem dX11_all_120 : decode cX11_all 120 = .ok (.istore_n 3, 1) := dq daX11_all_181_2 6 rfl
theorem dX11_all_121 : decode cX11_all 121 = .ok (.iload_n 2, 1) := dq daX11_all_181_2 7 rfl
theorem dX11_all_122 : decode cX11_all 122 = .ok (.ifCond .ne 5, 3) := dq daX11_all_181_2 8 rfl
theorem dX11_all_127 : decode cX11_all 127 = .ok (.iconst 0, 1) := dq daX11_all_181_2 9 rfl
theorem dX11_all_128 : decode cX11_all 128 = .ok (.istore 4, 2) := dq daX11_all_181_2 10 rfl
theorem dX11_all_130 : decode cX11_all 130 = .ok (.iload_n 3, 1) := dq daX11_all_181_2 11 rfl
theorem dX11_all_131 : decode cX11_all 131 = .ok (.istore 5, 2) := dq daX11_all_181_2 12 rfl
theorem dX11_all_133 : decode cX11_all 133 = .ok (.iconst (-1), 1) := dq daX11_all_181_2 13 rfl
theorem dX11_all_134 : decode cX11_all 134 = .ok (.istore 6, 2) := dq daX11_all_181_2 14 rfl
theorem dX11_all_136 : decode cX11_all 136 = .ok (.iconst 0, 1) := dq daX11_all_181_2 15 rfl
theorem dX11_all_137 : decode cX11_all 137 = .ok (.istore 7, 2) := dq daX11_all_181_2 16 rfl
theorem dX11_all_139 : decode cX11_all 139 = .ok (.iload 7, 2) := dq daX11_all_181_2 17 rfl
theorem dX11_all_141 : decode cX11_all 141 = .ok (.iload_n 2, 1) := dq daX11_all_181_2 18 rfl
theorem dX11_all_142 : decode cX11_all 142 = .ok (.if_icmp .ge 122, 3) := dq daX11_all_181_2 19 rfl
theorem dX11_all_145 : decode cX11_all 145 = .ok (.aload_n 0, 1) := dq daX11_all_181_2 20 rfl
theorem dX11_all_146 : decode cX11_all 146 = .ok (.getfield 39, 3) := dq daX11_all_181_2 21 rfl
theorem dX11_all_149 : decode cX11_all 149 = .ok (.sipush 312, 3) := dq daX11_all_181_2 22 rfl
theorem dX11_all_152 : decode cX11_all 152 = .ok (.iconst 4, 1) := dq daX11_all_181_2 23 rfl
theorem dX11_all_153 : decode cX11_all 153 = .ok (.iload 7, 2) := dq daX11_all_181_2 24 rfl
theorem dX11_all_155 : decode cX11_all 155 = .ok (.imul, 1) := dq daX11_all_181_2 25 rfl
theorem dX11_all_156 : decode cX11_all 156 = .ok (.iadd, 1) := dq daX11_all_181_2 26 rfl
theorem dX11_all_157 : decode cX11_all 157 = .ok (.iconst 3, 1) := dq daX11_all_181_2 27 rfl
theorem dX11_all_158 : decode cX11_all 158 = .ok (.iadd, 1) := dq daX11_all_181_2 28 rfl
theorem dX11_all_159 : decode cX11_all 159 = .ok (.iaload, 1) := dq daX11_all_181_2 29 rfl
theorem dX11_all_160 : decode cX11_all 160 = .ok (.istore 8, 2) := dq daX11_all_181_2 30 rfl
theorem dX11_all_162 : decode cX11_all 162 = .ok (.iconst (-1), 1) := dq daX11_all_181_2 31 rfl
def dtX11_all_181_3 : List (Nat × Jvm.ClassFile.Instr × Nat) := [(163, .istore 6, 2), (165, .iconst 0, 1), (166, .istore 9, 2), (168, .iload 9, 2), (170, .bipush 16, 2), (172, .if_icmp .ge 62, 3), (175, .iload 6, 2), (177, .ifCond .ge 57, 3), (180, .aload_n 0, 1), (181, .getfield 69, 3), (184, .iload 7, 2), (186, .iaload, 1), (187, .iload 4, 2), (189, .iconst (-1), 1), (190, .ixor, 1), (191, .iand, 1), (192, .iload 9, 2), (194, .ishr, 1), (195, .iconst 1, 1), (196, .iand, 1), (197, .iconst 1, 1), (198, .if_icmp .ne 30, 3), (228, .iinc 9 1, 3), (231, .goto (-63), 3), (201, .iload 8, 2), (203, .aload_n 0, 1), (204, .iload 7, 2), (206, .iconst 1, 1), (207, .iadd, 1), (208, .iload 4, 2), (210, .iconst 1, 1), (211, .iload 9, 2)]
theorem daX11_all_181_3 : dtX11_all_181_3.all (dqd cX11_all) = true := by decide +kernel
theorem dX11_all_163 : decode cX11_all 163 = .ok (.istore 6, 2) := dq daX11_all_181_3 0 rfl
theorem dX11_all_165 : decode cX11_all 165 = .ok (.iconst 0, 1) := dq daX11_all_181_3 1 rfl
theorem dX11_all_166 : decode cX11_all 166 = .ok (.istore 9, 2) := dq daX11_all_181_3 2 rfl
theorem dX11_all_168 : decode cX11_all 168 = .ok (.iload 9, 2) := dq daX11_all_181_3 3 rfl
theorem dX11_all_170 : decode cX11_all 170 = .ok (.bipush 16, 2) := dq daX11_all_181_3 4 rfl
theorem dX11_all_172 : decode cX11_all 172 = .ok (.if_icmp .ge 62, 3) := dq daX11_all_181_3 5 rfl
theorem dX11_all_175 : decode cX11_all 175 = .ok (.iload 6, 2) := dq daX11_all_181_3 6 rfl
theorem dX11_all_177 : decode cX11_all 177 = .ok (.ifCond .ge 57, 3) := dq daX11_all_181_3 7 rfl
theorem dX11_all_180 : decode cX11_all 180 = .ok (.aload_n 0, 1) := dq daX11_all_181_3 8 rfl
theorem dX11_all_181 : decode cX11_all 181 = .ok (.getfield 69, 3) := dq daX11_all_181_3 9 rfl
theorem dX11_all_184 : decode cX11_all 184 = .ok (.iload 7, 2) := dq daX11_all_181_3 10 rfl
theorem dX11_all_186 : decode cX11_all 186 = .ok (.iaload, 1) := dq daX11_all_181_3 11 rfl
theorem dX11_all_187 : decode cX11_all 187 = .ok (.iload 4, 2) := dq daX11_all_181_3 12 rfl
theorem dX11_all_189 : decode cX11_all 189 = .ok (.iconst (-1), 1) := dq daX11_all_181_3 13 rfl
theorem dX11_all_190 : decode cX11_all 190 = .ok (.ixor, 1) := dq daX11_all_181_3 14 rfl
theorem dX11_all_191 : decode cX11_all 191 = .ok (.iand, 1) := dq daX11_all_181_3 15 rfl
theorem dX11_all_192 : decode cX11_all 192 = .ok (.iload 9, 2) := dq daX11_all_181_3 16 rfl
theorem dX11_all_194 : decode cX11_all 194 = .ok (.ishr, 1) := dq daX11_all_181_3 17 rfl
theorem dX11_all_195 : decode cX11_all 195 = .ok (.iconst 1, 1) := dq daX11_all_181_3 18 rfl
theorem dX11_all_196 : decode cX11_all 196 = .ok (.iand, 1) := dq daX11_all_181_3 19 rfl
theorem dX11_all_197 : decode cX11_all 197 = .ok (.iconst 1, 1) := dq daX11_all_181_3 20 rfl
theorem dX11_all_198 : decode cX11_all 198 = .ok (.if_icmp .ne 30, 3) := dq daX11_all_181_3 21 rfl
theorem dX11_all_228 : decode cX11_all 228 = .ok (.iinc 9 1, 3) := dq daX11_all_181_3 22 rfl
theorem dX11_all_231 : decode cX11_all 231 = .ok (.goto (-63), 3) := dq daX11_all_181_3 23 rfl
theorem dX11_all_201 : decode cX11_all 201 = .ok (.iload 8, 2) := dq daX11_all_181_3 24 rfl
theorem dX11_all_203 : decode cX11_all 203 = .ok (.aload_n 0, 1) := dq daX11_all_181_3 25 rfl
theorem dX11_all_204 : decode cX11_all 204 = .ok (.iload 7, 2) := dq daX11_all_181_3 26 rfl
theorem dX11_all_206 : decode cX11_all 206 = .ok (.iconst 1, 1) := dq daX11_all_181_3 27 rfl
theorem dX11_all_207 : decode cX11_all 207 = .ok (.iadd, 1) := dq daX11_all_181_3 28 rfl
theorem dX11_all_208 : decode cX11_all 208 = .ok (.iload 4, 2) := dq daX11_all_181_3 29 rfl
theorem dX11_all_210 : decode cX11_all 210 = .ok (.iconst 1, 1) := dq daX11_all_181_3 30 rfl
theorem dX11_all_211 : decode cX11_all 211 = .ok (.iload 9, 2) := dq daX11_all_181_3 31 rfl
def dtX11_all_181_4 : List (Nat × Jvm.ClassFile.Instr × Nat) := [(213, .ishl, 1), (214, .ior, 1), (215, .invokevirtual 458, 3), (218, .iadd, 1), (219, .iload 5, 2), (221, .if_icmp .ne 7, 3), (224, .iload 9, 2), (226, .istore 6, 2), (264, .iload 6, 2), (266, .ifCond .ge 8, 3), (269, .bipush 16, 2), (271, .goto 5, 3), (276, .ireturn, 1), (125, .iload_n 3, 1), (126, .ireturn, 1), (234, .iload 6, 2), (236, .ifCond .ge 6, 3), (242, .iload 4, 2), (244, .iconst 1, 1), (245, .iload 6, 2), (247, .ishl, 1), (248, .ior, 1), (249, .istore 4, 2), (251, .iload 5, 2), (253, .iload 8, 2), (255, .isub, 1), (256, .istore 5, 2), (258, .iinc 7 1, 3), (261, .goto (-122), 3), (239, .goto 19, 3), (274, .iload 6, 2)]
theorem daX11_all_181_4 : dtX11_all_181_4.all (dqd cX11_all) = true := by decide +kernel
theorem dX11_all_213 : decode cX11_all 213 = .ok (.ishl, 1) := dq daX11_all_181_4 0 rfl
theorem dX11_all_214 : decode cX11_all 214 = .ok (.ior, 1) := dq daX11_all_181_4 1 rfl
theorem dX11_all_215 : decode cX11_all 215 = .ok (.invokevirtual 458, 3) := dq daX11_all_181_4 2 rfl
theorem dX11_all_218 : decode cX11_all 218 = .ok (.iadd, 1) := dq daX11_all_181_4 3 rfl
theorem dX11_all_219 : decode cX11_all 219 = .ok (.iload 5, 2) := dq daX11_all_181_4 4 rfl
theorem dX11_all_221 : decode cX11_all 221 = .ok (.if_icmp .ne 7, 3) := dq daX11_all_181_4 5 rfl
theorem dX11_all_224 : decode cX11_all 224 = .ok (.iload 9, 2) := dq daX11_all_181_4 6 rfl
theorem dX11_all_226 : decode cX11_all 226 = .ok (.istore 6, 2) := dq daX11_all_181_4 7 rfl
theorem dX11_all_264 : decode cX11_all 264 = .ok (.iload 6, 2) := dq daX11_all_181_4 8 rfl
theorem dX11_all_266 : decode cX11_all 266 = .ok (.ifCond .ge 8, 3) := dq daX11_all_181_4 9 rfl
theorem dX11_all_269 : decode cX11_all 269 = .ok (.bipush 16, 2) := dq daX11_all_181_4 10 rfl
theorem dX11_all_271 : decode cX11_all 271 = .ok (.goto 5, 3) := dq daX11_all_181_4 11 rfl
theorem dX11_all_276 : decode cX11_all 276 = .ok (.ireturn, 1) := dq daX11_all_181_4 12 rfl
theorem dX11_all_125 : decode cX11_all 125 = .ok (.iload_n 3, 1) := dq daX11_all_181_4 13 rfl
theorem dX11_all_126 : decode cX11_all 126 = .ok (.ireturn, 1) := dq daX11_all_181_4 14 rfl
theorem dX11_all_234 : decode cX11_all 234 = .ok (.iload 6, 2) := dq daX11_all_181_4 15 rfl
theorem dX11_all_236 : decode cX11_all 236 = .ok (.ifCond .ge 6, 3) := dq daX11_all_181_4 16 rfl
theorem dX11_all_242 : decode cX11_all 242 = .ok (.iload 4, 2) := dq daX11_all_181_4 17 rfl
theorem dX11_all_244 : decode cX11_all 244 = .ok (.iconst 1, 1) := dq daX11_all_181_4 18 rfl
theorem dX11_all_245 : decode cX11_all 245 = .ok (.iload 6, 2) := dq daX11_all_181_4 19 rfl
theorem dX11_all_247 : decode cX11_all 247 = .ok (.ishl, 1) := dq daX11_all_181_4 20 rfl
theorem dX11_all_248 : decode cX11_all 248 = .ok (.ior, 1) := dq daX11_all_181_4 21 rfl
theorem dX11_all_249 : decode cX11_all 249 = .ok (.istore 4, 2) := dq daX11_all_181_4 22 rfl
theorem dX11_all_251 : decode cX11_all 251 = .ok (.iload 5, 2) := dq daX11_all_181_4 23 rfl
theorem dX11_all_253 : decode cX11_all 253 = .ok (.iload 8, 2) := dq daX11_all_181_4 24 rfl
theorem dX11_all_255 : decode cX11_all 255 = .ok (.isub, 1) := dq daX11_all_181_4 25 rfl
theorem dX11_all_256 : decode cX11_all 256 = .ok (.istore 5, 2) := dq daX11_all_181_4 26 rfl
theorem dX11_all_258 : decode cX11_all 258 = .ok (.iinc 7 1, 3) := dq daX11_all_181_4 27 rfl
theorem dX11_all_261 : decode cX11_all 261 = .ok (.goto (-122), 3) := dq daX11_all_181_4 28 rfl
theorem dX11_all_239 : decode cX11_all 239 = .ok (.goto 19, 3) := dq daX11_all_181_4 29 rfl
theorem dX11_all_274 : decode cX11_all 274 = .ok (.iload 6, 2) := dq daX11_all_181_4 30 rfl
