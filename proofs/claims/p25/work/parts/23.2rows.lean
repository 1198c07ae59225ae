theorem kX11_ahead_1 {a : Array Value} {s : State} (hts : ∀ w ∈ wsX11_ahead, w.before a s = true) : (.constantLong RX11 366 (240) : Cond).before a s = true := kw (A := ixX11_ahead) wt805 hts (by decide +kernel)
theorem kX11_ahead_2 {a : Array Value} {s : State} (hts : ∀ w ∈ wsX11_ahead, w.before a s = true) : (.fieldLink RX11 42 "SnowMulesModel" "kept" "[I" : Cond).before a s = true := kw (A := ixX11_ahead) wt154 hts (by decide +kernel)
theorem kX11_ahead_3 {a : Array Value} {s : State} (hts : ∀ w ∈ wsX11_ahead, w.before a s = true) : (.fieldLink RX11 39 "SnowMulesModel" "said" "[I" : Cond).before a s = true := kw (A := ixX11_ahead) wt153 hts (by decide +kernel)
theorem iX11_ahead_X11 : ∀ w ∈ wsX110, w ∈ wsX11_ahead := inW (A := ixX11_ahead) uwX11 (by decide +kernel)
def dtX11_ahead_23_0 : List (Nat × Jvm.ClassFile.Instr × Nat) := [(0, .aload_n 0, 1), (1, .iload_n 1, 1), (2, .invokevirtual 363, 3), (5, .ifCond .eq 25, 3), (30, .iconst (-1), 1), (31, .ireturn, 1), (8, .iload_n 2, 1), (9, .i2l, 1), (10, .lconst 0, 1), (11, .ldc2_w 366, 3), (14, .invokestatic 118, 3), (17, .ifCond .eq 13, 3), (20, .iload_n 3, 1), (21, .i2l, 1), (22, .lconst 0, 1), (23, .lconst 1, 1), (24, .invokestatic 118, 3), (27, .ifCond .ne 5, 3), (32, .iconst 0, 1), (33, .istore 4, 2), (35, .iload 4, 2), (37, .sipush 360, 3), (40, .if_icmp .ge 23, 3), (43, .aload_n 0, 1), (44, .getfield 42, 3), (47, .iload 4, 2), (49, .aload_n 0, 1), (50, .getfield 39, 3), (53, .iload 4, 2), (55, .iaload, 1), (56, .iastore, 1), (57, .iinc 4 1, 3)]
theorem daX11_ahead_23_0 : dtX11_ahead_23_0.all (dqd cX11_ahead) = true := by decide +kernel
theorem dX11_ahead_0 : decode cX11_ahead 0 = .ok (.aload_n 0, 1) := dq daX11_ahead_23_0 0 rfl
theorem dX11_ahead_1 : decode cX11_ahead 1 = .ok (.iload_n 1, 1) := dq daX11_ahead_23_0 1 rfl
theorem dX11_ahead_2 : decode cX11_ahead 2 = .ok (.invokevirtual 363, 3) := dq daX11_ahead_23_0 2 rfl
theorem dX11_ahead_5 : decode cX11_ahead 5 = .ok (.ifCond .eq 25, 3) := dq daX11_ahead_23_0 3 rfl
theorem dX11_ahead_30 : decode cX11_ahead 30 = .ok (.iconst (-1), 1) := dq daX11_ahead_23_0 4 rfl
theorem dX11_ahead_31 : decode cX11_ahead 31 = .ok (.ireturn, 1) := dq daX11_ahead_23_0 5 rfl
theorem dX11_ahead_8 : decode cX11_ahead 8 = .ok (.iload_n 2, 1) := dq daX11_ahead_23_0 6 rfl
theorem dX11_ahead_9 : decode cX11_ahead 9 = .ok (.i2l, 1) := dq daX11_ahead_23_0 7 rfl
theorem dX11_ahead_10 : decode cX11_ahead 10 = .ok (.lconst 0, 1) := dq daX11_ahead_23_0 8 rfl
theorem dX11_ahead_11 : decode cX11_ahead 11 = .ok (.ldc2_w 366, 3) := dq daX11_ahead_23_0 9 rfl
theorem dX11_ahead_14 : decode cX11_ahead 14 = .ok (.invokestatic 118, 3) := dq daX11_ahead_23_0 10 rfl
theorem dX11_ahead_17 : decode cX11_ahead 17 = .ok (.ifCond .eq 13, 3) := dq daX11_ahead_23_0 11 rfl
theorem dX11_ahead_20 : decode cX11_ahead 20 = .ok (.iload_n 3, 1) := dq daX11_ahead_23_0 12 rfl
theorem dX11_ahead_21 : decode cX11_ahead 21 = .ok (.i2l, 1) := dq daX11_ahead_23_0 13 rfl
theorem dX11_ahead_22 : decode cX11_ahead 22 = .ok (.lconst 0, 1) := dq daX11_ahead_23_0 14 rfl
theorem dX11_ahead_23 : decode cX11_ahead 23 = .ok (.lconst 1, 1) := dq daX11_ahead_23_0 15 rfl
theorem dX11_ahead_24 : decode cX11_ahead 24 = .ok (.invokestatic 118, 3) := dq daX11_ahead_23_0 16 rfl
theorem dX11_ahead_27 : decode cX11_ahead 27 = .ok (.ifCond .ne 5, 3) := dq daX11_ahead_23_0 17 rfl
theorem dX11_ahead_32 : decode cX11_ahead 32 = .ok (.iconst 0, 1) := dq daX11_ahead_23_0 18 rfl
theorem dX11_ahead_33 : decode cX11_ahead 33 = .ok (.istore 4, 2) := dq daX11_ahead_23_0 19 rfl
theorem dX11_ahead_35 : decode cX11_ahead 35 = .ok (.iload 4, 2) := dq daX11_ahead_23_0 20 rfl
theorem dX11_ahead_37 : decode cX11_ahead 37 = .ok (.sipush 360, 3) := dq daX11_ahead_23_0 21 rfl
theorem dX11_ahead_40 : decode cX11_ahead 40 = .ok (.if_icmp .ge 23, 3) := dq daX11_ahead_23_0 22 rfl
theorem dX11_ahead_43 : decode cX11_ahead 43 = .ok (.aload_n 0, 1) := dq daX11_ahead_23_0 23 rfl
theorem dX11_ahead_44 : decode cX11_ahead 44 = .ok (.getfield 42, 3) := dq daX11_ahead_23_0 24 rfl
theorem dX11_ahead_47 : decode cX11_ahead 47 = .ok (.iload 4, 2) := dq daX11_ahead_23_0 25 rfl
theorem dX11_ahead_49 : decode cX11_ahead 49 = .ok (.aload_n 0, 1) := dq daX11_ahead_23_0 26 rfl
theorem dX11_ahead_50 : decode cX11_ahead 50 = .ok (.getfield 39, 3) := dq daX11_ahead_23_0 27 rfl
theorem dX11_ahead_53 : decode cX11_ahead 53 = .ok (.iload 4, 2) := dq daX11_ahead_23_0 28 rfl
theorem dX11_ahead_55 : decode cX11_ahead 55 = .ok (.iaload, 1) := dq daX11_ahead_23_0 29 rfl
theorem dX11_ahead_56 : decode cX11_ahead 56 = .ok (.iastore, 1) := dq daX11_ahead_23_0 30 rfl
theorem dX11_ahead_57 : decode cX11_ahead 57 = .ok (.iinc 4 1, 3) := dq daX11_ahead_23_0 31 rfl
def dtX11_ahead_23_1 : List (Nat × Jvm.ClassFile.Instr × Nat) := [(60, .goto (-25), 3), (63, .iconst 0, 1), (64, .istore 4, 2), (66, .iload 4, 2), (68, .iload_n 2, 1), (69, .if_icmp .ge 14, 3), (72, .aload_n 0, 1), (73, .iload_n 1, 1), (74, .invokevirtual 368, 3), (77, .iinc 4 1, 3), (80, .goto (-14), 3), (83, .iconst 0, 1), (84, .istore 4, 2), (86, .iconst 0, 1), (87, .istore 5, 2), (89, .iconst 0, 1), (90, .istore 6, 2), (92, .iload 6, 2), (94, .aload_n 0, 1), (95, .getfield 39, 3), (98, .iconst 2, 1), (99, .iaload, 1), (100, .if_icmp .ge 43, 3), (103, .iload 4, 2), (105, .aload_n 0, 1), (106, .iload 6, 2), (108, .iconst 4, 1), (109, .invokevirtual 283, 3), (112, .iadd, 1), (113, .istore 4, 2), (115, .iload 5, 2), (117, .aload_n 0, 1)]
theorem daX11_ahead_23_1 : dtX11_ahead_23_1.all (dqd cX11_ahead) = true := by decide +kernel
theorem dX11_ahead_60 : decode cX11_ahead 60 = .ok (.goto (-25), 3) := dq daX11_ahead_23_1 0 rfl
theorem dX11_ahead_63 : decode cX11_ahead 63 = .ok (.iconst 0, 1) := dq daX11_ahead_23_1 1 rfl
theorem dX11_ahead_64 : decode cX11_ahead 64 = .ok (.istore 4, 2) := dq daX11_ahead_23_1 2 rfl
theorem dX11_ahead_66 : decode cX11_ahead 66 = .ok (.iload 4, 2) := dq daX11_ahead_23_1 3 rfl
theorem dX11_ahead_68 : decode cX11_ahead 68 = .ok (.iload_n 2, 1) := dq daX11_ahead_23_1 4 rfl
theorem dX11_ahead_69 : decode cX11_ahead 69 = .ok (.if_icmp .ge 14, 3) := dq daX11_ahead_23_1 5 rfl
theorem dX11_ahead_72 : decode cX11_ahead 72 = .ok (.aload_n 0, 1) := dq daX11_ahead_23_1 6 rfl
theorem dX11_ahead_73 : decode cX11_ahead 73 = .ok (.iload_n 1, 1) := dq daX11_ahead_23_1 7 rfl
theorem dX11_ahead_74 : decode cX11_ahead 74 = .ok (.invokevirtual 368, 3) := dq daX11_ahead_23_1 8 rfl
theorem dX11_ahead_77 : decode cX11_ahead 77 = .ok (.iinc 4 1, 3) := dq daX11_ahead_23_1 9 rfl
theorem dX11_ahead_80 : decode cX11_ahead 80 = .ok (.goto (-14), 3) := dq daX11_ahead_23_1 10 rfl
theorem dX11_ahead_83 : decode cX11_ahead 83 = .ok (.iconst 0, 1) := dq daX11_ahead_23_1 11 rfl
theorem dX11_ahead_84 : decode cX11_ahead 84 = .ok (.istore 4, 2) := dq daX11_ahead_23_1 12 rfl
theorem dX11_ahead_86 : decode cX11_ahead 86 = .ok (.iconst 0, 1) := dq daX11_ahead_23_1 13 rfl
theorem dX11_ahead_87 : decode cX11_ahead 87 = .ok (.istore 5, 2) := dq daX11_ahead_23_1 14 rfl
theorem dX11_ahead_89 : decode cX11_ahead 89 = .ok (.iconst 0, 1) := dq daX11_ahead_23_1 15 rfl
theorem dX11_ahead_90 : decode cX11_ahead 90 = .ok (.istore 6, 2) := dq daX11_ahead_23_1 16 rfl
theorem dX11_ahead_92 : decode cX11_ahead 92 = .ok (.iload 6, 2) := dq daX11_ahead_23_1 17 rfl
theorem dX11_ahead_94 : decode cX11_ahead 94 = .ok (.aload_n 0, 1) := dq daX11_ahead_23_1 18 rfl
theorem dX11_ahead_95 : decode cX11_ahead 95 = .ok (.getfield 39, 3) := dq daX11_ahead_23_1 19 rfl
theorem dX11_ahead_98 : decode cX11_ahead 98 = .ok (.iconst 2, 1) := dq daX11_ahead_23_1 20 rfl
theorem dX11_ahead_99 : decode cX11_ahead 99 = .ok (.iaload, 1) := dq daX11_ahead_23_1 21 rfl
theorem dX11_ahead_100 : decode cX11_ahead 100 = .ok (.if_icmp .ge 43, 3) := dq daX11_ahead_23_1 22 rfl
theorem dX11_ahead_103 : decode cX11_ahead 103 = .ok (.iload 4, 2) := dq daX11_ahead_23_1 23 rfl
theorem dX11_ahead_105 : decode cX11_ahead 105 = .ok (.aload_n 0, 1) := dq daX11_ahead_23_1 24 rfl
theorem dX11_ahead_106 : decode cX11_ahead 106 = .ok (.iload 6, 2) := dq daX11_ahead_23_1 25 rfl
theorem dX11_ahead_108 : decode cX11_ahead 108 = .ok (.iconst 4, 1) := dq daX11_ahead_23_1 26 rfl
theorem dX11_ahead_109 : decode cX11_ahead 109 = .ok (.invokevirtual 283, 3) := dq daX11_ahead_23_1 27 rfl
theorem dX11_ahead_112 : decode cX11_ahead 112 = .ok (.iadd, 1) := dq daX11_ahead_23_1 28 rfl
theorem dX11_ahead_113 : decode cX11_ahead 113 = .ok (.istore 4, 2) := dq daX11_ahead_23_1 29 rfl
theorem dX11_ahead_115 : decode cX11_ahead 115 = .ok (.iload 5, 2) := dq daX11_ahead_23_1 30 rfl
theorem dX11_ahead_117 : decode cX11_ahead 117 = .ok (.aload_n 0, 1) := dq daX11_ahead_23_1 31 rfl
def dtX11_ahead_23_2 : List (Nat × Jvm.ClassFile.Instr × Nat) := [(118, .iload 6, 2), (120, .iconst 5, 1), (121, .invokevirtual 283, 3), (124, .bipush 13, 2), (126, .if_icmp .ne 7, 3), (133, .iconst 1, 1), (134, .iadd, 1), (135, .istore 5, 2), (137, .iinc 6 1, 3), (140, .goto (-48), 3), (129, .iconst 0, 1), (130, .goto 4, 3), (143, .iconst 0, 1), (144, .istore 6, 2), (146, .iload 6, 2), (148, .aload_n 0, 1), (149, .getfield 39, 3), (152, .iconst 0, 1), (153, .iaload, 1), (154, .if_icmp .ge 21, 3), (157, .iload 4, 2), (159, .aload_n 0, 1), (160, .iload 6, 2), (162, .iconst 3, 1), (163, .invokevirtual 257, 3), (166, .iadd, 1), (167, .istore 4, 2), (169, .iinc 6 1, 3), (172, .goto (-26), 3), (175, .iconst 0, 1), (176, .istore 6, 2), (178, .iload 6, 2)]
theorem daX11_ahead_23_2 : dtX11_ahead_23_2.all (dqd cX11_ahead) = true := by decide +kernel
theorem dX11_ahead_118 : decode cX11_ahead 118 = .ok (.iload 6, 2) := dq daX11_ahead_23_2 0 rfl
theorem dX11_ahead_120 : decode cX11_ahead 120 = .ok (.iconst 5, 1) := dq daX11_ahead_23_2 1 rfl
theorem dX11_ahead_121 : decode cX11_ahead 121 = .ok (.invokevirtual 283, 3) := dq daX11_ahead_23_2 2 rfl
theorem dX11_ahead_124 : decode cX11_ahead 124 = .ok (.bipush 13, 2) := dq daX11_ahead_23_2 3 rfl
theorem dX11_ahead_126 : decode cX11_ahead 126 = .ok (.if_icmp .ne 7, 3) := dq daX11_ahead_23_2 4 rfl
theorem dX11_ahead_133 : decode cX11_ahead 133 = .ok (.iconst 1, 1) := dq daX11_ahead_23_2 5 rfl
theorem dX11_ahead_134 : decode cX11_ahead 134 = .ok (.iadd, 1) := dq daX11_ahead_23_2 6 rfl
theorem dX11_ahead_135 : decode cX11_ahead 135 = .ok (.istore 5, 2) := dq daX11_ahead_23_2 7 rfl
theorem dX11_ahead_137 : decode cX11_ahead 137 = .ok (.iinc 6 1, 3) := dq daX11_ahead_23_2 8 rfl
theorem dX11_ahead_140 : decode cX11_ahead 140 = .ok (.goto (-48), 3) := dq daX11_ahead_23_2 9 rfl
theorem dX11_ahead_129 : decode cX11_ahead 129 = .ok (.iconst 0, 1) := dq daX11_ahead_23_2 10 rfl
theorem dX11_ahead_130 : decode cX11_ahead 130 = .ok (.goto 4, 3) := dq daX11_ahead_23_2 11 rfl
theorem dX11_ahead_143 : decode cX11_ahead 143 = .ok (.iconst 0, 1) := dq daX11_ahead_23_2 12 rfl
theorem dX11_ahead_144 : decode cX11_ahead 144 = .ok (.istore 6, 2) := dq daX11_ahead_23_2 13 rfl
theorem dX11_ahead_146 : decode cX11_ahead 146 = .ok (.iload 6, 2) := dq daX11_ahead_23_2 14 rfl
theorem dX11_ahead_148 : decode cX11_ahead 148 = .ok (.aload_n 0, 1) := dq daX11_ahead_23_2 15 rfl
theorem dX11_ahead_149 : decode cX11_ahead 149 = .ok (.getfield 39, 3) := dq daX11_ahead_23_2 16 rfl
theorem dX11_ahead_152 : decode cX11_ahead 152 = .ok (.iconst 0, 1) := dq daX11_ahead_23_2 17 rfl
theorem dX11_ahead_153 : decode cX11_ahead 153 = .ok (.iaload, 1) := dq daX11_ahead_23_2 18 rfl
theorem dX11_ahead_154 : decode cX11_ahead 154 = .ok (.if_icmp .ge 21, 3) := dq daX11_ahead_23_2 19 rfl
theorem dX11_ahead_157 : decode cX11_ahead 157 = .ok (.iload 4, 2) := dq daX11_ahead_23_2 20 rfl
theorem dX11_ahead_159 : decode cX11_ahead 159 = .ok (.aload_n 0, 1) := dq daX11_ahead_23_2 21 rfl
theorem dX11_ahead_160 : decode cX11_ahead 160 = .ok (.iload 6, 2) := dq daX11_ahead_23_2 22 rfl
theorem dX11_ahead_162 : decode cX11_ahead 162 = .ok (.iconst 3, 1) := dq daX11_ahead_23_2 23 rfl
theorem dX11_ahead_163 : decode cX11_ahead 163 = .ok (.invokevirtual 257, 3) := dq daX11_ahead_23_2 24 rfl
theorem dX11_ahead_166 : decode cX11_ahead 166 = .ok (.iadd, 1) := dq daX11_ahead_23_2 25 rfl
theorem dX11_ahead_167 : decode cX11_ahead 167 = .ok (.istore 4, 2) := dq daX11_ahead_23_2 26 rfl
theorem dX11_ahead_169 : decode cX11_ahead 169 = .ok (.iinc 6 1, 3) := dq daX11_ahead_23_2 27 rfl
theorem dX11_ahead_172 : decode cX11_ahead 172 = .ok (.goto (-26), 3) := dq daX11_ahead_23_2 28 rfl
theorem dX11_ahead_175 : decode cX11_ahead 175 = .ok (.iconst 0, 1) := dq daX11_ahead_23_2 29 rfl
theorem dX11_ahead_176 : decode cX11_ahead 176 = .ok (.istore 6, 2) := dq daX11_ahead_23_2 30 rfl
theorem dX11_ahead_178 : decode cX11_ahead 178 = .ok (.iload 6, 2) := dq daX11_ahead_23_2 31 rfl
def dtX11_ahead_23_3 : List (Nat × Jvm.ClassFile.Instr × Nat) := [(180, .sipush 360, 3), (183, .if_icmp .ge 23, 3), (186, .aload_n 0, 1), (187, .getfield 39, 3), (190, .iload 6, 2), (192, .aload_n 0, 1), (193, .getfield 42, 3), (196, .iload 6, 2), (198, .iaload, 1), (199, .iastore, 1), (200, .iinc 6 1, 3), (203, .goto (-25), 3), (206, .iload_n 3, 1), (207, .ifCond .ne 8, 3), (215, .iload 5, 2), (217, .ireturn, 1), (210, .iload 4, 2), (212, .goto 5, 3)]
theorem daX11_ahead_23_3 : dtX11_ahead_23_3.all (dqd cX11_ahead) = true := by decide +kernel
theorem dX11_ahead_180 : decode cX11_ahead 180 = .ok (.sipush 360, 3) := dq daX11_ahead_23_3 0 rfl
theorem dX11_ahead_183 : decode cX11_ahead 183 = .ok (.if_icmp .ge 23, 3) := dq daX11_ahead_23_3 1 rfl
theorem dX11_ahead_186 : decode cX11_ahead 186 = .ok (.aload_n 0, 1) := dq daX11_ahead_23_3 2 rfl
theorem dX11_ahead_187 : decode cX11_ahead 187 = .ok (.getfield 39, 3) := dq daX11_ahead_23_3 3 rfl
theorem dX11_ahead_190 : decode cX11_ahead 190 = .ok (.iload 6, 2) := dq daX11_ahead_23_3 4 rfl
theorem dX11_ahead_192 : decode cX11_ahead 192 = .ok (.aload_n 0, 1) := dq daX11_ahead_23_3 5 rfl
theorem dX11_ahead_193 : decode cX11_ahead 193 = .ok (.getfield 42, 3) := dq daX11_ahead_23_3 6 rfl
theorem dX11_ahead_196 : decode cX11_ahead 196 = .ok (.iload 6, 2) := dq daX11_ahead_23_3 7 rfl
theorem dX11_ahead_198 : decode cX11_ahead 198 = .ok (.iaload, 1) := dq daX11_ahead_23_3 8 rfl
theorem dX11_ahead_199 : decode cX11_ahead 199 = .ok (.iastore, 1) := dq daX11_ahead_23_3 9 rfl
theorem dX11_ahead_200 : decode cX11_ahead 200 = .ok (.iinc 6 1, 3) := dq daX11_ahead_23_3 10 rfl
theorem dX11_ahead_203 : decode cX11_ahead 203 = .ok (.goto (-25), 3) := dq daX11_ahead_23_3 11 rfl
theorem dX11_ahead_206 : decode cX11_ahead 206 = .ok (.iload_n 3, 1) := dq daX11_ahead_23_3 12 rfl
theorem dX11_ahead_207 : decode cX11_ahead 207 = .ok (.ifCond .ne 8, 3) := dq daX11_ahead_23_3 13 rfl
theorem dX11_ahead_215 : decode cX11_ahead 215 = .ok (.iload 5, 2) := dq daX11_ahead_23_3 14 rfl
theorem dX11_ahead_217 : decode cX11_ahead 217 = .ok (.ireturn, 1) := dq daX11_ahead_23_3 15 rfl
theorem dX11_ahead_210 : decode cX11_ahead 210 = .ok (.iload 4, 2) := dq daX11_ahead_23_3 16 rfl
theorem dX11_ahead_212 : decode cX11_ahead 212 = .ok (.goto 5, 3) := dq daX11_ahead_23_3 17 rfl
