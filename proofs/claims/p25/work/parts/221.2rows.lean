theorem kX11_guess_1 {a : Array Value} {s : State} (hts : ∀ w ∈ wsX11_guess, w.before a s = true) : (.constantLong RX11 316 (12) : Cond).before a s = true := kw (A := ixX11_guess) wt822 hts (by decide +kernel)
theorem kX11_guess_2 {a : Array Value} {s : State} (hts : ∀ w ∈ wsX11_guess, w.before a s = true) : (.constantLong RX11 289 (99999) : Cond).before a s = true := kw (A := ixX11_guess) wt612 hts (by decide +kernel)
theorem kX11_guess_3 {a : Array Value} {s : State} (hts : ∀ w ∈ wsX11_guess, w.before a s = true) : (.constantLong RX11 437 (2) : Cond).before a s = true := kw (A := ixX11_guess) wt1180 hts (by decide +kernel)
theorem kX11_guess_4 {a : Array Value} {s : State} (hts : ∀ w ∈ wsX11_guess, w.before a s = true) : (.fieldLink RX11 39 "SnowMulesModel" "said" "[I" : Cond).before a s = true := kw (A := ixX11_guess) wt153 hts (by decide +kernel)
theorem kX11_guess_5 {a : Array Value} {s : State} (hts : ∀ w ∈ wsX11_guess, w.before a s = true) : (.fieldLink RX11 66 "SnowMulesModel" "waited" "[I" : Cond).before a s = true := kw (A := ixX11_guess) wt162 hts (by decide +kernel)
theorem kX11_guess_6 {a : Array Value} {s : State} (hts : ∀ w ∈ wsX11_guess, w.before a s = true) : (.fieldLink RX11 384 "SnowMulesModel" "goDrops" "I" : Cond).before a s = true := kw (A := ixX11_guess) wt995 hts (by decide +kernel)
theorem iX11_guess_X11 : ∀ w ∈ wsX110, w ∈ wsX11_guess := inW (A := ixX11_guess) uwX11 (by decide +kernel)
theorem hdX11_waits : yX11_waits.cls ≠ "java/lang/invoke/MethodHandle" ∧ yX11_waits.cls ≠ "java/lang/invoke/VarHandle" ∧ (parseMethodDescriptor yX11_waits.desc).map (fun d => d.parameters.length) = some 1 := ⟨hdc_0.1, hdc_0.2, hdd_17⟩
theorem hdX11_waitsOtherwise : yX11_waitsOtherwise.cls ≠ "java/lang/invoke/MethodHandle" ∧ yX11_waitsOtherwise.cls ≠ "java/lang/invoke/VarHandle" ∧ (parseMethodDescriptor yX11_waitsOtherwise.desc).map (fun d => d.parameters.length) = some 0 := ⟨hdc_0.1, hdc_0.2, hdd_22⟩
def dtX11_guess_221_0 : List (Nat × Jvm.ClassFile.Instr × Nat) := [(0, .aload_n 0, 1), (1, .iload_n 1, 1), (2, .iload_n 2, 1), (3, .iload_n 3, 1), (4, .iload 4, 2), (6, .iload 5, 2), (8, .invokevirtual 403, 3), (11, .ifCond .eq 67, 3), (78, .iconst (-1), 1), (79, .ireturn, 1), (14, .iload 6, 2), (16, .i2l, 1), (17, .lconst 0, 1), (18, .ldc2_w 316, 3), (21, .invokestatic 118, 3), (24, .ifCond .eq 54, 3), (27, .iload 7, 2), (29, .i2l, 1), (30, .lconst 0, 1), (31, .ldc2_w 289, 3), (34, .invokestatic 118, 3), (37, .ifCond .eq 41, 3), (40, .iload 9, 2), (42, .i2l, 1), (43, .lconst 0, 1), (44, .ldc2_w 437, 3), (47, .invokestatic 118, 3), (50, .ifCond .eq 28, 3), (53, .iload 9, 2), (55, .ifCond .le 25, 3), (80, .aload_n 0, 1), (81, .getfield 39, 3)]
theorem daX11_guess_221_0 : dtX11_guess_221_0.all (dqd cX11_guess) = true := by decide +kernel
theorem dX11_guess_0 : decode cX11_guess 0 = .ok (.aload_n 0, 1) := dq daX11_guess_221_0 0 rfl
theorem dX11_guess_1 : decode cX11_guess 1 = .ok (.iload_n 1, 1) := dq daX11_guess_221_0 1 rfl
theorem dX11_guess_2 : decode cX11_guess 2 = .ok (.iload_n 2, 1) := dq daX11_guess_221_0 2 rfl
theorem dX11_guess_3 : decode cX11_guess 3 = .ok (.iload_n 3, 1) := dq daX11_guess_221_0 3 rfl
theorem dX11_guess_4 : decode cX11_guess 4 = .ok (.iload 4, 2) := dq daX11_guess_221_0 4 rfl
theorem dX11_guess_6 : decode cX11_guess 6 = .ok (.iload 5, 2) := dq daX11_guess_221_0 5 rfl
theorem dX11_guess_8 : decode cX11_guess 8 = .ok (.invokevirtual 403, 3) := dq daX11_guess_221_0 6 rfl
theorem dX11_guess_11 : decode cX11_guess 11 = .ok (.ifCond .eq 67, 3) := dq daX11_guess_221_0 7 rfl
theorem dX11_guess_78 : decode cX11_guess 78 = .ok (.iconst (-1), 1) := dq daX11_guess_221_0 8 rfl
theorem dX11_guess_79 : decode cX11_guess 79 = .ok (.ireturn, 1) := dq daX11_guess_221_0 9 rfl
theorem dX11_guess_14 : decode cX11_guess 14 = .ok (.iload 6, 2) := dq daX11_guess_221_0 10 rfl
theorem dX11_guess_16 : decode cX11_guess 16 = .ok (.i2l, 1) := dq daX11_guess_221_0 11 rfl
theorem dX11_guess_17 : decode cX11_guess 17 = .ok (.lconst 0, 1) := dq daX11_guess_221_0 12 rfl
theorem dX11_guess_18 : decode cX11_guess 18 = .ok (.ldc2_w 316, 3) := dq daX11_guess_221_0 13 rfl
theorem dX11_guess_21 : decode cX11_guess 21 = .ok (.invokestatic 118, 3) := dq daX11_guess_221_0 14 rfl
theorem dX11_guess_24 : decode cX11_guess 24 = .ok (.ifCond .eq 54, 3) := dq daX11_guess_221_0 15 rfl
theorem dX11_guess_27 : decode cX11_guess 27 = .ok (.iload 7, 2) := dq daX11_guess_221_0 16 rfl
theorem dX11_guess_29 : decode cX11_guess 29 = .ok (.i2l, 1) := dq daX11_guess_221_0 17 rfl
theorem dX11_guess_30 : decode cX11_guess 30 = .ok (.lconst 0, 1) := dq daX11_guess_221_0 18 rfl
theorem dX11_guess_31 : decode cX11_guess 31 = .ok (.ldc2_w 289, 3) := dq daX11_guess_221_0 19 rfl
theorem dX11_guess_34 : decode cX11_guess 34 = .ok (.invokestatic 118, 3) := dq daX11_guess_221_0 20 rfl
theorem dX11_guess_37 : decode cX11_guess 37 = .ok (.ifCond .eq 41, 3) := dq daX11_guess_221_0 21 rfl
theorem dX11_guess_40 : decode cX11_guess 40 = .ok (.iload 9, 2) := dq daX11_guess_221_0 22 rfl
theorem dX11_guess_42 : decode cX11_guess 42 = .ok (.i2l, 1) := dq daX11_guess_221_0 23 rfl
theorem dX11_guess_43 : decode cX11_guess 43 = .ok (.lconst 0, 1) := dq daX11_guess_221_0 24 rfl
theorem dX11_guess_44 : decode cX11_guess 44 = .ok (.ldc2_w 437, 3) := dq daX11_guess_221_0 25 rfl
theorem dX11_guess_47 : decode cX11_guess 47 = .ok (.invokestatic 118, 3) := dq daX11_guess_221_0 26 rfl
theorem dX11_guess_50 : decode cX11_guess 50 = .ok (.ifCond .eq 28, 3) := dq daX11_guess_221_0 27 rfl
theorem dX11_guess_53 : decode cX11_guess 53 = .ok (.iload 9, 2) := dq daX11_guess_221_0 28 rfl
theorem dX11_guess_55 : decode cX11_guess 55 = .ok (.ifCond .le 25, 3) := dq daX11_guess_221_0 29 rfl
theorem dX11_guess_80 : decode cX11_guess 80 = .ok (.aload_n 0, 1) := dq daX11_guess_221_0 30 rfl
theorem dX11_guess_81 : decode cX11_guess 81 = .ok (.getfield 39, 3) := dq daX11_guess_221_0 31 rfl
def dtX11_guess_221_1 : List (Nat × Jvm.ClassFile.Instr × Nat) := [(84, .bipush 9, 2), (86, .iaload, 1), (87, .ifCond .ne 20, 3), (107, .iconst 0, 1), (108, .istore 10, 2), (110, .iload 10, 2), (112, .aload_n 0, 1), (113, .getfield 39, 3), (116, .bipush 9, 2), (118, .iaload, 1), (119, .if_icmp .ge 17, 3), (122, .aload_n 0, 1), (123, .getfield 66, 3), (126, .iload 10, 2), (128, .iconst 0, 1), (129, .iastore, 1), (130, .iinc 10 1, 3), (133, .goto (-23), 3), (136, .aload_n 0, 1), (137, .getfield 66, 3), (140, .aload_n 0, 1), (141, .getfield 39, 3), (144, .bipush 9, 2), (146, .iaload, 1), (147, .iconst 1, 1), (148, .isub, 1), (149, .iload 6, 2), (151, .iastore, 1), (152, .iconst 0, 1), (153, .istore 10, 2), (155, .iconst 0, 1), (156, .istore 11, 2)]
theorem daX11_guess_221_1 : dtX11_guess_221_1.all (dqd cX11_guess) = true := by decide +kernel
theorem dX11_guess_84 : decode cX11_guess 84 = .ok (.bipush 9, 2) := dq daX11_guess_221_1 0 rfl
theorem dX11_guess_86 : decode cX11_guess 86 = .ok (.iaload, 1) := dq daX11_guess_221_1 1 rfl
theorem dX11_guess_87 : decode cX11_guess 87 = .ok (.ifCond .ne 20, 3) := dq daX11_guess_221_1 2 rfl
theorem dX11_guess_107 : decode cX11_guess 107 = .ok (.iconst 0, 1) := dq daX11_guess_221_1 3 rfl
theorem dX11_guess_108 : decode cX11_guess 108 = .ok (.istore 10, 2) := dq daX11_guess_221_1 4 rfl
theorem dX11_guess_110 : decode cX11_guess 110 = .ok (.iload 10, 2) := dq daX11_guess_221_1 5 rfl
theorem dX11_guess_112 : decode cX11_guess 112 = .ok (.aload_n 0, 1) := dq daX11_guess_221_1 6 rfl
theorem dX11_guess_113 : decode cX11_guess 113 = .ok (.getfield 39, 3) := dq daX11_guess_221_1 7 rfl
theorem dX11_guess_116 : decode cX11_guess 116 = .ok (.bipush 9, 2) := dq daX11_guess_221_1 8 rfl
theorem dX11_guess_118 : decode cX11_guess 118 = .ok (.iaload, 1) := dq daX11_guess_221_1 9 rfl
theorem dX11_guess_119 : decode cX11_guess 119 = .ok (.if_icmp .ge 17, 3) := dq daX11_guess_221_1 10 rfl
theorem dX11_guess_122 : decode cX11_guess 122 = .ok (.aload_n 0, 1) := dq daX11_guess_221_1 11 rfl
theorem dX11_guess_123 : decode cX11_guess 123 = .ok (.getfield 66, 3) := dq daX11_guess_221_1 12 rfl
theorem dX11_guess_126 : decode cX11_guess 126 = .ok (.iload 10, 2) := dq daX11_guess_221_1 13 rfl
theorem dX11_guess_128 : decode cX11_guess 128 = .ok (.iconst 0, 1) := dq daX11_guess_221_1 14 rfl
theorem dX11_guess_129 : decode cX11_guess 129 = .ok (.iastore, 1) := dq daX11_guess_221_1 15 rfl
theorem dX11_guess_130 : decode cX11_guess 130 = .ok (.iinc 10 1, 3) := dq daX11_guess_221_1 16 rfl
theorem dX11_guess_133 : decode cX11_guess 133 = .ok (.goto (-23), 3) := dq daX11_guess_221_1 17 rfl
theorem dX11_guess_136 : decode cX11_guess 136 = .ok (.aload_n 0, 1) := dq daX11_guess_221_1 18 rfl
theorem dX11_guess_137 : decode cX11_guess 137 = .ok (.getfield 66, 3) := dq daX11_guess_221_1 19 rfl
theorem dX11_guess_140 : decode cX11_guess 140 = .ok (.aload_n 0, 1) := dq daX11_guess_221_1 20 rfl
theorem dX11_guess_141 : decode cX11_guess 141 = .ok (.getfield 39, 3) := dq daX11_guess_221_1 21 rfl
theorem dX11_guess_144 : decode cX11_guess 144 = .ok (.bipush 9, 2) := dq daX11_guess_221_1 22 rfl
theorem dX11_guess_146 : decode cX11_guess 146 = .ok (.iaload, 1) := dq daX11_guess_221_1 23 rfl
theorem dX11_guess_147 : decode cX11_guess 147 = .ok (.iconst 1, 1) := dq daX11_guess_221_1 24 rfl
theorem dX11_guess_148 : decode cX11_guess 148 = .ok (.isub, 1) := dq daX11_guess_221_1 25 rfl
theorem dX11_guess_149 : decode cX11_guess 149 = .ok (.iload 6, 2) := dq daX11_guess_221_1 26 rfl
theorem dX11_guess_151 : decode cX11_guess 151 = .ok (.iastore, 1) := dq daX11_guess_221_1 27 rfl
theorem dX11_guess_152 : decode cX11_guess 152 = .ok (.iconst 0, 1) := dq daX11_guess_221_1 28 rfl
theorem dX11_guess_153 : decode cX11_guess 153 = .ok (.istore 10, 2) := dq daX11_guess_221_1 29 rfl
theorem dX11_guess_155 : decode cX11_guess 155 = .ok (.iconst 0, 1) := dq daX11_guess_221_1 30 rfl
theorem dX11_guess_156 : decode cX11_guess 156 = .ok (.istore 11, 2) := dq daX11_guess_221_1 31 rfl
def dtX11_guess_221_2 : List (Nat × Jvm.ClassFile.Instr × Nat) := [(158, .iconst 0, 1), (159, .istore 12, 2), (161, .iconst 1, 1), (162, .istore 13, 2), (164, .iload 13, 2), (166, .ifCond .eq 163, 3), (169, .aload_n 0, 1), (170, .aload_n 0, 1), (171, .getfield 39, 3), (174, .bipush 8, 2), (176, .iaload, 1), (177, .iload_n 3, 1), (178, .iload_n 2, 1), (179, .iload 4, 2), (181, .iload 5, 2), (183, .invokevirtual 407, 3), (186, .iconst 0, 1), (187, .istore 14, 2), (189, .iload 14, 2), (191, .aload_n 0, 1), (192, .getfield 39, 3), (195, .bipush 9, 2), (197, .iaload, 1), (198, .if_icmp .ge 50, 3), (201, .iconst 0, 1), (202, .istore 15, 2), (204, .iload 15, 2), (206, .aload_n 0, 1), (207, .getfield 66, 3), (210, .iload 14, 2), (212, .iaload, 1), (213, .if_icmp .ge 14, 3)]
theorem daX11_guess_221_2 : dtX11_guess_221_2.all (dqd cX11_guess) = true := by decide +kernel
theorem dX11_guess_158 : decode cX11_guess 158 = .ok (.iconst 0, 1) := dq daX11_guess_221_2 0 rfl
theorem dX11_guess_159 : decode cX11_guess 159 = .ok (.istore 12, 2) := dq daX11_guess_221_2 1 rfl
theorem dX11_guess_161 : decode cX11_guess 161 = .ok (.iconst 1, 1) := dq daX11_guess_221_2 2 rfl
theorem dX11_guess_162 : decode cX11_guess 162 = .ok (.istore 13, 2) := dq daX11_guess_221_2 3 rfl
theorem dX11_guess_164 : decode cX11_guess 164 = .ok (.iload 13, 2) := dq daX11_guess_221_2 4 rfl
theorem dX11_guess_166 : decode cX11_guess 166 = .ok (.ifCond .eq 163, 3) := dq daX11_guess_221_2 5 rfl
theorem dX11_guess_169 : decode cX11_guess 169 = .ok (.aload_n 0, 1) := dq daX11_guess_221_2 6 rfl
theorem dX11_guess_170 : decode cX11_guess 170 = .ok (.aload_n 0, 1) := dq daX11_guess_221_2 7 rfl
theorem dX11_guess_171 : decode cX11_guess 171 = .ok (.getfield 39, 3) := dq daX11_guess_221_2 8 rfl
theorem dX11_guess_174 : decode cX11_guess 174 = .ok (.bipush 8, 2) := dq daX11_guess_221_2 9 rfl
theorem dX11_guess_176 : decode cX11_guess 176 = .ok (.iaload, 1) := dq daX11_guess_221_2 10 rfl
theorem dX11_guess_177 : decode cX11_guess 177 = .ok (.iload_n 3, 1) := dq daX11_guess_221_2 11 rfl
theorem dX11_guess_178 : decode cX11_guess 178 = .ok (.iload_n 2, 1) := dq daX11_guess_221_2 12 rfl
theorem dX11_guess_179 : decode cX11_guess 179 = .ok (.iload 4, 2) := dq daX11_guess_221_2 13 rfl
theorem dX11_guess_181 : decode cX11_guess 181 = .ok (.iload 5, 2) := dq daX11_guess_221_2 14 rfl
theorem dX11_guess_183 : decode cX11_guess 183 = .ok (.invokevirtual 407, 3) := dq daX11_guess_221_2 15 rfl
theorem dX11_guess_186 : decode cX11_guess 186 = .ok (.iconst 0, 1) := dq daX11_guess_221_2 16 rfl
theorem dX11_guess_187 : decode cX11_guess 187 = .ok (.istore 14, 2) := dq daX11_guess_221_2 17 rfl
theorem dX11_guess_189 : decode cX11_guess 189 = .ok (.iload 14, 2) := dq daX11_guess_221_2 18 rfl
theorem dX11_guess_191 : decode cX11_guess 191 = .ok (.aload_n 0, 1) := dq daX11_guess_221_2 19 rfl
theorem dX11_guess_192 : decode cX11_guess 192 = .ok (.getfield 39, 3) := dq daX11_guess_221_2 20 rfl
theorem dX11_guess_195 : decode cX11_guess 195 = .ok (.bipush 9, 2) := dq daX11_guess_221_2 21 rfl
theorem dX11_guess_197 : decode cX11_guess 197 = .ok (.iaload, 1) := dq daX11_guess_221_2 22 rfl
theorem dX11_guess_198 : decode cX11_guess 198 = .ok (.if_icmp .ge 50, 3) := dq daX11_guess_221_2 23 rfl
theorem dX11_guess_201 : decode cX11_guess 201 = .ok (.iconst 0, 1) := dq daX11_guess_221_2 24 rfl
theorem dX11_guess_202 : decode cX11_guess 202 = .ok (.istore 15, 2) := dq daX11_guess_221_2 25 rfl
theorem dX11_guess_204 : decode cX11_guess 204 = .ok (.iload 15, 2) := dq daX11_guess_221_2 26 rfl
theorem dX11_guess_206 : decode cX11_guess 206 = .ok (.aload_n 0, 1) := dq daX11_guess_221_2 27 rfl
theorem dX11_guess_207 : decode cX11_guess 207 = .ok (.getfield 66, 3) := dq daX11_guess_221_2 28 rfl
theorem dX11_guess_210 : decode cX11_guess 210 = .ok (.iload 14, 2) := dq daX11_guess_221_2 29 rfl
theorem dX11_guess_212 : decode cX11_guess 212 = .ok (.iaload, 1) := dq daX11_guess_221_2 30 rfl
theorem dX11_guess_213 : decode cX11_guess 213 = .ok (.if_icmp .ge 14, 3) := dq daX11_guess_221_2 31 rfl
def dtX11_guess_221_3 : List (Nat × Jvm.ClassFile.Instr × Nat) := [(216, .aload_n 0, 1), (217, .iload_n 1, 1), (218, .invokevirtual 439, 3), (221, .iinc 15 1, 3), (224, .goto (-20), 3), (227, .aload_n 0, 1), (228, .iload_n 1, 1), (229, .aload_n 0, 1), (230, .getfield 39, 3), (233, .bipush 10, 2), (235, .iload 14, 2), (237, .iadd, 1), (238, .iaload, 1), (239, .invokevirtual 410, 3), (242, .iinc 14 1, 3), (245, .goto (-56), 3), (248, .aload_n 0, 1), (249, .getfield 384, 3), (252, .iload 7, 2), (254, .if_icmp .ne 66, 3), (320, .aload_n 0, 1), (321, .invokevirtual 442, 3), (324, .istore 13, 2), (326, .goto (-162), 3), (257, .iload 9, 2), (259, .ifCond .le 13, 3), (272, .iconst 0, 1), (273, .istore 14, 2), (275, .iload 10, 2), (277, .ifCond .eq 10, 3), (287, .iload 14, 2), (289, .goto 5, 3)]
theorem daX11_guess_221_3 : dtX11_guess_221_3.all (dqd cX11_guess) = true := by decide +kernel
theorem dX11_guess_216 : decode cX11_guess 216 = .ok (.aload_n 0, 1) := dq daX11_guess_221_3 0 rfl
theorem dX11_guess_217 : decode cX11_guess 217 = .ok (.iload_n 1, 1) := dq daX11_guess_221_3 1 rfl
theorem dX11_guess_218 : decode cX11_guess 218 = .ok (.invokevirtual 439, 3) := dq daX11_guess_221_3 2 rfl
theorem dX11_guess_221 : decode cX11_guess 221 = .ok (.iinc 15 1, 3) := dq daX11_guess_221_3 3 rfl
theorem dX11_guess_224 : decode cX11_guess 224 = .ok (.goto (-20), 3) := dq daX11_guess_221_3 4 rfl
theorem dX11_guess_227 : decode cX11_guess 227 = .ok (.aload_n 0, 1) := dq daX11_guess_221_3 5 rfl
theorem dX11_guess_228 : decode cX11_guess 228 = .ok (.iload_n 1, 1) := dq daX11_guess_221_3 6 rfl
theorem dX11_guess_229 : decode cX11_guess 229 = .ok (.aload_n 0, 1) := dq daX11_guess_221_3 7 rfl
theorem dX11_guess_230 : decode cX11_guess 230 = .ok (.getfield 39, 3) := dq daX11_guess_221_3 8 rfl
theorem dX11_guess_233 : decode cX11_guess 233 = .ok (.bipush 10, 2) := dq daX11_guess_221_3 9 rfl
theorem dX11_guess_235 : decode cX11_guess 235 = .ok (.iload 14, 2) := dq daX11_guess_221_3 10 rfl
theorem dX11_guess_237 : decode cX11_guess 237 = .ok (.iadd, 1) := dq daX11_guess_221_3 11 rfl
theorem dX11_guess_238 : decode cX11_guess 238 = .ok (.iaload, 1) := dq daX11_guess_221_3 12 rfl
theorem dX11_guess_239 : decode cX11_guess 239 = .ok (.invokevirtual 410, 3) := dq daX11_guess_221_3 13 rfl
theorem dX11_guess_242 : decode cX11_guess 242 = .ok (.iinc 14 1, 3) := dq daX11_guess_221_3 14 rfl
theorem dX11_guess_245 : decode cX11_guess 245 = .ok (.goto (-56), 3) := dq daX11_guess_221_3 15 rfl
theorem dX11_guess_248 : decode cX11_guess 248 = .ok (.aload_n 0, 1) := dq daX11_guess_221_3 16 rfl
theorem dX11_guess_249 : decode cX11_guess 249 = .ok (.getfield 384, 3) := dq daX11_guess_221_3 17 rfl
theorem dX11_guess_252 : decode cX11_guess 252 = .ok (.iload 7, 2) := dq daX11_guess_221_3 18 rfl
theorem dX11_guess_254 : decode cX11_guess 254 = .ok (.if_icmp .ne 66, 3) := dq daX11_guess_221_3 19 rfl
theorem dX11_guess_320 : decode cX11_guess 320 = .ok (.aload_n 0, 1) := dq daX11_guess_221_3 20 rfl
theorem dX11_guess_321 : decode cX11_guess 321 = .ok (.invokevirtual 442, 3) := dq daX11_guess_221_3 21 rfl
theorem dX11_guess_324 : decode cX11_guess 324 = .ok (.istore 13, 2) := dq daX11_guess_221_3 22 rfl
theorem dX11_guess_326 : decode cX11_guess 326 = .ok (.goto (-162), 3) := dq daX11_guess_221_3 23 rfl
theorem dX11_guess_257 : decode cX11_guess 257 = .ok (.iload 9, 2) := dq daX11_guess_221_3 24 rfl
theorem dX11_guess_259 : decode cX11_guess 259 = .ok (.ifCond .le 13, 3) := dq daX11_guess_221_3 25 rfl
theorem dX11_guess_272 : decode cX11_guess 272 = .ok (.iconst 0, 1) := dq daX11_guess_221_3 26 rfl
theorem dX11_guess_273 : decode cX11_guess 273 = .ok (.istore 14, 2) := dq daX11_guess_221_3 27 rfl
theorem dX11_guess_275 : decode cX11_guess 275 = .ok (.iload 10, 2) := dq daX11_guess_221_3 28 rfl
theorem dX11_guess_277 : decode cX11_guess 277 = .ok (.ifCond .eq 10, 3) := dq daX11_guess_221_3 29 rfl
theorem dX11_guess_287 : decode cX11_guess 287 = .ok (.iload 14, 2) := dq daX11_guess_221_3 30 rfl
theorem dX11_guess_289 : decode cX11_guess 289 = .ok (.goto 5, 3) := dq daX11_guess_221_3 31 rfl
def dtX11_guess_221_4 : List (Nat × Jvm.ClassFile.Instr × Nat) := [(294, .istore 11, 2), (296, .iload 10, 2), (298, .ifCond .eq 10, 3), (308, .iload 14, 2), (310, .goto 5, 3), (315, .istore 12, 2), (317, .iinc 10 1, 3), (90, .iload 6, 2), (92, .ifCond .ne 13, 3), (105, .iconst 0, 1), (106, .ireturn, 1), (95, .iload_n 3, 1), (96, .iload 7, 2), (98, .if_icmp .ne 7, 3), (101, .iconst 1, 1), (102, .goto 4, 3), (58, .iload 8, 2), (60, .i2l, 1), (61, .lconst 0, 1), (62, .aload_n 0, 1), (63, .getfield 39, 3), (66, .bipush 9, 2), (68, .iaload, 1), (69, .iconst 1, 1), (70, .isub, 1), (71, .i2l, 1), (72, .invokestatic 118, 3), (75, .ifCond .ne 5, 3), (262, .aload_n 0, 1), (263, .getfield 66, 3), (266, .iload 8, 2), (268, .iaload, 1)]
theorem daX11_guess_221_4 : dtX11_guess_221_4.all (dqd cX11_guess) = true := by decide +kernel
theorem dX11_guess_294 : decode cX11_guess 294 = .ok (.istore 11, 2) := dq daX11_guess_221_4 0 rfl
theorem dX11_guess_296 : decode cX11_guess 296 = .ok (.iload 10, 2) := dq daX11_guess_221_4 1 rfl
theorem dX11_guess_298 : decode cX11_guess 298 = .ok (.ifCond .eq 10, 3) := dq daX11_guess_221_4 2 rfl
theorem dX11_guess_308 : decode cX11_guess 308 = .ok (.iload 14, 2) := dq daX11_guess_221_4 3 rfl
theorem dX11_guess_310 : decode cX11_guess 310 = .ok (.goto 5, 3) := dq daX11_guess_221_4 4 rfl
theorem dX11_guess_315 : decode cX11_guess 315 = .ok (.istore 12, 2) := dq daX11_guess_221_4 5 rfl
theorem dX11_guess_317 : decode cX11_guess 317 = .ok (.iinc 10 1, 3) := dq daX11_guess_221_4 6 rfl
theorem dX11_guess_90 : decode cX11_guess 90 = .ok (.iload 6, 2) := dq daX11_guess_221_4 7 rfl
theorem dX11_guess_92 : decode cX11_guess 92 = .ok (.ifCond .ne 13, 3) := dq daX11_guess_221_4 8 rfl
theorem dX11_guess_105 : decode cX11_guess 105 = .ok (.iconst 0, 1) := dq daX11_guess_221_4 9 rfl
theorem dX11_guess_106 : decode cX11_guess 106 = .ok (.ireturn, 1) := dq daX11_guess_221_4 10 rfl
theorem dX11_guess_95 : decode cX11_guess 95 = .ok (.iload_n 3, 1) := dq daX11_guess_221_4 11 rfl
theorem dX11_guess_96 : decode cX11_guess 96 = .ok (.iload 7, 2) := dq daX11_guess_221_4 12 rfl
theorem dX11_guess_98 : decode cX11_guess 98 = .ok (.if_icmp .ne 7, 3) := dq daX11_guess_221_4 13 rfl
theorem dX11_guess_101 : decode cX11_guess 101 = .ok (.iconst 1, 1) := dq daX11_guess_221_4 14 rfl
theorem dX11_guess_102 : decode cX11_guess 102 = .ok (.goto 4, 3) := dq daX11_guess_221_4 15 rfl
theorem dX11_guess_58 : decode cX11_guess 58 = .ok (.iload 8, 2) := dq daX11_guess_221_4 16 rfl
theorem dX11_guess_60 : decode cX11_guess 60 = .ok (.i2l, 1) := dq daX11_guess_221_4 17 rfl
theorem dX11_guess_61 : decode cX11_guess 61 = .ok (.lconst 0, 1) := dq daX11_guess_221_4 18 rfl
theorem dX11_guess_62 : decode cX11_guess 62 = .ok (.aload_n 0, 1) := dq daX11_guess_221_4 19 rfl
theorem dX11_guess_63 : decode cX11_guess 63 = .ok (.getfield 39, 3) := dq daX11_guess_221_4 20 rfl
theorem dX11_guess_66 : decode cX11_guess 66 = .ok (.bipush 9, 2) := dq daX11_guess_221_4 21 rfl
theorem dX11_guess_68 : decode cX11_guess 68 = .ok (.iaload, 1) := dq daX11_guess_221_4 22 rfl
theorem dX11_guess_69 : decode cX11_guess 69 = .ok (.iconst 1, 1) := dq daX11_guess_221_4 23 rfl
theorem dX11_guess_70 : decode cX11_guess 70 = .ok (.isub, 1) := dq daX11_guess_221_4 24 rfl
theorem dX11_guess_71 : decode cX11_guess 71 = .ok (.i2l, 1) := dq daX11_guess_221_4 25 rfl
theorem dX11_guess_72 : decode cX11_guess 72 = .ok (.invokestatic 118, 3) := dq daX11_guess_221_4 26 rfl
theorem dX11_guess_75 : decode cX11_guess 75 = .ok (.ifCond .ne 5, 3) := dq daX11_guess_221_4 27 rfl
theorem dX11_guess_262 : decode cX11_guess 262 = .ok (.aload_n 0, 1) := dq daX11_guess_221_4 28 rfl
theorem dX11_guess_263 : decode cX11_guess 263 = .ok (.getfield 66, 3) := dq daX11_guess_221_4 29 rfl
theorem dX11_guess_266 : decode cX11_guess 266 = .ok (.iload 8, 2) := dq daX11_guess_221_4 30 rfl
theorem dX11_guess_268 : decode cX11_guess 268 = .ok (.iaload, 1) := dq daX11_guess_221_4 31 rfl
def dtX11_guess_221_5 : List (Nat × Jvm.ClassFile.Instr × Nat) := [(269, .goto 4, 3), (280, .iload 14, 2), (282, .iload 11, 2), (284, .if_icmp .ge 8, 3), (292, .iload 11, 2), (301, .iload 14, 2), (303, .iload 12, 2), (305, .if_icmp .le 8, 3), (313, .iload 12, 2), (329, .iload 9, 2), (331, .ifCond .ne 8, 3), (339, .iload 10, 2), (341, .ifCond .ne 8, 3), (349, .iload 9, 2), (351, .iconst 1, 1), (352, .if_icmp .ne 8, 3), (360, .iload 12, 2), (355, .iload 11, 2), (357, .goto 5, 3), (344, .bipush (-2), 2), (346, .goto 16, 3), (334, .iload 10, 2), (336, .goto 26, 3), (362, .ireturn, 1)]
theorem daX11_guess_221_5 : dtX11_guess_221_5.all (dqd cX11_guess) = true := by decide +kernel
theorem dX11_guess_269 : decode cX11_guess 269 = .ok (.goto 4, 3) := dq daX11_guess_221_5 0 rfl
theorem dX11_guess_280 : decode cX11_guess 280 = .ok (.iload 14, 2) := dq daX11_guess_221_5 1 rfl
theorem dX11_guess_282 : decode cX11_guess 282 = .ok (.iload 11, 2) := dq daX11_guess_221_5 2 rfl
theorem dX11_guess_284 : decode cX11_guess 284 = .ok (.if_icmp .ge 8, 3) := dq daX11_guess_221_5 3 rfl
theorem dX11_guess_292 : decode cX11_guess 292 = .ok (.iload 11, 2) := dq daX11_guess_221_5 4 rfl
theorem dX11_guess_301 : decode cX11_guess 301 = .ok (.iload 14, 2) := dq daX11_guess_221_5 5 rfl
theorem dX11_guess_303 : decode cX11_guess 303 = .ok (.iload 12, 2) := dq daX11_guess_221_5 6 rfl
theorem dX11_guess_305 : decode cX11_guess 305 = .ok (.if_icmp .le 8, 3) := dq daX11_guess_221_5 7 rfl
theorem dX11_guess_313 : decode cX11_guess 313 = .ok (.iload 12, 2) := dq daX11_guess_221_5 8 rfl
theorem dX11_guess_329 : decode cX11_guess 329 = .ok (.iload 9, 2) := dq daX11_guess_221_5 9 rfl
theorem dX11_guess_331 : decode cX11_guess 331 = .ok (.ifCond .ne 8, 3) := dq daX11_guess_221_5 10 rfl
theorem dX11_guess_339 : decode cX11_guess 339 = .ok (.iload 10, 2) := dq daX11_guess_221_5 11 rfl
theorem dX11_guess_341 : decode cX11_guess 341 = .ok (.ifCond .ne 8, 3) := dq daX11_guess_221_5 12 rfl
theorem dX11_guess_349 : decode cX11_guess 349 = .ok (.iload 9, 2) := dq daX11_guess_221_5 13 rfl
theorem dX11_guess_351 : decode cX11_guess 351 = .ok (.iconst 1, 1) := dq daX11_guess_221_5 14 rfl
theorem dX11_guess_352 : decode cX11_guess 352 = .ok (.if_icmp .ne 8, 3) := dq daX11_guess_221_5 15 rfl
theorem dX11_guess_360 : decode cX11_guess 360 = .ok (.iload 12, 2) := dq daX11_guess_221_5 16 rfl
theorem dX11_guess_355 : decode cX11_guess 355 = .ok (.iload 11, 2) := dq daX11_guess_221_5 17 rfl
theorem dX11_guess_357 : decode cX11_guess 357 = .ok (.goto 5, 3) := dq daX11_guess_221_5 18 rfl
theorem dX11_guess_344 : decode cX11_guess 344 = .ok (.bipush (-2), 2) := dq daX11_guess_221_5 19 rfl
theorem dX11_guess_346 : decode cX11_guess 346 = .ok (.goto 16, 3) := dq daX11_guess_221_5 20 rfl
theorem dX11_guess_334 : decode cX11_guess 334 = .ok (.iload 10, 2) := dq daX11_guess_221_5 21 rfl
theorem dX11_guess_336 : decode cX11_guess 336 = .ok (.goto 26, 3) := dq daX11_guess_221_5 22 rfl
theorem dX11_guess_362 : decode cX11_guess 362 = .ok (.ireturn, 1) := dq daX11_guess_221_5 23 rfl
