theorem kX11_node_1 {a : Array Value} {s : State} (hts : ∀ w ∈ wsX11_node, w.before a s = true) : (.fieldLink RX11 39 "SnowMulesModel" "said" "[I" : Cond).before a s = true := kw (A := ixX11_node) wt153 hts (by decide +kernel)
theorem kX11_node_2 {a : Array Value} {s : State} (hts : ∀ w ∈ wsX11_node, w.before a s = true) : (.constantLong RX11 261 (400) : Cond).before a s = true := kw (A := ixX11_node) wt188 hts (by decide +kernel)
theorem kX11_node_3 {a : Array Value} {s : State} (hts : ∀ w ∈ wsX11_node, w.before a s = true) : (.constantLong RX11 263 (4095) : Cond).before a s = true := kw (A := ixX11_node) wt189 hts (by decide +kernel)
theorem kX11_node_4 {a : Array Value} {s : State} (hts : ∀ w ∈ wsX11_node, w.before a s = true) : (.constantLong RX11 265 (9) : Cond).before a s = true := kw (A := ixX11_node) wt190 hts (by decide +kernel)
theorem kX11_pass_1 {a : Array Value} {s : State} (hts : ∀ w ∈ wsX11_pass, w.before a s = true) : (.fieldLink RX11 39 "SnowMulesModel" "said" "[I" : Cond).before a s = true := kw (A := ixX11_pass) wt153 hts (by decide +kernel)
theorem kX11_pass_2 {a : Array Value} {s : State} (hts : ∀ w ∈ wsX11_pass, w.before a s = true) : (.constantLong RX11 270 (24) : Cond).before a s = true := kw (A := ixX11_pass) wt207 hts (by decide +kernel)
theorem kX11_pass_3 {a : Array Value} {s : State} (hts : ∀ w ∈ wsX11_pass, w.before a s = true) : (.constantLong RX11 265 (9) : Cond).before a s = true := kw (A := ixX11_pass) wt190 hts (by decide +kernel)
theorem kX11_pass_4 {a : Array Value} {s : State} (hts : ∀ w ∈ wsX11_pass, w.before a s = true) : (.constantLong RX11 272 (1000) : Cond).before a s = true := kw (A := ixX11_pass) wt208 hts (by decide +kernel)
theorem kX11_jar_1 {a : Array Value} {s : State} (hts : ∀ w ∈ wsX11_jar, w.before a s = true) : (.fieldLink RX11 39 "SnowMulesModel" "said" "[I" : Cond).before a s = true := kw (A := ixX11_jar) wt153 hts (by decide +kernel)
theorem kX11_jar_2 {a : Array Value} {s : State} (hts : ∀ w ∈ wsX11_jar, w.before a s = true) : (.constantLong RX11 265 (9) : Cond).before a s = true := kw (A := ixX11_jar) wt190 hts (by decide +kernel)
theorem kX11_jar_3 {a : Array Value} {s : State} (hts : ∀ w ∈ wsX11_jar, w.before a s = true) : (.constantLong RX11 274 (7) : Cond).before a s = true := kw (A := ixX11_jar) wt230 hts (by decide +kernel)
theorem kX11_jar_4 {a : Array Value} {s : State} (hts : ∀ w ∈ wsX11_jar, w.before a s = true) : (.constantLong RX11 276 (15) : Cond).before a s = true := kw (A := ixX11_jar) wt231 hts (by decide +kernel)
theorem kX11_order_1 {a : Array Value} {s : State} (hts : ∀ w ∈ wsX11_order, w.before a s = true) : (.fieldLink RX11 39 "SnowMulesModel" "said" "[I" : Cond).before a s = true := kw (A := ixX11_order) wt153 hts (by decide +kernel)
theorem kX11_order_2 {a : Array Value} {s : State} (hts : ∀ w ∈ wsX11_order, w.before a s = true) : (.constantLong RX11 289 (99999) : Cond).before a s = true := kw (A := ixX11_order) wt612 hts (by decide +kernel)
theorem kX11_order_3 {a : Array Value} {s : State} (hts : ∀ w ∈ wsX11_order, w.before a s = true) : (.constantLong RX11 445 (9999) : Cond).before a s = true := kw (A := ixX11_order) wt1201 hts (by decide +kernel)
theorem kX11_feast_1 {a : Array Value} {s : State} (hts : ∀ w ∈ wsX11_feast, w.before a s = true) : (.fieldLink RX11 39 "SnowMulesModel" "said" "[I" : Cond).before a s = true := kw (A := ixX11_feast) wt153 hts (by decide +kernel)
theorem kX11_feast_2 {a : Array Value} {s : State} (hts : ∀ w ∈ wsX11_feast, w.before a s = true) : (.constantLong RX11 461 (4166) : Cond).before a s = true := kw (A := ixX11_feast) wt1298 hts (by decide +kernel)
theorem kX11_feast_3 {a : Array Value} {s : State} (hts : ∀ w ∈ wsX11_feast, w.before a s = true) : (.constantLong RX11 289 (99999) : Cond).before a s = true := kw (A := ixX11_feast) wt612 hts (by decide +kernel)
theorem kX11_month_1 {a : Array Value} {s : State} (hts : ∀ w ∈ wsX11_month, w.before a s = true) : (.constantLong RX11 278 (11) : Cond).before a s = true := kw (A := ixX11_month) wt241 hts (by decide +kernel)
theorem kX11_month_2 {a : Array Value} {s : State} (hts : ∀ w ∈ wsX11_month, w.before a s = true) : (.fieldLink RX11 39 "SnowMulesModel" "said" "[I" : Cond).before a s = true := kw (A := ixX11_month) wt153 hts (by decide +kernel)
theorem kX11_from_1 {a : Array Value} {s : State} (hts : ∀ w ∈ wsX11_from, w.before a s = true) : (.fieldLink RX11 39 "SnowMulesModel" "said" "[I" : Cond).before a s = true := kw (A := ixX11_from) wt153 hts (by decide +kernel)
theorem iX11_node_X11 : ∀ w ∈ wsX110, w ∈ wsX11_node := inW (A := ixX11_node) uwX11 (by decide +kernel)
theorem iX11_pass_X11 : ∀ w ∈ wsX110, w ∈ wsX11_pass := inW (A := ixX11_pass) uwX11 (by decide +kernel)
theorem iX11_jar_X11 : ∀ w ∈ wsX110, w ∈ wsX11_jar := inW (A := ixX11_jar) uwX11 (by decide +kernel)
theorem iX11_order_X11 : ∀ w ∈ wsX110, w ∈ wsX11_order := inW (A := ixX11_order) uwX11 (by decide +kernel)
theorem iX11_feast_X11 : ∀ w ∈ wsX110, w ∈ wsX11_feast := inW (A := ixX11_feast) uwX11 (by decide +kernel)
theorem iX11_month_X11 : ∀ w ∈ wsX110, w ∈ wsX11_month := inW (A := ixX11_month) uwX11 (by decide +kernel)
theorem iX11_from_X11 : ∀ w ∈ wsX110, w ∈ wsX11_from := inW (A := ixX11_from) uwX11 (by decide +kernel)
theorem hdX11_in : yX11_in.cls ≠ "java/lang/invoke/MethodHandle" ∧ yX11_in.cls ≠ "java/lang/invoke/VarHandle" ∧ (parseMethodDescriptor yX11_in.desc).map (fun d => d.parameters.length) = some 3 := ⟨hdc_0.1, hdc_0.2, hdd_2⟩
theorem hdX11_isNode : yX11_isNode.cls ≠ "java/lang/invoke/MethodHandle" ∧ yX11_isNode.cls ≠ "java/lang/invoke/VarHandle" ∧ (parseMethodDescriptor yX11_isNode.desc).map (fun d => d.parameters.length) = some 1 := ⟨hdc_0.1, hdc_0.2, hdd_1⟩
def dtX11_node_11_0 : List (Nat × Jvm.ClassFile.Instr × Nat) := [(0, .aload_n 0, 1), (1, .getfield 39, 3), (4, .iconst 0, 1), (5, .iaload, 1), (6, .bipush 12, 2), (8, .if_icmp .eq 39, 3), (47, .iconst (-1), 1), (48, .ireturn, 1), (11, .iload_n 1, 1), (12, .i2l, 1), (13, .lconst 0, 1), (14, .ldc2_w 261, 3), (17, .invokestatic 118, 3), (20, .ifCond .eq 27, 3), (23, .iload_n 2, 1), (24, .i2l, 1), (25, .lconst 0, 1), (26, .ldc2_w 263, 3), (29, .invokestatic 118, 3), (32, .ifCond .eq 15, 3), (35, .iload_n 3, 1), (36, .i2l, 1), (37, .lconst 0, 1), (38, .ldc2_w 265, 3), (41, .invokestatic 118, 3), (44, .ifCond .ne 5, 3), (49, .bipush 20, 2), (51, .iconst 4, 1), (52, .aload_n 0, 1), (53, .getfield 39, 3), (56, .iconst 0, 1), (57, .iaload, 1)]
theorem daX11_node_11_0 : dtX11_node_11_0.all (dqd cX11_node) = true := by decide +kernel
theorem dX11_node_0 : decode cX11_node 0 = .ok (.aload_n 0, 1) := dq daX11_node_11_0 0 rfl
theorem dX11_node_1 : decode cX11_node 1 = .ok (.getfield 39, 3) := dq daX11_node_11_0 1 rfl
theorem dX11_node_4 : decode cX11_node 4 = .ok (.iconst 0, 1) := dq daX11_node_11_0 2 rfl
theorem dX11_node_5 : decode cX11_node 5 = .ok (.iaload, 1) := dq daX11_node_11_0 3 rfl
theorem dX11_node_6 : decode cX11_node 6 = .ok (.bipush 12, 2) := dq daX11_node_11_0 4 rfl
theorem dX11_node_8 : decode cX11_node 8 = .ok (.if_icmp .eq 39, 3) := dq daX11_node_11_0 5 rfl
theorem dX11_node_47 : decode cX11_node 47 = .ok (.iconst (-1), 1) := dq daX11_node_11_0 6 rfl
theorem dX11_node_48 : decode cX11_node 48 = .ok (.ireturn, 1) := dq daX11_node_11_0 7 rfl
theorem dX11_node_11 : decode cX11_node 11 = .ok (.iload_n 1, 1) := dq daX11_node_11_0 8 rfl
theorem dX11_node_12 : decode cX11_node 12 = .ok (.i2l, 1) := dq daX11_node_11_0 9 rfl
theorem dX11_node_13 : decode cX11_node 13 = .ok (.lconst 0, 1) := dq daX11_node_11_0 10 rfl
theorem dX11_node_14 : decode cX11_node 14 = .ok (.ldc2_w 261, 3) := dq daX11_node_11_0 11 rfl
theorem dX11_node_17 : decode cX11_node 17 = .ok (.invokestatic 118, 3) := dq daX11_node_11_0 12 rfl
theorem dX11_node_20 : decode cX11_node 20 = .ok (.ifCond .eq 27, 3) := dq daX11_node_11_0 13 rfl
theorem dX11_node_23 : decode cX11_node 23 = .ok (.iload_n 2, 1) := dq daX11_node_11_0 14 rfl
theorem dX11_node_24 : decode cX11_node 24 = .ok (.i2l, 1) := dq daX11_node_11_0 15 rfl
theorem dX11_node_25 : decode cX11_node 25 = .ok (.lconst 0, 1) := dq daX11_node_11_0 16 rfl
theorem dX11_node_26 : decode cX11_node 26 = .ok (.ldc2_w 263, 3) := dq daX11_node_11_0 17 rfl
theorem dX11_node_29 : decode cX11_node 29 = .ok (.invokestatic 118, 3) := dq daX11_node_11_0 18 rfl
theorem dX11_node_32 : decode cX11_node 32 = .ok (.ifCond .eq 15, 3) := dq daX11_node_11_0 19 rfl
theorem dX11_node_35 : decode cX11_node 35 = .ok (.iload_n 3, 1) := dq daX11_node_11_0 20 rfl
theorem dX11_node_36 : decode cX11_node 36 = .ok (.i2l, 1) := dq daX11_node_11_0 21 rfl
theorem dX11_node_37 : decode cX11_node 37 = .ok (.lconst 0, 1) := dq daX11_node_11_0 22 rfl
theorem dX11_node_38 : decode cX11_node 38 = .ok (.ldc2_w 265, 3) := dq daX11_node_11_0 23 rfl
theorem dX11_node_41 : decode cX11_node 41 = .ok (.invokestatic 118, 3) := dq daX11_node_11_0 24 rfl
theorem dX11_node_44 : decode cX11_node 44 = .ok (.ifCond .ne 5, 3) := dq daX11_node_11_0 25 rfl
theorem dX11_node_49 : decode cX11_node 49 = .ok (.bipush 20, 2) := dq daX11_node_11_0 26 rfl
theorem dX11_node_51 : decode cX11_node 51 = .ok (.iconst 4, 1) := dq daX11_node_11_0 27 rfl
theorem dX11_node_52 : decode cX11_node 52 = .ok (.aload_n 0, 1) := dq daX11_node_11_0 28 rfl
theorem dX11_node_53 : decode cX11_node 53 = .ok (.getfield 39, 3) := dq daX11_node_11_0 29 rfl
theorem dX11_node_56 : decode cX11_node 56 = .ok (.iconst 0, 1) := dq daX11_node_11_0 30 rfl
theorem dX11_node_57 : decode cX11_node 57 = .ok (.iaload, 1) := dq daX11_node_11_0 31 rfl
def dtX11_node_11_1 : List (Nat × Jvm.ClassFile.Instr × Nat) := [(58, .imul, 1), (59, .iadd, 1), (60, .istore 4, 2), (62, .aload_n 0, 1), (63, .getfield 39, 3), (66, .iload 4, 2), (68, .iload_n 1, 1), (69, .iastore, 1), (70, .aload_n 0, 1), (71, .getfield 39, 3), (74, .iload 4, 2), (76, .iconst 1, 1), (77, .iadd, 1), (78, .iload_n 2, 1), (79, .iastore, 1), (80, .aload_n 0, 1), (81, .getfield 39, 3), (84, .iload 4, 2), (86, .iconst 2, 1), (87, .iadd, 1), (88, .iload_n 3, 1), (89, .iastore, 1), (90, .aload_n 0, 1), (91, .getfield 39, 3), (94, .iload 4, 2), (96, .iconst 3, 1), (97, .iadd, 1), (98, .iconst 0, 1), (99, .iastore, 1), (100, .aload_n 0, 1), (101, .getfield 39, 3), (104, .iconst 0, 1)]
theorem daX11_node_11_1 : dtX11_node_11_1.all (dqd cX11_node) = true := by decide +kernel
theorem dX11_node_58 : decode cX11_node 58 = .ok (.imul, 1) := dq daX11_node_11_1 0 rfl
theorem dX11_node_59 : decode cX11_node 59 = .ok (.iadd, 1) := dq daX11_node_11_1 1 rfl
theorem dX11_node_60 : decode cX11_node 60 = .ok (.istore 4, 2) := dq daX11_node_11_1 2 rfl
theorem dX11_node_62 : decode cX11_node 62 = .ok (.aload_n 0, 1) := dq daX11_node_11_1 3 rfl
theorem dX11_node_63 : decode cX11_node 63 = .ok (.getfield 39, 3) := dq daX11_node_11_1 4 rfl
theorem dX11_node_66 : decode cX11_node 66 = .ok (.iload 4, 2) := dq daX11_node_11_1 5 rfl
theorem dX11_node_68 : decode cX11_node 68 = .ok (.iload_n 1, 1) := dq daX11_node_11_1 6 rfl
theorem dX11_node_69 : decode cX11_node 69 = .ok (.iastore, 1) := dq daX11_node_11_1 7 rfl
theorem dX11_node_70 : decode cX11_node 70 = .ok (.aload_n 0, 1) := dq daX11_node_11_1 8 rfl
theorem dX11_node_71 : decode cX11_node 71 = .ok (.getfield 39, 3) := dq daX11_node_11_1 9 rfl
theorem dX11_node_74 : decode cX11_node 74 = .ok (.iload 4, 2) := dq daX11_node_11_1 10 rfl
theorem dX11_node_76 : decode cX11_node 76 = .ok (.iconst 1, 1) := dq daX11_node_11_1 11 rfl
theorem dX11_node_77 : decode cX11_node 77 = .ok (.iadd, 1) := dq daX11_node_11_1 12 rfl
theorem dX11_node_78 : decode cX11_node 78 = .ok (.iload_n 2, 1) := dq daX11_node_11_1 13 rfl
theorem dX11_node_79 : decode cX11_node 79 = .ok (.iastore, 1) := dq daX11_node_11_1 14 rfl
theorem dX11_node_80 : decode cX11_node 80 = .ok (.aload_n 0, 1) := dq daX11_node_11_1 15 rfl
theorem dX11_node_81 : decode cX11_node 81 = .ok (.getfield 39, 3) := dq daX11_node_11_1 16 rfl
theorem dX11_node_84 : decode cX11_node 84 = .ok (.iload 4, 2) := dq daX11_node_11_1 17 rfl
theorem dX11_node_86 : decode cX11_node 86 = .ok (.iconst 2, 1) := dq daX11_node_11_1 18 rfl
theorem dX11_node_87 : decode cX11_node 87 = .ok (.iadd, 1) := dq daX11_node_11_1 19 rfl
theorem dX11_node_88 : decode cX11_node 88 = .ok (.iload_n 3, 1) := dq daX11_node_11_1 20 rfl
theorem dX11_node_89 : decode cX11_node 89 = .ok (.iastore, 1) := dq daX11_node_11_1 21 rfl
theorem dX11_node_90 : decode cX11_node 90 = .ok (.aload_n 0, 1) := dq daX11_node_11_1 22 rfl
theorem dX11_node_91 : decode cX11_node 91 = .ok (.getfield 39, 3) := dq daX11_node_11_1 23 rfl
theorem dX11_node_94 : decode cX11_node 94 = .ok (.iload 4, 2) := dq daX11_node_11_1 24 rfl
theorem dX11_node_96 : decode cX11_node 96 = .ok (.iconst 3, 1) := dq daX11_node_11_1 25 rfl
theorem dX11_node_97 : decode cX11_node 97 = .ok (.iadd, 1) := dq daX11_node_11_1 26 rfl
theorem dX11_node_98 : decode cX11_node 98 = .ok (.iconst 0, 1) := dq daX11_node_11_1 27 rfl
theorem dX11_node_99 : decode cX11_node 99 = .ok (.iastore, 1) := dq daX11_node_11_1 28 rfl
theorem dX11_node_100 : decode cX11_node 100 = .ok (.aload_n 0, 1) := dq daX11_node_11_1 29 rfl
theorem dX11_node_101 : decode cX11_node 101 = .ok (.getfield 39, 3) := dq daX11_node_11_1 30 rfl
theorem dX11_node_104 : decode cX11_node 104 = .ok (.iconst 0, 1) := dq daX11_node_11_1 31 rfl
def dtX11_node_11_2 : List (Nat × Jvm.ClassFile.Instr × Nat) := [(105, .dup2, 1), (106, .iaload, 1), (107, .iconst 1, 1), (108, .iadd, 1), (109, .iastore, 1), (110, .aload_n 0, 1), (111, .getfield 39, 3), (114, .iconst 0, 1), (115, .iaload, 1), (116, .iconst 1, 1), (117, .isub, 1), (118, .ireturn, 1)]
theorem daX11_node_11_2 : dtX11_node_11_2.all (dqd cX11_node) = true := by decide +kernel
theorem dX11_node_105 : decode cX11_node 105 = .ok (.dup2, 1) := dq daX11_node_11_2 0 rfl
theorem dX11_node_106 : decode cX11_node 106 = .ok (.iaload, 1) := dq daX11_node_11_2 1 rfl
theorem dX11_node_107 : decode cX11_node 107 = .ok (.iconst 1, 1) := dq daX11_node_11_2 2 rfl
theorem dX11_node_108 : decode cX11_node 108 = .ok (.iadd, 1) := dq daX11_node_11_2 3 rfl
theorem dX11_node_109 : decode cX11_node 109 = .ok (.iastore, 1) := dq daX11_node_11_2 4 rfl
theorem dX11_node_110 : decode cX11_node 110 = .ok (.aload_n 0, 1) := dq daX11_node_11_2 5 rfl
theorem dX11_node_111 : decode cX11_node 111 = .ok (.getfield 39, 3) := dq daX11_node_11_2 6 rfl
theorem dX11_node_114 : decode cX11_node 114 = .ok (.iconst 0, 1) := dq daX11_node_11_2 7 rfl
theorem dX11_node_115 : decode cX11_node 115 = .ok (.iaload, 1) := dq daX11_node_11_2 8 rfl
theorem dX11_node_116 : decode cX11_node 116 = .ok (.iconst 1, 1) := dq daX11_node_11_2 9 rfl
theorem dX11_node_117 : decode cX11_node 117 = .ok (.isub, 1) := dq daX11_node_11_2 10 rfl
theorem dX11_node_118 : decode cX11_node 118 = .ok (.ireturn, 1) := dq daX11_node_11_2 11 rfl
def dtX11_pass_11_0 : List (Nat × Jvm.ClassFile.Instr × Nat) := [(0, .aload_n 0, 1), (1, .getfield 39, 3), (4, .iconst 1, 1), (5, .iaload, 1), (6, .bipush 20, 2), (8, .if_icmp .eq 62, 3), (70, .iconst (-1), 1), (71, .ireturn, 1), (11, .aload_n 0, 1), (12, .iload_n 1, 1), (13, .invokevirtual 267, 3), (16, .ifCond .eq 54, 3), (19, .aload_n 0, 1), (20, .iload_n 2, 1), (21, .invokevirtual 267, 3), (24, .ifCond .eq 46, 3), (27, .iload_n 1, 1), (28, .iload_n 2, 1), (29, .if_icmp .eq 41, 3), (32, .iload_n 3, 1), (33, .i2l, 1), (34, .lconst 1, 1), (35, .ldc2_w 270, 3), (38, .invokestatic 118, 3), (41, .ifCond .eq 29, 3), (44, .iload 4, 2), (46, .i2l, 1), (47, .lconst 0, 1), (48, .ldc2_w 265, 3), (51, .invokestatic 118, 3), (54, .ifCond .eq 16, 3), (57, .iload 5, 2)]
theorem daX11_pass_11_0 : dtX11_pass_11_0.all (dqd cX11_pass) = true := by decide +kernel
theorem dX11_pass_0 : decode cX11_pass 0 = .ok (.aload_n 0, 1) := dq daX11_pass_11_0 0 rfl
theorem dX11_pass_1 : decode cX11_pass 1 = .ok (.getfield 39, 3) := dq daX11_pass_11_0 1 rfl
theorem dX11_pass_4 : decode cX11_pass 4 = .ok (.iconst 1, 1) := dq daX11_pass_11_0 2 rfl
theorem dX11_pass_5 : decode cX11_pass 5 = .ok (.iaload, 1) := dq daX11_pass_11_0 3 rfl
theorem dX11_pass_6 : decode cX11_pass 6 = .ok (.bipush 20, 2) := dq daX11_pass_11_0 4 rfl
theorem dX11_pass_8 : decode cX11_pass 8 = .ok (.if_icmp .eq 62, 3) := dq daX11_pass_11_0 5 rfl
theorem dX11_pass_70 : decode cX11_pass 70 = .ok (.iconst (-1), 1) := dq daX11_pass_11_0 6 rfl
theorem dX11_pass_71 : decode cX11_pass 71 = .ok (.ireturn, 1) := dq daX11_pass_11_0 7 rfl
theorem dX11_pass_11 : decode cX11_pass 11 = .ok (.aload_n 0, 1) := dq daX11_pass_11_0 8 rfl
theorem dX11_pass_12 : decode cX11_pass 12 = .ok (.iload_n 1, 1) := dq daX11_pass_11_0 9 rfl
theorem dX11_pass_13 : decode cX11_pass 13 = .ok (.invokevirtual 267, 3) := dq daX11_pass_11_0 10 rfl
theorem dX11_pass_16 : decode cX11_pass 16 = .ok (.ifCond .eq 54, 3) := dq daX11_pass_11_0 11 rfl
theorem dX11_pass_19 : decode cX11_pass 19 = .ok (.aload_n 0, 1) := dq daX11_pass_11_0 12 rfl
theorem dX11_pass_20 : decode cX11_pass 20 = .ok (.iload_n 2, 1) := dq daX11_pass_11_0 13 rfl
theorem dX11_pass_21 : decode cX11_pass 21 = .ok (.invokevirtual 267, 3) := dq daX11_pass_11_0 14 rfl
theorem dX11_pass_24 : decode cX11_pass 24 = .ok (.ifCond .eq 46, 3) := dq daX11_pass_11_0 15 rfl
theorem dX11_pass_27 : decode cX11_pass 27 = .ok (.iload_n 1, 1) := dq daX11_pass_11_0 16 rfl
theorem dX11_pass_28 : decode cX11_pass 28 = .ok (.iload_n 2, 1) := dq daX11_pass_11_0 17 rfl
theorem dX11_pass_29 : decode cX11_pass 29 = .ok (.if_icmp .eq 41, 3) := dq daX11_pass_11_0 18 rfl
theorem dX11_pass_32 : decode cX11_pass 32 = .ok (.iload_n 3, 1) := dq daX11_pass_11_0 19 rfl
theorem dX11_pass_33 : decode cX11_pass 33 = .ok (.i2l, 1) := dq daX11_pass_11_0 20 rfl
theorem dX11_pass_34 : decode cX11_pass 34 = .ok (.lconst 1, 1) := dq daX11_pass_11_0 21 rfl
theorem dX11_pass_35 : decode cX11_pass 35 = .ok (.ldc2_w 270, 3) := dq daX11_pass_11_0 22 rfl
theorem dX11_pass_38 : decode cX11_pass 38 = .ok (.invokestatic 118, 3) := dq daX11_pass_11_0 23 rfl
theorem dX11_pass_41 : decode cX11_pass 41 = .ok (.ifCond .eq 29, 3) := dq daX11_pass_11_0 24 rfl
theorem dX11_pass_44 : decode cX11_pass 44 = .ok (.iload 4, 2) := dq daX11_pass_11_0 25 rfl
theorem dX11_pass_46 : decode cX11_pass 46 = .ok (.i2l, 1) := dq daX11_pass_11_0 26 rfl
theorem dX11_pass_47 : decode cX11_pass 47 = .ok (.lconst 0, 1) := dq daX11_pass_11_0 27 rfl
theorem dX11_pass_48 : decode cX11_pass 48 = .ok (.ldc2_w 265, 3) := dq daX11_pass_11_0 28 rfl
theorem dX11_pass_51 : decode cX11_pass 51 = .ok (.invokestatic 118, 3) := dq daX11_pass_11_0 29 rfl
theorem dX11_pass_54 : decode cX11_pass 54 = .ok (.ifCond .eq 16, 3) := dq daX11_pass_11_0 30 rfl
theorem dX11_pass_57 : decode cX11_pass 57 = .ok (.iload 5, 2) := dq daX11_pass_11_0 31 rfl
def dtX11_pass_11_1 : List (Nat × Jvm.ClassFile.Instr × Nat) := [(59, .i2l, 1), (60, .lconst 0, 1), (61, .ldc2_w 272, 3), (64, .invokestatic 118, 3), (67, .ifCond .ne 5, 3), (72, .bipush 68, 2), (74, .iconst 5, 1), (75, .aload_n 0, 1), (76, .getfield 39, 3), (79, .iconst 1, 1), (80, .iaload, 1), (81, .imul, 1), (82, .iadd, 1), (83, .istore 6, 2), (85, .aload_n 0, 1), (86, .getfield 39, 3), (89, .iload 6, 2), (91, .iload_n 1, 1), (92, .iastore, 1), (93, .aload_n 0, 1), (94, .getfield 39, 3), (97, .iload 6, 2), (99, .iconst 1, 1), (100, .iadd, 1), (101, .iload_n 2, 1), (102, .iastore, 1), (103, .aload_n 0, 1), (104, .getfield 39, 3), (107, .iload 6, 2), (109, .iconst 2, 1), (110, .iadd, 1), (111, .iload_n 3, 1)]
theorem daX11_pass_11_1 : dtX11_pass_11_1.all (dqd cX11_pass) = true := by decide +kernel
theorem dX11_pass_59 : decode cX11_pass 59 = .ok (.i2l, 1) := dq daX11_pass_11_1 0 rfl
theorem dX11_pass_60 : decode cX11_pass 60 = .ok (.lconst 0, 1) := dq daX11_pass_11_1 1 rfl
theorem dX11_pass_61 : decode cX11_pass 61 = .ok (.ldc2_w 272, 3) := dq daX11_pass_11_1 2 rfl
theorem dX11_pass_64 : decode cX11_pass 64 = .ok (.invokestatic 118, 3) := dq daX11_pass_11_1 3 rfl
theorem dX11_pass_67 : decode cX11_pass 67 = .ok (.ifCond .ne 5, 3) := dq daX11_pass_11_1 4 rfl
theorem dX11_pass_72 : decode cX11_pass 72 = .ok (.bipush 68, 2) := dq daX11_pass_11_1 5 rfl
theorem dX11_pass_74 : decode cX11_pass 74 = .ok (.iconst 5, 1) := dq daX11_pass_11_1 6 rfl
theorem dX11_pass_75 : decode cX11_pass 75 = .ok (.aload_n 0, 1) := dq daX11_pass_11_1 7 rfl
theorem dX11_pass_76 : decode cX11_pass 76 = .ok (.getfield 39, 3) := dq daX11_pass_11_1 8 rfl
theorem dX11_pass_79 : decode cX11_pass 79 = .ok (.iconst 1, 1) := dq daX11_pass_11_1 9 rfl
theorem dX11_pass_80 : decode cX11_pass 80 = .ok (.iaload, 1) := dq daX11_pass_11_1 10 rfl
theorem dX11_pass_81 : decode cX11_pass 81 = .ok (.imul, 1) := dq daX11_pass_11_1 11 rfl
theorem dX11_pass_82 : decode cX11_pass 82 = .ok (.iadd, 1) := dq daX11_pass_11_1 12 rfl
theorem dX11_pass_83 : decode cX11_pass 83 = .ok (.istore 6, 2) := dq daX11_pass_11_1 13 rfl
theorem dX11_pass_85 : decode cX11_pass 85 = .ok (.aload_n 0, 1) := dq daX11_pass_11_1 14 rfl
theorem dX11_pass_86 : decode cX11_pass 86 = .ok (.getfield 39, 3) := dq daX11_pass_11_1 15 rfl
theorem dX11_pass_89 : decode cX11_pass 89 = .ok (.iload 6, 2) := dq daX11_pass_11_1 16 rfl
theorem dX11_pass_91 : decode cX11_pass 91 = .ok (.iload_n 1, 1) := dq daX11_pass_11_1 17 rfl
theorem dX11_pass_92 : decode cX11_pass 92 = .ok (.iastore, 1) := dq daX11_pass_11_1 18 rfl
theorem dX11_pass_93 : decode cX11_pass 93 = .ok (.aload_n 0, 1) := dq daX11_pass_11_1 19 rfl
theorem dX11_pass_94 : decode cX11_pass 94 = .ok (.getfield 39, 3) := dq daX11_pass_11_1 20 rfl
theorem dX11_pass_97 : decode cX11_pass 97 = .ok (.iload 6, 2) := dq daX11_pass_11_1 21 rfl
theorem dX11_pass_99 : decode cX11_pass 99 = .ok (.iconst 1, 1) := dq daX11_pass_11_1 22 rfl
theorem dX11_pass_100 : decode cX11_pass 100 = .ok (.iadd, 1) := dq daX11_pass_11_1 23 rfl
theorem dX11_pass_101 : decode cX11_pass 101 = .ok (.iload_n 2, 1) := dq daX11_pass_11_1 24 rfl
theorem dX11_pass_102 : decode cX11_pass 102 = .ok (.iastore, 1) := dq daX11_pass_11_1 25 rfl
theorem dX11_pass_103 : decode cX11_pass 103 = .ok (.aload_n 0, 1) := dq daX11_pass_11_1 26 rfl
theorem dX11_pass_104 : decode cX11_pass 104 = .ok (.getfield 39, 3) := dq daX11_pass_11_1 27 rfl
theorem dX11_pass_107 : decode cX11_pass 107 = .ok (.iload 6, 2) := dq daX11_pass_11_1 28 rfl
theorem dX11_pass_109 : decode cX11_pass 109 = .ok (.iconst 2, 1) := dq daX11_pass_11_1 29 rfl
theorem dX11_pass_110 : decode cX11_pass 110 = .ok (.iadd, 1) := dq daX11_pass_11_1 30 rfl
theorem dX11_pass_111 : decode cX11_pass 111 = .ok (.iload_n 3, 1) := dq daX11_pass_11_1 31 rfl
def dtX11_pass_11_2 : List (Nat × Jvm.ClassFile.Instr × Nat) := [(112, .iastore, 1), (113, .aload_n 0, 1), (114, .getfield 39, 3), (117, .iload 6, 2), (119, .iconst 3, 1), (120, .iadd, 1), (121, .iload 4, 2), (123, .iastore, 1), (124, .aload_n 0, 1), (125, .getfield 39, 3), (128, .iload 6, 2), (130, .iconst 4, 1), (131, .iadd, 1), (132, .iload 5, 2), (134, .iastore, 1), (135, .aload_n 0, 1), (136, .getfield 39, 3), (139, .iconst 1, 1), (140, .dup2, 1), (141, .iaload, 1), (142, .iconst 1, 1), (143, .iadd, 1), (144, .iastore, 1), (145, .aload_n 0, 1), (146, .getfield 39, 3), (149, .iconst 1, 1), (150, .iaload, 1), (151, .iconst 1, 1), (152, .isub, 1), (153, .ireturn, 1)]
theorem daX11_pass_11_2 : dtX11_pass_11_2.all (dqd cX11_pass) = true := by decide +kernel
theorem dX11_pass_112 : decode cX11_pass 112 = .ok (.iastore, 1) := dq daX11_pass_11_2 0 rfl
theorem dX11_pass_113 : decode cX11_pass 113 = .ok (.aload_n 0, 1) := dq daX11_pass_11_2 1 rfl
theorem dX11_pass_114 : decode cX11_pass 114 = .ok (.getfield 39, 3) := dq daX11_pass_11_2 2 rfl
theorem dX11_pass_117 : decode cX11_pass 117 = .ok (.iload 6, 2) := dq daX11_pass_11_2 3 rfl
theorem dX11_pass_119 : decode cX11_pass 119 = .ok (.iconst 3, 1) := dq daX11_pass_11_2 4 rfl
theorem dX11_pass_120 : decode cX11_pass 120 = .ok (.iadd, 1) := dq daX11_pass_11_2 5 rfl
theorem dX11_pass_121 : decode cX11_pass 121 = .ok (.iload 4, 2) := dq daX11_pass_11_2 6 rfl
theorem dX11_pass_123 : decode cX11_pass 123 = .ok (.iastore, 1) := dq daX11_pass_11_2 7 rfl
theorem dX11_pass_124 : decode cX11_pass 124 = .ok (.aload_n 0, 1) := dq daX11_pass_11_2 8 rfl
theorem dX11_pass_125 : decode cX11_pass 125 = .ok (.getfield 39, 3) := dq daX11_pass_11_2 9 rfl
theorem dX11_pass_128 : decode cX11_pass 128 = .ok (.iload 6, 2) := dq daX11_pass_11_2 10 rfl
theorem dX11_pass_130 : decode cX11_pass 130 = .ok (.iconst 4, 1) := dq daX11_pass_11_2 11 rfl
theorem dX11_pass_131 : decode cX11_pass 131 = .ok (.iadd, 1) := dq daX11_pass_11_2 12 rfl
theorem dX11_pass_132 : decode cX11_pass 132 = .ok (.iload 5, 2) := dq daX11_pass_11_2 13 rfl
theorem dX11_pass_134 : decode cX11_pass 134 = .ok (.iastore, 1) := dq daX11_pass_11_2 14 rfl
theorem dX11_pass_135 : decode cX11_pass 135 = .ok (.aload_n 0, 1) := dq daX11_pass_11_2 15 rfl
theorem dX11_pass_136 : decode cX11_pass 136 = .ok (.getfield 39, 3) := dq daX11_pass_11_2 16 rfl
theorem dX11_pass_139 : decode cX11_pass 139 = .ok (.iconst 1, 1) := dq daX11_pass_11_2 17 rfl
theorem dX11_pass_140 : decode cX11_pass 140 = .ok (.dup2, 1) := dq daX11_pass_11_2 18 rfl
theorem dX11_pass_141 : decode cX11_pass 141 = .ok (.iaload, 1) := dq daX11_pass_11_2 19 rfl
theorem dX11_pass_142 : decode cX11_pass 142 = .ok (.iconst 1, 1) := dq daX11_pass_11_2 20 rfl
theorem dX11_pass_143 : decode cX11_pass 143 = .ok (.iadd, 1) := dq daX11_pass_11_2 21 rfl
theorem dX11_pass_144 : decode cX11_pass 144 = .ok (.iastore, 1) := dq daX11_pass_11_2 22 rfl
theorem dX11_pass_145 : decode cX11_pass 145 = .ok (.aload_n 0, 1) := dq daX11_pass_11_2 23 rfl
theorem dX11_pass_146 : decode cX11_pass 146 = .ok (.getfield 39, 3) := dq daX11_pass_11_2 24 rfl
theorem dX11_pass_149 : decode cX11_pass 149 = .ok (.iconst 1, 1) := dq daX11_pass_11_2 25 rfl
theorem dX11_pass_150 : decode cX11_pass 150 = .ok (.iaload, 1) := dq daX11_pass_11_2 26 rfl
theorem dX11_pass_151 : decode cX11_pass 151 = .ok (.iconst 1, 1) := dq daX11_pass_11_2 27 rfl
theorem dX11_pass_152 : decode cX11_pass 152 = .ok (.isub, 1) := dq daX11_pass_11_2 28 rfl
theorem dX11_pass_153 : decode cX11_pass 153 = .ok (.ireturn, 1) := dq daX11_pass_11_2 29 rfl
def dtX11_jar_11_0 : List (Nat × Jvm.ClassFile.Instr × Nat) := [(0, .aload_n 0, 1), (1, .getfield 39, 3), (4, .iconst 2, 1), (5, .iaload, 1), (6, .bipush 16, 2), (8, .if_icmp .eq 61, 3), (69, .iconst (-1), 1), (70, .ireturn, 1), (11, .aload_n 0, 1), (12, .iload_n 1, 1), (13, .invokevirtual 267, 3), (16, .ifCond .eq 53, 3), (19, .iload_n 2, 1), (20, .i2l, 1), (21, .lconst 0, 1), (22, .ldc2_w 265, 3), (25, .invokestatic 118, 3), (28, .ifCond .eq 41, 3), (31, .iload_n 3, 1), (32, .i2l, 1), (33, .lconst 0, 1), (34, .ldc2_w 265, 3), (37, .invokestatic 118, 3), (40, .ifCond .eq 29, 3), (43, .iload 4, 2), (45, .i2l, 1), (46, .lconst 0, 1), (47, .ldc2_w 274, 3), (50, .invokestatic 118, 3), (53, .ifCond .eq 16, 3), (56, .iload 5, 2), (58, .i2l, 1)]
theorem daX11_jar_11_0 : dtX11_jar_11_0.all (dqd cX11_jar) = true := by decide +kernel
theorem dX11_jar_0 : decode cX11_jar 0 = .ok (.aload_n 0, 1) := dq daX11_jar_11_0 0 rfl
theorem dX11_jar_1 : decode cX11_jar 1 = .ok (.getfield 39, 3) := dq daX11_jar_11_0 1 rfl
theorem dX11_jar_4 : decode cX11_jar 4 = .ok (.iconst 2, 1) := dq daX11_jar_11_0 2 rfl
theorem dX11_jar_5 : decode cX11_jar 5 = .ok (.iaload, 1) := dq daX11_jar_11_0 3 rfl
theorem dX11_jar_6 : decode cX11_jar 6 = .ok (.bipush 16, 2) := dq daX11_jar_11_0 4 rfl
theorem dX11_jar_8 : decode cX11_jar 8 = .ok (.if_icmp .eq 61, 3) := dq daX11_jar_11_0 5 rfl
theorem dX11_jar_69 : decode cX11_jar 69 = .ok (.iconst (-1), 1) := dq daX11_jar_11_0 6 rfl
theorem dX11_jar_70 : decode cX11_jar 70 = .ok (.ireturn, 1) := dq daX11_jar_11_0 7 rfl
theorem dX11_jar_11 : decode cX11_jar 11 = .ok (.aload_n 0, 1) := dq daX11_jar_11_0 8 rfl
theorem dX11_jar_12 : decode cX11_jar 12 = .ok (.iload_n 1, 1) := dq daX11_jar_11_0 9 rfl
theorem dX11_jar_13 : decode cX11_jar 13 = .ok (.invokevirtual 267, 3) := dq daX11_jar_11_0 10 rfl
theorem dX11_jar_16 : decode cX11_jar 16 = .ok (.ifCond .eq 53, 3) := dq daX11_jar_11_0 11 rfl
theorem dX11_jar_19 : decode cX11_jar 19 = .ok (.iload_n 2, 1) := dq daX11_jar_11_0 12 rfl
theorem dX11_jar_20 : decode cX11_jar 20 = .ok (.i2l, 1) := dq daX11_jar_11_0 13 rfl
theorem dX11_jar_21 : decode cX11_jar 21 = .ok (.lconst 0, 1) := dq daX11_jar_11_0 14 rfl
theorem dX11_jar_22 : decode cX11_jar 22 = .ok (.ldc2_w 265, 3) := dq daX11_jar_11_0 15 rfl
theorem dX11_jar_25 : decode cX11_jar 25 = .ok (.invokestatic 118, 3) := dq daX11_jar_11_0 16 rfl
theorem dX11_jar_28 : decode cX11_jar 28 = .ok (.ifCond .eq 41, 3) := dq daX11_jar_11_0 17 rfl
theorem dX11_jar_31 : decode cX11_jar 31 = .ok (.iload_n 3, 1) := dq daX11_jar_11_0 18 rfl
theorem dX11_jar_32 : decode cX11_jar 32 = .ok (.i2l, 1) := dq daX11_jar_11_0 19 rfl
theorem dX11_jar_33 : decode cX11_jar 33 = .ok (.lconst 0, 1) := dq daX11_jar_11_0 20 rfl
theorem dX11_jar_34 : decode cX11_jar 34 = .ok (.ldc2_w 265, 3) := dq daX11_jar_11_0 21 rfl
theorem dX11_jar_37 : decode cX11_jar 37 = .ok (.invokestatic 118, 3) := dq daX11_jar_11_0 22 rfl
theorem dX11_jar_40 : decode cX11_jar 40 = .ok (.ifCond .eq 29, 3) := dq daX11_jar_11_0 23 rfl
theorem dX11_jar_43 : decode cX11_jar 43 = .ok (.iload 4, 2) := dq daX11_jar_11_0 24 rfl
theorem dX11_jar_45 : decode cX11_jar 45 = .ok (.i2l, 1) := dq daX11_jar_11_0 25 rfl
theorem dX11_jar_46 : decode cX11_jar 46 = .ok (.lconst 0, 1) := dq daX11_jar_11_0 26 rfl
theorem dX11_jar_47 : decode cX11_jar 47 = .ok (.ldc2_w 274, 3) := dq daX11_jar_11_0 27 rfl
theorem dX11_jar_50 : decode cX11_jar 50 = .ok (.invokestatic 118, 3) := dq daX11_jar_11_0 28 rfl
theorem dX11_jar_53 : decode cX11_jar 53 = .ok (.ifCond .eq 16, 3) := dq daX11_jar_11_0 29 rfl
theorem dX11_jar_56 : decode cX11_jar 56 = .ok (.iload 5, 2) := dq daX11_jar_11_0 30 rfl
theorem dX11_jar_58 : decode cX11_jar 58 = .ok (.i2l, 1) := dq daX11_jar_11_0 31 rfl
def dtX11_jar_11_1 : List (Nat × Jvm.ClassFile.Instr × Nat) := [(59, .lconst 0, 1), (60, .ldc2_w 276, 3), (63, .invokestatic 118, 3), (66, .ifCond .ne 5, 3), (71, .sipush 168, 3), (74, .bipush 9, 2), (76, .aload_n 0, 1), (77, .getfield 39, 3), (80, .iconst 2, 1), (81, .iaload, 1), (82, .imul, 1), (83, .iadd, 1), (84, .istore 6, 2), (86, .aload_n 0, 1), (87, .getfield 39, 3), (90, .iload 6, 2), (92, .iload_n 2, 1), (93, .iastore, 1), (94, .aload_n 0, 1), (95, .getfield 39, 3), (98, .iload 6, 2), (100, .iconst 1, 1), (101, .iadd, 1), (102, .iload_n 3, 1), (103, .iastore, 1), (104, .aload_n 0, 1), (105, .getfield 39, 3), (108, .iload 6, 2), (110, .iconst 2, 1), (111, .iadd, 1), (112, .iload 4, 2), (114, .iastore, 1)]
theorem daX11_jar_11_1 : dtX11_jar_11_1.all (dqd cX11_jar) = true := by decide +kernel
theorem dX11_jar_59 : decode cX11_jar 59 = .ok (.lconst 0, 1) := dq daX11_jar_11_1 0 rfl
theorem dX11_jar_60 : decode cX11_jar 60 = .ok (.ldc2_w 276, 3) := dq daX11_jar_11_1 1 rfl
theorem dX11_jar_63 : decode cX11_jar 63 = .ok (.invokestatic 118, 3) := dq daX11_jar_11_1 2 rfl
theorem dX11_jar_66 : decode cX11_jar 66 = .ok (.ifCond .ne 5, 3) := dq daX11_jar_11_1 3 rfl
theorem dX11_jar_71 : decode cX11_jar 71 = .ok (.sipush 168, 3) := dq daX11_jar_11_1 4 rfl
theorem dX11_jar_74 : decode cX11_jar 74 = .ok (.bipush 9, 2) := dq daX11_jar_11_1 5 rfl
theorem dX11_jar_76 : decode cX11_jar 76 = .ok (.aload_n 0, 1) := dq daX11_jar_11_1 6 rfl
theorem dX11_jar_77 : decode cX11_jar 77 = .ok (.getfield 39, 3) := dq daX11_jar_11_1 7 rfl
theorem dX11_jar_80 : decode cX11_jar 80 = .ok (.iconst 2, 1) := dq daX11_jar_11_1 8 rfl
theorem dX11_jar_81 : decode cX11_jar 81 = .ok (.iaload, 1) := dq daX11_jar_11_1 9 rfl
theorem dX11_jar_82 : decode cX11_jar 82 = .ok (.imul, 1) := dq daX11_jar_11_1 10 rfl
theorem dX11_jar_83 : decode cX11_jar 83 = .ok (.iadd, 1) := dq daX11_jar_11_1 11 rfl
theorem dX11_jar_84 : decode cX11_jar 84 = .ok (.istore 6, 2) := dq daX11_jar_11_1 12 rfl
theorem dX11_jar_86 : decode cX11_jar 86 = .ok (.aload_n 0, 1) := dq daX11_jar_11_1 13 rfl
theorem dX11_jar_87 : decode cX11_jar 87 = .ok (.getfield 39, 3) := dq daX11_jar_11_1 14 rfl
theorem dX11_jar_90 : decode cX11_jar 90 = .ok (.iload 6, 2) := dq daX11_jar_11_1 15 rfl
theorem dX11_jar_92 : decode cX11_jar 92 = .ok (.iload_n 2, 1) := dq daX11_jar_11_1 16 rfl
theorem dX11_jar_93 : decode cX11_jar 93 = .ok (.iastore, 1) := dq daX11_jar_11_1 17 rfl
theorem dX11_jar_94 : decode cX11_jar 94 = .ok (.aload_n 0, 1) := dq daX11_jar_11_1 18 rfl
theorem dX11_jar_95 : decode cX11_jar 95 = .ok (.getfield 39, 3) := dq daX11_jar_11_1 19 rfl
theorem dX11_jar_98 : decode cX11_jar 98 = .ok (.iload 6, 2) := dq daX11_jar_11_1 20 rfl
theorem dX11_jar_100 : decode cX11_jar 100 = .ok (.iconst 1, 1) := dq daX11_jar_11_1 21 rfl
theorem dX11_jar_101 : decode cX11_jar 101 = .ok (.iadd, 1) := dq daX11_jar_11_1 22 rfl
theorem dX11_jar_102 : decode cX11_jar 102 = .ok (.iload_n 3, 1) := dq daX11_jar_11_1 23 rfl
theorem dX11_jar_103 : decode cX11_jar 103 = .ok (.iastore, 1) := dq daX11_jar_11_1 24 rfl
theorem dX11_jar_104 : decode cX11_jar 104 = .ok (.aload_n 0, 1) := dq daX11_jar_11_1 25 rfl
theorem dX11_jar_105 : decode cX11_jar 105 = .ok (.getfield 39, 3) := dq daX11_jar_11_1 26 rfl
theorem dX11_jar_108 : decode cX11_jar 108 = .ok (.iload 6, 2) := dq daX11_jar_11_1 27 rfl
theorem dX11_jar_110 : decode cX11_jar 110 = .ok (.iconst 2, 1) := dq daX11_jar_11_1 28 rfl
theorem dX11_jar_111 : decode cX11_jar 111 = .ok (.iadd, 1) := dq daX11_jar_11_1 29 rfl
theorem dX11_jar_112 : decode cX11_jar 112 = .ok (.iload 4, 2) := dq daX11_jar_11_1 30 rfl
theorem dX11_jar_114 : decode cX11_jar 114 = .ok (.iastore, 1) := dq daX11_jar_11_1 31 rfl
def dtX11_jar_11_2 : List (Nat × Jvm.ClassFile.Instr × Nat) := [(115, .aload_n 0, 1), (116, .getfield 39, 3), (119, .iload 6, 2), (121, .iconst 3, 1), (122, .iadd, 1), (123, .iload 5, 2), (125, .iastore, 1), (126, .aload_n 0, 1), (127, .getfield 39, 3), (130, .iload 6, 2), (132, .iconst 4, 1), (133, .iadd, 1), (134, .iconst 0, 1), (135, .iastore, 1), (136, .aload_n 0, 1), (137, .getfield 39, 3), (140, .iload 6, 2), (142, .iconst 5, 1), (143, .iadd, 1), (144, .iload_n 1, 1), (145, .iastore, 1), (146, .aload_n 0, 1), (147, .getfield 39, 3), (150, .iload 6, 2), (152, .bipush 6, 2), (154, .iadd, 1), (155, .iconst (-1), 1), (156, .iastore, 1), (157, .aload_n 0, 1), (158, .getfield 39, 3), (161, .iload 6, 2), (163, .bipush 7, 2)]
theorem daX11_jar_11_2 : dtX11_jar_11_2.all (dqd cX11_jar) = true := by decide +kernel
theorem dX11_jar_115 : decode cX11_jar 115 = .ok (.aload_n 0, 1) := dq daX11_jar_11_2 0 rfl
theorem dX11_jar_116 : decode cX11_jar 116 = .ok (.getfield 39, 3) := dq daX11_jar_11_2 1 rfl
theorem dX11_jar_119 : decode cX11_jar 119 = .ok (.iload 6, 2) := dq daX11_jar_11_2 2 rfl
theorem dX11_jar_121 : decode cX11_jar 121 = .ok (.iconst 3, 1) := dq daX11_jar_11_2 3 rfl
theorem dX11_jar_122 : decode cX11_jar 122 = .ok (.iadd, 1) := dq daX11_jar_11_2 4 rfl
theorem dX11_jar_123 : decode cX11_jar 123 = .ok (.iload 5, 2) := dq daX11_jar_11_2 5 rfl
theorem dX11_jar_125 : decode cX11_jar 125 = .ok (.iastore, 1) := dq daX11_jar_11_2 6 rfl
theorem dX11_jar_126 : decode cX11_jar 126 = .ok (.aload_n 0, 1) := dq daX11_jar_11_2 7 rfl
theorem dX11_jar_127 : decode cX11_jar 127 = .ok (.getfield 39, 3) := dq daX11_jar_11_2 8 rfl
theorem dX11_jar_130 : decode cX11_jar 130 = .ok (.iload 6, 2) := dq daX11_jar_11_2 9 rfl
theorem dX11_jar_132 : decode cX11_jar 132 = .ok (.iconst 4, 1) := dq daX11_jar_11_2 10 rfl
theorem dX11_jar_133 : decode cX11_jar 133 = .ok (.iadd, 1) := dq daX11_jar_11_2 11 rfl
theorem dX11_jar_134 : decode cX11_jar 134 = .ok (.iconst 0, 1) := dq daX11_jar_11_2 12 rfl
theorem dX11_jar_135 : decode cX11_jar 135 = .ok (.iastore, 1) := dq daX11_jar_11_2 13 rfl
theorem dX11_jar_136 : decode cX11_jar 136 = .ok (.aload_n 0, 1) := dq daX11_jar_11_2 14 rfl
theorem dX11_jar_137 : decode cX11_jar 137 = .ok (.getfield 39, 3) := dq daX11_jar_11_2 15 rfl
theorem dX11_jar_140 : decode cX11_jar 140 = .ok (.iload 6, 2) := dq daX11_jar_11_2 16 rfl
theorem dX11_jar_142 : decode cX11_jar 142 = .ok (.iconst 5, 1) := dq daX11_jar_11_2 17 rfl
theorem dX11_jar_143 : decode cX11_jar 143 = .ok (.iadd, 1) := dq daX11_jar_11_2 18 rfl
theorem dX11_jar_144 : decode cX11_jar 144 = .ok (.iload_n 1, 1) := dq daX11_jar_11_2 19 rfl
theorem dX11_jar_145 : decode cX11_jar 145 = .ok (.iastore, 1) := dq daX11_jar_11_2 20 rfl
theorem dX11_jar_146 : decode cX11_jar 146 = .ok (.aload_n 0, 1) := dq daX11_jar_11_2 21 rfl
theorem dX11_jar_147 : decode cX11_jar 147 = .ok (.getfield 39, 3) := dq daX11_jar_11_2 22 rfl
theorem dX11_jar_150 : decode cX11_jar 150 = .ok (.iload 6, 2) := dq daX11_jar_11_2 23 rfl
theorem dX11_jar_152 : decode cX11_jar 152 = .ok (.bipush 6, 2) := dq daX11_jar_11_2 24 rfl
theorem dX11_jar_154 : decode cX11_jar 154 = .ok (.iadd, 1) := dq daX11_jar_11_2 25 rfl
theorem dX11_jar_155 : decode cX11_jar 155 = .ok (.iconst (-1), 1) := dq daX11_jar_11_2 26 rfl
theorem dX11_jar_156 : decode cX11_jar 156 = .ok (.iastore, 1) := dq daX11_jar_11_2 27 rfl
theorem dX11_jar_157 : decode cX11_jar 157 = .ok (.aload_n 0, 1) := dq daX11_jar_11_2 28 rfl
theorem dX11_jar_158 : decode cX11_jar 158 = .ok (.getfield 39, 3) := dq daX11_jar_11_2 29 rfl
theorem dX11_jar_161 : decode cX11_jar 161 = .ok (.iload 6, 2) := dq daX11_jar_11_2 30 rfl
theorem dX11_jar_163 : decode cX11_jar 163 = .ok (.bipush 7, 2) := dq daX11_jar_11_2 31 rfl
def dtX11_jar_11_3 : List (Nat × Jvm.ClassFile.Instr × Nat) := [(165, .iadd, 1), (166, .iconst 0, 1), (167, .iastore, 1), (168, .aload_n 0, 1), (169, .getfield 39, 3), (172, .iload 6, 2), (174, .bipush 8, 2), (176, .iadd, 1), (177, .iconst (-1), 1), (178, .iastore, 1), (179, .aload_n 0, 1), (180, .getfield 39, 3), (183, .iconst 2, 1), (184, .dup2, 1), (185, .iaload, 1), (186, .iconst 1, 1), (187, .iadd, 1), (188, .iastore, 1), (189, .aload_n 0, 1), (190, .getfield 39, 3), (193, .iconst 2, 1), (194, .iaload, 1), (195, .iconst 1, 1), (196, .isub, 1), (197, .ireturn, 1)]
theorem daX11_jar_11_3 : dtX11_jar_11_3.all (dqd cX11_jar) = true := by decide +kernel
theorem dX11_jar_165 : decode cX11_jar 165 = .ok (.iadd, 1) := dq daX11_jar_11_3 0 rfl
theorem dX11_jar_166 : decode cX11_jar 166 = .ok (.iconst 0, 1) := dq daX11_jar_11_3 1 rfl
theorem dX11_jar_167 : decode cX11_jar 167 = .ok (.iastore, 1) := dq daX11_jar_11_3 2 rfl
theorem dX11_jar_168 : decode cX11_jar 168 = .ok (.aload_n 0, 1) := dq daX11_jar_11_3 3 rfl
theorem dX11_jar_169 : decode cX11_jar 169 = .ok (.getfield 39, 3) := dq daX11_jar_11_3 4 rfl
theorem dX11_jar_172 : decode cX11_jar 172 = .ok (.iload 6, 2) := dq daX11_jar_11_3 5 rfl
theorem dX11_jar_174 : decode cX11_jar 174 = .ok (.bipush 8, 2) := dq daX11_jar_11_3 6 rfl
theorem dX11_jar_176 : decode cX11_jar 176 = .ok (.iadd, 1) := dq daX11_jar_11_3 7 rfl
theorem dX11_jar_177 : decode cX11_jar 177 = .ok (.iconst (-1), 1) := dq daX11_jar_11_3 8 rfl
theorem dX11_jar_178 : decode cX11_jar 178 = .ok (.iastore, 1) := dq daX11_jar_11_3 9 rfl
theorem dX11_jar_179 : decode cX11_jar 179 = .ok (.aload_n 0, 1) := dq daX11_jar_11_3 10 rfl
theorem dX11_jar_180 : decode cX11_jar 180 = .ok (.getfield 39, 3) := dq daX11_jar_11_3 11 rfl
theorem dX11_jar_183 : decode cX11_jar 183 = .ok (.iconst 2, 1) := dq daX11_jar_11_3 12 rfl
theorem dX11_jar_184 : decode cX11_jar 184 = .ok (.dup2, 1) := dq daX11_jar_11_3 13 rfl
theorem dX11_jar_185 : decode cX11_jar 185 = .ok (.iaload, 1) := dq daX11_jar_11_3 14 rfl
theorem dX11_jar_186 : decode cX11_jar 186 = .ok (.iconst 1, 1) := dq daX11_jar_11_3 15 rfl
theorem dX11_jar_187 : decode cX11_jar 187 = .ok (.iadd, 1) := dq daX11_jar_11_3 16 rfl
theorem dX11_jar_188 : decode cX11_jar 188 = .ok (.iastore, 1) := dq daX11_jar_11_3 17 rfl
theorem dX11_jar_189 : decode cX11_jar 189 = .ok (.aload_n 0, 1) := dq daX11_jar_11_3 18 rfl
theorem dX11_jar_190 : decode cX11_jar 190 = .ok (.getfield 39, 3) := dq daX11_jar_11_3 19 rfl
theorem dX11_jar_193 : decode cX11_jar 193 = .ok (.iconst 2, 1) := dq daX11_jar_11_3 20 rfl
theorem dX11_jar_194 : decode cX11_jar 194 = .ok (.iaload, 1) := dq daX11_jar_11_3 21 rfl
theorem dX11_jar_195 : decode cX11_jar 195 = .ok (.iconst 1, 1) := dq daX11_jar_11_3 22 rfl
theorem dX11_jar_196 : decode cX11_jar 196 = .ok (.isub, 1) := dq daX11_jar_11_3 23 rfl
theorem dX11_jar_197 : decode cX11_jar 197 = .ok (.ireturn, 1) := dq daX11_jar_11_3 24 rfl
def dtX11_order_11_0 : List (Nat × Jvm.ClassFile.Instr × Nat) := [(0, .aload_n 0, 1), (1, .getfield 39, 3), (4, .iconst 3, 1), (5, .iaload, 1), (6, .bipush 6, 2), (8, .if_icmp .eq 48, 3), (56, .iconst (-1), 1), (57, .ireturn, 1), (11, .aload_n 0, 1), (12, .iload_n 1, 1), (13, .invokevirtual 267, 3), (16, .ifCond .eq 40, 3), (19, .iload_n 2, 1), (20, .i2l, 1), (21, .lconst 0, 1), (22, .ldc2_w 289, 3), (25, .invokestatic 118, 3), (28, .ifCond .eq 28, 3), (31, .iload_n 3, 1), (32, .i2l, 1), (33, .lconst 1, 1), (34, .ldc2_w 289, 3), (37, .invokestatic 118, 3), (40, .ifCond .eq 16, 3), (43, .iload 4, 2), (45, .i2l, 1), (46, .lconst 0, 1), (47, .ldc2_w 445, 3), (50, .invokestatic 118, 3), (53, .ifCond .ne 5, 3), (58, .sipush 312, 3), (61, .iconst 4, 1)]
theorem daX11_order_11_0 : dtX11_order_11_0.all (dqd cX11_order) = true := by decide +kernel
theorem dX11_order_0 : decode cX11_order 0 = .ok (.aload_n 0, 1) := dq daX11_order_11_0 0 rfl
theorem dX11_order_1 : decode cX11_order 1 = .ok (.getfield 39, 3) := dq daX11_order_11_0 1 rfl
theorem dX11_order_4 : decode cX11_order 4 = .ok (.iconst 3, 1) := dq daX11_order_11_0 2 rfl
theorem dX11_order_5 : decode cX11_order 5 = .ok (.iaload, 1) := dq daX11_order_11_0 3 rfl
theorem dX11_order_6 : decode cX11_order 6 = .ok (.bipush 6, 2) := dq daX11_order_11_0 4 rfl
theorem dX11_order_8 : decode cX11_order 8 = .ok (.if_icmp .eq 48, 3) := dq daX11_order_11_0 5 rfl
theorem dX11_order_56 : decode cX11_order 56 = .ok (.iconst (-1), 1) := dq daX11_order_11_0 6 rfl
theorem dX11_order_57 : decode cX11_order 57 = .ok (.ireturn, 1) := dq daX11_order_11_0 7 rfl
theorem dX11_order_11 : decode cX11_order 11 = .ok (.aload_n 0, 1) := dq daX11_order_11_0 8 rfl
theorem dX11_order_12 : decode cX11_order 12 = .ok (.iload_n 1, 1) := dq daX11_order_11_0 9 rfl
theorem dX11_order_13 : decode cX11_order 13 = .ok (.invokevirtual 267, 3) := dq daX11_order_11_0 10 rfl
theorem dX11_order_16 : decode cX11_order 16 = .ok (.ifCond .eq 40, 3) := dq daX11_order_11_0 11 rfl
theorem dX11_order_19 : decode cX11_order 19 = .ok (.iload_n 2, 1) := dq daX11_order_11_0 12 rfl
theorem dX11_order_20 : decode cX11_order 20 = .ok (.i2l, 1) := dq daX11_order_11_0 13 rfl
theorem dX11_order_21 : decode cX11_order 21 = .ok (.lconst 0, 1) := dq daX11_order_11_0 14 rfl
theorem dX11_order_22 : decode cX11_order 22 = .ok (.ldc2_w 289, 3) := dq daX11_order_11_0 15 rfl
theorem dX11_order_25 : decode cX11_order 25 = .ok (.invokestatic 118, 3) := dq daX11_order_11_0 16 rfl
theorem dX11_order_28 : decode cX11_order 28 = .ok (.ifCond .eq 28, 3) := dq daX11_order_11_0 17 rfl
theorem dX11_order_31 : decode cX11_order 31 = .ok (.iload_n 3, 1) := dq daX11_order_11_0 18 rfl
theorem dX11_order_32 : decode cX11_order 32 = .ok (.i2l, 1) := dq daX11_order_11_0 19 rfl
theorem dX11_order_33 : decode cX11_order 33 = .ok (.lconst 1, 1) := dq daX11_order_11_0 20 rfl
theorem dX11_order_34 : decode cX11_order 34 = .ok (.ldc2_w 289, 3) := dq daX11_order_11_0 21 rfl
theorem dX11_order_37 : decode cX11_order 37 = .ok (.invokestatic 118, 3) := dq daX11_order_11_0 22 rfl
theorem dX11_order_40 : decode cX11_order 40 = .ok (.ifCond .eq 16, 3) := dq daX11_order_11_0 23 rfl
theorem dX11_order_43 : decode cX11_order 43 = .ok (.iload 4, 2) := dq daX11_order_11_0 24 rfl
theorem dX11_order_45 : decode cX11_order 45 = .ok (.i2l, 1) := dq daX11_order_11_0 25 rfl
theorem dX11_order_46 : decode cX11_order 46 = .ok (.lconst 0, 1) := dq daX11_order_11_0 26 rfl
theorem dX11_order_47 : decode cX11_order 47 = .ok (.ldc2_w 445, 3) := dq daX11_order_11_0 27 rfl
theorem dX11_order_50 : decode cX11_order 50 = .ok (.invokestatic 118, 3) := dq daX11_order_11_0 28 rfl
theorem dX11_order_53 : decode cX11_order 53 = .ok (.ifCond .ne 5, 3) := dq daX11_order_11_0 29 rfl
theorem dX11_order_58 : decode cX11_order 58 = .ok (.sipush 312, 3) := dq daX11_order_11_0 30 rfl
theorem dX11_order_61 : decode cX11_order 61 = .ok (.iconst 4, 1) := dq daX11_order_11_0 31 rfl
def dtX11_order_11_1 : List (Nat × Jvm.ClassFile.Instr × Nat) := [(62, .aload_n 0, 1), (63, .getfield 39, 3), (66, .iconst 3, 1), (67, .iaload, 1), (68, .imul, 1), (69, .iadd, 1), (70, .istore 5, 2), (72, .aload_n 0, 1), (73, .getfield 39, 3), (76, .iload 5, 2), (78, .iload_n 1, 1), (79, .iastore, 1), (80, .aload_n 0, 1), (81, .getfield 39, 3), (84, .iload 5, 2), (86, .iconst 1, 1), (87, .iadd, 1), (88, .iload_n 2, 1), (89, .iastore, 1), (90, .aload_n 0, 1), (91, .getfield 39, 3), (94, .iload 5, 2), (96, .iconst 2, 1), (97, .iadd, 1), (98, .iload_n 3, 1), (99, .iastore, 1), (100, .aload_n 0, 1), (101, .getfield 39, 3), (104, .iload 5, 2), (106, .iconst 3, 1), (107, .iadd, 1), (108, .iload 4, 2)]
theorem daX11_order_11_1 : dtX11_order_11_1.all (dqd cX11_order) = true := by decide +kernel
theorem dX11_order_62 : decode cX11_order 62 = .ok (.aload_n 0, 1) := dq daX11_order_11_1 0 rfl
theorem dX11_order_63 : decode cX11_order 63 = .ok (.getfield 39, 3) := dq daX11_order_11_1 1 rfl
theorem dX11_order_66 : decode cX11_order 66 = .ok (.iconst 3, 1) := dq daX11_order_11_1 2 rfl
theorem dX11_order_67 : decode cX11_order 67 = .ok (.iaload, 1) := dq daX11_order_11_1 3 rfl
theorem dX11_order_68 : decode cX11_order 68 = .ok (.imul, 1) := dq daX11_order_11_1 4 rfl
theorem dX11_order_69 : decode cX11_order 69 = .ok (.iadd, 1) := dq daX11_order_11_1 5 rfl
theorem dX11_order_70 : decode cX11_order 70 = .ok (.istore 5, 2) := dq daX11_order_11_1 6 rfl
theorem dX11_order_72 : decode cX11_order 72 = .ok (.aload_n 0, 1) := dq daX11_order_11_1 7 rfl
theorem dX11_order_73 : decode cX11_order 73 = .ok (.getfield 39, 3) := dq daX11_order_11_1 8 rfl
theorem dX11_order_76 : decode cX11_order 76 = .ok (.iload 5, 2) := dq daX11_order_11_1 9 rfl
theorem dX11_order_78 : decode cX11_order 78 = .ok (.iload_n 1, 1) := dq daX11_order_11_1 10 rfl
theorem dX11_order_79 : decode cX11_order 79 = .ok (.iastore, 1) := dq daX11_order_11_1 11 rfl
theorem dX11_order_80 : decode cX11_order 80 = .ok (.aload_n 0, 1) := dq daX11_order_11_1 12 rfl
theorem dX11_order_81 : decode cX11_order 81 = .ok (.getfield 39, 3) := dq daX11_order_11_1 13 rfl
theorem dX11_order_84 : decode cX11_order 84 = .ok (.iload 5, 2) := dq daX11_order_11_1 14 rfl
theorem dX11_order_86 : decode cX11_order 86 = .ok (.iconst 1, 1) := dq daX11_order_11_1 15 rfl
theorem dX11_order_87 : decode cX11_order 87 = .ok (.iadd, 1) := dq daX11_order_11_1 16 rfl
theorem dX11_order_88 : decode cX11_order 88 = .ok (.iload_n 2, 1) := dq daX11_order_11_1 17 rfl
theorem dX11_order_89 : decode cX11_order 89 = .ok (.iastore, 1) := dq daX11_order_11_1 18 rfl
theorem dX11_order_90 : decode cX11_order 90 = .ok (.aload_n 0, 1) := dq daX11_order_11_1 19 rfl
theorem dX11_order_91 : decode cX11_order 91 = .ok (.getfield 39, 3) := dq daX11_order_11_1 20 rfl
theorem dX11_order_94 : decode cX11_order 94 = .ok (.iload 5, 2) := dq daX11_order_11_1 21 rfl
theorem dX11_order_96 : decode cX11_order 96 = .ok (.iconst 2, 1) := dq daX11_order_11_1 22 rfl
theorem dX11_order_97 : decode cX11_order 97 = .ok (.iadd, 1) := dq daX11_order_11_1 23 rfl
theorem dX11_order_98 : decode cX11_order 98 = .ok (.iload_n 3, 1) := dq daX11_order_11_1 24 rfl
theorem dX11_order_99 : decode cX11_order 99 = .ok (.iastore, 1) := dq daX11_order_11_1 25 rfl
theorem dX11_order_100 : decode cX11_order 100 = .ok (.aload_n 0, 1) := dq daX11_order_11_1 26 rfl
theorem dX11_order_101 : decode cX11_order 101 = .ok (.getfield 39, 3) := dq daX11_order_11_1 27 rfl
theorem dX11_order_104 : decode cX11_order 104 = .ok (.iload 5, 2) := dq daX11_order_11_1 28 rfl
theorem dX11_order_106 : decode cX11_order 106 = .ok (.iconst 3, 1) := dq daX11_order_11_1 29 rfl
theorem dX11_order_107 : decode cX11_order 107 = .ok (.iadd, 1) := dq daX11_order_11_1 30 rfl
theorem dX11_order_108 : decode cX11_order 108 = .ok (.iload 4, 2) := dq daX11_order_11_1 31 rfl
def dtX11_order_11_2 : List (Nat × Jvm.ClassFile.Instr × Nat) := [(110, .iastore, 1), (111, .aload_n 0, 1), (112, .getfield 39, 3), (115, .iconst 3, 1), (116, .dup2, 1), (117, .iaload, 1), (118, .iconst 1, 1), (119, .iadd, 1), (120, .iastore, 1), (121, .aload_n 0, 1), (122, .getfield 39, 3), (125, .iconst 3, 1), (126, .iaload, 1), (127, .ireturn, 1)]
theorem daX11_order_11_2 : dtX11_order_11_2.all (dqd cX11_order) = true := by decide +kernel
theorem dX11_order_110 : decode cX11_order 110 = .ok (.iastore, 1) := dq daX11_order_11_2 0 rfl
theorem dX11_order_111 : decode cX11_order 111 = .ok (.aload_n 0, 1) := dq daX11_order_11_2 1 rfl
theorem dX11_order_112 : decode cX11_order 112 = .ok (.getfield 39, 3) := dq daX11_order_11_2 2 rfl
theorem dX11_order_115 : decode cX11_order 115 = .ok (.iconst 3, 1) := dq daX11_order_11_2 3 rfl
theorem dX11_order_116 : decode cX11_order 116 = .ok (.dup2, 1) := dq daX11_order_11_2 4 rfl
theorem dX11_order_117 : decode cX11_order 117 = .ok (.iaload, 1) := dq daX11_order_11_2 5 rfl
theorem dX11_order_118 : decode cX11_order 118 = .ok (.iconst 1, 1) := dq daX11_order_11_2 6 rfl
theorem dX11_order_119 : decode cX11_order 119 = .ok (.iadd, 1) := dq daX11_order_11_2 7 rfl
theorem dX11_order_120 : decode cX11_order 120 = .ok (.iastore, 1) := dq daX11_order_11_2 8 rfl
theorem dX11_order_121 : decode cX11_order 121 = .ok (.aload_n 0, 1) := dq daX11_order_11_2 9 rfl
theorem dX11_order_122 : decode cX11_order 122 = .ok (.getfield 39, 3) := dq daX11_order_11_2 10 rfl
theorem dX11_order_125 : decode cX11_order 125 = .ok (.iconst 3, 1) := dq daX11_order_11_2 11 rfl
theorem dX11_order_126 : decode cX11_order 126 = .ok (.iaload, 1) := dq daX11_order_11_2 12 rfl
theorem dX11_order_127 : decode cX11_order 127 = .ok (.ireturn, 1) := dq daX11_order_11_2 13 rfl
def dtX11_feast_11_0 : List (Nat × Jvm.ClassFile.Instr × Nat) := [(0, .aload_n 0, 1), (1, .getfield 39, 3), (4, .iconst 4, 1), (5, .iaload, 1), (6, .bipush 8, 2), (8, .if_icmp .eq 35, 3), (43, .iconst (-1), 1), (44, .ireturn, 1), (11, .aload_n 0, 1), (12, .iload_n 1, 1), (13, .invokevirtual 267, 3), (16, .ifCond .eq 27, 3), (19, .iload_n 2, 1), (20, .i2l, 1), (21, .lconst 0, 1), (22, .ldc2_w 461, 3), (25, .invokestatic 118, 3), (28, .ifCond .eq 15, 3), (31, .iload_n 3, 1), (32, .i2l, 1), (33, .lconst 1, 1), (34, .ldc2_w 289, 3), (37, .invokestatic 118, 3), (40, .ifCond .ne 5, 3), (45, .sipush 336, 3), (48, .iconst 3, 1), (49, .aload_n 0, 1), (50, .getfield 39, 3), (53, .iconst 4, 1), (54, .iaload, 1), (55, .imul, 1), (56, .iadd, 1)]
theorem daX11_feast_11_0 : dtX11_feast_11_0.all (dqd cX11_feast) = true := by decide +kernel
theorem dX11_feast_0 : decode cX11_feast 0 = .ok (.aload_n 0, 1) := dq daX11_feast_11_0 0 rfl
theorem dX11_feast_1 : decode cX11_feast 1 = .ok (.getfield 39, 3) := dq daX11_feast_11_0 1 rfl
theorem dX11_feast_4 : decode cX11_feast 4 = .ok (.iconst 4, 1) := dq daX11_feast_11_0 2 rfl
theorem dX11_feast_5 : decode cX11_feast 5 = .ok (.iaload, 1) := dq daX11_feast_11_0 3 rfl
theorem dX11_feast_6 : decode cX11_feast 6 = .ok (.bipush 8, 2) := dq daX11_feast_11_0 4 rfl
theorem dX11_feast_8 : decode cX11_feast 8 = .ok (.if_icmp .eq 35, 3) := dq daX11_feast_11_0 5 rfl
theorem dX11_feast_43 : decode cX11_feast 43 = .ok (.iconst (-1), 1) := dq daX11_feast_11_0 6 rfl
theorem dX11_feast_44 : decode cX11_feast 44 = .ok (.ireturn, 1) := dq daX11_feast_11_0 7 rfl
theorem dX11_feast_11 : decode cX11_feast 11 = .ok (.aload_n 0, 1) := dq daX11_feast_11_0 8 rfl
theorem dX11_feast_12 : decode cX11_feast 12 = .ok (.iload_n 1, 1) := dq daX11_feast_11_0 9 rfl
theorem dX11_feast_13 : decode cX11_feast 13 = .ok (.invokevirtual 267, 3) := dq daX11_feast_11_0 10 rfl
theorem dX11_feast_16 : decode cX11_feast 16 = .ok (.ifCond .eq 27, 3) := dq daX11_feast_11_0 11 rfl
theorem dX11_feast_19 : decode cX11_feast 19 = .ok (.iload_n 2, 1) := dq daX11_feast_11_0 12 rfl
theorem dX11_feast_20 : decode cX11_feast 20 = .ok (.i2l, 1) := dq daX11_feast_11_0 13 rfl
theorem dX11_feast_21 : decode cX11_feast 21 = .ok (.lconst 0, 1) := dq daX11_feast_11_0 14 rfl
theorem dX11_feast_22 : decode cX11_feast 22 = .ok (.ldc2_w 461, 3) := dq daX11_feast_11_0 15 rfl
theorem dX11_feast_25 : decode cX11_feast 25 = .ok (.invokestatic 118, 3) := dq daX11_feast_11_0 16 rfl
theorem dX11_feast_28 : decode cX11_feast 28 = .ok (.ifCond .eq 15, 3) := dq daX11_feast_11_0 17 rfl
theorem dX11_feast_31 : decode cX11_feast 31 = .ok (.iload_n 3, 1) := dq daX11_feast_11_0 18 rfl
theorem dX11_feast_32 : decode cX11_feast 32 = .ok (.i2l, 1) := dq daX11_feast_11_0 19 rfl
theorem dX11_feast_33 : decode cX11_feast 33 = .ok (.lconst 1, 1) := dq daX11_feast_11_0 20 rfl
theorem dX11_feast_34 : decode cX11_feast 34 = .ok (.ldc2_w 289, 3) := dq daX11_feast_11_0 21 rfl
theorem dX11_feast_37 : decode cX11_feast 37 = .ok (.invokestatic 118, 3) := dq daX11_feast_11_0 22 rfl
theorem dX11_feast_40 : decode cX11_feast 40 = .ok (.ifCond .ne 5, 3) := dq daX11_feast_11_0 23 rfl
theorem dX11_feast_45 : decode cX11_feast 45 = .ok (.sipush 336, 3) := dq daX11_feast_11_0 24 rfl
theorem dX11_feast_48 : decode cX11_feast 48 = .ok (.iconst 3, 1) := dq daX11_feast_11_0 25 rfl
theorem dX11_feast_49 : decode cX11_feast 49 = .ok (.aload_n 0, 1) := dq daX11_feast_11_0 26 rfl
theorem dX11_feast_50 : decode cX11_feast 50 = .ok (.getfield 39, 3) := dq daX11_feast_11_0 27 rfl
theorem dX11_feast_53 : decode cX11_feast 53 = .ok (.iconst 4, 1) := dq daX11_feast_11_0 28 rfl
theorem dX11_feast_54 : decode cX11_feast 54 = .ok (.iaload, 1) := dq daX11_feast_11_0 29 rfl
theorem dX11_feast_55 : decode cX11_feast 55 = .ok (.imul, 1) := dq daX11_feast_11_0 30 rfl
theorem dX11_feast_56 : decode cX11_feast 56 = .ok (.iadd, 1) := dq daX11_feast_11_0 31 rfl
def dtX11_feast_11_1 : List (Nat × Jvm.ClassFile.Instr × Nat) := [(57, .istore 4, 2), (59, .aload_n 0, 1), (60, .getfield 39, 3), (63, .iload 4, 2), (65, .iload_n 1, 1), (66, .iastore, 1), (67, .aload_n 0, 1), (68, .getfield 39, 3), (71, .iload 4, 2), (73, .iconst 1, 1), (74, .iadd, 1), (75, .iload_n 2, 1), (76, .iastore, 1), (77, .aload_n 0, 1), (78, .getfield 39, 3), (81, .iload 4, 2), (83, .iconst 2, 1), (84, .iadd, 1), (85, .iload_n 3, 1), (86, .iastore, 1), (87, .aload_n 0, 1), (88, .getfield 39, 3), (91, .iconst 4, 1), (92, .dup2, 1), (93, .iaload, 1), (94, .iconst 1, 1), (95, .iadd, 1), (96, .iastore, 1), (97, .aload_n 0, 1), (98, .getfield 39, 3), (101, .iconst 4, 1), (102, .iaload, 1)]
theorem daX11_feast_11_1 : dtX11_feast_11_1.all (dqd cX11_feast) = true := by decide +kernel
theorem dX11_feast_57 : decode cX11_feast 57 = .ok (.istore 4, 2) := dq daX11_feast_11_1 0 rfl
theorem dX11_feast_59 : decode cX11_feast 59 = .ok (.aload_n 0, 1) := dq daX11_feast_11_1 1 rfl
theorem dX11_feast_60 : decode cX11_feast 60 = .ok (.getfield 39, 3) := dq daX11_feast_11_1 2 rfl
theorem dX11_feast_63 : decode cX11_feast 63 = .ok (.iload 4, 2) := dq daX11_feast_11_1 3 rfl
theorem dX11_feast_65 : decode cX11_feast 65 = .ok (.iload_n 1, 1) := dq daX11_feast_11_1 4 rfl
theorem dX11_feast_66 : decode cX11_feast 66 = .ok (.iastore, 1) := dq daX11_feast_11_1 5 rfl
theorem dX11_feast_67 : decode cX11_feast 67 = .ok (.aload_n 0, 1) := dq daX11_feast_11_1 6 rfl
theorem dX11_feast_68 : decode cX11_feast 68 = .ok (.getfield 39, 3) := dq daX11_feast_11_1 7 rfl
theorem dX11_feast_71 : decode cX11_feast 71 = .ok (.iload 4, 2) := dq daX11_feast_11_1 8 rfl
theorem dX11_feast_73 : decode cX11_feast 73 = .ok (.iconst 1, 1) := dq daX11_feast_11_1 9 rfl
theorem dX11_feast_74 : decode cX11_feast 74 = .ok (.iadd, 1) := dq daX11_feast_11_1 10 rfl
theorem dX11_feast_75 : decode cX11_feast 75 = .ok (.iload_n 2, 1) := dq daX11_feast_11_1 11 rfl
theorem dX11_feast_76 : decode cX11_feast 76 = .ok (.iastore, 1) := dq daX11_feast_11_1 12 rfl
theorem dX11_feast_77 : decode cX11_feast 77 = .ok (.aload_n 0, 1) := dq daX11_feast_11_1 13 rfl
theorem dX11_feast_78 : decode cX11_feast 78 = .ok (.getfield 39, 3) := dq daX11_feast_11_1 14 rfl
theorem dX11_feast_81 : decode cX11_feast 81 = .ok (.iload 4, 2) := dq daX11_feast_11_1 15 rfl
theorem dX11_feast_83 : decode cX11_feast 83 = .ok (.iconst 2, 1) := dq daX11_feast_11_1 16 rfl
theorem dX11_feast_84 : decode cX11_feast 84 = .ok (.iadd, 1) := dq daX11_feast_11_1 17 rfl
theorem dX11_feast_85 : decode cX11_feast 85 = .ok (.iload_n 3, 1) := dq daX11_feast_11_1 18 rfl
theorem dX11_feast_86 : decode cX11_feast 86 = .ok (.iastore, 1) := dq daX11_feast_11_1 19 rfl
theorem dX11_feast_87 : decode cX11_feast 87 = .ok (.aload_n 0, 1) := dq daX11_feast_11_1 20 rfl
theorem dX11_feast_88 : decode cX11_feast 88 = .ok (.getfield 39, 3) := dq daX11_feast_11_1 21 rfl
theorem dX11_feast_91 : decode cX11_feast 91 = .ok (.iconst 4, 1) := dq daX11_feast_11_1 22 rfl
theorem dX11_feast_92 : decode cX11_feast 92 = .ok (.dup2, 1) := dq daX11_feast_11_1 23 rfl
theorem dX11_feast_93 : decode cX11_feast 93 = .ok (.iaload, 1) := dq daX11_feast_11_1 24 rfl
theorem dX11_feast_94 : decode cX11_feast 94 = .ok (.iconst 1, 1) := dq daX11_feast_11_1 25 rfl
theorem dX11_feast_95 : decode cX11_feast 95 = .ok (.iadd, 1) := dq daX11_feast_11_1 26 rfl
theorem dX11_feast_96 : decode cX11_feast 96 = .ok (.iastore, 1) := dq daX11_feast_11_1 27 rfl
theorem dX11_feast_97 : decode cX11_feast 97 = .ok (.aload_n 0, 1) := dq daX11_feast_11_1 28 rfl
theorem dX11_feast_98 : decode cX11_feast 98 = .ok (.getfield 39, 3) := dq daX11_feast_11_1 29 rfl
theorem dX11_feast_101 : decode cX11_feast 101 = .ok (.iconst 4, 1) := dq daX11_feast_11_1 30 rfl
theorem dX11_feast_102 : decode cX11_feast 102 = .ok (.iaload, 1) := dq daX11_feast_11_1 31 rfl
def dtX11_feast_11_2 : List (Nat × Jvm.ClassFile.Instr × Nat) := [(103, .ireturn, 1)]
theorem daX11_feast_11_2 : dtX11_feast_11_2.all (dqd cX11_feast) = true := by decide +kernel
theorem dX11_feast_103 : decode cX11_feast 103 = .ok (.ireturn, 1) := dq daX11_feast_11_2 0 rfl
def dtX11_month_11_0 : List (Nat × Jvm.ClassFile.Instr × Nat) := [(0, .iload_n 1, 1), (1, .i2l, 1), (2, .lconst 0, 1), (3, .ldc2_w 278, 3), (6, .invokestatic 118, 3), (9, .ifCond .ne 5, 3), (14, .aload_n 0, 1), (15, .getfield 39, 3), (18, .bipush 6, 2), (20, .iaload, 1), (21, .istore_n 2, 1), (22, .aload_n 0, 1), (23, .getfield 39, 3), (26, .bipush 6, 2), (28, .iload_n 1, 1), (29, .iastore, 1), (30, .iload_n 2, 1), (12, .iconst (-1), 1), (13, .ireturn, 1), (31, .ireturn, 1)]
theorem daX11_month_11_0 : dtX11_month_11_0.all (dqd cX11_month) = true := by decide +kernel
theorem dX11_month_0 : decode cX11_month 0 = .ok (.iload_n 1, 1) := dq daX11_month_11_0 0 rfl
theorem dX11_month_1 : decode cX11_month 1 = .ok (.i2l, 1) := dq daX11_month_11_0 1 rfl
theorem dX11_month_2 : decode cX11_month 2 = .ok (.lconst 0, 1) := dq daX11_month_11_0 2 rfl
theorem dX11_month_3 : decode cX11_month 3 = .ok (.ldc2_w 278, 3) := dq daX11_month_11_0 3 rfl
theorem dX11_month_6 : decode cX11_month 6 = .ok (.invokestatic 118, 3) := dq daX11_month_11_0 4 rfl
theorem dX11_month_9 : decode cX11_month 9 = .ok (.ifCond .ne 5, 3) := dq daX11_month_11_0 5 rfl
theorem dX11_month_14 : decode cX11_month 14 = .ok (.aload_n 0, 1) := dq daX11_month_11_0 6 rfl
theorem dX11_month_15 : decode cX11_month 15 = .ok (.getfield 39, 3) := dq daX11_month_11_0 7 rfl
theorem dX11_month_18 : decode cX11_month 18 = .ok (.bipush 6, 2) := dq daX11_month_11_0 8 rfl
theorem dX11_month_20 : decode cX11_month 20 = .ok (.iaload, 1) := dq daX11_month_11_0 9 rfl
theorem dX11_month_21 : decode cX11_month 21 = .ok (.istore_n 2, 1) := dq daX11_month_11_0 10 rfl
theorem dX11_month_22 : decode cX11_month 22 = .ok (.aload_n 0, 1) := dq daX11_month_11_0 11 rfl
theorem dX11_month_23 : decode cX11_month 23 = .ok (.getfield 39, 3) := dq daX11_month_11_0 12 rfl
theorem dX11_month_26 : decode cX11_month 26 = .ok (.bipush 6, 2) := dq daX11_month_11_0 13 rfl
theorem dX11_month_28 : decode cX11_month 28 = .ok (.iload_n 1, 1) := dq daX11_month_11_0 14 rfl
theorem dX11_month_29 : decode cX11_month 29 = .ok (.iastore, 1) := dq daX11_month_11_0 15 rfl
theorem dX11_month_30 : decode cX11_month 30 = .ok (.iload_n 2, 1) := dq daX11_month_11_0 16 rfl
theorem dX11_month_12 : decode cX11_month 12 = .ok (.iconst (-1), 1) := dq daX11_month_11_0 17 rfl
theorem dX11_month_13 : decode cX11_month 13 = .ok (.ireturn, 1) := dq daX11_month_11_0 18 rfl
theorem dX11_month_31 : decode cX11_month 31 = .ok (.ireturn, 1) := dq daX11_month_11_0 19 rfl
def dtX11_from_11_0 : List (Nat × Jvm.ClassFile.Instr × Nat) := [(0, .aload_n 0, 1), (1, .iload_n 1, 1), (2, .invokevirtual 267, 3), (5, .ifCond .ne 5, 3), (10, .aload_n 0, 1), (11, .getfield 39, 3), (14, .bipush 8, 2), (16, .iload_n 1, 1), (17, .iastore, 1), (18, .aload_n 0, 1), (19, .getfield 39, 3), (22, .bipush 9, 2), (24, .iconst 0, 1), (25, .iastore, 1), (26, .iconst 1, 1), (8, .iconst 0, 1), (9, .ireturn, 1), (27, .ireturn, 1)]
theorem daX11_from_11_0 : dtX11_from_11_0.all (dqd cX11_from) = true := by decide +kernel
theorem dX11_from_0 : decode cX11_from 0 = .ok (.aload_n 0, 1) := dq daX11_from_11_0 0 rfl
theorem dX11_from_1 : decode cX11_from 1 = .ok (.iload_n 1, 1) := dq daX11_from_11_0 1 rfl
theorem dX11_from_2 : decode cX11_from 2 = .ok (.invokevirtual 267, 3) := dq daX11_from_11_0 2 rfl
theorem dX11_from_5 : decode cX11_from 5 = .ok (.ifCond .ne 5, 3) := dq daX11_from_11_0 3 rfl
theorem dX11_from_10 : decode cX11_from 10 = .ok (.aload_n 0, 1) := dq daX11_from_11_0 4 rfl
theorem dX11_from_11 : decode cX11_from 11 = .ok (.getfield 39, 3) := dq daX11_from_11_0 5 rfl
theorem dX11_from_14 : decode cX11_from 14 = .ok (.bipush 8, 2) := dq daX11_from_11_0 6 rfl
theorem dX11_from_16 : decode cX11_from 16 = .ok (.iload_n 1, 1) := dq daX11_from_11_0 7 rfl
theorem dX11_from_17 : decode cX11_from 17 = .ok (.iastore, 1) := dq daX11_from_11_0 8 rfl
theorem dX11_from_18 : decode cX11_from 18 = .ok (.aload_n 0, 1) := dq daX11_from_11_0 9 rfl
theorem dX11_from_19 : decode cX11_from 19 = .ok (.getfield 39, 3) := dq daX11_from_11_0 10 rfl
theorem dX11_from_22 : decode cX11_from 22 = .ok (.bipush 9, 2) := dq daX11_from_11_0 11 rfl
theorem dX11_from_24 : decode cX11_from 24 = .ok (.iconst 0, 1) := dq daX11_from_11_0 12 rfl
theorem dX11_from_25 : decode cX11_from 25 = .ok (.iastore, 1) := dq daX11_from_11_0 13 rfl
theorem dX11_from_26 : decode cX11_from 26 = .ok (.iconst 1, 1) := dq daX11_from_11_0 14 rfl
theorem dX11_from_8 : decode cX11_from 8 = .ok (.iconst 0, 1) := dq daX11_from_11_0 15 rfl
theorem dX11_from_9 : decode cX11_from 9 = .ok (.ireturn, 1) := dq daX11_from_11_0 16 rfl
theorem dX11_from_27 : decode cX11_from 27 = .ok (.ireturn, 1) := dq daX11_from_11_0 17 rfl
