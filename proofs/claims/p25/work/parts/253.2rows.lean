theorem kX11_compare_1 {a : Array Value} {s : State} (hts : ∀ w ∈ wsX11_compare, w.before a s = true) : (.fieldLink RX11 90 "SnowMulesModel" "next" "I" : Cond).before a s = true := kw (A := ixX11_compare) wt461 hts (by decide +kernel)
theorem kX11_compare_2 {a : Array Value} {s : State} (hts : ∀ w ∈ wsX11_compare, w.before a s = true) : (.fieldLink RX11 79 "SnowMulesModel" "taped" "I" : Cond).before a s = true := kw (A := ixX11_compare) wt264 hts (by decide +kernel)
theorem kX11_compare_3 {a : Array Value} {s : State} (hts : ∀ w ∈ wsX11_compare, w.before a s = true) : (.fieldLink RX11 7 "SnowMulesModel" "tape" "[B" : Cond).before a s = true := kw (A := ixX11_compare) wt143 hts (by decide +kernel)
theorem iX11_compare_X11 : ∀ w ∈ wsX110, w ∈ wsX11_compare := inW (A := ixX11_compare) uwX11 (by decide +kernel)
theorem hdX11_sum : yX11_sum.cls ≠ "java/lang/invoke/MethodHandle" ∧ yX11_sum.cls ≠ "java/lang/invoke/VarHandle" ∧ (parseMethodDescriptor yX11_sum.desc).map (fun d => d.parameters.length) = some 0 := ⟨hdc_0.1, hdc_0.2, hdd_22⟩
def dtX11_compare_253_0 : List (Nat × Jvm.ClassFile.Instr × Nat) := [(0, .aload_n 0, 1), (1, .invokevirtual 181, 3), (4, .ifCond .ne 5, 3), (9, .aload_n 0, 1), (10, .invokevirtual 93, 3), (13, .istore_n 1, 1), (14, .aload_n 0, 1), (15, .getfield 90, 3), (18, .istore_n 2, 1), (19, .iload_n 1, 1), (20, .bipush 60, 2), (22, .if_icmp .eq 22, 3), (44, .aload_n 0, 1), (45, .dup, 1), (46, .getfield 90, 3), (49, .iconst 1, 1), (50, .iadd, 1), (51, .putfield 90, 3), (54, .iload_n 1, 1), (55, .bipush 61, 2), (57, .if_icmp .eq 32, 3), (89, .iconst 0, 1), (90, .istore_n 3, 1), (91, .iload_n 3, 1), (92, .ifCond .eq 13, 3), (105, .aload_n 0, 1), (106, .iload_n 2, 1), (107, .invokevirtual 168, 3), (110, .ifCond .ne 5, 3), (115, .iload_n 1, 1), (116, .bipush 60, 2), (118, .if_icmp .ne 15, 3)]
theorem daX11_compare_253_0 : dtX11_compare_253_0.all (dqd cX11_compare) = true := by decide +kernel
theorem dX11_compare_0 : decode cX11_compare 0 = .ok (.aload_n 0, 1) := dq daX11_compare_253_0 0 rfl
theorem dX11_compare_1 : decode cX11_compare 1 = .ok (.invokevirtual 181, 3) := dq daX11_compare_253_0 1 rfl
theorem dX11_compare_4 : decode cX11_compare 4 = .ok (.ifCond .ne 5, 3) := dq daX11_compare_253_0 2 rfl
theorem dX11_compare_9 : decode cX11_compare 9 = .ok (.aload_n 0, 1) := dq daX11_compare_253_0 3 rfl
theorem dX11_compare_10 : decode cX11_compare 10 = .ok (.invokevirtual 93, 3) := dq daX11_compare_253_0 4 rfl
theorem dX11_compare_13 : decode cX11_compare 13 = .ok (.istore_n 1, 1) := dq daX11_compare_253_0 5 rfl
theorem dX11_compare_14 : decode cX11_compare 14 = .ok (.aload_n 0, 1) := dq daX11_compare_253_0 6 rfl
theorem dX11_compare_15 : decode cX11_compare 15 = .ok (.getfield 90, 3) := dq daX11_compare_253_0 7 rfl
theorem dX11_compare_18 : decode cX11_compare 18 = .ok (.istore_n 2, 1) := dq daX11_compare_253_0 8 rfl
theorem dX11_compare_19 : decode cX11_compare 19 = .ok (.iload_n 1, 1) := dq daX11_compare_253_0 9 rfl
theorem dX11_compare_20 : decode cX11_compare 20 = .ok (.bipush 60, 2) := dq daX11_compare_253_0 10 rfl
theorem dX11_compare_22 : decode cX11_compare 22 = .ok (.if_icmp .eq 22, 3) := dq daX11_compare_253_0 11 rfl
theorem dX11_compare_44 : decode cX11_compare 44 = .ok (.aload_n 0, 1) := dq daX11_compare_253_0 12 rfl
theorem dX11_compare_45 : decode cX11_compare 45 = .ok (.dup, 1) := dq daX11_compare_253_0 13 rfl
theorem dX11_compare_46 : decode cX11_compare 46 = .ok (.getfield 90, 3) := dq daX11_compare_253_0 14 rfl
theorem dX11_compare_49 : decode cX11_compare 49 = .ok (.iconst 1, 1) := dq daX11_compare_253_0 15 rfl
theorem dX11_compare_50 : decode cX11_compare 50 = .ok (.iadd, 1) := dq daX11_compare_253_0 16 rfl
theorem dX11_compare_51 : decode cX11_compare 51 = .ok (.putfield 90, 3) := dq daX11_compare_253_0 17 rfl
theorem dX11_compare_54 : decode cX11_compare 54 = .ok (.iload_n 1, 1) := dq daX11_compare_253_0 18 rfl
theorem dX11_compare_55 : decode cX11_compare 55 = .ok (.bipush 61, 2) := dq daX11_compare_253_0 19 rfl
theorem dX11_compare_57 : decode cX11_compare 57 = .ok (.if_icmp .eq 32, 3) := dq daX11_compare_253_0 20 rfl
theorem dX11_compare_89 : decode cX11_compare 89 = .ok (.iconst 0, 1) := dq daX11_compare_253_0 21 rfl
theorem dX11_compare_90 : decode cX11_compare 90 = .ok (.istore_n 3, 1) := dq daX11_compare_253_0 22 rfl
theorem dX11_compare_91 : decode cX11_compare 91 = .ok (.iload_n 3, 1) := dq daX11_compare_253_0 23 rfl
theorem dX11_compare_92 : decode cX11_compare 92 = .ok (.ifCond .eq 13, 3) := dq daX11_compare_253_0 24 rfl
theorem dX11_compare_105 : decode cX11_compare 105 = .ok (.aload_n 0, 1) := dq daX11_compare_253_0 25 rfl
theorem dX11_compare_106 : decode cX11_compare 106 = .ok (.iload_n 2, 1) := dq daX11_compare_253_0 26 rfl
theorem dX11_compare_107 : decode cX11_compare 107 = .ok (.invokevirtual 168, 3) := dq daX11_compare_253_0 27 rfl
theorem dX11_compare_110 : decode cX11_compare 110 = .ok (.ifCond .ne 5, 3) := dq daX11_compare_253_0 28 rfl
theorem dX11_compare_115 : decode cX11_compare 115 = .ok (.iload_n 1, 1) := dq daX11_compare_253_0 29 rfl
theorem dX11_compare_116 : decode cX11_compare 116 = .ok (.bipush 60, 2) := dq daX11_compare_253_0 30 rfl
theorem dX11_compare_118 : decode cX11_compare 118 = .ok (.if_icmp .ne 15, 3) := dq daX11_compare_253_0 31 rfl
def dtX11_compare_253_1 : List (Nat × Jvm.ClassFile.Instr × Nat) := [(121, .iload_n 3, 1), (122, .ifCond .eq 7, 3), (129, .iconst 0, 1), (130, .goto 22, 3), (152, .istore 4, 2), (154, .aload_n 0, 1), (155, .invokevirtual 181, 3), (158, .ifCond .ne 5, 3), (163, .aload_n 0, 1), (164, .bipush 6, 2), (166, .iload 4, 2), (168, .iadd, 1), (169, .iconst 0, 1), (170, .invokevirtual 160, 3), (173, .iconst 1, 1), (161, .iconst 0, 1), (113, .iconst 0, 1), (60, .aload_n 0, 1), (61, .getfield 90, 3), (64, .aload_n 0, 1), (65, .getfield 79, 3), (68, .if_icmp .ge 21, 3), (71, .aload_n 0, 1), (72, .getfield 7, 3), (75, .aload_n 0, 1), (76, .getfield 90, 3), (79, .baload, 1), (80, .bipush 61, 2), (82, .if_icmp .ne 7, 3), (85, .iconst 1, 1), (86, .goto 4, 3), (95, .aload_n 0, 1)]
theorem daX11_compare_253_1 : dtX11_compare_253_1.all (dqd cX11_compare) = true := by decide +kernel
theorem dX11_compare_121 : decode cX11_compare 121 = .ok (.iload_n 3, 1) := dq daX11_compare_253_1 0 rfl
theorem dX11_compare_122 : decode cX11_compare 122 = .ok (.ifCond .eq 7, 3) := dq daX11_compare_253_1 1 rfl
theorem dX11_compare_129 : decode cX11_compare 129 = .ok (.iconst 0, 1) := dq daX11_compare_253_1 2 rfl
theorem dX11_compare_130 : decode cX11_compare 130 = .ok (.goto 22, 3) := dq daX11_compare_253_1 3 rfl
theorem dX11_compare_152 : decode cX11_compare 152 = .ok (.istore 4, 2) := dq daX11_compare_253_1 4 rfl
theorem dX11_compare_154 : decode cX11_compare 154 = .ok (.aload_n 0, 1) := dq daX11_compare_253_1 5 rfl
theorem dX11_compare_155 : decode cX11_compare 155 = .ok (.invokevirtual 181, 3) := dq daX11_compare_253_1 6 rfl
theorem dX11_compare_158 : decode cX11_compare 158 = .ok (.ifCond .ne 5, 3) := dq daX11_compare_253_1 7 rfl
theorem dX11_compare_163 : decode cX11_compare 163 = .ok (.aload_n 0, 1) := dq daX11_compare_253_1 8 rfl
theorem dX11_compare_164 : decode cX11_compare 164 = .ok (.bipush 6, 2) := dq daX11_compare_253_1 9 rfl
theorem dX11_compare_166 : decode cX11_compare 166 = .ok (.iload 4, 2) := dq daX11_compare_253_1 10 rfl
theorem dX11_compare_168 : decode cX11_compare 168 = .ok (.iadd, 1) := dq daX11_compare_253_1 11 rfl
theorem dX11_compare_169 : decode cX11_compare 169 = .ok (.iconst 0, 1) := dq daX11_compare_253_1 12 rfl
theorem dX11_compare_170 : decode cX11_compare 170 = .ok (.invokevirtual 160, 3) := dq daX11_compare_253_1 13 rfl
theorem dX11_compare_173 : decode cX11_compare 173 = .ok (.iconst 1, 1) := dq daX11_compare_253_1 14 rfl
theorem dX11_compare_161 : decode cX11_compare 161 = .ok (.iconst 0, 1) := dq daX11_compare_253_1 15 rfl
theorem dX11_compare_113 : decode cX11_compare 113 = .ok (.iconst 0, 1) := dq daX11_compare_253_1 16 rfl
theorem dX11_compare_60 : decode cX11_compare 60 = .ok (.aload_n 0, 1) := dq daX11_compare_253_1 17 rfl
theorem dX11_compare_61 : decode cX11_compare 61 = .ok (.getfield 90, 3) := dq daX11_compare_253_1 18 rfl
theorem dX11_compare_64 : decode cX11_compare 64 = .ok (.aload_n 0, 1) := dq daX11_compare_253_1 19 rfl
theorem dX11_compare_65 : decode cX11_compare 65 = .ok (.getfield 79, 3) := dq daX11_compare_253_1 20 rfl
theorem dX11_compare_68 : decode cX11_compare 68 = .ok (.if_icmp .ge 21, 3) := dq daX11_compare_253_1 21 rfl
theorem dX11_compare_71 : decode cX11_compare 71 = .ok (.aload_n 0, 1) := dq daX11_compare_253_1 22 rfl
theorem dX11_compare_72 : decode cX11_compare 72 = .ok (.getfield 7, 3) := dq daX11_compare_253_1 23 rfl
theorem dX11_compare_75 : decode cX11_compare 75 = .ok (.aload_n 0, 1) := dq daX11_compare_253_1 24 rfl
theorem dX11_compare_76 : decode cX11_compare 76 = .ok (.getfield 90, 3) := dq daX11_compare_253_1 25 rfl
theorem dX11_compare_79 : decode cX11_compare 79 = .ok (.baload, 1) := dq daX11_compare_253_1 26 rfl
theorem dX11_compare_80 : decode cX11_compare 80 = .ok (.bipush 61, 2) := dq daX11_compare_253_1 27 rfl
theorem dX11_compare_82 : decode cX11_compare 82 = .ok (.if_icmp .ne 7, 3) := dq daX11_compare_253_1 28 rfl
theorem dX11_compare_85 : decode cX11_compare 85 = .ok (.iconst 1, 1) := dq daX11_compare_253_1 29 rfl
theorem dX11_compare_86 : decode cX11_compare 86 = .ok (.goto 4, 3) := dq daX11_compare_253_1 30 rfl
theorem dX11_compare_95 : decode cX11_compare 95 = .ok (.aload_n 0, 1) := dq daX11_compare_253_1 31 rfl
def dtX11_compare_253_2 : List (Nat × Jvm.ClassFile.Instr × Nat) := [(96, .dup, 1), (97, .getfield 90, 3), (100, .iconst 1, 1), (101, .iadd, 1), (102, .putfield 90, 3), (125, .iconst 1, 1), (126, .goto 26, 3), (25, .iload_n 1, 1), (26, .bipush 61, 2), (28, .if_icmp .eq 16, 3), (133, .iload_n 1, 1), (134, .bipush 61, 2), (136, .if_icmp .ne 7, 3), (139, .iconst 2, 1), (140, .goto 12, 3), (31, .iload_n 1, 1), (32, .bipush 62, 2), (34, .if_icmp .eq 10, 3), (143, .iload_n 3, 1), (144, .ifCond .eq 7, 3), (151, .iconst 4, 1), (147, .iconst 3, 1), (148, .goto 4, 3), (37, .aload_n 0, 1), (38, .iconst 0, 1), (39, .iload_n 2, 1), (40, .invokevirtual 111, 3), (7, .iconst 0, 1), (174, .ireturn, 1), (162, .ireturn, 1), (114, .ireturn, 1), (43, .ireturn, 1)]
theorem daX11_compare_253_2 : dtX11_compare_253_2.all (dqd cX11_compare) = true := by decide +kernel
theorem dX11_compare_96 : decode cX11_compare 96 = .ok (.dup, 1) := dq daX11_compare_253_2 0 rfl
theorem dX11_compare_97 : decode cX11_compare 97 = .ok (.getfield 90, 3) := dq daX11_compare_253_2 1 rfl
theorem dX11_compare_100 : decode cX11_compare 100 = .ok (.iconst 1, 1) := dq daX11_compare_253_2 2 rfl
theorem dX11_compare_101 : decode cX11_compare 101 = .ok (.iadd, 1) := dq daX11_compare_253_2 3 rfl
theorem dX11_compare_102 : decode cX11_compare 102 = .ok (.putfield 90, 3) := dq daX11_compare_253_2 4 rfl
theorem dX11_compare_125 : decode cX11_compare 125 = .ok (.iconst 1, 1) := dq daX11_compare_253_2 5 rfl
theorem dX11_compare_126 : decode cX11_compare 126 = .ok (.goto 26, 3) := dq daX11_compare_253_2 6 rfl
theorem dX11_compare_25 : decode cX11_compare 25 = .ok (.iload_n 1, 1) := dq daX11_compare_253_2 7 rfl
theorem dX11_compare_26 : decode cX11_compare 26 = .ok (.bipush 61, 2) := dq daX11_compare_253_2 8 rfl
theorem dX11_compare_28 : decode cX11_compare 28 = .ok (.if_icmp .eq 16, 3) := dq daX11_compare_253_2 9 rfl
theorem dX11_compare_133 : decode cX11_compare 133 = .ok (.iload_n 1, 1) := dq daX11_compare_253_2 10 rfl
theorem dX11_compare_134 : decode cX11_compare 134 = .ok (.bipush 61, 2) := dq daX11_compare_253_2 11 rfl
theorem dX11_compare_136 : decode cX11_compare 136 = .ok (.if_icmp .ne 7, 3) := dq daX11_compare_253_2 12 rfl
theorem dX11_compare_139 : decode cX11_compare 139 = .ok (.iconst 2, 1) := dq daX11_compare_253_2 13 rfl
theorem dX11_compare_140 : decode cX11_compare 140 = .ok (.goto 12, 3) := dq daX11_compare_253_2 14 rfl
theorem dX11_compare_31 : decode cX11_compare 31 = .ok (.iload_n 1, 1) := dq daX11_compare_253_2 15 rfl
theorem dX11_compare_32 : decode cX11_compare 32 = .ok (.bipush 62, 2) := dq daX11_compare_253_2 16 rfl
theorem dX11_compare_34 : decode cX11_compare 34 = .ok (.if_icmp .eq 10, 3) := dq daX11_compare_253_2 17 rfl
theorem dX11_compare_143 : decode cX11_compare 143 = .ok (.iload_n 3, 1) := dq daX11_compare_253_2 18 rfl
theorem dX11_compare_144 : decode cX11_compare 144 = .ok (.ifCond .eq 7, 3) := dq daX11_compare_253_2 19 rfl
theorem dX11_compare_151 : decode cX11_compare 151 = .ok (.iconst 4, 1) := dq daX11_compare_253_2 20 rfl
theorem dX11_compare_147 : decode cX11_compare 147 = .ok (.iconst 3, 1) := dq daX11_compare_253_2 21 rfl
theorem dX11_compare_148 : decode cX11_compare 148 = .ok (.goto 4, 3) := dq daX11_compare_253_2 22 rfl
theorem dX11_compare_37 : decode cX11_compare 37 = .ok (.aload_n 0, 1) := dq daX11_compare_253_2 23 rfl
theorem dX11_compare_38 : decode cX11_compare 38 = .ok (.iconst 0, 1) := dq daX11_compare_253_2 24 rfl
theorem dX11_compare_39 : decode cX11_compare 39 = .ok (.iload_n 2, 1) := dq daX11_compare_253_2 25 rfl
theorem dX11_compare_40 : decode cX11_compare 40 = .ok (.invokevirtual 111, 3) := dq daX11_compare_253_2 26 rfl
theorem dX11_compare_7 : decode cX11_compare 7 = .ok (.iconst 0, 1) := dq daX11_compare_253_2 27 rfl
theorem dX11_compare_174 : decode cX11_compare 174 = .ok (.ireturn, 1) := dq daX11_compare_253_2 28 rfl
theorem dX11_compare_162 : decode cX11_compare 162 = .ok (.ireturn, 1) := dq daX11_compare_253_2 29 rfl
theorem dX11_compare_114 : decode cX11_compare 114 = .ok (.ireturn, 1) := dq daX11_compare_253_2 30 rfl
theorem dX11_compare_43 : decode cX11_compare 43 = .ok (.ireturn, 1) := dq daX11_compare_253_2 31 rfl
def dtX11_compare_253_3 : List (Nat × Jvm.ClassFile.Instr × Nat) := [(8, .ireturn, 1)]
theorem daX11_compare_253_3 : dtX11_compare_253_3.all (dqd cX11_compare) = true := by decide +kernel
theorem dX11_compare_8 : decode cX11_compare 8 = .ok (.ireturn, 1) := dq daX11_compare_253_3 0 rfl
