theorem kX11_wordHere_1 {a : Array Value} {s : State} (hts : ∀ w ∈ wsX11_wordHere, w.before a s = true) : (.constantLong RX11 122 (470020945000) : Cond).before a s = true := kw (A := ixX11_wordHere) wt532 hts (by decide +kernel)
theorem kX11_wordHere_2 {a : Array Value} {s : State} (hts : ∀ w ∈ wsX11_wordHere, w.before a s = true) : (.constantLong RX11 124 (1752135026) : Cond).before a s = true := kw (A := ixX11_wordHere) wt533 hts (by decide +kernel)
theorem kX11_wordHere_3 {a : Array Value} {s : State} (hts : ∀ w ∈ wsX11_wordHere, w.before a s = true) : (.constantLong RX11 126 (6578553) : Cond).before a s = true := kw (A := ixX11_wordHere) wt534 hts (by decide +kernel)
theorem kX11_wordHere_4 {a : Array Value} {s : State} (hts : ∀ w ∈ wsX11_wordHere, w.before a s = true) : (.constantLong RX11 128 (114784769370228) : Cond).before a s = true := kw (A := ixX11_wordHere) wt535 hts (by decide +kernel)
theorem kX11_wordHere_5 {a : Array Value} {s : State} (hts : ∀ w ∈ wsX11_wordHere, w.before a s = true) : (.constantLong RX11 130 (7566702) : Cond).before a s = true := kw (A := ixX11_wordHere) wt536 hts (by decide +kernel)
theorem kX11_wordHere_6 {a : Array Value} {s : State} (hts : ∀ w ∈ wsX11_wordHere, w.before a s = true) : (.constantLong RX11 132 (1668246628) : Cond).before a s = true := kw (A := ixX11_wordHere) wt537 hts (by decide +kernel)
theorem kX11_wordHere_7 {a : Array Value} {s : State} (hts : ∀ w ∈ wsX11_wordHere, w.before a s = true) : (.constantLong RX11 134 (1852793957) : Cond).before a s = true := kw (A := ixX11_wordHere) wt538 hts (by decide +kernel)
theorem kX11_wordHere_8 {a : Array Value} {s : State} (hts : ∀ w ∈ wsX11_wordHere, w.before a s = true) : (.constantLong RX11 136 (431416635507) : Cond).before a s = true := kw (A := ixX11_wordHere) wt539 hts (by decide +kernel)
theorem kX11_wordHere_9 {a : Array Value} {s : State} (hts : ∀ w ∈ wsX11_wordHere, w.before a s = true) : (.constantLong RX11 138 (1717922932) : Cond).before a s = true := kw (A := ixX11_wordHere) wt540 hts (by decide +kernel)
theorem kX11_wordHere_10 {a : Array Value} {s : State} (hts : ∀ w ∈ wsX11_wordHere, w.before a s = true) : (.constantLong RX11 140 (1935764596) : Cond).before a s = true := kw (A := ixX11_wordHere) wt541 hts (by decide +kernel)
theorem kX11_wordHere_11 {a : Array Value} {s : State} (hts : ∀ w ∈ wsX11_wordHere, w.before a s = true) : (.constantLong RX11 142 (1735356005) : Cond).before a s = true := kw (A := ixX11_wordHere) wt542 hts (by decide +kernel)
def dtX11_wordHere_244_0 : List (Nat × Jvm.ClassFile.Instr × Nat) := [(0, .aload_n 0, 1), (1, .ldc2_w 122, 3), (4, .invokevirtual 101, 3), (7, .ifCond .eq 5, 3), (12, .aload_n 0, 1), (13, .ldc2_w 124, 3), (16, .invokevirtual 101, 3), (19, .ifCond .eq 5, 3), (24, .aload_n 0, 1), (25, .ldc2_w 126, 3), (28, .invokevirtual 101, 3), (31, .ifCond .eq 5, 3), (36, .aload_n 0, 1), (37, .ldc2_w 128, 3), (40, .invokevirtual 101, 3), (43, .ifCond .eq 5, 3), (48, .aload_n 0, 1), (49, .ldc2_w 130, 3), (52, .invokevirtual 101, 3), (55, .ifCond .eq 5, 3), (60, .aload_n 0, 1), (61, .ldc2_w 132, 3), (64, .invokevirtual 101, 3), (67, .ifCond .eq 5, 3), (72, .aload_n 0, 1), (73, .ldc2_w 134, 3), (76, .invokevirtual 101, 3), (79, .ifCond .eq 6, 3), (85, .aload_n 0, 1), (86, .ldc2_w 136, 3), (89, .invokevirtual 101, 3), (92, .ifCond .eq 6, 3)]
theorem daX11_wordHere_244_0 : dtX11_wordHere_244_0.all (dqd cX11_wordHere) = true := by decide +kernel
theorem dX11_wordHere_0 : decode cX11_wordHere 0 = .ok (.aload_n 0, 1) := dq daX11_wordHere_244_0 0 rfl
theorem dX11_wordHere_1 : decode cX11_wordHere 1 = .ok (.ldc2_w 122, 3) := dq daX11_wordHere_244_0 1 rfl
theorem dX11_wordHere_4 : decode cX11_wordHere 4 = .ok (.invokevirtual 101, 3) := dq daX11_wordHere_244_0 2 rfl
theorem dX11_wordHere_7 : decode cX11_wordHere 7 = .ok (.ifCond .eq 5, 3) := dq daX11_wordHere_244_0 3 rfl
theorem dX11_wordHere_12 : decode cX11_wordHere 12 = .ok (.aload_n 0, 1) := dq daX11_wordHere_244_0 4 rfl
theorem dX11_wordHere_13 : decode cX11_wordHere 13 = .ok (.ldc2_w 124, 3) := dq daX11_wordHere_244_0 5 rfl
theorem dX11_wordHere_16 : decode cX11_wordHere 16 = .ok (.invokevirtual 101, 3) := dq daX11_wordHere_244_0 6 rfl
theorem dX11_wordHere_19 : decode cX11_wordHere 19 = .ok (.ifCond .eq 5, 3) := dq daX11_wordHere_244_0 7 rfl
theorem dX11_wordHere_24 : decode cX11_wordHere 24 = .ok (.aload_n 0, 1) := dq daX11_wordHere_244_0 8 rfl
theorem dX11_wordHere_25 : decode cX11_wordHere 25 = .ok (.ldc2_w 126, 3) := dq daX11_wordHere_244_0 9 rfl
theorem dX11_wordHere_28 : decode cX11_wordHere 28 = .ok (.invokevirtual 101, 3) := dq daX11_wordHere_244_0 10 rfl
theorem dX11_wordHere_31 : decode cX11_wordHere 31 = .ok (.ifCond .eq 5, 3) := dq daX11_wordHere_244_0 11 rfl
theorem dX11_wordHere_36 : decode cX11_wordHere 36 = .ok (.aload_n 0, 1) := dq daX11_wordHere_244_0 12 rfl
theorem dX11_wordHere_37 : decode cX11_wordHere 37 = .ok (.ldc2_w 128, 3) := dq daX11_wordHere_244_0 13 rfl
theorem dX11_wordHere_40 : decode cX11_wordHere 40 = .ok (.invokevirtual 101, 3) := dq daX11_wordHere_244_0 14 rfl
theorem dX11_wordHere_43 : decode cX11_wordHere 43 = .ok (.ifCond .eq 5, 3) := dq daX11_wordHere_244_0 15 rfl
theorem dX11_wordHere_48 : decode cX11_wordHere 48 = .ok (.aload_n 0, 1) := dq daX11_wordHere_244_0 16 rfl
theorem dX11_wordHere_49 : decode cX11_wordHere 49 = .ok (.ldc2_w 130, 3) := dq daX11_wordHere_244_0 17 rfl
theorem dX11_wordHere_52 : decode cX11_wordHere 52 = .ok (.invokevirtual 101, 3) := dq daX11_wordHere_244_0 18 rfl
theorem dX11_wordHere_55 : decode cX11_wordHere 55 = .ok (.ifCond .eq 5, 3) := dq daX11_wordHere_244_0 19 rfl
theorem dX11_wordHere_60 : decode cX11_wordHere 60 = .ok (.aload_n 0, 1) := dq daX11_wordHere_244_0 20 rfl
theorem dX11_wordHere_61 : decode cX11_wordHere 61 = .ok (.ldc2_w 132, 3) := dq daX11_wordHere_244_0 21 rfl
theorem dX11_wordHere_64 : decode cX11_wordHere 64 = .ok (.invokevirtual 101, 3) := dq daX11_wordHere_244_0 22 rfl
theorem dX11_wordHere_67 : decode cX11_wordHere 67 = .ok (.ifCond .eq 5, 3) := dq daX11_wordHere_244_0 23 rfl
theorem dX11_wordHere_72 : decode cX11_wordHere 72 = .ok (.aload_n 0, 1) := dq daX11_wordHere_244_0 24 rfl
theorem dX11_wordHere_73 : decode cX11_wordHere 73 = .ok (.ldc2_w 134, 3) := dq daX11_wordHere_244_0 25 rfl
theorem dX11_wordHere_76 : decode cX11_wordHere 76 = .ok (.invokevirtual 101, 3) := dq daX11_wordHere_244_0 26 rfl
theorem dX11_wordHere_79 : decode cX11_wordHere 79 = .ok (.ifCond .eq 6, 3) := dq daX11_wordHere_244_0 27 rfl
theorem dX11_wordHere_85 : decode cX11_wordHere 85 = .ok (.aload_n 0, 1) := dq daX11_wordHere_244_0 28 rfl
theorem dX11_wordHere_86 : decode cX11_wordHere 86 = .ok (.ldc2_w 136, 3) := dq daX11_wordHere_244_0 29 rfl
theorem dX11_wordHere_89 : decode cX11_wordHere 89 = .ok (.invokevirtual 101, 3) := dq daX11_wordHere_244_0 30 rfl
theorem dX11_wordHere_92 : decode cX11_wordHere 92 = .ok (.ifCond .eq 6, 3) := dq daX11_wordHere_244_0 31 rfl
def dtX11_wordHere_244_1 : List (Nat × Jvm.ClassFile.Instr × Nat) := [(98, .aload_n 0, 1), (99, .ldc2_w 138, 3), (102, .invokevirtual 101, 3), (105, .ifCond .eq 6, 3), (111, .aload_n 0, 1), (112, .ldc2_w 140, 3), (115, .invokevirtual 101, 3), (118, .ifCond .eq 8, 3), (126, .aload_n 0, 1), (127, .ldc2_w 142, 3), (130, .invokevirtual 101, 3), (133, .ifCond .eq 8, 3), (141, .iconst (-1), 1), (136, .bipush 10, 2), (138, .goto 4, 3), (121, .bipush 9, 2), (123, .goto 19, 3), (108, .bipush 8, 2), (95, .bipush 7, 2), (82, .bipush 6, 2), (70, .iconst 5, 1), (58, .iconst 4, 1), (46, .iconst 3, 1), (34, .iconst 2, 1), (22, .iconst 1, 1), (10, .iconst 0, 1), (142, .ireturn, 1), (110, .ireturn, 1), (97, .ireturn, 1), (84, .ireturn, 1), (71, .ireturn, 1), (59, .ireturn, 1)]
theorem daX11_wordHere_244_1 : dtX11_wordHere_244_1.all (dqd cX11_wordHere) = true := by decide +kernel
theorem dX11_wordHere_98 : decode cX11_wordHere 98 = .ok (.aload_n 0, 1) := dq daX11_wordHere_244_1 0 rfl
theorem dX11_wordHere_99 : decode cX11_wordHere 99 = .ok (.ldc2_w 138, 3) := dq daX11_wordHere_244_1 1 rfl
theorem dX11_wordHere_102 : decode cX11_wordHere 102 = .ok (.invokevirtual 101, 3) := dq daX11_wordHere_244_1 2 rfl
theorem dX11_wordHere_105 : decode cX11_wordHere 105 = .ok (.ifCond .eq 6, 3) := dq daX11_wordHere_244_1 3 rfl
theorem dX11_wordHere_111 : decode cX11_wordHere 111 = .ok (.aload_n 0, 1) := dq daX11_wordHere_244_1 4 rfl
theorem dX11_wordHere_112 : decode cX11_wordHere 112 = .ok (.ldc2_w 140, 3) := dq daX11_wordHere_244_1 5 rfl
theorem dX11_wordHere_115 : decode cX11_wordHere 115 = .ok (.invokevirtual 101, 3) := dq daX11_wordHere_244_1 6 rfl
theorem dX11_wordHere_118 : decode cX11_wordHere 118 = .ok (.ifCond .eq 8, 3) := dq daX11_wordHere_244_1 7 rfl
theorem dX11_wordHere_126 : decode cX11_wordHere 126 = .ok (.aload_n 0, 1) := dq daX11_wordHere_244_1 8 rfl
theorem dX11_wordHere_127 : decode cX11_wordHere 127 = .ok (.ldc2_w 142, 3) := dq daX11_wordHere_244_1 9 rfl
theorem dX11_wordHere_130 : decode cX11_wordHere 130 = .ok (.invokevirtual 101, 3) := dq daX11_wordHere_244_1 10 rfl
theorem dX11_wordHere_133 : decode cX11_wordHere 133 = .ok (.ifCond .eq 8, 3) := dq daX11_wordHere_244_1 11 rfl
theorem dX11_wordHere_141 : decode cX11_wordHere 141 = .ok (.iconst (-1), 1) := dq daX11_wordHere_244_1 12 rfl
theorem dX11_wordHere_136 : decode cX11_wordHere 136 = .ok (.bipush 10, 2) := dq daX11_wordHere_244_1 13 rfl
theorem dX11_wordHere_138 : decode cX11_wordHere 138 = .ok (.goto 4, 3) := dq daX11_wordHere_244_1 14 rfl
theorem dX11_wordHere_121 : decode cX11_wordHere 121 = .ok (.bipush 9, 2) := dq daX11_wordHere_244_1 15 rfl
theorem dX11_wordHere_123 : decode cX11_wordHere 123 = .ok (.goto 19, 3) := dq daX11_wordHere_244_1 16 rfl
theorem dX11_wordHere_108 : decode cX11_wordHere 108 = .ok (.bipush 8, 2) := dq daX11_wordHere_244_1 17 rfl
theorem dX11_wordHere_95 : decode cX11_wordHere 95 = .ok (.bipush 7, 2) := dq daX11_wordHere_244_1 18 rfl
theorem dX11_wordHere_82 : decode cX11_wordHere 82 = .ok (.bipush 6, 2) := dq daX11_wordHere_244_1 19 rfl
theorem dX11_wordHere_70 : decode cX11_wordHere 70 = .ok (.iconst 5, 1) := dq daX11_wordHere_244_1 20 rfl
theorem dX11_wordHere_58 : decode cX11_wordHere 58 = .ok (.iconst 4, 1) := dq daX11_wordHere_244_1 21 rfl
theorem dX11_wordHere_46 : decode cX11_wordHere 46 = .ok (.iconst 3, 1) := dq daX11_wordHere_244_1 22 rfl
theorem dX11_wordHere_34 : decode cX11_wordHere 34 = .ok (.iconst 2, 1) := dq daX11_wordHere_244_1 23 rfl
theorem dX11_wordHere_22 : decode cX11_wordHere 22 = .ok (.iconst 1, 1) := dq daX11_wordHere_244_1 24 rfl
theorem dX11_wordHere_10 : decode cX11_wordHere 10 = .ok (.iconst 0, 1) := dq daX11_wordHere_244_1 25 rfl
theorem dX11_wordHere_142 : decode cX11_wordHere 142 = .ok (.ireturn, 1) := dq daX11_wordHere_244_1 26 rfl
theorem dX11_wordHere_110 : decode cX11_wordHere 110 = .ok (.ireturn, 1) := dq daX11_wordHere_244_1 27 rfl
theorem dX11_wordHere_97 : decode cX11_wordHere 97 = .ok (.ireturn, 1) := dq daX11_wordHere_244_1 28 rfl
theorem dX11_wordHere_84 : decode cX11_wordHere 84 = .ok (.ireturn, 1) := dq daX11_wordHere_244_1 29 rfl
theorem dX11_wordHere_71 : decode cX11_wordHere 71 = .ok (.ireturn, 1) := dq daX11_wordHere_244_1 30 rfl
theorem dX11_wordHere_59 : decode cX11_wordHere 59 = .ok (.ireturn, 1) := dq daX11_wordHere_244_1 31 rfl
def dtX11_wordHere_244_2 : List (Nat × Jvm.ClassFile.Instr × Nat) := [(47, .ireturn, 1), (35, .ireturn, 1), (23, .ireturn, 1), (11, .ireturn, 1)]
theorem daX11_wordHere_244_2 : dtX11_wordHere_244_2.all (dqd cX11_wordHere) = true := by decide +kernel
theorem dX11_wordHere_47 : decode cX11_wordHere 47 = .ok (.ireturn, 1) := dq daX11_wordHere_244_2 0 rfl
theorem dX11_wordHere_35 : decode cX11_wordHere 35 = .ok (.ireturn, 1) := dq daX11_wordHere_244_2 1 rfl
theorem dX11_wordHere_23 : decode cX11_wordHere 23 = .ok (.ireturn, 1) := dq daX11_wordHere_244_2 2 rfl
theorem dX11_wordHere_11 : decode cX11_wordHere 11 = .ok (.ireturn, 1) := dq daX11_wordHere_244_2 3 rfl
