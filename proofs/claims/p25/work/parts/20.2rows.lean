theorem kX11_warmer_1 {a : Array Value} {s : State} (hts : ∀ w ∈ wsX11_warmer, w.before a s = true) : (.constantLong RX11 289 (99999) : Cond).before a s = true := kw (A := ixX11_warmer) wt612 hts (by decide +kernel)
theorem kX11_warmer_2 {a : Array Value} {s : State} (hts : ∀ w ∈ wsX11_warmer, w.before a s = true) : (.fieldLink RX11 39 "SnowMulesModel" "said" "[I" : Cond).before a s = true := kw (A := ixX11_warmer) wt153 hts (by decide +kernel)
theorem kX11_warmer_3 {a : Array Value} {s : State} (hts : ∀ w ∈ wsX11_warmer, w.before a s = true) : (.fieldLink RX11 396 "SnowMulesModel" "goMore" "I" : Cond).before a s = true := kw (A := ixX11_warmer) wt1011 hts (by decide +kernel)
theorem kX11_warmer_4 {a : Array Value} {s : State} (hts : ∀ w ∈ wsX11_warmer, w.before a s = true) : (.fieldLink RX11 384 "SnowMulesModel" "goDrops" "I" : Cond).before a s = true := kw (A := ixX11_warmer) wt995 hts (by decide +kernel)
theorem kX11_nights_1 {a : Array Value} {s : State} (hts : ∀ w ∈ wsX11_nights, w.before a s = true) : (.fieldLink RX11 39 "SnowMulesModel" "said" "[I" : Cond).before a s = true := kw (A := ixX11_nights) wt153 hts (by decide +kernel)
theorem kX11_nights_2 {a : Array Value} {s : State} (hts : ∀ w ∈ wsX11_nights, w.before a s = true) : (.constantLong RX11 289 (99999) : Cond).before a s = true := kw (A := ixX11_nights) wt612 hts (by decide +kernel)
theorem kX11_nights_3 {a : Array Value} {s : State} (hts : ∀ w ∈ wsX11_nights, w.before a s = true) : (.constantLong RX11 467 (20) : Cond).before a s = true := kw (A := ixX11_nights) wt1346 hts (by decide +kernel)
theorem kX11_nights_4 {a : Array Value} {s : State} (hts : ∀ w ∈ wsX11_nights, w.before a s = true) : (.constantLong RX11 437 (2) : Cond).before a s = true := kw (A := ixX11_nights) wt1180 hts (by decide +kernel)
theorem kX11_nights_5 {a : Array Value} {s : State} (hts : ∀ w ∈ wsX11_nights, w.before a s = true) : (.fieldLink RX11 387 "SnowMulesModel" "goHour" "I" : Cond).before a s = true := kw (A := ixX11_nights) wt996 hts (by decide +kernel)
theorem kX11_nights_6 {a : Array Value} {s : State} (hts : ∀ w ∈ wsX11_nights, w.before a s = true) : (.fieldLink RX11 381 "SnowMulesModel" "goNode" "I" : Cond).before a s = true := kw (A := ixX11_nights) wt1008 hts (by decide +kernel)
theorem kX11_nights_7 {a : Array Value} {s : State} (hts : ∀ w ∈ wsX11_nights, w.before a s = true) : (.fieldLink RX11 384 "SnowMulesModel" "goDrops" "I" : Cond).before a s = true := kw (A := ixX11_nights) wt995 hts (by decide +kernel)
theorem kX11_nights_8 {a : Array Value} {s : State} (hts : ∀ w ∈ wsX11_nights, w.before a s = true) : (.fieldLink RX11 390 "SnowMulesModel" "goFelt" "I" : Cond).before a s = true := kw (A := ixX11_nights) wt1009 hts (by decide +kernel)
theorem kX11_nights_9 {a : Array Value} {s : State} (hts : ∀ w ∈ wsX11_nights, w.before a s = true) : (.fieldLink RX11 393 "SnowMulesModel" "goSalt" "I" : Cond).before a s = true := kw (A := ixX11_nights) wt1010 hts (by decide +kernel)
theorem kX11_nights_10 {a : Array Value} {s : State} (hts : ∀ w ∈ wsX11_nights, w.before a s = true) : (.constantLong RX11 272 (1000) : Cond).before a s = true := kw (A := ixX11_nights) wt208 hts (by decide +kernel)
theorem iX11_warmer_X11 : ∀ w ∈ wsX110, w ∈ wsX11_warmer := inW (A := ixX11_warmer) uwX11 (by decide +kernel)
theorem iX11_nights_X11 : ∀ w ∈ wsX110, w ∈ wsX11_nights := inW (A := ixX11_nights) uwX11 (by decide +kernel)
def dtX11_warmer_20_0 : List (Nat × Jvm.ClassFile.Instr × Nat) := [(0, .aload_n 0, 1), (1, .iload_n 1, 1), (2, .iload_n 2, 1), (3, .iload_n 3, 1), (4, .iload 4, 2), (6, .iload 5, 2), (8, .invokevirtual 403, 3), (11, .ifCond .eq 16, 3), (27, .iconst (-1), 1), (28, .ireturn, 1), (14, .iload 6, 2), (16, .i2l, 1), (17, .lconst 0, 1), (18, .ldc2_w 289, 3), (21, .invokestatic 118, 3), (24, .ifCond .ne 5, 3), (29, .sipush 9999, 3), (32, .istore 7, 2), (34, .iload 7, 2), (36, .ifCond .lt 80, 3), (39, .aload_n 0, 1), (40, .aload_n 0, 1), (41, .getfield 39, 3), (44, .bipush 8, 2), (46, .iaload, 1), (47, .iload_n 3, 1), (48, .iload_n 2, 1), (49, .iload 4, 2), (51, .iload 5, 2), (53, .invokevirtual 407, 3), (56, .aload_n 0, 1), (57, .iload 7, 2)]
theorem daX11_warmer_20_0 : dtX11_warmer_20_0.all (dqd cX11_warmer) = true := by decide +kernel
theorem dX11_warmer_0 : decode cX11_warmer 0 = .ok (.aload_n 0, 1) := dq daX11_warmer_20_0 0 rfl
theorem dX11_warmer_1 : decode cX11_warmer 1 = .ok (.iload_n 1, 1) := dq daX11_warmer_20_0 1 rfl
theorem dX11_warmer_2 : decode cX11_warmer 2 = .ok (.iload_n 2, 1) := dq daX11_warmer_20_0 2 rfl
theorem dX11_warmer_3 : decode cX11_warmer 3 = .ok (.iload_n 3, 1) := dq daX11_warmer_20_0 3 rfl
theorem dX11_warmer_4 : decode cX11_warmer 4 = .ok (.iload 4, 2) := dq daX11_warmer_20_0 4 rfl
theorem dX11_warmer_6 : decode cX11_warmer 6 = .ok (.iload 5, 2) := dq daX11_warmer_20_0 5 rfl
theorem dX11_warmer_8 : decode cX11_warmer 8 = .ok (.invokevirtual 403, 3) := dq daX11_warmer_20_0 6 rfl
theorem dX11_warmer_11 : decode cX11_warmer 11 = .ok (.ifCond .eq 16, 3) := dq daX11_warmer_20_0 7 rfl
theorem dX11_warmer_27 : decode cX11_warmer 27 = .ok (.iconst (-1), 1) := dq daX11_warmer_20_0 8 rfl
theorem dX11_warmer_28 : decode cX11_warmer 28 = .ok (.ireturn, 1) := dq daX11_warmer_20_0 9 rfl
theorem dX11_warmer_14 : decode cX11_warmer 14 = .ok (.iload 6, 2) := dq daX11_warmer_20_0 10 rfl
theorem dX11_warmer_16 : decode cX11_warmer 16 = .ok (.i2l, 1) := dq daX11_warmer_20_0 11 rfl
theorem dX11_warmer_17 : decode cX11_warmer 17 = .ok (.lconst 0, 1) := dq daX11_warmer_20_0 12 rfl
theorem dX11_warmer_18 : decode cX11_warmer 18 = .ok (.ldc2_w 289, 3) := dq daX11_warmer_20_0 13 rfl
theorem dX11_warmer_21 : decode cX11_warmer 21 = .ok (.invokestatic 118, 3) := dq daX11_warmer_20_0 14 rfl
theorem dX11_warmer_24 : decode cX11_warmer 24 = .ok (.ifCond .ne 5, 3) := dq daX11_warmer_20_0 15 rfl
theorem dX11_warmer_29 : decode cX11_warmer 29 = .ok (.sipush 9999, 3) := dq daX11_warmer_20_0 16 rfl
theorem dX11_warmer_32 : decode cX11_warmer 32 = .ok (.istore 7, 2) := dq daX11_warmer_20_0 17 rfl
theorem dX11_warmer_34 : decode cX11_warmer 34 = .ok (.iload 7, 2) := dq daX11_warmer_20_0 18 rfl
theorem dX11_warmer_36 : decode cX11_warmer 36 = .ok (.ifCond .lt 80, 3) := dq daX11_warmer_20_0 19 rfl
theorem dX11_warmer_39 : decode cX11_warmer 39 = .ok (.aload_n 0, 1) := dq daX11_warmer_20_0 20 rfl
theorem dX11_warmer_40 : decode cX11_warmer 40 = .ok (.aload_n 0, 1) := dq daX11_warmer_20_0 21 rfl
theorem dX11_warmer_41 : decode cX11_warmer 41 = .ok (.getfield 39, 3) := dq daX11_warmer_20_0 22 rfl
theorem dX11_warmer_44 : decode cX11_warmer 44 = .ok (.bipush 8, 2) := dq daX11_warmer_20_0 23 rfl
theorem dX11_warmer_46 : decode cX11_warmer 46 = .ok (.iaload, 1) := dq daX11_warmer_20_0 24 rfl
theorem dX11_warmer_47 : decode cX11_warmer 47 = .ok (.iload_n 3, 1) := dq daX11_warmer_20_0 25 rfl
theorem dX11_warmer_48 : decode cX11_warmer 48 = .ok (.iload_n 2, 1) := dq daX11_warmer_20_0 26 rfl
theorem dX11_warmer_49 : decode cX11_warmer 49 = .ok (.iload 4, 2) := dq daX11_warmer_20_0 27 rfl
theorem dX11_warmer_51 : decode cX11_warmer 51 = .ok (.iload 5, 2) := dq daX11_warmer_20_0 28 rfl
theorem dX11_warmer_53 : decode cX11_warmer 53 = .ok (.invokevirtual 407, 3) := dq daX11_warmer_20_0 29 rfl
theorem dX11_warmer_56 : decode cX11_warmer 56 = .ok (.aload_n 0, 1) := dq daX11_warmer_20_0 30 rfl
theorem dX11_warmer_57 : decode cX11_warmer 57 = .ok (.iload 7, 2) := dq daX11_warmer_20_0 31 rfl
def dtX11_warmer_20_1 : List (Nat × Jvm.ClassFile.Instr × Nat) := [(59, .putfield 396, 3), (62, .iconst 0, 1), (63, .istore 8, 2), (65, .iload 8, 2), (67, .aload_n 0, 1), (68, .getfield 39, 3), (71, .bipush 9, 2), (73, .iaload, 1), (74, .if_icmp .ge 24, 3), (77, .aload_n 0, 1), (78, .iload_n 1, 1), (79, .aload_n 0, 1), (80, .getfield 39, 3), (83, .bipush 10, 2), (85, .iload 8, 2), (87, .iadd, 1), (88, .iaload, 1), (89, .invokevirtual 410, 3), (92, .iinc 8 1, 3), (95, .goto (-30), 3), (98, .aload_n 0, 1), (99, .getfield 384, 3), (102, .iload 6, 2), (104, .if_icmp .lt 6, 3), (110, .iinc 7 (-1), 3), (113, .goto (-79), 3), (107, .iload 7, 2), (109, .ireturn, 1), (116, .bipush (-2), 2), (118, .ireturn, 1)]
theorem daX11_warmer_20_1 : dtX11_warmer_20_1.all (dqd cX11_warmer) = true := by decide +kernel
theorem dX11_warmer_59 : decode cX11_warmer 59 = .ok (.putfield 396, 3) := dq daX11_warmer_20_1 0 rfl
theorem dX11_warmer_62 : decode cX11_warmer 62 = .ok (.iconst 0, 1) := dq daX11_warmer_20_1 1 rfl
theorem dX11_warmer_63 : decode cX11_warmer 63 = .ok (.istore 8, 2) := dq daX11_warmer_20_1 2 rfl
theorem dX11_warmer_65 : decode cX11_warmer 65 = .ok (.iload 8, 2) := dq daX11_warmer_20_1 3 rfl
theorem dX11_warmer_67 : decode cX11_warmer 67 = .ok (.aload_n 0, 1) := dq daX11_warmer_20_1 4 rfl
theorem dX11_warmer_68 : decode cX11_warmer 68 = .ok (.getfield 39, 3) := dq daX11_warmer_20_1 5 rfl
theorem dX11_warmer_71 : decode cX11_warmer 71 = .ok (.bipush 9, 2) := dq daX11_warmer_20_1 6 rfl
theorem dX11_warmer_73 : decode cX11_warmer 73 = .ok (.iaload, 1) := dq daX11_warmer_20_1 7 rfl
theorem dX11_warmer_74 : decode cX11_warmer 74 = .ok (.if_icmp .ge 24, 3) := dq daX11_warmer_20_1 8 rfl
theorem dX11_warmer_77 : decode cX11_warmer 77 = .ok (.aload_n 0, 1) := dq daX11_warmer_20_1 9 rfl
theorem dX11_warmer_78 : decode cX11_warmer 78 = .ok (.iload_n 1, 1) := dq daX11_warmer_20_1 10 rfl
theorem dX11_warmer_79 : decode cX11_warmer 79 = .ok (.aload_n 0, 1) := dq daX11_warmer_20_1 11 rfl
theorem dX11_warmer_80 : decode cX11_warmer 80 = .ok (.getfield 39, 3) := dq daX11_warmer_20_1 12 rfl
theorem dX11_warmer_83 : decode cX11_warmer 83 = .ok (.bipush 10, 2) := dq daX11_warmer_20_1 13 rfl
theorem dX11_warmer_85 : decode cX11_warmer 85 = .ok (.iload 8, 2) := dq daX11_warmer_20_1 14 rfl
theorem dX11_warmer_87 : decode cX11_warmer 87 = .ok (.iadd, 1) := dq daX11_warmer_20_1 15 rfl
theorem dX11_warmer_88 : decode cX11_warmer 88 = .ok (.iaload, 1) := dq daX11_warmer_20_1 16 rfl
theorem dX11_warmer_89 : decode cX11_warmer 89 = .ok (.invokevirtual 410, 3) := dq daX11_warmer_20_1 17 rfl
theorem dX11_warmer_92 : decode cX11_warmer 92 = .ok (.iinc 8 1, 3) := dq daX11_warmer_20_1 18 rfl
theorem dX11_warmer_95 : decode cX11_warmer 95 = .ok (.goto (-30), 3) := dq daX11_warmer_20_1 19 rfl
theorem dX11_warmer_98 : decode cX11_warmer 98 = .ok (.aload_n 0, 1) := dq daX11_warmer_20_1 20 rfl
theorem dX11_warmer_99 : decode cX11_warmer 99 = .ok (.getfield 384, 3) := dq daX11_warmer_20_1 21 rfl
theorem dX11_warmer_102 : decode cX11_warmer 102 = .ok (.iload 6, 2) := dq daX11_warmer_20_1 22 rfl
theorem dX11_warmer_104 : decode cX11_warmer 104 = .ok (.if_icmp .lt 6, 3) := dq daX11_warmer_20_1 23 rfl
theorem dX11_warmer_110 : decode cX11_warmer 110 = .ok (.iinc 7 (-1), 3) := dq daX11_warmer_20_1 24 rfl
theorem dX11_warmer_113 : decode cX11_warmer 113 = .ok (.goto (-79), 3) := dq daX11_warmer_20_1 25 rfl
theorem dX11_warmer_107 : decode cX11_warmer 107 = .ok (.iload 7, 2) := dq daX11_warmer_20_1 26 rfl
theorem dX11_warmer_109 : decode cX11_warmer 109 = .ok (.ireturn, 1) := dq daX11_warmer_20_1 27 rfl
theorem dX11_warmer_116 : decode cX11_warmer 116 = .ok (.bipush (-2), 2) := dq daX11_warmer_20_1 28 rfl
theorem dX11_warmer_118 : decode cX11_warmer 118 = .ok (.ireturn, 1) := dq daX11_warmer_20_1 29 rfl
def dtX11_nights_20_0 : List (Nat × Jvm.ClassFile.Instr × Nat) := [(0, .aload_n 0, 1), (1, .iload_n 1, 1), (2, .invokevirtual 363, 3), (5, .ifCond .eq 59, 3), (64, .iconst (-1), 1), (65, .ireturn, 1), (8, .aload_n 0, 1), (9, .iload_n 2, 1), (10, .invokevirtual 280, 3), (13, .ifCond .eq 51, 3), (16, .aload_n 0, 1), (17, .getfield 39, 3), (20, .bipush 8, 2), (22, .iaload, 1), (23, .ifCond .lt 41, 3), (26, .iload_n 3, 1), (27, .i2l, 1), (28, .lconst 0, 1), (29, .ldc2_w 289, 3), (32, .invokestatic 118, 3), (35, .ifCond .eq 29, 3), (38, .iload 4, 2), (40, .i2l, 1), (41, .lconst 1, 1), (42, .ldc2_w 467, 3), (45, .invokestatic 118, 3), (48, .ifCond .eq 16, 3), (51, .iload 5, 2), (53, .i2l, 1), (54, .lconst 0, 1), (55, .ldc2_w 437, 3), (58, .invokestatic 118, 3)]
theorem daX11_nights_20_0 : dtX11_nights_20_0.all (dqd cX11_nights) = true := by decide +kernel
theorem dX11_nights_0 : decode cX11_nights 0 = .ok (.aload_n 0, 1) := dq daX11_nights_20_0 0 rfl
theorem dX11_nights_1 : decode cX11_nights 1 = .ok (.iload_n 1, 1) := dq daX11_nights_20_0 1 rfl
theorem dX11_nights_2 : decode cX11_nights 2 = .ok (.invokevirtual 363, 3) := dq daX11_nights_20_0 2 rfl
theorem dX11_nights_5 : decode cX11_nights 5 = .ok (.ifCond .eq 59, 3) := dq daX11_nights_20_0 3 rfl
theorem dX11_nights_64 : decode cX11_nights 64 = .ok (.iconst (-1), 1) := dq daX11_nights_20_0 4 rfl
theorem dX11_nights_65 : decode cX11_nights 65 = .ok (.ireturn, 1) := dq daX11_nights_20_0 5 rfl
theorem dX11_nights_8 : decode cX11_nights 8 = .ok (.aload_n 0, 1) := dq daX11_nights_20_0 6 rfl
theorem dX11_nights_9 : decode cX11_nights 9 = .ok (.iload_n 2, 1) := dq daX11_nights_20_0 7 rfl
theorem dX11_nights_10 : decode cX11_nights 10 = .ok (.invokevirtual 280, 3) := dq daX11_nights_20_0 8 rfl
theorem dX11_nights_13 : decode cX11_nights 13 = .ok (.ifCond .eq 51, 3) := dq daX11_nights_20_0 9 rfl
theorem dX11_nights_16 : decode cX11_nights 16 = .ok (.aload_n 0, 1) := dq daX11_nights_20_0 10 rfl
theorem dX11_nights_17 : decode cX11_nights 17 = .ok (.getfield 39, 3) := dq daX11_nights_20_0 11 rfl
theorem dX11_nights_20 : decode cX11_nights 20 = .ok (.bipush 8, 2) := dq daX11_nights_20_0 12 rfl
theorem dX11_nights_22 : decode cX11_nights 22 = .ok (.iaload, 1) := dq daX11_nights_20_0 13 rfl
theorem dX11_nights_23 : decode cX11_nights 23 = .ok (.ifCond .lt 41, 3) := dq daX11_nights_20_0 14 rfl
theorem dX11_nights_26 : decode cX11_nights 26 = .ok (.iload_n 3, 1) := dq daX11_nights_20_0 15 rfl
theorem dX11_nights_27 : decode cX11_nights 27 = .ok (.i2l, 1) := dq daX11_nights_20_0 16 rfl
theorem dX11_nights_28 : decode cX11_nights 28 = .ok (.lconst 0, 1) := dq daX11_nights_20_0 17 rfl
theorem dX11_nights_29 : decode cX11_nights 29 = .ok (.ldc2_w 289, 3) := dq daX11_nights_20_0 18 rfl
theorem dX11_nights_32 : decode cX11_nights 32 = .ok (.invokestatic 118, 3) := dq daX11_nights_20_0 19 rfl
theorem dX11_nights_35 : decode cX11_nights 35 = .ok (.ifCond .eq 29, 3) := dq daX11_nights_20_0 20 rfl
theorem dX11_nights_38 : decode cX11_nights 38 = .ok (.iload 4, 2) := dq daX11_nights_20_0 21 rfl
theorem dX11_nights_40 : decode cX11_nights 40 = .ok (.i2l, 1) := dq daX11_nights_20_0 22 rfl
theorem dX11_nights_41 : decode cX11_nights 41 = .ok (.lconst 1, 1) := dq daX11_nights_20_0 23 rfl
theorem dX11_nights_42 : decode cX11_nights 42 = .ok (.ldc2_w 467, 3) := dq daX11_nights_20_0 24 rfl
theorem dX11_nights_45 : decode cX11_nights 45 = .ok (.invokestatic 118, 3) := dq daX11_nights_20_0 25 rfl
theorem dX11_nights_48 : decode cX11_nights 48 = .ok (.ifCond .eq 16, 3) := dq daX11_nights_20_0 26 rfl
theorem dX11_nights_51 : decode cX11_nights 51 = .ok (.iload 5, 2) := dq daX11_nights_20_0 27 rfl
theorem dX11_nights_53 : decode cX11_nights 53 = .ok (.i2l, 1) := dq daX11_nights_20_0 28 rfl
theorem dX11_nights_54 : decode cX11_nights 54 = .ok (.lconst 0, 1) := dq daX11_nights_20_0 29 rfl
theorem dX11_nights_55 : decode cX11_nights 55 = .ok (.ldc2_w 437, 3) := dq daX11_nights_20_0 30 rfl
theorem dX11_nights_58 : decode cX11_nights 58 = .ok (.invokestatic 118, 3) := dq daX11_nights_20_0 31 rfl
def dtX11_nights_20_1 : List (Nat × Jvm.ClassFile.Instr × Nat) := [(61, .ifCond .ne 5, 3), (66, .aload_n 0, 1), (67, .getfield 39, 3), (70, .bipush 7, 2), (72, .iaload, 1), (73, .istore 6, 2), (75, .iconst 0, 1), (76, .istore 7, 2), (78, .iconst 0, 1), (79, .istore 8, 2), (81, .iconst 0, 1), (82, .istore 9, 2), (84, .iconst 0, 1), (85, .istore 10, 2), (87, .iload 10, 2), (89, .iload 4, 2), (91, .if_icmp .ge 221, 3), (94, .aload_n 0, 1), (95, .aload_n 0, 1), (96, .getfield 39, 3), (99, .bipush 8, 2), (101, .iaload, 1), (102, .iload_n 3, 1), (103, .aload_n 0, 1), (104, .getfield 39, 3), (107, .iconst 5, 1), (108, .iaload, 1), (109, .aload_n 0, 1), (110, .iload_n 2, 1), (111, .iconst 0, 1), (112, .invokevirtual 283, 3), (115, .aload_n 0, 1)]
theorem daX11_nights_20_1 : dtX11_nights_20_1.all (dqd cX11_nights) = true := by decide +kernel
theorem dX11_nights_61 : decode cX11_nights 61 = .ok (.ifCond .ne 5, 3) := dq daX11_nights_20_1 0 rfl
theorem dX11_nights_66 : decode cX11_nights 66 = .ok (.aload_n 0, 1) := dq daX11_nights_20_1 1 rfl
theorem dX11_nights_67 : decode cX11_nights 67 = .ok (.getfield 39, 3) := dq daX11_nights_20_1 2 rfl
theorem dX11_nights_70 : decode cX11_nights 70 = .ok (.bipush 7, 2) := dq daX11_nights_20_1 3 rfl
theorem dX11_nights_72 : decode cX11_nights 72 = .ok (.iaload, 1) := dq daX11_nights_20_1 4 rfl
theorem dX11_nights_73 : decode cX11_nights 73 = .ok (.istore 6, 2) := dq daX11_nights_20_1 5 rfl
theorem dX11_nights_75 : decode cX11_nights 75 = .ok (.iconst 0, 1) := dq daX11_nights_20_1 6 rfl
theorem dX11_nights_76 : decode cX11_nights 76 = .ok (.istore 7, 2) := dq daX11_nights_20_1 7 rfl
theorem dX11_nights_78 : decode cX11_nights 78 = .ok (.iconst 0, 1) := dq daX11_nights_20_1 8 rfl
theorem dX11_nights_79 : decode cX11_nights 79 = .ok (.istore 8, 2) := dq daX11_nights_20_1 9 rfl
theorem dX11_nights_81 : decode cX11_nights 81 = .ok (.iconst 0, 1) := dq daX11_nights_20_1 10 rfl
theorem dX11_nights_82 : decode cX11_nights 82 = .ok (.istore 9, 2) := dq daX11_nights_20_1 11 rfl
theorem dX11_nights_84 : decode cX11_nights 84 = .ok (.iconst 0, 1) := dq daX11_nights_20_1 12 rfl
theorem dX11_nights_85 : decode cX11_nights 85 = .ok (.istore 10, 2) := dq daX11_nights_20_1 13 rfl
theorem dX11_nights_87 : decode cX11_nights 87 = .ok (.iload 10, 2) := dq daX11_nights_20_1 14 rfl
theorem dX11_nights_89 : decode cX11_nights 89 = .ok (.iload 4, 2) := dq daX11_nights_20_1 15 rfl
theorem dX11_nights_91 : decode cX11_nights 91 = .ok (.if_icmp .ge 221, 3) := dq daX11_nights_20_1 16 rfl
theorem dX11_nights_94 : decode cX11_nights 94 = .ok (.aload_n 0, 1) := dq daX11_nights_20_1 17 rfl
theorem dX11_nights_95 : decode cX11_nights 95 = .ok (.aload_n 0, 1) := dq daX11_nights_20_1 18 rfl
theorem dX11_nights_96 : decode cX11_nights 96 = .ok (.getfield 39, 3) := dq daX11_nights_20_1 19 rfl
theorem dX11_nights_99 : decode cX11_nights 99 = .ok (.bipush 8, 2) := dq daX11_nights_20_1 20 rfl
theorem dX11_nights_101 : decode cX11_nights 101 = .ok (.iaload, 1) := dq daX11_nights_20_1 21 rfl
theorem dX11_nights_102 : decode cX11_nights 102 = .ok (.iload_n 3, 1) := dq daX11_nights_20_1 22 rfl
theorem dX11_nights_103 : decode cX11_nights 103 = .ok (.aload_n 0, 1) := dq daX11_nights_20_1 23 rfl
theorem dX11_nights_104 : decode cX11_nights 104 = .ok (.getfield 39, 3) := dq daX11_nights_20_1 24 rfl
theorem dX11_nights_107 : decode cX11_nights 107 = .ok (.iconst 5, 1) := dq daX11_nights_20_1 25 rfl
theorem dX11_nights_108 : decode cX11_nights 108 = .ok (.iaload, 1) := dq daX11_nights_20_1 26 rfl
theorem dX11_nights_109 : decode cX11_nights 109 = .ok (.aload_n 0, 1) := dq daX11_nights_20_1 27 rfl
theorem dX11_nights_110 : decode cX11_nights 110 = .ok (.iload_n 2, 1) := dq daX11_nights_20_1 28 rfl
theorem dX11_nights_111 : decode cX11_nights 111 = .ok (.iconst 0, 1) := dq daX11_nights_20_1 29 rfl
theorem dX11_nights_112 : decode cX11_nights 112 = .ok (.invokevirtual 283, 3) := dq daX11_nights_20_1 30 rfl
theorem dX11_nights_115 : decode cX11_nights 115 = .ok (.aload_n 0, 1) := dq daX11_nights_20_1 31 rfl
def dtX11_nights_20_2 : List (Nat × Jvm.ClassFile.Instr × Nat) := [(116, .iload_n 2, 1), (117, .iconst 1, 1), (118, .invokevirtual 283, 3), (121, .invokevirtual 407, 3), (124, .iconst 1, 1), (125, .istore 11, 2), (127, .iconst 0, 1), (128, .istore 12, 2), (130, .iload 12, 2), (132, .aload_n 0, 1), (133, .getfield 39, 3), (136, .bipush 9, 2), (138, .iaload, 1), (139, .if_icmp .ge 134, 3), (142, .iload 11, 2), (144, .ifCond .eq 129, 3), (147, .aload_n 0, 1), (148, .iload_n 1, 1), (149, .aload_n 0, 1), (150, .getfield 39, 3), (153, .bipush 10, 2), (155, .iload 12, 2), (157, .iadd, 1), (158, .iaload, 1), (159, .invokevirtual 410, 3), (162, .aload_n 0, 1), (163, .invokevirtual 351, 3), (166, .aload_n 0, 1), (167, .aload_n 0, 1), (168, .getfield 39, 3), (171, .bipush 10, 2), (173, .iload 12, 2)]
theorem daX11_nights_20_2 : dtX11_nights_20_2.all (dqd cX11_nights) = true := by decide +kernel
theorem dX11_nights_116 : decode cX11_nights 116 = .ok (.iload_n 2, 1) := dq daX11_nights_20_2 0 rfl
theorem dX11_nights_117 : decode cX11_nights 117 = .ok (.iconst 1, 1) := dq daX11_nights_20_2 1 rfl
theorem dX11_nights_118 : decode cX11_nights 118 = .ok (.invokevirtual 283, 3) := dq daX11_nights_20_2 2 rfl
theorem dX11_nights_121 : decode cX11_nights 121 = .ok (.invokevirtual 407, 3) := dq daX11_nights_20_2 3 rfl
theorem dX11_nights_124 : decode cX11_nights 124 = .ok (.iconst 1, 1) := dq daX11_nights_20_2 4 rfl
theorem dX11_nights_125 : decode cX11_nights 125 = .ok (.istore 11, 2) := dq daX11_nights_20_2 5 rfl
theorem dX11_nights_127 : decode cX11_nights 127 = .ok (.iconst 0, 1) := dq daX11_nights_20_2 6 rfl
theorem dX11_nights_128 : decode cX11_nights 128 = .ok (.istore 12, 2) := dq daX11_nights_20_2 7 rfl
theorem dX11_nights_130 : decode cX11_nights 130 = .ok (.iload 12, 2) := dq daX11_nights_20_2 8 rfl
theorem dX11_nights_132 : decode cX11_nights 132 = .ok (.aload_n 0, 1) := dq daX11_nights_20_2 9 rfl
theorem dX11_nights_133 : decode cX11_nights 133 = .ok (.getfield 39, 3) := dq daX11_nights_20_2 10 rfl
theorem dX11_nights_136 : decode cX11_nights 136 = .ok (.bipush 9, 2) := dq daX11_nights_20_2 11 rfl
theorem dX11_nights_138 : decode cX11_nights 138 = .ok (.iaload, 1) := dq daX11_nights_20_2 12 rfl
theorem dX11_nights_139 : decode cX11_nights 139 = .ok (.if_icmp .ge 134, 3) := dq daX11_nights_20_2 13 rfl
theorem dX11_nights_142 : decode cX11_nights 142 = .ok (.iload 11, 2) := dq daX11_nights_20_2 14 rfl
theorem dX11_nights_144 : decode cX11_nights 144 = .ok (.ifCond .eq 129, 3) := dq daX11_nights_20_2 15 rfl
theorem dX11_nights_147 : decode cX11_nights 147 = .ok (.aload_n 0, 1) := dq daX11_nights_20_2 16 rfl
theorem dX11_nights_148 : decode cX11_nights 148 = .ok (.iload_n 1, 1) := dq daX11_nights_20_2 17 rfl
theorem dX11_nights_149 : decode cX11_nights 149 = .ok (.aload_n 0, 1) := dq daX11_nights_20_2 18 rfl
theorem dX11_nights_150 : decode cX11_nights 150 = .ok (.getfield 39, 3) := dq daX11_nights_20_2 19 rfl
theorem dX11_nights_153 : decode cX11_nights 153 = .ok (.bipush 10, 2) := dq daX11_nights_20_2 20 rfl
theorem dX11_nights_155 : decode cX11_nights 155 = .ok (.iload 12, 2) := dq daX11_nights_20_2 21 rfl
theorem dX11_nights_157 : decode cX11_nights 157 = .ok (.iadd, 1) := dq daX11_nights_20_2 22 rfl
theorem dX11_nights_158 : decode cX11_nights 158 = .ok (.iaload, 1) := dq daX11_nights_20_2 23 rfl
theorem dX11_nights_159 : decode cX11_nights 159 = .ok (.invokevirtual 410, 3) := dq daX11_nights_20_2 24 rfl
theorem dX11_nights_162 : decode cX11_nights 162 = .ok (.aload_n 0, 1) := dq daX11_nights_20_2 25 rfl
theorem dX11_nights_163 : decode cX11_nights 163 = .ok (.invokevirtual 351, 3) := dq daX11_nights_20_2 26 rfl
theorem dX11_nights_166 : decode cX11_nights 166 = .ok (.aload_n 0, 1) := dq daX11_nights_20_2 27 rfl
theorem dX11_nights_167 : decode cX11_nights 167 = .ok (.aload_n 0, 1) := dq daX11_nights_20_2 28 rfl
theorem dX11_nights_168 : decode cX11_nights 168 = .ok (.getfield 39, 3) := dq daX11_nights_20_2 29 rfl
theorem dX11_nights_171 : decode cX11_nights 171 = .ok (.bipush 10, 2) := dq daX11_nights_20_2 30 rfl
theorem dX11_nights_173 : decode cX11_nights 173 = .ok (.iload 12, 2) := dq daX11_nights_20_2 31 rfl
def dtX11_nights_20_3 : List (Nat × Jvm.ClassFile.Instr × Nat) := [(175, .iadd, 1), (176, .iaload, 1), (177, .iconst 4, 1), (178, .invokevirtual 303, 3), (181, .if_icmp .lt 7, 3), (188, .iconst 0, 1), (189, .istore 11, 2), (191, .iload 9, 2), (193, .iload 11, 2), (195, .ifCond .eq 7, 3), (202, .iconst 1, 1), (203, .iadd, 1), (204, .istore 9, 2), (206, .iload 11, 2), (208, .ifCond .ne 6, 3), (211, .goto 56, 3), (267, .iinc 12 1, 3), (270, .goto (-140), 3), (184, .iconst 1, 1), (185, .goto 4, 3), (198, .iconst 0, 1), (199, .goto 4, 3), (214, .aload_n 0, 1), (215, .aload_n 0, 1), (216, .getfield 387, 3), (219, .aload_n 0, 1), (220, .getfield 381, 3), (223, .aload_n 0, 1), (224, .getfield 384, 3), (227, .aload_n 0, 1), (228, .getfield 390, 3), (231, .aload_n 0, 1)]
theorem daX11_nights_20_3 : dtX11_nights_20_3.all (dqd cX11_nights) = true := by decide +kernel
theorem dX11_nights_175 : decode cX11_nights 175 = .ok (.iadd, 1) := dq daX11_nights_20_3 0 rfl
theorem dX11_nights_176 : decode cX11_nights 176 = .ok (.iaload, 1) := dq daX11_nights_20_3 1 rfl
theorem dX11_nights_177 : decode cX11_nights 177 = .ok (.iconst 4, 1) := dq daX11_nights_20_3 2 rfl
theorem dX11_nights_178 : decode cX11_nights 178 = .ok (.invokevirtual 303, 3) := dq daX11_nights_20_3 3 rfl
theorem dX11_nights_181 : decode cX11_nights 181 = .ok (.if_icmp .lt 7, 3) := dq daX11_nights_20_3 4 rfl
theorem dX11_nights_188 : decode cX11_nights 188 = .ok (.iconst 0, 1) := dq daX11_nights_20_3 5 rfl
theorem dX11_nights_189 : decode cX11_nights 189 = .ok (.istore 11, 2) := dq daX11_nights_20_3 6 rfl
theorem dX11_nights_191 : decode cX11_nights 191 = .ok (.iload 9, 2) := dq daX11_nights_20_3 7 rfl
theorem dX11_nights_193 : decode cX11_nights 193 = .ok (.iload 11, 2) := dq daX11_nights_20_3 8 rfl
theorem dX11_nights_195 : decode cX11_nights 195 = .ok (.ifCond .eq 7, 3) := dq daX11_nights_20_3 9 rfl
theorem dX11_nights_202 : decode cX11_nights 202 = .ok (.iconst 1, 1) := dq daX11_nights_20_3 10 rfl
theorem dX11_nights_203 : decode cX11_nights 203 = .ok (.iadd, 1) := dq daX11_nights_20_3 11 rfl
theorem dX11_nights_204 : decode cX11_nights 204 = .ok (.istore 9, 2) := dq daX11_nights_20_3 12 rfl
theorem dX11_nights_206 : decode cX11_nights 206 = .ok (.iload 11, 2) := dq daX11_nights_20_3 13 rfl
theorem dX11_nights_208 : decode cX11_nights 208 = .ok (.ifCond .ne 6, 3) := dq daX11_nights_20_3 14 rfl
theorem dX11_nights_211 : decode cX11_nights 211 = .ok (.goto 56, 3) := dq daX11_nights_20_3 15 rfl
theorem dX11_nights_267 : decode cX11_nights 267 = .ok (.iinc 12 1, 3) := dq daX11_nights_20_3 16 rfl
theorem dX11_nights_270 : decode cX11_nights 270 = .ok (.goto (-140), 3) := dq daX11_nights_20_3 17 rfl
theorem dX11_nights_184 : decode cX11_nights 184 = .ok (.iconst 1, 1) := dq daX11_nights_20_3 18 rfl
theorem dX11_nights_185 : decode cX11_nights 185 = .ok (.goto 4, 3) := dq daX11_nights_20_3 19 rfl
theorem dX11_nights_198 : decode cX11_nights 198 = .ok (.iconst 0, 1) := dq daX11_nights_20_3 20 rfl
theorem dX11_nights_199 : decode cX11_nights 199 = .ok (.goto 4, 3) := dq daX11_nights_20_3 21 rfl
theorem dX11_nights_214 : decode cX11_nights 214 = .ok (.aload_n 0, 1) := dq daX11_nights_20_3 22 rfl
theorem dX11_nights_215 : decode cX11_nights 215 = .ok (.aload_n 0, 1) := dq daX11_nights_20_3 23 rfl
theorem dX11_nights_216 : decode cX11_nights 216 = .ok (.getfield 387, 3) := dq daX11_nights_20_3 24 rfl
theorem dX11_nights_219 : decode cX11_nights 219 = .ok (.aload_n 0, 1) := dq daX11_nights_20_3 25 rfl
theorem dX11_nights_220 : decode cX11_nights 220 = .ok (.getfield 381, 3) := dq daX11_nights_20_3 26 rfl
theorem dX11_nights_223 : decode cX11_nights 223 = .ok (.aload_n 0, 1) := dq daX11_nights_20_3 27 rfl
theorem dX11_nights_224 : decode cX11_nights 224 = .ok (.getfield 384, 3) := dq daX11_nights_20_3 28 rfl
theorem dX11_nights_227 : decode cX11_nights 227 = .ok (.aload_n 0, 1) := dq daX11_nights_20_3 29 rfl
theorem dX11_nights_228 : decode cX11_nights 228 = .ok (.getfield 390, 3) := dq daX11_nights_20_3 30 rfl
theorem dX11_nights_231 : decode cX11_nights 231 = .ok (.aload_n 0, 1) := dq daX11_nights_20_3 31 rfl
def dtX11_nights_20_4 : List (Nat × Jvm.ClassFile.Instr × Nat) := [(232, .getfield 393, 3), (235, .invokevirtual 330, 3), (238, .aload_n 0, 1), (239, .invokevirtual 351, 3), (242, .i2l, 1), (243, .aload_n 0, 1), (244, .iload_n 1, 1), (245, .iconst 3, 1), (246, .invokevirtual 318, 3), (249, .lconst 0, 1), (250, .ldc2_w 272, 3), (253, .invokestatic 322, 3), (256, .lcmp, 1), (257, .ifCond .lt 7, 3), (264, .iconst 0, 1), (265, .istore 11, 2), (260, .iconst 1, 1), (261, .goto 4, 3), (273, .iload 7, 2), (275, .iload 11, 2), (277, .ifCond .eq 7, 3), (284, .iconst 0, 1), (285, .iadd, 1), (286, .istore 7, 2), (288, .iload 8, 2), (290, .iload 11, 2), (292, .ifCond .eq 10, 3), (302, .iconst 0, 1), (303, .iadd, 1), (304, .istore 8, 2), (306, .iinc 10 1, 3), (309, .goto (-222), 3)]
theorem daX11_nights_20_4 : dtX11_nights_20_4.all (dqd cX11_nights) = true := by decide +kernel
theorem dX11_nights_232 : decode cX11_nights 232 = .ok (.getfield 393, 3) := dq daX11_nights_20_4 0 rfl
theorem dX11_nights_235 : decode cX11_nights 235 = .ok (.invokevirtual 330, 3) := dq daX11_nights_20_4 1 rfl
theorem dX11_nights_238 : decode cX11_nights 238 = .ok (.aload_n 0, 1) := dq daX11_nights_20_4 2 rfl
theorem dX11_nights_239 : decode cX11_nights 239 = .ok (.invokevirtual 351, 3) := dq daX11_nights_20_4 3 rfl
theorem dX11_nights_242 : decode cX11_nights 242 = .ok (.i2l, 1) := dq daX11_nights_20_4 4 rfl
theorem dX11_nights_243 : decode cX11_nights 243 = .ok (.aload_n 0, 1) := dq daX11_nights_20_4 5 rfl
theorem dX11_nights_244 : decode cX11_nights 244 = .ok (.iload_n 1, 1) := dq daX11_nights_20_4 6 rfl
theorem dX11_nights_245 : decode cX11_nights 245 = .ok (.iconst 3, 1) := dq daX11_nights_20_4 7 rfl
theorem dX11_nights_246 : decode cX11_nights 246 = .ok (.invokevirtual 318, 3) := dq daX11_nights_20_4 8 rfl
theorem dX11_nights_249 : decode cX11_nights 249 = .ok (.lconst 0, 1) := dq daX11_nights_20_4 9 rfl
theorem dX11_nights_250 : decode cX11_nights 250 = .ok (.ldc2_w 272, 3) := dq daX11_nights_20_4 10 rfl
theorem dX11_nights_253 : decode cX11_nights 253 = .ok (.invokestatic 322, 3) := dq daX11_nights_20_4 11 rfl
theorem dX11_nights_256 : decode cX11_nights 256 = .ok (.lcmp, 1) := dq daX11_nights_20_4 12 rfl
theorem dX11_nights_257 : decode cX11_nights 257 = .ok (.ifCond .lt 7, 3) := dq daX11_nights_20_4 13 rfl
theorem dX11_nights_264 : decode cX11_nights 264 = .ok (.iconst 0, 1) := dq daX11_nights_20_4 14 rfl
theorem dX11_nights_265 : decode cX11_nights 265 = .ok (.istore 11, 2) := dq daX11_nights_20_4 15 rfl
theorem dX11_nights_260 : decode cX11_nights 260 = .ok (.iconst 1, 1) := dq daX11_nights_20_4 16 rfl
theorem dX11_nights_261 : decode cX11_nights 261 = .ok (.goto 4, 3) := dq daX11_nights_20_4 17 rfl
theorem dX11_nights_273 : decode cX11_nights 273 = .ok (.iload 7, 2) := dq daX11_nights_20_4 18 rfl
theorem dX11_nights_275 : decode cX11_nights 275 = .ok (.iload 11, 2) := dq daX11_nights_20_4 19 rfl
theorem dX11_nights_277 : decode cX11_nights 277 = .ok (.ifCond .eq 7, 3) := dq daX11_nights_20_4 20 rfl
theorem dX11_nights_284 : decode cX11_nights 284 = .ok (.iconst 0, 1) := dq daX11_nights_20_4 21 rfl
theorem dX11_nights_285 : decode cX11_nights 285 = .ok (.iadd, 1) := dq daX11_nights_20_4 22 rfl
theorem dX11_nights_286 : decode cX11_nights 286 = .ok (.istore 7, 2) := dq daX11_nights_20_4 23 rfl
theorem dX11_nights_288 : decode cX11_nights 288 = .ok (.iload 8, 2) := dq daX11_nights_20_4 24 rfl
theorem dX11_nights_290 : decode cX11_nights 290 = .ok (.iload 11, 2) := dq daX11_nights_20_4 25 rfl
theorem dX11_nights_292 : decode cX11_nights 292 = .ok (.ifCond .eq 10, 3) := dq daX11_nights_20_4 26 rfl
theorem dX11_nights_302 : decode cX11_nights 302 = .ok (.iconst 0, 1) := dq daX11_nights_20_4 27 rfl
theorem dX11_nights_303 : decode cX11_nights 303 = .ok (.iadd, 1) := dq daX11_nights_20_4 28 rfl
theorem dX11_nights_304 : decode cX11_nights 304 = .ok (.istore 8, 2) := dq daX11_nights_20_4 29 rfl
theorem dX11_nights_306 : decode cX11_nights 306 = .ok (.iinc 10 1, 3) := dq daX11_nights_20_4 30 rfl
theorem dX11_nights_309 : decode cX11_nights 309 = .ok (.goto (-222), 3) := dq daX11_nights_20_4 31 rfl
def dtX11_nights_20_5 : List (Nat × Jvm.ClassFile.Instr × Nat) := [(280, .iconst 1, 1), (281, .goto 4, 3), (295, .aload_n 0, 1), (296, .getfield 384, 3), (299, .goto 4, 3), (312, .aload_n 0, 1), (313, .getfield 39, 3), (316, .bipush 7, 2), (318, .iload 6, 2), (320, .iastore, 1), (321, .iload 5, 2), (323, .ifCond .ne 8, 3), (331, .iload 5, 2), (333, .iconst 1, 1), (334, .if_icmp .ne 8, 3), (342, .iload 9, 2), (337, .iload 8, 2), (339, .goto 5, 3), (326, .iload 7, 2), (328, .goto 16, 3), (344, .ireturn, 1)]
theorem daX11_nights_20_5 : dtX11_nights_20_5.all (dqd cX11_nights) = true := by decide +kernel
theorem dX11_nights_280 : decode cX11_nights 280 = .ok (.iconst 1, 1) := dq daX11_nights_20_5 0 rfl
theorem dX11_nights_281 : decode cX11_nights 281 = .ok (.goto 4, 3) := dq daX11_nights_20_5 1 rfl
theorem dX11_nights_295 : decode cX11_nights 295 = .ok (.aload_n 0, 1) := dq daX11_nights_20_5 2 rfl
theorem dX11_nights_296 : decode cX11_nights 296 = .ok (.getfield 384, 3) := dq daX11_nights_20_5 3 rfl
theorem dX11_nights_299 : decode cX11_nights 299 = .ok (.goto 4, 3) := dq daX11_nights_20_5 4 rfl
theorem dX11_nights_312 : decode cX11_nights 312 = .ok (.aload_n 0, 1) := dq daX11_nights_20_5 5 rfl
theorem dX11_nights_313 : decode cX11_nights 313 = .ok (.getfield 39, 3) := dq daX11_nights_20_5 6 rfl
theorem dX11_nights_316 : decode cX11_nights 316 = .ok (.bipush 7, 2) := dq daX11_nights_20_5 7 rfl
theorem dX11_nights_318 : decode cX11_nights 318 = .ok (.iload 6, 2) := dq daX11_nights_20_5 8 rfl
theorem dX11_nights_320 : decode cX11_nights 320 = .ok (.iastore, 1) := dq daX11_nights_20_5 9 rfl
theorem dX11_nights_321 : decode cX11_nights 321 = .ok (.iload 5, 2) := dq daX11_nights_20_5 10 rfl
theorem dX11_nights_323 : decode cX11_nights 323 = .ok (.ifCond .ne 8, 3) := dq daX11_nights_20_5 11 rfl
theorem dX11_nights_331 : decode cX11_nights 331 = .ok (.iload 5, 2) := dq daX11_nights_20_5 12 rfl
theorem dX11_nights_333 : decode cX11_nights 333 = .ok (.iconst 1, 1) := dq daX11_nights_20_5 13 rfl
theorem dX11_nights_334 : decode cX11_nights 334 = .ok (.if_icmp .ne 8, 3) := dq daX11_nights_20_5 14 rfl
theorem dX11_nights_342 : decode cX11_nights 342 = .ok (.iload 9, 2) := dq daX11_nights_20_5 15 rfl
theorem dX11_nights_337 : decode cX11_nights 337 = .ok (.iload 8, 2) := dq daX11_nights_20_5 16 rfl
theorem dX11_nights_339 : decode cX11_nights 339 = .ok (.goto 5, 3) := dq daX11_nights_20_5 17 rfl
theorem dX11_nights_326 : decode cX11_nights 326 = .ok (.iload 7, 2) := dq daX11_nights_20_5 18 rfl
theorem dX11_nights_328 : decode cX11_nights 328 = .ok (.goto 16, 3) := dq daX11_nights_20_5 19 rfl
theorem dX11_nights_344 : decode cX11_nights 344 = .ok (.ireturn, 1) := dq daX11_nights_20_5 20 rfl
