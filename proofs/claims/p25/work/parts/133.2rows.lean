theorem kX11_count_1 {a : Array Value} {s : State} (hts : ∀ w ∈ wsX11_count, w.before a s = true) : (.fieldLink RX11 39 "SnowMulesModel" "said" "[I" : Cond).before a s = true := kw (A := ixX11_count) wt153 hts (by decide +kernel)
theorem kX11_count_2 {a : Array Value} {s : State} (hts : ∀ w ∈ wsX11_count, w.before a s = true) : (.fieldLink RX11 232 "SnowMulesModel" "laws" "I" : Cond).before a s = true := kw (A := ixX11_count) wt458 hts (by decide +kernel)
theorem kX11_count_3 {a : Array Value} {s : State} (hts : ∀ w ∈ wsX11_count, w.before a s = true) : (.fieldLink RX11 79 "SnowMulesModel" "taped" "I" : Cond).before a s = true := kw (A := ixX11_count) wt264 hts (by decide +kernel)
theorem iX11_count_X11 : ∀ w ∈ wsX110, w ∈ wsX11_count := inW (A := ixX11_count) uwX11 (by decide +kernel)
def dtX11_count_133_0 : List (Nat × Jvm.ClassFile.Instr × Nat) := [(0, .iload_n 1, 1), (1, .tableswitch 133 0 10 #[59, 59, 59, 66, 71, 78, 89, 89, 98, 120, 128], 59), (134, .iconst (-1), 1), (135, .ireturn, 1), (60, .aload_n 0, 1), (61, .getfield 39, 3), (64, .iload_n 1, 1), (65, .iaload, 1), (66, .ireturn, 1), (67, .aload_n 0, 1), (68, .getfield 232, 3), (71, .ireturn, 1), (72, .aload_n 0, 1), (73, .getfield 39, 3), (76, .iconst 5, 1), (77, .iaload, 1), (78, .ireturn, 1), (79, .aload_n 0, 1), (80, .aload_n 0, 1), (81, .getfield 39, 3), (84, .iconst 5, 1), (85, .iaload, 1), (86, .invokevirtual 291, 3), (89, .ireturn, 1), (90, .aload_n 0, 1), (91, .getfield 39, 3), (94, .iload_n 1, 1), (95, .iconst 3, 1), (96, .isub, 1), (97, .iaload, 1), (98, .ireturn, 1), (99, .aload_n 0, 1)]
theorem daX11_count_133_0 : dtX11_count_133_0.all (dqd cX11_count) = true := by decide +kernel
theorem dX11_count_0 : decode cX11_count 0 = .ok (.iload_n 1, 1) := dq daX11_count_133_0 0 rfl
theorem dX11_count_1 : decode cX11_count 1 = .ok (.tableswitch 133 0 10 #[59, 59, 59, 66, 71, 78, 89, 89, 98, 120, 128], 59) := dq daX11_count_133_0 1 rfl
theorem dX11_count_134 : decode cX11_count 134 = .ok (.iconst (-1), 1) := dq daX11_count_133_0 2 rfl
theorem dX11_count_135 : decode cX11_count 135 = .ok (.ireturn, 1) := dq daX11_count_133_0 3 rfl
theorem dX11_count_60 : decode cX11_count 60 = .ok (.aload_n 0, 1) := dq daX11_count_133_0 4 rfl
theorem dX11_count_61 : decode cX11_count 61 = .ok (.getfield 39, 3) := dq daX11_count_133_0 5 rfl
theorem dX11_count_64 : decode cX11_count 64 = .ok (.iload_n 1, 1) := dq daX11_count_133_0 6 rfl
theorem dX11_count_65 : decode cX11_count 65 = .ok (.iaload, 1) := dq daX11_count_133_0 7 rfl
theorem dX11_count_66 : decode cX11_count 66 = .ok (.ireturn, 1) := dq daX11_count_133_0 8 rfl
theorem dX11_count_67 : decode cX11_count 67 = .ok (.aload_n 0, 1) := dq daX11_count_133_0 9 rfl
theorem dX11_count_68 : decode cX11_count 68 = .ok (.getfield 232, 3) := dq daX11_count_133_0 10 rfl
theorem dX11_count_71 : decode cX11_count 71 = .ok (.ireturn, 1) := dq daX11_count_133_0 11 rfl
theorem dX11_count_72 : decode cX11_count 72 = .ok (.aload_n 0, 1) := dq daX11_count_133_0 12 rfl
theorem dX11_count_73 : decode cX11_count 73 = .ok (.getfield 39, 3) := dq daX11_count_133_0 13 rfl
theorem dX11_count_76 : decode cX11_count 76 = .ok (.iconst 5, 1) := dq daX11_count_133_0 14 rfl
theorem dX11_count_77 : decode cX11_count 77 = .ok (.iaload, 1) := dq daX11_count_133_0 15 rfl
theorem dX11_count_78 : decode cX11_count 78 = .ok (.ireturn, 1) := dq daX11_count_133_0 16 rfl
theorem dX11_count_79 : decode cX11_count 79 = .ok (.aload_n 0, 1) := dq daX11_count_133_0 17 rfl
theorem dX11_count_80 : decode cX11_count 80 = .ok (.aload_n 0, 1) := dq daX11_count_133_0 18 rfl
theorem dX11_count_81 : decode cX11_count 81 = .ok (.getfield 39, 3) := dq daX11_count_133_0 19 rfl
theorem dX11_count_84 : decode cX11_count 84 = .ok (.iconst 5, 1) := dq daX11_count_133_0 20 rfl
theorem dX11_count_85 : decode cX11_count 85 = .ok (.iaload, 1) := dq daX11_count_133_0 21 rfl
theorem dX11_count_86 : decode cX11_count 86 = .ok (.invokevirtual 291, 3) := dq daX11_count_133_0 22 rfl
theorem dX11_count_89 : decode cX11_count 89 = .ok (.ireturn, 1) := dq daX11_count_133_0 23 rfl
theorem dX11_count_90 : decode cX11_count 90 = .ok (.aload_n 0, 1) := dq daX11_count_133_0 24 rfl
theorem dX11_count_91 : decode cX11_count 91 = .ok (.getfield 39, 3) := dq daX11_count_133_0 25 rfl
theorem dX11_count_94 : decode cX11_count 94 = .ok (.iload_n 1, 1) := dq daX11_count_133_0 26 rfl
theorem dX11_count_95 : decode cX11_count 95 = .ok (.iconst 3, 1) := dq daX11_count_133_0 27 rfl
theorem dX11_count_96 : decode cX11_count 96 = .ok (.isub, 1) := dq daX11_count_133_0 28 rfl
theorem dX11_count_97 : decode cX11_count 97 = .ok (.iaload, 1) := dq daX11_count_133_0 29 rfl
theorem dX11_count_98 : decode cX11_count 98 = .ok (.ireturn, 1) := dq daX11_count_133_0 30 rfl
theorem dX11_count_99 : decode cX11_count 99 = .ok (.aload_n 0, 1) := dq daX11_count_133_0 31 rfl
def dtX11_count_133_1 : List (Nat × Jvm.ClassFile.Instr × Nat) := [(100, .getfield 39, 3), (103, .bipush 8, 2), (105, .iaload, 1), (106, .ifCond .ge 7, 3), (113, .aload_n 0, 1), (114, .getfield 39, 3), (117, .bipush 9, 2), (119, .iaload, 1), (120, .ireturn, 1), (109, .iconst (-1), 1), (110, .goto 10, 3), (121, .aload_n 0, 1), (122, .getfield 39, 3), (125, .bipush 7, 2), (127, .iaload, 1), (128, .ireturn, 1), (129, .aload_n 0, 1), (130, .getfield 79, 3), (133, .ireturn, 1)]
theorem daX11_count_133_1 : dtX11_count_133_1.all (dqd cX11_count) = true := by decide +kernel
theorem dX11_count_100 : decode cX11_count 100 = .ok (.getfield 39, 3) := dq daX11_count_133_1 0 rfl
theorem dX11_count_103 : decode cX11_count 103 = .ok (.bipush 8, 2) := dq daX11_count_133_1 1 rfl
theorem dX11_count_105 : decode cX11_count 105 = .ok (.iaload, 1) := dq daX11_count_133_1 2 rfl
theorem dX11_count_106 : decode cX11_count 106 = .ok (.ifCond .ge 7, 3) := dq daX11_count_133_1 3 rfl
theorem dX11_count_113 : decode cX11_count 113 = .ok (.aload_n 0, 1) := dq daX11_count_133_1 4 rfl
theorem dX11_count_114 : decode cX11_count 114 = .ok (.getfield 39, 3) := dq daX11_count_133_1 5 rfl
theorem dX11_count_117 : decode cX11_count 117 = .ok (.bipush 9, 2) := dq daX11_count_133_1 6 rfl
theorem dX11_count_119 : decode cX11_count 119 = .ok (.iaload, 1) := dq daX11_count_133_1 7 rfl
theorem dX11_count_120 : decode cX11_count 120 = .ok (.ireturn, 1) := dq daX11_count_133_1 8 rfl
theorem dX11_count_109 : decode cX11_count 109 = .ok (.iconst (-1), 1) := dq daX11_count_133_1 9 rfl
theorem dX11_count_110 : decode cX11_count 110 = .ok (.goto 10, 3) := dq daX11_count_133_1 10 rfl
theorem dX11_count_121 : decode cX11_count 121 = .ok (.aload_n 0, 1) := dq daX11_count_133_1 11 rfl
theorem dX11_count_122 : decode cX11_count 122 = .ok (.getfield 39, 3) := dq daX11_count_133_1 12 rfl
theorem dX11_count_125 : decode cX11_count 125 = .ok (.bipush 7, 2) := dq daX11_count_133_1 13 rfl
theorem dX11_count_127 : decode cX11_count 127 = .ok (.iaload, 1) := dq daX11_count_133_1 14 rfl
theorem dX11_count_128 : decode cX11_count 128 = .ok (.ireturn, 1) := dq daX11_count_133_1 15 rfl
theorem dX11_count_129 : decode cX11_count 129 = .ok (.aload_n 0, 1) := dq daX11_count_133_1 16 rfl
theorem dX11_count_130 : decode cX11_count 130 = .ok (.getfield 79, 3) := dq daX11_count_133_1 17 rfl
theorem dX11_count_133 : decode cX11_count 133 = .ok (.ireturn, 1) := dq daX11_count_133_1 18 rfl
