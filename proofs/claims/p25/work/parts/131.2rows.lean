theorem kX11_lay_1 {a : Array Value} {s : State} (hts : ∀ w ∈ wsX11_lay, w.before a s = true) : (.fieldLink RX11 39 "SnowMulesModel" "said" "[I" : Cond).before a s = true := kw (A := ixX11_lay) wt153 hts (by decide +kernel)
theorem iX11_lay_X11 : ∀ w ∈ wsX110, w ∈ wsX11_lay := inW (A := ixX11_lay) uwX11 (by decide +kernel)
theorem hdX11_wayEnd : yX11_wayEnd.cls ≠ "java/lang/invoke/MethodHandle" ∧ yX11_wayEnd.cls ≠ "java/lang/invoke/VarHandle" ∧ (parseMethodDescriptor yX11_wayEnd.desc).map (fun d => d.parameters.length) = some 0 := ⟨hdc_0.1, hdc_0.2, hdd_6⟩
theorem hdX11_isOfWay : yX11_isOfWay.cls ≠ "java/lang/invoke/MethodHandle" ∧ yX11_isOfWay.cls ≠ "java/lang/invoke/VarHandle" ∧ (parseMethodDescriptor yX11_isOfWay.desc).map (fun d => d.parameters.length) = some 1 := ⟨hdc_0.1, hdc_0.2, hdd_1⟩
def dtX11_lay_131_0 : List (Nat × Jvm.ClassFile.Instr × Nat) := [(0, .aload_n 0, 1), (1, .getfield 39, 3), (4, .bipush 8, 2), (6, .iaload, 1), (7, .ifCond .lt 23, 3), (30, .iconst (-1), 1), (31, .ireturn, 1), (10, .aload_n 0, 1), (11, .iload_n 1, 1), (12, .invokevirtual 306, 3), (15, .ifCond .eq 15, 3), (18, .aload_n 0, 1), (19, .getfield 39, 3), (22, .bipush 9, 2), (24, .iaload, 1), (25, .bipush 6, 2), (27, .if_icmp .ne 5, 3), (32, .aload_n 0, 1), (33, .iload_n 1, 1), (34, .aload_n 0, 1), (35, .invokevirtual 375, 3), (38, .invokevirtual 309, 3), (41, .istore_n 2, 1), (42, .iload_n 2, 1), (43, .ifCond .lt 11, 3), (54, .iconst (-1), 1), (55, .ireturn, 1), (46, .aload_n 0, 1), (47, .iload_n 2, 1), (48, .invokevirtual 378, 3), (51, .ifCond .eq 5, 3), (56, .aload_n 0, 1)]
theorem daX11_lay_131_0 : dtX11_lay_131_0.all (dqd cX11_lay) = true := by decide +kernel
theorem dX11_lay_0 : decode cX11_lay 0 = .ok (.aload_n 0, 1) := dq daX11_lay_131_0 0 rfl
theorem dX11_lay_1 : decode cX11_lay 1 = .ok (.getfield 39, 3) := dq daX11_lay_131_0 1 rfl
theorem dX11_lay_4 : decode cX11_lay 4 = .ok (.bipush 8, 2) := dq daX11_lay_131_0 2 rfl
theorem dX11_lay_6 : decode cX11_lay 6 = .ok (.iaload, 1) := dq daX11_lay_131_0 3 rfl
theorem dX11_lay_7 : decode cX11_lay 7 = .ok (.ifCond .lt 23, 3) := dq daX11_lay_131_0 4 rfl
theorem dX11_lay_30 : decode cX11_lay 30 = .ok (.iconst (-1), 1) := dq daX11_lay_131_0 5 rfl
theorem dX11_lay_31 : decode cX11_lay 31 = .ok (.ireturn, 1) := dq daX11_lay_131_0 6 rfl
theorem dX11_lay_10 : decode cX11_lay 10 = .ok (.aload_n 0, 1) := dq daX11_lay_131_0 7 rfl
theorem dX11_lay_11 : decode cX11_lay 11 = .ok (.iload_n 1, 1) := dq daX11_lay_131_0 8 rfl
theorem dX11_lay_12 : decode cX11_lay 12 = .ok (.invokevirtual 306, 3) := dq daX11_lay_131_0 9 rfl
theorem dX11_lay_15 : decode cX11_lay 15 = .ok (.ifCond .eq 15, 3) := dq daX11_lay_131_0 10 rfl
theorem dX11_lay_18 : decode cX11_lay 18 = .ok (.aload_n 0, 1) := dq daX11_lay_131_0 11 rfl
theorem dX11_lay_19 : decode cX11_lay 19 = .ok (.getfield 39, 3) := dq daX11_lay_131_0 12 rfl
theorem dX11_lay_22 : decode cX11_lay 22 = .ok (.bipush 9, 2) := dq daX11_lay_131_0 13 rfl
theorem dX11_lay_24 : decode cX11_lay 24 = .ok (.iaload, 1) := dq daX11_lay_131_0 14 rfl
theorem dX11_lay_25 : decode cX11_lay 25 = .ok (.bipush 6, 2) := dq daX11_lay_131_0 15 rfl
theorem dX11_lay_27 : decode cX11_lay 27 = .ok (.if_icmp .ne 5, 3) := dq daX11_lay_131_0 16 rfl
theorem dX11_lay_32 : decode cX11_lay 32 = .ok (.aload_n 0, 1) := dq daX11_lay_131_0 17 rfl
theorem dX11_lay_33 : decode cX11_lay 33 = .ok (.iload_n 1, 1) := dq daX11_lay_131_0 18 rfl
theorem dX11_lay_34 : decode cX11_lay 34 = .ok (.aload_n 0, 1) := dq daX11_lay_131_0 19 rfl
theorem dX11_lay_35 : decode cX11_lay 35 = .ok (.invokevirtual 375, 3) := dq daX11_lay_131_0 20 rfl
theorem dX11_lay_38 : decode cX11_lay 38 = .ok (.invokevirtual 309, 3) := dq daX11_lay_131_0 21 rfl
theorem dX11_lay_41 : decode cX11_lay 41 = .ok (.istore_n 2, 1) := dq daX11_lay_131_0 22 rfl
theorem dX11_lay_42 : decode cX11_lay 42 = .ok (.iload_n 2, 1) := dq daX11_lay_131_0 23 rfl
theorem dX11_lay_43 : decode cX11_lay 43 = .ok (.ifCond .lt 11, 3) := dq daX11_lay_131_0 24 rfl
theorem dX11_lay_54 : decode cX11_lay 54 = .ok (.iconst (-1), 1) := dq daX11_lay_131_0 25 rfl
theorem dX11_lay_55 : decode cX11_lay 55 = .ok (.ireturn, 1) := dq daX11_lay_131_0 26 rfl
theorem dX11_lay_46 : decode cX11_lay 46 = .ok (.aload_n 0, 1) := dq daX11_lay_131_0 27 rfl
theorem dX11_lay_47 : decode cX11_lay 47 = .ok (.iload_n 2, 1) := dq daX11_lay_131_0 28 rfl
theorem dX11_lay_48 : decode cX11_lay 48 = .ok (.invokevirtual 378, 3) := dq daX11_lay_131_0 29 rfl
theorem dX11_lay_51 : decode cX11_lay 51 = .ok (.ifCond .eq 5, 3) := dq daX11_lay_131_0 30 rfl
theorem dX11_lay_56 : decode cX11_lay 56 = .ok (.aload_n 0, 1) := dq daX11_lay_131_0 31 rfl
def dtX11_lay_131_1 : List (Nat × Jvm.ClassFile.Instr × Nat) := [(57, .getfield 39, 3), (60, .bipush 10, 2), (62, .aload_n 0, 1), (63, .getfield 39, 3), (66, .bipush 9, 2), (68, .iaload, 1), (69, .iadd, 1), (70, .iload_n 1, 1), (71, .iastore, 1), (72, .aload_n 0, 1), (73, .getfield 39, 3), (76, .bipush 9, 2), (78, .dup2, 1), (79, .iaload, 1), (80, .iconst 1, 1), (81, .iadd, 1), (82, .iastore, 1), (83, .aload_n 0, 1), (84, .getfield 39, 3), (87, .bipush 9, 2), (89, .iaload, 1), (90, .ireturn, 1)]
theorem daX11_lay_131_1 : dtX11_lay_131_1.all (dqd cX11_lay) = true := by decide +kernel
theorem dX11_lay_57 : decode cX11_lay 57 = .ok (.getfield 39, 3) := dq daX11_lay_131_1 0 rfl
theorem dX11_lay_60 : decode cX11_lay 60 = .ok (.bipush 10, 2) := dq daX11_lay_131_1 1 rfl
theorem dX11_lay_62 : decode cX11_lay 62 = .ok (.aload_n 0, 1) := dq daX11_lay_131_1 2 rfl
theorem dX11_lay_63 : decode cX11_lay 63 = .ok (.getfield 39, 3) := dq daX11_lay_131_1 3 rfl
theorem dX11_lay_66 : decode cX11_lay 66 = .ok (.bipush 9, 2) := dq daX11_lay_131_1 4 rfl
theorem dX11_lay_68 : decode cX11_lay 68 = .ok (.iaload, 1) := dq daX11_lay_131_1 5 rfl
theorem dX11_lay_69 : decode cX11_lay 69 = .ok (.iadd, 1) := dq daX11_lay_131_1 6 rfl
theorem dX11_lay_70 : decode cX11_lay 70 = .ok (.iload_n 1, 1) := dq daX11_lay_131_1 7 rfl
theorem dX11_lay_71 : decode cX11_lay 71 = .ok (.iastore, 1) := dq daX11_lay_131_1 8 rfl
theorem dX11_lay_72 : decode cX11_lay 72 = .ok (.aload_n 0, 1) := dq daX11_lay_131_1 9 rfl
theorem dX11_lay_73 : decode cX11_lay 73 = .ok (.getfield 39, 3) := dq daX11_lay_131_1 10 rfl
theorem dX11_lay_76 : decode cX11_lay 76 = .ok (.bipush 9, 2) := dq daX11_lay_131_1 11 rfl
theorem dX11_lay_78 : decode cX11_lay 78 = .ok (.dup2, 1) := dq daX11_lay_131_1 12 rfl
theorem dX11_lay_79 : decode cX11_lay 79 = .ok (.iaload, 1) := dq daX11_lay_131_1 13 rfl
theorem dX11_lay_80 : decode cX11_lay 80 = .ok (.iconst 1, 1) := dq daX11_lay_131_1 14 rfl
theorem dX11_lay_81 : decode cX11_lay 81 = .ok (.iadd, 1) := dq daX11_lay_131_1 15 rfl
theorem dX11_lay_82 : decode cX11_lay 82 = .ok (.iastore, 1) := dq daX11_lay_131_1 16 rfl
theorem dX11_lay_83 : decode cX11_lay 83 = .ok (.aload_n 0, 1) := dq daX11_lay_131_1 17 rfl
theorem dX11_lay_84 : decode cX11_lay 84 = .ok (.getfield 39, 3) := dq daX11_lay_131_1 18 rfl
theorem dX11_lay_87 : decode cX11_lay 87 = .ok (.bipush 9, 2) := dq daX11_lay_131_1 19 rfl
theorem dX11_lay_89 : decode cX11_lay 89 = .ok (.iaload, 1) := dq daX11_lay_131_1 20 rfl
theorem dX11_lay_90 : decode cX11_lay 90 = .ok (.ireturn, 1) := dq daX11_lay_131_1 21 rfl
