theorem kX11_canServe_1 {a : Array Value} {s : State} (hts : ∀ w ∈ wsX11_canServe, w.before a s = true) : (.fieldLink RX11 69 "SnowMulesModel" "servers" "[I" : Cond).before a s = true := kw (A := ixX11_canServe) wt163 hts (by decide +kernel)
theorem iX11_canServe_X11 : ∀ w ∈ wsX110, w ∈ wsX11_canServe := inW (A := ixX11_canServe) uwX11 (by decide +kernel)
theorem hdX11_bits : yX11_bits.cls ≠ "java/lang/invoke/MethodHandle" ∧ yX11_bits.cls ≠ "java/lang/invoke/VarHandle" ∧ (parseMethodDescriptor yX11_bits.desc).map (fun d => d.parameters.length) = some 1 := ⟨hdc_0.1, hdc_0.2, hdd_3⟩
def dtX11_canServe_135_0 : List (Nat × Jvm.ClassFile.Instr × Nat) := [(0, .iconst 1, 1), (1, .istore_n 3, 1), (2, .iload_n 3, 1), (3, .bipush 64, 2), (5, .if_icmp .ge 83, 3), (8, .iload_n 3, 1), (9, .iload_n 1, 1), (10, .iconst (-1), 1), (11, .ixor, 1), (12, .iand, 1), (13, .ifCond .eq 6, 3), (19, .iconst 0, 1), (20, .istore 4, 2), (22, .iconst 0, 1), (23, .istore 5, 2), (25, .iload 5, 2), (27, .bipush 6, 2), (29, .if_icmp .ge 35, 3), (32, .iload 4, 2), (34, .iload_n 3, 1), (35, .iload 5, 2), (37, .ishr, 1), (38, .iconst 1, 1), (39, .iand, 1), (40, .iconst 1, 1), (41, .if_icmp .ne 13, 3), (44, .aload_n 0, 1), (45, .getfield 69, 3), (48, .iload 5, 2), (50, .iaload, 1), (51, .goto 4, 3), (55, .ior, 1)]
theorem daX11_canServe_135_0 : dtX11_canServe_135_0.all (dqd cX11_canServe) = true := by decide +kernel
theorem dX11_canServe_0 : decode cX11_canServe 0 = .ok (.iconst 1, 1) := dq daX11_canServe_135_0 0 rfl
theorem dX11_canServe_1 : decode cX11_canServe 1 = .ok (.istore_n 3, 1) := dq daX11_canServe_135_0 1 rfl
theorem dX11_canServe_2 : decode cX11_canServe 2 = .ok (.iload_n 3, 1) := dq daX11_canServe_135_0 2 rfl
theorem dX11_canServe_3 : decode cX11_canServe 3 = .ok (.bipush 64, 2) := dq daX11_canServe_135_0 3 rfl
theorem dX11_canServe_5 : decode cX11_canServe 5 = .ok (.if_icmp .ge 83, 3) := dq daX11_canServe_135_0 4 rfl
theorem dX11_canServe_8 : decode cX11_canServe 8 = .ok (.iload_n 3, 1) := dq daX11_canServe_135_0 5 rfl
theorem dX11_canServe_9 : decode cX11_canServe 9 = .ok (.iload_n 1, 1) := dq daX11_canServe_135_0 6 rfl
theorem dX11_canServe_10 : decode cX11_canServe 10 = .ok (.iconst (-1), 1) := dq daX11_canServe_135_0 7 rfl
theorem dX11_canServe_11 : decode cX11_canServe 11 = .ok (.ixor, 1) := dq daX11_canServe_135_0 8 rfl
theorem dX11_canServe_12 : decode cX11_canServe 12 = .ok (.iand, 1) := dq daX11_canServe_135_0 9 rfl
theorem dX11_canServe_13 : decode cX11_canServe 13 = .ok (.ifCond .eq 6, 3) := dq daX11_canServe_135_0 10 rfl
theorem dX11_canServe_19 : decode cX11_canServe 19 = .ok (.iconst 0, 1) := dq daX11_canServe_135_0 11 rfl
theorem dX11_canServe_20 : decode cX11_canServe 20 = .ok (.istore 4, 2) := dq daX11_canServe_135_0 12 rfl
theorem dX11_canServe_22 : decode cX11_canServe 22 = .ok (.iconst 0, 1) := dq daX11_canServe_135_0 13 rfl
theorem dX11_canServe_23 : decode cX11_canServe 23 = .ok (.istore 5, 2) := dq daX11_canServe_135_0 14 rfl
theorem dX11_canServe_25 : decode cX11_canServe 25 = .ok (.iload 5, 2) := dq daX11_canServe_135_0 15 rfl
theorem dX11_canServe_27 : decode cX11_canServe 27 = .ok (.bipush 6, 2) := dq daX11_canServe_135_0 16 rfl
theorem dX11_canServe_29 : decode cX11_canServe 29 = .ok (.if_icmp .ge 35, 3) := dq daX11_canServe_135_0 17 rfl
theorem dX11_canServe_32 : decode cX11_canServe 32 = .ok (.iload 4, 2) := dq daX11_canServe_135_0 18 rfl
theorem dX11_canServe_34 : decode cX11_canServe 34 = .ok (.iload_n 3, 1) := dq daX11_canServe_135_0 19 rfl
theorem dX11_canServe_35 : decode cX11_canServe 35 = .ok (.iload 5, 2) := dq daX11_canServe_135_0 20 rfl
theorem dX11_canServe_37 : decode cX11_canServe 37 = .ok (.ishr, 1) := dq daX11_canServe_135_0 21 rfl
theorem dX11_canServe_38 : decode cX11_canServe 38 = .ok (.iconst 1, 1) := dq daX11_canServe_135_0 22 rfl
theorem dX11_canServe_39 : decode cX11_canServe 39 = .ok (.iand, 1) := dq daX11_canServe_135_0 23 rfl
theorem dX11_canServe_40 : decode cX11_canServe 40 = .ok (.iconst 1, 1) := dq daX11_canServe_135_0 24 rfl
theorem dX11_canServe_41 : decode cX11_canServe 41 = .ok (.if_icmp .ne 13, 3) := dq daX11_canServe_135_0 25 rfl
theorem dX11_canServe_44 : decode cX11_canServe 44 = .ok (.aload_n 0, 1) := dq daX11_canServe_135_0 26 rfl
theorem dX11_canServe_45 : decode cX11_canServe 45 = .ok (.getfield 69, 3) := dq daX11_canServe_135_0 27 rfl
theorem dX11_canServe_48 : decode cX11_canServe 48 = .ok (.iload 5, 2) := dq daX11_canServe_135_0 28 rfl
theorem dX11_canServe_50 : decode cX11_canServe 50 = .ok (.iaload, 1) := dq daX11_canServe_135_0 29 rfl
theorem dX11_canServe_51 : decode cX11_canServe 51 = .ok (.goto 4, 3) := dq daX11_canServe_135_0 30 rfl
theorem dX11_canServe_55 : decode cX11_canServe 55 = .ok (.ior, 1) := dq daX11_canServe_135_0 31 rfl
def dtX11_canServe_135_1 : List (Nat × Jvm.ClassFile.Instr × Nat) := [(56, .istore 4, 2), (58, .iinc 5 1, 3), (61, .goto (-36), 3), (16, .goto 66, 3), (82, .iinc 3 1, 3), (85, .goto (-83), 3), (54, .iconst 0, 1), (64, .iload 4, 2), (66, .iload_n 2, 1), (67, .iconst (-1), 1), (68, .ixor, 1), (69, .iand, 1), (70, .invokestatic 450, 3), (73, .iload_n 3, 1), (74, .invokestatic 450, 3), (77, .if_icmp .ge 5, 3), (80, .iconst 0, 1), (81, .ireturn, 1), (88, .iconst 1, 1), (89, .ireturn, 1)]
theorem daX11_canServe_135_1 : dtX11_canServe_135_1.all (dqd cX11_canServe) = true := by decide +kernel
theorem dX11_canServe_56 : decode cX11_canServe 56 = .ok (.istore 4, 2) := dq daX11_canServe_135_1 0 rfl
theorem dX11_canServe_58 : decode cX11_canServe 58 = .ok (.iinc 5 1, 3) := dq daX11_canServe_135_1 1 rfl
theorem dX11_canServe_61 : decode cX11_canServe 61 = .ok (.goto (-36), 3) := dq daX11_canServe_135_1 2 rfl
theorem dX11_canServe_16 : decode cX11_canServe 16 = .ok (.goto 66, 3) := dq daX11_canServe_135_1 3 rfl
theorem dX11_canServe_82 : decode cX11_canServe 82 = .ok (.iinc 3 1, 3) := dq daX11_canServe_135_1 4 rfl
theorem dX11_canServe_85 : decode cX11_canServe 85 = .ok (.goto (-83), 3) := dq daX11_canServe_135_1 5 rfl
theorem dX11_canServe_54 : decode cX11_canServe 54 = .ok (.iconst 0, 1) := dq daX11_canServe_135_1 6 rfl
theorem dX11_canServe_64 : decode cX11_canServe 64 = .ok (.iload 4, 2) := dq daX11_canServe_135_1 7 rfl
theorem dX11_canServe_66 : decode cX11_canServe 66 = .ok (.iload_n 2, 1) := dq daX11_canServe_135_1 8 rfl
theorem dX11_canServe_67 : decode cX11_canServe 67 = .ok (.iconst (-1), 1) := dq daX11_canServe_135_1 9 rfl
theorem dX11_canServe_68 : decode cX11_canServe 68 = .ok (.ixor, 1) := dq daX11_canServe_135_1 10 rfl
theorem dX11_canServe_69 : decode cX11_canServe 69 = .ok (.iand, 1) := dq daX11_canServe_135_1 11 rfl
theorem dX11_canServe_70 : decode cX11_canServe 70 = .ok (.invokestatic 450, 3) := dq daX11_canServe_135_1 12 rfl
theorem dX11_canServe_73 : decode cX11_canServe 73 = .ok (.iload_n 3, 1) := dq daX11_canServe_135_1 13 rfl
theorem dX11_canServe_74 : decode cX11_canServe 74 = .ok (.invokestatic 450, 3) := dq daX11_canServe_135_1 14 rfl
theorem dX11_canServe_77 : decode cX11_canServe 77 = .ok (.if_icmp .ge 5, 3) := dq daX11_canServe_135_1 15 rfl
theorem dX11_canServe_80 : decode cX11_canServe 80 = .ok (.iconst 0, 1) := dq daX11_canServe_135_1 16 rfl
theorem dX11_canServe_81 : decode cX11_canServe 81 = .ok (.ireturn, 1) := dq daX11_canServe_135_1 17 rfl
theorem dX11_canServe_88 : decode cX11_canServe 88 = .ok (.iconst 1, 1) := dq daX11_canServe_135_1 18 rfl
theorem dX11_canServe_89 : decode cX11_canServe 89 = .ok (.ireturn, 1) := dq daX11_canServe_135_1 19 rfl
