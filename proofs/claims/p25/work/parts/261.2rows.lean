theorem kX11_fact_1 {a : Array Value} {s : State} (hts : ∀ w ∈ wsX11_fact, w.before a s = true) : (.constantLong RX11 184 (7237492) : Cond).before a s = true := kw (A := ixX11_fact) wt559 hts (by decide +kernel)
theorem kX11_fact_2 {a : Array Value} {s : State} (hts : ∀ w ∈ wsX11_fact, w.before a s = true) : (.fieldLink RX11 90 "SnowMulesModel" "next" "I" : Cond).before a s = true := kw (A := ixX11_fact) wt461 hts (by decide +kernel)
theorem iX11_fact_X11 : ∀ w ∈ wsX110, w ∈ wsX11_fact := inW (A := ixX11_fact) uwX11 (by decide +kernel)
theorem hdX11_opens : yX11_opens.cls ≠ "java/lang/invoke/MethodHandle" ∧ yX11_opens.cls ≠ "java/lang/invoke/VarHandle" ∧ (parseMethodDescriptor yX11_opens.desc).map (fun d => d.parameters.length) = some 1 := ⟨hdc_0.1, hdc_0.2, hdd_1⟩
theorem hdX11_compare : yX11_compare.cls ≠ "java/lang/invoke/MethodHandle" ∧ yX11_compare.cls ≠ "java/lang/invoke/VarHandle" ∧ (parseMethodDescriptor yX11_compare.desc).map (fun d => d.parameters.length) = some 0 := ⟨hdc_0.1, hdc_0.2, hdd_22⟩
def dtX11_fact_261_0 : List (Nat × Jvm.ClassFile.Instr × Nat) := [(0, .iconst 1, 1), (1, .istore_n 1, 1), (2, .iload_n 1, 1), (3, .ifCond .eq 72, 3), (6, .iconst 0, 1), (7, .istore_n 1, 1), (8, .aload_n 0, 1), (9, .invokevirtual 93, 3), (12, .istore_n 2, 1), (13, .aload_n 0, 1), (14, .ldc2_w 184, 3), (17, .invokevirtual 101, 3), (20, .ifCond .eq 23, 3), (43, .iload_n 2, 1), (44, .bipush 91, 2), (46, .if_icmp .ne 26, 3), (72, .goto (-70), 3), (49, .aload_n 0, 1), (50, .bipush 91, 2), (52, .invokevirtual 186, 3), (55, .ifCond .ne 5, 3), (60, .aload_n 0, 1), (61, .dup, 1), (62, .getfield 90, 3), (65, .iconst 1, 1), (66, .iadd, 1), (67, .putfield 90, 3), (70, .iconst 1, 1), (71, .istore_n 1, 1), (23, .aload_n 0, 1), (24, .bipush 11, 2), (26, .invokevirtual 186, 3)]
theorem daX11_fact_261_0 : dtX11_fact_261_0.all (dqd cX11_fact) = true := by decide +kernel
theorem dX11_fact_0 : decode cX11_fact 0 = .ok (.iconst 1, 1) := dq daX11_fact_261_0 0 rfl
theorem dX11_fact_1 : decode cX11_fact 1 = .ok (.istore_n 1, 1) := dq daX11_fact_261_0 1 rfl
theorem dX11_fact_2 : decode cX11_fact 2 = .ok (.iload_n 1, 1) := dq daX11_fact_261_0 2 rfl
theorem dX11_fact_3 : decode cX11_fact 3 = .ok (.ifCond .eq 72, 3) := dq daX11_fact_261_0 3 rfl
theorem dX11_fact_6 : decode cX11_fact 6 = .ok (.iconst 0, 1) := dq daX11_fact_261_0 4 rfl
theorem dX11_fact_7 : decode cX11_fact 7 = .ok (.istore_n 1, 1) := dq daX11_fact_261_0 5 rfl
theorem dX11_fact_8 : decode cX11_fact 8 = .ok (.aload_n 0, 1) := dq daX11_fact_261_0 6 rfl
theorem dX11_fact_9 : decode cX11_fact 9 = .ok (.invokevirtual 93, 3) := dq daX11_fact_261_0 7 rfl
theorem dX11_fact_12 : decode cX11_fact 12 = .ok (.istore_n 2, 1) := dq daX11_fact_261_0 8 rfl
theorem dX11_fact_13 : decode cX11_fact 13 = .ok (.aload_n 0, 1) := dq daX11_fact_261_0 9 rfl
theorem dX11_fact_14 : decode cX11_fact 14 = .ok (.ldc2_w 184, 3) := dq daX11_fact_261_0 10 rfl
theorem dX11_fact_17 : decode cX11_fact 17 = .ok (.invokevirtual 101, 3) := dq daX11_fact_261_0 11 rfl
theorem dX11_fact_20 : decode cX11_fact 20 = .ok (.ifCond .eq 23, 3) := dq daX11_fact_261_0 12 rfl
theorem dX11_fact_43 : decode cX11_fact 43 = .ok (.iload_n 2, 1) := dq daX11_fact_261_0 13 rfl
theorem dX11_fact_44 : decode cX11_fact 44 = .ok (.bipush 91, 2) := dq daX11_fact_261_0 14 rfl
theorem dX11_fact_46 : decode cX11_fact 46 = .ok (.if_icmp .ne 26, 3) := dq daX11_fact_261_0 15 rfl
theorem dX11_fact_72 : decode cX11_fact 72 = .ok (.goto (-70), 3) := dq daX11_fact_261_0 16 rfl
theorem dX11_fact_49 : decode cX11_fact 49 = .ok (.aload_n 0, 1) := dq daX11_fact_261_0 17 rfl
theorem dX11_fact_50 : decode cX11_fact 50 = .ok (.bipush 91, 2) := dq daX11_fact_261_0 18 rfl
theorem dX11_fact_52 : decode cX11_fact 52 = .ok (.invokevirtual 186, 3) := dq daX11_fact_261_0 19 rfl
theorem dX11_fact_55 : decode cX11_fact 55 = .ok (.ifCond .ne 5, 3) := dq daX11_fact_261_0 20 rfl
theorem dX11_fact_60 : decode cX11_fact 60 = .ok (.aload_n 0, 1) := dq daX11_fact_261_0 21 rfl
theorem dX11_fact_61 : decode cX11_fact 61 = .ok (.dup, 1) := dq daX11_fact_261_0 22 rfl
theorem dX11_fact_62 : decode cX11_fact 62 = .ok (.getfield 90, 3) := dq daX11_fact_261_0 23 rfl
theorem dX11_fact_65 : decode cX11_fact 65 = .ok (.iconst 1, 1) := dq daX11_fact_261_0 24 rfl
theorem dX11_fact_66 : decode cX11_fact 66 = .ok (.iadd, 1) := dq daX11_fact_261_0 25 rfl
theorem dX11_fact_67 : decode cX11_fact 67 = .ok (.putfield 90, 3) := dq daX11_fact_261_0 26 rfl
theorem dX11_fact_70 : decode cX11_fact 70 = .ok (.iconst 1, 1) := dq daX11_fact_261_0 27 rfl
theorem dX11_fact_71 : decode cX11_fact 71 = .ok (.istore_n 1, 1) := dq daX11_fact_261_0 28 rfl
theorem dX11_fact_23 : decode cX11_fact 23 = .ok (.aload_n 0, 1) := dq daX11_fact_261_0 29 rfl
theorem dX11_fact_24 : decode cX11_fact 24 = .ok (.bipush 11, 2) := dq daX11_fact_261_0 30 rfl
theorem dX11_fact_26 : decode cX11_fact 26 = .ok (.invokevirtual 186, 3) := dq daX11_fact_261_0 31 rfl
def dtX11_fact_261_1 : List (Nat × Jvm.ClassFile.Instr × Nat) := [(29, .ifCond .ne 5, 3), (34, .aload_n 0, 1), (35, .invokevirtual 105, 3), (38, .iconst 1, 1), (39, .istore_n 1, 1), (40, .goto 32, 3), (32, .iconst 0, 1), (58, .iconst 0, 1), (33, .ireturn, 1), (59, .ireturn, 1), (75, .aload_n 0, 1), (76, .invokevirtual 189, 3), (79, .ireturn, 1)]
theorem daX11_fact_261_1 : dtX11_fact_261_1.all (dqd cX11_fact) = true := by decide +kernel
theorem dX11_fact_29 : decode cX11_fact 29 = .ok (.ifCond .ne 5, 3) := dq daX11_fact_261_1 0 rfl
theorem dX11_fact_34 : decode cX11_fact 34 = .ok (.aload_n 0, 1) := dq daX11_fact_261_1 1 rfl
theorem dX11_fact_35 : decode cX11_fact 35 = .ok (.invokevirtual 105, 3) := dq daX11_fact_261_1 2 rfl
theorem dX11_fact_38 : decode cX11_fact 38 = .ok (.iconst 1, 1) := dq daX11_fact_261_1 3 rfl
theorem dX11_fact_39 : decode cX11_fact 39 = .ok (.istore_n 1, 1) := dq daX11_fact_261_1 4 rfl
theorem dX11_fact_40 : decode cX11_fact 40 = .ok (.goto 32, 3) := dq daX11_fact_261_1 5 rfl
theorem dX11_fact_32 : decode cX11_fact 32 = .ok (.iconst 0, 1) := dq daX11_fact_261_1 6 rfl
theorem dX11_fact_58 : decode cX11_fact 58 = .ok (.iconst 0, 1) := dq daX11_fact_261_1 7 rfl
theorem dX11_fact_33 : decode cX11_fact 33 = .ok (.ireturn, 1) := dq daX11_fact_261_1 8 rfl
theorem dX11_fact_59 : decode cX11_fact 59 = .ok (.ireturn, 1) := dq daX11_fact_261_1 9 rfl
theorem dX11_fact_75 : decode cX11_fact 75 = .ok (.aload_n 0, 1) := dq daX11_fact_261_1 10 rfl
theorem dX11_fact_76 : decode cX11_fact 76 = .ok (.invokevirtual 189, 3) := dq daX11_fact_261_1 11 rfl
theorem dX11_fact_79 : decode cX11_fact 79 = .ok (.ireturn, 1) := dq daX11_fact_261_1 12 rfl
