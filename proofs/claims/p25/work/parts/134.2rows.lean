def dtX11_bits_134_0 : List (Nat × Jvm.ClassFile.Instr × Nat) := [(0, .iconst 0, 1), (1, .istore_n 1, 1), (2, .iload_n 0, 1), (3, .istore_n 2, 1), (4, .iload_n 2, 1), (5, .ifCond .eq 15, 3), (8, .iinc 1 1, 3), (11, .iload_n 2, 1), (12, .iload_n 2, 1), (13, .iconst 1, 1), (14, .isub, 1), (15, .iand, 1), (16, .istore_n 2, 1), (17, .goto (-13), 3), (20, .iload_n 1, 1), (21, .ireturn, 1)]
theorem daX11_bits_134_0 : dtX11_bits_134_0.all (dqd cX11_bits) = true := by decide +kernel
theorem dX11_bits_0 : decode cX11_bits 0 = .ok (.iconst 0, 1) := dq daX11_bits_134_0 0 rfl
theorem dX11_bits_1 : decode cX11_bits 1 = .ok (.istore_n 1, 1) := dq daX11_bits_134_0 1 rfl
theorem dX11_bits_2 : decode cX11_bits 2 = .ok (.iload_n 0, 1) := dq daX11_bits_134_0 2 rfl
theorem dX11_bits_3 : decode cX11_bits 3 = .ok (.istore_n 2, 1) := dq daX11_bits_134_0 3 rfl
theorem dX11_bits_4 : decode cX11_bits 4 = .ok (.iload_n 2, 1) := dq daX11_bits_134_0 4 rfl
theorem dX11_bits_5 : decode cX11_bits 5 = .ok (.ifCond .eq 15, 3) := dq daX11_bits_134_0 5 rfl
theorem dX11_bits_8 : decode cX11_bits 8 = .ok (.iinc 1 1, 3) := dq daX11_bits_134_0 6 rfl
theorem dX11_bits_11 : decode cX11_bits 11 = .ok (.iload_n 2, 1) := dq daX11_bits_134_0 7 rfl
theorem dX11_bits_12 : decode cX11_bits 12 = .ok (.iload_n 2, 1) := dq daX11_bits_134_0 8 rfl
theorem dX11_bits_13 : decode cX11_bits 13 = .ok (.iconst 1, 1) := dq daX11_bits_134_0 9 rfl
theorem dX11_bits_14 : decode cX11_bits 14 = .ok (.isub, 1) := dq daX11_bits_134_0 10 rfl
theorem dX11_bits_15 : decode cX11_bits 15 = .ok (.iand, 1) := dq daX11_bits_134_0 11 rfl
theorem dX11_bits_16 : decode cX11_bits 16 = .ok (.istore_n 2, 1) := dq daX11_bits_134_0 12 rfl
theorem dX11_bits_17 : decode cX11_bits 17 = .ok (.goto (-13), 3) := dq daX11_bits_134_0 13 rfl
theorem dX11_bits_20 : decode cX11_bits 20 = .ok (.iload_n 1, 1) := dq daX11_bits_134_0 14 rfl
theorem dX11_bits_21 : decode cX11_bits 21 = .ok (.ireturn, 1) := dq daX11_bits_134_0 15 rfl
