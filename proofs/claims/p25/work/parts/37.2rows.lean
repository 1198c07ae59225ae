theorem kX3_open_1 {a : Array Value} {s : State} (hts : ∀ w ∈ wsX3_open, w.before a s = true) : (.fieldLink RX3 9 "SnowMules$Market" "offers" "[I" : Cond).before a s = true := kw (A := ixX3_open) wt135 hts (by decide +kernel)
theorem kX3_offer_1 {a : Array Value} {s : State} (hts : ∀ w ∈ wsX3_offer, w.before a s = true) : (.fieldLink RX3 9 "SnowMules$Market" "offers" "[I" : Cond).before a s = true := kw (A := ixX3_offer) wt135 hts (by decide +kernel)
theorem kX3_jarFor_1 {a : Array Value} {s : State} (hts : ∀ w ∈ wsX3_jarFor, w.before a s = true) : (.fieldLink RX3 18 "SnowMules$Market" "world" "LSnowMules$World;" : Cond).before a s = true := kw (A := ixX3_jarFor) wt137 hts (by decide +kernel)
theorem kX3_jarFor_2 {a : Array Value} {s : State} (hts : ∀ w ∈ wsX3_jarFor, w.before a s = true) : (.fieldLink RX3 22 "SnowMules$World" "orders" "LSnowMules$Table;" : Cond).before a s = true := kw (A := ixX3_jarFor) wt1242 hts (by decide +kernel)
theorem kX3_jarFor_3 {a : Array Value} {s : State} (hts : ∀ w ∈ wsX3_jarFor, w.before a s = true) : (.fieldLink RX3 15 "SnowMules$Market" "chosen" "[I" : Cond).before a s = true := kw (A := ixX3_jarFor) wt136 hts (by decide +kernel)
theorem kX3_priceOf_1 {a : Array Value} {s : State} (hts : ∀ w ∈ wsX3_priceOf, w.before a s = true) : (.fieldLink RX3 18 "SnowMules$Market" "world" "LSnowMules$World;" : Cond).before a s = true := kw (A := ixX3_priceOf) wt137 hts (by decide +kernel)
theorem kX3_priceOf_2 {a : Array Value} {s : State} (hts : ∀ w ∈ wsX3_priceOf, w.before a s = true) : (.fieldLink RX3 22 "SnowMules$World" "orders" "LSnowMules$Table;" : Cond).before a s = true := kw (A := ixX3_priceOf) wt1242 hts (by decide +kernel)
theorem kJ6_bitCount_0f7a4_1 {a : Array Value} {s : State} (hts : ∀ w ∈ wsJ6_bitCount_0f7a4, w.before a s = true) : (.constant RJ6 265 (1431655765) : Cond).before a s = true := kw (A := ixJ6_bitCount_0f7a4) wt1261 hts (by decide +kernel)
theorem kJ6_bitCount_0f7a4_2 {a : Array Value} {s : State} (hts : ∀ w ∈ wsJ6_bitCount_0f7a4, w.before a s = true) : (.constant RJ6 266 (858993459) : Cond).before a s = true := kw (A := ixJ6_bitCount_0f7a4) wt1262 hts (by decide +kernel)
theorem kJ6_bitCount_0f7a4_3 {a : Array Value} {s : State} (hts : ∀ w ∈ wsJ6_bitCount_0f7a4, w.before a s = true) : (.constant RJ6 267 (252645135) : Cond).before a s = true := kw (A := ixJ6_bitCount_0f7a4) wt1263 hts (by decide +kernel)
theorem kX3_canServe_1 {a : Array Value} {s : State} (hts : ∀ w ∈ wsX3_canServe, w.before a s = true) : (.fieldLink RX3 9 "SnowMules$Market" "offers" "[I" : Cond).before a s = true := kw (A := ixX3_canServe) wt135 hts (by decide +kernel)
theorem kX3_greatest_1 {a : Array Value} {s : State} (hts : ∀ w ∈ wsX3_greatest, w.before a s = true) : (.fieldLink RX3 18 "SnowMules$Market" "world" "LSnowMules$World;" : Cond).before a s = true := kw (A := ixX3_greatest) wt137 hts (by decide +kernel)
theorem kX3_greatest_2 {a : Array Value} {s : State} (hts : ∀ w ∈ wsX3_greatest, w.before a s = true) : (.fieldLink RX3 22 "SnowMules$World" "orders" "LSnowMules$Table;" : Cond).before a s = true := kw (A := ixX3_greatest) wt1242 hts (by decide +kernel)
theorem kX3_greatest_3 {a : Array Value} {s : State} (hts : ∀ w ∈ wsX3_greatest, w.before a s = true) : (.fieldLink RX3 42 "SnowMules$Table" "size" "I" : Cond).before a s = true := kw (A := ixX3_greatest) wt1243 hts (by decide +kernel)
theorem kX3_firstJar_1 {a : Array Value} {s : State} (hts : ∀ w ∈ wsX3_firstJar, w.before a s = true) : (.fieldLink RX3 18 "SnowMules$Market" "world" "LSnowMules$World;" : Cond).before a s = true := kw (A := ixX3_firstJar) wt137 hts (by decide +kernel)
theorem kX3_firstJar_2 {a : Array Value} {s : State} (hts : ∀ w ∈ wsX3_firstJar, w.before a s = true) : (.fieldLink RX3 22 "SnowMules$World" "orders" "LSnowMules$Table;" : Cond).before a s = true := kw (A := ixX3_firstJar) wt1242 hts (by decide +kernel)
theorem kX3_firstJar_3 {a : Array Value} {s : State} (hts : ∀ w ∈ wsX3_firstJar, w.before a s = true) : (.fieldLink RX3 9 "SnowMules$Market" "offers" "[I" : Cond).before a s = true := kw (A := ixX3_firstJar) wt135 hts (by decide +kernel)
theorem kX3_choose_1 {a : Array Value} {s : State} (hts : ∀ w ∈ wsX3_choose, w.before a s = true) : (.fieldLink RX3 38 "SnowMules$Market" "paid" "I" : Cond).before a s = true := kw (A := ixX3_choose) wt1241 hts (by decide +kernel)
theorem kX3_choose_2 {a : Array Value} {s : State} (hts : ∀ w ∈ wsX3_choose, w.before a s = true) : (.fieldLink RX3 18 "SnowMules$Market" "world" "LSnowMules$World;" : Cond).before a s = true := kw (A := ixX3_choose) wt137 hts (by decide +kernel)
theorem kX3_choose_3 {a : Array Value} {s : State} (hts : ∀ w ∈ wsX3_choose, w.before a s = true) : (.fieldLink RX3 22 "SnowMules$World" "orders" "LSnowMules$Table;" : Cond).before a s = true := kw (A := ixX3_choose) wt1242 hts (by decide +kernel)
theorem kX3_choose_4 {a : Array Value} {s : State} (hts : ∀ w ∈ wsX3_choose, w.before a s = true) : (.fieldLink RX3 42 "SnowMules$Table" "size" "I" : Cond).before a s = true := kw (A := ixX3_choose) wt1243 hts (by decide +kernel)
theorem kX3_choose_5 {a : Array Value} {s : State} (hts : ∀ w ∈ wsX3_choose, w.before a s = true) : (.fieldLink RX3 15 "SnowMules$Market" "chosen" "[I" : Cond).before a s = true := kw (A := ixX3_choose) wt136 hts (by decide +kernel)
theorem iX3_open_X3 : ∀ w ∈ wsX30, w ∈ wsX3_open := inW (A := ixX3_open) uwX3 (by decide +kernel)
theorem iX3_offer_X3 : ∀ w ∈ wsX30, w ∈ wsX3_offer := inW (A := ixX3_offer) uwX3 (by decide +kernel)
theorem iX3_jarFor_X3 : ∀ w ∈ wsX30, w ∈ wsX3_jarFor := inW (A := ixX3_jarFor) uwX3 (by decide +kernel)
theorem iX3_jarFor_X9 : ∀ w ∈ wsX90, w ∈ wsX3_jarFor := inW (A := ixX3_jarFor) uwX9 (by decide +kernel)
theorem iX3_priceOf_X3 : ∀ w ∈ wsX30, w ∈ wsX3_priceOf := inW (A := ixX3_priceOf) uwX3 (by decide +kernel)
theorem iX3_priceOf_X9 : ∀ w ∈ wsX90, w ∈ wsX3_priceOf := inW (A := ixX3_priceOf) uwX9 (by decide +kernel)
theorem iX3_canServe_X3 : ∀ w ∈ wsX30, w ∈ wsX3_canServe := inW (A := ixX3_canServe) uwX3 (by decide +kernel)
theorem iX3_greatest_X3 : ∀ w ∈ wsX30, w ∈ wsX3_greatest := inW (A := ixX3_greatest) uwX3 (by decide +kernel)
theorem iX3_greatest_X9 : ∀ w ∈ wsX90, w ∈ wsX3_greatest := inW (A := ixX3_greatest) uwX9 (by decide +kernel)
theorem iX3_greatest_X6 : ∀ w ∈ wsX60, w ∈ wsX3_greatest := inW (A := ixX3_greatest) uwX6 (by decide +kernel)
theorem iX3_firstJar_X3 : ∀ w ∈ wsX30, w ∈ wsX3_firstJar := inW (A := ixX3_firstJar) uwX3 (by decide +kernel)
theorem iX3_firstJar_X9 : ∀ w ∈ wsX90, w ∈ wsX3_firstJar := inW (A := ixX3_firstJar) uwX9 (by decide +kernel)
theorem iX3_choose_X3 : ∀ w ∈ wsX30, w ∈ wsX3_choose := inW (A := ixX3_choose) uwX3 (by decide +kernel)
theorem iX3_choose_X9 : ∀ w ∈ wsX90, w ∈ wsX3_choose := inW (A := ixX3_choose) uwX9 (by decide +kernel)
theorem iX3_choose_X6 : ∀ w ∈ wsX60, w ∈ wsX3_choose := inW (A := ixX3_choose) uwX6 (by decide +kernel)
theorem hdJ6_bitCount_0f7a4 : yJ6_bitCount_0f7a4.cls ≠ "java/lang/invoke/MethodHandle" ∧ yJ6_bitCount_0f7a4.cls ≠ "java/lang/invoke/VarHandle" ∧ (parseMethodDescriptor yJ6_bitCount_0f7a4.desc).map (fun d => d.parameters.length) = some 1 := ⟨hdc_9.1, hdc_9.2, hdd_3⟩
theorem hdX3_priceOf : yX3_priceOf.cls ≠ "java/lang/invoke/MethodHandle" ∧ yX3_priceOf.cls ≠ "java/lang/invoke/VarHandle" ∧ (parseMethodDescriptor yX3_priceOf.desc).map (fun d => d.parameters.length) = some 1 := ⟨hdc_10.1, hdc_10.2, hdd_3⟩
theorem hdX3_canServe : yX3_canServe.cls ≠ "java/lang/invoke/MethodHandle" ∧ yX3_canServe.cls ≠ "java/lang/invoke/VarHandle" ∧ (parseMethodDescriptor yX3_canServe.desc).map (fun d => d.parameters.length) = some 2 := ⟨hdc_10.1, hdc_10.2, hdd_4⟩
theorem hdX3_greatest : yX3_greatest.cls ≠ "java/lang/invoke/MethodHandle" ∧ yX3_greatest.cls ≠ "java/lang/invoke/VarHandle" ∧ (parseMethodDescriptor yX3_greatest.desc).map (fun d => d.parameters.length) = some 2 := ⟨hdc_10.1, hdc_10.2, hdd_0⟩
theorem hdX3_firstJar : yX3_firstJar.cls ≠ "java/lang/invoke/MethodHandle" ∧ yX3_firstJar.cls ≠ "java/lang/invoke/VarHandle" ∧ (parseMethodDescriptor yX3_firstJar.desc).map (fun d => d.parameters.length) = some 3 := ⟨hdc_10.1, hdc_10.2, hdd_15⟩
def dtX3_open_37_0 : List (Nat × Jvm.ClassFile.Instr × Nat) := [(0, .iconst 0, 1), (1, .istore_n 1, 1), (2, .iload_n 1, 1), (3, .bipush 6, 2), (5, .if_icmp .ge 16, 3), (8, .aload_n 0, 1), (9, .getfield 9, 3), (12, .iload_n 1, 1), (13, .iconst 0, 1), (14, .iastore, 1), (15, .iinc 1 1, 3), (18, .goto (-16), 3), (21, .return_, 1)]
theorem daX3_open_37_0 : dtX3_open_37_0.all (dqd cX3_open) = true := by decide +kernel
theorem dX3_open_0 : decode cX3_open 0 = .ok (.iconst 0, 1) := dq daX3_open_37_0 0 rfl
theorem dX3_open_1 : decode cX3_open 1 = .ok (.istore_n 1, 1) := dq daX3_open_37_0 1 rfl
theorem dX3_open_2 : decode cX3_open 2 = .ok (.iload_n 1, 1) := dq daX3_open_37_0 2 rfl
theorem dX3_open_3 : decode cX3_open 3 = .ok (.bipush 6, 2) := dq daX3_open_37_0 3 rfl
theorem dX3_open_5 : decode cX3_open 5 = .ok (.if_icmp .ge 16, 3) := dq daX3_open_37_0 4 rfl
theorem dX3_open_8 : decode cX3_open 8 = .ok (.aload_n 0, 1) := dq daX3_open_37_0 5 rfl
theorem dX3_open_9 : decode cX3_open 9 = .ok (.getfield 9, 3) := dq daX3_open_37_0 6 rfl
theorem dX3_open_12 : decode cX3_open 12 = .ok (.iload_n 1, 1) := dq daX3_open_37_0 7 rfl
theorem dX3_open_13 : decode cX3_open 13 = .ok (.iconst 0, 1) := dq daX3_open_37_0 8 rfl
theorem dX3_open_14 : decode cX3_open 14 = .ok (.iastore, 1) := dq daX3_open_37_0 9 rfl
theorem dX3_open_15 : decode cX3_open 15 = .ok (.iinc 1 1, 3) := dq daX3_open_37_0 10 rfl
theorem dX3_open_18 : decode cX3_open 18 = .ok (.goto (-16), 3) := dq daX3_open_37_0 11 rfl
theorem dX3_open_21 : decode cX3_open 21 = .ok (.return_, 1) := dq daX3_open_37_0 12 rfl
def dtX3_offer_37_0 : List (Nat × Jvm.ClassFile.Instr × Nat) := [(0, .iload_n 2, 1), (1, .ifCond .lt 21, 3), (22, .return_, 1), (4, .iload_n 2, 1), (5, .bipush 6, 2), (7, .if_icmp .ge 15, 3), (10, .aload_n 0, 1), (11, .getfield 9, 3), (14, .iload_n 2, 1), (15, .dup2, 1), (16, .iaload, 1), (17, .iconst 1, 1), (18, .iload_n 1, 1), (19, .ishl, 1), (20, .ior, 1), (21, .iastore, 1)]
theorem daX3_offer_37_0 : dtX3_offer_37_0.all (dqd cX3_offer) = true := by decide +kernel
theorem dX3_offer_0 : decode cX3_offer 0 = .ok (.iload_n 2, 1) := dq daX3_offer_37_0 0 rfl
theorem dX3_offer_1 : decode cX3_offer 1 = .ok (.ifCond .lt 21, 3) := dq daX3_offer_37_0 1 rfl
theorem dX3_offer_22 : decode cX3_offer 22 = .ok (.return_, 1) := dq daX3_offer_37_0 2 rfl
theorem dX3_offer_4 : decode cX3_offer 4 = .ok (.iload_n 2, 1) := dq daX3_offer_37_0 3 rfl
theorem dX3_offer_5 : decode cX3_offer 5 = .ok (.bipush 6, 2) := dq daX3_offer_37_0 4 rfl
theorem dX3_offer_7 : decode cX3_offer 7 = .ok (.if_icmp .ge 15, 3) := dq daX3_offer_37_0 5 rfl
theorem dX3_offer_10 : decode cX3_offer 10 = .ok (.aload_n 0, 1) := dq daX3_offer_37_0 6 rfl
theorem dX3_offer_11 : decode cX3_offer 11 = .ok (.getfield 9, 3) := dq daX3_offer_37_0 7 rfl
theorem dX3_offer_14 : decode cX3_offer 14 = .ok (.iload_n 2, 1) := dq daX3_offer_37_0 8 rfl
theorem dX3_offer_15 : decode cX3_offer 15 = .ok (.dup2, 1) := dq daX3_offer_37_0 9 rfl
theorem dX3_offer_16 : decode cX3_offer 16 = .ok (.iaload, 1) := dq daX3_offer_37_0 10 rfl
theorem dX3_offer_17 : decode cX3_offer 17 = .ok (.iconst 1, 1) := dq daX3_offer_37_0 11 rfl
theorem dX3_offer_18 : decode cX3_offer 18 = .ok (.iload_n 1, 1) := dq daX3_offer_37_0 12 rfl
theorem dX3_offer_19 : decode cX3_offer 19 = .ok (.ishl, 1) := dq daX3_offer_37_0 13 rfl
theorem dX3_offer_20 : decode cX3_offer 20 = .ok (.ior, 1) := dq daX3_offer_37_0 14 rfl
theorem dX3_offer_21 : decode cX3_offer 21 = .ok (.iastore, 1) := dq daX3_offer_37_0 15 rfl
def dtX3_jarFor_37_0 : List (Nat × Jvm.ClassFile.Instr × Nat) := [(0, .aload_n 0, 1), (1, .getfield 18, 3), (4, .getfield 22, 3), (7, .iload_n 1, 1), (8, .invokevirtual 28, 3), (11, .ifCond .eq 18, 3), (29, .bipush (-2), 2), (31, .ireturn, 1), (14, .iload_n 1, 1), (15, .bipush 6, 2), (17, .if_icmp .ge 12, 3), (20, .aload_n 0, 1), (21, .getfield 15, 3), (24, .iload_n 1, 1), (25, .iaload, 1), (26, .goto 5, 3)]
theorem daX3_jarFor_37_0 : dtX3_jarFor_37_0.all (dqd cX3_jarFor) = true := by decide +kernel
theorem dX3_jarFor_0 : decode cX3_jarFor 0 = .ok (.aload_n 0, 1) := dq daX3_jarFor_37_0 0 rfl
theorem dX3_jarFor_1 : decode cX3_jarFor 1 = .ok (.getfield 18, 3) := dq daX3_jarFor_37_0 1 rfl
theorem dX3_jarFor_4 : decode cX3_jarFor 4 = .ok (.getfield 22, 3) := dq daX3_jarFor_37_0 2 rfl
theorem dX3_jarFor_7 : decode cX3_jarFor 7 = .ok (.iload_n 1, 1) := dq daX3_jarFor_37_0 3 rfl
theorem dX3_jarFor_8 : decode cX3_jarFor 8 = .ok (.invokevirtual 28, 3) := dq daX3_jarFor_37_0 4 rfl
theorem dX3_jarFor_11 : decode cX3_jarFor 11 = .ok (.ifCond .eq 18, 3) := dq daX3_jarFor_37_0 5 rfl
theorem dX3_jarFor_29 : decode cX3_jarFor 29 = .ok (.bipush (-2), 2) := dq daX3_jarFor_37_0 6 rfl
theorem dX3_jarFor_31 : decode cX3_jarFor 31 = .ok (.ireturn, 1) := dq daX3_jarFor_37_0 7 rfl
theorem dX3_jarFor_14 : decode cX3_jarFor 14 = .ok (.iload_n 1, 1) := dq daX3_jarFor_37_0 8 rfl
theorem dX3_jarFor_15 : decode cX3_jarFor 15 = .ok (.bipush 6, 2) := dq daX3_jarFor_37_0 9 rfl
theorem dX3_jarFor_17 : decode cX3_jarFor 17 = .ok (.if_icmp .ge 12, 3) := dq daX3_jarFor_37_0 10 rfl
theorem dX3_jarFor_20 : decode cX3_jarFor 20 = .ok (.aload_n 0, 1) := dq daX3_jarFor_37_0 11 rfl
theorem dX3_jarFor_21 : decode cX3_jarFor 21 = .ok (.getfield 15, 3) := dq daX3_jarFor_37_0 12 rfl
theorem dX3_jarFor_24 : decode cX3_jarFor 24 = .ok (.iload_n 1, 1) := dq daX3_jarFor_37_0 13 rfl
theorem dX3_jarFor_25 : decode cX3_jarFor 25 = .ok (.iaload, 1) := dq daX3_jarFor_37_0 14 rfl
theorem dX3_jarFor_26 : decode cX3_jarFor 26 = .ok (.goto 5, 3) := dq daX3_jarFor_37_0 15 rfl
def dtX3_priceOf_37_0 : List (Nat × Jvm.ClassFile.Instr × Nat) := [(0, .iconst 0, 1), (1, .istore_n 2, 1), (2, .iconst 0, 1), (3, .istore_n 3, 1), (4, .iload_n 3, 1), (5, .bipush 6, 2), (7, .if_icmp .ge 33, 3), (10, .iload_n 1, 1), (11, .iload_n 3, 1), (12, .ishr, 1), (13, .iconst 1, 1), (14, .iand, 1), (15, .iconst 1, 1), (16, .if_icmp .ne 18, 3), (34, .iinc 3 1, 3), (37, .goto (-33), 3), (19, .iload_n 2, 1), (20, .aload_n 0, 1), (21, .getfield 18, 3), (24, .getfield 22, 3), (27, .iload_n 3, 1), (28, .iconst 3, 1), (29, .invokevirtual 49, 3), (32, .iadd, 1), (33, .istore_n 2, 1), (40, .iload_n 2, 1), (41, .ireturn, 1)]
theorem daX3_priceOf_37_0 : dtX3_priceOf_37_0.all (dqd cX3_priceOf) = true := by decide +kernel
theorem dX3_priceOf_0 : decode cX3_priceOf 0 = .ok (.iconst 0, 1) := dq daX3_priceOf_37_0 0 rfl
theorem dX3_priceOf_1 : decode cX3_priceOf 1 = .ok (.istore_n 2, 1) := dq daX3_priceOf_37_0 1 rfl
theorem dX3_priceOf_2 : decode cX3_priceOf 2 = .ok (.iconst 0, 1) := dq daX3_priceOf_37_0 2 rfl
theorem dX3_priceOf_3 : decode cX3_priceOf 3 = .ok (.istore_n 3, 1) := dq daX3_priceOf_37_0 3 rfl
theorem dX3_priceOf_4 : decode cX3_priceOf 4 = .ok (.iload_n 3, 1) := dq daX3_priceOf_37_0 4 rfl
theorem dX3_priceOf_5 : decode cX3_priceOf 5 = .ok (.bipush 6, 2) := dq daX3_priceOf_37_0 5 rfl
theorem dX3_priceOf_7 : decode cX3_priceOf 7 = .ok (.if_icmp .ge 33, 3) := dq daX3_priceOf_37_0 6 rfl
theorem dX3_priceOf_10 : decode cX3_priceOf 10 = .ok (.iload_n 1, 1) := dq daX3_priceOf_37_0 7 rfl
theorem dX3_priceOf_11 : decode cX3_priceOf 11 = .ok (.iload_n 3, 1) := dq daX3_priceOf_37_0 8 rfl
theorem dX3_priceOf_12 : decode cX3_priceOf 12 = .ok (.ishr, 1) := dq daX3_priceOf_37_0 9 rfl
theorem dX3_priceOf_13 : decode cX3_priceOf 13 = .ok (.iconst 1, 1) := dq daX3_priceOf_37_0 10 rfl
theorem dX3_priceOf_14 : decode cX3_priceOf 14 = .ok (.iand, 1) := dq daX3_priceOf_37_0 11 rfl
theorem dX3_priceOf_15 : decode cX3_priceOf 15 = .ok (.iconst 1, 1) := dq daX3_priceOf_37_0 12 rfl
theorem dX3_priceOf_16 : decode cX3_priceOf 16 = .ok (.if_icmp .ne 18, 3) := dq daX3_priceOf_37_0 13 rfl
theorem dX3_priceOf_34 : decode cX3_priceOf 34 = .ok (.iinc 3 1, 3) := dq daX3_priceOf_37_0 14 rfl
theorem dX3_priceOf_37 : decode cX3_priceOf 37 = .ok (.goto (-33), 3) := dq daX3_priceOf_37_0 15 rfl
theorem dX3_priceOf_19 : decode cX3_priceOf 19 = .ok (.iload_n 2, 1) := dq daX3_priceOf_37_0 16 rfl
theorem dX3_priceOf_20 : decode cX3_priceOf 20 = .ok (.aload_n 0, 1) := dq daX3_priceOf_37_0 17 rfl
theorem dX3_priceOf_21 : decode cX3_priceOf 21 = .ok (.getfield 18, 3) := dq daX3_priceOf_37_0 18 rfl
theorem dX3_priceOf_24 : decode cX3_priceOf 24 = .ok (.getfield 22, 3) := dq daX3_priceOf_37_0 19 rfl
theorem dX3_priceOf_27 : decode cX3_priceOf 27 = .ok (.iload_n 3, 1) := dq daX3_priceOf_37_0 20 rfl
theorem dX3_priceOf_28 : decode cX3_priceOf 28 = .ok (.iconst 3, 1) := dq daX3_priceOf_37_0 21 rfl
theorem dX3_priceOf_29 : decode cX3_priceOf 29 = .ok (.invokevirtual 49, 3) := dq daX3_priceOf_37_0 22 rfl
theorem dX3_priceOf_32 : decode cX3_priceOf 32 = .ok (.iadd, 1) := dq daX3_priceOf_37_0 23 rfl
theorem dX3_priceOf_33 : decode cX3_priceOf 33 = .ok (.istore_n 2, 1) := dq daX3_priceOf_37_0 24 rfl
theorem dX3_priceOf_40 : decode cX3_priceOf 40 = .ok (.iload_n 2, 1) := dq daX3_priceOf_37_0 25 rfl
theorem dX3_priceOf_41 : decode cX3_priceOf 41 = .ok (.ireturn, 1) := dq daX3_priceOf_37_0 26 rfl
def dtJ6_bitCount_0f7a4_37_0 : List (Nat × Jvm.ClassFile.Instr × Nat) := [(0, .iload_n 0, 1), (1, .iload_n 0, 1), (2, .iconst 1, 1), (3, .iushr, 1), (4, .ldc_w 265, 3), (7, .iand, 1), (8, .isub, 1), (9, .istore_n 0, 1), (10, .iload_n 0, 1), (11, .ldc_w 266, 3), (14, .iand, 1), (15, .iload_n 0, 1), (16, .iconst 2, 1), (17, .iushr, 1), (18, .ldc_w 266, 3), (21, .iand, 1), (22, .iadd, 1), (23, .istore_n 0, 1), (24, .iload_n 0, 1), (25, .iload_n 0, 1), (26, .iconst 4, 1), (27, .iushr, 1), (28, .iadd, 1), (29, .ldc_w 267, 3), (32, .iand, 1), (33, .istore_n 0, 1), (34, .iload_n 0, 1), (35, .iload_n 0, 1), (36, .bipush 8, 2), (38, .iushr, 1), (39, .iadd, 1), (40, .istore_n 0, 1)]
theorem daJ6_bitCount_0f7a4_37_0 : dtJ6_bitCount_0f7a4_37_0.all (dqd cJ6_bitCount_0f7a4) = true := by decide +kernel
theorem dJ6_bitCount_0f7a4_0 : decode cJ6_bitCount_0f7a4 0 = .ok (.iload_n 0, 1) := dq daJ6_bitCount_0f7a4_37_0 0 rfl
theorem dJ6_bitCount_0f7a4_1 : decode cJ6_bitCount_0f7a4 1 = .ok (.iload_n 0, 1) := dq daJ6_bitCount_0f7a4_37_0 1 rfl
theorem dJ6_bitCount_0f7a4_2 : decode cJ6_bitCount_0f7a4 2 = .ok (.iconst 1, 1) := dq daJ6_bitCount_0f7a4_37_0 2 rfl
theorem dJ6_bitCount_0f7a4_3 : decode cJ6_bitCount_0f7a4 3 = .ok (.iushr, 1) := dq daJ6_bitCount_0f7a4_37_0 3 rfl
theorem dJ6_bitCount_0f7a4_4 : decode cJ6_bitCount_0f7a4 4 = .ok (.ldc_w 265, 3) := dq daJ6_bitCount_0f7a4_37_0 4 rfl
theorem dJ6_bitCount_0f7a4_7 : decode cJ6_bitCount_0f7a4 7 = .ok (.iand, 1) := dq daJ6_bitCount_0f7a4_37_0 5 rfl
theorem dJ6_bitCount_0f7a4_8 : decode cJ6_bitCount_0f7a4 8 = .ok (.isub, 1) := dq daJ6_bitCount_0f7a4_37_0 6 rfl
theorem dJ6_bitCount_0f7a4_9 : decode cJ6_bitCount_0f7a4 9 = .ok (.istore_n 0, 1) := dq daJ6_bitCount_0f7a4_37_0 7 rfl
theorem dJ6_bitCount_0f7a4_10 : decode cJ6_bitCount_0f7a4 10 = .ok (.iload_n 0, 1) := dq daJ6_bitCount_0f7a4_37_0 8 rfl
theorem dJ6_bitCount_0f7a4_11 : decode cJ6_bitCount_0f7a4 11 = .ok (.ldc_w 266, 3) := dq daJ6_bitCount_0f7a4_37_0 9 rfl
theorem dJ6_bitCount_0f7a4_14 : decode cJ6_bitCount_0f7a4 14 = .ok (.iand, 1) := dq daJ6_bitCount_0f7a4_37_0 10 rfl
theorem dJ6_bitCount_0f7a4_15 : decode cJ6_bitCount_0f7a4 15 = .ok (.iload_n 0, 1) := dq daJ6_bitCount_0f7a4_37_0 11 rfl
theorem dJ6_bitCount_0f7a4_16 : decode cJ6_bitCount_0f7a4 16 = .ok (.iconst 2, 1) := dq daJ6_bitCount_0f7a4_37_0 12 rfl
theorem dJ6_bitCount_0f7a4_17 : decode cJ6_bitCount_0f7a4 17 = .ok (.iushr, 1) := dq daJ6_bitCount_0f7a4_37_0 13 rfl
theorem dJ6_bitCount_0f7a4_18 : decode cJ6_bitCount_0f7a4 18 = .ok (.ldc_w 266, 3) := dq daJ6_bitCount_0f7a4_37_0 14 rfl
theorem dJ6_bitCount_0f7a4_21 : decode cJ6_bitCount_0f7a4 21 = .ok (.iand, 1) := dq daJ6_bitCount_0f7a4_37_0 15 rfl
theorem dJ6_bitCount_0f7a4_22 : decode cJ6_bitCount_0f7a4 22 = .ok (.iadd, 1) := dq daJ6_bitCount_0f7a4_37_0 16 rfl
theorem dJ6_bitCount_0f7a4_23 : decode cJ6_bitCount_0f7a4 23 = .ok (.istore_n 0, 1) := dq daJ6_bitCount_0f7a4_37_0 17 rfl
theorem dJ6_bitCount_0f7a4_24 : decode cJ6_bitCount_0f7a4 24 = .ok (.iload_n 0, 1) := dq daJ6_bitCount_0f7a4_37_0 18 rfl
theorem dJ6_bitCount_0f7a4_25 : decode cJ6_bitCount_0f7a4 25 = .ok (.iload_n 0, 1) := dq daJ6_bitCount_0f7a4_37_0 19 rfl
theorem dJ6_bitCount_0f7a4_26 : decode cJ6_bitCount_0f7a4 26 = .ok (.iconst 4, 1) := dq daJ6_bitCount_0f7a4_37_0 20 rfl
theorem dJ6_bitCount_0f7a4_27 : decode cJ6_bitCount_0f7a4 27 = .ok (.iushr, 1) := dq daJ6_bitCount_0f7a4_37_0 21 rfl
theorem dJ6_bitCount_0f7a4_28 : decode cJ6_bitCount_0f7a4 28 = .ok (.iadd, 1) := dq daJ6_bitCount_0f7a4_37_0 22 rfl
theorem dJ6_bitCount_0f7a4_29 : decode cJ6_bitCount_0f7a4 29 = .ok (.ldc_w 267, 3) := dq daJ6_bitCount_0f7a4_37_0 23 rfl
theorem dJ6_bitCount_0f7a4_32 : decode cJ6_bitCount_0f7a4 32 = .ok (.iand, 1) := dq daJ6_bitCount_0f7a4_37_0 24 rfl
theorem dJ6_bitCount_0f7a4_33 : decode cJ6_bitCount_0f7a4 33 = .ok (.istore_n 0, 1) := dq daJ6_bitCount_0f7a4_37_0 25 rfl
theorem dJ6_bitCount_0f7a4_34 : decode cJ6_bitCount_0f7a4 34 = .ok (.iload_n 0, 1) := dq daJ6_bitCount_0f7a4_37_0 26 rfl
theorem dJ6_bitCount_0f7a4_35 : decode cJ6_bitCount_0f7a4 35 = .ok (.iload_n 0, 1) := dq daJ6_bitCount_0f7a4_37_0 27 rfl
theorem dJ6_bitCount_0f7a4_36 : decode cJ6_bitCount_0f7a4 36 = .ok (.bipush 8, 2) := dq daJ6_bitCount_0f7a4_37_0 28 rfl
theorem dJ6_bitCount_0f7a4_38 : decode cJ6_bitCount_0f7a4 38 = .ok (.iushr, 1) := dq daJ6_bitCount_0f7a4_37_0 29 rfl
theorem dJ6_bitCount_0f7a4_39 : decode cJ6_bitCount_0f7a4 39 = .ok (.iadd, 1) := dq daJ6_bitCount_0f7a4_37_0 30 rfl
theorem dJ6_bitCount_0f7a4_40 : decode cJ6_bitCount_0f7a4 40 = .ok (.istore_n 0, 1) := dq daJ6_bitCount_0f7a4_37_0 31 rfl
def dtJ6_bitCount_0f7a4_37_1 : List (Nat × Jvm.ClassFile.Instr × Nat) := [(41, .iload_n 0, 1), (42, .iload_n 0, 1), (43, .bipush 16, 2), (45, .iushr, 1), (46, .iadd, 1), (47, .istore_n 0, 1), (48, .iload_n 0, 1), (49, .bipush 63, 2), (51, .iand, 1), (52, .ireturn, 1)]
theorem daJ6_bitCount_0f7a4_37_1 : dtJ6_bitCount_0f7a4_37_1.all (dqd cJ6_bitCount_0f7a4) = true := by decide +kernel
theorem dJ6_bitCount_0f7a4_41 : decode cJ6_bitCount_0f7a4 41 = .ok (.iload_n 0, 1) := dq daJ6_bitCount_0f7a4_37_1 0 rfl
theorem dJ6_bitCount_0f7a4_42 : decode cJ6_bitCount_0f7a4 42 = .ok (.iload_n 0, 1) := dq daJ6_bitCount_0f7a4_37_1 1 rfl
theorem dJ6_bitCount_0f7a4_43 : decode cJ6_bitCount_0f7a4 43 = .ok (.bipush 16, 2) := dq daJ6_bitCount_0f7a4_37_1 2 rfl
theorem dJ6_bitCount_0f7a4_45 : decode cJ6_bitCount_0f7a4 45 = .ok (.iushr, 1) := dq daJ6_bitCount_0f7a4_37_1 3 rfl
theorem dJ6_bitCount_0f7a4_46 : decode cJ6_bitCount_0f7a4 46 = .ok (.iadd, 1) := dq daJ6_bitCount_0f7a4_37_1 4 rfl
theorem dJ6_bitCount_0f7a4_47 : decode cJ6_bitCount_0f7a4 47 = .ok (.istore_n 0, 1) := dq daJ6_bitCount_0f7a4_37_1 5 rfl
theorem dJ6_bitCount_0f7a4_48 : decode cJ6_bitCount_0f7a4 48 = .ok (.iload_n 0, 1) := dq daJ6_bitCount_0f7a4_37_1 6 rfl
theorem dJ6_bitCount_0f7a4_49 : decode cJ6_bitCount_0f7a4 49 = .ok (.bipush 63, 2) := dq daJ6_bitCount_0f7a4_37_1 7 rfl
theorem dJ6_bitCount_0f7a4_51 : decode cJ6_bitCount_0f7a4 51 = .ok (.iand, 1) := dq daJ6_bitCount_0f7a4_37_1 8 rfl
theorem dJ6_bitCount_0f7a4_52 : decode cJ6_bitCount_0f7a4 52 = .ok (.ireturn, 1) := dq daJ6_bitCount_0f7a4_37_1 9 rfl
def dtX3_canServe_37_0 : List (Nat × Jvm.ClassFile.Instr × Nat) := [(0, .iload_n 1, 1), (1, .istore_n 3, 1), (2, .iload_n 3, 1), (3, .ifCond .le 71, 3), (6, .iconst 0, 1), (7, .istore 4, 2), (9, .iconst 0, 1), (10, .istore 5, 2), (12, .iload 5, 2), (14, .bipush 6, 2), (16, .if_icmp .ge 31, 3), (19, .iload_n 3, 1), (20, .iload 5, 2), (22, .ishr, 1), (23, .iconst 1, 1), (24, .iand, 1), (25, .iconst 1, 1), (26, .if_icmp .ne 15, 3), (41, .iinc 5 1, 3), (44, .goto (-32), 3), (29, .iload 4, 2), (31, .aload_n 0, 1), (32, .getfield 9, 3), (35, .iload 5, 2), (37, .iaload, 1), (38, .ior, 1), (39, .istore 4, 2), (74, .iconst 1, 1), (75, .ireturn, 1), (47, .iload 4, 2), (49, .iload_n 2, 1), (50, .iconst (-1), 1)]
theorem daX3_canServe_37_0 : dtX3_canServe_37_0.all (dqd cX3_canServe) = true := by decide +kernel
theorem dX3_canServe_0 : decode cX3_canServe 0 = .ok (.iload_n 1, 1) := dq daX3_canServe_37_0 0 rfl
theorem dX3_canServe_1 : decode cX3_canServe 1 = .ok (.istore_n 3, 1) := dq daX3_canServe_37_0 1 rfl
theorem dX3_canServe_2 : decode cX3_canServe 2 = .ok (.iload_n 3, 1) := dq daX3_canServe_37_0 2 rfl
theorem dX3_canServe_3 : decode cX3_canServe 3 = .ok (.ifCond .le 71, 3) := dq daX3_canServe_37_0 3 rfl
theorem dX3_canServe_6 : decode cX3_canServe 6 = .ok (.iconst 0, 1) := dq daX3_canServe_37_0 4 rfl
theorem dX3_canServe_7 : decode cX3_canServe 7 = .ok (.istore 4, 2) := dq daX3_canServe_37_0 5 rfl
theorem dX3_canServe_9 : decode cX3_canServe 9 = .ok (.iconst 0, 1) := dq daX3_canServe_37_0 6 rfl
theorem dX3_canServe_10 : decode cX3_canServe 10 = .ok (.istore 5, 2) := dq daX3_canServe_37_0 7 rfl
theorem dX3_canServe_12 : decode cX3_canServe 12 = .ok (.iload 5, 2) := dq daX3_canServe_37_0 8 rfl
theorem dX3_canServe_14 : decode cX3_canServe 14 = .ok (.bipush 6, 2) := dq daX3_canServe_37_0 9 rfl
theorem dX3_canServe_16 : decode cX3_canServe 16 = .ok (.if_icmp .ge 31, 3) := dq daX3_canServe_37_0 10 rfl
theorem dX3_canServe_19 : decode cX3_canServe 19 = .ok (.iload_n 3, 1) := dq daX3_canServe_37_0 11 rfl
theorem dX3_canServe_20 : decode cX3_canServe 20 = .ok (.iload 5, 2) := dq daX3_canServe_37_0 12 rfl
theorem dX3_canServe_22 : decode cX3_canServe 22 = .ok (.ishr, 1) := dq daX3_canServe_37_0 13 rfl
theorem dX3_canServe_23 : decode cX3_canServe 23 = .ok (.iconst 1, 1) := dq daX3_canServe_37_0 14 rfl
theorem dX3_canServe_24 : decode cX3_canServe 24 = .ok (.iand, 1) := dq daX3_canServe_37_0 15 rfl
theorem dX3_canServe_25 : decode cX3_canServe 25 = .ok (.iconst 1, 1) := dq daX3_canServe_37_0 16 rfl
theorem dX3_canServe_26 : decode cX3_canServe 26 = .ok (.if_icmp .ne 15, 3) := dq daX3_canServe_37_0 17 rfl
theorem dX3_canServe_41 : decode cX3_canServe 41 = .ok (.iinc 5 1, 3) := dq daX3_canServe_37_0 18 rfl
theorem dX3_canServe_44 : decode cX3_canServe 44 = .ok (.goto (-32), 3) := dq daX3_canServe_37_0 19 rfl
theorem dX3_canServe_29 : decode cX3_canServe 29 = .ok (.iload 4, 2) := dq daX3_canServe_37_0 20 rfl
theorem dX3_canServe_31 : decode cX3_canServe 31 = .ok (.aload_n 0, 1) := dq daX3_canServe_37_0 21 rfl
theorem dX3_canServe_32 : decode cX3_canServe 32 = .ok (.getfield 9, 3) := dq daX3_canServe_37_0 22 rfl
theorem dX3_canServe_35 : decode cX3_canServe 35 = .ok (.iload 5, 2) := dq daX3_canServe_37_0 23 rfl
theorem dX3_canServe_37 : decode cX3_canServe 37 = .ok (.iaload, 1) := dq daX3_canServe_37_0 24 rfl
theorem dX3_canServe_38 : decode cX3_canServe 38 = .ok (.ior, 1) := dq daX3_canServe_37_0 25 rfl
theorem dX3_canServe_39 : decode cX3_canServe 39 = .ok (.istore 4, 2) := dq daX3_canServe_37_0 26 rfl
theorem dX3_canServe_74 : decode cX3_canServe 74 = .ok (.iconst 1, 1) := dq daX3_canServe_37_0 27 rfl
theorem dX3_canServe_75 : decode cX3_canServe 75 = .ok (.ireturn, 1) := dq daX3_canServe_37_0 28 rfl
theorem dX3_canServe_47 : decode cX3_canServe 47 = .ok (.iload 4, 2) := dq daX3_canServe_37_0 29 rfl
theorem dX3_canServe_49 : decode cX3_canServe 49 = .ok (.iload_n 2, 1) := dq daX3_canServe_37_0 30 rfl
theorem dX3_canServe_50 : decode cX3_canServe 50 = .ok (.iconst (-1), 1) := dq daX3_canServe_37_0 31 rfl
def dtX3_canServe_37_1 : List (Nat × Jvm.ClassFile.Instr × Nat) := [(51, .ixor, 1), (52, .iand, 1), (53, .invokestatic 60, 3), (56, .iload_n 3, 1), (57, .invokestatic 60, 3), (60, .if_icmp .ge 5, 3), (65, .iload_n 3, 1), (66, .iconst 1, 1), (67, .isub, 1), (68, .iload_n 1, 1), (69, .iand, 1), (70, .istore_n 3, 1), (71, .goto (-69), 3), (63, .iconst 0, 1), (64, .ireturn, 1)]
theorem daX3_canServe_37_1 : dtX3_canServe_37_1.all (dqd cX3_canServe) = true := by decide +kernel
theorem dX3_canServe_51 : decode cX3_canServe 51 = .ok (.ixor, 1) := dq daX3_canServe_37_1 0 rfl
theorem dX3_canServe_52 : decode cX3_canServe 52 = .ok (.iand, 1) := dq daX3_canServe_37_1 1 rfl
theorem dX3_canServe_53 : decode cX3_canServe 53 = .ok (.invokestatic 60, 3) := dq daX3_canServe_37_1 2 rfl
theorem dX3_canServe_56 : decode cX3_canServe 56 = .ok (.iload_n 3, 1) := dq daX3_canServe_37_1 3 rfl
theorem dX3_canServe_57 : decode cX3_canServe 57 = .ok (.invokestatic 60, 3) := dq daX3_canServe_37_1 4 rfl
theorem dX3_canServe_60 : decode cX3_canServe 60 = .ok (.if_icmp .ge 5, 3) := dq daX3_canServe_37_1 5 rfl
theorem dX3_canServe_65 : decode cX3_canServe 65 = .ok (.iload_n 3, 1) := dq daX3_canServe_37_1 6 rfl
theorem dX3_canServe_66 : decode cX3_canServe 66 = .ok (.iconst 1, 1) := dq daX3_canServe_37_1 7 rfl
theorem dX3_canServe_67 : decode cX3_canServe 67 = .ok (.isub, 1) := dq daX3_canServe_37_1 8 rfl
theorem dX3_canServe_68 : decode cX3_canServe 68 = .ok (.iload_n 1, 1) := dq daX3_canServe_37_1 9 rfl
theorem dX3_canServe_69 : decode cX3_canServe 69 = .ok (.iand, 1) := dq daX3_canServe_37_1 10 rfl
theorem dX3_canServe_70 : decode cX3_canServe 70 = .ok (.istore_n 3, 1) := dq daX3_canServe_37_1 11 rfl
theorem dX3_canServe_71 : decode cX3_canServe 71 = .ok (.goto (-69), 3) := dq daX3_canServe_37_1 12 rfl
theorem dX3_canServe_63 : decode cX3_canServe 63 = .ok (.iconst 0, 1) := dq daX3_canServe_37_1 13 rfl
theorem dX3_canServe_64 : decode cX3_canServe 64 = .ok (.ireturn, 1) := dq daX3_canServe_37_1 14 rfl
def dtX3_greatest_37_0 : List (Nat × Jvm.ClassFile.Instr × Nat) := [(0, .iconst 0, 1), (1, .istore_n 3, 1), (2, .iconst 1, 1), (3, .aload_n 0, 1), (4, .getfield 18, 3), (7, .getfield 22, 3), (10, .getfield 42, 3), (13, .ishl, 1), (14, .istore 4, 2), (16, .iconst 0, 1), (17, .istore 5, 2), (19, .iload 5, 2), (21, .iload 4, 2), (23, .if_icmp .ge 41, 3), (26, .aload_n 0, 1), (27, .iload 5, 2), (29, .invokevirtual 52, 3), (32, .istore 6, 2), (34, .iload 6, 2), (36, .iload_n 3, 1), (37, .if_icmp .le 16, 3), (53, .iload 5, 2), (55, .iconst 1, 1), (56, .iload_n 1, 1), (57, .ishl, 1), (58, .iadd, 1), (59, .istore 5, 2), (61, .goto (-42), 3), (40, .aload_n 0, 1), (41, .iload 5, 2), (43, .iload_n 2, 1), (44, .invokevirtual 56, 3)]
theorem daX3_greatest_37_0 : dtX3_greatest_37_0.all (dqd cX3_greatest) = true := by decide +kernel
theorem dX3_greatest_0 : decode cX3_greatest 0 = .ok (.iconst 0, 1) := dq daX3_greatest_37_0 0 rfl
theorem dX3_greatest_1 : decode cX3_greatest 1 = .ok (.istore_n 3, 1) := dq daX3_greatest_37_0 1 rfl
theorem dX3_greatest_2 : decode cX3_greatest 2 = .ok (.iconst 1, 1) := dq daX3_greatest_37_0 2 rfl
theorem dX3_greatest_3 : decode cX3_greatest 3 = .ok (.aload_n 0, 1) := dq daX3_greatest_37_0 3 rfl
theorem dX3_greatest_4 : decode cX3_greatest 4 = .ok (.getfield 18, 3) := dq daX3_greatest_37_0 4 rfl
theorem dX3_greatest_7 : decode cX3_greatest 7 = .ok (.getfield 22, 3) := dq daX3_greatest_37_0 5 rfl
theorem dX3_greatest_10 : decode cX3_greatest 10 = .ok (.getfield 42, 3) := dq daX3_greatest_37_0 6 rfl
theorem dX3_greatest_13 : decode cX3_greatest 13 = .ok (.ishl, 1) := dq daX3_greatest_37_0 7 rfl
theorem dX3_greatest_14 : decode cX3_greatest 14 = .ok (.istore 4, 2) := dq daX3_greatest_37_0 8 rfl
theorem dX3_greatest_16 : decode cX3_greatest 16 = .ok (.iconst 0, 1) := dq daX3_greatest_37_0 9 rfl
theorem dX3_greatest_17 : decode cX3_greatest 17 = .ok (.istore 5, 2) := dq daX3_greatest_37_0 10 rfl
theorem dX3_greatest_19 : decode cX3_greatest 19 = .ok (.iload 5, 2) := dq daX3_greatest_37_0 11 rfl
theorem dX3_greatest_21 : decode cX3_greatest 21 = .ok (.iload 4, 2) := dq daX3_greatest_37_0 12 rfl
theorem dX3_greatest_23 : decode cX3_greatest 23 = .ok (.if_icmp .ge 41, 3) := dq daX3_greatest_37_0 13 rfl
theorem dX3_greatest_26 : decode cX3_greatest 26 = .ok (.aload_n 0, 1) := dq daX3_greatest_37_0 14 rfl
theorem dX3_greatest_27 : decode cX3_greatest 27 = .ok (.iload 5, 2) := dq daX3_greatest_37_0 15 rfl
theorem dX3_greatest_29 : decode cX3_greatest 29 = .ok (.invokevirtual 52, 3) := dq daX3_greatest_37_0 16 rfl
theorem dX3_greatest_32 : decode cX3_greatest 32 = .ok (.istore 6, 2) := dq daX3_greatest_37_0 17 rfl
theorem dX3_greatest_34 : decode cX3_greatest 34 = .ok (.iload 6, 2) := dq daX3_greatest_37_0 18 rfl
theorem dX3_greatest_36 : decode cX3_greatest 36 = .ok (.iload_n 3, 1) := dq daX3_greatest_37_0 19 rfl
theorem dX3_greatest_37 : decode cX3_greatest 37 = .ok (.if_icmp .le 16, 3) := dq daX3_greatest_37_0 20 rfl
theorem dX3_greatest_53 : decode cX3_greatest 53 = .ok (.iload 5, 2) := dq daX3_greatest_37_0 21 rfl
theorem dX3_greatest_55 : decode cX3_greatest 55 = .ok (.iconst 1, 1) := dq daX3_greatest_37_0 22 rfl
theorem dX3_greatest_56 : decode cX3_greatest 56 = .ok (.iload_n 1, 1) := dq daX3_greatest_37_0 23 rfl
theorem dX3_greatest_57 : decode cX3_greatest 57 = .ok (.ishl, 1) := dq daX3_greatest_37_0 24 rfl
theorem dX3_greatest_58 : decode cX3_greatest 58 = .ok (.iadd, 1) := dq daX3_greatest_37_0 25 rfl
theorem dX3_greatest_59 : decode cX3_greatest 59 = .ok (.istore 5, 2) := dq daX3_greatest_37_0 26 rfl
theorem dX3_greatest_61 : decode cX3_greatest 61 = .ok (.goto (-42), 3) := dq daX3_greatest_37_0 27 rfl
theorem dX3_greatest_40 : decode cX3_greatest 40 = .ok (.aload_n 0, 1) := dq daX3_greatest_37_0 28 rfl
theorem dX3_greatest_41 : decode cX3_greatest 41 = .ok (.iload 5, 2) := dq daX3_greatest_37_0 29 rfl
theorem dX3_greatest_43 : decode cX3_greatest 43 = .ok (.iload_n 2, 1) := dq daX3_greatest_37_0 30 rfl
theorem dX3_greatest_44 : decode cX3_greatest 44 = .ok (.invokevirtual 56, 3) := dq daX3_greatest_37_0 31 rfl
def dtX3_greatest_37_1 : List (Nat × Jvm.ClassFile.Instr × Nat) := [(47, .ifCond .eq 6, 3), (50, .iload 6, 2), (52, .istore_n 3, 1), (64, .iload_n 3, 1), (65, .ireturn, 1)]
theorem daX3_greatest_37_1 : dtX3_greatest_37_1.all (dqd cX3_greatest) = true := by decide +kernel
theorem dX3_greatest_47 : decode cX3_greatest 47 = .ok (.ifCond .eq 6, 3) := dq daX3_greatest_37_1 0 rfl
theorem dX3_greatest_50 : decode cX3_greatest 50 = .ok (.iload 6, 2) := dq daX3_greatest_37_1 1 rfl
theorem dX3_greatest_52 : decode cX3_greatest 52 = .ok (.istore_n 3, 1) := dq daX3_greatest_37_1 2 rfl
theorem dX3_greatest_64 : decode cX3_greatest 64 = .ok (.iload_n 3, 1) := dq daX3_greatest_37_1 3 rfl
theorem dX3_greatest_65 : decode cX3_greatest 65 = .ok (.ireturn, 1) := dq daX3_greatest_37_1 4 rfl
def dtX3_firstJar_37_0 : List (Nat × Jvm.ClassFile.Instr × Nat) := [(0, .iload_n 3, 1), (1, .aload_n 0, 1), (2, .getfield 18, 3), (5, .getfield 22, 3), (8, .iload_n 1, 1), (9, .iconst 3, 1), (10, .invokevirtual 49, 3), (13, .isub, 1), (14, .istore 4, 2), (16, .iconst 0, 1), (17, .istore 5, 2), (19, .iload 5, 2), (21, .bipush 16, 2), (23, .if_icmp .ge 68, 3), (26, .iconst 1, 1), (27, .iload 5, 2), (29, .ishl, 1), (30, .istore 6, 2), (32, .iload_n 1, 1), (33, .bipush 6, 2), (35, .if_icmp .ge 23, 3), (58, .iconst 0, 1), (59, .istore 7, 2), (61, .iload 7, 2), (63, .ifCond .eq 22, 3), (85, .iinc 5 1, 3), (88, .goto (-69), 3), (38, .aload_n 0, 1), (39, .getfield 9, 3), (42, .iload_n 1, 1), (43, .iaload, 1), (44, .iload 6, 2)]
theorem daX3_firstJar_37_0 : dtX3_firstJar_37_0.all (dqd cX3_firstJar) = true := by decide +kernel
theorem dX3_firstJar_0 : decode cX3_firstJar 0 = .ok (.iload_n 3, 1) := dq daX3_firstJar_37_0 0 rfl
theorem dX3_firstJar_1 : decode cX3_firstJar 1 = .ok (.aload_n 0, 1) := dq daX3_firstJar_37_0 1 rfl
theorem dX3_firstJar_2 : decode cX3_firstJar 2 = .ok (.getfield 18, 3) := dq daX3_firstJar_37_0 2 rfl
theorem dX3_firstJar_5 : decode cX3_firstJar 5 = .ok (.getfield 22, 3) := dq daX3_firstJar_37_0 3 rfl
theorem dX3_firstJar_8 : decode cX3_firstJar 8 = .ok (.iload_n 1, 1) := dq daX3_firstJar_37_0 4 rfl
theorem dX3_firstJar_9 : decode cX3_firstJar 9 = .ok (.iconst 3, 1) := dq daX3_firstJar_37_0 5 rfl
theorem dX3_firstJar_10 : decode cX3_firstJar 10 = .ok (.invokevirtual 49, 3) := dq daX3_firstJar_37_0 6 rfl
theorem dX3_firstJar_13 : decode cX3_firstJar 13 = .ok (.isub, 1) := dq daX3_firstJar_37_0 7 rfl
theorem dX3_firstJar_14 : decode cX3_firstJar 14 = .ok (.istore 4, 2) := dq daX3_firstJar_37_0 8 rfl
theorem dX3_firstJar_16 : decode cX3_firstJar 16 = .ok (.iconst 0, 1) := dq daX3_firstJar_37_0 9 rfl
theorem dX3_firstJar_17 : decode cX3_firstJar 17 = .ok (.istore 5, 2) := dq daX3_firstJar_37_0 10 rfl
theorem dX3_firstJar_19 : decode cX3_firstJar 19 = .ok (.iload 5, 2) := dq daX3_firstJar_37_0 11 rfl
theorem dX3_firstJar_21 : decode cX3_firstJar 21 = .ok (.bipush 16, 2) := dq daX3_firstJar_37_0 12 rfl
theorem dX3_firstJar_23 : decode cX3_firstJar 23 = .ok (.if_icmp .ge 68, 3) := dq daX3_firstJar_37_0 13 rfl
theorem dX3_firstJar_26 : decode cX3_firstJar 26 = .ok (.iconst 1, 1) := dq daX3_firstJar_37_0 14 rfl
theorem dX3_firstJar_27 : decode cX3_firstJar 27 = .ok (.iload 5, 2) := dq daX3_firstJar_37_0 15 rfl
theorem dX3_firstJar_29 : decode cX3_firstJar 29 = .ok (.ishl, 1) := dq daX3_firstJar_37_0 16 rfl
theorem dX3_firstJar_30 : decode cX3_firstJar 30 = .ok (.istore 6, 2) := dq daX3_firstJar_37_0 17 rfl
theorem dX3_firstJar_32 : decode cX3_firstJar 32 = .ok (.iload_n 1, 1) := dq daX3_firstJar_37_0 18 rfl
theorem dX3_firstJar_33 : decode cX3_firstJar 33 = .ok (.bipush 6, 2) := dq daX3_firstJar_37_0 19 rfl
theorem dX3_firstJar_35 : decode cX3_firstJar 35 = .ok (.if_icmp .ge 23, 3) := dq daX3_firstJar_37_0 20 rfl
theorem dX3_firstJar_58 : decode cX3_firstJar 58 = .ok (.iconst 0, 1) := dq daX3_firstJar_37_0 21 rfl
theorem dX3_firstJar_59 : decode cX3_firstJar 59 = .ok (.istore 7, 2) := dq daX3_firstJar_37_0 22 rfl
theorem dX3_firstJar_61 : decode cX3_firstJar 61 = .ok (.iload 7, 2) := dq daX3_firstJar_37_0 23 rfl
theorem dX3_firstJar_63 : decode cX3_firstJar 63 = .ok (.ifCond .eq 22, 3) := dq daX3_firstJar_37_0 24 rfl
theorem dX3_firstJar_85 : decode cX3_firstJar 85 = .ok (.iinc 5 1, 3) := dq daX3_firstJar_37_0 25 rfl
theorem dX3_firstJar_88 : decode cX3_firstJar 88 = .ok (.goto (-69), 3) := dq daX3_firstJar_37_0 26 rfl
theorem dX3_firstJar_38 : decode cX3_firstJar 38 = .ok (.aload_n 0, 1) := dq daX3_firstJar_37_0 27 rfl
theorem dX3_firstJar_39 : decode cX3_firstJar 39 = .ok (.getfield 9, 3) := dq daX3_firstJar_37_0 28 rfl
theorem dX3_firstJar_42 : decode cX3_firstJar 42 = .ok (.iload_n 1, 1) := dq daX3_firstJar_37_0 29 rfl
theorem dX3_firstJar_43 : decode cX3_firstJar 43 = .ok (.iaload, 1) := dq daX3_firstJar_37_0 30 rfl
theorem dX3_firstJar_44 : decode cX3_firstJar 44 = .ok (.iload 6, 2) := dq daX3_firstJar_37_0 31 rfl
def dtX3_firstJar_37_1 : List (Nat × Jvm.ClassFile.Instr × Nat) := [(46, .iand, 1), (47, .iload_n 2, 1), (48, .iconst (-1), 1), (49, .ixor, 1), (50, .iand, 1), (51, .ifCond .eq 7, 3), (54, .iconst 1, 1), (55, .goto 4, 3), (66, .aload_n 0, 1), (67, .iload_n 1, 1), (68, .iconst 1, 1), (69, .iadd, 1), (70, .iload_n 2, 1), (71, .iload 6, 2), (73, .ior, 1), (74, .invokevirtual 34, 3), (77, .iload 4, 2), (79, .if_icmp .ne 6, 3), (82, .iload 5, 2), (84, .ireturn, 1), (91, .bipush 16, 2), (93, .ireturn, 1)]
theorem daX3_firstJar_37_1 : dtX3_firstJar_37_1.all (dqd cX3_firstJar) = true := by decide +kernel
theorem dX3_firstJar_46 : decode cX3_firstJar 46 = .ok (.iand, 1) := dq daX3_firstJar_37_1 0 rfl
theorem dX3_firstJar_47 : decode cX3_firstJar 47 = .ok (.iload_n 2, 1) := dq daX3_firstJar_37_1 1 rfl
theorem dX3_firstJar_48 : decode cX3_firstJar 48 = .ok (.iconst (-1), 1) := dq daX3_firstJar_37_1 2 rfl
theorem dX3_firstJar_49 : decode cX3_firstJar 49 = .ok (.ixor, 1) := dq daX3_firstJar_37_1 3 rfl
theorem dX3_firstJar_50 : decode cX3_firstJar 50 = .ok (.iand, 1) := dq daX3_firstJar_37_1 4 rfl
theorem dX3_firstJar_51 : decode cX3_firstJar 51 = .ok (.ifCond .eq 7, 3) := dq daX3_firstJar_37_1 5 rfl
theorem dX3_firstJar_54 : decode cX3_firstJar 54 = .ok (.iconst 1, 1) := dq daX3_firstJar_37_1 6 rfl
theorem dX3_firstJar_55 : decode cX3_firstJar 55 = .ok (.goto 4, 3) := dq daX3_firstJar_37_1 7 rfl
theorem dX3_firstJar_66 : decode cX3_firstJar 66 = .ok (.aload_n 0, 1) := dq daX3_firstJar_37_1 8 rfl
theorem dX3_firstJar_67 : decode cX3_firstJar 67 = .ok (.iload_n 1, 1) := dq daX3_firstJar_37_1 9 rfl
theorem dX3_firstJar_68 : decode cX3_firstJar 68 = .ok (.iconst 1, 1) := dq daX3_firstJar_37_1 10 rfl
theorem dX3_firstJar_69 : decode cX3_firstJar 69 = .ok (.iadd, 1) := dq daX3_firstJar_37_1 11 rfl
theorem dX3_firstJar_70 : decode cX3_firstJar 70 = .ok (.iload_n 2, 1) := dq daX3_firstJar_37_1 12 rfl
theorem dX3_firstJar_71 : decode cX3_firstJar 71 = .ok (.iload 6, 2) := dq daX3_firstJar_37_1 13 rfl
theorem dX3_firstJar_73 : decode cX3_firstJar 73 = .ok (.ior, 1) := dq daX3_firstJar_37_1 14 rfl
theorem dX3_firstJar_74 : decode cX3_firstJar 74 = .ok (.invokevirtual 34, 3) := dq daX3_firstJar_37_1 15 rfl
theorem dX3_firstJar_77 : decode cX3_firstJar 77 = .ok (.iload 4, 2) := dq daX3_firstJar_37_1 16 rfl
theorem dX3_firstJar_79 : decode cX3_firstJar 79 = .ok (.if_icmp .ne 6, 3) := dq daX3_firstJar_37_1 17 rfl
theorem dX3_firstJar_82 : decode cX3_firstJar 82 = .ok (.iload 5, 2) := dq daX3_firstJar_37_1 18 rfl
theorem dX3_firstJar_84 : decode cX3_firstJar 84 = .ok (.ireturn, 1) := dq daX3_firstJar_37_1 19 rfl
theorem dX3_firstJar_91 : decode cX3_firstJar 91 = .ok (.bipush 16, 2) := dq daX3_firstJar_37_1 20 rfl
theorem dX3_firstJar_93 : decode cX3_firstJar 93 = .ok (.ireturn, 1) := dq daX3_firstJar_37_1 21 rfl
def dtX3_choose_37_0 : List (Nat × Jvm.ClassFile.Instr × Nat) := [(0, .aload_n 0, 1), (1, .aload_n 0, 1), (2, .iconst 0, 1), (3, .iconst 0, 1), (4, .invokevirtual 34, 3), (7, .putfield 38, 3), (10, .aload_n 0, 1), (11, .getfield 38, 3), (14, .istore_n 1, 1), (15, .iconst 0, 1), (16, .istore_n 2, 1), (17, .iconst 0, 1), (18, .istore_n 3, 1), (19, .iload_n 3, 1), (20, .aload_n 0, 1), (21, .getfield 18, 3), (24, .getfield 22, 3), (27, .getfield 42, 3), (30, .if_icmp .ge 61, 3), (33, .iload_n 3, 1), (34, .bipush 6, 2), (36, .if_icmp .ge 55, 3), (39, .aload_n 0, 1), (40, .iload_n 3, 1), (41, .iload_n 2, 1), (42, .iload_n 1, 1), (43, .invokevirtual 45, 3), (46, .istore 4, 2), (48, .aload_n 0, 1), (49, .getfield 15, 3), (52, .iload_n 3, 1), (53, .iload 4, 2)]
theorem daX3_choose_37_0 : dtX3_choose_37_0.all (dqd cX3_choose) = true := by decide +kernel
theorem dX3_choose_0 : decode cX3_choose 0 = .ok (.aload_n 0, 1) := dq daX3_choose_37_0 0 rfl
theorem dX3_choose_1 : decode cX3_choose 1 = .ok (.aload_n 0, 1) := dq daX3_choose_37_0 1 rfl
theorem dX3_choose_2 : decode cX3_choose 2 = .ok (.iconst 0, 1) := dq daX3_choose_37_0 2 rfl
theorem dX3_choose_3 : decode cX3_choose 3 = .ok (.iconst 0, 1) := dq daX3_choose_37_0 3 rfl
theorem dX3_choose_4 : decode cX3_choose 4 = .ok (.invokevirtual 34, 3) := dq daX3_choose_37_0 4 rfl
theorem dX3_choose_7 : decode cX3_choose 7 = .ok (.putfield 38, 3) := dq daX3_choose_37_0 5 rfl
theorem dX3_choose_10 : decode cX3_choose 10 = .ok (.aload_n 0, 1) := dq daX3_choose_37_0 6 rfl
theorem dX3_choose_11 : decode cX3_choose 11 = .ok (.getfield 38, 3) := dq daX3_choose_37_0 7 rfl
theorem dX3_choose_14 : decode cX3_choose 14 = .ok (.istore_n 1, 1) := dq daX3_choose_37_0 8 rfl
theorem dX3_choose_15 : decode cX3_choose 15 = .ok (.iconst 0, 1) := dq daX3_choose_37_0 9 rfl
theorem dX3_choose_16 : decode cX3_choose 16 = .ok (.istore_n 2, 1) := dq daX3_choose_37_0 10 rfl
theorem dX3_choose_17 : decode cX3_choose 17 = .ok (.iconst 0, 1) := dq daX3_choose_37_0 11 rfl
theorem dX3_choose_18 : decode cX3_choose 18 = .ok (.istore_n 3, 1) := dq daX3_choose_37_0 12 rfl
theorem dX3_choose_19 : decode cX3_choose 19 = .ok (.iload_n 3, 1) := dq daX3_choose_37_0 13 rfl
theorem dX3_choose_20 : decode cX3_choose 20 = .ok (.aload_n 0, 1) := dq daX3_choose_37_0 14 rfl
theorem dX3_choose_21 : decode cX3_choose 21 = .ok (.getfield 18, 3) := dq daX3_choose_37_0 15 rfl
theorem dX3_choose_24 : decode cX3_choose 24 = .ok (.getfield 22, 3) := dq daX3_choose_37_0 16 rfl
theorem dX3_choose_27 : decode cX3_choose 27 = .ok (.getfield 42, 3) := dq daX3_choose_37_0 17 rfl
theorem dX3_choose_30 : decode cX3_choose 30 = .ok (.if_icmp .ge 61, 3) := dq daX3_choose_37_0 18 rfl
theorem dX3_choose_33 : decode cX3_choose 33 = .ok (.iload_n 3, 1) := dq daX3_choose_37_0 19 rfl
theorem dX3_choose_34 : decode cX3_choose 34 = .ok (.bipush 6, 2) := dq daX3_choose_37_0 20 rfl
theorem dX3_choose_36 : decode cX3_choose 36 = .ok (.if_icmp .ge 55, 3) := dq daX3_choose_37_0 21 rfl
theorem dX3_choose_39 : decode cX3_choose 39 = .ok (.aload_n 0, 1) := dq daX3_choose_37_0 22 rfl
theorem dX3_choose_40 : decode cX3_choose 40 = .ok (.iload_n 3, 1) := dq daX3_choose_37_0 23 rfl
theorem dX3_choose_41 : decode cX3_choose 41 = .ok (.iload_n 2, 1) := dq daX3_choose_37_0 24 rfl
theorem dX3_choose_42 : decode cX3_choose 42 = .ok (.iload_n 1, 1) := dq daX3_choose_37_0 25 rfl
theorem dX3_choose_43 : decode cX3_choose 43 = .ok (.invokevirtual 45, 3) := dq daX3_choose_37_0 26 rfl
theorem dX3_choose_46 : decode cX3_choose 46 = .ok (.istore 4, 2) := dq daX3_choose_37_0 27 rfl
theorem dX3_choose_48 : decode cX3_choose 48 = .ok (.aload_n 0, 1) := dq daX3_choose_37_0 28 rfl
theorem dX3_choose_49 : decode cX3_choose 49 = .ok (.getfield 15, 3) := dq daX3_choose_37_0 29 rfl
theorem dX3_choose_52 : decode cX3_choose 52 = .ok (.iload_n 3, 1) := dq daX3_choose_37_0 30 rfl
theorem dX3_choose_53 : decode cX3_choose 53 = .ok (.iload 4, 2) := dq daX3_choose_37_0 31 rfl
def dtX3_choose_37_1 : List (Nat × Jvm.ClassFile.Instr × Nat) := [(55, .iastore, 1), (56, .iload 4, 2), (58, .bipush 16, 2), (60, .if_icmp .eq 25, 3), (85, .iinc 3 1, 3), (88, .goto (-69), 3), (63, .iload_n 2, 1), (64, .iconst 1, 1), (65, .iload 4, 2), (67, .ishl, 1), (68, .ior, 1), (69, .istore_n 2, 1), (70, .iload_n 1, 1), (71, .aload_n 0, 1), (72, .getfield 18, 3), (75, .getfield 22, 3), (78, .iload_n 3, 1), (79, .iconst 3, 1), (80, .invokevirtual 49, 3), (83, .isub, 1), (84, .istore_n 1, 1), (91, .return_, 1)]
theorem daX3_choose_37_1 : dtX3_choose_37_1.all (dqd cX3_choose) = true := by decide +kernel
theorem dX3_choose_55 : decode cX3_choose 55 = .ok (.iastore, 1) := dq daX3_choose_37_1 0 rfl
theorem dX3_choose_56 : decode cX3_choose 56 = .ok (.iload 4, 2) := dq daX3_choose_37_1 1 rfl
theorem dX3_choose_58 : decode cX3_choose 58 = .ok (.bipush 16, 2) := dq daX3_choose_37_1 2 rfl
theorem dX3_choose_60 : decode cX3_choose 60 = .ok (.if_icmp .eq 25, 3) := dq daX3_choose_37_1 3 rfl
theorem dX3_choose_85 : decode cX3_choose 85 = .ok (.iinc 3 1, 3) := dq daX3_choose_37_1 4 rfl
theorem dX3_choose_88 : decode cX3_choose 88 = .ok (.goto (-69), 3) := dq daX3_choose_37_1 5 rfl
theorem dX3_choose_63 : decode cX3_choose 63 = .ok (.iload_n 2, 1) := dq daX3_choose_37_1 6 rfl
theorem dX3_choose_64 : decode cX3_choose 64 = .ok (.iconst 1, 1) := dq daX3_choose_37_1 7 rfl
theorem dX3_choose_65 : decode cX3_choose 65 = .ok (.iload 4, 2) := dq daX3_choose_37_1 8 rfl
theorem dX3_choose_67 : decode cX3_choose 67 = .ok (.ishl, 1) := dq daX3_choose_37_1 9 rfl
theorem dX3_choose_68 : decode cX3_choose 68 = .ok (.ior, 1) := dq daX3_choose_37_1 10 rfl
theorem dX3_choose_69 : decode cX3_choose 69 = .ok (.istore_n 2, 1) := dq daX3_choose_37_1 11 rfl
theorem dX3_choose_70 : decode cX3_choose 70 = .ok (.iload_n 1, 1) := dq daX3_choose_37_1 12 rfl
theorem dX3_choose_71 : decode cX3_choose 71 = .ok (.aload_n 0, 1) := dq daX3_choose_37_1 13 rfl
theorem dX3_choose_72 : decode cX3_choose 72 = .ok (.getfield 18, 3) := dq daX3_choose_37_1 14 rfl
theorem dX3_choose_75 : decode cX3_choose 75 = .ok (.getfield 22, 3) := dq daX3_choose_37_1 15 rfl
theorem dX3_choose_78 : decode cX3_choose 78 = .ok (.iload_n 3, 1) := dq daX3_choose_37_1 16 rfl
theorem dX3_choose_79 : decode cX3_choose 79 = .ok (.iconst 3, 1) := dq daX3_choose_37_1 17 rfl
theorem dX3_choose_80 : decode cX3_choose 80 = .ok (.invokevirtual 49, 3) := dq daX3_choose_37_1 18 rfl
theorem dX3_choose_83 : decode cX3_choose 83 = .ok (.isub, 1) := dq daX3_choose_37_1 19 rfl
theorem dX3_choose_84 : decode cX3_choose 84 = .ok (.istore_n 1, 1) := dq daX3_choose_37_1 20 rfl
theorem dX3_choose_91 : decode cX3_choose 91 = .ok (.return_, 1) := dq daX3_choose_37_1 21 rfl
