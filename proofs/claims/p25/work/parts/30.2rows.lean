theorem kX6_has_1 {a : Array Value} {s : State} (hts : ∀ w ∈ wsX6_has, w.before a s = true) : (.fieldLink RX6 25 "SnowMules$Table" "size" "I" : Cond).before a s = true := kw (A := ixX6_has) wt179 hts (by decide +kernel)
theorem kX6_get_1 {a : Array Value} {s : State} (hts : ∀ w ∈ wsX6_get, w.before a s = true) : (.fieldLink RX6 9 "SnowMules$Table" "width" "I" : Cond).before a s = true := kw (A := ixX6_get) wt63 hts (by decide +kernel)
theorem kX6_get_2 {a : Array Value} {s : State} (hts : ∀ w ∈ wsX6_get, w.before a s = true) : (.fieldLink RX6 21 "SnowMules$Table" "cells" "[I" : Cond).before a s = true := kw (A := ixX6_get) wt68 hts (by decide +kernel)
theorem kX6_put_1 {a : Array Value} {s : State} (hts : ∀ w ∈ wsX6_put, w.before a s = true) : (.fieldLink RX6 9 "SnowMules$Table" "width" "I" : Cond).before a s = true := kw (A := ixX6_put) wt63 hts (by decide +kernel)
theorem kX6_put_2 {a : Array Value} {s : State} (hts : ∀ w ∈ wsX6_put, w.before a s = true) : (.fieldLink RX6 21 "SnowMules$Table" "cells" "[I" : Cond).before a s = true := kw (A := ixX6_put) wt68 hts (by decide +kernel)
theorem kX6_grow_1 {a : Array Value} {s : State} (hts : ∀ w ∈ wsX6_grow, w.before a s = true) : (.fieldLink RX6 25 "SnowMules$Table" "size" "I" : Cond).before a s = true := kw (A := ixX6_grow) wt179 hts (by decide +kernel)
theorem kX6_grow_2 {a : Array Value} {s : State} (hts : ∀ w ∈ wsX6_grow, w.before a s = true) : (.fieldLink RX6 9 "SnowMules$Table" "width" "I" : Cond).before a s = true := kw (A := ixX6_grow) wt63 hts (by decide +kernel)
theorem kX6_grow_3 {a : Array Value} {s : State} (hts : ∀ w ∈ wsX6_grow, w.before a s = true) : (.fieldLink RX6 21 "SnowMules$Table" "cells" "[I" : Cond).before a s = true := kw (A := ixX6_grow) wt68 hts (by decide +kernel)
theorem kX6_copyFrom_1 {a : Array Value} {s : State} (hts : ∀ w ∈ wsX6_copyFrom, w.before a s = true) : (.fieldLink RX6 21 "SnowMules$Table" "cells" "[I" : Cond).before a s = true := kw (A := ixX6_copyFrom) wt68 hts (by decide +kernel)
theorem kX6_copyFrom_2 {a : Array Value} {s : State} (hts : ∀ w ∈ wsX6_copyFrom, w.before a s = true) : (.methodLink RX6 28 arraycopyName : Cond).before a s = true := kw (A := ixX6_copyFrom) wt1368 hts (by decide +kernel)
theorem kX6_copyFrom_3 {a : Array Value} {s : State} (hts : ∀ w ∈ wsX6_copyFrom, w.before a s = true) : (.native arraycopyName : Cond).before a s = true := kw (A := ixX6_copyFrom) wt1369 hts (by decide +kernel)
theorem kX6_copyFrom_4 {a : Array Value} {s : State} (hts : ∀ w ∈ wsX6_copyFrom, w.before a s = true) : (.static arraycopyName : Cond).before a s = true := kw (A := ixX6_copyFrom) wt1370 hts (by decide +kernel)
theorem kX6_copyFrom_5 {a : Array Value} {s : State} (hts : ∀ w ∈ wsX6_copyFrom, w.before a s = true) : (.initialized "java/lang/System" : Cond).before a s = true := kw (A := ixX6_copyFrom) wt1371 hts (by decide +kernel)
theorem kX6_copyFrom_6 {a : Array Value} {s : State} (hts : ∀ w ∈ wsX6_copyFrom, w.before a s = true) : (.fieldLink RX6 25 "SnowMules$Table" "size" "I" : Cond).before a s = true := kw (A := ixX6_copyFrom) wt179 hts (by decide +kernel)
theorem iX6_has_X6 : ∀ w ∈ wsX60, w ∈ wsX6_has := inW (A := ixX6_has) uwX6 (by decide +kernel)
theorem iX6_get_X6 : ∀ w ∈ wsX60, w ∈ wsX6_get := inW (A := ixX6_get) uwX6 (by decide +kernel)
theorem iX6_put_X6 : ∀ w ∈ wsX60, w ∈ wsX6_put := inW (A := ixX6_put) uwX6 (by decide +kernel)
theorem iX6_grow_X6 : ∀ w ∈ wsX60, w ∈ wsX6_grow := inW (A := ixX6_grow) uwX6 (by decide +kernel)
theorem iX6_copyFrom_X6 : ∀ w ∈ wsX60, w ∈ wsX6_copyFrom := inW (A := ixX6_copyFrom) uwX6 (by decide +kernel)
def dtX10_within_30_0 : List (Nat × Jvm.ClassFile.Instr × Nat) := [(0, .iload_n 0, 1), (1, .ifCond .lt 12, 3), (13, .iconst 0, 1), (14, .ireturn, 1), (4, .iload_n 0, 1), (5, .iload_n 1, 1), (6, .if_icmp .gt 7, 3), (9, .iconst 1, 1), (10, .goto 4, 3)]
theorem daX10_within_30_0 : dtX10_within_30_0.all (dqd cX10_within) = true := by decide +kernel
theorem dX10_within_0 : decode cX10_within 0 = .ok (.iload_n 0, 1) := dq daX10_within_30_0 0 rfl
theorem dX10_within_1 : decode cX10_within 1 = .ok (.ifCond .lt 12, 3) := dq daX10_within_30_0 1 rfl
theorem dX10_within_13 : decode cX10_within 13 = .ok (.iconst 0, 1) := dq daX10_within_30_0 2 rfl
theorem dX10_within_14 : decode cX10_within 14 = .ok (.ireturn, 1) := dq daX10_within_30_0 3 rfl
theorem dX10_within_4 : decode cX10_within 4 = .ok (.iload_n 0, 1) := dq daX10_within_30_0 4 rfl
theorem dX10_within_5 : decode cX10_within 5 = .ok (.iload_n 1, 1) := dq daX10_within_30_0 5 rfl
theorem dX10_within_6 : decode cX10_within 6 = .ok (.if_icmp .gt 7, 3) := dq daX10_within_30_0 6 rfl
theorem dX10_within_9 : decode cX10_within 9 = .ok (.iconst 1, 1) := dq daX10_within_30_0 7 rfl
theorem dX10_within_10 : decode cX10_within 10 = .ok (.goto 4, 3) := dq daX10_within_30_0 8 rfl
def dtX6_has_30_0 : List (Nat × Jvm.ClassFile.Instr × Nat) := [(0, .iload_n 1, 1), (1, .ifCond .lt 15, 3), (16, .iconst 0, 1), (17, .ireturn, 1), (4, .iload_n 1, 1), (5, .aload_n 0, 1), (6, .getfield 25, 3), (9, .if_icmp .ge 7, 3), (12, .iconst 1, 1), (13, .goto 4, 3)]
theorem daX6_has_30_0 : dtX6_has_30_0.all (dqd cX6_has) = true := by decide +kernel
theorem dX6_has_0 : decode cX6_has 0 = .ok (.iload_n 1, 1) := dq daX6_has_30_0 0 rfl
theorem dX6_has_1 : decode cX6_has 1 = .ok (.ifCond .lt 15, 3) := dq daX6_has_30_0 1 rfl
theorem dX6_has_16 : decode cX6_has 16 = .ok (.iconst 0, 1) := dq daX6_has_30_0 2 rfl
theorem dX6_has_17 : decode cX6_has 17 = .ok (.ireturn, 1) := dq daX6_has_30_0 3 rfl
theorem dX6_has_4 : decode cX6_has 4 = .ok (.iload_n 1, 1) := dq daX6_has_30_0 4 rfl
theorem dX6_has_5 : decode cX6_has 5 = .ok (.aload_n 0, 1) := dq daX6_has_30_0 5 rfl
theorem dX6_has_6 : decode cX6_has 6 = .ok (.getfield 25, 3) := dq daX6_has_30_0 6 rfl
theorem dX6_has_9 : decode cX6_has 9 = .ok (.if_icmp .ge 7, 3) := dq daX6_has_30_0 7 rfl
theorem dX6_has_12 : decode cX6_has 12 = .ok (.iconst 1, 1) := dq daX6_has_30_0 8 rfl
theorem dX6_has_13 : decode cX6_has 13 = .ok (.goto 4, 3) := dq daX6_has_30_0 9 rfl
def dtX6_get_30_0 : List (Nat × Jvm.ClassFile.Instr × Nat) := [(0, .iload_n 1, 1), (1, .aload_n 0, 1), (2, .getfield 9, 3), (5, .imul, 1), (6, .iload_n 2, 1), (7, .iadd, 1), (8, .istore_n 3, 1), (9, .iload_n 3, 1), (10, .ifCond .lt 21, 3), (31, .iconst 0, 1), (32, .ireturn, 1), (13, .iload_n 3, 1), (14, .aload_n 0, 1), (15, .getfield 21, 3), (18, .arraylength, 1), (19, .if_icmp .ge 12, 3), (22, .aload_n 0, 1), (23, .getfield 21, 3), (26, .iload_n 3, 1), (27, .iaload, 1), (28, .goto 4, 3)]
theorem daX6_get_30_0 : dtX6_get_30_0.all (dqd cX6_get) = true := by decide +kernel
theorem dX6_get_0 : decode cX6_get 0 = .ok (.iload_n 1, 1) := dq daX6_get_30_0 0 rfl
theorem dX6_get_1 : decode cX6_get 1 = .ok (.aload_n 0, 1) := dq daX6_get_30_0 1 rfl
theorem dX6_get_2 : decode cX6_get 2 = .ok (.getfield 9, 3) := dq daX6_get_30_0 2 rfl
theorem dX6_get_5 : decode cX6_get 5 = .ok (.imul, 1) := dq daX6_get_30_0 3 rfl
theorem dX6_get_6 : decode cX6_get 6 = .ok (.iload_n 2, 1) := dq daX6_get_30_0 4 rfl
theorem dX6_get_7 : decode cX6_get 7 = .ok (.iadd, 1) := dq daX6_get_30_0 5 rfl
theorem dX6_get_8 : decode cX6_get 8 = .ok (.istore_n 3, 1) := dq daX6_get_30_0 6 rfl
theorem dX6_get_9 : decode cX6_get 9 = .ok (.iload_n 3, 1) := dq daX6_get_30_0 7 rfl
theorem dX6_get_10 : decode cX6_get 10 = .ok (.ifCond .lt 21, 3) := dq daX6_get_30_0 8 rfl
theorem dX6_get_31 : decode cX6_get 31 = .ok (.iconst 0, 1) := dq daX6_get_30_0 9 rfl
theorem dX6_get_32 : decode cX6_get 32 = .ok (.ireturn, 1) := dq daX6_get_30_0 10 rfl
theorem dX6_get_13 : decode cX6_get 13 = .ok (.iload_n 3, 1) := dq daX6_get_30_0 11 rfl
theorem dX6_get_14 : decode cX6_get 14 = .ok (.aload_n 0, 1) := dq daX6_get_30_0 12 rfl
theorem dX6_get_15 : decode cX6_get 15 = .ok (.getfield 21, 3) := dq daX6_get_30_0 13 rfl
theorem dX6_get_18 : decode cX6_get 18 = .ok (.arraylength, 1) := dq daX6_get_30_0 14 rfl
theorem dX6_get_19 : decode cX6_get 19 = .ok (.if_icmp .ge 12, 3) := dq daX6_get_30_0 15 rfl
theorem dX6_get_22 : decode cX6_get 22 = .ok (.aload_n 0, 1) := dq daX6_get_30_0 16 rfl
theorem dX6_get_23 : decode cX6_get 23 = .ok (.getfield 21, 3) := dq daX6_get_30_0 17 rfl
theorem dX6_get_26 : decode cX6_get 26 = .ok (.iload_n 3, 1) := dq daX6_get_30_0 18 rfl
theorem dX6_get_27 : decode cX6_get 27 = .ok (.iaload, 1) := dq daX6_get_30_0 19 rfl
theorem dX6_get_28 : decode cX6_get 28 = .ok (.goto 4, 3) := dq daX6_get_30_0 20 rfl
def dtX6_put_30_0 : List (Nat × Jvm.ClassFile.Instr × Nat) := [(0, .iload_n 1, 1), (1, .aload_n 0, 1), (2, .getfield 9, 3), (5, .imul, 1), (6, .iload_n 2, 1), (7, .iadd, 1), (8, .istore 4, 2), (10, .iload 4, 2), (12, .ifCond .lt 21, 3), (33, .return_, 1), (15, .iload 4, 2), (17, .aload_n 0, 1), (18, .getfield 21, 3), (21, .arraylength, 1), (22, .if_icmp .ge 11, 3), (25, .aload_n 0, 1), (26, .getfield 21, 3), (29, .iload 4, 2), (31, .iload_n 3, 1), (32, .iastore, 1)]
theorem daX6_put_30_0 : dtX6_put_30_0.all (dqd cX6_put) = true := by decide +kernel
theorem dX6_put_0 : decode cX6_put 0 = .ok (.iload_n 1, 1) := dq daX6_put_30_0 0 rfl
theorem dX6_put_1 : decode cX6_put 1 = .ok (.aload_n 0, 1) := dq daX6_put_30_0 1 rfl
theorem dX6_put_2 : decode cX6_put 2 = .ok (.getfield 9, 3) := dq daX6_put_30_0 2 rfl
theorem dX6_put_5 : decode cX6_put 5 = .ok (.imul, 1) := dq daX6_put_30_0 3 rfl
theorem dX6_put_6 : decode cX6_put 6 = .ok (.iload_n 2, 1) := dq daX6_put_30_0 4 rfl
theorem dX6_put_7 : decode cX6_put 7 = .ok (.iadd, 1) := dq daX6_put_30_0 5 rfl
theorem dX6_put_8 : decode cX6_put 8 = .ok (.istore 4, 2) := dq daX6_put_30_0 6 rfl
theorem dX6_put_10 : decode cX6_put 10 = .ok (.iload 4, 2) := dq daX6_put_30_0 7 rfl
theorem dX6_put_12 : decode cX6_put 12 = .ok (.ifCond .lt 21, 3) := dq daX6_put_30_0 8 rfl
theorem dX6_put_33 : decode cX6_put 33 = .ok (.return_, 1) := dq daX6_put_30_0 9 rfl
theorem dX6_put_15 : decode cX6_put 15 = .ok (.iload 4, 2) := dq daX6_put_30_0 10 rfl
theorem dX6_put_17 : decode cX6_put 17 = .ok (.aload_n 0, 1) := dq daX6_put_30_0 11 rfl
theorem dX6_put_18 : decode cX6_put 18 = .ok (.getfield 21, 3) := dq daX6_put_30_0 12 rfl
theorem dX6_put_21 : decode cX6_put 21 = .ok (.arraylength, 1) := dq daX6_put_30_0 13 rfl
theorem dX6_put_22 : decode cX6_put 22 = .ok (.if_icmp .ge 11, 3) := dq daX6_put_30_0 14 rfl
theorem dX6_put_25 : decode cX6_put 25 = .ok (.aload_n 0, 1) := dq daX6_put_30_0 15 rfl
theorem dX6_put_26 : decode cX6_put 26 = .ok (.getfield 21, 3) := dq daX6_put_30_0 16 rfl
theorem dX6_put_29 : decode cX6_put 29 = .ok (.iload 4, 2) := dq daX6_put_30_0 17 rfl
theorem dX6_put_31 : decode cX6_put 31 = .ok (.iload_n 3, 1) := dq daX6_put_30_0 18 rfl
theorem dX6_put_32 : decode cX6_put 32 = .ok (.iastore, 1) := dq daX6_put_30_0 19 rfl
def dtX6_grow_30_0 : List (Nat × Jvm.ClassFile.Instr × Nat) := [(0, .aload_n 0, 1), (1, .getfield 25, 3), (4, .iconst 1, 1), (5, .iadd, 1), (6, .aload_n 0, 1), (7, .getfield 9, 3), (10, .imul, 1), (11, .aload_n 0, 1), (12, .getfield 21, 3), (15, .arraylength, 1), (16, .if_icmp .le 5, 3), (21, .aload_n 0, 1), (22, .dup, 1), (23, .getfield 25, 3), (26, .iconst 1, 1), (27, .iadd, 1), (28, .putfield 25, 3), (31, .aload_n 0, 1), (32, .getfield 25, 3), (35, .iconst 1, 1), (36, .isub, 1), (19, .iconst (-1), 1), (20, .ireturn, 1), (37, .ireturn, 1)]
theorem daX6_grow_30_0 : dtX6_grow_30_0.all (dqd cX6_grow) = true := by decide +kernel
theorem dX6_grow_0 : decode cX6_grow 0 = .ok (.aload_n 0, 1) := dq daX6_grow_30_0 0 rfl
theorem dX6_grow_1 : decode cX6_grow 1 = .ok (.getfield 25, 3) := dq daX6_grow_30_0 1 rfl
theorem dX6_grow_4 : decode cX6_grow 4 = .ok (.iconst 1, 1) := dq daX6_grow_30_0 2 rfl
theorem dX6_grow_5 : decode cX6_grow 5 = .ok (.iadd, 1) := dq daX6_grow_30_0 3 rfl
theorem dX6_grow_6 : decode cX6_grow 6 = .ok (.aload_n 0, 1) := dq daX6_grow_30_0 4 rfl
theorem dX6_grow_7 : decode cX6_grow 7 = .ok (.getfield 9, 3) := dq daX6_grow_30_0 5 rfl
theorem dX6_grow_10 : decode cX6_grow 10 = .ok (.imul, 1) := dq daX6_grow_30_0 6 rfl
theorem dX6_grow_11 : decode cX6_grow 11 = .ok (.aload_n 0, 1) := dq daX6_grow_30_0 7 rfl
theorem dX6_grow_12 : decode cX6_grow 12 = .ok (.getfield 21, 3) := dq daX6_grow_30_0 8 rfl
theorem dX6_grow_15 : decode cX6_grow 15 = .ok (.arraylength, 1) := dq daX6_grow_30_0 9 rfl
theorem dX6_grow_16 : decode cX6_grow 16 = .ok (.if_icmp .le 5, 3) := dq daX6_grow_30_0 10 rfl
theorem dX6_grow_21 : decode cX6_grow 21 = .ok (.aload_n 0, 1) := dq daX6_grow_30_0 11 rfl
theorem dX6_grow_22 : decode cX6_grow 22 = .ok (.dup, 1) := dq daX6_grow_30_0 12 rfl
theorem dX6_grow_23 : decode cX6_grow 23 = .ok (.getfield 25, 3) := dq daX6_grow_30_0 13 rfl
theorem dX6_grow_26 : decode cX6_grow 26 = .ok (.iconst 1, 1) := dq daX6_grow_30_0 14 rfl
theorem dX6_grow_27 : decode cX6_grow 27 = .ok (.iadd, 1) := dq daX6_grow_30_0 15 rfl
theorem dX6_grow_28 : decode cX6_grow 28 = .ok (.putfield 25, 3) := dq daX6_grow_30_0 16 rfl
theorem dX6_grow_31 : decode cX6_grow 31 = .ok (.aload_n 0, 1) := dq daX6_grow_30_0 17 rfl
theorem dX6_grow_32 : decode cX6_grow 32 = .ok (.getfield 25, 3) := dq daX6_grow_30_0 18 rfl
theorem dX6_grow_35 : decode cX6_grow 35 = .ok (.iconst 1, 1) := dq daX6_grow_30_0 19 rfl
theorem dX6_grow_36 : decode cX6_grow 36 = .ok (.isub, 1) := dq daX6_grow_30_0 20 rfl
theorem dX6_grow_19 : decode cX6_grow 19 = .ok (.iconst (-1), 1) := dq daX6_grow_30_0 21 rfl
theorem dX6_grow_20 : decode cX6_grow 20 = .ok (.ireturn, 1) := dq daX6_grow_30_0 22 rfl
theorem dX6_grow_37 : decode cX6_grow 37 = .ok (.ireturn, 1) := dq daX6_grow_30_0 23 rfl
def dtX6_copyFrom_30_0 : List (Nat × Jvm.ClassFile.Instr × Nat) := [(0, .aload_n 1, 1), (1, .getfield 21, 3), (4, .arraylength, 1), (5, .aload_n 0, 1), (6, .getfield 21, 3), (9, .arraylength, 1), (10, .if_icmp .ne 29, 3), (13, .aload_n 1, 1), (14, .getfield 21, 3), (17, .iconst 0, 1), (18, .aload_n 0, 1), (19, .getfield 21, 3), (22, .iconst 0, 1), (23, .aload_n 0, 1), (24, .getfield 21, 3), (27, .arraylength, 1), (28, .invokestatic 28, 3), (31, .aload_n 0, 1), (32, .aload_n 1, 1), (33, .getfield 25, 3), (36, .putfield 25, 3), (39, .return_, 1)]
theorem daX6_copyFrom_30_0 : dtX6_copyFrom_30_0.all (dqd cX6_copyFrom) = true := by decide +kernel
theorem dX6_copyFrom_0 : decode cX6_copyFrom 0 = .ok (.aload_n 1, 1) := dq daX6_copyFrom_30_0 0 rfl
theorem dX6_copyFrom_1 : decode cX6_copyFrom 1 = .ok (.getfield 21, 3) := dq daX6_copyFrom_30_0 1 rfl
theorem dX6_copyFrom_4 : decode cX6_copyFrom 4 = .ok (.arraylength, 1) := dq daX6_copyFrom_30_0 2 rfl
theorem dX6_copyFrom_5 : decode cX6_copyFrom 5 = .ok (.aload_n 0, 1) := dq daX6_copyFrom_30_0 3 rfl
theorem dX6_copyFrom_6 : decode cX6_copyFrom 6 = .ok (.getfield 21, 3) := dq daX6_copyFrom_30_0 4 rfl
theorem dX6_copyFrom_9 : decode cX6_copyFrom 9 = .ok (.arraylength, 1) := dq daX6_copyFrom_30_0 5 rfl
theorem dX6_copyFrom_10 : decode cX6_copyFrom 10 = .ok (.if_icmp .ne 29, 3) := dq daX6_copyFrom_30_0 6 rfl
theorem dX6_copyFrom_13 : decode cX6_copyFrom 13 = .ok (.aload_n 1, 1) := dq daX6_copyFrom_30_0 7 rfl
theorem dX6_copyFrom_14 : decode cX6_copyFrom 14 = .ok (.getfield 21, 3) := dq daX6_copyFrom_30_0 8 rfl
theorem dX6_copyFrom_17 : decode cX6_copyFrom 17 = .ok (.iconst 0, 1) := dq daX6_copyFrom_30_0 9 rfl
theorem dX6_copyFrom_18 : decode cX6_copyFrom 18 = .ok (.aload_n 0, 1) := dq daX6_copyFrom_30_0 10 rfl
theorem dX6_copyFrom_19 : decode cX6_copyFrom 19 = .ok (.getfield 21, 3) := dq daX6_copyFrom_30_0 11 rfl
theorem dX6_copyFrom_22 : decode cX6_copyFrom 22 = .ok (.iconst 0, 1) := dq daX6_copyFrom_30_0 12 rfl
theorem dX6_copyFrom_23 : decode cX6_copyFrom 23 = .ok (.aload_n 0, 1) := dq daX6_copyFrom_30_0 13 rfl
theorem dX6_copyFrom_24 : decode cX6_copyFrom 24 = .ok (.getfield 21, 3) := dq daX6_copyFrom_30_0 14 rfl
theorem dX6_copyFrom_27 : decode cX6_copyFrom 27 = .ok (.arraylength, 1) := dq daX6_copyFrom_30_0 15 rfl
theorem dX6_copyFrom_28 : decode cX6_copyFrom 28 = .ok (.invokestatic 28, 3) := dq daX6_copyFrom_30_0 16 rfl
theorem dX6_copyFrom_31 : decode cX6_copyFrom 31 = .ok (.aload_n 0, 1) := dq daX6_copyFrom_30_0 17 rfl
theorem dX6_copyFrom_32 : decode cX6_copyFrom 32 = .ok (.aload_n 1, 1) := dq daX6_copyFrom_30_0 18 rfl
theorem dX6_copyFrom_33 : decode cX6_copyFrom 33 = .ok (.getfield 25, 3) := dq daX6_copyFrom_30_0 19 rfl
theorem dX6_copyFrom_36 : decode cX6_copyFrom 36 = .ok (.putfield 25, 3) := dq daX6_copyFrom_30_0 20 rfl
theorem dX6_copyFrom_39 : decode cX6_copyFrom 39 = .ok (.return_, 1) := dq daX6_copyFrom_30_0 21 rfl
