def ixX10_within : List Nat := [174]
def wsX10_within : List Cond := .code yX10_within cX10_within 2 (some .boolean) :: ixX10_within.map wt
def ixX6_copyFrom : List Nat := [68, 179, 1367, 1368, 1369, 1370, 1371, 1457, 1458, 1459]
def wsX6_copyFrom : List Cond := .code yX6_copyFrom cX6_copyFrom 2 none :: ixX6_copyFrom.map wt
def ixX6_get : List Nat := [63, 68, 597, 1457, 1458, 1459]
def wsX6_get : List Cond := .code yX6_get cX6_get 4 (some .int) :: ixX6_get.map wt
def ixX6_grow : List Nat := [63, 68, 178, 179, 1457, 1458, 1459]
def wsX6_grow : List Cond := .code yX6_grow cX6_grow 1 (some .int) :: ixX6_grow.map wt
def ixX6_has : List Nat := [179, 202, 1457, 1458, 1459]
def wsX6_has : List Cond := .code yX6_has cX6_has 2 (some .boolean) :: ixX6_has.map wt
def ixX6_put : List Nat := [63, 68, 183, 1457, 1458, 1459]
def wsX6_put : List Cond := .code yX6_put cX6_put 5 none :: ixX6_put.map wt
theorem kX6_has_1 {a : Array Value} {s : State} (hts : ∀ w ∈ wsX6_has, w.before a s = true) : (.fieldLink RX6 25 "SnowMules$Table" "size" "I" : Cond).before a s = true := kw (A := ixX6_has) wt179 hts (by decide +kernel)
theorem kX6_get_1 {a : Array Value} {s : State} (hts : ∀ w ∈ wsX6_get, w.before a s = true) : (.fieldLink RX6 9 "SnowMules$Table" "width" "I" : Cond).before a s = true := kw (A := ixX6_get) wt63 hts (by decide +kernel)
theorem kX6_get_2 {a : Array Value} {s : State} (hts : ∀ w ∈ wsX6_get, w.before a s = true) : (.fieldLink RX6 21 "SnowMules$Table" "cells" "[I" : Cond).before a s = true := kw (A := ixX6_get) wt68 hts (by decide +kernel)
theorem kX6_put_1 {a : Array Value} {s : State} (hts : ∀ w ∈ wsX6_put, w.before a s = true) : (.fieldLink RX6 9 "SnowMules$Table" "width" "I" : Cond).before a s = true := kw (A := ixX6_put) wt63 hts (by decide +kernel)
theorem kX6_put_2 {a : Array Value} {s : State} (hts : ∀ w ∈ wsX6_put, w.before a s = true) : (.fieldLink RX6 21 "SnowMules$Table" "cells" "[I" : Cond).before a s = true := kw (A := ixX6_put) wt68 hts (by decide +kernel)
theorem kX6_grow_1 {a : Array Value} {s : State} (hts : ∀ w ∈ wsX6_grow, w.before a s = true) : (.fieldLink RX6 25 "SnowMules$Table" "size" "I" : Cond).before a s = true := kw (A := ixX6_grow) wt179 hts (by decide +kernel)
theorem kX6_grow_2 {a : Array Value} {s : State} (hts : ∀ w ∈ wsX6_grow, w.before a s = true) : (.fieldLink RX6 9 "SnowMules$Table" "width" "I" : Cond).before a s = true := kw (A := ixX6_grow) wt63 hts (by decide +kernel)
theorem kX6_grow_3 {a : Array Value} {s : State} (hts : ∀ w ∈ wsX6_grow, w.before a s = true) : (.fieldLink RX6 21 "SnowMules$Table" "cells" "[I" : Cond).before a s = true := kw (A := ixX6_grow) wt68 hts (by decide +kernel)
theorem kX6_copyFrom_1 {a : Array Value} {s : State} (hts : ∀ w ∈ wsX6_copyFrom, w.before a s = true) : (.fieldLink RX6 21 "SnowMules$Table" "cells" "[I" : Cond).before a s = true := kw (A := ixX6_copyFrom) wt68 hts (by decide +kernel)
theorem kX6_copyFrom_2 {a : Array Value} {s : State} (hts : ∀ w ∈ wsX6_copyFrom, w.before a s = true) : (.methodLink RX6 28 arraycopyName : Cond).before a s = true := kw (A := ixX6_copyFrom) wt1368 hts (by decide +kernel)
theorem kX6_copyFrom_3 {a : Array Value} {s : State} (hts : ∀ w ∈ wsX6_copyFrom, w.before a s = true) : (.native arraycopyName : Cond).before a s = true := kw (A := ixX6_copyFrom) wt1369 hts (by decide +kernel)
theorem kX6_copyFrom_4 {a : Array Value} {s : State} (hts : ∀ w ∈ wsX6_copyFrom, w.before a s = true) : (.static arraycopyName : Cond).before a s = true := kw (A := ixX6_copyFrom) wt1370 hts (by decide +kernel)
theorem kX6_copyFrom_5 {a : Array Value} {s : State} (hts : ∀ w ∈ wsX6_copyFrom, w.before a s = true) : (.initialized "java/lang/System" : Cond).before a s = true := kw (A := ixX6_copyFrom) wt1371 hts (by decide +kernel)
theorem kX6_copyFrom_6 {a : Array Value} {s : State} (hts : ∀ w ∈ wsX6_copyFrom, w.before a s = true) : (.fieldLink RX6 25 "SnowMules$Table" "size" "I" : Cond).before a s = true := kw (A := ixX6_copyFrom) wt179 hts (by decide +kernel)
theorem iX6_has_X6 : ∀ w ∈ wsX60, w ∈ wsX6_has := inW (A := ixX6_has) uwX6 (by decide +kernel)
theorem iX6_get_X6 : ∀ w ∈ wsX60, w ∈ wsX6_get := inW (A := ixX6_get) uwX6 (by decide +kernel)
theorem iX6_put_X6 : ∀ w ∈ wsX60, w ∈ wsX6_put := inW (A := ixX6_put) uwX6 (by decide +kernel)
theorem iX6_grow_X6 : ∀ w ∈ wsX60, w ∈ wsX6_grow := inW (A := ixX6_grow) uwX6 (by decide +kernel)
theorem iX6_copyFrom_X6 : ∀ w ∈ wsX60, w ∈ wsX6_copyFrom := inW (A := ixX6_copyFrom) uwX6 (by decide +kernel)
def dtX10_within_30_0 : List (Nat × Jvm.ClassFile.Instr × Nat) := [(0, .iload_n 0, 1), (1, .ifCond .lt 12, 3), (13, .iconst 0, 1), (14, .ireturn, 1), (4, .iload_n 0, 1), (5, .iload_n 1, 1), (6, .if_icmp .gt 7, 3), (9, .iconst 1, 1), (10, .goto 4, 3)]
theorem daX10_within_30_0 : dtX10_within_30_0.all (dqd cX10_within) = true := by decide +kernel
theorem dX10_within_0 : decode cX10_within 0 = .ok (.iload_n 0, 1) := dq daX10_within_30_0 0 rfl
theorem dX10_within_1 : decode cX10_within 1 = .ok (.ifCond .lt 12, 3) := dq daX10_within_30_0 1 rfl
theorem dX10_within_13 : decode cX10_within 13 = .ok (.iconst 0, 1) := dq daX10_within_30_0 2 rfl
theorem dX10_within_14 : decode cX10_within 14 = .ok (.ireturn, 1) := dq daX10_within_30_0 3 rfl
theorem dX10_within_4 : decode cX10_within 4 = .ok (.iload_n 0, 1) := dq daX10_within_30_0 4 rfl
theorem dX10_within_5 : decode cX10_within 5 = .ok (.iload_n 1, 1) := dq daX10_within_30_0 5 rfl
theorem dX10_within_6 : decode cX10_within 6 = .ok (.if_icmp .gt 7, 3) := dq daX10_within_30_0 6 rfl
theorem dX10_within_9 : decode cX10_within 9 = .ok (.iconst 1, 1) := dq daX10_within_30_0 7 rfl
theorem dX10_within_10 : decode cX10_within 10 = .ok (.goto 4, 3) := dq daX10_within_30_0 8 rfl
def dtX6_has_30_0 : List (Nat × Jvm.ClassFile.Instr × Nat) := [(0, .iload_n 1, 1), (1, .ifCond .lt 15, 3), (16, .iconst 0, 1), (17, .ireturn, 1), (4, .iload_n 1, 1), (5, .aload_n 0, 1), (6, .getfield 25, 3), (9, .if_icmp .ge 7, 3), (12, .iconst 1, 1), (13, .goto 4, 3)]
theorem daX6_has_30_0 : dtX6_has_30_0.all (dqd cX6_has) = true := by decide +kernel
theorem dX6_has_0 : decode cX6_has 0 = .ok (.iload_n 1, 1) := dq daX6_has_30_0 0 rfl
theorem dX6_has_1 : decode cX6_has 1 = .ok (.ifCond .lt 15, 3) := dq daX6_has_30_0 1 rfl
theorem dX6_has_16 : decode cX6_has 16 = .ok (.iconst 0, 1) := dq daX6_has_30_0 2 rfl
theorem dX6_has_17 : decode cX6_has 17 = .ok (.ireturn, 1) := dq daX6_has_30_0 3 rfl
theorem dX6_has_4 : decode cX6_has 4 = .ok (.iload_n 1, 1) := dq daX6_has_30_0 4 rfl
theorem dX6_has_5 : decode cX6_has 5 = .ok (.aload_n 0, 1) := dq daX6_has_30_0 5 rfl
theorem dX6_has_6 : decode cX6_has 6 = .ok (.getfield 25, 3) := dq daX6_has_30_0 6 rfl
theorem dX6_has_9 : decode cX6_has 9 = .ok (.if_icmp .ge 7, 3) := dq daX6_has_30_0 7 rfl
theorem dX6_has_12 : decode cX6_has 12 = .ok (.iconst 1, 1) := dq daX6_has_30_0 8 rfl
theorem dX6_has_13 : decode cX6_has 13 = .ok (.goto 4, 3) := dq daX6_has_30_0 9 rfl
def dtX6_get_30_0 : List (Nat × Jvm.ClassFile.Instr × Nat) := [(0, .iload_n 1, 1), (1, .aload_n 0, 1), (2, .getfield 9, 3), (5, .imul, 1), (6, .iload_n 2, 1), (7, .iadd, 1), (8, .istore_n 3, 1), (9, .iload_n 3, 1), (10, .ifCond .lt 21, 3), (31, .iconst 0, 1), (32, .ireturn, 1), (13, .iload_n 3, 1), (14, .aload_n 0, 1), (15, .getfield 21, 3), (18, .arraylength, 1), (19, .if_icmp .ge 12, 3), (22, .aload_n 0, 1), (23, .getfield 21, 3), (26, .iload_n 3, 1), (27, .iaload, 1), (28, .goto 4, 3)]
theorem daX6_get_30_0 : dtX6_get_30_0.all (dqd cX6_get) = true := by decide +kernel
theorem dX6_get_0 : decode cX6_get 0 = .ok (.iload_n 1, 1) := dq daX6_get_30_0 0 rfl
theorem dX6_get_1 : decode cX6_get 1 = .ok (.aload_n 0, 1) := dq daX6_get_30_0 1 rfl
theorem dX6_get_2 : decode cX6_get 2 = .ok (.getfield 9, 3) := dq daX6_get_30_0 2 rfl
theorem dX6_get_5 : decode cX6_get 5 = .ok (.imul, 1) := dq daX6_get_30_0 3 rfl
theorem dX6_get_6 : decode cX6_get 6 = .ok (.iload_n 2, 1) := dq daX6_get_30_0 4 rfl
theorem dX6_get_7 : decode cX6_get 7 = .ok (.iadd, 1) := dq daX6_get_30_0 5 rfl
theorem dX6_get_8 : decode cX6_get 8 = .ok (.istore_n 3, 1) := dq daX6_get_30_0 6 rfl
theorem dX6_get_9 : decode cX6_get 9 = .ok (.iload_n 3, 1) := dq daX6_get_30_0 7 rfl
theorem dX6_get_10 : decode cX6_get 10 = .ok (.ifCond .lt 21, 3) := dq daX6_get_30_0 8 rfl
theorem dX6_get_31 : decode cX6_get 31 = .ok (.iconst 0, 1) := dq daX6_get_30_0 9 rfl
theorem dX6_get_32 : decode cX6_get 32 = .ok (.ireturn, 1) := dq daX6_get_30_0 10 rfl
theorem dX6_get_13 : decode cX6_get 13 = .ok (.iload_n 3, 1) := dq daX6_get_30_0 11 rfl
theorem dX6_get_14 : decode cX6_get 14 = .ok (.aload_n 0, 1) := dq daX6_get_30_0 12 rfl
theorem dX6_get_15 : decode cX6_get 15 = .ok (.getfield 21, 3) := dq daX6_get_30_0 13 rfl
theorem dX6_get_18 : decode cX6_get 18 = .ok (.arraylength, 1) := dq daX6_get_30_0 14 rfl
theorem dX6_get_19 : decode cX6_get 19 = .ok (.if_icmp .ge 12, 3) := dq daX6_get_30_0 15 rfl
theorem dX6_get_22 : decode cX6_get 22 = .ok (.aload_n 0, 1) := dq daX6_get_30_0 16 rfl
theorem dX6_get_23 : decode cX6_get 23 = .ok (.getfield 21, 3) := dq daX6_get_30_0 17 rfl
theorem dX6_get_26 : decode cX6_get 26 = .ok (.iload_n 3, 1) := dq daX6_get_30_0 18 rfl
theorem dX6_get_27 : decode cX6_get 27 = .ok (.iaload, 1) := dq daX6_get_30_0 19 rfl
theorem dX6_get_28 : decode cX6_get 28 = .ok (.goto 4, 3) := dq daX6_get_30_0 20 rfl
def dtX6_put_30_0 : List (Nat × Jvm.ClassFile.Instr × Nat) := [(0, .iload_n 1, 1), (1, .aload_n 0, 1), (2, .getfield 9, 3), (5, .imul, 1), (6, .iload_n 2, 1), (7, .iadd, 1), (8, .istore 4, 2), (10, .iload 4, 2), (12, .ifCond .lt 21, 3), (33, .return_, 1), (15, .iload 4, 2), (17, .aload_n 0, 1), (18, .getfield 21, 3), (21, .arraylength, 1), (22, .if_icmp .ge 11, 3), (25, .aload_n 0, 1), (26, .getfield 21, 3), (29, .iload 4, 2), (31, .iload_n 3, 1), (32, .iastore, 1)]
theorem daX6_put_30_0 : dtX6_put_30_0.all (dqd cX6_put) = true := by decide +kernel
theorem dX6_put_0 : decode cX6_put 0 = .ok (.iload_n 1, 1) := dq daX6_put_30_0 0 rfl
theorem dX6_put_1 : decode cX6_put 1 = .ok (.aload_n 0, 1) := dq daX6_put_30_0 1 rfl
theorem dX6_put_2 : decode cX6_put 2 = .ok (.getfield 9, 3) := dq daX6_put_30_0 2 rfl
theorem dX6_put_5 : decode cX6_put 5 = .ok (.imul, 1) := dq daX6_put_30_0 3 rfl
theorem dX6_put_6 : decode cX6_put 6 = .ok (.iload_n 2, 1) := dq daX6_put_30_0 4 rfl
theorem dX6_put_7 : decode cX6_put 7 = .ok (.iadd, 1) := dq daX6_put_30_0 5 rfl
theorem dX6_put_8 : decode cX6_put 8 = .ok (.istore 4, 2) := dq daX6_put_30_0 6 rfl
theorem dX6_put_10 : decode cX6_put 10 = .ok (.iload 4, 2) := dq daX6_put_30_0 7 rfl
theorem dX6_put_12 : decode cX6_put 12 = .ok (.ifCond .lt 21, 3) := dq daX6_put_30_0 8 rfl
theorem dX6_put_33 : decode cX6_put 33 = .ok (.return_, 1) := dq daX6_put_30_0 9 rfl
theorem dX6_put_15 : decode cX6_put 15 = .ok (.iload 4, 2) := dq daX6_put_30_0 10 rfl
theorem dX6_put_17 : decode cX6_put 17 = .ok (.aload_n 0, 1) := dq daX6_put_30_0 11 rfl
theorem dX6_put_18 : decode cX6_put 18 = .ok (.getfield 21, 3) := dq daX6_put_30_0 12 rfl
theorem dX6_put_21 : decode cX6_put 21 = .ok (.arraylength, 1) := dq daX6_put_30_0 13 rfl
theorem dX6_put_22 : decode cX6_put 22 = .ok (.if_icmp .ge 11, 3) := dq daX6_put_30_0 14 rfl
theorem dX6_put_25 : decode cX6_put 25 = .ok (.aload_n 0, 1) := dq daX6_put_30_0 15 rfl
theorem dX6_put_26 : decode cX6_put 26 = .ok (.getfield 21, 3) := dq daX6_put_30_0 16 rfl
theorem dX6_put_29 : decode cX6_put 29 = .ok (.iload 4, 2) := dq daX6_put_30_0 17 rfl
theorem dX6_put_31 : decode cX6_put 31 = .ok (.iload_n 3, 1) := dq daX6_put_30_0 18 rfl
theorem dX6_put_32 : decode cX6_put 32 = .ok (.iastore, 1) := dq daX6_put_30_0 19 rfl
def dtX6_grow_30_0 : List (Nat × Jvm.ClassFile.Instr × Nat) := [(0, .aload_n 0, 1), (1, .getfield 25, 3), (4, .iconst 1, 1), (5, .iadd, 1), (6, .aload_n 0, 1), (7, .getfield 9, 3), (10, .imul, 1), (11, .aload_n 0, 1), (12, .getfield 21, 3), (15, .arraylength, 1), (16, .if_icmp .le 5, 3), (21, .aload_n 0, 1), (22, .dup, 1), (23, .getfield 25, 3), (26, .iconst 1, 1), (27, .iadd, 1), (28, .putfield 25, 3), (31, .aload_n 0, 1), (32, .getfield 25, 3), (35, .iconst 1, 1), (36, .isub, 1), (19, .iconst (-1), 1), (20, .ireturn, 1), (37, .ireturn, 1)]
theorem daX6_grow_30_0 : dtX6_grow_30_0.all (dqd cX6_grow) = true := by decide +kernel
theorem dX6_grow_0 : decode cX6_grow 0 = .ok (.aload_n 0, 1) := dq daX6_grow_30_0 0 rfl
theorem dX6_grow_1 : decode cX6_grow 1 = .ok (.getfield 25, 3) := dq daX6_grow_30_0 1 rfl
theorem dX6_grow_4 : decode cX6_grow 4 = .ok (.iconst 1, 1) := dq daX6_grow_30_0 2 rfl
theorem dX6_grow_5 : decode cX6_grow 5 = .ok (.iadd, 1) := dq daX6_grow_30_0 3 rfl
theorem dX6_grow_6 : decode cX6_grow 6 = .ok (.aload_n 0, 1) := dq daX6_grow_30_0 4 rfl
theorem dX6_grow_7 : decode cX6_grow 7 = .ok (.getfield 9, 3) := dq daX6_grow_30_0 5 rfl
theorem dX6_grow_10 : decode cX6_grow 10 = .ok (.imul, 1) := dq daX6_grow_30_0 6 rfl
theorem dX6_grow_11 : decode cX6_grow 11 = .ok (.aload_n 0, 1) := dq daX6_grow_30_0 7 rfl
theorem dX6_grow_12 : decode cX6_grow 12 = .ok (.getfield 21, 3) := dq daX6_grow_30_0 8 rfl
theorem dX6_grow_15 : decode cX6_grow 15 = .ok (.arraylength, 1) := dq daX6_grow_30_0 9 rfl
theorem dX6_grow_16 : decode cX6_grow 16 = .ok (.if_icmp .le 5, 3) := dq daX6_grow_30_0 10 rfl
theorem dX6_grow_21 : decode cX6_grow 21 = .ok (.aload_n 0, 1) := dq daX6_grow_30_0 11 rfl
theorem dX6_grow_22 : decode cX6_grow 22 = .ok (.dup, 1) := dq daX6_grow_30_0 12 rfl
theorem dX6_grow_23 : decode cX6_grow 23 = .ok (.getfield 25, 3) := dq daX6_grow_30_0 13 rfl
theorem dX6_grow_26 : decode cX6_grow 26 = .ok (.iconst 1, 1) := dq daX6_grow_30_0 14 rfl
theorem dX6_grow_27 : decode cX6_grow 27 = .ok (.iadd, 1) := dq daX6_grow_30_0 15 rfl
theorem dX6_grow_28 : decode cX6_grow 28 = .ok (.putfield 25, 3) := dq daX6_grow_30_0 16 rfl
theorem dX6_grow_31 : decode cX6_grow 31 = .ok (.aload_n 0, 1) := dq daX6_grow_30_0 17 rfl
theorem dX6_grow_32 : decode cX6_grow 32 = .ok (.getfield 25, 3) := dq daX6_grow_30_0 18 rfl
theorem dX6_grow_35 : decode cX6_grow 35 = .ok (.iconst 1, 1) := dq daX6_grow_30_0 19 rfl
theorem dX6_grow_36 : decode cX6_grow 36 = .ok (.isub, 1) := dq daX6_grow_30_0 20 rfl
theorem dX6_grow_19 : decode cX6_grow 19 = .ok (.iconst (-1), 1) := dq daX6_grow_30_0 21 rfl
theorem dX6_grow_20 : decode cX6_grow 20 = .ok (.ireturn, 1) := dq daX6_grow_30_0 22 rfl
theorem dX6_grow_37 : decode cX6_grow 37 = .ok (.ireturn, 1) := dq daX6_grow_30_0 23 rfl
def dtX6_copyFrom_30_0 : List (Nat × Jvm.ClassFile.Instr × Nat) := [(0, .aload_n 1, 1), (1, .getfield 21, 3), (4, .arraylength, 1), (5, .aload_n 0, 1), (6, .getfield 21, 3), (9, .arraylength, 1), (10, .if_icmp .ne 29, 3), (13, .aload_n 1, 1), (14, .getfield 21, 3), (17, .iconst 0, 1), (18, .aload_n 0, 1), (19, .getfield 21, 3), (22, .iconst 0, 1), (23, .aload_n 0, 1), (24, .getfield 21, 3), (27, .arraylength, 1), (28, .invokestatic 28, 3), (31, .aload_n 0, 1), (32, .aload_n 1, 1), (33, .getfield 25, 3), (36, .putfield 25, 3), (39, .return_, 1)]
theorem daX6_copyFrom_30_0 : dtX6_copyFrom_30_0.all (dqd cX6_copyFrom) = true := by decide +kernel
theorem dX6_copyFrom_0 : decode cX6_copyFrom 0 = .ok (.aload_n 1, 1) := dq daX6_copyFrom_30_0 0 rfl
theorem dX6_copyFrom_1 : decode cX6_copyFrom 1 = .ok (.getfield 21, 3) := dq daX6_copyFrom_30_0 1 rfl
theorem dX6_copyFrom_4 : decode cX6_copyFrom 4 = .ok (.arraylength, 1) := dq daX6_copyFrom_30_0 2 rfl
theorem dX6_copyFrom_5 : decode cX6_copyFrom 5 = .ok (.aload_n 0, 1) := dq daX6_copyFrom_30_0 3 rfl
theorem dX6_copyFrom_6 : decode cX6_copyFrom 6 = .ok (.getfield 21, 3) := dq daX6_copyFrom_30_0 4 rfl
theorem dX6_copyFrom_9 : decode cX6_copyFrom 9 = .ok (.arraylength, 1) := dq daX6_copyFrom_30_0 5 rfl
theorem dX6_copyFrom_10 : decode cX6_copyFrom 10 = .ok (.if_icmp .ne 29, 3) := dq daX6_copyFrom_30_0 6 rfl
theorem dX6_copyFrom_13 : decode cX6_copyFrom 13 = .ok (.aload_n 1, 1) := dq daX6_copyFrom_30_0 7 rfl
theorem dX6_copyFrom_14 : decode cX6_copyFrom 14 = .ok (.getfield 21, 3) := dq daX6_copyFrom_30_0 8 rfl
theorem dX6_copyFrom_17 : decode cX6_copyFrom 17 = .ok (.iconst 0, 1) := dq daX6_copyFrom_30_0 9 rfl
theorem dX6_copyFrom_18 : decode cX6_copyFrom 18 = .ok (.aload_n 0, 1) := dq daX6_copyFrom_30_0 10 rfl
theorem dX6_copyFrom_19 : decode cX6_copyFrom 19 = .ok (.getfield 21, 3) := dq daX6_copyFrom_30_0 11 rfl
theorem dX6_copyFrom_22 : decode cX6_copyFrom 22 = .ok (.iconst 0, 1) := dq daX6_copyFrom_30_0 12 rfl
theorem dX6_copyFrom_23 : decode cX6_copyFrom 23 = .ok (.aload_n 0, 1) := dq daX6_copyFrom_30_0 13 rfl
theorem dX6_copyFrom_24 : decode cX6_copyFrom 24 = .ok (.getfield 21, 3) := dq daX6_copyFrom_30_0 14 rfl
theorem dX6_copyFrom_27 : decode cX6_copyFrom 27 = .ok (.arraylength, 1) := dq daX6_copyFrom_30_0 15 rfl
theorem dX6_copyFrom_28 : decode cX6_copyFrom 28 = .ok (.invokestatic 28, 3) := dq daX6_copyFrom_30_0 16 rfl
theorem dX6_copyFrom_31 : decode cX6_copyFrom 31 = .ok (.aload_n 0, 1) := dq daX6_copyFrom_30_0 17 rfl
theorem dX6_copyFrom_32 : decode cX6_copyFrom 32 = .ok (.aload_n 1, 1) := dq daX6_copyFrom_30_0 18 rfl
theorem dX6_copyFrom_33 : decode cX6_copyFrom 33 = .ok (.getfield 25, 3) := dq daX6_copyFrom_30_0 19 rfl
theorem dX6_copyFrom_36 : decode cX6_copyFrom 36 = .ok (.putfield 25, 3) := dq daX6_copyFrom_30_0 20 rfl
theorem dX6_copyFrom_39 : decode cX6_copyFrom 39 = .ok (.return_, 1) := dq daX6_copyFrom_30_0 21 rfl
set_option maxHeartbeats 4000000 in
set_option maxRecDepth 100000 in
theorem mX10_within (l : Launch) (dC : Nat → ClassId) (dI : Nat → Nat → Nat) (kA : Nat → ClassId) (sz : Nat) (k0 : Int32) (k1 : Int32)  : Met l yX10_within wsX10_within ({ frames := 0, cells := 0, slots := 0, locals := 0 }) (zPc dC dI kA sz [.int k0, .int k1] []) (va_Qi (fun (r : Int32) (u : Unit) => r = (wi k0 k1)) (zB dC dI (va_A [] sz) (fun (u : Unit) => [])) (va_A [] sz)) 0 0 (va_A [] sz) := by
  refine Met.ofW (cc := cX10_within) (maxL := 2) (ret := (some .boolean)) pnX10 rfl ?_
  intro p e s m args below meth c s₁ B hml hv
  obtain ⟨rfl, hsz, hP, hK, hD0⟩ := hv
  have hx := B.exec
  have hb := B.bytes
  have hr := B.returns
  have hts := atoms_spec (ws := wsX10_within) B.pre
  have hown : s.vm.findClass RX10 = some m.cls := findClass_of_methodNamed B.named
  have hlocks := B.notSynchronized
  subst hsz
  have hD := hD0.self (sz := s.heap.size)
  generalize hAe : va_A [] s.heap.size = A at hD ⊢
  have hA : ∀ q : Nat, s.heap.size ≤ q → A q := zA_of hAe
  have hS : va_S A s.heap s.heap [] := va_S.rf
  have hP : va_P (dC, dI) vwCl [] s.heap := hP
  have hl := lv_entry ([.int k0, .int k1]) (n := 2) (Nat.le_of_ble_eq_true rfl)
  rw [lg_entry_eq]
  generalize (lg_sl ([.int k0, .int k1]) ++ List.replicate (2 - (lg_sl ([.int k0, .int k1])).length) Slot.unset).toArray = ls at hl ⊢
  have hl : lv_has ls 2 [(0, .int k0), (1, .int k1)] := hl
  refine lv_iload_n hx hb dX10_within_0 rfl (lv_at hl 0 rfl) ?_
  refine lv_if_lt (tgt := 13) hx hb dX10_within_1 (by decide) (fun c_1 => ?_) (fun c_1 => ?_)
  · refine lv_iconst (v := 0) hx hb dX10_within_13 (by decide) ?_
    obtain ⟨hP9, hD9⟩ := z_sb (L' := []) hP hD [] (by decide) rfl
    refine W.widen (k := 0) (n := 0) (Nat.le_of_ble_eq_true rfl) (Nat.le_of_ble_eq_true rfl) ?_
    exact W.zret (v := 0) hx hb hr rfl (fun t ht hW => ⟨⟨0, (), rfl, (by simp [wi, c_1]), by rw [ht]; exact hP9, hD9⟩, hS.F ht⟩) hS.2.2 dX10_within_14
  · refine lv_iload_n hx hb dX10_within_4 rfl (lv_at hl 0 rfl) ?_
    refine lv_iload_n hx hb dX10_within_5 rfl (lv_at hl 1 rfl) ?_
    refine lv_icmp_gt (tgt := 13) hx hb dX10_within_6 (by decide) (fun c_2 => ?_) (fun c_2 => ?_)
    · refine lv_iconst (v := 0) hx hb dX10_within_13 (by decide) ?_
      obtain ⟨hP9, hD9⟩ := z_sb (L' := []) hP hD [] (by decide) rfl
      refine W.widen (k := 0) (n := 0) (Nat.le_of_ble_eq_true rfl) (Nat.le_of_ble_eq_true rfl) ?_
      exact W.zret (v := 0) hx hb hr rfl (fun t ht hW => ⟨⟨0, (), rfl, (by simp [wi, c_1, c_2]), by rw [ht]; exact hP9, hD9⟩, hS.F ht⟩) hS.2.2 dX10_within_14
    · refine lv_iconst (v := 1) hx hb dX10_within_9 (by decide) ?_
      refine lv_goto (tgt := 14) hx hb dX10_within_10 (by decide) ?_
      obtain ⟨hP9, hD9⟩ := z_sb (L' := []) hP hD [] (by decide) rfl
      refine W.widen (k := 0) (n := 0) (Nat.le_of_ble_eq_true rfl) (Nat.le_of_ble_eq_true rfl) ?_
      exact W.zret (v := 1) hx hb hr rfl (fun t ht hW => ⟨⟨1, (), rfl, (by simp [wi, c_1, c_2]), by rw [ht]; exact hP9, hD9⟩, hS.F ht⟩) hS.2.2 dX10_within_14
set_option maxHeartbeats 4000000 in
set_option maxRecDepth 100000 in
theorem mX6_has (l : Launch) (dC : Nat → ClassId) (dI : Nat → Nat → Nat) (kA : Nat → ClassId) (sz : Nat) (a0 : Nat) (a1 : Nat) (wd : Int32) (zs : Int32) (k0 : Int32)  : Met l yX6_has wsX6_has ({ frames := 0, cells := 0, slots := 0, locals := 0 }) (zPc dC dI kA sz [.ref a0, .int k0] [(a0, .inr (6, [.int wd, .ref a1, .int zs]))]) (va_Qi (fun (r : Int32) (u : Unit) => r = (hs k0 zs)) (zB dC dI (va_A [(a0, .inr (6, [.int wd, .ref a1, .int zs]))] sz) (fun (u : Unit) => [(a0, .inr (6, [.int wd, .ref a1, .int zs]))])) (va_A [(a0, .inr (6, [.int wd, .ref a1, .int zs]))] sz)) 0 0 (va_A [(a0, .inr (6, [.int wd, .ref a1, .int zs]))] sz) := by
  refine Met.ofW (cc := cX6_has) (maxL := 2) (ret := (some .boolean)) pnX6 rfl ?_
  intro p e s m args below meth c s₁ B hml hv
  obtain ⟨rfl, hsz, hP, hK, hD0⟩ := hv
  have hx := B.exec
  have hb := B.bytes
  have hr := B.returns
  have hts := atoms_spec (ws := wsX6_has) B.pre
  have hown : s.vm.findClass RX6 = some m.cls := findClass_of_methodNamed B.named
  have hlocks := B.notSynchronized
  subst hsz
  have hD := hD0.self (sz := s.heap.size)
  generalize hAe : va_A [(a0, .inr (6, [.int wd, .ref a1, .int zs]))] s.heap.size = A at hD ⊢
  have hA : ∀ q : Nat, s.heap.size ≤ q → A q := zA_of hAe
  have hS : va_S A s.heap s.heap [] := va_S.rf
  have hP : va_P (dC, dI) vwCl [(a0, .inr (6, [.int wd, .ref a1, .int zs]))] s.heap := hP
  have hl := lv_entry ([.ref a0, .int k0]) (n := 2) (Nat.le_of_ble_eq_true rfl)
  rw [lg_entry_eq]
  generalize (lg_sl ([.ref a0, .int k0]) ++ List.replicate (2 - (lg_sl ([.ref a0, .int k0])).length) Slot.unset).toArray = ls at hl ⊢
  have hl : lv_has ls 2 [(0, .ref a0), (1, .int k0)] := hl
  refine lv_iload_n hx hb dX6_has_0 rfl (lv_at hl 1 rfl) ?_
  refine lv_if_lt (tgt := 16) hx hb dX6_has_1 (by decide) (fun c_1 => ?_) (fun c_1 => ?_)
  · refine lv_iconst (v := 0) hx hb dX6_has_16 (by decide) ?_
    obtain ⟨hP9, hD9⟩ := z_sb (L' := [(a0, .inr (6, [.int wd, .ref a1, .int zs]))]) hP hD [0] (by decide) rfl
    refine W.widen (k := 0) (n := 0) (Nat.le_of_ble_eq_true rfl) (Nat.le_of_ble_eq_true rfl) ?_
    exact W.zret (v := 0) hx hb hr rfl (fun t ht hW => ⟨⟨0, (), rfl, (by simp [hs, c_1]), by rw [ht]; exact hP9, hD9⟩, hS.F ht⟩) hS.2.2 dX6_has_17
  · refine lv_iload_n hx hb dX6_has_4 rfl (lv_at hl 1 rfl) ?_
    refine lv_aload_n hx hb dX6_has_5 rfl (lv_at hl 0 rfl) ?_
    refine va_get (D := (dC, dI)) (ci := 6) (v := .int zs) (C := RX6) (T := TX6) (N := 3) hx hb hts iX6_has_X6 hown hK.1 hP 0 gz0 vcz6 2 (by decide) (kX6_has_1 hts) (fun _ h9 => h9) gz2 dX6_has_6 ?_
    refine lv_icmp_ge (tgt := 16) hx hb dX6_has_9 (by decide) (fun c_2 => ?_) (fun c_2 => ?_)
    · refine lv_iconst (v := 0) hx hb dX6_has_16 (by decide) ?_
      obtain ⟨hP9, hD9⟩ := z_sb (L' := [(a0, .inr (6, [.int wd, .ref a1, .int zs]))]) hP hD [0] (by decide) rfl
      refine W.widen (k := 0) (n := 0) (Nat.le_of_ble_eq_true rfl) (Nat.le_of_ble_eq_true rfl) ?_
      exact W.zret (v := 0) hx hb hr rfl (fun t ht hW => ⟨⟨0, (), rfl, (by simp [hs, c_1, c_2]), by rw [ht]; exact hP9, hD9⟩, hS.F ht⟩) hS.2.2 dX6_has_17
    · refine lv_iconst (v := 1) hx hb dX6_has_12 (by decide) ?_
      refine lv_goto (tgt := 17) hx hb dX6_has_13 (by decide) ?_
      obtain ⟨hP9, hD9⟩ := z_sb (L' := [(a0, .inr (6, [.int wd, .ref a1, .int zs]))]) hP hD [0] (by decide) rfl
      refine W.widen (k := 0) (n := 0) (Nat.le_of_ble_eq_true rfl) (Nat.le_of_ble_eq_true rfl) ?_
      exact W.zret (v := 1) hx hb hr rfl (fun t ht hW => ⟨⟨1, (), rfl, (by simp [hs, c_1, c_2]), by rw [ht]; exact hP9, hD9⟩, hS.F ht⟩) hS.2.2 dX6_has_17
set_option maxRecDepth 100000 in
def fX6_get_48 (wd : Int32) (fa : Nat → Int32) (row : Int32) (col : Int32) : Int32 := bnd (((row * wd) + col)) (fun (x1 : Int32) => if x1 < 0 then (0) else (if 48 ≤ x1 then (0) else (bnd (fa x1.toNatClampNeg) (fun (x4 : Int32) => x4))))
set_option maxHeartbeats 4000000 in
set_option maxRecDepth 100000 in
theorem mX6_get_48 (l : Launch) (dC : Nat → ClassId) (dI : Nat → Nat → Nat) (kA : Nat → ClassId) (sz : Nat) (a0 : Nat) (a1 : Nat) (wd : Int32) (zs : Int32) (fa : Nat → Int32) (row : Int32) (col : Int32)  : Met l yX6_get wsX6_get ({ frames := 0, cells := 0, slots := 0, locals := 0 }) (zPc dC dI kA sz [.ref a0, .int row, .int col] [(a0, .inr (6, [.int wd, .ref a1, .int zs])), (a1, .inl (kA 0, 48, .inl fa))]) (va_Qi (fun (r : Int32) (u : Int32) => r = u ∧ u = fX6_get_48 wd fa row col) (zB dC dI (va_A [(a0, .inr (6, [.int wd, .ref a1, .int zs])), (a1, .inl (kA 0, 48, .inl fa))] sz) (fun (u : Int32) => [(a0, .inr (6, [.int wd, .ref a1, .int zs])), (a1, .inl (kA 0, 48, .inl fa))])) (va_A [(a0, .inr (6, [.int wd, .ref a1, .int zs])), (a1, .inl (kA 0, 48, .inl fa))] sz)) 0 0 (va_A [(a0, .inr (6, [.int wd, .ref a1, .int zs])), (a1, .inl (kA 0, 48, .inl fa))] sz) := by
  refine Met.ofW (cc := cX6_get) (maxL := 4) (ret := (some .int)) pnX6 rfl ?_
  intro p e s m args below meth c s₁ B hml hv
  obtain ⟨rfl, hsz, hP, hK, hD0⟩ := hv
  have hx := B.exec
  have hb := B.bytes
  have hr := B.returns
  have hts := atoms_spec (ws := wsX6_get) B.pre
  have hown : s.vm.findClass RX6 = some m.cls := findClass_of_methodNamed B.named
  have hlocks := B.notSynchronized
  subst hsz
  have hD := hD0.self (sz := s.heap.size)
  generalize hAe : va_A [(a0, .inr (6, [.int wd, .ref a1, .int zs])), (a1, .inl (kA 0, 48, .inl fa))] s.heap.size = A at hD ⊢
  have hA : ∀ q : Nat, s.heap.size ≤ q → A q := zA_of hAe
  have hS : va_S A s.heap s.heap [] := va_S.rf
  have hP : va_P (dC, dI) vwCl [(a0, .inr (6, [.int wd, .ref a1, .int zs])), (a1, .inl (kA 0, 48, .inl fa))] s.heap := hP
  have hl := lv_entry ([.ref a0, .int row, .int col]) (n := 4) (Nat.le_of_ble_eq_true rfl)
  rw [lg_entry_eq]
  generalize (lg_sl ([.ref a0, .int row, .int col]) ++ List.replicate (4 - (lg_sl ([.ref a0, .int row, .int col])).length) Slot.unset).toArray = ls at hl ⊢
  have hl : lv_has ls 4 [(0, .ref a0), (1, .int row), (2, .int col)] := hl
  obtain ⟨G, hG0⟩ : ∃ G : Int32, fX6_get_48 wd fa row col = G := ⟨_, rfl⟩
  have hG := hG0
  unfold fX6_get_48 at hG
  refine lv_iload_n hx hb dX6_get_0 rfl (lv_at hl 1 rfl) ?_
  refine lv_aload_n hx hb dX6_get_1 rfl (lv_at hl 0 rfl) ?_
  refine va_get (D := (dC, dI)) (ci := 6) (v := .int wd) (C := RX6) (T := TX6) (N := 3) hx hb hts iX6_get_X6 hown hK.1 hP 0 gz0 vcz6 0 (by decide) (kX6_get_1 hts) (fun _ h9 => h9) gz0 dX6_get_2 ?_
  refine lv_imul hx hb dX6_get_5 ?_
  refine lv_iload_n hx hb dX6_get_6 rfl (lv_at hl 2 rfl) ?_
  refine lv_iadd hx hb dX6_get_7 ?_
  refine lv_topi (fun x1 ex1 => ?_)
  have hG := zbnd hG ex1
  refine lv_istore_n (lv' := [(3, .int x1), (0, .ref a0), (1, .int row), (2, .int col)]) hx hb dX6_get_8 rfl hl (by decide) rfl (fun ls hl => ?_)
  refine lv_iload_n hx hb dX6_get_9 rfl (lv_at hl 0 rfl) ?_
  refine lv_if_lt (tgt := 31) hx hb dX6_get_10 (by decide) (fun c_2 => ?_) (fun c_2 => ?_)
  · have hG := zthen hG c_2
    refine lv_iconst (v := 0) hx hb dX6_get_31 (by decide) ?_
    obtain ⟨hP9, hD9⟩ := z_sb (L' := [(a0, .inr (6, [.int wd, .ref a1, .int zs])), (a1, .inl (kA 0, 48, .inl fa))]) hP hD [0, 1] (by decide) rfl
    refine W.widen (k := 0) (n := 0) (Nat.le_of_ble_eq_true rfl) (Nat.le_of_ble_eq_true rfl) ?_
    exact W.iret (v := 0) hx hb hr (fun t ht hW => ⟨⟨0, (0), rfl, ⟨rfl, (hG.trans hG0.symm)⟩, by rw [ht]; exact hP9, hD9⟩, hS.F ht⟩) hS.2.2 dX6_get_32
  · have hG := zelse hG c_2
    refine lv_iload_n hx hb dX6_get_13 rfl (lv_at hl 0 rfl) ?_
    refine lv_aload_n hx hb dX6_get_14 rfl (lv_at hl 1 rfl) ?_
    refine va_get (D := (dC, dI)) (ci := 6) (v := .ref a1) (C := RX6) (T := TX6) (N := 3) hx hb hts iX6_get_X6 hown hK.1 hP 0 gz0 vcz6 1 (by decide) (kX6_get_2 hts) (fun _ h9 => h9) gz1 dX6_get_15 ?_
    refine va_alen hx hb hK.1 hP 1 0 rfl rfl (v := 48) rfl dX6_get_18 ?_
    refine lv_icmp_ge (tgt := 31) hx hb dX6_get_19 (by decide) (fun c_3 => ?_) (fun c_3 => ?_)
    · have hG := zthen hG c_3
      refine lv_iconst (v := 0) hx hb dX6_get_31 (by decide) ?_
      obtain ⟨hP9, hD9⟩ := z_sb (L' := [(a0, .inr (6, [.int wd, .ref a1, .int zs])), (a1, .inl (kA 0, 48, .inl fa))]) hP hD [0, 1] (by decide) rfl
      refine W.widen (k := 0) (n := 0) (Nat.le_of_ble_eq_true rfl) (Nat.le_of_ble_eq_true rfl) ?_
      exact W.iret (v := 0) hx hb hr (fun t ht hW => ⟨⟨0, (0), rfl, ⟨rfl, (hG.trans hG0.symm)⟩, by rw [ht]; exact hP9, hD9⟩, hS.F ht⟩) hS.2.2 dX6_get_32
    · have hG := zelse hG c_3
      refine lv_aload_n hx hb dX6_get_22 rfl (lv_at hl 1 rfl) ?_
      refine va_get (D := (dC, dI)) (ci := 6) (v := .ref a1) (C := RX6) (T := TX6) (N := 3) hx hb hts iX6_get_X6 hown hK.1 hP 0 gz0 vcz6 1 (by decide) (kX6_get_2 hts) (fun _ h9 => h9) gz1 dX6_get_23 ?_
      refine lv_iload_n hx hb dX6_get_26 rfl (lv_at hl 0 rfl) ?_
      refine va_iald hx hb hK.1 hP 1 0 gz1 tzz0 (vp_lt (by decide) c_2 c_3) dX6_get_27 ?_
      refine lv_topi (fun x4 ex4 => ?_)
      have hG := zbnd hG ex4
      refine lv_goto (tgt := 32) hx hb dX6_get_28 (by decide) ?_
      obtain ⟨hP9, hD9⟩ := z_sb (L' := [(a0, .inr (6, [.int wd, .ref a1, .int zs])), (a1, .inl (kA 0, 48, .inl fa))]) hP hD [0, 1] (by decide) rfl
      refine W.widen (k := 0) (n := 0) (Nat.le_of_ble_eq_true rfl) (Nat.le_of_ble_eq_true rfl) ?_
      exact W.iret (v := x4) hx hb hr (fun t ht hW => ⟨⟨x4, (x4), rfl, ⟨rfl, (hG.trans hG0.symm)⟩, by rw [ht]; exact hP9, hD9⟩, hS.F ht⟩) hS.2.2 dX6_get_32
set_option maxRecDepth 100000 in
def fX6_put_48 (wd : Int32) (fa : Nat → Int32) (row : Int32) (col : Int32) (val : Int32) : (Nat → Int32) := bnd (((row * wd) + col)) (fun (x1 : Int32) => if x1 < 0 then (fa) else (if 48 ≤ x1 then (fa) else (bnd ((upd fa x1.toNatClampNeg val)) (fun (f4 : Nat → Int32) => f4))))
set_option maxHeartbeats 4000000 in
set_option maxRecDepth 100000 in
theorem mX6_put_48 (l : Launch) (dC : Nat → ClassId) (dI : Nat → Nat → Nat) (kA : Nat → ClassId) (sz : Nat) (a0 : Nat) (a1 : Nat) (wd : Int32) (zs : Int32) (fa : Nat → Int32) (row : Int32) (col : Int32) (val : Int32)  : Met l yX6_put wsX6_put ({ frames := 0, cells := 0, slots := 0, locals := 0 }) (zPc dC dI kA sz [.ref a0, .int row, .int col, .int val] [(a0, .inr (6, [.int wd, .ref a1, .int zs])), (a1, .inl (kA 0, 48, .inl fa))]) (va_Qv (fun (u : (Nat → Int32)) => u = fX6_put_48 wd fa row col val) (zB dC dI (va_A [(a0, .inr (6, [.int wd, .ref a1, .int zs])), (a1, .inl (kA 0, 48, .inl fa))] sz) (fun (u : (Nat → Int32)) => [(a0, .inr (6, [.int wd, .ref a1, .int zs])), (a1, .inl (kA 0, 48, .inl u))])) (va_A [(a0, .inr (6, [.int wd, .ref a1, .int zs])), (a1, .inl (kA 0, 48, .inl fa))] sz)) 0 0 (va_A [(a0, .inr (6, [.int wd, .ref a1, .int zs])), (a1, .inl (kA 0, 48, .inl fa))] sz) := by
  refine Met.ofW (cc := cX6_put) (maxL := 5) (ret := none) pnX6 rfl ?_
  intro p e s m args below meth c s₁ B hml hv
  obtain ⟨rfl, hsz, hP, hK, hD0⟩ := hv
  have hx := B.exec
  have hb := B.bytes
  have hr := B.returns
  have hts := atoms_spec (ws := wsX6_put) B.pre
  have hown : s.vm.findClass RX6 = some m.cls := findClass_of_methodNamed B.named
  have hlocks := B.notSynchronized
  subst hsz
  have hD := hD0.self (sz := s.heap.size)
  generalize hAe : va_A [(a0, .inr (6, [.int wd, .ref a1, .int zs])), (a1, .inl (kA 0, 48, .inl fa))] s.heap.size = A at hD ⊢
  have hA : ∀ q : Nat, s.heap.size ≤ q → A q := zA_of hAe
  have hS : va_S A s.heap s.heap [] := va_S.rf
  have hP : va_P (dC, dI) vwCl [(a0, .inr (6, [.int wd, .ref a1, .int zs])), (a1, .inl (kA 0, 48, .inl fa))] s.heap := hP
  have hl := lv_entry ([.ref a0, .int row, .int col, .int val]) (n := 5) (Nat.le_of_ble_eq_true rfl)
  rw [lg_entry_eq]
  generalize (lg_sl ([.ref a0, .int row, .int col, .int val]) ++ List.replicate (5 - (lg_sl ([.ref a0, .int row, .int col, .int val])).length) Slot.unset).toArray = ls at hl ⊢
  have hl : lv_has ls 5 [(0, .ref a0), (1, .int row), (2, .int col), (3, .int val)] := hl
  obtain ⟨G, hG0⟩ : ∃ G : (Nat → Int32), fX6_put_48 wd fa row col val = G := ⟨_, rfl⟩
  have hG := hG0
  unfold fX6_put_48 at hG
  refine lv_iload_n hx hb dX6_put_0 rfl (lv_at hl 1 rfl) ?_
  refine lv_aload_n hx hb dX6_put_1 rfl (lv_at hl 0 rfl) ?_
  refine va_get (D := (dC, dI)) (ci := 6) (v := .int wd) (C := RX6) (T := TX6) (N := 3) hx hb hts iX6_put_X6 hown hK.1 hP 0 gz0 vcz6 0 (by decide) (kX6_put_1 hts) (fun _ h9 => h9) gz0 dX6_put_2 ?_
  refine lv_imul hx hb dX6_put_5 ?_
  refine lv_iload_n hx hb dX6_put_6 rfl (lv_at hl 2 rfl) ?_
  refine lv_iadd hx hb dX6_put_7 ?_
  refine lv_topi (fun x1 ex1 => ?_)
  have hG := zbnd hG ex1
  refine lv_istore (lv' := [(4, .int x1), (0, .ref a0), (1, .int row), (2, .int col), (3, .int val)]) hx hb dX6_put_8 hl (by decide) rfl (fun ls hl => ?_)
  refine lv_iload hx hb dX6_put_10 (lv_at hl 0 rfl) ?_
  refine lv_if_lt (tgt := 33) hx hb dX6_put_12 (by decide) (fun c_2 => ?_) (fun c_2 => ?_)
  · have hG := zthen hG c_2
    obtain ⟨hP9, hD9⟩ := z_sb (L' := [(a0, .inr (6, [.int wd, .ref a1, .int zs])), (a1, .inl (kA 0, 48, .inl fa))]) hP hD [0, 1] (by decide) rfl
    refine W.widen (k := 0) (n := 0) (Nat.le_of_ble_eq_true rfl) (Nat.le_of_ble_eq_true rfl) ?_
    exact W.vret hx hb hr (fun t ht hW => ⟨⟨(fa), rfl, (hG.trans hG0.symm), by rw [ht]; exact hP9, hD9⟩, hS.F ht⟩) hS.2.2 dX6_put_33
  · have hG := zelse hG c_2
    refine lv_iload hx hb dX6_put_15 (lv_at hl 0 rfl) ?_
    refine lv_aload_n hx hb dX6_put_17 rfl (lv_at hl 1 rfl) ?_
    refine va_get (D := (dC, dI)) (ci := 6) (v := .ref a1) (C := RX6) (T := TX6) (N := 3) hx hb hts iX6_put_X6 hown hK.1 hP 0 gz0 vcz6 1 (by decide) (kX6_put_2 hts) (fun _ h9 => h9) gz1 dX6_put_18 ?_
    refine va_alen hx hb hK.1 hP 1 0 rfl rfl (v := 48) rfl dX6_put_21 ?_
    refine lv_icmp_ge (tgt := 33) hx hb dX6_put_22 (by decide) (fun c_3 => ?_) (fun c_3 => ?_)
    · have hG := zthen hG c_3
      obtain ⟨hP9, hD9⟩ := z_sb (L' := [(a0, .inr (6, [.int wd, .ref a1, .int zs])), (a1, .inl (kA 0, 48, .inl fa))]) hP hD [0, 1] (by decide) rfl
      refine W.widen (k := 0) (n := 0) (Nat.le_of_ble_eq_true rfl) (Nat.le_of_ble_eq_true rfl) ?_
      exact W.vret hx hb hr (fun t ht hW => ⟨⟨(fa), rfl, (hG.trans hG0.symm), by rw [ht]; exact hP9, hD9⟩, hS.F ht⟩) hS.2.2 dX6_put_33
    · have hG := zelse hG c_3
      refine lv_aload_n hx hb dX6_put_25 rfl (lv_at hl 1 rfl) ?_
      refine va_get (D := (dC, dI)) (ci := 6) (v := .ref a1) (C := RX6) (T := TX6) (N := 3) hx hb hts iX6_put_X6 hown hK.1 hP 0 gz0 vcz6 1 (by decide) (kX6_put_2 hts) (fun _ h9 => h9) gz1 dX6_put_26 ?_
      refine lv_iload hx hb dX6_put_29 (lv_at hl 0 rfl) ?_
      refine lv_iload_n hx hb dX6_put_31 rfl (lv_at hl 4 rfl) ?_
      refine va_iast hx hb hK.1 hP hD hS 1 0 gz1 tzz0 (vp_lt (by decide) c_2 c_3) dX6_put_32 (fun H locs hP hD hS => ?_)
      obtain ⟨hP, hD⟩ := z_re (L := [(a0, .inr (6, [.int wd, .ref a1, .int zs])), (a1, .inl (kA 0, 48, .inl (upd fa x1.toNatClampNeg val)))]) hP hD
      obtain ⟨f4, ef4⟩ : ∃ y : Nat → Int32, y = (upd fa x1.toNatClampNeg val) := ⟨_, rfl⟩
      rw [← ef4] at hP hD
      have hG := zbnd hG ef4
      obtain ⟨hP9, hD9⟩ := z_sb (L' := [(a0, .inr (6, [.int wd, .ref a1, .int zs])), (a1, .inl (kA 0, 48, .inl f4))]) hP hD [0, 1] (by decide) rfl
      refine W.widen (k := 0) (n := 0) (Nat.le_of_ble_eq_true rfl) (Nat.le_of_ble_eq_true rfl) ?_
      exact W.vret hx hb hr (fun t ht hW => ⟨⟨(f4), rfl, (hG.trans hG0.symm), by rw [ht]; exact hP9, hD9⟩, hS.F ht⟩) hS.2.2 dX6_put_33
set_option maxRecDepth 100000 in
def fX6_grow_48 (wd : Int32) (zs : Int32) : Int32 × Int32 := if ((zs + 1) * wd) ≤ 48 then (bnd ((zs + 1)) (fun (x2 : Int32) => (x2, (x2 - 1)))) else ((zs, (-1)))
set_option maxHeartbeats 4000000 in
set_option maxRecDepth 100000 in
theorem mX6_grow_48 (l : Launch) (dC : Nat → ClassId) (dI : Nat → Nat → Nat) (kA : Nat → ClassId) (sz : Nat) (a0 : Nat) (a1 : Nat) (wd : Int32) (zs : Int32) (fa : Nat → Int32)  : Met l yX6_grow wsX6_grow ({ frames := 0, cells := 0, slots := 0, locals := 0 }) (zPc dC dI kA sz [.ref a0] [(a0, .inr (6, [.int wd, .ref a1, .int zs])), (a1, .inl (kA 0, 48, .inl fa))]) (va_Qi (fun (r : Int32) (u : Int32 × Int32) => r = u.2 ∧ (u.1, u.2) = fX6_grow_48 wd zs) (zB dC dI (va_A [(a0, .inr (6, [.int wd, .ref a1, .int zs])), (a1, .inl (kA 0, 48, .inl fa))] sz) (fun (u : Int32 × Int32) => [(a0, .inr (6, [.int wd, .ref a1, .int u.1])), (a1, .inl (kA 0, 48, .inl fa))])) (va_A [(a0, .inr (6, [.int wd, .ref a1, .int zs])), (a1, .inl (kA 0, 48, .inl fa))] sz)) 0 0 (va_A [(a0, .inr (6, [.int wd, .ref a1, .int zs])), (a1, .inl (kA 0, 48, .inl fa))] sz) := by
  refine Met.ofW (cc := cX6_grow) (maxL := 1) (ret := (some .int)) pnX6 rfl ?_
  intro p e s m args below meth c s₁ B hml hv
  obtain ⟨rfl, hsz, hP, hK, hD0⟩ := hv
  have hx := B.exec
  have hb := B.bytes
  have hr := B.returns
  have hts := atoms_spec (ws := wsX6_grow) B.pre
  have hown : s.vm.findClass RX6 = some m.cls := findClass_of_methodNamed B.named
  have hlocks := B.notSynchronized
  subst hsz
  have hD := hD0.self (sz := s.heap.size)
  generalize hAe : va_A [(a0, .inr (6, [.int wd, .ref a1, .int zs])), (a1, .inl (kA 0, 48, .inl fa))] s.heap.size = A at hD ⊢
  have hA : ∀ q : Nat, s.heap.size ≤ q → A q := zA_of hAe
  have hS : va_S A s.heap s.heap [] := va_S.rf
  have hP : va_P (dC, dI) vwCl [(a0, .inr (6, [.int wd, .ref a1, .int zs])), (a1, .inl (kA 0, 48, .inl fa))] s.heap := hP
  have hl := lv_entry ([.ref a0]) (n := 1) (Nat.le_of_ble_eq_true rfl)
  rw [lg_entry_eq]
  generalize (lg_sl ([.ref a0]) ++ List.replicate (1 - (lg_sl ([.ref a0])).length) Slot.unset).toArray = ls at hl ⊢
  have hl : lv_has ls 1 [(0, .ref a0)] := hl
  obtain ⟨G, hG0⟩ : ∃ G : Int32 × Int32, fX6_grow_48 wd zs = G := ⟨_, rfl⟩
  have hG := hG0
  unfold fX6_grow_48 at hG
  refine lv_aload_n hx hb dX6_grow_0 rfl (lv_at hl 0 rfl) ?_
  refine va_get (D := (dC, dI)) (ci := 6) (v := .int zs) (C := RX6) (T := TX6) (N := 3) hx hb hts iX6_grow_X6 hown hK.1 hP 0 gz0 vcz6 2 (by decide) (kX6_grow_1 hts) (fun _ h9 => h9) gz2 dX6_grow_1 ?_
  refine lv_iconst (v := 1) hx hb dX6_grow_4 (by decide) ?_
  refine lv_iadd hx hb dX6_grow_5 ?_
  refine lv_aload_n hx hb dX6_grow_6 rfl (lv_at hl 0 rfl) ?_
  refine va_get (D := (dC, dI)) (ci := 6) (v := .int wd) (C := RX6) (T := TX6) (N := 3) hx hb hts iX6_grow_X6 hown hK.1 hP 0 gz0 vcz6 0 (by decide) (kX6_grow_2 hts) (fun _ h9 => h9) gz0 dX6_grow_7 ?_
  refine lv_imul hx hb dX6_grow_10 ?_
  refine lv_aload_n hx hb dX6_grow_11 rfl (lv_at hl 0 rfl) ?_
  refine va_get (D := (dC, dI)) (ci := 6) (v := .ref a1) (C := RX6) (T := TX6) (N := 3) hx hb hts iX6_grow_X6 hown hK.1 hP 0 gz0 vcz6 1 (by decide) (kX6_grow_3 hts) (fun _ h9 => h9) gz1 dX6_grow_12 ?_
  refine va_alen hx hb hK.1 hP 1 0 rfl rfl (v := 48) rfl dX6_grow_15 ?_
  refine lv_icmp_le (tgt := 21) hx hb dX6_grow_16 (by decide) (fun c_1 => ?_) (fun c_1 => ?_)
  · have hG := zthen hG c_1
    refine lv_aload_n hx hb dX6_grow_21 rfl (lv_at hl 0 rfl) ?_
    refine lv_dup hx hb dX6_grow_22 rfl ?_
    refine va_get (D := (dC, dI)) (ci := 6) (v := .int zs) (C := RX6) (T := TX6) (N := 3) hx hb hts iX6_grow_X6 hown hK.1 hP 0 gz0 vcz6 2 (by decide) (kX6_grow_1 hts) (fun _ h9 => h9) gz2 dX6_grow_23 ?_
    refine lv_iconst (v := 1) hx hb dX6_grow_26 (by decide) ?_
    refine lv_iadd hx hb dX6_grow_27 ?_
    refine lv_topi (fun x2 ex2 => ?_)
    have hG := zbnd hG ex2
    refine va_put (D := (dC, dI)) (ci := 6) (v := .int x2) (ty := .int) (C := RX6) (T := TX6) (N := 3) hx hb hts iX6_grow_X6 tyX6 tyX6_ok nmX6 hown hK.1 hP hD hS 0 gz0 vcz6 2 (by decide) (kX6_grow_1 hts) (fun _ h9 => h9) rfl pfdI rfl rfl (Nat.le_of_ble_eq_true rfl) dX6_grow_28 (fun H locs hP hD hS => ?_)
    obtain ⟨hP, hD⟩ := z_re (L := [(a0, .inr (6, [.int wd, .ref a1, .int x2])), (a1, .inl (kA 0, 48, .inl fa))]) hP hD
    refine lv_aload_n hx hb dX6_grow_31 rfl (lv_at hl 0 rfl) ?_
    refine va_get (D := (dC, dI)) (ci := 6) (v := .int x2) (C := RX6) (T := TX6) (N := 3) hx hb hts iX6_grow_X6 hown hK.1 hP 0 gz0 vcz6 2 (by decide) (kX6_grow_1 hts) (fun _ h9 => h9) gz2 dX6_grow_32 ?_
    refine lv_iconst (v := 1) hx hb dX6_grow_35 (by decide) ?_
    refine lv_isub hx hb dX6_grow_36 ?_
    obtain ⟨hP9, hD9⟩ := z_sb (L' := [(a0, .inr (6, [.int wd, .ref a1, .int x2])), (a1, .inl (kA 0, 48, .inl fa))]) hP hD [0, 1] (by decide) rfl
    refine W.widen (k := 0) (n := 0) (Nat.le_of_ble_eq_true rfl) (Nat.le_of_ble_eq_true rfl) ?_
    exact W.iret (v := (x2 - 1)) hx hb hr (fun t ht hW => ⟨⟨(x2 - 1), (x2, (x2 - 1)), rfl, ⟨rfl, (hG.trans hG0.symm)⟩, by rw [ht]; exact hP9, hD9⟩, hS.F ht⟩) hS.2.2 dX6_grow_37
  · have hG := zelse hG c_1
    refine lv_iconst (v := (-1)) hx hb dX6_grow_19 (by decide) ?_
    obtain ⟨hP9, hD9⟩ := z_sb (L' := [(a0, .inr (6, [.int wd, .ref a1, .int zs])), (a1, .inl (kA 0, 48, .inl fa))]) hP hD [0, 1] (by decide) rfl
    refine W.widen (k := 0) (n := 0) (Nat.le_of_ble_eq_true rfl) (Nat.le_of_ble_eq_true rfl) ?_
    exact W.iret (v := (-1)) hx hb hr (fun t ht hW => ⟨⟨(-1), (zs, (-1)), rfl, ⟨rfl, (hG.trans hG0.symm)⟩, by rw [ht]; exact hP9, hD9⟩, hS.F ht⟩) hS.2.2 dX6_grow_20
set_option maxRecDepth 100000 in
def fX6_copyFrom_48 (fa : Nat → Int32) (zs2 : Int32) (ga : Nat → Int32) : Int32 × (Nat → Int32) := bnd ((va_cpy ga fa (0 : Int32).toNatClampNeg (0 : Int32).toNatClampNeg (48 : Int32).toNatClampNeg)) (fun (f2 : Nat → Int32) => (zs2, f2))
set_option maxHeartbeats 4000000 in
set_option maxRecDepth 100000 in
theorem mX6_copyFrom_48 (l : Launch) (dC : Nat → ClassId) (dI : Nat → Nat → Nat) (kA : Nat → ClassId) (sz : Nat) (a0 : Nat) (a1 : Nat) (wd : Int32) (zs : Int32) (fa : Nat → Int32) (b0 : Nat) (b1 : Nat) (wd2 : Int32) (zs2 : Int32) (ga : Nat → Int32)  : Met l yX6_copyFrom wsX6_copyFrom ({ frames := 1, cells := 0, slots := 0, locals := 60 }) (zPc dC dI kA sz [.ref a0, .ref b0] [(a0, .inr (6, [.int wd, .ref a1, .int zs])), (a1, .inl (kA 0, 48, .inl fa)), (b0, .inr (6, [.int wd2, .ref b1, .int zs2])), (b1, .inl (kA 0, 48, .inl ga))]) (va_Qv (fun (u : Int32 × (Nat → Int32)) => (u.1, u.2) = fX6_copyFrom_48 fa zs2 ga) (zB dC dI (va_A [(a0, .inr (6, [.int wd, .ref a1, .int zs])), (a1, .inl (kA 0, 48, .inl fa)), (b0, .inr (6, [.int wd2, .ref b1, .int zs2])), (b1, .inl (kA 0, 48, .inl ga))] sz) (fun (u : Int32 × (Nat → Int32)) => [(a0, .inr (6, [.int wd, .ref a1, .int u.1])), (a1, .inl (kA 0, 48, .inl u.2)), (b0, .inr (6, [.int wd2, .ref b1, .int zs2])), (b1, .inl (kA 0, 48, .inl ga))])) (va_A [(a0, .inr (6, [.int wd, .ref a1, .int zs])), (a1, .inl (kA 0, 48, .inl fa)), (b0, .inr (6, [.int wd2, .ref b1, .int zs2])), (b1, .inl (kA 0, 48, .inl ga))] sz)) 0 0 (va_A [(a0, .inr (6, [.int wd, .ref a1, .int zs])), (a1, .inl (kA 0, 48, .inl fa)), (b0, .inr (6, [.int wd2, .ref b1, .int zs2])), (b1, .inl (kA 0, 48, .inl ga))] sz) := by
  refine Met.ofW (cc := cX6_copyFrom) (maxL := 2) (ret := none) pnX6 rfl ?_
  intro p e s m args below meth c s₁ B hml hv
  obtain ⟨rfl, hsz, hP, hK, hD0⟩ := hv
  have hx := B.exec
  have hb := B.bytes
  have hr := B.returns
  have hts := atoms_spec (ws := wsX6_copyFrom) B.pre
  have hown : s.vm.findClass RX6 = some m.cls := findClass_of_methodNamed B.named
  have hlocks := B.notSynchronized
  subst hsz
  have hD := hD0.self (sz := s.heap.size)
  generalize hAe : va_A [(a0, .inr (6, [.int wd, .ref a1, .int zs])), (a1, .inl (kA 0, 48, .inl fa)), (b0, .inr (6, [.int wd2, .ref b1, .int zs2])), (b1, .inl (kA 0, 48, .inl ga))] s.heap.size = A at hD ⊢
  have hA : ∀ q : Nat, s.heap.size ≤ q → A q := zA_of hAe
  have hS : va_S A s.heap s.heap [] := va_S.rf
  have hP : va_P (dC, dI) vwCl [(a0, .inr (6, [.int wd, .ref a1, .int zs])), (a1, .inl (kA 0, 48, .inl fa)), (b0, .inr (6, [.int wd2, .ref b1, .int zs2])), (b1, .inl (kA 0, 48, .inl ga))] s.heap := hP
  have hl := lv_entry ([.ref a0, .ref b0]) (n := 2) (Nat.le_of_ble_eq_true rfl)
  rw [lg_entry_eq]
  generalize (lg_sl ([.ref a0, .ref b0]) ++ List.replicate (2 - (lg_sl ([.ref a0, .ref b0])).length) Slot.unset).toArray = ls at hl ⊢
  have hl : lv_has ls 2 [(0, .ref a0), (1, .ref b0)] := hl
  obtain ⟨G, hG0⟩ : ∃ G : Int32 × (Nat → Int32), fX6_copyFrom_48 fa zs2 ga = G := ⟨_, rfl⟩
  have hG := hG0
  unfold fX6_copyFrom_48 at hG
  refine lv_aload_n hx hb dX6_copyFrom_0 rfl (lv_at hl 1 rfl) ?_
  refine va_get (D := (dC, dI)) (ci := 6) (v := .ref b1) (C := RX6) (T := TX6) (N := 3) hx hb hts iX6_copyFrom_X6 hown hK.1 hP 2 gz2 vcz6 1 (by decide) (kX6_copyFrom_1 hts) (fun _ h9 => h9) gz1 dX6_copyFrom_1 ?_
  refine va_alen hx hb hK.1 hP 3 0 rfl rfl (v := 48) rfl dX6_copyFrom_4 ?_
  refine lv_aload_n hx hb dX6_copyFrom_5 rfl (lv_at hl 0 rfl) ?_
  refine va_get (D := (dC, dI)) (ci := 6) (v := .ref a1) (C := RX6) (T := TX6) (N := 3) hx hb hts iX6_copyFrom_X6 hown hK.1 hP 0 gz0 vcz6 1 (by decide) (kX6_copyFrom_1 hts) (fun _ h9 => h9) gz1 dX6_copyFrom_6 ?_
  refine va_alen hx hb hK.1 hP 1 0 rfl rfl (v := 48) rfl dX6_copyFrom_9 ?_
  refine lv_icmp_ne (tgt := 39) hx hb dX6_copyFrom_10 (by decide) (fun c_1 => absurd (by decide) c_1) (fun _ => ?_)
  refine lv_aload_n hx hb dX6_copyFrom_13 rfl (lv_at hl 1 rfl) ?_
  refine va_get (D := (dC, dI)) (ci := 6) (v := .ref b1) (C := RX6) (T := TX6) (N := 3) hx hb hts iX6_copyFrom_X6 hown hK.1 hP 2 gz2 vcz6 1 (by decide) (kX6_copyFrom_1 hts) (fun _ h9 => h9) gz1 dX6_copyFrom_14 ?_
  refine lv_iconst (v := 0) hx hb dX6_copyFrom_17 (by decide) ?_
  refine lv_aload_n hx hb dX6_copyFrom_18 rfl (lv_at hl 0 rfl) ?_
  refine va_get (D := (dC, dI)) (ci := 6) (v := .ref a1) (C := RX6) (T := TX6) (N := 3) hx hb hts iX6_copyFrom_X6 hown hK.1 hP 0 gz0 vcz6 1 (by decide) (kX6_copyFrom_1 hts) (fun _ h9 => h9) gz1 dX6_copyFrom_19 ?_
  refine lv_iconst (v := 0) hx hb dX6_copyFrom_22 (by decide) ?_
  refine lv_aload_n hx hb dX6_copyFrom_23 rfl (lv_at hl 0 rfl) ?_
  refine va_get (D := (dC, dI)) (ci := 6) (v := .ref a1) (C := RX6) (T := TX6) (N := 3) hx hb hts iX6_copyFrom_X6 hown hK.1 hP 0 gz0 vcz6 1 (by decide) (kX6_copyFrom_1 hts) (fun _ h9 => h9) gz1 dX6_copyFrom_24 ?_
  refine va_alen hx hb hK.1 hP 1 0 rfl rfl (v := 48) rfl dX6_copyFrom_27 ?_
  refine va_copyi hx hb (by rw [hml]; exact hl.1.symm) hown (kX6_copyFrom_2 hts) (kX6_copyFrom_3 hts) (kX6_copyFrom_4 hts) (kX6_copyFrom_5 hts) hK.1 hP hD hS 3 1 0 0 rfl rfl rfl rfl rfl (by decide) (by decide) (by decide) (by decide) (by decide) (fun _ _ => rfl) (Nat.le_of_ble_eq_true rfl) (Nat.le_of_ble_eq_true rfl) dX6_copyFrom_28 (fun H locs hP hD hS => ?_)
  obtain ⟨hP, hD⟩ := z_re (L := [(a0, .inr (6, [.int wd, .ref a1, .int zs])), (a1, .inl (kA 0, 48, .inl (va_cpy ga fa (0 : Int32).toNatClampNeg (0 : Int32).toNatClampNeg (48 : Int32).toNatClampNeg))), (b0, .inr (6, [.int wd2, .ref b1, .int zs2])), (b1, .inl (kA 0, 48, .inl ga))]) hP hD
  obtain ⟨f2, ef2⟩ : ∃ y : Nat → Int32, y = (va_cpy ga fa (0 : Int32).toNatClampNeg (0 : Int32).toNatClampNeg (48 : Int32).toNatClampNeg) := ⟨_, rfl⟩
  rw [← ef2] at hP hD
  have hG := zbnd hG ef2
  refine lv_aload_n hx hb dX6_copyFrom_31 rfl (lv_at hl 0 rfl) ?_
  refine lv_aload_n hx hb dX6_copyFrom_32 rfl (lv_at hl 1 rfl) ?_
  refine va_get (D := (dC, dI)) (ci := 6) (v := .int zs2) (C := RX6) (T := TX6) (N := 3) hx hb hts iX6_copyFrom_X6 hown hK.1 hP 2 gz2 vcz6 2 (by decide) (kX6_copyFrom_6 hts) (fun _ h9 => h9) gz2 dX6_copyFrom_33 ?_
  refine va_put (D := (dC, dI)) (ci := 6) (v := .int zs2) (ty := .int) (C := RX6) (T := TX6) (N := 3) hx hb hts iX6_copyFrom_X6 tyX6 tyX6_ok nmX6 hown hK.1 hP hD hS 0 gz0 vcz6 2 (by decide) (kX6_copyFrom_6 hts) (fun _ h9 => h9) rfl pfdI rfl rfl (Nat.le_of_ble_eq_true rfl) dX6_copyFrom_36 (fun H locs hP hD hS => ?_)
  obtain ⟨hP, hD⟩ := z_re (L := [(a0, .inr (6, [.int wd, .ref a1, .int zs2])), (a1, .inl (kA 0, 48, .inl f2)), (b0, .inr (6, [.int wd2, .ref b1, .int zs2])), (b1, .inl (kA 0, 48, .inl ga))]) hP hD
  obtain ⟨hP9, hD9⟩ := z_sb (L' := [(a0, .inr (6, [.int wd, .ref a1, .int zs2])), (a1, .inl (kA 0, 48, .inl f2)), (b0, .inr (6, [.int wd2, .ref b1, .int zs2])), (b1, .inl (kA 0, 48, .inl ga))]) hP hD [0, 1, 2, 3] (by decide) rfl
  refine W.widen (k := 0) (n := 0) (Nat.le_of_ble_eq_true rfl) (Nat.le_of_ble_eq_true rfl) ?_
  exact W.vret hx hb hr (fun t ht hW => ⟨⟨(zs2, f2), rfl, (hG.trans hG0.symm), by rw [ht]; exact hP9, hD9⟩, hS.F ht⟩) hS.2.2 dX6_copyFrom_39
set_option maxRecDepth 100000 in
def fX6_get_100 (wd : Int32) (fa : Nat → Int32) (row : Int32) (col : Int32) : Int32 := bnd (((row * wd) + col)) (fun (x1 : Int32) => if x1 < 0 then (0) else (if 100 ≤ x1 then (0) else (bnd (fa x1.toNatClampNeg) (fun (x4 : Int32) => x4))))
set_option maxHeartbeats 4000000 in
set_option maxRecDepth 100000 in
theorem mX6_get_100 (l : Launch) (dC : Nat → ClassId) (dI : Nat → Nat → Nat) (kA : Nat → ClassId) (sz : Nat) (a0 : Nat) (a1 : Nat) (wd : Int32) (zs : Int32) (fa : Nat → Int32) (row : Int32) (col : Int32)  : Met l yX6_get wsX6_get ({ frames := 0, cells := 0, slots := 0, locals := 0 }) (zPc dC dI kA sz [.ref a0, .int row, .int col] [(a0, .inr (6, [.int wd, .ref a1, .int zs])), (a1, .inl (kA 0, 100, .inl fa))]) (va_Qi (fun (r : Int32) (u : Int32) => r = u ∧ u = fX6_get_100 wd fa row col) (zB dC dI (va_A [(a0, .inr (6, [.int wd, .ref a1, .int zs])), (a1, .inl (kA 0, 100, .inl fa))] sz) (fun (u : Int32) => [(a0, .inr (6, [.int wd, .ref a1, .int zs])), (a1, .inl (kA 0, 100, .inl fa))])) (va_A [(a0, .inr (6, [.int wd, .ref a1, .int zs])), (a1, .inl (kA 0, 100, .inl fa))] sz)) 0 0 (va_A [(a0, .inr (6, [.int wd, .ref a1, .int zs])), (a1, .inl (kA 0, 100, .inl fa))] sz) := by
  refine Met.ofW (cc := cX6_get) (maxL := 4) (ret := (some .int)) pnX6 rfl ?_
  intro p e s m args below meth c s₁ B hml hv
  obtain ⟨rfl, hsz, hP, hK, hD0⟩ := hv
  have hx := B.exec
  have hb := B.bytes
  have hr := B.returns
  have hts := atoms_spec (ws := wsX6_get) B.pre
  have hown : s.vm.findClass RX6 = some m.cls := findClass_of_methodNamed B.named
  have hlocks := B.notSynchronized
  subst hsz
  have hD := hD0.self (sz := s.heap.size)
  generalize hAe : va_A [(a0, .inr (6, [.int wd, .ref a1, .int zs])), (a1, .inl (kA 0, 100, .inl fa))] s.heap.size = A at hD ⊢
  have hA : ∀ q : Nat, s.heap.size ≤ q → A q := zA_of hAe
  have hS : va_S A s.heap s.heap [] := va_S.rf
  have hP : va_P (dC, dI) vwCl [(a0, .inr (6, [.int wd, .ref a1, .int zs])), (a1, .inl (kA 0, 100, .inl fa))] s.heap := hP
  have hl := lv_entry ([.ref a0, .int row, .int col]) (n := 4) (Nat.le_of_ble_eq_true rfl)
  rw [lg_entry_eq]
  generalize (lg_sl ([.ref a0, .int row, .int col]) ++ List.replicate (4 - (lg_sl ([.ref a0, .int row, .int col])).length) Slot.unset).toArray = ls at hl ⊢
  have hl : lv_has ls 4 [(0, .ref a0), (1, .int row), (2, .int col)] := hl
  obtain ⟨G, hG0⟩ : ∃ G : Int32, fX6_get_100 wd fa row col = G := ⟨_, rfl⟩
  have hG := hG0
  unfold fX6_get_100 at hG
  refine lv_iload_n hx hb dX6_get_0 rfl (lv_at hl 1 rfl) ?_
  refine lv_aload_n hx hb dX6_get_1 rfl (lv_at hl 0 rfl) ?_
  refine va_get (D := (dC, dI)) (ci := 6) (v := .int wd) (C := RX6) (T := TX6) (N := 3) hx hb hts iX6_get_X6 hown hK.1 hP 0 gz0 vcz6 0 (by decide) (kX6_get_1 hts) (fun _ h9 => h9) gz0 dX6_get_2 ?_
  refine lv_imul hx hb dX6_get_5 ?_
  refine lv_iload_n hx hb dX6_get_6 rfl (lv_at hl 2 rfl) ?_
  refine lv_iadd hx hb dX6_get_7 ?_
  refine lv_topi (fun x1 ex1 => ?_)
  have hG := zbnd hG ex1
  refine lv_istore_n (lv' := [(3, .int x1), (0, .ref a0), (1, .int row), (2, .int col)]) hx hb dX6_get_8 rfl hl (by decide) rfl (fun ls hl => ?_)
  refine lv_iload_n hx hb dX6_get_9 rfl (lv_at hl 0 rfl) ?_
  refine lv_if_lt (tgt := 31) hx hb dX6_get_10 (by decide) (fun c_2 => ?_) (fun c_2 => ?_)
  · have hG := zthen hG c_2
    refine lv_iconst (v := 0) hx hb dX6_get_31 (by decide) ?_
    obtain ⟨hP9, hD9⟩ := z_sb (L' := [(a0, .inr (6, [.int wd, .ref a1, .int zs])), (a1, .inl (kA 0, 100, .inl fa))]) hP hD [0, 1] (by decide) rfl
    refine W.widen (k := 0) (n := 0) (Nat.le_of_ble_eq_true rfl) (Nat.le_of_ble_eq_true rfl) ?_
    exact W.iret (v := 0) hx hb hr (fun t ht hW => ⟨⟨0, (0), rfl, ⟨rfl, (hG.trans hG0.symm)⟩, by rw [ht]; exact hP9, hD9⟩, hS.F ht⟩) hS.2.2 dX6_get_32
  · have hG := zelse hG c_2
    refine lv_iload_n hx hb dX6_get_13 rfl (lv_at hl 0 rfl) ?_
    refine lv_aload_n hx hb dX6_get_14 rfl (lv_at hl 1 rfl) ?_
    refine va_get (D := (dC, dI)) (ci := 6) (v := .ref a1) (C := RX6) (T := TX6) (N := 3) hx hb hts iX6_get_X6 hown hK.1 hP 0 gz0 vcz6 1 (by decide) (kX6_get_2 hts) (fun _ h9 => h9) gz1 dX6_get_15 ?_
    refine va_alen hx hb hK.1 hP 1 0 rfl rfl (v := 100) rfl dX6_get_18 ?_
    refine lv_icmp_ge (tgt := 31) hx hb dX6_get_19 (by decide) (fun c_3 => ?_) (fun c_3 => ?_)
    · have hG := zthen hG c_3
      refine lv_iconst (v := 0) hx hb dX6_get_31 (by decide) ?_
      obtain ⟨hP9, hD9⟩ := z_sb (L' := [(a0, .inr (6, [.int wd, .ref a1, .int zs])), (a1, .inl (kA 0, 100, .inl fa))]) hP hD [0, 1] (by decide) rfl
      refine W.widen (k := 0) (n := 0) (Nat.le_of_ble_eq_true rfl) (Nat.le_of_ble_eq_true rfl) ?_
      exact W.iret (v := 0) hx hb hr (fun t ht hW => ⟨⟨0, (0), rfl, ⟨rfl, (hG.trans hG0.symm)⟩, by rw [ht]; exact hP9, hD9⟩, hS.F ht⟩) hS.2.2 dX6_get_32
    · have hG := zelse hG c_3
      refine lv_aload_n hx hb dX6_get_22 rfl (lv_at hl 1 rfl) ?_
      refine va_get (D := (dC, dI)) (ci := 6) (v := .ref a1) (C := RX6) (T := TX6) (N := 3) hx hb hts iX6_get_X6 hown hK.1 hP 0 gz0 vcz6 1 (by decide) (kX6_get_2 hts) (fun _ h9 => h9) gz1 dX6_get_23 ?_
      refine lv_iload_n hx hb dX6_get_26 rfl (lv_at hl 0 rfl) ?_
      refine va_iald hx hb hK.1 hP 1 0 gz1 tzz0 (vp_lt (by decide) c_2 c_3) dX6_get_27 ?_
      refine lv_topi (fun x4 ex4 => ?_)
      have hG := zbnd hG ex4
      refine lv_goto (tgt := 32) hx hb dX6_get_28 (by decide) ?_
      obtain ⟨hP9, hD9⟩ := z_sb (L' := [(a0, .inr (6, [.int wd, .ref a1, .int zs])), (a1, .inl (kA 0, 100, .inl fa))]) hP hD [0, 1] (by decide) rfl
      refine W.widen (k := 0) (n := 0) (Nat.le_of_ble_eq_true rfl) (Nat.le_of_ble_eq_true rfl) ?_
      exact W.iret (v := x4) hx hb hr (fun t ht hW => ⟨⟨x4, (x4), rfl, ⟨rfl, (hG.trans hG0.symm)⟩, by rw [ht]; exact hP9, hD9⟩, hS.F ht⟩) hS.2.2 dX6_get_32
set_option maxRecDepth 100000 in
def fX6_put_100 (wd : Int32) (fa : Nat → Int32) (row : Int32) (col : Int32) (val : Int32) : (Nat → Int32) := bnd (((row * wd) + col)) (fun (x1 : Int32) => if x1 < 0 then (fa) else (if 100 ≤ x1 then (fa) else (bnd ((upd fa x1.toNatClampNeg val)) (fun (f4 : Nat → Int32) => f4))))
set_option maxHeartbeats 4000000 in
set_option maxRecDepth 100000 in
theorem mX6_put_100 (l : Launch) (dC : Nat → ClassId) (dI : Nat → Nat → Nat) (kA : Nat → ClassId) (sz : Nat) (a0 : Nat) (a1 : Nat) (wd : Int32) (zs : Int32) (fa : Nat → Int32) (row : Int32) (col : Int32) (val : Int32)  : Met l yX6_put wsX6_put ({ frames := 0, cells := 0, slots := 0, locals := 0 }) (zPc dC dI kA sz [.ref a0, .int row, .int col, .int val] [(a0, .inr (6, [.int wd, .ref a1, .int zs])), (a1, .inl (kA 0, 100, .inl fa))]) (va_Qv (fun (u : (Nat → Int32)) => u = fX6_put_100 wd fa row col val) (zB dC dI (va_A [(a0, .inr (6, [.int wd, .ref a1, .int zs])), (a1, .inl (kA 0, 100, .inl fa))] sz) (fun (u : (Nat → Int32)) => [(a0, .inr (6, [.int wd, .ref a1, .int zs])), (a1, .inl (kA 0, 100, .inl u))])) (va_A [(a0, .inr (6, [.int wd, .ref a1, .int zs])), (a1, .inl (kA 0, 100, .inl fa))] sz)) 0 0 (va_A [(a0, .inr (6, [.int wd, .ref a1, .int zs])), (a1, .inl (kA 0, 100, .inl fa))] sz) := by
  refine Met.ofW (cc := cX6_put) (maxL := 5) (ret := none) pnX6 rfl ?_
  intro p e s m args below meth c s₁ B hml hv
  obtain ⟨rfl, hsz, hP, hK, hD0⟩ := hv
  have hx := B.exec
  have hb := B.bytes
  have hr := B.returns
  have hts := atoms_spec (ws := wsX6_put) B.pre
  have hown : s.vm.findClass RX6 = some m.cls := findClass_of_methodNamed B.named
  have hlocks := B.notSynchronized
  subst hsz
  have hD := hD0.self (sz := s.heap.size)
  generalize hAe : va_A [(a0, .inr (6, [.int wd, .ref a1, .int zs])), (a1, .inl (kA 0, 100, .inl fa))] s.heap.size = A at hD ⊢
  have hA : ∀ q : Nat, s.heap.size ≤ q → A q := zA_of hAe
  have hS : va_S A s.heap s.heap [] := va_S.rf
  have hP : va_P (dC, dI) vwCl [(a0, .inr (6, [.int wd, .ref a1, .int zs])), (a1, .inl (kA 0, 100, .inl fa))] s.heap := hP
  have hl := lv_entry ([.ref a0, .int row, .int col, .int val]) (n := 5) (Nat.le_of_ble_eq_true rfl)
  rw [lg_entry_eq]
  generalize (lg_sl ([.ref a0, .int row, .int col, .int val]) ++ List.replicate (5 - (lg_sl ([.ref a0, .int row, .int col, .int val])).length) Slot.unset).toArray = ls at hl ⊢
  have hl : lv_has ls 5 [(0, .ref a0), (1, .int row), (2, .int col), (3, .int val)] := hl
  obtain ⟨G, hG0⟩ : ∃ G : (Nat → Int32), fX6_put_100 wd fa row col val = G := ⟨_, rfl⟩
  have hG := hG0
  unfold fX6_put_100 at hG
  refine lv_iload_n hx hb dX6_put_0 rfl (lv_at hl 1 rfl) ?_
  refine lv_aload_n hx hb dX6_put_1 rfl (lv_at hl 0 rfl) ?_
  refine va_get (D := (dC, dI)) (ci := 6) (v := .int wd) (C := RX6) (T := TX6) (N := 3) hx hb hts iX6_put_X6 hown hK.1 hP 0 gz0 vcz6 0 (by decide) (kX6_put_1 hts) (fun _ h9 => h9) gz0 dX6_put_2 ?_
  refine lv_imul hx hb dX6_put_5 ?_
  refine lv_iload_n hx hb dX6_put_6 rfl (lv_at hl 2 rfl) ?_
  refine lv_iadd hx hb dX6_put_7 ?_
  refine lv_topi (fun x1 ex1 => ?_)
  have hG := zbnd hG ex1
  refine lv_istore (lv' := [(4, .int x1), (0, .ref a0), (1, .int row), (2, .int col), (3, .int val)]) hx hb dX6_put_8 hl (by decide) rfl (fun ls hl => ?_)
  refine lv_iload hx hb dX6_put_10 (lv_at hl 0 rfl) ?_
  refine lv_if_lt (tgt := 33) hx hb dX6_put_12 (by decide) (fun c_2 => ?_) (fun c_2 => ?_)
  · have hG := zthen hG c_2
    obtain ⟨hP9, hD9⟩ := z_sb (L' := [(a0, .inr (6, [.int wd, .ref a1, .int zs])), (a1, .inl (kA 0, 100, .inl fa))]) hP hD [0, 1] (by decide) rfl
    refine W.widen (k := 0) (n := 0) (Nat.le_of_ble_eq_true rfl) (Nat.le_of_ble_eq_true rfl) ?_
    exact W.vret hx hb hr (fun t ht hW => ⟨⟨(fa), rfl, (hG.trans hG0.symm), by rw [ht]; exact hP9, hD9⟩, hS.F ht⟩) hS.2.2 dX6_put_33
  · have hG := zelse hG c_2
    refine lv_iload hx hb dX6_put_15 (lv_at hl 0 rfl) ?_
    refine lv_aload_n hx hb dX6_put_17 rfl (lv_at hl 1 rfl) ?_
    refine va_get (D := (dC, dI)) (ci := 6) (v := .ref a1) (C := RX6) (T := TX6) (N := 3) hx hb hts iX6_put_X6 hown hK.1 hP 0 gz0 vcz6 1 (by decide) (kX6_put_2 hts) (fun _ h9 => h9) gz1 dX6_put_18 ?_
    refine va_alen hx hb hK.1 hP 1 0 rfl rfl (v := 100) rfl dX6_put_21 ?_
    refine lv_icmp_ge (tgt := 33) hx hb dX6_put_22 (by decide) (fun c_3 => ?_) (fun c_3 => ?_)
    · have hG := zthen hG c_3
      obtain ⟨hP9, hD9⟩ := z_sb (L' := [(a0, .inr (6, [.int wd, .ref a1, .int zs])), (a1, .inl (kA 0, 100, .inl fa))]) hP hD [0, 1] (by decide) rfl
      refine W.widen (k := 0) (n := 0) (Nat.le_of_ble_eq_true rfl) (Nat.le_of_ble_eq_true rfl) ?_
      exact W.vret hx hb hr (fun t ht hW => ⟨⟨(fa), rfl, (hG.trans hG0.symm), by rw [ht]; exact hP9, hD9⟩, hS.F ht⟩) hS.2.2 dX6_put_33
    · have hG := zelse hG c_3
      refine lv_aload_n hx hb dX6_put_25 rfl (lv_at hl 1 rfl) ?_
      refine va_get (D := (dC, dI)) (ci := 6) (v := .ref a1) (C := RX6) (T := TX6) (N := 3) hx hb hts iX6_put_X6 hown hK.1 hP 0 gz0 vcz6 1 (by decide) (kX6_put_2 hts) (fun _ h9 => h9) gz1 dX6_put_26 ?_
      refine lv_iload hx hb dX6_put_29 (lv_at hl 0 rfl) ?_
      refine lv_iload_n hx hb dX6_put_31 rfl (lv_at hl 4 rfl) ?_
      refine va_iast hx hb hK.1 hP hD hS 1 0 gz1 tzz0 (vp_lt (by decide) c_2 c_3) dX6_put_32 (fun H locs hP hD hS => ?_)
      obtain ⟨hP, hD⟩ := z_re (L := [(a0, .inr (6, [.int wd, .ref a1, .int zs])), (a1, .inl (kA 0, 100, .inl (upd fa x1.toNatClampNeg val)))]) hP hD
      obtain ⟨f4, ef4⟩ : ∃ y : Nat → Int32, y = (upd fa x1.toNatClampNeg val) := ⟨_, rfl⟩
      rw [← ef4] at hP hD
      have hG := zbnd hG ef4
      obtain ⟨hP9, hD9⟩ := z_sb (L' := [(a0, .inr (6, [.int wd, .ref a1, .int zs])), (a1, .inl (kA 0, 100, .inl f4))]) hP hD [0, 1] (by decide) rfl
      refine W.widen (k := 0) (n := 0) (Nat.le_of_ble_eq_true rfl) (Nat.le_of_ble_eq_true rfl) ?_
      exact W.vret hx hb hr (fun t ht hW => ⟨⟨(f4), rfl, (hG.trans hG0.symm), by rw [ht]; exact hP9, hD9⟩, hS.F ht⟩) hS.2.2 dX6_put_33
set_option maxRecDepth 100000 in
def fX6_grow_100 (wd : Int32) (zs : Int32) : Int32 × Int32 := if ((zs + 1) * wd) ≤ 100 then (bnd ((zs + 1)) (fun (x2 : Int32) => (x2, (x2 - 1)))) else ((zs, (-1)))
set_option maxHeartbeats 4000000 in
set_option maxRecDepth 100000 in
theorem mX6_grow_100 (l : Launch) (dC : Nat → ClassId) (dI : Nat → Nat → Nat) (kA : Nat → ClassId) (sz : Nat) (a0 : Nat) (a1 : Nat) (wd : Int32) (zs : Int32) (fa : Nat → Int32)  : Met l yX6_grow wsX6_grow ({ frames := 0, cells := 0, slots := 0, locals := 0 }) (zPc dC dI kA sz [.ref a0] [(a0, .inr (6, [.int wd, .ref a1, .int zs])), (a1, .inl (kA 0, 100, .inl fa))]) (va_Qi (fun (r : Int32) (u : Int32 × Int32) => r = u.2 ∧ (u.1, u.2) = fX6_grow_100 wd zs) (zB dC dI (va_A [(a0, .inr (6, [.int wd, .ref a1, .int zs])), (a1, .inl (kA 0, 100, .inl fa))] sz) (fun (u : Int32 × Int32) => [(a0, .inr (6, [.int wd, .ref a1, .int u.1])), (a1, .inl (kA 0, 100, .inl fa))])) (va_A [(a0, .inr (6, [.int wd, .ref a1, .int zs])), (a1, .inl (kA 0, 100, .inl fa))] sz)) 0 0 (va_A [(a0, .inr (6, [.int wd, .ref a1, .int zs])), (a1, .inl (kA 0, 100, .inl fa))] sz) := by
  refine Met.ofW (cc := cX6_grow) (maxL := 1) (ret := (some .int)) pnX6 rfl ?_
  intro p e s m args below meth c s₁ B hml hv
  obtain ⟨rfl, hsz, hP, hK, hD0⟩ := hv
  have hx := B.exec
  have hb := B.bytes
  have hr := B.returns
  have hts := atoms_spec (ws := wsX6_grow) B.pre
  have hown : s.vm.findClass RX6 = some m.cls := findClass_of_methodNamed B.named
  have hlocks := B.notSynchronized
  subst hsz
  have hD := hD0.self (sz := s.heap.size)
  generalize hAe : va_A [(a0, .inr (6, [.int wd, .ref a1, .int zs])), (a1, .inl (kA 0, 100, .inl fa))] s.heap.size = A at hD ⊢
  have hA : ∀ q : Nat, s.heap.size ≤ q → A q := zA_of hAe
  have hS : va_S A s.heap s.heap [] := va_S.rf
  have hP : va_P (dC, dI) vwCl [(a0, .inr (6, [.int wd, .ref a1, .int zs])), (a1, .inl (kA 0, 100, .inl fa))] s.heap := hP
  have hl := lv_entry ([.ref a0]) (n := 1) (Nat.le_of_ble_eq_true rfl)
  rw [lg_entry_eq]
  generalize (lg_sl ([.ref a0]) ++ List.replicate (1 - (lg_sl ([.ref a0])).length) Slot.unset).toArray = ls at hl ⊢
  have hl : lv_has ls 1 [(0, .ref a0)] := hl
  obtain ⟨G, hG0⟩ : ∃ G : Int32 × Int32, fX6_grow_100 wd zs = G := ⟨_, rfl⟩
  have hG := hG0
  unfold fX6_grow_100 at hG
  refine lv_aload_n hx hb dX6_grow_0 rfl (lv_at hl 0 rfl) ?_
  refine va_get (D := (dC, dI)) (ci := 6) (v := .int zs) (C := RX6) (T := TX6) (N := 3) hx hb hts iX6_grow_X6 hown hK.1 hP 0 gz0 vcz6 2 (by decide) (kX6_grow_1 hts) (fun _ h9 => h9) gz2 dX6_grow_1 ?_
  refine lv_iconst (v := 1) hx hb dX6_grow_4 (by decide) ?_
  refine lv_iadd hx hb dX6_grow_5 ?_
  refine lv_aload_n hx hb dX6_grow_6 rfl (lv_at hl 0 rfl) ?_
  refine va_get (D := (dC, dI)) (ci := 6) (v := .int wd) (C := RX6) (T := TX6) (N := 3) hx hb hts iX6_grow_X6 hown hK.1 hP 0 gz0 vcz6 0 (by decide) (kX6_grow_2 hts) (fun _ h9 => h9) gz0 dX6_grow_7 ?_
  refine lv_imul hx hb dX6_grow_10 ?_
  refine lv_aload_n hx hb dX6_grow_11 rfl (lv_at hl 0 rfl) ?_
  refine va_get (D := (dC, dI)) (ci := 6) (v := .ref a1) (C := RX6) (T := TX6) (N := 3) hx hb hts iX6_grow_X6 hown hK.1 hP 0 gz0 vcz6 1 (by decide) (kX6_grow_3 hts) (fun _ h9 => h9) gz1 dX6_grow_12 ?_
  refine va_alen hx hb hK.1 hP 1 0 rfl rfl (v := 100) rfl dX6_grow_15 ?_
  refine lv_icmp_le (tgt := 21) hx hb dX6_grow_16 (by decide) (fun c_1 => ?_) (fun c_1 => ?_)
  · have hG := zthen hG c_1
    refine lv_aload_n hx hb dX6_grow_21 rfl (lv_at hl 0 rfl) ?_
    refine lv_dup hx hb dX6_grow_22 rfl ?_
    refine va_get (D := (dC, dI)) (ci := 6) (v := .int zs) (C := RX6) (T := TX6) (N := 3) hx hb hts iX6_grow_X6 hown hK.1 hP 0 gz0 vcz6 2 (by decide) (kX6_grow_1 hts) (fun _ h9 => h9) gz2 dX6_grow_23 ?_
    refine lv_iconst (v := 1) hx hb dX6_grow_26 (by decide) ?_
    refine lv_iadd hx hb dX6_grow_27 ?_
    refine lv_topi (fun x2 ex2 => ?_)
    have hG := zbnd hG ex2
    refine va_put (D := (dC, dI)) (ci := 6) (v := .int x2) (ty := .int) (C := RX6) (T := TX6) (N := 3) hx hb hts iX6_grow_X6 tyX6 tyX6_ok nmX6 hown hK.1 hP hD hS 0 gz0 vcz6 2 (by decide) (kX6_grow_1 hts) (fun _ h9 => h9) rfl pfdI rfl rfl (Nat.le_of_ble_eq_true rfl) dX6_grow_28 (fun H locs hP hD hS => ?_)
    obtain ⟨hP, hD⟩ := z_re (L := [(a0, .inr (6, [.int wd, .ref a1, .int x2])), (a1, .inl (kA 0, 100, .inl fa))]) hP hD
    refine lv_aload_n hx hb dX6_grow_31 rfl (lv_at hl 0 rfl) ?_
    refine va_get (D := (dC, dI)) (ci := 6) (v := .int x2) (C := RX6) (T := TX6) (N := 3) hx hb hts iX6_grow_X6 hown hK.1 hP 0 gz0 vcz6 2 (by decide) (kX6_grow_1 hts) (fun _ h9 => h9) gz2 dX6_grow_32 ?_
    refine lv_iconst (v := 1) hx hb dX6_grow_35 (by decide) ?_
    refine lv_isub hx hb dX6_grow_36 ?_
    obtain ⟨hP9, hD9⟩ := z_sb (L' := [(a0, .inr (6, [.int wd, .ref a1, .int x2])), (a1, .inl (kA 0, 100, .inl fa))]) hP hD [0, 1] (by decide) rfl
    refine W.widen (k := 0) (n := 0) (Nat.le_of_ble_eq_true rfl) (Nat.le_of_ble_eq_true rfl) ?_
    exact W.iret (v := (x2 - 1)) hx hb hr (fun t ht hW => ⟨⟨(x2 - 1), (x2, (x2 - 1)), rfl, ⟨rfl, (hG.trans hG0.symm)⟩, by rw [ht]; exact hP9, hD9⟩, hS.F ht⟩) hS.2.2 dX6_grow_37
  · have hG := zelse hG c_1
    refine lv_iconst (v := (-1)) hx hb dX6_grow_19 (by decide) ?_
    obtain ⟨hP9, hD9⟩ := z_sb (L' := [(a0, .inr (6, [.int wd, .ref a1, .int zs])), (a1, .inl (kA 0, 100, .inl fa))]) hP hD [0, 1] (by decide) rfl
    refine W.widen (k := 0) (n := 0) (Nat.le_of_ble_eq_true rfl) (Nat.le_of_ble_eq_true rfl) ?_
    exact W.iret (v := (-1)) hx hb hr (fun t ht hW => ⟨⟨(-1), (zs, (-1)), rfl, ⟨rfl, (hG.trans hG0.symm)⟩, by rw [ht]; exact hP9, hD9⟩, hS.F ht⟩) hS.2.2 dX6_grow_20
set_option maxRecDepth 100000 in
def fX6_copyFrom_100 (fa : Nat → Int32) (zs2 : Int32) (ga : Nat → Int32) : Int32 × (Nat → Int32) := bnd ((va_cpy ga fa (0 : Int32).toNatClampNeg (0 : Int32).toNatClampNeg (100 : Int32).toNatClampNeg)) (fun (f2 : Nat → Int32) => (zs2, f2))
set_option maxHeartbeats 4000000 in
set_option maxRecDepth 100000 in
theorem mX6_copyFrom_100 (l : Launch) (dC : Nat → ClassId) (dI : Nat → Nat → Nat) (kA : Nat → ClassId) (sz : Nat) (a0 : Nat) (a1 : Nat) (wd : Int32) (zs : Int32) (fa : Nat → Int32) (b0 : Nat) (b1 : Nat) (wd2 : Int32) (zs2 : Int32) (ga : Nat → Int32)  : Met l yX6_copyFrom wsX6_copyFrom ({ frames := 1, cells := 0, slots := 0, locals := 60 }) (zPc dC dI kA sz [.ref a0, .ref b0] [(a0, .inr (6, [.int wd, .ref a1, .int zs])), (a1, .inl (kA 0, 100, .inl fa)), (b0, .inr (6, [.int wd2, .ref b1, .int zs2])), (b1, .inl (kA 0, 100, .inl ga))]) (va_Qv (fun (u : Int32 × (Nat → Int32)) => (u.1, u.2) = fX6_copyFrom_100 fa zs2 ga) (zB dC dI (va_A [(a0, .inr (6, [.int wd, .ref a1, .int zs])), (a1, .inl (kA 0, 100, .inl fa)), (b0, .inr (6, [.int wd2, .ref b1, .int zs2])), (b1, .inl (kA 0, 100, .inl ga))] sz) (fun (u : Int32 × (Nat → Int32)) => [(a0, .inr (6, [.int wd, .ref a1, .int u.1])), (a1, .inl (kA 0, 100, .inl u.2)), (b0, .inr (6, [.int wd2, .ref b1, .int zs2])), (b1, .inl (kA 0, 100, .inl ga))])) (va_A [(a0, .inr (6, [.int wd, .ref a1, .int zs])), (a1, .inl (kA 0, 100, .inl fa)), (b0, .inr (6, [.int wd2, .ref b1, .int zs2])), (b1, .inl (kA 0, 100, .inl ga))] sz)) 0 0 (va_A [(a0, .inr (6, [.int wd, .ref a1, .int zs])), (a1, .inl (kA 0, 100, .inl fa)), (b0, .inr (6, [.int wd2, .ref b1, .int zs2])), (b1, .inl (kA 0, 100, .inl ga))] sz) := by
  refine Met.ofW (cc := cX6_copyFrom) (maxL := 2) (ret := none) pnX6 rfl ?_
  intro p e s m args below meth c s₁ B hml hv
  obtain ⟨rfl, hsz, hP, hK, hD0⟩ := hv
  have hx := B.exec
  have hb := B.bytes
  have hr := B.returns
  have hts := atoms_spec (ws := wsX6_copyFrom) B.pre
  have hown : s.vm.findClass RX6 = some m.cls := findClass_of_methodNamed B.named
  have hlocks := B.notSynchronized
  subst hsz
  have hD := hD0.self (sz := s.heap.size)
  generalize hAe : va_A [(a0, .inr (6, [.int wd, .ref a1, .int zs])), (a1, .inl (kA 0, 100, .inl fa)), (b0, .inr (6, [.int wd2, .ref b1, .int zs2])), (b1, .inl (kA 0, 100, .inl ga))] s.heap.size = A at hD ⊢
  have hA : ∀ q : Nat, s.heap.size ≤ q → A q := zA_of hAe
  have hS : va_S A s.heap s.heap [] := va_S.rf
  have hP : va_P (dC, dI) vwCl [(a0, .inr (6, [.int wd, .ref a1, .int zs])), (a1, .inl (kA 0, 100, .inl fa)), (b0, .inr (6, [.int wd2, .ref b1, .int zs2])), (b1, .inl (kA 0, 100, .inl ga))] s.heap := hP
  have hl := lv_entry ([.ref a0, .ref b0]) (n := 2) (Nat.le_of_ble_eq_true rfl)
  rw [lg_entry_eq]
  generalize (lg_sl ([.ref a0, .ref b0]) ++ List.replicate (2 - (lg_sl ([.ref a0, .ref b0])).length) Slot.unset).toArray = ls at hl ⊢
  have hl : lv_has ls 2 [(0, .ref a0), (1, .ref b0)] := hl
  obtain ⟨G, hG0⟩ : ∃ G : Int32 × (Nat → Int32), fX6_copyFrom_100 fa zs2 ga = G := ⟨_, rfl⟩
  have hG := hG0
  unfold fX6_copyFrom_100 at hG
  refine lv_aload_n hx hb dX6_copyFrom_0 rfl (lv_at hl 1 rfl) ?_
  refine va_get (D := (dC, dI)) (ci := 6) (v := .ref b1) (C := RX6) (T := TX6) (N := 3) hx hb hts iX6_copyFrom_X6 hown hK.1 hP 2 gz2 vcz6 1 (by decide) (kX6_copyFrom_1 hts) (fun _ h9 => h9) gz1 dX6_copyFrom_1 ?_
  refine va_alen hx hb hK.1 hP 3 0 rfl rfl (v := 100) rfl dX6_copyFrom_4 ?_
  refine lv_aload_n hx hb dX6_copyFrom_5 rfl (lv_at hl 0 rfl) ?_
  refine va_get (D := (dC, dI)) (ci := 6) (v := .ref a1) (C := RX6) (T := TX6) (N := 3) hx hb hts iX6_copyFrom_X6 hown hK.1 hP 0 gz0 vcz6 1 (by decide) (kX6_copyFrom_1 hts) (fun _ h9 => h9) gz1 dX6_copyFrom_6 ?_
  refine va_alen hx hb hK.1 hP 1 0 rfl rfl (v := 100) rfl dX6_copyFrom_9 ?_
  refine lv_icmp_ne (tgt := 39) hx hb dX6_copyFrom_10 (by decide) (fun c_1 => absurd (by decide) c_1) (fun _ => ?_)
  refine lv_aload_n hx hb dX6_copyFrom_13 rfl (lv_at hl 1 rfl) ?_
  refine va_get (D := (dC, dI)) (ci := 6) (v := .ref b1) (C := RX6) (T := TX6) (N := 3) hx hb hts iX6_copyFrom_X6 hown hK.1 hP 2 gz2 vcz6 1 (by decide) (kX6_copyFrom_1 hts) (fun _ h9 => h9) gz1 dX6_copyFrom_14 ?_
  refine lv_iconst (v := 0) hx hb dX6_copyFrom_17 (by decide) ?_
  refine lv_aload_n hx hb dX6_copyFrom_18 rfl (lv_at hl 0 rfl) ?_
  refine va_get (D := (dC, dI)) (ci := 6) (v := .ref a1) (C := RX6) (T := TX6) (N := 3) hx hb hts iX6_copyFrom_X6 hown hK.1 hP 0 gz0 vcz6 1 (by decide) (kX6_copyFrom_1 hts) (fun _ h9 => h9) gz1 dX6_copyFrom_19 ?_
  refine lv_iconst (v := 0) hx hb dX6_copyFrom_22 (by decide) ?_
  refine lv_aload_n hx hb dX6_copyFrom_23 rfl (lv_at hl 0 rfl) ?_
  refine va_get (D := (dC, dI)) (ci := 6) (v := .ref a1) (C := RX6) (T := TX6) (N := 3) hx hb hts iX6_copyFrom_X6 hown hK.1 hP 0 gz0 vcz6 1 (by decide) (kX6_copyFrom_1 hts) (fun _ h9 => h9) gz1 dX6_copyFrom_24 ?_
  refine va_alen hx hb hK.1 hP 1 0 rfl rfl (v := 100) rfl dX6_copyFrom_27 ?_
  refine va_copyi hx hb (by rw [hml]; exact hl.1.symm) hown (kX6_copyFrom_2 hts) (kX6_copyFrom_3 hts) (kX6_copyFrom_4 hts) (kX6_copyFrom_5 hts) hK.1 hP hD hS 3 1 0 0 rfl rfl rfl rfl rfl (by decide) (by decide) (by decide) (by decide) (by decide) (fun _ _ => rfl) (Nat.le_of_ble_eq_true rfl) (Nat.le_of_ble_eq_true rfl) dX6_copyFrom_28 (fun H locs hP hD hS => ?_)
  obtain ⟨hP, hD⟩ := z_re (L := [(a0, .inr (6, [.int wd, .ref a1, .int zs])), (a1, .inl (kA 0, 100, .inl (va_cpy ga fa (0 : Int32).toNatClampNeg (0 : Int32).toNatClampNeg (100 : Int32).toNatClampNeg))), (b0, .inr (6, [.int wd2, .ref b1, .int zs2])), (b1, .inl (kA 0, 100, .inl ga))]) hP hD
  obtain ⟨f2, ef2⟩ : ∃ y : Nat → Int32, y = (va_cpy ga fa (0 : Int32).toNatClampNeg (0 : Int32).toNatClampNeg (100 : Int32).toNatClampNeg) := ⟨_, rfl⟩
  rw [← ef2] at hP hD
  have hG := zbnd hG ef2
  refine lv_aload_n hx hb dX6_copyFrom_31 rfl (lv_at hl 0 rfl) ?_
  refine lv_aload_n hx hb dX6_copyFrom_32 rfl (lv_at hl 1 rfl) ?_
  refine va_get (D := (dC, dI)) (ci := 6) (v := .int zs2) (C := RX6) (T := TX6) (N := 3) hx hb hts iX6_copyFrom_X6 hown hK.1 hP 2 gz2 vcz6 2 (by decide) (kX6_copyFrom_6 hts) (fun _ h9 => h9) gz2 dX6_copyFrom_33 ?_
  refine va_put (D := (dC, dI)) (ci := 6) (v := .int zs2) (ty := .int) (C := RX6) (T := TX6) (N := 3) hx hb hts iX6_copyFrom_X6 tyX6 tyX6_ok nmX6 hown hK.1 hP hD hS 0 gz0 vcz6 2 (by decide) (kX6_copyFrom_6 hts) (fun _ h9 => h9) rfl pfdI rfl rfl (Nat.le_of_ble_eq_true rfl) dX6_copyFrom_36 (fun H locs hP hD hS => ?_)
  obtain ⟨hP, hD⟩ := z_re (L := [(a0, .inr (6, [.int wd, .ref a1, .int zs2])), (a1, .inl (kA 0, 100, .inl f2)), (b0, .inr (6, [.int wd2, .ref b1, .int zs2])), (b1, .inl (kA 0, 100, .inl ga))]) hP hD
  obtain ⟨hP9, hD9⟩ := z_sb (L' := [(a0, .inr (6, [.int wd, .ref a1, .int zs2])), (a1, .inl (kA 0, 100, .inl f2)), (b0, .inr (6, [.int wd2, .ref b1, .int zs2])), (b1, .inl (kA 0, 100, .inl ga))]) hP hD [0, 1, 2, 3] (by decide) rfl
  refine W.widen (k := 0) (n := 0) (Nat.le_of_ble_eq_true rfl) (Nat.le_of_ble_eq_true rfl) ?_
  exact W.vret hx hb hr (fun t ht hW => ⟨⟨(zs2, f2), rfl, (hG.trans hG0.symm), by rw [ht]; exact hP9, hD9⟩, hS.F ht⟩) hS.2.2 dX6_copyFrom_39
set_option maxRecDepth 100000 in
def fX6_get_144 (wd : Int32) (fa : Nat → Int32) (row : Int32) (col : Int32) : Int32 := bnd (((row * wd) + col)) (fun (x1 : Int32) => if x1 < 0 then (0) else (if 144 ≤ x1 then (0) else (bnd (fa x1.toNatClampNeg) (fun (x4 : Int32) => x4))))
set_option maxHeartbeats 4000000 in
set_option maxRecDepth 100000 in
theorem mX6_get_144 (l : Launch) (dC : Nat → ClassId) (dI : Nat → Nat → Nat) (kA : Nat → ClassId) (sz : Nat) (a0 : Nat) (a1 : Nat) (wd : Int32) (zs : Int32) (fa : Nat → Int32) (row : Int32) (col : Int32)  : Met l yX6_get wsX6_get ({ frames := 0, cells := 0, slots := 0, locals := 0 }) (zPc dC dI kA sz [.ref a0, .int row, .int col] [(a0, .inr (6, [.int wd, .ref a1, .int zs])), (a1, .inl (kA 0, 144, .inl fa))]) (va_Qi (fun (r : Int32) (u : Int32) => r = u ∧ u = fX6_get_144 wd fa row col) (zB dC dI (va_A [(a0, .inr (6, [.int wd, .ref a1, .int zs])), (a1, .inl (kA 0, 144, .inl fa))] sz) (fun (u : Int32) => [(a0, .inr (6, [.int wd, .ref a1, .int zs])), (a1, .inl (kA 0, 144, .inl fa))])) (va_A [(a0, .inr (6, [.int wd, .ref a1, .int zs])), (a1, .inl (kA 0, 144, .inl fa))] sz)) 0 0 (va_A [(a0, .inr (6, [.int wd, .ref a1, .int zs])), (a1, .inl (kA 0, 144, .inl fa))] sz) := by
  refine Met.ofW (cc := cX6_get) (maxL := 4) (ret := (some .int)) pnX6 rfl ?_
  intro p e s m args below meth c s₁ B hml hv
  obtain ⟨rfl, hsz, hP, hK, hD0⟩ := hv
  have hx := B.exec
  have hb := B.bytes
  have hr := B.returns
  have hts := atoms_spec (ws := wsX6_get) B.pre
  have hown : s.vm.findClass RX6 = some m.cls := findClass_of_methodNamed B.named
  have hlocks := B.notSynchronized
  subst hsz
  have hD := hD0.self (sz := s.heap.size)
  generalize hAe : va_A [(a0, .inr (6, [.int wd, .ref a1, .int zs])), (a1, .inl (kA 0, 144, .inl fa))] s.heap.size = A at hD ⊢
  have hA : ∀ q : Nat, s.heap.size ≤ q → A q := zA_of hAe
  have hS : va_S A s.heap s.heap [] := va_S.rf
  have hP : va_P (dC, dI) vwCl [(a0, .inr (6, [.int wd, .ref a1, .int zs])), (a1, .inl (kA 0, 144, .inl fa))] s.heap := hP
  have hl := lv_entry ([.ref a0, .int row, .int col]) (n := 4) (Nat.le_of_ble_eq_true rfl)
  rw [lg_entry_eq]
  generalize (lg_sl ([.ref a0, .int row, .int col]) ++ List.replicate (4 - (lg_sl ([.ref a0, .int row, .int col])).length) Slot.unset).toArray = ls at hl ⊢
  have hl : lv_has ls 4 [(0, .ref a0), (1, .int row), (2, .int col)] := hl
  obtain ⟨G, hG0⟩ : ∃ G : Int32, fX6_get_144 wd fa row col = G := ⟨_, rfl⟩
  have hG := hG0
  unfold fX6_get_144 at hG
  refine lv_iload_n hx hb dX6_get_0 rfl (lv_at hl 1 rfl) ?_
  refine lv_aload_n hx hb dX6_get_1 rfl (lv_at hl 0 rfl) ?_
  refine va_get (D := (dC, dI)) (ci := 6) (v := .int wd) (C := RX6) (T := TX6) (N := 3) hx hb hts iX6_get_X6 hown hK.1 hP 0 gz0 vcz6 0 (by decide) (kX6_get_1 hts) (fun _ h9 => h9) gz0 dX6_get_2 ?_
  refine lv_imul hx hb dX6_get_5 ?_
  refine lv_iload_n hx hb dX6_get_6 rfl (lv_at hl 2 rfl) ?_
  refine lv_iadd hx hb dX6_get_7 ?_
  refine lv_topi (fun x1 ex1 => ?_)
  have hG := zbnd hG ex1
  refine lv_istore_n (lv' := [(3, .int x1), (0, .ref a0), (1, .int row), (2, .int col)]) hx hb dX6_get_8 rfl hl (by decide) rfl (fun ls hl => ?_)
  refine lv_iload_n hx hb dX6_get_9 rfl (lv_at hl 0 rfl) ?_
  refine lv_if_lt (tgt := 31) hx hb dX6_get_10 (by decide) (fun c_2 => ?_) (fun c_2 => ?_)
  · have hG := zthen hG c_2
    refine lv_iconst (v := 0) hx hb dX6_get_31 (by decide) ?_
    obtain ⟨hP9, hD9⟩ := z_sb (L' := [(a0, .inr (6, [.int wd, .ref a1, .int zs])), (a1, .inl (kA 0, 144, .inl fa))]) hP hD [0, 1] (by decide) rfl
    refine W.widen (k := 0) (n := 0) (Nat.le_of_ble_eq_true rfl) (Nat.le_of_ble_eq_true rfl) ?_
    exact W.iret (v := 0) hx hb hr (fun t ht hW => ⟨⟨0, (0), rfl, ⟨rfl, (hG.trans hG0.symm)⟩, by rw [ht]; exact hP9, hD9⟩, hS.F ht⟩) hS.2.2 dX6_get_32
  · have hG := zelse hG c_2
    refine lv_iload_n hx hb dX6_get_13 rfl (lv_at hl 0 rfl) ?_
    refine lv_aload_n hx hb dX6_get_14 rfl (lv_at hl 1 rfl) ?_
    refine va_get (D := (dC, dI)) (ci := 6) (v := .ref a1) (C := RX6) (T := TX6) (N := 3) hx hb hts iX6_get_X6 hown hK.1 hP 0 gz0 vcz6 1 (by decide) (kX6_get_2 hts) (fun _ h9 => h9) gz1 dX6_get_15 ?_
    refine va_alen hx hb hK.1 hP 1 0 rfl rfl (v := 144) rfl dX6_get_18 ?_
    refine lv_icmp_ge (tgt := 31) hx hb dX6_get_19 (by decide) (fun c_3 => ?_) (fun c_3 => ?_)
    · have hG := zthen hG c_3
      refine lv_iconst (v := 0) hx hb dX6_get_31 (by decide) ?_
      obtain ⟨hP9, hD9⟩ := z_sb (L' := [(a0, .inr (6, [.int wd, .ref a1, .int zs])), (a1, .inl (kA 0, 144, .inl fa))]) hP hD [0, 1] (by decide) rfl
      refine W.widen (k := 0) (n := 0) (Nat.le_of_ble_eq_true rfl) (Nat.le_of_ble_eq_true rfl) ?_
      exact W.iret (v := 0) hx hb hr (fun t ht hW => ⟨⟨0, (0), rfl, ⟨rfl, (hG.trans hG0.symm)⟩, by rw [ht]; exact hP9, hD9⟩, hS.F ht⟩) hS.2.2 dX6_get_32
    · have hG := zelse hG c_3
      refine lv_aload_n hx hb dX6_get_22 rfl (lv_at hl 1 rfl) ?_
      refine va_get (D := (dC, dI)) (ci := 6) (v := .ref a1) (C := RX6) (T := TX6) (N := 3) hx hb hts iX6_get_X6 hown hK.1 hP 0 gz0 vcz6 1 (by decide) (kX6_get_2 hts) (fun _ h9 => h9) gz1 dX6_get_23 ?_
      refine lv_iload_n hx hb dX6_get_26 rfl (lv_at hl 0 rfl) ?_
      refine va_iald hx hb hK.1 hP 1 0 gz1 tzz0 (vp_lt (by decide) c_2 c_3) dX6_get_27 ?_
      refine lv_topi (fun x4 ex4 => ?_)
      have hG := zbnd hG ex4
      refine lv_goto (tgt := 32) hx hb dX6_get_28 (by decide) ?_
      obtain ⟨hP9, hD9⟩ := z_sb (L' := [(a0, .inr (6, [.int wd, .ref a1, .int zs])), (a1, .inl (kA 0, 144, .inl fa))]) hP hD [0, 1] (by decide) rfl
      refine W.widen (k := 0) (n := 0) (Nat.le_of_ble_eq_true rfl) (Nat.le_of_ble_eq_true rfl) ?_
      exact W.iret (v := x4) hx hb hr (fun t ht hW => ⟨⟨x4, (x4), rfl, ⟨rfl, (hG.trans hG0.symm)⟩, by rw [ht]; exact hP9, hD9⟩, hS.F ht⟩) hS.2.2 dX6_get_32
set_option maxRecDepth 100000 in
def fX6_put_144 (wd : Int32) (fa : Nat → Int32) (row : Int32) (col : Int32) (val : Int32) : (Nat → Int32) := bnd (((row * wd) + col)) (fun (x1 : Int32) => if x1 < 0 then (fa) else (if 144 ≤ x1 then (fa) else (bnd ((upd fa x1.toNatClampNeg val)) (fun (f4 : Nat → Int32) => f4))))
set_option maxHeartbeats 4000000 in
set_option maxRecDepth 100000 in
theorem mX6_put_144 (l : Launch) (dC : Nat → ClassId) (dI : Nat → Nat → Nat) (kA : Nat → ClassId) (sz : Nat) (a0 : Nat) (a1 : Nat) (wd : Int32) (zs : Int32) (fa : Nat → Int32) (row : Int32) (col : Int32) (val : Int32)  : Met l yX6_put wsX6_put ({ frames := 0, cells := 0, slots := 0, locals := 0 }) (zPc dC dI kA sz [.ref a0, .int row, .int col, .int val] [(a0, .inr (6, [.int wd, .ref a1, .int zs])), (a1, .inl (kA 0, 144, .inl fa))]) (va_Qv (fun (u : (Nat → Int32)) => u = fX6_put_144 wd fa row col val) (zB dC dI (va_A [(a0, .inr (6, [.int wd, .ref a1, .int zs])), (a1, .inl (kA 0, 144, .inl fa))] sz) (fun (u : (Nat → Int32)) => [(a0, .inr (6, [.int wd, .ref a1, .int zs])), (a1, .inl (kA 0, 144, .inl u))])) (va_A [(a0, .inr (6, [.int wd, .ref a1, .int zs])), (a1, .inl (kA 0, 144, .inl fa))] sz)) 0 0 (va_A [(a0, .inr (6, [.int wd, .ref a1, .int zs])), (a1, .inl (kA 0, 144, .inl fa))] sz) := by
  refine Met.ofW (cc := cX6_put) (maxL := 5) (ret := none) pnX6 rfl ?_
  intro p e s m args below meth c s₁ B hml hv
  obtain ⟨rfl, hsz, hP, hK, hD0⟩ := hv
  have hx := B.exec
  have hb := B.bytes
  have hr := B.returns
  have hts := atoms_spec (ws := wsX6_put) B.pre
  have hown : s.vm.findClass RX6 = some m.cls := findClass_of_methodNamed B.named
  have hlocks := B.notSynchronized
  subst hsz
  have hD := hD0.self (sz := s.heap.size)
  generalize hAe : va_A [(a0, .inr (6, [.int wd, .ref a1, .int zs])), (a1, .inl (kA 0, 144, .inl fa))] s.heap.size = A at hD ⊢
  have hA : ∀ q : Nat, s.heap.size ≤ q → A q := zA_of hAe
  have hS : va_S A s.heap s.heap [] := va_S.rf
  have hP : va_P (dC, dI) vwCl [(a0, .inr (6, [.int wd, .ref a1, .int zs])), (a1, .inl (kA 0, 144, .inl fa))] s.heap := hP
  have hl := lv_entry ([.ref a0, .int row, .int col, .int val]) (n := 5) (Nat.le_of_ble_eq_true rfl)
  rw [lg_entry_eq]
  generalize (lg_sl ([.ref a0, .int row, .int col, .int val]) ++ List.replicate (5 - (lg_sl ([.ref a0, .int row, .int col, .int val])).length) Slot.unset).toArray = ls at hl ⊢
  have hl : lv_has ls 5 [(0, .ref a0), (1, .int row), (2, .int col), (3, .int val)] := hl
  obtain ⟨G, hG0⟩ : ∃ G : (Nat → Int32), fX6_put_144 wd fa row col val = G := ⟨_, rfl⟩
  have hG := hG0
  unfold fX6_put_144 at hG
  refine lv_iload_n hx hb dX6_put_0 rfl (lv_at hl 1 rfl) ?_
  refine lv_aload_n hx hb dX6_put_1 rfl (lv_at hl 0 rfl) ?_
  refine va_get (D := (dC, dI)) (ci := 6) (v := .int wd) (C := RX6) (T := TX6) (N := 3) hx hb hts iX6_put_X6 hown hK.1 hP 0 gz0 vcz6 0 (by decide) (kX6_put_1 hts) (fun _ h9 => h9) gz0 dX6_put_2 ?_
  refine lv_imul hx hb dX6_put_5 ?_
  refine lv_iload_n hx hb dX6_put_6 rfl (lv_at hl 2 rfl) ?_
  refine lv_iadd hx hb dX6_put_7 ?_
  refine lv_topi (fun x1 ex1 => ?_)
  have hG := zbnd hG ex1
  refine lv_istore (lv' := [(4, .int x1), (0, .ref a0), (1, .int row), (2, .int col), (3, .int val)]) hx hb dX6_put_8 hl (by decide) rfl (fun ls hl => ?_)
  refine lv_iload hx hb dX6_put_10 (lv_at hl 0 rfl) ?_
  refine lv_if_lt (tgt := 33) hx hb dX6_put_12 (by decide) (fun c_2 => ?_) (fun c_2 => ?_)
  · have hG := zthen hG c_2
    obtain ⟨hP9, hD9⟩ := z_sb (L' := [(a0, .inr (6, [.int wd, .ref a1, .int zs])), (a1, .inl (kA 0, 144, .inl fa))]) hP hD [0, 1] (by decide) rfl
    refine W.widen (k := 0) (n := 0) (Nat.le_of_ble_eq_true rfl) (Nat.le_of_ble_eq_true rfl) ?_
    exact W.vret hx hb hr (fun t ht hW => ⟨⟨(fa), rfl, (hG.trans hG0.symm), by rw [ht]; exact hP9, hD9⟩, hS.F ht⟩) hS.2.2 dX6_put_33
  · have hG := zelse hG c_2
    refine lv_iload hx hb dX6_put_15 (lv_at hl 0 rfl) ?_
    refine lv_aload_n hx hb dX6_put_17 rfl (lv_at hl 1 rfl) ?_
    refine va_get (D := (dC, dI)) (ci := 6) (v := .ref a1) (C := RX6) (T := TX6) (N := 3) hx hb hts iX6_put_X6 hown hK.1 hP 0 gz0 vcz6 1 (by decide) (kX6_put_2 hts) (fun _ h9 => h9) gz1 dX6_put_18 ?_
    refine va_alen hx hb hK.1 hP 1 0 rfl rfl (v := 144) rfl dX6_put_21 ?_
    refine lv_icmp_ge (tgt := 33) hx hb dX6_put_22 (by decide) (fun c_3 => ?_) (fun c_3 => ?_)
    · have hG := zthen hG c_3
      obtain ⟨hP9, hD9⟩ := z_sb (L' := [(a0, .inr (6, [.int wd, .ref a1, .int zs])), (a1, .inl (kA 0, 144, .inl fa))]) hP hD [0, 1] (by decide) rfl
      refine W.widen (k := 0) (n := 0) (Nat.le_of_ble_eq_true rfl) (Nat.le_of_ble_eq_true rfl) ?_
      exact W.vret hx hb hr (fun t ht hW => ⟨⟨(fa), rfl, (hG.trans hG0.symm), by rw [ht]; exact hP9, hD9⟩, hS.F ht⟩) hS.2.2 dX6_put_33
    · have hG := zelse hG c_3
      refine lv_aload_n hx hb dX6_put_25 rfl (lv_at hl 1 rfl) ?_
      refine va_get (D := (dC, dI)) (ci := 6) (v := .ref a1) (C := RX6) (T := TX6) (N := 3) hx hb hts iX6_put_X6 hown hK.1 hP 0 gz0 vcz6 1 (by decide) (kX6_put_2 hts) (fun _ h9 => h9) gz1 dX6_put_26 ?_
      refine lv_iload hx hb dX6_put_29 (lv_at hl 0 rfl) ?_
      refine lv_iload_n hx hb dX6_put_31 rfl (lv_at hl 4 rfl) ?_
      refine va_iast hx hb hK.1 hP hD hS 1 0 gz1 tzz0 (vp_lt (by decide) c_2 c_3) dX6_put_32 (fun H locs hP hD hS => ?_)
      obtain ⟨hP, hD⟩ := z_re (L := [(a0, .inr (6, [.int wd, .ref a1, .int zs])), (a1, .inl (kA 0, 144, .inl (upd fa x1.toNatClampNeg val)))]) hP hD
      obtain ⟨f4, ef4⟩ : ∃ y : Nat → Int32, y = (upd fa x1.toNatClampNeg val) := ⟨_, rfl⟩
      rw [← ef4] at hP hD
      have hG := zbnd hG ef4
      obtain ⟨hP9, hD9⟩ := z_sb (L' := [(a0, .inr (6, [.int wd, .ref a1, .int zs])), (a1, .inl (kA 0, 144, .inl f4))]) hP hD [0, 1] (by decide) rfl
      refine W.widen (k := 0) (n := 0) (Nat.le_of_ble_eq_true rfl) (Nat.le_of_ble_eq_true rfl) ?_
      exact W.vret hx hb hr (fun t ht hW => ⟨⟨(f4), rfl, (hG.trans hG0.symm), by rw [ht]; exact hP9, hD9⟩, hS.F ht⟩) hS.2.2 dX6_put_33
set_option maxRecDepth 100000 in
def fX6_grow_144 (wd : Int32) (zs : Int32) : Int32 × Int32 := if ((zs + 1) * wd) ≤ 144 then (bnd ((zs + 1)) (fun (x2 : Int32) => (x2, (x2 - 1)))) else ((zs, (-1)))
set_option maxHeartbeats 4000000 in
set_option maxRecDepth 100000 in
theorem mX6_grow_144 (l : Launch) (dC : Nat → ClassId) (dI : Nat → Nat → Nat) (kA : Nat → ClassId) (sz : Nat) (a0 : Nat) (a1 : Nat) (wd : Int32) (zs : Int32) (fa : Nat → Int32)  : Met l yX6_grow wsX6_grow ({ frames := 0, cells := 0, slots := 0, locals := 0 }) (zPc dC dI kA sz [.ref a0] [(a0, .inr (6, [.int wd, .ref a1, .int zs])), (a1, .inl (kA 0, 144, .inl fa))]) (va_Qi (fun (r : Int32) (u : Int32 × Int32) => r = u.2 ∧ (u.1, u.2) = fX6_grow_144 wd zs) (zB dC dI (va_A [(a0, .inr (6, [.int wd, .ref a1, .int zs])), (a1, .inl (kA 0, 144, .inl fa))] sz) (fun (u : Int32 × Int32) => [(a0, .inr (6, [.int wd, .ref a1, .int u.1])), (a1, .inl (kA 0, 144, .inl fa))])) (va_A [(a0, .inr (6, [.int wd, .ref a1, .int zs])), (a1, .inl (kA 0, 144, .inl fa))] sz)) 0 0 (va_A [(a0, .inr (6, [.int wd, .ref a1, .int zs])), (a1, .inl (kA 0, 144, .inl fa))] sz) := by
  refine Met.ofW (cc := cX6_grow) (maxL := 1) (ret := (some .int)) pnX6 rfl ?_
  intro p e s m args below meth c s₁ B hml hv
  obtain ⟨rfl, hsz, hP, hK, hD0⟩ := hv
  have hx := B.exec
  have hb := B.bytes
  have hr := B.returns
  have hts := atoms_spec (ws := wsX6_grow) B.pre
  have hown : s.vm.findClass RX6 = some m.cls := findClass_of_methodNamed B.named
  have hlocks := B.notSynchronized
  subst hsz
  have hD := hD0.self (sz := s.heap.size)
  generalize hAe : va_A [(a0, .inr (6, [.int wd, .ref a1, .int zs])), (a1, .inl (kA 0, 144, .inl fa))] s.heap.size = A at hD ⊢
  have hA : ∀ q : Nat, s.heap.size ≤ q → A q := zA_of hAe
  have hS : va_S A s.heap s.heap [] := va_S.rf
  have hP : va_P (dC, dI) vwCl [(a0, .inr (6, [.int wd, .ref a1, .int zs])), (a1, .inl (kA 0, 144, .inl fa))] s.heap := hP
  have hl := lv_entry ([.ref a0]) (n := 1) (Nat.le_of_ble_eq_true rfl)
  rw [lg_entry_eq]
  generalize (lg_sl ([.ref a0]) ++ List.replicate (1 - (lg_sl ([.ref a0])).length) Slot.unset).toArray = ls at hl ⊢
  have hl : lv_has ls 1 [(0, .ref a0)] := hl
  obtain ⟨G, hG0⟩ : ∃ G : Int32 × Int32, fX6_grow_144 wd zs = G := ⟨_, rfl⟩
  have hG := hG0
  unfold fX6_grow_144 at hG
  refine lv_aload_n hx hb dX6_grow_0 rfl (lv_at hl 0 rfl) ?_
  refine va_get (D := (dC, dI)) (ci := 6) (v := .int zs) (C := RX6) (T := TX6) (N := 3) hx hb hts iX6_grow_X6 hown hK.1 hP 0 gz0 vcz6 2 (by decide) (kX6_grow_1 hts) (fun _ h9 => h9) gz2 dX6_grow_1 ?_
  refine lv_iconst (v := 1) hx hb dX6_grow_4 (by decide) ?_
  refine lv_iadd hx hb dX6_grow_5 ?_
  refine lv_aload_n hx hb dX6_grow_6 rfl (lv_at hl 0 rfl) ?_
  refine va_get (D := (dC, dI)) (ci := 6) (v := .int wd) (C := RX6) (T := TX6) (N := 3) hx hb hts iX6_grow_X6 hown hK.1 hP 0 gz0 vcz6 0 (by decide) (kX6_grow_2 hts) (fun _ h9 => h9) gz0 dX6_grow_7 ?_
  refine lv_imul hx hb dX6_grow_10 ?_
  refine lv_aload_n hx hb dX6_grow_11 rfl (lv_at hl 0 rfl) ?_
  refine va_get (D := (dC, dI)) (ci := 6) (v := .ref a1) (C := RX6) (T := TX6) (N := 3) hx hb hts iX6_grow_X6 hown hK.1 hP 0 gz0 vcz6 1 (by decide) (kX6_grow_3 hts) (fun _ h9 => h9) gz1 dX6_grow_12 ?_
  refine va_alen hx hb hK.1 hP 1 0 rfl rfl (v := 144) rfl dX6_grow_15 ?_
  refine lv_icmp_le (tgt := 21) hx hb dX6_grow_16 (by decide) (fun c_1 => ?_) (fun c_1 => ?_)
  · have hG := zthen hG c_1
    refine lv_aload_n hx hb dX6_grow_21 rfl (lv_at hl 0 rfl) ?_
    refine lv_dup hx hb dX6_grow_22 rfl ?_
    refine va_get (D := (dC, dI)) (ci := 6) (v := .int zs) (C := RX6) (T := TX6) (N := 3) hx hb hts iX6_grow_X6 hown hK.1 hP 0 gz0 vcz6 2 (by decide) (kX6_grow_1 hts) (fun _ h9 => h9) gz2 dX6_grow_23 ?_
    refine lv_iconst (v := 1) hx hb dX6_grow_26 (by decide) ?_
    refine lv_iadd hx hb dX6_grow_27 ?_
    refine lv_topi (fun x2 ex2 => ?_)
    have hG := zbnd hG ex2
    refine va_put (D := (dC, dI)) (ci := 6) (v := .int x2) (ty := .int) (C := RX6) (T := TX6) (N := 3) hx hb hts iX6_grow_X6 tyX6 tyX6_ok nmX6 hown hK.1 hP hD hS 0 gz0 vcz6 2 (by decide) (kX6_grow_1 hts) (fun _ h9 => h9) rfl pfdI rfl rfl (Nat.le_of_ble_eq_true rfl) dX6_grow_28 (fun H locs hP hD hS => ?_)
    obtain ⟨hP, hD⟩ := z_re (L := [(a0, .inr (6, [.int wd, .ref a1, .int x2])), (a1, .inl (kA 0, 144, .inl fa))]) hP hD
    refine lv_aload_n hx hb dX6_grow_31 rfl (lv_at hl 0 rfl) ?_
    refine va_get (D := (dC, dI)) (ci := 6) (v := .int x2) (C := RX6) (T := TX6) (N := 3) hx hb hts iX6_grow_X6 hown hK.1 hP 0 gz0 vcz6 2 (by decide) (kX6_grow_1 hts) (fun _ h9 => h9) gz2 dX6_grow_32 ?_
    refine lv_iconst (v := 1) hx hb dX6_grow_35 (by decide) ?_
    refine lv_isub hx hb dX6_grow_36 ?_
    obtain ⟨hP9, hD9⟩ := z_sb (L' := [(a0, .inr (6, [.int wd, .ref a1, .int x2])), (a1, .inl (kA 0, 144, .inl fa))]) hP hD [0, 1] (by decide) rfl
    refine W.widen (k := 0) (n := 0) (Nat.le_of_ble_eq_true rfl) (Nat.le_of_ble_eq_true rfl) ?_
    exact W.iret (v := (x2 - 1)) hx hb hr (fun t ht hW => ⟨⟨(x2 - 1), (x2, (x2 - 1)), rfl, ⟨rfl, (hG.trans hG0.symm)⟩, by rw [ht]; exact hP9, hD9⟩, hS.F ht⟩) hS.2.2 dX6_grow_37
  · have hG := zelse hG c_1
    refine lv_iconst (v := (-1)) hx hb dX6_grow_19 (by decide) ?_
    obtain ⟨hP9, hD9⟩ := z_sb (L' := [(a0, .inr (6, [.int wd, .ref a1, .int zs])), (a1, .inl (kA 0, 144, .inl fa))]) hP hD [0, 1] (by decide) rfl
    refine W.widen (k := 0) (n := 0) (Nat.le_of_ble_eq_true rfl) (Nat.le_of_ble_eq_true rfl) ?_
    exact W.iret (v := (-1)) hx hb hr (fun t ht hW => ⟨⟨(-1), (zs, (-1)), rfl, ⟨rfl, (hG.trans hG0.symm)⟩, by rw [ht]; exact hP9, hD9⟩, hS.F ht⟩) hS.2.2 dX6_grow_20
set_option maxRecDepth 100000 in
def fX6_copyFrom_144 (fa : Nat → Int32) (zs2 : Int32) (ga : Nat → Int32) : Int32 × (Nat → Int32) := bnd ((va_cpy ga fa (0 : Int32).toNatClampNeg (0 : Int32).toNatClampNeg (144 : Int32).toNatClampNeg)) (fun (f2 : Nat → Int32) => (zs2, f2))
set_option maxHeartbeats 4000000 in
set_option maxRecDepth 100000 in
theorem mX6_copyFrom_144 (l : Launch) (dC : Nat → ClassId) (dI : Nat → Nat → Nat) (kA : Nat → ClassId) (sz : Nat) (a0 : Nat) (a1 : Nat) (wd : Int32) (zs : Int32) (fa : Nat → Int32) (b0 : Nat) (b1 : Nat) (wd2 : Int32) (zs2 : Int32) (ga : Nat → Int32)  : Met l yX6_copyFrom wsX6_copyFrom ({ frames := 1, cells := 0, slots := 0, locals := 60 }) (zPc dC dI kA sz [.ref a0, .ref b0] [(a0, .inr (6, [.int wd, .ref a1, .int zs])), (a1, .inl (kA 0, 144, .inl fa)), (b0, .inr (6, [.int wd2, .ref b1, .int zs2])), (b1, .inl (kA 0, 144, .inl ga))]) (va_Qv (fun (u : Int32 × (Nat → Int32)) => (u.1, u.2) = fX6_copyFrom_144 fa zs2 ga) (zB dC dI (va_A [(a0, .inr (6, [.int wd, .ref a1, .int zs])), (a1, .inl (kA 0, 144, .inl fa)), (b0, .inr (6, [.int wd2, .ref b1, .int zs2])), (b1, .inl (kA 0, 144, .inl ga))] sz) (fun (u : Int32 × (Nat → Int32)) => [(a0, .inr (6, [.int wd, .ref a1, .int u.1])), (a1, .inl (kA 0, 144, .inl u.2)), (b0, .inr (6, [.int wd2, .ref b1, .int zs2])), (b1, .inl (kA 0, 144, .inl ga))])) (va_A [(a0, .inr (6, [.int wd, .ref a1, .int zs])), (a1, .inl (kA 0, 144, .inl fa)), (b0, .inr (6, [.int wd2, .ref b1, .int zs2])), (b1, .inl (kA 0, 144, .inl ga))] sz)) 0 0 (va_A [(a0, .inr (6, [.int wd, .ref a1, .int zs])), (a1, .inl (kA 0, 144, .inl fa)), (b0, .inr (6, [.int wd2, .ref b1, .int zs2])), (b1, .inl (kA 0, 144, .inl ga))] sz) := by
  refine Met.ofW (cc := cX6_copyFrom) (maxL := 2) (ret := none) pnX6 rfl ?_
  intro p e s m args below meth c s₁ B hml hv
  obtain ⟨rfl, hsz, hP, hK, hD0⟩ := hv
  have hx := B.exec
  have hb := B.bytes
  have hr := B.returns
  have hts := atoms_spec (ws := wsX6_copyFrom) B.pre
  have hown : s.vm.findClass RX6 = some m.cls := findClass_of_methodNamed B.named
  have hlocks := B.notSynchronized
  subst hsz
  have hD := hD0.self (sz := s.heap.size)
  generalize hAe : va_A [(a0, .inr (6, [.int wd, .ref a1, .int zs])), (a1, .inl (kA 0, 144, .inl fa)), (b0, .inr (6, [.int wd2, .ref b1, .int zs2])), (b1, .inl (kA 0, 144, .inl ga))] s.heap.size = A at hD ⊢
  have hA : ∀ q : Nat, s.heap.size ≤ q → A q := zA_of hAe
  have hS : va_S A s.heap s.heap [] := va_S.rf
  have hP : va_P (dC, dI) vwCl [(a0, .inr (6, [.int wd, .ref a1, .int zs])), (a1, .inl (kA 0, 144, .inl fa)), (b0, .inr (6, [.int wd2, .ref b1, .int zs2])), (b1, .inl (kA 0, 144, .inl ga))] s.heap := hP
  have hl := lv_entry ([.ref a0, .ref b0]) (n := 2) (Nat.le_of_ble_eq_true rfl)
  rw [lg_entry_eq]
  generalize (lg_sl ([.ref a0, .ref b0]) ++ List.replicate (2 - (lg_sl ([.ref a0, .ref b0])).length) Slot.unset).toArray = ls at hl ⊢
  have hl : lv_has ls 2 [(0, .ref a0), (1, .ref b0)] := hl
  obtain ⟨G, hG0⟩ : ∃ G : Int32 × (Nat → Int32), fX6_copyFrom_144 fa zs2 ga = G := ⟨_, rfl⟩
  have hG := hG0
  unfold fX6_copyFrom_144 at hG
  refine lv_aload_n hx hb dX6_copyFrom_0 rfl (lv_at hl 1 rfl) ?_
  refine va_get (D := (dC, dI)) (ci := 6) (v := .ref b1) (C := RX6) (T := TX6) (N := 3) hx hb hts iX6_copyFrom_X6 hown hK.1 hP 2 gz2 vcz6 1 (by decide) (kX6_copyFrom_1 hts) (fun _ h9 => h9) gz1 dX6_copyFrom_1 ?_
  refine va_alen hx hb hK.1 hP 3 0 rfl rfl (v := 144) rfl dX6_copyFrom_4 ?_
  refine lv_aload_n hx hb dX6_copyFrom_5 rfl (lv_at hl 0 rfl) ?_
  refine va_get (D := (dC, dI)) (ci := 6) (v := .ref a1) (C := RX6) (T := TX6) (N := 3) hx hb hts iX6_copyFrom_X6 hown hK.1 hP 0 gz0 vcz6 1 (by decide) (kX6_copyFrom_1 hts) (fun _ h9 => h9) gz1 dX6_copyFrom_6 ?_
  refine va_alen hx hb hK.1 hP 1 0 rfl rfl (v := 144) rfl dX6_copyFrom_9 ?_
  refine lv_icmp_ne (tgt := 39) hx hb dX6_copyFrom_10 (by decide) (fun c_1 => absurd (by decide) c_1) (fun _ => ?_)
  refine lv_aload_n hx hb dX6_copyFrom_13 rfl (lv_at hl 1 rfl) ?_
  refine va_get (D := (dC, dI)) (ci := 6) (v := .ref b1) (C := RX6) (T := TX6) (N := 3) hx hb hts iX6_copyFrom_X6 hown hK.1 hP 2 gz2 vcz6 1 (by decide) (kX6_copyFrom_1 hts) (fun _ h9 => h9) gz1 dX6_copyFrom_14 ?_
  refine lv_iconst (v := 0) hx hb dX6_copyFrom_17 (by decide) ?_
  refine lv_aload_n hx hb dX6_copyFrom_18 rfl (lv_at hl 0 rfl) ?_
  refine va_get (D := (dC, dI)) (ci := 6) (v := .ref a1) (C := RX6) (T := TX6) (N := 3) hx hb hts iX6_copyFrom_X6 hown hK.1 hP 0 gz0 vcz6 1 (by decide) (kX6_copyFrom_1 hts) (fun _ h9 => h9) gz1 dX6_copyFrom_19 ?_
  refine lv_iconst (v := 0) hx hb dX6_copyFrom_22 (by decide) ?_
  refine lv_aload_n hx hb dX6_copyFrom_23 rfl (lv_at hl 0 rfl) ?_
  refine va_get (D := (dC, dI)) (ci := 6) (v := .ref a1) (C := RX6) (T := TX6) (N := 3) hx hb hts iX6_copyFrom_X6 hown hK.1 hP 0 gz0 vcz6 1 (by decide) (kX6_copyFrom_1 hts) (fun _ h9 => h9) gz1 dX6_copyFrom_24 ?_
  refine va_alen hx hb hK.1 hP 1 0 rfl rfl (v := 144) rfl dX6_copyFrom_27 ?_
  refine va_copyi hx hb (by rw [hml]; exact hl.1.symm) hown (kX6_copyFrom_2 hts) (kX6_copyFrom_3 hts) (kX6_copyFrom_4 hts) (kX6_copyFrom_5 hts) hK.1 hP hD hS 3 1 0 0 rfl rfl rfl rfl rfl (by decide) (by decide) (by decide) (by decide) (by decide) (fun _ _ => rfl) (Nat.le_of_ble_eq_true rfl) (Nat.le_of_ble_eq_true rfl) dX6_copyFrom_28 (fun H locs hP hD hS => ?_)
  obtain ⟨hP, hD⟩ := z_re (L := [(a0, .inr (6, [.int wd, .ref a1, .int zs])), (a1, .inl (kA 0, 144, .inl (va_cpy ga fa (0 : Int32).toNatClampNeg (0 : Int32).toNatClampNeg (144 : Int32).toNatClampNeg))), (b0, .inr (6, [.int wd2, .ref b1, .int zs2])), (b1, .inl (kA 0, 144, .inl ga))]) hP hD
  obtain ⟨f2, ef2⟩ : ∃ y : Nat → Int32, y = (va_cpy ga fa (0 : Int32).toNatClampNeg (0 : Int32).toNatClampNeg (144 : Int32).toNatClampNeg) := ⟨_, rfl⟩
  rw [← ef2] at hP hD
  have hG := zbnd hG ef2
  refine lv_aload_n hx hb dX6_copyFrom_31 rfl (lv_at hl 0 rfl) ?_
  refine lv_aload_n hx hb dX6_copyFrom_32 rfl (lv_at hl 1 rfl) ?_
  refine va_get (D := (dC, dI)) (ci := 6) (v := .int zs2) (C := RX6) (T := TX6) (N := 3) hx hb hts iX6_copyFrom_X6 hown hK.1 hP 2 gz2 vcz6 2 (by decide) (kX6_copyFrom_6 hts) (fun _ h9 => h9) gz2 dX6_copyFrom_33 ?_
  refine va_put (D := (dC, dI)) (ci := 6) (v := .int zs2) (ty := .int) (C := RX6) (T := TX6) (N := 3) hx hb hts iX6_copyFrom_X6 tyX6 tyX6_ok nmX6 hown hK.1 hP hD hS 0 gz0 vcz6 2 (by decide) (kX6_copyFrom_6 hts) (fun _ h9 => h9) rfl pfdI rfl rfl (Nat.le_of_ble_eq_true rfl) dX6_copyFrom_36 (fun H locs hP hD hS => ?_)
  obtain ⟨hP, hD⟩ := z_re (L := [(a0, .inr (6, [.int wd, .ref a1, .int zs2])), (a1, .inl (kA 0, 144, .inl f2)), (b0, .inr (6, [.int wd2, .ref b1, .int zs2])), (b1, .inl (kA 0, 144, .inl ga))]) hP hD
  obtain ⟨hP9, hD9⟩ := z_sb (L' := [(a0, .inr (6, [.int wd, .ref a1, .int zs2])), (a1, .inl (kA 0, 144, .inl f2)), (b0, .inr (6, [.int wd2, .ref b1, .int zs2])), (b1, .inl (kA 0, 144, .inl ga))]) hP hD [0, 1, 2, 3] (by decide) rfl
  refine W.widen (k := 0) (n := 0) (Nat.le_of_ble_eq_true rfl) (Nat.le_of_ble_eq_true rfl) ?_
  exact W.vret hx hb hr (fun t ht hW => ⟨⟨(zs2, f2), rfl, (hG.trans hG0.symm), by rw [ht]; exact hP9, hD9⟩, hS.F ht⟩) hS.2.2 dX6_copyFrom_39
set_option maxRecDepth 100000 in
def fX6_get_24 (wd : Int32) (fa : Nat → Int32) (row : Int32) (col : Int32) : Int32 := bnd (((row * wd) + col)) (fun (x1 : Int32) => if x1 < 0 then (0) else (if 24 ≤ x1 then (0) else (bnd (fa x1.toNatClampNeg) (fun (x4 : Int32) => x4))))
set_option maxHeartbeats 4000000 in
set_option maxRecDepth 100000 in
theorem mX6_get_24 (l : Launch) (dC : Nat → ClassId) (dI : Nat → Nat → Nat) (kA : Nat → ClassId) (sz : Nat) (a0 : Nat) (a1 : Nat) (wd : Int32) (zs : Int32) (fa : Nat → Int32) (row : Int32) (col : Int32)  : Met l yX6_get wsX6_get ({ frames := 0, cells := 0, slots := 0, locals := 0 }) (zPc dC dI kA sz [.ref a0, .int row, .int col] [(a0, .inr (6, [.int wd, .ref a1, .int zs])), (a1, .inl (kA 0, 24, .inl fa))]) (va_Qi (fun (r : Int32) (u : Int32) => r = u ∧ u = fX6_get_24 wd fa row col) (zB dC dI (va_A [(a0, .inr (6, [.int wd, .ref a1, .int zs])), (a1, .inl (kA 0, 24, .inl fa))] sz) (fun (u : Int32) => [(a0, .inr (6, [.int wd, .ref a1, .int zs])), (a1, .inl (kA 0, 24, .inl fa))])) (va_A [(a0, .inr (6, [.int wd, .ref a1, .int zs])), (a1, .inl (kA 0, 24, .inl fa))] sz)) 0 0 (va_A [(a0, .inr (6, [.int wd, .ref a1, .int zs])), (a1, .inl (kA 0, 24, .inl fa))] sz) := by
  refine Met.ofW (cc := cX6_get) (maxL := 4) (ret := (some .int)) pnX6 rfl ?_
  intro p e s m args below meth c s₁ B hml hv
  obtain ⟨rfl, hsz, hP, hK, hD0⟩ := hv
  have hx := B.exec
  have hb := B.bytes
  have hr := B.returns
  have hts := atoms_spec (ws := wsX6_get) B.pre
  have hown : s.vm.findClass RX6 = some m.cls := findClass_of_methodNamed B.named
  have hlocks := B.notSynchronized
  subst hsz
  have hD := hD0.self (sz := s.heap.size)
  generalize hAe : va_A [(a0, .inr (6, [.int wd, .ref a1, .int zs])), (a1, .inl (kA 0, 24, .inl fa))] s.heap.size = A at hD ⊢
  have hA : ∀ q : Nat, s.heap.size ≤ q → A q := zA_of hAe
  have hS : va_S A s.heap s.heap [] := va_S.rf
  have hP : va_P (dC, dI) vwCl [(a0, .inr (6, [.int wd, .ref a1, .int zs])), (a1, .inl (kA 0, 24, .inl fa))] s.heap := hP
  have hl := lv_entry ([.ref a0, .int row, .int col]) (n := 4) (Nat.le_of_ble_eq_true rfl)
  rw [lg_entry_eq]
  generalize (lg_sl ([.ref a0, .int row, .int col]) ++ List.replicate (4 - (lg_sl ([.ref a0, .int row, .int col])).length) Slot.unset).toArray = ls at hl ⊢
  have hl : lv_has ls 4 [(0, .ref a0), (1, .int row), (2, .int col)] := hl
  obtain ⟨G, hG0⟩ : ∃ G : Int32, fX6_get_24 wd fa row col = G := ⟨_, rfl⟩
  have hG := hG0
  unfold fX6_get_24 at hG
  refine lv_iload_n hx hb dX6_get_0 rfl (lv_at hl 1 rfl) ?_
  refine lv_aload_n hx hb dX6_get_1 rfl (lv_at hl 0 rfl) ?_
  refine va_get (D := (dC, dI)) (ci := 6) (v := .int wd) (C := RX6) (T := TX6) (N := 3) hx hb hts iX6_get_X6 hown hK.1 hP 0 gz0 vcz6 0 (by decide) (kX6_get_1 hts) (fun _ h9 => h9) gz0 dX6_get_2 ?_
  refine lv_imul hx hb dX6_get_5 ?_
  refine lv_iload_n hx hb dX6_get_6 rfl (lv_at hl 2 rfl) ?_
  refine lv_iadd hx hb dX6_get_7 ?_
  refine lv_topi (fun x1 ex1 => ?_)
  have hG := zbnd hG ex1
  refine lv_istore_n (lv' := [(3, .int x1), (0, .ref a0), (1, .int row), (2, .int col)]) hx hb dX6_get_8 rfl hl (by decide) rfl (fun ls hl => ?_)
  refine lv_iload_n hx hb dX6_get_9 rfl (lv_at hl 0 rfl) ?_
  refine lv_if_lt (tgt := 31) hx hb dX6_get_10 (by decide) (fun c_2 => ?_) (fun c_2 => ?_)
  · have hG := zthen hG c_2
    refine lv_iconst (v := 0) hx hb dX6_get_31 (by decide) ?_
    obtain ⟨hP9, hD9⟩ := z_sb (L' := [(a0, .inr (6, [.int wd, .ref a1, .int zs])), (a1, .inl (kA 0, 24, .inl fa))]) hP hD [0, 1] (by decide) rfl
    refine W.widen (k := 0) (n := 0) (Nat.le_of_ble_eq_true rfl) (Nat.le_of_ble_eq_true rfl) ?_
    exact W.iret (v := 0) hx hb hr (fun t ht hW => ⟨⟨0, (0), rfl, ⟨rfl, (hG.trans hG0.symm)⟩, by rw [ht]; exact hP9, hD9⟩, hS.F ht⟩) hS.2.2 dX6_get_32
  · have hG := zelse hG c_2
    refine lv_iload_n hx hb dX6_get_13 rfl (lv_at hl 0 rfl) ?_
    refine lv_aload_n hx hb dX6_get_14 rfl (lv_at hl 1 rfl) ?_
    refine va_get (D := (dC, dI)) (ci := 6) (v := .ref a1) (C := RX6) (T := TX6) (N := 3) hx hb hts iX6_get_X6 hown hK.1 hP 0 gz0 vcz6 1 (by decide) (kX6_get_2 hts) (fun _ h9 => h9) gz1 dX6_get_15 ?_
    refine va_alen hx hb hK.1 hP 1 0 rfl rfl (v := 24) rfl dX6_get_18 ?_
    refine lv_icmp_ge (tgt := 31) hx hb dX6_get_19 (by decide) (fun c_3 => ?_) (fun c_3 => ?_)
    · have hG := zthen hG c_3
      refine lv_iconst (v := 0) hx hb dX6_get_31 (by decide) ?_
      obtain ⟨hP9, hD9⟩ := z_sb (L' := [(a0, .inr (6, [.int wd, .ref a1, .int zs])), (a1, .inl (kA 0, 24, .inl fa))]) hP hD [0, 1] (by decide) rfl
      refine W.widen (k := 0) (n := 0) (Nat.le_of_ble_eq_true rfl) (Nat.le_of_ble_eq_true rfl) ?_
      exact W.iret (v := 0) hx hb hr (fun t ht hW => ⟨⟨0, (0), rfl, ⟨rfl, (hG.trans hG0.symm)⟩, by rw [ht]; exact hP9, hD9⟩, hS.F ht⟩) hS.2.2 dX6_get_32
    · have hG := zelse hG c_3
      refine lv_aload_n hx hb dX6_get_22 rfl (lv_at hl 1 rfl) ?_
      refine va_get (D := (dC, dI)) (ci := 6) (v := .ref a1) (C := RX6) (T := TX6) (N := 3) hx hb hts iX6_get_X6 hown hK.1 hP 0 gz0 vcz6 1 (by decide) (kX6_get_2 hts) (fun _ h9 => h9) gz1 dX6_get_23 ?_
      refine lv_iload_n hx hb dX6_get_26 rfl (lv_at hl 0 rfl) ?_
      refine va_iald hx hb hK.1 hP 1 0 gz1 tzz0 (vp_lt (by decide) c_2 c_3) dX6_get_27 ?_
      refine lv_topi (fun x4 ex4 => ?_)
      have hG := zbnd hG ex4
      refine lv_goto (tgt := 32) hx hb dX6_get_28 (by decide) ?_
      obtain ⟨hP9, hD9⟩ := z_sb (L' := [(a0, .inr (6, [.int wd, .ref a1, .int zs])), (a1, .inl (kA 0, 24, .inl fa))]) hP hD [0, 1] (by decide) rfl
      refine W.widen (k := 0) (n := 0) (Nat.le_of_ble_eq_true rfl) (Nat.le_of_ble_eq_true rfl) ?_
      exact W.iret (v := x4) hx hb hr (fun t ht hW => ⟨⟨x4, (x4), rfl, ⟨rfl, (hG.trans hG0.symm)⟩, by rw [ht]; exact hP9, hD9⟩, hS.F ht⟩) hS.2.2 dX6_get_32
set_option maxRecDepth 100000 in
def fX6_put_24 (wd : Int32) (fa : Nat → Int32) (row : Int32) (col : Int32) (val : Int32) : (Nat → Int32) := bnd (((row * wd) + col)) (fun (x1 : Int32) => if x1 < 0 then (fa) else (if 24 ≤ x1 then (fa) else (bnd ((upd fa x1.toNatClampNeg val)) (fun (f4 : Nat → Int32) => f4))))
set_option maxHeartbeats 4000000 in
set_option maxRecDepth 100000 in
theorem mX6_put_24 (l : Launch) (dC : Nat → ClassId) (dI : Nat → Nat → Nat) (kA : Nat → ClassId) (sz : Nat) (a0 : Nat) (a1 : Nat) (wd : Int32) (zs : Int32) (fa : Nat → Int32) (row : Int32) (col : Int32) (val : Int32)  : Met l yX6_put wsX6_put ({ frames := 0, cells := 0, slots := 0, locals := 0 }) (zPc dC dI kA sz [.ref a0, .int row, .int col, .int val] [(a0, .inr (6, [.int wd, .ref a1, .int zs])), (a1, .inl (kA 0, 24, .inl fa))]) (va_Qv (fun (u : (Nat → Int32)) => u = fX6_put_24 wd fa row col val) (zB dC dI (va_A [(a0, .inr (6, [.int wd, .ref a1, .int zs])), (a1, .inl (kA 0, 24, .inl fa))] sz) (fun (u : (Nat → Int32)) => [(a0, .inr (6, [.int wd, .ref a1, .int zs])), (a1, .inl (kA 0, 24, .inl u))])) (va_A [(a0, .inr (6, [.int wd, .ref a1, .int zs])), (a1, .inl (kA 0, 24, .inl fa))] sz)) 0 0 (va_A [(a0, .inr (6, [.int wd, .ref a1, .int zs])), (a1, .inl (kA 0, 24, .inl fa))] sz) := by
  refine Met.ofW (cc := cX6_put) (maxL := 5) (ret := none) pnX6 rfl ?_
  intro p e s m args below meth c s₁ B hml hv
  obtain ⟨rfl, hsz, hP, hK, hD0⟩ := hv
  have hx := B.exec
  have hb := B.bytes
  have hr := B.returns
  have hts := atoms_spec (ws := wsX6_put) B.pre
  have hown : s.vm.findClass RX6 = some m.cls := findClass_of_methodNamed B.named
  have hlocks := B.notSynchronized
  subst hsz
  have hD := hD0.self (sz := s.heap.size)
  generalize hAe : va_A [(a0, .inr (6, [.int wd, .ref a1, .int zs])), (a1, .inl (kA 0, 24, .inl fa))] s.heap.size = A at hD ⊢
  have hA : ∀ q : Nat, s.heap.size ≤ q → A q := zA_of hAe
  have hS : va_S A s.heap s.heap [] := va_S.rf
  have hP : va_P (dC, dI) vwCl [(a0, .inr (6, [.int wd, .ref a1, .int zs])), (a1, .inl (kA 0, 24, .inl fa))] s.heap := hP
  have hl := lv_entry ([.ref a0, .int row, .int col, .int val]) (n := 5) (Nat.le_of_ble_eq_true rfl)
  rw [lg_entry_eq]
  generalize (lg_sl ([.ref a0, .int row, .int col, .int val]) ++ List.replicate (5 - (lg_sl ([.ref a0, .int row, .int col, .int val])).length) Slot.unset).toArray = ls at hl ⊢
  have hl : lv_has ls 5 [(0, .ref a0), (1, .int row), (2, .int col), (3, .int val)] := hl
  obtain ⟨G, hG0⟩ : ∃ G : (Nat → Int32), fX6_put_24 wd fa row col val = G := ⟨_, rfl⟩
  have hG := hG0
  unfold fX6_put_24 at hG
  refine lv_iload_n hx hb dX6_put_0 rfl (lv_at hl 1 rfl) ?_
  refine lv_aload_n hx hb dX6_put_1 rfl (lv_at hl 0 rfl) ?_
  refine va_get (D := (dC, dI)) (ci := 6) (v := .int wd) (C := RX6) (T := TX6) (N := 3) hx hb hts iX6_put_X6 hown hK.1 hP 0 gz0 vcz6 0 (by decide) (kX6_put_1 hts) (fun _ h9 => h9) gz0 dX6_put_2 ?_
  refine lv_imul hx hb dX6_put_5 ?_
  refine lv_iload_n hx hb dX6_put_6 rfl (lv_at hl 2 rfl) ?_
  refine lv_iadd hx hb dX6_put_7 ?_
  refine lv_topi (fun x1 ex1 => ?_)
  have hG := zbnd hG ex1
  refine lv_istore (lv' := [(4, .int x1), (0, .ref a0), (1, .int row), (2, .int col), (3, .int val)]) hx hb dX6_put_8 hl (by decide) rfl (fun ls hl => ?_)
  refine lv_iload hx hb dX6_put_10 (lv_at hl 0 rfl) ?_
  refine lv_if_lt (tgt := 33) hx hb dX6_put_12 (by decide) (fun c_2 => ?_) (fun c_2 => ?_)
  · have hG := zthen hG c_2
    obtain ⟨hP9, hD9⟩ := z_sb (L' := [(a0, .inr (6, [.int wd, .ref a1, .int zs])), (a1, .inl (kA 0, 24, .inl fa))]) hP hD [0, 1] (by decide) rfl
    refine W.widen (k := 0) (n := 0) (Nat.le_of_ble_eq_true rfl) (Nat.le_of_ble_eq_true rfl) ?_
    exact W.vret hx hb hr (fun t ht hW => ⟨⟨(fa), rfl, (hG.trans hG0.symm), by rw [ht]; exact hP9, hD9⟩, hS.F ht⟩) hS.2.2 dX6_put_33
  · have hG := zelse hG c_2
    refine lv_iload hx hb dX6_put_15 (lv_at hl 0 rfl) ?_
    refine lv_aload_n hx hb dX6_put_17 rfl (lv_at hl 1 rfl) ?_
    refine va_get (D := (dC, dI)) (ci := 6) (v := .ref a1) (C := RX6) (T := TX6) (N := 3) hx hb hts iX6_put_X6 hown hK.1 hP 0 gz0 vcz6 1 (by decide) (kX6_put_2 hts) (fun _ h9 => h9) gz1 dX6_put_18 ?_
    refine va_alen hx hb hK.1 hP 1 0 rfl rfl (v := 24) rfl dX6_put_21 ?_
    refine lv_icmp_ge (tgt := 33) hx hb dX6_put_22 (by decide) (fun c_3 => ?_) (fun c_3 => ?_)
    · have hG := zthen hG c_3
      obtain ⟨hP9, hD9⟩ := z_sb (L' := [(a0, .inr (6, [.int wd, .ref a1, .int zs])), (a1, .inl (kA 0, 24, .inl fa))]) hP hD [0, 1] (by decide) rfl
      refine W.widen (k := 0) (n := 0) (Nat.le_of_ble_eq_true rfl) (Nat.le_of_ble_eq_true rfl) ?_
      exact W.vret hx hb hr (fun t ht hW => ⟨⟨(fa), rfl, (hG.trans hG0.symm), by rw [ht]; exact hP9, hD9⟩, hS.F ht⟩) hS.2.2 dX6_put_33
    · have hG := zelse hG c_3
      refine lv_aload_n hx hb dX6_put_25 rfl (lv_at hl 1 rfl) ?_
      refine va_get (D := (dC, dI)) (ci := 6) (v := .ref a1) (C := RX6) (T := TX6) (N := 3) hx hb hts iX6_put_X6 hown hK.1 hP 0 gz0 vcz6 1 (by decide) (kX6_put_2 hts) (fun _ h9 => h9) gz1 dX6_put_26 ?_
      refine lv_iload hx hb dX6_put_29 (lv_at hl 0 rfl) ?_
      refine lv_iload_n hx hb dX6_put_31 rfl (lv_at hl 4 rfl) ?_
      refine va_iast hx hb hK.1 hP hD hS 1 0 gz1 tzz0 (vp_lt (by decide) c_2 c_3) dX6_put_32 (fun H locs hP hD hS => ?_)
      obtain ⟨hP, hD⟩ := z_re (L := [(a0, .inr (6, [.int wd, .ref a1, .int zs])), (a1, .inl (kA 0, 24, .inl (upd fa x1.toNatClampNeg val)))]) hP hD
      obtain ⟨f4, ef4⟩ : ∃ y : Nat → Int32, y = (upd fa x1.toNatClampNeg val) := ⟨_, rfl⟩
      rw [← ef4] at hP hD
      have hG := zbnd hG ef4
      obtain ⟨hP9, hD9⟩ := z_sb (L' := [(a0, .inr (6, [.int wd, .ref a1, .int zs])), (a1, .inl (kA 0, 24, .inl f4))]) hP hD [0, 1] (by decide) rfl
      refine W.widen (k := 0) (n := 0) (Nat.le_of_ble_eq_true rfl) (Nat.le_of_ble_eq_true rfl) ?_
      exact W.vret hx hb hr (fun t ht hW => ⟨⟨(f4), rfl, (hG.trans hG0.symm), by rw [ht]; exact hP9, hD9⟩, hS.F ht⟩) hS.2.2 dX6_put_33
set_option maxRecDepth 100000 in
def fX6_grow_24 (wd : Int32) (zs : Int32) : Int32 × Int32 := if ((zs + 1) * wd) ≤ 24 then (bnd ((zs + 1)) (fun (x2 : Int32) => (x2, (x2 - 1)))) else ((zs, (-1)))
set_option maxHeartbeats 4000000 in
set_option maxRecDepth 100000 in
theorem mX6_grow_24 (l : Launch) (dC : Nat → ClassId) (dI : Nat → Nat → Nat) (kA : Nat → ClassId) (sz : Nat) (a0 : Nat) (a1 : Nat) (wd : Int32) (zs : Int32) (fa : Nat → Int32)  : Met l yX6_grow wsX6_grow ({ frames := 0, cells := 0, slots := 0, locals := 0 }) (zPc dC dI kA sz [.ref a0] [(a0, .inr (6, [.int wd, .ref a1, .int zs])), (a1, .inl (kA 0, 24, .inl fa))]) (va_Qi (fun (r : Int32) (u : Int32 × Int32) => r = u.2 ∧ (u.1, u.2) = fX6_grow_24 wd zs) (zB dC dI (va_A [(a0, .inr (6, [.int wd, .ref a1, .int zs])), (a1, .inl (kA 0, 24, .inl fa))] sz) (fun (u : Int32 × Int32) => [(a0, .inr (6, [.int wd, .ref a1, .int u.1])), (a1, .inl (kA 0, 24, .inl fa))])) (va_A [(a0, .inr (6, [.int wd, .ref a1, .int zs])), (a1, .inl (kA 0, 24, .inl fa))] sz)) 0 0 (va_A [(a0, .inr (6, [.int wd, .ref a1, .int zs])), (a1, .inl (kA 0, 24, .inl fa))] sz) := by
  refine Met.ofW (cc := cX6_grow) (maxL := 1) (ret := (some .int)) pnX6 rfl ?_
  intro p e s m args below meth c s₁ B hml hv
  obtain ⟨rfl, hsz, hP, hK, hD0⟩ := hv
  have hx := B.exec
  have hb := B.bytes
  have hr := B.returns
  have hts := atoms_spec (ws := wsX6_grow) B.pre
  have hown : s.vm.findClass RX6 = some m.cls := findClass_of_methodNamed B.named
  have hlocks := B.notSynchronized
  subst hsz
  have hD := hD0.self (sz := s.heap.size)
  generalize hAe : va_A [(a0, .inr (6, [.int wd, .ref a1, .int zs])), (a1, .inl (kA 0, 24, .inl fa))] s.heap.size = A at hD ⊢
  have hA : ∀ q : Nat, s.heap.size ≤ q → A q := zA_of hAe
  have hS : va_S A s.heap s.heap [] := va_S.rf
  have hP : va_P (dC, dI) vwCl [(a0, .inr (6, [.int wd, .ref a1, .int zs])), (a1, .inl (kA 0, 24, .inl fa))] s.heap := hP
  have hl := lv_entry ([.ref a0]) (n := 1) (Nat.le_of_ble_eq_true rfl)
  rw [lg_entry_eq]
  generalize (lg_sl ([.ref a0]) ++ List.replicate (1 - (lg_sl ([.ref a0])).length) Slot.unset).toArray = ls at hl ⊢
  have hl : lv_has ls 1 [(0, .ref a0)] := hl
  obtain ⟨G, hG0⟩ : ∃ G : Int32 × Int32, fX6_grow_24 wd zs = G := ⟨_, rfl⟩
  have hG := hG0
  unfold fX6_grow_24 at hG
  refine lv_aload_n hx hb dX6_grow_0 rfl (lv_at hl 0 rfl) ?_
  refine va_get (D := (dC, dI)) (ci := 6) (v := .int zs) (C := RX6) (T := TX6) (N := 3) hx hb hts iX6_grow_X6 hown hK.1 hP 0 gz0 vcz6 2 (by decide) (kX6_grow_1 hts) (fun _ h9 => h9) gz2 dX6_grow_1 ?_
  refine lv_iconst (v := 1) hx hb dX6_grow_4 (by decide) ?_
  refine lv_iadd hx hb dX6_grow_5 ?_
  refine lv_aload_n hx hb dX6_grow_6 rfl (lv_at hl 0 rfl) ?_
  refine va_get (D := (dC, dI)) (ci := 6) (v := .int wd) (C := RX6) (T := TX6) (N := 3) hx hb hts iX6_grow_X6 hown hK.1 hP 0 gz0 vcz6 0 (by decide) (kX6_grow_2 hts) (fun _ h9 => h9) gz0 dX6_grow_7 ?_
  refine lv_imul hx hb dX6_grow_10 ?_
  refine lv_aload_n hx hb dX6_grow_11 rfl (lv_at hl 0 rfl) ?_
  refine va_get (D := (dC, dI)) (ci := 6) (v := .ref a1) (C := RX6) (T := TX6) (N := 3) hx hb hts iX6_grow_X6 hown hK.1 hP 0 gz0 vcz6 1 (by decide) (kX6_grow_3 hts) (fun _ h9 => h9) gz1 dX6_grow_12 ?_
  refine va_alen hx hb hK.1 hP 1 0 rfl rfl (v := 24) rfl dX6_grow_15 ?_
  refine lv_icmp_le (tgt := 21) hx hb dX6_grow_16 (by decide) (fun c_1 => ?_) (fun c_1 => ?_)
  · have hG := zthen hG c_1
    refine lv_aload_n hx hb dX6_grow_21 rfl (lv_at hl 0 rfl) ?_
    refine lv_dup hx hb dX6_grow_22 rfl ?_
    refine va_get (D := (dC, dI)) (ci := 6) (v := .int zs) (C := RX6) (T := TX6) (N := 3) hx hb hts iX6_grow_X6 hown hK.1 hP 0 gz0 vcz6 2 (by decide) (kX6_grow_1 hts) (fun _ h9 => h9) gz2 dX6_grow_23 ?_
    refine lv_iconst (v := 1) hx hb dX6_grow_26 (by decide) ?_
    refine lv_iadd hx hb dX6_grow_27 ?_
    refine lv_topi (fun x2 ex2 => ?_)
    have hG := zbnd hG ex2
    refine va_put (D := (dC, dI)) (ci := 6) (v := .int x2) (ty := .int) (C := RX6) (T := TX6) (N := 3) hx hb hts iX6_grow_X6 tyX6 tyX6_ok nmX6 hown hK.1 hP hD hS 0 gz0 vcz6 2 (by decide) (kX6_grow_1 hts) (fun _ h9 => h9) rfl pfdI rfl rfl (Nat.le_of_ble_eq_true rfl) dX6_grow_28 (fun H locs hP hD hS => ?_)
    obtain ⟨hP, hD⟩ := z_re (L := [(a0, .inr (6, [.int wd, .ref a1, .int x2])), (a1, .inl (kA 0, 24, .inl fa))]) hP hD
    refine lv_aload_n hx hb dX6_grow_31 rfl (lv_at hl 0 rfl) ?_
    refine va_get (D := (dC, dI)) (ci := 6) (v := .int x2) (C := RX6) (T := TX6) (N := 3) hx hb hts iX6_grow_X6 hown hK.1 hP 0 gz0 vcz6 2 (by decide) (kX6_grow_1 hts) (fun _ h9 => h9) gz2 dX6_grow_32 ?_
    refine lv_iconst (v := 1) hx hb dX6_grow_35 (by decide) ?_
    refine lv_isub hx hb dX6_grow_36 ?_
    obtain ⟨hP9, hD9⟩ := z_sb (L' := [(a0, .inr (6, [.int wd, .ref a1, .int x2])), (a1, .inl (kA 0, 24, .inl fa))]) hP hD [0, 1] (by decide) rfl
    refine W.widen (k := 0) (n := 0) (Nat.le_of_ble_eq_true rfl) (Nat.le_of_ble_eq_true rfl) ?_
    exact W.iret (v := (x2 - 1)) hx hb hr (fun t ht hW => ⟨⟨(x2 - 1), (x2, (x2 - 1)), rfl, ⟨rfl, (hG.trans hG0.symm)⟩, by rw [ht]; exact hP9, hD9⟩, hS.F ht⟩) hS.2.2 dX6_grow_37
  · have hG := zelse hG c_1
    refine lv_iconst (v := (-1)) hx hb dX6_grow_19 (by decide) ?_
    obtain ⟨hP9, hD9⟩ := z_sb (L' := [(a0, .inr (6, [.int wd, .ref a1, .int zs])), (a1, .inl (kA 0, 24, .inl fa))]) hP hD [0, 1] (by decide) rfl
    refine W.widen (k := 0) (n := 0) (Nat.le_of_ble_eq_true rfl) (Nat.le_of_ble_eq_true rfl) ?_
    exact W.iret (v := (-1)) hx hb hr (fun t ht hW => ⟨⟨(-1), (zs, (-1)), rfl, ⟨rfl, (hG.trans hG0.symm)⟩, by rw [ht]; exact hP9, hD9⟩, hS.F ht⟩) hS.2.2 dX6_grow_20
set_option maxRecDepth 100000 in
def fX6_copyFrom_24 (fa : Nat → Int32) (zs2 : Int32) (ga : Nat → Int32) : Int32 × (Nat → Int32) := bnd ((va_cpy ga fa (0 : Int32).toNatClampNeg (0 : Int32).toNatClampNeg (24 : Int32).toNatClampNeg)) (fun (f2 : Nat → Int32) => (zs2, f2))
set_option maxHeartbeats 4000000 in
set_option maxRecDepth 100000 in
theorem mX6_copyFrom_24 (l : Launch) (dC : Nat → ClassId) (dI : Nat → Nat → Nat) (kA : Nat → ClassId) (sz : Nat) (a0 : Nat) (a1 : Nat) (wd : Int32) (zs : Int32) (fa : Nat → Int32) (b0 : Nat) (b1 : Nat) (wd2 : Int32) (zs2 : Int32) (ga : Nat → Int32)  : Met l yX6_copyFrom wsX6_copyFrom ({ frames := 1, cells := 0, slots := 0, locals := 60 }) (zPc dC dI kA sz [.ref a0, .ref b0] [(a0, .inr (6, [.int wd, .ref a1, .int zs])), (a1, .inl (kA 0, 24, .inl fa)), (b0, .inr (6, [.int wd2, .ref b1, .int zs2])), (b1, .inl (kA 0, 24, .inl ga))]) (va_Qv (fun (u : Int32 × (Nat → Int32)) => (u.1, u.2) = fX6_copyFrom_24 fa zs2 ga) (zB dC dI (va_A [(a0, .inr (6, [.int wd, .ref a1, .int zs])), (a1, .inl (kA 0, 24, .inl fa)), (b0, .inr (6, [.int wd2, .ref b1, .int zs2])), (b1, .inl (kA 0, 24, .inl ga))] sz) (fun (u : Int32 × (Nat → Int32)) => [(a0, .inr (6, [.int wd, .ref a1, .int u.1])), (a1, .inl (kA 0, 24, .inl u.2)), (b0, .inr (6, [.int wd2, .ref b1, .int zs2])), (b1, .inl (kA 0, 24, .inl ga))])) (va_A [(a0, .inr (6, [.int wd, .ref a1, .int zs])), (a1, .inl (kA 0, 24, .inl fa)), (b0, .inr (6, [.int wd2, .ref b1, .int zs2])), (b1, .inl (kA 0, 24, .inl ga))] sz)) 0 0 (va_A [(a0, .inr (6, [.int wd, .ref a1, .int zs])), (a1, .inl (kA 0, 24, .inl fa)), (b0, .inr (6, [.int wd2, .ref b1, .int zs2])), (b1, .inl (kA 0, 24, .inl ga))] sz) := by
  refine Met.ofW (cc := cX6_copyFrom) (maxL := 2) (ret := none) pnX6 rfl ?_
  intro p e s m args below meth c s₁ B hml hv
  obtain ⟨rfl, hsz, hP, hK, hD0⟩ := hv
  have hx := B.exec
  have hb := B.bytes
  have hr := B.returns
  have hts := atoms_spec (ws := wsX6_copyFrom) B.pre
  have hown : s.vm.findClass RX6 = some m.cls := findClass_of_methodNamed B.named
  have hlocks := B.notSynchronized
  subst hsz
  have hD := hD0.self (sz := s.heap.size)
  generalize hAe : va_A [(a0, .inr (6, [.int wd, .ref a1, .int zs])), (a1, .inl (kA 0, 24, .inl fa)), (b0, .inr (6, [.int wd2, .ref b1, .int zs2])), (b1, .inl (kA 0, 24, .inl ga))] s.heap.size = A at hD ⊢
  have hA : ∀ q : Nat, s.heap.size ≤ q → A q := zA_of hAe
  have hS : va_S A s.heap s.heap [] := va_S.rf
  have hP : va_P (dC, dI) vwCl [(a0, .inr (6, [.int wd, .ref a1, .int zs])), (a1, .inl (kA 0, 24, .inl fa)), (b0, .inr (6, [.int wd2, .ref b1, .int zs2])), (b1, .inl (kA 0, 24, .inl ga))] s.heap := hP
  have hl := lv_entry ([.ref a0, .ref b0]) (n := 2) (Nat.le_of_ble_eq_true rfl)
  rw [lg_entry_eq]
  generalize (lg_sl ([.ref a0, .ref b0]) ++ List.replicate (2 - (lg_sl ([.ref a0, .ref b0])).length) Slot.unset).toArray = ls at hl ⊢
  have hl : lv_has ls 2 [(0, .ref a0), (1, .ref b0)] := hl
  obtain ⟨G, hG0⟩ : ∃ G : Int32 × (Nat → Int32), fX6_copyFrom_24 fa zs2 ga = G := ⟨_, rfl⟩
  have hG := hG0
  unfold fX6_copyFrom_24 at hG
  refine lv_aload_n hx hb dX6_copyFrom_0 rfl (lv_at hl 1 rfl) ?_
  refine va_get (D := (dC, dI)) (ci := 6) (v := .ref b1) (C := RX6) (T := TX6) (N := 3) hx hb hts iX6_copyFrom_X6 hown hK.1 hP 2 gz2 vcz6 1 (by decide) (kX6_copyFrom_1 hts) (fun _ h9 => h9) gz1 dX6_copyFrom_1 ?_
  refine va_alen hx hb hK.1 hP 3 0 rfl rfl (v := 24) rfl dX6_copyFrom_4 ?_
  refine lv_aload_n hx hb dX6_copyFrom_5 rfl (lv_at hl 0 rfl) ?_
  refine va_get (D := (dC, dI)) (ci := 6) (v := .ref a1) (C := RX6) (T := TX6) (N := 3) hx hb hts iX6_copyFrom_X6 hown hK.1 hP 0 gz0 vcz6 1 (by decide) (kX6_copyFrom_1 hts) (fun _ h9 => h9) gz1 dX6_copyFrom_6 ?_
  refine va_alen hx hb hK.1 hP 1 0 rfl rfl (v := 24) rfl dX6_copyFrom_9 ?_
  refine lv_icmp_ne (tgt := 39) hx hb dX6_copyFrom_10 (by decide) (fun c_1 => absurd (by decide) c_1) (fun _ => ?_)
  refine lv_aload_n hx hb dX6_copyFrom_13 rfl (lv_at hl 1 rfl) ?_
  refine va_get (D := (dC, dI)) (ci := 6) (v := .ref b1) (C := RX6) (T := TX6) (N := 3) hx hb hts iX6_copyFrom_X6 hown hK.1 hP 2 gz2 vcz6 1 (by decide) (kX6_copyFrom_1 hts) (fun _ h9 => h9) gz1 dX6_copyFrom_14 ?_
  refine lv_iconst (v := 0) hx hb dX6_copyFrom_17 (by decide) ?_
  refine lv_aload_n hx hb dX6_copyFrom_18 rfl (lv_at hl 0 rfl) ?_
  refine va_get (D := (dC, dI)) (ci := 6) (v := .ref a1) (C := RX6) (T := TX6) (N := 3) hx hb hts iX6_copyFrom_X6 hown hK.1 hP 0 gz0 vcz6 1 (by decide) (kX6_copyFrom_1 hts) (fun _ h9 => h9) gz1 dX6_copyFrom_19 ?_
  refine lv_iconst (v := 0) hx hb dX6_copyFrom_22 (by decide) ?_
  refine lv_aload_n hx hb dX6_copyFrom_23 rfl (lv_at hl 0 rfl) ?_
  refine va_get (D := (dC, dI)) (ci := 6) (v := .ref a1) (C := RX6) (T := TX6) (N := 3) hx hb hts iX6_copyFrom_X6 hown hK.1 hP 0 gz0 vcz6 1 (by decide) (kX6_copyFrom_1 hts) (fun _ h9 => h9) gz1 dX6_copyFrom_24 ?_
  refine va_alen hx hb hK.1 hP 1 0 rfl rfl (v := 24) rfl dX6_copyFrom_27 ?_
  refine va_copyi hx hb (by rw [hml]; exact hl.1.symm) hown (kX6_copyFrom_2 hts) (kX6_copyFrom_3 hts) (kX6_copyFrom_4 hts) (kX6_copyFrom_5 hts) hK.1 hP hD hS 3 1 0 0 rfl rfl rfl rfl rfl (by decide) (by decide) (by decide) (by decide) (by decide) (fun _ _ => rfl) (Nat.le_of_ble_eq_true rfl) (Nat.le_of_ble_eq_true rfl) dX6_copyFrom_28 (fun H locs hP hD hS => ?_)
  obtain ⟨hP, hD⟩ := z_re (L := [(a0, .inr (6, [.int wd, .ref a1, .int zs])), (a1, .inl (kA 0, 24, .inl (va_cpy ga fa (0 : Int32).toNatClampNeg (0 : Int32).toNatClampNeg (24 : Int32).toNatClampNeg))), (b0, .inr (6, [.int wd2, .ref b1, .int zs2])), (b1, .inl (kA 0, 24, .inl ga))]) hP hD
  obtain ⟨f2, ef2⟩ : ∃ y : Nat → Int32, y = (va_cpy ga fa (0 : Int32).toNatClampNeg (0 : Int32).toNatClampNeg (24 : Int32).toNatClampNeg) := ⟨_, rfl⟩
  rw [← ef2] at hP hD
  have hG := zbnd hG ef2
  refine lv_aload_n hx hb dX6_copyFrom_31 rfl (lv_at hl 0 rfl) ?_
  refine lv_aload_n hx hb dX6_copyFrom_32 rfl (lv_at hl 1 rfl) ?_
  refine va_get (D := (dC, dI)) (ci := 6) (v := .int zs2) (C := RX6) (T := TX6) (N := 3) hx hb hts iX6_copyFrom_X6 hown hK.1 hP 2 gz2 vcz6 2 (by decide) (kX6_copyFrom_6 hts) (fun _ h9 => h9) gz2 dX6_copyFrom_33 ?_
  refine va_put (D := (dC, dI)) (ci := 6) (v := .int zs2) (ty := .int) (C := RX6) (T := TX6) (N := 3) hx hb hts iX6_copyFrom_X6 tyX6 tyX6_ok nmX6 hown hK.1 hP hD hS 0 gz0 vcz6 2 (by decide) (kX6_copyFrom_6 hts) (fun _ h9 => h9) rfl pfdI rfl rfl (Nat.le_of_ble_eq_true rfl) dX6_copyFrom_36 (fun H locs hP hD hS => ?_)
  obtain ⟨hP, hD⟩ := z_re (L := [(a0, .inr (6, [.int wd, .ref a1, .int zs2])), (a1, .inl (kA 0, 24, .inl f2)), (b0, .inr (6, [.int wd2, .ref b1, .int zs2])), (b1, .inl (kA 0, 24, .inl ga))]) hP hD
  obtain ⟨hP9, hD9⟩ := z_sb (L' := [(a0, .inr (6, [.int wd, .ref a1, .int zs2])), (a1, .inl (kA 0, 24, .inl f2)), (b0, .inr (6, [.int wd2, .ref b1, .int zs2])), (b1, .inl (kA 0, 24, .inl ga))]) hP hD [0, 1, 2, 3] (by decide) rfl
  refine W.widen (k := 0) (n := 0) (Nat.le_of_ble_eq_true rfl) (Nat.le_of_ble_eq_true rfl) ?_
  exact W.vret hx hb hr (fun t ht hW => ⟨⟨(zs2, f2), rfl, (hG.trans hG0.symm), by rw [ht]; exact hP9, hD9⟩, hS.F ht⟩) hS.2.2 dX6_copyFrom_39
set_option maxRecDepth 100000 in
def fX6_get_6 (wd : Int32) (fa : Nat → Int32) (row : Int32) (col : Int32) : Int32 := bnd (((row * wd) + col)) (fun (x1 : Int32) => if x1 < 0 then (0) else (if 6 ≤ x1 then (0) else (bnd (fa x1.toNatClampNeg) (fun (x4 : Int32) => x4))))
set_option maxHeartbeats 4000000 in
set_option maxRecDepth 100000 in
theorem mX6_get_6 (l : Launch) (dC : Nat → ClassId) (dI : Nat → Nat → Nat) (kA : Nat → ClassId) (sz : Nat) (a0 : Nat) (a1 : Nat) (wd : Int32) (zs : Int32) (fa : Nat → Int32) (row : Int32) (col : Int32)  : Met l yX6_get wsX6_get ({ frames := 0, cells := 0, slots := 0, locals := 0 }) (zPc dC dI kA sz [.ref a0, .int row, .int col] [(a0, .inr (6, [.int wd, .ref a1, .int zs])), (a1, .inl (kA 0, 6, .inl fa))]) (va_Qi (fun (r : Int32) (u : Int32) => r = u ∧ u = fX6_get_6 wd fa row col) (zB dC dI (va_A [(a0, .inr (6, [.int wd, .ref a1, .int zs])), (a1, .inl (kA 0, 6, .inl fa))] sz) (fun (u : Int32) => [(a0, .inr (6, [.int wd, .ref a1, .int zs])), (a1, .inl (kA 0, 6, .inl fa))])) (va_A [(a0, .inr (6, [.int wd, .ref a1, .int zs])), (a1, .inl (kA 0, 6, .inl fa))] sz)) 0 0 (va_A [(a0, .inr (6, [.int wd, .ref a1, .int zs])), (a1, .inl (kA 0, 6, .inl fa))] sz) := by
  refine Met.ofW (cc := cX6_get) (maxL := 4) (ret := (some .int)) pnX6 rfl ?_
  intro p e s m args below meth c s₁ B hml hv
  obtain ⟨rfl, hsz, hP, hK, hD0⟩ := hv
  have hx := B.exec
  have hb := B.bytes
  have hr := B.returns
  have hts := atoms_spec (ws := wsX6_get) B.pre
  have hown : s.vm.findClass RX6 = some m.cls := findClass_of_methodNamed B.named
  have hlocks := B.notSynchronized
  subst hsz
  have hD := hD0.self (sz := s.heap.size)
  generalize hAe : va_A [(a0, .inr (6, [.int wd, .ref a1, .int zs])), (a1, .inl (kA 0, 6, .inl fa))] s.heap.size = A at hD ⊢
  have hA : ∀ q : Nat, s.heap.size ≤ q → A q := zA_of hAe
  have hS : va_S A s.heap s.heap [] := va_S.rf
  have hP : va_P (dC, dI) vwCl [(a0, .inr (6, [.int wd, .ref a1, .int zs])), (a1, .inl (kA 0, 6, .inl fa))] s.heap := hP
  have hl := lv_entry ([.ref a0, .int row, .int col]) (n := 4) (Nat.le_of_ble_eq_true rfl)
  rw [lg_entry_eq]
  generalize (lg_sl ([.ref a0, .int row, .int col]) ++ List.replicate (4 - (lg_sl ([.ref a0, .int row, .int col])).length) Slot.unset).toArray = ls at hl ⊢
  have hl : lv_has ls 4 [(0, .ref a0), (1, .int row), (2, .int col)] := hl
  obtain ⟨G, hG0⟩ : ∃ G : Int32, fX6_get_6 wd fa row col = G := ⟨_, rfl⟩
  have hG := hG0
  unfold fX6_get_6 at hG
  refine lv_iload_n hx hb dX6_get_0 rfl (lv_at hl 1 rfl) ?_
  refine lv_aload_n hx hb dX6_get_1 rfl (lv_at hl 0 rfl) ?_
  refine va_get (D := (dC, dI)) (ci := 6) (v := .int wd) (C := RX6) (T := TX6) (N := 3) hx hb hts iX6_get_X6 hown hK.1 hP 0 gz0 vcz6 0 (by decide) (kX6_get_1 hts) (fun _ h9 => h9) gz0 dX6_get_2 ?_
  refine lv_imul hx hb dX6_get_5 ?_
  refine lv_iload_n hx hb dX6_get_6 rfl (lv_at hl 2 rfl) ?_
  refine lv_iadd hx hb dX6_get_7 ?_
  refine lv_topi (fun x1 ex1 => ?_)
  have hG := zbnd hG ex1
  refine lv_istore_n (lv' := [(3, .int x1), (0, .ref a0), (1, .int row), (2, .int col)]) hx hb dX6_get_8 rfl hl (by decide) rfl (fun ls hl => ?_)
  refine lv_iload_n hx hb dX6_get_9 rfl (lv_at hl 0 rfl) ?_
  refine lv_if_lt (tgt := 31) hx hb dX6_get_10 (by decide) (fun c_2 => ?_) (fun c_2 => ?_)
  · have hG := zthen hG c_2
    refine lv_iconst (v := 0) hx hb dX6_get_31 (by decide) ?_
    obtain ⟨hP9, hD9⟩ := z_sb (L' := [(a0, .inr (6, [.int wd, .ref a1, .int zs])), (a1, .inl (kA 0, 6, .inl fa))]) hP hD [0, 1] (by decide) rfl
    refine W.widen (k := 0) (n := 0) (Nat.le_of_ble_eq_true rfl) (Nat.le_of_ble_eq_true rfl) ?_
    exact W.iret (v := 0) hx hb hr (fun t ht hW => ⟨⟨0, (0), rfl, ⟨rfl, (hG.trans hG0.symm)⟩, by rw [ht]; exact hP9, hD9⟩, hS.F ht⟩) hS.2.2 dX6_get_32
  · have hG := zelse hG c_2
    refine lv_iload_n hx hb dX6_get_13 rfl (lv_at hl 0 rfl) ?_
    refine lv_aload_n hx hb dX6_get_14 rfl (lv_at hl 1 rfl) ?_
    refine va_get (D := (dC, dI)) (ci := 6) (v := .ref a1) (C := RX6) (T := TX6) (N := 3) hx hb hts iX6_get_X6 hown hK.1 hP 0 gz0 vcz6 1 (by decide) (kX6_get_2 hts) (fun _ h9 => h9) gz1 dX6_get_15 ?_
    refine va_alen hx hb hK.1 hP 1 0 rfl rfl (v := 6) rfl dX6_get_18 ?_
    refine lv_icmp_ge (tgt := 31) hx hb dX6_get_19 (by decide) (fun c_3 => ?_) (fun c_3 => ?_)
    · have hG := zthen hG c_3
      refine lv_iconst (v := 0) hx hb dX6_get_31 (by decide) ?_
      obtain ⟨hP9, hD9⟩ := z_sb (L' := [(a0, .inr (6, [.int wd, .ref a1, .int zs])), (a1, .inl (kA 0, 6, .inl fa))]) hP hD [0, 1] (by decide) rfl
      refine W.widen (k := 0) (n := 0) (Nat.le_of_ble_eq_true rfl) (Nat.le_of_ble_eq_true rfl) ?_
      exact W.iret (v := 0) hx hb hr (fun t ht hW => ⟨⟨0, (0), rfl, ⟨rfl, (hG.trans hG0.symm)⟩, by rw [ht]; exact hP9, hD9⟩, hS.F ht⟩) hS.2.2 dX6_get_32
    · have hG := zelse hG c_3
      refine lv_aload_n hx hb dX6_get_22 rfl (lv_at hl 1 rfl) ?_
      refine va_get (D := (dC, dI)) (ci := 6) (v := .ref a1) (C := RX6) (T := TX6) (N := 3) hx hb hts iX6_get_X6 hown hK.1 hP 0 gz0 vcz6 1 (by decide) (kX6_get_2 hts) (fun _ h9 => h9) gz1 dX6_get_23 ?_
      refine lv_iload_n hx hb dX6_get_26 rfl (lv_at hl 0 rfl) ?_
      refine va_iald hx hb hK.1 hP 1 0 gz1 tzz0 (vp_lt (by decide) c_2 c_3) dX6_get_27 ?_
      refine lv_topi (fun x4 ex4 => ?_)
      have hG := zbnd hG ex4
      refine lv_goto (tgt := 32) hx hb dX6_get_28 (by decide) ?_
      obtain ⟨hP9, hD9⟩ := z_sb (L' := [(a0, .inr (6, [.int wd, .ref a1, .int zs])), (a1, .inl (kA 0, 6, .inl fa))]) hP hD [0, 1] (by decide) rfl
      refine W.widen (k := 0) (n := 0) (Nat.le_of_ble_eq_true rfl) (Nat.le_of_ble_eq_true rfl) ?_
      exact W.iret (v := x4) hx hb hr (fun t ht hW => ⟨⟨x4, (x4), rfl, ⟨rfl, (hG.trans hG0.symm)⟩, by rw [ht]; exact hP9, hD9⟩, hS.F ht⟩) hS.2.2 dX6_get_32
set_option maxRecDepth 100000 in
def fX6_put_6 (wd : Int32) (fa : Nat → Int32) (row : Int32) (col : Int32) (val : Int32) : (Nat → Int32) := bnd (((row * wd) + col)) (fun (x1 : Int32) => if x1 < 0 then (fa) else (if 6 ≤ x1 then (fa) else (bnd ((upd fa x1.toNatClampNeg val)) (fun (f4 : Nat → Int32) => f4))))
set_option maxHeartbeats 4000000 in
set_option maxRecDepth 100000 in
theorem mX6_put_6 (l : Launch) (dC : Nat → ClassId) (dI : Nat → Nat → Nat) (kA : Nat → ClassId) (sz : Nat) (a0 : Nat) (a1 : Nat) (wd : Int32) (zs : Int32) (fa : Nat → Int32) (row : Int32) (col : Int32) (val : Int32)  : Met l yX6_put wsX6_put ({ frames := 0, cells := 0, slots := 0, locals := 0 }) (zPc dC dI kA sz [.ref a0, .int row, .int col, .int val] [(a0, .inr (6, [.int wd, .ref a1, .int zs])), (a1, .inl (kA 0, 6, .inl fa))]) (va_Qv (fun (u : (Nat → Int32)) => u = fX6_put_6 wd fa row col val) (zB dC dI (va_A [(a0, .inr (6, [.int wd, .ref a1, .int zs])), (a1, .inl (kA 0, 6, .inl fa))] sz) (fun (u : (Nat → Int32)) => [(a0, .inr (6, [.int wd, .ref a1, .int zs])), (a1, .inl (kA 0, 6, .inl u))])) (va_A [(a0, .inr (6, [.int wd, .ref a1, .int zs])), (a1, .inl (kA 0, 6, .inl fa))] sz)) 0 0 (va_A [(a0, .inr (6, [.int wd, .ref a1, .int zs])), (a1, .inl (kA 0, 6, .inl fa))] sz) := by
  refine Met.ofW (cc := cX6_put) (maxL := 5) (ret := none) pnX6 rfl ?_
  intro p e s m args below meth c s₁ B hml hv
  obtain ⟨rfl, hsz, hP, hK, hD0⟩ := hv
  have hx := B.exec
  have hb := B.bytes
  have hr := B.returns
  have hts := atoms_spec (ws := wsX6_put) B.pre
  have hown : s.vm.findClass RX6 = some m.cls := findClass_of_methodNamed B.named
  have hlocks := B.notSynchronized
  subst hsz
  have hD := hD0.self (sz := s.heap.size)
  generalize hAe : va_A [(a0, .inr (6, [.int wd, .ref a1, .int zs])), (a1, .inl (kA 0, 6, .inl fa))] s.heap.size = A at hD ⊢
  have hA : ∀ q : Nat, s.heap.size ≤ q → A q := zA_of hAe
  have hS : va_S A s.heap s.heap [] := va_S.rf
  have hP : va_P (dC, dI) vwCl [(a0, .inr (6, [.int wd, .ref a1, .int zs])), (a1, .inl (kA 0, 6, .inl fa))] s.heap := hP
  have hl := lv_entry ([.ref a0, .int row, .int col, .int val]) (n := 5) (Nat.le_of_ble_eq_true rfl)
  rw [lg_entry_eq]
  generalize (lg_sl ([.ref a0, .int row, .int col, .int val]) ++ List.replicate (5 - (lg_sl ([.ref a0, .int row, .int col, .int val])).length) Slot.unset).toArray = ls at hl ⊢
  have hl : lv_has ls 5 [(0, .ref a0), (1, .int row), (2, .int col), (3, .int val)] := hl
  obtain ⟨G, hG0⟩ : ∃ G : (Nat → Int32), fX6_put_6 wd fa row col val = G := ⟨_, rfl⟩
  have hG := hG0
  unfold fX6_put_6 at hG
  refine lv_iload_n hx hb dX6_put_0 rfl (lv_at hl 1 rfl) ?_
  refine lv_aload_n hx hb dX6_put_1 rfl (lv_at hl 0 rfl) ?_
  refine va_get (D := (dC, dI)) (ci := 6) (v := .int wd) (C := RX6) (T := TX6) (N := 3) hx hb hts iX6_put_X6 hown hK.1 hP 0 gz0 vcz6 0 (by decide) (kX6_put_1 hts) (fun _ h9 => h9) gz0 dX6_put_2 ?_
  refine lv_imul hx hb dX6_put_5 ?_
  refine lv_iload_n hx hb dX6_put_6 rfl (lv_at hl 2 rfl) ?_
  refine lv_iadd hx hb dX6_put_7 ?_
  refine lv_topi (fun x1 ex1 => ?_)
  have hG := zbnd hG ex1
  refine lv_istore (lv' := [(4, .int x1), (0, .ref a0), (1, .int row), (2, .int col), (3, .int val)]) hx hb dX6_put_8 hl (by decide) rfl (fun ls hl => ?_)
  refine lv_iload hx hb dX6_put_10 (lv_at hl 0 rfl) ?_
  refine lv_if_lt (tgt := 33) hx hb dX6_put_12 (by decide) (fun c_2 => ?_) (fun c_2 => ?_)
  · have hG := zthen hG c_2
    obtain ⟨hP9, hD9⟩ := z_sb (L' := [(a0, .inr (6, [.int wd, .ref a1, .int zs])), (a1, .inl (kA 0, 6, .inl fa))]) hP hD [0, 1] (by decide) rfl
    refine W.widen (k := 0) (n := 0) (Nat.le_of_ble_eq_true rfl) (Nat.le_of_ble_eq_true rfl) ?_
    exact W.vret hx hb hr (fun t ht hW => ⟨⟨(fa), rfl, (hG.trans hG0.symm), by rw [ht]; exact hP9, hD9⟩, hS.F ht⟩) hS.2.2 dX6_put_33
  · have hG := zelse hG c_2
    refine lv_iload hx hb dX6_put_15 (lv_at hl 0 rfl) ?_
    refine lv_aload_n hx hb dX6_put_17 rfl (lv_at hl 1 rfl) ?_
    refine va_get (D := (dC, dI)) (ci := 6) (v := .ref a1) (C := RX6) (T := TX6) (N := 3) hx hb hts iX6_put_X6 hown hK.1 hP 0 gz0 vcz6 1 (by decide) (kX6_put_2 hts) (fun _ h9 => h9) gz1 dX6_put_18 ?_
    refine va_alen hx hb hK.1 hP 1 0 rfl rfl (v := 6) rfl dX6_put_21 ?_
    refine lv_icmp_ge (tgt := 33) hx hb dX6_put_22 (by decide) (fun c_3 => ?_) (fun c_3 => ?_)
    · have hG := zthen hG c_3
      obtain ⟨hP9, hD9⟩ := z_sb (L' := [(a0, .inr (6, [.int wd, .ref a1, .int zs])), (a1, .inl (kA 0, 6, .inl fa))]) hP hD [0, 1] (by decide) rfl
      refine W.widen (k := 0) (n := 0) (Nat.le_of_ble_eq_true rfl) (Nat.le_of_ble_eq_true rfl) ?_
      exact W.vret hx hb hr (fun t ht hW => ⟨⟨(fa), rfl, (hG.trans hG0.symm), by rw [ht]; exact hP9, hD9⟩, hS.F ht⟩) hS.2.2 dX6_put_33
    · have hG := zelse hG c_3
      refine lv_aload_n hx hb dX6_put_25 rfl (lv_at hl 1 rfl) ?_
      refine va_get (D := (dC, dI)) (ci := 6) (v := .ref a1) (C := RX6) (T := TX6) (N := 3) hx hb hts iX6_put_X6 hown hK.1 hP 0 gz0 vcz6 1 (by decide) (kX6_put_2 hts) (fun _ h9 => h9) gz1 dX6_put_26 ?_
      refine lv_iload hx hb dX6_put_29 (lv_at hl 0 rfl) ?_
      refine lv_iload_n hx hb dX6_put_31 rfl (lv_at hl 4 rfl) ?_
      refine va_iast hx hb hK.1 hP hD hS 1 0 gz1 tzz0 (vp_lt (by decide) c_2 c_3) dX6_put_32 (fun H locs hP hD hS => ?_)
      obtain ⟨hP, hD⟩ := z_re (L := [(a0, .inr (6, [.int wd, .ref a1, .int zs])), (a1, .inl (kA 0, 6, .inl (upd fa x1.toNatClampNeg val)))]) hP hD
      obtain ⟨f4, ef4⟩ : ∃ y : Nat → Int32, y = (upd fa x1.toNatClampNeg val) := ⟨_, rfl⟩
      rw [← ef4] at hP hD
      have hG := zbnd hG ef4
      obtain ⟨hP9, hD9⟩ := z_sb (L' := [(a0, .inr (6, [.int wd, .ref a1, .int zs])), (a1, .inl (kA 0, 6, .inl f4))]) hP hD [0, 1] (by decide) rfl
      refine W.widen (k := 0) (n := 0) (Nat.le_of_ble_eq_true rfl) (Nat.le_of_ble_eq_true rfl) ?_
      exact W.vret hx hb hr (fun t ht hW => ⟨⟨(f4), rfl, (hG.trans hG0.symm), by rw [ht]; exact hP9, hD9⟩, hS.F ht⟩) hS.2.2 dX6_put_33
set_option maxRecDepth 100000 in
def fX6_grow_6 (wd : Int32) (zs : Int32) : Int32 × Int32 := if ((zs + 1) * wd) ≤ 6 then (bnd ((zs + 1)) (fun (x2 : Int32) => (x2, (x2 - 1)))) else ((zs, (-1)))
set_option maxHeartbeats 4000000 in
set_option maxRecDepth 100000 in
theorem mX6_grow_6 (l : Launch) (dC : Nat → ClassId) (dI : Nat → Nat → Nat) (kA : Nat → ClassId) (sz : Nat) (a0 : Nat) (a1 : Nat) (wd : Int32) (zs : Int32) (fa : Nat → Int32)  : Met l yX6_grow wsX6_grow ({ frames := 0, cells := 0, slots := 0, locals := 0 }) (zPc dC dI kA sz [.ref a0] [(a0, .inr (6, [.int wd, .ref a1, .int zs])), (a1, .inl (kA 0, 6, .inl fa))]) (va_Qi (fun (r : Int32) (u : Int32 × Int32) => r = u.2 ∧ (u.1, u.2) = fX6_grow_6 wd zs) (zB dC dI (va_A [(a0, .inr (6, [.int wd, .ref a1, .int zs])), (a1, .inl (kA 0, 6, .inl fa))] sz) (fun (u : Int32 × Int32) => [(a0, .inr (6, [.int wd, .ref a1, .int u.1])), (a1, .inl (kA 0, 6, .inl fa))])) (va_A [(a0, .inr (6, [.int wd, .ref a1, .int zs])), (a1, .inl (kA 0, 6, .inl fa))] sz)) 0 0 (va_A [(a0, .inr (6, [.int wd, .ref a1, .int zs])), (a1, .inl (kA 0, 6, .inl fa))] sz) := by
  refine Met.ofW (cc := cX6_grow) (maxL := 1) (ret := (some .int)) pnX6 rfl ?_
  intro p e s m args below meth c s₁ B hml hv
  obtain ⟨rfl, hsz, hP, hK, hD0⟩ := hv
  have hx := B.exec
  have hb := B.bytes
  have hr := B.returns
  have hts := atoms_spec (ws := wsX6_grow) B.pre
  have hown : s.vm.findClass RX6 = some m.cls := findClass_of_methodNamed B.named
  have hlocks := B.notSynchronized
  subst hsz
  have hD := hD0.self (sz := s.heap.size)
  generalize hAe : va_A [(a0, .inr (6, [.int wd, .ref a1, .int zs])), (a1, .inl (kA 0, 6, .inl fa))] s.heap.size = A at hD ⊢
  have hA : ∀ q : Nat, s.heap.size ≤ q → A q := zA_of hAe
  have hS : va_S A s.heap s.heap [] := va_S.rf
  have hP : va_P (dC, dI) vwCl [(a0, .inr (6, [.int wd, .ref a1, .int zs])), (a1, .inl (kA 0, 6, .inl fa))] s.heap := hP
  have hl := lv_entry ([.ref a0]) (n := 1) (Nat.le_of_ble_eq_true rfl)
  rw [lg_entry_eq]
  generalize (lg_sl ([.ref a0]) ++ List.replicate (1 - (lg_sl ([.ref a0])).length) Slot.unset).toArray = ls at hl ⊢
  have hl : lv_has ls 1 [(0, .ref a0)] := hl
  obtain ⟨G, hG0⟩ : ∃ G : Int32 × Int32, fX6_grow_6 wd zs = G := ⟨_, rfl⟩
  have hG := hG0
  unfold fX6_grow_6 at hG
  refine lv_aload_n hx hb dX6_grow_0 rfl (lv_at hl 0 rfl) ?_
  refine va_get (D := (dC, dI)) (ci := 6) (v := .int zs) (C := RX6) (T := TX6) (N := 3) hx hb hts iX6_grow_X6 hown hK.1 hP 0 gz0 vcz6 2 (by decide) (kX6_grow_1 hts) (fun _ h9 => h9) gz2 dX6_grow_1 ?_
  refine lv_iconst (v := 1) hx hb dX6_grow_4 (by decide) ?_
  refine lv_iadd hx hb dX6_grow_5 ?_
  refine lv_aload_n hx hb dX6_grow_6 rfl (lv_at hl 0 rfl) ?_
  refine va_get (D := (dC, dI)) (ci := 6) (v := .int wd) (C := RX6) (T := TX6) (N := 3) hx hb hts iX6_grow_X6 hown hK.1 hP 0 gz0 vcz6 0 (by decide) (kX6_grow_2 hts) (fun _ h9 => h9) gz0 dX6_grow_7 ?_
  refine lv_imul hx hb dX6_grow_10 ?_
  refine lv_aload_n hx hb dX6_grow_11 rfl (lv_at hl 0 rfl) ?_
  refine va_get (D := (dC, dI)) (ci := 6) (v := .ref a1) (C := RX6) (T := TX6) (N := 3) hx hb hts iX6_grow_X6 hown hK.1 hP 0 gz0 vcz6 1 (by decide) (kX6_grow_3 hts) (fun _ h9 => h9) gz1 dX6_grow_12 ?_
  refine va_alen hx hb hK.1 hP 1 0 rfl rfl (v := 6) rfl dX6_grow_15 ?_
  refine lv_icmp_le (tgt := 21) hx hb dX6_grow_16 (by decide) (fun c_1 => ?_) (fun c_1 => ?_)
  · have hG := zthen hG c_1
    refine lv_aload_n hx hb dX6_grow_21 rfl (lv_at hl 0 rfl) ?_
    refine lv_dup hx hb dX6_grow_22 rfl ?_
    refine va_get (D := (dC, dI)) (ci := 6) (v := .int zs) (C := RX6) (T := TX6) (N := 3) hx hb hts iX6_grow_X6 hown hK.1 hP 0 gz0 vcz6 2 (by decide) (kX6_grow_1 hts) (fun _ h9 => h9) gz2 dX6_grow_23 ?_
    refine lv_iconst (v := 1) hx hb dX6_grow_26 (by decide) ?_
    refine lv_iadd hx hb dX6_grow_27 ?_
    refine lv_topi (fun x2 ex2 => ?_)
    have hG := zbnd hG ex2
    refine va_put (D := (dC, dI)) (ci := 6) (v := .int x2) (ty := .int) (C := RX6) (T := TX6) (N := 3) hx hb hts iX6_grow_X6 tyX6 tyX6_ok nmX6 hown hK.1 hP hD hS 0 gz0 vcz6 2 (by decide) (kX6_grow_1 hts) (fun _ h9 => h9) rfl pfdI rfl rfl (Nat.le_of_ble_eq_true rfl) dX6_grow_28 (fun H locs hP hD hS => ?_)
    obtain ⟨hP, hD⟩ := z_re (L := [(a0, .inr (6, [.int wd, .ref a1, .int x2])), (a1, .inl (kA 0, 6, .inl fa))]) hP hD
    refine lv_aload_n hx hb dX6_grow_31 rfl (lv_at hl 0 rfl) ?_
    refine va_get (D := (dC, dI)) (ci := 6) (v := .int x2) (C := RX6) (T := TX6) (N := 3) hx hb hts iX6_grow_X6 hown hK.1 hP 0 gz0 vcz6 2 (by decide) (kX6_grow_1 hts) (fun _ h9 => h9) gz2 dX6_grow_32 ?_
    refine lv_iconst (v := 1) hx hb dX6_grow_35 (by decide) ?_
    refine lv_isub hx hb dX6_grow_36 ?_
    obtain ⟨hP9, hD9⟩ := z_sb (L' := [(a0, .inr (6, [.int wd, .ref a1, .int x2])), (a1, .inl (kA 0, 6, .inl fa))]) hP hD [0, 1] (by decide) rfl
    refine W.widen (k := 0) (n := 0) (Nat.le_of_ble_eq_true rfl) (Nat.le_of_ble_eq_true rfl) ?_
    exact W.iret (v := (x2 - 1)) hx hb hr (fun t ht hW => ⟨⟨(x2 - 1), (x2, (x2 - 1)), rfl, ⟨rfl, (hG.trans hG0.symm)⟩, by rw [ht]; exact hP9, hD9⟩, hS.F ht⟩) hS.2.2 dX6_grow_37
  · have hG := zelse hG c_1
    refine lv_iconst (v := (-1)) hx hb dX6_grow_19 (by decide) ?_
    obtain ⟨hP9, hD9⟩ := z_sb (L' := [(a0, .inr (6, [.int wd, .ref a1, .int zs])), (a1, .inl (kA 0, 6, .inl fa))]) hP hD [0, 1] (by decide) rfl
    refine W.widen (k := 0) (n := 0) (Nat.le_of_ble_eq_true rfl) (Nat.le_of_ble_eq_true rfl) ?_
    exact W.iret (v := (-1)) hx hb hr (fun t ht hW => ⟨⟨(-1), (zs, (-1)), rfl, ⟨rfl, (hG.trans hG0.symm)⟩, by rw [ht]; exact hP9, hD9⟩, hS.F ht⟩) hS.2.2 dX6_grow_20
set_option maxRecDepth 100000 in
def fX6_copyFrom_6 (fa : Nat → Int32) (zs2 : Int32) (ga : Nat → Int32) : Int32 × (Nat → Int32) := bnd ((va_cpy ga fa (0 : Int32).toNatClampNeg (0 : Int32).toNatClampNeg (6 : Int32).toNatClampNeg)) (fun (f2 : Nat → Int32) => (zs2, f2))
set_option maxHeartbeats 4000000 in
set_option maxRecDepth 100000 in
theorem mX6_copyFrom_6 (l : Launch) (dC : Nat → ClassId) (dI : Nat → Nat → Nat) (kA : Nat → ClassId) (sz : Nat) (a0 : Nat) (a1 : Nat) (wd : Int32) (zs : Int32) (fa : Nat → Int32) (b0 : Nat) (b1 : Nat) (wd2 : Int32) (zs2 : Int32) (ga : Nat → Int32)  : Met l yX6_copyFrom wsX6_copyFrom ({ frames := 1, cells := 0, slots := 0, locals := 60 }) (zPc dC dI kA sz [.ref a0, .ref b0] [(a0, .inr (6, [.int wd, .ref a1, .int zs])), (a1, .inl (kA 0, 6, .inl fa)), (b0, .inr (6, [.int wd2, .ref b1, .int zs2])), (b1, .inl (kA 0, 6, .inl ga))]) (va_Qv (fun (u : Int32 × (Nat → Int32)) => (u.1, u.2) = fX6_copyFrom_6 fa zs2 ga) (zB dC dI (va_A [(a0, .inr (6, [.int wd, .ref a1, .int zs])), (a1, .inl (kA 0, 6, .inl fa)), (b0, .inr (6, [.int wd2, .ref b1, .int zs2])), (b1, .inl (kA 0, 6, .inl ga))] sz) (fun (u : Int32 × (Nat → Int32)) => [(a0, .inr (6, [.int wd, .ref a1, .int u.1])), (a1, .inl (kA 0, 6, .inl u.2)), (b0, .inr (6, [.int wd2, .ref b1, .int zs2])), (b1, .inl (kA 0, 6, .inl ga))])) (va_A [(a0, .inr (6, [.int wd, .ref a1, .int zs])), (a1, .inl (kA 0, 6, .inl fa)), (b0, .inr (6, [.int wd2, .ref b1, .int zs2])), (b1, .inl (kA 0, 6, .inl ga))] sz)) 0 0 (va_A [(a0, .inr (6, [.int wd, .ref a1, .int zs])), (a1, .inl (kA 0, 6, .inl fa)), (b0, .inr (6, [.int wd2, .ref b1, .int zs2])), (b1, .inl (kA 0, 6, .inl ga))] sz) := by
  refine Met.ofW (cc := cX6_copyFrom) (maxL := 2) (ret := none) pnX6 rfl ?_
  intro p e s m args below meth c s₁ B hml hv
  obtain ⟨rfl, hsz, hP, hK, hD0⟩ := hv
  have hx := B.exec
  have hb := B.bytes
  have hr := B.returns
  have hts := atoms_spec (ws := wsX6_copyFrom) B.pre
  have hown : s.vm.findClass RX6 = some m.cls := findClass_of_methodNamed B.named
  have hlocks := B.notSynchronized
  subst hsz
  have hD := hD0.self (sz := s.heap.size)
  generalize hAe : va_A [(a0, .inr (6, [.int wd, .ref a1, .int zs])), (a1, .inl (kA 0, 6, .inl fa)), (b0, .inr (6, [.int wd2, .ref b1, .int zs2])), (b1, .inl (kA 0, 6, .inl ga))] s.heap.size = A at hD ⊢
  have hA : ∀ q : Nat, s.heap.size ≤ q → A q := zA_of hAe
  have hS : va_S A s.heap s.heap [] := va_S.rf
  have hP : va_P (dC, dI) vwCl [(a0, .inr (6, [.int wd, .ref a1, .int zs])), (a1, .inl (kA 0, 6, .inl fa)), (b0, .inr (6, [.int wd2, .ref b1, .int zs2])), (b1, .inl (kA 0, 6, .inl ga))] s.heap := hP
  have hl := lv_entry ([.ref a0, .ref b0]) (n := 2) (Nat.le_of_ble_eq_true rfl)
  rw [lg_entry_eq]
  generalize (lg_sl ([.ref a0, .ref b0]) ++ List.replicate (2 - (lg_sl ([.ref a0, .ref b0])).length) Slot.unset).toArray = ls at hl ⊢
  have hl : lv_has ls 2 [(0, .ref a0), (1, .ref b0)] := hl
  obtain ⟨G, hG0⟩ : ∃ G : Int32 × (Nat → Int32), fX6_copyFrom_6 fa zs2 ga = G := ⟨_, rfl⟩
  have hG := hG0
  unfold fX6_copyFrom_6 at hG
  refine lv_aload_n hx hb dX6_copyFrom_0 rfl (lv_at hl 1 rfl) ?_
  refine va_get (D := (dC, dI)) (ci := 6) (v := .ref b1) (C := RX6) (T := TX6) (N := 3) hx hb hts iX6_copyFrom_X6 hown hK.1 hP 2 gz2 vcz6 1 (by decide) (kX6_copyFrom_1 hts) (fun _ h9 => h9) gz1 dX6_copyFrom_1 ?_
  refine va_alen hx hb hK.1 hP 3 0 rfl rfl (v := 6) rfl dX6_copyFrom_4 ?_
  refine lv_aload_n hx hb dX6_copyFrom_5 rfl (lv_at hl 0 rfl) ?_
  refine va_get (D := (dC, dI)) (ci := 6) (v := .ref a1) (C := RX6) (T := TX6) (N := 3) hx hb hts iX6_copyFrom_X6 hown hK.1 hP 0 gz0 vcz6 1 (by decide) (kX6_copyFrom_1 hts) (fun _ h9 => h9) gz1 dX6_copyFrom_6 ?_
  refine va_alen hx hb hK.1 hP 1 0 rfl rfl (v := 6) rfl dX6_copyFrom_9 ?_
  refine lv_icmp_ne (tgt := 39) hx hb dX6_copyFrom_10 (by decide) (fun c_1 => absurd (by decide) c_1) (fun _ => ?_)
  refine lv_aload_n hx hb dX6_copyFrom_13 rfl (lv_at hl 1 rfl) ?_
  refine va_get (D := (dC, dI)) (ci := 6) (v := .ref b1) (C := RX6) (T := TX6) (N := 3) hx hb hts iX6_copyFrom_X6 hown hK.1 hP 2 gz2 vcz6 1 (by decide) (kX6_copyFrom_1 hts) (fun _ h9 => h9) gz1 dX6_copyFrom_14 ?_
  refine lv_iconst (v := 0) hx hb dX6_copyFrom_17 (by decide) ?_
  refine lv_aload_n hx hb dX6_copyFrom_18 rfl (lv_at hl 0 rfl) ?_
  refine va_get (D := (dC, dI)) (ci := 6) (v := .ref a1) (C := RX6) (T := TX6) (N := 3) hx hb hts iX6_copyFrom_X6 hown hK.1 hP 0 gz0 vcz6 1 (by decide) (kX6_copyFrom_1 hts) (fun _ h9 => h9) gz1 dX6_copyFrom_19 ?_
  refine lv_iconst (v := 0) hx hb dX6_copyFrom_22 (by decide) ?_
  refine lv_aload_n hx hb dX6_copyFrom_23 rfl (lv_at hl 0 rfl) ?_
  refine va_get (D := (dC, dI)) (ci := 6) (v := .ref a1) (C := RX6) (T := TX6) (N := 3) hx hb hts iX6_copyFrom_X6 hown hK.1 hP 0 gz0 vcz6 1 (by decide) (kX6_copyFrom_1 hts) (fun _ h9 => h9) gz1 dX6_copyFrom_24 ?_
  refine va_alen hx hb hK.1 hP 1 0 rfl rfl (v := 6) rfl dX6_copyFrom_27 ?_
  refine va_copyi hx hb (by rw [hml]; exact hl.1.symm) hown (kX6_copyFrom_2 hts) (kX6_copyFrom_3 hts) (kX6_copyFrom_4 hts) (kX6_copyFrom_5 hts) hK.1 hP hD hS 3 1 0 0 rfl rfl rfl rfl rfl (by decide) (by decide) (by decide) (by decide) (by decide) (fun _ _ => rfl) (Nat.le_of_ble_eq_true rfl) (Nat.le_of_ble_eq_true rfl) dX6_copyFrom_28 (fun H locs hP hD hS => ?_)
  obtain ⟨hP, hD⟩ := z_re (L := [(a0, .inr (6, [.int wd, .ref a1, .int zs])), (a1, .inl (kA 0, 6, .inl (va_cpy ga fa (0 : Int32).toNatClampNeg (0 : Int32).toNatClampNeg (6 : Int32).toNatClampNeg))), (b0, .inr (6, [.int wd2, .ref b1, .int zs2])), (b1, .inl (kA 0, 6, .inl ga))]) hP hD
  obtain ⟨f2, ef2⟩ : ∃ y : Nat → Int32, y = (va_cpy ga fa (0 : Int32).toNatClampNeg (0 : Int32).toNatClampNeg (6 : Int32).toNatClampNeg) := ⟨_, rfl⟩
  rw [← ef2] at hP hD
  have hG := zbnd hG ef2
  refine lv_aload_n hx hb dX6_copyFrom_31 rfl (lv_at hl 0 rfl) ?_
  refine lv_aload_n hx hb dX6_copyFrom_32 rfl (lv_at hl 1 rfl) ?_
  refine va_get (D := (dC, dI)) (ci := 6) (v := .int zs2) (C := RX6) (T := TX6) (N := 3) hx hb hts iX6_copyFrom_X6 hown hK.1 hP 2 gz2 vcz6 2 (by decide) (kX6_copyFrom_6 hts) (fun _ h9 => h9) gz2 dX6_copyFrom_33 ?_
  refine va_put (D := (dC, dI)) (ci := 6) (v := .int zs2) (ty := .int) (C := RX6) (T := TX6) (N := 3) hx hb hts iX6_copyFrom_X6 tyX6 tyX6_ok nmX6 hown hK.1 hP hD hS 0 gz0 vcz6 2 (by decide) (kX6_copyFrom_6 hts) (fun _ h9 => h9) rfl pfdI rfl rfl (Nat.le_of_ble_eq_true rfl) dX6_copyFrom_36 (fun H locs hP hD hS => ?_)
  obtain ⟨hP, hD⟩ := z_re (L := [(a0, .inr (6, [.int wd, .ref a1, .int zs2])), (a1, .inl (kA 0, 6, .inl f2)), (b0, .inr (6, [.int wd2, .ref b1, .int zs2])), (b1, .inl (kA 0, 6, .inl ga))]) hP hD
  obtain ⟨hP9, hD9⟩ := z_sb (L' := [(a0, .inr (6, [.int wd, .ref a1, .int zs2])), (a1, .inl (kA 0, 6, .inl f2)), (b0, .inr (6, [.int wd2, .ref b1, .int zs2])), (b1, .inl (kA 0, 6, .inl ga))]) hP hD [0, 1, 2, 3] (by decide) rfl
  refine W.widen (k := 0) (n := 0) (Nat.le_of_ble_eq_true rfl) (Nat.le_of_ble_eq_true rfl) ?_
  exact W.vret hx hb hr (fun t ht hW => ⟨⟨(zs2, f2), rfl, (hG.trans hG0.symm), by rw [ht]; exact hP9, hD9⟩, hS.F ht⟩) hS.2.2 dX6_copyFrom_39
