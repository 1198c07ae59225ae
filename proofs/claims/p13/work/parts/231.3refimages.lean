def ixX11_back : List Nat := [5, 153, 164, 166, 191, 192, 193, 1401, 1409, 1499, 1500, 1501, 1502, 1503, 1504, 1505, 1506, 1507, 1508, 1509, 1510, 1511, 1512, 1513, 1514, 1515, 1516, 1517, 1518, 1519, 1520, 1521, 1522, 1523, 1524, 1525, 1526, 1527, 1528, 1529, 1530, 1531, 1532, 1533, 1534, 1535, 1536, 1537, 1538, 1539, 1540]
def wsX11_back : List Cond := .code yX11_back cX11_back 3 (some .int) :: ixX11_back.map wt
def ixX11_image : List Nat := [5, 153, 164, 166, 191, 192, 193, 1400, 1401, 1499, 1500, 1501, 1502, 1503, 1504, 1505, 1506, 1507, 1508, 1509, 1510, 1511, 1512, 1513, 1514, 1515, 1516, 1517, 1518, 1519, 1520, 1521, 1522, 1523, 1524, 1525, 1526, 1527, 1528, 1529, 1530, 1531, 1532, 1533, 1534, 1535, 1536, 1537, 1538, 1539, 1540]
def wsX11_image : List Cond := .code yX11_image cX11_image 3 (some .int) :: ixX11_image.map wt
theorem ggX11_back_X11_in : GoodIn wsX11_back wsX11_in := gi_ (A := ixX11_back) (B := ixX11_in) wt193 (by decide +kernel)
theorem gX11_back_X11_in : GoodIn wsX11_back (va_wsS RX11 118 yX11_in wsX11_in) := g3_ (A := ixX11_back) wt191 wt192 wt5 (by decide +kernel) ggX11_back_X11_in
theorem ggX11_image_X11_in : GoodIn wsX11_image wsX11_in := gi_ (A := ixX11_image) (B := ixX11_in) wt193 (by decide +kernel)
theorem gX11_image_X11_in : GoodIn wsX11_image (va_wsS RX11 118 yX11_in wsX11_in) := g3_ (A := ixX11_image) wt191 wt192 wt5 (by decide +kernel) ggX11_image_X11_in
theorem kX11_image_1 {a : Array Value} {s : State} (hts : ∀ w ∈ wsX11_image, w.before a s = true) : (.constantLong RX11 469 (3) : Cond).before a s = true := kw (A := ixX11_image) wt1401 hts (by decide +kernel)
theorem kX11_back_1 {a : Array Value} {s : State} (hts : ∀ w ∈ wsX11_back, w.before a s = true) : (.constantLong RX11 469 (3) : Cond).before a s = true := kw (A := ixX11_back) wt1401 hts (by decide +kernel)
theorem kX11_image_2 {a : Array Value} {s : State} (hts : ∀ w ∈ wsX11_image, w.before a s = true) : (.fieldLink RX11 75 "SnowMulesModel" "isMade" "[Z" : Cond).before a s = true := kw (A := ixX11_image) wt166 hts (by decide +kernel)
theorem kX11_image_3 {a : Array Value} {s : State} (hts : ∀ w ∈ wsX11_image, w.before a s = true) : (.fieldLink RX11 72 "SnowMulesModel" "images" "[I" : Cond).before a s = true := kw (A := ixX11_image) wt164 hts (by decide +kernel)
theorem kX11_image_4 {a : Array Value} {s : State} (hts : ∀ w ∈ wsX11_image, w.before a s = true) : (.fieldLink RX11 39 "SnowMulesModel" "said" "[I" : Cond).before a s = true := kw (A := ixX11_image) wt153 hts (by decide +kernel)
theorem kX11_back_2 {a : Array Value} {s : State} (hts : ∀ w ∈ wsX11_back, w.before a s = true) : (.fieldLink RX11 75 "SnowMulesModel" "isMade" "[Z" : Cond).before a s = true := kw (A := ixX11_back) wt166 hts (by decide +kernel)
theorem kX11_back_3 {a : Array Value} {s : State} (hts : ∀ w ∈ wsX11_back, w.before a s = true) : (.fieldLink RX11 39 "SnowMulesModel" "said" "[I" : Cond).before a s = true := kw (A := ixX11_back) wt153 hts (by decide +kernel)
theorem kX11_back_4 {a : Array Value} {s : State} (hts : ∀ w ∈ wsX11_back, w.before a s = true) : (.fieldLink RX11 72 "SnowMulesModel" "images" "[I" : Cond).before a s = true := kw (A := ixX11_back) wt164 hts (by decide +kernel)
theorem iX11_image_X11 : ∀ w ∈ wsX110, w ∈ wsX11_image := inW (A := ixX11_image) uwX11 (by decide +kernel)
theorem iX11_back_X11 : ∀ w ∈ wsX110, w ∈ wsX11_back := inW (A := ixX11_back) uwX11 (by decide +kernel)
def dtX11_image_231_0 : List (Nat × Jvm.ClassFile.Instr × Nat) := [(0, .iload_n 1, 1), (1, .i2l, 1), (2, .lconst 0, 1), (3, .ldc2_w 469, 3), (6, .invokestatic 118, 3), (9, .ifCond .ne 5, 3), (12, .iconst (-1), 1), (13, .ireturn, 1), (14, .aload_n 0, 1), (15, .getfield 75, 3), (18, .iload_n 1, 1), (19, .iconst 1, 1), (20, .bastore, 1), (21, .iconst 0, 1), (22, .istore_n 2, 1), (23, .iload_n 2, 1), (24, .sipush 360, 3), (27, .if_icmp .ge 27, 3), (30, .aload_n 0, 1), (31, .getfield 72, 3), (34, .sipush 360, 3), (37, .iload_n 1, 1), (38, .imul, 1), (39, .iload_n 2, 1), (40, .iadd, 1), (41, .aload_n 0, 1), (42, .getfield 39, 3), (45, .iload_n 2, 1), (46, .iaload, 1), (47, .iastore, 1), (48, .iinc 2 1, 3), (51, .goto (-28), 3)]
theorem daX11_image_231_0 : dtX11_image_231_0.all (dqd cX11_image) = true := by decide +kernel
theorem dX11_image_0 : decode cX11_image 0 = .ok (.iload_n 1, 1) := dq daX11_image_231_0 0 rfl
theorem dX11_image_1 : decode cX11_image 1 = .ok (.i2l, 1) := dq daX11_image_231_0 1 rfl
theorem dX11_image_2 : decode cX11_image 2 = .ok (.lconst 0, 1) := dq daX11_image_231_0 2 rfl
theorem dX11_image_3 : decode cX11_image 3 = .ok (.ldc2_w 469, 3) := dq daX11_image_231_0 3 rfl
theorem dX11_image_6 : decode cX11_image 6 = .ok (.invokestatic 118, 3) := dq daX11_image_231_0 4 rfl
theorem dX11_image_9 : decode cX11_image 9 = .ok (.ifCond .ne 5, 3) := dq daX11_image_231_0 5 rfl
theorem dX11_image_12 : decode cX11_image 12 = .ok (.iconst (-1), 1) := dq daX11_image_231_0 6 rfl
theorem dX11_image_13 : decode cX11_image 13 = .ok (.ireturn, 1) := dq daX11_image_231_0 7 rfl
theorem dX11_image_14 : decode cX11_image 14 = .ok (.aload_n 0, 1) := dq daX11_image_231_0 8 rfl
theorem dX11_image_15 : decode cX11_image 15 = .ok (.getfield 75, 3) := dq daX11_image_231_0 9 rfl
theorem dX11_image_18 : decode cX11_image 18 = .ok (.iload_n 1, 1) := dq daX11_image_231_0 10 rfl
theorem dX11_image_19 : decode cX11_image 19 = .ok (.iconst 1, 1) := dq daX11_image_231_0 11 rfl
theorem dX11_image_20 : decode cX11_image 20 = .ok (.bastore, 1) := dq daX11_image_231_0 12 rfl
theorem dX11_image_21 : decode cX11_image 21 = .ok (.iconst 0, 1) := dq daX11_image_231_0 13 rfl
theorem dX11_image_22 : decode cX11_image 22 = .ok (.istore_n 2, 1) := dq daX11_image_231_0 14 rfl
theorem dX11_image_23 : decode cX11_image 23 = .ok (.iload_n 2, 1) := dq daX11_image_231_0 15 rfl
theorem dX11_image_24 : decode cX11_image 24 = .ok (.sipush 360, 3) := dq daX11_image_231_0 16 rfl
theorem dX11_image_27 : decode cX11_image 27 = .ok (.if_icmp .ge 27, 3) := dq daX11_image_231_0 17 rfl
theorem dX11_image_30 : decode cX11_image 30 = .ok (.aload_n 0, 1) := dq daX11_image_231_0 18 rfl
theorem dX11_image_31 : decode cX11_image 31 = .ok (.getfield 72, 3) := dq daX11_image_231_0 19 rfl
theorem dX11_image_34 : decode cX11_image 34 = .ok (.sipush 360, 3) := dq daX11_image_231_0 20 rfl
theorem dX11_image_37 : decode cX11_image 37 = .ok (.iload_n 1, 1) := dq daX11_image_231_0 21 rfl
theorem dX11_image_38 : decode cX11_image 38 = .ok (.imul, 1) := dq daX11_image_231_0 22 rfl
theorem dX11_image_39 : decode cX11_image 39 = .ok (.iload_n 2, 1) := dq daX11_image_231_0 23 rfl
theorem dX11_image_40 : decode cX11_image 40 = .ok (.iadd, 1) := dq daX11_image_231_0 24 rfl
theorem dX11_image_41 : decode cX11_image 41 = .ok (.aload_n 0, 1) := dq daX11_image_231_0 25 rfl
theorem dX11_image_42 : decode cX11_image 42 = .ok (.getfield 39, 3) := dq daX11_image_231_0 26 rfl
theorem dX11_image_45 : decode cX11_image 45 = .ok (.iload_n 2, 1) := dq daX11_image_231_0 27 rfl
theorem dX11_image_46 : decode cX11_image 46 = .ok (.iaload, 1) := dq daX11_image_231_0 28 rfl
theorem dX11_image_47 : decode cX11_image 47 = .ok (.iastore, 1) := dq daX11_image_231_0 29 rfl
theorem dX11_image_48 : decode cX11_image 48 = .ok (.iinc 2 1, 3) := dq daX11_image_231_0 30 rfl
theorem dX11_image_51 : decode cX11_image 51 = .ok (.goto (-28), 3) := dq daX11_image_231_0 31 rfl
def dtX11_image_231_1 : List (Nat × Jvm.ClassFile.Instr × Nat) := [(54, .aload_n 0, 1), (55, .getfield 39, 3), (58, .iconst 5, 1), (59, .iaload, 1), (60, .ireturn, 1)]
theorem daX11_image_231_1 : dtX11_image_231_1.all (dqd cX11_image) = true := by decide +kernel
theorem dX11_image_54 : decode cX11_image 54 = .ok (.aload_n 0, 1) := dq daX11_image_231_1 0 rfl
theorem dX11_image_55 : decode cX11_image 55 = .ok (.getfield 39, 3) := dq daX11_image_231_1 1 rfl
theorem dX11_image_58 : decode cX11_image 58 = .ok (.iconst 5, 1) := dq daX11_image_231_1 2 rfl
theorem dX11_image_59 : decode cX11_image 59 = .ok (.iaload, 1) := dq daX11_image_231_1 3 rfl
theorem dX11_image_60 : decode cX11_image 60 = .ok (.ireturn, 1) := dq daX11_image_231_1 4 rfl
def dtX11_back_231_0 : List (Nat × Jvm.ClassFile.Instr × Nat) := [(0, .iload_n 1, 1), (1, .i2l, 1), (2, .lconst 0, 1), (3, .ldc2_w 469, 3), (6, .invokestatic 118, 3), (9, .ifCond .eq 12, 3), (21, .iconst (-1), 1), (22, .ireturn, 1), (12, .aload_n 0, 1), (13, .getfield 75, 3), (16, .iload_n 1, 1), (17, .baload, 1), (18, .ifCond .ne 5, 3), (23, .iconst 0, 1), (24, .istore_n 2, 1), (25, .iload_n 2, 1), (26, .sipush 360, 3), (29, .if_icmp .ge 27, 3), (32, .aload_n 0, 1), (33, .getfield 39, 3), (36, .iload_n 2, 1), (37, .aload_n 0, 1), (38, .getfield 72, 3), (41, .sipush 360, 3), (44, .iload_n 1, 1), (45, .imul, 1), (46, .iload_n 2, 1), (47, .iadd, 1), (48, .iaload, 1), (49, .iastore, 1), (50, .iinc 2 1, 3), (53, .goto (-28), 3)]
theorem daX11_back_231_0 : dtX11_back_231_0.all (dqd cX11_back) = true := by decide +kernel
theorem dX11_back_0 : decode cX11_back 0 = .ok (.iload_n 1, 1) := dq daX11_back_231_0 0 rfl
theorem dX11_back_1 : decode cX11_back 1 = .ok (.i2l, 1) := dq daX11_back_231_0 1 rfl
theorem dX11_back_2 : decode cX11_back 2 = .ok (.lconst 0, 1) := dq daX11_back_231_0 2 rfl
theorem dX11_back_3 : decode cX11_back 3 = .ok (.ldc2_w 469, 3) := dq daX11_back_231_0 3 rfl
theorem dX11_back_6 : decode cX11_back 6 = .ok (.invokestatic 118, 3) := dq daX11_back_231_0 4 rfl
theorem dX11_back_9 : decode cX11_back 9 = .ok (.ifCond .eq 12, 3) := dq daX11_back_231_0 5 rfl
theorem dX11_back_21 : decode cX11_back 21 = .ok (.iconst (-1), 1) := dq daX11_back_231_0 6 rfl
theorem dX11_back_22 : decode cX11_back 22 = .ok (.ireturn, 1) := dq daX11_back_231_0 7 rfl
theorem dX11_back_12 : decode cX11_back 12 = .ok (.aload_n 0, 1) := dq daX11_back_231_0 8 rfl
theorem dX11_back_13 : decode cX11_back 13 = .ok (.getfield 75, 3) := dq daX11_back_231_0 9 rfl
theorem dX11_back_16 : decode cX11_back 16 = .ok (.iload_n 1, 1) := dq daX11_back_231_0 10 rfl
theorem dX11_back_17 : decode cX11_back 17 = .ok (.baload, 1) := dq daX11_back_231_0 11 rfl
theorem dX11_back_18 : decode cX11_back 18 = .ok (.ifCond .ne 5, 3) := dq daX11_back_231_0 12 rfl
theorem dX11_back_23 : decode cX11_back 23 = .ok (.iconst 0, 1) := dq daX11_back_231_0 13 rfl
theorem dX11_back_24 : decode cX11_back 24 = .ok (.istore_n 2, 1) := dq daX11_back_231_0 14 rfl
theorem dX11_back_25 : decode cX11_back 25 = .ok (.iload_n 2, 1) := dq daX11_back_231_0 15 rfl
theorem dX11_back_26 : decode cX11_back 26 = .ok (.sipush 360, 3) := dq daX11_back_231_0 16 rfl
theorem dX11_back_29 : decode cX11_back 29 = .ok (.if_icmp .ge 27, 3) := dq daX11_back_231_0 17 rfl
theorem dX11_back_32 : decode cX11_back 32 = .ok (.aload_n 0, 1) := dq daX11_back_231_0 18 rfl
theorem dX11_back_33 : decode cX11_back 33 = .ok (.getfield 39, 3) := dq daX11_back_231_0 19 rfl
theorem dX11_back_36 : decode cX11_back 36 = .ok (.iload_n 2, 1) := dq daX11_back_231_0 20 rfl
theorem dX11_back_37 : decode cX11_back 37 = .ok (.aload_n 0, 1) := dq daX11_back_231_0 21 rfl
theorem dX11_back_38 : decode cX11_back 38 = .ok (.getfield 72, 3) := dq daX11_back_231_0 22 rfl
theorem dX11_back_41 : decode cX11_back 41 = .ok (.sipush 360, 3) := dq daX11_back_231_0 23 rfl
theorem dX11_back_44 : decode cX11_back 44 = .ok (.iload_n 1, 1) := dq daX11_back_231_0 24 rfl
theorem dX11_back_45 : decode cX11_back 45 = .ok (.imul, 1) := dq daX11_back_231_0 25 rfl
theorem dX11_back_46 : decode cX11_back 46 = .ok (.iload_n 2, 1) := dq daX11_back_231_0 26 rfl
theorem dX11_back_47 : decode cX11_back 47 = .ok (.iadd, 1) := dq daX11_back_231_0 27 rfl
theorem dX11_back_48 : decode cX11_back 48 = .ok (.iaload, 1) := dq daX11_back_231_0 28 rfl
theorem dX11_back_49 : decode cX11_back 49 = .ok (.iastore, 1) := dq daX11_back_231_0 29 rfl
theorem dX11_back_50 : decode cX11_back 50 = .ok (.iinc 2 1, 3) := dq daX11_back_231_0 30 rfl
theorem dX11_back_53 : decode cX11_back 53 = .ok (.goto (-28), 3) := dq daX11_back_231_0 31 rfl
def dtX11_back_231_1 : List (Nat × Jvm.ClassFile.Instr × Nat) := [(56, .aload_n 0, 1), (57, .getfield 39, 3), (60, .iconst 5, 1), (61, .iaload, 1), (62, .ireturn, 1)]
theorem daX11_back_231_1 : dtX11_back_231_1.all (dqd cX11_back) = true := by decide +kernel
theorem dX11_back_56 : decode cX11_back 56 = .ok (.aload_n 0, 1) := dq daX11_back_231_1 0 rfl
theorem dX11_back_57 : decode cX11_back 57 = .ok (.getfield 39, 3) := dq daX11_back_231_1 1 rfl
theorem dX11_back_60 : decode cX11_back 60 = .ok (.iconst 5, 1) := dq daX11_back_231_1 2 rfl
theorem dX11_back_61 : decode cX11_back 61 = .ok (.iaload, 1) := dq daX11_back_231_1 3 rfl
theorem dX11_back_62 : decode cX11_back 62 = .ok (.ireturn, 1) := dq daX11_back_231_1 4 rfl
set_option maxHeartbeats 4000000 in
set_option maxRecDepth 100000 in
theorem mX11_image_out (l : Launch) (dC : Nat → ClassId) (dI : Nat → Nat → Nat) (kA : Nat → ClassId) (sz : Nat) (n0 : Nat) (p0 : Int32) (hk : (li p0.toInt64 0 3) = 0) : Met l yX11_image wsX11_image ({ frames := 1, cells := 0, slots := 0, locals := 25 }) (zPc dC dI kA sz [.ref n0, .int p0] []) (va_Qi (fun (r : Int32) (u : Unit) => r = (-1)) (zB dC dI (va_A [] sz) (fun (u : Unit) => [])) (va_A [] sz)) 0 0 (va_A [] sz) := by
  refine Met.ofW (cc := cX11_image) (maxL := 3) (ret := (some .int)) pnX11 rfl ?_
  intro p e s m args below meth c s₁ B hml hv
  obtain ⟨rfl, hsz, hP, hK, hD0⟩ := hv
  have hx := B.exec
  have hb := B.bytes
  have hr := B.returns
  have hts := atoms_spec (ws := wsX11_image) B.pre
  have hown : s.vm.findClass RX11 = some m.cls := findClass_of_methodNamed B.named
  have hlocks := B.notSynchronized
  subst hsz
  have hD := hD0.self (sz := s.heap.size)
  generalize hAe : va_A [] s.heap.size = A at hD ⊢
  have hA : ∀ q : Nat, s.heap.size ≤ q → A q := zA_of hAe
  have hS : va_S A s.heap s.heap [] := va_S.rf
  have hP : va_P (dC, dI) vwCl [] s.heap := hP
  have hl := lv_entry ([.ref n0, .int p0]) (n := 3) (Nat.le_of_ble_eq_true rfl)
  rw [lg_entry_eq]
  generalize (lg_sl ([.ref n0, .int p0]) ++ List.replicate (3 - (lg_sl ([.ref n0, .int p0])).length) Slot.unset).toArray = ls at hl ⊢
  have hl : lv_has ls 3 [(0, .ref n0), (1, .int p0)] := hl
  refine lv_iload_n hx hb dX11_image_0 rfl (lv_at hl 1 rfl) ?_
  refine lv_i2l hx hb dX11_image_1 rfl ?_
  refine lv_lconst (v := 0) hx hb dX11_image_2 (by decide) ?_
  refine lv_ldc2 hx hb hown (kX11_image_1 hts) dX11_image_3 ?_
  refine z_i (wr := []) (va_runS (As := [.long p0.toInt64, .long 0, .long 3]) (rest := []) ⟨hx, hb, hml, hown, hts⟩ (mX11_in l dC dI kA _ p0.toInt64 0 3) (va_cwS 3 hts gX11_image_X11_in rfl rfl rfl hdX11_in ⟨(Nat.le_of_ble_eq_true rfl), (Nat.le_of_ble_eq_true rfl)⟩) ⟨zPc.blind, zPre hK (hP.sub [] rfl) (hD.sub [] (by decide) rfl)⟩ rfl rfl hl.1 rfl (lv_room (Nat.le_of_ble_eq_true rfl)) dX11_image_6 ⟨(Nat.le_of_ble_eq_true rfl), (Nat.le_of_ble_eq_true rfl)⟩) hP hD hS hA [] [] rfl rfl (by decide) (by decide) (fun r3 u1 H locs hw2 hP hD hS => ?_)
  obtain rfl := hw2
  obtain ⟨hP, hD⟩ := z_re (L := []) hP hD
  refine lv_if_ne (tgt := 14) hx hb dX11_image_9 (by decide) (fun c_4 => absurd (hk) c_4) (fun _ => ?_)
  refine lv_iconst (v := (-1)) hx hb dX11_image_12 (by decide) ?_
  obtain ⟨hP9, hD9⟩ := z_sb (L' := []) hP hD [] (by decide) rfl
  refine W.widen (k := 0) (n := 0) (Nat.le_of_ble_eq_true rfl) (Nat.le_of_ble_eq_true rfl) ?_
  exact W.iret (v := (-1)) hx hb hr (fun t ht hW => ⟨⟨(-1), (), rfl, rfl, by rw [ht]; exact hP9, hD9⟩, hS.F ht⟩) hS.2.2 dX11_image_13
set_option maxHeartbeats 4000000 in
set_option maxRecDepth 100000 in
theorem mX11_back_out (l : Launch) (dC : Nat → ClassId) (dI : Nat → Nat → Nat) (kA : Nat → ClassId) (sz : Nat) (n0 : Nat) (p0 : Int32) (hk : (li p0.toInt64 0 3) = 0) : Met l yX11_back wsX11_back ({ frames := 1, cells := 0, slots := 0, locals := 25 }) (zPc dC dI kA sz [.ref n0, .int p0] []) (va_Qi (fun (r : Int32) (u : Unit) => r = (-1)) (zB dC dI (va_A [] sz) (fun (u : Unit) => [])) (va_A [] sz)) 0 0 (va_A [] sz) := by
  refine Met.ofW (cc := cX11_back) (maxL := 3) (ret := (some .int)) pnX11 rfl ?_
  intro p e s m args below meth c s₁ B hml hv
  obtain ⟨rfl, hsz, hP, hK, hD0⟩ := hv
  have hx := B.exec
  have hb := B.bytes
  have hr := B.returns
  have hts := atoms_spec (ws := wsX11_back) B.pre
  have hown : s.vm.findClass RX11 = some m.cls := findClass_of_methodNamed B.named
  have hlocks := B.notSynchronized
  subst hsz
  have hD := hD0.self (sz := s.heap.size)
  generalize hAe : va_A [] s.heap.size = A at hD ⊢
  have hA : ∀ q : Nat, s.heap.size ≤ q → A q := zA_of hAe
  have hS : va_S A s.heap s.heap [] := va_S.rf
  have hP : va_P (dC, dI) vwCl [] s.heap := hP
  have hl := lv_entry ([.ref n0, .int p0]) (n := 3) (Nat.le_of_ble_eq_true rfl)
  rw [lg_entry_eq]
  generalize (lg_sl ([.ref n0, .int p0]) ++ List.replicate (3 - (lg_sl ([.ref n0, .int p0])).length) Slot.unset).toArray = ls at hl ⊢
  have hl : lv_has ls 3 [(0, .ref n0), (1, .int p0)] := hl
  refine lv_iload_n hx hb dX11_back_0 rfl (lv_at hl 1 rfl) ?_
  refine lv_i2l hx hb dX11_back_1 rfl ?_
  refine lv_lconst (v := 0) hx hb dX11_back_2 (by decide) ?_
  refine lv_ldc2 hx hb hown (kX11_back_1 hts) dX11_back_3 ?_
  refine z_i (wr := []) (va_runS (As := [.long p0.toInt64, .long 0, .long 3]) (rest := []) ⟨hx, hb, hml, hown, hts⟩ (mX11_in l dC dI kA _ p0.toInt64 0 3) (va_cwS 3 hts gX11_back_X11_in rfl rfl rfl hdX11_in ⟨(Nat.le_of_ble_eq_true rfl), (Nat.le_of_ble_eq_true rfl)⟩) ⟨zPc.blind, zPre hK (hP.sub [] rfl) (hD.sub [] (by decide) rfl)⟩ rfl rfl hl.1 rfl (lv_room (Nat.le_of_ble_eq_true rfl)) dX11_back_6 ⟨(Nat.le_of_ble_eq_true rfl), (Nat.le_of_ble_eq_true rfl)⟩) hP hD hS hA [] [] rfl rfl (by decide) (by decide) (fun r3 u1 H locs hw2 hP hD hS => ?_)
  obtain rfl := hw2
  obtain ⟨hP, hD⟩ := z_re (L := []) hP hD
  refine lv_if_eq (tgt := 21) hx hb dX11_back_9 (by decide) (fun _ => ?_) (fun c_4 => absurd (hk) c_4)
  refine lv_iconst (v := (-1)) hx hb dX11_back_21 (by decide) ?_
  obtain ⟨hP9, hD9⟩ := z_sb (L' := []) hP hD [] (by decide) rfl
  refine W.widen (k := 0) (n := 0) (Nat.le_of_ble_eq_true rfl) (Nat.le_of_ble_eq_true rfl) ?_
  exact W.iret (v := (-1)) hx hb hr (fun t ht hW => ⟨⟨(-1), (), rfl, rfl, by rw [ht]; exact hP9, hD9⟩, hS.F ht⟩) hS.2.2 dX11_back_22
theorem gl_mX11_image_in_0 (p0 : Int32) (l23_1 : Int32) (h0 : ¬ p0 < 0) (h1 : ¬ 3 < p0) (h2 : ¬ l23_1 < 0) (h3 : ¬ 360 ≤ l23_1) : (¬ ((360 * p0) + l23_1) < 0 ∧ ¬ 1440 ≤ ((360 * p0) + l23_1)) := by grind
set_option maxRecDepth 100000 in
def fb_mX11_image_in_23 (saidF : Nat → Int32) (p0 : Int32) (E54 : (Nat → Int32) → Int32 → ((Nat → Int32) × (Nat → Int32) × Int32)) (K : (Nat → Int32) → Int32 → ((Nat → Int32) × (Nat → Int32) × Int32)) (g23_0 : Nat → Int32) (l23_1 : Int32) : (Nat → Int32) × (Nat → Int32) × Int32 := if 360 ≤ l23_1 then (E54 g23_0 l23_1) else (bnd (saidF l23_1.toNatClampNeg) (fun (xy23_2 : Int32) => bnd ((upd g23_0 ((360 * p0) + l23_1).toNatClampNeg xy23_2)) (fun (fy23_3 : Nat → Int32) => bnd ((l23_1 + 1)) (fun (xy23_5 : Int32) => K fy23_3 xy23_5))))
def fl_mX11_image_in_23 (saidF : Nat → Int32) (p0 : Int32) (E54 : (Nat → Int32) → Int32 → ((Nat → Int32) × (Nat → Int32) × Int32)) : Nat → (Nat → Int32) → Int32 → ((Nat → Int32) × (Nat → Int32) × Int32)
  | 0, _, _ => ((fun _ => 0), (fun _ => 0), 0)
  | n + 1, g23_0, l23_1 => fb_mX11_image_in_23 saidF p0 E54 (fl_mX11_image_in_23 saidF p0 E54 n) g23_0 l23_1
set_option maxHeartbeats 4000000 in
set_option maxRecDepth 100000 in
theorem lp_mX11_image_in_23 {p : Program} {l : Launch} {e : Env} {R : Room} {s : State} {m : MethodId} {args : Array Value} {below : List Frame} {meth : Method} {c : Code} {Q : State → Prop} {dC : Nat → ClassId} {dI : Nat → Nat → Nat} {kA : Nat → ClassId} {A : Nat → Prop} {H0 : Heap} {cells slots : Nat} (hx : p.tables.exec = Jvm.exec) (hb : c.code = cX11_image) (hml : c.maxLocals = 3) (hts : ∀ w ∈ wsX11_image, w.before args s = true) (hown : s.vm.findClass RX11 = some m.cls) (hK : zK dC dI kA s) (hA : ∀ q, H0.size ≤ q → A q) (hRf : 0 ≤ R.frames) (hRl : 0 ≤ R.locals) (hRc : cells ≤ R.cells) (hRs : slots ≤ R.slots) (n0 : Nat) (m_taped : Int32) (m_laws : Int32) (m_next : Int32) (m_wrong : Int32) (m_number : Int32) (m_text : Int32) (m_made : Int32) (m_deep : Int32) (m_lines : Int32) (m_opened : Int32) (m_top : Int32) (m_goNode : Int32) (m_goDrops : Int32) (m_goHour : Int32) (m_goFelt : Int32) (m_goSalt : Int32) (m_goMore : Int32) (m_bestLeft : Int32) (m_bestHour : Int32) (m_bestMany : Int32) (a_tape : Nat) (a_sign : Nat) (a_length : Nat) (a_clause : Nat) (a_clauses : Nat) (a_chain : Nat) (a_open : Nat) (a_stack : Nat) (a_word : Nat) (a_said : Nat) (a_kept : Nat) (a_stepNode : Nat) (a_stepDrops : Nat) (a_stepHour : Nat) (a_stepNext : Nat) (a_stepPass : Nat) (a_bestPass : Nat) (a_far : Nat) (a_waited : Nat) (a_servers : Nat) (a_images : Nat) (a_isMade : Nat) (saidF : Nat → Int32) (p0 : Int32) (f5 : Nat → Int32) (imagesF : Nat → Int32) {G : (Nat → Int32) × (Nat → Int32) × Int32} {E54 : (Nat → Int32) → Int32 → ((Nat → Int32) × (Nat → Int32) × Int32)} (hk : ¬ (li p0.toInt64 0 3) = 0) (hk0 : ¬ p0 < 0) (hk3 : ¬ 3 < p0) (k54 : ∀ (w54_0 : Nat → Int32) (w54_1 : Int32) (H : Heap) (locs : List Loc) (ls : Array Slot), ¬ w54_1 < 0 → IMP saidF imagesF w54_0 p0 w54_1 → 360 ≤ w54_1 → E54 w54_0 w54_1 = G → va_P (dC, dI) vwCl [(n0, .inr (11, .ref a_tape :: .int m_taped :: .int m_laws :: .ref a_sign :: .ref a_length :: .ref a_clause :: .ref a_clauses :: .ref a_chain :: .int m_next :: .int m_wrong :: .int m_number :: .int m_text :: .int m_made :: .int m_deep :: .int m_lines :: .ref a_open :: .int m_opened :: .ref a_stack :: .int m_top :: .ref a_word :: .ref a_said :: .ref a_kept :: [.int m_goNode, .int m_goDrops, .int m_goHour, .int m_goFelt, .int m_goSalt, .int m_goMore, .ref a_stepNode, .ref a_stepDrops, .ref a_stepHour, .ref a_stepNext, .ref a_stepPass, .int m_bestLeft, .int m_bestHour, .int m_bestMany, .ref a_bestPass, .ref a_far, .ref a_waited, .ref a_servers, .ref a_images, .ref a_isMade])), (a_said, .inl (kA 0, 360, .inl saidF)), (a_images, .inl (kA 0, 1440, .inl w54_0)), (a_isMade, .inl (kA 3, 4, .inl f5))] H → va_D A [(n0, .inr (11, .ref a_tape :: .int m_taped :: .int m_laws :: .ref a_sign :: .ref a_length :: .ref a_clause :: .ref a_clauses :: .ref a_chain :: .int m_next :: .int m_wrong :: .int m_number :: .int m_text :: .int m_made :: .int m_deep :: .int m_lines :: .ref a_open :: .int m_opened :: .ref a_stack :: .int m_top :: .ref a_word :: .ref a_said :: .ref a_kept :: [.int m_goNode, .int m_goDrops, .int m_goHour, .int m_goFelt, .int m_goSalt, .int m_goMore, .ref a_stepNode, .ref a_stepDrops, .ref a_stepHour, .ref a_stepNext, .ref a_stepPass, .int m_bestLeft, .int m_bestHour, .int m_bestMany, .ref a_bestPass, .ref a_far, .ref a_waited, .ref a_servers, .ref a_images, .ref a_isMade])), (a_said, .inl (kA 0, 360, .inl saidF)), (a_images, .inl (kA 0, 1440, .inl w54_0)), (a_isMade, .inl (kA 3, 4, .inl f5))] → va_S A H0 H locs → lv_has ls 3 [(2, .int w54_1), (0, .ref n0), (1, .int p0)] → W p l e R s m args below meth c H locs cells slots Q (F0 m 54 ls []))  : ∀ (n : Nat) (g23_0 : Nat → Int32) (l23_1 : Int32) (H : Heap) (locs : List Loc) (ls : Array Slot), ((360 : Int32).toInt - l23_1.toInt).toNat < n → fl_mX11_image_in_23 saidF p0 E54 n g23_0 l23_1 = G → ¬ l23_1 < 0 → IMP saidF imagesF g23_0 p0 l23_1 → va_P (dC, dI) vwCl [(n0, .inr (11, .ref a_tape :: .int m_taped :: .int m_laws :: .ref a_sign :: .ref a_length :: .ref a_clause :: .ref a_clauses :: .ref a_chain :: .int m_next :: .int m_wrong :: .int m_number :: .int m_text :: .int m_made :: .int m_deep :: .int m_lines :: .ref a_open :: .int m_opened :: .ref a_stack :: .int m_top :: .ref a_word :: .ref a_said :: .ref a_kept :: [.int m_goNode, .int m_goDrops, .int m_goHour, .int m_goFelt, .int m_goSalt, .int m_goMore, .ref a_stepNode, .ref a_stepDrops, .ref a_stepHour, .ref a_stepNext, .ref a_stepPass, .int m_bestLeft, .int m_bestHour, .int m_bestMany, .ref a_bestPass, .ref a_far, .ref a_waited, .ref a_servers, .ref a_images, .ref a_isMade])), (a_said, .inl (kA 0, 360, .inl saidF)), (a_images, .inl (kA 0, 1440, .inl g23_0)), (a_isMade, .inl (kA 3, 4, .inl f5))] H → va_D A [(n0, .inr (11, .ref a_tape :: .int m_taped :: .int m_laws :: .ref a_sign :: .ref a_length :: .ref a_clause :: .ref a_clauses :: .ref a_chain :: .int m_next :: .int m_wrong :: .int m_number :: .int m_text :: .int m_made :: .int m_deep :: .int m_lines :: .ref a_open :: .int m_opened :: .ref a_stack :: .int m_top :: .ref a_word :: .ref a_said :: .ref a_kept :: [.int m_goNode, .int m_goDrops, .int m_goHour, .int m_goFelt, .int m_goSalt, .int m_goMore, .ref a_stepNode, .ref a_stepDrops, .ref a_stepHour, .ref a_stepNext, .ref a_stepPass, .int m_bestLeft, .int m_bestHour, .int m_bestMany, .ref a_bestPass, .ref a_far, .ref a_waited, .ref a_servers, .ref a_images, .ref a_isMade])), (a_said, .inl (kA 0, 360, .inl saidF)), (a_images, .inl (kA 0, 1440, .inl g23_0)), (a_isMade, .inl (kA 3, 4, .inl f5))] → va_S A H0 H locs → lv_has ls 3 [(2, .int l23_1), (0, .ref n0), (1, .int p0)] → W p l e R s m args below meth c H locs cells slots Q (F0 m 23 ls []) := by
  intro n
  induction n with
  | zero =>
    intro g23_0 l23_1 H locs ls hn
    exact absurd hn (Nat.not_lt_zero _)
  | succ n ih =>
    intro g23_0 l23_1 H locs ls hn hG hi23 him hP hD hS hl
    have hG : fb_mX11_image_in_23 saidF p0 E54 (fl_mX11_image_in_23 saidF p0 E54 n) g23_0 l23_1 = G := hG
    unfold fb_mX11_image_in_23 at hG
    refine lv_iload_n hx hb dX11_image_23 rfl (lv_at hl 0 rfl) ?_
    refine lv_sipush (v := 360) hx hb dX11_image_24 (by decide) ?_
    refine lv_icmp_ge (tgt := 54) hx hb dX11_image_27 (by decide) (fun c_y23_1 => ?_) (fun c_y23_1 => ?_)
    · have hG := zthen hG c_y23_1
      exact k54 g23_0 l23_1 H locs ls hi23 him c_y23_1 hG (hP.sub [0, 1, 2, 3] rfl) (hD.sub [0, 1, 2, 3] (by decide) rfl) hS (lv_sub hl [0, 1, 2] rfl)
    · have hG := zelse hG c_y23_1
      refine lv_aload_n hx hb dX11_image_30 rfl (lv_at hl 1 rfl) ?_
      refine va_get (D := (dC, dI)) (ci := 11) (v := .ref a_images) (C := RX11) (T := TX11) (N := 42) hx hb hts iX11_image_X11 hown hK.1 hP 0 gz0 vcz11 40 (by decide) (kX11_image_3 hts) (fun _ h9 => h9) gz40 dX11_image_31 ?_
      refine lv_sipush (v := 360) hx hb dX11_image_34 (by decide) ?_
      refine lv_iload_n hx hb dX11_image_37 rfl (lv_at hl 2 rfl) ?_
      refine lv_imul hx hb dX11_image_38 ?_
      refine lv_iload_n hx hb dX11_image_39 rfl (lv_at hl 0 rfl) ?_
      refine lv_iadd hx hb dX11_image_40 ?_
      refine lv_aload_n hx hb dX11_image_41 rfl (lv_at hl 1 rfl) ?_
      refine va_get (D := (dC, dI)) (ci := 11) (v := .ref a_said) (C := RX11) (T := TX11) (N := 42) hx hb hts iX11_image_X11 hown hK.1 hP 0 gz0 vcz11 20 (by decide) (kX11_image_4 hts) (fun _ h9 => h9) gz20 dX11_image_42 ?_
      refine lv_iload_n hx hb dX11_image_45 rfl (lv_at hl 0 rfl) ?_
      refine va_iald hx hb hK.1 hP 1 0 gz1 tzz0 (vp_lt (by decide) hi23 c_y23_1) dX11_image_46 ?_
      refine lv_topi (fun xy23_2 exy23_2 => ?_)
      have hG := zbnd hG exy23_2
      refine va_iast hx hb hK.1 hP hD hS 2 0 gz2 tzz0 (vp_g (N := 1440) (by decide) (gl_mX11_image_in_0 p0 l23_1 hk0 hk3 hi23 c_y23_1)) dX11_image_47 (fun H locs hP hD hS => ?_)
      obtain ⟨hP, hD⟩ := z_re (L := [(n0, .inr (11, .ref a_tape :: .int m_taped :: .int m_laws :: .ref a_sign :: .ref a_length :: .ref a_clause :: .ref a_clauses :: .ref a_chain :: .int m_next :: .int m_wrong :: .int m_number :: .int m_text :: .int m_made :: .int m_deep :: .int m_lines :: .ref a_open :: .int m_opened :: .ref a_stack :: .int m_top :: .ref a_word :: .ref a_said :: .ref a_kept :: [.int m_goNode, .int m_goDrops, .int m_goHour, .int m_goFelt, .int m_goSalt, .int m_goMore, .ref a_stepNode, .ref a_stepDrops, .ref a_stepHour, .ref a_stepNext, .ref a_stepPass, .int m_bestLeft, .int m_bestHour, .int m_bestMany, .ref a_bestPass, .ref a_far, .ref a_waited, .ref a_servers, .ref a_images, .ref a_isMade])), (a_said, .inl (kA 0, 360, .inl saidF)), (a_images, .inl (kA 0, 1440, .inl (upd g23_0 ((360 * p0) + l23_1).toNatClampNeg xy23_2))), (a_isMade, .inl (kA 3, 4, .inl f5))]) hP hD
      obtain ⟨fy23_3, efy23_3⟩ : ∃ y : Nat → Int32, y = (upd g23_0 ((360 * p0) + l23_1).toNatClampNeg xy23_2) := ⟨_, rfl⟩
      rw [← efy23_3] at hP hD
      have hG := zbnd hG efy23_3
      have huy23_4 := upd_at efy23_3
      obtain ⟨xy23_5, exy23_5⟩ : ∃ y : Int32, y = l23_1 + 1 := ⟨_, rfl⟩
      have hG := zbnd hG exy23_5
      refine lv_iinc (v := xy23_5) (lv' := [(2, .int xy23_5), (0, .ref n0), (1, .int p0)]) hx hb dX11_image_48 hl (k := 0) rfl (by rw [exy23_5]; rfl) (by decide) rfl (fun ls hl => ?_)
      refine lv_goto (tgt := 23) hx hb dX11_image_51 (by decide) ?_
      exact ih fy23_3 xy23_5 H locs ls (z_up hn exy23_5 c_y23_1) hG (z_nn exy23_5 c_y23_1 hi23) (IMP_s him hk0 hk3 hi23 c_y23_1 exy23_2 efy23_3 exy23_5) (hP.sub [0, 1, 2, 3] rfl) (hD.sub [0, 1, 2, 3] (by decide) rfl) hS (lv_sub hl [0, 1, 2] rfl)
set_option maxRecDepth 100000 in
def fX11_image_in (saidF : Nat → Int32) (imagesF : Nat → Int32) (isMadeF : Nat → Int32) (p0 : Int32) : (Nat → Int32) × (Nat → Int32) × Int32 := bnd ((upd isMadeF p0.toNatClampNeg (vp_nar .boolean 1))) (fun (f5 : Nat → Int32) => fl_mX11_image_in_23 saidF p0 (fun (w54_0_0 : Nat → Int32) (w54_1_0 : Int32) => (w54_0_0, f5, (saidF 5))) (((360 : Int32).toInt - (0 : Int32).toInt).toNat + 1) imagesF 0)
set_option maxHeartbeats 4000000 in
set_option maxRecDepth 100000 in
theorem mX11_image_in (l : Launch) (dC : Nat → ClassId) (dI : Nat → Nat → Nat) (kA : Nat → ClassId) (sz : Nat) (n0 : Nat) (m_taped : Int32) (m_laws : Int32) (m_next : Int32) (m_wrong : Int32) (m_number : Int32) (m_text : Int32) (m_made : Int32) (m_deep : Int32) (m_lines : Int32) (m_opened : Int32) (m_top : Int32) (m_goNode : Int32) (m_goDrops : Int32) (m_goHour : Int32) (m_goFelt : Int32) (m_goSalt : Int32) (m_goMore : Int32) (m_bestLeft : Int32) (m_bestHour : Int32) (m_bestMany : Int32) (a_tape : Nat) (a_sign : Nat) (a_length : Nat) (a_clause : Nat) (a_clauses : Nat) (a_chain : Nat) (a_open : Nat) (a_stack : Nat) (a_word : Nat) (a_said : Nat) (a_kept : Nat) (a_stepNode : Nat) (a_stepDrops : Nat) (a_stepHour : Nat) (a_stepNext : Nat) (a_stepPass : Nat) (a_bestPass : Nat) (a_far : Nat) (a_waited : Nat) (a_servers : Nat) (a_images : Nat) (a_isMade : Nat) (saidF : Nat → Int32) (imagesF : Nat → Int32) (isMadeF : Nat → Int32) (p0 : Int32) (hk : ¬ (li p0.toInt64 0 3) = 0) : Met l yX11_image wsX11_image ({ frames := 1, cells := 0, slots := 0, locals := 25 }) (zPc dC dI kA sz [.ref n0, .int p0] [(n0, .inr (11, .ref a_tape :: .int m_taped :: .int m_laws :: .ref a_sign :: .ref a_length :: .ref a_clause :: .ref a_clauses :: .ref a_chain :: .int m_next :: .int m_wrong :: .int m_number :: .int m_text :: .int m_made :: .int m_deep :: .int m_lines :: .ref a_open :: .int m_opened :: .ref a_stack :: .int m_top :: .ref a_word :: .ref a_said :: .ref a_kept :: [.int m_goNode, .int m_goDrops, .int m_goHour, .int m_goFelt, .int m_goSalt, .int m_goMore, .ref a_stepNode, .ref a_stepDrops, .ref a_stepHour, .ref a_stepNext, .ref a_stepPass, .int m_bestLeft, .int m_bestHour, .int m_bestMany, .ref a_bestPass, .ref a_far, .ref a_waited, .ref a_servers, .ref a_images, .ref a_isMade])), (a_said, .inl (kA 0, 360, .inl saidF)), (a_images, .inl (kA 0, 1440, .inl imagesF)), (a_isMade, .inl (kA 3, 4, .inl isMadeF))]) (va_Qi (fun (r : Int32) (u : (Nat → Int32) × (Nat → Int32) × Int32) => r = u.2.2 ∧ (u.1, u.2.1, u.2.2) = fX11_image_in saidF imagesF isMadeF p0 ∧ IM saidF imagesF u.1 p0 ∧ MD isMadeF u.2.1 p0) (zB dC dI (va_A [(n0, .inr (11, .ref a_tape :: .int m_taped :: .int m_laws :: .ref a_sign :: .ref a_length :: .ref a_clause :: .ref a_clauses :: .ref a_chain :: .int m_next :: .int m_wrong :: .int m_number :: .int m_text :: .int m_made :: .int m_deep :: .int m_lines :: .ref a_open :: .int m_opened :: .ref a_stack :: .int m_top :: .ref a_word :: .ref a_said :: .ref a_kept :: [.int m_goNode, .int m_goDrops, .int m_goHour, .int m_goFelt, .int m_goSalt, .int m_goMore, .ref a_stepNode, .ref a_stepDrops, .ref a_stepHour, .ref a_stepNext, .ref a_stepPass, .int m_bestLeft, .int m_bestHour, .int m_bestMany, .ref a_bestPass, .ref a_far, .ref a_waited, .ref a_servers, .ref a_images, .ref a_isMade])), (a_said, .inl (kA 0, 360, .inl saidF)), (a_images, .inl (kA 0, 1440, .inl imagesF)), (a_isMade, .inl (kA 3, 4, .inl isMadeF))] sz) (fun (u : (Nat → Int32) × (Nat → Int32) × Int32) => [(n0, .inr (11, .ref a_tape :: .int m_taped :: .int m_laws :: .ref a_sign :: .ref a_length :: .ref a_clause :: .ref a_clauses :: .ref a_chain :: .int m_next :: .int m_wrong :: .int m_number :: .int m_text :: .int m_made :: .int m_deep :: .int m_lines :: .ref a_open :: .int m_opened :: .ref a_stack :: .int m_top :: .ref a_word :: .ref a_said :: .ref a_kept :: [.int m_goNode, .int m_goDrops, .int m_goHour, .int m_goFelt, .int m_goSalt, .int m_goMore, .ref a_stepNode, .ref a_stepDrops, .ref a_stepHour, .ref a_stepNext, .ref a_stepPass, .int m_bestLeft, .int m_bestHour, .int m_bestMany, .ref a_bestPass, .ref a_far, .ref a_waited, .ref a_servers, .ref a_images, .ref a_isMade])), (a_said, .inl (kA 0, 360, .inl saidF)), (a_images, .inl (kA 0, 1440, .inl u.1)), (a_isMade, .inl (kA 3, 4, .inl u.2.1))])) (va_A [(n0, .inr (11, .ref a_tape :: .int m_taped :: .int m_laws :: .ref a_sign :: .ref a_length :: .ref a_clause :: .ref a_clauses :: .ref a_chain :: .int m_next :: .int m_wrong :: .int m_number :: .int m_text :: .int m_made :: .int m_deep :: .int m_lines :: .ref a_open :: .int m_opened :: .ref a_stack :: .int m_top :: .ref a_word :: .ref a_said :: .ref a_kept :: [.int m_goNode, .int m_goDrops, .int m_goHour, .int m_goFelt, .int m_goSalt, .int m_goMore, .ref a_stepNode, .ref a_stepDrops, .ref a_stepHour, .ref a_stepNext, .ref a_stepPass, .int m_bestLeft, .int m_bestHour, .int m_bestMany, .ref a_bestPass, .ref a_far, .ref a_waited, .ref a_servers, .ref a_images, .ref a_isMade])), (a_said, .inl (kA 0, 360, .inl saidF)), (a_images, .inl (kA 0, 1440, .inl imagesF)), (a_isMade, .inl (kA 3, 4, .inl isMadeF))] sz)) 0 0 (va_A [(n0, .inr (11, .ref a_tape :: .int m_taped :: .int m_laws :: .ref a_sign :: .ref a_length :: .ref a_clause :: .ref a_clauses :: .ref a_chain :: .int m_next :: .int m_wrong :: .int m_number :: .int m_text :: .int m_made :: .int m_deep :: .int m_lines :: .ref a_open :: .int m_opened :: .ref a_stack :: .int m_top :: .ref a_word :: .ref a_said :: .ref a_kept :: [.int m_goNode, .int m_goDrops, .int m_goHour, .int m_goFelt, .int m_goSalt, .int m_goMore, .ref a_stepNode, .ref a_stepDrops, .ref a_stepHour, .ref a_stepNext, .ref a_stepPass, .int m_bestLeft, .int m_bestHour, .int m_bestMany, .ref a_bestPass, .ref a_far, .ref a_waited, .ref a_servers, .ref a_images, .ref a_isMade])), (a_said, .inl (kA 0, 360, .inl saidF)), (a_images, .inl (kA 0, 1440, .inl imagesF)), (a_isMade, .inl (kA 3, 4, .inl isMadeF))] sz) := by
  refine Met.ofW (cc := cX11_image) (maxL := 3) (ret := (some .int)) pnX11 rfl ?_
  intro p e s m args below meth c s₁ B hml hv
  obtain ⟨rfl, hsz, hP, hK, hD0⟩ := hv
  have hx := B.exec
  have hb := B.bytes
  have hr := B.returns
  have hts := atoms_spec (ws := wsX11_image) B.pre
  have hown : s.vm.findClass RX11 = some m.cls := findClass_of_methodNamed B.named
  have hlocks := B.notSynchronized
  subst hsz
  have hD := hD0.self (sz := s.heap.size)
  generalize hAe : va_A [(n0, .inr (11, .ref a_tape :: .int m_taped :: .int m_laws :: .ref a_sign :: .ref a_length :: .ref a_clause :: .ref a_clauses :: .ref a_chain :: .int m_next :: .int m_wrong :: .int m_number :: .int m_text :: .int m_made :: .int m_deep :: .int m_lines :: .ref a_open :: .int m_opened :: .ref a_stack :: .int m_top :: .ref a_word :: .ref a_said :: .ref a_kept :: [.int m_goNode, .int m_goDrops, .int m_goHour, .int m_goFelt, .int m_goSalt, .int m_goMore, .ref a_stepNode, .ref a_stepDrops, .ref a_stepHour, .ref a_stepNext, .ref a_stepPass, .int m_bestLeft, .int m_bestHour, .int m_bestMany, .ref a_bestPass, .ref a_far, .ref a_waited, .ref a_servers, .ref a_images, .ref a_isMade])), (a_said, .inl (kA 0, 360, .inl saidF)), (a_images, .inl (kA 0, 1440, .inl imagesF)), (a_isMade, .inl (kA 3, 4, .inl isMadeF))] s.heap.size = A at hD ⊢
  have hA : ∀ q : Nat, s.heap.size ≤ q → A q := zA_of hAe
  have hS : va_S A s.heap s.heap [] := va_S.rf
  have hP : va_P (dC, dI) vwCl [(n0, .inr (11, .ref a_tape :: .int m_taped :: .int m_laws :: .ref a_sign :: .ref a_length :: .ref a_clause :: .ref a_clauses :: .ref a_chain :: .int m_next :: .int m_wrong :: .int m_number :: .int m_text :: .int m_made :: .int m_deep :: .int m_lines :: .ref a_open :: .int m_opened :: .ref a_stack :: .int m_top :: .ref a_word :: .ref a_said :: .ref a_kept :: [.int m_goNode, .int m_goDrops, .int m_goHour, .int m_goFelt, .int m_goSalt, .int m_goMore, .ref a_stepNode, .ref a_stepDrops, .ref a_stepHour, .ref a_stepNext, .ref a_stepPass, .int m_bestLeft, .int m_bestHour, .int m_bestMany, .ref a_bestPass, .ref a_far, .ref a_waited, .ref a_servers, .ref a_images, .ref a_isMade])), (a_said, .inl (kA 0, 360, .inl saidF)), (a_images, .inl (kA 0, 1440, .inl imagesF)), (a_isMade, .inl (kA 3, 4, .inl isMadeF))] s.heap := hP
  have hl := lv_entry ([.ref n0, .int p0]) (n := 3) (Nat.le_of_ble_eq_true rfl)
  rw [lg_entry_eq]
  generalize (lg_sl ([.ref n0, .int p0]) ++ List.replicate (3 - (lg_sl ([.ref n0, .int p0])).length) Slot.unset).toArray = ls at hl ⊢
  have hl : lv_has ls 3 [(0, .ref n0), (1, .int p0)] := hl
  obtain ⟨H, hHe⟩ : ∃ H : Heap, H = s.heap := ⟨_, rfl⟩
  have hk0 : ¬ p0 < 0 := (li_ne (n := p0) (lo := 0) (hi := 3) (by decide) (by decide) hk).1
  have hk3 : ¬ 3 < p0 := (li_ne (n := p0) (lo := 0) (hi := 3) (by decide) (by decide) hk).2
  obtain ⟨G, hG0⟩ : ∃ G : (Nat → Int32) × (Nat → Int32) × Int32, fX11_image_in saidF imagesF isMadeF p0 = G := ⟨_, rfl⟩
  have hG := hG0
  unfold fX11_image_in at hG
  refine lv_iload_n hx hb dX11_image_0 rfl (lv_at hl 1 rfl) ?_
  refine lv_i2l hx hb dX11_image_1 rfl ?_
  refine lv_lconst (v := 0) hx hb dX11_image_2 (by decide) ?_
  refine lv_ldc2 hx hb hown (kX11_image_1 hts) dX11_image_3 ?_
  refine z_i (wr := [(n0, .inr (11, .ref a_tape :: .int m_taped :: .int m_laws :: .ref a_sign :: .ref a_length :: .ref a_clause :: .ref a_clauses :: .ref a_chain :: .int m_next :: .int m_wrong :: .int m_number :: .int m_text :: .int m_made :: .int m_deep :: .int m_lines :: .ref a_open :: .int m_opened :: .ref a_stack :: .int m_top :: .ref a_word :: .ref a_said :: .ref a_kept :: [.int m_goNode, .int m_goDrops, .int m_goHour, .int m_goFelt, .int m_goSalt, .int m_goMore, .ref a_stepNode, .ref a_stepDrops, .ref a_stepHour, .ref a_stepNext, .ref a_stepPass, .int m_bestLeft, .int m_bestHour, .int m_bestMany, .ref a_bestPass, .ref a_far, .ref a_waited, .ref a_servers, .ref a_images, .ref a_isMade])), (a_said, .inl (kA 0, 360, .inl saidF)), (a_images, .inl (kA 0, 1440, .inl imagesF)), (a_isMade, .inl (kA 3, 4, .inl isMadeF))]) (va_runS (As := [.long p0.toInt64, .long 0, .long 3]) (rest := []) ⟨hx, hb, hml, hown, hts⟩ (mX11_in l dC dI kA _ p0.toInt64 0 3) (va_cwS 3 hts gX11_image_X11_in rfl rfl rfl hdX11_in ⟨(Nat.le_of_ble_eq_true rfl), (Nat.le_of_ble_eq_true rfl)⟩) ⟨zPc.blind, zPre hK (hP.sub [] rfl) (hD.sub [] (by decide) rfl)⟩ rfl rfl hl.1 rfl (lv_room (Nat.le_of_ble_eq_true rfl)) dX11_image_6 ⟨(Nat.le_of_ble_eq_true rfl), (Nat.le_of_ble_eq_true rfl)⟩) hP hD hS hA [] [0, 1, 2, 3] rfl rfl (by decide) (by decide) (fun r3 u1 H locs hw2 hP hD hS => ?_)
  obtain rfl := hw2
  obtain ⟨hP, hD⟩ := z_re (L := [(n0, .inr (11, .ref a_tape :: .int m_taped :: .int m_laws :: .ref a_sign :: .ref a_length :: .ref a_clause :: .ref a_clauses :: .ref a_chain :: .int m_next :: .int m_wrong :: .int m_number :: .int m_text :: .int m_made :: .int m_deep :: .int m_lines :: .ref a_open :: .int m_opened :: .ref a_stack :: .int m_top :: .ref a_word :: .ref a_said :: .ref a_kept :: [.int m_goNode, .int m_goDrops, .int m_goHour, .int m_goFelt, .int m_goSalt, .int m_goMore, .ref a_stepNode, .ref a_stepDrops, .ref a_stepHour, .ref a_stepNext, .ref a_stepPass, .int m_bestLeft, .int m_bestHour, .int m_bestMany, .ref a_bestPass, .ref a_far, .ref a_waited, .ref a_servers, .ref a_images, .ref a_isMade])), (a_said, .inl (kA 0, 360, .inl saidF)), (a_images, .inl (kA 0, 1440, .inl imagesF)), (a_isMade, .inl (kA 3, 4, .inl isMadeF))]) hP hD
  refine lv_if_ne (tgt := 14) hx hb dX11_image_9 (by decide) (fun _ => ?_) (fun c_4 => absurd c_4 (hk))
  refine lv_aload_n hx hb dX11_image_14 rfl (lv_at hl 0 rfl) ?_
  refine va_get (D := (dC, dI)) (ci := 11) (v := .ref a_isMade) (C := RX11) (T := TX11) (N := 42) hx hb hts iX11_image_X11 hown hK.1 hP 0 gz0 vcz11 41 (by decide) (kX11_image_2 hts) (fun _ h9 => h9) gz41 dX11_image_15 ?_
  refine lv_iload_n hx hb dX11_image_18 rfl (lv_at hl 1 rfl) ?_
  refine lv_iconst (v := 1) hx hb dX11_image_19 (by decide) ?_
  refine va_zast hx hb hK.1 hP hD hS 3 3 gz3 tzz3 (vp_le (by decide) hk0 hk3) dX11_image_20 (fun H locs hP hD hS => ?_)
  obtain ⟨hP, hD⟩ := z_re (L := [(n0, .inr (11, .ref a_tape :: .int m_taped :: .int m_laws :: .ref a_sign :: .ref a_length :: .ref a_clause :: .ref a_clauses :: .ref a_chain :: .int m_next :: .int m_wrong :: .int m_number :: .int m_text :: .int m_made :: .int m_deep :: .int m_lines :: .ref a_open :: .int m_opened :: .ref a_stack :: .int m_top :: .ref a_word :: .ref a_said :: .ref a_kept :: [.int m_goNode, .int m_goDrops, .int m_goHour, .int m_goFelt, .int m_goSalt, .int m_goMore, .ref a_stepNode, .ref a_stepDrops, .ref a_stepHour, .ref a_stepNext, .ref a_stepPass, .int m_bestLeft, .int m_bestHour, .int m_bestMany, .ref a_bestPass, .ref a_far, .ref a_waited, .ref a_servers, .ref a_images, .ref a_isMade])), (a_said, .inl (kA 0, 360, .inl saidF)), (a_images, .inl (kA 0, 1440, .inl imagesF)), (a_isMade, .inl (kA 3, 4, .inl (upd isMadeF p0.toNatClampNeg (vp_nar .boolean 1))))]) hP hD
  obtain ⟨f5, ef5⟩ : ∃ y : Nat → Int32, y = (upd isMadeF p0.toNatClampNeg (vp_nar .boolean 1)) := ⟨_, rfl⟩
  rw [← ef5] at hP hD
  have hG := zbnd hG ef5
  have hu6 := upd_at ef5
  refine lv_iconst (v := 0) hx hb dX11_image_21 (by decide) ?_
  refine lv_istore_n (lv' := [(2, .int 0), (0, .ref n0), (1, .int p0)]) hx hb dX11_image_22 rfl hl (by decide) rfl (fun ls hl => ?_)
  refine lp_mX11_image_in_23 hx hb hml hts hown hK hA (Nat.le_of_ble_eq_true rfl) (Nat.le_of_ble_eq_true rfl) (Nat.le_of_ble_eq_true rfl) (Nat.le_of_ble_eq_true rfl) n0 m_taped m_laws m_next m_wrong m_number m_text m_made m_deep m_lines m_opened m_top m_goNode m_goDrops m_goHour m_goFelt m_goSalt m_goMore m_bestLeft m_bestHour m_bestMany a_tape a_sign a_length a_clause a_clauses a_chain a_open a_stack a_word a_said a_kept a_stepNode a_stepDrops a_stepHour a_stepNext a_stepPass a_bestPass a_far a_waited a_servers a_images a_isMade saidF p0 f5 imagesF hk hk0 hk3 (fun w54_0_0 w54_1_0 H locs ls hx54_2_nlt00_0 him_0 hcl_0 hG hP hD hS hl => ?_) _ imagesF 0 _ _ ls (Nat.lt_succ_self _) hG (by decide) (IMP_0 saidF imagesF p0) hP hD hS (lv_sub hl [0, 1, 2] rfl)
  obtain ⟨hP, hD⟩ := z_re (L := [(n0, .inr (11, .ref a_tape :: .int m_taped :: .int m_laws :: .ref a_sign :: .ref a_length :: .ref a_clause :: .ref a_clauses :: .ref a_chain :: .int m_next :: .int m_wrong :: .int m_number :: .int m_text :: .int m_made :: .int m_deep :: .int m_lines :: .ref a_open :: .int m_opened :: .ref a_stack :: .int m_top :: .ref a_word :: .ref a_said :: .ref a_kept :: [.int m_goNode, .int m_goDrops, .int m_goHour, .int m_goFelt, .int m_goSalt, .int m_goMore, .ref a_stepNode, .ref a_stepDrops, .ref a_stepHour, .ref a_stepNext, .ref a_stepPass, .int m_bestLeft, .int m_bestHour, .int m_bestMany, .ref a_bestPass, .ref a_far, .ref a_waited, .ref a_servers, .ref a_images, .ref a_isMade])), (a_said, .inl (kA 0, 360, .inl saidF)), (a_images, .inl (kA 0, 1440, .inl w54_0_0)), (a_isMade, .inl (kA 3, 4, .inl f5))]) hP hD
  refine lv_aload_n hx hb dX11_image_54 rfl (lv_at hl 1 rfl) ?_
  refine va_get (D := (dC, dI)) (ci := 11) (v := .ref a_said) (C := RX11) (T := TX11) (N := 42) hx hb hts iX11_image_X11 hown hK.1 hP 0 gz0 vcz11 20 (by decide) (kX11_image_4 hts) (fun _ h9 => h9) gz20 dX11_image_55 ?_
  refine lv_iconst (v := 5) hx hb dX11_image_58 (by decide) ?_
  refine va_iald hx hb hK.1 hP 1 0 gz1 tzz0 (vpd (by decide)) dX11_image_59 ?_
  refine zi (saidF 5) rfl ?_
  obtain ⟨hP9, hD9⟩ := z_sb (L' := [(n0, .inr (11, .ref a_tape :: .int m_taped :: .int m_laws :: .ref a_sign :: .ref a_length :: .ref a_clause :: .ref a_clauses :: .ref a_chain :: .int m_next :: .int m_wrong :: .int m_number :: .int m_text :: .int m_made :: .int m_deep :: .int m_lines :: .ref a_open :: .int m_opened :: .ref a_stack :: .int m_top :: .ref a_word :: .ref a_said :: .ref a_kept :: [.int m_goNode, .int m_goDrops, .int m_goHour, .int m_goFelt, .int m_goSalt, .int m_goMore, .ref a_stepNode, .ref a_stepDrops, .ref a_stepHour, .ref a_stepNext, .ref a_stepPass, .int m_bestLeft, .int m_bestHour, .int m_bestMany, .ref a_bestPass, .ref a_far, .ref a_waited, .ref a_servers, .ref a_images, .ref a_isMade])), (a_said, .inl (kA 0, 360, .inl saidF)), (a_images, .inl (kA 0, 1440, .inl w54_0_0)), (a_isMade, .inl (kA 3, 4, .inl f5))]) hP hD [0, 1, 2, 3] (by decide) rfl
  refine W.widen (k := 0) (n := 0) (Nat.le_of_ble_eq_true rfl) (Nat.le_of_ble_eq_true rfl) ?_
  exact W.iret (v := (saidF 5)) hx hb hr (fun t ht hW => ⟨⟨(saidF 5), (w54_0_0, f5, (saidF 5)), rfl, ⟨rfl, (hG.trans hG0.symm), (IM_of him_0 hcl_0), (MD_mk ef5)⟩, by rw [ht]; exact hP9, hD9⟩, hS.F ht⟩) hS.2.2 dX11_image_60
set_option maxHeartbeats 4000000 in
set_option maxRecDepth 100000 in
theorem mX11_back_none (l : Launch) (dC : Nat → ClassId) (dI : Nat → Nat → Nat) (kA : Nat → ClassId) (sz : Nat) (n0 : Nat) (m_taped : Int32) (m_laws : Int32) (m_next : Int32) (m_wrong : Int32) (m_number : Int32) (m_text : Int32) (m_made : Int32) (m_deep : Int32) (m_lines : Int32) (m_opened : Int32) (m_top : Int32) (m_goNode : Int32) (m_goDrops : Int32) (m_goHour : Int32) (m_goFelt : Int32) (m_goSalt : Int32) (m_goMore : Int32) (m_bestLeft : Int32) (m_bestHour : Int32) (m_bestMany : Int32) (a_tape : Nat) (a_sign : Nat) (a_length : Nat) (a_clause : Nat) (a_clauses : Nat) (a_chain : Nat) (a_open : Nat) (a_stack : Nat) (a_word : Nat) (a_said : Nat) (a_kept : Nat) (a_stepNode : Nat) (a_stepDrops : Nat) (a_stepHour : Nat) (a_stepNext : Nat) (a_stepPass : Nat) (a_bestPass : Nat) (a_far : Nat) (a_waited : Nat) (a_servers : Nat) (a_images : Nat) (a_isMade : Nat) (isMadeF : Nat → Int32) (p0 : Int32) (hk : ¬ (li p0.toInt64 0 3) = 0) (hm : (isMadeF p0.toNatClampNeg) = 0) : Met l yX11_back wsX11_back ({ frames := 1, cells := 0, slots := 0, locals := 25 }) (zPc dC dI kA sz [.ref n0, .int p0] [(n0, .inr (11, .ref a_tape :: .int m_taped :: .int m_laws :: .ref a_sign :: .ref a_length :: .ref a_clause :: .ref a_clauses :: .ref a_chain :: .int m_next :: .int m_wrong :: .int m_number :: .int m_text :: .int m_made :: .int m_deep :: .int m_lines :: .ref a_open :: .int m_opened :: .ref a_stack :: .int m_top :: .ref a_word :: .ref a_said :: .ref a_kept :: [.int m_goNode, .int m_goDrops, .int m_goHour, .int m_goFelt, .int m_goSalt, .int m_goMore, .ref a_stepNode, .ref a_stepDrops, .ref a_stepHour, .ref a_stepNext, .ref a_stepPass, .int m_bestLeft, .int m_bestHour, .int m_bestMany, .ref a_bestPass, .ref a_far, .ref a_waited, .ref a_servers, .ref a_images, .ref a_isMade])), (a_isMade, .inl (kA 3, 4, .inl isMadeF))]) (va_Qi (fun (r : Int32) (u : Unit) => r = (-1)) (zB dC dI (va_A [(n0, .inr (11, .ref a_tape :: .int m_taped :: .int m_laws :: .ref a_sign :: .ref a_length :: .ref a_clause :: .ref a_clauses :: .ref a_chain :: .int m_next :: .int m_wrong :: .int m_number :: .int m_text :: .int m_made :: .int m_deep :: .int m_lines :: .ref a_open :: .int m_opened :: .ref a_stack :: .int m_top :: .ref a_word :: .ref a_said :: .ref a_kept :: [.int m_goNode, .int m_goDrops, .int m_goHour, .int m_goFelt, .int m_goSalt, .int m_goMore, .ref a_stepNode, .ref a_stepDrops, .ref a_stepHour, .ref a_stepNext, .ref a_stepPass, .int m_bestLeft, .int m_bestHour, .int m_bestMany, .ref a_bestPass, .ref a_far, .ref a_waited, .ref a_servers, .ref a_images, .ref a_isMade])), (a_isMade, .inl (kA 3, 4, .inl isMadeF))] sz) (fun (u : Unit) => [(n0, .inr (11, .ref a_tape :: .int m_taped :: .int m_laws :: .ref a_sign :: .ref a_length :: .ref a_clause :: .ref a_clauses :: .ref a_chain :: .int m_next :: .int m_wrong :: .int m_number :: .int m_text :: .int m_made :: .int m_deep :: .int m_lines :: .ref a_open :: .int m_opened :: .ref a_stack :: .int m_top :: .ref a_word :: .ref a_said :: .ref a_kept :: [.int m_goNode, .int m_goDrops, .int m_goHour, .int m_goFelt, .int m_goSalt, .int m_goMore, .ref a_stepNode, .ref a_stepDrops, .ref a_stepHour, .ref a_stepNext, .ref a_stepPass, .int m_bestLeft, .int m_bestHour, .int m_bestMany, .ref a_bestPass, .ref a_far, .ref a_waited, .ref a_servers, .ref a_images, .ref a_isMade])), (a_isMade, .inl (kA 3, 4, .inl isMadeF))])) (va_A [(n0, .inr (11, .ref a_tape :: .int m_taped :: .int m_laws :: .ref a_sign :: .ref a_length :: .ref a_clause :: .ref a_clauses :: .ref a_chain :: .int m_next :: .int m_wrong :: .int m_number :: .int m_text :: .int m_made :: .int m_deep :: .int m_lines :: .ref a_open :: .int m_opened :: .ref a_stack :: .int m_top :: .ref a_word :: .ref a_said :: .ref a_kept :: [.int m_goNode, .int m_goDrops, .int m_goHour, .int m_goFelt, .int m_goSalt, .int m_goMore, .ref a_stepNode, .ref a_stepDrops, .ref a_stepHour, .ref a_stepNext, .ref a_stepPass, .int m_bestLeft, .int m_bestHour, .int m_bestMany, .ref a_bestPass, .ref a_far, .ref a_waited, .ref a_servers, .ref a_images, .ref a_isMade])), (a_isMade, .inl (kA 3, 4, .inl isMadeF))] sz)) 0 0 (va_A [(n0, .inr (11, .ref a_tape :: .int m_taped :: .int m_laws :: .ref a_sign :: .ref a_length :: .ref a_clause :: .ref a_clauses :: .ref a_chain :: .int m_next :: .int m_wrong :: .int m_number :: .int m_text :: .int m_made :: .int m_deep :: .int m_lines :: .ref a_open :: .int m_opened :: .ref a_stack :: .int m_top :: .ref a_word :: .ref a_said :: .ref a_kept :: [.int m_goNode, .int m_goDrops, .int m_goHour, .int m_goFelt, .int m_goSalt, .int m_goMore, .ref a_stepNode, .ref a_stepDrops, .ref a_stepHour, .ref a_stepNext, .ref a_stepPass, .int m_bestLeft, .int m_bestHour, .int m_bestMany, .ref a_bestPass, .ref a_far, .ref a_waited, .ref a_servers, .ref a_images, .ref a_isMade])), (a_isMade, .inl (kA 3, 4, .inl isMadeF))] sz) := by
  refine Met.ofW (cc := cX11_back) (maxL := 3) (ret := (some .int)) pnX11 rfl ?_
  intro p e s m args below meth c s₁ B hml hv
  obtain ⟨rfl, hsz, hP, hK, hD0⟩ := hv
  have hx := B.exec
  have hb := B.bytes
  have hr := B.returns
  have hts := atoms_spec (ws := wsX11_back) B.pre
  have hown : s.vm.findClass RX11 = some m.cls := findClass_of_methodNamed B.named
  have hlocks := B.notSynchronized
  subst hsz
  have hD := hD0.self (sz := s.heap.size)
  generalize hAe : va_A [(n0, .inr (11, .ref a_tape :: .int m_taped :: .int m_laws :: .ref a_sign :: .ref a_length :: .ref a_clause :: .ref a_clauses :: .ref a_chain :: .int m_next :: .int m_wrong :: .int m_number :: .int m_text :: .int m_made :: .int m_deep :: .int m_lines :: .ref a_open :: .int m_opened :: .ref a_stack :: .int m_top :: .ref a_word :: .ref a_said :: .ref a_kept :: [.int m_goNode, .int m_goDrops, .int m_goHour, .int m_goFelt, .int m_goSalt, .int m_goMore, .ref a_stepNode, .ref a_stepDrops, .ref a_stepHour, .ref a_stepNext, .ref a_stepPass, .int m_bestLeft, .int m_bestHour, .int m_bestMany, .ref a_bestPass, .ref a_far, .ref a_waited, .ref a_servers, .ref a_images, .ref a_isMade])), (a_isMade, .inl (kA 3, 4, .inl isMadeF))] s.heap.size = A at hD ⊢
  have hA : ∀ q : Nat, s.heap.size ≤ q → A q := zA_of hAe
  have hS : va_S A s.heap s.heap [] := va_S.rf
  have hP : va_P (dC, dI) vwCl [(n0, .inr (11, .ref a_tape :: .int m_taped :: .int m_laws :: .ref a_sign :: .ref a_length :: .ref a_clause :: .ref a_clauses :: .ref a_chain :: .int m_next :: .int m_wrong :: .int m_number :: .int m_text :: .int m_made :: .int m_deep :: .int m_lines :: .ref a_open :: .int m_opened :: .ref a_stack :: .int m_top :: .ref a_word :: .ref a_said :: .ref a_kept :: [.int m_goNode, .int m_goDrops, .int m_goHour, .int m_goFelt, .int m_goSalt, .int m_goMore, .ref a_stepNode, .ref a_stepDrops, .ref a_stepHour, .ref a_stepNext, .ref a_stepPass, .int m_bestLeft, .int m_bestHour, .int m_bestMany, .ref a_bestPass, .ref a_far, .ref a_waited, .ref a_servers, .ref a_images, .ref a_isMade])), (a_isMade, .inl (kA 3, 4, .inl isMadeF))] s.heap := hP
  have hl := lv_entry ([.ref n0, .int p0]) (n := 3) (Nat.le_of_ble_eq_true rfl)
  rw [lg_entry_eq]
  generalize (lg_sl ([.ref n0, .int p0]) ++ List.replicate (3 - (lg_sl ([.ref n0, .int p0])).length) Slot.unset).toArray = ls at hl ⊢
  have hl : lv_has ls 3 [(0, .ref n0), (1, .int p0)] := hl
  have hk0 : ¬ p0 < 0 := (li_ne (n := p0) (lo := 0) (hi := 3) (by decide) (by decide) hk).1
  have hk3 : ¬ 3 < p0 := (li_ne (n := p0) (lo := 0) (hi := 3) (by decide) (by decide) hk).2
  refine lv_iload_n hx hb dX11_back_0 rfl (lv_at hl 1 rfl) ?_
  refine lv_i2l hx hb dX11_back_1 rfl ?_
  refine lv_lconst (v := 0) hx hb dX11_back_2 (by decide) ?_
  refine lv_ldc2 hx hb hown (kX11_back_1 hts) dX11_back_3 ?_
  refine z_i (wr := [(n0, .inr (11, .ref a_tape :: .int m_taped :: .int m_laws :: .ref a_sign :: .ref a_length :: .ref a_clause :: .ref a_clauses :: .ref a_chain :: .int m_next :: .int m_wrong :: .int m_number :: .int m_text :: .int m_made :: .int m_deep :: .int m_lines :: .ref a_open :: .int m_opened :: .ref a_stack :: .int m_top :: .ref a_word :: .ref a_said :: .ref a_kept :: [.int m_goNode, .int m_goDrops, .int m_goHour, .int m_goFelt, .int m_goSalt, .int m_goMore, .ref a_stepNode, .ref a_stepDrops, .ref a_stepHour, .ref a_stepNext, .ref a_stepPass, .int m_bestLeft, .int m_bestHour, .int m_bestMany, .ref a_bestPass, .ref a_far, .ref a_waited, .ref a_servers, .ref a_images, .ref a_isMade])), (a_isMade, .inl (kA 3, 4, .inl isMadeF))]) (va_runS (As := [.long p0.toInt64, .long 0, .long 3]) (rest := []) ⟨hx, hb, hml, hown, hts⟩ (mX11_in l dC dI kA _ p0.toInt64 0 3) (va_cwS 3 hts gX11_back_X11_in rfl rfl rfl hdX11_in ⟨(Nat.le_of_ble_eq_true rfl), (Nat.le_of_ble_eq_true rfl)⟩) ⟨zPc.blind, zPre hK (hP.sub [] rfl) (hD.sub [] (by decide) rfl)⟩ rfl rfl hl.1 rfl (lv_room (Nat.le_of_ble_eq_true rfl)) dX11_back_6 ⟨(Nat.le_of_ble_eq_true rfl), (Nat.le_of_ble_eq_true rfl)⟩) hP hD hS hA [] [0, 1] rfl rfl (by decide) (by decide) (fun r3 u1 H locs hw2 hP hD hS => ?_)
  obtain rfl := hw2
  obtain ⟨hP, hD⟩ := z_re (L := [(n0, .inr (11, .ref a_tape :: .int m_taped :: .int m_laws :: .ref a_sign :: .ref a_length :: .ref a_clause :: .ref a_clauses :: .ref a_chain :: .int m_next :: .int m_wrong :: .int m_number :: .int m_text :: .int m_made :: .int m_deep :: .int m_lines :: .ref a_open :: .int m_opened :: .ref a_stack :: .int m_top :: .ref a_word :: .ref a_said :: .ref a_kept :: [.int m_goNode, .int m_goDrops, .int m_goHour, .int m_goFelt, .int m_goSalt, .int m_goMore, .ref a_stepNode, .ref a_stepDrops, .ref a_stepHour, .ref a_stepNext, .ref a_stepPass, .int m_bestLeft, .int m_bestHour, .int m_bestMany, .ref a_bestPass, .ref a_far, .ref a_waited, .ref a_servers, .ref a_images, .ref a_isMade])), (a_isMade, .inl (kA 3, 4, .inl isMadeF))]) hP hD
  refine lv_if_eq (tgt := 21) hx hb dX11_back_9 (by decide) (fun c_4 => absurd c_4 (hk)) (fun _ => ?_)
  refine lv_aload_n hx hb dX11_back_12 rfl (lv_at hl 0 rfl) ?_
  refine va_get (D := (dC, dI)) (ci := 11) (v := .ref a_isMade) (C := RX11) (T := TX11) (N := 42) hx hb hts iX11_back_X11 hown hK.1 hP 0 gz0 vcz11 41 (by decide) (kX11_back_2 hts) (fun _ h9 => h9) gz41 dX11_back_13 ?_
  refine lv_iload_n hx hb dX11_back_16 rfl (lv_at hl 1 rfl) ?_
  refine va_zald hx hb hK.1 hP 1 3 gz1 tzz3 (vp_le (by decide) hk0 hk3) dX11_back_17 ?_
  refine lv_topi (fun x5 ex5 => ?_)
  refine lv_if_ne (tgt := 23) hx hb dX11_back_18 (by decide) (fun c_6 => absurd ((by rw [ex5]; exact hm)) c_6) (fun _ => ?_)
  refine lv_iconst (v := (-1)) hx hb dX11_back_21 (by decide) ?_
  obtain ⟨hP9, hD9⟩ := z_sb (L' := [(n0, .inr (11, .ref a_tape :: .int m_taped :: .int m_laws :: .ref a_sign :: .ref a_length :: .ref a_clause :: .ref a_clauses :: .ref a_chain :: .int m_next :: .int m_wrong :: .int m_number :: .int m_text :: .int m_made :: .int m_deep :: .int m_lines :: .ref a_open :: .int m_opened :: .ref a_stack :: .int m_top :: .ref a_word :: .ref a_said :: .ref a_kept :: [.int m_goNode, .int m_goDrops, .int m_goHour, .int m_goFelt, .int m_goSalt, .int m_goMore, .ref a_stepNode, .ref a_stepDrops, .ref a_stepHour, .ref a_stepNext, .ref a_stepPass, .int m_bestLeft, .int m_bestHour, .int m_bestMany, .ref a_bestPass, .ref a_far, .ref a_waited, .ref a_servers, .ref a_images, .ref a_isMade])), (a_isMade, .inl (kA 3, 4, .inl isMadeF))]) hP hD [0, 1] (by decide) rfl
  refine W.widen (k := 0) (n := 0) (Nat.le_of_ble_eq_true rfl) (Nat.le_of_ble_eq_true rfl) ?_
  exact W.iret (v := (-1)) hx hb hr (fun t ht hW => ⟨⟨(-1), (), rfl, rfl, by rw [ht]; exact hP9, hD9⟩, hS.F ht⟩) hS.2.2 dX11_back_22
theorem gl_mX11_back_some_0 (p0 : Int32) (l25_1 : Int32) (h0 : ¬ p0 < 0) (h1 : ¬ 3 < p0) (h2 : ¬ l25_1 < 0) (h3 : ¬ 360 ≤ l25_1) : (¬ ((360 * p0) + l25_1) < 0 ∧ ¬ 1440 ≤ ((360 * p0) + l25_1)) := by grind
set_option maxRecDepth 100000 in
def fb_mX11_back_some_25 (imagesF : Nat → Int32) (p0 : Int32) (E56 : (Nat → Int32) → Int32 → ((Nat → Int32) × Int32)) (K : (Nat → Int32) → Int32 → ((Nat → Int32) × Int32)) (g25_0 : Nat → Int32) (l25_1 : Int32) : (Nat → Int32) × Int32 := if 360 ≤ l25_1 then (E56 g25_0 l25_1) else (bnd (imagesF ((360 * p0) + l25_1).toNatClampNeg) (fun (xy25_2 : Int32) => bnd ((upd g25_0 l25_1.toNatClampNeg xy25_2)) (fun (fy25_3 : Nat → Int32) => bnd ((l25_1 + 1)) (fun (xy25_5 : Int32) => K fy25_3 xy25_5))))
def fl_mX11_back_some_25 (imagesF : Nat → Int32) (p0 : Int32) (E56 : (Nat → Int32) → Int32 → ((Nat → Int32) × Int32)) : Nat → (Nat → Int32) → Int32 → ((Nat → Int32) × Int32)
  | 0, _, _ => ((fun _ => 0), 0)
  | n + 1, g25_0, l25_1 => fb_mX11_back_some_25 imagesF p0 E56 (fl_mX11_back_some_25 imagesF p0 E56 n) g25_0 l25_1
set_option maxHeartbeats 4000000 in
set_option maxRecDepth 100000 in
theorem lp_mX11_back_some_25 {p : Program} {l : Launch} {e : Env} {R : Room} {s : State} {m : MethodId} {args : Array Value} {below : List Frame} {meth : Method} {c : Code} {Q : State → Prop} {dC : Nat → ClassId} {dI : Nat → Nat → Nat} {kA : Nat → ClassId} {A : Nat → Prop} {H0 : Heap} {cells slots : Nat} (hx : p.tables.exec = Jvm.exec) (hb : c.code = cX11_back) (hml : c.maxLocals = 3) (hts : ∀ w ∈ wsX11_back, w.before args s = true) (hown : s.vm.findClass RX11 = some m.cls) (hK : zK dC dI kA s) (hA : ∀ q, H0.size ≤ q → A q) (hRf : 0 ≤ R.frames) (hRl : 0 ≤ R.locals) (hRc : cells ≤ R.cells) (hRs : slots ≤ R.slots) (n0 : Nat) (m_taped : Int32) (m_laws : Int32) (m_next : Int32) (m_wrong : Int32) (m_number : Int32) (m_text : Int32) (m_made : Int32) (m_deep : Int32) (m_lines : Int32) (m_opened : Int32) (m_top : Int32) (m_goNode : Int32) (m_goDrops : Int32) (m_goHour : Int32) (m_goFelt : Int32) (m_goSalt : Int32) (m_goMore : Int32) (m_bestLeft : Int32) (m_bestHour : Int32) (m_bestMany : Int32) (a_tape : Nat) (a_sign : Nat) (a_length : Nat) (a_clause : Nat) (a_clauses : Nat) (a_chain : Nat) (a_open : Nat) (a_stack : Nat) (a_word : Nat) (a_said : Nat) (a_kept : Nat) (a_stepNode : Nat) (a_stepDrops : Nat) (a_stepHour : Nat) (a_stepNext : Nat) (a_stepPass : Nat) (a_bestPass : Nat) (a_far : Nat) (a_waited : Nat) (a_servers : Nat) (a_images : Nat) (a_isMade : Nat) (imagesF : Nat → Int32) (isMadeF : Nat → Int32) (yn : Int32) (yp : Int32) (yj : Int32) (yo : Int32) (yf : Int32) (ym : Int32) (yk : Int32) (yw : Int32) (yd : Nat → Int32) (p0 : Int32) (x5 : Int32) {G : (Nat → Int32) × Int32} {E56 : (Nat → Int32) → Int32 → ((Nat → Int32) × Int32)} (hk : ¬ (li p0.toInt64 0 3) = 0) (hm : ¬ (isMadeF p0.toNatClampNeg) = 0) (hys : SC (shi imagesF p0) yn yp yj yo yf ym yk yw yd) (hk0 : ¬ p0 < 0) (hk3 : ¬ 3 < p0) (ex5 : x5 = isMadeF p0.toNatClampNeg) (k56 : ∀ (w56_0 : Nat → Int32) (w56_1 : Int32) (H : Heap) (locs : List Loc) (ls : Array Slot), ¬ w56_1 < 0 → CP (shi imagesF p0) w56_0 w56_1 → 360 ≤ w56_1 → E56 w56_0 w56_1 = G → va_P (dC, dI) vwCl [(n0, .inr (11, .ref a_tape :: .int m_taped :: .int m_laws :: .ref a_sign :: .ref a_length :: .ref a_clause :: .ref a_clauses :: .ref a_chain :: .int m_next :: .int m_wrong :: .int m_number :: .int m_text :: .int m_made :: .int m_deep :: .int m_lines :: .ref a_open :: .int m_opened :: .ref a_stack :: .int m_top :: .ref a_word :: .ref a_said :: .ref a_kept :: [.int m_goNode, .int m_goDrops, .int m_goHour, .int m_goFelt, .int m_goSalt, .int m_goMore, .ref a_stepNode, .ref a_stepDrops, .ref a_stepHour, .ref a_stepNext, .ref a_stepPass, .int m_bestLeft, .int m_bestHour, .int m_bestMany, .ref a_bestPass, .ref a_far, .ref a_waited, .ref a_servers, .ref a_images, .ref a_isMade])), (a_said, .inl (kA 0, 360, .inl w56_0)), (a_images, .inl (kA 0, 1440, .inl imagesF)), (a_isMade, .inl (kA 3, 4, .inl isMadeF))] H → va_D A [(n0, .inr (11, .ref a_tape :: .int m_taped :: .int m_laws :: .ref a_sign :: .ref a_length :: .ref a_clause :: .ref a_clauses :: .ref a_chain :: .int m_next :: .int m_wrong :: .int m_number :: .int m_text :: .int m_made :: .int m_deep :: .int m_lines :: .ref a_open :: .int m_opened :: .ref a_stack :: .int m_top :: .ref a_word :: .ref a_said :: .ref a_kept :: [.int m_goNode, .int m_goDrops, .int m_goHour, .int m_goFelt, .int m_goSalt, .int m_goMore, .ref a_stepNode, .ref a_stepDrops, .ref a_stepHour, .ref a_stepNext, .ref a_stepPass, .int m_bestLeft, .int m_bestHour, .int m_bestMany, .ref a_bestPass, .ref a_far, .ref a_waited, .ref a_servers, .ref a_images, .ref a_isMade])), (a_said, .inl (kA 0, 360, .inl w56_0)), (a_images, .inl (kA 0, 1440, .inl imagesF)), (a_isMade, .inl (kA 3, 4, .inl isMadeF))] → va_S A H0 H locs → lv_has ls 3 [(2, .int w56_1), (0, .ref n0), (1, .int p0)] → W p l e R s m args below meth c H locs cells slots Q (F0 m 56 ls []))  : ∀ (n : Nat) (g25_0 : Nat → Int32) (l25_1 : Int32) (H : Heap) (locs : List Loc) (ls : Array Slot), ((360 : Int32).toInt - l25_1.toInt).toNat < n → fl_mX11_back_some_25 imagesF p0 E56 n g25_0 l25_1 = G → ¬ l25_1 < 0 → CP (shi imagesF p0) g25_0 l25_1 → va_P (dC, dI) vwCl [(n0, .inr (11, .ref a_tape :: .int m_taped :: .int m_laws :: .ref a_sign :: .ref a_length :: .ref a_clause :: .ref a_clauses :: .ref a_chain :: .int m_next :: .int m_wrong :: .int m_number :: .int m_text :: .int m_made :: .int m_deep :: .int m_lines :: .ref a_open :: .int m_opened :: .ref a_stack :: .int m_top :: .ref a_word :: .ref a_said :: .ref a_kept :: [.int m_goNode, .int m_goDrops, .int m_goHour, .int m_goFelt, .int m_goSalt, .int m_goMore, .ref a_stepNode, .ref a_stepDrops, .ref a_stepHour, .ref a_stepNext, .ref a_stepPass, .int m_bestLeft, .int m_bestHour, .int m_bestMany, .ref a_bestPass, .ref a_far, .ref a_waited, .ref a_servers, .ref a_images, .ref a_isMade])), (a_said, .inl (kA 0, 360, .inl g25_0)), (a_images, .inl (kA 0, 1440, .inl imagesF)), (a_isMade, .inl (kA 3, 4, .inl isMadeF))] H → va_D A [(n0, .inr (11, .ref a_tape :: .int m_taped :: .int m_laws :: .ref a_sign :: .ref a_length :: .ref a_clause :: .ref a_clauses :: .ref a_chain :: .int m_next :: .int m_wrong :: .int m_number :: .int m_text :: .int m_made :: .int m_deep :: .int m_lines :: .ref a_open :: .int m_opened :: .ref a_stack :: .int m_top :: .ref a_word :: .ref a_said :: .ref a_kept :: [.int m_goNode, .int m_goDrops, .int m_goHour, .int m_goFelt, .int m_goSalt, .int m_goMore, .ref a_stepNode, .ref a_stepDrops, .ref a_stepHour, .ref a_stepNext, .ref a_stepPass, .int m_bestLeft, .int m_bestHour, .int m_bestMany, .ref a_bestPass, .ref a_far, .ref a_waited, .ref a_servers, .ref a_images, .ref a_isMade])), (a_said, .inl (kA 0, 360, .inl g25_0)), (a_images, .inl (kA 0, 1440, .inl imagesF)), (a_isMade, .inl (kA 3, 4, .inl isMadeF))] → va_S A H0 H locs → lv_has ls 3 [(2, .int l25_1), (0, .ref n0), (1, .int p0)] → W p l e R s m args below meth c H locs cells slots Q (F0 m 25 ls []) := by
  intro n
  induction n with
  | zero =>
    intro g25_0 l25_1 H locs ls hn
    exact absurd hn (Nat.not_lt_zero _)
  | succ n ih =>
    intro g25_0 l25_1 H locs ls hn hG hi25 hcp hP hD hS hl
    have hG : fb_mX11_back_some_25 imagesF p0 E56 (fl_mX11_back_some_25 imagesF p0 E56 n) g25_0 l25_1 = G := hG
    unfold fb_mX11_back_some_25 at hG
    refine lv_iload_n hx hb dX11_back_25 rfl (lv_at hl 0 rfl) ?_
    refine lv_sipush (v := 360) hx hb dX11_back_26 (by decide) ?_
    refine lv_icmp_ge (tgt := 56) hx hb dX11_back_29 (by decide) (fun c_y25_1 => ?_) (fun c_y25_1 => ?_)
    · have hG := zthen hG c_y25_1
      exact k56 g25_0 l25_1 H locs ls hi25 hcp c_y25_1 hG (hP.sub [0, 1, 2, 3] rfl) (hD.sub [0, 1, 2, 3] (by decide) rfl) hS (lv_sub hl [0, 1, 2] rfl)
    · have hG := zelse hG c_y25_1
      refine lv_aload_n hx hb dX11_back_32 rfl (lv_at hl 1 rfl) ?_
      refine va_get (D := (dC, dI)) (ci := 11) (v := .ref a_said) (C := RX11) (T := TX11) (N := 42) hx hb hts iX11_back_X11 hown hK.1 hP 0 gz0 vcz11 20 (by decide) (kX11_back_3 hts) (fun _ h9 => h9) gz20 dX11_back_33 ?_
      refine lv_iload_n hx hb dX11_back_36 rfl (lv_at hl 0 rfl) ?_
      refine lv_aload_n hx hb dX11_back_37 rfl (lv_at hl 1 rfl) ?_
      refine va_get (D := (dC, dI)) (ci := 11) (v := .ref a_images) (C := RX11) (T := TX11) (N := 42) hx hb hts iX11_back_X11 hown hK.1 hP 0 gz0 vcz11 40 (by decide) (kX11_back_4 hts) (fun _ h9 => h9) gz40 dX11_back_38 ?_
      refine lv_sipush (v := 360) hx hb dX11_back_41 (by decide) ?_
      refine lv_iload_n hx hb dX11_back_44 rfl (lv_at hl 2 rfl) ?_
      refine lv_imul hx hb dX11_back_45 ?_
      refine lv_iload_n hx hb dX11_back_46 rfl (lv_at hl 0 rfl) ?_
      refine lv_iadd hx hb dX11_back_47 ?_
      refine va_iald hx hb hK.1 hP 2 0 gz2 tzz0 (vp_g (N := 1440) (by decide) (gl_mX11_back_some_0 p0 l25_1 hk0 hk3 hi25 c_y25_1)) dX11_back_48 ?_
      refine lv_topi (fun xy25_2 exy25_2 => ?_)
      have hG := zbnd hG exy25_2
      refine va_iast hx hb hK.1 hP hD hS 1 0 gz1 tzz0 (vp_lt (by decide) hi25 c_y25_1) dX11_back_49 (fun H locs hP hD hS => ?_)
      obtain ⟨hP, hD⟩ := z_re (L := [(n0, .inr (11, .ref a_tape :: .int m_taped :: .int m_laws :: .ref a_sign :: .ref a_length :: .ref a_clause :: .ref a_clauses :: .ref a_chain :: .int m_next :: .int m_wrong :: .int m_number :: .int m_text :: .int m_made :: .int m_deep :: .int m_lines :: .ref a_open :: .int m_opened :: .ref a_stack :: .int m_top :: .ref a_word :: .ref a_said :: .ref a_kept :: [.int m_goNode, .int m_goDrops, .int m_goHour, .int m_goFelt, .int m_goSalt, .int m_goMore, .ref a_stepNode, .ref a_stepDrops, .ref a_stepHour, .ref a_stepNext, .ref a_stepPass, .int m_bestLeft, .int m_bestHour, .int m_bestMany, .ref a_bestPass, .ref a_far, .ref a_waited, .ref a_servers, .ref a_images, .ref a_isMade])), (a_said, .inl (kA 0, 360, .inl (upd g25_0 l25_1.toNatClampNeg xy25_2))), (a_images, .inl (kA 0, 1440, .inl imagesF)), (a_isMade, .inl (kA 3, 4, .inl isMadeF))]) hP hD
      obtain ⟨fy25_3, efy25_3⟩ : ∃ y : Nat → Int32, y = (upd g25_0 l25_1.toNatClampNeg xy25_2) := ⟨_, rfl⟩
      rw [← efy25_3] at hP hD
      have hG := zbnd hG efy25_3
      have huy25_4 := upd_at efy25_3
      obtain ⟨xy25_5, exy25_5⟩ : ∃ y : Int32, y = l25_1 + 1 := ⟨_, rfl⟩
      have hG := zbnd hG exy25_5
      refine lv_iinc (v := xy25_5) (lv' := [(2, .int xy25_5), (0, .ref n0), (1, .int p0)]) hx hb dX11_back_50 hl (k := 0) rfl (by rw [exy25_5]; rfl) (by decide) rfl (fun ls hl => ?_)
      refine lv_goto (tgt := 25) hx hb dX11_back_53 (by decide) ?_
      exact ih fy25_3 xy25_5 H locs ls (z_up hn exy25_5 c_y25_1) hG (z_nn exy25_5 c_y25_1 hi25) (CP_s hcp hi25 c_y25_1 (shi_at hk0 hk3 hi25 c_y25_1 exy25_2) efy25_3 exy25_5) (hP.sub [0, 1, 2, 3] rfl) (hD.sub [0, 1, 2, 3] (by decide) rfl) hS (lv_sub hl [0, 1, 2] rfl)
set_option maxRecDepth 100000 in
def fX11_back_some (saidF : Nat → Int32) (imagesF : Nat → Int32) (p0 : Int32) : (Nat → Int32) × Int32 := fl_mX11_back_some_25 imagesF p0 (fun (w56_0_0 : Nat → Int32) (w56_1_0 : Int32) => (w56_0_0, (w56_0_0 5))) (((360 : Int32).toInt - (0 : Int32).toInt).toNat + 1) saidF 0
set_option maxHeartbeats 4000000 in
set_option maxRecDepth 100000 in
theorem mX11_back_some (l : Launch) (dC : Nat → ClassId) (dI : Nat → Nat → Nat) (kA : Nat → ClassId) (sz : Nat) (n0 : Nat) (m_taped : Int32) (m_laws : Int32) (m_next : Int32) (m_wrong : Int32) (m_number : Int32) (m_text : Int32) (m_made : Int32) (m_deep : Int32) (m_lines : Int32) (m_opened : Int32) (m_top : Int32) (m_goNode : Int32) (m_goDrops : Int32) (m_goHour : Int32) (m_goFelt : Int32) (m_goSalt : Int32) (m_goMore : Int32) (m_bestLeft : Int32) (m_bestHour : Int32) (m_bestMany : Int32) (a_tape : Nat) (a_sign : Nat) (a_length : Nat) (a_clause : Nat) (a_clauses : Nat) (a_chain : Nat) (a_open : Nat) (a_stack : Nat) (a_word : Nat) (a_said : Nat) (a_kept : Nat) (a_stepNode : Nat) (a_stepDrops : Nat) (a_stepHour : Nat) (a_stepNext : Nat) (a_stepPass : Nat) (a_bestPass : Nat) (a_far : Nat) (a_waited : Nat) (a_servers : Nat) (a_images : Nat) (a_isMade : Nat) (saidF : Nat → Int32) (imagesF : Nat → Int32) (isMadeF : Nat → Int32) (yn : Int32) (yp : Int32) (yj : Int32) (yo : Int32) (yf : Int32) (ym : Int32) (yk : Int32) (yw : Int32) (yd : Nat → Int32) (p0 : Int32) (hk : ¬ (li p0.toInt64 0 3) = 0) (hm : ¬ (isMadeF p0.toNatClampNeg) = 0) (hys : SC (shi imagesF p0) yn yp yj yo yf ym yk yw yd) : Met l yX11_back wsX11_back ({ frames := 1, cells := 0, slots := 0, locals := 25 }) (zPc dC dI kA sz [.ref n0, .int p0] [(n0, .inr (11, .ref a_tape :: .int m_taped :: .int m_laws :: .ref a_sign :: .ref a_length :: .ref a_clause :: .ref a_clauses :: .ref a_chain :: .int m_next :: .int m_wrong :: .int m_number :: .int m_text :: .int m_made :: .int m_deep :: .int m_lines :: .ref a_open :: .int m_opened :: .ref a_stack :: .int m_top :: .ref a_word :: .ref a_said :: .ref a_kept :: [.int m_goNode, .int m_goDrops, .int m_goHour, .int m_goFelt, .int m_goSalt, .int m_goMore, .ref a_stepNode, .ref a_stepDrops, .ref a_stepHour, .ref a_stepNext, .ref a_stepPass, .int m_bestLeft, .int m_bestHour, .int m_bestMany, .ref a_bestPass, .ref a_far, .ref a_waited, .ref a_servers, .ref a_images, .ref a_isMade])), (a_said, .inl (kA 0, 360, .inl saidF)), (a_images, .inl (kA 0, 1440, .inl imagesF)), (a_isMade, .inl (kA 3, 4, .inl isMadeF))]) (va_Qi (fun (r : Int32) (u : (Nat → Int32) × Int32) => r = u.2 ∧ (u.1, u.2) = fX11_back_some saidF imagesF p0 ∧ SC u.1 yn yp yj yo yf ym yk yw yd) (zB dC dI (va_A [(n0, .inr (11, .ref a_tape :: .int m_taped :: .int m_laws :: .ref a_sign :: .ref a_length :: .ref a_clause :: .ref a_clauses :: .ref a_chain :: .int m_next :: .int m_wrong :: .int m_number :: .int m_text :: .int m_made :: .int m_deep :: .int m_lines :: .ref a_open :: .int m_opened :: .ref a_stack :: .int m_top :: .ref a_word :: .ref a_said :: .ref a_kept :: [.int m_goNode, .int m_goDrops, .int m_goHour, .int m_goFelt, .int m_goSalt, .int m_goMore, .ref a_stepNode, .ref a_stepDrops, .ref a_stepHour, .ref a_stepNext, .ref a_stepPass, .int m_bestLeft, .int m_bestHour, .int m_bestMany, .ref a_bestPass, .ref a_far, .ref a_waited, .ref a_servers, .ref a_images, .ref a_isMade])), (a_said, .inl (kA 0, 360, .inl saidF)), (a_images, .inl (kA 0, 1440, .inl imagesF)), (a_isMade, .inl (kA 3, 4, .inl isMadeF))] sz) (fun (u : (Nat → Int32) × Int32) => [(n0, .inr (11, .ref a_tape :: .int m_taped :: .int m_laws :: .ref a_sign :: .ref a_length :: .ref a_clause :: .ref a_clauses :: .ref a_chain :: .int m_next :: .int m_wrong :: .int m_number :: .int m_text :: .int m_made :: .int m_deep :: .int m_lines :: .ref a_open :: .int m_opened :: .ref a_stack :: .int m_top :: .ref a_word :: .ref a_said :: .ref a_kept :: [.int m_goNode, .int m_goDrops, .int m_goHour, .int m_goFelt, .int m_goSalt, .int m_goMore, .ref a_stepNode, .ref a_stepDrops, .ref a_stepHour, .ref a_stepNext, .ref a_stepPass, .int m_bestLeft, .int m_bestHour, .int m_bestMany, .ref a_bestPass, .ref a_far, .ref a_waited, .ref a_servers, .ref a_images, .ref a_isMade])), (a_said, .inl (kA 0, 360, .inl u.1)), (a_images, .inl (kA 0, 1440, .inl imagesF)), (a_isMade, .inl (kA 3, 4, .inl isMadeF))])) (va_A [(n0, .inr (11, .ref a_tape :: .int m_taped :: .int m_laws :: .ref a_sign :: .ref a_length :: .ref a_clause :: .ref a_clauses :: .ref a_chain :: .int m_next :: .int m_wrong :: .int m_number :: .int m_text :: .int m_made :: .int m_deep :: .int m_lines :: .ref a_open :: .int m_opened :: .ref a_stack :: .int m_top :: .ref a_word :: .ref a_said :: .ref a_kept :: [.int m_goNode, .int m_goDrops, .int m_goHour, .int m_goFelt, .int m_goSalt, .int m_goMore, .ref a_stepNode, .ref a_stepDrops, .ref a_stepHour, .ref a_stepNext, .ref a_stepPass, .int m_bestLeft, .int m_bestHour, .int m_bestMany, .ref a_bestPass, .ref a_far, .ref a_waited, .ref a_servers, .ref a_images, .ref a_isMade])), (a_said, .inl (kA 0, 360, .inl saidF)), (a_images, .inl (kA 0, 1440, .inl imagesF)), (a_isMade, .inl (kA 3, 4, .inl isMadeF))] sz)) 0 0 (va_A [(n0, .inr (11, .ref a_tape :: .int m_taped :: .int m_laws :: .ref a_sign :: .ref a_length :: .ref a_clause :: .ref a_clauses :: .ref a_chain :: .int m_next :: .int m_wrong :: .int m_number :: .int m_text :: .int m_made :: .int m_deep :: .int m_lines :: .ref a_open :: .int m_opened :: .ref a_stack :: .int m_top :: .ref a_word :: .ref a_said :: .ref a_kept :: [.int m_goNode, .int m_goDrops, .int m_goHour, .int m_goFelt, .int m_goSalt, .int m_goMore, .ref a_stepNode, .ref a_stepDrops, .ref a_stepHour, .ref a_stepNext, .ref a_stepPass, .int m_bestLeft, .int m_bestHour, .int m_bestMany, .ref a_bestPass, .ref a_far, .ref a_waited, .ref a_servers, .ref a_images, .ref a_isMade])), (a_said, .inl (kA 0, 360, .inl saidF)), (a_images, .inl (kA 0, 1440, .inl imagesF)), (a_isMade, .inl (kA 3, 4, .inl isMadeF))] sz) := by
  refine Met.ofW (cc := cX11_back) (maxL := 3) (ret := (some .int)) pnX11 rfl ?_
  intro p e s m args below meth c s₁ B hml hv
  obtain ⟨rfl, hsz, hP, hK, hD0⟩ := hv
  have hx := B.exec
  have hb := B.bytes
  have hr := B.returns
  have hts := atoms_spec (ws := wsX11_back) B.pre
  have hown : s.vm.findClass RX11 = some m.cls := findClass_of_methodNamed B.named
  have hlocks := B.notSynchronized
  subst hsz
  have hD := hD0.self (sz := s.heap.size)
  generalize hAe : va_A [(n0, .inr (11, .ref a_tape :: .int m_taped :: .int m_laws :: .ref a_sign :: .ref a_length :: .ref a_clause :: .ref a_clauses :: .ref a_chain :: .int m_next :: .int m_wrong :: .int m_number :: .int m_text :: .int m_made :: .int m_deep :: .int m_lines :: .ref a_open :: .int m_opened :: .ref a_stack :: .int m_top :: .ref a_word :: .ref a_said :: .ref a_kept :: [.int m_goNode, .int m_goDrops, .int m_goHour, .int m_goFelt, .int m_goSalt, .int m_goMore, .ref a_stepNode, .ref a_stepDrops, .ref a_stepHour, .ref a_stepNext, .ref a_stepPass, .int m_bestLeft, .int m_bestHour, .int m_bestMany, .ref a_bestPass, .ref a_far, .ref a_waited, .ref a_servers, .ref a_images, .ref a_isMade])), (a_said, .inl (kA 0, 360, .inl saidF)), (a_images, .inl (kA 0, 1440, .inl imagesF)), (a_isMade, .inl (kA 3, 4, .inl isMadeF))] s.heap.size = A at hD ⊢
  have hA : ∀ q : Nat, s.heap.size ≤ q → A q := zA_of hAe
  have hS : va_S A s.heap s.heap [] := va_S.rf
  have hP : va_P (dC, dI) vwCl [(n0, .inr (11, .ref a_tape :: .int m_taped :: .int m_laws :: .ref a_sign :: .ref a_length :: .ref a_clause :: .ref a_clauses :: .ref a_chain :: .int m_next :: .int m_wrong :: .int m_number :: .int m_text :: .int m_made :: .int m_deep :: .int m_lines :: .ref a_open :: .int m_opened :: .ref a_stack :: .int m_top :: .ref a_word :: .ref a_said :: .ref a_kept :: [.int m_goNode, .int m_goDrops, .int m_goHour, .int m_goFelt, .int m_goSalt, .int m_goMore, .ref a_stepNode, .ref a_stepDrops, .ref a_stepHour, .ref a_stepNext, .ref a_stepPass, .int m_bestLeft, .int m_bestHour, .int m_bestMany, .ref a_bestPass, .ref a_far, .ref a_waited, .ref a_servers, .ref a_images, .ref a_isMade])), (a_said, .inl (kA 0, 360, .inl saidF)), (a_images, .inl (kA 0, 1440, .inl imagesF)), (a_isMade, .inl (kA 3, 4, .inl isMadeF))] s.heap := hP
  have hl := lv_entry ([.ref n0, .int p0]) (n := 3) (Nat.le_of_ble_eq_true rfl)
  rw [lg_entry_eq]
  generalize (lg_sl ([.ref n0, .int p0]) ++ List.replicate (3 - (lg_sl ([.ref n0, .int p0])).length) Slot.unset).toArray = ls at hl ⊢
  have hl : lv_has ls 3 [(0, .ref n0), (1, .int p0)] := hl
  obtain ⟨H, hHe⟩ : ∃ H : Heap, H = s.heap := ⟨_, rfl⟩
  have hk0 : ¬ p0 < 0 := (li_ne (n := p0) (lo := 0) (hi := 3) (by decide) (by decide) hk).1
  have hk3 : ¬ 3 < p0 := (li_ne (n := p0) (lo := 0) (hi := 3) (by decide) (by decide) hk).2
  obtain ⟨G, hG0⟩ : ∃ G : (Nat → Int32) × Int32, fX11_back_some saidF imagesF p0 = G := ⟨_, rfl⟩
  have hG := hG0
  unfold fX11_back_some at hG
  refine lv_iload_n hx hb dX11_back_0 rfl (lv_at hl 1 rfl) ?_
  refine lv_i2l hx hb dX11_back_1 rfl ?_
  refine lv_lconst (v := 0) hx hb dX11_back_2 (by decide) ?_
  refine lv_ldc2 hx hb hown (kX11_back_1 hts) dX11_back_3 ?_
  refine z_i (wr := [(n0, .inr (11, .ref a_tape :: .int m_taped :: .int m_laws :: .ref a_sign :: .ref a_length :: .ref a_clause :: .ref a_clauses :: .ref a_chain :: .int m_next :: .int m_wrong :: .int m_number :: .int m_text :: .int m_made :: .int m_deep :: .int m_lines :: .ref a_open :: .int m_opened :: .ref a_stack :: .int m_top :: .ref a_word :: .ref a_said :: .ref a_kept :: [.int m_goNode, .int m_goDrops, .int m_goHour, .int m_goFelt, .int m_goSalt, .int m_goMore, .ref a_stepNode, .ref a_stepDrops, .ref a_stepHour, .ref a_stepNext, .ref a_stepPass, .int m_bestLeft, .int m_bestHour, .int m_bestMany, .ref a_bestPass, .ref a_far, .ref a_waited, .ref a_servers, .ref a_images, .ref a_isMade])), (a_said, .inl (kA 0, 360, .inl saidF)), (a_images, .inl (kA 0, 1440, .inl imagesF)), (a_isMade, .inl (kA 3, 4, .inl isMadeF))]) (va_runS (As := [.long p0.toInt64, .long 0, .long 3]) (rest := []) ⟨hx, hb, hml, hown, hts⟩ (mX11_in l dC dI kA _ p0.toInt64 0 3) (va_cwS 3 hts gX11_back_X11_in rfl rfl rfl hdX11_in ⟨(Nat.le_of_ble_eq_true rfl), (Nat.le_of_ble_eq_true rfl)⟩) ⟨zPc.blind, zPre hK (hP.sub [] rfl) (hD.sub [] (by decide) rfl)⟩ rfl rfl hl.1 rfl (lv_room (Nat.le_of_ble_eq_true rfl)) dX11_back_6 ⟨(Nat.le_of_ble_eq_true rfl), (Nat.le_of_ble_eq_true rfl)⟩) hP hD hS hA [] [0, 1, 2, 3] rfl rfl (by decide) (by decide) (fun r3 u1 H locs hw2 hP hD hS => ?_)
  obtain rfl := hw2
  obtain ⟨hP, hD⟩ := z_re (L := [(n0, .inr (11, .ref a_tape :: .int m_taped :: .int m_laws :: .ref a_sign :: .ref a_length :: .ref a_clause :: .ref a_clauses :: .ref a_chain :: .int m_next :: .int m_wrong :: .int m_number :: .int m_text :: .int m_made :: .int m_deep :: .int m_lines :: .ref a_open :: .int m_opened :: .ref a_stack :: .int m_top :: .ref a_word :: .ref a_said :: .ref a_kept :: [.int m_goNode, .int m_goDrops, .int m_goHour, .int m_goFelt, .int m_goSalt, .int m_goMore, .ref a_stepNode, .ref a_stepDrops, .ref a_stepHour, .ref a_stepNext, .ref a_stepPass, .int m_bestLeft, .int m_bestHour, .int m_bestMany, .ref a_bestPass, .ref a_far, .ref a_waited, .ref a_servers, .ref a_images, .ref a_isMade])), (a_said, .inl (kA 0, 360, .inl saidF)), (a_images, .inl (kA 0, 1440, .inl imagesF)), (a_isMade, .inl (kA 3, 4, .inl isMadeF))]) hP hD
  refine lv_if_eq (tgt := 21) hx hb dX11_back_9 (by decide) (fun c_4 => absurd c_4 (hk)) (fun _ => ?_)
  refine lv_aload_n hx hb dX11_back_12 rfl (lv_at hl 0 rfl) ?_
  refine va_get (D := (dC, dI)) (ci := 11) (v := .ref a_isMade) (C := RX11) (T := TX11) (N := 42) hx hb hts iX11_back_X11 hown hK.1 hP 0 gz0 vcz11 41 (by decide) (kX11_back_2 hts) (fun _ h9 => h9) gz41 dX11_back_13 ?_
  refine lv_iload_n hx hb dX11_back_16 rfl (lv_at hl 1 rfl) ?_
  refine va_zald hx hb hK.1 hP 3 3 gz3 tzz3 (vp_le (by decide) hk0 hk3) dX11_back_17 ?_
  refine lv_topi (fun x5 ex5 => ?_)
  refine lv_if_ne (tgt := 23) hx hb dX11_back_18 (by decide) (fun _ => ?_) (fun c_6 => absurd c_6 ((by rw [ex5]; exact hm)))
  refine lv_iconst (v := 0) hx hb dX11_back_23 (by decide) ?_
  refine lv_istore_n (lv' := [(2, .int 0), (0, .ref n0), (1, .int p0)]) hx hb dX11_back_24 rfl hl (by decide) rfl (fun ls hl => ?_)
  refine lp_mX11_back_some_25 hx hb hml hts hown hK hA (Nat.le_of_ble_eq_true rfl) (Nat.le_of_ble_eq_true rfl) (Nat.le_of_ble_eq_true rfl) (Nat.le_of_ble_eq_true rfl) n0 m_taped m_laws m_next m_wrong m_number m_text m_made m_deep m_lines m_opened m_top m_goNode m_goDrops m_goHour m_goFelt m_goSalt m_goMore m_bestLeft m_bestHour m_bestMany a_tape a_sign a_length a_clause a_clauses a_chain a_open a_stack a_word a_said a_kept a_stepNode a_stepDrops a_stepHour a_stepNext a_stepPass a_bestPass a_far a_waited a_servers a_images a_isMade imagesF isMadeF yn yp yj yo yf ym yk yw yd p0 x5 hk hm hys hk0 hk3 ex5 (fun w56_0_0 w56_1_0 H locs ls hx56_2_nlt00_0 hcp_0 hcl_0 hG hP hD hS hl => ?_) _ saidF 0 _ _ ls (Nat.lt_succ_self _) hG (by decide) (CP_0 (shi imagesF p0) saidF) hP hD hS (lv_sub hl [0, 1, 2] rfl)
  obtain ⟨hP, hD⟩ := z_re (L := [(n0, .inr (11, .ref a_tape :: .int m_taped :: .int m_laws :: .ref a_sign :: .ref a_length :: .ref a_clause :: .ref a_clauses :: .ref a_chain :: .int m_next :: .int m_wrong :: .int m_number :: .int m_text :: .int m_made :: .int m_deep :: .int m_lines :: .ref a_open :: .int m_opened :: .ref a_stack :: .int m_top :: .ref a_word :: .ref a_said :: .ref a_kept :: [.int m_goNode, .int m_goDrops, .int m_goHour, .int m_goFelt, .int m_goSalt, .int m_goMore, .ref a_stepNode, .ref a_stepDrops, .ref a_stepHour, .ref a_stepNext, .ref a_stepPass, .int m_bestLeft, .int m_bestHour, .int m_bestMany, .ref a_bestPass, .ref a_far, .ref a_waited, .ref a_servers, .ref a_images, .ref a_isMade])), (a_said, .inl (kA 0, 360, .inl w56_0_0)), (a_images, .inl (kA 0, 1440, .inl imagesF)), (a_isMade, .inl (kA 3, 4, .inl isMadeF))]) hP hD
  refine lv_aload_n hx hb dX11_back_56 rfl (lv_at hl 1 rfl) ?_
  refine va_get (D := (dC, dI)) (ci := 11) (v := .ref a_said) (C := RX11) (T := TX11) (N := 42) hx hb hts iX11_back_X11 hown hK.1 hP 0 gz0 vcz11 20 (by decide) (kX11_back_3 hts) (fun _ h9 => h9) gz20 dX11_back_57 ?_
  refine lv_iconst (v := 5) hx hb dX11_back_60 (by decide) ?_
  refine va_iald hx hb hK.1 hP 1 0 gz1 tzz0 (vpd (by decide)) dX11_back_61 ?_
  refine zi (w56_0_0 5) rfl ?_
  obtain ⟨hP9, hD9⟩ := z_sb (L' := [(n0, .inr (11, .ref a_tape :: .int m_taped :: .int m_laws :: .ref a_sign :: .ref a_length :: .ref a_clause :: .ref a_clauses :: .ref a_chain :: .int m_next :: .int m_wrong :: .int m_number :: .int m_text :: .int m_made :: .int m_deep :: .int m_lines :: .ref a_open :: .int m_opened :: .ref a_stack :: .int m_top :: .ref a_word :: .ref a_said :: .ref a_kept :: [.int m_goNode, .int m_goDrops, .int m_goHour, .int m_goFelt, .int m_goSalt, .int m_goMore, .ref a_stepNode, .ref a_stepDrops, .ref a_stepHour, .ref a_stepNext, .ref a_stepPass, .int m_bestLeft, .int m_bestHour, .int m_bestMany, .ref a_bestPass, .ref a_far, .ref a_waited, .ref a_servers, .ref a_images, .ref a_isMade])), (a_said, .inl (kA 0, 360, .inl w56_0_0)), (a_images, .inl (kA 0, 1440, .inl imagesF)), (a_isMade, .inl (kA 3, 4, .inl isMadeF))]) hP hD [0, 1, 2, 3] (by decide) rfl
  refine W.widen (k := 0) (n := 0) (Nat.le_of_ble_eq_true rfl) (Nat.le_of_ble_eq_true rfl) ?_
  exact W.iret (v := (w56_0_0 5)) hx hb hr (fun t ht hW => ⟨⟨(w56_0_0 5), (w56_0_0, (w56_0_0 5)), rfl, ⟨rfl, (hG.trans hG0.symm), (SC_cp1 hys hcp_0 hcl_0)⟩, by rw [ht]; exact hP9, hD9⟩, hS.F ht⟩) hS.2.2 dX11_back_62
