def ixX11_lay : List Nat := [5, 153, 678, 679, 680, 681, 682, 683, 684, 685, 686, 687, 688, 689, 929, 930, 931, 932, 933, 934, 935, 936, 937, 1499, 1500, 1501, 1502, 1503, 1504, 1505, 1506, 1507, 1508, 1509, 1510, 1511, 1512, 1513, 1514, 1515, 1516, 1517, 1518, 1519, 1520, 1521, 1522, 1523, 1524, 1525, 1526, 1527, 1528, 1529, 1530, 1531, 1532, 1533, 1534, 1535, 1536, 1537, 1538, 1539, 1540]
def wsX11_lay : List Cond := .code yX11_lay cX11_lay 3 (some .int) :: ixX11_lay.map wt
theorem ggX11_lay_X11_isOfWay : GoodIn wsX11_lay wsX11_isOfWay := gi_ (A := ixX11_lay) (B := ixX11_isOfWay) wt937 (by decide +kernel)
theorem gX11_lay_X11_isOfWay : GoodIn wsX11_lay (wsV RX11 378 RX11 yX11_isOfWay wsX11_isOfWay) := g4_ (A := ixX11_lay) wt934 wt935 wt936 wt5 (by decide +kernel) ggX11_lay_X11_isOfWay
theorem ggX11_lay_X11_isPass : GoodIn wsX11_lay wsX11_isPass := gi_ (A := ixX11_lay) (B := ixX11_isPass) wt681 (by decide +kernel)
theorem gX11_lay_X11_isPass : GoodIn wsX11_lay (wsV RX11 306 RX11 yX11_isPass wsX11_isPass) := g4_ (A := ixX11_lay) wt678 wt679 wt680 wt5 (by decide +kernel) ggX11_lay_X11_isPass
theorem ggX11_lay_X11_other : GoodIn wsX11_lay wsX11_other := gi_ (A := ixX11_lay) (B := ixX11_other) wt685 (by decide +kernel)
theorem gX11_lay_X11_other : GoodIn wsX11_lay (wsV RX11 309 RX11 yX11_other wsX11_other) := g4_ (A := ixX11_lay) wt682 wt683 wt684 wt5 (by decide +kernel) ggX11_lay_X11_other
theorem ggX11_lay_X11_wayEnd : GoodIn wsX11_lay wsX11_wayEnd := gi_ (A := ixX11_lay) (B := ixX11_wayEnd) wt933 (by decide +kernel)
theorem gX11_lay_X11_wayEnd : GoodIn wsX11_lay (wsV RX11 375 RX11 yX11_wayEnd wsX11_wayEnd) := g4_ (A := ixX11_lay) wt930 wt931 wt932 wt5 (by decide +kernel) ggX11_lay_X11_wayEnd
theorem kX11_lay_1 {a : Array Value} {s : State} (hts : ∀ w ∈ wsX11_lay, w.before a s = true) : (.fieldLink RX11 39 "SnowMulesModel" "said" "[I" : Cond).before a s = true := kw (A := ixX11_lay) wt153 hts (by decide +kernel)
theorem iX11_lay_X11 : ∀ w ∈ wsX110, w ∈ wsX11_lay := inW (A := ixX11_lay) uwX11 (by decide +kernel)
theorem hdX11_wayEnd : yX11_wayEnd.cls ≠ "java/lang/invoke/MethodHandle" ∧ yX11_wayEnd.cls ≠ "java/lang/invoke/VarHandle" ∧ (parseMethodDescriptor yX11_wayEnd.desc).map (fun d => d.parameters.length) = some 0 := ⟨hdc_0.1, hdc_0.2, hdd_6⟩
theorem hdX11_isOfWay : yX11_isOfWay.cls ≠ "java/lang/invoke/MethodHandle" ∧ yX11_isOfWay.cls ≠ "java/lang/invoke/VarHandle" ∧ (parseMethodDescriptor yX11_isOfWay.desc).map (fun d => d.parameters.length) = some 1 := ⟨hdc_0.1, hdc_0.2, hdd_1⟩
def dtX11_lay_131_0 : List (Nat × Jvm.ClassFile.Instr × Nat) := [(0, .aload_n 0, 1), (1, .getfield 39, 3), (4, .bipush 8, 2), (6, .iaload, 1), (7, .ifCond .lt 23, 3), (30, .iconst (-1), 1), (31, .ireturn, 1), (10, .aload_n 0, 1), (11, .iload_n 1, 1), (12, .invokevirtual 306, 3), (15, .ifCond .eq 15, 3), (18, .aload_n 0, 1), (19, .getfield 39, 3), (22, .bipush 9, 2), (24, .iaload, 1), (25, .bipush 6, 2), (27, .if_icmp .ne 5, 3), (32, .aload_n 0, 1), (33, .iload_n 1, 1), (34, .aload_n 0, 1), (35, .invokevirtual 375, 3), (38, .invokevirtual 309, 3), (41, .istore_n 2, 1), (42, .iload_n 2, 1), (43, .ifCond .lt 11, 3), (54, .iconst (-1), 1), (55, .ireturn, 1), (46, .aload_n 0, 1), (47, .iload_n 2, 1), (48, .invokevirtual 378, 3), (51, .ifCond .eq 5, 3), (56, .aload_n 0, 1)]
theorem daX11_lay_131_0 : dtX11_lay_131_0.all (dqd cX11_lay) = true := by decide +kernel
theorem dX11_lay_0 : decode cX11_lay 0 = .ok (.aload_n 0, 1) := dq daX11_lay_131_0 0 rfl
theorem dX11_lay_1 : decode cX11_lay 1 = .ok (.getfield 39, 3) := dq daX11_lay_131_0 1 rfl
theorem dX11_lay_4 : decode cX11_lay 4 = .ok (.bipush 8, 2) := dq daX11_lay_131_0 2 rfl
theorem dX11_lay_6 : decode cX11_lay 6 = .ok (.iaload, 1) := dq daX11_lay_131_0 3 rfl
theorem dX11_lay_7 : decode cX11_lay 7 = .ok (.ifCond .lt 23, 3) := dq daX11_lay_131_0 4 rfl
theorem dX11_lay_30 : decode cX11_lay 30 = .ok (.iconst (-1), 1) := dq daX11_lay_131_0 5 rfl
theorem dX11_lay_31 : decode cX11_lay 31 = .ok (.ireturn, 1) := dq daX11_lay_131_0 6 rfl
theorem dX11_lay_10 : decode cX11_lay 10 = .ok (.aload_n 0, 1) := dq daX11_lay_131_0 7 rfl
theorem dX11_lay_11 : decode cX11_lay 11 = .ok (.iload_n 1, 1) := dq daX11_lay_131_0 8 rfl
theorem dX11_lay_12 : decode cX11_lay 12 = .ok (.invokevirtual 306, 3) := dq daX11_lay_131_0 9 rfl
theorem dX11_lay_15 : decode cX11_lay 15 = .ok (.ifCond .eq 15, 3) := dq daX11_lay_131_0 10 rfl
theorem dX11_lay_18 : decode cX11_lay 18 = .ok (.aload_n 0, 1) := dq daX11_lay_131_0 11 rfl
theorem dX11_lay_19 : decode cX11_lay 19 = .ok (.getfield 39, 3) := dq daX11_lay_131_0 12 rfl
theorem dX11_lay_22 : decode cX11_lay 22 = .ok (.bipush 9, 2) := dq daX11_lay_131_0 13 rfl
theorem dX11_lay_24 : decode cX11_lay 24 = .ok (.iaload, 1) := dq daX11_lay_131_0 14 rfl
theorem dX11_lay_25 : decode cX11_lay 25 = .ok (.bipush 6, 2) := dq daX11_lay_131_0 15 rfl
theorem dX11_lay_27 : decode cX11_lay 27 = .ok (.if_icmp .ne 5, 3) := dq daX11_lay_131_0 16 rfl
theorem dX11_lay_32 : decode cX11_lay 32 = .ok (.aload_n 0, 1) := dq daX11_lay_131_0 17 rfl
theorem dX11_lay_33 : decode cX11_lay 33 = .ok (.iload_n 1, 1) := dq daX11_lay_131_0 18 rfl
theorem dX11_lay_34 : decode cX11_lay 34 = .ok (.aload_n 0, 1) := dq daX11_lay_131_0 19 rfl
theorem dX11_lay_35 : decode cX11_lay 35 = .ok (.invokevirtual 375, 3) := dq daX11_lay_131_0 20 rfl
theorem dX11_lay_38 : decode cX11_lay 38 = .ok (.invokevirtual 309, 3) := dq daX11_lay_131_0 21 rfl
theorem dX11_lay_41 : decode cX11_lay 41 = .ok (.istore_n 2, 1) := dq daX11_lay_131_0 22 rfl
theorem dX11_lay_42 : decode cX11_lay 42 = .ok (.iload_n 2, 1) := dq daX11_lay_131_0 23 rfl
theorem dX11_lay_43 : decode cX11_lay 43 = .ok (.ifCond .lt 11, 3) := dq daX11_lay_131_0 24 rfl
theorem dX11_lay_54 : decode cX11_lay 54 = .ok (.iconst (-1), 1) := dq daX11_lay_131_0 25 rfl
theorem dX11_lay_55 : decode cX11_lay 55 = .ok (.ireturn, 1) := dq daX11_lay_131_0 26 rfl
theorem dX11_lay_46 : decode cX11_lay 46 = .ok (.aload_n 0, 1) := dq daX11_lay_131_0 27 rfl
theorem dX11_lay_47 : decode cX11_lay 47 = .ok (.iload_n 2, 1) := dq daX11_lay_131_0 28 rfl
theorem dX11_lay_48 : decode cX11_lay 48 = .ok (.invokevirtual 378, 3) := dq daX11_lay_131_0 29 rfl
theorem dX11_lay_51 : decode cX11_lay 51 = .ok (.ifCond .eq 5, 3) := dq daX11_lay_131_0 30 rfl
theorem dX11_lay_56 : decode cX11_lay 56 = .ok (.aload_n 0, 1) := dq daX11_lay_131_0 31 rfl
def dtX11_lay_131_1 : List (Nat × Jvm.ClassFile.Instr × Nat) := [(57, .getfield 39, 3), (60, .bipush 10, 2), (62, .aload_n 0, 1), (63, .getfield 39, 3), (66, .bipush 9, 2), (68, .iaload, 1), (69, .iadd, 1), (70, .iload_n 1, 1), (71, .iastore, 1), (72, .aload_n 0, 1), (73, .getfield 39, 3), (76, .bipush 9, 2), (78, .dup2, 1), (79, .iaload, 1), (80, .iconst 1, 1), (81, .iadd, 1), (82, .iastore, 1), (83, .aload_n 0, 1), (84, .getfield 39, 3), (87, .bipush 9, 2), (89, .iaload, 1), (90, .ireturn, 1)]
theorem daX11_lay_131_1 : dtX11_lay_131_1.all (dqd cX11_lay) = true := by decide +kernel
theorem dX11_lay_57 : decode cX11_lay 57 = .ok (.getfield 39, 3) := dq daX11_lay_131_1 0 rfl
theorem dX11_lay_60 : decode cX11_lay 60 = .ok (.bipush 10, 2) := dq daX11_lay_131_1 1 rfl
theorem dX11_lay_62 : decode cX11_lay 62 = .ok (.aload_n 0, 1) := dq daX11_lay_131_1 2 rfl
theorem dX11_lay_63 : decode cX11_lay 63 = .ok (.getfield 39, 3) := dq daX11_lay_131_1 3 rfl
theorem dX11_lay_66 : decode cX11_lay 66 = .ok (.bipush 9, 2) := dq daX11_lay_131_1 4 rfl
theorem dX11_lay_68 : decode cX11_lay 68 = .ok (.iaload, 1) := dq daX11_lay_131_1 5 rfl
theorem dX11_lay_69 : decode cX11_lay 69 = .ok (.iadd, 1) := dq daX11_lay_131_1 6 rfl
theorem dX11_lay_70 : decode cX11_lay 70 = .ok (.iload_n 1, 1) := dq daX11_lay_131_1 7 rfl
theorem dX11_lay_71 : decode cX11_lay 71 = .ok (.iastore, 1) := dq daX11_lay_131_1 8 rfl
theorem dX11_lay_72 : decode cX11_lay 72 = .ok (.aload_n 0, 1) := dq daX11_lay_131_1 9 rfl
theorem dX11_lay_73 : decode cX11_lay 73 = .ok (.getfield 39, 3) := dq daX11_lay_131_1 10 rfl
theorem dX11_lay_76 : decode cX11_lay 76 = .ok (.bipush 9, 2) := dq daX11_lay_131_1 11 rfl
theorem dX11_lay_78 : decode cX11_lay 78 = .ok (.dup2, 1) := dq daX11_lay_131_1 12 rfl
theorem dX11_lay_79 : decode cX11_lay 79 = .ok (.iaload, 1) := dq daX11_lay_131_1 13 rfl
theorem dX11_lay_80 : decode cX11_lay 80 = .ok (.iconst 1, 1) := dq daX11_lay_131_1 14 rfl
theorem dX11_lay_81 : decode cX11_lay 81 = .ok (.iadd, 1) := dq daX11_lay_131_1 15 rfl
theorem dX11_lay_82 : decode cX11_lay 82 = .ok (.iastore, 1) := dq daX11_lay_131_1 16 rfl
theorem dX11_lay_83 : decode cX11_lay 83 = .ok (.aload_n 0, 1) := dq daX11_lay_131_1 17 rfl
theorem dX11_lay_84 : decode cX11_lay 84 = .ok (.getfield 39, 3) := dq daX11_lay_131_1 18 rfl
theorem dX11_lay_87 : decode cX11_lay 87 = .ok (.bipush 9, 2) := dq daX11_lay_131_1 19 rfl
theorem dX11_lay_89 : decode cX11_lay 89 = .ok (.iaload, 1) := dq daX11_lay_131_1 20 rfl
theorem dX11_lay_90 : decode cX11_lay 90 = .ok (.ireturn, 1) := dq daX11_lay_131_1 21 rfl
theorem gl_mX11_lay_0 (zw : Int32) (h0 : ¬ zw < 0) (h1 : ¬ 6 < zw) (h2 : ¬ zw = 6) : (¬ (10 + zw) < 0 ∧ ¬ 360 ≤ (10 + zw)) := by grind
theorem gl_mX11_lay_1 (zp : Int32) (p0 : Int32) (h0 : ¬ zp < 0) (h1 : ¬ 20 < zp) (h2 : ¬ p0 < 0) (h3 : ¬ zp ≤ p0) : (¬ p0 < 0 ∧ ¬ zp ≤ p0) := by grind
set_option maxRecDepth 100000 in
def fX11_lay (saidF : Nat → Int32) (zp : Int32) (zk : Int32) (zw : Int32) (p0 : Int32) : (Nat → Int32) × Int32 := if zk < 0 then ((saidF, (-1))) else (if (hs p0 zp) = 0 then ((saidF, (-1))) else (if zw = 6 then ((saidF, (-1))) else (bnd (fX11_wayEnd saidF zk zw) (fun (r31 : Int32) => bnd ((oth saidF p0 r31)) (fun (x41 : Int32) => if x41 < 0 then ((saidF, (-1))) else (bnd (fX11_isOfWay saidF zk zw x41) (fun (r45 : Int32) => if r45 = 0 then (bnd ((upd saidF (10 + zw).toNatClampNeg p0)) (fun (f52 : Nat → Int32) => bnd ((upd f52 (9 : Int32).toNatClampNeg (zw + 1))) (fun (f63 : Nat → Int32) => (f63, (f63 9))))) else ((saidF, (-1))))))))))
set_option maxHeartbeats 4000000 in
set_option maxRecDepth 100000 in
theorem mX11_lay (l : Launch) (dC : Nat → ClassId) (dI : Nat → Nat → Nat) (kA : Nat → ClassId) (sz : Nat) (n0 : Nat) (m_taped : Int32) (m_laws : Int32) (m_next : Int32) (m_wrong : Int32) (m_number : Int32) (m_text : Int32) (m_made : Int32) (m_deep : Int32) (m_lines : Int32) (m_opened : Int32) (m_top : Int32) (m_goNode : Int32) (m_goDrops : Int32) (m_goHour : Int32) (m_goFelt : Int32) (m_goSalt : Int32) (m_goMore : Int32) (m_bestLeft : Int32) (m_bestHour : Int32) (m_bestMany : Int32) (a_tape : Nat) (a_sign : Nat) (a_length : Nat) (a_clause : Nat) (a_clauses : Nat) (a_chain : Nat) (a_open : Nat) (a_stack : Nat) (a_word : Nat) (a_said : Nat) (a_kept : Nat) (a_stepNode : Nat) (a_stepDrops : Nat) (a_stepHour : Nat) (a_stepNext : Nat) (a_stepPass : Nat) (a_bestPass : Nat) (a_far : Nat) (a_waited : Nat) (a_servers : Nat) (a_images : Nat) (a_isMade : Nat) (saidF : Nat → Int32) (zn : Int32) (zp : Int32) (zj : Int32) (zo : Int32) (zf : Int32) (zm : Int32) (zk : Int32) (zw : Int32) (pd : Nat → Int32) (p0 : Int32) (hsc : SC saidF zn zp zj zo zf zm zk zw pd) : Met l yX11_lay wsX11_lay ({ frames := 3, cells := 0, slots := 0, locals := 68 }) (zPc dC dI kA sz [.ref n0, .int p0] [(n0, .inr (11, .ref a_tape :: .int m_taped :: .int m_laws :: .ref a_sign :: .ref a_length :: .ref a_clause :: .ref a_clauses :: .ref a_chain :: .int m_next :: .int m_wrong :: .int m_number :: .int m_text :: .int m_made :: .int m_deep :: .int m_lines :: .ref a_open :: .int m_opened :: .ref a_stack :: .int m_top :: .ref a_word :: .ref a_said :: .ref a_kept :: [.int m_goNode, .int m_goDrops, .int m_goHour, .int m_goFelt, .int m_goSalt, .int m_goMore, .ref a_stepNode, .ref a_stepDrops, .ref a_stepHour, .ref a_stepNext, .ref a_stepPass, .int m_bestLeft, .int m_bestHour, .int m_bestMany, .ref a_bestPass, .ref a_far, .ref a_waited, .ref a_servers, .ref a_images, .ref a_isMade])), (a_said, .inl (kA 0, 360, .inl saidF))]) (va_Qi (fun (r : Int32) (u : (Nat → Int32) × Int32) => r = u.2 ∧ (u.1, u.2) = fX11_lay saidF zp zk zw p0 ∧ SC u.1 zn zp zj zo zf zm (u.1 8) (u.1 9) u.1) (zB dC dI (va_A [(n0, .inr (11, .ref a_tape :: .int m_taped :: .int m_laws :: .ref a_sign :: .ref a_length :: .ref a_clause :: .ref a_clauses :: .ref a_chain :: .int m_next :: .int m_wrong :: .int m_number :: .int m_text :: .int m_made :: .int m_deep :: .int m_lines :: .ref a_open :: .int m_opened :: .ref a_stack :: .int m_top :: .ref a_word :: .ref a_said :: .ref a_kept :: [.int m_goNode, .int m_goDrops, .int m_goHour, .int m_goFelt, .int m_goSalt, .int m_goMore, .ref a_stepNode, .ref a_stepDrops, .ref a_stepHour, .ref a_stepNext, .ref a_stepPass, .int m_bestLeft, .int m_bestHour, .int m_bestMany, .ref a_bestPass, .ref a_far, .ref a_waited, .ref a_servers, .ref a_images, .ref a_isMade])), (a_said, .inl (kA 0, 360, .inl saidF))] sz) (fun (u : (Nat → Int32) × Int32) => [(n0, .inr (11, .ref a_tape :: .int m_taped :: .int m_laws :: .ref a_sign :: .ref a_length :: .ref a_clause :: .ref a_clauses :: .ref a_chain :: .int m_next :: .int m_wrong :: .int m_number :: .int m_text :: .int m_made :: .int m_deep :: .int m_lines :: .ref a_open :: .int m_opened :: .ref a_stack :: .int m_top :: .ref a_word :: .ref a_said :: .ref a_kept :: [.int m_goNode, .int m_goDrops, .int m_goHour, .int m_goFelt, .int m_goSalt, .int m_goMore, .ref a_stepNode, .ref a_stepDrops, .ref a_stepHour, .ref a_stepNext, .ref a_stepPass, .int m_bestLeft, .int m_bestHour, .int m_bestMany, .ref a_bestPass, .ref a_far, .ref a_waited, .ref a_servers, .ref a_images, .ref a_isMade])), (a_said, .inl (kA 0, 360, .inl u.1))])) (va_A [(n0, .inr (11, .ref a_tape :: .int m_taped :: .int m_laws :: .ref a_sign :: .ref a_length :: .ref a_clause :: .ref a_clauses :: .ref a_chain :: .int m_next :: .int m_wrong :: .int m_number :: .int m_text :: .int m_made :: .int m_deep :: .int m_lines :: .ref a_open :: .int m_opened :: .ref a_stack :: .int m_top :: .ref a_word :: .ref a_said :: .ref a_kept :: [.int m_goNode, .int m_goDrops, .int m_goHour, .int m_goFelt, .int m_goSalt, .int m_goMore, .ref a_stepNode, .ref a_stepDrops, .ref a_stepHour, .ref a_stepNext, .ref a_stepPass, .int m_bestLeft, .int m_bestHour, .int m_bestMany, .ref a_bestPass, .ref a_far, .ref a_waited, .ref a_servers, .ref a_images, .ref a_isMade])), (a_said, .inl (kA 0, 360, .inl saidF))] sz)) 0 0 (va_A [(n0, .inr (11, .ref a_tape :: .int m_taped :: .int m_laws :: .ref a_sign :: .ref a_length :: .ref a_clause :: .ref a_clauses :: .ref a_chain :: .int m_next :: .int m_wrong :: .int m_number :: .int m_text :: .int m_made :: .int m_deep :: .int m_lines :: .ref a_open :: .int m_opened :: .ref a_stack :: .int m_top :: .ref a_word :: .ref a_said :: .ref a_kept :: [.int m_goNode, .int m_goDrops, .int m_goHour, .int m_goFelt, .int m_goSalt, .int m_goMore, .ref a_stepNode, .ref a_stepDrops, .ref a_stepHour, .ref a_stepNext, .ref a_stepPass, .int m_bestLeft, .int m_bestHour, .int m_bestMany, .ref a_bestPass, .ref a_far, .ref a_waited, .ref a_servers, .ref a_images, .ref a_isMade])), (a_said, .inl (kA 0, 360, .inl saidF))] sz) := by
  refine Met.ofW (cc := cX11_lay) (maxL := 3) (ret := (some .int)) pnX11 rfl ?_
  intro p e s m args below meth c s₁ B hml hv
  obtain ⟨rfl, hsz, hP, hK, hD0⟩ := hv
  have hx := B.exec
  have hb := B.bytes
  have hr := B.returns
  have hts := atoms_spec (ws := wsX11_lay) B.pre
  have hown : s.vm.findClass RX11 = some m.cls := findClass_of_methodNamed B.named
  have hlocks := B.notSynchronized
  subst hsz
  have hD := hD0.self (sz := s.heap.size)
  generalize hAe : va_A [(n0, .inr (11, .ref a_tape :: .int m_taped :: .int m_laws :: .ref a_sign :: .ref a_length :: .ref a_clause :: .ref a_clauses :: .ref a_chain :: .int m_next :: .int m_wrong :: .int m_number :: .int m_text :: .int m_made :: .int m_deep :: .int m_lines :: .ref a_open :: .int m_opened :: .ref a_stack :: .int m_top :: .ref a_word :: .ref a_said :: .ref a_kept :: [.int m_goNode, .int m_goDrops, .int m_goHour, .int m_goFelt, .int m_goSalt, .int m_goMore, .ref a_stepNode, .ref a_stepDrops, .ref a_stepHour, .ref a_stepNext, .ref a_stepPass, .int m_bestLeft, .int m_bestHour, .int m_bestMany, .ref a_bestPass, .ref a_far, .ref a_waited, .ref a_servers, .ref a_images, .ref a_isMade])), (a_said, .inl (kA 0, 360, .inl saidF))] s.heap.size = A at hD ⊢
  have hA : ∀ q : Nat, s.heap.size ≤ q → A q := zA_of hAe
  have hS : va_S A s.heap s.heap [] := va_S.rf
  have hP : va_P (dC, dI) vwCl [(n0, .inr (11, .ref a_tape :: .int m_taped :: .int m_laws :: .ref a_sign :: .ref a_length :: .ref a_clause :: .ref a_clauses :: .ref a_chain :: .int m_next :: .int m_wrong :: .int m_number :: .int m_text :: .int m_made :: .int m_deep :: .int m_lines :: .ref a_open :: .int m_opened :: .ref a_stack :: .int m_top :: .ref a_word :: .ref a_said :: .ref a_kept :: [.int m_goNode, .int m_goDrops, .int m_goHour, .int m_goFelt, .int m_goSalt, .int m_goMore, .ref a_stepNode, .ref a_stepDrops, .ref a_stepHour, .ref a_stepNext, .ref a_stepPass, .int m_bestLeft, .int m_bestHour, .int m_bestMany, .ref a_bestPass, .ref a_far, .ref a_waited, .ref a_servers, .ref a_images, .ref a_isMade])), (a_said, .inl (kA 0, 360, .inl saidF))] s.heap := hP
  have hl := lv_entry ([.ref n0, .int p0]) (n := 3) (Nat.le_of_ble_eq_true rfl)
  rw [lg_entry_eq]
  generalize (lg_sl ([.ref n0, .int p0]) ++ List.replicate (3 - (lg_sl ([.ref n0, .int p0])).length) Slot.unset).toArray = ls at hl ⊢
  have hl : lv_has ls 3 [(0, .ref n0), (1, .int p0)] := hl
  obtain ⟨H, hHe⟩ : ∃ H : Heap, H = s.heap := ⟨_, rfl⟩
  obtain ⟨G, hG0⟩ : ∃ G : (Nat → Int32) × Int32, fX11_lay saidF zp zk zw p0 = G := ⟨_, rfl⟩
  have hG := hG0
  unfold fX11_lay at hG
  have hz1 : saidF 0 = zn := hsc.1.1
  have hz2 : saidF 1 = zp := hsc.1.2.1
  have hz3 : saidF 2 = zj := hsc.1.2.2.1
  have hz4 : saidF 3 = zo := hsc.1.2.2.2.1
  have hz5 : saidF 4 = zf := hsc.1.2.2.2.2.1
  have hz6 : saidF 6 = zm := hsc.1.2.2.2.2.2.1
  have hz7 : saidF 8 = zk := hsc.1.2.2.2.2.2.2.1
  have hz8 : saidF 9 = zw := hsc.1.2.2.2.2.2.2.2
  have hz9 : ¬ zn < 0 := hsc.2.1.1
  have hz10 : ¬ 12 < zn := hsc.2.1.2
  have hz11 : ¬ zp < 0 := hsc.2.2.1.1
  have hz12 : ¬ 20 < zp := hsc.2.2.1.2
  have hz13 : ¬ zj < 0 := hsc.2.2.2.1.1
  have hz14 : ¬ 16 < zj := hsc.2.2.2.1.2
  have hz15 : ¬ zo < 0 := hsc.2.2.2.2.1.1
  have hz16 : ¬ 6 < zo := hsc.2.2.2.2.1.2
  have hz17 : ¬ zf < 0 := hsc.2.2.2.2.2.1.1
  have hz18 : ¬ 8 < zf := hsc.2.2.2.2.2.1.2
  have hz19 : ¬ zk < (-1) := hsc.2.2.2.2.2.2.1.1
  have hz20 : ¬ 12 ≤ zk := hsc.2.2.2.2.2.2.1.2
  have hz21 : ¬ zw < 0 := hsc.2.2.2.2.2.2.2.1.1
  have hz22 : ¬ 6 < zw := hsc.2.2.2.2.2.2.2.1.2
  refine lv_aload_n hx hb dX11_lay_0 rfl (lv_at hl 0 rfl) ?_
  refine va_get (D := (dC, dI)) (ci := 11) (v := .ref a_said) (C := RX11) (T := TX11) (N := 42) hx hb hts iX11_lay_X11 hown hK.1 hP 0 gz0 vcz11 20 (by decide) (kX11_lay_1 hts) (fun _ h9 => h9) gz20 dX11_lay_1 ?_
  refine lv_bipush (v := 8) hx hb dX11_lay_4 (by decide) ?_
  refine va_iald hx hb hK.1 hP 1 0 gz1 tzz0 (vpd (by decide)) dX11_lay_6 ?_
  refine zi zk hz7 ?_
  refine lv_if_lt (tgt := 30) hx hb dX11_lay_7 (by decide) (fun c_23 => ?_) (fun c_23 => ?_)
  · have hG := zthen hG c_23
    refine lv_iconst (v := (-1)) hx hb dX11_lay_30 (by decide) ?_
    obtain ⟨hP9, hD9⟩ := z_sb (L' := [(n0, .inr (11, .ref a_tape :: .int m_taped :: .int m_laws :: .ref a_sign :: .ref a_length :: .ref a_clause :: .ref a_clauses :: .ref a_chain :: .int m_next :: .int m_wrong :: .int m_number :: .int m_text :: .int m_made :: .int m_deep :: .int m_lines :: .ref a_open :: .int m_opened :: .ref a_stack :: .int m_top :: .ref a_word :: .ref a_said :: .ref a_kept :: [.int m_goNode, .int m_goDrops, .int m_goHour, .int m_goFelt, .int m_goSalt, .int m_goMore, .ref a_stepNode, .ref a_stepDrops, .ref a_stepHour, .ref a_stepNext, .ref a_stepPass, .int m_bestLeft, .int m_bestHour, .int m_bestMany, .ref a_bestPass, .ref a_far, .ref a_waited, .ref a_servers, .ref a_images, .ref a_isMade])), (a_said, .inl (kA 0, 360, .inl saidF))]) hP hD [0, 1] (by decide) rfl
    refine W.widen (k := 0) (n := 0) (Nat.le_of_ble_eq_true rfl) (Nat.le_of_ble_eq_true rfl) ?_
    exact W.iret (v := (-1)) hx hb hr (fun t ht hW => ⟨⟨(-1), (saidF, (-1)), rfl, ⟨rfl, (hG.trans hG0.symm), (by show SC saidF zn zp zj zo zf zm (saidF 8) (saidF 9) saidF; rw [hz7, hz8]; exact (SC_self hsc))⟩, by rw [ht]; exact hP9, hD9⟩, hS.F ht⟩) hS.2.2 dX11_lay_31
  · have hG := zelse hG c_23
    refine lv_aload_n hx hb dX11_lay_10 rfl (lv_at hl 0 rfl) ?_
    refine lv_iload_n hx hb dX11_lay_11 rfl (lv_at hl 1 rfl) ?_
    refine z_i (wr := []) (va_runV (As := [.int p0]) (rest := []) ⟨hx, hb, hml, hown, hts⟩ (mX11_isPass l dC dI kA _ n0 m_taped m_laws m_next m_wrong m_number m_text m_made m_deep m_lines m_opened m_top m_goNode m_goDrops m_goHour m_goFelt m_goSalt m_goMore m_bestLeft m_bestHour m_bestMany a_tape a_sign a_length a_clause a_clauses a_chain a_open a_stack a_word a_said a_kept a_stepNode a_stepDrops a_stepHour a_stepNext a_stepPass a_bestPass a_far a_waited a_servers a_images a_isMade saidF zn zp zj zo zf zm zk zw pd p0 hsc) (cwV 1 hts gX11_lay_X11_isPass rfl rfl rfl ⟨rfl, hdX11_isPass⟩ ⟨(Nat.le_of_ble_eq_true rfl), (Nat.le_of_ble_eq_true rfl)⟩) ⟨zPc.blind, va_recv (q := (RX11, TX11, 42)) hK.1 hP (ci := 11) (q0 := 0) rfl rfl, zPre hK (hP.sub [0, 1] rfl) (hD.sub [0, 1] (by decide) rfl)⟩ rfl rfl hl.1 rfl (lv_room (Nat.le_of_ble_eq_true rfl)) dX11_lay_12 ⟨(Nat.le_of_ble_eq_true rfl), (Nat.le_of_ble_eq_true rfl)⟩) hP hD hS hA [0, 1] [] rfl rfl (by decide) (by decide) (fun r26 u24 H locs hw25 hP hD hS => ?_)
    obtain rfl := hw25
    obtain ⟨hP, hD⟩ := z_re (L := [(n0, .inr (11, .ref a_tape :: .int m_taped :: .int m_laws :: .ref a_sign :: .ref a_length :: .ref a_clause :: .ref a_clauses :: .ref a_chain :: .int m_next :: .int m_wrong :: .int m_number :: .int m_text :: .int m_made :: .int m_deep :: .int m_lines :: .ref a_open :: .int m_opened :: .ref a_stack :: .int m_top :: .ref a_word :: .ref a_said :: .ref a_kept :: [.int m_goNode, .int m_goDrops, .int m_goHour, .int m_goFelt, .int m_goSalt, .int m_goMore, .ref a_stepNode, .ref a_stepDrops, .ref a_stepHour, .ref a_stepNext, .ref a_stepPass, .int m_bestLeft, .int m_bestHour, .int m_bestMany, .ref a_bestPass, .ref a_far, .ref a_waited, .ref a_servers, .ref a_images, .ref a_isMade])), (a_said, .inl (kA 0, 360, .inl saidF))]) hP hD
    refine lv_if_eq (tgt := 30) hx hb dX11_lay_15 (by decide) (fun c_27 => ?_) (fun c_27 => ?_)
    · have hG := zthen hG c_27
      refine lv_iconst (v := (-1)) hx hb dX11_lay_30 (by decide) ?_
      obtain ⟨hP9, hD9⟩ := z_sb (L' := [(n0, .inr (11, .ref a_tape :: .int m_taped :: .int m_laws :: .ref a_sign :: .ref a_length :: .ref a_clause :: .ref a_clauses :: .ref a_chain :: .int m_next :: .int m_wrong :: .int m_number :: .int m_text :: .int m_made :: .int m_deep :: .int m_lines :: .ref a_open :: .int m_opened :: .ref a_stack :: .int m_top :: .ref a_word :: .ref a_said :: .ref a_kept :: [.int m_goNode, .int m_goDrops, .int m_goHour, .int m_goFelt, .int m_goSalt, .int m_goMore, .ref a_stepNode, .ref a_stepDrops, .ref a_stepHour, .ref a_stepNext, .ref a_stepPass, .int m_bestLeft, .int m_bestHour, .int m_bestMany, .ref a_bestPass, .ref a_far, .ref a_waited, .ref a_servers, .ref a_images, .ref a_isMade])), (a_said, .inl (kA 0, 360, .inl saidF))]) hP hD [0, 1] (by decide) rfl
      refine W.widen (k := 0) (n := 0) (Nat.le_of_ble_eq_true rfl) (Nat.le_of_ble_eq_true rfl) ?_
      exact W.iret (v := (-1)) hx hb hr (fun t ht hW => ⟨⟨(-1), (saidF, (-1)), rfl, ⟨rfl, (hG.trans hG0.symm), (by show SC saidF zn zp zj zo zf zm (saidF 8) (saidF 9) saidF; rw [hz7, hz8]; exact (SC_self hsc))⟩, by rw [ht]; exact hP9, hD9⟩, hS.F ht⟩) hS.2.2 dX11_lay_31
    · have hG := zelse hG c_27
      have c_27a := hs_ne c_27
      have c_27b := c_27a.2
      have c_27a := c_27a.1
      refine lv_aload_n hx hb dX11_lay_18 rfl (lv_at hl 0 rfl) ?_
      refine va_get (D := (dC, dI)) (ci := 11) (v := .ref a_said) (C := RX11) (T := TX11) (N := 42) hx hb hts iX11_lay_X11 hown hK.1 hP 0 gz0 vcz11 20 (by decide) (kX11_lay_1 hts) (fun _ h9 => h9) gz20 dX11_lay_19 ?_
      refine lv_bipush (v := 9) hx hb dX11_lay_22 (by decide) ?_
      refine va_iald hx hb hK.1 hP 1 0 gz1 tzz0 (vpd (by decide)) dX11_lay_24 ?_
      refine zi zw hz8 ?_
      refine lv_bipush (v := 6) hx hb dX11_lay_25 (by decide) ?_
      refine lv_icmp_ne (tgt := 32) hx hb dX11_lay_27 (by decide) (fun c_28 => ?_) (fun c_28 => ?_)
      · have hG := zelse hG c_28
        refine lv_aload_n hx hb dX11_lay_32 rfl (lv_at hl 0 rfl) ?_
        refine lv_iload_n hx hb dX11_lay_33 rfl (lv_at hl 1 rfl) ?_
        refine lv_aload_n hx hb dX11_lay_34 rfl (lv_at hl 0 rfl) ?_
        refine z_i (wr := []) (va_runV (As := []) (rest := [.int p0, .ref n0]) ⟨hx, hb, hml, hown, hts⟩ (mX11_wayEnd l dC dI kA _ n0 m_taped m_laws m_next m_wrong m_number m_text m_made m_deep m_lines m_opened m_top m_goNode m_goDrops m_goHour m_goFelt m_goSalt m_goMore m_bestLeft m_bestHour m_bestMany a_tape a_sign a_length a_clause a_clauses a_chain a_open a_stack a_word a_said a_kept a_stepNode a_stepDrops a_stepHour a_stepNext a_stepPass a_bestPass a_far a_waited a_servers a_images a_isMade saidF zn zp zj zo zf zm zk zw pd hsc) (cwV 0 hts gX11_lay_X11_wayEnd rfl rfl rfl ⟨rfl, hdX11_wayEnd⟩ ⟨(Nat.le_of_ble_eq_true rfl), (Nat.le_of_ble_eq_true rfl)⟩) ⟨zPc.blind, va_recv (q := (RX11, TX11, 42)) hK.1 hP (ci := 11) (q0 := 0) rfl rfl, zPre hK (hP.sub [0, 1] rfl) (hD.sub [0, 1] (by decide) rfl)⟩ rfl rfl hl.1 rfl (lv_room (Nat.le_of_ble_eq_true rfl)) dX11_lay_35 ⟨(Nat.le_of_ble_eq_true rfl), (Nat.le_of_ble_eq_true rfl)⟩) hP hD hS hA [0, 1] [] rfl rfl (by decide) (by decide) (fun r31 u29 H locs hw30 hP hD hS => ?_)
        obtain ⟨er34, hp33⟩ := hw30
        have er34 : r31 = u29 := er34
        subst er34
        have er31 : r31 = fX11_wayEnd saidF zk zw := hp33
        have hG := zbnd hG er31
        obtain ⟨hP, hD⟩ := z_re (L := [(n0, .inr (11, .ref a_tape :: .int m_taped :: .int m_laws :: .ref a_sign :: .ref a_length :: .ref a_clause :: .ref a_clauses :: .ref a_chain :: .int m_next :: .int m_wrong :: .int m_number :: .int m_text :: .int m_made :: .int m_deep :: .int m_lines :: .ref a_open :: .int m_opened :: .ref a_stack :: .int m_top :: .ref a_word :: .ref a_said :: .ref a_kept :: [.int m_goNode, .int m_goDrops, .int m_goHour, .int m_goFelt, .int m_goSalt, .int m_goMore, .ref a_stepNode, .ref a_stepDrops, .ref a_stepHour, .ref a_stepNext, .ref a_stepPass, .int m_bestLeft, .int m_bestHour, .int m_bestMany, .ref a_bestPass, .ref a_far, .ref a_waited, .ref a_servers, .ref a_images, .ref a_isMade])), (a_said, .inl (kA 0, 360, .inl saidF))]) hP hD
        refine z_i (wr := []) (va_runV (As := [.int p0, .int r31]) (rest := []) ⟨hx, hb, hml, hown, hts⟩ (mX11_other l dC dI kA _ n0 m_taped m_laws m_next m_wrong m_number m_text m_made m_deep m_lines m_opened m_top m_goNode m_goDrops m_goHour m_goFelt m_goSalt m_goMore m_bestLeft m_bestHour m_bestMany a_tape a_sign a_length a_clause a_clauses a_chain a_open a_stack a_word a_said a_kept a_stepNode a_stepDrops a_stepHour a_stepNext a_stepPass a_bestPass a_far a_waited a_servers a_images a_isMade saidF zn zp zj zo zf zm zk zw pd p0 r31 hsc c_27a (z_tr c_27b hz12)) (cwV 2 hts gX11_lay_X11_other rfl rfl rfl ⟨rfl, hdX11_other⟩ ⟨(Nat.le_of_ble_eq_true rfl), (Nat.le_of_ble_eq_true rfl)⟩) ⟨zPc.blind, va_recv (q := (RX11, TX11, 42)) hK.1 hP (ci := 11) (q0 := 0) rfl rfl, zPre hK (hP.sub [0, 1] rfl) (hD.sub [0, 1] (by decide) rfl)⟩ rfl rfl hl.1 rfl (lv_room (Nat.le_of_ble_eq_true rfl)) dX11_lay_38 ⟨(Nat.le_of_ble_eq_true rfl), (Nat.le_of_ble_eq_true rfl)⟩) hP hD hS hA [0, 1] [] rfl rfl (by decide) (by decide) (fun r38 u36 H locs hw37 hP hD hS => ?_)
        obtain ⟨rfl, hp39, hp40⟩ := hw37
        obtain ⟨hP, hD⟩ := z_re (L := [(n0, .inr (11, .ref a_tape :: .int m_taped :: .int m_laws :: .ref a_sign :: .ref a_length :: .ref a_clause :: .ref a_clauses :: .ref a_chain :: .int m_next :: .int m_wrong :: .int m_number :: .int m_text :: .int m_made :: .int m_deep :: .int m_lines :: .ref a_open :: .int m_opened :: .ref a_stack :: .int m_top :: .ref a_word :: .ref a_said :: .ref a_kept :: [.int m_goNode, .int m_goDrops, .int m_goHour, .int m_goFelt, .int m_goSalt, .int m_goMore, .ref a_stepNode, .ref a_stepDrops, .ref a_stepHour, .ref a_stepNext, .ref a_stepPass, .int m_bestLeft, .int m_bestHour, .int m_bestMany, .ref a_bestPass, .ref a_far, .ref a_waited, .ref a_servers, .ref a_images, .ref a_isMade])), (a_said, .inl (kA 0, 360, .inl saidF))]) hP hD
        refine lv_topi (fun x41 ex41 => ?_)
        have hG := zbnd hG ex41
        refine lv_istore_n (lv' := [(2, .int x41), (0, .ref n0), (1, .int p0)]) hx hb dX11_lay_41 rfl hl (by decide) rfl (fun ls hl => ?_)
        refine lv_iload_n hx hb dX11_lay_42 rfl (lv_at hl 0 rfl) ?_
        refine lv_if_lt (tgt := 54) hx hb dX11_lay_43 (by decide) (fun c_42 => ?_) (fun c_42 => ?_)
        · have hG := zthen hG c_42
          refine lv_iconst (v := (-1)) hx hb dX11_lay_54 (by decide) ?_
          obtain ⟨hP9, hD9⟩ := z_sb (L' := [(n0, .inr (11, .ref a_tape :: .int m_taped :: .int m_laws :: .ref a_sign :: .ref a_length :: .ref a_clause :: .ref a_clauses :: .ref a_chain :: .int m_next :: .int m_wrong :: .int m_number :: .int m_text :: .int m_made :: .int m_deep :: .int m_lines :: .ref a_open :: .int m_opened :: .ref a_stack :: .int m_top :: .ref a_word :: .ref a_said :: .ref a_kept :: [.int m_goNode, .int m_goDrops, .int m_goHour, .int m_goFelt, .int m_goSalt, .int m_goMore, .ref a_stepNode, .ref a_stepDrops, .ref a_stepHour, .ref a_stepNext, .ref a_stepPass, .int m_bestLeft, .int m_bestHour, .int m_bestMany, .ref a_bestPass, .ref a_far, .ref a_waited, .ref a_servers, .ref a_images, .ref a_isMade])), (a_said, .inl (kA 0, 360, .inl saidF))]) hP hD [0, 1] (by decide) rfl
          refine W.widen (k := 0) (n := 0) (Nat.le_of_ble_eq_true rfl) (Nat.le_of_ble_eq_true rfl) ?_
          exact W.iret (v := (-1)) hx hb hr (fun t ht hW => ⟨⟨(-1), (saidF, (-1)), rfl, ⟨rfl, (hG.trans hG0.symm), (by show SC saidF zn zp zj zo zf zm (saidF 8) (saidF 9) saidF; rw [hz7, hz8]; exact (SC_self hsc))⟩, by rw [ht]; exact hP9, hD9⟩, hS.F ht⟩) hS.2.2 dX11_lay_55
        · have hG := zelse hG c_42
          refine lv_aload_n hx hb dX11_lay_46 rfl (lv_at hl 1 rfl) ?_
          refine lv_iload_n hx hb dX11_lay_47 rfl (lv_at hl 0 rfl) ?_
          refine z_i (wr := []) (va_runV (As := [.int x41]) (rest := []) ⟨hx, hb, hml, hown, hts⟩ (mX11_isOfWay l dC dI kA _ n0 m_taped m_laws m_next m_wrong m_number m_text m_made m_deep m_lines m_opened m_top m_goNode m_goDrops m_goHour m_goFelt m_goSalt m_goMore m_bestLeft m_bestHour m_bestMany a_tape a_sign a_length a_clause a_clauses a_chain a_open a_stack a_word a_said a_kept a_stepNode a_stepDrops a_stepHour a_stepNext a_stepPass a_bestPass a_far a_waited a_servers a_images a_isMade saidF zn zp zj zo zf zm zk zw pd x41 hsc) (cwV 1 hts gX11_lay_X11_isOfWay rfl rfl rfl ⟨rfl, hdX11_isOfWay⟩ ⟨(Nat.le_of_ble_eq_true rfl), (Nat.le_of_ble_eq_true rfl)⟩) ⟨zPc.blind, va_recv (q := (RX11, TX11, 42)) hK.1 hP (ci := 11) (q0 := 0) rfl rfl, zPre hK (hP.sub [0, 1] rfl) (hD.sub [0, 1] (by decide) rfl)⟩ rfl rfl hl.1 rfl (lv_room (Nat.le_of_ble_eq_true rfl)) dX11_lay_48 ⟨(Nat.le_of_ble_eq_true rfl), (Nat.le_of_ble_eq_true rfl)⟩) hP hD hS hA [0, 1] [] rfl rfl (by decide) (by decide) (fun r45 u43 H locs hw44 hP hD hS => ?_)
          obtain ⟨er49, hp47, hp48⟩ := hw44
          have er49 : r45 = u43 := er49
          subst er49
          have er45 : r45 = fX11_isOfWay saidF zk zw x41 := hp47
          have hG := zbnd hG er45
          obtain ⟨hP, hD⟩ := z_re (L := [(n0, .inr (11, .ref a_tape :: .int m_taped :: .int m_laws :: .ref a_sign :: .ref a_length :: .ref a_clause :: .ref a_clauses :: .ref a_chain :: .int m_next :: .int m_wrong :: .int m_number :: .int m_text :: .int m_made :: .int m_deep :: .int m_lines :: .ref a_open :: .int m_opened :: .ref a_stack :: .int m_top :: .ref a_word :: .ref a_said :: .ref a_kept :: [.int m_goNode, .int m_goDrops, .int m_goHour, .int m_goFelt, .int m_goSalt, .int m_goMore, .ref a_stepNode, .ref a_stepDrops, .ref a_stepHour, .ref a_stepNext, .ref a_stepPass, .int m_bestLeft, .int m_bestHour, .int m_bestMany, .ref a_bestPass, .ref a_far, .ref a_waited, .ref a_servers, .ref a_images, .ref a_isMade])), (a_said, .inl (kA 0, 360, .inl saidF))]) hP hD
          refine lv_if_eq (tgt := 56) hx hb dX11_lay_51 (by decide) (fun c_51 => ?_) (fun c_51 => ?_)
          · have hG := zthen hG c_51
            refine lv_aload_n hx hb dX11_lay_56 rfl (lv_at hl 1 rfl) ?_
            refine va_get (D := (dC, dI)) (ci := 11) (v := .ref a_said) (C := RX11) (T := TX11) (N := 42) hx hb hts iX11_lay_X11 hown hK.1 hP 0 gz0 vcz11 20 (by decide) (kX11_lay_1 hts) (fun _ h9 => h9) gz20 dX11_lay_57 ?_
            refine lv_bipush (v := 10) hx hb dX11_lay_60 (by decide) ?_
            refine lv_aload_n hx hb dX11_lay_62 rfl (lv_at hl 1 rfl) ?_
            refine va_get (D := (dC, dI)) (ci := 11) (v := .ref a_said) (C := RX11) (T := TX11) (N := 42) hx hb hts iX11_lay_X11 hown hK.1 hP 0 gz0 vcz11 20 (by decide) (kX11_lay_1 hts) (fun _ h9 => h9) gz20 dX11_lay_63 ?_
            refine lv_bipush (v := 9) hx hb dX11_lay_66 (by decide) ?_
            refine va_iald hx hb hK.1 hP 1 0 gz1 tzz0 (vpd (by decide)) dX11_lay_68 ?_
            refine zi zw hz8 ?_
            refine lv_iadd hx hb dX11_lay_69 ?_
            refine lv_iload_n hx hb dX11_lay_70 rfl (lv_at hl 2 rfl) ?_
            refine va_iast hx hb hK.1 hP hD hS 1 0 gz1 tzz0 (vp_g (N := 360) (by decide) (gl_mX11_lay_0 zw hz21 hz22 c_28)) dX11_lay_71 (fun H locs hP hD hS => ?_)
            obtain ⟨hP, hD⟩ := z_re (L := [(n0, .inr (11, .ref a_tape :: .int m_taped :: .int m_laws :: .ref a_sign :: .ref a_length :: .ref a_clause :: .ref a_clauses :: .ref a_chain :: .int m_next :: .int m_wrong :: .int m_number :: .int m_text :: .int m_made :: .int m_deep :: .int m_lines :: .ref a_open :: .int m_opened :: .ref a_stack :: .int m_top :: .ref a_word :: .ref a_said :: .ref a_kept :: [.int m_goNode, .int m_goDrops, .int m_goHour, .int m_goFelt, .int m_goSalt, .int m_goMore, .ref a_stepNode, .ref a_stepDrops, .ref a_stepHour, .ref a_stepNext, .ref a_stepPass, .int m_bestLeft, .int m_bestHour, .int m_bestMany, .ref a_bestPass, .ref a_far, .ref a_waited, .ref a_servers, .ref a_images, .ref a_isMade])), (a_said, .inl (kA 0, 360, .inl (upd saidF (10 + zw).toNatClampNeg p0)))]) hP hD
            obtain ⟨f52, ef52⟩ : ∃ y : Nat → Int32, y = (upd saidF (10 + zw).toNatClampNeg p0) := ⟨_, rfl⟩
            rw [← ef52] at hP hD
            have hG := zbnd hG ef52
            have hu53 := upd_at ef52
            have hk54 : SC f52 zn zp zj zo zf zm zk zw (upd pd (10 + zw).toNatClampNeg p0) := by rw [ef52]; exact SC_wy hsc c_28 rfl
            have hz55 : f52 0 = zn := hk54.1.1
            have hz56 : f52 1 = zp := hk54.1.2.1
            have hz57 : f52 2 = zj := hk54.1.2.2.1
            have hz58 : f52 3 = zo := hk54.1.2.2.2.1
            have hz59 : f52 4 = zf := hk54.1.2.2.2.2.1
            have hz60 : f52 6 = zm := hk54.1.2.2.2.2.2.1
            have hz61 : f52 8 = zk := hk54.1.2.2.2.2.2.2.1
            have hz62 : f52 9 = zw := hk54.1.2.2.2.2.2.2.2
            refine lv_aload_n hx hb dX11_lay_72 rfl (lv_at hl 1 rfl) ?_
            refine va_get (D := (dC, dI)) (ci := 11) (v := .ref a_said) (C := RX11) (T := TX11) (N := 42) hx hb hts iX11_lay_X11 hown hK.1 hP 0 gz0 vcz11 20 (by decide) (kX11_lay_1 hts) (fun _ h9 => h9) gz20 dX11_lay_73 ?_
            refine lv_bipush (v := 9) hx hb dX11_lay_76 (by decide) ?_
            refine lv_dup2_11 hx hb dX11_lay_78 rfl rfl ?_
            refine va_iald hx hb hK.1 hP 1 0 gz1 tzz0 (vpd (by decide)) dX11_lay_79 ?_
            refine zi zw hz62 ?_
            refine lv_iconst (v := 1) hx hb dX11_lay_80 (by decide) ?_
            refine lv_iadd hx hb dX11_lay_81 ?_
            refine va_iast hx hb hK.1 hP hD hS 1 0 gz1 tzz0 (vpd (by decide)) dX11_lay_82 (fun H locs hP hD hS => ?_)
            obtain ⟨hP, hD⟩ := z_re (L := [(n0, .inr (11, .ref a_tape :: .int m_taped :: .int m_laws :: .ref a_sign :: .ref a_length :: .ref a_clause :: .ref a_clauses :: .ref a_chain :: .int m_next :: .int m_wrong :: .int m_number :: .int m_text :: .int m_made :: .int m_deep :: .int m_lines :: .ref a_open :: .int m_opened :: .ref a_stack :: .int m_top :: .ref a_word :: .ref a_said :: .ref a_kept :: [.int m_goNode, .int m_goDrops, .int m_goHour, .int m_goFelt, .int m_goSalt, .int m_goMore, .ref a_stepNode, .ref a_stepDrops, .ref a_stepHour, .ref a_stepNext, .ref a_stepPass, .int m_bestLeft, .int m_bestHour, .int m_bestMany, .ref a_bestPass, .ref a_far, .ref a_waited, .ref a_servers, .ref a_images, .ref a_isMade])), (a_said, .inl (kA 0, 360, .inl (upd f52 (9 : Int32).toNatClampNeg (zw + 1))))]) hP hD
            obtain ⟨f63, ef63⟩ : ∃ y : Nat → Int32, y = (upd f52 (9 : Int32).toNatClampNeg (zw + 1)) := ⟨_, rfl⟩
            rw [← ef63] at hP hD
            have hG := zbnd hG ef63
            have hu64 : f63 9 = (zw + 1) := upd_at ef63
            have hk65 : SC f63 zn zp zj zo zf zm zk (zw + 1) (upd pd (10 + zw).toNatClampNeg p0) := by rw [ef63]; exact SC_zw (i := (10 + zw)) (x := p0) hk54 c_28 rfl rfl hu53 (gl_mX11_lay_1 zp p0 hz11 hz12 c_27a c_27b)
            have hz66 : f63 0 = zn := hk65.1.1
            have hz67 : f63 1 = zp := hk65.1.2.1
            have hz68 : f63 2 = zj := hk65.1.2.2.1
            have hz69 : f63 3 = zo := hk65.1.2.2.2.1
            have hz70 : f63 4 = zf := hk65.1.2.2.2.2.1
            have hz71 : f63 6 = zm := hk65.1.2.2.2.2.2.1
            have hz72 : f63 8 = zk := hk65.1.2.2.2.2.2.2.1
            have hz73 : ¬ (zw + 1) < 0 := hk65.2.2.2.2.2.2.2.1.1
            have hz74 : ¬ 6 < (zw + 1) := hk65.2.2.2.2.2.2.2.1.2
            refine lv_aload_n hx hb dX11_lay_83 rfl (lv_at hl 1 rfl) ?_
            refine va_get (D := (dC, dI)) (ci := 11) (v := .ref a_said) (C := RX11) (T := TX11) (N := 42) hx hb hts iX11_lay_X11 hown hK.1 hP 0 gz0 vcz11 20 (by decide) (kX11_lay_1 hts) (fun _ h9 => h9) gz20 dX11_lay_84 ?_
            refine lv_bipush (v := 9) hx hb dX11_lay_87 (by decide) ?_
            refine va_iald hx hb hK.1 hP 1 0 gz1 tzz0 (vpd (by decide)) dX11_lay_89 ?_
            refine zi (f63 9) rfl ?_
            obtain ⟨hP9, hD9⟩ := z_sb (L' := [(n0, .inr (11, .ref a_tape :: .int m_taped :: .int m_laws :: .ref a_sign :: .ref a_length :: .ref a_clause :: .ref a_clauses :: .ref a_chain :: .int m_next :: .int m_wrong :: .int m_number :: .int m_text :: .int m_made :: .int m_deep :: .int m_lines :: .ref a_open :: .int m_opened :: .ref a_stack :: .int m_top :: .ref a_word :: .ref a_said :: .ref a_kept :: [.int m_goNode, .int m_goDrops, .int m_goHour, .int m_goFelt, .int m_goSalt, .int m_goMore, .ref a_stepNode, .ref a_stepDrops, .ref a_stepHour, .ref a_stepNext, .ref a_stepPass, .int m_bestLeft, .int m_bestHour, .int m_bestMany, .ref a_bestPass, .ref a_far, .ref a_waited, .ref a_servers, .ref a_images, .ref a_isMade])), (a_said, .inl (kA 0, 360, .inl f63))]) hP hD [0, 1] (by decide) rfl
            refine W.widen (k := 0) (n := 0) (Nat.le_of_ble_eq_true rfl) (Nat.le_of_ble_eq_true rfl) ?_
            exact W.iret (v := (f63 9)) hx hb hr (fun t ht hW => ⟨⟨(f63 9), (f63, (f63 9)), rfl, ⟨rfl, (hG.trans hG0.symm), (by show SC f63 zn zp zj zo zf zm (f63 8) (f63 9) f63; rw [hz72, hu64]; exact (SC_self hk65))⟩, by rw [ht]; exact hP9, hD9⟩, hS.F ht⟩) hS.2.2 dX11_lay_90
          · have hG := zelse hG c_51
            refine lv_iconst (v := (-1)) hx hb dX11_lay_54 (by decide) ?_
            obtain ⟨hP9, hD9⟩ := z_sb (L' := [(n0, .inr (11, .ref a_tape :: .int m_taped :: .int m_laws :: .ref a_sign :: .ref a_length :: .ref a_clause :: .ref a_clauses :: .ref a_chain :: .int m_next :: .int m_wrong :: .int m_number :: .int m_text :: .int m_made :: .int m_deep :: .int m_lines :: .ref a_open :: .int m_opened :: .ref a_stack :: .int m_top :: .ref a_word :: .ref a_said :: .ref a_kept :: [.int m_goNode, .int m_goDrops, .int m_goHour, .int m_goFelt, .int m_goSalt, .int m_goMore, .ref a_stepNode, .ref a_stepDrops, .ref a_stepHour, .ref a_stepNext, .ref a_stepPass, .int m_bestLeft, .int m_bestHour, .int m_bestMany, .ref a_bestPass, .ref a_far, .ref a_waited, .ref a_servers, .ref a_images, .ref a_isMade])), (a_said, .inl (kA 0, 360, .inl saidF))]) hP hD [0, 1] (by decide) rfl
            refine W.widen (k := 0) (n := 0) (Nat.le_of_ble_eq_true rfl) (Nat.le_of_ble_eq_true rfl) ?_
            exact W.iret (v := (-1)) hx hb hr (fun t ht hW => ⟨⟨(-1), (saidF, (-1)), rfl, ⟨rfl, (hG.trans hG0.symm), (by show SC saidF zn zp zj zo zf zm (saidF 8) (saidF 9) saidF; rw [hz7, hz8]; exact (SC_self hsc))⟩, by rw [ht]; exact hP9, hD9⟩, hS.F ht⟩) hS.2.2 dX11_lay_55
      · have hG := zthen hG c_28
        refine lv_iconst (v := (-1)) hx hb dX11_lay_30 (by decide) ?_
        obtain ⟨hP9, hD9⟩ := z_sb (L' := [(n0, .inr (11, .ref a_tape :: .int m_taped :: .int m_laws :: .ref a_sign :: .ref a_length :: .ref a_clause :: .ref a_clauses :: .ref a_chain :: .int m_next :: .int m_wrong :: .int m_number :: .int m_text :: .int m_made :: .int m_deep :: .int m_lines :: .ref a_open :: .int m_opened :: .ref a_stack :: .int m_top :: .ref a_word :: .ref a_said :: .ref a_kept :: [.int m_goNode, .int m_goDrops, .int m_goHour, .int m_goFelt, .int m_goSalt, .int m_goMore, .ref a_stepNode, .ref a_stepDrops, .ref a_stepHour, .ref a_stepNext, .ref a_stepPass, .int m_bestLeft, .int m_bestHour, .int m_bestMany, .ref a_bestPass, .ref a_far, .ref a_waited, .ref a_servers, .ref a_images, .ref a_isMade])), (a_said, .inl (kA 0, 360, .inl saidF))]) hP hD [0, 1] (by decide) rfl
        refine W.widen (k := 0) (n := 0) (Nat.le_of_ble_eq_true rfl) (Nat.le_of_ble_eq_true rfl) ?_
        exact W.iret (v := (-1)) hx hb hr (fun t ht hW => ⟨⟨(-1), (saidF, (-1)), rfl, ⟨rfl, (hG.trans hG0.symm), (by show SC saidF zn zp zj zo zf zm (saidF 8) (saidF 9) saidF; rw [hz7, hz8]; exact (SC_self hsc))⟩, by rw [ht]; exact hP9, hD9⟩, hS.F ht⟩) hS.2.2 dX11_lay_31
