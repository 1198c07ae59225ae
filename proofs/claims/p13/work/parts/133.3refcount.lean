def ixX11_count : List Nat := [5, 153, 264, 458, 625, 626, 627, 628, 1392, 1499, 1500, 1501, 1502, 1503, 1504, 1505, 1506, 1507, 1508, 1509, 1510, 1511, 1512, 1513, 1514, 1515, 1516, 1517, 1518, 1519, 1520, 1521, 1522, 1523, 1524, 1525, 1526, 1527, 1528, 1529, 1530, 1531, 1532, 1533, 1534, 1535, 1536, 1537, 1538, 1539, 1540]
def wsX11_count : List Cond := .code yX11_count cX11_count 2 (some .int) :: ixX11_count.map wt
theorem ggX11_count_X11_monthAt : GoodIn wsX11_count wsX11_monthAt := gi_ (A := ixX11_count) (B := ixX11_monthAt) wt628 (by decide +kernel)
theorem gX11_count_X11_monthAt : GoodIn wsX11_count (wsV RX11 291 RX11 yX11_monthAt wsX11_monthAt) := g4_ (A := ixX11_count) wt625 wt626 wt627 wt5 (by decide +kernel) ggX11_count_X11_monthAt
theorem kX11_count_1 {a : Array Value} {s : State} (hts : ∀ w ∈ wsX11_count, w.before a s = true) : (.fieldLink RX11 39 "SnowMulesModel" "said" "[I" : Cond).before a s = true := kw (A := ixX11_count) wt153 hts (by decide +kernel)
theorem kX11_count_2 {a : Array Value} {s : State} (hts : ∀ w ∈ wsX11_count, w.before a s = true) : (.fieldLink RX11 232 "SnowMulesModel" "laws" "I" : Cond).before a s = true := kw (A := ixX11_count) wt458 hts (by decide +kernel)
theorem kX11_count_3 {a : Array Value} {s : State} (hts : ∀ w ∈ wsX11_count, w.before a s = true) : (.fieldLink RX11 79 "SnowMulesModel" "taped" "I" : Cond).before a s = true := kw (A := ixX11_count) wt264 hts (by decide +kernel)
theorem iX11_count_X11 : ∀ w ∈ wsX110, w ∈ wsX11_count := inW (A := ixX11_count) uwX11 (by decide +kernel)
def dtX11_count_133_0 : List (Nat × Jvm.ClassFile.Instr × Nat) := [(0, .iload_n 1, 1), (1, .tableswitch 133 0 10 #[59, 59, 59, 66, 71, 78, 89, 89, 98, 120, 128], 59), (134, .iconst (-1), 1), (135, .ireturn, 1), (60, .aload_n 0, 1), (61, .getfield 39, 3), (64, .iload_n 1, 1), (65, .iaload, 1), (66, .ireturn, 1), (67, .aload_n 0, 1), (68, .getfield 232, 3), (71, .ireturn, 1), (72, .aload_n 0, 1), (73, .getfield 39, 3), (76, .iconst 5, 1), (77, .iaload, 1), (78, .ireturn, 1), (79, .aload_n 0, 1), (80, .aload_n 0, 1), (81, .getfield 39, 3), (84, .iconst 5, 1), (85, .iaload, 1), (86, .invokevirtual 291, 3), (89, .ireturn, 1), (90, .aload_n 0, 1), (91, .getfield 39, 3), (94, .iload_n 1, 1), (95, .iconst 3, 1), (96, .isub, 1), (97, .iaload, 1), (98, .ireturn, 1), (99, .aload_n 0, 1)]
theorem daX11_count_133_0 : dtX11_count_133_0.all (dqd cX11_count) = true := by decide +kernel
theorem dX11_count_0 : decode cX11_count 0 = .ok (.iload_n 1, 1) := dq daX11_count_133_0 0 rfl
theorem dX11_count_1 : decode cX11_count 1 = .ok (.tableswitch 133 0 10 #[59, 59, 59, 66, 71, 78, 89, 89, 98, 120, 128], 59) := dq daX11_count_133_0 1 rfl
theorem dX11_count_134 : decode cX11_count 134 = .ok (.iconst (-1), 1) := dq daX11_count_133_0 2 rfl
theorem dX11_count_135 : decode cX11_count 135 = .ok (.ireturn, 1) := dq daX11_count_133_0 3 rfl
theorem dX11_count_60 : decode cX11_count 60 = .ok (.aload_n 0, 1) := dq daX11_count_133_0 4 rfl
theorem dX11_count_61 : decode cX11_count 61 = .ok (.getfield 39, 3) := dq daX11_count_133_0 5 rfl
theorem dX11_count_64 : decode cX11_count 64 = .ok (.iload_n 1, 1) := dq daX11_count_133_0 6 rfl
theorem dX11_count_65 : decode cX11_count 65 = .ok (.iaload, 1) := dq daX11_count_133_0 7 rfl
theorem dX11_count_66 : decode cX11_count 66 = .ok (.ireturn, 1) := dq daX11_count_133_0 8 rfl
theorem dX11_count_67 : decode cX11_count 67 = .ok (.aload_n 0, 1) := dq daX11_count_133_0 9 rfl
theorem dX11_count_68 : decode cX11_count 68 = .ok (.getfield 232, 3) := dq daX11_count_133_0 10 rfl
theorem dX11_count_71 : decode cX11_count 71 = .ok (.ireturn, 1) := dq daX11_count_133_0 11 rfl
theorem dX11_count_72 : decode cX11_count 72 = .ok (.aload_n 0, 1) := dq daX11_count_133_0 12 rfl
theorem dX11_count_73 : decode cX11_count 73 = .ok (.getfield 39, 3) := dq daX11_count_133_0 13 rfl
theorem dX11_count_76 : decode cX11_count 76 = .ok (.iconst 5, 1) := dq daX11_count_133_0 14 rfl
theorem dX11_count_77 : decode cX11_count 77 = .ok (.iaload, 1) := dq daX11_count_133_0 15 rfl
theorem dX11_count_78 : decode cX11_count 78 = .ok (.ireturn, 1) := dq daX11_count_133_0 16 rfl
theorem dX11_count_79 : decode cX11_count 79 = .ok (.aload_n 0, 1) := dq daX11_count_133_0 17 rfl
theorem dX11_count_80 : decode cX11_count 80 = .ok (.aload_n 0, 1) := dq daX11_count_133_0 18 rfl
theorem dX11_count_81 : decode cX11_count 81 = .ok (.getfield 39, 3) := dq daX11_count_133_0 19 rfl
theorem dX11_count_84 : decode cX11_count 84 = .ok (.iconst 5, 1) := dq daX11_count_133_0 20 rfl
theorem dX11_count_85 : decode cX11_count 85 = .ok (.iaload, 1) := dq daX11_count_133_0 21 rfl
theorem dX11_count_86 : decode cX11_count 86 = .ok (.invokevirtual 291, 3) := dq daX11_count_133_0 22 rfl
theorem dX11_count_89 : decode cX11_count 89 = .ok (.ireturn, 1) := dq daX11_count_133_0 23 rfl
theorem dX11_count_90 : decode cX11_count 90 = .ok (.aload_n 0, 1) := dq daX11_count_133_0 24 rfl
theorem dX11_count_91 : decode cX11_count 91 = .ok (.getfield 39, 3) := dq daX11_count_133_0 25 rfl
theorem dX11_count_94 : decode cX11_count 94 = .ok (.iload_n 1, 1) := dq daX11_count_133_0 26 rfl
theorem dX11_count_95 : decode cX11_count 95 = .ok (.iconst 3, 1) := dq daX11_count_133_0 27 rfl
theorem dX11_count_96 : decode cX11_count 96 = .ok (.isub, 1) := dq daX11_count_133_0 28 rfl
theorem dX11_count_97 : decode cX11_count 97 = .ok (.iaload, 1) := dq daX11_count_133_0 29 rfl
theorem dX11_count_98 : decode cX11_count 98 = .ok (.ireturn, 1) := dq daX11_count_133_0 30 rfl
theorem dX11_count_99 : decode cX11_count 99 = .ok (.aload_n 0, 1) := dq daX11_count_133_0 31 rfl
def dtX11_count_133_1 : List (Nat × Jvm.ClassFile.Instr × Nat) := [(100, .getfield 39, 3), (103, .bipush 8, 2), (105, .iaload, 1), (106, .ifCond .ge 7, 3), (113, .aload_n 0, 1), (114, .getfield 39, 3), (117, .bipush 9, 2), (119, .iaload, 1), (120, .ireturn, 1), (109, .iconst (-1), 1), (110, .goto 10, 3), (121, .aload_n 0, 1), (122, .getfield 39, 3), (125, .bipush 7, 2), (127, .iaload, 1), (128, .ireturn, 1), (129, .aload_n 0, 1), (130, .getfield 79, 3), (133, .ireturn, 1)]
theorem daX11_count_133_1 : dtX11_count_133_1.all (dqd cX11_count) = true := by decide +kernel
theorem dX11_count_100 : decode cX11_count 100 = .ok (.getfield 39, 3) := dq daX11_count_133_1 0 rfl
theorem dX11_count_103 : decode cX11_count 103 = .ok (.bipush 8, 2) := dq daX11_count_133_1 1 rfl
theorem dX11_count_105 : decode cX11_count 105 = .ok (.iaload, 1) := dq daX11_count_133_1 2 rfl
theorem dX11_count_106 : decode cX11_count 106 = .ok (.ifCond .ge 7, 3) := dq daX11_count_133_1 3 rfl
theorem dX11_count_113 : decode cX11_count 113 = .ok (.aload_n 0, 1) := dq daX11_count_133_1 4 rfl
theorem dX11_count_114 : decode cX11_count 114 = .ok (.getfield 39, 3) := dq daX11_count_133_1 5 rfl
theorem dX11_count_117 : decode cX11_count 117 = .ok (.bipush 9, 2) := dq daX11_count_133_1 6 rfl
theorem dX11_count_119 : decode cX11_count 119 = .ok (.iaload, 1) := dq daX11_count_133_1 7 rfl
theorem dX11_count_120 : decode cX11_count 120 = .ok (.ireturn, 1) := dq daX11_count_133_1 8 rfl
theorem dX11_count_109 : decode cX11_count 109 = .ok (.iconst (-1), 1) := dq daX11_count_133_1 9 rfl
theorem dX11_count_110 : decode cX11_count 110 = .ok (.goto 10, 3) := dq daX11_count_133_1 10 rfl
theorem dX11_count_121 : decode cX11_count 121 = .ok (.aload_n 0, 1) := dq daX11_count_133_1 11 rfl
theorem dX11_count_122 : decode cX11_count 122 = .ok (.getfield 39, 3) := dq daX11_count_133_1 12 rfl
theorem dX11_count_125 : decode cX11_count 125 = .ok (.bipush 7, 2) := dq daX11_count_133_1 13 rfl
theorem dX11_count_127 : decode cX11_count 127 = .ok (.iaload, 1) := dq daX11_count_133_1 14 rfl
theorem dX11_count_128 : decode cX11_count 128 = .ok (.ireturn, 1) := dq daX11_count_133_1 15 rfl
theorem dX11_count_129 : decode cX11_count 129 = .ok (.aload_n 0, 1) := dq daX11_count_133_1 16 rfl
theorem dX11_count_130 : decode cX11_count 130 = .ok (.getfield 79, 3) := dq daX11_count_133_1 17 rfl
theorem dX11_count_133 : decode cX11_count 133 = .ok (.ireturn, 1) := dq daX11_count_133_1 18 rfl
set_option maxRecDepth 100000 in
def fX11_count (m_taped : Int32) (m_laws : Int32) (saidF : Nat → Int32) (zn : Int32) (zp : Int32) (zj : Int32) (zo : Int32) (zf : Int32) (zm : Int32) (zk : Int32) (zw : Int32) (p0 : Int32) : Int32 := if p0 = 0 then (zn) else (if p0 = 1 then (zp) else (if p0 = 2 then (zj) else (if p0 = 3 then (m_laws) else (if p0 = 4 then ((saidF 5)) else (if p0 = 5 then (bnd (fX11_monthAt zm (saidF 5)) (fun (r26 : Int32) => r26)) else (if p0 = 6 then (zo) else (if p0 = 7 then (zf) else (if p0 = 8 then (if 0 ≤ zk then (zw) else ((-1))) else (if p0 = 9 then ((saidF 7)) else (if p0 = 10 then (m_taped) else ((-1))))))))))))
set_option maxHeartbeats 4000000 in
set_option maxRecDepth 100000 in
theorem mX11_count (l : Launch) (dC : Nat → ClassId) (dI : Nat → Nat → Nat) (kA : Nat → ClassId) (sz : Nat) (n0 : Nat) (m_taped : Int32) (m_laws : Int32) (m_next : Int32) (m_wrong : Int32) (m_number : Int32) (m_text : Int32) (m_made : Int32) (m_deep : Int32) (m_lines : Int32) (m_opened : Int32) (m_top : Int32) (m_goNode : Int32) (m_goDrops : Int32) (m_goHour : Int32) (m_goFelt : Int32) (m_goSalt : Int32) (m_goMore : Int32) (m_bestLeft : Int32) (m_bestHour : Int32) (m_bestMany : Int32) (a_tape : Nat) (a_sign : Nat) (a_length : Nat) (a_clause : Nat) (a_clauses : Nat) (a_chain : Nat) (a_open : Nat) (a_stack : Nat) (a_word : Nat) (a_said : Nat) (a_kept : Nat) (a_stepNode : Nat) (a_stepDrops : Nat) (a_stepHour : Nat) (a_stepNext : Nat) (a_stepPass : Nat) (a_bestPass : Nat) (a_far : Nat) (a_waited : Nat) (a_servers : Nat) (a_images : Nat) (a_isMade : Nat) (saidF : Nat → Int32) (zn : Int32) (zp : Int32) (zj : Int32) (zo : Int32) (zf : Int32) (zm : Int32) (zk : Int32) (zw : Int32) (pd : Nat → Int32) (p0 : Int32) (hsc : SC saidF zn zp zj zo zf zm zk zw pd) : Met l yX11_count wsX11_count ({ frames := 1, cells := 0, slots := 0, locals := 21 }) (zPc dC dI kA sz [.ref n0, .int p0] [(n0, .inr (11, .ref a_tape :: .int m_taped :: .int m_laws :: .ref a_sign :: .ref a_length :: .ref a_clause :: .ref a_clauses :: .ref a_chain :: .int m_next :: .int m_wrong :: .int m_number :: .int m_text :: .int m_made :: .int m_deep :: .int m_lines :: .ref a_open :: .int m_opened :: .ref a_stack :: .int m_top :: .ref a_word :: .ref a_said :: .ref a_kept :: [.int m_goNode, .int m_goDrops, .int m_goHour, .int m_goFelt, .int m_goSalt, .int m_goMore, .ref a_stepNode, .ref a_stepDrops, .ref a_stepHour, .ref a_stepNext, .ref a_stepPass, .int m_bestLeft, .int m_bestHour, .int m_bestMany, .ref a_bestPass, .ref a_far, .ref a_waited, .ref a_servers, .ref a_images, .ref a_isMade])), (a_said, .inl (kA 0, 360, .inl saidF))]) (va_Qi (fun (r : Int32) (u : Int32) => r = u ∧ u = fX11_count m_taped m_laws saidF zn zp zj zo zf zm zk zw p0) (zB dC dI (va_A [(n0, .inr (11, .ref a_tape :: .int m_taped :: .int m_laws :: .ref a_sign :: .ref a_length :: .ref a_clause :: .ref a_clauses :: .ref a_chain :: .int m_next :: .int m_wrong :: .int m_number :: .int m_text :: .int m_made :: .int m_deep :: .int m_lines :: .ref a_open :: .int m_opened :: .ref a_stack :: .int m_top :: .ref a_word :: .ref a_said :: .ref a_kept :: [.int m_goNode, .int m_goDrops, .int m_goHour, .int m_goFelt, .int m_goSalt, .int m_goMore, .ref a_stepNode, .ref a_stepDrops, .ref a_stepHour, .ref a_stepNext, .ref a_stepPass, .int m_bestLeft, .int m_bestHour, .int m_bestMany, .ref a_bestPass, .ref a_far, .ref a_waited, .ref a_servers, .ref a_images, .ref a_isMade])), (a_said, .inl (kA 0, 360, .inl saidF))] sz) (fun (u : Int32) => [(n0, .inr (11, .ref a_tape :: .int m_taped :: .int m_laws :: .ref a_sign :: .ref a_length :: .ref a_clause :: .ref a_clauses :: .ref a_chain :: .int m_next :: .int m_wrong :: .int m_number :: .int m_text :: .int m_made :: .int m_deep :: .int m_lines :: .ref a_open :: .int m_opened :: .ref a_stack :: .int m_top :: .ref a_word :: .ref a_said :: .ref a_kept :: [.int m_goNode, .int m_goDrops, .int m_goHour, .int m_goFelt, .int m_goSalt, .int m_goMore, .ref a_stepNode, .ref a_stepDrops, .ref a_stepHour, .ref a_stepNext, .ref a_stepPass, .int m_bestLeft, .int m_bestHour, .int m_bestMany, .ref a_bestPass, .ref a_far, .ref a_waited, .ref a_servers, .ref a_images, .ref a_isMade])), (a_said, .inl (kA 0, 360, .inl saidF))])) (va_A [(n0, .inr (11, .ref a_tape :: .int m_taped :: .int m_laws :: .ref a_sign :: .ref a_length :: .ref a_clause :: .ref a_clauses :: .ref a_chain :: .int m_next :: .int m_wrong :: .int m_number :: .int m_text :: .int m_made :: .int m_deep :: .int m_lines :: .ref a_open :: .int m_opened :: .ref a_stack :: .int m_top :: .ref a_word :: .ref a_said :: .ref a_kept :: [.int m_goNode, .int m_goDrops, .int m_goHour, .int m_goFelt, .int m_goSalt, .int m_goMore, .ref a_stepNode, .ref a_stepDrops, .ref a_stepHour, .ref a_stepNext, .ref a_stepPass, .int m_bestLeft, .int m_bestHour, .int m_bestMany, .ref a_bestPass, .ref a_far, .ref a_waited, .ref a_servers, .ref a_images, .ref a_isMade])), (a_said, .inl (kA 0, 360, .inl saidF))] sz)) 0 0 (va_A [(n0, .inr (11, .ref a_tape :: .int m_taped :: .int m_laws :: .ref a_sign :: .ref a_length :: .ref a_clause :: .ref a_clauses :: .ref a_chain :: .int m_next :: .int m_wrong :: .int m_number :: .int m_text :: .int m_made :: .int m_deep :: .int m_lines :: .ref a_open :: .int m_opened :: .ref a_stack :: .int m_top :: .ref a_word :: .ref a_said :: .ref a_kept :: [.int m_goNode, .int m_goDrops, .int m_goHour, .int m_goFelt, .int m_goSalt, .int m_goMore, .ref a_stepNode, .ref a_stepDrops, .ref a_stepHour, .ref a_stepNext, .ref a_stepPass, .int m_bestLeft, .int m_bestHour, .int m_bestMany, .ref a_bestPass, .ref a_far, .ref a_waited, .ref a_servers, .ref a_images, .ref a_isMade])), (a_said, .inl (kA 0, 360, .inl saidF))] sz) := by
  refine Met.ofW (cc := cX11_count) (maxL := 2) (ret := (some .int)) pnX11 rfl ?_
  intro p e s m args below meth c s₁ B hml hv
  obtain ⟨rfl, hsz, hP, hK, hD0⟩ := hv
  have hx := B.exec
  have hb := B.bytes
  have hr := B.returns
  have hts := atoms_spec (ws := wsX11_count) B.pre
  have hown : s.vm.findClass RX11 = some m.cls := findClass_of_methodNamed B.named
  have hlocks := B.notSynchronized
  subst hsz
  have hD := hD0.self (sz := s.heap.size)
  generalize hAe : va_A [(n0, .inr (11, .ref a_tape :: .int m_taped :: .int m_laws :: .ref a_sign :: .ref a_length :: .ref a_clause :: .ref a_clauses :: .ref a_chain :: .int m_next :: .int m_wrong :: .int m_number :: .int m_text :: .int m_made :: .int m_deep :: .int m_lines :: .ref a_open :: .int m_opened :: .ref a_stack :: .int m_top :: .ref a_word :: .ref a_said :: .ref a_kept :: [.int m_goNode, .int m_goDrops, .int m_goHour, .int m_goFelt, .int m_goSalt, .int m_goMore, .ref a_stepNode, .ref a_stepDrops, .ref a_stepHour, .ref a_stepNext, .ref a_stepPass, .int m_bestLeft, .int m_bestHour, .int m_bestMany, .ref a_bestPass, .ref a_far, .ref a_waited, .ref a_servers, .ref a_images, .ref a_isMade])), (a_said, .inl (kA 0, 360, .inl saidF))] s.heap.size = A at hD ⊢
  have hA : ∀ q : Nat, s.heap.size ≤ q → A q := zA_of hAe
  have hS : va_S A s.heap s.heap [] := va_S.rf
  have hP : va_P (dC, dI) vwCl [(n0, .inr (11, .ref a_tape :: .int m_taped :: .int m_laws :: .ref a_sign :: .ref a_length :: .ref a_clause :: .ref a_clauses :: .ref a_chain :: .int m_next :: .int m_wrong :: .int m_number :: .int m_text :: .int m_made :: .int m_deep :: .int m_lines :: .ref a_open :: .int m_opened :: .ref a_stack :: .int m_top :: .ref a_word :: .ref a_said :: .ref a_kept :: [.int m_goNode, .int m_goDrops, .int m_goHour, .int m_goFelt, .int m_goSalt, .int m_goMore, .ref a_stepNode, .ref a_stepDrops, .ref a_stepHour, .ref a_stepNext, .ref a_stepPass, .int m_bestLeft, .int m_bestHour, .int m_bestMany, .ref a_bestPass, .ref a_far, .ref a_waited, .ref a_servers, .ref a_images, .ref a_isMade])), (a_said, .inl (kA 0, 360, .inl saidF))] s.heap := hP
  have hl := lv_entry ([.ref n0, .int p0]) (n := 2) (Nat.le_of_ble_eq_true rfl)
  rw [lg_entry_eq]
  generalize (lg_sl ([.ref n0, .int p0]) ++ List.replicate (2 - (lg_sl ([.ref n0, .int p0])).length) Slot.unset).toArray = ls at hl ⊢
  have hl : lv_has ls 2 [(0, .ref n0), (1, .int p0)] := hl
  obtain ⟨G, hG0⟩ : ∃ G : Int32, fX11_count m_taped m_laws saidF zn zp zj zo zf zm zk zw p0 = G := ⟨_, rfl⟩
  have hG := hG0
  unfold fX11_count at hG
  have hz1 : saidF 0 = zn := hsc.1.1
  have hz2 : saidF 1 = zp := hsc.1.2.1
  have hz3 : saidF 2 = zj := hsc.1.2.2.1
  have hz4 : saidF 3 = zo := hsc.1.2.2.2.1
  have hz5 : saidF 4 = zf := hsc.1.2.2.2.2.1
  have hz6 : saidF 6 = zm := hsc.1.2.2.2.2.2.1
  have hz7 : saidF 8 = zk := hsc.1.2.2.2.2.2.2.1
  have hz8 : saidF 9 = zw := hsc.1.2.2.2.2.2.2.2
  have hz9 : ¬ zn < 0 := hsc.2.1.1
  have hz10 : ¬ 12 < zn := hsc.2.1.2
  have hz11 : ¬ zp < 0 := hsc.2.2.1.1
  have hz12 : ¬ 20 < zp := hsc.2.2.1.2
  have hz13 : ¬ zj < 0 := hsc.2.2.2.1.1
  have hz14 : ¬ 16 < zj := hsc.2.2.2.1.2
  have hz15 : ¬ zo < 0 := hsc.2.2.2.2.1.1
  have hz16 : ¬ 6 < zo := hsc.2.2.2.2.1.2
  have hz17 : ¬ zf < 0 := hsc.2.2.2.2.2.1.1
  have hz18 : ¬ 8 < zf := hsc.2.2.2.2.2.1.2
  have hz19 : ¬ zk < (-1) := hsc.2.2.2.2.2.2.1.1
  have hz20 : ¬ 12 ≤ zk := hsc.2.2.2.2.2.2.1.2
  have hz21 : ¬ zw < 0 := hsc.2.2.2.2.2.2.2.1.1
  have hz22 : ¬ 6 < zw := hsc.2.2.2.2.2.2.2.1.2
  refine lv_iload_n hx hb dX11_count_0 rfl (lv_at hl 1 rfl) ?_
  rcases sw_0_10 p0 with hs23 | hs23 | hs23 | hs23 | hs23 | hs23 | hs23 | hs23 | hs23 | hs23 | hs23 | hs23
  · have hG := zelse hG (fun q9 => by rw [q9] at hs23; revert hs23; decide)
    have hG := zelse hG (fun q9 => by rw [q9] at hs23; revert hs23; decide)
    have hG := zelse hG (fun q9 => by rw [q9] at hs23; revert hs23; decide)
    have hG := zelse hG (fun q9 => by rw [q9] at hs23; revert hs23; decide)
    have hG := zelse hG (fun q9 => by rw [q9] at hs23; revert hs23; decide)
    have hG := zelse hG (fun q9 => by rw [q9] at hs23; revert hs23; decide)
    have hG := zelse hG (fun q9 => by rw [q9] at hs23; revert hs23; decide)
    have hG := zelse hG (fun q9 => by rw [q9] at hs23; revert hs23; decide)
    have hG := zelse hG (fun q9 => by rw [q9] at hs23; revert hs23; decide)
    have hG := zelse hG (fun q9 => by rw [q9] at hs23; revert hs23; decide)
    have hG := zelse hG (fun q9 => by rw [q9] at hs23; revert hs23; decide)
    refine lv_tableOut (tgt := 134) hx hb dX11_count_1 hs23 (by decide) ?_
    refine lv_iconst (v := (-1)) hx hb dX11_count_134 (by decide) ?_
    obtain ⟨hP9, hD9⟩ := z_sb (L' := [(n0, .inr (11, .ref a_tape :: .int m_taped :: .int m_laws :: .ref a_sign :: .ref a_length :: .ref a_clause :: .ref a_clauses :: .ref a_chain :: .int m_next :: .int m_wrong :: .int m_number :: .int m_text :: .int m_made :: .int m_deep :: .int m_lines :: .ref a_open :: .int m_opened :: .ref a_stack :: .int m_top :: .ref a_word :: .ref a_said :: .ref a_kept :: [.int m_goNode, .int m_goDrops, .int m_goHour, .int m_goFelt, .int m_goSalt, .int m_goMore, .ref a_stepNode, .ref a_stepDrops, .ref a_stepHour, .ref a_stepNext, .ref a_stepPass, .int m_bestLeft, .int m_bestHour, .int m_bestMany, .ref a_bestPass, .ref a_far, .ref a_waited, .ref a_servers, .ref a_images, .ref a_isMade])), (a_said, .inl (kA 0, 360, .inl saidF))]) hP hD [0, 1] (by decide) rfl
    refine W.widen (k := 0) (n := 0) (Nat.le_of_ble_eq_true rfl) (Nat.le_of_ble_eq_true rfl) ?_
    exact W.iret (v := (-1)) hx hb hr (fun t ht hW => ⟨⟨(-1), ((-1)), rfl, ⟨rfl, (hG.trans hG0.symm)⟩, by rw [ht]; exact hP9, hD9⟩, hS.F ht⟩) hS.2.2 dX11_count_135
  · have hG := zthen hG hs23
    refine lv_tableIn (off := 59) (tgt := 60) hx hb dX11_count_1 (by rw [hs23]; decide) (by rw [hs23]; decide) (by rw [hs23]; decide) (by decide) ?_
    have hl : lv_has ls 2 [(0, .ref n0), (1, .int 0)] := by rw [hs23] at hl; exact hl
    refine lv_aload_n hx hb dX11_count_60 rfl (lv_at hl 0 rfl) ?_
    refine va_get (D := (dC, dI)) (ci := 11) (v := .ref a_said) (C := RX11) (T := TX11) (N := 42) hx hb hts iX11_count_X11 hown hK.1 hP 0 gz0 vcz11 20 (by decide) (kX11_count_1 hts) (fun _ h9 => h9) gz20 dX11_count_61 ?_
    refine lv_iload_n hx hb dX11_count_64 rfl (lv_at hl 1 rfl) ?_
    refine va_iald hx hb hK.1 hP 1 0 gz1 tzz0 (vpd (by decide)) dX11_count_65 ?_
    refine zi zn hz1 ?_
    obtain ⟨hP9, hD9⟩ := z_sb (L' := [(n0, .inr (11, .ref a_tape :: .int m_taped :: .int m_laws :: .ref a_sign :: .ref a_length :: .ref a_clause :: .ref a_clauses :: .ref a_chain :: .int m_next :: .int m_wrong :: .int m_number :: .int m_text :: .int m_made :: .int m_deep :: .int m_lines :: .ref a_open :: .int m_opened :: .ref a_stack :: .int m_top :: .ref a_word :: .ref a_said :: .ref a_kept :: [.int m_goNode, .int m_goDrops, .int m_goHour, .int m_goFelt, .int m_goSalt, .int m_goMore, .ref a_stepNode, .ref a_stepDrops, .ref a_stepHour, .ref a_stepNext, .ref a_stepPass, .int m_bestLeft, .int m_bestHour, .int m_bestMany, .ref a_bestPass, .ref a_far, .ref a_waited, .ref a_servers, .ref a_images, .ref a_isMade])), (a_said, .inl (kA 0, 360, .inl saidF))]) hP hD [0, 1] (by decide) rfl
    refine W.widen (k := 0) (n := 0) (Nat.le_of_ble_eq_true rfl) (Nat.le_of_ble_eq_true rfl) ?_
    exact W.iret (v := zn) hx hb hr (fun t ht hW => ⟨⟨zn, (zn), rfl, ⟨rfl, (hG.trans hG0.symm)⟩, by rw [ht]; exact hP9, hD9⟩, hS.F ht⟩) hS.2.2 dX11_count_66
  · have hG := zelse hG (fun q9 => by rw [q9] at hs23; revert hs23; decide)
    have hG := zthen hG hs23
    refine lv_tableIn (off := 59) (tgt := 60) hx hb dX11_count_1 (by rw [hs23]; decide) (by rw [hs23]; decide) (by rw [hs23]; decide) (by decide) ?_
    have hl : lv_has ls 2 [(0, .ref n0), (1, .int 1)] := by rw [hs23] at hl; exact hl
    refine lv_aload_n hx hb dX11_count_60 rfl (lv_at hl 0 rfl) ?_
    refine va_get (D := (dC, dI)) (ci := 11) (v := .ref a_said) (C := RX11) (T := TX11) (N := 42) hx hb hts iX11_count_X11 hown hK.1 hP 0 gz0 vcz11 20 (by decide) (kX11_count_1 hts) (fun _ h9 => h9) gz20 dX11_count_61 ?_
    refine lv_iload_n hx hb dX11_count_64 rfl (lv_at hl 1 rfl) ?_
    refine va_iald hx hb hK.1 hP 1 0 gz1 tzz0 (vpd (by decide)) dX11_count_65 ?_
    refine zi zp hz2 ?_
    obtain ⟨hP9, hD9⟩ := z_sb (L' := [(n0, .inr (11, .ref a_tape :: .int m_taped :: .int m_laws :: .ref a_sign :: .ref a_length :: .ref a_clause :: .ref a_clauses :: .ref a_chain :: .int m_next :: .int m_wrong :: .int m_number :: .int m_text :: .int m_made :: .int m_deep :: .int m_lines :: .ref a_open :: .int m_opened :: .ref a_stack :: .int m_top :: .ref a_word :: .ref a_said :: .ref a_kept :: [.int m_goNode, .int m_goDrops, .int m_goHour, .int m_goFelt, .int m_goSalt, .int m_goMore, .ref a_stepNode, .ref a_stepDrops, .ref a_stepHour, .ref a_stepNext, .ref a_stepPass, .int m_bestLeft, .int m_bestHour, .int m_bestMany, .ref a_bestPass, .ref a_far, .ref a_waited, .ref a_servers, .ref a_images, .ref a_isMade])), (a_said, .inl (kA 0, 360, .inl saidF))]) hP hD [0, 1] (by decide) rfl
    refine W.widen (k := 0) (n := 0) (Nat.le_of_ble_eq_true rfl) (Nat.le_of_ble_eq_true rfl) ?_
    exact W.iret (v := zp) hx hb hr (fun t ht hW => ⟨⟨zp, (zp), rfl, ⟨rfl, (hG.trans hG0.symm)⟩, by rw [ht]; exact hP9, hD9⟩, hS.F ht⟩) hS.2.2 dX11_count_66
  · have hG := zelse hG (fun q9 => by rw [q9] at hs23; revert hs23; decide)
    have hG := zelse hG (fun q9 => by rw [q9] at hs23; revert hs23; decide)
    have hG := zthen hG hs23
    refine lv_tableIn (off := 59) (tgt := 60) hx hb dX11_count_1 (by rw [hs23]; decide) (by rw [hs23]; decide) (by rw [hs23]; decide) (by decide) ?_
    have hl : lv_has ls 2 [(0, .ref n0), (1, .int 2)] := by rw [hs23] at hl; exact hl
    refine lv_aload_n hx hb dX11_count_60 rfl (lv_at hl 0 rfl) ?_
    refine va_get (D := (dC, dI)) (ci := 11) (v := .ref a_said) (C := RX11) (T := TX11) (N := 42) hx hb hts iX11_count_X11 hown hK.1 hP 0 gz0 vcz11 20 (by decide) (kX11_count_1 hts) (fun _ h9 => h9) gz20 dX11_count_61 ?_
    refine lv_iload_n hx hb dX11_count_64 rfl (lv_at hl 1 rfl) ?_
    refine va_iald hx hb hK.1 hP 1 0 gz1 tzz0 (vpd (by decide)) dX11_count_65 ?_
    refine zi zj hz3 ?_
    obtain ⟨hP9, hD9⟩ := z_sb (L' := [(n0, .inr (11, .ref a_tape :: .int m_taped :: .int m_laws :: .ref a_sign :: .ref a_length :: .ref a_clause :: .ref a_clauses :: .ref a_chain :: .int m_next :: .int m_wrong :: .int m_number :: .int m_text :: .int m_made :: .int m_deep :: .int m_lines :: .ref a_open :: .int m_opened :: .ref a_stack :: .int m_top :: .ref a_word :: .ref a_said :: .ref a_kept :: [.int m_goNode, .int m_goDrops, .int m_goHour, .int m_goFelt, .int m_goSalt, .int m_goMore, .ref a_stepNode, .ref a_stepDrops, .ref a_stepHour, .ref a_stepNext, .ref a_stepPass, .int m_bestLeft, .int m_bestHour, .int m_bestMany, .ref a_bestPass, .ref a_far, .ref a_waited, .ref a_servers, .ref a_images, .ref a_isMade])), (a_said, .inl (kA 0, 360, .inl saidF))]) hP hD [0, 1] (by decide) rfl
    refine W.widen (k := 0) (n := 0) (Nat.le_of_ble_eq_true rfl) (Nat.le_of_ble_eq_true rfl) ?_
    exact W.iret (v := zj) hx hb hr (fun t ht hW => ⟨⟨zj, (zj), rfl, ⟨rfl, (hG.trans hG0.symm)⟩, by rw [ht]; exact hP9, hD9⟩, hS.F ht⟩) hS.2.2 dX11_count_66
  · have hG := zelse hG (fun q9 => by rw [q9] at hs23; revert hs23; decide)
    have hG := zelse hG (fun q9 => by rw [q9] at hs23; revert hs23; decide)
    have hG := zelse hG (fun q9 => by rw [q9] at hs23; revert hs23; decide)
    have hG := zthen hG hs23
    refine lv_tableIn (off := 66) (tgt := 67) hx hb dX11_count_1 (by rw [hs23]; decide) (by rw [hs23]; decide) (by rw [hs23]; decide) (by decide) ?_
    have hl : lv_has ls 2 [(0, .ref n0), (1, .int 3)] := by rw [hs23] at hl; exact hl
    refine lv_aload_n hx hb dX11_count_67 rfl (lv_at hl 0 rfl) ?_
    refine va_get (D := (dC, dI)) (ci := 11) (v := .int m_laws) (C := RX11) (T := TX11) (N := 42) hx hb hts iX11_count_X11 hown hK.1 hP 0 gz0 vcz11 2 (by decide) (kX11_count_2 hts) (fun _ h9 => h9) gz2 dX11_count_68 ?_
    obtain ⟨hP9, hD9⟩ := z_sb (L' := [(n0, .inr (11, .ref a_tape :: .int m_taped :: .int m_laws :: .ref a_sign :: .ref a_length :: .ref a_clause :: .ref a_clauses :: .ref a_chain :: .int m_next :: .int m_wrong :: .int m_number :: .int m_text :: .int m_made :: .int m_deep :: .int m_lines :: .ref a_open :: .int m_opened :: .ref a_stack :: .int m_top :: .ref a_word :: .ref a_said :: .ref a_kept :: [.int m_goNode, .int m_goDrops, .int m_goHour, .int m_goFelt, .int m_goSalt, .int m_goMore, .ref a_stepNode, .ref a_stepDrops, .ref a_stepHour, .ref a_stepNext, .ref a_stepPass, .int m_bestLeft, .int m_bestHour, .int m_bestMany, .ref a_bestPass, .ref a_far, .ref a_waited, .ref a_servers, .ref a_images, .ref a_isMade])), (a_said, .inl (kA 0, 360, .inl saidF))]) hP hD [0, 1] (by decide) rfl
    refine W.widen (k := 0) (n := 0) (Nat.le_of_ble_eq_true rfl) (Nat.le_of_ble_eq_true rfl) ?_
    exact W.iret (v := m_laws) hx hb hr (fun t ht hW => ⟨⟨m_laws, (m_laws), rfl, ⟨rfl, (hG.trans hG0.symm)⟩, by rw [ht]; exact hP9, hD9⟩, hS.F ht⟩) hS.2.2 dX11_count_71
  · have hG := zelse hG (fun q9 => by rw [q9] at hs23; revert hs23; decide)
    have hG := zelse hG (fun q9 => by rw [q9] at hs23; revert hs23; decide)
    have hG := zelse hG (fun q9 => by rw [q9] at hs23; revert hs23; decide)
    have hG := zelse hG (fun q9 => by rw [q9] at hs23; revert hs23; decide)
    have hG := zthen hG hs23
    refine lv_tableIn (off := 71) (tgt := 72) hx hb dX11_count_1 (by rw [hs23]; decide) (by rw [hs23]; decide) (by rw [hs23]; decide) (by decide) ?_
    have hl : lv_has ls 2 [(0, .ref n0), (1, .int 4)] := by rw [hs23] at hl; exact hl
    refine lv_aload_n hx hb dX11_count_72 rfl (lv_at hl 0 rfl) ?_
    refine va_get (D := (dC, dI)) (ci := 11) (v := .ref a_said) (C := RX11) (T := TX11) (N := 42) hx hb hts iX11_count_X11 hown hK.1 hP 0 gz0 vcz11 20 (by decide) (kX11_count_1 hts) (fun _ h9 => h9) gz20 dX11_count_73 ?_
    refine lv_iconst (v := 5) hx hb dX11_count_76 (by decide) ?_
    refine va_iald hx hb hK.1 hP 1 0 gz1 tzz0 (vpd (by decide)) dX11_count_77 ?_
    refine zi (saidF 5) rfl ?_
    obtain ⟨hP9, hD9⟩ := z_sb (L' := [(n0, .inr (11, .ref a_tape :: .int m_taped :: .int m_laws :: .ref a_sign :: .ref a_length :: .ref a_clause :: .ref a_clauses :: .ref a_chain :: .int m_next :: .int m_wrong :: .int m_number :: .int m_text :: .int m_made :: .int m_deep :: .int m_lines :: .ref a_open :: .int m_opened :: .ref a_stack :: .int m_top :: .ref a_word :: .ref a_said :: .ref a_kept :: [.int m_goNode, .int m_goDrops, .int m_goHour, .int m_goFelt, .int m_goSalt, .int m_goMore, .ref a_stepNode, .ref a_stepDrops, .ref a_stepHour, .ref a_stepNext, .ref a_stepPass, .int m_bestLeft, .int m_bestHour, .int m_bestMany, .ref a_bestPass, .ref a_far, .ref a_waited, .ref a_servers, .ref a_images, .ref a_isMade])), (a_said, .inl (kA 0, 360, .inl saidF))]) hP hD [0, 1] (by decide) rfl
    refine W.widen (k := 0) (n := 0) (Nat.le_of_ble_eq_true rfl) (Nat.le_of_ble_eq_true rfl) ?_
    exact W.iret (v := (saidF 5)) hx hb hr (fun t ht hW => ⟨⟨(saidF 5), ((saidF 5)), rfl, ⟨rfl, (hG.trans hG0.symm)⟩, by rw [ht]; exact hP9, hD9⟩, hS.F ht⟩) hS.2.2 dX11_count_78
  · have hG := zelse hG (fun q9 => by rw [q9] at hs23; revert hs23; decide)
    have hG := zelse hG (fun q9 => by rw [q9] at hs23; revert hs23; decide)
    have hG := zelse hG (fun q9 => by rw [q9] at hs23; revert hs23; decide)
    have hG := zelse hG (fun q9 => by rw [q9] at hs23; revert hs23; decide)
    have hG := zelse hG (fun q9 => by rw [q9] at hs23; revert hs23; decide)
    have hG := zthen hG hs23
    refine lv_tableIn (off := 78) (tgt := 79) hx hb dX11_count_1 (by rw [hs23]; decide) (by rw [hs23]; decide) (by rw [hs23]; decide) (by decide) ?_
    have hl : lv_has ls 2 [(0, .ref n0), (1, .int 5)] := by rw [hs23] at hl; exact hl
    refine lv_aload_n hx hb dX11_count_79 rfl (lv_at hl 0 rfl) ?_
    refine lv_aload_n hx hb dX11_count_80 rfl (lv_at hl 0 rfl) ?_
    refine va_get (D := (dC, dI)) (ci := 11) (v := .ref a_said) (C := RX11) (T := TX11) (N := 42) hx hb hts iX11_count_X11 hown hK.1 hP 0 gz0 vcz11 20 (by decide) (kX11_count_1 hts) (fun _ h9 => h9) gz20 dX11_count_81 ?_
    refine lv_iconst (v := 5) hx hb dX11_count_84 (by decide) ?_
    refine va_iald hx hb hK.1 hP 1 0 gz1 tzz0 (vpd (by decide)) dX11_count_85 ?_
    refine zi (saidF 5) rfl ?_
    refine z_i (wr := []) (va_runV (As := [.int (saidF 5)]) (rest := []) ⟨hx, hb, hml, hown, hts⟩ (mX11_monthAt l dC dI kA _ n0 m_taped m_laws m_next m_wrong m_number m_text m_made m_deep m_lines m_opened m_top m_goNode m_goDrops m_goHour m_goFelt m_goSalt m_goMore m_bestLeft m_bestHour m_bestMany a_tape a_sign a_length a_clause a_clauses a_chain a_open a_stack a_word a_said a_kept a_stepNode a_stepDrops a_stepHour a_stepNext a_stepPass a_bestPass a_far a_waited a_servers a_images a_isMade saidF zn zp zj zo zf zm zk zw pd (saidF 5) hsc) (cwV 1 hts gX11_count_X11_monthAt rfl rfl rfl ⟨rfl, hdX11_monthAt⟩ ⟨(Nat.le_of_ble_eq_true rfl), (Nat.le_of_ble_eq_true rfl)⟩) ⟨zPc.blind, va_recv (q := (RX11, TX11, 42)) hK.1 hP (ci := 11) (q0 := 0) rfl rfl, zPre hK (hP.sub [0, 1] rfl) (hD.sub [0, 1] (by decide) rfl)⟩ rfl rfl hl.1 rfl (lv_room (Nat.le_of_ble_eq_true rfl)) dX11_count_86 ⟨(Nat.le_of_ble_eq_true rfl), (Nat.le_of_ble_eq_true rfl)⟩) hP hD hS hA [0, 1] [] rfl rfl (by decide) (by decide) (fun r26 u24 H locs hw25 hP hD hS => ?_)
    obtain ⟨er29, hp28⟩ := hw25
    have er29 : r26 = u24 := er29
    subst er29
    have er26 : r26 = fX11_monthAt zm (saidF 5) := hp28
    have hG := zbnd hG er26
    obtain ⟨hP, hD⟩ := z_re (L := [(n0, .inr (11, .ref a_tape :: .int m_taped :: .int m_laws :: .ref a_sign :: .ref a_length :: .ref a_clause :: .ref a_clauses :: .ref a_chain :: .int m_next :: .int m_wrong :: .int m_number :: .int m_text :: .int m_made :: .int m_deep :: .int m_lines :: .ref a_open :: .int m_opened :: .ref a_stack :: .int m_top :: .ref a_word :: .ref a_said :: .ref a_kept :: [.int m_goNode, .int m_goDrops, .int m_goHour, .int m_goFelt, .int m_goSalt, .int m_goMore, .ref a_stepNode, .ref a_stepDrops, .ref a_stepHour, .ref a_stepNext, .ref a_stepPass, .int m_bestLeft, .int m_bestHour, .int m_bestMany, .ref a_bestPass, .ref a_far, .ref a_waited, .ref a_servers, .ref a_images, .ref a_isMade])), (a_said, .inl (kA 0, 360, .inl saidF))]) hP hD
    obtain ⟨hP9, hD9⟩ := z_sb (L' := [(n0, .inr (11, .ref a_tape :: .int m_taped :: .int m_laws :: .ref a_sign :: .ref a_length :: .ref a_clause :: .ref a_clauses :: .ref a_chain :: .int m_next :: .int m_wrong :: .int m_number :: .int m_text :: .int m_made :: .int m_deep :: .int m_lines :: .ref a_open :: .int m_opened :: .ref a_stack :: .int m_top :: .ref a_word :: .ref a_said :: .ref a_kept :: [.int m_goNode, .int m_goDrops, .int m_goHour, .int m_goFelt, .int m_goSalt, .int m_goMore, .ref a_stepNode, .ref a_stepDrops, .ref a_stepHour, .ref a_stepNext, .ref a_stepPass, .int m_bestLeft, .int m_bestHour, .int m_bestMany, .ref a_bestPass, .ref a_far, .ref a_waited, .ref a_servers, .ref a_images, .ref a_isMade])), (a_said, .inl (kA 0, 360, .inl saidF))]) hP hD [0, 1] (by decide) rfl
    refine W.widen (k := 0) (n := 0) (Nat.le_of_ble_eq_true rfl) (Nat.le_of_ble_eq_true rfl) ?_
    exact W.iret (v := r26) hx hb hr (fun t ht hW => ⟨⟨r26, (r26), rfl, ⟨rfl, (hG.trans hG0.symm)⟩, by rw [ht]; exact hP9, hD9⟩, hS.F ht⟩) hS.2.2 dX11_count_89
  · have hG := zelse hG (fun q9 => by rw [q9] at hs23; revert hs23; decide)
    have hG := zelse hG (fun q9 => by rw [q9] at hs23; revert hs23; decide)
    have hG := zelse hG (fun q9 => by rw [q9] at hs23; revert hs23; decide)
    have hG := zelse hG (fun q9 => by rw [q9] at hs23; revert hs23; decide)
    have hG := zelse hG (fun q9 => by rw [q9] at hs23; revert hs23; decide)
    have hG := zelse hG (fun q9 => by rw [q9] at hs23; revert hs23; decide)
    have hG := zthen hG hs23
    refine lv_tableIn (off := 89) (tgt := 90) hx hb dX11_count_1 (by rw [hs23]; decide) (by rw [hs23]; decide) (by rw [hs23]; decide) (by decide) ?_
    have hl : lv_has ls 2 [(0, .ref n0), (1, .int 6)] := by rw [hs23] at hl; exact hl
    refine lv_aload_n hx hb dX11_count_90 rfl (lv_at hl 0 rfl) ?_
    refine va_get (D := (dC, dI)) (ci := 11) (v := .ref a_said) (C := RX11) (T := TX11) (N := 42) hx hb hts iX11_count_X11 hown hK.1 hP 0 gz0 vcz11 20 (by decide) (kX11_count_1 hts) (fun _ h9 => h9) gz20 dX11_count_91 ?_
    refine lv_iload_n hx hb dX11_count_94 rfl (lv_at hl 1 rfl) ?_
    refine lv_iconst (v := 3) hx hb dX11_count_95 (by decide) ?_
    refine lv_isub hx hb dX11_count_96 ?_
    refine zi 3 (by decide) ?_
    refine va_iald hx hb hK.1 hP 1 0 gz1 tzz0 (vpd (by decide)) dX11_count_97 ?_
    refine zi zo hz4 ?_
    obtain ⟨hP9, hD9⟩ := z_sb (L' := [(n0, .inr (11, .ref a_tape :: .int m_taped :: .int m_laws :: .ref a_sign :: .ref a_length :: .ref a_clause :: .ref a_clauses :: .ref a_chain :: .int m_next :: .int m_wrong :: .int m_number :: .int m_text :: .int m_made :: .int m_deep :: .int m_lines :: .ref a_open :: .int m_opened :: .ref a_stack :: .int m_top :: .ref a_word :: .ref a_said :: .ref a_kept :: [.int m_goNode, .int m_goDrops, .int m_goHour, .int m_goFelt, .int m_goSalt, .int m_goMore, .ref a_stepNode, .ref a_stepDrops, .ref a_stepHour, .ref a_stepNext, .ref a_stepPass, .int m_bestLeft, .int m_bestHour, .int m_bestMany, .ref a_bestPass, .ref a_far, .ref a_waited, .ref a_servers, .ref a_images, .ref a_isMade])), (a_said, .inl (kA 0, 360, .inl saidF))]) hP hD [0, 1] (by decide) rfl
    refine W.widen (k := 0) (n := 0) (Nat.le_of_ble_eq_true rfl) (Nat.le_of_ble_eq_true rfl) ?_
    exact W.iret (v := zo) hx hb hr (fun t ht hW => ⟨⟨zo, (zo), rfl, ⟨rfl, (hG.trans hG0.symm)⟩, by rw [ht]; exact hP9, hD9⟩, hS.F ht⟩) hS.2.2 dX11_count_98
  · have hG := zelse hG (fun q9 => by rw [q9] at hs23; revert hs23; decide)
    have hG := zelse hG (fun q9 => by rw [q9] at hs23; revert hs23; decide)
    have hG := zelse hG (fun q9 => by rw [q9] at hs23; revert hs23; decide)
    have hG := zelse hG (fun q9 => by rw [q9] at hs23; revert hs23; decide)
    have hG := zelse hG (fun q9 => by rw [q9] at hs23; revert hs23; decide)
    have hG := zelse hG (fun q9 => by rw [q9] at hs23; revert hs23; decide)
    have hG := zelse hG (fun q9 => by rw [q9] at hs23; revert hs23; decide)
    have hG := zthen hG hs23
    refine lv_tableIn (off := 89) (tgt := 90) hx hb dX11_count_1 (by rw [hs23]; decide) (by rw [hs23]; decide) (by rw [hs23]; decide) (by decide) ?_
    have hl : lv_has ls 2 [(0, .ref n0), (1, .int 7)] := by rw [hs23] at hl; exact hl
    refine lv_aload_n hx hb dX11_count_90 rfl (lv_at hl 0 rfl) ?_
    refine va_get (D := (dC, dI)) (ci := 11) (v := .ref a_said) (C := RX11) (T := TX11) (N := 42) hx hb hts iX11_count_X11 hown hK.1 hP 0 gz0 vcz11 20 (by decide) (kX11_count_1 hts) (fun _ h9 => h9) gz20 dX11_count_91 ?_
    refine lv_iload_n hx hb dX11_count_94 rfl (lv_at hl 1 rfl) ?_
    refine lv_iconst (v := 3) hx hb dX11_count_95 (by decide) ?_
    refine lv_isub hx hb dX11_count_96 ?_
    refine zi 4 (by decide) ?_
    refine va_iald hx hb hK.1 hP 1 0 gz1 tzz0 (vpd (by decide)) dX11_count_97 ?_
    refine zi zf hz5 ?_
    obtain ⟨hP9, hD9⟩ := z_sb (L' := [(n0, .inr (11, .ref a_tape :: .int m_taped :: .int m_laws :: .ref a_sign :: .ref a_length :: .ref a_clause :: .ref a_clauses :: .ref a_chain :: .int m_next :: .int m_wrong :: .int m_number :: .int m_text :: .int m_made :: .int m_deep :: .int m_lines :: .ref a_open :: .int m_opened :: .ref a_stack :: .int m_top :: .ref a_word :: .ref a_said :: .ref a_kept :: [.int m_goNode, .int m_goDrops, .int m_goHour, .int m_goFelt, .int m_goSalt, .int m_goMore, .ref a_stepNode, .ref a_stepDrops, .ref a_stepHour, .ref a_stepNext, .ref a_stepPass, .int m_bestLeft, .int m_bestHour, .int m_bestMany, .ref a_bestPass, .ref a_far, .ref a_waited, .ref a_servers, .ref a_images, .ref a_isMade])), (a_said, .inl (kA 0, 360, .inl saidF))]) hP hD [0, 1] (by decide) rfl
    refine W.widen (k := 0) (n := 0) (Nat.le_of_ble_eq_true rfl) (Nat.le_of_ble_eq_true rfl) ?_
    exact W.iret (v := zf) hx hb hr (fun t ht hW => ⟨⟨zf, (zf), rfl, ⟨rfl, (hG.trans hG0.symm)⟩, by rw [ht]; exact hP9, hD9⟩, hS.F ht⟩) hS.2.2 dX11_count_98
  · have hG := zelse hG (fun q9 => by rw [q9] at hs23; revert hs23; decide)
    have hG := zelse hG (fun q9 => by rw [q9] at hs23; revert hs23; decide)
    have hG := zelse hG (fun q9 => by rw [q9] at hs23; revert hs23; decide)
    have hG := zelse hG (fun q9 => by rw [q9] at hs23; revert hs23; decide)
    have hG := zelse hG (fun q9 => by rw [q9] at hs23; revert hs23; decide)
    have hG := zelse hG (fun q9 => by rw [q9] at hs23; revert hs23; decide)
    have hG := zelse hG (fun q9 => by rw [q9] at hs23; revert hs23; decide)
    have hG := zelse hG (fun q9 => by rw [q9] at hs23; revert hs23; decide)
    have hG := zthen hG hs23
    refine lv_tableIn (off := 98) (tgt := 99) hx hb dX11_count_1 (by rw [hs23]; decide) (by rw [hs23]; decide) (by rw [hs23]; decide) (by decide) ?_
    have hl : lv_has ls 2 [(0, .ref n0), (1, .int 8)] := by rw [hs23] at hl; exact hl
    refine lv_aload_n hx hb dX11_count_99 rfl (lv_at hl 0 rfl) ?_
    refine va_get (D := (dC, dI)) (ci := 11) (v := .ref a_said) (C := RX11) (T := TX11) (N := 42) hx hb hts iX11_count_X11 hown hK.1 hP 0 gz0 vcz11 20 (by decide) (kX11_count_1 hts) (fun _ h9 => h9) gz20 dX11_count_100 ?_
    refine lv_bipush (v := 8) hx hb dX11_count_103 (by decide) ?_
    refine va_iald hx hb hK.1 hP 1 0 gz1 tzz0 (vpd (by decide)) dX11_count_105 ?_
    refine zi zk hz7 ?_
    refine lv_if_ge (tgt := 113) hx hb dX11_count_106 (by decide) (fun c_31 => ?_) (fun c_31 => ?_)
    · have hG := zthen hG c_31
      refine lv_aload_n hx hb dX11_count_113 rfl (lv_at hl 0 rfl) ?_
      refine va_get (D := (dC, dI)) (ci := 11) (v := .ref a_said) (C := RX11) (T := TX11) (N := 42) hx hb hts iX11_count_X11 hown hK.1 hP 0 gz0 vcz11 20 (by decide) (kX11_count_1 hts) (fun _ h9 => h9) gz20 dX11_count_114 ?_
      refine lv_bipush (v := 9) hx hb dX11_count_117 (by decide) ?_
      refine va_iald hx hb hK.1 hP 1 0 gz1 tzz0 (vpd (by decide)) dX11_count_119 ?_
      refine zi zw hz8 ?_
      obtain ⟨hP9, hD9⟩ := z_sb (L' := [(n0, .inr (11, .ref a_tape :: .int m_taped :: .int m_laws :: .ref a_sign :: .ref a_length :: .ref a_clause :: .ref a_clauses :: .ref a_chain :: .int m_next :: .int m_wrong :: .int m_number :: .int m_text :: .int m_made :: .int m_deep :: .int m_lines :: .ref a_open :: .int m_opened :: .ref a_stack :: .int m_top :: .ref a_word :: .ref a_said :: .ref a_kept :: [.int m_goNode, .int m_goDrops, .int m_goHour, .int m_goFelt, .int m_goSalt, .int m_goMore, .ref a_stepNode, .ref a_stepDrops, .ref a_stepHour, .ref a_stepNext, .ref a_stepPass, .int m_bestLeft, .int m_bestHour, .int m_bestMany, .ref a_bestPass, .ref a_far, .ref a_waited, .ref a_servers, .ref a_images, .ref a_isMade])), (a_said, .inl (kA 0, 360, .inl saidF))]) hP hD [0, 1] (by decide) rfl
      refine W.widen (k := 0) (n := 0) (Nat.le_of_ble_eq_true rfl) (Nat.le_of_ble_eq_true rfl) ?_
      exact W.iret (v := zw) hx hb hr (fun t ht hW => ⟨⟨zw, (zw), rfl, ⟨rfl, (hG.trans hG0.symm)⟩, by rw [ht]; exact hP9, hD9⟩, hS.F ht⟩) hS.2.2 dX11_count_120
    · have hG := zelse hG c_31
      refine lv_iconst (v := (-1)) hx hb dX11_count_109 (by decide) ?_
      refine lv_goto (tgt := 120) hx hb dX11_count_110 (by decide) ?_
      obtain ⟨hP9, hD9⟩ := z_sb (L' := [(n0, .inr (11, .ref a_tape :: .int m_taped :: .int m_laws :: .ref a_sign :: .ref a_length :: .ref a_clause :: .ref a_clauses :: .ref a_chain :: .int m_next :: .int m_wrong :: .int m_number :: .int m_text :: .int m_made :: .int m_deep :: .int m_lines :: .ref a_open :: .int m_opened :: .ref a_stack :: .int m_top :: .ref a_word :: .ref a_said :: .ref a_kept :: [.int m_goNode, .int m_goDrops, .int m_goHour, .int m_goFelt, .int m_goSalt, .int m_goMore, .ref a_stepNode, .ref a_stepDrops, .ref a_stepHour, .ref a_stepNext, .ref a_stepPass, .int m_bestLeft, .int m_bestHour, .int m_bestMany, .ref a_bestPass, .ref a_far, .ref a_waited, .ref a_servers, .ref a_images, .ref a_isMade])), (a_said, .inl (kA 0, 360, .inl saidF))]) hP hD [0, 1] (by decide) rfl
      refine W.widen (k := 0) (n := 0) (Nat.le_of_ble_eq_true rfl) (Nat.le_of_ble_eq_true rfl) ?_
      exact W.iret (v := (-1)) hx hb hr (fun t ht hW => ⟨⟨(-1), ((-1)), rfl, ⟨rfl, (hG.trans hG0.symm)⟩, by rw [ht]; exact hP9, hD9⟩, hS.F ht⟩) hS.2.2 dX11_count_120
  · have hG := zelse hG (fun q9 => by rw [q9] at hs23; revert hs23; decide)
    have hG := zelse hG (fun q9 => by rw [q9] at hs23; revert hs23; decide)
    have hG := zelse hG (fun q9 => by rw [q9] at hs23; revert hs23; decide)
    have hG := zelse hG (fun q9 => by rw [q9] at hs23; revert hs23; decide)
    have hG := zelse hG (fun q9 => by rw [q9] at hs23; revert hs23; decide)
    have hG := zelse hG (fun q9 => by rw [q9] at hs23; revert hs23; decide)
    have hG := zelse hG (fun q9 => by rw [q9] at hs23; revert hs23; decide)
    have hG := zelse hG (fun q9 => by rw [q9] at hs23; revert hs23; decide)
    have hG := zelse hG (fun q9 => by rw [q9] at hs23; revert hs23; decide)
    have hG := zthen hG hs23
    refine lv_tableIn (off := 120) (tgt := 121) hx hb dX11_count_1 (by rw [hs23]; decide) (by rw [hs23]; decide) (by rw [hs23]; decide) (by decide) ?_
    have hl : lv_has ls 2 [(0, .ref n0), (1, .int 9)] := by rw [hs23] at hl; exact hl
    refine lv_aload_n hx hb dX11_count_121 rfl (lv_at hl 0 rfl) ?_
    refine va_get (D := (dC, dI)) (ci := 11) (v := .ref a_said) (C := RX11) (T := TX11) (N := 42) hx hb hts iX11_count_X11 hown hK.1 hP 0 gz0 vcz11 20 (by decide) (kX11_count_1 hts) (fun _ h9 => h9) gz20 dX11_count_122 ?_
    refine lv_bipush (v := 7) hx hb dX11_count_125 (by decide) ?_
    refine va_iald hx hb hK.1 hP 1 0 gz1 tzz0 (vpd (by decide)) dX11_count_127 ?_
    refine zi (saidF 7) rfl ?_
    obtain ⟨hP9, hD9⟩ := z_sb (L' := [(n0, .inr (11, .ref a_tape :: .int m_taped :: .int m_laws :: .ref a_sign :: .ref a_length :: .ref a_clause :: .ref a_clauses :: .ref a_chain :: .int m_next :: .int m_wrong :: .int m_number :: .int m_text :: .int m_made :: .int m_deep :: .int m_lines :: .ref a_open :: .int m_opened :: .ref a_stack :: .int m_top :: .ref a_word :: .ref a_said :: .ref a_kept :: [.int m_goNode, .int m_goDrops, .int m_goHour, .int m_goFelt, .int m_goSalt, .int m_goMore, .ref a_stepNode, .ref a_stepDrops, .ref a_stepHour, .ref a_stepNext, .ref a_stepPass, .int m_bestLeft, .int m_bestHour, .int m_bestMany, .ref a_bestPass, .ref a_far, .ref a_waited, .ref a_servers, .ref a_images, .ref a_isMade])), (a_said, .inl (kA 0, 360, .inl saidF))]) hP hD [0, 1] (by decide) rfl
    refine W.widen (k := 0) (n := 0) (Nat.le_of_ble_eq_true rfl) (Nat.le_of_ble_eq_true rfl) ?_
    exact W.iret (v := (saidF 7)) hx hb hr (fun t ht hW => ⟨⟨(saidF 7), ((saidF 7)), rfl, ⟨rfl, (hG.trans hG0.symm)⟩, by rw [ht]; exact hP9, hD9⟩, hS.F ht⟩) hS.2.2 dX11_count_128
  · have hG := zelse hG (fun q9 => by rw [q9] at hs23; revert hs23; decide)
    have hG := zelse hG (fun q9 => by rw [q9] at hs23; revert hs23; decide)
    have hG := zelse hG (fun q9 => by rw [q9] at hs23; revert hs23; decide)
    have hG := zelse hG (fun q9 => by rw [q9] at hs23; revert hs23; decide)
    have hG := zelse hG (fun q9 => by rw [q9] at hs23; revert hs23; decide)
    have hG := zelse hG (fun q9 => by rw [q9] at hs23; revert hs23; decide)
    have hG := zelse hG (fun q9 => by rw [q9] at hs23; revert hs23; decide)
    have hG := zelse hG (fun q9 => by rw [q9] at hs23; revert hs23; decide)
    have hG := zelse hG (fun q9 => by rw [q9] at hs23; revert hs23; decide)
    have hG := zelse hG (fun q9 => by rw [q9] at hs23; revert hs23; decide)
    have hG := zthen hG hs23
    refine lv_tableIn (off := 128) (tgt := 129) hx hb dX11_count_1 (by rw [hs23]; decide) (by rw [hs23]; decide) (by rw [hs23]; decide) (by decide) ?_
    have hl : lv_has ls 2 [(0, .ref n0), (1, .int 10)] := by rw [hs23] at hl; exact hl
    refine lv_aload_n hx hb dX11_count_129 rfl (lv_at hl 0 rfl) ?_
    refine va_get (D := (dC, dI)) (ci := 11) (v := .int m_taped) (C := RX11) (T := TX11) (N := 42) hx hb hts iX11_count_X11 hown hK.1 hP 0 gz0 vcz11 1 (by decide) (kX11_count_3 hts) (fun _ h9 => h9) gz1 dX11_count_130 ?_
    obtain ⟨hP9, hD9⟩ := z_sb (L' := [(n0, .inr (11, .ref a_tape :: .int m_taped :: .int m_laws :: .ref a_sign :: .ref a_length :: .ref a_clause :: .ref a_clauses :: .ref a_chain :: .int m_next :: .int m_wrong :: .int m_number :: .int m_text :: .int m_made :: .int m_deep :: .int m_lines :: .ref a_open :: .int m_opened :: .ref a_stack :: .int m_top :: .ref a_word :: .ref a_said :: .ref a_kept :: [.int m_goNode, .int m_goDrops, .int m_goHour, .int m_goFelt, .int m_goSalt, .int m_goMore, .ref a_stepNode, .ref a_stepDrops, .ref a_stepHour, .ref a_stepNext, .ref a_stepPass, .int m_bestLeft, .int m_bestHour, .int m_bestMany, .ref a_bestPass, .ref a_far, .ref a_waited, .ref a_servers, .ref a_images, .ref a_isMade])), (a_said, .inl (kA 0, 360, .inl saidF))]) hP hD [0, 1] (by decide) rfl
    refine W.widen (k := 0) (n := 0) (Nat.le_of_ble_eq_true rfl) (Nat.le_of_ble_eq_true rfl) ?_
    exact W.iret (v := m_taped) hx hb hr (fun t ht hW => ⟨⟨m_taped, (m_taped), rfl, ⟨rfl, (hG.trans hG0.symm)⟩, by rw [ht]; exact hP9, hD9⟩, hS.F ht⟩) hS.2.2 dX11_count_133
