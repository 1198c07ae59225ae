set_option maxHeartbeats 4000000 in
set_option maxRecDepth 100000 in
theorem mX11_push (l : Launch) (dC : Nat → ClassId) (dI : Nat → Nat → Nat) (kA : Nat → ClassId) (sz : Nat) (n0 : Nat) (m_taped : Int32) (m_laws : Int32) (m_next : Int32) (m_wrong : Int32) (m_number : Int32) (m_text : Int32) (m_made : Int32) (m_deep : Int32) (m_lines : Int32) (m_opened : Int32) (m_top : Int32) (m_goNode : Int32) (m_goDrops : Int32) (m_goHour : Int32) (m_goFelt : Int32) (m_goSalt : Int32) (m_goMore : Int32) (m_bestLeft : Int32) (m_bestHour : Int32) (m_bestMany : Int32) (a_tape : Nat) (a_sign : Nat) (a_length : Nat) (a_clause : Nat) (a_clauses : Nat) (a_chain : Nat) (a_open : Nat) (a_stack : Nat) (a_word : Nat) (a_said : Nat) (a_kept : Nat) (a_stepNode : Nat) (a_stepDrops : Nat) (a_stepHour : Nat) (a_stepNext : Nat) (a_stepPass : Nat) (a_bestPass : Nat) (a_far : Nat) (a_waited : Nat) (a_servers : Nat) (a_images : Nat) (a_isMade : Nat) (stackF : Nat → Int64) (j0 : Int64) (ht0 : ¬ m_top < 0) (ht1 : ¬ 60 < m_top) : Met l yX11_push wsX11_push ({ frames := 0, cells := 0, slots := 0, locals := 0 }) (zPc dC dI kA sz [.ref n0, .long j0] [(n0, .inr (11, .ref a_tape :: .int m_taped :: .int m_laws :: .ref a_sign :: .ref a_length :: .ref a_clause :: .ref a_clauses :: .ref a_chain :: .int m_next :: .int m_wrong :: .int m_number :: .int m_text :: .int m_made :: .int m_deep :: .int m_lines :: .ref a_open :: .int m_opened :: .ref a_stack :: .int m_top :: .ref a_word :: .ref a_said :: .ref a_kept :: [.int m_goNode, .int m_goDrops, .int m_goHour, .int m_goFelt, .int m_goSalt, .int m_goMore, .ref a_stepNode, .ref a_stepDrops, .ref a_stepHour, .ref a_stepNext, .ref a_stepPass, .int m_bestLeft, .int m_bestHour, .int m_bestMany, .ref a_bestPass, .ref a_far, .ref a_waited, .ref a_servers, .ref a_images, .ref a_isMade])), (a_stack, .inl (kA 2, 64, .inr (.inl stackF)))]) (va_Qv (fun (u : Int32 × (Nat → Int64)) => u.1 = (m_top + 1)) (zB dC dI (va_A [(n0, .inr (11, .ref a_tape :: .int m_taped :: .int m_laws :: .ref a_sign :: .ref a_length :: .ref a_clause :: .ref a_clauses :: .ref a_chain :: .int m_next :: .int m_wrong :: .int m_number :: .int m_text :: .int m_made :: .int m_deep :: .int m_lines :: .ref a_open :: .int m_opened :: .ref a_stack :: .int m_top :: .ref a_word :: .ref a_said :: .ref a_kept :: [.int m_goNode, .int m_goDrops, .int m_goHour, .int m_goFelt, .int m_goSalt, .int m_goMore, .ref a_stepNode, .ref a_stepDrops, .ref a_stepHour, .ref a_stepNext, .ref a_stepPass, .int m_bestLeft, .int m_bestHour, .int m_bestMany, .ref a_bestPass, .ref a_far, .ref a_waited, .ref a_servers, .ref a_images, .ref a_isMade])), (a_stack, .inl (kA 2, 64, .inr (.inl stackF)))] sz) (fun (u : Int32 × (Nat → Int64)) => [(n0, .inr (11, .ref a_tape :: .int m_taped :: .int m_laws :: .ref a_sign :: .ref a_length :: .ref a_clause :: .ref a_clauses :: .ref a_chain :: .int m_next :: .int m_wrong :: .int m_number :: .int m_text :: .int m_made :: .int m_deep :: .int m_lines :: .ref a_open :: .int m_opened :: .ref a_stack :: .int u.1 :: .ref a_word :: .ref a_said :: .ref a_kept :: [.int m_goNode, .int m_goDrops, .int m_goHour, .int m_goFelt, .int m_goSalt, .int m_goMore, .ref a_stepNode, .ref a_stepDrops, .ref a_stepHour, .ref a_stepNext, .ref a_stepPass, .int m_bestLeft, .int m_bestHour, .int m_bestMany, .ref a_bestPass, .ref a_far, .ref a_waited, .ref a_servers, .ref a_images, .ref a_isMade])), (a_stack, .inl (kA 2, 64, .inr (.inl u.2)))])) (va_A [(n0, .inr (11, .ref a_tape :: .int m_taped :: .int m_laws :: .ref a_sign :: .ref a_length :: .ref a_clause :: .ref a_clauses :: .ref a_chain :: .int m_next :: .int m_wrong :: .int m_number :: .int m_text :: .int m_made :: .int m_deep :: .int m_lines :: .ref a_open :: .int m_opened :: .ref a_stack :: .int m_top :: .ref a_word :: .ref a_said :: .ref a_kept :: [.int m_goNode, .int m_goDrops, .int m_goHour, .int m_goFelt, .int m_goSalt, .int m_goMore, .ref a_stepNode, .ref a_stepDrops, .ref a_stepHour, .ref a_stepNext, .ref a_stepPass, .int m_bestLeft, .int m_bestHour, .int m_bestMany, .ref a_bestPass, .ref a_far, .ref a_waited, .ref a_servers, .ref a_images, .ref a_isMade])), (a_stack, .inl (kA 2, 64, .inr (.inl stackF)))] sz)) 0 0 (va_A [(n0, .inr (11, .ref a_tape :: .int m_taped :: .int m_laws :: .ref a_sign :: .ref a_length :: .ref a_clause :: .ref a_clauses :: .ref a_chain :: .int m_next :: .int m_wrong :: .int m_number :: .int m_text :: .int m_made :: .int m_deep :: .int m_lines :: .ref a_open :: .int m_opened :: .ref a_stack :: .int m_top :: .ref a_word :: .ref a_said :: .ref a_kept :: [.int m_goNode, .int m_goDrops, .int m_goHour, .int m_goFelt, .int m_goSalt, .int m_goMore, .ref a_stepNode, .ref a_stepDrops, .ref a_stepHour, .ref a_stepNext, .ref a_stepPass, .int m_bestLeft, .int m_bestHour, .int m_bestMany, .ref a_bestPass, .ref a_far, .ref a_waited, .ref a_servers, .ref a_images, .ref a_isMade])), (a_stack, .inl (kA 2, 64, .inr (.inl stackF)))] sz) := by
  refine Met.ofW (cc := cX11_push) (maxL := 3) (ret := none) (by decide) rfl ?_
  intro p e s m args below meth c s₁ B hml hv
  obtain ⟨rfl, hsz, hP, hK, hD0⟩ := hv
  have hx := B.exec
  have hb := B.bytes
  have hr := B.returns
  have hts := atoms_spec (ws := wsX11_push) B.pre
  have hown : s.vm.findClass RX11 = some m.cls := findClass_of_methodNamed B.named
  have hlocks := B.notSynchronized
  subst hsz
  have hD := hD0.self (sz := s.heap.size)
  generalize hAe : va_A [(n0, .inr (11, .ref a_tape :: .int m_taped :: .int m_laws :: .ref a_sign :: .ref a_length :: .ref a_clause :: .ref a_clauses :: .ref a_chain :: .int m_next :: .int m_wrong :: .int m_number :: .int m_text :: .int m_made :: .int m_deep :: .int m_lines :: .ref a_open :: .int m_opened :: .ref a_stack :: .int m_top :: .ref a_word :: .ref a_said :: .ref a_kept :: [.int m_goNode, .int m_goDrops, .int m_goHour, .int m_goFelt, .int m_goSalt, .int m_goMore, .ref a_stepNode, .ref a_stepDrops, .ref a_stepHour, .ref a_stepNext, .ref a_stepPass, .int m_bestLeft, .int m_bestHour, .int m_bestMany, .ref a_bestPass, .ref a_far, .ref a_waited, .ref a_servers, .ref a_images, .ref a_isMade])), (a_stack, .inl (kA 2, 64, .inr (.inl stackF)))] s.heap.size = A at hD ⊢
  have hA : ∀ q : Nat, s.heap.size ≤ q → A q := fun q h => by rw [← hAe]; exact Or.inr h
  have hS : va_S A s.heap s.heap [] := va_S.rf
  have hP : va_P (dC, dI) vwCl [(n0, .inr (11, .ref a_tape :: .int m_taped :: .int m_laws :: .ref a_sign :: .ref a_length :: .ref a_clause :: .ref a_clauses :: .ref a_chain :: .int m_next :: .int m_wrong :: .int m_number :: .int m_text :: .int m_made :: .int m_deep :: .int m_lines :: .ref a_open :: .int m_opened :: .ref a_stack :: .int m_top :: .ref a_word :: .ref a_said :: .ref a_kept :: [.int m_goNode, .int m_goDrops, .int m_goHour, .int m_goFelt, .int m_goSalt, .int m_goMore, .ref a_stepNode, .ref a_stepDrops, .ref a_stepHour, .ref a_stepNext, .ref a_stepPass, .int m_bestLeft, .int m_bestHour, .int m_bestMany, .ref a_bestPass, .ref a_far, .ref a_waited, .ref a_servers, .ref a_images, .ref a_isMade])), (a_stack, .inl (kA 2, 64, .inr (.inl stackF)))] s.heap := hP
  have hl := lv_entry ([.ref n0, .long j0]) (n := 3) (Nat.le_of_ble_eq_true rfl)
  rw [lg_entry_eq]
  generalize (lg_sl ([.ref n0, .long j0]) ++ List.replicate (3 - (lg_sl ([.ref n0, .long j0])).length) Slot.unset).toArray = ls at hl ⊢
  have hl : lv_has ls 3 [(0, .ref n0), (1, .long j0)] := hl
  refine lv_aload_n hx hb dX11_push_0 rfl (lv_at hl 0 rfl) ?_
  refine va_get (D := (dC, dI)) (ci := 11) (v := .ref a_stack) (C := RX11) (T := TX11) (N := 42) hx hb hts iX11_push_X11 hown hK.1 hP 0 rfl rfl 17 (by decide) (kX11_push_1 hts) (fun _ h9 => h9) rfl dX11_push_1 ?_
  refine lv_aload_n hx hb dX11_push_4 rfl (lv_at hl 0 rfl) ?_
  refine va_get (D := (dC, dI)) (ci := 11) (v := .int m_top) (C := RX11) (T := TX11) (N := 42) hx hb hts iX11_push_X11 hown hK.1 hP 0 rfl rfl 18 (by decide) (kX11_push_2 hts) (fun _ h9 => h9) rfl dX11_push_5 ?_
  refine lv_lload_n hx hb dX11_push_8 rfl (lv_at hl 1 rfl) ?_
  refine va_last hx hb hK.1 hP hD hS 1 2 rfl rfl (vp_le (by decide) ht0 ht1) dX11_push_9 (fun H locs hP hD hS => ?_)
  obtain ⟨hP, hD⟩ := z_re (L := [(n0, .inr (11, .ref a_tape :: .int m_taped :: .int m_laws :: .ref a_sign :: .ref a_length :: .ref a_clause :: .ref a_clauses :: .ref a_chain :: .int m_next :: .int m_wrong :: .int m_number :: .int m_text :: .int m_made :: .int m_deep :: .int m_lines :: .ref a_open :: .int m_opened :: .ref a_stack :: .int m_top :: .ref a_word :: .ref a_said :: .ref a_kept :: [.int m_goNode, .int m_goDrops, .int m_goHour, .int m_goFelt, .int m_goSalt, .int m_goMore, .ref a_stepNode, .ref a_stepDrops, .ref a_stepHour, .ref a_stepNext, .ref a_stepPass, .int m_bestLeft, .int m_bestHour, .int m_bestMany, .ref a_bestPass, .ref a_far, .ref a_waited, .ref a_servers, .ref a_images, .ref a_isMade])), (a_stack, .inl (kA 2, 64, .inr (.inl (vp_updL stackF m_top.toNatClampNeg j0))))]) hP hD
  obtain ⟨f1, ef1⟩ : ∃ y : Nat → Int64, y = (vp_updL stackF m_top.toNatClampNeg j0) := ⟨_, rfl⟩
  rw [← ef1] at hP hD
  refine lv_aload_n hx hb dX11_push_10 rfl (lv_at hl 0 rfl) ?_
  refine lv_dup hx hb dX11_push_11 rfl ?_
  refine va_get (D := (dC, dI)) (ci := 11) (v := .int m_top) (C := RX11) (T := TX11) (N := 42) hx hb hts iX11_push_X11 hown hK.1 hP 0 rfl rfl 18 (by decide) (kX11_push_2 hts) (fun _ h9 => h9) rfl dX11_push_12 ?_
  refine lv_iconst (v := 1) hx hb dX11_push_15 (by decide) ?_
  refine lv_iadd hx hb dX11_push_16 ?_
  refine lv_topi (fun x2 ex2 => ?_)
  refine va_put (D := (dC, dI)) (ci := 11) (v := .int x2) (ty := .int) (C := RX11) (T := TX11) (N := 42) hx hb hts iX11_push_X11 tyX11 tyX11_ok nmX11 hown hK.1 hP hD hS 0 rfl rfl 18 (by decide) (kX11_push_2 hts) (fun _ h9 => h9) rfl (by decide +kernel) rfl rfl (Nat.le_of_ble_eq_true rfl) dX11_push_17 (fun H locs hP hD hS => ?_)
  obtain ⟨hP, hD⟩ := z_re (L := [(n0, .inr (11, .ref a_tape :: .int m_taped :: .int m_laws :: .ref a_sign :: .ref a_length :: .ref a_clause :: .ref a_clauses :: .ref a_chain :: .int m_next :: .int m_wrong :: .int m_number :: .int m_text :: .int m_made :: .int m_deep :: .int m_lines :: .ref a_open :: .int m_opened :: .ref a_stack :: .int x2 :: .ref a_word :: .ref a_said :: .ref a_kept :: [.int m_goNode, .int m_goDrops, .int m_goHour, .int m_goFelt, .int m_goSalt, .int m_goMore, .ref a_stepNode, .ref a_stepDrops, .ref a_stepHour, .ref a_stepNext, .ref a_stepPass, .int m_bestLeft, .int m_bestHour, .int m_bestMany, .ref a_bestPass, .ref a_far, .ref a_waited, .ref a_servers, .ref a_images, .ref a_isMade])), (a_stack, .inl (kA 2, 64, .inr (.inl f1)))]) hP hD
  obtain ⟨hP9, hD9⟩ := z_sb (L' := [(n0, .inr (11, .ref a_tape :: .int m_taped :: .int m_laws :: .ref a_sign :: .ref a_length :: .ref a_clause :: .ref a_clauses :: .ref a_chain :: .int m_next :: .int m_wrong :: .int m_number :: .int m_text :: .int m_made :: .int m_deep :: .int m_lines :: .ref a_open :: .int m_opened :: .ref a_stack :: .int x2 :: .ref a_word :: .ref a_said :: .ref a_kept :: [.int m_goNode, .int m_goDrops, .int m_goHour, .int m_goFelt, .int m_goSalt, .int m_goMore, .ref a_stepNode, .ref a_stepDrops, .ref a_stepHour, .ref a_stepNext, .ref a_stepPass, .int m_bestLeft, .int m_bestHour, .int m_bestMany, .ref a_bestPass, .ref a_far, .ref a_waited, .ref a_servers, .ref a_images, .ref a_isMade])), (a_stack, .inl (kA 2, 64, .inr (.inl f1)))]) hP hD [0, 1] (by decide) rfl
  refine W.widen (k := 0) (n := 0) (Nat.le_of_ble_eq_true rfl) (Nat.le_of_ble_eq_true rfl) ?_
  exact W.vret hx hb hr (fun t ht hW => ⟨⟨(x2, f1), rfl, ex2, by rw [ht]; exact hP9, hD9⟩, hS.F ht⟩) hS.2.2 dX11_push_20
theorem gl_mX11_pop_0 (m_top : Int32) (x1 : Int32) (h0 : ¬ m_top < 1) (h1 : ¬ 60 < m_top) (h2 : x1 = (m_top - 1)) : (¬ x1 < 0 ∧ ¬ 64 ≤ x1) := by grind
set_option maxHeartbeats 4000000 in
set_option maxRecDepth 100000 in
theorem mX11_pop (l : Launch) (dC : Nat → ClassId) (dI : Nat → Nat → Nat) (kA : Nat → ClassId) (sz : Nat) (n0 : Nat) (m_taped : Int32) (m_laws : Int32) (m_next : Int32) (m_wrong : Int32) (m_number : Int32) (m_text : Int32) (m_made : Int32) (m_deep : Int32) (m_lines : Int32) (m_opened : Int32) (m_top : Int32) (m_goNode : Int32) (m_goDrops : Int32) (m_goHour : Int32) (m_goFelt : Int32) (m_goSalt : Int32) (m_goMore : Int32) (m_bestLeft : Int32) (m_bestHour : Int32) (m_bestMany : Int32) (a_tape : Nat) (a_sign : Nat) (a_length : Nat) (a_clause : Nat) (a_clauses : Nat) (a_chain : Nat) (a_open : Nat) (a_stack : Nat) (a_word : Nat) (a_said : Nat) (a_kept : Nat) (a_stepNode : Nat) (a_stepDrops : Nat) (a_stepHour : Nat) (a_stepNext : Nat) (a_stepPass : Nat) (a_bestPass : Nat) (a_far : Nat) (a_waited : Nat) (a_servers : Nat) (a_images : Nat) (a_isMade : Nat) (stackF : Nat → Int64) (ht0 : ¬ m_top < 1) (ht1 : ¬ 60 < m_top) : Met l yX11_pop wsX11_pop ({ frames := 0, cells := 0, slots := 0, locals := 0 }) (zPc dC dI kA sz [.ref n0] [(n0, .inr (11, .ref a_tape :: .int m_taped :: .int m_laws :: .ref a_sign :: .ref a_length :: .ref a_clause :: .ref a_clauses :: .ref a_chain :: .int m_next :: .int m_wrong :: .int m_number :: .int m_text :: .int m_made :: .int m_deep :: .int m_lines :: .ref a_open :: .int m_opened :: .ref a_stack :: .int m_top :: .ref a_word :: .ref a_said :: .ref a_kept :: [.int m_goNode, .int m_goDrops, .int m_goHour, .int m_goFelt, .int m_goSalt, .int m_goMore, .ref a_stepNode, .ref a_stepDrops, .ref a_stepHour, .ref a_stepNext, .ref a_stepPass, .int m_bestLeft, .int m_bestHour, .int m_bestMany, .ref a_bestPass, .ref a_far, .ref a_waited, .ref a_servers, .ref a_images, .ref a_isMade])), (a_stack, .inl (kA 2, 64, .inr (.inl stackF)))]) (va_Ql (fun (r : Int64) (u : Int32 × Int64) => r = u.2 ∧ u.1 = (m_top - 1)) (zB dC dI (va_A [(n0, .inr (11, .ref a_tape :: .int m_taped :: .int m_laws :: .ref a_sign :: .ref a_length :: .ref a_clause :: .ref a_clauses :: .ref a_chain :: .int m_next :: .int m_wrong :: .int m_number :: .int m_text :: .int m_made :: .int m_deep :: .int m_lines :: .ref a_open :: .int m_opened :: .ref a_stack :: .int m_top :: .ref a_word :: .ref a_said :: .ref a_kept :: [.int m_goNode, .int m_goDrops, .int m_goHour, .int m_goFelt, .int m_goSalt, .int m_goMore, .ref a_stepNode, .ref a_stepDrops, .ref a_stepHour, .ref a_stepNext, .ref a_stepPass, .int m_bestLeft, .int m_bestHour, .int m_bestMany, .ref a_bestPass, .ref a_far, .ref a_waited, .ref a_servers, .ref a_images, .ref a_isMade])), (a_stack, .inl (kA 2, 64, .inr (.inl stackF)))] sz) (fun (u : Int32 × Int64) => [(n0, .inr (11, .ref a_tape :: .int m_taped :: .int m_laws :: .ref a_sign :: .ref a_length :: .ref a_clause :: .ref a_clauses :: .ref a_chain :: .int m_next :: .int m_wrong :: .int m_number :: .int m_text :: .int m_made :: .int m_deep :: .int m_lines :: .ref a_open :: .int m_opened :: .ref a_stack :: .int u.1 :: .ref a_word :: .ref a_said :: .ref a_kept :: [.int m_goNode, .int m_goDrops, .int m_goHour, .int m_goFelt, .int m_goSalt, .int m_goMore, .ref a_stepNode, .ref a_stepDrops, .ref a_stepHour, .ref a_stepNext, .ref a_stepPass, .int m_bestLeft, .int m_bestHour, .int m_bestMany, .ref a_bestPass, .ref a_far, .ref a_waited, .ref a_servers, .ref a_images, .ref a_isMade])), (a_stack, .inl (kA 2, 64, .inr (.inl stackF)))])) (va_A [(n0, .inr (11, .ref a_tape :: .int m_taped :: .int m_laws :: .ref a_sign :: .ref a_length :: .ref a_clause :: .ref a_clauses :: .ref a_chain :: .int m_next :: .int m_wrong :: .int m_number :: .int m_text :: .int m_made :: .int m_deep :: .int m_lines :: .ref a_open :: .int m_opened :: .ref a_stack :: .int m_top :: .ref a_word :: .ref a_said :: .ref a_kept :: [.int m_goNode, .int m_goDrops, .int m_goHour, .int m_goFelt, .int m_goSalt, .int m_goMore, .ref a_stepNode, .ref a_stepDrops, .ref a_stepHour, .ref a_stepNext, .ref a_stepPass, .int m_bestLeft, .int m_bestHour, .int m_bestMany, .ref a_bestPass, .ref a_far, .ref a_waited, .ref a_servers, .ref a_images, .ref a_isMade])), (a_stack, .inl (kA 2, 64, .inr (.inl stackF)))] sz)) 0 0 (va_A [(n0, .inr (11, .ref a_tape :: .int m_taped :: .int m_laws :: .ref a_sign :: .ref a_length :: .ref a_clause :: .ref a_clauses :: .ref a_chain :: .int m_next :: .int m_wrong :: .int m_number :: .int m_text :: .int m_made :: .int m_deep :: .int m_lines :: .ref a_open :: .int m_opened :: .ref a_stack :: .int m_top :: .ref a_word :: .ref a_said :: .ref a_kept :: [.int m_goNode, .int m_goDrops, .int m_goHour, .int m_goFelt, .int m_goSalt, .int m_goMore, .ref a_stepNode, .ref a_stepDrops, .ref a_stepHour, .ref a_stepNext, .ref a_stepPass, .int m_bestLeft, .int m_bestHour, .int m_bestMany, .ref a_bestPass, .ref a_far, .ref a_waited, .ref a_servers, .ref a_images, .ref a_isMade])), (a_stack, .inl (kA 2, 64, .inr (.inl stackF)))] sz) := by
  refine Met.ofW (cc := cX11_pop) (maxL := 1) (ret := (some .long)) (by decide) rfl ?_
  intro p e s m args below meth c s₁ B hml hv
  obtain ⟨rfl, hsz, hP, hK, hD0⟩ := hv
  have hx := B.exec
  have hb := B.bytes
  have hr := B.returns
  have hts := atoms_spec (ws := wsX11_pop) B.pre
  have hown : s.vm.findClass RX11 = some m.cls := findClass_of_methodNamed B.named
  have hlocks := B.notSynchronized
  subst hsz
  have hD := hD0.self (sz := s.heap.size)
  generalize hAe : va_A [(n0, .inr (11, .ref a_tape :: .int m_taped :: .int m_laws :: .ref a_sign :: .ref a_length :: .ref a_clause :: .ref a_clauses :: .ref a_chain :: .int m_next :: .int m_wrong :: .int m_number :: .int m_text :: .int m_made :: .int m_deep :: .int m_lines :: .ref a_open :: .int m_opened :: .ref a_stack :: .int m_top :: .ref a_word :: .ref a_said :: .ref a_kept :: [.int m_goNode, .int m_goDrops, .int m_goHour, .int m_goFelt, .int m_goSalt, .int m_goMore, .ref a_stepNode, .ref a_stepDrops, .ref a_stepHour, .ref a_stepNext, .ref a_stepPass, .int m_bestLeft, .int m_bestHour, .int m_bestMany, .ref a_bestPass, .ref a_far, .ref a_waited, .ref a_servers, .ref a_images, .ref a_isMade])), (a_stack, .inl (kA 2, 64, .inr (.inl stackF)))] s.heap.size = A at hD ⊢
  have hA : ∀ q : Nat, s.heap.size ≤ q → A q := fun q h => by rw [← hAe]; exact Or.inr h
  have hS : va_S A s.heap s.heap [] := va_S.rf
  have hP : va_P (dC, dI) vwCl [(n0, .inr (11, .ref a_tape :: .int m_taped :: .int m_laws :: .ref a_sign :: .ref a_length :: .ref a_clause :: .ref a_clauses :: .ref a_chain :: .int m_next :: .int m_wrong :: .int m_number :: .int m_text :: .int m_made :: .int m_deep :: .int m_lines :: .ref a_open :: .int m_opened :: .ref a_stack :: .int m_top :: .ref a_word :: .ref a_said :: .ref a_kept :: [.int m_goNode, .int m_goDrops, .int m_goHour, .int m_goFelt, .int m_goSalt, .int m_goMore, .ref a_stepNode, .ref a_stepDrops, .ref a_stepHour, .ref a_stepNext, .ref a_stepPass, .int m_bestLeft, .int m_bestHour, .int m_bestMany, .ref a_bestPass, .ref a_far, .ref a_waited, .ref a_servers, .ref a_images, .ref a_isMade])), (a_stack, .inl (kA 2, 64, .inr (.inl stackF)))] s.heap := hP
  have hl := lv_entry ([.ref n0]) (n := 1) (Nat.le_of_ble_eq_true rfl)
  rw [lg_entry_eq]
  generalize (lg_sl ([.ref n0]) ++ List.replicate (1 - (lg_sl ([.ref n0])).length) Slot.unset).toArray = ls at hl ⊢
  have hl : lv_has ls 1 [(0, .ref n0)] := hl
  obtain ⟨H, hHe⟩ : ∃ H : Heap, H = s.heap := ⟨_, rfl⟩
  refine lv_aload_n hx hb dX11_pop_0 rfl (lv_at hl 0 rfl) ?_
  refine lv_dup hx hb dX11_pop_1 rfl ?_
  refine va_get (D := (dC, dI)) (ci := 11) (v := .int m_top) (C := RX11) (T := TX11) (N := 42) hx hb hts iX11_pop_X11 hown hK.1 hP 0 rfl rfl 18 (by decide) (kX11_pop_1 hts) (fun _ h9 => h9) rfl dX11_pop_2 ?_
  refine lv_iconst (v := 1) hx hb dX11_pop_5 (by decide) ?_
  refine lv_isub hx hb dX11_pop_6 ?_
  refine lv_topi (fun x1 ex1 => ?_)
  refine va_put (D := (dC, dI)) (ci := 11) (v := .int x1) (ty := .int) (C := RX11) (T := TX11) (N := 42) hx hb hts iX11_pop_X11 tyX11 tyX11_ok nmX11 hown hK.1 hP hD hS 0 rfl rfl 18 (by decide) (kX11_pop_1 hts) (fun _ h9 => h9) rfl (by decide +kernel) rfl rfl (Nat.le_of_ble_eq_true rfl) dX11_pop_7 (fun H locs hP hD hS => ?_)
  obtain ⟨hP, hD⟩ := z_re (L := [(n0, .inr (11, .ref a_tape :: .int m_taped :: .int m_laws :: .ref a_sign :: .ref a_length :: .ref a_clause :: .ref a_clauses :: .ref a_chain :: .int m_next :: .int m_wrong :: .int m_number :: .int m_text :: .int m_made :: .int m_deep :: .int m_lines :: .ref a_open :: .int m_opened :: .ref a_stack :: .int x1 :: .ref a_word :: .ref a_said :: .ref a_kept :: [.int m_goNode, .int m_goDrops, .int m_goHour, .int m_goFelt, .int m_goSalt, .int m_goMore, .ref a_stepNode, .ref a_stepDrops, .ref a_stepHour, .ref a_stepNext, .ref a_stepPass, .int m_bestLeft, .int m_bestHour, .int m_bestMany, .ref a_bestPass, .ref a_far, .ref a_waited, .ref a_servers, .ref a_images, .ref a_isMade])), (a_stack, .inl (kA 2, 64, .inr (.inl stackF)))]) hP hD
  refine lv_aload_n hx hb dX11_pop_10 rfl (lv_at hl 0 rfl) ?_
  refine va_get (D := (dC, dI)) (ci := 11) (v := .ref a_stack) (C := RX11) (T := TX11) (N := 42) hx hb hts iX11_pop_X11 hown hK.1 hP 0 rfl rfl 17 (by decide) (kX11_pop_2 hts) (fun _ h9 => h9) rfl dX11_pop_11 ?_
  refine lv_aload_n hx hb dX11_pop_14 rfl (lv_at hl 0 rfl) ?_
  refine va_get (D := (dC, dI)) (ci := 11) (v := .int x1) (C := RX11) (T := TX11) (N := 42) hx hb hts iX11_pop_X11 hown hK.1 hP 0 rfl rfl 18 (by decide) (kX11_pop_1 hts) (fun _ h9 => h9) rfl dX11_pop_15 ?_
  refine va_lald hx hb hK.1 hP 1 2 rfl rfl (vp_g (N := 64) (by decide) (gl_mX11_pop_0 m_top x1 ht0 ht1 ex1)) dX11_pop_18 ?_
  refine lv_topl (fun x2 ex2 => ?_)
  obtain ⟨hP9, hD9⟩ := z_sb (L' := [(n0, .inr (11, .ref a_tape :: .int m_taped :: .int m_laws :: .ref a_sign :: .ref a_length :: .ref a_clause :: .ref a_clauses :: .ref a_chain :: .int m_next :: .int m_wrong :: .int m_number :: .int m_text :: .int m_made :: .int m_deep :: .int m_lines :: .ref a_open :: .int m_opened :: .ref a_stack :: .int x1 :: .ref a_word :: .ref a_said :: .ref a_kept :: [.int m_goNode, .int m_goDrops, .int m_goHour, .int m_goFelt, .int m_goSalt, .int m_goMore, .ref a_stepNode, .ref a_stepDrops, .ref a_stepHour, .ref a_stepNext, .ref a_stepPass, .int m_bestLeft, .int m_bestHour, .int m_bestMany, .ref a_bestPass, .ref a_far, .ref a_waited, .ref a_servers, .ref a_images, .ref a_isMade])), (a_stack, .inl (kA 2, 64, .inr (.inl stackF)))]) hP hD [0, 1] (by decide) rfl
  refine W.widen (k := 0) (n := 0) (Nat.le_of_ble_eq_true rfl) (Nat.le_of_ble_eq_true rfl) ?_
  exact W.lret (v := x2) hx hb hr (fun t ht hW => ⟨⟨x2, (x1, x2), rfl, ⟨rfl, ex1⟩, by rw [ht]; exact hP9, hD9⟩, hS.F ht⟩) hS.2.2 dX11_pop_19
set_option maxHeartbeats 4000000 in
set_option maxRecDepth 100000 in
theorem mX11_one (l : Launch) (dC : Nat → ClassId) (dI : Nat → Nat → Nat) (kA : Nat → ClassId) (sz : Nat) (p0 : Int32) (j0 : Int64) (j1 : Int64)  : Met l yX11_one wsX11_one ({ frames := 0, cells := 0, slots := 0, locals := 0 }) (zPc dC dI kA sz [.int p0, .long j0, .long j1] []) (va_Ql (fun (r : Int64) (u : Int64) => r = u) (zB dC dI (va_A [] sz) (fun (u : Int64) => [])) (va_A [] sz)) 0 0 (va_A [] sz) := by
  refine Met.ofW (cc := cX11_one) (maxL := 5) (ret := (some .long)) (by decide) rfl ?_
  intro p e s m args below meth c s₁ B hml hv
  obtain ⟨rfl, hsz, hP, hK, hD0⟩ := hv
  have hx := B.exec
  have hb := B.bytes
  have hr := B.returns
  have hts := atoms_spec (ws := wsX11_one) B.pre
  have hown : s.vm.findClass RX11 = some m.cls := findClass_of_methodNamed B.named
  have hlocks := B.notSynchronized
  subst hsz
  have hD := hD0.self (sz := s.heap.size)
  generalize hAe : va_A [] s.heap.size = A at hD ⊢
  have hA : ∀ q : Nat, s.heap.size ≤ q → A q := fun q h => by rw [← hAe]; exact Or.inr h
  have hS : va_S A s.heap s.heap [] := va_S.rf
  have hP : va_P (dC, dI) vwCl [] s.heap := hP
  have hl := lv_entry ([.int p0, .long j0, .long j1]) (n := 5) (Nat.le_of_ble_eq_true rfl)
  rw [lg_entry_eq]
  generalize (lg_sl ([.int p0, .long j0, .long j1]) ++ List.replicate (5 - (lg_sl ([.int p0, .long j0, .long j1])).length) Slot.unset).toArray = ls at hl ⊢
  have hl : lv_has ls 5 [(0, .int p0), (1, .long j0), (3, .long j1)] := hl
  refine lv_iload_n hx hb dX11_one_0 rfl (lv_at hl 0 rfl) ?_
  rcases sw_2_12 p0 with hs1 | hs1 | hs1 | hs1 | hs1 | hs1 | hs1 | hs1 | hs1 | hs1 | hs1 | hs1
  · refine lv_tableOut (tgt := 150) hx hb dX11_one_1 hs1 (by decide) ?_
    refine lv_lload_n hx hb dX11_one_150 rfl (lv_at hl 1 rfl) ?_
    refine lv_lload_n hx hb dX11_one_151 rfl (lv_at hl 2 rfl) ?_
    refine lv_lor hx hb dX11_one_152 ?_
    refine lv_topl (fun x2 ex2 => ?_)
    obtain ⟨hP9, hD9⟩ := z_sb (L' := []) hP hD [] (by decide) rfl
    refine W.widen (k := 0) (n := 0) (Nat.le_of_ble_eq_true rfl) (Nat.le_of_ble_eq_true rfl) ?_
    exact W.lret (v := x2) hx hb hr (fun t ht hW => ⟨⟨x2, (x2), rfl, rfl, by rw [ht]; exact hP9, hD9⟩, hS.F ht⟩) hS.2.2 dX11_one_153
  · refine lv_tableIn (off := 59) (tgt := 60) hx hb dX11_one_1 (by rw [hs1]; decide) (by rw [hs1]; decide) (by rw [hs1]; decide) (by decide) ?_
    have hl : lv_has ls 5 [(0, .int 2), (1, .long j0), (3, .long j1)] := by rw [hs1] at hl; exact hl
    refine lv_lload_n hx hb dX11_one_60 rfl (lv_at hl 1 rfl) ?_
    refine lv_lload_n hx hb dX11_one_61 rfl (lv_at hl 2 rfl) ?_
    refine lv_ladd hx hb dX11_one_62 ?_
    refine lv_topl (fun x3 ex3 => ?_)
    obtain ⟨hP9, hD9⟩ := z_sb (L' := []) hP hD [] (by decide) rfl
    refine W.widen (k := 0) (n := 0) (Nat.le_of_ble_eq_true rfl) (Nat.le_of_ble_eq_true rfl) ?_
    exact W.lret (v := x3) hx hb hr (fun t ht hW => ⟨⟨x3, (x3), rfl, rfl, by rw [ht]; exact hP9, hD9⟩, hS.F ht⟩) hS.2.2 dX11_one_63
  · refine lv_tableIn (off := 63) (tgt := 64) hx hb dX11_one_1 (by rw [hs1]; decide) (by rw [hs1]; decide) (by rw [hs1]; decide) (by decide) ?_
    have hl : lv_has ls 5 [(0, .int 3), (1, .long j0), (3, .long j1)] := by rw [hs1] at hl; exact hl
    refine lv_lload_n hx hb dX11_one_64 rfl (lv_at hl 1 rfl) ?_
    refine lv_lload_n hx hb dX11_one_65 rfl (lv_at hl 2 rfl) ?_
    refine lv_lsub hx hb dX11_one_66 ?_
    refine lv_topl (fun x4 ex4 => ?_)
    obtain ⟨hP9, hD9⟩ := z_sb (L' := []) hP hD [] (by decide) rfl
    refine W.widen (k := 0) (n := 0) (Nat.le_of_ble_eq_true rfl) (Nat.le_of_ble_eq_true rfl) ?_
    exact W.lret (v := x4) hx hb hr (fun t ht hW => ⟨⟨x4, (x4), rfl, rfl, by rw [ht]; exact hP9, hD9⟩, hS.F ht⟩) hS.2.2 dX11_one_67
  · refine lv_tableIn (off := 67) (tgt := 68) hx hb dX11_one_1 (by rw [hs1]; decide) (by rw [hs1]; decide) (by rw [hs1]; decide) (by decide) ?_
    have hl : lv_has ls 5 [(0, .int 4), (1, .long j0), (3, .long j1)] := by rw [hs1] at hl; exact hl
    refine lv_lload_n hx hb dX11_one_68 rfl (lv_at hl 1 rfl) ?_
    refine lv_lload_n hx hb dX11_one_69 rfl (lv_at hl 2 rfl) ?_
    refine lv_lmul hx hb dX11_one_70 ?_
    refine lv_topl (fun x5 ex5 => ?_)
    obtain ⟨hP9, hD9⟩ := z_sb (L' := []) hP hD [] (by decide) rfl
    refine W.widen (k := 0) (n := 0) (Nat.le_of_ble_eq_true rfl) (Nat.le_of_ble_eq_true rfl) ?_
    exact W.lret (v := x5) hx hb hr (fun t ht hW => ⟨⟨x5, (x5), rfl, rfl, by rw [ht]; exact hP9, hD9⟩, hS.F ht⟩) hS.2.2 dX11_one_71
  · refine lv_tableIn (off := 71) (tgt := 72) hx hb dX11_one_1 (by rw [hs1]; decide) (by rw [hs1]; decide) (by rw [hs1]; decide) (by decide) ?_
    have hl : lv_has ls 5 [(0, .int 5), (1, .long j0), (3, .long j1)] := by rw [hs1] at hl; exact hl
    refine lv_lload_n hx hb dX11_one_72 rfl (lv_at hl 2 rfl) ?_
    refine lv_lconst (v := 0) hx hb dX11_one_73 (by decide) ?_
    refine W.lcmp hx hb dX11_one_74 ?_
    refine lv_if_ne (tgt := 82) hx hb dX11_one_75 (by decide) (fun c_6 => ?_) (fun c_6 => ?_)
    · refine lv_lload_n hx hb dX11_one_82 rfl (lv_at hl 1 rfl) ?_
      refine lv_lload_n hx hb dX11_one_83 rfl (lv_at hl 2 rfl) ?_
      refine lv_ldiv hx hb dX11_one_84 (fun q => c_6 ((lg_cmp_eq _ _).mpr q)) ?_
      refine lv_topl (fun x7 ex7 => ?_)
      obtain ⟨hP9, hD9⟩ := z_sb (L' := []) hP hD [] (by decide) rfl
      refine W.widen (k := 0) (n := 0) (Nat.le_of_ble_eq_true rfl) (Nat.le_of_ble_eq_true rfl) ?_
      exact W.lret (v := x7) hx hb hr (fun t ht hW => ⟨⟨x7, (x7), rfl, rfl, by rw [ht]; exact hP9, hD9⟩, hS.F ht⟩) hS.2.2 dX11_one_85
    · refine lv_lconst (v := 0) hx hb dX11_one_78 (by decide) ?_
      refine lv_goto (tgt := 85) hx hb dX11_one_79 (by decide) ?_
      obtain ⟨hP9, hD9⟩ := z_sb (L' := []) hP hD [] (by decide) rfl
      refine W.widen (k := 0) (n := 0) (Nat.le_of_ble_eq_true rfl) (Nat.le_of_ble_eq_true rfl) ?_
      exact W.lret (v := 0) hx hb hr (fun t ht hW => ⟨⟨0, (0), rfl, rfl, by rw [ht]; exact hP9, hD9⟩, hS.F ht⟩) hS.2.2 dX11_one_85
  · refine lv_tableIn (off := 85) (tgt := 86) hx hb dX11_one_1 (by rw [hs1]; decide) (by rw [hs1]; decide) (by rw [hs1]; decide) (by decide) ?_
    have hl : lv_has ls 5 [(0, .int 6), (1, .long j0), (3, .long j1)] := by rw [hs1] at hl; exact hl
    refine lv_lload_n hx hb dX11_one_86 rfl (lv_at hl 1 rfl) ?_
    refine lv_lload_n hx hb dX11_one_87 rfl (lv_at hl 2 rfl) ?_
    refine W.lcmp hx hb dX11_one_88 ?_
    refine lv_if_ge (tgt := 96) hx hb dX11_one_89 (by decide) (fun c_8 => ?_) (fun c_8 => ?_)
    · refine lv_lconst (v := 0) hx hb dX11_one_96 (by decide) ?_
      obtain ⟨hP9, hD9⟩ := z_sb (L' := []) hP hD [] (by decide) rfl
      refine W.widen (k := 0) (n := 0) (Nat.le_of_ble_eq_true rfl) (Nat.le_of_ble_eq_true rfl) ?_
      exact W.lret (v := 0) hx hb hr (fun t ht hW => ⟨⟨0, (0), rfl, rfl, by rw [ht]; exact hP9, hD9⟩, hS.F ht⟩) hS.2.2 dX11_one_97
    · refine lv_lconst (v := 1) hx hb dX11_one_92 (by decide) ?_
      refine lv_goto (tgt := 97) hx hb dX11_one_93 (by decide) ?_
      obtain ⟨hP9, hD9⟩ := z_sb (L' := []) hP hD [] (by decide) rfl
      refine W.widen (k := 0) (n := 0) (Nat.le_of_ble_eq_true rfl) (Nat.le_of_ble_eq_true rfl) ?_
      exact W.lret (v := 1) hx hb hr (fun t ht hW => ⟨⟨1, (1), rfl, rfl, by rw [ht]; exact hP9, hD9⟩, hS.F ht⟩) hS.2.2 dX11_one_97
  · refine lv_tableIn (off := 97) (tgt := 98) hx hb dX11_one_1 (by rw [hs1]; decide) (by rw [hs1]; decide) (by rw [hs1]; decide) (by decide) ?_
    have hl : lv_has ls 5 [(0, .int 7), (1, .long j0), (3, .long j1)] := by rw [hs1] at hl; exact hl
    refine lv_lload_n hx hb dX11_one_98 rfl (lv_at hl 1 rfl) ?_
    refine lv_lload_n hx hb dX11_one_99 rfl (lv_at hl 2 rfl) ?_
    refine W.lcmp hx hb dX11_one_100 ?_
    refine lv_if_gt (tgt := 108) hx hb dX11_one_101 (by decide) (fun c_9 => ?_) (fun c_9 => ?_)
    · refine lv_lconst (v := 0) hx hb dX11_one_108 (by decide) ?_
      obtain ⟨hP9, hD9⟩ := z_sb (L' := []) hP hD [] (by decide) rfl
      refine W.widen (k := 0) (n := 0) (Nat.le_of_ble_eq_true rfl) (Nat.le_of_ble_eq_true rfl) ?_
      exact W.lret (v := 0) hx hb hr (fun t ht hW => ⟨⟨0, (0), rfl, rfl, by rw [ht]; exact hP9, hD9⟩, hS.F ht⟩) hS.2.2 dX11_one_109
    · refine lv_lconst (v := 1) hx hb dX11_one_104 (by decide) ?_
      refine lv_goto (tgt := 109) hx hb dX11_one_105 (by decide) ?_
      obtain ⟨hP9, hD9⟩ := z_sb (L' := []) hP hD [] (by decide) rfl
      refine W.widen (k := 0) (n := 0) (Nat.le_of_ble_eq_true rfl) (Nat.le_of_ble_eq_true rfl) ?_
      exact W.lret (v := 1) hx hb hr (fun t ht hW => ⟨⟨1, (1), rfl, rfl, by rw [ht]; exact hP9, hD9⟩, hS.F ht⟩) hS.2.2 dX11_one_109
  · refine lv_tableIn (off := 109) (tgt := 110) hx hb dX11_one_1 (by rw [hs1]; decide) (by rw [hs1]; decide) (by rw [hs1]; decide) (by decide) ?_
    have hl : lv_has ls 5 [(0, .int 8), (1, .long j0), (3, .long j1)] := by rw [hs1] at hl; exact hl
    refine lv_lload_n hx hb dX11_one_110 rfl (lv_at hl 1 rfl) ?_
    refine lv_lload_n hx hb dX11_one_111 rfl (lv_at hl 2 rfl) ?_
    refine W.lcmp hx hb dX11_one_112 ?_
    refine lv_if_ne (tgt := 120) hx hb dX11_one_113 (by decide) (fun c_10 => ?_) (fun c_10 => ?_)
    · refine lv_lconst (v := 0) hx hb dX11_one_120 (by decide) ?_
      obtain ⟨hP9, hD9⟩ := z_sb (L' := []) hP hD [] (by decide) rfl
      refine W.widen (k := 0) (n := 0) (Nat.le_of_ble_eq_true rfl) (Nat.le_of_ble_eq_true rfl) ?_
      exact W.lret (v := 0) hx hb hr (fun t ht hW => ⟨⟨0, (0), rfl, rfl, by rw [ht]; exact hP9, hD9⟩, hS.F ht⟩) hS.2.2 dX11_one_121
    · refine lv_lconst (v := 1) hx hb dX11_one_116 (by decide) ?_
      refine lv_goto (tgt := 121) hx hb dX11_one_117 (by decide) ?_
      obtain ⟨hP9, hD9⟩ := z_sb (L' := []) hP hD [] (by decide) rfl
      refine W.widen (k := 0) (n := 0) (Nat.le_of_ble_eq_true rfl) (Nat.le_of_ble_eq_true rfl) ?_
      exact W.lret (v := 1) hx hb hr (fun t ht hW => ⟨⟨1, (1), rfl, rfl, by rw [ht]; exact hP9, hD9⟩, hS.F ht⟩) hS.2.2 dX11_one_121
  · refine lv_tableIn (off := 121) (tgt := 122) hx hb dX11_one_1 (by rw [hs1]; decide) (by rw [hs1]; decide) (by rw [hs1]; decide) (by decide) ?_
    have hl : lv_has ls 5 [(0, .int 9), (1, .long j0), (3, .long j1)] := by rw [hs1] at hl; exact hl
    refine lv_lload_n hx hb dX11_one_122 rfl (lv_at hl 1 rfl) ?_
    refine lv_lload_n hx hb dX11_one_123 rfl (lv_at hl 2 rfl) ?_
    refine W.lcmp hx hb dX11_one_124 ?_
    refine lv_if_lt (tgt := 132) hx hb dX11_one_125 (by decide) (fun c_11 => ?_) (fun c_11 => ?_)
    · refine lv_lconst (v := 0) hx hb dX11_one_132 (by decide) ?_
      obtain ⟨hP9, hD9⟩ := z_sb (L' := []) hP hD [] (by decide) rfl
      refine W.widen (k := 0) (n := 0) (Nat.le_of_ble_eq_true rfl) (Nat.le_of_ble_eq_true rfl) ?_
      exact W.lret (v := 0) hx hb hr (fun t ht hW => ⟨⟨0, (0), rfl, rfl, by rw [ht]; exact hP9, hD9⟩, hS.F ht⟩) hS.2.2 dX11_one_133
    · refine lv_lconst (v := 1) hx hb dX11_one_128 (by decide) ?_
      refine lv_goto (tgt := 133) hx hb dX11_one_129 (by decide) ?_
      obtain ⟨hP9, hD9⟩ := z_sb (L' := []) hP hD [] (by decide) rfl
      refine W.widen (k := 0) (n := 0) (Nat.le_of_ble_eq_true rfl) (Nat.le_of_ble_eq_true rfl) ?_
      exact W.lret (v := 1) hx hb hr (fun t ht hW => ⟨⟨1, (1), rfl, rfl, by rw [ht]; exact hP9, hD9⟩, hS.F ht⟩) hS.2.2 dX11_one_133
  · refine lv_tableIn (off := 133) (tgt := 134) hx hb dX11_one_1 (by rw [hs1]; decide) (by rw [hs1]; decide) (by rw [hs1]; decide) (by decide) ?_
    have hl : lv_has ls 5 [(0, .int 10), (1, .long j0), (3, .long j1)] := by rw [hs1] at hl; exact hl
    refine lv_lload_n hx hb dX11_one_134 rfl (lv_at hl 1 rfl) ?_
    refine lv_lload_n hx hb dX11_one_135 rfl (lv_at hl 2 rfl) ?_
    refine W.lcmp hx hb dX11_one_136 ?_
    refine lv_if_le (tgt := 144) hx hb dX11_one_137 (by decide) (fun c_12 => ?_) (fun c_12 => ?_)
    · refine lv_lconst (v := 0) hx hb dX11_one_144 (by decide) ?_
      obtain ⟨hP9, hD9⟩ := z_sb (L' := []) hP hD [] (by decide) rfl
      refine W.widen (k := 0) (n := 0) (Nat.le_of_ble_eq_true rfl) (Nat.le_of_ble_eq_true rfl) ?_
      exact W.lret (v := 0) hx hb hr (fun t ht hW => ⟨⟨0, (0), rfl, rfl, by rw [ht]; exact hP9, hD9⟩, hS.F ht⟩) hS.2.2 dX11_one_145
    · refine lv_lconst (v := 1) hx hb dX11_one_140 (by decide) ?_
      refine lv_goto (tgt := 145) hx hb dX11_one_141 (by decide) ?_
      obtain ⟨hP9, hD9⟩ := z_sb (L' := []) hP hD [] (by decide) rfl
      refine W.widen (k := 0) (n := 0) (Nat.le_of_ble_eq_true rfl) (Nat.le_of_ble_eq_true rfl) ?_
      exact W.lret (v := 1) hx hb hr (fun t ht hW => ⟨⟨1, (1), rfl, rfl, by rw [ht]; exact hP9, hD9⟩, hS.F ht⟩) hS.2.2 dX11_one_145
  · refine lv_tableIn (off := 149) (tgt := 150) hx hb dX11_one_1 (by rw [hs1]; decide) (by rw [hs1]; decide) (by rw [hs1]; decide) (by decide) ?_
    have hl : lv_has ls 5 [(0, .int 11), (1, .long j0), (3, .long j1)] := by rw [hs1] at hl; exact hl
    refine lv_lload_n hx hb dX11_one_150 rfl (lv_at hl 1 rfl) ?_
    refine lv_lload_n hx hb dX11_one_151 rfl (lv_at hl 2 rfl) ?_
    refine lv_lor hx hb dX11_one_152 ?_
    refine lv_topl (fun x13 ex13 => ?_)
    obtain ⟨hP9, hD9⟩ := z_sb (L' := []) hP hD [] (by decide) rfl
    refine W.widen (k := 0) (n := 0) (Nat.le_of_ble_eq_true rfl) (Nat.le_of_ble_eq_true rfl) ?_
    exact W.lret (v := x13) hx hb hr (fun t ht hW => ⟨⟨x13, (x13), rfl, rfl, by rw [ht]; exact hP9, hD9⟩, hS.F ht⟩) hS.2.2 dX11_one_153
  · refine lv_tableIn (off := 145) (tgt := 146) hx hb dX11_one_1 (by rw [hs1]; decide) (by rw [hs1]; decide) (by rw [hs1]; decide) (by decide) ?_
    have hl : lv_has ls 5 [(0, .int 12), (1, .long j0), (3, .long j1)] := by rw [hs1] at hl; exact hl
    refine lv_lload_n hx hb dX11_one_146 rfl (lv_at hl 1 rfl) ?_
    refine lv_lload_n hx hb dX11_one_147 rfl (lv_at hl 2 rfl) ?_
    refine lv_land hx hb dX11_one_148 ?_
    refine lv_topl (fun x14 ex14 => ?_)
    obtain ⟨hP9, hD9⟩ := z_sb (L' := []) hP hD [] (by decide) rfl
    refine W.widen (k := 0) (n := 0) (Nat.le_of_ble_eq_true rfl) (Nat.le_of_ble_eq_true rfl) ?_
    exact W.lret (v := x14) hx hb hr (fun t ht hW => ⟨⟨x14, (x14), rfl, rfl, by rw [ht]; exact hP9, hD9⟩, hS.F ht⟩) hS.2.2 dX11_one_149
theorem gl_mX11_reckons_0 (p0 : Int32) (p1 : Int32) (p2 : Int32) (l8_2 : Int32) (h0 : ¬ p0 < 0) (h1 : ¬ 6 ≤ p0) (h2 : ¬ p1 < 0) (h3 : ¬ p2 < p1) (h4 : ¬ 400 < p2) (h5 : ¬ l8_2 < 0) (h6 : ¬ l8_2 < p1) (h7 : ¬ p2 < l8_2) (h8 : ¬ p2 ≤ l8_2) : (¬ ((400 * p0) + l8_2) < 0 ∧ ¬ 2400 ≤ ((400 * p0) + l8_2)) := by grind
theorem gl_mX11_reckons_1 (v8_0 : Int32) (h0 : ¬ v8_0 < 2) (h1 : ¬ 60 < v8_0) : ¬ v8_0 < 1 := by grind
theorem gl_mX11_reckons_2 (v8_0 : Int32) (oy8_15 : Int32) (h0 : ¬ v8_0 < 2) (h1 : ¬ 60 < v8_0) (h2 : oy8_15 = (v8_0 - 1)) : ¬ oy8_15 < 1 := by grind
theorem gl_mX11_reckons_3 (v8_0 : Int32) (oy8_15 : Int32) (h0 : ¬ v8_0 < 2) (h1 : ¬ 60 < v8_0) (h2 : oy8_15 = (v8_0 - 1)) : ¬ 60 < oy8_15 := by grind
theorem gl_mX11_reckons_4 (v8_0 : Int32) (oy8_15 : Int32) (oy8_22 : Int32) (h0 : ¬ v8_0 < 2) (h1 : ¬ 60 < v8_0) (h2 : oy8_15 = (v8_0 - 1)) (h3 : oy8_22 = (oy8_15 - 1)) : ¬ oy8_22 < 0 := by grind
theorem gl_mX11_reckons_5 (v8_0 : Int32) (oy8_15 : Int32) (oy8_22 : Int32) (h0 : ¬ v8_0 < 2) (h1 : ¬ 60 < v8_0) (h2 : oy8_15 = (v8_0 - 1)) (h3 : oy8_22 = (oy8_15 - 1)) : ¬ 60 < oy8_22 := by grind
theorem gl_mX11_reckons_6 (v8_0 : Int32) (oy8_42 : Int32) (h0 : ¬ v8_0 < 1) (h1 : ¬ 60 < v8_0) (h2 : oy8_42 = (v8_0 - 1)) : ¬ oy8_42 < 0 := by grind
theorem gl_mX11_reckons_7 (v8_0 : Int32) (oy8_42 : Int32) (h0 : ¬ v8_0 < 1) (h1 : ¬ 60 < v8_0) (h2 : oy8_42 = (v8_0 - 1)) : ¬ 60 < oy8_42 := by grind
set_option maxHeartbeats 4000000 in
set_option maxRecDepth 100000 in
theorem lp_mX11_reckons_8 {p : Program} {l : Launch} {e : Env} {R : Room} {s : State} {m : MethodId} {args : Array Value} {below : List Frame} {meth : Method} {c : Code} {Q : State → Prop} {dC : Nat → ClassId} {dI : Nat → Nat → Nat} {kA : Nat → ClassId} {A : Nat → Prop} {H0 : Heap} {cells slots : Nat} (hx : p.tables.exec = Jvm.exec) (hb : c.code = cX11_reckons) (hml : c.maxLocals = 11) (hts : ∀ w ∈ wsX11_reckons, w.before args s = true) (hown : s.vm.findClass RX11 = some m.cls) (hK : zK dC dI kA s) (hA : ∀ q, H0.size ≤ q → A q) (hRf : 1 ≤ R.frames) (hRl : 24 ≤ R.locals) (hRc : cells ≤ R.cells) (hRs : slots ≤ R.slots) (n0 : Nat) (m_taped : Int32) (m_laws : Int32) (m_next : Int32) (m_wrong : Int32) (m_number : Int32) (m_text : Int32) (m_made : Int32) (m_deep : Int32) (m_lines : Int32) (m_opened : Int32) (m_goNode : Int32) (m_goDrops : Int32) (m_goHour : Int32) (m_goFelt : Int32) (m_goSalt : Int32) (m_goMore : Int32) (m_bestLeft : Int32) (m_bestHour : Int32) (m_bestMany : Int32) (a_tape : Nat) (a_sign : Nat) (a_length : Nat) (a_clause : Nat) (a_clauses : Nat) (a_chain : Nat) (a_open : Nat) (a_stack : Nat) (a_word : Nat) (a_said : Nat) (a_kept : Nat) (a_stepNode : Nat) (a_stepDrops : Nat) (a_stepHour : Nat) (a_stepNext : Nat) (a_stepPass : Nat) (a_bestPass : Nat) (a_far : Nat) (a_waited : Nat) (a_servers : Nat) (a_images : Nat) (a_isMade : Nat) (signF : Nat → Int32) (wordF : Nat → Int64) (p0 : Int32) (p1 : Int32) (p2 : Int32) (hco : CodeOK signF p0 p1 p2) (hz1 : ¬ p0 < 0) (hz2 : ¬ 6 ≤ p0) (hz3 : ¬ p1 < 0) (hz4 : ¬ p2 < p1) (hz5 : ¬ 400 < p2) (k135 : ∀ (w135_0 : Int32) (w135_1 : Nat → Int64) (w135_2 : Int32) (H : Heap) (locs : List Loc) (ls : Array Slot), ¬ w135_2 < 0 → ¬ p2 < w135_2 → RInv signF p0 p1 p2 w135_2 w135_0 → p2 ≤ w135_2 → va_P (dC, dI) vwCl [(n0, .inr (11, .ref a_tape :: .int m_taped :: .int m_laws :: .ref a_sign :: .ref a_length :: .ref a_clause :: .ref a_clauses :: .ref a_chain :: .int m_next :: .int m_wrong :: .int m_number :: .int m_text :: .int m_made :: .int m_deep :: .int m_lines :: .ref a_open :: .int m_opened :: .ref a_stack :: .int w135_0 :: .ref a_word :: .ref a_said :: .ref a_kept :: [.int m_goNode, .int m_goDrops, .int m_goHour, .int m_goFelt, .int m_goSalt, .int m_goMore, .ref a_stepNode, .ref a_stepDrops, .ref a_stepHour, .ref a_stepNext, .ref a_stepPass, .int m_bestLeft, .int m_bestHour, .int m_bestMany, .ref a_bestPass, .ref a_far, .ref a_waited, .ref a_servers, .ref a_images, .ref a_isMade])), (a_sign, .inl (kA 0, 2400, .inl signF)), (a_stack, .inl (kA 2, 64, .inr (.inl w135_1))), (a_word, .inl (kA 2, 11, .inr (.inl wordF)))] H → va_D A [(n0, .inr (11, .ref a_tape :: .int m_taped :: .int m_laws :: .ref a_sign :: .ref a_length :: .ref a_clause :: .ref a_clauses :: .ref a_chain :: .int m_next :: .int m_wrong :: .int m_number :: .int m_text :: .int m_made :: .int m_deep :: .int m_lines :: .ref a_open :: .int m_opened :: .ref a_stack :: .int w135_0 :: .ref a_word :: .ref a_said :: .ref a_kept :: [.int m_goNode, .int m_goDrops, .int m_goHour, .int m_goFelt, .int m_goSalt, .int m_goMore, .ref a_stepNode, .ref a_stepDrops, .ref a_stepHour, .ref a_stepNext, .ref a_stepPass, .int m_bestLeft, .int m_bestHour, .int m_bestMany, .ref a_bestPass, .ref a_far, .ref a_waited, .ref a_servers, .ref a_images, .ref a_isMade])), (a_sign, .inl (kA 0, 2400, .inl signF)), (a_stack, .inl (kA 2, 64, .inr (.inl w135_1))), (a_word, .inl (kA 2, 11, .inr (.inl wordF)))] → va_S A H0 H locs → lv_has ls 11 [(4, .int w135_2), (0, .ref n0), (1, .int p0), (2, .int p1), (3, .int p2)] → W p l e R s m args below meth c H locs cells slots Q (F0 m 135 ls []))  : ∀ (n : Nat) (v8_0 : Int32) (g8_1 : Nat → Int64) (l8_2 : Int32) (H : Heap) (locs : List Loc) (ls : Array Slot), ((p2 : Int32).toInt - l8_2.toInt).toNat < n → ¬ l8_2 < 0 → RInv signF p0 p1 p2 l8_2 v8_0 → va_P (dC, dI) vwCl [(n0, .inr (11, .ref a_tape :: .int m_taped :: .int m_laws :: .ref a_sign :: .ref a_length :: .ref a_clause :: .ref a_clauses :: .ref a_chain :: .int m_next :: .int m_wrong :: .int m_number :: .int m_text :: .int m_made :: .int m_deep :: .int m_lines :: .ref a_open :: .int m_opened :: .ref a_stack :: .int v8_0 :: .ref a_word :: .ref a_said :: .ref a_kept :: [.int m_goNode, .int m_goDrops, .int m_goHour, .int m_goFelt, .int m_goSalt, .int m_goMore, .ref a_stepNode, .ref a_stepDrops, .ref a_stepHour, .ref a_stepNext, .ref a_stepPass, .int m_bestLeft, .int m_bestHour, .int m_bestMany, .ref a_bestPass, .ref a_far, .ref a_waited, .ref a_servers, .ref a_images, .ref a_isMade])), (a_sign, .inl (kA 0, 2400, .inl signF)), (a_stack, .inl (kA 2, 64, .inr (.inl g8_1))), (a_word, .inl (kA 2, 11, .inr (.inl wordF)))] H → va_D A [(n0, .inr (11, .ref a_tape :: .int m_taped :: .int m_laws :: .ref a_sign :: .ref a_length :: .ref a_clause :: .ref a_clauses :: .ref a_chain :: .int m_next :: .int m_wrong :: .int m_number :: .int m_text :: .int m_made :: .int m_deep :: .int m_lines :: .ref a_open :: .int m_opened :: .ref a_stack :: .int v8_0 :: .ref a_word :: .ref a_said :: .ref a_kept :: [.int m_goNode, .int m_goDrops, .int m_goHour, .int m_goFelt, .int m_goSalt, .int m_goMore, .ref a_stepNode, .ref a_stepDrops, .ref a_stepHour, .ref a_stepNext, .ref a_stepPass, .int m_bestLeft, .int m_bestHour, .int m_bestMany, .ref a_bestPass, .ref a_far, .ref a_waited, .ref a_servers, .ref a_images, .ref a_isMade])), (a_sign, .inl (kA 0, 2400, .inl signF)), (a_stack, .inl (kA 2, 64, .inr (.inl g8_1))), (a_word, .inl (kA 2, 11, .inr (.inl wordF)))] → va_S A H0 H locs → lv_has ls 11 [(4, .int l8_2), (0, .ref n0), (1, .int p0), (2, .int p1), (3, .int p2)] → W p l e R s m args below meth c H locs cells slots Q (F0 m 8 ls []) := by
  intro n
  induction n with
  | zero =>
    intro v8_0 g8_1 l8_2 H locs ls hn
    exact absurd hn (Nat.not_lt_zero _)
  | succ n ih =>
    intro v8_0 g8_1 l8_2 H locs ls hn hi8 hri hP hD hS hl
    have hzy8_1 : ¬ l8_2 < p1 := hri.2.1.1
    have hzy8_2 : ¬ p2 < l8_2 := hri.2.1.2
    refine lv_iload hx hb dX11_reckons_8 (lv_at hl 0 rfl) ?_
    refine lv_iload_n hx hb dX11_reckons_10 rfl (lv_at hl 4 rfl) ?_
    refine lv_icmp_ge (tgt := 135) hx hb dX11_reckons_11 (by decide) (fun c_y8_3 => ?_) (fun c_y8_3 => ?_)
    · exact k135 v8_0 g8_1 l8_2 H locs ls hi8 hzy8_2 hri c_y8_3 (hP.sub [0, 1, 2, 3] rfl) (hD.sub [0, 1, 2, 3] (by decide) rfl) hS (lv_sub hl [0, 1, 2, 3, 4] rfl)
    · refine lv_aload_n hx hb dX11_reckons_14 rfl (lv_at hl 1 rfl) ?_
      refine va_get (D := (dC, dI)) (ci := 11) (v := .ref a_sign) (C := RX11) (T := TX11) (N := 42) hx hb hts iX11_reckons_X11 hown hK.1 hP 0 rfl rfl 3 (by decide) (kX11_reckons_2 hts) (fun _ h9 => h9) rfl dX11_reckons_15 ?_
      refine lv_sipush (v := 400) hx hb dX11_reckons_18 (by decide) ?_
      refine lv_iload_n hx hb dX11_reckons_21 rfl (lv_at hl 2 rfl) ?_
      refine lv_imul hx hb dX11_reckons_22 ?_
      refine lv_iload hx hb dX11_reckons_23 (lv_at hl 0 rfl) ?_
      refine lv_iadd hx hb dX11_reckons_25 ?_
      refine va_iald hx hb hK.1 hP 1 0 rfl rfl (vp_g (N := 2400) (by decide) (gl_mX11_reckons_0 p0 p1 p2 l8_2 hz1 hz2 hz3 hz4 hz5 hi8 hzy8_1 hzy8_2 c_y8_3)) dX11_reckons_26 ?_
      refine lv_topi (fun xy8_4 exy8_4 => ?_)
      refine lv_bipush (v := 15) hx hb dX11_reckons_27 (by decide) ?_
      refine lv_iand hx hb dX11_reckons_29 ?_
      refine lv_topi (fun xy8_5 exy8_5 => ?_)
      refine lv_istore (lv' := [(5, .int xy8_5), (4, .int l8_2), (0, .ref n0), (1, .int p0), (2, .int p1), (3, .int p2)]) hx hb dX11_reckons_30 hl (by decide) rfl (fun ls hl => ?_)
      refine lv_aload_n hx hb dX11_reckons_32 rfl (lv_at hl 2 rfl) ?_
      refine va_get (D := (dC, dI)) (ci := 11) (v := .ref a_sign) (C := RX11) (T := TX11) (N := 42) hx hb hts iX11_reckons_X11 hown hK.1 hP 0 rfl rfl 3 (by decide) (kX11_reckons_2 hts) (fun _ h9 => h9) rfl dX11_reckons_33 ?_
      refine lv_sipush (v := 400) hx hb dX11_reckons_36 (by decide) ?_
      refine lv_iload_n hx hb dX11_reckons_39 rfl (lv_at hl 3 rfl) ?_
      refine lv_imul hx hb dX11_reckons_40 ?_
      refine lv_iload hx hb dX11_reckons_41 (lv_at hl 1 rfl) ?_
      refine lv_iadd hx hb dX11_reckons_43 ?_
      refine va_iald hx hb hK.1 hP 1 0 rfl rfl (vp_g (N := 2400) (by decide) (gl_mX11_reckons_0 p0 p1 p2 l8_2 hz1 hz2 hz3 hz4 hz5 hi8 hzy8_1 hzy8_2 c_y8_3)) dX11_reckons_44 ?_
      refine lv_topi (fun xy8_6 exy8_6 => ?_)
      refine lv_iconst (v := 4) hx hb dX11_reckons_45 (by decide) ?_
      refine lv_ishr hx hb dX11_reckons_46 ?_
      refine lv_topi (fun xy8_7 exy8_7 => ?_)
      refine lv_istore (lv' := [(6, .int xy8_7), (5, .int xy8_5), (4, .int l8_2), (0, .ref n0), (1, .int p0), (2, .int p1), (3, .int p2)]) hx hb dX11_reckons_47 hl (by decide) rfl (fun ls hl => ?_)
      refine lv_iload hx hb dX11_reckons_49 (lv_at hl 1 rfl) ?_
      refine lv_if_ne (tgt := 64) hx hb dX11_reckons_51 (by decide) (fun c_y8_8 => ?_) (fun c_y8_8 => ?_)
      · refine lv_iload hx hb dX11_reckons_64 (lv_at hl 1 rfl) ?_
        refine lv_iconst (v := 1) hx hb dX11_reckons_66 (by decide) ?_
        refine lv_icmp_ne (tgt := 84) hx hb dX11_reckons_67 (by decide) (fun c_y8_9 => ?_) (fun c_y8_9 => ?_)
        · refine lv_iload hx hb dX11_reckons_84 (lv_at hl 1 rfl) ?_
          refine lv_bipush (v := 11) hx hb dX11_reckons_86 (by decide) ?_
          refine lv_icmp_ne (tgt := 104) hx hb dX11_reckons_88 (by decide) (fun c_y8_10 => ?_) (fun c_y8_10 => ?_)
          · have hny8_11 := R_bin hri c_y8_3 exy8_4 exy8_5 c_y8_8 c_y8_9 c_y8_10
            have hny8_11a : ¬ v8_0 < 2 := hny8_11.1.1
            have hny8_11b : ¬ 60 < v8_0 := hny8_11.1.2
            refine lv_aload_n hx hb dX11_reckons_104 rfl (lv_at hl 3 rfl) ?_
            refine z_l (wr := [(a_sign, .inl (kA 0, 2400, .inl signF)), (a_word, .inl (kA 2, 11, .inr (.inl wordF)))]) (va_runV (As := []) (rest := []) ⟨hx, hb, hml, hown, hts⟩ (mX11_pop l dC dI kA _ n0 m_taped m_laws m_next m_wrong m_number m_text m_made m_deep m_lines m_opened v8_0 m_goNode m_goDrops m_goHour m_goFelt m_goSalt m_goMore m_bestLeft m_bestHour m_bestMany a_tape a_sign a_length a_clause a_clauses a_chain a_open a_stack a_word a_said a_kept a_stepNode a_stepDrops a_stepHour a_stepNext a_stepPass a_bestPass a_far a_waited a_servers a_images a_isMade g8_1 (gl_mX11_reckons_1 v8_0 hny8_11a hny8_11b) hny8_11b) (cwV 0 hts gX11_reckons_X11_pop rfl rfl rfl ⟨rfl, hdX11_pop⟩ ⟨(Nat.le_trans (Nat.le_of_ble_eq_true rfl) hRf), (Nat.le_trans (Nat.le_of_ble_eq_true rfl) hRl)⟩) ⟨zPc.blind, va_recv hK.1 hP (ci := 11) (q0 := 0) rfl rfl, zPre hK (hP.sub [0, 2] rfl) (hD.sub [0, 2] (by decide) rfl)⟩ rfl rfl hl.1 rfl (lv_room (Nat.le_of_ble_eq_true rfl)) dX11_reckons_105 ⟨hRc, hRs⟩) hP hD hS hA [0, 2] [1, 3] rfl rfl (by decide) (by decide) (fun ry8_14 uy8_12 H locs hwy8_13 hP hD hS => ?_)
            obtain ⟨oy8_15, ry8_16⟩ := uy8_12
            obtain ⟨ery8_18, hpy8_17⟩ := hwy8_13
            have ery8_18 : ry8_14 = ry8_16 := ery8_18
            subst ery8_18
            obtain ⟨hP, hD⟩ := z_re (L := [(a_sign, .inl (kA 0, 2400, .inl signF)), (a_word, .inl (kA 2, 11, .inr (.inl wordF))), (n0, .inr (11, .ref a_tape :: .int m_taped :: .int m_laws :: .ref a_sign :: .ref a_length :: .ref a_clause :: .ref a_clauses :: .ref a_chain :: .int m_next :: .int m_wrong :: .int m_number :: .int m_text :: .int m_made :: .int m_deep :: .int m_lines :: .ref a_open :: .int m_opened :: .ref a_stack :: .int oy8_15 :: .ref a_word :: .ref a_said :: .ref a_kept :: [.int m_goNode, .int m_goDrops, .int m_goHour, .int m_goFelt, .int m_goSalt, .int m_goMore, .ref a_stepNode, .ref a_stepDrops, .ref a_stepHour, .ref a_stepNext, .ref a_stepPass, .int m_bestLeft, .int m_bestHour, .int m_bestMany, .ref a_bestPass, .ref a_far, .ref a_waited, .ref a_servers, .ref a_images, .ref a_isMade])), (a_stack, .inl (kA 2, 64, .inr (.inl g8_1)))]) hP hD
            refine lv_lstore (lv' := [(7, .long ry8_14), (6, .int xy8_7), (5, .int xy8_5), (4, .int l8_2), (0, .ref n0), (1, .int p0), (2, .int p1), (3, .int p2)]) hx hb dX11_reckons_108 hl (by decide) rfl (fun ls hl => ?_)
            refine lv_aload_n hx hb dX11_reckons_110 rfl (lv_at hl 4 rfl) ?_
            refine z_l (wr := [(a_sign, .inl (kA 0, 2400, .inl signF)), (a_word, .inl (kA 2, 11, .inr (.inl wordF)))]) (va_runV (As := []) (rest := []) ⟨hx, hb, hml, hown, hts⟩ (mX11_pop l dC dI kA _ n0 m_taped m_laws m_next m_wrong m_number m_text m_made m_deep m_lines m_opened oy8_15 m_goNode m_goDrops m_goHour m_goFelt m_goSalt m_goMore m_bestLeft m_bestHour m_bestMany a_tape a_sign a_length a_clause a_clauses a_chain a_open a_stack a_word a_said a_kept a_stepNode a_stepDrops a_stepHour a_stepNext a_stepPass a_bestPass a_far a_waited a_servers a_images a_isMade g8_1 (gl_mX11_reckons_2 v8_0 oy8_15 hny8_11a hny8_11b hpy8_17) (gl_mX11_reckons_3 v8_0 oy8_15 hny8_11a hny8_11b hpy8_17)) (cwV 0 hts gX11_reckons_X11_pop rfl rfl rfl ⟨rfl, hdX11_pop⟩ ⟨(Nat.le_trans (Nat.le_of_ble_eq_true rfl) hRf), (Nat.le_trans (Nat.le_of_ble_eq_true rfl) hRl)⟩) ⟨zPc.blind, va_recv hK.1 hP (ci := 11) (q0 := 2) rfl rfl, zPre hK (hP.sub [2, 3] rfl) (hD.sub [2, 3] (by decide) rfl)⟩ rfl rfl hl.1 rfl (lv_room (Nat.le_of_ble_eq_true rfl)) dX11_reckons_111 ⟨hRc, hRs⟩) hP hD hS hA [2, 3] [0, 1] rfl rfl (by decide) (by decide) (fun ry8_21 uy8_19 H locs hwy8_20 hP hD hS => ?_)
            obtain ⟨oy8_22, ry8_23⟩ := uy8_19
            obtain ⟨ery8_25, hpy8_24⟩ := hwy8_20
            have ery8_25 : ry8_21 = ry8_23 := ery8_25
            subst ery8_25
            obtain ⟨hP, hD⟩ := z_re (L := [(a_sign, .inl (kA 0, 2400, .inl signF)), (a_word, .inl (kA 2, 11, .inr (.inl wordF))), (n0, .inr (11, .ref a_tape :: .int m_taped :: .int m_laws :: .ref a_sign :: .ref a_length :: .ref a_clause :: .ref a_clauses :: .ref a_chain :: .int m_next :: .int m_wrong :: .int m_number :: .int m_text :: .int m_made :: .int m_deep :: .int m_lines :: .ref a_open :: .int m_opened :: .ref a_stack :: .int oy8_22 :: .ref a_word :: .ref a_said :: .ref a_kept :: [.int m_goNode, .int m_goDrops, .int m_goHour, .int m_goFelt, .int m_goSalt, .int m_goMore, .ref a_stepNode, .ref a_stepDrops, .ref a_stepHour, .ref a_stepNext, .ref a_stepPass, .int m_bestLeft, .int m_bestHour, .int m_bestMany, .ref a_bestPass, .ref a_far, .ref a_waited, .ref a_servers, .ref a_images, .ref a_isMade])), (a_stack, .inl (kA 2, 64, .inr (.inl g8_1)))]) hP hD
            refine lv_lstore (lv' := [(9, .long ry8_21), (7, .long ry8_14), (6, .int xy8_7), (5, .int xy8_5), (4, .int l8_2), (0, .ref n0), (1, .int p0), (2, .int p1), (3, .int p2)]) hx hb dX11_reckons_114 hl (by decide) rfl (fun ls hl => ?_)
            refine lv_aload_n hx hb dX11_reckons_116 rfl (lv_at hl 5 rfl) ?_
            refine lv_iload hx hb dX11_reckons_117 (lv_at hl 3 rfl) ?_
            refine lv_lload hx hb dX11_reckons_119 (lv_at hl 0 rfl) ?_
            refine lv_lload hx hb dX11_reckons_121 (lv_at hl 1 rfl) ?_
            refine z_l (wr := [(a_sign, .inl (kA 0, 2400, .inl signF)), (a_word, .inl (kA 2, 11, .inr (.inl wordF))), (n0, .inr (11, .ref a_tape :: .int m_taped :: .int m_laws :: .ref a_sign :: .ref a_length :: .ref a_clause :: .ref a_clauses :: .ref a_chain :: .int m_next :: .int m_wrong :: .int m_number :: .int m_text :: .int m_made :: .int m_deep :: .int m_lines :: .ref a_open :: .int m_opened :: .ref a_stack :: .int oy8_22 :: .ref a_word :: .ref a_said :: .ref a_kept :: [.int m_goNode, .int m_goDrops, .int m_goHour, .int m_goFelt, .int m_goSalt, .int m_goMore, .ref a_stepNode, .ref a_stepDrops, .ref a_stepHour, .ref a_stepNext, .ref a_stepPass, .int m_bestLeft, .int m_bestHour, .int m_bestMany, .ref a_bestPass, .ref a_far, .ref a_waited, .ref a_servers, .ref a_images, .ref a_isMade])), (a_stack, .inl (kA 2, 64, .inr (.inl g8_1)))]) (va_runS (As := [.int xy8_5, .long ry8_21, .long ry8_14]) (rest := [.ref n0]) ⟨hx, hb, hml, hown, hts⟩ (mX11_one l dC dI kA _ xy8_5 ry8_21 ry8_14) (va_cwS 3 hts gX11_reckons_X11_one rfl rfl rfl hdX11_one ⟨(Nat.le_trans (Nat.le_of_ble_eq_true rfl) hRf), (Nat.le_trans (Nat.le_of_ble_eq_true rfl) hRl)⟩) ⟨zPc.blind, zPre hK (hP.sub [] rfl) (hD.sub [] (by decide) rfl)⟩ rfl rfl hl.1 rfl (lv_room (Nat.le_of_ble_eq_true rfl)) dX11_reckons_123 ⟨hRc, hRs⟩) hP hD hS hA [] [0, 1, 2, 3] rfl rfl (by decide) (by decide) (fun ry8_28 uy8_26 H locs hwy8_27 hP hD hS => ?_)
            have ery8_30 := hwy8_27
            have ery8_30 : ry8_28 = uy8_26 := ery8_30
            subst ery8_30
            obtain ⟨hP, hD⟩ := z_re (L := [(a_sign, .inl (kA 0, 2400, .inl signF)), (a_word, .inl (kA 2, 11, .inr (.inl wordF))), (n0, .inr (11, .ref a_tape :: .int m_taped :: .int m_laws :: .ref a_sign :: .ref a_length :: .ref a_clause :: .ref a_clauses :: .ref a_chain :: .int m_next :: .int m_wrong :: .int m_number :: .int m_text :: .int m_made :: .int m_deep :: .int m_lines :: .ref a_open :: .int m_opened :: .ref a_stack :: .int oy8_22 :: .ref a_word :: .ref a_said :: .ref a_kept :: [.int m_goNode, .int m_goDrops, .int m_goHour, .int m_goFelt, .int m_goSalt, .int m_goMore, .ref a_stepNode, .ref a_stepDrops, .ref a_stepHour, .ref a_stepNext, .ref a_stepPass, .int m_bestLeft, .int m_bestHour, .int m_bestMany, .ref a_bestPass, .ref a_far, .ref a_waited, .ref a_servers, .ref a_images, .ref a_isMade])), (a_stack, .inl (kA 2, 64, .inr (.inl g8_1)))]) hP hD
            refine z_v (wr := [(a_sign, .inl (kA 0, 2400, .inl signF)), (a_word, .inl (kA 2, 11, .inr (.inl wordF)))]) (va_runV (As := [.long ry8_28]) (rest := []) ⟨hx, hb, hml, hown, hts⟩ (mX11_push l dC dI kA _ n0 m_taped m_laws m_next m_wrong m_number m_text m_made m_deep m_lines m_opened oy8_22 m_goNode m_goDrops m_goHour m_goFelt m_goSalt m_goMore m_bestLeft m_bestHour m_bestMany a_tape a_sign a_length a_clause a_clauses a_chain a_open a_stack a_word a_said a_kept a_stepNode a_stepDrops a_stepHour a_stepNext a_stepPass a_bestPass a_far a_waited a_servers a_images a_isMade g8_1 ry8_28 (gl_mX11_reckons_4 v8_0 oy8_15 oy8_22 hny8_11a hny8_11b hpy8_17 hpy8_24) (gl_mX11_reckons_5 v8_0 oy8_15 oy8_22 hny8_11a hny8_11b hpy8_17 hpy8_24)) (cwV 1 hts gX11_reckons_X11_push rfl rfl rfl ⟨rfl, hdX11_push⟩ ⟨(Nat.le_trans (Nat.le_of_ble_eq_true rfl) hRf), (Nat.le_trans (Nat.le_of_ble_eq_true rfl) hRl)⟩) ⟨zPc.blind, va_recv hK.1 hP (ci := 11) (q0 := 2) rfl rfl, zPre hK (hP.sub [2, 3] rfl) (hD.sub [2, 3] (by decide) rfl)⟩ rfl rfl hl.1 rfl (lv_room (Nat.le_of_ble_eq_true rfl)) dX11_reckons_126 ⟨hRc, hRs⟩) hP hD hS hA [2, 3] [0, 1] rfl rfl (by decide) (by decide) (fun uy8_31 H locs hwy8_32 hP hD hS => ?_)
            obtain ⟨oy8_34, oy8_35⟩ := uy8_31
            have hpy8_36 := hwy8_32
            obtain ⟨hP, hD⟩ := z_re (L := [(a_sign, .inl (kA 0, 2400, .inl signF)), (a_word, .inl (kA 2, 11, .inr (.inl wordF))), (n0, .inr (11, .ref a_tape :: .int m_taped :: .int m_laws :: .ref a_sign :: .ref a_length :: .ref a_clause :: .ref a_clauses :: .ref a_chain :: .int m_next :: .int m_wrong :: .int m_number :: .int m_text :: .int m_made :: .int m_deep :: .int m_lines :: .ref a_open :: .int m_opened :: .ref a_stack :: .int oy8_34 :: .ref a_word :: .ref a_said :: .ref a_kept :: [.int m_goNode, .int m_goDrops, .int m_goHour, .int m_goFelt, .int m_goSalt, .int m_goMore, .ref a_stepNode, .ref a_stepDrops, .ref a_stepHour, .ref a_stepNext, .ref a_stepPass, .int m_bestLeft, .int m_bestHour, .int m_bestMany, .ref a_bestPass, .ref a_far, .ref a_waited, .ref a_servers, .ref a_images, .ref a_isMade])), (a_stack, .inl (kA 2, 64, .inr (.inl oy8_35)))]) hP hD
            obtain ⟨xy8_37, exy8_37⟩ : ∃ y : Int32, y = l8_2 + 1 := ⟨_, rfl⟩
            refine lv_iinc (v := xy8_37) (lv' := [(4, .int xy8_37), (9, .long ry8_21), (7, .long ry8_14), (6, .int xy8_7), (5, .int xy8_5), (0, .ref n0), (1, .int p0), (2, .int p1), (3, .int p2)]) hx hb dX11_reckons_129 hl (k := 4) rfl (by rw [exy8_37]; rfl) (by decide) rfl (fun ls hl => ?_)
            refine lv_goto (tgt := 8) hx hb dX11_reckons_132 (by decide) ?_
            exact ih oy8_34 oy8_35 xy8_37 H locs ls (z_up hn exy8_37 c_y8_3) (z_nn exy8_37 c_y8_3 hi8) (hny8_11.2 _ _ _ _ exy8_37 hpy8_17 hpy8_24 hpy8_36) (hP.sub [2, 0, 3, 1] rfl) (hD.sub [2, 0, 3, 1] (by decide) rfl) hS (lv_sub hl [0, 5, 6, 7, 8] rfl)
          · have hny8_38 := R_not hri c_y8_3 exy8_4 exy8_5 c_y8_10
            have hny8_38a : ¬ v8_0 < 1 := hny8_38.1.1
            have hny8_38b : ¬ 60 < v8_0 := hny8_38.1.2
            refine lv_aload_n hx hb dX11_reckons_91 rfl (lv_at hl 3 rfl) ?_
            refine lv_lconst (v := 1) hx hb dX11_reckons_92 (by decide) ?_
            refine lv_aload_n hx hb dX11_reckons_93 rfl (lv_at hl 3 rfl) ?_
            refine z_l (wr := [(a_sign, .inl (kA 0, 2400, .inl signF)), (a_word, .inl (kA 2, 11, .inr (.inl wordF)))]) (va_runV (As := []) (rest := [.long 1, .ref n0]) ⟨hx, hb, hml, hown, hts⟩ (mX11_pop l dC dI kA _ n0 m_taped m_laws m_next m_wrong m_number m_text m_made m_deep m_lines m_opened v8_0 m_goNode m_goDrops m_goHour m_goFelt m_goSalt m_goMore m_bestLeft m_bestHour m_bestMany a_tape a_sign a_length a_clause a_clauses a_chain a_open a_stack a_word a_said a_kept a_stepNode a_stepDrops a_stepHour a_stepNext a_stepPass a_bestPass a_far a_waited a_servers a_images a_isMade g8_1 hny8_38a hny8_38b) (cwV 0 hts gX11_reckons_X11_pop rfl rfl rfl ⟨rfl, hdX11_pop⟩ ⟨(Nat.le_trans (Nat.le_of_ble_eq_true rfl) hRf), (Nat.le_trans (Nat.le_of_ble_eq_true rfl) hRl)⟩) ⟨zPc.blind, va_recv hK.1 hP (ci := 11) (q0 := 0) rfl rfl, zPre hK (hP.sub [0, 2] rfl) (hD.sub [0, 2] (by decide) rfl)⟩ rfl rfl hl.1 rfl (lv_room (Nat.le_of_ble_eq_true rfl)) dX11_reckons_94 ⟨hRc, hRs⟩) hP hD hS hA [0, 2] [1, 3] rfl rfl (by decide) (by decide) (fun ry8_41 uy8_39 H locs hwy8_40 hP hD hS => ?_)
            obtain ⟨oy8_42, ry8_43⟩ := uy8_39
            obtain ⟨ery8_45, hpy8_44⟩ := hwy8_40
            have ery8_45 : ry8_41 = ry8_43 := ery8_45
            subst ery8_45
            obtain ⟨hP, hD⟩ := z_re (L := [(a_sign, .inl (kA 0, 2400, .inl signF)), (a_word, .inl (kA 2, 11, .inr (.inl wordF))), (n0, .inr (11, .ref a_tape :: .int m_taped :: .int m_laws :: .ref a_sign :: .ref a_length :: .ref a_clause :: .ref a_clauses :: .ref a_chain :: .int m_next :: .int m_wrong :: .int m_number :: .int m_text :: .int m_made :: .int m_deep :: .int m_lines :: .ref a_open :: .int m_opened :: .ref a_stack :: .int oy8_42 :: .ref a_word :: .ref a_said :: .ref a_kept :: [.int m_goNode, .int m_goDrops, .int m_goHour, .int m_goFelt, .int m_goSalt, .int m_goMore, .ref a_stepNode, .ref a_stepDrops, .ref a_stepHour, .ref a_stepNext, .ref a_stepPass, .int m_bestLeft, .int m_bestHour, .int m_bestMany, .ref a_bestPass, .ref a_far, .ref a_waited, .ref a_servers, .ref a_images, .ref a_isMade])), (a_stack, .inl (kA 2, 64, .inr (.inl g8_1)))]) hP hD
            refine lv_lsub hx hb dX11_reckons_97 ?_
            refine lv_topl (fun xy8_46 exy8_46 => ?_)
            refine z_v (wr := [(a_sign, .inl (kA 0, 2400, .inl signF)), (a_word, .inl (kA 2, 11, .inr (.inl wordF)))]) (va_runV (As := [.long xy8_46]) (rest := []) ⟨hx, hb, hml, hown, hts⟩ (mX11_push l dC dI kA _ n0 m_taped m_laws m_next m_wrong m_number m_text m_made m_deep m_lines m_opened oy8_42 m_goNode m_goDrops m_goHour m_goFelt m_goSalt m_goMore m_bestLeft m_bestHour m_bestMany a_tape a_sign a_length a_clause a_clauses a_chain a_open a_stack a_word a_said a_kept a_stepNode a_stepDrops a_stepHour a_stepNext a_stepPass a_bestPass a_far a_waited a_servers a_images a_isMade g8_1 xy8_46 (gl_mX11_reckons_6 v8_0 oy8_42 hny8_38a hny8_38b hpy8_44) (gl_mX11_reckons_7 v8_0 oy8_42 hny8_38a hny8_38b hpy8_44)) (cwV 1 hts gX11_reckons_X11_push rfl rfl rfl ⟨rfl, hdX11_push⟩ ⟨(Nat.le_trans (Nat.le_of_ble_eq_true rfl) hRf), (Nat.le_trans (Nat.le_of_ble_eq_true rfl) hRl)⟩) ⟨zPc.blind, va_recv hK.1 hP (ci := 11) (q0 := 2) rfl rfl, zPre hK (hP.sub [2, 3] rfl) (hD.sub [2, 3] (by decide) rfl)⟩ rfl rfl hl.1 rfl (lv_room (Nat.le_of_ble_eq_true rfl)) dX11_reckons_98 ⟨hRc, hRs⟩) hP hD hS hA [2, 3] [0, 1] rfl rfl (by decide) (by decide) (fun uy8_47 H locs hwy8_48 hP hD hS => ?_)
            obtain ⟨oy8_50, oy8_51⟩ := uy8_47
            have hpy8_52 := hwy8_48
            obtain ⟨hP, hD⟩ := z_re (L := [(a_sign, .inl (kA 0, 2400, .inl signF)), (a_word, .inl (kA 2, 11, .inr (.inl wordF))), (n0, .inr (11, .ref a_tape :: .int m_taped :: .int m_laws :: .ref a_sign :: .ref a_length :: .ref a_clause :: .ref a_clauses :: .ref a_chain :: .int m_next :: .int m_wrong :: .int m_number :: .int m_text :: .int m_made :: .int m_deep :: .int m_lines :: .ref a_open :: .int m_opened :: .ref a_stack :: .int oy8_50 :: .ref a_word :: .ref a_said :: .ref a_kept :: [.int m_goNode, .int m_goDrops, .int m_goHour, .int m_goFelt, .int m_goSalt, .int m_goMore, .ref a_stepNode, .ref a_stepDrops, .ref a_stepHour, .ref a_stepNext, .ref a_stepPass, .int m_bestLeft, .int m_bestHour, .int m_bestMany, .ref a_bestPass, .ref a_far, .ref a_waited, .ref a_servers, .ref a_images, .ref a_isMade])), (a_stack, .inl (kA 2, 64, .inr (.inl oy8_51)))]) hP hD
            refine lv_goto (tgt := 129) hx hb dX11_reckons_101 (by decide) ?_
            obtain ⟨xy8_53, exy8_53⟩ : ∃ y : Int32, y = l8_2 + 1 := ⟨_, rfl⟩
            refine lv_iinc (v := xy8_53) (lv' := [(4, .int xy8_53), (6, .int xy8_7), (5, .int xy8_5), (0, .ref n0), (1, .int p0), (2, .int p1), (3, .int p2)]) hx hb dX11_reckons_129 hl (k := 2) rfl (by rw [exy8_53]; rfl) (by decide) rfl (fun ls hl => ?_)
            refine lv_goto (tgt := 8) hx hb dX11_reckons_132 (by decide) ?_
            exact ih oy8_50 oy8_51 xy8_53 H locs ls (z_up hn exy8_53 c_y8_3) (z_nn exy8_53 c_y8_3 hi8) (hny8_38.2 _ _ _ exy8_53 hpy8_44 hpy8_52) (hP.sub [2, 0, 3, 1] rfl) (hD.sub [2, 0, 3, 1] (by decide) rfl) hS (lv_sub hl [0, 3, 4, 5, 6] rfl)
        · have hny8_54 := R_word hri c_y8_3 exy8_4 exy8_6 exy8_7 exy8_5 c_y8_8 c_y8_9
          have hny8_54a : ¬ v8_0 < 0 := hny8_54.1.1
          have hny8_54b : ¬ 60 < v8_0 := hny8_54.1.2
          have hny8_54c : ¬ xy8_7 < 0 := hny8_54.2.1.1
          have hny8_54d : ¬ 11 ≤ xy8_7 := hny8_54.2.1.2
          refine lv_aload_n hx hb dX11_reckons_70 rfl (lv_at hl 3 rfl) ?_
          refine lv_aload_n hx hb dX11_reckons_71 rfl (lv_at hl 3 rfl) ?_
          refine va_get (D := (dC, dI)) (ci := 11) (v := .ref a_word) (C := RX11) (T := TX11) (N := 42) hx hb hts iX11_reckons_X11 hown hK.1 hP 0 rfl rfl 19 (by decide) (kX11_reckons_3 hts) (fun _ h9 => h9) rfl dX11_reckons_72 ?_
          refine lv_iload hx hb dX11_reckons_75 (lv_at hl 0 rfl) ?_
          refine va_lald hx hb hK.1 hP 3 2 rfl rfl (vp_lt (by decide) hny8_54c hny8_54d) dX11_reckons_77 ?_
          refine lv_topl (fun xy8_55 exy8_55 => ?_)
          refine z_v (wr := [(a_sign, .inl (kA 0, 2400, .inl signF)), (a_word, .inl (kA 2, 11, .inr (.inl wordF)))]) (va_runV (As := [.long xy8_55]) (rest := []) ⟨hx, hb, hml, hown, hts⟩ (mX11_push l dC dI kA _ n0 m_taped m_laws m_next m_wrong m_number m_text m_made m_deep m_lines m_opened v8_0 m_goNode m_goDrops m_goHour m_goFelt m_goSalt m_goMore m_bestLeft m_bestHour m_bestMany a_tape a_sign a_length a_clause a_clauses a_chain a_open a_stack a_word a_said a_kept a_stepNode a_stepDrops a_stepHour a_stepNext a_stepPass a_bestPass a_far a_waited a_servers a_images a_isMade g8_1 xy8_55 hny8_54a hny8_54b) (cwV 1 hts gX11_reckons_X11_push rfl rfl rfl ⟨rfl, hdX11_push⟩ ⟨(Nat.le_trans (Nat.le_of_ble_eq_true rfl) hRf), (Nat.le_trans (Nat.le_of_ble_eq_true rfl) hRl)⟩) ⟨zPc.blind, va_recv hK.1 hP (ci := 11) (q0 := 0) rfl rfl, zPre hK (hP.sub [0, 2] rfl) (hD.sub [0, 2] (by decide) rfl)⟩ rfl rfl hl.1 rfl (lv_room (Nat.le_of_ble_eq_true rfl)) dX11_reckons_78 ⟨hRc, hRs⟩) hP hD hS hA [0, 2] [1, 3] rfl rfl (by decide) (by decide) (fun uy8_56 H locs hwy8_57 hP hD hS => ?_)
          obtain ⟨oy8_59, oy8_60⟩ := uy8_56
          have hpy8_61 := hwy8_57
          obtain ⟨hP, hD⟩ := z_re (L := [(a_sign, .inl (kA 0, 2400, .inl signF)), (a_word, .inl (kA 2, 11, .inr (.inl wordF))), (n0, .inr (11, .ref a_tape :: .int m_taped :: .int m_laws :: .ref a_sign :: .ref a_length :: .ref a_clause :: .ref a_clauses :: .ref a_chain :: .int m_next :: .int m_wrong :: .int m_number :: .int m_text :: .int m_made :: .int m_deep :: .int m_lines :: .ref a_open :: .int m_opened :: .ref a_stack :: .int oy8_59 :: .ref a_word :: .ref a_said :: .ref a_kept :: [.int m_goNode, .int m_goDrops, .int m_goHour, .int m_goFelt, .int m_goSalt, .int m_goMore, .ref a_stepNode, .ref a_stepDrops, .ref a_stepHour, .ref a_stepNext, .ref a_stepPass, .int m_bestLeft, .int m_bestHour, .int m_bestMany, .ref a_bestPass, .ref a_far, .ref a_waited, .ref a_servers, .ref a_images, .ref a_isMade])), (a_stack, .inl (kA 2, 64, .inr (.inl oy8_60)))]) hP hD
          refine lv_goto (tgt := 129) hx hb dX11_reckons_81 (by decide) ?_
          obtain ⟨xy8_62, exy8_62⟩ : ∃ y : Int32, y = l8_2 + 1 := ⟨_, rfl⟩
          refine lv_iinc (v := xy8_62) (lv' := [(4, .int xy8_62), (6, .int xy8_7), (5, .int xy8_5), (0, .ref n0), (1, .int p0), (2, .int p1), (3, .int p2)]) hx hb dX11_reckons_129 hl (k := 2) rfl (by rw [exy8_62]; rfl) (by decide) rfl (fun ls hl => ?_)
          refine lv_goto (tgt := 8) hx hb dX11_reckons_132 (by decide) ?_
          exact ih oy8_59 oy8_60 xy8_62 H locs ls (z_up hn exy8_62 c_y8_3) (z_nn exy8_62 c_y8_3 hi8) (hny8_54.2.2 _ _ exy8_62 hpy8_61) (hP.sub [2, 0, 3, 1] rfl) (hD.sub [2, 0, 3, 1] (by decide) rfl) hS (lv_sub hl [0, 3, 4, 5, 6] rfl)
      · have hny8_63 := R_num hri c_y8_3 exy8_4 exy8_5 c_y8_8
        have hny8_63a : ¬ v8_0 < 0 := hny8_63.1.1
        have hny8_63b : ¬ 60 < v8_0 := hny8_63.1.2
        refine lv_aload_n hx hb dX11_reckons_54 rfl (lv_at hl 3 rfl) ?_
        refine lv_iload hx hb dX11_reckons_55 (lv_at hl 0 rfl) ?_
        refine lv_i2l hx hb dX11_reckons_57 rfl ?_
        refine z_v (wr := [(a_sign, .inl (kA 0, 2400, .inl signF)), (a_word, .inl (kA 2, 11, .inr (.inl wordF)))]) (va_runV (As := [.long xy8_7.toInt64]) (rest := []) ⟨hx, hb, hml, hown, hts⟩ (mX11_push l dC dI kA _ n0 m_taped m_laws m_next m_wrong m_number m_text m_made m_deep m_lines m_opened v8_0 m_goNode m_goDrops m_goHour m_goFelt m_goSalt m_goMore m_bestLeft m_bestHour m_bestMany a_tape a_sign a_length a_clause a_clauses a_chain a_open a_stack a_word a_said a_kept a_stepNode a_stepDrops a_stepHour a_stepNext a_stepPass a_bestPass a_far a_waited a_servers a_images a_isMade g8_1 xy8_7.toInt64 hny8_63a hny8_63b) (cwV 1 hts gX11_reckons_X11_push rfl rfl rfl ⟨rfl, hdX11_push⟩ ⟨(Nat.le_trans (Nat.le_of_ble_eq_true rfl) hRf), (Nat.le_trans (Nat.le_of_ble_eq_true rfl) hRl)⟩) ⟨zPc.blind, va_recv hK.1 hP (ci := 11) (q0 := 0) rfl rfl, zPre hK (hP.sub [0, 2] rfl) (hD.sub [0, 2] (by decide) rfl)⟩ rfl rfl hl.1 rfl (lv_room (Nat.le_of_ble_eq_true rfl)) dX11_reckons_58 ⟨hRc, hRs⟩) hP hD hS hA [0, 2] [1, 3] rfl rfl (by decide) (by decide) (fun uy8_64 H locs hwy8_65 hP hD hS => ?_)
        obtain ⟨oy8_67, oy8_68⟩ := uy8_64
        have hpy8_69 := hwy8_65
        obtain ⟨hP, hD⟩ := z_re (L := [(a_sign, .inl (kA 0, 2400, .inl signF)), (a_word, .inl (kA 2, 11, .inr (.inl wordF))), (n0, .inr (11, .ref a_tape :: .int m_taped :: .int m_laws :: .ref a_sign :: .ref a_length :: .ref a_clause :: .ref a_clauses :: .ref a_chain :: .int m_next :: .int m_wrong :: .int m_number :: .int m_text :: .int m_made :: .int m_deep :: .int m_lines :: .ref a_open :: .int m_opened :: .ref a_stack :: .int oy8_67 :: .ref a_word :: .ref a_said :: .ref a_kept :: [.int m_goNode, .int m_goDrops, .int m_goHour, .int m_goFelt, .int m_goSalt, .int m_goMore, .ref a_stepNode, .ref a_stepDrops, .ref a_stepHour, .ref a_stepNext, .ref a_stepPass, .int m_bestLeft, .int m_bestHour, .int m_bestMany, .ref a_bestPass, .ref a_far, .ref a_waited, .ref a_servers, .ref a_images, .ref a_isMade])), (a_stack, .inl (kA 2, 64, .inr (.inl oy8_68)))]) hP hD
        refine lv_goto (tgt := 129) hx hb dX11_reckons_61 (by decide) ?_
        obtain ⟨xy8_70, exy8_70⟩ : ∃ y : Int32, y = l8_2 + 1 := ⟨_, rfl⟩
        refine lv_iinc (v := xy8_70) (lv' := [(4, .int xy8_70), (6, .int xy8_7), (5, .int xy8_5), (0, .ref n0), (1, .int p0), (2, .int p1), (3, .int p2)]) hx hb dX11_reckons_129 hl (k := 2) rfl (by rw [exy8_70]; rfl) (by decide) rfl (fun ls hl => ?_)
        refine lv_goto (tgt := 8) hx hb dX11_reckons_132 (by decide) ?_
        exact ih oy8_67 oy8_68 xy8_70 H locs ls (z_up hn exy8_70 c_y8_3) (z_nn exy8_70 c_y8_3 hi8) (hny8_63.2 _ _ exy8_70 hpy8_69) (hP.sub [2, 0, 3, 1] rfl) (hD.sub [2, 0, 3, 1] (by decide) rfl) hS (lv_sub hl [0, 3, 4, 5, 6] rfl)
set_option maxHeartbeats 4000000 in
set_option maxRecDepth 100000 in
theorem mX11_reckons (l : Launch) (dC : Nat → ClassId) (dI : Nat → Nat → Nat) (kA : Nat → ClassId) (sz : Nat) (n0 : Nat) (m_taped : Int32) (m_laws : Int32) (m_next : Int32) (m_wrong : Int32) (m_number : Int32) (m_text : Int32) (m_made : Int32) (m_deep : Int32) (m_lines : Int32) (m_opened : Int32) (m_top : Int32) (m_goNode : Int32) (m_goDrops : Int32) (m_goHour : Int32) (m_goFelt : Int32) (m_goSalt : Int32) (m_goMore : Int32) (m_bestLeft : Int32) (m_bestHour : Int32) (m_bestMany : Int32) (a_tape : Nat) (a_sign : Nat) (a_length : Nat) (a_clause : Nat) (a_clauses : Nat) (a_chain : Nat) (a_open : Nat) (a_stack : Nat) (a_word : Nat) (a_said : Nat) (a_kept : Nat) (a_stepNode : Nat) (a_stepDrops : Nat) (a_stepHour : Nat) (a_stepNext : Nat) (a_stepPass : Nat) (a_bestPass : Nat) (a_far : Nat) (a_waited : Nat) (a_servers : Nat) (a_images : Nat) (a_isMade : Nat) (signF : Nat → Int32) (stackF : Nat → Int64) (wordF : Nat → Int64) (p0 : Int32) (p1 : Int32) (p2 : Int32) (hco : CodeOK signF p0 p1 p2) : Met l yX11_reckons wsX11_reckons ({ frames := 1, cells := 0, slots := 0, locals := 24 }) (zPc dC dI kA sz [.ref n0, .int p0, .int p1, .int p2] [(n0, .inr (11, .ref a_tape :: .int m_taped :: .int m_laws :: .ref a_sign :: .ref a_length :: .ref a_clause :: .ref a_clauses :: .ref a_chain :: .int m_next :: .int m_wrong :: .int m_number :: .int m_text :: .int m_made :: .int m_deep :: .int m_lines :: .ref a_open :: .int m_opened :: .ref a_stack :: .int m_top :: .ref a_word :: .ref a_said :: .ref a_kept :: [.int m_goNode, .int m_goDrops, .int m_goHour, .int m_goFelt, .int m_goSalt, .int m_goMore, .ref a_stepNode, .ref a_stepDrops, .ref a_stepHour, .ref a_stepNext, .ref a_stepPass, .int m_bestLeft, .int m_bestHour, .int m_bestMany, .ref a_bestPass, .ref a_far, .ref a_waited, .ref a_servers, .ref a_images, .ref a_isMade])), (a_sign, .inl (kA 0, 2400, .inl signF)), (a_stack, .inl (kA 2, 64, .inr (.inl stackF))), (a_word, .inl (kA 2, 11, .inr (.inl wordF)))]) (va_Ql (fun (r : Int64) (u : Int32 × (Nat → Int64) × Int64) => r = u.2.2) (zB dC dI (va_A [(n0, .inr (11, .ref a_tape :: .int m_taped :: .int m_laws :: .ref a_sign :: .ref a_length :: .ref a_clause :: .ref a_clauses :: .ref a_chain :: .int m_next :: .int m_wrong :: .int m_number :: .int m_text :: .int m_made :: .int m_deep :: .int m_lines :: .ref a_open :: .int m_opened :: .ref a_stack :: .int m_top :: .ref a_word :: .ref a_said :: .ref a_kept :: [.int m_goNode, .int m_goDrops, .int m_goHour, .int m_goFelt, .int m_goSalt, .int m_goMore, .ref a_stepNode, .ref a_stepDrops, .ref a_stepHour, .ref a_stepNext, .ref a_stepPass, .int m_bestLeft, .int m_bestHour, .int m_bestMany, .ref a_bestPass, .ref a_far, .ref a_waited, .ref a_servers, .ref a_images, .ref a_isMade])), (a_sign, .inl (kA 0, 2400, .inl signF)), (a_stack, .inl (kA 2, 64, .inr (.inl stackF))), (a_word, .inl (kA 2, 11, .inr (.inl wordF)))] sz) (fun (u : Int32 × (Nat → Int64) × Int64) => [(n0, .inr (11, .ref a_tape :: .int m_taped :: .int m_laws :: .ref a_sign :: .ref a_length :: .ref a_clause :: .ref a_clauses :: .ref a_chain :: .int m_next :: .int m_wrong :: .int m_number :: .int m_text :: .int m_made :: .int m_deep :: .int m_lines :: .ref a_open :: .int m_opened :: .ref a_stack :: .int u.1 :: .ref a_word :: .ref a_said :: .ref a_kept :: [.int m_goNode, .int m_goDrops, .int m_goHour, .int m_goFelt, .int m_goSalt, .int m_goMore, .ref a_stepNode, .ref a_stepDrops, .ref a_stepHour, .ref a_stepNext, .ref a_stepPass, .int m_bestLeft, .int m_bestHour, .int m_bestMany, .ref a_bestPass, .ref a_far, .ref a_waited, .ref a_servers, .ref a_images, .ref a_isMade])), (a_sign, .inl (kA 0, 2400, .inl signF)), (a_stack, .inl (kA 2, 64, .inr (.inl u.2.1))), (a_word, .inl (kA 2, 11, .inr (.inl wordF)))])) (va_A [(n0, .inr (11, .ref a_tape :: .int m_taped :: .int m_laws :: .ref a_sign :: .ref a_length :: .ref a_clause :: .ref a_clauses :: .ref a_chain :: .int m_next :: .int m_wrong :: .int m_number :: .int m_text :: .int m_made :: .int m_deep :: .int m_lines :: .ref a_open :: .int m_opened :: .ref a_stack :: .int m_top :: .ref a_word :: .ref a_said :: .ref a_kept :: [.int m_goNode, .int m_goDrops, .int m_goHour, .int m_goFelt, .int m_goSalt, .int m_goMore, .ref a_stepNode, .ref a_stepDrops, .ref a_stepHour, .ref a_stepNext, .ref a_stepPass, .int m_bestLeft, .int m_bestHour, .int m_bestMany, .ref a_bestPass, .ref a_far, .ref a_waited, .ref a_servers, .ref a_images, .ref a_isMade])), (a_sign, .inl (kA 0, 2400, .inl signF)), (a_stack, .inl (kA 2, 64, .inr (.inl stackF))), (a_word, .inl (kA 2, 11, .inr (.inl wordF)))] sz)) 0 0 (va_A [(n0, .inr (11, .ref a_tape :: .int m_taped :: .int m_laws :: .ref a_sign :: .ref a_length :: .ref a_clause :: .ref a_clauses :: .ref a_chain :: .int m_next :: .int m_wrong :: .int m_number :: .int m_text :: .int m_made :: .int m_deep :: .int m_lines :: .ref a_open :: .int m_opened :: .ref a_stack :: .int m_top :: .ref a_word :: .ref a_said :: .ref a_kept :: [.int m_goNode, .int m_goDrops, .int m_goHour, .int m_goFelt, .int m_goSalt, .int m_goMore, .ref a_stepNode, .ref a_stepDrops, .ref a_stepHour, .ref a_stepNext, .ref a_stepPass, .int m_bestLeft, .int m_bestHour, .int m_bestMany, .ref a_bestPass, .ref a_far, .ref a_waited, .ref a_servers, .ref a_images, .ref a_isMade])), (a_sign, .inl (kA 0, 2400, .inl signF)), (a_stack, .inl (kA 2, 64, .inr (.inl stackF))), (a_word, .inl (kA 2, 11, .inr (.inl wordF)))] sz) := by
  refine Met.ofW (cc := cX11_reckons) (maxL := 11) (ret := (some .long)) (by decide) rfl ?_
  intro p e s m args below meth c s₁ B hml hv
  obtain ⟨rfl, hsz, hP, hK, hD0⟩ := hv
  have hx := B.exec
  have hb := B.bytes
  have hr := B.returns
  have hts := atoms_spec (ws := wsX11_reckons) B.pre
  have hown : s.vm.findClass RX11 = some m.cls := findClass_of_methodNamed B.named
  have hlocks := B.notSynchronized
  subst hsz
  have hD := hD0.self (sz := s.heap.size)
  generalize hAe : va_A [(n0, .inr (11, .ref a_tape :: .int m_taped :: .int m_laws :: .ref a_sign :: .ref a_length :: .ref a_clause :: .ref a_clauses :: .ref a_chain :: .int m_next :: .int m_wrong :: .int m_number :: .int m_text :: .int m_made :: .int m_deep :: .int m_lines :: .ref a_open :: .int m_opened :: .ref a_stack :: .int m_top :: .ref a_word :: .ref a_said :: .ref a_kept :: [.int m_goNode, .int m_goDrops, .int m_goHour, .int m_goFelt, .int m_goSalt, .int m_goMore, .ref a_stepNode, .ref a_stepDrops, .ref a_stepHour, .ref a_stepNext, .ref a_stepPass, .int m_bestLeft, .int m_bestHour, .int m_bestMany, .ref a_bestPass, .ref a_far, .ref a_waited, .ref a_servers, .ref a_images, .ref a_isMade])), (a_sign, .inl (kA 0, 2400, .inl signF)), (a_stack, .inl (kA 2, 64, .inr (.inl stackF))), (a_word, .inl (kA 2, 11, .inr (.inl wordF)))] s.heap.size = A at hD ⊢
  have hA : ∀ q : Nat, s.heap.size ≤ q → A q := fun q h => by rw [← hAe]; exact Or.inr h
  have hS : va_S A s.heap s.heap [] := va_S.rf
  have hP : va_P (dC, dI) vwCl [(n0, .inr (11, .ref a_tape :: .int m_taped :: .int m_laws :: .ref a_sign :: .ref a_length :: .ref a_clause :: .ref a_clauses :: .ref a_chain :: .int m_next :: .int m_wrong :: .int m_number :: .int m_text :: .int m_made :: .int m_deep :: .int m_lines :: .ref a_open :: .int m_opened :: .ref a_stack :: .int m_top :: .ref a_word :: .ref a_said :: .ref a_kept :: [.int m_goNode, .int m_goDrops, .int m_goHour, .int m_goFelt, .int m_goSalt, .int m_goMore, .ref a_stepNode, .ref a_stepDrops, .ref a_stepHour, .ref a_stepNext, .ref a_stepPass, .int m_bestLeft, .int m_bestHour, .int m_bestMany, .ref a_bestPass, .ref a_far, .ref a_waited, .ref a_servers, .ref a_images, .ref a_isMade])), (a_sign, .inl (kA 0, 2400, .inl signF)), (a_stack, .inl (kA 2, 64, .inr (.inl stackF))), (a_word, .inl (kA 2, 11, .inr (.inl wordF)))] s.heap := hP
  have hl := lv_entry ([.ref n0, .int p0, .int p1, .int p2]) (n := 11) (Nat.le_of_ble_eq_true rfl)
  rw [lg_entry_eq]
  generalize (lg_sl ([.ref n0, .int p0, .int p1, .int p2]) ++ List.replicate (11 - (lg_sl ([.ref n0, .int p0, .int p1, .int p2])).length) Slot.unset).toArray = ls at hl ⊢
  have hl : lv_has ls 11 [(0, .ref n0), (1, .int p0), (2, .int p1), (3, .int p2)] := hl
  obtain ⟨H, hHe⟩ : ∃ H : Heap, H = s.heap := ⟨_, rfl⟩
  have hz1 : ¬ p0 < 0 := hco.1.1
  have hz2 : ¬ 6 ≤ p0 := hco.1.2
  have hz3 : ¬ p1 < 0 := hco.2.1.1
  have hz4 : ¬ p2 < p1 := hco.2.1.2.1
  have hz5 : ¬ 400 < p2 := hco.2.1.2.2
  refine lv_aload_n hx hb dX11_reckons_0 rfl (lv_at hl 0 rfl) ?_
  refine lv_iconst (v := 0) hx hb dX11_reckons_1 (by decide) ?_
  refine va_put (D := (dC, dI)) (ci := 11) (v := .int 0) (ty := .int) (C := RX11) (T := TX11) (N := 42) hx hb hts iX11_reckons_X11 tyX11 tyX11_ok nmX11 hown hK.1 hP hD hS 0 rfl rfl 18 (by decide) (kX11_reckons_1 hts) (fun _ h9 => h9) rfl (by decide +kernel) rfl rfl (Nat.le_of_ble_eq_true rfl) dX11_reckons_2 (fun H locs hP hD hS => ?_)
  obtain ⟨hP, hD⟩ := z_re (L := [(n0, .inr (11, .ref a_tape :: .int m_taped :: .int m_laws :: .ref a_sign :: .ref a_length :: .ref a_clause :: .ref a_clauses :: .ref a_chain :: .int m_next :: .int m_wrong :: .int m_number :: .int m_text :: .int m_made :: .int m_deep :: .int m_lines :: .ref a_open :: .int m_opened :: .ref a_stack :: .int 0 :: .ref a_word :: .ref a_said :: .ref a_kept :: [.int m_goNode, .int m_goDrops, .int m_goHour, .int m_goFelt, .int m_goSalt, .int m_goMore, .ref a_stepNode, .ref a_stepDrops, .ref a_stepHour, .ref a_stepNext, .ref a_stepPass, .int m_bestLeft, .int m_bestHour, .int m_bestMany, .ref a_bestPass, .ref a_far, .ref a_waited, .ref a_servers, .ref a_images, .ref a_isMade])), (a_sign, .inl (kA 0, 2400, .inl signF)), (a_stack, .inl (kA 2, 64, .inr (.inl stackF))), (a_word, .inl (kA 2, 11, .inr (.inl wordF)))]) hP hD
  refine lv_iload_n hx hb dX11_reckons_5 rfl (lv_at hl 2 rfl) ?_
  refine lv_istore (lv' := [(4, .int p1), (0, .ref n0), (1, .int p0), (2, .int p1), (3, .int p2)]) hx hb dX11_reckons_6 hl (by decide) rfl (fun ls hl => ?_)
  refine lp_mX11_reckons_8 hx hb hml hts hown hK hA (Nat.le_of_ble_eq_true rfl) (Nat.le_of_ble_eq_true rfl) (Nat.le_of_ble_eq_true rfl) (Nat.le_of_ble_eq_true rfl) n0 m_taped m_laws m_next m_wrong m_number m_text m_made m_deep m_lines m_opened m_goNode m_goDrops m_goHour m_goFelt m_goSalt m_goMore m_bestLeft m_bestHour m_bestMany a_tape a_sign a_length a_clause a_clauses a_chain a_open a_stack a_word a_said a_kept a_stepNode a_stepDrops a_stepHour a_stepNext a_stepPass a_bestPass a_far a_waited a_servers a_images a_isMade signF wordF p0 p1 p2 hco hz1 hz2 hz3 hz4 hz5 (fun w135_0_0 w135_1_0 w135_2_0 H locs ls hx135_4_nlt00_0 hx135_4_nltPp2_0 hrx_0 hrl_0 hP hD hS hl => ?_) _ 0 stackF p1 _ _ ls (Nat.lt_succ_self _) hz3 (R_start hco) hP hD hS (lv_sub hl [0, 1, 2, 3, 4] rfl)
  obtain ⟨hP, hD⟩ := z_re (L := [(n0, .inr (11, .ref a_tape :: .int m_taped :: .int m_laws :: .ref a_sign :: .ref a_length :: .ref a_clause :: .ref a_clauses :: .ref a_chain :: .int m_next :: .int m_wrong :: .int m_number :: .int m_text :: .int m_made :: .int m_deep :: .int m_lines :: .ref a_open :: .int m_opened :: .ref a_stack :: .int w135_0_0 :: .ref a_word :: .ref a_said :: .ref a_kept :: [.int m_goNode, .int m_goDrops, .int m_goHour, .int m_goFelt, .int m_goSalt, .int m_goMore, .ref a_stepNode, .ref a_stepDrops, .ref a_stepHour, .ref a_stepNext, .ref a_stepPass, .int m_bestLeft, .int m_bestHour, .int m_bestMany, .ref a_bestPass, .ref a_far, .ref a_waited, .ref a_servers, .ref a_images, .ref a_isMade])), (a_sign, .inl (kA 0, 2400, .inl signF)), (a_stack, .inl (kA 2, 64, .inr (.inl w135_1_0))), (a_word, .inl (kA 2, 11, .inr (.inl wordF)))]) hP hD
  have hz6 : ¬ w135_2_0 < p1 := hrx_0.2.1.1
  have hn7 := R_end hrx_0 hrl_0
  have hn7a : ¬ w135_0_0 < 1 := hn7.1
  have hn7b : ¬ 60 < w135_0_0 := hn7.2
  refine lv_aload_n hx hb dX11_reckons_135 rfl (lv_at hl 1 rfl) ?_
  refine z_l (wr := [(a_sign, .inl (kA 0, 2400, .inl signF)), (a_word, .inl (kA 2, 11, .inr (.inl wordF)))]) (va_runV (As := []) (rest := []) ⟨hx, hb, hml, hown, hts⟩ (mX11_pop l dC dI kA _ n0 m_taped m_laws m_next m_wrong m_number m_text m_made m_deep m_lines m_opened w135_0_0 m_goNode m_goDrops m_goHour m_goFelt m_goSalt m_goMore m_bestLeft m_bestHour m_bestMany a_tape a_sign a_length a_clause a_clauses a_chain a_open a_stack a_word a_said a_kept a_stepNode a_stepDrops a_stepHour a_stepNext a_stepPass a_bestPass a_far a_waited a_servers a_images a_isMade w135_1_0 hn7a hn7b) (cwV 0 hts gX11_reckons_X11_pop rfl rfl rfl ⟨rfl, hdX11_pop⟩ ⟨(Nat.le_of_ble_eq_true rfl), (Nat.le_of_ble_eq_true rfl)⟩) ⟨zPc.blind, va_recv hK.1 hP (ci := 11) (q0 := 0) rfl rfl, zPre hK (hP.sub [0, 2] rfl) (hD.sub [0, 2] (by decide) rfl)⟩ rfl rfl hl.1 rfl (lv_room (Nat.le_of_ble_eq_true rfl)) dX11_reckons_136 ⟨(Nat.le_of_ble_eq_true rfl), (Nat.le_of_ble_eq_true rfl)⟩) hP hD hS hA [0, 2] [1, 3] rfl rfl (by decide) (by decide) (fun r10 u8 H locs hw9 hP hD hS => ?_)
  obtain ⟨o11, r12⟩ := u8
  obtain ⟨er14, hp13⟩ := hw9
  have er14 : r10 = r12 := er14
  subst er14
  obtain ⟨hP, hD⟩ := z_re (L := [(a_sign, .inl (kA 0, 2400, .inl signF)), (a_word, .inl (kA 2, 11, .inr (.inl wordF))), (n0, .inr (11, .ref a_tape :: .int m_taped :: .int m_laws :: .ref a_sign :: .ref a_length :: .ref a_clause :: .ref a_clauses :: .ref a_chain :: .int m_next :: .int m_wrong :: .int m_number :: .int m_text :: .int m_made :: .int m_deep :: .int m_lines :: .ref a_open :: .int m_opened :: .ref a_stack :: .int o11 :: .ref a_word :: .ref a_said :: .ref a_kept :: [.int m_goNode, .int m_goDrops, .int m_goHour, .int m_goFelt, .int m_goSalt, .int m_goMore, .ref a_stepNode, .ref a_stepDrops, .ref a_stepHour, .ref a_stepNext, .ref a_stepPass, .int m_bestLeft, .int m_bestHour, .int m_bestMany, .ref a_bestPass, .ref a_far, .ref a_waited, .ref a_servers, .ref a_images, .ref a_isMade])), (a_stack, .inl (kA 2, 64, .inr (.inl w135_1_0)))]) hP hD
  obtain ⟨hP9, hD9⟩ := z_sb (L' := [(n0, .inr (11, .ref a_tape :: .int m_taped :: .int m_laws :: .ref a_sign :: .ref a_length :: .ref a_clause :: .ref a_clauses :: .ref a_chain :: .int m_next :: .int m_wrong :: .int m_number :: .int m_text :: .int m_made :: .int m_deep :: .int m_lines :: .ref a_open :: .int m_opened :: .ref a_stack :: .int o11 :: .ref a_word :: .ref a_said :: .ref a_kept :: [.int m_goNode, .int m_goDrops, .int m_goHour, .int m_goFelt, .int m_goSalt, .int m_goMore, .ref a_stepNode, .ref a_stepDrops, .ref a_stepHour, .ref a_stepNext, .ref a_stepPass, .int m_bestLeft, .int m_bestHour, .int m_bestMany, .ref a_bestPass, .ref a_far, .ref a_waited, .ref a_servers, .ref a_images, .ref a_isMade])), (a_sign, .inl (kA 0, 2400, .inl signF)), (a_stack, .inl (kA 2, 64, .inr (.inl w135_1_0))), (a_word, .inl (kA 2, 11, .inr (.inl wordF)))]) hP hD [2, 0, 3, 1] (by decide) rfl
  refine W.widen (k := 0) (n := 0) (Nat.le_of_ble_eq_true rfl) (Nat.le_of_ble_eq_true rfl) ?_
  exact W.lret (v := r10) hx hb hr (fun t ht hW => ⟨⟨r10, (o11, w135_1_0, r10), rfl, rfl, by rw [ht]; exact hP9, hD9⟩, hS.F ht⟩) hS.2.2 dX11_reckons_139
