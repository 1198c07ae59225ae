theorem img_ix {p1 x2 : Int32} {k j : Nat} (hk : p1 = nI k) (hx : x2 = nI j) (h3 : k ≤ 3) (hj : j < 360) : vp_in (360 * p1 + x2) 1440 := by
  rw [hk, hx, show (360 : Int32) = nI 360 from rfl, pk_mul, nI_add]
  exact vp_in_nI (by omega) (by decide)
set_option maxHeartbeats 4000000 in
set_option maxRecDepth 100000 in
theorem lp_image {p : Program} {l : Launch} {e : Env} {R : Room} {s : State} {m : MethodId} {args : Array Value} {below : List Frame} {meth : Method} {c : Code} {Q : State → Prop} {dC : Nat → ClassId} {dI : Nat → Nat → Nat} {kA : Nat → ClassId} {A : Nat → Prop} {H0 : Heap} {cells slots : Nat} (hx : p.tables.exec = Jvm.exec) (hb : c.code = cX11_image) (hml : c.maxLocals = 3) (hts : ∀ w ∈ wsX11_image, w.before args s = true) (hown : s.vm.findClass RX11 = some m.cls) (hK : zK dC dI kA s) (hA : ∀ q, H0.size ≤ q → A q) (m0 : Nat) (m_tape : Nat) (m_sign : Nat) (m_length : Nat) (m_clause : Nat) (m_clauses : Nat) (m_chain : Nat) (m_open : Nat) (m_stack : Nat) (m_word : Nat) (m_said : Nat) (m_kept : Nat) (m_stepNode : Nat) (m_stepDrops : Nat) (m_stepHour : Nat) (m_stepNext : Nat) (m_stepPass : Nat) (m_bestPass : Nat) (m_far : Nat) (m_waited : Nat) (m_servers : Nat) (m_images : Nat) (m_isMade : Nat) (p1 : Int32) (k3 : Nat) (hk : p1 = nI k3) (hk3 : k3 ≤ 3) (k54 : ∀ (H : Heap) (locs : List Loc) (ls : Array Slot), va_P (dC, dI) vwCl [(m0, .inr (11, [.ref m_tape, .int 0, .int 0, .ref m_sign, .ref m_length, .ref m_clause, .ref m_clauses, .ref m_chain, .int 0, .int 0, .int 0, .int 0, .int 0, .int 0, .int 0, .ref m_open, .int 0, .ref m_stack, .int 0, .ref m_word, .ref m_said, .ref m_kept, .int 0, .int 0, .int 0, .int 0, .int 0, .int 0, .ref m_stepNode, .ref m_stepDrops, .ref m_stepHour, .ref m_stepNext, .ref m_stepPass, .int 0, .int 0, .int 0, .ref m_bestPass, .ref m_far, .ref m_waited, .ref m_servers, .ref m_images, .ref m_isMade])), (m_said, .inl (kA 0, 360, .inl (upd (fun _ => 0) (8 : Int32).toNatClampNeg (-1))))] H → va_D A [(m0, .inr (11, [.ref m_tape, .int 0, .int 0, .ref m_sign, .ref m_length, .ref m_clause, .ref m_clauses, .ref m_chain, .int 0, .int 0, .int 0, .int 0, .int 0, .int 0, .int 0, .ref m_open, .int 0, .ref m_stack, .int 0, .ref m_word, .ref m_said, .ref m_kept, .int 0, .int 0, .int 0, .int 0, .int 0, .int 0, .ref m_stepNode, .ref m_stepDrops, .ref m_stepHour, .ref m_stepNext, .ref m_stepPass, .int 0, .int 0, .int 0, .ref m_bestPass, .ref m_far, .ref m_waited, .ref m_servers, .ref m_images, .ref m_isMade])), (m_said, .inl (kA 0, 360, .inl (upd (fun _ => 0) (8 : Int32).toNatClampNeg (-1))))] → va_S A H0 H locs → lv_has ls 3 [(0, .ref m0)] → W p l e R s m args below meth c H locs cells slots Q (F0 m 54 ls [])) : ∀ (n : Nat) (j : Nat) (y2 : Int32) (g : Nat → Int32) (H : Heap) (locs : List Loc) (ls : Array Slot), 360 - j < n → j ≤ 360 → y2 = nI j → va_P (dC, dI) vwCl [(m0, .inr (11, [.ref m_tape, .int 0, .int 0, .ref m_sign, .ref m_length, .ref m_clause, .ref m_clauses, .ref m_chain, .int 0, .int 0, .int 0, .int 0, .int 0, .int 0, .int 0, .ref m_open, .int 0, .ref m_stack, .int 0, .ref m_word, .ref m_said, .ref m_kept, .int 0, .int 0, .int 0, .int 0, .int 0, .int 0, .ref m_stepNode, .ref m_stepDrops, .ref m_stepHour, .ref m_stepNext, .ref m_stepPass, .int 0, .int 0, .int 0, .ref m_bestPass, .ref m_far, .ref m_waited, .ref m_servers, .ref m_images, .ref m_isMade])), (m_said, .inl (kA 0, 360, .inl (upd (fun _ => 0) (8 : Int32).toNatClampNeg (-1)))), (m_images, .inl (kA 0, 1440, .inl g))] H → va_D A [(m0, .inr (11, [.ref m_tape, .int 0, .int 0, .ref m_sign, .ref m_length, .ref m_clause, .ref m_clauses, .ref m_chain, .int 0, .int 0, .int 0, .int 0, .int 0, .int 0, .int 0, .ref m_open, .int 0, .ref m_stack, .int 0, .ref m_word, .ref m_said, .ref m_kept, .int 0, .int 0, .int 0, .int 0, .int 0, .int 0, .ref m_stepNode, .ref m_stepDrops, .ref m_stepHour, .ref m_stepNext, .ref m_stepPass, .int 0, .int 0, .int 0, .ref m_bestPass, .ref m_far, .ref m_waited, .ref m_servers, .ref m_images, .ref m_isMade])), (m_said, .inl (kA 0, 360, .inl (upd (fun _ => 0) (8 : Int32).toNatClampNeg (-1)))), (m_images, .inl (kA 0, 1440, .inl g))] → va_S A H0 H locs → lv_has ls 3 [(0, .ref m0), (1, .int p1), (2, .int y2)] → W p l e R s m args below meth c H locs cells slots Q (F0 m 23 ls []) := by
  intro n
  induction n with
  | zero =>
    intro j y2 g H locs ls hn
    exact absurd hn (Nat.not_lt_zero _)
  | succ n ih =>
    intro j y2 g H locs ls hn hj ey2 hP hD hS hl
    refine lv_iload_n hx hb dX11_image_23 rfl (lv_at hl 2 rfl) ?_
    refine lv_sipush (v := 360) hx hb dX11_image_24 (by decide) ?_
    refine lv_icmp_ge (tgt := 54) hx hb dX11_image_27 (by decide) (fun c_1 => ?_) (fun c_1 => ?_)
    · exact k54  H locs ls  (hP.sub [0, 1] rfl) (hD.sub [0, 1] (by decide) rfl) hS (lv_sub hl [0] rfl)
    · have hlt : j < 360 := by
        rcases Nat.lt_or_ge j 360 with q | q
        · exact q
        · exact absurd (by rw [ey2]; exact nI_le q (by omega)) c_1
      refine lv_aload_n hx hb dX11_image_30 rfl (lv_at hl 0 rfl) ?_
      refine va_get (D := (dC, dI)) (ci := 11) (v := .ref m_images) (C := RX11) (T := TX11) (N := 42) hx hb hts iX11_image_X11 hown hK.1 hP 0 rfl rfl 40 (by decide) (kX11_image_3 hts) (fun _ h9 => h9) rfl dX11_image_31 ?_
      refine lv_sipush (v := 360) hx hb dX11_image_34 (by decide) ?_
      refine lv_iload_n hx hb dX11_image_37 rfl (lv_at hl 1 rfl) ?_
      refine lv_imul hx hb dX11_image_38 ?_
      refine lv_iload_n hx hb dX11_image_39 rfl (lv_at hl 2 rfl) ?_
      refine lv_iadd hx hb dX11_image_40 ?_
      refine lv_aload_n hx hb dX11_image_41 rfl (lv_at hl 0 rfl) ?_
      refine va_get (D := (dC, dI)) (ci := 11) (v := .ref m_said) (C := RX11) (T := TX11) (N := 42) hx hb hts iX11_image_X11 hown hK.1 hP 0 rfl rfl 20 (by decide) (kX11_image_4 hts) (fun _ h9 => h9) rfl dX11_image_42 ?_
      refine lv_iload_n hx hb dX11_image_45 rfl (lv_at hl 2 rfl) ?_
      refine va_iald hx hb hK.1 hP 1 0 rfl rfl (by rw [ey2]; exact vp_in_nI hlt (by decide)) dX11_image_46 ?_
      refine lv_topi (fun x2 ex2 => ?_)
      refine va_iast hx hb hK.1 hP hD hS 2 0 rfl rfl (img_ix hk ey2 hk3 hlt) dX11_image_47 (fun H locs hP hD hS => ?_)
      have hP : va_P (dC, dI) vwCl [(m0, .inr (11, [.ref m_tape, .int 0, .int 0, .ref m_sign, .ref m_length, .ref m_clause, .ref m_clauses, .ref m_chain, .int 0, .int 0, .int 0, .int 0, .int 0, .int 0, .int 0, .ref m_open, .int 0, .ref m_stack, .int 0, .ref m_word, .ref m_said, .ref m_kept, .int 0, .int 0, .int 0, .int 0, .int 0, .int 0, .ref m_stepNode, .ref m_stepDrops, .ref m_stepHour, .ref m_stepNext, .ref m_stepPass, .int 0, .int 0, .int 0, .ref m_bestPass, .ref m_far, .ref m_waited, .ref m_servers, .ref m_images, .ref m_isMade])), (m_said, .inl (kA 0, 360, .inl (upd (fun _ => 0) (8 : Int32).toNatClampNeg (-1)))), (m_images, .inl (kA 0, 1440, .inl (upd g ((360 * p1) + y2).toNatClampNeg x2)))] H := hP
      have hD : va_D A [(m0, .inr (11, [.ref m_tape, .int 0, .int 0, .ref m_sign, .ref m_length, .ref m_clause, .ref m_clauses, .ref m_chain, .int 0, .int 0, .int 0, .int 0, .int 0, .int 0, .int 0, .ref m_open, .int 0, .ref m_stack, .int 0, .ref m_word, .ref m_said, .ref m_kept, .int 0, .int 0, .int 0, .int 0, .int 0, .int 0, .ref m_stepNode, .ref m_stepDrops, .ref m_stepHour, .ref m_stepNext, .ref m_stepPass, .int 0, .int 0, .int 0, .ref m_bestPass, .ref m_far, .ref m_waited, .ref m_servers, .ref m_images, .ref m_isMade])), (m_said, .inl (kA 0, 360, .inl (upd (fun _ => 0) (8 : Int32).toNatClampNeg (-1)))), (m_images, .inl (kA 0, 1440, .inl (upd g ((360 * p1) + y2).toNatClampNeg x2)))] := hD
      obtain ⟨f3, ef3⟩ : ∃ y : Nat → Int32, y = (upd g ((360 * p1) + y2).toNatClampNeg x2) := ⟨_, rfl⟩
      rw [← ef3] at hP hD
      obtain ⟨x4, ex4⟩ : ∃ y : Int32, y = y2 + 1 := ⟨_, rfl⟩
      refine lv_iinc (v := x4) (lv' := [(2, .int x4), (0, .ref m0), (1, .int p1)]) hx hb dX11_image_48 hl (k := 2) rfl (by rw [ex4]; rfl) (by decide) rfl (fun ls hl => ?_)
      refine lv_goto (tgt := 23) hx hb dX11_image_51 (by decide) ?_
      exact ih (j + 1) x4 f3 H locs ls (by omega) (by omega) (by rw [ex4, ey2]; exact nI_1 j) hP hD hS (lv_sub hl [1, 2, 0] rfl)
