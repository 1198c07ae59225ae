set_option maxHeartbeats 4000000 in
set_option maxRecDepth 100000 in
theorem mX10_isCover (l : Launch) (dC : Nat → ClassId) (dI : Nat → Nat → Nat) (kA : Nat → ClassId) (sz : Nat) (p0 : Int32) (p1 : Int32)  : Met l yX10_isCover wsX10_isCover ({ frames := 1, cells := 0, slots := 0, locals := 21 }) (zPc dC dI kA sz [.int p0, .int p1] []) (va_Qi (fun (r : Int32) (u : Unit) => r = (cv p0 p1)) (zB dC dI (va_A [] sz) (fun (u : Unit) => [])) (va_A [] sz)) 0 0 (va_A [] sz) := by
  refine Met.ofW (cc := cX10_isCover) (maxL := 2) (ret := (some .boolean)) (by decide) rfl ?_
  intro p e s m args below meth c s₁ B hml hv
  obtain ⟨rfl, hsz, hP, hK, hD0⟩ := hv
  have hx := B.exec
  have hb := B.bytes
  have hr := B.returns
  have hts := atoms_spec (ws := wsX10_isCover) B.pre
  have hown : s.vm.findClass RX10 = some m.cls := findClass_of_methodNamed B.named
  have hlocks := B.notSynchronized
  subst hsz
  have hD := hD0.self (sz := s.heap.size)
  generalize hAe : va_A [] s.heap.size = A at hD ⊢
  have hA : ∀ q : Nat, s.heap.size ≤ q → A q := fun q h => by rw [← hAe]; exact Or.inr h
  have hS : va_S A s.heap s.heap [] := va_S.rf
  have hP : va_P (dC, dI) vwCl [] s.heap := hP
  have hl := lv_entry ([.int p0, .int p1]) (n := 2) (Nat.le_of_ble_eq_true rfl)
  rw [lg_entry_eq]
  generalize (lg_sl ([.int p0, .int p1]) ++ List.replicate (2 - (lg_sl ([.int p0, .int p1])).length) Slot.unset).toArray = ls at hl ⊢
  have hl : lv_has ls 2 [(0, .int p0), (1, .int p1)] := hl
  refine lv_iload_n hx hb dX10_isCover_0 rfl (lv_at hl 0 rfl) ?_
  refine lv_bipush (v := 9) hx hb dX10_isCover_1 (by decide) ?_
  refine z_i (wr := []) (va_runS (As := [.int p0, .int 9]) (rest := []) ⟨hx, hb, hml, hown, hts⟩ (mX10_within l dC dI kA _ p0 9) (va_cwS 2 hts gX10_isCover_X10_within rfl rfl rfl hdX10_within ⟨(Nat.le_of_ble_eq_true rfl), (Nat.le_of_ble_eq_true rfl)⟩) ⟨zPc.blind, zPre hK (hP.sub [] rfl) (hD.sub [] (by decide) rfl)⟩ rfl rfl hl.1 rfl (lv_room (Nat.le_of_ble_eq_true rfl)) dX10_isCover_3 ⟨(Nat.le_of_ble_eq_true rfl), (Nat.le_of_ble_eq_true rfl)⟩) hP hD hS hA [] [] rfl rfl (by decide) (by decide) (fun r3 u1 H locs hw2 hP hD hS => ?_)
  obtain rfl := hw2
  obtain ⟨hP, hD⟩ := z_re (L := []) hP hD
  refine lv_if_eq (tgt := 22) hx hb dX10_isCover_6 (by decide) (fun c_4 => ?_) (fun c_4 => ?_)
  · refine lv_iconst (v := 0) hx hb dX10_isCover_22 (by decide) ?_
    obtain ⟨hP9, hD9⟩ := z_sb (L' := []) hP hD [] (by decide) rfl
    refine W.widen (k := 0) (n := 0) (Nat.le_of_ble_eq_true rfl) (Nat.le_of_ble_eq_true rfl) ?_
    exact W.zret (v := 0) hx hb hr rfl (fun t ht hW => ⟨⟨0, (), rfl, (by simp [cv, c_4]), by rw [ht]; exact hP9, hD9⟩, hS.F ht⟩) hS.2.2 dX10_isCover_23
  · have c_4a := wi_ne c_4
    have c_4b := c_4a.2
    have c_4a := c_4a.1
    refine lv_iload_n hx hb dX10_isCover_9 rfl (lv_at hl 1 rfl) ?_
    refine lv_bipush (v := 9) hx hb dX10_isCover_10 (by decide) ?_
    refine z_i (wr := []) (va_runS (As := [.int p1, .int 9]) (rest := []) ⟨hx, hb, hml, hown, hts⟩ (mX10_within l dC dI kA _ p1 9) (va_cwS 2 hts gX10_isCover_X10_within rfl rfl rfl hdX10_within ⟨(Nat.le_of_ble_eq_true rfl), (Nat.le_of_ble_eq_true rfl)⟩) ⟨zPc.blind, zPre hK (hP.sub [] rfl) (hD.sub [] (by decide) rfl)⟩ rfl rfl hl.1 rfl (lv_room (Nat.le_of_ble_eq_true rfl)) dX10_isCover_12 ⟨(Nat.le_of_ble_eq_true rfl), (Nat.le_of_ble_eq_true rfl)⟩) hP hD hS hA [] [] rfl rfl (by decide) (by decide) (fun r7 u5 H locs hw6 hP hD hS => ?_)
    obtain rfl := hw6
    obtain ⟨hP, hD⟩ := z_re (L := []) hP hD
    refine lv_if_eq (tgt := 22) hx hb dX10_isCover_15 (by decide) (fun c_8 => ?_) (fun c_8 => ?_)
    · refine lv_iconst (v := 0) hx hb dX10_isCover_22 (by decide) ?_
      obtain ⟨hP9, hD9⟩ := z_sb (L' := []) hP hD [] (by decide) rfl
      refine W.widen (k := 0) (n := 0) (Nat.le_of_ble_eq_true rfl) (Nat.le_of_ble_eq_true rfl) ?_
      exact W.zret (v := 0) hx hb hr rfl (fun t ht hW => ⟨⟨0, (), rfl, (by simp [cv, c_4, c_4a, c_4b, c_8]), by rw [ht]; exact hP9, hD9⟩, hS.F ht⟩) hS.2.2 dX10_isCover_23
    · have c_8a := wi_ne c_8
      have c_8b := c_8a.2
      have c_8a := c_8a.1
      refine lv_iconst (v := 1) hx hb dX10_isCover_18 (by decide) ?_
      refine lv_goto (tgt := 23) hx hb dX10_isCover_19 (by decide) ?_
      obtain ⟨hP9, hD9⟩ := z_sb (L' := []) hP hD [] (by decide) rfl
      refine W.widen (k := 0) (n := 0) (Nat.le_of_ble_eq_true rfl) (Nat.le_of_ble_eq_true rfl) ?_
      exact W.zret (v := 1) hx hb hr rfl (fun t ht hW => ⟨⟨1, (), rfl, (by simp [cv, c_4, c_4a, c_4b, c_8, c_8a, c_8b]), by rw [ht]; exact hP9, hD9⟩, hS.F ht⟩) hS.2.2 dX10_isCover_23
set_option maxRecDepth 100000 in
def fX10_isLoad (p0 : Int32) (p1 : Int32) (p2 : Int32) (p3 : Int32) : Int32 := if (wi p0 99999) = 0 then (0) else (if (wi p1 99999) = 0 then (0) else (if (cv p2 p3) = 0 then (0) else (1)))
set_option maxHeartbeats 4000000 in
set_option maxRecDepth 100000 in
theorem mX10_isLoad (l : Launch) (dC : Nat → ClassId) (dI : Nat → Nat → Nat) (kA : Nat → ClassId) (sz : Nat) (p0 : Int32) (p1 : Int32) (p2 : Int32) (p3 : Int32)  : Met l yX10_isLoad wsX10_isLoad ({ frames := 2, cells := 0, slots := 0, locals := 42 }) (zPc dC dI kA sz [.int p0, .int p1, .int p2, .int p3] []) (va_Qi (fun (r : Int32) (u : Int32) => r = u ∧ u = fX10_isLoad p0 p1 p2 p3 ∧ (u = 0 ∨ u = 1)) (zB dC dI (va_A [] sz) (fun (u : Int32) => [])) (va_A [] sz)) 0 0 (va_A [] sz) := by
  refine Met.ofW (cc := cX10_isLoad) (maxL := 4) (ret := (some .boolean)) (by decide) rfl ?_
  intro p e s m args below meth c s₁ B hml hv
  obtain ⟨rfl, hsz, hP, hK, hD0⟩ := hv
  have hx := B.exec
  have hb := B.bytes
  have hr := B.returns
  have hts := atoms_spec (ws := wsX10_isLoad) B.pre
  have hown : s.vm.findClass RX10 = some m.cls := findClass_of_methodNamed B.named
  have hlocks := B.notSynchronized
  subst hsz
  have hD := hD0.self (sz := s.heap.size)
  generalize hAe : va_A [] s.heap.size = A at hD ⊢
  have hA : ∀ q : Nat, s.heap.size ≤ q → A q := fun q h => by rw [← hAe]; exact Or.inr h
  have hS : va_S A s.heap s.heap [] := va_S.rf
  have hP : va_P (dC, dI) vwCl [] s.heap := hP
  have hl := lv_entry ([.int p0, .int p1, .int p2, .int p3]) (n := 4) (Nat.le_of_ble_eq_true rfl)
  rw [lg_entry_eq]
  generalize (lg_sl ([.int p0, .int p1, .int p2, .int p3]) ++ List.replicate (4 - (lg_sl ([.int p0, .int p1, .int p2, .int p3])).length) Slot.unset).toArray = ls at hl ⊢
  have hl : lv_has ls 4 [(0, .int p0), (1, .int p1), (2, .int p2), (3, .int p3)] := hl
  obtain ⟨G, hG0⟩ : ∃ G : Int32, fX10_isLoad p0 p1 p2 p3 = G := ⟨_, rfl⟩
  have hG := hG0
  unfold fX10_isLoad at hG
  refine lv_iload_n hx hb dX10_isLoad_0 rfl (lv_at hl 0 rfl) ?_
  refine lv_ldc hx hb hown (kX10_isLoad_1 hts) dX10_isLoad_1 ?_
  refine z_i (wr := []) (va_runS (As := [.int p0, .int 99999]) (rest := []) ⟨hx, hb, hml, hown, hts⟩ (mX10_within l dC dI kA _ p0 99999) (va_cwS 2 hts gX10_isLoad_X10_within rfl rfl rfl hdX10_within ⟨(Nat.le_of_ble_eq_true rfl), (Nat.le_of_ble_eq_true rfl)⟩) ⟨zPc.blind, zPre hK (hP.sub [] rfl) (hD.sub [] (by decide) rfl)⟩ rfl rfl hl.1 rfl (lv_room (Nat.le_of_ble_eq_true rfl)) dX10_isLoad_3 ⟨(Nat.le_of_ble_eq_true rfl), (Nat.le_of_ble_eq_true rfl)⟩) hP hD hS hA [] [] rfl rfl (by decide) (by decide) (fun r3 u1 H locs hw2 hP hD hS => ?_)
  obtain rfl := hw2
  obtain ⟨hP, hD⟩ := z_re (L := []) hP hD
  refine lv_if_eq (tgt := 30) hx hb dX10_isLoad_6 (by decide) (fun c_4 => ?_) (fun c_4 => ?_)
  · have hG := zthen hG c_4
    refine lv_iconst (v := 0) hx hb dX10_isLoad_30 (by decide) ?_
    obtain ⟨hP9, hD9⟩ := z_sb (L' := []) hP hD [] (by decide) rfl
    refine W.widen (k := 0) (n := 0) (Nat.le_of_ble_eq_true rfl) (Nat.le_of_ble_eq_true rfl) ?_
    exact W.zret (v := 0) hx hb hr rfl (fun t ht hW => ⟨⟨0, (0), rfl, ⟨rfl, (hG.trans hG0.symm), (Or.inl rfl)⟩, by rw [ht]; exact hP9, hD9⟩, hS.F ht⟩) hS.2.2 dX10_isLoad_31
  · have hG := zelse hG c_4
    have c_4a := wi_ne c_4
    have c_4b := c_4a.2
    have c_4a := c_4a.1
    refine lv_iload_n hx hb dX10_isLoad_9 rfl (lv_at hl 1 rfl) ?_
    refine lv_ldc hx hb hown (kX10_isLoad_1 hts) dX10_isLoad_10 ?_
    refine z_i (wr := []) (va_runS (As := [.int p1, .int 99999]) (rest := []) ⟨hx, hb, hml, hown, hts⟩ (mX10_within l dC dI kA _ p1 99999) (va_cwS 2 hts gX10_isLoad_X10_within rfl rfl rfl hdX10_within ⟨(Nat.le_of_ble_eq_true rfl), (Nat.le_of_ble_eq_true rfl)⟩) ⟨zPc.blind, zPre hK (hP.sub [] rfl) (hD.sub [] (by decide) rfl)⟩ rfl rfl hl.1 rfl (lv_room (Nat.le_of_ble_eq_true rfl)) dX10_isLoad_12 ⟨(Nat.le_of_ble_eq_true rfl), (Nat.le_of_ble_eq_true rfl)⟩) hP hD hS hA [] [] rfl rfl (by decide) (by decide) (fun r7 u5 H locs hw6 hP hD hS => ?_)
    obtain rfl := hw6
    obtain ⟨hP, hD⟩ := z_re (L := []) hP hD
    refine lv_if_eq (tgt := 30) hx hb dX10_isLoad_15 (by decide) (fun c_8 => ?_) (fun c_8 => ?_)
    · have hG := zthen hG c_8
      refine lv_iconst (v := 0) hx hb dX10_isLoad_30 (by decide) ?_
      obtain ⟨hP9, hD9⟩ := z_sb (L' := []) hP hD [] (by decide) rfl
      refine W.widen (k := 0) (n := 0) (Nat.le_of_ble_eq_true rfl) (Nat.le_of_ble_eq_true rfl) ?_
      exact W.zret (v := 0) hx hb hr rfl (fun t ht hW => ⟨⟨0, (0), rfl, ⟨rfl, (hG.trans hG0.symm), (Or.inl rfl)⟩, by rw [ht]; exact hP9, hD9⟩, hS.F ht⟩) hS.2.2 dX10_isLoad_31
    · have hG := zelse hG c_8
      have c_8a := wi_ne c_8
      have c_8b := c_8a.2
      have c_8a := c_8a.1
      refine lv_iload_n hx hb dX10_isLoad_18 rfl (lv_at hl 2 rfl) ?_
      refine lv_iload_n hx hb dX10_isLoad_19 rfl (lv_at hl 3 rfl) ?_
      refine z_i (wr := []) (va_runS (As := [.int p2, .int p3]) (rest := []) ⟨hx, hb, hml, hown, hts⟩ (mX10_isCover l dC dI kA _ p2 p3) (va_cwS 2 hts gX10_isLoad_X10_isCover rfl rfl rfl hdX10_isCover ⟨(Nat.le_of_ble_eq_true rfl), (Nat.le_of_ble_eq_true rfl)⟩) ⟨zPc.blind, zPre hK (hP.sub [] rfl) (hD.sub [] (by decide) rfl)⟩ rfl rfl hl.1 rfl (lv_room (Nat.le_of_ble_eq_true rfl)) dX10_isLoad_20 ⟨(Nat.le_of_ble_eq_true rfl), (Nat.le_of_ble_eq_true rfl)⟩) hP hD hS hA [] [] rfl rfl (by decide) (by decide) (fun r11 u9 H locs hw10 hP hD hS => ?_)
      obtain rfl := hw10
      obtain ⟨hP, hD⟩ := z_re (L := []) hP hD
      refine lv_if_eq (tgt := 30) hx hb dX10_isLoad_23 (by decide) (fun c_12 => ?_) (fun c_12 => ?_)
      · have hG := zthen hG c_12
        refine lv_iconst (v := 0) hx hb dX10_isLoad_30 (by decide) ?_
        obtain ⟨hP9, hD9⟩ := z_sb (L' := []) hP hD [] (by decide) rfl
        refine W.widen (k := 0) (n := 0) (Nat.le_of_ble_eq_true rfl) (Nat.le_of_ble_eq_true rfl) ?_
        exact W.zret (v := 0) hx hb hr rfl (fun t ht hW => ⟨⟨0, (0), rfl, ⟨rfl, (hG.trans hG0.symm), (Or.inl rfl)⟩, by rw [ht]; exact hP9, hD9⟩, hS.F ht⟩) hS.2.2 dX10_isLoad_31
      · have hG := zelse hG c_12
        refine lv_iconst (v := 1) hx hb dX10_isLoad_26 (by decide) ?_
        refine lv_goto (tgt := 31) hx hb dX10_isLoad_27 (by decide) ?_
        obtain ⟨hP9, hD9⟩ := z_sb (L' := []) hP hD [] (by decide) rfl
        refine W.widen (k := 0) (n := 0) (Nat.le_of_ble_eq_true rfl) (Nat.le_of_ble_eq_true rfl) ?_
        exact W.zret (v := 1) hx hb hr rfl (fun t ht hW => ⟨⟨1, (1), rfl, ⟨rfl, (hG.trans hG0.symm), (Or.inr rfl)⟩, by rw [ht]; exact hP9, hD9⟩, hS.F ht⟩) hS.2.2 dX10_isLoad_31
set_option maxHeartbeats 4000000 in
set_option maxRecDepth 100000 in
theorem mX10_isWish (l : Launch) (dC : Nat → ClassId) (dI : Nat → Nat → Nat) (kA : Nat → ClassId) (sz : Nat) (p0 : Int32)  : Met l yX10_isWish wsX10_isWish ({ frames := 0, cells := 0, slots := 0, locals := 0 }) (zPc dC dI kA sz [.int p0] []) (va_Qi (fun (r : Int32) (u : Unit) => r = (wsh p0)) (zB dC dI (va_A [] sz) (fun (u : Unit) => [])) (va_A [] sz)) 0 0 (va_A [] sz) := by
  refine Met.ofW (cc := cX10_isWish) (maxL := 1) (ret := (some .boolean)) (by decide) rfl ?_
  intro p e s m args below meth c s₁ B hml hv
  obtain ⟨rfl, hsz, hP, hK, hD0⟩ := hv
  have hx := B.exec
  have hb := B.bytes
  have hr := B.returns
  have hts := atoms_spec (ws := wsX10_isWish) B.pre
  have hown : s.vm.findClass RX10 = some m.cls := findClass_of_methodNamed B.named
  have hlocks := B.notSynchronized
  subst hsz
  have hD := hD0.self (sz := s.heap.size)
  generalize hAe : va_A [] s.heap.size = A at hD ⊢
  have hA : ∀ q : Nat, s.heap.size ≤ q → A q := fun q h => by rw [← hAe]; exact Or.inr h
  have hS : va_S A s.heap s.heap [] := va_S.rf
  have hP : va_P (dC, dI) vwCl [] s.heap := hP
  have hl := lv_entry ([.int p0]) (n := 1) (Nat.le_of_ble_eq_true rfl)
  rw [lg_entry_eq]
  generalize (lg_sl ([.int p0]) ++ List.replicate (1 - (lg_sl ([.int p0])).length) Slot.unset).toArray = ls at hl ⊢
  have hl : lv_has ls 1 [(0, .int p0)] := hl
  refine lv_iload_n hx hb dX10_isWish_0 rfl (lv_at hl 0 rfl) ?_
  refine lv_iconst (v := 1) hx hb dX10_isWish_1 (by decide) ?_
  refine lv_icmp_lt (tgt := 15) hx hb dX10_isWish_2 (by decide) (fun c_1 => ?_) (fun c_1 => ?_)
  · refine lv_iconst (v := 0) hx hb dX10_isWish_15 (by decide) ?_
    obtain ⟨hP9, hD9⟩ := z_sb (L' := []) hP hD [] (by decide) rfl
    refine W.widen (k := 0) (n := 0) (Nat.le_of_ble_eq_true rfl) (Nat.le_of_ble_eq_true rfl) ?_
    exact W.zret (v := 0) hx hb hr rfl (fun t ht hW => ⟨⟨0, (), rfl, (by simp [wsh, c_1]), by rw [ht]; exact hP9, hD9⟩, hS.F ht⟩) hS.2.2 dX10_isWish_16
  · refine lv_iload_n hx hb dX10_isWish_5 rfl (lv_at hl 0 rfl) ?_
    refine lv_ldc hx hb hown (kX10_isWish_1 hts) dX10_isWish_6 ?_
    refine lv_icmp_gt (tgt := 15) hx hb dX10_isWish_8 (by decide) (fun c_2 => ?_) (fun c_2 => ?_)
    · refine lv_iconst (v := 0) hx hb dX10_isWish_15 (by decide) ?_
      obtain ⟨hP9, hD9⟩ := z_sb (L' := []) hP hD [] (by decide) rfl
      refine W.widen (k := 0) (n := 0) (Nat.le_of_ble_eq_true rfl) (Nat.le_of_ble_eq_true rfl) ?_
      exact W.zret (v := 0) hx hb hr rfl (fun t ht hW => ⟨⟨0, (), rfl, (by simp [wsh, c_1, c_2]), by rw [ht]; exact hP9, hD9⟩, hS.F ht⟩) hS.2.2 dX10_isWish_16
    · refine lv_iconst (v := 1) hx hb dX10_isWish_11 (by decide) ?_
      refine lv_goto (tgt := 16) hx hb dX10_isWish_12 (by decide) ?_
      obtain ⟨hP9, hD9⟩ := z_sb (L' := []) hP hD [] (by decide) rfl
      refine W.widen (k := 0) (n := 0) (Nat.le_of_ble_eq_true rfl) (Nat.le_of_ble_eq_true rfl) ?_
      exact W.zret (v := 1) hx hb hr rfl (fun t ht hW => ⟨⟨1, (), rfl, (by simp [wsh, c_1, c_2]), by rw [ht]; exact hP9, hD9⟩, hS.F ht⟩) hS.2.2 dX10_isWish_16
set_option maxHeartbeats 4000000 in
set_option maxRecDepth 100000 in
theorem mX10_lawOf (l : Launch) (dC : Nat → ClassId) (dI : Nat → Nat → Nat) (kA : Nat → ClassId) (sz : Nat) (x0 : Nat) (z0 : Nat) (xi : Nat) (xt : Nat) (xq : Nat) (rdr : Nat) (h0 : Nat) (t0 : Nat) (q0 : Nat) (v0 : Nat) (m0 : Nat) (w0 : Nat) (x_tl : Int32) (x_lc : Int32) (xqF : Nat → Option Nat) (p0 : Int32)  : Met l yX10_lawOf wsX10_lawOf ({ frames := 1, cells := 0, slots := 0, locals := 21 }) (zPc dC dI kA sz [.ref x0, .int p0] [(x0, .inr (10, [.ref w0, .ref z0, .ref xi, .ref xt, .int x_tl, .ref xq, .int x_lc, .ref rdr, .ref h0, .ref t0, .ref q0, .ref v0, .ref m0])), (xq, .inl (kA 5, 6, .inr (.inr (.inr (.inr xqF)))))]) (va_Qq (fun (r : Option Nat) (u : Unit) => r = (sel p0 x_lc xqF)) (zB dC dI (va_A [(x0, .inr (10, [.ref w0, .ref z0, .ref xi, .ref xt, .int x_tl, .ref xq, .int x_lc, .ref rdr, .ref h0, .ref t0, .ref q0, .ref v0, .ref m0])), (xq, .inl (kA 5, 6, .inr (.inr (.inr (.inr xqF)))))] sz) (fun (u : Unit) => [(x0, .inr (10, [.ref w0, .ref z0, .ref xi, .ref xt, .int x_tl, .ref xq, .int x_lc, .ref rdr, .ref h0, .ref t0, .ref q0, .ref v0, .ref m0])), (xq, .inl (kA 5, 6, .inr (.inr (.inr (.inr xqF)))))])) (va_A [(x0, .inr (10, [.ref w0, .ref z0, .ref xi, .ref xt, .int x_tl, .ref xq, .int x_lc, .ref rdr, .ref h0, .ref t0, .ref q0, .ref v0, .ref m0])), (xq, .inl (kA 5, 6, .inr (.inr (.inr (.inr xqF)))))] sz)) 0 0 (va_A [(x0, .inr (10, [.ref w0, .ref z0, .ref xi, .ref xt, .int x_tl, .ref xq, .int x_lc, .ref rdr, .ref h0, .ref t0, .ref q0, .ref v0, .ref m0])), (xq, .inl (kA 5, 6, .inr (.inr (.inr (.inr xqF)))))] sz) := by
  refine Met.ofW (cc := cX10_lawOf) (maxL := 2) (ret := (some (.object "SnowMules$Law"))) (by decide) rfl ?_
  intro p e s m args below meth c s₁ B hml hv
  obtain ⟨rfl, hsz, hP, hK, hD0⟩ := hv
  have hx := B.exec
  have hb := B.bytes
  have hr := B.returns
  have hts := atoms_spec (ws := wsX10_lawOf) B.pre
  have hown : s.vm.findClass RX10 = some m.cls := findClass_of_methodNamed B.named
  have hlocks := B.notSynchronized
  subst hsz
  have hD := hD0.self (sz := s.heap.size)
  generalize hAe : va_A [(x0, .inr (10, [.ref w0, .ref z0, .ref xi, .ref xt, .int x_tl, .ref xq, .int x_lc, .ref rdr, .ref h0, .ref t0, .ref q0, .ref v0, .ref m0])), (xq, .inl (kA 5, 6, .inr (.inr (.inr (.inr xqF)))))] s.heap.size = A at hD ⊢
  have hA : ∀ q : Nat, s.heap.size ≤ q → A q := fun q h => by rw [← hAe]; exact Or.inr h
  have hS : va_S A s.heap s.heap [] := va_S.rf
  have hP : va_P (dC, dI) vwCl [(x0, .inr (10, [.ref w0, .ref z0, .ref xi, .ref xt, .int x_tl, .ref xq, .int x_lc, .ref rdr, .ref h0, .ref t0, .ref q0, .ref v0, .ref m0])), (xq, .inl (kA 5, 6, .inr (.inr (.inr (.inr xqF)))))] s.heap := hP
  have hl := lv_entry ([.ref x0, .int p0]) (n := 2) (Nat.le_of_ble_eq_true rfl)
  rw [lg_entry_eq]
  generalize (lg_sl ([.ref x0, .int p0]) ++ List.replicate (2 - (lg_sl ([.ref x0, .int p0])).length) Slot.unset).toArray = ls at hl ⊢
  have hl : lv_has ls 2 [(0, .ref x0), (1, .int p0)] := hl
  refine lv_iload_n hx hb dX10_lawOf_0 rfl (lv_at hl 1 rfl) ?_
  refine lv_aload_n hx hb dX10_lawOf_1 rfl (lv_at hl 0 rfl) ?_
  refine va_get (D := (dC, dI)) (ci := 10) (v := .int x_lc) (C := RX10) (T := TX10) (N := 13) hx hb hts iX10_lawOf_X10 hown hK.1 hP 0 rfl rfl 6 (by decide) (kX10_lawOf_1 hts) (fun _ h9 => h9) rfl dX10_lawOf_2 ?_
  refine lv_iconst (v := 1) hx hb dX10_lawOf_5 (by decide) ?_
  refine lv_isub hx hb dX10_lawOf_6 ?_
  refine z_i (wr := [(x0, .inr (10, [.ref w0, .ref z0, .ref xi, .ref xt, .int x_tl, .ref xq, .int x_lc, .ref rdr, .ref h0, .ref t0, .ref q0, .ref v0, .ref m0])), (xq, .inl (kA 5, 6, .inr (.inr (.inr (.inr xqF)))))]) (va_runS (As := [.int p0, .int (x_lc - 1)]) (rest := []) ⟨hx, hb, hml, hown, hts⟩ (mX10_within l dC dI kA _ p0 (x_lc - 1)) (va_cwS 2 hts gX10_lawOf_X10_within rfl rfl rfl hdX10_within ⟨(Nat.le_of_ble_eq_true rfl), (Nat.le_of_ble_eq_true rfl)⟩) ⟨zPc.blind, zPre hK (hP.sub [] rfl) (hD.sub [] (by decide) rfl)⟩ rfl rfl hl.1 rfl (lv_room (Nat.le_of_ble_eq_true rfl)) dX10_lawOf_7 ⟨(Nat.le_of_ble_eq_true rfl), (Nat.le_of_ble_eq_true rfl)⟩) hP hD hS hA [] [0, 1] rfl rfl (by decide) (by decide) (fun r3 u1 H locs hw2 hP hD hS => ?_)
  obtain rfl := hw2
  obtain ⟨hP, hD⟩ := z_re (L := [(x0, .inr (10, [.ref w0, .ref z0, .ref xi, .ref xt, .int x_tl, .ref xq, .int x_lc, .ref rdr, .ref h0, .ref t0, .ref q0, .ref v0, .ref m0])), (xq, .inl (kA 5, 6, .inr (.inr (.inr (.inr xqF)))))]) hP hD
  refine lv_if_eq (tgt := 28) hx hb dX10_lawOf_10 (by decide) (fun c_4 => ?_) (fun c_4 => ?_)
  · refine lv_null hx hb dX10_lawOf_28 ?_
    obtain ⟨hP9, hD9⟩ := z_sb (L' := [(x0, .inr (10, [.ref w0, .ref z0, .ref xi, .ref xt, .int x_tl, .ref xq, .int x_lc, .ref rdr, .ref h0, .ref t0, .ref q0, .ref v0, .ref m0])), (xq, .inl (kA 5, 6, .inr (.inr (.inr (.inr xqF)))))]) hP hD [0, 1] (by decide) rfl
    refine W.widen (k := 0) (n := 0) (Nat.le_of_ble_eq_true rfl) (Nat.le_of_ble_eq_true rfl) ?_
    exact W.aret (v := .null) hx hb hr (Or.inl ⟨_, rfl⟩) (Or.inl rfl) (fun t ht hW => ⟨⟨none, (), rfl, (by simp [sel, c_4]), by rw [ht]; exact hP9, hD9⟩, hS.F ht⟩) hS.2.2 dX10_lawOf_29
  · have c_4a := wi_ne c_4
    have c_4b := c_4a.2
    have c_4a := c_4a.1
    refine lv_iload_n hx hb dX10_lawOf_13 rfl (lv_at hl 1 rfl) ?_
    refine lv_bipush (v := 6) hx hb dX10_lawOf_14 (by decide) ?_
    refine lv_icmp_ge (tgt := 28) hx hb dX10_lawOf_16 (by decide) (fun c_5 => ?_) (fun c_5 => ?_)
    · refine lv_null hx hb dX10_lawOf_28 ?_
      obtain ⟨hP9, hD9⟩ := z_sb (L' := [(x0, .inr (10, [.ref w0, .ref z0, .ref xi, .ref xt, .int x_tl, .ref xq, .int x_lc, .ref rdr, .ref h0, .ref t0, .ref q0, .ref v0, .ref m0])), (xq, .inl (kA 5, 6, .inr (.inr (.inr (.inr xqF)))))]) hP hD [0, 1] (by decide) rfl
      refine W.widen (k := 0) (n := 0) (Nat.le_of_ble_eq_true rfl) (Nat.le_of_ble_eq_true rfl) ?_
      exact W.aret (v := .null) hx hb hr (Or.inl ⟨_, rfl⟩) (Or.inl rfl) (fun t ht hW => ⟨⟨none, (), rfl, (by simp [sel, c_4, c_5]), by rw [ht]; exact hP9, hD9⟩, hS.F ht⟩) hS.2.2 dX10_lawOf_29
    · refine lv_aload_n hx hb dX10_lawOf_19 rfl (lv_at hl 0 rfl) ?_
      refine va_get (D := (dC, dI)) (ci := 10) (v := .ref xq) (C := RX10) (T := TX10) (N := 13) hx hb hts iX10_lawOf_X10 hown hK.1 hP 0 rfl rfl 5 (by decide) (kX10_lawOf_2 hts) (fun _ h9 => h9) rfl dX10_lawOf_20 ?_
      refine lv_iload_n hx hb dX10_lawOf_23 rfl (lv_at hl 1 rfl) ?_
      refine va_aldq hx hb hK.1 hP 1 5 rfl rfl (vp_lt (by decide) c_4a c_5) dX10_lawOf_24 ?_
      refine lv_goto (tgt := 29) hx hb dX10_lawOf_25 (by decide) ?_
      obtain ⟨hP9, hD9⟩ := z_sb (L' := [(x0, .inr (10, [.ref w0, .ref z0, .ref xi, .ref xt, .int x_tl, .ref xq, .int x_lc, .ref rdr, .ref h0, .ref t0, .ref q0, .ref v0, .ref m0])), (xq, .inl (kA 5, 6, .inr (.inr (.inr (.inr xqF)))))]) hP hD [0, 1] (by decide) rfl
      refine W.widen (k := 0) (n := 0) (Nat.le_of_ble_eq_true rfl) (Nat.le_of_ble_eq_true rfl) ?_
      exact W.aret (v := va_rf (xqF p0.toNatClampNeg)) hx hb hr (Or.inl ⟨_, rfl⟩) (va_rf_or _) (fun t ht hW => ⟨⟨(xqF p0.toNatClampNeg), (), rfl, (by simp [sel, c_4, c_5]), by rw [ht]; exact hP9, hD9⟩, hS.F ht⟩) hS.2.2 dX10_lawOf_29
set_option maxRecDepth 100000 in
def fX10_isJourney (tnodesS : Int32) (p0 : Int32) (p1 : Int32) : Int32 := if (hs p0 tnodesS) = 0 then (0) else (if (hs p1 tnodesS) = 0 then (0) else (if p0 = p1 then (0) else (1)))
set_option maxHeartbeats 4000000 in
set_option maxRecDepth 100000 in
theorem mX10_isJourney (l : Launch) (dC : Nat → ClassId) (dI : Nat → Nat → Nat) (kA : Nat → ClassId) (sz : Nat) (x0 : Nat) (z0 : Nat) (xi : Nat) (xt : Nat) (xq : Nat) (rdr : Nat) (h0 : Nat) (t0 : Nat) (q0 : Nat) (v0 : Nat) (m0 : Nat) (w0 : Nat) (x_tl : Int32) (x_lc : Int32) (tnodes : Nat) (tnodesA : Nat) (tnodesS : Int32) (tpasses : Nat) (tjars : Nat) (torders : Nat) (tfeasts : Nat) (tway : Nat) (tws : Int32) (tnow : Int32) (tfm : Int32) (tx : Int32) (p0 : Int32) (p1 : Int32)  : Met l yX10_isJourney wsX10_isJourney ({ frames := 1, cells := 0, slots := 0, locals := 21 }) (zPc dC dI kA sz [.ref x0, .int p0, .int p1] [(x0, .inr (10, [.ref w0, .ref z0, .ref xi, .ref xt, .int x_tl, .ref xq, .int x_lc, .ref rdr, .ref h0, .ref t0, .ref q0, .ref v0, .ref m0])), (w0, .inr (9, [.ref tnodes, .ref tpasses, .ref tjars, .ref torders, .ref tfeasts, .ref tway, .int tws, .int tnow, .int tfm, .int tx])), (tnodes, .inr (6, [.int 4, .ref tnodesA, .int tnodesS]))]) (va_Qi (fun (r : Int32) (u : Int32) => r = u ∧ u = fX10_isJourney tnodesS p0 p1 ∧ (u = 0 ∨ u = 1)) (zB dC dI (va_A [(x0, .inr (10, [.ref w0, .ref z0, .ref xi, .ref xt, .int x_tl, .ref xq, .int x_lc, .ref rdr, .ref h0, .ref t0, .ref q0, .ref v0, .ref m0])), (w0, .inr (9, [.ref tnodes, .ref tpasses, .ref tjars, .ref torders, .ref tfeasts, .ref tway, .int tws, .int tnow, .int tfm, .int tx])), (tnodes, .inr (6, [.int 4, .ref tnodesA, .int tnodesS]))] sz) (fun (u : Int32) => [(x0, .inr (10, [.ref w0, .ref z0, .ref xi, .ref xt, .int x_tl, .ref xq, .int x_lc, .ref rdr, .ref h0, .ref t0, .ref q0, .ref v0, .ref m0])), (w0, .inr (9, [.ref tnodes, .ref tpasses, .ref tjars, .ref torders, .ref tfeasts, .ref tway, .int tws, .int tnow, .int tfm, .int tx])), (tnodes, .inr (6, [.int 4, .ref tnodesA, .int tnodesS]))])) (va_A [(x0, .inr (10, [.ref w0, .ref z0, .ref xi, .ref xt, .int x_tl, .ref xq, .int x_lc, .ref rdr, .ref h0, .ref t0, .ref q0, .ref v0, .ref m0])), (w0, .inr (9, [.ref tnodes, .ref tpasses, .ref tjars, .ref torders, .ref tfeasts, .ref tway, .int tws, .int tnow, .int tfm, .int tx])), (tnodes, .inr (6, [.int 4, .ref tnodesA, .int tnodesS]))] sz)) 0 0 (va_A [(x0, .inr (10, [.ref w0, .ref z0, .ref xi, .ref xt, .int x_tl, .ref xq, .int x_lc, .ref rdr, .ref h0, .ref t0, .ref q0, .ref v0, .ref m0])), (w0, .inr (9, [.ref tnodes, .ref tpasses, .ref tjars, .ref torders, .ref tfeasts, .ref tway, .int tws, .int tnow, .int tfm, .int tx])), (tnodes, .inr (6, [.int 4, .ref tnodesA, .int tnodesS]))] sz) := by
  refine Met.ofW (cc := cX10_isJourney) (maxL := 3) (ret := (some .boolean)) (by decide) rfl ?_
  intro p e s m args below meth c s₁ B hml hv
  obtain ⟨rfl, hsz, hP, hK, hD0⟩ := hv
  have hx := B.exec
  have hb := B.bytes
  have hr := B.returns
  have hts := atoms_spec (ws := wsX10_isJourney) B.pre
  have hown : s.vm.findClass RX10 = some m.cls := findClass_of_methodNamed B.named
  have hlocks := B.notSynchronized
  subst hsz
  have hD := hD0.self (sz := s.heap.size)
  generalize hAe : va_A [(x0, .inr (10, [.ref w0, .ref z0, .ref xi, .ref xt, .int x_tl, .ref xq, .int x_lc, .ref rdr, .ref h0, .ref t0, .ref q0, .ref v0, .ref m0])), (w0, .inr (9, [.ref tnodes, .ref tpasses, .ref tjars, .ref torders, .ref tfeasts, .ref tway, .int tws, .int tnow, .int tfm, .int tx])), (tnodes, .inr (6, [.int 4, .ref tnodesA, .int tnodesS]))] s.heap.size = A at hD ⊢
  have hA : ∀ q : Nat, s.heap.size ≤ q → A q := fun q h => by rw [← hAe]; exact Or.inr h
  have hS : va_S A s.heap s.heap [] := va_S.rf
  have hP : va_P (dC, dI) vwCl [(x0, .inr (10, [.ref w0, .ref z0, .ref xi, .ref xt, .int x_tl, .ref xq, .int x_lc, .ref rdr, .ref h0, .ref t0, .ref q0, .ref v0, .ref m0])), (w0, .inr (9, [.ref tnodes, .ref tpasses, .ref tjars, .ref torders, .ref tfeasts, .ref tway, .int tws, .int tnow, .int tfm, .int tx])), (tnodes, .inr (6, [.int 4, .ref tnodesA, .int tnodesS]))] s.heap := hP
  have hl := lv_entry ([.ref x0, .int p0, .int p1]) (n := 3) (Nat.le_of_ble_eq_true rfl)
  rw [lg_entry_eq]
  generalize (lg_sl ([.ref x0, .int p0, .int p1]) ++ List.replicate (3 - (lg_sl ([.ref x0, .int p0, .int p1])).length) Slot.unset).toArray = ls at hl ⊢
  have hl : lv_has ls 3 [(0, .ref x0), (1, .int p0), (2, .int p1)] := hl
  obtain ⟨G, hG0⟩ : ∃ G : Int32, fX10_isJourney tnodesS p0 p1 = G := ⟨_, rfl⟩
  have hG := hG0
  unfold fX10_isJourney at hG
  refine lv_aload_n hx hb dX10_isJourney_0 rfl (lv_at hl 0 rfl) ?_
  refine va_get (D := (dC, dI)) (ci := 10) (v := .ref w0) (C := RX10) (T := TX10) (N := 13) hx hb hts iX10_isJourney_X10 hown hK.1 hP 0 rfl rfl 0 (by decide) (kX10_isJourney_1 hts) (fun _ h9 => h9) rfl dX10_isJourney_1 ?_
  refine va_get (D := (dC, dI)) (ci := 9) (v := .ref tnodes) (C := RX9) (T := TX9) (N := 10) hx hb hts iX10_isJourney_X9 hown hK.1 hP 1 rfl rfl 0 (by decide) (kX10_isJourney_2 hts) (fun _ h9 => h9) rfl dX10_isJourney_4 ?_
  refine lv_iload_n hx hb dX10_isJourney_7 rfl (lv_at hl 1 rfl) ?_
  refine z_i (wr := [(x0, .inr (10, [.ref w0, .ref z0, .ref xi, .ref xt, .int x_tl, .ref xq, .int x_lc, .ref rdr, .ref h0, .ref t0, .ref q0, .ref v0, .ref m0])), (w0, .inr (9, [.ref tnodes, .ref tpasses, .ref tjars, .ref torders, .ref tfeasts, .ref tway, .int tws, .int tnow, .int tfm, .int tx]))]) (va_runV (As := [.int p0]) (rest := []) ⟨hx, hb, hml, hown, hts⟩ (mX6_has l dC dI kA _ tnodes tnodesA 4 tnodesS p0) (cwV 1 hts gX10_isJourney_X6_has rfl rfl rfl ⟨rfl, hdX6_has⟩ ⟨(Nat.le_of_ble_eq_true rfl), (Nat.le_of_ble_eq_true rfl)⟩) ⟨zPc.blind, va_recv hK.1 hP (ci := 6) (q0 := 2) rfl rfl, zPre hK (hP.sub [2] rfl) (hD.sub [2] (by decide) rfl)⟩ rfl rfl hl.1 rfl (lv_room (Nat.le_of_ble_eq_true rfl)) dX10_isJourney_8 ⟨(Nat.le_of_ble_eq_true rfl), (Nat.le_of_ble_eq_true rfl)⟩) hP hD hS hA [2] [0, 1] rfl rfl (by decide) (by decide) (fun r3 u1 H locs hw2 hP hD hS => ?_)
  obtain rfl := hw2
  obtain ⟨hP, hD⟩ := z_re (L := [(x0, .inr (10, [.ref w0, .ref z0, .ref xi, .ref xt, .int x_tl, .ref xq, .int x_lc, .ref rdr, .ref h0, .ref t0, .ref q0, .ref v0, .ref m0])), (w0, .inr (9, [.ref tnodes, .ref tpasses, .ref tjars, .ref torders, .ref tfeasts, .ref tway, .int tws, .int tnow, .int tfm, .int tx])), (tnodes, .inr (6, [.int 4, .ref tnodesA, .int tnodesS]))]) hP hD
  refine lv_if_eq (tgt := 37) hx hb dX10_isJourney_11 (by decide) (fun c_4 => ?_) (fun c_4 => ?_)
  · have hG := zthen hG c_4
    refine lv_iconst (v := 0) hx hb dX10_isJourney_37 (by decide) ?_
    obtain ⟨hP9, hD9⟩ := z_sb (L' := [(x0, .inr (10, [.ref w0, .ref z0, .ref xi, .ref xt, .int x_tl, .ref xq, .int x_lc, .ref rdr, .ref h0, .ref t0, .ref q0, .ref v0, .ref m0])), (w0, .inr (9, [.ref tnodes, .ref tpasses, .ref tjars, .ref torders, .ref tfeasts, .ref tway, .int tws, .int tnow, .int tfm, .int tx])), (tnodes, .inr (6, [.int 4, .ref tnodesA, .int tnodesS]))]) hP hD [0, 1, 2] (by decide) rfl
    refine W.widen (k := 0) (n := 0) (Nat.le_of_ble_eq_true rfl) (Nat.le_of_ble_eq_true rfl) ?_
    exact W.zret (v := 0) hx hb hr rfl (fun t ht hW => ⟨⟨0, (0), rfl, ⟨rfl, (hG.trans hG0.symm), (Or.inl rfl)⟩, by rw [ht]; exact hP9, hD9⟩, hS.F ht⟩) hS.2.2 dX10_isJourney_38
  · have hG := zelse hG c_4
    have c_4a := hs_ne c_4
    have c_4b := c_4a.2
    have c_4a := c_4a.1
    refine lv_aload_n hx hb dX10_isJourney_14 rfl (lv_at hl 0 rfl) ?_
    refine va_get (D := (dC, dI)) (ci := 10) (v := .ref w0) (C := RX10) (T := TX10) (N := 13) hx hb hts iX10_isJourney_X10 hown hK.1 hP 0 rfl rfl 0 (by decide) (kX10_isJourney_1 hts) (fun _ h9 => h9) rfl dX10_isJourney_15 ?_
    refine va_get (D := (dC, dI)) (ci := 9) (v := .ref tnodes) (C := RX9) (T := TX9) (N := 10) hx hb hts iX10_isJourney_X9 hown hK.1 hP 1 rfl rfl 0 (by decide) (kX10_isJourney_2 hts) (fun _ h9 => h9) rfl dX10_isJourney_18 ?_
    refine lv_iload_n hx hb dX10_isJourney_21 rfl (lv_at hl 2 rfl) ?_
    refine z_i (wr := [(x0, .inr (10, [.ref w0, .ref z0, .ref xi, .ref xt, .int x_tl, .ref xq, .int x_lc, .ref rdr, .ref h0, .ref t0, .ref q0, .ref v0, .ref m0])), (w0, .inr (9, [.ref tnodes, .ref tpasses, .ref tjars, .ref torders, .ref tfeasts, .ref tway, .int tws, .int tnow, .int tfm, .int tx]))]) (va_runV (As := [.int p1]) (rest := []) ⟨hx, hb, hml, hown, hts⟩ (mX6_has l dC dI kA _ tnodes tnodesA 4 tnodesS p1) (cwV 1 hts gX10_isJourney_X6_has rfl rfl rfl ⟨rfl, hdX6_has⟩ ⟨(Nat.le_of_ble_eq_true rfl), (Nat.le_of_ble_eq_true rfl)⟩) ⟨zPc.blind, va_recv hK.1 hP (ci := 6) (q0 := 2) rfl rfl, zPre hK (hP.sub [2] rfl) (hD.sub [2] (by decide) rfl)⟩ rfl rfl hl.1 rfl (lv_room (Nat.le_of_ble_eq_true rfl)) dX10_isJourney_22 ⟨(Nat.le_of_ble_eq_true rfl), (Nat.le_of_ble_eq_true rfl)⟩) hP hD hS hA [2] [0, 1] rfl rfl (by decide) (by decide) (fun r7 u5 H locs hw6 hP hD hS => ?_)
    obtain rfl := hw6
    obtain ⟨hP, hD⟩ := z_re (L := [(x0, .inr (10, [.ref w0, .ref z0, .ref xi, .ref xt, .int x_tl, .ref xq, .int x_lc, .ref rdr, .ref h0, .ref t0, .ref q0, .ref v0, .ref m0])), (w0, .inr (9, [.ref tnodes, .ref tpasses, .ref tjars, .ref torders, .ref tfeasts, .ref tway, .int tws, .int tnow, .int tfm, .int tx])), (tnodes, .inr (6, [.int 4, .ref tnodesA, .int tnodesS]))]) hP hD
    refine lv_if_eq (tgt := 37) hx hb dX10_isJourney_25 (by decide) (fun c_8 => ?_) (fun c_8 => ?_)
    · have hG := zthen hG c_8
      refine lv_iconst (v := 0) hx hb dX10_isJourney_37 (by decide) ?_
      obtain ⟨hP9, hD9⟩ := z_sb (L' := [(x0, .inr (10, [.ref w0, .ref z0, .ref xi, .ref xt, .int x_tl, .ref xq, .int x_lc, .ref rdr, .ref h0, .ref t0, .ref q0, .ref v0, .ref m0])), (w0, .inr (9, [.ref tnodes, .ref tpasses, .ref tjars, .ref torders, .ref tfeasts, .ref tway, .int tws, .int tnow, .int tfm, .int tx])), (tnodes, .inr (6, [.int 4, .ref tnodesA, .int tnodesS]))]) hP hD [0, 1, 2] (by decide) rfl
      refine W.widen (k := 0) (n := 0) (Nat.le_of_ble_eq_true rfl) (Nat.le_of_ble_eq_true rfl) ?_
      exact W.zret (v := 0) hx hb hr rfl (fun t ht hW => ⟨⟨0, (0), rfl, ⟨rfl, (hG.trans hG0.symm), (Or.inl rfl)⟩, by rw [ht]; exact hP9, hD9⟩, hS.F ht⟩) hS.2.2 dX10_isJourney_38
    · have hG := zelse hG c_8
      have c_8a := hs_ne c_8
      have c_8b := c_8a.2
      have c_8a := c_8a.1
      refine lv_iload_n hx hb dX10_isJourney_28 rfl (lv_at hl 1 rfl) ?_
      refine lv_iload_n hx hb dX10_isJourney_29 rfl (lv_at hl 2 rfl) ?_
      refine lv_icmp_eq (tgt := 37) hx hb dX10_isJourney_30 (by decide) (fun c_9 => ?_) (fun c_9 => ?_)
      · have hG := zthen hG c_9
        refine lv_iconst (v := 0) hx hb dX10_isJourney_37 (by decide) ?_
        obtain ⟨hP9, hD9⟩ := z_sb (L' := [(x0, .inr (10, [.ref w0, .ref z0, .ref xi, .ref xt, .int x_tl, .ref xq, .int x_lc, .ref rdr, .ref h0, .ref t0, .ref q0, .ref v0, .ref m0])), (w0, .inr (9, [.ref tnodes, .ref tpasses, .ref tjars, .ref torders, .ref tfeasts, .ref tway, .int tws, .int tnow, .int tfm, .int tx])), (tnodes, .inr (6, [.int 4, .ref tnodesA, .int tnodesS]))]) hP hD [0, 1, 2] (by decide) rfl
        refine W.widen (k := 0) (n := 0) (Nat.le_of_ble_eq_true rfl) (Nat.le_of_ble_eq_true rfl) ?_
        exact W.zret (v := 0) hx hb hr rfl (fun t ht hW => ⟨⟨0, (0), rfl, ⟨rfl, (hG.trans hG0.symm), (Or.inl rfl)⟩, by rw [ht]; exact hP9, hD9⟩, hS.F ht⟩) hS.2.2 dX10_isJourney_38
      · have hG := zelse hG c_9
        refine lv_iconst (v := 1) hx hb dX10_isJourney_33 (by decide) ?_
        refine lv_goto (tgt := 38) hx hb dX10_isJourney_34 (by decide) ?_
        obtain ⟨hP9, hD9⟩ := z_sb (L' := [(x0, .inr (10, [.ref w0, .ref z0, .ref xi, .ref xt, .int x_tl, .ref xq, .int x_lc, .ref rdr, .ref h0, .ref t0, .ref q0, .ref v0, .ref m0])), (w0, .inr (9, [.ref tnodes, .ref tpasses, .ref tjars, .ref torders, .ref tfeasts, .ref tway, .int tws, .int tnow, .int tfm, .int tx])), (tnodes, .inr (6, [.int 4, .ref tnodesA, .int tnodesS]))]) hP hD [0, 1, 2] (by decide) rfl
        refine W.widen (k := 0) (n := 0) (Nat.le_of_ble_eq_true rfl) (Nat.le_of_ble_eq_true rfl) ?_
        exact W.zret (v := 1) hx hb hr rfl (fun t ht hW => ⟨⟨1, (1), rfl, ⟨rfl, (hG.trans hG0.symm), (Or.inr rfl)⟩, by rw [ht]; exact hP9, hD9⟩, hS.F ht⟩) hS.2.2 dX10_isJourney_38
set_option maxRecDepth 100000 in
def fX10_writeBytes (x_tl : Int32) (xtF : Nat → Int32) (p0 : Int32) : Int32 × (Nat → Int32) := if 400 ≤ x_tl then (if 400 ≤ x_tl then (if 400 ≤ x_tl then (if 400 ≤ x_tl then ((x_tl, xtF)) else (bnd ((((p0 : Int32).toUInt32 >>> ((0 : Int32).toUInt32 &&& Int32.toUInt32 31)).toInt32)) (fun (x10 : Int32) => bnd ((upd xtF x_tl.toNatClampNeg (x10 &&& 255))) (fun (f11 : Nat → Int32) => bnd ((x_tl + 1)) (fun (x12 : Int32) => (x12, f11)))))) else (bnd ((((p0 : Int32).toUInt32 >>> ((8 : Int32).toUInt32 &&& Int32.toUInt32 31)).toInt32)) (fun (x14 : Int32) => bnd ((upd xtF x_tl.toNatClampNeg (x14 &&& 255))) (fun (f15 : Nat → Int32) => bnd ((x_tl + 1)) (fun (x16 : Int32) => if 400 ≤ x16 then ((x16, f15)) else (bnd ((((p0 : Int32).toUInt32 >>> ((0 : Int32).toUInt32 &&& Int32.toUInt32 31)).toInt32)) (fun (x20 : Int32) => bnd ((upd f15 x16.toNatClampNeg (x20 &&& 255))) (fun (f21 : Nat → Int32) => bnd ((x16 + 1)) (fun (x22 : Int32) => (x22, f21)))))))))) else (bnd ((((p0 : Int32).toUInt32 >>> ((16 : Int32).toUInt32 &&& Int32.toUInt32 31)).toInt32)) (fun (x24 : Int32) => bnd ((upd xtF x_tl.toNatClampNeg (x24 &&& 255))) (fun (f25 : Nat → Int32) => bnd ((x_tl + 1)) (fun (x26 : Int32) => if 400 ≤ x26 then (if 400 ≤ x26 then ((x26, f25)) else (bnd ((((p0 : Int32).toUInt32 >>> ((0 : Int32).toUInt32 &&& Int32.toUInt32 31)).toInt32)) (fun (x32 : Int32) => bnd ((upd f25 x26.toNatClampNeg (x32 &&& 255))) (fun (f33 : Nat → Int32) => bnd ((x26 + 1)) (fun (x34 : Int32) => (x34, f33)))))) else (bnd ((((p0 : Int32).toUInt32 >>> ((8 : Int32).toUInt32 &&& Int32.toUInt32 31)).toInt32)) (fun (x36 : Int32) => bnd ((upd f25 x26.toNatClampNeg (x36 &&& 255))) (fun (f37 : Nat → Int32) => bnd ((x26 + 1)) (fun (x38 : Int32) => if 400 ≤ x38 then ((x38, f37)) else (bnd ((((p0 : Int32).toUInt32 >>> ((0 : Int32).toUInt32 &&& Int32.toUInt32 31)).toInt32)) (fun (x42 : Int32) => bnd ((upd f37 x38.toNatClampNeg (x42 &&& 255))) (fun (f43 : Nat → Int32) => bnd ((x38 + 1)) (fun (x44 : Int32) => (x44, f43)))))))))))))) else (bnd ((((p0 : Int32).toUInt32 >>> ((24 : Int32).toUInt32 &&& Int32.toUInt32 31)).toInt32)) (fun (x46 : Int32) => bnd ((upd xtF x_tl.toNatClampNeg (x46 &&& 255))) (fun (f47 : Nat → Int32) => bnd ((x_tl + 1)) (fun (x48 : Int32) => if 400 ≤ x48 then (if 400 ≤ x48 then (if 400 ≤ x48 then ((x48, f47)) else (bnd ((((p0 : Int32).toUInt32 >>> ((0 : Int32).toUInt32 &&& Int32.toUInt32 31)).toInt32)) (fun (x56 : Int32) => bnd ((upd f47 x48.toNatClampNeg (x56 &&& 255))) (fun (f57 : Nat → Int32) => bnd ((x48 + 1)) (fun (x58 : Int32) => (x58, f57)))))) else (bnd ((((p0 : Int32).toUInt32 >>> ((8 : Int32).toUInt32 &&& Int32.toUInt32 31)).toInt32)) (fun (x60 : Int32) => bnd ((upd f47 x48.toNatClampNeg (x60 &&& 255))) (fun (f61 : Nat → Int32) => bnd ((x48 + 1)) (fun (x62 : Int32) => if 400 ≤ x62 then ((x62, f61)) else (bnd ((((p0 : Int32).toUInt32 >>> ((0 : Int32).toUInt32 &&& Int32.toUInt32 31)).toInt32)) (fun (x66 : Int32) => bnd ((upd f61 x62.toNatClampNeg (x66 &&& 255))) (fun (f67 : Nat → Int32) => bnd ((x62 + 1)) (fun (x68 : Int32) => (x68, f67)))))))))) else (bnd ((((p0 : Int32).toUInt32 >>> ((16 : Int32).toUInt32 &&& Int32.toUInt32 31)).toInt32)) (fun (x70 : Int32) => bnd ((upd f47 x48.toNatClampNeg (x70 &&& 255))) (fun (f71 : Nat → Int32) => bnd ((x48 + 1)) (fun (x72 : Int32) => if 400 ≤ x72 then (if 400 ≤ x72 then ((x72, f71)) else (bnd ((((p0 : Int32).toUInt32 >>> ((0 : Int32).toUInt32 &&& Int32.toUInt32 31)).toInt32)) (fun (x78 : Int32) => bnd ((upd f71 x72.toNatClampNeg (x78 &&& 255))) (fun (f79 : Nat → Int32) => bnd ((x72 + 1)) (fun (x80 : Int32) => (x80, f79)))))) else (bnd ((((p0 : Int32).toUInt32 >>> ((8 : Int32).toUInt32 &&& Int32.toUInt32 31)).toInt32)) (fun (x82 : Int32) => bnd ((upd f71 x72.toNatClampNeg (x82 &&& 255))) (fun (f83 : Nat → Int32) => bnd ((x72 + 1)) (fun (x84 : Int32) => if 400 ≤ x84 then ((x84, f83)) else (bnd ((((p0 : Int32).toUInt32 >>> ((0 : Int32).toUInt32 &&& Int32.toUInt32 31)).toInt32)) (fun (x88 : Int32) => bnd ((upd f83 x84.toNatClampNeg (x88 &&& 255))) (fun (f89 : Nat → Int32) => bnd ((x84 + 1)) (fun (x90 : Int32) => (x90, f89)))))))))))))))))
set_option maxHeartbeats 4000000 in
set_option maxRecDepth 100000 in
theorem mX10_writeBytes (l : Launch) (dC : Nat → ClassId) (dI : Nat → Nat → Nat) (kA : Nat → ClassId) (sz : Nat) (x0 : Nat) (z0 : Nat) (xi : Nat) (xt : Nat) (xq : Nat) (rdr : Nat) (h0 : Nat) (t0 : Nat) (q0 : Nat) (v0 : Nat) (m0 : Nat) (w0 : Nat) (x_tl : Int32) (x_lc : Int32) (xtF : Nat → Int32) (p0 : Int32) (ntl : ¬ x_tl < 0) : Met l yX10_writeBytes wsX10_writeBytes ({ frames := 0, cells := 0, slots := 0, locals := 0 }) (zPc dC dI kA sz [.ref x0, .int p0] [(x0, .inr (10, [.ref w0, .ref z0, .ref xi, .ref xt, .int x_tl, .ref xq, .int x_lc, .ref rdr, .ref h0, .ref t0, .ref q0, .ref v0, .ref m0])), (xt, .inl (kA 0, 400, .inl xtF))]) (va_Qv (fun (u : Int32 × (Nat → Int32)) => (u.1, u.2) = fX10_writeBytes x_tl xtF p0 ∧ ¬ u.1 < 0) (zB dC dI (va_A [(x0, .inr (10, [.ref w0, .ref z0, .ref xi, .ref xt, .int x_tl, .ref xq, .int x_lc, .ref rdr, .ref h0, .ref t0, .ref q0, .ref v0, .ref m0])), (xt, .inl (kA 0, 400, .inl xtF))] sz) (fun (u : Int32 × (Nat → Int32)) => [(x0, .inr (10, [.ref w0, .ref z0, .ref xi, .ref xt, .int u.1, .ref xq, .int x_lc, .ref rdr, .ref h0, .ref t0, .ref q0, .ref v0, .ref m0])), (xt, .inl (kA 0, 400, .inl u.2))])) (va_A [(x0, .inr (10, [.ref w0, .ref z0, .ref xi, .ref xt, .int x_tl, .ref xq, .int x_lc, .ref rdr, .ref h0, .ref t0, .ref q0, .ref v0, .ref m0])), (xt, .inl (kA 0, 400, .inl xtF))] sz)) 0 0 (va_A [(x0, .inr (10, [.ref w0, .ref z0, .ref xi, .ref xt, .int x_tl, .ref xq, .int x_lc, .ref rdr, .ref h0, .ref t0, .ref q0, .ref v0, .ref m0])), (xt, .inl (kA 0, 400, .inl xtF))] sz) := by
  refine Met.ofW (cc := cX10_writeBytes) (maxL := 3) (ret := none) (by decide) rfl ?_
  intro p e s m args below meth c s₁ B hml hv
  obtain ⟨rfl, hsz, hP, hK, hD0⟩ := hv
  have hx := B.exec
  have hb := B.bytes
  have hr := B.returns
  have hts := atoms_spec (ws := wsX10_writeBytes) B.pre
  have hown : s.vm.findClass RX10 = some m.cls := findClass_of_methodNamed B.named
  have hlocks := B.notSynchronized
  subst hsz
  have hD := hD0.self (sz := s.heap.size)
  generalize hAe : va_A [(x0, .inr (10, [.ref w0, .ref z0, .ref xi, .ref xt, .int x_tl, .ref xq, .int x_lc, .ref rdr, .ref h0, .ref t0, .ref q0, .ref v0, .ref m0])), (xt, .inl (kA 0, 400, .inl xtF))] s.heap.size = A at hD ⊢
  have hA : ∀ q : Nat, s.heap.size ≤ q → A q := fun q h => by rw [← hAe]; exact Or.inr h
  have hS : va_S A s.heap s.heap [] := va_S.rf
  have hP : va_P (dC, dI) vwCl [(x0, .inr (10, [.ref w0, .ref z0, .ref xi, .ref xt, .int x_tl, .ref xq, .int x_lc, .ref rdr, .ref h0, .ref t0, .ref q0, .ref v0, .ref m0])), (xt, .inl (kA 0, 400, .inl xtF))] s.heap := hP
  have hl := lv_entry ([.ref x0, .int p0]) (n := 3) (Nat.le_of_ble_eq_true rfl)
  rw [lg_entry_eq]
  generalize (lg_sl ([.ref x0, .int p0]) ++ List.replicate (3 - (lg_sl ([.ref x0, .int p0])).length) Slot.unset).toArray = ls at hl ⊢
  have hl : lv_has ls 3 [(0, .ref x0), (1, .int p0)] := hl
  obtain ⟨G, hG0⟩ : ∃ G : Int32 × (Nat → Int32), fX10_writeBytes x_tl xtF p0 = G := ⟨_, rfl⟩
  have hG := hG0
  unfold fX10_writeBytes at hG
  refine lv_bipush (v := 24) hx hb dX10_writeBytes_0 (by decide) ?_
  refine lv_istore_n (lv' := [(2, .int 24), (0, .ref x0), (1, .int p0)]) hx hb dX10_writeBytes_2 rfl hl (by decide) rfl (fun ls hl => ?_)
  refine lv_iload_n hx hb dX10_writeBytes_3 rfl (lv_at hl 0 rfl) ?_
  refine lv_if_lt (tgt := 49) hx hb dX10_writeBytes_4 (by decide) (fun c_1 => absurd c_1 (by decide)) (fun _ => ?_)
  refine lv_aload_n hx hb dX10_writeBytes_7 rfl (lv_at hl 1 rfl) ?_
  refine va_get (D := (dC, dI)) (ci := 10) (v := .int x_tl) (C := RX10) (T := TX10) (N := 13) hx hb hts iX10_writeBytes_X10 hown hK.1 hP 0 rfl rfl 4 (by decide) (kX10_writeBytes_1 hts) (fun _ h9 => h9) rfl dX10_writeBytes_8 ?_
  refine lv_sipush (v := 400) hx hb dX10_writeBytes_11 (by decide) ?_
  refine lv_icmp_ge (tgt := 43) hx hb dX10_writeBytes_14 (by decide) (fun c_2 => ?_) (fun c_2 => ?_)
  · have hG := zthen hG c_2
    refine lv_iinc (v := 16) (lv' := [(2, .int 16), (0, .ref x0), (1, .int p0)]) hx hb dX10_writeBytes_43 hl (k := 0) rfl (by decide) (by decide) rfl (fun ls hl => ?_)
    refine lv_goto (tgt := 3) hx hb dX10_writeBytes_46 (by decide) ?_
    refine lv_iload_n hx hb dX10_writeBytes_3 rfl (lv_at hl 0 rfl) ?_
    refine lv_if_lt (tgt := 49) hx hb dX10_writeBytes_4 (by decide) (fun c_3 => absurd c_3 (by decide)) (fun _ => ?_)
    refine lv_aload_n hx hb dX10_writeBytes_7 rfl (lv_at hl 1 rfl) ?_
    refine va_get (D := (dC, dI)) (ci := 10) (v := .int x_tl) (C := RX10) (T := TX10) (N := 13) hx hb hts iX10_writeBytes_X10 hown hK.1 hP 0 rfl rfl 4 (by decide) (kX10_writeBytes_1 hts) (fun _ h9 => h9) rfl dX10_writeBytes_8 ?_
    refine lv_sipush (v := 400) hx hb dX10_writeBytes_11 (by decide) ?_
    refine lv_icmp_ge (tgt := 43) hx hb dX10_writeBytes_14 (by decide) (fun c_4 => ?_) (fun c_4 => ?_)
    · have hG := zthen hG c_4
      refine lv_iinc (v := 8) (lv' := [(2, .int 8), (0, .ref x0), (1, .int p0)]) hx hb dX10_writeBytes_43 hl (k := 0) rfl (by decide) (by decide) rfl (fun ls hl => ?_)
      refine lv_goto (tgt := 3) hx hb dX10_writeBytes_46 (by decide) ?_
      refine lv_iload_n hx hb dX10_writeBytes_3 rfl (lv_at hl 0 rfl) ?_
      refine lv_if_lt (tgt := 49) hx hb dX10_writeBytes_4 (by decide) (fun c_5 => absurd c_5 (by decide)) (fun _ => ?_)
      refine lv_aload_n hx hb dX10_writeBytes_7 rfl (lv_at hl 1 rfl) ?_
      refine va_get (D := (dC, dI)) (ci := 10) (v := .int x_tl) (C := RX10) (T := TX10) (N := 13) hx hb hts iX10_writeBytes_X10 hown hK.1 hP 0 rfl rfl 4 (by decide) (kX10_writeBytes_1 hts) (fun _ h9 => h9) rfl dX10_writeBytes_8 ?_
      refine lv_sipush (v := 400) hx hb dX10_writeBytes_11 (by decide) ?_
      refine lv_icmp_ge (tgt := 43) hx hb dX10_writeBytes_14 (by decide) (fun c_6 => ?_) (fun c_6 => ?_)
      · have hG := zthen hG c_6
        refine lv_iinc (v := 0) (lv' := [(2, .int 0), (0, .ref x0), (1, .int p0)]) hx hb dX10_writeBytes_43 hl (k := 0) rfl (by decide) (by decide) rfl (fun ls hl => ?_)
        refine lv_goto (tgt := 3) hx hb dX10_writeBytes_46 (by decide) ?_
        refine lv_iload_n hx hb dX10_writeBytes_3 rfl (lv_at hl 0 rfl) ?_
        refine lv_if_lt (tgt := 49) hx hb dX10_writeBytes_4 (by decide) (fun c_7 => absurd c_7 (by decide)) (fun _ => ?_)
        refine lv_aload_n hx hb dX10_writeBytes_7 rfl (lv_at hl 1 rfl) ?_
        refine va_get (D := (dC, dI)) (ci := 10) (v := .int x_tl) (C := RX10) (T := TX10) (N := 13) hx hb hts iX10_writeBytes_X10 hown hK.1 hP 0 rfl rfl 4 (by decide) (kX10_writeBytes_1 hts) (fun _ h9 => h9) rfl dX10_writeBytes_8 ?_
        refine lv_sipush (v := 400) hx hb dX10_writeBytes_11 (by decide) ?_
        refine lv_icmp_ge (tgt := 43) hx hb dX10_writeBytes_14 (by decide) (fun c_8 => ?_) (fun c_8 => ?_)
        · have hG := zthen hG c_8
          refine lv_iinc (v := (-8)) (lv' := [(2, .int (-8)), (0, .ref x0), (1, .int p0)]) hx hb dX10_writeBytes_43 hl (k := 0) rfl (by decide) (by decide) rfl (fun ls hl => ?_)
          refine lv_goto (tgt := 3) hx hb dX10_writeBytes_46 (by decide) ?_
          refine lv_iload_n hx hb dX10_writeBytes_3 rfl (lv_at hl 0 rfl) ?_
          refine lv_if_lt (tgt := 49) hx hb dX10_writeBytes_4 (by decide) (fun _ => ?_) (fun c_9 => absurd (by decide) c_9)
          obtain ⟨hP9, hD9⟩ := z_sb (L' := [(x0, .inr (10, [.ref w0, .ref z0, .ref xi, .ref xt, .int x_tl, .ref xq, .int x_lc, .ref rdr, .ref h0, .ref t0, .ref q0, .ref v0, .ref m0])), (xt, .inl (kA 0, 400, .inl xtF))]) hP hD [0, 1] (by decide) rfl
          refine W.widen (k := 0) (n := 0) (Nat.le_of_ble_eq_true rfl) (Nat.le_of_ble_eq_true rfl) ?_
          exact W.vret hx hb hr (fun t ht hW => ⟨⟨(x_tl, xtF), rfl, ⟨(hG.trans hG0.symm), ntl⟩, by rw [ht]; exact hP9, hD9⟩, hS.F ht⟩) hS.2.2 dX10_writeBytes_49
        · have hG := zelse hG c_8
          refine lv_aload_n hx hb dX10_writeBytes_17 rfl (lv_at hl 1 rfl) ?_
          refine va_get (D := (dC, dI)) (ci := 10) (v := .ref xt) (C := RX10) (T := TX10) (N := 13) hx hb hts iX10_writeBytes_X10 hown hK.1 hP 0 rfl rfl 3 (by decide) (kX10_writeBytes_2 hts) (fun _ h9 => h9) rfl dX10_writeBytes_18 ?_
          refine lv_aload_n hx hb dX10_writeBytes_21 rfl (lv_at hl 1 rfl) ?_
          refine va_get (D := (dC, dI)) (ci := 10) (v := .int x_tl) (C := RX10) (T := TX10) (N := 13) hx hb hts iX10_writeBytes_X10 hown hK.1 hP 0 rfl rfl 4 (by decide) (kX10_writeBytes_1 hts) (fun _ h9 => h9) rfl dX10_writeBytes_22 ?_
          refine lv_iload_n hx hb dX10_writeBytes_25 rfl (lv_at hl 2 rfl) ?_
          refine lv_iload_n hx hb dX10_writeBytes_26 rfl (lv_at hl 0 rfl) ?_
          refine lv_iushr hx hb dX10_writeBytes_27 rfl ?_
          refine lv_topi (fun x10 ex10 => ?_)
          have hG := zbnd hG ex10
          refine lv_sipush (v := 255) hx hb dX10_writeBytes_28 (by decide) ?_
          refine lv_iand hx hb dX10_writeBytes_31 ?_
          refine va_iast hx hb hK.1 hP hD hS 1 0 rfl rfl (vp_lt (by decide) ntl c_8) dX10_writeBytes_32 (fun H locs hP hD hS => ?_)
          obtain ⟨hP, hD⟩ := z_re (L := [(x0, .inr (10, [.ref w0, .ref z0, .ref xi, .ref xt, .int x_tl, .ref xq, .int x_lc, .ref rdr, .ref h0, .ref t0, .ref q0, .ref v0, .ref m0])), (xt, .inl (kA 0, 400, .inl (upd xtF x_tl.toNatClampNeg (x10 &&& 255))))]) hP hD
          obtain ⟨f11, ef11⟩ : ∃ y : Nat → Int32, y = (upd xtF x_tl.toNatClampNeg (x10 &&& 255)) := ⟨_, rfl⟩
          rw [← ef11] at hP hD
          have hG := zbnd hG ef11
          refine lv_aload_n hx hb dX10_writeBytes_33 rfl (lv_at hl 1 rfl) ?_
          refine lv_dup hx hb dX10_writeBytes_34 rfl ?_
          refine va_get (D := (dC, dI)) (ci := 10) (v := .int x_tl) (C := RX10) (T := TX10) (N := 13) hx hb hts iX10_writeBytes_X10 hown hK.1 hP 0 rfl rfl 4 (by decide) (kX10_writeBytes_1 hts) (fun _ h9 => h9) rfl dX10_writeBytes_35 ?_
          refine lv_iconst (v := 1) hx hb dX10_writeBytes_38 (by decide) ?_
          refine lv_iadd hx hb dX10_writeBytes_39 ?_
          refine lv_topi (fun x12 ex12 => ?_)
          have hG := zbnd hG ex12
          refine va_put (D := (dC, dI)) (ci := 10) (v := .int x12) (ty := .int) (C := RX10) (T := TX10) (N := 13) hx hb hts iX10_writeBytes_X10 tyX10 tyX10_ok nmX10 hown hK.1 hP hD hS 0 rfl rfl 4 (by decide) (kX10_writeBytes_1 hts) (fun _ h9 => h9) rfl (by decide +kernel) rfl rfl (Nat.le_of_ble_eq_true rfl) dX10_writeBytes_40 (fun H locs hP hD hS => ?_)
          obtain ⟨hP, hD⟩ := z_re (L := [(x0, .inr (10, [.ref w0, .ref z0, .ref xi, .ref xt, .int x12, .ref xq, .int x_lc, .ref rdr, .ref h0, .ref t0, .ref q0, .ref v0, .ref m0])), (xt, .inl (kA 0, 400, .inl f11))]) hP hD
          refine lv_iinc (v := (-8)) (lv' := [(2, .int (-8)), (0, .ref x0), (1, .int p0)]) hx hb dX10_writeBytes_43 hl (k := 0) rfl (by decide) (by decide) rfl (fun ls hl => ?_)
          refine lv_goto (tgt := 3) hx hb dX10_writeBytes_46 (by decide) ?_
          refine lv_iload_n hx hb dX10_writeBytes_3 rfl (lv_at hl 0 rfl) ?_
          refine lv_if_lt (tgt := 49) hx hb dX10_writeBytes_4 (by decide) (fun _ => ?_) (fun c_13 => absurd (by decide) c_13)
          obtain ⟨hP9, hD9⟩ := z_sb (L' := [(x0, .inr (10, [.ref w0, .ref z0, .ref xi, .ref xt, .int x12, .ref xq, .int x_lc, .ref rdr, .ref h0, .ref t0, .ref q0, .ref v0, .ref m0])), (xt, .inl (kA 0, 400, .inl f11))]) hP hD [0, 1] (by decide) rfl
          refine W.widen (k := 0) (n := 0) (Nat.le_of_ble_eq_true rfl) (Nat.le_of_ble_eq_true rfl) ?_
          exact W.vret hx hb hr (fun t ht hW => ⟨⟨(x12, f11), rfl, ⟨(hG.trans hG0.symm), (z_nn ex12 c_8 ntl)⟩, by rw [ht]; exact hP9, hD9⟩, hS.F ht⟩) hS.2.2 dX10_writeBytes_49
      · have hG := zelse hG c_6
        refine lv_aload_n hx hb dX10_writeBytes_17 rfl (lv_at hl 1 rfl) ?_
        refine va_get (D := (dC, dI)) (ci := 10) (v := .ref xt) (C := RX10) (T := TX10) (N := 13) hx hb hts iX10_writeBytes_X10 hown hK.1 hP 0 rfl rfl 3 (by decide) (kX10_writeBytes_2 hts) (fun _ h9 => h9) rfl dX10_writeBytes_18 ?_
        refine lv_aload_n hx hb dX10_writeBytes_21 rfl (lv_at hl 1 rfl) ?_
        refine va_get (D := (dC, dI)) (ci := 10) (v := .int x_tl) (C := RX10) (T := TX10) (N := 13) hx hb hts iX10_writeBytes_X10 hown hK.1 hP 0 rfl rfl 4 (by decide) (kX10_writeBytes_1 hts) (fun _ h9 => h9) rfl dX10_writeBytes_22 ?_
        refine lv_iload_n hx hb dX10_writeBytes_25 rfl (lv_at hl 2 rfl) ?_
        refine lv_iload_n hx hb dX10_writeBytes_26 rfl (lv_at hl 0 rfl) ?_
        refine lv_iushr hx hb dX10_writeBytes_27 rfl ?_
        refine lv_topi (fun x14 ex14 => ?_)
        have hG := zbnd hG ex14
        refine lv_sipush (v := 255) hx hb dX10_writeBytes_28 (by decide) ?_
        refine lv_iand hx hb dX10_writeBytes_31 ?_
        refine va_iast hx hb hK.1 hP hD hS 1 0 rfl rfl (vp_lt (by decide) ntl c_6) dX10_writeBytes_32 (fun H locs hP hD hS => ?_)
        obtain ⟨hP, hD⟩ := z_re (L := [(x0, .inr (10, [.ref w0, .ref z0, .ref xi, .ref xt, .int x_tl, .ref xq, .int x_lc, .ref rdr, .ref h0, .ref t0, .ref q0, .ref v0, .ref m0])), (xt, .inl (kA 0, 400, .inl (upd xtF x_tl.toNatClampNeg (x14 &&& 255))))]) hP hD
        obtain ⟨f15, ef15⟩ : ∃ y : Nat → Int32, y = (upd xtF x_tl.toNatClampNeg (x14 &&& 255)) := ⟨_, rfl⟩
        rw [← ef15] at hP hD
        have hG := zbnd hG ef15
        refine lv_aload_n hx hb dX10_writeBytes_33 rfl (lv_at hl 1 rfl) ?_
        refine lv_dup hx hb dX10_writeBytes_34 rfl ?_
        refine va_get (D := (dC, dI)) (ci := 10) (v := .int x_tl) (C := RX10) (T := TX10) (N := 13) hx hb hts iX10_writeBytes_X10 hown hK.1 hP 0 rfl rfl 4 (by decide) (kX10_writeBytes_1 hts) (fun _ h9 => h9) rfl dX10_writeBytes_35 ?_
        refine lv_iconst (v := 1) hx hb dX10_writeBytes_38 (by decide) ?_
        refine lv_iadd hx hb dX10_writeBytes_39 ?_
        refine lv_topi (fun x16 ex16 => ?_)
        have hG := zbnd hG ex16
        refine va_put (D := (dC, dI)) (ci := 10) (v := .int x16) (ty := .int) (C := RX10) (T := TX10) (N := 13) hx hb hts iX10_writeBytes_X10 tyX10 tyX10_ok nmX10 hown hK.1 hP hD hS 0 rfl rfl 4 (by decide) (kX10_writeBytes_1 hts) (fun _ h9 => h9) rfl (by decide +kernel) rfl rfl (Nat.le_of_ble_eq_true rfl) dX10_writeBytes_40 (fun H locs hP hD hS => ?_)
        obtain ⟨hP, hD⟩ := z_re (L := [(x0, .inr (10, [.ref w0, .ref z0, .ref xi, .ref xt, .int x16, .ref xq, .int x_lc, .ref rdr, .ref h0, .ref t0, .ref q0, .ref v0, .ref m0])), (xt, .inl (kA 0, 400, .inl f15))]) hP hD
        refine lv_iinc (v := 0) (lv' := [(2, .int 0), (0, .ref x0), (1, .int p0)]) hx hb dX10_writeBytes_43 hl (k := 0) rfl (by decide) (by decide) rfl (fun ls hl => ?_)
        refine lv_goto (tgt := 3) hx hb dX10_writeBytes_46 (by decide) ?_
        refine lv_iload_n hx hb dX10_writeBytes_3 rfl (lv_at hl 0 rfl) ?_
        refine lv_if_lt (tgt := 49) hx hb dX10_writeBytes_4 (by decide) (fun c_17 => absurd c_17 (by decide)) (fun _ => ?_)
        refine lv_aload_n hx hb dX10_writeBytes_7 rfl (lv_at hl 1 rfl) ?_
        refine va_get (D := (dC, dI)) (ci := 10) (v := .int x16) (C := RX10) (T := TX10) (N := 13) hx hb hts iX10_writeBytes_X10 hown hK.1 hP 0 rfl rfl 4 (by decide) (kX10_writeBytes_1 hts) (fun _ h9 => h9) rfl dX10_writeBytes_8 ?_
        refine lv_sipush (v := 400) hx hb dX10_writeBytes_11 (by decide) ?_
        refine lv_icmp_ge (tgt := 43) hx hb dX10_writeBytes_14 (by decide) (fun c_18 => ?_) (fun c_18 => ?_)
        · have hG := zthen hG c_18
          refine lv_iinc (v := (-8)) (lv' := [(2, .int (-8)), (0, .ref x0), (1, .int p0)]) hx hb dX10_writeBytes_43 hl (k := 0) rfl (by decide) (by decide) rfl (fun ls hl => ?_)
          refine lv_goto (tgt := 3) hx hb dX10_writeBytes_46 (by decide) ?_
          refine lv_iload_n hx hb dX10_writeBytes_3 rfl (lv_at hl 0 rfl) ?_
          refine lv_if_lt (tgt := 49) hx hb dX10_writeBytes_4 (by decide) (fun _ => ?_) (fun c_19 => absurd (by decide) c_19)
          obtain ⟨hP9, hD9⟩ := z_sb (L' := [(x0, .inr (10, [.ref w0, .ref z0, .ref xi, .ref xt, .int x16, .ref xq, .int x_lc, .ref rdr, .ref h0, .ref t0, .ref q0, .ref v0, .ref m0])), (xt, .inl (kA 0, 400, .inl f15))]) hP hD [0, 1] (by decide) rfl
          refine W.widen (k := 0) (n := 0) (Nat.le_of_ble_eq_true rfl) (Nat.le_of_ble_eq_true rfl) ?_
          exact W.vret hx hb hr (fun t ht hW => ⟨⟨(x16, f15), rfl, ⟨(hG.trans hG0.symm), (z_nn ex16 c_6 ntl)⟩, by rw [ht]; exact hP9, hD9⟩, hS.F ht⟩) hS.2.2 dX10_writeBytes_49
        · have hG := zelse hG c_18
          refine lv_aload_n hx hb dX10_writeBytes_17 rfl (lv_at hl 1 rfl) ?_
          refine va_get (D := (dC, dI)) (ci := 10) (v := .ref xt) (C := RX10) (T := TX10) (N := 13) hx hb hts iX10_writeBytes_X10 hown hK.1 hP 0 rfl rfl 3 (by decide) (kX10_writeBytes_2 hts) (fun _ h9 => h9) rfl dX10_writeBytes_18 ?_
          refine lv_aload_n hx hb dX10_writeBytes_21 rfl (lv_at hl 1 rfl) ?_
          refine va_get (D := (dC, dI)) (ci := 10) (v := .int x16) (C := RX10) (T := TX10) (N := 13) hx hb hts iX10_writeBytes_X10 hown hK.1 hP 0 rfl rfl 4 (by decide) (kX10_writeBytes_1 hts) (fun _ h9 => h9) rfl dX10_writeBytes_22 ?_
          refine lv_iload_n hx hb dX10_writeBytes_25 rfl (lv_at hl 2 rfl) ?_
          refine lv_iload_n hx hb dX10_writeBytes_26 rfl (lv_at hl 0 rfl) ?_
          refine lv_iushr hx hb dX10_writeBytes_27 rfl ?_
          refine lv_topi (fun x20 ex20 => ?_)
          have hG := zbnd hG ex20
          refine lv_sipush (v := 255) hx hb dX10_writeBytes_28 (by decide) ?_
          refine lv_iand hx hb dX10_writeBytes_31 ?_
          refine va_iast hx hb hK.1 hP hD hS 1 0 rfl rfl (vp_lt (by decide) (z_nn ex16 c_6 ntl) c_18) dX10_writeBytes_32 (fun H locs hP hD hS => ?_)
          obtain ⟨hP, hD⟩ := z_re (L := [(x0, .inr (10, [.ref w0, .ref z0, .ref xi, .ref xt, .int x16, .ref xq, .int x_lc, .ref rdr, .ref h0, .ref t0, .ref q0, .ref v0, .ref m0])), (xt, .inl (kA 0, 400, .inl (upd f15 x16.toNatClampNeg (x20 &&& 255))))]) hP hD
          obtain ⟨f21, ef21⟩ : ∃ y : Nat → Int32, y = (upd f15 x16.toNatClampNeg (x20 &&& 255)) := ⟨_, rfl⟩
          rw [← ef21] at hP hD
          have hG := zbnd hG ef21
          refine lv_aload_n hx hb dX10_writeBytes_33 rfl (lv_at hl 1 rfl) ?_
          refine lv_dup hx hb dX10_writeBytes_34 rfl ?_
          refine va_get (D := (dC, dI)) (ci := 10) (v := .int x16) (C := RX10) (T := TX10) (N := 13) hx hb hts iX10_writeBytes_X10 hown hK.1 hP 0 rfl rfl 4 (by decide) (kX10_writeBytes_1 hts) (fun _ h9 => h9) rfl dX10_writeBytes_35 ?_
          refine lv_iconst (v := 1) hx hb dX10_writeBytes_38 (by decide) ?_
          refine lv_iadd hx hb dX10_writeBytes_39 ?_
          refine lv_topi (fun x22 ex22 => ?_)
          have hG := zbnd hG ex22
          refine va_put (D := (dC, dI)) (ci := 10) (v := .int x22) (ty := .int) (C := RX10) (T := TX10) (N := 13) hx hb hts iX10_writeBytes_X10 tyX10 tyX10_ok nmX10 hown hK.1 hP hD hS 0 rfl rfl 4 (by decide) (kX10_writeBytes_1 hts) (fun _ h9 => h9) rfl (by decide +kernel) rfl rfl (Nat.le_of_ble_eq_true rfl) dX10_writeBytes_40 (fun H locs hP hD hS => ?_)
          obtain ⟨hP, hD⟩ := z_re (L := [(x0, .inr (10, [.ref w0, .ref z0, .ref xi, .ref xt, .int x22, .ref xq, .int x_lc, .ref rdr, .ref h0, .ref t0, .ref q0, .ref v0, .ref m0])), (xt, .inl (kA 0, 400, .inl f21))]) hP hD
          refine lv_iinc (v := (-8)) (lv' := [(2, .int (-8)), (0, .ref x0), (1, .int p0)]) hx hb dX10_writeBytes_43 hl (k := 0) rfl (by decide) (by decide) rfl (fun ls hl => ?_)
          refine lv_goto (tgt := 3) hx hb dX10_writeBytes_46 (by decide) ?_
          refine lv_iload_n hx hb dX10_writeBytes_3 rfl (lv_at hl 0 rfl) ?_
          refine lv_if_lt (tgt := 49) hx hb dX10_writeBytes_4 (by decide) (fun _ => ?_) (fun c_23 => absurd (by decide) c_23)
          obtain ⟨hP9, hD9⟩ := z_sb (L' := [(x0, .inr (10, [.ref w0, .ref z0, .ref xi, .ref xt, .int x22, .ref xq, .int x_lc, .ref rdr, .ref h0, .ref t0, .ref q0, .ref v0, .ref m0])), (xt, .inl (kA 0, 400, .inl f21))]) hP hD [0, 1] (by decide) rfl
          refine W.widen (k := 0) (n := 0) (Nat.le_of_ble_eq_true rfl) (Nat.le_of_ble_eq_true rfl) ?_
          exact W.vret hx hb hr (fun t ht hW => ⟨⟨(x22, f21), rfl, ⟨(hG.trans hG0.symm), (z_nn ex22 c_18 (z_nn ex16 c_6 ntl))⟩, by rw [ht]; exact hP9, hD9⟩, hS.F ht⟩) hS.2.2 dX10_writeBytes_49
    · have hG := zelse hG c_4
      refine lv_aload_n hx hb dX10_writeBytes_17 rfl (lv_at hl 1 rfl) ?_
      refine va_get (D := (dC, dI)) (ci := 10) (v := .ref xt) (C := RX10) (T := TX10) (N := 13) hx hb hts iX10_writeBytes_X10 hown hK.1 hP 0 rfl rfl 3 (by decide) (kX10_writeBytes_2 hts) (fun _ h9 => h9) rfl dX10_writeBytes_18 ?_
      refine lv_aload_n hx hb dX10_writeBytes_21 rfl (lv_at hl 1 rfl) ?_
      refine va_get (D := (dC, dI)) (ci := 10) (v := .int x_tl) (C := RX10) (T := TX10) (N := 13) hx hb hts iX10_writeBytes_X10 hown hK.1 hP 0 rfl rfl 4 (by decide) (kX10_writeBytes_1 hts) (fun _ h9 => h9) rfl dX10_writeBytes_22 ?_
      refine lv_iload_n hx hb dX10_writeBytes_25 rfl (lv_at hl 2 rfl) ?_
      refine lv_iload_n hx hb dX10_writeBytes_26 rfl (lv_at hl 0 rfl) ?_
      refine lv_iushr hx hb dX10_writeBytes_27 rfl ?_
      refine lv_topi (fun x24 ex24 => ?_)
      have hG := zbnd hG ex24
      refine lv_sipush (v := 255) hx hb dX10_writeBytes_28 (by decide) ?_
      refine lv_iand hx hb dX10_writeBytes_31 ?_
      refine va_iast hx hb hK.1 hP hD hS 1 0 rfl rfl (vp_lt (by decide) ntl c_4) dX10_writeBytes_32 (fun H locs hP hD hS => ?_)
      obtain ⟨hP, hD⟩ := z_re (L := [(x0, .inr (10, [.ref w0, .ref z0, .ref xi, .ref xt, .int x_tl, .ref xq, .int x_lc, .ref rdr, .ref h0, .ref t0, .ref q0, .ref v0, .ref m0])), (xt, .inl (kA 0, 400, .inl (upd xtF x_tl.toNatClampNeg (x24 &&& 255))))]) hP hD
      obtain ⟨f25, ef25⟩ : ∃ y : Nat → Int32, y = (upd xtF x_tl.toNatClampNeg (x24 &&& 255)) := ⟨_, rfl⟩
      rw [← ef25] at hP hD
      have hG := zbnd hG ef25
      refine lv_aload_n hx hb dX10_writeBytes_33 rfl (lv_at hl 1 rfl) ?_
      refine lv_dup hx hb dX10_writeBytes_34 rfl ?_
      refine va_get (D := (dC, dI)) (ci := 10) (v := .int x_tl) (C := RX10) (T := TX10) (N := 13) hx hb hts iX10_writeBytes_X10 hown hK.1 hP 0 rfl rfl 4 (by decide) (kX10_writeBytes_1 hts) (fun _ h9 => h9) rfl dX10_writeBytes_35 ?_
      refine lv_iconst (v := 1) hx hb dX10_writeBytes_38 (by decide) ?_
      refine lv_iadd hx hb dX10_writeBytes_39 ?_
      refine lv_topi (fun x26 ex26 => ?_)
      have hG := zbnd hG ex26
      refine va_put (D := (dC, dI)) (ci := 10) (v := .int x26) (ty := .int) (C := RX10) (T := TX10) (N := 13) hx hb hts iX10_writeBytes_X10 tyX10 tyX10_ok nmX10 hown hK.1 hP hD hS 0 rfl rfl 4 (by decide) (kX10_writeBytes_1 hts) (fun _ h9 => h9) rfl (by decide +kernel) rfl rfl (Nat.le_of_ble_eq_true rfl) dX10_writeBytes_40 (fun H locs hP hD hS => ?_)
      obtain ⟨hP, hD⟩ := z_re (L := [(x0, .inr (10, [.ref w0, .ref z0, .ref xi, .ref xt, .int x26, .ref xq, .int x_lc, .ref rdr, .ref h0, .ref t0, .ref q0, .ref v0, .ref m0])), (xt, .inl (kA 0, 400, .inl f25))]) hP hD
      refine lv_iinc (v := 8) (lv' := [(2, .int 8), (0, .ref x0), (1, .int p0)]) hx hb dX10_writeBytes_43 hl (k := 0) rfl (by decide) (by decide) rfl (fun ls hl => ?_)
      refine lv_goto (tgt := 3) hx hb dX10_writeBytes_46 (by decide) ?_
      refine lv_iload_n hx hb dX10_writeBytes_3 rfl (lv_at hl 0 rfl) ?_
      refine lv_if_lt (tgt := 49) hx hb dX10_writeBytes_4 (by decide) (fun c_27 => absurd c_27 (by decide)) (fun _ => ?_)
      refine lv_aload_n hx hb dX10_writeBytes_7 rfl (lv_at hl 1 rfl) ?_
      refine va_get (D := (dC, dI)) (ci := 10) (v := .int x26) (C := RX10) (T := TX10) (N := 13) hx hb hts iX10_writeBytes_X10 hown hK.1 hP 0 rfl rfl 4 (by decide) (kX10_writeBytes_1 hts) (fun _ h9 => h9) rfl dX10_writeBytes_8 ?_
      refine lv_sipush (v := 400) hx hb dX10_writeBytes_11 (by decide) ?_
      refine lv_icmp_ge (tgt := 43) hx hb dX10_writeBytes_14 (by decide) (fun c_28 => ?_) (fun c_28 => ?_)
      · have hG := zthen hG c_28
        refine lv_iinc (v := 0) (lv' := [(2, .int 0), (0, .ref x0), (1, .int p0)]) hx hb dX10_writeBytes_43 hl (k := 0) rfl (by decide) (by decide) rfl (fun ls hl => ?_)
        refine lv_goto (tgt := 3) hx hb dX10_writeBytes_46 (by decide) ?_
        refine lv_iload_n hx hb dX10_writeBytes_3 rfl (lv_at hl 0 rfl) ?_
        refine lv_if_lt (tgt := 49) hx hb dX10_writeBytes_4 (by decide) (fun c_29 => absurd c_29 (by decide)) (fun _ => ?_)
        refine lv_aload_n hx hb dX10_writeBytes_7 rfl (lv_at hl 1 rfl) ?_
        refine va_get (D := (dC, dI)) (ci := 10) (v := .int x26) (C := RX10) (T := TX10) (N := 13) hx hb hts iX10_writeBytes_X10 hown hK.1 hP 0 rfl rfl 4 (by decide) (kX10_writeBytes_1 hts) (fun _ h9 => h9) rfl dX10_writeBytes_8 ?_
        refine lv_sipush (v := 400) hx hb dX10_writeBytes_11 (by decide) ?_
        refine lv_icmp_ge (tgt := 43) hx hb dX10_writeBytes_14 (by decide) (fun c_30 => ?_) (fun c_30 => ?_)
        · have hG := zthen hG c_30
          refine lv_iinc (v := (-8)) (lv' := [(2, .int (-8)), (0, .ref x0), (1, .int p0)]) hx hb dX10_writeBytes_43 hl (k := 0) rfl (by decide) (by decide) rfl (fun ls hl => ?_)
          refine lv_goto (tgt := 3) hx hb dX10_writeBytes_46 (by decide) ?_
          refine lv_iload_n hx hb dX10_writeBytes_3 rfl (lv_at hl 0 rfl) ?_
          refine lv_if_lt (tgt := 49) hx hb dX10_writeBytes_4 (by decide) (fun _ => ?_) (fun c_31 => absurd (by decide) c_31)
          obtain ⟨hP9, hD9⟩ := z_sb (L' := [(x0, .inr (10, [.ref w0, .ref z0, .ref xi, .ref xt, .int x26, .ref xq, .int x_lc, .ref rdr, .ref h0, .ref t0, .ref q0, .ref v0, .ref m0])), (xt, .inl (kA 0, 400, .inl f25))]) hP hD [0, 1] (by decide) rfl
          refine W.widen (k := 0) (n := 0) (Nat.le_of_ble_eq_true rfl) (Nat.le_of_ble_eq_true rfl) ?_
          exact W.vret hx hb hr (fun t ht hW => ⟨⟨(x26, f25), rfl, ⟨(hG.trans hG0.symm), (z_nn ex26 c_4 ntl)⟩, by rw [ht]; exact hP9, hD9⟩, hS.F ht⟩) hS.2.2 dX10_writeBytes_49
        · have hG := zelse hG c_30
          refine lv_aload_n hx hb dX10_writeBytes_17 rfl (lv_at hl 1 rfl) ?_
          refine va_get (D := (dC, dI)) (ci := 10) (v := .ref xt) (C := RX10) (T := TX10) (N := 13) hx hb hts iX10_writeBytes_X10 hown hK.1 hP 0 rfl rfl 3 (by decide) (kX10_writeBytes_2 hts) (fun _ h9 => h9) rfl dX10_writeBytes_18 ?_
          refine lv_aload_n hx hb dX10_writeBytes_21 rfl (lv_at hl 1 rfl) ?_
          refine va_get (D := (dC, dI)) (ci := 10) (v := .int x26) (C := RX10) (T := TX10) (N := 13) hx hb hts iX10_writeBytes_X10 hown hK.1 hP 0 rfl rfl 4 (by decide) (kX10_writeBytes_1 hts) (fun _ h9 => h9) rfl dX10_writeBytes_22 ?_
          refine lv_iload_n hx hb dX10_writeBytes_25 rfl (lv_at hl 2 rfl) ?_
          refine lv_iload_n hx hb dX10_writeBytes_26 rfl (lv_at hl 0 rfl) ?_
          refine lv_iushr hx hb dX10_writeBytes_27 rfl ?_
          refine lv_topi (fun x32 ex32 => ?_)
          have hG := zbnd hG ex32
          refine lv_sipush (v := 255) hx hb dX10_writeBytes_28 (by decide) ?_
          refine lv_iand hx hb dX10_writeBytes_31 ?_
          refine va_iast hx hb hK.1 hP hD hS 1 0 rfl rfl (vp_lt (by decide) (z_nn ex26 c_4 ntl) c_30) dX10_writeBytes_32 (fun H locs hP hD hS => ?_)
          obtain ⟨hP, hD⟩ := z_re (L := [(x0, .inr (10, [.ref w0, .ref z0, .ref xi, .ref xt, .int x26, .ref xq, .int x_lc, .ref rdr, .ref h0, .ref t0, .ref q0, .ref v0, .ref m0])), (xt, .inl (kA 0, 400, .inl (upd f25 x26.toNatClampNeg (x32 &&& 255))))]) hP hD
          obtain ⟨f33, ef33⟩ : ∃ y : Nat → Int32, y = (upd f25 x26.toNatClampNeg (x32 &&& 255)) := ⟨_, rfl⟩
          rw [← ef33] at hP hD
          have hG := zbnd hG ef33
          refine lv_aload_n hx hb dX10_writeBytes_33 rfl (lv_at hl 1 rfl) ?_
          refine lv_dup hx hb dX10_writeBytes_34 rfl ?_
          refine va_get (D := (dC, dI)) (ci := 10) (v := .int x26) (C := RX10) (T := TX10) (N := 13) hx hb hts iX10_writeBytes_X10 hown hK.1 hP 0 rfl rfl 4 (by decide) (kX10_writeBytes_1 hts) (fun _ h9 => h9) rfl dX10_writeBytes_35 ?_
          refine lv_iconst (v := 1) hx hb dX10_writeBytes_38 (by decide) ?_
          refine lv_iadd hx hb dX10_writeBytes_39 ?_
          refine lv_topi (fun x34 ex34 => ?_)
          have hG := zbnd hG ex34
          refine va_put (D := (dC, dI)) (ci := 10) (v := .int x34) (ty := .int) (C := RX10) (T := TX10) (N := 13) hx hb hts iX10_writeBytes_X10 tyX10 tyX10_ok nmX10 hown hK.1 hP hD hS 0 rfl rfl 4 (by decide) (kX10_writeBytes_1 hts) (fun _ h9 => h9) rfl (by decide +kernel) rfl rfl (Nat.le_of_ble_eq_true rfl) dX10_writeBytes_40 (fun H locs hP hD hS => ?_)
          obtain ⟨hP, hD⟩ := z_re (L := [(x0, .inr (10, [.ref w0, .ref z0, .ref xi, .ref xt, .int x34, .ref xq, .int x_lc, .ref rdr, .ref h0, .ref t0, .ref q0, .ref v0, .ref m0])), (xt, .inl (kA 0, 400, .inl f33))]) hP hD
          refine lv_iinc (v := (-8)) (lv' := [(2, .int (-8)), (0, .ref x0), (1, .int p0)]) hx hb dX10_writeBytes_43 hl (k := 0) rfl (by decide) (by decide) rfl (fun ls hl => ?_)
          refine lv_goto (tgt := 3) hx hb dX10_writeBytes_46 (by decide) ?_
          refine lv_iload_n hx hb dX10_writeBytes_3 rfl (lv_at hl 0 rfl) ?_
          refine lv_if_lt (tgt := 49) hx hb dX10_writeBytes_4 (by decide) (fun _ => ?_) (fun c_35 => absurd (by decide) c_35)
          obtain ⟨hP9, hD9⟩ := z_sb (L' := [(x0, .inr (10, [.ref w0, .ref z0, .ref xi, .ref xt, .int x34, .ref xq, .int x_lc, .ref rdr, .ref h0, .ref t0, .ref q0, .ref v0, .ref m0])), (xt, .inl (kA 0, 400, .inl f33))]) hP hD [0, 1] (by decide) rfl
          refine W.widen (k := 0) (n := 0) (Nat.le_of_ble_eq_true rfl) (Nat.le_of_ble_eq_true rfl) ?_
          exact W.vret hx hb hr (fun t ht hW => ⟨⟨(x34, f33), rfl, ⟨(hG.trans hG0.symm), (z_nn ex34 c_30 (z_nn ex26 c_4 ntl))⟩, by rw [ht]; exact hP9, hD9⟩, hS.F ht⟩) hS.2.2 dX10_writeBytes_49
      · have hG := zelse hG c_28
        refine lv_aload_n hx hb dX10_writeBytes_17 rfl (lv_at hl 1 rfl) ?_
        refine va_get (D := (dC, dI)) (ci := 10) (v := .ref xt) (C := RX10) (T := TX10) (N := 13) hx hb hts iX10_writeBytes_X10 hown hK.1 hP 0 rfl rfl 3 (by decide) (kX10_writeBytes_2 hts) (fun _ h9 => h9) rfl dX10_writeBytes_18 ?_
        refine lv_aload_n hx hb dX10_writeBytes_21 rfl (lv_at hl 1 rfl) ?_
        refine va_get (D := (dC, dI)) (ci := 10) (v := .int x26) (C := RX10) (T := TX10) (N := 13) hx hb hts iX10_writeBytes_X10 hown hK.1 hP 0 rfl rfl 4 (by decide) (kX10_writeBytes_1 hts) (fun _ h9 => h9) rfl dX10_writeBytes_22 ?_
        refine lv_iload_n hx hb dX10_writeBytes_25 rfl (lv_at hl 2 rfl) ?_
        refine lv_iload_n hx hb dX10_writeBytes_26 rfl (lv_at hl 0 rfl) ?_
        refine lv_iushr hx hb dX10_writeBytes_27 rfl ?_
        refine lv_topi (fun x36 ex36 => ?_)
        have hG := zbnd hG ex36
        refine lv_sipush (v := 255) hx hb dX10_writeBytes_28 (by decide) ?_
        refine lv_iand hx hb dX10_writeBytes_31 ?_
        refine va_iast hx hb hK.1 hP hD hS 1 0 rfl rfl (vp_lt (by decide) (z_nn ex26 c_4 ntl) c_28) dX10_writeBytes_32 (fun H locs hP hD hS => ?_)
        obtain ⟨hP, hD⟩ := z_re (L := [(x0, .inr (10, [.ref w0, .ref z0, .ref xi, .ref xt, .int x26, .ref xq, .int x_lc, .ref rdr, .ref h0, .ref t0, .ref q0, .ref v0, .ref m0])), (xt, .inl (kA 0, 400, .inl (upd f25 x26.toNatClampNeg (x36 &&& 255))))]) hP hD
        obtain ⟨f37, ef37⟩ : ∃ y : Nat → Int32, y = (upd f25 x26.toNatClampNeg (x36 &&& 255)) := ⟨_, rfl⟩
        rw [← ef37] at hP hD
        have hG := zbnd hG ef37
        refine lv_aload_n hx hb dX10_writeBytes_33 rfl (lv_at hl 1 rfl) ?_
        refine lv_dup hx hb dX10_writeBytes_34 rfl ?_
        refine va_get (D := (dC, dI)) (ci := 10) (v := .int x26) (C := RX10) (T := TX10) (N := 13) hx hb hts iX10_writeBytes_X10 hown hK.1 hP 0 rfl rfl 4 (by decide) (kX10_writeBytes_1 hts) (fun _ h9 => h9) rfl dX10_writeBytes_35 ?_
        refine lv_iconst (v := 1) hx hb dX10_writeBytes_38 (by decide) ?_
        refine lv_iadd hx hb dX10_writeBytes_39 ?_
        refine lv_topi (fun x38 ex38 => ?_)
        have hG := zbnd hG ex38
        refine va_put (D := (dC, dI)) (ci := 10) (v := .int x38) (ty := .int) (C := RX10) (T := TX10) (N := 13) hx hb hts iX10_writeBytes_X10 tyX10 tyX10_ok nmX10 hown hK.1 hP hD hS 0 rfl rfl 4 (by decide) (kX10_writeBytes_1 hts) (fun _ h9 => h9) rfl (by decide +kernel) rfl rfl (Nat.le_of_ble_eq_true rfl) dX10_writeBytes_40 (fun H locs hP hD hS => ?_)
        obtain ⟨hP, hD⟩ := z_re (L := [(x0, .inr (10, [.ref w0, .ref z0, .ref xi, .ref xt, .int x38, .ref xq, .int x_lc, .ref rdr, .ref h0, .ref t0, .ref q0, .ref v0, .ref m0])), (xt, .inl (kA 0, 400, .inl f37))]) hP hD
        refine lv_iinc (v := 0) (lv' := [(2, .int 0), (0, .ref x0), (1, .int p0)]) hx hb dX10_writeBytes_43 hl (k := 0) rfl (by decide) (by decide) rfl (fun ls hl => ?_)
        refine lv_goto (tgt := 3) hx hb dX10_writeBytes_46 (by decide) ?_
        refine lv_iload_n hx hb dX10_writeBytes_3 rfl (lv_at hl 0 rfl) ?_
        refine lv_if_lt (tgt := 49) hx hb dX10_writeBytes_4 (by decide) (fun c_39 => absurd c_39 (by decide)) (fun _ => ?_)
        refine lv_aload_n hx hb dX10_writeBytes_7 rfl (lv_at hl 1 rfl) ?_
        refine va_get (D := (dC, dI)) (ci := 10) (v := .int x38) (C := RX10) (T := TX10) (N := 13) hx hb hts iX10_writeBytes_X10 hown hK.1 hP 0 rfl rfl 4 (by decide) (kX10_writeBytes_1 hts) (fun _ h9 => h9) rfl dX10_writeBytes_8 ?_
        refine lv_sipush (v := 400) hx hb dX10_writeBytes_11 (by decide) ?_
        refine lv_icmp_ge (tgt := 43) hx hb dX10_writeBytes_14 (by decide) (fun c_40 => ?_) (fun c_40 => ?_)
        · have hG := zthen hG c_40
          refine lv_iinc (v := (-8)) (lv' := [(2, .int (-8)), (0, .ref x0), (1, .int p0)]) hx hb dX10_writeBytes_43 hl (k := 0) rfl (by decide) (by decide) rfl (fun ls hl => ?_)
          refine lv_goto (tgt := 3) hx hb dX10_writeBytes_46 (by decide) ?_
          refine lv_iload_n hx hb dX10_writeBytes_3 rfl (lv_at hl 0 rfl) ?_
          refine lv_if_lt (tgt := 49) hx hb dX10_writeBytes_4 (by decide) (fun _ => ?_) (fun c_41 => absurd (by decide) c_41)
          obtain ⟨hP9, hD9⟩ := z_sb (L' := [(x0, .inr (10, [.ref w0, .ref z0, .ref xi, .ref xt, .int x38, .ref xq, .int x_lc, .ref rdr, .ref h0, .ref t0, .ref q0, .ref v0, .ref m0])), (xt, .inl (kA 0, 400, .inl f37))]) hP hD [0, 1] (by decide) rfl
          refine W.widen (k := 0) (n := 0) (Nat.le_of_ble_eq_true rfl) (Nat.le_of_ble_eq_true rfl) ?_
          exact W.vret hx hb hr (fun t ht hW => ⟨⟨(x38, f37), rfl, ⟨(hG.trans hG0.symm), (z_nn ex38 c_28 (z_nn ex26 c_4 ntl))⟩, by rw [ht]; exact hP9, hD9⟩, hS.F ht⟩) hS.2.2 dX10_writeBytes_49
        · have hG := zelse hG c_40
          refine lv_aload_n hx hb dX10_writeBytes_17 rfl (lv_at hl 1 rfl) ?_
          refine va_get (D := (dC, dI)) (ci := 10) (v := .ref xt) (C := RX10) (T := TX10) (N := 13) hx hb hts iX10_writeBytes_X10 hown hK.1 hP 0 rfl rfl 3 (by decide) (kX10_writeBytes_2 hts) (fun _ h9 => h9) rfl dX10_writeBytes_18 ?_
          refine lv_aload_n hx hb dX10_writeBytes_21 rfl (lv_at hl 1 rfl) ?_
          refine va_get (D := (dC, dI)) (ci := 10) (v := .int x38) (C := RX10) (T := TX10) (N := 13) hx hb hts iX10_writeBytes_X10 hown hK.1 hP 0 rfl rfl 4 (by decide) (kX10_writeBytes_1 hts) (fun _ h9 => h9) rfl dX10_writeBytes_22 ?_
          refine lv_iload_n hx hb dX10_writeBytes_25 rfl (lv_at hl 2 rfl) ?_
          refine lv_iload_n hx hb dX10_writeBytes_26 rfl (lv_at hl 0 rfl) ?_
          refine lv_iushr hx hb dX10_writeBytes_27 rfl ?_
          refine lv_topi (fun x42 ex42 => ?_)
          have hG := zbnd hG ex42
          refine lv_sipush (v := 255) hx hb dX10_writeBytes_28 (by decide) ?_
          refine lv_iand hx hb dX10_writeBytes_31 ?_
          refine va_iast hx hb hK.1 hP hD hS 1 0 rfl rfl (vp_lt (by decide) (z_nn ex38 c_28 (z_nn ex26 c_4 ntl)) c_40) dX10_writeBytes_32 (fun H locs hP hD hS => ?_)
          obtain ⟨hP, hD⟩ := z_re (L := [(x0, .inr (10, [.ref w0, .ref z0, .ref xi, .ref xt, .int x38, .ref xq, .int x_lc, .ref rdr, .ref h0, .ref t0, .ref q0, .ref v0, .ref m0])), (xt, .inl (kA 0, 400, .inl (upd f37 x38.toNatClampNeg (x42 &&& 255))))]) hP hD
          obtain ⟨f43, ef43⟩ : ∃ y : Nat → Int32, y = (upd f37 x38.toNatClampNeg (x42 &&& 255)) := ⟨_, rfl⟩
          rw [← ef43] at hP hD
          have hG := zbnd hG ef43
          refine lv_aload_n hx hb dX10_writeBytes_33 rfl (lv_at hl 1 rfl) ?_
          refine lv_dup hx hb dX10_writeBytes_34 rfl ?_
          refine va_get (D := (dC, dI)) (ci := 10) (v := .int x38) (C := RX10) (T := TX10) (N := 13) hx hb hts iX10_writeBytes_X10 hown hK.1 hP 0 rfl rfl 4 (by decide) (kX10_writeBytes_1 hts) (fun _ h9 => h9) rfl dX10_writeBytes_35 ?_
          refine lv_iconst (v := 1) hx hb dX10_writeBytes_38 (by decide) ?_
          refine lv_iadd hx hb dX10_writeBytes_39 ?_
          refine lv_topi (fun x44 ex44 => ?_)
          have hG := zbnd hG ex44
          refine va_put (D := (dC, dI)) (ci := 10) (v := .int x44) (ty := .int) (C := RX10) (T := TX10) (N := 13) hx hb hts iX10_writeBytes_X10 tyX10 tyX10_ok nmX10 hown hK.1 hP hD hS 0 rfl rfl 4 (by decide) (kX10_writeBytes_1 hts) (fun _ h9 => h9) rfl (by decide +kernel) rfl rfl (Nat.le_of_ble_eq_true rfl) dX10_writeBytes_40 (fun H locs hP hD hS => ?_)
          obtain ⟨hP, hD⟩ := z_re (L := [(x0, .inr (10, [.ref w0, .ref z0, .ref xi, .ref xt, .int x44, .ref xq, .int x_lc, .ref rdr, .ref h0, .ref t0, .ref q0, .ref v0, .ref m0])), (xt, .inl (kA 0, 400, .inl f43))]) hP hD
          refine lv_iinc (v := (-8)) (lv' := [(2, .int (-8)), (0, .ref x0), (1, .int p0)]) hx hb dX10_writeBytes_43 hl (k := 0) rfl (by decide) (by decide) rfl (fun ls hl => ?_)
          refine lv_goto (tgt := 3) hx hb dX10_writeBytes_46 (by decide) ?_
          refine lv_iload_n hx hb dX10_writeBytes_3 rfl (lv_at hl 0 rfl) ?_
          refine lv_if_lt (tgt := 49) hx hb dX10_writeBytes_4 (by decide) (fun _ => ?_) (fun c_45 => absurd (by decide) c_45)
          obtain ⟨hP9, hD9⟩ := z_sb (L' := [(x0, .inr (10, [.ref w0, .ref z0, .ref xi, .ref xt, .int x44, .ref xq, .int x_lc, .ref rdr, .ref h0, .ref t0, .ref q0, .ref v0, .ref m0])), (xt, .inl (kA 0, 400, .inl f43))]) hP hD [0, 1] (by decide) rfl
          refine W.widen (k := 0) (n := 0) (Nat.le_of_ble_eq_true rfl) (Nat.le_of_ble_eq_true rfl) ?_
          exact W.vret hx hb hr (fun t ht hW => ⟨⟨(x44, f43), rfl, ⟨(hG.trans hG0.symm), (z_nn ex44 c_40 (z_nn ex38 c_28 (z_nn ex26 c_4 ntl)))⟩, by rw [ht]; exact hP9, hD9⟩, hS.F ht⟩) hS.2.2 dX10_writeBytes_49
  · have hG := zelse hG c_2
    refine lv_aload_n hx hb dX10_writeBytes_17 rfl (lv_at hl 1 rfl) ?_
    refine va_get (D := (dC, dI)) (ci := 10) (v := .ref xt) (C := RX10) (T := TX10) (N := 13) hx hb hts iX10_writeBytes_X10 hown hK.1 hP 0 rfl rfl 3 (by decide) (kX10_writeBytes_2 hts) (fun _ h9 => h9) rfl dX10_writeBytes_18 ?_
    refine lv_aload_n hx hb dX10_writeBytes_21 rfl (lv_at hl 1 rfl) ?_
    refine va_get (D := (dC, dI)) (ci := 10) (v := .int x_tl) (C := RX10) (T := TX10) (N := 13) hx hb hts iX10_writeBytes_X10 hown hK.1 hP 0 rfl rfl 4 (by decide) (kX10_writeBytes_1 hts) (fun _ h9 => h9) rfl dX10_writeBytes_22 ?_
    refine lv_iload_n hx hb dX10_writeBytes_25 rfl (lv_at hl 2 rfl) ?_
    refine lv_iload_n hx hb dX10_writeBytes_26 rfl (lv_at hl 0 rfl) ?_
    refine lv_iushr hx hb dX10_writeBytes_27 rfl ?_
    refine lv_topi (fun x46 ex46 => ?_)
    have hG := zbnd hG ex46
    refine lv_sipush (v := 255) hx hb dX10_writeBytes_28 (by decide) ?_
    refine lv_iand hx hb dX10_writeBytes_31 ?_
    refine va_iast hx hb hK.1 hP hD hS 1 0 rfl rfl (vp_lt (by decide) ntl c_2) dX10_writeBytes_32 (fun H locs hP hD hS => ?_)
    obtain ⟨hP, hD⟩ := z_re (L := [(x0, .inr (10, [.ref w0, .ref z0, .ref xi, .ref xt, .int x_tl, .ref xq, .int x_lc, .ref rdr, .ref h0, .ref t0, .ref q0, .ref v0, .ref m0])), (xt, .inl (kA 0, 400, .inl (upd xtF x_tl.toNatClampNeg (x46 &&& 255))))]) hP hD
    obtain ⟨f47, ef47⟩ : ∃ y : Nat → Int32, y = (upd xtF x_tl.toNatClampNeg (x46 &&& 255)) := ⟨_, rfl⟩
    rw [← ef47] at hP hD
    have hG := zbnd hG ef47
    refine lv_aload_n hx hb dX10_writeBytes_33 rfl (lv_at hl 1 rfl) ?_
    refine lv_dup hx hb dX10_writeBytes_34 rfl ?_
    refine va_get (D := (dC, dI)) (ci := 10) (v := .int x_tl) (C := RX10) (T := TX10) (N := 13) hx hb hts iX10_writeBytes_X10 hown hK.1 hP 0 rfl rfl 4 (by decide) (kX10_writeBytes_1 hts) (fun _ h9 => h9) rfl dX10_writeBytes_35 ?_
    refine lv_iconst (v := 1) hx hb dX10_writeBytes_38 (by decide) ?_
    refine lv_iadd hx hb dX10_writeBytes_39 ?_
    refine lv_topi (fun x48 ex48 => ?_)
    have hG := zbnd hG ex48
    refine va_put (D := (dC, dI)) (ci := 10) (v := .int x48) (ty := .int) (C := RX10) (T := TX10) (N := 13) hx hb hts iX10_writeBytes_X10 tyX10 tyX10_ok nmX10 hown hK.1 hP hD hS 0 rfl rfl 4 (by decide) (kX10_writeBytes_1 hts) (fun _ h9 => h9) rfl (by decide +kernel) rfl rfl (Nat.le_of_ble_eq_true rfl) dX10_writeBytes_40 (fun H locs hP hD hS => ?_)
    obtain ⟨hP, hD⟩ := z_re (L := [(x0, .inr (10, [.ref w0, .ref z0, .ref xi, .ref xt, .int x48, .ref xq, .int x_lc, .ref rdr, .ref h0, .ref t0, .ref q0, .ref v0, .ref m0])), (xt, .inl (kA 0, 400, .inl f47))]) hP hD
    refine lv_iinc (v := 16) (lv' := [(2, .int 16), (0, .ref x0), (1, .int p0)]) hx hb dX10_writeBytes_43 hl (k := 0) rfl (by decide) (by decide) rfl (fun ls hl => ?_)
    refine lv_goto (tgt := 3) hx hb dX10_writeBytes_46 (by decide) ?_
    refine lv_iload_n hx hb dX10_writeBytes_3 rfl (lv_at hl 0 rfl) ?_
    refine lv_if_lt (tgt := 49) hx hb dX10_writeBytes_4 (by decide) (fun c_49 => absurd c_49 (by decide)) (fun _ => ?_)
    refine lv_aload_n hx hb dX10_writeBytes_7 rfl (lv_at hl 1 rfl) ?_
    refine va_get (D := (dC, dI)) (ci := 10) (v := .int x48) (C := RX10) (T := TX10) (N := 13) hx hb hts iX10_writeBytes_X10 hown hK.1 hP 0 rfl rfl 4 (by decide) (kX10_writeBytes_1 hts) (fun _ h9 => h9) rfl dX10_writeBytes_8 ?_
    refine lv_sipush (v := 400) hx hb dX10_writeBytes_11 (by decide) ?_
    refine lv_icmp_ge (tgt := 43) hx hb dX10_writeBytes_14 (by decide) (fun c_50 => ?_) (fun c_50 => ?_)
    · have hG := zthen hG c_50
      refine lv_iinc (v := 8) (lv' := [(2, .int 8), (0, .ref x0), (1, .int p0)]) hx hb dX10_writeBytes_43 hl (k := 0) rfl (by decide) (by decide) rfl (fun ls hl => ?_)
      refine lv_goto (tgt := 3) hx hb dX10_writeBytes_46 (by decide) ?_
      refine lv_iload_n hx hb dX10_writeBytes_3 rfl (lv_at hl 0 rfl) ?_
      refine lv_if_lt (tgt := 49) hx hb dX10_writeBytes_4 (by decide) (fun c_51 => absurd c_51 (by decide)) (fun _ => ?_)
      refine lv_aload_n hx hb dX10_writeBytes_7 rfl (lv_at hl 1 rfl) ?_
      refine va_get (D := (dC, dI)) (ci := 10) (v := .int x48) (C := RX10) (T := TX10) (N := 13) hx hb hts iX10_writeBytes_X10 hown hK.1 hP 0 rfl rfl 4 (by decide) (kX10_writeBytes_1 hts) (fun _ h9 => h9) rfl dX10_writeBytes_8 ?_
      refine lv_sipush (v := 400) hx hb dX10_writeBytes_11 (by decide) ?_
      refine lv_icmp_ge (tgt := 43) hx hb dX10_writeBytes_14 (by decide) (fun c_52 => ?_) (fun c_52 => ?_)
      · have hG := zthen hG c_52
        refine lv_iinc (v := 0) (lv' := [(2, .int 0), (0, .ref x0), (1, .int p0)]) hx hb dX10_writeBytes_43 hl (k := 0) rfl (by decide) (by decide) rfl (fun ls hl => ?_)
        refine lv_goto (tgt := 3) hx hb dX10_writeBytes_46 (by decide) ?_
        refine lv_iload_n hx hb dX10_writeBytes_3 rfl (lv_at hl 0 rfl) ?_
        refine lv_if_lt (tgt := 49) hx hb dX10_writeBytes_4 (by decide) (fun c_53 => absurd c_53 (by decide)) (fun _ => ?_)
        refine lv_aload_n hx hb dX10_writeBytes_7 rfl (lv_at hl 1 rfl) ?_
        refine va_get (D := (dC, dI)) (ci := 10) (v := .int x48) (C := RX10) (T := TX10) (N := 13) hx hb hts iX10_writeBytes_X10 hown hK.1 hP 0 rfl rfl 4 (by decide) (kX10_writeBytes_1 hts) (fun _ h9 => h9) rfl dX10_writeBytes_8 ?_
        refine lv_sipush (v := 400) hx hb dX10_writeBytes_11 (by decide) ?_
        refine lv_icmp_ge (tgt := 43) hx hb dX10_writeBytes_14 (by decide) (fun c_54 => ?_) (fun c_54 => ?_)
        · have hG := zthen hG c_54
          refine lv_iinc (v := (-8)) (lv' := [(2, .int (-8)), (0, .ref x0), (1, .int p0)]) hx hb dX10_writeBytes_43 hl (k := 0) rfl (by decide) (by decide) rfl (fun ls hl => ?_)
          refine lv_goto (tgt := 3) hx hb dX10_writeBytes_46 (by decide) ?_
          refine lv_iload_n hx hb dX10_writeBytes_3 rfl (lv_at hl 0 rfl) ?_
          refine lv_if_lt (tgt := 49) hx hb dX10_writeBytes_4 (by decide) (fun _ => ?_) (fun c_55 => absurd (by decide) c_55)
          obtain ⟨hP9, hD9⟩ := z_sb (L' := [(x0, .inr (10, [.ref w0, .ref z0, .ref xi, .ref xt, .int x48, .ref xq, .int x_lc, .ref rdr, .ref h0, .ref t0, .ref q0, .ref v0, .ref m0])), (xt, .inl (kA 0, 400, .inl f47))]) hP hD [0, 1] (by decide) rfl
          refine W.widen (k := 0) (n := 0) (Nat.le_of_ble_eq_true rfl) (Nat.le_of_ble_eq_true rfl) ?_
          exact W.vret hx hb hr (fun t ht hW => ⟨⟨(x48, f47), rfl, ⟨(hG.trans hG0.symm), (z_nn ex48 c_2 ntl)⟩, by rw [ht]; exact hP9, hD9⟩, hS.F ht⟩) hS.2.2 dX10_writeBytes_49
        · have hG := zelse hG c_54
          refine lv_aload_n hx hb dX10_writeBytes_17 rfl (lv_at hl 1 rfl) ?_
          refine va_get (D := (dC, dI)) (ci := 10) (v := .ref xt) (C := RX10) (T := TX10) (N := 13) hx hb hts iX10_writeBytes_X10 hown hK.1 hP 0 rfl rfl 3 (by decide) (kX10_writeBytes_2 hts) (fun _ h9 => h9) rfl dX10_writeBytes_18 ?_
          refine lv_aload_n hx hb dX10_writeBytes_21 rfl (lv_at hl 1 rfl) ?_
          refine va_get (D := (dC, dI)) (ci := 10) (v := .int x48) (C := RX10) (T := TX10) (N := 13) hx hb hts iX10_writeBytes_X10 hown hK.1 hP 0 rfl rfl 4 (by decide) (kX10_writeBytes_1 hts) (fun _ h9 => h9) rfl dX10_writeBytes_22 ?_
          refine lv_iload_n hx hb dX10_writeBytes_25 rfl (lv_at hl 2 rfl) ?_
          refine lv_iload_n hx hb dX10_writeBytes_26 rfl (lv_at hl 0 rfl) ?_
          refine lv_iushr hx hb dX10_writeBytes_27 rfl ?_
          refine lv_topi (fun x56 ex56 => ?_)
          have hG := zbnd hG ex56
          refine lv_sipush (v := 255) hx hb dX10_writeBytes_28 (by decide) ?_
          refine lv_iand hx hb dX10_writeBytes_31 ?_
          refine va_iast hx hb hK.1 hP hD hS 1 0 rfl rfl (vp_lt (by decide) (z_nn ex48 c_2 ntl) c_54) dX10_writeBytes_32 (fun H locs hP hD hS => ?_)
          obtain ⟨hP, hD⟩ := z_re (L := [(x0, .inr (10, [.ref w0, .ref z0, .ref xi, .ref xt, .int x48, .ref xq, .int x_lc, .ref rdr, .ref h0, .ref t0, .ref q0, .ref v0, .ref m0])), (xt, .inl (kA 0, 400, .inl (upd f47 x48.toNatClampNeg (x56 &&& 255))))]) hP hD
          obtain ⟨f57, ef57⟩ : ∃ y : Nat → Int32, y = (upd f47 x48.toNatClampNeg (x56 &&& 255)) := ⟨_, rfl⟩
          rw [← ef57] at hP hD
          have hG := zbnd hG ef57
          refine lv_aload_n hx hb dX10_writeBytes_33 rfl (lv_at hl 1 rfl) ?_
          refine lv_dup hx hb dX10_writeBytes_34 rfl ?_
          refine va_get (D := (dC, dI)) (ci := 10) (v := .int x48) (C := RX10) (T := TX10) (N := 13) hx hb hts iX10_writeBytes_X10 hown hK.1 hP 0 rfl rfl 4 (by decide) (kX10_writeBytes_1 hts) (fun _ h9 => h9) rfl dX10_writeBytes_35 ?_
          refine lv_iconst (v := 1) hx hb dX10_writeBytes_38 (by decide) ?_
          refine lv_iadd hx hb dX10_writeBytes_39 ?_
          refine lv_topi (fun x58 ex58 => ?_)
          have hG := zbnd hG ex58
          refine va_put (D := (dC, dI)) (ci := 10) (v := .int x58) (ty := .int) (C := RX10) (T := TX10) (N := 13) hx hb hts iX10_writeBytes_X10 tyX10 tyX10_ok nmX10 hown hK.1 hP hD hS 0 rfl rfl 4 (by decide) (kX10_writeBytes_1 hts) (fun _ h9 => h9) rfl (by decide +kernel) rfl rfl (Nat.le_of_ble_eq_true rfl) dX10_writeBytes_40 (fun H locs hP hD hS => ?_)
          obtain ⟨hP, hD⟩ := z_re (L := [(x0, .inr (10, [.ref w0, .ref z0, .ref xi, .ref xt, .int x58, .ref xq, .int x_lc, .ref rdr, .ref h0, .ref t0, .ref q0, .ref v0, .ref m0])), (xt, .inl (kA 0, 400, .inl f57))]) hP hD
          refine lv_iinc (v := (-8)) (lv' := [(2, .int (-8)), (0, .ref x0), (1, .int p0)]) hx hb dX10_writeBytes_43 hl (k := 0) rfl (by decide) (by decide) rfl (fun ls hl => ?_)
          refine lv_goto (tgt := 3) hx hb dX10_writeBytes_46 (by decide) ?_
          refine lv_iload_n hx hb dX10_writeBytes_3 rfl (lv_at hl 0 rfl) ?_
          refine lv_if_lt (tgt := 49) hx hb dX10_writeBytes_4 (by decide) (fun _ => ?_) (fun c_59 => absurd (by decide) c_59)
          obtain ⟨hP9, hD9⟩ := z_sb (L' := [(x0, .inr (10, [.ref w0, .ref z0, .ref xi, .ref xt, .int x58, .ref xq, .int x_lc, .ref rdr, .ref h0, .ref t0, .ref q0, .ref v0, .ref m0])), (xt, .inl (kA 0, 400, .inl f57))]) hP hD [0, 1] (by decide) rfl
          refine W.widen (k := 0) (n := 0) (Nat.le_of_ble_eq_true rfl) (Nat.le_of_ble_eq_true rfl) ?_
          exact W.vret hx hb hr (fun t ht hW => ⟨⟨(x58, f57), rfl, ⟨(hG.trans hG0.symm), (z_nn ex58 c_54 (z_nn ex48 c_2 ntl))⟩, by rw [ht]; exact hP9, hD9⟩, hS.F ht⟩) hS.2.2 dX10_writeBytes_49
      · have hG := zelse hG c_52
        refine lv_aload_n hx hb dX10_writeBytes_17 rfl (lv_at hl 1 rfl) ?_
        refine va_get (D := (dC, dI)) (ci := 10) (v := .ref xt) (C := RX10) (T := TX10) (N := 13) hx hb hts iX10_writeBytes_X10 hown hK.1 hP 0 rfl rfl 3 (by decide) (kX10_writeBytes_2 hts) (fun _ h9 => h9) rfl dX10_writeBytes_18 ?_
        refine lv_aload_n hx hb dX10_writeBytes_21 rfl (lv_at hl 1 rfl) ?_
        refine va_get (D := (dC, dI)) (ci := 10) (v := .int x48) (C := RX10) (T := TX10) (N := 13) hx hb hts iX10_writeBytes_X10 hown hK.1 hP 0 rfl rfl 4 (by decide) (kX10_writeBytes_1 hts) (fun _ h9 => h9) rfl dX10_writeBytes_22 ?_
        refine lv_iload_n hx hb dX10_writeBytes_25 rfl (lv_at hl 2 rfl) ?_
        refine lv_iload_n hx hb dX10_writeBytes_26 rfl (lv_at hl 0 rfl) ?_
        refine lv_iushr hx hb dX10_writeBytes_27 rfl ?_
        refine lv_topi (fun x60 ex60 => ?_)
        have hG := zbnd hG ex60
        refine lv_sipush (v := 255) hx hb dX10_writeBytes_28 (by decide) ?_
        refine lv_iand hx hb dX10_writeBytes_31 ?_
        refine va_iast hx hb hK.1 hP hD hS 1 0 rfl rfl (vp_lt (by decide) (z_nn ex48 c_2 ntl) c_52) dX10_writeBytes_32 (fun H locs hP hD hS => ?_)
        obtain ⟨hP, hD⟩ := z_re (L := [(x0, .inr (10, [.ref w0, .ref z0, .ref xi, .ref xt, .int x48, .ref xq, .int x_lc, .ref rdr, .ref h0, .ref t0, .ref q0, .ref v0, .ref m0])), (xt, .inl (kA 0, 400, .inl (upd f47 x48.toNatClampNeg (x60 &&& 255))))]) hP hD
        obtain ⟨f61, ef61⟩ : ∃ y : Nat → Int32, y = (upd f47 x48.toNatClampNeg (x60 &&& 255)) := ⟨_, rfl⟩
        rw [← ef61] at hP hD
        have hG := zbnd hG ef61
        refine lv_aload_n hx hb dX10_writeBytes_33 rfl (lv_at hl 1 rfl) ?_
        refine lv_dup hx hb dX10_writeBytes_34 rfl ?_
        refine va_get (D := (dC, dI)) (ci := 10) (v := .int x48) (C := RX10) (T := TX10) (N := 13) hx hb hts iX10_writeBytes_X10 hown hK.1 hP 0 rfl rfl 4 (by decide) (kX10_writeBytes_1 hts) (fun _ h9 => h9) rfl dX10_writeBytes_35 ?_
        refine lv_iconst (v := 1) hx hb dX10_writeBytes_38 (by decide) ?_
        refine lv_iadd hx hb dX10_writeBytes_39 ?_
        refine lv_topi (fun x62 ex62 => ?_)
        have hG := zbnd hG ex62
        refine va_put (D := (dC, dI)) (ci := 10) (v := .int x62) (ty := .int) (C := RX10) (T := TX10) (N := 13) hx hb hts iX10_writeBytes_X10 tyX10 tyX10_ok nmX10 hown hK.1 hP hD hS 0 rfl rfl 4 (by decide) (kX10_writeBytes_1 hts) (fun _ h9 => h9) rfl (by decide +kernel) rfl rfl (Nat.le_of_ble_eq_true rfl) dX10_writeBytes_40 (fun H locs hP hD hS => ?_)
        obtain ⟨hP, hD⟩ := z_re (L := [(x0, .inr (10, [.ref w0, .ref z0, .ref xi, .ref xt, .int x62, .ref xq, .int x_lc, .ref rdr, .ref h0, .ref t0, .ref q0, .ref v0, .ref m0])), (xt, .inl (kA 0, 400, .inl f61))]) hP hD
        refine lv_iinc (v := 0) (lv' := [(2, .int 0), (0, .ref x0), (1, .int p0)]) hx hb dX10_writeBytes_43 hl (k := 0) rfl (by decide) (by decide) rfl (fun ls hl => ?_)
        refine lv_goto (tgt := 3) hx hb dX10_writeBytes_46 (by decide) ?_
        refine lv_iload_n hx hb dX10_writeBytes_3 rfl (lv_at hl 0 rfl) ?_
        refine lv_if_lt (tgt := 49) hx hb dX10_writeBytes_4 (by decide) (fun c_63 => absurd c_63 (by decide)) (fun _ => ?_)
        refine lv_aload_n hx hb dX10_writeBytes_7 rfl (lv_at hl 1 rfl) ?_
        refine va_get (D := (dC, dI)) (ci := 10) (v := .int x62) (C := RX10) (T := TX10) (N := 13) hx hb hts iX10_writeBytes_X10 hown hK.1 hP 0 rfl rfl 4 (by decide) (kX10_writeBytes_1 hts) (fun _ h9 => h9) rfl dX10_writeBytes_8 ?_
        refine lv_sipush (v := 400) hx hb dX10_writeBytes_11 (by decide) ?_
        refine lv_icmp_ge (tgt := 43) hx hb dX10_writeBytes_14 (by decide) (fun c_64 => ?_) (fun c_64 => ?_)
        · have hG := zthen hG c_64
          refine lv_iinc (v := (-8)) (lv' := [(2, .int (-8)), (0, .ref x0), (1, .int p0)]) hx hb dX10_writeBytes_43 hl (k := 0) rfl (by decide) (by decide) rfl (fun ls hl => ?_)
          refine lv_goto (tgt := 3) hx hb dX10_writeBytes_46 (by decide) ?_
          refine lv_iload_n hx hb dX10_writeBytes_3 rfl (lv_at hl 0 rfl) ?_
          refine lv_if_lt (tgt := 49) hx hb dX10_writeBytes_4 (by decide) (fun _ => ?_) (fun c_65 => absurd (by decide) c_65)
          obtain ⟨hP9, hD9⟩ := z_sb (L' := [(x0, .inr (10, [.ref w0, .ref z0, .ref xi, .ref xt, .int x62, .ref xq, .int x_lc, .ref rdr, .ref h0, .ref t0, .ref q0, .ref v0, .ref m0])), (xt, .inl (kA 0, 400, .inl f61))]) hP hD [0, 1] (by decide) rfl
          refine W.widen (k := 0) (n := 0) (Nat.le_of_ble_eq_true rfl) (Nat.le_of_ble_eq_true rfl) ?_
          exact W.vret hx hb hr (fun t ht hW => ⟨⟨(x62, f61), rfl, ⟨(hG.trans hG0.symm), (z_nn ex62 c_52 (z_nn ex48 c_2 ntl))⟩, by rw [ht]; exact hP9, hD9⟩, hS.F ht⟩) hS.2.2 dX10_writeBytes_49
        · have hG := zelse hG c_64
          refine lv_aload_n hx hb dX10_writeBytes_17 rfl (lv_at hl 1 rfl) ?_
          refine va_get (D := (dC, dI)) (ci := 10) (v := .ref xt) (C := RX10) (T := TX10) (N := 13) hx hb hts iX10_writeBytes_X10 hown hK.1 hP 0 rfl rfl 3 (by decide) (kX10_writeBytes_2 hts) (fun _ h9 => h9) rfl dX10_writeBytes_18 ?_
          refine lv_aload_n hx hb dX10_writeBytes_21 rfl (lv_at hl 1 rfl) ?_
          refine va_get (D := (dC, dI)) (ci := 10) (v := .int x62) (C := RX10) (T := TX10) (N := 13) hx hb hts iX10_writeBytes_X10 hown hK.1 hP 0 rfl rfl 4 (by decide) (kX10_writeBytes_1 hts) (fun _ h9 => h9) rfl dX10_writeBytes_22 ?_
          refine lv_iload_n hx hb dX10_writeBytes_25 rfl (lv_at hl 2 rfl) ?_
          refine lv_iload_n hx hb dX10_writeBytes_26 rfl (lv_at hl 0 rfl) ?_
          refine lv_iushr hx hb dX10_writeBytes_27 rfl ?_
          refine lv_topi (fun x66 ex66 => ?_)
          have hG := zbnd hG ex66
          refine lv_sipush (v := 255) hx hb dX10_writeBytes_28 (by decide) ?_
          refine lv_iand hx hb dX10_writeBytes_31 ?_
          refine va_iast hx hb hK.1 hP hD hS 1 0 rfl rfl (vp_lt (by decide) (z_nn ex62 c_52 (z_nn ex48 c_2 ntl)) c_64) dX10_writeBytes_32 (fun H locs hP hD hS => ?_)
          obtain ⟨hP, hD⟩ := z_re (L := [(x0, .inr (10, [.ref w0, .ref z0, .ref xi, .ref xt, .int x62, .ref xq, .int x_lc, .ref rdr, .ref h0, .ref t0, .ref q0, .ref v0, .ref m0])), (xt, .inl (kA 0, 400, .inl (upd f61 x62.toNatClampNeg (x66 &&& 255))))]) hP hD
          obtain ⟨f67, ef67⟩ : ∃ y : Nat → Int32, y = (upd f61 x62.toNatClampNeg (x66 &&& 255)) := ⟨_, rfl⟩
          rw [← ef67] at hP hD
          have hG := zbnd hG ef67
          refine lv_aload_n hx hb dX10_writeBytes_33 rfl (lv_at hl 1 rfl) ?_
          refine lv_dup hx hb dX10_writeBytes_34 rfl ?_
          refine va_get (D := (dC, dI)) (ci := 10) (v := .int x62) (C := RX10) (T := TX10) (N := 13) hx hb hts iX10_writeBytes_X10 hown hK.1 hP 0 rfl rfl 4 (by decide) (kX10_writeBytes_1 hts) (fun _ h9 => h9) rfl dX10_writeBytes_35 ?_
          refine lv_iconst (v := 1) hx hb dX10_writeBytes_38 (by decide) ?_
          refine lv_iadd hx hb dX10_writeBytes_39 ?_
          refine lv_topi (fun x68 ex68 => ?_)
          have hG := zbnd hG ex68
          refine va_put (D := (dC, dI)) (ci := 10) (v := .int x68) (ty := .int) (C := RX10) (T := TX10) (N := 13) hx hb hts iX10_writeBytes_X10 tyX10 tyX10_ok nmX10 hown hK.1 hP hD hS 0 rfl rfl 4 (by decide) (kX10_writeBytes_1 hts) (fun _ h9 => h9) rfl (by decide +kernel) rfl rfl (Nat.le_of_ble_eq_true rfl) dX10_writeBytes_40 (fun H locs hP hD hS => ?_)
          obtain ⟨hP, hD⟩ := z_re (L := [(x0, .inr (10, [.ref w0, .ref z0, .ref xi, .ref xt, .int x68, .ref xq, .int x_lc, .ref rdr, .ref h0, .ref t0, .ref q0, .ref v0, .ref m0])), (xt, .inl (kA 0, 400, .inl f67))]) hP hD
          refine lv_iinc (v := (-8)) (lv' := [(2, .int (-8)), (0, .ref x0), (1, .int p0)]) hx hb dX10_writeBytes_43 hl (k := 0) rfl (by decide) (by decide) rfl (fun ls hl => ?_)
          refine lv_goto (tgt := 3) hx hb dX10_writeBytes_46 (by decide) ?_
          refine lv_iload_n hx hb dX10_writeBytes_3 rfl (lv_at hl 0 rfl) ?_
          refine lv_if_lt (tgt := 49) hx hb dX10_writeBytes_4 (by decide) (fun _ => ?_) (fun c_69 => absurd (by decide) c_69)
          obtain ⟨hP9, hD9⟩ := z_sb (L' := [(x0, .inr (10, [.ref w0, .ref z0, .ref xi, .ref xt, .int x68, .ref xq, .int x_lc, .ref rdr, .ref h0, .ref t0, .ref q0, .ref v0, .ref m0])), (xt, .inl (kA 0, 400, .inl f67))]) hP hD [0, 1] (by decide) rfl
          refine W.widen (k := 0) (n := 0) (Nat.le_of_ble_eq_true rfl) (Nat.le_of_ble_eq_true rfl) ?_
          exact W.vret hx hb hr (fun t ht hW => ⟨⟨(x68, f67), rfl, ⟨(hG.trans hG0.symm), (z_nn ex68 c_64 (z_nn ex62 c_52 (z_nn ex48 c_2 ntl)))⟩, by rw [ht]; exact hP9, hD9⟩, hS.F ht⟩) hS.2.2 dX10_writeBytes_49
    · have hG := zelse hG c_50
      refine lv_aload_n hx hb dX10_writeBytes_17 rfl (lv_at hl 1 rfl) ?_
      refine va_get (D := (dC, dI)) (ci := 10) (v := .ref xt) (C := RX10) (T := TX10) (N := 13) hx hb hts iX10_writeBytes_X10 hown hK.1 hP 0 rfl rfl 3 (by decide) (kX10_writeBytes_2 hts) (fun _ h9 => h9) rfl dX10_writeBytes_18 ?_
      refine lv_aload_n hx hb dX10_writeBytes_21 rfl (lv_at hl 1 rfl) ?_
      refine va_get (D := (dC, dI)) (ci := 10) (v := .int x48) (C := RX10) (T := TX10) (N := 13) hx hb hts iX10_writeBytes_X10 hown hK.1 hP 0 rfl rfl 4 (by decide) (kX10_writeBytes_1 hts) (fun _ h9 => h9) rfl dX10_writeBytes_22 ?_
      refine lv_iload_n hx hb dX10_writeBytes_25 rfl (lv_at hl 2 rfl) ?_
      refine lv_iload_n hx hb dX10_writeBytes_26 rfl (lv_at hl 0 rfl) ?_
      refine lv_iushr hx hb dX10_writeBytes_27 rfl ?_
      refine lv_topi (fun x70 ex70 => ?_)
      have hG := zbnd hG ex70
      refine lv_sipush (v := 255) hx hb dX10_writeBytes_28 (by decide) ?_
      refine lv_iand hx hb dX10_writeBytes_31 ?_
      refine va_iast hx hb hK.1 hP hD hS 1 0 rfl rfl (vp_lt (by decide) (z_nn ex48 c_2 ntl) c_50) dX10_writeBytes_32 (fun H locs hP hD hS => ?_)
      obtain ⟨hP, hD⟩ := z_re (L := [(x0, .inr (10, [.ref w0, .ref z0, .ref xi, .ref xt, .int x48, .ref xq, .int x_lc, .ref rdr, .ref h0, .ref t0, .ref q0, .ref v0, .ref m0])), (xt, .inl (kA 0, 400, .inl (upd f47 x48.toNatClampNeg (x70 &&& 255))))]) hP hD
      obtain ⟨f71, ef71⟩ : ∃ y : Nat → Int32, y = (upd f47 x48.toNatClampNeg (x70 &&& 255)) := ⟨_, rfl⟩
      rw [← ef71] at hP hD
      have hG := zbnd hG ef71
      refine lv_aload_n hx hb dX10_writeBytes_33 rfl (lv_at hl 1 rfl) ?_
      refine lv_dup hx hb dX10_writeBytes_34 rfl ?_
      refine va_get (D := (dC, dI)) (ci := 10) (v := .int x48) (C := RX10) (T := TX10) (N := 13) hx hb hts iX10_writeBytes_X10 hown hK.1 hP 0 rfl rfl 4 (by decide) (kX10_writeBytes_1 hts) (fun _ h9 => h9) rfl dX10_writeBytes_35 ?_
      refine lv_iconst (v := 1) hx hb dX10_writeBytes_38 (by decide) ?_
      refine lv_iadd hx hb dX10_writeBytes_39 ?_
      refine lv_topi (fun x72 ex72 => ?_)
      have hG := zbnd hG ex72
      refine va_put (D := (dC, dI)) (ci := 10) (v := .int x72) (ty := .int) (C := RX10) (T := TX10) (N := 13) hx hb hts iX10_writeBytes_X10 tyX10 tyX10_ok nmX10 hown hK.1 hP hD hS 0 rfl rfl 4 (by decide) (kX10_writeBytes_1 hts) (fun _ h9 => h9) rfl (by decide +kernel) rfl rfl (Nat.le_of_ble_eq_true rfl) dX10_writeBytes_40 (fun H locs hP hD hS => ?_)
      obtain ⟨hP, hD⟩ := z_re (L := [(x0, .inr (10, [.ref w0, .ref z0, .ref xi, .ref xt, .int x72, .ref xq, .int x_lc, .ref rdr, .ref h0, .ref t0, .ref q0, .ref v0, .ref m0])), (xt, .inl (kA 0, 400, .inl f71))]) hP hD
      refine lv_iinc (v := 8) (lv' := [(2, .int 8), (0, .ref x0), (1, .int p0)]) hx hb dX10_writeBytes_43 hl (k := 0) rfl (by decide) (by decide) rfl (fun ls hl => ?_)
      refine lv_goto (tgt := 3) hx hb dX10_writeBytes_46 (by decide) ?_
      refine lv_iload_n hx hb dX10_writeBytes_3 rfl (lv_at hl 0 rfl) ?_
      refine lv_if_lt (tgt := 49) hx hb dX10_writeBytes_4 (by decide) (fun c_73 => absurd c_73 (by decide)) (fun _ => ?_)
      refine lv_aload_n hx hb dX10_writeBytes_7 rfl (lv_at hl 1 rfl) ?_
      refine va_get (D := (dC, dI)) (ci := 10) (v := .int x72) (C := RX10) (T := TX10) (N := 13) hx hb hts iX10_writeBytes_X10 hown hK.1 hP 0 rfl rfl 4 (by decide) (kX10_writeBytes_1 hts) (fun _ h9 => h9) rfl dX10_writeBytes_8 ?_
      refine lv_sipush (v := 400) hx hb dX10_writeBytes_11 (by decide) ?_
      refine lv_icmp_ge (tgt := 43) hx hb dX10_writeBytes_14 (by decide) (fun c_74 => ?_) (fun c_74 => ?_)
      · have hG := zthen hG c_74
        refine lv_iinc (v := 0) (lv' := [(2, .int 0), (0, .ref x0), (1, .int p0)]) hx hb dX10_writeBytes_43 hl (k := 0) rfl (by decide) (by decide) rfl (fun ls hl => ?_)
        refine lv_goto (tgt := 3) hx hb dX10_writeBytes_46 (by decide) ?_
        refine lv_iload_n hx hb dX10_writeBytes_3 rfl (lv_at hl 0 rfl) ?_
        refine lv_if_lt (tgt := 49) hx hb dX10_writeBytes_4 (by decide) (fun c_75 => absurd c_75 (by decide)) (fun _ => ?_)
        refine lv_aload_n hx hb dX10_writeBytes_7 rfl (lv_at hl 1 rfl) ?_
        refine va_get (D := (dC, dI)) (ci := 10) (v := .int x72) (C := RX10) (T := TX10) (N := 13) hx hb hts iX10_writeBytes_X10 hown hK.1 hP 0 rfl rfl 4 (by decide) (kX10_writeBytes_1 hts) (fun _ h9 => h9) rfl dX10_writeBytes_8 ?_
        refine lv_sipush (v := 400) hx hb dX10_writeBytes_11 (by decide) ?_
        refine lv_icmp_ge (tgt := 43) hx hb dX10_writeBytes_14 (by decide) (fun c_76 => ?_) (fun c_76 => ?_)
        · have hG := zthen hG c_76
          refine lv_iinc (v := (-8)) (lv' := [(2, .int (-8)), (0, .ref x0), (1, .int p0)]) hx hb dX10_writeBytes_43 hl (k := 0) rfl (by decide) (by decide) rfl (fun ls hl => ?_)
          refine lv_goto (tgt := 3) hx hb dX10_writeBytes_46 (by decide) ?_
          refine lv_iload_n hx hb dX10_writeBytes_3 rfl (lv_at hl 0 rfl) ?_
          refine lv_if_lt (tgt := 49) hx hb dX10_writeBytes_4 (by decide) (fun _ => ?_) (fun c_77 => absurd (by decide) c_77)
          obtain ⟨hP9, hD9⟩ := z_sb (L' := [(x0, .inr (10, [.ref w0, .ref z0, .ref xi, .ref xt, .int x72, .ref xq, .int x_lc, .ref rdr, .ref h0, .ref t0, .ref q0, .ref v0, .ref m0])), (xt, .inl (kA 0, 400, .inl f71))]) hP hD [0, 1] (by decide) rfl
          refine W.widen (k := 0) (n := 0) (Nat.le_of_ble_eq_true rfl) (Nat.le_of_ble_eq_true rfl) ?_
          exact W.vret hx hb hr (fun t ht hW => ⟨⟨(x72, f71), rfl, ⟨(hG.trans hG0.symm), (z_nn ex72 c_50 (z_nn ex48 c_2 ntl))⟩, by rw [ht]; exact hP9, hD9⟩, hS.F ht⟩) hS.2.2 dX10_writeBytes_49
        · have hG := zelse hG c_76
          refine lv_aload_n hx hb dX10_writeBytes_17 rfl (lv_at hl 1 rfl) ?_
          refine va_get (D := (dC, dI)) (ci := 10) (v := .ref xt) (C := RX10) (T := TX10) (N := 13) hx hb hts iX10_writeBytes_X10 hown hK.1 hP 0 rfl rfl 3 (by decide) (kX10_writeBytes_2 hts) (fun _ h9 => h9) rfl dX10_writeBytes_18 ?_
          refine lv_aload_n hx hb dX10_writeBytes_21 rfl (lv_at hl 1 rfl) ?_
          refine va_get (D := (dC, dI)) (ci := 10) (v := .int x72) (C := RX10) (T := TX10) (N := 13) hx hb hts iX10_writeBytes_X10 hown hK.1 hP 0 rfl rfl 4 (by decide) (kX10_writeBytes_1 hts) (fun _ h9 => h9) rfl dX10_writeBytes_22 ?_
          refine lv_iload_n hx hb dX10_writeBytes_25 rfl (lv_at hl 2 rfl) ?_
          refine lv_iload_n hx hb dX10_writeBytes_26 rfl (lv_at hl 0 rfl) ?_
          refine lv_iushr hx hb dX10_writeBytes_27 rfl ?_
          refine lv_topi (fun x78 ex78 => ?_)
          have hG := zbnd hG ex78
          refine lv_sipush (v := 255) hx hb dX10_writeBytes_28 (by decide) ?_
          refine lv_iand hx hb dX10_writeBytes_31 ?_
          refine va_iast hx hb hK.1 hP hD hS 1 0 rfl rfl (vp_lt (by decide) (z_nn ex72 c_50 (z_nn ex48 c_2 ntl)) c_76) dX10_writeBytes_32 (fun H locs hP hD hS => ?_)
          obtain ⟨hP, hD⟩ := z_re (L := [(x0, .inr (10, [.ref w0, .ref z0, .ref xi, .ref xt, .int x72, .ref xq, .int x_lc, .ref rdr, .ref h0, .ref t0, .ref q0, .ref v0, .ref m0])), (xt, .inl (kA 0, 400, .inl (upd f71 x72.toNatClampNeg (x78 &&& 255))))]) hP hD
          obtain ⟨f79, ef79⟩ : ∃ y : Nat → Int32, y = (upd f71 x72.toNatClampNeg (x78 &&& 255)) := ⟨_, rfl⟩
          rw [← ef79] at hP hD
          have hG := zbnd hG ef79
          refine lv_aload_n hx hb dX10_writeBytes_33 rfl (lv_at hl 1 rfl) ?_
          refine lv_dup hx hb dX10_writeBytes_34 rfl ?_
          refine va_get (D := (dC, dI)) (ci := 10) (v := .int x72) (C := RX10) (T := TX10) (N := 13) hx hb hts iX10_writeBytes_X10 hown hK.1 hP 0 rfl rfl 4 (by decide) (kX10_writeBytes_1 hts) (fun _ h9 => h9) rfl dX10_writeBytes_35 ?_
          refine lv_iconst (v := 1) hx hb dX10_writeBytes_38 (by decide) ?_
          refine lv_iadd hx hb dX10_writeBytes_39 ?_
          refine lv_topi (fun x80 ex80 => ?_)
          have hG := zbnd hG ex80
          refine va_put (D := (dC, dI)) (ci := 10) (v := .int x80) (ty := .int) (C := RX10) (T := TX10) (N := 13) hx hb hts iX10_writeBytes_X10 tyX10 tyX10_ok nmX10 hown hK.1 hP hD hS 0 rfl rfl 4 (by decide) (kX10_writeBytes_1 hts) (fun _ h9 => h9) rfl (by decide +kernel) rfl rfl (Nat.le_of_ble_eq_true rfl) dX10_writeBytes_40 (fun H locs hP hD hS => ?_)
          obtain ⟨hP, hD⟩ := z_re (L := [(x0, .inr (10, [.ref w0, .ref z0, .ref xi, .ref xt, .int x80, .ref xq, .int x_lc, .ref rdr, .ref h0, .ref t0, .ref q0, .ref v0, .ref m0])), (xt, .inl (kA 0, 400, .inl f79))]) hP hD
          refine lv_iinc (v := (-8)) (lv' := [(2, .int (-8)), (0, .ref x0), (1, .int p0)]) hx hb dX10_writeBytes_43 hl (k := 0) rfl (by decide) (by decide) rfl (fun ls hl => ?_)
          refine lv_goto (tgt := 3) hx hb dX10_writeBytes_46 (by decide) ?_
          refine lv_iload_n hx hb dX10_writeBytes_3 rfl (lv_at hl 0 rfl) ?_
          refine lv_if_lt (tgt := 49) hx hb dX10_writeBytes_4 (by decide) (fun _ => ?_) (fun c_81 => absurd (by decide) c_81)
          obtain ⟨hP9, hD9⟩ := z_sb (L' := [(x0, .inr (10, [.ref w0, .ref z0, .ref xi, .ref xt, .int x80, .ref xq, .int x_lc, .ref rdr, .ref h0, .ref t0, .ref q0, .ref v0, .ref m0])), (xt, .inl (kA 0, 400, .inl f79))]) hP hD [0, 1] (by decide) rfl
          refine W.widen (k := 0) (n := 0) (Nat.le_of_ble_eq_true rfl) (Nat.le_of_ble_eq_true rfl) ?_
          exact W.vret hx hb hr (fun t ht hW => ⟨⟨(x80, f79), rfl, ⟨(hG.trans hG0.symm), (z_nn ex80 c_76 (z_nn ex72 c_50 (z_nn ex48 c_2 ntl)))⟩, by rw [ht]; exact hP9, hD9⟩, hS.F ht⟩) hS.2.2 dX10_writeBytes_49
      · have hG := zelse hG c_74
        refine lv_aload_n hx hb dX10_writeBytes_17 rfl (lv_at hl 1 rfl) ?_
        refine va_get (D := (dC, dI)) (ci := 10) (v := .ref xt) (C := RX10) (T := TX10) (N := 13) hx hb hts iX10_writeBytes_X10 hown hK.1 hP 0 rfl rfl 3 (by decide) (kX10_writeBytes_2 hts) (fun _ h9 => h9) rfl dX10_writeBytes_18 ?_
        refine lv_aload_n hx hb dX10_writeBytes_21 rfl (lv_at hl 1 rfl) ?_
        refine va_get (D := (dC, dI)) (ci := 10) (v := .int x72) (C := RX10) (T := TX10) (N := 13) hx hb hts iX10_writeBytes_X10 hown hK.1 hP 0 rfl rfl 4 (by decide) (kX10_writeBytes_1 hts) (fun _ h9 => h9) rfl dX10_writeBytes_22 ?_
        refine lv_iload_n hx hb dX10_writeBytes_25 rfl (lv_at hl 2 rfl) ?_
        refine lv_iload_n hx hb dX10_writeBytes_26 rfl (lv_at hl 0 rfl) ?_
        refine lv_iushr hx hb dX10_writeBytes_27 rfl ?_
        refine lv_topi (fun x82 ex82 => ?_)
        have hG := zbnd hG ex82
        refine lv_sipush (v := 255) hx hb dX10_writeBytes_28 (by decide) ?_
        refine lv_iand hx hb dX10_writeBytes_31 ?_
        refine va_iast hx hb hK.1 hP hD hS 1 0 rfl rfl (vp_lt (by decide) (z_nn ex72 c_50 (z_nn ex48 c_2 ntl)) c_74) dX10_writeBytes_32 (fun H locs hP hD hS => ?_)
        obtain ⟨hP, hD⟩ := z_re (L := [(x0, .inr (10, [.ref w0, .ref z0, .ref xi, .ref xt, .int x72, .ref xq, .int x_lc, .ref rdr, .ref h0, .ref t0, .ref q0, .ref v0, .ref m0])), (xt, .inl (kA 0, 400, .inl (upd f71 x72.toNatClampNeg (x82 &&& 255))))]) hP hD
        obtain ⟨f83, ef83⟩ : ∃ y : Nat → Int32, y = (upd f71 x72.toNatClampNeg (x82 &&& 255)) := ⟨_, rfl⟩
        rw [← ef83] at hP hD
        have hG := zbnd hG ef83
        refine lv_aload_n hx hb dX10_writeBytes_33 rfl (lv_at hl 1 rfl) ?_
        refine lv_dup hx hb dX10_writeBytes_34 rfl ?_
        refine va_get (D := (dC, dI)) (ci := 10) (v := .int x72) (C := RX10) (T := TX10) (N := 13) hx hb hts iX10_writeBytes_X10 hown hK.1 hP 0 rfl rfl 4 (by decide) (kX10_writeBytes_1 hts) (fun _ h9 => h9) rfl dX10_writeBytes_35 ?_
        refine lv_iconst (v := 1) hx hb dX10_writeBytes_38 (by decide) ?_
        refine lv_iadd hx hb dX10_writeBytes_39 ?_
        refine lv_topi (fun x84 ex84 => ?_)
        have hG := zbnd hG ex84
        refine va_put (D := (dC, dI)) (ci := 10) (v := .int x84) (ty := .int) (C := RX10) (T := TX10) (N := 13) hx hb hts iX10_writeBytes_X10 tyX10 tyX10_ok nmX10 hown hK.1 hP hD hS 0 rfl rfl 4 (by decide) (kX10_writeBytes_1 hts) (fun _ h9 => h9) rfl (by decide +kernel) rfl rfl (Nat.le_of_ble_eq_true rfl) dX10_writeBytes_40 (fun H locs hP hD hS => ?_)
        obtain ⟨hP, hD⟩ := z_re (L := [(x0, .inr (10, [.ref w0, .ref z0, .ref xi, .ref xt, .int x84, .ref xq, .int x_lc, .ref rdr, .ref h0, .ref t0, .ref q0, .ref v0, .ref m0])), (xt, .inl (kA 0, 400, .inl f83))]) hP hD
        refine lv_iinc (v := 0) (lv' := [(2, .int 0), (0, .ref x0), (1, .int p0)]) hx hb dX10_writeBytes_43 hl (k := 0) rfl (by decide) (by decide) rfl (fun ls hl => ?_)
        refine lv_goto (tgt := 3) hx hb dX10_writeBytes_46 (by decide) ?_
        refine lv_iload_n hx hb dX10_writeBytes_3 rfl (lv_at hl 0 rfl) ?_
        refine lv_if_lt (tgt := 49) hx hb dX10_writeBytes_4 (by decide) (fun c_85 => absurd c_85 (by decide)) (fun _ => ?_)
        refine lv_aload_n hx hb dX10_writeBytes_7 rfl (lv_at hl 1 rfl) ?_
        refine va_get (D := (dC, dI)) (ci := 10) (v := .int x84) (C := RX10) (T := TX10) (N := 13) hx hb hts iX10_writeBytes_X10 hown hK.1 hP 0 rfl rfl 4 (by decide) (kX10_writeBytes_1 hts) (fun _ h9 => h9) rfl dX10_writeBytes_8 ?_
        refine lv_sipush (v := 400) hx hb dX10_writeBytes_11 (by decide) ?_
        refine lv_icmp_ge (tgt := 43) hx hb dX10_writeBytes_14 (by decide) (fun c_86 => ?_) (fun c_86 => ?_)
        · have hG := zthen hG c_86
          refine lv_iinc (v := (-8)) (lv' := [(2, .int (-8)), (0, .ref x0), (1, .int p0)]) hx hb dX10_writeBytes_43 hl (k := 0) rfl (by decide) (by decide) rfl (fun ls hl => ?_)
          refine lv_goto (tgt := 3) hx hb dX10_writeBytes_46 (by decide) ?_
          refine lv_iload_n hx hb dX10_writeBytes_3 rfl (lv_at hl 0 rfl) ?_
          refine lv_if_lt (tgt := 49) hx hb dX10_writeBytes_4 (by decide) (fun _ => ?_) (fun c_87 => absurd (by decide) c_87)
          obtain ⟨hP9, hD9⟩ := z_sb (L' := [(x0, .inr (10, [.ref w0, .ref z0, .ref xi, .ref xt, .int x84, .ref xq, .int x_lc, .ref rdr, .ref h0, .ref t0, .ref q0, .ref v0, .ref m0])), (xt, .inl (kA 0, 400, .inl f83))]) hP hD [0, 1] (by decide) rfl
          refine W.widen (k := 0) (n := 0) (Nat.le_of_ble_eq_true rfl) (Nat.le_of_ble_eq_true rfl) ?_
          exact W.vret hx hb hr (fun t ht hW => ⟨⟨(x84, f83), rfl, ⟨(hG.trans hG0.symm), (z_nn ex84 c_74 (z_nn ex72 c_50 (z_nn ex48 c_2 ntl)))⟩, by rw [ht]; exact hP9, hD9⟩, hS.F ht⟩) hS.2.2 dX10_writeBytes_49
        · have hG := zelse hG c_86
          refine lv_aload_n hx hb dX10_writeBytes_17 rfl (lv_at hl 1 rfl) ?_
          refine va_get (D := (dC, dI)) (ci := 10) (v := .ref xt) (C := RX10) (T := TX10) (N := 13) hx hb hts iX10_writeBytes_X10 hown hK.1 hP 0 rfl rfl 3 (by decide) (kX10_writeBytes_2 hts) (fun _ h9 => h9) rfl dX10_writeBytes_18 ?_
          refine lv_aload_n hx hb dX10_writeBytes_21 rfl (lv_at hl 1 rfl) ?_
          refine va_get (D := (dC, dI)) (ci := 10) (v := .int x84) (C := RX10) (T := TX10) (N := 13) hx hb hts iX10_writeBytes_X10 hown hK.1 hP 0 rfl rfl 4 (by decide) (kX10_writeBytes_1 hts) (fun _ h9 => h9) rfl dX10_writeBytes_22 ?_
          refine lv_iload_n hx hb dX10_writeBytes_25 rfl (lv_at hl 2 rfl) ?_
          refine lv_iload_n hx hb dX10_writeBytes_26 rfl (lv_at hl 0 rfl) ?_
          refine lv_iushr hx hb dX10_writeBytes_27 rfl ?_
          refine lv_topi (fun x88 ex88 => ?_)
          have hG := zbnd hG ex88
          refine lv_sipush (v := 255) hx hb dX10_writeBytes_28 (by decide) ?_
          refine lv_iand hx hb dX10_writeBytes_31 ?_
          refine va_iast hx hb hK.1 hP hD hS 1 0 rfl rfl (vp_lt (by decide) (z_nn ex84 c_74 (z_nn ex72 c_50 (z_nn ex48 c_2 ntl))) c_86) dX10_writeBytes_32 (fun H locs hP hD hS => ?_)
          obtain ⟨hP, hD⟩ := z_re (L := [(x0, .inr (10, [.ref w0, .ref z0, .ref xi, .ref xt, .int x84, .ref xq, .int x_lc, .ref rdr, .ref h0, .ref t0, .ref q0, .ref v0, .ref m0])), (xt, .inl (kA 0, 400, .inl (upd f83 x84.toNatClampNeg (x88 &&& 255))))]) hP hD
          obtain ⟨f89, ef89⟩ : ∃ y : Nat → Int32, y = (upd f83 x84.toNatClampNeg (x88 &&& 255)) := ⟨_, rfl⟩
          rw [← ef89] at hP hD
          have hG := zbnd hG ef89
          refine lv_aload_n hx hb dX10_writeBytes_33 rfl (lv_at hl 1 rfl) ?_
          refine lv_dup hx hb dX10_writeBytes_34 rfl ?_
          refine va_get (D := (dC, dI)) (ci := 10) (v := .int x84) (C := RX10) (T := TX10) (N := 13) hx hb hts iX10_writeBytes_X10 hown hK.1 hP 0 rfl rfl 4 (by decide) (kX10_writeBytes_1 hts) (fun _ h9 => h9) rfl dX10_writeBytes_35 ?_
          refine lv_iconst (v := 1) hx hb dX10_writeBytes_38 (by decide) ?_
          refine lv_iadd hx hb dX10_writeBytes_39 ?_
          refine lv_topi (fun x90 ex90 => ?_)
          have hG := zbnd hG ex90
          refine va_put (D := (dC, dI)) (ci := 10) (v := .int x90) (ty := .int) (C := RX10) (T := TX10) (N := 13) hx hb hts iX10_writeBytes_X10 tyX10 tyX10_ok nmX10 hown hK.1 hP hD hS 0 rfl rfl 4 (by decide) (kX10_writeBytes_1 hts) (fun _ h9 => h9) rfl (by decide +kernel) rfl rfl (Nat.le_of_ble_eq_true rfl) dX10_writeBytes_40 (fun H locs hP hD hS => ?_)
          obtain ⟨hP, hD⟩ := z_re (L := [(x0, .inr (10, [.ref w0, .ref z0, .ref xi, .ref xt, .int x90, .ref xq, .int x_lc, .ref rdr, .ref h0, .ref t0, .ref q0, .ref v0, .ref m0])), (xt, .inl (kA 0, 400, .inl f89))]) hP hD
          refine lv_iinc (v := (-8)) (lv' := [(2, .int (-8)), (0, .ref x0), (1, .int p0)]) hx hb dX10_writeBytes_43 hl (k := 0) rfl (by decide) (by decide) rfl (fun ls hl => ?_)
          refine lv_goto (tgt := 3) hx hb dX10_writeBytes_46 (by decide) ?_
          refine lv_iload_n hx hb dX10_writeBytes_3 rfl (lv_at hl 0 rfl) ?_
          refine lv_if_lt (tgt := 49) hx hb dX10_writeBytes_4 (by decide) (fun _ => ?_) (fun c_91 => absurd (by decide) c_91)
          obtain ⟨hP9, hD9⟩ := z_sb (L' := [(x0, .inr (10, [.ref w0, .ref z0, .ref xi, .ref xt, .int x90, .ref xq, .int x_lc, .ref rdr, .ref h0, .ref t0, .ref q0, .ref v0, .ref m0])), (xt, .inl (kA 0, 400, .inl f89))]) hP hD [0, 1] (by decide) rfl
          refine W.widen (k := 0) (n := 0) (Nat.le_of_ble_eq_true rfl) (Nat.le_of_ble_eq_true rfl) ?_
          exact W.vret hx hb hr (fun t ht hW => ⟨⟨(x90, f89), rfl, ⟨(hG.trans hG0.symm), (z_nn ex90 c_86 (z_nn ex84 c_74 (z_nn ex72 c_50 (z_nn ex48 c_2 ntl))))⟩, by rw [ht]; exact hP9, hD9⟩, hS.F ht⟩) hS.2.2 dX10_writeBytes_49
set_option maxHeartbeats 4000000 in
set_option maxRecDepth 100000 in
theorem mX10_tick_no (l : Launch) (dC : Nat → ClassId) (dI : Nat → Nat → Nat) (kA : Nat → ClassId) (sz : Nat) (x0 : Nat) (z0 : Nat) (xi : Nat) (xt : Nat) (xq : Nat) (rdr : Nat) (h0 : Nat) (t0 : Nat) (q0 : Nat) (v0 : Nat) (m0 : Nat) (w0 : Nat) (x_tl : Int32) (x_lc : Int32) (xqF : Nat → Option Nat) (p0 : Int32) (p1 : Int32) (hsel : (sel p0 x_lc xqF) = none) : Met l yX10_tick wsX10_tick ({ frames := 2, cells := 0, slots := 0, locals := 42 }) (zPc dC dI kA sz [.ref x0, .int p0, .int p1] [(x0, .inr (10, [.ref w0, .ref z0, .ref xi, .ref xt, .int x_tl, .ref xq, .int x_lc, .ref rdr, .ref h0, .ref t0, .ref q0, .ref v0, .ref m0])), (xq, .inl (kA 5, 6, .inr (.inr (.inr (.inr xqF)))))]) (va_Qi (fun (r : Int32) (u : Unit) => r = (-1)) (zB dC dI (va_A [(x0, .inr (10, [.ref w0, .ref z0, .ref xi, .ref xt, .int x_tl, .ref xq, .int x_lc, .ref rdr, .ref h0, .ref t0, .ref q0, .ref v0, .ref m0])), (xq, .inl (kA 5, 6, .inr (.inr (.inr (.inr xqF)))))] sz) (fun (u : Unit) => [(x0, .inr (10, [.ref w0, .ref z0, .ref xi, .ref xt, .int x_tl, .ref xq, .int x_lc, .ref rdr, .ref h0, .ref t0, .ref q0, .ref v0, .ref m0])), (xq, .inl (kA 5, 6, .inr (.inr (.inr (.inr xqF)))))])) (va_A [(x0, .inr (10, [.ref w0, .ref z0, .ref xi, .ref xt, .int x_tl, .ref xq, .int x_lc, .ref rdr, .ref h0, .ref t0, .ref q0, .ref v0, .ref m0])), (xq, .inl (kA 5, 6, .inr (.inr (.inr (.inr xqF)))))] sz)) 0 0 (va_A [(x0, .inr (10, [.ref w0, .ref z0, .ref xi, .ref xt, .int x_tl, .ref xq, .int x_lc, .ref rdr, .ref h0, .ref t0, .ref q0, .ref v0, .ref m0])), (xq, .inl (kA 5, 6, .inr (.inr (.inr (.inr xqF)))))] sz) := by
  refine Met.ofW (cc := cX10_tick) (maxL := 5) (ret := (some .int)) (by decide) rfl ?_
  intro p e s m args below meth c s₁ B hml hv
  obtain ⟨rfl, hsz, hP, hK, hD0⟩ := hv
  have hx := B.exec
  have hb := B.bytes
  have hr := B.returns
  have hts := atoms_spec (ws := wsX10_tick) B.pre
  have hown : s.vm.findClass RX10 = some m.cls := findClass_of_methodNamed B.named
  have hlocks := B.notSynchronized
  subst hsz
  have hD := hD0.self (sz := s.heap.size)
  generalize hAe : va_A [(x0, .inr (10, [.ref w0, .ref z0, .ref xi, .ref xt, .int x_tl, .ref xq, .int x_lc, .ref rdr, .ref h0, .ref t0, .ref q0, .ref v0, .ref m0])), (xq, .inl (kA 5, 6, .inr (.inr (.inr (.inr xqF)))))] s.heap.size = A at hD ⊢
  have hA : ∀ q : Nat, s.heap.size ≤ q → A q := fun q h => by rw [← hAe]; exact Or.inr h
  have hS : va_S A s.heap s.heap [] := va_S.rf
  have hP : va_P (dC, dI) vwCl [(x0, .inr (10, [.ref w0, .ref z0, .ref xi, .ref xt, .int x_tl, .ref xq, .int x_lc, .ref rdr, .ref h0, .ref t0, .ref q0, .ref v0, .ref m0])), (xq, .inl (kA 5, 6, .inr (.inr (.inr (.inr xqF)))))] s.heap := hP
  have hl := lv_entry ([.ref x0, .int p0, .int p1]) (n := 5) (Nat.le_of_ble_eq_true rfl)
  rw [lg_entry_eq]
  generalize (lg_sl ([.ref x0, .int p0, .int p1]) ++ List.replicate (5 - (lg_sl ([.ref x0, .int p0, .int p1])).length) Slot.unset).toArray = ls at hl ⊢
  have hl : lv_has ls 5 [(0, .ref x0), (1, .int p0), (2, .int p1)] := hl
  refine lv_aload_n hx hb dX10_tick_0 rfl (lv_at hl 0 rfl) ?_
  refine lv_iload_n hx hb dX10_tick_1 rfl (lv_at hl 1 rfl) ?_
  refine z_q (wr := []) (va_runV (As := [.int p0]) (rest := []) ⟨hx, hb, hml, hown, hts⟩ (mX10_lawOf l dC dI kA _ x0 z0 xi xt xq rdr h0 t0 q0 v0 m0 w0 x_tl x_lc xqF p0) (cwV 1 hts gX10_tick_X10_lawOf rfl rfl rfl ⟨rfl, hdX10_lawOf⟩ ⟨(Nat.le_of_ble_eq_true rfl), (Nat.le_of_ble_eq_true rfl)⟩) ⟨zPc.blind, va_recv hK.1 hP (ci := 10) (q0 := 0) rfl rfl, zPre hK (hP.sub [0, 1] rfl) (hD.sub [0, 1] (by decide) rfl)⟩ rfl rfl hl.1 rfl (lv_room (Nat.le_of_ble_eq_true rfl)) dX10_tick_2 ⟨(Nat.le_of_ble_eq_true rfl), (Nat.le_of_ble_eq_true rfl)⟩) hP hD hS hA [0, 1] [] rfl rfl (by decide) (by decide) (fun r3 u1 H locs hw2 hP hD hS => ?_)
  obtain rfl := hw2
  obtain ⟨hP, hD⟩ := z_re (L := [(x0, .inr (10, [.ref w0, .ref z0, .ref xi, .ref xt, .int x_tl, .ref xq, .int x_lc, .ref rdr, .ref h0, .ref t0, .ref q0, .ref v0, .ref m0])), (xq, .inl (kA 5, 6, .inr (.inr (.inr (.inr xqF)))))]) hP hD
  refine zv .null (by rw [hsel]; rfl) ?_
  refine lv_astore_nN (lv' := [(3, .null), (0, .ref x0), (1, .int p0), (2, .int p1)]) hx hb dX10_tick_5 rfl hl (by decide) rfl (fun ls hl => ?_)
  refine lv_aload_nN hx hb dX10_tick_6 rfl (lv_at hl 0 rfl) ?_
  refine lv_ifnullN (tgt := 36) hx hb dX10_tick_7 (by decide) ?_
  refine lv_iconst (v := (-1)) hx hb dX10_tick_36 (by decide) ?_
  obtain ⟨hP9, hD9⟩ := z_sb (L' := [(x0, .inr (10, [.ref w0, .ref z0, .ref xi, .ref xt, .int x_tl, .ref xq, .int x_lc, .ref rdr, .ref h0, .ref t0, .ref q0, .ref v0, .ref m0])), (xq, .inl (kA 5, 6, .inr (.inr (.inr (.inr xqF)))))]) hP hD [0, 1] (by decide) rfl
  refine W.widen (k := 0) (n := 0) (Nat.le_of_ble_eq_true rfl) (Nat.le_of_ble_eq_true rfl) ?_
  exact W.iret (v := (-1)) hx hb hr (fun t ht hW => ⟨⟨(-1), (), rfl, rfl, by rw [ht]; exact hP9, hD9⟩, hS.F ht⟩) hS.2.2 dX10_tick_37
set_option maxHeartbeats 4000000 in
set_option maxRecDepth 100000 in
theorem mX10_melt_no (l : Launch) (dC : Nat → ClassId) (dI : Nat → Nat → Nat) (kA : Nat → ClassId) (sz : Nat) (x0 : Nat) (z0 : Nat) (xi : Nat) (xt : Nat) (xq : Nat) (rdr : Nat) (h0 : Nat) (t0 : Nat) (q0 : Nat) (v0 : Nat) (m0 : Nat) (w0 : Nat) (x_tl : Int32) (x_lc : Int32) (xqF : Nat → Option Nat) (p0 : Int32) (p1 : Int32) (hsel : (sel p0 x_lc xqF) = none) : Met l yX10_melt wsX10_melt ({ frames := 2, cells := 0, slots := 0, locals := 42 }) (zPc dC dI kA sz [.ref x0, .int p0, .int p1] [(x0, .inr (10, [.ref w0, .ref z0, .ref xi, .ref xt, .int x_tl, .ref xq, .int x_lc, .ref rdr, .ref h0, .ref t0, .ref q0, .ref v0, .ref m0])), (xq, .inl (kA 5, 6, .inr (.inr (.inr (.inr xqF)))))]) (va_Qi (fun (r : Int32) (u : Unit) => r = (-1)) (zB dC dI (va_A [(x0, .inr (10, [.ref w0, .ref z0, .ref xi, .ref xt, .int x_tl, .ref xq, .int x_lc, .ref rdr, .ref h0, .ref t0, .ref q0, .ref v0, .ref m0])), (xq, .inl (kA 5, 6, .inr (.inr (.inr (.inr xqF)))))] sz) (fun (u : Unit) => [(x0, .inr (10, [.ref w0, .ref z0, .ref xi, .ref xt, .int x_tl, .ref xq, .int x_lc, .ref rdr, .ref h0, .ref t0, .ref q0, .ref v0, .ref m0])), (xq, .inl (kA 5, 6, .inr (.inr (.inr (.inr xqF)))))])) (va_A [(x0, .inr (10, [.ref w0, .ref z0, .ref xi, .ref xt, .int x_tl, .ref xq, .int x_lc, .ref rdr, .ref h0, .ref t0, .ref q0, .ref v0, .ref m0])), (xq, .inl (kA 5, 6, .inr (.inr (.inr (.inr xqF)))))] sz)) 0 0 (va_A [(x0, .inr (10, [.ref w0, .ref z0, .ref xi, .ref xt, .int x_tl, .ref xq, .int x_lc, .ref rdr, .ref h0, .ref t0, .ref q0, .ref v0, .ref m0])), (xq, .inl (kA 5, 6, .inr (.inr (.inr (.inr xqF)))))] sz) := by
  refine Met.ofW (cc := cX10_melt) (maxL := 4) (ret := (some .int)) (by decide) rfl ?_
  intro p e s m args below meth c s₁ B hml hv
  obtain ⟨rfl, hsz, hP, hK, hD0⟩ := hv
  have hx := B.exec
  have hb := B.bytes
  have hr := B.returns
  have hts := atoms_spec (ws := wsX10_melt) B.pre
  have hown : s.vm.findClass RX10 = some m.cls := findClass_of_methodNamed B.named
  have hlocks := B.notSynchronized
  subst hsz
  have hD := hD0.self (sz := s.heap.size)
  generalize hAe : va_A [(x0, .inr (10, [.ref w0, .ref z0, .ref xi, .ref xt, .int x_tl, .ref xq, .int x_lc, .ref rdr, .ref h0, .ref t0, .ref q0, .ref v0, .ref m0])), (xq, .inl (kA 5, 6, .inr (.inr (.inr (.inr xqF)))))] s.heap.size = A at hD ⊢
  have hA : ∀ q : Nat, s.heap.size ≤ q → A q := fun q h => by rw [← hAe]; exact Or.inr h
  have hS : va_S A s.heap s.heap [] := va_S.rf
  have hP : va_P (dC, dI) vwCl [(x0, .inr (10, [.ref w0, .ref z0, .ref xi, .ref xt, .int x_tl, .ref xq, .int x_lc, .ref rdr, .ref h0, .ref t0, .ref q0, .ref v0, .ref m0])), (xq, .inl (kA 5, 6, .inr (.inr (.inr (.inr xqF)))))] s.heap := hP
  have hl := lv_entry ([.ref x0, .int p0, .int p1]) (n := 4) (Nat.le_of_ble_eq_true rfl)
  rw [lg_entry_eq]
  generalize (lg_sl ([.ref x0, .int p0, .int p1]) ++ List.replicate (4 - (lg_sl ([.ref x0, .int p0, .int p1])).length) Slot.unset).toArray = ls at hl ⊢
  have hl : lv_has ls 4 [(0, .ref x0), (1, .int p0), (2, .int p1)] := hl
  refine lv_aload_n hx hb dX10_melt_0 rfl (lv_at hl 0 rfl) ?_
  refine lv_iload_n hx hb dX10_melt_1 rfl (lv_at hl 1 rfl) ?_
  refine z_q (wr := []) (va_runV (As := [.int p0]) (rest := []) ⟨hx, hb, hml, hown, hts⟩ (mX10_lawOf l dC dI kA _ x0 z0 xi xt xq rdr h0 t0 q0 v0 m0 w0 x_tl x_lc xqF p0) (cwV 1 hts gX10_melt_X10_lawOf rfl rfl rfl ⟨rfl, hdX10_lawOf⟩ ⟨(Nat.le_of_ble_eq_true rfl), (Nat.le_of_ble_eq_true rfl)⟩) ⟨zPc.blind, va_recv hK.1 hP (ci := 10) (q0 := 0) rfl rfl, zPre hK (hP.sub [0, 1] rfl) (hD.sub [0, 1] (by decide) rfl)⟩ rfl rfl hl.1 rfl (lv_room (Nat.le_of_ble_eq_true rfl)) dX10_melt_2 ⟨(Nat.le_of_ble_eq_true rfl), (Nat.le_of_ble_eq_true rfl)⟩) hP hD hS hA [0, 1] [] rfl rfl (by decide) (by decide) (fun r3 u1 H locs hw2 hP hD hS => ?_)
  obtain rfl := hw2
  obtain ⟨hP, hD⟩ := z_re (L := [(x0, .inr (10, [.ref w0, .ref z0, .ref xi, .ref xt, .int x_tl, .ref xq, .int x_lc, .ref rdr, .ref h0, .ref t0, .ref q0, .ref v0, .ref m0])), (xq, .inl (kA 5, 6, .inr (.inr (.inr (.inr xqF)))))]) hP hD
  refine zv .null (by rw [hsel]; rfl) ?_
  refine lv_astore_nN (lv' := [(3, .null), (0, .ref x0), (1, .int p0), (2, .int p1)]) hx hb dX10_melt_5 rfl hl (by decide) rfl (fun ls hl => ?_)
  refine lv_aload_nN hx hb dX10_melt_6 rfl (lv_at hl 0 rfl) ?_
  refine lv_ifnullN (tgt := 41) hx hb dX10_melt_7 (by decide) ?_
  refine lv_iconst (v := (-1)) hx hb dX10_melt_41 (by decide) ?_
  obtain ⟨hP9, hD9⟩ := z_sb (L' := [(x0, .inr (10, [.ref w0, .ref z0, .ref xi, .ref xt, .int x_tl, .ref xq, .int x_lc, .ref rdr, .ref h0, .ref t0, .ref q0, .ref v0, .ref m0])), (xq, .inl (kA 5, 6, .inr (.inr (.inr (.inr xqF)))))]) hP hD [0, 1] (by decide) rfl
  refine W.widen (k := 0) (n := 0) (Nat.le_of_ble_eq_true rfl) (Nat.le_of_ble_eq_true rfl) ?_
  exact W.iret (v := (-1)) hx hb hr (fun t ht hW => ⟨⟨(-1), (), rfl, rfl, by rw [ht]; exact hP9, hD9⟩, hS.F ht⟩) hS.2.2 dX10_melt_42
set_option maxHeartbeats 4000000 in
set_option maxRecDepth 100000 in
theorem mX10_tried_no (l : Launch) (dC : Nat → ClassId) (dI : Nat → Nat → Nat) (kA : Nat → ClassId) (sz : Nat) (x0 : Nat) (z0 : Nat) (xi : Nat) (xt : Nat) (xq : Nat) (rdr : Nat) (h0 : Nat) (t0 : Nat) (q0 : Nat) (v0 : Nat) (m0 : Nat) (w0 : Nat) (x_tl : Int32) (x_lc : Int32) (xqF : Nat → Option Nat) (p0 : Int32) (p1 : Int32) (p2 : Int32) (p3 : Int32) (p4 : Int32) (p5 : Int32) (hsel : (sel p0 x_lc xqF) = none) : Met l yX10_tried wsX10_tried ({ frames := 2, cells := 0, slots := 0, locals := 42 }) (zPc dC dI kA sz [.ref x0, .int p0, .int p1, .int p2, .int p3, .int p4, .int p5] [(x0, .inr (10, [.ref w0, .ref z0, .ref xi, .ref xt, .int x_tl, .ref xq, .int x_lc, .ref rdr, .ref h0, .ref t0, .ref q0, .ref v0, .ref m0])), (xq, .inl (kA 5, 6, .inr (.inr (.inr (.inr xqF)))))]) (va_Qi (fun (r : Int32) (u : Unit) => r = (-1)) (zB dC dI (va_A [(x0, .inr (10, [.ref w0, .ref z0, .ref xi, .ref xt, .int x_tl, .ref xq, .int x_lc, .ref rdr, .ref h0, .ref t0, .ref q0, .ref v0, .ref m0])), (xq, .inl (kA 5, 6, .inr (.inr (.inr (.inr xqF)))))] sz) (fun (u : Unit) => [(x0, .inr (10, [.ref w0, .ref z0, .ref xi, .ref xt, .int x_tl, .ref xq, .int x_lc, .ref rdr, .ref h0, .ref t0, .ref q0, .ref v0, .ref m0])), (xq, .inl (kA 5, 6, .inr (.inr (.inr (.inr xqF)))))])) (va_A [(x0, .inr (10, [.ref w0, .ref z0, .ref xi, .ref xt, .int x_tl, .ref xq, .int x_lc, .ref rdr, .ref h0, .ref t0, .ref q0, .ref v0, .ref m0])), (xq, .inl (kA 5, 6, .inr (.inr (.inr (.inr xqF)))))] sz)) 0 0 (va_A [(x0, .inr (10, [.ref w0, .ref z0, .ref xi, .ref xt, .int x_tl, .ref xq, .int x_lc, .ref rdr, .ref h0, .ref t0, .ref q0, .ref v0, .ref m0])), (xq, .inl (kA 5, 6, .inr (.inr (.inr (.inr xqF)))))] sz) := by
  refine Met.ofW (cc := cX10_tried) (maxL := 8) (ret := (some .int)) (by decide) rfl ?_
  intro p e s m args below meth c s₁ B hml hv
  obtain ⟨rfl, hsz, hP, hK, hD0⟩ := hv
  have hx := B.exec
  have hb := B.bytes
  have hr := B.returns
  have hts := atoms_spec (ws := wsX10_tried) B.pre
  have hown : s.vm.findClass RX10 = some m.cls := findClass_of_methodNamed B.named
  have hlocks := B.notSynchronized
  subst hsz
  have hD := hD0.self (sz := s.heap.size)
  generalize hAe : va_A [(x0, .inr (10, [.ref w0, .ref z0, .ref xi, .ref xt, .int x_tl, .ref xq, .int x_lc, .ref rdr, .ref h0, .ref t0, .ref q0, .ref v0, .ref m0])), (xq, .inl (kA 5, 6, .inr (.inr (.inr (.inr xqF)))))] s.heap.size = A at hD ⊢
  have hA : ∀ q : Nat, s.heap.size ≤ q → A q := fun q h => by rw [← hAe]; exact Or.inr h
  have hS : va_S A s.heap s.heap [] := va_S.rf
  have hP : va_P (dC, dI) vwCl [(x0, .inr (10, [.ref w0, .ref z0, .ref xi, .ref xt, .int x_tl, .ref xq, .int x_lc, .ref rdr, .ref h0, .ref t0, .ref q0, .ref v0, .ref m0])), (xq, .inl (kA 5, 6, .inr (.inr (.inr (.inr xqF)))))] s.heap := hP
  have hl := lv_entry ([.ref x0, .int p0, .int p1, .int p2, .int p3, .int p4, .int p5]) (n := 8) (Nat.le_of_ble_eq_true rfl)
  rw [lg_entry_eq]
  generalize (lg_sl ([.ref x0, .int p0, .int p1, .int p2, .int p3, .int p4, .int p5]) ++ List.replicate (8 - (lg_sl ([.ref x0, .int p0, .int p1, .int p2, .int p3, .int p4, .int p5])).length) Slot.unset).toArray = ls at hl ⊢
  have hl : lv_has ls 8 [(0, .ref x0), (1, .int p0), (2, .int p1), (3, .int p2), (4, .int p3), (5, .int p4), (6, .int p5)] := hl
  refine lv_aload_n hx hb dX10_tried_0 rfl (lv_at hl 0 rfl) ?_
  refine lv_iload_n hx hb dX10_tried_1 rfl (lv_at hl 1 rfl) ?_
  refine z_q (wr := []) (va_runV (As := [.int p0]) (rest := []) ⟨hx, hb, hml, hown, hts⟩ (mX10_lawOf l dC dI kA _ x0 z0 xi xt xq rdr h0 t0 q0 v0 m0 w0 x_tl x_lc xqF p0) (cwV 1 hts gX10_tried_X10_lawOf rfl rfl rfl ⟨rfl, hdX10_lawOf⟩ ⟨(Nat.le_of_ble_eq_true rfl), (Nat.le_of_ble_eq_true rfl)⟩) ⟨zPc.blind, va_recv hK.1 hP (ci := 10) (q0 := 0) rfl rfl, zPre hK (hP.sub [0, 1] rfl) (hD.sub [0, 1] (by decide) rfl)⟩ rfl rfl hl.1 rfl (lv_room (Nat.le_of_ble_eq_true rfl)) dX10_tried_2 ⟨(Nat.le_of_ble_eq_true rfl), (Nat.le_of_ble_eq_true rfl)⟩) hP hD hS hA [0, 1] [] rfl rfl (by decide) (by decide) (fun r3 u1 H locs hw2 hP hD hS => ?_)
  obtain rfl := hw2
  obtain ⟨hP, hD⟩ := z_re (L := [(x0, .inr (10, [.ref w0, .ref z0, .ref xi, .ref xt, .int x_tl, .ref xq, .int x_lc, .ref rdr, .ref h0, .ref t0, .ref q0, .ref v0, .ref m0])), (xq, .inl (kA 5, 6, .inr (.inr (.inr (.inr xqF)))))]) hP hD
  refine zv .null (by rw [hsel]; rfl) ?_
  refine lv_astoreN (lv' := [(7, .null), (0, .ref x0), (1, .int p0), (2, .int p1), (3, .int p2), (4, .int p3), (5, .int p4), (6, .int p5)]) hx hb dX10_tried_5 hl (by decide) rfl (fun ls hl => ?_)
  refine lv_aloadN hx hb dX10_tried_7 (lv_at hl 0 rfl) ?_
  refine lv_ifnullN (tgt := 44) hx hb dX10_tried_9 (by decide) ?_
  refine lv_iconst (v := (-1)) hx hb dX10_tried_44 (by decide) ?_
  obtain ⟨hP9, hD9⟩ := z_sb (L' := [(x0, .inr (10, [.ref w0, .ref z0, .ref xi, .ref xt, .int x_tl, .ref xq, .int x_lc, .ref rdr, .ref h0, .ref t0, .ref q0, .ref v0, .ref m0])), (xq, .inl (kA 5, 6, .inr (.inr (.inr (.inr xqF)))))]) hP hD [0, 1] (by decide) rfl
  refine W.widen (k := 0) (n := 0) (Nat.le_of_ble_eq_true rfl) (Nat.le_of_ble_eq_true rfl) ?_
  exact W.iret (v := (-1)) hx hb hr (fun t ht hW => ⟨⟨(-1), (), rfl, rfl, by rw [ht]; exact hP9, hD9⟩, hS.F ht⟩) hS.2.2 dX10_tried_45
set_option maxHeartbeats 4000000 in
set_option maxRecDepth 100000 in
theorem mX10_best_no (l : Launch) (dC : Nat → ClassId) (dI : Nat → Nat → Nat) (kA : Nat → ClassId) (sz : Nat) (x0 : Nat) (z0 : Nat) (xi : Nat) (xt : Nat) (xq : Nat) (rdr : Nat) (h0 : Nat) (t0 : Nat) (q0 : Nat) (v0 : Nat) (m0 : Nat) (w0 : Nat) (x_tl : Int32) (x_lc : Int32) (xqF : Nat → Option Nat) (p0 : Int32) (p1 : Int32) (p2 : Int32) (p3 : Int32) (p4 : Int32) (p5 : Int32) (p6 : Int32) (p7 : Int32) (hsel : (sel p0 x_lc xqF) = none) : Met l yX10_best wsX10_best ({ frames := 2, cells := 0, slots := 0, locals := 42 }) (zPc dC dI kA sz [.ref x0, .int p0, .int p1, .int p2, .int p3, .int p4, .int p5, .int p6, .int p7] [(x0, .inr (10, [.ref w0, .ref z0, .ref xi, .ref xt, .int x_tl, .ref xq, .int x_lc, .ref rdr, .ref h0, .ref t0, .ref q0, .ref v0, .ref m0])), (xq, .inl (kA 5, 6, .inr (.inr (.inr (.inr xqF)))))]) (va_Qi (fun (r : Int32) (u : Unit) => r = (-1)) (zB dC dI (va_A [(x0, .inr (10, [.ref w0, .ref z0, .ref xi, .ref xt, .int x_tl, .ref xq, .int x_lc, .ref rdr, .ref h0, .ref t0, .ref q0, .ref v0, .ref m0])), (xq, .inl (kA 5, 6, .inr (.inr (.inr (.inr xqF)))))] sz) (fun (u : Unit) => [(x0, .inr (10, [.ref w0, .ref z0, .ref xi, .ref xt, .int x_tl, .ref xq, .int x_lc, .ref rdr, .ref h0, .ref t0, .ref q0, .ref v0, .ref m0])), (xq, .inl (kA 5, 6, .inr (.inr (.inr (.inr xqF)))))])) (va_A [(x0, .inr (10, [.ref w0, .ref z0, .ref xi, .ref xt, .int x_tl, .ref xq, .int x_lc, .ref rdr, .ref h0, .ref t0, .ref q0, .ref v0, .ref m0])), (xq, .inl (kA 5, 6, .inr (.inr (.inr (.inr xqF)))))] sz)) 0 0 (va_A [(x0, .inr (10, [.ref w0, .ref z0, .ref xi, .ref xt, .int x_tl, .ref xq, .int x_lc, .ref rdr, .ref h0, .ref t0, .ref q0, .ref v0, .ref m0])), (xq, .inl (kA 5, 6, .inr (.inr (.inr (.inr xqF)))))] sz) := by
  refine Met.ofW (cc := cX10_best) (maxL := 10) (ret := (some .int)) (by decide) rfl ?_
  intro p e s m args below meth c s₁ B hml hv
  obtain ⟨rfl, hsz, hP, hK, hD0⟩ := hv
  have hx := B.exec
  have hb := B.bytes
  have hr := B.returns
  have hts := atoms_spec (ws := wsX10_best) B.pre
  have hown : s.vm.findClass RX10 = some m.cls := findClass_of_methodNamed B.named
  have hlocks := B.notSynchronized
  subst hsz
  have hD := hD0.self (sz := s.heap.size)
  generalize hAe : va_A [(x0, .inr (10, [.ref w0, .ref z0, .ref xi, .ref xt, .int x_tl, .ref xq, .int x_lc, .ref rdr, .ref h0, .ref t0, .ref q0, .ref v0, .ref m0])), (xq, .inl (kA 5, 6, .inr (.inr (.inr (.inr xqF)))))] s.heap.size = A at hD ⊢
  have hA : ∀ q : Nat, s.heap.size ≤ q → A q := fun q h => by rw [← hAe]; exact Or.inr h
  have hS : va_S A s.heap s.heap [] := va_S.rf
  have hP : va_P (dC, dI) vwCl [(x0, .inr (10, [.ref w0, .ref z0, .ref xi, .ref xt, .int x_tl, .ref xq, .int x_lc, .ref rdr, .ref h0, .ref t0, .ref q0, .ref v0, .ref m0])), (xq, .inl (kA 5, 6, .inr (.inr (.inr (.inr xqF)))))] s.heap := hP
  have hl := lv_entry ([.ref x0, .int p0, .int p1, .int p2, .int p3, .int p4, .int p5, .int p6, .int p7]) (n := 10) (Nat.le_of_ble_eq_true rfl)
  rw [lg_entry_eq]
  generalize (lg_sl ([.ref x0, .int p0, .int p1, .int p2, .int p3, .int p4, .int p5, .int p6, .int p7]) ++ List.replicate (10 - (lg_sl ([.ref x0, .int p0, .int p1, .int p2, .int p3, .int p4, .int p5, .int p6, .int p7])).length) Slot.unset).toArray = ls at hl ⊢
  have hl : lv_has ls 10 [(0, .ref x0), (1, .int p0), (2, .int p1), (3, .int p2), (4, .int p3), (5, .int p4), (6, .int p5), (7, .int p6), (8, .int p7)] := hl
  refine lv_aload_n hx hb dX10_best_0 rfl (lv_at hl 0 rfl) ?_
  refine lv_iload_n hx hb dX10_best_1 rfl (lv_at hl 1 rfl) ?_
  refine z_q (wr := []) (va_runV (As := [.int p0]) (rest := []) ⟨hx, hb, hml, hown, hts⟩ (mX10_lawOf l dC dI kA _ x0 z0 xi xt xq rdr h0 t0 q0 v0 m0 w0 x_tl x_lc xqF p0) (cwV 1 hts gX10_best_X10_lawOf rfl rfl rfl ⟨rfl, hdX10_lawOf⟩ ⟨(Nat.le_of_ble_eq_true rfl), (Nat.le_of_ble_eq_true rfl)⟩) ⟨zPc.blind, va_recv hK.1 hP (ci := 10) (q0 := 0) rfl rfl, zPre hK (hP.sub [0, 1] rfl) (hD.sub [0, 1] (by decide) rfl)⟩ rfl rfl hl.1 rfl (lv_room (Nat.le_of_ble_eq_true rfl)) dX10_best_2 ⟨(Nat.le_of_ble_eq_true rfl), (Nat.le_of_ble_eq_true rfl)⟩) hP hD hS hA [0, 1] [] rfl rfl (by decide) (by decide) (fun r3 u1 H locs hw2 hP hD hS => ?_)
  obtain rfl := hw2
  obtain ⟨hP, hD⟩ := z_re (L := [(x0, .inr (10, [.ref w0, .ref z0, .ref xi, .ref xt, .int x_tl, .ref xq, .int x_lc, .ref rdr, .ref h0, .ref t0, .ref q0, .ref v0, .ref m0])), (xq, .inl (kA 5, 6, .inr (.inr (.inr (.inr xqF)))))]) hP hD
  refine zv .null (by rw [hsel]; rfl) ?_
  refine lv_astoreN (lv' := [(9, .null), (0, .ref x0), (1, .int p0), (2, .int p1), (3, .int p2), (4, .int p3), (5, .int p4), (6, .int p5), (7, .int p6), (8, .int p7)]) hx hb dX10_best_5 hl (by decide) rfl (fun ls hl => ?_)
  refine lv_aloadN hx hb dX10_best_7 (lv_at hl 0 rfl) ?_
  refine lv_ifnullN (tgt := 45) hx hb dX10_best_9 (by decide) ?_
  refine lv_iconst (v := (-1)) hx hb dX10_best_45 (by decide) ?_
  obtain ⟨hP9, hD9⟩ := z_sb (L' := [(x0, .inr (10, [.ref w0, .ref z0, .ref xi, .ref xt, .int x_tl, .ref xq, .int x_lc, .ref rdr, .ref h0, .ref t0, .ref q0, .ref v0, .ref m0])), (xq, .inl (kA 5, 6, .inr (.inr (.inr (.inr xqF)))))]) hP hD [0, 1] (by decide) rfl
  refine W.widen (k := 0) (n := 0) (Nat.le_of_ble_eq_true rfl) (Nat.le_of_ble_eq_true rfl) ?_
  exact W.iret (v := (-1)) hx hb hr (fun t ht hW => ⟨⟨(-1), (), rfl, rfl, by rw [ht]; exact hP9, hD9⟩, hS.F ht⟩) hS.2.2 dX10_best_46
set_option maxHeartbeats 4000000 in
set_option maxRecDepth 100000 in
theorem mX10_warmer_no (l : Launch) (dC : Nat → ClassId) (dI : Nat → Nat → Nat) (kA : Nat → ClassId) (sz : Nat) (x0 : Nat) (z0 : Nat) (xi : Nat) (xt : Nat) (xq : Nat) (rdr : Nat) (h0 : Nat) (t0 : Nat) (q0 : Nat) (v0 : Nat) (m0 : Nat) (w0 : Nat) (x_tl : Int32) (x_lc : Int32) (xqF : Nat → Option Nat) (p0 : Int32) (p1 : Int32) (p2 : Int32) (p3 : Int32) (p4 : Int32) (p5 : Int32) (hsel : (sel p0 x_lc xqF) = none) : Met l yX10_warmer wsX10_warmer ({ frames := 3, cells := 0, slots := 0, locals := 65 }) (zPc dC dI kA sz [.ref x0, .int p0, .int p1, .int p2, .int p3, .int p4, .int p5] [(x0, .inr (10, [.ref w0, .ref z0, .ref xi, .ref xt, .int x_tl, .ref xq, .int x_lc, .ref rdr, .ref h0, .ref t0, .ref q0, .ref v0, .ref m0])), (xq, .inl (kA 5, 6, .inr (.inr (.inr (.inr xqF)))))]) (va_Qi (fun (r : Int32) (u : Unit) => r = (-1)) (zB dC dI (va_A [(x0, .inr (10, [.ref w0, .ref z0, .ref xi, .ref xt, .int x_tl, .ref xq, .int x_lc, .ref rdr, .ref h0, .ref t0, .ref q0, .ref v0, .ref m0])), (xq, .inl (kA 5, 6, .inr (.inr (.inr (.inr xqF)))))] sz) (fun (u : Unit) => [(x0, .inr (10, [.ref w0, .ref z0, .ref xi, .ref xt, .int x_tl, .ref xq, .int x_lc, .ref rdr, .ref h0, .ref t0, .ref q0, .ref v0, .ref m0])), (xq, .inl (kA 5, 6, .inr (.inr (.inr (.inr xqF)))))])) (va_A [(x0, .inr (10, [.ref w0, .ref z0, .ref xi, .ref xt, .int x_tl, .ref xq, .int x_lc, .ref rdr, .ref h0, .ref t0, .ref q0, .ref v0, .ref m0])), (xq, .inl (kA 5, 6, .inr (.inr (.inr (.inr xqF)))))] sz)) 0 0 (va_A [(x0, .inr (10, [.ref w0, .ref z0, .ref xi, .ref xt, .int x_tl, .ref xq, .int x_lc, .ref rdr, .ref h0, .ref t0, .ref q0, .ref v0, .ref m0])), (xq, .inl (kA 5, 6, .inr (.inr (.inr (.inr xqF)))))] sz) := by
  refine Met.ofW (cc := cX10_warmer) (maxL := 10) (ret := (some .int)) (by decide) rfl ?_
  intro p e s m args below meth c s₁ B hml hv
  obtain ⟨rfl, hsz, hP, hK, hD0⟩ := hv
  have hx := B.exec
  have hb := B.bytes
  have hr := B.returns
  have hts := atoms_spec (ws := wsX10_warmer) B.pre
  have hown : s.vm.findClass RX10 = some m.cls := findClass_of_methodNamed B.named
  have hlocks := B.notSynchronized
  subst hsz
  have hD := hD0.self (sz := s.heap.size)
  generalize hAe : va_A [(x0, .inr (10, [.ref w0, .ref z0, .ref xi, .ref xt, .int x_tl, .ref xq, .int x_lc, .ref rdr, .ref h0, .ref t0, .ref q0, .ref v0, .ref m0])), (xq, .inl (kA 5, 6, .inr (.inr (.inr (.inr xqF)))))] s.heap.size = A at hD ⊢
  have hA : ∀ q : Nat, s.heap.size ≤ q → A q := fun q h => by rw [← hAe]; exact Or.inr h
  have hS : va_S A s.heap s.heap [] := va_S.rf
  have hP : va_P (dC, dI) vwCl [(x0, .inr (10, [.ref w0, .ref z0, .ref xi, .ref xt, .int x_tl, .ref xq, .int x_lc, .ref rdr, .ref h0, .ref t0, .ref q0, .ref v0, .ref m0])), (xq, .inl (kA 5, 6, .inr (.inr (.inr (.inr xqF)))))] s.heap := hP
  have hl := lv_entry ([.ref x0, .int p0, .int p1, .int p2, .int p3, .int p4, .int p5]) (n := 10) (Nat.le_of_ble_eq_true rfl)
  rw [lg_entry_eq]
  generalize (lg_sl ([.ref x0, .int p0, .int p1, .int p2, .int p3, .int p4, .int p5]) ++ List.replicate (10 - (lg_sl ([.ref x0, .int p0, .int p1, .int p2, .int p3, .int p4, .int p5])).length) Slot.unset).toArray = ls at hl ⊢
  have hl : lv_has ls 10 [(0, .ref x0), (1, .int p0), (2, .int p1), (3, .int p2), (4, .int p3), (5, .int p4), (6, .int p5)] := hl
  refine lv_aload_n hx hb dX10_warmer_0 rfl (lv_at hl 0 rfl) ?_
  refine lv_iload_n hx hb dX10_warmer_1 rfl (lv_at hl 1 rfl) ?_
  refine z_q (wr := []) (va_runV (As := [.int p0]) (rest := []) ⟨hx, hb, hml, hown, hts⟩ (mX10_lawOf l dC dI kA _ x0 z0 xi xt xq rdr h0 t0 q0 v0 m0 w0 x_tl x_lc xqF p0) (cwV 1 hts gX10_warmer_X10_lawOf rfl rfl rfl ⟨rfl, hdX10_lawOf⟩ ⟨(Nat.le_of_ble_eq_true rfl), (Nat.le_of_ble_eq_true rfl)⟩) ⟨zPc.blind, va_recv hK.1 hP (ci := 10) (q0 := 0) rfl rfl, zPre hK (hP.sub [0, 1] rfl) (hD.sub [0, 1] (by decide) rfl)⟩ rfl rfl hl.1 rfl (lv_room (Nat.le_of_ble_eq_true rfl)) dX10_warmer_2 ⟨(Nat.le_of_ble_eq_true rfl), (Nat.le_of_ble_eq_true rfl)⟩) hP hD hS hA [0, 1] [] rfl rfl (by decide) (by decide) (fun r3 u1 H locs hw2 hP hD hS => ?_)
  obtain rfl := hw2
  obtain ⟨hP, hD⟩ := z_re (L := [(x0, .inr (10, [.ref w0, .ref z0, .ref xi, .ref xt, .int x_tl, .ref xq, .int x_lc, .ref rdr, .ref h0, .ref t0, .ref q0, .ref v0, .ref m0])), (xq, .inl (kA 5, 6, .inr (.inr (.inr (.inr xqF)))))]) hP hD
  refine zv .null (by rw [hsel]; rfl) ?_
  refine lv_astoreN (lv' := [(7, .null), (0, .ref x0), (1, .int p0), (2, .int p1), (3, .int p2), (4, .int p3), (5, .int p4), (6, .int p5)]) hx hb dX10_warmer_5 hl (by decide) rfl (fun ls hl => ?_)
  refine lv_iload_n hx hb dX10_warmer_7 rfl (lv_at hl 3 rfl) ?_
  refine lv_iload_n hx hb dX10_warmer_8 rfl (lv_at hl 4 rfl) ?_
  refine lv_iload hx hb dX10_warmer_9 (lv_at hl 5 rfl) ?_
  refine lv_iload hx hb dX10_warmer_11 (lv_at hl 6 rfl) ?_
  refine z_i (wr := [(x0, .inr (10, [.ref w0, .ref z0, .ref xi, .ref xt, .int x_tl, .ref xq, .int x_lc, .ref rdr, .ref h0, .ref t0, .ref q0, .ref v0, .ref m0])), (xq, .inl (kA 5, 6, .inr (.inr (.inr (.inr xqF)))))]) (va_runS (As := [.int p1, .int p2, .int p3, .int p4]) (rest := []) ⟨hx, hb, hml, hown, hts⟩ (mX10_isLoad l dC dI kA _ p1 p2 p3 p4) (va_cwS 4 hts gX10_warmer_X10_isLoad rfl rfl rfl hdX10_isLoad ⟨(Nat.le_of_ble_eq_true rfl), (Nat.le_of_ble_eq_true rfl)⟩) ⟨zPc.blind, zPre hK (hP.sub [] rfl) (hD.sub [] (by decide) rfl)⟩ rfl rfl hl.1 rfl (lv_room (Nat.le_of_ble_eq_true rfl)) dX10_warmer_13 ⟨(Nat.le_of_ble_eq_true rfl), (Nat.le_of_ble_eq_true rfl)⟩) hP hD hS hA [] [0, 1] rfl rfl (by decide) (by decide) (fun r6 u4 H locs hw5 hP hD hS => ?_)
  obtain ⟨er10, hp8, hp9⟩ := hw5
  have er10 : r6 = u4 := er10
  subst er10
  obtain ⟨hP, hD⟩ := z_re (L := [(x0, .inr (10, [.ref w0, .ref z0, .ref xi, .ref xt, .int x_tl, .ref xq, .int x_lc, .ref rdr, .ref h0, .ref t0, .ref q0, .ref v0, .ref m0])), (xq, .inl (kA 5, 6, .inr (.inr (.inr (.inr xqF)))))]) hP hD
  refine lv_if_eq (tgt := 33) hx hb dX10_warmer_16 (by decide) (fun c_11 => ?_) (fun c_11 => ?_)
  · refine lv_iconst (v := 0) hx hb dX10_warmer_33 (by decide) ?_
    refine lv_istore (lv' := [(8, .int 0), (7, .null), (0, .ref x0), (1, .int p0), (2, .int p1), (3, .int p2), (4, .int p3), (5, .int p4), (6, .int p5)]) hx hb dX10_warmer_34 hl (by decide) rfl (fun ls hl => ?_)
    refine lv_aloadN hx hb dX10_warmer_36 (lv_at hl 1 rfl) ?_
    refine lv_ifnullN (tgt := 57) hx hb dX10_warmer_38 (by decide) ?_
    refine lv_iconst (v := (-1)) hx hb dX10_warmer_57 (by decide) ?_
    obtain ⟨hP9, hD9⟩ := z_sb (L' := [(x0, .inr (10, [.ref w0, .ref z0, .ref xi, .ref xt, .int x_tl, .ref xq, .int x_lc, .ref rdr, .ref h0, .ref t0, .ref q0, .ref v0, .ref m0])), (xq, .inl (kA 5, 6, .inr (.inr (.inr (.inr xqF)))))]) hP hD [0, 1] (by decide) rfl
    refine W.widen (k := 0) (n := 0) (Nat.le_of_ble_eq_true rfl) (Nat.le_of_ble_eq_true rfl) ?_
    exact W.iret (v := (-1)) hx hb hr (fun t ht hW => ⟨⟨(-1), (), rfl, rfl, by rw [ht]; exact hP9, hD9⟩, hS.F ht⟩) hS.2.2 dX10_warmer_58
  · refine lv_iload hx hb dX10_warmer_19 (lv_at hl 7 rfl) ?_
    refine lv_ldc hx hb hown (kX10_warmer_1 hts) dX10_warmer_21 ?_
    refine z_i (wr := [(x0, .inr (10, [.ref w0, .ref z0, .ref xi, .ref xt, .int x_tl, .ref xq, .int x_lc, .ref rdr, .ref h0, .ref t0, .ref q0, .ref v0, .ref m0])), (xq, .inl (kA 5, 6, .inr (.inr (.inr (.inr xqF)))))]) (va_runS (As := [.int p5, .int 99999]) (rest := []) ⟨hx, hb, hml, hown, hts⟩ (mX10_within l dC dI kA _ p5 99999) (va_cwS 2 hts gX10_warmer_X10_within rfl rfl rfl hdX10_within ⟨(Nat.le_of_ble_eq_true rfl), (Nat.le_of_ble_eq_true rfl)⟩) ⟨zPc.blind, zPre hK (hP.sub [] rfl) (hD.sub [] (by decide) rfl)⟩ rfl rfl hl.1 rfl (lv_room (Nat.le_of_ble_eq_true rfl)) dX10_warmer_23 ⟨(Nat.le_of_ble_eq_true rfl), (Nat.le_of_ble_eq_true rfl)⟩) hP hD hS hA [] [0, 1] rfl rfl (by decide) (by decide) (fun r14 u12 H locs hw13 hP hD hS => ?_)
    obtain rfl := hw13
    obtain ⟨hP, hD⟩ := z_re (L := [(x0, .inr (10, [.ref w0, .ref z0, .ref xi, .ref xt, .int x_tl, .ref xq, .int x_lc, .ref rdr, .ref h0, .ref t0, .ref q0, .ref v0, .ref m0])), (xq, .inl (kA 5, 6, .inr (.inr (.inr (.inr xqF)))))]) hP hD
    refine lv_if_eq (tgt := 33) hx hb dX10_warmer_26 (by decide) (fun c_15 => ?_) (fun c_15 => ?_)
    · refine lv_iconst (v := 0) hx hb dX10_warmer_33 (by decide) ?_
      refine lv_istore (lv' := [(8, .int 0), (7, .null), (0, .ref x0), (1, .int p0), (2, .int p1), (3, .int p2), (4, .int p3), (5, .int p4), (6, .int p5)]) hx hb dX10_warmer_34 hl (by decide) rfl (fun ls hl => ?_)
      refine lv_aloadN hx hb dX10_warmer_36 (lv_at hl 1 rfl) ?_
      refine lv_ifnullN (tgt := 57) hx hb dX10_warmer_38 (by decide) ?_
      refine lv_iconst (v := (-1)) hx hb dX10_warmer_57 (by decide) ?_
      obtain ⟨hP9, hD9⟩ := z_sb (L' := [(x0, .inr (10, [.ref w0, .ref z0, .ref xi, .ref xt, .int x_tl, .ref xq, .int x_lc, .ref rdr, .ref h0, .ref t0, .ref q0, .ref v0, .ref m0])), (xq, .inl (kA 5, 6, .inr (.inr (.inr (.inr xqF)))))]) hP hD [0, 1] (by decide) rfl
      refine W.widen (k := 0) (n := 0) (Nat.le_of_ble_eq_true rfl) (Nat.le_of_ble_eq_true rfl) ?_
      exact W.iret (v := (-1)) hx hb hr (fun t ht hW => ⟨⟨(-1), (), rfl, rfl, by rw [ht]; exact hP9, hD9⟩, hS.F ht⟩) hS.2.2 dX10_warmer_58
    · have c_15a := wi_ne c_15
      have c_15b := c_15a.2
      have c_15a := c_15a.1
      refine lv_iconst (v := 1) hx hb dX10_warmer_29 (by decide) ?_
      refine lv_goto (tgt := 34) hx hb dX10_warmer_30 (by decide) ?_
      refine lv_istore (lv' := [(8, .int 1), (7, .null), (0, .ref x0), (1, .int p0), (2, .int p1), (3, .int p2), (4, .int p3), (5, .int p4), (6, .int p5)]) hx hb dX10_warmer_34 hl (by decide) rfl (fun ls hl => ?_)
      refine lv_aloadN hx hb dX10_warmer_36 (lv_at hl 1 rfl) ?_
      refine lv_ifnullN (tgt := 57) hx hb dX10_warmer_38 (by decide) ?_
      refine lv_iconst (v := (-1)) hx hb dX10_warmer_57 (by decide) ?_
      obtain ⟨hP9, hD9⟩ := z_sb (L' := [(x0, .inr (10, [.ref w0, .ref z0, .ref xi, .ref xt, .int x_tl, .ref xq, .int x_lc, .ref rdr, .ref h0, .ref t0, .ref q0, .ref v0, .ref m0])), (xq, .inl (kA 5, 6, .inr (.inr (.inr (.inr xqF)))))]) hP hD [0, 1] (by decide) rfl
      refine W.widen (k := 0) (n := 0) (Nat.le_of_ble_eq_true rfl) (Nat.le_of_ble_eq_true rfl) ?_
      exact W.iret (v := (-1)) hx hb hr (fun t ht hW => ⟨⟨(-1), (), rfl, rfl, by rw [ht]; exact hP9, hD9⟩, hS.F ht⟩) hS.2.2 dX10_warmer_58
set_option maxHeartbeats 4000000 in
set_option maxRecDepth 100000 in
theorem mX10_guess_no (l : Launch) (dC : Nat → ClassId) (dI : Nat → Nat → Nat) (kA : Nat → ClassId) (sz : Nat) (x0 : Nat) (z0 : Nat) (xi : Nat) (xt : Nat) (xq : Nat) (rdr : Nat) (h0 : Nat) (t0 : Nat) (q0 : Nat) (v0 : Nat) (m0 : Nat) (w0 : Nat) (x_tl : Int32) (x_lc : Int32) (xqF : Nat → Option Nat) (tnodes : Nat) (tpasses : Nat) (tjars : Nat) (torders : Nat) (tfeasts : Nat) (tway : Nat) (twayA : Nat) (twayS : Int32) (tws : Int32) (tnow : Int32) (tfm : Int32) (tx : Int32) (p0 : Int32) (p1 : Int32) (p2 : Int32) (p3 : Int32) (p4 : Int32) (p5 : Int32) (p6 : Int32) (p7 : Int32) (p8 : Int32) (hsel : (sel p0 x_lc xqF) = none) : Met l yX10_guess wsX10_guess ({ frames := 2, cells := 0, slots := 0, locals := 42 }) (zPc dC dI kA sz [.ref x0, .int p0, .int p1, .int p2, .int p3, .int p4, .int p5, .int p6, .int p7, .int p8] [(x0, .inr (10, [.ref w0, .ref z0, .ref xi, .ref xt, .int x_tl, .ref xq, .int x_lc, .ref rdr, .ref h0, .ref t0, .ref q0, .ref v0, .ref m0])), (xq, .inl (kA 5, 6, .inr (.inr (.inr (.inr xqF))))), (w0, .inr (9, [.ref tnodes, .ref tpasses, .ref tjars, .ref torders, .ref tfeasts, .ref tway, .int tws, .int tnow, .int tfm, .int tx])), (tway, .inr (6, [.int 1, .ref twayA, .int twayS]))]) (va_Qi (fun (r : Int32) (u : Unit) => r = (-1)) (zB dC dI (va_A [(x0, .inr (10, [.ref w0, .ref z0, .ref xi, .ref xt, .int x_tl, .ref xq, .int x_lc, .ref rdr, .ref h0, .ref t0, .ref q0, .ref v0, .ref m0])), (xq, .inl (kA 5, 6, .inr (.inr (.inr (.inr xqF))))), (w0, .inr (9, [.ref tnodes, .ref tpasses, .ref tjars, .ref torders, .ref tfeasts, .ref tway, .int tws, .int tnow, .int tfm, .int tx])), (tway, .inr (6, [.int 1, .ref twayA, .int twayS]))] sz) (fun (u : Unit) => [(x0, .inr (10, [.ref w0, .ref z0, .ref xi, .ref xt, .int x_tl, .ref xq, .int x_lc, .ref rdr, .ref h0, .ref t0, .ref q0, .ref v0, .ref m0])), (xq, .inl (kA 5, 6, .inr (.inr (.inr (.inr xqF))))), (w0, .inr (9, [.ref tnodes, .ref tpasses, .ref tjars, .ref torders, .ref tfeasts, .ref tway, .int tws, .int tnow, .int tfm, .int tx])), (tway, .inr (6, [.int 1, .ref twayA, .int twayS]))])) (va_A [(x0, .inr (10, [.ref w0, .ref z0, .ref xi, .ref xt, .int x_tl, .ref xq, .int x_lc, .ref rdr, .ref h0, .ref t0, .ref q0, .ref v0, .ref m0])), (xq, .inl (kA 5, 6, .inr (.inr (.inr (.inr xqF))))), (w0, .inr (9, [.ref tnodes, .ref tpasses, .ref tjars, .ref torders, .ref tfeasts, .ref tway, .int tws, .int tnow, .int tfm, .int tx])), (tway, .inr (6, [.int 1, .ref twayA, .int twayS]))] sz)) 0 0 (va_A [(x0, .inr (10, [.ref w0, .ref z0, .ref xi, .ref xt, .int x_tl, .ref xq, .int x_lc, .ref rdr, .ref h0, .ref t0, .ref q0, .ref v0, .ref m0])), (xq, .inl (kA 5, 6, .inr (.inr (.inr (.inr xqF))))), (w0, .inr (9, [.ref tnodes, .ref tpasses, .ref tjars, .ref torders, .ref tfeasts, .ref tway, .int tws, .int tnow, .int tfm, .int tx])), (tway, .inr (6, [.int 1, .ref twayA, .int twayS]))] sz) := by
  refine Met.ofW (cc := cX10_guess) (maxL := 13) (ret := (some .int)) (by decide) rfl ?_
  intro p e s m args below meth c s₁ B hml hv
  obtain ⟨rfl, hsz, hP, hK, hD0⟩ := hv
  have hx := B.exec
  have hb := B.bytes
  have hr := B.returns
  have hts := atoms_spec (ws := wsX10_guess) B.pre
  have hown : s.vm.findClass RX10 = some m.cls := findClass_of_methodNamed B.named
  have hlocks := B.notSynchronized
  subst hsz
  have hD := hD0.self (sz := s.heap.size)
  generalize hAe : va_A [(x0, .inr (10, [.ref w0, .ref z0, .ref xi, .ref xt, .int x_tl, .ref xq, .int x_lc, .ref rdr, .ref h0, .ref t0, .ref q0, .ref v0, .ref m0])), (xq, .inl (kA 5, 6, .inr (.inr (.inr (.inr xqF))))), (w0, .inr (9, [.ref tnodes, .ref tpasses, .ref tjars, .ref torders, .ref tfeasts, .ref tway, .int tws, .int tnow, .int tfm, .int tx])), (tway, .inr (6, [.int 1, .ref twayA, .int twayS]))] s.heap.size = A at hD ⊢
  have hA : ∀ q : Nat, s.heap.size ≤ q → A q := fun q h => by rw [← hAe]; exact Or.inr h
  have hS : va_S A s.heap s.heap [] := va_S.rf
  have hP : va_P (dC, dI) vwCl [(x0, .inr (10, [.ref w0, .ref z0, .ref xi, .ref xt, .int x_tl, .ref xq, .int x_lc, .ref rdr, .ref h0, .ref t0, .ref q0, .ref v0, .ref m0])), (xq, .inl (kA 5, 6, .inr (.inr (.inr (.inr xqF))))), (w0, .inr (9, [.ref tnodes, .ref tpasses, .ref tjars, .ref torders, .ref tfeasts, .ref tway, .int tws, .int tnow, .int tfm, .int tx])), (tway, .inr (6, [.int 1, .ref twayA, .int twayS]))] s.heap := hP
  have hl := lv_entry ([.ref x0, .int p0, .int p1, .int p2, .int p3, .int p4, .int p5, .int p6, .int p7, .int p8]) (n := 13) (Nat.le_of_ble_eq_true rfl)
  rw [lg_entry_eq]
  generalize (lg_sl ([.ref x0, .int p0, .int p1, .int p2, .int p3, .int p4, .int p5, .int p6, .int p7, .int p8]) ++ List.replicate (13 - (lg_sl ([.ref x0, .int p0, .int p1, .int p2, .int p3, .int p4, .int p5, .int p6, .int p7, .int p8])).length) Slot.unset).toArray = ls at hl ⊢
  have hl : lv_has ls 13 [(0, .ref x0), (1, .int p0), (2, .int p1), (3, .int p2), (4, .int p3), (5, .int p4), (6, .int p5), (7, .int p6), (8, .int p7), (9, .int p8)] := hl
  refine lv_aload_n hx hb dX10_guess_0 rfl (lv_at hl 0 rfl) ?_
  refine lv_iload_n hx hb dX10_guess_1 rfl (lv_at hl 1 rfl) ?_
  refine z_q (wr := [(w0, .inr (9, [.ref tnodes, .ref tpasses, .ref tjars, .ref torders, .ref tfeasts, .ref tway, .int tws, .int tnow, .int tfm, .int tx])), (tway, .inr (6, [.int 1, .ref twayA, .int twayS]))]) (va_runV (As := [.int p0]) (rest := []) ⟨hx, hb, hml, hown, hts⟩ (mX10_lawOf l dC dI kA _ x0 z0 xi xt xq rdr h0 t0 q0 v0 m0 w0 x_tl x_lc xqF p0) (cwV 1 hts gX10_guess_X10_lawOf rfl rfl rfl ⟨rfl, hdX10_lawOf⟩ ⟨(Nat.le_of_ble_eq_true rfl), (Nat.le_of_ble_eq_true rfl)⟩) ⟨zPc.blind, va_recv hK.1 hP (ci := 10) (q0 := 0) rfl rfl, zPre hK (hP.sub [0, 1] rfl) (hD.sub [0, 1] (by decide) rfl)⟩ rfl rfl hl.1 rfl (lv_room (Nat.le_of_ble_eq_true rfl)) dX10_guess_2 ⟨(Nat.le_of_ble_eq_true rfl), (Nat.le_of_ble_eq_true rfl)⟩) hP hD hS hA [0, 1] [2, 3] rfl rfl (by decide) (by decide) (fun r3 u1 H locs hw2 hP hD hS => ?_)
  obtain rfl := hw2
  obtain ⟨hP, hD⟩ := z_re (L := [(w0, .inr (9, [.ref tnodes, .ref tpasses, .ref tjars, .ref torders, .ref tfeasts, .ref tway, .int tws, .int tnow, .int tfm, .int tx])), (tway, .inr (6, [.int 1, .ref twayA, .int twayS])), (x0, .inr (10, [.ref w0, .ref z0, .ref xi, .ref xt, .int x_tl, .ref xq, .int x_lc, .ref rdr, .ref h0, .ref t0, .ref q0, .ref v0, .ref m0])), (xq, .inl (kA 5, 6, .inr (.inr (.inr (.inr xqF)))))]) hP hD
  refine zv .null (by rw [hsel]; rfl) ?_
  refine lv_astoreN (lv' := [(10, .null), (0, .ref x0), (1, .int p0), (2, .int p1), (3, .int p2), (4, .int p3), (5, .int p4), (6, .int p5), (7, .int p6), (8, .int p7), (9, .int p8)]) hx hb dX10_guess_5 hl (by decide) rfl (fun ls hl => ?_)
  refine lv_iload hx hb dX10_guess_7 (lv_at hl 7 rfl) ?_
  refine lv_bipush (v := 12) hx hb dX10_guess_9 (by decide) ?_
  refine z_i (wr := [(w0, .inr (9, [.ref tnodes, .ref tpasses, .ref tjars, .ref torders, .ref tfeasts, .ref tway, .int tws, .int tnow, .int tfm, .int tx])), (tway, .inr (6, [.int 1, .ref twayA, .int twayS])), (x0, .inr (10, [.ref w0, .ref z0, .ref xi, .ref xt, .int x_tl, .ref xq, .int x_lc, .ref rdr, .ref h0, .ref t0, .ref q0, .ref v0, .ref m0])), (xq, .inl (kA 5, 6, .inr (.inr (.inr (.inr xqF)))))]) (va_runS (As := [.int p5, .int 12]) (rest := []) ⟨hx, hb, hml, hown, hts⟩ (mX10_within l dC dI kA _ p5 12) (va_cwS 2 hts gX10_guess_X10_within rfl rfl rfl hdX10_within ⟨(Nat.le_of_ble_eq_true rfl), (Nat.le_of_ble_eq_true rfl)⟩) ⟨zPc.blind, zPre hK (hP.sub [] rfl) (hD.sub [] (by decide) rfl)⟩ rfl rfl hl.1 rfl (lv_room (Nat.le_of_ble_eq_true rfl)) dX10_guess_11 ⟨(Nat.le_of_ble_eq_true rfl), (Nat.le_of_ble_eq_true rfl)⟩) hP hD hS hA [] [0, 1, 2, 3] rfl rfl (by decide) (by decide) (fun r6 u4 H locs hw5 hP hD hS => ?_)
  obtain rfl := hw5
  obtain ⟨hP, hD⟩ := z_re (L := [(w0, .inr (9, [.ref tnodes, .ref tpasses, .ref tjars, .ref torders, .ref tfeasts, .ref tway, .int tws, .int tnow, .int tfm, .int tx])), (tway, .inr (6, [.int 1, .ref twayA, .int twayS])), (x0, .inr (10, [.ref w0, .ref z0, .ref xi, .ref xt, .int x_tl, .ref xq, .int x_lc, .ref rdr, .ref h0, .ref t0, .ref q0, .ref v0, .ref m0])), (xq, .inl (kA 5, 6, .inr (.inr (.inr (.inr xqF)))))]) hP hD
  refine lv_if_eq (tgt := 40) hx hb dX10_guess_14 (by decide) (fun c_7 => ?_) (fun c_7 => ?_)
  · refine lv_iconst (v := 0) hx hb dX10_guess_40 (by decide) ?_
    refine lv_istore (lv' := [(11, .int 0), (10, .null), (0, .ref x0), (1, .int p0), (2, .int p1), (3, .int p2), (4, .int p3), (5, .int p4), (6, .int p5), (7, .int p6), (8, .int p7), (9, .int p8)]) hx hb dX10_guess_41 hl (by decide) rfl (fun ls hl => ?_)
    refine lv_iload hx hb dX10_guess_43 (lv_at hl 11 rfl) ?_
    refine lv_if_eq (tgt := 63) hx hb dX10_guess_45 (by decide) (fun c_8 => ?_) (fun c_8 => ?_)
    · refine lv_iconst (v := 1) hx hb dX10_guess_63 (by decide) ?_
      refine lv_goto (tgt := 68) hx hb dX10_guess_64 (by decide) ?_
      refine lv_istore (lv' := [(12, .int 1), (11, .int 0), (10, .null), (0, .ref x0), (1, .int p0), (2, .int p1), (3, .int p2), (4, .int p3), (5, .int p4), (6, .int p5), (7, .int p6), (8, .int p7), (9, .int p8)]) hx hb dX10_guess_68 hl (by decide) rfl (fun ls hl => ?_)
      refine lv_aloadN hx hb dX10_guess_70 (lv_at hl 2 rfl) ?_
      refine lv_ifnullN (tgt := 108) hx hb dX10_guess_72 (by decide) ?_
      refine lv_iconst (v := (-1)) hx hb dX10_guess_108 (by decide) ?_
      obtain ⟨hP9, hD9⟩ := z_sb (L' := [(x0, .inr (10, [.ref w0, .ref z0, .ref xi, .ref xt, .int x_tl, .ref xq, .int x_lc, .ref rdr, .ref h0, .ref t0, .ref q0, .ref v0, .ref m0])), (xq, .inl (kA 5, 6, .inr (.inr (.inr (.inr xqF))))), (w0, .inr (9, [.ref tnodes, .ref tpasses, .ref tjars, .ref torders, .ref tfeasts, .ref tway, .int tws, .int tnow, .int tfm, .int tx])), (tway, .inr (6, [.int 1, .ref twayA, .int twayS]))]) hP hD [2, 3, 0, 1] (by decide) rfl
      refine W.widen (k := 0) (n := 0) (Nat.le_of_ble_eq_true rfl) (Nat.le_of_ble_eq_true rfl) ?_
      exact W.iret (v := (-1)) hx hb hr (fun t ht hW => ⟨⟨(-1), (), rfl, rfl, by rw [ht]; exact hP9, hD9⟩, hS.F ht⟩) hS.2.2 dX10_guess_109
    · refine lv_aload_n hx hb dX10_guess_48 rfl (lv_at hl 2 rfl) ?_
      refine va_get (D := (dC, dI)) (ci := 10) (v := .ref w0) (C := RX10) (T := TX10) (N := 13) hx hb hts iX10_guess_X10 hown hK.1 hP 2 rfl rfl 0 (by decide) (kX10_guess_2 hts) (fun _ h9 => h9) rfl dX10_guess_49 ?_
      refine va_get (D := (dC, dI)) (ci := 9) (v := .ref tway) (C := RX9) (T := TX9) (N := 10) hx hb hts iX10_guess_X9 hown hK.1 hP 0 rfl rfl 5 (by decide) (kX10_guess_3 hts) (fun _ h9 => h9) rfl dX10_guess_52 ?_
      refine lv_iload hx hb dX10_guess_55 (lv_at hl 10 rfl) ?_
      refine z_i (wr := [(w0, .inr (9, [.ref tnodes, .ref tpasses, .ref tjars, .ref torders, .ref tfeasts, .ref tway, .int tws, .int tnow, .int tfm, .int tx])), (x0, .inr (10, [.ref w0, .ref z0, .ref xi, .ref xt, .int x_tl, .ref xq, .int x_lc, .ref rdr, .ref h0, .ref t0, .ref q0, .ref v0, .ref m0])), (xq, .inl (kA 5, 6, .inr (.inr (.inr (.inr xqF)))))]) (va_runV (As := [.int p7]) (rest := []) ⟨hx, hb, hml, hown, hts⟩ (mX6_has l dC dI kA _ tway twayA 1 twayS p7) (cwV 1 hts gX10_guess_X6_has rfl rfl rfl ⟨rfl, hdX6_has⟩ ⟨(Nat.le_of_ble_eq_true rfl), (Nat.le_of_ble_eq_true rfl)⟩) ⟨zPc.blind, va_recv hK.1 hP (ci := 6) (q0 := 1) rfl rfl, zPre hK (hP.sub [1] rfl) (hD.sub [1] (by decide) rfl)⟩ rfl rfl hl.1 rfl (lv_room (Nat.le_of_ble_eq_true rfl)) dX10_guess_57 ⟨(Nat.le_of_ble_eq_true rfl), (Nat.le_of_ble_eq_true rfl)⟩) hP hD hS hA [1] [0, 2, 3] rfl rfl (by decide) (by decide) (fun r11 u9 H locs hw10 hP hD hS => ?_)
      obtain rfl := hw10
      obtain ⟨hP, hD⟩ := z_re (L := [(w0, .inr (9, [.ref tnodes, .ref tpasses, .ref tjars, .ref torders, .ref tfeasts, .ref tway, .int tws, .int tnow, .int tfm, .int tx])), (x0, .inr (10, [.ref w0, .ref z0, .ref xi, .ref xt, .int x_tl, .ref xq, .int x_lc, .ref rdr, .ref h0, .ref t0, .ref q0, .ref v0, .ref m0])), (xq, .inl (kA 5, 6, .inr (.inr (.inr (.inr xqF))))), (tway, .inr (6, [.int 1, .ref twayA, .int twayS]))]) hP hD
      refine lv_if_eq (tgt := 67) hx hb dX10_guess_60 (by decide) (fun c_12 => ?_) (fun c_12 => ?_)
      · refine lv_iconst (v := 0) hx hb dX10_guess_67 (by decide) ?_
        refine lv_istore (lv' := [(12, .int 0), (11, .int 0), (10, .null), (0, .ref x0), (1, .int p0), (2, .int p1), (3, .int p2), (4, .int p3), (5, .int p4), (6, .int p5), (7, .int p6), (8, .int p7), (9, .int p8)]) hx hb dX10_guess_68 hl (by decide) rfl (fun ls hl => ?_)
        refine lv_aloadN hx hb dX10_guess_70 (lv_at hl 2 rfl) ?_
        refine lv_ifnullN (tgt := 108) hx hb dX10_guess_72 (by decide) ?_
        refine lv_iconst (v := (-1)) hx hb dX10_guess_108 (by decide) ?_
        obtain ⟨hP9, hD9⟩ := z_sb (L' := [(x0, .inr (10, [.ref w0, .ref z0, .ref xi, .ref xt, .int x_tl, .ref xq, .int x_lc, .ref rdr, .ref h0, .ref t0, .ref q0, .ref v0, .ref m0])), (xq, .inl (kA 5, 6, .inr (.inr (.inr (.inr xqF))))), (w0, .inr (9, [.ref tnodes, .ref tpasses, .ref tjars, .ref torders, .ref tfeasts, .ref tway, .int tws, .int tnow, .int tfm, .int tx])), (tway, .inr (6, [.int 1, .ref twayA, .int twayS]))]) hP hD [1, 2, 0, 3] (by decide) rfl
        refine W.widen (k := 0) (n := 0) (Nat.le_of_ble_eq_true rfl) (Nat.le_of_ble_eq_true rfl) ?_
        exact W.iret (v := (-1)) hx hb hr (fun t ht hW => ⟨⟨(-1), (), rfl, rfl, by rw [ht]; exact hP9, hD9⟩, hS.F ht⟩) hS.2.2 dX10_guess_109
      · have c_12a := hs_ne c_12
        have c_12b := c_12a.2
        have c_12a := c_12a.1
        refine lv_iconst (v := 1) hx hb dX10_guess_63 (by decide) ?_
        refine lv_goto (tgt := 68) hx hb dX10_guess_64 (by decide) ?_
        refine lv_istore (lv' := [(12, .int 1), (11, .int 0), (10, .null), (0, .ref x0), (1, .int p0), (2, .int p1), (3, .int p2), (4, .int p3), (5, .int p4), (6, .int p5), (7, .int p6), (8, .int p7), (9, .int p8)]) hx hb dX10_guess_68 hl (by decide) rfl (fun ls hl => ?_)
        refine lv_aloadN hx hb dX10_guess_70 (lv_at hl 2 rfl) ?_
        refine lv_ifnullN (tgt := 108) hx hb dX10_guess_72 (by decide) ?_
        refine lv_iconst (v := (-1)) hx hb dX10_guess_108 (by decide) ?_
        obtain ⟨hP9, hD9⟩ := z_sb (L' := [(x0, .inr (10, [.ref w0, .ref z0, .ref xi, .ref xt, .int x_tl, .ref xq, .int x_lc, .ref rdr, .ref h0, .ref t0, .ref q0, .ref v0, .ref m0])), (xq, .inl (kA 5, 6, .inr (.inr (.inr (.inr xqF))))), (w0, .inr (9, [.ref tnodes, .ref tpasses, .ref tjars, .ref torders, .ref tfeasts, .ref tway, .int tws, .int tnow, .int tfm, .int tx])), (tway, .inr (6, [.int 1, .ref twayA, .int twayS]))]) hP hD [1, 2, 0, 3] (by decide) rfl
        refine W.widen (k := 0) (n := 0) (Nat.le_of_ble_eq_true rfl) (Nat.le_of_ble_eq_true rfl) ?_
        exact W.iret (v := (-1)) hx hb hr (fun t ht hW => ⟨⟨(-1), (), rfl, rfl, by rw [ht]; exact hP9, hD9⟩, hS.F ht⟩) hS.2.2 dX10_guess_109
  · have c_7a := wi_ne c_7
    have c_7b := c_7a.2
    have c_7a := c_7a.1
    refine lv_iload hx hb dX10_guess_17 (lv_at hl 8 rfl) ?_
    refine lv_ldc hx hb hown (kX10_guess_1 hts) dX10_guess_19 ?_
    refine z_i (wr := [(w0, .inr (9, [.ref tnodes, .ref tpasses, .ref tjars, .ref torders, .ref tfeasts, .ref tway, .int tws, .int tnow, .int tfm, .int tx])), (tway, .inr (6, [.int 1, .ref twayA, .int twayS])), (x0, .inr (10, [.ref w0, .ref z0, .ref xi, .ref xt, .int x_tl, .ref xq, .int x_lc, .ref rdr, .ref h0, .ref t0, .ref q0, .ref v0, .ref m0])), (xq, .inl (kA 5, 6, .inr (.inr (.inr (.inr xqF)))))]) (va_runS (As := [.int p6, .int 99999]) (rest := []) ⟨hx, hb, hml, hown, hts⟩ (mX10_within l dC dI kA _ p6 99999) (va_cwS 2 hts gX10_guess_X10_within rfl rfl rfl hdX10_within ⟨(Nat.le_of_ble_eq_true rfl), (Nat.le_of_ble_eq_true rfl)⟩) ⟨zPc.blind, zPre hK (hP.sub [] rfl) (hD.sub [] (by decide) rfl)⟩ rfl rfl hl.1 rfl (lv_room (Nat.le_of_ble_eq_true rfl)) dX10_guess_21 ⟨(Nat.le_of_ble_eq_true rfl), (Nat.le_of_ble_eq_true rfl)⟩) hP hD hS hA [] [0, 1, 2, 3] rfl rfl (by decide) (by decide) (fun r15 u13 H locs hw14 hP hD hS => ?_)
    obtain rfl := hw14
    obtain ⟨hP, hD⟩ := z_re (L := [(w0, .inr (9, [.ref tnodes, .ref tpasses, .ref tjars, .ref torders, .ref tfeasts, .ref tway, .int tws, .int tnow, .int tfm, .int tx])), (tway, .inr (6, [.int 1, .ref twayA, .int twayS])), (x0, .inr (10, [.ref w0, .ref z0, .ref xi, .ref xt, .int x_tl, .ref xq, .int x_lc, .ref rdr, .ref h0, .ref t0, .ref q0, .ref v0, .ref m0])), (xq, .inl (kA 5, 6, .inr (.inr (.inr (.inr xqF)))))]) hP hD
    refine lv_if_eq (tgt := 40) hx hb dX10_guess_24 (by decide) (fun c_16 => ?_) (fun c_16 => ?_)
    · refine lv_iconst (v := 0) hx hb dX10_guess_40 (by decide) ?_
      refine lv_istore (lv' := [(11, .int 0), (10, .null), (0, .ref x0), (1, .int p0), (2, .int p1), (3, .int p2), (4, .int p3), (5, .int p4), (6, .int p5), (7, .int p6), (8, .int p7), (9, .int p8)]) hx hb dX10_guess_41 hl (by decide) rfl (fun ls hl => ?_)
      refine lv_iload hx hb dX10_guess_43 (lv_at hl 11 rfl) ?_
      refine lv_if_eq (tgt := 63) hx hb dX10_guess_45 (by decide) (fun c_17 => ?_) (fun c_17 => ?_)
      · refine lv_iconst (v := 1) hx hb dX10_guess_63 (by decide) ?_
        refine lv_goto (tgt := 68) hx hb dX10_guess_64 (by decide) ?_
        refine lv_istore (lv' := [(12, .int 1), (11, .int 0), (10, .null), (0, .ref x0), (1, .int p0), (2, .int p1), (3, .int p2), (4, .int p3), (5, .int p4), (6, .int p5), (7, .int p6), (8, .int p7), (9, .int p8)]) hx hb dX10_guess_68 hl (by decide) rfl (fun ls hl => ?_)
        refine lv_aloadN hx hb dX10_guess_70 (lv_at hl 2 rfl) ?_
        refine lv_ifnullN (tgt := 108) hx hb dX10_guess_72 (by decide) ?_
        refine lv_iconst (v := (-1)) hx hb dX10_guess_108 (by decide) ?_
        obtain ⟨hP9, hD9⟩ := z_sb (L' := [(x0, .inr (10, [.ref w0, .ref z0, .ref xi, .ref xt, .int x_tl, .ref xq, .int x_lc, .ref rdr, .ref h0, .ref t0, .ref q0, .ref v0, .ref m0])), (xq, .inl (kA 5, 6, .inr (.inr (.inr (.inr xqF))))), (w0, .inr (9, [.ref tnodes, .ref tpasses, .ref tjars, .ref torders, .ref tfeasts, .ref tway, .int tws, .int tnow, .int tfm, .int tx])), (tway, .inr (6, [.int 1, .ref twayA, .int twayS]))]) hP hD [2, 3, 0, 1] (by decide) rfl
        refine W.widen (k := 0) (n := 0) (Nat.le_of_ble_eq_true rfl) (Nat.le_of_ble_eq_true rfl) ?_
        exact W.iret (v := (-1)) hx hb hr (fun t ht hW => ⟨⟨(-1), (), rfl, rfl, by rw [ht]; exact hP9, hD9⟩, hS.F ht⟩) hS.2.2 dX10_guess_109
      · refine lv_aload_n hx hb dX10_guess_48 rfl (lv_at hl 2 rfl) ?_
        refine va_get (D := (dC, dI)) (ci := 10) (v := .ref w0) (C := RX10) (T := TX10) (N := 13) hx hb hts iX10_guess_X10 hown hK.1 hP 2 rfl rfl 0 (by decide) (kX10_guess_2 hts) (fun _ h9 => h9) rfl dX10_guess_49 ?_
        refine va_get (D := (dC, dI)) (ci := 9) (v := .ref tway) (C := RX9) (T := TX9) (N := 10) hx hb hts iX10_guess_X9 hown hK.1 hP 0 rfl rfl 5 (by decide) (kX10_guess_3 hts) (fun _ h9 => h9) rfl dX10_guess_52 ?_
        refine lv_iload hx hb dX10_guess_55 (lv_at hl 10 rfl) ?_
        refine z_i (wr := [(w0, .inr (9, [.ref tnodes, .ref tpasses, .ref tjars, .ref torders, .ref tfeasts, .ref tway, .int tws, .int tnow, .int tfm, .int tx])), (x0, .inr (10, [.ref w0, .ref z0, .ref xi, .ref xt, .int x_tl, .ref xq, .int x_lc, .ref rdr, .ref h0, .ref t0, .ref q0, .ref v0, .ref m0])), (xq, .inl (kA 5, 6, .inr (.inr (.inr (.inr xqF)))))]) (va_runV (As := [.int p7]) (rest := []) ⟨hx, hb, hml, hown, hts⟩ (mX6_has l dC dI kA _ tway twayA 1 twayS p7) (cwV 1 hts gX10_guess_X6_has rfl rfl rfl ⟨rfl, hdX6_has⟩ ⟨(Nat.le_of_ble_eq_true rfl), (Nat.le_of_ble_eq_true rfl)⟩) ⟨zPc.blind, va_recv hK.1 hP (ci := 6) (q0 := 1) rfl rfl, zPre hK (hP.sub [1] rfl) (hD.sub [1] (by decide) rfl)⟩ rfl rfl hl.1 rfl (lv_room (Nat.le_of_ble_eq_true rfl)) dX10_guess_57 ⟨(Nat.le_of_ble_eq_true rfl), (Nat.le_of_ble_eq_true rfl)⟩) hP hD hS hA [1] [0, 2, 3] rfl rfl (by decide) (by decide) (fun r20 u18 H locs hw19 hP hD hS => ?_)
        obtain rfl := hw19
        obtain ⟨hP, hD⟩ := z_re (L := [(w0, .inr (9, [.ref tnodes, .ref tpasses, .ref tjars, .ref torders, .ref tfeasts, .ref tway, .int tws, .int tnow, .int tfm, .int tx])), (x0, .inr (10, [.ref w0, .ref z0, .ref xi, .ref xt, .int x_tl, .ref xq, .int x_lc, .ref rdr, .ref h0, .ref t0, .ref q0, .ref v0, .ref m0])), (xq, .inl (kA 5, 6, .inr (.inr (.inr (.inr xqF))))), (tway, .inr (6, [.int 1, .ref twayA, .int twayS]))]) hP hD
        refine lv_if_eq (tgt := 67) hx hb dX10_guess_60 (by decide) (fun c_21 => ?_) (fun c_21 => ?_)
        · refine lv_iconst (v := 0) hx hb dX10_guess_67 (by decide) ?_
          refine lv_istore (lv' := [(12, .int 0), (11, .int 0), (10, .null), (0, .ref x0), (1, .int p0), (2, .int p1), (3, .int p2), (4, .int p3), (5, .int p4), (6, .int p5), (7, .int p6), (8, .int p7), (9, .int p8)]) hx hb dX10_guess_68 hl (by decide) rfl (fun ls hl => ?_)
          refine lv_aloadN hx hb dX10_guess_70 (lv_at hl 2 rfl) ?_
          refine lv_ifnullN (tgt := 108) hx hb dX10_guess_72 (by decide) ?_
          refine lv_iconst (v := (-1)) hx hb dX10_guess_108 (by decide) ?_
          obtain ⟨hP9, hD9⟩ := z_sb (L' := [(x0, .inr (10, [.ref w0, .ref z0, .ref xi, .ref xt, .int x_tl, .ref xq, .int x_lc, .ref rdr, .ref h0, .ref t0, .ref q0, .ref v0, .ref m0])), (xq, .inl (kA 5, 6, .inr (.inr (.inr (.inr xqF))))), (w0, .inr (9, [.ref tnodes, .ref tpasses, .ref tjars, .ref torders, .ref tfeasts, .ref tway, .int tws, .int tnow, .int tfm, .int tx])), (tway, .inr (6, [.int 1, .ref twayA, .int twayS]))]) hP hD [1, 2, 0, 3] (by decide) rfl
          refine W.widen (k := 0) (n := 0) (Nat.le_of_ble_eq_true rfl) (Nat.le_of_ble_eq_true rfl) ?_
          exact W.iret (v := (-1)) hx hb hr (fun t ht hW => ⟨⟨(-1), (), rfl, rfl, by rw [ht]; exact hP9, hD9⟩, hS.F ht⟩) hS.2.2 dX10_guess_109
        · have c_21a := hs_ne c_21
          have c_21b := c_21a.2
          have c_21a := c_21a.1
          refine lv_iconst (v := 1) hx hb dX10_guess_63 (by decide) ?_
          refine lv_goto (tgt := 68) hx hb dX10_guess_64 (by decide) ?_
          refine lv_istore (lv' := [(12, .int 1), (11, .int 0), (10, .null), (0, .ref x0), (1, .int p0), (2, .int p1), (3, .int p2), (4, .int p3), (5, .int p4), (6, .int p5), (7, .int p6), (8, .int p7), (9, .int p8)]) hx hb dX10_guess_68 hl (by decide) rfl (fun ls hl => ?_)
          refine lv_aloadN hx hb dX10_guess_70 (lv_at hl 2 rfl) ?_
          refine lv_ifnullN (tgt := 108) hx hb dX10_guess_72 (by decide) ?_
          refine lv_iconst (v := (-1)) hx hb dX10_guess_108 (by decide) ?_
          obtain ⟨hP9, hD9⟩ := z_sb (L' := [(x0, .inr (10, [.ref w0, .ref z0, .ref xi, .ref xt, .int x_tl, .ref xq, .int x_lc, .ref rdr, .ref h0, .ref t0, .ref q0, .ref v0, .ref m0])), (xq, .inl (kA 5, 6, .inr (.inr (.inr (.inr xqF))))), (w0, .inr (9, [.ref tnodes, .ref tpasses, .ref tjars, .ref torders, .ref tfeasts, .ref tway, .int tws, .int tnow, .int tfm, .int tx])), (tway, .inr (6, [.int 1, .ref twayA, .int twayS]))]) hP hD [1, 2, 0, 3] (by decide) rfl
          refine W.widen (k := 0) (n := 0) (Nat.le_of_ble_eq_true rfl) (Nat.le_of_ble_eq_true rfl) ?_
          exact W.iret (v := (-1)) hx hb hr (fun t ht hW => ⟨⟨(-1), (), rfl, rfl, by rw [ht]; exact hP9, hD9⟩, hS.F ht⟩) hS.2.2 dX10_guess_109
    · have c_16a := wi_ne c_16
      have c_16b := c_16a.2
      have c_16a := c_16a.1
      refine lv_iload hx hb dX10_guess_27 (lv_at hl 10 rfl) ?_
      refine lv_iconst (v := 2) hx hb dX10_guess_29 (by decide) ?_
      refine z_i (wr := [(w0, .inr (9, [.ref tnodes, .ref tpasses, .ref tjars, .ref torders, .ref tfeasts, .ref tway, .int tws, .int tnow, .int tfm, .int tx])), (tway, .inr (6, [.int 1, .ref twayA, .int twayS])), (x0, .inr (10, [.ref w0, .ref z0, .ref xi, .ref xt, .int x_tl, .ref xq, .int x_lc, .ref rdr, .ref h0, .ref t0, .ref q0, .ref v0, .ref m0])), (xq, .inl (kA 5, 6, .inr (.inr (.inr (.inr xqF)))))]) (va_runS (As := [.int p8, .int 2]) (rest := []) ⟨hx, hb, hml, hown, hts⟩ (mX10_within l dC dI kA _ p8 2) (va_cwS 2 hts gX10_guess_X10_within rfl rfl rfl hdX10_within ⟨(Nat.le_of_ble_eq_true rfl), (Nat.le_of_ble_eq_true rfl)⟩) ⟨zPc.blind, zPre hK (hP.sub [] rfl) (hD.sub [] (by decide) rfl)⟩ rfl rfl hl.1 rfl (lv_room (Nat.le_of_ble_eq_true rfl)) dX10_guess_30 ⟨(Nat.le_of_ble_eq_true rfl), (Nat.le_of_ble_eq_true rfl)⟩) hP hD hS hA [] [0, 1, 2, 3] rfl rfl (by decide) (by decide) (fun r24 u22 H locs hw23 hP hD hS => ?_)
      obtain rfl := hw23
      obtain ⟨hP, hD⟩ := z_re (L := [(w0, .inr (9, [.ref tnodes, .ref tpasses, .ref tjars, .ref torders, .ref tfeasts, .ref tway, .int tws, .int tnow, .int tfm, .int tx])), (tway, .inr (6, [.int 1, .ref twayA, .int twayS])), (x0, .inr (10, [.ref w0, .ref z0, .ref xi, .ref xt, .int x_tl, .ref xq, .int x_lc, .ref rdr, .ref h0, .ref t0, .ref q0, .ref v0, .ref m0])), (xq, .inl (kA 5, 6, .inr (.inr (.inr (.inr xqF)))))]) hP hD
      refine lv_if_eq (tgt := 40) hx hb dX10_guess_33 (by decide) (fun c_25 => ?_) (fun c_25 => ?_)
      · refine lv_iconst (v := 0) hx hb dX10_guess_40 (by decide) ?_
        refine lv_istore (lv' := [(11, .int 0), (10, .null), (0, .ref x0), (1, .int p0), (2, .int p1), (3, .int p2), (4, .int p3), (5, .int p4), (6, .int p5), (7, .int p6), (8, .int p7), (9, .int p8)]) hx hb dX10_guess_41 hl (by decide) rfl (fun ls hl => ?_)
        refine lv_iload hx hb dX10_guess_43 (lv_at hl 11 rfl) ?_
        refine lv_if_eq (tgt := 63) hx hb dX10_guess_45 (by decide) (fun c_26 => ?_) (fun c_26 => ?_)
        · refine lv_iconst (v := 1) hx hb dX10_guess_63 (by decide) ?_
          refine lv_goto (tgt := 68) hx hb dX10_guess_64 (by decide) ?_
          refine lv_istore (lv' := [(12, .int 1), (11, .int 0), (10, .null), (0, .ref x0), (1, .int p0), (2, .int p1), (3, .int p2), (4, .int p3), (5, .int p4), (6, .int p5), (7, .int p6), (8, .int p7), (9, .int p8)]) hx hb dX10_guess_68 hl (by decide) rfl (fun ls hl => ?_)
          refine lv_aloadN hx hb dX10_guess_70 (lv_at hl 2 rfl) ?_
          refine lv_ifnullN (tgt := 108) hx hb dX10_guess_72 (by decide) ?_
          refine lv_iconst (v := (-1)) hx hb dX10_guess_108 (by decide) ?_
          obtain ⟨hP9, hD9⟩ := z_sb (L' := [(x0, .inr (10, [.ref w0, .ref z0, .ref xi, .ref xt, .int x_tl, .ref xq, .int x_lc, .ref rdr, .ref h0, .ref t0, .ref q0, .ref v0, .ref m0])), (xq, .inl (kA 5, 6, .inr (.inr (.inr (.inr xqF))))), (w0, .inr (9, [.ref tnodes, .ref tpasses, .ref tjars, .ref torders, .ref tfeasts, .ref tway, .int tws, .int tnow, .int tfm, .int tx])), (tway, .inr (6, [.int 1, .ref twayA, .int twayS]))]) hP hD [2, 3, 0, 1] (by decide) rfl
          refine W.widen (k := 0) (n := 0) (Nat.le_of_ble_eq_true rfl) (Nat.le_of_ble_eq_true rfl) ?_
          exact W.iret (v := (-1)) hx hb hr (fun t ht hW => ⟨⟨(-1), (), rfl, rfl, by rw [ht]; exact hP9, hD9⟩, hS.F ht⟩) hS.2.2 dX10_guess_109
        · refine lv_aload_n hx hb dX10_guess_48 rfl (lv_at hl 2 rfl) ?_
          refine va_get (D := (dC, dI)) (ci := 10) (v := .ref w0) (C := RX10) (T := TX10) (N := 13) hx hb hts iX10_guess_X10 hown hK.1 hP 2 rfl rfl 0 (by decide) (kX10_guess_2 hts) (fun _ h9 => h9) rfl dX10_guess_49 ?_
          refine va_get (D := (dC, dI)) (ci := 9) (v := .ref tway) (C := RX9) (T := TX9) (N := 10) hx hb hts iX10_guess_X9 hown hK.1 hP 0 rfl rfl 5 (by decide) (kX10_guess_3 hts) (fun _ h9 => h9) rfl dX10_guess_52 ?_
          refine lv_iload hx hb dX10_guess_55 (lv_at hl 10 rfl) ?_
          refine z_i (wr := [(w0, .inr (9, [.ref tnodes, .ref tpasses, .ref tjars, .ref torders, .ref tfeasts, .ref tway, .int tws, .int tnow, .int tfm, .int tx])), (x0, .inr (10, [.ref w0, .ref z0, .ref xi, .ref xt, .int x_tl, .ref xq, .int x_lc, .ref rdr, .ref h0, .ref t0, .ref q0, .ref v0, .ref m0])), (xq, .inl (kA 5, 6, .inr (.inr (.inr (.inr xqF)))))]) (va_runV (As := [.int p7]) (rest := []) ⟨hx, hb, hml, hown, hts⟩ (mX6_has l dC dI kA _ tway twayA 1 twayS p7) (cwV 1 hts gX10_guess_X6_has rfl rfl rfl ⟨rfl, hdX6_has⟩ ⟨(Nat.le_of_ble_eq_true rfl), (Nat.le_of_ble_eq_true rfl)⟩) ⟨zPc.blind, va_recv hK.1 hP (ci := 6) (q0 := 1) rfl rfl, zPre hK (hP.sub [1] rfl) (hD.sub [1] (by decide) rfl)⟩ rfl rfl hl.1 rfl (lv_room (Nat.le_of_ble_eq_true rfl)) dX10_guess_57 ⟨(Nat.le_of_ble_eq_true rfl), (Nat.le_of_ble_eq_true rfl)⟩) hP hD hS hA [1] [0, 2, 3] rfl rfl (by decide) (by decide) (fun r29 u27 H locs hw28 hP hD hS => ?_)
          obtain rfl := hw28
          obtain ⟨hP, hD⟩ := z_re (L := [(w0, .inr (9, [.ref tnodes, .ref tpasses, .ref tjars, .ref torders, .ref tfeasts, .ref tway, .int tws, .int tnow, .int tfm, .int tx])), (x0, .inr (10, [.ref w0, .ref z0, .ref xi, .ref xt, .int x_tl, .ref xq, .int x_lc, .ref rdr, .ref h0, .ref t0, .ref q0, .ref v0, .ref m0])), (xq, .inl (kA 5, 6, .inr (.inr (.inr (.inr xqF))))), (tway, .inr (6, [.int 1, .ref twayA, .int twayS]))]) hP hD
          refine lv_if_eq (tgt := 67) hx hb dX10_guess_60 (by decide) (fun c_30 => ?_) (fun c_30 => ?_)
          · refine lv_iconst (v := 0) hx hb dX10_guess_67 (by decide) ?_
            refine lv_istore (lv' := [(12, .int 0), (11, .int 0), (10, .null), (0, .ref x0), (1, .int p0), (2, .int p1), (3, .int p2), (4, .int p3), (5, .int p4), (6, .int p5), (7, .int p6), (8, .int p7), (9, .int p8)]) hx hb dX10_guess_68 hl (by decide) rfl (fun ls hl => ?_)
            refine lv_aloadN hx hb dX10_guess_70 (lv_at hl 2 rfl) ?_
            refine lv_ifnullN (tgt := 108) hx hb dX10_guess_72 (by decide) ?_
            refine lv_iconst (v := (-1)) hx hb dX10_guess_108 (by decide) ?_
            obtain ⟨hP9, hD9⟩ := z_sb (L' := [(x0, .inr (10, [.ref w0, .ref z0, .ref xi, .ref xt, .int x_tl, .ref xq, .int x_lc, .ref rdr, .ref h0, .ref t0, .ref q0, .ref v0, .ref m0])), (xq, .inl (kA 5, 6, .inr (.inr (.inr (.inr xqF))))), (w0, .inr (9, [.ref tnodes, .ref tpasses, .ref tjars, .ref torders, .ref tfeasts, .ref tway, .int tws, .int tnow, .int tfm, .int tx])), (tway, .inr (6, [.int 1, .ref twayA, .int twayS]))]) hP hD [1, 2, 0, 3] (by decide) rfl
            refine W.widen (k := 0) (n := 0) (Nat.le_of_ble_eq_true rfl) (Nat.le_of_ble_eq_true rfl) ?_
            exact W.iret (v := (-1)) hx hb hr (fun t ht hW => ⟨⟨(-1), (), rfl, rfl, by rw [ht]; exact hP9, hD9⟩, hS.F ht⟩) hS.2.2 dX10_guess_109
          · have c_30a := hs_ne c_30
            have c_30b := c_30a.2
            have c_30a := c_30a.1
            refine lv_iconst (v := 1) hx hb dX10_guess_63 (by decide) ?_
            refine lv_goto (tgt := 68) hx hb dX10_guess_64 (by decide) ?_
            refine lv_istore (lv' := [(12, .int 1), (11, .int 0), (10, .null), (0, .ref x0), (1, .int p0), (2, .int p1), (3, .int p2), (4, .int p3), (5, .int p4), (6, .int p5), (7, .int p6), (8, .int p7), (9, .int p8)]) hx hb dX10_guess_68 hl (by decide) rfl (fun ls hl => ?_)
            refine lv_aloadN hx hb dX10_guess_70 (lv_at hl 2 rfl) ?_
            refine lv_ifnullN (tgt := 108) hx hb dX10_guess_72 (by decide) ?_
            refine lv_iconst (v := (-1)) hx hb dX10_guess_108 (by decide) ?_
            obtain ⟨hP9, hD9⟩ := z_sb (L' := [(x0, .inr (10, [.ref w0, .ref z0, .ref xi, .ref xt, .int x_tl, .ref xq, .int x_lc, .ref rdr, .ref h0, .ref t0, .ref q0, .ref v0, .ref m0])), (xq, .inl (kA 5, 6, .inr (.inr (.inr (.inr xqF))))), (w0, .inr (9, [.ref tnodes, .ref tpasses, .ref tjars, .ref torders, .ref tfeasts, .ref tway, .int tws, .int tnow, .int tfm, .int tx])), (tway, .inr (6, [.int 1, .ref twayA, .int twayS]))]) hP hD [1, 2, 0, 3] (by decide) rfl
            refine W.widen (k := 0) (n := 0) (Nat.le_of_ble_eq_true rfl) (Nat.le_of_ble_eq_true rfl) ?_
            exact W.iret (v := (-1)) hx hb hr (fun t ht hW => ⟨⟨(-1), (), rfl, rfl, by rw [ht]; exact hP9, hD9⟩, hS.F ht⟩) hS.2.2 dX10_guess_109
      · have c_25a := wi_ne c_25
        have c_25b := c_25a.2
        have c_25a := c_25a.1
        refine lv_iconst (v := 1) hx hb dX10_guess_36 (by decide) ?_
        refine lv_goto (tgt := 41) hx hb dX10_guess_37 (by decide) ?_
        refine lv_istore (lv' := [(11, .int 1), (10, .null), (0, .ref x0), (1, .int p0), (2, .int p1), (3, .int p2), (4, .int p3), (5, .int p4), (6, .int p5), (7, .int p6), (8, .int p7), (9, .int p8)]) hx hb dX10_guess_41 hl (by decide) rfl (fun ls hl => ?_)
        refine lv_iload hx hb dX10_guess_43 (lv_at hl 11 rfl) ?_
        refine lv_if_eq (tgt := 63) hx hb dX10_guess_45 (by decide) (fun c_31 => ?_) (fun c_31 => ?_)
        · refine lv_iconst (v := 1) hx hb dX10_guess_63 (by decide) ?_
          refine lv_goto (tgt := 68) hx hb dX10_guess_64 (by decide) ?_
          refine lv_istore (lv' := [(12, .int 1), (11, .int 1), (10, .null), (0, .ref x0), (1, .int p0), (2, .int p1), (3, .int p2), (4, .int p3), (5, .int p4), (6, .int p5), (7, .int p6), (8, .int p7), (9, .int p8)]) hx hb dX10_guess_68 hl (by decide) rfl (fun ls hl => ?_)
          refine lv_aloadN hx hb dX10_guess_70 (lv_at hl 2 rfl) ?_
          refine lv_ifnullN (tgt := 108) hx hb dX10_guess_72 (by decide) ?_
          refine lv_iconst (v := (-1)) hx hb dX10_guess_108 (by decide) ?_
          obtain ⟨hP9, hD9⟩ := z_sb (L' := [(x0, .inr (10, [.ref w0, .ref z0, .ref xi, .ref xt, .int x_tl, .ref xq, .int x_lc, .ref rdr, .ref h0, .ref t0, .ref q0, .ref v0, .ref m0])), (xq, .inl (kA 5, 6, .inr (.inr (.inr (.inr xqF))))), (w0, .inr (9, [.ref tnodes, .ref tpasses, .ref tjars, .ref torders, .ref tfeasts, .ref tway, .int tws, .int tnow, .int tfm, .int tx])), (tway, .inr (6, [.int 1, .ref twayA, .int twayS]))]) hP hD [2, 3, 0, 1] (by decide) rfl
          refine W.widen (k := 0) (n := 0) (Nat.le_of_ble_eq_true rfl) (Nat.le_of_ble_eq_true rfl) ?_
          exact W.iret (v := (-1)) hx hb hr (fun t ht hW => ⟨⟨(-1), (), rfl, rfl, by rw [ht]; exact hP9, hD9⟩, hS.F ht⟩) hS.2.2 dX10_guess_109
        · refine lv_aload_n hx hb dX10_guess_48 rfl (lv_at hl 2 rfl) ?_
          refine va_get (D := (dC, dI)) (ci := 10) (v := .ref w0) (C := RX10) (T := TX10) (N := 13) hx hb hts iX10_guess_X10 hown hK.1 hP 2 rfl rfl 0 (by decide) (kX10_guess_2 hts) (fun _ h9 => h9) rfl dX10_guess_49 ?_
          refine va_get (D := (dC, dI)) (ci := 9) (v := .ref tway) (C := RX9) (T := TX9) (N := 10) hx hb hts iX10_guess_X9 hown hK.1 hP 0 rfl rfl 5 (by decide) (kX10_guess_3 hts) (fun _ h9 => h9) rfl dX10_guess_52 ?_
          refine lv_iload hx hb dX10_guess_55 (lv_at hl 10 rfl) ?_
          refine z_i (wr := [(w0, .inr (9, [.ref tnodes, .ref tpasses, .ref tjars, .ref torders, .ref tfeasts, .ref tway, .int tws, .int tnow, .int tfm, .int tx])), (x0, .inr (10, [.ref w0, .ref z0, .ref xi, .ref xt, .int x_tl, .ref xq, .int x_lc, .ref rdr, .ref h0, .ref t0, .ref q0, .ref v0, .ref m0])), (xq, .inl (kA 5, 6, .inr (.inr (.inr (.inr xqF)))))]) (va_runV (As := [.int p7]) (rest := []) ⟨hx, hb, hml, hown, hts⟩ (mX6_has l dC dI kA _ tway twayA 1 twayS p7) (cwV 1 hts gX10_guess_X6_has rfl rfl rfl ⟨rfl, hdX6_has⟩ ⟨(Nat.le_of_ble_eq_true rfl), (Nat.le_of_ble_eq_true rfl)⟩) ⟨zPc.blind, va_recv hK.1 hP (ci := 6) (q0 := 1) rfl rfl, zPre hK (hP.sub [1] rfl) (hD.sub [1] (by decide) rfl)⟩ rfl rfl hl.1 rfl (lv_room (Nat.le_of_ble_eq_true rfl)) dX10_guess_57 ⟨(Nat.le_of_ble_eq_true rfl), (Nat.le_of_ble_eq_true rfl)⟩) hP hD hS hA [1] [0, 2, 3] rfl rfl (by decide) (by decide) (fun r34 u32 H locs hw33 hP hD hS => ?_)
          obtain rfl := hw33
          obtain ⟨hP, hD⟩ := z_re (L := [(w0, .inr (9, [.ref tnodes, .ref tpasses, .ref tjars, .ref torders, .ref tfeasts, .ref tway, .int tws, .int tnow, .int tfm, .int tx])), (x0, .inr (10, [.ref w0, .ref z0, .ref xi, .ref xt, .int x_tl, .ref xq, .int x_lc, .ref rdr, .ref h0, .ref t0, .ref q0, .ref v0, .ref m0])), (xq, .inl (kA 5, 6, .inr (.inr (.inr (.inr xqF))))), (tway, .inr (6, [.int 1, .ref twayA, .int twayS]))]) hP hD
          refine lv_if_eq (tgt := 67) hx hb dX10_guess_60 (by decide) (fun c_35 => ?_) (fun c_35 => ?_)
          · refine lv_iconst (v := 0) hx hb dX10_guess_67 (by decide) ?_
            refine lv_istore (lv' := [(12, .int 0), (11, .int 1), (10, .null), (0, .ref x0), (1, .int p0), (2, .int p1), (3, .int p2), (4, .int p3), (5, .int p4), (6, .int p5), (7, .int p6), (8, .int p7), (9, .int p8)]) hx hb dX10_guess_68 hl (by decide) rfl (fun ls hl => ?_)
            refine lv_aloadN hx hb dX10_guess_70 (lv_at hl 2 rfl) ?_
            refine lv_ifnullN (tgt := 108) hx hb dX10_guess_72 (by decide) ?_
            refine lv_iconst (v := (-1)) hx hb dX10_guess_108 (by decide) ?_
            obtain ⟨hP9, hD9⟩ := z_sb (L' := [(x0, .inr (10, [.ref w0, .ref z0, .ref xi, .ref xt, .int x_tl, .ref xq, .int x_lc, .ref rdr, .ref h0, .ref t0, .ref q0, .ref v0, .ref m0])), (xq, .inl (kA 5, 6, .inr (.inr (.inr (.inr xqF))))), (w0, .inr (9, [.ref tnodes, .ref tpasses, .ref tjars, .ref torders, .ref tfeasts, .ref tway, .int tws, .int tnow, .int tfm, .int tx])), (tway, .inr (6, [.int 1, .ref twayA, .int twayS]))]) hP hD [1, 2, 0, 3] (by decide) rfl
            refine W.widen (k := 0) (n := 0) (Nat.le_of_ble_eq_true rfl) (Nat.le_of_ble_eq_true rfl) ?_
            exact W.iret (v := (-1)) hx hb hr (fun t ht hW => ⟨⟨(-1), (), rfl, rfl, by rw [ht]; exact hP9, hD9⟩, hS.F ht⟩) hS.2.2 dX10_guess_109
          · have c_35a := hs_ne c_35
            have c_35b := c_35a.2
            have c_35a := c_35a.1
            refine lv_iconst (v := 1) hx hb dX10_guess_63 (by decide) ?_
            refine lv_goto (tgt := 68) hx hb dX10_guess_64 (by decide) ?_
            refine lv_istore (lv' := [(12, .int 1), (11, .int 1), (10, .null), (0, .ref x0), (1, .int p0), (2, .int p1), (3, .int p2), (4, .int p3), (5, .int p4), (6, .int p5), (7, .int p6), (8, .int p7), (9, .int p8)]) hx hb dX10_guess_68 hl (by decide) rfl (fun ls hl => ?_)
            refine lv_aloadN hx hb dX10_guess_70 (lv_at hl 2 rfl) ?_
            refine lv_ifnullN (tgt := 108) hx hb dX10_guess_72 (by decide) ?_
            refine lv_iconst (v := (-1)) hx hb dX10_guess_108 (by decide) ?_
            obtain ⟨hP9, hD9⟩ := z_sb (L' := [(x0, .inr (10, [.ref w0, .ref z0, .ref xi, .ref xt, .int x_tl, .ref xq, .int x_lc, .ref rdr, .ref h0, .ref t0, .ref q0, .ref v0, .ref m0])), (xq, .inl (kA 5, 6, .inr (.inr (.inr (.inr xqF))))), (w0, .inr (9, [.ref tnodes, .ref tpasses, .ref tjars, .ref torders, .ref tfeasts, .ref tway, .int tws, .int tnow, .int tfm, .int tx])), (tway, .inr (6, [.int 1, .ref twayA, .int twayS]))]) hP hD [1, 2, 0, 3] (by decide) rfl
            refine W.widen (k := 0) (n := 0) (Nat.le_of_ble_eq_true rfl) (Nat.le_of_ble_eq_true rfl) ?_
            exact W.iret (v := (-1)) hx hb hr (fun t ht hW => ⟨⟨(-1), (), rfl, rfl, by rw [ht]; exact hP9, hD9⟩, hS.F ht⟩) hS.2.2 dX10_guess_109
set_option maxHeartbeats 4000000 in
set_option maxRecDepth 100000 in
theorem mX10_serves_no (l : Launch) (dC : Nat → ClassId) (dI : Nat → Nat → Nat) (kA : Nat → ClassId) (sz : Nat) (x0 : Nat) (z0 : Nat) (xi : Nat) (xt : Nat) (xq : Nat) (rdr : Nat) (h0 : Nat) (t0 : Nat) (q0 : Nat) (v0 : Nat) (m0 : Nat) (w0 : Nat) (x_tl : Int32) (x_lc : Int32) (xqF : Nat → Option Nat) (p0 : Int32) (p1 : Int32) (p2 : Int32) (hsel : (sel p0 x_lc xqF) = none) : Met l yX10_serves wsX10_serves ({ frames := 2, cells := 0, slots := 0, locals := 42 }) (zPc dC dI kA sz [.ref x0, .int p0, .int p1, .int p2] [(x0, .inr (10, [.ref w0, .ref z0, .ref xi, .ref xt, .int x_tl, .ref xq, .int x_lc, .ref rdr, .ref h0, .ref t0, .ref q0, .ref v0, .ref m0])), (xq, .inl (kA 5, 6, .inr (.inr (.inr (.inr xqF)))))]) (va_Qi (fun (r : Int32) (u : Unit) => r = (-1)) (zB dC dI (va_A [(x0, .inr (10, [.ref w0, .ref z0, .ref xi, .ref xt, .int x_tl, .ref xq, .int x_lc, .ref rdr, .ref h0, .ref t0, .ref q0, .ref v0, .ref m0])), (xq, .inl (kA 5, 6, .inr (.inr (.inr (.inr xqF)))))] sz) (fun (u : Unit) => [(x0, .inr (10, [.ref w0, .ref z0, .ref xi, .ref xt, .int x_tl, .ref xq, .int x_lc, .ref rdr, .ref h0, .ref t0, .ref q0, .ref v0, .ref m0])), (xq, .inl (kA 5, 6, .inr (.inr (.inr (.inr xqF)))))])) (va_A [(x0, .inr (10, [.ref w0, .ref z0, .ref xi, .ref xt, .int x_tl, .ref xq, .int x_lc, .ref rdr, .ref h0, .ref t0, .ref q0, .ref v0, .ref m0])), (xq, .inl (kA 5, 6, .inr (.inr (.inr (.inr xqF)))))] sz)) 0 0 (va_A [(x0, .inr (10, [.ref w0, .ref z0, .ref xi, .ref xt, .int x_tl, .ref xq, .int x_lc, .ref rdr, .ref h0, .ref t0, .ref q0, .ref v0, .ref m0])), (xq, .inl (kA 5, 6, .inr (.inr (.inr (.inr xqF)))))] sz) := by
  refine Met.ofW (cc := cX10_serves) (maxL := 5) (ret := (some .int)) (by decide) rfl ?_
  intro p e s m args below meth c s₁ B hml hv
  obtain ⟨rfl, hsz, hP, hK, hD0⟩ := hv
  have hx := B.exec
  have hb := B.bytes
  have hr := B.returns
  have hts := atoms_spec (ws := wsX10_serves) B.pre
  have hown : s.vm.findClass RX10 = some m.cls := findClass_of_methodNamed B.named
  have hlocks := B.notSynchronized
  subst hsz
  have hD := hD0.self (sz := s.heap.size)
  generalize hAe : va_A [(x0, .inr (10, [.ref w0, .ref z0, .ref xi, .ref xt, .int x_tl, .ref xq, .int x_lc, .ref rdr, .ref h0, .ref t0, .ref q0, .ref v0, .ref m0])), (xq, .inl (kA 5, 6, .inr (.inr (.inr (.inr xqF)))))] s.heap.size = A at hD ⊢
  have hA : ∀ q : Nat, s.heap.size ≤ q → A q := fun q h => by rw [← hAe]; exact Or.inr h
  have hS : va_S A s.heap s.heap [] := va_S.rf
  have hP : va_P (dC, dI) vwCl [(x0, .inr (10, [.ref w0, .ref z0, .ref xi, .ref xt, .int x_tl, .ref xq, .int x_lc, .ref rdr, .ref h0, .ref t0, .ref q0, .ref v0, .ref m0])), (xq, .inl (kA 5, 6, .inr (.inr (.inr (.inr xqF)))))] s.heap := hP
  have hl := lv_entry ([.ref x0, .int p0, .int p1, .int p2]) (n := 5) (Nat.le_of_ble_eq_true rfl)
  rw [lg_entry_eq]
  generalize (lg_sl ([.ref x0, .int p0, .int p1, .int p2]) ++ List.replicate (5 - (lg_sl ([.ref x0, .int p0, .int p1, .int p2])).length) Slot.unset).toArray = ls at hl ⊢
  have hl : lv_has ls 5 [(0, .ref x0), (1, .int p0), (2, .int p1), (3, .int p2)] := hl
  refine lv_aload_n hx hb dX10_serves_0 rfl (lv_at hl 0 rfl) ?_
  refine lv_iload_n hx hb dX10_serves_1 rfl (lv_at hl 1 rfl) ?_
  refine z_q (wr := []) (va_runV (As := [.int p0]) (rest := []) ⟨hx, hb, hml, hown, hts⟩ (mX10_lawOf l dC dI kA _ x0 z0 xi xt xq rdr h0 t0 q0 v0 m0 w0 x_tl x_lc xqF p0) (cwV 1 hts gX10_serves_X10_lawOf rfl rfl rfl ⟨rfl, hdX10_lawOf⟩ ⟨(Nat.le_of_ble_eq_true rfl), (Nat.le_of_ble_eq_true rfl)⟩) ⟨zPc.blind, va_recv hK.1 hP (ci := 10) (q0 := 0) rfl rfl, zPre hK (hP.sub [0, 1] rfl) (hD.sub [0, 1] (by decide) rfl)⟩ rfl rfl hl.1 rfl (lv_room (Nat.le_of_ble_eq_true rfl)) dX10_serves_2 ⟨(Nat.le_of_ble_eq_true rfl), (Nat.le_of_ble_eq_true rfl)⟩) hP hD hS hA [0, 1] [] rfl rfl (by decide) (by decide) (fun r3 u1 H locs hw2 hP hD hS => ?_)
  obtain rfl := hw2
  obtain ⟨hP, hD⟩ := z_re (L := [(x0, .inr (10, [.ref w0, .ref z0, .ref xi, .ref xt, .int x_tl, .ref xq, .int x_lc, .ref rdr, .ref h0, .ref t0, .ref q0, .ref v0, .ref m0])), (xq, .inl (kA 5, 6, .inr (.inr (.inr (.inr xqF)))))]) hP hD
  refine zv .null (by rw [hsel]; rfl) ?_
  refine lv_astoreN (lv' := [(4, .null), (0, .ref x0), (1, .int p0), (2, .int p1), (3, .int p2)]) hx hb dX10_serves_5 hl (by decide) rfl (fun ls hl => ?_)
  refine lv_aloadN hx hb dX10_serves_7 (lv_at hl 0 rfl) ?_
  refine lv_ifnullN (tgt := 40) hx hb dX10_serves_9 (by decide) ?_
  refine lv_iconst (v := (-1)) hx hb dX10_serves_40 (by decide) ?_
  obtain ⟨hP9, hD9⟩ := z_sb (L' := [(x0, .inr (10, [.ref w0, .ref z0, .ref xi, .ref xt, .int x_tl, .ref xq, .int x_lc, .ref rdr, .ref h0, .ref t0, .ref q0, .ref v0, .ref m0])), (xq, .inl (kA 5, 6, .inr (.inr (.inr (.inr xqF)))))]) hP hD [0, 1] (by decide) rfl
  refine W.widen (k := 0) (n := 0) (Nat.le_of_ble_eq_true rfl) (Nat.le_of_ble_eq_true rfl) ?_
  exact W.iret (v := (-1)) hx hb hr (fun t ht hW => ⟨⟨(-1), (), rfl, rfl, by rw [ht]; exact hP9, hD9⟩, hS.F ht⟩) hS.2.2 dX10_serves_41
set_option maxHeartbeats 4000000 in
set_option maxRecDepth 100000 in
theorem mX10_all_no (l : Launch) (dC : Nat → ClassId) (dI : Nat → Nat → Nat) (kA : Nat → ClassId) (sz : Nat) (x0 : Nat) (z0 : Nat) (xi : Nat) (xt : Nat) (xq : Nat) (rdr : Nat) (h0 : Nat) (t0 : Nat) (q0 : Nat) (v0 : Nat) (m0 : Nat) (w0 : Nat) (x_tl : Int32) (x_lc : Int32) (xqF : Nat → Option Nat) (p0 : Int32) (p1 : Int32) (hsel : (sel p0 x_lc xqF) = none) : Met l yX10_all wsX10_all ({ frames := 2, cells := 0, slots := 0, locals := 42 }) (zPc dC dI kA sz [.ref x0, .int p0, .int p1] [(x0, .inr (10, [.ref w0, .ref z0, .ref xi, .ref xt, .int x_tl, .ref xq, .int x_lc, .ref rdr, .ref h0, .ref t0, .ref q0, .ref v0, .ref m0])), (xq, .inl (kA 5, 6, .inr (.inr (.inr (.inr xqF)))))]) (va_Qi (fun (r : Int32) (u : Unit) => r = (-1)) (zB dC dI (va_A [(x0, .inr (10, [.ref w0, .ref z0, .ref xi, .ref xt, .int x_tl, .ref xq, .int x_lc, .ref rdr, .ref h0, .ref t0, .ref q0, .ref v0, .ref m0])), (xq, .inl (kA 5, 6, .inr (.inr (.inr (.inr xqF)))))] sz) (fun (u : Unit) => [(x0, .inr (10, [.ref w0, .ref z0, .ref xi, .ref xt, .int x_tl, .ref xq, .int x_lc, .ref rdr, .ref h0, .ref t0, .ref q0, .ref v0, .ref m0])), (xq, .inl (kA 5, 6, .inr (.inr (.inr (.inr xqF)))))])) (va_A [(x0, .inr (10, [.ref w0, .ref z0, .ref xi, .ref xt, .int x_tl, .ref xq, .int x_lc, .ref rdr, .ref h0, .ref t0, .ref q0, .ref v0, .ref m0])), (xq, .inl (kA 5, 6, .inr (.inr (.inr (.inr xqF)))))] sz)) 0 0 (va_A [(x0, .inr (10, [.ref w0, .ref z0, .ref xi, .ref xt, .int x_tl, .ref xq, .int x_lc, .ref rdr, .ref h0, .ref t0, .ref q0, .ref v0, .ref m0])), (xq, .inl (kA 5, 6, .inr (.inr (.inr (.inr xqF)))))] sz) := by
  refine Met.ofW (cc := cX10_all) (maxL := 6) (ret := (some .int)) (by decide) rfl ?_
  intro p e s m args below meth c s₁ B hml hv
  obtain ⟨rfl, hsz, hP, hK, hD0⟩ := hv
  have hx := B.exec
  have hb := B.bytes
  have hr := B.returns
  have hts := atoms_spec (ws := wsX10_all) B.pre
  have hown : s.vm.findClass RX10 = some m.cls := findClass_of_methodNamed B.named
  have hlocks := B.notSynchronized
  subst hsz
  have hD := hD0.self (sz := s.heap.size)
  generalize hAe : va_A [(x0, .inr (10, [.ref w0, .ref z0, .ref xi, .ref xt, .int x_tl, .ref xq, .int x_lc, .ref rdr, .ref h0, .ref t0, .ref q0, .ref v0, .ref m0])), (xq, .inl (kA 5, 6, .inr (.inr (.inr (.inr xqF)))))] s.heap.size = A at hD ⊢
  have hA : ∀ q : Nat, s.heap.size ≤ q → A q := fun q h => by rw [← hAe]; exact Or.inr h
  have hS : va_S A s.heap s.heap [] := va_S.rf
  have hP : va_P (dC, dI) vwCl [(x0, .inr (10, [.ref w0, .ref z0, .ref xi, .ref xt, .int x_tl, .ref xq, .int x_lc, .ref rdr, .ref h0, .ref t0, .ref q0, .ref v0, .ref m0])), (xq, .inl (kA 5, 6, .inr (.inr (.inr (.inr xqF)))))] s.heap := hP
  have hl := lv_entry ([.ref x0, .int p0, .int p1]) (n := 6) (Nat.le_of_ble_eq_true rfl)
  rw [lg_entry_eq]
  generalize (lg_sl ([.ref x0, .int p0, .int p1]) ++ List.replicate (6 - (lg_sl ([.ref x0, .int p0, .int p1])).length) Slot.unset).toArray = ls at hl ⊢
  have hl : lv_has ls 6 [(0, .ref x0), (1, .int p0), (2, .int p1)] := hl
  refine lv_aload_n hx hb dX10_all_0 rfl (lv_at hl 0 rfl) ?_
  refine lv_iload_n hx hb dX10_all_1 rfl (lv_at hl 1 rfl) ?_
  refine z_q (wr := []) (va_runV (As := [.int p0]) (rest := []) ⟨hx, hb, hml, hown, hts⟩ (mX10_lawOf l dC dI kA _ x0 z0 xi xt xq rdr h0 t0 q0 v0 m0 w0 x_tl x_lc xqF p0) (cwV 1 hts gX10_all_X10_lawOf rfl rfl rfl ⟨rfl, hdX10_lawOf⟩ ⟨(Nat.le_of_ble_eq_true rfl), (Nat.le_of_ble_eq_true rfl)⟩) ⟨zPc.blind, va_recv hK.1 hP (ci := 10) (q0 := 0) rfl rfl, zPre hK (hP.sub [0, 1] rfl) (hD.sub [0, 1] (by decide) rfl)⟩ rfl rfl hl.1 rfl (lv_room (Nat.le_of_ble_eq_true rfl)) dX10_all_2 ⟨(Nat.le_of_ble_eq_true rfl), (Nat.le_of_ble_eq_true rfl)⟩) hP hD hS hA [0, 1] [] rfl rfl (by decide) (by decide) (fun r3 u1 H locs hw2 hP hD hS => ?_)
  obtain rfl := hw2
  obtain ⟨hP, hD⟩ := z_re (L := [(x0, .inr (10, [.ref w0, .ref z0, .ref xi, .ref xt, .int x_tl, .ref xq, .int x_lc, .ref rdr, .ref h0, .ref t0, .ref q0, .ref v0, .ref m0])), (xq, .inl (kA 5, 6, .inr (.inr (.inr (.inr xqF)))))]) hP hD
  refine zv .null (by rw [hsel]; rfl) ?_
  refine lv_astore_nN (lv' := [(3, .null), (0, .ref x0), (1, .int p0), (2, .int p1)]) hx hb dX10_all_5 rfl hl (by decide) rfl (fun ls hl => ?_)
  refine lv_aload_nN hx hb dX10_all_6 rfl (lv_at hl 0 rfl) ?_
  refine lv_ifnullN (tgt := 19) hx hb dX10_all_7 (by decide) ?_
  refine lv_iconst (v := (-1)) hx hb dX10_all_19 (by decide) ?_
  obtain ⟨hP9, hD9⟩ := z_sb (L' := [(x0, .inr (10, [.ref w0, .ref z0, .ref xi, .ref xt, .int x_tl, .ref xq, .int x_lc, .ref rdr, .ref h0, .ref t0, .ref q0, .ref v0, .ref m0])), (xq, .inl (kA 5, 6, .inr (.inr (.inr (.inr xqF)))))]) hP hD [0, 1] (by decide) rfl
  refine W.widen (k := 0) (n := 0) (Nat.le_of_ble_eq_true rfl) (Nat.le_of_ble_eq_true rfl) ?_
  exact W.iret (v := (-1)) hx hb hr (fun t ht hW => ⟨⟨(-1), (), rfl, rfl, by rw [ht]; exact hP9, hD9⟩, hS.F ht⟩) hS.2.2 dX10_all_20
set_option maxHeartbeats 4000000 in
set_option maxRecDepth 100000 in
theorem mX10_enough_no (l : Launch) (dC : Nat → ClassId) (dI : Nat → Nat → Nat) (kA : Nat → ClassId) (sz : Nat) (x0 : Nat) (z0 : Nat) (xi : Nat) (xt : Nat) (xq : Nat) (rdr : Nat) (h0 : Nat) (t0 : Nat) (q0 : Nat) (v0 : Nat) (m0 : Nat) (w0 : Nat) (x_tl : Int32) (x_lc : Int32) (xqF : Nat → Option Nat) (p0 : Int32) (p1 : Int32) (p2 : Int32) (hsel : (sel p0 x_lc xqF) = none) : Met l yX10_enough wsX10_enough ({ frames := 2, cells := 0, slots := 0, locals := 42 }) (zPc dC dI kA sz [.ref x0, .int p0, .int p1, .int p2] [(x0, .inr (10, [.ref w0, .ref z0, .ref xi, .ref xt, .int x_tl, .ref xq, .int x_lc, .ref rdr, .ref h0, .ref t0, .ref q0, .ref v0, .ref m0])), (xq, .inl (kA 5, 6, .inr (.inr (.inr (.inr xqF)))))]) (va_Qi (fun (r : Int32) (u : Unit) => r = (-1)) (zB dC dI (va_A [(x0, .inr (10, [.ref w0, .ref z0, .ref xi, .ref xt, .int x_tl, .ref xq, .int x_lc, .ref rdr, .ref h0, .ref t0, .ref q0, .ref v0, .ref m0])), (xq, .inl (kA 5, 6, .inr (.inr (.inr (.inr xqF)))))] sz) (fun (u : Unit) => [(x0, .inr (10, [.ref w0, .ref z0, .ref xi, .ref xt, .int x_tl, .ref xq, .int x_lc, .ref rdr, .ref h0, .ref t0, .ref q0, .ref v0, .ref m0])), (xq, .inl (kA 5, 6, .inr (.inr (.inr (.inr xqF)))))])) (va_A [(x0, .inr (10, [.ref w0, .ref z0, .ref xi, .ref xt, .int x_tl, .ref xq, .int x_lc, .ref rdr, .ref h0, .ref t0, .ref q0, .ref v0, .ref m0])), (xq, .inl (kA 5, 6, .inr (.inr (.inr (.inr xqF)))))] sz)) 0 0 (va_A [(x0, .inr (10, [.ref w0, .ref z0, .ref xi, .ref xt, .int x_tl, .ref xq, .int x_lc, .ref rdr, .ref h0, .ref t0, .ref q0, .ref v0, .ref m0])), (xq, .inl (kA 5, 6, .inr (.inr (.inr (.inr xqF)))))] sz) := by
  refine Met.ofW (cc := cX10_enough) (maxL := 5) (ret := (some .int)) (by decide) rfl ?_
  intro p e s m args below meth c s₁ B hml hv
  obtain ⟨rfl, hsz, hP, hK, hD0⟩ := hv
  have hx := B.exec
  have hb := B.bytes
  have hr := B.returns
  have hts := atoms_spec (ws := wsX10_enough) B.pre
  have hown : s.vm.findClass RX10 = some m.cls := findClass_of_methodNamed B.named
  have hlocks := B.notSynchronized
  subst hsz
  have hD := hD0.self (sz := s.heap.size)
  generalize hAe : va_A [(x0, .inr (10, [.ref w0, .ref z0, .ref xi, .ref xt, .int x_tl, .ref xq, .int x_lc, .ref rdr, .ref h0, .ref t0, .ref q0, .ref v0, .ref m0])), (xq, .inl (kA 5, 6, .inr (.inr (.inr (.inr xqF)))))] s.heap.size = A at hD ⊢
  have hA : ∀ q : Nat, s.heap.size ≤ q → A q := fun q h => by rw [← hAe]; exact Or.inr h
  have hS : va_S A s.heap s.heap [] := va_S.rf
  have hP : va_P (dC, dI) vwCl [(x0, .inr (10, [.ref w0, .ref z0, .ref xi, .ref xt, .int x_tl, .ref xq, .int x_lc, .ref rdr, .ref h0, .ref t0, .ref q0, .ref v0, .ref m0])), (xq, .inl (kA 5, 6, .inr (.inr (.inr (.inr xqF)))))] s.heap := hP
  have hl := lv_entry ([.ref x0, .int p0, .int p1, .int p2]) (n := 5) (Nat.le_of_ble_eq_true rfl)
  rw [lg_entry_eq]
  generalize (lg_sl ([.ref x0, .int p0, .int p1, .int p2]) ++ List.replicate (5 - (lg_sl ([.ref x0, .int p0, .int p1, .int p2])).length) Slot.unset).toArray = ls at hl ⊢
  have hl : lv_has ls 5 [(0, .ref x0), (1, .int p0), (2, .int p1), (3, .int p2)] := hl
  refine lv_aload_n hx hb dX10_enough_0 rfl (lv_at hl 0 rfl) ?_
  refine lv_iload_n hx hb dX10_enough_1 rfl (lv_at hl 1 rfl) ?_
  refine z_q (wr := []) (va_runV (As := [.int p0]) (rest := []) ⟨hx, hb, hml, hown, hts⟩ (mX10_lawOf l dC dI kA _ x0 z0 xi xt xq rdr h0 t0 q0 v0 m0 w0 x_tl x_lc xqF p0) (cwV 1 hts gX10_enough_X10_lawOf rfl rfl rfl ⟨rfl, hdX10_lawOf⟩ ⟨(Nat.le_of_ble_eq_true rfl), (Nat.le_of_ble_eq_true rfl)⟩) ⟨zPc.blind, va_recv hK.1 hP (ci := 10) (q0 := 0) rfl rfl, zPre hK (hP.sub [0, 1] rfl) (hD.sub [0, 1] (by decide) rfl)⟩ rfl rfl hl.1 rfl (lv_room (Nat.le_of_ble_eq_true rfl)) dX10_enough_2 ⟨(Nat.le_of_ble_eq_true rfl), (Nat.le_of_ble_eq_true rfl)⟩) hP hD hS hA [0, 1] [] rfl rfl (by decide) (by decide) (fun r3 u1 H locs hw2 hP hD hS => ?_)
  obtain rfl := hw2
  obtain ⟨hP, hD⟩ := z_re (L := [(x0, .inr (10, [.ref w0, .ref z0, .ref xi, .ref xt, .int x_tl, .ref xq, .int x_lc, .ref rdr, .ref h0, .ref t0, .ref q0, .ref v0, .ref m0])), (xq, .inl (kA 5, 6, .inr (.inr (.inr (.inr xqF)))))]) hP hD
  refine zv .null (by rw [hsel]; rfl) ?_
  refine lv_astoreN (lv' := [(4, .null), (0, .ref x0), (1, .int p0), (2, .int p1), (3, .int p2)]) hx hb dX10_enough_5 hl (by decide) rfl (fun ls hl => ?_)
  refine lv_aloadN hx hb dX10_enough_7 (lv_at hl 0 rfl) ?_
  refine lv_ifnullN (tgt := 35) hx hb dX10_enough_9 (by decide) ?_
  refine lv_iconst (v := (-1)) hx hb dX10_enough_35 (by decide) ?_
  obtain ⟨hP9, hD9⟩ := z_sb (L' := [(x0, .inr (10, [.ref w0, .ref z0, .ref xi, .ref xt, .int x_tl, .ref xq, .int x_lc, .ref rdr, .ref h0, .ref t0, .ref q0, .ref v0, .ref m0])), (xq, .inl (kA 5, 6, .inr (.inr (.inr (.inr xqF)))))]) hP hD [0, 1] (by decide) rfl
  refine W.widen (k := 0) (n := 0) (Nat.le_of_ble_eq_true rfl) (Nat.le_of_ble_eq_true rfl) ?_
  exact W.iret (v := (-1)) hx hb hr (fun t ht hW => ⟨⟨(-1), (), rfl, rfl, by rw [ht]; exact hP9, hD9⟩, hS.F ht⟩) hS.2.2 dX10_enough_36
set_option maxHeartbeats 4000000 in
set_option maxRecDepth 100000 in
theorem mX10_least_no (l : Launch) (dC : Nat → ClassId) (dI : Nat → Nat → Nat) (kA : Nat → ClassId) (sz : Nat) (x0 : Nat) (z0 : Nat) (xi : Nat) (xt : Nat) (xq : Nat) (rdr : Nat) (h0 : Nat) (t0 : Nat) (q0 : Nat) (v0 : Nat) (m0 : Nat) (w0 : Nat) (x_tl : Int32) (x_lc : Int32) (xqF : Nat → Option Nat) (p0 : Int32) (p1 : Int32) (hsel : (sel p0 x_lc xqF) = none) : Met l yX10_least wsX10_least ({ frames := 2, cells := 0, slots := 0, locals := 42 }) (zPc dC dI kA sz [.ref x0, .int p0, .int p1] [(x0, .inr (10, [.ref w0, .ref z0, .ref xi, .ref xt, .int x_tl, .ref xq, .int x_lc, .ref rdr, .ref h0, .ref t0, .ref q0, .ref v0, .ref m0])), (xq, .inl (kA 5, 6, .inr (.inr (.inr (.inr xqF)))))]) (va_Qi (fun (r : Int32) (u : Unit) => r = (-1)) (zB dC dI (va_A [(x0, .inr (10, [.ref w0, .ref z0, .ref xi, .ref xt, .int x_tl, .ref xq, .int x_lc, .ref rdr, .ref h0, .ref t0, .ref q0, .ref v0, .ref m0])), (xq, .inl (kA 5, 6, .inr (.inr (.inr (.inr xqF)))))] sz) (fun (u : Unit) => [(x0, .inr (10, [.ref w0, .ref z0, .ref xi, .ref xt, .int x_tl, .ref xq, .int x_lc, .ref rdr, .ref h0, .ref t0, .ref q0, .ref v0, .ref m0])), (xq, .inl (kA 5, 6, .inr (.inr (.inr (.inr xqF)))))])) (va_A [(x0, .inr (10, [.ref w0, .ref z0, .ref xi, .ref xt, .int x_tl, .ref xq, .int x_lc, .ref rdr, .ref h0, .ref t0, .ref q0, .ref v0, .ref m0])), (xq, .inl (kA 5, 6, .inr (.inr (.inr (.inr xqF)))))] sz)) 0 0 (va_A [(x0, .inr (10, [.ref w0, .ref z0, .ref xi, .ref xt, .int x_tl, .ref xq, .int x_lc, .ref rdr, .ref h0, .ref t0, .ref q0, .ref v0, .ref m0])), (xq, .inl (kA 5, 6, .inr (.inr (.inr (.inr xqF)))))] sz) := by
  refine Met.ofW (cc := cX10_least) (maxL := 5) (ret := (some .int)) (by decide) rfl ?_
  intro p e s m args below meth c s₁ B hml hv
  obtain ⟨rfl, hsz, hP, hK, hD0⟩ := hv
  have hx := B.exec
  have hb := B.bytes
  have hr := B.returns
  have hts := atoms_spec (ws := wsX10_least) B.pre
  have hown : s.vm.findClass RX10 = some m.cls := findClass_of_methodNamed B.named
  have hlocks := B.notSynchronized
  subst hsz
  have hD := hD0.self (sz := s.heap.size)
  generalize hAe : va_A [(x0, .inr (10, [.ref w0, .ref z0, .ref xi, .ref xt, .int x_tl, .ref xq, .int x_lc, .ref rdr, .ref h0, .ref t0, .ref q0, .ref v0, .ref m0])), (xq, .inl (kA 5, 6, .inr (.inr (.inr (.inr xqF)))))] s.heap.size = A at hD ⊢
  have hA : ∀ q : Nat, s.heap.size ≤ q → A q := fun q h => by rw [← hAe]; exact Or.inr h
  have hS : va_S A s.heap s.heap [] := va_S.rf
  have hP : va_P (dC, dI) vwCl [(x0, .inr (10, [.ref w0, .ref z0, .ref xi, .ref xt, .int x_tl, .ref xq, .int x_lc, .ref rdr, .ref h0, .ref t0, .ref q0, .ref v0, .ref m0])), (xq, .inl (kA 5, 6, .inr (.inr (.inr (.inr xqF)))))] s.heap := hP
  have hl := lv_entry ([.ref x0, .int p0, .int p1]) (n := 5) (Nat.le_of_ble_eq_true rfl)
  rw [lg_entry_eq]
  generalize (lg_sl ([.ref x0, .int p0, .int p1]) ++ List.replicate (5 - (lg_sl ([.ref x0, .int p0, .int p1])).length) Slot.unset).toArray = ls at hl ⊢
  have hl : lv_has ls 5 [(0, .ref x0), (1, .int p0), (2, .int p1)] := hl
  refine lv_aload_n hx hb dX10_least_0 rfl (lv_at hl 0 rfl) ?_
  refine lv_iload_n hx hb dX10_least_1 rfl (lv_at hl 1 rfl) ?_
  refine z_q (wr := []) (va_runV (As := [.int p0]) (rest := []) ⟨hx, hb, hml, hown, hts⟩ (mX10_lawOf l dC dI kA _ x0 z0 xi xt xq rdr h0 t0 q0 v0 m0 w0 x_tl x_lc xqF p0) (cwV 1 hts gX10_least_X10_lawOf rfl rfl rfl ⟨rfl, hdX10_lawOf⟩ ⟨(Nat.le_of_ble_eq_true rfl), (Nat.le_of_ble_eq_true rfl)⟩) ⟨zPc.blind, va_recv hK.1 hP (ci := 10) (q0 := 0) rfl rfl, zPre hK (hP.sub [0, 1] rfl) (hD.sub [0, 1] (by decide) rfl)⟩ rfl rfl hl.1 rfl (lv_room (Nat.le_of_ble_eq_true rfl)) dX10_least_2 ⟨(Nat.le_of_ble_eq_true rfl), (Nat.le_of_ble_eq_true rfl)⟩) hP hD hS hA [0, 1] [] rfl rfl (by decide) (by decide) (fun r3 u1 H locs hw2 hP hD hS => ?_)
  obtain rfl := hw2
  obtain ⟨hP, hD⟩ := z_re (L := [(x0, .inr (10, [.ref w0, .ref z0, .ref xi, .ref xt, .int x_tl, .ref xq, .int x_lc, .ref rdr, .ref h0, .ref t0, .ref q0, .ref v0, .ref m0])), (xq, .inl (kA 5, 6, .inr (.inr (.inr (.inr xqF)))))]) hP hD
  refine zv .null (by rw [hsel]; rfl) ?_
  refine lv_astore_nN (lv' := [(3, .null), (0, .ref x0), (1, .int p0), (2, .int p1)]) hx hb dX10_least_5 rfl hl (by decide) rfl (fun ls hl => ?_)
  refine lv_aload_nN hx hb dX10_least_6 rfl (lv_at hl 0 rfl) ?_
  refine lv_ifnullN (tgt := 24) hx hb dX10_least_7 (by decide) ?_
  refine lv_iconst (v := (-1)) hx hb dX10_least_24 (by decide) ?_
  obtain ⟨hP9, hD9⟩ := z_sb (L' := [(x0, .inr (10, [.ref w0, .ref z0, .ref xi, .ref xt, .int x_tl, .ref xq, .int x_lc, .ref rdr, .ref h0, .ref t0, .ref q0, .ref v0, .ref m0])), (xq, .inl (kA 5, 6, .inr (.inr (.inr (.inr xqF)))))]) hP hD [0, 1] (by decide) rfl
  refine W.widen (k := 0) (n := 0) (Nat.le_of_ble_eq_true rfl) (Nat.le_of_ble_eq_true rfl) ?_
  exact W.iret (v := (-1)) hx hb hr (fun t ht hW => ⟨⟨(-1), (), rfl, rfl, by rw [ht]; exact hP9, hD9⟩, hS.F ht⟩) hS.2.2 dX10_least_25
set_option maxHeartbeats 4000000 in
set_option maxRecDepth 100000 in
theorem mX10_nights_no (l : Launch) (dC : Nat → ClassId) (dI : Nat → Nat → Nat) (kA : Nat → ClassId) (sz : Nat) (x0 : Nat) (z0 : Nat) (xi : Nat) (xt : Nat) (xq : Nat) (rdr : Nat) (h0 : Nat) (t0 : Nat) (q0 : Nat) (v0 : Nat) (m0 : Nat) (w0 : Nat) (x_tl : Int32) (x_lc : Int32) (xqF : Nat → Option Nat) (p0 : Int32) (p1 : Int32) (p2 : Int32) (p3 : Int32) (p4 : Int32) (hsel : (sel p0 x_lc xqF) = none) : Met l yX10_nights wsX10_nights ({ frames := 2, cells := 0, slots := 0, locals := 42 }) (zPc dC dI kA sz [.ref x0, .int p0, .int p1, .int p2, .int p3, .int p4] [(x0, .inr (10, [.ref w0, .ref z0, .ref xi, .ref xt, .int x_tl, .ref xq, .int x_lc, .ref rdr, .ref h0, .ref t0, .ref q0, .ref v0, .ref m0])), (xq, .inl (kA 5, 6, .inr (.inr (.inr (.inr xqF)))))]) (va_Qi (fun (r : Int32) (u : Unit) => r = (-1)) (zB dC dI (va_A [(x0, .inr (10, [.ref w0, .ref z0, .ref xi, .ref xt, .int x_tl, .ref xq, .int x_lc, .ref rdr, .ref h0, .ref t0, .ref q0, .ref v0, .ref m0])), (xq, .inl (kA 5, 6, .inr (.inr (.inr (.inr xqF)))))] sz) (fun (u : Unit) => [(x0, .inr (10, [.ref w0, .ref z0, .ref xi, .ref xt, .int x_tl, .ref xq, .int x_lc, .ref rdr, .ref h0, .ref t0, .ref q0, .ref v0, .ref m0])), (xq, .inl (kA 5, 6, .inr (.inr (.inr (.inr xqF)))))])) (va_A [(x0, .inr (10, [.ref w0, .ref z0, .ref xi, .ref xt, .int x_tl, .ref xq, .int x_lc, .ref rdr, .ref h0, .ref t0, .ref q0, .ref v0, .ref m0])), (xq, .inl (kA 5, 6, .inr (.inr (.inr (.inr xqF)))))] sz)) 0 0 (va_A [(x0, .inr (10, [.ref w0, .ref z0, .ref xi, .ref xt, .int x_tl, .ref xq, .int x_lc, .ref rdr, .ref h0, .ref t0, .ref q0, .ref v0, .ref m0])), (xq, .inl (kA 5, 6, .inr (.inr (.inr (.inr xqF)))))] sz) := by
  refine Met.ofW (cc := cX10_nights) (maxL := 14) (ret := (some .int)) (by decide) rfl ?_
  intro p e s m args below meth c s₁ B hml hv
  obtain ⟨rfl, hsz, hP, hK, hD0⟩ := hv
  have hx := B.exec
  have hb := B.bytes
  have hr := B.returns
  have hts := atoms_spec (ws := wsX10_nights) B.pre
  have hown : s.vm.findClass RX10 = some m.cls := findClass_of_methodNamed B.named
  have hlocks := B.notSynchronized
  subst hsz
  have hD := hD0.self (sz := s.heap.size)
  generalize hAe : va_A [(x0, .inr (10, [.ref w0, .ref z0, .ref xi, .ref xt, .int x_tl, .ref xq, .int x_lc, .ref rdr, .ref h0, .ref t0, .ref q0, .ref v0, .ref m0])), (xq, .inl (kA 5, 6, .inr (.inr (.inr (.inr xqF)))))] s.heap.size = A at hD ⊢
  have hA : ∀ q : Nat, s.heap.size ≤ q → A q := fun q h => by rw [← hAe]; exact Or.inr h
  have hS : va_S A s.heap s.heap [] := va_S.rf
  have hP : va_P (dC, dI) vwCl [(x0, .inr (10, [.ref w0, .ref z0, .ref xi, .ref xt, .int x_tl, .ref xq, .int x_lc, .ref rdr, .ref h0, .ref t0, .ref q0, .ref v0, .ref m0])), (xq, .inl (kA 5, 6, .inr (.inr (.inr (.inr xqF)))))] s.heap := hP
  have hl := lv_entry ([.ref x0, .int p0, .int p1, .int p2, .int p3, .int p4]) (n := 14) (Nat.le_of_ble_eq_true rfl)
  rw [lg_entry_eq]
  generalize (lg_sl ([.ref x0, .int p0, .int p1, .int p2, .int p3, .int p4]) ++ List.replicate (14 - (lg_sl ([.ref x0, .int p0, .int p1, .int p2, .int p3, .int p4])).length) Slot.unset).toArray = ls at hl ⊢
  have hl : lv_has ls 14 [(0, .ref x0), (1, .int p0), (2, .int p1), (3, .int p2), (4, .int p3), (5, .int p4)] := hl
  refine lv_aload_n hx hb dX10_nights_0 rfl (lv_at hl 0 rfl) ?_
  refine lv_iload_n hx hb dX10_nights_1 rfl (lv_at hl 1 rfl) ?_
  refine z_q (wr := []) (va_runV (As := [.int p0]) (rest := []) ⟨hx, hb, hml, hown, hts⟩ (mX10_lawOf l dC dI kA _ x0 z0 xi xt xq rdr h0 t0 q0 v0 m0 w0 x_tl x_lc xqF p0) (cwV 1 hts gX10_nights_X10_lawOf rfl rfl rfl ⟨rfl, hdX10_lawOf⟩ ⟨(Nat.le_of_ble_eq_true rfl), (Nat.le_of_ble_eq_true rfl)⟩) ⟨zPc.blind, va_recv hK.1 hP (ci := 10) (q0 := 0) rfl rfl, zPre hK (hP.sub [0, 1] rfl) (hD.sub [0, 1] (by decide) rfl)⟩ rfl rfl hl.1 rfl (lv_room (Nat.le_of_ble_eq_true rfl)) dX10_nights_2 ⟨(Nat.le_of_ble_eq_true rfl), (Nat.le_of_ble_eq_true rfl)⟩) hP hD hS hA [0, 1] [] rfl rfl (by decide) (by decide) (fun r3 u1 H locs hw2 hP hD hS => ?_)
  obtain rfl := hw2
  obtain ⟨hP, hD⟩ := z_re (L := [(x0, .inr (10, [.ref w0, .ref z0, .ref xi, .ref xt, .int x_tl, .ref xq, .int x_lc, .ref rdr, .ref h0, .ref t0, .ref q0, .ref v0, .ref m0])), (xq, .inl (kA 5, 6, .inr (.inr (.inr (.inr xqF)))))]) hP hD
  refine zv .null (by rw [hsel]; rfl) ?_
  refine lv_astoreN (lv' := [(6, .null), (0, .ref x0), (1, .int p0), (2, .int p1), (3, .int p2), (4, .int p3), (5, .int p4)]) hx hb dX10_nights_5 hl (by decide) rfl (fun ls hl => ?_)
  refine lv_iload_n hx hb dX10_nights_7 rfl (lv_at hl 4 rfl) ?_
  refine lv_ldc hx hb hown (kX10_nights_1 hts) dX10_nights_8 ?_
  refine z_i (wr := [(x0, .inr (10, [.ref w0, .ref z0, .ref xi, .ref xt, .int x_tl, .ref xq, .int x_lc, .ref rdr, .ref h0, .ref t0, .ref q0, .ref v0, .ref m0])), (xq, .inl (kA 5, 6, .inr (.inr (.inr (.inr xqF)))))]) (va_runS (As := [.int p2, .int 99999]) (rest := []) ⟨hx, hb, hml, hown, hts⟩ (mX10_within l dC dI kA _ p2 99999) (va_cwS 2 hts gX10_nights_X10_within rfl rfl rfl hdX10_within ⟨(Nat.le_of_ble_eq_true rfl), (Nat.le_of_ble_eq_true rfl)⟩) ⟨zPc.blind, zPre hK (hP.sub [] rfl) (hD.sub [] (by decide) rfl)⟩ rfl rfl hl.1 rfl (lv_room (Nat.le_of_ble_eq_true rfl)) dX10_nights_10 ⟨(Nat.le_of_ble_eq_true rfl), (Nat.le_of_ble_eq_true rfl)⟩) hP hD hS hA [] [0, 1] rfl rfl (by decide) (by decide) (fun r6 u4 H locs hw5 hP hD hS => ?_)
  obtain rfl := hw5
  obtain ⟨hP, hD⟩ := z_re (L := [(x0, .inr (10, [.ref w0, .ref z0, .ref xi, .ref xt, .int x_tl, .ref xq, .int x_lc, .ref rdr, .ref h0, .ref t0, .ref q0, .ref v0, .ref m0])), (xq, .inl (kA 5, 6, .inr (.inr (.inr (.inr xqF)))))]) hP hD
  refine lv_if_eq (tgt := 42) hx hb dX10_nights_13 (by decide) (fun c_7 => ?_) (fun c_7 => ?_)
  · refine lv_iconst (v := 0) hx hb dX10_nights_42 (by decide) ?_
    refine lv_istore (lv' := [(7, .int 0), (6, .null), (0, .ref x0), (1, .int p0), (2, .int p1), (3, .int p2), (4, .int p3), (5, .int p4)]) hx hb dX10_nights_43 hl (by decide) rfl (fun ls hl => ?_)
    refine lv_aloadN hx hb dX10_nights_45 (lv_at hl 1 rfl) ?_
    refine lv_ifnullN (tgt := 80) hx hb dX10_nights_47 (by decide) ?_
    refine lv_iconst (v := (-1)) hx hb dX10_nights_80 (by decide) ?_
    obtain ⟨hP9, hD9⟩ := z_sb (L' := [(x0, .inr (10, [.ref w0, .ref z0, .ref xi, .ref xt, .int x_tl, .ref xq, .int x_lc, .ref rdr, .ref h0, .ref t0, .ref q0, .ref v0, .ref m0])), (xq, .inl (kA 5, 6, .inr (.inr (.inr (.inr xqF)))))]) hP hD [0, 1] (by decide) rfl
    refine W.widen (k := 0) (n := 0) (Nat.le_of_ble_eq_true rfl) (Nat.le_of_ble_eq_true rfl) ?_
    exact W.iret (v := (-1)) hx hb hr (fun t ht hW => ⟨⟨(-1), (), rfl, rfl, by rw [ht]; exact hP9, hD9⟩, hS.F ht⟩) hS.2.2 dX10_nights_81
  · have c_7a := wi_ne c_7
    have c_7b := c_7a.2
    have c_7a := c_7a.1
    refine lv_iload hx hb dX10_nights_16 (lv_at hl 5 rfl) ?_
    refine lv_iconst (v := 1) hx hb dX10_nights_18 (by decide) ?_
    refine lv_icmp_lt (tgt := 42) hx hb dX10_nights_19 (by decide) (fun c_8 => ?_) (fun c_8 => ?_)
    · refine lv_iconst (v := 0) hx hb dX10_nights_42 (by decide) ?_
      refine lv_istore (lv' := [(7, .int 0), (6, .null), (0, .ref x0), (1, .int p0), (2, .int p1), (3, .int p2), (4, .int p3), (5, .int p4)]) hx hb dX10_nights_43 hl (by decide) rfl (fun ls hl => ?_)
      refine lv_aloadN hx hb dX10_nights_45 (lv_at hl 1 rfl) ?_
      refine lv_ifnullN (tgt := 80) hx hb dX10_nights_47 (by decide) ?_
      refine lv_iconst (v := (-1)) hx hb dX10_nights_80 (by decide) ?_
      obtain ⟨hP9, hD9⟩ := z_sb (L' := [(x0, .inr (10, [.ref w0, .ref z0, .ref xi, .ref xt, .int x_tl, .ref xq, .int x_lc, .ref rdr, .ref h0, .ref t0, .ref q0, .ref v0, .ref m0])), (xq, .inl (kA 5, 6, .inr (.inr (.inr (.inr xqF)))))]) hP hD [0, 1] (by decide) rfl
      refine W.widen (k := 0) (n := 0) (Nat.le_of_ble_eq_true rfl) (Nat.le_of_ble_eq_true rfl) ?_
      exact W.iret (v := (-1)) hx hb hr (fun t ht hW => ⟨⟨(-1), (), rfl, rfl, by rw [ht]; exact hP9, hD9⟩, hS.F ht⟩) hS.2.2 dX10_nights_81
    · refine lv_iload hx hb dX10_nights_22 (lv_at hl 5 rfl) ?_
      refine lv_bipush (v := 20) hx hb dX10_nights_24 (by decide) ?_
      refine lv_icmp_gt (tgt := 42) hx hb dX10_nights_26 (by decide) (fun c_9 => ?_) (fun c_9 => ?_)
      · refine lv_iconst (v := 0) hx hb dX10_nights_42 (by decide) ?_
        refine lv_istore (lv' := [(7, .int 0), (6, .null), (0, .ref x0), (1, .int p0), (2, .int p1), (3, .int p2), (4, .int p3), (5, .int p4)]) hx hb dX10_nights_43 hl (by decide) rfl (fun ls hl => ?_)
        refine lv_aloadN hx hb dX10_nights_45 (lv_at hl 1 rfl) ?_
        refine lv_ifnullN (tgt := 80) hx hb dX10_nights_47 (by decide) ?_
        refine lv_iconst (v := (-1)) hx hb dX10_nights_80 (by decide) ?_
        obtain ⟨hP9, hD9⟩ := z_sb (L' := [(x0, .inr (10, [.ref w0, .ref z0, .ref xi, .ref xt, .int x_tl, .ref xq, .int x_lc, .ref rdr, .ref h0, .ref t0, .ref q0, .ref v0, .ref m0])), (xq, .inl (kA 5, 6, .inr (.inr (.inr (.inr xqF)))))]) hP hD [0, 1] (by decide) rfl
        refine W.widen (k := 0) (n := 0) (Nat.le_of_ble_eq_true rfl) (Nat.le_of_ble_eq_true rfl) ?_
        exact W.iret (v := (-1)) hx hb hr (fun t ht hW => ⟨⟨(-1), (), rfl, rfl, by rw [ht]; exact hP9, hD9⟩, hS.F ht⟩) hS.2.2 dX10_nights_81
      · refine lv_iload hx hb dX10_nights_29 (lv_at hl 6 rfl) ?_
        refine lv_iconst (v := 2) hx hb dX10_nights_31 (by decide) ?_
        refine z_i (wr := [(x0, .inr (10, [.ref w0, .ref z0, .ref xi, .ref xt, .int x_tl, .ref xq, .int x_lc, .ref rdr, .ref h0, .ref t0, .ref q0, .ref v0, .ref m0])), (xq, .inl (kA 5, 6, .inr (.inr (.inr (.inr xqF)))))]) (va_runS (As := [.int p4, .int 2]) (rest := []) ⟨hx, hb, hml, hown, hts⟩ (mX10_within l dC dI kA _ p4 2) (va_cwS 2 hts gX10_nights_X10_within rfl rfl rfl hdX10_within ⟨(Nat.le_of_ble_eq_true rfl), (Nat.le_of_ble_eq_true rfl)⟩) ⟨zPc.blind, zPre hK (hP.sub [] rfl) (hD.sub [] (by decide) rfl)⟩ rfl rfl hl.1 rfl (lv_room (Nat.le_of_ble_eq_true rfl)) dX10_nights_32 ⟨(Nat.le_of_ble_eq_true rfl), (Nat.le_of_ble_eq_true rfl)⟩) hP hD hS hA [] [0, 1] rfl rfl (by decide) (by decide) (fun r12 u10 H locs hw11 hP hD hS => ?_)
        obtain rfl := hw11
        obtain ⟨hP, hD⟩ := z_re (L := [(x0, .inr (10, [.ref w0, .ref z0, .ref xi, .ref xt, .int x_tl, .ref xq, .int x_lc, .ref rdr, .ref h0, .ref t0, .ref q0, .ref v0, .ref m0])), (xq, .inl (kA 5, 6, .inr (.inr (.inr (.inr xqF)))))]) hP hD
        refine lv_if_eq (tgt := 42) hx hb dX10_nights_35 (by decide) (fun c_13 => ?_) (fun c_13 => ?_)
        · refine lv_iconst (v := 0) hx hb dX10_nights_42 (by decide) ?_
          refine lv_istore (lv' := [(7, .int 0), (6, .null), (0, .ref x0), (1, .int p0), (2, .int p1), (3, .int p2), (4, .int p3), (5, .int p4)]) hx hb dX10_nights_43 hl (by decide) rfl (fun ls hl => ?_)
          refine lv_aloadN hx hb dX10_nights_45 (lv_at hl 1 rfl) ?_
          refine lv_ifnullN (tgt := 80) hx hb dX10_nights_47 (by decide) ?_
          refine lv_iconst (v := (-1)) hx hb dX10_nights_80 (by decide) ?_
          obtain ⟨hP9, hD9⟩ := z_sb (L' := [(x0, .inr (10, [.ref w0, .ref z0, .ref xi, .ref xt, .int x_tl, .ref xq, .int x_lc, .ref rdr, .ref h0, .ref t0, .ref q0, .ref v0, .ref m0])), (xq, .inl (kA 5, 6, .inr (.inr (.inr (.inr xqF)))))]) hP hD [0, 1] (by decide) rfl
          refine W.widen (k := 0) (n := 0) (Nat.le_of_ble_eq_true rfl) (Nat.le_of_ble_eq_true rfl) ?_
          exact W.iret (v := (-1)) hx hb hr (fun t ht hW => ⟨⟨(-1), (), rfl, rfl, by rw [ht]; exact hP9, hD9⟩, hS.F ht⟩) hS.2.2 dX10_nights_81
        · have c_13a := wi_ne c_13
          have c_13b := c_13a.2
          have c_13a := c_13a.1
          refine lv_iconst (v := 1) hx hb dX10_nights_38 (by decide) ?_
          refine lv_goto (tgt := 43) hx hb dX10_nights_39 (by decide) ?_
          refine lv_istore (lv' := [(7, .int 1), (6, .null), (0, .ref x0), (1, .int p0), (2, .int p1), (3, .int p2), (4, .int p3), (5, .int p4)]) hx hb dX10_nights_43 hl (by decide) rfl (fun ls hl => ?_)
          refine lv_aloadN hx hb dX10_nights_45 (lv_at hl 1 rfl) ?_
          refine lv_ifnullN (tgt := 80) hx hb dX10_nights_47 (by decide) ?_
          refine lv_iconst (v := (-1)) hx hb dX10_nights_80 (by decide) ?_
          obtain ⟨hP9, hD9⟩ := z_sb (L' := [(x0, .inr (10, [.ref w0, .ref z0, .ref xi, .ref xt, .int x_tl, .ref xq, .int x_lc, .ref rdr, .ref h0, .ref t0, .ref q0, .ref v0, .ref m0])), (xq, .inl (kA 5, 6, .inr (.inr (.inr (.inr xqF)))))]) hP hD [0, 1] (by decide) rfl
          refine W.widen (k := 0) (n := 0) (Nat.le_of_ble_eq_true rfl) (Nat.le_of_ble_eq_true rfl) ?_
          exact W.iret (v := (-1)) hx hb hr (fun t ht hW => ⟨⟨(-1), (), rfl, rfl, by rw [ht]; exact hP9, hD9⟩, hS.F ht⟩) hS.2.2 dX10_nights_81
set_option maxHeartbeats 4000000 in
set_option maxRecDepth 100000 in
theorem mX10_price_no (l : Launch) (dC : Nat → ClassId) (dI : Nat → Nat → Nat) (kA : Nat → ClassId) (sz : Nat) (x0 : Nat) (z0 : Nat) (xi : Nat) (xt : Nat) (xq : Nat) (rdr : Nat) (h0 : Nat) (t0 : Nat) (q0 : Nat) (v0 : Nat) (m0 : Nat) (w0 : Nat) (x_tl : Int32) (x_lc : Int32) (xqF : Nat → Option Nat) (p0 : Int32) (p1 : Int32) (p2 : Int32) (p3 : Int32) (p4 : Int32) (p5 : Int32) (hsel : (sel p0 x_lc xqF) = none) : Met l yX10_price wsX10_price ({ frames := 2, cells := 0, slots := 0, locals := 42 }) (zPc dC dI kA sz [.ref x0, .int p0, .int p1, .int p2, .int p3, .int p4, .int p5] [(x0, .inr (10, [.ref w0, .ref z0, .ref xi, .ref xt, .int x_tl, .ref xq, .int x_lc, .ref rdr, .ref h0, .ref t0, .ref q0, .ref v0, .ref m0])), (xq, .inl (kA 5, 6, .inr (.inr (.inr (.inr xqF)))))]) (va_Qi (fun (r : Int32) (u : Unit) => r = (-1)) (zB dC dI (va_A [(x0, .inr (10, [.ref w0, .ref z0, .ref xi, .ref xt, .int x_tl, .ref xq, .int x_lc, .ref rdr, .ref h0, .ref t0, .ref q0, .ref v0, .ref m0])), (xq, .inl (kA 5, 6, .inr (.inr (.inr (.inr xqF)))))] sz) (fun (u : Unit) => [(x0, .inr (10, [.ref w0, .ref z0, .ref xi, .ref xt, .int x_tl, .ref xq, .int x_lc, .ref rdr, .ref h0, .ref t0, .ref q0, .ref v0, .ref m0])), (xq, .inl (kA 5, 6, .inr (.inr (.inr (.inr xqF)))))])) (va_A [(x0, .inr (10, [.ref w0, .ref z0, .ref xi, .ref xt, .int x_tl, .ref xq, .int x_lc, .ref rdr, .ref h0, .ref t0, .ref q0, .ref v0, .ref m0])), (xq, .inl (kA 5, 6, .inr (.inr (.inr (.inr xqF)))))] sz)) 0 0 (va_A [(x0, .inr (10, [.ref w0, .ref z0, .ref xi, .ref xt, .int x_tl, .ref xq, .int x_lc, .ref rdr, .ref h0, .ref t0, .ref q0, .ref v0, .ref m0])), (xq, .inl (kA 5, 6, .inr (.inr (.inr (.inr xqF)))))] sz) := by
  refine Met.ofW (cc := cX10_price) (maxL := 9) (ret := (some .int)) (by decide) rfl ?_
  intro p e s m args below meth c s₁ B hml hv
  obtain ⟨rfl, hsz, hP, hK, hD0⟩ := hv
  have hx := B.exec
  have hb := B.bytes
  have hr := B.returns
  have hts := atoms_spec (ws := wsX10_price) B.pre
  have hown : s.vm.findClass RX10 = some m.cls := findClass_of_methodNamed B.named
  have hlocks := B.notSynchronized
  subst hsz
  have hD := hD0.self (sz := s.heap.size)
  generalize hAe : va_A [(x0, .inr (10, [.ref w0, .ref z0, .ref xi, .ref xt, .int x_tl, .ref xq, .int x_lc, .ref rdr, .ref h0, .ref t0, .ref q0, .ref v0, .ref m0])), (xq, .inl (kA 5, 6, .inr (.inr (.inr (.inr xqF)))))] s.heap.size = A at hD ⊢
  have hA : ∀ q : Nat, s.heap.size ≤ q → A q := fun q h => by rw [← hAe]; exact Or.inr h
  have hS : va_S A s.heap s.heap [] := va_S.rf
  have hP : va_P (dC, dI) vwCl [(x0, .inr (10, [.ref w0, .ref z0, .ref xi, .ref xt, .int x_tl, .ref xq, .int x_lc, .ref rdr, .ref h0, .ref t0, .ref q0, .ref v0, .ref m0])), (xq, .inl (kA 5, 6, .inr (.inr (.inr (.inr xqF)))))] s.heap := hP
  have hl := lv_entry ([.ref x0, .int p0, .int p1, .int p2, .int p3, .int p4, .int p5]) (n := 9) (Nat.le_of_ble_eq_true rfl)
  rw [lg_entry_eq]
  generalize (lg_sl ([.ref x0, .int p0, .int p1, .int p2, .int p3, .int p4, .int p5]) ++ List.replicate (9 - (lg_sl ([.ref x0, .int p0, .int p1, .int p2, .int p3, .int p4, .int p5])).length) Slot.unset).toArray = ls at hl ⊢
  have hl : lv_has ls 9 [(0, .ref x0), (1, .int p0), (2, .int p1), (3, .int p2), (4, .int p3), (5, .int p4), (6, .int p5)] := hl
  refine lv_aload_n hx hb dX10_price_0 rfl (lv_at hl 0 rfl) ?_
  refine lv_iload_n hx hb dX10_price_1 rfl (lv_at hl 1 rfl) ?_
  refine z_q (wr := []) (va_runV (As := [.int p0]) (rest := []) ⟨hx, hb, hml, hown, hts⟩ (mX10_lawOf l dC dI kA _ x0 z0 xi xt xq rdr h0 t0 q0 v0 m0 w0 x_tl x_lc xqF p0) (cwV 1 hts gX10_price_X10_lawOf rfl rfl rfl ⟨rfl, hdX10_lawOf⟩ ⟨(Nat.le_of_ble_eq_true rfl), (Nat.le_of_ble_eq_true rfl)⟩) ⟨zPc.blind, va_recv hK.1 hP (ci := 10) (q0 := 0) rfl rfl, zPre hK (hP.sub [0, 1] rfl) (hD.sub [0, 1] (by decide) rfl)⟩ rfl rfl hl.1 rfl (lv_room (Nat.le_of_ble_eq_true rfl)) dX10_price_2 ⟨(Nat.le_of_ble_eq_true rfl), (Nat.le_of_ble_eq_true rfl)⟩) hP hD hS hA [0, 1] [] rfl rfl (by decide) (by decide) (fun r3 u1 H locs hw2 hP hD hS => ?_)
  obtain rfl := hw2
  obtain ⟨hP, hD⟩ := z_re (L := [(x0, .inr (10, [.ref w0, .ref z0, .ref xi, .ref xt, .int x_tl, .ref xq, .int x_lc, .ref rdr, .ref h0, .ref t0, .ref q0, .ref v0, .ref m0])), (xq, .inl (kA 5, 6, .inr (.inr (.inr (.inr xqF)))))]) hP hD
  refine zv .null (by rw [hsel]; rfl) ?_
  refine lv_astoreN (lv' := [(7, .null), (0, .ref x0), (1, .int p0), (2, .int p1), (3, .int p2), (4, .int p3), (5, .int p4), (6, .int p5)]) hx hb dX10_price_5 hl (by decide) rfl (fun ls hl => ?_)
  refine lv_aloadN hx hb dX10_price_7 (lv_at hl 0 rfl) ?_
  refine lv_ifnullN (tgt := 48) hx hb dX10_price_9 (by decide) ?_
  refine lv_iconst (v := (-1)) hx hb dX10_price_48 (by decide) ?_
  obtain ⟨hP9, hD9⟩ := z_sb (L' := [(x0, .inr (10, [.ref w0, .ref z0, .ref xi, .ref xt, .int x_tl, .ref xq, .int x_lc, .ref rdr, .ref h0, .ref t0, .ref q0, .ref v0, .ref m0])), (xq, .inl (kA 5, 6, .inr (.inr (.inr (.inr xqF)))))]) hP hD [0, 1] (by decide) rfl
  refine W.widen (k := 0) (n := 0) (Nat.le_of_ble_eq_true rfl) (Nat.le_of_ble_eq_true rfl) ?_
  exact W.iret (v := (-1)) hx hb hr (fun t ht hW => ⟨⟨(-1), (), rfl, rfl, by rw [ht]; exact hP9, hD9⟩, hS.F ht⟩) hS.2.2 dX10_price_49
set_option maxHeartbeats 4000000 in
set_option maxRecDepth 100000 in
theorem mX10_ahead_no (l : Launch) (dC : Nat → ClassId) (dI : Nat → Nat → Nat) (kA : Nat → ClassId) (sz : Nat) (x0 : Nat) (z0 : Nat) (xi : Nat) (xt : Nat) (xq : Nat) (rdr : Nat) (h0 : Nat) (t0 : Nat) (q0 : Nat) (v0 : Nat) (m0 : Nat) (w0 : Nat) (x_tl : Int32) (x_lc : Int32) (xqF : Nat → Option Nat) (p0 : Int32) (p1 : Int32) (p2 : Int32) (hsel : (sel p0 x_lc xqF) = none) : Met l yX10_ahead wsX10_ahead ({ frames := 2, cells := 0, slots := 0, locals := 42 }) (zPc dC dI kA sz [.ref x0, .int p0, .int p1, .int p2] [(x0, .inr (10, [.ref w0, .ref z0, .ref xi, .ref xt, .int x_tl, .ref xq, .int x_lc, .ref rdr, .ref h0, .ref t0, .ref q0, .ref v0, .ref m0])), (xq, .inl (kA 5, 6, .inr (.inr (.inr (.inr xqF)))))]) (va_Qi (fun (r : Int32) (u : Unit) => r = (-1)) (zB dC dI (va_A [(x0, .inr (10, [.ref w0, .ref z0, .ref xi, .ref xt, .int x_tl, .ref xq, .int x_lc, .ref rdr, .ref h0, .ref t0, .ref q0, .ref v0, .ref m0])), (xq, .inl (kA 5, 6, .inr (.inr (.inr (.inr xqF)))))] sz) (fun (u : Unit) => [(x0, .inr (10, [.ref w0, .ref z0, .ref xi, .ref xt, .int x_tl, .ref xq, .int x_lc, .ref rdr, .ref h0, .ref t0, .ref q0, .ref v0, .ref m0])), (xq, .inl (kA 5, 6, .inr (.inr (.inr (.inr xqF)))))])) (va_A [(x0, .inr (10, [.ref w0, .ref z0, .ref xi, .ref xt, .int x_tl, .ref xq, .int x_lc, .ref rdr, .ref h0, .ref t0, .ref q0, .ref v0, .ref m0])), (xq, .inl (kA 5, 6, .inr (.inr (.inr (.inr xqF)))))] sz)) 0 0 (va_A [(x0, .inr (10, [.ref w0, .ref z0, .ref xi, .ref xt, .int x_tl, .ref xq, .int x_lc, .ref rdr, .ref h0, .ref t0, .ref q0, .ref v0, .ref m0])), (xq, .inl (kA 5, 6, .inr (.inr (.inr (.inr xqF)))))] sz) := by
  refine Met.ofW (cc := cX10_ahead) (maxL := 6) (ret := (some .int)) (by decide) rfl ?_
  intro p e s m args below meth c s₁ B hml hv
  obtain ⟨rfl, hsz, hP, hK, hD0⟩ := hv
  have hx := B.exec
  have hb := B.bytes
  have hr := B.returns
  have hts := atoms_spec (ws := wsX10_ahead) B.pre
  have hown : s.vm.findClass RX10 = some m.cls := findClass_of_methodNamed B.named
  have hlocks := B.notSynchronized
  subst hsz
  have hD := hD0.self (sz := s.heap.size)
  generalize hAe : va_A [(x0, .inr (10, [.ref w0, .ref z0, .ref xi, .ref xt, .int x_tl, .ref xq, .int x_lc, .ref rdr, .ref h0, .ref t0, .ref q0, .ref v0, .ref m0])), (xq, .inl (kA 5, 6, .inr (.inr (.inr (.inr xqF)))))] s.heap.size = A at hD ⊢
  have hA : ∀ q : Nat, s.heap.size ≤ q → A q := fun q h => by rw [← hAe]; exact Or.inr h
  have hS : va_S A s.heap s.heap [] := va_S.rf
  have hP : va_P (dC, dI) vwCl [(x0, .inr (10, [.ref w0, .ref z0, .ref xi, .ref xt, .int x_tl, .ref xq, .int x_lc, .ref rdr, .ref h0, .ref t0, .ref q0, .ref v0, .ref m0])), (xq, .inl (kA 5, 6, .inr (.inr (.inr (.inr xqF)))))] s.heap := hP
  have hl := lv_entry ([.ref x0, .int p0, .int p1, .int p2]) (n := 6) (Nat.le_of_ble_eq_true rfl)
  rw [lg_entry_eq]
  generalize (lg_sl ([.ref x0, .int p0, .int p1, .int p2]) ++ List.replicate (6 - (lg_sl ([.ref x0, .int p0, .int p1, .int p2])).length) Slot.unset).toArray = ls at hl ⊢
  have hl : lv_has ls 6 [(0, .ref x0), (1, .int p0), (2, .int p1), (3, .int p2)] := hl
  refine lv_aload_n hx hb dX10_ahead_0 rfl (lv_at hl 0 rfl) ?_
  refine lv_iload_n hx hb dX10_ahead_1 rfl (lv_at hl 1 rfl) ?_
  refine z_q (wr := []) (va_runV (As := [.int p0]) (rest := []) ⟨hx, hb, hml, hown, hts⟩ (mX10_lawOf l dC dI kA _ x0 z0 xi xt xq rdr h0 t0 q0 v0 m0 w0 x_tl x_lc xqF p0) (cwV 1 hts gX10_ahead_X10_lawOf rfl rfl rfl ⟨rfl, hdX10_lawOf⟩ ⟨(Nat.le_of_ble_eq_true rfl), (Nat.le_of_ble_eq_true rfl)⟩) ⟨zPc.blind, va_recv hK.1 hP (ci := 10) (q0 := 0) rfl rfl, zPre hK (hP.sub [0, 1] rfl) (hD.sub [0, 1] (by decide) rfl)⟩ rfl rfl hl.1 rfl (lv_room (Nat.le_of_ble_eq_true rfl)) dX10_ahead_2 ⟨(Nat.le_of_ble_eq_true rfl), (Nat.le_of_ble_eq_true rfl)⟩) hP hD hS hA [0, 1] [] rfl rfl (by decide) (by decide) (fun r3 u1 H locs hw2 hP hD hS => ?_)
  obtain rfl := hw2
  obtain ⟨hP, hD⟩ := z_re (L := [(x0, .inr (10, [.ref w0, .ref z0, .ref xi, .ref xt, .int x_tl, .ref xq, .int x_lc, .ref rdr, .ref h0, .ref t0, .ref q0, .ref v0, .ref m0])), (xq, .inl (kA 5, 6, .inr (.inr (.inr (.inr xqF)))))]) hP hD
  refine zv .null (by rw [hsel]; rfl) ?_
  refine lv_astoreN (lv' := [(4, .null), (0, .ref x0), (1, .int p0), (2, .int p1), (3, .int p2)]) hx hb dX10_ahead_5 hl (by decide) rfl (fun ls hl => ?_)
  refine lv_aloadN hx hb dX10_ahead_7 (lv_at hl 0 rfl) ?_
  refine lv_ifnullN (tgt := 30) hx hb dX10_ahead_9 (by decide) ?_
  refine lv_iconst (v := (-1)) hx hb dX10_ahead_30 (by decide) ?_
  obtain ⟨hP9, hD9⟩ := z_sb (L' := [(x0, .inr (10, [.ref w0, .ref z0, .ref xi, .ref xt, .int x_tl, .ref xq, .int x_lc, .ref rdr, .ref h0, .ref t0, .ref q0, .ref v0, .ref m0])), (xq, .inl (kA 5, 6, .inr (.inr (.inr (.inr xqF)))))]) hP hD [0, 1] (by decide) rfl
  refine W.widen (k := 0) (n := 0) (Nat.le_of_ble_eq_true rfl) (Nat.le_of_ble_eq_true rfl) ?_
  exact W.iret (v := (-1)) hx hb hr (fun t ht hW => ⟨⟨(-1), (), rfl, rfl, by rw [ht]; exact hP9, hD9⟩, hS.F ht⟩) hS.2.2 dX10_ahead_31
set_option maxRecDepth 100000 in
def fX10_fill (tnodesF : Nat → Int32) (tjarsS : Int32) (tjarsF : Nat → Int32) (tnow : Int32) (tfm : Int32) (p0 : Int32) (p1 : Int32) : (Nat → Int32) × Int32 := bnd (fX9_nodeOf tjarsS tjarsF p0) (fun (r3 : Int32) => if r3 = (-1) then ((tjarsF, (-1))) else (if (wi p1 99999) = 0 then ((tjarsF, (-1))) else (bnd (fX9_monthAt tfm tnow) (fun (r15 : Int32) => bnd (fX9_hasSnow tnodesF r3 r15) (fun (r22 : Int32) => if r22 = 0 then ((tjarsF, (-1))) else (bnd (fX6_get_144 9 tjarsF p0 0) (fun (r31 : Int32) => bnd (fX6_put_144 9 tjarsF p0 0 p1) (fun (o39 : Nat → Int32) => (o39, r31)))))))))
set_option maxHeartbeats 4000000 in
set_option maxRecDepth 100000 in
theorem mX10_fill (l : Launch) (dC : Nat → ClassId) (dI : Nat → Nat → Nat) (kA : Nat → ClassId) (sz : Nat) (x0 : Nat) (z0 : Nat) (xi : Nat) (xt : Nat) (xq : Nat) (rdr : Nat) (h0 : Nat) (t0 : Nat) (q0 : Nat) (v0 : Nat) (m0 : Nat) (w0 : Nat) (x_tl : Int32) (x_lc : Int32) (tnodes : Nat) (tnodesA : Nat) (tnodesS : Int32) (tnodesF : Nat → Int32) (tpasses : Nat) (tjars : Nat) (tjarsA : Nat) (tjarsS : Int32) (tjarsF : Nat → Int32) (torders : Nat) (tfeasts : Nat) (tway : Nat) (tws : Int32) (tnow : Int32) (tfm : Int32) (tx : Int32) (p0 : Int32) (p1 : Int32)  : Met l yX10_fill wsX10_fill ({ frames := 2, cells := 0, slots := 0, locals := 45 }) (zPc dC dI kA sz [.ref x0, .int p0, .int p1] [(x0, .inr (10, [.ref w0, .ref z0, .ref xi, .ref xt, .int x_tl, .ref xq, .int x_lc, .ref rdr, .ref h0, .ref t0, .ref q0, .ref v0, .ref m0])), (w0, .inr (9, [.ref tnodes, .ref tpasses, .ref tjars, .ref torders, .ref tfeasts, .ref tway, .int tws, .int tnow, .int tfm, .int tx])), (tnodes, .inr (6, [.int 4, .ref tnodesA, .int tnodesS])), (tnodesA, .inl (kA 0, 48, .inl tnodesF)), (tjars, .inr (6, [.int 9, .ref tjarsA, .int tjarsS])), (tjarsA, .inl (kA 0, 144, .inl tjarsF))]) (va_Qi (fun (r : Int32) (u : (Nat → Int32) × Int32) => r = u.2 ∧ (u.1, u.2) = fX10_fill tnodesF tjarsS tjarsF tnow tfm p0 p1) (zB dC dI (va_A [(x0, .inr (10, [.ref w0, .ref z0, .ref xi, .ref xt, .int x_tl, .ref xq, .int x_lc, .ref rdr, .ref h0, .ref t0, .ref q0, .ref v0, .ref m0])), (w0, .inr (9, [.ref tnodes, .ref tpasses, .ref tjars, .ref torders, .ref tfeasts, .ref tway, .int tws, .int tnow, .int tfm, .int tx])), (tnodes, .inr (6, [.int 4, .ref tnodesA, .int tnodesS])), (tnodesA, .inl (kA 0, 48, .inl tnodesF)), (tjars, .inr (6, [.int 9, .ref tjarsA, .int tjarsS])), (tjarsA, .inl (kA 0, 144, .inl tjarsF))] sz) (fun (u : (Nat → Int32) × Int32) => [(x0, .inr (10, [.ref w0, .ref z0, .ref xi, .ref xt, .int x_tl, .ref xq, .int x_lc, .ref rdr, .ref h0, .ref t0, .ref q0, .ref v0, .ref m0])), (w0, .inr (9, [.ref tnodes, .ref tpasses, .ref tjars, .ref torders, .ref tfeasts, .ref tway, .int tws, .int tnow, .int tfm, .int tx])), (tnodes, .inr (6, [.int 4, .ref tnodesA, .int tnodesS])), (tnodesA, .inl (kA 0, 48, .inl tnodesF)), (tjars, .inr (6, [.int 9, .ref tjarsA, .int tjarsS])), (tjarsA, .inl (kA 0, 144, .inl u.1))])) (va_A [(x0, .inr (10, [.ref w0, .ref z0, .ref xi, .ref xt, .int x_tl, .ref xq, .int x_lc, .ref rdr, .ref h0, .ref t0, .ref q0, .ref v0, .ref m0])), (w0, .inr (9, [.ref tnodes, .ref tpasses, .ref tjars, .ref torders, .ref tfeasts, .ref tway, .int tws, .int tnow, .int tfm, .int tx])), (tnodes, .inr (6, [.int 4, .ref tnodesA, .int tnodesS])), (tnodesA, .inl (kA 0, 48, .inl tnodesF)), (tjars, .inr (6, [.int 9, .ref tjarsA, .int tjarsS])), (tjarsA, .inl (kA 0, 144, .inl tjarsF))] sz)) 0 0 (va_A [(x0, .inr (10, [.ref w0, .ref z0, .ref xi, .ref xt, .int x_tl, .ref xq, .int x_lc, .ref rdr, .ref h0, .ref t0, .ref q0, .ref v0, .ref m0])), (w0, .inr (9, [.ref tnodes, .ref tpasses, .ref tjars, .ref torders, .ref tfeasts, .ref tway, .int tws, .int tnow, .int tfm, .int tx])), (tnodes, .inr (6, [.int 4, .ref tnodesA, .int tnodesS])), (tnodesA, .inl (kA 0, 48, .inl tnodesF)), (tjars, .inr (6, [.int 9, .ref tjarsA, .int tjarsS])), (tjarsA, .inl (kA 0, 144, .inl tjarsF))] sz) := by
  refine Met.ofW (cc := cX10_fill) (maxL := 5) (ret := (some .int)) (by decide) rfl ?_
  intro p e s m args below meth c s₁ B hml hv
  obtain ⟨rfl, hsz, hP, hK, hD0⟩ := hv
  have hx := B.exec
  have hb := B.bytes
  have hr := B.returns
  have hts := atoms_spec (ws := wsX10_fill) B.pre
  have hown : s.vm.findClass RX10 = some m.cls := findClass_of_methodNamed B.named
  have hlocks := B.notSynchronized
  subst hsz
  have hD := hD0.self (sz := s.heap.size)
  generalize hAe : va_A [(x0, .inr (10, [.ref w0, .ref z0, .ref xi, .ref xt, .int x_tl, .ref xq, .int x_lc, .ref rdr, .ref h0, .ref t0, .ref q0, .ref v0, .ref m0])), (w0, .inr (9, [.ref tnodes, .ref tpasses, .ref tjars, .ref torders, .ref tfeasts, .ref tway, .int tws, .int tnow, .int tfm, .int tx])), (tnodes, .inr (6, [.int 4, .ref tnodesA, .int tnodesS])), (tnodesA, .inl (kA 0, 48, .inl tnodesF)), (tjars, .inr (6, [.int 9, .ref tjarsA, .int tjarsS])), (tjarsA, .inl (kA 0, 144, .inl tjarsF))] s.heap.size = A at hD ⊢
  have hA : ∀ q : Nat, s.heap.size ≤ q → A q := fun q h => by rw [← hAe]; exact Or.inr h
  have hS : va_S A s.heap s.heap [] := va_S.rf
  have hP : va_P (dC, dI) vwCl [(x0, .inr (10, [.ref w0, .ref z0, .ref xi, .ref xt, .int x_tl, .ref xq, .int x_lc, .ref rdr, .ref h0, .ref t0, .ref q0, .ref v0, .ref m0])), (w0, .inr (9, [.ref tnodes, .ref tpasses, .ref tjars, .ref torders, .ref tfeasts, .ref tway, .int tws, .int tnow, .int tfm, .int tx])), (tnodes, .inr (6, [.int 4, .ref tnodesA, .int tnodesS])), (tnodesA, .inl (kA 0, 48, .inl tnodesF)), (tjars, .inr (6, [.int 9, .ref tjarsA, .int tjarsS])), (tjarsA, .inl (kA 0, 144, .inl tjarsF))] s.heap := hP
  have hl := lv_entry ([.ref x0, .int p0, .int p1]) (n := 5) (Nat.le_of_ble_eq_true rfl)
  rw [lg_entry_eq]
  generalize (lg_sl ([.ref x0, .int p0, .int p1]) ++ List.replicate (5 - (lg_sl ([.ref x0, .int p0, .int p1])).length) Slot.unset).toArray = ls at hl ⊢
  have hl : lv_has ls 5 [(0, .ref x0), (1, .int p0), (2, .int p1)] := hl
  obtain ⟨G, hG0⟩ : ∃ G : (Nat → Int32) × Int32, fX10_fill tnodesF tjarsS tjarsF tnow tfm p0 p1 = G := ⟨_, rfl⟩
  have hG := hG0
  unfold fX10_fill at hG
  refine lv_aload_n hx hb dX10_fill_0 rfl (lv_at hl 0 rfl) ?_
  refine va_get (D := (dC, dI)) (ci := 10) (v := .ref w0) (C := RX10) (T := TX10) (N := 13) hx hb hts iX10_fill_X10 hown hK.1 hP 0 rfl rfl 0 (by decide) (kX10_fill_1 hts) (fun _ h9 => h9) rfl dX10_fill_1 ?_
  refine lv_iload_n hx hb dX10_fill_4 rfl (lv_at hl 1 rfl) ?_
  refine z_i (wr := [(x0, .inr (10, [.ref w0, .ref z0, .ref xi, .ref xt, .int x_tl, .ref xq, .int x_lc, .ref rdr, .ref h0, .ref t0, .ref q0, .ref v0, .ref m0])), (tnodes, .inr (6, [.int 4, .ref tnodesA, .int tnodesS])), (tnodesA, .inl (kA 0, 48, .inl tnodesF))]) (va_runV (As := [.int p0]) (rest := []) ⟨hx, hb, hml, hown, hts⟩ (mX9_nodeOf l dC dI kA _ w0 tnodes tpasses tjars tjarsA tjarsS tjarsF torders tfeasts tway tws tnow tfm tx p0) (cwV 1 hts gX10_fill_X9_nodeOf rfl rfl rfl ⟨rfl, hdX9_nodeOf⟩ ⟨(Nat.le_of_ble_eq_true rfl), (Nat.le_of_ble_eq_true rfl)⟩) ⟨zPc.blind, va_recv hK.1 hP (ci := 9) (q0 := 1) rfl rfl, zPre hK (hP.sub [1, 4, 5] rfl) (hD.sub [1, 4, 5] (by decide) rfl)⟩ rfl rfl hl.1 rfl (lv_room (Nat.le_of_ble_eq_true rfl)) dX10_fill_5 ⟨(Nat.le_of_ble_eq_true rfl), (Nat.le_of_ble_eq_true rfl)⟩) hP hD hS hA [1, 4, 5] [0, 2, 3] rfl rfl (by decide) (by decide) (fun r3 u1 H locs hw2 hP hD hS => ?_)
  obtain ⟨er6, hp5⟩ := hw2
  have er6 : r3 = u1 := er6
  subst er6
  have er3 : r3 = fX9_nodeOf tjarsS tjarsF p0 := hp5
  have hG := zbnd hG er3
  obtain ⟨hP, hD⟩ := z_re (L := [(x0, .inr (10, [.ref w0, .ref z0, .ref xi, .ref xt, .int x_tl, .ref xq, .int x_lc, .ref rdr, .ref h0, .ref t0, .ref q0, .ref v0, .ref m0])), (tnodes, .inr (6, [.int 4, .ref tnodesA, .int tnodesS])), (tnodesA, .inl (kA 0, 48, .inl tnodesF)), (w0, .inr (9, [.ref tnodes, .ref tpasses, .ref tjars, .ref torders, .ref tfeasts, .ref tway, .int tws, .int tnow, .int tfm, .int tx])), (tjars, .inr (6, [.int 9, .ref tjarsA, .int tjarsS])), (tjarsA, .inl (kA 0, 144, .inl tjarsF))]) hP hD
  refine lv_istore_n (lv' := [(3, .int r3), (0, .ref x0), (1, .int p0), (2, .int p1)]) hx hb dX10_fill_8 rfl hl (by decide) rfl (fun ls hl => ?_)
  refine lv_iload_n hx hb dX10_fill_9 rfl (lv_at hl 0 rfl) ?_
  refine lv_iconst (v := (-1)) hx hb dX10_fill_10 (by decide) ?_
  refine lv_icmp_eq (tgt := 48) hx hb dX10_fill_11 (by decide) (fun c_8 => ?_) (fun c_8 => ?_)
  · have hG := zthen hG c_8
    refine lv_iconst (v := (-1)) hx hb dX10_fill_48 (by decide) ?_
    obtain ⟨hP9, hD9⟩ := z_sb (L' := [(x0, .inr (10, [.ref w0, .ref z0, .ref xi, .ref xt, .int x_tl, .ref xq, .int x_lc, .ref rdr, .ref h0, .ref t0, .ref q0, .ref v0, .ref m0])), (w0, .inr (9, [.ref tnodes, .ref tpasses, .ref tjars, .ref torders, .ref tfeasts, .ref tway, .int tws, .int tnow, .int tfm, .int tx])), (tnodes, .inr (6, [.int 4, .ref tnodesA, .int tnodesS])), (tnodesA, .inl (kA 0, 48, .inl tnodesF)), (tjars, .inr (6, [.int 9, .ref tjarsA, .int tjarsS])), (tjarsA, .inl (kA 0, 144, .inl tjarsF))]) hP hD [0, 3, 1, 2, 4, 5] (by decide) rfl
    refine W.widen (k := 0) (n := 0) (Nat.le_of_ble_eq_true rfl) (Nat.le_of_ble_eq_true rfl) ?_
    exact W.iret (v := (-1)) hx hb hr (fun t ht hW => ⟨⟨(-1), (tjarsF, (-1)), rfl, ⟨rfl, (hG.trans hG0.symm)⟩, by rw [ht]; exact hP9, hD9⟩, hS.F ht⟩) hS.2.2 dX10_fill_49
  · have hG := zelse hG c_8
    refine lv_iload_n hx hb dX10_fill_14 rfl (lv_at hl 3 rfl) ?_
    refine lv_ldc hx hb hown (kX10_fill_2 hts) dX10_fill_15 ?_
    refine z_i (wr := [(x0, .inr (10, [.ref w0, .ref z0, .ref xi, .ref xt, .int x_tl, .ref xq, .int x_lc, .ref rdr, .ref h0, .ref t0, .ref q0, .ref v0, .ref m0])), (tnodes, .inr (6, [.int 4, .ref tnodesA, .int tnodesS])), (tnodesA, .inl (kA 0, 48, .inl tnodesF)), (w0, .inr (9, [.ref tnodes, .ref tpasses, .ref tjars, .ref torders, .ref tfeasts, .ref tway, .int tws, .int tnow, .int tfm, .int tx])), (tjars, .inr (6, [.int 9, .ref tjarsA, .int tjarsS])), (tjarsA, .inl (kA 0, 144, .inl tjarsF))]) (va_runS (As := [.int p1, .int 99999]) (rest := []) ⟨hx, hb, hml, hown, hts⟩ (mX10_within l dC dI kA _ p1 99999) (va_cwS 2 hts gX10_fill_X10_within rfl rfl rfl hdX10_within ⟨(Nat.le_of_ble_eq_true rfl), (Nat.le_of_ble_eq_true rfl)⟩) ⟨zPc.blind, zPre hK (hP.sub [] rfl) (hD.sub [] (by decide) rfl)⟩ rfl rfl hl.1 rfl (lv_room (Nat.le_of_ble_eq_true rfl)) dX10_fill_17 ⟨(Nat.le_of_ble_eq_true rfl), (Nat.le_of_ble_eq_true rfl)⟩) hP hD hS hA [] [0, 1, 2, 3, 4, 5] rfl rfl (by decide) (by decide) (fun r11 u9 H locs hw10 hP hD hS => ?_)
    obtain rfl := hw10
    obtain ⟨hP, hD⟩ := z_re (L := [(x0, .inr (10, [.ref w0, .ref z0, .ref xi, .ref xt, .int x_tl, .ref xq, .int x_lc, .ref rdr, .ref h0, .ref t0, .ref q0, .ref v0, .ref m0])), (tnodes, .inr (6, [.int 4, .ref tnodesA, .int tnodesS])), (tnodesA, .inl (kA 0, 48, .inl tnodesF)), (w0, .inr (9, [.ref tnodes, .ref tpasses, .ref tjars, .ref torders, .ref tfeasts, .ref tway, .int tws, .int tnow, .int tfm, .int tx])), (tjars, .inr (6, [.int 9, .ref tjarsA, .int tjarsS])), (tjarsA, .inl (kA 0, 144, .inl tjarsF))]) hP hD
    refine lv_if_eq (tgt := 48) hx hb dX10_fill_20 (by decide) (fun c_12 => ?_) (fun c_12 => ?_)
    · have hG := zthen hG c_12
      refine lv_iconst (v := (-1)) hx hb dX10_fill_48 (by decide) ?_
      obtain ⟨hP9, hD9⟩ := z_sb (L' := [(x0, .inr (10, [.ref w0, .ref z0, .ref xi, .ref xt, .int x_tl, .ref xq, .int x_lc, .ref rdr, .ref h0, .ref t0, .ref q0, .ref v0, .ref m0])), (w0, .inr (9, [.ref tnodes, .ref tpasses, .ref tjars, .ref torders, .ref tfeasts, .ref tway, .int tws, .int tnow, .int tfm, .int tx])), (tnodes, .inr (6, [.int 4, .ref tnodesA, .int tnodesS])), (tnodesA, .inl (kA 0, 48, .inl tnodesF)), (tjars, .inr (6, [.int 9, .ref tjarsA, .int tjarsS])), (tjarsA, .inl (kA 0, 144, .inl tjarsF))]) hP hD [0, 3, 1, 2, 4, 5] (by decide) rfl
      refine W.widen (k := 0) (n := 0) (Nat.le_of_ble_eq_true rfl) (Nat.le_of_ble_eq_true rfl) ?_
      exact W.iret (v := (-1)) hx hb hr (fun t ht hW => ⟨⟨(-1), (tjarsF, (-1)), rfl, ⟨rfl, (hG.trans hG0.symm)⟩, by rw [ht]; exact hP9, hD9⟩, hS.F ht⟩) hS.2.2 dX10_fill_49
    · have hG := zelse hG c_12
      have c_12a := wi_ne c_12
      have c_12b := c_12a.2
      have c_12a := c_12a.1
      refine lv_aload_n hx hb dX10_fill_23 rfl (lv_at hl 1 rfl) ?_
      refine va_get (D := (dC, dI)) (ci := 10) (v := .ref w0) (C := RX10) (T := TX10) (N := 13) hx hb hts iX10_fill_X10 hown hK.1 hP 0 rfl rfl 0 (by decide) (kX10_fill_1 hts) (fun _ h9 => h9) rfl dX10_fill_24 ?_
      refine lv_iload_n hx hb dX10_fill_27 rfl (lv_at hl 0 rfl) ?_
      refine lv_aload_n hx hb dX10_fill_28 rfl (lv_at hl 1 rfl) ?_
      refine va_get (D := (dC, dI)) (ci := 10) (v := .ref w0) (C := RX10) (T := TX10) (N := 13) hx hb hts iX10_fill_X10 hown hK.1 hP 0 rfl rfl 0 (by decide) (kX10_fill_1 hts) (fun _ h9 => h9) rfl dX10_fill_29 ?_
      refine lv_aload_n hx hb dX10_fill_32 rfl (lv_at hl 1 rfl) ?_
      refine va_get (D := (dC, dI)) (ci := 10) (v := .ref w0) (C := RX10) (T := TX10) (N := 13) hx hb hts iX10_fill_X10 hown hK.1 hP 0 rfl rfl 0 (by decide) (kX10_fill_1 hts) (fun _ h9 => h9) rfl dX10_fill_33 ?_
      refine va_get (D := (dC, dI)) (ci := 9) (v := .int tnow) (C := RX9) (T := TX9) (N := 10) hx hb hts iX10_fill_X9 hown hK.1 hP 3 rfl rfl 7 (by decide) (kX10_fill_3 hts) (fun _ h9 => h9) rfl dX10_fill_36 ?_
      refine z_i (wr := [(x0, .inr (10, [.ref w0, .ref z0, .ref xi, .ref xt, .int x_tl, .ref xq, .int x_lc, .ref rdr, .ref h0, .ref t0, .ref q0, .ref v0, .ref m0])), (tnodes, .inr (6, [.int 4, .ref tnodesA, .int tnodesS])), (tnodesA, .inl (kA 0, 48, .inl tnodesF)), (tjars, .inr (6, [.int 9, .ref tjarsA, .int tjarsS])), (tjarsA, .inl (kA 0, 144, .inl tjarsF))]) (va_runV (As := [.int tnow]) (rest := [.int r3, .ref w0]) ⟨hx, hb, hml, hown, hts⟩ (mX9_monthAt l dC dI kA _ w0 tnodes tpasses tjars torders tfeasts tway tws tnow tfm tx tnow) (cwV 1 hts gX10_fill_X9_monthAt rfl rfl rfl ⟨rfl, hdX9_monthAt⟩ ⟨(Nat.le_of_ble_eq_true rfl), (Nat.le_of_ble_eq_true rfl)⟩) ⟨zPc.blind, va_recv hK.1 hP (ci := 9) (q0 := 3) rfl rfl, zPre hK (hP.sub [3] rfl) (hD.sub [3] (by decide) rfl)⟩ rfl rfl hl.1 rfl (lv_room (Nat.le_of_ble_eq_true rfl)) dX10_fill_39 ⟨(Nat.le_of_ble_eq_true rfl), (Nat.le_of_ble_eq_true rfl)⟩) hP hD hS hA [3] [0, 1, 2, 4, 5] rfl rfl (by decide) (by decide) (fun r15 u13 H locs hw14 hP hD hS => ?_)
      obtain ⟨er18, hp17⟩ := hw14
      have er18 : r15 = u13 := er18
      subst er18
      have er15 : r15 = fX9_monthAt tfm tnow := hp17
      have hG := zbnd hG er15
      obtain ⟨hP, hD⟩ := z_re (L := [(x0, .inr (10, [.ref w0, .ref z0, .ref xi, .ref xt, .int x_tl, .ref xq, .int x_lc, .ref rdr, .ref h0, .ref t0, .ref q0, .ref v0, .ref m0])), (tnodes, .inr (6, [.int 4, .ref tnodesA, .int tnodesS])), (tnodesA, .inl (kA 0, 48, .inl tnodesF)), (tjars, .inr (6, [.int 9, .ref tjarsA, .int tjarsS])), (tjarsA, .inl (kA 0, 144, .inl tjarsF)), (w0, .inr (9, [.ref tnodes, .ref tpasses, .ref tjars, .ref torders, .ref tfeasts, .ref tway, .int tws, .int tnow, .int tfm, .int tx]))]) hP hD
      refine z_i (wr := [(x0, .inr (10, [.ref w0, .ref z0, .ref xi, .ref xt, .int x_tl, .ref xq, .int x_lc, .ref rdr, .ref h0, .ref t0, .ref q0, .ref v0, .ref m0])), (tjars, .inr (6, [.int 9, .ref tjarsA, .int tjarsS])), (tjarsA, .inl (kA 0, 144, .inl tjarsF))]) (va_runV (As := [.int r3, .int r15]) (rest := []) ⟨hx, hb, hml, hown, hts⟩ (mX9_hasSnow l dC dI kA _ w0 tnodes tnodesA tnodesS tnodesF tpasses tjars torders tfeasts tway tws tnow tfm tx r3 r15) (cwV 2 hts gX10_fill_X9_hasSnow rfl rfl rfl ⟨rfl, hdX9_hasSnow⟩ ⟨(Nat.le_of_ble_eq_true rfl), (Nat.le_of_ble_eq_true rfl)⟩) ⟨zPc.blind, va_recv hK.1 hP (ci := 9) (q0 := 5) rfl rfl, zPre hK (hP.sub [5, 1, 2] rfl) (hD.sub [5, 1, 2] (by decide) rfl)⟩ rfl rfl hl.1 rfl (lv_room (Nat.le_of_ble_eq_true rfl)) dX10_fill_42 ⟨(Nat.le_of_ble_eq_true rfl), (Nat.le_of_ble_eq_true rfl)⟩) hP hD hS hA [5, 1, 2] [0, 3, 4] rfl rfl (by decide) (by decide) (fun r22 u20 H locs hw21 hP hD hS => ?_)
      obtain ⟨er26, hp24, hp25⟩ := hw21
      have er26 : r22 = u20 := er26
      subst er26
      have er22 : r22 = fX9_hasSnow tnodesF r3 r15 := hp24
      have hG := zbnd hG er22
      obtain ⟨hP, hD⟩ := z_re (L := [(x0, .inr (10, [.ref w0, .ref z0, .ref xi, .ref xt, .int x_tl, .ref xq, .int x_lc, .ref rdr, .ref h0, .ref t0, .ref q0, .ref v0, .ref m0])), (tjars, .inr (6, [.int 9, .ref tjarsA, .int tjarsS])), (tjarsA, .inl (kA 0, 144, .inl tjarsF)), (w0, .inr (9, [.ref tnodes, .ref tpasses, .ref tjars, .ref torders, .ref tfeasts, .ref tway, .int tws, .int tnow, .int tfm, .int tx])), (tnodes, .inr (6, [.int 4, .ref tnodesA, .int tnodesS])), (tnodesA, .inl (kA 0, 48, .inl tnodesF))]) hP hD
      refine lv_if_ne (tgt := 50) hx hb dX10_fill_45 (by decide) (fun c_28 => ?_) (fun c_28 => ?_)
      · have hG := zelse hG c_28
        refine lv_aload_n hx hb dX10_fill_50 rfl (lv_at hl 1 rfl) ?_
        refine va_get (D := (dC, dI)) (ci := 10) (v := .ref w0) (C := RX10) (T := TX10) (N := 13) hx hb hts iX10_fill_X10 hown hK.1 hP 0 rfl rfl 0 (by decide) (kX10_fill_1 hts) (fun _ h9 => h9) rfl dX10_fill_51 ?_
        refine va_get (D := (dC, dI)) (ci := 9) (v := .ref tjars) (C := RX9) (T := TX9) (N := 10) hx hb hts iX10_fill_X9 hown hK.1 hP 3 rfl rfl 2 (by decide) (kX10_fill_4 hts) (fun _ h9 => h9) rfl dX10_fill_54 ?_
        refine lv_iload_n hx hb dX10_fill_57 rfl (lv_at hl 2 rfl) ?_
        refine lv_iconst (v := 0) hx hb dX10_fill_58 (by decide) ?_
        refine z_i (wr := [(x0, .inr (10, [.ref w0, .ref z0, .ref xi, .ref xt, .int x_tl, .ref xq, .int x_lc, .ref rdr, .ref h0, .ref t0, .ref q0, .ref v0, .ref m0])), (w0, .inr (9, [.ref tnodes, .ref tpasses, .ref tjars, .ref torders, .ref tfeasts, .ref tway, .int tws, .int tnow, .int tfm, .int tx])), (tnodes, .inr (6, [.int 4, .ref tnodesA, .int tnodesS])), (tnodesA, .inl (kA 0, 48, .inl tnodesF))]) (va_runV (As := [.int p0, .int 0]) (rest := []) ⟨hx, hb, hml, hown, hts⟩ (mX6_get_144 l dC dI kA _ tjars tjarsA 9 tjarsS tjarsF p0 0) (cwV 2 hts gX10_fill_X6_get rfl rfl rfl ⟨rfl, hdX6_get⟩ ⟨(Nat.le_of_ble_eq_true rfl), (Nat.le_of_ble_eq_true rfl)⟩) ⟨zPc.blind, va_recv hK.1 hP (ci := 6) (q0 := 1) rfl rfl, zPre hK (hP.sub [1, 2] rfl) (hD.sub [1, 2] (by decide) rfl)⟩ rfl rfl hl.1 rfl (lv_room (Nat.le_of_ble_eq_true rfl)) dX10_fill_59 ⟨(Nat.le_of_ble_eq_true rfl), (Nat.le_of_ble_eq_true rfl)⟩) hP hD hS hA [1, 2] [0, 3, 4, 5] rfl rfl (by decide) (by decide) (fun r31 u29 H locs hw30 hP hD hS => ?_)
        obtain ⟨er34, hp33⟩ := hw30
        have er34 : r31 = u29 := er34
        subst er34
        have er31 : r31 = fX6_get_144 9 tjarsF p0 0 := hp33
        have hG := zbnd hG er31
        obtain ⟨hP, hD⟩ := z_re (L := [(x0, .inr (10, [.ref w0, .ref z0, .ref xi, .ref xt, .int x_tl, .ref xq, .int x_lc, .ref rdr, .ref h0, .ref t0, .ref q0, .ref v0, .ref m0])), (w0, .inr (9, [.ref tnodes, .ref tpasses, .ref tjars, .ref torders, .ref tfeasts, .ref tway, .int tws, .int tnow, .int tfm, .int tx])), (tnodes, .inr (6, [.int 4, .ref tnodesA, .int tnodesS])), (tnodesA, .inl (kA 0, 48, .inl tnodesF)), (tjars, .inr (6, [.int 9, .ref tjarsA, .int tjarsS])), (tjarsA, .inl (kA 0, 144, .inl tjarsF))]) hP hD
        refine lv_istore (lv' := [(4, .int r31), (3, .int r3), (0, .ref x0), (1, .int p0), (2, .int p1)]) hx hb dX10_fill_62 hl (by decide) rfl (fun ls hl => ?_)
        refine lv_aload_n hx hb dX10_fill_64 rfl (lv_at hl 2 rfl) ?_
        refine va_get (D := (dC, dI)) (ci := 10) (v := .ref w0) (C := RX10) (T := TX10) (N := 13) hx hb hts iX10_fill_X10 hown hK.1 hP 0 rfl rfl 0 (by decide) (kX10_fill_1 hts) (fun _ h9 => h9) rfl dX10_fill_65 ?_
        refine va_get (D := (dC, dI)) (ci := 9) (v := .ref tjars) (C := RX9) (T := TX9) (N := 10) hx hb hts iX10_fill_X9 hown hK.1 hP 1 rfl rfl 2 (by decide) (kX10_fill_4 hts) (fun _ h9 => h9) rfl dX10_fill_68 ?_
        refine lv_iload_n hx hb dX10_fill_71 rfl (lv_at hl 3 rfl) ?_
        refine lv_iconst (v := 0) hx hb dX10_fill_72 (by decide) ?_
        refine lv_iload_n hx hb dX10_fill_73 rfl (lv_at hl 4 rfl) ?_
        refine z_v (wr := [(x0, .inr (10, [.ref w0, .ref z0, .ref xi, .ref xt, .int x_tl, .ref xq, .int x_lc, .ref rdr, .ref h0, .ref t0, .ref q0, .ref v0, .ref m0])), (w0, .inr (9, [.ref tnodes, .ref tpasses, .ref tjars, .ref torders, .ref tfeasts, .ref tway, .int tws, .int tnow, .int tfm, .int tx])), (tnodes, .inr (6, [.int 4, .ref tnodesA, .int tnodesS])), (tnodesA, .inl (kA 0, 48, .inl tnodesF))]) (va_runV (As := [.int p0, .int 0, .int p1]) (rest := []) ⟨hx, hb, hml, hown, hts⟩ (mX6_put_144 l dC dI kA _ tjars tjarsA 9 tjarsS tjarsF p0 0 p1) (cwV 3 hts gX10_fill_X6_put rfl rfl rfl ⟨rfl, hdX6_put⟩ ⟨(Nat.le_of_ble_eq_true rfl), (Nat.le_of_ble_eq_true rfl)⟩) ⟨zPc.blind, va_recv hK.1 hP (ci := 6) (q0 := 4) rfl rfl, zPre hK (hP.sub [4, 5] rfl) (hD.sub [4, 5] (by decide) rfl)⟩ rfl rfl hl.1 rfl (lv_room (Nat.le_of_ble_eq_true rfl)) dX10_fill_74 ⟨(Nat.le_of_ble_eq_true rfl), (Nat.le_of_ble_eq_true rfl)⟩) hP hD hS hA [4, 5] [0, 1, 2, 3] rfl rfl (by decide) (by decide) (fun u36 H locs hw37 hP hD hS => ?_)
        obtain ⟨o39, rfl⟩ : ∃ z, z = u36 := ⟨_, rfl⟩
        have hp40 := hw37
        have eo39 : o39 = fX6_put_144 9 tjarsF p0 0 p1 := hp40
        have hG := zbnd hG eo39
        obtain ⟨hP, hD⟩ := z_re (L := [(x0, .inr (10, [.ref w0, .ref z0, .ref xi, .ref xt, .int x_tl, .ref xq, .int x_lc, .ref rdr, .ref h0, .ref t0, .ref q0, .ref v0, .ref m0])), (w0, .inr (9, [.ref tnodes, .ref tpasses, .ref tjars, .ref torders, .ref tfeasts, .ref tway, .int tws, .int tnow, .int tfm, .int tx])), (tnodes, .inr (6, [.int 4, .ref tnodesA, .int tnodesS])), (tnodesA, .inl (kA 0, 48, .inl tnodesF)), (tjars, .inr (6, [.int 9, .ref tjarsA, .int tjarsS])), (tjarsA, .inl (kA 0, 144, .inl o39))]) hP hD
        refine lv_iload hx hb dX10_fill_77 (lv_at hl 0 rfl) ?_
        obtain ⟨hP9, hD9⟩ := z_sb (L' := [(x0, .inr (10, [.ref w0, .ref z0, .ref xi, .ref xt, .int x_tl, .ref xq, .int x_lc, .ref rdr, .ref h0, .ref t0, .ref q0, .ref v0, .ref m0])), (w0, .inr (9, [.ref tnodes, .ref tpasses, .ref tjars, .ref torders, .ref tfeasts, .ref tway, .int tws, .int tnow, .int tfm, .int tx])), (tnodes, .inr (6, [.int 4, .ref tnodesA, .int tnodesS])), (tnodesA, .inl (kA 0, 48, .inl tnodesF)), (tjars, .inr (6, [.int 9, .ref tjarsA, .int tjarsS])), (tjarsA, .inl (kA 0, 144, .inl o39))]) hP hD [0, 1, 2, 3, 4, 5] (by decide) rfl
        refine W.widen (k := 0) (n := 0) (Nat.le_of_ble_eq_true rfl) (Nat.le_of_ble_eq_true rfl) ?_
        exact W.iret (v := r31) hx hb hr (fun t ht hW => ⟨⟨r31, (o39, r31), rfl, ⟨rfl, (hG.trans hG0.symm)⟩, by rw [ht]; exact hP9, hD9⟩, hS.F ht⟩) hS.2.2 dX10_fill_79
      · have hG := zthen hG c_28
        refine lv_iconst (v := (-1)) hx hb dX10_fill_48 (by decide) ?_
        obtain ⟨hP9, hD9⟩ := z_sb (L' := [(x0, .inr (10, [.ref w0, .ref z0, .ref xi, .ref xt, .int x_tl, .ref xq, .int x_lc, .ref rdr, .ref h0, .ref t0, .ref q0, .ref v0, .ref m0])), (w0, .inr (9, [.ref tnodes, .ref tpasses, .ref tjars, .ref torders, .ref tfeasts, .ref tway, .int tws, .int tnow, .int tfm, .int tx])), (tnodes, .inr (6, [.int 4, .ref tnodesA, .int tnodesS])), (tnodesA, .inl (kA 0, 48, .inl tnodesF)), (tjars, .inr (6, [.int 9, .ref tjarsA, .int tjarsS])), (tjarsA, .inl (kA 0, 144, .inl tjarsF))]) hP hD [0, 3, 4, 5, 1, 2] (by decide) rfl
        refine W.widen (k := 0) (n := 0) (Nat.le_of_ble_eq_true rfl) (Nat.le_of_ble_eq_true rfl) ?_
        exact W.iret (v := (-1)) hx hb hr (fun t ht hW => ⟨⟨(-1), (tjarsF, (-1)), rfl, ⟨rfl, (hG.trans hG0.symm)⟩, by rw [ht]; exact hP9, hD9⟩, hS.F ht⟩) hS.2.2 dX10_fill_49
set_option maxRecDepth 100000 in
def fX10_pour (tnodesF : Nat → Int32) (tjarsS : Int32) (tjarsF : Nat → Int32) (p0 : Int32) : (Nat → Int32) × (Nat → Int32) × Int32 := bnd (fX9_nodeOf tjarsS tjarsF p0) (fun (r3 : Int32) => if r3 = (-1) then ((tnodesF, tjarsF, (-1))) else (bnd (fX6_get_144 9 tjarsF p0 0) (fun (r11 : Int32) => bnd (fX9_bring tnodesF r3 r11) (fun (q23 : (Nat → Int32) × Int32) => bnd (q23.1) (fun (o19 : Nat → Int32) => bnd (q23.2) (fun (r18 : Int32) => bnd (fX6_put_144 9 tjarsF p0 0 0) (fun (o27 : Nat → Int32) => (o19, o27, r18))))))))
set_option maxHeartbeats 4000000 in
set_option maxRecDepth 100000 in
theorem mX10_pour (l : Launch) (dC : Nat → ClassId) (dI : Nat → Nat → Nat) (kA : Nat → ClassId) (sz : Nat) (x0 : Nat) (z0 : Nat) (xi : Nat) (xt : Nat) (xq : Nat) (rdr : Nat) (h0 : Nat) (t0 : Nat) (q0 : Nat) (v0 : Nat) (m0 : Nat) (w0 : Nat) (x_tl : Int32) (x_lc : Int32) (tnodes : Nat) (tnodesA : Nat) (tnodesS : Int32) (tnodesF : Nat → Int32) (tpasses : Nat) (tjars : Nat) (tjarsA : Nat) (tjarsS : Int32) (tjarsF : Nat → Int32) (torders : Nat) (tfeasts : Nat) (tway : Nat) (tws : Int32) (tnow : Int32) (tfm : Int32) (tx : Int32) (p0 : Int32)  : Met l yX10_pour wsX10_pour ({ frames := 2, cells := 0, slots := 0, locals := 48 }) (zPc dC dI kA sz [.ref x0, .int p0] [(x0, .inr (10, [.ref w0, .ref z0, .ref xi, .ref xt, .int x_tl, .ref xq, .int x_lc, .ref rdr, .ref h0, .ref t0, .ref q0, .ref v0, .ref m0])), (w0, .inr (9, [.ref tnodes, .ref tpasses, .ref tjars, .ref torders, .ref tfeasts, .ref tway, .int tws, .int tnow, .int tfm, .int tx])), (tnodes, .inr (6, [.int 4, .ref tnodesA, .int tnodesS])), (tnodesA, .inl (kA 0, 48, .inl tnodesF)), (tjars, .inr (6, [.int 9, .ref tjarsA, .int tjarsS])), (tjarsA, .inl (kA 0, 144, .inl tjarsF))]) (va_Qi (fun (r : Int32) (u : (Nat → Int32) × (Nat → Int32) × Int32) => r = u.2.2 ∧ (u.1, u.2.1, u.2.2) = fX10_pour tnodesF tjarsS tjarsF p0) (zB dC dI (va_A [(x0, .inr (10, [.ref w0, .ref z0, .ref xi, .ref xt, .int x_tl, .ref xq, .int x_lc, .ref rdr, .ref h0, .ref t0, .ref q0, .ref v0, .ref m0])), (w0, .inr (9, [.ref tnodes, .ref tpasses, .ref tjars, .ref torders, .ref tfeasts, .ref tway, .int tws, .int tnow, .int tfm, .int tx])), (tnodes, .inr (6, [.int 4, .ref tnodesA, .int tnodesS])), (tnodesA, .inl (kA 0, 48, .inl tnodesF)), (tjars, .inr (6, [.int 9, .ref tjarsA, .int tjarsS])), (tjarsA, .inl (kA 0, 144, .inl tjarsF))] sz) (fun (u : (Nat → Int32) × (Nat → Int32) × Int32) => [(x0, .inr (10, [.ref w0, .ref z0, .ref xi, .ref xt, .int x_tl, .ref xq, .int x_lc, .ref rdr, .ref h0, .ref t0, .ref q0, .ref v0, .ref m0])), (w0, .inr (9, [.ref tnodes, .ref tpasses, .ref tjars, .ref torders, .ref tfeasts, .ref tway, .int tws, .int tnow, .int tfm, .int tx])), (tnodes, .inr (6, [.int 4, .ref tnodesA, .int tnodesS])), (tnodesA, .inl (kA 0, 48, .inl u.1)), (tjars, .inr (6, [.int 9, .ref tjarsA, .int tjarsS])), (tjarsA, .inl (kA 0, 144, .inl u.2.1))])) (va_A [(x0, .inr (10, [.ref w0, .ref z0, .ref xi, .ref xt, .int x_tl, .ref xq, .int x_lc, .ref rdr, .ref h0, .ref t0, .ref q0, .ref v0, .ref m0])), (w0, .inr (9, [.ref tnodes, .ref tpasses, .ref tjars, .ref torders, .ref tfeasts, .ref tway, .int tws, .int tnow, .int tfm, .int tx])), (tnodes, .inr (6, [.int 4, .ref tnodesA, .int tnodesS])), (tnodesA, .inl (kA 0, 48, .inl tnodesF)), (tjars, .inr (6, [.int 9, .ref tjarsA, .int tjarsS])), (tjarsA, .inl (kA 0, 144, .inl tjarsF))] sz)) 0 0 (va_A [(x0, .inr (10, [.ref w0, .ref z0, .ref xi, .ref xt, .int x_tl, .ref xq, .int x_lc, .ref rdr, .ref h0, .ref t0, .ref q0, .ref v0, .ref m0])), (w0, .inr (9, [.ref tnodes, .ref tpasses, .ref tjars, .ref torders, .ref tfeasts, .ref tway, .int tws, .int tnow, .int tfm, .int tx])), (tnodes, .inr (6, [.int 4, .ref tnodesA, .int tnodesS])), (tnodesA, .inl (kA 0, 48, .inl tnodesF)), (tjars, .inr (6, [.int 9, .ref tjarsA, .int tjarsS])), (tjarsA, .inl (kA 0, 144, .inl tjarsF))] sz) := by
  refine Met.ofW (cc := cX10_pour) (maxL := 4) (ret := (some .int)) (by decide) rfl ?_
  intro p e s m args below meth c s₁ B hml hv
  obtain ⟨rfl, hsz, hP, hK, hD0⟩ := hv
  have hx := B.exec
  have hb := B.bytes
  have hr := B.returns
  have hts := atoms_spec (ws := wsX10_pour) B.pre
  have hown : s.vm.findClass RX10 = some m.cls := findClass_of_methodNamed B.named
  have hlocks := B.notSynchronized
  subst hsz
  have hD := hD0.self (sz := s.heap.size)
  generalize hAe : va_A [(x0, .inr (10, [.ref w0, .ref z0, .ref xi, .ref xt, .int x_tl, .ref xq, .int x_lc, .ref rdr, .ref h0, .ref t0, .ref q0, .ref v0, .ref m0])), (w0, .inr (9, [.ref tnodes, .ref tpasses, .ref tjars, .ref torders, .ref tfeasts, .ref tway, .int tws, .int tnow, .int tfm, .int tx])), (tnodes, .inr (6, [.int 4, .ref tnodesA, .int tnodesS])), (tnodesA, .inl (kA 0, 48, .inl tnodesF)), (tjars, .inr (6, [.int 9, .ref tjarsA, .int tjarsS])), (tjarsA, .inl (kA 0, 144, .inl tjarsF))] s.heap.size = A at hD ⊢
  have hA : ∀ q : Nat, s.heap.size ≤ q → A q := fun q h => by rw [← hAe]; exact Or.inr h
  have hS : va_S A s.heap s.heap [] := va_S.rf
  have hP : va_P (dC, dI) vwCl [(x0, .inr (10, [.ref w0, .ref z0, .ref xi, .ref xt, .int x_tl, .ref xq, .int x_lc, .ref rdr, .ref h0, .ref t0, .ref q0, .ref v0, .ref m0])), (w0, .inr (9, [.ref tnodes, .ref tpasses, .ref tjars, .ref torders, .ref tfeasts, .ref tway, .int tws, .int tnow, .int tfm, .int tx])), (tnodes, .inr (6, [.int 4, .ref tnodesA, .int tnodesS])), (tnodesA, .inl (kA 0, 48, .inl tnodesF)), (tjars, .inr (6, [.int 9, .ref tjarsA, .int tjarsS])), (tjarsA, .inl (kA 0, 144, .inl tjarsF))] s.heap := hP
  have hl := lv_entry ([.ref x0, .int p0]) (n := 4) (Nat.le_of_ble_eq_true rfl)
  rw [lg_entry_eq]
  generalize (lg_sl ([.ref x0, .int p0]) ++ List.replicate (4 - (lg_sl ([.ref x0, .int p0])).length) Slot.unset).toArray = ls at hl ⊢
  have hl : lv_has ls 4 [(0, .ref x0), (1, .int p0)] := hl
  obtain ⟨G, hG0⟩ : ∃ G : (Nat → Int32) × (Nat → Int32) × Int32, fX10_pour tnodesF tjarsS tjarsF p0 = G := ⟨_, rfl⟩
  have hG := hG0
  unfold fX10_pour at hG
  refine lv_aload_n hx hb dX10_pour_0 rfl (lv_at hl 0 rfl) ?_
  refine va_get (D := (dC, dI)) (ci := 10) (v := .ref w0) (C := RX10) (T := TX10) (N := 13) hx hb hts iX10_pour_X10 hown hK.1 hP 0 rfl rfl 0 (by decide) (kX10_pour_1 hts) (fun _ h9 => h9) rfl dX10_pour_1 ?_
  refine lv_iload_n hx hb dX10_pour_4 rfl (lv_at hl 1 rfl) ?_
  refine z_i (wr := [(x0, .inr (10, [.ref w0, .ref z0, .ref xi, .ref xt, .int x_tl, .ref xq, .int x_lc, .ref rdr, .ref h0, .ref t0, .ref q0, .ref v0, .ref m0])), (tnodes, .inr (6, [.int 4, .ref tnodesA, .int tnodesS])), (tnodesA, .inl (kA 0, 48, .inl tnodesF))]) (va_runV (As := [.int p0]) (rest := []) ⟨hx, hb, hml, hown, hts⟩ (mX9_nodeOf l dC dI kA _ w0 tnodes tpasses tjars tjarsA tjarsS tjarsF torders tfeasts tway tws tnow tfm tx p0) (cwV 1 hts gX10_pour_X9_nodeOf rfl rfl rfl ⟨rfl, hdX9_nodeOf⟩ ⟨(Nat.le_of_ble_eq_true rfl), (Nat.le_of_ble_eq_true rfl)⟩) ⟨zPc.blind, va_recv hK.1 hP (ci := 9) (q0 := 1) rfl rfl, zPre hK (hP.sub [1, 4, 5] rfl) (hD.sub [1, 4, 5] (by decide) rfl)⟩ rfl rfl hl.1 rfl (lv_room (Nat.le_of_ble_eq_true rfl)) dX10_pour_5 ⟨(Nat.le_of_ble_eq_true rfl), (Nat.le_of_ble_eq_true rfl)⟩) hP hD hS hA [1, 4, 5] [0, 2, 3] rfl rfl (by decide) (by decide) (fun r3 u1 H locs hw2 hP hD hS => ?_)
  obtain ⟨er6, hp5⟩ := hw2
  have er6 : r3 = u1 := er6
  subst er6
  have er3 : r3 = fX9_nodeOf tjarsS tjarsF p0 := hp5
  have hG := zbnd hG er3
  obtain ⟨hP, hD⟩ := z_re (L := [(x0, .inr (10, [.ref w0, .ref z0, .ref xi, .ref xt, .int x_tl, .ref xq, .int x_lc, .ref rdr, .ref h0, .ref t0, .ref q0, .ref v0, .ref m0])), (tnodes, .inr (6, [.int 4, .ref tnodesA, .int tnodesS])), (tnodesA, .inl (kA 0, 48, .inl tnodesF)), (w0, .inr (9, [.ref tnodes, .ref tpasses, .ref tjars, .ref torders, .ref tfeasts, .ref tway, .int tws, .int tnow, .int tfm, .int tx])), (tjars, .inr (6, [.int 9, .ref tjarsA, .int tjarsS])), (tjarsA, .inl (kA 0, 144, .inl tjarsF))]) hP hD
  refine lv_istore_n (lv' := [(2, .int r3), (0, .ref x0), (1, .int p0)]) hx hb dX10_pour_8 rfl hl (by decide) rfl (fun ls hl => ?_)
  refine lv_iload_n hx hb dX10_pour_9 rfl (lv_at hl 0 rfl) ?_
  refine lv_iconst (v := (-1)) hx hb dX10_pour_10 (by decide) ?_
  refine lv_icmp_ne (tgt := 16) hx hb dX10_pour_11 (by decide) (fun c_8 => ?_) (fun c_8 => ?_)
  · have hG := zelse hG c_8
    refine lv_aload_n hx hb dX10_pour_16 rfl (lv_at hl 1 rfl) ?_
    refine va_get (D := (dC, dI)) (ci := 10) (v := .ref w0) (C := RX10) (T := TX10) (N := 13) hx hb hts iX10_pour_X10 hown hK.1 hP 0 rfl rfl 0 (by decide) (kX10_pour_1 hts) (fun _ h9 => h9) rfl dX10_pour_17 ?_
    refine lv_iload_n hx hb dX10_pour_20 rfl (lv_at hl 0 rfl) ?_
    refine lv_aload_n hx hb dX10_pour_21 rfl (lv_at hl 1 rfl) ?_
    refine va_get (D := (dC, dI)) (ci := 10) (v := .ref w0) (C := RX10) (T := TX10) (N := 13) hx hb hts iX10_pour_X10 hown hK.1 hP 0 rfl rfl 0 (by decide) (kX10_pour_1 hts) (fun _ h9 => h9) rfl dX10_pour_22 ?_
    refine va_get (D := (dC, dI)) (ci := 9) (v := .ref tjars) (C := RX9) (T := TX9) (N := 10) hx hb hts iX10_pour_X9 hown hK.1 hP 3 rfl rfl 2 (by decide) (kX10_pour_2 hts) (fun _ h9 => h9) rfl dX10_pour_25 ?_
    refine lv_iload_n hx hb dX10_pour_28 rfl (lv_at hl 2 rfl) ?_
    refine lv_iconst (v := 0) hx hb dX10_pour_29 (by decide) ?_
    refine z_i (wr := [(x0, .inr (10, [.ref w0, .ref z0, .ref xi, .ref xt, .int x_tl, .ref xq, .int x_lc, .ref rdr, .ref h0, .ref t0, .ref q0, .ref v0, .ref m0])), (tnodes, .inr (6, [.int 4, .ref tnodesA, .int tnodesS])), (tnodesA, .inl (kA 0, 48, .inl tnodesF)), (w0, .inr (9, [.ref tnodes, .ref tpasses, .ref tjars, .ref torders, .ref tfeasts, .ref tway, .int tws, .int tnow, .int tfm, .int tx]))]) (va_runV (As := [.int p0, .int 0]) (rest := [.int r3, .ref w0]) ⟨hx, hb, hml, hown, hts⟩ (mX6_get_144 l dC dI kA _ tjars tjarsA 9 tjarsS tjarsF p0 0) (cwV 2 hts gX10_pour_X6_get rfl rfl rfl ⟨rfl, hdX6_get⟩ ⟨(Nat.le_of_ble_eq_true rfl), (Nat.le_of_ble_eq_true rfl)⟩) ⟨zPc.blind, va_recv hK.1 hP (ci := 6) (q0 := 4) rfl rfl, zPre hK (hP.sub [4, 5] rfl) (hD.sub [4, 5] (by decide) rfl)⟩ rfl rfl hl.1 rfl (lv_room (Nat.le_of_ble_eq_true rfl)) dX10_pour_30 ⟨(Nat.le_of_ble_eq_true rfl), (Nat.le_of_ble_eq_true rfl)⟩) hP hD hS hA [4, 5] [0, 1, 2, 3] rfl rfl (by decide) (by decide) (fun r11 u9 H locs hw10 hP hD hS => ?_)
    obtain ⟨er14, hp13⟩ := hw10
    have er14 : r11 = u9 := er14
    subst er14
    have er11 : r11 = fX6_get_144 9 tjarsF p0 0 := hp13
    have hG := zbnd hG er11
    obtain ⟨hP, hD⟩ := z_re (L := [(x0, .inr (10, [.ref w0, .ref z0, .ref xi, .ref xt, .int x_tl, .ref xq, .int x_lc, .ref rdr, .ref h0, .ref t0, .ref q0, .ref v0, .ref m0])), (tnodes, .inr (6, [.int 4, .ref tnodesA, .int tnodesS])), (tnodesA, .inl (kA 0, 48, .inl tnodesF)), (w0, .inr (9, [.ref tnodes, .ref tpasses, .ref tjars, .ref torders, .ref tfeasts, .ref tway, .int tws, .int tnow, .int tfm, .int tx])), (tjars, .inr (6, [.int 9, .ref tjarsA, .int tjarsS])), (tjarsA, .inl (kA 0, 144, .inl tjarsF))]) hP hD
    refine z_i (wr := [(x0, .inr (10, [.ref w0, .ref z0, .ref xi, .ref xt, .int x_tl, .ref xq, .int x_lc, .ref rdr, .ref h0, .ref t0, .ref q0, .ref v0, .ref m0])), (tjars, .inr (6, [.int 9, .ref tjarsA, .int tjarsS])), (tjarsA, .inl (kA 0, 144, .inl tjarsF))]) (va_runV (As := [.int r3, .int r11]) (rest := []) ⟨hx, hb, hml, hown, hts⟩ (mX9_bring l dC dI kA _ w0 tnodes tnodesA tnodesS tnodesF tpasses tjars torders tfeasts tway tws tnow tfm tx r3 r11) (cwV 2 hts gX10_pour_X9_bring rfl rfl rfl ⟨rfl, hdX9_bring⟩ ⟨(Nat.le_of_ble_eq_true rfl), (Nat.le_of_ble_eq_true rfl)⟩) ⟨zPc.blind, va_recv hK.1 hP (ci := 9) (q0 := 3) rfl rfl, zPre hK (hP.sub [3, 1, 2] rfl) (hD.sub [3, 1, 2] (by decide) rfl)⟩ rfl rfl hl.1 rfl (lv_room (Nat.le_of_ble_eq_true rfl)) dX10_pour_33 ⟨(Nat.le_of_ble_eq_true rfl), (Nat.le_of_ble_eq_true rfl)⟩) hP hD hS hA [3, 1, 2] [0, 4, 5] rfl rfl (by decide) (by decide) (fun r18 u16 H locs hw17 hP hD hS => ?_)
    obtain ⟨o19, r20⟩ := u16
    obtain ⟨er22, hp21⟩ := hw17
    have er22 : r18 = r20 := er22
    subst er22
    obtain ⟨q23, eq23⟩ : ∃ y : (Nat → Int32) × Int32, y = fX9_bring tnodesF r3 r11 := ⟨_, rfl⟩
    have hG := zbnd hG eq23
    have eo19 : o19 = q23.1 := by rw [eq23]; exact congrArg (fun z : (Nat → Int32) × Int32 => z.1) hp21
    have hG := zbnd hG eo19
    have er18 : r18 = q23.2 := by rw [eq23]; exact congrArg (fun z : (Nat → Int32) × Int32 => z.2) hp21
    have hG := zbnd hG er18
    obtain ⟨hP, hD⟩ := z_re (L := [(x0, .inr (10, [.ref w0, .ref z0, .ref xi, .ref xt, .int x_tl, .ref xq, .int x_lc, .ref rdr, .ref h0, .ref t0, .ref q0, .ref v0, .ref m0])), (tjars, .inr (6, [.int 9, .ref tjarsA, .int tjarsS])), (tjarsA, .inl (kA 0, 144, .inl tjarsF)), (w0, .inr (9, [.ref tnodes, .ref tpasses, .ref tjars, .ref torders, .ref tfeasts, .ref tway, .int tws, .int tnow, .int tfm, .int tx])), (tnodes, .inr (6, [.int 4, .ref tnodesA, .int tnodesS])), (tnodesA, .inl (kA 0, 48, .inl o19))]) hP hD
    refine lv_istore_n (lv' := [(3, .int r18), (2, .int r3), (0, .ref x0), (1, .int p0)]) hx hb dX10_pour_36 rfl hl (by decide) rfl (fun ls hl => ?_)
    refine lv_aload_n hx hb dX10_pour_37 rfl (lv_at hl 2 rfl) ?_
    refine va_get (D := (dC, dI)) (ci := 10) (v := .ref w0) (C := RX10) (T := TX10) (N := 13) hx hb hts iX10_pour_X10 hown hK.1 hP 0 rfl rfl 0 (by decide) (kX10_pour_1 hts) (fun _ h9 => h9) rfl dX10_pour_38 ?_
    refine va_get (D := (dC, dI)) (ci := 9) (v := .ref tjars) (C := RX9) (T := TX9) (N := 10) hx hb hts iX10_pour_X9 hown hK.1 hP 3 rfl rfl 2 (by decide) (kX10_pour_2 hts) (fun _ h9 => h9) rfl dX10_pour_41 ?_
    refine lv_iload_n hx hb dX10_pour_44 rfl (lv_at hl 3 rfl) ?_
    refine lv_iconst (v := 0) hx hb dX10_pour_45 (by decide) ?_
    refine lv_iconst (v := 0) hx hb dX10_pour_46 (by decide) ?_
    refine z_v (wr := [(x0, .inr (10, [.ref w0, .ref z0, .ref xi, .ref xt, .int x_tl, .ref xq, .int x_lc, .ref rdr, .ref h0, .ref t0, .ref q0, .ref v0, .ref m0])), (w0, .inr (9, [.ref tnodes, .ref tpasses, .ref tjars, .ref torders, .ref tfeasts, .ref tway, .int tws, .int tnow, .int tfm, .int tx])), (tnodes, .inr (6, [.int 4, .ref tnodesA, .int tnodesS])), (tnodesA, .inl (kA 0, 48, .inl o19))]) (va_runV (As := [.int p0, .int 0, .int 0]) (rest := []) ⟨hx, hb, hml, hown, hts⟩ (mX6_put_144 l dC dI kA _ tjars tjarsA 9 tjarsS tjarsF p0 0 0) (cwV 3 hts gX10_pour_X6_put rfl rfl rfl ⟨rfl, hdX6_put⟩ ⟨(Nat.le_of_ble_eq_true rfl), (Nat.le_of_ble_eq_true rfl)⟩) ⟨zPc.blind, va_recv hK.1 hP (ci := 6) (q0 := 1) rfl rfl, zPre hK (hP.sub [1, 2] rfl) (hD.sub [1, 2] (by decide) rfl)⟩ rfl rfl hl.1 rfl (lv_room (Nat.le_of_ble_eq_true rfl)) dX10_pour_47 ⟨(Nat.le_of_ble_eq_true rfl), (Nat.le_of_ble_eq_true rfl)⟩) hP hD hS hA [1, 2] [0, 3, 4, 5] rfl rfl (by decide) (by decide) (fun u24 H locs hw25 hP hD hS => ?_)
    obtain ⟨o27, rfl⟩ : ∃ z, z = u24 := ⟨_, rfl⟩
    have hp28 := hw25
    have eo27 : o27 = fX6_put_144 9 tjarsF p0 0 0 := hp28
    have hG := zbnd hG eo27
    obtain ⟨hP, hD⟩ := z_re (L := [(x0, .inr (10, [.ref w0, .ref z0, .ref xi, .ref xt, .int x_tl, .ref xq, .int x_lc, .ref rdr, .ref h0, .ref t0, .ref q0, .ref v0, .ref m0])), (w0, .inr (9, [.ref tnodes, .ref tpasses, .ref tjars, .ref torders, .ref tfeasts, .ref tway, .int tws, .int tnow, .int tfm, .int tx])), (tnodes, .inr (6, [.int 4, .ref tnodesA, .int tnodesS])), (tnodesA, .inl (kA 0, 48, .inl o19)), (tjars, .inr (6, [.int 9, .ref tjarsA, .int tjarsS])), (tjarsA, .inl (kA 0, 144, .inl o27))]) hP hD
    refine lv_iload_n hx hb dX10_pour_50 rfl (lv_at hl 0 rfl) ?_
    obtain ⟨hP9, hD9⟩ := z_sb (L' := [(x0, .inr (10, [.ref w0, .ref z0, .ref xi, .ref xt, .int x_tl, .ref xq, .int x_lc, .ref rdr, .ref h0, .ref t0, .ref q0, .ref v0, .ref m0])), (w0, .inr (9, [.ref tnodes, .ref tpasses, .ref tjars, .ref torders, .ref tfeasts, .ref tway, .int tws, .int tnow, .int tfm, .int tx])), (tnodes, .inr (6, [.int 4, .ref tnodesA, .int tnodesS])), (tnodesA, .inl (kA 0, 48, .inl o19)), (tjars, .inr (6, [.int 9, .ref tjarsA, .int tjarsS])), (tjarsA, .inl (kA 0, 144, .inl o27))]) hP hD [0, 1, 2, 3, 4, 5] (by decide) rfl
    refine W.widen (k := 0) (n := 0) (Nat.le_of_ble_eq_true rfl) (Nat.le_of_ble_eq_true rfl) ?_
    exact W.iret (v := r18) hx hb hr (fun t ht hW => ⟨⟨r18, (o19, o27, r18), rfl, ⟨rfl, (hG.trans hG0.symm)⟩, by rw [ht]; exact hP9, hD9⟩, hS.F ht⟩) hS.2.2 dX10_pour_51
  · have hG := zthen hG c_8
    refine lv_iconst (v := (-1)) hx hb dX10_pour_14 (by decide) ?_
    obtain ⟨hP9, hD9⟩ := z_sb (L' := [(x0, .inr (10, [.ref w0, .ref z0, .ref xi, .ref xt, .int x_tl, .ref xq, .int x_lc, .ref rdr, .ref h0, .ref t0, .ref q0, .ref v0, .ref m0])), (w0, .inr (9, [.ref tnodes, .ref tpasses, .ref tjars, .ref torders, .ref tfeasts, .ref tway, .int tws, .int tnow, .int tfm, .int tx])), (tnodes, .inr (6, [.int 4, .ref tnodesA, .int tnodesS])), (tnodesA, .inl (kA 0, 48, .inl tnodesF)), (tjars, .inr (6, [.int 9, .ref tjarsA, .int tjarsS])), (tjarsA, .inl (kA 0, 144, .inl tjarsF))]) hP hD [0, 3, 1, 2, 4, 5] (by decide) rfl
    refine W.widen (k := 0) (n := 0) (Nat.le_of_ble_eq_true rfl) (Nat.le_of_ble_eq_true rfl) ?_
    exact W.iret (v := (-1)) hx hb hr (fun t ht hW => ⟨⟨(-1), (tnodesF, tjarsF, (-1)), rfl, ⟨rfl, (hG.trans hG0.symm)⟩, by rw [ht]; exact hP9, hD9⟩, hS.F ht⟩) hS.2.2 dX10_pour_15
set_option maxRecDepth 100000 in
def fX10_store (tnodesS : Int32) (tnodesF : Nat → Int32) (p0 : Int32) (p1 : Int32) : (Nat → Int32) × Int32 := if (hs p0 tnodesS) = 0 then ((tnodesF, (-1))) else (if (wi p1 999999) = 0 then ((tnodesF, (-1))) else (bnd (fX6_get_48 4 tnodesF p0 3) (fun (r11 : Int32) => bnd (fX6_put_48 4 tnodesF p0 3 p1) (fun (o19 : Nat → Int32) => (o19, r11)))))
set_option maxHeartbeats 4000000 in
set_option maxRecDepth 100000 in
theorem mX10_store (l : Launch) (dC : Nat → ClassId) (dI : Nat → Nat → Nat) (kA : Nat → ClassId) (sz : Nat) (x0 : Nat) (z0 : Nat) (xi : Nat) (xt : Nat) (xq : Nat) (rdr : Nat) (h0 : Nat) (t0 : Nat) (q0 : Nat) (v0 : Nat) (m0 : Nat) (w0 : Nat) (x_tl : Int32) (x_lc : Int32) (tnodes : Nat) (tnodesA : Nat) (tnodesS : Int32) (tnodesF : Nat → Int32) (tpasses : Nat) (tjars : Nat) (torders : Nat) (tfeasts : Nat) (tway : Nat) (tws : Int32) (tnow : Int32) (tfm : Int32) (tx : Int32) (p0 : Int32) (p1 : Int32)  : Met l yX10_store wsX10_store ({ frames := 1, cells := 0, slots := 0, locals := 24 }) (zPc dC dI kA sz [.ref x0, .int p0, .int p1] [(x0, .inr (10, [.ref w0, .ref z0, .ref xi, .ref xt, .int x_tl, .ref xq, .int x_lc, .ref rdr, .ref h0, .ref t0, .ref q0, .ref v0, .ref m0])), (w0, .inr (9, [.ref tnodes, .ref tpasses, .ref tjars, .ref torders, .ref tfeasts, .ref tway, .int tws, .int tnow, .int tfm, .int tx])), (tnodes, .inr (6, [.int 4, .ref tnodesA, .int tnodesS])), (tnodesA, .inl (kA 0, 48, .inl tnodesF))]) (va_Qi (fun (r : Int32) (u : (Nat → Int32) × Int32) => r = u.2 ∧ (u.1, u.2) = fX10_store tnodesS tnodesF p0 p1) (zB dC dI (va_A [(x0, .inr (10, [.ref w0, .ref z0, .ref xi, .ref xt, .int x_tl, .ref xq, .int x_lc, .ref rdr, .ref h0, .ref t0, .ref q0, .ref v0, .ref m0])), (w0, .inr (9, [.ref tnodes, .ref tpasses, .ref tjars, .ref torders, .ref tfeasts, .ref tway, .int tws, .int tnow, .int tfm, .int tx])), (tnodes, .inr (6, [.int 4, .ref tnodesA, .int tnodesS])), (tnodesA, .inl (kA 0, 48, .inl tnodesF))] sz) (fun (u : (Nat → Int32) × Int32) => [(x0, .inr (10, [.ref w0, .ref z0, .ref xi, .ref xt, .int x_tl, .ref xq, .int x_lc, .ref rdr, .ref h0, .ref t0, .ref q0, .ref v0, .ref m0])), (w0, .inr (9, [.ref tnodes, .ref tpasses, .ref tjars, .ref torders, .ref tfeasts, .ref tway, .int tws, .int tnow, .int tfm, .int tx])), (tnodes, .inr (6, [.int 4, .ref tnodesA, .int tnodesS])), (tnodesA, .inl (kA 0, 48, .inl u.1))])) (va_A [(x0, .inr (10, [.ref w0, .ref z0, .ref xi, .ref xt, .int x_tl, .ref xq, .int x_lc, .ref rdr, .ref h0, .ref t0, .ref q0, .ref v0, .ref m0])), (w0, .inr (9, [.ref tnodes, .ref tpasses, .ref tjars, .ref torders, .ref tfeasts, .ref tway, .int tws, .int tnow, .int tfm, .int tx])), (tnodes, .inr (6, [.int 4, .ref tnodesA, .int tnodesS])), (tnodesA, .inl (kA 0, 48, .inl tnodesF))] sz)) 0 0 (va_A [(x0, .inr (10, [.ref w0, .ref z0, .ref xi, .ref xt, .int x_tl, .ref xq, .int x_lc, .ref rdr, .ref h0, .ref t0, .ref q0, .ref v0, .ref m0])), (w0, .inr (9, [.ref tnodes, .ref tpasses, .ref tjars, .ref torders, .ref tfeasts, .ref tway, .int tws, .int tnow, .int tfm, .int tx])), (tnodes, .inr (6, [.int 4, .ref tnodesA, .int tnodesS])), (tnodesA, .inl (kA 0, 48, .inl tnodesF))] sz) := by
  refine Met.ofW (cc := cX10_store) (maxL := 4) (ret := (some .int)) (by decide) rfl ?_
  intro p e s m args below meth c s₁ B hml hv
  obtain ⟨rfl, hsz, hP, hK, hD0⟩ := hv
  have hx := B.exec
  have hb := B.bytes
  have hr := B.returns
  have hts := atoms_spec (ws := wsX10_store) B.pre
  have hown : s.vm.findClass RX10 = some m.cls := findClass_of_methodNamed B.named
  have hlocks := B.notSynchronized
  subst hsz
  have hD := hD0.self (sz := s.heap.size)
  generalize hAe : va_A [(x0, .inr (10, [.ref w0, .ref z0, .ref xi, .ref xt, .int x_tl, .ref xq, .int x_lc, .ref rdr, .ref h0, .ref t0, .ref q0, .ref v0, .ref m0])), (w0, .inr (9, [.ref tnodes, .ref tpasses, .ref tjars, .ref torders, .ref tfeasts, .ref tway, .int tws, .int tnow, .int tfm, .int tx])), (tnodes, .inr (6, [.int 4, .ref tnodesA, .int tnodesS])), (tnodesA, .inl (kA 0, 48, .inl tnodesF))] s.heap.size = A at hD ⊢
  have hA : ∀ q : Nat, s.heap.size ≤ q → A q := fun q h => by rw [← hAe]; exact Or.inr h
  have hS : va_S A s.heap s.heap [] := va_S.rf
  have hP : va_P (dC, dI) vwCl [(x0, .inr (10, [.ref w0, .ref z0, .ref xi, .ref xt, .int x_tl, .ref xq, .int x_lc, .ref rdr, .ref h0, .ref t0, .ref q0, .ref v0, .ref m0])), (w0, .inr (9, [.ref tnodes, .ref tpasses, .ref tjars, .ref torders, .ref tfeasts, .ref tway, .int tws, .int tnow, .int tfm, .int tx])), (tnodes, .inr (6, [.int 4, .ref tnodesA, .int tnodesS])), (tnodesA, .inl (kA 0, 48, .inl tnodesF))] s.heap := hP
  have hl := lv_entry ([.ref x0, .int p0, .int p1]) (n := 4) (Nat.le_of_ble_eq_true rfl)
  rw [lg_entry_eq]
  generalize (lg_sl ([.ref x0, .int p0, .int p1]) ++ List.replicate (4 - (lg_sl ([.ref x0, .int p0, .int p1])).length) Slot.unset).toArray = ls at hl ⊢
  have hl : lv_has ls 4 [(0, .ref x0), (1, .int p0), (2, .int p1)] := hl
  obtain ⟨G, hG0⟩ : ∃ G : (Nat → Int32) × Int32, fX10_store tnodesS tnodesF p0 p1 = G := ⟨_, rfl⟩
  have hG := hG0
  unfold fX10_store at hG
  refine lv_aload_n hx hb dX10_store_0 rfl (lv_at hl 0 rfl) ?_
  refine va_get (D := (dC, dI)) (ci := 10) (v := .ref w0) (C := RX10) (T := TX10) (N := 13) hx hb hts iX10_store_X10 hown hK.1 hP 0 rfl rfl 0 (by decide) (kX10_store_1 hts) (fun _ h9 => h9) rfl dX10_store_1 ?_
  refine va_get (D := (dC, dI)) (ci := 9) (v := .ref tnodes) (C := RX9) (T := TX9) (N := 10) hx hb hts iX10_store_X9 hown hK.1 hP 1 rfl rfl 0 (by decide) (kX10_store_2 hts) (fun _ h9 => h9) rfl dX10_store_4 ?_
  refine lv_iload_n hx hb dX10_store_7 rfl (lv_at hl 1 rfl) ?_
  refine z_i (wr := [(x0, .inr (10, [.ref w0, .ref z0, .ref xi, .ref xt, .int x_tl, .ref xq, .int x_lc, .ref rdr, .ref h0, .ref t0, .ref q0, .ref v0, .ref m0])), (w0, .inr (9, [.ref tnodes, .ref tpasses, .ref tjars, .ref torders, .ref tfeasts, .ref tway, .int tws, .int tnow, .int tfm, .int tx])), (tnodesA, .inl (kA 0, 48, .inl tnodesF))]) (va_runV (As := [.int p0]) (rest := []) ⟨hx, hb, hml, hown, hts⟩ (mX6_has l dC dI kA _ tnodes tnodesA 4 tnodesS p0) (cwV 1 hts gX10_store_X6_has rfl rfl rfl ⟨rfl, hdX6_has⟩ ⟨(Nat.le_of_ble_eq_true rfl), (Nat.le_of_ble_eq_true rfl)⟩) ⟨zPc.blind, va_recv hK.1 hP (ci := 6) (q0 := 2) rfl rfl, zPre hK (hP.sub [2] rfl) (hD.sub [2] (by decide) rfl)⟩ rfl rfl hl.1 rfl (lv_room (Nat.le_of_ble_eq_true rfl)) dX10_store_8 ⟨(Nat.le_of_ble_eq_true rfl), (Nat.le_of_ble_eq_true rfl)⟩) hP hD hS hA [2] [0, 1, 3] rfl rfl (by decide) (by decide) (fun r3 u1 H locs hw2 hP hD hS => ?_)
  obtain rfl := hw2
  obtain ⟨hP, hD⟩ := z_re (L := [(x0, .inr (10, [.ref w0, .ref z0, .ref xi, .ref xt, .int x_tl, .ref xq, .int x_lc, .ref rdr, .ref h0, .ref t0, .ref q0, .ref v0, .ref m0])), (w0, .inr (9, [.ref tnodes, .ref tpasses, .ref tjars, .ref torders, .ref tfeasts, .ref tway, .int tws, .int tnow, .int tfm, .int tx])), (tnodesA, .inl (kA 0, 48, .inl tnodesF)), (tnodes, .inr (6, [.int 4, .ref tnodesA, .int tnodesS]))]) hP hD
  refine lv_if_eq (tgt := 23) hx hb dX10_store_11 (by decide) (fun c_4 => ?_) (fun c_4 => ?_)
  · have hG := zthen hG c_4
    refine lv_iconst (v := (-1)) hx hb dX10_store_23 (by decide) ?_
    obtain ⟨hP9, hD9⟩ := z_sb (L' := [(x0, .inr (10, [.ref w0, .ref z0, .ref xi, .ref xt, .int x_tl, .ref xq, .int x_lc, .ref rdr, .ref h0, .ref t0, .ref q0, .ref v0, .ref m0])), (w0, .inr (9, [.ref tnodes, .ref tpasses, .ref tjars, .ref torders, .ref tfeasts, .ref tway, .int tws, .int tnow, .int tfm, .int tx])), (tnodes, .inr (6, [.int 4, .ref tnodesA, .int tnodesS])), (tnodesA, .inl (kA 0, 48, .inl tnodesF))]) hP hD [0, 1, 3, 2] (by decide) rfl
    refine W.widen (k := 0) (n := 0) (Nat.le_of_ble_eq_true rfl) (Nat.le_of_ble_eq_true rfl) ?_
    exact W.iret (v := (-1)) hx hb hr (fun t ht hW => ⟨⟨(-1), (tnodesF, (-1)), rfl, ⟨rfl, (hG.trans hG0.symm)⟩, by rw [ht]; exact hP9, hD9⟩, hS.F ht⟩) hS.2.2 dX10_store_24
  · have hG := zelse hG c_4
    have c_4a := hs_ne c_4
    have c_4b := c_4a.2
    have c_4a := c_4a.1
    refine lv_iload_n hx hb dX10_store_14 rfl (lv_at hl 2 rfl) ?_
    refine lv_ldc hx hb hown (kX10_store_3 hts) dX10_store_15 ?_
    refine z_i (wr := [(x0, .inr (10, [.ref w0, .ref z0, .ref xi, .ref xt, .int x_tl, .ref xq, .int x_lc, .ref rdr, .ref h0, .ref t0, .ref q0, .ref v0, .ref m0])), (w0, .inr (9, [.ref tnodes, .ref tpasses, .ref tjars, .ref torders, .ref tfeasts, .ref tway, .int tws, .int tnow, .int tfm, .int tx])), (tnodesA, .inl (kA 0, 48, .inl tnodesF)), (tnodes, .inr (6, [.int 4, .ref tnodesA, .int tnodesS]))]) (va_runS (As := [.int p1, .int 999999]) (rest := []) ⟨hx, hb, hml, hown, hts⟩ (mX10_within l dC dI kA _ p1 999999) (va_cwS 2 hts gX10_store_X10_within rfl rfl rfl hdX10_within ⟨(Nat.le_of_ble_eq_true rfl), (Nat.le_of_ble_eq_true rfl)⟩) ⟨zPc.blind, zPre hK (hP.sub [] rfl) (hD.sub [] (by decide) rfl)⟩ rfl rfl hl.1 rfl (lv_room (Nat.le_of_ble_eq_true rfl)) dX10_store_17 ⟨(Nat.le_of_ble_eq_true rfl), (Nat.le_of_ble_eq_true rfl)⟩) hP hD hS hA [] [0, 1, 2, 3] rfl rfl (by decide) (by decide) (fun r7 u5 H locs hw6 hP hD hS => ?_)
    obtain rfl := hw6
    obtain ⟨hP, hD⟩ := z_re (L := [(x0, .inr (10, [.ref w0, .ref z0, .ref xi, .ref xt, .int x_tl, .ref xq, .int x_lc, .ref rdr, .ref h0, .ref t0, .ref q0, .ref v0, .ref m0])), (w0, .inr (9, [.ref tnodes, .ref tpasses, .ref tjars, .ref torders, .ref tfeasts, .ref tway, .int tws, .int tnow, .int tfm, .int tx])), (tnodesA, .inl (kA 0, 48, .inl tnodesF)), (tnodes, .inr (6, [.int 4, .ref tnodesA, .int tnodesS]))]) hP hD
    refine lv_if_ne (tgt := 25) hx hb dX10_store_20 (by decide) (fun c_8 => ?_) (fun c_8 => ?_)
    · have hG := zelse hG c_8
      have c_8a := wi_ne c_8
      have c_8b := c_8a.2
      have c_8a := c_8a.1
      refine lv_aload_n hx hb dX10_store_25 rfl (lv_at hl 0 rfl) ?_
      refine va_get (D := (dC, dI)) (ci := 10) (v := .ref w0) (C := RX10) (T := TX10) (N := 13) hx hb hts iX10_store_X10 hown hK.1 hP 0 rfl rfl 0 (by decide) (kX10_store_1 hts) (fun _ h9 => h9) rfl dX10_store_26 ?_
      refine va_get (D := (dC, dI)) (ci := 9) (v := .ref tnodes) (C := RX9) (T := TX9) (N := 10) hx hb hts iX10_store_X9 hown hK.1 hP 1 rfl rfl 0 (by decide) (kX10_store_2 hts) (fun _ h9 => h9) rfl dX10_store_29 ?_
      refine lv_iload_n hx hb dX10_store_32 rfl (lv_at hl 1 rfl) ?_
      refine lv_iconst (v := 3) hx hb dX10_store_33 (by decide) ?_
      refine z_i (wr := [(x0, .inr (10, [.ref w0, .ref z0, .ref xi, .ref xt, .int x_tl, .ref xq, .int x_lc, .ref rdr, .ref h0, .ref t0, .ref q0, .ref v0, .ref m0])), (w0, .inr (9, [.ref tnodes, .ref tpasses, .ref tjars, .ref torders, .ref tfeasts, .ref tway, .int tws, .int tnow, .int tfm, .int tx]))]) (va_runV (As := [.int p0, .int 3]) (rest := []) ⟨hx, hb, hml, hown, hts⟩ (mX6_get_48 l dC dI kA _ tnodes tnodesA 4 tnodesS tnodesF p0 3) (cwV 2 hts gX10_store_X6_get rfl rfl rfl ⟨rfl, hdX6_get⟩ ⟨(Nat.le_of_ble_eq_true rfl), (Nat.le_of_ble_eq_true rfl)⟩) ⟨zPc.blind, va_recv hK.1 hP (ci := 6) (q0 := 3) rfl rfl, zPre hK (hP.sub [3, 2] rfl) (hD.sub [3, 2] (by decide) rfl)⟩ rfl rfl hl.1 rfl (lv_room (Nat.le_of_ble_eq_true rfl)) dX10_store_34 ⟨(Nat.le_of_ble_eq_true rfl), (Nat.le_of_ble_eq_true rfl)⟩) hP hD hS hA [3, 2] [0, 1] rfl rfl (by decide) (by decide) (fun r11 u9 H locs hw10 hP hD hS => ?_)
      obtain ⟨er14, hp13⟩ := hw10
      have er14 : r11 = u9 := er14
      subst er14
      have er11 : r11 = fX6_get_48 4 tnodesF p0 3 := hp13
      have hG := zbnd hG er11
      obtain ⟨hP, hD⟩ := z_re (L := [(x0, .inr (10, [.ref w0, .ref z0, .ref xi, .ref xt, .int x_tl, .ref xq, .int x_lc, .ref rdr, .ref h0, .ref t0, .ref q0, .ref v0, .ref m0])), (w0, .inr (9, [.ref tnodes, .ref tpasses, .ref tjars, .ref torders, .ref tfeasts, .ref tway, .int tws, .int tnow, .int tfm, .int tx])), (tnodes, .inr (6, [.int 4, .ref tnodesA, .int tnodesS])), (tnodesA, .inl (kA 0, 48, .inl tnodesF))]) hP hD
      refine lv_istore_n (lv' := [(3, .int r11), (0, .ref x0), (1, .int p0), (2, .int p1)]) hx hb dX10_store_37 rfl hl (by decide) rfl (fun ls hl => ?_)
      refine lv_aload_n hx hb dX10_store_38 rfl (lv_at hl 1 rfl) ?_
      refine va_get (D := (dC, dI)) (ci := 10) (v := .ref w0) (C := RX10) (T := TX10) (N := 13) hx hb hts iX10_store_X10 hown hK.1 hP 0 rfl rfl 0 (by decide) (kX10_store_1 hts) (fun _ h9 => h9) rfl dX10_store_39 ?_
      refine va_get (D := (dC, dI)) (ci := 9) (v := .ref tnodes) (C := RX9) (T := TX9) (N := 10) hx hb hts iX10_store_X9 hown hK.1 hP 1 rfl rfl 0 (by decide) (kX10_store_2 hts) (fun _ h9 => h9) rfl dX10_store_42 ?_
      refine lv_iload_n hx hb dX10_store_45 rfl (lv_at hl 2 rfl) ?_
      refine lv_iconst (v := 3) hx hb dX10_store_46 (by decide) ?_
      refine lv_iload_n hx hb dX10_store_47 rfl (lv_at hl 3 rfl) ?_
      refine z_v (wr := [(x0, .inr (10, [.ref w0, .ref z0, .ref xi, .ref xt, .int x_tl, .ref xq, .int x_lc, .ref rdr, .ref h0, .ref t0, .ref q0, .ref v0, .ref m0])), (w0, .inr (9, [.ref tnodes, .ref tpasses, .ref tjars, .ref torders, .ref tfeasts, .ref tway, .int tws, .int tnow, .int tfm, .int tx]))]) (va_runV (As := [.int p0, .int 3, .int p1]) (rest := []) ⟨hx, hb, hml, hown, hts⟩ (mX6_put_48 l dC dI kA _ tnodes tnodesA 4 tnodesS tnodesF p0 3 p1) (cwV 3 hts gX10_store_X6_put rfl rfl rfl ⟨rfl, hdX6_put⟩ ⟨(Nat.le_of_ble_eq_true rfl), (Nat.le_of_ble_eq_true rfl)⟩) ⟨zPc.blind, va_recv hK.1 hP (ci := 6) (q0 := 2) rfl rfl, zPre hK (hP.sub [2, 3] rfl) (hD.sub [2, 3] (by decide) rfl)⟩ rfl rfl hl.1 rfl (lv_room (Nat.le_of_ble_eq_true rfl)) dX10_store_48 ⟨(Nat.le_of_ble_eq_true rfl), (Nat.le_of_ble_eq_true rfl)⟩) hP hD hS hA [2, 3] [0, 1] rfl rfl (by decide) (by decide) (fun u16 H locs hw17 hP hD hS => ?_)
      obtain ⟨o19, rfl⟩ : ∃ z, z = u16 := ⟨_, rfl⟩
      have hp20 := hw17
      have eo19 : o19 = fX6_put_48 4 tnodesF p0 3 p1 := hp20
      have hG := zbnd hG eo19
      obtain ⟨hP, hD⟩ := z_re (L := [(x0, .inr (10, [.ref w0, .ref z0, .ref xi, .ref xt, .int x_tl, .ref xq, .int x_lc, .ref rdr, .ref h0, .ref t0, .ref q0, .ref v0, .ref m0])), (w0, .inr (9, [.ref tnodes, .ref tpasses, .ref tjars, .ref torders, .ref tfeasts, .ref tway, .int tws, .int tnow, .int tfm, .int tx])), (tnodes, .inr (6, [.int 4, .ref tnodesA, .int tnodesS])), (tnodesA, .inl (kA 0, 48, .inl o19))]) hP hD
      refine lv_iload_n hx hb dX10_store_51 rfl (lv_at hl 0 rfl) ?_
      obtain ⟨hP9, hD9⟩ := z_sb (L' := [(x0, .inr (10, [.ref w0, .ref z0, .ref xi, .ref xt, .int x_tl, .ref xq, .int x_lc, .ref rdr, .ref h0, .ref t0, .ref q0, .ref v0, .ref m0])), (w0, .inr (9, [.ref tnodes, .ref tpasses, .ref tjars, .ref torders, .ref tfeasts, .ref tway, .int tws, .int tnow, .int tfm, .int tx])), (tnodes, .inr (6, [.int 4, .ref tnodesA, .int tnodesS])), (tnodesA, .inl (kA 0, 48, .inl o19))]) hP hD [0, 1, 2, 3] (by decide) rfl
      refine W.widen (k := 0) (n := 0) (Nat.le_of_ble_eq_true rfl) (Nat.le_of_ble_eq_true rfl) ?_
      exact W.iret (v := r11) hx hb hr (fun t ht hW => ⟨⟨r11, (o19, r11), rfl, ⟨rfl, (hG.trans hG0.symm)⟩, by rw [ht]; exact hP9, hD9⟩, hS.F ht⟩) hS.2.2 dX10_store_52
    · have hG := zthen hG c_8
      refine lv_iconst (v := (-1)) hx hb dX10_store_23 (by decide) ?_
      obtain ⟨hP9, hD9⟩ := z_sb (L' := [(x0, .inr (10, [.ref w0, .ref z0, .ref xi, .ref xt, .int x_tl, .ref xq, .int x_lc, .ref rdr, .ref h0, .ref t0, .ref q0, .ref v0, .ref m0])), (w0, .inr (9, [.ref tnodes, .ref tpasses, .ref tjars, .ref torders, .ref tfeasts, .ref tway, .int tws, .int tnow, .int tfm, .int tx])), (tnodes, .inr (6, [.int 4, .ref tnodesA, .int tnodesS])), (tnodesA, .inl (kA 0, 48, .inl tnodesF))]) hP hD [0, 1, 3, 2] (by decide) rfl
      refine W.widen (k := 0) (n := 0) (Nat.le_of_ble_eq_true rfl) (Nat.le_of_ble_eq_true rfl) ?_
      exact W.iret (v := (-1)) hx hb hr (fun t ht hW => ⟨⟨(-1), (tnodesF, (-1)), rfl, ⟨rfl, (hG.trans hG0.symm)⟩, by rw [ht]; exact hP9, hD9⟩, hS.F ht⟩) hS.2.2 dX10_store_24
set_option maxRecDepth 100000 in
def fX10_leave (tpassesS : Int32) (tpassesF : Nat → Int32) (tjarsS : Int32) (tjarsF : Nat → Int32) (p0 : Int32) (p1 : Int32) : (Nat → Int32) × Int32 := bnd (fX9_nodeOf tjarsS tjarsF p0) (fun (r3 : Int32) => if r3 = (-1) then ((tjarsF, 0)) else (bnd (fX9_otherEnd tpassesS tpassesF p1 r3) (fun (r11 : Int32) => if r11 = (-1) then ((tjarsF, 0)) else (bnd (fX6_put_144 9 tjarsF p0 1 12) (fun (o20 : Nat → Int32) => bnd (fX6_put_144 9 o20 p0 2 p1) (fun (o26 : Nat → Int32) => bnd (fX6_put_144 9 o26 p0 3 0) (fun (o32 : Nat → Int32) => bnd (fX6_put_144 9 o32 p0 4 r11) (fun (o38 : Nat → Int32) => (o38, 1)))))))))
set_option maxHeartbeats 4000000 in
set_option maxRecDepth 100000 in
theorem mX10_leave (l : Launch) (dC : Nat → ClassId) (dI : Nat → Nat → Nat) (kA : Nat → ClassId) (sz : Nat) (x0 : Nat) (z0 : Nat) (xi : Nat) (xt : Nat) (xq : Nat) (rdr : Nat) (h0 : Nat) (t0 : Nat) (q0 : Nat) (v0 : Nat) (m0 : Nat) (w0 : Nat) (x_tl : Int32) (x_lc : Int32) (tnodes : Nat) (tpasses : Nat) (tpassesA : Nat) (tpassesS : Int32) (tpassesF : Nat → Int32) (tjars : Nat) (tjarsA : Nat) (tjarsS : Int32) (tjarsF : Nat → Int32) (torders : Nat) (tfeasts : Nat) (tway : Nat) (tws : Int32) (tnow : Int32) (tfm : Int32) (tx : Int32) (p0 : Int32) (p1 : Int32)  : Met l yX10_leave wsX10_leave ({ frames := 2, cells := 0, slots := 0, locals := 47 }) (zPc dC dI kA sz [.ref x0, .int p0, .int p1] [(x0, .inr (10, [.ref w0, .ref z0, .ref xi, .ref xt, .int x_tl, .ref xq, .int x_lc, .ref rdr, .ref h0, .ref t0, .ref q0, .ref v0, .ref m0])), (w0, .inr (9, [.ref tnodes, .ref tpasses, .ref tjars, .ref torders, .ref tfeasts, .ref tway, .int tws, .int tnow, .int tfm, .int tx])), (tpasses, .inr (6, [.int 5, .ref tpassesA, .int tpassesS])), (tpassesA, .inl (kA 0, 100, .inl tpassesF)), (tjars, .inr (6, [.int 9, .ref tjarsA, .int tjarsS])), (tjarsA, .inl (kA 0, 144, .inl tjarsF))]) (va_Qi (fun (r : Int32) (u : (Nat → Int32) × Int32) => r = u.2 ∧ (u.1, u.2) = fX10_leave tpassesS tpassesF tjarsS tjarsF p0 p1 ∧ (u.2 = 0 ∨ u.2 = 1)) (zB dC dI (va_A [(x0, .inr (10, [.ref w0, .ref z0, .ref xi, .ref xt, .int x_tl, .ref xq, .int x_lc, .ref rdr, .ref h0, .ref t0, .ref q0, .ref v0, .ref m0])), (w0, .inr (9, [.ref tnodes, .ref tpasses, .ref tjars, .ref torders, .ref tfeasts, .ref tway, .int tws, .int tnow, .int tfm, .int tx])), (tpasses, .inr (6, [.int 5, .ref tpassesA, .int tpassesS])), (tpassesA, .inl (kA 0, 100, .inl tpassesF)), (tjars, .inr (6, [.int 9, .ref tjarsA, .int tjarsS])), (tjarsA, .inl (kA 0, 144, .inl tjarsF))] sz) (fun (u : (Nat → Int32) × Int32) => [(x0, .inr (10, [.ref w0, .ref z0, .ref xi, .ref xt, .int x_tl, .ref xq, .int x_lc, .ref rdr, .ref h0, .ref t0, .ref q0, .ref v0, .ref m0])), (w0, .inr (9, [.ref tnodes, .ref tpasses, .ref tjars, .ref torders, .ref tfeasts, .ref tway, .int tws, .int tnow, .int tfm, .int tx])), (tpasses, .inr (6, [.int 5, .ref tpassesA, .int tpassesS])), (tpassesA, .inl (kA 0, 100, .inl tpassesF)), (tjars, .inr (6, [.int 9, .ref tjarsA, .int tjarsS])), (tjarsA, .inl (kA 0, 144, .inl u.1))])) (va_A [(x0, .inr (10, [.ref w0, .ref z0, .ref xi, .ref xt, .int x_tl, .ref xq, .int x_lc, .ref rdr, .ref h0, .ref t0, .ref q0, .ref v0, .ref m0])), (w0, .inr (9, [.ref tnodes, .ref tpasses, .ref tjars, .ref torders, .ref tfeasts, .ref tway, .int tws, .int tnow, .int tfm, .int tx])), (tpasses, .inr (6, [.int 5, .ref tpassesA, .int tpassesS])), (tpassesA, .inl (kA 0, 100, .inl tpassesF)), (tjars, .inr (6, [.int 9, .ref tjarsA, .int tjarsS])), (tjarsA, .inl (kA 0, 144, .inl tjarsF))] sz)) 0 0 (va_A [(x0, .inr (10, [.ref w0, .ref z0, .ref xi, .ref xt, .int x_tl, .ref xq, .int x_lc, .ref rdr, .ref h0, .ref t0, .ref q0, .ref v0, .ref m0])), (w0, .inr (9, [.ref tnodes, .ref tpasses, .ref tjars, .ref torders, .ref tfeasts, .ref tway, .int tws, .int tnow, .int tfm, .int tx])), (tpasses, .inr (6, [.int 5, .ref tpassesA, .int tpassesS])), (tpassesA, .inl (kA 0, 100, .inl tpassesF)), (tjars, .inr (6, [.int 9, .ref tjarsA, .int tjarsS])), (tjarsA, .inl (kA 0, 144, .inl tjarsF))] sz) := by
  refine Met.ofW (cc := cX10_leave) (maxL := 5) (ret := (some .boolean)) (by decide) rfl ?_
  intro p e s m args below meth c s₁ B hml hv
  obtain ⟨rfl, hsz, hP, hK, hD0⟩ := hv
  have hx := B.exec
  have hb := B.bytes
  have hr := B.returns
  have hts := atoms_spec (ws := wsX10_leave) B.pre
  have hown : s.vm.findClass RX10 = some m.cls := findClass_of_methodNamed B.named
  have hlocks := B.notSynchronized
  subst hsz
  have hD := hD0.self (sz := s.heap.size)
  generalize hAe : va_A [(x0, .inr (10, [.ref w0, .ref z0, .ref xi, .ref xt, .int x_tl, .ref xq, .int x_lc, .ref rdr, .ref h0, .ref t0, .ref q0, .ref v0, .ref m0])), (w0, .inr (9, [.ref tnodes, .ref tpasses, .ref tjars, .ref torders, .ref tfeasts, .ref tway, .int tws, .int tnow, .int tfm, .int tx])), (tpasses, .inr (6, [.int 5, .ref tpassesA, .int tpassesS])), (tpassesA, .inl (kA 0, 100, .inl tpassesF)), (tjars, .inr (6, [.int 9, .ref tjarsA, .int tjarsS])), (tjarsA, .inl (kA 0, 144, .inl tjarsF))] s.heap.size = A at hD ⊢
  have hA : ∀ q : Nat, s.heap.size ≤ q → A q := fun q h => by rw [← hAe]; exact Or.inr h
  have hS : va_S A s.heap s.heap [] := va_S.rf
  have hP : va_P (dC, dI) vwCl [(x0, .inr (10, [.ref w0, .ref z0, .ref xi, .ref xt, .int x_tl, .ref xq, .int x_lc, .ref rdr, .ref h0, .ref t0, .ref q0, .ref v0, .ref m0])), (w0, .inr (9, [.ref tnodes, .ref tpasses, .ref tjars, .ref torders, .ref tfeasts, .ref tway, .int tws, .int tnow, .int tfm, .int tx])), (tpasses, .inr (6, [.int 5, .ref tpassesA, .int tpassesS])), (tpassesA, .inl (kA 0, 100, .inl tpassesF)), (tjars, .inr (6, [.int 9, .ref tjarsA, .int tjarsS])), (tjarsA, .inl (kA 0, 144, .inl tjarsF))] s.heap := hP
  have hl := lv_entry ([.ref x0, .int p0, .int p1]) (n := 5) (Nat.le_of_ble_eq_true rfl)
  rw [lg_entry_eq]
  generalize (lg_sl ([.ref x0, .int p0, .int p1]) ++ List.replicate (5 - (lg_sl ([.ref x0, .int p0, .int p1])).length) Slot.unset).toArray = ls at hl ⊢
  have hl : lv_has ls 5 [(0, .ref x0), (1, .int p0), (2, .int p1)] := hl
  obtain ⟨G, hG0⟩ : ∃ G : (Nat → Int32) × Int32, fX10_leave tpassesS tpassesF tjarsS tjarsF p0 p1 = G := ⟨_, rfl⟩
  have hG := hG0
  unfold fX10_leave at hG
  refine lv_aload_n hx hb dX10_leave_0 rfl (lv_at hl 0 rfl) ?_
  refine va_get (D := (dC, dI)) (ci := 10) (v := .ref w0) (C := RX10) (T := TX10) (N := 13) hx hb hts iX10_leave_X10 hown hK.1 hP 0 rfl rfl 0 (by decide) (kX10_leave_1 hts) (fun _ h9 => h9) rfl dX10_leave_1 ?_
  refine lv_iload_n hx hb dX10_leave_4 rfl (lv_at hl 1 rfl) ?_
  refine z_i (wr := [(x0, .inr (10, [.ref w0, .ref z0, .ref xi, .ref xt, .int x_tl, .ref xq, .int x_lc, .ref rdr, .ref h0, .ref t0, .ref q0, .ref v0, .ref m0])), (tpasses, .inr (6, [.int 5, .ref tpassesA, .int tpassesS])), (tpassesA, .inl (kA 0, 100, .inl tpassesF))]) (va_runV (As := [.int p0]) (rest := []) ⟨hx, hb, hml, hown, hts⟩ (mX9_nodeOf l dC dI kA _ w0 tnodes tpasses tjars tjarsA tjarsS tjarsF torders tfeasts tway tws tnow tfm tx p0) (cwV 1 hts gX10_leave_X9_nodeOf rfl rfl rfl ⟨rfl, hdX9_nodeOf⟩ ⟨(Nat.le_of_ble_eq_true rfl), (Nat.le_of_ble_eq_true rfl)⟩) ⟨zPc.blind, va_recv hK.1 hP (ci := 9) (q0 := 1) rfl rfl, zPre hK (hP.sub [1, 4, 5] rfl) (hD.sub [1, 4, 5] (by decide) rfl)⟩ rfl rfl hl.1 rfl (lv_room (Nat.le_of_ble_eq_true rfl)) dX10_leave_5 ⟨(Nat.le_of_ble_eq_true rfl), (Nat.le_of_ble_eq_true rfl)⟩) hP hD hS hA [1, 4, 5] [0, 2, 3] rfl rfl (by decide) (by decide) (fun r3 u1 H locs hw2 hP hD hS => ?_)
  obtain ⟨er6, hp5⟩ := hw2
  have er6 : r3 = u1 := er6
  subst er6
  have er3 : r3 = fX9_nodeOf tjarsS tjarsF p0 := hp5
  have hG := zbnd hG er3
  obtain ⟨hP, hD⟩ := z_re (L := [(x0, .inr (10, [.ref w0, .ref z0, .ref xi, .ref xt, .int x_tl, .ref xq, .int x_lc, .ref rdr, .ref h0, .ref t0, .ref q0, .ref v0, .ref m0])), (tpasses, .inr (6, [.int 5, .ref tpassesA, .int tpassesS])), (tpassesA, .inl (kA 0, 100, .inl tpassesF)), (w0, .inr (9, [.ref tnodes, .ref tpasses, .ref tjars, .ref torders, .ref tfeasts, .ref tway, .int tws, .int tnow, .int tfm, .int tx])), (tjars, .inr (6, [.int 9, .ref tjarsA, .int tjarsS])), (tjarsA, .inl (kA 0, 144, .inl tjarsF))]) hP hD
  refine lv_istore_n (lv' := [(3, .int r3), (0, .ref x0), (1, .int p0), (2, .int p1)]) hx hb dX10_leave_8 rfl hl (by decide) rfl (fun ls hl => ?_)
  refine lv_iload_n hx hb dX10_leave_9 rfl (lv_at hl 0 rfl) ?_
  refine lv_iconst (v := (-1)) hx hb dX10_leave_10 (by decide) ?_
  refine lv_icmp_ne (tgt := 18) hx hb dX10_leave_11 (by decide) (fun c_8 => ?_) (fun c_8 => ?_)
  · have hG := zelse hG c_8
    refine lv_aload_n hx hb dX10_leave_18 rfl (lv_at hl 1 rfl) ?_
    refine va_get (D := (dC, dI)) (ci := 10) (v := .ref w0) (C := RX10) (T := TX10) (N := 13) hx hb hts iX10_leave_X10 hown hK.1 hP 0 rfl rfl 0 (by decide) (kX10_leave_1 hts) (fun _ h9 => h9) rfl dX10_leave_19 ?_
    refine lv_iload_n hx hb dX10_leave_22 rfl (lv_at hl 3 rfl) ?_
    refine lv_iload_n hx hb dX10_leave_23 rfl (lv_at hl 0 rfl) ?_
    refine z_i (wr := [(x0, .inr (10, [.ref w0, .ref z0, .ref xi, .ref xt, .int x_tl, .ref xq, .int x_lc, .ref rdr, .ref h0, .ref t0, .ref q0, .ref v0, .ref m0])), (tjars, .inr (6, [.int 9, .ref tjarsA, .int tjarsS])), (tjarsA, .inl (kA 0, 144, .inl tjarsF))]) (va_runV (As := [.int p1, .int r3]) (rest := []) ⟨hx, hb, hml, hown, hts⟩ (mX9_otherEnd l dC dI kA _ w0 tnodes tpasses tpassesA tpassesS tpassesF tjars torders tfeasts tway tws tnow tfm tx p1 r3) (cwV 2 hts gX10_leave_X9_otherEnd rfl rfl rfl ⟨rfl, hdX9_otherEnd⟩ ⟨(Nat.le_of_ble_eq_true rfl), (Nat.le_of_ble_eq_true rfl)⟩) ⟨zPc.blind, va_recv hK.1 hP (ci := 9) (q0 := 3) rfl rfl, zPre hK (hP.sub [3, 1, 2] rfl) (hD.sub [3, 1, 2] (by decide) rfl)⟩ rfl rfl hl.1 rfl (lv_room (Nat.le_of_ble_eq_true rfl)) dX10_leave_24 ⟨(Nat.le_of_ble_eq_true rfl), (Nat.le_of_ble_eq_true rfl)⟩) hP hD hS hA [3, 1, 2] [0, 4, 5] rfl rfl (by decide) (by decide) (fun r11 u9 H locs hw10 hP hD hS => ?_)
    obtain ⟨er14, hp13⟩ := hw10
    have er14 : r11 = u9 := er14
    subst er14
    have er11 : r11 = fX9_otherEnd tpassesS tpassesF p1 r3 := hp13
    have hG := zbnd hG er11
    obtain ⟨hP, hD⟩ := z_re (L := [(x0, .inr (10, [.ref w0, .ref z0, .ref xi, .ref xt, .int x_tl, .ref xq, .int x_lc, .ref rdr, .ref h0, .ref t0, .ref q0, .ref v0, .ref m0])), (tjars, .inr (6, [.int 9, .ref tjarsA, .int tjarsS])), (tjarsA, .inl (kA 0, 144, .inl tjarsF)), (w0, .inr (9, [.ref tnodes, .ref tpasses, .ref tjars, .ref torders, .ref tfeasts, .ref tway, .int tws, .int tnow, .int tfm, .int tx])), (tpasses, .inr (6, [.int 5, .ref tpassesA, .int tpassesS])), (tpassesA, .inl (kA 0, 100, .inl tpassesF))]) hP hD
    refine lv_istore (lv' := [(4, .int r11), (3, .int r3), (0, .ref x0), (1, .int p0), (2, .int p1)]) hx hb dX10_leave_27 hl (by decide) rfl (fun ls hl => ?_)
    refine lv_iload hx hb dX10_leave_29 (lv_at hl 0 rfl) ?_
    refine lv_iconst (v := (-1)) hx hb dX10_leave_31 (by decide) ?_
    refine lv_icmp_ne (tgt := 37) hx hb dX10_leave_32 (by decide) (fun c_16 => ?_) (fun c_16 => ?_)
    · have hG := zelse hG c_16
      refine lv_aload_n hx hb dX10_leave_37 rfl (lv_at hl 2 rfl) ?_
      refine va_get (D := (dC, dI)) (ci := 10) (v := .ref w0) (C := RX10) (T := TX10) (N := 13) hx hb hts iX10_leave_X10 hown hK.1 hP 0 rfl rfl 0 (by decide) (kX10_leave_1 hts) (fun _ h9 => h9) rfl dX10_leave_38 ?_
      refine va_get (D := (dC, dI)) (ci := 9) (v := .ref tjars) (C := RX9) (T := TX9) (N := 10) hx hb hts iX10_leave_X9 hown hK.1 hP 3 rfl rfl 2 (by decide) (kX10_leave_2 hts) (fun _ h9 => h9) rfl dX10_leave_41 ?_
      refine lv_iload_n hx hb dX10_leave_44 rfl (lv_at hl 3 rfl) ?_
      refine lv_iconst (v := 1) hx hb dX10_leave_45 (by decide) ?_
      refine lv_bipush (v := 12) hx hb dX10_leave_46 (by decide) ?_
      refine z_v (wr := [(x0, .inr (10, [.ref w0, .ref z0, .ref xi, .ref xt, .int x_tl, .ref xq, .int x_lc, .ref rdr, .ref h0, .ref t0, .ref q0, .ref v0, .ref m0])), (w0, .inr (9, [.ref tnodes, .ref tpasses, .ref tjars, .ref torders, .ref tfeasts, .ref tway, .int tws, .int tnow, .int tfm, .int tx])), (tpasses, .inr (6, [.int 5, .ref tpassesA, .int tpassesS])), (tpassesA, .inl (kA 0, 100, .inl tpassesF))]) (va_runV (As := [.int p0, .int 1, .int 12]) (rest := []) ⟨hx, hb, hml, hown, hts⟩ (mX6_put_144 l dC dI kA _ tjars tjarsA 9 tjarsS tjarsF p0 1 12) (cwV 3 hts gX10_leave_X6_put rfl rfl rfl ⟨rfl, hdX6_put⟩ ⟨(Nat.le_of_ble_eq_true rfl), (Nat.le_of_ble_eq_true rfl)⟩) ⟨zPc.blind, va_recv hK.1 hP (ci := 6) (q0 := 1) rfl rfl, zPre hK (hP.sub [1, 2] rfl) (hD.sub [1, 2] (by decide) rfl)⟩ rfl rfl hl.1 rfl (lv_room (Nat.le_of_ble_eq_true rfl)) dX10_leave_48 ⟨(Nat.le_of_ble_eq_true rfl), (Nat.le_of_ble_eq_true rfl)⟩) hP hD hS hA [1, 2] [0, 3, 4, 5] rfl rfl (by decide) (by decide) (fun u17 H locs hw18 hP hD hS => ?_)
      obtain ⟨o20, rfl⟩ : ∃ z, z = u17 := ⟨_, rfl⟩
      have hp21 := hw18
      have eo20 : o20 = fX6_put_144 9 tjarsF p0 1 12 := hp21
      have hG := zbnd hG eo20
      obtain ⟨hP, hD⟩ := z_re (L := [(x0, .inr (10, [.ref w0, .ref z0, .ref xi, .ref xt, .int x_tl, .ref xq, .int x_lc, .ref rdr, .ref h0, .ref t0, .ref q0, .ref v0, .ref m0])), (w0, .inr (9, [.ref tnodes, .ref tpasses, .ref tjars, .ref torders, .ref tfeasts, .ref tway, .int tws, .int tnow, .int tfm, .int tx])), (tpasses, .inr (6, [.int 5, .ref tpassesA, .int tpassesS])), (tpassesA, .inl (kA 0, 100, .inl tpassesF)), (tjars, .inr (6, [.int 9, .ref tjarsA, .int tjarsS])), (tjarsA, .inl (kA 0, 144, .inl o20))]) hP hD
      refine lv_aload_n hx hb dX10_leave_51 rfl (lv_at hl 2 rfl) ?_
      refine va_get (D := (dC, dI)) (ci := 10) (v := .ref w0) (C := RX10) (T := TX10) (N := 13) hx hb hts iX10_leave_X10 hown hK.1 hP 0 rfl rfl 0 (by decide) (kX10_leave_1 hts) (fun _ h9 => h9) rfl dX10_leave_52 ?_
      refine va_get (D := (dC, dI)) (ci := 9) (v := .ref tjars) (C := RX9) (T := TX9) (N := 10) hx hb hts iX10_leave_X9 hown hK.1 hP 1 rfl rfl 2 (by decide) (kX10_leave_2 hts) (fun _ h9 => h9) rfl dX10_leave_55 ?_
      refine lv_iload_n hx hb dX10_leave_58 rfl (lv_at hl 3 rfl) ?_
      refine lv_iconst (v := 2) hx hb dX10_leave_59 (by decide) ?_
      refine lv_iload_n hx hb dX10_leave_60 rfl (lv_at hl 4 rfl) ?_
      refine z_v (wr := [(x0, .inr (10, [.ref w0, .ref z0, .ref xi, .ref xt, .int x_tl, .ref xq, .int x_lc, .ref rdr, .ref h0, .ref t0, .ref q0, .ref v0, .ref m0])), (w0, .inr (9, [.ref tnodes, .ref tpasses, .ref tjars, .ref torders, .ref tfeasts, .ref tway, .int tws, .int tnow, .int tfm, .int tx])), (tpasses, .inr (6, [.int 5, .ref tpassesA, .int tpassesS])), (tpassesA, .inl (kA 0, 100, .inl tpassesF))]) (va_runV (As := [.int p0, .int 2, .int p1]) (rest := []) ⟨hx, hb, hml, hown, hts⟩ (mX6_put_144 l dC dI kA _ tjars tjarsA 9 tjarsS o20 p0 2 p1) (cwV 3 hts gX10_leave_X6_put rfl rfl rfl ⟨rfl, hdX6_put⟩ ⟨(Nat.le_of_ble_eq_true rfl), (Nat.le_of_ble_eq_true rfl)⟩) ⟨zPc.blind, va_recv hK.1 hP (ci := 6) (q0 := 4) rfl rfl, zPre hK (hP.sub [4, 5] rfl) (hD.sub [4, 5] (by decide) rfl)⟩ rfl rfl hl.1 rfl (lv_room (Nat.le_of_ble_eq_true rfl)) dX10_leave_61 ⟨(Nat.le_of_ble_eq_true rfl), (Nat.le_of_ble_eq_true rfl)⟩) hP hD hS hA [4, 5] [0, 1, 2, 3] rfl rfl (by decide) (by decide) (fun u23 H locs hw24 hP hD hS => ?_)
      obtain ⟨o26, rfl⟩ : ∃ z, z = u23 := ⟨_, rfl⟩
      have hp27 := hw24
      have eo26 : o26 = fX6_put_144 9 o20 p0 2 p1 := hp27
      have hG := zbnd hG eo26
      obtain ⟨hP, hD⟩ := z_re (L := [(x0, .inr (10, [.ref w0, .ref z0, .ref xi, .ref xt, .int x_tl, .ref xq, .int x_lc, .ref rdr, .ref h0, .ref t0, .ref q0, .ref v0, .ref m0])), (w0, .inr (9, [.ref tnodes, .ref tpasses, .ref tjars, .ref torders, .ref tfeasts, .ref tway, .int tws, .int tnow, .int tfm, .int tx])), (tpasses, .inr (6, [.int 5, .ref tpassesA, .int tpassesS])), (tpassesA, .inl (kA 0, 100, .inl tpassesF)), (tjars, .inr (6, [.int 9, .ref tjarsA, .int tjarsS])), (tjarsA, .inl (kA 0, 144, .inl o26))]) hP hD
      refine lv_aload_n hx hb dX10_leave_64 rfl (lv_at hl 2 rfl) ?_
      refine va_get (D := (dC, dI)) (ci := 10) (v := .ref w0) (C := RX10) (T := TX10) (N := 13) hx hb hts iX10_leave_X10 hown hK.1 hP 0 rfl rfl 0 (by decide) (kX10_leave_1 hts) (fun _ h9 => h9) rfl dX10_leave_65 ?_
      refine va_get (D := (dC, dI)) (ci := 9) (v := .ref tjars) (C := RX9) (T := TX9) (N := 10) hx hb hts iX10_leave_X9 hown hK.1 hP 1 rfl rfl 2 (by decide) (kX10_leave_2 hts) (fun _ h9 => h9) rfl dX10_leave_68 ?_
      refine lv_iload_n hx hb dX10_leave_71 rfl (lv_at hl 3 rfl) ?_
      refine lv_iconst (v := 3) hx hb dX10_leave_72 (by decide) ?_
      refine lv_iconst (v := 0) hx hb dX10_leave_73 (by decide) ?_
      refine z_v (wr := [(x0, .inr (10, [.ref w0, .ref z0, .ref xi, .ref xt, .int x_tl, .ref xq, .int x_lc, .ref rdr, .ref h0, .ref t0, .ref q0, .ref v0, .ref m0])), (w0, .inr (9, [.ref tnodes, .ref tpasses, .ref tjars, .ref torders, .ref tfeasts, .ref tway, .int tws, .int tnow, .int tfm, .int tx])), (tpasses, .inr (6, [.int 5, .ref tpassesA, .int tpassesS])), (tpassesA, .inl (kA 0, 100, .inl tpassesF))]) (va_runV (As := [.int p0, .int 3, .int 0]) (rest := []) ⟨hx, hb, hml, hown, hts⟩ (mX6_put_144 l dC dI kA _ tjars tjarsA 9 tjarsS o26 p0 3 0) (cwV 3 hts gX10_leave_X6_put rfl rfl rfl ⟨rfl, hdX6_put⟩ ⟨(Nat.le_of_ble_eq_true rfl), (Nat.le_of_ble_eq_true rfl)⟩) ⟨zPc.blind, va_recv hK.1 hP (ci := 6) (q0 := 4) rfl rfl, zPre hK (hP.sub [4, 5] rfl) (hD.sub [4, 5] (by decide) rfl)⟩ rfl rfl hl.1 rfl (lv_room (Nat.le_of_ble_eq_true rfl)) dX10_leave_74 ⟨(Nat.le_of_ble_eq_true rfl), (Nat.le_of_ble_eq_true rfl)⟩) hP hD hS hA [4, 5] [0, 1, 2, 3] rfl rfl (by decide) (by decide) (fun u29 H locs hw30 hP hD hS => ?_)
      obtain ⟨o32, rfl⟩ : ∃ z, z = u29 := ⟨_, rfl⟩
      have hp33 := hw30
      have eo32 : o32 = fX6_put_144 9 o26 p0 3 0 := hp33
      have hG := zbnd hG eo32
      obtain ⟨hP, hD⟩ := z_re (L := [(x0, .inr (10, [.ref w0, .ref z0, .ref xi, .ref xt, .int x_tl, .ref xq, .int x_lc, .ref rdr, .ref h0, .ref t0, .ref q0, .ref v0, .ref m0])), (w0, .inr (9, [.ref tnodes, .ref tpasses, .ref tjars, .ref torders, .ref tfeasts, .ref tway, .int tws, .int tnow, .int tfm, .int tx])), (tpasses, .inr (6, [.int 5, .ref tpassesA, .int tpassesS])), (tpassesA, .inl (kA 0, 100, .inl tpassesF)), (tjars, .inr (6, [.int 9, .ref tjarsA, .int tjarsS])), (tjarsA, .inl (kA 0, 144, .inl o32))]) hP hD
      refine lv_aload_n hx hb dX10_leave_77 rfl (lv_at hl 2 rfl) ?_
      refine va_get (D := (dC, dI)) (ci := 10) (v := .ref w0) (C := RX10) (T := TX10) (N := 13) hx hb hts iX10_leave_X10 hown hK.1 hP 0 rfl rfl 0 (by decide) (kX10_leave_1 hts) (fun _ h9 => h9) rfl dX10_leave_78 ?_
      refine va_get (D := (dC, dI)) (ci := 9) (v := .ref tjars) (C := RX9) (T := TX9) (N := 10) hx hb hts iX10_leave_X9 hown hK.1 hP 1 rfl rfl 2 (by decide) (kX10_leave_2 hts) (fun _ h9 => h9) rfl dX10_leave_81 ?_
      refine lv_iload_n hx hb dX10_leave_84 rfl (lv_at hl 3 rfl) ?_
      refine lv_iconst (v := 4) hx hb dX10_leave_85 (by decide) ?_
      refine lv_iload hx hb dX10_leave_86 (lv_at hl 0 rfl) ?_
      refine z_v (wr := [(x0, .inr (10, [.ref w0, .ref z0, .ref xi, .ref xt, .int x_tl, .ref xq, .int x_lc, .ref rdr, .ref h0, .ref t0, .ref q0, .ref v0, .ref m0])), (w0, .inr (9, [.ref tnodes, .ref tpasses, .ref tjars, .ref torders, .ref tfeasts, .ref tway, .int tws, .int tnow, .int tfm, .int tx])), (tpasses, .inr (6, [.int 5, .ref tpassesA, .int tpassesS])), (tpassesA, .inl (kA 0, 100, .inl tpassesF))]) (va_runV (As := [.int p0, .int 4, .int r11]) (rest := []) ⟨hx, hb, hml, hown, hts⟩ (mX6_put_144 l dC dI kA _ tjars tjarsA 9 tjarsS o32 p0 4 r11) (cwV 3 hts gX10_leave_X6_put rfl rfl rfl ⟨rfl, hdX6_put⟩ ⟨(Nat.le_of_ble_eq_true rfl), (Nat.le_of_ble_eq_true rfl)⟩) ⟨zPc.blind, va_recv hK.1 hP (ci := 6) (q0 := 4) rfl rfl, zPre hK (hP.sub [4, 5] rfl) (hD.sub [4, 5] (by decide) rfl)⟩ rfl rfl hl.1 rfl (lv_room (Nat.le_of_ble_eq_true rfl)) dX10_leave_88 ⟨(Nat.le_of_ble_eq_true rfl), (Nat.le_of_ble_eq_true rfl)⟩) hP hD hS hA [4, 5] [0, 1, 2, 3] rfl rfl (by decide) (by decide) (fun u35 H locs hw36 hP hD hS => ?_)
      obtain ⟨o38, rfl⟩ : ∃ z, z = u35 := ⟨_, rfl⟩
      have hp39 := hw36
      have eo38 : o38 = fX6_put_144 9 o32 p0 4 r11 := hp39
      have hG := zbnd hG eo38
      obtain ⟨hP, hD⟩ := z_re (L := [(x0, .inr (10, [.ref w0, .ref z0, .ref xi, .ref xt, .int x_tl, .ref xq, .int x_lc, .ref rdr, .ref h0, .ref t0, .ref q0, .ref v0, .ref m0])), (w0, .inr (9, [.ref tnodes, .ref tpasses, .ref tjars, .ref torders, .ref tfeasts, .ref tway, .int tws, .int tnow, .int tfm, .int tx])), (tpasses, .inr (6, [.int 5, .ref tpassesA, .int tpassesS])), (tpassesA, .inl (kA 0, 100, .inl tpassesF)), (tjars, .inr (6, [.int 9, .ref tjarsA, .int tjarsS])), (tjarsA, .inl (kA 0, 144, .inl o38))]) hP hD
      refine lv_iconst (v := 1) hx hb dX10_leave_91 (by decide) ?_
      obtain ⟨hP9, hD9⟩ := z_sb (L' := [(x0, .inr (10, [.ref w0, .ref z0, .ref xi, .ref xt, .int x_tl, .ref xq, .int x_lc, .ref rdr, .ref h0, .ref t0, .ref q0, .ref v0, .ref m0])), (w0, .inr (9, [.ref tnodes, .ref tpasses, .ref tjars, .ref torders, .ref tfeasts, .ref tway, .int tws, .int tnow, .int tfm, .int tx])), (tpasses, .inr (6, [.int 5, .ref tpassesA, .int tpassesS])), (tpassesA, .inl (kA 0, 100, .inl tpassesF)), (tjars, .inr (6, [.int 9, .ref tjarsA, .int tjarsS])), (tjarsA, .inl (kA 0, 144, .inl o38))]) hP hD [0, 1, 2, 3, 4, 5] (by decide) rfl
      refine W.widen (k := 0) (n := 0) (Nat.le_of_ble_eq_true rfl) (Nat.le_of_ble_eq_true rfl) ?_
      exact W.zret (v := 1) hx hb hr rfl (fun t ht hW => ⟨⟨1, (o38, 1), rfl, ⟨rfl, (hG.trans hG0.symm), (Or.inr rfl)⟩, by rw [ht]; exact hP9, hD9⟩, hS.F ht⟩) hS.2.2 dX10_leave_92
    · have hG := zthen hG c_16
      refine lv_iconst (v := 0) hx hb dX10_leave_35 (by decide) ?_
      obtain ⟨hP9, hD9⟩ := z_sb (L' := [(x0, .inr (10, [.ref w0, .ref z0, .ref xi, .ref xt, .int x_tl, .ref xq, .int x_lc, .ref rdr, .ref h0, .ref t0, .ref q0, .ref v0, .ref m0])), (w0, .inr (9, [.ref tnodes, .ref tpasses, .ref tjars, .ref torders, .ref tfeasts, .ref tway, .int tws, .int tnow, .int tfm, .int tx])), (tpasses, .inr (6, [.int 5, .ref tpassesA, .int tpassesS])), (tpassesA, .inl (kA 0, 100, .inl tpassesF)), (tjars, .inr (6, [.int 9, .ref tjarsA, .int tjarsS])), (tjarsA, .inl (kA 0, 144, .inl tjarsF))]) hP hD [0, 3, 4, 5, 1, 2] (by decide) rfl
      refine W.widen (k := 0) (n := 0) (Nat.le_of_ble_eq_true rfl) (Nat.le_of_ble_eq_true rfl) ?_
      exact W.zret (v := 0) hx hb hr rfl (fun t ht hW => ⟨⟨0, (tjarsF, 0), rfl, ⟨rfl, (hG.trans hG0.symm), (Or.inl rfl)⟩, by rw [ht]; exact hP9, hD9⟩, hS.F ht⟩) hS.2.2 dX10_leave_36
  · have hG := zthen hG c_8
    refine lv_iconst (v := (-1)) hx hb dX10_leave_14 (by decide) ?_
    refine lv_goto (tgt := 27) hx hb dX10_leave_15 (by decide) ?_
    refine lv_istore (lv' := [(4, .int (-1)), (3, .int r3), (0, .ref x0), (1, .int p0), (2, .int p1)]) hx hb dX10_leave_27 hl (by decide) rfl (fun ls hl => ?_)
    refine lv_iload hx hb dX10_leave_29 (lv_at hl 0 rfl) ?_
    refine lv_iconst (v := (-1)) hx hb dX10_leave_31 (by decide) ?_
    refine lv_icmp_ne (tgt := 37) hx hb dX10_leave_32 (by decide) (fun c_41 => absurd (by decide) c_41) (fun _ => ?_)
    refine lv_iconst (v := 0) hx hb dX10_leave_35 (by decide) ?_
    obtain ⟨hP9, hD9⟩ := z_sb (L' := [(x0, .inr (10, [.ref w0, .ref z0, .ref xi, .ref xt, .int x_tl, .ref xq, .int x_lc, .ref rdr, .ref h0, .ref t0, .ref q0, .ref v0, .ref m0])), (w0, .inr (9, [.ref tnodes, .ref tpasses, .ref tjars, .ref torders, .ref tfeasts, .ref tway, .int tws, .int tnow, .int tfm, .int tx])), (tpasses, .inr (6, [.int 5, .ref tpassesA, .int tpassesS])), (tpassesA, .inl (kA 0, 100, .inl tpassesF)), (tjars, .inr (6, [.int 9, .ref tjarsA, .int tjarsS])), (tjarsA, .inl (kA 0, 144, .inl tjarsF))]) hP hD [0, 3, 1, 2, 4, 5] (by decide) rfl
    refine W.widen (k := 0) (n := 0) (Nat.le_of_ble_eq_true rfl) (Nat.le_of_ble_eq_true rfl) ?_
    exact W.zret (v := 0) hx hb hr rfl (fun t ht hW => ⟨⟨0, (tjarsF, 0), rfl, ⟨rfl, (hG.trans hG0.symm), (Or.inl rfl)⟩, by rw [ht]; exact hP9, hD9⟩, hS.F ht⟩) hS.2.2 dX10_leave_36
set_option maxRecDepth 100000 in
def fX10_at (tnodesS : Int32) (tnodesF : Nat → Int32) (tjarsS : Int32) (tjarsF : Nat → Int32) (tnow : Int32) (tfm : Int32) (p0 : Int32) (p1 : Int32) : Int32 := if (hs p0 tnodesS) = 0 then ((-1)) else (if (wi p1 3) = 0 then (if p1 = 4 then (bnd (fX9_monthAt tfm tnow) (fun (r20 : Int32) => bnd (fX9_hasSnow tnodesF p0 r20) (fun (r27 : Int32) => if r27 = 0 then (0) else (1)))) else (if p1 = 5 then (bnd (fX9_jarsAt tjarsS tjarsF p0) (fun (r13 : Int32) => r13)) else ((-1)))) else (bnd (fX6_get_48 4 tnodesF p0 p1) (fun (r36 : Int32) => r36)))
set_option maxHeartbeats 4000000 in
set_option maxRecDepth 100000 in
theorem mX10_at (l : Launch) (dC : Nat → ClassId) (dI : Nat → Nat → Nat) (kA : Nat → ClassId) (sz : Nat) (x0 : Nat) (z0 : Nat) (xi : Nat) (xt : Nat) (xq : Nat) (rdr : Nat) (h0 : Nat) (t0 : Nat) (q0 : Nat) (v0 : Nat) (m0 : Nat) (w0 : Nat) (x_tl : Int32) (x_lc : Int32) (tnodes : Nat) (tnodesA : Nat) (tnodesS : Int32) (tnodesF : Nat → Int32) (tpasses : Nat) (tjars : Nat) (tjarsA : Nat) (tjarsS : Int32) (tjarsF : Nat → Int32) (torders : Nat) (tfeasts : Nat) (tway : Nat) (tws : Int32) (tnow : Int32) (tfm : Int32) (tx : Int32) (p0 : Int32) (p1 : Int32)  : Met l yX10_at wsX10_at ({ frames := 2, cells := 0, slots := 0, locals := 46 }) (zPc dC dI kA sz [.ref x0, .int p0, .int p1] [(x0, .inr (10, [.ref w0, .ref z0, .ref xi, .ref xt, .int x_tl, .ref xq, .int x_lc, .ref rdr, .ref h0, .ref t0, .ref q0, .ref v0, .ref m0])), (w0, .inr (9, [.ref tnodes, .ref tpasses, .ref tjars, .ref torders, .ref tfeasts, .ref tway, .int tws, .int tnow, .int tfm, .int tx])), (tnodes, .inr (6, [.int 4, .ref tnodesA, .int tnodesS])), (tnodesA, .inl (kA 0, 48, .inl tnodesF)), (tjars, .inr (6, [.int 9, .ref tjarsA, .int tjarsS])), (tjarsA, .inl (kA 0, 144, .inl tjarsF))]) (va_Qi (fun (r : Int32) (u : Int32) => r = u ∧ u = fX10_at tnodesS tnodesF tjarsS tjarsF tnow tfm p0 p1) (zB dC dI (va_A [(x0, .inr (10, [.ref w0, .ref z0, .ref xi, .ref xt, .int x_tl, .ref xq, .int x_lc, .ref rdr, .ref h0, .ref t0, .ref q0, .ref v0, .ref m0])), (w0, .inr (9, [.ref tnodes, .ref tpasses, .ref tjars, .ref torders, .ref tfeasts, .ref tway, .int tws, .int tnow, .int tfm, .int tx])), (tnodes, .inr (6, [.int 4, .ref tnodesA, .int tnodesS])), (tnodesA, .inl (kA 0, 48, .inl tnodesF)), (tjars, .inr (6, [.int 9, .ref tjarsA, .int tjarsS])), (tjarsA, .inl (kA 0, 144, .inl tjarsF))] sz) (fun (u : Int32) => [(x0, .inr (10, [.ref w0, .ref z0, .ref xi, .ref xt, .int x_tl, .ref xq, .int x_lc, .ref rdr, .ref h0, .ref t0, .ref q0, .ref v0, .ref m0])), (w0, .inr (9, [.ref tnodes, .ref tpasses, .ref tjars, .ref torders, .ref tfeasts, .ref tway, .int tws, .int tnow, .int tfm, .int tx])), (tnodes, .inr (6, [.int 4, .ref tnodesA, .int tnodesS])), (tnodesA, .inl (kA 0, 48, .inl tnodesF)), (tjars, .inr (6, [.int 9, .ref tjarsA, .int tjarsS])), (tjarsA, .inl (kA 0, 144, .inl tjarsF))])) (va_A [(x0, .inr (10, [.ref w0, .ref z0, .ref xi, .ref xt, .int x_tl, .ref xq, .int x_lc, .ref rdr, .ref h0, .ref t0, .ref q0, .ref v0, .ref m0])), (w0, .inr (9, [.ref tnodes, .ref tpasses, .ref tjars, .ref torders, .ref tfeasts, .ref tway, .int tws, .int tnow, .int tfm, .int tx])), (tnodes, .inr (6, [.int 4, .ref tnodesA, .int tnodesS])), (tnodesA, .inl (kA 0, 48, .inl tnodesF)), (tjars, .inr (6, [.int 9, .ref tjarsA, .int tjarsS])), (tjarsA, .inl (kA 0, 144, .inl tjarsF))] sz)) 0 0 (va_A [(x0, .inr (10, [.ref w0, .ref z0, .ref xi, .ref xt, .int x_tl, .ref xq, .int x_lc, .ref rdr, .ref h0, .ref t0, .ref q0, .ref v0, .ref m0])), (w0, .inr (9, [.ref tnodes, .ref tpasses, .ref tjars, .ref torders, .ref tfeasts, .ref tway, .int tws, .int tnow, .int tfm, .int tx])), (tnodes, .inr (6, [.int 4, .ref tnodesA, .int tnodesS])), (tnodesA, .inl (kA 0, 48, .inl tnodesF)), (tjars, .inr (6, [.int 9, .ref tjarsA, .int tjarsS])), (tjarsA, .inl (kA 0, 144, .inl tjarsF))] sz) := by
  refine Met.ofW (cc := cX10_at) (maxL := 3) (ret := (some .int)) (by decide) rfl ?_
  intro p e s m args below meth c s₁ B hml hv
  obtain ⟨rfl, hsz, hP, hK, hD0⟩ := hv
  have hx := B.exec
  have hb := B.bytes
  have hr := B.returns
  have hts := atoms_spec (ws := wsX10_at) B.pre
  have hown : s.vm.findClass RX10 = some m.cls := findClass_of_methodNamed B.named
  have hlocks := B.notSynchronized
  subst hsz
  have hD := hD0.self (sz := s.heap.size)
  generalize hAe : va_A [(x0, .inr (10, [.ref w0, .ref z0, .ref xi, .ref xt, .int x_tl, .ref xq, .int x_lc, .ref rdr, .ref h0, .ref t0, .ref q0, .ref v0, .ref m0])), (w0, .inr (9, [.ref tnodes, .ref tpasses, .ref tjars, .ref torders, .ref tfeasts, .ref tway, .int tws, .int tnow, .int tfm, .int tx])), (tnodes, .inr (6, [.int 4, .ref tnodesA, .int tnodesS])), (tnodesA, .inl (kA 0, 48, .inl tnodesF)), (tjars, .inr (6, [.int 9, .ref tjarsA, .int tjarsS])), (tjarsA, .inl (kA 0, 144, .inl tjarsF))] s.heap.size = A at hD ⊢
  have hA : ∀ q : Nat, s.heap.size ≤ q → A q := fun q h => by rw [← hAe]; exact Or.inr h
  have hS : va_S A s.heap s.heap [] := va_S.rf
  have hP : va_P (dC, dI) vwCl [(x0, .inr (10, [.ref w0, .ref z0, .ref xi, .ref xt, .int x_tl, .ref xq, .int x_lc, .ref rdr, .ref h0, .ref t0, .ref q0, .ref v0, .ref m0])), (w0, .inr (9, [.ref tnodes, .ref tpasses, .ref tjars, .ref torders, .ref tfeasts, .ref tway, .int tws, .int tnow, .int tfm, .int tx])), (tnodes, .inr (6, [.int 4, .ref tnodesA, .int tnodesS])), (tnodesA, .inl (kA 0, 48, .inl tnodesF)), (tjars, .inr (6, [.int 9, .ref tjarsA, .int tjarsS])), (tjarsA, .inl (kA 0, 144, .inl tjarsF))] s.heap := hP
  have hl := lv_entry ([.ref x0, .int p0, .int p1]) (n := 3) (Nat.le_of_ble_eq_true rfl)
  rw [lg_entry_eq]
  generalize (lg_sl ([.ref x0, .int p0, .int p1]) ++ List.replicate (3 - (lg_sl ([.ref x0, .int p0, .int p1])).length) Slot.unset).toArray = ls at hl ⊢
  have hl : lv_has ls 3 [(0, .ref x0), (1, .int p0), (2, .int p1)] := hl
  obtain ⟨G, hG0⟩ : ∃ G : Int32, fX10_at tnodesS tnodesF tjarsS tjarsF tnow tfm p0 p1 = G := ⟨_, rfl⟩
  have hG := hG0
  unfold fX10_at at hG
  refine lv_aload_n hx hb dX10_at_0 rfl (lv_at hl 0 rfl) ?_
  refine va_get (D := (dC, dI)) (ci := 10) (v := .ref w0) (C := RX10) (T := TX10) (N := 13) hx hb hts iX10_at_X10 hown hK.1 hP 0 rfl rfl 0 (by decide) (kX10_at_1 hts) (fun _ h9 => h9) rfl dX10_at_1 ?_
  refine va_get (D := (dC, dI)) (ci := 9) (v := .ref tnodes) (C := RX9) (T := TX9) (N := 10) hx hb hts iX10_at_X9 hown hK.1 hP 1 rfl rfl 0 (by decide) (kX10_at_2 hts) (fun _ h9 => h9) rfl dX10_at_4 ?_
  refine lv_iload_n hx hb dX10_at_7 rfl (lv_at hl 1 rfl) ?_
  refine z_i (wr := [(x0, .inr (10, [.ref w0, .ref z0, .ref xi, .ref xt, .int x_tl, .ref xq, .int x_lc, .ref rdr, .ref h0, .ref t0, .ref q0, .ref v0, .ref m0])), (w0, .inr (9, [.ref tnodes, .ref tpasses, .ref tjars, .ref torders, .ref tfeasts, .ref tway, .int tws, .int tnow, .int tfm, .int tx])), (tnodesA, .inl (kA 0, 48, .inl tnodesF)), (tjars, .inr (6, [.int 9, .ref tjarsA, .int tjarsS])), (tjarsA, .inl (kA 0, 144, .inl tjarsF))]) (va_runV (As := [.int p0]) (rest := []) ⟨hx, hb, hml, hown, hts⟩ (mX6_has l dC dI kA _ tnodes tnodesA 4 tnodesS p0) (cwV 1 hts gX10_at_X6_has rfl rfl rfl ⟨rfl, hdX6_has⟩ ⟨(Nat.le_of_ble_eq_true rfl), (Nat.le_of_ble_eq_true rfl)⟩) ⟨zPc.blind, va_recv hK.1 hP (ci := 6) (q0 := 2) rfl rfl, zPre hK (hP.sub [2] rfl) (hD.sub [2] (by decide) rfl)⟩ rfl rfl hl.1 rfl (lv_room (Nat.le_of_ble_eq_true rfl)) dX10_at_8 ⟨(Nat.le_of_ble_eq_true rfl), (Nat.le_of_ble_eq_true rfl)⟩) hP hD hS hA [2] [0, 1, 3, 4, 5] rfl rfl (by decide) (by decide) (fun r3 u1 H locs hw2 hP hD hS => ?_)
  obtain rfl := hw2
  obtain ⟨hP, hD⟩ := z_re (L := [(x0, .inr (10, [.ref w0, .ref z0, .ref xi, .ref xt, .int x_tl, .ref xq, .int x_lc, .ref rdr, .ref h0, .ref t0, .ref q0, .ref v0, .ref m0])), (w0, .inr (9, [.ref tnodes, .ref tpasses, .ref tjars, .ref torders, .ref tfeasts, .ref tway, .int tws, .int tnow, .int tfm, .int tx])), (tnodesA, .inl (kA 0, 48, .inl tnodesF)), (tjars, .inr (6, [.int 9, .ref tjarsA, .int tjarsS])), (tjarsA, .inl (kA 0, 144, .inl tjarsF)), (tnodes, .inr (6, [.int 4, .ref tnodesA, .int tnodesS]))]) hP hD
  refine lv_if_ne (tgt := 16) hx hb dX10_at_11 (by decide) (fun c_4 => ?_) (fun c_4 => ?_)
  · have hG := zelse hG c_4
    have c_4a := hs_ne c_4
    have c_4b := c_4a.2
    have c_4a := c_4a.1
    refine lv_iload_n hx hb dX10_at_16 rfl (lv_at hl 2 rfl) ?_
    refine lv_iconst (v := 3) hx hb dX10_at_17 (by decide) ?_
    refine z_i (wr := [(x0, .inr (10, [.ref w0, .ref z0, .ref xi, .ref xt, .int x_tl, .ref xq, .int x_lc, .ref rdr, .ref h0, .ref t0, .ref q0, .ref v0, .ref m0])), (w0, .inr (9, [.ref tnodes, .ref tpasses, .ref tjars, .ref torders, .ref tfeasts, .ref tway, .int tws, .int tnow, .int tfm, .int tx])), (tnodesA, .inl (kA 0, 48, .inl tnodesF)), (tjars, .inr (6, [.int 9, .ref tjarsA, .int tjarsS])), (tjarsA, .inl (kA 0, 144, .inl tjarsF)), (tnodes, .inr (6, [.int 4, .ref tnodesA, .int tnodesS]))]) (va_runS (As := [.int p1, .int 3]) (rest := []) ⟨hx, hb, hml, hown, hts⟩ (mX10_within l dC dI kA _ p1 3) (va_cwS 2 hts gX10_at_X10_within rfl rfl rfl hdX10_within ⟨(Nat.le_of_ble_eq_true rfl), (Nat.le_of_ble_eq_true rfl)⟩) ⟨zPc.blind, zPre hK (hP.sub [] rfl) (hD.sub [] (by decide) rfl)⟩ rfl rfl hl.1 rfl (lv_room (Nat.le_of_ble_eq_true rfl)) dX10_at_18 ⟨(Nat.le_of_ble_eq_true rfl), (Nat.le_of_ble_eq_true rfl)⟩) hP hD hS hA [] [0, 1, 2, 3, 4, 5] rfl rfl (by decide) (by decide) (fun r7 u5 H locs hw6 hP hD hS => ?_)
    obtain rfl := hw6
    obtain ⟨hP, hD⟩ := z_re (L := [(x0, .inr (10, [.ref w0, .ref z0, .ref xi, .ref xt, .int x_tl, .ref xq, .int x_lc, .ref rdr, .ref h0, .ref t0, .ref q0, .ref v0, .ref m0])), (w0, .inr (9, [.ref tnodes, .ref tpasses, .ref tjars, .ref torders, .ref tfeasts, .ref tway, .int tws, .int tnow, .int tfm, .int tx])), (tnodesA, .inl (kA 0, 48, .inl tnodesF)), (tjars, .inr (6, [.int 9, .ref tjarsA, .int tjarsS])), (tjarsA, .inl (kA 0, 144, .inl tjarsF)), (tnodes, .inr (6, [.int 4, .ref tnodesA, .int tnodesS]))]) hP hD
    refine lv_if_eq (tgt := 37) hx hb dX10_at_21 (by decide) (fun c_8 => ?_) (fun c_8 => ?_)
    · have hG := zthen hG c_8
      refine lv_iload_n hx hb dX10_at_37 rfl (lv_at hl 2 rfl) ?_
      refine lv_iconst (v := 4) hx hb dX10_at_38 (by decide) ?_
      refine lv_icmp_ne (tgt := 73) hx hb dX10_at_39 (by decide) (fun c_9 => ?_) (fun c_9 => ?_)
      · have hG := zelse hG c_9
        refine lv_iload_n hx hb dX10_at_73 rfl (lv_at hl 2 rfl) ?_
        refine lv_iconst (v := 5) hx hb dX10_at_74 (by decide) ?_
        refine lv_icmp_ne (tgt := 89) hx hb dX10_at_75 (by decide) (fun c_10 => ?_) (fun c_10 => ?_)
        · have hG := zelse hG c_10
          refine lv_iconst (v := (-1)) hx hb dX10_at_89 (by decide) ?_
          obtain ⟨hP9, hD9⟩ := z_sb (L' := [(x0, .inr (10, [.ref w0, .ref z0, .ref xi, .ref xt, .int x_tl, .ref xq, .int x_lc, .ref rdr, .ref h0, .ref t0, .ref q0, .ref v0, .ref m0])), (w0, .inr (9, [.ref tnodes, .ref tpasses, .ref tjars, .ref torders, .ref tfeasts, .ref tway, .int tws, .int tnow, .int tfm, .int tx])), (tnodes, .inr (6, [.int 4, .ref tnodesA, .int tnodesS])), (tnodesA, .inl (kA 0, 48, .inl tnodesF)), (tjars, .inr (6, [.int 9, .ref tjarsA, .int tjarsS])), (tjarsA, .inl (kA 0, 144, .inl tjarsF))]) hP hD [0, 1, 5, 2, 3, 4] (by decide) rfl
          refine W.widen (k := 0) (n := 0) (Nat.le_of_ble_eq_true rfl) (Nat.le_of_ble_eq_true rfl) ?_
          exact W.iret (v := (-1)) hx hb hr (fun t ht hW => ⟨⟨(-1), ((-1)), rfl, ⟨rfl, (hG.trans hG0.symm)⟩, by rw [ht]; exact hP9, hD9⟩, hS.F ht⟩) hS.2.2 dX10_at_90
        · have hG := zthen hG c_10
          refine lv_aload_n hx hb dX10_at_78 rfl (lv_at hl 0 rfl) ?_
          refine va_get (D := (dC, dI)) (ci := 10) (v := .ref w0) (C := RX10) (T := TX10) (N := 13) hx hb hts iX10_at_X10 hown hK.1 hP 0 rfl rfl 0 (by decide) (kX10_at_1 hts) (fun _ h9 => h9) rfl dX10_at_79 ?_
          refine lv_iload_n hx hb dX10_at_82 rfl (lv_at hl 1 rfl) ?_
          refine z_i (wr := [(x0, .inr (10, [.ref w0, .ref z0, .ref xi, .ref xt, .int x_tl, .ref xq, .int x_lc, .ref rdr, .ref h0, .ref t0, .ref q0, .ref v0, .ref m0])), (tnodesA, .inl (kA 0, 48, .inl tnodesF)), (tnodes, .inr (6, [.int 4, .ref tnodesA, .int tnodesS]))]) (va_runV (As := [.int p0]) (rest := []) ⟨hx, hb, hml, hown, hts⟩ (mX9_jarsAt l dC dI kA _ w0 tnodes tpasses tjars tjarsA tjarsS tjarsF torders tfeasts tway tws tnow tfm tx p0) (cwV 1 hts gX10_at_X9_jarsAt rfl rfl rfl ⟨rfl, hdX9_jarsAt⟩ ⟨(Nat.le_of_ble_eq_true rfl), (Nat.le_of_ble_eq_true rfl)⟩) ⟨zPc.blind, va_recv hK.1 hP (ci := 9) (q0 := 1) rfl rfl, zPre hK (hP.sub [1, 3, 4] rfl) (hD.sub [1, 3, 4] (by decide) rfl)⟩ rfl rfl hl.1 rfl (lv_room (Nat.le_of_ble_eq_true rfl)) dX10_at_83 ⟨(Nat.le_of_ble_eq_true rfl), (Nat.le_of_ble_eq_true rfl)⟩) hP hD hS hA [1, 3, 4] [0, 2, 5] rfl rfl (by decide) (by decide) (fun r13 u11 H locs hw12 hP hD hS => ?_)
          obtain ⟨er16, hp15⟩ := hw12
          have er16 : r13 = u11 := er16
          subst er16
          have er13 : r13 = fX9_jarsAt tjarsS tjarsF p0 := hp15
          have hG := zbnd hG er13
          obtain ⟨hP, hD⟩ := z_re (L := [(x0, .inr (10, [.ref w0, .ref z0, .ref xi, .ref xt, .int x_tl, .ref xq, .int x_lc, .ref rdr, .ref h0, .ref t0, .ref q0, .ref v0, .ref m0])), (tnodesA, .inl (kA 0, 48, .inl tnodesF)), (tnodes, .inr (6, [.int 4, .ref tnodesA, .int tnodesS])), (w0, .inr (9, [.ref tnodes, .ref tpasses, .ref tjars, .ref torders, .ref tfeasts, .ref tway, .int tws, .int tnow, .int tfm, .int tx])), (tjars, .inr (6, [.int 9, .ref tjarsA, .int tjarsS])), (tjarsA, .inl (kA 0, 144, .inl tjarsF))]) hP hD
          refine lv_goto (tgt := 90) hx hb dX10_at_86 (by decide) ?_
          obtain ⟨hP9, hD9⟩ := z_sb (L' := [(x0, .inr (10, [.ref w0, .ref z0, .ref xi, .ref xt, .int x_tl, .ref xq, .int x_lc, .ref rdr, .ref h0, .ref t0, .ref q0, .ref v0, .ref m0])), (w0, .inr (9, [.ref tnodes, .ref tpasses, .ref tjars, .ref torders, .ref tfeasts, .ref tway, .int tws, .int tnow, .int tfm, .int tx])), (tnodes, .inr (6, [.int 4, .ref tnodesA, .int tnodesS])), (tnodesA, .inl (kA 0, 48, .inl tnodesF)), (tjars, .inr (6, [.int 9, .ref tjarsA, .int tjarsS])), (tjarsA, .inl (kA 0, 144, .inl tjarsF))]) hP hD [0, 3, 2, 1, 4, 5] (by decide) rfl
          refine W.widen (k := 0) (n := 0) (Nat.le_of_ble_eq_true rfl) (Nat.le_of_ble_eq_true rfl) ?_
          exact W.iret (v := r13) hx hb hr (fun t ht hW => ⟨⟨r13, (r13), rfl, ⟨rfl, (hG.trans hG0.symm)⟩, by rw [ht]; exact hP9, hD9⟩, hS.F ht⟩) hS.2.2 dX10_at_90
      · have hG := zthen hG c_9
        refine lv_aload_n hx hb dX10_at_42 rfl (lv_at hl 0 rfl) ?_
        refine va_get (D := (dC, dI)) (ci := 10) (v := .ref w0) (C := RX10) (T := TX10) (N := 13) hx hb hts iX10_at_X10 hown hK.1 hP 0 rfl rfl 0 (by decide) (kX10_at_1 hts) (fun _ h9 => h9) rfl dX10_at_43 ?_
        refine lv_iload_n hx hb dX10_at_46 rfl (lv_at hl 1 rfl) ?_
        refine lv_aload_n hx hb dX10_at_47 rfl (lv_at hl 0 rfl) ?_
        refine va_get (D := (dC, dI)) (ci := 10) (v := .ref w0) (C := RX10) (T := TX10) (N := 13) hx hb hts iX10_at_X10 hown hK.1 hP 0 rfl rfl 0 (by decide) (kX10_at_1 hts) (fun _ h9 => h9) rfl dX10_at_48 ?_
        refine lv_aload_n hx hb dX10_at_51 rfl (lv_at hl 0 rfl) ?_
        refine va_get (D := (dC, dI)) (ci := 10) (v := .ref w0) (C := RX10) (T := TX10) (N := 13) hx hb hts iX10_at_X10 hown hK.1 hP 0 rfl rfl 0 (by decide) (kX10_at_1 hts) (fun _ h9 => h9) rfl dX10_at_52 ?_
        refine va_get (D := (dC, dI)) (ci := 9) (v := .int tnow) (C := RX9) (T := TX9) (N := 10) hx hb hts iX10_at_X9 hown hK.1 hP 1 rfl rfl 7 (by decide) (kX10_at_3 hts) (fun _ h9 => h9) rfl dX10_at_55 ?_
        refine z_i (wr := [(x0, .inr (10, [.ref w0, .ref z0, .ref xi, .ref xt, .int x_tl, .ref xq, .int x_lc, .ref rdr, .ref h0, .ref t0, .ref q0, .ref v0, .ref m0])), (tnodesA, .inl (kA 0, 48, .inl tnodesF)), (tjars, .inr (6, [.int 9, .ref tjarsA, .int tjarsS])), (tjarsA, .inl (kA 0, 144, .inl tjarsF)), (tnodes, .inr (6, [.int 4, .ref tnodesA, .int tnodesS]))]) (va_runV (As := [.int tnow]) (rest := [.int p0, .ref w0]) ⟨hx, hb, hml, hown, hts⟩ (mX9_monthAt l dC dI kA _ w0 tnodes tpasses tjars torders tfeasts tway tws tnow tfm tx tnow) (cwV 1 hts gX10_at_X9_monthAt rfl rfl rfl ⟨rfl, hdX9_monthAt⟩ ⟨(Nat.le_of_ble_eq_true rfl), (Nat.le_of_ble_eq_true rfl)⟩) ⟨zPc.blind, va_recv hK.1 hP (ci := 9) (q0 := 1) rfl rfl, zPre hK (hP.sub [1] rfl) (hD.sub [1] (by decide) rfl)⟩ rfl rfl hl.1 rfl (lv_room (Nat.le_of_ble_eq_true rfl)) dX10_at_58 ⟨(Nat.le_of_ble_eq_true rfl), (Nat.le_of_ble_eq_true rfl)⟩) hP hD hS hA [1] [0, 2, 3, 4, 5] rfl rfl (by decide) (by decide) (fun r20 u18 H locs hw19 hP hD hS => ?_)
        obtain ⟨er23, hp22⟩ := hw19
        have er23 : r20 = u18 := er23
        subst er23
        have er20 : r20 = fX9_monthAt tfm tnow := hp22
        have hG := zbnd hG er20
        obtain ⟨hP, hD⟩ := z_re (L := [(x0, .inr (10, [.ref w0, .ref z0, .ref xi, .ref xt, .int x_tl, .ref xq, .int x_lc, .ref rdr, .ref h0, .ref t0, .ref q0, .ref v0, .ref m0])), (tnodesA, .inl (kA 0, 48, .inl tnodesF)), (tjars, .inr (6, [.int 9, .ref tjarsA, .int tjarsS])), (tjarsA, .inl (kA 0, 144, .inl tjarsF)), (tnodes, .inr (6, [.int 4, .ref tnodesA, .int tnodesS])), (w0, .inr (9, [.ref tnodes, .ref tpasses, .ref tjars, .ref torders, .ref tfeasts, .ref tway, .int tws, .int tnow, .int tfm, .int tx]))]) hP hD
        refine z_i (wr := [(x0, .inr (10, [.ref w0, .ref z0, .ref xi, .ref xt, .int x_tl, .ref xq, .int x_lc, .ref rdr, .ref h0, .ref t0, .ref q0, .ref v0, .ref m0])), (tjars, .inr (6, [.int 9, .ref tjarsA, .int tjarsS])), (tjarsA, .inl (kA 0, 144, .inl tjarsF))]) (va_runV (As := [.int p0, .int r20]) (rest := []) ⟨hx, hb, hml, hown, hts⟩ (mX9_hasSnow l dC dI kA _ w0 tnodes tnodesA tnodesS tnodesF tpasses tjars torders tfeasts tway tws tnow tfm tx p0 r20) (cwV 2 hts gX10_at_X9_hasSnow rfl rfl rfl ⟨rfl, hdX9_hasSnow⟩ ⟨(Nat.le_of_ble_eq_true rfl), (Nat.le_of_ble_eq_true rfl)⟩) ⟨zPc.blind, va_recv hK.1 hP (ci := 9) (q0 := 5) rfl rfl, zPre hK (hP.sub [5, 4, 1] rfl) (hD.sub [5, 4, 1] (by decide) rfl)⟩ rfl rfl hl.1 rfl (lv_room (Nat.le_of_ble_eq_true rfl)) dX10_at_61 ⟨(Nat.le_of_ble_eq_true rfl), (Nat.le_of_ble_eq_true rfl)⟩) hP hD hS hA [5, 4, 1] [0, 2, 3] rfl rfl (by decide) (by decide) (fun r27 u25 H locs hw26 hP hD hS => ?_)
        obtain ⟨er31, hp29, hp30⟩ := hw26
        have er31 : r27 = u25 := er31
        subst er31
        have er27 : r27 = fX9_hasSnow tnodesF p0 r20 := hp29
        have hG := zbnd hG er27
        obtain ⟨hP, hD⟩ := z_re (L := [(x0, .inr (10, [.ref w0, .ref z0, .ref xi, .ref xt, .int x_tl, .ref xq, .int x_lc, .ref rdr, .ref h0, .ref t0, .ref q0, .ref v0, .ref m0])), (tjars, .inr (6, [.int 9, .ref tjarsA, .int tjarsS])), (tjarsA, .inl (kA 0, 144, .inl tjarsF)), (w0, .inr (9, [.ref tnodes, .ref tpasses, .ref tjars, .ref torders, .ref tfeasts, .ref tway, .int tws, .int tnow, .int tfm, .int tx])), (tnodes, .inr (6, [.int 4, .ref tnodesA, .int tnodesS])), (tnodesA, .inl (kA 0, 48, .inl tnodesF))]) hP hD
        refine lv_if_eq (tgt := 71) hx hb dX10_at_64 (by decide) (fun c_33 => ?_) (fun c_33 => ?_)
        · have hG := zthen hG c_33
          refine lv_iconst (v := 0) hx hb dX10_at_71 (by decide) ?_
          obtain ⟨hP9, hD9⟩ := z_sb (L' := [(x0, .inr (10, [.ref w0, .ref z0, .ref xi, .ref xt, .int x_tl, .ref xq, .int x_lc, .ref rdr, .ref h0, .ref t0, .ref q0, .ref v0, .ref m0])), (w0, .inr (9, [.ref tnodes, .ref tpasses, .ref tjars, .ref torders, .ref tfeasts, .ref tway, .int tws, .int tnow, .int tfm, .int tx])), (tnodes, .inr (6, [.int 4, .ref tnodesA, .int tnodesS])), (tnodesA, .inl (kA 0, 48, .inl tnodesF)), (tjars, .inr (6, [.int 9, .ref tjarsA, .int tjarsS])), (tjarsA, .inl (kA 0, 144, .inl tjarsF))]) hP hD [0, 3, 4, 5, 1, 2] (by decide) rfl
          refine W.widen (k := 0) (n := 0) (Nat.le_of_ble_eq_true rfl) (Nat.le_of_ble_eq_true rfl) ?_
          exact W.iret (v := 0) hx hb hr (fun t ht hW => ⟨⟨0, (0), rfl, ⟨rfl, (hG.trans hG0.symm)⟩, by rw [ht]; exact hP9, hD9⟩, hS.F ht⟩) hS.2.2 dX10_at_72
        · have hG := zelse hG c_33
          refine lv_iconst (v := 1) hx hb dX10_at_67 (by decide) ?_
          refine lv_goto (tgt := 72) hx hb dX10_at_68 (by decide) ?_
          obtain ⟨hP9, hD9⟩ := z_sb (L' := [(x0, .inr (10, [.ref w0, .ref z0, .ref xi, .ref xt, .int x_tl, .ref xq, .int x_lc, .ref rdr, .ref h0, .ref t0, .ref q0, .ref v0, .ref m0])), (w0, .inr (9, [.ref tnodes, .ref tpasses, .ref tjars, .ref torders, .ref tfeasts, .ref tway, .int tws, .int tnow, .int tfm, .int tx])), (tnodes, .inr (6, [.int 4, .ref tnodesA, .int tnodesS])), (tnodesA, .inl (kA 0, 48, .inl tnodesF)), (tjars, .inr (6, [.int 9, .ref tjarsA, .int tjarsS])), (tjarsA, .inl (kA 0, 144, .inl tjarsF))]) hP hD [0, 3, 4, 5, 1, 2] (by decide) rfl
          refine W.widen (k := 0) (n := 0) (Nat.le_of_ble_eq_true rfl) (Nat.le_of_ble_eq_true rfl) ?_
          exact W.iret (v := 1) hx hb hr (fun t ht hW => ⟨⟨1, (1), rfl, ⟨rfl, (hG.trans hG0.symm)⟩, by rw [ht]; exact hP9, hD9⟩, hS.F ht⟩) hS.2.2 dX10_at_72
    · have hG := zelse hG c_8
      have c_8a := wi_ne c_8
      have c_8b := c_8a.2
      have c_8a := c_8a.1
      refine lv_aload_n hx hb dX10_at_24 rfl (lv_at hl 0 rfl) ?_
      refine va_get (D := (dC, dI)) (ci := 10) (v := .ref w0) (C := RX10) (T := TX10) (N := 13) hx hb hts iX10_at_X10 hown hK.1 hP 0 rfl rfl 0 (by decide) (kX10_at_1 hts) (fun _ h9 => h9) rfl dX10_at_25 ?_
      refine va_get (D := (dC, dI)) (ci := 9) (v := .ref tnodes) (C := RX9) (T := TX9) (N := 10) hx hb hts iX10_at_X9 hown hK.1 hP 1 rfl rfl 0 (by decide) (kX10_at_2 hts) (fun _ h9 => h9) rfl dX10_at_28 ?_
      refine lv_iload_n hx hb dX10_at_31 rfl (lv_at hl 1 rfl) ?_
      refine lv_iload_n hx hb dX10_at_32 rfl (lv_at hl 2 rfl) ?_
      refine z_i (wr := [(x0, .inr (10, [.ref w0, .ref z0, .ref xi, .ref xt, .int x_tl, .ref xq, .int x_lc, .ref rdr, .ref h0, .ref t0, .ref q0, .ref v0, .ref m0])), (w0, .inr (9, [.ref tnodes, .ref tpasses, .ref tjars, .ref torders, .ref tfeasts, .ref tway, .int tws, .int tnow, .int tfm, .int tx])), (tjars, .inr (6, [.int 9, .ref tjarsA, .int tjarsS])), (tjarsA, .inl (kA 0, 144, .inl tjarsF))]) (va_runV (As := [.int p0, .int p1]) (rest := []) ⟨hx, hb, hml, hown, hts⟩ (mX6_get_48 l dC dI kA _ tnodes tnodesA 4 tnodesS tnodesF p0 p1) (cwV 2 hts gX10_at_X6_get rfl rfl rfl ⟨rfl, hdX6_get⟩ ⟨(Nat.le_of_ble_eq_true rfl), (Nat.le_of_ble_eq_true rfl)⟩) ⟨zPc.blind, va_recv hK.1 hP (ci := 6) (q0 := 5) rfl rfl, zPre hK (hP.sub [5, 2] rfl) (hD.sub [5, 2] (by decide) rfl)⟩ rfl rfl hl.1 rfl (lv_room (Nat.le_of_ble_eq_true rfl)) dX10_at_33 ⟨(Nat.le_of_ble_eq_true rfl), (Nat.le_of_ble_eq_true rfl)⟩) hP hD hS hA [5, 2] [0, 1, 3, 4] rfl rfl (by decide) (by decide) (fun r36 u34 H locs hw35 hP hD hS => ?_)
      obtain ⟨er39, hp38⟩ := hw35
      have er39 : r36 = u34 := er39
      subst er39
      have er36 : r36 = fX6_get_48 4 tnodesF p0 p1 := hp38
      have hG := zbnd hG er36
      obtain ⟨hP, hD⟩ := z_re (L := [(x0, .inr (10, [.ref w0, .ref z0, .ref xi, .ref xt, .int x_tl, .ref xq, .int x_lc, .ref rdr, .ref h0, .ref t0, .ref q0, .ref v0, .ref m0])), (w0, .inr (9, [.ref tnodes, .ref tpasses, .ref tjars, .ref torders, .ref tfeasts, .ref tway, .int tws, .int tnow, .int tfm, .int tx])), (tjars, .inr (6, [.int 9, .ref tjarsA, .int tjarsS])), (tjarsA, .inl (kA 0, 144, .inl tjarsF)), (tnodes, .inr (6, [.int 4, .ref tnodesA, .int tnodesS])), (tnodesA, .inl (kA 0, 48, .inl tnodesF))]) hP hD
      obtain ⟨hP9, hD9⟩ := z_sb (L' := [(x0, .inr (10, [.ref w0, .ref z0, .ref xi, .ref xt, .int x_tl, .ref xq, .int x_lc, .ref rdr, .ref h0, .ref t0, .ref q0, .ref v0, .ref m0])), (w0, .inr (9, [.ref tnodes, .ref tpasses, .ref tjars, .ref torders, .ref tfeasts, .ref tway, .int tws, .int tnow, .int tfm, .int tx])), (tnodes, .inr (6, [.int 4, .ref tnodesA, .int tnodesS])), (tnodesA, .inl (kA 0, 48, .inl tnodesF)), (tjars, .inr (6, [.int 9, .ref tjarsA, .int tjarsS])), (tjarsA, .inl (kA 0, 144, .inl tjarsF))]) hP hD [0, 1, 4, 5, 2, 3] (by decide) rfl
      refine W.widen (k := 0) (n := 0) (Nat.le_of_ble_eq_true rfl) (Nat.le_of_ble_eq_true rfl) ?_
      exact W.iret (v := r36) hx hb hr (fun t ht hW => ⟨⟨r36, (r36), rfl, ⟨rfl, (hG.trans hG0.symm)⟩, by rw [ht]; exact hP9, hD9⟩, hS.F ht⟩) hS.2.2 dX10_at_36
  · have hG := zthen hG c_4
    refine lv_iconst (v := (-1)) hx hb dX10_at_14 (by decide) ?_
    obtain ⟨hP9, hD9⟩ := z_sb (L' := [(x0, .inr (10, [.ref w0, .ref z0, .ref xi, .ref xt, .int x_tl, .ref xq, .int x_lc, .ref rdr, .ref h0, .ref t0, .ref q0, .ref v0, .ref m0])), (w0, .inr (9, [.ref tnodes, .ref tpasses, .ref tjars, .ref torders, .ref tfeasts, .ref tway, .int tws, .int tnow, .int tfm, .int tx])), (tnodes, .inr (6, [.int 4, .ref tnodesA, .int tnodesS])), (tnodesA, .inl (kA 0, 48, .inl tnodesF)), (tjars, .inr (6, [.int 9, .ref tjarsA, .int tjarsS])), (tjarsA, .inl (kA 0, 144, .inl tjarsF))]) hP hD [0, 1, 5, 2, 3, 4] (by decide) rfl
    refine W.widen (k := 0) (n := 0) (Nat.le_of_ble_eq_true rfl) (Nat.le_of_ble_eq_true rfl) ?_
    exact W.iret (v := (-1)) hx hb hr (fun t ht hW => ⟨⟨(-1), ((-1)), rfl, ⟨rfl, (hG.trans hG0.symm)⟩, by rw [ht]; exact hP9, hD9⟩, hS.F ht⟩) hS.2.2 dX10_at_15
set_option maxRecDepth 100000 in
def fX10_of (tjarsS : Int32) (tjarsF : Nat → Int32) (p0 : Int32) (p1 : Int32) : Int32 := if (hs p0 tjarsS) = 0 then ((-2)) else (if (wi p1 8) = 0 then ((-2)) else (bnd (fX6_get_144 9 tjarsF p0 p1) (fun (r11 : Int32) => r11)))
set_option maxHeartbeats 4000000 in
set_option maxRecDepth 100000 in
theorem mX10_of (l : Launch) (dC : Nat → ClassId) (dI : Nat → Nat → Nat) (kA : Nat → ClassId) (sz : Nat) (x0 : Nat) (z0 : Nat) (xi : Nat) (xt : Nat) (xq : Nat) (rdr : Nat) (h0 : Nat) (t0 : Nat) (q0 : Nat) (v0 : Nat) (m0 : Nat) (w0 : Nat) (x_tl : Int32) (x_lc : Int32) (tnodes : Nat) (tpasses : Nat) (tjars : Nat) (tjarsA : Nat) (tjarsS : Int32) (tjarsF : Nat → Int32) (torders : Nat) (tfeasts : Nat) (tway : Nat) (tws : Int32) (tnow : Int32) (tfm : Int32) (tx : Int32) (p0 : Int32) (p1 : Int32)  : Met l yX10_of wsX10_of ({ frames := 1, cells := 0, slots := 0, locals := 23 }) (zPc dC dI kA sz [.ref x0, .int p0, .int p1] [(x0, .inr (10, [.ref w0, .ref z0, .ref xi, .ref xt, .int x_tl, .ref xq, .int x_lc, .ref rdr, .ref h0, .ref t0, .ref q0, .ref v0, .ref m0])), (w0, .inr (9, [.ref tnodes, .ref tpasses, .ref tjars, .ref torders, .ref tfeasts, .ref tway, .int tws, .int tnow, .int tfm, .int tx])), (tjars, .inr (6, [.int 9, .ref tjarsA, .int tjarsS])), (tjarsA, .inl (kA 0, 144, .inl tjarsF))]) (va_Qi (fun (r : Int32) (u : Int32) => r = u ∧ u = fX10_of tjarsS tjarsF p0 p1) (zB dC dI (va_A [(x0, .inr (10, [.ref w0, .ref z0, .ref xi, .ref xt, .int x_tl, .ref xq, .int x_lc, .ref rdr, .ref h0, .ref t0, .ref q0, .ref v0, .ref m0])), (w0, .inr (9, [.ref tnodes, .ref tpasses, .ref tjars, .ref torders, .ref tfeasts, .ref tway, .int tws, .int tnow, .int tfm, .int tx])), (tjars, .inr (6, [.int 9, .ref tjarsA, .int tjarsS])), (tjarsA, .inl (kA 0, 144, .inl tjarsF))] sz) (fun (u : Int32) => [(x0, .inr (10, [.ref w0, .ref z0, .ref xi, .ref xt, .int x_tl, .ref xq, .int x_lc, .ref rdr, .ref h0, .ref t0, .ref q0, .ref v0, .ref m0])), (w0, .inr (9, [.ref tnodes, .ref tpasses, .ref tjars, .ref torders, .ref tfeasts, .ref tway, .int tws, .int tnow, .int tfm, .int tx])), (tjars, .inr (6, [.int 9, .ref tjarsA, .int tjarsS])), (tjarsA, .inl (kA 0, 144, .inl tjarsF))])) (va_A [(x0, .inr (10, [.ref w0, .ref z0, .ref xi, .ref xt, .int x_tl, .ref xq, .int x_lc, .ref rdr, .ref h0, .ref t0, .ref q0, .ref v0, .ref m0])), (w0, .inr (9, [.ref tnodes, .ref tpasses, .ref tjars, .ref torders, .ref tfeasts, .ref tway, .int tws, .int tnow, .int tfm, .int tx])), (tjars, .inr (6, [.int 9, .ref tjarsA, .int tjarsS])), (tjarsA, .inl (kA 0, 144, .inl tjarsF))] sz)) 0 0 (va_A [(x0, .inr (10, [.ref w0, .ref z0, .ref xi, .ref xt, .int x_tl, .ref xq, .int x_lc, .ref rdr, .ref h0, .ref t0, .ref q0, .ref v0, .ref m0])), (w0, .inr (9, [.ref tnodes, .ref tpasses, .ref tjars, .ref torders, .ref tfeasts, .ref tway, .int tws, .int tnow, .int tfm, .int tx])), (tjars, .inr (6, [.int 9, .ref tjarsA, .int tjarsS])), (tjarsA, .inl (kA 0, 144, .inl tjarsF))] sz) := by
  refine Met.ofW (cc := cX10_of) (maxL := 3) (ret := (some .int)) (by decide) rfl ?_
  intro p e s m args below meth c s₁ B hml hv
  obtain ⟨rfl, hsz, hP, hK, hD0⟩ := hv
  have hx := B.exec
  have hb := B.bytes
  have hr := B.returns
  have hts := atoms_spec (ws := wsX10_of) B.pre
  have hown : s.vm.findClass RX10 = some m.cls := findClass_of_methodNamed B.named
  have hlocks := B.notSynchronized
  subst hsz
  have hD := hD0.self (sz := s.heap.size)
  generalize hAe : va_A [(x0, .inr (10, [.ref w0, .ref z0, .ref xi, .ref xt, .int x_tl, .ref xq, .int x_lc, .ref rdr, .ref h0, .ref t0, .ref q0, .ref v0, .ref m0])), (w0, .inr (9, [.ref tnodes, .ref tpasses, .ref tjars, .ref torders, .ref tfeasts, .ref tway, .int tws, .int tnow, .int tfm, .int tx])), (tjars, .inr (6, [.int 9, .ref tjarsA, .int tjarsS])), (tjarsA, .inl (kA 0, 144, .inl tjarsF))] s.heap.size = A at hD ⊢
  have hA : ∀ q : Nat, s.heap.size ≤ q → A q := fun q h => by rw [← hAe]; exact Or.inr h
  have hS : va_S A s.heap s.heap [] := va_S.rf
  have hP : va_P (dC, dI) vwCl [(x0, .inr (10, [.ref w0, .ref z0, .ref xi, .ref xt, .int x_tl, .ref xq, .int x_lc, .ref rdr, .ref h0, .ref t0, .ref q0, .ref v0, .ref m0])), (w0, .inr (9, [.ref tnodes, .ref tpasses, .ref tjars, .ref torders, .ref tfeasts, .ref tway, .int tws, .int tnow, .int tfm, .int tx])), (tjars, .inr (6, [.int 9, .ref tjarsA, .int tjarsS])), (tjarsA, .inl (kA 0, 144, .inl tjarsF))] s.heap := hP
  have hl := lv_entry ([.ref x0, .int p0, .int p1]) (n := 3) (Nat.le_of_ble_eq_true rfl)
  rw [lg_entry_eq]
  generalize (lg_sl ([.ref x0, .int p0, .int p1]) ++ List.replicate (3 - (lg_sl ([.ref x0, .int p0, .int p1])).length) Slot.unset).toArray = ls at hl ⊢
  have hl : lv_has ls 3 [(0, .ref x0), (1, .int p0), (2, .int p1)] := hl
  obtain ⟨G, hG0⟩ : ∃ G : Int32, fX10_of tjarsS tjarsF p0 p1 = G := ⟨_, rfl⟩
  have hG := hG0
  unfold fX10_of at hG
  refine lv_aload_n hx hb dX10_of_0 rfl (lv_at hl 0 rfl) ?_
  refine va_get (D := (dC, dI)) (ci := 10) (v := .ref w0) (C := RX10) (T := TX10) (N := 13) hx hb hts iX10_of_X10 hown hK.1 hP 0 rfl rfl 0 (by decide) (kX10_of_1 hts) (fun _ h9 => h9) rfl dX10_of_1 ?_
  refine va_get (D := (dC, dI)) (ci := 9) (v := .ref tjars) (C := RX9) (T := TX9) (N := 10) hx hb hts iX10_of_X9 hown hK.1 hP 1 rfl rfl 2 (by decide) (kX10_of_2 hts) (fun _ h9 => h9) rfl dX10_of_4 ?_
  refine lv_iload_n hx hb dX10_of_7 rfl (lv_at hl 1 rfl) ?_
  refine z_i (wr := [(x0, .inr (10, [.ref w0, .ref z0, .ref xi, .ref xt, .int x_tl, .ref xq, .int x_lc, .ref rdr, .ref h0, .ref t0, .ref q0, .ref v0, .ref m0])), (w0, .inr (9, [.ref tnodes, .ref tpasses, .ref tjars, .ref torders, .ref tfeasts, .ref tway, .int tws, .int tnow, .int tfm, .int tx])), (tjarsA, .inl (kA 0, 144, .inl tjarsF))]) (va_runV (As := [.int p0]) (rest := []) ⟨hx, hb, hml, hown, hts⟩ (mX6_has l dC dI kA _ tjars tjarsA 9 tjarsS p0) (cwV 1 hts gX10_of_X6_has rfl rfl rfl ⟨rfl, hdX6_has⟩ ⟨(Nat.le_of_ble_eq_true rfl), (Nat.le_of_ble_eq_true rfl)⟩) ⟨zPc.blind, va_recv hK.1 hP (ci := 6) (q0 := 2) rfl rfl, zPre hK (hP.sub [2] rfl) (hD.sub [2] (by decide) rfl)⟩ rfl rfl hl.1 rfl (lv_room (Nat.le_of_ble_eq_true rfl)) dX10_of_8 ⟨(Nat.le_of_ble_eq_true rfl), (Nat.le_of_ble_eq_true rfl)⟩) hP hD hS hA [2] [0, 1, 3] rfl rfl (by decide) (by decide) (fun r3 u1 H locs hw2 hP hD hS => ?_)
  obtain rfl := hw2
  obtain ⟨hP, hD⟩ := z_re (L := [(x0, .inr (10, [.ref w0, .ref z0, .ref xi, .ref xt, .int x_tl, .ref xq, .int x_lc, .ref rdr, .ref h0, .ref t0, .ref q0, .ref v0, .ref m0])), (w0, .inr (9, [.ref tnodes, .ref tpasses, .ref tjars, .ref torders, .ref tfeasts, .ref tway, .int tws, .int tnow, .int tfm, .int tx])), (tjarsA, .inl (kA 0, 144, .inl tjarsF)), (tjars, .inr (6, [.int 9, .ref tjarsA, .int tjarsS]))]) hP hD
  refine lv_if_eq (tgt := 23) hx hb dX10_of_11 (by decide) (fun c_4 => ?_) (fun c_4 => ?_)
  · have hG := zthen hG c_4
    refine lv_bipush (v := (-2)) hx hb dX10_of_23 (by decide) ?_
    obtain ⟨hP9, hD9⟩ := z_sb (L' := [(x0, .inr (10, [.ref w0, .ref z0, .ref xi, .ref xt, .int x_tl, .ref xq, .int x_lc, .ref rdr, .ref h0, .ref t0, .ref q0, .ref v0, .ref m0])), (w0, .inr (9, [.ref tnodes, .ref tpasses, .ref tjars, .ref torders, .ref tfeasts, .ref tway, .int tws, .int tnow, .int tfm, .int tx])), (tjars, .inr (6, [.int 9, .ref tjarsA, .int tjarsS])), (tjarsA, .inl (kA 0, 144, .inl tjarsF))]) hP hD [0, 1, 3, 2] (by decide) rfl
    refine W.widen (k := 0) (n := 0) (Nat.le_of_ble_eq_true rfl) (Nat.le_of_ble_eq_true rfl) ?_
    exact W.iret (v := (-2)) hx hb hr (fun t ht hW => ⟨⟨(-2), ((-2)), rfl, ⟨rfl, (hG.trans hG0.symm)⟩, by rw [ht]; exact hP9, hD9⟩, hS.F ht⟩) hS.2.2 dX10_of_25
  · have hG := zelse hG c_4
    have c_4a := hs_ne c_4
    have c_4b := c_4a.2
    have c_4a := c_4a.1
    refine lv_iload_n hx hb dX10_of_14 rfl (lv_at hl 2 rfl) ?_
    refine lv_bipush (v := 8) hx hb dX10_of_15 (by decide) ?_
    refine z_i (wr := [(x0, .inr (10, [.ref w0, .ref z0, .ref xi, .ref xt, .int x_tl, .ref xq, .int x_lc, .ref rdr, .ref h0, .ref t0, .ref q0, .ref v0, .ref m0])), (w0, .inr (9, [.ref tnodes, .ref tpasses, .ref tjars, .ref torders, .ref tfeasts, .ref tway, .int tws, .int tnow, .int tfm, .int tx])), (tjarsA, .inl (kA 0, 144, .inl tjarsF)), (tjars, .inr (6, [.int 9, .ref tjarsA, .int tjarsS]))]) (va_runS (As := [.int p1, .int 8]) (rest := []) ⟨hx, hb, hml, hown, hts⟩ (mX10_within l dC dI kA _ p1 8) (va_cwS 2 hts gX10_of_X10_within rfl rfl rfl hdX10_within ⟨(Nat.le_of_ble_eq_true rfl), (Nat.le_of_ble_eq_true rfl)⟩) ⟨zPc.blind, zPre hK (hP.sub [] rfl) (hD.sub [] (by decide) rfl)⟩ rfl rfl hl.1 rfl (lv_room (Nat.le_of_ble_eq_true rfl)) dX10_of_17 ⟨(Nat.le_of_ble_eq_true rfl), (Nat.le_of_ble_eq_true rfl)⟩) hP hD hS hA [] [0, 1, 2, 3] rfl rfl (by decide) (by decide) (fun r7 u5 H locs hw6 hP hD hS => ?_)
    obtain rfl := hw6
    obtain ⟨hP, hD⟩ := z_re (L := [(x0, .inr (10, [.ref w0, .ref z0, .ref xi, .ref xt, .int x_tl, .ref xq, .int x_lc, .ref rdr, .ref h0, .ref t0, .ref q0, .ref v0, .ref m0])), (w0, .inr (9, [.ref tnodes, .ref tpasses, .ref tjars, .ref torders, .ref tfeasts, .ref tway, .int tws, .int tnow, .int tfm, .int tx])), (tjarsA, .inl (kA 0, 144, .inl tjarsF)), (tjars, .inr (6, [.int 9, .ref tjarsA, .int tjarsS]))]) hP hD
    refine lv_if_ne (tgt := 26) hx hb dX10_of_20 (by decide) (fun c_8 => ?_) (fun c_8 => ?_)
    · have hG := zelse hG c_8
      have c_8a := wi_ne c_8
      have c_8b := c_8a.2
      have c_8a := c_8a.1
      refine lv_aload_n hx hb dX10_of_26 rfl (lv_at hl 0 rfl) ?_
      refine va_get (D := (dC, dI)) (ci := 10) (v := .ref w0) (C := RX10) (T := TX10) (N := 13) hx hb hts iX10_of_X10 hown hK.1 hP 0 rfl rfl 0 (by decide) (kX10_of_1 hts) (fun _ h9 => h9) rfl dX10_of_27 ?_
      refine va_get (D := (dC, dI)) (ci := 9) (v := .ref tjars) (C := RX9) (T := TX9) (N := 10) hx hb hts iX10_of_X9 hown hK.1 hP 1 rfl rfl 2 (by decide) (kX10_of_2 hts) (fun _ h9 => h9) rfl dX10_of_30 ?_
      refine lv_iload_n hx hb dX10_of_33 rfl (lv_at hl 1 rfl) ?_
      refine lv_iload_n hx hb dX10_of_34 rfl (lv_at hl 2 rfl) ?_
      refine z_i (wr := [(x0, .inr (10, [.ref w0, .ref z0, .ref xi, .ref xt, .int x_tl, .ref xq, .int x_lc, .ref rdr, .ref h0, .ref t0, .ref q0, .ref v0, .ref m0])), (w0, .inr (9, [.ref tnodes, .ref tpasses, .ref tjars, .ref torders, .ref tfeasts, .ref tway, .int tws, .int tnow, .int tfm, .int tx]))]) (va_runV (As := [.int p0, .int p1]) (rest := []) ⟨hx, hb, hml, hown, hts⟩ (mX6_get_144 l dC dI kA _ tjars tjarsA 9 tjarsS tjarsF p0 p1) (cwV 2 hts gX10_of_X6_get rfl rfl rfl ⟨rfl, hdX6_get⟩ ⟨(Nat.le_of_ble_eq_true rfl), (Nat.le_of_ble_eq_true rfl)⟩) ⟨zPc.blind, va_recv hK.1 hP (ci := 6) (q0 := 3) rfl rfl, zPre hK (hP.sub [3, 2] rfl) (hD.sub [3, 2] (by decide) rfl)⟩ rfl rfl hl.1 rfl (lv_room (Nat.le_of_ble_eq_true rfl)) dX10_of_35 ⟨(Nat.le_of_ble_eq_true rfl), (Nat.le_of_ble_eq_true rfl)⟩) hP hD hS hA [3, 2] [0, 1] rfl rfl (by decide) (by decide) (fun r11 u9 H locs hw10 hP hD hS => ?_)
      obtain ⟨er14, hp13⟩ := hw10
      have er14 : r11 = u9 := er14
      subst er14
      have er11 : r11 = fX6_get_144 9 tjarsF p0 p1 := hp13
      have hG := zbnd hG er11
      obtain ⟨hP, hD⟩ := z_re (L := [(x0, .inr (10, [.ref w0, .ref z0, .ref xi, .ref xt, .int x_tl, .ref xq, .int x_lc, .ref rdr, .ref h0, .ref t0, .ref q0, .ref v0, .ref m0])), (w0, .inr (9, [.ref tnodes, .ref tpasses, .ref tjars, .ref torders, .ref tfeasts, .ref tway, .int tws, .int tnow, .int tfm, .int tx])), (tjars, .inr (6, [.int 9, .ref tjarsA, .int tjarsS])), (tjarsA, .inl (kA 0, 144, .inl tjarsF))]) hP hD
      obtain ⟨hP9, hD9⟩ := z_sb (L' := [(x0, .inr (10, [.ref w0, .ref z0, .ref xi, .ref xt, .int x_tl, .ref xq, .int x_lc, .ref rdr, .ref h0, .ref t0, .ref q0, .ref v0, .ref m0])), (w0, .inr (9, [.ref tnodes, .ref tpasses, .ref tjars, .ref torders, .ref tfeasts, .ref tway, .int tws, .int tnow, .int tfm, .int tx])), (tjars, .inr (6, [.int 9, .ref tjarsA, .int tjarsS])), (tjarsA, .inl (kA 0, 144, .inl tjarsF))]) hP hD [0, 1, 2, 3] (by decide) rfl
      refine W.widen (k := 0) (n := 0) (Nat.le_of_ble_eq_true rfl) (Nat.le_of_ble_eq_true rfl) ?_
      exact W.iret (v := r11) hx hb hr (fun t ht hW => ⟨⟨r11, (r11), rfl, ⟨rfl, (hG.trans hG0.symm)⟩, by rw [ht]; exact hP9, hD9⟩, hS.F ht⟩) hS.2.2 dX10_of_38
    · have hG := zthen hG c_8
      refine lv_bipush (v := (-2)) hx hb dX10_of_23 (by decide) ?_
      obtain ⟨hP9, hD9⟩ := z_sb (L' := [(x0, .inr (10, [.ref w0, .ref z0, .ref xi, .ref xt, .int x_tl, .ref xq, .int x_lc, .ref rdr, .ref h0, .ref t0, .ref q0, .ref v0, .ref m0])), (w0, .inr (9, [.ref tnodes, .ref tpasses, .ref tjars, .ref torders, .ref tfeasts, .ref tway, .int tws, .int tnow, .int tfm, .int tx])), (tjars, .inr (6, [.int 9, .ref tjarsA, .int tjarsS])), (tjarsA, .inl (kA 0, 144, .inl tjarsF))]) hP hD [0, 1, 3, 2] (by decide) rfl
      refine W.widen (k := 0) (n := 0) (Nat.le_of_ble_eq_true rfl) (Nat.le_of_ble_eq_true rfl) ?_
      exact W.iret (v := (-2)) hx hb hr (fun t ht hW => ⟨⟨(-2), ((-2)), rfl, ⟨rfl, (hG.trans hG0.symm)⟩, by rw [ht]; exact hP9, hD9⟩, hS.F ht⟩) hS.2.2 dX10_of_25
set_option maxRecDepth 100000 in
def fX10_lay (tpassesS : Int32) (tpassesF : Nat → Int32) (twayS : Int32) (twayF : Nat → Int32) (tws : Int32) (p0 : Int32) : Int32 × (Nat → Int32) × Int32 := if tws = (-1) then ((twayS, twayF, (-1))) else (bnd (fX9_wayEnd tpassesS tpassesF twayS twayF tws) (fun (r4 : Int32) => bnd (fX9_otherEnd tpassesS tpassesF p0 r4) (fun (r11 : Int32) => if r11 = (-1) then ((twayS, twayF, (-1))) else (bnd (fX9_wayHas tpassesS tpassesF twayS twayF tws r11) (fun (r19 : Int32) => if r19 = 0 then (bnd (fX6_grow_6 1 twayS) (fun (q33 : Int32 × Int32) => bnd (q33.1) (fun (o29 : Int32) => bnd (q33.2) (fun (r28 : Int32) => if r28 = (-1) then ((o29, twayF, (-1))) else (bnd (fX6_put_6 1 twayF r28 0 p0) (fun (o38 : Nat → Int32) => (o29, o38, (r28 + 1)))))))) else ((twayS, twayF, (-1))))))))
set_option maxHeartbeats 4000000 in
set_option maxRecDepth 100000 in
theorem mX10_lay (l : Launch) (dC : Nat → ClassId) (dI : Nat → Nat → Nat) (kA : Nat → ClassId) (sz : Nat) (x0 : Nat) (z0 : Nat) (xi : Nat) (xt : Nat) (xq : Nat) (rdr : Nat) (h0 : Nat) (t0 : Nat) (q0 : Nat) (v0 : Nat) (m0 : Nat) (w0 : Nat) (x_tl : Int32) (x_lc : Int32) (tnodes : Nat) (tpasses : Nat) (tpassesA : Nat) (tpassesS : Int32) (tpassesF : Nat → Int32) (tjars : Nat) (torders : Nat) (tfeasts : Nat) (tway : Nat) (twayA : Nat) (twayS : Int32) (twayF : Nat → Int32) (tws : Int32) (tnow : Int32) (tfm : Int32) (tx : Int32) (p0 : Int32)  : Met l yX10_lay wsX10_lay ({ frames := 3, cells := 0, slots := 0, locals := 70 }) (zPc dC dI kA sz [.ref x0, .int p0] [(x0, .inr (10, [.ref w0, .ref z0, .ref xi, .ref xt, .int x_tl, .ref xq, .int x_lc, .ref rdr, .ref h0, .ref t0, .ref q0, .ref v0, .ref m0])), (w0, .inr (9, [.ref tnodes, .ref tpasses, .ref tjars, .ref torders, .ref tfeasts, .ref tway, .int tws, .int tnow, .int tfm, .int tx])), (tpasses, .inr (6, [.int 5, .ref tpassesA, .int tpassesS])), (tpassesA, .inl (kA 0, 100, .inl tpassesF)), (tway, .inr (6, [.int 1, .ref twayA, .int twayS])), (twayA, .inl (kA 0, 6, .inl twayF))]) (va_Qi (fun (r : Int32) (u : Int32 × (Nat → Int32) × Int32) => r = u.2.2 ∧ (u.1, u.2.1, u.2.2) = fX10_lay tpassesS tpassesF twayS twayF tws p0) (zB dC dI (va_A [(x0, .inr (10, [.ref w0, .ref z0, .ref xi, .ref xt, .int x_tl, .ref xq, .int x_lc, .ref rdr, .ref h0, .ref t0, .ref q0, .ref v0, .ref m0])), (w0, .inr (9, [.ref tnodes, .ref tpasses, .ref tjars, .ref torders, .ref tfeasts, .ref tway, .int tws, .int tnow, .int tfm, .int tx])), (tpasses, .inr (6, [.int 5, .ref tpassesA, .int tpassesS])), (tpassesA, .inl (kA 0, 100, .inl tpassesF)), (tway, .inr (6, [.int 1, .ref twayA, .int twayS])), (twayA, .inl (kA 0, 6, .inl twayF))] sz) (fun (u : Int32 × (Nat → Int32) × Int32) => [(x0, .inr (10, [.ref w0, .ref z0, .ref xi, .ref xt, .int x_tl, .ref xq, .int x_lc, .ref rdr, .ref h0, .ref t0, .ref q0, .ref v0, .ref m0])), (w0, .inr (9, [.ref tnodes, .ref tpasses, .ref tjars, .ref torders, .ref tfeasts, .ref tway, .int tws, .int tnow, .int tfm, .int tx])), (tpasses, .inr (6, [.int 5, .ref tpassesA, .int tpassesS])), (tpassesA, .inl (kA 0, 100, .inl tpassesF)), (tway, .inr (6, [.int 1, .ref twayA, .int u.1])), (twayA, .inl (kA 0, 6, .inl u.2.1))])) (va_A [(x0, .inr (10, [.ref w0, .ref z0, .ref xi, .ref xt, .int x_tl, .ref xq, .int x_lc, .ref rdr, .ref h0, .ref t0, .ref q0, .ref v0, .ref m0])), (w0, .inr (9, [.ref tnodes, .ref tpasses, .ref tjars, .ref torders, .ref tfeasts, .ref tway, .int tws, .int tnow, .int tfm, .int tx])), (tpasses, .inr (6, [.int 5, .ref tpassesA, .int tpassesS])), (tpassesA, .inl (kA 0, 100, .inl tpassesF)), (tway, .inr (6, [.int 1, .ref twayA, .int twayS])), (twayA, .inl (kA 0, 6, .inl twayF))] sz)) 0 0 (va_A [(x0, .inr (10, [.ref w0, .ref z0, .ref xi, .ref xt, .int x_tl, .ref xq, .int x_lc, .ref rdr, .ref h0, .ref t0, .ref q0, .ref v0, .ref m0])), (w0, .inr (9, [.ref tnodes, .ref tpasses, .ref tjars, .ref torders, .ref tfeasts, .ref tway, .int tws, .int tnow, .int tfm, .int tx])), (tpasses, .inr (6, [.int 5, .ref tpassesA, .int tpassesS])), (tpassesA, .inl (kA 0, 100, .inl tpassesF)), (tway, .inr (6, [.int 1, .ref twayA, .int twayS])), (twayA, .inl (kA 0, 6, .inl twayF))] sz) := by
  refine Met.ofW (cc := cX10_lay) (maxL := 4) (ret := (some .int)) (by decide) rfl ?_
  intro p e s m args below meth c s₁ B hml hv
  obtain ⟨rfl, hsz, hP, hK, hD0⟩ := hv
  have hx := B.exec
  have hb := B.bytes
  have hr := B.returns
  have hts := atoms_spec (ws := wsX10_lay) B.pre
  have hown : s.vm.findClass RX10 = some m.cls := findClass_of_methodNamed B.named
  have hlocks := B.notSynchronized
  subst hsz
  have hD := hD0.self (sz := s.heap.size)
  generalize hAe : va_A [(x0, .inr (10, [.ref w0, .ref z0, .ref xi, .ref xt, .int x_tl, .ref xq, .int x_lc, .ref rdr, .ref h0, .ref t0, .ref q0, .ref v0, .ref m0])), (w0, .inr (9, [.ref tnodes, .ref tpasses, .ref tjars, .ref torders, .ref tfeasts, .ref tway, .int tws, .int tnow, .int tfm, .int tx])), (tpasses, .inr (6, [.int 5, .ref tpassesA, .int tpassesS])), (tpassesA, .inl (kA 0, 100, .inl tpassesF)), (tway, .inr (6, [.int 1, .ref twayA, .int twayS])), (twayA, .inl (kA 0, 6, .inl twayF))] s.heap.size = A at hD ⊢
  have hA : ∀ q : Nat, s.heap.size ≤ q → A q := fun q h => by rw [← hAe]; exact Or.inr h
  have hS : va_S A s.heap s.heap [] := va_S.rf
  have hP : va_P (dC, dI) vwCl [(x0, .inr (10, [.ref w0, .ref z0, .ref xi, .ref xt, .int x_tl, .ref xq, .int x_lc, .ref rdr, .ref h0, .ref t0, .ref q0, .ref v0, .ref m0])), (w0, .inr (9, [.ref tnodes, .ref tpasses, .ref tjars, .ref torders, .ref tfeasts, .ref tway, .int tws, .int tnow, .int tfm, .int tx])), (tpasses, .inr (6, [.int 5, .ref tpassesA, .int tpassesS])), (tpassesA, .inl (kA 0, 100, .inl tpassesF)), (tway, .inr (6, [.int 1, .ref twayA, .int twayS])), (twayA, .inl (kA 0, 6, .inl twayF))] s.heap := hP
  have hl := lv_entry ([.ref x0, .int p0]) (n := 4) (Nat.le_of_ble_eq_true rfl)
  rw [lg_entry_eq]
  generalize (lg_sl ([.ref x0, .int p0]) ++ List.replicate (4 - (lg_sl ([.ref x0, .int p0])).length) Slot.unset).toArray = ls at hl ⊢
  have hl : lv_has ls 4 [(0, .ref x0), (1, .int p0)] := hl
  obtain ⟨G, hG0⟩ : ∃ G : Int32 × (Nat → Int32) × Int32, fX10_lay tpassesS tpassesF twayS twayF tws p0 = G := ⟨_, rfl⟩
  have hG := hG0
  unfold fX10_lay at hG
  refine lv_aload_n hx hb dX10_lay_0 rfl (lv_at hl 0 rfl) ?_
  refine va_get (D := (dC, dI)) (ci := 10) (v := .ref w0) (C := RX10) (T := TX10) (N := 13) hx hb hts iX10_lay_X10 hown hK.1 hP 0 rfl rfl 0 (by decide) (kX10_lay_1 hts) (fun _ h9 => h9) rfl dX10_lay_1 ?_
  refine va_get (D := (dC, dI)) (ci := 9) (v := .int tws) (C := RX9) (T := TX9) (N := 10) hx hb hts iX10_lay_X9 hown hK.1 hP 1 rfl rfl 6 (by decide) (kX10_lay_2 hts) (fun _ h9 => h9) rfl dX10_lay_4 ?_
  refine lv_iconst (v := (-1)) hx hb dX10_lay_7 (by decide) ?_
  refine lv_icmp_ne (tgt := 15) hx hb dX10_lay_8 (by decide) (fun c_1 => ?_) (fun c_1 => ?_)
  · have hG := zelse hG c_1
    refine lv_aload_n hx hb dX10_lay_15 rfl (lv_at hl 0 rfl) ?_
    refine va_get (D := (dC, dI)) (ci := 10) (v := .ref w0) (C := RX10) (T := TX10) (N := 13) hx hb hts iX10_lay_X10 hown hK.1 hP 0 rfl rfl 0 (by decide) (kX10_lay_1 hts) (fun _ h9 => h9) rfl dX10_lay_16 ?_
    refine lv_iload_n hx hb dX10_lay_19 rfl (lv_at hl 1 rfl) ?_
    refine lv_aload_n hx hb dX10_lay_20 rfl (lv_at hl 0 rfl) ?_
    refine va_get (D := (dC, dI)) (ci := 10) (v := .ref w0) (C := RX10) (T := TX10) (N := 13) hx hb hts iX10_lay_X10 hown hK.1 hP 0 rfl rfl 0 (by decide) (kX10_lay_1 hts) (fun _ h9 => h9) rfl dX10_lay_21 ?_
    refine z_i (wr := [(x0, .inr (10, [.ref w0, .ref z0, .ref xi, .ref xt, .int x_tl, .ref xq, .int x_lc, .ref rdr, .ref h0, .ref t0, .ref q0, .ref v0, .ref m0]))]) (va_runV (As := []) (rest := [.int p0, .ref w0]) ⟨hx, hb, hml, hown, hts⟩ (mX9_wayEnd l dC dI kA _ w0 tnodes tpasses tpassesA tpassesS tpassesF tjars torders tfeasts tway twayA twayS twayF tws tnow tfm tx) (cwV 0 hts gX10_lay_X9_wayEnd rfl rfl rfl ⟨rfl, hdX9_wayEnd⟩ ⟨(Nat.le_of_ble_eq_true rfl), (Nat.le_of_ble_eq_true rfl)⟩) ⟨zPc.blind, va_recv hK.1 hP (ci := 9) (q0 := 1) rfl rfl, zPre hK (hP.sub [1, 2, 3, 4, 5] rfl) (hD.sub [1, 2, 3, 4, 5] (by decide) rfl)⟩ rfl rfl hl.1 rfl (lv_room (Nat.le_of_ble_eq_true rfl)) dX10_lay_24 ⟨(Nat.le_of_ble_eq_true rfl), (Nat.le_of_ble_eq_true rfl)⟩) hP hD hS hA [1, 2, 3, 4, 5] [0] rfl rfl (by decide) (by decide) (fun r4 u2 H locs hw3 hP hD hS => ?_)
    obtain ⟨er7, hp6⟩ := hw3
    have er7 : r4 = u2 := er7
    subst er7
    have er4 : r4 = fX9_wayEnd tpassesS tpassesF twayS twayF tws := hp6
    have hG := zbnd hG er4
    obtain ⟨hP, hD⟩ := z_re (L := [(x0, .inr (10, [.ref w0, .ref z0, .ref xi, .ref xt, .int x_tl, .ref xq, .int x_lc, .ref rdr, .ref h0, .ref t0, .ref q0, .ref v0, .ref m0])), (w0, .inr (9, [.ref tnodes, .ref tpasses, .ref tjars, .ref torders, .ref tfeasts, .ref tway, .int tws, .int tnow, .int tfm, .int tx])), (tpasses, .inr (6, [.int 5, .ref tpassesA, .int tpassesS])), (tpassesA, .inl (kA 0, 100, .inl tpassesF)), (tway, .inr (6, [.int 1, .ref twayA, .int twayS])), (twayA, .inl (kA 0, 6, .inl twayF))]) hP hD
    refine z_i (wr := [(x0, .inr (10, [.ref w0, .ref z0, .ref xi, .ref xt, .int x_tl, .ref xq, .int x_lc, .ref rdr, .ref h0, .ref t0, .ref q0, .ref v0, .ref m0])), (tway, .inr (6, [.int 1, .ref twayA, .int twayS])), (twayA, .inl (kA 0, 6, .inl twayF))]) (va_runV (As := [.int p0, .int r4]) (rest := []) ⟨hx, hb, hml, hown, hts⟩ (mX9_otherEnd l dC dI kA _ w0 tnodes tpasses tpassesA tpassesS tpassesF tjars torders tfeasts tway tws tnow tfm tx p0 r4) (cwV 2 hts gX10_lay_X9_otherEnd rfl rfl rfl ⟨rfl, hdX9_otherEnd⟩ ⟨(Nat.le_of_ble_eq_true rfl), (Nat.le_of_ble_eq_true rfl)⟩) ⟨zPc.blind, va_recv hK.1 hP (ci := 9) (q0 := 1) rfl rfl, zPre hK (hP.sub [1, 2, 3] rfl) (hD.sub [1, 2, 3] (by decide) rfl)⟩ rfl rfl hl.1 rfl (lv_room (Nat.le_of_ble_eq_true rfl)) dX10_lay_27 ⟨(Nat.le_of_ble_eq_true rfl), (Nat.le_of_ble_eq_true rfl)⟩) hP hD hS hA [1, 2, 3] [0, 4, 5] rfl rfl (by decide) (by decide) (fun r11 u9 H locs hw10 hP hD hS => ?_)
    obtain ⟨er14, hp13⟩ := hw10
    have er14 : r11 = u9 := er14
    subst er14
    have er11 : r11 = fX9_otherEnd tpassesS tpassesF p0 r4 := hp13
    have hG := zbnd hG er11
    obtain ⟨hP, hD⟩ := z_re (L := [(x0, .inr (10, [.ref w0, .ref z0, .ref xi, .ref xt, .int x_tl, .ref xq, .int x_lc, .ref rdr, .ref h0, .ref t0, .ref q0, .ref v0, .ref m0])), (tway, .inr (6, [.int 1, .ref twayA, .int twayS])), (twayA, .inl (kA 0, 6, .inl twayF)), (w0, .inr (9, [.ref tnodes, .ref tpasses, .ref tjars, .ref torders, .ref tfeasts, .ref tway, .int tws, .int tnow, .int tfm, .int tx])), (tpasses, .inr (6, [.int 5, .ref tpassesA, .int tpassesS])), (tpassesA, .inl (kA 0, 100, .inl tpassesF))]) hP hD
    refine lv_istore_n (lv' := [(2, .int r11), (0, .ref x0), (1, .int p0)]) hx hb dX10_lay_30 rfl hl (by decide) rfl (fun ls hl => ?_)
    refine lv_iload_n hx hb dX10_lay_31 rfl (lv_at hl 0 rfl) ?_
    refine lv_iconst (v := (-1)) hx hb dX10_lay_32 (by decide) ?_
    refine lv_icmp_eq (tgt := 47) hx hb dX10_lay_33 (by decide) (fun c_16 => ?_) (fun c_16 => ?_)
    · have hG := zthen hG c_16
      refine lv_iconst (v := (-1)) hx hb dX10_lay_47 (by decide) ?_
      obtain ⟨hP9, hD9⟩ := z_sb (L' := [(x0, .inr (10, [.ref w0, .ref z0, .ref xi, .ref xt, .int x_tl, .ref xq, .int x_lc, .ref rdr, .ref h0, .ref t0, .ref q0, .ref v0, .ref m0])), (w0, .inr (9, [.ref tnodes, .ref tpasses, .ref tjars, .ref torders, .ref tfeasts, .ref tway, .int tws, .int tnow, .int tfm, .int tx])), (tpasses, .inr (6, [.int 5, .ref tpassesA, .int tpassesS])), (tpassesA, .inl (kA 0, 100, .inl tpassesF)), (tway, .inr (6, [.int 1, .ref twayA, .int twayS])), (twayA, .inl (kA 0, 6, .inl twayF))]) hP hD [0, 3, 4, 5, 1, 2] (by decide) rfl
      refine W.widen (k := 0) (n := 0) (Nat.le_of_ble_eq_true rfl) (Nat.le_of_ble_eq_true rfl) ?_
      exact W.iret (v := (-1)) hx hb hr (fun t ht hW => ⟨⟨(-1), (twayS, twayF, (-1)), rfl, ⟨rfl, (hG.trans hG0.symm)⟩, by rw [ht]; exact hP9, hD9⟩, hS.F ht⟩) hS.2.2 dX10_lay_48
    · have hG := zelse hG c_16
      refine lv_aload_n hx hb dX10_lay_36 rfl (lv_at hl 1 rfl) ?_
      refine va_get (D := (dC, dI)) (ci := 10) (v := .ref w0) (C := RX10) (T := TX10) (N := 13) hx hb hts iX10_lay_X10 hown hK.1 hP 0 rfl rfl 0 (by decide) (kX10_lay_1 hts) (fun _ h9 => h9) rfl dX10_lay_37 ?_
      refine lv_iload_n hx hb dX10_lay_40 rfl (lv_at hl 0 rfl) ?_
      refine z_i (wr := [(x0, .inr (10, [.ref w0, .ref z0, .ref xi, .ref xt, .int x_tl, .ref xq, .int x_lc, .ref rdr, .ref h0, .ref t0, .ref q0, .ref v0, .ref m0]))]) (va_runV (As := [.int r11]) (rest := []) ⟨hx, hb, hml, hown, hts⟩ (mX9_wayHas l dC dI kA _ w0 tnodes tpasses tpassesA tpassesS tpassesF tjars torders tfeasts tway twayA twayS twayF tws tnow tfm tx r11) (cwV 1 hts gX10_lay_X9_wayHas rfl rfl rfl ⟨rfl, hdX9_wayHas⟩ ⟨(Nat.le_of_ble_eq_true rfl), (Nat.le_of_ble_eq_true rfl)⟩) ⟨zPc.blind, va_recv hK.1 hP (ci := 9) (q0 := 3) rfl rfl, zPre hK (hP.sub [3, 4, 5, 1, 2] rfl) (hD.sub [3, 4, 5, 1, 2] (by decide) rfl)⟩ rfl rfl hl.1 rfl (lv_room (Nat.le_of_ble_eq_true rfl)) dX10_lay_41 ⟨(Nat.le_of_ble_eq_true rfl), (Nat.le_of_ble_eq_true rfl)⟩) hP hD hS hA [3, 4, 5, 1, 2] [0] rfl rfl (by decide) (by decide) (fun r19 u17 H locs hw18 hP hD hS => ?_)
      obtain ⟨er23, hp21, hp22⟩ := hw18
      have er23 : r19 = u17 := er23
      subst er23
      have er19 : r19 = fX9_wayHas tpassesS tpassesF twayS twayF tws r11 := hp21
      have hG := zbnd hG er19
      obtain ⟨hP, hD⟩ := z_re (L := [(x0, .inr (10, [.ref w0, .ref z0, .ref xi, .ref xt, .int x_tl, .ref xq, .int x_lc, .ref rdr, .ref h0, .ref t0, .ref q0, .ref v0, .ref m0])), (w0, .inr (9, [.ref tnodes, .ref tpasses, .ref tjars, .ref torders, .ref tfeasts, .ref tway, .int tws, .int tnow, .int tfm, .int tx])), (tpasses, .inr (6, [.int 5, .ref tpassesA, .int tpassesS])), (tpassesA, .inl (kA 0, 100, .inl tpassesF)), (tway, .inr (6, [.int 1, .ref twayA, .int twayS])), (twayA, .inl (kA 0, 6, .inl twayF))]) hP hD
      refine lv_if_eq (tgt := 49) hx hb dX10_lay_44 (by decide) (fun c_25 => ?_) (fun c_25 => ?_)
      · have hG := zthen hG c_25
        refine lv_aload_n hx hb dX10_lay_49 rfl (lv_at hl 1 rfl) ?_
        refine va_get (D := (dC, dI)) (ci := 10) (v := .ref w0) (C := RX10) (T := TX10) (N := 13) hx hb hts iX10_lay_X10 hown hK.1 hP 0 rfl rfl 0 (by decide) (kX10_lay_1 hts) (fun _ h9 => h9) rfl dX10_lay_50 ?_
        refine va_get (D := (dC, dI)) (ci := 9) (v := .ref tway) (C := RX9) (T := TX9) (N := 10) hx hb hts iX10_lay_X9 hown hK.1 hP 1 rfl rfl 5 (by decide) (kX10_lay_3 hts) (fun _ h9 => h9) rfl dX10_lay_53 ?_
        refine z_i (wr := [(x0, .inr (10, [.ref w0, .ref z0, .ref xi, .ref xt, .int x_tl, .ref xq, .int x_lc, .ref rdr, .ref h0, .ref t0, .ref q0, .ref v0, .ref m0])), (w0, .inr (9, [.ref tnodes, .ref tpasses, .ref tjars, .ref torders, .ref tfeasts, .ref tway, .int tws, .int tnow, .int tfm, .int tx])), (tpasses, .inr (6, [.int 5, .ref tpassesA, .int tpassesS])), (tpassesA, .inl (kA 0, 100, .inl tpassesF))]) (va_runV (As := []) (rest := []) ⟨hx, hb, hml, hown, hts⟩ (mX6_grow_6 l dC dI kA _ tway twayA 1 twayS twayF) (cwV 0 hts gX10_lay_X6_grow rfl rfl rfl ⟨rfl, hdX6_grow⟩ ⟨(Nat.le_of_ble_eq_true rfl), (Nat.le_of_ble_eq_true rfl)⟩) ⟨zPc.blind, va_recv hK.1 hP (ci := 6) (q0 := 4) rfl rfl, zPre hK (hP.sub [4, 5] rfl) (hD.sub [4, 5] (by decide) rfl)⟩ rfl rfl hl.1 rfl (lv_room (Nat.le_of_ble_eq_true rfl)) dX10_lay_56 ⟨(Nat.le_of_ble_eq_true rfl), (Nat.le_of_ble_eq_true rfl)⟩) hP hD hS hA [4, 5] [0, 1, 2, 3] rfl rfl (by decide) (by decide) (fun r28 u26 H locs hw27 hP hD hS => ?_)
        obtain ⟨o29, r30⟩ := u26
        obtain ⟨er32, hp31⟩ := hw27
        have er32 : r28 = r30 := er32
        subst er32
        obtain ⟨q33, eq33⟩ : ∃ y : Int32 × Int32, y = fX6_grow_6 1 twayS := ⟨_, rfl⟩
        have hG := zbnd hG eq33
        have eo29 : o29 = q33.1 := by rw [eq33]; exact congrArg (fun z : Int32 × Int32 => z.1) hp31
        have hG := zbnd hG eo29
        have er28 : r28 = q33.2 := by rw [eq33]; exact congrArg (fun z : Int32 × Int32 => z.2) hp31
        have hG := zbnd hG er28
        obtain ⟨hP, hD⟩ := z_re (L := [(x0, .inr (10, [.ref w0, .ref z0, .ref xi, .ref xt, .int x_tl, .ref xq, .int x_lc, .ref rdr, .ref h0, .ref t0, .ref q0, .ref v0, .ref m0])), (w0, .inr (9, [.ref tnodes, .ref tpasses, .ref tjars, .ref torders, .ref tfeasts, .ref tway, .int tws, .int tnow, .int tfm, .int tx])), (tpasses, .inr (6, [.int 5, .ref tpassesA, .int tpassesS])), (tpassesA, .inl (kA 0, 100, .inl tpassesF)), (tway, .inr (6, [.int 1, .ref twayA, .int o29])), (twayA, .inl (kA 0, 6, .inl twayF))]) hP hD
        refine lv_istore_n (lv' := [(3, .int r28), (2, .int r11), (0, .ref x0), (1, .int p0)]) hx hb dX10_lay_59 rfl hl (by decide) rfl (fun ls hl => ?_)
        refine lv_iload_n hx hb dX10_lay_60 rfl (lv_at hl 0 rfl) ?_
        refine lv_iconst (v := (-1)) hx hb dX10_lay_61 (by decide) ?_
        refine lv_icmp_ne (tgt := 67) hx hb dX10_lay_62 (by decide) (fun c_34 => ?_) (fun c_34 => ?_)
        · have hG := zelse hG c_34
          refine lv_aload_n hx hb dX10_lay_67 rfl (lv_at hl 2 rfl) ?_
          refine va_get (D := (dC, dI)) (ci := 10) (v := .ref w0) (C := RX10) (T := TX10) (N := 13) hx hb hts iX10_lay_X10 hown hK.1 hP 0 rfl rfl 0 (by decide) (kX10_lay_1 hts) (fun _ h9 => h9) rfl dX10_lay_68 ?_
          refine va_get (D := (dC, dI)) (ci := 9) (v := .ref tway) (C := RX9) (T := TX9) (N := 10) hx hb hts iX10_lay_X9 hown hK.1 hP 1 rfl rfl 5 (by decide) (kX10_lay_3 hts) (fun _ h9 => h9) rfl dX10_lay_71 ?_
          refine lv_iload_n hx hb dX10_lay_74 rfl (lv_at hl 0 rfl) ?_
          refine lv_iconst (v := 0) hx hb dX10_lay_75 (by decide) ?_
          refine lv_iload_n hx hb dX10_lay_76 rfl (lv_at hl 3 rfl) ?_
          refine z_v (wr := [(x0, .inr (10, [.ref w0, .ref z0, .ref xi, .ref xt, .int x_tl, .ref xq, .int x_lc, .ref rdr, .ref h0, .ref t0, .ref q0, .ref v0, .ref m0])), (w0, .inr (9, [.ref tnodes, .ref tpasses, .ref tjars, .ref torders, .ref tfeasts, .ref tway, .int tws, .int tnow, .int tfm, .int tx])), (tpasses, .inr (6, [.int 5, .ref tpassesA, .int tpassesS])), (tpassesA, .inl (kA 0, 100, .inl tpassesF))]) (va_runV (As := [.int r28, .int 0, .int p0]) (rest := []) ⟨hx, hb, hml, hown, hts⟩ (mX6_put_6 l dC dI kA _ tway twayA 1 o29 twayF r28 0 p0) (cwV 3 hts gX10_lay_X6_put rfl rfl rfl ⟨rfl, hdX6_put⟩ ⟨(Nat.le_of_ble_eq_true rfl), (Nat.le_of_ble_eq_true rfl)⟩) ⟨zPc.blind, va_recv hK.1 hP (ci := 6) (q0 := 4) rfl rfl, zPre hK (hP.sub [4, 5] rfl) (hD.sub [4, 5] (by decide) rfl)⟩ rfl rfl hl.1 rfl (lv_room (Nat.le_of_ble_eq_true rfl)) dX10_lay_77 ⟨(Nat.le_of_ble_eq_true rfl), (Nat.le_of_ble_eq_true rfl)⟩) hP hD hS hA [4, 5] [0, 1, 2, 3] rfl rfl (by decide) (by decide) (fun u35 H locs hw36 hP hD hS => ?_)
          obtain ⟨o38, rfl⟩ : ∃ z, z = u35 := ⟨_, rfl⟩
          have hp39 := hw36
          have eo38 : o38 = fX6_put_6 1 twayF r28 0 p0 := hp39
          have hG := zbnd hG eo38
          obtain ⟨hP, hD⟩ := z_re (L := [(x0, .inr (10, [.ref w0, .ref z0, .ref xi, .ref xt, .int x_tl, .ref xq, .int x_lc, .ref rdr, .ref h0, .ref t0, .ref q0, .ref v0, .ref m0])), (w0, .inr (9, [.ref tnodes, .ref tpasses, .ref tjars, .ref torders, .ref tfeasts, .ref tway, .int tws, .int tnow, .int tfm, .int tx])), (tpasses, .inr (6, [.int 5, .ref tpassesA, .int tpassesS])), (tpassesA, .inl (kA 0, 100, .inl tpassesF)), (tway, .inr (6, [.int 1, .ref twayA, .int o29])), (twayA, .inl (kA 0, 6, .inl o38))]) hP hD
          refine lv_iload_n hx hb dX10_lay_80 rfl (lv_at hl 0 rfl) ?_
          refine lv_iconst (v := 1) hx hb dX10_lay_81 (by decide) ?_
          refine lv_iadd hx hb dX10_lay_82 ?_
          obtain ⟨hP9, hD9⟩ := z_sb (L' := [(x0, .inr (10, [.ref w0, .ref z0, .ref xi, .ref xt, .int x_tl, .ref xq, .int x_lc, .ref rdr, .ref h0, .ref t0, .ref q0, .ref v0, .ref m0])), (w0, .inr (9, [.ref tnodes, .ref tpasses, .ref tjars, .ref torders, .ref tfeasts, .ref tway, .int tws, .int tnow, .int tfm, .int tx])), (tpasses, .inr (6, [.int 5, .ref tpassesA, .int tpassesS])), (tpassesA, .inl (kA 0, 100, .inl tpassesF)), (tway, .inr (6, [.int 1, .ref twayA, .int o29])), (twayA, .inl (kA 0, 6, .inl o38))]) hP hD [0, 1, 2, 3, 4, 5] (by decide) rfl
          refine W.widen (k := 0) (n := 0) (Nat.le_of_ble_eq_true rfl) (Nat.le_of_ble_eq_true rfl) ?_
          exact W.iret (v := (r28 + 1)) hx hb hr (fun t ht hW => ⟨⟨(r28 + 1), (o29, o38, (r28 + 1)), rfl, ⟨rfl, (hG.trans hG0.symm)⟩, by rw [ht]; exact hP9, hD9⟩, hS.F ht⟩) hS.2.2 dX10_lay_83
        · have hG := zthen hG c_34
          refine lv_iconst (v := (-1)) hx hb dX10_lay_65 (by decide) ?_
          obtain ⟨hP9, hD9⟩ := z_sb (L' := [(x0, .inr (10, [.ref w0, .ref z0, .ref xi, .ref xt, .int x_tl, .ref xq, .int x_lc, .ref rdr, .ref h0, .ref t0, .ref q0, .ref v0, .ref m0])), (w0, .inr (9, [.ref tnodes, .ref tpasses, .ref tjars, .ref torders, .ref tfeasts, .ref tway, .int tws, .int tnow, .int tfm, .int tx])), (tpasses, .inr (6, [.int 5, .ref tpassesA, .int tpassesS])), (tpassesA, .inl (kA 0, 100, .inl tpassesF)), (tway, .inr (6, [.int 1, .ref twayA, .int o29])), (twayA, .inl (kA 0, 6, .inl twayF))]) hP hD [0, 1, 2, 3, 4, 5] (by decide) rfl
          refine W.widen (k := 0) (n := 0) (Nat.le_of_ble_eq_true rfl) (Nat.le_of_ble_eq_true rfl) ?_
          exact W.iret (v := (-1)) hx hb hr (fun t ht hW => ⟨⟨(-1), (o29, twayF, (-1)), rfl, ⟨rfl, (hG.trans hG0.symm)⟩, by rw [ht]; exact hP9, hD9⟩, hS.F ht⟩) hS.2.2 dX10_lay_66
      · have hG := zelse hG c_25
        refine lv_iconst (v := (-1)) hx hb dX10_lay_47 (by decide) ?_
        obtain ⟨hP9, hD9⟩ := z_sb (L' := [(x0, .inr (10, [.ref w0, .ref z0, .ref xi, .ref xt, .int x_tl, .ref xq, .int x_lc, .ref rdr, .ref h0, .ref t0, .ref q0, .ref v0, .ref m0])), (w0, .inr (9, [.ref tnodes, .ref tpasses, .ref tjars, .ref torders, .ref tfeasts, .ref tway, .int tws, .int tnow, .int tfm, .int tx])), (tpasses, .inr (6, [.int 5, .ref tpassesA, .int tpassesS])), (tpassesA, .inl (kA 0, 100, .inl tpassesF)), (tway, .inr (6, [.int 1, .ref twayA, .int twayS])), (twayA, .inl (kA 0, 6, .inl twayF))]) hP hD [0, 1, 2, 3, 4, 5] (by decide) rfl
        refine W.widen (k := 0) (n := 0) (Nat.le_of_ble_eq_true rfl) (Nat.le_of_ble_eq_true rfl) ?_
        exact W.iret (v := (-1)) hx hb hr (fun t ht hW => ⟨⟨(-1), (twayS, twayF, (-1)), rfl, ⟨rfl, (hG.trans hG0.symm)⟩, by rw [ht]; exact hP9, hD9⟩, hS.F ht⟩) hS.2.2 dX10_lay_48
  · have hG := zthen hG c_1
    refine lv_iconst (v := (-1)) hx hb dX10_lay_11 (by decide) ?_
    refine lv_goto (tgt := 30) hx hb dX10_lay_12 (by decide) ?_
    refine lv_istore_n (lv' := [(2, .int (-1)), (0, .ref x0), (1, .int p0)]) hx hb dX10_lay_30 rfl hl (by decide) rfl (fun ls hl => ?_)
    refine lv_iload_n hx hb dX10_lay_31 rfl (lv_at hl 0 rfl) ?_
    refine lv_iconst (v := (-1)) hx hb dX10_lay_32 (by decide) ?_
    refine lv_icmp_eq (tgt := 47) hx hb dX10_lay_33 (by decide) (fun _ => ?_) (fun c_41 => absurd (by decide) c_41)
    refine lv_iconst (v := (-1)) hx hb dX10_lay_47 (by decide) ?_
    obtain ⟨hP9, hD9⟩ := z_sb (L' := [(x0, .inr (10, [.ref w0, .ref z0, .ref xi, .ref xt, .int x_tl, .ref xq, .int x_lc, .ref rdr, .ref h0, .ref t0, .ref q0, .ref v0, .ref m0])), (w0, .inr (9, [.ref tnodes, .ref tpasses, .ref tjars, .ref torders, .ref tfeasts, .ref tway, .int tws, .int tnow, .int tfm, .int tx])), (tpasses, .inr (6, [.int 5, .ref tpassesA, .int tpassesS])), (tpassesA, .inl (kA 0, 100, .inl tpassesF)), (tway, .inr (6, [.int 1, .ref twayA, .int twayS])), (twayA, .inl (kA 0, 6, .inl twayF))]) hP hD [0, 1, 2, 3, 4, 5] (by decide) rfl
    refine W.widen (k := 0) (n := 0) (Nat.le_of_ble_eq_true rfl) (Nat.le_of_ble_eq_true rfl) ?_
    exact W.iret (v := (-1)) hx hb hr (fun t ht hW => ⟨⟨(-1), (twayS, twayF, (-1)), rfl, ⟨rfl, (hG.trans hG0.symm)⟩, by rw [ht]; exact hP9, hD9⟩, hS.F ht⟩) hS.2.2 dX10_lay_48
set_option maxRecDepth 100000 in
def fX10_soonest (tnodesS : Int32) (tpassesS : Int32) (tpassesF : Nat → Int32) (qfF : Nat → Int32) (p0 : Int32) (p1 : Int32) : (Nat → Int32) × Int32 := if (hs p0 tnodesS) = 0 then ((qfF, (-1))) else (if (hs p1 tnodesS) = 0 then ((qfF, (-1))) else (bnd (fX5_measure qfF tpassesS tpassesF p0 (-1) 1) (fun (o12 : Nat → Int32) => bnd (fX5_farTo o12 p1) (fun (r17 : Int32) => if 1000000 ≤ r17 then ((o12, (-2))) else ((o12, r17))))))
set_option maxHeartbeats 4000000 in
set_option maxRecDepth 100000 in
theorem mX10_soonest (l : Launch) (dC : Nat → ClassId) (dI : Nat → Nat → Nat) (kA : Nat → ClassId) (sz : Nat) (x0 : Nat) (z0 : Nat) (xi : Nat) (xt : Nat) (xq : Nat) (rdr : Nat) (h0 : Nat) (t0 : Nat) (q0 : Nat) (v0 : Nat) (m0 : Nat) (w0 : Nat) (x_tl : Int32) (x_lc : Int32) (tnodes : Nat) (tnodesA : Nat) (tnodesS : Int32) (tpasses : Nat) (tpassesA : Nat) (tpassesS : Int32) (tpassesF : Nat → Int32) (tjars : Nat) (torders : Nat) (tfeasts : Nat) (tway : Nat) (tws : Int32) (tnow : Int32) (tfm : Int32) (tx : Int32) (q_left : Int32) (q_leaving : Int32) (q_length : Int32) (q_target : Int32) (q_barred : Int32) (q_latest : Int32) (q_waited : Int32) (q_any : Int32) (qf : Nat) (qr : Nat) (qb : Nat) (qfF : Nat → Int32) (p0 : Int32) (p1 : Int32)  : Met l yX10_soonest wsX10_soonest ({ frames := 4, cells := 0, slots := 0, locals := 94 }) (zPc dC dI kA sz [.ref x0, .int p0, .int p1] [(x0, .inr (10, [.ref w0, .ref z0, .ref xi, .ref xt, .int x_tl, .ref xq, .int x_lc, .ref rdr, .ref h0, .ref t0, .ref q0, .ref v0, .ref m0])), (w0, .inr (9, [.ref tnodes, .ref tpasses, .ref tjars, .ref torders, .ref tfeasts, .ref tway, .int tws, .int tnow, .int tfm, .int tx])), (tnodes, .inr (6, [.int 4, .ref tnodesA, .int tnodesS])), (tpasses, .inr (6, [.int 5, .ref tpassesA, .int tpassesS])), (tpassesA, .inl (kA 0, 100, .inl tpassesF)), (q0, .inr (5, [.int q_left, .int q_leaving, .int q_length, .int q_target, .int q_barred, .int q_latest, .int q_waited, .int q_any, .ref qf, .ref qr, .ref qb, .ref w0, .ref t0])), (qf, .inl (kA 0, 12, .inl qfF))]) (va_Qi (fun (r : Int32) (u : (Nat → Int32) × Int32) => r = u.2 ∧ (u.1, u.2) = fX10_soonest tnodesS tpassesS tpassesF qfF p0 p1) (zB dC dI (va_A [(x0, .inr (10, [.ref w0, .ref z0, .ref xi, .ref xt, .int x_tl, .ref xq, .int x_lc, .ref rdr, .ref h0, .ref t0, .ref q0, .ref v0, .ref m0])), (w0, .inr (9, [.ref tnodes, .ref tpasses, .ref tjars, .ref torders, .ref tfeasts, .ref tway, .int tws, .int tnow, .int tfm, .int tx])), (tnodes, .inr (6, [.int 4, .ref tnodesA, .int tnodesS])), (tpasses, .inr (6, [.int 5, .ref tpassesA, .int tpassesS])), (tpassesA, .inl (kA 0, 100, .inl tpassesF)), (q0, .inr (5, [.int q_left, .int q_leaving, .int q_length, .int q_target, .int q_barred, .int q_latest, .int q_waited, .int q_any, .ref qf, .ref qr, .ref qb, .ref w0, .ref t0])), (qf, .inl (kA 0, 12, .inl qfF))] sz) (fun (u : (Nat → Int32) × Int32) => [(x0, .inr (10, [.ref w0, .ref z0, .ref xi, .ref xt, .int x_tl, .ref xq, .int x_lc, .ref rdr, .ref h0, .ref t0, .ref q0, .ref v0, .ref m0])), (w0, .inr (9, [.ref tnodes, .ref tpasses, .ref tjars, .ref torders, .ref tfeasts, .ref tway, .int tws, .int tnow, .int tfm, .int tx])), (tnodes, .inr (6, [.int 4, .ref tnodesA, .int tnodesS])), (tpasses, .inr (6, [.int 5, .ref tpassesA, .int tpassesS])), (tpassesA, .inl (kA 0, 100, .inl tpassesF)), (q0, .inr (5, [.int q_left, .int q_leaving, .int q_length, .int q_target, .int q_barred, .int q_latest, .int q_waited, .int q_any, .ref qf, .ref qr, .ref qb, .ref w0, .ref t0])), (qf, .inl (kA 0, 12, .inl u.1))])) (va_A [(x0, .inr (10, [.ref w0, .ref z0, .ref xi, .ref xt, .int x_tl, .ref xq, .int x_lc, .ref rdr, .ref h0, .ref t0, .ref q0, .ref v0, .ref m0])), (w0, .inr (9, [.ref tnodes, .ref tpasses, .ref tjars, .ref torders, .ref tfeasts, .ref tway, .int tws, .int tnow, .int tfm, .int tx])), (tnodes, .inr (6, [.int 4, .ref tnodesA, .int tnodesS])), (tpasses, .inr (6, [.int 5, .ref tpassesA, .int tpassesS])), (tpassesA, .inl (kA 0, 100, .inl tpassesF)), (q0, .inr (5, [.int q_left, .int q_leaving, .int q_length, .int q_target, .int q_barred, .int q_latest, .int q_waited, .int q_any, .ref qf, .ref qr, .ref qb, .ref w0, .ref t0])), (qf, .inl (kA 0, 12, .inl qfF))] sz)) 0 0 (va_A [(x0, .inr (10, [.ref w0, .ref z0, .ref xi, .ref xt, .int x_tl, .ref xq, .int x_lc, .ref rdr, .ref h0, .ref t0, .ref q0, .ref v0, .ref m0])), (w0, .inr (9, [.ref tnodes, .ref tpasses, .ref tjars, .ref torders, .ref tfeasts, .ref tway, .int tws, .int tnow, .int tfm, .int tx])), (tnodes, .inr (6, [.int 4, .ref tnodesA, .int tnodesS])), (tpasses, .inr (6, [.int 5, .ref tpassesA, .int tpassesS])), (tpassesA, .inl (kA 0, 100, .inl tpassesF)), (q0, .inr (5, [.int q_left, .int q_leaving, .int q_length, .int q_target, .int q_barred, .int q_latest, .int q_waited, .int q_any, .ref qf, .ref qr, .ref qb, .ref w0, .ref t0])), (qf, .inl (kA 0, 12, .inl qfF))] sz) := by
  refine Met.ofW (cc := cX10_soonest) (maxL := 4) (ret := (some .int)) (by decide) rfl ?_
  intro p e s m args below meth c s₁ B hml hv
  obtain ⟨rfl, hsz, hP, hK, hD0⟩ := hv
  have hx := B.exec
  have hb := B.bytes
  have hr := B.returns
  have hts := atoms_spec (ws := wsX10_soonest) B.pre
  have hown : s.vm.findClass RX10 = some m.cls := findClass_of_methodNamed B.named
  have hlocks := B.notSynchronized
  subst hsz
  have hD := hD0.self (sz := s.heap.size)
  generalize hAe : va_A [(x0, .inr (10, [.ref w0, .ref z0, .ref xi, .ref xt, .int x_tl, .ref xq, .int x_lc, .ref rdr, .ref h0, .ref t0, .ref q0, .ref v0, .ref m0])), (w0, .inr (9, [.ref tnodes, .ref tpasses, .ref tjars, .ref torders, .ref tfeasts, .ref tway, .int tws, .int tnow, .int tfm, .int tx])), (tnodes, .inr (6, [.int 4, .ref tnodesA, .int tnodesS])), (tpasses, .inr (6, [.int 5, .ref tpassesA, .int tpassesS])), (tpassesA, .inl (kA 0, 100, .inl tpassesF)), (q0, .inr (5, [.int q_left, .int q_leaving, .int q_length, .int q_target, .int q_barred, .int q_latest, .int q_waited, .int q_any, .ref qf, .ref qr, .ref qb, .ref w0, .ref t0])), (qf, .inl (kA 0, 12, .inl qfF))] s.heap.size = A at hD ⊢
  have hA : ∀ q : Nat, s.heap.size ≤ q → A q := fun q h => by rw [← hAe]; exact Or.inr h
  have hS : va_S A s.heap s.heap [] := va_S.rf
  have hP : va_P (dC, dI) vwCl [(x0, .inr (10, [.ref w0, .ref z0, .ref xi, .ref xt, .int x_tl, .ref xq, .int x_lc, .ref rdr, .ref h0, .ref t0, .ref q0, .ref v0, .ref m0])), (w0, .inr (9, [.ref tnodes, .ref tpasses, .ref tjars, .ref torders, .ref tfeasts, .ref tway, .int tws, .int tnow, .int tfm, .int tx])), (tnodes, .inr (6, [.int 4, .ref tnodesA, .int tnodesS])), (tpasses, .inr (6, [.int 5, .ref tpassesA, .int tpassesS])), (tpassesA, .inl (kA 0, 100, .inl tpassesF)), (q0, .inr (5, [.int q_left, .int q_leaving, .int q_length, .int q_target, .int q_barred, .int q_latest, .int q_waited, .int q_any, .ref qf, .ref qr, .ref qb, .ref w0, .ref t0])), (qf, .inl (kA 0, 12, .inl qfF))] s.heap := hP
  have hl := lv_entry ([.ref x0, .int p0, .int p1]) (n := 4) (Nat.le_of_ble_eq_true rfl)
  rw [lg_entry_eq]
  generalize (lg_sl ([.ref x0, .int p0, .int p1]) ++ List.replicate (4 - (lg_sl ([.ref x0, .int p0, .int p1])).length) Slot.unset).toArray = ls at hl ⊢
  have hl : lv_has ls 4 [(0, .ref x0), (1, .int p0), (2, .int p1)] := hl
  obtain ⟨G, hG0⟩ : ∃ G : (Nat → Int32) × Int32, fX10_soonest tnodesS tpassesS tpassesF qfF p0 p1 = G := ⟨_, rfl⟩
  have hG := hG0
  unfold fX10_soonest at hG
  refine lv_aload_n hx hb dX10_soonest_0 rfl (lv_at hl 0 rfl) ?_
  refine va_get (D := (dC, dI)) (ci := 10) (v := .ref w0) (C := RX10) (T := TX10) (N := 13) hx hb hts iX10_soonest_X10 hown hK.1 hP 0 rfl rfl 0 (by decide) (kX10_soonest_1 hts) (fun _ h9 => h9) rfl dX10_soonest_1 ?_
  refine va_get (D := (dC, dI)) (ci := 9) (v := .ref tnodes) (C := RX9) (T := TX9) (N := 10) hx hb hts iX10_soonest_X9 hown hK.1 hP 1 rfl rfl 0 (by decide) (kX10_soonest_2 hts) (fun _ h9 => h9) rfl dX10_soonest_4 ?_
  refine lv_iload_n hx hb dX10_soonest_7 rfl (lv_at hl 1 rfl) ?_
  refine z_i (wr := [(x0, .inr (10, [.ref w0, .ref z0, .ref xi, .ref xt, .int x_tl, .ref xq, .int x_lc, .ref rdr, .ref h0, .ref t0, .ref q0, .ref v0, .ref m0])), (w0, .inr (9, [.ref tnodes, .ref tpasses, .ref tjars, .ref torders, .ref tfeasts, .ref tway, .int tws, .int tnow, .int tfm, .int tx])), (tpasses, .inr (6, [.int 5, .ref tpassesA, .int tpassesS])), (tpassesA, .inl (kA 0, 100, .inl tpassesF)), (q0, .inr (5, [.int q_left, .int q_leaving, .int q_length, .int q_target, .int q_barred, .int q_latest, .int q_waited, .int q_any, .ref qf, .ref qr, .ref qb, .ref w0, .ref t0])), (qf, .inl (kA 0, 12, .inl qfF))]) (va_runV (As := [.int p0]) (rest := []) ⟨hx, hb, hml, hown, hts⟩ (mX6_has l dC dI kA _ tnodes tnodesA 4 tnodesS p0) (cwV 1 hts gX10_soonest_X6_has rfl rfl rfl ⟨rfl, hdX6_has⟩ ⟨(Nat.le_of_ble_eq_true rfl), (Nat.le_of_ble_eq_true rfl)⟩) ⟨zPc.blind, va_recv hK.1 hP (ci := 6) (q0 := 2) rfl rfl, zPre hK (hP.sub [2] rfl) (hD.sub [2] (by decide) rfl)⟩ rfl rfl hl.1 rfl (lv_room (Nat.le_of_ble_eq_true rfl)) dX10_soonest_8 ⟨(Nat.le_of_ble_eq_true rfl), (Nat.le_of_ble_eq_true rfl)⟩) hP hD hS hA [2] [0, 1, 3, 4, 5, 6] rfl rfl (by decide) (by decide) (fun r3 u1 H locs hw2 hP hD hS => ?_)
  obtain rfl := hw2
  obtain ⟨hP, hD⟩ := z_re (L := [(x0, .inr (10, [.ref w0, .ref z0, .ref xi, .ref xt, .int x_tl, .ref xq, .int x_lc, .ref rdr, .ref h0, .ref t0, .ref q0, .ref v0, .ref m0])), (w0, .inr (9, [.ref tnodes, .ref tpasses, .ref tjars, .ref torders, .ref tfeasts, .ref tway, .int tws, .int tnow, .int tfm, .int tx])), (tpasses, .inr (6, [.int 5, .ref tpassesA, .int tpassesS])), (tpassesA, .inl (kA 0, 100, .inl tpassesF)), (q0, .inr (5, [.int q_left, .int q_leaving, .int q_length, .int q_target, .int q_barred, .int q_latest, .int q_waited, .int q_any, .ref qf, .ref qr, .ref qb, .ref w0, .ref t0])), (qf, .inl (kA 0, 12, .inl qfF)), (tnodes, .inr (6, [.int 4, .ref tnodesA, .int tnodesS]))]) hP hD
  refine lv_if_eq (tgt := 28) hx hb dX10_soonest_11 (by decide) (fun c_4 => ?_) (fun c_4 => ?_)
  · have hG := zthen hG c_4
    refine lv_iconst (v := (-1)) hx hb dX10_soonest_28 (by decide) ?_
    obtain ⟨hP9, hD9⟩ := z_sb (L' := [(x0, .inr (10, [.ref w0, .ref z0, .ref xi, .ref xt, .int x_tl, .ref xq, .int x_lc, .ref rdr, .ref h0, .ref t0, .ref q0, .ref v0, .ref m0])), (w0, .inr (9, [.ref tnodes, .ref tpasses, .ref tjars, .ref torders, .ref tfeasts, .ref tway, .int tws, .int tnow, .int tfm, .int tx])), (tnodes, .inr (6, [.int 4, .ref tnodesA, .int tnodesS])), (tpasses, .inr (6, [.int 5, .ref tpassesA, .int tpassesS])), (tpassesA, .inl (kA 0, 100, .inl tpassesF)), (q0, .inr (5, [.int q_left, .int q_leaving, .int q_length, .int q_target, .int q_barred, .int q_latest, .int q_waited, .int q_any, .ref qf, .ref qr, .ref qb, .ref w0, .ref t0])), (qf, .inl (kA 0, 12, .inl qfF))]) hP hD [0, 1, 6, 2, 3, 4, 5] (by decide) rfl
    refine W.widen (k := 0) (n := 0) (Nat.le_of_ble_eq_true rfl) (Nat.le_of_ble_eq_true rfl) ?_
    exact W.iret (v := (-1)) hx hb hr (fun t ht hW => ⟨⟨(-1), (qfF, (-1)), rfl, ⟨rfl, (hG.trans hG0.symm)⟩, by rw [ht]; exact hP9, hD9⟩, hS.F ht⟩) hS.2.2 dX10_soonest_29
  · have hG := zelse hG c_4
    have c_4a := hs_ne c_4
    have c_4b := c_4a.2
    have c_4a := c_4a.1
    refine lv_aload_n hx hb dX10_soonest_14 rfl (lv_at hl 0 rfl) ?_
    refine va_get (D := (dC, dI)) (ci := 10) (v := .ref w0) (C := RX10) (T := TX10) (N := 13) hx hb hts iX10_soonest_X10 hown hK.1 hP 0 rfl rfl 0 (by decide) (kX10_soonest_1 hts) (fun _ h9 => h9) rfl dX10_soonest_15 ?_
    refine va_get (D := (dC, dI)) (ci := 9) (v := .ref tnodes) (C := RX9) (T := TX9) (N := 10) hx hb hts iX10_soonest_X9 hown hK.1 hP 1 rfl rfl 0 (by decide) (kX10_soonest_2 hts) (fun _ h9 => h9) rfl dX10_soonest_18 ?_
    refine lv_iload_n hx hb dX10_soonest_21 rfl (lv_at hl 2 rfl) ?_
    refine z_i (wr := [(x0, .inr (10, [.ref w0, .ref z0, .ref xi, .ref xt, .int x_tl, .ref xq, .int x_lc, .ref rdr, .ref h0, .ref t0, .ref q0, .ref v0, .ref m0])), (w0, .inr (9, [.ref tnodes, .ref tpasses, .ref tjars, .ref torders, .ref tfeasts, .ref tway, .int tws, .int tnow, .int tfm, .int tx])), (tpasses, .inr (6, [.int 5, .ref tpassesA, .int tpassesS])), (tpassesA, .inl (kA 0, 100, .inl tpassesF)), (q0, .inr (5, [.int q_left, .int q_leaving, .int q_length, .int q_target, .int q_barred, .int q_latest, .int q_waited, .int q_any, .ref qf, .ref qr, .ref qb, .ref w0, .ref t0])), (qf, .inl (kA 0, 12, .inl qfF))]) (va_runV (As := [.int p1]) (rest := []) ⟨hx, hb, hml, hown, hts⟩ (mX6_has l dC dI kA _ tnodes tnodesA 4 tnodesS p1) (cwV 1 hts gX10_soonest_X6_has rfl rfl rfl ⟨rfl, hdX6_has⟩ ⟨(Nat.le_of_ble_eq_true rfl), (Nat.le_of_ble_eq_true rfl)⟩) ⟨zPc.blind, va_recv hK.1 hP (ci := 6) (q0 := 6) rfl rfl, zPre hK (hP.sub [6] rfl) (hD.sub [6] (by decide) rfl)⟩ rfl rfl hl.1 rfl (lv_room (Nat.le_of_ble_eq_true rfl)) dX10_soonest_22 ⟨(Nat.le_of_ble_eq_true rfl), (Nat.le_of_ble_eq_true rfl)⟩) hP hD hS hA [6] [0, 1, 2, 3, 4, 5] rfl rfl (by decide) (by decide) (fun r7 u5 H locs hw6 hP hD hS => ?_)
    obtain rfl := hw6
    obtain ⟨hP, hD⟩ := z_re (L := [(x0, .inr (10, [.ref w0, .ref z0, .ref xi, .ref xt, .int x_tl, .ref xq, .int x_lc, .ref rdr, .ref h0, .ref t0, .ref q0, .ref v0, .ref m0])), (w0, .inr (9, [.ref tnodes, .ref tpasses, .ref tjars, .ref torders, .ref tfeasts, .ref tway, .int tws, .int tnow, .int tfm, .int tx])), (tpasses, .inr (6, [.int 5, .ref tpassesA, .int tpassesS])), (tpassesA, .inl (kA 0, 100, .inl tpassesF)), (q0, .inr (5, [.int q_left, .int q_leaving, .int q_length, .int q_target, .int q_barred, .int q_latest, .int q_waited, .int q_any, .ref qf, .ref qr, .ref qb, .ref w0, .ref t0])), (qf, .inl (kA 0, 12, .inl qfF)), (tnodes, .inr (6, [.int 4, .ref tnodesA, .int tnodesS]))]) hP hD
    refine lv_if_ne (tgt := 30) hx hb dX10_soonest_25 (by decide) (fun c_8 => ?_) (fun c_8 => ?_)
    · have hG := zelse hG c_8
      have c_8a := hs_ne c_8
      have c_8b := c_8a.2
      have c_8a := c_8a.1
      refine lv_aload_n hx hb dX10_soonest_30 rfl (lv_at hl 0 rfl) ?_
      refine va_get (D := (dC, dI)) (ci := 10) (v := .ref q0) (C := RX10) (T := TX10) (N := 13) hx hb hts iX10_soonest_X10 hown hK.1 hP 0 rfl rfl 10 (by decide) (kX10_soonest_3 hts) (fun _ h9 => h9) rfl dX10_soonest_31 ?_
      refine lv_iload_n hx hb dX10_soonest_34 rfl (lv_at hl 1 rfl) ?_
      refine lv_iconst (v := (-1)) hx hb dX10_soonest_35 (by decide) ?_
      refine lv_iconst (v := 1) hx hb dX10_soonest_36 (by decide) ?_
      refine z_v (wr := [(x0, .inr (10, [.ref w0, .ref z0, .ref xi, .ref xt, .int x_tl, .ref xq, .int x_lc, .ref rdr, .ref h0, .ref t0, .ref q0, .ref v0, .ref m0])), (tnodes, .inr (6, [.int 4, .ref tnodesA, .int tnodesS]))]) (va_runV (As := [.int p0, .int (-1), .int 1]) (rest := []) ⟨hx, hb, hml, hown, hts⟩ (mX5_measure l dC dI kA _ q0 q_left q_leaving q_length q_target q_barred q_latest q_waited q_any qf qr qb qfF t0 w0 tnodes tpasses tpassesA tpassesS tpassesF tjars torders tfeasts tway tws tnow tfm tx p0 (-1) 1) (cwV 3 hts gX10_soonest_X5_measure rfl rfl rfl ⟨rfl, hdX5_measure⟩ ⟨(Nat.le_of_ble_eq_true rfl), (Nat.le_of_ble_eq_true rfl)⟩) ⟨zPc.blind, va_recv hK.1 hP (ci := 5) (q0 := 4) rfl rfl, zPre hK (hP.sub [4, 5, 1, 2, 3] rfl) (hD.sub [4, 5, 1, 2, 3] (by decide) rfl)⟩ rfl rfl hl.1 rfl (lv_room (Nat.le_of_ble_eq_true rfl)) dX10_soonest_37 ⟨(Nat.le_of_ble_eq_true rfl), (Nat.le_of_ble_eq_true rfl)⟩) hP hD hS hA [4, 5, 1, 2, 3] [0, 6] rfl rfl (by decide) (by decide) (fun u9 H locs hw10 hP hD hS => ?_)
      obtain ⟨o12, rfl⟩ : ∃ z, z = u9 := ⟨_, rfl⟩
      have hp13 := hw10
      have eo12 : o12 = fX5_measure qfF tpassesS tpassesF p0 (-1) 1 := hp13
      have hG := zbnd hG eo12
      obtain ⟨hP, hD⟩ := z_re (L := [(x0, .inr (10, [.ref w0, .ref z0, .ref xi, .ref xt, .int x_tl, .ref xq, .int x_lc, .ref rdr, .ref h0, .ref t0, .ref q0, .ref v0, .ref m0])), (tnodes, .inr (6, [.int 4, .ref tnodesA, .int tnodesS])), (q0, .inr (5, [.int q_left, .int q_leaving, .int q_length, .int q_target, .int q_barred, .int q_latest, .int q_waited, .int q_any, .ref qf, .ref qr, .ref qb, .ref w0, .ref t0])), (qf, .inl (kA 0, 12, .inl o12)), (w0, .inr (9, [.ref tnodes, .ref tpasses, .ref tjars, .ref torders, .ref tfeasts, .ref tway, .int tws, .int tnow, .int tfm, .int tx])), (tpasses, .inr (6, [.int 5, .ref tpassesA, .int tpassesS])), (tpassesA, .inl (kA 0, 100, .inl tpassesF))]) hP hD
      refine lv_aload_n hx hb dX10_soonest_40 rfl (lv_at hl 0 rfl) ?_
      refine va_get (D := (dC, dI)) (ci := 10) (v := .ref q0) (C := RX10) (T := TX10) (N := 13) hx hb hts iX10_soonest_X10 hown hK.1 hP 0 rfl rfl 10 (by decide) (kX10_soonest_3 hts) (fun _ h9 => h9) rfl dX10_soonest_41 ?_
      refine lv_iload_n hx hb dX10_soonest_44 rfl (lv_at hl 2 rfl) ?_
      refine z_i (wr := [(x0, .inr (10, [.ref w0, .ref z0, .ref xi, .ref xt, .int x_tl, .ref xq, .int x_lc, .ref rdr, .ref h0, .ref t0, .ref q0, .ref v0, .ref m0])), (tnodes, .inr (6, [.int 4, .ref tnodesA, .int tnodesS])), (w0, .inr (9, [.ref tnodes, .ref tpasses, .ref tjars, .ref torders, .ref tfeasts, .ref tway, .int tws, .int tnow, .int tfm, .int tx])), (tpasses, .inr (6, [.int 5, .ref tpassesA, .int tpassesS])), (tpassesA, .inl (kA 0, 100, .inl tpassesF))]) (va_runV (As := [.int p1]) (rest := []) ⟨hx, hb, hml, hown, hts⟩ (mX5_farTo l dC dI kA _ q0 q_left q_leaving q_length q_target q_barred q_latest q_waited q_any qf qr qb o12 t0 w0 p1) (cwV 1 hts gX10_soonest_X5_farTo rfl rfl rfl ⟨rfl, hdX5_farTo⟩ ⟨(Nat.le_of_ble_eq_true rfl), (Nat.le_of_ble_eq_true rfl)⟩) ⟨zPc.blind, va_recv hK.1 hP (ci := 5) (q0 := 2) rfl rfl, zPre hK (hP.sub [2, 3] rfl) (hD.sub [2, 3] (by decide) rfl)⟩ rfl rfl hl.1 rfl (lv_room (Nat.le_of_ble_eq_true rfl)) dX10_soonest_45 ⟨(Nat.le_of_ble_eq_true rfl), (Nat.le_of_ble_eq_true rfl)⟩) hP hD hS hA [2, 3] [0, 1, 4, 5, 6] rfl rfl (by decide) (by decide) (fun r17 u15 H locs hw16 hP hD hS => ?_)
      obtain ⟨er20, hp19⟩ := hw16
      have er20 : r17 = u15 := er20
      subst er20
      have er17 : r17 = fX5_farTo o12 p1 := hp19
      have hG := zbnd hG er17
      obtain ⟨hP, hD⟩ := z_re (L := [(x0, .inr (10, [.ref w0, .ref z0, .ref xi, .ref xt, .int x_tl, .ref xq, .int x_lc, .ref rdr, .ref h0, .ref t0, .ref q0, .ref v0, .ref m0])), (tnodes, .inr (6, [.int 4, .ref tnodesA, .int tnodesS])), (w0, .inr (9, [.ref tnodes, .ref tpasses, .ref tjars, .ref torders, .ref tfeasts, .ref tway, .int tws, .int tnow, .int tfm, .int tx])), (tpasses, .inr (6, [.int 5, .ref tpassesA, .int tpassesS])), (tpassesA, .inl (kA 0, 100, .inl tpassesF)), (q0, .inr (5, [.int q_left, .int q_leaving, .int q_length, .int q_target, .int q_barred, .int q_latest, .int q_waited, .int q_any, .ref qf, .ref qr, .ref qb, .ref w0, .ref t0])), (qf, .inl (kA 0, 12, .inl o12))]) hP hD
      refine lv_istore_n (lv' := [(3, .int r17), (0, .ref x0), (1, .int p0), (2, .int p1)]) hx hb dX10_soonest_48 rfl hl (by decide) rfl (fun ls hl => ?_)
      refine lv_iload_n hx hb dX10_soonest_49 rfl (lv_at hl 0 rfl) ?_
      refine lv_ldc hx hb hown (kX10_soonest_4 hts) dX10_soonest_50 ?_
      refine lv_icmp_ge (tgt := 59) hx hb dX10_soonest_52 (by decide) (fun c_22 => ?_) (fun c_22 => ?_)
      · have hG := zthen hG c_22
        refine lv_bipush (v := (-2)) hx hb dX10_soonest_59 (by decide) ?_
        obtain ⟨hP9, hD9⟩ := z_sb (L' := [(x0, .inr (10, [.ref w0, .ref z0, .ref xi, .ref xt, .int x_tl, .ref xq, .int x_lc, .ref rdr, .ref h0, .ref t0, .ref q0, .ref v0, .ref m0])), (w0, .inr (9, [.ref tnodes, .ref tpasses, .ref tjars, .ref torders, .ref tfeasts, .ref tway, .int tws, .int tnow, .int tfm, .int tx])), (tnodes, .inr (6, [.int 4, .ref tnodesA, .int tnodesS])), (tpasses, .inr (6, [.int 5, .ref tpassesA, .int tpassesS])), (tpassesA, .inl (kA 0, 100, .inl tpassesF)), (q0, .inr (5, [.int q_left, .int q_leaving, .int q_length, .int q_target, .int q_barred, .int q_latest, .int q_waited, .int q_any, .ref qf, .ref qr, .ref qb, .ref w0, .ref t0])), (qf, .inl (kA 0, 12, .inl o12))]) hP hD [0, 2, 1, 3, 4, 5, 6] (by decide) rfl
        refine W.widen (k := 0) (n := 0) (Nat.le_of_ble_eq_true rfl) (Nat.le_of_ble_eq_true rfl) ?_
        exact W.iret (v := (-2)) hx hb hr (fun t ht hW => ⟨⟨(-2), (o12, (-2)), rfl, ⟨rfl, (hG.trans hG0.symm)⟩, by rw [ht]; exact hP9, hD9⟩, hS.F ht⟩) hS.2.2 dX10_soonest_61
      · have hG := zelse hG c_22
        refine lv_iload_n hx hb dX10_soonest_55 rfl (lv_at hl 0 rfl) ?_
        refine lv_goto (tgt := 61) hx hb dX10_soonest_56 (by decide) ?_
        obtain ⟨hP9, hD9⟩ := z_sb (L' := [(x0, .inr (10, [.ref w0, .ref z0, .ref xi, .ref xt, .int x_tl, .ref xq, .int x_lc, .ref rdr, .ref h0, .ref t0, .ref q0, .ref v0, .ref m0])), (w0, .inr (9, [.ref tnodes, .ref tpasses, .ref tjars, .ref torders, .ref tfeasts, .ref tway, .int tws, .int tnow, .int tfm, .int tx])), (tnodes, .inr (6, [.int 4, .ref tnodesA, .int tnodesS])), (tpasses, .inr (6, [.int 5, .ref tpassesA, .int tpassesS])), (tpassesA, .inl (kA 0, 100, .inl tpassesF)), (q0, .inr (5, [.int q_left, .int q_leaving, .int q_length, .int q_target, .int q_barred, .int q_latest, .int q_waited, .int q_any, .ref qf, .ref qr, .ref qb, .ref w0, .ref t0])), (qf, .inl (kA 0, 12, .inl o12))]) hP hD [0, 2, 1, 3, 4, 5, 6] (by decide) rfl
        refine W.widen (k := 0) (n := 0) (Nat.le_of_ble_eq_true rfl) (Nat.le_of_ble_eq_true rfl) ?_
        exact W.iret (v := r17) hx hb hr (fun t ht hW => ⟨⟨r17, (o12, r17), rfl, ⟨rfl, (hG.trans hG0.symm)⟩, by rw [ht]; exact hP9, hD9⟩, hS.F ht⟩) hS.2.2 dX10_soonest_61
    · have hG := zthen hG c_8
      refine lv_iconst (v := (-1)) hx hb dX10_soonest_28 (by decide) ?_
      obtain ⟨hP9, hD9⟩ := z_sb (L' := [(x0, .inr (10, [.ref w0, .ref z0, .ref xi, .ref xt, .int x_tl, .ref xq, .int x_lc, .ref rdr, .ref h0, .ref t0, .ref q0, .ref v0, .ref m0])), (w0, .inr (9, [.ref tnodes, .ref tpasses, .ref tjars, .ref torders, .ref tfeasts, .ref tway, .int tws, .int tnow, .int tfm, .int tx])), (tnodes, .inr (6, [.int 4, .ref tnodesA, .int tnodesS])), (tpasses, .inr (6, [.int 5, .ref tpassesA, .int tpassesS])), (tpassesA, .inl (kA 0, 100, .inl tpassesF)), (q0, .inr (5, [.int q_left, .int q_leaving, .int q_length, .int q_target, .int q_barred, .int q_latest, .int q_waited, .int q_any, .ref qf, .ref qr, .ref qb, .ref w0, .ref t0])), (qf, .inl (kA 0, 12, .inl qfF))]) hP hD [0, 1, 6, 2, 3, 4, 5] (by decide) rfl
      refine W.widen (k := 0) (n := 0) (Nat.le_of_ble_eq_true rfl) (Nat.le_of_ble_eq_true rfl) ?_
      exact W.iret (v := (-1)) hx hb hr (fun t ht hW => ⟨⟨(-1), (qfF, (-1)), rfl, ⟨rfl, (hG.trans hG0.symm)⟩, by rw [ht]; exact hP9, hD9⟩, hS.F ht⟩) hS.2.2 dX10_soonest_29
set_option maxRecDepth 100000 in
def fb_mX10_nearest_45 (tnodesS : Int32) (tnodesF : Nat → Int32) (p1 : Int32) (o12 : Nat → Int32) (E107 : Int32 → Int32 → Int32 → ((Nat → Int32) × Int32)) (K : Int32 → Int32 → Int32 → ((Nat → Int32) × Int32)) (l45_0 : Int32) (l45_1 : Int32) (l45_2 : Int32) : (Nat → Int32) × Int32 := if tnodesS ≤ l45_0 then (E107 l45_0 l45_1 l45_2) else (bnd (fX9_hasSnow tnodesF l45_0 p1) (fun (ry45_4 : Int32) => if ry45_4 = 0 then (bnd ((l45_0 + 1)) (fun (xy45_11 : Int32) => K xy45_11 l45_1 l45_2)) else (bnd (fX5_farTo o12 l45_0) (fun (ry45_14 : Int32) => if l45_1 ≤ ry45_14 then (bnd ((l45_0 + 1)) (fun (xy45_20 : Int32) => K xy45_20 l45_1 l45_2)) else (bnd (fX5_farTo o12 l45_0) (fun (ry45_23 : Int32) => bnd ((l45_0 + 1)) (fun (xy45_28 : Int32) => K xy45_28 ry45_23 l45_0)))))))
def fl_mX10_nearest_45 (tnodesS : Int32) (tnodesF : Nat → Int32) (p1 : Int32) (o12 : Nat → Int32) (E107 : Int32 → Int32 → Int32 → ((Nat → Int32) × Int32)) : Nat → Int32 → Int32 → Int32 → ((Nat → Int32) × Int32)
  | 0, _, _, _ => ((fun _ => 0), 0)
  | n + 1, l45_0, l45_1, l45_2 => fb_mX10_nearest_45 tnodesS tnodesF p1 o12 E107 (fl_mX10_nearest_45 tnodesS tnodesF p1 o12 E107 n) l45_0 l45_1 l45_2
set_option maxHeartbeats 4000000 in
set_option maxRecDepth 100000 in
theorem lp_mX10_nearest_45 {p : Program} {l : Launch} {e : Env} {R : Room} {s : State} {m : MethodId} {args : Array Value} {below : List Frame} {meth : Method} {c : Code} {Q : State → Prop} {dC : Nat → ClassId} {dI : Nat → Nat → Nat} {kA : Nat → ClassId} {A : Nat → Prop} {H0 : Heap} {cells slots : Nat} (hx : p.tables.exec = Jvm.exec) (hb : c.code = cX10_nearest) (hml : c.maxLocals = 6) (hts : ∀ w ∈ wsX10_nearest, w.before args s = true) (hown : s.vm.findClass RX10 = some m.cls) (hK : zK dC dI kA s) (hA : ∀ q, H0.size ≤ q → A q) (hRf : 2 ≤ R.frames) (hRl : 45 ≤ R.locals) (hRc : cells ≤ R.cells) (hRs : slots ≤ R.slots) (x0 : Nat) (z0 : Nat) (xi : Nat) (xt : Nat) (xq : Nat) (rdr : Nat) (h0 : Nat) (t0 : Nat) (q0 : Nat) (v0 : Nat) (m0 : Nat) (w0 : Nat) (x_tl : Int32) (x_lc : Int32) (tnodes : Nat) (tnodesA : Nat) (tnodesS : Int32) (tnodesF : Nat → Int32) (tpasses : Nat) (tpassesA : Nat) (tpassesS : Int32) (tpassesF : Nat → Int32) (tjars : Nat) (torders : Nat) (tfeasts : Nat) (tway : Nat) (tws : Int32) (tnow : Int32) (tfm : Int32) (tx : Int32) (q_left : Int32) (q_leaving : Int32) (q_length : Int32) (q_target : Int32) (q_barred : Int32) (q_latest : Int32) (q_waited : Int32) (q_any : Int32) (qf : Nat) (qr : Nat) (qb : Nat) (p0 : Int32) (p1 : Int32) (o12 : Nat → Int32) {G : (Nat → Int32) × Int32} {E107 : Int32 → Int32 → Int32 → ((Nat → Int32) × Int32)} (c_4 : ¬ (hs p0 tnodesS) = 0) (c_4a : ¬ p0 < 0) (c_4b : ¬ tnodesS ≤ p0) (c_8 : ¬ (wi p1 11) = 0) (c_8a : ¬ p1 < 0) (c_8b : ¬ 11 < p1) (k107 : ∀ (w107_0 : Int32) (w107_1 : Int32) (w107_2 : Int32) (H : Heap) (locs : List Loc) (ls : Array Slot), ¬ w107_0 < 0 → E107 w107_0 w107_1 w107_2 = G → va_P (dC, dI) vwCl [(x0, .inr (10, [.ref w0, .ref z0, .ref xi, .ref xt, .int x_tl, .ref xq, .int x_lc, .ref rdr, .ref h0, .ref t0, .ref q0, .ref v0, .ref m0])), (tnodesA, .inl (kA 0, 48, .inl tnodesF)), (tnodes, .inr (6, [.int 4, .ref tnodesA, .int tnodesS])), (q0, .inr (5, [.int q_left, .int q_leaving, .int q_length, .int q_target, .int q_barred, .int q_latest, .int q_waited, .int q_any, .ref qf, .ref qr, .ref qb, .ref w0, .ref t0])), (qf, .inl (kA 0, 12, .inl o12)), (w0, .inr (9, [.ref tnodes, .ref tpasses, .ref tjars, .ref torders, .ref tfeasts, .ref tway, .int tws, .int tnow, .int tfm, .int tx])), (tpasses, .inr (6, [.int 5, .ref tpassesA, .int tpassesS])), (tpassesA, .inl (kA 0, 100, .inl tpassesF))] H → va_D A [(x0, .inr (10, [.ref w0, .ref z0, .ref xi, .ref xt, .int x_tl, .ref xq, .int x_lc, .ref rdr, .ref h0, .ref t0, .ref q0, .ref v0, .ref m0])), (tnodesA, .inl (kA 0, 48, .inl tnodesF)), (tnodes, .inr (6, [.int 4, .ref tnodesA, .int tnodesS])), (q0, .inr (5, [.int q_left, .int q_leaving, .int q_length, .int q_target, .int q_barred, .int q_latest, .int q_waited, .int q_any, .ref qf, .ref qr, .ref qb, .ref w0, .ref t0])), (qf, .inl (kA 0, 12, .inl o12)), (w0, .inr (9, [.ref tnodes, .ref tpasses, .ref tjars, .ref torders, .ref tfeasts, .ref tway, .int tws, .int tnow, .int tfm, .int tx])), (tpasses, .inr (6, [.int 5, .ref tpassesA, .int tpassesS])), (tpassesA, .inl (kA 0, 100, .inl tpassesF))] → va_S A H0 H locs → lv_has ls 6 [(5, .int w107_0), (4, .int w107_1), (3, .int w107_2), (0, .ref x0), (1, .int p0), (2, .int p1)] → W p l e R s m args below meth c H locs cells slots Q (F0 m 107 ls []))  : ∀ (n : Nat) (l45_0 : Int32) (l45_1 : Int32) (l45_2 : Int32) (H : Heap) (locs : List Loc) (ls : Array Slot), ((tnodesS : Int32).toInt - l45_0.toInt).toNat < n → fl_mX10_nearest_45 tnodesS tnodesF p1 o12 E107 n l45_0 l45_1 l45_2 = G → ¬ l45_0 < 0 → va_P (dC, dI) vwCl [(x0, .inr (10, [.ref w0, .ref z0, .ref xi, .ref xt, .int x_tl, .ref xq, .int x_lc, .ref rdr, .ref h0, .ref t0, .ref q0, .ref v0, .ref m0])), (tnodesA, .inl (kA 0, 48, .inl tnodesF)), (tnodes, .inr (6, [.int 4, .ref tnodesA, .int tnodesS])), (q0, .inr (5, [.int q_left, .int q_leaving, .int q_length, .int q_target, .int q_barred, .int q_latest, .int q_waited, .int q_any, .ref qf, .ref qr, .ref qb, .ref w0, .ref t0])), (qf, .inl (kA 0, 12, .inl o12)), (w0, .inr (9, [.ref tnodes, .ref tpasses, .ref tjars, .ref torders, .ref tfeasts, .ref tway, .int tws, .int tnow, .int tfm, .int tx])), (tpasses, .inr (6, [.int 5, .ref tpassesA, .int tpassesS])), (tpassesA, .inl (kA 0, 100, .inl tpassesF))] H → va_D A [(x0, .inr (10, [.ref w0, .ref z0, .ref xi, .ref xt, .int x_tl, .ref xq, .int x_lc, .ref rdr, .ref h0, .ref t0, .ref q0, .ref v0, .ref m0])), (tnodesA, .inl (kA 0, 48, .inl tnodesF)), (tnodes, .inr (6, [.int 4, .ref tnodesA, .int tnodesS])), (q0, .inr (5, [.int q_left, .int q_leaving, .int q_length, .int q_target, .int q_barred, .int q_latest, .int q_waited, .int q_any, .ref qf, .ref qr, .ref qb, .ref w0, .ref t0])), (qf, .inl (kA 0, 12, .inl o12)), (w0, .inr (9, [.ref tnodes, .ref tpasses, .ref tjars, .ref torders, .ref tfeasts, .ref tway, .int tws, .int tnow, .int tfm, .int tx])), (tpasses, .inr (6, [.int 5, .ref tpassesA, .int tpassesS])), (tpassesA, .inl (kA 0, 100, .inl tpassesF))] → va_S A H0 H locs → lv_has ls 6 [(5, .int l45_0), (4, .int l45_1), (3, .int l45_2), (0, .ref x0), (1, .int p0), (2, .int p1)] → W p l e R s m args below meth c H locs cells slots Q (F0 m 45 ls []) := by
  intro n
  induction n with
  | zero =>
    intro l45_0 l45_1 l45_2 H locs ls hn
    exact absurd hn (Nat.not_lt_zero _)
  | succ n ih =>
    intro l45_0 l45_1 l45_2 H locs ls hn hG hi45 hP hD hS hl
    have hG : fb_mX10_nearest_45 tnodesS tnodesF p1 o12 E107 (fl_mX10_nearest_45 tnodesS tnodesF p1 o12 E107 n) l45_0 l45_1 l45_2 = G := hG
    unfold fb_mX10_nearest_45 at hG
    refine lv_iload hx hb dX10_nearest_45 (lv_at hl 0 rfl) ?_
    refine lv_aload_n hx hb dX10_nearest_47 rfl (lv_at hl 3 rfl) ?_
    refine va_get (D := (dC, dI)) (ci := 10) (v := .ref w0) (C := RX10) (T := TX10) (N := 13) hx hb hts iX10_nearest_X10 hown hK.1 hP 0 rfl rfl 0 (by decide) (kX10_nearest_1 hts) (fun _ h9 => h9) rfl dX10_nearest_48 ?_
    refine va_get (D := (dC, dI)) (ci := 9) (v := .ref tnodes) (C := RX9) (T := TX9) (N := 10) hx hb hts iX10_nearest_X9 hown hK.1 hP 5 rfl rfl 0 (by decide) (kX10_nearest_2 hts) (fun _ h9 => h9) rfl dX10_nearest_51 ?_
    refine va_get (D := (dC, dI)) (ci := 6) (v := .int tnodesS) (C := RX6) (T := TX6) (N := 3) hx hb hts iX10_nearest_X6 hown hK.1 hP 2 rfl rfl 2 (by decide) (kX10_nearest_5 hts) (fun _ h9 => h9) rfl dX10_nearest_54 ?_
    refine lv_icmp_ge (tgt := 107) hx hb dX10_nearest_57 (by decide) (fun c_y45_1 => ?_) (fun c_y45_1 => ?_)
    · have hG := zthen hG c_y45_1
      exact k107 l45_0 l45_1 l45_2 H locs ls hi45 hG (hP.sub [0, 1, 2, 3, 4, 5, 6, 7] rfl) (hD.sub [0, 1, 2, 3, 4, 5, 6, 7] (by decide) rfl) hS (lv_sub hl [0, 1, 2, 3, 4, 5] rfl)
    · have hG := zelse hG c_y45_1
      refine lv_aload_n hx hb dX10_nearest_60 rfl (lv_at hl 3 rfl) ?_
      refine va_get (D := (dC, dI)) (ci := 10) (v := .ref w0) (C := RX10) (T := TX10) (N := 13) hx hb hts iX10_nearest_X10 hown hK.1 hP 0 rfl rfl 0 (by decide) (kX10_nearest_1 hts) (fun _ h9 => h9) rfl dX10_nearest_61 ?_
      refine lv_iload hx hb dX10_nearest_64 (lv_at hl 0 rfl) ?_
      refine lv_iload_n hx hb dX10_nearest_66 rfl (lv_at hl 5 rfl) ?_
      refine z_i (wr := [(x0, .inr (10, [.ref w0, .ref z0, .ref xi, .ref xt, .int x_tl, .ref xq, .int x_lc, .ref rdr, .ref h0, .ref t0, .ref q0, .ref v0, .ref m0])), (q0, .inr (5, [.int q_left, .int q_leaving, .int q_length, .int q_target, .int q_barred, .int q_latest, .int q_waited, .int q_any, .ref qf, .ref qr, .ref qb, .ref w0, .ref t0])), (qf, .inl (kA 0, 12, .inl o12)), (tpasses, .inr (6, [.int 5, .ref tpassesA, .int tpassesS])), (tpassesA, .inl (kA 0, 100, .inl tpassesF))]) (va_runV (As := [.int l45_0, .int p1]) (rest := []) ⟨hx, hb, hml, hown, hts⟩ (mX9_hasSnow l dC dI kA _ w0 tnodes tnodesA tnodesS tnodesF tpasses tjars torders tfeasts tway tws tnow tfm tx l45_0 p1) (cwV 2 hts gX10_nearest_X9_hasSnow rfl rfl rfl ⟨rfl, hdX9_hasSnow⟩ ⟨(Nat.le_trans (Nat.le_of_ble_eq_true rfl) hRf), (Nat.le_trans (Nat.le_of_ble_eq_true rfl) hRl)⟩) ⟨zPc.blind, va_recv hK.1 hP (ci := 9) (q0 := 5) rfl rfl, zPre hK (hP.sub [5, 2, 1] rfl) (hD.sub [5, 2, 1] (by decide) rfl)⟩ rfl rfl hl.1 rfl (lv_room (Nat.le_of_ble_eq_true rfl)) dX10_nearest_67 ⟨hRc, hRs⟩) hP hD hS hA [5, 2, 1] [0, 3, 4, 6, 7] rfl rfl (by decide) (by decide) (fun ry45_4 uy45_2 H locs hwy45_3 hP hD hS => ?_)
      obtain ⟨ery45_8, hpy45_6, hpy45_7⟩ := hwy45_3
      have ery45_8 : ry45_4 = uy45_2 := ery45_8
      subst ery45_8
      have ery45_4 : ry45_4 = fX9_hasSnow tnodesF l45_0 p1 := hpy45_6
      have hG := zbnd hG ery45_4
      obtain ⟨hP, hD⟩ := z_re (L := [(x0, .inr (10, [.ref w0, .ref z0, .ref xi, .ref xt, .int x_tl, .ref xq, .int x_lc, .ref rdr, .ref h0, .ref t0, .ref q0, .ref v0, .ref m0])), (q0, .inr (5, [.int q_left, .int q_leaving, .int q_length, .int q_target, .int q_barred, .int q_latest, .int q_waited, .int q_any, .ref qf, .ref qr, .ref qb, .ref w0, .ref t0])), (qf, .inl (kA 0, 12, .inl o12)), (tpasses, .inr (6, [.int 5, .ref tpassesA, .int tpassesS])), (tpassesA, .inl (kA 0, 100, .inl tpassesF)), (w0, .inr (9, [.ref tnodes, .ref tpasses, .ref tjars, .ref torders, .ref tfeasts, .ref tway, .int tws, .int tnow, .int tfm, .int tx])), (tnodes, .inr (6, [.int 4, .ref tnodesA, .int tnodesS])), (tnodesA, .inl (kA 0, 48, .inl tnodesF))]) hP hD
      refine lv_if_eq (tgt := 101) hx hb dX10_nearest_70 (by decide) (fun c_y45_10 => ?_) (fun c_y45_10 => ?_)
      · have hG := zthen hG c_y45_10
        obtain ⟨xy45_11, exy45_11⟩ : ∃ y : Int32, y = l45_0 + 1 := ⟨_, rfl⟩
        have hG := zbnd hG exy45_11
        refine lv_iinc (v := xy45_11) (lv' := [(5, .int xy45_11), (4, .int l45_1), (3, .int l45_2), (0, .ref x0), (1, .int p0), (2, .int p1)]) hx hb dX10_nearest_101 hl (k := 0) rfl (by rw [exy45_11]; rfl) (by decide) rfl (fun ls hl => ?_)
        refine lv_goto (tgt := 45) hx hb dX10_nearest_104 (by decide) ?_
        exact ih xy45_11 l45_1 l45_2 H locs ls (z_up hn exy45_11 c_y45_1) hG (z_nn exy45_11 c_y45_1 hi45) (hP.sub [0, 7, 6, 1, 2, 5, 3, 4] rfl) (hD.sub [0, 7, 6, 1, 2, 5, 3, 4] (by decide) rfl) hS (lv_sub hl [0, 1, 2, 3, 4, 5] rfl)
      · have hG := zelse hG c_y45_10
        refine lv_aload_n hx hb dX10_nearest_73 rfl (lv_at hl 3 rfl) ?_
        refine va_get (D := (dC, dI)) (ci := 10) (v := .ref q0) (C := RX10) (T := TX10) (N := 13) hx hb hts iX10_nearest_X10 hown hK.1 hP 0 rfl rfl 10 (by decide) (kX10_nearest_3 hts) (fun _ h9 => h9) rfl dX10_nearest_74 ?_
        refine lv_iload hx hb dX10_nearest_77 (lv_at hl 0 rfl) ?_
        refine z_i (wr := [(x0, .inr (10, [.ref w0, .ref z0, .ref xi, .ref xt, .int x_tl, .ref xq, .int x_lc, .ref rdr, .ref h0, .ref t0, .ref q0, .ref v0, .ref m0])), (tpasses, .inr (6, [.int 5, .ref tpassesA, .int tpassesS])), (tpassesA, .inl (kA 0, 100, .inl tpassesF)), (w0, .inr (9, [.ref tnodes, .ref tpasses, .ref tjars, .ref torders, .ref tfeasts, .ref tway, .int tws, .int tnow, .int tfm, .int tx])), (tnodes, .inr (6, [.int 4, .ref tnodesA, .int tnodesS])), (tnodesA, .inl (kA 0, 48, .inl tnodesF))]) (va_runV (As := [.int l45_0]) (rest := []) ⟨hx, hb, hml, hown, hts⟩ (mX5_farTo l dC dI kA _ q0 q_left q_leaving q_length q_target q_barred q_latest q_waited q_any qf qr qb o12 t0 w0 l45_0) (cwV 1 hts gX10_nearest_X5_farTo rfl rfl rfl ⟨rfl, hdX5_farTo⟩ ⟨(Nat.le_trans (Nat.le_of_ble_eq_true rfl) hRf), (Nat.le_trans (Nat.le_of_ble_eq_true rfl) hRl)⟩) ⟨zPc.blind, va_recv hK.1 hP (ci := 5) (q0 := 1) rfl rfl, zPre hK (hP.sub [1, 2] rfl) (hD.sub [1, 2] (by decide) rfl)⟩ rfl rfl hl.1 rfl (lv_room (Nat.le_of_ble_eq_true rfl)) dX10_nearest_79 ⟨hRc, hRs⟩) hP hD hS hA [1, 2] [0, 3, 4, 5, 6, 7] rfl rfl (by decide) (by decide) (fun ry45_14 uy45_12 H locs hwy45_13 hP hD hS => ?_)
        obtain ⟨ery45_17, hpy45_16⟩ := hwy45_13
        have ery45_17 : ry45_14 = uy45_12 := ery45_17
        subst ery45_17
        have ery45_14 : ry45_14 = fX5_farTo o12 l45_0 := hpy45_16
        have hG := zbnd hG ery45_14
        obtain ⟨hP, hD⟩ := z_re (L := [(x0, .inr (10, [.ref w0, .ref z0, .ref xi, .ref xt, .int x_tl, .ref xq, .int x_lc, .ref rdr, .ref h0, .ref t0, .ref q0, .ref v0, .ref m0])), (tpasses, .inr (6, [.int 5, .ref tpassesA, .int tpassesS])), (tpassesA, .inl (kA 0, 100, .inl tpassesF)), (w0, .inr (9, [.ref tnodes, .ref tpasses, .ref tjars, .ref torders, .ref tfeasts, .ref tway, .int tws, .int tnow, .int tfm, .int tx])), (tnodes, .inr (6, [.int 4, .ref tnodesA, .int tnodesS])), (tnodesA, .inl (kA 0, 48, .inl tnodesF)), (q0, .inr (5, [.int q_left, .int q_leaving, .int q_length, .int q_target, .int q_barred, .int q_latest, .int q_waited, .int q_any, .ref qf, .ref qr, .ref qb, .ref w0, .ref t0])), (qf, .inl (kA 0, 12, .inl o12))]) hP hD
        refine lv_iload hx hb dX10_nearest_82 (lv_at hl 1 rfl) ?_
        refine lv_icmp_ge (tgt := 101) hx hb dX10_nearest_84 (by decide) (fun c_y45_19 => ?_) (fun c_y45_19 => ?_)
        · have hG := zthen hG c_y45_19
          obtain ⟨xy45_20, exy45_20⟩ : ∃ y : Int32, y = l45_0 + 1 := ⟨_, rfl⟩
          have hG := zbnd hG exy45_20
          refine lv_iinc (v := xy45_20) (lv' := [(5, .int xy45_20), (4, .int l45_1), (3, .int l45_2), (0, .ref x0), (1, .int p0), (2, .int p1)]) hx hb dX10_nearest_101 hl (k := 0) rfl (by rw [exy45_20]; rfl) (by decide) rfl (fun ls hl => ?_)
          refine lv_goto (tgt := 45) hx hb dX10_nearest_104 (by decide) ?_
          exact ih xy45_20 l45_1 l45_2 H locs ls (z_up hn exy45_20 c_y45_1) hG (z_nn exy45_20 c_y45_1 hi45) (hP.sub [0, 5, 4, 6, 7, 3, 1, 2] rfl) (hD.sub [0, 5, 4, 6, 7, 3, 1, 2] (by decide) rfl) hS (lv_sub hl [0, 1, 2, 3, 4, 5] rfl)
        · have hG := zelse hG c_y45_19
          refine lv_iload hx hb dX10_nearest_87 (lv_at hl 0 rfl) ?_
          refine lv_istore_n (lv' := [(3, .int l45_0), (5, .int l45_0), (4, .int l45_1), (0, .ref x0), (1, .int p0), (2, .int p1)]) hx hb dX10_nearest_89 rfl hl (by decide) rfl (fun ls hl => ?_)
          refine lv_aload_n hx hb dX10_nearest_90 rfl (lv_at hl 3 rfl) ?_
          refine va_get (D := (dC, dI)) (ci := 10) (v := .ref q0) (C := RX10) (T := TX10) (N := 13) hx hb hts iX10_nearest_X10 hown hK.1 hP 0 rfl rfl 10 (by decide) (kX10_nearest_3 hts) (fun _ h9 => h9) rfl dX10_nearest_91 ?_
          refine lv_iload hx hb dX10_nearest_94 (lv_at hl 1 rfl) ?_
          refine z_i (wr := [(x0, .inr (10, [.ref w0, .ref z0, .ref xi, .ref xt, .int x_tl, .ref xq, .int x_lc, .ref rdr, .ref h0, .ref t0, .ref q0, .ref v0, .ref m0])), (tpasses, .inr (6, [.int 5, .ref tpassesA, .int tpassesS])), (tpassesA, .inl (kA 0, 100, .inl tpassesF)), (w0, .inr (9, [.ref tnodes, .ref tpasses, .ref tjars, .ref torders, .ref tfeasts, .ref tway, .int tws, .int tnow, .int tfm, .int tx])), (tnodes, .inr (6, [.int 4, .ref tnodesA, .int tnodesS])), (tnodesA, .inl (kA 0, 48, .inl tnodesF))]) (va_runV (As := [.int l45_0]) (rest := []) ⟨hx, hb, hml, hown, hts⟩ (mX5_farTo l dC dI kA _ q0 q_left q_leaving q_length q_target q_barred q_latest q_waited q_any qf qr qb o12 t0 w0 l45_0) (cwV 1 hts gX10_nearest_X5_farTo rfl rfl rfl ⟨rfl, hdX5_farTo⟩ ⟨(Nat.le_trans (Nat.le_of_ble_eq_true rfl) hRf), (Nat.le_trans (Nat.le_of_ble_eq_true rfl) hRl)⟩) ⟨zPc.blind, va_recv hK.1 hP (ci := 5) (q0 := 6) rfl rfl, zPre hK (hP.sub [6, 7] rfl) (hD.sub [6, 7] (by decide) rfl)⟩ rfl rfl hl.1 rfl (lv_room (Nat.le_of_ble_eq_true rfl)) dX10_nearest_96 ⟨hRc, hRs⟩) hP hD hS hA [6, 7] [0, 1, 2, 3, 4, 5] rfl rfl (by decide) (by decide) (fun ry45_23 uy45_21 H locs hwy45_22 hP hD hS => ?_)
          obtain ⟨ery45_26, hpy45_25⟩ := hwy45_22
          have ery45_26 : ry45_23 = uy45_21 := ery45_26
          subst ery45_26
          have ery45_23 : ry45_23 = fX5_farTo o12 l45_0 := hpy45_25
          have hG := zbnd hG ery45_23
          obtain ⟨hP, hD⟩ := z_re (L := [(x0, .inr (10, [.ref w0, .ref z0, .ref xi, .ref xt, .int x_tl, .ref xq, .int x_lc, .ref rdr, .ref h0, .ref t0, .ref q0, .ref v0, .ref m0])), (tpasses, .inr (6, [.int 5, .ref tpassesA, .int tpassesS])), (tpassesA, .inl (kA 0, 100, .inl tpassesF)), (w0, .inr (9, [.ref tnodes, .ref tpasses, .ref tjars, .ref torders, .ref tfeasts, .ref tway, .int tws, .int tnow, .int tfm, .int tx])), (tnodes, .inr (6, [.int 4, .ref tnodesA, .int tnodesS])), (tnodesA, .inl (kA 0, 48, .inl tnodesF)), (q0, .inr (5, [.int q_left, .int q_leaving, .int q_length, .int q_target, .int q_barred, .int q_latest, .int q_waited, .int q_any, .ref qf, .ref qr, .ref qb, .ref w0, .ref t0])), (qf, .inl (kA 0, 12, .inl o12))]) hP hD
          refine lv_istore (lv' := [(4, .int ry45_23), (3, .int l45_0), (5, .int l45_0), (0, .ref x0), (1, .int p0), (2, .int p1)]) hx hb dX10_nearest_99 hl (by decide) rfl (fun ls hl => ?_)
          obtain ⟨xy45_28, exy45_28⟩ : ∃ y : Int32, y = l45_0 + 1 := ⟨_, rfl⟩
          have hG := zbnd hG exy45_28
          refine lv_iinc (v := xy45_28) (lv' := [(5, .int xy45_28), (4, .int ry45_23), (3, .int l45_0), (0, .ref x0), (1, .int p0), (2, .int p1)]) hx hb dX10_nearest_101 hl (k := 2) rfl (by rw [exy45_28]; rfl) (by decide) rfl (fun ls hl => ?_)
          refine lv_goto (tgt := 45) hx hb dX10_nearest_104 (by decide) ?_
          exact ih xy45_28 ry45_23 l45_0 H locs ls (z_up hn exy45_28 c_y45_1) hG (z_nn exy45_28 c_y45_1 hi45) (hP.sub [0, 5, 4, 6, 7, 3, 1, 2] rfl) (hD.sub [0, 5, 4, 6, 7, 3, 1, 2] (by decide) rfl) hS (lv_sub hl [0, 1, 2, 3, 4, 5] rfl)
set_option maxRecDepth 100000 in
def fX10_nearest (tnodesS : Int32) (tnodesF : Nat → Int32) (tpassesS : Int32) (tpassesF : Nat → Int32) (qfF : Nat → Int32) (p0 : Int32) (p1 : Int32) : (Nat → Int32) × Int32 := if (hs p0 tnodesS) = 0 then ((qfF, (-1))) else (if (wi p1 11) = 0 then ((qfF, (-1))) else (bnd (fX5_measure qfF tpassesS tpassesF p0 (-1) 1) (fun (o12 : Nat → Int32) => fl_mX10_nearest_45 tnodesS tnodesF p1 o12 (fun (w107_0_0 : Int32) (w107_1_0 : Int32) (w107_2_0 : Int32) => (o12, w107_2_0)) (((tnodesS : Int32).toInt - (0 : Int32).toInt).toNat + 1) 0 1000000 (-2))))
set_option maxHeartbeats 4000000 in
set_option maxRecDepth 100000 in
theorem mX10_nearest (l : Launch) (dC : Nat → ClassId) (dI : Nat → Nat → Nat) (kA : Nat → ClassId) (sz : Nat) (x0 : Nat) (z0 : Nat) (xi : Nat) (xt : Nat) (xq : Nat) (rdr : Nat) (h0 : Nat) (t0 : Nat) (q0 : Nat) (v0 : Nat) (m0 : Nat) (w0 : Nat) (x_tl : Int32) (x_lc : Int32) (tnodes : Nat) (tnodesA : Nat) (tnodesS : Int32) (tnodesF : Nat → Int32) (tpasses : Nat) (tpassesA : Nat) (tpassesS : Int32) (tpassesF : Nat → Int32) (tjars : Nat) (torders : Nat) (tfeasts : Nat) (tway : Nat) (tws : Int32) (tnow : Int32) (tfm : Int32) (tx : Int32) (q_left : Int32) (q_leaving : Int32) (q_length : Int32) (q_target : Int32) (q_barred : Int32) (q_latest : Int32) (q_waited : Int32) (q_any : Int32) (qf : Nat) (qr : Nat) (qb : Nat) (qfF : Nat → Int32) (p0 : Int32) (p1 : Int32)  : Met l yX10_nearest wsX10_nearest ({ frames := 4, cells := 0, slots := 0, locals := 94 }) (zPc dC dI kA sz [.ref x0, .int p0, .int p1] [(x0, .inr (10, [.ref w0, .ref z0, .ref xi, .ref xt, .int x_tl, .ref xq, .int x_lc, .ref rdr, .ref h0, .ref t0, .ref q0, .ref v0, .ref m0])), (w0, .inr (9, [.ref tnodes, .ref tpasses, .ref tjars, .ref torders, .ref tfeasts, .ref tway, .int tws, .int tnow, .int tfm, .int tx])), (tnodes, .inr (6, [.int 4, .ref tnodesA, .int tnodesS])), (tnodesA, .inl (kA 0, 48, .inl tnodesF)), (tpasses, .inr (6, [.int 5, .ref tpassesA, .int tpassesS])), (tpassesA, .inl (kA 0, 100, .inl tpassesF)), (q0, .inr (5, [.int q_left, .int q_leaving, .int q_length, .int q_target, .int q_barred, .int q_latest, .int q_waited, .int q_any, .ref qf, .ref qr, .ref qb, .ref w0, .ref t0])), (qf, .inl (kA 0, 12, .inl qfF))]) (va_Qi (fun (r : Int32) (u : (Nat → Int32) × Int32) => r = u.2 ∧ (u.1, u.2) = fX10_nearest tnodesS tnodesF tpassesS tpassesF qfF p0 p1) (zB dC dI (va_A [(x0, .inr (10, [.ref w0, .ref z0, .ref xi, .ref xt, .int x_tl, .ref xq, .int x_lc, .ref rdr, .ref h0, .ref t0, .ref q0, .ref v0, .ref m0])), (w0, .inr (9, [.ref tnodes, .ref tpasses, .ref tjars, .ref torders, .ref tfeasts, .ref tway, .int tws, .int tnow, .int tfm, .int tx])), (tnodes, .inr (6, [.int 4, .ref tnodesA, .int tnodesS])), (tnodesA, .inl (kA 0, 48, .inl tnodesF)), (tpasses, .inr (6, [.int 5, .ref tpassesA, .int tpassesS])), (tpassesA, .inl (kA 0, 100, .inl tpassesF)), (q0, .inr (5, [.int q_left, .int q_leaving, .int q_length, .int q_target, .int q_barred, .int q_latest, .int q_waited, .int q_any, .ref qf, .ref qr, .ref qb, .ref w0, .ref t0])), (qf, .inl (kA 0, 12, .inl qfF))] sz) (fun (u : (Nat → Int32) × Int32) => [(x0, .inr (10, [.ref w0, .ref z0, .ref xi, .ref xt, .int x_tl, .ref xq, .int x_lc, .ref rdr, .ref h0, .ref t0, .ref q0, .ref v0, .ref m0])), (w0, .inr (9, [.ref tnodes, .ref tpasses, .ref tjars, .ref torders, .ref tfeasts, .ref tway, .int tws, .int tnow, .int tfm, .int tx])), (tnodes, .inr (6, [.int 4, .ref tnodesA, .int tnodesS])), (tnodesA, .inl (kA 0, 48, .inl tnodesF)), (tpasses, .inr (6, [.int 5, .ref tpassesA, .int tpassesS])), (tpassesA, .inl (kA 0, 100, .inl tpassesF)), (q0, .inr (5, [.int q_left, .int q_leaving, .int q_length, .int q_target, .int q_barred, .int q_latest, .int q_waited, .int q_any, .ref qf, .ref qr, .ref qb, .ref w0, .ref t0])), (qf, .inl (kA 0, 12, .inl u.1))])) (va_A [(x0, .inr (10, [.ref w0, .ref z0, .ref xi, .ref xt, .int x_tl, .ref xq, .int x_lc, .ref rdr, .ref h0, .ref t0, .ref q0, .ref v0, .ref m0])), (w0, .inr (9, [.ref tnodes, .ref tpasses, .ref tjars, .ref torders, .ref tfeasts, .ref tway, .int tws, .int tnow, .int tfm, .int tx])), (tnodes, .inr (6, [.int 4, .ref tnodesA, .int tnodesS])), (tnodesA, .inl (kA 0, 48, .inl tnodesF)), (tpasses, .inr (6, [.int 5, .ref tpassesA, .int tpassesS])), (tpassesA, .inl (kA 0, 100, .inl tpassesF)), (q0, .inr (5, [.int q_left, .int q_leaving, .int q_length, .int q_target, .int q_barred, .int q_latest, .int q_waited, .int q_any, .ref qf, .ref qr, .ref qb, .ref w0, .ref t0])), (qf, .inl (kA 0, 12, .inl qfF))] sz)) 0 0 (va_A [(x0, .inr (10, [.ref w0, .ref z0, .ref xi, .ref xt, .int x_tl, .ref xq, .int x_lc, .ref rdr, .ref h0, .ref t0, .ref q0, .ref v0, .ref m0])), (w0, .inr (9, [.ref tnodes, .ref tpasses, .ref tjars, .ref torders, .ref tfeasts, .ref tway, .int tws, .int tnow, .int tfm, .int tx])), (tnodes, .inr (6, [.int 4, .ref tnodesA, .int tnodesS])), (tnodesA, .inl (kA 0, 48, .inl tnodesF)), (tpasses, .inr (6, [.int 5, .ref tpassesA, .int tpassesS])), (tpassesA, .inl (kA 0, 100, .inl tpassesF)), (q0, .inr (5, [.int q_left, .int q_leaving, .int q_length, .int q_target, .int q_barred, .int q_latest, .int q_waited, .int q_any, .ref qf, .ref qr, .ref qb, .ref w0, .ref t0])), (qf, .inl (kA 0, 12, .inl qfF))] sz) := by
  refine Met.ofW (cc := cX10_nearest) (maxL := 6) (ret := (some .int)) (by decide) rfl ?_
  intro p e s m args below meth c s₁ B hml hv
  obtain ⟨rfl, hsz, hP, hK, hD0⟩ := hv
  have hx := B.exec
  have hb := B.bytes
  have hr := B.returns
  have hts := atoms_spec (ws := wsX10_nearest) B.pre
  have hown : s.vm.findClass RX10 = some m.cls := findClass_of_methodNamed B.named
  have hlocks := B.notSynchronized
  subst hsz
  have hD := hD0.self (sz := s.heap.size)
  generalize hAe : va_A [(x0, .inr (10, [.ref w0, .ref z0, .ref xi, .ref xt, .int x_tl, .ref xq, .int x_lc, .ref rdr, .ref h0, .ref t0, .ref q0, .ref v0, .ref m0])), (w0, .inr (9, [.ref tnodes, .ref tpasses, .ref tjars, .ref torders, .ref tfeasts, .ref tway, .int tws, .int tnow, .int tfm, .int tx])), (tnodes, .inr (6, [.int 4, .ref tnodesA, .int tnodesS])), (tnodesA, .inl (kA 0, 48, .inl tnodesF)), (tpasses, .inr (6, [.int 5, .ref tpassesA, .int tpassesS])), (tpassesA, .inl (kA 0, 100, .inl tpassesF)), (q0, .inr (5, [.int q_left, .int q_leaving, .int q_length, .int q_target, .int q_barred, .int q_latest, .int q_waited, .int q_any, .ref qf, .ref qr, .ref qb, .ref w0, .ref t0])), (qf, .inl (kA 0, 12, .inl qfF))] s.heap.size = A at hD ⊢
  have hA : ∀ q : Nat, s.heap.size ≤ q → A q := fun q h => by rw [← hAe]; exact Or.inr h
  have hS : va_S A s.heap s.heap [] := va_S.rf
  have hP : va_P (dC, dI) vwCl [(x0, .inr (10, [.ref w0, .ref z0, .ref xi, .ref xt, .int x_tl, .ref xq, .int x_lc, .ref rdr, .ref h0, .ref t0, .ref q0, .ref v0, .ref m0])), (w0, .inr (9, [.ref tnodes, .ref tpasses, .ref tjars, .ref torders, .ref tfeasts, .ref tway, .int tws, .int tnow, .int tfm, .int tx])), (tnodes, .inr (6, [.int 4, .ref tnodesA, .int tnodesS])), (tnodesA, .inl (kA 0, 48, .inl tnodesF)), (tpasses, .inr (6, [.int 5, .ref tpassesA, .int tpassesS])), (tpassesA, .inl (kA 0, 100, .inl tpassesF)), (q0, .inr (5, [.int q_left, .int q_leaving, .int q_length, .int q_target, .int q_barred, .int q_latest, .int q_waited, .int q_any, .ref qf, .ref qr, .ref qb, .ref w0, .ref t0])), (qf, .inl (kA 0, 12, .inl qfF))] s.heap := hP
  have hl := lv_entry ([.ref x0, .int p0, .int p1]) (n := 6) (Nat.le_of_ble_eq_true rfl)
  rw [lg_entry_eq]
  generalize (lg_sl ([.ref x0, .int p0, .int p1]) ++ List.replicate (6 - (lg_sl ([.ref x0, .int p0, .int p1])).length) Slot.unset).toArray = ls at hl ⊢
  have hl : lv_has ls 6 [(0, .ref x0), (1, .int p0), (2, .int p1)] := hl
  obtain ⟨H, hHe⟩ : ∃ H : Heap, H = s.heap := ⟨_, rfl⟩
  obtain ⟨G, hG0⟩ : ∃ G : (Nat → Int32) × Int32, fX10_nearest tnodesS tnodesF tpassesS tpassesF qfF p0 p1 = G := ⟨_, rfl⟩
  have hG := hG0
  unfold fX10_nearest at hG
  refine lv_aload_n hx hb dX10_nearest_0 rfl (lv_at hl 0 rfl) ?_
  refine va_get (D := (dC, dI)) (ci := 10) (v := .ref w0) (C := RX10) (T := TX10) (N := 13) hx hb hts iX10_nearest_X10 hown hK.1 hP 0 rfl rfl 0 (by decide) (kX10_nearest_1 hts) (fun _ h9 => h9) rfl dX10_nearest_1 ?_
  refine va_get (D := (dC, dI)) (ci := 9) (v := .ref tnodes) (C := RX9) (T := TX9) (N := 10) hx hb hts iX10_nearest_X9 hown hK.1 hP 1 rfl rfl 0 (by decide) (kX10_nearest_2 hts) (fun _ h9 => h9) rfl dX10_nearest_4 ?_
  refine lv_iload_n hx hb dX10_nearest_7 rfl (lv_at hl 1 rfl) ?_
  refine z_i (wr := [(x0, .inr (10, [.ref w0, .ref z0, .ref xi, .ref xt, .int x_tl, .ref xq, .int x_lc, .ref rdr, .ref h0, .ref t0, .ref q0, .ref v0, .ref m0])), (w0, .inr (9, [.ref tnodes, .ref tpasses, .ref tjars, .ref torders, .ref tfeasts, .ref tway, .int tws, .int tnow, .int tfm, .int tx])), (tnodesA, .inl (kA 0, 48, .inl tnodesF)), (tpasses, .inr (6, [.int 5, .ref tpassesA, .int tpassesS])), (tpassesA, .inl (kA 0, 100, .inl tpassesF)), (q0, .inr (5, [.int q_left, .int q_leaving, .int q_length, .int q_target, .int q_barred, .int q_latest, .int q_waited, .int q_any, .ref qf, .ref qr, .ref qb, .ref w0, .ref t0])), (qf, .inl (kA 0, 12, .inl qfF))]) (va_runV (As := [.int p0]) (rest := []) ⟨hx, hb, hml, hown, hts⟩ (mX6_has l dC dI kA _ tnodes tnodesA 4 tnodesS p0) (cwV 1 hts gX10_nearest_X6_has rfl rfl rfl ⟨rfl, hdX6_has⟩ ⟨(Nat.le_of_ble_eq_true rfl), (Nat.le_of_ble_eq_true rfl)⟩) ⟨zPc.blind, va_recv hK.1 hP (ci := 6) (q0 := 2) rfl rfl, zPre hK (hP.sub [2] rfl) (hD.sub [2] (by decide) rfl)⟩ rfl rfl hl.1 rfl (lv_room (Nat.le_of_ble_eq_true rfl)) dX10_nearest_8 ⟨(Nat.le_of_ble_eq_true rfl), (Nat.le_of_ble_eq_true rfl)⟩) hP hD hS hA [2] [0, 1, 3, 4, 5, 6, 7] rfl rfl (by decide) (by decide) (fun r3 u1 H locs hw2 hP hD hS => ?_)
  obtain rfl := hw2
  obtain ⟨hP, hD⟩ := z_re (L := [(x0, .inr (10, [.ref w0, .ref z0, .ref xi, .ref xt, .int x_tl, .ref xq, .int x_lc, .ref rdr, .ref h0, .ref t0, .ref q0, .ref v0, .ref m0])), (w0, .inr (9, [.ref tnodes, .ref tpasses, .ref tjars, .ref torders, .ref tfeasts, .ref tway, .int tws, .int tnow, .int tfm, .int tx])), (tnodesA, .inl (kA 0, 48, .inl tnodesF)), (tpasses, .inr (6, [.int 5, .ref tpassesA, .int tpassesS])), (tpassesA, .inl (kA 0, 100, .inl tpassesF)), (q0, .inr (5, [.int q_left, .int q_leaving, .int q_length, .int q_target, .int q_barred, .int q_latest, .int q_waited, .int q_any, .ref qf, .ref qr, .ref qb, .ref w0, .ref t0])), (qf, .inl (kA 0, 12, .inl qfF)), (tnodes, .inr (6, [.int 4, .ref tnodesA, .int tnodesS]))]) hP hD
  refine lv_if_eq (tgt := 23) hx hb dX10_nearest_11 (by decide) (fun c_4 => ?_) (fun c_4 => ?_)
  · have hG := zthen hG c_4
    refine lv_iconst (v := (-1)) hx hb dX10_nearest_23 (by decide) ?_
    obtain ⟨hP9, hD9⟩ := z_sb (L' := [(x0, .inr (10, [.ref w0, .ref z0, .ref xi, .ref xt, .int x_tl, .ref xq, .int x_lc, .ref rdr, .ref h0, .ref t0, .ref q0, .ref v0, .ref m0])), (w0, .inr (9, [.ref tnodes, .ref tpasses, .ref tjars, .ref torders, .ref tfeasts, .ref tway, .int tws, .int tnow, .int tfm, .int tx])), (tnodes, .inr (6, [.int 4, .ref tnodesA, .int tnodesS])), (tnodesA, .inl (kA 0, 48, .inl tnodesF)), (tpasses, .inr (6, [.int 5, .ref tpassesA, .int tpassesS])), (tpassesA, .inl (kA 0, 100, .inl tpassesF)), (q0, .inr (5, [.int q_left, .int q_leaving, .int q_length, .int q_target, .int q_barred, .int q_latest, .int q_waited, .int q_any, .ref qf, .ref qr, .ref qb, .ref w0, .ref t0])), (qf, .inl (kA 0, 12, .inl qfF))]) hP hD [0, 1, 7, 2, 3, 4, 5, 6] (by decide) rfl
    refine W.widen (k := 0) (n := 0) (Nat.le_of_ble_eq_true rfl) (Nat.le_of_ble_eq_true rfl) ?_
    exact W.iret (v := (-1)) hx hb hr (fun t ht hW => ⟨⟨(-1), (qfF, (-1)), rfl, ⟨rfl, (hG.trans hG0.symm)⟩, by rw [ht]; exact hP9, hD9⟩, hS.F ht⟩) hS.2.2 dX10_nearest_24
  · have hG := zelse hG c_4
    have c_4a := hs_ne c_4
    have c_4b := c_4a.2
    have c_4a := c_4a.1
    refine lv_iload_n hx hb dX10_nearest_14 rfl (lv_at hl 2 rfl) ?_
    refine lv_bipush (v := 11) hx hb dX10_nearest_15 (by decide) ?_
    refine z_i (wr := [(x0, .inr (10, [.ref w0, .ref z0, .ref xi, .ref xt, .int x_tl, .ref xq, .int x_lc, .ref rdr, .ref h0, .ref t0, .ref q0, .ref v0, .ref m0])), (w0, .inr (9, [.ref tnodes, .ref tpasses, .ref tjars, .ref torders, .ref tfeasts, .ref tway, .int tws, .int tnow, .int tfm, .int tx])), (tnodesA, .inl (kA 0, 48, .inl tnodesF)), (tpasses, .inr (6, [.int 5, .ref tpassesA, .int tpassesS])), (tpassesA, .inl (kA 0, 100, .inl tpassesF)), (q0, .inr (5, [.int q_left, .int q_leaving, .int q_length, .int q_target, .int q_barred, .int q_latest, .int q_waited, .int q_any, .ref qf, .ref qr, .ref qb, .ref w0, .ref t0])), (qf, .inl (kA 0, 12, .inl qfF)), (tnodes, .inr (6, [.int 4, .ref tnodesA, .int tnodesS]))]) (va_runS (As := [.int p1, .int 11]) (rest := []) ⟨hx, hb, hml, hown, hts⟩ (mX10_within l dC dI kA _ p1 11) (va_cwS 2 hts gX10_nearest_X10_within rfl rfl rfl hdX10_within ⟨(Nat.le_of_ble_eq_true rfl), (Nat.le_of_ble_eq_true rfl)⟩) ⟨zPc.blind, zPre hK (hP.sub [] rfl) (hD.sub [] (by decide) rfl)⟩ rfl rfl hl.1 rfl (lv_room (Nat.le_of_ble_eq_true rfl)) dX10_nearest_17 ⟨(Nat.le_of_ble_eq_true rfl), (Nat.le_of_ble_eq_true rfl)⟩) hP hD hS hA [] [0, 1, 2, 3, 4, 5, 6, 7] rfl rfl (by decide) (by decide) (fun r7 u5 H locs hw6 hP hD hS => ?_)
    obtain rfl := hw6
    obtain ⟨hP, hD⟩ := z_re (L := [(x0, .inr (10, [.ref w0, .ref z0, .ref xi, .ref xt, .int x_tl, .ref xq, .int x_lc, .ref rdr, .ref h0, .ref t0, .ref q0, .ref v0, .ref m0])), (w0, .inr (9, [.ref tnodes, .ref tpasses, .ref tjars, .ref torders, .ref tfeasts, .ref tway, .int tws, .int tnow, .int tfm, .int tx])), (tnodesA, .inl (kA 0, 48, .inl tnodesF)), (tpasses, .inr (6, [.int 5, .ref tpassesA, .int tpassesS])), (tpassesA, .inl (kA 0, 100, .inl tpassesF)), (q0, .inr (5, [.int q_left, .int q_leaving, .int q_length, .int q_target, .int q_barred, .int q_latest, .int q_waited, .int q_any, .ref qf, .ref qr, .ref qb, .ref w0, .ref t0])), (qf, .inl (kA 0, 12, .inl qfF)), (tnodes, .inr (6, [.int 4, .ref tnodesA, .int tnodesS]))]) hP hD
    refine lv_if_ne (tgt := 25) hx hb dX10_nearest_20 (by decide) (fun c_8 => ?_) (fun c_8 => ?_)
    · have hG := zelse hG c_8
      have c_8a := wi_ne c_8
      have c_8b := c_8a.2
      have c_8a := c_8a.1
      refine lv_aload_n hx hb dX10_nearest_25 rfl (lv_at hl 0 rfl) ?_
      refine va_get (D := (dC, dI)) (ci := 10) (v := .ref q0) (C := RX10) (T := TX10) (N := 13) hx hb hts iX10_nearest_X10 hown hK.1 hP 0 rfl rfl 10 (by decide) (kX10_nearest_3 hts) (fun _ h9 => h9) rfl dX10_nearest_26 ?_
      refine lv_iload_n hx hb dX10_nearest_29 rfl (lv_at hl 1 rfl) ?_
      refine lv_iconst (v := (-1)) hx hb dX10_nearest_30 (by decide) ?_
      refine lv_iconst (v := 1) hx hb dX10_nearest_31 (by decide) ?_
      refine z_v (wr := [(x0, .inr (10, [.ref w0, .ref z0, .ref xi, .ref xt, .int x_tl, .ref xq, .int x_lc, .ref rdr, .ref h0, .ref t0, .ref q0, .ref v0, .ref m0])), (tnodesA, .inl (kA 0, 48, .inl tnodesF)), (tnodes, .inr (6, [.int 4, .ref tnodesA, .int tnodesS]))]) (va_runV (As := [.int p0, .int (-1), .int 1]) (rest := []) ⟨hx, hb, hml, hown, hts⟩ (mX5_measure l dC dI kA _ q0 q_left q_leaving q_length q_target q_barred q_latest q_waited q_any qf qr qb qfF t0 w0 tnodes tpasses tpassesA tpassesS tpassesF tjars torders tfeasts tway tws tnow tfm tx p0 (-1) 1) (cwV 3 hts gX10_nearest_X5_measure rfl rfl rfl ⟨rfl, hdX5_measure⟩ ⟨(Nat.le_of_ble_eq_true rfl), (Nat.le_of_ble_eq_true rfl)⟩) ⟨zPc.blind, va_recv hK.1 hP (ci := 5) (q0 := 5) rfl rfl, zPre hK (hP.sub [5, 6, 1, 3, 4] rfl) (hD.sub [5, 6, 1, 3, 4] (by decide) rfl)⟩ rfl rfl hl.1 rfl (lv_room (Nat.le_of_ble_eq_true rfl)) dX10_nearest_32 ⟨(Nat.le_of_ble_eq_true rfl), (Nat.le_of_ble_eq_true rfl)⟩) hP hD hS hA [5, 6, 1, 3, 4] [0, 2, 7] rfl rfl (by decide) (by decide) (fun u9 H locs hw10 hP hD hS => ?_)
      obtain ⟨o12, rfl⟩ : ∃ z, z = u9 := ⟨_, rfl⟩
      have hp13 := hw10
      have eo12 : o12 = fX5_measure qfF tpassesS tpassesF p0 (-1) 1 := hp13
      have hG := zbnd hG eo12
      obtain ⟨hP, hD⟩ := z_re (L := [(x0, .inr (10, [.ref w0, .ref z0, .ref xi, .ref xt, .int x_tl, .ref xq, .int x_lc, .ref rdr, .ref h0, .ref t0, .ref q0, .ref v0, .ref m0])), (tnodesA, .inl (kA 0, 48, .inl tnodesF)), (tnodes, .inr (6, [.int 4, .ref tnodesA, .int tnodesS])), (q0, .inr (5, [.int q_left, .int q_leaving, .int q_length, .int q_target, .int q_barred, .int q_latest, .int q_waited, .int q_any, .ref qf, .ref qr, .ref qb, .ref w0, .ref t0])), (qf, .inl (kA 0, 12, .inl o12)), (w0, .inr (9, [.ref tnodes, .ref tpasses, .ref tjars, .ref torders, .ref tfeasts, .ref tway, .int tws, .int tnow, .int tfm, .int tx])), (tpasses, .inr (6, [.int 5, .ref tpassesA, .int tpassesS])), (tpassesA, .inl (kA 0, 100, .inl tpassesF))]) hP hD
      refine lv_bipush (v := (-2)) hx hb dX10_nearest_35 (by decide) ?_
      refine lv_istore_n (lv' := [(3, .int (-2)), (0, .ref x0), (1, .int p0), (2, .int p1)]) hx hb dX10_nearest_37 rfl hl (by decide) rfl (fun ls hl => ?_)
      refine lv_ldc hx hb hown (kX10_nearest_4 hts) dX10_nearest_38 ?_
      refine lv_istore (lv' := [(4, .int 1000000), (3, .int (-2)), (0, .ref x0), (1, .int p0), (2, .int p1)]) hx hb dX10_nearest_40 hl (by decide) rfl (fun ls hl => ?_)
      refine lv_iconst (v := 0) hx hb dX10_nearest_42 (by decide) ?_
      refine lv_istore (lv' := [(5, .int 0), (4, .int 1000000), (3, .int (-2)), (0, .ref x0), (1, .int p0), (2, .int p1)]) hx hb dX10_nearest_43 hl (by decide) rfl (fun ls hl => ?_)
      refine lp_mX10_nearest_45 hx hb hml hts hown hK hA (Nat.le_of_ble_eq_true rfl) (Nat.le_of_ble_eq_true rfl) (Nat.le_of_ble_eq_true rfl) (Nat.le_of_ble_eq_true rfl) x0 z0 xi xt xq rdr h0 t0 q0 v0 m0 w0 x_tl x_lc tnodes tnodesA tnodesS tnodesF tpasses tpassesA tpassesS tpassesF tjars torders tfeasts tway tws tnow tfm tx q_left q_leaving q_length q_target q_barred q_latest q_waited q_any qf qr qb p0 p1 o12 c_4 c_4a c_4b c_8 c_8a c_8b (fun w107_0_0 w107_1_0 w107_2_0 H locs ls hx107_5_nlt00_0 hG hP hD hS hl => ?_) _ 0 1000000 (-2) _ _ ls (Nat.lt_succ_self _) hG (by decide) hP hD hS (lv_sub hl [0, 1, 2, 3, 4, 5] rfl)
      obtain ⟨hP, hD⟩ := z_re (L := [(x0, .inr (10, [.ref w0, .ref z0, .ref xi, .ref xt, .int x_tl, .ref xq, .int x_lc, .ref rdr, .ref h0, .ref t0, .ref q0, .ref v0, .ref m0])), (tnodesA, .inl (kA 0, 48, .inl tnodesF)), (tnodes, .inr (6, [.int 4, .ref tnodesA, .int tnodesS])), (q0, .inr (5, [.int q_left, .int q_leaving, .int q_length, .int q_target, .int q_barred, .int q_latest, .int q_waited, .int q_any, .ref qf, .ref qr, .ref qb, .ref w0, .ref t0])), (qf, .inl (kA 0, 12, .inl o12)), (w0, .inr (9, [.ref tnodes, .ref tpasses, .ref tjars, .ref torders, .ref tfeasts, .ref tway, .int tws, .int tnow, .int tfm, .int tx])), (tpasses, .inr (6, [.int 5, .ref tpassesA, .int tpassesS])), (tpassesA, .inl (kA 0, 100, .inl tpassesF))]) hP hD
      refine lv_iload_n hx hb dX10_nearest_107 rfl (lv_at hl 2 rfl) ?_
      obtain ⟨hP9, hD9⟩ := z_sb (L' := [(x0, .inr (10, [.ref w0, .ref z0, .ref xi, .ref xt, .int x_tl, .ref xq, .int x_lc, .ref rdr, .ref h0, .ref t0, .ref q0, .ref v0, .ref m0])), (w0, .inr (9, [.ref tnodes, .ref tpasses, .ref tjars, .ref torders, .ref tfeasts, .ref tway, .int tws, .int tnow, .int tfm, .int tx])), (tnodes, .inr (6, [.int 4, .ref tnodesA, .int tnodesS])), (tnodesA, .inl (kA 0, 48, .inl tnodesF)), (tpasses, .inr (6, [.int 5, .ref tpassesA, .int tpassesS])), (tpassesA, .inl (kA 0, 100, .inl tpassesF)), (q0, .inr (5, [.int q_left, .int q_leaving, .int q_length, .int q_target, .int q_barred, .int q_latest, .int q_waited, .int q_any, .ref qf, .ref qr, .ref qb, .ref w0, .ref t0])), (qf, .inl (kA 0, 12, .inl o12))]) hP hD [0, 5, 2, 1, 6, 7, 3, 4] (by decide) rfl
      refine W.widen (k := 0) (n := 0) (Nat.le_of_ble_eq_true rfl) (Nat.le_of_ble_eq_true rfl) ?_
      exact W.iret (v := w107_2_0) hx hb hr (fun t ht hW => ⟨⟨w107_2_0, (o12, w107_2_0), rfl, ⟨rfl, (hG.trans hG0.symm)⟩, by rw [ht]; exact hP9, hD9⟩, hS.F ht⟩) hS.2.2 dX10_nearest_108
    · have hG := zthen hG c_8
      refine lv_iconst (v := (-1)) hx hb dX10_nearest_23 (by decide) ?_
      obtain ⟨hP9, hD9⟩ := z_sb (L' := [(x0, .inr (10, [.ref w0, .ref z0, .ref xi, .ref xt, .int x_tl, .ref xq, .int x_lc, .ref rdr, .ref h0, .ref t0, .ref q0, .ref v0, .ref m0])), (w0, .inr (9, [.ref tnodes, .ref tpasses, .ref tjars, .ref torders, .ref tfeasts, .ref tway, .int tws, .int tnow, .int tfm, .int tx])), (tnodes, .inr (6, [.int 4, .ref tnodesA, .int tnodesS])), (tnodesA, .inl (kA 0, 48, .inl tnodesF)), (tpasses, .inr (6, [.int 5, .ref tpassesA, .int tpassesS])), (tpassesA, .inl (kA 0, 100, .inl tpassesF)), (q0, .inr (5, [.int q_left, .int q_leaving, .int q_length, .int q_target, .int q_barred, .int q_latest, .int q_waited, .int q_any, .ref qf, .ref qr, .ref qb, .ref w0, .ref t0])), (qf, .inl (kA 0, 12, .inl qfF))]) hP hD [0, 1, 7, 2, 3, 4, 5, 6] (by decide) rfl
      refine W.widen (k := 0) (n := 0) (Nat.le_of_ble_eq_true rfl) (Nat.le_of_ble_eq_true rfl) ?_
      exact W.iret (v := (-1)) hx hb hr (fun t ht hW => ⟨⟨(-1), (qfF, (-1)), rfl, ⟨rfl, (hG.trans hG0.symm)⟩, by rw [ht]; exact hP9, hD9⟩, hS.F ht⟩) hS.2.2 dX10_nearest_24
set_option maxRecDepth 100000 in
def fX10_seed (tx : Int32) (p0 : Int32) : Int32 × Int32 := if 0 ≤ p0 then ((p0, tx)) else ((tx, (-1)))
set_option maxHeartbeats 4000000 in
set_option maxRecDepth 100000 in
theorem mX10_seed (l : Launch) (dC : Nat → ClassId) (dI : Nat → Nat → Nat) (kA : Nat → ClassId) (sz : Nat) (x0 : Nat) (z0 : Nat) (xi : Nat) (xt : Nat) (xq : Nat) (rdr : Nat) (h0 : Nat) (t0 : Nat) (q0 : Nat) (v0 : Nat) (m0 : Nat) (w0 : Nat) (x_tl : Int32) (x_lc : Int32) (tnodes : Nat) (tpasses : Nat) (tjars : Nat) (torders : Nat) (tfeasts : Nat) (tway : Nat) (tws : Int32) (tnow : Int32) (tfm : Int32) (tx : Int32) (p0 : Int32)  : Met l yX10_seed wsX10_seed ({ frames := 0, cells := 0, slots := 0, locals := 0 }) (zPc dC dI kA sz [.ref x0, .int p0] [(x0, .inr (10, [.ref w0, .ref z0, .ref xi, .ref xt, .int x_tl, .ref xq, .int x_lc, .ref rdr, .ref h0, .ref t0, .ref q0, .ref v0, .ref m0])), (w0, .inr (9, [.ref tnodes, .ref tpasses, .ref tjars, .ref torders, .ref tfeasts, .ref tway, .int tws, .int tnow, .int tfm, .int tx]))]) (va_Qi (fun (r : Int32) (u : Int32 × Int32) => r = u.2 ∧ (u.1, u.2) = fX10_seed tx p0) (zB dC dI (va_A [(x0, .inr (10, [.ref w0, .ref z0, .ref xi, .ref xt, .int x_tl, .ref xq, .int x_lc, .ref rdr, .ref h0, .ref t0, .ref q0, .ref v0, .ref m0])), (w0, .inr (9, [.ref tnodes, .ref tpasses, .ref tjars, .ref torders, .ref tfeasts, .ref tway, .int tws, .int tnow, .int tfm, .int tx]))] sz) (fun (u : Int32 × Int32) => [(x0, .inr (10, [.ref w0, .ref z0, .ref xi, .ref xt, .int x_tl, .ref xq, .int x_lc, .ref rdr, .ref h0, .ref t0, .ref q0, .ref v0, .ref m0])), (w0, .inr (9, [.ref tnodes, .ref tpasses, .ref tjars, .ref torders, .ref tfeasts, .ref tway, .int tws, .int tnow, .int tfm, .int u.1]))])) (va_A [(x0, .inr (10, [.ref w0, .ref z0, .ref xi, .ref xt, .int x_tl, .ref xq, .int x_lc, .ref rdr, .ref h0, .ref t0, .ref q0, .ref v0, .ref m0])), (w0, .inr (9, [.ref tnodes, .ref tpasses, .ref tjars, .ref torders, .ref tfeasts, .ref tway, .int tws, .int tnow, .int tfm, .int tx]))] sz)) 0 0 (va_A [(x0, .inr (10, [.ref w0, .ref z0, .ref xi, .ref xt, .int x_tl, .ref xq, .int x_lc, .ref rdr, .ref h0, .ref t0, .ref q0, .ref v0, .ref m0])), (w0, .inr (9, [.ref tnodes, .ref tpasses, .ref tjars, .ref torders, .ref tfeasts, .ref tway, .int tws, .int tnow, .int tfm, .int tx]))] sz) := by
  refine Met.ofW (cc := cX10_seed) (maxL := 3) (ret := (some .int)) (by decide) rfl ?_
  intro p e s m args below meth c s₁ B hml hv
  obtain ⟨rfl, hsz, hP, hK, hD0⟩ := hv
  have hx := B.exec
  have hb := B.bytes
  have hr := B.returns
  have hts := atoms_spec (ws := wsX10_seed) B.pre
  have hown : s.vm.findClass RX10 = some m.cls := findClass_of_methodNamed B.named
  have hlocks := B.notSynchronized
  subst hsz
  have hD := hD0.self (sz := s.heap.size)
  generalize hAe : va_A [(x0, .inr (10, [.ref w0, .ref z0, .ref xi, .ref xt, .int x_tl, .ref xq, .int x_lc, .ref rdr, .ref h0, .ref t0, .ref q0, .ref v0, .ref m0])), (w0, .inr (9, [.ref tnodes, .ref tpasses, .ref tjars, .ref torders, .ref tfeasts, .ref tway, .int tws, .int tnow, .int tfm, .int tx]))] s.heap.size = A at hD ⊢
  have hA : ∀ q : Nat, s.heap.size ≤ q → A q := fun q h => by rw [← hAe]; exact Or.inr h
  have hS : va_S A s.heap s.heap [] := va_S.rf
  have hP : va_P (dC, dI) vwCl [(x0, .inr (10, [.ref w0, .ref z0, .ref xi, .ref xt, .int x_tl, .ref xq, .int x_lc, .ref rdr, .ref h0, .ref t0, .ref q0, .ref v0, .ref m0])), (w0, .inr (9, [.ref tnodes, .ref tpasses, .ref tjars, .ref torders, .ref tfeasts, .ref tway, .int tws, .int tnow, .int tfm, .int tx]))] s.heap := hP
  have hl := lv_entry ([.ref x0, .int p0]) (n := 3) (Nat.le_of_ble_eq_true rfl)
  rw [lg_entry_eq]
  generalize (lg_sl ([.ref x0, .int p0]) ++ List.replicate (3 - (lg_sl ([.ref x0, .int p0])).length) Slot.unset).toArray = ls at hl ⊢
  have hl : lv_has ls 3 [(0, .ref x0), (1, .int p0)] := hl
  obtain ⟨G, hG0⟩ : ∃ G : Int32 × Int32, fX10_seed tx p0 = G := ⟨_, rfl⟩
  have hG := hG0
  unfold fX10_seed at hG
  refine lv_iload_n hx hb dX10_seed_0 rfl (lv_at hl 1 rfl) ?_
  refine lv_if_ge (tgt := 6) hx hb dX10_seed_1 (by decide) (fun c_1 => ?_) (fun c_1 => ?_)
  · have hG := zthen hG c_1
    refine lv_aload_n hx hb dX10_seed_6 rfl (lv_at hl 0 rfl) ?_
    refine va_get (D := (dC, dI)) (ci := 10) (v := .ref w0) (C := RX10) (T := TX10) (N := 13) hx hb hts iX10_seed_X10 hown hK.1 hP 0 rfl rfl 0 (by decide) (kX10_seed_1 hts) (fun _ h9 => h9) rfl dX10_seed_7 ?_
    refine va_get (D := (dC, dI)) (ci := 9) (v := .int tx) (C := RX9) (T := TX9) (N := 10) hx hb hts iX10_seed_X9 hown hK.1 hP 1 rfl rfl 9 (by decide) (kX10_seed_2 hts) (fun _ h9 => h9) rfl dX10_seed_10 ?_
    refine lv_istore_n (lv' := [(2, .int tx), (0, .ref x0), (1, .int p0)]) hx hb dX10_seed_13 rfl hl (by decide) rfl (fun ls hl => ?_)
    refine lv_aload_n hx hb dX10_seed_14 rfl (lv_at hl 1 rfl) ?_
    refine va_get (D := (dC, dI)) (ci := 10) (v := .ref w0) (C := RX10) (T := TX10) (N := 13) hx hb hts iX10_seed_X10 hown hK.1 hP 0 rfl rfl 0 (by decide) (kX10_seed_1 hts) (fun _ h9 => h9) rfl dX10_seed_15 ?_
    refine lv_iload_n hx hb dX10_seed_18 rfl (lv_at hl 2 rfl) ?_
    refine va_put (D := (dC, dI)) (ci := 9) (v := .int p0) (ty := .int) (C := RX9) (T := TX9) (N := 10) hx hb hts iX10_seed_X9 tyX9 tyX9_ok nmX9 hown hK.1 hP hD hS 1 rfl rfl 9 (by decide) (kX10_seed_2 hts) (fun _ h9 => h9) rfl (by decide +kernel) rfl rfl (Nat.le_of_ble_eq_true rfl) dX10_seed_19 (fun H locs hP hD hS => ?_)
    obtain ⟨hP, hD⟩ := z_re (L := [(x0, .inr (10, [.ref w0, .ref z0, .ref xi, .ref xt, .int x_tl, .ref xq, .int x_lc, .ref rdr, .ref h0, .ref t0, .ref q0, .ref v0, .ref m0])), (w0, .inr (9, [.ref tnodes, .ref tpasses, .ref tjars, .ref torders, .ref tfeasts, .ref tway, .int tws, .int tnow, .int tfm, .int p0]))]) hP hD
    refine lv_iload_n hx hb dX10_seed_22 rfl (lv_at hl 0 rfl) ?_
    obtain ⟨hP9, hD9⟩ := z_sb (L' := [(x0, .inr (10, [.ref w0, .ref z0, .ref xi, .ref xt, .int x_tl, .ref xq, .int x_lc, .ref rdr, .ref h0, .ref t0, .ref q0, .ref v0, .ref m0])), (w0, .inr (9, [.ref tnodes, .ref tpasses, .ref tjars, .ref torders, .ref tfeasts, .ref tway, .int tws, .int tnow, .int tfm, .int p0]))]) hP hD [0, 1] (by decide) rfl
    refine W.widen (k := 0) (n := 0) (Nat.le_of_ble_eq_true rfl) (Nat.le_of_ble_eq_true rfl) ?_
    exact W.iret (v := tx) hx hb hr (fun t ht hW => ⟨⟨tx, (p0, tx), rfl, ⟨rfl, (hG.trans hG0.symm)⟩, by rw [ht]; exact hP9, hD9⟩, hS.F ht⟩) hS.2.2 dX10_seed_23
  · have hG := zelse hG c_1
    refine lv_iconst (v := (-1)) hx hb dX10_seed_4 (by decide) ?_
    obtain ⟨hP9, hD9⟩ := z_sb (L' := [(x0, .inr (10, [.ref w0, .ref z0, .ref xi, .ref xt, .int x_tl, .ref xq, .int x_lc, .ref rdr, .ref h0, .ref t0, .ref q0, .ref v0, .ref m0])), (w0, .inr (9, [.ref tnodes, .ref tpasses, .ref tjars, .ref torders, .ref tfeasts, .ref tway, .int tws, .int tnow, .int tfm, .int tx]))]) hP hD [0, 1] (by decide) rfl
    refine W.widen (k := 0) (n := 0) (Nat.le_of_ble_eq_true rfl) (Nat.le_of_ble_eq_true rfl) ?_
    exact W.iret (v := (-1)) hx hb hr (fun t ht hW => ⟨⟨(-1), (tx, (-1)), rfl, ⟨rfl, (hG.trans hG0.symm)⟩, by rw [ht]; exact hP9, hD9⟩, hS.F ht⟩) hS.2.2 dX10_seed_5
set_option maxRecDepth 100000 in
def fX10_count (x_tl : Int32) (x_lc : Int32) (tnodesS : Int32) (tpassesS : Int32) (tjarsS : Int32) (tordersS : Int32) (tfeastsS : Int32) (twayS : Int32) (tws : Int32) (tnow : Int32) (tfm : Int32) (tx : Int32) (p0 : Int32) : Int32 := if p0 = 0 then (tnodesS) else (if p0 = 1 then (tpassesS) else (if p0 = 2 then (tjarsS) else (if p0 = 3 then (x_lc) else (if p0 = 4 then (tnow) else (if p0 = 5 then (bnd (fX9_monthAt tfm tnow) (fun (r4 : Int32) => r4)) else (if p0 = 6 then (tordersS) else (if p0 = 7 then (tfeastsS) else (if p0 = 8 then (if tws = (-1) then ((-1)) else (twayS)) else (if p0 = 9 then (tx) else (if p0 = 10 then (x_tl) else ((-1))))))))))))
set_option maxHeartbeats 4000000 in
set_option maxRecDepth 100000 in
theorem mX10_count (l : Launch) (dC : Nat → ClassId) (dI : Nat → Nat → Nat) (kA : Nat → ClassId) (sz : Nat) (x0 : Nat) (z0 : Nat) (xi : Nat) (xt : Nat) (xq : Nat) (rdr : Nat) (h0 : Nat) (t0 : Nat) (q0 : Nat) (v0 : Nat) (m0 : Nat) (w0 : Nat) (x_tl : Int32) (x_lc : Int32) (tnodes : Nat) (tnodesA : Nat) (tnodesS : Int32) (tpasses : Nat) (tpassesA : Nat) (tpassesS : Int32) (tjars : Nat) (tjarsA : Nat) (tjarsS : Int32) (torders : Nat) (tordersA : Nat) (tordersS : Int32) (tfeasts : Nat) (tfeastsA : Nat) (tfeastsS : Int32) (tway : Nat) (twayA : Nat) (twayS : Int32) (tws : Int32) (tnow : Int32) (tfm : Int32) (tx : Int32) (p0 : Int32)  : Met l yX10_count wsX10_count ({ frames := 1, cells := 0, slots := 0, locals := 21 }) (zPc dC dI kA sz [.ref x0, .int p0] [(x0, .inr (10, [.ref w0, .ref z0, .ref xi, .ref xt, .int x_tl, .ref xq, .int x_lc, .ref rdr, .ref h0, .ref t0, .ref q0, .ref v0, .ref m0])), (w0, .inr (9, [.ref tnodes, .ref tpasses, .ref tjars, .ref torders, .ref tfeasts, .ref tway, .int tws, .int tnow, .int tfm, .int tx])), (tnodes, .inr (6, [.int 4, .ref tnodesA, .int tnodesS])), (tpasses, .inr (6, [.int 5, .ref tpassesA, .int tpassesS])), (tjars, .inr (6, [.int 9, .ref tjarsA, .int tjarsS])), (torders, .inr (6, [.int 4, .ref tordersA, .int tordersS])), (tfeasts, .inr (6, [.int 3, .ref tfeastsA, .int tfeastsS])), (tway, .inr (6, [.int 1, .ref twayA, .int twayS]))]) (va_Qi (fun (r : Int32) (u : Int32) => r = u ∧ u = fX10_count x_tl x_lc tnodesS tpassesS tjarsS tordersS tfeastsS twayS tws tnow tfm tx p0) (zB dC dI (va_A [(x0, .inr (10, [.ref w0, .ref z0, .ref xi, .ref xt, .int x_tl, .ref xq, .int x_lc, .ref rdr, .ref h0, .ref t0, .ref q0, .ref v0, .ref m0])), (w0, .inr (9, [.ref tnodes, .ref tpasses, .ref tjars, .ref torders, .ref tfeasts, .ref tway, .int tws, .int tnow, .int tfm, .int tx])), (tnodes, .inr (6, [.int 4, .ref tnodesA, .int tnodesS])), (tpasses, .inr (6, [.int 5, .ref tpassesA, .int tpassesS])), (tjars, .inr (6, [.int 9, .ref tjarsA, .int tjarsS])), (torders, .inr (6, [.int 4, .ref tordersA, .int tordersS])), (tfeasts, .inr (6, [.int 3, .ref tfeastsA, .int tfeastsS])), (tway, .inr (6, [.int 1, .ref twayA, .int twayS]))] sz) (fun (u : Int32) => [(x0, .inr (10, [.ref w0, .ref z0, .ref xi, .ref xt, .int x_tl, .ref xq, .int x_lc, .ref rdr, .ref h0, .ref t0, .ref q0, .ref v0, .ref m0])), (w0, .inr (9, [.ref tnodes, .ref tpasses, .ref tjars, .ref torders, .ref tfeasts, .ref tway, .int tws, .int tnow, .int tfm, .int tx])), (tnodes, .inr (6, [.int 4, .ref tnodesA, .int tnodesS])), (tpasses, .inr (6, [.int 5, .ref tpassesA, .int tpassesS])), (tjars, .inr (6, [.int 9, .ref tjarsA, .int tjarsS])), (torders, .inr (6, [.int 4, .ref tordersA, .int tordersS])), (tfeasts, .inr (6, [.int 3, .ref tfeastsA, .int tfeastsS])), (tway, .inr (6, [.int 1, .ref twayA, .int twayS]))])) (va_A [(x0, .inr (10, [.ref w0, .ref z0, .ref xi, .ref xt, .int x_tl, .ref xq, .int x_lc, .ref rdr, .ref h0, .ref t0, .ref q0, .ref v0, .ref m0])), (w0, .inr (9, [.ref tnodes, .ref tpasses, .ref tjars, .ref torders, .ref tfeasts, .ref tway, .int tws, .int tnow, .int tfm, .int tx])), (tnodes, .inr (6, [.int 4, .ref tnodesA, .int tnodesS])), (tpasses, .inr (6, [.int 5, .ref tpassesA, .int tpassesS])), (tjars, .inr (6, [.int 9, .ref tjarsA, .int tjarsS])), (torders, .inr (6, [.int 4, .ref tordersA, .int tordersS])), (tfeasts, .inr (6, [.int 3, .ref tfeastsA, .int tfeastsS])), (tway, .inr (6, [.int 1, .ref twayA, .int twayS]))] sz)) 0 0 (va_A [(x0, .inr (10, [.ref w0, .ref z0, .ref xi, .ref xt, .int x_tl, .ref xq, .int x_lc, .ref rdr, .ref h0, .ref t0, .ref q0, .ref v0, .ref m0])), (w0, .inr (9, [.ref tnodes, .ref tpasses, .ref tjars, .ref torders, .ref tfeasts, .ref tway, .int tws, .int tnow, .int tfm, .int tx])), (tnodes, .inr (6, [.int 4, .ref tnodesA, .int tnodesS])), (tpasses, .inr (6, [.int 5, .ref tpassesA, .int tpassesS])), (tjars, .inr (6, [.int 9, .ref tjarsA, .int tjarsS])), (torders, .inr (6, [.int 4, .ref tordersA, .int tordersS])), (tfeasts, .inr (6, [.int 3, .ref tfeastsA, .int tfeastsS])), (tway, .inr (6, [.int 1, .ref twayA, .int twayS]))] sz) := by
  refine Met.ofW (cc := cX10_count) (maxL := 2) (ret := (some .int)) (by decide) rfl ?_
  intro p e s m args below meth c s₁ B hml hv
  obtain ⟨rfl, hsz, hP, hK, hD0⟩ := hv
  have hx := B.exec
  have hb := B.bytes
  have hr := B.returns
  have hts := atoms_spec (ws := wsX10_count) B.pre
  have hown : s.vm.findClass RX10 = some m.cls := findClass_of_methodNamed B.named
  have hlocks := B.notSynchronized
  subst hsz
  have hD := hD0.self (sz := s.heap.size)
  generalize hAe : va_A [(x0, .inr (10, [.ref w0, .ref z0, .ref xi, .ref xt, .int x_tl, .ref xq, .int x_lc, .ref rdr, .ref h0, .ref t0, .ref q0, .ref v0, .ref m0])), (w0, .inr (9, [.ref tnodes, .ref tpasses, .ref tjars, .ref torders, .ref tfeasts, .ref tway, .int tws, .int tnow, .int tfm, .int tx])), (tnodes, .inr (6, [.int 4, .ref tnodesA, .int tnodesS])), (tpasses, .inr (6, [.int 5, .ref tpassesA, .int tpassesS])), (tjars, .inr (6, [.int 9, .ref tjarsA, .int tjarsS])), (torders, .inr (6, [.int 4, .ref tordersA, .int tordersS])), (tfeasts, .inr (6, [.int 3, .ref tfeastsA, .int tfeastsS])), (tway, .inr (6, [.int 1, .ref twayA, .int twayS]))] s.heap.size = A at hD ⊢
  have hA : ∀ q : Nat, s.heap.size ≤ q → A q := fun q h => by rw [← hAe]; exact Or.inr h
  have hS : va_S A s.heap s.heap [] := va_S.rf
  have hP : va_P (dC, dI) vwCl [(x0, .inr (10, [.ref w0, .ref z0, .ref xi, .ref xt, .int x_tl, .ref xq, .int x_lc, .ref rdr, .ref h0, .ref t0, .ref q0, .ref v0, .ref m0])), (w0, .inr (9, [.ref tnodes, .ref tpasses, .ref tjars, .ref torders, .ref tfeasts, .ref tway, .int tws, .int tnow, .int tfm, .int tx])), (tnodes, .inr (6, [.int 4, .ref tnodesA, .int tnodesS])), (tpasses, .inr (6, [.int 5, .ref tpassesA, .int tpassesS])), (tjars, .inr (6, [.int 9, .ref tjarsA, .int tjarsS])), (torders, .inr (6, [.int 4, .ref tordersA, .int tordersS])), (tfeasts, .inr (6, [.int 3, .ref tfeastsA, .int tfeastsS])), (tway, .inr (6, [.int 1, .ref twayA, .int twayS]))] s.heap := hP
  have hl := lv_entry ([.ref x0, .int p0]) (n := 2) (Nat.le_of_ble_eq_true rfl)
  rw [lg_entry_eq]
  generalize (lg_sl ([.ref x0, .int p0]) ++ List.replicate (2 - (lg_sl ([.ref x0, .int p0])).length) Slot.unset).toArray = ls at hl ⊢
  have hl : lv_has ls 2 [(0, .ref x0), (1, .int p0)] := hl
  obtain ⟨G, hG0⟩ : ∃ G : Int32, fX10_count x_tl x_lc tnodesS tpassesS tjarsS tordersS tfeastsS twayS tws tnow tfm tx p0 = G := ⟨_, rfl⟩
  have hG := hG0
  unfold fX10_count at hG
  refine lv_iload_n hx hb dX10_count_0 rfl (lv_at hl 1 rfl) ?_
  rcases sw_0_10 p0 with hs1 | hs1 | hs1 | hs1 | hs1 | hs1 | hs1 | hs1 | hs1 | hs1 | hs1 | hs1
  · have hG := zelse hG (fun q9 => by rw [q9] at hs1; revert hs1; decide)
    have hG := zelse hG (fun q9 => by rw [q9] at hs1; revert hs1; decide)
    have hG := zelse hG (fun q9 => by rw [q9] at hs1; revert hs1; decide)
    have hG := zelse hG (fun q9 => by rw [q9] at hs1; revert hs1; decide)
    have hG := zelse hG (fun q9 => by rw [q9] at hs1; revert hs1; decide)
    have hG := zelse hG (fun q9 => by rw [q9] at hs1; revert hs1; decide)
    have hG := zelse hG (fun q9 => by rw [q9] at hs1; revert hs1; decide)
    have hG := zelse hG (fun q9 => by rw [q9] at hs1; revert hs1; decide)
    have hG := zelse hG (fun q9 => by rw [q9] at hs1; revert hs1; decide)
    have hG := zelse hG (fun q9 => by rw [q9] at hs1; revert hs1; decide)
    have hG := zelse hG (fun q9 => by rw [q9] at hs1; revert hs1; decide)
    refine lv_tableOut (tgt := 182) hx hb dX10_count_1 hs1 (by decide) ?_
    refine lv_iconst (v := (-1)) hx hb dX10_count_182 (by decide) ?_
    obtain ⟨hP9, hD9⟩ := z_sb (L' := [(x0, .inr (10, [.ref w0, .ref z0, .ref xi, .ref xt, .int x_tl, .ref xq, .int x_lc, .ref rdr, .ref h0, .ref t0, .ref q0, .ref v0, .ref m0])), (w0, .inr (9, [.ref tnodes, .ref tpasses, .ref tjars, .ref torders, .ref tfeasts, .ref tway, .int tws, .int tnow, .int tfm, .int tx])), (tnodes, .inr (6, [.int 4, .ref tnodesA, .int tnodesS])), (tpasses, .inr (6, [.int 5, .ref tpassesA, .int tpassesS])), (tjars, .inr (6, [.int 9, .ref tjarsA, .int tjarsS])), (torders, .inr (6, [.int 4, .ref tordersA, .int tordersS])), (tfeasts, .inr (6, [.int 3, .ref tfeastsA, .int tfeastsS])), (tway, .inr (6, [.int 1, .ref twayA, .int twayS]))]) hP hD [0, 1, 2, 3, 4, 5, 6, 7] (by decide) rfl
    refine W.widen (k := 0) (n := 0) (Nat.le_of_ble_eq_true rfl) (Nat.le_of_ble_eq_true rfl) ?_
    exact W.iret (v := (-1)) hx hb hr (fun t ht hW => ⟨⟨(-1), ((-1)), rfl, ⟨rfl, (hG.trans hG0.symm)⟩, by rw [ht]; exact hP9, hD9⟩, hS.F ht⟩) hS.2.2 dX10_count_183
  · have hG := zthen hG hs1
    refine lv_tableIn (off := 59) (tgt := 60) hx hb dX10_count_1 (by rw [hs1]; decide) (by rw [hs1]; decide) (by rw [hs1]; decide) (by decide) ?_
    have hl : lv_has ls 2 [(0, .ref x0), (1, .int 0)] := by rw [hs1] at hl; exact hl
    refine lv_aload_n hx hb dX10_count_60 rfl (lv_at hl 0 rfl) ?_
    refine va_get (D := (dC, dI)) (ci := 10) (v := .ref w0) (C := RX10) (T := TX10) (N := 13) hx hb hts iX10_count_X10 hown hK.1 hP 0 rfl rfl 0 (by decide) (kX10_count_1 hts) (fun _ h9 => h9) rfl dX10_count_61 ?_
    refine va_get (D := (dC, dI)) (ci := 9) (v := .ref tnodes) (C := RX9) (T := TX9) (N := 10) hx hb hts iX10_count_X9 hown hK.1 hP 1 rfl rfl 0 (by decide) (kX10_count_2 hts) (fun _ h9 => h9) rfl dX10_count_64 ?_
    refine va_get (D := (dC, dI)) (ci := 6) (v := .int tnodesS) (C := RX6) (T := TX6) (N := 3) hx hb hts iX10_count_X6 hown hK.1 hP 2 rfl rfl 2 (by decide) (kX10_count_3 hts) (fun _ h9 => h9) rfl dX10_count_67 ?_
    obtain ⟨hP9, hD9⟩ := z_sb (L' := [(x0, .inr (10, [.ref w0, .ref z0, .ref xi, .ref xt, .int x_tl, .ref xq, .int x_lc, .ref rdr, .ref h0, .ref t0, .ref q0, .ref v0, .ref m0])), (w0, .inr (9, [.ref tnodes, .ref tpasses, .ref tjars, .ref torders, .ref tfeasts, .ref tway, .int tws, .int tnow, .int tfm, .int tx])), (tnodes, .inr (6, [.int 4, .ref tnodesA, .int tnodesS])), (tpasses, .inr (6, [.int 5, .ref tpassesA, .int tpassesS])), (tjars, .inr (6, [.int 9, .ref tjarsA, .int tjarsS])), (torders, .inr (6, [.int 4, .ref tordersA, .int tordersS])), (tfeasts, .inr (6, [.int 3, .ref tfeastsA, .int tfeastsS])), (tway, .inr (6, [.int 1, .ref twayA, .int twayS]))]) hP hD [0, 1, 2, 3, 4, 5, 6, 7] (by decide) rfl
    refine W.widen (k := 0) (n := 0) (Nat.le_of_ble_eq_true rfl) (Nat.le_of_ble_eq_true rfl) ?_
    exact W.iret (v := tnodesS) hx hb hr (fun t ht hW => ⟨⟨tnodesS, (tnodesS), rfl, ⟨rfl, (hG.trans hG0.symm)⟩, by rw [ht]; exact hP9, hD9⟩, hS.F ht⟩) hS.2.2 dX10_count_70
  · have hG := zelse hG (fun q9 => by rw [q9] at hs1; revert hs1; decide)
    have hG := zthen hG hs1
    refine lv_tableIn (off := 70) (tgt := 71) hx hb dX10_count_1 (by rw [hs1]; decide) (by rw [hs1]; decide) (by rw [hs1]; decide) (by decide) ?_
    have hl : lv_has ls 2 [(0, .ref x0), (1, .int 1)] := by rw [hs1] at hl; exact hl
    refine lv_aload_n hx hb dX10_count_71 rfl (lv_at hl 0 rfl) ?_
    refine va_get (D := (dC, dI)) (ci := 10) (v := .ref w0) (C := RX10) (T := TX10) (N := 13) hx hb hts iX10_count_X10 hown hK.1 hP 0 rfl rfl 0 (by decide) (kX10_count_1 hts) (fun _ h9 => h9) rfl dX10_count_72 ?_
    refine va_get (D := (dC, dI)) (ci := 9) (v := .ref tpasses) (C := RX9) (T := TX9) (N := 10) hx hb hts iX10_count_X9 hown hK.1 hP 1 rfl rfl 1 (by decide) (kX10_count_4 hts) (fun _ h9 => h9) rfl dX10_count_75 ?_
    refine va_get (D := (dC, dI)) (ci := 6) (v := .int tpassesS) (C := RX6) (T := TX6) (N := 3) hx hb hts iX10_count_X6 hown hK.1 hP 3 rfl rfl 2 (by decide) (kX10_count_3 hts) (fun _ h9 => h9) rfl dX10_count_78 ?_
    obtain ⟨hP9, hD9⟩ := z_sb (L' := [(x0, .inr (10, [.ref w0, .ref z0, .ref xi, .ref xt, .int x_tl, .ref xq, .int x_lc, .ref rdr, .ref h0, .ref t0, .ref q0, .ref v0, .ref m0])), (w0, .inr (9, [.ref tnodes, .ref tpasses, .ref tjars, .ref torders, .ref tfeasts, .ref tway, .int tws, .int tnow, .int tfm, .int tx])), (tnodes, .inr (6, [.int 4, .ref tnodesA, .int tnodesS])), (tpasses, .inr (6, [.int 5, .ref tpassesA, .int tpassesS])), (tjars, .inr (6, [.int 9, .ref tjarsA, .int tjarsS])), (torders, .inr (6, [.int 4, .ref tordersA, .int tordersS])), (tfeasts, .inr (6, [.int 3, .ref tfeastsA, .int tfeastsS])), (tway, .inr (6, [.int 1, .ref twayA, .int twayS]))]) hP hD [0, 1, 2, 3, 4, 5, 6, 7] (by decide) rfl
    refine W.widen (k := 0) (n := 0) (Nat.le_of_ble_eq_true rfl) (Nat.le_of_ble_eq_true rfl) ?_
    exact W.iret (v := tpassesS) hx hb hr (fun t ht hW => ⟨⟨tpassesS, (tpassesS), rfl, ⟨rfl, (hG.trans hG0.symm)⟩, by rw [ht]; exact hP9, hD9⟩, hS.F ht⟩) hS.2.2 dX10_count_81
  · have hG := zelse hG (fun q9 => by rw [q9] at hs1; revert hs1; decide)
    have hG := zelse hG (fun q9 => by rw [q9] at hs1; revert hs1; decide)
    have hG := zthen hG hs1
    refine lv_tableIn (off := 81) (tgt := 82) hx hb dX10_count_1 (by rw [hs1]; decide) (by rw [hs1]; decide) (by rw [hs1]; decide) (by decide) ?_
    have hl : lv_has ls 2 [(0, .ref x0), (1, .int 2)] := by rw [hs1] at hl; exact hl
    refine lv_aload_n hx hb dX10_count_82 rfl (lv_at hl 0 rfl) ?_
    refine va_get (D := (dC, dI)) (ci := 10) (v := .ref w0) (C := RX10) (T := TX10) (N := 13) hx hb hts iX10_count_X10 hown hK.1 hP 0 rfl rfl 0 (by decide) (kX10_count_1 hts) (fun _ h9 => h9) rfl dX10_count_83 ?_
    refine va_get (D := (dC, dI)) (ci := 9) (v := .ref tjars) (C := RX9) (T := TX9) (N := 10) hx hb hts iX10_count_X9 hown hK.1 hP 1 rfl rfl 2 (by decide) (kX10_count_5 hts) (fun _ h9 => h9) rfl dX10_count_86 ?_
    refine va_get (D := (dC, dI)) (ci := 6) (v := .int tjarsS) (C := RX6) (T := TX6) (N := 3) hx hb hts iX10_count_X6 hown hK.1 hP 4 rfl rfl 2 (by decide) (kX10_count_3 hts) (fun _ h9 => h9) rfl dX10_count_89 ?_
    obtain ⟨hP9, hD9⟩ := z_sb (L' := [(x0, .inr (10, [.ref w0, .ref z0, .ref xi, .ref xt, .int x_tl, .ref xq, .int x_lc, .ref rdr, .ref h0, .ref t0, .ref q0, .ref v0, .ref m0])), (w0, .inr (9, [.ref tnodes, .ref tpasses, .ref tjars, .ref torders, .ref tfeasts, .ref tway, .int tws, .int tnow, .int tfm, .int tx])), (tnodes, .inr (6, [.int 4, .ref tnodesA, .int tnodesS])), (tpasses, .inr (6, [.int 5, .ref tpassesA, .int tpassesS])), (tjars, .inr (6, [.int 9, .ref tjarsA, .int tjarsS])), (torders, .inr (6, [.int 4, .ref tordersA, .int tordersS])), (tfeasts, .inr (6, [.int 3, .ref tfeastsA, .int tfeastsS])), (tway, .inr (6, [.int 1, .ref twayA, .int twayS]))]) hP hD [0, 1, 2, 3, 4, 5, 6, 7] (by decide) rfl
    refine W.widen (k := 0) (n := 0) (Nat.le_of_ble_eq_true rfl) (Nat.le_of_ble_eq_true rfl) ?_
    exact W.iret (v := tjarsS) hx hb hr (fun t ht hW => ⟨⟨tjarsS, (tjarsS), rfl, ⟨rfl, (hG.trans hG0.symm)⟩, by rw [ht]; exact hP9, hD9⟩, hS.F ht⟩) hS.2.2 dX10_count_92
  · have hG := zelse hG (fun q9 => by rw [q9] at hs1; revert hs1; decide)
    have hG := zelse hG (fun q9 => by rw [q9] at hs1; revert hs1; decide)
    have hG := zelse hG (fun q9 => by rw [q9] at hs1; revert hs1; decide)
    have hG := zthen hG hs1
    refine lv_tableIn (off := 92) (tgt := 93) hx hb dX10_count_1 (by rw [hs1]; decide) (by rw [hs1]; decide) (by rw [hs1]; decide) (by decide) ?_
    have hl : lv_has ls 2 [(0, .ref x0), (1, .int 3)] := by rw [hs1] at hl; exact hl
    refine lv_aload_n hx hb dX10_count_93 rfl (lv_at hl 0 rfl) ?_
    refine va_get (D := (dC, dI)) (ci := 10) (v := .int x_lc) (C := RX10) (T := TX10) (N := 13) hx hb hts iX10_count_X10 hown hK.1 hP 0 rfl rfl 6 (by decide) (kX10_count_6 hts) (fun _ h9 => h9) rfl dX10_count_94 ?_
    obtain ⟨hP9, hD9⟩ := z_sb (L' := [(x0, .inr (10, [.ref w0, .ref z0, .ref xi, .ref xt, .int x_tl, .ref xq, .int x_lc, .ref rdr, .ref h0, .ref t0, .ref q0, .ref v0, .ref m0])), (w0, .inr (9, [.ref tnodes, .ref tpasses, .ref tjars, .ref torders, .ref tfeasts, .ref tway, .int tws, .int tnow, .int tfm, .int tx])), (tnodes, .inr (6, [.int 4, .ref tnodesA, .int tnodesS])), (tpasses, .inr (6, [.int 5, .ref tpassesA, .int tpassesS])), (tjars, .inr (6, [.int 9, .ref tjarsA, .int tjarsS])), (torders, .inr (6, [.int 4, .ref tordersA, .int tordersS])), (tfeasts, .inr (6, [.int 3, .ref tfeastsA, .int tfeastsS])), (tway, .inr (6, [.int 1, .ref twayA, .int twayS]))]) hP hD [0, 1, 2, 3, 4, 5, 6, 7] (by decide) rfl
    refine W.widen (k := 0) (n := 0) (Nat.le_of_ble_eq_true rfl) (Nat.le_of_ble_eq_true rfl) ?_
    exact W.iret (v := x_lc) hx hb hr (fun t ht hW => ⟨⟨x_lc, (x_lc), rfl, ⟨rfl, (hG.trans hG0.symm)⟩, by rw [ht]; exact hP9, hD9⟩, hS.F ht⟩) hS.2.2 dX10_count_97
  · have hG := zelse hG (fun q9 => by rw [q9] at hs1; revert hs1; decide)
    have hG := zelse hG (fun q9 => by rw [q9] at hs1; revert hs1; decide)
    have hG := zelse hG (fun q9 => by rw [q9] at hs1; revert hs1; decide)
    have hG := zelse hG (fun q9 => by rw [q9] at hs1; revert hs1; decide)
    have hG := zthen hG hs1
    refine lv_tableIn (off := 97) (tgt := 98) hx hb dX10_count_1 (by rw [hs1]; decide) (by rw [hs1]; decide) (by rw [hs1]; decide) (by decide) ?_
    have hl : lv_has ls 2 [(0, .ref x0), (1, .int 4)] := by rw [hs1] at hl; exact hl
    refine lv_aload_n hx hb dX10_count_98 rfl (lv_at hl 0 rfl) ?_
    refine va_get (D := (dC, dI)) (ci := 10) (v := .ref w0) (C := RX10) (T := TX10) (N := 13) hx hb hts iX10_count_X10 hown hK.1 hP 0 rfl rfl 0 (by decide) (kX10_count_1 hts) (fun _ h9 => h9) rfl dX10_count_99 ?_
    refine va_get (D := (dC, dI)) (ci := 9) (v := .int tnow) (C := RX9) (T := TX9) (N := 10) hx hb hts iX10_count_X9 hown hK.1 hP 1 rfl rfl 7 (by decide) (kX10_count_7 hts) (fun _ h9 => h9) rfl dX10_count_102 ?_
    obtain ⟨hP9, hD9⟩ := z_sb (L' := [(x0, .inr (10, [.ref w0, .ref z0, .ref xi, .ref xt, .int x_tl, .ref xq, .int x_lc, .ref rdr, .ref h0, .ref t0, .ref q0, .ref v0, .ref m0])), (w0, .inr (9, [.ref tnodes, .ref tpasses, .ref tjars, .ref torders, .ref tfeasts, .ref tway, .int tws, .int tnow, .int tfm, .int tx])), (tnodes, .inr (6, [.int 4, .ref tnodesA, .int tnodesS])), (tpasses, .inr (6, [.int 5, .ref tpassesA, .int tpassesS])), (tjars, .inr (6, [.int 9, .ref tjarsA, .int tjarsS])), (torders, .inr (6, [.int 4, .ref tordersA, .int tordersS])), (tfeasts, .inr (6, [.int 3, .ref tfeastsA, .int tfeastsS])), (tway, .inr (6, [.int 1, .ref twayA, .int twayS]))]) hP hD [0, 1, 2, 3, 4, 5, 6, 7] (by decide) rfl
    refine W.widen (k := 0) (n := 0) (Nat.le_of_ble_eq_true rfl) (Nat.le_of_ble_eq_true rfl) ?_
    exact W.iret (v := tnow) hx hb hr (fun t ht hW => ⟨⟨tnow, (tnow), rfl, ⟨rfl, (hG.trans hG0.symm)⟩, by rw [ht]; exact hP9, hD9⟩, hS.F ht⟩) hS.2.2 dX10_count_105
  · have hG := zelse hG (fun q9 => by rw [q9] at hs1; revert hs1; decide)
    have hG := zelse hG (fun q9 => by rw [q9] at hs1; revert hs1; decide)
    have hG := zelse hG (fun q9 => by rw [q9] at hs1; revert hs1; decide)
    have hG := zelse hG (fun q9 => by rw [q9] at hs1; revert hs1; decide)
    have hG := zelse hG (fun q9 => by rw [q9] at hs1; revert hs1; decide)
    have hG := zthen hG hs1
    refine lv_tableIn (off := 105) (tgt := 106) hx hb dX10_count_1 (by rw [hs1]; decide) (by rw [hs1]; decide) (by rw [hs1]; decide) (by decide) ?_
    have hl : lv_has ls 2 [(0, .ref x0), (1, .int 5)] := by rw [hs1] at hl; exact hl
    refine lv_aload_n hx hb dX10_count_106 rfl (lv_at hl 0 rfl) ?_
    refine va_get (D := (dC, dI)) (ci := 10) (v := .ref w0) (C := RX10) (T := TX10) (N := 13) hx hb hts iX10_count_X10 hown hK.1 hP 0 rfl rfl 0 (by decide) (kX10_count_1 hts) (fun _ h9 => h9) rfl dX10_count_107 ?_
    refine lv_aload_n hx hb dX10_count_110 rfl (lv_at hl 0 rfl) ?_
    refine va_get (D := (dC, dI)) (ci := 10) (v := .ref w0) (C := RX10) (T := TX10) (N := 13) hx hb hts iX10_count_X10 hown hK.1 hP 0 rfl rfl 0 (by decide) (kX10_count_1 hts) (fun _ h9 => h9) rfl dX10_count_111 ?_
    refine va_get (D := (dC, dI)) (ci := 9) (v := .int tnow) (C := RX9) (T := TX9) (N := 10) hx hb hts iX10_count_X9 hown hK.1 hP 1 rfl rfl 7 (by decide) (kX10_count_7 hts) (fun _ h9 => h9) rfl dX10_count_114 ?_
    refine z_i (wr := [(x0, .inr (10, [.ref w0, .ref z0, .ref xi, .ref xt, .int x_tl, .ref xq, .int x_lc, .ref rdr, .ref h0, .ref t0, .ref q0, .ref v0, .ref m0])), (tnodes, .inr (6, [.int 4, .ref tnodesA, .int tnodesS])), (tpasses, .inr (6, [.int 5, .ref tpassesA, .int tpassesS])), (tjars, .inr (6, [.int 9, .ref tjarsA, .int tjarsS])), (torders, .inr (6, [.int 4, .ref tordersA, .int tordersS])), (tfeasts, .inr (6, [.int 3, .ref tfeastsA, .int tfeastsS])), (tway, .inr (6, [.int 1, .ref twayA, .int twayS]))]) (va_runV (As := [.int tnow]) (rest := []) ⟨hx, hb, hml, hown, hts⟩ (mX9_monthAt l dC dI kA _ w0 tnodes tpasses tjars torders tfeasts tway tws tnow tfm tx tnow) (cwV 1 hts gX10_count_X9_monthAt rfl rfl rfl ⟨rfl, hdX9_monthAt⟩ ⟨(Nat.le_of_ble_eq_true rfl), (Nat.le_of_ble_eq_true rfl)⟩) ⟨zPc.blind, va_recv hK.1 hP (ci := 9) (q0 := 1) rfl rfl, zPre hK (hP.sub [1] rfl) (hD.sub [1] (by decide) rfl)⟩ rfl rfl hl.1 rfl (lv_room (Nat.le_of_ble_eq_true rfl)) dX10_count_117 ⟨(Nat.le_of_ble_eq_true rfl), (Nat.le_of_ble_eq_true rfl)⟩) hP hD hS hA [1] [0, 2, 3, 4, 5, 6, 7] rfl rfl (by decide) (by decide) (fun r4 u2 H locs hw3 hP hD hS => ?_)
    obtain ⟨er7, hp6⟩ := hw3
    have er7 : r4 = u2 := er7
    subst er7
    have er4 : r4 = fX9_monthAt tfm tnow := hp6
    have hG := zbnd hG er4
    obtain ⟨hP, hD⟩ := z_re (L := [(x0, .inr (10, [.ref w0, .ref z0, .ref xi, .ref xt, .int x_tl, .ref xq, .int x_lc, .ref rdr, .ref h0, .ref t0, .ref q0, .ref v0, .ref m0])), (tnodes, .inr (6, [.int 4, .ref tnodesA, .int tnodesS])), (tpasses, .inr (6, [.int 5, .ref tpassesA, .int tpassesS])), (tjars, .inr (6, [.int 9, .ref tjarsA, .int tjarsS])), (torders, .inr (6, [.int 4, .ref tordersA, .int tordersS])), (tfeasts, .inr (6, [.int 3, .ref tfeastsA, .int tfeastsS])), (tway, .inr (6, [.int 1, .ref twayA, .int twayS])), (w0, .inr (9, [.ref tnodes, .ref tpasses, .ref tjars, .ref torders, .ref tfeasts, .ref tway, .int tws, .int tnow, .int tfm, .int tx]))]) hP hD
    obtain ⟨hP9, hD9⟩ := z_sb (L' := [(x0, .inr (10, [.ref w0, .ref z0, .ref xi, .ref xt, .int x_tl, .ref xq, .int x_lc, .ref rdr, .ref h0, .ref t0, .ref q0, .ref v0, .ref m0])), (w0, .inr (9, [.ref tnodes, .ref tpasses, .ref tjars, .ref torders, .ref tfeasts, .ref tway, .int tws, .int tnow, .int tfm, .int tx])), (tnodes, .inr (6, [.int 4, .ref tnodesA, .int tnodesS])), (tpasses, .inr (6, [.int 5, .ref tpassesA, .int tpassesS])), (tjars, .inr (6, [.int 9, .ref tjarsA, .int tjarsS])), (torders, .inr (6, [.int 4, .ref tordersA, .int tordersS])), (tfeasts, .inr (6, [.int 3, .ref tfeastsA, .int tfeastsS])), (tway, .inr (6, [.int 1, .ref twayA, .int twayS]))]) hP hD [0, 7, 1, 2, 3, 4, 5, 6] (by decide) rfl
    refine W.widen (k := 0) (n := 0) (Nat.le_of_ble_eq_true rfl) (Nat.le_of_ble_eq_true rfl) ?_
    exact W.iret (v := r4) hx hb hr (fun t ht hW => ⟨⟨r4, (r4), rfl, ⟨rfl, (hG.trans hG0.symm)⟩, by rw [ht]; exact hP9, hD9⟩, hS.F ht⟩) hS.2.2 dX10_count_120
  · have hG := zelse hG (fun q9 => by rw [q9] at hs1; revert hs1; decide)
    have hG := zelse hG (fun q9 => by rw [q9] at hs1; revert hs1; decide)
    have hG := zelse hG (fun q9 => by rw [q9] at hs1; revert hs1; decide)
    have hG := zelse hG (fun q9 => by rw [q9] at hs1; revert hs1; decide)
    have hG := zelse hG (fun q9 => by rw [q9] at hs1; revert hs1; decide)
    have hG := zelse hG (fun q9 => by rw [q9] at hs1; revert hs1; decide)
    have hG := zthen hG hs1
    refine lv_tableIn (off := 120) (tgt := 121) hx hb dX10_count_1 (by rw [hs1]; decide) (by rw [hs1]; decide) (by rw [hs1]; decide) (by decide) ?_
    have hl : lv_has ls 2 [(0, .ref x0), (1, .int 6)] := by rw [hs1] at hl; exact hl
    refine lv_aload_n hx hb dX10_count_121 rfl (lv_at hl 0 rfl) ?_
    refine va_get (D := (dC, dI)) (ci := 10) (v := .ref w0) (C := RX10) (T := TX10) (N := 13) hx hb hts iX10_count_X10 hown hK.1 hP 0 rfl rfl 0 (by decide) (kX10_count_1 hts) (fun _ h9 => h9) rfl dX10_count_122 ?_
    refine va_get (D := (dC, dI)) (ci := 9) (v := .ref torders) (C := RX9) (T := TX9) (N := 10) hx hb hts iX10_count_X9 hown hK.1 hP 1 rfl rfl 3 (by decide) (kX10_count_8 hts) (fun _ h9 => h9) rfl dX10_count_125 ?_
    refine va_get (D := (dC, dI)) (ci := 6) (v := .int tordersS) (C := RX6) (T := TX6) (N := 3) hx hb hts iX10_count_X6 hown hK.1 hP 5 rfl rfl 2 (by decide) (kX10_count_3 hts) (fun _ h9 => h9) rfl dX10_count_128 ?_
    obtain ⟨hP9, hD9⟩ := z_sb (L' := [(x0, .inr (10, [.ref w0, .ref z0, .ref xi, .ref xt, .int x_tl, .ref xq, .int x_lc, .ref rdr, .ref h0, .ref t0, .ref q0, .ref v0, .ref m0])), (w0, .inr (9, [.ref tnodes, .ref tpasses, .ref tjars, .ref torders, .ref tfeasts, .ref tway, .int tws, .int tnow, .int tfm, .int tx])), (tnodes, .inr (6, [.int 4, .ref tnodesA, .int tnodesS])), (tpasses, .inr (6, [.int 5, .ref tpassesA, .int tpassesS])), (tjars, .inr (6, [.int 9, .ref tjarsA, .int tjarsS])), (torders, .inr (6, [.int 4, .ref tordersA, .int tordersS])), (tfeasts, .inr (6, [.int 3, .ref tfeastsA, .int tfeastsS])), (tway, .inr (6, [.int 1, .ref twayA, .int twayS]))]) hP hD [0, 1, 2, 3, 4, 5, 6, 7] (by decide) rfl
    refine W.widen (k := 0) (n := 0) (Nat.le_of_ble_eq_true rfl) (Nat.le_of_ble_eq_true rfl) ?_
    exact W.iret (v := tordersS) hx hb hr (fun t ht hW => ⟨⟨tordersS, (tordersS), rfl, ⟨rfl, (hG.trans hG0.symm)⟩, by rw [ht]; exact hP9, hD9⟩, hS.F ht⟩) hS.2.2 dX10_count_131
  · have hG := zelse hG (fun q9 => by rw [q9] at hs1; revert hs1; decide)
    have hG := zelse hG (fun q9 => by rw [q9] at hs1; revert hs1; decide)
    have hG := zelse hG (fun q9 => by rw [q9] at hs1; revert hs1; decide)
    have hG := zelse hG (fun q9 => by rw [q9] at hs1; revert hs1; decide)
    have hG := zelse hG (fun q9 => by rw [q9] at hs1; revert hs1; decide)
    have hG := zelse hG (fun q9 => by rw [q9] at hs1; revert hs1; decide)
    have hG := zelse hG (fun q9 => by rw [q9] at hs1; revert hs1; decide)
    have hG := zthen hG hs1
    refine lv_tableIn (off := 131) (tgt := 132) hx hb dX10_count_1 (by rw [hs1]; decide) (by rw [hs1]; decide) (by rw [hs1]; decide) (by decide) ?_
    have hl : lv_has ls 2 [(0, .ref x0), (1, .int 7)] := by rw [hs1] at hl; exact hl
    refine lv_aload_n hx hb dX10_count_132 rfl (lv_at hl 0 rfl) ?_
    refine va_get (D := (dC, dI)) (ci := 10) (v := .ref w0) (C := RX10) (T := TX10) (N := 13) hx hb hts iX10_count_X10 hown hK.1 hP 0 rfl rfl 0 (by decide) (kX10_count_1 hts) (fun _ h9 => h9) rfl dX10_count_133 ?_
    refine va_get (D := (dC, dI)) (ci := 9) (v := .ref tfeasts) (C := RX9) (T := TX9) (N := 10) hx hb hts iX10_count_X9 hown hK.1 hP 1 rfl rfl 4 (by decide) (kX10_count_9 hts) (fun _ h9 => h9) rfl dX10_count_136 ?_
    refine va_get (D := (dC, dI)) (ci := 6) (v := .int tfeastsS) (C := RX6) (T := TX6) (N := 3) hx hb hts iX10_count_X6 hown hK.1 hP 6 rfl rfl 2 (by decide) (kX10_count_3 hts) (fun _ h9 => h9) rfl dX10_count_139 ?_
    obtain ⟨hP9, hD9⟩ := z_sb (L' := [(x0, .inr (10, [.ref w0, .ref z0, .ref xi, .ref xt, .int x_tl, .ref xq, .int x_lc, .ref rdr, .ref h0, .ref t0, .ref q0, .ref v0, .ref m0])), (w0, .inr (9, [.ref tnodes, .ref tpasses, .ref tjars, .ref torders, .ref tfeasts, .ref tway, .int tws, .int tnow, .int tfm, .int tx])), (tnodes, .inr (6, [.int 4, .ref tnodesA, .int tnodesS])), (tpasses, .inr (6, [.int 5, .ref tpassesA, .int tpassesS])), (tjars, .inr (6, [.int 9, .ref tjarsA, .int tjarsS])), (torders, .inr (6, [.int 4, .ref tordersA, .int tordersS])), (tfeasts, .inr (6, [.int 3, .ref tfeastsA, .int tfeastsS])), (tway, .inr (6, [.int 1, .ref twayA, .int twayS]))]) hP hD [0, 1, 2, 3, 4, 5, 6, 7] (by decide) rfl
    refine W.widen (k := 0) (n := 0) (Nat.le_of_ble_eq_true rfl) (Nat.le_of_ble_eq_true rfl) ?_
    exact W.iret (v := tfeastsS) hx hb hr (fun t ht hW => ⟨⟨tfeastsS, (tfeastsS), rfl, ⟨rfl, (hG.trans hG0.symm)⟩, by rw [ht]; exact hP9, hD9⟩, hS.F ht⟩) hS.2.2 dX10_count_142
  · have hG := zelse hG (fun q9 => by rw [q9] at hs1; revert hs1; decide)
    have hG := zelse hG (fun q9 => by rw [q9] at hs1; revert hs1; decide)
    have hG := zelse hG (fun q9 => by rw [q9] at hs1; revert hs1; decide)
    have hG := zelse hG (fun q9 => by rw [q9] at hs1; revert hs1; decide)
    have hG := zelse hG (fun q9 => by rw [q9] at hs1; revert hs1; decide)
    have hG := zelse hG (fun q9 => by rw [q9] at hs1; revert hs1; decide)
    have hG := zelse hG (fun q9 => by rw [q9] at hs1; revert hs1; decide)
    have hG := zelse hG (fun q9 => by rw [q9] at hs1; revert hs1; decide)
    have hG := zthen hG hs1
    refine lv_tableIn (off := 142) (tgt := 143) hx hb dX10_count_1 (by rw [hs1]; decide) (by rw [hs1]; decide) (by rw [hs1]; decide) (by decide) ?_
    have hl : lv_has ls 2 [(0, .ref x0), (1, .int 8)] := by rw [hs1] at hl; exact hl
    refine lv_aload_n hx hb dX10_count_143 rfl (lv_at hl 0 rfl) ?_
    refine va_get (D := (dC, dI)) (ci := 10) (v := .ref w0) (C := RX10) (T := TX10) (N := 13) hx hb hts iX10_count_X10 hown hK.1 hP 0 rfl rfl 0 (by decide) (kX10_count_1 hts) (fun _ h9 => h9) rfl dX10_count_144 ?_
    refine va_get (D := (dC, dI)) (ci := 9) (v := .int tws) (C := RX9) (T := TX9) (N := 10) hx hb hts iX10_count_X9 hown hK.1 hP 1 rfl rfl 6 (by decide) (kX10_count_10 hts) (fun _ h9 => h9) rfl dX10_count_147 ?_
    refine lv_iconst (v := (-1)) hx hb dX10_count_150 (by decide) ?_
    refine lv_icmp_ne (tgt := 158) hx hb dX10_count_151 (by decide) (fun c_9 => ?_) (fun c_9 => ?_)
    · have hG := zelse hG c_9
      refine lv_aload_n hx hb dX10_count_158 rfl (lv_at hl 0 rfl) ?_
      refine va_get (D := (dC, dI)) (ci := 10) (v := .ref w0) (C := RX10) (T := TX10) (N := 13) hx hb hts iX10_count_X10 hown hK.1 hP 0 rfl rfl 0 (by decide) (kX10_count_1 hts) (fun _ h9 => h9) rfl dX10_count_159 ?_
      refine va_get (D := (dC, dI)) (ci := 9) (v := .ref tway) (C := RX9) (T := TX9) (N := 10) hx hb hts iX10_count_X9 hown hK.1 hP 1 rfl rfl 5 (by decide) (kX10_count_11 hts) (fun _ h9 => h9) rfl dX10_count_162 ?_
      refine va_get (D := (dC, dI)) (ci := 6) (v := .int twayS) (C := RX6) (T := TX6) (N := 3) hx hb hts iX10_count_X6 hown hK.1 hP 7 rfl rfl 2 (by decide) (kX10_count_3 hts) (fun _ h9 => h9) rfl dX10_count_165 ?_
      obtain ⟨hP9, hD9⟩ := z_sb (L' := [(x0, .inr (10, [.ref w0, .ref z0, .ref xi, .ref xt, .int x_tl, .ref xq, .int x_lc, .ref rdr, .ref h0, .ref t0, .ref q0, .ref v0, .ref m0])), (w0, .inr (9, [.ref tnodes, .ref tpasses, .ref tjars, .ref torders, .ref tfeasts, .ref tway, .int tws, .int tnow, .int tfm, .int tx])), (tnodes, .inr (6, [.int 4, .ref tnodesA, .int tnodesS])), (tpasses, .inr (6, [.int 5, .ref tpassesA, .int tpassesS])), (tjars, .inr (6, [.int 9, .ref tjarsA, .int tjarsS])), (torders, .inr (6, [.int 4, .ref tordersA, .int tordersS])), (tfeasts, .inr (6, [.int 3, .ref tfeastsA, .int tfeastsS])), (tway, .inr (6, [.int 1, .ref twayA, .int twayS]))]) hP hD [0, 1, 2, 3, 4, 5, 6, 7] (by decide) rfl
      refine W.widen (k := 0) (n := 0) (Nat.le_of_ble_eq_true rfl) (Nat.le_of_ble_eq_true rfl) ?_
      exact W.iret (v := twayS) hx hb hr (fun t ht hW => ⟨⟨twayS, (twayS), rfl, ⟨rfl, (hG.trans hG0.symm)⟩, by rw [ht]; exact hP9, hD9⟩, hS.F ht⟩) hS.2.2 dX10_count_168
    · have hG := zthen hG c_9
      refine lv_iconst (v := (-1)) hx hb dX10_count_154 (by decide) ?_
      refine lv_goto (tgt := 168) hx hb dX10_count_155 (by decide) ?_
      obtain ⟨hP9, hD9⟩ := z_sb (L' := [(x0, .inr (10, [.ref w0, .ref z0, .ref xi, .ref xt, .int x_tl, .ref xq, .int x_lc, .ref rdr, .ref h0, .ref t0, .ref q0, .ref v0, .ref m0])), (w0, .inr (9, [.ref tnodes, .ref tpasses, .ref tjars, .ref torders, .ref tfeasts, .ref tway, .int tws, .int tnow, .int tfm, .int tx])), (tnodes, .inr (6, [.int 4, .ref tnodesA, .int tnodesS])), (tpasses, .inr (6, [.int 5, .ref tpassesA, .int tpassesS])), (tjars, .inr (6, [.int 9, .ref tjarsA, .int tjarsS])), (torders, .inr (6, [.int 4, .ref tordersA, .int tordersS])), (tfeasts, .inr (6, [.int 3, .ref tfeastsA, .int tfeastsS])), (tway, .inr (6, [.int 1, .ref twayA, .int twayS]))]) hP hD [0, 1, 2, 3, 4, 5, 6, 7] (by decide) rfl
      refine W.widen (k := 0) (n := 0) (Nat.le_of_ble_eq_true rfl) (Nat.le_of_ble_eq_true rfl) ?_
      exact W.iret (v := (-1)) hx hb hr (fun t ht hW => ⟨⟨(-1), ((-1)), rfl, ⟨rfl, (hG.trans hG0.symm)⟩, by rw [ht]; exact hP9, hD9⟩, hS.F ht⟩) hS.2.2 dX10_count_168
  · have hG := zelse hG (fun q9 => by rw [q9] at hs1; revert hs1; decide)
    have hG := zelse hG (fun q9 => by rw [q9] at hs1; revert hs1; decide)
    have hG := zelse hG (fun q9 => by rw [q9] at hs1; revert hs1; decide)
    have hG := zelse hG (fun q9 => by rw [q9] at hs1; revert hs1; decide)
    have hG := zelse hG (fun q9 => by rw [q9] at hs1; revert hs1; decide)
    have hG := zelse hG (fun q9 => by rw [q9] at hs1; revert hs1; decide)
    have hG := zelse hG (fun q9 => by rw [q9] at hs1; revert hs1; decide)
    have hG := zelse hG (fun q9 => by rw [q9] at hs1; revert hs1; decide)
    have hG := zelse hG (fun q9 => by rw [q9] at hs1; revert hs1; decide)
    have hG := zthen hG hs1
    refine lv_tableIn (off := 168) (tgt := 169) hx hb dX10_count_1 (by rw [hs1]; decide) (by rw [hs1]; decide) (by rw [hs1]; decide) (by decide) ?_
    have hl : lv_has ls 2 [(0, .ref x0), (1, .int 9)] := by rw [hs1] at hl; exact hl
    refine lv_aload_n hx hb dX10_count_169 rfl (lv_at hl 0 rfl) ?_
    refine va_get (D := (dC, dI)) (ci := 10) (v := .ref w0) (C := RX10) (T := TX10) (N := 13) hx hb hts iX10_count_X10 hown hK.1 hP 0 rfl rfl 0 (by decide) (kX10_count_1 hts) (fun _ h9 => h9) rfl dX10_count_170 ?_
    refine va_get (D := (dC, dI)) (ci := 9) (v := .int tx) (C := RX9) (T := TX9) (N := 10) hx hb hts iX10_count_X9 hown hK.1 hP 1 rfl rfl 9 (by decide) (kX10_count_12 hts) (fun _ h9 => h9) rfl dX10_count_173 ?_
    obtain ⟨hP9, hD9⟩ := z_sb (L' := [(x0, .inr (10, [.ref w0, .ref z0, .ref xi, .ref xt, .int x_tl, .ref xq, .int x_lc, .ref rdr, .ref h0, .ref t0, .ref q0, .ref v0, .ref m0])), (w0, .inr (9, [.ref tnodes, .ref tpasses, .ref tjars, .ref torders, .ref tfeasts, .ref tway, .int tws, .int tnow, .int tfm, .int tx])), (tnodes, .inr (6, [.int 4, .ref tnodesA, .int tnodesS])), (tpasses, .inr (6, [.int 5, .ref tpassesA, .int tpassesS])), (tjars, .inr (6, [.int 9, .ref tjarsA, .int tjarsS])), (torders, .inr (6, [.int 4, .ref tordersA, .int tordersS])), (tfeasts, .inr (6, [.int 3, .ref tfeastsA, .int tfeastsS])), (tway, .inr (6, [.int 1, .ref twayA, .int twayS]))]) hP hD [0, 1, 2, 3, 4, 5, 6, 7] (by decide) rfl
    refine W.widen (k := 0) (n := 0) (Nat.le_of_ble_eq_true rfl) (Nat.le_of_ble_eq_true rfl) ?_
    exact W.iret (v := tx) hx hb hr (fun t ht hW => ⟨⟨tx, (tx), rfl, ⟨rfl, (hG.trans hG0.symm)⟩, by rw [ht]; exact hP9, hD9⟩, hS.F ht⟩) hS.2.2 dX10_count_176
  · have hG := zelse hG (fun q9 => by rw [q9] at hs1; revert hs1; decide)
    have hG := zelse hG (fun q9 => by rw [q9] at hs1; revert hs1; decide)
    have hG := zelse hG (fun q9 => by rw [q9] at hs1; revert hs1; decide)
    have hG := zelse hG (fun q9 => by rw [q9] at hs1; revert hs1; decide)
    have hG := zelse hG (fun q9 => by rw [q9] at hs1; revert hs1; decide)
    have hG := zelse hG (fun q9 => by rw [q9] at hs1; revert hs1; decide)
    have hG := zelse hG (fun q9 => by rw [q9] at hs1; revert hs1; decide)
    have hG := zelse hG (fun q9 => by rw [q9] at hs1; revert hs1; decide)
    have hG := zelse hG (fun q9 => by rw [q9] at hs1; revert hs1; decide)
    have hG := zelse hG (fun q9 => by rw [q9] at hs1; revert hs1; decide)
    have hG := zthen hG hs1
    refine lv_tableIn (off := 176) (tgt := 177) hx hb dX10_count_1 (by rw [hs1]; decide) (by rw [hs1]; decide) (by rw [hs1]; decide) (by decide) ?_
    have hl : lv_has ls 2 [(0, .ref x0), (1, .int 10)] := by rw [hs1] at hl; exact hl
    refine lv_aload_n hx hb dX10_count_177 rfl (lv_at hl 0 rfl) ?_
    refine va_get (D := (dC, dI)) (ci := 10) (v := .int x_tl) (C := RX10) (T := TX10) (N := 13) hx hb hts iX10_count_X10 hown hK.1 hP 0 rfl rfl 4 (by decide) (kX10_count_13 hts) (fun _ h9 => h9) rfl dX10_count_178 ?_
    obtain ⟨hP9, hD9⟩ := z_sb (L' := [(x0, .inr (10, [.ref w0, .ref z0, .ref xi, .ref xt, .int x_tl, .ref xq, .int x_lc, .ref rdr, .ref h0, .ref t0, .ref q0, .ref v0, .ref m0])), (w0, .inr (9, [.ref tnodes, .ref tpasses, .ref tjars, .ref torders, .ref tfeasts, .ref tway, .int tws, .int tnow, .int tfm, .int tx])), (tnodes, .inr (6, [.int 4, .ref tnodesA, .int tnodesS])), (tpasses, .inr (6, [.int 5, .ref tpassesA, .int tpassesS])), (tjars, .inr (6, [.int 9, .ref tjarsA, .int tjarsS])), (torders, .inr (6, [.int 4, .ref tordersA, .int tordersS])), (tfeasts, .inr (6, [.int 3, .ref tfeastsA, .int tfeastsS])), (tway, .inr (6, [.int 1, .ref twayA, .int twayS]))]) hP hD [0, 1, 2, 3, 4, 5, 6, 7] (by decide) rfl
    refine W.widen (k := 0) (n := 0) (Nat.le_of_ble_eq_true rfl) (Nat.le_of_ble_eq_true rfl) ?_
    exact W.iret (v := x_tl) hx hb hr (fun t ht hW => ⟨⟨x_tl, (x_tl), rfl, ⟨rfl, (hG.trans hG0.symm)⟩, by rw [ht]; exact hP9, hD9⟩, hS.F ht⟩) hS.2.2 dX10_count_181
set_option maxRecDepth 100000 in
def fX10_feed (x_tl : Int32) (xtF : Nat → Int32) (p0 : Int32) (p1 : Int32) (p2 : Int32) (p3 : Int32) (p4 : Int32) : Int32 × (Nat → Int32) × Int32 := if (x_tl + 20) ≤ 400 then (bnd (fX10_writeBytes x_tl xtF p0) (fun (q9 : Int32 × (Nat → Int32)) => bnd (q9.1) (fun (o5 : Int32) => bnd (q9.2) (fun (o6 : Nat → Int32) => bnd (fX10_writeBytes o5 o6 p1) (fun (q17 : Int32 × (Nat → Int32)) => bnd (q17.1) (fun (o13 : Int32) => bnd (q17.2) (fun (o14 : Nat → Int32) => bnd (fX10_writeBytes o13 o14 p2) (fun (q25 : Int32 × (Nat → Int32)) => bnd (q25.1) (fun (o21 : Int32) => bnd (q25.2) (fun (o22 : Nat → Int32) => bnd (fX10_writeBytes o21 o22 p3) (fun (q33 : Int32 × (Nat → Int32)) => bnd (q33.1) (fun (o29 : Int32) => bnd (q33.2) (fun (o30 : Nat → Int32) => bnd (fX10_writeBytes o29 o30 p4) (fun (q41 : Int32 × (Nat → Int32)) => bnd (q41.1) (fun (o37 : Int32) => bnd (q41.2) (fun (o38 : Nat → Int32) => (o37, o38, o37))))))))))))))))) else ((x_tl, xtF, (-1)))
set_option maxHeartbeats 4000000 in
set_option maxRecDepth 100000 in
theorem mX10_feed (l : Launch) (dC : Nat → ClassId) (dI : Nat → Nat → Nat) (kA : Nat → ClassId) (sz : Nat) (x0 : Nat) (z0 : Nat) (xi : Nat) (xt : Nat) (xq : Nat) (rdr : Nat) (h0 : Nat) (t0 : Nat) (q0 : Nat) (v0 : Nat) (m0 : Nat) (w0 : Nat) (x_tl : Int32) (x_lc : Int32) (xtF : Nat → Int32) (p0 : Int32) (p1 : Int32) (p2 : Int32) (p3 : Int32) (p4 : Int32) (ntl : ¬ x_tl < 0) : Met l yX10_feed wsX10_feed ({ frames := 1, cells := 0, slots := 0, locals := 22 }) (zPc dC dI kA sz [.ref x0, .int p0, .int p1, .int p2, .int p3, .int p4] [(x0, .inr (10, [.ref w0, .ref z0, .ref xi, .ref xt, .int x_tl, .ref xq, .int x_lc, .ref rdr, .ref h0, .ref t0, .ref q0, .ref v0, .ref m0])), (xt, .inl (kA 0, 400, .inl xtF))]) (va_Qi (fun (r : Int32) (u : Int32 × (Nat → Int32) × Int32) => r = u.2.2 ∧ (u.1, u.2.1, u.2.2) = fX10_feed x_tl xtF p0 p1 p2 p3 p4 ∧ ¬ u.1 < 0) (zB dC dI (va_A [(x0, .inr (10, [.ref w0, .ref z0, .ref xi, .ref xt, .int x_tl, .ref xq, .int x_lc, .ref rdr, .ref h0, .ref t0, .ref q0, .ref v0, .ref m0])), (xt, .inl (kA 0, 400, .inl xtF))] sz) (fun (u : Int32 × (Nat → Int32) × Int32) => [(x0, .inr (10, [.ref w0, .ref z0, .ref xi, .ref xt, .int u.1, .ref xq, .int x_lc, .ref rdr, .ref h0, .ref t0, .ref q0, .ref v0, .ref m0])), (xt, .inl (kA 0, 400, .inl u.2.1))])) (va_A [(x0, .inr (10, [.ref w0, .ref z0, .ref xi, .ref xt, .int x_tl, .ref xq, .int x_lc, .ref rdr, .ref h0, .ref t0, .ref q0, .ref v0, .ref m0])), (xt, .inl (kA 0, 400, .inl xtF))] sz)) 0 0 (va_A [(x0, .inr (10, [.ref w0, .ref z0, .ref xi, .ref xt, .int x_tl, .ref xq, .int x_lc, .ref rdr, .ref h0, .ref t0, .ref q0, .ref v0, .ref m0])), (xt, .inl (kA 0, 400, .inl xtF))] sz) := by
  refine Met.ofW (cc := cX10_feed) (maxL := 6) (ret := (some .int)) (by decide) rfl ?_
  intro p e s m args below meth c s₁ B hml hv
  obtain ⟨rfl, hsz, hP, hK, hD0⟩ := hv
  have hx := B.exec
  have hb := B.bytes
  have hr := B.returns
  have hts := atoms_spec (ws := wsX10_feed) B.pre
  have hown : s.vm.findClass RX10 = some m.cls := findClass_of_methodNamed B.named
  have hlocks := B.notSynchronized
  subst hsz
  have hD := hD0.self (sz := s.heap.size)
  generalize hAe : va_A [(x0, .inr (10, [.ref w0, .ref z0, .ref xi, .ref xt, .int x_tl, .ref xq, .int x_lc, .ref rdr, .ref h0, .ref t0, .ref q0, .ref v0, .ref m0])), (xt, .inl (kA 0, 400, .inl xtF))] s.heap.size = A at hD ⊢
  have hA : ∀ q : Nat, s.heap.size ≤ q → A q := fun q h => by rw [← hAe]; exact Or.inr h
  have hS : va_S A s.heap s.heap [] := va_S.rf
  have hP : va_P (dC, dI) vwCl [(x0, .inr (10, [.ref w0, .ref z0, .ref xi, .ref xt, .int x_tl, .ref xq, .int x_lc, .ref rdr, .ref h0, .ref t0, .ref q0, .ref v0, .ref m0])), (xt, .inl (kA 0, 400, .inl xtF))] s.heap := hP
  have hl := lv_entry ([.ref x0, .int p0, .int p1, .int p2, .int p3, .int p4]) (n := 6) (Nat.le_of_ble_eq_true rfl)
  rw [lg_entry_eq]
  generalize (lg_sl ([.ref x0, .int p0, .int p1, .int p2, .int p3, .int p4]) ++ List.replicate (6 - (lg_sl ([.ref x0, .int p0, .int p1, .int p2, .int p3, .int p4])).length) Slot.unset).toArray = ls at hl ⊢
  have hl : lv_has ls 6 [(0, .ref x0), (1, .int p0), (2, .int p1), (3, .int p2), (4, .int p3), (5, .int p4)] := hl
  obtain ⟨G, hG0⟩ : ∃ G : Int32 × (Nat → Int32) × Int32, fX10_feed x_tl xtF p0 p1 p2 p3 p4 = G := ⟨_, rfl⟩
  have hG := hG0
  unfold fX10_feed at hG
  refine lv_aload_n hx hb dX10_feed_0 rfl (lv_at hl 0 rfl) ?_
  refine va_get (D := (dC, dI)) (ci := 10) (v := .int x_tl) (C := RX10) (T := TX10) (N := 13) hx hb hts iX10_feed_X10 hown hK.1 hP 0 rfl rfl 4 (by decide) (kX10_feed_1 hts) (fun _ h9 => h9) rfl dX10_feed_1 ?_
  refine lv_bipush (v := 20) hx hb dX10_feed_4 (by decide) ?_
  refine lv_iadd hx hb dX10_feed_6 ?_
  refine lv_sipush (v := 400) hx hb dX10_feed_7 (by decide) ?_
  refine lv_icmp_le (tgt := 15) hx hb dX10_feed_10 (by decide) (fun c_1 => ?_) (fun c_1 => ?_)
  · have hG := zthen hG c_1
    refine lv_aload_n hx hb dX10_feed_15 rfl (lv_at hl 0 rfl) ?_
    refine lv_iload_n hx hb dX10_feed_16 rfl (lv_at hl 1 rfl) ?_
    refine z_v (wr := []) (va_runV (As := [.int p0]) (rest := []) ⟨hx, hb, hml, hown, hts⟩ (mX10_writeBytes l dC dI kA _ x0 z0 xi xt xq rdr h0 t0 q0 v0 m0 w0 x_tl x_lc xtF p0 ntl) (cwV 1 hts gX10_feed_X10_writeBytes rfl rfl rfl ⟨rfl, hdX10_writeBytes⟩ ⟨(Nat.le_of_ble_eq_true rfl), (Nat.le_of_ble_eq_true rfl)⟩) ⟨zPc.blind, va_recv hK.1 hP (ci := 10) (q0 := 0) rfl rfl, zPre hK (hP.sub [0, 1] rfl) (hD.sub [0, 1] (by decide) rfl)⟩ rfl rfl hl.1 rfl (lv_room (Nat.le_of_ble_eq_true rfl)) dX10_feed_17 ⟨(Nat.le_of_ble_eq_true rfl), (Nat.le_of_ble_eq_true rfl)⟩) hP hD hS hA [0, 1] [] rfl rfl (by decide) (by decide) (fun u2 H locs hw3 hP hD hS => ?_)
    obtain ⟨o5, o6⟩ := u2
    obtain ⟨hp7, hp8⟩ := hw3
    obtain ⟨q9, eq9⟩ : ∃ y : Int32 × (Nat → Int32), y = fX10_writeBytes x_tl xtF p0 := ⟨_, rfl⟩
    have hG := zbnd hG eq9
    have eo5 : o5 = q9.1 := by rw [eq9]; exact congrArg (fun z : Int32 × (Nat → Int32) => z.1) hp7
    have hG := zbnd hG eo5
    have eo6 : o6 = q9.2 := by rw [eq9]; exact congrArg (fun z : Int32 × (Nat → Int32) => z.2) hp7
    have hG := zbnd hG eo6
    obtain ⟨hP, hD⟩ := z_re (L := [(x0, .inr (10, [.ref w0, .ref z0, .ref xi, .ref xt, .int o5, .ref xq, .int x_lc, .ref rdr, .ref h0, .ref t0, .ref q0, .ref v0, .ref m0])), (xt, .inl (kA 0, 400, .inl o6))]) hP hD
    refine lv_aload_n hx hb dX10_feed_20 rfl (lv_at hl 0 rfl) ?_
    refine lv_iload_n hx hb dX10_feed_21 rfl (lv_at hl 2 rfl) ?_
    refine z_v (wr := []) (va_runV (As := [.int p1]) (rest := []) ⟨hx, hb, hml, hown, hts⟩ (mX10_writeBytes l dC dI kA _ x0 z0 xi xt xq rdr h0 t0 q0 v0 m0 w0 o5 x_lc o6 p1 hp8) (cwV 1 hts gX10_feed_X10_writeBytes rfl rfl rfl ⟨rfl, hdX10_writeBytes⟩ ⟨(Nat.le_of_ble_eq_true rfl), (Nat.le_of_ble_eq_true rfl)⟩) ⟨zPc.blind, va_recv hK.1 hP (ci := 10) (q0 := 0) rfl rfl, zPre hK (hP.sub [0, 1] rfl) (hD.sub [0, 1] (by decide) rfl)⟩ rfl rfl hl.1 rfl (lv_room (Nat.le_of_ble_eq_true rfl)) dX10_feed_22 ⟨(Nat.le_of_ble_eq_true rfl), (Nat.le_of_ble_eq_true rfl)⟩) hP hD hS hA [0, 1] [] rfl rfl (by decide) (by decide) (fun u10 H locs hw11 hP hD hS => ?_)
    obtain ⟨o13, o14⟩ := u10
    obtain ⟨hp15, hp16⟩ := hw11
    obtain ⟨q17, eq17⟩ : ∃ y : Int32 × (Nat → Int32), y = fX10_writeBytes o5 o6 p1 := ⟨_, rfl⟩
    have hG := zbnd hG eq17
    have eo13 : o13 = q17.1 := by rw [eq17]; exact congrArg (fun z : Int32 × (Nat → Int32) => z.1) hp15
    have hG := zbnd hG eo13
    have eo14 : o14 = q17.2 := by rw [eq17]; exact congrArg (fun z : Int32 × (Nat → Int32) => z.2) hp15
    have hG := zbnd hG eo14
    obtain ⟨hP, hD⟩ := z_re (L := [(x0, .inr (10, [.ref w0, .ref z0, .ref xi, .ref xt, .int o13, .ref xq, .int x_lc, .ref rdr, .ref h0, .ref t0, .ref q0, .ref v0, .ref m0])), (xt, .inl (kA 0, 400, .inl o14))]) hP hD
    refine lv_aload_n hx hb dX10_feed_25 rfl (lv_at hl 0 rfl) ?_
    refine lv_iload_n hx hb dX10_feed_26 rfl (lv_at hl 3 rfl) ?_
    refine z_v (wr := []) (va_runV (As := [.int p2]) (rest := []) ⟨hx, hb, hml, hown, hts⟩ (mX10_writeBytes l dC dI kA _ x0 z0 xi xt xq rdr h0 t0 q0 v0 m0 w0 o13 x_lc o14 p2 hp16) (cwV 1 hts gX10_feed_X10_writeBytes rfl rfl rfl ⟨rfl, hdX10_writeBytes⟩ ⟨(Nat.le_of_ble_eq_true rfl), (Nat.le_of_ble_eq_true rfl)⟩) ⟨zPc.blind, va_recv hK.1 hP (ci := 10) (q0 := 0) rfl rfl, zPre hK (hP.sub [0, 1] rfl) (hD.sub [0, 1] (by decide) rfl)⟩ rfl rfl hl.1 rfl (lv_room (Nat.le_of_ble_eq_true rfl)) dX10_feed_27 ⟨(Nat.le_of_ble_eq_true rfl), (Nat.le_of_ble_eq_true rfl)⟩) hP hD hS hA [0, 1] [] rfl rfl (by decide) (by decide) (fun u18 H locs hw19 hP hD hS => ?_)
    obtain ⟨o21, o22⟩ := u18
    obtain ⟨hp23, hp24⟩ := hw19
    obtain ⟨q25, eq25⟩ : ∃ y : Int32 × (Nat → Int32), y = fX10_writeBytes o13 o14 p2 := ⟨_, rfl⟩
    have hG := zbnd hG eq25
    have eo21 : o21 = q25.1 := by rw [eq25]; exact congrArg (fun z : Int32 × (Nat → Int32) => z.1) hp23
    have hG := zbnd hG eo21
    have eo22 : o22 = q25.2 := by rw [eq25]; exact congrArg (fun z : Int32 × (Nat → Int32) => z.2) hp23
    have hG := zbnd hG eo22
    obtain ⟨hP, hD⟩ := z_re (L := [(x0, .inr (10, [.ref w0, .ref z0, .ref xi, .ref xt, .int o21, .ref xq, .int x_lc, .ref rdr, .ref h0, .ref t0, .ref q0, .ref v0, .ref m0])), (xt, .inl (kA 0, 400, .inl o22))]) hP hD
    refine lv_aload_n hx hb dX10_feed_30 rfl (lv_at hl 0 rfl) ?_
    refine lv_iload hx hb dX10_feed_31 (lv_at hl 4 rfl) ?_
    refine z_v (wr := []) (va_runV (As := [.int p3]) (rest := []) ⟨hx, hb, hml, hown, hts⟩ (mX10_writeBytes l dC dI kA _ x0 z0 xi xt xq rdr h0 t0 q0 v0 m0 w0 o21 x_lc o22 p3 hp24) (cwV 1 hts gX10_feed_X10_writeBytes rfl rfl rfl ⟨rfl, hdX10_writeBytes⟩ ⟨(Nat.le_of_ble_eq_true rfl), (Nat.le_of_ble_eq_true rfl)⟩) ⟨zPc.blind, va_recv hK.1 hP (ci := 10) (q0 := 0) rfl rfl, zPre hK (hP.sub [0, 1] rfl) (hD.sub [0, 1] (by decide) rfl)⟩ rfl rfl hl.1 rfl (lv_room (Nat.le_of_ble_eq_true rfl)) dX10_feed_33 ⟨(Nat.le_of_ble_eq_true rfl), (Nat.le_of_ble_eq_true rfl)⟩) hP hD hS hA [0, 1] [] rfl rfl (by decide) (by decide) (fun u26 H locs hw27 hP hD hS => ?_)
    obtain ⟨o29, o30⟩ := u26
    obtain ⟨hp31, hp32⟩ := hw27
    obtain ⟨q33, eq33⟩ : ∃ y : Int32 × (Nat → Int32), y = fX10_writeBytes o21 o22 p3 := ⟨_, rfl⟩
    have hG := zbnd hG eq33
    have eo29 : o29 = q33.1 := by rw [eq33]; exact congrArg (fun z : Int32 × (Nat → Int32) => z.1) hp31
    have hG := zbnd hG eo29
    have eo30 : o30 = q33.2 := by rw [eq33]; exact congrArg (fun z : Int32 × (Nat → Int32) => z.2) hp31
    have hG := zbnd hG eo30
    obtain ⟨hP, hD⟩ := z_re (L := [(x0, .inr (10, [.ref w0, .ref z0, .ref xi, .ref xt, .int o29, .ref xq, .int x_lc, .ref rdr, .ref h0, .ref t0, .ref q0, .ref v0, .ref m0])), (xt, .inl (kA 0, 400, .inl o30))]) hP hD
    refine lv_aload_n hx hb dX10_feed_36 rfl (lv_at hl 0 rfl) ?_
    refine lv_iload hx hb dX10_feed_37 (lv_at hl 5 rfl) ?_
    refine z_v (wr := []) (va_runV (As := [.int p4]) (rest := []) ⟨hx, hb, hml, hown, hts⟩ (mX10_writeBytes l dC dI kA _ x0 z0 xi xt xq rdr h0 t0 q0 v0 m0 w0 o29 x_lc o30 p4 hp32) (cwV 1 hts gX10_feed_X10_writeBytes rfl rfl rfl ⟨rfl, hdX10_writeBytes⟩ ⟨(Nat.le_of_ble_eq_true rfl), (Nat.le_of_ble_eq_true rfl)⟩) ⟨zPc.blind, va_recv hK.1 hP (ci := 10) (q0 := 0) rfl rfl, zPre hK (hP.sub [0, 1] rfl) (hD.sub [0, 1] (by decide) rfl)⟩ rfl rfl hl.1 rfl (lv_room (Nat.le_of_ble_eq_true rfl)) dX10_feed_39 ⟨(Nat.le_of_ble_eq_true rfl), (Nat.le_of_ble_eq_true rfl)⟩) hP hD hS hA [0, 1] [] rfl rfl (by decide) (by decide) (fun u34 H locs hw35 hP hD hS => ?_)
    obtain ⟨o37, o38⟩ := u34
    obtain ⟨hp39, hp40⟩ := hw35
    obtain ⟨q41, eq41⟩ : ∃ y : Int32 × (Nat → Int32), y = fX10_writeBytes o29 o30 p4 := ⟨_, rfl⟩
    have hG := zbnd hG eq41
    have eo37 : o37 = q41.1 := by rw [eq41]; exact congrArg (fun z : Int32 × (Nat → Int32) => z.1) hp39
    have hG := zbnd hG eo37
    have eo38 : o38 = q41.2 := by rw [eq41]; exact congrArg (fun z : Int32 × (Nat → Int32) => z.2) hp39
    have hG := zbnd hG eo38
    obtain ⟨hP, hD⟩ := z_re (L := [(x0, .inr (10, [.ref w0, .ref z0, .ref xi, .ref xt, .int o37, .ref xq, .int x_lc, .ref rdr, .ref h0, .ref t0, .ref q0, .ref v0, .ref m0])), (xt, .inl (kA 0, 400, .inl o38))]) hP hD
    refine lv_aload_n hx hb dX10_feed_42 rfl (lv_at hl 0 rfl) ?_
    refine va_get (D := (dC, dI)) (ci := 10) (v := .int o37) (C := RX10) (T := TX10) (N := 13) hx hb hts iX10_feed_X10 hown hK.1 hP 0 rfl rfl 4 (by decide) (kX10_feed_1 hts) (fun _ h9 => h9) rfl dX10_feed_43 ?_
    obtain ⟨hP9, hD9⟩ := z_sb (L' := [(x0, .inr (10, [.ref w0, .ref z0, .ref xi, .ref xt, .int o37, .ref xq, .int x_lc, .ref rdr, .ref h0, .ref t0, .ref q0, .ref v0, .ref m0])), (xt, .inl (kA 0, 400, .inl o38))]) hP hD [0, 1] (by decide) rfl
    refine W.widen (k := 0) (n := 0) (Nat.le_of_ble_eq_true rfl) (Nat.le_of_ble_eq_true rfl) ?_
    exact W.iret (v := o37) hx hb hr (fun t ht hW => ⟨⟨o37, (o37, o38, o37), rfl, ⟨rfl, (hG.trans hG0.symm), hp40⟩, by rw [ht]; exact hP9, hD9⟩, hS.F ht⟩) hS.2.2 dX10_feed_46
  · have hG := zelse hG c_1
    refine lv_iconst (v := (-1)) hx hb dX10_feed_13 (by decide) ?_
    obtain ⟨hP9, hD9⟩ := z_sb (L' := [(x0, .inr (10, [.ref w0, .ref z0, .ref xi, .ref xt, .int x_tl, .ref xq, .int x_lc, .ref rdr, .ref h0, .ref t0, .ref q0, .ref v0, .ref m0])), (xt, .inl (kA 0, 400, .inl xtF))]) hP hD [0, 1] (by decide) rfl
    refine W.widen (k := 0) (n := 0) (Nat.le_of_ble_eq_true rfl) (Nat.le_of_ble_eq_true rfl) ?_
    exact W.iret (v := (-1)) hx hb hr (fun t ht hW => ⟨⟨(-1), (x_tl, xtF, (-1)), rfl, ⟨rfl, (hG.trans hG0.symm), ntl⟩, by rw [ht]; exact hP9, hD9⟩, hS.F ht⟩) hS.2.2 dX10_feed_14
set_option maxRecDepth 100000 in
def fX10_end (x_tl : Int32) (p0 : Int32) : Int32 × Int32 := if (wi p0 x_tl) = 0 then ((x_tl, (-1))) else ((p0, p0))
set_option maxHeartbeats 4000000 in
set_option maxRecDepth 100000 in
theorem mX10_end (l : Launch) (dC : Nat → ClassId) (dI : Nat → Nat → Nat) (kA : Nat → ClassId) (sz : Nat) (x0 : Nat) (z0 : Nat) (xi : Nat) (xt : Nat) (xq : Nat) (rdr : Nat) (h0 : Nat) (t0 : Nat) (q0 : Nat) (v0 : Nat) (m0 : Nat) (w0 : Nat) (x_tl : Int32) (x_lc : Int32) (p0 : Int32) (ntl : ¬ x_tl < 0) : Met l yX10_end wsX10_end ({ frames := 1, cells := 0, slots := 0, locals := 21 }) (zPc dC dI kA sz [.ref x0, .int p0] [(x0, .inr (10, [.ref w0, .ref z0, .ref xi, .ref xt, .int x_tl, .ref xq, .int x_lc, .ref rdr, .ref h0, .ref t0, .ref q0, .ref v0, .ref m0]))]) (va_Qi (fun (r : Int32) (u : Int32 × Int32) => r = u.2 ∧ (u.1, u.2) = fX10_end x_tl p0 ∧ ¬ u.1 < 0) (zB dC dI (va_A [(x0, .inr (10, [.ref w0, .ref z0, .ref xi, .ref xt, .int x_tl, .ref xq, .int x_lc, .ref rdr, .ref h0, .ref t0, .ref q0, .ref v0, .ref m0]))] sz) (fun (u : Int32 × Int32) => [(x0, .inr (10, [.ref w0, .ref z0, .ref xi, .ref xt, .int u.1, .ref xq, .int x_lc, .ref rdr, .ref h0, .ref t0, .ref q0, .ref v0, .ref m0]))])) (va_A [(x0, .inr (10, [.ref w0, .ref z0, .ref xi, .ref xt, .int x_tl, .ref xq, .int x_lc, .ref rdr, .ref h0, .ref t0, .ref q0, .ref v0, .ref m0]))] sz)) 0 0 (va_A [(x0, .inr (10, [.ref w0, .ref z0, .ref xi, .ref xt, .int x_tl, .ref xq, .int x_lc, .ref rdr, .ref h0, .ref t0, .ref q0, .ref v0, .ref m0]))] sz) := by
  refine Met.ofW (cc := cX10_end) (maxL := 2) (ret := (some .int)) (by decide) rfl ?_
  intro p e s m args below meth c s₁ B hml hv
  obtain ⟨rfl, hsz, hP, hK, hD0⟩ := hv
  have hx := B.exec
  have hb := B.bytes
  have hr := B.returns
  have hts := atoms_spec (ws := wsX10_end) B.pre
  have hown : s.vm.findClass RX10 = some m.cls := findClass_of_methodNamed B.named
  have hlocks := B.notSynchronized
  subst hsz
  have hD := hD0.self (sz := s.heap.size)
  generalize hAe : va_A [(x0, .inr (10, [.ref w0, .ref z0, .ref xi, .ref xt, .int x_tl, .ref xq, .int x_lc, .ref rdr, .ref h0, .ref t0, .ref q0, .ref v0, .ref m0]))] s.heap.size = A at hD ⊢
  have hA : ∀ q : Nat, s.heap.size ≤ q → A q := fun q h => by rw [← hAe]; exact Or.inr h
  have hS : va_S A s.heap s.heap [] := va_S.rf
  have hP : va_P (dC, dI) vwCl [(x0, .inr (10, [.ref w0, .ref z0, .ref xi, .ref xt, .int x_tl, .ref xq, .int x_lc, .ref rdr, .ref h0, .ref t0, .ref q0, .ref v0, .ref m0]))] s.heap := hP
  have hl := lv_entry ([.ref x0, .int p0]) (n := 2) (Nat.le_of_ble_eq_true rfl)
  rw [lg_entry_eq]
  generalize (lg_sl ([.ref x0, .int p0]) ++ List.replicate (2 - (lg_sl ([.ref x0, .int p0])).length) Slot.unset).toArray = ls at hl ⊢
  have hl : lv_has ls 2 [(0, .ref x0), (1, .int p0)] := hl
  obtain ⟨G, hG0⟩ : ∃ G : Int32 × Int32, fX10_end x_tl p0 = G := ⟨_, rfl⟩
  have hG := hG0
  unfold fX10_end at hG
  refine lv_iload_n hx hb dX10_end_0 rfl (lv_at hl 1 rfl) ?_
  refine lv_aload_n hx hb dX10_end_1 rfl (lv_at hl 0 rfl) ?_
  refine va_get (D := (dC, dI)) (ci := 10) (v := .int x_tl) (C := RX10) (T := TX10) (N := 13) hx hb hts iX10_end_X10 hown hK.1 hP 0 rfl rfl 4 (by decide) (kX10_end_1 hts) (fun _ h9 => h9) rfl dX10_end_2 ?_
  refine z_i (wr := [(x0, .inr (10, [.ref w0, .ref z0, .ref xi, .ref xt, .int x_tl, .ref xq, .int x_lc, .ref rdr, .ref h0, .ref t0, .ref q0, .ref v0, .ref m0]))]) (va_runS (As := [.int p0, .int x_tl]) (rest := []) ⟨hx, hb, hml, hown, hts⟩ (mX10_within l dC dI kA _ p0 x_tl) (va_cwS 2 hts gX10_end_X10_within rfl rfl rfl hdX10_within ⟨(Nat.le_of_ble_eq_true rfl), (Nat.le_of_ble_eq_true rfl)⟩) ⟨zPc.blind, zPre hK (hP.sub [] rfl) (hD.sub [] (by decide) rfl)⟩ rfl rfl hl.1 rfl (lv_room (Nat.le_of_ble_eq_true rfl)) dX10_end_5 ⟨(Nat.le_of_ble_eq_true rfl), (Nat.le_of_ble_eq_true rfl)⟩) hP hD hS hA [] [0] rfl rfl (by decide) (by decide) (fun r3 u1 H locs hw2 hP hD hS => ?_)
  obtain rfl := hw2
  obtain ⟨hP, hD⟩ := z_re (L := [(x0, .inr (10, [.ref w0, .ref z0, .ref xi, .ref xt, .int x_tl, .ref xq, .int x_lc, .ref rdr, .ref h0, .ref t0, .ref q0, .ref v0, .ref m0]))]) hP hD
  refine lv_if_ne (tgt := 13) hx hb dX10_end_8 (by decide) (fun c_4 => ?_) (fun c_4 => ?_)
  · have hG := zelse hG c_4
    have c_4a := wi_ne c_4
    have c_4b := c_4a.2
    have c_4a := c_4a.1
    refine lv_aload_n hx hb dX10_end_13 rfl (lv_at hl 0 rfl) ?_
    refine lv_iload_n hx hb dX10_end_14 rfl (lv_at hl 1 rfl) ?_
    refine va_put (D := (dC, dI)) (ci := 10) (v := .int p0) (ty := .int) (C := RX10) (T := TX10) (N := 13) hx hb hts iX10_end_X10 tyX10 tyX10_ok nmX10 hown hK.1 hP hD hS 0 rfl rfl 4 (by decide) (kX10_end_1 hts) (fun _ h9 => h9) rfl (by decide +kernel) rfl rfl (Nat.le_of_ble_eq_true rfl) dX10_end_15 (fun H locs hP hD hS => ?_)
    obtain ⟨hP, hD⟩ := z_re (L := [(x0, .inr (10, [.ref w0, .ref z0, .ref xi, .ref xt, .int p0, .ref xq, .int x_lc, .ref rdr, .ref h0, .ref t0, .ref q0, .ref v0, .ref m0]))]) hP hD
    refine lv_iload_n hx hb dX10_end_18 rfl (lv_at hl 1 rfl) ?_
    obtain ⟨hP9, hD9⟩ := z_sb (L' := [(x0, .inr (10, [.ref w0, .ref z0, .ref xi, .ref xt, .int p0, .ref xq, .int x_lc, .ref rdr, .ref h0, .ref t0, .ref q0, .ref v0, .ref m0]))]) hP hD [0] (by decide) rfl
    refine W.widen (k := 0) (n := 0) (Nat.le_of_ble_eq_true rfl) (Nat.le_of_ble_eq_true rfl) ?_
    exact W.iret (v := p0) hx hb hr (fun t ht hW => ⟨⟨p0, (p0, p0), rfl, ⟨rfl, (hG.trans hG0.symm), c_4a⟩, by rw [ht]; exact hP9, hD9⟩, hS.F ht⟩) hS.2.2 dX10_end_19
  · have hG := zthen hG c_4
    refine lv_iconst (v := (-1)) hx hb dX10_end_11 (by decide) ?_
    obtain ⟨hP9, hD9⟩ := z_sb (L' := [(x0, .inr (10, [.ref w0, .ref z0, .ref xi, .ref xt, .int x_tl, .ref xq, .int x_lc, .ref rdr, .ref h0, .ref t0, .ref q0, .ref v0, .ref m0]))]) hP hD [0] (by decide) rfl
    refine W.widen (k := 0) (n := 0) (Nat.le_of_ble_eq_true rfl) (Nat.le_of_ble_eq_true rfl) ?_
    exact W.iret (v := (-1)) hx hb hr (fun t ht hW => ⟨⟨(-1), (x_tl, (-1)), rfl, ⟨rfl, (hG.trans hG0.symm), ntl⟩, by rw [ht]; exact hP9, hD9⟩, hS.F ht⟩) hS.2.2 dX10_end_12
