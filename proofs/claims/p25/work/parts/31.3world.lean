set_option maxRecDepth 100000 in
def fX9_monthAt (tfm : Int32) (p0 : Int32) : Int32 := bnd ((p0 / 24)) (fun (x1 : Int32) => bnd ((x1 / 30)) (fun (x2 : Int32) => bnd (((tfm + x2) - (tfm + x2) / 12 * 12)) (fun (x3 : Int32) => x3)))
set_option maxHeartbeats 4000000 in
set_option maxRecDepth 100000 in
theorem mX9_monthAt (l : Launch) (dC : Nat → ClassId) (dI : Nat → Nat → Nat) (kA : Nat → ClassId) (sz : Nat) (w0 : Nat) (tnodes : Nat) (tpasses : Nat) (tjars : Nat) (torders : Nat) (tfeasts : Nat) (tway : Nat) (tws : Int32) (tnow : Int32) (tfm : Int32) (tx : Int32) (p0 : Int32)  : Met l yX9_monthAt wsX9_monthAt ({ frames := 0, cells := 0, slots := 0, locals := 0 }) (zPc dC dI kA sz [.ref w0, .int p0] [(w0, .inr (9, [.ref tnodes, .ref tpasses, .ref tjars, .ref torders, .ref tfeasts, .ref tway, .int tws, .int tnow, .int tfm, .int tx]))]) (va_Qi (fun (r : Int32) (u : Int32) => r = u ∧ u = fX9_monthAt tfm p0) (zB dC dI (va_A [(w0, .inr (9, [.ref tnodes, .ref tpasses, .ref tjars, .ref torders, .ref tfeasts, .ref tway, .int tws, .int tnow, .int tfm, .int tx]))] sz) (fun (u : Int32) => [(w0, .inr (9, [.ref tnodes, .ref tpasses, .ref tjars, .ref torders, .ref tfeasts, .ref tway, .int tws, .int tnow, .int tfm, .int tx]))])) (va_A [(w0, .inr (9, [.ref tnodes, .ref tpasses, .ref tjars, .ref torders, .ref tfeasts, .ref tway, .int tws, .int tnow, .int tfm, .int tx]))] sz)) 0 0 (va_A [(w0, .inr (9, [.ref tnodes, .ref tpasses, .ref tjars, .ref torders, .ref tfeasts, .ref tway, .int tws, .int tnow, .int tfm, .int tx]))] sz) := by
  refine Met.ofW (cc := cX9_monthAt) (maxL := 2) (ret := (some .int)) (by decide) rfl ?_
  intro p e s m args below meth c s₁ B hml hv
  obtain ⟨rfl, hsz, hP, hK, hD0⟩ := hv
  have hx := B.exec
  have hb := B.bytes
  have hr := B.returns
  have hts := atoms_spec (ws := wsX9_monthAt) B.pre
  have hown : s.vm.findClass RX9 = some m.cls := findClass_of_methodNamed B.named
  have hlocks := B.notSynchronized
  subst hsz
  have hD := hD0.self (sz := s.heap.size)
  generalize hAe : va_A [(w0, .inr (9, [.ref tnodes, .ref tpasses, .ref tjars, .ref torders, .ref tfeasts, .ref tway, .int tws, .int tnow, .int tfm, .int tx]))] s.heap.size = A at hD ⊢
  have hA : ∀ q : Nat, s.heap.size ≤ q → A q := fun q h => by rw [← hAe]; exact Or.inr h
  have hS : va_S A s.heap s.heap [] := va_S.rf
  have hP : va_P (dC, dI) vwCl [(w0, .inr (9, [.ref tnodes, .ref tpasses, .ref tjars, .ref torders, .ref tfeasts, .ref tway, .int tws, .int tnow, .int tfm, .int tx]))] s.heap := hP
  have hl := lv_entry ([.ref w0, .int p0]) (n := 2) (Nat.le_of_ble_eq_true rfl)
  rw [lg_entry_eq]
  generalize (lg_sl ([.ref w0, .int p0]) ++ List.replicate (2 - (lg_sl ([.ref w0, .int p0])).length) Slot.unset).toArray = ls at hl ⊢
  have hl : lv_has ls 2 [(0, .ref w0), (1, .int p0)] := hl
  obtain ⟨G, hG0⟩ : ∃ G : Int32, fX9_monthAt tfm p0 = G := ⟨_, rfl⟩
  have hG := hG0
  unfold fX9_monthAt at hG
  refine lv_aload_n hx hb dX9_monthAt_0 rfl (lv_at hl 0 rfl) ?_
  refine va_get (D := (dC, dI)) (ci := 9) (v := .int tfm) (C := RX9) (T := TX9) (N := 10) hx hb hts iX9_monthAt_X9 hown hK.1 hP 0 rfl rfl 8 (by decide) (kX9_monthAt_1 hts) (fun _ h9 => h9) rfl dX9_monthAt_1 ?_
  refine lv_iload_n hx hb dX9_monthAt_4 rfl (lv_at hl 1 rfl) ?_
  refine lv_bipush (v := 24) hx hb dX9_monthAt_5 (by decide) ?_
  refine lv_idiv hx hb dX9_monthAt_7 (by decide) ?_
  refine lv_topi (fun x1 ex1 => ?_)
  have hG := zbnd hG ex1
  refine lv_bipush (v := 30) hx hb dX9_monthAt_8 (by decide) ?_
  refine lv_idiv hx hb dX9_monthAt_10 (by decide) ?_
  refine lv_topi (fun x2 ex2 => ?_)
  have hG := zbnd hG ex2
  refine lv_iadd hx hb dX9_monthAt_11 ?_
  refine lv_bipush (v := 12) hx hb dX9_monthAt_12 (by decide) ?_
  refine lv_irem hx hb dX9_monthAt_14 (by decide) ?_
  refine lv_topi (fun x3 ex3 => ?_)
  have hG := zbnd hG ex3
  obtain ⟨hP9, hD9⟩ := z_sb (L' := [(w0, .inr (9, [.ref tnodes, .ref tpasses, .ref tjars, .ref torders, .ref tfeasts, .ref tway, .int tws, .int tnow, .int tfm, .int tx]))]) hP hD [0] (by decide) rfl
  refine W.widen (k := 0) (n := 0) (Nat.le_of_ble_eq_true rfl) (Nat.le_of_ble_eq_true rfl) ?_
  exact W.iret (v := x3) hx hb hr (fun t ht hW => ⟨⟨x3, (x3), rfl, ⟨rfl, (hG.trans hG0.symm)⟩, by rw [ht]; exact hP9, hD9⟩, hS.F ht⟩) hS.2.2 dX9_monthAt_15
set_option maxRecDepth 100000 in
def fX9_hasSnow (tnodesF : Nat → Int32) (p0 : Int32) (p1 : Int32) : Int32 := bnd (fX6_get_48 4 tnodesF p0 1) (fun (r3 : Int32) => bnd ((r3 >>> (p1 &&& 31))) (fun (x8 : Int32) => if (x8 &&& 1) = 1 then (1) else (0)))
set_option maxHeartbeats 4000000 in
set_option maxRecDepth 100000 in
theorem mX9_hasSnow (l : Launch) (dC : Nat → ClassId) (dI : Nat → Nat → Nat) (kA : Nat → ClassId) (sz : Nat) (w0 : Nat) (tnodes : Nat) (tnodesA : Nat) (tnodesS : Int32) (tnodesF : Nat → Int32) (tpasses : Nat) (tjars : Nat) (torders : Nat) (tfeasts : Nat) (tway : Nat) (tws : Int32) (tnow : Int32) (tfm : Int32) (tx : Int32) (p0 : Int32) (p1 : Int32)  : Met l yX9_hasSnow wsX9_hasSnow ({ frames := 1, cells := 0, slots := 0, locals := 23 }) (zPc dC dI kA sz [.ref w0, .int p0, .int p1] [(w0, .inr (9, [.ref tnodes, .ref tpasses, .ref tjars, .ref torders, .ref tfeasts, .ref tway, .int tws, .int tnow, .int tfm, .int tx])), (tnodes, .inr (6, [.int 4, .ref tnodesA, .int tnodesS])), (tnodesA, .inl (kA 0, 48, .inl tnodesF))]) (va_Qi (fun (r : Int32) (u : Int32) => r = u ∧ u = fX9_hasSnow tnodesF p0 p1 ∧ (u = 0 ∨ u = 1)) (zB dC dI (va_A [(w0, .inr (9, [.ref tnodes, .ref tpasses, .ref tjars, .ref torders, .ref tfeasts, .ref tway, .int tws, .int tnow, .int tfm, .int tx])), (tnodes, .inr (6, [.int 4, .ref tnodesA, .int tnodesS])), (tnodesA, .inl (kA 0, 48, .inl tnodesF))] sz) (fun (u : Int32) => [(w0, .inr (9, [.ref tnodes, .ref tpasses, .ref tjars, .ref torders, .ref tfeasts, .ref tway, .int tws, .int tnow, .int tfm, .int tx])), (tnodes, .inr (6, [.int 4, .ref tnodesA, .int tnodesS])), (tnodesA, .inl (kA 0, 48, .inl tnodesF))])) (va_A [(w0, .inr (9, [.ref tnodes, .ref tpasses, .ref tjars, .ref torders, .ref tfeasts, .ref tway, .int tws, .int tnow, .int tfm, .int tx])), (tnodes, .inr (6, [.int 4, .ref tnodesA, .int tnodesS])), (tnodesA, .inl (kA 0, 48, .inl tnodesF))] sz)) 0 0 (va_A [(w0, .inr (9, [.ref tnodes, .ref tpasses, .ref tjars, .ref torders, .ref tfeasts, .ref tway, .int tws, .int tnow, .int tfm, .int tx])), (tnodes, .inr (6, [.int 4, .ref tnodesA, .int tnodesS])), (tnodesA, .inl (kA 0, 48, .inl tnodesF))] sz) := by
  refine Met.ofW (cc := cX9_hasSnow) (maxL := 3) (ret := (some .boolean)) (by decide) rfl ?_
  intro p e s m args below meth c s₁ B hml hv
  obtain ⟨rfl, hsz, hP, hK, hD0⟩ := hv
  have hx := B.exec
  have hb := B.bytes
  have hr := B.returns
  have hts := atoms_spec (ws := wsX9_hasSnow) B.pre
  have hown : s.vm.findClass RX9 = some m.cls := findClass_of_methodNamed B.named
  have hlocks := B.notSynchronized
  subst hsz
  have hD := hD0.self (sz := s.heap.size)
  generalize hAe : va_A [(w0, .inr (9, [.ref tnodes, .ref tpasses, .ref tjars, .ref torders, .ref tfeasts, .ref tway, .int tws, .int tnow, .int tfm, .int tx])), (tnodes, .inr (6, [.int 4, .ref tnodesA, .int tnodesS])), (tnodesA, .inl (kA 0, 48, .inl tnodesF))] s.heap.size = A at hD ⊢
  have hA : ∀ q : Nat, s.heap.size ≤ q → A q := fun q h => by rw [← hAe]; exact Or.inr h
  have hS : va_S A s.heap s.heap [] := va_S.rf
  have hP : va_P (dC, dI) vwCl [(w0, .inr (9, [.ref tnodes, .ref tpasses, .ref tjars, .ref torders, .ref tfeasts, .ref tway, .int tws, .int tnow, .int tfm, .int tx])), (tnodes, .inr (6, [.int 4, .ref tnodesA, .int tnodesS])), (tnodesA, .inl (kA 0, 48, .inl tnodesF))] s.heap := hP
  have hl := lv_entry ([.ref w0, .int p0, .int p1]) (n := 3) (Nat.le_of_ble_eq_true rfl)
  rw [lg_entry_eq]
  generalize (lg_sl ([.ref w0, .int p0, .int p1]) ++ List.replicate (3 - (lg_sl ([.ref w0, .int p0, .int p1])).length) Slot.unset).toArray = ls at hl ⊢
  have hl : lv_has ls 3 [(0, .ref w0), (1, .int p0), (2, .int p1)] := hl
  obtain ⟨G, hG0⟩ : ∃ G : Int32, fX9_hasSnow tnodesF p0 p1 = G := ⟨_, rfl⟩
  have hG := hG0
  unfold fX9_hasSnow at hG
  refine lv_aload_n hx hb dX9_hasSnow_0 rfl (lv_at hl 0 rfl) ?_
  refine va_get (D := (dC, dI)) (ci := 9) (v := .ref tnodes) (C := RX9) (T := TX9) (N := 10) hx hb hts iX9_hasSnow_X9 hown hK.1 hP 0 rfl rfl 0 (by decide) (kX9_hasSnow_1 hts) (fun _ h9 => h9) rfl dX9_hasSnow_1 ?_
  refine lv_iload_n hx hb dX9_hasSnow_4 rfl (lv_at hl 1 rfl) ?_
  refine lv_iconst (v := 1) hx hb dX9_hasSnow_5 (by decide) ?_
  refine z_i (wr := [(w0, .inr (9, [.ref tnodes, .ref tpasses, .ref tjars, .ref torders, .ref tfeasts, .ref tway, .int tws, .int tnow, .int tfm, .int tx]))]) (va_runV (As := [.int p0, .int 1]) (rest := []) ⟨hx, hb, hml, hown, hts⟩ (mX6_get_48 l dC dI kA _ tnodes tnodesA 4 tnodesS tnodesF p0 1) (cwV 2 hts gX9_hasSnow_X6_get rfl rfl rfl ⟨rfl, hdX6_get⟩ ⟨(Nat.le_of_ble_eq_true rfl), (Nat.le_of_ble_eq_true rfl)⟩) ⟨zPc.blind, va_recv hK.1 hP (ci := 6) (q0 := 1) rfl rfl, zPre hK (hP.sub [1, 2] rfl) (hD.sub [1, 2] (by decide) rfl)⟩ rfl rfl hl.1 rfl (lv_room (Nat.le_of_ble_eq_true rfl)) dX9_hasSnow_6 ⟨(Nat.le_of_ble_eq_true rfl), (Nat.le_of_ble_eq_true rfl)⟩) hP hD hS hA [1, 2] [0] rfl rfl (by decide) (by decide) (fun r3 u1 H locs hw2 hP hD hS => ?_)
  obtain ⟨er6, hp5⟩ := hw2
  have er6 : r3 = u1 := er6
  subst er6
  have er3 : r3 = fX6_get_48 4 tnodesF p0 1 := hp5
  have hG := zbnd hG er3
  obtain ⟨hP, hD⟩ := z_re (L := [(w0, .inr (9, [.ref tnodes, .ref tpasses, .ref tjars, .ref torders, .ref tfeasts, .ref tway, .int tws, .int tnow, .int tfm, .int tx])), (tnodes, .inr (6, [.int 4, .ref tnodesA, .int tnodesS])), (tnodesA, .inl (kA 0, 48, .inl tnodesF))]) hP hD
  refine lv_iload_n hx hb dX9_hasSnow_9 rfl (lv_at hl 2 rfl) ?_
  refine lv_ishr hx hb dX9_hasSnow_10 ?_
  refine lv_topi (fun x8 ex8 => ?_)
  have hG := zbnd hG ex8
  refine lv_iconst (v := 1) hx hb dX9_hasSnow_11 (by decide) ?_
  refine lv_iand hx hb dX9_hasSnow_12 ?_
  refine lv_iconst (v := 1) hx hb dX9_hasSnow_13 (by decide) ?_
  refine lv_icmp_ne (tgt := 21) hx hb dX9_hasSnow_14 (by decide) (fun c_9 => ?_) (fun c_9 => ?_)
  · have hG := zelse hG c_9
    refine lv_iconst (v := 0) hx hb dX9_hasSnow_21 (by decide) ?_
    obtain ⟨hP9, hD9⟩ := z_sb (L' := [(w0, .inr (9, [.ref tnodes, .ref tpasses, .ref tjars, .ref torders, .ref tfeasts, .ref tway, .int tws, .int tnow, .int tfm, .int tx])), (tnodes, .inr (6, [.int 4, .ref tnodesA, .int tnodesS])), (tnodesA, .inl (kA 0, 48, .inl tnodesF))]) hP hD [0, 1, 2] (by decide) rfl
    refine W.widen (k := 0) (n := 0) (Nat.le_of_ble_eq_true rfl) (Nat.le_of_ble_eq_true rfl) ?_
    exact W.zret (v := 0) hx hb hr rfl (fun t ht hW => ⟨⟨0, (0), rfl, ⟨rfl, (hG.trans hG0.symm), (Or.inl rfl)⟩, by rw [ht]; exact hP9, hD9⟩, hS.F ht⟩) hS.2.2 dX9_hasSnow_22
  · have hG := zthen hG c_9
    refine lv_iconst (v := 1) hx hb dX9_hasSnow_17 (by decide) ?_
    refine lv_goto (tgt := 22) hx hb dX9_hasSnow_18 (by decide) ?_
    obtain ⟨hP9, hD9⟩ := z_sb (L' := [(w0, .inr (9, [.ref tnodes, .ref tpasses, .ref tjars, .ref torders, .ref tfeasts, .ref tway, .int tws, .int tnow, .int tfm, .int tx])), (tnodes, .inr (6, [.int 4, .ref tnodesA, .int tnodesS])), (tnodesA, .inl (kA 0, 48, .inl tnodesF))]) hP hD [0, 1, 2] (by decide) rfl
    refine W.widen (k := 0) (n := 0) (Nat.le_of_ble_eq_true rfl) (Nat.le_of_ble_eq_true rfl) ?_
    exact W.zret (v := 1) hx hb hr rfl (fun t ht hW => ⟨⟨1, (1), rfl, ⟨rfl, (hG.trans hG0.symm), (Or.inr rfl)⟩, by rw [ht]; exact hP9, hD9⟩, hS.F ht⟩) hS.2.2 dX9_hasSnow_22
set_option maxRecDepth 100000 in
def fX9_otherEnd (tpassesS : Int32) (tpassesF : Nat → Int32) (p0 : Int32) (p1 : Int32) : Int32 := if (hs p0 tpassesS) = 0 then ((-1)) else (bnd (fX6_get_100 5 tpassesF p0 0) (fun (r7 : Int32) => bnd (fX6_get_100 5 tpassesF p0 1) (fun (r14 : Int32) => if p1 = r7 then (r14) else (if p1 = r14 then (r7) else ((-1))))))
set_option maxHeartbeats 4000000 in
set_option maxRecDepth 100000 in
theorem mX9_otherEnd (l : Launch) (dC : Nat → ClassId) (dI : Nat → Nat → Nat) (kA : Nat → ClassId) (sz : Nat) (w0 : Nat) (tnodes : Nat) (tpasses : Nat) (tpassesA : Nat) (tpassesS : Int32) (tpassesF : Nat → Int32) (tjars : Nat) (torders : Nat) (tfeasts : Nat) (tway : Nat) (tws : Int32) (tnow : Int32) (tfm : Int32) (tx : Int32) (p0 : Int32) (p1 : Int32)  : Met l yX9_otherEnd wsX9_otherEnd ({ frames := 1, cells := 0, slots := 0, locals := 23 }) (zPc dC dI kA sz [.ref w0, .int p0, .int p1] [(w0, .inr (9, [.ref tnodes, .ref tpasses, .ref tjars, .ref torders, .ref tfeasts, .ref tway, .int tws, .int tnow, .int tfm, .int tx])), (tpasses, .inr (6, [.int 5, .ref tpassesA, .int tpassesS])), (tpassesA, .inl (kA 0, 100, .inl tpassesF))]) (va_Qi (fun (r : Int32) (u : Int32) => r = u ∧ u = fX9_otherEnd tpassesS tpassesF p0 p1) (zB dC dI (va_A [(w0, .inr (9, [.ref tnodes, .ref tpasses, .ref tjars, .ref torders, .ref tfeasts, .ref tway, .int tws, .int tnow, .int tfm, .int tx])), (tpasses, .inr (6, [.int 5, .ref tpassesA, .int tpassesS])), (tpassesA, .inl (kA 0, 100, .inl tpassesF))] sz) (fun (u : Int32) => [(w0, .inr (9, [.ref tnodes, .ref tpasses, .ref tjars, .ref torders, .ref tfeasts, .ref tway, .int tws, .int tnow, .int tfm, .int tx])), (tpasses, .inr (6, [.int 5, .ref tpassesA, .int tpassesS])), (tpassesA, .inl (kA 0, 100, .inl tpassesF))])) (va_A [(w0, .inr (9, [.ref tnodes, .ref tpasses, .ref tjars, .ref torders, .ref tfeasts, .ref tway, .int tws, .int tnow, .int tfm, .int tx])), (tpasses, .inr (6, [.int 5, .ref tpassesA, .int tpassesS])), (tpassesA, .inl (kA 0, 100, .inl tpassesF))] sz)) 0 0 (va_A [(w0, .inr (9, [.ref tnodes, .ref tpasses, .ref tjars, .ref torders, .ref tfeasts, .ref tway, .int tws, .int tnow, .int tfm, .int tx])), (tpasses, .inr (6, [.int 5, .ref tpassesA, .int tpassesS])), (tpassesA, .inl (kA 0, 100, .inl tpassesF))] sz) := by
  refine Met.ofW (cc := cX9_otherEnd) (maxL := 5) (ret := (some .int)) (by decide) rfl ?_
  intro p e s m args below meth c s₁ B hml hv
  obtain ⟨rfl, hsz, hP, hK, hD0⟩ := hv
  have hx := B.exec
  have hb := B.bytes
  have hr := B.returns
  have hts := atoms_spec (ws := wsX9_otherEnd) B.pre
  have hown : s.vm.findClass RX9 = some m.cls := findClass_of_methodNamed B.named
  have hlocks := B.notSynchronized
  subst hsz
  have hD := hD0.self (sz := s.heap.size)
  generalize hAe : va_A [(w0, .inr (9, [.ref tnodes, .ref tpasses, .ref tjars, .ref torders, .ref tfeasts, .ref tway, .int tws, .int tnow, .int tfm, .int tx])), (tpasses, .inr (6, [.int 5, .ref tpassesA, .int tpassesS])), (tpassesA, .inl (kA 0, 100, .inl tpassesF))] s.heap.size = A at hD ⊢
  have hA : ∀ q : Nat, s.heap.size ≤ q → A q := fun q h => by rw [← hAe]; exact Or.inr h
  have hS : va_S A s.heap s.heap [] := va_S.rf
  have hP : va_P (dC, dI) vwCl [(w0, .inr (9, [.ref tnodes, .ref tpasses, .ref tjars, .ref torders, .ref tfeasts, .ref tway, .int tws, .int tnow, .int tfm, .int tx])), (tpasses, .inr (6, [.int 5, .ref tpassesA, .int tpassesS])), (tpassesA, .inl (kA 0, 100, .inl tpassesF))] s.heap := hP
  have hl := lv_entry ([.ref w0, .int p0, .int p1]) (n := 5) (Nat.le_of_ble_eq_true rfl)
  rw [lg_entry_eq]
  generalize (lg_sl ([.ref w0, .int p0, .int p1]) ++ List.replicate (5 - (lg_sl ([.ref w0, .int p0, .int p1])).length) Slot.unset).toArray = ls at hl ⊢
  have hl : lv_has ls 5 [(0, .ref w0), (1, .int p0), (2, .int p1)] := hl
  obtain ⟨G, hG0⟩ : ∃ G : Int32, fX9_otherEnd tpassesS tpassesF p0 p1 = G := ⟨_, rfl⟩
  have hG := hG0
  unfold fX9_otherEnd at hG
  refine lv_aload_n hx hb dX9_otherEnd_0 rfl (lv_at hl 0 rfl) ?_
  refine va_get (D := (dC, dI)) (ci := 9) (v := .ref tpasses) (C := RX9) (T := TX9) (N := 10) hx hb hts iX9_otherEnd_X9 hown hK.1 hP 0 rfl rfl 1 (by decide) (kX9_otherEnd_1 hts) (fun _ h9 => h9) rfl dX9_otherEnd_1 ?_
  refine lv_iload_n hx hb dX9_otherEnd_4 rfl (lv_at hl 1 rfl) ?_
  refine z_i (wr := [(w0, .inr (9, [.ref tnodes, .ref tpasses, .ref tjars, .ref torders, .ref tfeasts, .ref tway, .int tws, .int tnow, .int tfm, .int tx])), (tpassesA, .inl (kA 0, 100, .inl tpassesF))]) (va_runV (As := [.int p0]) (rest := []) ⟨hx, hb, hml, hown, hts⟩ (mX6_has l dC dI kA _ tpasses tpassesA 5 tpassesS p0) (cwV 1 hts gX9_otherEnd_X6_has rfl rfl rfl ⟨rfl, hdX6_has⟩ ⟨(Nat.le_of_ble_eq_true rfl), (Nat.le_of_ble_eq_true rfl)⟩) ⟨zPc.blind, va_recv hK.1 hP (ci := 6) (q0 := 1) rfl rfl, zPre hK (hP.sub [1] rfl) (hD.sub [1] (by decide) rfl)⟩ rfl rfl hl.1 rfl (lv_room (Nat.le_of_ble_eq_true rfl)) dX9_otherEnd_5 ⟨(Nat.le_of_ble_eq_true rfl), (Nat.le_of_ble_eq_true rfl)⟩) hP hD hS hA [1] [0, 2] rfl rfl (by decide) (by decide) (fun r3 u1 H locs hw2 hP hD hS => ?_)
  obtain rfl := hw2
  obtain ⟨hP, hD⟩ := z_re (L := [(w0, .inr (9, [.ref tnodes, .ref tpasses, .ref tjars, .ref torders, .ref tfeasts, .ref tway, .int tws, .int tnow, .int tfm, .int tx])), (tpassesA, .inl (kA 0, 100, .inl tpassesF)), (tpasses, .inr (6, [.int 5, .ref tpassesA, .int tpassesS]))]) hP hD
  refine lv_if_ne (tgt := 13) hx hb dX9_otherEnd_8 (by decide) (fun c_4 => ?_) (fun c_4 => ?_)
  · have hG := zelse hG c_4
    have c_4a := hs_ne c_4
    have c_4b := c_4a.2
    have c_4a := c_4a.1
    refine lv_aload_n hx hb dX9_otherEnd_13 rfl (lv_at hl 0 rfl) ?_
    refine va_get (D := (dC, dI)) (ci := 9) (v := .ref tpasses) (C := RX9) (T := TX9) (N := 10) hx hb hts iX9_otherEnd_X9 hown hK.1 hP 0 rfl rfl 1 (by decide) (kX9_otherEnd_1 hts) (fun _ h9 => h9) rfl dX9_otherEnd_14 ?_
    refine lv_iload_n hx hb dX9_otherEnd_17 rfl (lv_at hl 1 rfl) ?_
    refine lv_iconst (v := 0) hx hb dX9_otherEnd_18 (by decide) ?_
    refine z_i (wr := [(w0, .inr (9, [.ref tnodes, .ref tpasses, .ref tjars, .ref torders, .ref tfeasts, .ref tway, .int tws, .int tnow, .int tfm, .int tx]))]) (va_runV (As := [.int p0, .int 0]) (rest := []) ⟨hx, hb, hml, hown, hts⟩ (mX6_get_100 l dC dI kA _ tpasses tpassesA 5 tpassesS tpassesF p0 0) (cwV 2 hts gX9_otherEnd_X6_get rfl rfl rfl ⟨rfl, hdX6_get⟩ ⟨(Nat.le_of_ble_eq_true rfl), (Nat.le_of_ble_eq_true rfl)⟩) ⟨zPc.blind, va_recv hK.1 hP (ci := 6) (q0 := 2) rfl rfl, zPre hK (hP.sub [2, 1] rfl) (hD.sub [2, 1] (by decide) rfl)⟩ rfl rfl hl.1 rfl (lv_room (Nat.le_of_ble_eq_true rfl)) dX9_otherEnd_19 ⟨(Nat.le_of_ble_eq_true rfl), (Nat.le_of_ble_eq_true rfl)⟩) hP hD hS hA [2, 1] [0] rfl rfl (by decide) (by decide) (fun r7 u5 H locs hw6 hP hD hS => ?_)
    obtain ⟨er10, hp9⟩ := hw6
    have er10 : r7 = u5 := er10
    subst er10
    have er7 : r7 = fX6_get_100 5 tpassesF p0 0 := hp9
    have hG := zbnd hG er7
    obtain ⟨hP, hD⟩ := z_re (L := [(w0, .inr (9, [.ref tnodes, .ref tpasses, .ref tjars, .ref torders, .ref tfeasts, .ref tway, .int tws, .int tnow, .int tfm, .int tx])), (tpasses, .inr (6, [.int 5, .ref tpassesA, .int tpassesS])), (tpassesA, .inl (kA 0, 100, .inl tpassesF))]) hP hD
    refine lv_istore_n (lv' := [(3, .int r7), (0, .ref w0), (1, .int p0), (2, .int p1)]) hx hb dX9_otherEnd_22 rfl hl (by decide) rfl (fun ls hl => ?_)
    refine lv_aload_n hx hb dX9_otherEnd_23 rfl (lv_at hl 1 rfl) ?_
    refine va_get (D := (dC, dI)) (ci := 9) (v := .ref tpasses) (C := RX9) (T := TX9) (N := 10) hx hb hts iX9_otherEnd_X9 hown hK.1 hP 0 rfl rfl 1 (by decide) (kX9_otherEnd_1 hts) (fun _ h9 => h9) rfl dX9_otherEnd_24 ?_
    refine lv_iload_n hx hb dX9_otherEnd_27 rfl (lv_at hl 2 rfl) ?_
    refine lv_iconst (v := 1) hx hb dX9_otherEnd_28 (by decide) ?_
    refine z_i (wr := [(w0, .inr (9, [.ref tnodes, .ref tpasses, .ref tjars, .ref torders, .ref tfeasts, .ref tway, .int tws, .int tnow, .int tfm, .int tx]))]) (va_runV (As := [.int p0, .int 1]) (rest := []) ⟨hx, hb, hml, hown, hts⟩ (mX6_get_100 l dC dI kA _ tpasses tpassesA 5 tpassesS tpassesF p0 1) (cwV 2 hts gX9_otherEnd_X6_get rfl rfl rfl ⟨rfl, hdX6_get⟩ ⟨(Nat.le_of_ble_eq_true rfl), (Nat.le_of_ble_eq_true rfl)⟩) ⟨zPc.blind, va_recv hK.1 hP (ci := 6) (q0 := 1) rfl rfl, zPre hK (hP.sub [1, 2] rfl) (hD.sub [1, 2] (by decide) rfl)⟩ rfl rfl hl.1 rfl (lv_room (Nat.le_of_ble_eq_true rfl)) dX9_otherEnd_29 ⟨(Nat.le_of_ble_eq_true rfl), (Nat.le_of_ble_eq_true rfl)⟩) hP hD hS hA [1, 2] [0] rfl rfl (by decide) (by decide) (fun r14 u12 H locs hw13 hP hD hS => ?_)
    obtain ⟨er17, hp16⟩ := hw13
    have er17 : r14 = u12 := er17
    subst er17
    have er14 : r14 = fX6_get_100 5 tpassesF p0 1 := hp16
    have hG := zbnd hG er14
    obtain ⟨hP, hD⟩ := z_re (L := [(w0, .inr (9, [.ref tnodes, .ref tpasses, .ref tjars, .ref torders, .ref tfeasts, .ref tway, .int tws, .int tnow, .int tfm, .int tx])), (tpasses, .inr (6, [.int 5, .ref tpassesA, .int tpassesS])), (tpassesA, .inl (kA 0, 100, .inl tpassesF))]) hP hD
    refine lv_istore (lv' := [(4, .int r14), (3, .int r7), (0, .ref w0), (1, .int p0), (2, .int p1)]) hx hb dX9_otherEnd_32 hl (by decide) rfl (fun ls hl => ?_)
    refine lv_iload_n hx hb dX9_otherEnd_34 rfl (lv_at hl 4 rfl) ?_
    refine lv_iload_n hx hb dX9_otherEnd_35 rfl (lv_at hl 1 rfl) ?_
    refine lv_icmp_ne (tgt := 42) hx hb dX9_otherEnd_36 (by decide) (fun c_19 => ?_) (fun c_19 => ?_)
    · have hG := zelse hG c_19
      refine lv_iload_n hx hb dX9_otherEnd_42 rfl (lv_at hl 4 rfl) ?_
      refine lv_iload hx hb dX9_otherEnd_43 (lv_at hl 0 rfl) ?_
      refine lv_icmp_ne (tgt := 52) hx hb dX9_otherEnd_45 (by decide) (fun c_20 => ?_) (fun c_20 => ?_)
      · have hG := zelse hG c_20
        refine lv_iconst (v := (-1)) hx hb dX9_otherEnd_52 (by decide) ?_
        obtain ⟨hP9, hD9⟩ := z_sb (L' := [(w0, .inr (9, [.ref tnodes, .ref tpasses, .ref tjars, .ref torders, .ref tfeasts, .ref tway, .int tws, .int tnow, .int tfm, .int tx])), (tpasses, .inr (6, [.int 5, .ref tpassesA, .int tpassesS])), (tpassesA, .inl (kA 0, 100, .inl tpassesF))]) hP hD [0, 1, 2] (by decide) rfl
        refine W.widen (k := 0) (n := 0) (Nat.le_of_ble_eq_true rfl) (Nat.le_of_ble_eq_true rfl) ?_
        exact W.iret (v := (-1)) hx hb hr (fun t ht hW => ⟨⟨(-1), ((-1)), rfl, ⟨rfl, (hG.trans hG0.symm)⟩, by rw [ht]; exact hP9, hD9⟩, hS.F ht⟩) hS.2.2 dX9_otherEnd_53
      · have hG := zthen hG c_20
        refine lv_iload_n hx hb dX9_otherEnd_48 rfl (lv_at hl 1 rfl) ?_
        refine lv_goto (tgt := 53) hx hb dX9_otherEnd_49 (by decide) ?_
        obtain ⟨hP9, hD9⟩ := z_sb (L' := [(w0, .inr (9, [.ref tnodes, .ref tpasses, .ref tjars, .ref torders, .ref tfeasts, .ref tway, .int tws, .int tnow, .int tfm, .int tx])), (tpasses, .inr (6, [.int 5, .ref tpassesA, .int tpassesS])), (tpassesA, .inl (kA 0, 100, .inl tpassesF))]) hP hD [0, 1, 2] (by decide) rfl
        refine W.widen (k := 0) (n := 0) (Nat.le_of_ble_eq_true rfl) (Nat.le_of_ble_eq_true rfl) ?_
        exact W.iret (v := r7) hx hb hr (fun t ht hW => ⟨⟨r7, (r7), rfl, ⟨rfl, (hG.trans hG0.symm)⟩, by rw [ht]; exact hP9, hD9⟩, hS.F ht⟩) hS.2.2 dX9_otherEnd_53
    · have hG := zthen hG c_19
      refine lv_iload hx hb dX9_otherEnd_39 (lv_at hl 0 rfl) ?_
      obtain ⟨hP9, hD9⟩ := z_sb (L' := [(w0, .inr (9, [.ref tnodes, .ref tpasses, .ref tjars, .ref torders, .ref tfeasts, .ref tway, .int tws, .int tnow, .int tfm, .int tx])), (tpasses, .inr (6, [.int 5, .ref tpassesA, .int tpassesS])), (tpassesA, .inl (kA 0, 100, .inl tpassesF))]) hP hD [0, 1, 2] (by decide) rfl
      refine W.widen (k := 0) (n := 0) (Nat.le_of_ble_eq_true rfl) (Nat.le_of_ble_eq_true rfl) ?_
      exact W.iret (v := r14) hx hb hr (fun t ht hW => ⟨⟨r14, (r14), rfl, ⟨rfl, (hG.trans hG0.symm)⟩, by rw [ht]; exact hP9, hD9⟩, hS.F ht⟩) hS.2.2 dX9_otherEnd_41
  · have hG := zthen hG c_4
    refine lv_iconst (v := (-1)) hx hb dX9_otherEnd_11 (by decide) ?_
    obtain ⟨hP9, hD9⟩ := z_sb (L' := [(w0, .inr (9, [.ref tnodes, .ref tpasses, .ref tjars, .ref torders, .ref tfeasts, .ref tway, .int tws, .int tnow, .int tfm, .int tx])), (tpasses, .inr (6, [.int 5, .ref tpassesA, .int tpassesS])), (tpassesA, .inl (kA 0, 100, .inl tpassesF))]) hP hD [0, 2, 1] (by decide) rfl
    refine W.widen (k := 0) (n := 0) (Nat.le_of_ble_eq_true rfl) (Nat.le_of_ble_eq_true rfl) ?_
    exact W.iret (v := (-1)) hx hb hr (fun t ht hW => ⟨⟨(-1), ((-1)), rfl, ⟨rfl, (hG.trans hG0.symm)⟩, by rw [ht]; exact hP9, hD9⟩, hS.F ht⟩) hS.2.2 dX9_otherEnd_12
set_option maxRecDepth 100000 in
def fb_mX9_wayEnd_7 (tpassesS : Int32) (tpassesF : Nat → Int32) (twayS : Int32) (twayF : Nat → Int32) (E39 : Int32 → Int32 → Int32) (K : Int32 → Int32 → Int32) (l7_0 : Int32) (l7_1 : Int32) : Int32 := if twayS ≤ l7_0 then (E39 l7_0 l7_1) else (bnd (fX6_get_6 1 twayF l7_0 0) (fun (ry7_4 : Int32) => bnd (fX9_otherEnd tpassesS tpassesF ry7_4 l7_1) (fun (ry7_11 : Int32) => bnd ((l7_0 + 1)) (fun (xy7_16 : Int32) => K xy7_16 ry7_11))))
def fl_mX9_wayEnd_7 (tpassesS : Int32) (tpassesF : Nat → Int32) (twayS : Int32) (twayF : Nat → Int32) (E39 : Int32 → Int32 → Int32) : Nat → Int32 → Int32 → Int32
  | 0, _, _ => 0
  | n + 1, l7_0, l7_1 => fb_mX9_wayEnd_7 tpassesS tpassesF twayS twayF E39 (fl_mX9_wayEnd_7 tpassesS tpassesF twayS twayF E39 n) l7_0 l7_1
set_option maxHeartbeats 4000000 in
set_option maxRecDepth 100000 in
theorem lp_mX9_wayEnd_7 {p : Program} {l : Launch} {e : Env} {R : Room} {s : State} {m : MethodId} {args : Array Value} {below : List Frame} {meth : Method} {c : Code} {Q : State → Prop} {dC : Nat → ClassId} {dI : Nat → Nat → Nat} {kA : Nat → ClassId} {A : Nat → Prop} {H0 : Heap} {cells slots : Nat} (hx : p.tables.exec = Jvm.exec) (hb : c.code = cX9_wayEnd) (hml : c.maxLocals = 3) (hts : ∀ w ∈ wsX9_wayEnd, w.before args s = true) (hown : s.vm.findClass RX9 = some m.cls) (hK : zK dC dI kA s) (hA : ∀ q, H0.size ≤ q → A q) (hRf : 2 ≤ R.frames) (hRl : 47 ≤ R.locals) (hRc : cells ≤ R.cells) (hRs : slots ≤ R.slots) (w0 : Nat) (tnodes : Nat) (tpasses : Nat) (tpassesA : Nat) (tpassesS : Int32) (tpassesF : Nat → Int32) (tjars : Nat) (torders : Nat) (tfeasts : Nat) (tway : Nat) (twayA : Nat) (twayS : Int32) (twayF : Nat → Int32) (tws : Int32) (tnow : Int32) (tfm : Int32) (tx : Int32) {G : Int32} {E39 : Int32 → Int32 → Int32}  (k39 : ∀ (w39_0 : Int32) (w39_1 : Int32) (H : Heap) (locs : List Loc) (ls : Array Slot), ¬ w39_0 < 0 → E39 w39_0 w39_1 = G → va_P (dC, dI) vwCl [(w0, .inr (9, [.ref tnodes, .ref tpasses, .ref tjars, .ref torders, .ref tfeasts, .ref tway, .int tws, .int tnow, .int tfm, .int tx])), (tpasses, .inr (6, [.int 5, .ref tpassesA, .int tpassesS])), (tpassesA, .inl (kA 0, 100, .inl tpassesF)), (tway, .inr (6, [.int 1, .ref twayA, .int twayS])), (twayA, .inl (kA 0, 6, .inl twayF))] H → va_D A [(w0, .inr (9, [.ref tnodes, .ref tpasses, .ref tjars, .ref torders, .ref tfeasts, .ref tway, .int tws, .int tnow, .int tfm, .int tx])), (tpasses, .inr (6, [.int 5, .ref tpassesA, .int tpassesS])), (tpassesA, .inl (kA 0, 100, .inl tpassesF)), (tway, .inr (6, [.int 1, .ref twayA, .int twayS])), (twayA, .inl (kA 0, 6, .inl twayF))] → va_S A H0 H locs → lv_has ls 3 [(2, .int w39_0), (1, .int w39_1), (0, .ref w0)] → W p l e R s m args below meth c H locs cells slots Q (F0 m 39 ls []))  : ∀ (n : Nat) (l7_0 : Int32) (l7_1 : Int32) (H : Heap) (locs : List Loc) (ls : Array Slot), ((twayS : Int32).toInt - l7_0.toInt).toNat < n → fl_mX9_wayEnd_7 tpassesS tpassesF twayS twayF E39 n l7_0 l7_1 = G → ¬ l7_0 < 0 → va_P (dC, dI) vwCl [(w0, .inr (9, [.ref tnodes, .ref tpasses, .ref tjars, .ref torders, .ref tfeasts, .ref tway, .int tws, .int tnow, .int tfm, .int tx])), (tpasses, .inr (6, [.int 5, .ref tpassesA, .int tpassesS])), (tpassesA, .inl (kA 0, 100, .inl tpassesF)), (tway, .inr (6, [.int 1, .ref twayA, .int twayS])), (twayA, .inl (kA 0, 6, .inl twayF))] H → va_D A [(w0, .inr (9, [.ref tnodes, .ref tpasses, .ref tjars, .ref torders, .ref tfeasts, .ref tway, .int tws, .int tnow, .int tfm, .int tx])), (tpasses, .inr (6, [.int 5, .ref tpassesA, .int tpassesS])), (tpassesA, .inl (kA 0, 100, .inl tpassesF)), (tway, .inr (6, [.int 1, .ref twayA, .int twayS])), (twayA, .inl (kA 0, 6, .inl twayF))] → va_S A H0 H locs → lv_has ls 3 [(2, .int l7_0), (1, .int l7_1), (0, .ref w0)] → W p l e R s m args below meth c H locs cells slots Q (F0 m 7 ls []) := by
  intro n
  induction n with
  | zero =>
    intro l7_0 l7_1 H locs ls hn
    exact absurd hn (Nat.not_lt_zero _)
  | succ n ih =>
    intro l7_0 l7_1 H locs ls hn hG hi7 hP hD hS hl
    have hG : fb_mX9_wayEnd_7 tpassesS tpassesF twayS twayF E39 (fl_mX9_wayEnd_7 tpassesS tpassesF twayS twayF E39 n) l7_0 l7_1 = G := hG
    unfold fb_mX9_wayEnd_7 at hG
    refine lv_iload_n hx hb dX9_wayEnd_7 rfl (lv_at hl 0 rfl) ?_
    refine lv_aload_n hx hb dX9_wayEnd_8 rfl (lv_at hl 2 rfl) ?_
    refine va_get (D := (dC, dI)) (ci := 9) (v := .ref tway) (C := RX9) (T := TX9) (N := 10) hx hb hts iX9_wayEnd_X9 hown hK.1 hP 0 rfl rfl 5 (by decide) (kX9_wayEnd_2 hts) (fun _ h9 => h9) rfl dX9_wayEnd_9 ?_
    refine va_get (D := (dC, dI)) (ci := 6) (v := .int twayS) (C := RX6) (T := TX6) (N := 3) hx hb hts iX9_wayEnd_X6 hown hK.1 hP 3 rfl rfl 2 (by decide) (kX9_wayEnd_3 hts) (fun _ h9 => h9) rfl dX9_wayEnd_12 ?_
    refine lv_icmp_ge (tgt := 39) hx hb dX9_wayEnd_15 (by decide) (fun c_y7_1 => ?_) (fun c_y7_1 => ?_)
    · have hG := zthen hG c_y7_1
      exact k39 l7_0 l7_1 H locs ls hi7 hG (hP.sub [0, 1, 2, 3, 4] rfl) (hD.sub [0, 1, 2, 3, 4] (by decide) rfl) hS (lv_sub hl [0, 1, 2] rfl)
    · have hG := zelse hG c_y7_1
      refine lv_aload_n hx hb dX9_wayEnd_18 rfl (lv_at hl 2 rfl) ?_
      refine lv_aload_n hx hb dX9_wayEnd_19 rfl (lv_at hl 2 rfl) ?_
      refine va_get (D := (dC, dI)) (ci := 9) (v := .ref tway) (C := RX9) (T := TX9) (N := 10) hx hb hts iX9_wayEnd_X9 hown hK.1 hP 0 rfl rfl 5 (by decide) (kX9_wayEnd_2 hts) (fun _ h9 => h9) rfl dX9_wayEnd_20 ?_
      refine lv_iload_n hx hb dX9_wayEnd_23 rfl (lv_at hl 0 rfl) ?_
      refine lv_iconst (v := 0) hx hb dX9_wayEnd_24 (by decide) ?_
      refine z_i (wr := [(w0, .inr (9, [.ref tnodes, .ref tpasses, .ref tjars, .ref torders, .ref tfeasts, .ref tway, .int tws, .int tnow, .int tfm, .int tx])), (tpasses, .inr (6, [.int 5, .ref tpassesA, .int tpassesS])), (tpassesA, .inl (kA 0, 100, .inl tpassesF))]) (va_runV (As := [.int l7_0, .int 0]) (rest := [.ref w0]) ⟨hx, hb, hml, hown, hts⟩ (mX6_get_6 l dC dI kA _ tway twayA 1 twayS twayF l7_0 0) (cwV 2 hts gX9_wayEnd_X6_get rfl rfl rfl ⟨rfl, hdX6_get⟩ ⟨(Nat.le_trans (Nat.le_of_ble_eq_true rfl) hRf), (Nat.le_trans (Nat.le_of_ble_eq_true rfl) hRl)⟩) ⟨zPc.blind, va_recv hK.1 hP (ci := 6) (q0 := 3) rfl rfl, zPre hK (hP.sub [3, 4] rfl) (hD.sub [3, 4] (by decide) rfl)⟩ rfl rfl hl.1 rfl (lv_room (Nat.le_of_ble_eq_true rfl)) dX9_wayEnd_25 ⟨hRc, hRs⟩) hP hD hS hA [3, 4] [0, 1, 2] rfl rfl (by decide) (by decide) (fun ry7_4 uy7_2 H locs hwy7_3 hP hD hS => ?_)
      obtain ⟨ery7_7, hpy7_6⟩ := hwy7_3
      have ery7_7 : ry7_4 = uy7_2 := ery7_7
      subst ery7_7
      have ery7_4 : ry7_4 = fX6_get_6 1 twayF l7_0 0 := hpy7_6
      have hG := zbnd hG ery7_4
      obtain ⟨hP, hD⟩ := z_re (L := [(w0, .inr (9, [.ref tnodes, .ref tpasses, .ref tjars, .ref torders, .ref tfeasts, .ref tway, .int tws, .int tnow, .int tfm, .int tx])), (tpasses, .inr (6, [.int 5, .ref tpassesA, .int tpassesS])), (tpassesA, .inl (kA 0, 100, .inl tpassesF)), (tway, .inr (6, [.int 1, .ref twayA, .int twayS])), (twayA, .inl (kA 0, 6, .inl twayF))]) hP hD
      refine lv_iload_n hx hb dX9_wayEnd_28 rfl (lv_at hl 1 rfl) ?_
      refine z_i (wr := [(tway, .inr (6, [.int 1, .ref twayA, .int twayS])), (twayA, .inl (kA 0, 6, .inl twayF))]) (va_runV (As := [.int ry7_4, .int l7_1]) (rest := []) ⟨hx, hb, hml, hown, hts⟩ (mX9_otherEnd l dC dI kA _ w0 tnodes tpasses tpassesA tpassesS tpassesF tjars torders tfeasts tway tws tnow tfm tx ry7_4 l7_1) (cwV 2 hts gX9_wayEnd_X9_otherEnd rfl rfl rfl ⟨rfl, hdX9_otherEnd⟩ ⟨(Nat.le_trans (Nat.le_of_ble_eq_true rfl) hRf), (Nat.le_trans (Nat.le_of_ble_eq_true rfl) hRl)⟩) ⟨zPc.blind, va_recv hK.1 hP (ci := 9) (q0 := 0) rfl rfl, zPre hK (hP.sub [0, 1, 2] rfl) (hD.sub [0, 1, 2] (by decide) rfl)⟩ rfl rfl hl.1 rfl (lv_room (Nat.le_of_ble_eq_true rfl)) dX9_wayEnd_29 ⟨hRc, hRs⟩) hP hD hS hA [0, 1, 2] [3, 4] rfl rfl (by decide) (by decide) (fun ry7_11 uy7_9 H locs hwy7_10 hP hD hS => ?_)
      obtain ⟨ery7_14, hpy7_13⟩ := hwy7_10
      have ery7_14 : ry7_11 = uy7_9 := ery7_14
      subst ery7_14
      have ery7_11 : ry7_11 = fX9_otherEnd tpassesS tpassesF ry7_4 l7_1 := hpy7_13
      have hG := zbnd hG ery7_11
      obtain ⟨hP, hD⟩ := z_re (L := [(tway, .inr (6, [.int 1, .ref twayA, .int twayS])), (twayA, .inl (kA 0, 6, .inl twayF)), (w0, .inr (9, [.ref tnodes, .ref tpasses, .ref tjars, .ref torders, .ref tfeasts, .ref tway, .int tws, .int tnow, .int tfm, .int tx])), (tpasses, .inr (6, [.int 5, .ref tpassesA, .int tpassesS])), (tpassesA, .inl (kA 0, 100, .inl tpassesF))]) hP hD
      refine lv_istore_n (lv' := [(1, .int ry7_11), (2, .int l7_0), (0, .ref w0)]) hx hb dX9_wayEnd_32 rfl hl (by decide) rfl (fun ls hl => ?_)
      obtain ⟨xy7_16, exy7_16⟩ : ∃ y : Int32, y = l7_0 + 1 := ⟨_, rfl⟩
      have hG := zbnd hG exy7_16
      refine lv_iinc (v := xy7_16) (lv' := [(2, .int xy7_16), (1, .int ry7_11), (0, .ref w0)]) hx hb dX9_wayEnd_33 hl (k := 1) rfl (by rw [exy7_16]; rfl) (by decide) rfl (fun ls hl => ?_)
      refine lv_goto (tgt := 7) hx hb dX9_wayEnd_36 (by decide) ?_
      exact ih xy7_16 ry7_11 H locs ls (z_up hn exy7_16 c_y7_1) hG (z_nn exy7_16 c_y7_1 hi7) (hP.sub [2, 3, 4, 0, 1] rfl) (hD.sub [2, 3, 4, 0, 1] (by decide) rfl) hS (lv_sub hl [0, 1, 2] rfl)
set_option maxRecDepth 100000 in
def fX9_wayEnd (tpassesS : Int32) (tpassesF : Nat → Int32) (twayS : Int32) (twayF : Nat → Int32) (tws : Int32) : Int32 := fl_mX9_wayEnd_7 tpassesS tpassesF twayS twayF (fun (w39_0_0 : Int32) (w39_1_0 : Int32) => w39_1_0) (((twayS : Int32).toInt - (0 : Int32).toInt).toNat + 1) 0 tws
set_option maxHeartbeats 4000000 in
set_option maxRecDepth 100000 in
theorem mX9_wayEnd (l : Launch) (dC : Nat → ClassId) (dI : Nat → Nat → Nat) (kA : Nat → ClassId) (sz : Nat) (w0 : Nat) (tnodes : Nat) (tpasses : Nat) (tpassesA : Nat) (tpassesS : Int32) (tpassesF : Nat → Int32) (tjars : Nat) (torders : Nat) (tfeasts : Nat) (tway : Nat) (twayA : Nat) (twayS : Int32) (twayF : Nat → Int32) (tws : Int32) (tnow : Int32) (tfm : Int32) (tx : Int32)  : Met l yX9_wayEnd wsX9_wayEnd ({ frames := 2, cells := 0, slots := 0, locals := 47 }) (zPc dC dI kA sz [.ref w0] [(w0, .inr (9, [.ref tnodes, .ref tpasses, .ref tjars, .ref torders, .ref tfeasts, .ref tway, .int tws, .int tnow, .int tfm, .int tx])), (tpasses, .inr (6, [.int 5, .ref tpassesA, .int tpassesS])), (tpassesA, .inl (kA 0, 100, .inl tpassesF)), (tway, .inr (6, [.int 1, .ref twayA, .int twayS])), (twayA, .inl (kA 0, 6, .inl twayF))]) (va_Qi (fun (r : Int32) (u : Int32) => r = u ∧ u = fX9_wayEnd tpassesS tpassesF twayS twayF tws) (zB dC dI (va_A [(w0, .inr (9, [.ref tnodes, .ref tpasses, .ref tjars, .ref torders, .ref tfeasts, .ref tway, .int tws, .int tnow, .int tfm, .int tx])), (tpasses, .inr (6, [.int 5, .ref tpassesA, .int tpassesS])), (tpassesA, .inl (kA 0, 100, .inl tpassesF)), (tway, .inr (6, [.int 1, .ref twayA, .int twayS])), (twayA, .inl (kA 0, 6, .inl twayF))] sz) (fun (u : Int32) => [(w0, .inr (9, [.ref tnodes, .ref tpasses, .ref tjars, .ref torders, .ref tfeasts, .ref tway, .int tws, .int tnow, .int tfm, .int tx])), (tpasses, .inr (6, [.int 5, .ref tpassesA, .int tpassesS])), (tpassesA, .inl (kA 0, 100, .inl tpassesF)), (tway, .inr (6, [.int 1, .ref twayA, .int twayS])), (twayA, .inl (kA 0, 6, .inl twayF))])) (va_A [(w0, .inr (9, [.ref tnodes, .ref tpasses, .ref tjars, .ref torders, .ref tfeasts, .ref tway, .int tws, .int tnow, .int tfm, .int tx])), (tpasses, .inr (6, [.int 5, .ref tpassesA, .int tpassesS])), (tpassesA, .inl (kA 0, 100, .inl tpassesF)), (tway, .inr (6, [.int 1, .ref twayA, .int twayS])), (twayA, .inl (kA 0, 6, .inl twayF))] sz)) 0 0 (va_A [(w0, .inr (9, [.ref tnodes, .ref tpasses, .ref tjars, .ref torders, .ref tfeasts, .ref tway, .int tws, .int tnow, .int tfm, .int tx])), (tpasses, .inr (6, [.int 5, .ref tpassesA, .int tpassesS])), (tpassesA, .inl (kA 0, 100, .inl tpassesF)), (tway, .inr (6, [.int 1, .ref twayA, .int twayS])), (twayA, .inl (kA 0, 6, .inl twayF))] sz) := by
  refine Met.ofW (cc := cX9_wayEnd) (maxL := 3) (ret := (some .int)) (by decide) rfl ?_
  intro p e s m args below meth c s₁ B hml hv
  obtain ⟨rfl, hsz, hP, hK, hD0⟩ := hv
  have hx := B.exec
  have hb := B.bytes
  have hr := B.returns
  have hts := atoms_spec (ws := wsX9_wayEnd) B.pre
  have hown : s.vm.findClass RX9 = some m.cls := findClass_of_methodNamed B.named
  have hlocks := B.notSynchronized
  subst hsz
  have hD := hD0.self (sz := s.heap.size)
  generalize hAe : va_A [(w0, .inr (9, [.ref tnodes, .ref tpasses, .ref tjars, .ref torders, .ref tfeasts, .ref tway, .int tws, .int tnow, .int tfm, .int tx])), (tpasses, .inr (6, [.int 5, .ref tpassesA, .int tpassesS])), (tpassesA, .inl (kA 0, 100, .inl tpassesF)), (tway, .inr (6, [.int 1, .ref twayA, .int twayS])), (twayA, .inl (kA 0, 6, .inl twayF))] s.heap.size = A at hD ⊢
  have hA : ∀ q : Nat, s.heap.size ≤ q → A q := fun q h => by rw [← hAe]; exact Or.inr h
  have hS : va_S A s.heap s.heap [] := va_S.rf
  have hP : va_P (dC, dI) vwCl [(w0, .inr (9, [.ref tnodes, .ref tpasses, .ref tjars, .ref torders, .ref tfeasts, .ref tway, .int tws, .int tnow, .int tfm, .int tx])), (tpasses, .inr (6, [.int 5, .ref tpassesA, .int tpassesS])), (tpassesA, .inl (kA 0, 100, .inl tpassesF)), (tway, .inr (6, [.int 1, .ref twayA, .int twayS])), (twayA, .inl (kA 0, 6, .inl twayF))] s.heap := hP
  have hl := lv_entry ([.ref w0]) (n := 3) (Nat.le_of_ble_eq_true rfl)
  rw [lg_entry_eq]
  generalize (lg_sl ([.ref w0]) ++ List.replicate (3 - (lg_sl ([.ref w0])).length) Slot.unset).toArray = ls at hl ⊢
  have hl : lv_has ls 3 [(0, .ref w0)] := hl
  obtain ⟨H, hHe⟩ : ∃ H : Heap, H = s.heap := ⟨_, rfl⟩
  obtain ⟨G, hG0⟩ : ∃ G : Int32, fX9_wayEnd tpassesS tpassesF twayS twayF tws = G := ⟨_, rfl⟩
  have hG := hG0
  unfold fX9_wayEnd at hG
  refine lv_aload_n hx hb dX9_wayEnd_0 rfl (lv_at hl 0 rfl) ?_
  refine va_get (D := (dC, dI)) (ci := 9) (v := .int tws) (C := RX9) (T := TX9) (N := 10) hx hb hts iX9_wayEnd_X9 hown hK.1 hP 0 rfl rfl 6 (by decide) (kX9_wayEnd_1 hts) (fun _ h9 => h9) rfl dX9_wayEnd_1 ?_
  refine lv_istore_n (lv' := [(1, .int tws), (0, .ref w0)]) hx hb dX9_wayEnd_4 rfl hl (by decide) rfl (fun ls hl => ?_)
  refine lv_iconst (v := 0) hx hb dX9_wayEnd_5 (by decide) ?_
  refine lv_istore_n (lv' := [(2, .int 0), (1, .int tws), (0, .ref w0)]) hx hb dX9_wayEnd_6 rfl hl (by decide) rfl (fun ls hl => ?_)
  refine lp_mX9_wayEnd_7 hx hb hml hts hown hK hA (Nat.le_of_ble_eq_true rfl) (Nat.le_of_ble_eq_true rfl) (Nat.le_of_ble_eq_true rfl) (Nat.le_of_ble_eq_true rfl) w0 tnodes tpasses tpassesA tpassesS tpassesF tjars torders tfeasts tway twayA twayS twayF tws tnow tfm tx  (fun w39_0_0 w39_1_0 H locs ls hx39_2_nlt00_0 hG hP hD hS hl => ?_) _ 0 tws _ _ ls (Nat.lt_succ_self _) hG (by decide) hP hD hS (lv_sub hl [0, 1, 2] rfl)
  obtain ⟨hP, hD⟩ := z_re (L := [(w0, .inr (9, [.ref tnodes, .ref tpasses, .ref tjars, .ref torders, .ref tfeasts, .ref tway, .int tws, .int tnow, .int tfm, .int tx])), (tpasses, .inr (6, [.int 5, .ref tpassesA, .int tpassesS])), (tpassesA, .inl (kA 0, 100, .inl tpassesF)), (tway, .inr (6, [.int 1, .ref twayA, .int twayS])), (twayA, .inl (kA 0, 6, .inl twayF))]) hP hD
  refine lv_iload_n hx hb dX9_wayEnd_39 rfl (lv_at hl 1 rfl) ?_
  obtain ⟨hP9, hD9⟩ := z_sb (L' := [(w0, .inr (9, [.ref tnodes, .ref tpasses, .ref tjars, .ref torders, .ref tfeasts, .ref tway, .int tws, .int tnow, .int tfm, .int tx])), (tpasses, .inr (6, [.int 5, .ref tpassesA, .int tpassesS])), (tpassesA, .inl (kA 0, 100, .inl tpassesF)), (tway, .inr (6, [.int 1, .ref twayA, .int twayS])), (twayA, .inl (kA 0, 6, .inl twayF))]) hP hD [0, 1, 2, 3, 4] (by decide) rfl
  refine W.widen (k := 0) (n := 0) (Nat.le_of_ble_eq_true rfl) (Nat.le_of_ble_eq_true rfl) ?_
  exact W.iret (v := w39_1_0) hx hb hr (fun t ht hW => ⟨⟨w39_1_0, (w39_1_0), rfl, ⟨rfl, (hG.trans hG0.symm)⟩, by rw [ht]; exact hP9, hD9⟩, hS.F ht⟩) hS.2.2 dX9_wayEnd_40
set_option maxRecDepth 100000 in
def fb_mX9_wayHas_7 (tpassesS : Int32) (tpassesF : Nat → Int32) (twayS : Int32) (twayF : Nat → Int32) (p0 : Int32) (E44 : Int32 → Int32 → Int32) (K : Int32 → Int32 → Int32) (l7_0 : Int32) (l7_1 : Int32) : Int32 := if twayS ≤ l7_0 then (E44 l7_0 l7_1) else (if l7_1 = p0 then (E44 l7_0 l7_1) else (bnd (fX6_get_6 1 twayF l7_0 0) (fun (ry7_5 : Int32) => bnd (fX9_otherEnd tpassesS tpassesF ry7_5 l7_1) (fun (ry7_12 : Int32) => bnd ((l7_0 + 1)) (fun (xy7_17 : Int32) => K xy7_17 ry7_12)))))
def fl_mX9_wayHas_7 (tpassesS : Int32) (tpassesF : Nat → Int32) (twayS : Int32) (twayF : Nat → Int32) (p0 : Int32) (E44 : Int32 → Int32 → Int32) : Nat → Int32 → Int32 → Int32
  | 0, _, _ => 0
  | n + 1, l7_0, l7_1 => fb_mX9_wayHas_7 tpassesS tpassesF twayS twayF p0 E44 (fl_mX9_wayHas_7 tpassesS tpassesF twayS twayF p0 E44 n) l7_0 l7_1
set_option maxHeartbeats 4000000 in
set_option maxRecDepth 100000 in
theorem lp_mX9_wayHas_7 {p : Program} {l : Launch} {e : Env} {R : Room} {s : State} {m : MethodId} {args : Array Value} {below : List Frame} {meth : Method} {c : Code} {Q : State → Prop} {dC : Nat → ClassId} {dI : Nat → Nat → Nat} {kA : Nat → ClassId} {A : Nat → Prop} {H0 : Heap} {cells slots : Nat} (hx : p.tables.exec = Jvm.exec) (hb : c.code = cX9_wayHas) (hml : c.maxLocals = 4) (hts : ∀ w ∈ wsX9_wayHas, w.before args s = true) (hown : s.vm.findClass RX9 = some m.cls) (hK : zK dC dI kA s) (hA : ∀ q, H0.size ≤ q → A q) (hRf : 2 ≤ R.frames) (hRl : 47 ≤ R.locals) (hRc : cells ≤ R.cells) (hRs : slots ≤ R.slots) (w0 : Nat) (tnodes : Nat) (tpasses : Nat) (tpassesA : Nat) (tpassesS : Int32) (tpassesF : Nat → Int32) (tjars : Nat) (torders : Nat) (tfeasts : Nat) (tway : Nat) (twayA : Nat) (twayS : Int32) (twayF : Nat → Int32) (tws : Int32) (tnow : Int32) (tfm : Int32) (tx : Int32) (p0 : Int32) {G : Int32} {E44 : Int32 → Int32 → Int32}  (k44 : ∀ (w44_0 : Int32) (w44_1 : Int32) (H : Heap) (locs : List Loc) (ls : Array Slot), ¬ w44_0 < 0 → E44 w44_0 w44_1 = G → va_P (dC, dI) vwCl [(w0, .inr (9, [.ref tnodes, .ref tpasses, .ref tjars, .ref torders, .ref tfeasts, .ref tway, .int tws, .int tnow, .int tfm, .int tx])), (tpasses, .inr (6, [.int 5, .ref tpassesA, .int tpassesS])), (tpassesA, .inl (kA 0, 100, .inl tpassesF)), (tway, .inr (6, [.int 1, .ref twayA, .int twayS])), (twayA, .inl (kA 0, 6, .inl twayF))] H → va_D A [(w0, .inr (9, [.ref tnodes, .ref tpasses, .ref tjars, .ref torders, .ref tfeasts, .ref tway, .int tws, .int tnow, .int tfm, .int tx])), (tpasses, .inr (6, [.int 5, .ref tpassesA, .int tpassesS])), (tpassesA, .inl (kA 0, 100, .inl tpassesF)), (tway, .inr (6, [.int 1, .ref twayA, .int twayS])), (twayA, .inl (kA 0, 6, .inl twayF))] → va_S A H0 H locs → lv_has ls 4 [(3, .int w44_0), (2, .int w44_1), (0, .ref w0), (1, .int p0)] → W p l e R s m args below meth c H locs cells slots Q (F0 m 44 ls []))  : ∀ (n : Nat) (l7_0 : Int32) (l7_1 : Int32) (H : Heap) (locs : List Loc) (ls : Array Slot), ((twayS : Int32).toInt - l7_0.toInt).toNat < n → fl_mX9_wayHas_7 tpassesS tpassesF twayS twayF p0 E44 n l7_0 l7_1 = G → ¬ l7_0 < 0 → va_P (dC, dI) vwCl [(w0, .inr (9, [.ref tnodes, .ref tpasses, .ref tjars, .ref torders, .ref tfeasts, .ref tway, .int tws, .int tnow, .int tfm, .int tx])), (tpasses, .inr (6, [.int 5, .ref tpassesA, .int tpassesS])), (tpassesA, .inl (kA 0, 100, .inl tpassesF)), (tway, .inr (6, [.int 1, .ref twayA, .int twayS])), (twayA, .inl (kA 0, 6, .inl twayF))] H → va_D A [(w0, .inr (9, [.ref tnodes, .ref tpasses, .ref tjars, .ref torders, .ref tfeasts, .ref tway, .int tws, .int tnow, .int tfm, .int tx])), (tpasses, .inr (6, [.int 5, .ref tpassesA, .int tpassesS])), (tpassesA, .inl (kA 0, 100, .inl tpassesF)), (tway, .inr (6, [.int 1, .ref twayA, .int twayS])), (twayA, .inl (kA 0, 6, .inl twayF))] → va_S A H0 H locs → lv_has ls 4 [(3, .int l7_0), (2, .int l7_1), (0, .ref w0), (1, .int p0)] → W p l e R s m args below meth c H locs cells slots Q (F0 m 7 ls []) := by
  intro n
  induction n with
  | zero =>
    intro l7_0 l7_1 H locs ls hn
    exact absurd hn (Nat.not_lt_zero _)
  | succ n ih =>
    intro l7_0 l7_1 H locs ls hn hG hi7 hP hD hS hl
    have hG : fb_mX9_wayHas_7 tpassesS tpassesF twayS twayF p0 E44 (fl_mX9_wayHas_7 tpassesS tpassesF twayS twayF p0 E44 n) l7_0 l7_1 = G := hG
    unfold fb_mX9_wayHas_7 at hG
    refine lv_iload_n hx hb dX9_wayHas_7 rfl (lv_at hl 0 rfl) ?_
    refine lv_aload_n hx hb dX9_wayHas_8 rfl (lv_at hl 2 rfl) ?_
    refine va_get (D := (dC, dI)) (ci := 9) (v := .ref tway) (C := RX9) (T := TX9) (N := 10) hx hb hts iX9_wayHas_X9 hown hK.1 hP 0 rfl rfl 5 (by decide) (kX9_wayHas_2 hts) (fun _ h9 => h9) rfl dX9_wayHas_9 ?_
    refine va_get (D := (dC, dI)) (ci := 6) (v := .int twayS) (C := RX6) (T := TX6) (N := 3) hx hb hts iX9_wayHas_X6 hown hK.1 hP 3 rfl rfl 2 (by decide) (kX9_wayHas_3 hts) (fun _ h9 => h9) rfl dX9_wayHas_12 ?_
    refine lv_icmp_ge (tgt := 44) hx hb dX9_wayHas_15 (by decide) (fun c_y7_1 => ?_) (fun c_y7_1 => ?_)
    · have hG := zthen hG c_y7_1
      exact k44 l7_0 l7_1 H locs ls hi7 hG (hP.sub [0, 1, 2, 3, 4] rfl) (hD.sub [0, 1, 2, 3, 4] (by decide) rfl) hS (lv_sub hl [0, 1, 2, 3] rfl)
    · have hG := zelse hG c_y7_1
      refine lv_iload_n hx hb dX9_wayHas_18 rfl (lv_at hl 1 rfl) ?_
      refine lv_iload_n hx hb dX9_wayHas_19 rfl (lv_at hl 3 rfl) ?_
      refine lv_icmp_eq (tgt := 44) hx hb dX9_wayHas_20 (by decide) (fun c_y7_2 => ?_) (fun c_y7_2 => ?_)
      · have hG := zthen hG c_y7_2
        exact k44 l7_0 l7_1 H locs ls hi7 hG (hP.sub [0, 1, 2, 3, 4] rfl) (hD.sub [0, 1, 2, 3, 4] (by decide) rfl) hS (lv_sub hl [0, 1, 2, 3] rfl)
      · have hG := zelse hG c_y7_2
        refine lv_aload_n hx hb dX9_wayHas_23 rfl (lv_at hl 2 rfl) ?_
        refine lv_aload_n hx hb dX9_wayHas_24 rfl (lv_at hl 2 rfl) ?_
        refine va_get (D := (dC, dI)) (ci := 9) (v := .ref tway) (C := RX9) (T := TX9) (N := 10) hx hb hts iX9_wayHas_X9 hown hK.1 hP 0 rfl rfl 5 (by decide) (kX9_wayHas_2 hts) (fun _ h9 => h9) rfl dX9_wayHas_25 ?_
        refine lv_iload_n hx hb dX9_wayHas_28 rfl (lv_at hl 0 rfl) ?_
        refine lv_iconst (v := 0) hx hb dX9_wayHas_29 (by decide) ?_
        refine z_i (wr := [(w0, .inr (9, [.ref tnodes, .ref tpasses, .ref tjars, .ref torders, .ref tfeasts, .ref tway, .int tws, .int tnow, .int tfm, .int tx])), (tpasses, .inr (6, [.int 5, .ref tpassesA, .int tpassesS])), (tpassesA, .inl (kA 0, 100, .inl tpassesF))]) (va_runV (As := [.int l7_0, .int 0]) (rest := [.ref w0]) ⟨hx, hb, hml, hown, hts⟩ (mX6_get_6 l dC dI kA _ tway twayA 1 twayS twayF l7_0 0) (cwV 2 hts gX9_wayHas_X6_get rfl rfl rfl ⟨rfl, hdX6_get⟩ ⟨(Nat.le_trans (Nat.le_of_ble_eq_true rfl) hRf), (Nat.le_trans (Nat.le_of_ble_eq_true rfl) hRl)⟩) ⟨zPc.blind, va_recv hK.1 hP (ci := 6) (q0 := 3) rfl rfl, zPre hK (hP.sub [3, 4] rfl) (hD.sub [3, 4] (by decide) rfl)⟩ rfl rfl hl.1 rfl (lv_room (Nat.le_of_ble_eq_true rfl)) dX9_wayHas_30 ⟨hRc, hRs⟩) hP hD hS hA [3, 4] [0, 1, 2] rfl rfl (by decide) (by decide) (fun ry7_5 uy7_3 H locs hwy7_4 hP hD hS => ?_)
        obtain ⟨ery7_8, hpy7_7⟩ := hwy7_4
        have ery7_8 : ry7_5 = uy7_3 := ery7_8
        subst ery7_8
        have ery7_5 : ry7_5 = fX6_get_6 1 twayF l7_0 0 := hpy7_7
        have hG := zbnd hG ery7_5
        obtain ⟨hP, hD⟩ := z_re (L := [(w0, .inr (9, [.ref tnodes, .ref tpasses, .ref tjars, .ref torders, .ref tfeasts, .ref tway, .int tws, .int tnow, .int tfm, .int tx])), (tpasses, .inr (6, [.int 5, .ref tpassesA, .int tpassesS])), (tpassesA, .inl (kA 0, 100, .inl tpassesF)), (tway, .inr (6, [.int 1, .ref twayA, .int twayS])), (twayA, .inl (kA 0, 6, .inl twayF))]) hP hD
        refine lv_iload_n hx hb dX9_wayHas_33 rfl (lv_at hl 1 rfl) ?_
        refine z_i (wr := [(tway, .inr (6, [.int 1, .ref twayA, .int twayS])), (twayA, .inl (kA 0, 6, .inl twayF))]) (va_runV (As := [.int ry7_5, .int l7_1]) (rest := []) ⟨hx, hb, hml, hown, hts⟩ (mX9_otherEnd l dC dI kA _ w0 tnodes tpasses tpassesA tpassesS tpassesF tjars torders tfeasts tway tws tnow tfm tx ry7_5 l7_1) (cwV 2 hts gX9_wayHas_X9_otherEnd rfl rfl rfl ⟨rfl, hdX9_otherEnd⟩ ⟨(Nat.le_trans (Nat.le_of_ble_eq_true rfl) hRf), (Nat.le_trans (Nat.le_of_ble_eq_true rfl) hRl)⟩) ⟨zPc.blind, va_recv hK.1 hP (ci := 9) (q0 := 0) rfl rfl, zPre hK (hP.sub [0, 1, 2] rfl) (hD.sub [0, 1, 2] (by decide) rfl)⟩ rfl rfl hl.1 rfl (lv_room (Nat.le_of_ble_eq_true rfl)) dX9_wayHas_34 ⟨hRc, hRs⟩) hP hD hS hA [0, 1, 2] [3, 4] rfl rfl (by decide) (by decide) (fun ry7_12 uy7_10 H locs hwy7_11 hP hD hS => ?_)
        obtain ⟨ery7_15, hpy7_14⟩ := hwy7_11
        have ery7_15 : ry7_12 = uy7_10 := ery7_15
        subst ery7_15
        have ery7_12 : ry7_12 = fX9_otherEnd tpassesS tpassesF ry7_5 l7_1 := hpy7_14
        have hG := zbnd hG ery7_12
        obtain ⟨hP, hD⟩ := z_re (L := [(tway, .inr (6, [.int 1, .ref twayA, .int twayS])), (twayA, .inl (kA 0, 6, .inl twayF)), (w0, .inr (9, [.ref tnodes, .ref tpasses, .ref tjars, .ref torders, .ref tfeasts, .ref tway, .int tws, .int tnow, .int tfm, .int tx])), (tpasses, .inr (6, [.int 5, .ref tpassesA, .int tpassesS])), (tpassesA, .inl (kA 0, 100, .inl tpassesF))]) hP hD
        refine lv_istore_n (lv' := [(2, .int ry7_12), (3, .int l7_0), (0, .ref w0), (1, .int p0)]) hx hb dX9_wayHas_37 rfl hl (by decide) rfl (fun ls hl => ?_)
        obtain ⟨xy7_17, exy7_17⟩ : ∃ y : Int32, y = l7_0 + 1 := ⟨_, rfl⟩
        have hG := zbnd hG exy7_17
        refine lv_iinc (v := xy7_17) (lv' := [(3, .int xy7_17), (2, .int ry7_12), (0, .ref w0), (1, .int p0)]) hx hb dX9_wayHas_38 hl (k := 1) rfl (by rw [exy7_17]; rfl) (by decide) rfl (fun ls hl => ?_)
        refine lv_goto (tgt := 7) hx hb dX9_wayHas_41 (by decide) ?_
        exact ih xy7_17 ry7_12 H locs ls (z_up hn exy7_17 c_y7_1) hG (z_nn exy7_17 c_y7_1 hi7) (hP.sub [2, 3, 4, 0, 1] rfl) (hD.sub [2, 3, 4, 0, 1] (by decide) rfl) hS (lv_sub hl [0, 1, 2, 3] rfl)
set_option maxRecDepth 100000 in
def fX9_wayHas (tpassesS : Int32) (tpassesF : Nat → Int32) (twayS : Int32) (twayF : Nat → Int32) (tws : Int32) (p0 : Int32) : Int32 := fl_mX9_wayHas_7 tpassesS tpassesF twayS twayF p0 (fun (w44_0_0 : Int32) (w44_1_0 : Int32) => if w44_1_0 = p0 then (1) else (0)) (((twayS : Int32).toInt - (0 : Int32).toInt).toNat + 1) 0 tws
set_option maxHeartbeats 4000000 in
set_option maxRecDepth 100000 in
theorem mX9_wayHas (l : Launch) (dC : Nat → ClassId) (dI : Nat → Nat → Nat) (kA : Nat → ClassId) (sz : Nat) (w0 : Nat) (tnodes : Nat) (tpasses : Nat) (tpassesA : Nat) (tpassesS : Int32) (tpassesF : Nat → Int32) (tjars : Nat) (torders : Nat) (tfeasts : Nat) (tway : Nat) (twayA : Nat) (twayS : Int32) (twayF : Nat → Int32) (tws : Int32) (tnow : Int32) (tfm : Int32) (tx : Int32) (p0 : Int32)  : Met l yX9_wayHas wsX9_wayHas ({ frames := 2, cells := 0, slots := 0, locals := 47 }) (zPc dC dI kA sz [.ref w0, .int p0] [(w0, .inr (9, [.ref tnodes, .ref tpasses, .ref tjars, .ref torders, .ref tfeasts, .ref tway, .int tws, .int tnow, .int tfm, .int tx])), (tpasses, .inr (6, [.int 5, .ref tpassesA, .int tpassesS])), (tpassesA, .inl (kA 0, 100, .inl tpassesF)), (tway, .inr (6, [.int 1, .ref twayA, .int twayS])), (twayA, .inl (kA 0, 6, .inl twayF))]) (va_Qi (fun (r : Int32) (u : Int32) => r = u ∧ u = fX9_wayHas tpassesS tpassesF twayS twayF tws p0 ∧ (u = 0 ∨ u = 1)) (zB dC dI (va_A [(w0, .inr (9, [.ref tnodes, .ref tpasses, .ref tjars, .ref torders, .ref tfeasts, .ref tway, .int tws, .int tnow, .int tfm, .int tx])), (tpasses, .inr (6, [.int 5, .ref tpassesA, .int tpassesS])), (tpassesA, .inl (kA 0, 100, .inl tpassesF)), (tway, .inr (6, [.int 1, .ref twayA, .int twayS])), (twayA, .inl (kA 0, 6, .inl twayF))] sz) (fun (u : Int32) => [(w0, .inr (9, [.ref tnodes, .ref tpasses, .ref tjars, .ref torders, .ref tfeasts, .ref tway, .int tws, .int tnow, .int tfm, .int tx])), (tpasses, .inr (6, [.int 5, .ref tpassesA, .int tpassesS])), (tpassesA, .inl (kA 0, 100, .inl tpassesF)), (tway, .inr (6, [.int 1, .ref twayA, .int twayS])), (twayA, .inl (kA 0, 6, .inl twayF))])) (va_A [(w0, .inr (9, [.ref tnodes, .ref tpasses, .ref tjars, .ref torders, .ref tfeasts, .ref tway, .int tws, .int tnow, .int tfm, .int tx])), (tpasses, .inr (6, [.int 5, .ref tpassesA, .int tpassesS])), (tpassesA, .inl (kA 0, 100, .inl tpassesF)), (tway, .inr (6, [.int 1, .ref twayA, .int twayS])), (twayA, .inl (kA 0, 6, .inl twayF))] sz)) 0 0 (va_A [(w0, .inr (9, [.ref tnodes, .ref tpasses, .ref tjars, .ref torders, .ref tfeasts, .ref tway, .int tws, .int tnow, .int tfm, .int tx])), (tpasses, .inr (6, [.int 5, .ref tpassesA, .int tpassesS])), (tpassesA, .inl (kA 0, 100, .inl tpassesF)), (tway, .inr (6, [.int 1, .ref twayA, .int twayS])), (twayA, .inl (kA 0, 6, .inl twayF))] sz) := by
  refine Met.ofW (cc := cX9_wayHas) (maxL := 4) (ret := (some .boolean)) (by decide) rfl ?_
  intro p e s m args below meth c s₁ B hml hv
  obtain ⟨rfl, hsz, hP, hK, hD0⟩ := hv
  have hx := B.exec
  have hb := B.bytes
  have hr := B.returns
  have hts := atoms_spec (ws := wsX9_wayHas) B.pre
  have hown : s.vm.findClass RX9 = some m.cls := findClass_of_methodNamed B.named
  have hlocks := B.notSynchronized
  subst hsz
  have hD := hD0.self (sz := s.heap.size)
  generalize hAe : va_A [(w0, .inr (9, [.ref tnodes, .ref tpasses, .ref tjars, .ref torders, .ref tfeasts, .ref tway, .int tws, .int tnow, .int tfm, .int tx])), (tpasses, .inr (6, [.int 5, .ref tpassesA, .int tpassesS])), (tpassesA, .inl (kA 0, 100, .inl tpassesF)), (tway, .inr (6, [.int 1, .ref twayA, .int twayS])), (twayA, .inl (kA 0, 6, .inl twayF))] s.heap.size = A at hD ⊢
  have hA : ∀ q : Nat, s.heap.size ≤ q → A q := fun q h => by rw [← hAe]; exact Or.inr h
  have hS : va_S A s.heap s.heap [] := va_S.rf
  have hP : va_P (dC, dI) vwCl [(w0, .inr (9, [.ref tnodes, .ref tpasses, .ref tjars, .ref torders, .ref tfeasts, .ref tway, .int tws, .int tnow, .int tfm, .int tx])), (tpasses, .inr (6, [.int 5, .ref tpassesA, .int tpassesS])), (tpassesA, .inl (kA 0, 100, .inl tpassesF)), (tway, .inr (6, [.int 1, .ref twayA, .int twayS])), (twayA, .inl (kA 0, 6, .inl twayF))] s.heap := hP
  have hl := lv_entry ([.ref w0, .int p0]) (n := 4) (Nat.le_of_ble_eq_true rfl)
  rw [lg_entry_eq]
  generalize (lg_sl ([.ref w0, .int p0]) ++ List.replicate (4 - (lg_sl ([.ref w0, .int p0])).length) Slot.unset).toArray = ls at hl ⊢
  have hl : lv_has ls 4 [(0, .ref w0), (1, .int p0)] := hl
  obtain ⟨H, hHe⟩ : ∃ H : Heap, H = s.heap := ⟨_, rfl⟩
  obtain ⟨G, hG0⟩ : ∃ G : Int32, fX9_wayHas tpassesS tpassesF twayS twayF tws p0 = G := ⟨_, rfl⟩
  have hG := hG0
  unfold fX9_wayHas at hG
  refine lv_aload_n hx hb dX9_wayHas_0 rfl (lv_at hl 0 rfl) ?_
  refine va_get (D := (dC, dI)) (ci := 9) (v := .int tws) (C := RX9) (T := TX9) (N := 10) hx hb hts iX9_wayHas_X9 hown hK.1 hP 0 rfl rfl 6 (by decide) (kX9_wayHas_1 hts) (fun _ h9 => h9) rfl dX9_wayHas_1 ?_
  refine lv_istore_n (lv' := [(2, .int tws), (0, .ref w0), (1, .int p0)]) hx hb dX9_wayHas_4 rfl hl (by decide) rfl (fun ls hl => ?_)
  refine lv_iconst (v := 0) hx hb dX9_wayHas_5 (by decide) ?_
  refine lv_istore_n (lv' := [(3, .int 0), (2, .int tws), (0, .ref w0), (1, .int p0)]) hx hb dX9_wayHas_6 rfl hl (by decide) rfl (fun ls hl => ?_)
  refine lp_mX9_wayHas_7 hx hb hml hts hown hK hA (Nat.le_of_ble_eq_true rfl) (Nat.le_of_ble_eq_true rfl) (Nat.le_of_ble_eq_true rfl) (Nat.le_of_ble_eq_true rfl) w0 tnodes tpasses tpassesA tpassesS tpassesF tjars torders tfeasts tway twayA twayS twayF tws tnow tfm tx p0  (fun w44_0_0 w44_1_0 H locs ls hx44_3_nlt00_0 hG hP hD hS hl => ?_) _ 0 tws _ _ ls (Nat.lt_succ_self _) hG (by decide) hP hD hS (lv_sub hl [0, 1, 2, 3] rfl)
  obtain ⟨hP, hD⟩ := z_re (L := [(w0, .inr (9, [.ref tnodes, .ref tpasses, .ref tjars, .ref torders, .ref tfeasts, .ref tway, .int tws, .int tnow, .int tfm, .int tx])), (tpasses, .inr (6, [.int 5, .ref tpassesA, .int tpassesS])), (tpassesA, .inl (kA 0, 100, .inl tpassesF)), (tway, .inr (6, [.int 1, .ref twayA, .int twayS])), (twayA, .inl (kA 0, 6, .inl twayF))]) hP hD
  refine lv_iload_n hx hb dX9_wayHas_44 rfl (lv_at hl 1 rfl) ?_
  refine lv_iload_n hx hb dX9_wayHas_45 rfl (lv_at hl 3 rfl) ?_
  refine lv_icmp_ne (tgt := 53) hx hb dX9_wayHas_46 (by decide) (fun c_1 => ?_) (fun c_1 => ?_)
  · have hG := zelse hG c_1
    refine lv_iconst (v := 0) hx hb dX9_wayHas_53 (by decide) ?_
    obtain ⟨hP9, hD9⟩ := z_sb (L' := [(w0, .inr (9, [.ref tnodes, .ref tpasses, .ref tjars, .ref torders, .ref tfeasts, .ref tway, .int tws, .int tnow, .int tfm, .int tx])), (tpasses, .inr (6, [.int 5, .ref tpassesA, .int tpassesS])), (tpassesA, .inl (kA 0, 100, .inl tpassesF)), (tway, .inr (6, [.int 1, .ref twayA, .int twayS])), (twayA, .inl (kA 0, 6, .inl twayF))]) hP hD [0, 1, 2, 3, 4] (by decide) rfl
    refine W.widen (k := 0) (n := 0) (Nat.le_of_ble_eq_true rfl) (Nat.le_of_ble_eq_true rfl) ?_
    exact W.zret (v := 0) hx hb hr rfl (fun t ht hW => ⟨⟨0, (0), rfl, ⟨rfl, (hG.trans hG0.symm), (Or.inl rfl)⟩, by rw [ht]; exact hP9, hD9⟩, hS.F ht⟩) hS.2.2 dX9_wayHas_54
  · have hG := zthen hG c_1
    refine lv_iconst (v := 1) hx hb dX9_wayHas_49 (by decide) ?_
    refine lv_goto (tgt := 54) hx hb dX9_wayHas_50 (by decide) ?_
    obtain ⟨hP9, hD9⟩ := z_sb (L' := [(w0, .inr (9, [.ref tnodes, .ref tpasses, .ref tjars, .ref torders, .ref tfeasts, .ref tway, .int tws, .int tnow, .int tfm, .int tx])), (tpasses, .inr (6, [.int 5, .ref tpassesA, .int tpassesS])), (tpassesA, .inl (kA 0, 100, .inl tpassesF)), (tway, .inr (6, [.int 1, .ref twayA, .int twayS])), (twayA, .inl (kA 0, 6, .inl twayF))]) hP hD [0, 1, 2, 3, 4] (by decide) rfl
    refine W.widen (k := 0) (n := 0) (Nat.le_of_ble_eq_true rfl) (Nat.le_of_ble_eq_true rfl) ?_
    exact W.zret (v := 1) hx hb hr rfl (fun t ht hW => ⟨⟨1, (1), rfl, ⟨rfl, (hG.trans hG0.symm), (Or.inr rfl)⟩, by rw [ht]; exact hP9, hD9⟩, hS.F ht⟩) hS.2.2 dX9_wayHas_54
set_option maxRecDepth 100000 in
def fX9_nodeOf (tjarsS : Int32) (tjarsF : Nat → Int32) (p0 : Int32) : Int32 := if (hs p0 tjarsS) = 0 then ((-1)) else (bnd (fX6_get_144 9 tjarsF p0 1) (fun (r8 : Int32) => if 12 ≤ r8 then ((-1)) else (r8)))
set_option maxHeartbeats 4000000 in
set_option maxRecDepth 100000 in
theorem mX9_nodeOf (l : Launch) (dC : Nat → ClassId) (dI : Nat → Nat → Nat) (kA : Nat → ClassId) (sz : Nat) (w0 : Nat) (tnodes : Nat) (tpasses : Nat) (tjars : Nat) (tjarsA : Nat) (tjarsS : Int32) (tjarsF : Nat → Int32) (torders : Nat) (tfeasts : Nat) (tway : Nat) (tws : Int32) (tnow : Int32) (tfm : Int32) (tx : Int32) (p0 : Int32)  : Met l yX9_nodeOf wsX9_nodeOf ({ frames := 1, cells := 0, slots := 0, locals := 23 }) (zPc dC dI kA sz [.ref w0, .int p0] [(w0, .inr (9, [.ref tnodes, .ref tpasses, .ref tjars, .ref torders, .ref tfeasts, .ref tway, .int tws, .int tnow, .int tfm, .int tx])), (tjars, .inr (6, [.int 9, .ref tjarsA, .int tjarsS])), (tjarsA, .inl (kA 0, 144, .inl tjarsF))]) (va_Qi (fun (r : Int32) (u : Int32) => r = u ∧ u = fX9_nodeOf tjarsS tjarsF p0) (zB dC dI (va_A [(w0, .inr (9, [.ref tnodes, .ref tpasses, .ref tjars, .ref torders, .ref tfeasts, .ref tway, .int tws, .int tnow, .int tfm, .int tx])), (tjars, .inr (6, [.int 9, .ref tjarsA, .int tjarsS])), (tjarsA, .inl (kA 0, 144, .inl tjarsF))] sz) (fun (u : Int32) => [(w0, .inr (9, [.ref tnodes, .ref tpasses, .ref tjars, .ref torders, .ref tfeasts, .ref tway, .int tws, .int tnow, .int tfm, .int tx])), (tjars, .inr (6, [.int 9, .ref tjarsA, .int tjarsS])), (tjarsA, .inl (kA 0, 144, .inl tjarsF))])) (va_A [(w0, .inr (9, [.ref tnodes, .ref tpasses, .ref tjars, .ref torders, .ref tfeasts, .ref tway, .int tws, .int tnow, .int tfm, .int tx])), (tjars, .inr (6, [.int 9, .ref tjarsA, .int tjarsS])), (tjarsA, .inl (kA 0, 144, .inl tjarsF))] sz)) 0 0 (va_A [(w0, .inr (9, [.ref tnodes, .ref tpasses, .ref tjars, .ref torders, .ref tfeasts, .ref tway, .int tws, .int tnow, .int tfm, .int tx])), (tjars, .inr (6, [.int 9, .ref tjarsA, .int tjarsS])), (tjarsA, .inl (kA 0, 144, .inl tjarsF))] sz) := by
  refine Met.ofW (cc := cX9_nodeOf) (maxL := 3) (ret := (some .int)) (by decide) rfl ?_
  intro p e s m args below meth c s₁ B hml hv
  obtain ⟨rfl, hsz, hP, hK, hD0⟩ := hv
  have hx := B.exec
  have hb := B.bytes
  have hr := B.returns
  have hts := atoms_spec (ws := wsX9_nodeOf) B.pre
  have hown : s.vm.findClass RX9 = some m.cls := findClass_of_methodNamed B.named
  have hlocks := B.notSynchronized
  subst hsz
  have hD := hD0.self (sz := s.heap.size)
  generalize hAe : va_A [(w0, .inr (9, [.ref tnodes, .ref tpasses, .ref tjars, .ref torders, .ref tfeasts, .ref tway, .int tws, .int tnow, .int tfm, .int tx])), (tjars, .inr (6, [.int 9, .ref tjarsA, .int tjarsS])), (tjarsA, .inl (kA 0, 144, .inl tjarsF))] s.heap.size = A at hD ⊢
  have hA : ∀ q : Nat, s.heap.size ≤ q → A q := fun q h => by rw [← hAe]; exact Or.inr h
  have hS : va_S A s.heap s.heap [] := va_S.rf
  have hP : va_P (dC, dI) vwCl [(w0, .inr (9, [.ref tnodes, .ref tpasses, .ref tjars, .ref torders, .ref tfeasts, .ref tway, .int tws, .int tnow, .int tfm, .int tx])), (tjars, .inr (6, [.int 9, .ref tjarsA, .int tjarsS])), (tjarsA, .inl (kA 0, 144, .inl tjarsF))] s.heap := hP
  have hl := lv_entry ([.ref w0, .int p0]) (n := 3) (Nat.le_of_ble_eq_true rfl)
  rw [lg_entry_eq]
  generalize (lg_sl ([.ref w0, .int p0]) ++ List.replicate (3 - (lg_sl ([.ref w0, .int p0])).length) Slot.unset).toArray = ls at hl ⊢
  have hl : lv_has ls 3 [(0, .ref w0), (1, .int p0)] := hl
  obtain ⟨G, hG0⟩ : ∃ G : Int32, fX9_nodeOf tjarsS tjarsF p0 = G := ⟨_, rfl⟩
  have hG := hG0
  unfold fX9_nodeOf at hG
  refine lv_aload_n hx hb dX9_nodeOf_0 rfl (lv_at hl 0 rfl) ?_
  refine va_get (D := (dC, dI)) (ci := 9) (v := .ref tjars) (C := RX9) (T := TX9) (N := 10) hx hb hts iX9_nodeOf_X9 hown hK.1 hP 0 rfl rfl 2 (by decide) (kX9_nodeOf_1 hts) (fun _ h9 => h9) rfl dX9_nodeOf_1 ?_
  refine lv_iload_n hx hb dX9_nodeOf_4 rfl (lv_at hl 1 rfl) ?_
  refine z_i (wr := [(w0, .inr (9, [.ref tnodes, .ref tpasses, .ref tjars, .ref torders, .ref tfeasts, .ref tway, .int tws, .int tnow, .int tfm, .int tx])), (tjarsA, .inl (kA 0, 144, .inl tjarsF))]) (va_runV (As := [.int p0]) (rest := []) ⟨hx, hb, hml, hown, hts⟩ (mX6_has l dC dI kA _ tjars tjarsA 9 tjarsS p0) (cwV 1 hts gX9_nodeOf_X6_has rfl rfl rfl ⟨rfl, hdX6_has⟩ ⟨(Nat.le_of_ble_eq_true rfl), (Nat.le_of_ble_eq_true rfl)⟩) ⟨zPc.blind, va_recv hK.1 hP (ci := 6) (q0 := 1) rfl rfl, zPre hK (hP.sub [1] rfl) (hD.sub [1] (by decide) rfl)⟩ rfl rfl hl.1 rfl (lv_room (Nat.le_of_ble_eq_true rfl)) dX9_nodeOf_5 ⟨(Nat.le_of_ble_eq_true rfl), (Nat.le_of_ble_eq_true rfl)⟩) hP hD hS hA [1] [0, 2] rfl rfl (by decide) (by decide) (fun r3 u1 H locs hw2 hP hD hS => ?_)
  obtain rfl := hw2
  obtain ⟨hP, hD⟩ := z_re (L := [(w0, .inr (9, [.ref tnodes, .ref tpasses, .ref tjars, .ref torders, .ref tfeasts, .ref tway, .int tws, .int tnow, .int tfm, .int tx])), (tjarsA, .inl (kA 0, 144, .inl tjarsF)), (tjars, .inr (6, [.int 9, .ref tjarsA, .int tjarsS]))]) hP hD
  refine lv_if_eq (tgt := 23) hx hb dX9_nodeOf_8 (by decide) (fun c_4 => ?_) (fun c_4 => ?_)
  · have hG := zthen hG c_4
    refine lv_bipush (v := 13) hx hb dX9_nodeOf_23 (by decide) ?_
    refine lv_istore_n (lv' := [(2, .int 13), (0, .ref w0), (1, .int p0)]) hx hb dX9_nodeOf_25 rfl hl (by decide) rfl (fun ls hl => ?_)
    refine lv_iload_n hx hb dX9_nodeOf_26 rfl (lv_at hl 0 rfl) ?_
    refine lv_bipush (v := 12) hx hb dX9_nodeOf_27 (by decide) ?_
    refine lv_icmp_ge (tgt := 36) hx hb dX9_nodeOf_29 (by decide) (fun _ => ?_) (fun c_5 => absurd (by decide) c_5)
    refine lv_iconst (v := (-1)) hx hb dX9_nodeOf_36 (by decide) ?_
    obtain ⟨hP9, hD9⟩ := z_sb (L' := [(w0, .inr (9, [.ref tnodes, .ref tpasses, .ref tjars, .ref torders, .ref tfeasts, .ref tway, .int tws, .int tnow, .int tfm, .int tx])), (tjars, .inr (6, [.int 9, .ref tjarsA, .int tjarsS])), (tjarsA, .inl (kA 0, 144, .inl tjarsF))]) hP hD [0, 2, 1] (by decide) rfl
    refine W.widen (k := 0) (n := 0) (Nat.le_of_ble_eq_true rfl) (Nat.le_of_ble_eq_true rfl) ?_
    exact W.iret (v := (-1)) hx hb hr (fun t ht hW => ⟨⟨(-1), ((-1)), rfl, ⟨rfl, (hG.trans hG0.symm)⟩, by rw [ht]; exact hP9, hD9⟩, hS.F ht⟩) hS.2.2 dX9_nodeOf_37
  · have hG := zelse hG c_4
    have c_4a := hs_ne c_4
    have c_4b := c_4a.2
    have c_4a := c_4a.1
    refine lv_aload_n hx hb dX9_nodeOf_11 rfl (lv_at hl 0 rfl) ?_
    refine va_get (D := (dC, dI)) (ci := 9) (v := .ref tjars) (C := RX9) (T := TX9) (N := 10) hx hb hts iX9_nodeOf_X9 hown hK.1 hP 0 rfl rfl 2 (by decide) (kX9_nodeOf_1 hts) (fun _ h9 => h9) rfl dX9_nodeOf_12 ?_
    refine lv_iload_n hx hb dX9_nodeOf_15 rfl (lv_at hl 1 rfl) ?_
    refine lv_iconst (v := 1) hx hb dX9_nodeOf_16 (by decide) ?_
    refine z_i (wr := [(w0, .inr (9, [.ref tnodes, .ref tpasses, .ref tjars, .ref torders, .ref tfeasts, .ref tway, .int tws, .int tnow, .int tfm, .int tx]))]) (va_runV (As := [.int p0, .int 1]) (rest := []) ⟨hx, hb, hml, hown, hts⟩ (mX6_get_144 l dC dI kA _ tjars tjarsA 9 tjarsS tjarsF p0 1) (cwV 2 hts gX9_nodeOf_X6_get rfl rfl rfl ⟨rfl, hdX6_get⟩ ⟨(Nat.le_of_ble_eq_true rfl), (Nat.le_of_ble_eq_true rfl)⟩) ⟨zPc.blind, va_recv hK.1 hP (ci := 6) (q0 := 2) rfl rfl, zPre hK (hP.sub [2, 1] rfl) (hD.sub [2, 1] (by decide) rfl)⟩ rfl rfl hl.1 rfl (lv_room (Nat.le_of_ble_eq_true rfl)) dX9_nodeOf_17 ⟨(Nat.le_of_ble_eq_true rfl), (Nat.le_of_ble_eq_true rfl)⟩) hP hD hS hA [2, 1] [0] rfl rfl (by decide) (by decide) (fun r8 u6 H locs hw7 hP hD hS => ?_)
    obtain ⟨er11, hp10⟩ := hw7
    have er11 : r8 = u6 := er11
    subst er11
    have er8 : r8 = fX6_get_144 9 tjarsF p0 1 := hp10
    have hG := zbnd hG er8
    obtain ⟨hP, hD⟩ := z_re (L := [(w0, .inr (9, [.ref tnodes, .ref tpasses, .ref tjars, .ref torders, .ref tfeasts, .ref tway, .int tws, .int tnow, .int tfm, .int tx])), (tjars, .inr (6, [.int 9, .ref tjarsA, .int tjarsS])), (tjarsA, .inl (kA 0, 144, .inl tjarsF))]) hP hD
    refine lv_goto (tgt := 25) hx hb dX9_nodeOf_20 (by decide) ?_
    refine lv_istore_n (lv' := [(2, .int r8), (0, .ref w0), (1, .int p0)]) hx hb dX9_nodeOf_25 rfl hl (by decide) rfl (fun ls hl => ?_)
    refine lv_iload_n hx hb dX9_nodeOf_26 rfl (lv_at hl 0 rfl) ?_
    refine lv_bipush (v := 12) hx hb dX9_nodeOf_27 (by decide) ?_
    refine lv_icmp_ge (tgt := 36) hx hb dX9_nodeOf_29 (by decide) (fun c_13 => ?_) (fun c_13 => ?_)
    · have hG := zthen hG c_13
      refine lv_iconst (v := (-1)) hx hb dX9_nodeOf_36 (by decide) ?_
      obtain ⟨hP9, hD9⟩ := z_sb (L' := [(w0, .inr (9, [.ref tnodes, .ref tpasses, .ref tjars, .ref torders, .ref tfeasts, .ref tway, .int tws, .int tnow, .int tfm, .int tx])), (tjars, .inr (6, [.int 9, .ref tjarsA, .int tjarsS])), (tjarsA, .inl (kA 0, 144, .inl tjarsF))]) hP hD [0, 1, 2] (by decide) rfl
      refine W.widen (k := 0) (n := 0) (Nat.le_of_ble_eq_true rfl) (Nat.le_of_ble_eq_true rfl) ?_
      exact W.iret (v := (-1)) hx hb hr (fun t ht hW => ⟨⟨(-1), ((-1)), rfl, ⟨rfl, (hG.trans hG0.symm)⟩, by rw [ht]; exact hP9, hD9⟩, hS.F ht⟩) hS.2.2 dX9_nodeOf_37
    · have hG := zelse hG c_13
      refine lv_iload_n hx hb dX9_nodeOf_32 rfl (lv_at hl 0 rfl) ?_
      refine lv_goto (tgt := 37) hx hb dX9_nodeOf_33 (by decide) ?_
      obtain ⟨hP9, hD9⟩ := z_sb (L' := [(w0, .inr (9, [.ref tnodes, .ref tpasses, .ref tjars, .ref torders, .ref tfeasts, .ref tway, .int tws, .int tnow, .int tfm, .int tx])), (tjars, .inr (6, [.int 9, .ref tjarsA, .int tjarsS])), (tjarsA, .inl (kA 0, 144, .inl tjarsF))]) hP hD [0, 1, 2] (by decide) rfl
      refine W.widen (k := 0) (n := 0) (Nat.le_of_ble_eq_true rfl) (Nat.le_of_ble_eq_true rfl) ?_
      exact W.iret (v := r8) hx hb hr (fun t ht hW => ⟨⟨r8, (r8), rfl, ⟨rfl, (hG.trans hG0.symm)⟩, by rw [ht]; exact hP9, hD9⟩, hS.F ht⟩) hS.2.2 dX9_nodeOf_37
set_option maxRecDepth 100000 in
def fX9_standAt (tjarsF : Nat → Int32) (p0 : Int32) (p1 : Int32) : (Nat → Int32) := bnd (fX6_put_144 9 tjarsF p0 1 p1) (fun (o4 : Nat → Int32) => bnd (fX6_put_144 9 o4 p0 2 (-1)) (fun (o10 : Nat → Int32) => bnd (fX6_put_144 9 o10 p0 3 0) (fun (o16 : Nat → Int32) => bnd (fX6_put_144 9 o16 p0 4 (-1)) (fun (o22 : Nat → Int32) => o22))))
set_option maxHeartbeats 4000000 in
set_option maxRecDepth 100000 in
theorem mX9_standAt (l : Launch) (dC : Nat → ClassId) (dI : Nat → Nat → Nat) (kA : Nat → ClassId) (sz : Nat) (w0 : Nat) (tnodes : Nat) (tpasses : Nat) (tjars : Nat) (tjarsA : Nat) (tjarsS : Int32) (tjarsF : Nat → Int32) (torders : Nat) (tfeasts : Nat) (tway : Nat) (tws : Int32) (tnow : Int32) (tfm : Int32) (tx : Int32) (p0 : Int32) (p1 : Int32)  : Met l yX9_standAt wsX9_standAt ({ frames := 1, cells := 0, slots := 0, locals := 24 }) (zPc dC dI kA sz [.ref w0, .int p0, .int p1] [(w0, .inr (9, [.ref tnodes, .ref tpasses, .ref tjars, .ref torders, .ref tfeasts, .ref tway, .int tws, .int tnow, .int tfm, .int tx])), (tjars, .inr (6, [.int 9, .ref tjarsA, .int tjarsS])), (tjarsA, .inl (kA 0, 144, .inl tjarsF))]) (va_Qv (fun (u : (Nat → Int32)) => u = fX9_standAt tjarsF p0 p1) (zB dC dI (va_A [(w0, .inr (9, [.ref tnodes, .ref tpasses, .ref tjars, .ref torders, .ref tfeasts, .ref tway, .int tws, .int tnow, .int tfm, .int tx])), (tjars, .inr (6, [.int 9, .ref tjarsA, .int tjarsS])), (tjarsA, .inl (kA 0, 144, .inl tjarsF))] sz) (fun (u : (Nat → Int32)) => [(w0, .inr (9, [.ref tnodes, .ref tpasses, .ref tjars, .ref torders, .ref tfeasts, .ref tway, .int tws, .int tnow, .int tfm, .int tx])), (tjars, .inr (6, [.int 9, .ref tjarsA, .int tjarsS])), (tjarsA, .inl (kA 0, 144, .inl u))])) (va_A [(w0, .inr (9, [.ref tnodes, .ref tpasses, .ref tjars, .ref torders, .ref tfeasts, .ref tway, .int tws, .int tnow, .int tfm, .int tx])), (tjars, .inr (6, [.int 9, .ref tjarsA, .int tjarsS])), (tjarsA, .inl (kA 0, 144, .inl tjarsF))] sz)) 0 0 (va_A [(w0, .inr (9, [.ref tnodes, .ref tpasses, .ref tjars, .ref torders, .ref tfeasts, .ref tway, .int tws, .int tnow, .int tfm, .int tx])), (tjars, .inr (6, [.int 9, .ref tjarsA, .int tjarsS])), (tjarsA, .inl (kA 0, 144, .inl tjarsF))] sz) := by
  refine Met.ofW (cc := cX9_standAt) (maxL := 3) (ret := none) (by decide) rfl ?_
  intro p e s m args below meth c s₁ B hml hv
  obtain ⟨rfl, hsz, hP, hK, hD0⟩ := hv
  have hx := B.exec
  have hb := B.bytes
  have hr := B.returns
  have hts := atoms_spec (ws := wsX9_standAt) B.pre
  have hown : s.vm.findClass RX9 = some m.cls := findClass_of_methodNamed B.named
  have hlocks := B.notSynchronized
  subst hsz
  have hD := hD0.self (sz := s.heap.size)
  generalize hAe : va_A [(w0, .inr (9, [.ref tnodes, .ref tpasses, .ref tjars, .ref torders, .ref tfeasts, .ref tway, .int tws, .int tnow, .int tfm, .int tx])), (tjars, .inr (6, [.int 9, .ref tjarsA, .int tjarsS])), (tjarsA, .inl (kA 0, 144, .inl tjarsF))] s.heap.size = A at hD ⊢
  have hA : ∀ q : Nat, s.heap.size ≤ q → A q := fun q h => by rw [← hAe]; exact Or.inr h
  have hS : va_S A s.heap s.heap [] := va_S.rf
  have hP : va_P (dC, dI) vwCl [(w0, .inr (9, [.ref tnodes, .ref tpasses, .ref tjars, .ref torders, .ref tfeasts, .ref tway, .int tws, .int tnow, .int tfm, .int tx])), (tjars, .inr (6, [.int 9, .ref tjarsA, .int tjarsS])), (tjarsA, .inl (kA 0, 144, .inl tjarsF))] s.heap := hP
  have hl := lv_entry ([.ref w0, .int p0, .int p1]) (n := 3) (Nat.le_of_ble_eq_true rfl)
  rw [lg_entry_eq]
  generalize (lg_sl ([.ref w0, .int p0, .int p1]) ++ List.replicate (3 - (lg_sl ([.ref w0, .int p0, .int p1])).length) Slot.unset).toArray = ls at hl ⊢
  have hl : lv_has ls 3 [(0, .ref w0), (1, .int p0), (2, .int p1)] := hl
  obtain ⟨G, hG0⟩ : ∃ G : (Nat → Int32), fX9_standAt tjarsF p0 p1 = G := ⟨_, rfl⟩
  have hG := hG0
  unfold fX9_standAt at hG
  refine lv_aload_n hx hb dX9_standAt_0 rfl (lv_at hl 0 rfl) ?_
  refine va_get (D := (dC, dI)) (ci := 9) (v := .ref tjars) (C := RX9) (T := TX9) (N := 10) hx hb hts iX9_standAt_X9 hown hK.1 hP 0 rfl rfl 2 (by decide) (kX9_standAt_1 hts) (fun _ h9 => h9) rfl dX9_standAt_1 ?_
  refine lv_iload_n hx hb dX9_standAt_4 rfl (lv_at hl 1 rfl) ?_
  refine lv_iconst (v := 1) hx hb dX9_standAt_5 (by decide) ?_
  refine lv_iload_n hx hb dX9_standAt_6 rfl (lv_at hl 2 rfl) ?_
  refine z_v (wr := [(w0, .inr (9, [.ref tnodes, .ref tpasses, .ref tjars, .ref torders, .ref tfeasts, .ref tway, .int tws, .int tnow, .int tfm, .int tx]))]) (va_runV (As := [.int p0, .int 1, .int p1]) (rest := []) ⟨hx, hb, hml, hown, hts⟩ (mX6_put_144 l dC dI kA _ tjars tjarsA 9 tjarsS tjarsF p0 1 p1) (cwV 3 hts gX9_standAt_X6_put rfl rfl rfl ⟨rfl, hdX6_put⟩ ⟨(Nat.le_of_ble_eq_true rfl), (Nat.le_of_ble_eq_true rfl)⟩) ⟨zPc.blind, va_recv hK.1 hP (ci := 6) (q0 := 1) rfl rfl, zPre hK (hP.sub [1, 2] rfl) (hD.sub [1, 2] (by decide) rfl)⟩ rfl rfl hl.1 rfl (lv_room (Nat.le_of_ble_eq_true rfl)) dX9_standAt_7 ⟨(Nat.le_of_ble_eq_true rfl), (Nat.le_of_ble_eq_true rfl)⟩) hP hD hS hA [1, 2] [0] rfl rfl (by decide) (by decide) (fun u1 H locs hw2 hP hD hS => ?_)
  obtain ⟨o4, rfl⟩ : ∃ z, z = u1 := ⟨_, rfl⟩
  have hp5 := hw2
  have eo4 : o4 = fX6_put_144 9 tjarsF p0 1 p1 := hp5
  have hG := zbnd hG eo4
  obtain ⟨hP, hD⟩ := z_re (L := [(w0, .inr (9, [.ref tnodes, .ref tpasses, .ref tjars, .ref torders, .ref tfeasts, .ref tway, .int tws, .int tnow, .int tfm, .int tx])), (tjars, .inr (6, [.int 9, .ref tjarsA, .int tjarsS])), (tjarsA, .inl (kA 0, 144, .inl o4))]) hP hD
  refine lv_aload_n hx hb dX9_standAt_10 rfl (lv_at hl 0 rfl) ?_
  refine va_get (D := (dC, dI)) (ci := 9) (v := .ref tjars) (C := RX9) (T := TX9) (N := 10) hx hb hts iX9_standAt_X9 hown hK.1 hP 0 rfl rfl 2 (by decide) (kX9_standAt_1 hts) (fun _ h9 => h9) rfl dX9_standAt_11 ?_
  refine lv_iload_n hx hb dX9_standAt_14 rfl (lv_at hl 1 rfl) ?_
  refine lv_iconst (v := 2) hx hb dX9_standAt_15 (by decide) ?_
  refine lv_iconst (v := (-1)) hx hb dX9_standAt_16 (by decide) ?_
  refine z_v (wr := [(w0, .inr (9, [.ref tnodes, .ref tpasses, .ref tjars, .ref torders, .ref tfeasts, .ref tway, .int tws, .int tnow, .int tfm, .int tx]))]) (va_runV (As := [.int p0, .int 2, .int (-1)]) (rest := []) ⟨hx, hb, hml, hown, hts⟩ (mX6_put_144 l dC dI kA _ tjars tjarsA 9 tjarsS o4 p0 2 (-1)) (cwV 3 hts gX9_standAt_X6_put rfl rfl rfl ⟨rfl, hdX6_put⟩ ⟨(Nat.le_of_ble_eq_true rfl), (Nat.le_of_ble_eq_true rfl)⟩) ⟨zPc.blind, va_recv hK.1 hP (ci := 6) (q0 := 1) rfl rfl, zPre hK (hP.sub [1, 2] rfl) (hD.sub [1, 2] (by decide) rfl)⟩ rfl rfl hl.1 rfl (lv_room (Nat.le_of_ble_eq_true rfl)) dX9_standAt_17 ⟨(Nat.le_of_ble_eq_true rfl), (Nat.le_of_ble_eq_true rfl)⟩) hP hD hS hA [1, 2] [0] rfl rfl (by decide) (by decide) (fun u7 H locs hw8 hP hD hS => ?_)
  obtain ⟨o10, rfl⟩ : ∃ z, z = u7 := ⟨_, rfl⟩
  have hp11 := hw8
  have eo10 : o10 = fX6_put_144 9 o4 p0 2 (-1) := hp11
  have hG := zbnd hG eo10
  obtain ⟨hP, hD⟩ := z_re (L := [(w0, .inr (9, [.ref tnodes, .ref tpasses, .ref tjars, .ref torders, .ref tfeasts, .ref tway, .int tws, .int tnow, .int tfm, .int tx])), (tjars, .inr (6, [.int 9, .ref tjarsA, .int tjarsS])), (tjarsA, .inl (kA 0, 144, .inl o10))]) hP hD
  refine lv_aload_n hx hb dX9_standAt_20 rfl (lv_at hl 0 rfl) ?_
  refine va_get (D := (dC, dI)) (ci := 9) (v := .ref tjars) (C := RX9) (T := TX9) (N := 10) hx hb hts iX9_standAt_X9 hown hK.1 hP 0 rfl rfl 2 (by decide) (kX9_standAt_1 hts) (fun _ h9 => h9) rfl dX9_standAt_21 ?_
  refine lv_iload_n hx hb dX9_standAt_24 rfl (lv_at hl 1 rfl) ?_
  refine lv_iconst (v := 3) hx hb dX9_standAt_25 (by decide) ?_
  refine lv_iconst (v := 0) hx hb dX9_standAt_26 (by decide) ?_
  refine z_v (wr := [(w0, .inr (9, [.ref tnodes, .ref tpasses, .ref tjars, .ref torders, .ref tfeasts, .ref tway, .int tws, .int tnow, .int tfm, .int tx]))]) (va_runV (As := [.int p0, .int 3, .int 0]) (rest := []) ⟨hx, hb, hml, hown, hts⟩ (mX6_put_144 l dC dI kA _ tjars tjarsA 9 tjarsS o10 p0 3 0) (cwV 3 hts gX9_standAt_X6_put rfl rfl rfl ⟨rfl, hdX6_put⟩ ⟨(Nat.le_of_ble_eq_true rfl), (Nat.le_of_ble_eq_true rfl)⟩) ⟨zPc.blind, va_recv hK.1 hP (ci := 6) (q0 := 1) rfl rfl, zPre hK (hP.sub [1, 2] rfl) (hD.sub [1, 2] (by decide) rfl)⟩ rfl rfl hl.1 rfl (lv_room (Nat.le_of_ble_eq_true rfl)) dX9_standAt_27 ⟨(Nat.le_of_ble_eq_true rfl), (Nat.le_of_ble_eq_true rfl)⟩) hP hD hS hA [1, 2] [0] rfl rfl (by decide) (by decide) (fun u13 H locs hw14 hP hD hS => ?_)
  obtain ⟨o16, rfl⟩ : ∃ z, z = u13 := ⟨_, rfl⟩
  have hp17 := hw14
  have eo16 : o16 = fX6_put_144 9 o10 p0 3 0 := hp17
  have hG := zbnd hG eo16
  obtain ⟨hP, hD⟩ := z_re (L := [(w0, .inr (9, [.ref tnodes, .ref tpasses, .ref tjars, .ref torders, .ref tfeasts, .ref tway, .int tws, .int tnow, .int tfm, .int tx])), (tjars, .inr (6, [.int 9, .ref tjarsA, .int tjarsS])), (tjarsA, .inl (kA 0, 144, .inl o16))]) hP hD
  refine lv_aload_n hx hb dX9_standAt_30 rfl (lv_at hl 0 rfl) ?_
  refine va_get (D := (dC, dI)) (ci := 9) (v := .ref tjars) (C := RX9) (T := TX9) (N := 10) hx hb hts iX9_standAt_X9 hown hK.1 hP 0 rfl rfl 2 (by decide) (kX9_standAt_1 hts) (fun _ h9 => h9) rfl dX9_standAt_31 ?_
  refine lv_iload_n hx hb dX9_standAt_34 rfl (lv_at hl 1 rfl) ?_
  refine lv_iconst (v := 4) hx hb dX9_standAt_35 (by decide) ?_
  refine lv_iconst (v := (-1)) hx hb dX9_standAt_36 (by decide) ?_
  refine z_v (wr := [(w0, .inr (9, [.ref tnodes, .ref tpasses, .ref tjars, .ref torders, .ref tfeasts, .ref tway, .int tws, .int tnow, .int tfm, .int tx]))]) (va_runV (As := [.int p0, .int 4, .int (-1)]) (rest := []) ⟨hx, hb, hml, hown, hts⟩ (mX6_put_144 l dC dI kA _ tjars tjarsA 9 tjarsS o16 p0 4 (-1)) (cwV 3 hts gX9_standAt_X6_put rfl rfl rfl ⟨rfl, hdX6_put⟩ ⟨(Nat.le_of_ble_eq_true rfl), (Nat.le_of_ble_eq_true rfl)⟩) ⟨zPc.blind, va_recv hK.1 hP (ci := 6) (q0 := 1) rfl rfl, zPre hK (hP.sub [1, 2] rfl) (hD.sub [1, 2] (by decide) rfl)⟩ rfl rfl hl.1 rfl (lv_room (Nat.le_of_ble_eq_true rfl)) dX9_standAt_37 ⟨(Nat.le_of_ble_eq_true rfl), (Nat.le_of_ble_eq_true rfl)⟩) hP hD hS hA [1, 2] [0] rfl rfl (by decide) (by decide) (fun u19 H locs hw20 hP hD hS => ?_)
  obtain ⟨o22, rfl⟩ : ∃ z, z = u19 := ⟨_, rfl⟩
  have hp23 := hw20
  have eo22 : o22 = fX6_put_144 9 o16 p0 4 (-1) := hp23
  have hG := zbnd hG eo22
  obtain ⟨hP, hD⟩ := z_re (L := [(w0, .inr (9, [.ref tnodes, .ref tpasses, .ref tjars, .ref torders, .ref tfeasts, .ref tway, .int tws, .int tnow, .int tfm, .int tx])), (tjars, .inr (6, [.int 9, .ref tjarsA, .int tjarsS])), (tjarsA, .inl (kA 0, 144, .inl o22))]) hP hD
  obtain ⟨hP9, hD9⟩ := z_sb (L' := [(w0, .inr (9, [.ref tnodes, .ref tpasses, .ref tjars, .ref torders, .ref tfeasts, .ref tway, .int tws, .int tnow, .int tfm, .int tx])), (tjars, .inr (6, [.int 9, .ref tjarsA, .int tjarsS])), (tjarsA, .inl (kA 0, 144, .inl o22))]) hP hD [0, 1, 2] (by decide) rfl
  refine W.widen (k := 0) (n := 0) (Nat.le_of_ble_eq_true rfl) (Nat.le_of_ble_eq_true rfl) ?_
  exact W.vret hx hb hr (fun t ht hW => ⟨⟨(o22), rfl, (hG.trans hG0.symm), by rw [ht]; exact hP9, hD9⟩, hS.F ht⟩) hS.2.2 dX9_standAt_40
set_option maxRecDepth 100000 in
def fX9_lose (tjarsF : Nat → Int32) (p0 : Int32) : (Nat → Int32) := bnd (fX9_standAt tjarsF p0 13) (fun (o4 : Nat → Int32) => bnd (fX6_put_144 9 o4 p0 0 0) (fun (o10 : Nat → Int32) => o10))
set_option maxHeartbeats 4000000 in
set_option maxRecDepth 100000 in
theorem mX9_lose (l : Launch) (dC : Nat → ClassId) (dI : Nat → Nat → Nat) (kA : Nat → ClassId) (sz : Nat) (w0 : Nat) (tnodes : Nat) (tpasses : Nat) (tjars : Nat) (tjarsA : Nat) (tjarsS : Int32) (tjarsF : Nat → Int32) (torders : Nat) (tfeasts : Nat) (tway : Nat) (tws : Int32) (tnow : Int32) (tfm : Int32) (tx : Int32) (p0 : Int32)  : Met l yX9_lose wsX9_lose ({ frames := 2, cells := 0, slots := 0, locals := 46 }) (zPc dC dI kA sz [.ref w0, .int p0] [(w0, .inr (9, [.ref tnodes, .ref tpasses, .ref tjars, .ref torders, .ref tfeasts, .ref tway, .int tws, .int tnow, .int tfm, .int tx])), (tjars, .inr (6, [.int 9, .ref tjarsA, .int tjarsS])), (tjarsA, .inl (kA 0, 144, .inl tjarsF))]) (va_Qv (fun (u : (Nat → Int32)) => u = fX9_lose tjarsF p0) (zB dC dI (va_A [(w0, .inr (9, [.ref tnodes, .ref tpasses, .ref tjars, .ref torders, .ref tfeasts, .ref tway, .int tws, .int tnow, .int tfm, .int tx])), (tjars, .inr (6, [.int 9, .ref tjarsA, .int tjarsS])), (tjarsA, .inl (kA 0, 144, .inl tjarsF))] sz) (fun (u : (Nat → Int32)) => [(w0, .inr (9, [.ref tnodes, .ref tpasses, .ref tjars, .ref torders, .ref tfeasts, .ref tway, .int tws, .int tnow, .int tfm, .int tx])), (tjars, .inr (6, [.int 9, .ref tjarsA, .int tjarsS])), (tjarsA, .inl (kA 0, 144, .inl u))])) (va_A [(w0, .inr (9, [.ref tnodes, .ref tpasses, .ref tjars, .ref torders, .ref tfeasts, .ref tway, .int tws, .int tnow, .int tfm, .int tx])), (tjars, .inr (6, [.int 9, .ref tjarsA, .int tjarsS])), (tjarsA, .inl (kA 0, 144, .inl tjarsF))] sz)) 0 0 (va_A [(w0, .inr (9, [.ref tnodes, .ref tpasses, .ref tjars, .ref torders, .ref tfeasts, .ref tway, .int tws, .int tnow, .int tfm, .int tx])), (tjars, .inr (6, [.int 9, .ref tjarsA, .int tjarsS])), (tjarsA, .inl (kA 0, 144, .inl tjarsF))] sz) := by
  refine Met.ofW (cc := cX9_lose) (maxL := 2) (ret := none) (by decide) rfl ?_
  intro p e s m args below meth c s₁ B hml hv
  obtain ⟨rfl, hsz, hP, hK, hD0⟩ := hv
  have hx := B.exec
  have hb := B.bytes
  have hr := B.returns
  have hts := atoms_spec (ws := wsX9_lose) B.pre
  have hown : s.vm.findClass RX9 = some m.cls := findClass_of_methodNamed B.named
  have hlocks := B.notSynchronized
  subst hsz
  have hD := hD0.self (sz := s.heap.size)
  generalize hAe : va_A [(w0, .inr (9, [.ref tnodes, .ref tpasses, .ref tjars, .ref torders, .ref tfeasts, .ref tway, .int tws, .int tnow, .int tfm, .int tx])), (tjars, .inr (6, [.int 9, .ref tjarsA, .int tjarsS])), (tjarsA, .inl (kA 0, 144, .inl tjarsF))] s.heap.size = A at hD ⊢
  have hA : ∀ q : Nat, s.heap.size ≤ q → A q := fun q h => by rw [← hAe]; exact Or.inr h
  have hS : va_S A s.heap s.heap [] := va_S.rf
  have hP : va_P (dC, dI) vwCl [(w0, .inr (9, [.ref tnodes, .ref tpasses, .ref tjars, .ref torders, .ref tfeasts, .ref tway, .int tws, .int tnow, .int tfm, .int tx])), (tjars, .inr (6, [.int 9, .ref tjarsA, .int tjarsS])), (tjarsA, .inl (kA 0, 144, .inl tjarsF))] s.heap := hP
  have hl := lv_entry ([.ref w0, .int p0]) (n := 2) (Nat.le_of_ble_eq_true rfl)
  rw [lg_entry_eq]
  generalize (lg_sl ([.ref w0, .int p0]) ++ List.replicate (2 - (lg_sl ([.ref w0, .int p0])).length) Slot.unset).toArray = ls at hl ⊢
  have hl : lv_has ls 2 [(0, .ref w0), (1, .int p0)] := hl
  obtain ⟨G, hG0⟩ : ∃ G : (Nat → Int32), fX9_lose tjarsF p0 = G := ⟨_, rfl⟩
  have hG := hG0
  unfold fX9_lose at hG
  refine lv_aload_n hx hb dX9_lose_0 rfl (lv_at hl 0 rfl) ?_
  refine lv_iload_n hx hb dX9_lose_1 rfl (lv_at hl 1 rfl) ?_
  refine lv_bipush (v := 13) hx hb dX9_lose_2 (by decide) ?_
  refine z_v (wr := []) (va_runV (As := [.int p0, .int 13]) (rest := []) ⟨hx, hb, hml, hown, hts⟩ (mX9_standAt l dC dI kA _ w0 tnodes tpasses tjars tjarsA tjarsS tjarsF torders tfeasts tway tws tnow tfm tx p0 13) (cwV 2 hts gX9_lose_X9_standAt rfl rfl rfl ⟨rfl, hdX9_standAt⟩ ⟨(Nat.le_of_ble_eq_true rfl), (Nat.le_of_ble_eq_true rfl)⟩) ⟨zPc.blind, va_recv hK.1 hP (ci := 9) (q0 := 0) rfl rfl, zPre hK (hP.sub [0, 1, 2] rfl) (hD.sub [0, 1, 2] (by decide) rfl)⟩ rfl rfl hl.1 rfl (lv_room (Nat.le_of_ble_eq_true rfl)) dX9_lose_4 ⟨(Nat.le_of_ble_eq_true rfl), (Nat.le_of_ble_eq_true rfl)⟩) hP hD hS hA [0, 1, 2] [] rfl rfl (by decide) (by decide) (fun u1 H locs hw2 hP hD hS => ?_)
  obtain ⟨o4, rfl⟩ : ∃ z, z = u1 := ⟨_, rfl⟩
  have hp5 := hw2
  have eo4 : o4 = fX9_standAt tjarsF p0 13 := hp5
  have hG := zbnd hG eo4
  obtain ⟨hP, hD⟩ := z_re (L := [(w0, .inr (9, [.ref tnodes, .ref tpasses, .ref tjars, .ref torders, .ref tfeasts, .ref tway, .int tws, .int tnow, .int tfm, .int tx])), (tjars, .inr (6, [.int 9, .ref tjarsA, .int tjarsS])), (tjarsA, .inl (kA 0, 144, .inl o4))]) hP hD
  refine lv_aload_n hx hb dX9_lose_7 rfl (lv_at hl 0 rfl) ?_
  refine va_get (D := (dC, dI)) (ci := 9) (v := .ref tjars) (C := RX9) (T := TX9) (N := 10) hx hb hts iX9_lose_X9 hown hK.1 hP 0 rfl rfl 2 (by decide) (kX9_lose_1 hts) (fun _ h9 => h9) rfl dX9_lose_8 ?_
  refine lv_iload_n hx hb dX9_lose_11 rfl (lv_at hl 1 rfl) ?_
  refine lv_iconst (v := 0) hx hb dX9_lose_12 (by decide) ?_
  refine lv_iconst (v := 0) hx hb dX9_lose_13 (by decide) ?_
  refine z_v (wr := [(w0, .inr (9, [.ref tnodes, .ref tpasses, .ref tjars, .ref torders, .ref tfeasts, .ref tway, .int tws, .int tnow, .int tfm, .int tx]))]) (va_runV (As := [.int p0, .int 0, .int 0]) (rest := []) ⟨hx, hb, hml, hown, hts⟩ (mX6_put_144 l dC dI kA _ tjars tjarsA 9 tjarsS o4 p0 0 0) (cwV 3 hts gX9_lose_X6_put rfl rfl rfl ⟨rfl, hdX6_put⟩ ⟨(Nat.le_of_ble_eq_true rfl), (Nat.le_of_ble_eq_true rfl)⟩) ⟨zPc.blind, va_recv hK.1 hP (ci := 6) (q0 := 1) rfl rfl, zPre hK (hP.sub [1, 2] rfl) (hD.sub [1, 2] (by decide) rfl)⟩ rfl rfl hl.1 rfl (lv_room (Nat.le_of_ble_eq_true rfl)) dX9_lose_14 ⟨(Nat.le_of_ble_eq_true rfl), (Nat.le_of_ble_eq_true rfl)⟩) hP hD hS hA [1, 2] [0] rfl rfl (by decide) (by decide) (fun u7 H locs hw8 hP hD hS => ?_)
  obtain ⟨o10, rfl⟩ : ∃ z, z = u7 := ⟨_, rfl⟩
  have hp11 := hw8
  have eo10 : o10 = fX6_put_144 9 o4 p0 0 0 := hp11
  have hG := zbnd hG eo10
  obtain ⟨hP, hD⟩ := z_re (L := [(w0, .inr (9, [.ref tnodes, .ref tpasses, .ref tjars, .ref torders, .ref tfeasts, .ref tway, .int tws, .int tnow, .int tfm, .int tx])), (tjars, .inr (6, [.int 9, .ref tjarsA, .int tjarsS])), (tjarsA, .inl (kA 0, 144, .inl o10))]) hP hD
  obtain ⟨hP9, hD9⟩ := z_sb (L' := [(w0, .inr (9, [.ref tnodes, .ref tpasses, .ref tjars, .ref torders, .ref tfeasts, .ref tway, .int tws, .int tnow, .int tfm, .int tx])), (tjars, .inr (6, [.int 9, .ref tjarsA, .int tjarsS])), (tjarsA, .inl (kA 0, 144, .inl o10))]) hP hD [0, 1, 2] (by decide) rfl
  refine W.widen (k := 0) (n := 0) (Nat.le_of_ble_eq_true rfl) (Nat.le_of_ble_eq_true rfl) ?_
  exact W.vret hx hb hr (fun t ht hW => ⟨⟨(o10), rfl, (hG.trans hG0.symm), by rw [ht]; exact hP9, hD9⟩, hS.F ht⟩) hS.2.2 dX9_lose_17
set_option maxRecDepth 100000 in
def fX9_bring (tnodesF : Nat → Int32) (p0 : Int32) (p1 : Int32) : (Nat → Int32) × Int32 := bnd (fX6_get_48 4 tnodesF p0 3) (fun (r3 : Int32) => bnd ((if (999999 - r3) < p1 then (999999 - r3) else p1)) (fun (x8 : Int32) => bnd (fX6_put_48 4 tnodesF p0 3 (r3 + x8)) (fun (o14 : Nat → Int32) => (o14, x8))))
set_option maxHeartbeats 4000000 in
set_option maxRecDepth 100000 in
theorem mX9_bring (l : Launch) (dC : Nat → ClassId) (dI : Nat → Nat → Nat) (kA : Nat → ClassId) (sz : Nat) (w0 : Nat) (tnodes : Nat) (tnodesA : Nat) (tnodesS : Int32) (tnodesF : Nat → Int32) (tpasses : Nat) (tjars : Nat) (torders : Nat) (tfeasts : Nat) (tway : Nat) (tws : Int32) (tnow : Int32) (tfm : Int32) (tx : Int32) (p0 : Int32) (p1 : Int32)  : Met l yX9_bring wsX9_bring ({ frames := 1, cells := 0, slots := 0, locals := 24 }) (zPc dC dI kA sz [.ref w0, .int p0, .int p1] [(w0, .inr (9, [.ref tnodes, .ref tpasses, .ref tjars, .ref torders, .ref tfeasts, .ref tway, .int tws, .int tnow, .int tfm, .int tx])), (tnodes, .inr (6, [.int 4, .ref tnodesA, .int tnodesS])), (tnodesA, .inl (kA 0, 48, .inl tnodesF))]) (va_Qi (fun (r : Int32) (u : (Nat → Int32) × Int32) => r = u.2 ∧ (u.1, u.2) = fX9_bring tnodesF p0 p1) (zB dC dI (va_A [(w0, .inr (9, [.ref tnodes, .ref tpasses, .ref tjars, .ref torders, .ref tfeasts, .ref tway, .int tws, .int tnow, .int tfm, .int tx])), (tnodes, .inr (6, [.int 4, .ref tnodesA, .int tnodesS])), (tnodesA, .inl (kA 0, 48, .inl tnodesF))] sz) (fun (u : (Nat → Int32) × Int32) => [(w0, .inr (9, [.ref tnodes, .ref tpasses, .ref tjars, .ref torders, .ref tfeasts, .ref tway, .int tws, .int tnow, .int tfm, .int tx])), (tnodes, .inr (6, [.int 4, .ref tnodesA, .int tnodesS])), (tnodesA, .inl (kA 0, 48, .inl u.1))])) (va_A [(w0, .inr (9, [.ref tnodes, .ref tpasses, .ref tjars, .ref torders, .ref tfeasts, .ref tway, .int tws, .int tnow, .int tfm, .int tx])), (tnodes, .inr (6, [.int 4, .ref tnodesA, .int tnodesS])), (tnodesA, .inl (kA 0, 48, .inl tnodesF))] sz)) 0 0 (va_A [(w0, .inr (9, [.ref tnodes, .ref tpasses, .ref tjars, .ref torders, .ref tfeasts, .ref tway, .int tws, .int tnow, .int tfm, .int tx])), (tnodes, .inr (6, [.int 4, .ref tnodesA, .int tnodesS])), (tnodesA, .inl (kA 0, 48, .inl tnodesF))] sz) := by
  refine Met.ofW (cc := cX9_bring) (maxL := 5) (ret := (some .int)) (by decide) rfl ?_
  intro p e s m args below meth c s₁ B hml hv
  obtain ⟨rfl, hsz, hP, hK, hD0⟩ := hv
  have hx := B.exec
  have hb := B.bytes
  have hr := B.returns
  have hts := atoms_spec (ws := wsX9_bring) B.pre
  have hown : s.vm.findClass RX9 = some m.cls := findClass_of_methodNamed B.named
  have hlocks := B.notSynchronized
  subst hsz
  have hD := hD0.self (sz := s.heap.size)
  generalize hAe : va_A [(w0, .inr (9, [.ref tnodes, .ref tpasses, .ref tjars, .ref torders, .ref tfeasts, .ref tway, .int tws, .int tnow, .int tfm, .int tx])), (tnodes, .inr (6, [.int 4, .ref tnodesA, .int tnodesS])), (tnodesA, .inl (kA 0, 48, .inl tnodesF))] s.heap.size = A at hD ⊢
  have hA : ∀ q : Nat, s.heap.size ≤ q → A q := fun q h => by rw [← hAe]; exact Or.inr h
  have hS : va_S A s.heap s.heap [] := va_S.rf
  have hP : va_P (dC, dI) vwCl [(w0, .inr (9, [.ref tnodes, .ref tpasses, .ref tjars, .ref torders, .ref tfeasts, .ref tway, .int tws, .int tnow, .int tfm, .int tx])), (tnodes, .inr (6, [.int 4, .ref tnodesA, .int tnodesS])), (tnodesA, .inl (kA 0, 48, .inl tnodesF))] s.heap := hP
  have hl := lv_entry ([.ref w0, .int p0, .int p1]) (n := 5) (Nat.le_of_ble_eq_true rfl)
  rw [lg_entry_eq]
  generalize (lg_sl ([.ref w0, .int p0, .int p1]) ++ List.replicate (5 - (lg_sl ([.ref w0, .int p0, .int p1])).length) Slot.unset).toArray = ls at hl ⊢
  have hl : lv_has ls 5 [(0, .ref w0), (1, .int p0), (2, .int p1)] := hl
  obtain ⟨G, hG0⟩ : ∃ G : (Nat → Int32) × Int32, fX9_bring tnodesF p0 p1 = G := ⟨_, rfl⟩
  have hG := hG0
  unfold fX9_bring at hG
  refine lv_aload_n hx hb dX9_bring_0 rfl (lv_at hl 0 rfl) ?_
  refine va_get (D := (dC, dI)) (ci := 9) (v := .ref tnodes) (C := RX9) (T := TX9) (N := 10) hx hb hts iX9_bring_X9 hown hK.1 hP 0 rfl rfl 0 (by decide) (kX9_bring_1 hts) (fun _ h9 => h9) rfl dX9_bring_1 ?_
  refine lv_iload_n hx hb dX9_bring_4 rfl (lv_at hl 1 rfl) ?_
  refine lv_iconst (v := 3) hx hb dX9_bring_5 (by decide) ?_
  refine z_i (wr := [(w0, .inr (9, [.ref tnodes, .ref tpasses, .ref tjars, .ref torders, .ref tfeasts, .ref tway, .int tws, .int tnow, .int tfm, .int tx]))]) (va_runV (As := [.int p0, .int 3]) (rest := []) ⟨hx, hb, hml, hown, hts⟩ (mX6_get_48 l dC dI kA _ tnodes tnodesA 4 tnodesS tnodesF p0 3) (cwV 2 hts gX9_bring_X6_get rfl rfl rfl ⟨rfl, hdX6_get⟩ ⟨(Nat.le_of_ble_eq_true rfl), (Nat.le_of_ble_eq_true rfl)⟩) ⟨zPc.blind, va_recv hK.1 hP (ci := 6) (q0 := 1) rfl rfl, zPre hK (hP.sub [1, 2] rfl) (hD.sub [1, 2] (by decide) rfl)⟩ rfl rfl hl.1 rfl (lv_room (Nat.le_of_ble_eq_true rfl)) dX9_bring_6 ⟨(Nat.le_of_ble_eq_true rfl), (Nat.le_of_ble_eq_true rfl)⟩) hP hD hS hA [1, 2] [0] rfl rfl (by decide) (by decide) (fun r3 u1 H locs hw2 hP hD hS => ?_)
  obtain ⟨er6, hp5⟩ := hw2
  have er6 : r3 = u1 := er6
  subst er6
  have er3 : r3 = fX6_get_48 4 tnodesF p0 3 := hp5
  have hG := zbnd hG er3
  obtain ⟨hP, hD⟩ := z_re (L := [(w0, .inr (9, [.ref tnodes, .ref tpasses, .ref tjars, .ref torders, .ref tfeasts, .ref tway, .int tws, .int tnow, .int tfm, .int tx])), (tnodes, .inr (6, [.int 4, .ref tnodesA, .int tnodesS])), (tnodesA, .inl (kA 0, 48, .inl tnodesF))]) hP hD
  refine lv_istore_n (lv' := [(3, .int r3), (0, .ref w0), (1, .int p0), (2, .int p1)]) hx hb dX9_bring_9 rfl hl (by decide) rfl (fun ls hl => ?_)
  refine lv_iload_n hx hb dX9_bring_10 rfl (lv_at hl 3 rfl) ?_
  refine lv_ldc hx hb hown (kX9_bring_2 hts) dX9_bring_11 ?_
  refine lv_iload_n hx hb dX9_bring_13 rfl (lv_at hl 0 rfl) ?_
  refine lv_isub hx hb dX9_bring_14 ?_
  refine va_mmin hx hb (by rw [hml]; exact hl.1.symm) hown (kX9_bring_3 hts) (kX9_bring_4 hts) (kX9_bring_5 hts) (kX9_bring_6 hts) (Nat.le_of_ble_eq_true rfl) (Nat.le_of_ble_eq_true rfl) (Nat.le_of_ble_eq_true rfl) (Nat.le_of_ble_eq_true rfl) dX9_bring_15 ?_
  refine lv_topi (fun x8 ex8 => ?_)
  have hG := zbnd hG ex8
  have hm9 : ¬ p1 < x8 := by rw [ex8]; exact z_minl _ _
  have hm10 : ¬ (999999 - r3) < x8 := by rw [ex8]; exact z_minr _ _
  refine lv_istore (lv' := [(4, .int x8), (3, .int r3), (0, .ref w0), (1, .int p0), (2, .int p1)]) hx hb dX9_bring_18 hl (by decide) rfl (fun ls hl => ?_)
  refine lv_aload_n hx hb dX9_bring_20 rfl (lv_at hl 2 rfl) ?_
  refine va_get (D := (dC, dI)) (ci := 9) (v := .ref tnodes) (C := RX9) (T := TX9) (N := 10) hx hb hts iX9_bring_X9 hown hK.1 hP 0 rfl rfl 0 (by decide) (kX9_bring_1 hts) (fun _ h9 => h9) rfl dX9_bring_21 ?_
  refine lv_iload_n hx hb dX9_bring_24 rfl (lv_at hl 3 rfl) ?_
  refine lv_iconst (v := 3) hx hb dX9_bring_25 (by decide) ?_
  refine lv_iload_n hx hb dX9_bring_26 rfl (lv_at hl 1 rfl) ?_
  refine lv_iload hx hb dX9_bring_27 (lv_at hl 0 rfl) ?_
  refine lv_iadd hx hb dX9_bring_29 ?_
  refine z_v (wr := [(w0, .inr (9, [.ref tnodes, .ref tpasses, .ref tjars, .ref torders, .ref tfeasts, .ref tway, .int tws, .int tnow, .int tfm, .int tx]))]) (va_runV (As := [.int p0, .int 3, .int (r3 + x8)]) (rest := []) ⟨hx, hb, hml, hown, hts⟩ (mX6_put_48 l dC dI kA _ tnodes tnodesA 4 tnodesS tnodesF p0 3 (r3 + x8)) (cwV 3 hts gX9_bring_X6_put rfl rfl rfl ⟨rfl, hdX6_put⟩ ⟨(Nat.le_of_ble_eq_true rfl), (Nat.le_of_ble_eq_true rfl)⟩) ⟨zPc.blind, va_recv hK.1 hP (ci := 6) (q0 := 1) rfl rfl, zPre hK (hP.sub [1, 2] rfl) (hD.sub [1, 2] (by decide) rfl)⟩ rfl rfl hl.1 rfl (lv_room (Nat.le_of_ble_eq_true rfl)) dX9_bring_30 ⟨(Nat.le_of_ble_eq_true rfl), (Nat.le_of_ble_eq_true rfl)⟩) hP hD hS hA [1, 2] [0] rfl rfl (by decide) (by decide) (fun u11 H locs hw12 hP hD hS => ?_)
  obtain ⟨o14, rfl⟩ : ∃ z, z = u11 := ⟨_, rfl⟩
  have hp15 := hw12
  have eo14 : o14 = fX6_put_48 4 tnodesF p0 3 (r3 + x8) := hp15
  have hG := zbnd hG eo14
  obtain ⟨hP, hD⟩ := z_re (L := [(w0, .inr (9, [.ref tnodes, .ref tpasses, .ref tjars, .ref torders, .ref tfeasts, .ref tway, .int tws, .int tnow, .int tfm, .int tx])), (tnodes, .inr (6, [.int 4, .ref tnodesA, .int tnodesS])), (tnodesA, .inl (kA 0, 48, .inl o14))]) hP hD
  refine lv_iload hx hb dX9_bring_33 (lv_at hl 0 rfl) ?_
  obtain ⟨hP9, hD9⟩ := z_sb (L' := [(w0, .inr (9, [.ref tnodes, .ref tpasses, .ref tjars, .ref torders, .ref tfeasts, .ref tway, .int tws, .int tnow, .int tfm, .int tx])), (tnodes, .inr (6, [.int 4, .ref tnodesA, .int tnodesS])), (tnodesA, .inl (kA 0, 48, .inl o14))]) hP hD [0, 1, 2] (by decide) rfl
  refine W.widen (k := 0) (n := 0) (Nat.le_of_ble_eq_true rfl) (Nat.le_of_ble_eq_true rfl) ?_
  exact W.iret (v := x8) hx hb hr (fun t ht hW => ⟨⟨x8, (o14, x8), rfl, ⟨rfl, (hG.trans hG0.symm)⟩, by rw [ht]; exact hP9, hD9⟩, hS.F ht⟩) hS.2.2 dX9_bring_35
set_option maxRecDepth 100000 in
def fb_mX9_jarsAt_4 (tjarsS : Int32) (tjarsF : Nat → Int32) (p0 : Int32) (E37 : Int32 → Int32 → Int32) (K : Int32 → Int32 → Int32) (l4_0 : Int32) (l4_1 : Int32) : Int32 := if tjarsS ≤ l4_0 then (E37 l4_0 l4_1) else (bnd (fX6_get_144 9 tjarsF l4_0 1) (fun (ry4_4 : Int32) => if ry4_4 = p0 then (bnd ((l4_1 + 1)) (fun (xy4_11 : Int32) => bnd ((l4_0 + 1)) (fun (xy4_12 : Int32) => K xy4_12 xy4_11))) else (bnd ((l4_0 + 1)) (fun (xy4_10 : Int32) => K xy4_10 l4_1))))
def fl_mX9_jarsAt_4 (tjarsS : Int32) (tjarsF : Nat → Int32) (p0 : Int32) (E37 : Int32 → Int32 → Int32) : Nat → Int32 → Int32 → Int32
  | 0, _, _ => 0
  | n + 1, l4_0, l4_1 => fb_mX9_jarsAt_4 tjarsS tjarsF p0 E37 (fl_mX9_jarsAt_4 tjarsS tjarsF p0 E37 n) l4_0 l4_1
set_option maxHeartbeats 4000000 in
set_option maxRecDepth 100000 in
theorem lp_mX9_jarsAt_4 {p : Program} {l : Launch} {e : Env} {R : Room} {s : State} {m : MethodId} {args : Array Value} {below : List Frame} {meth : Method} {c : Code} {Q : State → Prop} {dC : Nat → ClassId} {dI : Nat → Nat → Nat} {kA : Nat → ClassId} {A : Nat → Prop} {H0 : Heap} {cells slots : Nat} (hx : p.tables.exec = Jvm.exec) (hb : c.code = cX9_jarsAt) (hml : c.maxLocals = 4) (hts : ∀ w ∈ wsX9_jarsAt, w.before args s = true) (hown : s.vm.findClass RX9 = some m.cls) (hK : zK dC dI kA s) (hA : ∀ q, H0.size ≤ q → A q) (hRf : 1 ≤ R.frames) (hRl : 23 ≤ R.locals) (hRc : cells ≤ R.cells) (hRs : slots ≤ R.slots) (w0 : Nat) (tnodes : Nat) (tpasses : Nat) (tjars : Nat) (tjarsA : Nat) (tjarsS : Int32) (tjarsF : Nat → Int32) (torders : Nat) (tfeasts : Nat) (tway : Nat) (tws : Int32) (tnow : Int32) (tfm : Int32) (tx : Int32) (p0 : Int32) {G : Int32} {E37 : Int32 → Int32 → Int32}  (k37 : ∀ (w37_0 : Int32) (w37_1 : Int32) (H : Heap) (locs : List Loc) (ls : Array Slot), ¬ w37_0 < 0 → E37 w37_0 w37_1 = G → va_P (dC, dI) vwCl [(w0, .inr (9, [.ref tnodes, .ref tpasses, .ref tjars, .ref torders, .ref tfeasts, .ref tway, .int tws, .int tnow, .int tfm, .int tx])), (tjars, .inr (6, [.int 9, .ref tjarsA, .int tjarsS])), (tjarsA, .inl (kA 0, 144, .inl tjarsF))] H → va_D A [(w0, .inr (9, [.ref tnodes, .ref tpasses, .ref tjars, .ref torders, .ref tfeasts, .ref tway, .int tws, .int tnow, .int tfm, .int tx])), (tjars, .inr (6, [.int 9, .ref tjarsA, .int tjarsS])), (tjarsA, .inl (kA 0, 144, .inl tjarsF))] → va_S A H0 H locs → lv_has ls 4 [(3, .int w37_0), (2, .int w37_1), (0, .ref w0), (1, .int p0)] → W p l e R s m args below meth c H locs cells slots Q (F0 m 37 ls []))  : ∀ (n : Nat) (l4_0 : Int32) (l4_1 : Int32) (H : Heap) (locs : List Loc) (ls : Array Slot), ((tjarsS : Int32).toInt - l4_0.toInt).toNat < n → fl_mX9_jarsAt_4 tjarsS tjarsF p0 E37 n l4_0 l4_1 = G → ¬ l4_0 < 0 → va_P (dC, dI) vwCl [(w0, .inr (9, [.ref tnodes, .ref tpasses, .ref tjars, .ref torders, .ref tfeasts, .ref tway, .int tws, .int tnow, .int tfm, .int tx])), (tjars, .inr (6, [.int 9, .ref tjarsA, .int tjarsS])), (tjarsA, .inl (kA 0, 144, .inl tjarsF))] H → va_D A [(w0, .inr (9, [.ref tnodes, .ref tpasses, .ref tjars, .ref torders, .ref tfeasts, .ref tway, .int tws, .int tnow, .int tfm, .int tx])), (tjars, .inr (6, [.int 9, .ref tjarsA, .int tjarsS])), (tjarsA, .inl (kA 0, 144, .inl tjarsF))] → va_S A H0 H locs → lv_has ls 4 [(3, .int l4_0), (2, .int l4_1), (0, .ref w0), (1, .int p0)] → W p l e R s m args below meth c H locs cells slots Q (F0 m 4 ls []) := by
  intro n
  induction n with
  | zero =>
    intro l4_0 l4_1 H locs ls hn
    exact absurd hn (Nat.not_lt_zero _)
  | succ n ih =>
    intro l4_0 l4_1 H locs ls hn hG hi4 hP hD hS hl
    have hG : fb_mX9_jarsAt_4 tjarsS tjarsF p0 E37 (fl_mX9_jarsAt_4 tjarsS tjarsF p0 E37 n) l4_0 l4_1 = G := hG
    unfold fb_mX9_jarsAt_4 at hG
    refine lv_iload_n hx hb dX9_jarsAt_4 rfl (lv_at hl 0 rfl) ?_
    refine lv_aload_n hx hb dX9_jarsAt_5 rfl (lv_at hl 2 rfl) ?_
    refine va_get (D := (dC, dI)) (ci := 9) (v := .ref tjars) (C := RX9) (T := TX9) (N := 10) hx hb hts iX9_jarsAt_X9 hown hK.1 hP 0 rfl rfl 2 (by decide) (kX9_jarsAt_1 hts) (fun _ h9 => h9) rfl dX9_jarsAt_6 ?_
    refine va_get (D := (dC, dI)) (ci := 6) (v := .int tjarsS) (C := RX6) (T := TX6) (N := 3) hx hb hts iX9_jarsAt_X6 hown hK.1 hP 1 rfl rfl 2 (by decide) (kX9_jarsAt_2 hts) (fun _ h9 => h9) rfl dX9_jarsAt_9 ?_
    refine lv_icmp_ge (tgt := 37) hx hb dX9_jarsAt_12 (by decide) (fun c_y4_1 => ?_) (fun c_y4_1 => ?_)
    · have hG := zthen hG c_y4_1
      exact k37 l4_0 l4_1 H locs ls hi4 hG (hP.sub [0, 1, 2] rfl) (hD.sub [0, 1, 2] (by decide) rfl) hS (lv_sub hl [0, 1, 2, 3] rfl)
    · have hG := zelse hG c_y4_1
      refine lv_aload_n hx hb dX9_jarsAt_15 rfl (lv_at hl 2 rfl) ?_
      refine va_get (D := (dC, dI)) (ci := 9) (v := .ref tjars) (C := RX9) (T := TX9) (N := 10) hx hb hts iX9_jarsAt_X9 hown hK.1 hP 0 rfl rfl 2 (by decide) (kX9_jarsAt_1 hts) (fun _ h9 => h9) rfl dX9_jarsAt_16 ?_
      refine lv_iload_n hx hb dX9_jarsAt_19 rfl (lv_at hl 0 rfl) ?_
      refine lv_iconst (v := 1) hx hb dX9_jarsAt_20 (by decide) ?_
      refine z_i (wr := [(w0, .inr (9, [.ref tnodes, .ref tpasses, .ref tjars, .ref torders, .ref tfeasts, .ref tway, .int tws, .int tnow, .int tfm, .int tx]))]) (va_runV (As := [.int l4_0, .int 1]) (rest := []) ⟨hx, hb, hml, hown, hts⟩ (mX6_get_144 l dC dI kA _ tjars tjarsA 9 tjarsS tjarsF l4_0 1) (cwV 2 hts gX9_jarsAt_X6_get rfl rfl rfl ⟨rfl, hdX6_get⟩ ⟨(Nat.le_trans (Nat.le_of_ble_eq_true rfl) hRf), (Nat.le_trans (Nat.le_of_ble_eq_true rfl) hRl)⟩) ⟨zPc.blind, va_recv hK.1 hP (ci := 6) (q0 := 1) rfl rfl, zPre hK (hP.sub [1, 2] rfl) (hD.sub [1, 2] (by decide) rfl)⟩ rfl rfl hl.1 rfl (lv_room (Nat.le_of_ble_eq_true rfl)) dX9_jarsAt_21 ⟨hRc, hRs⟩) hP hD hS hA [1, 2] [0] rfl rfl (by decide) (by decide) (fun ry4_4 uy4_2 H locs hwy4_3 hP hD hS => ?_)
      obtain ⟨ery4_7, hpy4_6⟩ := hwy4_3
      have ery4_7 : ry4_4 = uy4_2 := ery4_7
      subst ery4_7
      have ery4_4 : ry4_4 = fX6_get_144 9 tjarsF l4_0 1 := hpy4_6
      have hG := zbnd hG ery4_4
      obtain ⟨hP, hD⟩ := z_re (L := [(w0, .inr (9, [.ref tnodes, .ref tpasses, .ref tjars, .ref torders, .ref tfeasts, .ref tway, .int tws, .int tnow, .int tfm, .int tx])), (tjars, .inr (6, [.int 9, .ref tjarsA, .int tjarsS])), (tjarsA, .inl (kA 0, 144, .inl tjarsF))]) hP hD
      refine lv_iload_n hx hb dX9_jarsAt_24 rfl (lv_at hl 3 rfl) ?_
      refine lv_icmp_ne (tgt := 31) hx hb dX9_jarsAt_25 (by decide) (fun c_y4_9 => ?_) (fun c_y4_9 => ?_)
      · have hG := zelse hG c_y4_9
        obtain ⟨xy4_10, exy4_10⟩ : ∃ y : Int32, y = l4_0 + 1 := ⟨_, rfl⟩
        have hG := zbnd hG exy4_10
        refine lv_iinc (v := xy4_10) (lv' := [(3, .int xy4_10), (2, .int l4_1), (0, .ref w0), (1, .int p0)]) hx hb dX9_jarsAt_31 hl (k := 0) rfl (by rw [exy4_10]; rfl) (by decide) rfl (fun ls hl => ?_)
        refine lv_goto (tgt := 4) hx hb dX9_jarsAt_34 (by decide) ?_
        exact ih xy4_10 l4_1 H locs ls (z_up hn exy4_10 c_y4_1) hG (z_nn exy4_10 c_y4_1 hi4) (hP.sub [0, 1, 2] rfl) (hD.sub [0, 1, 2] (by decide) rfl) hS (lv_sub hl [0, 1, 2, 3] rfl)
      · have hG := zthen hG c_y4_9
        obtain ⟨xy4_11, exy4_11⟩ : ∃ y : Int32, y = l4_1 + 1 := ⟨_, rfl⟩
        have hG := zbnd hG exy4_11
        refine lv_iinc (v := xy4_11) (lv' := [(2, .int xy4_11), (3, .int l4_0), (0, .ref w0), (1, .int p0)]) hx hb dX9_jarsAt_28 hl (k := 1) rfl (by rw [exy4_11]; rfl) (by decide) rfl (fun ls hl => ?_)
        obtain ⟨xy4_12, exy4_12⟩ : ∃ y : Int32, y = l4_0 + 1 := ⟨_, rfl⟩
        have hG := zbnd hG exy4_12
        refine lv_iinc (v := xy4_12) (lv' := [(3, .int xy4_12), (2, .int xy4_11), (0, .ref w0), (1, .int p0)]) hx hb dX9_jarsAt_31 hl (k := 1) rfl (by rw [exy4_12]; rfl) (by decide) rfl (fun ls hl => ?_)
        refine lv_goto (tgt := 4) hx hb dX9_jarsAt_34 (by decide) ?_
        exact ih xy4_12 xy4_11 H locs ls (z_up hn exy4_12 c_y4_1) hG (z_nn exy4_12 c_y4_1 hi4) (hP.sub [0, 1, 2] rfl) (hD.sub [0, 1, 2] (by decide) rfl) hS (lv_sub hl [0, 1, 2, 3] rfl)
set_option maxRecDepth 100000 in
def fX9_jarsAt (tjarsS : Int32) (tjarsF : Nat → Int32) (p0 : Int32) : Int32 := fl_mX9_jarsAt_4 tjarsS tjarsF p0 (fun (w37_0_0 : Int32) (w37_1_0 : Int32) => w37_1_0) (((tjarsS : Int32).toInt - (0 : Int32).toInt).toNat + 1) 0 0
set_option maxHeartbeats 4000000 in
set_option maxRecDepth 100000 in
theorem mX9_jarsAt (l : Launch) (dC : Nat → ClassId) (dI : Nat → Nat → Nat) (kA : Nat → ClassId) (sz : Nat) (w0 : Nat) (tnodes : Nat) (tpasses : Nat) (tjars : Nat) (tjarsA : Nat) (tjarsS : Int32) (tjarsF : Nat → Int32) (torders : Nat) (tfeasts : Nat) (tway : Nat) (tws : Int32) (tnow : Int32) (tfm : Int32) (tx : Int32) (p0 : Int32)  : Met l yX9_jarsAt wsX9_jarsAt ({ frames := 1, cells := 0, slots := 0, locals := 23 }) (zPc dC dI kA sz [.ref w0, .int p0] [(w0, .inr (9, [.ref tnodes, .ref tpasses, .ref tjars, .ref torders, .ref tfeasts, .ref tway, .int tws, .int tnow, .int tfm, .int tx])), (tjars, .inr (6, [.int 9, .ref tjarsA, .int tjarsS])), (tjarsA, .inl (kA 0, 144, .inl tjarsF))]) (va_Qi (fun (r : Int32) (u : Int32) => r = u ∧ u = fX9_jarsAt tjarsS tjarsF p0) (zB dC dI (va_A [(w0, .inr (9, [.ref tnodes, .ref tpasses, .ref tjars, .ref torders, .ref tfeasts, .ref tway, .int tws, .int tnow, .int tfm, .int tx])), (tjars, .inr (6, [.int 9, .ref tjarsA, .int tjarsS])), (tjarsA, .inl (kA 0, 144, .inl tjarsF))] sz) (fun (u : Int32) => [(w0, .inr (9, [.ref tnodes, .ref tpasses, .ref tjars, .ref torders, .ref tfeasts, .ref tway, .int tws, .int tnow, .int tfm, .int tx])), (tjars, .inr (6, [.int 9, .ref tjarsA, .int tjarsS])), (tjarsA, .inl (kA 0, 144, .inl tjarsF))])) (va_A [(w0, .inr (9, [.ref tnodes, .ref tpasses, .ref tjars, .ref torders, .ref tfeasts, .ref tway, .int tws, .int tnow, .int tfm, .int tx])), (tjars, .inr (6, [.int 9, .ref tjarsA, .int tjarsS])), (tjarsA, .inl (kA 0, 144, .inl tjarsF))] sz)) 0 0 (va_A [(w0, .inr (9, [.ref tnodes, .ref tpasses, .ref tjars, .ref torders, .ref tfeasts, .ref tway, .int tws, .int tnow, .int tfm, .int tx])), (tjars, .inr (6, [.int 9, .ref tjarsA, .int tjarsS])), (tjarsA, .inl (kA 0, 144, .inl tjarsF))] sz) := by
  refine Met.ofW (cc := cX9_jarsAt) (maxL := 4) (ret := (some .int)) (by decide) rfl ?_
  intro p e s m args below meth c s₁ B hml hv
  obtain ⟨rfl, hsz, hP, hK, hD0⟩ := hv
  have hx := B.exec
  have hb := B.bytes
  have hr := B.returns
  have hts := atoms_spec (ws := wsX9_jarsAt) B.pre
  have hown : s.vm.findClass RX9 = some m.cls := findClass_of_methodNamed B.named
  have hlocks := B.notSynchronized
  subst hsz
  have hD := hD0.self (sz := s.heap.size)
  generalize hAe : va_A [(w0, .inr (9, [.ref tnodes, .ref tpasses, .ref tjars, .ref torders, .ref tfeasts, .ref tway, .int tws, .int tnow, .int tfm, .int tx])), (tjars, .inr (6, [.int 9, .ref tjarsA, .int tjarsS])), (tjarsA, .inl (kA 0, 144, .inl tjarsF))] s.heap.size = A at hD ⊢
  have hA : ∀ q : Nat, s.heap.size ≤ q → A q := fun q h => by rw [← hAe]; exact Or.inr h
  have hS : va_S A s.heap s.heap [] := va_S.rf
  have hP : va_P (dC, dI) vwCl [(w0, .inr (9, [.ref tnodes, .ref tpasses, .ref tjars, .ref torders, .ref tfeasts, .ref tway, .int tws, .int tnow, .int tfm, .int tx])), (tjars, .inr (6, [.int 9, .ref tjarsA, .int tjarsS])), (tjarsA, .inl (kA 0, 144, .inl tjarsF))] s.heap := hP
  have hl := lv_entry ([.ref w0, .int p0]) (n := 4) (Nat.le_of_ble_eq_true rfl)
  rw [lg_entry_eq]
  generalize (lg_sl ([.ref w0, .int p0]) ++ List.replicate (4 - (lg_sl ([.ref w0, .int p0])).length) Slot.unset).toArray = ls at hl ⊢
  have hl : lv_has ls 4 [(0, .ref w0), (1, .int p0)] := hl
  obtain ⟨H, hHe⟩ : ∃ H : Heap, H = s.heap := ⟨_, rfl⟩
  obtain ⟨G, hG0⟩ : ∃ G : Int32, fX9_jarsAt tjarsS tjarsF p0 = G := ⟨_, rfl⟩
  have hG := hG0
  unfold fX9_jarsAt at hG
  refine lv_iconst (v := 0) hx hb dX9_jarsAt_0 (by decide) ?_
  refine lv_istore_n (lv' := [(2, .int 0), (0, .ref w0), (1, .int p0)]) hx hb dX9_jarsAt_1 rfl hl (by decide) rfl (fun ls hl => ?_)
  refine lv_iconst (v := 0) hx hb dX9_jarsAt_2 (by decide) ?_
  refine lv_istore_n (lv' := [(3, .int 0), (2, .int 0), (0, .ref w0), (1, .int p0)]) hx hb dX9_jarsAt_3 rfl hl (by decide) rfl (fun ls hl => ?_)
  refine lp_mX9_jarsAt_4 hx hb hml hts hown hK hA (Nat.le_of_ble_eq_true rfl) (Nat.le_of_ble_eq_true rfl) (Nat.le_of_ble_eq_true rfl) (Nat.le_of_ble_eq_true rfl) w0 tnodes tpasses tjars tjarsA tjarsS tjarsF torders tfeasts tway tws tnow tfm tx p0  (fun w37_0_0 w37_1_0 H locs ls hx37_3_nlt00_0 hG hP hD hS hl => ?_) _ 0 0 _ _ ls (Nat.lt_succ_self _) hG (by decide) hP hD hS (lv_sub hl [0, 1, 2, 3] rfl)
  obtain ⟨hP, hD⟩ := z_re (L := [(w0, .inr (9, [.ref tnodes, .ref tpasses, .ref tjars, .ref torders, .ref tfeasts, .ref tway, .int tws, .int tnow, .int tfm, .int tx])), (tjars, .inr (6, [.int 9, .ref tjarsA, .int tjarsS])), (tjarsA, .inl (kA 0, 144, .inl tjarsF))]) hP hD
  refine lv_iload_n hx hb dX9_jarsAt_37 rfl (lv_at hl 1 rfl) ?_
  obtain ⟨hP9, hD9⟩ := z_sb (L' := [(w0, .inr (9, [.ref tnodes, .ref tpasses, .ref tjars, .ref torders, .ref tfeasts, .ref tway, .int tws, .int tnow, .int tfm, .int tx])), (tjars, .inr (6, [.int 9, .ref tjarsA, .int tjarsS])), (tjarsA, .inl (kA 0, 144, .inl tjarsF))]) hP hD [0, 1, 2] (by decide) rfl
  refine W.widen (k := 0) (n := 0) (Nat.le_of_ble_eq_true rfl) (Nat.le_of_ble_eq_true rfl) ?_
  exact W.iret (v := w37_1_0) hx hb hr (fun t ht hW => ⟨⟨w37_1_0, (w37_1_0), rfl, ⟨rfl, (hG.trans hG0.symm)⟩, by rw [ht]; exact hP9, hD9⟩, hS.F ht⟩) hS.2.2 dX9_jarsAt_38
set_option maxRecDepth 100000 in
def fX9_jarsThatAre (tjarsS : Int32) (tjarsF : Nat → Int32) : Int32 := bnd (fX9_jarsAt tjarsS tjarsF 13) (fun (r3 : Int32) => (tjarsS - r3))
set_option maxHeartbeats 4000000 in
set_option maxRecDepth 100000 in
theorem mX9_jarsThatAre (l : Launch) (dC : Nat → ClassId) (dI : Nat → Nat → Nat) (kA : Nat → ClassId) (sz : Nat) (w0 : Nat) (tnodes : Nat) (tpasses : Nat) (tjars : Nat) (tjarsA : Nat) (tjarsS : Int32) (tjarsF : Nat → Int32) (torders : Nat) (tfeasts : Nat) (tway : Nat) (tws : Int32) (tnow : Int32) (tfm : Int32) (tx : Int32)  : Met l yX9_jarsThatAre wsX9_jarsThatAre ({ frames := 2, cells := 0, slots := 0, locals := 46 }) (zPc dC dI kA sz [.ref w0] [(w0, .inr (9, [.ref tnodes, .ref tpasses, .ref tjars, .ref torders, .ref tfeasts, .ref tway, .int tws, .int tnow, .int tfm, .int tx])), (tjars, .inr (6, [.int 9, .ref tjarsA, .int tjarsS])), (tjarsA, .inl (kA 0, 144, .inl tjarsF))]) (va_Qi (fun (r : Int32) (u : Int32) => r = u ∧ u = fX9_jarsThatAre tjarsS tjarsF) (zB dC dI (va_A [(w0, .inr (9, [.ref tnodes, .ref tpasses, .ref tjars, .ref torders, .ref tfeasts, .ref tway, .int tws, .int tnow, .int tfm, .int tx])), (tjars, .inr (6, [.int 9, .ref tjarsA, .int tjarsS])), (tjarsA, .inl (kA 0, 144, .inl tjarsF))] sz) (fun (u : Int32) => [(w0, .inr (9, [.ref tnodes, .ref tpasses, .ref tjars, .ref torders, .ref tfeasts, .ref tway, .int tws, .int tnow, .int tfm, .int tx])), (tjars, .inr (6, [.int 9, .ref tjarsA, .int tjarsS])), (tjarsA, .inl (kA 0, 144, .inl tjarsF))])) (va_A [(w0, .inr (9, [.ref tnodes, .ref tpasses, .ref tjars, .ref torders, .ref tfeasts, .ref tway, .int tws, .int tnow, .int tfm, .int tx])), (tjars, .inr (6, [.int 9, .ref tjarsA, .int tjarsS])), (tjarsA, .inl (kA 0, 144, .inl tjarsF))] sz)) 0 0 (va_A [(w0, .inr (9, [.ref tnodes, .ref tpasses, .ref tjars, .ref torders, .ref tfeasts, .ref tway, .int tws, .int tnow, .int tfm, .int tx])), (tjars, .inr (6, [.int 9, .ref tjarsA, .int tjarsS])), (tjarsA, .inl (kA 0, 144, .inl tjarsF))] sz) := by
  refine Met.ofW (cc := cX9_jarsThatAre) (maxL := 1) (ret := (some .int)) (by decide) rfl ?_
  intro p e s m args below meth c s₁ B hml hv
  obtain ⟨rfl, hsz, hP, hK, hD0⟩ := hv
  have hx := B.exec
  have hb := B.bytes
  have hr := B.returns
  have hts := atoms_spec (ws := wsX9_jarsThatAre) B.pre
  have hown : s.vm.findClass RX9 = some m.cls := findClass_of_methodNamed B.named
  have hlocks := B.notSynchronized
  subst hsz
  have hD := hD0.self (sz := s.heap.size)
  generalize hAe : va_A [(w0, .inr (9, [.ref tnodes, .ref tpasses, .ref tjars, .ref torders, .ref tfeasts, .ref tway, .int tws, .int tnow, .int tfm, .int tx])), (tjars, .inr (6, [.int 9, .ref tjarsA, .int tjarsS])), (tjarsA, .inl (kA 0, 144, .inl tjarsF))] s.heap.size = A at hD ⊢
  have hA : ∀ q : Nat, s.heap.size ≤ q → A q := fun q h => by rw [← hAe]; exact Or.inr h
  have hS : va_S A s.heap s.heap [] := va_S.rf
  have hP : va_P (dC, dI) vwCl [(w0, .inr (9, [.ref tnodes, .ref tpasses, .ref tjars, .ref torders, .ref tfeasts, .ref tway, .int tws, .int tnow, .int tfm, .int tx])), (tjars, .inr (6, [.int 9, .ref tjarsA, .int tjarsS])), (tjarsA, .inl (kA 0, 144, .inl tjarsF))] s.heap := hP
  have hl := lv_entry ([.ref w0]) (n := 1) (Nat.le_of_ble_eq_true rfl)
  rw [lg_entry_eq]
  generalize (lg_sl ([.ref w0]) ++ List.replicate (1 - (lg_sl ([.ref w0])).length) Slot.unset).toArray = ls at hl ⊢
  have hl : lv_has ls 1 [(0, .ref w0)] := hl
  obtain ⟨G, hG0⟩ : ∃ G : Int32, fX9_jarsThatAre tjarsS tjarsF = G := ⟨_, rfl⟩
  have hG := hG0
  unfold fX9_jarsThatAre at hG
  refine lv_aload_n hx hb dX9_jarsThatAre_0 rfl (lv_at hl 0 rfl) ?_
  refine va_get (D := (dC, dI)) (ci := 9) (v := .ref tjars) (C := RX9) (T := TX9) (N := 10) hx hb hts iX9_jarsThatAre_X9 hown hK.1 hP 0 rfl rfl 2 (by decide) (kX9_jarsThatAre_1 hts) (fun _ h9 => h9) rfl dX9_jarsThatAre_1 ?_
  refine va_get (D := (dC, dI)) (ci := 6) (v := .int tjarsS) (C := RX6) (T := TX6) (N := 3) hx hb hts iX9_jarsThatAre_X6 hown hK.1 hP 1 rfl rfl 2 (by decide) (kX9_jarsThatAre_2 hts) (fun _ h9 => h9) rfl dX9_jarsThatAre_4 ?_
  refine lv_aload_n hx hb dX9_jarsThatAre_7 rfl (lv_at hl 0 rfl) ?_
  refine lv_bipush (v := 13) hx hb dX9_jarsThatAre_8 (by decide) ?_
  refine z_i (wr := []) (va_runV (As := [.int 13]) (rest := [.int tjarsS]) ⟨hx, hb, hml, hown, hts⟩ (mX9_jarsAt l dC dI kA _ w0 tnodes tpasses tjars tjarsA tjarsS tjarsF torders tfeasts tway tws tnow tfm tx 13) (cwV 1 hts gX9_jarsThatAre_X9_jarsAt rfl rfl rfl ⟨rfl, hdX9_jarsAt⟩ ⟨(Nat.le_of_ble_eq_true rfl), (Nat.le_of_ble_eq_true rfl)⟩) ⟨zPc.blind, va_recv hK.1 hP (ci := 9) (q0 := 0) rfl rfl, zPre hK (hP.sub [0, 1, 2] rfl) (hD.sub [0, 1, 2] (by decide) rfl)⟩ rfl rfl hl.1 rfl (lv_room (Nat.le_of_ble_eq_true rfl)) dX9_jarsThatAre_10 ⟨(Nat.le_of_ble_eq_true rfl), (Nat.le_of_ble_eq_true rfl)⟩) hP hD hS hA [0, 1, 2] [] rfl rfl (by decide) (by decide) (fun r3 u1 H locs hw2 hP hD hS => ?_)
  obtain ⟨er6, hp5⟩ := hw2
  have er6 : r3 = u1 := er6
  subst er6
  have er3 : r3 = fX9_jarsAt tjarsS tjarsF 13 := hp5
  have hG := zbnd hG er3
  obtain ⟨hP, hD⟩ := z_re (L := [(w0, .inr (9, [.ref tnodes, .ref tpasses, .ref tjars, .ref torders, .ref tfeasts, .ref tway, .int tws, .int tnow, .int tfm, .int tx])), (tjars, .inr (6, [.int 9, .ref tjarsA, .int tjarsS])), (tjarsA, .inl (kA 0, 144, .inl tjarsF))]) hP hD
  refine lv_isub hx hb dX9_jarsThatAre_13 ?_
  obtain ⟨hP9, hD9⟩ := z_sb (L' := [(w0, .inr (9, [.ref tnodes, .ref tpasses, .ref tjars, .ref torders, .ref tfeasts, .ref tway, .int tws, .int tnow, .int tfm, .int tx])), (tjars, .inr (6, [.int 9, .ref tjarsA, .int tjarsS])), (tjarsA, .inl (kA 0, 144, .inl tjarsF))]) hP hD [0, 1, 2] (by decide) rfl
  refine W.widen (k := 0) (n := 0) (Nat.le_of_ble_eq_true rfl) (Nat.le_of_ble_eq_true rfl) ?_
  exact W.iret (v := (tjarsS - r3)) hx hb hr (fun t ht hW => ⟨⟨(tjarsS - r3), ((tjarsS - r3)), rfl, ⟨rfl, (hG.trans hG0.symm)⟩, by rw [ht]; exact hP9, hD9⟩, hS.F ht⟩) hS.2.2 dX9_jarsThatAre_14
set_option maxRecDepth 100000 in
def fb_mX9_dropsOfAll_4 (tjarsS : Int32) (tjarsF : Nat → Int32) (E33 : Int32 → Int32 → Int32) (K : Int32 → Int32 → Int32) (l4_0 : Int32) (l4_1 : Int32) : Int32 := if tjarsS ≤ l4_0 then (E33 l4_0 l4_1) else (bnd (fX6_get_144 9 tjarsF l4_0 0) (fun (ry4_4 : Int32) => bnd ((l4_1 + ry4_4)) (fun (xy4_9 : Int32) => bnd ((l4_0 + 1)) (fun (xy4_10 : Int32) => K xy4_10 xy4_9))))
def fl_mX9_dropsOfAll_4 (tjarsS : Int32) (tjarsF : Nat → Int32) (E33 : Int32 → Int32 → Int32) : Nat → Int32 → Int32 → Int32
  | 0, _, _ => 0
  | n + 1, l4_0, l4_1 => fb_mX9_dropsOfAll_4 tjarsS tjarsF E33 (fl_mX9_dropsOfAll_4 tjarsS tjarsF E33 n) l4_0 l4_1
set_option maxHeartbeats 4000000 in
set_option maxRecDepth 100000 in
theorem lp_mX9_dropsOfAll_4 {p : Program} {l : Launch} {e : Env} {R : Room} {s : State} {m : MethodId} {args : Array Value} {below : List Frame} {meth : Method} {c : Code} {Q : State → Prop} {dC : Nat → ClassId} {dI : Nat → Nat → Nat} {kA : Nat → ClassId} {A : Nat → Prop} {H0 : Heap} {cells slots : Nat} (hx : p.tables.exec = Jvm.exec) (hb : c.code = cX9_dropsOfAll) (hml : c.maxLocals = 3) (hts : ∀ w ∈ wsX9_dropsOfAll, w.before args s = true) (hown : s.vm.findClass RX9 = some m.cls) (hK : zK dC dI kA s) (hA : ∀ q, H0.size ≤ q → A q) (hRf : 1 ≤ R.frames) (hRl : 23 ≤ R.locals) (hRc : cells ≤ R.cells) (hRs : slots ≤ R.slots) (w0 : Nat) (tnodes : Nat) (tnodesA : Nat) (tnodesS : Int32) (tnodesF : Nat → Int32) (tpasses : Nat) (tjars : Nat) (tjarsA : Nat) (tjarsS : Int32) (tjarsF : Nat → Int32) (torders : Nat) (tfeasts : Nat) (tway : Nat) (tws : Int32) (tnow : Int32) (tfm : Int32) (tx : Int32) {G : Int32} {E33 : Int32 → Int32 → Int32}  (k33 : ∀ (w33_0 : Int32) (w33_1 : Int32) (H : Heap) (locs : List Loc) (ls : Array Slot), ¬ w33_0 < 0 → E33 w33_0 w33_1 = G → va_P (dC, dI) vwCl [(w0, .inr (9, [.ref tnodes, .ref tpasses, .ref tjars, .ref torders, .ref tfeasts, .ref tway, .int tws, .int tnow, .int tfm, .int tx])), (tnodes, .inr (6, [.int 4, .ref tnodesA, .int tnodesS])), (tnodesA, .inl (kA 0, 48, .inl tnodesF)), (tjars, .inr (6, [.int 9, .ref tjarsA, .int tjarsS])), (tjarsA, .inl (kA 0, 144, .inl tjarsF))] H → va_D A [(w0, .inr (9, [.ref tnodes, .ref tpasses, .ref tjars, .ref torders, .ref tfeasts, .ref tway, .int tws, .int tnow, .int tfm, .int tx])), (tnodes, .inr (6, [.int 4, .ref tnodesA, .int tnodesS])), (tnodesA, .inl (kA 0, 48, .inl tnodesF)), (tjars, .inr (6, [.int 9, .ref tjarsA, .int tjarsS])), (tjarsA, .inl (kA 0, 144, .inl tjarsF))] → va_S A H0 H locs → lv_has ls 3 [(2, .int w33_0), (1, .int w33_1), (0, .ref w0)] → W p l e R s m args below meth c H locs cells slots Q (F0 m 33 ls []))  : ∀ (n : Nat) (l4_0 : Int32) (l4_1 : Int32) (H : Heap) (locs : List Loc) (ls : Array Slot), ((tjarsS : Int32).toInt - l4_0.toInt).toNat < n → fl_mX9_dropsOfAll_4 tjarsS tjarsF E33 n l4_0 l4_1 = G → ¬ l4_0 < 0 → va_P (dC, dI) vwCl [(w0, .inr (9, [.ref tnodes, .ref tpasses, .ref tjars, .ref torders, .ref tfeasts, .ref tway, .int tws, .int tnow, .int tfm, .int tx])), (tnodes, .inr (6, [.int 4, .ref tnodesA, .int tnodesS])), (tnodesA, .inl (kA 0, 48, .inl tnodesF)), (tjars, .inr (6, [.int 9, .ref tjarsA, .int tjarsS])), (tjarsA, .inl (kA 0, 144, .inl tjarsF))] H → va_D A [(w0, .inr (9, [.ref tnodes, .ref tpasses, .ref tjars, .ref torders, .ref tfeasts, .ref tway, .int tws, .int tnow, .int tfm, .int tx])), (tnodes, .inr (6, [.int 4, .ref tnodesA, .int tnodesS])), (tnodesA, .inl (kA 0, 48, .inl tnodesF)), (tjars, .inr (6, [.int 9, .ref tjarsA, .int tjarsS])), (tjarsA, .inl (kA 0, 144, .inl tjarsF))] → va_S A H0 H locs → lv_has ls 3 [(2, .int l4_0), (1, .int l4_1), (0, .ref w0)] → W p l e R s m args below meth c H locs cells slots Q (F0 m 4 ls []) := by
  intro n
  induction n with
  | zero =>
    intro l4_0 l4_1 H locs ls hn
    exact absurd hn (Nat.not_lt_zero _)
  | succ n ih =>
    intro l4_0 l4_1 H locs ls hn hG hi4 hP hD hS hl
    have hG : fb_mX9_dropsOfAll_4 tjarsS tjarsF E33 (fl_mX9_dropsOfAll_4 tjarsS tjarsF E33 n) l4_0 l4_1 = G := hG
    unfold fb_mX9_dropsOfAll_4 at hG
    refine lv_iload_n hx hb dX9_dropsOfAll_4 rfl (lv_at hl 0 rfl) ?_
    refine lv_aload_n hx hb dX9_dropsOfAll_5 rfl (lv_at hl 2 rfl) ?_
    refine va_get (D := (dC, dI)) (ci := 9) (v := .ref tjars) (C := RX9) (T := TX9) (N := 10) hx hb hts iX9_dropsOfAll_X9 hown hK.1 hP 0 rfl rfl 2 (by decide) (kX9_dropsOfAll_1 hts) (fun _ h9 => h9) rfl dX9_dropsOfAll_6 ?_
    refine va_get (D := (dC, dI)) (ci := 6) (v := .int tjarsS) (C := RX6) (T := TX6) (N := 3) hx hb hts iX9_dropsOfAll_X6 hown hK.1 hP 3 rfl rfl 2 (by decide) (kX9_dropsOfAll_2 hts) (fun _ h9 => h9) rfl dX9_dropsOfAll_9 ?_
    refine lv_icmp_ge (tgt := 33) hx hb dX9_dropsOfAll_12 (by decide) (fun c_y4_1 => ?_) (fun c_y4_1 => ?_)
    · have hG := zthen hG c_y4_1
      exact k33 l4_0 l4_1 H locs ls hi4 hG (hP.sub [0, 1, 2, 3, 4] rfl) (hD.sub [0, 1, 2, 3, 4] (by decide) rfl) hS (lv_sub hl [0, 1, 2] rfl)
    · have hG := zelse hG c_y4_1
      refine lv_iload_n hx hb dX9_dropsOfAll_15 rfl (lv_at hl 1 rfl) ?_
      refine lv_aload_n hx hb dX9_dropsOfAll_16 rfl (lv_at hl 2 rfl) ?_
      refine va_get (D := (dC, dI)) (ci := 9) (v := .ref tjars) (C := RX9) (T := TX9) (N := 10) hx hb hts iX9_dropsOfAll_X9 hown hK.1 hP 0 rfl rfl 2 (by decide) (kX9_dropsOfAll_1 hts) (fun _ h9 => h9) rfl dX9_dropsOfAll_17 ?_
      refine lv_iload_n hx hb dX9_dropsOfAll_20 rfl (lv_at hl 0 rfl) ?_
      refine lv_iconst (v := 0) hx hb dX9_dropsOfAll_21 (by decide) ?_
      refine z_i (wr := [(w0, .inr (9, [.ref tnodes, .ref tpasses, .ref tjars, .ref torders, .ref tfeasts, .ref tway, .int tws, .int tnow, .int tfm, .int tx])), (tnodes, .inr (6, [.int 4, .ref tnodesA, .int tnodesS])), (tnodesA, .inl (kA 0, 48, .inl tnodesF))]) (va_runV (As := [.int l4_0, .int 0]) (rest := [.int l4_1]) ⟨hx, hb, hml, hown, hts⟩ (mX6_get_144 l dC dI kA _ tjars tjarsA 9 tjarsS tjarsF l4_0 0) (cwV 2 hts gX9_dropsOfAll_X6_get rfl rfl rfl ⟨rfl, hdX6_get⟩ ⟨(Nat.le_trans (Nat.le_of_ble_eq_true rfl) hRf), (Nat.le_trans (Nat.le_of_ble_eq_true rfl) hRl)⟩) ⟨zPc.blind, va_recv hK.1 hP (ci := 6) (q0 := 3) rfl rfl, zPre hK (hP.sub [3, 4] rfl) (hD.sub [3, 4] (by decide) rfl)⟩ rfl rfl hl.1 rfl (lv_room (Nat.le_of_ble_eq_true rfl)) dX9_dropsOfAll_22 ⟨hRc, hRs⟩) hP hD hS hA [3, 4] [0, 1, 2] rfl rfl (by decide) (by decide) (fun ry4_4 uy4_2 H locs hwy4_3 hP hD hS => ?_)
      obtain ⟨ery4_7, hpy4_6⟩ := hwy4_3
      have ery4_7 : ry4_4 = uy4_2 := ery4_7
      subst ery4_7
      have ery4_4 : ry4_4 = fX6_get_144 9 tjarsF l4_0 0 := hpy4_6
      have hG := zbnd hG ery4_4
      obtain ⟨hP, hD⟩ := z_re (L := [(w0, .inr (9, [.ref tnodes, .ref tpasses, .ref tjars, .ref torders, .ref tfeasts, .ref tway, .int tws, .int tnow, .int tfm, .int tx])), (tnodes, .inr (6, [.int 4, .ref tnodesA, .int tnodesS])), (tnodesA, .inl (kA 0, 48, .inl tnodesF)), (tjars, .inr (6, [.int 9, .ref tjarsA, .int tjarsS])), (tjarsA, .inl (kA 0, 144, .inl tjarsF))]) hP hD
      refine lv_iadd hx hb dX9_dropsOfAll_25 ?_
      refine lv_topi (fun xy4_9 exy4_9 => ?_)
      have hG := zbnd hG exy4_9
      refine lv_istore_n (lv' := [(1, .int xy4_9), (2, .int l4_0), (0, .ref w0)]) hx hb dX9_dropsOfAll_26 rfl hl (by decide) rfl (fun ls hl => ?_)
      obtain ⟨xy4_10, exy4_10⟩ : ∃ y : Int32, y = l4_0 + 1 := ⟨_, rfl⟩
      have hG := zbnd hG exy4_10
      refine lv_iinc (v := xy4_10) (lv' := [(2, .int xy4_10), (1, .int xy4_9), (0, .ref w0)]) hx hb dX9_dropsOfAll_27 hl (k := 1) rfl (by rw [exy4_10]; rfl) (by decide) rfl (fun ls hl => ?_)
      refine lv_goto (tgt := 4) hx hb dX9_dropsOfAll_30 (by decide) ?_
      exact ih xy4_10 xy4_9 H locs ls (z_up hn exy4_10 c_y4_1) hG (z_nn exy4_10 c_y4_1 hi4) (hP.sub [0, 1, 2, 3, 4] rfl) (hD.sub [0, 1, 2, 3, 4] (by decide) rfl) hS (lv_sub hl [0, 1, 2] rfl)
set_option maxRecDepth 100000 in
def fb_mX9_dropsOfAll_35 (tnodesS : Int32) (tnodesF : Nat → Int32) (E64 : Int32 → Int32 → Int32) (K : Int32 → Int32 → Int32) (l35_0 : Int32) (l35_1 : Int32) : Int32 := if tnodesS ≤ l35_0 then (E64 l35_0 l35_1) else (bnd (fX6_get_48 4 tnodesF l35_0 3) (fun (ry35_4 : Int32) => bnd ((l35_1 + ry35_4)) (fun (xy35_9 : Int32) => bnd ((l35_0 + 1)) (fun (xy35_10 : Int32) => K xy35_10 xy35_9))))
def fl_mX9_dropsOfAll_35 (tnodesS : Int32) (tnodesF : Nat → Int32) (E64 : Int32 → Int32 → Int32) : Nat → Int32 → Int32 → Int32
  | 0, _, _ => 0
  | n + 1, l35_0, l35_1 => fb_mX9_dropsOfAll_35 tnodesS tnodesF E64 (fl_mX9_dropsOfAll_35 tnodesS tnodesF E64 n) l35_0 l35_1
set_option maxHeartbeats 4000000 in
set_option maxRecDepth 100000 in
theorem lp_mX9_dropsOfAll_35 {p : Program} {l : Launch} {e : Env} {R : Room} {s : State} {m : MethodId} {args : Array Value} {below : List Frame} {meth : Method} {c : Code} {Q : State → Prop} {dC : Nat → ClassId} {dI : Nat → Nat → Nat} {kA : Nat → ClassId} {A : Nat → Prop} {H0 : Heap} {cells slots : Nat} (hx : p.tables.exec = Jvm.exec) (hb : c.code = cX9_dropsOfAll) (hml : c.maxLocals = 3) (hts : ∀ w ∈ wsX9_dropsOfAll, w.before args s = true) (hown : s.vm.findClass RX9 = some m.cls) (hK : zK dC dI kA s) (hA : ∀ q, H0.size ≤ q → A q) (hRf : 1 ≤ R.frames) (hRl : 23 ≤ R.locals) (hRc : cells ≤ R.cells) (hRs : slots ≤ R.slots) (w0 : Nat) (tnodes : Nat) (tnodesA : Nat) (tnodesS : Int32) (tnodesF : Nat → Int32) (tpasses : Nat) (tjars : Nat) (tjarsA : Nat) (tjarsS : Int32) (tjarsF : Nat → Int32) (torders : Nat) (tfeasts : Nat) (tway : Nat) (tws : Int32) (tnow : Int32) (tfm : Int32) (tx : Int32) (w33_0_0 : Int32) {G : Int32} {E64 : Int32 → Int32 → Int32} (hx33_2_nlt00_0 : ¬ w33_0_0 < 0) (k64 : ∀ (w64_0 : Int32) (w64_1 : Int32) (H : Heap) (locs : List Loc) (ls : Array Slot), ¬ w64_0 < 0 → E64 w64_0 w64_1 = G → va_P (dC, dI) vwCl [(w0, .inr (9, [.ref tnodes, .ref tpasses, .ref tjars, .ref torders, .ref tfeasts, .ref tway, .int tws, .int tnow, .int tfm, .int tx])), (tnodes, .inr (6, [.int 4, .ref tnodesA, .int tnodesS])), (tnodesA, .inl (kA 0, 48, .inl tnodesF)), (tjars, .inr (6, [.int 9, .ref tjarsA, .int tjarsS])), (tjarsA, .inl (kA 0, 144, .inl tjarsF))] H → va_D A [(w0, .inr (9, [.ref tnodes, .ref tpasses, .ref tjars, .ref torders, .ref tfeasts, .ref tway, .int tws, .int tnow, .int tfm, .int tx])), (tnodes, .inr (6, [.int 4, .ref tnodesA, .int tnodesS])), (tnodesA, .inl (kA 0, 48, .inl tnodesF)), (tjars, .inr (6, [.int 9, .ref tjarsA, .int tjarsS])), (tjarsA, .inl (kA 0, 144, .inl tjarsF))] → va_S A H0 H locs → lv_has ls 3 [(2, .int w64_0), (1, .int w64_1), (0, .ref w0)] → W p l e R s m args below meth c H locs cells slots Q (F0 m 64 ls []))  : ∀ (n : Nat) (l35_0 : Int32) (l35_1 : Int32) (H : Heap) (locs : List Loc) (ls : Array Slot), ((tnodesS : Int32).toInt - l35_0.toInt).toNat < n → fl_mX9_dropsOfAll_35 tnodesS tnodesF E64 n l35_0 l35_1 = G → ¬ l35_0 < 0 → va_P (dC, dI) vwCl [(w0, .inr (9, [.ref tnodes, .ref tpasses, .ref tjars, .ref torders, .ref tfeasts, .ref tway, .int tws, .int tnow, .int tfm, .int tx])), (tnodes, .inr (6, [.int 4, .ref tnodesA, .int tnodesS])), (tnodesA, .inl (kA 0, 48, .inl tnodesF)), (tjars, .inr (6, [.int 9, .ref tjarsA, .int tjarsS])), (tjarsA, .inl (kA 0, 144, .inl tjarsF))] H → va_D A [(w0, .inr (9, [.ref tnodes, .ref tpasses, .ref tjars, .ref torders, .ref tfeasts, .ref tway, .int tws, .int tnow, .int tfm, .int tx])), (tnodes, .inr (6, [.int 4, .ref tnodesA, .int tnodesS])), (tnodesA, .inl (kA 0, 48, .inl tnodesF)), (tjars, .inr (6, [.int 9, .ref tjarsA, .int tjarsS])), (tjarsA, .inl (kA 0, 144, .inl tjarsF))] → va_S A H0 H locs → lv_has ls 3 [(2, .int l35_0), (1, .int l35_1), (0, .ref w0)] → W p l e R s m args below meth c H locs cells slots Q (F0 m 35 ls []) := by
  intro n
  induction n with
  | zero =>
    intro l35_0 l35_1 H locs ls hn
    exact absurd hn (Nat.not_lt_zero _)
  | succ n ih =>
    intro l35_0 l35_1 H locs ls hn hG hi35 hP hD hS hl
    have hG : fb_mX9_dropsOfAll_35 tnodesS tnodesF E64 (fl_mX9_dropsOfAll_35 tnodesS tnodesF E64 n) l35_0 l35_1 = G := hG
    unfold fb_mX9_dropsOfAll_35 at hG
    refine lv_iload_n hx hb dX9_dropsOfAll_35 rfl (lv_at hl 0 rfl) ?_
    refine lv_aload_n hx hb dX9_dropsOfAll_36 rfl (lv_at hl 2 rfl) ?_
    refine va_get (D := (dC, dI)) (ci := 9) (v := .ref tnodes) (C := RX9) (T := TX9) (N := 10) hx hb hts iX9_dropsOfAll_X9 hown hK.1 hP 0 rfl rfl 0 (by decide) (kX9_dropsOfAll_3 hts) (fun _ h9 => h9) rfl dX9_dropsOfAll_37 ?_
    refine va_get (D := (dC, dI)) (ci := 6) (v := .int tnodesS) (C := RX6) (T := TX6) (N := 3) hx hb hts iX9_dropsOfAll_X6 hown hK.1 hP 1 rfl rfl 2 (by decide) (kX9_dropsOfAll_2 hts) (fun _ h9 => h9) rfl dX9_dropsOfAll_40 ?_
    refine lv_icmp_ge (tgt := 64) hx hb dX9_dropsOfAll_43 (by decide) (fun c_y35_1 => ?_) (fun c_y35_1 => ?_)
    · have hG := zthen hG c_y35_1
      exact k64 l35_0 l35_1 H locs ls hi35 hG (hP.sub [0, 1, 2, 3, 4] rfl) (hD.sub [0, 1, 2, 3, 4] (by decide) rfl) hS (lv_sub hl [0, 1, 2] rfl)
    · have hG := zelse hG c_y35_1
      refine lv_iload_n hx hb dX9_dropsOfAll_46 rfl (lv_at hl 1 rfl) ?_
      refine lv_aload_n hx hb dX9_dropsOfAll_47 rfl (lv_at hl 2 rfl) ?_
      refine va_get (D := (dC, dI)) (ci := 9) (v := .ref tnodes) (C := RX9) (T := TX9) (N := 10) hx hb hts iX9_dropsOfAll_X9 hown hK.1 hP 0 rfl rfl 0 (by decide) (kX9_dropsOfAll_3 hts) (fun _ h9 => h9) rfl dX9_dropsOfAll_48 ?_
      refine lv_iload_n hx hb dX9_dropsOfAll_51 rfl (lv_at hl 0 rfl) ?_
      refine lv_iconst (v := 3) hx hb dX9_dropsOfAll_52 (by decide) ?_
      refine z_i (wr := [(w0, .inr (9, [.ref tnodes, .ref tpasses, .ref tjars, .ref torders, .ref tfeasts, .ref tway, .int tws, .int tnow, .int tfm, .int tx])), (tjars, .inr (6, [.int 9, .ref tjarsA, .int tjarsS])), (tjarsA, .inl (kA 0, 144, .inl tjarsF))]) (va_runV (As := [.int l35_0, .int 3]) (rest := [.int l35_1]) ⟨hx, hb, hml, hown, hts⟩ (mX6_get_48 l dC dI kA _ tnodes tnodesA 4 tnodesS tnodesF l35_0 3) (cwV 2 hts gX9_dropsOfAll_X6_get rfl rfl rfl ⟨rfl, hdX6_get⟩ ⟨(Nat.le_trans (Nat.le_of_ble_eq_true rfl) hRf), (Nat.le_trans (Nat.le_of_ble_eq_true rfl) hRl)⟩) ⟨zPc.blind, va_recv hK.1 hP (ci := 6) (q0 := 1) rfl rfl, zPre hK (hP.sub [1, 2] rfl) (hD.sub [1, 2] (by decide) rfl)⟩ rfl rfl hl.1 rfl (lv_room (Nat.le_of_ble_eq_true rfl)) dX9_dropsOfAll_53 ⟨hRc, hRs⟩) hP hD hS hA [1, 2] [0, 3, 4] rfl rfl (by decide) (by decide) (fun ry35_4 uy35_2 H locs hwy35_3 hP hD hS => ?_)
      obtain ⟨ery35_7, hpy35_6⟩ := hwy35_3
      have ery35_7 : ry35_4 = uy35_2 := ery35_7
      subst ery35_7
      have ery35_4 : ry35_4 = fX6_get_48 4 tnodesF l35_0 3 := hpy35_6
      have hG := zbnd hG ery35_4
      obtain ⟨hP, hD⟩ := z_re (L := [(w0, .inr (9, [.ref tnodes, .ref tpasses, .ref tjars, .ref torders, .ref tfeasts, .ref tway, .int tws, .int tnow, .int tfm, .int tx])), (tjars, .inr (6, [.int 9, .ref tjarsA, .int tjarsS])), (tjarsA, .inl (kA 0, 144, .inl tjarsF)), (tnodes, .inr (6, [.int 4, .ref tnodesA, .int tnodesS])), (tnodesA, .inl (kA 0, 48, .inl tnodesF))]) hP hD
      refine lv_iadd hx hb dX9_dropsOfAll_56 ?_
      refine lv_topi (fun xy35_9 exy35_9 => ?_)
      have hG := zbnd hG exy35_9
      refine lv_istore_n (lv' := [(1, .int xy35_9), (2, .int l35_0), (0, .ref w0)]) hx hb dX9_dropsOfAll_57 rfl hl (by decide) rfl (fun ls hl => ?_)
      obtain ⟨xy35_10, exy35_10⟩ : ∃ y : Int32, y = l35_0 + 1 := ⟨_, rfl⟩
      have hG := zbnd hG exy35_10
      refine lv_iinc (v := xy35_10) (lv' := [(2, .int xy35_10), (1, .int xy35_9), (0, .ref w0)]) hx hb dX9_dropsOfAll_58 hl (k := 1) rfl (by rw [exy35_10]; rfl) (by decide) rfl (fun ls hl => ?_)
      refine lv_goto (tgt := 35) hx hb dX9_dropsOfAll_61 (by decide) ?_
      exact ih xy35_10 xy35_9 H locs ls (z_up hn exy35_10 c_y35_1) hG (z_nn exy35_10 c_y35_1 hi35) (hP.sub [0, 3, 4, 1, 2] rfl) (hD.sub [0, 3, 4, 1, 2] (by decide) rfl) hS (lv_sub hl [0, 1, 2] rfl)
set_option maxRecDepth 100000 in
def fX9_dropsOfAll (tnodesS : Int32) (tnodesF : Nat → Int32) (tjarsS : Int32) (tjarsF : Nat → Int32) : Int32 := fl_mX9_dropsOfAll_4 tjarsS tjarsF (fun (w33_0_0 : Int32) (w33_1_0 : Int32) => fl_mX9_dropsOfAll_35 tnodesS tnodesF (fun (w64_0_1 : Int32) (w64_1_1 : Int32) => w64_1_1) (((tnodesS : Int32).toInt - (0 : Int32).toInt).toNat + 1) 0 w33_1_0) (((tjarsS : Int32).toInt - (0 : Int32).toInt).toNat + 1) 0 0
set_option maxHeartbeats 4000000 in
set_option maxRecDepth 100000 in
theorem mX9_dropsOfAll (l : Launch) (dC : Nat → ClassId) (dI : Nat → Nat → Nat) (kA : Nat → ClassId) (sz : Nat) (w0 : Nat) (tnodes : Nat) (tnodesA : Nat) (tnodesS : Int32) (tnodesF : Nat → Int32) (tpasses : Nat) (tjars : Nat) (tjarsA : Nat) (tjarsS : Int32) (tjarsF : Nat → Int32) (torders : Nat) (tfeasts : Nat) (tway : Nat) (tws : Int32) (tnow : Int32) (tfm : Int32) (tx : Int32)  : Met l yX9_dropsOfAll wsX9_dropsOfAll ({ frames := 1, cells := 0, slots := 0, locals := 23 }) (zPc dC dI kA sz [.ref w0] [(w0, .inr (9, [.ref tnodes, .ref tpasses, .ref tjars, .ref torders, .ref tfeasts, .ref tway, .int tws, .int tnow, .int tfm, .int tx])), (tnodes, .inr (6, [.int 4, .ref tnodesA, .int tnodesS])), (tnodesA, .inl (kA 0, 48, .inl tnodesF)), (tjars, .inr (6, [.int 9, .ref tjarsA, .int tjarsS])), (tjarsA, .inl (kA 0, 144, .inl tjarsF))]) (va_Qi (fun (r : Int32) (u : Int32) => r = u ∧ u = fX9_dropsOfAll tnodesS tnodesF tjarsS tjarsF) (zB dC dI (va_A [(w0, .inr (9, [.ref tnodes, .ref tpasses, .ref tjars, .ref torders, .ref tfeasts, .ref tway, .int tws, .int tnow, .int tfm, .int tx])), (tnodes, .inr (6, [.int 4, .ref tnodesA, .int tnodesS])), (tnodesA, .inl (kA 0, 48, .inl tnodesF)), (tjars, .inr (6, [.int 9, .ref tjarsA, .int tjarsS])), (tjarsA, .inl (kA 0, 144, .inl tjarsF))] sz) (fun (u : Int32) => [(w0, .inr (9, [.ref tnodes, .ref tpasses, .ref tjars, .ref torders, .ref tfeasts, .ref tway, .int tws, .int tnow, .int tfm, .int tx])), (tnodes, .inr (6, [.int 4, .ref tnodesA, .int tnodesS])), (tnodesA, .inl (kA 0, 48, .inl tnodesF)), (tjars, .inr (6, [.int 9, .ref tjarsA, .int tjarsS])), (tjarsA, .inl (kA 0, 144, .inl tjarsF))])) (va_A [(w0, .inr (9, [.ref tnodes, .ref tpasses, .ref tjars, .ref torders, .ref tfeasts, .ref tway, .int tws, .int tnow, .int tfm, .int tx])), (tnodes, .inr (6, [.int 4, .ref tnodesA, .int tnodesS])), (tnodesA, .inl (kA 0, 48, .inl tnodesF)), (tjars, .inr (6, [.int 9, .ref tjarsA, .int tjarsS])), (tjarsA, .inl (kA 0, 144, .inl tjarsF))] sz)) 0 0 (va_A [(w0, .inr (9, [.ref tnodes, .ref tpasses, .ref tjars, .ref torders, .ref tfeasts, .ref tway, .int tws, .int tnow, .int tfm, .int tx])), (tnodes, .inr (6, [.int 4, .ref tnodesA, .int tnodesS])), (tnodesA, .inl (kA 0, 48, .inl tnodesF)), (tjars, .inr (6, [.int 9, .ref tjarsA, .int tjarsS])), (tjarsA, .inl (kA 0, 144, .inl tjarsF))] sz) := by
  refine Met.ofW (cc := cX9_dropsOfAll) (maxL := 3) (ret := (some .int)) (by decide) rfl ?_
  intro p e s m args below meth c s₁ B hml hv
  obtain ⟨rfl, hsz, hP, hK, hD0⟩ := hv
  have hx := B.exec
  have hb := B.bytes
  have hr := B.returns
  have hts := atoms_spec (ws := wsX9_dropsOfAll) B.pre
  have hown : s.vm.findClass RX9 = some m.cls := findClass_of_methodNamed B.named
  have hlocks := B.notSynchronized
  subst hsz
  have hD := hD0.self (sz := s.heap.size)
  generalize hAe : va_A [(w0, .inr (9, [.ref tnodes, .ref tpasses, .ref tjars, .ref torders, .ref tfeasts, .ref tway, .int tws, .int tnow, .int tfm, .int tx])), (tnodes, .inr (6, [.int 4, .ref tnodesA, .int tnodesS])), (tnodesA, .inl (kA 0, 48, .inl tnodesF)), (tjars, .inr (6, [.int 9, .ref tjarsA, .int tjarsS])), (tjarsA, .inl (kA 0, 144, .inl tjarsF))] s.heap.size = A at hD ⊢
  have hA : ∀ q : Nat, s.heap.size ≤ q → A q := fun q h => by rw [← hAe]; exact Or.inr h
  have hS : va_S A s.heap s.heap [] := va_S.rf
  have hP : va_P (dC, dI) vwCl [(w0, .inr (9, [.ref tnodes, .ref tpasses, .ref tjars, .ref torders, .ref tfeasts, .ref tway, .int tws, .int tnow, .int tfm, .int tx])), (tnodes, .inr (6, [.int 4, .ref tnodesA, .int tnodesS])), (tnodesA, .inl (kA 0, 48, .inl tnodesF)), (tjars, .inr (6, [.int 9, .ref tjarsA, .int tjarsS])), (tjarsA, .inl (kA 0, 144, .inl tjarsF))] s.heap := hP
  have hl := lv_entry ([.ref w0]) (n := 3) (Nat.le_of_ble_eq_true rfl)
  rw [lg_entry_eq]
  generalize (lg_sl ([.ref w0]) ++ List.replicate (3 - (lg_sl ([.ref w0])).length) Slot.unset).toArray = ls at hl ⊢
  have hl : lv_has ls 3 [(0, .ref w0)] := hl
  obtain ⟨H, hHe⟩ : ∃ H : Heap, H = s.heap := ⟨_, rfl⟩
  obtain ⟨G, hG0⟩ : ∃ G : Int32, fX9_dropsOfAll tnodesS tnodesF tjarsS tjarsF = G := ⟨_, rfl⟩
  have hG := hG0
  unfold fX9_dropsOfAll at hG
  refine lv_iconst (v := 0) hx hb dX9_dropsOfAll_0 (by decide) ?_
  refine lv_istore_n (lv' := [(1, .int 0), (0, .ref w0)]) hx hb dX9_dropsOfAll_1 rfl hl (by decide) rfl (fun ls hl => ?_)
  refine lv_iconst (v := 0) hx hb dX9_dropsOfAll_2 (by decide) ?_
  refine lv_istore_n (lv' := [(2, .int 0), (1, .int 0), (0, .ref w0)]) hx hb dX9_dropsOfAll_3 rfl hl (by decide) rfl (fun ls hl => ?_)
  refine lp_mX9_dropsOfAll_4 hx hb hml hts hown hK hA (Nat.le_of_ble_eq_true rfl) (Nat.le_of_ble_eq_true rfl) (Nat.le_of_ble_eq_true rfl) (Nat.le_of_ble_eq_true rfl) w0 tnodes tnodesA tnodesS tnodesF tpasses tjars tjarsA tjarsS tjarsF torders tfeasts tway tws tnow tfm tx  (fun w33_0_0 w33_1_0 H locs ls hx33_2_nlt00_0 hG hP hD hS hl => ?_) _ 0 0 _ _ ls (Nat.lt_succ_self _) hG (by decide) hP hD hS (lv_sub hl [0, 1, 2] rfl)
  obtain ⟨hP, hD⟩ := z_re (L := [(w0, .inr (9, [.ref tnodes, .ref tpasses, .ref tjars, .ref torders, .ref tfeasts, .ref tway, .int tws, .int tnow, .int tfm, .int tx])), (tnodes, .inr (6, [.int 4, .ref tnodesA, .int tnodesS])), (tnodesA, .inl (kA 0, 48, .inl tnodesF)), (tjars, .inr (6, [.int 9, .ref tjarsA, .int tjarsS])), (tjarsA, .inl (kA 0, 144, .inl tjarsF))]) hP hD
  refine lv_iconst (v := 0) hx hb dX9_dropsOfAll_33 (by decide) ?_
  refine lv_istore_n (lv' := [(2, .int 0), (1, .int w33_1_0), (0, .ref w0)]) hx hb dX9_dropsOfAll_34 rfl hl (by decide) rfl (fun ls hl => ?_)
  refine lp_mX9_dropsOfAll_35 hx hb hml hts hown hK hA (Nat.le_of_ble_eq_true rfl) (Nat.le_of_ble_eq_true rfl) (Nat.le_of_ble_eq_true rfl) (Nat.le_of_ble_eq_true rfl) w0 tnodes tnodesA tnodesS tnodesF tpasses tjars tjarsA tjarsS tjarsF torders tfeasts tway tws tnow tfm tx w33_0_0 hx33_2_nlt00_0 (fun w64_0_1 w64_1_1 H locs ls hx64_2_nlt00_1 hG hP hD hS hl => ?_) _ 0 w33_1_0 _ _ ls (Nat.lt_succ_self _) hG (by decide) hP hD hS (lv_sub hl [0, 1, 2] rfl)
  obtain ⟨hP, hD⟩ := z_re (L := [(w0, .inr (9, [.ref tnodes, .ref tpasses, .ref tjars, .ref torders, .ref tfeasts, .ref tway, .int tws, .int tnow, .int tfm, .int tx])), (tnodes, .inr (6, [.int 4, .ref tnodesA, .int tnodesS])), (tnodesA, .inl (kA 0, 48, .inl tnodesF)), (tjars, .inr (6, [.int 9, .ref tjarsA, .int tjarsS])), (tjarsA, .inl (kA 0, 144, .inl tjarsF))]) hP hD
  refine lv_iload_n hx hb dX9_dropsOfAll_64 rfl (lv_at hl 1 rfl) ?_
  obtain ⟨hP9, hD9⟩ := z_sb (L' := [(w0, .inr (9, [.ref tnodes, .ref tpasses, .ref tjars, .ref torders, .ref tfeasts, .ref tway, .int tws, .int tnow, .int tfm, .int tx])), (tnodes, .inr (6, [.int 4, .ref tnodesA, .int tnodesS])), (tnodesA, .inl (kA 0, 48, .inl tnodesF)), (tjars, .inr (6, [.int 9, .ref tjarsA, .int tjarsS])), (tjarsA, .inl (kA 0, 144, .inl tjarsF))]) hP hD [0, 1, 2, 3, 4] (by decide) rfl
  refine W.widen (k := 0) (n := 0) (Nat.le_of_ble_eq_true rfl) (Nat.le_of_ble_eq_true rfl) ?_
  exact W.iret (v := w64_1_1) hx hb hr (fun t ht hW => ⟨⟨w64_1_1, (w64_1_1), rfl, ⟨rfl, (hG.trans hG0.symm)⟩, by rw [ht]; exact hP9, hD9⟩, hS.F ht⟩) hS.2.2 dX9_dropsOfAll_65
set_option maxRecDepth 100000 in
def fX9_draw (tx : Int32) : Int32 × Int32 := bnd ((tx.toInt64 * 1103515245)) (fun (x1 : Int64) => bnd ((x1 + 12345)) (fun (x2 : Int64) => bnd ((x2 &&& 2147483647)) (fun (x3 : Int64) => bnd (x3.toInt32) (fun (x4 : Int32) => bnd ((x4 / 65536)) (fun (x5 : Int32) => (x4, x5))))))
set_option maxHeartbeats 4000000 in
set_option maxRecDepth 100000 in
theorem mX9_draw (l : Launch) (dC : Nat → ClassId) (dI : Nat → Nat → Nat) (kA : Nat → ClassId) (sz : Nat) (w0 : Nat) (tnodes : Nat) (tpasses : Nat) (tjars : Nat) (torders : Nat) (tfeasts : Nat) (tway : Nat) (tws : Int32) (tnow : Int32) (tfm : Int32) (tx : Int32)  : Met l yX9_draw wsX9_draw ({ frames := 0, cells := 0, slots := 0, locals := 0 }) (zPc dC dI kA sz [.ref w0] [(w0, .inr (9, [.ref tnodes, .ref tpasses, .ref tjars, .ref torders, .ref tfeasts, .ref tway, .int tws, .int tnow, .int tfm, .int tx]))]) (va_Qi (fun (r : Int32) (u : Int32 × Int32) => r = u.2 ∧ (u.1, u.2) = fX9_draw tx) (zB dC dI (va_A [(w0, .inr (9, [.ref tnodes, .ref tpasses, .ref tjars, .ref torders, .ref tfeasts, .ref tway, .int tws, .int tnow, .int tfm, .int tx]))] sz) (fun (u : Int32 × Int32) => [(w0, .inr (9, [.ref tnodes, .ref tpasses, .ref tjars, .ref torders, .ref tfeasts, .ref tway, .int tws, .int tnow, .int tfm, .int u.1]))])) (va_A [(w0, .inr (9, [.ref tnodes, .ref tpasses, .ref tjars, .ref torders, .ref tfeasts, .ref tway, .int tws, .int tnow, .int tfm, .int tx]))] sz)) 0 0 (va_A [(w0, .inr (9, [.ref tnodes, .ref tpasses, .ref tjars, .ref torders, .ref tfeasts, .ref tway, .int tws, .int tnow, .int tfm, .int tx]))] sz) := by
  refine Met.ofW (cc := cX9_draw) (maxL := 1) (ret := (some .int)) (by decide) rfl ?_
  intro p e s m args below meth c s₁ B hml hv
  obtain ⟨rfl, hsz, hP, hK, hD0⟩ := hv
  have hx := B.exec
  have hb := B.bytes
  have hr := B.returns
  have hts := atoms_spec (ws := wsX9_draw) B.pre
  have hown : s.vm.findClass RX9 = some m.cls := findClass_of_methodNamed B.named
  have hlocks := B.notSynchronized
  subst hsz
  have hD := hD0.self (sz := s.heap.size)
  generalize hAe : va_A [(w0, .inr (9, [.ref tnodes, .ref tpasses, .ref tjars, .ref torders, .ref tfeasts, .ref tway, .int tws, .int tnow, .int tfm, .int tx]))] s.heap.size = A at hD ⊢
  have hA : ∀ q : Nat, s.heap.size ≤ q → A q := fun q h => by rw [← hAe]; exact Or.inr h
  have hS : va_S A s.heap s.heap [] := va_S.rf
  have hP : va_P (dC, dI) vwCl [(w0, .inr (9, [.ref tnodes, .ref tpasses, .ref tjars, .ref torders, .ref tfeasts, .ref tway, .int tws, .int tnow, .int tfm, .int tx]))] s.heap := hP
  have hl := lv_entry ([.ref w0]) (n := 1) (Nat.le_of_ble_eq_true rfl)
  rw [lg_entry_eq]
  generalize (lg_sl ([.ref w0]) ++ List.replicate (1 - (lg_sl ([.ref w0])).length) Slot.unset).toArray = ls at hl ⊢
  have hl : lv_has ls 1 [(0, .ref w0)] := hl
  obtain ⟨G, hG0⟩ : ∃ G : Int32 × Int32, fX9_draw tx = G := ⟨_, rfl⟩
  have hG := hG0
  unfold fX9_draw at hG
  refine lv_aload_n hx hb dX9_draw_0 rfl (lv_at hl 0 rfl) ?_
  refine lv_aload_n hx hb dX9_draw_1 rfl (lv_at hl 0 rfl) ?_
  refine va_get (D := (dC, dI)) (ci := 9) (v := .int tx) (C := RX9) (T := TX9) (N := 10) hx hb hts iX9_draw_X9 hown hK.1 hP 0 rfl rfl 9 (by decide) (kX9_draw_1 hts) (fun _ h9 => h9) rfl dX9_draw_2 ?_
  refine lv_i2l hx hb dX9_draw_5 rfl ?_
  refine lv_ldc2 hx hb hown (kX9_draw_2 hts) dX9_draw_6 ?_
  refine lv_lmul hx hb dX9_draw_9 ?_
  refine lv_topl (fun x1 ex1 => ?_)
  have hG := zbnd hG ex1
  refine lv_ldc2 hx hb hown (kX9_draw_3 hts) dX9_draw_10 ?_
  refine lv_ladd hx hb dX9_draw_13 ?_
  refine lv_topl (fun x2 ex2 => ?_)
  have hG := zbnd hG ex2
  refine lv_ldc2 hx hb hown (kX9_draw_4 hts) dX9_draw_14 ?_
  refine lv_land hx hb dX9_draw_17 ?_
  refine lv_topl (fun x3 ex3 => ?_)
  have hG := zbnd hG ex3
  refine lv_l2i hx hb dX9_draw_18 rfl ?_
  refine lv_topi (fun x4 ex4 => ?_)
  have hG := zbnd hG ex4
  refine va_put (D := (dC, dI)) (ci := 9) (v := .int x4) (ty := .int) (C := RX9) (T := TX9) (N := 10) hx hb hts iX9_draw_X9 tyX9 tyX9_ok nmX9 hown hK.1 hP hD hS 0 rfl rfl 9 (by decide) (kX9_draw_1 hts) (fun _ h9 => h9) rfl (by decide +kernel) rfl rfl (Nat.le_of_ble_eq_true rfl) dX9_draw_19 (fun H locs hP hD hS => ?_)
  obtain ⟨hP, hD⟩ := z_re (L := [(w0, .inr (9, [.ref tnodes, .ref tpasses, .ref tjars, .ref torders, .ref tfeasts, .ref tway, .int tws, .int tnow, .int tfm, .int x4]))]) hP hD
  refine lv_aload_n hx hb dX9_draw_22 rfl (lv_at hl 0 rfl) ?_
  refine va_get (D := (dC, dI)) (ci := 9) (v := .int x4) (C := RX9) (T := TX9) (N := 10) hx hb hts iX9_draw_X9 hown hK.1 hP 0 rfl rfl 9 (by decide) (kX9_draw_1 hts) (fun _ h9 => h9) rfl dX9_draw_23 ?_
  refine lv_ldc hx hb hown (kX9_draw_5 hts) dX9_draw_26 ?_
  refine lv_idiv hx hb dX9_draw_28 (by decide) ?_
  refine lv_topi (fun x5 ex5 => ?_)
  have hG := zbnd hG ex5
  obtain ⟨hP9, hD9⟩ := z_sb (L' := [(w0, .inr (9, [.ref tnodes, .ref tpasses, .ref tjars, .ref torders, .ref tfeasts, .ref tway, .int tws, .int tnow, .int tfm, .int x4]))]) hP hD [0] (by decide) rfl
  refine W.widen (k := 0) (n := 0) (Nat.le_of_ble_eq_true rfl) (Nat.le_of_ble_eq_true rfl) ?_
  exact W.iret (v := x5) hx hb hr (fun t ht hW => ⟨⟨x5, (x4, x5), rfl, ⟨rfl, (hG.trans hG0.symm)⟩, by rw [ht]; exact hP9, hD9⟩, hS.F ht⟩) hS.2.2 dX9_draw_29
set_option maxRecDepth 100000 in
def fX9_copyFrom (tnodesF : Nat → Int32) (tpassesF : Nat → Int32) (tjarsF : Nat → Int32) (tordersF : Nat → Int32) (tfeastsF : Nat → Int32) (twayF : Nat → Int32) (snodesS : Int32) (snodesF : Nat → Int32) (spassesS : Int32) (spassesF : Nat → Int32) (sjarsS : Int32) (sjarsF : Nat → Int32) (sordersS : Int32) (sordersF : Nat → Int32) (sfeastsS : Int32) (sfeastsF : Nat → Int32) (swayS : Int32) (swayF : Nat → Int32) (sws : Int32) (snow : Int32) (sfm : Int32) (sx : Int32) : Int32 × Int32 × Int32 × Int32 × Int32 × (Nat → Int32) × Int32 × (Nat → Int32) × Int32 × (Nat → Int32) × Int32 × (Nat → Int32) × Int32 × (Nat → Int32) × Int32 × (Nat → Int32) := bnd (fX6_copyFrom_48 tnodesF snodesS snodesF) (fun (q7 : Int32 × (Nat → Int32)) => bnd (q7.1) (fun (o4 : Int32) => bnd (q7.2) (fun (o5 : Nat → Int32) => bnd (fX6_copyFrom_100 tpassesF spassesS spassesF) (fun (q14 : Int32 × (Nat → Int32)) => bnd (q14.1) (fun (o11 : Int32) => bnd (q14.2) (fun (o12 : Nat → Int32) => bnd (fX6_copyFrom_144 tjarsF sjarsS sjarsF) (fun (q21 : Int32 × (Nat → Int32)) => bnd (q21.1) (fun (o18 : Int32) => bnd (q21.2) (fun (o19 : Nat → Int32) => bnd (fX6_copyFrom_24 tordersF sordersS sordersF) (fun (q28 : Int32 × (Nat → Int32)) => bnd (q28.1) (fun (o25 : Int32) => bnd (q28.2) (fun (o26 : Nat → Int32) => bnd (fX6_copyFrom_24 tfeastsF sfeastsS sfeastsF) (fun (q35 : Int32 × (Nat → Int32)) => bnd (q35.1) (fun (o32 : Int32) => bnd (q35.2) (fun (o33 : Nat → Int32) => bnd (fX6_copyFrom_6 twayF swayS swayF) (fun (q42 : Int32 × (Nat → Int32)) => bnd (q42.1) (fun (o39 : Int32) => bnd (q42.2) (fun (o40 : Nat → Int32) => (sws, snow, sfm, sx, o4, o5, o11, o12, o18, o19, o25, o26, o32, o33, o39, o40)))))))))))))))))))
set_option maxHeartbeats 4000000 in
set_option maxRecDepth 100000 in
theorem mX9_copyFrom (l : Launch) (dC : Nat → ClassId) (dI : Nat → Nat → Nat) (kA : Nat → ClassId) (sz : Nat) (w0 : Nat) (tnodes : Nat) (tnodesA : Nat) (tnodesS : Int32) (tnodesF : Nat → Int32) (tpasses : Nat) (tpassesA : Nat) (tpassesS : Int32) (tpassesF : Nat → Int32) (tjars : Nat) (tjarsA : Nat) (tjarsS : Int32) (tjarsF : Nat → Int32) (torders : Nat) (tordersA : Nat) (tordersS : Int32) (tordersF : Nat → Int32) (tfeasts : Nat) (tfeastsA : Nat) (tfeastsS : Int32) (tfeastsF : Nat → Int32) (tway : Nat) (twayA : Nat) (twayS : Int32) (twayF : Nat → Int32) (tws : Int32) (tnow : Int32) (tfm : Int32) (tx : Int32) (v0 : Nat) (snodes : Nat) (snodesA : Nat) (snodesS : Int32) (snodesF : Nat → Int32) (spasses : Nat) (spassesA : Nat) (spassesS : Int32) (spassesF : Nat → Int32) (sjars : Nat) (sjarsA : Nat) (sjarsS : Int32) (sjarsF : Nat → Int32) (sorders : Nat) (sordersA : Nat) (sordersS : Int32) (sordersF : Nat → Int32) (sfeasts : Nat) (sfeastsA : Nat) (sfeastsS : Int32) (sfeastsF : Nat → Int32) (sway : Nat) (swayA : Nat) (swayS : Int32) (swayF : Nat → Int32) (sws : Int32) (snow : Int32) (sfm : Int32) (sx : Int32)  : Met l yX9_copyFrom wsX9_copyFrom ({ frames := 2, cells := 0, slots := 0, locals := 81 }) (zPc dC dI kA sz [.ref w0, .ref v0] [(w0, .inr (9, [.ref tnodes, .ref tpasses, .ref tjars, .ref torders, .ref tfeasts, .ref tway, .int tws, .int tnow, .int tfm, .int tx])), (tnodes, .inr (6, [.int 4, .ref tnodesA, .int tnodesS])), (tnodesA, .inl (kA 0, 48, .inl tnodesF)), (tpasses, .inr (6, [.int 5, .ref tpassesA, .int tpassesS])), (tpassesA, .inl (kA 0, 100, .inl tpassesF)), (tjars, .inr (6, [.int 9, .ref tjarsA, .int tjarsS])), (tjarsA, .inl (kA 0, 144, .inl tjarsF)), (torders, .inr (6, [.int 4, .ref tordersA, .int tordersS])), (tordersA, .inl (kA 0, 24, .inl tordersF)), (tfeasts, .inr (6, [.int 3, .ref tfeastsA, .int tfeastsS])), (tfeastsA, .inl (kA 0, 24, .inl tfeastsF)), (tway, .inr (6, [.int 1, .ref twayA, .int twayS])), (twayA, .inl (kA 0, 6, .inl twayF)), (v0, .inr (9, [.ref snodes, .ref spasses, .ref sjars, .ref sorders, .ref sfeasts, .ref sway, .int sws, .int snow, .int sfm, .int sx])), (snodes, .inr (6, [.int 4, .ref snodesA, .int snodesS])), (snodesA, .inl (kA 0, 48, .inl snodesF)), (spasses, .inr (6, [.int 5, .ref spassesA, .int spassesS])), (spassesA, .inl (kA 0, 100, .inl spassesF)), (sjars, .inr (6, [.int 9, .ref sjarsA, .int sjarsS])), (sjarsA, .inl (kA 0, 144, .inl sjarsF)), (sorders, .inr (6, [.int 4, .ref sordersA, .int sordersS])), (sordersA, .inl (kA 0, 24, .inl sordersF)), (sfeasts, .inr (6, [.int 3, .ref sfeastsA, .int sfeastsS])), (sfeastsA, .inl (kA 0, 24, .inl sfeastsF)), (sway, .inr (6, [.int 1, .ref swayA, .int swayS])), (swayA, .inl (kA 0, 6, .inl swayF))]) (va_Qv (fun (u : Int32 × Int32 × Int32 × Int32 × Int32 × (Nat → Int32) × Int32 × (Nat → Int32) × Int32 × (Nat → Int32) × Int32 × (Nat → Int32) × Int32 × (Nat → Int32) × Int32 × (Nat → Int32)) => (u.1, u.2.1, u.2.2.1, u.2.2.2.1, u.2.2.2.2.1, u.2.2.2.2.2.1, u.2.2.2.2.2.2.1, u.2.2.2.2.2.2.2.1, u.2.2.2.2.2.2.2.2.1, u.2.2.2.2.2.2.2.2.2.1, u.2.2.2.2.2.2.2.2.2.2.1, u.2.2.2.2.2.2.2.2.2.2.2.1, u.2.2.2.2.2.2.2.2.2.2.2.2.1, u.2.2.2.2.2.2.2.2.2.2.2.2.2.1, u.2.2.2.2.2.2.2.2.2.2.2.2.2.2.1, u.2.2.2.2.2.2.2.2.2.2.2.2.2.2.2) = fX9_copyFrom tnodesF tpassesF tjarsF tordersF tfeastsF twayF snodesS snodesF spassesS spassesF sjarsS sjarsF sordersS sordersF sfeastsS sfeastsF swayS swayF sws snow sfm sx) (zB dC dI (va_A [(w0, .inr (9, [.ref tnodes, .ref tpasses, .ref tjars, .ref torders, .ref tfeasts, .ref tway, .int tws, .int tnow, .int tfm, .int tx])), (tnodes, .inr (6, [.int 4, .ref tnodesA, .int tnodesS])), (tnodesA, .inl (kA 0, 48, .inl tnodesF)), (tpasses, .inr (6, [.int 5, .ref tpassesA, .int tpassesS])), (tpassesA, .inl (kA 0, 100, .inl tpassesF)), (tjars, .inr (6, [.int 9, .ref tjarsA, .int tjarsS])), (tjarsA, .inl (kA 0, 144, .inl tjarsF)), (torders, .inr (6, [.int 4, .ref tordersA, .int tordersS])), (tordersA, .inl (kA 0, 24, .inl tordersF)), (tfeasts, .inr (6, [.int 3, .ref tfeastsA, .int tfeastsS])), (tfeastsA, .inl (kA 0, 24, .inl tfeastsF)), (tway, .inr (6, [.int 1, .ref twayA, .int twayS])), (twayA, .inl (kA 0, 6, .inl twayF)), (v0, .inr (9, [.ref snodes, .ref spasses, .ref sjars, .ref sorders, .ref sfeasts, .ref sway, .int sws, .int snow, .int sfm, .int sx])), (snodes, .inr (6, [.int 4, .ref snodesA, .int snodesS])), (snodesA, .inl (kA 0, 48, .inl snodesF)), (spasses, .inr (6, [.int 5, .ref spassesA, .int spassesS])), (spassesA, .inl (kA 0, 100, .inl spassesF)), (sjars, .inr (6, [.int 9, .ref sjarsA, .int sjarsS])), (sjarsA, .inl (kA 0, 144, .inl sjarsF)), (sorders, .inr (6, [.int 4, .ref sordersA, .int sordersS])), (sordersA, .inl (kA 0, 24, .inl sordersF)), (sfeasts, .inr (6, [.int 3, .ref sfeastsA, .int sfeastsS])), (sfeastsA, .inl (kA 0, 24, .inl sfeastsF)), (sway, .inr (6, [.int 1, .ref swayA, .int swayS])), (swayA, .inl (kA 0, 6, .inl swayF))] sz) (fun (u : Int32 × Int32 × Int32 × Int32 × Int32 × (Nat → Int32) × Int32 × (Nat → Int32) × Int32 × (Nat → Int32) × Int32 × (Nat → Int32) × Int32 × (Nat → Int32) × Int32 × (Nat → Int32)) => [(w0, .inr (9, [.ref tnodes, .ref tpasses, .ref tjars, .ref torders, .ref tfeasts, .ref tway, .int u.1, .int u.2.1, .int u.2.2.1, .int u.2.2.2.1])), (tnodes, .inr (6, [.int 4, .ref tnodesA, .int u.2.2.2.2.1])), (tnodesA, .inl (kA 0, 48, .inl u.2.2.2.2.2.1)), (tpasses, .inr (6, [.int 5, .ref tpassesA, .int u.2.2.2.2.2.2.1])), (tpassesA, .inl (kA 0, 100, .inl u.2.2.2.2.2.2.2.1)), (tjars, .inr (6, [.int 9, .ref tjarsA, .int u.2.2.2.2.2.2.2.2.1])), (tjarsA, .inl (kA 0, 144, .inl u.2.2.2.2.2.2.2.2.2.1)), (torders, .inr (6, [.int 4, .ref tordersA, .int u.2.2.2.2.2.2.2.2.2.2.1])), (tordersA, .inl (kA 0, 24, .inl u.2.2.2.2.2.2.2.2.2.2.2.1)), (tfeasts, .inr (6, [.int 3, .ref tfeastsA, .int u.2.2.2.2.2.2.2.2.2.2.2.2.1])), (tfeastsA, .inl (kA 0, 24, .inl u.2.2.2.2.2.2.2.2.2.2.2.2.2.1)), (tway, .inr (6, [.int 1, .ref twayA, .int u.2.2.2.2.2.2.2.2.2.2.2.2.2.2.1])), (twayA, .inl (kA 0, 6, .inl u.2.2.2.2.2.2.2.2.2.2.2.2.2.2.2)), (v0, .inr (9, [.ref snodes, .ref spasses, .ref sjars, .ref sorders, .ref sfeasts, .ref sway, .int sws, .int snow, .int sfm, .int sx])), (snodes, .inr (6, [.int 4, .ref snodesA, .int snodesS])), (snodesA, .inl (kA 0, 48, .inl snodesF)), (spasses, .inr (6, [.int 5, .ref spassesA, .int spassesS])), (spassesA, .inl (kA 0, 100, .inl spassesF)), (sjars, .inr (6, [.int 9, .ref sjarsA, .int sjarsS])), (sjarsA, .inl (kA 0, 144, .inl sjarsF)), (sorders, .inr (6, [.int 4, .ref sordersA, .int sordersS])), (sordersA, .inl (kA 0, 24, .inl sordersF)), (sfeasts, .inr (6, [.int 3, .ref sfeastsA, .int sfeastsS])), (sfeastsA, .inl (kA 0, 24, .inl sfeastsF)), (sway, .inr (6, [.int 1, .ref swayA, .int swayS])), (swayA, .inl (kA 0, 6, .inl swayF))])) (va_A [(w0, .inr (9, [.ref tnodes, .ref tpasses, .ref tjars, .ref torders, .ref tfeasts, .ref tway, .int tws, .int tnow, .int tfm, .int tx])), (tnodes, .inr (6, [.int 4, .ref tnodesA, .int tnodesS])), (tnodesA, .inl (kA 0, 48, .inl tnodesF)), (tpasses, .inr (6, [.int 5, .ref tpassesA, .int tpassesS])), (tpassesA, .inl (kA 0, 100, .inl tpassesF)), (tjars, .inr (6, [.int 9, .ref tjarsA, .int tjarsS])), (tjarsA, .inl (kA 0, 144, .inl tjarsF)), (torders, .inr (6, [.int 4, .ref tordersA, .int tordersS])), (tordersA, .inl (kA 0, 24, .inl tordersF)), (tfeasts, .inr (6, [.int 3, .ref tfeastsA, .int tfeastsS])), (tfeastsA, .inl (kA 0, 24, .inl tfeastsF)), (tway, .inr (6, [.int 1, .ref twayA, .int twayS])), (twayA, .inl (kA 0, 6, .inl twayF)), (v0, .inr (9, [.ref snodes, .ref spasses, .ref sjars, .ref sorders, .ref sfeasts, .ref sway, .int sws, .int snow, .int sfm, .int sx])), (snodes, .inr (6, [.int 4, .ref snodesA, .int snodesS])), (snodesA, .inl (kA 0, 48, .inl snodesF)), (spasses, .inr (6, [.int 5, .ref spassesA, .int spassesS])), (spassesA, .inl (kA 0, 100, .inl spassesF)), (sjars, .inr (6, [.int 9, .ref sjarsA, .int sjarsS])), (sjarsA, .inl (kA 0, 144, .inl sjarsF)), (sorders, .inr (6, [.int 4, .ref sordersA, .int sordersS])), (sordersA, .inl (kA 0, 24, .inl sordersF)), (sfeasts, .inr (6, [.int 3, .ref sfeastsA, .int sfeastsS])), (sfeastsA, .inl (kA 0, 24, .inl sfeastsF)), (sway, .inr (6, [.int 1, .ref swayA, .int swayS])), (swayA, .inl (kA 0, 6, .inl swayF))] sz)) 0 0 (va_A [(w0, .inr (9, [.ref tnodes, .ref tpasses, .ref tjars, .ref torders, .ref tfeasts, .ref tway, .int tws, .int tnow, .int tfm, .int tx])), (tnodes, .inr (6, [.int 4, .ref tnodesA, .int tnodesS])), (tnodesA, .inl (kA 0, 48, .inl tnodesF)), (tpasses, .inr (6, [.int 5, .ref tpassesA, .int tpassesS])), (tpassesA, .inl (kA 0, 100, .inl tpassesF)), (tjars, .inr (6, [.int 9, .ref tjarsA, .int tjarsS])), (tjarsA, .inl (kA 0, 144, .inl tjarsF)), (torders, .inr (6, [.int 4, .ref tordersA, .int tordersS])), (tordersA, .inl (kA 0, 24, .inl tordersF)), (tfeasts, .inr (6, [.int 3, .ref tfeastsA, .int tfeastsS])), (tfeastsA, .inl (kA 0, 24, .inl tfeastsF)), (tway, .inr (6, [.int 1, .ref twayA, .int twayS])), (twayA, .inl (kA 0, 6, .inl twayF)), (v0, .inr (9, [.ref snodes, .ref spasses, .ref sjars, .ref sorders, .ref sfeasts, .ref sway, .int sws, .int snow, .int sfm, .int sx])), (snodes, .inr (6, [.int 4, .ref snodesA, .int snodesS])), (snodesA, .inl (kA 0, 48, .inl snodesF)), (spasses, .inr (6, [.int 5, .ref spassesA, .int spassesS])), (spassesA, .inl (kA 0, 100, .inl spassesF)), (sjars, .inr (6, [.int 9, .ref sjarsA, .int sjarsS])), (sjarsA, .inl (kA 0, 144, .inl sjarsF)), (sorders, .inr (6, [.int 4, .ref sordersA, .int sordersS])), (sordersA, .inl (kA 0, 24, .inl sordersF)), (sfeasts, .inr (6, [.int 3, .ref sfeastsA, .int sfeastsS])), (sfeastsA, .inl (kA 0, 24, .inl sfeastsF)), (sway, .inr (6, [.int 1, .ref swayA, .int swayS])), (swayA, .inl (kA 0, 6, .inl swayF))] sz) := by
  refine Met.ofW (cc := cX9_copyFrom) (maxL := 2) (ret := none) (by decide) rfl ?_
  intro p e s m args below meth c s₁ B hml hv
  obtain ⟨rfl, hsz, hP, hK, hD0⟩ := hv
  have hx := B.exec
  have hb := B.bytes
  have hr := B.returns
  have hts := atoms_spec (ws := wsX9_copyFrom) B.pre
  have hown : s.vm.findClass RX9 = some m.cls := findClass_of_methodNamed B.named
  have hlocks := B.notSynchronized
  subst hsz
  have hD := hD0.self (sz := s.heap.size)
  generalize hAe : va_A [(w0, .inr (9, [.ref tnodes, .ref tpasses, .ref tjars, .ref torders, .ref tfeasts, .ref tway, .int tws, .int tnow, .int tfm, .int tx])), (tnodes, .inr (6, [.int 4, .ref tnodesA, .int tnodesS])), (tnodesA, .inl (kA 0, 48, .inl tnodesF)), (tpasses, .inr (6, [.int 5, .ref tpassesA, .int tpassesS])), (tpassesA, .inl (kA 0, 100, .inl tpassesF)), (tjars, .inr (6, [.int 9, .ref tjarsA, .int tjarsS])), (tjarsA, .inl (kA 0, 144, .inl tjarsF)), (torders, .inr (6, [.int 4, .ref tordersA, .int tordersS])), (tordersA, .inl (kA 0, 24, .inl tordersF)), (tfeasts, .inr (6, [.int 3, .ref tfeastsA, .int tfeastsS])), (tfeastsA, .inl (kA 0, 24, .inl tfeastsF)), (tway, .inr (6, [.int 1, .ref twayA, .int twayS])), (twayA, .inl (kA 0, 6, .inl twayF)), (v0, .inr (9, [.ref snodes, .ref spasses, .ref sjars, .ref sorders, .ref sfeasts, .ref sway, .int sws, .int snow, .int sfm, .int sx])), (snodes, .inr (6, [.int 4, .ref snodesA, .int snodesS])), (snodesA, .inl (kA 0, 48, .inl snodesF)), (spasses, .inr (6, [.int 5, .ref spassesA, .int spassesS])), (spassesA, .inl (kA 0, 100, .inl spassesF)), (sjars, .inr (6, [.int 9, .ref sjarsA, .int sjarsS])), (sjarsA, .inl (kA 0, 144, .inl sjarsF)), (sorders, .inr (6, [.int 4, .ref sordersA, .int sordersS])), (sordersA, .inl (kA 0, 24, .inl sordersF)), (sfeasts, .inr (6, [.int 3, .ref sfeastsA, .int sfeastsS])), (sfeastsA, .inl (kA 0, 24, .inl sfeastsF)), (sway, .inr (6, [.int 1, .ref swayA, .int swayS])), (swayA, .inl (kA 0, 6, .inl swayF))] s.heap.size = A at hD ⊢
  have hA : ∀ q : Nat, s.heap.size ≤ q → A q := fun q h => by rw [← hAe]; exact Or.inr h
  have hS : va_S A s.heap s.heap [] := va_S.rf
  have hP : va_P (dC, dI) vwCl [(w0, .inr (9, [.ref tnodes, .ref tpasses, .ref tjars, .ref torders, .ref tfeasts, .ref tway, .int tws, .int tnow, .int tfm, .int tx])), (tnodes, .inr (6, [.int 4, .ref tnodesA, .int tnodesS])), (tnodesA, .inl (kA 0, 48, .inl tnodesF)), (tpasses, .inr (6, [.int 5, .ref tpassesA, .int tpassesS])), (tpassesA, .inl (kA 0, 100, .inl tpassesF)), (tjars, .inr (6, [.int 9, .ref tjarsA, .int tjarsS])), (tjarsA, .inl (kA 0, 144, .inl tjarsF)), (torders, .inr (6, [.int 4, .ref tordersA, .int tordersS])), (tordersA, .inl (kA 0, 24, .inl tordersF)), (tfeasts, .inr (6, [.int 3, .ref tfeastsA, .int tfeastsS])), (tfeastsA, .inl (kA 0, 24, .inl tfeastsF)), (tway, .inr (6, [.int 1, .ref twayA, .int twayS])), (twayA, .inl (kA 0, 6, .inl twayF)), (v0, .inr (9, [.ref snodes, .ref spasses, .ref sjars, .ref sorders, .ref sfeasts, .ref sway, .int sws, .int snow, .int sfm, .int sx])), (snodes, .inr (6, [.int 4, .ref snodesA, .int snodesS])), (snodesA, .inl (kA 0, 48, .inl snodesF)), (spasses, .inr (6, [.int 5, .ref spassesA, .int spassesS])), (spassesA, .inl (kA 0, 100, .inl spassesF)), (sjars, .inr (6, [.int 9, .ref sjarsA, .int sjarsS])), (sjarsA, .inl (kA 0, 144, .inl sjarsF)), (sorders, .inr (6, [.int 4, .ref sordersA, .int sordersS])), (sordersA, .inl (kA 0, 24, .inl sordersF)), (sfeasts, .inr (6, [.int 3, .ref sfeastsA, .int sfeastsS])), (sfeastsA, .inl (kA 0, 24, .inl sfeastsF)), (sway, .inr (6, [.int 1, .ref swayA, .int swayS])), (swayA, .inl (kA 0, 6, .inl swayF))] s.heap := hP
  have hl := lv_entry ([.ref w0, .ref v0]) (n := 2) (Nat.le_of_ble_eq_true rfl)
  rw [lg_entry_eq]
  generalize (lg_sl ([.ref w0, .ref v0]) ++ List.replicate (2 - (lg_sl ([.ref w0, .ref v0])).length) Slot.unset).toArray = ls at hl ⊢
  have hl : lv_has ls 2 [(0, .ref w0), (1, .ref v0)] := hl
  obtain ⟨G, hG0⟩ : ∃ G : Int32 × Int32 × Int32 × Int32 × Int32 × (Nat → Int32) × Int32 × (Nat → Int32) × Int32 × (Nat → Int32) × Int32 × (Nat → Int32) × Int32 × (Nat → Int32) × Int32 × (Nat → Int32), fX9_copyFrom tnodesF tpassesF tjarsF tordersF tfeastsF twayF snodesS snodesF spassesS spassesF sjarsS sjarsF sordersS sordersF sfeastsS sfeastsF swayS swayF sws snow sfm sx = G := ⟨_, rfl⟩
  have hG := hG0
  unfold fX9_copyFrom at hG
  refine lv_aload_n hx hb dX9_copyFrom_0 rfl (lv_at hl 0 rfl) ?_
  refine va_get (D := (dC, dI)) (ci := 9) (v := .ref tnodes) (C := RX9) (T := TX9) (N := 10) hx hb hts iX9_copyFrom_X9 hown hK.1 hP 0 rfl rfl 0 (by decide) (kX9_copyFrom_1 hts) (fun _ h9 => h9) rfl dX9_copyFrom_1 ?_
  refine lv_aload_n hx hb dX9_copyFrom_4 rfl (lv_at hl 1 rfl) ?_
  refine va_get (D := (dC, dI)) (ci := 9) (v := .ref snodes) (C := RX9) (T := TX9) (N := 10) hx hb hts iX9_copyFrom_X9 hown hK.1 hP 13 rfl rfl 0 (by decide) (kX9_copyFrom_1 hts) (fun _ h9 => h9) rfl dX9_copyFrom_5 ?_
  refine z_v (wr := [(w0, .inr (9, [.ref tnodes, .ref tpasses, .ref tjars, .ref torders, .ref tfeasts, .ref tway, .int tws, .int tnow, .int tfm, .int tx])), (tpasses, .inr (6, [.int 5, .ref tpassesA, .int tpassesS])), (tpassesA, .inl (kA 0, 100, .inl tpassesF)), (tjars, .inr (6, [.int 9, .ref tjarsA, .int tjarsS])), (tjarsA, .inl (kA 0, 144, .inl tjarsF)), (torders, .inr (6, [.int 4, .ref tordersA, .int tordersS])), (tordersA, .inl (kA 0, 24, .inl tordersF)), (tfeasts, .inr (6, [.int 3, .ref tfeastsA, .int tfeastsS])), (tfeastsA, .inl (kA 0, 24, .inl tfeastsF)), (tway, .inr (6, [.int 1, .ref twayA, .int twayS])), (twayA, .inl (kA 0, 6, .inl twayF)), (v0, .inr (9, [.ref snodes, .ref spasses, .ref sjars, .ref sorders, .ref sfeasts, .ref sway, .int sws, .int snow, .int sfm, .int sx])), (spasses, .inr (6, [.int 5, .ref spassesA, .int spassesS])), (spassesA, .inl (kA 0, 100, .inl spassesF)), (sjars, .inr (6, [.int 9, .ref sjarsA, .int sjarsS])), (sjarsA, .inl (kA 0, 144, .inl sjarsF)), (sorders, .inr (6, [.int 4, .ref sordersA, .int sordersS])), (sordersA, .inl (kA 0, 24, .inl sordersF)), (sfeasts, .inr (6, [.int 3, .ref sfeastsA, .int sfeastsS])), (sfeastsA, .inl (kA 0, 24, .inl sfeastsF)), (sway, .inr (6, [.int 1, .ref swayA, .int swayS])), (swayA, .inl (kA 0, 6, .inl swayF))]) (va_runV (As := [.ref snodes]) (rest := []) ⟨hx, hb, hml, hown, hts⟩ (mX6_copyFrom_48 l dC dI kA _ tnodes tnodesA 4 tnodesS tnodesF snodes snodesA 4 snodesS snodesF) (cwV 1 hts gX9_copyFrom_X6_copyFrom rfl rfl rfl ⟨rfl, hdX6_copyFrom⟩ ⟨(Nat.le_of_ble_eq_true rfl), (Nat.le_of_ble_eq_true rfl)⟩) ⟨zPc.blind, va_recv hK.1 hP (ci := 6) (q0 := 1) rfl rfl, zPre hK (hP.sub [1, 2, 14, 15] rfl) (hD.sub [1, 2, 14, 15] (by decide) rfl)⟩ rfl rfl hl.1 rfl (lv_room (Nat.le_of_ble_eq_true rfl)) dX9_copyFrom_8 ⟨(Nat.le_of_ble_eq_true rfl), (Nat.le_of_ble_eq_true rfl)⟩) hP hD hS hA [1, 2, 14, 15] [0, 3, 4, 5, 6, 7, 8, 9, 10, 11, 12, 13, 16, 17, 18, 19, 20, 21, 22, 23, 24, 25] rfl rfl (by decide) (by decide) (fun u1 H locs hw2 hP hD hS => ?_)
  obtain ⟨o4, o5⟩ := u1
  have hp6 := hw2
  obtain ⟨q7, eq7⟩ : ∃ y : Int32 × (Nat → Int32), y = fX6_copyFrom_48 tnodesF snodesS snodesF := ⟨_, rfl⟩
  have hG := zbnd hG eq7
  have eo4 : o4 = q7.1 := by rw [eq7]; exact congrArg (fun z : Int32 × (Nat → Int32) => z.1) hp6
  have hG := zbnd hG eo4
  have eo5 : o5 = q7.2 := by rw [eq7]; exact congrArg (fun z : Int32 × (Nat → Int32) => z.2) hp6
  have hG := zbnd hG eo5
  obtain ⟨hP, hD⟩ := z_re (L := [(w0, .inr (9, [.ref tnodes, .ref tpasses, .ref tjars, .ref torders, .ref tfeasts, .ref tway, .int tws, .int tnow, .int tfm, .int tx])), (tpasses, .inr (6, [.int 5, .ref tpassesA, .int tpassesS])), (tpassesA, .inl (kA 0, 100, .inl tpassesF)), (tjars, .inr (6, [.int 9, .ref tjarsA, .int tjarsS])), (tjarsA, .inl (kA 0, 144, .inl tjarsF)), (torders, .inr (6, [.int 4, .ref tordersA, .int tordersS])), (tordersA, .inl (kA 0, 24, .inl tordersF)), (tfeasts, .inr (6, [.int 3, .ref tfeastsA, .int tfeastsS])), (tfeastsA, .inl (kA 0, 24, .inl tfeastsF)), (tway, .inr (6, [.int 1, .ref twayA, .int twayS])), (twayA, .inl (kA 0, 6, .inl twayF)), (v0, .inr (9, [.ref snodes, .ref spasses, .ref sjars, .ref sorders, .ref sfeasts, .ref sway, .int sws, .int snow, .int sfm, .int sx])), (spasses, .inr (6, [.int 5, .ref spassesA, .int spassesS])), (spassesA, .inl (kA 0, 100, .inl spassesF)), (sjars, .inr (6, [.int 9, .ref sjarsA, .int sjarsS])), (sjarsA, .inl (kA 0, 144, .inl sjarsF)), (sorders, .inr (6, [.int 4, .ref sordersA, .int sordersS])), (sordersA, .inl (kA 0, 24, .inl sordersF)), (sfeasts, .inr (6, [.int 3, .ref sfeastsA, .int sfeastsS])), (sfeastsA, .inl (kA 0, 24, .inl sfeastsF)), (sway, .inr (6, [.int 1, .ref swayA, .int swayS])), (swayA, .inl (kA 0, 6, .inl swayF)), (tnodes, .inr (6, [.int 4, .ref tnodesA, .int o4])), (tnodesA, .inl (kA 0, 48, .inl o5)), (snodes, .inr (6, [.int 4, .ref snodesA, .int snodesS])), (snodesA, .inl (kA 0, 48, .inl snodesF))]) hP hD
  refine lv_aload_n hx hb dX9_copyFrom_11 rfl (lv_at hl 0 rfl) ?_
  refine va_get (D := (dC, dI)) (ci := 9) (v := .ref tpasses) (C := RX9) (T := TX9) (N := 10) hx hb hts iX9_copyFrom_X9 hown hK.1 hP 0 rfl rfl 1 (by decide) (kX9_copyFrom_2 hts) (fun _ h9 => h9) rfl dX9_copyFrom_12 ?_
  refine lv_aload_n hx hb dX9_copyFrom_15 rfl (lv_at hl 1 rfl) ?_
  refine va_get (D := (dC, dI)) (ci := 9) (v := .ref spasses) (C := RX9) (T := TX9) (N := 10) hx hb hts iX9_copyFrom_X9 hown hK.1 hP 11 rfl rfl 1 (by decide) (kX9_copyFrom_2 hts) (fun _ h9 => h9) rfl dX9_copyFrom_16 ?_
  refine z_v (wr := [(w0, .inr (9, [.ref tnodes, .ref tpasses, .ref tjars, .ref torders, .ref tfeasts, .ref tway, .int tws, .int tnow, .int tfm, .int tx])), (tjars, .inr (6, [.int 9, .ref tjarsA, .int tjarsS])), (tjarsA, .inl (kA 0, 144, .inl tjarsF)), (torders, .inr (6, [.int 4, .ref tordersA, .int tordersS])), (tordersA, .inl (kA 0, 24, .inl tordersF)), (tfeasts, .inr (6, [.int 3, .ref tfeastsA, .int tfeastsS])), (tfeastsA, .inl (kA 0, 24, .inl tfeastsF)), (tway, .inr (6, [.int 1, .ref twayA, .int twayS])), (twayA, .inl (kA 0, 6, .inl twayF)), (v0, .inr (9, [.ref snodes, .ref spasses, .ref sjars, .ref sorders, .ref sfeasts, .ref sway, .int sws, .int snow, .int sfm, .int sx])), (sjars, .inr (6, [.int 9, .ref sjarsA, .int sjarsS])), (sjarsA, .inl (kA 0, 144, .inl sjarsF)), (sorders, .inr (6, [.int 4, .ref sordersA, .int sordersS])), (sordersA, .inl (kA 0, 24, .inl sordersF)), (sfeasts, .inr (6, [.int 3, .ref sfeastsA, .int sfeastsS])), (sfeastsA, .inl (kA 0, 24, .inl sfeastsF)), (sway, .inr (6, [.int 1, .ref swayA, .int swayS])), (swayA, .inl (kA 0, 6, .inl swayF)), (tnodes, .inr (6, [.int 4, .ref tnodesA, .int o4])), (tnodesA, .inl (kA 0, 48, .inl o5)), (snodes, .inr (6, [.int 4, .ref snodesA, .int snodesS])), (snodesA, .inl (kA 0, 48, .inl snodesF))]) (va_runV (As := [.ref spasses]) (rest := []) ⟨hx, hb, hml, hown, hts⟩ (mX6_copyFrom_100 l dC dI kA _ tpasses tpassesA 5 tpassesS tpassesF spasses spassesA 5 spassesS spassesF) (cwV 1 hts gX9_copyFrom_X6_copyFrom rfl rfl rfl ⟨rfl, hdX6_copyFrom⟩ ⟨(Nat.le_of_ble_eq_true rfl), (Nat.le_of_ble_eq_true rfl)⟩) ⟨zPc.blind, va_recv hK.1 hP (ci := 6) (q0 := 1) rfl rfl, zPre hK (hP.sub [1, 2, 12, 13] rfl) (hD.sub [1, 2, 12, 13] (by decide) rfl)⟩ rfl rfl hl.1 rfl (lv_room (Nat.le_of_ble_eq_true rfl)) dX9_copyFrom_19 ⟨(Nat.le_of_ble_eq_true rfl), (Nat.le_of_ble_eq_true rfl)⟩) hP hD hS hA [1, 2, 12, 13] [0, 3, 4, 5, 6, 7, 8, 9, 10, 11, 14, 15, 16, 17, 18, 19, 20, 21, 22, 23, 24, 25] rfl rfl (by decide) (by decide) (fun u8 H locs hw9 hP hD hS => ?_)
  obtain ⟨o11, o12⟩ := u8
  have hp13 := hw9
  obtain ⟨q14, eq14⟩ : ∃ y : Int32 × (Nat → Int32), y = fX6_copyFrom_100 tpassesF spassesS spassesF := ⟨_, rfl⟩
  have hG := zbnd hG eq14
  have eo11 : o11 = q14.1 := by rw [eq14]; exact congrArg (fun z : Int32 × (Nat → Int32) => z.1) hp13
  have hG := zbnd hG eo11
  have eo12 : o12 = q14.2 := by rw [eq14]; exact congrArg (fun z : Int32 × (Nat → Int32) => z.2) hp13
  have hG := zbnd hG eo12
  obtain ⟨hP, hD⟩ := z_re (L := [(w0, .inr (9, [.ref tnodes, .ref tpasses, .ref tjars, .ref torders, .ref tfeasts, .ref tway, .int tws, .int tnow, .int tfm, .int tx])), (tjars, .inr (6, [.int 9, .ref tjarsA, .int tjarsS])), (tjarsA, .inl (kA 0, 144, .inl tjarsF)), (torders, .inr (6, [.int 4, .ref tordersA, .int tordersS])), (tordersA, .inl (kA 0, 24, .inl tordersF)), (tfeasts, .inr (6, [.int 3, .ref tfeastsA, .int tfeastsS])), (tfeastsA, .inl (kA 0, 24, .inl tfeastsF)), (tway, .inr (6, [.int 1, .ref twayA, .int twayS])), (twayA, .inl (kA 0, 6, .inl twayF)), (v0, .inr (9, [.ref snodes, .ref spasses, .ref sjars, .ref sorders, .ref sfeasts, .ref sway, .int sws, .int snow, .int sfm, .int sx])), (sjars, .inr (6, [.int 9, .ref sjarsA, .int sjarsS])), (sjarsA, .inl (kA 0, 144, .inl sjarsF)), (sorders, .inr (6, [.int 4, .ref sordersA, .int sordersS])), (sordersA, .inl (kA 0, 24, .inl sordersF)), (sfeasts, .inr (6, [.int 3, .ref sfeastsA, .int sfeastsS])), (sfeastsA, .inl (kA 0, 24, .inl sfeastsF)), (sway, .inr (6, [.int 1, .ref swayA, .int swayS])), (swayA, .inl (kA 0, 6, .inl swayF)), (tnodes, .inr (6, [.int 4, .ref tnodesA, .int o4])), (tnodesA, .inl (kA 0, 48, .inl o5)), (snodes, .inr (6, [.int 4, .ref snodesA, .int snodesS])), (snodesA, .inl (kA 0, 48, .inl snodesF)), (tpasses, .inr (6, [.int 5, .ref tpassesA, .int o11])), (tpassesA, .inl (kA 0, 100, .inl o12)), (spasses, .inr (6, [.int 5, .ref spassesA, .int spassesS])), (spassesA, .inl (kA 0, 100, .inl spassesF))]) hP hD
  refine lv_aload_n hx hb dX9_copyFrom_22 rfl (lv_at hl 0 rfl) ?_
  refine va_get (D := (dC, dI)) (ci := 9) (v := .ref tjars) (C := RX9) (T := TX9) (N := 10) hx hb hts iX9_copyFrom_X9 hown hK.1 hP 0 rfl rfl 2 (by decide) (kX9_copyFrom_3 hts) (fun _ h9 => h9) rfl dX9_copyFrom_23 ?_
  refine lv_aload_n hx hb dX9_copyFrom_26 rfl (lv_at hl 1 rfl) ?_
  refine va_get (D := (dC, dI)) (ci := 9) (v := .ref sjars) (C := RX9) (T := TX9) (N := 10) hx hb hts iX9_copyFrom_X9 hown hK.1 hP 9 rfl rfl 2 (by decide) (kX9_copyFrom_3 hts) (fun _ h9 => h9) rfl dX9_copyFrom_27 ?_
  refine z_v (wr := [(w0, .inr (9, [.ref tnodes, .ref tpasses, .ref tjars, .ref torders, .ref tfeasts, .ref tway, .int tws, .int tnow, .int tfm, .int tx])), (torders, .inr (6, [.int 4, .ref tordersA, .int tordersS])), (tordersA, .inl (kA 0, 24, .inl tordersF)), (tfeasts, .inr (6, [.int 3, .ref tfeastsA, .int tfeastsS])), (tfeastsA, .inl (kA 0, 24, .inl tfeastsF)), (tway, .inr (6, [.int 1, .ref twayA, .int twayS])), (twayA, .inl (kA 0, 6, .inl twayF)), (v0, .inr (9, [.ref snodes, .ref spasses, .ref sjars, .ref sorders, .ref sfeasts, .ref sway, .int sws, .int snow, .int sfm, .int sx])), (sorders, .inr (6, [.int 4, .ref sordersA, .int sordersS])), (sordersA, .inl (kA 0, 24, .inl sordersF)), (sfeasts, .inr (6, [.int 3, .ref sfeastsA, .int sfeastsS])), (sfeastsA, .inl (kA 0, 24, .inl sfeastsF)), (sway, .inr (6, [.int 1, .ref swayA, .int swayS])), (swayA, .inl (kA 0, 6, .inl swayF)), (tnodes, .inr (6, [.int 4, .ref tnodesA, .int o4])), (tnodesA, .inl (kA 0, 48, .inl o5)), (snodes, .inr (6, [.int 4, .ref snodesA, .int snodesS])), (snodesA, .inl (kA 0, 48, .inl snodesF)), (tpasses, .inr (6, [.int 5, .ref tpassesA, .int o11])), (tpassesA, .inl (kA 0, 100, .inl o12)), (spasses, .inr (6, [.int 5, .ref spassesA, .int spassesS])), (spassesA, .inl (kA 0, 100, .inl spassesF))]) (va_runV (As := [.ref sjars]) (rest := []) ⟨hx, hb, hml, hown, hts⟩ (mX6_copyFrom_144 l dC dI kA _ tjars tjarsA 9 tjarsS tjarsF sjars sjarsA 9 sjarsS sjarsF) (cwV 1 hts gX9_copyFrom_X6_copyFrom rfl rfl rfl ⟨rfl, hdX6_copyFrom⟩ ⟨(Nat.le_of_ble_eq_true rfl), (Nat.le_of_ble_eq_true rfl)⟩) ⟨zPc.blind, va_recv hK.1 hP (ci := 6) (q0 := 1) rfl rfl, zPre hK (hP.sub [1, 2, 10, 11] rfl) (hD.sub [1, 2, 10, 11] (by decide) rfl)⟩ rfl rfl hl.1 rfl (lv_room (Nat.le_of_ble_eq_true rfl)) dX9_copyFrom_30 ⟨(Nat.le_of_ble_eq_true rfl), (Nat.le_of_ble_eq_true rfl)⟩) hP hD hS hA [1, 2, 10, 11] [0, 3, 4, 5, 6, 7, 8, 9, 12, 13, 14, 15, 16, 17, 18, 19, 20, 21, 22, 23, 24, 25] rfl rfl (by decide) (by decide) (fun u15 H locs hw16 hP hD hS => ?_)
  obtain ⟨o18, o19⟩ := u15
  have hp20 := hw16
  obtain ⟨q21, eq21⟩ : ∃ y : Int32 × (Nat → Int32), y = fX6_copyFrom_144 tjarsF sjarsS sjarsF := ⟨_, rfl⟩
  have hG := zbnd hG eq21
  have eo18 : o18 = q21.1 := by rw [eq21]; exact congrArg (fun z : Int32 × (Nat → Int32) => z.1) hp20
  have hG := zbnd hG eo18
  have eo19 : o19 = q21.2 := by rw [eq21]; exact congrArg (fun z : Int32 × (Nat → Int32) => z.2) hp20
  have hG := zbnd hG eo19
  obtain ⟨hP, hD⟩ := z_re (L := [(w0, .inr (9, [.ref tnodes, .ref tpasses, .ref tjars, .ref torders, .ref tfeasts, .ref tway, .int tws, .int tnow, .int tfm, .int tx])), (torders, .inr (6, [.int 4, .ref tordersA, .int tordersS])), (tordersA, .inl (kA 0, 24, .inl tordersF)), (tfeasts, .inr (6, [.int 3, .ref tfeastsA, .int tfeastsS])), (tfeastsA, .inl (kA 0, 24, .inl tfeastsF)), (tway, .inr (6, [.int 1, .ref twayA, .int twayS])), (twayA, .inl (kA 0, 6, .inl twayF)), (v0, .inr (9, [.ref snodes, .ref spasses, .ref sjars, .ref sorders, .ref sfeasts, .ref sway, .int sws, .int snow, .int sfm, .int sx])), (sorders, .inr (6, [.int 4, .ref sordersA, .int sordersS])), (sordersA, .inl (kA 0, 24, .inl sordersF)), (sfeasts, .inr (6, [.int 3, .ref sfeastsA, .int sfeastsS])), (sfeastsA, .inl (kA 0, 24, .inl sfeastsF)), (sway, .inr (6, [.int 1, .ref swayA, .int swayS])), (swayA, .inl (kA 0, 6, .inl swayF)), (tnodes, .inr (6, [.int 4, .ref tnodesA, .int o4])), (tnodesA, .inl (kA 0, 48, .inl o5)), (snodes, .inr (6, [.int 4, .ref snodesA, .int snodesS])), (snodesA, .inl (kA 0, 48, .inl snodesF)), (tpasses, .inr (6, [.int 5, .ref tpassesA, .int o11])), (tpassesA, .inl (kA 0, 100, .inl o12)), (spasses, .inr (6, [.int 5, .ref spassesA, .int spassesS])), (spassesA, .inl (kA 0, 100, .inl spassesF)), (tjars, .inr (6, [.int 9, .ref tjarsA, .int o18])), (tjarsA, .inl (kA 0, 144, .inl o19)), (sjars, .inr (6, [.int 9, .ref sjarsA, .int sjarsS])), (sjarsA, .inl (kA 0, 144, .inl sjarsF))]) hP hD
  refine lv_aload_n hx hb dX9_copyFrom_33 rfl (lv_at hl 0 rfl) ?_
  refine va_get (D := (dC, dI)) (ci := 9) (v := .ref torders) (C := RX9) (T := TX9) (N := 10) hx hb hts iX9_copyFrom_X9 hown hK.1 hP 0 rfl rfl 3 (by decide) (kX9_copyFrom_4 hts) (fun _ h9 => h9) rfl dX9_copyFrom_34 ?_
  refine lv_aload_n hx hb dX9_copyFrom_37 rfl (lv_at hl 1 rfl) ?_
  refine va_get (D := (dC, dI)) (ci := 9) (v := .ref sorders) (C := RX9) (T := TX9) (N := 10) hx hb hts iX9_copyFrom_X9 hown hK.1 hP 7 rfl rfl 3 (by decide) (kX9_copyFrom_4 hts) (fun _ h9 => h9) rfl dX9_copyFrom_38 ?_
  refine z_v (wr := [(w0, .inr (9, [.ref tnodes, .ref tpasses, .ref tjars, .ref torders, .ref tfeasts, .ref tway, .int tws, .int tnow, .int tfm, .int tx])), (tfeasts, .inr (6, [.int 3, .ref tfeastsA, .int tfeastsS])), (tfeastsA, .inl (kA 0, 24, .inl tfeastsF)), (tway, .inr (6, [.int 1, .ref twayA, .int twayS])), (twayA, .inl (kA 0, 6, .inl twayF)), (v0, .inr (9, [.ref snodes, .ref spasses, .ref sjars, .ref sorders, .ref sfeasts, .ref sway, .int sws, .int snow, .int sfm, .int sx])), (sfeasts, .inr (6, [.int 3, .ref sfeastsA, .int sfeastsS])), (sfeastsA, .inl (kA 0, 24, .inl sfeastsF)), (sway, .inr (6, [.int 1, .ref swayA, .int swayS])), (swayA, .inl (kA 0, 6, .inl swayF)), (tnodes, .inr (6, [.int 4, .ref tnodesA, .int o4])), (tnodesA, .inl (kA 0, 48, .inl o5)), (snodes, .inr (6, [.int 4, .ref snodesA, .int snodesS])), (snodesA, .inl (kA 0, 48, .inl snodesF)), (tpasses, .inr (6, [.int 5, .ref tpassesA, .int o11])), (tpassesA, .inl (kA 0, 100, .inl o12)), (spasses, .inr (6, [.int 5, .ref spassesA, .int spassesS])), (spassesA, .inl (kA 0, 100, .inl spassesF)), (tjars, .inr (6, [.int 9, .ref tjarsA, .int o18])), (tjarsA, .inl (kA 0, 144, .inl o19)), (sjars, .inr (6, [.int 9, .ref sjarsA, .int sjarsS])), (sjarsA, .inl (kA 0, 144, .inl sjarsF))]) (va_runV (As := [.ref sorders]) (rest := []) ⟨hx, hb, hml, hown, hts⟩ (mX6_copyFrom_24 l dC dI kA _ torders tordersA 4 tordersS tordersF sorders sordersA 4 sordersS sordersF) (cwV 1 hts gX9_copyFrom_X6_copyFrom rfl rfl rfl ⟨rfl, hdX6_copyFrom⟩ ⟨(Nat.le_of_ble_eq_true rfl), (Nat.le_of_ble_eq_true rfl)⟩) ⟨zPc.blind, va_recv hK.1 hP (ci := 6) (q0 := 1) rfl rfl, zPre hK (hP.sub [1, 2, 8, 9] rfl) (hD.sub [1, 2, 8, 9] (by decide) rfl)⟩ rfl rfl hl.1 rfl (lv_room (Nat.le_of_ble_eq_true rfl)) dX9_copyFrom_41 ⟨(Nat.le_of_ble_eq_true rfl), (Nat.le_of_ble_eq_true rfl)⟩) hP hD hS hA [1, 2, 8, 9] [0, 3, 4, 5, 6, 7, 10, 11, 12, 13, 14, 15, 16, 17, 18, 19, 20, 21, 22, 23, 24, 25] rfl rfl (by decide) (by decide) (fun u22 H locs hw23 hP hD hS => ?_)
  obtain ⟨o25, o26⟩ := u22
  have hp27 := hw23
  obtain ⟨q28, eq28⟩ : ∃ y : Int32 × (Nat → Int32), y = fX6_copyFrom_24 tordersF sordersS sordersF := ⟨_, rfl⟩
  have hG := zbnd hG eq28
  have eo25 : o25 = q28.1 := by rw [eq28]; exact congrArg (fun z : Int32 × (Nat → Int32) => z.1) hp27
  have hG := zbnd hG eo25
  have eo26 : o26 = q28.2 := by rw [eq28]; exact congrArg (fun z : Int32 × (Nat → Int32) => z.2) hp27
  have hG := zbnd hG eo26
  obtain ⟨hP, hD⟩ := z_re (L := [(w0, .inr (9, [.ref tnodes, .ref tpasses, .ref tjars, .ref torders, .ref tfeasts, .ref tway, .int tws, .int tnow, .int tfm, .int tx])), (tfeasts, .inr (6, [.int 3, .ref tfeastsA, .int tfeastsS])), (tfeastsA, .inl (kA 0, 24, .inl tfeastsF)), (tway, .inr (6, [.int 1, .ref twayA, .int twayS])), (twayA, .inl (kA 0, 6, .inl twayF)), (v0, .inr (9, [.ref snodes, .ref spasses, .ref sjars, .ref sorders, .ref sfeasts, .ref sway, .int sws, .int snow, .int sfm, .int sx])), (sfeasts, .inr (6, [.int 3, .ref sfeastsA, .int sfeastsS])), (sfeastsA, .inl (kA 0, 24, .inl sfeastsF)), (sway, .inr (6, [.int 1, .ref swayA, .int swayS])), (swayA, .inl (kA 0, 6, .inl swayF)), (tnodes, .inr (6, [.int 4, .ref tnodesA, .int o4])), (tnodesA, .inl (kA 0, 48, .inl o5)), (snodes, .inr (6, [.int 4, .ref snodesA, .int snodesS])), (snodesA, .inl (kA 0, 48, .inl snodesF)), (tpasses, .inr (6, [.int 5, .ref tpassesA, .int o11])), (tpassesA, .inl (kA 0, 100, .inl o12)), (spasses, .inr (6, [.int 5, .ref spassesA, .int spassesS])), (spassesA, .inl (kA 0, 100, .inl spassesF)), (tjars, .inr (6, [.int 9, .ref tjarsA, .int o18])), (tjarsA, .inl (kA 0, 144, .inl o19)), (sjars, .inr (6, [.int 9, .ref sjarsA, .int sjarsS])), (sjarsA, .inl (kA 0, 144, .inl sjarsF)), (torders, .inr (6, [.int 4, .ref tordersA, .int o25])), (tordersA, .inl (kA 0, 24, .inl o26)), (sorders, .inr (6, [.int 4, .ref sordersA, .int sordersS])), (sordersA, .inl (kA 0, 24, .inl sordersF))]) hP hD
  refine lv_aload_n hx hb dX9_copyFrom_44 rfl (lv_at hl 0 rfl) ?_
  refine va_get (D := (dC, dI)) (ci := 9) (v := .ref tfeasts) (C := RX9) (T := TX9) (N := 10) hx hb hts iX9_copyFrom_X9 hown hK.1 hP 0 rfl rfl 4 (by decide) (kX9_copyFrom_5 hts) (fun _ h9 => h9) rfl dX9_copyFrom_45 ?_
  refine lv_aload_n hx hb dX9_copyFrom_48 rfl (lv_at hl 1 rfl) ?_
  refine va_get (D := (dC, dI)) (ci := 9) (v := .ref sfeasts) (C := RX9) (T := TX9) (N := 10) hx hb hts iX9_copyFrom_X9 hown hK.1 hP 5 rfl rfl 4 (by decide) (kX9_copyFrom_5 hts) (fun _ h9 => h9) rfl dX9_copyFrom_49 ?_
  refine z_v (wr := [(w0, .inr (9, [.ref tnodes, .ref tpasses, .ref tjars, .ref torders, .ref tfeasts, .ref tway, .int tws, .int tnow, .int tfm, .int tx])), (tway, .inr (6, [.int 1, .ref twayA, .int twayS])), (twayA, .inl (kA 0, 6, .inl twayF)), (v0, .inr (9, [.ref snodes, .ref spasses, .ref sjars, .ref sorders, .ref sfeasts, .ref sway, .int sws, .int snow, .int sfm, .int sx])), (sway, .inr (6, [.int 1, .ref swayA, .int swayS])), (swayA, .inl (kA 0, 6, .inl swayF)), (tnodes, .inr (6, [.int 4, .ref tnodesA, .int o4])), (tnodesA, .inl (kA 0, 48, .inl o5)), (snodes, .inr (6, [.int 4, .ref snodesA, .int snodesS])), (snodesA, .inl (kA 0, 48, .inl snodesF)), (tpasses, .inr (6, [.int 5, .ref tpassesA, .int o11])), (tpassesA, .inl (kA 0, 100, .inl o12)), (spasses, .inr (6, [.int 5, .ref spassesA, .int spassesS])), (spassesA, .inl (kA 0, 100, .inl spassesF)), (tjars, .inr (6, [.int 9, .ref tjarsA, .int o18])), (tjarsA, .inl (kA 0, 144, .inl o19)), (sjars, .inr (6, [.int 9, .ref sjarsA, .int sjarsS])), (sjarsA, .inl (kA 0, 144, .inl sjarsF)), (torders, .inr (6, [.int 4, .ref tordersA, .int o25])), (tordersA, .inl (kA 0, 24, .inl o26)), (sorders, .inr (6, [.int 4, .ref sordersA, .int sordersS])), (sordersA, .inl (kA 0, 24, .inl sordersF))]) (va_runV (As := [.ref sfeasts]) (rest := []) ⟨hx, hb, hml, hown, hts⟩ (mX6_copyFrom_24 l dC dI kA _ tfeasts tfeastsA 3 tfeastsS tfeastsF sfeasts sfeastsA 3 sfeastsS sfeastsF) (cwV 1 hts gX9_copyFrom_X6_copyFrom rfl rfl rfl ⟨rfl, hdX6_copyFrom⟩ ⟨(Nat.le_of_ble_eq_true rfl), (Nat.le_of_ble_eq_true rfl)⟩) ⟨zPc.blind, va_recv hK.1 hP (ci := 6) (q0 := 1) rfl rfl, zPre hK (hP.sub [1, 2, 6, 7] rfl) (hD.sub [1, 2, 6, 7] (by decide) rfl)⟩ rfl rfl hl.1 rfl (lv_room (Nat.le_of_ble_eq_true rfl)) dX9_copyFrom_52 ⟨(Nat.le_of_ble_eq_true rfl), (Nat.le_of_ble_eq_true rfl)⟩) hP hD hS hA [1, 2, 6, 7] [0, 3, 4, 5, 8, 9, 10, 11, 12, 13, 14, 15, 16, 17, 18, 19, 20, 21, 22, 23, 24, 25] rfl rfl (by decide) (by decide) (fun u29 H locs hw30 hP hD hS => ?_)
  obtain ⟨o32, o33⟩ := u29
  have hp34 := hw30
  obtain ⟨q35, eq35⟩ : ∃ y : Int32 × (Nat → Int32), y = fX6_copyFrom_24 tfeastsF sfeastsS sfeastsF := ⟨_, rfl⟩
  have hG := zbnd hG eq35
  have eo32 : o32 = q35.1 := by rw [eq35]; exact congrArg (fun z : Int32 × (Nat → Int32) => z.1) hp34
  have hG := zbnd hG eo32
  have eo33 : o33 = q35.2 := by rw [eq35]; exact congrArg (fun z : Int32 × (Nat → Int32) => z.2) hp34
  have hG := zbnd hG eo33
  obtain ⟨hP, hD⟩ := z_re (L := [(w0, .inr (9, [.ref tnodes, .ref tpasses, .ref tjars, .ref torders, .ref tfeasts, .ref tway, .int tws, .int tnow, .int tfm, .int tx])), (tway, .inr (6, [.int 1, .ref twayA, .int twayS])), (twayA, .inl (kA 0, 6, .inl twayF)), (v0, .inr (9, [.ref snodes, .ref spasses, .ref sjars, .ref sorders, .ref sfeasts, .ref sway, .int sws, .int snow, .int sfm, .int sx])), (sway, .inr (6, [.int 1, .ref swayA, .int swayS])), (swayA, .inl (kA 0, 6, .inl swayF)), (tnodes, .inr (6, [.int 4, .ref tnodesA, .int o4])), (tnodesA, .inl (kA 0, 48, .inl o5)), (snodes, .inr (6, [.int 4, .ref snodesA, .int snodesS])), (snodesA, .inl (kA 0, 48, .inl snodesF)), (tpasses, .inr (6, [.int 5, .ref tpassesA, .int o11])), (tpassesA, .inl (kA 0, 100, .inl o12)), (spasses, .inr (6, [.int 5, .ref spassesA, .int spassesS])), (spassesA, .inl (kA 0, 100, .inl spassesF)), (tjars, .inr (6, [.int 9, .ref tjarsA, .int o18])), (tjarsA, .inl (kA 0, 144, .inl o19)), (sjars, .inr (6, [.int 9, .ref sjarsA, .int sjarsS])), (sjarsA, .inl (kA 0, 144, .inl sjarsF)), (torders, .inr (6, [.int 4, .ref tordersA, .int o25])), (tordersA, .inl (kA 0, 24, .inl o26)), (sorders, .inr (6, [.int 4, .ref sordersA, .int sordersS])), (sordersA, .inl (kA 0, 24, .inl sordersF)), (tfeasts, .inr (6, [.int 3, .ref tfeastsA, .int o32])), (tfeastsA, .inl (kA 0, 24, .inl o33)), (sfeasts, .inr (6, [.int 3, .ref sfeastsA, .int sfeastsS])), (sfeastsA, .inl (kA 0, 24, .inl sfeastsF))]) hP hD
  refine lv_aload_n hx hb dX9_copyFrom_55 rfl (lv_at hl 0 rfl) ?_
  refine va_get (D := (dC, dI)) (ci := 9) (v := .ref tway) (C := RX9) (T := TX9) (N := 10) hx hb hts iX9_copyFrom_X9 hown hK.1 hP 0 rfl rfl 5 (by decide) (kX9_copyFrom_6 hts) (fun _ h9 => h9) rfl dX9_copyFrom_56 ?_
  refine lv_aload_n hx hb dX9_copyFrom_59 rfl (lv_at hl 1 rfl) ?_
  refine va_get (D := (dC, dI)) (ci := 9) (v := .ref sway) (C := RX9) (T := TX9) (N := 10) hx hb hts iX9_copyFrom_X9 hown hK.1 hP 3 rfl rfl 5 (by decide) (kX9_copyFrom_6 hts) (fun _ h9 => h9) rfl dX9_copyFrom_60 ?_
  refine z_v (wr := [(w0, .inr (9, [.ref tnodes, .ref tpasses, .ref tjars, .ref torders, .ref tfeasts, .ref tway, .int tws, .int tnow, .int tfm, .int tx])), (v0, .inr (9, [.ref snodes, .ref spasses, .ref sjars, .ref sorders, .ref sfeasts, .ref sway, .int sws, .int snow, .int sfm, .int sx])), (tnodes, .inr (6, [.int 4, .ref tnodesA, .int o4])), (tnodesA, .inl (kA 0, 48, .inl o5)), (snodes, .inr (6, [.int 4, .ref snodesA, .int snodesS])), (snodesA, .inl (kA 0, 48, .inl snodesF)), (tpasses, .inr (6, [.int 5, .ref tpassesA, .int o11])), (tpassesA, .inl (kA 0, 100, .inl o12)), (spasses, .inr (6, [.int 5, .ref spassesA, .int spassesS])), (spassesA, .inl (kA 0, 100, .inl spassesF)), (tjars, .inr (6, [.int 9, .ref tjarsA, .int o18])), (tjarsA, .inl (kA 0, 144, .inl o19)), (sjars, .inr (6, [.int 9, .ref sjarsA, .int sjarsS])), (sjarsA, .inl (kA 0, 144, .inl sjarsF)), (torders, .inr (6, [.int 4, .ref tordersA, .int o25])), (tordersA, .inl (kA 0, 24, .inl o26)), (sorders, .inr (6, [.int 4, .ref sordersA, .int sordersS])), (sordersA, .inl (kA 0, 24, .inl sordersF)), (tfeasts, .inr (6, [.int 3, .ref tfeastsA, .int o32])), (tfeastsA, .inl (kA 0, 24, .inl o33)), (sfeasts, .inr (6, [.int 3, .ref sfeastsA, .int sfeastsS])), (sfeastsA, .inl (kA 0, 24, .inl sfeastsF))]) (va_runV (As := [.ref sway]) (rest := []) ⟨hx, hb, hml, hown, hts⟩ (mX6_copyFrom_6 l dC dI kA _ tway twayA 1 twayS twayF sway swayA 1 swayS swayF) (cwV 1 hts gX9_copyFrom_X6_copyFrom rfl rfl rfl ⟨rfl, hdX6_copyFrom⟩ ⟨(Nat.le_of_ble_eq_true rfl), (Nat.le_of_ble_eq_true rfl)⟩) ⟨zPc.blind, va_recv hK.1 hP (ci := 6) (q0 := 1) rfl rfl, zPre hK (hP.sub [1, 2, 4, 5] rfl) (hD.sub [1, 2, 4, 5] (by decide) rfl)⟩ rfl rfl hl.1 rfl (lv_room (Nat.le_of_ble_eq_true rfl)) dX9_copyFrom_63 ⟨(Nat.le_of_ble_eq_true rfl), (Nat.le_of_ble_eq_true rfl)⟩) hP hD hS hA [1, 2, 4, 5] [0, 3, 6, 7, 8, 9, 10, 11, 12, 13, 14, 15, 16, 17, 18, 19, 20, 21, 22, 23, 24, 25] rfl rfl (by decide) (by decide) (fun u36 H locs hw37 hP hD hS => ?_)
  obtain ⟨o39, o40⟩ := u36
  have hp41 := hw37
  obtain ⟨q42, eq42⟩ : ∃ y : Int32 × (Nat → Int32), y = fX6_copyFrom_6 twayF swayS swayF := ⟨_, rfl⟩
  have hG := zbnd hG eq42
  have eo39 : o39 = q42.1 := by rw [eq42]; exact congrArg (fun z : Int32 × (Nat → Int32) => z.1) hp41
  have hG := zbnd hG eo39
  have eo40 : o40 = q42.2 := by rw [eq42]; exact congrArg (fun z : Int32 × (Nat → Int32) => z.2) hp41
  have hG := zbnd hG eo40
  obtain ⟨hP, hD⟩ := z_re (L := [(w0, .inr (9, [.ref tnodes, .ref tpasses, .ref tjars, .ref torders, .ref tfeasts, .ref tway, .int tws, .int tnow, .int tfm, .int tx])), (v0, .inr (9, [.ref snodes, .ref spasses, .ref sjars, .ref sorders, .ref sfeasts, .ref sway, .int sws, .int snow, .int sfm, .int sx])), (tnodes, .inr (6, [.int 4, .ref tnodesA, .int o4])), (tnodesA, .inl (kA 0, 48, .inl o5)), (snodes, .inr (6, [.int 4, .ref snodesA, .int snodesS])), (snodesA, .inl (kA 0, 48, .inl snodesF)), (tpasses, .inr (6, [.int 5, .ref tpassesA, .int o11])), (tpassesA, .inl (kA 0, 100, .inl o12)), (spasses, .inr (6, [.int 5, .ref spassesA, .int spassesS])), (spassesA, .inl (kA 0, 100, .inl spassesF)), (tjars, .inr (6, [.int 9, .ref tjarsA, .int o18])), (tjarsA, .inl (kA 0, 144, .inl o19)), (sjars, .inr (6, [.int 9, .ref sjarsA, .int sjarsS])), (sjarsA, .inl (kA 0, 144, .inl sjarsF)), (torders, .inr (6, [.int 4, .ref tordersA, .int o25])), (tordersA, .inl (kA 0, 24, .inl o26)), (sorders, .inr (6, [.int 4, .ref sordersA, .int sordersS])), (sordersA, .inl (kA 0, 24, .inl sordersF)), (tfeasts, .inr (6, [.int 3, .ref tfeastsA, .int o32])), (tfeastsA, .inl (kA 0, 24, .inl o33)), (sfeasts, .inr (6, [.int 3, .ref sfeastsA, .int sfeastsS])), (sfeastsA, .inl (kA 0, 24, .inl sfeastsF)), (tway, .inr (6, [.int 1, .ref twayA, .int o39])), (twayA, .inl (kA 0, 6, .inl o40)), (sway, .inr (6, [.int 1, .ref swayA, .int swayS])), (swayA, .inl (kA 0, 6, .inl swayF))]) hP hD
  refine lv_aload_n hx hb dX9_copyFrom_66 rfl (lv_at hl 0 rfl) ?_
  refine lv_aload_n hx hb dX9_copyFrom_67 rfl (lv_at hl 1 rfl) ?_
  refine va_get (D := (dC, dI)) (ci := 9) (v := .int sws) (C := RX9) (T := TX9) (N := 10) hx hb hts iX9_copyFrom_X9 hown hK.1 hP 1 rfl rfl 6 (by decide) (kX9_copyFrom_7 hts) (fun _ h9 => h9) rfl dX9_copyFrom_68 ?_
  refine va_put (D := (dC, dI)) (ci := 9) (v := .int sws) (ty := .int) (C := RX9) (T := TX9) (N := 10) hx hb hts iX9_copyFrom_X9 tyX9 tyX9_ok nmX9 hown hK.1 hP hD hS 0 rfl rfl 6 (by decide) (kX9_copyFrom_7 hts) (fun _ h9 => h9) rfl (by decide +kernel) rfl rfl (Nat.le_of_ble_eq_true rfl) dX9_copyFrom_71 (fun H locs hP hD hS => ?_)
  obtain ⟨hP, hD⟩ := z_re (L := [(w0, .inr (9, [.ref tnodes, .ref tpasses, .ref tjars, .ref torders, .ref tfeasts, .ref tway, .int sws, .int tnow, .int tfm, .int tx])), (v0, .inr (9, [.ref snodes, .ref spasses, .ref sjars, .ref sorders, .ref sfeasts, .ref sway, .int sws, .int snow, .int sfm, .int sx])), (tnodes, .inr (6, [.int 4, .ref tnodesA, .int o4])), (tnodesA, .inl (kA 0, 48, .inl o5)), (snodes, .inr (6, [.int 4, .ref snodesA, .int snodesS])), (snodesA, .inl (kA 0, 48, .inl snodesF)), (tpasses, .inr (6, [.int 5, .ref tpassesA, .int o11])), (tpassesA, .inl (kA 0, 100, .inl o12)), (spasses, .inr (6, [.int 5, .ref spassesA, .int spassesS])), (spassesA, .inl (kA 0, 100, .inl spassesF)), (tjars, .inr (6, [.int 9, .ref tjarsA, .int o18])), (tjarsA, .inl (kA 0, 144, .inl o19)), (sjars, .inr (6, [.int 9, .ref sjarsA, .int sjarsS])), (sjarsA, .inl (kA 0, 144, .inl sjarsF)), (torders, .inr (6, [.int 4, .ref tordersA, .int o25])), (tordersA, .inl (kA 0, 24, .inl o26)), (sorders, .inr (6, [.int 4, .ref sordersA, .int sordersS])), (sordersA, .inl (kA 0, 24, .inl sordersF)), (tfeasts, .inr (6, [.int 3, .ref tfeastsA, .int o32])), (tfeastsA, .inl (kA 0, 24, .inl o33)), (sfeasts, .inr (6, [.int 3, .ref sfeastsA, .int sfeastsS])), (sfeastsA, .inl (kA 0, 24, .inl sfeastsF)), (tway, .inr (6, [.int 1, .ref twayA, .int o39])), (twayA, .inl (kA 0, 6, .inl o40)), (sway, .inr (6, [.int 1, .ref swayA, .int swayS])), (swayA, .inl (kA 0, 6, .inl swayF))]) hP hD
  refine lv_aload_n hx hb dX9_copyFrom_74 rfl (lv_at hl 0 rfl) ?_
  refine lv_aload_n hx hb dX9_copyFrom_75 rfl (lv_at hl 1 rfl) ?_
  refine va_get (D := (dC, dI)) (ci := 9) (v := .int snow) (C := RX9) (T := TX9) (N := 10) hx hb hts iX9_copyFrom_X9 hown hK.1 hP 1 rfl rfl 7 (by decide) (kX9_copyFrom_8 hts) (fun _ h9 => h9) rfl dX9_copyFrom_76 ?_
  refine va_put (D := (dC, dI)) (ci := 9) (v := .int snow) (ty := .int) (C := RX9) (T := TX9) (N := 10) hx hb hts iX9_copyFrom_X9 tyX9 tyX9_ok nmX9 hown hK.1 hP hD hS 0 rfl rfl 7 (by decide) (kX9_copyFrom_8 hts) (fun _ h9 => h9) rfl (by decide +kernel) rfl rfl (Nat.le_of_ble_eq_true rfl) dX9_copyFrom_79 (fun H locs hP hD hS => ?_)
  obtain ⟨hP, hD⟩ := z_re (L := [(w0, .inr (9, [.ref tnodes, .ref tpasses, .ref tjars, .ref torders, .ref tfeasts, .ref tway, .int sws, .int snow, .int tfm, .int tx])), (v0, .inr (9, [.ref snodes, .ref spasses, .ref sjars, .ref sorders, .ref sfeasts, .ref sway, .int sws, .int snow, .int sfm, .int sx])), (tnodes, .inr (6, [.int 4, .ref tnodesA, .int o4])), (tnodesA, .inl (kA 0, 48, .inl o5)), (snodes, .inr (6, [.int 4, .ref snodesA, .int snodesS])), (snodesA, .inl (kA 0, 48, .inl snodesF)), (tpasses, .inr (6, [.int 5, .ref tpassesA, .int o11])), (tpassesA, .inl (kA 0, 100, .inl o12)), (spasses, .inr (6, [.int 5, .ref spassesA, .int spassesS])), (spassesA, .inl (kA 0, 100, .inl spassesF)), (tjars, .inr (6, [.int 9, .ref tjarsA, .int o18])), (tjarsA, .inl (kA 0, 144, .inl o19)), (sjars, .inr (6, [.int 9, .ref sjarsA, .int sjarsS])), (sjarsA, .inl (kA 0, 144, .inl sjarsF)), (torders, .inr (6, [.int 4, .ref tordersA, .int o25])), (tordersA, .inl (kA 0, 24, .inl o26)), (sorders, .inr (6, [.int 4, .ref sordersA, .int sordersS])), (sordersA, .inl (kA 0, 24, .inl sordersF)), (tfeasts, .inr (6, [.int 3, .ref tfeastsA, .int o32])), (tfeastsA, .inl (kA 0, 24, .inl o33)), (sfeasts, .inr (6, [.int 3, .ref sfeastsA, .int sfeastsS])), (sfeastsA, .inl (kA 0, 24, .inl sfeastsF)), (tway, .inr (6, [.int 1, .ref twayA, .int o39])), (twayA, .inl (kA 0, 6, .inl o40)), (sway, .inr (6, [.int 1, .ref swayA, .int swayS])), (swayA, .inl (kA 0, 6, .inl swayF))]) hP hD
  refine lv_aload_n hx hb dX9_copyFrom_82 rfl (lv_at hl 0 rfl) ?_
  refine lv_aload_n hx hb dX9_copyFrom_83 rfl (lv_at hl 1 rfl) ?_
  refine va_get (D := (dC, dI)) (ci := 9) (v := .int sfm) (C := RX9) (T := TX9) (N := 10) hx hb hts iX9_copyFrom_X9 hown hK.1 hP 1 rfl rfl 8 (by decide) (kX9_copyFrom_9 hts) (fun _ h9 => h9) rfl dX9_copyFrom_84 ?_
  refine va_put (D := (dC, dI)) (ci := 9) (v := .int sfm) (ty := .int) (C := RX9) (T := TX9) (N := 10) hx hb hts iX9_copyFrom_X9 tyX9 tyX9_ok nmX9 hown hK.1 hP hD hS 0 rfl rfl 8 (by decide) (kX9_copyFrom_9 hts) (fun _ h9 => h9) rfl (by decide +kernel) rfl rfl (Nat.le_of_ble_eq_true rfl) dX9_copyFrom_87 (fun H locs hP hD hS => ?_)
  obtain ⟨hP, hD⟩ := z_re (L := [(w0, .inr (9, [.ref tnodes, .ref tpasses, .ref tjars, .ref torders, .ref tfeasts, .ref tway, .int sws, .int snow, .int sfm, .int tx])), (v0, .inr (9, [.ref snodes, .ref spasses, .ref sjars, .ref sorders, .ref sfeasts, .ref sway, .int sws, .int snow, .int sfm, .int sx])), (tnodes, .inr (6, [.int 4, .ref tnodesA, .int o4])), (tnodesA, .inl (kA 0, 48, .inl o5)), (snodes, .inr (6, [.int 4, .ref snodesA, .int snodesS])), (snodesA, .inl (kA 0, 48, .inl snodesF)), (tpasses, .inr (6, [.int 5, .ref tpassesA, .int o11])), (tpassesA, .inl (kA 0, 100, .inl o12)), (spasses, .inr (6, [.int 5, .ref spassesA, .int spassesS])), (spassesA, .inl (kA 0, 100, .inl spassesF)), (tjars, .inr (6, [.int 9, .ref tjarsA, .int o18])), (tjarsA, .inl (kA 0, 144, .inl o19)), (sjars, .inr (6, [.int 9, .ref sjarsA, .int sjarsS])), (sjarsA, .inl (kA 0, 144, .inl sjarsF)), (torders, .inr (6, [.int 4, .ref tordersA, .int o25])), (tordersA, .inl (kA 0, 24, .inl o26)), (sorders, .inr (6, [.int 4, .ref sordersA, .int sordersS])), (sordersA, .inl (kA 0, 24, .inl sordersF)), (tfeasts, .inr (6, [.int 3, .ref tfeastsA, .int o32])), (tfeastsA, .inl (kA 0, 24, .inl o33)), (sfeasts, .inr (6, [.int 3, .ref sfeastsA, .int sfeastsS])), (sfeastsA, .inl (kA 0, 24, .inl sfeastsF)), (tway, .inr (6, [.int 1, .ref twayA, .int o39])), (twayA, .inl (kA 0, 6, .inl o40)), (sway, .inr (6, [.int 1, .ref swayA, .int swayS])), (swayA, .inl (kA 0, 6, .inl swayF))]) hP hD
  refine lv_aload_n hx hb dX9_copyFrom_90 rfl (lv_at hl 0 rfl) ?_
  refine lv_aload_n hx hb dX9_copyFrom_91 rfl (lv_at hl 1 rfl) ?_
  refine va_get (D := (dC, dI)) (ci := 9) (v := .int sx) (C := RX9) (T := TX9) (N := 10) hx hb hts iX9_copyFrom_X9 hown hK.1 hP 1 rfl rfl 9 (by decide) (kX9_copyFrom_10 hts) (fun _ h9 => h9) rfl dX9_copyFrom_92 ?_
  refine va_put (D := (dC, dI)) (ci := 9) (v := .int sx) (ty := .int) (C := RX9) (T := TX9) (N := 10) hx hb hts iX9_copyFrom_X9 tyX9 tyX9_ok nmX9 hown hK.1 hP hD hS 0 rfl rfl 9 (by decide) (kX9_copyFrom_10 hts) (fun _ h9 => h9) rfl (by decide +kernel) rfl rfl (Nat.le_of_ble_eq_true rfl) dX9_copyFrom_95 (fun H locs hP hD hS => ?_)
  obtain ⟨hP, hD⟩ := z_re (L := [(w0, .inr (9, [.ref tnodes, .ref tpasses, .ref tjars, .ref torders, .ref tfeasts, .ref tway, .int sws, .int snow, .int sfm, .int sx])), (v0, .inr (9, [.ref snodes, .ref spasses, .ref sjars, .ref sorders, .ref sfeasts, .ref sway, .int sws, .int snow, .int sfm, .int sx])), (tnodes, .inr (6, [.int 4, .ref tnodesA, .int o4])), (tnodesA, .inl (kA 0, 48, .inl o5)), (snodes, .inr (6, [.int 4, .ref snodesA, .int snodesS])), (snodesA, .inl (kA 0, 48, .inl snodesF)), (tpasses, .inr (6, [.int 5, .ref tpassesA, .int o11])), (tpassesA, .inl (kA 0, 100, .inl o12)), (spasses, .inr (6, [.int 5, .ref spassesA, .int spassesS])), (spassesA, .inl (kA 0, 100, .inl spassesF)), (tjars, .inr (6, [.int 9, .ref tjarsA, .int o18])), (tjarsA, .inl (kA 0, 144, .inl o19)), (sjars, .inr (6, [.int 9, .ref sjarsA, .int sjarsS])), (sjarsA, .inl (kA 0, 144, .inl sjarsF)), (torders, .inr (6, [.int 4, .ref tordersA, .int o25])), (tordersA, .inl (kA 0, 24, .inl o26)), (sorders, .inr (6, [.int 4, .ref sordersA, .int sordersS])), (sordersA, .inl (kA 0, 24, .inl sordersF)), (tfeasts, .inr (6, [.int 3, .ref tfeastsA, .int o32])), (tfeastsA, .inl (kA 0, 24, .inl o33)), (sfeasts, .inr (6, [.int 3, .ref sfeastsA, .int sfeastsS])), (sfeastsA, .inl (kA 0, 24, .inl sfeastsF)), (tway, .inr (6, [.int 1, .ref twayA, .int o39])), (twayA, .inl (kA 0, 6, .inl o40)), (sway, .inr (6, [.int 1, .ref swayA, .int swayS])), (swayA, .inl (kA 0, 6, .inl swayF))]) hP hD
  obtain ⟨hP9, hD9⟩ := z_sb (L' := [(w0, .inr (9, [.ref tnodes, .ref tpasses, .ref tjars, .ref torders, .ref tfeasts, .ref tway, .int sws, .int snow, .int sfm, .int sx])), (tnodes, .inr (6, [.int 4, .ref tnodesA, .int o4])), (tnodesA, .inl (kA 0, 48, .inl o5)), (tpasses, .inr (6, [.int 5, .ref tpassesA, .int o11])), (tpassesA, .inl (kA 0, 100, .inl o12)), (tjars, .inr (6, [.int 9, .ref tjarsA, .int o18])), (tjarsA, .inl (kA 0, 144, .inl o19)), (torders, .inr (6, [.int 4, .ref tordersA, .int o25])), (tordersA, .inl (kA 0, 24, .inl o26)), (tfeasts, .inr (6, [.int 3, .ref tfeastsA, .int o32])), (tfeastsA, .inl (kA 0, 24, .inl o33)), (tway, .inr (6, [.int 1, .ref twayA, .int o39])), (twayA, .inl (kA 0, 6, .inl o40)), (v0, .inr (9, [.ref snodes, .ref spasses, .ref sjars, .ref sorders, .ref sfeasts, .ref sway, .int sws, .int snow, .int sfm, .int sx])), (snodes, .inr (6, [.int 4, .ref snodesA, .int snodesS])), (snodesA, .inl (kA 0, 48, .inl snodesF)), (spasses, .inr (6, [.int 5, .ref spassesA, .int spassesS])), (spassesA, .inl (kA 0, 100, .inl spassesF)), (sjars, .inr (6, [.int 9, .ref sjarsA, .int sjarsS])), (sjarsA, .inl (kA 0, 144, .inl sjarsF)), (sorders, .inr (6, [.int 4, .ref sordersA, .int sordersS])), (sordersA, .inl (kA 0, 24, .inl sordersF)), (sfeasts, .inr (6, [.int 3, .ref sfeastsA, .int sfeastsS])), (sfeastsA, .inl (kA 0, 24, .inl sfeastsF)), (sway, .inr (6, [.int 1, .ref swayA, .int swayS])), (swayA, .inl (kA 0, 6, .inl swayF))]) hP hD [0, 2, 3, 6, 7, 10, 11, 14, 15, 18, 19, 22, 23, 1, 4, 5, 8, 9, 12, 13, 16, 17, 20, 21, 24, 25] (by decide) rfl
  refine W.widen (k := 0) (n := 0) (Nat.le_of_ble_eq_true rfl) (Nat.le_of_ble_eq_true rfl) ?_
  exact W.vret hx hb hr (fun t ht hW => ⟨⟨(sws, snow, sfm, sx, o4, o5, o11, o12, o18, o19, o25, o26, o32, o33, o39, o40), rfl, (hG.trans hG0.symm), by rw [ht]; exact hP9, hD9⟩, hS.F ht⟩) hS.2.2 dX9_copyFrom_98
