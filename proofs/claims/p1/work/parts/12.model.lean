set_option maxHeartbeats 4000000 in
set_option maxRecDepth 100000 in
theorem mX11_in_400 (l : Launch) (dC : Nat → ClassId) (dI : Nat → Nat → Nat) (kA : Nat → ClassId) (sz : Nat) (v : Int32)  : Met l yX11_in wsX11_in ({ frames := 0, cells := 0, slots := 0, locals := 0 }) (zPc dC dI kA sz [.long v.toInt64, .long 0, .long 400] []) (va_Qi (fun (r : Int32) (u : Unit) => r = (wi v 400)) (zB dC dI (va_A [] sz) (fun (u : Unit) => [])) (va_A [] sz)) 0 0 (va_A [] sz) := by
  refine Met.ofW (cc := cX11_in) (maxL := 6) (ret := (some .boolean)) (by decide) rfl ?_
  intro p e s m args below meth c s₁ B hml hv
  obtain ⟨rfl, hsz, hP, hK, hD0⟩ := hv
  have hx := B.exec
  have hb := B.bytes
  have hr := B.returns
  have hts := atoms_spec (ws := wsX11_in) B.pre
  have hown : s.vm.findClass RX11 = some m.cls := findClass_of_methodNamed B.named
  have hlocks := B.notSynchronized
  subst hsz
  have hD := hD0.self (sz := s.heap.size)
  generalize hAe : va_A [] s.heap.size = A at hD ⊢
  have hA : ∀ q : Nat, s.heap.size ≤ q → A q := fun q h => by rw [← hAe]; exact Or.inr h
  have hS : va_S A s.heap s.heap [] := va_S.rf
  have hP : va_P (dC, dI) vwCl [] s.heap := hP
  have hl := lv_entry ([.long v.toInt64, .long 0, .long 400]) (n := 6) (Nat.le_of_ble_eq_true rfl)
  rw [lg_entry_eq]
  generalize (lg_sl ([.long v.toInt64, .long 0, .long 400]) ++ List.replicate (6 - (lg_sl ([.long v.toInt64, .long 0, .long 400])).length) Slot.unset).toArray = ls at hl ⊢
  have hl : lv_has ls 6 [(0, .long v.toInt64), (2, .long 0), (4, .long 400)] := hl
  refine lv_lload_n hx hb dX11_in_0 rfl (lv_at hl 0 rfl) ?_
  refine lv_lload_n hx hb dX11_in_1 rfl (lv_at hl 1 rfl) ?_
  refine W.lcmp hx hb dX11_in_2 ?_
  refine lv_if_lt (tgt := 17) hx hb dX11_in_3 (by decide) (fun c_1 => ?_) (fun c_1 => ?_)
  · refine lv_iconst (v := 0) hx hb dX11_in_17 (by decide) ?_
    have hP9 := hP.sub (ws' := []) [] rfl
    have hD9 := hD.sub (ws' := []) [] (by decide) rfl
    refine W.widen (k := 0) (n := 0) (Nat.le_of_ble_eq_true rfl) (Nat.le_of_ble_eq_true rfl) ?_
    exact W.zret (v := 0) hx hb hr rfl (fun t ht hW => ⟨⟨0, (), rfl, (by rw [← li_wi v 400 (L := 0) (H := 400) (by decide) (by decide)]; simp [li, c_1]), by rw [ht]; exact hP9, hD9⟩, hS.F ht⟩) hS.2.2 dX11_in_18
  · refine lv_lload_n hx hb dX11_in_6 rfl (lv_at hl 0 rfl) ?_
    refine lv_lload hx hb dX11_in_7 (lv_at hl 2 rfl) ?_
    refine W.lcmp hx hb dX11_in_9 ?_
    refine lv_if_gt (tgt := 17) hx hb dX11_in_10 (by decide) (fun c_2 => ?_) (fun c_2 => ?_)
    · refine lv_iconst (v := 0) hx hb dX11_in_17 (by decide) ?_
      have hP9 := hP.sub (ws' := []) [] rfl
      have hD9 := hD.sub (ws' := []) [] (by decide) rfl
      refine W.widen (k := 0) (n := 0) (Nat.le_of_ble_eq_true rfl) (Nat.le_of_ble_eq_true rfl) ?_
      exact W.zret (v := 0) hx hb hr rfl (fun t ht hW => ⟨⟨0, (), rfl, (by rw [← li_wi v 400 (L := 0) (H := 400) (by decide) (by decide)]; simp [li, c_1, c_2]), by rw [ht]; exact hP9, hD9⟩, hS.F ht⟩) hS.2.2 dX11_in_18
    · refine lv_iconst (v := 1) hx hb dX11_in_13 (by decide) ?_
      refine lv_goto (tgt := 18) hx hb dX11_in_14 (by decide) ?_
      have hP9 := hP.sub (ws' := []) [] rfl
      have hD9 := hD.sub (ws' := []) [] (by decide) rfl
      refine W.widen (k := 0) (n := 0) (Nat.le_of_ble_eq_true rfl) (Nat.le_of_ble_eq_true rfl) ?_
      exact W.zret (v := 1) hx hb hr rfl (fun t ht hW => ⟨⟨1, (), rfl, (by rw [← li_wi v 400 (L := 0) (H := 400) (by decide) (by decide)]; simp [li, c_1, c_2]), by rw [ht]; exact hP9, hD9⟩, hS.F ht⟩) hS.2.2 dX11_in_18
set_option maxHeartbeats 4000000 in
set_option maxRecDepth 100000 in
theorem mX11_in_4095 (l : Launch) (dC : Nat → ClassId) (dI : Nat → Nat → Nat) (kA : Nat → ClassId) (sz : Nat) (v : Int32)  : Met l yX11_in wsX11_in ({ frames := 0, cells := 0, slots := 0, locals := 0 }) (zPc dC dI kA sz [.long v.toInt64, .long 0, .long 4095] []) (va_Qi (fun (r : Int32) (u : Unit) => r = (wi v 4095)) (zB dC dI (va_A [] sz) (fun (u : Unit) => [])) (va_A [] sz)) 0 0 (va_A [] sz) := by
  refine Met.ofW (cc := cX11_in) (maxL := 6) (ret := (some .boolean)) (by decide) rfl ?_
  intro p e s m args below meth c s₁ B hml hv
  obtain ⟨rfl, hsz, hP, hK, hD0⟩ := hv
  have hx := B.exec
  have hb := B.bytes
  have hr := B.returns
  have hts := atoms_spec (ws := wsX11_in) B.pre
  have hown : s.vm.findClass RX11 = some m.cls := findClass_of_methodNamed B.named
  have hlocks := B.notSynchronized
  subst hsz
  have hD := hD0.self (sz := s.heap.size)
  generalize hAe : va_A [] s.heap.size = A at hD ⊢
  have hA : ∀ q : Nat, s.heap.size ≤ q → A q := fun q h => by rw [← hAe]; exact Or.inr h
  have hS : va_S A s.heap s.heap [] := va_S.rf
  have hP : va_P (dC, dI) vwCl [] s.heap := hP
  have hl := lv_entry ([.long v.toInt64, .long 0, .long 4095]) (n := 6) (Nat.le_of_ble_eq_true rfl)
  rw [lg_entry_eq]
  generalize (lg_sl ([.long v.toInt64, .long 0, .long 4095]) ++ List.replicate (6 - (lg_sl ([.long v.toInt64, .long 0, .long 4095])).length) Slot.unset).toArray = ls at hl ⊢
  have hl : lv_has ls 6 [(0, .long v.toInt64), (2, .long 0), (4, .long 4095)] := hl
  refine lv_lload_n hx hb dX11_in_0 rfl (lv_at hl 0 rfl) ?_
  refine lv_lload_n hx hb dX11_in_1 rfl (lv_at hl 1 rfl) ?_
  refine W.lcmp hx hb dX11_in_2 ?_
  refine lv_if_lt (tgt := 17) hx hb dX11_in_3 (by decide) (fun c_1 => ?_) (fun c_1 => ?_)
  · refine lv_iconst (v := 0) hx hb dX11_in_17 (by decide) ?_
    have hP9 := hP.sub (ws' := []) [] rfl
    have hD9 := hD.sub (ws' := []) [] (by decide) rfl
    refine W.widen (k := 0) (n := 0) (Nat.le_of_ble_eq_true rfl) (Nat.le_of_ble_eq_true rfl) ?_
    exact W.zret (v := 0) hx hb hr rfl (fun t ht hW => ⟨⟨0, (), rfl, (by rw [← li_wi v 4095 (L := 0) (H := 4095) (by decide) (by decide)]; simp [li, c_1]), by rw [ht]; exact hP9, hD9⟩, hS.F ht⟩) hS.2.2 dX11_in_18
  · refine lv_lload_n hx hb dX11_in_6 rfl (lv_at hl 0 rfl) ?_
    refine lv_lload hx hb dX11_in_7 (lv_at hl 2 rfl) ?_
    refine W.lcmp hx hb dX11_in_9 ?_
    refine lv_if_gt (tgt := 17) hx hb dX11_in_10 (by decide) (fun c_2 => ?_) (fun c_2 => ?_)
    · refine lv_iconst (v := 0) hx hb dX11_in_17 (by decide) ?_
      have hP9 := hP.sub (ws' := []) [] rfl
      have hD9 := hD.sub (ws' := []) [] (by decide) rfl
      refine W.widen (k := 0) (n := 0) (Nat.le_of_ble_eq_true rfl) (Nat.le_of_ble_eq_true rfl) ?_
      exact W.zret (v := 0) hx hb hr rfl (fun t ht hW => ⟨⟨0, (), rfl, (by rw [← li_wi v 4095 (L := 0) (H := 4095) (by decide) (by decide)]; simp [li, c_1, c_2]), by rw [ht]; exact hP9, hD9⟩, hS.F ht⟩) hS.2.2 dX11_in_18
    · refine lv_iconst (v := 1) hx hb dX11_in_13 (by decide) ?_
      refine lv_goto (tgt := 18) hx hb dX11_in_14 (by decide) ?_
      have hP9 := hP.sub (ws' := []) [] rfl
      have hD9 := hD.sub (ws' := []) [] (by decide) rfl
      refine W.widen (k := 0) (n := 0) (Nat.le_of_ble_eq_true rfl) (Nat.le_of_ble_eq_true rfl) ?_
      exact W.zret (v := 1) hx hb hr rfl (fun t ht hW => ⟨⟨1, (), rfl, (by rw [← li_wi v 4095 (L := 0) (H := 4095) (by decide) (by decide)]; simp [li, c_1, c_2]), by rw [ht]; exact hP9, hD9⟩, hS.F ht⟩) hS.2.2 dX11_in_18
set_option maxHeartbeats 4000000 in
set_option maxRecDepth 100000 in
theorem mX11_in_9 (l : Launch) (dC : Nat → ClassId) (dI : Nat → Nat → Nat) (kA : Nat → ClassId) (sz : Nat) (v : Int32)  : Met l yX11_in wsX11_in ({ frames := 0, cells := 0, slots := 0, locals := 0 }) (zPc dC dI kA sz [.long v.toInt64, .long 0, .long 9] []) (va_Qi (fun (r : Int32) (u : Unit) => r = (wi v 9)) (zB dC dI (va_A [] sz) (fun (u : Unit) => [])) (va_A [] sz)) 0 0 (va_A [] sz) := by
  refine Met.ofW (cc := cX11_in) (maxL := 6) (ret := (some .boolean)) (by decide) rfl ?_
  intro p e s m args below meth c s₁ B hml hv
  obtain ⟨rfl, hsz, hP, hK, hD0⟩ := hv
  have hx := B.exec
  have hb := B.bytes
  have hr := B.returns
  have hts := atoms_spec (ws := wsX11_in) B.pre
  have hown : s.vm.findClass RX11 = some m.cls := findClass_of_methodNamed B.named
  have hlocks := B.notSynchronized
  subst hsz
  have hD := hD0.self (sz := s.heap.size)
  generalize hAe : va_A [] s.heap.size = A at hD ⊢
  have hA : ∀ q : Nat, s.heap.size ≤ q → A q := fun q h => by rw [← hAe]; exact Or.inr h
  have hS : va_S A s.heap s.heap [] := va_S.rf
  have hP : va_P (dC, dI) vwCl [] s.heap := hP
  have hl := lv_entry ([.long v.toInt64, .long 0, .long 9]) (n := 6) (Nat.le_of_ble_eq_true rfl)
  rw [lg_entry_eq]
  generalize (lg_sl ([.long v.toInt64, .long 0, .long 9]) ++ List.replicate (6 - (lg_sl ([.long v.toInt64, .long 0, .long 9])).length) Slot.unset).toArray = ls at hl ⊢
  have hl : lv_has ls 6 [(0, .long v.toInt64), (2, .long 0), (4, .long 9)] := hl
  refine lv_lload_n hx hb dX11_in_0 rfl (lv_at hl 0 rfl) ?_
  refine lv_lload_n hx hb dX11_in_1 rfl (lv_at hl 1 rfl) ?_
  refine W.lcmp hx hb dX11_in_2 ?_
  refine lv_if_lt (tgt := 17) hx hb dX11_in_3 (by decide) (fun c_1 => ?_) (fun c_1 => ?_)
  · refine lv_iconst (v := 0) hx hb dX11_in_17 (by decide) ?_
    have hP9 := hP.sub (ws' := []) [] rfl
    have hD9 := hD.sub (ws' := []) [] (by decide) rfl
    refine W.widen (k := 0) (n := 0) (Nat.le_of_ble_eq_true rfl) (Nat.le_of_ble_eq_true rfl) ?_
    exact W.zret (v := 0) hx hb hr rfl (fun t ht hW => ⟨⟨0, (), rfl, (by rw [← li_wi v 9 (L := 0) (H := 9) (by decide) (by decide)]; simp [li, c_1]), by rw [ht]; exact hP9, hD9⟩, hS.F ht⟩) hS.2.2 dX11_in_18
  · refine lv_lload_n hx hb dX11_in_6 rfl (lv_at hl 0 rfl) ?_
    refine lv_lload hx hb dX11_in_7 (lv_at hl 2 rfl) ?_
    refine W.lcmp hx hb dX11_in_9 ?_
    refine lv_if_gt (tgt := 17) hx hb dX11_in_10 (by decide) (fun c_2 => ?_) (fun c_2 => ?_)
    · refine lv_iconst (v := 0) hx hb dX11_in_17 (by decide) ?_
      have hP9 := hP.sub (ws' := []) [] rfl
      have hD9 := hD.sub (ws' := []) [] (by decide) rfl
      refine W.widen (k := 0) (n := 0) (Nat.le_of_ble_eq_true rfl) (Nat.le_of_ble_eq_true rfl) ?_
      exact W.zret (v := 0) hx hb hr rfl (fun t ht hW => ⟨⟨0, (), rfl, (by rw [← li_wi v 9 (L := 0) (H := 9) (by decide) (by decide)]; simp [li, c_1, c_2]), by rw [ht]; exact hP9, hD9⟩, hS.F ht⟩) hS.2.2 dX11_in_18
    · refine lv_iconst (v := 1) hx hb dX11_in_13 (by decide) ?_
      refine lv_goto (tgt := 18) hx hb dX11_in_14 (by decide) ?_
      have hP9 := hP.sub (ws' := []) [] rfl
      have hD9 := hD.sub (ws' := []) [] (by decide) rfl
      refine W.widen (k := 0) (n := 0) (Nat.le_of_ble_eq_true rfl) (Nat.le_of_ble_eq_true rfl) ?_
      exact W.zret (v := 1) hx hb hr rfl (fun t ht hW => ⟨⟨1, (), rfl, (by rw [← li_wi v 9 (L := 0) (H := 9) (by decide) (by decide)]; simp [li, c_1, c_2]), by rw [ht]; exact hP9, hD9⟩, hS.F ht⟩) hS.2.2 dX11_in_18
set_option maxHeartbeats 4000000 in
set_option maxRecDepth 100000 in
theorem mX11_in_11 (l : Launch) (dC : Nat → ClassId) (dI : Nat → Nat → Nat) (kA : Nat → ClassId) (sz : Nat) (v : Int32)  : Met l yX11_in wsX11_in ({ frames := 0, cells := 0, slots := 0, locals := 0 }) (zPc dC dI kA sz [.long v.toInt64, .long 0, .long 11] []) (va_Qi (fun (r : Int32) (u : Unit) => r = (wi v 11)) (zB dC dI (va_A [] sz) (fun (u : Unit) => [])) (va_A [] sz)) 0 0 (va_A [] sz) := by
  refine Met.ofW (cc := cX11_in) (maxL := 6) (ret := (some .boolean)) (by decide) rfl ?_
  intro p e s m args below meth c s₁ B hml hv
  obtain ⟨rfl, hsz, hP, hK, hD0⟩ := hv
  have hx := B.exec
  have hb := B.bytes
  have hr := B.returns
  have hts := atoms_spec (ws := wsX11_in) B.pre
  have hown : s.vm.findClass RX11 = some m.cls := findClass_of_methodNamed B.named
  have hlocks := B.notSynchronized
  subst hsz
  have hD := hD0.self (sz := s.heap.size)
  generalize hAe : va_A [] s.heap.size = A at hD ⊢
  have hA : ∀ q : Nat, s.heap.size ≤ q → A q := fun q h => by rw [← hAe]; exact Or.inr h
  have hS : va_S A s.heap s.heap [] := va_S.rf
  have hP : va_P (dC, dI) vwCl [] s.heap := hP
  have hl := lv_entry ([.long v.toInt64, .long 0, .long 11]) (n := 6) (Nat.le_of_ble_eq_true rfl)
  rw [lg_entry_eq]
  generalize (lg_sl ([.long v.toInt64, .long 0, .long 11]) ++ List.replicate (6 - (lg_sl ([.long v.toInt64, .long 0, .long 11])).length) Slot.unset).toArray = ls at hl ⊢
  have hl : lv_has ls 6 [(0, .long v.toInt64), (2, .long 0), (4, .long 11)] := hl
  refine lv_lload_n hx hb dX11_in_0 rfl (lv_at hl 0 rfl) ?_
  refine lv_lload_n hx hb dX11_in_1 rfl (lv_at hl 1 rfl) ?_
  refine W.lcmp hx hb dX11_in_2 ?_
  refine lv_if_lt (tgt := 17) hx hb dX11_in_3 (by decide) (fun c_1 => ?_) (fun c_1 => ?_)
  · refine lv_iconst (v := 0) hx hb dX11_in_17 (by decide) ?_
    have hP9 := hP.sub (ws' := []) [] rfl
    have hD9 := hD.sub (ws' := []) [] (by decide) rfl
    refine W.widen (k := 0) (n := 0) (Nat.le_of_ble_eq_true rfl) (Nat.le_of_ble_eq_true rfl) ?_
    exact W.zret (v := 0) hx hb hr rfl (fun t ht hW => ⟨⟨0, (), rfl, (by rw [← li_wi v 11 (L := 0) (H := 11) (by decide) (by decide)]; simp [li, c_1]), by rw [ht]; exact hP9, hD9⟩, hS.F ht⟩) hS.2.2 dX11_in_18
  · refine lv_lload_n hx hb dX11_in_6 rfl (lv_at hl 0 rfl) ?_
    refine lv_lload hx hb dX11_in_7 (lv_at hl 2 rfl) ?_
    refine W.lcmp hx hb dX11_in_9 ?_
    refine lv_if_gt (tgt := 17) hx hb dX11_in_10 (by decide) (fun c_2 => ?_) (fun c_2 => ?_)
    · refine lv_iconst (v := 0) hx hb dX11_in_17 (by decide) ?_
      have hP9 := hP.sub (ws' := []) [] rfl
      have hD9 := hD.sub (ws' := []) [] (by decide) rfl
      refine W.widen (k := 0) (n := 0) (Nat.le_of_ble_eq_true rfl) (Nat.le_of_ble_eq_true rfl) ?_
      exact W.zret (v := 0) hx hb hr rfl (fun t ht hW => ⟨⟨0, (), rfl, (by rw [← li_wi v 11 (L := 0) (H := 11) (by decide) (by decide)]; simp [li, c_1, c_2]), by rw [ht]; exact hP9, hD9⟩, hS.F ht⟩) hS.2.2 dX11_in_18
    · refine lv_iconst (v := 1) hx hb dX11_in_13 (by decide) ?_
      refine lv_goto (tgt := 18) hx hb dX11_in_14 (by decide) ?_
      have hP9 := hP.sub (ws' := []) [] rfl
      have hD9 := hD.sub (ws' := []) [] (by decide) rfl
      refine W.widen (k := 0) (n := 0) (Nat.le_of_ble_eq_true rfl) (Nat.le_of_ble_eq_true rfl) ?_
      exact W.zret (v := 1) hx hb hr rfl (fun t ht hW => ⟨⟨1, (), rfl, (by rw [← li_wi v 11 (L := 0) (H := 11) (by decide) (by decide)]; simp [li, c_1, c_2]), by rw [ht]; exact hP9, hD9⟩, hS.F ht⟩) hS.2.2 dX11_in_18
set_option maxHeartbeats 4000000 in
set_option maxRecDepth 100000 in
theorem mX11_in_3 (l : Launch) (dC : Nat → ClassId) (dI : Nat → Nat → Nat) (kA : Nat → ClassId) (sz : Nat) (v : Int32)  : Met l yX11_in wsX11_in ({ frames := 0, cells := 0, slots := 0, locals := 0 }) (zPc dC dI kA sz [.long v.toInt64, .long 0, .long 3] []) (va_Qi (fun (r : Int32) (u : Unit) => r = (wi v 3)) (zB dC dI (va_A [] sz) (fun (u : Unit) => [])) (va_A [] sz)) 0 0 (va_A [] sz) := by
  refine Met.ofW (cc := cX11_in) (maxL := 6) (ret := (some .boolean)) (by decide) rfl ?_
  intro p e s m args below meth c s₁ B hml hv
  obtain ⟨rfl, hsz, hP, hK, hD0⟩ := hv
  have hx := B.exec
  have hb := B.bytes
  have hr := B.returns
  have hts := atoms_spec (ws := wsX11_in) B.pre
  have hown : s.vm.findClass RX11 = some m.cls := findClass_of_methodNamed B.named
  have hlocks := B.notSynchronized
  subst hsz
  have hD := hD0.self (sz := s.heap.size)
  generalize hAe : va_A [] s.heap.size = A at hD ⊢
  have hA : ∀ q : Nat, s.heap.size ≤ q → A q := fun q h => by rw [← hAe]; exact Or.inr h
  have hS : va_S A s.heap s.heap [] := va_S.rf
  have hP : va_P (dC, dI) vwCl [] s.heap := hP
  have hl := lv_entry ([.long v.toInt64, .long 0, .long 3]) (n := 6) (Nat.le_of_ble_eq_true rfl)
  rw [lg_entry_eq]
  generalize (lg_sl ([.long v.toInt64, .long 0, .long 3]) ++ List.replicate (6 - (lg_sl ([.long v.toInt64, .long 0, .long 3])).length) Slot.unset).toArray = ls at hl ⊢
  have hl : lv_has ls 6 [(0, .long v.toInt64), (2, .long 0), (4, .long 3)] := hl
  refine lv_lload_n hx hb dX11_in_0 rfl (lv_at hl 0 rfl) ?_
  refine lv_lload_n hx hb dX11_in_1 rfl (lv_at hl 1 rfl) ?_
  refine W.lcmp hx hb dX11_in_2 ?_
  refine lv_if_lt (tgt := 17) hx hb dX11_in_3 (by decide) (fun c_1 => ?_) (fun c_1 => ?_)
  · refine lv_iconst (v := 0) hx hb dX11_in_17 (by decide) ?_
    have hP9 := hP.sub (ws' := []) [] rfl
    have hD9 := hD.sub (ws' := []) [] (by decide) rfl
    refine W.widen (k := 0) (n := 0) (Nat.le_of_ble_eq_true rfl) (Nat.le_of_ble_eq_true rfl) ?_
    exact W.zret (v := 0) hx hb hr rfl (fun t ht hW => ⟨⟨0, (), rfl, (by rw [← li_wi v 3 (L := 0) (H := 3) (by decide) (by decide)]; simp [li, c_1]), by rw [ht]; exact hP9, hD9⟩, hS.F ht⟩) hS.2.2 dX11_in_18
  · refine lv_lload_n hx hb dX11_in_6 rfl (lv_at hl 0 rfl) ?_
    refine lv_lload hx hb dX11_in_7 (lv_at hl 2 rfl) ?_
    refine W.lcmp hx hb dX11_in_9 ?_
    refine lv_if_gt (tgt := 17) hx hb dX11_in_10 (by decide) (fun c_2 => ?_) (fun c_2 => ?_)
    · refine lv_iconst (v := 0) hx hb dX11_in_17 (by decide) ?_
      have hP9 := hP.sub (ws' := []) [] rfl
      have hD9 := hD.sub (ws' := []) [] (by decide) rfl
      refine W.widen (k := 0) (n := 0) (Nat.le_of_ble_eq_true rfl) (Nat.le_of_ble_eq_true rfl) ?_
      exact W.zret (v := 0) hx hb hr rfl (fun t ht hW => ⟨⟨0, (), rfl, (by rw [← li_wi v 3 (L := 0) (H := 3) (by decide) (by decide)]; simp [li, c_1, c_2]), by rw [ht]; exact hP9, hD9⟩, hS.F ht⟩) hS.2.2 dX11_in_18
    · refine lv_iconst (v := 1) hx hb dX11_in_13 (by decide) ?_
      refine lv_goto (tgt := 18) hx hb dX11_in_14 (by decide) ?_
      have hP9 := hP.sub (ws' := []) [] rfl
      have hD9 := hD.sub (ws' := []) [] (by decide) rfl
      refine W.widen (k := 0) (n := 0) (Nat.le_of_ble_eq_true rfl) (Nat.le_of_ble_eq_true rfl) ?_
      exact W.zret (v := 1) hx hb hr rfl (fun t ht hW => ⟨⟨1, (), rfl, (by rw [← li_wi v 3 (L := 0) (H := 3) (by decide) (by decide)]; simp [li, c_1, c_2]), by rw [ht]; exact hP9, hD9⟩, hS.F ht⟩) hS.2.2 dX11_in_18
set_option maxHeartbeats 4000000 in
set_option maxRecDepth 100000 in
theorem mX11_isNode (l : Launch) (dC : Nat → ClassId) (dI : Nat → Nat → Nat) (kA : Nat → ClassId) (sz : Nat) (m0 : Nat) (m_tape : Nat) (m_sign : Nat) (m_length : Nat) (m_clause : Nat) (m_clauses : Nat) (m_chain : Nat) (m_open : Nat) (m_stack : Nat) (m_word : Nat) (m_said : Nat) (m_kept : Nat) (m_stepNode : Nat) (m_stepDrops : Nat) (m_stepHour : Nat) (m_stepNext : Nat) (m_stepPass : Nat) (m_bestPass : Nat) (m_far : Nat) (m_waited : Nat) (m_servers : Nat) (m_images : Nat) (m_isMade : Nat) (n : Int32)  : Met l yX11_isNode wsX11_isNode ({ frames := 0, cells := 0, slots := 0, locals := 0 }) (zPc dC dI kA sz [.ref m0, .int n] [(m0, .inr (11, [.ref m_tape, .int 0, .int 0, .ref m_sign, .ref m_length, .ref m_clause, .ref m_clauses, .ref m_chain, .int 0, .int 0, .int 0, .int 0, .int 0, .int 0, .int 0, .ref m_open, .int 0, .ref m_stack, .int 0, .ref m_word, .ref m_said, .ref m_kept, .int 0, .int 0, .int 0, .int 0, .int 0, .int 0, .ref m_stepNode, .ref m_stepDrops, .ref m_stepHour, .ref m_stepNext, .ref m_stepPass, .int 0, .int 0, .int 0, .ref m_bestPass, .ref m_far, .ref m_waited, .ref m_servers, .ref m_images, .ref m_isMade])), (m_said, .inl (kA 0, 360, .inl (upd (fun _ => 0) (8 : Int32).toNatClampNeg (-1))))]) (va_Qi (fun (r : Int32) (u : Unit) => r = 0) (zB dC dI (va_A [(m0, .inr (11, [.ref m_tape, .int 0, .int 0, .ref m_sign, .ref m_length, .ref m_clause, .ref m_clauses, .ref m_chain, .int 0, .int 0, .int 0, .int 0, .int 0, .int 0, .int 0, .ref m_open, .int 0, .ref m_stack, .int 0, .ref m_word, .ref m_said, .ref m_kept, .int 0, .int 0, .int 0, .int 0, .int 0, .int 0, .ref m_stepNode, .ref m_stepDrops, .ref m_stepHour, .ref m_stepNext, .ref m_stepPass, .int 0, .int 0, .int 0, .ref m_bestPass, .ref m_far, .ref m_waited, .ref m_servers, .ref m_images, .ref m_isMade])), (m_said, .inl (kA 0, 360, .inl (upd (fun _ => 0) (8 : Int32).toNatClampNeg (-1))))] sz) (fun (u : Unit) => [(m0, .inr (11, [.ref m_tape, .int 0, .int 0, .ref m_sign, .ref m_length, .ref m_clause, .ref m_clauses, .ref m_chain, .int 0, .int 0, .int 0, .int 0, .int 0, .int 0, .int 0, .ref m_open, .int 0, .ref m_stack, .int 0, .ref m_word, .ref m_said, .ref m_kept, .int 0, .int 0, .int 0, .int 0, .int 0, .int 0, .ref m_stepNode, .ref m_stepDrops, .ref m_stepHour, .ref m_stepNext, .ref m_stepPass, .int 0, .int 0, .int 0, .ref m_bestPass, .ref m_far, .ref m_waited, .ref m_servers, .ref m_images, .ref m_isMade])), (m_said, .inl (kA 0, 360, .inl (upd (fun _ => 0) (8 : Int32).toNatClampNeg (-1))))])) (va_A [(m0, .inr (11, [.ref m_tape, .int 0, .int 0, .ref m_sign, .ref m_length, .ref m_clause, .ref m_clauses, .ref m_chain, .int 0, .int 0, .int 0, .int 0, .int 0, .int 0, .int 0, .ref m_open, .int 0, .ref m_stack, .int 0, .ref m_word, .ref m_said, .ref m_kept, .int 0, .int 0, .int 0, .int 0, .int 0, .int 0, .ref m_stepNode, .ref m_stepDrops, .ref m_stepHour, .ref m_stepNext, .ref m_stepPass, .int 0, .int 0, .int 0, .ref m_bestPass, .ref m_far, .ref m_waited, .ref m_servers, .ref m_images, .ref m_isMade])), (m_said, .inl (kA 0, 360, .inl (upd (fun _ => 0) (8 : Int32).toNatClampNeg (-1))))] sz)) 0 0 (va_A [(m0, .inr (11, [.ref m_tape, .int 0, .int 0, .ref m_sign, .ref m_length, .ref m_clause, .ref m_clauses, .ref m_chain, .int 0, .int 0, .int 0, .int 0, .int 0, .int 0, .int 0, .ref m_open, .int 0, .ref m_stack, .int 0, .ref m_word, .ref m_said, .ref m_kept, .int 0, .int 0, .int 0, .int 0, .int 0, .int 0, .ref m_stepNode, .ref m_stepDrops, .ref m_stepHour, .ref m_stepNext, .ref m_stepPass, .int 0, .int 0, .int 0, .ref m_bestPass, .ref m_far, .ref m_waited, .ref m_servers, .ref m_images, .ref m_isMade])), (m_said, .inl (kA 0, 360, .inl (upd (fun _ => 0) (8 : Int32).toNatClampNeg (-1))))] sz) := by
  refine Met.ofW (cc := cX11_isNode) (maxL := 2) (ret := (some .boolean)) (by decide) rfl ?_
  intro p e s m args below meth c s₁ B hml hv
  obtain ⟨rfl, hsz, hP, hK, hD0⟩ := hv
  have hx := B.exec
  have hb := B.bytes
  have hr := B.returns
  have hts := atoms_spec (ws := wsX11_isNode) B.pre
  have hown : s.vm.findClass RX11 = some m.cls := findClass_of_methodNamed B.named
  have hlocks := B.notSynchronized
  subst hsz
  have hD := hD0.self (sz := s.heap.size)
  generalize hAe : va_A [(m0, .inr (11, [.ref m_tape, .int 0, .int 0, .ref m_sign, .ref m_length, .ref m_clause, .ref m_clauses, .ref m_chain, .int 0, .int 0, .int 0, .int 0, .int 0, .int 0, .int 0, .ref m_open, .int 0, .ref m_stack, .int 0, .ref m_word, .ref m_said, .ref m_kept, .int 0, .int 0, .int 0, .int 0, .int 0, .int 0, .ref m_stepNode, .ref m_stepDrops, .ref m_stepHour, .ref m_stepNext, .ref m_stepPass, .int 0, .int 0, .int 0, .ref m_bestPass, .ref m_far, .ref m_waited, .ref m_servers, .ref m_images, .ref m_isMade])), (m_said, .inl (kA 0, 360, .inl (upd (fun _ => 0) (8 : Int32).toNatClampNeg (-1))))] s.heap.size = A at hD ⊢
  have hA : ∀ q : Nat, s.heap.size ≤ q → A q := fun q h => by rw [← hAe]; exact Or.inr h
  have hS : va_S A s.heap s.heap [] := va_S.rf
  have hP : va_P (dC, dI) vwCl [(m0, .inr (11, [.ref m_tape, .int 0, .int 0, .ref m_sign, .ref m_length, .ref m_clause, .ref m_clauses, .ref m_chain, .int 0, .int 0, .int 0, .int 0, .int 0, .int 0, .int 0, .ref m_open, .int 0, .ref m_stack, .int 0, .ref m_word, .ref m_said, .ref m_kept, .int 0, .int 0, .int 0, .int 0, .int 0, .int 0, .ref m_stepNode, .ref m_stepDrops, .ref m_stepHour, .ref m_stepNext, .ref m_stepPass, .int 0, .int 0, .int 0, .ref m_bestPass, .ref m_far, .ref m_waited, .ref m_servers, .ref m_images, .ref m_isMade])), (m_said, .inl (kA 0, 360, .inl (upd (fun _ => 0) (8 : Int32).toNatClampNeg (-1))))] s.heap := hP
  have hl := lv_entry ([.ref m0, .int n]) (n := 2) (Nat.le_of_ble_eq_true rfl)
  rw [lg_entry_eq]
  generalize (lg_sl ([.ref m0, .int n]) ++ List.replicate (2 - (lg_sl ([.ref m0, .int n])).length) Slot.unset).toArray = ls at hl ⊢
  have hl : lv_has ls 2 [(0, .ref m0), (1, .int n)] := hl
  refine lv_iload_n hx hb dX11_isNode_0 rfl (lv_at hl 1 rfl) ?_
  refine lv_if_lt (tgt := 18) hx hb dX11_isNode_1 (by decide) (fun c_1 => ?_) (fun c_1 => ?_)
  · refine lv_iconst (v := 0) hx hb dX11_isNode_18 (by decide) ?_
    have hP9 := hP.sub (ws' := [(m0, .inr (11, [.ref m_tape, .int 0, .int 0, .ref m_sign, .ref m_length, .ref m_clause, .ref m_clauses, .ref m_chain, .int 0, .int 0, .int 0, .int 0, .int 0, .int 0, .int 0, .ref m_open, .int 0, .ref m_stack, .int 0, .ref m_word, .ref m_said, .ref m_kept, .int 0, .int 0, .int 0, .int 0, .int 0, .int 0, .ref m_stepNode, .ref m_stepDrops, .ref m_stepHour, .ref m_stepNext, .ref m_stepPass, .int 0, .int 0, .int 0, .ref m_bestPass, .ref m_far, .ref m_waited, .ref m_servers, .ref m_images, .ref m_isMade])), (m_said, .inl (kA 0, 360, .inl (upd (fun _ => 0) (8 : Int32).toNatClampNeg (-1))))]) [0, 1] rfl
    have hD9 := hD.sub (ws' := [(m0, .inr (11, [.ref m_tape, .int 0, .int 0, .ref m_sign, .ref m_length, .ref m_clause, .ref m_clauses, .ref m_chain, .int 0, .int 0, .int 0, .int 0, .int 0, .int 0, .int 0, .ref m_open, .int 0, .ref m_stack, .int 0, .ref m_word, .ref m_said, .ref m_kept, .int 0, .int 0, .int 0, .int 0, .int 0, .int 0, .ref m_stepNode, .ref m_stepDrops, .ref m_stepHour, .ref m_stepNext, .ref m_stepPass, .int 0, .int 0, .int 0, .ref m_bestPass, .ref m_far, .ref m_waited, .ref m_servers, .ref m_images, .ref m_isMade])), (m_said, .inl (kA 0, 360, .inl (upd (fun _ => 0) (8 : Int32).toNatClampNeg (-1))))]) [0, 1] (by decide) rfl
    refine W.widen (k := 0) (n := 0) (Nat.le_of_ble_eq_true rfl) (Nat.le_of_ble_eq_true rfl) ?_
    exact W.zret (v := 0) hx hb hr rfl (fun t ht hW => ⟨⟨0, (), rfl, rfl, by rw [ht]; exact hP9, hD9⟩, hS.F ht⟩) hS.2.2 dX11_isNode_19
  · refine lv_iload_n hx hb dX11_isNode_4 rfl (lv_at hl 1 rfl) ?_
    refine lv_aload_n hx hb dX11_isNode_5 rfl (lv_at hl 0 rfl) ?_
    refine va_get (D := (dC, dI)) (ci := 11) (v := .ref m_said) (C := RX11) (T := TX11) (N := 42) hx hb hts iX11_isNode_X11 hown hK.1 hP 0 rfl rfl 20 (by decide) (kX11_isNode_1 hts) (fun _ h9 => h9) rfl dX11_isNode_6 ?_
    refine lv_iconst (v := 0) hx hb dX11_isNode_9 (by decide) ?_
    refine va_iald hx hb hK.1 hP 1 0 rfl rfl (vpd (by decide)) dX11_isNode_10 ?_
    refine zi 0 rfl ?_
    refine lv_icmp_ge (tgt := 18) hx hb dX11_isNode_11 (by decide) (fun c_2 => ?_) (fun c_2 => ?_)
    · refine lv_iconst (v := 0) hx hb dX11_isNode_18 (by decide) ?_
      have hP9 := hP.sub (ws' := [(m0, .inr (11, [.ref m_tape, .int 0, .int 0, .ref m_sign, .ref m_length, .ref m_clause, .ref m_clauses, .ref m_chain, .int 0, .int 0, .int 0, .int 0, .int 0, .int 0, .int 0, .ref m_open, .int 0, .ref m_stack, .int 0, .ref m_word, .ref m_said, .ref m_kept, .int 0, .int 0, .int 0, .int 0, .int 0, .int 0, .ref m_stepNode, .ref m_stepDrops, .ref m_stepHour, .ref m_stepNext, .ref m_stepPass, .int 0, .int 0, .int 0, .ref m_bestPass, .ref m_far, .ref m_waited, .ref m_servers, .ref m_images, .ref m_isMade])), (m_said, .inl (kA 0, 360, .inl (upd (fun _ => 0) (8 : Int32).toNatClampNeg (-1))))]) [0, 1] rfl
      have hD9 := hD.sub (ws' := [(m0, .inr (11, [.ref m_tape, .int 0, .int 0, .ref m_sign, .ref m_length, .ref m_clause, .ref m_clauses, .ref m_chain, .int 0, .int 0, .int 0, .int 0, .int 0, .int 0, .int 0, .ref m_open, .int 0, .ref m_stack, .int 0, .ref m_word, .ref m_said, .ref m_kept, .int 0, .int 0, .int 0, .int 0, .int 0, .int 0, .ref m_stepNode, .ref m_stepDrops, .ref m_stepHour, .ref m_stepNext, .ref m_stepPass, .int 0, .int 0, .int 0, .ref m_bestPass, .ref m_far, .ref m_waited, .ref m_servers, .ref m_images, .ref m_isMade])), (m_said, .inl (kA 0, 360, .inl (upd (fun _ => 0) (8 : Int32).toNatClampNeg (-1))))]) [0, 1] (by decide) rfl
      refine W.widen (k := 0) (n := 0) (Nat.le_of_ble_eq_true rfl) (Nat.le_of_ble_eq_true rfl) ?_
      exact W.zret (v := 0) hx hb hr rfl (fun t ht hW => ⟨⟨0, (), rfl, rfl, by rw [ht]; exact hP9, hD9⟩, hS.F ht⟩) hS.2.2 dX11_isNode_19
    · refine lv_iconst (v := 1) hx hb dX11_isNode_14 (by decide) ?_
      refine lv_goto (tgt := 19) hx hb dX11_isNode_15 (by decide) ?_
      have hP9 := hP.sub (ws' := [(m0, .inr (11, [.ref m_tape, .int 0, .int 0, .ref m_sign, .ref m_length, .ref m_clause, .ref m_clauses, .ref m_chain, .int 0, .int 0, .int 0, .int 0, .int 0, .int 0, .int 0, .ref m_open, .int 0, .ref m_stack, .int 0, .ref m_word, .ref m_said, .ref m_kept, .int 0, .int 0, .int 0, .int 0, .int 0, .int 0, .ref m_stepNode, .ref m_stepDrops, .ref m_stepHour, .ref m_stepNext, .ref m_stepPass, .int 0, .int 0, .int 0, .ref m_bestPass, .ref m_far, .ref m_waited, .ref m_servers, .ref m_images, .ref m_isMade])), (m_said, .inl (kA 0, 360, .inl (upd (fun _ => 0) (8 : Int32).toNatClampNeg (-1))))]) [0, 1] rfl
      have hD9 := hD.sub (ws' := [(m0, .inr (11, [.ref m_tape, .int 0, .int 0, .ref m_sign, .ref m_length, .ref m_clause, .ref m_clauses, .ref m_chain, .int 0, .int 0, .int 0, .int 0, .int 0, .int 0, .int 0, .ref m_open, .int 0, .ref m_stack, .int 0, .ref m_word, .ref m_said, .ref m_kept, .int 0, .int 0, .int 0, .int 0, .int 0, .int 0, .ref m_stepNode, .ref m_stepDrops, .ref m_stepHour, .ref m_stepNext, .ref m_stepPass, .int 0, .int 0, .int 0, .ref m_bestPass, .ref m_far, .ref m_waited, .ref m_servers, .ref m_images, .ref m_isMade])), (m_said, .inl (kA 0, 360, .inl (upd (fun _ => 0) (8 : Int32).toNatClampNeg (-1))))]) [0, 1] (by decide) rfl
      refine W.widen (k := 0) (n := 0) (Nat.le_of_ble_eq_true rfl) (Nat.le_of_ble_eq_true rfl) ?_
      exact W.zret (v := 1) hx hb hr rfl (fun t ht hW => ⟨⟨1, (), rfl, (absurd (Int32.not_lt.mp c_1) c_2), by rw [ht]; exact hP9, hD9⟩, hS.F ht⟩) hS.2.2 dX11_isNode_19
set_option maxHeartbeats 4000000 in
set_option maxRecDepth 100000 in
theorem mX11_isJar (l : Launch) (dC : Nat → ClassId) (dI : Nat → Nat → Nat) (kA : Nat → ClassId) (sz : Nat) (m0 : Nat) (m_tape : Nat) (m_sign : Nat) (m_length : Nat) (m_clause : Nat) (m_clauses : Nat) (m_chain : Nat) (m_open : Nat) (m_stack : Nat) (m_word : Nat) (m_said : Nat) (m_kept : Nat) (m_stepNode : Nat) (m_stepDrops : Nat) (m_stepHour : Nat) (m_stepNext : Nat) (m_stepPass : Nat) (m_bestPass : Nat) (m_far : Nat) (m_waited : Nat) (m_servers : Nat) (m_images : Nat) (m_isMade : Nat) (n : Int32)  : Met l yX11_isJar wsX11_isJar ({ frames := 0, cells := 0, slots := 0, locals := 0 }) (zPc dC dI kA sz [.ref m0, .int n] [(m0, .inr (11, [.ref m_tape, .int 0, .int 0, .ref m_sign, .ref m_length, .ref m_clause, .ref m_clauses, .ref m_chain, .int 0, .int 0, .int 0, .int 0, .int 0, .int 0, .int 0, .ref m_open, .int 0, .ref m_stack, .int 0, .ref m_word, .ref m_said, .ref m_kept, .int 0, .int 0, .int 0, .int 0, .int 0, .int 0, .ref m_stepNode, .ref m_stepDrops, .ref m_stepHour, .ref m_stepNext, .ref m_stepPass, .int 0, .int 0, .int 0, .ref m_bestPass, .ref m_far, .ref m_waited, .ref m_servers, .ref m_images, .ref m_isMade])), (m_said, .inl (kA 0, 360, .inl (upd (fun _ => 0) (8 : Int32).toNatClampNeg (-1))))]) (va_Qi (fun (r : Int32) (u : Unit) => r = 0) (zB dC dI (va_A [(m0, .inr (11, [.ref m_tape, .int 0, .int 0, .ref m_sign, .ref m_length, .ref m_clause, .ref m_clauses, .ref m_chain, .int 0, .int 0, .int 0, .int 0, .int 0, .int 0, .int 0, .ref m_open, .int 0, .ref m_stack, .int 0, .ref m_word, .ref m_said, .ref m_kept, .int 0, .int 0, .int 0, .int 0, .int 0, .int 0, .ref m_stepNode, .ref m_stepDrops, .ref m_stepHour, .ref m_stepNext, .ref m_stepPass, .int 0, .int 0, .int 0, .ref m_bestPass, .ref m_far, .ref m_waited, .ref m_servers, .ref m_images, .ref m_isMade])), (m_said, .inl (kA 0, 360, .inl (upd (fun _ => 0) (8 : Int32).toNatClampNeg (-1))))] sz) (fun (u : Unit) => [(m0, .inr (11, [.ref m_tape, .int 0, .int 0, .ref m_sign, .ref m_length, .ref m_clause, .ref m_clauses, .ref m_chain, .int 0, .int 0, .int 0, .int 0, .int 0, .int 0, .int 0, .ref m_open, .int 0, .ref m_stack, .int 0, .ref m_word, .ref m_said, .ref m_kept, .int 0, .int 0, .int 0, .int 0, .int 0, .int 0, .ref m_stepNode, .ref m_stepDrops, .ref m_stepHour, .ref m_stepNext, .ref m_stepPass, .int 0, .int 0, .int 0, .ref m_bestPass, .ref m_far, .ref m_waited, .ref m_servers, .ref m_images, .ref m_isMade])), (m_said, .inl (kA 0, 360, .inl (upd (fun _ => 0) (8 : Int32).toNatClampNeg (-1))))])) (va_A [(m0, .inr (11, [.ref m_tape, .int 0, .int 0, .ref m_sign, .ref m_length, .ref m_clause, .ref m_clauses, .ref m_chain, .int 0, .int 0, .int 0, .int 0, .int 0, .int 0, .int 0, .ref m_open, .int 0, .ref m_stack, .int 0, .ref m_word, .ref m_said, .ref m_kept, .int 0, .int 0, .int 0, .int 0, .int 0, .int 0, .ref m_stepNode, .ref m_stepDrops, .ref m_stepHour, .ref m_stepNext, .ref m_stepPass, .int 0, .int 0, .int 0, .ref m_bestPass, .ref m_far, .ref m_waited, .ref m_servers, .ref m_images, .ref m_isMade])), (m_said, .inl (kA 0, 360, .inl (upd (fun _ => 0) (8 : Int32).toNatClampNeg (-1))))] sz)) 0 0 (va_A [(m0, .inr (11, [.ref m_tape, .int 0, .int 0, .ref m_sign, .ref m_length, .ref m_clause, .ref m_clauses, .ref m_chain, .int 0, .int 0, .int 0, .int 0, .int 0, .int 0, .int 0, .ref m_open, .int 0, .ref m_stack, .int 0, .ref m_word, .ref m_said, .ref m_kept, .int 0, .int 0, .int 0, .int 0, .int 0, .int 0, .ref m_stepNode, .ref m_stepDrops, .ref m_stepHour, .ref m_stepNext, .ref m_stepPass, .int 0, .int 0, .int 0, .ref m_bestPass, .ref m_far, .ref m_waited, .ref m_servers, .ref m_images, .ref m_isMade])), (m_said, .inl (kA 0, 360, .inl (upd (fun _ => 0) (8 : Int32).toNatClampNeg (-1))))] sz) := by
  refine Met.ofW (cc := cX11_isJar) (maxL := 2) (ret := (some .boolean)) (by decide) rfl ?_
  intro p e s m args below meth c s₁ B hml hv
  obtain ⟨rfl, hsz, hP, hK, hD0⟩ := hv
  have hx := B.exec
  have hb := B.bytes
  have hr := B.returns
  have hts := atoms_spec (ws := wsX11_isJar) B.pre
  have hown : s.vm.findClass RX11 = some m.cls := findClass_of_methodNamed B.named
  have hlocks := B.notSynchronized
  subst hsz
  have hD := hD0.self (sz := s.heap.size)
  generalize hAe : va_A [(m0, .inr (11, [.ref m_tape, .int 0, .int 0, .ref m_sign, .ref m_length, .ref m_clause, .ref m_clauses, .ref m_chain, .int 0, .int 0, .int 0, .int 0, .int 0, .int 0, .int 0, .ref m_open, .int 0, .ref m_stack, .int 0, .ref m_word, .ref m_said, .ref m_kept, .int 0, .int 0, .int 0, .int 0, .int 0, .int 0, .ref m_stepNode, .ref m_stepDrops, .ref m_stepHour, .ref m_stepNext, .ref m_stepPass, .int 0, .int 0, .int 0, .ref m_bestPass, .ref m_far, .ref m_waited, .ref m_servers, .ref m_images, .ref m_isMade])), (m_said, .inl (kA 0, 360, .inl (upd (fun _ => 0) (8 : Int32).toNatClampNeg (-1))))] s.heap.size = A at hD ⊢
  have hA : ∀ q : Nat, s.heap.size ≤ q → A q := fun q h => by rw [← hAe]; exact Or.inr h
  have hS : va_S A s.heap s.heap [] := va_S.rf
  have hP : va_P (dC, dI) vwCl [(m0, .inr (11, [.ref m_tape, .int 0, .int 0, .ref m_sign, .ref m_length, .ref m_clause, .ref m_clauses, .ref m_chain, .int 0, .int 0, .int 0, .int 0, .int 0, .int 0, .int 0, .ref m_open, .int 0, .ref m_stack, .int 0, .ref m_word, .ref m_said, .ref m_kept, .int 0, .int 0, .int 0, .int 0, .int 0, .int 0, .ref m_stepNode, .ref m_stepDrops, .ref m_stepHour, .ref m_stepNext, .ref m_stepPass, .int 0, .int 0, .int 0, .ref m_bestPass, .ref m_far, .ref m_waited, .ref m_servers, .ref m_images, .ref m_isMade])), (m_said, .inl (kA 0, 360, .inl (upd (fun _ => 0) (8 : Int32).toNatClampNeg (-1))))] s.heap := hP
  have hl := lv_entry ([.ref m0, .int n]) (n := 2) (Nat.le_of_ble_eq_true rfl)
  rw [lg_entry_eq]
  generalize (lg_sl ([.ref m0, .int n]) ++ List.replicate (2 - (lg_sl ([.ref m0, .int n])).length) Slot.unset).toArray = ls at hl ⊢
  have hl : lv_has ls 2 [(0, .ref m0), (1, .int n)] := hl
  refine lv_iload_n hx hb dX11_isJar_0 rfl (lv_at hl 1 rfl) ?_
  refine lv_if_lt (tgt := 18) hx hb dX11_isJar_1 (by decide) (fun c_1 => ?_) (fun c_1 => ?_)
  · refine lv_iconst (v := 0) hx hb dX11_isJar_18 (by decide) ?_
    have hP9 := hP.sub (ws' := [(m0, .inr (11, [.ref m_tape, .int 0, .int 0, .ref m_sign, .ref m_length, .ref m_clause, .ref m_clauses, .ref m_chain, .int 0, .int 0, .int 0, .int 0, .int 0, .int 0, .int 0, .ref m_open, .int 0, .ref m_stack, .int 0, .ref m_word, .ref m_said, .ref m_kept, .int 0, .int 0, .int 0, .int 0, .int 0, .int 0, .ref m_stepNode, .ref m_stepDrops, .ref m_stepHour, .ref m_stepNext, .ref m_stepPass, .int 0, .int 0, .int 0, .ref m_bestPass, .ref m_far, .ref m_waited, .ref m_servers, .ref m_images, .ref m_isMade])), (m_said, .inl (kA 0, 360, .inl (upd (fun _ => 0) (8 : Int32).toNatClampNeg (-1))))]) [0, 1] rfl
    have hD9 := hD.sub (ws' := [(m0, .inr (11, [.ref m_tape, .int 0, .int 0, .ref m_sign, .ref m_length, .ref m_clause, .ref m_clauses, .ref m_chain, .int 0, .int 0, .int 0, .int 0, .int 0, .int 0, .int 0, .ref m_open, .int 0, .ref m_stack, .int 0, .ref m_word, .ref m_said, .ref m_kept, .int 0, .int 0, .int 0, .int 0, .int 0, .int 0, .ref m_stepNode, .ref m_stepDrops, .ref m_stepHour, .ref m_stepNext, .ref m_stepPass, .int 0, .int 0, .int 0, .ref m_bestPass, .ref m_far, .ref m_waited, .ref m_servers, .ref m_images, .ref m_isMade])), (m_said, .inl (kA 0, 360, .inl (upd (fun _ => 0) (8 : Int32).toNatClampNeg (-1))))]) [0, 1] (by decide) rfl
    refine W.widen (k := 0) (n := 0) (Nat.le_of_ble_eq_true rfl) (Nat.le_of_ble_eq_true rfl) ?_
    exact W.zret (v := 0) hx hb hr rfl (fun t ht hW => ⟨⟨0, (), rfl, rfl, by rw [ht]; exact hP9, hD9⟩, hS.F ht⟩) hS.2.2 dX11_isJar_19
  · refine lv_iload_n hx hb dX11_isJar_4 rfl (lv_at hl 1 rfl) ?_
    refine lv_aload_n hx hb dX11_isJar_5 rfl (lv_at hl 0 rfl) ?_
    refine va_get (D := (dC, dI)) (ci := 11) (v := .ref m_said) (C := RX11) (T := TX11) (N := 42) hx hb hts iX11_isJar_X11 hown hK.1 hP 0 rfl rfl 20 (by decide) (kX11_isJar_1 hts) (fun _ h9 => h9) rfl dX11_isJar_6 ?_
    refine lv_iconst (v := 2) hx hb dX11_isJar_9 (by decide) ?_
    refine va_iald hx hb hK.1 hP 1 0 rfl rfl (vpd (by decide)) dX11_isJar_10 ?_
    refine zi 0 rfl ?_
    refine lv_icmp_ge (tgt := 18) hx hb dX11_isJar_11 (by decide) (fun c_2 => ?_) (fun c_2 => ?_)
    · refine lv_iconst (v := 0) hx hb dX11_isJar_18 (by decide) ?_
      have hP9 := hP.sub (ws' := [(m0, .inr (11, [.ref m_tape, .int 0, .int 0, .ref m_sign, .ref m_length, .ref m_clause, .ref m_clauses, .ref m_chain, .int 0, .int 0, .int 0, .int 0, .int 0, .int 0, .int 0, .ref m_open, .int 0, .ref m_stack, .int 0, .ref m_word, .ref m_said, .ref m_kept, .int 0, .int 0, .int 0, .int 0, .int 0, .int 0, .ref m_stepNode, .ref m_stepDrops, .ref m_stepHour, .ref m_stepNext, .ref m_stepPass, .int 0, .int 0, .int 0, .ref m_bestPass, .ref m_far, .ref m_waited, .ref m_servers, .ref m_images, .ref m_isMade])), (m_said, .inl (kA 0, 360, .inl (upd (fun _ => 0) (8 : Int32).toNatClampNeg (-1))))]) [0, 1] rfl
      have hD9 := hD.sub (ws' := [(m0, .inr (11, [.ref m_tape, .int 0, .int 0, .ref m_sign, .ref m_length, .ref m_clause, .ref m_clauses, .ref m_chain, .int 0, .int 0, .int 0, .int 0, .int 0, .int 0, .int 0, .ref m_open, .int 0, .ref m_stack, .int 0, .ref m_word, .ref m_said, .ref m_kept, .int 0, .int 0, .int 0, .int 0, .int 0, .int 0, .ref m_stepNode, .ref m_stepDrops, .ref m_stepHour, .ref m_stepNext, .ref m_stepPass, .int 0, .int 0, .int 0, .ref m_bestPass, .ref m_far, .ref m_waited, .ref m_servers, .ref m_images, .ref m_isMade])), (m_said, .inl (kA 0, 360, .inl (upd (fun _ => 0) (8 : Int32).toNatClampNeg (-1))))]) [0, 1] (by decide) rfl
      refine W.widen (k := 0) (n := 0) (Nat.le_of_ble_eq_true rfl) (Nat.le_of_ble_eq_true rfl) ?_
      exact W.zret (v := 0) hx hb hr rfl (fun t ht hW => ⟨⟨0, (), rfl, rfl, by rw [ht]; exact hP9, hD9⟩, hS.F ht⟩) hS.2.2 dX11_isJar_19
    · refine lv_iconst (v := 1) hx hb dX11_isJar_14 (by decide) ?_
      refine lv_goto (tgt := 19) hx hb dX11_isJar_15 (by decide) ?_
      have hP9 := hP.sub (ws' := [(m0, .inr (11, [.ref m_tape, .int 0, .int 0, .ref m_sign, .ref m_length, .ref m_clause, .ref m_clauses, .ref m_chain, .int 0, .int 0, .int 0, .int 0, .int 0, .int 0, .int 0, .ref m_open, .int 0, .ref m_stack, .int 0, .ref m_word, .ref m_said, .ref m_kept, .int 0, .int 0, .int 0, .int 0, .int 0, .int 0, .ref m_stepNode, .ref m_stepDrops, .ref m_stepHour, .ref m_stepNext, .ref m_stepPass, .int 0, .int 0, .int 0, .ref m_bestPass, .ref m_far, .ref m_waited, .ref m_servers, .ref m_images, .ref m_isMade])), (m_said, .inl (kA 0, 360, .inl (upd (fun _ => 0) (8 : Int32).toNatClampNeg (-1))))]) [0, 1] rfl
      have hD9 := hD.sub (ws' := [(m0, .inr (11, [.ref m_tape, .int 0, .int 0, .ref m_sign, .ref m_length, .ref m_clause, .ref m_clauses, .ref m_chain, .int 0, .int 0, .int 0, .int 0, .int 0, .int 0, .int 0, .ref m_open, .int 0, .ref m_stack, .int 0, .ref m_word, .ref m_said, .ref m_kept, .int 0, .int 0, .int 0, .int 0, .int 0, .int 0, .ref m_stepNode, .ref m_stepDrops, .ref m_stepHour, .ref m_stepNext, .ref m_stepPass, .int 0, .int 0, .int 0, .ref m_bestPass, .ref m_far, .ref m_waited, .ref m_servers, .ref m_images, .ref m_isMade])), (m_said, .inl (kA 0, 360, .inl (upd (fun _ => 0) (8 : Int32).toNatClampNeg (-1))))]) [0, 1] (by decide) rfl
      refine W.widen (k := 0) (n := 0) (Nat.le_of_ble_eq_true rfl) (Nat.le_of_ble_eq_true rfl) ?_
      exact W.zret (v := 1) hx hb hr rfl (fun t ht hW => ⟨⟨1, (), rfl, (absurd (Int32.not_lt.mp c_1) c_2), by rw [ht]; exact hP9, hD9⟩, hS.F ht⟩) hS.2.2 dX11_isJar_19
set_option maxHeartbeats 4000000 in
set_option maxRecDepth 100000 in
theorem mX11_isLaw (l : Launch) (dC : Nat → ClassId) (dI : Nat → Nat → Nat) (kA : Nat → ClassId) (sz : Nat) (m0 : Nat) (m_tape : Nat) (m_sign : Nat) (m_length : Nat) (m_clause : Nat) (m_clauses : Nat) (m_chain : Nat) (m_open : Nat) (m_stack : Nat) (m_word : Nat) (m_said : Nat) (m_kept : Nat) (m_stepNode : Nat) (m_stepDrops : Nat) (m_stepHour : Nat) (m_stepNext : Nat) (m_stepPass : Nat) (m_bestPass : Nat) (m_far : Nat) (m_waited : Nat) (m_servers : Nat) (m_images : Nat) (m_isMade : Nat) (n : Int32)  : Met l yX11_isLaw wsX11_isLaw ({ frames := 0, cells := 0, slots := 0, locals := 0 }) (zPc dC dI kA sz [.ref m0, .int n] [(m0, .inr (11, [.ref m_tape, .int 0, .int 0, .ref m_sign, .ref m_length, .ref m_clause, .ref m_clauses, .ref m_chain, .int 0, .int 0, .int 0, .int 0, .int 0, .int 0, .int 0, .ref m_open, .int 0, .ref m_stack, .int 0, .ref m_word, .ref m_said, .ref m_kept, .int 0, .int 0, .int 0, .int 0, .int 0, .int 0, .ref m_stepNode, .ref m_stepDrops, .ref m_stepHour, .ref m_stepNext, .ref m_stepPass, .int 0, .int 0, .int 0, .ref m_bestPass, .ref m_far, .ref m_waited, .ref m_servers, .ref m_images, .ref m_isMade]))]) (va_Qi (fun (r : Int32) (u : Unit) => r = 0) (zB dC dI (va_A [(m0, .inr (11, [.ref m_tape, .int 0, .int 0, .ref m_sign, .ref m_length, .ref m_clause, .ref m_clauses, .ref m_chain, .int 0, .int 0, .int 0, .int 0, .int 0, .int 0, .int 0, .ref m_open, .int 0, .ref m_stack, .int 0, .ref m_word, .ref m_said, .ref m_kept, .int 0, .int 0, .int 0, .int 0, .int 0, .int 0, .ref m_stepNode, .ref m_stepDrops, .ref m_stepHour, .ref m_stepNext, .ref m_stepPass, .int 0, .int 0, .int 0, .ref m_bestPass, .ref m_far, .ref m_waited, .ref m_servers, .ref m_images, .ref m_isMade]))] sz) (fun (u : Unit) => [(m0, .inr (11, [.ref m_tape, .int 0, .int 0, .ref m_sign, .ref m_length, .ref m_clause, .ref m_clauses, .ref m_chain, .int 0, .int 0, .int 0, .int 0, .int 0, .int 0, .int 0, .ref m_open, .int 0, .ref m_stack, .int 0, .ref m_word, .ref m_said, .ref m_kept, .int 0, .int 0, .int 0, .int 0, .int 0, .int 0, .ref m_stepNode, .ref m_stepDrops, .ref m_stepHour, .ref m_stepNext, .ref m_stepPass, .int 0, .int 0, .int 0, .ref m_bestPass, .ref m_far, .ref m_waited, .ref m_servers, .ref m_images, .ref m_isMade]))])) (va_A [(m0, .inr (11, [.ref m_tape, .int 0, .int 0, .ref m_sign, .ref m_length, .ref m_clause, .ref m_clauses, .ref m_chain, .int 0, .int 0, .int 0, .int 0, .int 0, .int 0, .int 0, .ref m_open, .int 0, .ref m_stack, .int 0, .ref m_word, .ref m_said, .ref m_kept, .int 0, .int 0, .int 0, .int 0, .int 0, .int 0, .ref m_stepNode, .ref m_stepDrops, .ref m_stepHour, .ref m_stepNext, .ref m_stepPass, .int 0, .int 0, .int 0, .ref m_bestPass, .ref m_far, .ref m_waited, .ref m_servers, .ref m_images, .ref m_isMade]))] sz)) 0 0 (va_A [(m0, .inr (11, [.ref m_tape, .int 0, .int 0, .ref m_sign, .ref m_length, .ref m_clause, .ref m_clauses, .ref m_chain, .int 0, .int 0, .int 0, .int 0, .int 0, .int 0, .int 0, .ref m_open, .int 0, .ref m_stack, .int 0, .ref m_word, .ref m_said, .ref m_kept, .int 0, .int 0, .int 0, .int 0, .int 0, .int 0, .ref m_stepNode, .ref m_stepDrops, .ref m_stepHour, .ref m_stepNext, .ref m_stepPass, .int 0, .int 0, .int 0, .ref m_bestPass, .ref m_far, .ref m_waited, .ref m_servers, .ref m_images, .ref m_isMade]))] sz) := by
  refine Met.ofW (cc := cX11_isLaw) (maxL := 2) (ret := (some .boolean)) (by decide) rfl ?_
  intro p e s m args below meth c s₁ B hml hv
  obtain ⟨rfl, hsz, hP, hK, hD0⟩ := hv
  have hx := B.exec
  have hb := B.bytes
  have hr := B.returns
  have hts := atoms_spec (ws := wsX11_isLaw) B.pre
  have hown : s.vm.findClass RX11 = some m.cls := findClass_of_methodNamed B.named
  have hlocks := B.notSynchronized
  subst hsz
  have hD := hD0.self (sz := s.heap.size)
  generalize hAe : va_A [(m0, .inr (11, [.ref m_tape, .int 0, .int 0, .ref m_sign, .ref m_length, .ref m_clause, .ref m_clauses, .ref m_chain, .int 0, .int 0, .int 0, .int 0, .int 0, .int 0, .int 0, .ref m_open, .int 0, .ref m_stack, .int 0, .ref m_word, .ref m_said, .ref m_kept, .int 0, .int 0, .int 0, .int 0, .int 0, .int 0, .ref m_stepNode, .ref m_stepDrops, .ref m_stepHour, .ref m_stepNext, .ref m_stepPass, .int 0, .int 0, .int 0, .ref m_bestPass, .ref m_far, .ref m_waited, .ref m_servers, .ref m_images, .ref m_isMade]))] s.heap.size = A at hD ⊢
  have hA : ∀ q : Nat, s.heap.size ≤ q → A q := fun q h => by rw [← hAe]; exact Or.inr h
  have hS : va_S A s.heap s.heap [] := va_S.rf
  have hP : va_P (dC, dI) vwCl [(m0, .inr (11, [.ref m_tape, .int 0, .int 0, .ref m_sign, .ref m_length, .ref m_clause, .ref m_clauses, .ref m_chain, .int 0, .int 0, .int 0, .int 0, .int 0, .int 0, .int 0, .ref m_open, .int 0, .ref m_stack, .int 0, .ref m_word, .ref m_said, .ref m_kept, .int 0, .int 0, .int 0, .int 0, .int 0, .int 0, .ref m_stepNode, .ref m_stepDrops, .ref m_stepHour, .ref m_stepNext, .ref m_stepPass, .int 0, .int 0, .int 0, .ref m_bestPass, .ref m_far, .ref m_waited, .ref m_servers, .ref m_images, .ref m_isMade]))] s.heap := hP
  have hl := lv_entry ([.ref m0, .int n]) (n := 2) (Nat.le_of_ble_eq_true rfl)
  rw [lg_entry_eq]
  generalize (lg_sl ([.ref m0, .int n]) ++ List.replicate (2 - (lg_sl ([.ref m0, .int n])).length) Slot.unset).toArray = ls at hl ⊢
  have hl : lv_has ls 2 [(0, .ref m0), (1, .int n)] := hl
  refine lv_iload_n hx hb dX11_isLaw_0 rfl (lv_at hl 1 rfl) ?_
  refine lv_if_lt (tgt := 16) hx hb dX11_isLaw_1 (by decide) (fun c_1 => ?_) (fun c_1 => ?_)
  · refine lv_iconst (v := 0) hx hb dX11_isLaw_16 (by decide) ?_
    have hP9 := hP.sub (ws' := [(m0, .inr (11, [.ref m_tape, .int 0, .int 0, .ref m_sign, .ref m_length, .ref m_clause, .ref m_clauses, .ref m_chain, .int 0, .int 0, .int 0, .int 0, .int 0, .int 0, .int 0, .ref m_open, .int 0, .ref m_stack, .int 0, .ref m_word, .ref m_said, .ref m_kept, .int 0, .int 0, .int 0, .int 0, .int 0, .int 0, .ref m_stepNode, .ref m_stepDrops, .ref m_stepHour, .ref m_stepNext, .ref m_stepPass, .int 0, .int 0, .int 0, .ref m_bestPass, .ref m_far, .ref m_waited, .ref m_servers, .ref m_images, .ref m_isMade]))]) [0] rfl
    have hD9 := hD.sub (ws' := [(m0, .inr (11, [.ref m_tape, .int 0, .int 0, .ref m_sign, .ref m_length, .ref m_clause, .ref m_clauses, .ref m_chain, .int 0, .int 0, .int 0, .int 0, .int 0, .int 0, .int 0, .ref m_open, .int 0, .ref m_stack, .int 0, .ref m_word, .ref m_said, .ref m_kept, .int 0, .int 0, .int 0, .int 0, .int 0, .int 0, .ref m_stepNode, .ref m_stepDrops, .ref m_stepHour, .ref m_stepNext, .ref m_stepPass, .int 0, .int 0, .int 0, .ref m_bestPass, .ref m_far, .ref m_waited, .ref m_servers, .ref m_images, .ref m_isMade]))]) [0] (by decide) rfl
    refine W.widen (k := 0) (n := 0) (Nat.le_of_ble_eq_true rfl) (Nat.le_of_ble_eq_true rfl) ?_
    exact W.zret (v := 0) hx hb hr rfl (fun t ht hW => ⟨⟨0, (), rfl, rfl, by rw [ht]; exact hP9, hD9⟩, hS.F ht⟩) hS.2.2 dX11_isLaw_17
  · refine lv_iload_n hx hb dX11_isLaw_4 rfl (lv_at hl 1 rfl) ?_
    refine lv_aload_n hx hb dX11_isLaw_5 rfl (lv_at hl 0 rfl) ?_
    refine va_get (D := (dC, dI)) (ci := 11) (v := .int 0) (C := RX11) (T := TX11) (N := 42) hx hb hts iX11_isLaw_X11 hown hK.1 hP 0 rfl rfl 2 (by decide) (kX11_isLaw_1 hts) (fun _ h9 => h9) rfl dX11_isLaw_6 ?_
    refine lv_icmp_ge (tgt := 16) hx hb dX11_isLaw_9 (by decide) (fun c_2 => ?_) (fun c_2 => ?_)
    · refine lv_iconst (v := 0) hx hb dX11_isLaw_16 (by decide) ?_
      have hP9 := hP.sub (ws' := [(m0, .inr (11, [.ref m_tape, .int 0, .int 0, .ref m_sign, .ref m_length, .ref m_clause, .ref m_clauses, .ref m_chain, .int 0, .int 0, .int 0, .int 0, .int 0, .int 0, .int 0, .ref m_open, .int 0, .ref m_stack, .int 0, .ref m_word, .ref m_said, .ref m_kept, .int 0, .int 0, .int 0, .int 0, .int 0, .int 0, .ref m_stepNode, .ref m_stepDrops, .ref m_stepHour, .ref m_stepNext, .ref m_stepPass, .int 0, .int 0, .int 0, .ref m_bestPass, .ref m_far, .ref m_waited, .ref m_servers, .ref m_images, .ref m_isMade]))]) [0] rfl
      have hD9 := hD.sub (ws' := [(m0, .inr (11, [.ref m_tape, .int 0, .int 0, .ref m_sign, .ref m_length, .ref m_clause, .ref m_clauses, .ref m_chain, .int 0, .int 0, .int 0, .int 0, .int 0, .int 0, .int 0, .ref m_open, .int 0, .ref m_stack, .int 0, .ref m_word, .ref m_said, .ref m_kept, .int 0, .int 0, .int 0, .int 0, .int 0, .int 0, .ref m_stepNode, .ref m_stepDrops, .ref m_stepHour, .ref m_stepNext, .ref m_stepPass, .int 0, .int 0, .int 0, .ref m_bestPass, .ref m_far, .ref m_waited, .ref m_servers, .ref m_images, .ref m_isMade]))]) [0] (by decide) rfl
      refine W.widen (k := 0) (n := 0) (Nat.le_of_ble_eq_true rfl) (Nat.le_of_ble_eq_true rfl) ?_
      exact W.zret (v := 0) hx hb hr rfl (fun t ht hW => ⟨⟨0, (), rfl, rfl, by rw [ht]; exact hP9, hD9⟩, hS.F ht⟩) hS.2.2 dX11_isLaw_17
    · refine lv_iconst (v := 1) hx hb dX11_isLaw_12 (by decide) ?_
      refine lv_goto (tgt := 17) hx hb dX11_isLaw_13 (by decide) ?_
      have hP9 := hP.sub (ws' := [(m0, .inr (11, [.ref m_tape, .int 0, .int 0, .ref m_sign, .ref m_length, .ref m_clause, .ref m_clauses, .ref m_chain, .int 0, .int 0, .int 0, .int 0, .int 0, .int 0, .int 0, .ref m_open, .int 0, .ref m_stack, .int 0, .ref m_word, .ref m_said, .ref m_kept, .int 0, .int 0, .int 0, .int 0, .int 0, .int 0, .ref m_stepNode, .ref m_stepDrops, .ref m_stepHour, .ref m_stepNext, .ref m_stepPass, .int 0, .int 0, .int 0, .ref m_bestPass, .ref m_far, .ref m_waited, .ref m_servers, .ref m_images, .ref m_isMade]))]) [0] rfl
      have hD9 := hD.sub (ws' := [(m0, .inr (11, [.ref m_tape, .int 0, .int 0, .ref m_sign, .ref m_length, .ref m_clause, .ref m_clauses, .ref m_chain, .int 0, .int 0, .int 0, .int 0, .int 0, .int 0, .int 0, .ref m_open, .int 0, .ref m_stack, .int 0, .ref m_word, .ref m_said, .ref m_kept, .int 0, .int 0, .int 0, .int 0, .int 0, .int 0, .ref m_stepNode, .ref m_stepDrops, .ref m_stepHour, .ref m_stepNext, .ref m_stepPass, .int 0, .int 0, .int 0, .ref m_bestPass, .ref m_far, .ref m_waited, .ref m_servers, .ref m_images, .ref m_isMade]))]) [0] (by decide) rfl
      refine W.widen (k := 0) (n := 0) (Nat.le_of_ble_eq_true rfl) (Nat.le_of_ble_eq_true rfl) ?_
      exact W.zret (v := 1) hx hb hr rfl (fun t ht hW => ⟨⟨1, (), rfl, (absurd (Int32.not_lt.mp c_1) c_2), by rw [ht]; exact hP9, hD9⟩, hS.F ht⟩) hS.2.2 dX11_isLaw_17
set_option maxHeartbeats 4000000 in
set_option maxRecDepth 100000 in
theorem mX11_stands (l : Launch) (dC : Nat → ClassId) (dI : Nat → Nat → Nat) (kA : Nat → ClassId) (sz : Nat) (m0 : Nat) (m_tape : Nat) (m_sign : Nat) (m_length : Nat) (m_clause : Nat) (m_clauses : Nat) (m_chain : Nat) (m_open : Nat) (m_stack : Nat) (m_word : Nat) (m_said : Nat) (m_kept : Nat) (m_stepNode : Nat) (m_stepDrops : Nat) (m_stepHour : Nat) (m_stepNext : Nat) (m_stepPass : Nat) (m_bestPass : Nat) (m_far : Nat) (m_waited : Nat) (m_servers : Nat) (m_images : Nat) (m_isMade : Nat) (n : Int32)  : Met l yX11_stands wsX11_stands ({ frames := 1, cells := 0, slots := 0, locals := 21 }) (zPc dC dI kA sz [.ref m0, .int n] [(m0, .inr (11, [.ref m_tape, .int 0, .int 0, .ref m_sign, .ref m_length, .ref m_clause, .ref m_clauses, .ref m_chain, .int 0, .int 0, .int 0, .int 0, .int 0, .int 0, .int 0, .ref m_open, .int 0, .ref m_stack, .int 0, .ref m_word, .ref m_said, .ref m_kept, .int 0, .int 0, .int 0, .int 0, .int 0, .int 0, .ref m_stepNode, .ref m_stepDrops, .ref m_stepHour, .ref m_stepNext, .ref m_stepPass, .int 0, .int 0, .int 0, .ref m_bestPass, .ref m_far, .ref m_waited, .ref m_servers, .ref m_images, .ref m_isMade])), (m_said, .inl (kA 0, 360, .inl (upd (fun _ => 0) (8 : Int32).toNatClampNeg (-1))))]) (va_Qi (fun (r : Int32) (u : Unit) => r = 0) (zB dC dI (va_A [(m0, .inr (11, [.ref m_tape, .int 0, .int 0, .ref m_sign, .ref m_length, .ref m_clause, .ref m_clauses, .ref m_chain, .int 0, .int 0, .int 0, .int 0, .int 0, .int 0, .int 0, .ref m_open, .int 0, .ref m_stack, .int 0, .ref m_word, .ref m_said, .ref m_kept, .int 0, .int 0, .int 0, .int 0, .int 0, .int 0, .ref m_stepNode, .ref m_stepDrops, .ref m_stepHour, .ref m_stepNext, .ref m_stepPass, .int 0, .int 0, .int 0, .ref m_bestPass, .ref m_far, .ref m_waited, .ref m_servers, .ref m_images, .ref m_isMade])), (m_said, .inl (kA 0, 360, .inl (upd (fun _ => 0) (8 : Int32).toNatClampNeg (-1))))] sz) (fun (u : Unit) => [(m0, .inr (11, [.ref m_tape, .int 0, .int 0, .ref m_sign, .ref m_length, .ref m_clause, .ref m_clauses, .ref m_chain, .int 0, .int 0, .int 0, .int 0, .int 0, .int 0, .int 0, .ref m_open, .int 0, .ref m_stack, .int 0, .ref m_word, .ref m_said, .ref m_kept, .int 0, .int 0, .int 0, .int 0, .int 0, .int 0, .ref m_stepNode, .ref m_stepDrops, .ref m_stepHour, .ref m_stepNext, .ref m_stepPass, .int 0, .int 0, .int 0, .ref m_bestPass, .ref m_far, .ref m_waited, .ref m_servers, .ref m_images, .ref m_isMade])), (m_said, .inl (kA 0, 360, .inl (upd (fun _ => 0) (8 : Int32).toNatClampNeg (-1))))])) (va_A [(m0, .inr (11, [.ref m_tape, .int 0, .int 0, .ref m_sign, .ref m_length, .ref m_clause, .ref m_clauses, .ref m_chain, .int 0, .int 0, .int 0, .int 0, .int 0, .int 0, .int 0, .ref m_open, .int 0, .ref m_stack, .int 0, .ref m_word, .ref m_said, .ref m_kept, .int 0, .int 0, .int 0, .int 0, .int 0, .int 0, .ref m_stepNode, .ref m_stepDrops, .ref m_stepHour, .ref m_stepNext, .ref m_stepPass, .int 0, .int 0, .int 0, .ref m_bestPass, .ref m_far, .ref m_waited, .ref m_servers, .ref m_images, .ref m_isMade])), (m_said, .inl (kA 0, 360, .inl (upd (fun _ => 0) (8 : Int32).toNatClampNeg (-1))))] sz)) 0 0 (va_A [(m0, .inr (11, [.ref m_tape, .int 0, .int 0, .ref m_sign, .ref m_length, .ref m_clause, .ref m_clauses, .ref m_chain, .int 0, .int 0, .int 0, .int 0, .int 0, .int 0, .int 0, .ref m_open, .int 0, .ref m_stack, .int 0, .ref m_word, .ref m_said, .ref m_kept, .int 0, .int 0, .int 0, .int 0, .int 0, .int 0, .ref m_stepNode, .ref m_stepDrops, .ref m_stepHour, .ref m_stepNext, .ref m_stepPass, .int 0, .int 0, .int 0, .ref m_bestPass, .ref m_far, .ref m_waited, .ref m_servers, .ref m_images, .ref m_isMade])), (m_said, .inl (kA 0, 360, .inl (upd (fun _ => 0) (8 : Int32).toNatClampNeg (-1))))] sz) := by
  refine Met.ofW (cc := cX11_stands) (maxL := 2) (ret := (some .boolean)) (by decide) rfl ?_
  intro p e s m args below meth c s₁ B hml hv
  obtain ⟨rfl, hsz, hP, hK, hD0⟩ := hv
  have hx := B.exec
  have hb := B.bytes
  have hr := B.returns
  have hts := atoms_spec (ws := wsX11_stands) B.pre
  have hown : s.vm.findClass RX11 = some m.cls := findClass_of_methodNamed B.named
  have hlocks := B.notSynchronized
  subst hsz
  have hD := hD0.self (sz := s.heap.size)
  generalize hAe : va_A [(m0, .inr (11, [.ref m_tape, .int 0, .int 0, .ref m_sign, .ref m_length, .ref m_clause, .ref m_clauses, .ref m_chain, .int 0, .int 0, .int 0, .int 0, .int 0, .int 0, .int 0, .ref m_open, .int 0, .ref m_stack, .int 0, .ref m_word, .ref m_said, .ref m_kept, .int 0, .int 0, .int 0, .int 0, .int 0, .int 0, .ref m_stepNode, .ref m_stepDrops, .ref m_stepHour, .ref m_stepNext, .ref m_stepPass, .int 0, .int 0, .int 0, .ref m_bestPass, .ref m_far, .ref m_waited, .ref m_servers, .ref m_images, .ref m_isMade])), (m_said, .inl (kA 0, 360, .inl (upd (fun _ => 0) (8 : Int32).toNatClampNeg (-1))))] s.heap.size = A at hD ⊢
  have hA : ∀ q : Nat, s.heap.size ≤ q → A q := fun q h => by rw [← hAe]; exact Or.inr h
  have hS : va_S A s.heap s.heap [] := va_S.rf
  have hP : va_P (dC, dI) vwCl [(m0, .inr (11, [.ref m_tape, .int 0, .int 0, .ref m_sign, .ref m_length, .ref m_clause, .ref m_clauses, .ref m_chain, .int 0, .int 0, .int 0, .int 0, .int 0, .int 0, .int 0, .ref m_open, .int 0, .ref m_stack, .int 0, .ref m_word, .ref m_said, .ref m_kept, .int 0, .int 0, .int 0, .int 0, .int 0, .int 0, .ref m_stepNode, .ref m_stepDrops, .ref m_stepHour, .ref m_stepNext, .ref m_stepPass, .int 0, .int 0, .int 0, .ref m_bestPass, .ref m_far, .ref m_waited, .ref m_servers, .ref m_images, .ref m_isMade])), (m_said, .inl (kA 0, 360, .inl (upd (fun _ => 0) (8 : Int32).toNatClampNeg (-1))))] s.heap := hP
  have hl := lv_entry ([.ref m0, .int n]) (n := 2) (Nat.le_of_ble_eq_true rfl)
  rw [lg_entry_eq]
  generalize (lg_sl ([.ref m0, .int n]) ++ List.replicate (2 - (lg_sl ([.ref m0, .int n])).length) Slot.unset).toArray = ls at hl ⊢
  have hl : lv_has ls 2 [(0, .ref m0), (1, .int n)] := hl
  refine lv_aload_n hx hb dX11_stands_0 rfl (lv_at hl 0 rfl) ?_
  refine lv_iload_n hx hb dX11_stands_1 rfl (lv_at hl 1 rfl) ?_
  refine z_i (wr := []) (va_runV (As := [.int n]) (rest := []) ⟨hx, hb, hml, hown, hts⟩ (mX11_isJar l dC dI kA _ m0 m_tape m_sign m_length m_clause m_clauses m_chain m_open m_stack m_word m_said m_kept m_stepNode m_stepDrops m_stepHour m_stepNext m_stepPass m_bestPass m_far m_waited m_servers m_images m_isMade n) (cwV 1 hts gX11_stands_X11_isJar rfl rfl rfl (by decide +kernel) ⟨(Nat.le_of_ble_eq_true rfl), (Nat.le_of_ble_eq_true rfl)⟩) ⟨zPc.blind, va_recv hK.1 hP (ci := 11) (q0 := 0) rfl rfl, zPre hK (hP.sub [0, 1] rfl) (hD.sub [0, 1] (by decide) rfl)⟩ rfl rfl hl.1 rfl (lv_room (Nat.le_of_ble_eq_true rfl)) dX11_stands_2 ⟨(Nat.le_of_ble_eq_true rfl), (Nat.le_of_ble_eq_true rfl)⟩) hP hD hS hA [0, 1] [] rfl rfl (by decide) (by decide) (fun r3 u1 H locs hw2 hP hD hS => ?_)
  obtain rfl := hw2
  have hP : va_P (dC, dI) vwCl [(m0, .inr (11, [.ref m_tape, .int 0, .int 0, .ref m_sign, .ref m_length, .ref m_clause, .ref m_clauses, .ref m_chain, .int 0, .int 0, .int 0, .int 0, .int 0, .int 0, .int 0, .ref m_open, .int 0, .ref m_stack, .int 0, .ref m_word, .ref m_said, .ref m_kept, .int 0, .int 0, .int 0, .int 0, .int 0, .int 0, .ref m_stepNode, .ref m_stepDrops, .ref m_stepHour, .ref m_stepNext, .ref m_stepPass, .int 0, .int 0, .int 0, .ref m_bestPass, .ref m_far, .ref m_waited, .ref m_servers, .ref m_images, .ref m_isMade])), (m_said, .inl (kA 0, 360, .inl (upd (fun _ => 0) (8 : Int32).toNatClampNeg (-1))))] H := hP
  have hD : va_D A [(m0, .inr (11, [.ref m_tape, .int 0, .int 0, .ref m_sign, .ref m_length, .ref m_clause, .ref m_clauses, .ref m_chain, .int 0, .int 0, .int 0, .int 0, .int 0, .int 0, .int 0, .ref m_open, .int 0, .ref m_stack, .int 0, .ref m_word, .ref m_said, .ref m_kept, .int 0, .int 0, .int 0, .int 0, .int 0, .int 0, .ref m_stepNode, .ref m_stepDrops, .ref m_stepHour, .ref m_stepNext, .ref m_stepPass, .int 0, .int 0, .int 0, .ref m_bestPass, .ref m_far, .ref m_waited, .ref m_servers, .ref m_images, .ref m_isMade])), (m_said, .inl (kA 0, 360, .inl (upd (fun _ => 0) (8 : Int32).toNatClampNeg (-1))))] := hD
  refine lv_if_eq (tgt := 23) hx hb dX11_stands_5 (by decide) (fun _ => ?_) (fun c_4 => absurd (by decide) c_4)
  refine lv_iconst (v := 0) hx hb dX11_stands_23 (by decide) ?_
  have hP9 := hP.sub (ws' := [(m0, .inr (11, [.ref m_tape, .int 0, .int 0, .ref m_sign, .ref m_length, .ref m_clause, .ref m_clauses, .ref m_chain, .int 0, .int 0, .int 0, .int 0, .int 0, .int 0, .int 0, .ref m_open, .int 0, .ref m_stack, .int 0, .ref m_word, .ref m_said, .ref m_kept, .int 0, .int 0, .int 0, .int 0, .int 0, .int 0, .ref m_stepNode, .ref m_stepDrops, .ref m_stepHour, .ref m_stepNext, .ref m_stepPass, .int 0, .int 0, .int 0, .ref m_bestPass, .ref m_far, .ref m_waited, .ref m_servers, .ref m_images, .ref m_isMade])), (m_said, .inl (kA 0, 360, .inl (upd (fun _ => 0) (8 : Int32).toNatClampNeg (-1))))]) [0, 1] rfl
  have hD9 := hD.sub (ws' := [(m0, .inr (11, [.ref m_tape, .int 0, .int 0, .ref m_sign, .ref m_length, .ref m_clause, .ref m_clauses, .ref m_chain, .int 0, .int 0, .int 0, .int 0, .int 0, .int 0, .int 0, .ref m_open, .int 0, .ref m_stack, .int 0, .ref m_word, .ref m_said, .ref m_kept, .int 0, .int 0, .int 0, .int 0, .int 0, .int 0, .ref m_stepNode, .ref m_stepDrops, .ref m_stepHour, .ref m_stepNext, .ref m_stepPass, .int 0, .int 0, .int 0, .ref m_bestPass, .ref m_far, .ref m_waited, .ref m_servers, .ref m_images, .ref m_isMade])), (m_said, .inl (kA 0, 360, .inl (upd (fun _ => 0) (8 : Int32).toNatClampNeg (-1))))]) [0, 1] (by decide) rfl
  refine W.widen (k := 0) (n := 0) (Nat.le_of_ble_eq_true rfl) (Nat.le_of_ble_eq_true rfl) ?_
  exact W.zret (v := 0) hx hb hr rfl (fun t ht hW => ⟨⟨0, (), rfl, rfl, by rw [ht]; exact hP9, hD9⟩, hS.F ht⟩) hS.2.2 dX11_stands_24
set_option maxHeartbeats 4000000 in
set_option maxRecDepth 100000 in
theorem mX11_canTry (l : Launch) (dC : Nat → ClassId) (dI : Nat → Nat → Nat) (kA : Nat → ClassId) (sz : Nat) (m0 : Nat) (m_tape : Nat) (m_sign : Nat) (m_length : Nat) (m_clause : Nat) (m_clauses : Nat) (m_chain : Nat) (m_open : Nat) (m_stack : Nat) (m_word : Nat) (m_said : Nat) (m_kept : Nat) (m_stepNode : Nat) (m_stepDrops : Nat) (m_stepHour : Nat) (m_stepNext : Nat) (m_stepPass : Nat) (m_bestPass : Nat) (m_far : Nat) (m_waited : Nat) (m_servers : Nat) (m_images : Nat) (m_isMade : Nat) (p0 : Int32) (p1 : Int32) (p2 : Int32) (p3 : Int32) (p4 : Int32)  : Met l yX11_canTry wsX11_canTry ({ frames := 1, cells := 0, slots := 0, locals := 21 }) (zPc dC dI kA sz [.ref m0, .int p0, .int p1, .int p2, .int p3, .int p4] [(m0, .inr (11, [.ref m_tape, .int 0, .int 0, .ref m_sign, .ref m_length, .ref m_clause, .ref m_clauses, .ref m_chain, .int 0, .int 0, .int 0, .int 0, .int 0, .int 0, .int 0, .ref m_open, .int 0, .ref m_stack, .int 0, .ref m_word, .ref m_said, .ref m_kept, .int 0, .int 0, .int 0, .int 0, .int 0, .int 0, .ref m_stepNode, .ref m_stepDrops, .ref m_stepHour, .ref m_stepNext, .ref m_stepPass, .int 0, .int 0, .int 0, .ref m_bestPass, .ref m_far, .ref m_waited, .ref m_servers, .ref m_images, .ref m_isMade]))]) (va_Qi (fun (r : Int32) (u : Unit) => r = 0) (zB dC dI (va_A [(m0, .inr (11, [.ref m_tape, .int 0, .int 0, .ref m_sign, .ref m_length, .ref m_clause, .ref m_clauses, .ref m_chain, .int 0, .int 0, .int 0, .int 0, .int 0, .int 0, .int 0, .ref m_open, .int 0, .ref m_stack, .int 0, .ref m_word, .ref m_said, .ref m_kept, .int 0, .int 0, .int 0, .int 0, .int 0, .int 0, .ref m_stepNode, .ref m_stepDrops, .ref m_stepHour, .ref m_stepNext, .ref m_stepPass, .int 0, .int 0, .int 0, .ref m_bestPass, .ref m_far, .ref m_waited, .ref m_servers, .ref m_images, .ref m_isMade]))] sz) (fun (u : Unit) => [(m0, .inr (11, [.ref m_tape, .int 0, .int 0, .ref m_sign, .ref m_length, .ref m_clause, .ref m_clauses, .ref m_chain, .int 0, .int 0, .int 0, .int 0, .int 0, .int 0, .int 0, .ref m_open, .int 0, .ref m_stack, .int 0, .ref m_word, .ref m_said, .ref m_kept, .int 0, .int 0, .int 0, .int 0, .int 0, .int 0, .ref m_stepNode, .ref m_stepDrops, .ref m_stepHour, .ref m_stepNext, .ref m_stepPass, .int 0, .int 0, .int 0, .ref m_bestPass, .ref m_far, .ref m_waited, .ref m_servers, .ref m_images, .ref m_isMade]))])) (va_A [(m0, .inr (11, [.ref m_tape, .int 0, .int 0, .ref m_sign, .ref m_length, .ref m_clause, .ref m_clauses, .ref m_chain, .int 0, .int 0, .int 0, .int 0, .int 0, .int 0, .int 0, .ref m_open, .int 0, .ref m_stack, .int 0, .ref m_word, .ref m_said, .ref m_kept, .int 0, .int 0, .int 0, .int 0, .int 0, .int 0, .ref m_stepNode, .ref m_stepDrops, .ref m_stepHour, .ref m_stepNext, .ref m_stepPass, .int 0, .int 0, .int 0, .ref m_bestPass, .ref m_far, .ref m_waited, .ref m_servers, .ref m_images, .ref m_isMade]))] sz)) 0 0 (va_A [(m0, .inr (11, [.ref m_tape, .int 0, .int 0, .ref m_sign, .ref m_length, .ref m_clause, .ref m_clauses, .ref m_chain, .int 0, .int 0, .int 0, .int 0, .int 0, .int 0, .int 0, .ref m_open, .int 0, .ref m_stack, .int 0, .ref m_word, .ref m_said, .ref m_kept, .int 0, .int 0, .int 0, .int 0, .int 0, .int 0, .ref m_stepNode, .ref m_stepDrops, .ref m_stepHour, .ref m_stepNext, .ref m_stepPass, .int 0, .int 0, .int 0, .ref m_bestPass, .ref m_far, .ref m_waited, .ref m_servers, .ref m_images, .ref m_isMade]))] sz) := by
  refine Met.ofW (cc := cX11_canTry) (maxL := 6) (ret := (some .boolean)) (by decide) rfl ?_
  intro p e s m args below meth c s₁ B hml hv
  obtain ⟨rfl, hsz, hP, hK, hD0⟩ := hv
  have hx := B.exec
  have hb := B.bytes
  have hr := B.returns
  have hts := atoms_spec (ws := wsX11_canTry) B.pre
  have hown : s.vm.findClass RX11 = some m.cls := findClass_of_methodNamed B.named
  have hlocks := B.notSynchronized
  subst hsz
  have hD := hD0.self (sz := s.heap.size)
  generalize hAe : va_A [(m0, .inr (11, [.ref m_tape, .int 0, .int 0, .ref m_sign, .ref m_length, .ref m_clause, .ref m_clauses, .ref m_chain, .int 0, .int 0, .int 0, .int 0, .int 0, .int 0, .int 0, .ref m_open, .int 0, .ref m_stack, .int 0, .ref m_word, .ref m_said, .ref m_kept, .int 0, .int 0, .int 0, .int 0, .int 0, .int 0, .ref m_stepNode, .ref m_stepDrops, .ref m_stepHour, .ref m_stepNext, .ref m_stepPass, .int 0, .int 0, .int 0, .ref m_bestPass, .ref m_far, .ref m_waited, .ref m_servers, .ref m_images, .ref m_isMade]))] s.heap.size = A at hD ⊢
  have hA : ∀ q : Nat, s.heap.size ≤ q → A q := fun q h => by rw [← hAe]; exact Or.inr h
  have hS : va_S A s.heap s.heap [] := va_S.rf
  have hP : va_P (dC, dI) vwCl [(m0, .inr (11, [.ref m_tape, .int 0, .int 0, .ref m_sign, .ref m_length, .ref m_clause, .ref m_clauses, .ref m_chain, .int 0, .int 0, .int 0, .int 0, .int 0, .int 0, .int 0, .ref m_open, .int 0, .ref m_stack, .int 0, .ref m_word, .ref m_said, .ref m_kept, .int 0, .int 0, .int 0, .int 0, .int 0, .int 0, .ref m_stepNode, .ref m_stepDrops, .ref m_stepHour, .ref m_stepNext, .ref m_stepPass, .int 0, .int 0, .int 0, .ref m_bestPass, .ref m_far, .ref m_waited, .ref m_servers, .ref m_images, .ref m_isMade]))] s.heap := hP
  have hl := lv_entry ([.ref m0, .int p0, .int p1, .int p2, .int p3, .int p4]) (n := 6) (Nat.le_of_ble_eq_true rfl)
  rw [lg_entry_eq]
  generalize (lg_sl ([.ref m0, .int p0, .int p1, .int p2, .int p3, .int p4]) ++ List.replicate (6 - (lg_sl ([.ref m0, .int p0, .int p1, .int p2, .int p3, .int p4])).length) Slot.unset).toArray = ls at hl ⊢
  have hl : lv_has ls 6 [(0, .ref m0), (1, .int p0), (2, .int p1), (3, .int p2), (4, .int p3), (5, .int p4)] := hl
  refine lv_aload_n hx hb dX11_canTry_0 rfl (lv_at hl 0 rfl) ?_
  refine lv_iload_n hx hb dX11_canTry_1 rfl (lv_at hl 1 rfl) ?_
  refine z_i (wr := []) (va_runV (As := [.int p0]) (rest := []) ⟨hx, hb, hml, hown, hts⟩ (mX11_isLaw l dC dI kA _ m0 m_tape m_sign m_length m_clause m_clauses m_chain m_open m_stack m_word m_said m_kept m_stepNode m_stepDrops m_stepHour m_stepNext m_stepPass m_bestPass m_far m_waited m_servers m_images m_isMade p0) (cwV 1 hts gX11_canTry_X11_isLaw rfl rfl rfl (by decide +kernel) ⟨(Nat.le_of_ble_eq_true rfl), (Nat.le_of_ble_eq_true rfl)⟩) ⟨zPc.blind, va_recv hK.1 hP (ci := 11) (q0 := 0) rfl rfl, zPre hK (hP.sub [0] rfl) (hD.sub [0] (by decide) rfl)⟩ rfl rfl hl.1 rfl (lv_room (Nat.le_of_ble_eq_true rfl)) dX11_canTry_2 ⟨(Nat.le_of_ble_eq_true rfl), (Nat.le_of_ble_eq_true rfl)⟩) hP hD hS hA [0] [] rfl rfl (by decide) (by decide) (fun r3 u1 H locs hw2 hP hD hS => ?_)
  obtain rfl := hw2
  have hP : va_P (dC, dI) vwCl [(m0, .inr (11, [.ref m_tape, .int 0, .int 0, .ref m_sign, .ref m_length, .ref m_clause, .ref m_clauses, .ref m_chain, .int 0, .int 0, .int 0, .int 0, .int 0, .int 0, .int 0, .ref m_open, .int 0, .ref m_stack, .int 0, .ref m_word, .ref m_said, .ref m_kept, .int 0, .int 0, .int 0, .int 0, .int 0, .int 0, .ref m_stepNode, .ref m_stepDrops, .ref m_stepHour, .ref m_stepNext, .ref m_stepPass, .int 0, .int 0, .int 0, .ref m_bestPass, .ref m_far, .ref m_waited, .ref m_servers, .ref m_images, .ref m_isMade]))] H := hP
  have hD : va_D A [(m0, .inr (11, [.ref m_tape, .int 0, .int 0, .ref m_sign, .ref m_length, .ref m_clause, .ref m_clauses, .ref m_chain, .int 0, .int 0, .int 0, .int 0, .int 0, .int 0, .int 0, .ref m_open, .int 0, .ref m_stack, .int 0, .ref m_word, .ref m_said, .ref m_kept, .int 0, .int 0, .int 0, .int 0, .int 0, .int 0, .ref m_stepNode, .ref m_stepDrops, .ref m_stepHour, .ref m_stepNext, .ref m_stepPass, .int 0, .int 0, .int 0, .ref m_bestPass, .ref m_far, .ref m_waited, .ref m_servers, .ref m_images, .ref m_isMade]))] := hD
  refine lv_if_eq (tgt := 45) hx hb dX11_canTry_5 (by decide) (fun _ => ?_) (fun c_4 => absurd (by decide) c_4)
  refine lv_iconst (v := 0) hx hb dX11_canTry_45 (by decide) ?_
  have hP9 := hP.sub (ws' := [(m0, .inr (11, [.ref m_tape, .int 0, .int 0, .ref m_sign, .ref m_length, .ref m_clause, .ref m_clauses, .ref m_chain, .int 0, .int 0, .int 0, .int 0, .int 0, .int 0, .int 0, .ref m_open, .int 0, .ref m_stack, .int 0, .ref m_word, .ref m_said, .ref m_kept, .int 0, .int 0, .int 0, .int 0, .int 0, .int 0, .ref m_stepNode, .ref m_stepDrops, .ref m_stepHour, .ref m_stepNext, .ref m_stepPass, .int 0, .int 0, .int 0, .ref m_bestPass, .ref m_far, .ref m_waited, .ref m_servers, .ref m_images, .ref m_isMade]))]) [0] rfl
  have hD9 := hD.sub (ws' := [(m0, .inr (11, [.ref m_tape, .int 0, .int 0, .ref m_sign, .ref m_length, .ref m_clause, .ref m_clauses, .ref m_chain, .int 0, .int 0, .int 0, .int 0, .int 0, .int 0, .int 0, .ref m_open, .int 0, .ref m_stack, .int 0, .ref m_word, .ref m_said, .ref m_kept, .int 0, .int 0, .int 0, .int 0, .int 0, .int 0, .ref m_stepNode, .ref m_stepDrops, .ref m_stepHour, .ref m_stepNext, .ref m_stepPass, .int 0, .int 0, .int 0, .ref m_bestPass, .ref m_far, .ref m_waited, .ref m_servers, .ref m_images, .ref m_isMade]))]) [0] (by decide) rfl
  refine W.widen (k := 0) (n := 0) (Nat.le_of_ble_eq_true rfl) (Nat.le_of_ble_eq_true rfl) ?_
  exact W.zret (v := 0) hx hb hr rfl (fun t ht hW => ⟨⟨0, (), rfl, rfl, by rw [ht]; exact hP9, hD9⟩, hS.F ht⟩) hS.2.2 dX11_canTry_46
set_option maxHeartbeats 4000000 in
set_option maxRecDepth 100000 in
theorem mX11_monthAt (l : Launch) (dC : Nat → ClassId) (dI : Nat → Nat → Nat) (kA : Nat → ClassId) (sz : Nat) (m0 : Nat) (m_tape : Nat) (m_sign : Nat) (m_length : Nat) (m_clause : Nat) (m_clauses : Nat) (m_chain : Nat) (m_open : Nat) (m_stack : Nat) (m_word : Nat) (m_said : Nat) (m_kept : Nat) (m_stepNode : Nat) (m_stepDrops : Nat) (m_stepHour : Nat) (m_stepNext : Nat) (m_stepPass : Nat) (m_bestPass : Nat) (m_far : Nat) (m_waited : Nat) (m_servers : Nat) (m_images : Nat) (m_isMade : Nat)  : Met l yX11_monthAt wsX11_monthAt ({ frames := 0, cells := 0, slots := 0, locals := 0 }) (zPc dC dI kA sz [.ref m0, .int 0] [(m0, .inr (11, [.ref m_tape, .int 0, .int 0, .ref m_sign, .ref m_length, .ref m_clause, .ref m_clauses, .ref m_chain, .int 0, .int 0, .int 0, .int 0, .int 0, .int 0, .int 0, .ref m_open, .int 0, .ref m_stack, .int 0, .ref m_word, .ref m_said, .ref m_kept, .int 0, .int 0, .int 0, .int 0, .int 0, .int 0, .ref m_stepNode, .ref m_stepDrops, .ref m_stepHour, .ref m_stepNext, .ref m_stepPass, .int 0, .int 0, .int 0, .ref m_bestPass, .ref m_far, .ref m_waited, .ref m_servers, .ref m_images, .ref m_isMade])), (m_said, .inl (kA 0, 360, .inl (upd (fun _ => 0) (8 : Int32).toNatClampNeg (-1))))]) (va_Qi (fun (r : Int32) (u : Unit) => r = 0) (zB dC dI (va_A [(m0, .inr (11, [.ref m_tape, .int 0, .int 0, .ref m_sign, .ref m_length, .ref m_clause, .ref m_clauses, .ref m_chain, .int 0, .int 0, .int 0, .int 0, .int 0, .int 0, .int 0, .ref m_open, .int 0, .ref m_stack, .int 0, .ref m_word, .ref m_said, .ref m_kept, .int 0, .int 0, .int 0, .int 0, .int 0, .int 0, .ref m_stepNode, .ref m_stepDrops, .ref m_stepHour, .ref m_stepNext, .ref m_stepPass, .int 0, .int 0, .int 0, .ref m_bestPass, .ref m_far, .ref m_waited, .ref m_servers, .ref m_images, .ref m_isMade])), (m_said, .inl (kA 0, 360, .inl (upd (fun _ => 0) (8 : Int32).toNatClampNeg (-1))))] sz) (fun (u : Unit) => [(m0, .inr (11, [.ref m_tape, .int 0, .int 0, .ref m_sign, .ref m_length, .ref m_clause, .ref m_clauses, .ref m_chain, .int 0, .int 0, .int 0, .int 0, .int 0, .int 0, .int 0, .ref m_open, .int 0, .ref m_stack, .int 0, .ref m_word, .ref m_said, .ref m_kept, .int 0, .int 0, .int 0, .int 0, .int 0, .int 0, .ref m_stepNode, .ref m_stepDrops, .ref m_stepHour, .ref m_stepNext, .ref m_stepPass, .int 0, .int 0, .int 0, .ref m_bestPass, .ref m_far, .ref m_waited, .ref m_servers, .ref m_images, .ref m_isMade])), (m_said, .inl (kA 0, 360, .inl (upd (fun _ => 0) (8 : Int32).toNatClampNeg (-1))))])) (va_A [(m0, .inr (11, [.ref m_tape, .int 0, .int 0, .ref m_sign, .ref m_length, .ref m_clause, .ref m_clauses, .ref m_chain, .int 0, .int 0, .int 0, .int 0, .int 0, .int 0, .int 0, .ref m_open, .int 0, .ref m_stack, .int 0, .ref m_word, .ref m_said, .ref m_kept, .int 0, .int 0, .int 0, .int 0, .int 0, .int 0, .ref m_stepNode, .ref m_stepDrops, .ref m_stepHour, .ref m_stepNext, .ref m_stepPass, .int 0, .int 0, .int 0, .ref m_bestPass, .ref m_far, .ref m_waited, .ref m_servers, .ref m_images, .ref m_isMade])), (m_said, .inl (kA 0, 360, .inl (upd (fun _ => 0) (8 : Int32).toNatClampNeg (-1))))] sz)) 0 0 (va_A [(m0, .inr (11, [.ref m_tape, .int 0, .int 0, .ref m_sign, .ref m_length, .ref m_clause, .ref m_clauses, .ref m_chain, .int 0, .int 0, .int 0, .int 0, .int 0, .int 0, .int 0, .ref m_open, .int 0, .ref m_stack, .int 0, .ref m_word, .ref m_said, .ref m_kept, .int 0, .int 0, .int 0, .int 0, .int 0, .int 0, .ref m_stepNode, .ref m_stepDrops, .ref m_stepHour, .ref m_stepNext, .ref m_stepPass, .int 0, .int 0, .int 0, .ref m_bestPass, .ref m_far, .ref m_waited, .ref m_servers, .ref m_images, .ref m_isMade])), (m_said, .inl (kA 0, 360, .inl (upd (fun _ => 0) (8 : Int32).toNatClampNeg (-1))))] sz) := by
  refine Met.ofW (cc := cX11_monthAt) (maxL := 2) (ret := (some .int)) (by decide) rfl ?_
  intro p e s m args below meth c s₁ B hml hv
  obtain ⟨rfl, hsz, hP, hK, hD0⟩ := hv
  have hx := B.exec
  have hb := B.bytes
  have hr := B.returns
  have hts := atoms_spec (ws := wsX11_monthAt) B.pre
  have hown : s.vm.findClass RX11 = some m.cls := findClass_of_methodNamed B.named
  have hlocks := B.notSynchronized
  subst hsz
  have hD := hD0.self (sz := s.heap.size)
  generalize hAe : va_A [(m0, .inr (11, [.ref m_tape, .int 0, .int 0, .ref m_sign, .ref m_length, .ref m_clause, .ref m_clauses, .ref m_chain, .int 0, .int 0, .int 0, .int 0, .int 0, .int 0, .int 0, .ref m_open, .int 0, .ref m_stack, .int 0, .ref m_word, .ref m_said, .ref m_kept, .int 0, .int 0, .int 0, .int 0, .int 0, .int 0, .ref m_stepNode, .ref m_stepDrops, .ref m_stepHour, .ref m_stepNext, .ref m_stepPass, .int 0, .int 0, .int 0, .ref m_bestPass, .ref m_far, .ref m_waited, .ref m_servers, .ref m_images, .ref m_isMade])), (m_said, .inl (kA 0, 360, .inl (upd (fun _ => 0) (8 : Int32).toNatClampNeg (-1))))] s.heap.size = A at hD ⊢
  have hA : ∀ q : Nat, s.heap.size ≤ q → A q := fun q h => by rw [← hAe]; exact Or.inr h
  have hS : va_S A s.heap s.heap [] := va_S.rf
  have hP : va_P (dC, dI) vwCl [(m0, .inr (11, [.ref m_tape, .int 0, .int 0, .ref m_sign, .ref m_length, .ref m_clause, .ref m_clauses, .ref m_chain, .int 0, .int 0, .int 0, .int 0, .int 0, .int 0, .int 0, .ref m_open, .int 0, .ref m_stack, .int 0, .ref m_word, .ref m_said, .ref m_kept, .int 0, .int 0, .int 0, .int 0, .int 0, .int 0, .ref m_stepNode, .ref m_stepDrops, .ref m_stepHour, .ref m_stepNext, .ref m_stepPass, .int 0, .int 0, .int 0, .ref m_bestPass, .ref m_far, .ref m_waited, .ref m_servers, .ref m_images, .ref m_isMade])), (m_said, .inl (kA 0, 360, .inl (upd (fun _ => 0) (8 : Int32).toNatClampNeg (-1))))] s.heap := hP
  have hl := lv_entry ([.ref m0, .int 0]) (n := 2) (Nat.le_of_ble_eq_true rfl)
  rw [lg_entry_eq]
  generalize (lg_sl ([.ref m0, .int 0]) ++ List.replicate (2 - (lg_sl ([.ref m0, .int 0])).length) Slot.unset).toArray = ls at hl ⊢
  have hl : lv_has ls 2 [(0, .ref m0), (1, .int 0)] := hl
  refine lv_aload_n hx hb dX11_monthAt_0 rfl (lv_at hl 0 rfl) ?_
  refine va_get (D := (dC, dI)) (ci := 11) (v := .ref m_said) (C := RX11) (T := TX11) (N := 42) hx hb hts iX11_monthAt_X11 hown hK.1 hP 0 rfl rfl 20 (by decide) (kX11_monthAt_1 hts) (fun _ h9 => h9) rfl dX11_monthAt_1 ?_
  refine lv_bipush (v := 6) hx hb dX11_monthAt_4 (by decide) ?_
  refine va_iald hx hb hK.1 hP 1 0 rfl rfl (vpd (by decide)) dX11_monthAt_6 ?_
  refine zi 0 rfl ?_
  refine lv_iload_n hx hb dX11_monthAt_7 rfl (lv_at hl 1 rfl) ?_
  refine lv_bipush (v := 24) hx hb dX11_monthAt_8 (by decide) ?_
  refine lv_idiv hx hb dX11_monthAt_10 (by decide) ?_
  refine zi 0 (by decide) ?_
  refine lv_bipush (v := 30) hx hb dX11_monthAt_11 (by decide) ?_
  refine lv_idiv hx hb dX11_monthAt_13 (by decide) ?_
  refine zi 0 (by decide) ?_
  refine lv_iadd hx hb dX11_monthAt_14 ?_
  refine zi 0 (by decide) ?_
  refine lv_bipush (v := 12) hx hb dX11_monthAt_15 (by decide) ?_
  refine lv_irem hx hb dX11_monthAt_17 (by decide) ?_
  refine zi 0 (by decide) ?_
  have hP9 := hP.sub (ws' := [(m0, .inr (11, [.ref m_tape, .int 0, .int 0, .ref m_sign, .ref m_length, .ref m_clause, .ref m_clauses, .ref m_chain, .int 0, .int 0, .int 0, .int 0, .int 0, .int 0, .int 0, .ref m_open, .int 0, .ref m_stack, .int 0, .ref m_word, .ref m_said, .ref m_kept, .int 0, .int 0, .int 0, .int 0, .int 0, .int 0, .ref m_stepNode, .ref m_stepDrops, .ref m_stepHour, .ref m_stepNext, .ref m_stepPass, .int 0, .int 0, .int 0, .ref m_bestPass, .ref m_far, .ref m_waited, .ref m_servers, .ref m_images, .ref m_isMade])), (m_said, .inl (kA 0, 360, .inl (upd (fun _ => 0) (8 : Int32).toNatClampNeg (-1))))]) [0, 1] rfl
  have hD9 := hD.sub (ws' := [(m0, .inr (11, [.ref m_tape, .int 0, .int 0, .ref m_sign, .ref m_length, .ref m_clause, .ref m_clauses, .ref m_chain, .int 0, .int 0, .int 0, .int 0, .int 0, .int 0, .int 0, .ref m_open, .int 0, .ref m_stack, .int 0, .ref m_word, .ref m_said, .ref m_kept, .int 0, .int 0, .int 0, .int 0, .int 0, .int 0, .ref m_stepNode, .ref m_stepDrops, .ref m_stepHour, .ref m_stepNext, .ref m_stepPass, .int 0, .int 0, .int 0, .ref m_bestPass, .ref m_far, .ref m_waited, .ref m_servers, .ref m_images, .ref m_isMade])), (m_said, .inl (kA 0, 360, .inl (upd (fun _ => 0) (8 : Int32).toNatClampNeg (-1))))]) [0, 1] (by decide) rfl
  refine W.widen (k := 0) (n := 0) (Nat.le_of_ble_eq_true rfl) (Nat.le_of_ble_eq_true rfl) ?_
  exact W.iret (v := 0) hx hb hr (fun t ht hW => ⟨⟨0, (), rfl, rfl, by rw [ht]; exact hP9, hD9⟩, hS.F ht⟩) hS.2.2 dX11_monthAt_18
set_option maxHeartbeats 4000000 in
set_option maxRecDepth 100000 in
theorem mX11_see (l : Launch) (dC : Nat → ClassId) (dI : Nat → Nat → Nat) (kA : Nat → ClassId) (sz : Nat) (m0 : Nat) (m_tape : Nat) (m_sign : Nat) (m_length : Nat) (m_clause : Nat) (m_clauses : Nat) (m_chain : Nat) (m_open : Nat) (m_stack : Nat) (m_word : Nat) (m_said : Nat) (m_kept : Nat) (m_stepNode : Nat) (m_stepDrops : Nat) (m_stepHour : Nat) (m_stepNext : Nat) (m_stepPass : Nat) (m_bestPass : Nat) (m_far : Nat) (m_waited : Nat) (m_servers : Nat) (m_images : Nat) (m_isMade : Nat)  : Met l yX11_see wsX11_see ({ frames := 0, cells := 0, slots := 0, locals := 0 }) (zPc dC dI kA sz [.ref m0] [(m0, .inr (11, [.ref m_tape, .int 0, .int 0, .ref m_sign, .ref m_length, .ref m_clause, .ref m_clauses, .ref m_chain, .int 0, .int 0, .int 0, .int 0, .int 0, .int 0, .int 0, .ref m_open, .int 0, .ref m_stack, .int 0, .ref m_word, .ref m_said, .ref m_kept, .int 0, .int 0, .int 0, .int 0, .int 0, .int 0, .ref m_stepNode, .ref m_stepDrops, .ref m_stepHour, .ref m_stepNext, .ref m_stepPass, .int 0, .int 0, .int 0, .ref m_bestPass, .ref m_far, .ref m_waited, .ref m_servers, .ref m_images, .ref m_isMade]))]) (va_Qi (fun (r : Int32) (u : Unit) => r = (-1)) (zB dC dI (va_A [(m0, .inr (11, [.ref m_tape, .int 0, .int 0, .ref m_sign, .ref m_length, .ref m_clause, .ref m_clauses, .ref m_chain, .int 0, .int 0, .int 0, .int 0, .int 0, .int 0, .int 0, .ref m_open, .int 0, .ref m_stack, .int 0, .ref m_word, .ref m_said, .ref m_kept, .int 0, .int 0, .int 0, .int 0, .int 0, .int 0, .ref m_stepNode, .ref m_stepDrops, .ref m_stepHour, .ref m_stepNext, .ref m_stepPass, .int 0, .int 0, .int 0, .ref m_bestPass, .ref m_far, .ref m_waited, .ref m_servers, .ref m_images, .ref m_isMade]))] sz) (fun (u : Unit) => [(m0, .inr (11, [.ref m_tape, .int 0, .int 0, .ref m_sign, .ref m_length, .ref m_clause, .ref m_clauses, .ref m_chain, .int 0, .int 0, .int 0, .int 0, .int 0, .int 0, .int 0, .ref m_open, .int 0, .ref m_stack, .int 0, .ref m_word, .ref m_said, .ref m_kept, .int 0, .int 0, .int 0, .int 0, .int 0, .int 0, .ref m_stepNode, .ref m_stepDrops, .ref m_stepHour, .ref m_stepNext, .ref m_stepPass, .int 0, .int 0, .int 0, .ref m_bestPass, .ref m_far, .ref m_waited, .ref m_servers, .ref m_images, .ref m_isMade]))])) (va_A [(m0, .inr (11, [.ref m_tape, .int 0, .int 0, .ref m_sign, .ref m_length, .ref m_clause, .ref m_clauses, .ref m_chain, .int 0, .int 0, .int 0, .int 0, .int 0, .int 0, .int 0, .ref m_open, .int 0, .ref m_stack, .int 0, .ref m_word, .ref m_said, .ref m_kept, .int 0, .int 0, .int 0, .int 0, .int 0, .int 0, .ref m_stepNode, .ref m_stepDrops, .ref m_stepHour, .ref m_stepNext, .ref m_stepPass, .int 0, .int 0, .int 0, .ref m_bestPass, .ref m_far, .ref m_waited, .ref m_servers, .ref m_images, .ref m_isMade]))] sz)) 0 0 (va_A [(m0, .inr (11, [.ref m_tape, .int 0, .int 0, .ref m_sign, .ref m_length, .ref m_clause, .ref m_clauses, .ref m_chain, .int 0, .int 0, .int 0, .int 0, .int 0, .int 0, .int 0, .ref m_open, .int 0, .ref m_stack, .int 0, .ref m_word, .ref m_said, .ref m_kept, .int 0, .int 0, .int 0, .int 0, .int 0, .int 0, .ref m_stepNode, .ref m_stepDrops, .ref m_stepHour, .ref m_stepNext, .ref m_stepPass, .int 0, .int 0, .int 0, .ref m_bestPass, .ref m_far, .ref m_waited, .ref m_servers, .ref m_images, .ref m_isMade]))] sz) := by
  refine Met.ofW (cc := cX11_see) (maxL := 1) (ret := (some .int)) (by decide) rfl ?_
  intro p e s m args below meth c s₁ B hml hv
  obtain ⟨rfl, hsz, hP, hK, hD0⟩ := hv
  have hx := B.exec
  have hb := B.bytes
  have hr := B.returns
  have hts := atoms_spec (ws := wsX11_see) B.pre
  have hown : s.vm.findClass RX11 = some m.cls := findClass_of_methodNamed B.named
  have hlocks := B.notSynchronized
  subst hsz
  have hD := hD0.self (sz := s.heap.size)
  generalize hAe : va_A [(m0, .inr (11, [.ref m_tape, .int 0, .int 0, .ref m_sign, .ref m_length, .ref m_clause, .ref m_clauses, .ref m_chain, .int 0, .int 0, .int 0, .int 0, .int 0, .int 0, .int 0, .ref m_open, .int 0, .ref m_stack, .int 0, .ref m_word, .ref m_said, .ref m_kept, .int 0, .int 0, .int 0, .int 0, .int 0, .int 0, .ref m_stepNode, .ref m_stepDrops, .ref m_stepHour, .ref m_stepNext, .ref m_stepPass, .int 0, .int 0, .int 0, .ref m_bestPass, .ref m_far, .ref m_waited, .ref m_servers, .ref m_images, .ref m_isMade]))] s.heap.size = A at hD ⊢
  have hA : ∀ q : Nat, s.heap.size ≤ q → A q := fun q h => by rw [← hAe]; exact Or.inr h
  have hS : va_S A s.heap s.heap [] := va_S.rf
  have hP : va_P (dC, dI) vwCl [(m0, .inr (11, [.ref m_tape, .int 0, .int 0, .ref m_sign, .ref m_length, .ref m_clause, .ref m_clauses, .ref m_chain, .int 0, .int 0, .int 0, .int 0, .int 0, .int 0, .int 0, .ref m_open, .int 0, .ref m_stack, .int 0, .ref m_word, .ref m_said, .ref m_kept, .int 0, .int 0, .int 0, .int 0, .int 0, .int 0, .ref m_stepNode, .ref m_stepDrops, .ref m_stepHour, .ref m_stepNext, .ref m_stepPass, .int 0, .int 0, .int 0, .ref m_bestPass, .ref m_far, .ref m_waited, .ref m_servers, .ref m_images, .ref m_isMade]))] s.heap := hP
  have hl := lv_entry ([.ref m0]) (n := 1) (Nat.le_of_ble_eq_true rfl)
  rw [lg_entry_eq]
  generalize (lg_sl ([.ref m0]) ++ List.replicate (1 - (lg_sl ([.ref m0])).length) Slot.unset).toArray = ls at hl ⊢
  have hl : lv_has ls 1 [(0, .ref m0)] := hl
  refine lv_aload_n hx hb dX11_see_0 rfl (lv_at hl 0 rfl) ?_
  refine va_get (D := (dC, dI)) (ci := 11) (v := .int 0) (C := RX11) (T := TX11) (N := 42) hx hb hts iX11_see_X11 hown hK.1 hP 0 rfl rfl 8 (by decide) (kX11_see_1 hts) (fun _ h9 => h9) rfl dX11_see_1 ?_
  refine lv_aload_n hx hb dX11_see_4 rfl (lv_at hl 0 rfl) ?_
  refine va_get (D := (dC, dI)) (ci := 11) (v := .int 0) (C := RX11) (T := TX11) (N := 42) hx hb hts iX11_see_X11 hown hK.1 hP 0 rfl rfl 1 (by decide) (kX11_see_2 hts) (fun _ h9 => h9) rfl dX11_see_5 ?_
  refine lv_icmp_ge (tgt := 38) hx hb dX11_see_8 (by decide) (fun _ => ?_) (fun c_1 => absurd (by decide) c_1)
  refine lv_aload_n hx hb dX11_see_38 rfl (lv_at hl 0 rfl) ?_
  refine va_get (D := (dC, dI)) (ci := 11) (v := .int 0) (C := RX11) (T := TX11) (N := 42) hx hb hts iX11_see_X11 hown hK.1 hP 0 rfl rfl 8 (by decide) (kX11_see_1 hts) (fun _ h9 => h9) rfl dX11_see_39 ?_
  refine lv_aload_n hx hb dX11_see_42 rfl (lv_at hl 0 rfl) ?_
  refine va_get (D := (dC, dI)) (ci := 11) (v := .int 0) (C := RX11) (T := TX11) (N := 42) hx hb hts iX11_see_X11 hown hK.1 hP 0 rfl rfl 1 (by decide) (kX11_see_2 hts) (fun _ h9 => h9) rfl dX11_see_43 ?_
  refine lv_icmp_ge (tgt := 65) hx hb dX11_see_46 (by decide) (fun _ => ?_) (fun c_2 => absurd (by decide) c_2)
  refine lv_iconst (v := (-1)) hx hb dX11_see_65 (by decide) ?_
  have hP9 := hP.sub (ws' := [(m0, .inr (11, [.ref m_tape, .int 0, .int 0, .ref m_sign, .ref m_length, .ref m_clause, .ref m_clauses, .ref m_chain, .int 0, .int 0, .int 0, .int 0, .int 0, .int 0, .int 0, .ref m_open, .int 0, .ref m_stack, .int 0, .ref m_word, .ref m_said, .ref m_kept, .int 0, .int 0, .int 0, .int 0, .int 0, .int 0, .ref m_stepNode, .ref m_stepDrops, .ref m_stepHour, .ref m_stepNext, .ref m_stepPass, .int 0, .int 0, .int 0, .ref m_bestPass, .ref m_far, .ref m_waited, .ref m_servers, .ref m_images, .ref m_isMade]))]) [0] rfl
  have hD9 := hD.sub (ws' := [(m0, .inr (11, [.ref m_tape, .int 0, .int 0, .ref m_sign, .ref m_length, .ref m_clause, .ref m_clauses, .ref m_chain, .int 0, .int 0, .int 0, .int 0, .int 0, .int 0, .int 0, .ref m_open, .int 0, .ref m_stack, .int 0, .ref m_word, .ref m_said, .ref m_kept, .int 0, .int 0, .int 0, .int 0, .int 0, .int 0, .ref m_stepNode, .ref m_stepDrops, .ref m_stepHour, .ref m_stepNext, .ref m_stepPass, .int 0, .int 0, .int 0, .ref m_bestPass, .ref m_far, .ref m_waited, .ref m_servers, .ref m_images, .ref m_isMade]))]) [0] (by decide) rfl
  refine W.widen (k := 0) (n := 0) (Nat.le_of_ble_eq_true rfl) (Nat.le_of_ble_eq_true rfl) ?_
  exact W.iret (v := (-1)) hx hb hr (fun t ht hW => ⟨⟨(-1), (), rfl, rfl, by rw [ht]; exact hP9, hD9⟩, hS.F ht⟩) hS.2.2 dX11_see_66
set_option maxHeartbeats 4000000 in
set_option maxRecDepth 100000 in
theorem mX11_isLetter (l : Launch) (dC : Nat → ClassId) (dI : Nat → Nat → Nat) (kA : Nat → ClassId) (sz : Nat) (m0 : Nat) (m_tape : Nat) (m_sign : Nat) (m_length : Nat) (m_clause : Nat) (m_clauses : Nat) (m_chain : Nat) (m_open : Nat) (m_stack : Nat) (m_word : Nat) (m_said : Nat) (m_kept : Nat) (m_stepNode : Nat) (m_stepDrops : Nat) (m_stepHour : Nat) (m_stepNext : Nat) (m_stepPass : Nat) (m_bestPass : Nat) (m_far : Nat) (m_waited : Nat) (m_servers : Nat) (m_images : Nat) (m_isMade : Nat)  : Met l yX11_isLetter wsX11_isLetter ({ frames := 0, cells := 0, slots := 0, locals := 0 }) (zPc dC dI kA sz [.ref m0, .int 0] [(m0, .inr (11, [.ref m_tape, .int 0, .int 0, .ref m_sign, .ref m_length, .ref m_clause, .ref m_clauses, .ref m_chain, .int 0, .int 0, .int 0, .int 0, .int 0, .int 0, .int 0, .ref m_open, .int 0, .ref m_stack, .int 0, .ref m_word, .ref m_said, .ref m_kept, .int 0, .int 0, .int 0, .int 0, .int 0, .int 0, .ref m_stepNode, .ref m_stepDrops, .ref m_stepHour, .ref m_stepNext, .ref m_stepPass, .int 0, .int 0, .int 0, .ref m_bestPass, .ref m_far, .ref m_waited, .ref m_servers, .ref m_images, .ref m_isMade]))]) (va_Qi (fun (r : Int32) (u : Unit) => r = 0) (zB dC dI (va_A [(m0, .inr (11, [.ref m_tape, .int 0, .int 0, .ref m_sign, .ref m_length, .ref m_clause, .ref m_clauses, .ref m_chain, .int 0, .int 0, .int 0, .int 0, .int 0, .int 0, .int 0, .ref m_open, .int 0, .ref m_stack, .int 0, .ref m_word, .ref m_said, .ref m_kept, .int 0, .int 0, .int 0, .int 0, .int 0, .int 0, .ref m_stepNode, .ref m_stepDrops, .ref m_stepHour, .ref m_stepNext, .ref m_stepPass, .int 0, .int 0, .int 0, .ref m_bestPass, .ref m_far, .ref m_waited, .ref m_servers, .ref m_images, .ref m_isMade]))] sz) (fun (u : Unit) => [(m0, .inr (11, [.ref m_tape, .int 0, .int 0, .ref m_sign, .ref m_length, .ref m_clause, .ref m_clauses, .ref m_chain, .int 0, .int 0, .int 0, .int 0, .int 0, .int 0, .int 0, .ref m_open, .int 0, .ref m_stack, .int 0, .ref m_word, .ref m_said, .ref m_kept, .int 0, .int 0, .int 0, .int 0, .int 0, .int 0, .ref m_stepNode, .ref m_stepDrops, .ref m_stepHour, .ref m_stepNext, .ref m_stepPass, .int 0, .int 0, .int 0, .ref m_bestPass, .ref m_far, .ref m_waited, .ref m_servers, .ref m_images, .ref m_isMade]))])) (va_A [(m0, .inr (11, [.ref m_tape, .int 0, .int 0, .ref m_sign, .ref m_length, .ref m_clause, .ref m_clauses, .ref m_chain, .int 0, .int 0, .int 0, .int 0, .int 0, .int 0, .int 0, .ref m_open, .int 0, .ref m_stack, .int 0, .ref m_word, .ref m_said, .ref m_kept, .int 0, .int 0, .int 0, .int 0, .int 0, .int 0, .ref m_stepNode, .ref m_stepDrops, .ref m_stepHour, .ref m_stepNext, .ref m_stepPass, .int 0, .int 0, .int 0, .ref m_bestPass, .ref m_far, .ref m_waited, .ref m_servers, .ref m_images, .ref m_isMade]))] sz)) 0 0 (va_A [(m0, .inr (11, [.ref m_tape, .int 0, .int 0, .ref m_sign, .ref m_length, .ref m_clause, .ref m_clauses, .ref m_chain, .int 0, .int 0, .int 0, .int 0, .int 0, .int 0, .int 0, .ref m_open, .int 0, .ref m_stack, .int 0, .ref m_word, .ref m_said, .ref m_kept, .int 0, .int 0, .int 0, .int 0, .int 0, .int 0, .ref m_stepNode, .ref m_stepDrops, .ref m_stepHour, .ref m_stepNext, .ref m_stepPass, .int 0, .int 0, .int 0, .ref m_bestPass, .ref m_far, .ref m_waited, .ref m_servers, .ref m_images, .ref m_isMade]))] sz) := by
  refine Met.ofW (cc := cX11_isLetter) (maxL := 2) (ret := (some .boolean)) (by decide) rfl ?_
  intro p e s m args below meth c s₁ B hml hv
  obtain ⟨rfl, hsz, hP, hK, hD0⟩ := hv
  have hx := B.exec
  have hb := B.bytes
  have hr := B.returns
  have hts := atoms_spec (ws := wsX11_isLetter) B.pre
  have hown : s.vm.findClass RX11 = some m.cls := findClass_of_methodNamed B.named
  have hlocks := B.notSynchronized
  subst hsz
  have hD := hD0.self (sz := s.heap.size)
  generalize hAe : va_A [(m0, .inr (11, [.ref m_tape, .int 0, .int 0, .ref m_sign, .ref m_length, .ref m_clause, .ref m_clauses, .ref m_chain, .int 0, .int 0, .int 0, .int 0, .int 0, .int 0, .int 0, .ref m_open, .int 0, .ref m_stack, .int 0, .ref m_word, .ref m_said, .ref m_kept, .int 0, .int 0, .int 0, .int 0, .int 0, .int 0, .ref m_stepNode, .ref m_stepDrops, .ref m_stepHour, .ref m_stepNext, .ref m_stepPass, .int 0, .int 0, .int 0, .ref m_bestPass, .ref m_far, .ref m_waited, .ref m_servers, .ref m_images, .ref m_isMade]))] s.heap.size = A at hD ⊢
  have hA : ∀ q : Nat, s.heap.size ≤ q → A q := fun q h => by rw [← hAe]; exact Or.inr h
  have hS : va_S A s.heap s.heap [] := va_S.rf
  have hP : va_P (dC, dI) vwCl [(m0, .inr (11, [.ref m_tape, .int 0, .int 0, .ref m_sign, .ref m_length, .ref m_clause, .ref m_clauses, .ref m_chain, .int 0, .int 0, .int 0, .int 0, .int 0, .int 0, .int 0, .ref m_open, .int 0, .ref m_stack, .int 0, .ref m_word, .ref m_said, .ref m_kept, .int 0, .int 0, .int 0, .int 0, .int 0, .int 0, .ref m_stepNode, .ref m_stepDrops, .ref m_stepHour, .ref m_stepNext, .ref m_stepPass, .int 0, .int 0, .int 0, .ref m_bestPass, .ref m_far, .ref m_waited, .ref m_servers, .ref m_images, .ref m_isMade]))] s.heap := hP
  have hl := lv_entry ([.ref m0, .int 0]) (n := 2) (Nat.le_of_ble_eq_true rfl)
  rw [lg_entry_eq]
  generalize (lg_sl ([.ref m0, .int 0]) ++ List.replicate (2 - (lg_sl ([.ref m0, .int 0])).length) Slot.unset).toArray = ls at hl ⊢
  have hl : lv_has ls 2 [(0, .ref m0), (1, .int 0)] := hl
  refine lv_iload_n hx hb dX11_isLetter_0 rfl (lv_at hl 1 rfl) ?_
  refine lv_aload_n hx hb dX11_isLetter_1 rfl (lv_at hl 0 rfl) ?_
  refine va_get (D := (dC, dI)) (ci := 11) (v := .int 0) (C := RX11) (T := TX11) (N := 42) hx hb hts iX11_isLetter_X11 hown hK.1 hP 0 rfl rfl 1 (by decide) (kX11_isLetter_1 hts) (fun _ h9 => h9) rfl dX11_isLetter_2 ?_
  refine lv_icmp_ge (tgt := 34) hx hb dX11_isLetter_5 (by decide) (fun _ => ?_) (fun c_1 => absurd (by decide) c_1)
  refine lv_iconst (v := 0) hx hb dX11_isLetter_34 (by decide) ?_
  have hP9 := hP.sub (ws' := [(m0, .inr (11, [.ref m_tape, .int 0, .int 0, .ref m_sign, .ref m_length, .ref m_clause, .ref m_clauses, .ref m_chain, .int 0, .int 0, .int 0, .int 0, .int 0, .int 0, .int 0, .ref m_open, .int 0, .ref m_stack, .int 0, .ref m_word, .ref m_said, .ref m_kept, .int 0, .int 0, .int 0, .int 0, .int 0, .int 0, .ref m_stepNode, .ref m_stepDrops, .ref m_stepHour, .ref m_stepNext, .ref m_stepPass, .int 0, .int 0, .int 0, .ref m_bestPass, .ref m_far, .ref m_waited, .ref m_servers, .ref m_images, .ref m_isMade]))]) [0] rfl
  have hD9 := hD.sub (ws' := [(m0, .inr (11, [.ref m_tape, .int 0, .int 0, .ref m_sign, .ref m_length, .ref m_clause, .ref m_clauses, .ref m_chain, .int 0, .int 0, .int 0, .int 0, .int 0, .int 0, .int 0, .ref m_open, .int 0, .ref m_stack, .int 0, .ref m_word, .ref m_said, .ref m_kept, .int 0, .int 0, .int 0, .int 0, .int 0, .int 0, .ref m_stepNode, .ref m_stepDrops, .ref m_stepHour, .ref m_stepNext, .ref m_stepPass, .int 0, .int 0, .int 0, .ref m_bestPass, .ref m_far, .ref m_waited, .ref m_servers, .ref m_images, .ref m_isMade]))]) [0] (by decide) rfl
  refine W.widen (k := 0) (n := 0) (Nat.le_of_ble_eq_true rfl) (Nat.le_of_ble_eq_true rfl) ?_
  exact W.zret (v := 0) hx hb hr rfl (fun t ht hW => ⟨⟨0, (), rfl, rfl, by rw [ht]; exact hP9, hD9⟩, hS.F ht⟩) hS.2.2 dX11_isLetter_35
set_option maxHeartbeats 4000000 in
set_option maxRecDepth 100000 in
theorem mX11_isWord (l : Launch) (dC : Nat → ClassId) (dI : Nat → Nat → Nat) (kA : Nat → ClassId) (sz : Nat) (m0 : Nat) (m_tape : Nat) (m_sign : Nat) (m_length : Nat) (m_clause : Nat) (m_clauses : Nat) (m_chain : Nat) (m_open : Nat) (m_stack : Nat) (m_word : Nat) (m_said : Nat) (m_kept : Nat) (m_stepNode : Nat) (m_stepDrops : Nat) (m_stepHour : Nat) (m_stepNext : Nat) (m_stepPass : Nat) (m_bestPass : Nat) (m_far : Nat) (m_waited : Nat) (m_servers : Nat) (m_images : Nat) (m_isMade : Nat) (w : Int64)  : Met l yX11_isWord wsX11_isWord ({ frames := 1, cells := 0, slots := 0, locals := 21 }) (zPc dC dI kA sz [.ref m0, .long w] [(m0, .inr (11, [.ref m_tape, .int 0, .int 0, .ref m_sign, .ref m_length, .ref m_clause, .ref m_clauses, .ref m_chain, .int 0, .int 0, .int 0, .int 0, .int 0, .int 0, .int 0, .ref m_open, .int 0, .ref m_stack, .int 0, .ref m_word, .ref m_said, .ref m_kept, .int 0, .int 0, .int 0, .int 0, .int 0, .int 0, .ref m_stepNode, .ref m_stepDrops, .ref m_stepHour, .ref m_stepNext, .ref m_stepPass, .int 0, .int 0, .int 0, .ref m_bestPass, .ref m_far, .ref m_waited, .ref m_servers, .ref m_images, .ref m_isMade]))]) (va_Qi (fun (r : Int32) (u : Unit) => r = 0) (zB dC dI (va_A [(m0, .inr (11, [.ref m_tape, .int 0, .int 0, .ref m_sign, .ref m_length, .ref m_clause, .ref m_clauses, .ref m_chain, .int 0, .int 0, .int 0, .int 0, .int 0, .int 0, .int 0, .ref m_open, .int 0, .ref m_stack, .int 0, .ref m_word, .ref m_said, .ref m_kept, .int 0, .int 0, .int 0, .int 0, .int 0, .int 0, .ref m_stepNode, .ref m_stepDrops, .ref m_stepHour, .ref m_stepNext, .ref m_stepPass, .int 0, .int 0, .int 0, .ref m_bestPass, .ref m_far, .ref m_waited, .ref m_servers, .ref m_images, .ref m_isMade]))] sz) (fun (u : Unit) => [(m0, .inr (11, [.ref m_tape, .int 0, .int 0, .ref m_sign, .ref m_length, .ref m_clause, .ref m_clauses, .ref m_chain, .int 0, .int 0, .int 0, .int 0, .int 0, .int 0, .int 0, .ref m_open, .int 0, .ref m_stack, .int 0, .ref m_word, .ref m_said, .ref m_kept, .int 0, .int 0, .int 0, .int 0, .int 0, .int 0, .ref m_stepNode, .ref m_stepDrops, .ref m_stepHour, .ref m_stepNext, .ref m_stepPass, .int 0, .int 0, .int 0, .ref m_bestPass, .ref m_far, .ref m_waited, .ref m_servers, .ref m_images, .ref m_isMade]))])) (va_A [(m0, .inr (11, [.ref m_tape, .int 0, .int 0, .ref m_sign, .ref m_length, .ref m_clause, .ref m_clauses, .ref m_chain, .int 0, .int 0, .int 0, .int 0, .int 0, .int 0, .int 0, .ref m_open, .int 0, .ref m_stack, .int 0, .ref m_word, .ref m_said, .ref m_kept, .int 0, .int 0, .int 0, .int 0, .int 0, .int 0, .ref m_stepNode, .ref m_stepDrops, .ref m_stepHour, .ref m_stepNext, .ref m_stepPass, .int 0, .int 0, .int 0, .ref m_bestPass, .ref m_far, .ref m_waited, .ref m_servers, .ref m_images, .ref m_isMade]))] sz)) 0 0 (va_A [(m0, .inr (11, [.ref m_tape, .int 0, .int 0, .ref m_sign, .ref m_length, .ref m_clause, .ref m_clauses, .ref m_chain, .int 0, .int 0, .int 0, .int 0, .int 0, .int 0, .int 0, .ref m_open, .int 0, .ref m_stack, .int 0, .ref m_word, .ref m_said, .ref m_kept, .int 0, .int 0, .int 0, .int 0, .int 0, .int 0, .ref m_stepNode, .ref m_stepDrops, .ref m_stepHour, .ref m_stepNext, .ref m_stepPass, .int 0, .int 0, .int 0, .ref m_bestPass, .ref m_far, .ref m_waited, .ref m_servers, .ref m_images, .ref m_isMade]))] sz) := by
  refine Met.ofW (cc := cX11_isWord) (maxL := 6) (ret := (some .boolean)) (by decide) rfl ?_
  intro p e s m args below meth c s₁ B hml hv
  obtain ⟨rfl, hsz, hP, hK, hD0⟩ := hv
  have hx := B.exec
  have hb := B.bytes
  have hr := B.returns
  have hts := atoms_spec (ws := wsX11_isWord) B.pre
  have hown : s.vm.findClass RX11 = some m.cls := findClass_of_methodNamed B.named
  have hlocks := B.notSynchronized
  subst hsz
  have hD := hD0.self (sz := s.heap.size)
  generalize hAe : va_A [(m0, .inr (11, [.ref m_tape, .int 0, .int 0, .ref m_sign, .ref m_length, .ref m_clause, .ref m_clauses, .ref m_chain, .int 0, .int 0, .int 0, .int 0, .int 0, .int 0, .int 0, .ref m_open, .int 0, .ref m_stack, .int 0, .ref m_word, .ref m_said, .ref m_kept, .int 0, .int 0, .int 0, .int 0, .int 0, .int 0, .ref m_stepNode, .ref m_stepDrops, .ref m_stepHour, .ref m_stepNext, .ref m_stepPass, .int 0, .int 0, .int 0, .ref m_bestPass, .ref m_far, .ref m_waited, .ref m_servers, .ref m_images, .ref m_isMade]))] s.heap.size = A at hD ⊢
  have hA : ∀ q : Nat, s.heap.size ≤ q → A q := fun q h => by rw [← hAe]; exact Or.inr h
  have hS : va_S A s.heap s.heap [] := va_S.rf
  have hP : va_P (dC, dI) vwCl [(m0, .inr (11, [.ref m_tape, .int 0, .int 0, .ref m_sign, .ref m_length, .ref m_clause, .ref m_clauses, .ref m_chain, .int 0, .int 0, .int 0, .int 0, .int 0, .int 0, .int 0, .ref m_open, .int 0, .ref m_stack, .int 0, .ref m_word, .ref m_said, .ref m_kept, .int 0, .int 0, .int 0, .int 0, .int 0, .int 0, .ref m_stepNode, .ref m_stepDrops, .ref m_stepHour, .ref m_stepNext, .ref m_stepPass, .int 0, .int 0, .int 0, .ref m_bestPass, .ref m_far, .ref m_waited, .ref m_servers, .ref m_images, .ref m_isMade]))] s.heap := hP
  have hl := lv_entry ([.ref m0, .long w]) (n := 6) (Nat.le_of_ble_eq_true rfl)
  rw [lg_entry_eq]
  generalize (lg_sl ([.ref m0, .long w]) ++ List.replicate (6 - (lg_sl ([.ref m0, .long w])).length) Slot.unset).toArray = ls at hl ⊢
  have hl : lv_has ls 6 [(0, .ref m0), (1, .long w)] := hl
  refine lv_aload_n hx hb dX11_isWord_0 rfl (lv_at hl 0 rfl) ?_
  refine z_i (wr := []) (va_runV (As := []) (rest := []) ⟨hx, hb, hml, hown, hts⟩ (mX11_see l dC dI kA _ m0 m_tape m_sign m_length m_clause m_clauses m_chain m_open m_stack m_word m_said m_kept m_stepNode m_stepDrops m_stepHour m_stepNext m_stepPass m_bestPass m_far m_waited m_servers m_images m_isMade) (cwV 0 hts gX11_isWord_X11_see rfl rfl rfl (by decide +kernel) ⟨(Nat.le_of_ble_eq_true rfl), (Nat.le_of_ble_eq_true rfl)⟩) ⟨zPc.blind, va_recv hK.1 hP (ci := 11) (q0 := 0) rfl rfl, zPre hK (hP.sub [0] rfl) (hD.sub [0] (by decide) rfl)⟩ rfl rfl hl.1 rfl (lv_room (Nat.le_of_ble_eq_true rfl)) dX11_isWord_1 ⟨(Nat.le_of_ble_eq_true rfl), (Nat.le_of_ble_eq_true rfl)⟩) hP hD hS hA [0] [] rfl rfl (by decide) (by decide) (fun r3 u1 H locs hw2 hP hD hS => ?_)
  obtain rfl := hw2
  have hP : va_P (dC, dI) vwCl [(m0, .inr (11, [.ref m_tape, .int 0, .int 0, .ref m_sign, .ref m_length, .ref m_clause, .ref m_clauses, .ref m_chain, .int 0, .int 0, .int 0, .int 0, .int 0, .int 0, .int 0, .ref m_open, .int 0, .ref m_stack, .int 0, .ref m_word, .ref m_said, .ref m_kept, .int 0, .int 0, .int 0, .int 0, .int 0, .int 0, .ref m_stepNode, .ref m_stepDrops, .ref m_stepHour, .ref m_stepNext, .ref m_stepPass, .int 0, .int 0, .int 0, .ref m_bestPass, .ref m_far, .ref m_waited, .ref m_servers, .ref m_images, .ref m_isMade]))] H := hP
  have hD : va_D A [(m0, .inr (11, [.ref m_tape, .int 0, .int 0, .ref m_sign, .ref m_length, .ref m_clause, .ref m_clauses, .ref m_chain, .int 0, .int 0, .int 0, .int 0, .int 0, .int 0, .int 0, .ref m_open, .int 0, .ref m_stack, .int 0, .ref m_word, .ref m_said, .ref m_kept, .int 0, .int 0, .int 0, .int 0, .int 0, .int 0, .ref m_stepNode, .ref m_stepDrops, .ref m_stepHour, .ref m_stepNext, .ref m_stepPass, .int 0, .int 0, .int 0, .ref m_bestPass, .ref m_far, .ref m_waited, .ref m_servers, .ref m_images, .ref m_isMade]))] := hD
  refine lv_pop hx hb dX11_isWord_4 rfl ?_
  refine lv_lconst (v := 0) hx hb dX11_isWord_5 (by decide) ?_
  refine lv_lstore_n (lv' := [(3, .long 0), (0, .ref m0), (1, .long w)]) hx hb dX11_isWord_6 rfl hl (by decide) rfl (fun ls hl => ?_)
  refine lv_iconst (v := 0) hx hb dX11_isWord_7 (by decide) ?_
  refine lv_istore (lv' := [(5, .int 0), (3, .long 0), (0, .ref m0), (1, .long w)]) hx hb dX11_isWord_8 hl (by decide) rfl (fun ls hl => ?_)
  refine lv_aload_n hx hb dX11_isWord_10 rfl (lv_at hl 2 rfl) ?_
  refine lv_aload_n hx hb dX11_isWord_11 rfl (lv_at hl 2 rfl) ?_
  refine va_get (D := (dC, dI)) (ci := 11) (v := .int 0) (C := RX11) (T := TX11) (N := 42) hx hb hts iX11_isWord_X11 hown hK.1 hP 0 rfl rfl 8 (by decide) (kX11_isWord_1 hts) (fun _ h9 => h9) rfl dX11_isWord_12 ?_
  refine lv_iload hx hb dX11_isWord_15 (lv_at hl 0 rfl) ?_
  refine lv_iadd hx hb dX11_isWord_17 ?_
  refine zi 0 (by decide) ?_
  refine z_i (wr := []) (va_runV (As := [.int 0]) (rest := []) ⟨hx, hb, hml, hown, hts⟩ (mX11_isLetter l dC dI kA _ m0 m_tape m_sign m_length m_clause m_clauses m_chain m_open m_stack m_word m_said m_kept m_stepNode m_stepDrops m_stepHour m_stepNext m_stepPass m_bestPass m_far m_waited m_servers m_images m_isMade) (cwV 1 hts gX11_isWord_X11_isLetter rfl rfl rfl (by decide +kernel) ⟨(Nat.le_of_ble_eq_true rfl), (Nat.le_of_ble_eq_true rfl)⟩) ⟨zPc.blind, va_recv hK.1 hP (ci := 11) (q0 := 0) rfl rfl, zPre hK (hP.sub [0] rfl) (hD.sub [0] (by decide) rfl)⟩ rfl rfl hl.1 rfl (lv_room (Nat.le_of_ble_eq_true rfl)) dX11_isWord_18 ⟨(Nat.le_of_ble_eq_true rfl), (Nat.le_of_ble_eq_true rfl)⟩) hP hD hS hA [0] [] rfl rfl (by decide) (by decide) (fun r6 u4 H locs hw5 hP hD hS => ?_)
  obtain rfl := hw5
  have hP : va_P (dC, dI) vwCl [(m0, .inr (11, [.ref m_tape, .int 0, .int 0, .ref m_sign, .ref m_length, .ref m_clause, .ref m_clauses, .ref m_chain, .int 0, .int 0, .int 0, .int 0, .int 0, .int 0, .int 0, .ref m_open, .int 0, .ref m_stack, .int 0, .ref m_word, .ref m_said, .ref m_kept, .int 0, .int 0, .int 0, .int 0, .int 0, .int 0, .ref m_stepNode, .ref m_stepDrops, .ref m_stepHour, .ref m_stepNext, .ref m_stepPass, .int 0, .int 0, .int 0, .ref m_bestPass, .ref m_far, .ref m_waited, .ref m_servers, .ref m_images, .ref m_isMade]))] H := hP
  have hD : va_D A [(m0, .inr (11, [.ref m_tape, .int 0, .int 0, .ref m_sign, .ref m_length, .ref m_clause, .ref m_clauses, .ref m_chain, .int 0, .int 0, .int 0, .int 0, .int 0, .int 0, .int 0, .ref m_open, .int 0, .ref m_stack, .int 0, .ref m_word, .ref m_said, .ref m_kept, .int 0, .int 0, .int 0, .int 0, .int 0, .int 0, .ref m_stepNode, .ref m_stepDrops, .ref m_stepHour, .ref m_stepNext, .ref m_stepPass, .int 0, .int 0, .int 0, .ref m_bestPass, .ref m_far, .ref m_waited, .ref m_servers, .ref m_images, .ref m_isMade]))] := hD
  refine lv_if_eq (tgt := 56) hx hb dX11_isWord_21 (by decide) (fun _ => ?_) (fun c_7 => absurd (by decide) c_7)
  refine lv_iload hx hb dX11_isWord_56 (lv_at hl 0 rfl) ?_
  refine lv_if_le (tgt := 78) hx hb dX11_isWord_58 (by decide) (fun _ => ?_) (fun c_8 => absurd (by decide) c_8)
  refine lv_iconst (v := 0) hx hb dX11_isWord_78 (by decide) ?_
  have hP9 := hP.sub (ws' := [(m0, .inr (11, [.ref m_tape, .int 0, .int 0, .ref m_sign, .ref m_length, .ref m_clause, .ref m_clauses, .ref m_chain, .int 0, .int 0, .int 0, .int 0, .int 0, .int 0, .int 0, .ref m_open, .int 0, .ref m_stack, .int 0, .ref m_word, .ref m_said, .ref m_kept, .int 0, .int 0, .int 0, .int 0, .int 0, .int 0, .ref m_stepNode, .ref m_stepDrops, .ref m_stepHour, .ref m_stepNext, .ref m_stepPass, .int 0, .int 0, .int 0, .ref m_bestPass, .ref m_far, .ref m_waited, .ref m_servers, .ref m_images, .ref m_isMade]))]) [0] rfl
  have hD9 := hD.sub (ws' := [(m0, .inr (11, [.ref m_tape, .int 0, .int 0, .ref m_sign, .ref m_length, .ref m_clause, .ref m_clauses, .ref m_chain, .int 0, .int 0, .int 0, .int 0, .int 0, .int 0, .int 0, .ref m_open, .int 0, .ref m_stack, .int 0, .ref m_word, .ref m_said, .ref m_kept, .int 0, .int 0, .int 0, .int 0, .int 0, .int 0, .ref m_stepNode, .ref m_stepDrops, .ref m_stepHour, .ref m_stepNext, .ref m_stepPass, .int 0, .int 0, .int 0, .ref m_bestPass, .ref m_far, .ref m_waited, .ref m_servers, .ref m_images, .ref m_isMade]))]) [0] (by decide) rfl
  refine W.widen (k := 0) (n := 0) (Nat.le_of_ble_eq_true rfl) (Nat.le_of_ble_eq_true rfl) ?_
  exact W.zret (v := 0) hx hb hr rfl (fun t ht hW => ⟨⟨0, (), rfl, rfl, by rw [ht]; exact hP9, hD9⟩, hS.F ht⟩) hS.2.2 dX11_isWord_79
set_option maxHeartbeats 4000000 in
set_option maxRecDepth 100000 in
theorem mX11_fails (l : Launch) (dC : Nat → ClassId) (dI : Nat → Nat → Nat) (kA : Nat → ClassId) (sz : Nat) (m0 : Nat) (m_tape : Nat) (m_sign : Nat) (m_length : Nat) (m_clause : Nat) (m_clauses : Nat) (m_chain : Nat) (m_open : Nat) (m_stack : Nat) (m_word : Nat) (m_said : Nat) (m_kept : Nat) (m_stepNode : Nat) (m_stepDrops : Nat) (m_stepHour : Nat) (m_stepNext : Nat) (m_stepPass : Nat) (m_bestPass : Nat) (m_far : Nat) (m_waited : Nat) (m_servers : Nat) (m_images : Nat) (m_isMade : Nat)  : Met l yX11_fails wsX11_fails ({ frames := 0, cells := 0, slots := 0, locals := 0 }) (zPc dC dI kA sz [.ref m0, .int 0, .int 0] [(m0, .inr (11, [.ref m_tape, .int 0, .int 0, .ref m_sign, .ref m_length, .ref m_clause, .ref m_clauses, .ref m_chain, .int 0, .int 0, .int 0, .int 0, .int 0, .int 0, .int 0, .ref m_open, .int 0, .ref m_stack, .int 0, .ref m_word, .ref m_said, .ref m_kept, .int 0, .int 0, .int 0, .int 0, .int 0, .int 0, .ref m_stepNode, .ref m_stepDrops, .ref m_stepHour, .ref m_stepNext, .ref m_stepPass, .int 0, .int 0, .int 0, .ref m_bestPass, .ref m_far, .ref m_waited, .ref m_servers, .ref m_images, .ref m_isMade]))]) (va_Qi (fun (r : Int32) (u : Unit) => r = 0) (zB dC dI (va_A [(m0, .inr (11, [.ref m_tape, .int 0, .int 0, .ref m_sign, .ref m_length, .ref m_clause, .ref m_clauses, .ref m_chain, .int 0, .int 0, .int 0, .int 0, .int 0, .int 0, .int 0, .ref m_open, .int 0, .ref m_stack, .int 0, .ref m_word, .ref m_said, .ref m_kept, .int 0, .int 0, .int 0, .int 0, .int 0, .int 0, .ref m_stepNode, .ref m_stepDrops, .ref m_stepHour, .ref m_stepNext, .ref m_stepPass, .int 0, .int 0, .int 0, .ref m_bestPass, .ref m_far, .ref m_waited, .ref m_servers, .ref m_images, .ref m_isMade]))] sz) (fun (u : Unit) => [(m0, .inr (11, [.ref m_tape, .int 0, .int 0, .ref m_sign, .ref m_length, .ref m_clause, .ref m_clauses, .ref m_chain, .int 0, .int 1, .int 0, .int 0, .int 0, .int 0, .int 0, .ref m_open, .int 0, .ref m_stack, .int 0, .ref m_word, .ref m_said, .ref m_kept, .int 0, .int 0, .int 0, .int 0, .int 0, .int 0, .ref m_stepNode, .ref m_stepDrops, .ref m_stepHour, .ref m_stepNext, .ref m_stepPass, .int 0, .int 0, .int 0, .ref m_bestPass, .ref m_far, .ref m_waited, .ref m_servers, .ref m_images, .ref m_isMade]))])) (va_A [(m0, .inr (11, [.ref m_tape, .int 0, .int 0, .ref m_sign, .ref m_length, .ref m_clause, .ref m_clauses, .ref m_chain, .int 0, .int 0, .int 0, .int 0, .int 0, .int 0, .int 0, .ref m_open, .int 0, .ref m_stack, .int 0, .ref m_word, .ref m_said, .ref m_kept, .int 0, .int 0, .int 0, .int 0, .int 0, .int 0, .ref m_stepNode, .ref m_stepDrops, .ref m_stepHour, .ref m_stepNext, .ref m_stepPass, .int 0, .int 0, .int 0, .ref m_bestPass, .ref m_far, .ref m_waited, .ref m_servers, .ref m_images, .ref m_isMade]))] sz)) 0 0 (va_A [(m0, .inr (11, [.ref m_tape, .int 0, .int 0, .ref m_sign, .ref m_length, .ref m_clause, .ref m_clauses, .ref m_chain, .int 0, .int 0, .int 0, .int 0, .int 0, .int 0, .int 0, .ref m_open, .int 0, .ref m_stack, .int 0, .ref m_word, .ref m_said, .ref m_kept, .int 0, .int 0, .int 0, .int 0, .int 0, .int 0, .ref m_stepNode, .ref m_stepDrops, .ref m_stepHour, .ref m_stepNext, .ref m_stepPass, .int 0, .int 0, .int 0, .ref m_bestPass, .ref m_far, .ref m_waited, .ref m_servers, .ref m_images, .ref m_isMade]))] sz) := by
  refine Met.ofW (cc := cX11_fails) (maxL := 3) (ret := (some .boolean)) (by decide) rfl ?_
  intro p e s m args below meth c s₁ B hml hv
  obtain ⟨rfl, hsz, hP, hK, hD0⟩ := hv
  have hx := B.exec
  have hb := B.bytes
  have hr := B.returns
  have hts := atoms_spec (ws := wsX11_fails) B.pre
  have hown : s.vm.findClass RX11 = some m.cls := findClass_of_methodNamed B.named
  have hlocks := B.notSynchronized
  subst hsz
  have hD := hD0.self (sz := s.heap.size)
  generalize hAe : va_A [(m0, .inr (11, [.ref m_tape, .int 0, .int 0, .ref m_sign, .ref m_length, .ref m_clause, .ref m_clauses, .ref m_chain, .int 0, .int 0, .int 0, .int 0, .int 0, .int 0, .int 0, .ref m_open, .int 0, .ref m_stack, .int 0, .ref m_word, .ref m_said, .ref m_kept, .int 0, .int 0, .int 0, .int 0, .int 0, .int 0, .ref m_stepNode, .ref m_stepDrops, .ref m_stepHour, .ref m_stepNext, .ref m_stepPass, .int 0, .int 0, .int 0, .ref m_bestPass, .ref m_far, .ref m_waited, .ref m_servers, .ref m_images, .ref m_isMade]))] s.heap.size = A at hD ⊢
  have hA : ∀ q : Nat, s.heap.size ≤ q → A q := fun q h => by rw [← hAe]; exact Or.inr h
  have hS : va_S A s.heap s.heap [] := va_S.rf
  have hP : va_P (dC, dI) vwCl [(m0, .inr (11, [.ref m_tape, .int 0, .int 0, .ref m_sign, .ref m_length, .ref m_clause, .ref m_clauses, .ref m_chain, .int 0, .int 0, .int 0, .int 0, .int 0, .int 0, .int 0, .ref m_open, .int 0, .ref m_stack, .int 0, .ref m_word, .ref m_said, .ref m_kept, .int 0, .int 0, .int 0, .int 0, .int 0, .int 0, .ref m_stepNode, .ref m_stepDrops, .ref m_stepHour, .ref m_stepNext, .ref m_stepPass, .int 0, .int 0, .int 0, .ref m_bestPass, .ref m_far, .ref m_waited, .ref m_servers, .ref m_images, .ref m_isMade]))] s.heap := hP
  have hl := lv_entry ([.ref m0, .int 0, .int 0]) (n := 3) (Nat.le_of_ble_eq_true rfl)
  rw [lg_entry_eq]
  generalize (lg_sl ([.ref m0, .int 0, .int 0]) ++ List.replicate (3 - (lg_sl ([.ref m0, .int 0, .int 0])).length) Slot.unset).toArray = ls at hl ⊢
  have hl : lv_has ls 3 [(0, .ref m0), (1, .int 0), (2, .int 0)] := hl
  refine lv_aload_n hx hb dX11_fails_0 rfl (lv_at hl 0 rfl) ?_
  refine va_get (D := (dC, dI)) (ci := 11) (v := .int 0) (C := RX11) (T := TX11) (N := 42) hx hb hts iX11_fails_X11 hown hK.1 hP 0 rfl rfl 9 (by decide) (kX11_fails_1 hts) (fun _ h9 => h9) rfl dX11_fails_1 ?_
  refine lv_if_ne (tgt := 19) hx hb dX11_fails_4 (by decide) (fun c_1 => absurd (by decide) c_1) (fun _ => ?_)
  refine lv_aload_n hx hb dX11_fails_7 rfl (lv_at hl 0 rfl) ?_
  refine lv_iconst (v := 1) hx hb dX11_fails_8 (by decide) ?_
  refine lv_bipush (v := 8) hx hb dX11_fails_9 (by decide) ?_
  refine lv_iload_n hx hb dX11_fails_11 rfl (lv_at hl 2 rfl) ?_
  refine lv_imul hx hb dX11_fails_12 ?_
  refine zi 0 (by decide) ?_
  refine lv_iadd hx hb dX11_fails_13 ?_
  refine zi 1 (by decide) ?_
  refine lv_iload_n hx hb dX11_fails_14 rfl (lv_at hl 1 rfl) ?_
  refine lv_iadd hx hb dX11_fails_15 ?_
  refine zi 1 (by decide) ?_
  refine va_put (D := (dC, dI)) (ci := 11) (v := .int 1) (ty := .int) (C := RX11) (T := TX11) (N := 42) hx hb hts iX11_fails_X11 tyX11 tyX11_ok nmX11 hown hK.1 hP hD hS 0 rfl rfl 9 (by decide) (kX11_fails_1 hts) (fun _ h9 => h9) rfl (by decide +kernel) rfl rfl (Nat.le_of_ble_eq_true rfl) dX11_fails_16 (fun H locs hP hD hS => ?_)
  have hP : va_P (dC, dI) vwCl [(m0, .inr (11, [.ref m_tape, .int 0, .int 0, .ref m_sign, .ref m_length, .ref m_clause, .ref m_clauses, .ref m_chain, .int 0, .int 1, .int 0, .int 0, .int 0, .int 0, .int 0, .ref m_open, .int 0, .ref m_stack, .int 0, .ref m_word, .ref m_said, .ref m_kept, .int 0, .int 0, .int 0, .int 0, .int 0, .int 0, .ref m_stepNode, .ref m_stepDrops, .ref m_stepHour, .ref m_stepNext, .ref m_stepPass, .int 0, .int 0, .int 0, .ref m_bestPass, .ref m_far, .ref m_waited, .ref m_servers, .ref m_images, .ref m_isMade]))] H := hP
  have hD : va_D A [(m0, .inr (11, [.ref m_tape, .int 0, .int 0, .ref m_sign, .ref m_length, .ref m_clause, .ref m_clauses, .ref m_chain, .int 0, .int 1, .int 0, .int 0, .int 0, .int 0, .int 0, .ref m_open, .int 0, .ref m_stack, .int 0, .ref m_word, .ref m_said, .ref m_kept, .int 0, .int 0, .int 0, .int 0, .int 0, .int 0, .ref m_stepNode, .ref m_stepDrops, .ref m_stepHour, .ref m_stepNext, .ref m_stepPass, .int 0, .int 0, .int 0, .ref m_bestPass, .ref m_far, .ref m_waited, .ref m_servers, .ref m_images, .ref m_isMade]))] := hD
  refine lv_iconst (v := 0) hx hb dX11_fails_19 (by decide) ?_
  have hP9 := hP.sub (ws' := [(m0, .inr (11, [.ref m_tape, .int 0, .int 0, .ref m_sign, .ref m_length, .ref m_clause, .ref m_clauses, .ref m_chain, .int 0, .int 1, .int 0, .int 0, .int 0, .int 0, .int 0, .ref m_open, .int 0, .ref m_stack, .int 0, .ref m_word, .ref m_said, .ref m_kept, .int 0, .int 0, .int 0, .int 0, .int 0, .int 0, .ref m_stepNode, .ref m_stepDrops, .ref m_stepHour, .ref m_stepNext, .ref m_stepPass, .int 0, .int 0, .int 0, .ref m_bestPass, .ref m_far, .ref m_waited, .ref m_servers, .ref m_images, .ref m_isMade]))]) [0] rfl
  have hD9 := hD.sub (ws' := [(m0, .inr (11, [.ref m_tape, .int 0, .int 0, .ref m_sign, .ref m_length, .ref m_clause, .ref m_clauses, .ref m_chain, .int 0, .int 1, .int 0, .int 0, .int 0, .int 0, .int 0, .ref m_open, .int 0, .ref m_stack, .int 0, .ref m_word, .ref m_said, .ref m_kept, .int 0, .int 0, .int 0, .int 0, .int 0, .int 0, .ref m_stepNode, .ref m_stepDrops, .ref m_stepHour, .ref m_stepNext, .ref m_stepPass, .int 0, .int 0, .int 0, .ref m_bestPass, .ref m_far, .ref m_waited, .ref m_servers, .ref m_images, .ref m_isMade]))]) [0] (by decide) rfl
  refine W.widen (k := 0) (n := 0) (Nat.le_of_ble_eq_true rfl) (Nat.le_of_ble_eq_true rfl) ?_
  exact W.zret (v := 0) hx hb hr rfl (fun t ht hW => ⟨⟨0, (), rfl, rfl, by rw [ht]; exact hP9, hD9⟩, hS.F ht⟩) hS.2.2 dX11_fails_20
set_option maxHeartbeats 4000000 in
set_option maxRecDepth 100000 in
theorem mX11_clauseHere (l : Launch) (dC : Nat → ClassId) (dI : Nat → Nat → Nat) (kA : Nat → ClassId) (sz : Nat) (m0 : Nat) (m_tape : Nat) (m_sign : Nat) (m_length : Nat) (m_clause : Nat) (m_clauses : Nat) (m_chain : Nat) (m_open : Nat) (m_stack : Nat) (m_word : Nat) (m_said : Nat) (m_kept : Nat) (m_stepNode : Nat) (m_stepDrops : Nat) (m_stepHour : Nat) (m_stepNext : Nat) (m_stepPass : Nat) (m_bestPass : Nat) (m_far : Nat) (m_waited : Nat) (m_servers : Nat) (m_images : Nat) (m_isMade : Nat)  : Met l yX11_clauseHere wsX11_clauseHere ({ frames := 2, cells := 0, slots := 0, locals := 46 }) (zPc dC dI kA sz [.ref m0] [(m0, .inr (11, [.ref m_tape, .int 0, .int 0, .ref m_sign, .ref m_length, .ref m_clause, .ref m_clauses, .ref m_chain, .int 0, .int 0, .int 0, .int 0, .int 0, .int 0, .int 0, .ref m_open, .int 0, .ref m_stack, .int 0, .ref m_word, .ref m_said, .ref m_kept, .int 0, .int 0, .int 0, .int 0, .int 0, .int 0, .ref m_stepNode, .ref m_stepDrops, .ref m_stepHour, .ref m_stepNext, .ref m_stepPass, .int 0, .int 0, .int 0, .ref m_bestPass, .ref m_far, .ref m_waited, .ref m_servers, .ref m_images, .ref m_isMade]))]) (va_Qi (fun (r : Int32) (u : Unit) => r = 0) (zB dC dI (va_A [(m0, .inr (11, [.ref m_tape, .int 0, .int 0, .ref m_sign, .ref m_length, .ref m_clause, .ref m_clauses, .ref m_chain, .int 0, .int 0, .int 0, .int 0, .int 0, .int 0, .int 0, .ref m_open, .int 0, .ref m_stack, .int 0, .ref m_word, .ref m_said, .ref m_kept, .int 0, .int 0, .int 0, .int 0, .int 0, .int 0, .ref m_stepNode, .ref m_stepDrops, .ref m_stepHour, .ref m_stepNext, .ref m_stepPass, .int 0, .int 0, .int 0, .ref m_bestPass, .ref m_far, .ref m_waited, .ref m_servers, .ref m_images, .ref m_isMade]))] sz) (fun (u : Unit) => [(m0, .inr (11, [.ref m_tape, .int 0, .int 0, .ref m_sign, .ref m_length, .ref m_clause, .ref m_clauses, .ref m_chain, .int 0, .int 1, .int 0, .int 0, .int 0, .int 0, .int 0, .ref m_open, .int 0, .ref m_stack, .int 0, .ref m_word, .ref m_said, .ref m_kept, .int 0, .int 0, .int 0, .int 0, .int 0, .int 0, .ref m_stepNode, .ref m_stepDrops, .ref m_stepHour, .ref m_stepNext, .ref m_stepPass, .int 0, .int 0, .int 0, .ref m_bestPass, .ref m_far, .ref m_waited, .ref m_servers, .ref m_images, .ref m_isMade]))])) (va_A [(m0, .inr (11, [.ref m_tape, .int 0, .int 0, .ref m_sign, .ref m_length, .ref m_clause, .ref m_clauses, .ref m_chain, .int 0, .int 0, .int 0, .int 0, .int 0, .int 0, .int 0, .ref m_open, .int 0, .ref m_stack, .int 0, .ref m_word, .ref m_said, .ref m_kept, .int 0, .int 0, .int 0, .int 0, .int 0, .int 0, .ref m_stepNode, .ref m_stepDrops, .ref m_stepHour, .ref m_stepNext, .ref m_stepPass, .int 0, .int 0, .int 0, .ref m_bestPass, .ref m_far, .ref m_waited, .ref m_servers, .ref m_images, .ref m_isMade]))] sz)) 0 0 (va_A [(m0, .inr (11, [.ref m_tape, .int 0, .int 0, .ref m_sign, .ref m_length, .ref m_clause, .ref m_clauses, .ref m_chain, .int 0, .int 0, .int 0, .int 0, .int 0, .int 0, .int 0, .ref m_open, .int 0, .ref m_stack, .int 0, .ref m_word, .ref m_said, .ref m_kept, .int 0, .int 0, .int 0, .int 0, .int 0, .int 0, .ref m_stepNode, .ref m_stepDrops, .ref m_stepHour, .ref m_stepNext, .ref m_stepPass, .int 0, .int 0, .int 0, .ref m_bestPass, .ref m_far, .ref m_waited, .ref m_servers, .ref m_images, .ref m_isMade]))] sz) := by
  refine Met.ofW (cc := cX11_clauseHere) (maxL := 3) (ret := (some .boolean)) (by decide) rfl ?_
  intro p e s m args below meth c s₁ B hml hv
  obtain ⟨rfl, hsz, hP, hK, hD0⟩ := hv
  have hx := B.exec
  have hb := B.bytes
  have hr := B.returns
  have hts := atoms_spec (ws := wsX11_clauseHere) B.pre
  have hown : s.vm.findClass RX11 = some m.cls := findClass_of_methodNamed B.named
  have hlocks := B.notSynchronized
  subst hsz
  have hD := hD0.self (sz := s.heap.size)
  generalize hAe : va_A [(m0, .inr (11, [.ref m_tape, .int 0, .int 0, .ref m_sign, .ref m_length, .ref m_clause, .ref m_clauses, .ref m_chain, .int 0, .int 0, .int 0, .int 0, .int 0, .int 0, .int 0, .ref m_open, .int 0, .ref m_stack, .int 0, .ref m_word, .ref m_said, .ref m_kept, .int 0, .int 0, .int 0, .int 0, .int 0, .int 0, .ref m_stepNode, .ref m_stepDrops, .ref m_stepHour, .ref m_stepNext, .ref m_stepPass, .int 0, .int 0, .int 0, .ref m_bestPass, .ref m_far, .ref m_waited, .ref m_servers, .ref m_images, .ref m_isMade]))] s.heap.size = A at hD ⊢
  have hA : ∀ q : Nat, s.heap.size ≤ q → A q := fun q h => by rw [← hAe]; exact Or.inr h
  have hS : va_S A s.heap s.heap [] := va_S.rf
  have hP : va_P (dC, dI) vwCl [(m0, .inr (11, [.ref m_tape, .int 0, .int 0, .ref m_sign, .ref m_length, .ref m_clause, .ref m_clauses, .ref m_chain, .int 0, .int 0, .int 0, .int 0, .int 0, .int 0, .int 0, .ref m_open, .int 0, .ref m_stack, .int 0, .ref m_word, .ref m_said, .ref m_kept, .int 0, .int 0, .int 0, .int 0, .int 0, .int 0, .ref m_stepNode, .ref m_stepDrops, .ref m_stepHour, .ref m_stepNext, .ref m_stepPass, .int 0, .int 0, .int 0, .ref m_bestPass, .ref m_far, .ref m_waited, .ref m_servers, .ref m_images, .ref m_isMade]))] s.heap := hP
  have hl := lv_entry ([.ref m0]) (n := 3) (Nat.le_of_ble_eq_true rfl)
  rw [lg_entry_eq]
  generalize (lg_sl ([.ref m0]) ++ List.replicate (3 - (lg_sl ([.ref m0])).length) Slot.unset).toArray = ls at hl ⊢
  have hl : lv_has ls 3 [(0, .ref m0)] := hl
  refine lv_aload_n hx hb dX11_clauseHere_0 rfl (lv_at hl 0 rfl) ?_
  refine z_i (wr := []) (va_runV (As := []) (rest := []) ⟨hx, hb, hml, hown, hts⟩ (mX11_see l dC dI kA _ m0 m_tape m_sign m_length m_clause m_clauses m_chain m_open m_stack m_word m_said m_kept m_stepNode m_stepDrops m_stepHour m_stepNext m_stepPass m_bestPass m_far m_waited m_servers m_images m_isMade) (cwV 0 hts gX11_clauseHere_X11_see rfl rfl rfl (by decide +kernel) ⟨(Nat.le_of_ble_eq_true rfl), (Nat.le_of_ble_eq_true rfl)⟩) ⟨zPc.blind, va_recv hK.1 hP (ci := 11) (q0 := 0) rfl rfl, zPre hK (hP.sub [0] rfl) (hD.sub [0] (by decide) rfl)⟩ rfl rfl hl.1 rfl (lv_room (Nat.le_of_ble_eq_true rfl)) dX11_clauseHere_1 ⟨(Nat.le_of_ble_eq_true rfl), (Nat.le_of_ble_eq_true rfl)⟩) hP hD hS hA [0] [] rfl rfl (by decide) (by decide) (fun r3 u1 H locs hw2 hP hD hS => ?_)
  obtain rfl := hw2
  have hP : va_P (dC, dI) vwCl [(m0, .inr (11, [.ref m_tape, .int 0, .int 0, .ref m_sign, .ref m_length, .ref m_clause, .ref m_clauses, .ref m_chain, .int 0, .int 0, .int 0, .int 0, .int 0, .int 0, .int 0, .ref m_open, .int 0, .ref m_stack, .int 0, .ref m_word, .ref m_said, .ref m_kept, .int 0, .int 0, .int 0, .int 0, .int 0, .int 0, .ref m_stepNode, .ref m_stepDrops, .ref m_stepHour, .ref m_stepNext, .ref m_stepPass, .int 0, .int 0, .int 0, .ref m_bestPass, .ref m_far, .ref m_waited, .ref m_servers, .ref m_images, .ref m_isMade]))] H := hP
  have hD : va_D A [(m0, .inr (11, [.ref m_tape, .int 0, .int 0, .ref m_sign, .ref m_length, .ref m_clause, .ref m_clauses, .ref m_chain, .int 0, .int 0, .int 0, .int 0, .int 0, .int 0, .int 0, .ref m_open, .int 0, .ref m_stack, .int 0, .ref m_word, .ref m_said, .ref m_kept, .int 0, .int 0, .int 0, .int 0, .int 0, .int 0, .ref m_stepNode, .ref m_stepDrops, .ref m_stepHour, .ref m_stepNext, .ref m_stepPass, .int 0, .int 0, .int 0, .ref m_bestPass, .ref m_far, .ref m_waited, .ref m_servers, .ref m_images, .ref m_isMade]))] := hD
  refine lv_pop hx hb dX11_clauseHere_4 rfl ?_
  refine lv_aload_n hx hb dX11_clauseHere_5 rfl (lv_at hl 0 rfl) ?_
  refine va_get (D := (dC, dI)) (ci := 11) (v := .int 0) (C := RX11) (T := TX11) (N := 42) hx hb hts iX11_clauseHere_X11 hown hK.1 hP 0 rfl rfl 8 (by decide) (kX11_clauseHere_1 hts) (fun _ h9 => h9) rfl dX11_clauseHere_6 ?_
  refine lv_istore_n (lv' := [(1, .int 0), (0, .ref m0)]) hx hb dX11_clauseHere_9 rfl hl (by decide) rfl (fun ls hl => ?_)
  refine lv_aload_n hx hb dX11_clauseHere_10 rfl (lv_at hl 1 rfl) ?_
  refine lv_ldc2 hx hb hown (kX11_clauseHere_2 hts) dX11_clauseHere_11 ?_
  refine z_i (wr := []) (va_runV (As := [.long 1835363444]) (rest := []) ⟨hx, hb, hml, hown, hts⟩ (mX11_isWord l dC dI kA _ m0 m_tape m_sign m_length m_clause m_clauses m_chain m_open m_stack m_word m_said m_kept m_stepNode m_stepDrops m_stepHour m_stepNext m_stepPass m_bestPass m_far m_waited m_servers m_images m_isMade 1835363444) (cwV 1 hts gX11_clauseHere_X11_isWord rfl rfl rfl (by decide +kernel) ⟨(Nat.le_of_ble_eq_true rfl), (Nat.le_of_ble_eq_true rfl)⟩) ⟨zPc.blind, va_recv hK.1 hP (ci := 11) (q0 := 0) rfl rfl, zPre hK (hP.sub [0] rfl) (hD.sub [0] (by decide) rfl)⟩ rfl rfl hl.1 rfl (lv_room (Nat.le_of_ble_eq_true rfl)) dX11_clauseHere_14 ⟨(Nat.le_of_ble_eq_true rfl), (Nat.le_of_ble_eq_true rfl)⟩) hP hD hS hA [0] [] rfl rfl (by decide) (by decide) (fun r6 u4 H locs hw5 hP hD hS => ?_)
  obtain rfl := hw5
  have hP : va_P (dC, dI) vwCl [(m0, .inr (11, [.ref m_tape, .int 0, .int 0, .ref m_sign, .ref m_length, .ref m_clause, .ref m_clauses, .ref m_chain, .int 0, .int 0, .int 0, .int 0, .int 0, .int 0, .int 0, .ref m_open, .int 0, .ref m_stack, .int 0, .ref m_word, .ref m_said, .ref m_kept, .int 0, .int 0, .int 0, .int 0, .int 0, .int 0, .ref m_stepNode, .ref m_stepDrops, .ref m_stepHour, .ref m_stepNext, .ref m_stepPass, .int 0, .int 0, .int 0, .ref m_bestPass, .ref m_far, .ref m_waited, .ref m_servers, .ref m_images, .ref m_isMade]))] H := hP
  have hD : va_D A [(m0, .inr (11, [.ref m_tape, .int 0, .int 0, .ref m_sign, .ref m_length, .ref m_clause, .ref m_clauses, .ref m_chain, .int 0, .int 0, .int 0, .int 0, .int 0, .int 0, .int 0, .ref m_open, .int 0, .ref m_stack, .int 0, .ref m_word, .ref m_said, .ref m_kept, .int 0, .int 0, .int 0, .int 0, .int 0, .int 0, .ref m_stepNode, .ref m_stepDrops, .ref m_stepHour, .ref m_stepNext, .ref m_stepPass, .int 0, .int 0, .int 0, .ref m_bestPass, .ref m_far, .ref m_waited, .ref m_servers, .ref m_images, .ref m_isMade]))] := hD
  refine lv_if_eq (tgt := 24) hx hb dX11_clauseHere_17 (by decide) (fun _ => ?_) (fun c_7 => absurd (by decide) c_7)
  refine lv_aload_n hx hb dX11_clauseHere_24 rfl (lv_at hl 1 rfl) ?_
  refine lv_ldc2 hx hb hown (kX11_clauseHere_3 hts) dX11_clauseHere_25 ?_
  refine z_i (wr := []) (va_runV (As := [.long 1919251316]) (rest := []) ⟨hx, hb, hml, hown, hts⟩ (mX11_isWord l dC dI kA _ m0 m_tape m_sign m_length m_clause m_clauses m_chain m_open m_stack m_word m_said m_kept m_stepNode m_stepDrops m_stepHour m_stepNext m_stepPass m_bestPass m_far m_waited m_servers m_images m_isMade 1919251316) (cwV 1 hts gX11_clauseHere_X11_isWord rfl rfl rfl (by decide +kernel) ⟨(Nat.le_of_ble_eq_true rfl), (Nat.le_of_ble_eq_true rfl)⟩) ⟨zPc.blind, va_recv hK.1 hP (ci := 11) (q0 := 0) rfl rfl, zPre hK (hP.sub [0] rfl) (hD.sub [0] (by decide) rfl)⟩ rfl rfl hl.1 rfl (lv_room (Nat.le_of_ble_eq_true rfl)) dX11_clauseHere_28 ⟨(Nat.le_of_ble_eq_true rfl), (Nat.le_of_ble_eq_true rfl)⟩) hP hD hS hA [0] [] rfl rfl (by decide) (by decide) (fun r10 u8 H locs hw9 hP hD hS => ?_)
  obtain rfl := hw9
  have hP : va_P (dC, dI) vwCl [(m0, .inr (11, [.ref m_tape, .int 0, .int 0, .ref m_sign, .ref m_length, .ref m_clause, .ref m_clauses, .ref m_chain, .int 0, .int 0, .int 0, .int 0, .int 0, .int 0, .int 0, .ref m_open, .int 0, .ref m_stack, .int 0, .ref m_word, .ref m_said, .ref m_kept, .int 0, .int 0, .int 0, .int 0, .int 0, .int 0, .ref m_stepNode, .ref m_stepDrops, .ref m_stepHour, .ref m_stepNext, .ref m_stepPass, .int 0, .int 0, .int 0, .ref m_bestPass, .ref m_far, .ref m_waited, .ref m_servers, .ref m_images, .ref m_isMade]))] H := hP
  have hD : va_D A [(m0, .inr (11, [.ref m_tape, .int 0, .int 0, .ref m_sign, .ref m_length, .ref m_clause, .ref m_clauses, .ref m_chain, .int 0, .int 0, .int 0, .int 0, .int 0, .int 0, .int 0, .ref m_open, .int 0, .ref m_stack, .int 0, .ref m_word, .ref m_said, .ref m_kept, .int 0, .int 0, .int 0, .int 0, .int 0, .int 0, .ref m_stepNode, .ref m_stepDrops, .ref m_stepHour, .ref m_stepNext, .ref m_stepPass, .int 0, .int 0, .int 0, .ref m_bestPass, .ref m_far, .ref m_waited, .ref m_servers, .ref m_images, .ref m_isMade]))] := hD
  refine lv_if_eq (tgt := 38) hx hb dX11_clauseHere_31 (by decide) (fun _ => ?_) (fun c_11 => absurd (by decide) c_11)
  refine lv_aload_n hx hb dX11_clauseHere_38 rfl (lv_at hl 1 rfl) ?_
  refine lv_ldc2 hx hb hown (kX11_clauseHere_4 hts) dX11_clauseHere_39 ?_
  refine z_i (wr := []) (va_runV (As := [.long 495672455781]) (rest := []) ⟨hx, hb, hml, hown, hts⟩ (mX11_isWord l dC dI kA _ m0 m_tape m_sign m_length m_clause m_clauses m_chain m_open m_stack m_word m_said m_kept m_stepNode m_stepDrops m_stepHour m_stepNext m_stepPass m_bestPass m_far m_waited m_servers m_images m_isMade 495672455781) (cwV 1 hts gX11_clauseHere_X11_isWord rfl rfl rfl (by decide +kernel) ⟨(Nat.le_of_ble_eq_true rfl), (Nat.le_of_ble_eq_true rfl)⟩) ⟨zPc.blind, va_recv hK.1 hP (ci := 11) (q0 := 0) rfl rfl, zPre hK (hP.sub [0] rfl) (hD.sub [0] (by decide) rfl)⟩ rfl rfl hl.1 rfl (lv_room (Nat.le_of_ble_eq_true rfl)) dX11_clauseHere_42 ⟨(Nat.le_of_ble_eq_true rfl), (Nat.le_of_ble_eq_true rfl)⟩) hP hD hS hA [0] [] rfl rfl (by decide) (by decide) (fun r14 u12 H locs hw13 hP hD hS => ?_)
  obtain rfl := hw13
  have hP : va_P (dC, dI) vwCl [(m0, .inr (11, [.ref m_tape, .int 0, .int 0, .ref m_sign, .ref m_length, .ref m_clause, .ref m_clauses, .ref m_chain, .int 0, .int 0, .int 0, .int 0, .int 0, .int 0, .int 0, .ref m_open, .int 0, .ref m_stack, .int 0, .ref m_word, .ref m_said, .ref m_kept, .int 0, .int 0, .int 0, .int 0, .int 0, .int 0, .ref m_stepNode, .ref m_stepDrops, .ref m_stepHour, .ref m_stepNext, .ref m_stepPass, .int 0, .int 0, .int 0, .ref m_bestPass, .ref m_far, .ref m_waited, .ref m_servers, .ref m_images, .ref m_isMade]))] H := hP
  have hD : va_D A [(m0, .inr (11, [.ref m_tape, .int 0, .int 0, .ref m_sign, .ref m_length, .ref m_clause, .ref m_clauses, .ref m_chain, .int 0, .int 0, .int 0, .int 0, .int 0, .int 0, .int 0, .ref m_open, .int 0, .ref m_stack, .int 0, .ref m_word, .ref m_said, .ref m_kept, .int 0, .int 0, .int 0, .int 0, .int 0, .int 0, .ref m_stepNode, .ref m_stepDrops, .ref m_stepHour, .ref m_stepNext, .ref m_stepPass, .int 0, .int 0, .int 0, .ref m_bestPass, .ref m_far, .ref m_waited, .ref m_servers, .ref m_images, .ref m_isMade]))] := hD
  refine lv_if_eq (tgt := 52) hx hb dX11_clauseHere_45 (by decide) (fun _ => ?_) (fun c_15 => absurd (by decide) c_15)
  refine lv_aload_n hx hb dX11_clauseHere_52 rfl (lv_at hl 1 rfl) ?_
  refine lv_ldc2 hx hb hown (kX11_clauseHere_5 hts) dX11_clauseHere_53 ?_
  refine z_i (wr := []) (va_runV (As := [.long 422877229940]) (rest := []) ⟨hx, hb, hml, hown, hts⟩ (mX11_isWord l dC dI kA _ m0 m_tape m_sign m_length m_clause m_clauses m_chain m_open m_stack m_word m_said m_kept m_stepNode m_stepDrops m_stepHour m_stepNext m_stepPass m_bestPass m_far m_waited m_servers m_images m_isMade 422877229940) (cwV 1 hts gX11_clauseHere_X11_isWord rfl rfl rfl (by decide +kernel) ⟨(Nat.le_of_ble_eq_true rfl), (Nat.le_of_ble_eq_true rfl)⟩) ⟨zPc.blind, va_recv hK.1 hP (ci := 11) (q0 := 0) rfl rfl, zPre hK (hP.sub [0] rfl) (hD.sub [0] (by decide) rfl)⟩ rfl rfl hl.1 rfl (lv_room (Nat.le_of_ble_eq_true rfl)) dX11_clauseHere_56 ⟨(Nat.le_of_ble_eq_true rfl), (Nat.le_of_ble_eq_true rfl)⟩) hP hD hS hA [0] [] rfl rfl (by decide) (by decide) (fun r18 u16 H locs hw17 hP hD hS => ?_)
  obtain rfl := hw17
  have hP : va_P (dC, dI) vwCl [(m0, .inr (11, [.ref m_tape, .int 0, .int 0, .ref m_sign, .ref m_length, .ref m_clause, .ref m_clauses, .ref m_chain, .int 0, .int 0, .int 0, .int 0, .int 0, .int 0, .int 0, .ref m_open, .int 0, .ref m_stack, .int 0, .ref m_word, .ref m_said, .ref m_kept, .int 0, .int 0, .int 0, .int 0, .int 0, .int 0, .ref m_stepNode, .ref m_stepDrops, .ref m_stepHour, .ref m_stepNext, .ref m_stepPass, .int 0, .int 0, .int 0, .ref m_bestPass, .ref m_far, .ref m_waited, .ref m_servers, .ref m_images, .ref m_isMade]))] H := hP
  have hD : va_D A [(m0, .inr (11, [.ref m_tape, .int 0, .int 0, .ref m_sign, .ref m_length, .ref m_clause, .ref m_clauses, .ref m_chain, .int 0, .int 0, .int 0, .int 0, .int 0, .int 0, .int 0, .ref m_open, .int 0, .ref m_stack, .int 0, .ref m_word, .ref m_said, .ref m_kept, .int 0, .int 0, .int 0, .int 0, .int 0, .int 0, .ref m_stepNode, .ref m_stepDrops, .ref m_stepHour, .ref m_stepNext, .ref m_stepPass, .int 0, .int 0, .int 0, .ref m_bestPass, .ref m_far, .ref m_waited, .ref m_servers, .ref m_images, .ref m_isMade]))] := hD
  refine lv_if_eq (tgt := 66) hx hb dX11_clauseHere_59 (by decide) (fun _ => ?_) (fun c_19 => absurd (by decide) c_19)
  refine lv_aload_n hx hb dX11_clauseHere_66 rfl (lv_at hl 1 rfl) ?_
  refine lv_ldc2 hx hb hown (kX11_clauseHere_6 hts) dX11_clauseHere_67 ?_
  refine z_i (wr := []) (va_runV (As := [.long 426952976750]) (rest := []) ⟨hx, hb, hml, hown, hts⟩ (mX11_isWord l dC dI kA _ m0 m_tape m_sign m_length m_clause m_clauses m_chain m_open m_stack m_word m_said m_kept m_stepNode m_stepDrops m_stepHour m_stepNext m_stepPass m_bestPass m_far m_waited m_servers m_images m_isMade 426952976750) (cwV 1 hts gX11_clauseHere_X11_isWord rfl rfl rfl (by decide +kernel) ⟨(Nat.le_of_ble_eq_true rfl), (Nat.le_of_ble_eq_true rfl)⟩) ⟨zPc.blind, va_recv hK.1 hP (ci := 11) (q0 := 0) rfl rfl, zPre hK (hP.sub [0] rfl) (hD.sub [0] (by decide) rfl)⟩ rfl rfl hl.1 rfl (lv_room (Nat.le_of_ble_eq_true rfl)) dX11_clauseHere_70 ⟨(Nat.le_of_ble_eq_true rfl), (Nat.le_of_ble_eq_true rfl)⟩) hP hD hS hA [0] [] rfl rfl (by decide) (by decide) (fun r22 u20 H locs hw21 hP hD hS => ?_)
  obtain rfl := hw21
  have hP : va_P (dC, dI) vwCl [(m0, .inr (11, [.ref m_tape, .int 0, .int 0, .ref m_sign, .ref m_length, .ref m_clause, .ref m_clauses, .ref m_chain, .int 0, .int 0, .int 0, .int 0, .int 0, .int 0, .int 0, .ref m_open, .int 0, .ref m_stack, .int 0, .ref m_word, .ref m_said, .ref m_kept, .int 0, .int 0, .int 0, .int 0, .int 0, .int 0, .ref m_stepNode, .ref m_stepDrops, .ref m_stepHour, .ref m_stepNext, .ref m_stepPass, .int 0, .int 0, .int 0, .ref m_bestPass, .ref m_far, .ref m_waited, .ref m_servers, .ref m_images, .ref m_isMade]))] H := hP
  have hD : va_D A [(m0, .inr (11, [.ref m_tape, .int 0, .int 0, .ref m_sign, .ref m_length, .ref m_clause, .ref m_clauses, .ref m_chain, .int 0, .int 0, .int 0, .int 0, .int 0, .int 0, .int 0, .ref m_open, .int 0, .ref m_stack, .int 0, .ref m_word, .ref m_said, .ref m_kept, .int 0, .int 0, .int 0, .int 0, .int 0, .int 0, .ref m_stepNode, .ref m_stepDrops, .ref m_stepHour, .ref m_stepNext, .ref m_stepPass, .int 0, .int 0, .int 0, .ref m_bestPass, .ref m_far, .ref m_waited, .ref m_servers, .ref m_images, .ref m_isMade]))] := hD
  refine lv_if_eq (tgt := 80) hx hb dX11_clauseHere_73 (by decide) (fun _ => ?_) (fun c_23 => absurd (by decide) c_23)
  refine lv_iconst (v := (-1)) hx hb dX11_clauseHere_80 (by decide) ?_
  refine lv_istore_n (lv' := [(2, .int (-1)), (1, .int 0), (0, .ref m0)]) hx hb dX11_clauseHere_81 rfl hl (by decide) rfl (fun ls hl => ?_)
  refine lv_iload_n hx hb dX11_clauseHere_82 rfl (lv_at hl 0 rfl) ?_
  refine lv_if_ge (tgt := 93) hx hb dX11_clauseHere_83 (by decide) (fun c_24 => absurd c_24 (by decide)) (fun _ => ?_)
  refine lv_aload_n hx hb dX11_clauseHere_86 rfl (lv_at hl 2 rfl) ?_
  refine lv_iconst (v := 0) hx hb dX11_clauseHere_87 (by decide) ?_
  refine lv_iload_n hx hb dX11_clauseHere_88 rfl (lv_at hl 1 rfl) ?_
  refine z_i (wr := []) (va_runV (As := [.int 0, .int 0]) (rest := []) ⟨hx, hb, hml, hown, hts⟩ (mX11_fails l dC dI kA _ m0 m_tape m_sign m_length m_clause m_clauses m_chain m_open m_stack m_word m_said m_kept m_stepNode m_stepDrops m_stepHour m_stepNext m_stepPass m_bestPass m_far m_waited m_servers m_images m_isMade) (cwV 2 hts gX11_clauseHere_X11_fails rfl rfl rfl (by decide +kernel) ⟨(Nat.le_of_ble_eq_true rfl), (Nat.le_of_ble_eq_true rfl)⟩) ⟨zPc.blind, va_recv hK.1 hP (ci := 11) (q0 := 0) rfl rfl, zPre hK (hP.sub [0] rfl) (hD.sub [0] (by decide) rfl)⟩ rfl rfl hl.1 rfl (lv_room (Nat.le_of_ble_eq_true rfl)) dX11_clauseHere_89 ⟨(Nat.le_of_ble_eq_true rfl), (Nat.le_of_ble_eq_true rfl)⟩) hP hD hS hA [0] [] rfl rfl (by decide) (by decide) (fun r27 u25 H locs hw26 hP hD hS => ?_)
  obtain rfl := hw26
  have hP : va_P (dC, dI) vwCl [(m0, .inr (11, [.ref m_tape, .int 0, .int 0, .ref m_sign, .ref m_length, .ref m_clause, .ref m_clauses, .ref m_chain, .int 0, .int 1, .int 0, .int 0, .int 0, .int 0, .int 0, .ref m_open, .int 0, .ref m_stack, .int 0, .ref m_word, .ref m_said, .ref m_kept, .int 0, .int 0, .int 0, .int 0, .int 0, .int 0, .ref m_stepNode, .ref m_stepDrops, .ref m_stepHour, .ref m_stepNext, .ref m_stepPass, .int 0, .int 0, .int 0, .ref m_bestPass, .ref m_far, .ref m_waited, .ref m_servers, .ref m_images, .ref m_isMade]))] H := hP
  have hD : va_D A [(m0, .inr (11, [.ref m_tape, .int 0, .int 0, .ref m_sign, .ref m_length, .ref m_clause, .ref m_clauses, .ref m_chain, .int 0, .int 1, .int 0, .int 0, .int 0, .int 0, .int 0, .ref m_open, .int 0, .ref m_stack, .int 0, .ref m_word, .ref m_said, .ref m_kept, .int 0, .int 0, .int 0, .int 0, .int 0, .int 0, .ref m_stepNode, .ref m_stepDrops, .ref m_stepHour, .ref m_stepNext, .ref m_stepPass, .int 0, .int 0, .int 0, .ref m_bestPass, .ref m_far, .ref m_waited, .ref m_servers, .ref m_images, .ref m_isMade]))] := hD
  have hP9 := hP.sub (ws' := [(m0, .inr (11, [.ref m_tape, .int 0, .int 0, .ref m_sign, .ref m_length, .ref m_clause, .ref m_clauses, .ref m_chain, .int 0, .int 1, .int 0, .int 0, .int 0, .int 0, .int 0, .ref m_open, .int 0, .ref m_stack, .int 0, .ref m_word, .ref m_said, .ref m_kept, .int 0, .int 0, .int 0, .int 0, .int 0, .int 0, .ref m_stepNode, .ref m_stepDrops, .ref m_stepHour, .ref m_stepNext, .ref m_stepPass, .int 0, .int 0, .int 0, .ref m_bestPass, .ref m_far, .ref m_waited, .ref m_servers, .ref m_images, .ref m_isMade]))]) [0] rfl
  have hD9 := hD.sub (ws' := [(m0, .inr (11, [.ref m_tape, .int 0, .int 0, .ref m_sign, .ref m_length, .ref m_clause, .ref m_clauses, .ref m_chain, .int 0, .int 1, .int 0, .int 0, .int 0, .int 0, .int 0, .ref m_open, .int 0, .ref m_stack, .int 0, .ref m_word, .ref m_said, .ref m_kept, .int 0, .int 0, .int 0, .int 0, .int 0, .int 0, .ref m_stepNode, .ref m_stepDrops, .ref m_stepHour, .ref m_stepNext, .ref m_stepPass, .int 0, .int 0, .int 0, .ref m_bestPass, .ref m_far, .ref m_waited, .ref m_servers, .ref m_images, .ref m_isMade]))]) [0] (by decide) rfl
  refine W.widen (k := 0) (n := 0) (Nat.le_of_ble_eq_true rfl) (Nat.le_of_ble_eq_true rfl) ?_
  exact W.zret (v := 0) hx hb hr rfl (fun t ht hW => ⟨⟨0, (), rfl, rfl, by rw [ht]; exact hP9, hD9⟩, hS.F ht⟩) hS.2.2 dX11_clauseHere_92
set_option maxHeartbeats 4000000 in
set_option maxRecDepth 100000 in
theorem mX11_four_0 (l : Launch) (dC : Nat → ClassId) (dI : Nat → Nat → Nat) (kA : Nat → ClassId) (sz : Nat) (m0 : Nat) (m_tape : Nat) (m_sign : Nat) (m_length : Nat) (m_clause : Nat) (m_clauses : Nat) (m_chain : Nat) (m_open : Nat) (m_stack : Nat) (m_word : Nat) (m_said : Nat) (m_kept : Nat) (m_stepNode : Nat) (m_stepDrops : Nat) (m_stepHour : Nat) (m_stepNext : Nat) (m_stepPass : Nat) (m_bestPass : Nat) (m_far : Nat) (m_waited : Nat) (m_servers : Nat) (m_images : Nat) (m_isMade : Nat) (f : Nat → Int32) (v : Int32)  : Met l yX11_four wsX11_four ({ frames := 0, cells := 0, slots := 0, locals := 0 }) (zPc dC dI kA sz [.ref m0, .int v] [(m0, .inr (11, [.ref m_tape, .int 0, .int 0, .ref m_sign, .ref m_length, .ref m_clause, .ref m_clauses, .ref m_chain, .int 0, .int 0, .int 0, .int 0, .int 0, .int 0, .int 0, .ref m_open, .int 0, .ref m_stack, .int 0, .ref m_word, .ref m_said, .ref m_kept, .int 0, .int 0, .int 0, .int 0, .int 0, .int 0, .ref m_stepNode, .ref m_stepDrops, .ref m_stepHour, .ref m_stepNext, .ref m_stepPass, .int 0, .int 0, .int 0, .ref m_bestPass, .ref m_far, .ref m_waited, .ref m_servers, .ref m_images, .ref m_isMade])), (m_tape, .inl (kA 1, 400, .inl f))]) (va_Qv (fun (u : Nat → Int32) => True) (zB dC dI (va_A [(m0, .inr (11, [.ref m_tape, .int 0, .int 0, .ref m_sign, .ref m_length, .ref m_clause, .ref m_clauses, .ref m_chain, .int 0, .int 0, .int 0, .int 0, .int 0, .int 0, .int 0, .ref m_open, .int 0, .ref m_stack, .int 0, .ref m_word, .ref m_said, .ref m_kept, .int 0, .int 0, .int 0, .int 0, .int 0, .int 0, .ref m_stepNode, .ref m_stepDrops, .ref m_stepHour, .ref m_stepNext, .ref m_stepPass, .int 0, .int 0, .int 0, .ref m_bestPass, .ref m_far, .ref m_waited, .ref m_servers, .ref m_images, .ref m_isMade])), (m_tape, .inl (kA 1, 400, .inl f))] sz) (fun (u : Nat → Int32) => [(m0, .inr (11, [.ref m_tape, .int 4, .int 0, .ref m_sign, .ref m_length, .ref m_clause, .ref m_clauses, .ref m_chain, .int 0, .int 0, .int 0, .int 0, .int 0, .int 0, .int 0, .ref m_open, .int 0, .ref m_stack, .int 0, .ref m_word, .ref m_said, .ref m_kept, .int 0, .int 0, .int 0, .int 0, .int 0, .int 0, .ref m_stepNode, .ref m_stepDrops, .ref m_stepHour, .ref m_stepNext, .ref m_stepPass, .int 0, .int 0, .int 0, .ref m_bestPass, .ref m_far, .ref m_waited, .ref m_servers, .ref m_images, .ref m_isMade])), (m_tape, .inl (kA 1, 400, .inl u))])) (va_A [(m0, .inr (11, [.ref m_tape, .int 0, .int 0, .ref m_sign, .ref m_length, .ref m_clause, .ref m_clauses, .ref m_chain, .int 0, .int 0, .int 0, .int 0, .int 0, .int 0, .int 0, .ref m_open, .int 0, .ref m_stack, .int 0, .ref m_word, .ref m_said, .ref m_kept, .int 0, .int 0, .int 0, .int 0, .int 0, .int 0, .ref m_stepNode, .ref m_stepDrops, .ref m_stepHour, .ref m_stepNext, .ref m_stepPass, .int 0, .int 0, .int 0, .ref m_bestPass, .ref m_far, .ref m_waited, .ref m_servers, .ref m_images, .ref m_isMade])), (m_tape, .inl (kA 1, 400, .inl f))] sz)) 0 0 (va_A [(m0, .inr (11, [.ref m_tape, .int 0, .int 0, .ref m_sign, .ref m_length, .ref m_clause, .ref m_clauses, .ref m_chain, .int 0, .int 0, .int 0, .int 0, .int 0, .int 0, .int 0, .ref m_open, .int 0, .ref m_stack, .int 0, .ref m_word, .ref m_said, .ref m_kept, .int 0, .int 0, .int 0, .int 0, .int 0, .int 0, .ref m_stepNode, .ref m_stepDrops, .ref m_stepHour, .ref m_stepNext, .ref m_stepPass, .int 0, .int 0, .int 0, .ref m_bestPass, .ref m_far, .ref m_waited, .ref m_servers, .ref m_images, .ref m_isMade])), (m_tape, .inl (kA 1, 400, .inl f))] sz) := by
  refine Met.ofW (cc := cX11_four) (maxL := 3) (ret := none) (by decide) rfl ?_
  intro p e s m args below meth c s₁ B hml hv
  obtain ⟨rfl, hsz, hP, hK, hD0⟩ := hv
  have hx := B.exec
  have hb := B.bytes
  have hr := B.returns
  have hts := atoms_spec (ws := wsX11_four) B.pre
  have hown : s.vm.findClass RX11 = some m.cls := findClass_of_methodNamed B.named
  have hlocks := B.notSynchronized
  subst hsz
  have hD := hD0.self (sz := s.heap.size)
  generalize hAe : va_A [(m0, .inr (11, [.ref m_tape, .int 0, .int 0, .ref m_sign, .ref m_length, .ref m_clause, .ref m_clauses, .ref m_chain, .int 0, .int 0, .int 0, .int 0, .int 0, .int 0, .int 0, .ref m_open, .int 0, .ref m_stack, .int 0, .ref m_word, .ref m_said, .ref m_kept, .int 0, .int 0, .int 0, .int 0, .int 0, .int 0, .ref m_stepNode, .ref m_stepDrops, .ref m_stepHour, .ref m_stepNext, .ref m_stepPass, .int 0, .int 0, .int 0, .ref m_bestPass, .ref m_far, .ref m_waited, .ref m_servers, .ref m_images, .ref m_isMade])), (m_tape, .inl (kA 1, 400, .inl f))] s.heap.size = A at hD ⊢
  have hA : ∀ q : Nat, s.heap.size ≤ q → A q := fun q h => by rw [← hAe]; exact Or.inr h
  have hS : va_S A s.heap s.heap [] := va_S.rf
  have hP : va_P (dC, dI) vwCl [(m0, .inr (11, [.ref m_tape, .int 0, .int 0, .ref m_sign, .ref m_length, .ref m_clause, .ref m_clauses, .ref m_chain, .int 0, .int 0, .int 0, .int 0, .int 0, .int 0, .int 0, .ref m_open, .int 0, .ref m_stack, .int 0, .ref m_word, .ref m_said, .ref m_kept, .int 0, .int 0, .int 0, .int 0, .int 0, .int 0, .ref m_stepNode, .ref m_stepDrops, .ref m_stepHour, .ref m_stepNext, .ref m_stepPass, .int 0, .int 0, .int 0, .ref m_bestPass, .ref m_far, .ref m_waited, .ref m_servers, .ref m_images, .ref m_isMade])), (m_tape, .inl (kA 1, 400, .inl f))] s.heap := hP
  have hl := lv_entry ([.ref m0, .int v]) (n := 3) (Nat.le_of_ble_eq_true rfl)
  rw [lg_entry_eq]
  generalize (lg_sl ([.ref m0, .int v]) ++ List.replicate (3 - (lg_sl ([.ref m0, .int v])).length) Slot.unset).toArray = ls at hl ⊢
  have hl : lv_has ls 3 [(0, .ref m0), (1, .int v)] := hl
  refine lv_bipush (v := 24) hx hb dX11_four_0 (by decide) ?_
  refine lv_istore_n (lv' := [(2, .int 24), (0, .ref m0), (1, .int v)]) hx hb dX11_four_2 rfl hl (by decide) rfl (fun ls hl => ?_)
  refine lv_iload_n hx hb dX11_four_3 rfl (lv_at hl 0 rfl) ?_
  refine lv_if_lt (tgt := 36) hx hb dX11_four_4 (by decide) (fun c_1 => absurd c_1 (by decide)) (fun _ => ?_)
  refine lv_aload_n hx hb dX11_four_7 rfl (lv_at hl 1 rfl) ?_
  refine va_get (D := (dC, dI)) (ci := 11) (v := .ref m_tape) (C := RX11) (T := TX11) (N := 42) hx hb hts iX11_four_X11 hown hK.1 hP 0 rfl rfl 0 (by decide) (kX11_four_1 hts) (fun _ h9 => h9) rfl dX11_four_8 ?_
  refine lv_aload_n hx hb dX11_four_11 rfl (lv_at hl 1 rfl) ?_
  refine va_get (D := (dC, dI)) (ci := 11) (v := .int 0) (C := RX11) (T := TX11) (N := 42) hx hb hts iX11_four_X11 hown hK.1 hP 0 rfl rfl 1 (by decide) (kX11_four_2 hts) (fun _ h9 => h9) rfl dX11_four_12 ?_
  refine lv_iload_n hx hb dX11_four_15 rfl (lv_at hl 2 rfl) ?_
  refine lv_iload_n hx hb dX11_four_16 rfl (lv_at hl 0 rfl) ?_
  refine lv_ishr hx hb dX11_four_17 ?_
  refine lv_topi (fun x2 ex2 => ?_)
  refine lv_i2b hx hb dX11_four_18 rfl ?_
  refine lv_topi (fun x3 ex3 => ?_)
  refine va_bast hx hb hK.1 hP hD hS 1 1 rfl rfl (vpd (by decide)) dX11_four_19 (fun H locs hP hD hS => ?_)
  have hP : va_P (dC, dI) vwCl [(m0, .inr (11, [.ref m_tape, .int 0, .int 0, .ref m_sign, .ref m_length, .ref m_clause, .ref m_clauses, .ref m_chain, .int 0, .int 0, .int 0, .int 0, .int 0, .int 0, .int 0, .ref m_open, .int 0, .ref m_stack, .int 0, .ref m_word, .ref m_said, .ref m_kept, .int 0, .int 0, .int 0, .int 0, .int 0, .int 0, .ref m_stepNode, .ref m_stepDrops, .ref m_stepHour, .ref m_stepNext, .ref m_stepPass, .int 0, .int 0, .int 0, .ref m_bestPass, .ref m_far, .ref m_waited, .ref m_servers, .ref m_images, .ref m_isMade])), (m_tape, .inl (kA 1, 400, .inl (upd f (0 : Int32).toNatClampNeg (vp_nar .byte x3))))] H := hP
  have hD : va_D A [(m0, .inr (11, [.ref m_tape, .int 0, .int 0, .ref m_sign, .ref m_length, .ref m_clause, .ref m_clauses, .ref m_chain, .int 0, .int 0, .int 0, .int 0, .int 0, .int 0, .int 0, .ref m_open, .int 0, .ref m_stack, .int 0, .ref m_word, .ref m_said, .ref m_kept, .int 0, .int 0, .int 0, .int 0, .int 0, .int 0, .ref m_stepNode, .ref m_stepDrops, .ref m_stepHour, .ref m_stepNext, .ref m_stepPass, .int 0, .int 0, .int 0, .ref m_bestPass, .ref m_far, .ref m_waited, .ref m_servers, .ref m_images, .ref m_isMade])), (m_tape, .inl (kA 1, 400, .inl (upd f (0 : Int32).toNatClampNeg (vp_nar .byte x3))))] := hD
  obtain ⟨f4, ef4⟩ : ∃ y : Nat → Int32, y = (upd f (0 : Int32).toNatClampNeg (vp_nar .byte x3)) := ⟨_, rfl⟩
  rw [← ef4] at hP hD
  refine lv_aload_n hx hb dX11_four_20 rfl (lv_at hl 1 rfl) ?_
  refine lv_dup hx hb dX11_four_21 rfl ?_
  refine va_get (D := (dC, dI)) (ci := 11) (v := .int 0) (C := RX11) (T := TX11) (N := 42) hx hb hts iX11_four_X11 hown hK.1 hP 0 rfl rfl 1 (by decide) (kX11_four_2 hts) (fun _ h9 => h9) rfl dX11_four_22 ?_
  refine lv_iconst (v := 1) hx hb dX11_four_25 (by decide) ?_
  refine lv_iadd hx hb dX11_four_26 ?_
  refine zi 1 (by decide) ?_
  refine va_put (D := (dC, dI)) (ci := 11) (v := .int 1) (ty := .int) (C := RX11) (T := TX11) (N := 42) hx hb hts iX11_four_X11 tyX11 tyX11_ok nmX11 hown hK.1 hP hD hS 0 rfl rfl 1 (by decide) (kX11_four_2 hts) (fun _ h9 => h9) rfl (by decide +kernel) rfl rfl (Nat.le_of_ble_eq_true rfl) dX11_four_27 (fun H locs hP hD hS => ?_)
  have hP : va_P (dC, dI) vwCl [(m0, .inr (11, [.ref m_tape, .int 1, .int 0, .ref m_sign, .ref m_length, .ref m_clause, .ref m_clauses, .ref m_chain, .int 0, .int 0, .int 0, .int 0, .int 0, .int 0, .int 0, .ref m_open, .int 0, .ref m_stack, .int 0, .ref m_word, .ref m_said, .ref m_kept, .int 0, .int 0, .int 0, .int 0, .int 0, .int 0, .ref m_stepNode, .ref m_stepDrops, .ref m_stepHour, .ref m_stepNext, .ref m_stepPass, .int 0, .int 0, .int 0, .ref m_bestPass, .ref m_far, .ref m_waited, .ref m_servers, .ref m_images, .ref m_isMade])), (m_tape, .inl (kA 1, 400, .inl f4))] H := hP
  have hD : va_D A [(m0, .inr (11, [.ref m_tape, .int 1, .int 0, .ref m_sign, .ref m_length, .ref m_clause, .ref m_clauses, .ref m_chain, .int 0, .int 0, .int 0, .int 0, .int 0, .int 0, .int 0, .ref m_open, .int 0, .ref m_stack, .int 0, .ref m_word, .ref m_said, .ref m_kept, .int 0, .int 0, .int 0, .int 0, .int 0, .int 0, .ref m_stepNode, .ref m_stepDrops, .ref m_stepHour, .ref m_stepNext, .ref m_stepPass, .int 0, .int 0, .int 0, .ref m_bestPass, .ref m_far, .ref m_waited, .ref m_servers, .ref m_images, .ref m_isMade])), (m_tape, .inl (kA 1, 400, .inl f4))] := hD
  refine lv_iinc (v := 16) (lv' := [(2, .int 16), (0, .ref m0), (1, .int v)]) hx hb dX11_four_30 hl (k := 0) rfl (by decide) (by decide) rfl (fun ls hl => ?_)
  refine lv_goto (tgt := 3) hx hb dX11_four_33 (by decide) ?_
  refine lv_iload_n hx hb dX11_four_3 rfl (lv_at hl 0 rfl) ?_
  refine lv_if_lt (tgt := 36) hx hb dX11_four_4 (by decide) (fun c_5 => absurd c_5 (by decide)) (fun _ => ?_)
  refine lv_aload_n hx hb dX11_four_7 rfl (lv_at hl 1 rfl) ?_
  refine va_get (D := (dC, dI)) (ci := 11) (v := .ref m_tape) (C := RX11) (T := TX11) (N := 42) hx hb hts iX11_four_X11 hown hK.1 hP 0 rfl rfl 0 (by decide) (kX11_four_1 hts) (fun _ h9 => h9) rfl dX11_four_8 ?_
  refine lv_aload_n hx hb dX11_four_11 rfl (lv_at hl 1 rfl) ?_
  refine va_get (D := (dC, dI)) (ci := 11) (v := .int 1) (C := RX11) (T := TX11) (N := 42) hx hb hts iX11_four_X11 hown hK.1 hP 0 rfl rfl 1 (by decide) (kX11_four_2 hts) (fun _ h9 => h9) rfl dX11_four_12 ?_
  refine lv_iload_n hx hb dX11_four_15 rfl (lv_at hl 2 rfl) ?_
  refine lv_iload_n hx hb dX11_four_16 rfl (lv_at hl 0 rfl) ?_
  refine lv_ishr hx hb dX11_four_17 ?_
  refine lv_topi (fun x6 ex6 => ?_)
  refine lv_i2b hx hb dX11_four_18 rfl ?_
  refine lv_topi (fun x7 ex7 => ?_)
  refine va_bast hx hb hK.1 hP hD hS 1 1 rfl rfl (vpd (by decide)) dX11_four_19 (fun H locs hP hD hS => ?_)
  have hP : va_P (dC, dI) vwCl [(m0, .inr (11, [.ref m_tape, .int 1, .int 0, .ref m_sign, .ref m_length, .ref m_clause, .ref m_clauses, .ref m_chain, .int 0, .int 0, .int 0, .int 0, .int 0, .int 0, .int 0, .ref m_open, .int 0, .ref m_stack, .int 0, .ref m_word, .ref m_said, .ref m_kept, .int 0, .int 0, .int 0, .int 0, .int 0, .int 0, .ref m_stepNode, .ref m_stepDrops, .ref m_stepHour, .ref m_stepNext, .ref m_stepPass, .int 0, .int 0, .int 0, .ref m_bestPass, .ref m_far, .ref m_waited, .ref m_servers, .ref m_images, .ref m_isMade])), (m_tape, .inl (kA 1, 400, .inl (upd f4 (1 : Int32).toNatClampNeg (vp_nar .byte x7))))] H := hP
  have hD : va_D A [(m0, .inr (11, [.ref m_tape, .int 1, .int 0, .ref m_sign, .ref m_length, .ref m_clause, .ref m_clauses, .ref m_chain, .int 0, .int 0, .int 0, .int 0, .int 0, .int 0, .int 0, .ref m_open, .int 0, .ref m_stack, .int 0, .ref m_word, .ref m_said, .ref m_kept, .int 0, .int 0, .int 0, .int 0, .int 0, .int 0, .ref m_stepNode, .ref m_stepDrops, .ref m_stepHour, .ref m_stepNext, .ref m_stepPass, .int 0, .int 0, .int 0, .ref m_bestPass, .ref m_far, .ref m_waited, .ref m_servers, .ref m_images, .ref m_isMade])), (m_tape, .inl (kA 1, 400, .inl (upd f4 (1 : Int32).toNatClampNeg (vp_nar .byte x7))))] := hD
  obtain ⟨f8, ef8⟩ : ∃ y : Nat → Int32, y = (upd f4 (1 : Int32).toNatClampNeg (vp_nar .byte x7)) := ⟨_, rfl⟩
  rw [← ef8] at hP hD
  refine lv_aload_n hx hb dX11_four_20 rfl (lv_at hl 1 rfl) ?_
  refine lv_dup hx hb dX11_four_21 rfl ?_
  refine va_get (D := (dC, dI)) (ci := 11) (v := .int 1) (C := RX11) (T := TX11) (N := 42) hx hb hts iX11_four_X11 hown hK.1 hP 0 rfl rfl 1 (by decide) (kX11_four_2 hts) (fun _ h9 => h9) rfl dX11_four_22 ?_
  refine lv_iconst (v := 1) hx hb dX11_four_25 (by decide) ?_
  refine lv_iadd hx hb dX11_four_26 ?_
  refine zi 2 (by decide) ?_
  refine va_put (D := (dC, dI)) (ci := 11) (v := .int 2) (ty := .int) (C := RX11) (T := TX11) (N := 42) hx hb hts iX11_four_X11 tyX11 tyX11_ok nmX11 hown hK.1 hP hD hS 0 rfl rfl 1 (by decide) (kX11_four_2 hts) (fun _ h9 => h9) rfl (by decide +kernel) rfl rfl (Nat.le_of_ble_eq_true rfl) dX11_four_27 (fun H locs hP hD hS => ?_)
  have hP : va_P (dC, dI) vwCl [(m0, .inr (11, [.ref m_tape, .int 2, .int 0, .ref m_sign, .ref m_length, .ref m_clause, .ref m_clauses, .ref m_chain, .int 0, .int 0, .int 0, .int 0, .int 0, .int 0, .int 0, .ref m_open, .int 0, .ref m_stack, .int 0, .ref m_word, .ref m_said, .ref m_kept, .int 0, .int 0, .int 0, .int 0, .int 0, .int 0, .ref m_stepNode, .ref m_stepDrops, .ref m_stepHour, .ref m_stepNext, .ref m_stepPass, .int 0, .int 0, .int 0, .ref m_bestPass, .ref m_far, .ref m_waited, .ref m_servers, .ref m_images, .ref m_isMade])), (m_tape, .inl (kA 1, 400, .inl f8))] H := hP
  have hD : va_D A [(m0, .inr (11, [.ref m_tape, .int 2, .int 0, .ref m_sign, .ref m_length, .ref m_clause, .ref m_clauses, .ref m_chain, .int 0, .int 0, .int 0, .int 0, .int 0, .int 0, .int 0, .ref m_open, .int 0, .ref m_stack, .int 0, .ref m_word, .ref m_said, .ref m_kept, .int 0, .int 0, .int 0, .int 0, .int 0, .int 0, .ref m_stepNode, .ref m_stepDrops, .ref m_stepHour, .ref m_stepNext, .ref m_stepPass, .int 0, .int 0, .int 0, .ref m_bestPass, .ref m_far, .ref m_waited, .ref m_servers, .ref m_images, .ref m_isMade])), (m_tape, .inl (kA 1, 400, .inl f8))] := hD
  refine lv_iinc (v := 8) (lv' := [(2, .int 8), (0, .ref m0), (1, .int v)]) hx hb dX11_four_30 hl (k := 0) rfl (by decide) (by decide) rfl (fun ls hl => ?_)
  refine lv_goto (tgt := 3) hx hb dX11_four_33 (by decide) ?_
  refine lv_iload_n hx hb dX11_four_3 rfl (lv_at hl 0 rfl) ?_
  refine lv_if_lt (tgt := 36) hx hb dX11_four_4 (by decide) (fun c_9 => absurd c_9 (by decide)) (fun _ => ?_)
  refine lv_aload_n hx hb dX11_four_7 rfl (lv_at hl 1 rfl) ?_
  refine va_get (D := (dC, dI)) (ci := 11) (v := .ref m_tape) (C := RX11) (T := TX11) (N := 42) hx hb hts iX11_four_X11 hown hK.1 hP 0 rfl rfl 0 (by decide) (kX11_four_1 hts) (fun _ h9 => h9) rfl dX11_four_8 ?_
  refine lv_aload_n hx hb dX11_four_11 rfl (lv_at hl 1 rfl) ?_
  refine va_get (D := (dC, dI)) (ci := 11) (v := .int 2) (C := RX11) (T := TX11) (N := 42) hx hb hts iX11_four_X11 hown hK.1 hP 0 rfl rfl 1 (by decide) (kX11_four_2 hts) (fun _ h9 => h9) rfl dX11_four_12 ?_
  refine lv_iload_n hx hb dX11_four_15 rfl (lv_at hl 2 rfl) ?_
  refine lv_iload_n hx hb dX11_four_16 rfl (lv_at hl 0 rfl) ?_
  refine lv_ishr hx hb dX11_four_17 ?_
  refine lv_topi (fun x10 ex10 => ?_)
  refine lv_i2b hx hb dX11_four_18 rfl ?_
  refine lv_topi (fun x11 ex11 => ?_)
  refine va_bast hx hb hK.1 hP hD hS 1 1 rfl rfl (vpd (by decide)) dX11_four_19 (fun H locs hP hD hS => ?_)
  have hP : va_P (dC, dI) vwCl [(m0, .inr (11, [.ref m_tape, .int 2, .int 0, .ref m_sign, .ref m_length, .ref m_clause, .ref m_clauses, .ref m_chain, .int 0, .int 0, .int 0, .int 0, .int 0, .int 0, .int 0, .ref m_open, .int 0, .ref m_stack, .int 0, .ref m_word, .ref m_said, .ref m_kept, .int 0, .int 0, .int 0, .int 0, .int 0, .int 0, .ref m_stepNode, .ref m_stepDrops, .ref m_stepHour, .ref m_stepNext, .ref m_stepPass, .int 0, .int 0, .int 0, .ref m_bestPass, .ref m_far, .ref m_waited, .ref m_servers, .ref m_images, .ref m_isMade])), (m_tape, .inl (kA 1, 400, .inl (upd f8 (2 : Int32).toNatClampNeg (vp_nar .byte x11))))] H := hP
  have hD : va_D A [(m0, .inr (11, [.ref m_tape, .int 2, .int 0, .ref m_sign, .ref m_length, .ref m_clause, .ref m_clauses, .ref m_chain, .int 0, .int 0, .int 0, .int 0, .int 0, .int 0, .int 0, .ref m_open, .int 0, .ref m_stack, .int 0, .ref m_word, .ref m_said, .ref m_kept, .int 0, .int 0, .int 0, .int 0, .int 0, .int 0, .ref m_stepNode, .ref m_stepDrops, .ref m_stepHour, .ref m_stepNext, .ref m_stepPass, .int 0, .int 0, .int 0, .ref m_bestPass, .ref m_far, .ref m_waited, .ref m_servers, .ref m_images, .ref m_isMade])), (m_tape, .inl (kA 1, 400, .inl (upd f8 (2 : Int32).toNatClampNeg (vp_nar .byte x11))))] := hD
  obtain ⟨f12, ef12⟩ : ∃ y : Nat → Int32, y = (upd f8 (2 : Int32).toNatClampNeg (vp_nar .byte x11)) := ⟨_, rfl⟩
  rw [← ef12] at hP hD
  refine lv_aload_n hx hb dX11_four_20 rfl (lv_at hl 1 rfl) ?_
  refine lv_dup hx hb dX11_four_21 rfl ?_
  refine va_get (D := (dC, dI)) (ci := 11) (v := .int 2) (C := RX11) (T := TX11) (N := 42) hx hb hts iX11_four_X11 hown hK.1 hP 0 rfl rfl 1 (by decide) (kX11_four_2 hts) (fun _ h9 => h9) rfl dX11_four_22 ?_
  refine lv_iconst (v := 1) hx hb dX11_four_25 (by decide) ?_
  refine lv_iadd hx hb dX11_four_26 ?_
  refine zi 3 (by decide) ?_
  refine va_put (D := (dC, dI)) (ci := 11) (v := .int 3) (ty := .int) (C := RX11) (T := TX11) (N := 42) hx hb hts iX11_four_X11 tyX11 tyX11_ok nmX11 hown hK.1 hP hD hS 0 rfl rfl 1 (by decide) (kX11_four_2 hts) (fun _ h9 => h9) rfl (by decide +kernel) rfl rfl (Nat.le_of_ble_eq_true rfl) dX11_four_27 (fun H locs hP hD hS => ?_)
  have hP : va_P (dC, dI) vwCl [(m0, .inr (11, [.ref m_tape, .int 3, .int 0, .ref m_sign, .ref m_length, .ref m_clause, .ref m_clauses, .ref m_chain, .int 0, .int 0, .int 0, .int 0, .int 0, .int 0, .int 0, .ref m_open, .int 0, .ref m_stack, .int 0, .ref m_word, .ref m_said, .ref m_kept, .int 0, .int 0, .int 0, .int 0, .int 0, .int 0, .ref m_stepNode, .ref m_stepDrops, .ref m_stepHour, .ref m_stepNext, .ref m_stepPass, .int 0, .int 0, .int 0, .ref m_bestPass, .ref m_far, .ref m_waited, .ref m_servers, .ref m_images, .ref m_isMade])), (m_tape, .inl (kA 1, 400, .inl f12))] H := hP
  have hD : va_D A [(m0, .inr (11, [.ref m_tape, .int 3, .int 0, .ref m_sign, .ref m_length, .ref m_clause, .ref m_clauses, .ref m_chain, .int 0, .int 0, .int 0, .int 0, .int 0, .int 0, .int 0, .ref m_open, .int 0, .ref m_stack, .int 0, .ref m_word, .ref m_said, .ref m_kept, .int 0, .int 0, .int 0, .int 0, .int 0, .int 0, .ref m_stepNode, .ref m_stepDrops, .ref m_stepHour, .ref m_stepNext, .ref m_stepPass, .int 0, .int 0, .int 0, .ref m_bestPass, .ref m_far, .ref m_waited, .ref m_servers, .ref m_images, .ref m_isMade])), (m_tape, .inl (kA 1, 400, .inl f12))] := hD
  refine lv_iinc (v := 0) (lv' := [(2, .int 0), (0, .ref m0), (1, .int v)]) hx hb dX11_four_30 hl (k := 0) rfl (by decide) (by decide) rfl (fun ls hl => ?_)
  refine lv_goto (tgt := 3) hx hb dX11_four_33 (by decide) ?_
  refine lv_iload_n hx hb dX11_four_3 rfl (lv_at hl 0 rfl) ?_
  refine lv_if_lt (tgt := 36) hx hb dX11_four_4 (by decide) (fun c_13 => absurd c_13 (by decide)) (fun _ => ?_)
  refine lv_aload_n hx hb dX11_four_7 rfl (lv_at hl 1 rfl) ?_
  refine va_get (D := (dC, dI)) (ci := 11) (v := .ref m_tape) (C := RX11) (T := TX11) (N := 42) hx hb hts iX11_four_X11 hown hK.1 hP 0 rfl rfl 0 (by decide) (kX11_four_1 hts) (fun _ h9 => h9) rfl dX11_four_8 ?_
  refine lv_aload_n hx hb dX11_four_11 rfl (lv_at hl 1 rfl) ?_
  refine va_get (D := (dC, dI)) (ci := 11) (v := .int 3) (C := RX11) (T := TX11) (N := 42) hx hb hts iX11_four_X11 hown hK.1 hP 0 rfl rfl 1 (by decide) (kX11_four_2 hts) (fun _ h9 => h9) rfl dX11_four_12 ?_
  refine lv_iload_n hx hb dX11_four_15 rfl (lv_at hl 2 rfl) ?_
  refine lv_iload_n hx hb dX11_four_16 rfl (lv_at hl 0 rfl) ?_
  refine lv_ishr hx hb dX11_four_17 ?_
  refine lv_topi (fun x14 ex14 => ?_)
  refine lv_i2b hx hb dX11_four_18 rfl ?_
  refine lv_topi (fun x15 ex15 => ?_)
  refine va_bast hx hb hK.1 hP hD hS 1 1 rfl rfl (vpd (by decide)) dX11_four_19 (fun H locs hP hD hS => ?_)
  have hP : va_P (dC, dI) vwCl [(m0, .inr (11, [.ref m_tape, .int 3, .int 0, .ref m_sign, .ref m_length, .ref m_clause, .ref m_clauses, .ref m_chain, .int 0, .int 0, .int 0, .int 0, .int 0, .int 0, .int 0, .ref m_open, .int 0, .ref m_stack, .int 0, .ref m_word, .ref m_said, .ref m_kept, .int 0, .int 0, .int 0, .int 0, .int 0, .int 0, .ref m_stepNode, .ref m_stepDrops, .ref m_stepHour, .ref m_stepNext, .ref m_stepPass, .int 0, .int 0, .int 0, .ref m_bestPass, .ref m_far, .ref m_waited, .ref m_servers, .ref m_images, .ref m_isMade])), (m_tape, .inl (kA 1, 400, .inl (upd f12 (3 : Int32).toNatClampNeg (vp_nar .byte x15))))] H := hP
  have hD : va_D A [(m0, .inr (11, [.ref m_tape, .int 3, .int 0, .ref m_sign, .ref m_length, .ref m_clause, .ref m_clauses, .ref m_chain, .int 0, .int 0, .int 0, .int 0, .int 0, .int 0, .int 0, .ref m_open, .int 0, .ref m_stack, .int 0, .ref m_word, .ref m_said, .ref m_kept, .int 0, .int 0, .int 0, .int 0, .int 0, .int 0, .ref m_stepNode, .ref m_stepDrops, .ref m_stepHour, .ref m_stepNext, .ref m_stepPass, .int 0, .int 0, .int 0, .ref m_bestPass, .ref m_far, .ref m_waited, .ref m_servers, .ref m_images, .ref m_isMade])), (m_tape, .inl (kA 1, 400, .inl (upd f12 (3 : Int32).toNatClampNeg (vp_nar .byte x15))))] := hD
  obtain ⟨f16, ef16⟩ : ∃ y : Nat → Int32, y = (upd f12 (3 : Int32).toNatClampNeg (vp_nar .byte x15)) := ⟨_, rfl⟩
  rw [← ef16] at hP hD
  refine lv_aload_n hx hb dX11_four_20 rfl (lv_at hl 1 rfl) ?_
  refine lv_dup hx hb dX11_four_21 rfl ?_
  refine va_get (D := (dC, dI)) (ci := 11) (v := .int 3) (C := RX11) (T := TX11) (N := 42) hx hb hts iX11_four_X11 hown hK.1 hP 0 rfl rfl 1 (by decide) (kX11_four_2 hts) (fun _ h9 => h9) rfl dX11_four_22 ?_
  refine lv_iconst (v := 1) hx hb dX11_four_25 (by decide) ?_
  refine lv_iadd hx hb dX11_four_26 ?_
  refine zi 4 (by decide) ?_
  refine va_put (D := (dC, dI)) (ci := 11) (v := .int 4) (ty := .int) (C := RX11) (T := TX11) (N := 42) hx hb hts iX11_four_X11 tyX11 tyX11_ok nmX11 hown hK.1 hP hD hS 0 rfl rfl 1 (by decide) (kX11_four_2 hts) (fun _ h9 => h9) rfl (by decide +kernel) rfl rfl (Nat.le_of_ble_eq_true rfl) dX11_four_27 (fun H locs hP hD hS => ?_)
  have hP : va_P (dC, dI) vwCl [(m0, .inr (11, [.ref m_tape, .int 4, .int 0, .ref m_sign, .ref m_length, .ref m_clause, .ref m_clauses, .ref m_chain, .int 0, .int 0, .int 0, .int 0, .int 0, .int 0, .int 0, .ref m_open, .int 0, .ref m_stack, .int 0, .ref m_word, .ref m_said, .ref m_kept, .int 0, .int 0, .int 0, .int 0, .int 0, .int 0, .ref m_stepNode, .ref m_stepDrops, .ref m_stepHour, .ref m_stepNext, .ref m_stepPass, .int 0, .int 0, .int 0, .ref m_bestPass, .ref m_far, .ref m_waited, .ref m_servers, .ref m_images, .ref m_isMade])), (m_tape, .inl (kA 1, 400, .inl f16))] H := hP
  have hD : va_D A [(m0, .inr (11, [.ref m_tape, .int 4, .int 0, .ref m_sign, .ref m_length, .ref m_clause, .ref m_clauses, .ref m_chain, .int 0, .int 0, .int 0, .int 0, .int 0, .int 0, .int 0, .ref m_open, .int 0, .ref m_stack, .int 0, .ref m_word, .ref m_said, .ref m_kept, .int 0, .int 0, .int 0, .int 0, .int 0, .int 0, .ref m_stepNode, .ref m_stepDrops, .ref m_stepHour, .ref m_stepNext, .ref m_stepPass, .int 0, .int 0, .int 0, .ref m_bestPass, .ref m_far, .ref m_waited, .ref m_servers, .ref m_images, .ref m_isMade])), (m_tape, .inl (kA 1, 400, .inl f16))] := hD
  refine lv_iinc (v := (-8)) (lv' := [(2, .int (-8)), (0, .ref m0), (1, .int v)]) hx hb dX11_four_30 hl (k := 0) rfl (by decide) (by decide) rfl (fun ls hl => ?_)
  refine lv_goto (tgt := 3) hx hb dX11_four_33 (by decide) ?_
  refine lv_iload_n hx hb dX11_four_3 rfl (lv_at hl 0 rfl) ?_
  refine lv_if_lt (tgt := 36) hx hb dX11_four_4 (by decide) (fun _ => ?_) (fun c_17 => absurd (by decide) c_17)
  have hP9 := hP.sub (ws' := [(m0, .inr (11, [.ref m_tape, .int 4, .int 0, .ref m_sign, .ref m_length, .ref m_clause, .ref m_clauses, .ref m_chain, .int 0, .int 0, .int 0, .int 0, .int 0, .int 0, .int 0, .ref m_open, .int 0, .ref m_stack, .int 0, .ref m_word, .ref m_said, .ref m_kept, .int 0, .int 0, .int 0, .int 0, .int 0, .int 0, .ref m_stepNode, .ref m_stepDrops, .ref m_stepHour, .ref m_stepNext, .ref m_stepPass, .int 0, .int 0, .int 0, .ref m_bestPass, .ref m_far, .ref m_waited, .ref m_servers, .ref m_images, .ref m_isMade])), (m_tape, .inl (kA 1, 400, .inl f16))]) [0, 1] rfl
  have hD9 := hD.sub (ws' := [(m0, .inr (11, [.ref m_tape, .int 4, .int 0, .ref m_sign, .ref m_length, .ref m_clause, .ref m_clauses, .ref m_chain, .int 0, .int 0, .int 0, .int 0, .int 0, .int 0, .int 0, .ref m_open, .int 0, .ref m_stack, .int 0, .ref m_word, .ref m_said, .ref m_kept, .int 0, .int 0, .int 0, .int 0, .int 0, .int 0, .ref m_stepNode, .ref m_stepDrops, .ref m_stepHour, .ref m_stepNext, .ref m_stepPass, .int 0, .int 0, .int 0, .ref m_bestPass, .ref m_far, .ref m_waited, .ref m_servers, .ref m_images, .ref m_isMade])), (m_tape, .inl (kA 1, 400, .inl f16))]) [0, 1] (by decide) rfl
  refine W.widen (k := 0) (n := 0) (Nat.le_of_ble_eq_true rfl) (Nat.le_of_ble_eq_true rfl) ?_
  exact W.vret hx hb hr (fun t ht hW => ⟨⟨(f16), rfl, trivial, by rw [ht]; exact hP9, hD9⟩, hS.F ht⟩) hS.2.2 dX11_four_36
set_option maxHeartbeats 4000000 in
set_option maxRecDepth 100000 in
theorem mX11_four_4 (l : Launch) (dC : Nat → ClassId) (dI : Nat → Nat → Nat) (kA : Nat → ClassId) (sz : Nat) (m0 : Nat) (m_tape : Nat) (m_sign : Nat) (m_length : Nat) (m_clause : Nat) (m_clauses : Nat) (m_chain : Nat) (m_open : Nat) (m_stack : Nat) (m_word : Nat) (m_said : Nat) (m_kept : Nat) (m_stepNode : Nat) (m_stepDrops : Nat) (m_stepHour : Nat) (m_stepNext : Nat) (m_stepPass : Nat) (m_bestPass : Nat) (m_far : Nat) (m_waited : Nat) (m_servers : Nat) (m_images : Nat) (m_isMade : Nat) (f : Nat → Int32) (v : Int32)  : Met l yX11_four wsX11_four ({ frames := 0, cells := 0, slots := 0, locals := 0 }) (zPc dC dI kA sz [.ref m0, .int v] [(m0, .inr (11, [.ref m_tape, .int 4, .int 0, .ref m_sign, .ref m_length, .ref m_clause, .ref m_clauses, .ref m_chain, .int 0, .int 0, .int 0, .int 0, .int 0, .int 0, .int 0, .ref m_open, .int 0, .ref m_stack, .int 0, .ref m_word, .ref m_said, .ref m_kept, .int 0, .int 0, .int 0, .int 0, .int 0, .int 0, .ref m_stepNode, .ref m_stepDrops, .ref m_stepHour, .ref m_stepNext, .ref m_stepPass, .int 0, .int 0, .int 0, .ref m_bestPass, .ref m_far, .ref m_waited, .ref m_servers, .ref m_images, .ref m_isMade])), (m_tape, .inl (kA 1, 400, .inl f))]) (va_Qv (fun (u : Nat → Int32) => True) (zB dC dI (va_A [(m0, .inr (11, [.ref m_tape, .int 4, .int 0, .ref m_sign, .ref m_length, .ref m_clause, .ref m_clauses, .ref m_chain, .int 0, .int 0, .int 0, .int 0, .int 0, .int 0, .int 0, .ref m_open, .int 0, .ref m_stack, .int 0, .ref m_word, .ref m_said, .ref m_kept, .int 0, .int 0, .int 0, .int 0, .int 0, .int 0, .ref m_stepNode, .ref m_stepDrops, .ref m_stepHour, .ref m_stepNext, .ref m_stepPass, .int 0, .int 0, .int 0, .ref m_bestPass, .ref m_far, .ref m_waited, .ref m_servers, .ref m_images, .ref m_isMade])), (m_tape, .inl (kA 1, 400, .inl f))] sz) (fun (u : Nat → Int32) => [(m0, .inr (11, [.ref m_tape, .int 8, .int 0, .ref m_sign, .ref m_length, .ref m_clause, .ref m_clauses, .ref m_chain, .int 0, .int 0, .int 0, .int 0, .int 0, .int 0, .int 0, .ref m_open, .int 0, .ref m_stack, .int 0, .ref m_word, .ref m_said, .ref m_kept, .int 0, .int 0, .int 0, .int 0, .int 0, .int 0, .ref m_stepNode, .ref m_stepDrops, .ref m_stepHour, .ref m_stepNext, .ref m_stepPass, .int 0, .int 0, .int 0, .ref m_bestPass, .ref m_far, .ref m_waited, .ref m_servers, .ref m_images, .ref m_isMade])), (m_tape, .inl (kA 1, 400, .inl u))])) (va_A [(m0, .inr (11, [.ref m_tape, .int 4, .int 0, .ref m_sign, .ref m_length, .ref m_clause, .ref m_clauses, .ref m_chain, .int 0, .int 0, .int 0, .int 0, .int 0, .int 0, .int 0, .ref m_open, .int 0, .ref m_stack, .int 0, .ref m_word, .ref m_said, .ref m_kept, .int 0, .int 0, .int 0, .int 0, .int 0, .int 0, .ref m_stepNode, .ref m_stepDrops, .ref m_stepHour, .ref m_stepNext, .ref m_stepPass, .int 0, .int 0, .int 0, .ref m_bestPass, .ref m_far, .ref m_waited, .ref m_servers, .ref m_images, .ref m_isMade])), (m_tape, .inl (kA 1, 400, .inl f))] sz)) 0 0 (va_A [(m0, .inr (11, [.ref m_tape, .int 4, .int 0, .ref m_sign, .ref m_length, .ref m_clause, .ref m_clauses, .ref m_chain, .int 0, .int 0, .int 0, .int 0, .int 0, .int 0, .int 0, .ref m_open, .int 0, .ref m_stack, .int 0, .ref m_word, .ref m_said, .ref m_kept, .int 0, .int 0, .int 0, .int 0, .int 0, .int 0, .ref m_stepNode, .ref m_stepDrops, .ref m_stepHour, .ref m_stepNext, .ref m_stepPass, .int 0, .int 0, .int 0, .ref m_bestPass, .ref m_far, .ref m_waited, .ref m_servers, .ref m_images, .ref m_isMade])), (m_tape, .inl (kA 1, 400, .inl f))] sz) := by
  refine Met.ofW (cc := cX11_four) (maxL := 3) (ret := none) (by decide) rfl ?_
  intro p e s m args below meth c s₁ B hml hv
  obtain ⟨rfl, hsz, hP, hK, hD0⟩ := hv
  have hx := B.exec
  have hb := B.bytes
  have hr := B.returns
  have hts := atoms_spec (ws := wsX11_four) B.pre
  have hown : s.vm.findClass RX11 = some m.cls := findClass_of_methodNamed B.named
  have hlocks := B.notSynchronized
  subst hsz
  have hD := hD0.self (sz := s.heap.size)
  generalize hAe : va_A [(m0, .inr (11, [.ref m_tape, .int 4, .int 0, .ref m_sign, .ref m_length, .ref m_clause, .ref m_clauses, .ref m_chain, .int 0, .int 0, .int 0, .int 0, .int 0, .int 0, .int 0, .ref m_open, .int 0, .ref m_stack, .int 0, .ref m_word, .ref m_said, .ref m_kept, .int 0, .int 0, .int 0, .int 0, .int 0, .int 0, .ref m_stepNode, .ref m_stepDrops, .ref m_stepHour, .ref m_stepNext, .ref m_stepPass, .int 0, .int 0, .int 0, .ref m_bestPass, .ref m_far, .ref m_waited, .ref m_servers, .ref m_images, .ref m_isMade])), (m_tape, .inl (kA 1, 400, .inl f))] s.heap.size = A at hD ⊢
  have hA : ∀ q : Nat, s.heap.size ≤ q → A q := fun q h => by rw [← hAe]; exact Or.inr h
  have hS : va_S A s.heap s.heap [] := va_S.rf
  have hP : va_P (dC, dI) vwCl [(m0, .inr (11, [.ref m_tape, .int 4, .int 0, .ref m_sign, .ref m_length, .ref m_clause, .ref m_clauses, .ref m_chain, .int 0, .int 0, .int 0, .int 0, .int 0, .int 0, .int 0, .ref m_open, .int 0, .ref m_stack, .int 0, .ref m_word, .ref m_said, .ref m_kept, .int 0, .int 0, .int 0, .int 0, .int 0, .int 0, .ref m_stepNode, .ref m_stepDrops, .ref m_stepHour, .ref m_stepNext, .ref m_stepPass, .int 0, .int 0, .int 0, .ref m_bestPass, .ref m_far, .ref m_waited, .ref m_servers, .ref m_images, .ref m_isMade])), (m_tape, .inl (kA 1, 400, .inl f))] s.heap := hP
  have hl := lv_entry ([.ref m0, .int v]) (n := 3) (Nat.le_of_ble_eq_true rfl)
  rw [lg_entry_eq]
  generalize (lg_sl ([.ref m0, .int v]) ++ List.replicate (3 - (lg_sl ([.ref m0, .int v])).length) Slot.unset).toArray = ls at hl ⊢
  have hl : lv_has ls 3 [(0, .ref m0), (1, .int v)] := hl
  refine lv_bipush (v := 24) hx hb dX11_four_0 (by decide) ?_
  refine lv_istore_n (lv' := [(2, .int 24), (0, .ref m0), (1, .int v)]) hx hb dX11_four_2 rfl hl (by decide) rfl (fun ls hl => ?_)
  refine lv_iload_n hx hb dX11_four_3 rfl (lv_at hl 0 rfl) ?_
  refine lv_if_lt (tgt := 36) hx hb dX11_four_4 (by decide) (fun c_1 => absurd c_1 (by decide)) (fun _ => ?_)
  refine lv_aload_n hx hb dX11_four_7 rfl (lv_at hl 1 rfl) ?_
  refine va_get (D := (dC, dI)) (ci := 11) (v := .ref m_tape) (C := RX11) (T := TX11) (N := 42) hx hb hts iX11_four_X11 hown hK.1 hP 0 rfl rfl 0 (by decide) (kX11_four_1 hts) (fun _ h9 => h9) rfl dX11_four_8 ?_
  refine lv_aload_n hx hb dX11_four_11 rfl (lv_at hl 1 rfl) ?_
  refine va_get (D := (dC, dI)) (ci := 11) (v := .int 4) (C := RX11) (T := TX11) (N := 42) hx hb hts iX11_four_X11 hown hK.1 hP 0 rfl rfl 1 (by decide) (kX11_four_2 hts) (fun _ h9 => h9) rfl dX11_four_12 ?_
  refine lv_iload_n hx hb dX11_four_15 rfl (lv_at hl 2 rfl) ?_
  refine lv_iload_n hx hb dX11_four_16 rfl (lv_at hl 0 rfl) ?_
  refine lv_ishr hx hb dX11_four_17 ?_
  refine lv_topi (fun x2 ex2 => ?_)
  refine lv_i2b hx hb dX11_four_18 rfl ?_
  refine lv_topi (fun x3 ex3 => ?_)
  refine va_bast hx hb hK.1 hP hD hS 1 1 rfl rfl (vpd (by decide)) dX11_four_19 (fun H locs hP hD hS => ?_)
  have hP : va_P (dC, dI) vwCl [(m0, .inr (11, [.ref m_tape, .int 4, .int 0, .ref m_sign, .ref m_length, .ref m_clause, .ref m_clauses, .ref m_chain, .int 0, .int 0, .int 0, .int 0, .int 0, .int 0, .int 0, .ref m_open, .int 0, .ref m_stack, .int 0, .ref m_word, .ref m_said, .ref m_kept, .int 0, .int 0, .int 0, .int 0, .int 0, .int 0, .ref m_stepNode, .ref m_stepDrops, .ref m_stepHour, .ref m_stepNext, .ref m_stepPass, .int 0, .int 0, .int 0, .ref m_bestPass, .ref m_far, .ref m_waited, .ref m_servers, .ref m_images, .ref m_isMade])), (m_tape, .inl (kA 1, 400, .inl (upd f (4 : Int32).toNatClampNeg (vp_nar .byte x3))))] H := hP
  have hD : va_D A [(m0, .inr (11, [.ref m_tape, .int 4, .int 0, .ref m_sign, .ref m_length, .ref m_clause, .ref m_clauses, .ref m_chain, .int 0, .int 0, .int 0, .int 0, .int 0, .int 0, .int 0, .ref m_open, .int 0, .ref m_stack, .int 0, .ref m_word, .ref m_said, .ref m_kept, .int 0, .int 0, .int 0, .int 0, .int 0, .int 0, .ref m_stepNode, .ref m_stepDrops, .ref m_stepHour, .ref m_stepNext, .ref m_stepPass, .int 0, .int 0, .int 0, .ref m_bestPass, .ref m_far, .ref m_waited, .ref m_servers, .ref m_images, .ref m_isMade])), (m_tape, .inl (kA 1, 400, .inl (upd f (4 : Int32).toNatClampNeg (vp_nar .byte x3))))] := hD
  obtain ⟨f4, ef4⟩ : ∃ y : Nat → Int32, y = (upd f (4 : Int32).toNatClampNeg (vp_nar .byte x3)) := ⟨_, rfl⟩
  rw [← ef4] at hP hD
  refine lv_aload_n hx hb dX11_four_20 rfl (lv_at hl 1 rfl) ?_
  refine lv_dup hx hb dX11_four_21 rfl ?_
  refine va_get (D := (dC, dI)) (ci := 11) (v := .int 4) (C := RX11) (T := TX11) (N := 42) hx hb hts iX11_four_X11 hown hK.1 hP 0 rfl rfl 1 (by decide) (kX11_four_2 hts) (fun _ h9 => h9) rfl dX11_four_22 ?_
  refine lv_iconst (v := 1) hx hb dX11_four_25 (by decide) ?_
  refine lv_iadd hx hb dX11_four_26 ?_
  refine zi 5 (by decide) ?_
  refine va_put (D := (dC, dI)) (ci := 11) (v := .int 5) (ty := .int) (C := RX11) (T := TX11) (N := 42) hx hb hts iX11_four_X11 tyX11 tyX11_ok nmX11 hown hK.1 hP hD hS 0 rfl rfl 1 (by decide) (kX11_four_2 hts) (fun _ h9 => h9) rfl (by decide +kernel) rfl rfl (Nat.le_of_ble_eq_true rfl) dX11_four_27 (fun H locs hP hD hS => ?_)
  have hP : va_P (dC, dI) vwCl [(m0, .inr (11, [.ref m_tape, .int 5, .int 0, .ref m_sign, .ref m_length, .ref m_clause, .ref m_clauses, .ref m_chain, .int 0, .int 0, .int 0, .int 0, .int 0, .int 0, .int 0, .ref m_open, .int 0, .ref m_stack, .int 0, .ref m_word, .ref m_said, .ref m_kept, .int 0, .int 0, .int 0, .int 0, .int 0, .int 0, .ref m_stepNode, .ref m_stepDrops, .ref m_stepHour, .ref m_stepNext, .ref m_stepPass, .int 0, .int 0, .int 0, .ref m_bestPass, .ref m_far, .ref m_waited, .ref m_servers, .ref m_images, .ref m_isMade])), (m_tape, .inl (kA 1, 400, .inl f4))] H := hP
  have hD : va_D A [(m0, .inr (11, [.ref m_tape, .int 5, .int 0, .ref m_sign, .ref m_length, .ref m_clause, .ref m_clauses, .ref m_chain, .int 0, .int 0, .int 0, .int 0, .int 0, .int 0, .int 0, .ref m_open, .int 0, .ref m_stack, .int 0, .ref m_word, .ref m_said, .ref m_kept, .int 0, .int 0, .int 0, .int 0, .int 0, .int 0, .ref m_stepNode, .ref m_stepDrops, .ref m_stepHour, .ref m_stepNext, .ref m_stepPass, .int 0, .int 0, .int 0, .ref m_bestPass, .ref m_far, .ref m_waited, .ref m_servers, .ref m_images, .ref m_isMade])), (m_tape, .inl (kA 1, 400, .inl f4))] := hD
  refine lv_iinc (v := 16) (lv' := [(2, .int 16), (0, .ref m0), (1, .int v)]) hx hb dX11_four_30 hl (k := 0) rfl (by decide) (by decide) rfl (fun ls hl => ?_)
  refine lv_goto (tgt := 3) hx hb dX11_four_33 (by decide) ?_
  refine lv_iload_n hx hb dX11_four_3 rfl (lv_at hl 0 rfl) ?_
  refine lv_if_lt (tgt := 36) hx hb dX11_four_4 (by decide) (fun c_5 => absurd c_5 (by decide)) (fun _ => ?_)
  refine lv_aload_n hx hb dX11_four_7 rfl (lv_at hl 1 rfl) ?_
  refine va_get (D := (dC, dI)) (ci := 11) (v := .ref m_tape) (C := RX11) (T := TX11) (N := 42) hx hb hts iX11_four_X11 hown hK.1 hP 0 rfl rfl 0 (by decide) (kX11_four_1 hts) (fun _ h9 => h9) rfl dX11_four_8 ?_
  refine lv_aload_n hx hb dX11_four_11 rfl (lv_at hl 1 rfl) ?_
  refine va_get (D := (dC, dI)) (ci := 11) (v := .int 5) (C := RX11) (T := TX11) (N := 42) hx hb hts iX11_four_X11 hown hK.1 hP 0 rfl rfl 1 (by decide) (kX11_four_2 hts) (fun _ h9 => h9) rfl dX11_four_12 ?_
  refine lv_iload_n hx hb dX11_four_15 rfl (lv_at hl 2 rfl) ?_
  refine lv_iload_n hx hb dX11_four_16 rfl (lv_at hl 0 rfl) ?_
  refine lv_ishr hx hb dX11_four_17 ?_
  refine lv_topi (fun x6 ex6 => ?_)
  refine lv_i2b hx hb dX11_four_18 rfl ?_
  refine lv_topi (fun x7 ex7 => ?_)
  refine va_bast hx hb hK.1 hP hD hS 1 1 rfl rfl (vpd (by decide)) dX11_four_19 (fun H locs hP hD hS => ?_)
  have hP : va_P (dC, dI) vwCl [(m0, .inr (11, [.ref m_tape, .int 5, .int 0, .ref m_sign, .ref m_length, .ref m_clause, .ref m_clauses, .ref m_chain, .int 0, .int 0, .int 0, .int 0, .int 0, .int 0, .int 0, .ref m_open, .int 0, .ref m_stack, .int 0, .ref m_word, .ref m_said, .ref m_kept, .int 0, .int 0, .int 0, .int 0, .int 0, .int 0, .ref m_stepNode, .ref m_stepDrops, .ref m_stepHour, .ref m_stepNext, .ref m_stepPass, .int 0, .int 0, .int 0, .ref m_bestPass, .ref m_far, .ref m_waited, .ref m_servers, .ref m_images, .ref m_isMade])), (m_tape, .inl (kA 1, 400, .inl (upd f4 (5 : Int32).toNatClampNeg (vp_nar .byte x7))))] H := hP
  have hD : va_D A [(m0, .inr (11, [.ref m_tape, .int 5, .int 0, .ref m_sign, .ref m_length, .ref m_clause, .ref m_clauses, .ref m_chain, .int 0, .int 0, .int 0, .int 0, .int 0, .int 0, .int 0, .ref m_open, .int 0, .ref m_stack, .int 0, .ref m_word, .ref m_said, .ref m_kept, .int 0, .int 0, .int 0, .int 0, .int 0, .int 0, .ref m_stepNode, .ref m_stepDrops, .ref m_stepHour, .ref m_stepNext, .ref m_stepPass, .int 0, .int 0, .int 0, .ref m_bestPass, .ref m_far, .ref m_waited, .ref m_servers, .ref m_images, .ref m_isMade])), (m_tape, .inl (kA 1, 400, .inl (upd f4 (5 : Int32).toNatClampNeg (vp_nar .byte x7))))] := hD
  obtain ⟨f8, ef8⟩ : ∃ y : Nat → Int32, y = (upd f4 (5 : Int32).toNatClampNeg (vp_nar .byte x7)) := ⟨_, rfl⟩
  rw [← ef8] at hP hD
  refine lv_aload_n hx hb dX11_four_20 rfl (lv_at hl 1 rfl) ?_
  refine lv_dup hx hb dX11_four_21 rfl ?_
  refine va_get (D := (dC, dI)) (ci := 11) (v := .int 5) (C := RX11) (T := TX11) (N := 42) hx hb hts iX11_four_X11 hown hK.1 hP 0 rfl rfl 1 (by decide) (kX11_four_2 hts) (fun _ h9 => h9) rfl dX11_four_22 ?_
  refine lv_iconst (v := 1) hx hb dX11_four_25 (by decide) ?_
  refine lv_iadd hx hb dX11_four_26 ?_
  refine zi 6 (by decide) ?_
  refine va_put (D := (dC, dI)) (ci := 11) (v := .int 6) (ty := .int) (C := RX11) (T := TX11) (N := 42) hx hb hts iX11_four_X11 tyX11 tyX11_ok nmX11 hown hK.1 hP hD hS 0 rfl rfl 1 (by decide) (kX11_four_2 hts) (fun _ h9 => h9) rfl (by decide +kernel) rfl rfl (Nat.le_of_ble_eq_true rfl) dX11_four_27 (fun H locs hP hD hS => ?_)
  have hP : va_P (dC, dI) vwCl [(m0, .inr (11, [.ref m_tape, .int 6, .int 0, .ref m_sign, .ref m_length, .ref m_clause, .ref m_clauses, .ref m_chain, .int 0, .int 0, .int 0, .int 0, .int 0, .int 0, .int 0, .ref m_open, .int 0, .ref m_stack, .int 0, .ref m_word, .ref m_said, .ref m_kept, .int 0, .int 0, .int 0, .int 0, .int 0, .int 0, .ref m_stepNode, .ref m_stepDrops, .ref m_stepHour, .ref m_stepNext, .ref m_stepPass, .int 0, .int 0, .int 0, .ref m_bestPass, .ref m_far, .ref m_waited, .ref m_servers, .ref m_images, .ref m_isMade])), (m_tape, .inl (kA 1, 400, .inl f8))] H := hP
  have hD : va_D A [(m0, .inr (11, [.ref m_tape, .int 6, .int 0, .ref m_sign, .ref m_length, .ref m_clause, .ref m_clauses, .ref m_chain, .int 0, .int 0, .int 0, .int 0, .int 0, .int 0, .int 0, .ref m_open, .int 0, .ref m_stack, .int 0, .ref m_word, .ref m_said, .ref m_kept, .int 0, .int 0, .int 0, .int 0, .int 0, .int 0, .ref m_stepNode, .ref m_stepDrops, .ref m_stepHour, .ref m_stepNext, .ref m_stepPass, .int 0, .int 0, .int 0, .ref m_bestPass, .ref m_far, .ref m_waited, .ref m_servers, .ref m_images, .ref m_isMade])), (m_tape, .inl (kA 1, 400, .inl f8))] := hD
  refine lv_iinc (v := 8) (lv' := [(2, .int 8), (0, .ref m0), (1, .int v)]) hx hb dX11_four_30 hl (k := 0) rfl (by decide) (by decide) rfl (fun ls hl => ?_)
  refine lv_goto (tgt := 3) hx hb dX11_four_33 (by decide) ?_
  refine lv_iload_n hx hb dX11_four_3 rfl (lv_at hl 0 rfl) ?_
  refine lv_if_lt (tgt := 36) hx hb dX11_four_4 (by decide) (fun c_9 => absurd c_9 (by decide)) (fun _ => ?_)
  refine lv_aload_n hx hb dX11_four_7 rfl (lv_at hl 1 rfl) ?_
  refine va_get (D := (dC, dI)) (ci := 11) (v := .ref m_tape) (C := RX11) (T := TX11) (N := 42) hx hb hts iX11_four_X11 hown hK.1 hP 0 rfl rfl 0 (by decide) (kX11_four_1 hts) (fun _ h9 => h9) rfl dX11_four_8 ?_
  refine lv_aload_n hx hb dX11_four_11 rfl (lv_at hl 1 rfl) ?_
  refine va_get (D := (dC, dI)) (ci := 11) (v := .int 6) (C := RX11) (T := TX11) (N := 42) hx hb hts iX11_four_X11 hown hK.1 hP 0 rfl rfl 1 (by decide) (kX11_four_2 hts) (fun _ h9 => h9) rfl dX11_four_12 ?_
  refine lv_iload_n hx hb dX11_four_15 rfl (lv_at hl 2 rfl) ?_
  refine lv_iload_n hx hb dX11_four_16 rfl (lv_at hl 0 rfl) ?_
  refine lv_ishr hx hb dX11_four_17 ?_
  refine lv_topi (fun x10 ex10 => ?_)
  refine lv_i2b hx hb dX11_four_18 rfl ?_
  refine lv_topi (fun x11 ex11 => ?_)
  refine va_bast hx hb hK.1 hP hD hS 1 1 rfl rfl (vpd (by decide)) dX11_four_19 (fun H locs hP hD hS => ?_)
  have hP : va_P (dC, dI) vwCl [(m0, .inr (11, [.ref m_tape, .int 6, .int 0, .ref m_sign, .ref m_length, .ref m_clause, .ref m_clauses, .ref m_chain, .int 0, .int 0, .int 0, .int 0, .int 0, .int 0, .int 0, .ref m_open, .int 0, .ref m_stack, .int 0, .ref m_word, .ref m_said, .ref m_kept, .int 0, .int 0, .int 0, .int 0, .int 0, .int 0, .ref m_stepNode, .ref m_stepDrops, .ref m_stepHour, .ref m_stepNext, .ref m_stepPass, .int 0, .int 0, .int 0, .ref m_bestPass, .ref m_far, .ref m_waited, .ref m_servers, .ref m_images, .ref m_isMade])), (m_tape, .inl (kA 1, 400, .inl (upd f8 (6 : Int32).toNatClampNeg (vp_nar .byte x11))))] H := hP
  have hD : va_D A [(m0, .inr (11, [.ref m_tape, .int 6, .int 0, .ref m_sign, .ref m_length, .ref m_clause, .ref m_clauses, .ref m_chain, .int 0, .int 0, .int 0, .int 0, .int 0, .int 0, .int 0, .ref m_open, .int 0, .ref m_stack, .int 0, .ref m_word, .ref m_said, .ref m_kept, .int 0, .int 0, .int 0, .int 0, .int 0, .int 0, .ref m_stepNode, .ref m_stepDrops, .ref m_stepHour, .ref m_stepNext, .ref m_stepPass, .int 0, .int 0, .int 0, .ref m_bestPass, .ref m_far, .ref m_waited, .ref m_servers, .ref m_images, .ref m_isMade])), (m_tape, .inl (kA 1, 400, .inl (upd f8 (6 : Int32).toNatClampNeg (vp_nar .byte x11))))] := hD
  obtain ⟨f12, ef12⟩ : ∃ y : Nat → Int32, y = (upd f8 (6 : Int32).toNatClampNeg (vp_nar .byte x11)) := ⟨_, rfl⟩
  rw [← ef12] at hP hD
  refine lv_aload_n hx hb dX11_four_20 rfl (lv_at hl 1 rfl) ?_
  refine lv_dup hx hb dX11_four_21 rfl ?_
  refine va_get (D := (dC, dI)) (ci := 11) (v := .int 6) (C := RX11) (T := TX11) (N := 42) hx hb hts iX11_four_X11 hown hK.1 hP 0 rfl rfl 1 (by decide) (kX11_four_2 hts) (fun _ h9 => h9) rfl dX11_four_22 ?_
  refine lv_iconst (v := 1) hx hb dX11_four_25 (by decide) ?_
  refine lv_iadd hx hb dX11_four_26 ?_
  refine zi 7 (by decide) ?_
  refine va_put (D := (dC, dI)) (ci := 11) (v := .int 7) (ty := .int) (C := RX11) (T := TX11) (N := 42) hx hb hts iX11_four_X11 tyX11 tyX11_ok nmX11 hown hK.1 hP hD hS 0 rfl rfl 1 (by decide) (kX11_four_2 hts) (fun _ h9 => h9) rfl (by decide +kernel) rfl rfl (Nat.le_of_ble_eq_true rfl) dX11_four_27 (fun H locs hP hD hS => ?_)
  have hP : va_P (dC, dI) vwCl [(m0, .inr (11, [.ref m_tape, .int 7, .int 0, .ref m_sign, .ref m_length, .ref m_clause, .ref m_clauses, .ref m_chain, .int 0, .int 0, .int 0, .int 0, .int 0, .int 0, .int 0, .ref m_open, .int 0, .ref m_stack, .int 0, .ref m_word, .ref m_said, .ref m_kept, .int 0, .int 0, .int 0, .int 0, .int 0, .int 0, .ref m_stepNode, .ref m_stepDrops, .ref m_stepHour, .ref m_stepNext, .ref m_stepPass, .int 0, .int 0, .int 0, .ref m_bestPass, .ref m_far, .ref m_waited, .ref m_servers, .ref m_images, .ref m_isMade])), (m_tape, .inl (kA 1, 400, .inl f12))] H := hP
  have hD : va_D A [(m0, .inr (11, [.ref m_tape, .int 7, .int 0, .ref m_sign, .ref m_length, .ref m_clause, .ref m_clauses, .ref m_chain, .int 0, .int 0, .int 0, .int 0, .int 0, .int 0, .int 0, .ref m_open, .int 0, .ref m_stack, .int 0, .ref m_word, .ref m_said, .ref m_kept, .int 0, .int 0, .int 0, .int 0, .int 0, .int 0, .ref m_stepNode, .ref m_stepDrops, .ref m_stepHour, .ref m_stepNext, .ref m_stepPass, .int 0, .int 0, .int 0, .ref m_bestPass, .ref m_far, .ref m_waited, .ref m_servers, .ref m_images, .ref m_isMade])), (m_tape, .inl (kA 1, 400, .inl f12))] := hD
  refine lv_iinc (v := 0) (lv' := [(2, .int 0), (0, .ref m0), (1, .int v)]) hx hb dX11_four_30 hl (k := 0) rfl (by decide) (by decide) rfl (fun ls hl => ?_)
  refine lv_goto (tgt := 3) hx hb dX11_four_33 (by decide) ?_
  refine lv_iload_n hx hb dX11_four_3 rfl (lv_at hl 0 rfl) ?_
  refine lv_if_lt (tgt := 36) hx hb dX11_four_4 (by decide) (fun c_13 => absurd c_13 (by decide)) (fun _ => ?_)
  refine lv_aload_n hx hb dX11_four_7 rfl (lv_at hl 1 rfl) ?_
  refine va_get (D := (dC, dI)) (ci := 11) (v := .ref m_tape) (C := RX11) (T := TX11) (N := 42) hx hb hts iX11_four_X11 hown hK.1 hP 0 rfl rfl 0 (by decide) (kX11_four_1 hts) (fun _ h9 => h9) rfl dX11_four_8 ?_
  refine lv_aload_n hx hb dX11_four_11 rfl (lv_at hl 1 rfl) ?_
  refine va_get (D := (dC, dI)) (ci := 11) (v := .int 7) (C := RX11) (T := TX11) (N := 42) hx hb hts iX11_four_X11 hown hK.1 hP 0 rfl rfl 1 (by decide) (kX11_four_2 hts) (fun _ h9 => h9) rfl dX11_four_12 ?_
  refine lv_iload_n hx hb dX11_four_15 rfl (lv_at hl 2 rfl) ?_
  refine lv_iload_n hx hb dX11_four_16 rfl (lv_at hl 0 rfl) ?_
  refine lv_ishr hx hb dX11_four_17 ?_
  refine lv_topi (fun x14 ex14 => ?_)
  refine lv_i2b hx hb dX11_four_18 rfl ?_
  refine lv_topi (fun x15 ex15 => ?_)
  refine va_bast hx hb hK.1 hP hD hS 1 1 rfl rfl (vpd (by decide)) dX11_four_19 (fun H locs hP hD hS => ?_)
  have hP : va_P (dC, dI) vwCl [(m0, .inr (11, [.ref m_tape, .int 7, .int 0, .ref m_sign, .ref m_length, .ref m_clause, .ref m_clauses, .ref m_chain, .int 0, .int 0, .int 0, .int 0, .int 0, .int 0, .int 0, .ref m_open, .int 0, .ref m_stack, .int 0, .ref m_word, .ref m_said, .ref m_kept, .int 0, .int 0, .int 0, .int 0, .int 0, .int 0, .ref m_stepNode, .ref m_stepDrops, .ref m_stepHour, .ref m_stepNext, .ref m_stepPass, .int 0, .int 0, .int 0, .ref m_bestPass, .ref m_far, .ref m_waited, .ref m_servers, .ref m_images, .ref m_isMade])), (m_tape, .inl (kA 1, 400, .inl (upd f12 (7 : Int32).toNatClampNeg (vp_nar .byte x15))))] H := hP
  have hD : va_D A [(m0, .inr (11, [.ref m_tape, .int 7, .int 0, .ref m_sign, .ref m_length, .ref m_clause, .ref m_clauses, .ref m_chain, .int 0, .int 0, .int 0, .int 0, .int 0, .int 0, .int 0, .ref m_open, .int 0, .ref m_stack, .int 0, .ref m_word, .ref m_said, .ref m_kept, .int 0, .int 0, .int 0, .int 0, .int 0, .int 0, .ref m_stepNode, .ref m_stepDrops, .ref m_stepHour, .ref m_stepNext, .ref m_stepPass, .int 0, .int 0, .int 0, .ref m_bestPass, .ref m_far, .ref m_waited, .ref m_servers, .ref m_images, .ref m_isMade])), (m_tape, .inl (kA 1, 400, .inl (upd f12 (7 : Int32).toNatClampNeg (vp_nar .byte x15))))] := hD
  obtain ⟨f16, ef16⟩ : ∃ y : Nat → Int32, y = (upd f12 (7 : Int32).toNatClampNeg (vp_nar .byte x15)) := ⟨_, rfl⟩
  rw [← ef16] at hP hD
  refine lv_aload_n hx hb dX11_four_20 rfl (lv_at hl 1 rfl) ?_
  refine lv_dup hx hb dX11_four_21 rfl ?_
  refine va_get (D := (dC, dI)) (ci := 11) (v := .int 7) (C := RX11) (T := TX11) (N := 42) hx hb hts iX11_four_X11 hown hK.1 hP 0 rfl rfl 1 (by decide) (kX11_four_2 hts) (fun _ h9 => h9) rfl dX11_four_22 ?_
  refine lv_iconst (v := 1) hx hb dX11_four_25 (by decide) ?_
  refine lv_iadd hx hb dX11_four_26 ?_
  refine zi 8 (by decide) ?_
  refine va_put (D := (dC, dI)) (ci := 11) (v := .int 8) (ty := .int) (C := RX11) (T := TX11) (N := 42) hx hb hts iX11_four_X11 tyX11 tyX11_ok nmX11 hown hK.1 hP hD hS 0 rfl rfl 1 (by decide) (kX11_four_2 hts) (fun _ h9 => h9) rfl (by decide +kernel) rfl rfl (Nat.le_of_ble_eq_true rfl) dX11_four_27 (fun H locs hP hD hS => ?_)
  have hP : va_P (dC, dI) vwCl [(m0, .inr (11, [.ref m_tape, .int 8, .int 0, .ref m_sign, .ref m_length, .ref m_clause, .ref m_clauses, .ref m_chain, .int 0, .int 0, .int 0, .int 0, .int 0, .int 0, .int 0, .ref m_open, .int 0, .ref m_stack, .int 0, .ref m_word, .ref m_said, .ref m_kept, .int 0, .int 0, .int 0, .int 0, .int 0, .int 0, .ref m_stepNode, .ref m_stepDrops, .ref m_stepHour, .ref m_stepNext, .ref m_stepPass, .int 0, .int 0, .int 0, .ref m_bestPass, .ref m_far, .ref m_waited, .ref m_servers, .ref m_images, .ref m_isMade])), (m_tape, .inl (kA 1, 400, .inl f16))] H := hP
  have hD : va_D A [(m0, .inr (11, [.ref m_tape, .int 8, .int 0, .ref m_sign, .ref m_length, .ref m_clause, .ref m_clauses, .ref m_chain, .int 0, .int 0, .int 0, .int 0, .int 0, .int 0, .int 0, .ref m_open, .int 0, .ref m_stack, .int 0, .ref m_word, .ref m_said, .ref m_kept, .int 0, .int 0, .int 0, .int 0, .int 0, .int 0, .ref m_stepNode, .ref m_stepDrops, .ref m_stepHour, .ref m_stepNext, .ref m_stepPass, .int 0, .int 0, .int 0, .ref m_bestPass, .ref m_far, .ref m_waited, .ref m_servers, .ref m_images, .ref m_isMade])), (m_tape, .inl (kA 1, 400, .inl f16))] := hD
  refine lv_iinc (v := (-8)) (lv' := [(2, .int (-8)), (0, .ref m0), (1, .int v)]) hx hb dX11_four_30 hl (k := 0) rfl (by decide) (by decide) rfl (fun ls hl => ?_)
  refine lv_goto (tgt := 3) hx hb dX11_four_33 (by decide) ?_
  refine lv_iload_n hx hb dX11_four_3 rfl (lv_at hl 0 rfl) ?_
  refine lv_if_lt (tgt := 36) hx hb dX11_four_4 (by decide) (fun _ => ?_) (fun c_17 => absurd (by decide) c_17)
  have hP9 := hP.sub (ws' := [(m0, .inr (11, [.ref m_tape, .int 8, .int 0, .ref m_sign, .ref m_length, .ref m_clause, .ref m_clauses, .ref m_chain, .int 0, .int 0, .int 0, .int 0, .int 0, .int 0, .int 0, .ref m_open, .int 0, .ref m_stack, .int 0, .ref m_word, .ref m_said, .ref m_kept, .int 0, .int 0, .int 0, .int 0, .int 0, .int 0, .ref m_stepNode, .ref m_stepDrops, .ref m_stepHour, .ref m_stepNext, .ref m_stepPass, .int 0, .int 0, .int 0, .ref m_bestPass, .ref m_far, .ref m_waited, .ref m_servers, .ref m_images, .ref m_isMade])), (m_tape, .inl (kA 1, 400, .inl f16))]) [0, 1] rfl
  have hD9 := hD.sub (ws' := [(m0, .inr (11, [.ref m_tape, .int 8, .int 0, .ref m_sign, .ref m_length, .ref m_clause, .ref m_clauses, .ref m_chain, .int 0, .int 0, .int 0, .int 0, .int 0, .int 0, .int 0, .ref m_open, .int 0, .ref m_stack, .int 0, .ref m_word, .ref m_said, .ref m_kept, .int 0, .int 0, .int 0, .int 0, .int 0, .int 0, .ref m_stepNode, .ref m_stepDrops, .ref m_stepHour, .ref m_stepNext, .ref m_stepPass, .int 0, .int 0, .int 0, .ref m_bestPass, .ref m_far, .ref m_waited, .ref m_servers, .ref m_images, .ref m_isMade])), (m_tape, .inl (kA 1, 400, .inl f16))]) [0, 1] (by decide) rfl
  refine W.widen (k := 0) (n := 0) (Nat.le_of_ble_eq_true rfl) (Nat.le_of_ble_eq_true rfl) ?_
  exact W.vret hx hb hr (fun t ht hW => ⟨⟨(f16), rfl, trivial, by rw [ht]; exact hP9, hD9⟩, hS.F ht⟩) hS.2.2 dX11_four_36
set_option maxHeartbeats 4000000 in
set_option maxRecDepth 100000 in
theorem mX11_four_8 (l : Launch) (dC : Nat → ClassId) (dI : Nat → Nat → Nat) (kA : Nat → ClassId) (sz : Nat) (m0 : Nat) (m_tape : Nat) (m_sign : Nat) (m_length : Nat) (m_clause : Nat) (m_clauses : Nat) (m_chain : Nat) (m_open : Nat) (m_stack : Nat) (m_word : Nat) (m_said : Nat) (m_kept : Nat) (m_stepNode : Nat) (m_stepDrops : Nat) (m_stepHour : Nat) (m_stepNext : Nat) (m_stepPass : Nat) (m_bestPass : Nat) (m_far : Nat) (m_waited : Nat) (m_servers : Nat) (m_images : Nat) (m_isMade : Nat) (f : Nat → Int32) (v : Int32)  : Met l yX11_four wsX11_four ({ frames := 0, cells := 0, slots := 0, locals := 0 }) (zPc dC dI kA sz [.ref m0, .int v] [(m0, .inr (11, [.ref m_tape, .int 8, .int 0, .ref m_sign, .ref m_length, .ref m_clause, .ref m_clauses, .ref m_chain, .int 0, .int 0, .int 0, .int 0, .int 0, .int 0, .int 0, .ref m_open, .int 0, .ref m_stack, .int 0, .ref m_word, .ref m_said, .ref m_kept, .int 0, .int 0, .int 0, .int 0, .int 0, .int 0, .ref m_stepNode, .ref m_stepDrops, .ref m_stepHour, .ref m_stepNext, .ref m_stepPass, .int 0, .int 0, .int 0, .ref m_bestPass, .ref m_far, .ref m_waited, .ref m_servers, .ref m_images, .ref m_isMade])), (m_tape, .inl (kA 1, 400, .inl f))]) (va_Qv (fun (u : Nat → Int32) => True) (zB dC dI (va_A [(m0, .inr (11, [.ref m_tape, .int 8, .int 0, .ref m_sign, .ref m_length, .ref m_clause, .ref m_clauses, .ref m_chain, .int 0, .int 0, .int 0, .int 0, .int 0, .int 0, .int 0, .ref m_open, .int 0, .ref m_stack, .int 0, .ref m_word, .ref m_said, .ref m_kept, .int 0, .int 0, .int 0, .int 0, .int 0, .int 0, .ref m_stepNode, .ref m_stepDrops, .ref m_stepHour, .ref m_stepNext, .ref m_stepPass, .int 0, .int 0, .int 0, .ref m_bestPass, .ref m_far, .ref m_waited, .ref m_servers, .ref m_images, .ref m_isMade])), (m_tape, .inl (kA 1, 400, .inl f))] sz) (fun (u : Nat → Int32) => [(m0, .inr (11, [.ref m_tape, .int 12, .int 0, .ref m_sign, .ref m_length, .ref m_clause, .ref m_clauses, .ref m_chain, .int 0, .int 0, .int 0, .int 0, .int 0, .int 0, .int 0, .ref m_open, .int 0, .ref m_stack, .int 0, .ref m_word, .ref m_said, .ref m_kept, .int 0, .int 0, .int 0, .int 0, .int 0, .int 0, .ref m_stepNode, .ref m_stepDrops, .ref m_stepHour, .ref m_stepNext, .ref m_stepPass, .int 0, .int 0, .int 0, .ref m_bestPass, .ref m_far, .ref m_waited, .ref m_servers, .ref m_images, .ref m_isMade])), (m_tape, .inl (kA 1, 400, .inl u))])) (va_A [(m0, .inr (11, [.ref m_tape, .int 8, .int 0, .ref m_sign, .ref m_length, .ref m_clause, .ref m_clauses, .ref m_chain, .int 0, .int 0, .int 0, .int 0, .int 0, .int 0, .int 0, .ref m_open, .int 0, .ref m_stack, .int 0, .ref m_word, .ref m_said, .ref m_kept, .int 0, .int 0, .int 0, .int 0, .int 0, .int 0, .ref m_stepNode, .ref m_stepDrops, .ref m_stepHour, .ref m_stepNext, .ref m_stepPass, .int 0, .int 0, .int 0, .ref m_bestPass, .ref m_far, .ref m_waited, .ref m_servers, .ref m_images, .ref m_isMade])), (m_tape, .inl (kA 1, 400, .inl f))] sz)) 0 0 (va_A [(m0, .inr (11, [.ref m_tape, .int 8, .int 0, .ref m_sign, .ref m_length, .ref m_clause, .ref m_clauses, .ref m_chain, .int 0, .int 0, .int 0, .int 0, .int 0, .int 0, .int 0, .ref m_open, .int 0, .ref m_stack, .int 0, .ref m_word, .ref m_said, .ref m_kept, .int 0, .int 0, .int 0, .int 0, .int 0, .int 0, .ref m_stepNode, .ref m_stepDrops, .ref m_stepHour, .ref m_stepNext, .ref m_stepPass, .int 0, .int 0, .int 0, .ref m_bestPass, .ref m_far, .ref m_waited, .ref m_servers, .ref m_images, .ref m_isMade])), (m_tape, .inl (kA 1, 400, .inl f))] sz) := by
  refine Met.ofW (cc := cX11_four) (maxL := 3) (ret := none) (by decide) rfl ?_
  intro p e s m args below meth c s₁ B hml hv
  obtain ⟨rfl, hsz, hP, hK, hD0⟩ := hv
  have hx := B.exec
  have hb := B.bytes
  have hr := B.returns
  have hts := atoms_spec (ws := wsX11_four) B.pre
  have hown : s.vm.findClass RX11 = some m.cls := findClass_of_methodNamed B.named
  have hlocks := B.notSynchronized
  subst hsz
  have hD := hD0.self (sz := s.heap.size)
  generalize hAe : va_A [(m0, .inr (11, [.ref m_tape, .int 8, .int 0, .ref m_sign, .ref m_length, .ref m_clause, .ref m_clauses, .ref m_chain, .int 0, .int 0, .int 0, .int 0, .int 0, .int 0, .int 0, .ref m_open, .int 0, .ref m_stack, .int 0, .ref m_word, .ref m_said, .ref m_kept, .int 0, .int 0, .int 0, .int 0, .int 0, .int 0, .ref m_stepNode, .ref m_stepDrops, .ref m_stepHour, .ref m_stepNext, .ref m_stepPass, .int 0, .int 0, .int 0, .ref m_bestPass, .ref m_far, .ref m_waited, .ref m_servers, .ref m_images, .ref m_isMade])), (m_tape, .inl (kA 1, 400, .inl f))] s.heap.size = A at hD ⊢
  have hA : ∀ q : Nat, s.heap.size ≤ q → A q := fun q h => by rw [← hAe]; exact Or.inr h
  have hS : va_S A s.heap s.heap [] := va_S.rf
  have hP : va_P (dC, dI) vwCl [(m0, .inr (11, [.ref m_tape, .int 8, .int 0, .ref m_sign, .ref m_length, .ref m_clause, .ref m_clauses, .ref m_chain, .int 0, .int 0, .int 0, .int 0, .int 0, .int 0, .int 0, .ref m_open, .int 0, .ref m_stack, .int 0, .ref m_word, .ref m_said, .ref m_kept, .int 0, .int 0, .int 0, .int 0, .int 0, .int 0, .ref m_stepNode, .ref m_stepDrops, .ref m_stepHour, .ref m_stepNext, .ref m_stepPass, .int 0, .int 0, .int 0, .ref m_bestPass, .ref m_far, .ref m_waited, .ref m_servers, .ref m_images, .ref m_isMade])), (m_tape, .inl (kA 1, 400, .inl f))] s.heap := hP
  have hl := lv_entry ([.ref m0, .int v]) (n := 3) (Nat.le_of_ble_eq_true rfl)
  rw [lg_entry_eq]
  generalize (lg_sl ([.ref m0, .int v]) ++ List.replicate (3 - (lg_sl ([.ref m0, .int v])).length) Slot.unset).toArray = ls at hl ⊢
  have hl : lv_has ls 3 [(0, .ref m0), (1, .int v)] := hl
  refine lv_bipush (v := 24) hx hb dX11_four_0 (by decide) ?_
  refine lv_istore_n (lv' := [(2, .int 24), (0, .ref m0), (1, .int v)]) hx hb dX11_four_2 rfl hl (by decide) rfl (fun ls hl => ?_)
  refine lv_iload_n hx hb dX11_four_3 rfl (lv_at hl 0 rfl) ?_
  refine lv_if_lt (tgt := 36) hx hb dX11_four_4 (by decide) (fun c_1 => absurd c_1 (by decide)) (fun _ => ?_)
  refine lv_aload_n hx hb dX11_four_7 rfl (lv_at hl 1 rfl) ?_
  refine va_get (D := (dC, dI)) (ci := 11) (v := .ref m_tape) (C := RX11) (T := TX11) (N := 42) hx hb hts iX11_four_X11 hown hK.1 hP 0 rfl rfl 0 (by decide) (kX11_four_1 hts) (fun _ h9 => h9) rfl dX11_four_8 ?_
  refine lv_aload_n hx hb dX11_four_11 rfl (lv_at hl 1 rfl) ?_
  refine va_get (D := (dC, dI)) (ci := 11) (v := .int 8) (C := RX11) (T := TX11) (N := 42) hx hb hts iX11_four_X11 hown hK.1 hP 0 rfl rfl 1 (by decide) (kX11_four_2 hts) (fun _ h9 => h9) rfl dX11_four_12 ?_
  refine lv_iload_n hx hb dX11_four_15 rfl (lv_at hl 2 rfl) ?_
  refine lv_iload_n hx hb dX11_four_16 rfl (lv_at hl 0 rfl) ?_
  refine lv_ishr hx hb dX11_four_17 ?_
  refine lv_topi (fun x2 ex2 => ?_)
  refine lv_i2b hx hb dX11_four_18 rfl ?_
  refine lv_topi (fun x3 ex3 => ?_)
  refine va_bast hx hb hK.1 hP hD hS 1 1 rfl rfl (vpd (by decide)) dX11_four_19 (fun H locs hP hD hS => ?_)
  have hP : va_P (dC, dI) vwCl [(m0, .inr (11, [.ref m_tape, .int 8, .int 0, .ref m_sign, .ref m_length, .ref m_clause, .ref m_clauses, .ref m_chain, .int 0, .int 0, .int 0, .int 0, .int 0, .int 0, .int 0, .ref m_open, .int 0, .ref m_stack, .int 0, .ref m_word, .ref m_said, .ref m_kept, .int 0, .int 0, .int 0, .int 0, .int 0, .int 0, .ref m_stepNode, .ref m_stepDrops, .ref m_stepHour, .ref m_stepNext, .ref m_stepPass, .int 0, .int 0, .int 0, .ref m_bestPass, .ref m_far, .ref m_waited, .ref m_servers, .ref m_images, .ref m_isMade])), (m_tape, .inl (kA 1, 400, .inl (upd f (8 : Int32).toNatClampNeg (vp_nar .byte x3))))] H := hP
  have hD : va_D A [(m0, .inr (11, [.ref m_tape, .int 8, .int 0, .ref m_sign, .ref m_length, .ref m_clause, .ref m_clauses, .ref m_chain, .int 0, .int 0, .int 0, .int 0, .int 0, .int 0, .int 0, .ref m_open, .int 0, .ref m_stack, .int 0, .ref m_word, .ref m_said, .ref m_kept, .int 0, .int 0, .int 0, .int 0, .int 0, .int 0, .ref m_stepNode, .ref m_stepDrops, .ref m_stepHour, .ref m_stepNext, .ref m_stepPass, .int 0, .int 0, .int 0, .ref m_bestPass, .ref m_far, .ref m_waited, .ref m_servers, .ref m_images, .ref m_isMade])), (m_tape, .inl (kA 1, 400, .inl (upd f (8 : Int32).toNatClampNeg (vp_nar .byte x3))))] := hD
  obtain ⟨f4, ef4⟩ : ∃ y : Nat → Int32, y = (upd f (8 : Int32).toNatClampNeg (vp_nar .byte x3)) := ⟨_, rfl⟩
  rw [← ef4] at hP hD
  refine lv_aload_n hx hb dX11_four_20 rfl (lv_at hl 1 rfl) ?_
  refine lv_dup hx hb dX11_four_21 rfl ?_
  refine va_get (D := (dC, dI)) (ci := 11) (v := .int 8) (C := RX11) (T := TX11) (N := 42) hx hb hts iX11_four_X11 hown hK.1 hP 0 rfl rfl 1 (by decide) (kX11_four_2 hts) (fun _ h9 => h9) rfl dX11_four_22 ?_
  refine lv_iconst (v := 1) hx hb dX11_four_25 (by decide) ?_
  refine lv_iadd hx hb dX11_four_26 ?_
  refine zi 9 (by decide) ?_
  refine va_put (D := (dC, dI)) (ci := 11) (v := .int 9) (ty := .int) (C := RX11) (T := TX11) (N := 42) hx hb hts iX11_four_X11 tyX11 tyX11_ok nmX11 hown hK.1 hP hD hS 0 rfl rfl 1 (by decide) (kX11_four_2 hts) (fun _ h9 => h9) rfl (by decide +kernel) rfl rfl (Nat.le_of_ble_eq_true rfl) dX11_four_27 (fun H locs hP hD hS => ?_)
  have hP : va_P (dC, dI) vwCl [(m0, .inr (11, [.ref m_tape, .int 9, .int 0, .ref m_sign, .ref m_length, .ref m_clause, .ref m_clauses, .ref m_chain, .int 0, .int 0, .int 0, .int 0, .int 0, .int 0, .int 0, .ref m_open, .int 0, .ref m_stack, .int 0, .ref m_word, .ref m_said, .ref m_kept, .int 0, .int 0, .int 0, .int 0, .int 0, .int 0, .ref m_stepNode, .ref m_stepDrops, .ref m_stepHour, .ref m_stepNext, .ref m_stepPass, .int 0, .int 0, .int 0, .ref m_bestPass, .ref m_far, .ref m_waited, .ref m_servers, .ref m_images, .ref m_isMade])), (m_tape, .inl (kA 1, 400, .inl f4))] H := hP
  have hD : va_D A [(m0, .inr (11, [.ref m_tape, .int 9, .int 0, .ref m_sign, .ref m_length, .ref m_clause, .ref m_clauses, .ref m_chain, .int 0, .int 0, .int 0, .int 0, .int 0, .int 0, .int 0, .ref m_open, .int 0, .ref m_stack, .int 0, .ref m_word, .ref m_said, .ref m_kept, .int 0, .int 0, .int 0, .int 0, .int 0, .int 0, .ref m_stepNode, .ref m_stepDrops, .ref m_stepHour, .ref m_stepNext, .ref m_stepPass, .int 0, .int 0, .int 0, .ref m_bestPass, .ref m_far, .ref m_waited, .ref m_servers, .ref m_images, .ref m_isMade])), (m_tape, .inl (kA 1, 400, .inl f4))] := hD
  refine lv_iinc (v := 16) (lv' := [(2, .int 16), (0, .ref m0), (1, .int v)]) hx hb dX11_four_30 hl (k := 0) rfl (by decide) (by decide) rfl (fun ls hl => ?_)
  refine lv_goto (tgt := 3) hx hb dX11_four_33 (by decide) ?_
  refine lv_iload_n hx hb dX11_four_3 rfl (lv_at hl 0 rfl) ?_
  refine lv_if_lt (tgt := 36) hx hb dX11_four_4 (by decide) (fun c_5 => absurd c_5 (by decide)) (fun _ => ?_)
  refine lv_aload_n hx hb dX11_four_7 rfl (lv_at hl 1 rfl) ?_
  refine va_get (D := (dC, dI)) (ci := 11) (v := .ref m_tape) (C := RX11) (T := TX11) (N := 42) hx hb hts iX11_four_X11 hown hK.1 hP 0 rfl rfl 0 (by decide) (kX11_four_1 hts) (fun _ h9 => h9) rfl dX11_four_8 ?_
  refine lv_aload_n hx hb dX11_four_11 rfl (lv_at hl 1 rfl) ?_
  refine va_get (D := (dC, dI)) (ci := 11) (v := .int 9) (C := RX11) (T := TX11) (N := 42) hx hb hts iX11_four_X11 hown hK.1 hP 0 rfl rfl 1 (by decide) (kX11_four_2 hts) (fun _ h9 => h9) rfl dX11_four_12 ?_
  refine lv_iload_n hx hb dX11_four_15 rfl (lv_at hl 2 rfl) ?_
  refine lv_iload_n hx hb dX11_four_16 rfl (lv_at hl 0 rfl) ?_
  refine lv_ishr hx hb dX11_four_17 ?_
  refine lv_topi (fun x6 ex6 => ?_)
  refine lv_i2b hx hb dX11_four_18 rfl ?_
  refine lv_topi (fun x7 ex7 => ?_)
  refine va_bast hx hb hK.1 hP hD hS 1 1 rfl rfl (vpd (by decide)) dX11_four_19 (fun H locs hP hD hS => ?_)
  have hP : va_P (dC, dI) vwCl [(m0, .inr (11, [.ref m_tape, .int 9, .int 0, .ref m_sign, .ref m_length, .ref m_clause, .ref m_clauses, .ref m_chain, .int 0, .int 0, .int 0, .int 0, .int 0, .int 0, .int 0, .ref m_open, .int 0, .ref m_stack, .int 0, .ref m_word, .ref m_said, .ref m_kept, .int 0, .int 0, .int 0, .int 0, .int 0, .int 0, .ref m_stepNode, .ref m_stepDrops, .ref m_stepHour, .ref m_stepNext, .ref m_stepPass, .int 0, .int 0, .int 0, .ref m_bestPass, .ref m_far, .ref m_waited, .ref m_servers, .ref m_images, .ref m_isMade])), (m_tape, .inl (kA 1, 400, .inl (upd f4 (9 : Int32).toNatClampNeg (vp_nar .byte x7))))] H := hP
  have hD : va_D A [(m0, .inr (11, [.ref m_tape, .int 9, .int 0, .ref m_sign, .ref m_length, .ref m_clause, .ref m_clauses, .ref m_chain, .int 0, .int 0, .int 0, .int 0, .int 0, .int 0, .int 0, .ref m_open, .int 0, .ref m_stack, .int 0, .ref m_word, .ref m_said, .ref m_kept, .int 0, .int 0, .int 0, .int 0, .int 0, .int 0, .ref m_stepNode, .ref m_stepDrops, .ref m_stepHour, .ref m_stepNext, .ref m_stepPass, .int 0, .int 0, .int 0, .ref m_bestPass, .ref m_far, .ref m_waited, .ref m_servers, .ref m_images, .ref m_isMade])), (m_tape, .inl (kA 1, 400, .inl (upd f4 (9 : Int32).toNatClampNeg (vp_nar .byte x7))))] := hD
  obtain ⟨f8, ef8⟩ : ∃ y : Nat → Int32, y = (upd f4 (9 : Int32).toNatClampNeg (vp_nar .byte x7)) := ⟨_, rfl⟩
  rw [← ef8] at hP hD
  refine lv_aload_n hx hb dX11_four_20 rfl (lv_at hl 1 rfl) ?_
  refine lv_dup hx hb dX11_four_21 rfl ?_
  refine va_get (D := (dC, dI)) (ci := 11) (v := .int 9) (C := RX11) (T := TX11) (N := 42) hx hb hts iX11_four_X11 hown hK.1 hP 0 rfl rfl 1 (by decide) (kX11_four_2 hts) (fun _ h9 => h9) rfl dX11_four_22 ?_
  refine lv_iconst (v := 1) hx hb dX11_four_25 (by decide) ?_
  refine lv_iadd hx hb dX11_four_26 ?_
  refine zi 10 (by decide) ?_
  refine va_put (D := (dC, dI)) (ci := 11) (v := .int 10) (ty := .int) (C := RX11) (T := TX11) (N := 42) hx hb hts iX11_four_X11 tyX11 tyX11_ok nmX11 hown hK.1 hP hD hS 0 rfl rfl 1 (by decide) (kX11_four_2 hts) (fun _ h9 => h9) rfl (by decide +kernel) rfl rfl (Nat.le_of_ble_eq_true rfl) dX11_four_27 (fun H locs hP hD hS => ?_)
  have hP : va_P (dC, dI) vwCl [(m0, .inr (11, [.ref m_tape, .int 10, .int 0, .ref m_sign, .ref m_length, .ref m_clause, .ref m_clauses, .ref m_chain, .int 0, .int 0, .int 0, .int 0, .int 0, .int 0, .int 0, .ref m_open, .int 0, .ref m_stack, .int 0, .ref m_word, .ref m_said, .ref m_kept, .int 0, .int 0, .int 0, .int 0, .int 0, .int 0, .ref m_stepNode, .ref m_stepDrops, .ref m_stepHour, .ref m_stepNext, .ref m_stepPass, .int 0, .int 0, .int 0, .ref m_bestPass, .ref m_far, .ref m_waited, .ref m_servers, .ref m_images, .ref m_isMade])), (m_tape, .inl (kA 1, 400, .inl f8))] H := hP
  have hD : va_D A [(m0, .inr (11, [.ref m_tape, .int 10, .int 0, .ref m_sign, .ref m_length, .ref m_clause, .ref m_clauses, .ref m_chain, .int 0, .int 0, .int 0, .int 0, .int 0, .int 0, .int 0, .ref m_open, .int 0, .ref m_stack, .int 0, .ref m_word, .ref m_said, .ref m_kept, .int 0, .int 0, .int 0, .int 0, .int 0, .int 0, .ref m_stepNode, .ref m_stepDrops, .ref m_stepHour, .ref m_stepNext, .ref m_stepPass, .int 0, .int 0, .int 0, .ref m_bestPass, .ref m_far, .ref m_waited, .ref m_servers, .ref m_images, .ref m_isMade])), (m_tape, .inl (kA 1, 400, .inl f8))] := hD
  refine lv_iinc (v := 8) (lv' := [(2, .int 8), (0, .ref m0), (1, .int v)]) hx hb dX11_four_30 hl (k := 0) rfl (by decide) (by decide) rfl (fun ls hl => ?_)
  refine lv_goto (tgt := 3) hx hb dX11_four_33 (by decide) ?_
  refine lv_iload_n hx hb dX11_four_3 rfl (lv_at hl 0 rfl) ?_
  refine lv_if_lt (tgt := 36) hx hb dX11_four_4 (by decide) (fun c_9 => absurd c_9 (by decide)) (fun _ => ?_)
  refine lv_aload_n hx hb dX11_four_7 rfl (lv_at hl 1 rfl) ?_
  refine va_get (D := (dC, dI)) (ci := 11) (v := .ref m_tape) (C := RX11) (T := TX11) (N := 42) hx hb hts iX11_four_X11 hown hK.1 hP 0 rfl rfl 0 (by decide) (kX11_four_1 hts) (fun _ h9 => h9) rfl dX11_four_8 ?_
  refine lv_aload_n hx hb dX11_four_11 rfl (lv_at hl 1 rfl) ?_
  refine va_get (D := (dC, dI)) (ci := 11) (v := .int 10) (C := RX11) (T := TX11) (N := 42) hx hb hts iX11_four_X11 hown hK.1 hP 0 rfl rfl 1 (by decide) (kX11_four_2 hts) (fun _ h9 => h9) rfl dX11_four_12 ?_
  refine lv_iload_n hx hb dX11_four_15 rfl (lv_at hl 2 rfl) ?_
  refine lv_iload_n hx hb dX11_four_16 rfl (lv_at hl 0 rfl) ?_
  refine lv_ishr hx hb dX11_four_17 ?_
  refine lv_topi (fun x10 ex10 => ?_)
  refine lv_i2b hx hb dX11_four_18 rfl ?_
  refine lv_topi (fun x11 ex11 => ?_)
  refine va_bast hx hb hK.1 hP hD hS 1 1 rfl rfl (vpd (by decide)) dX11_four_19 (fun H locs hP hD hS => ?_)
  have hP : va_P (dC, dI) vwCl [(m0, .inr (11, [.ref m_tape, .int 10, .int 0, .ref m_sign, .ref m_length, .ref m_clause, .ref m_clauses, .ref m_chain, .int 0, .int 0, .int 0, .int 0, .int 0, .int 0, .int 0, .ref m_open, .int 0, .ref m_stack, .int 0, .ref m_word, .ref m_said, .ref m_kept, .int 0, .int 0, .int 0, .int 0, .int 0, .int 0, .ref m_stepNode, .ref m_stepDrops, .ref m_stepHour, .ref m_stepNext, .ref m_stepPass, .int 0, .int 0, .int 0, .ref m_bestPass, .ref m_far, .ref m_waited, .ref m_servers, .ref m_images, .ref m_isMade])), (m_tape, .inl (kA 1, 400, .inl (upd f8 (10 : Int32).toNatClampNeg (vp_nar .byte x11))))] H := hP
  have hD : va_D A [(m0, .inr (11, [.ref m_tape, .int 10, .int 0, .ref m_sign, .ref m_length, .ref m_clause, .ref m_clauses, .ref m_chain, .int 0, .int 0, .int 0, .int 0, .int 0, .int 0, .int 0, .ref m_open, .int 0, .ref m_stack, .int 0, .ref m_word, .ref m_said, .ref m_kept, .int 0, .int 0, .int 0, .int 0, .int 0, .int 0, .ref m_stepNode, .ref m_stepDrops, .ref m_stepHour, .ref m_stepNext, .ref m_stepPass, .int 0, .int 0, .int 0, .ref m_bestPass, .ref m_far, .ref m_waited, .ref m_servers, .ref m_images, .ref m_isMade])), (m_tape, .inl (kA 1, 400, .inl (upd f8 (10 : Int32).toNatClampNeg (vp_nar .byte x11))))] := hD
  obtain ⟨f12, ef12⟩ : ∃ y : Nat → Int32, y = (upd f8 (10 : Int32).toNatClampNeg (vp_nar .byte x11)) := ⟨_, rfl⟩
  rw [← ef12] at hP hD
  refine lv_aload_n hx hb dX11_four_20 rfl (lv_at hl 1 rfl) ?_
  refine lv_dup hx hb dX11_four_21 rfl ?_
  refine va_get (D := (dC, dI)) (ci := 11) (v := .int 10) (C := RX11) (T := TX11) (N := 42) hx hb hts iX11_four_X11 hown hK.1 hP 0 rfl rfl 1 (by decide) (kX11_four_2 hts) (fun _ h9 => h9) rfl dX11_four_22 ?_
  refine lv_iconst (v := 1) hx hb dX11_four_25 (by decide) ?_
  refine lv_iadd hx hb dX11_four_26 ?_
  refine zi 11 (by decide) ?_
  refine va_put (D := (dC, dI)) (ci := 11) (v := .int 11) (ty := .int) (C := RX11) (T := TX11) (N := 42) hx hb hts iX11_four_X11 tyX11 tyX11_ok nmX11 hown hK.1 hP hD hS 0 rfl rfl 1 (by decide) (kX11_four_2 hts) (fun _ h9 => h9) rfl (by decide +kernel) rfl rfl (Nat.le_of_ble_eq_true rfl) dX11_four_27 (fun H locs hP hD hS => ?_)
  have hP : va_P (dC, dI) vwCl [(m0, .inr (11, [.ref m_tape, .int 11, .int 0, .ref m_sign, .ref m_length, .ref m_clause, .ref m_clauses, .ref m_chain, .int 0, .int 0, .int 0, .int 0, .int 0, .int 0, .int 0, .ref m_open, .int 0, .ref m_stack, .int 0, .ref m_word, .ref m_said, .ref m_kept, .int 0, .int 0, .int 0, .int 0, .int 0, .int 0, .ref m_stepNode, .ref m_stepDrops, .ref m_stepHour, .ref m_stepNext, .ref m_stepPass, .int 0, .int 0, .int 0, .ref m_bestPass, .ref m_far, .ref m_waited, .ref m_servers, .ref m_images, .ref m_isMade])), (m_tape, .inl (kA 1, 400, .inl f12))] H := hP
  have hD : va_D A [(m0, .inr (11, [.ref m_tape, .int 11, .int 0, .ref m_sign, .ref m_length, .ref m_clause, .ref m_clauses, .ref m_chain, .int 0, .int 0, .int 0, .int 0, .int 0, .int 0, .int 0, .ref m_open, .int 0, .ref m_stack, .int 0, .ref m_word, .ref m_said, .ref m_kept, .int 0, .int 0, .int 0, .int 0, .int 0, .int 0, .ref m_stepNode, .ref m_stepDrops, .ref m_stepHour, .ref m_stepNext, .ref m_stepPass, .int 0, .int 0, .int 0, .ref m_bestPass, .ref m_far, .ref m_waited, .ref m_servers, .ref m_images, .ref m_isMade])), (m_tape, .inl (kA 1, 400, .inl f12))] := hD
  refine lv_iinc (v := 0) (lv' := [(2, .int 0), (0, .ref m0), (1, .int v)]) hx hb dX11_four_30 hl (k := 0) rfl (by decide) (by decide) rfl (fun ls hl => ?_)
  refine lv_goto (tgt := 3) hx hb dX11_four_33 (by decide) ?_
  refine lv_iload_n hx hb dX11_four_3 rfl (lv_at hl 0 rfl) ?_
  refine lv_if_lt (tgt := 36) hx hb dX11_four_4 (by decide) (fun c_13 => absurd c_13 (by decide)) (fun _ => ?_)
  refine lv_aload_n hx hb dX11_four_7 rfl (lv_at hl 1 rfl) ?_
  refine va_get (D := (dC, dI)) (ci := 11) (v := .ref m_tape) (C := RX11) (T := TX11) (N := 42) hx hb hts iX11_four_X11 hown hK.1 hP 0 rfl rfl 0 (by decide) (kX11_four_1 hts) (fun _ h9 => h9) rfl dX11_four_8 ?_
  refine lv_aload_n hx hb dX11_four_11 rfl (lv_at hl 1 rfl) ?_
  refine va_get (D := (dC, dI)) (ci := 11) (v := .int 11) (C := RX11) (T := TX11) (N := 42) hx hb hts iX11_four_X11 hown hK.1 hP 0 rfl rfl 1 (by decide) (kX11_four_2 hts) (fun _ h9 => h9) rfl dX11_four_12 ?_
  refine lv_iload_n hx hb dX11_four_15 rfl (lv_at hl 2 rfl) ?_
  refine lv_iload_n hx hb dX11_four_16 rfl (lv_at hl 0 rfl) ?_
  refine lv_ishr hx hb dX11_four_17 ?_
  refine lv_topi (fun x14 ex14 => ?_)
  refine lv_i2b hx hb dX11_four_18 rfl ?_
  refine lv_topi (fun x15 ex15 => ?_)
  refine va_bast hx hb hK.1 hP hD hS 1 1 rfl rfl (vpd (by decide)) dX11_four_19 (fun H locs hP hD hS => ?_)
  have hP : va_P (dC, dI) vwCl [(m0, .inr (11, [.ref m_tape, .int 11, .int 0, .ref m_sign, .ref m_length, .ref m_clause, .ref m_clauses, .ref m_chain, .int 0, .int 0, .int 0, .int 0, .int 0, .int 0, .int 0, .ref m_open, .int 0, .ref m_stack, .int 0, .ref m_word, .ref m_said, .ref m_kept, .int 0, .int 0, .int 0, .int 0, .int 0, .int 0, .ref m_stepNode, .ref m_stepDrops, .ref m_stepHour, .ref m_stepNext, .ref m_stepPass, .int 0, .int 0, .int 0, .ref m_bestPass, .ref m_far, .ref m_waited, .ref m_servers, .ref m_images, .ref m_isMade])), (m_tape, .inl (kA 1, 400, .inl (upd f12 (11 : Int32).toNatClampNeg (vp_nar .byte x15))))] H := hP
  have hD : va_D A [(m0, .inr (11, [.ref m_tape, .int 11, .int 0, .ref m_sign, .ref m_length, .ref m_clause, .ref m_clauses, .ref m_chain, .int 0, .int 0, .int 0, .int 0, .int 0, .int 0, .int 0, .ref m_open, .int 0, .ref m_stack, .int 0, .ref m_word, .ref m_said, .ref m_kept, .int 0, .int 0, .int 0, .int 0, .int 0, .int 0, .ref m_stepNode, .ref m_stepDrops, .ref m_stepHour, .ref m_stepNext, .ref m_stepPass, .int 0, .int 0, .int 0, .ref m_bestPass, .ref m_far, .ref m_waited, .ref m_servers, .ref m_images, .ref m_isMade])), (m_tape, .inl (kA 1, 400, .inl (upd f12 (11 : Int32).toNatClampNeg (vp_nar .byte x15))))] := hD
  obtain ⟨f16, ef16⟩ : ∃ y : Nat → Int32, y = (upd f12 (11 : Int32).toNatClampNeg (vp_nar .byte x15)) := ⟨_, rfl⟩
  rw [← ef16] at hP hD
  refine lv_aload_n hx hb dX11_four_20 rfl (lv_at hl 1 rfl) ?_
  refine lv_dup hx hb dX11_four_21 rfl ?_
  refine va_get (D := (dC, dI)) (ci := 11) (v := .int 11) (C := RX11) (T := TX11) (N := 42) hx hb hts iX11_four_X11 hown hK.1 hP 0 rfl rfl 1 (by decide) (kX11_four_2 hts) (fun _ h9 => h9) rfl dX11_four_22 ?_
  refine lv_iconst (v := 1) hx hb dX11_four_25 (by decide) ?_
  refine lv_iadd hx hb dX11_four_26 ?_
  refine zi 12 (by decide) ?_
  refine va_put (D := (dC, dI)) (ci := 11) (v := .int 12) (ty := .int) (C := RX11) (T := TX11) (N := 42) hx hb hts iX11_four_X11 tyX11 tyX11_ok nmX11 hown hK.1 hP hD hS 0 rfl rfl 1 (by decide) (kX11_four_2 hts) (fun _ h9 => h9) rfl (by decide +kernel) rfl rfl (Nat.le_of_ble_eq_true rfl) dX11_four_27 (fun H locs hP hD hS => ?_)
  have hP : va_P (dC, dI) vwCl [(m0, .inr (11, [.ref m_tape, .int 12, .int 0, .ref m_sign, .ref m_length, .ref m_clause, .ref m_clauses, .ref m_chain, .int 0, .int 0, .int 0, .int 0, .int 0, .int 0, .int 0, .ref m_open, .int 0, .ref m_stack, .int 0, .ref m_word, .ref m_said, .ref m_kept, .int 0, .int 0, .int 0, .int 0, .int 0, .int 0, .ref m_stepNode, .ref m_stepDrops, .ref m_stepHour, .ref m_stepNext, .ref m_stepPass, .int 0, .int 0, .int 0, .ref m_bestPass, .ref m_far, .ref m_waited, .ref m_servers, .ref m_images, .ref m_isMade])), (m_tape, .inl (kA 1, 400, .inl f16))] H := hP
  have hD : va_D A [(m0, .inr (11, [.ref m_tape, .int 12, .int 0, .ref m_sign, .ref m_length, .ref m_clause, .ref m_clauses, .ref m_chain, .int 0, .int 0, .int 0, .int 0, .int 0, .int 0, .int 0, .ref m_open, .int 0, .ref m_stack, .int 0, .ref m_word, .ref m_said, .ref m_kept, .int 0, .int 0, .int 0, .int 0, .int 0, .int 0, .ref m_stepNode, .ref m_stepDrops, .ref m_stepHour, .ref m_stepNext, .ref m_stepPass, .int 0, .int 0, .int 0, .ref m_bestPass, .ref m_far, .ref m_waited, .ref m_servers, .ref m_images, .ref m_isMade])), (m_tape, .inl (kA 1, 400, .inl f16))] := hD
  refine lv_iinc (v := (-8)) (lv' := [(2, .int (-8)), (0, .ref m0), (1, .int v)]) hx hb dX11_four_30 hl (k := 0) rfl (by decide) (by decide) rfl (fun ls hl => ?_)
  refine lv_goto (tgt := 3) hx hb dX11_four_33 (by decide) ?_
  refine lv_iload_n hx hb dX11_four_3 rfl (lv_at hl 0 rfl) ?_
  refine lv_if_lt (tgt := 36) hx hb dX11_four_4 (by decide) (fun _ => ?_) (fun c_17 => absurd (by decide) c_17)
  have hP9 := hP.sub (ws' := [(m0, .inr (11, [.ref m_tape, .int 12, .int 0, .ref m_sign, .ref m_length, .ref m_clause, .ref m_clauses, .ref m_chain, .int 0, .int 0, .int 0, .int 0, .int 0, .int 0, .int 0, .ref m_open, .int 0, .ref m_stack, .int 0, .ref m_word, .ref m_said, .ref m_kept, .int 0, .int 0, .int 0, .int 0, .int 0, .int 0, .ref m_stepNode, .ref m_stepDrops, .ref m_stepHour, .ref m_stepNext, .ref m_stepPass, .int 0, .int 0, .int 0, .ref m_bestPass, .ref m_far, .ref m_waited, .ref m_servers, .ref m_images, .ref m_isMade])), (m_tape, .inl (kA 1, 400, .inl f16))]) [0, 1] rfl
  have hD9 := hD.sub (ws' := [(m0, .inr (11, [.ref m_tape, .int 12, .int 0, .ref m_sign, .ref m_length, .ref m_clause, .ref m_clauses, .ref m_chain, .int 0, .int 0, .int 0, .int 0, .int 0, .int 0, .int 0, .ref m_open, .int 0, .ref m_stack, .int 0, .ref m_word, .ref m_said, .ref m_kept, .int 0, .int 0, .int 0, .int 0, .int 0, .int 0, .ref m_stepNode, .ref m_stepDrops, .ref m_stepHour, .ref m_stepNext, .ref m_stepPass, .int 0, .int 0, .int 0, .ref m_bestPass, .ref m_far, .ref m_waited, .ref m_servers, .ref m_images, .ref m_isMade])), (m_tape, .inl (kA 1, 400, .inl f16))]) [0, 1] (by decide) rfl
  refine W.widen (k := 0) (n := 0) (Nat.le_of_ble_eq_true rfl) (Nat.le_of_ble_eq_true rfl) ?_
  exact W.vret hx hb hr (fun t ht hW => ⟨⟨(f16), rfl, trivial, by rw [ht]; exact hP9, hD9⟩, hS.F ht⟩) hS.2.2 dX11_four_36
set_option maxHeartbeats 4000000 in
set_option maxRecDepth 100000 in
theorem mX11_four_12 (l : Launch) (dC : Nat → ClassId) (dI : Nat → Nat → Nat) (kA : Nat → ClassId) (sz : Nat) (m0 : Nat) (m_tape : Nat) (m_sign : Nat) (m_length : Nat) (m_clause : Nat) (m_clauses : Nat) (m_chain : Nat) (m_open : Nat) (m_stack : Nat) (m_word : Nat) (m_said : Nat) (m_kept : Nat) (m_stepNode : Nat) (m_stepDrops : Nat) (m_stepHour : Nat) (m_stepNext : Nat) (m_stepPass : Nat) (m_bestPass : Nat) (m_far : Nat) (m_waited : Nat) (m_servers : Nat) (m_images : Nat) (m_isMade : Nat) (f : Nat → Int32) (v : Int32)  : Met l yX11_four wsX11_four ({ frames := 0, cells := 0, slots := 0, locals := 0 }) (zPc dC dI kA sz [.ref m0, .int v] [(m0, .inr (11, [.ref m_tape, .int 12, .int 0, .ref m_sign, .ref m_length, .ref m_clause, .ref m_clauses, .ref m_chain, .int 0, .int 0, .int 0, .int 0, .int 0, .int 0, .int 0, .ref m_open, .int 0, .ref m_stack, .int 0, .ref m_word, .ref m_said, .ref m_kept, .int 0, .int 0, .int 0, .int 0, .int 0, .int 0, .ref m_stepNode, .ref m_stepDrops, .ref m_stepHour, .ref m_stepNext, .ref m_stepPass, .int 0, .int 0, .int 0, .ref m_bestPass, .ref m_far, .ref m_waited, .ref m_servers, .ref m_images, .ref m_isMade])), (m_tape, .inl (kA 1, 400, .inl f))]) (va_Qv (fun (u : Nat → Int32) => True) (zB dC dI (va_A [(m0, .inr (11, [.ref m_tape, .int 12, .int 0, .ref m_sign, .ref m_length, .ref m_clause, .ref m_clauses, .ref m_chain, .int 0, .int 0, .int 0, .int 0, .int 0, .int 0, .int 0, .ref m_open, .int 0, .ref m_stack, .int 0, .ref m_word, .ref m_said, .ref m_kept, .int 0, .int 0, .int 0, .int 0, .int 0, .int 0, .ref m_stepNode, .ref m_stepDrops, .ref m_stepHour, .ref m_stepNext, .ref m_stepPass, .int 0, .int 0, .int 0, .ref m_bestPass, .ref m_far, .ref m_waited, .ref m_servers, .ref m_images, .ref m_isMade])), (m_tape, .inl (kA 1, 400, .inl f))] sz) (fun (u : Nat → Int32) => [(m0, .inr (11, [.ref m_tape, .int 16, .int 0, .ref m_sign, .ref m_length, .ref m_clause, .ref m_clauses, .ref m_chain, .int 0, .int 0, .int 0, .int 0, .int 0, .int 0, .int 0, .ref m_open, .int 0, .ref m_stack, .int 0, .ref m_word, .ref m_said, .ref m_kept, .int 0, .int 0, .int 0, .int 0, .int 0, .int 0, .ref m_stepNode, .ref m_stepDrops, .ref m_stepHour, .ref m_stepNext, .ref m_stepPass, .int 0, .int 0, .int 0, .ref m_bestPass, .ref m_far, .ref m_waited, .ref m_servers, .ref m_images, .ref m_isMade])), (m_tape, .inl (kA 1, 400, .inl u))])) (va_A [(m0, .inr (11, [.ref m_tape, .int 12, .int 0, .ref m_sign, .ref m_length, .ref m_clause, .ref m_clauses, .ref m_chain, .int 0, .int 0, .int 0, .int 0, .int 0, .int 0, .int 0, .ref m_open, .int 0, .ref m_stack, .int 0, .ref m_word, .ref m_said, .ref m_kept, .int 0, .int 0, .int 0, .int 0, .int 0, .int 0, .ref m_stepNode, .ref m_stepDrops, .ref m_stepHour, .ref m_stepNext, .ref m_stepPass, .int 0, .int 0, .int 0, .ref m_bestPass, .ref m_far, .ref m_waited, .ref m_servers, .ref m_images, .ref m_isMade])), (m_tape, .inl (kA 1, 400, .inl f))] sz)) 0 0 (va_A [(m0, .inr (11, [.ref m_tape, .int 12, .int 0, .ref m_sign, .ref m_length, .ref m_clause, .ref m_clauses, .ref m_chain, .int 0, .int 0, .int 0, .int 0, .int 0, .int 0, .int 0, .ref m_open, .int 0, .ref m_stack, .int 0, .ref m_word, .ref m_said, .ref m_kept, .int 0, .int 0, .int 0, .int 0, .int 0, .int 0, .ref m_stepNode, .ref m_stepDrops, .ref m_stepHour, .ref m_stepNext, .ref m_stepPass, .int 0, .int 0, .int 0, .ref m_bestPass, .ref m_far, .ref m_waited, .ref m_servers, .ref m_images, .ref m_isMade])), (m_tape, .inl (kA 1, 400, .inl f))] sz) := by
  refine Met.ofW (cc := cX11_four) (maxL := 3) (ret := none) (by decide) rfl ?_
  intro p e s m args below meth c s₁ B hml hv
  obtain ⟨rfl, hsz, hP, hK, hD0⟩ := hv
  have hx := B.exec
  have hb := B.bytes
  have hr := B.returns
  have hts := atoms_spec (ws := wsX11_four) B.pre
  have hown : s.vm.findClass RX11 = some m.cls := findClass_of_methodNamed B.named
  have hlocks := B.notSynchronized
  subst hsz
  have hD := hD0.self (sz := s.heap.size)
  generalize hAe : va_A [(m0, .inr (11, [.ref m_tape, .int 12, .int 0, .ref m_sign, .ref m_length, .ref m_clause, .ref m_clauses, .ref m_chain, .int 0, .int 0, .int 0, .int 0, .int 0, .int 0, .int 0, .ref m_open, .int 0, .ref m_stack, .int 0, .ref m_word, .ref m_said, .ref m_kept, .int 0, .int 0, .int 0, .int 0, .int 0, .int 0, .ref m_stepNode, .ref m_stepDrops, .ref m_stepHour, .ref m_stepNext, .ref m_stepPass, .int 0, .int 0, .int 0, .ref m_bestPass, .ref m_far, .ref m_waited, .ref m_servers, .ref m_images, .ref m_isMade])), (m_tape, .inl (kA 1, 400, .inl f))] s.heap.size = A at hD ⊢
  have hA : ∀ q : Nat, s.heap.size ≤ q → A q := fun q h => by rw [← hAe]; exact Or.inr h
  have hS : va_S A s.heap s.heap [] := va_S.rf
  have hP : va_P (dC, dI) vwCl [(m0, .inr (11, [.ref m_tape, .int 12, .int 0, .ref m_sign, .ref m_length, .ref m_clause, .ref m_clauses, .ref m_chain, .int 0, .int 0, .int 0, .int 0, .int 0, .int 0, .int 0, .ref m_open, .int 0, .ref m_stack, .int 0, .ref m_word, .ref m_said, .ref m_kept, .int 0, .int 0, .int 0, .int 0, .int 0, .int 0, .ref m_stepNode, .ref m_stepDrops, .ref m_stepHour, .ref m_stepNext, .ref m_stepPass, .int 0, .int 0, .int 0, .ref m_bestPass, .ref m_far, .ref m_waited, .ref m_servers, .ref m_images, .ref m_isMade])), (m_tape, .inl (kA 1, 400, .inl f))] s.heap := hP
  have hl := lv_entry ([.ref m0, .int v]) (n := 3) (Nat.le_of_ble_eq_true rfl)
  rw [lg_entry_eq]
  generalize (lg_sl ([.ref m0, .int v]) ++ List.replicate (3 - (lg_sl ([.ref m0, .int v])).length) Slot.unset).toArray = ls at hl ⊢
  have hl : lv_has ls 3 [(0, .ref m0), (1, .int v)] := hl
  refine lv_bipush (v := 24) hx hb dX11_four_0 (by decide) ?_
  refine lv_istore_n (lv' := [(2, .int 24), (0, .ref m0), (1, .int v)]) hx hb dX11_four_2 rfl hl (by decide) rfl (fun ls hl => ?_)
  refine lv_iload_n hx hb dX11_four_3 rfl (lv_at hl 0 rfl) ?_
  refine lv_if_lt (tgt := 36) hx hb dX11_four_4 (by decide) (fun c_1 => absurd c_1 (by decide)) (fun _ => ?_)
  refine lv_aload_n hx hb dX11_four_7 rfl (lv_at hl 1 rfl) ?_
  refine va_get (D := (dC, dI)) (ci := 11) (v := .ref m_tape) (C := RX11) (T := TX11) (N := 42) hx hb hts iX11_four_X11 hown hK.1 hP 0 rfl rfl 0 (by decide) (kX11_four_1 hts) (fun _ h9 => h9) rfl dX11_four_8 ?_
  refine lv_aload_n hx hb dX11_four_11 rfl (lv_at hl 1 rfl) ?_
  refine va_get (D := (dC, dI)) (ci := 11) (v := .int 12) (C := RX11) (T := TX11) (N := 42) hx hb hts iX11_four_X11 hown hK.1 hP 0 rfl rfl 1 (by decide) (kX11_four_2 hts) (fun _ h9 => h9) rfl dX11_four_12 ?_
  refine lv_iload_n hx hb dX11_four_15 rfl (lv_at hl 2 rfl) ?_
  refine lv_iload_n hx hb dX11_four_16 rfl (lv_at hl 0 rfl) ?_
  refine lv_ishr hx hb dX11_four_17 ?_
  refine lv_topi (fun x2 ex2 => ?_)
  refine lv_i2b hx hb dX11_four_18 rfl ?_
  refine lv_topi (fun x3 ex3 => ?_)
  refine va_bast hx hb hK.1 hP hD hS 1 1 rfl rfl (vpd (by decide)) dX11_four_19 (fun H locs hP hD hS => ?_)
  have hP : va_P (dC, dI) vwCl [(m0, .inr (11, [.ref m_tape, .int 12, .int 0, .ref m_sign, .ref m_length, .ref m_clause, .ref m_clauses, .ref m_chain, .int 0, .int 0, .int 0, .int 0, .int 0, .int 0, .int 0, .ref m_open, .int 0, .ref m_stack, .int 0, .ref m_word, .ref m_said, .ref m_kept, .int 0, .int 0, .int 0, .int 0, .int 0, .int 0, .ref m_stepNode, .ref m_stepDrops, .ref m_stepHour, .ref m_stepNext, .ref m_stepPass, .int 0, .int 0, .int 0, .ref m_bestPass, .ref m_far, .ref m_waited, .ref m_servers, .ref m_images, .ref m_isMade])), (m_tape, .inl (kA 1, 400, .inl (upd f (12 : Int32).toNatClampNeg (vp_nar .byte x3))))] H := hP
  have hD : va_D A [(m0, .inr (11, [.ref m_tape, .int 12, .int 0, .ref m_sign, .ref m_length, .ref m_clause, .ref m_clauses, .ref m_chain, .int 0, .int 0, .int 0, .int 0, .int 0, .int 0, .int 0, .ref m_open, .int 0, .ref m_stack, .int 0, .ref m_word, .ref m_said, .ref m_kept, .int 0, .int 0, .int 0, .int 0, .int 0, .int 0, .ref m_stepNode, .ref m_stepDrops, .ref m_stepHour, .ref m_stepNext, .ref m_stepPass, .int 0, .int 0, .int 0, .ref m_bestPass, .ref m_far, .ref m_waited, .ref m_servers, .ref m_images, .ref m_isMade])), (m_tape, .inl (kA 1, 400, .inl (upd f (12 : Int32).toNatClampNeg (vp_nar .byte x3))))] := hD
  obtain ⟨f4, ef4⟩ : ∃ y : Nat → Int32, y = (upd f (12 : Int32).toNatClampNeg (vp_nar .byte x3)) := ⟨_, rfl⟩
  rw [← ef4] at hP hD
  refine lv_aload_n hx hb dX11_four_20 rfl (lv_at hl 1 rfl) ?_
  refine lv_dup hx hb dX11_four_21 rfl ?_
  refine va_get (D := (dC, dI)) (ci := 11) (v := .int 12) (C := RX11) (T := TX11) (N := 42) hx hb hts iX11_four_X11 hown hK.1 hP 0 rfl rfl 1 (by decide) (kX11_four_2 hts) (fun _ h9 => h9) rfl dX11_four_22 ?_
  refine lv_iconst (v := 1) hx hb dX11_four_25 (by decide) ?_
  refine lv_iadd hx hb dX11_four_26 ?_
  refine zi 13 (by decide) ?_
  refine va_put (D := (dC, dI)) (ci := 11) (v := .int 13) (ty := .int) (C := RX11) (T := TX11) (N := 42) hx hb hts iX11_four_X11 tyX11 tyX11_ok nmX11 hown hK.1 hP hD hS 0 rfl rfl 1 (by decide) (kX11_four_2 hts) (fun _ h9 => h9) rfl (by decide +kernel) rfl rfl (Nat.le_of_ble_eq_true rfl) dX11_four_27 (fun H locs hP hD hS => ?_)
  have hP : va_P (dC, dI) vwCl [(m0, .inr (11, [.ref m_tape, .int 13, .int 0, .ref m_sign, .ref m_length, .ref m_clause, .ref m_clauses, .ref m_chain, .int 0, .int 0, .int 0, .int 0, .int 0, .int 0, .int 0, .ref m_open, .int 0, .ref m_stack, .int 0, .ref m_word, .ref m_said, .ref m_kept, .int 0, .int 0, .int 0, .int 0, .int 0, .int 0, .ref m_stepNode, .ref m_stepDrops, .ref m_stepHour, .ref m_stepNext, .ref m_stepPass, .int 0, .int 0, .int 0, .ref m_bestPass, .ref m_far, .ref m_waited, .ref m_servers, .ref m_images, .ref m_isMade])), (m_tape, .inl (kA 1, 400, .inl f4))] H := hP
  have hD : va_D A [(m0, .inr (11, [.ref m_tape, .int 13, .int 0, .ref m_sign, .ref m_length, .ref m_clause, .ref m_clauses, .ref m_chain, .int 0, .int 0, .int 0, .int 0, .int 0, .int 0, .int 0, .ref m_open, .int 0, .ref m_stack, .int 0, .ref m_word, .ref m_said, .ref m_kept, .int 0, .int 0, .int 0, .int 0, .int 0, .int 0, .ref m_stepNode, .ref m_stepDrops, .ref m_stepHour, .ref m_stepNext, .ref m_stepPass, .int 0, .int 0, .int 0, .ref m_bestPass, .ref m_far, .ref m_waited, .ref m_servers, .ref m_images, .ref m_isMade])), (m_tape, .inl (kA 1, 400, .inl f4))] := hD
  refine lv_iinc (v := 16) (lv' := [(2, .int 16), (0, .ref m0), (1, .int v)]) hx hb dX11_four_30 hl (k := 0) rfl (by decide) (by decide) rfl (fun ls hl => ?_)
  refine lv_goto (tgt := 3) hx hb dX11_four_33 (by decide) ?_
  refine lv_iload_n hx hb dX11_four_3 rfl (lv_at hl 0 rfl) ?_
  refine lv_if_lt (tgt := 36) hx hb dX11_four_4 (by decide) (fun c_5 => absurd c_5 (by decide)) (fun _ => ?_)
  refine lv_aload_n hx hb dX11_four_7 rfl (lv_at hl 1 rfl) ?_
  refine va_get (D := (dC, dI)) (ci := 11) (v := .ref m_tape) (C := RX11) (T := TX11) (N := 42) hx hb hts iX11_four_X11 hown hK.1 hP 0 rfl rfl 0 (by decide) (kX11_four_1 hts) (fun _ h9 => h9) rfl dX11_four_8 ?_
  refine lv_aload_n hx hb dX11_four_11 rfl (lv_at hl 1 rfl) ?_
  refine va_get (D := (dC, dI)) (ci := 11) (v := .int 13) (C := RX11) (T := TX11) (N := 42) hx hb hts iX11_four_X11 hown hK.1 hP 0 rfl rfl 1 (by decide) (kX11_four_2 hts) (fun _ h9 => h9) rfl dX11_four_12 ?_
  refine lv_iload_n hx hb dX11_four_15 rfl (lv_at hl 2 rfl) ?_
  refine lv_iload_n hx hb dX11_four_16 rfl (lv_at hl 0 rfl) ?_
  refine lv_ishr hx hb dX11_four_17 ?_
  refine lv_topi (fun x6 ex6 => ?_)
  refine lv_i2b hx hb dX11_four_18 rfl ?_
  refine lv_topi (fun x7 ex7 => ?_)
  refine va_bast hx hb hK.1 hP hD hS 1 1 rfl rfl (vpd (by decide)) dX11_four_19 (fun H locs hP hD hS => ?_)
  have hP : va_P (dC, dI) vwCl [(m0, .inr (11, [.ref m_tape, .int 13, .int 0, .ref m_sign, .ref m_length, .ref m_clause, .ref m_clauses, .ref m_chain, .int 0, .int 0, .int 0, .int 0, .int 0, .int 0, .int 0, .ref m_open, .int 0, .ref m_stack, .int 0, .ref m_word, .ref m_said, .ref m_kept, .int 0, .int 0, .int 0, .int 0, .int 0, .int 0, .ref m_stepNode, .ref m_stepDrops, .ref m_stepHour, .ref m_stepNext, .ref m_stepPass, .int 0, .int 0, .int 0, .ref m_bestPass, .ref m_far, .ref m_waited, .ref m_servers, .ref m_images, .ref m_isMade])), (m_tape, .inl (kA 1, 400, .inl (upd f4 (13 : Int32).toNatClampNeg (vp_nar .byte x7))))] H := hP
  have hD : va_D A [(m0, .inr (11, [.ref m_tape, .int 13, .int 0, .ref m_sign, .ref m_length, .ref m_clause, .ref m_clauses, .ref m_chain, .int 0, .int 0, .int 0, .int 0, .int 0, .int 0, .int 0, .ref m_open, .int 0, .ref m_stack, .int 0, .ref m_word, .ref m_said, .ref m_kept, .int 0, .int 0, .int 0, .int 0, .int 0, .int 0, .ref m_stepNode, .ref m_stepDrops, .ref m_stepHour, .ref m_stepNext, .ref m_stepPass, .int 0, .int 0, .int 0, .ref m_bestPass, .ref m_far, .ref m_waited, .ref m_servers, .ref m_images, .ref m_isMade])), (m_tape, .inl (kA 1, 400, .inl (upd f4 (13 : Int32).toNatClampNeg (vp_nar .byte x7))))] := hD
  obtain ⟨f8, ef8⟩ : ∃ y : Nat → Int32, y = (upd f4 (13 : Int32).toNatClampNeg (vp_nar .byte x7)) := ⟨_, rfl⟩
  rw [← ef8] at hP hD
  refine lv_aload_n hx hb dX11_four_20 rfl (lv_at hl 1 rfl) ?_
  refine lv_dup hx hb dX11_four_21 rfl ?_
  refine va_get (D := (dC, dI)) (ci := 11) (v := .int 13) (C := RX11) (T := TX11) (N := 42) hx hb hts iX11_four_X11 hown hK.1 hP 0 rfl rfl 1 (by decide) (kX11_four_2 hts) (fun _ h9 => h9) rfl dX11_four_22 ?_
  refine lv_iconst (v := 1) hx hb dX11_four_25 (by decide) ?_
  refine lv_iadd hx hb dX11_four_26 ?_
  refine zi 14 (by decide) ?_
  refine va_put (D := (dC, dI)) (ci := 11) (v := .int 14) (ty := .int) (C := RX11) (T := TX11) (N := 42) hx hb hts iX11_four_X11 tyX11 tyX11_ok nmX11 hown hK.1 hP hD hS 0 rfl rfl 1 (by decide) (kX11_four_2 hts) (fun _ h9 => h9) rfl (by decide +kernel) rfl rfl (Nat.le_of_ble_eq_true rfl) dX11_four_27 (fun H locs hP hD hS => ?_)
  have hP : va_P (dC, dI) vwCl [(m0, .inr (11, [.ref m_tape, .int 14, .int 0, .ref m_sign, .ref m_length, .ref m_clause, .ref m_clauses, .ref m_chain, .int 0, .int 0, .int 0, .int 0, .int 0, .int 0, .int 0, .ref m_open, .int 0, .ref m_stack, .int 0, .ref m_word, .ref m_said, .ref m_kept, .int 0, .int 0, .int 0, .int 0, .int 0, .int 0, .ref m_stepNode, .ref m_stepDrops, .ref m_stepHour, .ref m_stepNext, .ref m_stepPass, .int 0, .int 0, .int 0, .ref m_bestPass, .ref m_far, .ref m_waited, .ref m_servers, .ref m_images, .ref m_isMade])), (m_tape, .inl (kA 1, 400, .inl f8))] H := hP
  have hD : va_D A [(m0, .inr (11, [.ref m_tape, .int 14, .int 0, .ref m_sign, .ref m_length, .ref m_clause, .ref m_clauses, .ref m_chain, .int 0, .int 0, .int 0, .int 0, .int 0, .int 0, .int 0, .ref m_open, .int 0, .ref m_stack, .int 0, .ref m_word, .ref m_said, .ref m_kept, .int 0, .int 0, .int 0, .int 0, .int 0, .int 0, .ref m_stepNode, .ref m_stepDrops, .ref m_stepHour, .ref m_stepNext, .ref m_stepPass, .int 0, .int 0, .int 0, .ref m_bestPass, .ref m_far, .ref m_waited, .ref m_servers, .ref m_images, .ref m_isMade])), (m_tape, .inl (kA 1, 400, .inl f8))] := hD
  refine lv_iinc (v := 8) (lv' := [(2, .int 8), (0, .ref m0), (1, .int v)]) hx hb dX11_four_30 hl (k := 0) rfl (by decide) (by decide) rfl (fun ls hl => ?_)
  refine lv_goto (tgt := 3) hx hb dX11_four_33 (by decide) ?_
  refine lv_iload_n hx hb dX11_four_3 rfl (lv_at hl 0 rfl) ?_
  refine lv_if_lt (tgt := 36) hx hb dX11_four_4 (by decide) (fun c_9 => absurd c_9 (by decide)) (fun _ => ?_)
  refine lv_aload_n hx hb dX11_four_7 rfl (lv_at hl 1 rfl) ?_
  refine va_get (D := (dC, dI)) (ci := 11) (v := .ref m_tape) (C := RX11) (T := TX11) (N := 42) hx hb hts iX11_four_X11 hown hK.1 hP 0 rfl rfl 0 (by decide) (kX11_four_1 hts) (fun _ h9 => h9) rfl dX11_four_8 ?_
  refine lv_aload_n hx hb dX11_four_11 rfl (lv_at hl 1 rfl) ?_
  refine va_get (D := (dC, dI)) (ci := 11) (v := .int 14) (C := RX11) (T := TX11) (N := 42) hx hb hts iX11_four_X11 hown hK.1 hP 0 rfl rfl 1 (by decide) (kX11_four_2 hts) (fun _ h9 => h9) rfl dX11_four_12 ?_
  refine lv_iload_n hx hb dX11_four_15 rfl (lv_at hl 2 rfl) ?_
  refine lv_iload_n hx hb dX11_four_16 rfl (lv_at hl 0 rfl) ?_
  refine lv_ishr hx hb dX11_four_17 ?_
  refine lv_topi (fun x10 ex10 => ?_)
  refine lv_i2b hx hb dX11_four_18 rfl ?_
  refine lv_topi (fun x11 ex11 => ?_)
  refine va_bast hx hb hK.1 hP hD hS 1 1 rfl rfl (vpd (by decide)) dX11_four_19 (fun H locs hP hD hS => ?_)
  have hP : va_P (dC, dI) vwCl [(m0, .inr (11, [.ref m_tape, .int 14, .int 0, .ref m_sign, .ref m_length, .ref m_clause, .ref m_clauses, .ref m_chain, .int 0, .int 0, .int 0, .int 0, .int 0, .int 0, .int 0, .ref m_open, .int 0, .ref m_stack, .int 0, .ref m_word, .ref m_said, .ref m_kept, .int 0, .int 0, .int 0, .int 0, .int 0, .int 0, .ref m_stepNode, .ref m_stepDrops, .ref m_stepHour, .ref m_stepNext, .ref m_stepPass, .int 0, .int 0, .int 0, .ref m_bestPass, .ref m_far, .ref m_waited, .ref m_servers, .ref m_images, .ref m_isMade])), (m_tape, .inl (kA 1, 400, .inl (upd f8 (14 : Int32).toNatClampNeg (vp_nar .byte x11))))] H := hP
  have hD : va_D A [(m0, .inr (11, [.ref m_tape, .int 14, .int 0, .ref m_sign, .ref m_length, .ref m_clause, .ref m_clauses, .ref m_chain, .int 0, .int 0, .int 0, .int 0, .int 0, .int 0, .int 0, .ref m_open, .int 0, .ref m_stack, .int 0, .ref m_word, .ref m_said, .ref m_kept, .int 0, .int 0, .int 0, .int 0, .int 0, .int 0, .ref m_stepNode, .ref m_stepDrops, .ref m_stepHour, .ref m_stepNext, .ref m_stepPass, .int 0, .int 0, .int 0, .ref m_bestPass, .ref m_far, .ref m_waited, .ref m_servers, .ref m_images, .ref m_isMade])), (m_tape, .inl (kA 1, 400, .inl (upd f8 (14 : Int32).toNatClampNeg (vp_nar .byte x11))))] := hD
  obtain ⟨f12, ef12⟩ : ∃ y : Nat → Int32, y = (upd f8 (14 : Int32).toNatClampNeg (vp_nar .byte x11)) := ⟨_, rfl⟩
  rw [← ef12] at hP hD
  refine lv_aload_n hx hb dX11_four_20 rfl (lv_at hl 1 rfl) ?_
  refine lv_dup hx hb dX11_four_21 rfl ?_
  refine va_get (D := (dC, dI)) (ci := 11) (v := .int 14) (C := RX11) (T := TX11) (N := 42) hx hb hts iX11_four_X11 hown hK.1 hP 0 rfl rfl 1 (by decide) (kX11_four_2 hts) (fun _ h9 => h9) rfl dX11_four_22 ?_
  refine lv_iconst (v := 1) hx hb dX11_four_25 (by decide) ?_
  refine lv_iadd hx hb dX11_four_26 ?_
  refine zi 15 (by decide) ?_
  refine va_put (D := (dC, dI)) (ci := 11) (v := .int 15) (ty := .int) (C := RX11) (T := TX11) (N := 42) hx hb hts iX11_four_X11 tyX11 tyX11_ok nmX11 hown hK.1 hP hD hS 0 rfl rfl 1 (by decide) (kX11_four_2 hts) (fun _ h9 => h9) rfl (by decide +kernel) rfl rfl (Nat.le_of_ble_eq_true rfl) dX11_four_27 (fun H locs hP hD hS => ?_)
  have hP : va_P (dC, dI) vwCl [(m0, .inr (11, [.ref m_tape, .int 15, .int 0, .ref m_sign, .ref m_length, .ref m_clause, .ref m_clauses, .ref m_chain, .int 0, .int 0, .int 0, .int 0, .int 0, .int 0, .int 0, .ref m_open, .int 0, .ref m_stack, .int 0, .ref m_word, .ref m_said, .ref m_kept, .int 0, .int 0, .int 0, .int 0, .int 0, .int 0, .ref m_stepNode, .ref m_stepDrops, .ref m_stepHour, .ref m_stepNext, .ref m_stepPass, .int 0, .int 0, .int 0, .ref m_bestPass, .ref m_far, .ref m_waited, .ref m_servers, .ref m_images, .ref m_isMade])), (m_tape, .inl (kA 1, 400, .inl f12))] H := hP
  have hD : va_D A [(m0, .inr (11, [.ref m_tape, .int 15, .int 0, .ref m_sign, .ref m_length, .ref m_clause, .ref m_clauses, .ref m_chain, .int 0, .int 0, .int 0, .int 0, .int 0, .int 0, .int 0, .ref m_open, .int 0, .ref m_stack, .int 0, .ref m_word, .ref m_said, .ref m_kept, .int 0, .int 0, .int 0, .int 0, .int 0, .int 0, .ref m_stepNode, .ref m_stepDrops, .ref m_stepHour, .ref m_stepNext, .ref m_stepPass, .int 0, .int 0, .int 0, .ref m_bestPass, .ref m_far, .ref m_waited, .ref m_servers, .ref m_images, .ref m_isMade])), (m_tape, .inl (kA 1, 400, .inl f12))] := hD
  refine lv_iinc (v := 0) (lv' := [(2, .int 0), (0, .ref m0), (1, .int v)]) hx hb dX11_four_30 hl (k := 0) rfl (by decide) (by decide) rfl (fun ls hl => ?_)
  refine lv_goto (tgt := 3) hx hb dX11_four_33 (by decide) ?_
  refine lv_iload_n hx hb dX11_four_3 rfl (lv_at hl 0 rfl) ?_
  refine lv_if_lt (tgt := 36) hx hb dX11_four_4 (by decide) (fun c_13 => absurd c_13 (by decide)) (fun _ => ?_)
  refine lv_aload_n hx hb dX11_four_7 rfl (lv_at hl 1 rfl) ?_
  refine va_get (D := (dC, dI)) (ci := 11) (v := .ref m_tape) (C := RX11) (T := TX11) (N := 42) hx hb hts iX11_four_X11 hown hK.1 hP 0 rfl rfl 0 (by decide) (kX11_four_1 hts) (fun _ h9 => h9) rfl dX11_four_8 ?_
  refine lv_aload_n hx hb dX11_four_11 rfl (lv_at hl 1 rfl) ?_
  refine va_get (D := (dC, dI)) (ci := 11) (v := .int 15) (C := RX11) (T := TX11) (N := 42) hx hb hts iX11_four_X11 hown hK.1 hP 0 rfl rfl 1 (by decide) (kX11_four_2 hts) (fun _ h9 => h9) rfl dX11_four_12 ?_
  refine lv_iload_n hx hb dX11_four_15 rfl (lv_at hl 2 rfl) ?_
  refine lv_iload_n hx hb dX11_four_16 rfl (lv_at hl 0 rfl) ?_
  refine lv_ishr hx hb dX11_four_17 ?_
  refine lv_topi (fun x14 ex14 => ?_)
  refine lv_i2b hx hb dX11_four_18 rfl ?_
  refine lv_topi (fun x15 ex15 => ?_)
  refine va_bast hx hb hK.1 hP hD hS 1 1 rfl rfl (vpd (by decide)) dX11_four_19 (fun H locs hP hD hS => ?_)
  have hP : va_P (dC, dI) vwCl [(m0, .inr (11, [.ref m_tape, .int 15, .int 0, .ref m_sign, .ref m_length, .ref m_clause, .ref m_clauses, .ref m_chain, .int 0, .int 0, .int 0, .int 0, .int 0, .int 0, .int 0, .ref m_open, .int 0, .ref m_stack, .int 0, .ref m_word, .ref m_said, .ref m_kept, .int 0, .int 0, .int 0, .int 0, .int 0, .int 0, .ref m_stepNode, .ref m_stepDrops, .ref m_stepHour, .ref m_stepNext, .ref m_stepPass, .int 0, .int 0, .int 0, .ref m_bestPass, .ref m_far, .ref m_waited, .ref m_servers, .ref m_images, .ref m_isMade])), (m_tape, .inl (kA 1, 400, .inl (upd f12 (15 : Int32).toNatClampNeg (vp_nar .byte x15))))] H := hP
  have hD : va_D A [(m0, .inr (11, [.ref m_tape, .int 15, .int 0, .ref m_sign, .ref m_length, .ref m_clause, .ref m_clauses, .ref m_chain, .int 0, .int 0, .int 0, .int 0, .int 0, .int 0, .int 0, .ref m_open, .int 0, .ref m_stack, .int 0, .ref m_word, .ref m_said, .ref m_kept, .int 0, .int 0, .int 0, .int 0, .int 0, .int 0, .ref m_stepNode, .ref m_stepDrops, .ref m_stepHour, .ref m_stepNext, .ref m_stepPass, .int 0, .int 0, .int 0, .ref m_bestPass, .ref m_far, .ref m_waited, .ref m_servers, .ref m_images, .ref m_isMade])), (m_tape, .inl (kA 1, 400, .inl (upd f12 (15 : Int32).toNatClampNeg (vp_nar .byte x15))))] := hD
  obtain ⟨f16, ef16⟩ : ∃ y : Nat → Int32, y = (upd f12 (15 : Int32).toNatClampNeg (vp_nar .byte x15)) := ⟨_, rfl⟩
  rw [← ef16] at hP hD
  refine lv_aload_n hx hb dX11_four_20 rfl (lv_at hl 1 rfl) ?_
  refine lv_dup hx hb dX11_four_21 rfl ?_
  refine va_get (D := (dC, dI)) (ci := 11) (v := .int 15) (C := RX11) (T := TX11) (N := 42) hx hb hts iX11_four_X11 hown hK.1 hP 0 rfl rfl 1 (by decide) (kX11_four_2 hts) (fun _ h9 => h9) rfl dX11_four_22 ?_
  refine lv_iconst (v := 1) hx hb dX11_four_25 (by decide) ?_
  refine lv_iadd hx hb dX11_four_26 ?_
  refine zi 16 (by decide) ?_
  refine va_put (D := (dC, dI)) (ci := 11) (v := .int 16) (ty := .int) (C := RX11) (T := TX11) (N := 42) hx hb hts iX11_four_X11 tyX11 tyX11_ok nmX11 hown hK.1 hP hD hS 0 rfl rfl 1 (by decide) (kX11_four_2 hts) (fun _ h9 => h9) rfl (by decide +kernel) rfl rfl (Nat.le_of_ble_eq_true rfl) dX11_four_27 (fun H locs hP hD hS => ?_)
  have hP : va_P (dC, dI) vwCl [(m0, .inr (11, [.ref m_tape, .int 16, .int 0, .ref m_sign, .ref m_length, .ref m_clause, .ref m_clauses, .ref m_chain, .int 0, .int 0, .int 0, .int 0, .int 0, .int 0, .int 0, .ref m_open, .int 0, .ref m_stack, .int 0, .ref m_word, .ref m_said, .ref m_kept, .int 0, .int 0, .int 0, .int 0, .int 0, .int 0, .ref m_stepNode, .ref m_stepDrops, .ref m_stepHour, .ref m_stepNext, .ref m_stepPass, .int 0, .int 0, .int 0, .ref m_bestPass, .ref m_far, .ref m_waited, .ref m_servers, .ref m_images, .ref m_isMade])), (m_tape, .inl (kA 1, 400, .inl f16))] H := hP
  have hD : va_D A [(m0, .inr (11, [.ref m_tape, .int 16, .int 0, .ref m_sign, .ref m_length, .ref m_clause, .ref m_clauses, .ref m_chain, .int 0, .int 0, .int 0, .int 0, .int 0, .int 0, .int 0, .ref m_open, .int 0, .ref m_stack, .int 0, .ref m_word, .ref m_said, .ref m_kept, .int 0, .int 0, .int 0, .int 0, .int 0, .int 0, .ref m_stepNode, .ref m_stepDrops, .ref m_stepHour, .ref m_stepNext, .ref m_stepPass, .int 0, .int 0, .int 0, .ref m_bestPass, .ref m_far, .ref m_waited, .ref m_servers, .ref m_images, .ref m_isMade])), (m_tape, .inl (kA 1, 400, .inl f16))] := hD
  refine lv_iinc (v := (-8)) (lv' := [(2, .int (-8)), (0, .ref m0), (1, .int v)]) hx hb dX11_four_30 hl (k := 0) rfl (by decide) (by decide) rfl (fun ls hl => ?_)
  refine lv_goto (tgt := 3) hx hb dX11_four_33 (by decide) ?_
  refine lv_iload_n hx hb dX11_four_3 rfl (lv_at hl 0 rfl) ?_
  refine lv_if_lt (tgt := 36) hx hb dX11_four_4 (by decide) (fun _ => ?_) (fun c_17 => absurd (by decide) c_17)
  have hP9 := hP.sub (ws' := [(m0, .inr (11, [.ref m_tape, .int 16, .int 0, .ref m_sign, .ref m_length, .ref m_clause, .ref m_clauses, .ref m_chain, .int 0, .int 0, .int 0, .int 0, .int 0, .int 0, .int 0, .ref m_open, .int 0, .ref m_stack, .int 0, .ref m_word, .ref m_said, .ref m_kept, .int 0, .int 0, .int 0, .int 0, .int 0, .int 0, .ref m_stepNode, .ref m_stepDrops, .ref m_stepHour, .ref m_stepNext, .ref m_stepPass, .int 0, .int 0, .int 0, .ref m_bestPass, .ref m_far, .ref m_waited, .ref m_servers, .ref m_images, .ref m_isMade])), (m_tape, .inl (kA 1, 400, .inl f16))]) [0, 1] rfl
  have hD9 := hD.sub (ws' := [(m0, .inr (11, [.ref m_tape, .int 16, .int 0, .ref m_sign, .ref m_length, .ref m_clause, .ref m_clauses, .ref m_chain, .int 0, .int 0, .int 0, .int 0, .int 0, .int 0, .int 0, .ref m_open, .int 0, .ref m_stack, .int 0, .ref m_word, .ref m_said, .ref m_kept, .int 0, .int 0, .int 0, .int 0, .int 0, .int 0, .ref m_stepNode, .ref m_stepDrops, .ref m_stepHour, .ref m_stepNext, .ref m_stepPass, .int 0, .int 0, .int 0, .ref m_bestPass, .ref m_far, .ref m_waited, .ref m_servers, .ref m_images, .ref m_isMade])), (m_tape, .inl (kA 1, 400, .inl f16))]) [0, 1] (by decide) rfl
  refine W.widen (k := 0) (n := 0) (Nat.le_of_ble_eq_true rfl) (Nat.le_of_ble_eq_true rfl) ?_
  exact W.vret hx hb hr (fun t ht hW => ⟨⟨(f16), rfl, trivial, by rw [ht]; exact hP9, hD9⟩, hS.F ht⟩) hS.2.2 dX11_four_36
set_option maxHeartbeats 4000000 in
set_option maxRecDepth 100000 in
theorem mX11_four_16 (l : Launch) (dC : Nat → ClassId) (dI : Nat → Nat → Nat) (kA : Nat → ClassId) (sz : Nat) (m0 : Nat) (m_tape : Nat) (m_sign : Nat) (m_length : Nat) (m_clause : Nat) (m_clauses : Nat) (m_chain : Nat) (m_open : Nat) (m_stack : Nat) (m_word : Nat) (m_said : Nat) (m_kept : Nat) (m_stepNode : Nat) (m_stepDrops : Nat) (m_stepHour : Nat) (m_stepNext : Nat) (m_stepPass : Nat) (m_bestPass : Nat) (m_far : Nat) (m_waited : Nat) (m_servers : Nat) (m_images : Nat) (m_isMade : Nat) (f : Nat → Int32) (v : Int32)  : Met l yX11_four wsX11_four ({ frames := 0, cells := 0, slots := 0, locals := 0 }) (zPc dC dI kA sz [.ref m0, .int v] [(m0, .inr (11, [.ref m_tape, .int 16, .int 0, .ref m_sign, .ref m_length, .ref m_clause, .ref m_clauses, .ref m_chain, .int 0, .int 0, .int 0, .int 0, .int 0, .int 0, .int 0, .ref m_open, .int 0, .ref m_stack, .int 0, .ref m_word, .ref m_said, .ref m_kept, .int 0, .int 0, .int 0, .int 0, .int 0, .int 0, .ref m_stepNode, .ref m_stepDrops, .ref m_stepHour, .ref m_stepNext, .ref m_stepPass, .int 0, .int 0, .int 0, .ref m_bestPass, .ref m_far, .ref m_waited, .ref m_servers, .ref m_images, .ref m_isMade])), (m_tape, .inl (kA 1, 400, .inl f))]) (va_Qv (fun (u : Nat → Int32) => True) (zB dC dI (va_A [(m0, .inr (11, [.ref m_tape, .int 16, .int 0, .ref m_sign, .ref m_length, .ref m_clause, .ref m_clauses, .ref m_chain, .int 0, .int 0, .int 0, .int 0, .int 0, .int 0, .int 0, .ref m_open, .int 0, .ref m_stack, .int 0, .ref m_word, .ref m_said, .ref m_kept, .int 0, .int 0, .int 0, .int 0, .int 0, .int 0, .ref m_stepNode, .ref m_stepDrops, .ref m_stepHour, .ref m_stepNext, .ref m_stepPass, .int 0, .int 0, .int 0, .ref m_bestPass, .ref m_far, .ref m_waited, .ref m_servers, .ref m_images, .ref m_isMade])), (m_tape, .inl (kA 1, 400, .inl f))] sz) (fun (u : Nat → Int32) => [(m0, .inr (11, [.ref m_tape, .int 20, .int 0, .ref m_sign, .ref m_length, .ref m_clause, .ref m_clauses, .ref m_chain, .int 0, .int 0, .int 0, .int 0, .int 0, .int 0, .int 0, .ref m_open, .int 0, .ref m_stack, .int 0, .ref m_word, .ref m_said, .ref m_kept, .int 0, .int 0, .int 0, .int 0, .int 0, .int 0, .ref m_stepNode, .ref m_stepDrops, .ref m_stepHour, .ref m_stepNext, .ref m_stepPass, .int 0, .int 0, .int 0, .ref m_bestPass, .ref m_far, .ref m_waited, .ref m_servers, .ref m_images, .ref m_isMade])), (m_tape, .inl (kA 1, 400, .inl u))])) (va_A [(m0, .inr (11, [.ref m_tape, .int 16, .int 0, .ref m_sign, .ref m_length, .ref m_clause, .ref m_clauses, .ref m_chain, .int 0, .int 0, .int 0, .int 0, .int 0, .int 0, .int 0, .ref m_open, .int 0, .ref m_stack, .int 0, .ref m_word, .ref m_said, .ref m_kept, .int 0, .int 0, .int 0, .int 0, .int 0, .int 0, .ref m_stepNode, .ref m_stepDrops, .ref m_stepHour, .ref m_stepNext, .ref m_stepPass, .int 0, .int 0, .int 0, .ref m_bestPass, .ref m_far, .ref m_waited, .ref m_servers, .ref m_images, .ref m_isMade])), (m_tape, .inl (kA 1, 400, .inl f))] sz)) 0 0 (va_A [(m0, .inr (11, [.ref m_tape, .int 16, .int 0, .ref m_sign, .ref m_length, .ref m_clause, .ref m_clauses, .ref m_chain, .int 0, .int 0, .int 0, .int 0, .int 0, .int 0, .int 0, .ref m_open, .int 0, .ref m_stack, .int 0, .ref m_word, .ref m_said, .ref m_kept, .int 0, .int 0, .int 0, .int 0, .int 0, .int 0, .ref m_stepNode, .ref m_stepDrops, .ref m_stepHour, .ref m_stepNext, .ref m_stepPass, .int 0, .int 0, .int 0, .ref m_bestPass, .ref m_far, .ref m_waited, .ref m_servers, .ref m_images, .ref m_isMade])), (m_tape, .inl (kA 1, 400, .inl f))] sz) := by
  refine Met.ofW (cc := cX11_four) (maxL := 3) (ret := none) (by decide) rfl ?_
  intro p e s m args below meth c s₁ B hml hv
  obtain ⟨rfl, hsz, hP, hK, hD0⟩ := hv
  have hx := B.exec
  have hb := B.bytes
  have hr := B.returns
  have hts := atoms_spec (ws := wsX11_four) B.pre
  have hown : s.vm.findClass RX11 = some m.cls := findClass_of_methodNamed B.named
  have hlocks := B.notSynchronized
  subst hsz
  have hD := hD0.self (sz := s.heap.size)
  generalize hAe : va_A [(m0, .inr (11, [.ref m_tape, .int 16, .int 0, .ref m_sign, .ref m_length, .ref m_clause, .ref m_clauses, .ref m_chain, .int 0, .int 0, .int 0, .int 0, .int 0, .int 0, .int 0, .ref m_open, .int 0, .ref m_stack, .int 0, .ref m_word, .ref m_said, .ref m_kept, .int 0, .int 0, .int 0, .int 0, .int 0, .int 0, .ref m_stepNode, .ref m_stepDrops, .ref m_stepHour, .ref m_stepNext, .ref m_stepPass, .int 0, .int 0, .int 0, .ref m_bestPass, .ref m_far, .ref m_waited, .ref m_servers, .ref m_images, .ref m_isMade])), (m_tape, .inl (kA 1, 400, .inl f))] s.heap.size = A at hD ⊢
  have hA : ∀ q : Nat, s.heap.size ≤ q → A q := fun q h => by rw [← hAe]; exact Or.inr h
  have hS : va_S A s.heap s.heap [] := va_S.rf
  have hP : va_P (dC, dI) vwCl [(m0, .inr (11, [.ref m_tape, .int 16, .int 0, .ref m_sign, .ref m_length, .ref m_clause, .ref m_clauses, .ref m_chain, .int 0, .int 0, .int 0, .int 0, .int 0, .int 0, .int 0, .ref m_open, .int 0, .ref m_stack, .int 0, .ref m_word, .ref m_said, .ref m_kept, .int 0, .int 0, .int 0, .int 0, .int 0, .int 0, .ref m_stepNode, .ref m_stepDrops, .ref m_stepHour, .ref m_stepNext, .ref m_stepPass, .int 0, .int 0, .int 0, .ref m_bestPass, .ref m_far, .ref m_waited, .ref m_servers, .ref m_images, .ref m_isMade])), (m_tape, .inl (kA 1, 400, .inl f))] s.heap := hP
  have hl := lv_entry ([.ref m0, .int v]) (n := 3) (Nat.le_of_ble_eq_true rfl)
  rw [lg_entry_eq]
  generalize (lg_sl ([.ref m0, .int v]) ++ List.replicate (3 - (lg_sl ([.ref m0, .int v])).length) Slot.unset).toArray = ls at hl ⊢
  have hl : lv_has ls 3 [(0, .ref m0), (1, .int v)] := hl
  refine lv_bipush (v := 24) hx hb dX11_four_0 (by decide) ?_
  refine lv_istore_n (lv' := [(2, .int 24), (0, .ref m0), (1, .int v)]) hx hb dX11_four_2 rfl hl (by decide) rfl (fun ls hl => ?_)
  refine lv_iload_n hx hb dX11_four_3 rfl (lv_at hl 0 rfl) ?_
  refine lv_if_lt (tgt := 36) hx hb dX11_four_4 (by decide) (fun c_1 => absurd c_1 (by decide)) (fun _ => ?_)
  refine lv_aload_n hx hb dX11_four_7 rfl (lv_at hl 1 rfl) ?_
  refine va_get (D := (dC, dI)) (ci := 11) (v := .ref m_tape) (C := RX11) (T := TX11) (N := 42) hx hb hts iX11_four_X11 hown hK.1 hP 0 rfl rfl 0 (by decide) (kX11_four_1 hts) (fun _ h9 => h9) rfl dX11_four_8 ?_
  refine lv_aload_n hx hb dX11_four_11 rfl (lv_at hl 1 rfl) ?_
  refine va_get (D := (dC, dI)) (ci := 11) (v := .int 16) (C := RX11) (T := TX11) (N := 42) hx hb hts iX11_four_X11 hown hK.1 hP 0 rfl rfl 1 (by decide) (kX11_four_2 hts) (fun _ h9 => h9) rfl dX11_four_12 ?_
  refine lv_iload_n hx hb dX11_four_15 rfl (lv_at hl 2 rfl) ?_
  refine lv_iload_n hx hb dX11_four_16 rfl (lv_at hl 0 rfl) ?_
  refine lv_ishr hx hb dX11_four_17 ?_
  refine lv_topi (fun x2 ex2 => ?_)
  refine lv_i2b hx hb dX11_four_18 rfl ?_
  refine lv_topi (fun x3 ex3 => ?_)
  refine va_bast hx hb hK.1 hP hD hS 1 1 rfl rfl (vpd (by decide)) dX11_four_19 (fun H locs hP hD hS => ?_)
  have hP : va_P (dC, dI) vwCl [(m0, .inr (11, [.ref m_tape, .int 16, .int 0, .ref m_sign, .ref m_length, .ref m_clause, .ref m_clauses, .ref m_chain, .int 0, .int 0, .int 0, .int 0, .int 0, .int 0, .int 0, .ref m_open, .int 0, .ref m_stack, .int 0, .ref m_word, .ref m_said, .ref m_kept, .int 0, .int 0, .int 0, .int 0, .int 0, .int 0, .ref m_stepNode, .ref m_stepDrops, .ref m_stepHour, .ref m_stepNext, .ref m_stepPass, .int 0, .int 0, .int 0, .ref m_bestPass, .ref m_far, .ref m_waited, .ref m_servers, .ref m_images, .ref m_isMade])), (m_tape, .inl (kA 1, 400, .inl (upd f (16 : Int32).toNatClampNeg (vp_nar .byte x3))))] H := hP
  have hD : va_D A [(m0, .inr (11, [.ref m_tape, .int 16, .int 0, .ref m_sign, .ref m_length, .ref m_clause, .ref m_clauses, .ref m_chain, .int 0, .int 0, .int 0, .int 0, .int 0, .int 0, .int 0, .ref m_open, .int 0, .ref m_stack, .int 0, .ref m_word, .ref m_said, .ref m_kept, .int 0, .int 0, .int 0, .int 0, .int 0, .int 0, .ref m_stepNode, .ref m_stepDrops, .ref m_stepHour, .ref m_stepNext, .ref m_stepPass, .int 0, .int 0, .int 0, .ref m_bestPass, .ref m_far, .ref m_waited, .ref m_servers, .ref m_images, .ref m_isMade])), (m_tape, .inl (kA 1, 400, .inl (upd f (16 : Int32).toNatClampNeg (vp_nar .byte x3))))] := hD
  obtain ⟨f4, ef4⟩ : ∃ y : Nat → Int32, y = (upd f (16 : Int32).toNatClampNeg (vp_nar .byte x3)) := ⟨_, rfl⟩
  rw [← ef4] at hP hD
  refine lv_aload_n hx hb dX11_four_20 rfl (lv_at hl 1 rfl) ?_
  refine lv_dup hx hb dX11_four_21 rfl ?_
  refine va_get (D := (dC, dI)) (ci := 11) (v := .int 16) (C := RX11) (T := TX11) (N := 42) hx hb hts iX11_four_X11 hown hK.1 hP 0 rfl rfl 1 (by decide) (kX11_four_2 hts) (fun _ h9 => h9) rfl dX11_four_22 ?_
  refine lv_iconst (v := 1) hx hb dX11_four_25 (by decide) ?_
  refine lv_iadd hx hb dX11_four_26 ?_
  refine zi 17 (by decide) ?_
  refine va_put (D := (dC, dI)) (ci := 11) (v := .int 17) (ty := .int) (C := RX11) (T := TX11) (N := 42) hx hb hts iX11_four_X11 tyX11 tyX11_ok nmX11 hown hK.1 hP hD hS 0 rfl rfl 1 (by decide) (kX11_four_2 hts) (fun _ h9 => h9) rfl (by decide +kernel) rfl rfl (Nat.le_of_ble_eq_true rfl) dX11_four_27 (fun H locs hP hD hS => ?_)
  have hP : va_P (dC, dI) vwCl [(m0, .inr (11, [.ref m_tape, .int 17, .int 0, .ref m_sign, .ref m_length, .ref m_clause, .ref m_clauses, .ref m_chain, .int 0, .int 0, .int 0, .int 0, .int 0, .int 0, .int 0, .ref m_open, .int 0, .ref m_stack, .int 0, .ref m_word, .ref m_said, .ref m_kept, .int 0, .int 0, .int 0, .int 0, .int 0, .int 0, .ref m_stepNode, .ref m_stepDrops, .ref m_stepHour, .ref m_stepNext, .ref m_stepPass, .int 0, .int 0, .int 0, .ref m_bestPass, .ref m_far, .ref m_waited, .ref m_servers, .ref m_images, .ref m_isMade])), (m_tape, .inl (kA 1, 400, .inl f4))] H := hP
  have hD : va_D A [(m0, .inr (11, [.ref m_tape, .int 17, .int 0, .ref m_sign, .ref m_length, .ref m_clause, .ref m_clauses, .ref m_chain, .int 0, .int 0, .int 0, .int 0, .int 0, .int 0, .int 0, .ref m_open, .int 0, .ref m_stack, .int 0, .ref m_word, .ref m_said, .ref m_kept, .int 0, .int 0, .int 0, .int 0, .int 0, .int 0, .ref m_stepNode, .ref m_stepDrops, .ref m_stepHour, .ref m_stepNext, .ref m_stepPass, .int 0, .int 0, .int 0, .ref m_bestPass, .ref m_far, .ref m_waited, .ref m_servers, .ref m_images, .ref m_isMade])), (m_tape, .inl (kA 1, 400, .inl f4))] := hD
  refine lv_iinc (v := 16) (lv' := [(2, .int 16), (0, .ref m0), (1, .int v)]) hx hb dX11_four_30 hl (k := 0) rfl (by decide) (by decide) rfl (fun ls hl => ?_)
  refine lv_goto (tgt := 3) hx hb dX11_four_33 (by decide) ?_
  refine lv_iload_n hx hb dX11_four_3 rfl (lv_at hl 0 rfl) ?_
  refine lv_if_lt (tgt := 36) hx hb dX11_four_4 (by decide) (fun c_5 => absurd c_5 (by decide)) (fun _ => ?_)
  refine lv_aload_n hx hb dX11_four_7 rfl (lv_at hl 1 rfl) ?_
  refine va_get (D := (dC, dI)) (ci := 11) (v := .ref m_tape) (C := RX11) (T := TX11) (N := 42) hx hb hts iX11_four_X11 hown hK.1 hP 0 rfl rfl 0 (by decide) (kX11_four_1 hts) (fun _ h9 => h9) rfl dX11_four_8 ?_
  refine lv_aload_n hx hb dX11_four_11 rfl (lv_at hl 1 rfl) ?_
  refine va_get (D := (dC, dI)) (ci := 11) (v := .int 17) (C := RX11) (T := TX11) (N := 42) hx hb hts iX11_four_X11 hown hK.1 hP 0 rfl rfl 1 (by decide) (kX11_four_2 hts) (fun _ h9 => h9) rfl dX11_four_12 ?_
  refine lv_iload_n hx hb dX11_four_15 rfl (lv_at hl 2 rfl) ?_
  refine lv_iload_n hx hb dX11_four_16 rfl (lv_at hl 0 rfl) ?_
  refine lv_ishr hx hb dX11_four_17 ?_
  refine lv_topi (fun x6 ex6 => ?_)
  refine lv_i2b hx hb dX11_four_18 rfl ?_
  refine lv_topi (fun x7 ex7 => ?_)
  refine va_bast hx hb hK.1 hP hD hS 1 1 rfl rfl (vpd (by decide)) dX11_four_19 (fun H locs hP hD hS => ?_)
  have hP : va_P (dC, dI) vwCl [(m0, .inr (11, [.ref m_tape, .int 17, .int 0, .ref m_sign, .ref m_length, .ref m_clause, .ref m_clauses, .ref m_chain, .int 0, .int 0, .int 0, .int 0, .int 0, .int 0, .int 0, .ref m_open, .int 0, .ref m_stack, .int 0, .ref m_word, .ref m_said, .ref m_kept, .int 0, .int 0, .int 0, .int 0, .int 0, .int 0, .ref m_stepNode, .ref m_stepDrops, .ref m_stepHour, .ref m_stepNext, .ref m_stepPass, .int 0, .int 0, .int 0, .ref m_bestPass, .ref m_far, .ref m_waited, .ref m_servers, .ref m_images, .ref m_isMade])), (m_tape, .inl (kA 1, 400, .inl (upd f4 (17 : Int32).toNatClampNeg (vp_nar .byte x7))))] H := hP
  have hD : va_D A [(m0, .inr (11, [.ref m_tape, .int 17, .int 0, .ref m_sign, .ref m_length, .ref m_clause, .ref m_clauses, .ref m_chain, .int 0, .int 0, .int 0, .int 0, .int 0, .int 0, .int 0, .ref m_open, .int 0, .ref m_stack, .int 0, .ref m_word, .ref m_said, .ref m_kept, .int 0, .int 0, .int 0, .int 0, .int 0, .int 0, .ref m_stepNode, .ref m_stepDrops, .ref m_stepHour, .ref m_stepNext, .ref m_stepPass, .int 0, .int 0, .int 0, .ref m_bestPass, .ref m_far, .ref m_waited, .ref m_servers, .ref m_images, .ref m_isMade])), (m_tape, .inl (kA 1, 400, .inl (upd f4 (17 : Int32).toNatClampNeg (vp_nar .byte x7))))] := hD
  obtain ⟨f8, ef8⟩ : ∃ y : Nat → Int32, y = (upd f4 (17 : Int32).toNatClampNeg (vp_nar .byte x7)) := ⟨_, rfl⟩
  rw [← ef8] at hP hD
  refine lv_aload_n hx hb dX11_four_20 rfl (lv_at hl 1 rfl) ?_
  refine lv_dup hx hb dX11_four_21 rfl ?_
  refine va_get (D := (dC, dI)) (ci := 11) (v := .int 17) (C := RX11) (T := TX11) (N := 42) hx hb hts iX11_four_X11 hown hK.1 hP 0 rfl rfl 1 (by decide) (kX11_four_2 hts) (fun _ h9 => h9) rfl dX11_four_22 ?_
  refine lv_iconst (v := 1) hx hb dX11_four_25 (by decide) ?_
  refine lv_iadd hx hb dX11_four_26 ?_
  refine zi 18 (by decide) ?_
  refine va_put (D := (dC, dI)) (ci := 11) (v := .int 18) (ty := .int) (C := RX11) (T := TX11) (N := 42) hx hb hts iX11_four_X11 tyX11 tyX11_ok nmX11 hown hK.1 hP hD hS 0 rfl rfl 1 (by decide) (kX11_four_2 hts) (fun _ h9 => h9) rfl (by decide +kernel) rfl rfl (Nat.le_of_ble_eq_true rfl) dX11_four_27 (fun H locs hP hD hS => ?_)
  have hP : va_P (dC, dI) vwCl [(m0, .inr (11, [.ref m_tape, .int 18, .int 0, .ref m_sign, .ref m_length, .ref m_clause, .ref m_clauses, .ref m_chain, .int 0, .int 0, .int 0, .int 0, .int 0, .int 0, .int 0, .ref m_open, .int 0, .ref m_stack, .int 0, .ref m_word, .ref m_said, .ref m_kept, .int 0, .int 0, .int 0, .int 0, .int 0, .int 0, .ref m_stepNode, .ref m_stepDrops, .ref m_stepHour, .ref m_stepNext, .ref m_stepPass, .int 0, .int 0, .int 0, .ref m_bestPass, .ref m_far, .ref m_waited, .ref m_servers, .ref m_images, .ref m_isMade])), (m_tape, .inl (kA 1, 400, .inl f8))] H := hP
  have hD : va_D A [(m0, .inr (11, [.ref m_tape, .int 18, .int 0, .ref m_sign, .ref m_length, .ref m_clause, .ref m_clauses, .ref m_chain, .int 0, .int 0, .int 0, .int 0, .int 0, .int 0, .int 0, .ref m_open, .int 0, .ref m_stack, .int 0, .ref m_word, .ref m_said, .ref m_kept, .int 0, .int 0, .int 0, .int 0, .int 0, .int 0, .ref m_stepNode, .ref m_stepDrops, .ref m_stepHour, .ref m_stepNext, .ref m_stepPass, .int 0, .int 0, .int 0, .ref m_bestPass, .ref m_far, .ref m_waited, .ref m_servers, .ref m_images, .ref m_isMade])), (m_tape, .inl (kA 1, 400, .inl f8))] := hD
  refine lv_iinc (v := 8) (lv' := [(2, .int 8), (0, .ref m0), (1, .int v)]) hx hb dX11_four_30 hl (k := 0) rfl (by decide) (by decide) rfl (fun ls hl => ?_)
  refine lv_goto (tgt := 3) hx hb dX11_four_33 (by decide) ?_
  refine lv_iload_n hx hb dX11_four_3 rfl (lv_at hl 0 rfl) ?_
  refine lv_if_lt (tgt := 36) hx hb dX11_four_4 (by decide) (fun c_9 => absurd c_9 (by decide)) (fun _ => ?_)
  refine lv_aload_n hx hb dX11_four_7 rfl (lv_at hl 1 rfl) ?_
  refine va_get (D := (dC, dI)) (ci := 11) (v := .ref m_tape) (C := RX11) (T := TX11) (N := 42) hx hb hts iX11_four_X11 hown hK.1 hP 0 rfl rfl 0 (by decide) (kX11_four_1 hts) (fun _ h9 => h9) rfl dX11_four_8 ?_
  refine lv_aload_n hx hb dX11_four_11 rfl (lv_at hl 1 rfl) ?_
  refine va_get (D := (dC, dI)) (ci := 11) (v := .int 18) (C := RX11) (T := TX11) (N := 42) hx hb hts iX11_four_X11 hown hK.1 hP 0 rfl rfl 1 (by decide) (kX11_four_2 hts) (fun _ h9 => h9) rfl dX11_four_12 ?_
  refine lv_iload_n hx hb dX11_four_15 rfl (lv_at hl 2 rfl) ?_
  refine lv_iload_n hx hb dX11_four_16 rfl (lv_at hl 0 rfl) ?_
  refine lv_ishr hx hb dX11_four_17 ?_
  refine lv_topi (fun x10 ex10 => ?_)
  refine lv_i2b hx hb dX11_four_18 rfl ?_
  refine lv_topi (fun x11 ex11 => ?_)
  refine va_bast hx hb hK.1 hP hD hS 1 1 rfl rfl (vpd (by decide)) dX11_four_19 (fun H locs hP hD hS => ?_)
  have hP : va_P (dC, dI) vwCl [(m0, .inr (11, [.ref m_tape, .int 18, .int 0, .ref m_sign, .ref m_length, .ref m_clause, .ref m_clauses, .ref m_chain, .int 0, .int 0, .int 0, .int 0, .int 0, .int 0, .int 0, .ref m_open, .int 0, .ref m_stack, .int 0, .ref m_word, .ref m_said, .ref m_kept, .int 0, .int 0, .int 0, .int 0, .int 0, .int 0, .ref m_stepNode, .ref m_stepDrops, .ref m_stepHour, .ref m_stepNext, .ref m_stepPass, .int 0, .int 0, .int 0, .ref m_bestPass, .ref m_far, .ref m_waited, .ref m_servers, .ref m_images, .ref m_isMade])), (m_tape, .inl (kA 1, 400, .inl (upd f8 (18 : Int32).toNatClampNeg (vp_nar .byte x11))))] H := hP
  have hD : va_D A [(m0, .inr (11, [.ref m_tape, .int 18, .int 0, .ref m_sign, .ref m_length, .ref m_clause, .ref m_clauses, .ref m_chain, .int 0, .int 0, .int 0, .int 0, .int 0, .int 0, .int 0, .ref m_open, .int 0, .ref m_stack, .int 0, .ref m_word, .ref m_said, .ref m_kept, .int 0, .int 0, .int 0, .int 0, .int 0, .int 0, .ref m_stepNode, .ref m_stepDrops, .ref m_stepHour, .ref m_stepNext, .ref m_stepPass, .int 0, .int 0, .int 0, .ref m_bestPass, .ref m_far, .ref m_waited, .ref m_servers, .ref m_images, .ref m_isMade])), (m_tape, .inl (kA 1, 400, .inl (upd f8 (18 : Int32).toNatClampNeg (vp_nar .byte x11))))] := hD
  obtain ⟨f12, ef12⟩ : ∃ y : Nat → Int32, y = (upd f8 (18 : Int32).toNatClampNeg (vp_nar .byte x11)) := ⟨_, rfl⟩
  rw [← ef12] at hP hD
  refine lv_aload_n hx hb dX11_four_20 rfl (lv_at hl 1 rfl) ?_
  refine lv_dup hx hb dX11_four_21 rfl ?_
  refine va_get (D := (dC, dI)) (ci := 11) (v := .int 18) (C := RX11) (T := TX11) (N := 42) hx hb hts iX11_four_X11 hown hK.1 hP 0 rfl rfl 1 (by decide) (kX11_four_2 hts) (fun _ h9 => h9) rfl dX11_four_22 ?_
  refine lv_iconst (v := 1) hx hb dX11_four_25 (by decide) ?_
  refine lv_iadd hx hb dX11_four_26 ?_
  refine zi 19 (by decide) ?_
  refine va_put (D := (dC, dI)) (ci := 11) (v := .int 19) (ty := .int) (C := RX11) (T := TX11) (N := 42) hx hb hts iX11_four_X11 tyX11 tyX11_ok nmX11 hown hK.1 hP hD hS 0 rfl rfl 1 (by decide) (kX11_four_2 hts) (fun _ h9 => h9) rfl (by decide +kernel) rfl rfl (Nat.le_of_ble_eq_true rfl) dX11_four_27 (fun H locs hP hD hS => ?_)
  have hP : va_P (dC, dI) vwCl [(m0, .inr (11, [.ref m_tape, .int 19, .int 0, .ref m_sign, .ref m_length, .ref m_clause, .ref m_clauses, .ref m_chain, .int 0, .int 0, .int 0, .int 0, .int 0, .int 0, .int 0, .ref m_open, .int 0, .ref m_stack, .int 0, .ref m_word, .ref m_said, .ref m_kept, .int 0, .int 0, .int 0, .int 0, .int 0, .int 0, .ref m_stepNode, .ref m_stepDrops, .ref m_stepHour, .ref m_stepNext, .ref m_stepPass, .int 0, .int 0, .int 0, .ref m_bestPass, .ref m_far, .ref m_waited, .ref m_servers, .ref m_images, .ref m_isMade])), (m_tape, .inl (kA 1, 400, .inl f12))] H := hP
  have hD : va_D A [(m0, .inr (11, [.ref m_tape, .int 19, .int 0, .ref m_sign, .ref m_length, .ref m_clause, .ref m_clauses, .ref m_chain, .int 0, .int 0, .int 0, .int 0, .int 0, .int 0, .int 0, .ref m_open, .int 0, .ref m_stack, .int 0, .ref m_word, .ref m_said, .ref m_kept, .int 0, .int 0, .int 0, .int 0, .int 0, .int 0, .ref m_stepNode, .ref m_stepDrops, .ref m_stepHour, .ref m_stepNext, .ref m_stepPass, .int 0, .int 0, .int 0, .ref m_bestPass, .ref m_far, .ref m_waited, .ref m_servers, .ref m_images, .ref m_isMade])), (m_tape, .inl (kA 1, 400, .inl f12))] := hD
  refine lv_iinc (v := 0) (lv' := [(2, .int 0), (0, .ref m0), (1, .int v)]) hx hb dX11_four_30 hl (k := 0) rfl (by decide) (by decide) rfl (fun ls hl => ?_)
  refine lv_goto (tgt := 3) hx hb dX11_four_33 (by decide) ?_
  refine lv_iload_n hx hb dX11_four_3 rfl (lv_at hl 0 rfl) ?_
  refine lv_if_lt (tgt := 36) hx hb dX11_four_4 (by decide) (fun c_13 => absurd c_13 (by decide)) (fun _ => ?_)
  refine lv_aload_n hx hb dX11_four_7 rfl (lv_at hl 1 rfl) ?_
  refine va_get (D := (dC, dI)) (ci := 11) (v := .ref m_tape) (C := RX11) (T := TX11) (N := 42) hx hb hts iX11_four_X11 hown hK.1 hP 0 rfl rfl 0 (by decide) (kX11_four_1 hts) (fun _ h9 => h9) rfl dX11_four_8 ?_
  refine lv_aload_n hx hb dX11_four_11 rfl (lv_at hl 1 rfl) ?_
  refine va_get (D := (dC, dI)) (ci := 11) (v := .int 19) (C := RX11) (T := TX11) (N := 42) hx hb hts iX11_four_X11 hown hK.1 hP 0 rfl rfl 1 (by decide) (kX11_four_2 hts) (fun _ h9 => h9) rfl dX11_four_12 ?_
  refine lv_iload_n hx hb dX11_four_15 rfl (lv_at hl 2 rfl) ?_
  refine lv_iload_n hx hb dX11_four_16 rfl (lv_at hl 0 rfl) ?_
  refine lv_ishr hx hb dX11_four_17 ?_
  refine lv_topi (fun x14 ex14 => ?_)
  refine lv_i2b hx hb dX11_four_18 rfl ?_
  refine lv_topi (fun x15 ex15 => ?_)
  refine va_bast hx hb hK.1 hP hD hS 1 1 rfl rfl (vpd (by decide)) dX11_four_19 (fun H locs hP hD hS => ?_)
  have hP : va_P (dC, dI) vwCl [(m0, .inr (11, [.ref m_tape, .int 19, .int 0, .ref m_sign, .ref m_length, .ref m_clause, .ref m_clauses, .ref m_chain, .int 0, .int 0, .int 0, .int 0, .int 0, .int 0, .int 0, .ref m_open, .int 0, .ref m_stack, .int 0, .ref m_word, .ref m_said, .ref m_kept, .int 0, .int 0, .int 0, .int 0, .int 0, .int 0, .ref m_stepNode, .ref m_stepDrops, .ref m_stepHour, .ref m_stepNext, .ref m_stepPass, .int 0, .int 0, .int 0, .ref m_bestPass, .ref m_far, .ref m_waited, .ref m_servers, .ref m_images, .ref m_isMade])), (m_tape, .inl (kA 1, 400, .inl (upd f12 (19 : Int32).toNatClampNeg (vp_nar .byte x15))))] H := hP
  have hD : va_D A [(m0, .inr (11, [.ref m_tape, .int 19, .int 0, .ref m_sign, .ref m_length, .ref m_clause, .ref m_clauses, .ref m_chain, .int 0, .int 0, .int 0, .int 0, .int 0, .int 0, .int 0, .ref m_open, .int 0, .ref m_stack, .int 0, .ref m_word, .ref m_said, .ref m_kept, .int 0, .int 0, .int 0, .int 0, .int 0, .int 0, .ref m_stepNode, .ref m_stepDrops, .ref m_stepHour, .ref m_stepNext, .ref m_stepPass, .int 0, .int 0, .int 0, .ref m_bestPass, .ref m_far, .ref m_waited, .ref m_servers, .ref m_images, .ref m_isMade])), (m_tape, .inl (kA 1, 400, .inl (upd f12 (19 : Int32).toNatClampNeg (vp_nar .byte x15))))] := hD
  obtain ⟨f16, ef16⟩ : ∃ y : Nat → Int32, y = (upd f12 (19 : Int32).toNatClampNeg (vp_nar .byte x15)) := ⟨_, rfl⟩
  rw [← ef16] at hP hD
  refine lv_aload_n hx hb dX11_four_20 rfl (lv_at hl 1 rfl) ?_
  refine lv_dup hx hb dX11_four_21 rfl ?_
  refine va_get (D := (dC, dI)) (ci := 11) (v := .int 19) (C := RX11) (T := TX11) (N := 42) hx hb hts iX11_four_X11 hown hK.1 hP 0 rfl rfl 1 (by decide) (kX11_four_2 hts) (fun _ h9 => h9) rfl dX11_four_22 ?_
  refine lv_iconst (v := 1) hx hb dX11_four_25 (by decide) ?_
  refine lv_iadd hx hb dX11_four_26 ?_
  refine zi 20 (by decide) ?_
  refine va_put (D := (dC, dI)) (ci := 11) (v := .int 20) (ty := .int) (C := RX11) (T := TX11) (N := 42) hx hb hts iX11_four_X11 tyX11 tyX11_ok nmX11 hown hK.1 hP hD hS 0 rfl rfl 1 (by decide) (kX11_four_2 hts) (fun _ h9 => h9) rfl (by decide +kernel) rfl rfl (Nat.le_of_ble_eq_true rfl) dX11_four_27 (fun H locs hP hD hS => ?_)
  have hP : va_P (dC, dI) vwCl [(m0, .inr (11, [.ref m_tape, .int 20, .int 0, .ref m_sign, .ref m_length, .ref m_clause, .ref m_clauses, .ref m_chain, .int 0, .int 0, .int 0, .int 0, .int 0, .int 0, .int 0, .ref m_open, .int 0, .ref m_stack, .int 0, .ref m_word, .ref m_said, .ref m_kept, .int 0, .int 0, .int 0, .int 0, .int 0, .int 0, .ref m_stepNode, .ref m_stepDrops, .ref m_stepHour, .ref m_stepNext, .ref m_stepPass, .int 0, .int 0, .int 0, .ref m_bestPass, .ref m_far, .ref m_waited, .ref m_servers, .ref m_images, .ref m_isMade])), (m_tape, .inl (kA 1, 400, .inl f16))] H := hP
  have hD : va_D A [(m0, .inr (11, [.ref m_tape, .int 20, .int 0, .ref m_sign, .ref m_length, .ref m_clause, .ref m_clauses, .ref m_chain, .int 0, .int 0, .int 0, .int 0, .int 0, .int 0, .int 0, .ref m_open, .int 0, .ref m_stack, .int 0, .ref m_word, .ref m_said, .ref m_kept, .int 0, .int 0, .int 0, .int 0, .int 0, .int 0, .ref m_stepNode, .ref m_stepDrops, .ref m_stepHour, .ref m_stepNext, .ref m_stepPass, .int 0, .int 0, .int 0, .ref m_bestPass, .ref m_far, .ref m_waited, .ref m_servers, .ref m_images, .ref m_isMade])), (m_tape, .inl (kA 1, 400, .inl f16))] := hD
  refine lv_iinc (v := (-8)) (lv' := [(2, .int (-8)), (0, .ref m0), (1, .int v)]) hx hb dX11_four_30 hl (k := 0) rfl (by decide) (by decide) rfl (fun ls hl => ?_)
  refine lv_goto (tgt := 3) hx hb dX11_four_33 (by decide) ?_
  refine lv_iload_n hx hb dX11_four_3 rfl (lv_at hl 0 rfl) ?_
  refine lv_if_lt (tgt := 36) hx hb dX11_four_4 (by decide) (fun _ => ?_) (fun c_17 => absurd (by decide) c_17)
  have hP9 := hP.sub (ws' := [(m0, .inr (11, [.ref m_tape, .int 20, .int 0, .ref m_sign, .ref m_length, .ref m_clause, .ref m_clauses, .ref m_chain, .int 0, .int 0, .int 0, .int 0, .int 0, .int 0, .int 0, .ref m_open, .int 0, .ref m_stack, .int 0, .ref m_word, .ref m_said, .ref m_kept, .int 0, .int 0, .int 0, .int 0, .int 0, .int 0, .ref m_stepNode, .ref m_stepDrops, .ref m_stepHour, .ref m_stepNext, .ref m_stepPass, .int 0, .int 0, .int 0, .ref m_bestPass, .ref m_far, .ref m_waited, .ref m_servers, .ref m_images, .ref m_isMade])), (m_tape, .inl (kA 1, 400, .inl f16))]) [0, 1] rfl
  have hD9 := hD.sub (ws' := [(m0, .inr (11, [.ref m_tape, .int 20, .int 0, .ref m_sign, .ref m_length, .ref m_clause, .ref m_clauses, .ref m_chain, .int 0, .int 0, .int 0, .int 0, .int 0, .int 0, .int 0, .ref m_open, .int 0, .ref m_stack, .int 0, .ref m_word, .ref m_said, .ref m_kept, .int 0, .int 0, .int 0, .int 0, .int 0, .int 0, .ref m_stepNode, .ref m_stepDrops, .ref m_stepHour, .ref m_stepNext, .ref m_stepPass, .int 0, .int 0, .int 0, .ref m_bestPass, .ref m_far, .ref m_waited, .ref m_servers, .ref m_images, .ref m_isMade])), (m_tape, .inl (kA 1, 400, .inl f16))]) [0, 1] (by decide) rfl
  refine W.widen (k := 0) (n := 0) (Nat.le_of_ble_eq_true rfl) (Nat.le_of_ble_eq_true rfl) ?_
  exact W.vret hx hb hr (fun t ht hW => ⟨⟨(f16), rfl, trivial, by rw [ht]; exact hP9, hD9⟩, hS.F ht⟩) hS.2.2 dX11_four_36
