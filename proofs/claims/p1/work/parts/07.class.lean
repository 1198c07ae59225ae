set_option maxHeartbeats 4000000 in
set_option maxRecDepth 100000 in
theorem mX10_within (l : Launch) (dC : Nat → ClassId) (dI : Nat → Nat → Nat) (kA : Nat → ClassId) (sz : Nat) (n : Int32) (most : Int32)  : Met l yX10_within wsX10_within ({ frames := 0, cells := 0, slots := 0, locals := 0 }) (zPc dC dI kA sz [.int n, .int most] []) (va_Qi (fun (r : Int32) (u : Unit) => r = (wi n most)) (zB dC dI (va_A [] sz) (fun (u : Unit) => [])) (va_A [] sz)) 0 0 (va_A [] sz) := by
  refine Met.ofW (cc := cX10_within) (maxL := 2) (ret := (some .boolean)) (by decide) rfl ?_
  intro p e s m args below meth c s₁ B hml hv
  obtain ⟨rfl, hsz, hP, hK, hD0⟩ := hv
  have hx := B.exec
  have hb := B.bytes
  have hr := B.returns
  have hts := atoms_spec (ws := wsX10_within) B.pre
  have hown : s.vm.findClass RX10 = some m.cls := findClass_of_methodNamed B.named
  have hlocks := B.notSynchronized
  subst hsz
  have hD := hD0.self (sz := s.heap.size)
  generalize hAe : va_A [] s.heap.size = A at hD ⊢
  have hA : ∀ q : Nat, s.heap.size ≤ q → A q := fun q h => by rw [← hAe]; exact Or.inr h
  have hS : va_S A s.heap s.heap [] := va_S.rf
  have hP : va_P (dC, dI) vwCl [] s.heap := hP
  have hl := lv_entry ([.int n, .int most]) (n := 2) (Nat.le_of_ble_eq_true rfl)
  rw [lg_entry_eq]
  generalize (lg_sl ([.int n, .int most]) ++ List.replicate (2 - (lg_sl ([.int n, .int most])).length) Slot.unset).toArray = ls at hl ⊢
  have hl : lv_has ls 2 [(0, .int n), (1, .int most)] := hl
  refine lv_iload_n hx hb dX10_within_0 rfl (lv_at hl 0 rfl) ?_
  refine lv_if_lt (tgt := 13) hx hb dX10_within_1 (by decide) (fun c_1 => ?_) (fun c_1 => ?_)
  · refine lv_iconst (v := 0) hx hb dX10_within_13 (by decide) ?_
    have hP9 := hP.sub (ws' := []) [] rfl
    have hD9 := hD.sub (ws' := []) [] (by decide) rfl
    refine W.widen (k := 0) (n := 0) (Nat.le_of_ble_eq_true rfl) (Nat.le_of_ble_eq_true rfl) ?_
    exact W.zret (v := 0) hx hb hr rfl (fun t ht hW => ⟨⟨0, (), rfl, (by simp [wi, c_1]), by rw [ht]; exact hP9, hD9⟩, hS.F ht⟩) hS.2.2 dX10_within_14
  · refine lv_iload_n hx hb dX10_within_4 rfl (lv_at hl 0 rfl) ?_
    refine lv_iload_n hx hb dX10_within_5 rfl (lv_at hl 1 rfl) ?_
    refine lv_icmp_gt (tgt := 13) hx hb dX10_within_6 (by decide) (fun c_2 => ?_) (fun c_2 => ?_)
    · refine lv_iconst (v := 0) hx hb dX10_within_13 (by decide) ?_
      have hP9 := hP.sub (ws' := []) [] rfl
      have hD9 := hD.sub (ws' := []) [] (by decide) rfl
      refine W.widen (k := 0) (n := 0) (Nat.le_of_ble_eq_true rfl) (Nat.le_of_ble_eq_true rfl) ?_
      exact W.zret (v := 0) hx hb hr rfl (fun t ht hW => ⟨⟨0, (), rfl, (by simp [wi, c_1, c_2]), by rw [ht]; exact hP9, hD9⟩, hS.F ht⟩) hS.2.2 dX10_within_14
    · refine lv_iconst (v := 1) hx hb dX10_within_9 (by decide) ?_
      refine lv_goto (tgt := 14) hx hb dX10_within_10 (by decide) ?_
      have hP9 := hP.sub (ws' := []) [] rfl
      have hD9 := hD.sub (ws' := []) [] (by decide) rfl
      refine W.widen (k := 0) (n := 0) (Nat.le_of_ble_eq_true rfl) (Nat.le_of_ble_eq_true rfl) ?_
      exact W.zret (v := 1) hx hb hr rfl (fun t ht hW => ⟨⟨1, (), rfl, (by simp [wi, c_1, c_2]), by rw [ht]; exact hP9, hD9⟩, hS.F ht⟩) hS.2.2 dX10_within_14
set_option maxHeartbeats 4000000 in
set_option maxRecDepth 100000 in
theorem mX6_has (l : Launch) (dC : Nat → ClassId) (dI : Nat → Nat → Nat) (kA : Nat → ClassId) (sz : Nat) (a0 : Nat) (a1 : Nat) (w : Int32) (n : Int32)  : Met l yX6_has wsX6_has ({ frames := 0, cells := 0, slots := 0, locals := 0 }) (zPc dC dI kA sz [.ref a0, .int n] [(a0, .inr (6, [.int w, .ref a1, .int 0]))]) (va_Qi (fun (r : Int32) (u : Unit) => r = 0) (zB dC dI (va_A [(a0, .inr (6, [.int w, .ref a1, .int 0]))] sz) (fun (u : Unit) => [(a0, .inr (6, [.int w, .ref a1, .int 0]))])) (va_A [(a0, .inr (6, [.int w, .ref a1, .int 0]))] sz)) 0 0 (va_A [(a0, .inr (6, [.int w, .ref a1, .int 0]))] sz) := by
  refine Met.ofW (cc := cX6_has) (maxL := 2) (ret := (some .boolean)) (by decide) rfl ?_
  intro p e s m args below meth c s₁ B hml hv
  obtain ⟨rfl, hsz, hP, hK, hD0⟩ := hv
  have hx := B.exec
  have hb := B.bytes
  have hr := B.returns
  have hts := atoms_spec (ws := wsX6_has) B.pre
  have hown : s.vm.findClass RX6 = some m.cls := findClass_of_methodNamed B.named
  have hlocks := B.notSynchronized
  subst hsz
  have hD := hD0.self (sz := s.heap.size)
  generalize hAe : va_A [(a0, .inr (6, [.int w, .ref a1, .int 0]))] s.heap.size = A at hD ⊢
  have hA : ∀ q : Nat, s.heap.size ≤ q → A q := fun q h => by rw [← hAe]; exact Or.inr h
  have hS : va_S A s.heap s.heap [] := va_S.rf
  have hP : va_P (dC, dI) vwCl [(a0, .inr (6, [.int w, .ref a1, .int 0]))] s.heap := hP
  have hl := lv_entry ([.ref a0, .int n]) (n := 2) (Nat.le_of_ble_eq_true rfl)
  rw [lg_entry_eq]
  generalize (lg_sl ([.ref a0, .int n]) ++ List.replicate (2 - (lg_sl ([.ref a0, .int n])).length) Slot.unset).toArray = ls at hl ⊢
  have hl : lv_has ls 2 [(0, .ref a0), (1, .int n)] := hl
  refine lv_iload_n hx hb dX6_has_0 rfl (lv_at hl 1 rfl) ?_
  refine lv_if_lt (tgt := 16) hx hb dX6_has_1 (by decide) (fun c_1 => ?_) (fun c_1 => ?_)
  · refine lv_iconst (v := 0) hx hb dX6_has_16 (by decide) ?_
    have hP9 := hP.sub (ws' := [(a0, .inr (6, [.int w, .ref a1, .int 0]))]) [0] rfl
    have hD9 := hD.sub (ws' := [(a0, .inr (6, [.int w, .ref a1, .int 0]))]) [0] (by decide) rfl
    refine W.widen (k := 0) (n := 0) (Nat.le_of_ble_eq_true rfl) (Nat.le_of_ble_eq_true rfl) ?_
    exact W.zret (v := 0) hx hb hr rfl (fun t ht hW => ⟨⟨0, (), rfl, rfl, by rw [ht]; exact hP9, hD9⟩, hS.F ht⟩) hS.2.2 dX6_has_17
  · refine lv_iload_n hx hb dX6_has_4 rfl (lv_at hl 1 rfl) ?_
    refine lv_aload_n hx hb dX6_has_5 rfl (lv_at hl 0 rfl) ?_
    refine va_get (D := (dC, dI)) (ci := 6) (v := .int 0) (C := RX6) (T := TX6) (N := 3) hx hb hts iX6_has_X6 hown hK.1 hP 0 rfl rfl 2 (by decide) (kX6_has_1 hts) (fun _ h9 => h9) rfl dX6_has_6 ?_
    refine lv_icmp_ge (tgt := 16) hx hb dX6_has_9 (by decide) (fun c_2 => ?_) (fun c_2 => ?_)
    · refine lv_iconst (v := 0) hx hb dX6_has_16 (by decide) ?_
      have hP9 := hP.sub (ws' := [(a0, .inr (6, [.int w, .ref a1, .int 0]))]) [0] rfl
      have hD9 := hD.sub (ws' := [(a0, .inr (6, [.int w, .ref a1, .int 0]))]) [0] (by decide) rfl
      refine W.widen (k := 0) (n := 0) (Nat.le_of_ble_eq_true rfl) (Nat.le_of_ble_eq_true rfl) ?_
      exact W.zret (v := 0) hx hb hr rfl (fun t ht hW => ⟨⟨0, (), rfl, rfl, by rw [ht]; exact hP9, hD9⟩, hS.F ht⟩) hS.2.2 dX6_has_17
    · refine lv_iconst (v := 1) hx hb dX6_has_12 (by decide) ?_
      refine lv_goto (tgt := 17) hx hb dX6_has_13 (by decide) ?_
      have hP9 := hP.sub (ws' := [(a0, .inr (6, [.int w, .ref a1, .int 0]))]) [0] rfl
      have hD9 := hD.sub (ws' := [(a0, .inr (6, [.int w, .ref a1, .int 0]))]) [0] (by decide) rfl
      refine W.widen (k := 0) (n := 0) (Nat.le_of_ble_eq_true rfl) (Nat.le_of_ble_eq_true rfl) ?_
      exact W.zret (v := 1) hx hb hr rfl (fun t ht hW => ⟨⟨1, (), rfl, (absurd (Int32.not_lt.mp c_1) c_2), by rw [ht]; exact hP9, hD9⟩, hS.F ht⟩) hS.2.2 dX6_has_17
set_option maxHeartbeats 4000000 in
set_option maxRecDepth 100000 in
theorem mX6_grow (l : Launch) (dC : Nat → ClassId) (dI : Nat → Nat → Nat) (kA : Nat → ClassId) (sz : Nat) (a0 : Nat) (a1 : Nat) (f : Nat → Int32)  : Met l yX6_grow wsX6_grow ({ frames := 0, cells := 0, slots := 0, locals := 0 }) (zPc dC dI kA sz [.ref a0] [(a0, .inr (6, [.int 4, .ref a1, .int 0])), (a1, .inl (kA 0, 48, .inl f))]) (va_Qi (fun (r : Int32) (u : Unit) => r = 0) (zB dC dI (va_A [(a0, .inr (6, [.int 4, .ref a1, .int 0])), (a1, .inl (kA 0, 48, .inl f))] sz) (fun (u : Unit) => [(a0, .inr (6, [.int 4, .ref a1, .int 1])), (a1, .inl (kA 0, 48, .inl f))])) (va_A [(a0, .inr (6, [.int 4, .ref a1, .int 0])), (a1, .inl (kA 0, 48, .inl f))] sz)) 0 0 (va_A [(a0, .inr (6, [.int 4, .ref a1, .int 0])), (a1, .inl (kA 0, 48, .inl f))] sz) := by
  refine Met.ofW (cc := cX6_grow) (maxL := 1) (ret := (some .int)) (by decide) rfl ?_
  intro p e s m args below meth c s₁ B hml hv
  obtain ⟨rfl, hsz, hP, hK, hD0⟩ := hv
  have hx := B.exec
  have hb := B.bytes
  have hr := B.returns
  have hts := atoms_spec (ws := wsX6_grow) B.pre
  have hown : s.vm.findClass RX6 = some m.cls := findClass_of_methodNamed B.named
  have hlocks := B.notSynchronized
  subst hsz
  have hD := hD0.self (sz := s.heap.size)
  generalize hAe : va_A [(a0, .inr (6, [.int 4, .ref a1, .int 0])), (a1, .inl (kA 0, 48, .inl f))] s.heap.size = A at hD ⊢
  have hA : ∀ q : Nat, s.heap.size ≤ q → A q := fun q h => by rw [← hAe]; exact Or.inr h
  have hS : va_S A s.heap s.heap [] := va_S.rf
  have hP : va_P (dC, dI) vwCl [(a0, .inr (6, [.int 4, .ref a1, .int 0])), (a1, .inl (kA 0, 48, .inl f))] s.heap := hP
  have hl := lv_entry ([.ref a0]) (n := 1) (Nat.le_of_ble_eq_true rfl)
  rw [lg_entry_eq]
  generalize (lg_sl ([.ref a0]) ++ List.replicate (1 - (lg_sl ([.ref a0])).length) Slot.unset).toArray = ls at hl ⊢
  have hl : lv_has ls 1 [(0, .ref a0)] := hl
  refine lv_aload_n hx hb dX6_grow_0 rfl (lv_at hl 0 rfl) ?_
  refine va_get (D := (dC, dI)) (ci := 6) (v := .int 0) (C := RX6) (T := TX6) (N := 3) hx hb hts iX6_grow_X6 hown hK.1 hP 0 rfl rfl 2 (by decide) (kX6_grow_1 hts) (fun _ h9 => h9) rfl dX6_grow_1 ?_
  refine lv_iconst (v := 1) hx hb dX6_grow_4 (by decide) ?_
  refine lv_iadd hx hb dX6_grow_5 ?_
  refine zi 1 (by decide) ?_
  refine lv_aload_n hx hb dX6_grow_6 rfl (lv_at hl 0 rfl) ?_
  refine va_get (D := (dC, dI)) (ci := 6) (v := .int 4) (C := RX6) (T := TX6) (N := 3) hx hb hts iX6_grow_X6 hown hK.1 hP 0 rfl rfl 0 (by decide) (kX6_grow_2 hts) (fun _ h9 => h9) rfl dX6_grow_7 ?_
  refine lv_imul hx hb dX6_grow_10 ?_
  refine zi 4 (by decide) ?_
  refine lv_aload_n hx hb dX6_grow_11 rfl (lv_at hl 0 rfl) ?_
  refine va_get (D := (dC, dI)) (ci := 6) (v := .ref a1) (C := RX6) (T := TX6) (N := 3) hx hb hts iX6_grow_X6 hown hK.1 hP 0 rfl rfl 1 (by decide) (kX6_grow_3 hts) (fun _ h9 => h9) rfl dX6_grow_12 ?_
  refine va_alen hx hb hK.1 hP 1 0 rfl rfl (v := 48) rfl dX6_grow_15 ?_
  refine lv_icmp_le (tgt := 21) hx hb dX6_grow_16 (by decide) (fun _ => ?_) (fun c_1 => absurd (by decide) c_1)
  refine lv_aload_n hx hb dX6_grow_21 rfl (lv_at hl 0 rfl) ?_
  refine lv_dup hx hb dX6_grow_22 rfl ?_
  refine va_get (D := (dC, dI)) (ci := 6) (v := .int 0) (C := RX6) (T := TX6) (N := 3) hx hb hts iX6_grow_X6 hown hK.1 hP 0 rfl rfl 2 (by decide) (kX6_grow_1 hts) (fun _ h9 => h9) rfl dX6_grow_23 ?_
  refine lv_iconst (v := 1) hx hb dX6_grow_26 (by decide) ?_
  refine lv_iadd hx hb dX6_grow_27 ?_
  refine zi 1 (by decide) ?_
  refine va_put (D := (dC, dI)) (ci := 6) (v := .int 1) (ty := .int) (C := RX6) (T := TX6) (N := 3) hx hb hts iX6_grow_X6 tyX6 tyX6_ok nmX6 hown hK.1 hP hD hS 0 rfl rfl 2 (by decide) (kX6_grow_1 hts) (fun _ h9 => h9) rfl (by decide +kernel) rfl rfl (Nat.le_of_ble_eq_true rfl) dX6_grow_28 (fun H locs hP hD hS => ?_)
  have hP : va_P (dC, dI) vwCl [(a0, .inr (6, [.int 4, .ref a1, .int 1])), (a1, .inl (kA 0, 48, .inl f))] H := hP
  have hD : va_D A [(a0, .inr (6, [.int 4, .ref a1, .int 1])), (a1, .inl (kA 0, 48, .inl f))] := hD
  refine lv_aload_n hx hb dX6_grow_31 rfl (lv_at hl 0 rfl) ?_
  refine va_get (D := (dC, dI)) (ci := 6) (v := .int 1) (C := RX6) (T := TX6) (N := 3) hx hb hts iX6_grow_X6 hown hK.1 hP 0 rfl rfl 2 (by decide) (kX6_grow_1 hts) (fun _ h9 => h9) rfl dX6_grow_32 ?_
  refine lv_iconst (v := 1) hx hb dX6_grow_35 (by decide) ?_
  refine lv_isub hx hb dX6_grow_36 ?_
  refine zi 0 (by decide) ?_
  have hP9 := hP.sub (ws' := [(a0, .inr (6, [.int 4, .ref a1, .int 1])), (a1, .inl (kA 0, 48, .inl f))]) [0, 1] rfl
  have hD9 := hD.sub (ws' := [(a0, .inr (6, [.int 4, .ref a1, .int 1])), (a1, .inl (kA 0, 48, .inl f))]) [0, 1] (by decide) rfl
  refine W.widen (k := 0) (n := 0) (Nat.le_of_ble_eq_true rfl) (Nat.le_of_ble_eq_true rfl) ?_
  exact W.iret (v := 0) hx hb hr (fun t ht hW => ⟨⟨0, (), rfl, rfl, by rw [ht]; exact hP9, hD9⟩, hS.F ht⟩) hS.2.2 dX6_grow_37
set_option maxHeartbeats 4000000 in
set_option maxRecDepth 100000 in
theorem mX6_put_0 (l : Launch) (dC : Nat → ClassId) (dI : Nat → Nat → Nat) (kA : Nat → ClassId) (sz : Nat) (a0 : Nat) (a1 : Nat) (f : Nat → Int32) (v : Int32)  : Met l yX6_put wsX6_put ({ frames := 0, cells := 0, slots := 0, locals := 0 }) (zPc dC dI kA sz [.ref a0, .int 0, .int 0, .int v] [(a0, .inr (6, [.int 4, .ref a1, .int 1])), (a1, .inl (kA 0, 48, .inl f))]) (va_Qv (fun (u : Nat → Int32) => True) (zB dC dI (va_A [(a0, .inr (6, [.int 4, .ref a1, .int 1])), (a1, .inl (kA 0, 48, .inl f))] sz) (fun (u : Nat → Int32) => [(a0, .inr (6, [.int 4, .ref a1, .int 1])), (a1, .inl (kA 0, 48, .inl u))])) (va_A [(a0, .inr (6, [.int 4, .ref a1, .int 1])), (a1, .inl (kA 0, 48, .inl f))] sz)) 0 0 (va_A [(a0, .inr (6, [.int 4, .ref a1, .int 1])), (a1, .inl (kA 0, 48, .inl f))] sz) := by
  refine Met.ofW (cc := cX6_put) (maxL := 5) (ret := none) (by decide) rfl ?_
  intro p e s m args below meth c s₁ B hml hv
  obtain ⟨rfl, hsz, hP, hK, hD0⟩ := hv
  have hx := B.exec
  have hb := B.bytes
  have hr := B.returns
  have hts := atoms_spec (ws := wsX6_put) B.pre
  have hown : s.vm.findClass RX6 = some m.cls := findClass_of_methodNamed B.named
  have hlocks := B.notSynchronized
  subst hsz
  have hD := hD0.self (sz := s.heap.size)
  generalize hAe : va_A [(a0, .inr (6, [.int 4, .ref a1, .int 1])), (a1, .inl (kA 0, 48, .inl f))] s.heap.size = A at hD ⊢
  have hA : ∀ q : Nat, s.heap.size ≤ q → A q := fun q h => by rw [← hAe]; exact Or.inr h
  have hS : va_S A s.heap s.heap [] := va_S.rf
  have hP : va_P (dC, dI) vwCl [(a0, .inr (6, [.int 4, .ref a1, .int 1])), (a1, .inl (kA 0, 48, .inl f))] s.heap := hP
  have hl := lv_entry ([.ref a0, .int 0, .int 0, .int v]) (n := 5) (Nat.le_of_ble_eq_true rfl)
  rw [lg_entry_eq]
  generalize (lg_sl ([.ref a0, .int 0, .int 0, .int v]) ++ List.replicate (5 - (lg_sl ([.ref a0, .int 0, .int 0, .int v])).length) Slot.unset).toArray = ls at hl ⊢
  have hl : lv_has ls 5 [(0, .ref a0), (1, .int 0), (2, .int 0), (3, .int v)] := hl
  refine lv_iload_n hx hb dX6_put_0 rfl (lv_at hl 1 rfl) ?_
  refine lv_aload_n hx hb dX6_put_1 rfl (lv_at hl 0 rfl) ?_
  refine va_get (D := (dC, dI)) (ci := 6) (v := .int 4) (C := RX6) (T := TX6) (N := 3) hx hb hts iX6_put_X6 hown hK.1 hP 0 rfl rfl 0 (by decide) (kX6_put_1 hts) (fun _ h9 => h9) rfl dX6_put_2 ?_
  refine lv_imul hx hb dX6_put_5 ?_
  refine zi 0 (by decide) ?_
  refine lv_iload_n hx hb dX6_put_6 rfl (lv_at hl 2 rfl) ?_
  refine lv_iadd hx hb dX6_put_7 ?_
  refine zi 0 (by decide) ?_
  refine lv_istore (lv' := [(4, .int 0), (0, .ref a0), (1, .int 0), (2, .int 0), (3, .int v)]) hx hb dX6_put_8 hl (by decide) rfl (fun ls hl => ?_)
  refine lv_iload hx hb dX6_put_10 (lv_at hl 0 rfl) ?_
  refine lv_if_lt (tgt := 33) hx hb dX6_put_12 (by decide) (fun c_1 => absurd c_1 (by decide)) (fun _ => ?_)
  refine lv_iload hx hb dX6_put_15 (lv_at hl 0 rfl) ?_
  refine lv_aload_n hx hb dX6_put_17 rfl (lv_at hl 1 rfl) ?_
  refine va_get (D := (dC, dI)) (ci := 6) (v := .ref a1) (C := RX6) (T := TX6) (N := 3) hx hb hts iX6_put_X6 hown hK.1 hP 0 rfl rfl 1 (by decide) (kX6_put_2 hts) (fun _ h9 => h9) rfl dX6_put_18 ?_
  refine va_alen hx hb hK.1 hP 1 0 rfl rfl (v := 48) rfl dX6_put_21 ?_
  refine lv_icmp_ge (tgt := 33) hx hb dX6_put_22 (by decide) (fun c_2 => absurd c_2 (by decide)) (fun _ => ?_)
  refine lv_aload_n hx hb dX6_put_25 rfl (lv_at hl 1 rfl) ?_
  refine va_get (D := (dC, dI)) (ci := 6) (v := .ref a1) (C := RX6) (T := TX6) (N := 3) hx hb hts iX6_put_X6 hown hK.1 hP 0 rfl rfl 1 (by decide) (kX6_put_2 hts) (fun _ h9 => h9) rfl dX6_put_26 ?_
  refine lv_iload hx hb dX6_put_29 (lv_at hl 0 rfl) ?_
  refine lv_iload_n hx hb dX6_put_31 rfl (lv_at hl 4 rfl) ?_
  refine va_iast hx hb hK.1 hP hD hS 1 0 rfl rfl (vpd (by decide)) dX6_put_32 (fun H locs hP hD hS => ?_)
  have hP : va_P (dC, dI) vwCl [(a0, .inr (6, [.int 4, .ref a1, .int 1])), (a1, .inl (kA 0, 48, .inl (upd f (0 : Int32).toNatClampNeg v)))] H := hP
  have hD : va_D A [(a0, .inr (6, [.int 4, .ref a1, .int 1])), (a1, .inl (kA 0, 48, .inl (upd f (0 : Int32).toNatClampNeg v)))] := hD
  obtain ⟨f3, ef3⟩ : ∃ y : Nat → Int32, y = (upd f (0 : Int32).toNatClampNeg v) := ⟨_, rfl⟩
  rw [← ef3] at hP hD
  have hP9 := hP.sub (ws' := [(a0, .inr (6, [.int 4, .ref a1, .int 1])), (a1, .inl (kA 0, 48, .inl f3))]) [0, 1] rfl
  have hD9 := hD.sub (ws' := [(a0, .inr (6, [.int 4, .ref a1, .int 1])), (a1, .inl (kA 0, 48, .inl f3))]) [0, 1] (by decide) rfl
  refine W.widen (k := 0) (n := 0) (Nat.le_of_ble_eq_true rfl) (Nat.le_of_ble_eq_true rfl) ?_
  exact W.vret hx hb hr (fun t ht hW => ⟨⟨(f3), rfl, trivial, by rw [ht]; exact hP9, hD9⟩, hS.F ht⟩) hS.2.2 dX6_put_33
set_option maxHeartbeats 4000000 in
set_option maxRecDepth 100000 in
theorem mX6_put_1 (l : Launch) (dC : Nat → ClassId) (dI : Nat → Nat → Nat) (kA : Nat → ClassId) (sz : Nat) (a0 : Nat) (a1 : Nat) (f : Nat → Int32) (v : Int32)  : Met l yX6_put wsX6_put ({ frames := 0, cells := 0, slots := 0, locals := 0 }) (zPc dC dI kA sz [.ref a0, .int 0, .int 1, .int v] [(a0, .inr (6, [.int 4, .ref a1, .int 1])), (a1, .inl (kA 0, 48, .inl f))]) (va_Qv (fun (u : Nat → Int32) => True) (zB dC dI (va_A [(a0, .inr (6, [.int 4, .ref a1, .int 1])), (a1, .inl (kA 0, 48, .inl f))] sz) (fun (u : Nat → Int32) => [(a0, .inr (6, [.int 4, .ref a1, .int 1])), (a1, .inl (kA 0, 48, .inl u))])) (va_A [(a0, .inr (6, [.int 4, .ref a1, .int 1])), (a1, .inl (kA 0, 48, .inl f))] sz)) 0 0 (va_A [(a0, .inr (6, [.int 4, .ref a1, .int 1])), (a1, .inl (kA 0, 48, .inl f))] sz) := by
  refine Met.ofW (cc := cX6_put) (maxL := 5) (ret := none) (by decide) rfl ?_
  intro p e s m args below meth c s₁ B hml hv
  obtain ⟨rfl, hsz, hP, hK, hD0⟩ := hv
  have hx := B.exec
  have hb := B.bytes
  have hr := B.returns
  have hts := atoms_spec (ws := wsX6_put) B.pre
  have hown : s.vm.findClass RX6 = some m.cls := findClass_of_methodNamed B.named
  have hlocks := B.notSynchronized
  subst hsz
  have hD := hD0.self (sz := s.heap.size)
  generalize hAe : va_A [(a0, .inr (6, [.int 4, .ref a1, .int 1])), (a1, .inl (kA 0, 48, .inl f))] s.heap.size = A at hD ⊢
  have hA : ∀ q : Nat, s.heap.size ≤ q → A q := fun q h => by rw [← hAe]; exact Or.inr h
  have hS : va_S A s.heap s.heap [] := va_S.rf
  have hP : va_P (dC, dI) vwCl [(a0, .inr (6, [.int 4, .ref a1, .int 1])), (a1, .inl (kA 0, 48, .inl f))] s.heap := hP
  have hl := lv_entry ([.ref a0, .int 0, .int 1, .int v]) (n := 5) (Nat.le_of_ble_eq_true rfl)
  rw [lg_entry_eq]
  generalize (lg_sl ([.ref a0, .int 0, .int 1, .int v]) ++ List.replicate (5 - (lg_sl ([.ref a0, .int 0, .int 1, .int v])).length) Slot.unset).toArray = ls at hl ⊢
  have hl : lv_has ls 5 [(0, .ref a0), (1, .int 0), (2, .int 1), (3, .int v)] := hl
  refine lv_iload_n hx hb dX6_put_0 rfl (lv_at hl 1 rfl) ?_
  refine lv_aload_n hx hb dX6_put_1 rfl (lv_at hl 0 rfl) ?_
  refine va_get (D := (dC, dI)) (ci := 6) (v := .int 4) (C := RX6) (T := TX6) (N := 3) hx hb hts iX6_put_X6 hown hK.1 hP 0 rfl rfl 0 (by decide) (kX6_put_1 hts) (fun _ h9 => h9) rfl dX6_put_2 ?_
  refine lv_imul hx hb dX6_put_5 ?_
  refine zi 0 (by decide) ?_
  refine lv_iload_n hx hb dX6_put_6 rfl (lv_at hl 2 rfl) ?_
  refine lv_iadd hx hb dX6_put_7 ?_
  refine zi 1 (by decide) ?_
  refine lv_istore (lv' := [(4, .int 1), (0, .ref a0), (1, .int 0), (2, .int 1), (3, .int v)]) hx hb dX6_put_8 hl (by decide) rfl (fun ls hl => ?_)
  refine lv_iload hx hb dX6_put_10 (lv_at hl 0 rfl) ?_
  refine lv_if_lt (tgt := 33) hx hb dX6_put_12 (by decide) (fun c_1 => absurd c_1 (by decide)) (fun _ => ?_)
  refine lv_iload hx hb dX6_put_15 (lv_at hl 0 rfl) ?_
  refine lv_aload_n hx hb dX6_put_17 rfl (lv_at hl 1 rfl) ?_
  refine va_get (D := (dC, dI)) (ci := 6) (v := .ref a1) (C := RX6) (T := TX6) (N := 3) hx hb hts iX6_put_X6 hown hK.1 hP 0 rfl rfl 1 (by decide) (kX6_put_2 hts) (fun _ h9 => h9) rfl dX6_put_18 ?_
  refine va_alen hx hb hK.1 hP 1 0 rfl rfl (v := 48) rfl dX6_put_21 ?_
  refine lv_icmp_ge (tgt := 33) hx hb dX6_put_22 (by decide) (fun c_2 => absurd c_2 (by decide)) (fun _ => ?_)
  refine lv_aload_n hx hb dX6_put_25 rfl (lv_at hl 1 rfl) ?_
  refine va_get (D := (dC, dI)) (ci := 6) (v := .ref a1) (C := RX6) (T := TX6) (N := 3) hx hb hts iX6_put_X6 hown hK.1 hP 0 rfl rfl 1 (by decide) (kX6_put_2 hts) (fun _ h9 => h9) rfl dX6_put_26 ?_
  refine lv_iload hx hb dX6_put_29 (lv_at hl 0 rfl) ?_
  refine lv_iload_n hx hb dX6_put_31 rfl (lv_at hl 4 rfl) ?_
  refine va_iast hx hb hK.1 hP hD hS 1 0 rfl rfl (vpd (by decide)) dX6_put_32 (fun H locs hP hD hS => ?_)
  have hP : va_P (dC, dI) vwCl [(a0, .inr (6, [.int 4, .ref a1, .int 1])), (a1, .inl (kA 0, 48, .inl (upd f (1 : Int32).toNatClampNeg v)))] H := hP
  have hD : va_D A [(a0, .inr (6, [.int 4, .ref a1, .int 1])), (a1, .inl (kA 0, 48, .inl (upd f (1 : Int32).toNatClampNeg v)))] := hD
  obtain ⟨f3, ef3⟩ : ∃ y : Nat → Int32, y = (upd f (1 : Int32).toNatClampNeg v) := ⟨_, rfl⟩
  rw [← ef3] at hP hD
  have hP9 := hP.sub (ws' := [(a0, .inr (6, [.int 4, .ref a1, .int 1])), (a1, .inl (kA 0, 48, .inl f3))]) [0, 1] rfl
  have hD9 := hD.sub (ws' := [(a0, .inr (6, [.int 4, .ref a1, .int 1])), (a1, .inl (kA 0, 48, .inl f3))]) [0, 1] (by decide) rfl
  refine W.widen (k := 0) (n := 0) (Nat.le_of_ble_eq_true rfl) (Nat.le_of_ble_eq_true rfl) ?_
  exact W.vret hx hb hr (fun t ht hW => ⟨⟨(f3), rfl, trivial, by rw [ht]; exact hP9, hD9⟩, hS.F ht⟩) hS.2.2 dX6_put_33
set_option maxHeartbeats 4000000 in
set_option maxRecDepth 100000 in
theorem mX6_put_2 (l : Launch) (dC : Nat → ClassId) (dI : Nat → Nat → Nat) (kA : Nat → ClassId) (sz : Nat) (a0 : Nat) (a1 : Nat) (f : Nat → Int32) (v : Int32)  : Met l yX6_put wsX6_put ({ frames := 0, cells := 0, slots := 0, locals := 0 }) (zPc dC dI kA sz [.ref a0, .int 0, .int 2, .int v] [(a0, .inr (6, [.int 4, .ref a1, .int 1])), (a1, .inl (kA 0, 48, .inl f))]) (va_Qv (fun (u : Nat → Int32) => True) (zB dC dI (va_A [(a0, .inr (6, [.int 4, .ref a1, .int 1])), (a1, .inl (kA 0, 48, .inl f))] sz) (fun (u : Nat → Int32) => [(a0, .inr (6, [.int 4, .ref a1, .int 1])), (a1, .inl (kA 0, 48, .inl u))])) (va_A [(a0, .inr (6, [.int 4, .ref a1, .int 1])), (a1, .inl (kA 0, 48, .inl f))] sz)) 0 0 (va_A [(a0, .inr (6, [.int 4, .ref a1, .int 1])), (a1, .inl (kA 0, 48, .inl f))] sz) := by
  refine Met.ofW (cc := cX6_put) (maxL := 5) (ret := none) (by decide) rfl ?_
  intro p e s m args below meth c s₁ B hml hv
  obtain ⟨rfl, hsz, hP, hK, hD0⟩ := hv
  have hx := B.exec
  have hb := B.bytes
  have hr := B.returns
  have hts := atoms_spec (ws := wsX6_put) B.pre
  have hown : s.vm.findClass RX6 = some m.cls := findClass_of_methodNamed B.named
  have hlocks := B.notSynchronized
  subst hsz
  have hD := hD0.self (sz := s.heap.size)
  generalize hAe : va_A [(a0, .inr (6, [.int 4, .ref a1, .int 1])), (a1, .inl (kA 0, 48, .inl f))] s.heap.size = A at hD ⊢
  have hA : ∀ q : Nat, s.heap.size ≤ q → A q := fun q h => by rw [← hAe]; exact Or.inr h
  have hS : va_S A s.heap s.heap [] := va_S.rf
  have hP : va_P (dC, dI) vwCl [(a0, .inr (6, [.int 4, .ref a1, .int 1])), (a1, .inl (kA 0, 48, .inl f))] s.heap := hP
  have hl := lv_entry ([.ref a0, .int 0, .int 2, .int v]) (n := 5) (Nat.le_of_ble_eq_true rfl)
  rw [lg_entry_eq]
  generalize (lg_sl ([.ref a0, .int 0, .int 2, .int v]) ++ List.replicate (5 - (lg_sl ([.ref a0, .int 0, .int 2, .int v])).length) Slot.unset).toArray = ls at hl ⊢
  have hl : lv_has ls 5 [(0, .ref a0), (1, .int 0), (2, .int 2), (3, .int v)] := hl
  refine lv_iload_n hx hb dX6_put_0 rfl (lv_at hl 1 rfl) ?_
  refine lv_aload_n hx hb dX6_put_1 rfl (lv_at hl 0 rfl) ?_
  refine va_get (D := (dC, dI)) (ci := 6) (v := .int 4) (C := RX6) (T := TX6) (N := 3) hx hb hts iX6_put_X6 hown hK.1 hP 0 rfl rfl 0 (by decide) (kX6_put_1 hts) (fun _ h9 => h9) rfl dX6_put_2 ?_
  refine lv_imul hx hb dX6_put_5 ?_
  refine zi 0 (by decide) ?_
  refine lv_iload_n hx hb dX6_put_6 rfl (lv_at hl 2 rfl) ?_
  refine lv_iadd hx hb dX6_put_7 ?_
  refine zi 2 (by decide) ?_
  refine lv_istore (lv' := [(4, .int 2), (0, .ref a0), (1, .int 0), (2, .int 2), (3, .int v)]) hx hb dX6_put_8 hl (by decide) rfl (fun ls hl => ?_)
  refine lv_iload hx hb dX6_put_10 (lv_at hl 0 rfl) ?_
  refine lv_if_lt (tgt := 33) hx hb dX6_put_12 (by decide) (fun c_1 => absurd c_1 (by decide)) (fun _ => ?_)
  refine lv_iload hx hb dX6_put_15 (lv_at hl 0 rfl) ?_
  refine lv_aload_n hx hb dX6_put_17 rfl (lv_at hl 1 rfl) ?_
  refine va_get (D := (dC, dI)) (ci := 6) (v := .ref a1) (C := RX6) (T := TX6) (N := 3) hx hb hts iX6_put_X6 hown hK.1 hP 0 rfl rfl 1 (by decide) (kX6_put_2 hts) (fun _ h9 => h9) rfl dX6_put_18 ?_
  refine va_alen hx hb hK.1 hP 1 0 rfl rfl (v := 48) rfl dX6_put_21 ?_
  refine lv_icmp_ge (tgt := 33) hx hb dX6_put_22 (by decide) (fun c_2 => absurd c_2 (by decide)) (fun _ => ?_)
  refine lv_aload_n hx hb dX6_put_25 rfl (lv_at hl 1 rfl) ?_
  refine va_get (D := (dC, dI)) (ci := 6) (v := .ref a1) (C := RX6) (T := TX6) (N := 3) hx hb hts iX6_put_X6 hown hK.1 hP 0 rfl rfl 1 (by decide) (kX6_put_2 hts) (fun _ h9 => h9) rfl dX6_put_26 ?_
  refine lv_iload hx hb dX6_put_29 (lv_at hl 0 rfl) ?_
  refine lv_iload_n hx hb dX6_put_31 rfl (lv_at hl 4 rfl) ?_
  refine va_iast hx hb hK.1 hP hD hS 1 0 rfl rfl (vpd (by decide)) dX6_put_32 (fun H locs hP hD hS => ?_)
  have hP : va_P (dC, dI) vwCl [(a0, .inr (6, [.int 4, .ref a1, .int 1])), (a1, .inl (kA 0, 48, .inl (upd f (2 : Int32).toNatClampNeg v)))] H := hP
  have hD : va_D A [(a0, .inr (6, [.int 4, .ref a1, .int 1])), (a1, .inl (kA 0, 48, .inl (upd f (2 : Int32).toNatClampNeg v)))] := hD
  obtain ⟨f3, ef3⟩ : ∃ y : Nat → Int32, y = (upd f (2 : Int32).toNatClampNeg v) := ⟨_, rfl⟩
  rw [← ef3] at hP hD
  have hP9 := hP.sub (ws' := [(a0, .inr (6, [.int 4, .ref a1, .int 1])), (a1, .inl (kA 0, 48, .inl f3))]) [0, 1] rfl
  have hD9 := hD.sub (ws' := [(a0, .inr (6, [.int 4, .ref a1, .int 1])), (a1, .inl (kA 0, 48, .inl f3))]) [0, 1] (by decide) rfl
  refine W.widen (k := 0) (n := 0) (Nat.le_of_ble_eq_true rfl) (Nat.le_of_ble_eq_true rfl) ?_
  exact W.vret hx hb hr (fun t ht hW => ⟨⟨(f3), rfl, trivial, by rw [ht]; exact hP9, hD9⟩, hS.F ht⟩) hS.2.2 dX6_put_33
set_option maxHeartbeats 4000000 in
set_option maxRecDepth 100000 in
theorem mX6_put_3 (l : Launch) (dC : Nat → ClassId) (dI : Nat → Nat → Nat) (kA : Nat → ClassId) (sz : Nat) (a0 : Nat) (a1 : Nat) (f : Nat → Int32) (v : Int32)  : Met l yX6_put wsX6_put ({ frames := 0, cells := 0, slots := 0, locals := 0 }) (zPc dC dI kA sz [.ref a0, .int 0, .int 3, .int v] [(a0, .inr (6, [.int 4, .ref a1, .int 1])), (a1, .inl (kA 0, 48, .inl f))]) (va_Qv (fun (u : Nat → Int32) => True) (zB dC dI (va_A [(a0, .inr (6, [.int 4, .ref a1, .int 1])), (a1, .inl (kA 0, 48, .inl f))] sz) (fun (u : Nat → Int32) => [(a0, .inr (6, [.int 4, .ref a1, .int 1])), (a1, .inl (kA 0, 48, .inl u))])) (va_A [(a0, .inr (6, [.int 4, .ref a1, .int 1])), (a1, .inl (kA 0, 48, .inl f))] sz)) 0 0 (va_A [(a0, .inr (6, [.int 4, .ref a1, .int 1])), (a1, .inl (kA 0, 48, .inl f))] sz) := by
  refine Met.ofW (cc := cX6_put) (maxL := 5) (ret := none) (by decide) rfl ?_
  intro p e s m args below meth c s₁ B hml hv
  obtain ⟨rfl, hsz, hP, hK, hD0⟩ := hv
  have hx := B.exec
  have hb := B.bytes
  have hr := B.returns
  have hts := atoms_spec (ws := wsX6_put) B.pre
  have hown : s.vm.findClass RX6 = some m.cls := findClass_of_methodNamed B.named
  have hlocks := B.notSynchronized
  subst hsz
  have hD := hD0.self (sz := s.heap.size)
  generalize hAe : va_A [(a0, .inr (6, [.int 4, .ref a1, .int 1])), (a1, .inl (kA 0, 48, .inl f))] s.heap.size = A at hD ⊢
  have hA : ∀ q : Nat, s.heap.size ≤ q → A q := fun q h => by rw [← hAe]; exact Or.inr h
  have hS : va_S A s.heap s.heap [] := va_S.rf
  have hP : va_P (dC, dI) vwCl [(a0, .inr (6, [.int 4, .ref a1, .int 1])), (a1, .inl (kA 0, 48, .inl f))] s.heap := hP
  have hl := lv_entry ([.ref a0, .int 0, .int 3, .int v]) (n := 5) (Nat.le_of_ble_eq_true rfl)
  rw [lg_entry_eq]
  generalize (lg_sl ([.ref a0, .int 0, .int 3, .int v]) ++ List.replicate (5 - (lg_sl ([.ref a0, .int 0, .int 3, .int v])).length) Slot.unset).toArray = ls at hl ⊢
  have hl : lv_has ls 5 [(0, .ref a0), (1, .int 0), (2, .int 3), (3, .int v)] := hl
  refine lv_iload_n hx hb dX6_put_0 rfl (lv_at hl 1 rfl) ?_
  refine lv_aload_n hx hb dX6_put_1 rfl (lv_at hl 0 rfl) ?_
  refine va_get (D := (dC, dI)) (ci := 6) (v := .int 4) (C := RX6) (T := TX6) (N := 3) hx hb hts iX6_put_X6 hown hK.1 hP 0 rfl rfl 0 (by decide) (kX6_put_1 hts) (fun _ h9 => h9) rfl dX6_put_2 ?_
  refine lv_imul hx hb dX6_put_5 ?_
  refine zi 0 (by decide) ?_
  refine lv_iload_n hx hb dX6_put_6 rfl (lv_at hl 2 rfl) ?_
  refine lv_iadd hx hb dX6_put_7 ?_
  refine zi 3 (by decide) ?_
  refine lv_istore (lv' := [(4, .int 3), (0, .ref a0), (1, .int 0), (2, .int 3), (3, .int v)]) hx hb dX6_put_8 hl (by decide) rfl (fun ls hl => ?_)
  refine lv_iload hx hb dX6_put_10 (lv_at hl 0 rfl) ?_
  refine lv_if_lt (tgt := 33) hx hb dX6_put_12 (by decide) (fun c_1 => absurd c_1 (by decide)) (fun _ => ?_)
  refine lv_iload hx hb dX6_put_15 (lv_at hl 0 rfl) ?_
  refine lv_aload_n hx hb dX6_put_17 rfl (lv_at hl 1 rfl) ?_
  refine va_get (D := (dC, dI)) (ci := 6) (v := .ref a1) (C := RX6) (T := TX6) (N := 3) hx hb hts iX6_put_X6 hown hK.1 hP 0 rfl rfl 1 (by decide) (kX6_put_2 hts) (fun _ h9 => h9) rfl dX6_put_18 ?_
  refine va_alen hx hb hK.1 hP 1 0 rfl rfl (v := 48) rfl dX6_put_21 ?_
  refine lv_icmp_ge (tgt := 33) hx hb dX6_put_22 (by decide) (fun c_2 => absurd c_2 (by decide)) (fun _ => ?_)
  refine lv_aload_n hx hb dX6_put_25 rfl (lv_at hl 1 rfl) ?_
  refine va_get (D := (dC, dI)) (ci := 6) (v := .ref a1) (C := RX6) (T := TX6) (N := 3) hx hb hts iX6_put_X6 hown hK.1 hP 0 rfl rfl 1 (by decide) (kX6_put_2 hts) (fun _ h9 => h9) rfl dX6_put_26 ?_
  refine lv_iload hx hb dX6_put_29 (lv_at hl 0 rfl) ?_
  refine lv_iload_n hx hb dX6_put_31 rfl (lv_at hl 4 rfl) ?_
  refine va_iast hx hb hK.1 hP hD hS 1 0 rfl rfl (vpd (by decide)) dX6_put_32 (fun H locs hP hD hS => ?_)
  have hP : va_P (dC, dI) vwCl [(a0, .inr (6, [.int 4, .ref a1, .int 1])), (a1, .inl (kA 0, 48, .inl (upd f (3 : Int32).toNatClampNeg v)))] H := hP
  have hD : va_D A [(a0, .inr (6, [.int 4, .ref a1, .int 1])), (a1, .inl (kA 0, 48, .inl (upd f (3 : Int32).toNatClampNeg v)))] := hD
  obtain ⟨f3, ef3⟩ : ∃ y : Nat → Int32, y = (upd f (3 : Int32).toNatClampNeg v) := ⟨_, rfl⟩
  rw [← ef3] at hP hD
  have hP9 := hP.sub (ws' := [(a0, .inr (6, [.int 4, .ref a1, .int 1])), (a1, .inl (kA 0, 48, .inl f3))]) [0, 1] rfl
  have hD9 := hD.sub (ws' := [(a0, .inr (6, [.int 4, .ref a1, .int 1])), (a1, .inl (kA 0, 48, .inl f3))]) [0, 1] (by decide) rfl
  refine W.widen (k := 0) (n := 0) (Nat.le_of_ble_eq_true rfl) (Nat.le_of_ble_eq_true rfl) ?_
  exact W.vret hx hb hr (fun t ht hW => ⟨⟨(f3), rfl, trivial, by rw [ht]; exact hP9, hD9⟩, hS.F ht⟩) hS.2.2 dX6_put_33
set_option maxHeartbeats 4000000 in
set_option maxRecDepth 100000 in
theorem mX6_copyFrom_4 (l : Launch) (dC : Nat → ClassId) (dI : Nat → Nat → Nat) (kA : Nat → ClassId) (sz : Nat) (a0 : Nat) (a1 : Nat) (b0 : Nat) (b1 : Nat) (f : Nat → Int32) (g : Nat → Int32)  : Met l yX6_copyFrom wsX6_copyFrom ({ frames := 1, cells := 0, slots := 0, locals := 60 }) (zPc dC dI kA sz [.ref a0, .ref b0] [(a0, .inr (6, [.int 4, .ref a1, .int 0])), (a1, .inl (kA 0, 48, .inl f)), (b0, .inr (6, [.int 4, .ref b1, .int 0])), (b1, .inl (kA 0, 48, .inl g))]) (va_Qv (fun (u : Unit) => True) (zB dC dI (va_A [(a0, .inr (6, [.int 4, .ref a1, .int 0])), (a1, .inl (kA 0, 48, .inl f)), (b0, .inr (6, [.int 4, .ref b1, .int 0])), (b1, .inl (kA 0, 48, .inl g))] sz) (fun (u : Unit) => [])) (va_A [(a0, .inr (6, [.int 4, .ref a1, .int 0])), (a1, .inl (kA 0, 48, .inl f)), (b0, .inr (6, [.int 4, .ref b1, .int 0])), (b1, .inl (kA 0, 48, .inl g))] sz)) 0 0 (va_A [(a0, .inr (6, [.int 4, .ref a1, .int 0])), (a1, .inl (kA 0, 48, .inl f)), (b0, .inr (6, [.int 4, .ref b1, .int 0])), (b1, .inl (kA 0, 48, .inl g))] sz) := by
  refine Met.ofW (cc := cX6_copyFrom) (maxL := 2) (ret := none) (by decide) rfl ?_
  intro p e s m args below meth c s₁ B hml hv
  obtain ⟨rfl, hsz, hP, hK, hD0⟩ := hv
  have hx := B.exec
  have hb := B.bytes
  have hr := B.returns
  have hts := atoms_spec (ws := wsX6_copyFrom) B.pre
  have hown : s.vm.findClass RX6 = some m.cls := findClass_of_methodNamed B.named
  have hlocks := B.notSynchronized
  subst hsz
  have hD := hD0.self (sz := s.heap.size)
  generalize hAe : va_A [(a0, .inr (6, [.int 4, .ref a1, .int 0])), (a1, .inl (kA 0, 48, .inl f)), (b0, .inr (6, [.int 4, .ref b1, .int 0])), (b1, .inl (kA 0, 48, .inl g))] s.heap.size = A at hD ⊢
  have hA : ∀ q : Nat, s.heap.size ≤ q → A q := fun q h => by rw [← hAe]; exact Or.inr h
  have hS : va_S A s.heap s.heap [] := va_S.rf
  have hP : va_P (dC, dI) vwCl [(a0, .inr (6, [.int 4, .ref a1, .int 0])), (a1, .inl (kA 0, 48, .inl f)), (b0, .inr (6, [.int 4, .ref b1, .int 0])), (b1, .inl (kA 0, 48, .inl g))] s.heap := hP
  have hl := lv_entry ([.ref a0, .ref b0]) (n := 2) (Nat.le_of_ble_eq_true rfl)
  rw [lg_entry_eq]
  generalize (lg_sl ([.ref a0, .ref b0]) ++ List.replicate (2 - (lg_sl ([.ref a0, .ref b0])).length) Slot.unset).toArray = ls at hl ⊢
  have hl : lv_has ls 2 [(0, .ref a0), (1, .ref b0)] := hl
  refine lv_aload_n hx hb dX6_copyFrom_0 rfl (lv_at hl 1 rfl) ?_
  refine va_get (D := (dC, dI)) (ci := 6) (v := .ref b1) (C := RX6) (T := TX6) (N := 3) hx hb hts iX6_copyFrom_X6 hown hK.1 hP 2 rfl rfl 1 (by decide) (kX6_copyFrom_1 hts) (fun _ h9 => h9) rfl dX6_copyFrom_1 ?_
  refine va_alen hx hb hK.1 hP 3 0 rfl rfl (v := 48) rfl dX6_copyFrom_4 ?_
  refine lv_aload_n hx hb dX6_copyFrom_5 rfl (lv_at hl 0 rfl) ?_
  refine va_get (D := (dC, dI)) (ci := 6) (v := .ref a1) (C := RX6) (T := TX6) (N := 3) hx hb hts iX6_copyFrom_X6 hown hK.1 hP 0 rfl rfl 1 (by decide) (kX6_copyFrom_1 hts) (fun _ h9 => h9) rfl dX6_copyFrom_6 ?_
  refine va_alen hx hb hK.1 hP 1 0 rfl rfl (v := 48) rfl dX6_copyFrom_9 ?_
  refine lv_icmp_ne (tgt := 39) hx hb dX6_copyFrom_10 (by decide) (fun c_1 => absurd (by decide) c_1) (fun _ => ?_)
  refine lv_aload_n hx hb dX6_copyFrom_13 rfl (lv_at hl 1 rfl) ?_
  refine va_get (D := (dC, dI)) (ci := 6) (v := .ref b1) (C := RX6) (T := TX6) (N := 3) hx hb hts iX6_copyFrom_X6 hown hK.1 hP 2 rfl rfl 1 (by decide) (kX6_copyFrom_1 hts) (fun _ h9 => h9) rfl dX6_copyFrom_14 ?_
  refine lv_iconst (v := 0) hx hb dX6_copyFrom_17 (by decide) ?_
  refine lv_aload_n hx hb dX6_copyFrom_18 rfl (lv_at hl 0 rfl) ?_
  refine va_get (D := (dC, dI)) (ci := 6) (v := .ref a1) (C := RX6) (T := TX6) (N := 3) hx hb hts iX6_copyFrom_X6 hown hK.1 hP 0 rfl rfl 1 (by decide) (kX6_copyFrom_1 hts) (fun _ h9 => h9) rfl dX6_copyFrom_19 ?_
  refine lv_iconst (v := 0) hx hb dX6_copyFrom_22 (by decide) ?_
  refine lv_aload_n hx hb dX6_copyFrom_23 rfl (lv_at hl 0 rfl) ?_
  refine va_get (D := (dC, dI)) (ci := 6) (v := .ref a1) (C := RX6) (T := TX6) (N := 3) hx hb hts iX6_copyFrom_X6 hown hK.1 hP 0 rfl rfl 1 (by decide) (kX6_copyFrom_1 hts) (fun _ h9 => h9) rfl dX6_copyFrom_24 ?_
  refine va_alen hx hb hK.1 hP 1 0 rfl rfl (v := 48) rfl dX6_copyFrom_27 ?_
  refine va_copyi hx hb (by rw [hml]; exact hl.1.symm) hown (kX6_copyFrom_2 hts) (kX6_copyFrom_3 hts) (kX6_copyFrom_4 hts) (kX6_copyFrom_5 hts) hK.1 hP hD hS 3 1 0 0 rfl rfl rfl rfl rfl (by decide) (by decide) (by decide) (by decide) (by decide) (fun _ _ => rfl) (Nat.le_of_ble_eq_true rfl) (Nat.le_of_ble_eq_true rfl) dX6_copyFrom_28 (fun H locs hP hD hS => ?_)
  have hP : va_P (dC, dI) vwCl [(a0, .inr (6, [.int 4, .ref a1, .int 0])), (a1, .inl (kA 0, 48, .inl (va_cpy g f (0 : Int32).toNatClampNeg (0 : Int32).toNatClampNeg (48 : Int32).toNatClampNeg))), (b0, .inr (6, [.int 4, .ref b1, .int 0])), (b1, .inl (kA 0, 48, .inl g))] H := hP
  have hD : va_D A [(a0, .inr (6, [.int 4, .ref a1, .int 0])), (a1, .inl (kA 0, 48, .inl (va_cpy g f (0 : Int32).toNatClampNeg (0 : Int32).toNatClampNeg (48 : Int32).toNatClampNeg))), (b0, .inr (6, [.int 4, .ref b1, .int 0])), (b1, .inl (kA 0, 48, .inl g))] := hD
  obtain ⟨f2, ef2⟩ : ∃ y : Nat → Int32, y = (va_cpy g f (0 : Int32).toNatClampNeg (0 : Int32).toNatClampNeg (48 : Int32).toNatClampNeg) := ⟨_, rfl⟩
  rw [← ef2] at hP hD
  refine lv_aload_n hx hb dX6_copyFrom_31 rfl (lv_at hl 0 rfl) ?_
  refine lv_aload_n hx hb dX6_copyFrom_32 rfl (lv_at hl 1 rfl) ?_
  refine va_get (D := (dC, dI)) (ci := 6) (v := .int 0) (C := RX6) (T := TX6) (N := 3) hx hb hts iX6_copyFrom_X6 hown hK.1 hP 2 rfl rfl 2 (by decide) (kX6_copyFrom_6 hts) (fun _ h9 => h9) rfl dX6_copyFrom_33 ?_
  refine va_put (D := (dC, dI)) (ci := 6) (v := .int 0) (ty := .int) (C := RX6) (T := TX6) (N := 3) hx hb hts iX6_copyFrom_X6 tyX6 tyX6_ok nmX6 hown hK.1 hP hD hS 0 rfl rfl 2 (by decide) (kX6_copyFrom_6 hts) (fun _ h9 => h9) rfl (by decide +kernel) rfl rfl (Nat.le_of_ble_eq_true rfl) dX6_copyFrom_36 (fun H locs hP hD hS => ?_)
  have hP : va_P (dC, dI) vwCl [(a0, .inr (6, [.int 4, .ref a1, .int 0])), (a1, .inl (kA 0, 48, .inl f2)), (b0, .inr (6, [.int 4, .ref b1, .int 0])), (b1, .inl (kA 0, 48, .inl g))] H := hP
  have hD : va_D A [(a0, .inr (6, [.int 4, .ref a1, .int 0])), (a1, .inl (kA 0, 48, .inl f2)), (b0, .inr (6, [.int 4, .ref b1, .int 0])), (b1, .inl (kA 0, 48, .inl g))] := hD
  have hP9 := hP.sub (ws' := []) [] rfl
  have hD9 := hD.sub (ws' := []) [] (by decide) rfl
  refine W.widen (k := 0) (n := 0) (Nat.le_of_ble_eq_true rfl) (Nat.le_of_ble_eq_true rfl) ?_
  exact W.vret hx hb hr (fun t ht hW => ⟨⟨(), rfl, trivial, by rw [ht]; exact hP9, hD9⟩, hS.F ht⟩) hS.2.2 dX6_copyFrom_39
set_option maxHeartbeats 4000000 in
set_option maxRecDepth 100000 in
theorem mX6_copyFrom_5 (l : Launch) (dC : Nat → ClassId) (dI : Nat → Nat → Nat) (kA : Nat → ClassId) (sz : Nat) (a0 : Nat) (a1 : Nat) (b0 : Nat) (b1 : Nat) (f : Nat → Int32) (g : Nat → Int32)  : Met l yX6_copyFrom wsX6_copyFrom ({ frames := 1, cells := 0, slots := 0, locals := 60 }) (zPc dC dI kA sz [.ref a0, .ref b0] [(a0, .inr (6, [.int 5, .ref a1, .int 0])), (a1, .inl (kA 0, 100, .inl f)), (b0, .inr (6, [.int 5, .ref b1, .int 0])), (b1, .inl (kA 0, 100, .inl g))]) (va_Qv (fun (u : Unit) => True) (zB dC dI (va_A [(a0, .inr (6, [.int 5, .ref a1, .int 0])), (a1, .inl (kA 0, 100, .inl f)), (b0, .inr (6, [.int 5, .ref b1, .int 0])), (b1, .inl (kA 0, 100, .inl g))] sz) (fun (u : Unit) => [])) (va_A [(a0, .inr (6, [.int 5, .ref a1, .int 0])), (a1, .inl (kA 0, 100, .inl f)), (b0, .inr (6, [.int 5, .ref b1, .int 0])), (b1, .inl (kA 0, 100, .inl g))] sz)) 0 0 (va_A [(a0, .inr (6, [.int 5, .ref a1, .int 0])), (a1, .inl (kA 0, 100, .inl f)), (b0, .inr (6, [.int 5, .ref b1, .int 0])), (b1, .inl (kA 0, 100, .inl g))] sz) := by
  refine Met.ofW (cc := cX6_copyFrom) (maxL := 2) (ret := none) (by decide) rfl ?_
  intro p e s m args below meth c s₁ B hml hv
  obtain ⟨rfl, hsz, hP, hK, hD0⟩ := hv
  have hx := B.exec
  have hb := B.bytes
  have hr := B.returns
  have hts := atoms_spec (ws := wsX6_copyFrom) B.pre
  have hown : s.vm.findClass RX6 = some m.cls := findClass_of_methodNamed B.named
  have hlocks := B.notSynchronized
  subst hsz
  have hD := hD0.self (sz := s.heap.size)
  generalize hAe : va_A [(a0, .inr (6, [.int 5, .ref a1, .int 0])), (a1, .inl (kA 0, 100, .inl f)), (b0, .inr (6, [.int 5, .ref b1, .int 0])), (b1, .inl (kA 0, 100, .inl g))] s.heap.size = A at hD ⊢
  have hA : ∀ q : Nat, s.heap.size ≤ q → A q := fun q h => by rw [← hAe]; exact Or.inr h
  have hS : va_S A s.heap s.heap [] := va_S.rf
  have hP : va_P (dC, dI) vwCl [(a0, .inr (6, [.int 5, .ref a1, .int 0])), (a1, .inl (kA 0, 100, .inl f)), (b0, .inr (6, [.int 5, .ref b1, .int 0])), (b1, .inl (kA 0, 100, .inl g))] s.heap := hP
  have hl := lv_entry ([.ref a0, .ref b0]) (n := 2) (Nat.le_of_ble_eq_true rfl)
  rw [lg_entry_eq]
  generalize (lg_sl ([.ref a0, .ref b0]) ++ List.replicate (2 - (lg_sl ([.ref a0, .ref b0])).length) Slot.unset).toArray = ls at hl ⊢
  have hl : lv_has ls 2 [(0, .ref a0), (1, .ref b0)] := hl
  refine lv_aload_n hx hb dX6_copyFrom_0 rfl (lv_at hl 1 rfl) ?_
  refine va_get (D := (dC, dI)) (ci := 6) (v := .ref b1) (C := RX6) (T := TX6) (N := 3) hx hb hts iX6_copyFrom_X6 hown hK.1 hP 2 rfl rfl 1 (by decide) (kX6_copyFrom_1 hts) (fun _ h9 => h9) rfl dX6_copyFrom_1 ?_
  refine va_alen hx hb hK.1 hP 3 0 rfl rfl (v := 100) rfl dX6_copyFrom_4 ?_
  refine lv_aload_n hx hb dX6_copyFrom_5 rfl (lv_at hl 0 rfl) ?_
  refine va_get (D := (dC, dI)) (ci := 6) (v := .ref a1) (C := RX6) (T := TX6) (N := 3) hx hb hts iX6_copyFrom_X6 hown hK.1 hP 0 rfl rfl 1 (by decide) (kX6_copyFrom_1 hts) (fun _ h9 => h9) rfl dX6_copyFrom_6 ?_
  refine va_alen hx hb hK.1 hP 1 0 rfl rfl (v := 100) rfl dX6_copyFrom_9 ?_
  refine lv_icmp_ne (tgt := 39) hx hb dX6_copyFrom_10 (by decide) (fun c_1 => absurd (by decide) c_1) (fun _ => ?_)
  refine lv_aload_n hx hb dX6_copyFrom_13 rfl (lv_at hl 1 rfl) ?_
  refine va_get (D := (dC, dI)) (ci := 6) (v := .ref b1) (C := RX6) (T := TX6) (N := 3) hx hb hts iX6_copyFrom_X6 hown hK.1 hP 2 rfl rfl 1 (by decide) (kX6_copyFrom_1 hts) (fun _ h9 => h9) rfl dX6_copyFrom_14 ?_
  refine lv_iconst (v := 0) hx hb dX6_copyFrom_17 (by decide) ?_
  refine lv_aload_n hx hb dX6_copyFrom_18 rfl (lv_at hl 0 rfl) ?_
  refine va_get (D := (dC, dI)) (ci := 6) (v := .ref a1) (C := RX6) (T := TX6) (N := 3) hx hb hts iX6_copyFrom_X6 hown hK.1 hP 0 rfl rfl 1 (by decide) (kX6_copyFrom_1 hts) (fun _ h9 => h9) rfl dX6_copyFrom_19 ?_
  refine lv_iconst (v := 0) hx hb dX6_copyFrom_22 (by decide) ?_
  refine lv_aload_n hx hb dX6_copyFrom_23 rfl (lv_at hl 0 rfl) ?_
  refine va_get (D := (dC, dI)) (ci := 6) (v := .ref a1) (C := RX6) (T := TX6) (N := 3) hx hb hts iX6_copyFrom_X6 hown hK.1 hP 0 rfl rfl 1 (by decide) (kX6_copyFrom_1 hts) (fun _ h9 => h9) rfl dX6_copyFrom_24 ?_
  refine va_alen hx hb hK.1 hP 1 0 rfl rfl (v := 100) rfl dX6_copyFrom_27 ?_
  refine va_copyi hx hb (by rw [hml]; exact hl.1.symm) hown (kX6_copyFrom_2 hts) (kX6_copyFrom_3 hts) (kX6_copyFrom_4 hts) (kX6_copyFrom_5 hts) hK.1 hP hD hS 3 1 0 0 rfl rfl rfl rfl rfl (by decide) (by decide) (by decide) (by decide) (by decide) (fun _ _ => rfl) (Nat.le_of_ble_eq_true rfl) (Nat.le_of_ble_eq_true rfl) dX6_copyFrom_28 (fun H locs hP hD hS => ?_)
  have hP : va_P (dC, dI) vwCl [(a0, .inr (6, [.int 5, .ref a1, .int 0])), (a1, .inl (kA 0, 100, .inl (va_cpy g f (0 : Int32).toNatClampNeg (0 : Int32).toNatClampNeg (100 : Int32).toNatClampNeg))), (b0, .inr (6, [.int 5, .ref b1, .int 0])), (b1, .inl (kA 0, 100, .inl g))] H := hP
  have hD : va_D A [(a0, .inr (6, [.int 5, .ref a1, .int 0])), (a1, .inl (kA 0, 100, .inl (va_cpy g f (0 : Int32).toNatClampNeg (0 : Int32).toNatClampNeg (100 : Int32).toNatClampNeg))), (b0, .inr (6, [.int 5, .ref b1, .int 0])), (b1, .inl (kA 0, 100, .inl g))] := hD
  obtain ⟨f2, ef2⟩ : ∃ y : Nat → Int32, y = (va_cpy g f (0 : Int32).toNatClampNeg (0 : Int32).toNatClampNeg (100 : Int32).toNatClampNeg) := ⟨_, rfl⟩
  rw [← ef2] at hP hD
  refine lv_aload_n hx hb dX6_copyFrom_31 rfl (lv_at hl 0 rfl) ?_
  refine lv_aload_n hx hb dX6_copyFrom_32 rfl (lv_at hl 1 rfl) ?_
  refine va_get (D := (dC, dI)) (ci := 6) (v := .int 0) (C := RX6) (T := TX6) (N := 3) hx hb hts iX6_copyFrom_X6 hown hK.1 hP 2 rfl rfl 2 (by decide) (kX6_copyFrom_6 hts) (fun _ h9 => h9) rfl dX6_copyFrom_33 ?_
  refine va_put (D := (dC, dI)) (ci := 6) (v := .int 0) (ty := .int) (C := RX6) (T := TX6) (N := 3) hx hb hts iX6_copyFrom_X6 tyX6 tyX6_ok nmX6 hown hK.1 hP hD hS 0 rfl rfl 2 (by decide) (kX6_copyFrom_6 hts) (fun _ h9 => h9) rfl (by decide +kernel) rfl rfl (Nat.le_of_ble_eq_true rfl) dX6_copyFrom_36 (fun H locs hP hD hS => ?_)
  have hP : va_P (dC, dI) vwCl [(a0, .inr (6, [.int 5, .ref a1, .int 0])), (a1, .inl (kA 0, 100, .inl f2)), (b0, .inr (6, [.int 5, .ref b1, .int 0])), (b1, .inl (kA 0, 100, .inl g))] H := hP
  have hD : va_D A [(a0, .inr (6, [.int 5, .ref a1, .int 0])), (a1, .inl (kA 0, 100, .inl f2)), (b0, .inr (6, [.int 5, .ref b1, .int 0])), (b1, .inl (kA 0, 100, .inl g))] := hD
  have hP9 := hP.sub (ws' := []) [] rfl
  have hD9 := hD.sub (ws' := []) [] (by decide) rfl
  refine W.widen (k := 0) (n := 0) (Nat.le_of_ble_eq_true rfl) (Nat.le_of_ble_eq_true rfl) ?_
  exact W.vret hx hb hr (fun t ht hW => ⟨⟨(), rfl, trivial, by rw [ht]; exact hP9, hD9⟩, hS.F ht⟩) hS.2.2 dX6_copyFrom_39
set_option maxHeartbeats 4000000 in
set_option maxRecDepth 100000 in
theorem mX6_copyFrom_9 (l : Launch) (dC : Nat → ClassId) (dI : Nat → Nat → Nat) (kA : Nat → ClassId) (sz : Nat) (a0 : Nat) (a1 : Nat) (b0 : Nat) (b1 : Nat) (f : Nat → Int32) (g : Nat → Int32)  : Met l yX6_copyFrom wsX6_copyFrom ({ frames := 1, cells := 0, slots := 0, locals := 60 }) (zPc dC dI kA sz [.ref a0, .ref b0] [(a0, .inr (6, [.int 9, .ref a1, .int 0])), (a1, .inl (kA 0, 144, .inl f)), (b0, .inr (6, [.int 9, .ref b1, .int 0])), (b1, .inl (kA 0, 144, .inl g))]) (va_Qv (fun (u : Unit) => True) (zB dC dI (va_A [(a0, .inr (6, [.int 9, .ref a1, .int 0])), (a1, .inl (kA 0, 144, .inl f)), (b0, .inr (6, [.int 9, .ref b1, .int 0])), (b1, .inl (kA 0, 144, .inl g))] sz) (fun (u : Unit) => [])) (va_A [(a0, .inr (6, [.int 9, .ref a1, .int 0])), (a1, .inl (kA 0, 144, .inl f)), (b0, .inr (6, [.int 9, .ref b1, .int 0])), (b1, .inl (kA 0, 144, .inl g))] sz)) 0 0 (va_A [(a0, .inr (6, [.int 9, .ref a1, .int 0])), (a1, .inl (kA 0, 144, .inl f)), (b0, .inr (6, [.int 9, .ref b1, .int 0])), (b1, .inl (kA 0, 144, .inl g))] sz) := by
  refine Met.ofW (cc := cX6_copyFrom) (maxL := 2) (ret := none) (by decide) rfl ?_
  intro p e s m args below meth c s₁ B hml hv
  obtain ⟨rfl, hsz, hP, hK, hD0⟩ := hv
  have hx := B.exec
  have hb := B.bytes
  have hr := B.returns
  have hts := atoms_spec (ws := wsX6_copyFrom) B.pre
  have hown : s.vm.findClass RX6 = some m.cls := findClass_of_methodNamed B.named
  have hlocks := B.notSynchronized
  subst hsz
  have hD := hD0.self (sz := s.heap.size)
  generalize hAe : va_A [(a0, .inr (6, [.int 9, .ref a1, .int 0])), (a1, .inl (kA 0, 144, .inl f)), (b0, .inr (6, [.int 9, .ref b1, .int 0])), (b1, .inl (kA 0, 144, .inl g))] s.heap.size = A at hD ⊢
  have hA : ∀ q : Nat, s.heap.size ≤ q → A q := fun q h => by rw [← hAe]; exact Or.inr h
  have hS : va_S A s.heap s.heap [] := va_S.rf
  have hP : va_P (dC, dI) vwCl [(a0, .inr (6, [.int 9, .ref a1, .int 0])), (a1, .inl (kA 0, 144, .inl f)), (b0, .inr (6, [.int 9, .ref b1, .int 0])), (b1, .inl (kA 0, 144, .inl g))] s.heap := hP
  have hl := lv_entry ([.ref a0, .ref b0]) (n := 2) (Nat.le_of_ble_eq_true rfl)
  rw [lg_entry_eq]
  generalize (lg_sl ([.ref a0, .ref b0]) ++ List.replicate (2 - (lg_sl ([.ref a0, .ref b0])).length) Slot.unset).toArray = ls at hl ⊢
  have hl : lv_has ls 2 [(0, .ref a0), (1, .ref b0)] := hl
  refine lv_aload_n hx hb dX6_copyFrom_0 rfl (lv_at hl 1 rfl) ?_
  refine va_get (D := (dC, dI)) (ci := 6) (v := .ref b1) (C := RX6) (T := TX6) (N := 3) hx hb hts iX6_copyFrom_X6 hown hK.1 hP 2 rfl rfl 1 (by decide) (kX6_copyFrom_1 hts) (fun _ h9 => h9) rfl dX6_copyFrom_1 ?_
  refine va_alen hx hb hK.1 hP 3 0 rfl rfl (v := 144) rfl dX6_copyFrom_4 ?_
  refine lv_aload_n hx hb dX6_copyFrom_5 rfl (lv_at hl 0 rfl) ?_
  refine va_get (D := (dC, dI)) (ci := 6) (v := .ref a1) (C := RX6) (T := TX6) (N := 3) hx hb hts iX6_copyFrom_X6 hown hK.1 hP 0 rfl rfl 1 (by decide) (kX6_copyFrom_1 hts) (fun _ h9 => h9) rfl dX6_copyFrom_6 ?_
  refine va_alen hx hb hK.1 hP 1 0 rfl rfl (v := 144) rfl dX6_copyFrom_9 ?_
  refine lv_icmp_ne (tgt := 39) hx hb dX6_copyFrom_10 (by decide) (fun c_1 => absurd (by decide) c_1) (fun _ => ?_)
  refine lv_aload_n hx hb dX6_copyFrom_13 rfl (lv_at hl 1 rfl) ?_
  refine va_get (D := (dC, dI)) (ci := 6) (v := .ref b1) (C := RX6) (T := TX6) (N := 3) hx hb hts iX6_copyFrom_X6 hown hK.1 hP 2 rfl rfl 1 (by decide) (kX6_copyFrom_1 hts) (fun _ h9 => h9) rfl dX6_copyFrom_14 ?_
  refine lv_iconst (v := 0) hx hb dX6_copyFrom_17 (by decide) ?_
  refine lv_aload_n hx hb dX6_copyFrom_18 rfl (lv_at hl 0 rfl) ?_
  refine va_get (D := (dC, dI)) (ci := 6) (v := .ref a1) (C := RX6) (T := TX6) (N := 3) hx hb hts iX6_copyFrom_X6 hown hK.1 hP 0 rfl rfl 1 (by decide) (kX6_copyFrom_1 hts) (fun _ h9 => h9) rfl dX6_copyFrom_19 ?_
  refine lv_iconst (v := 0) hx hb dX6_copyFrom_22 (by decide) ?_
  refine lv_aload_n hx hb dX6_copyFrom_23 rfl (lv_at hl 0 rfl) ?_
  refine va_get (D := (dC, dI)) (ci := 6) (v := .ref a1) (C := RX6) (T := TX6) (N := 3) hx hb hts iX6_copyFrom_X6 hown hK.1 hP 0 rfl rfl 1 (by decide) (kX6_copyFrom_1 hts) (fun _ h9 => h9) rfl dX6_copyFrom_24 ?_
  refine va_alen hx hb hK.1 hP 1 0 rfl rfl (v := 144) rfl dX6_copyFrom_27 ?_
  refine va_copyi hx hb (by rw [hml]; exact hl.1.symm) hown (kX6_copyFrom_2 hts) (kX6_copyFrom_3 hts) (kX6_copyFrom_4 hts) (kX6_copyFrom_5 hts) hK.1 hP hD hS 3 1 0 0 rfl rfl rfl rfl rfl (by decide) (by decide) (by decide) (by decide) (by decide) (fun _ _ => rfl) (Nat.le_of_ble_eq_true rfl) (Nat.le_of_ble_eq_true rfl) dX6_copyFrom_28 (fun H locs hP hD hS => ?_)
  have hP : va_P (dC, dI) vwCl [(a0, .inr (6, [.int 9, .ref a1, .int 0])), (a1, .inl (kA 0, 144, .inl (va_cpy g f (0 : Int32).toNatClampNeg (0 : Int32).toNatClampNeg (144 : Int32).toNatClampNeg))), (b0, .inr (6, [.int 9, .ref b1, .int 0])), (b1, .inl (kA 0, 144, .inl g))] H := hP
  have hD : va_D A [(a0, .inr (6, [.int 9, .ref a1, .int 0])), (a1, .inl (kA 0, 144, .inl (va_cpy g f (0 : Int32).toNatClampNeg (0 : Int32).toNatClampNeg (144 : Int32).toNatClampNeg))), (b0, .inr (6, [.int 9, .ref b1, .int 0])), (b1, .inl (kA 0, 144, .inl g))] := hD
  obtain ⟨f2, ef2⟩ : ∃ y : Nat → Int32, y = (va_cpy g f (0 : Int32).toNatClampNeg (0 : Int32).toNatClampNeg (144 : Int32).toNatClampNeg) := ⟨_, rfl⟩
  rw [← ef2] at hP hD
  refine lv_aload_n hx hb dX6_copyFrom_31 rfl (lv_at hl 0 rfl) ?_
  refine lv_aload_n hx hb dX6_copyFrom_32 rfl (lv_at hl 1 rfl) ?_
  refine va_get (D := (dC, dI)) (ci := 6) (v := .int 0) (C := RX6) (T := TX6) (N := 3) hx hb hts iX6_copyFrom_X6 hown hK.1 hP 2 rfl rfl 2 (by decide) (kX6_copyFrom_6 hts) (fun _ h9 => h9) rfl dX6_copyFrom_33 ?_
  refine va_put (D := (dC, dI)) (ci := 6) (v := .int 0) (ty := .int) (C := RX6) (T := TX6) (N := 3) hx hb hts iX6_copyFrom_X6 tyX6 tyX6_ok nmX6 hown hK.1 hP hD hS 0 rfl rfl 2 (by decide) (kX6_copyFrom_6 hts) (fun _ h9 => h9) rfl (by decide +kernel) rfl rfl (Nat.le_of_ble_eq_true rfl) dX6_copyFrom_36 (fun H locs hP hD hS => ?_)
  have hP : va_P (dC, dI) vwCl [(a0, .inr (6, [.int 9, .ref a1, .int 0])), (a1, .inl (kA 0, 144, .inl f2)), (b0, .inr (6, [.int 9, .ref b1, .int 0])), (b1, .inl (kA 0, 144, .inl g))] H := hP
  have hD : va_D A [(a0, .inr (6, [.int 9, .ref a1, .int 0])), (a1, .inl (kA 0, 144, .inl f2)), (b0, .inr (6, [.int 9, .ref b1, .int 0])), (b1, .inl (kA 0, 144, .inl g))] := hD
  have hP9 := hP.sub (ws' := []) [] rfl
  have hD9 := hD.sub (ws' := []) [] (by decide) rfl
  refine W.widen (k := 0) (n := 0) (Nat.le_of_ble_eq_true rfl) (Nat.le_of_ble_eq_true rfl) ?_
  exact W.vret hx hb hr (fun t ht hW => ⟨⟨(), rfl, trivial, by rw [ht]; exact hP9, hD9⟩, hS.F ht⟩) hS.2.2 dX6_copyFrom_39
set_option maxHeartbeats 4000000 in
set_option maxRecDepth 100000 in
theorem mX6_copyFrom_o (l : Launch) (dC : Nat → ClassId) (dI : Nat → Nat → Nat) (kA : Nat → ClassId) (sz : Nat) (a0 : Nat) (a1 : Nat) (b0 : Nat) (b1 : Nat) (f : Nat → Int32) (g : Nat → Int32)  : Met l yX6_copyFrom wsX6_copyFrom ({ frames := 1, cells := 0, slots := 0, locals := 60 }) (zPc dC dI kA sz [.ref a0, .ref b0] [(a0, .inr (6, [.int 4, .ref a1, .int 0])), (a1, .inl (kA 0, 24, .inl f)), (b0, .inr (6, [.int 4, .ref b1, .int 0])), (b1, .inl (kA 0, 24, .inl g))]) (va_Qv (fun (u : Unit) => True) (zB dC dI (va_A [(a0, .inr (6, [.int 4, .ref a1, .int 0])), (a1, .inl (kA 0, 24, .inl f)), (b0, .inr (6, [.int 4, .ref b1, .int 0])), (b1, .inl (kA 0, 24, .inl g))] sz) (fun (u : Unit) => [])) (va_A [(a0, .inr (6, [.int 4, .ref a1, .int 0])), (a1, .inl (kA 0, 24, .inl f)), (b0, .inr (6, [.int 4, .ref b1, .int 0])), (b1, .inl (kA 0, 24, .inl g))] sz)) 0 0 (va_A [(a0, .inr (6, [.int 4, .ref a1, .int 0])), (a1, .inl (kA 0, 24, .inl f)), (b0, .inr (6, [.int 4, .ref b1, .int 0])), (b1, .inl (kA 0, 24, .inl g))] sz) := by
  refine Met.ofW (cc := cX6_copyFrom) (maxL := 2) (ret := none) (by decide) rfl ?_
  intro p e s m args below meth c s₁ B hml hv
  obtain ⟨rfl, hsz, hP, hK, hD0⟩ := hv
  have hx := B.exec
  have hb := B.bytes
  have hr := B.returns
  have hts := atoms_spec (ws := wsX6_copyFrom) B.pre
  have hown : s.vm.findClass RX6 = some m.cls := findClass_of_methodNamed B.named
  have hlocks := B.notSynchronized
  subst hsz
  have hD := hD0.self (sz := s.heap.size)
  generalize hAe : va_A [(a0, .inr (6, [.int 4, .ref a1, .int 0])), (a1, .inl (kA 0, 24, .inl f)), (b0, .inr (6, [.int 4, .ref b1, .int 0])), (b1, .inl (kA 0, 24, .inl g))] s.heap.size = A at hD ⊢
  have hA : ∀ q : Nat, s.heap.size ≤ q → A q := fun q h => by rw [← hAe]; exact Or.inr h
  have hS : va_S A s.heap s.heap [] := va_S.rf
  have hP : va_P (dC, dI) vwCl [(a0, .inr (6, [.int 4, .ref a1, .int 0])), (a1, .inl (kA 0, 24, .inl f)), (b0, .inr (6, [.int 4, .ref b1, .int 0])), (b1, .inl (kA 0, 24, .inl g))] s.heap := hP
  have hl := lv_entry ([.ref a0, .ref b0]) (n := 2) (Nat.le_of_ble_eq_true rfl)
  rw [lg_entry_eq]
  generalize (lg_sl ([.ref a0, .ref b0]) ++ List.replicate (2 - (lg_sl ([.ref a0, .ref b0])).length) Slot.unset).toArray = ls at hl ⊢
  have hl : lv_has ls 2 [(0, .ref a0), (1, .ref b0)] := hl
  refine lv_aload_n hx hb dX6_copyFrom_0 rfl (lv_at hl 1 rfl) ?_
  refine va_get (D := (dC, dI)) (ci := 6) (v := .ref b1) (C := RX6) (T := TX6) (N := 3) hx hb hts iX6_copyFrom_X6 hown hK.1 hP 2 rfl rfl 1 (by decide) (kX6_copyFrom_1 hts) (fun _ h9 => h9) rfl dX6_copyFrom_1 ?_
  refine va_alen hx hb hK.1 hP 3 0 rfl rfl (v := 24) rfl dX6_copyFrom_4 ?_
  refine lv_aload_n hx hb dX6_copyFrom_5 rfl (lv_at hl 0 rfl) ?_
  refine va_get (D := (dC, dI)) (ci := 6) (v := .ref a1) (C := RX6) (T := TX6) (N := 3) hx hb hts iX6_copyFrom_X6 hown hK.1 hP 0 rfl rfl 1 (by decide) (kX6_copyFrom_1 hts) (fun _ h9 => h9) rfl dX6_copyFrom_6 ?_
  refine va_alen hx hb hK.1 hP 1 0 rfl rfl (v := 24) rfl dX6_copyFrom_9 ?_
  refine lv_icmp_ne (tgt := 39) hx hb dX6_copyFrom_10 (by decide) (fun c_1 => absurd (by decide) c_1) (fun _ => ?_)
  refine lv_aload_n hx hb dX6_copyFrom_13 rfl (lv_at hl 1 rfl) ?_
  refine va_get (D := (dC, dI)) (ci := 6) (v := .ref b1) (C := RX6) (T := TX6) (N := 3) hx hb hts iX6_copyFrom_X6 hown hK.1 hP 2 rfl rfl 1 (by decide) (kX6_copyFrom_1 hts) (fun _ h9 => h9) rfl dX6_copyFrom_14 ?_
  refine lv_iconst (v := 0) hx hb dX6_copyFrom_17 (by decide) ?_
  refine lv_aload_n hx hb dX6_copyFrom_18 rfl (lv_at hl 0 rfl) ?_
  refine va_get (D := (dC, dI)) (ci := 6) (v := .ref a1) (C := RX6) (T := TX6) (N := 3) hx hb hts iX6_copyFrom_X6 hown hK.1 hP 0 rfl rfl 1 (by decide) (kX6_copyFrom_1 hts) (fun _ h9 => h9) rfl dX6_copyFrom_19 ?_
  refine lv_iconst (v := 0) hx hb dX6_copyFrom_22 (by decide) ?_
  refine lv_aload_n hx hb dX6_copyFrom_23 rfl (lv_at hl 0 rfl) ?_
  refine va_get (D := (dC, dI)) (ci := 6) (v := .ref a1) (C := RX6) (T := TX6) (N := 3) hx hb hts iX6_copyFrom_X6 hown hK.1 hP 0 rfl rfl 1 (by decide) (kX6_copyFrom_1 hts) (fun _ h9 => h9) rfl dX6_copyFrom_24 ?_
  refine va_alen hx hb hK.1 hP 1 0 rfl rfl (v := 24) rfl dX6_copyFrom_27 ?_
  refine va_copyi hx hb (by rw [hml]; exact hl.1.symm) hown (kX6_copyFrom_2 hts) (kX6_copyFrom_3 hts) (kX6_copyFrom_4 hts) (kX6_copyFrom_5 hts) hK.1 hP hD hS 3 1 0 0 rfl rfl rfl rfl rfl (by decide) (by decide) (by decide) (by decide) (by decide) (fun _ _ => rfl) (Nat.le_of_ble_eq_true rfl) (Nat.le_of_ble_eq_true rfl) dX6_copyFrom_28 (fun H locs hP hD hS => ?_)
  have hP : va_P (dC, dI) vwCl [(a0, .inr (6, [.int 4, .ref a1, .int 0])), (a1, .inl (kA 0, 24, .inl (va_cpy g f (0 : Int32).toNatClampNeg (0 : Int32).toNatClampNeg (24 : Int32).toNatClampNeg))), (b0, .inr (6, [.int 4, .ref b1, .int 0])), (b1, .inl (kA 0, 24, .inl g))] H := hP
  have hD : va_D A [(a0, .inr (6, [.int 4, .ref a1, .int 0])), (a1, .inl (kA 0, 24, .inl (va_cpy g f (0 : Int32).toNatClampNeg (0 : Int32).toNatClampNeg (24 : Int32).toNatClampNeg))), (b0, .inr (6, [.int 4, .ref b1, .int 0])), (b1, .inl (kA 0, 24, .inl g))] := hD
  obtain ⟨f2, ef2⟩ : ∃ y : Nat → Int32, y = (va_cpy g f (0 : Int32).toNatClampNeg (0 : Int32).toNatClampNeg (24 : Int32).toNatClampNeg) := ⟨_, rfl⟩
  rw [← ef2] at hP hD
  refine lv_aload_n hx hb dX6_copyFrom_31 rfl (lv_at hl 0 rfl) ?_
  refine lv_aload_n hx hb dX6_copyFrom_32 rfl (lv_at hl 1 rfl) ?_
  refine va_get (D := (dC, dI)) (ci := 6) (v := .int 0) (C := RX6) (T := TX6) (N := 3) hx hb hts iX6_copyFrom_X6 hown hK.1 hP 2 rfl rfl 2 (by decide) (kX6_copyFrom_6 hts) (fun _ h9 => h9) rfl dX6_copyFrom_33 ?_
  refine va_put (D := (dC, dI)) (ci := 6) (v := .int 0) (ty := .int) (C := RX6) (T := TX6) (N := 3) hx hb hts iX6_copyFrom_X6 tyX6 tyX6_ok nmX6 hown hK.1 hP hD hS 0 rfl rfl 2 (by decide) (kX6_copyFrom_6 hts) (fun _ h9 => h9) rfl (by decide +kernel) rfl rfl (Nat.le_of_ble_eq_true rfl) dX6_copyFrom_36 (fun H locs hP hD hS => ?_)
  have hP : va_P (dC, dI) vwCl [(a0, .inr (6, [.int 4, .ref a1, .int 0])), (a1, .inl (kA 0, 24, .inl f2)), (b0, .inr (6, [.int 4, .ref b1, .int 0])), (b1, .inl (kA 0, 24, .inl g))] H := hP
  have hD : va_D A [(a0, .inr (6, [.int 4, .ref a1, .int 0])), (a1, .inl (kA 0, 24, .inl f2)), (b0, .inr (6, [.int 4, .ref b1, .int 0])), (b1, .inl (kA 0, 24, .inl g))] := hD
  have hP9 := hP.sub (ws' := []) [] rfl
  have hD9 := hD.sub (ws' := []) [] (by decide) rfl
  refine W.widen (k := 0) (n := 0) (Nat.le_of_ble_eq_true rfl) (Nat.le_of_ble_eq_true rfl) ?_
  exact W.vret hx hb hr (fun t ht hW => ⟨⟨(), rfl, trivial, by rw [ht]; exact hP9, hD9⟩, hS.F ht⟩) hS.2.2 dX6_copyFrom_39
set_option maxHeartbeats 4000000 in
set_option maxRecDepth 100000 in
theorem mX6_copyFrom_3 (l : Launch) (dC : Nat → ClassId) (dI : Nat → Nat → Nat) (kA : Nat → ClassId) (sz : Nat) (a0 : Nat) (a1 : Nat) (b0 : Nat) (b1 : Nat) (f : Nat → Int32) (g : Nat → Int32)  : Met l yX6_copyFrom wsX6_copyFrom ({ frames := 1, cells := 0, slots := 0, locals := 60 }) (zPc dC dI kA sz [.ref a0, .ref b0] [(a0, .inr (6, [.int 3, .ref a1, .int 0])), (a1, .inl (kA 0, 24, .inl f)), (b0, .inr (6, [.int 3, .ref b1, .int 0])), (b1, .inl (kA 0, 24, .inl g))]) (va_Qv (fun (u : Unit) => True) (zB dC dI (va_A [(a0, .inr (6, [.int 3, .ref a1, .int 0])), (a1, .inl (kA 0, 24, .inl f)), (b0, .inr (6, [.int 3, .ref b1, .int 0])), (b1, .inl (kA 0, 24, .inl g))] sz) (fun (u : Unit) => [])) (va_A [(a0, .inr (6, [.int 3, .ref a1, .int 0])), (a1, .inl (kA 0, 24, .inl f)), (b0, .inr (6, [.int 3, .ref b1, .int 0])), (b1, .inl (kA 0, 24, .inl g))] sz)) 0 0 (va_A [(a0, .inr (6, [.int 3, .ref a1, .int 0])), (a1, .inl (kA 0, 24, .inl f)), (b0, .inr (6, [.int 3, .ref b1, .int 0])), (b1, .inl (kA 0, 24, .inl g))] sz) := by
  refine Met.ofW (cc := cX6_copyFrom) (maxL := 2) (ret := none) (by decide) rfl ?_
  intro p e s m args below meth c s₁ B hml hv
  obtain ⟨rfl, hsz, hP, hK, hD0⟩ := hv
  have hx := B.exec
  have hb := B.bytes
  have hr := B.returns
  have hts := atoms_spec (ws := wsX6_copyFrom) B.pre
  have hown : s.vm.findClass RX6 = some m.cls := findClass_of_methodNamed B.named
  have hlocks := B.notSynchronized
  subst hsz
  have hD := hD0.self (sz := s.heap.size)
  generalize hAe : va_A [(a0, .inr (6, [.int 3, .ref a1, .int 0])), (a1, .inl (kA 0, 24, .inl f)), (b0, .inr (6, [.int 3, .ref b1, .int 0])), (b1, .inl (kA 0, 24, .inl g))] s.heap.size = A at hD ⊢
  have hA : ∀ q : Nat, s.heap.size ≤ q → A q := fun q h => by rw [← hAe]; exact Or.inr h
  have hS : va_S A s.heap s.heap [] := va_S.rf
  have hP : va_P (dC, dI) vwCl [(a0, .inr (6, [.int 3, .ref a1, .int 0])), (a1, .inl (kA 0, 24, .inl f)), (b0, .inr (6, [.int 3, .ref b1, .int 0])), (b1, .inl (kA 0, 24, .inl g))] s.heap := hP
  have hl := lv_entry ([.ref a0, .ref b0]) (n := 2) (Nat.le_of_ble_eq_true rfl)
  rw [lg_entry_eq]
  generalize (lg_sl ([.ref a0, .ref b0]) ++ List.replicate (2 - (lg_sl ([.ref a0, .ref b0])).length) Slot.unset).toArray = ls at hl ⊢
  have hl : lv_has ls 2 [(0, .ref a0), (1, .ref b0)] := hl
  refine lv_aload_n hx hb dX6_copyFrom_0 rfl (lv_at hl 1 rfl) ?_
  refine va_get (D := (dC, dI)) (ci := 6) (v := .ref b1) (C := RX6) (T := TX6) (N := 3) hx hb hts iX6_copyFrom_X6 hown hK.1 hP 2 rfl rfl 1 (by decide) (kX6_copyFrom_1 hts) (fun _ h9 => h9) rfl dX6_copyFrom_1 ?_
  refine va_alen hx hb hK.1 hP 3 0 rfl rfl (v := 24) rfl dX6_copyFrom_4 ?_
  refine lv_aload_n hx hb dX6_copyFrom_5 rfl (lv_at hl 0 rfl) ?_
  refine va_get (D := (dC, dI)) (ci := 6) (v := .ref a1) (C := RX6) (T := TX6) (N := 3) hx hb hts iX6_copyFrom_X6 hown hK.1 hP 0 rfl rfl 1 (by decide) (kX6_copyFrom_1 hts) (fun _ h9 => h9) rfl dX6_copyFrom_6 ?_
  refine va_alen hx hb hK.1 hP 1 0 rfl rfl (v := 24) rfl dX6_copyFrom_9 ?_
  refine lv_icmp_ne (tgt := 39) hx hb dX6_copyFrom_10 (by decide) (fun c_1 => absurd (by decide) c_1) (fun _ => ?_)
  refine lv_aload_n hx hb dX6_copyFrom_13 rfl (lv_at hl 1 rfl) ?_
  refine va_get (D := (dC, dI)) (ci := 6) (v := .ref b1) (C := RX6) (T := TX6) (N := 3) hx hb hts iX6_copyFrom_X6 hown hK.1 hP 2 rfl rfl 1 (by decide) (kX6_copyFrom_1 hts) (fun _ h9 => h9) rfl dX6_copyFrom_14 ?_
  refine lv_iconst (v := 0) hx hb dX6_copyFrom_17 (by decide) ?_
  refine lv_aload_n hx hb dX6_copyFrom_18 rfl (lv_at hl 0 rfl) ?_
  refine va_get (D := (dC, dI)) (ci := 6) (v := .ref a1) (C := RX6) (T := TX6) (N := 3) hx hb hts iX6_copyFrom_X6 hown hK.1 hP 0 rfl rfl 1 (by decide) (kX6_copyFrom_1 hts) (fun _ h9 => h9) rfl dX6_copyFrom_19 ?_
  refine lv_iconst (v := 0) hx hb dX6_copyFrom_22 (by decide) ?_
  refine lv_aload_n hx hb dX6_copyFrom_23 rfl (lv_at hl 0 rfl) ?_
  refine va_get (D := (dC, dI)) (ci := 6) (v := .ref a1) (C := RX6) (T := TX6) (N := 3) hx hb hts iX6_copyFrom_X6 hown hK.1 hP 0 rfl rfl 1 (by decide) (kX6_copyFrom_1 hts) (fun _ h9 => h9) rfl dX6_copyFrom_24 ?_
  refine va_alen hx hb hK.1 hP 1 0 rfl rfl (v := 24) rfl dX6_copyFrom_27 ?_
  refine va_copyi hx hb (by rw [hml]; exact hl.1.symm) hown (kX6_copyFrom_2 hts) (kX6_copyFrom_3 hts) (kX6_copyFrom_4 hts) (kX6_copyFrom_5 hts) hK.1 hP hD hS 3 1 0 0 rfl rfl rfl rfl rfl (by decide) (by decide) (by decide) (by decide) (by decide) (fun _ _ => rfl) (Nat.le_of_ble_eq_true rfl) (Nat.le_of_ble_eq_true rfl) dX6_copyFrom_28 (fun H locs hP hD hS => ?_)
  have hP : va_P (dC, dI) vwCl [(a0, .inr (6, [.int 3, .ref a1, .int 0])), (a1, .inl (kA 0, 24, .inl (va_cpy g f (0 : Int32).toNatClampNeg (0 : Int32).toNatClampNeg (24 : Int32).toNatClampNeg))), (b0, .inr (6, [.int 3, .ref b1, .int 0])), (b1, .inl (kA 0, 24, .inl g))] H := hP
  have hD : va_D A [(a0, .inr (6, [.int 3, .ref a1, .int 0])), (a1, .inl (kA 0, 24, .inl (va_cpy g f (0 : Int32).toNatClampNeg (0 : Int32).toNatClampNeg (24 : Int32).toNatClampNeg))), (b0, .inr (6, [.int 3, .ref b1, .int 0])), (b1, .inl (kA 0, 24, .inl g))] := hD
  obtain ⟨f2, ef2⟩ : ∃ y : Nat → Int32, y = (va_cpy g f (0 : Int32).toNatClampNeg (0 : Int32).toNatClampNeg (24 : Int32).toNatClampNeg) := ⟨_, rfl⟩
  rw [← ef2] at hP hD
  refine lv_aload_n hx hb dX6_copyFrom_31 rfl (lv_at hl 0 rfl) ?_
  refine lv_aload_n hx hb dX6_copyFrom_32 rfl (lv_at hl 1 rfl) ?_
  refine va_get (D := (dC, dI)) (ci := 6) (v := .int 0) (C := RX6) (T := TX6) (N := 3) hx hb hts iX6_copyFrom_X6 hown hK.1 hP 2 rfl rfl 2 (by decide) (kX6_copyFrom_6 hts) (fun _ h9 => h9) rfl dX6_copyFrom_33 ?_
  refine va_put (D := (dC, dI)) (ci := 6) (v := .int 0) (ty := .int) (C := RX6) (T := TX6) (N := 3) hx hb hts iX6_copyFrom_X6 tyX6 tyX6_ok nmX6 hown hK.1 hP hD hS 0 rfl rfl 2 (by decide) (kX6_copyFrom_6 hts) (fun _ h9 => h9) rfl (by decide +kernel) rfl rfl (Nat.le_of_ble_eq_true rfl) dX6_copyFrom_36 (fun H locs hP hD hS => ?_)
  have hP : va_P (dC, dI) vwCl [(a0, .inr (6, [.int 3, .ref a1, .int 0])), (a1, .inl (kA 0, 24, .inl f2)), (b0, .inr (6, [.int 3, .ref b1, .int 0])), (b1, .inl (kA 0, 24, .inl g))] H := hP
  have hD : va_D A [(a0, .inr (6, [.int 3, .ref a1, .int 0])), (a1, .inl (kA 0, 24, .inl f2)), (b0, .inr (6, [.int 3, .ref b1, .int 0])), (b1, .inl (kA 0, 24, .inl g))] := hD
  have hP9 := hP.sub (ws' := []) [] rfl
  have hD9 := hD.sub (ws' := []) [] (by decide) rfl
  refine W.widen (k := 0) (n := 0) (Nat.le_of_ble_eq_true rfl) (Nat.le_of_ble_eq_true rfl) ?_
  exact W.vret hx hb hr (fun t ht hW => ⟨⟨(), rfl, trivial, by rw [ht]; exact hP9, hD9⟩, hS.F ht⟩) hS.2.2 dX6_copyFrom_39
set_option maxHeartbeats 4000000 in
set_option maxRecDepth 100000 in
theorem mX6_copyFrom_1 (l : Launch) (dC : Nat → ClassId) (dI : Nat → Nat → Nat) (kA : Nat → ClassId) (sz : Nat) (a0 : Nat) (a1 : Nat) (b0 : Nat) (b1 : Nat) (f : Nat → Int32) (g : Nat → Int32)  : Met l yX6_copyFrom wsX6_copyFrom ({ frames := 1, cells := 0, slots := 0, locals := 60 }) (zPc dC dI kA sz [.ref a0, .ref b0] [(a0, .inr (6, [.int 1, .ref a1, .int 0])), (a1, .inl (kA 0, 6, .inl f)), (b0, .inr (6, [.int 1, .ref b1, .int 0])), (b1, .inl (kA 0, 6, .inl g))]) (va_Qv (fun (u : Unit) => True) (zB dC dI (va_A [(a0, .inr (6, [.int 1, .ref a1, .int 0])), (a1, .inl (kA 0, 6, .inl f)), (b0, .inr (6, [.int 1, .ref b1, .int 0])), (b1, .inl (kA 0, 6, .inl g))] sz) (fun (u : Unit) => [])) (va_A [(a0, .inr (6, [.int 1, .ref a1, .int 0])), (a1, .inl (kA 0, 6, .inl f)), (b0, .inr (6, [.int 1, .ref b1, .int 0])), (b1, .inl (kA 0, 6, .inl g))] sz)) 0 0 (va_A [(a0, .inr (6, [.int 1, .ref a1, .int 0])), (a1, .inl (kA 0, 6, .inl f)), (b0, .inr (6, [.int 1, .ref b1, .int 0])), (b1, .inl (kA 0, 6, .inl g))] sz) := by
  refine Met.ofW (cc := cX6_copyFrom) (maxL := 2) (ret := none) (by decide) rfl ?_
  intro p e s m args below meth c s₁ B hml hv
  obtain ⟨rfl, hsz, hP, hK, hD0⟩ := hv
  have hx := B.exec
  have hb := B.bytes
  have hr := B.returns
  have hts := atoms_spec (ws := wsX6_copyFrom) B.pre
  have hown : s.vm.findClass RX6 = some m.cls := findClass_of_methodNamed B.named
  have hlocks := B.notSynchronized
  subst hsz
  have hD := hD0.self (sz := s.heap.size)
  generalize hAe : va_A [(a0, .inr (6, [.int 1, .ref a1, .int 0])), (a1, .inl (kA 0, 6, .inl f)), (b0, .inr (6, [.int 1, .ref b1, .int 0])), (b1, .inl (kA 0, 6, .inl g))] s.heap.size = A at hD ⊢
  have hA : ∀ q : Nat, s.heap.size ≤ q → A q := fun q h => by rw [← hAe]; exact Or.inr h
  have hS : va_S A s.heap s.heap [] := va_S.rf
  have hP : va_P (dC, dI) vwCl [(a0, .inr (6, [.int 1, .ref a1, .int 0])), (a1, .inl (kA 0, 6, .inl f)), (b0, .inr (6, [.int 1, .ref b1, .int 0])), (b1, .inl (kA 0, 6, .inl g))] s.heap := hP
  have hl := lv_entry ([.ref a0, .ref b0]) (n := 2) (Nat.le_of_ble_eq_true rfl)
  rw [lg_entry_eq]
  generalize (lg_sl ([.ref a0, .ref b0]) ++ List.replicate (2 - (lg_sl ([.ref a0, .ref b0])).length) Slot.unset).toArray = ls at hl ⊢
  have hl : lv_has ls 2 [(0, .ref a0), (1, .ref b0)] := hl
  refine lv_aload_n hx hb dX6_copyFrom_0 rfl (lv_at hl 1 rfl) ?_
  refine va_get (D := (dC, dI)) (ci := 6) (v := .ref b1) (C := RX6) (T := TX6) (N := 3) hx hb hts iX6_copyFrom_X6 hown hK.1 hP 2 rfl rfl 1 (by decide) (kX6_copyFrom_1 hts) (fun _ h9 => h9) rfl dX6_copyFrom_1 ?_
  refine va_alen hx hb hK.1 hP 3 0 rfl rfl (v := 6) rfl dX6_copyFrom_4 ?_
  refine lv_aload_n hx hb dX6_copyFrom_5 rfl (lv_at hl 0 rfl) ?_
  refine va_get (D := (dC, dI)) (ci := 6) (v := .ref a1) (C := RX6) (T := TX6) (N := 3) hx hb hts iX6_copyFrom_X6 hown hK.1 hP 0 rfl rfl 1 (by decide) (kX6_copyFrom_1 hts) (fun _ h9 => h9) rfl dX6_copyFrom_6 ?_
  refine va_alen hx hb hK.1 hP 1 0 rfl rfl (v := 6) rfl dX6_copyFrom_9 ?_
  refine lv_icmp_ne (tgt := 39) hx hb dX6_copyFrom_10 (by decide) (fun c_1 => absurd (by decide) c_1) (fun _ => ?_)
  refine lv_aload_n hx hb dX6_copyFrom_13 rfl (lv_at hl 1 rfl) ?_
  refine va_get (D := (dC, dI)) (ci := 6) (v := .ref b1) (C := RX6) (T := TX6) (N := 3) hx hb hts iX6_copyFrom_X6 hown hK.1 hP 2 rfl rfl 1 (by decide) (kX6_copyFrom_1 hts) (fun _ h9 => h9) rfl dX6_copyFrom_14 ?_
  refine lv_iconst (v := 0) hx hb dX6_copyFrom_17 (by decide) ?_
  refine lv_aload_n hx hb dX6_copyFrom_18 rfl (lv_at hl 0 rfl) ?_
  refine va_get (D := (dC, dI)) (ci := 6) (v := .ref a1) (C := RX6) (T := TX6) (N := 3) hx hb hts iX6_copyFrom_X6 hown hK.1 hP 0 rfl rfl 1 (by decide) (kX6_copyFrom_1 hts) (fun _ h9 => h9) rfl dX6_copyFrom_19 ?_
  refine lv_iconst (v := 0) hx hb dX6_copyFrom_22 (by decide) ?_
  refine lv_aload_n hx hb dX6_copyFrom_23 rfl (lv_at hl 0 rfl) ?_
  refine va_get (D := (dC, dI)) (ci := 6) (v := .ref a1) (C := RX6) (T := TX6) (N := 3) hx hb hts iX6_copyFrom_X6 hown hK.1 hP 0 rfl rfl 1 (by decide) (kX6_copyFrom_1 hts) (fun _ h9 => h9) rfl dX6_copyFrom_24 ?_
  refine va_alen hx hb hK.1 hP 1 0 rfl rfl (v := 6) rfl dX6_copyFrom_27 ?_
  refine va_copyi hx hb (by rw [hml]; exact hl.1.symm) hown (kX6_copyFrom_2 hts) (kX6_copyFrom_3 hts) (kX6_copyFrom_4 hts) (kX6_copyFrom_5 hts) hK.1 hP hD hS 3 1 0 0 rfl rfl rfl rfl rfl (by decide) (by decide) (by decide) (by decide) (by decide) (fun _ _ => rfl) (Nat.le_of_ble_eq_true rfl) (Nat.le_of_ble_eq_true rfl) dX6_copyFrom_28 (fun H locs hP hD hS => ?_)
  have hP : va_P (dC, dI) vwCl [(a0, .inr (6, [.int 1, .ref a1, .int 0])), (a1, .inl (kA 0, 6, .inl (va_cpy g f (0 : Int32).toNatClampNeg (0 : Int32).toNatClampNeg (6 : Int32).toNatClampNeg))), (b0, .inr (6, [.int 1, .ref b1, .int 0])), (b1, .inl (kA 0, 6, .inl g))] H := hP
  have hD : va_D A [(a0, .inr (6, [.int 1, .ref a1, .int 0])), (a1, .inl (kA 0, 6, .inl (va_cpy g f (0 : Int32).toNatClampNeg (0 : Int32).toNatClampNeg (6 : Int32).toNatClampNeg))), (b0, .inr (6, [.int 1, .ref b1, .int 0])), (b1, .inl (kA 0, 6, .inl g))] := hD
  obtain ⟨f2, ef2⟩ : ∃ y : Nat → Int32, y = (va_cpy g f (0 : Int32).toNatClampNeg (0 : Int32).toNatClampNeg (6 : Int32).toNatClampNeg) := ⟨_, rfl⟩
  rw [← ef2] at hP hD
  refine lv_aload_n hx hb dX6_copyFrom_31 rfl (lv_at hl 0 rfl) ?_
  refine lv_aload_n hx hb dX6_copyFrom_32 rfl (lv_at hl 1 rfl) ?_
  refine va_get (D := (dC, dI)) (ci := 6) (v := .int 0) (C := RX6) (T := TX6) (N := 3) hx hb hts iX6_copyFrom_X6 hown hK.1 hP 2 rfl rfl 2 (by decide) (kX6_copyFrom_6 hts) (fun _ h9 => h9) rfl dX6_copyFrom_33 ?_
  refine va_put (D := (dC, dI)) (ci := 6) (v := .int 0) (ty := .int) (C := RX6) (T := TX6) (N := 3) hx hb hts iX6_copyFrom_X6 tyX6 tyX6_ok nmX6 hown hK.1 hP hD hS 0 rfl rfl 2 (by decide) (kX6_copyFrom_6 hts) (fun _ h9 => h9) rfl (by decide +kernel) rfl rfl (Nat.le_of_ble_eq_true rfl) dX6_copyFrom_36 (fun H locs hP hD hS => ?_)
  have hP : va_P (dC, dI) vwCl [(a0, .inr (6, [.int 1, .ref a1, .int 0])), (a1, .inl (kA 0, 6, .inl f2)), (b0, .inr (6, [.int 1, .ref b1, .int 0])), (b1, .inl (kA 0, 6, .inl g))] H := hP
  have hD : va_D A [(a0, .inr (6, [.int 1, .ref a1, .int 0])), (a1, .inl (kA 0, 6, .inl f2)), (b0, .inr (6, [.int 1, .ref b1, .int 0])), (b1, .inl (kA 0, 6, .inl g))] := hD
  have hP9 := hP.sub (ws' := []) [] rfl
  have hD9 := hD.sub (ws' := []) [] (by decide) rfl
  refine W.widen (k := 0) (n := 0) (Nat.le_of_ble_eq_true rfl) (Nat.le_of_ble_eq_true rfl) ?_
  exact W.vret hx hb hr (fun t ht hW => ⟨⟨(), rfl, trivial, by rw [ht]; exact hP9, hD9⟩, hS.F ht⟩) hS.2.2 dX6_copyFrom_39
set_option maxHeartbeats 4000000 in
set_option maxRecDepth 100000 in
theorem mX9_monthAt (l : Launch) (dC : Nat → ClassId) (dI : Nat → Nat → Nat) (kA : Nat → ClassId) (sz : Nat) (a0 : Nat) (tnodes : Nat) (tpasses : Nat) (tjars : Nat) (torders : Nat) (tfeasts : Nat) (tway : Nat)  : Met l yX9_monthAt wsX9_monthAt ({ frames := 0, cells := 0, slots := 0, locals := 0 }) (zPc dC dI kA sz [.ref a0, .int 0] [(a0, .inr (9, [.ref tnodes, .ref tpasses, .ref tjars, .ref torders, .ref tfeasts, .ref tway, .int (-1), .int 0, .int 0, .int 0]))]) (va_Qi (fun (r : Int32) (u : Unit) => r = 0) (zB dC dI (va_A [(a0, .inr (9, [.ref tnodes, .ref tpasses, .ref tjars, .ref torders, .ref tfeasts, .ref tway, .int (-1), .int 0, .int 0, .int 0]))] sz) (fun (u : Unit) => [(a0, .inr (9, [.ref tnodes, .ref tpasses, .ref tjars, .ref torders, .ref tfeasts, .ref tway, .int (-1), .int 0, .int 0, .int 0]))])) (va_A [(a0, .inr (9, [.ref tnodes, .ref tpasses, .ref tjars, .ref torders, .ref tfeasts, .ref tway, .int (-1), .int 0, .int 0, .int 0]))] sz)) 0 0 (va_A [(a0, .inr (9, [.ref tnodes, .ref tpasses, .ref tjars, .ref torders, .ref tfeasts, .ref tway, .int (-1), .int 0, .int 0, .int 0]))] sz) := by
  refine Met.ofW (cc := cX9_monthAt) (maxL := 2) (ret := (some .int)) (by decide) rfl ?_
  intro p e s m args below meth c s₁ B hml hv
  obtain ⟨rfl, hsz, hP, hK, hD0⟩ := hv
  have hx := B.exec
  have hb := B.bytes
  have hr := B.returns
  have hts := atoms_spec (ws := wsX9_monthAt) B.pre
  have hown : s.vm.findClass RX9 = some m.cls := findClass_of_methodNamed B.named
  have hlocks := B.notSynchronized
  subst hsz
  have hD := hD0.self (sz := s.heap.size)
  generalize hAe : va_A [(a0, .inr (9, [.ref tnodes, .ref tpasses, .ref tjars, .ref torders, .ref tfeasts, .ref tway, .int (-1), .int 0, .int 0, .int 0]))] s.heap.size = A at hD ⊢
  have hA : ∀ q : Nat, s.heap.size ≤ q → A q := fun q h => by rw [← hAe]; exact Or.inr h
  have hS : va_S A s.heap s.heap [] := va_S.rf
  have hP : va_P (dC, dI) vwCl [(a0, .inr (9, [.ref tnodes, .ref tpasses, .ref tjars, .ref torders, .ref tfeasts, .ref tway, .int (-1), .int 0, .int 0, .int 0]))] s.heap := hP
  have hl := lv_entry ([.ref a0, .int 0]) (n := 2) (Nat.le_of_ble_eq_true rfl)
  rw [lg_entry_eq]
  generalize (lg_sl ([.ref a0, .int 0]) ++ List.replicate (2 - (lg_sl ([.ref a0, .int 0])).length) Slot.unset).toArray = ls at hl ⊢
  have hl : lv_has ls 2 [(0, .ref a0), (1, .int 0)] := hl
  refine lv_aload_n hx hb dX9_monthAt_0 rfl (lv_at hl 0 rfl) ?_
  refine va_get (D := (dC, dI)) (ci := 9) (v := .int 0) (C := RX9) (T := TX9) (N := 10) hx hb hts iX9_monthAt_X9 hown hK.1 hP 0 rfl rfl 8 (by decide) (kX9_monthAt_1 hts) (fun _ h9 => h9) rfl dX9_monthAt_1 ?_
  refine lv_iload_n hx hb dX9_monthAt_4 rfl (lv_at hl 1 rfl) ?_
  refine lv_bipush (v := 24) hx hb dX9_monthAt_5 (by decide) ?_
  refine lv_idiv hx hb dX9_monthAt_7 (by decide) ?_
  refine zi 0 (by decide) ?_
  refine lv_bipush (v := 30) hx hb dX9_monthAt_8 (by decide) ?_
  refine lv_idiv hx hb dX9_monthAt_10 (by decide) ?_
  refine zi 0 (by decide) ?_
  refine lv_iadd hx hb dX9_monthAt_11 ?_
  refine zi 0 (by decide) ?_
  refine lv_bipush (v := 12) hx hb dX9_monthAt_12 (by decide) ?_
  refine lv_irem hx hb dX9_monthAt_14 (by decide) ?_
  refine zi 0 (by decide) ?_
  have hP9 := hP.sub (ws' := [(a0, .inr (9, [.ref tnodes, .ref tpasses, .ref tjars, .ref torders, .ref tfeasts, .ref tway, .int (-1), .int 0, .int 0, .int 0]))]) [0] rfl
  have hD9 := hD.sub (ws' := [(a0, .inr (9, [.ref tnodes, .ref tpasses, .ref tjars, .ref torders, .ref tfeasts, .ref tway, .int (-1), .int 0, .int 0, .int 0]))]) [0] (by decide) rfl
  refine W.widen (k := 0) (n := 0) (Nat.le_of_ble_eq_true rfl) (Nat.le_of_ble_eq_true rfl) ?_
  exact W.iret (v := 0) hx hb hr (fun t ht hW => ⟨⟨0, (), rfl, rfl, by rw [ht]; exact hP9, hD9⟩, hS.F ht⟩) hS.2.2 dX9_monthAt_15
set_option maxHeartbeats 4000000 in
set_option maxRecDepth 100000 in
theorem mX9_nodeOf (l : Launch) (dC : Nat → ClassId) (dI : Nat → Nat → Nat) (kA : Nat → ClassId) (sz : Nat) (a0 : Nat) (tnodes : Nat) (tpasses : Nat) (tjars : Nat) (tjarsA : Nat) (torders : Nat) (tfeasts : Nat) (tway : Nat) (n : Int32)  : Met l yX9_nodeOf wsX9_nodeOf ({ frames := 1, cells := 0, slots := 0, locals := 21 }) (zPc dC dI kA sz [.ref a0, .int n] [(a0, .inr (9, [.ref tnodes, .ref tpasses, .ref tjars, .ref torders, .ref tfeasts, .ref tway, .int (-1), .int 0, .int 0, .int 0])), (tjars, .inr (6, [.int 9, .ref tjarsA, .int 0]))]) (va_Qi (fun (r : Int32) (u : Unit) => r = (-1)) (zB dC dI (va_A [(a0, .inr (9, [.ref tnodes, .ref tpasses, .ref tjars, .ref torders, .ref tfeasts, .ref tway, .int (-1), .int 0, .int 0, .int 0])), (tjars, .inr (6, [.int 9, .ref tjarsA, .int 0]))] sz) (fun (u : Unit) => [])) (va_A [(a0, .inr (9, [.ref tnodes, .ref tpasses, .ref tjars, .ref torders, .ref tfeasts, .ref tway, .int (-1), .int 0, .int 0, .int 0])), (tjars, .inr (6, [.int 9, .ref tjarsA, .int 0]))] sz)) 0 0 (va_A [(a0, .inr (9, [.ref tnodes, .ref tpasses, .ref tjars, .ref torders, .ref tfeasts, .ref tway, .int (-1), .int 0, .int 0, .int 0])), (tjars, .inr (6, [.int 9, .ref tjarsA, .int 0]))] sz) := by
  refine Met.ofW (cc := cX9_nodeOf) (maxL := 3) (ret := (some .int)) (by decide) rfl ?_
  intro p e s m args below meth c s₁ B hml hv
  obtain ⟨rfl, hsz, hP, hK, hD0⟩ := hv
  have hx := B.exec
  have hb := B.bytes
  have hr := B.returns
  have hts := atoms_spec (ws := wsX9_nodeOf) B.pre
  have hown : s.vm.findClass RX9 = some m.cls := findClass_of_methodNamed B.named
  have hlocks := B.notSynchronized
  subst hsz
  have hD := hD0.self (sz := s.heap.size)
  generalize hAe : va_A [(a0, .inr (9, [.ref tnodes, .ref tpasses, .ref tjars, .ref torders, .ref tfeasts, .ref tway, .int (-1), .int 0, .int 0, .int 0])), (tjars, .inr (6, [.int 9, .ref tjarsA, .int 0]))] s.heap.size = A at hD ⊢
  have hA : ∀ q : Nat, s.heap.size ≤ q → A q := fun q h => by rw [← hAe]; exact Or.inr h
  have hS : va_S A s.heap s.heap [] := va_S.rf
  have hP : va_P (dC, dI) vwCl [(a0, .inr (9, [.ref tnodes, .ref tpasses, .ref tjars, .ref torders, .ref tfeasts, .ref tway, .int (-1), .int 0, .int 0, .int 0])), (tjars, .inr (6, [.int 9, .ref tjarsA, .int 0]))] s.heap := hP
  have hl := lv_entry ([.ref a0, .int n]) (n := 3) (Nat.le_of_ble_eq_true rfl)
  rw [lg_entry_eq]
  generalize (lg_sl ([.ref a0, .int n]) ++ List.replicate (3 - (lg_sl ([.ref a0, .int n])).length) Slot.unset).toArray = ls at hl ⊢
  have hl : lv_has ls 3 [(0, .ref a0), (1, .int n)] := hl
  refine lv_aload_n hx hb dX9_nodeOf_0 rfl (lv_at hl 0 rfl) ?_
  refine va_get (D := (dC, dI)) (ci := 9) (v := .ref tjars) (C := RX9) (T := TX9) (N := 10) hx hb hts iX9_nodeOf_X9 hown hK.1 hP 0 rfl rfl 2 (by decide) (kX9_nodeOf_1 hts) (fun _ h9 => h9) rfl dX9_nodeOf_1 ?_
  refine lv_iload_n hx hb dX9_nodeOf_4 rfl (lv_at hl 1 rfl) ?_
  refine z_i (wr := [(a0, .inr (9, [.ref tnodes, .ref tpasses, .ref tjars, .ref torders, .ref tfeasts, .ref tway, .int (-1), .int 0, .int 0, .int 0]))]) (va_runV (As := [.int n]) (rest := []) ⟨hx, hb, hml, hown, hts⟩ (mX6_has l dC dI kA _ tjars tjarsA 9 n) (cwV 1 hts gX9_nodeOf_X6_has rfl rfl rfl (by decide +kernel) ⟨(Nat.le_of_ble_eq_true rfl), (Nat.le_of_ble_eq_true rfl)⟩) ⟨zPc.blind, va_recv hK.1 hP (ci := 6) (q0 := 1) rfl rfl, zPre hK (hP.sub [1] rfl) (hD.sub [1] (by decide) rfl)⟩ rfl rfl hl.1 rfl (lv_room (Nat.le_of_ble_eq_true rfl)) dX9_nodeOf_5 ⟨(Nat.le_of_ble_eq_true rfl), (Nat.le_of_ble_eq_true rfl)⟩) hP hD hS hA [1] [0] rfl rfl (by decide) (by decide) (fun r3 u1 H locs hw2 hP hD hS => ?_)
  obtain rfl := hw2
  have hP : va_P (dC, dI) vwCl [(a0, .inr (9, [.ref tnodes, .ref tpasses, .ref tjars, .ref torders, .ref tfeasts, .ref tway, .int (-1), .int 0, .int 0, .int 0])), (tjars, .inr (6, [.int 9, .ref tjarsA, .int 0]))] H := hP
  have hD : va_D A [(a0, .inr (9, [.ref tnodes, .ref tpasses, .ref tjars, .ref torders, .ref tfeasts, .ref tway, .int (-1), .int 0, .int 0, .int 0])), (tjars, .inr (6, [.int 9, .ref tjarsA, .int 0]))] := hD
  refine lv_if_eq (tgt := 23) hx hb dX9_nodeOf_8 (by decide) (fun _ => ?_) (fun c_4 => absurd (by decide) c_4)
  refine lv_bipush (v := 13) hx hb dX9_nodeOf_23 (by decide) ?_
  refine lv_istore_n (lv' := [(2, .int 13), (0, .ref a0), (1, .int n)]) hx hb dX9_nodeOf_25 rfl hl (by decide) rfl (fun ls hl => ?_)
  refine lv_iload_n hx hb dX9_nodeOf_26 rfl (lv_at hl 0 rfl) ?_
  refine lv_bipush (v := 12) hx hb dX9_nodeOf_27 (by decide) ?_
  refine lv_icmp_ge (tgt := 36) hx hb dX9_nodeOf_29 (by decide) (fun _ => ?_) (fun c_5 => absurd (by decide) c_5)
  refine lv_iconst (v := (-1)) hx hb dX9_nodeOf_36 (by decide) ?_
  have hP9 := hP.sub (ws' := []) [] rfl
  have hD9 := hD.sub (ws' := []) [] (by decide) rfl
  refine W.widen (k := 0) (n := 0) (Nat.le_of_ble_eq_true rfl) (Nat.le_of_ble_eq_true rfl) ?_
  exact W.iret (v := (-1)) hx hb hr (fun t ht hW => ⟨⟨(-1), (), rfl, rfl, by rw [ht]; exact hP9, hD9⟩, hS.F ht⟩) hS.2.2 dX9_nodeOf_37
set_option maxHeartbeats 4000000 in
set_option maxRecDepth 100000 in
theorem mX9_copyFrom (l : Launch) (dC : Nat → ClassId) (dI : Nat → Nat → Nat) (kA : Nat → ClassId) (sz : Nat) (a0 : Nat) (b0 : Nat) (tnodes : Nat) (tnodesA : Nat) (tpasses : Nat) (tpassesA : Nat) (tjars : Nat) (tjarsA : Nat) (torders : Nat) (tordersA : Nat) (tfeasts : Nat) (tfeastsA : Nat) (tway : Nat) (twayA : Nat) (snodes : Nat) (snodesA : Nat) (spasses : Nat) (spassesA : Nat) (sjars : Nat) (sjarsA : Nat) (sorders : Nat) (sordersA : Nat) (sfeasts : Nat) (sfeastsA : Nat) (sway : Nat) (swayA : Nat)  : Met l yX9_copyFrom wsX9_copyFrom ({ frames := 2, cells := 0, slots := 0, locals := 81 }) (zPc dC dI kA sz [.ref a0, .ref b0] [(a0, .inr (9, [.ref tnodes, .ref tpasses, .ref tjars, .ref torders, .ref tfeasts, .ref tway, .int (-1), .int 0, .int 0, .int 0])), (tnodes, .inr (6, [.int 4, .ref tnodesA, .int 0])), (tnodesA, .inl (kA 0, 48, .inl (fun _ => 0))), (tpasses, .inr (6, [.int 5, .ref tpassesA, .int 0])), (tpassesA, .inl (kA 0, 100, .inl (fun _ => 0))), (tjars, .inr (6, [.int 9, .ref tjarsA, .int 0])), (tjarsA, .inl (kA 0, 144, .inl (fun _ => 0))), (torders, .inr (6, [.int 4, .ref tordersA, .int 0])), (tordersA, .inl (kA 0, 24, .inl (fun _ => 0))), (tfeasts, .inr (6, [.int 3, .ref tfeastsA, .int 0])), (tfeastsA, .inl (kA 0, 24, .inl (fun _ => 0))), (tway, .inr (6, [.int 1, .ref twayA, .int 0])), (twayA, .inl (kA 0, 6, .inl (fun _ => 0))), (b0, .inr (9, [.ref snodes, .ref spasses, .ref sjars, .ref sorders, .ref sfeasts, .ref sway, .int (-1), .int 0, .int 0, .int 0])), (snodes, .inr (6, [.int 4, .ref snodesA, .int 0])), (snodesA, .inl (kA 0, 48, .inl (fun _ => 0))), (spasses, .inr (6, [.int 5, .ref spassesA, .int 0])), (spassesA, .inl (kA 0, 100, .inl (fun _ => 0))), (sjars, .inr (6, [.int 9, .ref sjarsA, .int 0])), (sjarsA, .inl (kA 0, 144, .inl (fun _ => 0))), (sorders, .inr (6, [.int 4, .ref sordersA, .int 0])), (sordersA, .inl (kA 0, 24, .inl (fun _ => 0))), (sfeasts, .inr (6, [.int 3, .ref sfeastsA, .int 0])), (sfeastsA, .inl (kA 0, 24, .inl (fun _ => 0))), (sway, .inr (6, [.int 1, .ref swayA, .int 0])), (swayA, .inl (kA 0, 6, .inl (fun _ => 0)))]) (va_Qv (fun (u : Unit) => True) (zB dC dI (va_A [(a0, .inr (9, [.ref tnodes, .ref tpasses, .ref tjars, .ref torders, .ref tfeasts, .ref tway, .int (-1), .int 0, .int 0, .int 0])), (tnodes, .inr (6, [.int 4, .ref tnodesA, .int 0])), (tnodesA, .inl (kA 0, 48, .inl (fun _ => 0))), (tpasses, .inr (6, [.int 5, .ref tpassesA, .int 0])), (tpassesA, .inl (kA 0, 100, .inl (fun _ => 0))), (tjars, .inr (6, [.int 9, .ref tjarsA, .int 0])), (tjarsA, .inl (kA 0, 144, .inl (fun _ => 0))), (torders, .inr (6, [.int 4, .ref tordersA, .int 0])), (tordersA, .inl (kA 0, 24, .inl (fun _ => 0))), (tfeasts, .inr (6, [.int 3, .ref tfeastsA, .int 0])), (tfeastsA, .inl (kA 0, 24, .inl (fun _ => 0))), (tway, .inr (6, [.int 1, .ref twayA, .int 0])), (twayA, .inl (kA 0, 6, .inl (fun _ => 0))), (b0, .inr (9, [.ref snodes, .ref spasses, .ref sjars, .ref sorders, .ref sfeasts, .ref sway, .int (-1), .int 0, .int 0, .int 0])), (snodes, .inr (6, [.int 4, .ref snodesA, .int 0])), (snodesA, .inl (kA 0, 48, .inl (fun _ => 0))), (spasses, .inr (6, [.int 5, .ref spassesA, .int 0])), (spassesA, .inl (kA 0, 100, .inl (fun _ => 0))), (sjars, .inr (6, [.int 9, .ref sjarsA, .int 0])), (sjarsA, .inl (kA 0, 144, .inl (fun _ => 0))), (sorders, .inr (6, [.int 4, .ref sordersA, .int 0])), (sordersA, .inl (kA 0, 24, .inl (fun _ => 0))), (sfeasts, .inr (6, [.int 3, .ref sfeastsA, .int 0])), (sfeastsA, .inl (kA 0, 24, .inl (fun _ => 0))), (sway, .inr (6, [.int 1, .ref swayA, .int 0])), (swayA, .inl (kA 0, 6, .inl (fun _ => 0)))] sz) (fun (u : Unit) => [(b0, .inr (9, [.ref snodes, .ref spasses, .ref sjars, .ref sorders, .ref sfeasts, .ref sway, .int (-1), .int 0, .int 0, .int 0]))])) (va_A [(a0, .inr (9, [.ref tnodes, .ref tpasses, .ref tjars, .ref torders, .ref tfeasts, .ref tway, .int (-1), .int 0, .int 0, .int 0])), (tnodes, .inr (6, [.int 4, .ref tnodesA, .int 0])), (tnodesA, .inl (kA 0, 48, .inl (fun _ => 0))), (tpasses, .inr (6, [.int 5, .ref tpassesA, .int 0])), (tpassesA, .inl (kA 0, 100, .inl (fun _ => 0))), (tjars, .inr (6, [.int 9, .ref tjarsA, .int 0])), (tjarsA, .inl (kA 0, 144, .inl (fun _ => 0))), (torders, .inr (6, [.int 4, .ref tordersA, .int 0])), (tordersA, .inl (kA 0, 24, .inl (fun _ => 0))), (tfeasts, .inr (6, [.int 3, .ref tfeastsA, .int 0])), (tfeastsA, .inl (kA 0, 24, .inl (fun _ => 0))), (tway, .inr (6, [.int 1, .ref twayA, .int 0])), (twayA, .inl (kA 0, 6, .inl (fun _ => 0))), (b0, .inr (9, [.ref snodes, .ref spasses, .ref sjars, .ref sorders, .ref sfeasts, .ref sway, .int (-1), .int 0, .int 0, .int 0])), (snodes, .inr (6, [.int 4, .ref snodesA, .int 0])), (snodesA, .inl (kA 0, 48, .inl (fun _ => 0))), (spasses, .inr (6, [.int 5, .ref spassesA, .int 0])), (spassesA, .inl (kA 0, 100, .inl (fun _ => 0))), (sjars, .inr (6, [.int 9, .ref sjarsA, .int 0])), (sjarsA, .inl (kA 0, 144, .inl (fun _ => 0))), (sorders, .inr (6, [.int 4, .ref sordersA, .int 0])), (sordersA, .inl (kA 0, 24, .inl (fun _ => 0))), (sfeasts, .inr (6, [.int 3, .ref sfeastsA, .int 0])), (sfeastsA, .inl (kA 0, 24, .inl (fun _ => 0))), (sway, .inr (6, [.int 1, .ref swayA, .int 0])), (swayA, .inl (kA 0, 6, .inl (fun _ => 0)))] sz)) 0 0 (va_A [(a0, .inr (9, [.ref tnodes, .ref tpasses, .ref tjars, .ref torders, .ref tfeasts, .ref tway, .int (-1), .int 0, .int 0, .int 0])), (tnodes, .inr (6, [.int 4, .ref tnodesA, .int 0])), (tnodesA, .inl (kA 0, 48, .inl (fun _ => 0))), (tpasses, .inr (6, [.int 5, .ref tpassesA, .int 0])), (tpassesA, .inl (kA 0, 100, .inl (fun _ => 0))), (tjars, .inr (6, [.int 9, .ref tjarsA, .int 0])), (tjarsA, .inl (kA 0, 144, .inl (fun _ => 0))), (torders, .inr (6, [.int 4, .ref tordersA, .int 0])), (tordersA, .inl (kA 0, 24, .inl (fun _ => 0))), (tfeasts, .inr (6, [.int 3, .ref tfeastsA, .int 0])), (tfeastsA, .inl (kA 0, 24, .inl (fun _ => 0))), (tway, .inr (6, [.int 1, .ref twayA, .int 0])), (twayA, .inl (kA 0, 6, .inl (fun _ => 0))), (b0, .inr (9, [.ref snodes, .ref spasses, .ref sjars, .ref sorders, .ref sfeasts, .ref sway, .int (-1), .int 0, .int 0, .int 0])), (snodes, .inr (6, [.int 4, .ref snodesA, .int 0])), (snodesA, .inl (kA 0, 48, .inl (fun _ => 0))), (spasses, .inr (6, [.int 5, .ref spassesA, .int 0])), (spassesA, .inl (kA 0, 100, .inl (fun _ => 0))), (sjars, .inr (6, [.int 9, .ref sjarsA, .int 0])), (sjarsA, .inl (kA 0, 144, .inl (fun _ => 0))), (sorders, .inr (6, [.int 4, .ref sordersA, .int 0])), (sordersA, .inl (kA 0, 24, .inl (fun _ => 0))), (sfeasts, .inr (6, [.int 3, .ref sfeastsA, .int 0])), (sfeastsA, .inl (kA 0, 24, .inl (fun _ => 0))), (sway, .inr (6, [.int 1, .ref swayA, .int 0])), (swayA, .inl (kA 0, 6, .inl (fun _ => 0)))] sz) := by
  refine Met.ofW (cc := cX9_copyFrom) (maxL := 2) (ret := none) (by decide) rfl ?_
  intro p e s m args below meth c s₁ B hml hv
  obtain ⟨rfl, hsz, hP, hK, hD0⟩ := hv
  have hx := B.exec
  have hb := B.bytes
  have hr := B.returns
  have hts := atoms_spec (ws := wsX9_copyFrom) B.pre
  have hown : s.vm.findClass RX9 = some m.cls := findClass_of_methodNamed B.named
  have hlocks := B.notSynchronized
  subst hsz
  have hD := hD0.self (sz := s.heap.size)
  generalize hAe : va_A [(a0, .inr (9, [.ref tnodes, .ref tpasses, .ref tjars, .ref torders, .ref tfeasts, .ref tway, .int (-1), .int 0, .int 0, .int 0])), (tnodes, .inr (6, [.int 4, .ref tnodesA, .int 0])), (tnodesA, .inl (kA 0, 48, .inl (fun _ => 0))), (tpasses, .inr (6, [.int 5, .ref tpassesA, .int 0])), (tpassesA, .inl (kA 0, 100, .inl (fun _ => 0))), (tjars, .inr (6, [.int 9, .ref tjarsA, .int 0])), (tjarsA, .inl (kA 0, 144, .inl (fun _ => 0))), (torders, .inr (6, [.int 4, .ref tordersA, .int 0])), (tordersA, .inl (kA 0, 24, .inl (fun _ => 0))), (tfeasts, .inr (6, [.int 3, .ref tfeastsA, .int 0])), (tfeastsA, .inl (kA 0, 24, .inl (fun _ => 0))), (tway, .inr (6, [.int 1, .ref twayA, .int 0])), (twayA, .inl (kA 0, 6, .inl (fun _ => 0))), (b0, .inr (9, [.ref snodes, .ref spasses, .ref sjars, .ref sorders, .ref sfeasts, .ref sway, .int (-1), .int 0, .int 0, .int 0])), (snodes, .inr (6, [.int 4, .ref snodesA, .int 0])), (snodesA, .inl (kA 0, 48, .inl (fun _ => 0))), (spasses, .inr (6, [.int 5, .ref spassesA, .int 0])), (spassesA, .inl (kA 0, 100, .inl (fun _ => 0))), (sjars, .inr (6, [.int 9, .ref sjarsA, .int 0])), (sjarsA, .inl (kA 0, 144, .inl (fun _ => 0))), (sorders, .inr (6, [.int 4, .ref sordersA, .int 0])), (sordersA, .inl (kA 0, 24, .inl (fun _ => 0))), (sfeasts, .inr (6, [.int 3, .ref sfeastsA, .int 0])), (sfeastsA, .inl (kA 0, 24, .inl (fun _ => 0))), (sway, .inr (6, [.int 1, .ref swayA, .int 0])), (swayA, .inl (kA 0, 6, .inl (fun _ => 0)))] s.heap.size = A at hD ⊢
  have hA : ∀ q : Nat, s.heap.size ≤ q → A q := fun q h => by rw [← hAe]; exact Or.inr h
  have hS : va_S A s.heap s.heap [] := va_S.rf
  have hP : va_P (dC, dI) vwCl [(a0, .inr (9, [.ref tnodes, .ref tpasses, .ref tjars, .ref torders, .ref tfeasts, .ref tway, .int (-1), .int 0, .int 0, .int 0])), (tnodes, .inr (6, [.int 4, .ref tnodesA, .int 0])), (tnodesA, .inl (kA 0, 48, .inl (fun _ => 0))), (tpasses, .inr (6, [.int 5, .ref tpassesA, .int 0])), (tpassesA, .inl (kA 0, 100, .inl (fun _ => 0))), (tjars, .inr (6, [.int 9, .ref tjarsA, .int 0])), (tjarsA, .inl (kA 0, 144, .inl (fun _ => 0))), (torders, .inr (6, [.int 4, .ref tordersA, .int 0])), (tordersA, .inl (kA 0, 24, .inl (fun _ => 0))), (tfeasts, .inr (6, [.int 3, .ref tfeastsA, .int 0])), (tfeastsA, .inl (kA 0, 24, .inl (fun _ => 0))), (tway, .inr (6, [.int 1, .ref twayA, .int 0])), (twayA, .inl (kA 0, 6, .inl (fun _ => 0))), (b0, .inr (9, [.ref snodes, .ref spasses, .ref sjars, .ref sorders, .ref sfeasts, .ref sway, .int (-1), .int 0, .int 0, .int 0])), (snodes, .inr (6, [.int 4, .ref snodesA, .int 0])), (snodesA, .inl (kA 0, 48, .inl (fun _ => 0))), (spasses, .inr (6, [.int 5, .ref spassesA, .int 0])), (spassesA, .inl (kA 0, 100, .inl (fun _ => 0))), (sjars, .inr (6, [.int 9, .ref sjarsA, .int 0])), (sjarsA, .inl (kA 0, 144, .inl (fun _ => 0))), (sorders, .inr (6, [.int 4, .ref sordersA, .int 0])), (sordersA, .inl (kA 0, 24, .inl (fun _ => 0))), (sfeasts, .inr (6, [.int 3, .ref sfeastsA, .int 0])), (sfeastsA, .inl (kA 0, 24, .inl (fun _ => 0))), (sway, .inr (6, [.int 1, .ref swayA, .int 0])), (swayA, .inl (kA 0, 6, .inl (fun _ => 0)))] s.heap := hP
  have hl := lv_entry ([.ref a0, .ref b0]) (n := 2) (Nat.le_of_ble_eq_true rfl)
  rw [lg_entry_eq]
  generalize (lg_sl ([.ref a0, .ref b0]) ++ List.replicate (2 - (lg_sl ([.ref a0, .ref b0])).length) Slot.unset).toArray = ls at hl ⊢
  have hl : lv_has ls 2 [(0, .ref a0), (1, .ref b0)] := hl
  refine lv_aload_n hx hb dX9_copyFrom_0 rfl (lv_at hl 0 rfl) ?_
  refine va_get (D := (dC, dI)) (ci := 9) (v := .ref tnodes) (C := RX9) (T := TX9) (N := 10) hx hb hts iX9_copyFrom_X9 hown hK.1 hP 0 rfl rfl 0 (by decide) (kX9_copyFrom_1 hts) (fun _ h9 => h9) rfl dX9_copyFrom_1 ?_
  refine lv_aload_n hx hb dX9_copyFrom_4 rfl (lv_at hl 1 rfl) ?_
  refine va_get (D := (dC, dI)) (ci := 9) (v := .ref snodes) (C := RX9) (T := TX9) (N := 10) hx hb hts iX9_copyFrom_X9 hown hK.1 hP 13 rfl rfl 0 (by decide) (kX9_copyFrom_1 hts) (fun _ h9 => h9) rfl dX9_copyFrom_5 ?_
  refine z_v (wr := [(a0, .inr (9, [.ref tnodes, .ref tpasses, .ref tjars, .ref torders, .ref tfeasts, .ref tway, .int (-1), .int 0, .int 0, .int 0])), (tpasses, .inr (6, [.int 5, .ref tpassesA, .int 0])), (tpassesA, .inl (kA 0, 100, .inl (fun _ => 0))), (tjars, .inr (6, [.int 9, .ref tjarsA, .int 0])), (tjarsA, .inl (kA 0, 144, .inl (fun _ => 0))), (torders, .inr (6, [.int 4, .ref tordersA, .int 0])), (tordersA, .inl (kA 0, 24, .inl (fun _ => 0))), (tfeasts, .inr (6, [.int 3, .ref tfeastsA, .int 0])), (tfeastsA, .inl (kA 0, 24, .inl (fun _ => 0))), (tway, .inr (6, [.int 1, .ref twayA, .int 0])), (twayA, .inl (kA 0, 6, .inl (fun _ => 0))), (b0, .inr (9, [.ref snodes, .ref spasses, .ref sjars, .ref sorders, .ref sfeasts, .ref sway, .int (-1), .int 0, .int 0, .int 0])), (spasses, .inr (6, [.int 5, .ref spassesA, .int 0])), (spassesA, .inl (kA 0, 100, .inl (fun _ => 0))), (sjars, .inr (6, [.int 9, .ref sjarsA, .int 0])), (sjarsA, .inl (kA 0, 144, .inl (fun _ => 0))), (sorders, .inr (6, [.int 4, .ref sordersA, .int 0])), (sordersA, .inl (kA 0, 24, .inl (fun _ => 0))), (sfeasts, .inr (6, [.int 3, .ref sfeastsA, .int 0])), (sfeastsA, .inl (kA 0, 24, .inl (fun _ => 0))), (sway, .inr (6, [.int 1, .ref swayA, .int 0])), (swayA, .inl (kA 0, 6, .inl (fun _ => 0)))]) (va_runV (As := [.ref snodes]) (rest := []) ⟨hx, hb, hml, hown, hts⟩ (mX6_copyFrom_4 l dC dI kA _ tnodes tnodesA snodes snodesA (fun _ => 0) (fun _ => 0)) (cwV 1 hts gX9_copyFrom_X6_copyFrom rfl rfl rfl (by decide +kernel) ⟨(Nat.le_of_ble_eq_true rfl), (Nat.le_of_ble_eq_true rfl)⟩) ⟨zPc.blind, va_recv hK.1 hP (ci := 6) (q0 := 1) rfl rfl, zPre hK (hP.sub [1, 2, 14, 15] rfl) (hD.sub [1, 2, 14, 15] (by decide) rfl)⟩ rfl rfl hl.1 rfl (lv_room (Nat.le_of_ble_eq_true rfl)) dX9_copyFrom_8 ⟨(Nat.le_of_ble_eq_true rfl), (Nat.le_of_ble_eq_true rfl)⟩) hP hD hS hA [1, 2, 14, 15] [0, 3, 4, 5, 6, 7, 8, 9, 10, 11, 12, 13, 16, 17, 18, 19, 20, 21, 22, 23, 24, 25] rfl rfl (by decide) (by decide) (fun u1 H locs hw2 hP hD hS => ?_)
  have hP : va_P (dC, dI) vwCl [(a0, .inr (9, [.ref tnodes, .ref tpasses, .ref tjars, .ref torders, .ref tfeasts, .ref tway, .int (-1), .int 0, .int 0, .int 0])), (tpasses, .inr (6, [.int 5, .ref tpassesA, .int 0])), (tpassesA, .inl (kA 0, 100, .inl (fun _ => 0))), (tjars, .inr (6, [.int 9, .ref tjarsA, .int 0])), (tjarsA, .inl (kA 0, 144, .inl (fun _ => 0))), (torders, .inr (6, [.int 4, .ref tordersA, .int 0])), (tordersA, .inl (kA 0, 24, .inl (fun _ => 0))), (tfeasts, .inr (6, [.int 3, .ref tfeastsA, .int 0])), (tfeastsA, .inl (kA 0, 24, .inl (fun _ => 0))), (tway, .inr (6, [.int 1, .ref twayA, .int 0])), (twayA, .inl (kA 0, 6, .inl (fun _ => 0))), (b0, .inr (9, [.ref snodes, .ref spasses, .ref sjars, .ref sorders, .ref sfeasts, .ref sway, .int (-1), .int 0, .int 0, .int 0])), (spasses, .inr (6, [.int 5, .ref spassesA, .int 0])), (spassesA, .inl (kA 0, 100, .inl (fun _ => 0))), (sjars, .inr (6, [.int 9, .ref sjarsA, .int 0])), (sjarsA, .inl (kA 0, 144, .inl (fun _ => 0))), (sorders, .inr (6, [.int 4, .ref sordersA, .int 0])), (sordersA, .inl (kA 0, 24, .inl (fun _ => 0))), (sfeasts, .inr (6, [.int 3, .ref sfeastsA, .int 0])), (sfeastsA, .inl (kA 0, 24, .inl (fun _ => 0))), (sway, .inr (6, [.int 1, .ref swayA, .int 0])), (swayA, .inl (kA 0, 6, .inl (fun _ => 0)))] H := hP
  have hD : va_D A [(a0, .inr (9, [.ref tnodes, .ref tpasses, .ref tjars, .ref torders, .ref tfeasts, .ref tway, .int (-1), .int 0, .int 0, .int 0])), (tpasses, .inr (6, [.int 5, .ref tpassesA, .int 0])), (tpassesA, .inl (kA 0, 100, .inl (fun _ => 0))), (tjars, .inr (6, [.int 9, .ref tjarsA, .int 0])), (tjarsA, .inl (kA 0, 144, .inl (fun _ => 0))), (torders, .inr (6, [.int 4, .ref tordersA, .int 0])), (tordersA, .inl (kA 0, 24, .inl (fun _ => 0))), (tfeasts, .inr (6, [.int 3, .ref tfeastsA, .int 0])), (tfeastsA, .inl (kA 0, 24, .inl (fun _ => 0))), (tway, .inr (6, [.int 1, .ref twayA, .int 0])), (twayA, .inl (kA 0, 6, .inl (fun _ => 0))), (b0, .inr (9, [.ref snodes, .ref spasses, .ref sjars, .ref sorders, .ref sfeasts, .ref sway, .int (-1), .int 0, .int 0, .int 0])), (spasses, .inr (6, [.int 5, .ref spassesA, .int 0])), (spassesA, .inl (kA 0, 100, .inl (fun _ => 0))), (sjars, .inr (6, [.int 9, .ref sjarsA, .int 0])), (sjarsA, .inl (kA 0, 144, .inl (fun _ => 0))), (sorders, .inr (6, [.int 4, .ref sordersA, .int 0])), (sordersA, .inl (kA 0, 24, .inl (fun _ => 0))), (sfeasts, .inr (6, [.int 3, .ref sfeastsA, .int 0])), (sfeastsA, .inl (kA 0, 24, .inl (fun _ => 0))), (sway, .inr (6, [.int 1, .ref swayA, .int 0])), (swayA, .inl (kA 0, 6, .inl (fun _ => 0)))] := hD
  refine lv_aload_n hx hb dX9_copyFrom_11 rfl (lv_at hl 0 rfl) ?_
  refine va_get (D := (dC, dI)) (ci := 9) (v := .ref tpasses) (C := RX9) (T := TX9) (N := 10) hx hb hts iX9_copyFrom_X9 hown hK.1 hP 0 rfl rfl 1 (by decide) (kX9_copyFrom_2 hts) (fun _ h9 => h9) rfl dX9_copyFrom_12 ?_
  refine lv_aload_n hx hb dX9_copyFrom_15 rfl (lv_at hl 1 rfl) ?_
  refine va_get (D := (dC, dI)) (ci := 9) (v := .ref spasses) (C := RX9) (T := TX9) (N := 10) hx hb hts iX9_copyFrom_X9 hown hK.1 hP 11 rfl rfl 1 (by decide) (kX9_copyFrom_2 hts) (fun _ h9 => h9) rfl dX9_copyFrom_16 ?_
  refine z_v (wr := [(a0, .inr (9, [.ref tnodes, .ref tpasses, .ref tjars, .ref torders, .ref tfeasts, .ref tway, .int (-1), .int 0, .int 0, .int 0])), (tjars, .inr (6, [.int 9, .ref tjarsA, .int 0])), (tjarsA, .inl (kA 0, 144, .inl (fun _ => 0))), (torders, .inr (6, [.int 4, .ref tordersA, .int 0])), (tordersA, .inl (kA 0, 24, .inl (fun _ => 0))), (tfeasts, .inr (6, [.int 3, .ref tfeastsA, .int 0])), (tfeastsA, .inl (kA 0, 24, .inl (fun _ => 0))), (tway, .inr (6, [.int 1, .ref twayA, .int 0])), (twayA, .inl (kA 0, 6, .inl (fun _ => 0))), (b0, .inr (9, [.ref snodes, .ref spasses, .ref sjars, .ref sorders, .ref sfeasts, .ref sway, .int (-1), .int 0, .int 0, .int 0])), (sjars, .inr (6, [.int 9, .ref sjarsA, .int 0])), (sjarsA, .inl (kA 0, 144, .inl (fun _ => 0))), (sorders, .inr (6, [.int 4, .ref sordersA, .int 0])), (sordersA, .inl (kA 0, 24, .inl (fun _ => 0))), (sfeasts, .inr (6, [.int 3, .ref sfeastsA, .int 0])), (sfeastsA, .inl (kA 0, 24, .inl (fun _ => 0))), (sway, .inr (6, [.int 1, .ref swayA, .int 0])), (swayA, .inl (kA 0, 6, .inl (fun _ => 0)))]) (va_runV (As := [.ref spasses]) (rest := []) ⟨hx, hb, hml, hown, hts⟩ (mX6_copyFrom_5 l dC dI kA _ tpasses tpassesA spasses spassesA (fun _ => 0) (fun _ => 0)) (cwV 1 hts gX9_copyFrom_X6_copyFrom rfl rfl rfl (by decide +kernel) ⟨(Nat.le_of_ble_eq_true rfl), (Nat.le_of_ble_eq_true rfl)⟩) ⟨zPc.blind, va_recv hK.1 hP (ci := 6) (q0 := 1) rfl rfl, zPre hK (hP.sub [1, 2, 12, 13] rfl) (hD.sub [1, 2, 12, 13] (by decide) rfl)⟩ rfl rfl hl.1 rfl (lv_room (Nat.le_of_ble_eq_true rfl)) dX9_copyFrom_19 ⟨(Nat.le_of_ble_eq_true rfl), (Nat.le_of_ble_eq_true rfl)⟩) hP hD hS hA [1, 2, 12, 13] [0, 3, 4, 5, 6, 7, 8, 9, 10, 11, 14, 15, 16, 17, 18, 19, 20, 21] rfl rfl (by decide) (by decide) (fun u4 H locs hw5 hP hD hS => ?_)
  have hP : va_P (dC, dI) vwCl [(a0, .inr (9, [.ref tnodes, .ref tpasses, .ref tjars, .ref torders, .ref tfeasts, .ref tway, .int (-1), .int 0, .int 0, .int 0])), (tjars, .inr (6, [.int 9, .ref tjarsA, .int 0])), (tjarsA, .inl (kA 0, 144, .inl (fun _ => 0))), (torders, .inr (6, [.int 4, .ref tordersA, .int 0])), (tordersA, .inl (kA 0, 24, .inl (fun _ => 0))), (tfeasts, .inr (6, [.int 3, .ref tfeastsA, .int 0])), (tfeastsA, .inl (kA 0, 24, .inl (fun _ => 0))), (tway, .inr (6, [.int 1, .ref twayA, .int 0])), (twayA, .inl (kA 0, 6, .inl (fun _ => 0))), (b0, .inr (9, [.ref snodes, .ref spasses, .ref sjars, .ref sorders, .ref sfeasts, .ref sway, .int (-1), .int 0, .int 0, .int 0])), (sjars, .inr (6, [.int 9, .ref sjarsA, .int 0])), (sjarsA, .inl (kA 0, 144, .inl (fun _ => 0))), (sorders, .inr (6, [.int 4, .ref sordersA, .int 0])), (sordersA, .inl (kA 0, 24, .inl (fun _ => 0))), (sfeasts, .inr (6, [.int 3, .ref sfeastsA, .int 0])), (sfeastsA, .inl (kA 0, 24, .inl (fun _ => 0))), (sway, .inr (6, [.int 1, .ref swayA, .int 0])), (swayA, .inl (kA 0, 6, .inl (fun _ => 0)))] H := hP
  have hD : va_D A [(a0, .inr (9, [.ref tnodes, .ref tpasses, .ref tjars, .ref torders, .ref tfeasts, .ref tway, .int (-1), .int 0, .int 0, .int 0])), (tjars, .inr (6, [.int 9, .ref tjarsA, .int 0])), (tjarsA, .inl (kA 0, 144, .inl (fun _ => 0))), (torders, .inr (6, [.int 4, .ref tordersA, .int 0])), (tordersA, .inl (kA 0, 24, .inl (fun _ => 0))), (tfeasts, .inr (6, [.int 3, .ref tfeastsA, .int 0])), (tfeastsA, .inl (kA 0, 24, .inl (fun _ => 0))), (tway, .inr (6, [.int 1, .ref twayA, .int 0])), (twayA, .inl (kA 0, 6, .inl (fun _ => 0))), (b0, .inr (9, [.ref snodes, .ref spasses, .ref sjars, .ref sorders, .ref sfeasts, .ref sway, .int (-1), .int 0, .int 0, .int 0])), (sjars, .inr (6, [.int 9, .ref sjarsA, .int 0])), (sjarsA, .inl (kA 0, 144, .inl (fun _ => 0))), (sorders, .inr (6, [.int 4, .ref sordersA, .int 0])), (sordersA, .inl (kA 0, 24, .inl (fun _ => 0))), (sfeasts, .inr (6, [.int 3, .ref sfeastsA, .int 0])), (sfeastsA, .inl (kA 0, 24, .inl (fun _ => 0))), (sway, .inr (6, [.int 1, .ref swayA, .int 0])), (swayA, .inl (kA 0, 6, .inl (fun _ => 0)))] := hD
  refine lv_aload_n hx hb dX9_copyFrom_22 rfl (lv_at hl 0 rfl) ?_
  refine va_get (D := (dC, dI)) (ci := 9) (v := .ref tjars) (C := RX9) (T := TX9) (N := 10) hx hb hts iX9_copyFrom_X9 hown hK.1 hP 0 rfl rfl 2 (by decide) (kX9_copyFrom_3 hts) (fun _ h9 => h9) rfl dX9_copyFrom_23 ?_
  refine lv_aload_n hx hb dX9_copyFrom_26 rfl (lv_at hl 1 rfl) ?_
  refine va_get (D := (dC, dI)) (ci := 9) (v := .ref sjars) (C := RX9) (T := TX9) (N := 10) hx hb hts iX9_copyFrom_X9 hown hK.1 hP 9 rfl rfl 2 (by decide) (kX9_copyFrom_3 hts) (fun _ h9 => h9) rfl dX9_copyFrom_27 ?_
  refine z_v (wr := [(a0, .inr (9, [.ref tnodes, .ref tpasses, .ref tjars, .ref torders, .ref tfeasts, .ref tway, .int (-1), .int 0, .int 0, .int 0])), (torders, .inr (6, [.int 4, .ref tordersA, .int 0])), (tordersA, .inl (kA 0, 24, .inl (fun _ => 0))), (tfeasts, .inr (6, [.int 3, .ref tfeastsA, .int 0])), (tfeastsA, .inl (kA 0, 24, .inl (fun _ => 0))), (tway, .inr (6, [.int 1, .ref twayA, .int 0])), (twayA, .inl (kA 0, 6, .inl (fun _ => 0))), (b0, .inr (9, [.ref snodes, .ref spasses, .ref sjars, .ref sorders, .ref sfeasts, .ref sway, .int (-1), .int 0, .int 0, .int 0])), (sorders, .inr (6, [.int 4, .ref sordersA, .int 0])), (sordersA, .inl (kA 0, 24, .inl (fun _ => 0))), (sfeasts, .inr (6, [.int 3, .ref sfeastsA, .int 0])), (sfeastsA, .inl (kA 0, 24, .inl (fun _ => 0))), (sway, .inr (6, [.int 1, .ref swayA, .int 0])), (swayA, .inl (kA 0, 6, .inl (fun _ => 0)))]) (va_runV (As := [.ref sjars]) (rest := []) ⟨hx, hb, hml, hown, hts⟩ (mX6_copyFrom_9 l dC dI kA _ tjars tjarsA sjars sjarsA (fun _ => 0) (fun _ => 0)) (cwV 1 hts gX9_copyFrom_X6_copyFrom rfl rfl rfl (by decide +kernel) ⟨(Nat.le_of_ble_eq_true rfl), (Nat.le_of_ble_eq_true rfl)⟩) ⟨zPc.blind, va_recv hK.1 hP (ci := 6) (q0 := 1) rfl rfl, zPre hK (hP.sub [1, 2, 10, 11] rfl) (hD.sub [1, 2, 10, 11] (by decide) rfl)⟩ rfl rfl hl.1 rfl (lv_room (Nat.le_of_ble_eq_true rfl)) dX9_copyFrom_30 ⟨(Nat.le_of_ble_eq_true rfl), (Nat.le_of_ble_eq_true rfl)⟩) hP hD hS hA [1, 2, 10, 11] [0, 3, 4, 5, 6, 7, 8, 9, 12, 13, 14, 15, 16, 17] rfl rfl (by decide) (by decide) (fun u7 H locs hw8 hP hD hS => ?_)
  have hP : va_P (dC, dI) vwCl [(a0, .inr (9, [.ref tnodes, .ref tpasses, .ref tjars, .ref torders, .ref tfeasts, .ref tway, .int (-1), .int 0, .int 0, .int 0])), (torders, .inr (6, [.int 4, .ref tordersA, .int 0])), (tordersA, .inl (kA 0, 24, .inl (fun _ => 0))), (tfeasts, .inr (6, [.int 3, .ref tfeastsA, .int 0])), (tfeastsA, .inl (kA 0, 24, .inl (fun _ => 0))), (tway, .inr (6, [.int 1, .ref twayA, .int 0])), (twayA, .inl (kA 0, 6, .inl (fun _ => 0))), (b0, .inr (9, [.ref snodes, .ref spasses, .ref sjars, .ref sorders, .ref sfeasts, .ref sway, .int (-1), .int 0, .int 0, .int 0])), (sorders, .inr (6, [.int 4, .ref sordersA, .int 0])), (sordersA, .inl (kA 0, 24, .inl (fun _ => 0))), (sfeasts, .inr (6, [.int 3, .ref sfeastsA, .int 0])), (sfeastsA, .inl (kA 0, 24, .inl (fun _ => 0))), (sway, .inr (6, [.int 1, .ref swayA, .int 0])), (swayA, .inl (kA 0, 6, .inl (fun _ => 0)))] H := hP
  have hD : va_D A [(a0, .inr (9, [.ref tnodes, .ref tpasses, .ref tjars, .ref torders, .ref tfeasts, .ref tway, .int (-1), .int 0, .int 0, .int 0])), (torders, .inr (6, [.int 4, .ref tordersA, .int 0])), (tordersA, .inl (kA 0, 24, .inl (fun _ => 0))), (tfeasts, .inr (6, [.int 3, .ref tfeastsA, .int 0])), (tfeastsA, .inl (kA 0, 24, .inl (fun _ => 0))), (tway, .inr (6, [.int 1, .ref twayA, .int 0])), (twayA, .inl (kA 0, 6, .inl (fun _ => 0))), (b0, .inr (9, [.ref snodes, .ref spasses, .ref sjars, .ref sorders, .ref sfeasts, .ref sway, .int (-1), .int 0, .int 0, .int 0])), (sorders, .inr (6, [.int 4, .ref sordersA, .int 0])), (sordersA, .inl (kA 0, 24, .inl (fun _ => 0))), (sfeasts, .inr (6, [.int 3, .ref sfeastsA, .int 0])), (sfeastsA, .inl (kA 0, 24, .inl (fun _ => 0))), (sway, .inr (6, [.int 1, .ref swayA, .int 0])), (swayA, .inl (kA 0, 6, .inl (fun _ => 0)))] := hD
  refine lv_aload_n hx hb dX9_copyFrom_33 rfl (lv_at hl 0 rfl) ?_
  refine va_get (D := (dC, dI)) (ci := 9) (v := .ref torders) (C := RX9) (T := TX9) (N := 10) hx hb hts iX9_copyFrom_X9 hown hK.1 hP 0 rfl rfl 3 (by decide) (kX9_copyFrom_4 hts) (fun _ h9 => h9) rfl dX9_copyFrom_34 ?_
  refine lv_aload_n hx hb dX9_copyFrom_37 rfl (lv_at hl 1 rfl) ?_
  refine va_get (D := (dC, dI)) (ci := 9) (v := .ref sorders) (C := RX9) (T := TX9) (N := 10) hx hb hts iX9_copyFrom_X9 hown hK.1 hP 7 rfl rfl 3 (by decide) (kX9_copyFrom_4 hts) (fun _ h9 => h9) rfl dX9_copyFrom_38 ?_
  refine z_v (wr := [(a0, .inr (9, [.ref tnodes, .ref tpasses, .ref tjars, .ref torders, .ref tfeasts, .ref tway, .int (-1), .int 0, .int 0, .int 0])), (tfeasts, .inr (6, [.int 3, .ref tfeastsA, .int 0])), (tfeastsA, .inl (kA 0, 24, .inl (fun _ => 0))), (tway, .inr (6, [.int 1, .ref twayA, .int 0])), (twayA, .inl (kA 0, 6, .inl (fun _ => 0))), (b0, .inr (9, [.ref snodes, .ref spasses, .ref sjars, .ref sorders, .ref sfeasts, .ref sway, .int (-1), .int 0, .int 0, .int 0])), (sfeasts, .inr (6, [.int 3, .ref sfeastsA, .int 0])), (sfeastsA, .inl (kA 0, 24, .inl (fun _ => 0))), (sway, .inr (6, [.int 1, .ref swayA, .int 0])), (swayA, .inl (kA 0, 6, .inl (fun _ => 0)))]) (va_runV (As := [.ref sorders]) (rest := []) ⟨hx, hb, hml, hown, hts⟩ (mX6_copyFrom_o l dC dI kA _ torders tordersA sorders sordersA (fun _ => 0) (fun _ => 0)) (cwV 1 hts gX9_copyFrom_X6_copyFrom rfl rfl rfl (by decide +kernel) ⟨(Nat.le_of_ble_eq_true rfl), (Nat.le_of_ble_eq_true rfl)⟩) ⟨zPc.blind, va_recv hK.1 hP (ci := 6) (q0 := 1) rfl rfl, zPre hK (hP.sub [1, 2, 8, 9] rfl) (hD.sub [1, 2, 8, 9] (by decide) rfl)⟩ rfl rfl hl.1 rfl (lv_room (Nat.le_of_ble_eq_true rfl)) dX9_copyFrom_41 ⟨(Nat.le_of_ble_eq_true rfl), (Nat.le_of_ble_eq_true rfl)⟩) hP hD hS hA [1, 2, 8, 9] [0, 3, 4, 5, 6, 7, 10, 11, 12, 13] rfl rfl (by decide) (by decide) (fun u10 H locs hw11 hP hD hS => ?_)
  have hP : va_P (dC, dI) vwCl [(a0, .inr (9, [.ref tnodes, .ref tpasses, .ref tjars, .ref torders, .ref tfeasts, .ref tway, .int (-1), .int 0, .int 0, .int 0])), (tfeasts, .inr (6, [.int 3, .ref tfeastsA, .int 0])), (tfeastsA, .inl (kA 0, 24, .inl (fun _ => 0))), (tway, .inr (6, [.int 1, .ref twayA, .int 0])), (twayA, .inl (kA 0, 6, .inl (fun _ => 0))), (b0, .inr (9, [.ref snodes, .ref spasses, .ref sjars, .ref sorders, .ref sfeasts, .ref sway, .int (-1), .int 0, .int 0, .int 0])), (sfeasts, .inr (6, [.int 3, .ref sfeastsA, .int 0])), (sfeastsA, .inl (kA 0, 24, .inl (fun _ => 0))), (sway, .inr (6, [.int 1, .ref swayA, .int 0])), (swayA, .inl (kA 0, 6, .inl (fun _ => 0)))] H := hP
  have hD : va_D A [(a0, .inr (9, [.ref tnodes, .ref tpasses, .ref tjars, .ref torders, .ref tfeasts, .ref tway, .int (-1), .int 0, .int 0, .int 0])), (tfeasts, .inr (6, [.int 3, .ref tfeastsA, .int 0])), (tfeastsA, .inl (kA 0, 24, .inl (fun _ => 0))), (tway, .inr (6, [.int 1, .ref twayA, .int 0])), (twayA, .inl (kA 0, 6, .inl (fun _ => 0))), (b0, .inr (9, [.ref snodes, .ref spasses, .ref sjars, .ref sorders, .ref sfeasts, .ref sway, .int (-1), .int 0, .int 0, .int 0])), (sfeasts, .inr (6, [.int 3, .ref sfeastsA, .int 0])), (sfeastsA, .inl (kA 0, 24, .inl (fun _ => 0))), (sway, .inr (6, [.int 1, .ref swayA, .int 0])), (swayA, .inl (kA 0, 6, .inl (fun _ => 0)))] := hD
  refine lv_aload_n hx hb dX9_copyFrom_44 rfl (lv_at hl 0 rfl) ?_
  refine va_get (D := (dC, dI)) (ci := 9) (v := .ref tfeasts) (C := RX9) (T := TX9) (N := 10) hx hb hts iX9_copyFrom_X9 hown hK.1 hP 0 rfl rfl 4 (by decide) (kX9_copyFrom_5 hts) (fun _ h9 => h9) rfl dX9_copyFrom_45 ?_
  refine lv_aload_n hx hb dX9_copyFrom_48 rfl (lv_at hl 1 rfl) ?_
  refine va_get (D := (dC, dI)) (ci := 9) (v := .ref sfeasts) (C := RX9) (T := TX9) (N := 10) hx hb hts iX9_copyFrom_X9 hown hK.1 hP 5 rfl rfl 4 (by decide) (kX9_copyFrom_5 hts) (fun _ h9 => h9) rfl dX9_copyFrom_49 ?_
  refine z_v (wr := [(a0, .inr (9, [.ref tnodes, .ref tpasses, .ref tjars, .ref torders, .ref tfeasts, .ref tway, .int (-1), .int 0, .int 0, .int 0])), (tway, .inr (6, [.int 1, .ref twayA, .int 0])), (twayA, .inl (kA 0, 6, .inl (fun _ => 0))), (b0, .inr (9, [.ref snodes, .ref spasses, .ref sjars, .ref sorders, .ref sfeasts, .ref sway, .int (-1), .int 0, .int 0, .int 0])), (sway, .inr (6, [.int 1, .ref swayA, .int 0])), (swayA, .inl (kA 0, 6, .inl (fun _ => 0)))]) (va_runV (As := [.ref sfeasts]) (rest := []) ⟨hx, hb, hml, hown, hts⟩ (mX6_copyFrom_3 l dC dI kA _ tfeasts tfeastsA sfeasts sfeastsA (fun _ => 0) (fun _ => 0)) (cwV 1 hts gX9_copyFrom_X6_copyFrom rfl rfl rfl (by decide +kernel) ⟨(Nat.le_of_ble_eq_true rfl), (Nat.le_of_ble_eq_true rfl)⟩) ⟨zPc.blind, va_recv hK.1 hP (ci := 6) (q0 := 1) rfl rfl, zPre hK (hP.sub [1, 2, 6, 7] rfl) (hD.sub [1, 2, 6, 7] (by decide) rfl)⟩ rfl rfl hl.1 rfl (lv_room (Nat.le_of_ble_eq_true rfl)) dX9_copyFrom_52 ⟨(Nat.le_of_ble_eq_true rfl), (Nat.le_of_ble_eq_true rfl)⟩) hP hD hS hA [1, 2, 6, 7] [0, 3, 4, 5, 8, 9] rfl rfl (by decide) (by decide) (fun u13 H locs hw14 hP hD hS => ?_)
  have hP : va_P (dC, dI) vwCl [(a0, .inr (9, [.ref tnodes, .ref tpasses, .ref tjars, .ref torders, .ref tfeasts, .ref tway, .int (-1), .int 0, .int 0, .int 0])), (tway, .inr (6, [.int 1, .ref twayA, .int 0])), (twayA, .inl (kA 0, 6, .inl (fun _ => 0))), (b0, .inr (9, [.ref snodes, .ref spasses, .ref sjars, .ref sorders, .ref sfeasts, .ref sway, .int (-1), .int 0, .int 0, .int 0])), (sway, .inr (6, [.int 1, .ref swayA, .int 0])), (swayA, .inl (kA 0, 6, .inl (fun _ => 0)))] H := hP
  have hD : va_D A [(a0, .inr (9, [.ref tnodes, .ref tpasses, .ref tjars, .ref torders, .ref tfeasts, .ref tway, .int (-1), .int 0, .int 0, .int 0])), (tway, .inr (6, [.int 1, .ref twayA, .int 0])), (twayA, .inl (kA 0, 6, .inl (fun _ => 0))), (b0, .inr (9, [.ref snodes, .ref spasses, .ref sjars, .ref sorders, .ref sfeasts, .ref sway, .int (-1), .int 0, .int 0, .int 0])), (sway, .inr (6, [.int 1, .ref swayA, .int 0])), (swayA, .inl (kA 0, 6, .inl (fun _ => 0)))] := hD
  refine lv_aload_n hx hb dX9_copyFrom_55 rfl (lv_at hl 0 rfl) ?_
  refine va_get (D := (dC, dI)) (ci := 9) (v := .ref tway) (C := RX9) (T := TX9) (N := 10) hx hb hts iX9_copyFrom_X9 hown hK.1 hP 0 rfl rfl 5 (by decide) (kX9_copyFrom_6 hts) (fun _ h9 => h9) rfl dX9_copyFrom_56 ?_
  refine lv_aload_n hx hb dX9_copyFrom_59 rfl (lv_at hl 1 rfl) ?_
  refine va_get (D := (dC, dI)) (ci := 9) (v := .ref sway) (C := RX9) (T := TX9) (N := 10) hx hb hts iX9_copyFrom_X9 hown hK.1 hP 3 rfl rfl 5 (by decide) (kX9_copyFrom_6 hts) (fun _ h9 => h9) rfl dX9_copyFrom_60 ?_
  refine z_v (wr := [(a0, .inr (9, [.ref tnodes, .ref tpasses, .ref tjars, .ref torders, .ref tfeasts, .ref tway, .int (-1), .int 0, .int 0, .int 0])), (b0, .inr (9, [.ref snodes, .ref spasses, .ref sjars, .ref sorders, .ref sfeasts, .ref sway, .int (-1), .int 0, .int 0, .int 0]))]) (va_runV (As := [.ref sway]) (rest := []) ⟨hx, hb, hml, hown, hts⟩ (mX6_copyFrom_1 l dC dI kA _ tway twayA sway swayA (fun _ => 0) (fun _ => 0)) (cwV 1 hts gX9_copyFrom_X6_copyFrom rfl rfl rfl (by decide +kernel) ⟨(Nat.le_of_ble_eq_true rfl), (Nat.le_of_ble_eq_true rfl)⟩) ⟨zPc.blind, va_recv hK.1 hP (ci := 6) (q0 := 1) rfl rfl, zPre hK (hP.sub [1, 2, 4, 5] rfl) (hD.sub [1, 2, 4, 5] (by decide) rfl)⟩ rfl rfl hl.1 rfl (lv_room (Nat.le_of_ble_eq_true rfl)) dX9_copyFrom_63 ⟨(Nat.le_of_ble_eq_true rfl), (Nat.le_of_ble_eq_true rfl)⟩) hP hD hS hA [1, 2, 4, 5] [0, 3] rfl rfl (by decide) (by decide) (fun u16 H locs hw17 hP hD hS => ?_)
  have hP : va_P (dC, dI) vwCl [(a0, .inr (9, [.ref tnodes, .ref tpasses, .ref tjars, .ref torders, .ref tfeasts, .ref tway, .int (-1), .int 0, .int 0, .int 0])), (b0, .inr (9, [.ref snodes, .ref spasses, .ref sjars, .ref sorders, .ref sfeasts, .ref sway, .int (-1), .int 0, .int 0, .int 0]))] H := hP
  have hD : va_D A [(a0, .inr (9, [.ref tnodes, .ref tpasses, .ref tjars, .ref torders, .ref tfeasts, .ref tway, .int (-1), .int 0, .int 0, .int 0])), (b0, .inr (9, [.ref snodes, .ref spasses, .ref sjars, .ref sorders, .ref sfeasts, .ref sway, .int (-1), .int 0, .int 0, .int 0]))] := hD
  refine lv_aload_n hx hb dX9_copyFrom_66 rfl (lv_at hl 0 rfl) ?_
  refine lv_aload_n hx hb dX9_copyFrom_67 rfl (lv_at hl 1 rfl) ?_
  refine va_get (D := (dC, dI)) (ci := 9) (v := .int (-1)) (C := RX9) (T := TX9) (N := 10) hx hb hts iX9_copyFrom_X9 hown hK.1 hP 1 rfl rfl 6 (by decide) (kX9_copyFrom_7 hts) (fun _ h9 => h9) rfl dX9_copyFrom_68 ?_
  refine va_put (D := (dC, dI)) (ci := 9) (v := .int (-1)) (ty := .int) (C := RX9) (T := TX9) (N := 10) hx hb hts iX9_copyFrom_X9 tyX9 tyX9_ok nmX9 hown hK.1 hP hD hS 0 rfl rfl 6 (by decide) (kX9_copyFrom_7 hts) (fun _ h9 => h9) rfl (by decide +kernel) rfl rfl (Nat.le_of_ble_eq_true rfl) dX9_copyFrom_71 (fun H locs hP hD hS => ?_)
  have hP : va_P (dC, dI) vwCl [(a0, .inr (9, [.ref tnodes, .ref tpasses, .ref tjars, .ref torders, .ref tfeasts, .ref tway, .int (-1), .int 0, .int 0, .int 0])), (b0, .inr (9, [.ref snodes, .ref spasses, .ref sjars, .ref sorders, .ref sfeasts, .ref sway, .int (-1), .int 0, .int 0, .int 0]))] H := hP
  have hD : va_D A [(a0, .inr (9, [.ref tnodes, .ref tpasses, .ref tjars, .ref torders, .ref tfeasts, .ref tway, .int (-1), .int 0, .int 0, .int 0])), (b0, .inr (9, [.ref snodes, .ref spasses, .ref sjars, .ref sorders, .ref sfeasts, .ref sway, .int (-1), .int 0, .int 0, .int 0]))] := hD
  refine lv_aload_n hx hb dX9_copyFrom_74 rfl (lv_at hl 0 rfl) ?_
  refine lv_aload_n hx hb dX9_copyFrom_75 rfl (lv_at hl 1 rfl) ?_
  refine va_get (D := (dC, dI)) (ci := 9) (v := .int 0) (C := RX9) (T := TX9) (N := 10) hx hb hts iX9_copyFrom_X9 hown hK.1 hP 1 rfl rfl 7 (by decide) (kX9_copyFrom_8 hts) (fun _ h9 => h9) rfl dX9_copyFrom_76 ?_
  refine va_put (D := (dC, dI)) (ci := 9) (v := .int 0) (ty := .int) (C := RX9) (T := TX9) (N := 10) hx hb hts iX9_copyFrom_X9 tyX9 tyX9_ok nmX9 hown hK.1 hP hD hS 0 rfl rfl 7 (by decide) (kX9_copyFrom_8 hts) (fun _ h9 => h9) rfl (by decide +kernel) rfl rfl (Nat.le_of_ble_eq_true rfl) dX9_copyFrom_79 (fun H locs hP hD hS => ?_)
  have hP : va_P (dC, dI) vwCl [(a0, .inr (9, [.ref tnodes, .ref tpasses, .ref tjars, .ref torders, .ref tfeasts, .ref tway, .int (-1), .int 0, .int 0, .int 0])), (b0, .inr (9, [.ref snodes, .ref spasses, .ref sjars, .ref sorders, .ref sfeasts, .ref sway, .int (-1), .int 0, .int 0, .int 0]))] H := hP
  have hD : va_D A [(a0, .inr (9, [.ref tnodes, .ref tpasses, .ref tjars, .ref torders, .ref tfeasts, .ref tway, .int (-1), .int 0, .int 0, .int 0])), (b0, .inr (9, [.ref snodes, .ref spasses, .ref sjars, .ref sorders, .ref sfeasts, .ref sway, .int (-1), .int 0, .int 0, .int 0]))] := hD
  refine lv_aload_n hx hb dX9_copyFrom_82 rfl (lv_at hl 0 rfl) ?_
  refine lv_aload_n hx hb dX9_copyFrom_83 rfl (lv_at hl 1 rfl) ?_
  refine va_get (D := (dC, dI)) (ci := 9) (v := .int 0) (C := RX9) (T := TX9) (N := 10) hx hb hts iX9_copyFrom_X9 hown hK.1 hP 1 rfl rfl 8 (by decide) (kX9_copyFrom_9 hts) (fun _ h9 => h9) rfl dX9_copyFrom_84 ?_
  refine va_put (D := (dC, dI)) (ci := 9) (v := .int 0) (ty := .int) (C := RX9) (T := TX9) (N := 10) hx hb hts iX9_copyFrom_X9 tyX9 tyX9_ok nmX9 hown hK.1 hP hD hS 0 rfl rfl 8 (by decide) (kX9_copyFrom_9 hts) (fun _ h9 => h9) rfl (by decide +kernel) rfl rfl (Nat.le_of_ble_eq_true rfl) dX9_copyFrom_87 (fun H locs hP hD hS => ?_)
  have hP : va_P (dC, dI) vwCl [(a0, .inr (9, [.ref tnodes, .ref tpasses, .ref tjars, .ref torders, .ref tfeasts, .ref tway, .int (-1), .int 0, .int 0, .int 0])), (b0, .inr (9, [.ref snodes, .ref spasses, .ref sjars, .ref sorders, .ref sfeasts, .ref sway, .int (-1), .int 0, .int 0, .int 0]))] H := hP
  have hD : va_D A [(a0, .inr (9, [.ref tnodes, .ref tpasses, .ref tjars, .ref torders, .ref tfeasts, .ref tway, .int (-1), .int 0, .int 0, .int 0])), (b0, .inr (9, [.ref snodes, .ref spasses, .ref sjars, .ref sorders, .ref sfeasts, .ref sway, .int (-1), .int 0, .int 0, .int 0]))] := hD
  refine lv_aload_n hx hb dX9_copyFrom_90 rfl (lv_at hl 0 rfl) ?_
  refine lv_aload_n hx hb dX9_copyFrom_91 rfl (lv_at hl 1 rfl) ?_
  refine va_get (D := (dC, dI)) (ci := 9) (v := .int 0) (C := RX9) (T := TX9) (N := 10) hx hb hts iX9_copyFrom_X9 hown hK.1 hP 1 rfl rfl 9 (by decide) (kX9_copyFrom_10 hts) (fun _ h9 => h9) rfl dX9_copyFrom_92 ?_
  refine va_put (D := (dC, dI)) (ci := 9) (v := .int 0) (ty := .int) (C := RX9) (T := TX9) (N := 10) hx hb hts iX9_copyFrom_X9 tyX9 tyX9_ok nmX9 hown hK.1 hP hD hS 0 rfl rfl 9 (by decide) (kX9_copyFrom_10 hts) (fun _ h9 => h9) rfl (by decide +kernel) rfl rfl (Nat.le_of_ble_eq_true rfl) dX9_copyFrom_95 (fun H locs hP hD hS => ?_)
  have hP : va_P (dC, dI) vwCl [(a0, .inr (9, [.ref tnodes, .ref tpasses, .ref tjars, .ref torders, .ref tfeasts, .ref tway, .int (-1), .int 0, .int 0, .int 0])), (b0, .inr (9, [.ref snodes, .ref spasses, .ref sjars, .ref sorders, .ref sfeasts, .ref sway, .int (-1), .int 0, .int 0, .int 0]))] H := hP
  have hD : va_D A [(a0, .inr (9, [.ref tnodes, .ref tpasses, .ref tjars, .ref torders, .ref tfeasts, .ref tway, .int (-1), .int 0, .int 0, .int 0])), (b0, .inr (9, [.ref snodes, .ref spasses, .ref sjars, .ref sorders, .ref sfeasts, .ref sway, .int (-1), .int 0, .int 0, .int 0]))] := hD
  have hP9 := hP.sub (ws' := [(b0, .inr (9, [.ref snodes, .ref spasses, .ref sjars, .ref sorders, .ref sfeasts, .ref sway, .int (-1), .int 0, .int 0, .int 0]))]) [1] rfl
  have hD9 := hD.sub (ws' := [(b0, .inr (9, [.ref snodes, .ref spasses, .ref sjars, .ref sorders, .ref sfeasts, .ref sway, .int (-1), .int 0, .int 0, .int 0]))]) [1] (by decide) rfl
  refine W.widen (k := 0) (n := 0) (Nat.le_of_ble_eq_true rfl) (Nat.le_of_ble_eq_true rfl) ?_
  exact W.vret hx hb hr (fun t ht hW => ⟨⟨(), rfl, trivial, by rw [ht]; exact hP9, hD9⟩, hS.F ht⟩) hS.2.2 dX9_copyFrom_98
set_option maxHeartbeats 4000000 in
set_option maxRecDepth 100000 in
theorem mX10_lawOf (l : Launch) (dC : Nat → ClassId) (dI : Nat → Nat → Nat) (kA : Nat → ClassId) (sz : Nat) (x0 : Nat) (xw : Nat) (xl : Nat) (xi : Nat) (xt : Nat) (xq : Nat) (xr : Nat) (xh : Nat) (xp : Nat) (xs_ : Nat) (xa : Nat) (xm : Nat) (n : Int32)  : Met l yX10_lawOf wsX10_lawOf ({ frames := 1, cells := 0, slots := 0, locals := 21 }) (zPc dC dI kA sz [.ref x0, .int n] [(x0, .inr (10, [.ref xw, .ref xl, .ref xi, .ref xt, .int 0, .ref xq, .int 0, .ref xr, .ref xh, .ref xp, .ref xs_, .ref xa, .ref xm]))]) (va_Qq (fun (r : Option Nat) (u : Unit) => r = none) (zB dC dI (va_A [(x0, .inr (10, [.ref xw, .ref xl, .ref xi, .ref xt, .int 0, .ref xq, .int 0, .ref xr, .ref xh, .ref xp, .ref xs_, .ref xa, .ref xm]))] sz) (fun (u : Unit) => [(x0, .inr (10, [.ref xw, .ref xl, .ref xi, .ref xt, .int 0, .ref xq, .int 0, .ref xr, .ref xh, .ref xp, .ref xs_, .ref xa, .ref xm]))])) (va_A [(x0, .inr (10, [.ref xw, .ref xl, .ref xi, .ref xt, .int 0, .ref xq, .int 0, .ref xr, .ref xh, .ref xp, .ref xs_, .ref xa, .ref xm]))] sz)) 0 0 (va_A [(x0, .inr (10, [.ref xw, .ref xl, .ref xi, .ref xt, .int 0, .ref xq, .int 0, .ref xr, .ref xh, .ref xp, .ref xs_, .ref xa, .ref xm]))] sz) := by
  refine Met.ofW (cc := cX10_lawOf) (maxL := 2) (ret := (some (.object "SnowMules$Law"))) (by decide) rfl ?_
  intro p e s m args below meth c s₁ B hml hv
  obtain ⟨rfl, hsz, hP, hK, hD0⟩ := hv
  have hx := B.exec
  have hb := B.bytes
  have hr := B.returns
  have hts := atoms_spec (ws := wsX10_lawOf) B.pre
  have hown : s.vm.findClass RX10 = some m.cls := findClass_of_methodNamed B.named
  have hlocks := B.notSynchronized
  subst hsz
  have hD := hD0.self (sz := s.heap.size)
  generalize hAe : va_A [(x0, .inr (10, [.ref xw, .ref xl, .ref xi, .ref xt, .int 0, .ref xq, .int 0, .ref xr, .ref xh, .ref xp, .ref xs_, .ref xa, .ref xm]))] s.heap.size = A at hD ⊢
  have hA : ∀ q : Nat, s.heap.size ≤ q → A q := fun q h => by rw [← hAe]; exact Or.inr h
  have hS : va_S A s.heap s.heap [] := va_S.rf
  have hP : va_P (dC, dI) vwCl [(x0, .inr (10, [.ref xw, .ref xl, .ref xi, .ref xt, .int 0, .ref xq, .int 0, .ref xr, .ref xh, .ref xp, .ref xs_, .ref xa, .ref xm]))] s.heap := hP
  have hl := lv_entry ([.ref x0, .int n]) (n := 2) (Nat.le_of_ble_eq_true rfl)
  rw [lg_entry_eq]
  generalize (lg_sl ([.ref x0, .int n]) ++ List.replicate (2 - (lg_sl ([.ref x0, .int n])).length) Slot.unset).toArray = ls at hl ⊢
  have hl : lv_has ls 2 [(0, .ref x0), (1, .int n)] := hl
  refine lv_iload_n hx hb dX10_lawOf_0 rfl (lv_at hl 1 rfl) ?_
  refine lv_aload_n hx hb dX10_lawOf_1 rfl (lv_at hl 0 rfl) ?_
  refine va_get (D := (dC, dI)) (ci := 10) (v := .int 0) (C := RX10) (T := TX10) (N := 13) hx hb hts iX10_lawOf_X10 hown hK.1 hP 0 rfl rfl 6 (by decide) (kX10_lawOf_1 hts) (fun _ h9 => h9) rfl dX10_lawOf_2 ?_
  refine lv_iconst (v := 1) hx hb dX10_lawOf_5 (by decide) ?_
  refine lv_isub hx hb dX10_lawOf_6 ?_
  refine zi (-1) (by decide) ?_
  refine z_i (wr := [(x0, .inr (10, [.ref xw, .ref xl, .ref xi, .ref xt, .int 0, .ref xq, .int 0, .ref xr, .ref xh, .ref xp, .ref xs_, .ref xa, .ref xm]))]) (va_runS (As := [.int n, .int (-1)]) (rest := []) ⟨hx, hb, hml, hown, hts⟩ (mX10_within l dC dI kA _ n (-1)) (va_cwS 2 hts gX10_lawOf_X10_within rfl rfl rfl (by decide +kernel) ⟨(Nat.le_of_ble_eq_true rfl), (Nat.le_of_ble_eq_true rfl)⟩) ⟨zPc.blind, zPre hK (hP.sub [] rfl) (hD.sub [] (by decide) rfl)⟩ rfl rfl hl.1 rfl (lv_room (Nat.le_of_ble_eq_true rfl)) dX10_lawOf_7 ⟨(Nat.le_of_ble_eq_true rfl), (Nat.le_of_ble_eq_true rfl)⟩) hP hD hS hA [] [0] rfl rfl (by decide) (by decide) (fun r3 u1 H locs hw2 hP hD hS => ?_)
  obtain rfl := hw2
  have hP : va_P (dC, dI) vwCl [(x0, .inr (10, [.ref xw, .ref xl, .ref xi, .ref xt, .int 0, .ref xq, .int 0, .ref xr, .ref xh, .ref xp, .ref xs_, .ref xa, .ref xm]))] H := hP
  have hD : va_D A [(x0, .inr (10, [.ref xw, .ref xl, .ref xi, .ref xt, .int 0, .ref xq, .int 0, .ref xr, .ref xh, .ref xp, .ref xs_, .ref xa, .ref xm]))] := hD
  refine lv_if_eq (tgt := 28) hx hb dX10_lawOf_10 (by decide) (fun _ => ?_) (fun c_4 => absurd (wi_m1 _) c_4)
  refine lv_null hx hb dX10_lawOf_28 ?_
  have hP9 := hP.sub (ws' := [(x0, .inr (10, [.ref xw, .ref xl, .ref xi, .ref xt, .int 0, .ref xq, .int 0, .ref xr, .ref xh, .ref xp, .ref xs_, .ref xa, .ref xm]))]) [0] rfl
  have hD9 := hD.sub (ws' := [(x0, .inr (10, [.ref xw, .ref xl, .ref xi, .ref xt, .int 0, .ref xq, .int 0, .ref xr, .ref xh, .ref xp, .ref xs_, .ref xa, .ref xm]))]) [0] (by decide) rfl
  refine W.widen (k := 0) (n := 0) (Nat.le_of_ble_eq_true rfl) (Nat.le_of_ble_eq_true rfl) ?_
  exact W.aret (v := .null) hx hb hr (Or.inl ⟨_, rfl⟩) (Or.inl rfl) (fun t ht hW => ⟨⟨none, (), rfl, rfl, by rw [ht]; exact hP9, hD9⟩, hS.F ht⟩) hS.2.2 dX10_lawOf_29
set_option maxHeartbeats 4000000 in
set_option maxRecDepth 100000 in
theorem mX10_writeBytes_0 (l : Launch) (dC : Nat → ClassId) (dI : Nat → Nat → Nat) (kA : Nat → ClassId) (sz : Nat) (x0 : Nat) (xw : Nat) (xl : Nat) (xi : Nat) (xt : Nat) (xq : Nat) (xr : Nat) (xh : Nat) (xp : Nat) (xs_ : Nat) (xa : Nat) (xm : Nat) (f : Nat → Int32) (v : Int32)  : Met l yX10_writeBytes wsX10_writeBytes ({ frames := 0, cells := 0, slots := 0, locals := 0 }) (zPc dC dI kA sz [.ref x0, .int v] [(x0, .inr (10, [.ref xw, .ref xl, .ref xi, .ref xt, .int 0, .ref xq, .int 0, .ref xr, .ref xh, .ref xp, .ref xs_, .ref xa, .ref xm])), (xt, .inl (kA 0, 400, .inl f))]) (va_Qv (fun (u : Nat → Int32) => True) (zB dC dI (va_A [(x0, .inr (10, [.ref xw, .ref xl, .ref xi, .ref xt, .int 0, .ref xq, .int 0, .ref xr, .ref xh, .ref xp, .ref xs_, .ref xa, .ref xm])), (xt, .inl (kA 0, 400, .inl f))] sz) (fun (u : Nat → Int32) => [(x0, .inr (10, [.ref xw, .ref xl, .ref xi, .ref xt, .int 4, .ref xq, .int 0, .ref xr, .ref xh, .ref xp, .ref xs_, .ref xa, .ref xm])), (xt, .inl (kA 0, 400, .inl u))])) (va_A [(x0, .inr (10, [.ref xw, .ref xl, .ref xi, .ref xt, .int 0, .ref xq, .int 0, .ref xr, .ref xh, .ref xp, .ref xs_, .ref xa, .ref xm])), (xt, .inl (kA 0, 400, .inl f))] sz)) 0 0 (va_A [(x0, .inr (10, [.ref xw, .ref xl, .ref xi, .ref xt, .int 0, .ref xq, .int 0, .ref xr, .ref xh, .ref xp, .ref xs_, .ref xa, .ref xm])), (xt, .inl (kA 0, 400, .inl f))] sz) := by
  refine Met.ofW (cc := cX10_writeBytes) (maxL := 3) (ret := none) (by decide) rfl ?_
  intro p e s m args below meth c s₁ B hml hv
  obtain ⟨rfl, hsz, hP, hK, hD0⟩ := hv
  have hx := B.exec
  have hb := B.bytes
  have hr := B.returns
  have hts := atoms_spec (ws := wsX10_writeBytes) B.pre
  have hown : s.vm.findClass RX10 = some m.cls := findClass_of_methodNamed B.named
  have hlocks := B.notSynchronized
  subst hsz
  have hD := hD0.self (sz := s.heap.size)
  generalize hAe : va_A [(x0, .inr (10, [.ref xw, .ref xl, .ref xi, .ref xt, .int 0, .ref xq, .int 0, .ref xr, .ref xh, .ref xp, .ref xs_, .ref xa, .ref xm])), (xt, .inl (kA 0, 400, .inl f))] s.heap.size = A at hD ⊢
  have hA : ∀ q : Nat, s.heap.size ≤ q → A q := fun q h => by rw [← hAe]; exact Or.inr h
  have hS : va_S A s.heap s.heap [] := va_S.rf
  have hP : va_P (dC, dI) vwCl [(x0, .inr (10, [.ref xw, .ref xl, .ref xi, .ref xt, .int 0, .ref xq, .int 0, .ref xr, .ref xh, .ref xp, .ref xs_, .ref xa, .ref xm])), (xt, .inl (kA 0, 400, .inl f))] s.heap := hP
  have hl := lv_entry ([.ref x0, .int v]) (n := 3) (Nat.le_of_ble_eq_true rfl)
  rw [lg_entry_eq]
  generalize (lg_sl ([.ref x0, .int v]) ++ List.replicate (3 - (lg_sl ([.ref x0, .int v])).length) Slot.unset).toArray = ls at hl ⊢
  have hl : lv_has ls 3 [(0, .ref x0), (1, .int v)] := hl
  refine lv_bipush (v := 24) hx hb dX10_writeBytes_0 (by decide) ?_
  refine lv_istore_n (lv' := [(2, .int 24), (0, .ref x0), (1, .int v)]) hx hb dX10_writeBytes_2 rfl hl (by decide) rfl (fun ls hl => ?_)
  refine lv_iload_n hx hb dX10_writeBytes_3 rfl (lv_at hl 0 rfl) ?_
  refine lv_if_lt (tgt := 49) hx hb dX10_writeBytes_4 (by decide) (fun c_1 => absurd c_1 (by decide)) (fun _ => ?_)
  refine lv_aload_n hx hb dX10_writeBytes_7 rfl (lv_at hl 1 rfl) ?_
  refine va_get (D := (dC, dI)) (ci := 10) (v := .int 0) (C := RX10) (T := TX10) (N := 13) hx hb hts iX10_writeBytes_X10 hown hK.1 hP 0 rfl rfl 4 (by decide) (kX10_writeBytes_1 hts) (fun _ h9 => h9) rfl dX10_writeBytes_8 ?_
  refine lv_sipush (v := 400) hx hb dX10_writeBytes_11 (by decide) ?_
  refine lv_icmp_ge (tgt := 43) hx hb dX10_writeBytes_14 (by decide) (fun c_2 => absurd c_2 (by decide)) (fun _ => ?_)
  refine lv_aload_n hx hb dX10_writeBytes_17 rfl (lv_at hl 1 rfl) ?_
  refine va_get (D := (dC, dI)) (ci := 10) (v := .ref xt) (C := RX10) (T := TX10) (N := 13) hx hb hts iX10_writeBytes_X10 hown hK.1 hP 0 rfl rfl 3 (by decide) (kX10_writeBytes_2 hts) (fun _ h9 => h9) rfl dX10_writeBytes_18 ?_
  refine lv_aload_n hx hb dX10_writeBytes_21 rfl (lv_at hl 1 rfl) ?_
  refine va_get (D := (dC, dI)) (ci := 10) (v := .int 0) (C := RX10) (T := TX10) (N := 13) hx hb hts iX10_writeBytes_X10 hown hK.1 hP 0 rfl rfl 4 (by decide) (kX10_writeBytes_1 hts) (fun _ h9 => h9) rfl dX10_writeBytes_22 ?_
  refine lv_iload_n hx hb dX10_writeBytes_25 rfl (lv_at hl 2 rfl) ?_
  refine lv_iload_n hx hb dX10_writeBytes_26 rfl (lv_at hl 0 rfl) ?_
  refine lv_iushr hx hb dX10_writeBytes_27 rfl ?_
  refine lv_topi (fun x3 ex3 => ?_)
  refine lv_sipush (v := 255) hx hb dX10_writeBytes_28 (by decide) ?_
  refine lv_iand hx hb dX10_writeBytes_31 ?_
  refine va_iast hx hb hK.1 hP hD hS 1 0 rfl rfl (vpd (by decide)) dX10_writeBytes_32 (fun H locs hP hD hS => ?_)
  have hP : va_P (dC, dI) vwCl [(x0, .inr (10, [.ref xw, .ref xl, .ref xi, .ref xt, .int 0, .ref xq, .int 0, .ref xr, .ref xh, .ref xp, .ref xs_, .ref xa, .ref xm])), (xt, .inl (kA 0, 400, .inl (upd f (0 : Int32).toNatClampNeg (x3 &&& 255))))] H := hP
  have hD : va_D A [(x0, .inr (10, [.ref xw, .ref xl, .ref xi, .ref xt, .int 0, .ref xq, .int 0, .ref xr, .ref xh, .ref xp, .ref xs_, .ref xa, .ref xm])), (xt, .inl (kA 0, 400, .inl (upd f (0 : Int32).toNatClampNeg (x3 &&& 255))))] := hD
  obtain ⟨f4, ef4⟩ : ∃ y : Nat → Int32, y = (upd f (0 : Int32).toNatClampNeg (x3 &&& 255)) := ⟨_, rfl⟩
  rw [← ef4] at hP hD
  refine lv_aload_n hx hb dX10_writeBytes_33 rfl (lv_at hl 1 rfl) ?_
  refine lv_dup hx hb dX10_writeBytes_34 rfl ?_
  refine va_get (D := (dC, dI)) (ci := 10) (v := .int 0) (C := RX10) (T := TX10) (N := 13) hx hb hts iX10_writeBytes_X10 hown hK.1 hP 0 rfl rfl 4 (by decide) (kX10_writeBytes_1 hts) (fun _ h9 => h9) rfl dX10_writeBytes_35 ?_
  refine lv_iconst (v := 1) hx hb dX10_writeBytes_38 (by decide) ?_
  refine lv_iadd hx hb dX10_writeBytes_39 ?_
  refine zi 1 (by decide) ?_
  refine va_put (D := (dC, dI)) (ci := 10) (v := .int 1) (ty := .int) (C := RX10) (T := TX10) (N := 13) hx hb hts iX10_writeBytes_X10 tyX10 tyX10_ok nmX10 hown hK.1 hP hD hS 0 rfl rfl 4 (by decide) (kX10_writeBytes_1 hts) (fun _ h9 => h9) rfl (by decide +kernel) rfl rfl (Nat.le_of_ble_eq_true rfl) dX10_writeBytes_40 (fun H locs hP hD hS => ?_)
  have hP : va_P (dC, dI) vwCl [(x0, .inr (10, [.ref xw, .ref xl, .ref xi, .ref xt, .int 1, .ref xq, .int 0, .ref xr, .ref xh, .ref xp, .ref xs_, .ref xa, .ref xm])), (xt, .inl (kA 0, 400, .inl f4))] H := hP
  have hD : va_D A [(x0, .inr (10, [.ref xw, .ref xl, .ref xi, .ref xt, .int 1, .ref xq, .int 0, .ref xr, .ref xh, .ref xp, .ref xs_, .ref xa, .ref xm])), (xt, .inl (kA 0, 400, .inl f4))] := hD
  refine lv_iinc (v := 16) (lv' := [(2, .int 16), (0, .ref x0), (1, .int v)]) hx hb dX10_writeBytes_43 hl (k := 0) rfl (by decide) (by decide) rfl (fun ls hl => ?_)
  refine lv_goto (tgt := 3) hx hb dX10_writeBytes_46 (by decide) ?_
  refine lv_iload_n hx hb dX10_writeBytes_3 rfl (lv_at hl 0 rfl) ?_
  refine lv_if_lt (tgt := 49) hx hb dX10_writeBytes_4 (by decide) (fun c_5 => absurd c_5 (by decide)) (fun _ => ?_)
  refine lv_aload_n hx hb dX10_writeBytes_7 rfl (lv_at hl 1 rfl) ?_
  refine va_get (D := (dC, dI)) (ci := 10) (v := .int 1) (C := RX10) (T := TX10) (N := 13) hx hb hts iX10_writeBytes_X10 hown hK.1 hP 0 rfl rfl 4 (by decide) (kX10_writeBytes_1 hts) (fun _ h9 => h9) rfl dX10_writeBytes_8 ?_
  refine lv_sipush (v := 400) hx hb dX10_writeBytes_11 (by decide) ?_
  refine lv_icmp_ge (tgt := 43) hx hb dX10_writeBytes_14 (by decide) (fun c_6 => absurd c_6 (by decide)) (fun _ => ?_)
  refine lv_aload_n hx hb dX10_writeBytes_17 rfl (lv_at hl 1 rfl) ?_
  refine va_get (D := (dC, dI)) (ci := 10) (v := .ref xt) (C := RX10) (T := TX10) (N := 13) hx hb hts iX10_writeBytes_X10 hown hK.1 hP 0 rfl rfl 3 (by decide) (kX10_writeBytes_2 hts) (fun _ h9 => h9) rfl dX10_writeBytes_18 ?_
  refine lv_aload_n hx hb dX10_writeBytes_21 rfl (lv_at hl 1 rfl) ?_
  refine va_get (D := (dC, dI)) (ci := 10) (v := .int 1) (C := RX10) (T := TX10) (N := 13) hx hb hts iX10_writeBytes_X10 hown hK.1 hP 0 rfl rfl 4 (by decide) (kX10_writeBytes_1 hts) (fun _ h9 => h9) rfl dX10_writeBytes_22 ?_
  refine lv_iload_n hx hb dX10_writeBytes_25 rfl (lv_at hl 2 rfl) ?_
  refine lv_iload_n hx hb dX10_writeBytes_26 rfl (lv_at hl 0 rfl) ?_
  refine lv_iushr hx hb dX10_writeBytes_27 rfl ?_
  refine lv_topi (fun x7 ex7 => ?_)
  refine lv_sipush (v := 255) hx hb dX10_writeBytes_28 (by decide) ?_
  refine lv_iand hx hb dX10_writeBytes_31 ?_
  refine va_iast hx hb hK.1 hP hD hS 1 0 rfl rfl (vpd (by decide)) dX10_writeBytes_32 (fun H locs hP hD hS => ?_)
  have hP : va_P (dC, dI) vwCl [(x0, .inr (10, [.ref xw, .ref xl, .ref xi, .ref xt, .int 1, .ref xq, .int 0, .ref xr, .ref xh, .ref xp, .ref xs_, .ref xa, .ref xm])), (xt, .inl (kA 0, 400, .inl (upd f4 (1 : Int32).toNatClampNeg (x7 &&& 255))))] H := hP
  have hD : va_D A [(x0, .inr (10, [.ref xw, .ref xl, .ref xi, .ref xt, .int 1, .ref xq, .int 0, .ref xr, .ref xh, .ref xp, .ref xs_, .ref xa, .ref xm])), (xt, .inl (kA 0, 400, .inl (upd f4 (1 : Int32).toNatClampNeg (x7 &&& 255))))] := hD
  obtain ⟨f8, ef8⟩ : ∃ y : Nat → Int32, y = (upd f4 (1 : Int32).toNatClampNeg (x7 &&& 255)) := ⟨_, rfl⟩
  rw [← ef8] at hP hD
  refine lv_aload_n hx hb dX10_writeBytes_33 rfl (lv_at hl 1 rfl) ?_
  refine lv_dup hx hb dX10_writeBytes_34 rfl ?_
  refine va_get (D := (dC, dI)) (ci := 10) (v := .int 1) (C := RX10) (T := TX10) (N := 13) hx hb hts iX10_writeBytes_X10 hown hK.1 hP 0 rfl rfl 4 (by decide) (kX10_writeBytes_1 hts) (fun _ h9 => h9) rfl dX10_writeBytes_35 ?_
  refine lv_iconst (v := 1) hx hb dX10_writeBytes_38 (by decide) ?_
  refine lv_iadd hx hb dX10_writeBytes_39 ?_
  refine zi 2 (by decide) ?_
  refine va_put (D := (dC, dI)) (ci := 10) (v := .int 2) (ty := .int) (C := RX10) (T := TX10) (N := 13) hx hb hts iX10_writeBytes_X10 tyX10 tyX10_ok nmX10 hown hK.1 hP hD hS 0 rfl rfl 4 (by decide) (kX10_writeBytes_1 hts) (fun _ h9 => h9) rfl (by decide +kernel) rfl rfl (Nat.le_of_ble_eq_true rfl) dX10_writeBytes_40 (fun H locs hP hD hS => ?_)
  have hP : va_P (dC, dI) vwCl [(x0, .inr (10, [.ref xw, .ref xl, .ref xi, .ref xt, .int 2, .ref xq, .int 0, .ref xr, .ref xh, .ref xp, .ref xs_, .ref xa, .ref xm])), (xt, .inl (kA 0, 400, .inl f8))] H := hP
  have hD : va_D A [(x0, .inr (10, [.ref xw, .ref xl, .ref xi, .ref xt, .int 2, .ref xq, .int 0, .ref xr, .ref xh, .ref xp, .ref xs_, .ref xa, .ref xm])), (xt, .inl (kA 0, 400, .inl f8))] := hD
  refine lv_iinc (v := 8) (lv' := [(2, .int 8), (0, .ref x0), (1, .int v)]) hx hb dX10_writeBytes_43 hl (k := 0) rfl (by decide) (by decide) rfl (fun ls hl => ?_)
  refine lv_goto (tgt := 3) hx hb dX10_writeBytes_46 (by decide) ?_
  refine lv_iload_n hx hb dX10_writeBytes_3 rfl (lv_at hl 0 rfl) ?_
  refine lv_if_lt (tgt := 49) hx hb dX10_writeBytes_4 (by decide) (fun c_9 => absurd c_9 (by decide)) (fun _ => ?_)
  refine lv_aload_n hx hb dX10_writeBytes_7 rfl (lv_at hl 1 rfl) ?_
  refine va_get (D := (dC, dI)) (ci := 10) (v := .int 2) (C := RX10) (T := TX10) (N := 13) hx hb hts iX10_writeBytes_X10 hown hK.1 hP 0 rfl rfl 4 (by decide) (kX10_writeBytes_1 hts) (fun _ h9 => h9) rfl dX10_writeBytes_8 ?_
  refine lv_sipush (v := 400) hx hb dX10_writeBytes_11 (by decide) ?_
  refine lv_icmp_ge (tgt := 43) hx hb dX10_writeBytes_14 (by decide) (fun c_10 => absurd c_10 (by decide)) (fun _ => ?_)
  refine lv_aload_n hx hb dX10_writeBytes_17 rfl (lv_at hl 1 rfl) ?_
  refine va_get (D := (dC, dI)) (ci := 10) (v := .ref xt) (C := RX10) (T := TX10) (N := 13) hx hb hts iX10_writeBytes_X10 hown hK.1 hP 0 rfl rfl 3 (by decide) (kX10_writeBytes_2 hts) (fun _ h9 => h9) rfl dX10_writeBytes_18 ?_
  refine lv_aload_n hx hb dX10_writeBytes_21 rfl (lv_at hl 1 rfl) ?_
  refine va_get (D := (dC, dI)) (ci := 10) (v := .int 2) (C := RX10) (T := TX10) (N := 13) hx hb hts iX10_writeBytes_X10 hown hK.1 hP 0 rfl rfl 4 (by decide) (kX10_writeBytes_1 hts) (fun _ h9 => h9) rfl dX10_writeBytes_22 ?_
  refine lv_iload_n hx hb dX10_writeBytes_25 rfl (lv_at hl 2 rfl) ?_
  refine lv_iload_n hx hb dX10_writeBytes_26 rfl (lv_at hl 0 rfl) ?_
  refine lv_iushr hx hb dX10_writeBytes_27 rfl ?_
  refine lv_topi (fun x11 ex11 => ?_)
  refine lv_sipush (v := 255) hx hb dX10_writeBytes_28 (by decide) ?_
  refine lv_iand hx hb dX10_writeBytes_31 ?_
  refine va_iast hx hb hK.1 hP hD hS 1 0 rfl rfl (vpd (by decide)) dX10_writeBytes_32 (fun H locs hP hD hS => ?_)
  have hP : va_P (dC, dI) vwCl [(x0, .inr (10, [.ref xw, .ref xl, .ref xi, .ref xt, .int 2, .ref xq, .int 0, .ref xr, .ref xh, .ref xp, .ref xs_, .ref xa, .ref xm])), (xt, .inl (kA 0, 400, .inl (upd f8 (2 : Int32).toNatClampNeg (x11 &&& 255))))] H := hP
  have hD : va_D A [(x0, .inr (10, [.ref xw, .ref xl, .ref xi, .ref xt, .int 2, .ref xq, .int 0, .ref xr, .ref xh, .ref xp, .ref xs_, .ref xa, .ref xm])), (xt, .inl (kA 0, 400, .inl (upd f8 (2 : Int32).toNatClampNeg (x11 &&& 255))))] := hD
  obtain ⟨f12, ef12⟩ : ∃ y : Nat → Int32, y = (upd f8 (2 : Int32).toNatClampNeg (x11 &&& 255)) := ⟨_, rfl⟩
  rw [← ef12] at hP hD
  refine lv_aload_n hx hb dX10_writeBytes_33 rfl (lv_at hl 1 rfl) ?_
  refine lv_dup hx hb dX10_writeBytes_34 rfl ?_
  refine va_get (D := (dC, dI)) (ci := 10) (v := .int 2) (C := RX10) (T := TX10) (N := 13) hx hb hts iX10_writeBytes_X10 hown hK.1 hP 0 rfl rfl 4 (by decide) (kX10_writeBytes_1 hts) (fun _ h9 => h9) rfl dX10_writeBytes_35 ?_
  refine lv_iconst (v := 1) hx hb dX10_writeBytes_38 (by decide) ?_
  refine lv_iadd hx hb dX10_writeBytes_39 ?_
  refine zi 3 (by decide) ?_
  refine va_put (D := (dC, dI)) (ci := 10) (v := .int 3) (ty := .int) (C := RX10) (T := TX10) (N := 13) hx hb hts iX10_writeBytes_X10 tyX10 tyX10_ok nmX10 hown hK.1 hP hD hS 0 rfl rfl 4 (by decide) (kX10_writeBytes_1 hts) (fun _ h9 => h9) rfl (by decide +kernel) rfl rfl (Nat.le_of_ble_eq_true rfl) dX10_writeBytes_40 (fun H locs hP hD hS => ?_)
  have hP : va_P (dC, dI) vwCl [(x0, .inr (10, [.ref xw, .ref xl, .ref xi, .ref xt, .int 3, .ref xq, .int 0, .ref xr, .ref xh, .ref xp, .ref xs_, .ref xa, .ref xm])), (xt, .inl (kA 0, 400, .inl f12))] H := hP
  have hD : va_D A [(x0, .inr (10, [.ref xw, .ref xl, .ref xi, .ref xt, .int 3, .ref xq, .int 0, .ref xr, .ref xh, .ref xp, .ref xs_, .ref xa, .ref xm])), (xt, .inl (kA 0, 400, .inl f12))] := hD
  refine lv_iinc (v := 0) (lv' := [(2, .int 0), (0, .ref x0), (1, .int v)]) hx hb dX10_writeBytes_43 hl (k := 0) rfl (by decide) (by decide) rfl (fun ls hl => ?_)
  refine lv_goto (tgt := 3) hx hb dX10_writeBytes_46 (by decide) ?_
  refine lv_iload_n hx hb dX10_writeBytes_3 rfl (lv_at hl 0 rfl) ?_
  refine lv_if_lt (tgt := 49) hx hb dX10_writeBytes_4 (by decide) (fun c_13 => absurd c_13 (by decide)) (fun _ => ?_)
  refine lv_aload_n hx hb dX10_writeBytes_7 rfl (lv_at hl 1 rfl) ?_
  refine va_get (D := (dC, dI)) (ci := 10) (v := .int 3) (C := RX10) (T := TX10) (N := 13) hx hb hts iX10_writeBytes_X10 hown hK.1 hP 0 rfl rfl 4 (by decide) (kX10_writeBytes_1 hts) (fun _ h9 => h9) rfl dX10_writeBytes_8 ?_
  refine lv_sipush (v := 400) hx hb dX10_writeBytes_11 (by decide) ?_
  refine lv_icmp_ge (tgt := 43) hx hb dX10_writeBytes_14 (by decide) (fun c_14 => absurd c_14 (by decide)) (fun _ => ?_)
  refine lv_aload_n hx hb dX10_writeBytes_17 rfl (lv_at hl 1 rfl) ?_
  refine va_get (D := (dC, dI)) (ci := 10) (v := .ref xt) (C := RX10) (T := TX10) (N := 13) hx hb hts iX10_writeBytes_X10 hown hK.1 hP 0 rfl rfl 3 (by decide) (kX10_writeBytes_2 hts) (fun _ h9 => h9) rfl dX10_writeBytes_18 ?_
  refine lv_aload_n hx hb dX10_writeBytes_21 rfl (lv_at hl 1 rfl) ?_
  refine va_get (D := (dC, dI)) (ci := 10) (v := .int 3) (C := RX10) (T := TX10) (N := 13) hx hb hts iX10_writeBytes_X10 hown hK.1 hP 0 rfl rfl 4 (by decide) (kX10_writeBytes_1 hts) (fun _ h9 => h9) rfl dX10_writeBytes_22 ?_
  refine lv_iload_n hx hb dX10_writeBytes_25 rfl (lv_at hl 2 rfl) ?_
  refine lv_iload_n hx hb dX10_writeBytes_26 rfl (lv_at hl 0 rfl) ?_
  refine lv_iushr hx hb dX10_writeBytes_27 rfl ?_
  refine lv_topi (fun x15 ex15 => ?_)
  refine lv_sipush (v := 255) hx hb dX10_writeBytes_28 (by decide) ?_
  refine lv_iand hx hb dX10_writeBytes_31 ?_
  refine va_iast hx hb hK.1 hP hD hS 1 0 rfl rfl (vpd (by decide)) dX10_writeBytes_32 (fun H locs hP hD hS => ?_)
  have hP : va_P (dC, dI) vwCl [(x0, .inr (10, [.ref xw, .ref xl, .ref xi, .ref xt, .int 3, .ref xq, .int 0, .ref xr, .ref xh, .ref xp, .ref xs_, .ref xa, .ref xm])), (xt, .inl (kA 0, 400, .inl (upd f12 (3 : Int32).toNatClampNeg (x15 &&& 255))))] H := hP
  have hD : va_D A [(x0, .inr (10, [.ref xw, .ref xl, .ref xi, .ref xt, .int 3, .ref xq, .int 0, .ref xr, .ref xh, .ref xp, .ref xs_, .ref xa, .ref xm])), (xt, .inl (kA 0, 400, .inl (upd f12 (3 : Int32).toNatClampNeg (x15 &&& 255))))] := hD
  obtain ⟨f16, ef16⟩ : ∃ y : Nat → Int32, y = (upd f12 (3 : Int32).toNatClampNeg (x15 &&& 255)) := ⟨_, rfl⟩
  rw [← ef16] at hP hD
  refine lv_aload_n hx hb dX10_writeBytes_33 rfl (lv_at hl 1 rfl) ?_
  refine lv_dup hx hb dX10_writeBytes_34 rfl ?_
  refine va_get (D := (dC, dI)) (ci := 10) (v := .int 3) (C := RX10) (T := TX10) (N := 13) hx hb hts iX10_writeBytes_X10 hown hK.1 hP 0 rfl rfl 4 (by decide) (kX10_writeBytes_1 hts) (fun _ h9 => h9) rfl dX10_writeBytes_35 ?_
  refine lv_iconst (v := 1) hx hb dX10_writeBytes_38 (by decide) ?_
  refine lv_iadd hx hb dX10_writeBytes_39 ?_
  refine zi 4 (by decide) ?_
  refine va_put (D := (dC, dI)) (ci := 10) (v := .int 4) (ty := .int) (C := RX10) (T := TX10) (N := 13) hx hb hts iX10_writeBytes_X10 tyX10 tyX10_ok nmX10 hown hK.1 hP hD hS 0 rfl rfl 4 (by decide) (kX10_writeBytes_1 hts) (fun _ h9 => h9) rfl (by decide +kernel) rfl rfl (Nat.le_of_ble_eq_true rfl) dX10_writeBytes_40 (fun H locs hP hD hS => ?_)
  have hP : va_P (dC, dI) vwCl [(x0, .inr (10, [.ref xw, .ref xl, .ref xi, .ref xt, .int 4, .ref xq, .int 0, .ref xr, .ref xh, .ref xp, .ref xs_, .ref xa, .ref xm])), (xt, .inl (kA 0, 400, .inl f16))] H := hP
  have hD : va_D A [(x0, .inr (10, [.ref xw, .ref xl, .ref xi, .ref xt, .int 4, .ref xq, .int 0, .ref xr, .ref xh, .ref xp, .ref xs_, .ref xa, .ref xm])), (xt, .inl (kA 0, 400, .inl f16))] := hD
  refine lv_iinc (v := (-8)) (lv' := [(2, .int (-8)), (0, .ref x0), (1, .int v)]) hx hb dX10_writeBytes_43 hl (k := 0) rfl (by decide) (by decide) rfl (fun ls hl => ?_)
  refine lv_goto (tgt := 3) hx hb dX10_writeBytes_46 (by decide) ?_
  refine lv_iload_n hx hb dX10_writeBytes_3 rfl (lv_at hl 0 rfl) ?_
  refine lv_if_lt (tgt := 49) hx hb dX10_writeBytes_4 (by decide) (fun _ => ?_) (fun c_17 => absurd (by decide) c_17)
  have hP9 := hP.sub (ws' := [(x0, .inr (10, [.ref xw, .ref xl, .ref xi, .ref xt, .int 4, .ref xq, .int 0, .ref xr, .ref xh, .ref xp, .ref xs_, .ref xa, .ref xm])), (xt, .inl (kA 0, 400, .inl f16))]) [0, 1] rfl
  have hD9 := hD.sub (ws' := [(x0, .inr (10, [.ref xw, .ref xl, .ref xi, .ref xt, .int 4, .ref xq, .int 0, .ref xr, .ref xh, .ref xp, .ref xs_, .ref xa, .ref xm])), (xt, .inl (kA 0, 400, .inl f16))]) [0, 1] (by decide) rfl
  refine W.widen (k := 0) (n := 0) (Nat.le_of_ble_eq_true rfl) (Nat.le_of_ble_eq_true rfl) ?_
  exact W.vret hx hb hr (fun t ht hW => ⟨⟨(f16), rfl, trivial, by rw [ht]; exact hP9, hD9⟩, hS.F ht⟩) hS.2.2 dX10_writeBytes_49
set_option maxHeartbeats 4000000 in
set_option maxRecDepth 100000 in
theorem mX10_writeBytes_4 (l : Launch) (dC : Nat → ClassId) (dI : Nat → Nat → Nat) (kA : Nat → ClassId) (sz : Nat) (x0 : Nat) (xw : Nat) (xl : Nat) (xi : Nat) (xt : Nat) (xq : Nat) (xr : Nat) (xh : Nat) (xp : Nat) (xs_ : Nat) (xa : Nat) (xm : Nat) (f : Nat → Int32) (v : Int32)  : Met l yX10_writeBytes wsX10_writeBytes ({ frames := 0, cells := 0, slots := 0, locals := 0 }) (zPc dC dI kA sz [.ref x0, .int v] [(x0, .inr (10, [.ref xw, .ref xl, .ref xi, .ref xt, .int 4, .ref xq, .int 0, .ref xr, .ref xh, .ref xp, .ref xs_, .ref xa, .ref xm])), (xt, .inl (kA 0, 400, .inl f))]) (va_Qv (fun (u : Nat → Int32) => True) (zB dC dI (va_A [(x0, .inr (10, [.ref xw, .ref xl, .ref xi, .ref xt, .int 4, .ref xq, .int 0, .ref xr, .ref xh, .ref xp, .ref xs_, .ref xa, .ref xm])), (xt, .inl (kA 0, 400, .inl f))] sz) (fun (u : Nat → Int32) => [(x0, .inr (10, [.ref xw, .ref xl, .ref xi, .ref xt, .int 8, .ref xq, .int 0, .ref xr, .ref xh, .ref xp, .ref xs_, .ref xa, .ref xm])), (xt, .inl (kA 0, 400, .inl u))])) (va_A [(x0, .inr (10, [.ref xw, .ref xl, .ref xi, .ref xt, .int 4, .ref xq, .int 0, .ref xr, .ref xh, .ref xp, .ref xs_, .ref xa, .ref xm])), (xt, .inl (kA 0, 400, .inl f))] sz)) 0 0 (va_A [(x0, .inr (10, [.ref xw, .ref xl, .ref xi, .ref xt, .int 4, .ref xq, .int 0, .ref xr, .ref xh, .ref xp, .ref xs_, .ref xa, .ref xm])), (xt, .inl (kA 0, 400, .inl f))] sz) := by
  refine Met.ofW (cc := cX10_writeBytes) (maxL := 3) (ret := none) (by decide) rfl ?_
  intro p e s m args below meth c s₁ B hml hv
  obtain ⟨rfl, hsz, hP, hK, hD0⟩ := hv
  have hx := B.exec
  have hb := B.bytes
  have hr := B.returns
  have hts := atoms_spec (ws := wsX10_writeBytes) B.pre
  have hown : s.vm.findClass RX10 = some m.cls := findClass_of_methodNamed B.named
  have hlocks := B.notSynchronized
  subst hsz
  have hD := hD0.self (sz := s.heap.size)
  generalize hAe : va_A [(x0, .inr (10, [.ref xw, .ref xl, .ref xi, .ref xt, .int 4, .ref xq, .int 0, .ref xr, .ref xh, .ref xp, .ref xs_, .ref xa, .ref xm])), (xt, .inl (kA 0, 400, .inl f))] s.heap.size = A at hD ⊢
  have hA : ∀ q : Nat, s.heap.size ≤ q → A q := fun q h => by rw [← hAe]; exact Or.inr h
  have hS : va_S A s.heap s.heap [] := va_S.rf
  have hP : va_P (dC, dI) vwCl [(x0, .inr (10, [.ref xw, .ref xl, .ref xi, .ref xt, .int 4, .ref xq, .int 0, .ref xr, .ref xh, .ref xp, .ref xs_, .ref xa, .ref xm])), (xt, .inl (kA 0, 400, .inl f))] s.heap := hP
  have hl := lv_entry ([.ref x0, .int v]) (n := 3) (Nat.le_of_ble_eq_true rfl)
  rw [lg_entry_eq]
  generalize (lg_sl ([.ref x0, .int v]) ++ List.replicate (3 - (lg_sl ([.ref x0, .int v])).length) Slot.unset).toArray = ls at hl ⊢
  have hl : lv_has ls 3 [(0, .ref x0), (1, .int v)] := hl
  refine lv_bipush (v := 24) hx hb dX10_writeBytes_0 (by decide) ?_
  refine lv_istore_n (lv' := [(2, .int 24), (0, .ref x0), (1, .int v)]) hx hb dX10_writeBytes_2 rfl hl (by decide) rfl (fun ls hl => ?_)
  refine lv_iload_n hx hb dX10_writeBytes_3 rfl (lv_at hl 0 rfl) ?_
  refine lv_if_lt (tgt := 49) hx hb dX10_writeBytes_4 (by decide) (fun c_1 => absurd c_1 (by decide)) (fun _ => ?_)
  refine lv_aload_n hx hb dX10_writeBytes_7 rfl (lv_at hl 1 rfl) ?_
  refine va_get (D := (dC, dI)) (ci := 10) (v := .int 4) (C := RX10) (T := TX10) (N := 13) hx hb hts iX10_writeBytes_X10 hown hK.1 hP 0 rfl rfl 4 (by decide) (kX10_writeBytes_1 hts) (fun _ h9 => h9) rfl dX10_writeBytes_8 ?_
  refine lv_sipush (v := 400) hx hb dX10_writeBytes_11 (by decide) ?_
  refine lv_icmp_ge (tgt := 43) hx hb dX10_writeBytes_14 (by decide) (fun c_2 => absurd c_2 (by decide)) (fun _ => ?_)
  refine lv_aload_n hx hb dX10_writeBytes_17 rfl (lv_at hl 1 rfl) ?_
  refine va_get (D := (dC, dI)) (ci := 10) (v := .ref xt) (C := RX10) (T := TX10) (N := 13) hx hb hts iX10_writeBytes_X10 hown hK.1 hP 0 rfl rfl 3 (by decide) (kX10_writeBytes_2 hts) (fun _ h9 => h9) rfl dX10_writeBytes_18 ?_
  refine lv_aload_n hx hb dX10_writeBytes_21 rfl (lv_at hl 1 rfl) ?_
  refine va_get (D := (dC, dI)) (ci := 10) (v := .int 4) (C := RX10) (T := TX10) (N := 13) hx hb hts iX10_writeBytes_X10 hown hK.1 hP 0 rfl rfl 4 (by decide) (kX10_writeBytes_1 hts) (fun _ h9 => h9) rfl dX10_writeBytes_22 ?_
  refine lv_iload_n hx hb dX10_writeBytes_25 rfl (lv_at hl 2 rfl) ?_
  refine lv_iload_n hx hb dX10_writeBytes_26 rfl (lv_at hl 0 rfl) ?_
  refine lv_iushr hx hb dX10_writeBytes_27 rfl ?_
  refine lv_topi (fun x3 ex3 => ?_)
  refine lv_sipush (v := 255) hx hb dX10_writeBytes_28 (by decide) ?_
  refine lv_iand hx hb dX10_writeBytes_31 ?_
  refine va_iast hx hb hK.1 hP hD hS 1 0 rfl rfl (vpd (by decide)) dX10_writeBytes_32 (fun H locs hP hD hS => ?_)
  have hP : va_P (dC, dI) vwCl [(x0, .inr (10, [.ref xw, .ref xl, .ref xi, .ref xt, .int 4, .ref xq, .int 0, .ref xr, .ref xh, .ref xp, .ref xs_, .ref xa, .ref xm])), (xt, .inl (kA 0, 400, .inl (upd f (4 : Int32).toNatClampNeg (x3 &&& 255))))] H := hP
  have hD : va_D A [(x0, .inr (10, [.ref xw, .ref xl, .ref xi, .ref xt, .int 4, .ref xq, .int 0, .ref xr, .ref xh, .ref xp, .ref xs_, .ref xa, .ref xm])), (xt, .inl (kA 0, 400, .inl (upd f (4 : Int32).toNatClampNeg (x3 &&& 255))))] := hD
  obtain ⟨f4, ef4⟩ : ∃ y : Nat → Int32, y = (upd f (4 : Int32).toNatClampNeg (x3 &&& 255)) := ⟨_, rfl⟩
  rw [← ef4] at hP hD
  refine lv_aload_n hx hb dX10_writeBytes_33 rfl (lv_at hl 1 rfl) ?_
  refine lv_dup hx hb dX10_writeBytes_34 rfl ?_
  refine va_get (D := (dC, dI)) (ci := 10) (v := .int 4) (C := RX10) (T := TX10) (N := 13) hx hb hts iX10_writeBytes_X10 hown hK.1 hP 0 rfl rfl 4 (by decide) (kX10_writeBytes_1 hts) (fun _ h9 => h9) rfl dX10_writeBytes_35 ?_
  refine lv_iconst (v := 1) hx hb dX10_writeBytes_38 (by decide) ?_
  refine lv_iadd hx hb dX10_writeBytes_39 ?_
  refine zi 5 (by decide) ?_
  refine va_put (D := (dC, dI)) (ci := 10) (v := .int 5) (ty := .int) (C := RX10) (T := TX10) (N := 13) hx hb hts iX10_writeBytes_X10 tyX10 tyX10_ok nmX10 hown hK.1 hP hD hS 0 rfl rfl 4 (by decide) (kX10_writeBytes_1 hts) (fun _ h9 => h9) rfl (by decide +kernel) rfl rfl (Nat.le_of_ble_eq_true rfl) dX10_writeBytes_40 (fun H locs hP hD hS => ?_)
  have hP : va_P (dC, dI) vwCl [(x0, .inr (10, [.ref xw, .ref xl, .ref xi, .ref xt, .int 5, .ref xq, .int 0, .ref xr, .ref xh, .ref xp, .ref xs_, .ref xa, .ref xm])), (xt, .inl (kA 0, 400, .inl f4))] H := hP
  have hD : va_D A [(x0, .inr (10, [.ref xw, .ref xl, .ref xi, .ref xt, .int 5, .ref xq, .int 0, .ref xr, .ref xh, .ref xp, .ref xs_, .ref xa, .ref xm])), (xt, .inl (kA 0, 400, .inl f4))] := hD
  refine lv_iinc (v := 16) (lv' := [(2, .int 16), (0, .ref x0), (1, .int v)]) hx hb dX10_writeBytes_43 hl (k := 0) rfl (by decide) (by decide) rfl (fun ls hl => ?_)
  refine lv_goto (tgt := 3) hx hb dX10_writeBytes_46 (by decide) ?_
  refine lv_iload_n hx hb dX10_writeBytes_3 rfl (lv_at hl 0 rfl) ?_
  refine lv_if_lt (tgt := 49) hx hb dX10_writeBytes_4 (by decide) (fun c_5 => absurd c_5 (by decide)) (fun _ => ?_)
  refine lv_aload_n hx hb dX10_writeBytes_7 rfl (lv_at hl 1 rfl) ?_
  refine va_get (D := (dC, dI)) (ci := 10) (v := .int 5) (C := RX10) (T := TX10) (N := 13) hx hb hts iX10_writeBytes_X10 hown hK.1 hP 0 rfl rfl 4 (by decide) (kX10_writeBytes_1 hts) (fun _ h9 => h9) rfl dX10_writeBytes_8 ?_
  refine lv_sipush (v := 400) hx hb dX10_writeBytes_11 (by decide) ?_
  refine lv_icmp_ge (tgt := 43) hx hb dX10_writeBytes_14 (by decide) (fun c_6 => absurd c_6 (by decide)) (fun _ => ?_)
  refine lv_aload_n hx hb dX10_writeBytes_17 rfl (lv_at hl 1 rfl) ?_
  refine va_get (D := (dC, dI)) (ci := 10) (v := .ref xt) (C := RX10) (T := TX10) (N := 13) hx hb hts iX10_writeBytes_X10 hown hK.1 hP 0 rfl rfl 3 (by decide) (kX10_writeBytes_2 hts) (fun _ h9 => h9) rfl dX10_writeBytes_18 ?_
  refine lv_aload_n hx hb dX10_writeBytes_21 rfl (lv_at hl 1 rfl) ?_
  refine va_get (D := (dC, dI)) (ci := 10) (v := .int 5) (C := RX10) (T := TX10) (N := 13) hx hb hts iX10_writeBytes_X10 hown hK.1 hP 0 rfl rfl 4 (by decide) (kX10_writeBytes_1 hts) (fun _ h9 => h9) rfl dX10_writeBytes_22 ?_
  refine lv_iload_n hx hb dX10_writeBytes_25 rfl (lv_at hl 2 rfl) ?_
  refine lv_iload_n hx hb dX10_writeBytes_26 rfl (lv_at hl 0 rfl) ?_
  refine lv_iushr hx hb dX10_writeBytes_27 rfl ?_
  refine lv_topi (fun x7 ex7 => ?_)
  refine lv_sipush (v := 255) hx hb dX10_writeBytes_28 (by decide) ?_
  refine lv_iand hx hb dX10_writeBytes_31 ?_
  refine va_iast hx hb hK.1 hP hD hS 1 0 rfl rfl (vpd (by decide)) dX10_writeBytes_32 (fun H locs hP hD hS => ?_)
  have hP : va_P (dC, dI) vwCl [(x0, .inr (10, [.ref xw, .ref xl, .ref xi, .ref xt, .int 5, .ref xq, .int 0, .ref xr, .ref xh, .ref xp, .ref xs_, .ref xa, .ref xm])), (xt, .inl (kA 0, 400, .inl (upd f4 (5 : Int32).toNatClampNeg (x7 &&& 255))))] H := hP
  have hD : va_D A [(x0, .inr (10, [.ref xw, .ref xl, .ref xi, .ref xt, .int 5, .ref xq, .int 0, .ref xr, .ref xh, .ref xp, .ref xs_, .ref xa, .ref xm])), (xt, .inl (kA 0, 400, .inl (upd f4 (5 : Int32).toNatClampNeg (x7 &&& 255))))] := hD
  obtain ⟨f8, ef8⟩ : ∃ y : Nat → Int32, y = (upd f4 (5 : Int32).toNatClampNeg (x7 &&& 255)) := ⟨_, rfl⟩
  rw [← ef8] at hP hD
  refine lv_aload_n hx hb dX10_writeBytes_33 rfl (lv_at hl 1 rfl) ?_
  refine lv_dup hx hb dX10_writeBytes_34 rfl ?_
  refine va_get (D := (dC, dI)) (ci := 10) (v := .int 5) (C := RX10) (T := TX10) (N := 13) hx hb hts iX10_writeBytes_X10 hown hK.1 hP 0 rfl rfl 4 (by decide) (kX10_writeBytes_1 hts) (fun _ h9 => h9) rfl dX10_writeBytes_35 ?_
  refine lv_iconst (v := 1) hx hb dX10_writeBytes_38 (by decide) ?_
  refine lv_iadd hx hb dX10_writeBytes_39 ?_
  refine zi 6 (by decide) ?_
  refine va_put (D := (dC, dI)) (ci := 10) (v := .int 6) (ty := .int) (C := RX10) (T := TX10) (N := 13) hx hb hts iX10_writeBytes_X10 tyX10 tyX10_ok nmX10 hown hK.1 hP hD hS 0 rfl rfl 4 (by decide) (kX10_writeBytes_1 hts) (fun _ h9 => h9) rfl (by decide +kernel) rfl rfl (Nat.le_of_ble_eq_true rfl) dX10_writeBytes_40 (fun H locs hP hD hS => ?_)
  have hP : va_P (dC, dI) vwCl [(x0, .inr (10, [.ref xw, .ref xl, .ref xi, .ref xt, .int 6, .ref xq, .int 0, .ref xr, .ref xh, .ref xp, .ref xs_, .ref xa, .ref xm])), (xt, .inl (kA 0, 400, .inl f8))] H := hP
  have hD : va_D A [(x0, .inr (10, [.ref xw, .ref xl, .ref xi, .ref xt, .int 6, .ref xq, .int 0, .ref xr, .ref xh, .ref xp, .ref xs_, .ref xa, .ref xm])), (xt, .inl (kA 0, 400, .inl f8))] := hD
  refine lv_iinc (v := 8) (lv' := [(2, .int 8), (0, .ref x0), (1, .int v)]) hx hb dX10_writeBytes_43 hl (k := 0) rfl (by decide) (by decide) rfl (fun ls hl => ?_)
  refine lv_goto (tgt := 3) hx hb dX10_writeBytes_46 (by decide) ?_
  refine lv_iload_n hx hb dX10_writeBytes_3 rfl (lv_at hl 0 rfl) ?_
  refine lv_if_lt (tgt := 49) hx hb dX10_writeBytes_4 (by decide) (fun c_9 => absurd c_9 (by decide)) (fun _ => ?_)
  refine lv_aload_n hx hb dX10_writeBytes_7 rfl (lv_at hl 1 rfl) ?_
  refine va_get (D := (dC, dI)) (ci := 10) (v := .int 6) (C := RX10) (T := TX10) (N := 13) hx hb hts iX10_writeBytes_X10 hown hK.1 hP 0 rfl rfl 4 (by decide) (kX10_writeBytes_1 hts) (fun _ h9 => h9) rfl dX10_writeBytes_8 ?_
  refine lv_sipush (v := 400) hx hb dX10_writeBytes_11 (by decide) ?_
  refine lv_icmp_ge (tgt := 43) hx hb dX10_writeBytes_14 (by decide) (fun c_10 => absurd c_10 (by decide)) (fun _ => ?_)
  refine lv_aload_n hx hb dX10_writeBytes_17 rfl (lv_at hl 1 rfl) ?_
  refine va_get (D := (dC, dI)) (ci := 10) (v := .ref xt) (C := RX10) (T := TX10) (N := 13) hx hb hts iX10_writeBytes_X10 hown hK.1 hP 0 rfl rfl 3 (by decide) (kX10_writeBytes_2 hts) (fun _ h9 => h9) rfl dX10_writeBytes_18 ?_
  refine lv_aload_n hx hb dX10_writeBytes_21 rfl (lv_at hl 1 rfl) ?_
  refine va_get (D := (dC, dI)) (ci := 10) (v := .int 6) (C := RX10) (T := TX10) (N := 13) hx hb hts iX10_writeBytes_X10 hown hK.1 hP 0 rfl rfl 4 (by decide) (kX10_writeBytes_1 hts) (fun _ h9 => h9) rfl dX10_writeBytes_22 ?_
  refine lv_iload_n hx hb dX10_writeBytes_25 rfl (lv_at hl 2 rfl) ?_
  refine lv_iload_n hx hb dX10_writeBytes_26 rfl (lv_at hl 0 rfl) ?_
  refine lv_iushr hx hb dX10_writeBytes_27 rfl ?_
  refine lv_topi (fun x11 ex11 => ?_)
  refine lv_sipush (v := 255) hx hb dX10_writeBytes_28 (by decide) ?_
  refine lv_iand hx hb dX10_writeBytes_31 ?_
  refine va_iast hx hb hK.1 hP hD hS 1 0 rfl rfl (vpd (by decide)) dX10_writeBytes_32 (fun H locs hP hD hS => ?_)
  have hP : va_P (dC, dI) vwCl [(x0, .inr (10, [.ref xw, .ref xl, .ref xi, .ref xt, .int 6, .ref xq, .int 0, .ref xr, .ref xh, .ref xp, .ref xs_, .ref xa, .ref xm])), (xt, .inl (kA 0, 400, .inl (upd f8 (6 : Int32).toNatClampNeg (x11 &&& 255))))] H := hP
  have hD : va_D A [(x0, .inr (10, [.ref xw, .ref xl, .ref xi, .ref xt, .int 6, .ref xq, .int 0, .ref xr, .ref xh, .ref xp, .ref xs_, .ref xa, .ref xm])), (xt, .inl (kA 0, 400, .inl (upd f8 (6 : Int32).toNatClampNeg (x11 &&& 255))))] := hD
  obtain ⟨f12, ef12⟩ : ∃ y : Nat → Int32, y = (upd f8 (6 : Int32).toNatClampNeg (x11 &&& 255)) := ⟨_, rfl⟩
  rw [← ef12] at hP hD
  refine lv_aload_n hx hb dX10_writeBytes_33 rfl (lv_at hl 1 rfl) ?_
  refine lv_dup hx hb dX10_writeBytes_34 rfl ?_
  refine va_get (D := (dC, dI)) (ci := 10) (v := .int 6) (C := RX10) (T := TX10) (N := 13) hx hb hts iX10_writeBytes_X10 hown hK.1 hP 0 rfl rfl 4 (by decide) (kX10_writeBytes_1 hts) (fun _ h9 => h9) rfl dX10_writeBytes_35 ?_
  refine lv_iconst (v := 1) hx hb dX10_writeBytes_38 (by decide) ?_
  refine lv_iadd hx hb dX10_writeBytes_39 ?_
  refine zi 7 (by decide) ?_
  refine va_put (D := (dC, dI)) (ci := 10) (v := .int 7) (ty := .int) (C := RX10) (T := TX10) (N := 13) hx hb hts iX10_writeBytes_X10 tyX10 tyX10_ok nmX10 hown hK.1 hP hD hS 0 rfl rfl 4 (by decide) (kX10_writeBytes_1 hts) (fun _ h9 => h9) rfl (by decide +kernel) rfl rfl (Nat.le_of_ble_eq_true rfl) dX10_writeBytes_40 (fun H locs hP hD hS => ?_)
  have hP : va_P (dC, dI) vwCl [(x0, .inr (10, [.ref xw, .ref xl, .ref xi, .ref xt, .int 7, .ref xq, .int 0, .ref xr, .ref xh, .ref xp, .ref xs_, .ref xa, .ref xm])), (xt, .inl (kA 0, 400, .inl f12))] H := hP
  have hD : va_D A [(x0, .inr (10, [.ref xw, .ref xl, .ref xi, .ref xt, .int 7, .ref xq, .int 0, .ref xr, .ref xh, .ref xp, .ref xs_, .ref xa, .ref xm])), (xt, .inl (kA 0, 400, .inl f12))] := hD
  refine lv_iinc (v := 0) (lv' := [(2, .int 0), (0, .ref x0), (1, .int v)]) hx hb dX10_writeBytes_43 hl (k := 0) rfl (by decide) (by decide) rfl (fun ls hl => ?_)
  refine lv_goto (tgt := 3) hx hb dX10_writeBytes_46 (by decide) ?_
  refine lv_iload_n hx hb dX10_writeBytes_3 rfl (lv_at hl 0 rfl) ?_
  refine lv_if_lt (tgt := 49) hx hb dX10_writeBytes_4 (by decide) (fun c_13 => absurd c_13 (by decide)) (fun _ => ?_)
  refine lv_aload_n hx hb dX10_writeBytes_7 rfl (lv_at hl 1 rfl) ?_
  refine va_get (D := (dC, dI)) (ci := 10) (v := .int 7) (C := RX10) (T := TX10) (N := 13) hx hb hts iX10_writeBytes_X10 hown hK.1 hP 0 rfl rfl 4 (by decide) (kX10_writeBytes_1 hts) (fun _ h9 => h9) rfl dX10_writeBytes_8 ?_
  refine lv_sipush (v := 400) hx hb dX10_writeBytes_11 (by decide) ?_
  refine lv_icmp_ge (tgt := 43) hx hb dX10_writeBytes_14 (by decide) (fun c_14 => absurd c_14 (by decide)) (fun _ => ?_)
  refine lv_aload_n hx hb dX10_writeBytes_17 rfl (lv_at hl 1 rfl) ?_
  refine va_get (D := (dC, dI)) (ci := 10) (v := .ref xt) (C := RX10) (T := TX10) (N := 13) hx hb hts iX10_writeBytes_X10 hown hK.1 hP 0 rfl rfl 3 (by decide) (kX10_writeBytes_2 hts) (fun _ h9 => h9) rfl dX10_writeBytes_18 ?_
  refine lv_aload_n hx hb dX10_writeBytes_21 rfl (lv_at hl 1 rfl) ?_
  refine va_get (D := (dC, dI)) (ci := 10) (v := .int 7) (C := RX10) (T := TX10) (N := 13) hx hb hts iX10_writeBytes_X10 hown hK.1 hP 0 rfl rfl 4 (by decide) (kX10_writeBytes_1 hts) (fun _ h9 => h9) rfl dX10_writeBytes_22 ?_
  refine lv_iload_n hx hb dX10_writeBytes_25 rfl (lv_at hl 2 rfl) ?_
  refine lv_iload_n hx hb dX10_writeBytes_26 rfl (lv_at hl 0 rfl) ?_
  refine lv_iushr hx hb dX10_writeBytes_27 rfl ?_
  refine lv_topi (fun x15 ex15 => ?_)
  refine lv_sipush (v := 255) hx hb dX10_writeBytes_28 (by decide) ?_
  refine lv_iand hx hb dX10_writeBytes_31 ?_
  refine va_iast hx hb hK.1 hP hD hS 1 0 rfl rfl (vpd (by decide)) dX10_writeBytes_32 (fun H locs hP hD hS => ?_)
  have hP : va_P (dC, dI) vwCl [(x0, .inr (10, [.ref xw, .ref xl, .ref xi, .ref xt, .int 7, .ref xq, .int 0, .ref xr, .ref xh, .ref xp, .ref xs_, .ref xa, .ref xm])), (xt, .inl (kA 0, 400, .inl (upd f12 (7 : Int32).toNatClampNeg (x15 &&& 255))))] H := hP
  have hD : va_D A [(x0, .inr (10, [.ref xw, .ref xl, .ref xi, .ref xt, .int 7, .ref xq, .int 0, .ref xr, .ref xh, .ref xp, .ref xs_, .ref xa, .ref xm])), (xt, .inl (kA 0, 400, .inl (upd f12 (7 : Int32).toNatClampNeg (x15 &&& 255))))] := hD
  obtain ⟨f16, ef16⟩ : ∃ y : Nat → Int32, y = (upd f12 (7 : Int32).toNatClampNeg (x15 &&& 255)) := ⟨_, rfl⟩
  rw [← ef16] at hP hD
  refine lv_aload_n hx hb dX10_writeBytes_33 rfl (lv_at hl 1 rfl) ?_
  refine lv_dup hx hb dX10_writeBytes_34 rfl ?_
  refine va_get (D := (dC, dI)) (ci := 10) (v := .int 7) (C := RX10) (T := TX10) (N := 13) hx hb hts iX10_writeBytes_X10 hown hK.1 hP 0 rfl rfl 4 (by decide) (kX10_writeBytes_1 hts) (fun _ h9 => h9) rfl dX10_writeBytes_35 ?_
  refine lv_iconst (v := 1) hx hb dX10_writeBytes_38 (by decide) ?_
  refine lv_iadd hx hb dX10_writeBytes_39 ?_
  refine zi 8 (by decide) ?_
  refine va_put (D := (dC, dI)) (ci := 10) (v := .int 8) (ty := .int) (C := RX10) (T := TX10) (N := 13) hx hb hts iX10_writeBytes_X10 tyX10 tyX10_ok nmX10 hown hK.1 hP hD hS 0 rfl rfl 4 (by decide) (kX10_writeBytes_1 hts) (fun _ h9 => h9) rfl (by decide +kernel) rfl rfl (Nat.le_of_ble_eq_true rfl) dX10_writeBytes_40 (fun H locs hP hD hS => ?_)
  have hP : va_P (dC, dI) vwCl [(x0, .inr (10, [.ref xw, .ref xl, .ref xi, .ref xt, .int 8, .ref xq, .int 0, .ref xr, .ref xh, .ref xp, .ref xs_, .ref xa, .ref xm])), (xt, .inl (kA 0, 400, .inl f16))] H := hP
  have hD : va_D A [(x0, .inr (10, [.ref xw, .ref xl, .ref xi, .ref xt, .int 8, .ref xq, .int 0, .ref xr, .ref xh, .ref xp, .ref xs_, .ref xa, .ref xm])), (xt, .inl (kA 0, 400, .inl f16))] := hD
  refine lv_iinc (v := (-8)) (lv' := [(2, .int (-8)), (0, .ref x0), (1, .int v)]) hx hb dX10_writeBytes_43 hl (k := 0) rfl (by decide) (by decide) rfl (fun ls hl => ?_)
  refine lv_goto (tgt := 3) hx hb dX10_writeBytes_46 (by decide) ?_
  refine lv_iload_n hx hb dX10_writeBytes_3 rfl (lv_at hl 0 rfl) ?_
  refine lv_if_lt (tgt := 49) hx hb dX10_writeBytes_4 (by decide) (fun _ => ?_) (fun c_17 => absurd (by decide) c_17)
  have hP9 := hP.sub (ws' := [(x0, .inr (10, [.ref xw, .ref xl, .ref xi, .ref xt, .int 8, .ref xq, .int 0, .ref xr, .ref xh, .ref xp, .ref xs_, .ref xa, .ref xm])), (xt, .inl (kA 0, 400, .inl f16))]) [0, 1] rfl
  have hD9 := hD.sub (ws' := [(x0, .inr (10, [.ref xw, .ref xl, .ref xi, .ref xt, .int 8, .ref xq, .int 0, .ref xr, .ref xh, .ref xp, .ref xs_, .ref xa, .ref xm])), (xt, .inl (kA 0, 400, .inl f16))]) [0, 1] (by decide) rfl
  refine W.widen (k := 0) (n := 0) (Nat.le_of_ble_eq_true rfl) (Nat.le_of_ble_eq_true rfl) ?_
  exact W.vret hx hb hr (fun t ht hW => ⟨⟨(f16), rfl, trivial, by rw [ht]; exact hP9, hD9⟩, hS.F ht⟩) hS.2.2 dX10_writeBytes_49
set_option maxHeartbeats 4000000 in
set_option maxRecDepth 100000 in
theorem mX10_writeBytes_8 (l : Launch) (dC : Nat → ClassId) (dI : Nat → Nat → Nat) (kA : Nat → ClassId) (sz : Nat) (x0 : Nat) (xw : Nat) (xl : Nat) (xi : Nat) (xt : Nat) (xq : Nat) (xr : Nat) (xh : Nat) (xp : Nat) (xs_ : Nat) (xa : Nat) (xm : Nat) (f : Nat → Int32) (v : Int32)  : Met l yX10_writeBytes wsX10_writeBytes ({ frames := 0, cells := 0, slots := 0, locals := 0 }) (zPc dC dI kA sz [.ref x0, .int v] [(x0, .inr (10, [.ref xw, .ref xl, .ref xi, .ref xt, .int 8, .ref xq, .int 0, .ref xr, .ref xh, .ref xp, .ref xs_, .ref xa, .ref xm])), (xt, .inl (kA 0, 400, .inl f))]) (va_Qv (fun (u : Nat → Int32) => True) (zB dC dI (va_A [(x0, .inr (10, [.ref xw, .ref xl, .ref xi, .ref xt, .int 8, .ref xq, .int 0, .ref xr, .ref xh, .ref xp, .ref xs_, .ref xa, .ref xm])), (xt, .inl (kA 0, 400, .inl f))] sz) (fun (u : Nat → Int32) => [(x0, .inr (10, [.ref xw, .ref xl, .ref xi, .ref xt, .int 12, .ref xq, .int 0, .ref xr, .ref xh, .ref xp, .ref xs_, .ref xa, .ref xm])), (xt, .inl (kA 0, 400, .inl u))])) (va_A [(x0, .inr (10, [.ref xw, .ref xl, .ref xi, .ref xt, .int 8, .ref xq, .int 0, .ref xr, .ref xh, .ref xp, .ref xs_, .ref xa, .ref xm])), (xt, .inl (kA 0, 400, .inl f))] sz)) 0 0 (va_A [(x0, .inr (10, [.ref xw, .ref xl, .ref xi, .ref xt, .int 8, .ref xq, .int 0, .ref xr, .ref xh, .ref xp, .ref xs_, .ref xa, .ref xm])), (xt, .inl (kA 0, 400, .inl f))] sz) := by
  refine Met.ofW (cc := cX10_writeBytes) (maxL := 3) (ret := none) (by decide) rfl ?_
  intro p e s m args below meth c s₁ B hml hv
  obtain ⟨rfl, hsz, hP, hK, hD0⟩ := hv
  have hx := B.exec
  have hb := B.bytes
  have hr := B.returns
  have hts := atoms_spec (ws := wsX10_writeBytes) B.pre
  have hown : s.vm.findClass RX10 = some m.cls := findClass_of_methodNamed B.named
  have hlocks := B.notSynchronized
  subst hsz
  have hD := hD0.self (sz := s.heap.size)
  generalize hAe : va_A [(x0, .inr (10, [.ref xw, .ref xl, .ref xi, .ref xt, .int 8, .ref xq, .int 0, .ref xr, .ref xh, .ref xp, .ref xs_, .ref xa, .ref xm])), (xt, .inl (kA 0, 400, .inl f))] s.heap.size = A at hD ⊢
  have hA : ∀ q : Nat, s.heap.size ≤ q → A q := fun q h => by rw [← hAe]; exact Or.inr h
  have hS : va_S A s.heap s.heap [] := va_S.rf
  have hP : va_P (dC, dI) vwCl [(x0, .inr (10, [.ref xw, .ref xl, .ref xi, .ref xt, .int 8, .ref xq, .int 0, .ref xr, .ref xh, .ref xp, .ref xs_, .ref xa, .ref xm])), (xt, .inl (kA 0, 400, .inl f))] s.heap := hP
  have hl := lv_entry ([.ref x0, .int v]) (n := 3) (Nat.le_of_ble_eq_true rfl)
  rw [lg_entry_eq]
  generalize (lg_sl ([.ref x0, .int v]) ++ List.replicate (3 - (lg_sl ([.ref x0, .int v])).length) Slot.unset).toArray = ls at hl ⊢
  have hl : lv_has ls 3 [(0, .ref x0), (1, .int v)] := hl
  refine lv_bipush (v := 24) hx hb dX10_writeBytes_0 (by decide) ?_
  refine lv_istore_n (lv' := [(2, .int 24), (0, .ref x0), (1, .int v)]) hx hb dX10_writeBytes_2 rfl hl (by decide) rfl (fun ls hl => ?_)
  refine lv_iload_n hx hb dX10_writeBytes_3 rfl (lv_at hl 0 rfl) ?_
  refine lv_if_lt (tgt := 49) hx hb dX10_writeBytes_4 (by decide) (fun c_1 => absurd c_1 (by decide)) (fun _ => ?_)
  refine lv_aload_n hx hb dX10_writeBytes_7 rfl (lv_at hl 1 rfl) ?_
  refine va_get (D := (dC, dI)) (ci := 10) (v := .int 8) (C := RX10) (T := TX10) (N := 13) hx hb hts iX10_writeBytes_X10 hown hK.1 hP 0 rfl rfl 4 (by decide) (kX10_writeBytes_1 hts) (fun _ h9 => h9) rfl dX10_writeBytes_8 ?_
  refine lv_sipush (v := 400) hx hb dX10_writeBytes_11 (by decide) ?_
  refine lv_icmp_ge (tgt := 43) hx hb dX10_writeBytes_14 (by decide) (fun c_2 => absurd c_2 (by decide)) (fun _ => ?_)
  refine lv_aload_n hx hb dX10_writeBytes_17 rfl (lv_at hl 1 rfl) ?_
  refine va_get (D := (dC, dI)) (ci := 10) (v := .ref xt) (C := RX10) (T := TX10) (N := 13) hx hb hts iX10_writeBytes_X10 hown hK.1 hP 0 rfl rfl 3 (by decide) (kX10_writeBytes_2 hts) (fun _ h9 => h9) rfl dX10_writeBytes_18 ?_
  refine lv_aload_n hx hb dX10_writeBytes_21 rfl (lv_at hl 1 rfl) ?_
  refine va_get (D := (dC, dI)) (ci := 10) (v := .int 8) (C := RX10) (T := TX10) (N := 13) hx hb hts iX10_writeBytes_X10 hown hK.1 hP 0 rfl rfl 4 (by decide) (kX10_writeBytes_1 hts) (fun _ h9 => h9) rfl dX10_writeBytes_22 ?_
  refine lv_iload_n hx hb dX10_writeBytes_25 rfl (lv_at hl 2 rfl) ?_
  refine lv_iload_n hx hb dX10_writeBytes_26 rfl (lv_at hl 0 rfl) ?_
  refine lv_iushr hx hb dX10_writeBytes_27 rfl ?_
  refine lv_topi (fun x3 ex3 => ?_)
  refine lv_sipush (v := 255) hx hb dX10_writeBytes_28 (by decide) ?_
  refine lv_iand hx hb dX10_writeBytes_31 ?_
  refine va_iast hx hb hK.1 hP hD hS 1 0 rfl rfl (vpd (by decide)) dX10_writeBytes_32 (fun H locs hP hD hS => ?_)
  have hP : va_P (dC, dI) vwCl [(x0, .inr (10, [.ref xw, .ref xl, .ref xi, .ref xt, .int 8, .ref xq, .int 0, .ref xr, .ref xh, .ref xp, .ref xs_, .ref xa, .ref xm])), (xt, .inl (kA 0, 400, .inl (upd f (8 : Int32).toNatClampNeg (x3 &&& 255))))] H := hP
  have hD : va_D A [(x0, .inr (10, [.ref xw, .ref xl, .ref xi, .ref xt, .int 8, .ref xq, .int 0, .ref xr, .ref xh, .ref xp, .ref xs_, .ref xa, .ref xm])), (xt, .inl (kA 0, 400, .inl (upd f (8 : Int32).toNatClampNeg (x3 &&& 255))))] := hD
  obtain ⟨f4, ef4⟩ : ∃ y : Nat → Int32, y = (upd f (8 : Int32).toNatClampNeg (x3 &&& 255)) := ⟨_, rfl⟩
  rw [← ef4] at hP hD
  refine lv_aload_n hx hb dX10_writeBytes_33 rfl (lv_at hl 1 rfl) ?_
  refine lv_dup hx hb dX10_writeBytes_34 rfl ?_
  refine va_get (D := (dC, dI)) (ci := 10) (v := .int 8) (C := RX10) (T := TX10) (N := 13) hx hb hts iX10_writeBytes_X10 hown hK.1 hP 0 rfl rfl 4 (by decide) (kX10_writeBytes_1 hts) (fun _ h9 => h9) rfl dX10_writeBytes_35 ?_
  refine lv_iconst (v := 1) hx hb dX10_writeBytes_38 (by decide) ?_
  refine lv_iadd hx hb dX10_writeBytes_39 ?_
  refine zi 9 (by decide) ?_
  refine va_put (D := (dC, dI)) (ci := 10) (v := .int 9) (ty := .int) (C := RX10) (T := TX10) (N := 13) hx hb hts iX10_writeBytes_X10 tyX10 tyX10_ok nmX10 hown hK.1 hP hD hS 0 rfl rfl 4 (by decide) (kX10_writeBytes_1 hts) (fun _ h9 => h9) rfl (by decide +kernel) rfl rfl (Nat.le_of_ble_eq_true rfl) dX10_writeBytes_40 (fun H locs hP hD hS => ?_)
  have hP : va_P (dC, dI) vwCl [(x0, .inr (10, [.ref xw, .ref xl, .ref xi, .ref xt, .int 9, .ref xq, .int 0, .ref xr, .ref xh, .ref xp, .ref xs_, .ref xa, .ref xm])), (xt, .inl (kA 0, 400, .inl f4))] H := hP
  have hD : va_D A [(x0, .inr (10, [.ref xw, .ref xl, .ref xi, .ref xt, .int 9, .ref xq, .int 0, .ref xr, .ref xh, .ref xp, .ref xs_, .ref xa, .ref xm])), (xt, .inl (kA 0, 400, .inl f4))] := hD
  refine lv_iinc (v := 16) (lv' := [(2, .int 16), (0, .ref x0), (1, .int v)]) hx hb dX10_writeBytes_43 hl (k := 0) rfl (by decide) (by decide) rfl (fun ls hl => ?_)
  refine lv_goto (tgt := 3) hx hb dX10_writeBytes_46 (by decide) ?_
  refine lv_iload_n hx hb dX10_writeBytes_3 rfl (lv_at hl 0 rfl) ?_
  refine lv_if_lt (tgt := 49) hx hb dX10_writeBytes_4 (by decide) (fun c_5 => absurd c_5 (by decide)) (fun _ => ?_)
  refine lv_aload_n hx hb dX10_writeBytes_7 rfl (lv_at hl 1 rfl) ?_
  refine va_get (D := (dC, dI)) (ci := 10) (v := .int 9) (C := RX10) (T := TX10) (N := 13) hx hb hts iX10_writeBytes_X10 hown hK.1 hP 0 rfl rfl 4 (by decide) (kX10_writeBytes_1 hts) (fun _ h9 => h9) rfl dX10_writeBytes_8 ?_
  refine lv_sipush (v := 400) hx hb dX10_writeBytes_11 (by decide) ?_
  refine lv_icmp_ge (tgt := 43) hx hb dX10_writeBytes_14 (by decide) (fun c_6 => absurd c_6 (by decide)) (fun _ => ?_)
  refine lv_aload_n hx hb dX10_writeBytes_17 rfl (lv_at hl 1 rfl) ?_
  refine va_get (D := (dC, dI)) (ci := 10) (v := .ref xt) (C := RX10) (T := TX10) (N := 13) hx hb hts iX10_writeBytes_X10 hown hK.1 hP 0 rfl rfl 3 (by decide) (kX10_writeBytes_2 hts) (fun _ h9 => h9) rfl dX10_writeBytes_18 ?_
  refine lv_aload_n hx hb dX10_writeBytes_21 rfl (lv_at hl 1 rfl) ?_
  refine va_get (D := (dC, dI)) (ci := 10) (v := .int 9) (C := RX10) (T := TX10) (N := 13) hx hb hts iX10_writeBytes_X10 hown hK.1 hP 0 rfl rfl 4 (by decide) (kX10_writeBytes_1 hts) (fun _ h9 => h9) rfl dX10_writeBytes_22 ?_
  refine lv_iload_n hx hb dX10_writeBytes_25 rfl (lv_at hl 2 rfl) ?_
  refine lv_iload_n hx hb dX10_writeBytes_26 rfl (lv_at hl 0 rfl) ?_
  refine lv_iushr hx hb dX10_writeBytes_27 rfl ?_
  refine lv_topi (fun x7 ex7 => ?_)
  refine lv_sipush (v := 255) hx hb dX10_writeBytes_28 (by decide) ?_
  refine lv_iand hx hb dX10_writeBytes_31 ?_
  refine va_iast hx hb hK.1 hP hD hS 1 0 rfl rfl (vpd (by decide)) dX10_writeBytes_32 (fun H locs hP hD hS => ?_)
  have hP : va_P (dC, dI) vwCl [(x0, .inr (10, [.ref xw, .ref xl, .ref xi, .ref xt, .int 9, .ref xq, .int 0, .ref xr, .ref xh, .ref xp, .ref xs_, .ref xa, .ref xm])), (xt, .inl (kA 0, 400, .inl (upd f4 (9 : Int32).toNatClampNeg (x7 &&& 255))))] H := hP
  have hD : va_D A [(x0, .inr (10, [.ref xw, .ref xl, .ref xi, .ref xt, .int 9, .ref xq, .int 0, .ref xr, .ref xh, .ref xp, .ref xs_, .ref xa, .ref xm])), (xt, .inl (kA 0, 400, .inl (upd f4 (9 : Int32).toNatClampNeg (x7 &&& 255))))] := hD
  obtain ⟨f8, ef8⟩ : ∃ y : Nat → Int32, y = (upd f4 (9 : Int32).toNatClampNeg (x7 &&& 255)) := ⟨_, rfl⟩
  rw [← ef8] at hP hD
  refine lv_aload_n hx hb dX10_writeBytes_33 rfl (lv_at hl 1 rfl) ?_
  refine lv_dup hx hb dX10_writeBytes_34 rfl ?_
  refine va_get (D := (dC, dI)) (ci := 10) (v := .int 9) (C := RX10) (T := TX10) (N := 13) hx hb hts iX10_writeBytes_X10 hown hK.1 hP 0 rfl rfl 4 (by decide) (kX10_writeBytes_1 hts) (fun _ h9 => h9) rfl dX10_writeBytes_35 ?_
  refine lv_iconst (v := 1) hx hb dX10_writeBytes_38 (by decide) ?_
  refine lv_iadd hx hb dX10_writeBytes_39 ?_
  refine zi 10 (by decide) ?_
  refine va_put (D := (dC, dI)) (ci := 10) (v := .int 10) (ty := .int) (C := RX10) (T := TX10) (N := 13) hx hb hts iX10_writeBytes_X10 tyX10 tyX10_ok nmX10 hown hK.1 hP hD hS 0 rfl rfl 4 (by decide) (kX10_writeBytes_1 hts) (fun _ h9 => h9) rfl (by decide +kernel) rfl rfl (Nat.le_of_ble_eq_true rfl) dX10_writeBytes_40 (fun H locs hP hD hS => ?_)
  have hP : va_P (dC, dI) vwCl [(x0, .inr (10, [.ref xw, .ref xl, .ref xi, .ref xt, .int 10, .ref xq, .int 0, .ref xr, .ref xh, .ref xp, .ref xs_, .ref xa, .ref xm])), (xt, .inl (kA 0, 400, .inl f8))] H := hP
  have hD : va_D A [(x0, .inr (10, [.ref xw, .ref xl, .ref xi, .ref xt, .int 10, .ref xq, .int 0, .ref xr, .ref xh, .ref xp, .ref xs_, .ref xa, .ref xm])), (xt, .inl (kA 0, 400, .inl f8))] := hD
  refine lv_iinc (v := 8) (lv' := [(2, .int 8), (0, .ref x0), (1, .int v)]) hx hb dX10_writeBytes_43 hl (k := 0) rfl (by decide) (by decide) rfl (fun ls hl => ?_)
  refine lv_goto (tgt := 3) hx hb dX10_writeBytes_46 (by decide) ?_
  refine lv_iload_n hx hb dX10_writeBytes_3 rfl (lv_at hl 0 rfl) ?_
  refine lv_if_lt (tgt := 49) hx hb dX10_writeBytes_4 (by decide) (fun c_9 => absurd c_9 (by decide)) (fun _ => ?_)
  refine lv_aload_n hx hb dX10_writeBytes_7 rfl (lv_at hl 1 rfl) ?_
  refine va_get (D := (dC, dI)) (ci := 10) (v := .int 10) (C := RX10) (T := TX10) (N := 13) hx hb hts iX10_writeBytes_X10 hown hK.1 hP 0 rfl rfl 4 (by decide) (kX10_writeBytes_1 hts) (fun _ h9 => h9) rfl dX10_writeBytes_8 ?_
  refine lv_sipush (v := 400) hx hb dX10_writeBytes_11 (by decide) ?_
  refine lv_icmp_ge (tgt := 43) hx hb dX10_writeBytes_14 (by decide) (fun c_10 => absurd c_10 (by decide)) (fun _ => ?_)
  refine lv_aload_n hx hb dX10_writeBytes_17 rfl (lv_at hl 1 rfl) ?_
  refine va_get (D := (dC, dI)) (ci := 10) (v := .ref xt) (C := RX10) (T := TX10) (N := 13) hx hb hts iX10_writeBytes_X10 hown hK.1 hP 0 rfl rfl 3 (by decide) (kX10_writeBytes_2 hts) (fun _ h9 => h9) rfl dX10_writeBytes_18 ?_
  refine lv_aload_n hx hb dX10_writeBytes_21 rfl (lv_at hl 1 rfl) ?_
  refine va_get (D := (dC, dI)) (ci := 10) (v := .int 10) (C := RX10) (T := TX10) (N := 13) hx hb hts iX10_writeBytes_X10 hown hK.1 hP 0 rfl rfl 4 (by decide) (kX10_writeBytes_1 hts) (fun _ h9 => h9) rfl dX10_writeBytes_22 ?_
  refine lv_iload_n hx hb dX10_writeBytes_25 rfl (lv_at hl 2 rfl) ?_
  refine lv_iload_n hx hb dX10_writeBytes_26 rfl (lv_at hl 0 rfl) ?_
  refine lv_iushr hx hb dX10_writeBytes_27 rfl ?_
  refine lv_topi (fun x11 ex11 => ?_)
  refine lv_sipush (v := 255) hx hb dX10_writeBytes_28 (by decide) ?_
  refine lv_iand hx hb dX10_writeBytes_31 ?_
  refine va_iast hx hb hK.1 hP hD hS 1 0 rfl rfl (vpd (by decide)) dX10_writeBytes_32 (fun H locs hP hD hS => ?_)
  have hP : va_P (dC, dI) vwCl [(x0, .inr (10, [.ref xw, .ref xl, .ref xi, .ref xt, .int 10, .ref xq, .int 0, .ref xr, .ref xh, .ref xp, .ref xs_, .ref xa, .ref xm])), (xt, .inl (kA 0, 400, .inl (upd f8 (10 : Int32).toNatClampNeg (x11 &&& 255))))] H := hP
  have hD : va_D A [(x0, .inr (10, [.ref xw, .ref xl, .ref xi, .ref xt, .int 10, .ref xq, .int 0, .ref xr, .ref xh, .ref xp, .ref xs_, .ref xa, .ref xm])), (xt, .inl (kA 0, 400, .inl (upd f8 (10 : Int32).toNatClampNeg (x11 &&& 255))))] := hD
  obtain ⟨f12, ef12⟩ : ∃ y : Nat → Int32, y = (upd f8 (10 : Int32).toNatClampNeg (x11 &&& 255)) := ⟨_, rfl⟩
  rw [← ef12] at hP hD
  refine lv_aload_n hx hb dX10_writeBytes_33 rfl (lv_at hl 1 rfl) ?_
  refine lv_dup hx hb dX10_writeBytes_34 rfl ?_
  refine va_get (D := (dC, dI)) (ci := 10) (v := .int 10) (C := RX10) (T := TX10) (N := 13) hx hb hts iX10_writeBytes_X10 hown hK.1 hP 0 rfl rfl 4 (by decide) (kX10_writeBytes_1 hts) (fun _ h9 => h9) rfl dX10_writeBytes_35 ?_
  refine lv_iconst (v := 1) hx hb dX10_writeBytes_38 (by decide) ?_
  refine lv_iadd hx hb dX10_writeBytes_39 ?_
  refine zi 11 (by decide) ?_
  refine va_put (D := (dC, dI)) (ci := 10) (v := .int 11) (ty := .int) (C := RX10) (T := TX10) (N := 13) hx hb hts iX10_writeBytes_X10 tyX10 tyX10_ok nmX10 hown hK.1 hP hD hS 0 rfl rfl 4 (by decide) (kX10_writeBytes_1 hts) (fun _ h9 => h9) rfl (by decide +kernel) rfl rfl (Nat.le_of_ble_eq_true rfl) dX10_writeBytes_40 (fun H locs hP hD hS => ?_)
  have hP : va_P (dC, dI) vwCl [(x0, .inr (10, [.ref xw, .ref xl, .ref xi, .ref xt, .int 11, .ref xq, .int 0, .ref xr, .ref xh, .ref xp, .ref xs_, .ref xa, .ref xm])), (xt, .inl (kA 0, 400, .inl f12))] H := hP
  have hD : va_D A [(x0, .inr (10, [.ref xw, .ref xl, .ref xi, .ref xt, .int 11, .ref xq, .int 0, .ref xr, .ref xh, .ref xp, .ref xs_, .ref xa, .ref xm])), (xt, .inl (kA 0, 400, .inl f12))] := hD
  refine lv_iinc (v := 0) (lv' := [(2, .int 0), (0, .ref x0), (1, .int v)]) hx hb dX10_writeBytes_43 hl (k := 0) rfl (by decide) (by decide) rfl (fun ls hl => ?_)
  refine lv_goto (tgt := 3) hx hb dX10_writeBytes_46 (by decide) ?_
  refine lv_iload_n hx hb dX10_writeBytes_3 rfl (lv_at hl 0 rfl) ?_
  refine lv_if_lt (tgt := 49) hx hb dX10_writeBytes_4 (by decide) (fun c_13 => absurd c_13 (by decide)) (fun _ => ?_)
  refine lv_aload_n hx hb dX10_writeBytes_7 rfl (lv_at hl 1 rfl) ?_
  refine va_get (D := (dC, dI)) (ci := 10) (v := .int 11) (C := RX10) (T := TX10) (N := 13) hx hb hts iX10_writeBytes_X10 hown hK.1 hP 0 rfl rfl 4 (by decide) (kX10_writeBytes_1 hts) (fun _ h9 => h9) rfl dX10_writeBytes_8 ?_
  refine lv_sipush (v := 400) hx hb dX10_writeBytes_11 (by decide) ?_
  refine lv_icmp_ge (tgt := 43) hx hb dX10_writeBytes_14 (by decide) (fun c_14 => absurd c_14 (by decide)) (fun _ => ?_)
  refine lv_aload_n hx hb dX10_writeBytes_17 rfl (lv_at hl 1 rfl) ?_
  refine va_get (D := (dC, dI)) (ci := 10) (v := .ref xt) (C := RX10) (T := TX10) (N := 13) hx hb hts iX10_writeBytes_X10 hown hK.1 hP 0 rfl rfl 3 (by decide) (kX10_writeBytes_2 hts) (fun _ h9 => h9) rfl dX10_writeBytes_18 ?_
  refine lv_aload_n hx hb dX10_writeBytes_21 rfl (lv_at hl 1 rfl) ?_
  refine va_get (D := (dC, dI)) (ci := 10) (v := .int 11) (C := RX10) (T := TX10) (N := 13) hx hb hts iX10_writeBytes_X10 hown hK.1 hP 0 rfl rfl 4 (by decide) (kX10_writeBytes_1 hts) (fun _ h9 => h9) rfl dX10_writeBytes_22 ?_
  refine lv_iload_n hx hb dX10_writeBytes_25 rfl (lv_at hl 2 rfl) ?_
  refine lv_iload_n hx hb dX10_writeBytes_26 rfl (lv_at hl 0 rfl) ?_
  refine lv_iushr hx hb dX10_writeBytes_27 rfl ?_
  refine lv_topi (fun x15 ex15 => ?_)
  refine lv_sipush (v := 255) hx hb dX10_writeBytes_28 (by decide) ?_
  refine lv_iand hx hb dX10_writeBytes_31 ?_
  refine va_iast hx hb hK.1 hP hD hS 1 0 rfl rfl (vpd (by decide)) dX10_writeBytes_32 (fun H locs hP hD hS => ?_)
  have hP : va_P (dC, dI) vwCl [(x0, .inr (10, [.ref xw, .ref xl, .ref xi, .ref xt, .int 11, .ref xq, .int 0, .ref xr, .ref xh, .ref xp, .ref xs_, .ref xa, .ref xm])), (xt, .inl (kA 0, 400, .inl (upd f12 (11 : Int32).toNatClampNeg (x15 &&& 255))))] H := hP
  have hD : va_D A [(x0, .inr (10, [.ref xw, .ref xl, .ref xi, .ref xt, .int 11, .ref xq, .int 0, .ref xr, .ref xh, .ref xp, .ref xs_, .ref xa, .ref xm])), (xt, .inl (kA 0, 400, .inl (upd f12 (11 : Int32).toNatClampNeg (x15 &&& 255))))] := hD
  obtain ⟨f16, ef16⟩ : ∃ y : Nat → Int32, y = (upd f12 (11 : Int32).toNatClampNeg (x15 &&& 255)) := ⟨_, rfl⟩
  rw [← ef16] at hP hD
  refine lv_aload_n hx hb dX10_writeBytes_33 rfl (lv_at hl 1 rfl) ?_
  refine lv_dup hx hb dX10_writeBytes_34 rfl ?_
  refine va_get (D := (dC, dI)) (ci := 10) (v := .int 11) (C := RX10) (T := TX10) (N := 13) hx hb hts iX10_writeBytes_X10 hown hK.1 hP 0 rfl rfl 4 (by decide) (kX10_writeBytes_1 hts) (fun _ h9 => h9) rfl dX10_writeBytes_35 ?_
  refine lv_iconst (v := 1) hx hb dX10_writeBytes_38 (by decide) ?_
  refine lv_iadd hx hb dX10_writeBytes_39 ?_
  refine zi 12 (by decide) ?_
  refine va_put (D := (dC, dI)) (ci := 10) (v := .int 12) (ty := .int) (C := RX10) (T := TX10) (N := 13) hx hb hts iX10_writeBytes_X10 tyX10 tyX10_ok nmX10 hown hK.1 hP hD hS 0 rfl rfl 4 (by decide) (kX10_writeBytes_1 hts) (fun _ h9 => h9) rfl (by decide +kernel) rfl rfl (Nat.le_of_ble_eq_true rfl) dX10_writeBytes_40 (fun H locs hP hD hS => ?_)
  have hP : va_P (dC, dI) vwCl [(x0, .inr (10, [.ref xw, .ref xl, .ref xi, .ref xt, .int 12, .ref xq, .int 0, .ref xr, .ref xh, .ref xp, .ref xs_, .ref xa, .ref xm])), (xt, .inl (kA 0, 400, .inl f16))] H := hP
  have hD : va_D A [(x0, .inr (10, [.ref xw, .ref xl, .ref xi, .ref xt, .int 12, .ref xq, .int 0, .ref xr, .ref xh, .ref xp, .ref xs_, .ref xa, .ref xm])), (xt, .inl (kA 0, 400, .inl f16))] := hD
  refine lv_iinc (v := (-8)) (lv' := [(2, .int (-8)), (0, .ref x0), (1, .int v)]) hx hb dX10_writeBytes_43 hl (k := 0) rfl (by decide) (by decide) rfl (fun ls hl => ?_)
  refine lv_goto (tgt := 3) hx hb dX10_writeBytes_46 (by decide) ?_
  refine lv_iload_n hx hb dX10_writeBytes_3 rfl (lv_at hl 0 rfl) ?_
  refine lv_if_lt (tgt := 49) hx hb dX10_writeBytes_4 (by decide) (fun _ => ?_) (fun c_17 => absurd (by decide) c_17)
  have hP9 := hP.sub (ws' := [(x0, .inr (10, [.ref xw, .ref xl, .ref xi, .ref xt, .int 12, .ref xq, .int 0, .ref xr, .ref xh, .ref xp, .ref xs_, .ref xa, .ref xm])), (xt, .inl (kA 0, 400, .inl f16))]) [0, 1] rfl
  have hD9 := hD.sub (ws' := [(x0, .inr (10, [.ref xw, .ref xl, .ref xi, .ref xt, .int 12, .ref xq, .int 0, .ref xr, .ref xh, .ref xp, .ref xs_, .ref xa, .ref xm])), (xt, .inl (kA 0, 400, .inl f16))]) [0, 1] (by decide) rfl
  refine W.widen (k := 0) (n := 0) (Nat.le_of_ble_eq_true rfl) (Nat.le_of_ble_eq_true rfl) ?_
  exact W.vret hx hb hr (fun t ht hW => ⟨⟨(f16), rfl, trivial, by rw [ht]; exact hP9, hD9⟩, hS.F ht⟩) hS.2.2 dX10_writeBytes_49
set_option maxHeartbeats 4000000 in
set_option maxRecDepth 100000 in
theorem mX10_writeBytes_12 (l : Launch) (dC : Nat → ClassId) (dI : Nat → Nat → Nat) (kA : Nat → ClassId) (sz : Nat) (x0 : Nat) (xw : Nat) (xl : Nat) (xi : Nat) (xt : Nat) (xq : Nat) (xr : Nat) (xh : Nat) (xp : Nat) (xs_ : Nat) (xa : Nat) (xm : Nat) (f : Nat → Int32) (v : Int32)  : Met l yX10_writeBytes wsX10_writeBytes ({ frames := 0, cells := 0, slots := 0, locals := 0 }) (zPc dC dI kA sz [.ref x0, .int v] [(x0, .inr (10, [.ref xw, .ref xl, .ref xi, .ref xt, .int 12, .ref xq, .int 0, .ref xr, .ref xh, .ref xp, .ref xs_, .ref xa, .ref xm])), (xt, .inl (kA 0, 400, .inl f))]) (va_Qv (fun (u : Nat → Int32) => True) (zB dC dI (va_A [(x0, .inr (10, [.ref xw, .ref xl, .ref xi, .ref xt, .int 12, .ref xq, .int 0, .ref xr, .ref xh, .ref xp, .ref xs_, .ref xa, .ref xm])), (xt, .inl (kA 0, 400, .inl f))] sz) (fun (u : Nat → Int32) => [(x0, .inr (10, [.ref xw, .ref xl, .ref xi, .ref xt, .int 16, .ref xq, .int 0, .ref xr, .ref xh, .ref xp, .ref xs_, .ref xa, .ref xm])), (xt, .inl (kA 0, 400, .inl u))])) (va_A [(x0, .inr (10, [.ref xw, .ref xl, .ref xi, .ref xt, .int 12, .ref xq, .int 0, .ref xr, .ref xh, .ref xp, .ref xs_, .ref xa, .ref xm])), (xt, .inl (kA 0, 400, .inl f))] sz)) 0 0 (va_A [(x0, .inr (10, [.ref xw, .ref xl, .ref xi, .ref xt, .int 12, .ref xq, .int 0, .ref xr, .ref xh, .ref xp, .ref xs_, .ref xa, .ref xm])), (xt, .inl (kA 0, 400, .inl f))] sz) := by
  refine Met.ofW (cc := cX10_writeBytes) (maxL := 3) (ret := none) (by decide) rfl ?_
  intro p e s m args below meth c s₁ B hml hv
  obtain ⟨rfl, hsz, hP, hK, hD0⟩ := hv
  have hx := B.exec
  have hb := B.bytes
  have hr := B.returns
  have hts := atoms_spec (ws := wsX10_writeBytes) B.pre
  have hown : s.vm.findClass RX10 = some m.cls := findClass_of_methodNamed B.named
  have hlocks := B.notSynchronized
  subst hsz
  have hD := hD0.self (sz := s.heap.size)
  generalize hAe : va_A [(x0, .inr (10, [.ref xw, .ref xl, .ref xi, .ref xt, .int 12, .ref xq, .int 0, .ref xr, .ref xh, .ref xp, .ref xs_, .ref xa, .ref xm])), (xt, .inl (kA 0, 400, .inl f))] s.heap.size = A at hD ⊢
  have hA : ∀ q : Nat, s.heap.size ≤ q → A q := fun q h => by rw [← hAe]; exact Or.inr h
  have hS : va_S A s.heap s.heap [] := va_S.rf
  have hP : va_P (dC, dI) vwCl [(x0, .inr (10, [.ref xw, .ref xl, .ref xi, .ref xt, .int 12, .ref xq, .int 0, .ref xr, .ref xh, .ref xp, .ref xs_, .ref xa, .ref xm])), (xt, .inl (kA 0, 400, .inl f))] s.heap := hP
  have hl := lv_entry ([.ref x0, .int v]) (n := 3) (Nat.le_of_ble_eq_true rfl)
  rw [lg_entry_eq]
  generalize (lg_sl ([.ref x0, .int v]) ++ List.replicate (3 - (lg_sl ([.ref x0, .int v])).length) Slot.unset).toArray = ls at hl ⊢
  have hl : lv_has ls 3 [(0, .ref x0), (1, .int v)] := hl
  refine lv_bipush (v := 24) hx hb dX10_writeBytes_0 (by decide) ?_
  refine lv_istore_n (lv' := [(2, .int 24), (0, .ref x0), (1, .int v)]) hx hb dX10_writeBytes_2 rfl hl (by decide) rfl (fun ls hl => ?_)
  refine lv_iload_n hx hb dX10_writeBytes_3 rfl (lv_at hl 0 rfl) ?_
  refine lv_if_lt (tgt := 49) hx hb dX10_writeBytes_4 (by decide) (fun c_1 => absurd c_1 (by decide)) (fun _ => ?_)
  refine lv_aload_n hx hb dX10_writeBytes_7 rfl (lv_at hl 1 rfl) ?_
  refine va_get (D := (dC, dI)) (ci := 10) (v := .int 12) (C := RX10) (T := TX10) (N := 13) hx hb hts iX10_writeBytes_X10 hown hK.1 hP 0 rfl rfl 4 (by decide) (kX10_writeBytes_1 hts) (fun _ h9 => h9) rfl dX10_writeBytes_8 ?_
  refine lv_sipush (v := 400) hx hb dX10_writeBytes_11 (by decide) ?_
  refine lv_icmp_ge (tgt := 43) hx hb dX10_writeBytes_14 (by decide) (fun c_2 => absurd c_2 (by decide)) (fun _ => ?_)
  refine lv_aload_n hx hb dX10_writeBytes_17 rfl (lv_at hl 1 rfl) ?_
  refine va_get (D := (dC, dI)) (ci := 10) (v := .ref xt) (C := RX10) (T := TX10) (N := 13) hx hb hts iX10_writeBytes_X10 hown hK.1 hP 0 rfl rfl 3 (by decide) (kX10_writeBytes_2 hts) (fun _ h9 => h9) rfl dX10_writeBytes_18 ?_
  refine lv_aload_n hx hb dX10_writeBytes_21 rfl (lv_at hl 1 rfl) ?_
  refine va_get (D := (dC, dI)) (ci := 10) (v := .int 12) (C := RX10) (T := TX10) (N := 13) hx hb hts iX10_writeBytes_X10 hown hK.1 hP 0 rfl rfl 4 (by decide) (kX10_writeBytes_1 hts) (fun _ h9 => h9) rfl dX10_writeBytes_22 ?_
  refine lv_iload_n hx hb dX10_writeBytes_25 rfl (lv_at hl 2 rfl) ?_
  refine lv_iload_n hx hb dX10_writeBytes_26 rfl (lv_at hl 0 rfl) ?_
  refine lv_iushr hx hb dX10_writeBytes_27 rfl ?_
  refine lv_topi (fun x3 ex3 => ?_)
  refine lv_sipush (v := 255) hx hb dX10_writeBytes_28 (by decide) ?_
  refine lv_iand hx hb dX10_writeBytes_31 ?_
  refine va_iast hx hb hK.1 hP hD hS 1 0 rfl rfl (vpd (by decide)) dX10_writeBytes_32 (fun H locs hP hD hS => ?_)
  have hP : va_P (dC, dI) vwCl [(x0, .inr (10, [.ref xw, .ref xl, .ref xi, .ref xt, .int 12, .ref xq, .int 0, .ref xr, .ref xh, .ref xp, .ref xs_, .ref xa, .ref xm])), (xt, .inl (kA 0, 400, .inl (upd f (12 : Int32).toNatClampNeg (x3 &&& 255))))] H := hP
  have hD : va_D A [(x0, .inr (10, [.ref xw, .ref xl, .ref xi, .ref xt, .int 12, .ref xq, .int 0, .ref xr, .ref xh, .ref xp, .ref xs_, .ref xa, .ref xm])), (xt, .inl (kA 0, 400, .inl (upd f (12 : Int32).toNatClampNeg (x3 &&& 255))))] := hD
  obtain ⟨f4, ef4⟩ : ∃ y : Nat → Int32, y = (upd f (12 : Int32).toNatClampNeg (x3 &&& 255)) := ⟨_, rfl⟩
  rw [← ef4] at hP hD
  refine lv_aload_n hx hb dX10_writeBytes_33 rfl (lv_at hl 1 rfl) ?_
  refine lv_dup hx hb dX10_writeBytes_34 rfl ?_
  refine va_get (D := (dC, dI)) (ci := 10) (v := .int 12) (C := RX10) (T := TX10) (N := 13) hx hb hts iX10_writeBytes_X10 hown hK.1 hP 0 rfl rfl 4 (by decide) (kX10_writeBytes_1 hts) (fun _ h9 => h9) rfl dX10_writeBytes_35 ?_
  refine lv_iconst (v := 1) hx hb dX10_writeBytes_38 (by decide) ?_
  refine lv_iadd hx hb dX10_writeBytes_39 ?_
  refine zi 13 (by decide) ?_
  refine va_put (D := (dC, dI)) (ci := 10) (v := .int 13) (ty := .int) (C := RX10) (T := TX10) (N := 13) hx hb hts iX10_writeBytes_X10 tyX10 tyX10_ok nmX10 hown hK.1 hP hD hS 0 rfl rfl 4 (by decide) (kX10_writeBytes_1 hts) (fun _ h9 => h9) rfl (by decide +kernel) rfl rfl (Nat.le_of_ble_eq_true rfl) dX10_writeBytes_40 (fun H locs hP hD hS => ?_)
  have hP : va_P (dC, dI) vwCl [(x0, .inr (10, [.ref xw, .ref xl, .ref xi, .ref xt, .int 13, .ref xq, .int 0, .ref xr, .ref xh, .ref xp, .ref xs_, .ref xa, .ref xm])), (xt, .inl (kA 0, 400, .inl f4))] H := hP
  have hD : va_D A [(x0, .inr (10, [.ref xw, .ref xl, .ref xi, .ref xt, .int 13, .ref xq, .int 0, .ref xr, .ref xh, .ref xp, .ref xs_, .ref xa, .ref xm])), (xt, .inl (kA 0, 400, .inl f4))] := hD
  refine lv_iinc (v := 16) (lv' := [(2, .int 16), (0, .ref x0), (1, .int v)]) hx hb dX10_writeBytes_43 hl (k := 0) rfl (by decide) (by decide) rfl (fun ls hl => ?_)
  refine lv_goto (tgt := 3) hx hb dX10_writeBytes_46 (by decide) ?_
  refine lv_iload_n hx hb dX10_writeBytes_3 rfl (lv_at hl 0 rfl) ?_
  refine lv_if_lt (tgt := 49) hx hb dX10_writeBytes_4 (by decide) (fun c_5 => absurd c_5 (by decide)) (fun _ => ?_)
  refine lv_aload_n hx hb dX10_writeBytes_7 rfl (lv_at hl 1 rfl) ?_
  refine va_get (D := (dC, dI)) (ci := 10) (v := .int 13) (C := RX10) (T := TX10) (N := 13) hx hb hts iX10_writeBytes_X10 hown hK.1 hP 0 rfl rfl 4 (by decide) (kX10_writeBytes_1 hts) (fun _ h9 => h9) rfl dX10_writeBytes_8 ?_
  refine lv_sipush (v := 400) hx hb dX10_writeBytes_11 (by decide) ?_
  refine lv_icmp_ge (tgt := 43) hx hb dX10_writeBytes_14 (by decide) (fun c_6 => absurd c_6 (by decide)) (fun _ => ?_)
  refine lv_aload_n hx hb dX10_writeBytes_17 rfl (lv_at hl 1 rfl) ?_
  refine va_get (D := (dC, dI)) (ci := 10) (v := .ref xt) (C := RX10) (T := TX10) (N := 13) hx hb hts iX10_writeBytes_X10 hown hK.1 hP 0 rfl rfl 3 (by decide) (kX10_writeBytes_2 hts) (fun _ h9 => h9) rfl dX10_writeBytes_18 ?_
  refine lv_aload_n hx hb dX10_writeBytes_21 rfl (lv_at hl 1 rfl) ?_
  refine va_get (D := (dC, dI)) (ci := 10) (v := .int 13) (C := RX10) (T := TX10) (N := 13) hx hb hts iX10_writeBytes_X10 hown hK.1 hP 0 rfl rfl 4 (by decide) (kX10_writeBytes_1 hts) (fun _ h9 => h9) rfl dX10_writeBytes_22 ?_
  refine lv_iload_n hx hb dX10_writeBytes_25 rfl (lv_at hl 2 rfl) ?_
  refine lv_iload_n hx hb dX10_writeBytes_26 rfl (lv_at hl 0 rfl) ?_
  refine lv_iushr hx hb dX10_writeBytes_27 rfl ?_
  refine lv_topi (fun x7 ex7 => ?_)
  refine lv_sipush (v := 255) hx hb dX10_writeBytes_28 (by decide) ?_
  refine lv_iand hx hb dX10_writeBytes_31 ?_
  refine va_iast hx hb hK.1 hP hD hS 1 0 rfl rfl (vpd (by decide)) dX10_writeBytes_32 (fun H locs hP hD hS => ?_)
  have hP : va_P (dC, dI) vwCl [(x0, .inr (10, [.ref xw, .ref xl, .ref xi, .ref xt, .int 13, .ref xq, .int 0, .ref xr, .ref xh, .ref xp, .ref xs_, .ref xa, .ref xm])), (xt, .inl (kA 0, 400, .inl (upd f4 (13 : Int32).toNatClampNeg (x7 &&& 255))))] H := hP
  have hD : va_D A [(x0, .inr (10, [.ref xw, .ref xl, .ref xi, .ref xt, .int 13, .ref xq, .int 0, .ref xr, .ref xh, .ref xp, .ref xs_, .ref xa, .ref xm])), (xt, .inl (kA 0, 400, .inl (upd f4 (13 : Int32).toNatClampNeg (x7 &&& 255))))] := hD
  obtain ⟨f8, ef8⟩ : ∃ y : Nat → Int32, y = (upd f4 (13 : Int32).toNatClampNeg (x7 &&& 255)) := ⟨_, rfl⟩
  rw [← ef8] at hP hD
  refine lv_aload_n hx hb dX10_writeBytes_33 rfl (lv_at hl 1 rfl) ?_
  refine lv_dup hx hb dX10_writeBytes_34 rfl ?_
  refine va_get (D := (dC, dI)) (ci := 10) (v := .int 13) (C := RX10) (T := TX10) (N := 13) hx hb hts iX10_writeBytes_X10 hown hK.1 hP 0 rfl rfl 4 (by decide) (kX10_writeBytes_1 hts) (fun _ h9 => h9) rfl dX10_writeBytes_35 ?_
  refine lv_iconst (v := 1) hx hb dX10_writeBytes_38 (by decide) ?_
  refine lv_iadd hx hb dX10_writeBytes_39 ?_
  refine zi 14 (by decide) ?_
  refine va_put (D := (dC, dI)) (ci := 10) (v := .int 14) (ty := .int) (C := RX10) (T := TX10) (N := 13) hx hb hts iX10_writeBytes_X10 tyX10 tyX10_ok nmX10 hown hK.1 hP hD hS 0 rfl rfl 4 (by decide) (kX10_writeBytes_1 hts) (fun _ h9 => h9) rfl (by decide +kernel) rfl rfl (Nat.le_of_ble_eq_true rfl) dX10_writeBytes_40 (fun H locs hP hD hS => ?_)
  have hP : va_P (dC, dI) vwCl [(x0, .inr (10, [.ref xw, .ref xl, .ref xi, .ref xt, .int 14, .ref xq, .int 0, .ref xr, .ref xh, .ref xp, .ref xs_, .ref xa, .ref xm])), (xt, .inl (kA 0, 400, .inl f8))] H := hP
  have hD : va_D A [(x0, .inr (10, [.ref xw, .ref xl, .ref xi, .ref xt, .int 14, .ref xq, .int 0, .ref xr, .ref xh, .ref xp, .ref xs_, .ref xa, .ref xm])), (xt, .inl (kA 0, 400, .inl f8))] := hD
  refine lv_iinc (v := 8) (lv' := [(2, .int 8), (0, .ref x0), (1, .int v)]) hx hb dX10_writeBytes_43 hl (k := 0) rfl (by decide) (by decide) rfl (fun ls hl => ?_)
  refine lv_goto (tgt := 3) hx hb dX10_writeBytes_46 (by decide) ?_
  refine lv_iload_n hx hb dX10_writeBytes_3 rfl (lv_at hl 0 rfl) ?_
  refine lv_if_lt (tgt := 49) hx hb dX10_writeBytes_4 (by decide) (fun c_9 => absurd c_9 (by decide)) (fun _ => ?_)
  refine lv_aload_n hx hb dX10_writeBytes_7 rfl (lv_at hl 1 rfl) ?_
  refine va_get (D := (dC, dI)) (ci := 10) (v := .int 14) (C := RX10) (T := TX10) (N := 13) hx hb hts iX10_writeBytes_X10 hown hK.1 hP 0 rfl rfl 4 (by decide) (kX10_writeBytes_1 hts) (fun _ h9 => h9) rfl dX10_writeBytes_8 ?_
  refine lv_sipush (v := 400) hx hb dX10_writeBytes_11 (by decide) ?_
  refine lv_icmp_ge (tgt := 43) hx hb dX10_writeBytes_14 (by decide) (fun c_10 => absurd c_10 (by decide)) (fun _ => ?_)
  refine lv_aload_n hx hb dX10_writeBytes_17 rfl (lv_at hl 1 rfl) ?_
  refine va_get (D := (dC, dI)) (ci := 10) (v := .ref xt) (C := RX10) (T := TX10) (N := 13) hx hb hts iX10_writeBytes_X10 hown hK.1 hP 0 rfl rfl 3 (by decide) (kX10_writeBytes_2 hts) (fun _ h9 => h9) rfl dX10_writeBytes_18 ?_
  refine lv_aload_n hx hb dX10_writeBytes_21 rfl (lv_at hl 1 rfl) ?_
  refine va_get (D := (dC, dI)) (ci := 10) (v := .int 14) (C := RX10) (T := TX10) (N := 13) hx hb hts iX10_writeBytes_X10 hown hK.1 hP 0 rfl rfl 4 (by decide) (kX10_writeBytes_1 hts) (fun _ h9 => h9) rfl dX10_writeBytes_22 ?_
  refine lv_iload_n hx hb dX10_writeBytes_25 rfl (lv_at hl 2 rfl) ?_
  refine lv_iload_n hx hb dX10_writeBytes_26 rfl (lv_at hl 0 rfl) ?_
  refine lv_iushr hx hb dX10_writeBytes_27 rfl ?_
  refine lv_topi (fun x11 ex11 => ?_)
  refine lv_sipush (v := 255) hx hb dX10_writeBytes_28 (by decide) ?_
  refine lv_iand hx hb dX10_writeBytes_31 ?_
  refine va_iast hx hb hK.1 hP hD hS 1 0 rfl rfl (vpd (by decide)) dX10_writeBytes_32 (fun H locs hP hD hS => ?_)
  have hP : va_P (dC, dI) vwCl [(x0, .inr (10, [.ref xw, .ref xl, .ref xi, .ref xt, .int 14, .ref xq, .int 0, .ref xr, .ref xh, .ref xp, .ref xs_, .ref xa, .ref xm])), (xt, .inl (kA 0, 400, .inl (upd f8 (14 : Int32).toNatClampNeg (x11 &&& 255))))] H := hP
  have hD : va_D A [(x0, .inr (10, [.ref xw, .ref xl, .ref xi, .ref xt, .int 14, .ref xq, .int 0, .ref xr, .ref xh, .ref xp, .ref xs_, .ref xa, .ref xm])), (xt, .inl (kA 0, 400, .inl (upd f8 (14 : Int32).toNatClampNeg (x11 &&& 255))))] := hD
  obtain ⟨f12, ef12⟩ : ∃ y : Nat → Int32, y = (upd f8 (14 : Int32).toNatClampNeg (x11 &&& 255)) := ⟨_, rfl⟩
  rw [← ef12] at hP hD
  refine lv_aload_n hx hb dX10_writeBytes_33 rfl (lv_at hl 1 rfl) ?_
  refine lv_dup hx hb dX10_writeBytes_34 rfl ?_
  refine va_get (D := (dC, dI)) (ci := 10) (v := .int 14) (C := RX10) (T := TX10) (N := 13) hx hb hts iX10_writeBytes_X10 hown hK.1 hP 0 rfl rfl 4 (by decide) (kX10_writeBytes_1 hts) (fun _ h9 => h9) rfl dX10_writeBytes_35 ?_
  refine lv_iconst (v := 1) hx hb dX10_writeBytes_38 (by decide) ?_
  refine lv_iadd hx hb dX10_writeBytes_39 ?_
  refine zi 15 (by decide) ?_
  refine va_put (D := (dC, dI)) (ci := 10) (v := .int 15) (ty := .int) (C := RX10) (T := TX10) (N := 13) hx hb hts iX10_writeBytes_X10 tyX10 tyX10_ok nmX10 hown hK.1 hP hD hS 0 rfl rfl 4 (by decide) (kX10_writeBytes_1 hts) (fun _ h9 => h9) rfl (by decide +kernel) rfl rfl (Nat.le_of_ble_eq_true rfl) dX10_writeBytes_40 (fun H locs hP hD hS => ?_)
  have hP : va_P (dC, dI) vwCl [(x0, .inr (10, [.ref xw, .ref xl, .ref xi, .ref xt, .int 15, .ref xq, .int 0, .ref xr, .ref xh, .ref xp, .ref xs_, .ref xa, .ref xm])), (xt, .inl (kA 0, 400, .inl f12))] H := hP
  have hD : va_D A [(x0, .inr (10, [.ref xw, .ref xl, .ref xi, .ref xt, .int 15, .ref xq, .int 0, .ref xr, .ref xh, .ref xp, .ref xs_, .ref xa, .ref xm])), (xt, .inl (kA 0, 400, .inl f12))] := hD
  refine lv_iinc (v := 0) (lv' := [(2, .int 0), (0, .ref x0), (1, .int v)]) hx hb dX10_writeBytes_43 hl (k := 0) rfl (by decide) (by decide) rfl (fun ls hl => ?_)
  refine lv_goto (tgt := 3) hx hb dX10_writeBytes_46 (by decide) ?_
  refine lv_iload_n hx hb dX10_writeBytes_3 rfl (lv_at hl 0 rfl) ?_
  refine lv_if_lt (tgt := 49) hx hb dX10_writeBytes_4 (by decide) (fun c_13 => absurd c_13 (by decide)) (fun _ => ?_)
  refine lv_aload_n hx hb dX10_writeBytes_7 rfl (lv_at hl 1 rfl) ?_
  refine va_get (D := (dC, dI)) (ci := 10) (v := .int 15) (C := RX10) (T := TX10) (N := 13) hx hb hts iX10_writeBytes_X10 hown hK.1 hP 0 rfl rfl 4 (by decide) (kX10_writeBytes_1 hts) (fun _ h9 => h9) rfl dX10_writeBytes_8 ?_
  refine lv_sipush (v := 400) hx hb dX10_writeBytes_11 (by decide) ?_
  refine lv_icmp_ge (tgt := 43) hx hb dX10_writeBytes_14 (by decide) (fun c_14 => absurd c_14 (by decide)) (fun _ => ?_)
  refine lv_aload_n hx hb dX10_writeBytes_17 rfl (lv_at hl 1 rfl) ?_
  refine va_get (D := (dC, dI)) (ci := 10) (v := .ref xt) (C := RX10) (T := TX10) (N := 13) hx hb hts iX10_writeBytes_X10 hown hK.1 hP 0 rfl rfl 3 (by decide) (kX10_writeBytes_2 hts) (fun _ h9 => h9) rfl dX10_writeBytes_18 ?_
  refine lv_aload_n hx hb dX10_writeBytes_21 rfl (lv_at hl 1 rfl) ?_
  refine va_get (D := (dC, dI)) (ci := 10) (v := .int 15) (C := RX10) (T := TX10) (N := 13) hx hb hts iX10_writeBytes_X10 hown hK.1 hP 0 rfl rfl 4 (by decide) (kX10_writeBytes_1 hts) (fun _ h9 => h9) rfl dX10_writeBytes_22 ?_
  refine lv_iload_n hx hb dX10_writeBytes_25 rfl (lv_at hl 2 rfl) ?_
  refine lv_iload_n hx hb dX10_writeBytes_26 rfl (lv_at hl 0 rfl) ?_
  refine lv_iushr hx hb dX10_writeBytes_27 rfl ?_
  refine lv_topi (fun x15 ex15 => ?_)
  refine lv_sipush (v := 255) hx hb dX10_writeBytes_28 (by decide) ?_
  refine lv_iand hx hb dX10_writeBytes_31 ?_
  refine va_iast hx hb hK.1 hP hD hS 1 0 rfl rfl (vpd (by decide)) dX10_writeBytes_32 (fun H locs hP hD hS => ?_)
  have hP : va_P (dC, dI) vwCl [(x0, .inr (10, [.ref xw, .ref xl, .ref xi, .ref xt, .int 15, .ref xq, .int 0, .ref xr, .ref xh, .ref xp, .ref xs_, .ref xa, .ref xm])), (xt, .inl (kA 0, 400, .inl (upd f12 (15 : Int32).toNatClampNeg (x15 &&& 255))))] H := hP
  have hD : va_D A [(x0, .inr (10, [.ref xw, .ref xl, .ref xi, .ref xt, .int 15, .ref xq, .int 0, .ref xr, .ref xh, .ref xp, .ref xs_, .ref xa, .ref xm])), (xt, .inl (kA 0, 400, .inl (upd f12 (15 : Int32).toNatClampNeg (x15 &&& 255))))] := hD
  obtain ⟨f16, ef16⟩ : ∃ y : Nat → Int32, y = (upd f12 (15 : Int32).toNatClampNeg (x15 &&& 255)) := ⟨_, rfl⟩
  rw [← ef16] at hP hD
  refine lv_aload_n hx hb dX10_writeBytes_33 rfl (lv_at hl 1 rfl) ?_
  refine lv_dup hx hb dX10_writeBytes_34 rfl ?_
  refine va_get (D := (dC, dI)) (ci := 10) (v := .int 15) (C := RX10) (T := TX10) (N := 13) hx hb hts iX10_writeBytes_X10 hown hK.1 hP 0 rfl rfl 4 (by decide) (kX10_writeBytes_1 hts) (fun _ h9 => h9) rfl dX10_writeBytes_35 ?_
  refine lv_iconst (v := 1) hx hb dX10_writeBytes_38 (by decide) ?_
  refine lv_iadd hx hb dX10_writeBytes_39 ?_
  refine zi 16 (by decide) ?_
  refine va_put (D := (dC, dI)) (ci := 10) (v := .int 16) (ty := .int) (C := RX10) (T := TX10) (N := 13) hx hb hts iX10_writeBytes_X10 tyX10 tyX10_ok nmX10 hown hK.1 hP hD hS 0 rfl rfl 4 (by decide) (kX10_writeBytes_1 hts) (fun _ h9 => h9) rfl (by decide +kernel) rfl rfl (Nat.le_of_ble_eq_true rfl) dX10_writeBytes_40 (fun H locs hP hD hS => ?_)
  have hP : va_P (dC, dI) vwCl [(x0, .inr (10, [.ref xw, .ref xl, .ref xi, .ref xt, .int 16, .ref xq, .int 0, .ref xr, .ref xh, .ref xp, .ref xs_, .ref xa, .ref xm])), (xt, .inl (kA 0, 400, .inl f16))] H := hP
  have hD : va_D A [(x0, .inr (10, [.ref xw, .ref xl, .ref xi, .ref xt, .int 16, .ref xq, .int 0, .ref xr, .ref xh, .ref xp, .ref xs_, .ref xa, .ref xm])), (xt, .inl (kA 0, 400, .inl f16))] := hD
  refine lv_iinc (v := (-8)) (lv' := [(2, .int (-8)), (0, .ref x0), (1, .int v)]) hx hb dX10_writeBytes_43 hl (k := 0) rfl (by decide) (by decide) rfl (fun ls hl => ?_)
  refine lv_goto (tgt := 3) hx hb dX10_writeBytes_46 (by decide) ?_
  refine lv_iload_n hx hb dX10_writeBytes_3 rfl (lv_at hl 0 rfl) ?_
  refine lv_if_lt (tgt := 49) hx hb dX10_writeBytes_4 (by decide) (fun _ => ?_) (fun c_17 => absurd (by decide) c_17)
  have hP9 := hP.sub (ws' := [(x0, .inr (10, [.ref xw, .ref xl, .ref xi, .ref xt, .int 16, .ref xq, .int 0, .ref xr, .ref xh, .ref xp, .ref xs_, .ref xa, .ref xm])), (xt, .inl (kA 0, 400, .inl f16))]) [0, 1] rfl
  have hD9 := hD.sub (ws' := [(x0, .inr (10, [.ref xw, .ref xl, .ref xi, .ref xt, .int 16, .ref xq, .int 0, .ref xr, .ref xh, .ref xp, .ref xs_, .ref xa, .ref xm])), (xt, .inl (kA 0, 400, .inl f16))]) [0, 1] (by decide) rfl
  refine W.widen (k := 0) (n := 0) (Nat.le_of_ble_eq_true rfl) (Nat.le_of_ble_eq_true rfl) ?_
  exact W.vret hx hb hr (fun t ht hW => ⟨⟨(f16), rfl, trivial, by rw [ht]; exact hP9, hD9⟩, hS.F ht⟩) hS.2.2 dX10_writeBytes_49
set_option maxHeartbeats 4000000 in
set_option maxRecDepth 100000 in
theorem mX10_writeBytes_16 (l : Launch) (dC : Nat → ClassId) (dI : Nat → Nat → Nat) (kA : Nat → ClassId) (sz : Nat) (x0 : Nat) (xw : Nat) (xl : Nat) (xi : Nat) (xt : Nat) (xq : Nat) (xr : Nat) (xh : Nat) (xp : Nat) (xs_ : Nat) (xa : Nat) (xm : Nat) (f : Nat → Int32) (v : Int32)  : Met l yX10_writeBytes wsX10_writeBytes ({ frames := 0, cells := 0, slots := 0, locals := 0 }) (zPc dC dI kA sz [.ref x0, .int v] [(x0, .inr (10, [.ref xw, .ref xl, .ref xi, .ref xt, .int 16, .ref xq, .int 0, .ref xr, .ref xh, .ref xp, .ref xs_, .ref xa, .ref xm])), (xt, .inl (kA 0, 400, .inl f))]) (va_Qv (fun (u : Nat → Int32) => True) (zB dC dI (va_A [(x0, .inr (10, [.ref xw, .ref xl, .ref xi, .ref xt, .int 16, .ref xq, .int 0, .ref xr, .ref xh, .ref xp, .ref xs_, .ref xa, .ref xm])), (xt, .inl (kA 0, 400, .inl f))] sz) (fun (u : Nat → Int32) => [(x0, .inr (10, [.ref xw, .ref xl, .ref xi, .ref xt, .int 20, .ref xq, .int 0, .ref xr, .ref xh, .ref xp, .ref xs_, .ref xa, .ref xm])), (xt, .inl (kA 0, 400, .inl u))])) (va_A [(x0, .inr (10, [.ref xw, .ref xl, .ref xi, .ref xt, .int 16, .ref xq, .int 0, .ref xr, .ref xh, .ref xp, .ref xs_, .ref xa, .ref xm])), (xt, .inl (kA 0, 400, .inl f))] sz)) 0 0 (va_A [(x0, .inr (10, [.ref xw, .ref xl, .ref xi, .ref xt, .int 16, .ref xq, .int 0, .ref xr, .ref xh, .ref xp, .ref xs_, .ref xa, .ref xm])), (xt, .inl (kA 0, 400, .inl f))] sz) := by
  refine Met.ofW (cc := cX10_writeBytes) (maxL := 3) (ret := none) (by decide) rfl ?_
  intro p e s m args below meth c s₁ B hml hv
  obtain ⟨rfl, hsz, hP, hK, hD0⟩ := hv
  have hx := B.exec
  have hb := B.bytes
  have hr := B.returns
  have hts := atoms_spec (ws := wsX10_writeBytes) B.pre
  have hown : s.vm.findClass RX10 = some m.cls := findClass_of_methodNamed B.named
  have hlocks := B.notSynchronized
  subst hsz
  have hD := hD0.self (sz := s.heap.size)
  generalize hAe : va_A [(x0, .inr (10, [.ref xw, .ref xl, .ref xi, .ref xt, .int 16, .ref xq, .int 0, .ref xr, .ref xh, .ref xp, .ref xs_, .ref xa, .ref xm])), (xt, .inl (kA 0, 400, .inl f))] s.heap.size = A at hD ⊢
  have hA : ∀ q : Nat, s.heap.size ≤ q → A q := fun q h => by rw [← hAe]; exact Or.inr h
  have hS : va_S A s.heap s.heap [] := va_S.rf
  have hP : va_P (dC, dI) vwCl [(x0, .inr (10, [.ref xw, .ref xl, .ref xi, .ref xt, .int 16, .ref xq, .int 0, .ref xr, .ref xh, .ref xp, .ref xs_, .ref xa, .ref xm])), (xt, .inl (kA 0, 400, .inl f))] s.heap := hP
  have hl := lv_entry ([.ref x0, .int v]) (n := 3) (Nat.le_of_ble_eq_true rfl)
  rw [lg_entry_eq]
  generalize (lg_sl ([.ref x0, .int v]) ++ List.replicate (3 - (lg_sl ([.ref x0, .int v])).length) Slot.unset).toArray = ls at hl ⊢
  have hl : lv_has ls 3 [(0, .ref x0), (1, .int v)] := hl
  refine lv_bipush (v := 24) hx hb dX10_writeBytes_0 (by decide) ?_
  refine lv_istore_n (lv' := [(2, .int 24), (0, .ref x0), (1, .int v)]) hx hb dX10_writeBytes_2 rfl hl (by decide) rfl (fun ls hl => ?_)
  refine lv_iload_n hx hb dX10_writeBytes_3 rfl (lv_at hl 0 rfl) ?_
  refine lv_if_lt (tgt := 49) hx hb dX10_writeBytes_4 (by decide) (fun c_1 => absurd c_1 (by decide)) (fun _ => ?_)
  refine lv_aload_n hx hb dX10_writeBytes_7 rfl (lv_at hl 1 rfl) ?_
  refine va_get (D := (dC, dI)) (ci := 10) (v := .int 16) (C := RX10) (T := TX10) (N := 13) hx hb hts iX10_writeBytes_X10 hown hK.1 hP 0 rfl rfl 4 (by decide) (kX10_writeBytes_1 hts) (fun _ h9 => h9) rfl dX10_writeBytes_8 ?_
  refine lv_sipush (v := 400) hx hb dX10_writeBytes_11 (by decide) ?_
  refine lv_icmp_ge (tgt := 43) hx hb dX10_writeBytes_14 (by decide) (fun c_2 => absurd c_2 (by decide)) (fun _ => ?_)
  refine lv_aload_n hx hb dX10_writeBytes_17 rfl (lv_at hl 1 rfl) ?_
  refine va_get (D := (dC, dI)) (ci := 10) (v := .ref xt) (C := RX10) (T := TX10) (N := 13) hx hb hts iX10_writeBytes_X10 hown hK.1 hP 0 rfl rfl 3 (by decide) (kX10_writeBytes_2 hts) (fun _ h9 => h9) rfl dX10_writeBytes_18 ?_
  refine lv_aload_n hx hb dX10_writeBytes_21 rfl (lv_at hl 1 rfl) ?_
  refine va_get (D := (dC, dI)) (ci := 10) (v := .int 16) (C := RX10) (T := TX10) (N := 13) hx hb hts iX10_writeBytes_X10 hown hK.1 hP 0 rfl rfl 4 (by decide) (kX10_writeBytes_1 hts) (fun _ h9 => h9) rfl dX10_writeBytes_22 ?_
  refine lv_iload_n hx hb dX10_writeBytes_25 rfl (lv_at hl 2 rfl) ?_
  refine lv_iload_n hx hb dX10_writeBytes_26 rfl (lv_at hl 0 rfl) ?_
  refine lv_iushr hx hb dX10_writeBytes_27 rfl ?_
  refine lv_topi (fun x3 ex3 => ?_)
  refine lv_sipush (v := 255) hx hb dX10_writeBytes_28 (by decide) ?_
  refine lv_iand hx hb dX10_writeBytes_31 ?_
  refine va_iast hx hb hK.1 hP hD hS 1 0 rfl rfl (vpd (by decide)) dX10_writeBytes_32 (fun H locs hP hD hS => ?_)
  have hP : va_P (dC, dI) vwCl [(x0, .inr (10, [.ref xw, .ref xl, .ref xi, .ref xt, .int 16, .ref xq, .int 0, .ref xr, .ref xh, .ref xp, .ref xs_, .ref xa, .ref xm])), (xt, .inl (kA 0, 400, .inl (upd f (16 : Int32).toNatClampNeg (x3 &&& 255))))] H := hP
  have hD : va_D A [(x0, .inr (10, [.ref xw, .ref xl, .ref xi, .ref xt, .int 16, .ref xq, .int 0, .ref xr, .ref xh, .ref xp, .ref xs_, .ref xa, .ref xm])), (xt, .inl (kA 0, 400, .inl (upd f (16 : Int32).toNatClampNeg (x3 &&& 255))))] := hD
  obtain ⟨f4, ef4⟩ : ∃ y : Nat → Int32, y = (upd f (16 : Int32).toNatClampNeg (x3 &&& 255)) := ⟨_, rfl⟩
  rw [← ef4] at hP hD
  refine lv_aload_n hx hb dX10_writeBytes_33 rfl (lv_at hl 1 rfl) ?_
  refine lv_dup hx hb dX10_writeBytes_34 rfl ?_
  refine va_get (D := (dC, dI)) (ci := 10) (v := .int 16) (C := RX10) (T := TX10) (N := 13) hx hb hts iX10_writeBytes_X10 hown hK.1 hP 0 rfl rfl 4 (by decide) (kX10_writeBytes_1 hts) (fun _ h9 => h9) rfl dX10_writeBytes_35 ?_
  refine lv_iconst (v := 1) hx hb dX10_writeBytes_38 (by decide) ?_
  refine lv_iadd hx hb dX10_writeBytes_39 ?_
  refine zi 17 (by decide) ?_
  refine va_put (D := (dC, dI)) (ci := 10) (v := .int 17) (ty := .int) (C := RX10) (T := TX10) (N := 13) hx hb hts iX10_writeBytes_X10 tyX10 tyX10_ok nmX10 hown hK.1 hP hD hS 0 rfl rfl 4 (by decide) (kX10_writeBytes_1 hts) (fun _ h9 => h9) rfl (by decide +kernel) rfl rfl (Nat.le_of_ble_eq_true rfl) dX10_writeBytes_40 (fun H locs hP hD hS => ?_)
  have hP : va_P (dC, dI) vwCl [(x0, .inr (10, [.ref xw, .ref xl, .ref xi, .ref xt, .int 17, .ref xq, .int 0, .ref xr, .ref xh, .ref xp, .ref xs_, .ref xa, .ref xm])), (xt, .inl (kA 0, 400, .inl f4))] H := hP
  have hD : va_D A [(x0, .inr (10, [.ref xw, .ref xl, .ref xi, .ref xt, .int 17, .ref xq, .int 0, .ref xr, .ref xh, .ref xp, .ref xs_, .ref xa, .ref xm])), (xt, .inl (kA 0, 400, .inl f4))] := hD
  refine lv_iinc (v := 16) (lv' := [(2, .int 16), (0, .ref x0), (1, .int v)]) hx hb dX10_writeBytes_43 hl (k := 0) rfl (by decide) (by decide) rfl (fun ls hl => ?_)
  refine lv_goto (tgt := 3) hx hb dX10_writeBytes_46 (by decide) ?_
  refine lv_iload_n hx hb dX10_writeBytes_3 rfl (lv_at hl 0 rfl) ?_
  refine lv_if_lt (tgt := 49) hx hb dX10_writeBytes_4 (by decide) (fun c_5 => absurd c_5 (by decide)) (fun _ => ?_)
  refine lv_aload_n hx hb dX10_writeBytes_7 rfl (lv_at hl 1 rfl) ?_
  refine va_get (D := (dC, dI)) (ci := 10) (v := .int 17) (C := RX10) (T := TX10) (N := 13) hx hb hts iX10_writeBytes_X10 hown hK.1 hP 0 rfl rfl 4 (by decide) (kX10_writeBytes_1 hts) (fun _ h9 => h9) rfl dX10_writeBytes_8 ?_
  refine lv_sipush (v := 400) hx hb dX10_writeBytes_11 (by decide) ?_
  refine lv_icmp_ge (tgt := 43) hx hb dX10_writeBytes_14 (by decide) (fun c_6 => absurd c_6 (by decide)) (fun _ => ?_)
  refine lv_aload_n hx hb dX10_writeBytes_17 rfl (lv_at hl 1 rfl) ?_
  refine va_get (D := (dC, dI)) (ci := 10) (v := .ref xt) (C := RX10) (T := TX10) (N := 13) hx hb hts iX10_writeBytes_X10 hown hK.1 hP 0 rfl rfl 3 (by decide) (kX10_writeBytes_2 hts) (fun _ h9 => h9) rfl dX10_writeBytes_18 ?_
  refine lv_aload_n hx hb dX10_writeBytes_21 rfl (lv_at hl 1 rfl) ?_
  refine va_get (D := (dC, dI)) (ci := 10) (v := .int 17) (C := RX10) (T := TX10) (N := 13) hx hb hts iX10_writeBytes_X10 hown hK.1 hP 0 rfl rfl 4 (by decide) (kX10_writeBytes_1 hts) (fun _ h9 => h9) rfl dX10_writeBytes_22 ?_
  refine lv_iload_n hx hb dX10_writeBytes_25 rfl (lv_at hl 2 rfl) ?_
  refine lv_iload_n hx hb dX10_writeBytes_26 rfl (lv_at hl 0 rfl) ?_
  refine lv_iushr hx hb dX10_writeBytes_27 rfl ?_
  refine lv_topi (fun x7 ex7 => ?_)
  refine lv_sipush (v := 255) hx hb dX10_writeBytes_28 (by decide) ?_
  refine lv_iand hx hb dX10_writeBytes_31 ?_
  refine va_iast hx hb hK.1 hP hD hS 1 0 rfl rfl (vpd (by decide)) dX10_writeBytes_32 (fun H locs hP hD hS => ?_)
  have hP : va_P (dC, dI) vwCl [(x0, .inr (10, [.ref xw, .ref xl, .ref xi, .ref xt, .int 17, .ref xq, .int 0, .ref xr, .ref xh, .ref xp, .ref xs_, .ref xa, .ref xm])), (xt, .inl (kA 0, 400, .inl (upd f4 (17 : Int32).toNatClampNeg (x7 &&& 255))))] H := hP
  have hD : va_D A [(x0, .inr (10, [.ref xw, .ref xl, .ref xi, .ref xt, .int 17, .ref xq, .int 0, .ref xr, .ref xh, .ref xp, .ref xs_, .ref xa, .ref xm])), (xt, .inl (kA 0, 400, .inl (upd f4 (17 : Int32).toNatClampNeg (x7 &&& 255))))] := hD
  obtain ⟨f8, ef8⟩ : ∃ y : Nat → Int32, y = (upd f4 (17 : Int32).toNatClampNeg (x7 &&& 255)) := ⟨_, rfl⟩
  rw [← ef8] at hP hD
  refine lv_aload_n hx hb dX10_writeBytes_33 rfl (lv_at hl 1 rfl) ?_
  refine lv_dup hx hb dX10_writeBytes_34 rfl ?_
  refine va_get (D := (dC, dI)) (ci := 10) (v := .int 17) (C := RX10) (T := TX10) (N := 13) hx hb hts iX10_writeBytes_X10 hown hK.1 hP 0 rfl rfl 4 (by decide) (kX10_writeBytes_1 hts) (fun _ h9 => h9) rfl dX10_writeBytes_35 ?_
  refine lv_iconst (v := 1) hx hb dX10_writeBytes_38 (by decide) ?_
  refine lv_iadd hx hb dX10_writeBytes_39 ?_
  refine zi 18 (by decide) ?_
  refine va_put (D := (dC, dI)) (ci := 10) (v := .int 18) (ty := .int) (C := RX10) (T := TX10) (N := 13) hx hb hts iX10_writeBytes_X10 tyX10 tyX10_ok nmX10 hown hK.1 hP hD hS 0 rfl rfl 4 (by decide) (kX10_writeBytes_1 hts) (fun _ h9 => h9) rfl (by decide +kernel) rfl rfl (Nat.le_of_ble_eq_true rfl) dX10_writeBytes_40 (fun H locs hP hD hS => ?_)
  have hP : va_P (dC, dI) vwCl [(x0, .inr (10, [.ref xw, .ref xl, .ref xi, .ref xt, .int 18, .ref xq, .int 0, .ref xr, .ref xh, .ref xp, .ref xs_, .ref xa, .ref xm])), (xt, .inl (kA 0, 400, .inl f8))] H := hP
  have hD : va_D A [(x0, .inr (10, [.ref xw, .ref xl, .ref xi, .ref xt, .int 18, .ref xq, .int 0, .ref xr, .ref xh, .ref xp, .ref xs_, .ref xa, .ref xm])), (xt, .inl (kA 0, 400, .inl f8))] := hD
  refine lv_iinc (v := 8) (lv' := [(2, .int 8), (0, .ref x0), (1, .int v)]) hx hb dX10_writeBytes_43 hl (k := 0) rfl (by decide) (by decide) rfl (fun ls hl => ?_)
  refine lv_goto (tgt := 3) hx hb dX10_writeBytes_46 (by decide) ?_
  refine lv_iload_n hx hb dX10_writeBytes_3 rfl (lv_at hl 0 rfl) ?_
  refine lv_if_lt (tgt := 49) hx hb dX10_writeBytes_4 (by decide) (fun c_9 => absurd c_9 (by decide)) (fun _ => ?_)
  refine lv_aload_n hx hb dX10_writeBytes_7 rfl (lv_at hl 1 rfl) ?_
  refine va_get (D := (dC, dI)) (ci := 10) (v := .int 18) (C := RX10) (T := TX10) (N := 13) hx hb hts iX10_writeBytes_X10 hown hK.1 hP 0 rfl rfl 4 (by decide) (kX10_writeBytes_1 hts) (fun _ h9 => h9) rfl dX10_writeBytes_8 ?_
  refine lv_sipush (v := 400) hx hb dX10_writeBytes_11 (by decide) ?_
  refine lv_icmp_ge (tgt := 43) hx hb dX10_writeBytes_14 (by decide) (fun c_10 => absurd c_10 (by decide)) (fun _ => ?_)
  refine lv_aload_n hx hb dX10_writeBytes_17 rfl (lv_at hl 1 rfl) ?_
  refine va_get (D := (dC, dI)) (ci := 10) (v := .ref xt) (C := RX10) (T := TX10) (N := 13) hx hb hts iX10_writeBytes_X10 hown hK.1 hP 0 rfl rfl 3 (by decide) (kX10_writeBytes_2 hts) (fun _ h9 => h9) rfl dX10_writeBytes_18 ?_
  refine lv_aload_n hx hb dX10_writeBytes_21 rfl (lv_at hl 1 rfl) ?_
  refine va_get (D := (dC, dI)) (ci := 10) (v := .int 18) (C := RX10) (T := TX10) (N := 13) hx hb hts iX10_writeBytes_X10 hown hK.1 hP 0 rfl rfl 4 (by decide) (kX10_writeBytes_1 hts) (fun _ h9 => h9) rfl dX10_writeBytes_22 ?_
  refine lv_iload_n hx hb dX10_writeBytes_25 rfl (lv_at hl 2 rfl) ?_
  refine lv_iload_n hx hb dX10_writeBytes_26 rfl (lv_at hl 0 rfl) ?_
  refine lv_iushr hx hb dX10_writeBytes_27 rfl ?_
  refine lv_topi (fun x11 ex11 => ?_)
  refine lv_sipush (v := 255) hx hb dX10_writeBytes_28 (by decide) ?_
  refine lv_iand hx hb dX10_writeBytes_31 ?_
  refine va_iast hx hb hK.1 hP hD hS 1 0 rfl rfl (vpd (by decide)) dX10_writeBytes_32 (fun H locs hP hD hS => ?_)
  have hP : va_P (dC, dI) vwCl [(x0, .inr (10, [.ref xw, .ref xl, .ref xi, .ref xt, .int 18, .ref xq, .int 0, .ref xr, .ref xh, .ref xp, .ref xs_, .ref xa, .ref xm])), (xt, .inl (kA 0, 400, .inl (upd f8 (18 : Int32).toNatClampNeg (x11 &&& 255))))] H := hP
  have hD : va_D A [(x0, .inr (10, [.ref xw, .ref xl, .ref xi, .ref xt, .int 18, .ref xq, .int 0, .ref xr, .ref xh, .ref xp, .ref xs_, .ref xa, .ref xm])), (xt, .inl (kA 0, 400, .inl (upd f8 (18 : Int32).toNatClampNeg (x11 &&& 255))))] := hD
  obtain ⟨f12, ef12⟩ : ∃ y : Nat → Int32, y = (upd f8 (18 : Int32).toNatClampNeg (x11 &&& 255)) := ⟨_, rfl⟩
  rw [← ef12] at hP hD
  refine lv_aload_n hx hb dX10_writeBytes_33 rfl (lv_at hl 1 rfl) ?_
  refine lv_dup hx hb dX10_writeBytes_34 rfl ?_
  refine va_get (D := (dC, dI)) (ci := 10) (v := .int 18) (C := RX10) (T := TX10) (N := 13) hx hb hts iX10_writeBytes_X10 hown hK.1 hP 0 rfl rfl 4 (by decide) (kX10_writeBytes_1 hts) (fun _ h9 => h9) rfl dX10_writeBytes_35 ?_
  refine lv_iconst (v := 1) hx hb dX10_writeBytes_38 (by decide) ?_
  refine lv_iadd hx hb dX10_writeBytes_39 ?_
  refine zi 19 (by decide) ?_
  refine va_put (D := (dC, dI)) (ci := 10) (v := .int 19) (ty := .int) (C := RX10) (T := TX10) (N := 13) hx hb hts iX10_writeBytes_X10 tyX10 tyX10_ok nmX10 hown hK.1 hP hD hS 0 rfl rfl 4 (by decide) (kX10_writeBytes_1 hts) (fun _ h9 => h9) rfl (by decide +kernel) rfl rfl (Nat.le_of_ble_eq_true rfl) dX10_writeBytes_40 (fun H locs hP hD hS => ?_)
  have hP : va_P (dC, dI) vwCl [(x0, .inr (10, [.ref xw, .ref xl, .ref xi, .ref xt, .int 19, .ref xq, .int 0, .ref xr, .ref xh, .ref xp, .ref xs_, .ref xa, .ref xm])), (xt, .inl (kA 0, 400, .inl f12))] H := hP
  have hD : va_D A [(x0, .inr (10, [.ref xw, .ref xl, .ref xi, .ref xt, .int 19, .ref xq, .int 0, .ref xr, .ref xh, .ref xp, .ref xs_, .ref xa, .ref xm])), (xt, .inl (kA 0, 400, .inl f12))] := hD
  refine lv_iinc (v := 0) (lv' := [(2, .int 0), (0, .ref x0), (1, .int v)]) hx hb dX10_writeBytes_43 hl (k := 0) rfl (by decide) (by decide) rfl (fun ls hl => ?_)
  refine lv_goto (tgt := 3) hx hb dX10_writeBytes_46 (by decide) ?_
  refine lv_iload_n hx hb dX10_writeBytes_3 rfl (lv_at hl 0 rfl) ?_
  refine lv_if_lt (tgt := 49) hx hb dX10_writeBytes_4 (by decide) (fun c_13 => absurd c_13 (by decide)) (fun _ => ?_)
  refine lv_aload_n hx hb dX10_writeBytes_7 rfl (lv_at hl 1 rfl) ?_
  refine va_get (D := (dC, dI)) (ci := 10) (v := .int 19) (C := RX10) (T := TX10) (N := 13) hx hb hts iX10_writeBytes_X10 hown hK.1 hP 0 rfl rfl 4 (by decide) (kX10_writeBytes_1 hts) (fun _ h9 => h9) rfl dX10_writeBytes_8 ?_
  refine lv_sipush (v := 400) hx hb dX10_writeBytes_11 (by decide) ?_
  refine lv_icmp_ge (tgt := 43) hx hb dX10_writeBytes_14 (by decide) (fun c_14 => absurd c_14 (by decide)) (fun _ => ?_)
  refine lv_aload_n hx hb dX10_writeBytes_17 rfl (lv_at hl 1 rfl) ?_
  refine va_get (D := (dC, dI)) (ci := 10) (v := .ref xt) (C := RX10) (T := TX10) (N := 13) hx hb hts iX10_writeBytes_X10 hown hK.1 hP 0 rfl rfl 3 (by decide) (kX10_writeBytes_2 hts) (fun _ h9 => h9) rfl dX10_writeBytes_18 ?_
  refine lv_aload_n hx hb dX10_writeBytes_21 rfl (lv_at hl 1 rfl) ?_
  refine va_get (D := (dC, dI)) (ci := 10) (v := .int 19) (C := RX10) (T := TX10) (N := 13) hx hb hts iX10_writeBytes_X10 hown hK.1 hP 0 rfl rfl 4 (by decide) (kX10_writeBytes_1 hts) (fun _ h9 => h9) rfl dX10_writeBytes_22 ?_
  refine lv_iload_n hx hb dX10_writeBytes_25 rfl (lv_at hl 2 rfl) ?_
  refine lv_iload_n hx hb dX10_writeBytes_26 rfl (lv_at hl 0 rfl) ?_
  refine lv_iushr hx hb dX10_writeBytes_27 rfl ?_
  refine lv_topi (fun x15 ex15 => ?_)
  refine lv_sipush (v := 255) hx hb dX10_writeBytes_28 (by decide) ?_
  refine lv_iand hx hb dX10_writeBytes_31 ?_
  refine va_iast hx hb hK.1 hP hD hS 1 0 rfl rfl (vpd (by decide)) dX10_writeBytes_32 (fun H locs hP hD hS => ?_)
  have hP : va_P (dC, dI) vwCl [(x0, .inr (10, [.ref xw, .ref xl, .ref xi, .ref xt, .int 19, .ref xq, .int 0, .ref xr, .ref xh, .ref xp, .ref xs_, .ref xa, .ref xm])), (xt, .inl (kA 0, 400, .inl (upd f12 (19 : Int32).toNatClampNeg (x15 &&& 255))))] H := hP
  have hD : va_D A [(x0, .inr (10, [.ref xw, .ref xl, .ref xi, .ref xt, .int 19, .ref xq, .int 0, .ref xr, .ref xh, .ref xp, .ref xs_, .ref xa, .ref xm])), (xt, .inl (kA 0, 400, .inl (upd f12 (19 : Int32).toNatClampNeg (x15 &&& 255))))] := hD
  obtain ⟨f16, ef16⟩ : ∃ y : Nat → Int32, y = (upd f12 (19 : Int32).toNatClampNeg (x15 &&& 255)) := ⟨_, rfl⟩
  rw [← ef16] at hP hD
  refine lv_aload_n hx hb dX10_writeBytes_33 rfl (lv_at hl 1 rfl) ?_
  refine lv_dup hx hb dX10_writeBytes_34 rfl ?_
  refine va_get (D := (dC, dI)) (ci := 10) (v := .int 19) (C := RX10) (T := TX10) (N := 13) hx hb hts iX10_writeBytes_X10 hown hK.1 hP 0 rfl rfl 4 (by decide) (kX10_writeBytes_1 hts) (fun _ h9 => h9) rfl dX10_writeBytes_35 ?_
  refine lv_iconst (v := 1) hx hb dX10_writeBytes_38 (by decide) ?_
  refine lv_iadd hx hb dX10_writeBytes_39 ?_
  refine zi 20 (by decide) ?_
  refine va_put (D := (dC, dI)) (ci := 10) (v := .int 20) (ty := .int) (C := RX10) (T := TX10) (N := 13) hx hb hts iX10_writeBytes_X10 tyX10 tyX10_ok nmX10 hown hK.1 hP hD hS 0 rfl rfl 4 (by decide) (kX10_writeBytes_1 hts) (fun _ h9 => h9) rfl (by decide +kernel) rfl rfl (Nat.le_of_ble_eq_true rfl) dX10_writeBytes_40 (fun H locs hP hD hS => ?_)
  have hP : va_P (dC, dI) vwCl [(x0, .inr (10, [.ref xw, .ref xl, .ref xi, .ref xt, .int 20, .ref xq, .int 0, .ref xr, .ref xh, .ref xp, .ref xs_, .ref xa, .ref xm])), (xt, .inl (kA 0, 400, .inl f16))] H := hP
  have hD : va_D A [(x0, .inr (10, [.ref xw, .ref xl, .ref xi, .ref xt, .int 20, .ref xq, .int 0, .ref xr, .ref xh, .ref xp, .ref xs_, .ref xa, .ref xm])), (xt, .inl (kA 0, 400, .inl f16))] := hD
  refine lv_iinc (v := (-8)) (lv' := [(2, .int (-8)), (0, .ref x0), (1, .int v)]) hx hb dX10_writeBytes_43 hl (k := 0) rfl (by decide) (by decide) rfl (fun ls hl => ?_)
  refine lv_goto (tgt := 3) hx hb dX10_writeBytes_46 (by decide) ?_
  refine lv_iload_n hx hb dX10_writeBytes_3 rfl (lv_at hl 0 rfl) ?_
  refine lv_if_lt (tgt := 49) hx hb dX10_writeBytes_4 (by decide) (fun _ => ?_) (fun c_17 => absurd (by decide) c_17)
  have hP9 := hP.sub (ws' := [(x0, .inr (10, [.ref xw, .ref xl, .ref xi, .ref xt, .int 20, .ref xq, .int 0, .ref xr, .ref xh, .ref xp, .ref xs_, .ref xa, .ref xm])), (xt, .inl (kA 0, 400, .inl f16))]) [0, 1] rfl
  have hD9 := hD.sub (ws' := [(x0, .inr (10, [.ref xw, .ref xl, .ref xi, .ref xt, .int 20, .ref xq, .int 0, .ref xr, .ref xh, .ref xp, .ref xs_, .ref xa, .ref xm])), (xt, .inl (kA 0, 400, .inl f16))]) [0, 1] (by decide) rfl
  refine W.widen (k := 0) (n := 0) (Nat.le_of_ble_eq_true rfl) (Nat.le_of_ble_eq_true rfl) ?_
  exact W.vret hx hb hr (fun t ht hW => ⟨⟨(f16), rfl, trivial, by rw [ht]; exact hP9, hD9⟩, hS.F ht⟩) hS.2.2 dX10_writeBytes_49
set_option maxHeartbeats 4000000 in
set_option maxRecDepth 100000 in
theorem mX10_isCover (l : Launch) (dC : Nat → ClassId) (dI : Nat → Nat → Nat) (kA : Nat → ClassId) (sz : Nat) (a : Int32) (b : Int32)  : Met l yX10_isCover wsX10_isCover ({ frames := 1, cells := 0, slots := 0, locals := 21 }) (zPc dC dI kA sz [.int a, .int b] []) (va_Qi (fun (r : Int32) (u : Int32) => r = u) (zB dC dI (va_A [] sz) (fun (u : Int32) => [])) (va_A [] sz)) 0 0 (va_A [] sz) := by
  refine Met.ofW (cc := cX10_isCover) (maxL := 2) (ret := (some .boolean)) (by decide) rfl ?_
  intro p e s m args below meth c s₁ B hml hv
  obtain ⟨rfl, hsz, hP, hK, hD0⟩ := hv
  have hx := B.exec
  have hb := B.bytes
  have hr := B.returns
  have hts := atoms_spec (ws := wsX10_isCover) B.pre
  have hown : s.vm.findClass RX10 = some m.cls := findClass_of_methodNamed B.named
  have hlocks := B.notSynchronized
  subst hsz
  have hD := hD0.self (sz := s.heap.size)
  generalize hAe : va_A [] s.heap.size = A at hD ⊢
  have hA : ∀ q : Nat, s.heap.size ≤ q → A q := fun q h => by rw [← hAe]; exact Or.inr h
  have hS : va_S A s.heap s.heap [] := va_S.rf
  have hP : va_P (dC, dI) vwCl [] s.heap := hP
  have hl := lv_entry ([.int a, .int b]) (n := 2) (Nat.le_of_ble_eq_true rfl)
  rw [lg_entry_eq]
  generalize (lg_sl ([.int a, .int b]) ++ List.replicate (2 - (lg_sl ([.int a, .int b])).length) Slot.unset).toArray = ls at hl ⊢
  have hl : lv_has ls 2 [(0, .int a), (1, .int b)] := hl
  refine lv_iload_n hx hb dX10_isCover_0 rfl (lv_at hl 0 rfl) ?_
  refine lv_bipush (v := 9) hx hb dX10_isCover_1 (by decide) ?_
  refine z_i (wr := []) (va_runS (As := [.int a, .int 9]) (rest := []) ⟨hx, hb, hml, hown, hts⟩ (mX10_within l dC dI kA _ a 9) (va_cwS 2 hts gX10_isCover_X10_within rfl rfl rfl (by decide +kernel) ⟨(Nat.le_of_ble_eq_true rfl), (Nat.le_of_ble_eq_true rfl)⟩) ⟨zPc.blind, zPre hK (hP.sub [] rfl) (hD.sub [] (by decide) rfl)⟩ rfl rfl hl.1 rfl (lv_room (Nat.le_of_ble_eq_true rfl)) dX10_isCover_3 ⟨(Nat.le_of_ble_eq_true rfl), (Nat.le_of_ble_eq_true rfl)⟩) hP hD hS hA [] [] rfl rfl (by decide) (by decide) (fun r3 u1 H locs hw2 hP hD hS => ?_)
  obtain rfl := hw2
  have hP : va_P (dC, dI) vwCl [] H := hP
  have hD : va_D A [] := hD
  refine lv_if_eq (tgt := 22) hx hb dX10_isCover_6 (by decide) (fun c_4 => ?_) (fun c_4 => ?_)
  · refine lv_iconst (v := 0) hx hb dX10_isCover_22 (by decide) ?_
    have hP9 := hP.sub (ws' := []) [] rfl
    have hD9 := hD.sub (ws' := []) [] (by decide) rfl
    refine W.widen (k := 0) (n := 0) (Nat.le_of_ble_eq_true rfl) (Nat.le_of_ble_eq_true rfl) ?_
    exact W.zret (v := 0) hx hb hr rfl (fun t ht hW => ⟨⟨0, (0), rfl, rfl, by rw [ht]; exact hP9, hD9⟩, hS.F ht⟩) hS.2.2 dX10_isCover_23
  · refine lv_iload_n hx hb dX10_isCover_9 rfl (lv_at hl 1 rfl) ?_
    refine lv_bipush (v := 9) hx hb dX10_isCover_10 (by decide) ?_
    refine z_i (wr := []) (va_runS (As := [.int b, .int 9]) (rest := []) ⟨hx, hb, hml, hown, hts⟩ (mX10_within l dC dI kA _ b 9) (va_cwS 2 hts gX10_isCover_X10_within rfl rfl rfl (by decide +kernel) ⟨(Nat.le_of_ble_eq_true rfl), (Nat.le_of_ble_eq_true rfl)⟩) ⟨zPc.blind, zPre hK (hP.sub [] rfl) (hD.sub [] (by decide) rfl)⟩ rfl rfl hl.1 rfl (lv_room (Nat.le_of_ble_eq_true rfl)) dX10_isCover_12 ⟨(Nat.le_of_ble_eq_true rfl), (Nat.le_of_ble_eq_true rfl)⟩) hP hD hS hA [] [] rfl rfl (by decide) (by decide) (fun r7 u5 H locs hw6 hP hD hS => ?_)
    obtain rfl := hw6
    have hP : va_P (dC, dI) vwCl [] H := hP
    have hD : va_D A [] := hD
    refine lv_if_eq (tgt := 22) hx hb dX10_isCover_15 (by decide) (fun c_8 => ?_) (fun c_8 => ?_)
    · refine lv_iconst (v := 0) hx hb dX10_isCover_22 (by decide) ?_
      have hP9 := hP.sub (ws' := []) [] rfl
      have hD9 := hD.sub (ws' := []) [] (by decide) rfl
      refine W.widen (k := 0) (n := 0) (Nat.le_of_ble_eq_true rfl) (Nat.le_of_ble_eq_true rfl) ?_
      exact W.zret (v := 0) hx hb hr rfl (fun t ht hW => ⟨⟨0, (0), rfl, rfl, by rw [ht]; exact hP9, hD9⟩, hS.F ht⟩) hS.2.2 dX10_isCover_23
    · refine lv_iconst (v := 1) hx hb dX10_isCover_18 (by decide) ?_
      refine lv_goto (tgt := 23) hx hb dX10_isCover_19 (by decide) ?_
      have hP9 := hP.sub (ws' := []) [] rfl
      have hD9 := hD.sub (ws' := []) [] (by decide) rfl
      refine W.widen (k := 0) (n := 0) (Nat.le_of_ble_eq_true rfl) (Nat.le_of_ble_eq_true rfl) ?_
      exact W.zret (v := 1) hx hb hr rfl (fun t ht hW => ⟨⟨1, (1), rfl, rfl, by rw [ht]; exact hP9, hD9⟩, hS.F ht⟩) hS.2.2 dX10_isCover_23
set_option maxHeartbeats 4000000 in
set_option maxRecDepth 100000 in
theorem mX10_isLoad (l : Launch) (dC : Nat → ClassId) (dI : Nat → Nat → Nat) (kA : Nat → ClassId) (sz : Nat) (a : Int32) (b : Int32) (d : Int32) (f : Int32)  : Met l yX10_isLoad wsX10_isLoad ({ frames := 2, cells := 0, slots := 0, locals := 42 }) (zPc dC dI kA sz [.int a, .int b, .int d, .int f] []) (va_Qi (fun (r : Int32) (u : Int32) => r = u) (zB dC dI (va_A [] sz) (fun (u : Int32) => [])) (va_A [] sz)) 0 0 (va_A [] sz) := by
  refine Met.ofW (cc := cX10_isLoad) (maxL := 4) (ret := (some .boolean)) (by decide) rfl ?_
  intro p e s m args below meth c s₁ B hml hv
  obtain ⟨rfl, hsz, hP, hK, hD0⟩ := hv
  have hx := B.exec
  have hb := B.bytes
  have hr := B.returns
  have hts := atoms_spec (ws := wsX10_isLoad) B.pre
  have hown : s.vm.findClass RX10 = some m.cls := findClass_of_methodNamed B.named
  have hlocks := B.notSynchronized
  subst hsz
  have hD := hD0.self (sz := s.heap.size)
  generalize hAe : va_A [] s.heap.size = A at hD ⊢
  have hA : ∀ q : Nat, s.heap.size ≤ q → A q := fun q h => by rw [← hAe]; exact Or.inr h
  have hS : va_S A s.heap s.heap [] := va_S.rf
  have hP : va_P (dC, dI) vwCl [] s.heap := hP
  have hl := lv_entry ([.int a, .int b, .int d, .int f]) (n := 4) (Nat.le_of_ble_eq_true rfl)
  rw [lg_entry_eq]
  generalize (lg_sl ([.int a, .int b, .int d, .int f]) ++ List.replicate (4 - (lg_sl ([.int a, .int b, .int d, .int f])).length) Slot.unset).toArray = ls at hl ⊢
  have hl : lv_has ls 4 [(0, .int a), (1, .int b), (2, .int d), (3, .int f)] := hl
  refine lv_iload_n hx hb dX10_isLoad_0 rfl (lv_at hl 0 rfl) ?_
  refine lv_ldc hx hb hown (kX10_isLoad_1 hts) dX10_isLoad_1 ?_
  refine z_i (wr := []) (va_runS (As := [.int a, .int 99999]) (rest := []) ⟨hx, hb, hml, hown, hts⟩ (mX10_within l dC dI kA _ a 99999) (va_cwS 2 hts gX10_isLoad_X10_within rfl rfl rfl (by decide +kernel) ⟨(Nat.le_of_ble_eq_true rfl), (Nat.le_of_ble_eq_true rfl)⟩) ⟨zPc.blind, zPre hK (hP.sub [] rfl) (hD.sub [] (by decide) rfl)⟩ rfl rfl hl.1 rfl (lv_room (Nat.le_of_ble_eq_true rfl)) dX10_isLoad_3 ⟨(Nat.le_of_ble_eq_true rfl), (Nat.le_of_ble_eq_true rfl)⟩) hP hD hS hA [] [] rfl rfl (by decide) (by decide) (fun r3 u1 H locs hw2 hP hD hS => ?_)
  obtain rfl := hw2
  have hP : va_P (dC, dI) vwCl [] H := hP
  have hD : va_D A [] := hD
  refine lv_if_eq (tgt := 30) hx hb dX10_isLoad_6 (by decide) (fun c_4 => ?_) (fun c_4 => ?_)
  · refine lv_iconst (v := 0) hx hb dX10_isLoad_30 (by decide) ?_
    have hP9 := hP.sub (ws' := []) [] rfl
    have hD9 := hD.sub (ws' := []) [] (by decide) rfl
    refine W.widen (k := 0) (n := 0) (Nat.le_of_ble_eq_true rfl) (Nat.le_of_ble_eq_true rfl) ?_
    exact W.zret (v := 0) hx hb hr rfl (fun t ht hW => ⟨⟨0, (0), rfl, rfl, by rw [ht]; exact hP9, hD9⟩, hS.F ht⟩) hS.2.2 dX10_isLoad_31
  · refine lv_iload_n hx hb dX10_isLoad_9 rfl (lv_at hl 1 rfl) ?_
    refine lv_ldc hx hb hown (kX10_isLoad_1 hts) dX10_isLoad_10 ?_
    refine z_i (wr := []) (va_runS (As := [.int b, .int 99999]) (rest := []) ⟨hx, hb, hml, hown, hts⟩ (mX10_within l dC dI kA _ b 99999) (va_cwS 2 hts gX10_isLoad_X10_within rfl rfl rfl (by decide +kernel) ⟨(Nat.le_of_ble_eq_true rfl), (Nat.le_of_ble_eq_true rfl)⟩) ⟨zPc.blind, zPre hK (hP.sub [] rfl) (hD.sub [] (by decide) rfl)⟩ rfl rfl hl.1 rfl (lv_room (Nat.le_of_ble_eq_true rfl)) dX10_isLoad_12 ⟨(Nat.le_of_ble_eq_true rfl), (Nat.le_of_ble_eq_true rfl)⟩) hP hD hS hA [] [] rfl rfl (by decide) (by decide) (fun r7 u5 H locs hw6 hP hD hS => ?_)
    obtain rfl := hw6
    have hP : va_P (dC, dI) vwCl [] H := hP
    have hD : va_D A [] := hD
    refine lv_if_eq (tgt := 30) hx hb dX10_isLoad_15 (by decide) (fun c_8 => ?_) (fun c_8 => ?_)
    · refine lv_iconst (v := 0) hx hb dX10_isLoad_30 (by decide) ?_
      have hP9 := hP.sub (ws' := []) [] rfl
      have hD9 := hD.sub (ws' := []) [] (by decide) rfl
      refine W.widen (k := 0) (n := 0) (Nat.le_of_ble_eq_true rfl) (Nat.le_of_ble_eq_true rfl) ?_
      exact W.zret (v := 0) hx hb hr rfl (fun t ht hW => ⟨⟨0, (0), rfl, rfl, by rw [ht]; exact hP9, hD9⟩, hS.F ht⟩) hS.2.2 dX10_isLoad_31
    · refine lv_iload_n hx hb dX10_isLoad_18 rfl (lv_at hl 2 rfl) ?_
      refine lv_iload_n hx hb dX10_isLoad_19 rfl (lv_at hl 3 rfl) ?_
      refine z_i (wr := []) (va_runS (As := [.int d, .int f]) (rest := []) ⟨hx, hb, hml, hown, hts⟩ (mX10_isCover l dC dI kA _ d f) (va_cwS 2 hts gX10_isLoad_X10_isCover rfl rfl rfl (by decide +kernel) ⟨(Nat.le_of_ble_eq_true rfl), (Nat.le_of_ble_eq_true rfl)⟩) ⟨zPc.blind, zPre hK (hP.sub [] rfl) (hD.sub [] (by decide) rfl)⟩ rfl rfl hl.1 rfl (lv_room (Nat.le_of_ble_eq_true rfl)) dX10_isLoad_20 ⟨(Nat.le_of_ble_eq_true rfl), (Nat.le_of_ble_eq_true rfl)⟩) hP hD hS hA [] [] rfl rfl (by decide) (by decide) (fun r11 u9 H locs hw10 hP hD hS => ?_)
      obtain ⟨q_12, rfl⟩ : ∃ z, z = u9 := ⟨_, rfl⟩
      obtain rfl := hw10
      have hP : va_P (dC, dI) vwCl [] H := hP
      have hD : va_D A [] := hD
      refine lv_if_eq (tgt := 30) hx hb dX10_isLoad_23 (by decide) (fun c_13 => ?_) (fun c_13 => ?_)
      · refine lv_iconst (v := 0) hx hb dX10_isLoad_30 (by decide) ?_
        have hP9 := hP.sub (ws' := []) [] rfl
        have hD9 := hD.sub (ws' := []) [] (by decide) rfl
        refine W.widen (k := 0) (n := 0) (Nat.le_of_ble_eq_true rfl) (Nat.le_of_ble_eq_true rfl) ?_
        exact W.zret (v := 0) hx hb hr rfl (fun t ht hW => ⟨⟨0, (0), rfl, rfl, by rw [ht]; exact hP9, hD9⟩, hS.F ht⟩) hS.2.2 dX10_isLoad_31
      · refine lv_iconst (v := 1) hx hb dX10_isLoad_26 (by decide) ?_
        refine lv_goto (tgt := 31) hx hb dX10_isLoad_27 (by decide) ?_
        have hP9 := hP.sub (ws' := []) [] rfl
        have hD9 := hD.sub (ws' := []) [] (by decide) rfl
        refine W.widen (k := 0) (n := 0) (Nat.le_of_ble_eq_true rfl) (Nat.le_of_ble_eq_true rfl) ?_
        exact W.zret (v := 1) hx hb hr rfl (fun t ht hW => ⟨⟨1, (1), rfl, rfl, by rw [ht]; exact hP9, hD9⟩, hS.F ht⟩) hS.2.2 dX10_isLoad_31
set_option maxHeartbeats 4000000 in
set_option maxRecDepth 100000 in
theorem mX10_isWish (l : Launch) (dC : Nat → ClassId) (dI : Nat → Nat → Nat) (kA : Nat → ClassId) (sz : Nat) (a : Int32)  : Met l yX10_isWish wsX10_isWish ({ frames := 0, cells := 0, slots := 0, locals := 0 }) (zPc dC dI kA sz [.int a] []) (va_Qi (fun (r : Int32) (u : Int32) => r = u) (zB dC dI (va_A [] sz) (fun (u : Int32) => [])) (va_A [] sz)) 0 0 (va_A [] sz) := by
  refine Met.ofW (cc := cX10_isWish) (maxL := 1) (ret := (some .boolean)) (by decide) rfl ?_
  intro p e s m args below meth c s₁ B hml hv
  obtain ⟨rfl, hsz, hP, hK, hD0⟩ := hv
  have hx := B.exec
  have hb := B.bytes
  have hr := B.returns
  have hts := atoms_spec (ws := wsX10_isWish) B.pre
  have hown : s.vm.findClass RX10 = some m.cls := findClass_of_methodNamed B.named
  have hlocks := B.notSynchronized
  subst hsz
  have hD := hD0.self (sz := s.heap.size)
  generalize hAe : va_A [] s.heap.size = A at hD ⊢
  have hA : ∀ q : Nat, s.heap.size ≤ q → A q := fun q h => by rw [← hAe]; exact Or.inr h
  have hS : va_S A s.heap s.heap [] := va_S.rf
  have hP : va_P (dC, dI) vwCl [] s.heap := hP
  have hl := lv_entry ([.int a]) (n := 1) (Nat.le_of_ble_eq_true rfl)
  rw [lg_entry_eq]
  generalize (lg_sl ([.int a]) ++ List.replicate (1 - (lg_sl ([.int a])).length) Slot.unset).toArray = ls at hl ⊢
  have hl : lv_has ls 1 [(0, .int a)] := hl
  refine lv_iload_n hx hb dX10_isWish_0 rfl (lv_at hl 0 rfl) ?_
  refine lv_iconst (v := 1) hx hb dX10_isWish_1 (by decide) ?_
  refine lv_icmp_lt (tgt := 15) hx hb dX10_isWish_2 (by decide) (fun c_1 => ?_) (fun c_1 => ?_)
  · refine lv_iconst (v := 0) hx hb dX10_isWish_15 (by decide) ?_
    have hP9 := hP.sub (ws' := []) [] rfl
    have hD9 := hD.sub (ws' := []) [] (by decide) rfl
    refine W.widen (k := 0) (n := 0) (Nat.le_of_ble_eq_true rfl) (Nat.le_of_ble_eq_true rfl) ?_
    exact W.zret (v := 0) hx hb hr rfl (fun t ht hW => ⟨⟨0, (0), rfl, rfl, by rw [ht]; exact hP9, hD9⟩, hS.F ht⟩) hS.2.2 dX10_isWish_16
  · refine lv_iload_n hx hb dX10_isWish_5 rfl (lv_at hl 0 rfl) ?_
    refine lv_ldc hx hb hown (kX10_isWish_1 hts) dX10_isWish_6 ?_
    refine lv_icmp_gt (tgt := 15) hx hb dX10_isWish_8 (by decide) (fun c_2 => ?_) (fun c_2 => ?_)
    · refine lv_iconst (v := 0) hx hb dX10_isWish_15 (by decide) ?_
      have hP9 := hP.sub (ws' := []) [] rfl
      have hD9 := hD.sub (ws' := []) [] (by decide) rfl
      refine W.widen (k := 0) (n := 0) (Nat.le_of_ble_eq_true rfl) (Nat.le_of_ble_eq_true rfl) ?_
      exact W.zret (v := 0) hx hb hr rfl (fun t ht hW => ⟨⟨0, (0), rfl, rfl, by rw [ht]; exact hP9, hD9⟩, hS.F ht⟩) hS.2.2 dX10_isWish_16
    · refine lv_iconst (v := 1) hx hb dX10_isWish_11 (by decide) ?_
      refine lv_goto (tgt := 16) hx hb dX10_isWish_12 (by decide) ?_
      have hP9 := hP.sub (ws' := []) [] rfl
      have hD9 := hD.sub (ws' := []) [] (by decide) rfl
      refine W.widen (k := 0) (n := 0) (Nat.le_of_ble_eq_true rfl) (Nat.le_of_ble_eq_true rfl) ?_
      exact W.zret (v := 1) hx hb hr rfl (fun t ht hW => ⟨⟨1, (1), rfl, rfl, by rw [ht]; exact hP9, hD9⟩, hS.F ht⟩) hS.2.2 dX10_isWish_16
set_option maxHeartbeats 4000000 in
set_option maxRecDepth 100000 in
theorem mX2_addToken (l : Launch) (dC : Nat → ClassId) (dI : Nat → Nat → Nat) (kA : Nat → ClassId) (sz : Nat) (xr : Nat) (tk : Nat) (pl : Nat) (rl : Nat)  : Met l yX2_addToken wsX2_addToken ({ frames := 0, cells := 0, slots := 0, locals := 0 }) (zPc dC dI kA sz [.ref xr, .int 258, .int 0] [(xr, .inr (2, [.ref tk, .ref pl, .int 0, .int 0, .int 0, .int 0, .int 0, .ref rl])), (tk, .inl (kA 0, 401, .inl (fun _ => 0))), (pl, .inl (kA 0, 401, .inl (fun _ => 0)))]) (va_Qv (fun (u : Unit) => True) (zB dC dI (va_A [(xr, .inr (2, [.ref tk, .ref pl, .int 0, .int 0, .int 0, .int 0, .int 0, .ref rl])), (tk, .inl (kA 0, 401, .inl (fun _ => 0))), (pl, .inl (kA 0, 401, .inl (fun _ => 0)))] sz) (fun (u : Unit) => [(xr, .inr (2, [.ref tk, .ref pl, .int 1, .int 0, .int 0, .int 0, .int 0, .ref rl])), (tk, .inl (kA 0, 401, .inl (upd (fun _ => 0) (0 : Int32).toNatClampNeg 258))), (pl, .inl (kA 0, 401, .inl (upd (fun _ => 0) (0 : Int32).toNatClampNeg 0)))])) (va_A [(xr, .inr (2, [.ref tk, .ref pl, .int 0, .int 0, .int 0, .int 0, .int 0, .ref rl])), (tk, .inl (kA 0, 401, .inl (fun _ => 0))), (pl, .inl (kA 0, 401, .inl (fun _ => 0)))] sz)) 0 0 (va_A [(xr, .inr (2, [.ref tk, .ref pl, .int 0, .int 0, .int 0, .int 0, .int 0, .ref rl])), (tk, .inl (kA 0, 401, .inl (fun _ => 0))), (pl, .inl (kA 0, 401, .inl (fun _ => 0)))] sz) := by
  refine Met.ofW (cc := cX2_addToken) (maxL := 3) (ret := none) (by decide) rfl ?_
  intro p e s m args below meth c s₁ B hml hv
  obtain ⟨rfl, hsz, hP, hK, hD0⟩ := hv
  have hx := B.exec
  have hb := B.bytes
  have hr := B.returns
  have hts := atoms_spec (ws := wsX2_addToken) B.pre
  have hown : s.vm.findClass RX2 = some m.cls := findClass_of_methodNamed B.named
  have hlocks := B.notSynchronized
  subst hsz
  have hD := hD0.self (sz := s.heap.size)
  generalize hAe : va_A [(xr, .inr (2, [.ref tk, .ref pl, .int 0, .int 0, .int 0, .int 0, .int 0, .ref rl])), (tk, .inl (kA 0, 401, .inl (fun _ => 0))), (pl, .inl (kA 0, 401, .inl (fun _ => 0)))] s.heap.size = A at hD ⊢
  have hA : ∀ q : Nat, s.heap.size ≤ q → A q := fun q h => by rw [← hAe]; exact Or.inr h
  have hS : va_S A s.heap s.heap [] := va_S.rf
  have hP : va_P (dC, dI) vwCl [(xr, .inr (2, [.ref tk, .ref pl, .int 0, .int 0, .int 0, .int 0, .int 0, .ref rl])), (tk, .inl (kA 0, 401, .inl (fun _ => 0))), (pl, .inl (kA 0, 401, .inl (fun _ => 0)))] s.heap := hP
  have hl := lv_entry ([.ref xr, .int 258, .int 0]) (n := 3) (Nat.le_of_ble_eq_true rfl)
  rw [lg_entry_eq]
  generalize (lg_sl ([.ref xr, .int 258, .int 0]) ++ List.replicate (3 - (lg_sl ([.ref xr, .int 258, .int 0])).length) Slot.unset).toArray = ls at hl ⊢
  have hl : lv_has ls 3 [(0, .ref xr), (1, .int 258), (2, .int 0)] := hl
  refine lv_aload_n hx hb dX2_addToken_0 rfl (lv_at hl 0 rfl) ?_
  refine va_get (D := (dC, dI)) (ci := 2) (v := .int 0) (C := RX2) (T := TX2) (N := 8) hx hb hts iX2_addToken_X2 hown hK.1 hP 0 rfl rfl 2 (by decide) (kX2_addToken_1 hts) (fun _ h9 => h9) rfl dX2_addToken_1 ?_
  refine lv_aload_n hx hb dX2_addToken_4 rfl (lv_at hl 0 rfl) ?_
  refine va_get (D := (dC, dI)) (ci := 2) (v := .ref tk) (C := RX2) (T := TX2) (N := 8) hx hb hts iX2_addToken_X2 hown hK.1 hP 0 rfl rfl 0 (by decide) (kX2_addToken_2 hts) (fun _ h9 => h9) rfl dX2_addToken_5 ?_
  refine va_alen hx hb hK.1 hP 1 0 rfl rfl (v := 401) rfl dX2_addToken_8 ?_
  refine lv_icmp_ge (tgt := 54) hx hb dX2_addToken_9 (by decide) (fun c_1 => absurd c_1 (by decide)) (fun _ => ?_)
  refine lv_aload_n hx hb dX2_addToken_12 rfl (lv_at hl 0 rfl) ?_
  refine va_get (D := (dC, dI)) (ci := 2) (v := .int 0) (C := RX2) (T := TX2) (N := 8) hx hb hts iX2_addToken_X2 hown hK.1 hP 0 rfl rfl 2 (by decide) (kX2_addToken_1 hts) (fun _ h9 => h9) rfl dX2_addToken_13 ?_
  refine lv_aload_n hx hb dX2_addToken_16 rfl (lv_at hl 0 rfl) ?_
  refine va_get (D := (dC, dI)) (ci := 2) (v := .ref pl) (C := RX2) (T := TX2) (N := 8) hx hb hts iX2_addToken_X2 hown hK.1 hP 0 rfl rfl 1 (by decide) (kX2_addToken_3 hts) (fun _ h9 => h9) rfl dX2_addToken_17 ?_
  refine va_alen hx hb hK.1 hP 2 0 rfl rfl (v := 401) rfl dX2_addToken_20 ?_
  refine lv_icmp_ge (tgt := 54) hx hb dX2_addToken_21 (by decide) (fun c_2 => absurd c_2 (by decide)) (fun _ => ?_)
  refine lv_aload_n hx hb dX2_addToken_24 rfl (lv_at hl 0 rfl) ?_
  refine va_get (D := (dC, dI)) (ci := 2) (v := .ref tk) (C := RX2) (T := TX2) (N := 8) hx hb hts iX2_addToken_X2 hown hK.1 hP 0 rfl rfl 0 (by decide) (kX2_addToken_2 hts) (fun _ h9 => h9) rfl dX2_addToken_25 ?_
  refine lv_aload_n hx hb dX2_addToken_28 rfl (lv_at hl 0 rfl) ?_
  refine va_get (D := (dC, dI)) (ci := 2) (v := .int 0) (C := RX2) (T := TX2) (N := 8) hx hb hts iX2_addToken_X2 hown hK.1 hP 0 rfl rfl 2 (by decide) (kX2_addToken_1 hts) (fun _ h9 => h9) rfl dX2_addToken_29 ?_
  refine lv_iload_n hx hb dX2_addToken_32 rfl (lv_at hl 1 rfl) ?_
  refine va_iast hx hb hK.1 hP hD hS 1 0 rfl rfl (vpd (by decide)) dX2_addToken_33 (fun H locs hP hD hS => ?_)
  have hP : va_P (dC, dI) vwCl [(xr, .inr (2, [.ref tk, .ref pl, .int 0, .int 0, .int 0, .int 0, .int 0, .ref rl])), (tk, .inl (kA 0, 401, .inl (upd (fun _ => 0) (0 : Int32).toNatClampNeg 258))), (pl, .inl (kA 0, 401, .inl (fun _ => 0)))] H := hP
  have hD : va_D A [(xr, .inr (2, [.ref tk, .ref pl, .int 0, .int 0, .int 0, .int 0, .int 0, .ref rl])), (tk, .inl (kA 0, 401, .inl (upd (fun _ => 0) (0 : Int32).toNatClampNeg 258))), (pl, .inl (kA 0, 401, .inl (fun _ => 0)))] := hD
  refine lv_aload_n hx hb dX2_addToken_34 rfl (lv_at hl 0 rfl) ?_
  refine va_get (D := (dC, dI)) (ci := 2) (v := .ref pl) (C := RX2) (T := TX2) (N := 8) hx hb hts iX2_addToken_X2 hown hK.1 hP 0 rfl rfl 1 (by decide) (kX2_addToken_3 hts) (fun _ h9 => h9) rfl dX2_addToken_35 ?_
  refine lv_aload_n hx hb dX2_addToken_38 rfl (lv_at hl 0 rfl) ?_
  refine va_get (D := (dC, dI)) (ci := 2) (v := .int 0) (C := RX2) (T := TX2) (N := 8) hx hb hts iX2_addToken_X2 hown hK.1 hP 0 rfl rfl 2 (by decide) (kX2_addToken_1 hts) (fun _ h9 => h9) rfl dX2_addToken_39 ?_
  refine lv_iload_n hx hb dX2_addToken_42 rfl (lv_at hl 2 rfl) ?_
  refine va_iast hx hb hK.1 hP hD hS 2 0 rfl rfl (vpd (by decide)) dX2_addToken_43 (fun H locs hP hD hS => ?_)
  have hP : va_P (dC, dI) vwCl [(xr, .inr (2, [.ref tk, .ref pl, .int 0, .int 0, .int 0, .int 0, .int 0, .ref rl])), (tk, .inl (kA 0, 401, .inl (upd (fun _ => 0) (0 : Int32).toNatClampNeg 258))), (pl, .inl (kA 0, 401, .inl (upd (fun _ => 0) (0 : Int32).toNatClampNeg 0)))] H := hP
  have hD : va_D A [(xr, .inr (2, [.ref tk, .ref pl, .int 0, .int 0, .int 0, .int 0, .int 0, .ref rl])), (tk, .inl (kA 0, 401, .inl (upd (fun _ => 0) (0 : Int32).toNatClampNeg 258))), (pl, .inl (kA 0, 401, .inl (upd (fun _ => 0) (0 : Int32).toNatClampNeg 0)))] := hD
  refine lv_aload_n hx hb dX2_addToken_44 rfl (lv_at hl 0 rfl) ?_
  refine lv_dup hx hb dX2_addToken_45 rfl ?_
  refine va_get (D := (dC, dI)) (ci := 2) (v := .int 0) (C := RX2) (T := TX2) (N := 8) hx hb hts iX2_addToken_X2 hown hK.1 hP 0 rfl rfl 2 (by decide) (kX2_addToken_1 hts) (fun _ h9 => h9) rfl dX2_addToken_46 ?_
  refine lv_iconst (v := 1) hx hb dX2_addToken_49 (by decide) ?_
  refine lv_iadd hx hb dX2_addToken_50 ?_
  refine zi 1 (by decide) ?_
  refine va_put (D := (dC, dI)) (ci := 2) (v := .int 1) (ty := .int) (C := RX2) (T := TX2) (N := 8) hx hb hts iX2_addToken_X2 tyX2 tyX2_ok nmX2 hown hK.1 hP hD hS 0 rfl rfl 2 (by decide) (kX2_addToken_1 hts) (fun _ h9 => h9) rfl (by decide +kernel) rfl rfl (Nat.le_of_ble_eq_true rfl) dX2_addToken_51 (fun H locs hP hD hS => ?_)
  have hP : va_P (dC, dI) vwCl [(xr, .inr (2, [.ref tk, .ref pl, .int 1, .int 0, .int 0, .int 0, .int 0, .ref rl])), (tk, .inl (kA 0, 401, .inl (upd (fun _ => 0) (0 : Int32).toNatClampNeg 258))), (pl, .inl (kA 0, 401, .inl (upd (fun _ => 0) (0 : Int32).toNatClampNeg 0)))] H := hP
  have hD : va_D A [(xr, .inr (2, [.ref tk, .ref pl, .int 1, .int 0, .int 0, .int 0, .int 0, .ref rl])), (tk, .inl (kA 0, 401, .inl (upd (fun _ => 0) (0 : Int32).toNatClampNeg 258))), (pl, .inl (kA 0, 401, .inl (upd (fun _ => 0) (0 : Int32).toNatClampNeg 0)))] := hD
  have hP9 := hP.sub (ws' := [(xr, .inr (2, [.ref tk, .ref pl, .int 1, .int 0, .int 0, .int 0, .int 0, .ref rl])), (tk, .inl (kA 0, 401, .inl (upd (fun _ => 0) (0 : Int32).toNatClampNeg 258))), (pl, .inl (kA 0, 401, .inl (upd (fun _ => 0) (0 : Int32).toNatClampNeg 0)))]) [0, 1, 2] rfl
  have hD9 := hD.sub (ws' := [(xr, .inr (2, [.ref tk, .ref pl, .int 1, .int 0, .int 0, .int 0, .int 0, .ref rl])), (tk, .inl (kA 0, 401, .inl (upd (fun _ => 0) (0 : Int32).toNatClampNeg 258))), (pl, .inl (kA 0, 401, .inl (upd (fun _ => 0) (0 : Int32).toNatClampNeg 0)))]) [0, 1, 2] (by decide) rfl
  refine W.widen (k := 0) (n := 0) (Nat.le_of_ble_eq_true rfl) (Nat.le_of_ble_eq_true rfl) ?_
  exact W.vret hx hb hr (fun t ht hW => ⟨⟨(), rfl, trivial, by rw [ht]; exact hP9, hD9⟩, hS.F ht⟩) hS.2.2 dX2_addToken_54
set_option maxHeartbeats 4000000 in
set_option maxRecDepth 100000 in
theorem mX2_cut (l : Launch) (dC : Nat → ClassId) (dI : Nat → Nat → Nat) (kA : Nat → ClassId) (sz : Nat) (xr : Nat) (tk : Nat) (pl : Nat) (rl : Nat) (xt : Nat)  : Met l yX2_cut wsX2_cut ({ frames := 1, cells := 0, slots := 0, locals := 22 }) (zPc dC dI kA sz [.ref xr, .ref xt, .int 0] [(xr, .inr (2, [.ref tk, .ref pl, .int 0, .int 0, .int 0, .int 0, .int 0, .ref rl])), (tk, .inl (kA 0, 401, .inl (fun _ => 0))), (pl, .inl (kA 0, 401, .inl (fun _ => 0)))]) (va_Qv (fun (u : Unit) => True) (zB dC dI (va_A [(xr, .inr (2, [.ref tk, .ref pl, .int 0, .int 0, .int 0, .int 0, .int 0, .ref rl])), (tk, .inl (kA 0, 401, .inl (fun _ => 0))), (pl, .inl (kA 0, 401, .inl (fun _ => 0)))] sz) (fun (u : Unit) => [(xr, .inr (2, [.ref tk, .ref pl, .int 1, .int 0, .int 0, .int 0, .int 0, .ref rl])), (tk, .inl (kA 0, 401, .inl (upd (fun _ => 0) (0 : Int32).toNatClampNeg 258))), (pl, .inl (kA 0, 401, .inl (upd (fun _ => 0) (0 : Int32).toNatClampNeg 0)))])) (va_A [(xr, .inr (2, [.ref tk, .ref pl, .int 0, .int 0, .int 0, .int 0, .int 0, .ref rl])), (tk, .inl (kA 0, 401, .inl (fun _ => 0))), (pl, .inl (kA 0, 401, .inl (fun _ => 0)))] sz)) 0 0 (va_A [(xr, .inr (2, [.ref tk, .ref pl, .int 0, .int 0, .int 0, .int 0, .int 0, .ref rl])), (tk, .inl (kA 0, 401, .inl (fun _ => 0))), (pl, .inl (kA 0, 401, .inl (fun _ => 0)))] sz) := by
  refine Met.ofW (cc := cX2_cut) (maxL := 5) (ret := none) (by decide) rfl ?_
  intro p e s m args below meth c s₁ B hml hv
  obtain ⟨rfl, hsz, hP, hK, hD0⟩ := hv
  have hx := B.exec
  have hb := B.bytes
  have hr := B.returns
  have hts := atoms_spec (ws := wsX2_cut) B.pre
  have hown : s.vm.findClass RX2 = some m.cls := findClass_of_methodNamed B.named
  have hlocks := B.notSynchronized
  subst hsz
  have hD := hD0.self (sz := s.heap.size)
  generalize hAe : va_A [(xr, .inr (2, [.ref tk, .ref pl, .int 0, .int 0, .int 0, .int 0, .int 0, .ref rl])), (tk, .inl (kA 0, 401, .inl (fun _ => 0))), (pl, .inl (kA 0, 401, .inl (fun _ => 0)))] s.heap.size = A at hD ⊢
  have hA : ∀ q : Nat, s.heap.size ≤ q → A q := fun q h => by rw [← hAe]; exact Or.inr h
  have hS : va_S A s.heap s.heap [] := va_S.rf
  have hP : va_P (dC, dI) vwCl [(xr, .inr (2, [.ref tk, .ref pl, .int 0, .int 0, .int 0, .int 0, .int 0, .ref rl])), (tk, .inl (kA 0, 401, .inl (fun _ => 0))), (pl, .inl (kA 0, 401, .inl (fun _ => 0)))] s.heap := hP
  have hl := lv_entry ([.ref xr, .ref xt, .int 0]) (n := 5) (Nat.le_of_ble_eq_true rfl)
  rw [lg_entry_eq]
  generalize (lg_sl ([.ref xr, .ref xt, .int 0]) ++ List.replicate (5 - (lg_sl ([.ref xr, .ref xt, .int 0])).length) Slot.unset).toArray = ls at hl ⊢
  have hl : lv_has ls 5 [(0, .ref xr), (1, .ref xt), (2, .int 0)] := hl
  refine lv_aload_n hx hb dX2_cut_0 rfl (lv_at hl 0 rfl) ?_
  refine lv_iconst (v := 0) hx hb dX2_cut_1 (by decide) ?_
  refine va_put (D := (dC, dI)) (ci := 2) (v := .int 0) (ty := .int) (C := RX2) (T := TX2) (N := 8) hx hb hts iX2_cut_X2 tyX2 tyX2_ok nmX2 hown hK.1 hP hD hS 0 rfl rfl 2 (by decide) (kX2_cut_1 hts) (fun _ h9 => h9) rfl (by decide +kernel) rfl rfl (Nat.le_of_ble_eq_true rfl) dX2_cut_2 (fun H locs hP hD hS => ?_)
  have hP : va_P (dC, dI) vwCl [(xr, .inr (2, [.ref tk, .ref pl, .int 0, .int 0, .int 0, .int 0, .int 0, .ref rl])), (tk, .inl (kA 0, 401, .inl (fun _ => 0))), (pl, .inl (kA 0, 401, .inl (fun _ => 0)))] H := hP
  have hD : va_D A [(xr, .inr (2, [.ref tk, .ref pl, .int 0, .int 0, .int 0, .int 0, .int 0, .ref rl])), (tk, .inl (kA 0, 401, .inl (fun _ => 0))), (pl, .inl (kA 0, 401, .inl (fun _ => 0)))] := hD
  refine lv_iconst (v := 0) hx hb dX2_cut_5 (by decide) ?_
  refine lv_istore_n (lv' := [(3, .int 0), (0, .ref xr), (1, .ref xt), (2, .int 0)]) hx hb dX2_cut_6 rfl hl (by decide) rfl (fun ls hl => ?_)
  refine lv_iconst (v := 0) hx hb dX2_cut_7 (by decide) ?_
  refine lv_istore (lv' := [(4, .int 0), (3, .int 0), (0, .ref xr), (1, .ref xt), (2, .int 0)]) hx hb dX2_cut_8 hl (by decide) rfl (fun ls hl => ?_)
  refine lv_iload hx hb dX2_cut_10 (lv_at hl 0 rfl) ?_
  refine lv_iload_n hx hb dX2_cut_12 rfl (lv_at hl 4 rfl) ?_
  refine lv_icmp_ge (tgt := 58) hx hb dX2_cut_13 (by decide) (fun _ => ?_) (fun c_1 => absurd (by decide) c_1)
  refine lv_aload_n hx hb dX2_cut_58 rfl (lv_at hl 2 rfl) ?_
  refine lv_sipush (v := 258) hx hb dX2_cut_59 (by decide) ?_
  refine lv_iload_n hx hb dX2_cut_62 rfl (lv_at hl 4 rfl) ?_
  refine z_v (wr := []) (va_runV (As := [.int 258, .int 0]) (rest := []) ⟨hx, hb, hml, hown, hts⟩ (mX2_addToken l dC dI kA _ xr tk pl rl) (cwV 2 hts gX2_cut_X2_addToken rfl rfl rfl (by decide +kernel) ⟨(Nat.le_of_ble_eq_true rfl), (Nat.le_of_ble_eq_true rfl)⟩) ⟨zPc.blind, va_recv hK.1 hP (ci := 2) (q0 := 0) rfl rfl, zPre hK (hP.sub [0, 1, 2] rfl) (hD.sub [0, 1, 2] (by decide) rfl)⟩ rfl rfl hl.1 rfl (lv_room (Nat.le_of_ble_eq_true rfl)) dX2_cut_63 ⟨(Nat.le_of_ble_eq_true rfl), (Nat.le_of_ble_eq_true rfl)⟩) hP hD hS hA [0, 1, 2] [] rfl rfl (by decide) (by decide) (fun u2 H locs hw3 hP hD hS => ?_)
  have hP : va_P (dC, dI) vwCl [(xr, .inr (2, [.ref tk, .ref pl, .int 1, .int 0, .int 0, .int 0, .int 0, .ref rl])), (tk, .inl (kA 0, 401, .inl (upd (fun _ => 0) (0 : Int32).toNatClampNeg 258))), (pl, .inl (kA 0, 401, .inl (upd (fun _ => 0) (0 : Int32).toNatClampNeg 0)))] H := hP
  have hD : va_D A [(xr, .inr (2, [.ref tk, .ref pl, .int 1, .int 0, .int 0, .int 0, .int 0, .ref rl])), (tk, .inl (kA 0, 401, .inl (upd (fun _ => 0) (0 : Int32).toNatClampNeg 258))), (pl, .inl (kA 0, 401, .inl (upd (fun _ => 0) (0 : Int32).toNatClampNeg 0)))] := hD
  have hP9 := hP.sub (ws' := [(xr, .inr (2, [.ref tk, .ref pl, .int 1, .int 0, .int 0, .int 0, .int 0, .ref rl])), (tk, .inl (kA 0, 401, .inl (upd (fun _ => 0) (0 : Int32).toNatClampNeg 258))), (pl, .inl (kA 0, 401, .inl (upd (fun _ => 0) (0 : Int32).toNatClampNeg 0)))]) [0, 1, 2] rfl
  have hD9 := hD.sub (ws' := [(xr, .inr (2, [.ref tk, .ref pl, .int 1, .int 0, .int 0, .int 0, .int 0, .ref rl])), (tk, .inl (kA 0, 401, .inl (upd (fun _ => 0) (0 : Int32).toNatClampNeg 258))), (pl, .inl (kA 0, 401, .inl (upd (fun _ => 0) (0 : Int32).toNatClampNeg 0)))]) [0, 1, 2] (by decide) rfl
  refine W.widen (k := 0) (n := 0) (Nat.le_of_ble_eq_true rfl) (Nat.le_of_ble_eq_true rfl) ?_
  exact W.vret hx hb hr (fun t ht hW => ⟨⟨(), rfl, trivial, by rw [ht]; exact hP9, hD9⟩, hS.F ht⟩) hS.2.2 dX2_cut_66
set_option maxHeartbeats 4000000 in
set_option maxRecDepth 100000 in
theorem mX1_clear (l : Launch) (dC : Nat → ClassId) (dI : Nat → Nat → Nat) (kA : Nat → ClassId) (sz : Nat) (a0 : Nat) (l_sorts : Nat) (l_sumStarts : Nat) (l_sumStops : Nat) (l_testStarts : Nat) (l_testStops : Nat) (l_joins : Nat) (l_operands : Nat) (l_factStarts : Nat) (l_factMiddles : Nat) (l_factStops : Nat) (l_signs : Nat) (l_tests : Nat)  : Met l yX1_clear wsX1_clear ({ frames := 0, cells := 0, slots := 0, locals := 0 }) (zPc dC dI kA sz [.ref a0] [(a0, .inr (1, [.int 0, .int 0, .ref l_sorts, .ref l_sumStarts, .ref l_sumStops, .ref l_testStarts, .ref l_testStops, .int 0, .ref l_joins, .ref l_operands, .int 0, .ref l_factStarts, .ref l_factMiddles, .ref l_factStops, .ref l_signs, .int 0, .ref l_tests]))]) (va_Qv (fun (u : Unit) => True) (zB dC dI (va_A [(a0, .inr (1, [.int 0, .int 0, .ref l_sorts, .ref l_sumStarts, .ref l_sumStops, .ref l_testStarts, .ref l_testStops, .int 0, .ref l_joins, .ref l_operands, .int 0, .ref l_factStarts, .ref l_factMiddles, .ref l_factStops, .ref l_signs, .int 0, .ref l_tests]))] sz) (fun (u : Unit) => [(a0, .inr (1, [.int 0, .int 0, .ref l_sorts, .ref l_sumStarts, .ref l_sumStops, .ref l_testStarts, .ref l_testStops, .int 0, .ref l_joins, .ref l_operands, .int 0, .ref l_factStarts, .ref l_factMiddles, .ref l_factStops, .ref l_signs, .int 0, .ref l_tests]))])) (va_A [(a0, .inr (1, [.int 0, .int 0, .ref l_sorts, .ref l_sumStarts, .ref l_sumStops, .ref l_testStarts, .ref l_testStops, .int 0, .ref l_joins, .ref l_operands, .int 0, .ref l_factStarts, .ref l_factMiddles, .ref l_factStops, .ref l_signs, .int 0, .ref l_tests]))] sz)) 0 0 (va_A [(a0, .inr (1, [.int 0, .int 0, .ref l_sorts, .ref l_sumStarts, .ref l_sumStops, .ref l_testStarts, .ref l_testStops, .int 0, .ref l_joins, .ref l_operands, .int 0, .ref l_factStarts, .ref l_factMiddles, .ref l_factStops, .ref l_signs, .int 0, .ref l_tests]))] sz) := by
  refine Met.ofW (cc := cX1_clear) (maxL := 1) (ret := none) (by decide) rfl ?_
  intro p e s m args below meth c s₁ B hml hv
  obtain ⟨rfl, hsz, hP, hK, hD0⟩ := hv
  have hx := B.exec
  have hb := B.bytes
  have hr := B.returns
  have hts := atoms_spec (ws := wsX1_clear) B.pre
  have hown : s.vm.findClass RX1 = some m.cls := findClass_of_methodNamed B.named
  have hlocks := B.notSynchronized
  subst hsz
  have hD := hD0.self (sz := s.heap.size)
  generalize hAe : va_A [(a0, .inr (1, [.int 0, .int 0, .ref l_sorts, .ref l_sumStarts, .ref l_sumStops, .ref l_testStarts, .ref l_testStops, .int 0, .ref l_joins, .ref l_operands, .int 0, .ref l_factStarts, .ref l_factMiddles, .ref l_factStops, .ref l_signs, .int 0, .ref l_tests]))] s.heap.size = A at hD ⊢
  have hA : ∀ q : Nat, s.heap.size ≤ q → A q := fun q h => by rw [← hAe]; exact Or.inr h
  have hS : va_S A s.heap s.heap [] := va_S.rf
  have hP : va_P (dC, dI) vwCl [(a0, .inr (1, [.int 0, .int 0, .ref l_sorts, .ref l_sumStarts, .ref l_sumStops, .ref l_testStarts, .ref l_testStops, .int 0, .ref l_joins, .ref l_operands, .int 0, .ref l_factStarts, .ref l_factMiddles, .ref l_factStops, .ref l_signs, .int 0, .ref l_tests]))] s.heap := hP
  have hl := lv_entry ([.ref a0]) (n := 1) (Nat.le_of_ble_eq_true rfl)
  rw [lg_entry_eq]
  generalize (lg_sl ([.ref a0]) ++ List.replicate (1 - (lg_sl ([.ref a0])).length) Slot.unset).toArray = ls at hl ⊢
  have hl : lv_has ls 1 [(0, .ref a0)] := hl
  refine lv_aload_n hx hb dX1_clear_0 rfl (lv_at hl 0 rfl) ?_
  refine lv_iconst (v := 0) hx hb dX1_clear_1 (by decide) ?_
  refine va_put (D := (dC, dI)) (ci := 1) (v := .int 0) (ty := .int) (C := RX1) (T := TX1) (N := 17) hx hb hts iX1_clear_X1 tyX1 tyX1_ok nmX1 hown hK.1 hP hD hS 0 rfl rfl 0 (by decide) (kX1_clear_1 hts) (fun _ h9 => h9) rfl (by decide +kernel) rfl rfl (Nat.le_of_ble_eq_true rfl) dX1_clear_2 (fun H locs hP hD hS => ?_)
  have hP : va_P (dC, dI) vwCl [(a0, .inr (1, [.int 0, .int 0, .ref l_sorts, .ref l_sumStarts, .ref l_sumStops, .ref l_testStarts, .ref l_testStops, .int 0, .ref l_joins, .ref l_operands, .int 0, .ref l_factStarts, .ref l_factMiddles, .ref l_factStops, .ref l_signs, .int 0, .ref l_tests]))] H := hP
  have hD : va_D A [(a0, .inr (1, [.int 0, .int 0, .ref l_sorts, .ref l_sumStarts, .ref l_sumStops, .ref l_testStarts, .ref l_testStops, .int 0, .ref l_joins, .ref l_operands, .int 0, .ref l_factStarts, .ref l_factMiddles, .ref l_factStops, .ref l_signs, .int 0, .ref l_tests]))] := hD
  refine lv_aload_n hx hb dX1_clear_5 rfl (lv_at hl 0 rfl) ?_
  refine lv_iconst (v := 0) hx hb dX1_clear_6 (by decide) ?_
  refine va_put (D := (dC, dI)) (ci := 1) (v := .int 0) (ty := .int) (C := RX1) (T := TX1) (N := 17) hx hb hts iX1_clear_X1 tyX1 tyX1_ok nmX1 hown hK.1 hP hD hS 0 rfl rfl 1 (by decide) (kX1_clear_2 hts) (fun _ h9 => h9) rfl (by decide +kernel) rfl rfl (Nat.le_of_ble_eq_true rfl) dX1_clear_7 (fun H locs hP hD hS => ?_)
  have hP : va_P (dC, dI) vwCl [(a0, .inr (1, [.int 0, .int 0, .ref l_sorts, .ref l_sumStarts, .ref l_sumStops, .ref l_testStarts, .ref l_testStops, .int 0, .ref l_joins, .ref l_operands, .int 0, .ref l_factStarts, .ref l_factMiddles, .ref l_factStops, .ref l_signs, .int 0, .ref l_tests]))] H := hP
  have hD : va_D A [(a0, .inr (1, [.int 0, .int 0, .ref l_sorts, .ref l_sumStarts, .ref l_sumStops, .ref l_testStarts, .ref l_testStops, .int 0, .ref l_joins, .ref l_operands, .int 0, .ref l_factStarts, .ref l_factMiddles, .ref l_factStops, .ref l_signs, .int 0, .ref l_tests]))] := hD
  refine lv_aload_n hx hb dX1_clear_10 rfl (lv_at hl 0 rfl) ?_
  refine lv_iconst (v := 0) hx hb dX1_clear_11 (by decide) ?_
  refine va_put (D := (dC, dI)) (ci := 1) (v := .int 0) (ty := .int) (C := RX1) (T := TX1) (N := 17) hx hb hts iX1_clear_X1 tyX1 tyX1_ok nmX1 hown hK.1 hP hD hS 0 rfl rfl 7 (by decide) (kX1_clear_3 hts) (fun _ h9 => h9) rfl (by decide +kernel) rfl rfl (Nat.le_of_ble_eq_true rfl) dX1_clear_12 (fun H locs hP hD hS => ?_)
  have hP : va_P (dC, dI) vwCl [(a0, .inr (1, [.int 0, .int 0, .ref l_sorts, .ref l_sumStarts, .ref l_sumStops, .ref l_testStarts, .ref l_testStops, .int 0, .ref l_joins, .ref l_operands, .int 0, .ref l_factStarts, .ref l_factMiddles, .ref l_factStops, .ref l_signs, .int 0, .ref l_tests]))] H := hP
  have hD : va_D A [(a0, .inr (1, [.int 0, .int 0, .ref l_sorts, .ref l_sumStarts, .ref l_sumStops, .ref l_testStarts, .ref l_testStops, .int 0, .ref l_joins, .ref l_operands, .int 0, .ref l_factStarts, .ref l_factMiddles, .ref l_factStops, .ref l_signs, .int 0, .ref l_tests]))] := hD
  refine lv_aload_n hx hb dX1_clear_15 rfl (lv_at hl 0 rfl) ?_
  refine lv_iconst (v := 0) hx hb dX1_clear_16 (by decide) ?_
  refine va_put (D := (dC, dI)) (ci := 1) (v := .int 0) (ty := .int) (C := RX1) (T := TX1) (N := 17) hx hb hts iX1_clear_X1 tyX1 tyX1_ok nmX1 hown hK.1 hP hD hS 0 rfl rfl 10 (by decide) (kX1_clear_4 hts) (fun _ h9 => h9) rfl (by decide +kernel) rfl rfl (Nat.le_of_ble_eq_true rfl) dX1_clear_17 (fun H locs hP hD hS => ?_)
  have hP : va_P (dC, dI) vwCl [(a0, .inr (1, [.int 0, .int 0, .ref l_sorts, .ref l_sumStarts, .ref l_sumStops, .ref l_testStarts, .ref l_testStops, .int 0, .ref l_joins, .ref l_operands, .int 0, .ref l_factStarts, .ref l_factMiddles, .ref l_factStops, .ref l_signs, .int 0, .ref l_tests]))] H := hP
  have hD : va_D A [(a0, .inr (1, [.int 0, .int 0, .ref l_sorts, .ref l_sumStarts, .ref l_sumStops, .ref l_testStarts, .ref l_testStops, .int 0, .ref l_joins, .ref l_operands, .int 0, .ref l_factStarts, .ref l_factMiddles, .ref l_factStops, .ref l_signs, .int 0, .ref l_tests]))] := hD
  refine lv_aload_n hx hb dX1_clear_20 rfl (lv_at hl 0 rfl) ?_
  refine lv_iconst (v := 0) hx hb dX1_clear_21 (by decide) ?_
  refine va_put (D := (dC, dI)) (ci := 1) (v := .int 0) (ty := .int) (C := RX1) (T := TX1) (N := 17) hx hb hts iX1_clear_X1 tyX1 tyX1_ok nmX1 hown hK.1 hP hD hS 0 rfl rfl 15 (by decide) (kX1_clear_5 hts) (fun _ h9 => h9) rfl (by decide +kernel) rfl rfl (Nat.le_of_ble_eq_true rfl) dX1_clear_22 (fun H locs hP hD hS => ?_)
  have hP : va_P (dC, dI) vwCl [(a0, .inr (1, [.int 0, .int 0, .ref l_sorts, .ref l_sumStarts, .ref l_sumStops, .ref l_testStarts, .ref l_testStops, .int 0, .ref l_joins, .ref l_operands, .int 0, .ref l_factStarts, .ref l_factMiddles, .ref l_factStops, .ref l_signs, .int 0, .ref l_tests]))] H := hP
  have hD : va_D A [(a0, .inr (1, [.int 0, .int 0, .ref l_sorts, .ref l_sumStarts, .ref l_sumStops, .ref l_testStarts, .ref l_testStops, .int 0, .ref l_joins, .ref l_operands, .int 0, .ref l_factStarts, .ref l_factMiddles, .ref l_factStops, .ref l_signs, .int 0, .ref l_tests]))] := hD
  have hP9 := hP.sub (ws' := [(a0, .inr (1, [.int 0, .int 0, .ref l_sorts, .ref l_sumStarts, .ref l_sumStops, .ref l_testStarts, .ref l_testStops, .int 0, .ref l_joins, .ref l_operands, .int 0, .ref l_factStarts, .ref l_factMiddles, .ref l_factStops, .ref l_signs, .int 0, .ref l_tests]))]) [0] rfl
  have hD9 := hD.sub (ws' := [(a0, .inr (1, [.int 0, .int 0, .ref l_sorts, .ref l_sumStarts, .ref l_sumStops, .ref l_testStarts, .ref l_testStops, .int 0, .ref l_joins, .ref l_operands, .int 0, .ref l_factStarts, .ref l_factMiddles, .ref l_factStops, .ref l_signs, .int 0, .ref l_tests]))]) [0] (by decide) rfl
  refine W.widen (k := 0) (n := 0) (Nat.le_of_ble_eq_true rfl) (Nat.le_of_ble_eq_true rfl) ?_
  exact W.vret hx hb hr (fun t ht hW => ⟨⟨(), rfl, trivial, by rw [ht]; exact hP9, hD9⟩, hS.F ht⟩) hS.2.2 dX1_clear_25
set_option maxHeartbeats 4000000 in
set_option maxRecDepth 100000 in
theorem mX2_token (l : Launch) (dC : Nat → ClassId) (dI : Nat → Nat → Nat) (kA : Nat → ClassId) (sz : Nat) (xr : Nat) (tk : Nat) (pl : Nat) (rl : Nat)  : Met l yX2_token wsX2_token ({ frames := 0, cells := 0, slots := 0, locals := 0 }) (zPc dC dI kA sz [.ref xr] [(xr, .inr (2, [.ref tk, .ref pl, .int 1, .int 0, .int 0, .int 0, .int 0, .ref rl])), (tk, .inl (kA 0, 401, .inl (upd (fun _ => 0) (0 : Int32).toNatClampNeg 258)))]) (va_Qi (fun (r : Int32) (u : Unit) => r = 258) (zB dC dI (va_A [(xr, .inr (2, [.ref tk, .ref pl, .int 1, .int 0, .int 0, .int 0, .int 0, .ref rl])), (tk, .inl (kA 0, 401, .inl (upd (fun _ => 0) (0 : Int32).toNatClampNeg 258)))] sz) (fun (u : Unit) => [(xr, .inr (2, [.ref tk, .ref pl, .int 1, .int 0, .int 0, .int 0, .int 0, .ref rl])), (tk, .inl (kA 0, 401, .inl (upd (fun _ => 0) (0 : Int32).toNatClampNeg 258)))])) (va_A [(xr, .inr (2, [.ref tk, .ref pl, .int 1, .int 0, .int 0, .int 0, .int 0, .ref rl])), (tk, .inl (kA 0, 401, .inl (upd (fun _ => 0) (0 : Int32).toNatClampNeg 258)))] sz)) 0 0 (va_A [(xr, .inr (2, [.ref tk, .ref pl, .int 1, .int 0, .int 0, .int 0, .int 0, .ref rl])), (tk, .inl (kA 0, 401, .inl (upd (fun _ => 0) (0 : Int32).toNatClampNeg 258)))] sz) := by
  refine Met.ofW (cc := cX2_token) (maxL := 1) (ret := (some .int)) (by decide) rfl ?_
  intro p e s m args below meth c s₁ B hml hv
  obtain ⟨rfl, hsz, hP, hK, hD0⟩ := hv
  have hx := B.exec
  have hb := B.bytes
  have hr := B.returns
  have hts := atoms_spec (ws := wsX2_token) B.pre
  have hown : s.vm.findClass RX2 = some m.cls := findClass_of_methodNamed B.named
  have hlocks := B.notSynchronized
  subst hsz
  have hD := hD0.self (sz := s.heap.size)
  generalize hAe : va_A [(xr, .inr (2, [.ref tk, .ref pl, .int 1, .int 0, .int 0, .int 0, .int 0, .ref rl])), (tk, .inl (kA 0, 401, .inl (upd (fun _ => 0) (0 : Int32).toNatClampNeg 258)))] s.heap.size = A at hD ⊢
  have hA : ∀ q : Nat, s.heap.size ≤ q → A q := fun q h => by rw [← hAe]; exact Or.inr h
  have hS : va_S A s.heap s.heap [] := va_S.rf
  have hP : va_P (dC, dI) vwCl [(xr, .inr (2, [.ref tk, .ref pl, .int 1, .int 0, .int 0, .int 0, .int 0, .ref rl])), (tk, .inl (kA 0, 401, .inl (upd (fun _ => 0) (0 : Int32).toNatClampNeg 258)))] s.heap := hP
  have hl := lv_entry ([.ref xr]) (n := 1) (Nat.le_of_ble_eq_true rfl)
  rw [lg_entry_eq]
  generalize (lg_sl ([.ref xr]) ++ List.replicate (1 - (lg_sl ([.ref xr])).length) Slot.unset).toArray = ls at hl ⊢
  have hl : lv_has ls 1 [(0, .ref xr)] := hl
  refine lv_aload_n hx hb dX2_token_0 rfl (lv_at hl 0 rfl) ?_
  refine va_get (D := (dC, dI)) (ci := 2) (v := .int 0) (C := RX2) (T := TX2) (N := 8) hx hb hts iX2_token_X2 hown hK.1 hP 0 rfl rfl 3 (by decide) (kX2_token_1 hts) (fun _ h9 => h9) rfl dX2_token_1 ?_
  refine lv_if_lt (tgt := 42) hx hb dX2_token_4 (by decide) (fun c_1 => absurd c_1 (by decide)) (fun _ => ?_)
  refine lv_aload_n hx hb dX2_token_7 rfl (lv_at hl 0 rfl) ?_
  refine va_get (D := (dC, dI)) (ci := 2) (v := .int 0) (C := RX2) (T := TX2) (N := 8) hx hb hts iX2_token_X2 hown hK.1 hP 0 rfl rfl 3 (by decide) (kX2_token_1 hts) (fun _ h9 => h9) rfl dX2_token_8 ?_
  refine lv_aload_n hx hb dX2_token_11 rfl (lv_at hl 0 rfl) ?_
  refine va_get (D := (dC, dI)) (ci := 2) (v := .int 1) (C := RX2) (T := TX2) (N := 8) hx hb hts iX2_token_X2 hown hK.1 hP 0 rfl rfl 2 (by decide) (kX2_token_2 hts) (fun _ h9 => h9) rfl dX2_token_12 ?_
  refine lv_icmp_ge (tgt := 42) hx hb dX2_token_15 (by decide) (fun c_2 => absurd c_2 (by decide)) (fun _ => ?_)
  refine lv_aload_n hx hb dX2_token_18 rfl (lv_at hl 0 rfl) ?_
  refine va_get (D := (dC, dI)) (ci := 2) (v := .int 0) (C := RX2) (T := TX2) (N := 8) hx hb hts iX2_token_X2 hown hK.1 hP 0 rfl rfl 3 (by decide) (kX2_token_1 hts) (fun _ h9 => h9) rfl dX2_token_19 ?_
  refine lv_aload_n hx hb dX2_token_22 rfl (lv_at hl 0 rfl) ?_
  refine va_get (D := (dC, dI)) (ci := 2) (v := .ref tk) (C := RX2) (T := TX2) (N := 8) hx hb hts iX2_token_X2 hown hK.1 hP 0 rfl rfl 0 (by decide) (kX2_token_3 hts) (fun _ h9 => h9) rfl dX2_token_23 ?_
  refine va_alen hx hb hK.1 hP 1 0 rfl rfl (v := 401) rfl dX2_token_26 ?_
  refine lv_icmp_ge (tgt := 42) hx hb dX2_token_27 (by decide) (fun c_3 => absurd c_3 (by decide)) (fun _ => ?_)
  refine lv_aload_n hx hb dX2_token_30 rfl (lv_at hl 0 rfl) ?_
  refine va_get (D := (dC, dI)) (ci := 2) (v := .ref tk) (C := RX2) (T := TX2) (N := 8) hx hb hts iX2_token_X2 hown hK.1 hP 0 rfl rfl 0 (by decide) (kX2_token_3 hts) (fun _ h9 => h9) rfl dX2_token_31 ?_
  refine lv_aload_n hx hb dX2_token_34 rfl (lv_at hl 0 rfl) ?_
  refine va_get (D := (dC, dI)) (ci := 2) (v := .int 0) (C := RX2) (T := TX2) (N := 8) hx hb hts iX2_token_X2 hown hK.1 hP 0 rfl rfl 3 (by decide) (kX2_token_1 hts) (fun _ h9 => h9) rfl dX2_token_35 ?_
  refine va_iald hx hb hK.1 hP 1 0 rfl rfl (vpd (by decide)) dX2_token_38 ?_
  refine zi 258 rfl ?_
  refine lv_goto (tgt := 45) hx hb dX2_token_39 (by decide) ?_
  have hP9 := hP.sub (ws' := [(xr, .inr (2, [.ref tk, .ref pl, .int 1, .int 0, .int 0, .int 0, .int 0, .ref rl])), (tk, .inl (kA 0, 401, .inl (upd (fun _ => 0) (0 : Int32).toNatClampNeg 258)))]) [0, 1] rfl
  have hD9 := hD.sub (ws' := [(xr, .inr (2, [.ref tk, .ref pl, .int 1, .int 0, .int 0, .int 0, .int 0, .ref rl])), (tk, .inl (kA 0, 401, .inl (upd (fun _ => 0) (0 : Int32).toNatClampNeg 258)))]) [0, 1] (by decide) rfl
  refine W.widen (k := 0) (n := 0) (Nat.le_of_ble_eq_true rfl) (Nat.le_of_ble_eq_true rfl) ?_
  exact W.iret (v := 258) hx hb hr (fun t ht hW => ⟨⟨258, (), rfl, rfl, by rw [ht]; exact hP9, hD9⟩, hS.F ht⟩) hS.2.2 dX2_token_45
set_option maxHeartbeats 4000000 in
set_option maxRecDepth 100000 in
theorem mX2_refuse (l : Launch) (dC : Nat → ClassId) (dI : Nat → Nat → Nat) (kA : Nat → ClassId) (sz : Nat) (xr : Nat) (tk : Nat) (pl : Nat) (rl : Nat)  : Met l yX2_refuse wsX2_refuse ({ frames := 0, cells := 0, slots := 0, locals := 0 }) (zPc dC dI kA sz [.ref xr, .int 0] [(xr, .inr (2, [.ref tk, .ref pl, .int 1, .int 0, .int 0, .int 0, .int 0, .ref rl])), (pl, .inl (kA 0, 401, .inl (upd (fun _ => 0) (0 : Int32).toNatClampNeg 0)))]) (va_Qi (fun (r : Int32) (u : Unit) => r = 0) (zB dC dI (va_A [(xr, .inr (2, [.ref tk, .ref pl, .int 1, .int 0, .int 0, .int 0, .int 0, .ref rl])), (pl, .inl (kA 0, 401, .inl (upd (fun _ => 0) (0 : Int32).toNatClampNeg 0)))] sz) (fun (u : Unit) => [(xr, .inr (2, [.ref tk, .ref pl, .int 1, .int 0, .int 1, .int 0, .int 0, .ref rl])), (pl, .inl (kA 0, 401, .inl (upd (fun _ => 0) (0 : Int32).toNatClampNeg 0)))])) (va_A [(xr, .inr (2, [.ref tk, .ref pl, .int 1, .int 0, .int 0, .int 0, .int 0, .ref rl])), (pl, .inl (kA 0, 401, .inl (upd (fun _ => 0) (0 : Int32).toNatClampNeg 0)))] sz)) 0 0 (va_A [(xr, .inr (2, [.ref tk, .ref pl, .int 1, .int 0, .int 0, .int 0, .int 0, .ref rl])), (pl, .inl (kA 0, 401, .inl (upd (fun _ => 0) (0 : Int32).toNatClampNeg 0)))] sz) := by
  refine Met.ofW (cc := cX2_refuse) (maxL := 3) (ret := (some .boolean)) (by decide) rfl ?_
  intro p e s m args below meth c s₁ B hml hv
  obtain ⟨rfl, hsz, hP, hK, hD0⟩ := hv
  have hx := B.exec
  have hb := B.bytes
  have hr := B.returns
  have hts := atoms_spec (ws := wsX2_refuse) B.pre
  have hown : s.vm.findClass RX2 = some m.cls := findClass_of_methodNamed B.named
  have hlocks := B.notSynchronized
  subst hsz
  have hD := hD0.self (sz := s.heap.size)
  generalize hAe : va_A [(xr, .inr (2, [.ref tk, .ref pl, .int 1, .int 0, .int 0, .int 0, .int 0, .ref rl])), (pl, .inl (kA 0, 401, .inl (upd (fun _ => 0) (0 : Int32).toNatClampNeg 0)))] s.heap.size = A at hD ⊢
  have hA : ∀ q : Nat, s.heap.size ≤ q → A q := fun q h => by rw [← hAe]; exact Or.inr h
  have hS : va_S A s.heap s.heap [] := va_S.rf
  have hP : va_P (dC, dI) vwCl [(xr, .inr (2, [.ref tk, .ref pl, .int 1, .int 0, .int 0, .int 0, .int 0, .ref rl])), (pl, .inl (kA 0, 401, .inl (upd (fun _ => 0) (0 : Int32).toNatClampNeg 0)))] s.heap := hP
  have hl := lv_entry ([.ref xr, .int 0]) (n := 3) (Nat.le_of_ble_eq_true rfl)
  rw [lg_entry_eq]
  generalize (lg_sl ([.ref xr, .int 0]) ++ List.replicate (3 - (lg_sl ([.ref xr, .int 0])).length) Slot.unset).toArray = ls at hl ⊢
  have hl : lv_has ls 3 [(0, .ref xr), (1, .int 0)] := hl
  refine lv_aload_n hx hb dX2_refuse_0 rfl (lv_at hl 0 rfl) ?_
  refine va_get (D := (dC, dI)) (ci := 2) (v := .int 0) (C := RX2) (T := TX2) (N := 8) hx hb hts iX2_refuse_X2 hown hK.1 hP 0 rfl rfl 3 (by decide) (kX2_refuse_1 hts) (fun _ h9 => h9) rfl dX2_refuse_1 ?_
  refine lv_if_lt (tgt := 31) hx hb dX2_refuse_4 (by decide) (fun c_1 => absurd c_1 (by decide)) (fun _ => ?_)
  refine lv_aload_n hx hb dX2_refuse_7 rfl (lv_at hl 0 rfl) ?_
  refine va_get (D := (dC, dI)) (ci := 2) (v := .int 0) (C := RX2) (T := TX2) (N := 8) hx hb hts iX2_refuse_X2 hown hK.1 hP 0 rfl rfl 3 (by decide) (kX2_refuse_1 hts) (fun _ h9 => h9) rfl dX2_refuse_8 ?_
  refine lv_aload_n hx hb dX2_refuse_11 rfl (lv_at hl 0 rfl) ?_
  refine va_get (D := (dC, dI)) (ci := 2) (v := .ref pl) (C := RX2) (T := TX2) (N := 8) hx hb hts iX2_refuse_X2 hown hK.1 hP 0 rfl rfl 1 (by decide) (kX2_refuse_2 hts) (fun _ h9 => h9) rfl dX2_refuse_12 ?_
  refine va_alen hx hb hK.1 hP 1 0 rfl rfl (v := 401) rfl dX2_refuse_15 ?_
  refine lv_icmp_ge (tgt := 31) hx hb dX2_refuse_16 (by decide) (fun c_2 => absurd c_2 (by decide)) (fun _ => ?_)
  refine lv_aload_n hx hb dX2_refuse_19 rfl (lv_at hl 0 rfl) ?_
  refine va_get (D := (dC, dI)) (ci := 2) (v := .ref pl) (C := RX2) (T := TX2) (N := 8) hx hb hts iX2_refuse_X2 hown hK.1 hP 0 rfl rfl 1 (by decide) (kX2_refuse_2 hts) (fun _ h9 => h9) rfl dX2_refuse_20 ?_
  refine lv_aload_n hx hb dX2_refuse_23 rfl (lv_at hl 0 rfl) ?_
  refine va_get (D := (dC, dI)) (ci := 2) (v := .int 0) (C := RX2) (T := TX2) (N := 8) hx hb hts iX2_refuse_X2 hown hK.1 hP 0 rfl rfl 3 (by decide) (kX2_refuse_1 hts) (fun _ h9 => h9) rfl dX2_refuse_24 ?_
  refine va_iald hx hb hK.1 hP 1 0 rfl rfl (vpd (by decide)) dX2_refuse_27 ?_
  refine zi 0 rfl ?_
  refine lv_goto (tgt := 32) hx hb dX2_refuse_28 (by decide) ?_
  refine lv_istore_n (lv' := [(2, .int 0), (0, .ref xr), (1, .int 0)]) hx hb dX2_refuse_32 rfl hl (by decide) rfl (fun ls hl => ?_)
  refine lv_aload_n hx hb dX2_refuse_33 rfl (lv_at hl 1 rfl) ?_
  refine lv_iconst (v := 1) hx hb dX2_refuse_34 (by decide) ?_
  refine lv_bipush (v := 8) hx hb dX2_refuse_35 (by decide) ?_
  refine lv_iload_n hx hb dX2_refuse_37 rfl (lv_at hl 0 rfl) ?_
  refine lv_imul hx hb dX2_refuse_38 ?_
  refine zi 0 (by decide) ?_
  refine lv_iadd hx hb dX2_refuse_39 ?_
  refine zi 1 (by decide) ?_
  refine lv_iload_n hx hb dX2_refuse_40 rfl (lv_at hl 2 rfl) ?_
  refine lv_iadd hx hb dX2_refuse_41 ?_
  refine zi 1 (by decide) ?_
  refine va_put (D := (dC, dI)) (ci := 2) (v := .int 1) (ty := .int) (C := RX2) (T := TX2) (N := 8) hx hb hts iX2_refuse_X2 tyX2 tyX2_ok nmX2 hown hK.1 hP hD hS 0 rfl rfl 4 (by decide) (kX2_refuse_3 hts) (fun _ h9 => h9) rfl (by decide +kernel) rfl rfl (Nat.le_of_ble_eq_true rfl) dX2_refuse_42 (fun H locs hP hD hS => ?_)
  have hP : va_P (dC, dI) vwCl [(xr, .inr (2, [.ref tk, .ref pl, .int 1, .int 0, .int 1, .int 0, .int 0, .ref rl])), (pl, .inl (kA 0, 401, .inl (upd (fun _ => 0) (0 : Int32).toNatClampNeg 0)))] H := hP
  have hD : va_D A [(xr, .inr (2, [.ref tk, .ref pl, .int 1, .int 0, .int 1, .int 0, .int 0, .ref rl])), (pl, .inl (kA 0, 401, .inl (upd (fun _ => 0) (0 : Int32).toNatClampNeg 0)))] := hD
  refine lv_iconst (v := 0) hx hb dX2_refuse_45 (by decide) ?_
  have hP9 := hP.sub (ws' := [(xr, .inr (2, [.ref tk, .ref pl, .int 1, .int 0, .int 1, .int 0, .int 0, .ref rl])), (pl, .inl (kA 0, 401, .inl (upd (fun _ => 0) (0 : Int32).toNatClampNeg 0)))]) [0, 1] rfl
  have hD9 := hD.sub (ws' := [(xr, .inr (2, [.ref tk, .ref pl, .int 1, .int 0, .int 1, .int 0, .int 0, .ref rl])), (pl, .inl (kA 0, 401, .inl (upd (fun _ => 0) (0 : Int32).toNatClampNeg 0)))]) [0, 1] (by decide) rfl
  refine W.widen (k := 0) (n := 0) (Nat.le_of_ble_eq_true rfl) (Nat.le_of_ble_eq_true rfl) ?_
  exact W.zret (v := 0) hx hb hr rfl (fun t ht hW => ⟨⟨0, (), rfl, rfl, by rw [ht]; exact hP9, hD9⟩, hS.F ht⟩) hS.2.2 dX2_refuse_46
set_option maxHeartbeats 4000000 in
set_option maxRecDepth 100000 in
theorem mX2_readClause (l : Launch) (dC : Nat → ClassId) (dI : Nat → Nat → Nat) (kA : Nat → ClassId) (sz : Nat) (xr : Nat) (tk : Nat) (pl : Nat) (rl : Nat)  : Met l yX2_readClause wsX2_readClause ({ frames := 1, cells := 0, slots := 0, locals := 22 }) (zPc dC dI kA sz [.ref xr, .int 0] [(xr, .inr (2, [.ref tk, .ref pl, .int 1, .int 0, .int 0, .int 0, .int 0, .ref rl])), (tk, .inl (kA 0, 401, .inl (upd (fun _ => 0) (0 : Int32).toNatClampNeg 258))), (pl, .inl (kA 0, 401, .inl (upd (fun _ => 0) (0 : Int32).toNatClampNeg 0)))]) (va_Qi (fun (r : Int32) (u : Unit) => r = 0) (zB dC dI (va_A [(xr, .inr (2, [.ref tk, .ref pl, .int 1, .int 0, .int 0, .int 0, .int 0, .ref rl])), (tk, .inl (kA 0, 401, .inl (upd (fun _ => 0) (0 : Int32).toNatClampNeg 258))), (pl, .inl (kA 0, 401, .inl (upd (fun _ => 0) (0 : Int32).toNatClampNeg 0)))] sz) (fun (u : Unit) => [(xr, .inr (2, [.ref tk, .ref pl, .int 1, .int 0, .int 1, .int 0, .int 0, .ref rl]))])) (va_A [(xr, .inr (2, [.ref tk, .ref pl, .int 1, .int 0, .int 0, .int 0, .int 0, .ref rl])), (tk, .inl (kA 0, 401, .inl (upd (fun _ => 0) (0 : Int32).toNatClampNeg 258))), (pl, .inl (kA 0, 401, .inl (upd (fun _ => 0) (0 : Int32).toNatClampNeg 0)))] sz)) 0 0 (va_A [(xr, .inr (2, [.ref tk, .ref pl, .int 1, .int 0, .int 0, .int 0, .int 0, .ref rl])), (tk, .inl (kA 0, 401, .inl (upd (fun _ => 0) (0 : Int32).toNatClampNeg 258))), (pl, .inl (kA 0, 401, .inl (upd (fun _ => 0) (0 : Int32).toNatClampNeg 0)))] sz) := by
  refine Met.ofW (cc := cX2_readClause) (maxL := 3) (ret := (some .boolean)) (by decide) rfl ?_
  intro p e s m args below meth c s₁ B hml hv
  obtain ⟨rfl, hsz, hP, hK, hD0⟩ := hv
  have hx := B.exec
  have hb := B.bytes
  have hr := B.returns
  have hts := atoms_spec (ws := wsX2_readClause) B.pre
  have hown : s.vm.findClass RX2 = some m.cls := findClass_of_methodNamed B.named
  have hlocks := B.notSynchronized
  subst hsz
  have hD := hD0.self (sz := s.heap.size)
  generalize hAe : va_A [(xr, .inr (2, [.ref tk, .ref pl, .int 1, .int 0, .int 0, .int 0, .int 0, .ref rl])), (tk, .inl (kA 0, 401, .inl (upd (fun _ => 0) (0 : Int32).toNatClampNeg 258))), (pl, .inl (kA 0, 401, .inl (upd (fun _ => 0) (0 : Int32).toNatClampNeg 0)))] s.heap.size = A at hD ⊢
  have hA : ∀ q : Nat, s.heap.size ≤ q → A q := fun q h => by rw [← hAe]; exact Or.inr h
  have hS : va_S A s.heap s.heap [] := va_S.rf
  have hP : va_P (dC, dI) vwCl [(xr, .inr (2, [.ref tk, .ref pl, .int 1, .int 0, .int 0, .int 0, .int 0, .ref rl])), (tk, .inl (kA 0, 401, .inl (upd (fun _ => 0) (0 : Int32).toNatClampNeg 258))), (pl, .inl (kA 0, 401, .inl (upd (fun _ => 0) (0 : Int32).toNatClampNeg 0)))] s.heap := hP
  have hl := lv_entry ([.ref xr, .int 0]) (n := 3) (Nat.le_of_ble_eq_true rfl)
  rw [lg_entry_eq]
  generalize (lg_sl ([.ref xr, .int 0]) ++ List.replicate (3 - (lg_sl ([.ref xr, .int 0])).length) Slot.unset).toArray = ls at hl ⊢
  have hl : lv_has ls 3 [(0, .ref xr), (1, .int 0)] := hl
  refine lv_aload_n hx hb dX2_readClause_0 rfl (lv_at hl 0 rfl) ?_
  refine z_i (wr := [(pl, .inl (kA 0, 401, .inl (upd (fun _ => 0) (0 : Int32).toNatClampNeg 0)))]) (va_runV (As := []) (rest := []) ⟨hx, hb, hml, hown, hts⟩ (mX2_token l dC dI kA _ xr tk pl rl) (cwV 0 hts gX2_readClause_X2_token rfl rfl rfl (by decide +kernel) ⟨(Nat.le_of_ble_eq_true rfl), (Nat.le_of_ble_eq_true rfl)⟩) ⟨zPc.blind, va_recv hK.1 hP (ci := 2) (q0 := 0) rfl rfl, zPre hK (hP.sub [0, 1] rfl) (hD.sub [0, 1] (by decide) rfl)⟩ rfl rfl hl.1 rfl (lv_room (Nat.le_of_ble_eq_true rfl)) dX2_readClause_1 ⟨(Nat.le_of_ble_eq_true rfl), (Nat.le_of_ble_eq_true rfl)⟩) hP hD hS hA [0, 1] [2] rfl rfl (by decide) (by decide) (fun r3 u1 H locs hw2 hP hD hS => ?_)
  obtain rfl := hw2
  have hP : va_P (dC, dI) vwCl [(pl, .inl (kA 0, 401, .inl (upd (fun _ => 0) (0 : Int32).toNatClampNeg 0))), (xr, .inr (2, [.ref tk, .ref pl, .int 1, .int 0, .int 0, .int 0, .int 0, .ref rl])), (tk, .inl (kA 0, 401, .inl (upd (fun _ => 0) (0 : Int32).toNatClampNeg 258)))] H := hP
  have hD : va_D A [(pl, .inl (kA 0, 401, .inl (upd (fun _ => 0) (0 : Int32).toNatClampNeg 0))), (xr, .inr (2, [.ref tk, .ref pl, .int 1, .int 0, .int 0, .int 0, .int 0, .ref rl])), (tk, .inl (kA 0, 401, .inl (upd (fun _ => 0) (0 : Int32).toNatClampNeg 258)))] := hD
  refine lv_sipush (v := 311) hx hb dX2_readClause_4 (by decide) ?_
  refine lv_isub hx hb dX2_readClause_7 ?_
  refine zi (-53) (by decide) ?_
  refine lv_istore_n (lv' := [(2, .int (-53)), (0, .ref xr), (1, .int 0)]) hx hb dX2_readClause_8 rfl hl (by decide) rfl (fun ls hl => ?_)
  refine lv_iload_n hx hb dX2_readClause_9 rfl (lv_at hl 0 rfl) ?_
  refine lv_if_lt (tgt := 18) hx hb dX2_readClause_10 (by decide) (fun _ => ?_) (fun c_4 => absurd (by decide) c_4)
  refine lv_aload_n hx hb dX2_readClause_18 rfl (lv_at hl 1 rfl) ?_
  refine lv_iconst (v := 0) hx hb dX2_readClause_19 (by decide) ?_
  refine z_i (wr := [(tk, .inl (kA 0, 401, .inl (upd (fun _ => 0) (0 : Int32).toNatClampNeg 258)))]) (va_runV (As := [.int 0]) (rest := []) ⟨hx, hb, hml, hown, hts⟩ (mX2_refuse l dC dI kA _ xr tk pl rl) (cwV 1 hts gX2_readClause_X2_refuse rfl rfl rfl (by decide +kernel) ⟨(Nat.le_of_ble_eq_true rfl), (Nat.le_of_ble_eq_true rfl)⟩) ⟨zPc.blind, va_recv hK.1 hP (ci := 2) (q0 := 1) rfl rfl, zPre hK (hP.sub [1, 0] rfl) (hD.sub [1, 0] (by decide) rfl)⟩ rfl rfl hl.1 rfl (lv_room (Nat.le_of_ble_eq_true rfl)) dX2_readClause_20 ⟨(Nat.le_of_ble_eq_true rfl), (Nat.le_of_ble_eq_true rfl)⟩) hP hD hS hA [1, 0] [2] rfl rfl (by decide) (by decide) (fun r7 u5 H locs hw6 hP hD hS => ?_)
  obtain rfl := hw6
  have hP : va_P (dC, dI) vwCl [(tk, .inl (kA 0, 401, .inl (upd (fun _ => 0) (0 : Int32).toNatClampNeg 258))), (xr, .inr (2, [.ref tk, .ref pl, .int 1, .int 0, .int 1, .int 0, .int 0, .ref rl])), (pl, .inl (kA 0, 401, .inl (upd (fun _ => 0) (0 : Int32).toNatClampNeg 0)))] H := hP
  have hD : va_D A [(tk, .inl (kA 0, 401, .inl (upd (fun _ => 0) (0 : Int32).toNatClampNeg 258))), (xr, .inr (2, [.ref tk, .ref pl, .int 1, .int 0, .int 1, .int 0, .int 0, .ref rl])), (pl, .inl (kA 0, 401, .inl (upd (fun _ => 0) (0 : Int32).toNatClampNeg 0)))] := hD
  have hP9 := hP.sub (ws' := [(xr, .inr (2, [.ref tk, .ref pl, .int 1, .int 0, .int 1, .int 0, .int 0, .ref rl]))]) [1] rfl
  have hD9 := hD.sub (ws' := [(xr, .inr (2, [.ref tk, .ref pl, .int 1, .int 0, .int 1, .int 0, .int 0, .ref rl]))]) [1] (by decide) rfl
  refine W.widen (k := 0) (n := 0) (Nat.le_of_ble_eq_true rfl) (Nat.le_of_ble_eq_true rfl) ?_
  exact W.zret (v := 0) hx hb hr rfl (fun t ht hW => ⟨⟨0, (), rfl, rfl, by rw [ht]; exact hP9, hD9⟩, hS.F ht⟩) hS.2.2 dX2_readClause_23
set_option maxHeartbeats 4000000 in
set_option maxRecDepth 100000 in
theorem mX2_read (l : Launch) (dC : Nat → ClassId) (dI : Nat → Nat → Nat) (kA : Nat → ClassId) (sz : Nat) (xr : Nat) (tk : Nat) (pl : Nat) (rl : Nat) (xt : Nat) (a0 : Nat) (l_sorts : Nat) (l_sumStarts : Nat) (l_sumStops : Nat) (l_testStarts : Nat) (l_testStops : Nat) (l_joins : Nat) (l_operands : Nat) (l_factStarts : Nat) (l_factMiddles : Nat) (l_factStops : Nat) (l_signs : Nat) (l_tests : Nat)  : Met l yX2_read wsX2_read ({ frames := 2, cells := 0, slots := 0, locals := 46 }) (zPc dC dI kA sz [.ref xr, .ref xt, .int 0, .ref a0] [(xr, .inr (2, [.ref tk, .ref pl, .int 0, .int 0, .int 0, .int 0, .int 0, .ref rl])), (tk, .inl (kA 0, 401, .inl (fun _ => 0))), (pl, .inl (kA 0, 401, .inl (fun _ => 0))), (a0, .inr (1, [.int 0, .int 0, .ref l_sorts, .ref l_sumStarts, .ref l_sumStops, .ref l_testStarts, .ref l_testStops, .int 0, .ref l_joins, .ref l_operands, .int 0, .ref l_factStarts, .ref l_factMiddles, .ref l_factStops, .ref l_signs, .int 0, .ref l_tests])), (xt, .inl (kA 0, 400, .inl (fun _ => 0)))]) (va_Qi (fun (r : Int32) (u : Unit) => r = 1) (zB dC dI (va_A [(xr, .inr (2, [.ref tk, .ref pl, .int 0, .int 0, .int 0, .int 0, .int 0, .ref rl])), (tk, .inl (kA 0, 401, .inl (fun _ => 0))), (pl, .inl (kA 0, 401, .inl (fun _ => 0))), (a0, .inr (1, [.int 0, .int 0, .ref l_sorts, .ref l_sumStarts, .ref l_sumStops, .ref l_testStarts, .ref l_testStops, .int 0, .ref l_joins, .ref l_operands, .int 0, .ref l_factStarts, .ref l_factMiddles, .ref l_factStops, .ref l_signs, .int 0, .ref l_tests])), (xt, .inl (kA 0, 400, .inl (fun _ => 0)))] sz) (fun (u : Unit) => [])) (va_A [(xr, .inr (2, [.ref tk, .ref pl, .int 0, .int 0, .int 0, .int 0, .int 0, .ref rl])), (tk, .inl (kA 0, 401, .inl (fun _ => 0))), (pl, .inl (kA 0, 401, .inl (fun _ => 0))), (a0, .inr (1, [.int 0, .int 0, .ref l_sorts, .ref l_sumStarts, .ref l_sumStops, .ref l_testStarts, .ref l_testStops, .int 0, .ref l_joins, .ref l_operands, .int 0, .ref l_factStarts, .ref l_factMiddles, .ref l_factStops, .ref l_signs, .int 0, .ref l_tests])), (xt, .inl (kA 0, 400, .inl (fun _ => 0)))] sz)) 0 0 (va_A [(xr, .inr (2, [.ref tk, .ref pl, .int 0, .int 0, .int 0, .int 0, .int 0, .ref rl])), (tk, .inl (kA 0, 401, .inl (fun _ => 0))), (pl, .inl (kA 0, 401, .inl (fun _ => 0))), (a0, .inr (1, [.int 0, .int 0, .ref l_sorts, .ref l_sumStarts, .ref l_sumStops, .ref l_testStarts, .ref l_testStops, .int 0, .ref l_joins, .ref l_operands, .int 0, .ref l_factStarts, .ref l_factMiddles, .ref l_factStops, .ref l_signs, .int 0, .ref l_tests])), (xt, .inl (kA 0, 400, .inl (fun _ => 0)))] sz) := by
  refine Met.ofW (cc := cX2_read) (maxL := 5) (ret := (some .int)) (by decide) rfl ?_
  intro p e s m args below meth c s₁ B hml hv
  obtain ⟨rfl, hsz, hP, hK, hD0⟩ := hv
  have hx := B.exec
  have hb := B.bytes
  have hr := B.returns
  have hts := atoms_spec (ws := wsX2_read) B.pre
  have hown : s.vm.findClass RX2 = some m.cls := findClass_of_methodNamed B.named
  have hlocks := B.notSynchronized
  subst hsz
  have hD := hD0.self (sz := s.heap.size)
  generalize hAe : va_A [(xr, .inr (2, [.ref tk, .ref pl, .int 0, .int 0, .int 0, .int 0, .int 0, .ref rl])), (tk, .inl (kA 0, 401, .inl (fun _ => 0))), (pl, .inl (kA 0, 401, .inl (fun _ => 0))), (a0, .inr (1, [.int 0, .int 0, .ref l_sorts, .ref l_sumStarts, .ref l_sumStops, .ref l_testStarts, .ref l_testStops, .int 0, .ref l_joins, .ref l_operands, .int 0, .ref l_factStarts, .ref l_factMiddles, .ref l_factStops, .ref l_signs, .int 0, .ref l_tests])), (xt, .inl (kA 0, 400, .inl (fun _ => 0)))] s.heap.size = A at hD ⊢
  have hA : ∀ q : Nat, s.heap.size ≤ q → A q := fun q h => by rw [← hAe]; exact Or.inr h
  have hS : va_S A s.heap s.heap [] := va_S.rf
  have hP : va_P (dC, dI) vwCl [(xr, .inr (2, [.ref tk, .ref pl, .int 0, .int 0, .int 0, .int 0, .int 0, .ref rl])), (tk, .inl (kA 0, 401, .inl (fun _ => 0))), (pl, .inl (kA 0, 401, .inl (fun _ => 0))), (a0, .inr (1, [.int 0, .int 0, .ref l_sorts, .ref l_sumStarts, .ref l_sumStops, .ref l_testStarts, .ref l_testStops, .int 0, .ref l_joins, .ref l_operands, .int 0, .ref l_factStarts, .ref l_factMiddles, .ref l_factStops, .ref l_signs, .int 0, .ref l_tests])), (xt, .inl (kA 0, 400, .inl (fun _ => 0)))] s.heap := hP
  have hl := lv_entry ([.ref xr, .ref xt, .int 0, .ref a0]) (n := 5) (Nat.le_of_ble_eq_true rfl)
  rw [lg_entry_eq]
  generalize (lg_sl ([.ref xr, .ref xt, .int 0, .ref a0]) ++ List.replicate (5 - (lg_sl ([.ref xr, .ref xt, .int 0, .ref a0])).length) Slot.unset).toArray = ls at hl ⊢
  have hl : lv_has ls 5 [(0, .ref xr), (1, .ref xt), (2, .int 0), (3, .ref a0)] := hl
  refine lv_aload_n hx hb dX2_read_0 rfl (lv_at hl 0 rfl) ?_
  refine lv_aload_n hx hb dX2_read_1 rfl (lv_at hl 1 rfl) ?_
  refine lv_iload_n hx hb dX2_read_2 rfl (lv_at hl 2 rfl) ?_
  refine lv_aload_n hx hb dX2_read_3 rfl (lv_at hl 1 rfl) ?_
  refine va_alen hx hb hK.1 hP 4 0 rfl rfl (v := 400) rfl dX2_read_4 ?_
  refine va_mmin hx hb (by rw [hml]; exact hl.1.symm) hown (kX2_read_1 hts) (kX2_read_2 hts) (kX2_read_3 hts) (kX2_read_4 hts) (Nat.le_of_ble_eq_true rfl) (Nat.le_of_ble_eq_true rfl) (Nat.le_of_ble_eq_true rfl) (Nat.le_of_ble_eq_true rfl) dX2_read_5 ?_
  refine zi 0 (by decide) ?_
  refine z_v (wr := [(a0, .inr (1, [.int 0, .int 0, .ref l_sorts, .ref l_sumStarts, .ref l_sumStops, .ref l_testStarts, .ref l_testStops, .int 0, .ref l_joins, .ref l_operands, .int 0, .ref l_factStarts, .ref l_factMiddles, .ref l_factStops, .ref l_signs, .int 0, .ref l_tests])), (xt, .inl (kA 0, 400, .inl (fun _ => 0)))]) (va_runV (As := [.ref xt, .int 0]) (rest := []) ⟨hx, hb, hml, hown, hts⟩ (mX2_cut l dC dI kA _ xr tk pl rl xt) (cwV 2 hts gX2_read_X2_cut rfl rfl rfl (by decide +kernel) ⟨(Nat.le_of_ble_eq_true rfl), (Nat.le_of_ble_eq_true rfl)⟩) ⟨zPc.blind, va_recv hK.1 hP (ci := 2) (q0 := 0) rfl rfl, zPre hK (hP.sub [0, 1, 2] rfl) (hD.sub [0, 1, 2] (by decide) rfl)⟩ rfl rfl hl.1 rfl (lv_room (Nat.le_of_ble_eq_true rfl)) dX2_read_8 ⟨(Nat.le_of_ble_eq_true rfl), (Nat.le_of_ble_eq_true rfl)⟩) hP hD hS hA [0, 1, 2] [3, 4] rfl rfl (by decide) (by decide) (fun u1 H locs hw2 hP hD hS => ?_)
  have hP : va_P (dC, dI) vwCl [(a0, .inr (1, [.int 0, .int 0, .ref l_sorts, .ref l_sumStarts, .ref l_sumStops, .ref l_testStarts, .ref l_testStops, .int 0, .ref l_joins, .ref l_operands, .int 0, .ref l_factStarts, .ref l_factMiddles, .ref l_factStops, .ref l_signs, .int 0, .ref l_tests])), (xt, .inl (kA 0, 400, .inl (fun _ => 0))), (xr, .inr (2, [.ref tk, .ref pl, .int 1, .int 0, .int 0, .int 0, .int 0, .ref rl])), (tk, .inl (kA 0, 401, .inl (upd (fun _ => 0) (0 : Int32).toNatClampNeg 258))), (pl, .inl (kA 0, 401, .inl (upd (fun _ => 0) (0 : Int32).toNatClampNeg 0)))] H := hP
  have hD : va_D A [(a0, .inr (1, [.int 0, .int 0, .ref l_sorts, .ref l_sumStarts, .ref l_sumStops, .ref l_testStarts, .ref l_testStops, .int 0, .ref l_joins, .ref l_operands, .int 0, .ref l_factStarts, .ref l_factMiddles, .ref l_factStops, .ref l_signs, .int 0, .ref l_tests])), (xt, .inl (kA 0, 400, .inl (fun _ => 0))), (xr, .inr (2, [.ref tk, .ref pl, .int 1, .int 0, .int 0, .int 0, .int 0, .ref rl])), (tk, .inl (kA 0, 401, .inl (upd (fun _ => 0) (0 : Int32).toNatClampNeg 258))), (pl, .inl (kA 0, 401, .inl (upd (fun _ => 0) (0 : Int32).toNatClampNeg 0)))] := hD
  refine lv_aload_n hx hb dX2_read_11 rfl (lv_at hl 0 rfl) ?_
  refine lv_iconst (v := 0) hx hb dX2_read_12 (by decide) ?_
  refine va_put (D := (dC, dI)) (ci := 2) (v := .int 0) (ty := .int) (C := RX2) (T := TX2) (N := 8) hx hb hts iX2_read_X2 tyX2 tyX2_ok nmX2 hown hK.1 hP hD hS 2 rfl rfl 3 (by decide) (kX2_read_5 hts) (fun _ h9 => h9) rfl (by decide +kernel) rfl rfl (Nat.le_of_ble_eq_true rfl) dX2_read_13 (fun H locs hP hD hS => ?_)
  have hP : va_P (dC, dI) vwCl [(a0, .inr (1, [.int 0, .int 0, .ref l_sorts, .ref l_sumStarts, .ref l_sumStops, .ref l_testStarts, .ref l_testStops, .int 0, .ref l_joins, .ref l_operands, .int 0, .ref l_factStarts, .ref l_factMiddles, .ref l_factStops, .ref l_signs, .int 0, .ref l_tests])), (xt, .inl (kA 0, 400, .inl (fun _ => 0))), (xr, .inr (2, [.ref tk, .ref pl, .int 1, .int 0, .int 0, .int 0, .int 0, .ref rl])), (tk, .inl (kA 0, 401, .inl (upd (fun _ => 0) (0 : Int32).toNatClampNeg 258))), (pl, .inl (kA 0, 401, .inl (upd (fun _ => 0) (0 : Int32).toNatClampNeg 0)))] H := hP
  have hD : va_D A [(a0, .inr (1, [.int 0, .int 0, .ref l_sorts, .ref l_sumStarts, .ref l_sumStops, .ref l_testStarts, .ref l_testStops, .int 0, .ref l_joins, .ref l_operands, .int 0, .ref l_factStarts, .ref l_factMiddles, .ref l_factStops, .ref l_signs, .int 0, .ref l_tests])), (xt, .inl (kA 0, 400, .inl (fun _ => 0))), (xr, .inr (2, [.ref tk, .ref pl, .int 1, .int 0, .int 0, .int 0, .int 0, .ref rl])), (tk, .inl (kA 0, 401, .inl (upd (fun _ => 0) (0 : Int32).toNatClampNeg 258))), (pl, .inl (kA 0, 401, .inl (upd (fun _ => 0) (0 : Int32).toNatClampNeg 0)))] := hD
  refine lv_aload_n hx hb dX2_read_16 rfl (lv_at hl 0 rfl) ?_
  refine lv_iconst (v := 0) hx hb dX2_read_17 (by decide) ?_
  refine va_put (D := (dC, dI)) (ci := 2) (v := .int 0) (ty := .int) (C := RX2) (T := TX2) (N := 8) hx hb hts iX2_read_X2 tyX2 tyX2_ok nmX2 hown hK.1 hP hD hS 2 rfl rfl 4 (by decide) (kX2_read_6 hts) (fun _ h9 => h9) rfl (by decide +kernel) rfl rfl (Nat.le_of_ble_eq_true rfl) dX2_read_18 (fun H locs hP hD hS => ?_)
  have hP : va_P (dC, dI) vwCl [(a0, .inr (1, [.int 0, .int 0, .ref l_sorts, .ref l_sumStarts, .ref l_sumStops, .ref l_testStarts, .ref l_testStops, .int 0, .ref l_joins, .ref l_operands, .int 0, .ref l_factStarts, .ref l_factMiddles, .ref l_factStops, .ref l_signs, .int 0, .ref l_tests])), (xt, .inl (kA 0, 400, .inl (fun _ => 0))), (xr, .inr (2, [.ref tk, .ref pl, .int 1, .int 0, .int 0, .int 0, .int 0, .ref rl])), (tk, .inl (kA 0, 401, .inl (upd (fun _ => 0) (0 : Int32).toNatClampNeg 258))), (pl, .inl (kA 0, 401, .inl (upd (fun _ => 0) (0 : Int32).toNatClampNeg 0)))] H := hP
  have hD : va_D A [(a0, .inr (1, [.int 0, .int 0, .ref l_sorts, .ref l_sumStarts, .ref l_sumStops, .ref l_testStarts, .ref l_testStops, .int 0, .ref l_joins, .ref l_operands, .int 0, .ref l_factStarts, .ref l_factMiddles, .ref l_factStops, .ref l_signs, .int 0, .ref l_tests])), (xt, .inl (kA 0, 400, .inl (fun _ => 0))), (xr, .inr (2, [.ref tk, .ref pl, .int 1, .int 0, .int 0, .int 0, .int 0, .ref rl])), (tk, .inl (kA 0, 401, .inl (upd (fun _ => 0) (0 : Int32).toNatClampNeg 258))), (pl, .inl (kA 0, 401, .inl (upd (fun _ => 0) (0 : Int32).toNatClampNeg 0)))] := hD
  refine lv_aload_n hx hb dX2_read_21 rfl (lv_at hl 0 rfl) ?_
  refine lv_iconst (v := 0) hx hb dX2_read_22 (by decide) ?_
  refine va_put (D := (dC, dI)) (ci := 2) (v := .int 0) (ty := .int) (C := RX2) (T := TX2) (N := 8) hx hb hts iX2_read_X2 tyX2 tyX2_ok nmX2 hown hK.1 hP hD hS 2 rfl rfl 5 (by decide) (kX2_read_7 hts) (fun _ h9 => h9) rfl (by decide +kernel) rfl rfl (Nat.le_of_ble_eq_true rfl) dX2_read_23 (fun H locs hP hD hS => ?_)
  have hP : va_P (dC, dI) vwCl [(a0, .inr (1, [.int 0, .int 0, .ref l_sorts, .ref l_sumStarts, .ref l_sumStops, .ref l_testStarts, .ref l_testStops, .int 0, .ref l_joins, .ref l_operands, .int 0, .ref l_factStarts, .ref l_factMiddles, .ref l_factStops, .ref l_signs, .int 0, .ref l_tests])), (xt, .inl (kA 0, 400, .inl (fun _ => 0))), (xr, .inr (2, [.ref tk, .ref pl, .int 1, .int 0, .int 0, .int 0, .int 0, .ref rl])), (tk, .inl (kA 0, 401, .inl (upd (fun _ => 0) (0 : Int32).toNatClampNeg 258))), (pl, .inl (kA 0, 401, .inl (upd (fun _ => 0) (0 : Int32).toNatClampNeg 0)))] H := hP
  have hD : va_D A [(a0, .inr (1, [.int 0, .int 0, .ref l_sorts, .ref l_sumStarts, .ref l_sumStops, .ref l_testStarts, .ref l_testStops, .int 0, .ref l_joins, .ref l_operands, .int 0, .ref l_factStarts, .ref l_factMiddles, .ref l_factStops, .ref l_signs, .int 0, .ref l_tests])), (xt, .inl (kA 0, 400, .inl (fun _ => 0))), (xr, .inr (2, [.ref tk, .ref pl, .int 1, .int 0, .int 0, .int 0, .int 0, .ref rl])), (tk, .inl (kA 0, 401, .inl (upd (fun _ => 0) (0 : Int32).toNatClampNeg 258))), (pl, .inl (kA 0, 401, .inl (upd (fun _ => 0) (0 : Int32).toNatClampNeg 0)))] := hD
  refine lv_aload_n hx hb dX2_read_26 rfl (lv_at hl 0 rfl) ?_
  refine lv_iconst (v := 0) hx hb dX2_read_27 (by decide) ?_
  refine va_put (D := (dC, dI)) (ci := 2) (v := .int 0) (ty := .boolean) (C := RX2) (T := TX2) (N := 8) hx hb hts iX2_read_X2 tyX2 tyX2_ok nmX2 hown hK.1 hP hD hS 2 rfl rfl 6 (by decide) (kX2_read_8 hts) (fun _ h9 => h9) rfl (by decide +kernel) rfl rfl (Nat.le_of_ble_eq_true rfl) dX2_read_28 (fun H locs hP hD hS => ?_)
  have hP : va_P (dC, dI) vwCl [(a0, .inr (1, [.int 0, .int 0, .ref l_sorts, .ref l_sumStarts, .ref l_sumStops, .ref l_testStarts, .ref l_testStops, .int 0, .ref l_joins, .ref l_operands, .int 0, .ref l_factStarts, .ref l_factMiddles, .ref l_factStops, .ref l_signs, .int 0, .ref l_tests])), (xt, .inl (kA 0, 400, .inl (fun _ => 0))), (xr, .inr (2, [.ref tk, .ref pl, .int 1, .int 0, .int 0, .int 0, .int 0, .ref rl])), (tk, .inl (kA 0, 401, .inl (upd (fun _ => 0) (0 : Int32).toNatClampNeg 258))), (pl, .inl (kA 0, 401, .inl (upd (fun _ => 0) (0 : Int32).toNatClampNeg 0)))] H := hP
  have hD : va_D A [(a0, .inr (1, [.int 0, .int 0, .ref l_sorts, .ref l_sumStarts, .ref l_sumStops, .ref l_testStarts, .ref l_testStops, .int 0, .ref l_joins, .ref l_operands, .int 0, .ref l_factStarts, .ref l_factMiddles, .ref l_factStops, .ref l_signs, .int 0, .ref l_tests])), (xt, .inl (kA 0, 400, .inl (fun _ => 0))), (xr, .inr (2, [.ref tk, .ref pl, .int 1, .int 0, .int 0, .int 0, .int 0, .ref rl])), (tk, .inl (kA 0, 401, .inl (upd (fun _ => 0) (0 : Int32).toNatClampNeg 258))), (pl, .inl (kA 0, 401, .inl (upd (fun _ => 0) (0 : Int32).toNatClampNeg 0)))] := hD
  refine lv_aload_n hx hb dX2_read_31 rfl (lv_at hl 0 rfl) ?_
  refine lv_aload_n hx hb dX2_read_32 rfl (lv_at hl 3 rfl) ?_
  refine va_put (D := (dC, dI)) (ci := 2) (v := .ref a0) (ty := .object "SnowMules$Law") (C := RX2) (T := TX2) (N := 8) hx hb hts iX2_read_X2 tyX2 tyX2_ok nmX2 hown hK.1 hP hD hS 2 rfl rfl 7 (by decide) (kX2_read_9 hts) (fun _ h9 => h9) rfl (by decide +kernel) rfl rfl (Nat.le_of_ble_eq_true rfl) dX2_read_33 (fun H locs hP hD hS => ?_)
  have hP : va_P (dC, dI) vwCl [(a0, .inr (1, [.int 0, .int 0, .ref l_sorts, .ref l_sumStarts, .ref l_sumStops, .ref l_testStarts, .ref l_testStops, .int 0, .ref l_joins, .ref l_operands, .int 0, .ref l_factStarts, .ref l_factMiddles, .ref l_factStops, .ref l_signs, .int 0, .ref l_tests])), (xt, .inl (kA 0, 400, .inl (fun _ => 0))), (xr, .inr (2, [.ref tk, .ref pl, .int 1, .int 0, .int 0, .int 0, .int 0, .ref a0])), (tk, .inl (kA 0, 401, .inl (upd (fun _ => 0) (0 : Int32).toNatClampNeg 258))), (pl, .inl (kA 0, 401, .inl (upd (fun _ => 0) (0 : Int32).toNatClampNeg 0)))] H := hP
  have hD : va_D A [(a0, .inr (1, [.int 0, .int 0, .ref l_sorts, .ref l_sumStarts, .ref l_sumStops, .ref l_testStarts, .ref l_testStops, .int 0, .ref l_joins, .ref l_operands, .int 0, .ref l_factStarts, .ref l_factMiddles, .ref l_factStops, .ref l_signs, .int 0, .ref l_tests])), (xt, .inl (kA 0, 400, .inl (fun _ => 0))), (xr, .inr (2, [.ref tk, .ref pl, .int 1, .int 0, .int 0, .int 0, .int 0, .ref a0])), (tk, .inl (kA 0, 401, .inl (upd (fun _ => 0) (0 : Int32).toNatClampNeg 258))), (pl, .inl (kA 0, 401, .inl (upd (fun _ => 0) (0 : Int32).toNatClampNeg 0)))] := hD
  refine lv_aload_n hx hb dX2_read_36 rfl (lv_at hl 0 rfl) ?_
  refine va_get (D := (dC, dI)) (ci := 2) (v := .ref a0) (C := RX2) (T := TX2) (N := 8) hx hb hts iX2_read_X2 hown hK.1 hP 2 rfl rfl 7 (by decide) (kX2_read_9 hts) (fun _ h9 => h9) rfl dX2_read_37 ?_
  refine z_v (wr := [(xt, .inl (kA 0, 400, .inl (fun _ => 0))), (xr, .inr (2, [.ref tk, .ref pl, .int 1, .int 0, .int 0, .int 0, .int 0, .ref a0])), (tk, .inl (kA 0, 401, .inl (upd (fun _ => 0) (0 : Int32).toNatClampNeg 258))), (pl, .inl (kA 0, 401, .inl (upd (fun _ => 0) (0 : Int32).toNatClampNeg 0)))]) (va_runV (As := []) (rest := []) ⟨hx, hb, hml, hown, hts⟩ (mX1_clear l dC dI kA _ a0 l_sorts l_sumStarts l_sumStops l_testStarts l_testStops l_joins l_operands l_factStarts l_factMiddles l_factStops l_signs l_tests) (cwV 0 hts gX2_read_X1_clear rfl rfl rfl (by decide +kernel) ⟨(Nat.le_of_ble_eq_true rfl), (Nat.le_of_ble_eq_true rfl)⟩) ⟨zPc.blind, va_recv hK.1 hP (ci := 1) (q0 := 0) rfl rfl, zPre hK (hP.sub [0] rfl) (hD.sub [0] (by decide) rfl)⟩ rfl rfl hl.1 rfl (lv_room (Nat.le_of_ble_eq_true rfl)) dX2_read_40 ⟨(Nat.le_of_ble_eq_true rfl), (Nat.le_of_ble_eq_true rfl)⟩) hP hD hS hA [0] [1, 2, 3, 4] rfl rfl (by decide) (by decide) (fun u4 H locs hw5 hP hD hS => ?_)
  have hP : va_P (dC, dI) vwCl [(xt, .inl (kA 0, 400, .inl (fun _ => 0))), (xr, .inr (2, [.ref tk, .ref pl, .int 1, .int 0, .int 0, .int 0, .int 0, .ref a0])), (tk, .inl (kA 0, 401, .inl (upd (fun _ => 0) (0 : Int32).toNatClampNeg 258))), (pl, .inl (kA 0, 401, .inl (upd (fun _ => 0) (0 : Int32).toNatClampNeg 0))), (a0, .inr (1, [.int 0, .int 0, .ref l_sorts, .ref l_sumStarts, .ref l_sumStops, .ref l_testStarts, .ref l_testStops, .int 0, .ref l_joins, .ref l_operands, .int 0, .ref l_factStarts, .ref l_factMiddles, .ref l_factStops, .ref l_signs, .int 0, .ref l_tests]))] H := hP
  have hD : va_D A [(xt, .inl (kA 0, 400, .inl (fun _ => 0))), (xr, .inr (2, [.ref tk, .ref pl, .int 1, .int 0, .int 0, .int 0, .int 0, .ref a0])), (tk, .inl (kA 0, 401, .inl (upd (fun _ => 0) (0 : Int32).toNatClampNeg 258))), (pl, .inl (kA 0, 401, .inl (upd (fun _ => 0) (0 : Int32).toNatClampNeg 0))), (a0, .inr (1, [.int 0, .int 0, .ref l_sorts, .ref l_sumStarts, .ref l_sumStops, .ref l_testStarts, .ref l_testStops, .int 0, .ref l_joins, .ref l_operands, .int 0, .ref l_factStarts, .ref l_factMiddles, .ref l_factStops, .ref l_signs, .int 0, .ref l_tests]))] := hD
  refine lv_iconst (v := 0) hx hb dX2_read_43 (by decide) ?_
  refine lv_istore (lv' := [(4, .int 0), (0, .ref xr), (1, .ref xt), (2, .int 0), (3, .ref a0)]) hx hb dX2_read_44 hl (by decide) rfl (fun ls hl => ?_)
  refine lv_iload hx hb dX2_read_46 (lv_at hl 0 rfl) ?_
  refine lv_bipush (v := 12) hx hb dX2_read_48 (by decide) ?_
  refine lv_icmp_gt (tgt := 94) hx hb dX2_read_50 (by decide) (fun c_7 => absurd c_7 (by decide)) (fun _ => ?_)
  refine lv_aload_n hx hb dX2_read_53 rfl (lv_at hl 1 rfl) ?_
  refine va_get (D := (dC, dI)) (ci := 2) (v := .int 0) (C := RX2) (T := TX2) (N := 8) hx hb hts iX2_read_X2 hown hK.1 hP 1 rfl rfl 4 (by decide) (kX2_read_6 hts) (fun _ h9 => h9) rfl dX2_read_54 ?_
  refine lv_if_ne (tgt := 94) hx hb dX2_read_57 (by decide) (fun c_8 => absurd (by decide) c_8) (fun _ => ?_)
  refine lv_aload_n hx hb dX2_read_60 rfl (lv_at hl 1 rfl) ?_
  refine lv_iload hx hb dX2_read_61 (lv_at hl 0 rfl) ?_
  refine z_i (wr := [(xt, .inl (kA 0, 400, .inl (fun _ => 0))), (a0, .inr (1, [.int 0, .int 0, .ref l_sorts, .ref l_sumStarts, .ref l_sumStops, .ref l_testStarts, .ref l_testStops, .int 0, .ref l_joins, .ref l_operands, .int 0, .ref l_factStarts, .ref l_factMiddles, .ref l_factStops, .ref l_signs, .int 0, .ref l_tests]))]) (va_runV (As := [.int 0]) (rest := []) ⟨hx, hb, hml, hown, hts⟩ (mX2_readClause l dC dI kA _ xr tk pl a0) (cwV 1 hts gX2_read_X2_readClause rfl rfl rfl (by decide +kernel) ⟨(Nat.le_of_ble_eq_true rfl), (Nat.le_of_ble_eq_true rfl)⟩) ⟨zPc.blind, va_recv hK.1 hP (ci := 2) (q0 := 1) rfl rfl, zPre hK (hP.sub [1, 2, 3] rfl) (hD.sub [1, 2, 3] (by decide) rfl)⟩ rfl rfl hl.1 rfl (lv_room (Nat.le_of_ble_eq_true rfl)) dX2_read_63 ⟨(Nat.le_of_ble_eq_true rfl), (Nat.le_of_ble_eq_true rfl)⟩) hP hD hS hA [1, 2, 3] [0, 4] rfl rfl (by decide) (by decide) (fun r11 u9 H locs hw10 hP hD hS => ?_)
  obtain rfl := hw10
  have hP : va_P (dC, dI) vwCl [(xt, .inl (kA 0, 400, .inl (fun _ => 0))), (a0, .inr (1, [.int 0, .int 0, .ref l_sorts, .ref l_sumStarts, .ref l_sumStops, .ref l_testStarts, .ref l_testStops, .int 0, .ref l_joins, .ref l_operands, .int 0, .ref l_factStarts, .ref l_factMiddles, .ref l_factStops, .ref l_signs, .int 0, .ref l_tests])), (xr, .inr (2, [.ref tk, .ref pl, .int 1, .int 0, .int 1, .int 0, .int 0, .ref a0]))] H := hP
  have hD : va_D A [(xt, .inl (kA 0, 400, .inl (fun _ => 0))), (a0, .inr (1, [.int 0, .int 0, .ref l_sorts, .ref l_sumStarts, .ref l_sumStops, .ref l_testStarts, .ref l_testStops, .int 0, .ref l_joins, .ref l_operands, .int 0, .ref l_factStarts, .ref l_factMiddles, .ref l_factStops, .ref l_signs, .int 0, .ref l_tests])), (xr, .inr (2, [.ref tk, .ref pl, .int 1, .int 0, .int 1, .int 0, .int 0, .ref a0]))] := hD
  refine lv_if_eq (tgt := 88) hx hb dX2_read_66 (by decide) (fun _ => ?_) (fun c_12 => absurd (by decide) c_12)
  refine lv_iinc (v := 1) (lv' := [(4, .int 1), (0, .ref xr), (1, .ref xt), (2, .int 0), (3, .ref a0)]) hx hb dX2_read_88 hl (k := 0) rfl (by decide) (by decide) rfl (fun ls hl => ?_)
  refine lv_goto (tgt := 46) hx hb dX2_read_91 (by decide) ?_
  refine lv_iload hx hb dX2_read_46 (lv_at hl 0 rfl) ?_
  refine lv_bipush (v := 12) hx hb dX2_read_48 (by decide) ?_
  refine lv_icmp_gt (tgt := 94) hx hb dX2_read_50 (by decide) (fun c_13 => absurd c_13 (by decide)) (fun _ => ?_)
  refine lv_aload_n hx hb dX2_read_53 rfl (lv_at hl 1 rfl) ?_
  refine va_get (D := (dC, dI)) (ci := 2) (v := .int 1) (C := RX2) (T := TX2) (N := 8) hx hb hts iX2_read_X2 hown hK.1 hP 2 rfl rfl 4 (by decide) (kX2_read_6 hts) (fun _ h9 => h9) rfl dX2_read_54 ?_
  refine lv_if_ne (tgt := 94) hx hb dX2_read_57 (by decide) (fun _ => ?_) (fun c_14 => absurd c_14 (by decide))
  refine lv_aload_n hx hb dX2_read_94 rfl (lv_at hl 1 rfl) ?_
  refine va_get (D := (dC, dI)) (ci := 2) (v := .int 1) (C := RX2) (T := TX2) (N := 8) hx hb hts iX2_read_X2 hown hK.1 hP 2 rfl rfl 4 (by decide) (kX2_read_6 hts) (fun _ h9 => h9) rfl dX2_read_95 ?_
  have hP9 := hP.sub (ws' := []) [] rfl
  have hD9 := hD.sub (ws' := []) [] (by decide) rfl
  refine W.widen (k := 0) (n := 0) (Nat.le_of_ble_eq_true rfl) (Nat.le_of_ble_eq_true rfl) ?_
  exact W.iret (v := 1) hx hb hr (fun t ht hW => ⟨⟨1, (), rfl, rfl, by rw [ht]; exact hP9, hD9⟩, hS.F ht⟩) hS.2.2 dX2_read_98
