set_option maxHeartbeats 4000000 in
set_option maxRecDepth 100000 in
theorem mX6_init_12_4 (l : Launch) (dC : Nat → ClassId) (dI : Nat → Nat → Nat) (kA : Nat → ClassId) (sz : Nat) (a0 : Nat)  : Met l yX6_init wsX6_init ({ frames := 1, cells := 1, slots := 48, locals := 14 }) (zPc dC dI kA sz [.ref a0, .int 12, .int 4] [(a0, .inr (6, [.int 0, .null, .int 0]))]) (va_Qv (fun (u : Nat) => True) (zB dC dI (va_A [(a0, .inr (6, [.int 0, .null, .int 0]))] sz) (fun (u : Nat) => [(a0, .inr (6, [.int 4, .ref u, .int 0])), (u, .inl (kA 0, 48, .inl (fun _ => 0)))])) (va_A [(a0, .inr (6, [.int 0, .null, .int 0]))] sz)) 1 48 (va_A [(a0, .inr (6, [.int 0, .null, .int 0]))] sz) := by
  refine Met.ofW (cc := cX6_init) (maxL := 3) (ret := none) (by decide) rfl ?_
  intro p e s m args below meth c s₁ B hml hv
  obtain ⟨rfl, hsz, hP, hK, hD0⟩ := hv
  have hx := B.exec
  have hb := B.bytes
  have hr := B.returns
  have hts := atoms_spec (ws := wsX6_init) B.pre
  have hown : s.vm.findClass RX6 = some m.cls := findClass_of_methodNamed B.named
  have hlocks := B.notSynchronized
  have hin : meth.name = "<init>" := (name_of_methodNamed B.named B.method).1
  subst hsz
  have hD := hD0.self (sz := s.heap.size)
  generalize hAe : va_A [(a0, .inr (6, [.int 0, .null, .int 0]))] s.heap.size = A at hD ⊢
  have hA : ∀ q : Nat, s.heap.size ≤ q → A q := fun q h => by rw [← hAe]; exact Or.inr h
  have hS : va_S A s.heap s.heap [] := va_S.rf
  have hP : va_P (dC, dI) vwCl [(a0, .inr (6, [.int 0, .null, .int 0]))] s.heap := hP
  have hl := lv_entry ([.ref a0, .int 12, .int 4]) (n := 3) (Nat.le_of_ble_eq_true rfl)
  rw [lg_entry_eq]
  generalize (lg_sl ([.ref a0, .int 12, .int 4]) ++ List.replicate (3 - (lg_sl ([.ref a0, .int 12, .int 4])).length) Slot.unset).toArray = ls at hl ⊢
  have hl : lv_has ls 3 [(0, .ref a0), (1, .int 12), (2, .int 4)] := hl
  refine lv_aload_n hx hb dX6_init_0 rfl (lv_at hl 0 rfl) ?_
  refine W.objInit hx hb hown (kX6_init_1 hts) (kX6_init_2 hts) (kX6_init_3 hts) rfl (by rw [hml]; exact hl.1) rfl dX6_init_1 (Nat.le_of_ble_eq_true rfl) (Nat.le_of_ble_eq_true rfl) ?_
  refine W.eq (g2 := F0 m 4 ls []) rfl ?_
  refine lv_aload_n hx hb dX6_init_4 rfl (lv_at hl 0 rfl) ?_
  refine lv_iload_n hx hb dX6_init_5 rfl (lv_at hl 2 rfl) ?_
  refine va_putF (D := (dC, dI)) (ci := 6) (v := .int 4) (ty := .int) (C := RX6) (T := TX6) (N := 3) hx hb hts iX6_init_X6 tyX6 tyX6_ok nmX6 hown hK.1 hP hD hS 0 rfl rfl 0 (by decide) (kX6_init_4 hts) (fun _ h9 => h9) rfl hin rfl (by decide +kernel) rfl rfl (Nat.le_of_ble_eq_true rfl) dX6_init_6 (fun H locs hP hD hS => ?_)
  have hP : va_P (dC, dI) vwCl [(a0, .inr (6, [.int 4, .null, .int 0]))] H := hP
  have hD : va_D A [(a0, .inr (6, [.int 4, .null, .int 0]))] := hD
  refine lv_aload_n hx hb dX6_init_9 rfl (lv_at hl 0 rfl) ?_
  refine lv_iconst (v := 0) hx hb dX6_init_10 (by decide) ?_
  refine lv_iload_n hx hb dX6_init_11 rfl (lv_at hl 1 rfl) ?_
  refine lv_iload_n hx hb dX6_init_12 rfl (lv_at hl 2 rfl) ?_
  refine lv_imul hx hb dX6_init_13 ?_
  refine zi 48 (by decide) ?_
  refine va_mmax hx hb (by rw [hml]; exact hl.1.symm) hown (kX6_init_5 hts) (kX6_init_6 hts) (kX6_init_7 hts) (kX6_init_8 hts) (Nat.le_of_ble_eq_true rfl) (Nat.le_of_ble_eq_true rfl) (Nat.le_of_ble_eq_true rfl) (Nat.le_of_ble_eq_true rfl) dX6_init_14 ?_
  refine zi 48 (by decide) ?_
  refine z_newi hx hb (kX6_init_9 hts) hK hP hD hS hA 48 (by decide) (by decide) (by decide) (Nat.le_of_ble_eq_true rfl) (Nat.le_of_ble_eq_true rfl) dX6_init_17 (fun q1 H hP hD hS => ?_)
  refine W.widen (k := 1) (n := 48) (Nat.le_of_ble_eq_true rfl) (Nat.le_of_ble_eq_true rfl) ?_
  have hP : va_P (dC, dI) vwCl [(a0, .inr (6, [.int 4, .null, .int 0])), (q1, .inl (kA 0, 48, .inl (fun _ => 0)))] H := hP
  have hD : va_D A [(a0, .inr (6, [.int 4, .null, .int 0])), (q1, .inl (kA 0, 48, .inl (fun _ => 0)))] := hD
  refine va_putF (D := (dC, dI)) (ci := 6) (v := .ref q1) (ty := .array (.int)) (C := RX6) (T := TX6) (N := 3) hx hb hts iX6_init_X6 tyX6 tyX6_ok nmX6 hown hK.1 hP hD hS 0 rfl rfl 1 (by decide) (kX6_init_10 hts) (fun _ h9 => h9) rfl hin rfl (by decide +kernel) rfl rfl (Nat.le_of_ble_eq_true rfl) dX6_init_19 (fun H locs hP hD hS => ?_)
  have hP : va_P (dC, dI) vwCl [(a0, .inr (6, [.int 4, .ref q1, .int 0])), (q1, .inl (kA 0, 48, .inl (fun _ => 0)))] H := hP
  have hD : va_D A [(a0, .inr (6, [.int 4, .ref q1, .int 0])), (q1, .inl (kA 0, 48, .inl (fun _ => 0)))] := hD
  have hP9 := hP.sub (ws' := [(a0, .inr (6, [.int 4, .ref q1, .int 0])), (q1, .inl (kA 0, 48, .inl (fun _ => 0)))]) [0, 1] rfl
  have hD9 := hD.sub (ws' := [(a0, .inr (6, [.int 4, .ref q1, .int 0])), (q1, .inl (kA 0, 48, .inl (fun _ => 0)))]) [0, 1] (by decide) rfl
  refine W.widen (k := 1) (n := 48) (Nat.le_of_ble_eq_true rfl) (Nat.le_of_ble_eq_true rfl) ?_
  exact W.vret hx hb hr (fun t ht hW => ⟨⟨(q1), rfl, trivial, by rw [ht]; exact hP9, hD9⟩, hS.F ht⟩) hS.2.2 dX6_init_22
set_option maxHeartbeats 4000000 in
set_option maxRecDepth 100000 in
theorem mX6_init_20_5 (l : Launch) (dC : Nat → ClassId) (dI : Nat → Nat → Nat) (kA : Nat → ClassId) (sz : Nat) (a0 : Nat)  : Met l yX6_init wsX6_init ({ frames := 1, cells := 1, slots := 100, locals := 14 }) (zPc dC dI kA sz [.ref a0, .int 20, .int 5] [(a0, .inr (6, [.int 0, .null, .int 0]))]) (va_Qv (fun (u : Nat) => True) (zB dC dI (va_A [(a0, .inr (6, [.int 0, .null, .int 0]))] sz) (fun (u : Nat) => [(a0, .inr (6, [.int 5, .ref u, .int 0])), (u, .inl (kA 0, 100, .inl (fun _ => 0)))])) (va_A [(a0, .inr (6, [.int 0, .null, .int 0]))] sz)) 1 100 (va_A [(a0, .inr (6, [.int 0, .null, .int 0]))] sz) := by
  refine Met.ofW (cc := cX6_init) (maxL := 3) (ret := none) (by decide) rfl ?_
  intro p e s m args below meth c s₁ B hml hv
  obtain ⟨rfl, hsz, hP, hK, hD0⟩ := hv
  have hx := B.exec
  have hb := B.bytes
  have hr := B.returns
  have hts := atoms_spec (ws := wsX6_init) B.pre
  have hown : s.vm.findClass RX6 = some m.cls := findClass_of_methodNamed B.named
  have hlocks := B.notSynchronized
  have hin : meth.name = "<init>" := (name_of_methodNamed B.named B.method).1
  subst hsz
  have hD := hD0.self (sz := s.heap.size)
  generalize hAe : va_A [(a0, .inr (6, [.int 0, .null, .int 0]))] s.heap.size = A at hD ⊢
  have hA : ∀ q : Nat, s.heap.size ≤ q → A q := fun q h => by rw [← hAe]; exact Or.inr h
  have hS : va_S A s.heap s.heap [] := va_S.rf
  have hP : va_P (dC, dI) vwCl [(a0, .inr (6, [.int 0, .null, .int 0]))] s.heap := hP
  have hl := lv_entry ([.ref a0, .int 20, .int 5]) (n := 3) (Nat.le_of_ble_eq_true rfl)
  rw [lg_entry_eq]
  generalize (lg_sl ([.ref a0, .int 20, .int 5]) ++ List.replicate (3 - (lg_sl ([.ref a0, .int 20, .int 5])).length) Slot.unset).toArray = ls at hl ⊢
  have hl : lv_has ls 3 [(0, .ref a0), (1, .int 20), (2, .int 5)] := hl
  refine lv_aload_n hx hb dX6_init_0 rfl (lv_at hl 0 rfl) ?_
  refine W.objInit hx hb hown (kX6_init_1 hts) (kX6_init_2 hts) (kX6_init_3 hts) rfl (by rw [hml]; exact hl.1) rfl dX6_init_1 (Nat.le_of_ble_eq_true rfl) (Nat.le_of_ble_eq_true rfl) ?_
  refine W.eq (g2 := F0 m 4 ls []) rfl ?_
  refine lv_aload_n hx hb dX6_init_4 rfl (lv_at hl 0 rfl) ?_
  refine lv_iload_n hx hb dX6_init_5 rfl (lv_at hl 2 rfl) ?_
  refine va_putF (D := (dC, dI)) (ci := 6) (v := .int 5) (ty := .int) (C := RX6) (T := TX6) (N := 3) hx hb hts iX6_init_X6 tyX6 tyX6_ok nmX6 hown hK.1 hP hD hS 0 rfl rfl 0 (by decide) (kX6_init_4 hts) (fun _ h9 => h9) rfl hin rfl (by decide +kernel) rfl rfl (Nat.le_of_ble_eq_true rfl) dX6_init_6 (fun H locs hP hD hS => ?_)
  have hP : va_P (dC, dI) vwCl [(a0, .inr (6, [.int 5, .null, .int 0]))] H := hP
  have hD : va_D A [(a0, .inr (6, [.int 5, .null, .int 0]))] := hD
  refine lv_aload_n hx hb dX6_init_9 rfl (lv_at hl 0 rfl) ?_
  refine lv_iconst (v := 0) hx hb dX6_init_10 (by decide) ?_
  refine lv_iload_n hx hb dX6_init_11 rfl (lv_at hl 1 rfl) ?_
  refine lv_iload_n hx hb dX6_init_12 rfl (lv_at hl 2 rfl) ?_
  refine lv_imul hx hb dX6_init_13 ?_
  refine zi 100 (by decide) ?_
  refine va_mmax hx hb (by rw [hml]; exact hl.1.symm) hown (kX6_init_5 hts) (kX6_init_6 hts) (kX6_init_7 hts) (kX6_init_8 hts) (Nat.le_of_ble_eq_true rfl) (Nat.le_of_ble_eq_true rfl) (Nat.le_of_ble_eq_true rfl) (Nat.le_of_ble_eq_true rfl) dX6_init_14 ?_
  refine zi 100 (by decide) ?_
  refine z_newi hx hb (kX6_init_9 hts) hK hP hD hS hA 100 (by decide) (by decide) (by decide) (Nat.le_of_ble_eq_true rfl) (Nat.le_of_ble_eq_true rfl) dX6_init_17 (fun q1 H hP hD hS => ?_)
  refine W.widen (k := 1) (n := 100) (Nat.le_of_ble_eq_true rfl) (Nat.le_of_ble_eq_true rfl) ?_
  have hP : va_P (dC, dI) vwCl [(a0, .inr (6, [.int 5, .null, .int 0])), (q1, .inl (kA 0, 100, .inl (fun _ => 0)))] H := hP
  have hD : va_D A [(a0, .inr (6, [.int 5, .null, .int 0])), (q1, .inl (kA 0, 100, .inl (fun _ => 0)))] := hD
  refine va_putF (D := (dC, dI)) (ci := 6) (v := .ref q1) (ty := .array (.int)) (C := RX6) (T := TX6) (N := 3) hx hb hts iX6_init_X6 tyX6 tyX6_ok nmX6 hown hK.1 hP hD hS 0 rfl rfl 1 (by decide) (kX6_init_10 hts) (fun _ h9 => h9) rfl hin rfl (by decide +kernel) rfl rfl (Nat.le_of_ble_eq_true rfl) dX6_init_19 (fun H locs hP hD hS => ?_)
  have hP : va_P (dC, dI) vwCl [(a0, .inr (6, [.int 5, .ref q1, .int 0])), (q1, .inl (kA 0, 100, .inl (fun _ => 0)))] H := hP
  have hD : va_D A [(a0, .inr (6, [.int 5, .ref q1, .int 0])), (q1, .inl (kA 0, 100, .inl (fun _ => 0)))] := hD
  have hP9 := hP.sub (ws' := [(a0, .inr (6, [.int 5, .ref q1, .int 0])), (q1, .inl (kA 0, 100, .inl (fun _ => 0)))]) [0, 1] rfl
  have hD9 := hD.sub (ws' := [(a0, .inr (6, [.int 5, .ref q1, .int 0])), (q1, .inl (kA 0, 100, .inl (fun _ => 0)))]) [0, 1] (by decide) rfl
  refine W.widen (k := 1) (n := 100) (Nat.le_of_ble_eq_true rfl) (Nat.le_of_ble_eq_true rfl) ?_
  exact W.vret hx hb hr (fun t ht hW => ⟨⟨(q1), rfl, trivial, by rw [ht]; exact hP9, hD9⟩, hS.F ht⟩) hS.2.2 dX6_init_22
set_option maxHeartbeats 4000000 in
set_option maxRecDepth 100000 in
theorem mX6_init_16_9 (l : Launch) (dC : Nat → ClassId) (dI : Nat → Nat → Nat) (kA : Nat → ClassId) (sz : Nat) (a0 : Nat)  : Met l yX6_init wsX6_init ({ frames := 1, cells := 1, slots := 144, locals := 14 }) (zPc dC dI kA sz [.ref a0, .int 16, .int 9] [(a0, .inr (6, [.int 0, .null, .int 0]))]) (va_Qv (fun (u : Nat) => True) (zB dC dI (va_A [(a0, .inr (6, [.int 0, .null, .int 0]))] sz) (fun (u : Nat) => [(a0, .inr (6, [.int 9, .ref u, .int 0])), (u, .inl (kA 0, 144, .inl (fun _ => 0)))])) (va_A [(a0, .inr (6, [.int 0, .null, .int 0]))] sz)) 1 144 (va_A [(a0, .inr (6, [.int 0, .null, .int 0]))] sz) := by
  refine Met.ofW (cc := cX6_init) (maxL := 3) (ret := none) (by decide) rfl ?_
  intro p e s m args below meth c s₁ B hml hv
  obtain ⟨rfl, hsz, hP, hK, hD0⟩ := hv
  have hx := B.exec
  have hb := B.bytes
  have hr := B.returns
  have hts := atoms_spec (ws := wsX6_init) B.pre
  have hown : s.vm.findClass RX6 = some m.cls := findClass_of_methodNamed B.named
  have hlocks := B.notSynchronized
  have hin : meth.name = "<init>" := (name_of_methodNamed B.named B.method).1
  subst hsz
  have hD := hD0.self (sz := s.heap.size)
  generalize hAe : va_A [(a0, .inr (6, [.int 0, .null, .int 0]))] s.heap.size = A at hD ⊢
  have hA : ∀ q : Nat, s.heap.size ≤ q → A q := fun q h => by rw [← hAe]; exact Or.inr h
  have hS : va_S A s.heap s.heap [] := va_S.rf
  have hP : va_P (dC, dI) vwCl [(a0, .inr (6, [.int 0, .null, .int 0]))] s.heap := hP
  have hl := lv_entry ([.ref a0, .int 16, .int 9]) (n := 3) (Nat.le_of_ble_eq_true rfl)
  rw [lg_entry_eq]
  generalize (lg_sl ([.ref a0, .int 16, .int 9]) ++ List.replicate (3 - (lg_sl ([.ref a0, .int 16, .int 9])).length) Slot.unset).toArray = ls at hl ⊢
  have hl : lv_has ls 3 [(0, .ref a0), (1, .int 16), (2, .int 9)] := hl
  refine lv_aload_n hx hb dX6_init_0 rfl (lv_at hl 0 rfl) ?_
  refine W.objInit hx hb hown (kX6_init_1 hts) (kX6_init_2 hts) (kX6_init_3 hts) rfl (by rw [hml]; exact hl.1) rfl dX6_init_1 (Nat.le_of_ble_eq_true rfl) (Nat.le_of_ble_eq_true rfl) ?_
  refine W.eq (g2 := F0 m 4 ls []) rfl ?_
  refine lv_aload_n hx hb dX6_init_4 rfl (lv_at hl 0 rfl) ?_
  refine lv_iload_n hx hb dX6_init_5 rfl (lv_at hl 2 rfl) ?_
  refine va_putF (D := (dC, dI)) (ci := 6) (v := .int 9) (ty := .int) (C := RX6) (T := TX6) (N := 3) hx hb hts iX6_init_X6 tyX6 tyX6_ok nmX6 hown hK.1 hP hD hS 0 rfl rfl 0 (by decide) (kX6_init_4 hts) (fun _ h9 => h9) rfl hin rfl (by decide +kernel) rfl rfl (Nat.le_of_ble_eq_true rfl) dX6_init_6 (fun H locs hP hD hS => ?_)
  have hP : va_P (dC, dI) vwCl [(a0, .inr (6, [.int 9, .null, .int 0]))] H := hP
  have hD : va_D A [(a0, .inr (6, [.int 9, .null, .int 0]))] := hD
  refine lv_aload_n hx hb dX6_init_9 rfl (lv_at hl 0 rfl) ?_
  refine lv_iconst (v := 0) hx hb dX6_init_10 (by decide) ?_
  refine lv_iload_n hx hb dX6_init_11 rfl (lv_at hl 1 rfl) ?_
  refine lv_iload_n hx hb dX6_init_12 rfl (lv_at hl 2 rfl) ?_
  refine lv_imul hx hb dX6_init_13 ?_
  refine zi 144 (by decide) ?_
  refine va_mmax hx hb (by rw [hml]; exact hl.1.symm) hown (kX6_init_5 hts) (kX6_init_6 hts) (kX6_init_7 hts) (kX6_init_8 hts) (Nat.le_of_ble_eq_true rfl) (Nat.le_of_ble_eq_true rfl) (Nat.le_of_ble_eq_true rfl) (Nat.le_of_ble_eq_true rfl) dX6_init_14 ?_
  refine zi 144 (by decide) ?_
  refine z_newi hx hb (kX6_init_9 hts) hK hP hD hS hA 144 (by decide) (by decide) (by decide) (Nat.le_of_ble_eq_true rfl) (Nat.le_of_ble_eq_true rfl) dX6_init_17 (fun q1 H hP hD hS => ?_)
  refine W.widen (k := 1) (n := 144) (Nat.le_of_ble_eq_true rfl) (Nat.le_of_ble_eq_true rfl) ?_
  have hP : va_P (dC, dI) vwCl [(a0, .inr (6, [.int 9, .null, .int 0])), (q1, .inl (kA 0, 144, .inl (fun _ => 0)))] H := hP
  have hD : va_D A [(a0, .inr (6, [.int 9, .null, .int 0])), (q1, .inl (kA 0, 144, .inl (fun _ => 0)))] := hD
  refine va_putF (D := (dC, dI)) (ci := 6) (v := .ref q1) (ty := .array (.int)) (C := RX6) (T := TX6) (N := 3) hx hb hts iX6_init_X6 tyX6 tyX6_ok nmX6 hown hK.1 hP hD hS 0 rfl rfl 1 (by decide) (kX6_init_10 hts) (fun _ h9 => h9) rfl hin rfl (by decide +kernel) rfl rfl (Nat.le_of_ble_eq_true rfl) dX6_init_19 (fun H locs hP hD hS => ?_)
  have hP : va_P (dC, dI) vwCl [(a0, .inr (6, [.int 9, .ref q1, .int 0])), (q1, .inl (kA 0, 144, .inl (fun _ => 0)))] H := hP
  have hD : va_D A [(a0, .inr (6, [.int 9, .ref q1, .int 0])), (q1, .inl (kA 0, 144, .inl (fun _ => 0)))] := hD
  have hP9 := hP.sub (ws' := [(a0, .inr (6, [.int 9, .ref q1, .int 0])), (q1, .inl (kA 0, 144, .inl (fun _ => 0)))]) [0, 1] rfl
  have hD9 := hD.sub (ws' := [(a0, .inr (6, [.int 9, .ref q1, .int 0])), (q1, .inl (kA 0, 144, .inl (fun _ => 0)))]) [0, 1] (by decide) rfl
  refine W.widen (k := 1) (n := 144) (Nat.le_of_ble_eq_true rfl) (Nat.le_of_ble_eq_true rfl) ?_
  exact W.vret hx hb hr (fun t ht hW => ⟨⟨(q1), rfl, trivial, by rw [ht]; exact hP9, hD9⟩, hS.F ht⟩) hS.2.2 dX6_init_22
set_option maxHeartbeats 4000000 in
set_option maxRecDepth 100000 in
theorem mX6_init_6_4 (l : Launch) (dC : Nat → ClassId) (dI : Nat → Nat → Nat) (kA : Nat → ClassId) (sz : Nat) (a0 : Nat)  : Met l yX6_init wsX6_init ({ frames := 1, cells := 1, slots := 24, locals := 14 }) (zPc dC dI kA sz [.ref a0, .int 6, .int 4] [(a0, .inr (6, [.int 0, .null, .int 0]))]) (va_Qv (fun (u : Nat) => True) (zB dC dI (va_A [(a0, .inr (6, [.int 0, .null, .int 0]))] sz) (fun (u : Nat) => [(a0, .inr (6, [.int 4, .ref u, .int 0])), (u, .inl (kA 0, 24, .inl (fun _ => 0)))])) (va_A [(a0, .inr (6, [.int 0, .null, .int 0]))] sz)) 1 24 (va_A [(a0, .inr (6, [.int 0, .null, .int 0]))] sz) := by
  refine Met.ofW (cc := cX6_init) (maxL := 3) (ret := none) (by decide) rfl ?_
  intro p e s m args below meth c s₁ B hml hv
  obtain ⟨rfl, hsz, hP, hK, hD0⟩ := hv
  have hx := B.exec
  have hb := B.bytes
  have hr := B.returns
  have hts := atoms_spec (ws := wsX6_init) B.pre
  have hown : s.vm.findClass RX6 = some m.cls := findClass_of_methodNamed B.named
  have hlocks := B.notSynchronized
  have hin : meth.name = "<init>" := (name_of_methodNamed B.named B.method).1
  subst hsz
  have hD := hD0.self (sz := s.heap.size)
  generalize hAe : va_A [(a0, .inr (6, [.int 0, .null, .int 0]))] s.heap.size = A at hD ⊢
  have hA : ∀ q : Nat, s.heap.size ≤ q → A q := fun q h => by rw [← hAe]; exact Or.inr h
  have hS : va_S A s.heap s.heap [] := va_S.rf
  have hP : va_P (dC, dI) vwCl [(a0, .inr (6, [.int 0, .null, .int 0]))] s.heap := hP
  have hl := lv_entry ([.ref a0, .int 6, .int 4]) (n := 3) (Nat.le_of_ble_eq_true rfl)
  rw [lg_entry_eq]
  generalize (lg_sl ([.ref a0, .int 6, .int 4]) ++ List.replicate (3 - (lg_sl ([.ref a0, .int 6, .int 4])).length) Slot.unset).toArray = ls at hl ⊢
  have hl : lv_has ls 3 [(0, .ref a0), (1, .int 6), (2, .int 4)] := hl
  refine lv_aload_n hx hb dX6_init_0 rfl (lv_at hl 0 rfl) ?_
  refine W.objInit hx hb hown (kX6_init_1 hts) (kX6_init_2 hts) (kX6_init_3 hts) rfl (by rw [hml]; exact hl.1) rfl dX6_init_1 (Nat.le_of_ble_eq_true rfl) (Nat.le_of_ble_eq_true rfl) ?_
  refine W.eq (g2 := F0 m 4 ls []) rfl ?_
  refine lv_aload_n hx hb dX6_init_4 rfl (lv_at hl 0 rfl) ?_
  refine lv_iload_n hx hb dX6_init_5 rfl (lv_at hl 2 rfl) ?_
  refine va_putF (D := (dC, dI)) (ci := 6) (v := .int 4) (ty := .int) (C := RX6) (T := TX6) (N := 3) hx hb hts iX6_init_X6 tyX6 tyX6_ok nmX6 hown hK.1 hP hD hS 0 rfl rfl 0 (by decide) (kX6_init_4 hts) (fun _ h9 => h9) rfl hin rfl (by decide +kernel) rfl rfl (Nat.le_of_ble_eq_true rfl) dX6_init_6 (fun H locs hP hD hS => ?_)
  have hP : va_P (dC, dI) vwCl [(a0, .inr (6, [.int 4, .null, .int 0]))] H := hP
  have hD : va_D A [(a0, .inr (6, [.int 4, .null, .int 0]))] := hD
  refine lv_aload_n hx hb dX6_init_9 rfl (lv_at hl 0 rfl) ?_
  refine lv_iconst (v := 0) hx hb dX6_init_10 (by decide) ?_
  refine lv_iload_n hx hb dX6_init_11 rfl (lv_at hl 1 rfl) ?_
  refine lv_iload_n hx hb dX6_init_12 rfl (lv_at hl 2 rfl) ?_
  refine lv_imul hx hb dX6_init_13 ?_
  refine zi 24 (by decide) ?_
  refine va_mmax hx hb (by rw [hml]; exact hl.1.symm) hown (kX6_init_5 hts) (kX6_init_6 hts) (kX6_init_7 hts) (kX6_init_8 hts) (Nat.le_of_ble_eq_true rfl) (Nat.le_of_ble_eq_true rfl) (Nat.le_of_ble_eq_true rfl) (Nat.le_of_ble_eq_true rfl) dX6_init_14 ?_
  refine zi 24 (by decide) ?_
  refine z_newi hx hb (kX6_init_9 hts) hK hP hD hS hA 24 (by decide) (by decide) (by decide) (Nat.le_of_ble_eq_true rfl) (Nat.le_of_ble_eq_true rfl) dX6_init_17 (fun q1 H hP hD hS => ?_)
  refine W.widen (k := 1) (n := 24) (Nat.le_of_ble_eq_true rfl) (Nat.le_of_ble_eq_true rfl) ?_
  have hP : va_P (dC, dI) vwCl [(a0, .inr (6, [.int 4, .null, .int 0])), (q1, .inl (kA 0, 24, .inl (fun _ => 0)))] H := hP
  have hD : va_D A [(a0, .inr (6, [.int 4, .null, .int 0])), (q1, .inl (kA 0, 24, .inl (fun _ => 0)))] := hD
  refine va_putF (D := (dC, dI)) (ci := 6) (v := .ref q1) (ty := .array (.int)) (C := RX6) (T := TX6) (N := 3) hx hb hts iX6_init_X6 tyX6 tyX6_ok nmX6 hown hK.1 hP hD hS 0 rfl rfl 1 (by decide) (kX6_init_10 hts) (fun _ h9 => h9) rfl hin rfl (by decide +kernel) rfl rfl (Nat.le_of_ble_eq_true rfl) dX6_init_19 (fun H locs hP hD hS => ?_)
  have hP : va_P (dC, dI) vwCl [(a0, .inr (6, [.int 4, .ref q1, .int 0])), (q1, .inl (kA 0, 24, .inl (fun _ => 0)))] H := hP
  have hD : va_D A [(a0, .inr (6, [.int 4, .ref q1, .int 0])), (q1, .inl (kA 0, 24, .inl (fun _ => 0)))] := hD
  have hP9 := hP.sub (ws' := [(a0, .inr (6, [.int 4, .ref q1, .int 0])), (q1, .inl (kA 0, 24, .inl (fun _ => 0)))]) [0, 1] rfl
  have hD9 := hD.sub (ws' := [(a0, .inr (6, [.int 4, .ref q1, .int 0])), (q1, .inl (kA 0, 24, .inl (fun _ => 0)))]) [0, 1] (by decide) rfl
  refine W.widen (k := 1) (n := 24) (Nat.le_of_ble_eq_true rfl) (Nat.le_of_ble_eq_true rfl) ?_
  exact W.vret hx hb hr (fun t ht hW => ⟨⟨(q1), rfl, trivial, by rw [ht]; exact hP9, hD9⟩, hS.F ht⟩) hS.2.2 dX6_init_22
set_option maxHeartbeats 4000000 in
set_option maxRecDepth 100000 in
theorem mX6_init_8_3 (l : Launch) (dC : Nat → ClassId) (dI : Nat → Nat → Nat) (kA : Nat → ClassId) (sz : Nat) (a0 : Nat)  : Met l yX6_init wsX6_init ({ frames := 1, cells := 1, slots := 24, locals := 14 }) (zPc dC dI kA sz [.ref a0, .int 8, .int 3] [(a0, .inr (6, [.int 0, .null, .int 0]))]) (va_Qv (fun (u : Nat) => True) (zB dC dI (va_A [(a0, .inr (6, [.int 0, .null, .int 0]))] sz) (fun (u : Nat) => [(a0, .inr (6, [.int 3, .ref u, .int 0])), (u, .inl (kA 0, 24, .inl (fun _ => 0)))])) (va_A [(a0, .inr (6, [.int 0, .null, .int 0]))] sz)) 1 24 (va_A [(a0, .inr (6, [.int 0, .null, .int 0]))] sz) := by
  refine Met.ofW (cc := cX6_init) (maxL := 3) (ret := none) (by decide) rfl ?_
  intro p e s m args below meth c s₁ B hml hv
  obtain ⟨rfl, hsz, hP, hK, hD0⟩ := hv
  have hx := B.exec
  have hb := B.bytes
  have hr := B.returns
  have hts := atoms_spec (ws := wsX6_init) B.pre
  have hown : s.vm.findClass RX6 = some m.cls := findClass_of_methodNamed B.named
  have hlocks := B.notSynchronized
  have hin : meth.name = "<init>" := (name_of_methodNamed B.named B.method).1
  subst hsz
  have hD := hD0.self (sz := s.heap.size)
  generalize hAe : va_A [(a0, .inr (6, [.int 0, .null, .int 0]))] s.heap.size = A at hD ⊢
  have hA : ∀ q : Nat, s.heap.size ≤ q → A q := fun q h => by rw [← hAe]; exact Or.inr h
  have hS : va_S A s.heap s.heap [] := va_S.rf
  have hP : va_P (dC, dI) vwCl [(a0, .inr (6, [.int 0, .null, .int 0]))] s.heap := hP
  have hl := lv_entry ([.ref a0, .int 8, .int 3]) (n := 3) (Nat.le_of_ble_eq_true rfl)
  rw [lg_entry_eq]
  generalize (lg_sl ([.ref a0, .int 8, .int 3]) ++ List.replicate (3 - (lg_sl ([.ref a0, .int 8, .int 3])).length) Slot.unset).toArray = ls at hl ⊢
  have hl : lv_has ls 3 [(0, .ref a0), (1, .int 8), (2, .int 3)] := hl
  refine lv_aload_n hx hb dX6_init_0 rfl (lv_at hl 0 rfl) ?_
  refine W.objInit hx hb hown (kX6_init_1 hts) (kX6_init_2 hts) (kX6_init_3 hts) rfl (by rw [hml]; exact hl.1) rfl dX6_init_1 (Nat.le_of_ble_eq_true rfl) (Nat.le_of_ble_eq_true rfl) ?_
  refine W.eq (g2 := F0 m 4 ls []) rfl ?_
  refine lv_aload_n hx hb dX6_init_4 rfl (lv_at hl 0 rfl) ?_
  refine lv_iload_n hx hb dX6_init_5 rfl (lv_at hl 2 rfl) ?_
  refine va_putF (D := (dC, dI)) (ci := 6) (v := .int 3) (ty := .int) (C := RX6) (T := TX6) (N := 3) hx hb hts iX6_init_X6 tyX6 tyX6_ok nmX6 hown hK.1 hP hD hS 0 rfl rfl 0 (by decide) (kX6_init_4 hts) (fun _ h9 => h9) rfl hin rfl (by decide +kernel) rfl rfl (Nat.le_of_ble_eq_true rfl) dX6_init_6 (fun H locs hP hD hS => ?_)
  have hP : va_P (dC, dI) vwCl [(a0, .inr (6, [.int 3, .null, .int 0]))] H := hP
  have hD : va_D A [(a0, .inr (6, [.int 3, .null, .int 0]))] := hD
  refine lv_aload_n hx hb dX6_init_9 rfl (lv_at hl 0 rfl) ?_
  refine lv_iconst (v := 0) hx hb dX6_init_10 (by decide) ?_
  refine lv_iload_n hx hb dX6_init_11 rfl (lv_at hl 1 rfl) ?_
  refine lv_iload_n hx hb dX6_init_12 rfl (lv_at hl 2 rfl) ?_
  refine lv_imul hx hb dX6_init_13 ?_
  refine zi 24 (by decide) ?_
  refine va_mmax hx hb (by rw [hml]; exact hl.1.symm) hown (kX6_init_5 hts) (kX6_init_6 hts) (kX6_init_7 hts) (kX6_init_8 hts) (Nat.le_of_ble_eq_true rfl) (Nat.le_of_ble_eq_true rfl) (Nat.le_of_ble_eq_true rfl) (Nat.le_of_ble_eq_true rfl) dX6_init_14 ?_
  refine zi 24 (by decide) ?_
  refine z_newi hx hb (kX6_init_9 hts) hK hP hD hS hA 24 (by decide) (by decide) (by decide) (Nat.le_of_ble_eq_true rfl) (Nat.le_of_ble_eq_true rfl) dX6_init_17 (fun q1 H hP hD hS => ?_)
  refine W.widen (k := 1) (n := 24) (Nat.le_of_ble_eq_true rfl) (Nat.le_of_ble_eq_true rfl) ?_
  have hP : va_P (dC, dI) vwCl [(a0, .inr (6, [.int 3, .null, .int 0])), (q1, .inl (kA 0, 24, .inl (fun _ => 0)))] H := hP
  have hD : va_D A [(a0, .inr (6, [.int 3, .null, .int 0])), (q1, .inl (kA 0, 24, .inl (fun _ => 0)))] := hD
  refine va_putF (D := (dC, dI)) (ci := 6) (v := .ref q1) (ty := .array (.int)) (C := RX6) (T := TX6) (N := 3) hx hb hts iX6_init_X6 tyX6 tyX6_ok nmX6 hown hK.1 hP hD hS 0 rfl rfl 1 (by decide) (kX6_init_10 hts) (fun _ h9 => h9) rfl hin rfl (by decide +kernel) rfl rfl (Nat.le_of_ble_eq_true rfl) dX6_init_19 (fun H locs hP hD hS => ?_)
  have hP : va_P (dC, dI) vwCl [(a0, .inr (6, [.int 3, .ref q1, .int 0])), (q1, .inl (kA 0, 24, .inl (fun _ => 0)))] H := hP
  have hD : va_D A [(a0, .inr (6, [.int 3, .ref q1, .int 0])), (q1, .inl (kA 0, 24, .inl (fun _ => 0)))] := hD
  have hP9 := hP.sub (ws' := [(a0, .inr (6, [.int 3, .ref q1, .int 0])), (q1, .inl (kA 0, 24, .inl (fun _ => 0)))]) [0, 1] rfl
  have hD9 := hD.sub (ws' := [(a0, .inr (6, [.int 3, .ref q1, .int 0])), (q1, .inl (kA 0, 24, .inl (fun _ => 0)))]) [0, 1] (by decide) rfl
  refine W.widen (k := 1) (n := 24) (Nat.le_of_ble_eq_true rfl) (Nat.le_of_ble_eq_true rfl) ?_
  exact W.vret hx hb hr (fun t ht hW => ⟨⟨(q1), rfl, trivial, by rw [ht]; exact hP9, hD9⟩, hS.F ht⟩) hS.2.2 dX6_init_22
set_option maxHeartbeats 4000000 in
set_option maxRecDepth 100000 in
theorem mX6_init_6_1 (l : Launch) (dC : Nat → ClassId) (dI : Nat → Nat → Nat) (kA : Nat → ClassId) (sz : Nat) (a0 : Nat)  : Met l yX6_init wsX6_init ({ frames := 1, cells := 1, slots := 6, locals := 14 }) (zPc dC dI kA sz [.ref a0, .int 6, .int 1] [(a0, .inr (6, [.int 0, .null, .int 0]))]) (va_Qv (fun (u : Nat) => True) (zB dC dI (va_A [(a0, .inr (6, [.int 0, .null, .int 0]))] sz) (fun (u : Nat) => [(a0, .inr (6, [.int 1, .ref u, .int 0])), (u, .inl (kA 0, 6, .inl (fun _ => 0)))])) (va_A [(a0, .inr (6, [.int 0, .null, .int 0]))] sz)) 1 6 (va_A [(a0, .inr (6, [.int 0, .null, .int 0]))] sz) := by
  refine Met.ofW (cc := cX6_init) (maxL := 3) (ret := none) (by decide) rfl ?_
  intro p e s m args below meth c s₁ B hml hv
  obtain ⟨rfl, hsz, hP, hK, hD0⟩ := hv
  have hx := B.exec
  have hb := B.bytes
  have hr := B.returns
  have hts := atoms_spec (ws := wsX6_init) B.pre
  have hown : s.vm.findClass RX6 = some m.cls := findClass_of_methodNamed B.named
  have hlocks := B.notSynchronized
  have hin : meth.name = "<init>" := (name_of_methodNamed B.named B.method).1
  subst hsz
  have hD := hD0.self (sz := s.heap.size)
  generalize hAe : va_A [(a0, .inr (6, [.int 0, .null, .int 0]))] s.heap.size = A at hD ⊢
  have hA : ∀ q : Nat, s.heap.size ≤ q → A q := fun q h => by rw [← hAe]; exact Or.inr h
  have hS : va_S A s.heap s.heap [] := va_S.rf
  have hP : va_P (dC, dI) vwCl [(a0, .inr (6, [.int 0, .null, .int 0]))] s.heap := hP
  have hl := lv_entry ([.ref a0, .int 6, .int 1]) (n := 3) (Nat.le_of_ble_eq_true rfl)
  rw [lg_entry_eq]
  generalize (lg_sl ([.ref a0, .int 6, .int 1]) ++ List.replicate (3 - (lg_sl ([.ref a0, .int 6, .int 1])).length) Slot.unset).toArray = ls at hl ⊢
  have hl : lv_has ls 3 [(0, .ref a0), (1, .int 6), (2, .int 1)] := hl
  refine lv_aload_n hx hb dX6_init_0 rfl (lv_at hl 0 rfl) ?_
  refine W.objInit hx hb hown (kX6_init_1 hts) (kX6_init_2 hts) (kX6_init_3 hts) rfl (by rw [hml]; exact hl.1) rfl dX6_init_1 (Nat.le_of_ble_eq_true rfl) (Nat.le_of_ble_eq_true rfl) ?_
  refine W.eq (g2 := F0 m 4 ls []) rfl ?_
  refine lv_aload_n hx hb dX6_init_4 rfl (lv_at hl 0 rfl) ?_
  refine lv_iload_n hx hb dX6_init_5 rfl (lv_at hl 2 rfl) ?_
  refine va_putF (D := (dC, dI)) (ci := 6) (v := .int 1) (ty := .int) (C := RX6) (T := TX6) (N := 3) hx hb hts iX6_init_X6 tyX6 tyX6_ok nmX6 hown hK.1 hP hD hS 0 rfl rfl 0 (by decide) (kX6_init_4 hts) (fun _ h9 => h9) rfl hin rfl (by decide +kernel) rfl rfl (Nat.le_of_ble_eq_true rfl) dX6_init_6 (fun H locs hP hD hS => ?_)
  have hP : va_P (dC, dI) vwCl [(a0, .inr (6, [.int 1, .null, .int 0]))] H := hP
  have hD : va_D A [(a0, .inr (6, [.int 1, .null, .int 0]))] := hD
  refine lv_aload_n hx hb dX6_init_9 rfl (lv_at hl 0 rfl) ?_
  refine lv_iconst (v := 0) hx hb dX6_init_10 (by decide) ?_
  refine lv_iload_n hx hb dX6_init_11 rfl (lv_at hl 1 rfl) ?_
  refine lv_iload_n hx hb dX6_init_12 rfl (lv_at hl 2 rfl) ?_
  refine lv_imul hx hb dX6_init_13 ?_
  refine zi 6 (by decide) ?_
  refine va_mmax hx hb (by rw [hml]; exact hl.1.symm) hown (kX6_init_5 hts) (kX6_init_6 hts) (kX6_init_7 hts) (kX6_init_8 hts) (Nat.le_of_ble_eq_true rfl) (Nat.le_of_ble_eq_true rfl) (Nat.le_of_ble_eq_true rfl) (Nat.le_of_ble_eq_true rfl) dX6_init_14 ?_
  refine zi 6 (by decide) ?_
  refine z_newi hx hb (kX6_init_9 hts) hK hP hD hS hA 6 (by decide) (by decide) (by decide) (Nat.le_of_ble_eq_true rfl) (Nat.le_of_ble_eq_true rfl) dX6_init_17 (fun q1 H hP hD hS => ?_)
  refine W.widen (k := 1) (n := 6) (Nat.le_of_ble_eq_true rfl) (Nat.le_of_ble_eq_true rfl) ?_
  have hP : va_P (dC, dI) vwCl [(a0, .inr (6, [.int 1, .null, .int 0])), (q1, .inl (kA 0, 6, .inl (fun _ => 0)))] H := hP
  have hD : va_D A [(a0, .inr (6, [.int 1, .null, .int 0])), (q1, .inl (kA 0, 6, .inl (fun _ => 0)))] := hD
  refine va_putF (D := (dC, dI)) (ci := 6) (v := .ref q1) (ty := .array (.int)) (C := RX6) (T := TX6) (N := 3) hx hb hts iX6_init_X6 tyX6 tyX6_ok nmX6 hown hK.1 hP hD hS 0 rfl rfl 1 (by decide) (kX6_init_10 hts) (fun _ h9 => h9) rfl hin rfl (by decide +kernel) rfl rfl (Nat.le_of_ble_eq_true rfl) dX6_init_19 (fun H locs hP hD hS => ?_)
  have hP : va_P (dC, dI) vwCl [(a0, .inr (6, [.int 1, .ref q1, .int 0])), (q1, .inl (kA 0, 6, .inl (fun _ => 0)))] H := hP
  have hD : va_D A [(a0, .inr (6, [.int 1, .ref q1, .int 0])), (q1, .inl (kA 0, 6, .inl (fun _ => 0)))] := hD
  have hP9 := hP.sub (ws' := [(a0, .inr (6, [.int 1, .ref q1, .int 0])), (q1, .inl (kA 0, 6, .inl (fun _ => 0)))]) [0, 1] rfl
  have hD9 := hD.sub (ws' := [(a0, .inr (6, [.int 1, .ref q1, .int 0])), (q1, .inl (kA 0, 6, .inl (fun _ => 0)))]) [0, 1] (by decide) rfl
  refine W.widen (k := 1) (n := 6) (Nat.le_of_ble_eq_true rfl) (Nat.le_of_ble_eq_true rfl) ?_
  exact W.vret hx hb hr (fun t ht hW => ⟨⟨(q1), rfl, trivial, by rw [ht]; exact hP9, hD9⟩, hS.F ht⟩) hS.2.2 dX6_init_22
set_option maxHeartbeats 4000000 in
set_option maxRecDepth 100000 in
theorem mX9_init (l : Launch) (dC : Nat → ClassId) (dI : Nat → Nat → Nat) (kA : Nat → ClassId) (sz : Nat) (a0 : Nat)  : Met l yX9_init wsX9_init ({ frames := 2, cells := 12, slots := 364, locals := 36 }) (zPc dC dI kA sz [.ref a0] [(a0, .inr (9, [.null, .null, .null, .null, .null, .null, .int 0, .int 0, .int 0, .int 0]))]) (va_Qv (fun (u : Nat × Nat × Nat × Nat × Nat × Nat × Nat × Nat × Nat × Nat × Nat × Nat) => True) (zB dC dI (va_A [(a0, .inr (9, [.null, .null, .null, .null, .null, .null, .int 0, .int 0, .int 0, .int 0]))] sz) (fun (u : Nat × Nat × Nat × Nat × Nat × Nat × Nat × Nat × Nat × Nat × Nat × Nat) => [(a0, .inr (9, [.ref u.1, .ref u.2.2.1, .ref u.2.2.2.2.1, .ref u.2.2.2.2.2.2.1, .ref u.2.2.2.2.2.2.2.2.1, .ref u.2.2.2.2.2.2.2.2.2.2.1, .int (-1), .int 0, .int 0, .int 0])), (u.1, .inr (6, [.int 4, .ref u.2.1, .int 0])), (u.2.1, .inl (kA 0, 48, .inl (fun _ => 0))), (u.2.2.1, .inr (6, [.int 5, .ref u.2.2.2.1, .int 0])), (u.2.2.2.1, .inl (kA 0, 100, .inl (fun _ => 0))), (u.2.2.2.2.1, .inr (6, [.int 9, .ref u.2.2.2.2.2.1, .int 0])), (u.2.2.2.2.2.1, .inl (kA 0, 144, .inl (fun _ => 0))), (u.2.2.2.2.2.2.1, .inr (6, [.int 4, .ref u.2.2.2.2.2.2.2.1, .int 0])), (u.2.2.2.2.2.2.2.1, .inl (kA 0, 24, .inl (fun _ => 0))), (u.2.2.2.2.2.2.2.2.1, .inr (6, [.int 3, .ref u.2.2.2.2.2.2.2.2.2.1, .int 0])), (u.2.2.2.2.2.2.2.2.2.1, .inl (kA 0, 24, .inl (fun _ => 0))), (u.2.2.2.2.2.2.2.2.2.2.1, .inr (6, [.int 1, .ref u.2.2.2.2.2.2.2.2.2.2.2, .int 0])), (u.2.2.2.2.2.2.2.2.2.2.2, .inl (kA 0, 6, .inl (fun _ => 0)))])) (va_A [(a0, .inr (9, [.null, .null, .null, .null, .null, .null, .int 0, .int 0, .int 0, .int 0]))] sz)) 12 364 (va_A [(a0, .inr (9, [.null, .null, .null, .null, .null, .null, .int 0, .int 0, .int 0, .int 0]))] sz) := by
  refine Met.ofW (cc := cX9_init) (maxL := 1) (ret := none) (by decide) rfl ?_
  intro p e s m args below meth c s₁ B hml hv
  obtain ⟨rfl, hsz, hP, hK, hD0⟩ := hv
  have hx := B.exec
  have hb := B.bytes
  have hr := B.returns
  have hts := atoms_spec (ws := wsX9_init) B.pre
  have hown : s.vm.findClass RX9 = some m.cls := findClass_of_methodNamed B.named
  have hlocks := B.notSynchronized
  have hin : meth.name = "<init>" := (name_of_methodNamed B.named B.method).1
  subst hsz
  have hD := hD0.self (sz := s.heap.size)
  generalize hAe : va_A [(a0, .inr (9, [.null, .null, .null, .null, .null, .null, .int 0, .int 0, .int 0, .int 0]))] s.heap.size = A at hD ⊢
  have hA : ∀ q : Nat, s.heap.size ≤ q → A q := fun q h => by rw [← hAe]; exact Or.inr h
  have hS : va_S A s.heap s.heap [] := va_S.rf
  have hP : va_P (dC, dI) vwCl [(a0, .inr (9, [.null, .null, .null, .null, .null, .null, .int 0, .int 0, .int 0, .int 0]))] s.heap := hP
  have hl := lv_entry ([.ref a0]) (n := 1) (Nat.le_of_ble_eq_true rfl)
  rw [lg_entry_eq]
  generalize (lg_sl ([.ref a0]) ++ List.replicate (1 - (lg_sl ([.ref a0])).length) Slot.unset).toArray = ls at hl ⊢
  have hl : lv_has ls 1 [(0, .ref a0)] := hl
  refine lv_aload_n hx hb dX9_init_0 rfl (lv_at hl 0 rfl) ?_
  refine W.objInit hx hb hown (kX9_init_1 hts) (kX9_init_2 hts) (kX9_init_3 hts) rfl (by rw [hml]; exact hl.1) rfl dX9_init_1 (Nat.le_of_ble_eq_true rfl) (Nat.le_of_ble_eq_true rfl) ?_
  refine W.eq (g2 := F0 m 4 ls []) rfl ?_
  refine lv_aload_n hx hb dX9_init_4 rfl (lv_at hl 0 rfl) ?_
  refine va_new (ci := 6) (fs := [.int 0, .null, .int 0]) (C := RX6) (T := TX6) (N := 3) hx hb hts iX9_init_X6 tyX6 tyX6_ok hown (kX9_init_4 hts) (kX9_init_5 hts) (kX9_init_6 hts) hK.1 hP hD hS hA rfl fsX6 (Nat.le_of_ble_eq_true rfl) (Nat.le_of_ble_eq_true rfl) dX9_init_5 (fun q1 H hP hD hS => ?_)
  refine W.widen (k := 1) (n := 3) (Nat.le_of_ble_eq_true rfl) (Nat.le_of_ble_eq_true rfl) ?_
  have hP : va_P (dC, dI) vwCl [(a0, .inr (9, [.null, .null, .null, .null, .null, .null, .int 0, .int 0, .int 0, .int 0])), (q1, .inr (6, [.int 0, .null, .int 0]))] H := hP
  have hD : va_D A [(a0, .inr (9, [.null, .null, .null, .null, .null, .null, .int 0, .int 0, .int 0, .int 0])), (q1, .inr (6, [.int 0, .null, .int 0]))] := hD
  refine lv_dup hx hb dX9_init_8 rfl ?_
  refine lv_bipush (v := 12) hx hb dX9_init_9 (by decide) ?_
  refine lv_iconst (v := 4) hx hb dX9_init_11 (by decide) ?_
  refine z_v (wr := [(a0, .inr (9, [.null, .null, .null, .null, .null, .null, .int 0, .int 0, .int 0, .int 0]))]) (va_runI (As := [.int 12, .int 4]) (rest := [.ref q1, .ref a0]) ⟨hx, hb, hml, hown, hts⟩ (mX6_init_12_4 l dC dI kA _ q1) (cwI 2 hts gX9_init_X6_init rfl rfl rfl (kX9_init_6 hts) (kX9_init_14 hts) (kX9_init_15 hts) rfl (by decide +kernel) ⟨(Nat.le_of_ble_eq_true rfl), (Nat.le_of_ble_eq_true rfl)⟩) ⟨zPc.blind, zPre hK (hP.sub [1] rfl) (hD.sub [1] (by decide) rfl)⟩ rfl rfl hl.1 rfl (lv_room (Nat.le_of_ble_eq_true rfl)) dX9_init_12 ⟨(Nat.le_of_ble_eq_true rfl), (Nat.le_of_ble_eq_true rfl)⟩) hP hD hS hA [1] [0] rfl rfl (by decide) (by decide) (fun u2 H locs hw3 hP hD hS => ?_)
  obtain ⟨q_5, rfl⟩ : ∃ z, z = u2 := ⟨_, rfl⟩
  refine W.widen (k := 2) (n := 51) (Nat.le_of_ble_eq_true rfl) (Nat.le_of_ble_eq_true rfl) ?_
  have hP : va_P (dC, dI) vwCl [(a0, .inr (9, [.null, .null, .null, .null, .null, .null, .int 0, .int 0, .int 0, .int 0])), (q1, .inr (6, [.int 4, .ref q_5, .int 0])), (q_5, .inl (kA 0, 48, .inl (fun _ => 0)))] H := hP
  have hD : va_D A [(a0, .inr (9, [.null, .null, .null, .null, .null, .null, .int 0, .int 0, .int 0, .int 0])), (q1, .inr (6, [.int 4, .ref q_5, .int 0])), (q_5, .inl (kA 0, 48, .inl (fun _ => 0)))] := hD
  refine va_putF (D := (dC, dI)) (ci := 9) (v := .ref q1) (ty := .object "SnowMules$Table") (C := RX9) (T := TX9) (N := 10) hx hb hts iX9_init_X9 tyX9 tyX9_ok nmX9 hown hK.1 hP hD hS 0 rfl rfl 0 (by decide) (kX9_init_7 hts) (fun _ h9 => h9) rfl hin rfl (by decide +kernel) rfl rfl (Nat.le_of_ble_eq_true rfl) dX9_init_15 (fun H locs hP hD hS => ?_)
  have hP : va_P (dC, dI) vwCl [(a0, .inr (9, [.ref q1, .null, .null, .null, .null, .null, .int 0, .int 0, .int 0, .int 0])), (q1, .inr (6, [.int 4, .ref q_5, .int 0])), (q_5, .inl (kA 0, 48, .inl (fun _ => 0)))] H := hP
  have hD : va_D A [(a0, .inr (9, [.ref q1, .null, .null, .null, .null, .null, .int 0, .int 0, .int 0, .int 0])), (q1, .inr (6, [.int 4, .ref q_5, .int 0])), (q_5, .inl (kA 0, 48, .inl (fun _ => 0)))] := hD
  refine lv_aload_n hx hb dX9_init_18 rfl (lv_at hl 0 rfl) ?_
  refine va_new (ci := 6) (fs := [.int 0, .null, .int 0]) (C := RX6) (T := TX6) (N := 3) hx hb hts iX9_init_X6 tyX6 tyX6_ok hown (kX9_init_4 hts) (kX9_init_5 hts) (kX9_init_6 hts) hK.1 hP hD hS hA rfl fsX6 (Nat.le_of_ble_eq_true rfl) (Nat.le_of_ble_eq_true rfl) dX9_init_19 (fun q6 H hP hD hS => ?_)
  refine W.widen (k := 3) (n := 54) (Nat.le_of_ble_eq_true rfl) (Nat.le_of_ble_eq_true rfl) ?_
  have hP : va_P (dC, dI) vwCl [(a0, .inr (9, [.ref q1, .null, .null, .null, .null, .null, .int 0, .int 0, .int 0, .int 0])), (q1, .inr (6, [.int 4, .ref q_5, .int 0])), (q_5, .inl (kA 0, 48, .inl (fun _ => 0))), (q6, .inr (6, [.int 0, .null, .int 0]))] H := hP
  have hD : va_D A [(a0, .inr (9, [.ref q1, .null, .null, .null, .null, .null, .int 0, .int 0, .int 0, .int 0])), (q1, .inr (6, [.int 4, .ref q_5, .int 0])), (q_5, .inl (kA 0, 48, .inl (fun _ => 0))), (q6, .inr (6, [.int 0, .null, .int 0]))] := hD
  refine lv_dup hx hb dX9_init_22 rfl ?_
  refine lv_bipush (v := 20) hx hb dX9_init_23 (by decide) ?_
  refine lv_iconst (v := 5) hx hb dX9_init_25 (by decide) ?_
  refine z_v (wr := [(a0, .inr (9, [.ref q1, .null, .null, .null, .null, .null, .int 0, .int 0, .int 0, .int 0])), (q1, .inr (6, [.int 4, .ref q_5, .int 0])), (q_5, .inl (kA 0, 48, .inl (fun _ => 0)))]) (va_runI (As := [.int 20, .int 5]) (rest := [.ref q6, .ref a0]) ⟨hx, hb, hml, hown, hts⟩ (mX6_init_20_5 l dC dI kA _ q6) (cwI 2 hts gX9_init_X6_init rfl rfl rfl (kX9_init_6 hts) (kX9_init_14 hts) (kX9_init_15 hts) rfl (by decide +kernel) ⟨(Nat.le_of_ble_eq_true rfl), (Nat.le_of_ble_eq_true rfl)⟩) ⟨zPc.blind, zPre hK (hP.sub [3] rfl) (hD.sub [3] (by decide) rfl)⟩ rfl rfl hl.1 rfl (lv_room (Nat.le_of_ble_eq_true rfl)) dX9_init_26 ⟨(Nat.le_of_ble_eq_true rfl), (Nat.le_of_ble_eq_true rfl)⟩) hP hD hS hA [3] [0, 1, 2] rfl rfl (by decide) (by decide) (fun u7 H locs hw8 hP hD hS => ?_)
  obtain ⟨q_10, rfl⟩ : ∃ z, z = u7 := ⟨_, rfl⟩
  refine W.widen (k := 4) (n := 154) (Nat.le_of_ble_eq_true rfl) (Nat.le_of_ble_eq_true rfl) ?_
  have hP : va_P (dC, dI) vwCl [(a0, .inr (9, [.ref q1, .null, .null, .null, .null, .null, .int 0, .int 0, .int 0, .int 0])), (q1, .inr (6, [.int 4, .ref q_5, .int 0])), (q_5, .inl (kA 0, 48, .inl (fun _ => 0))), (q6, .inr (6, [.int 5, .ref q_10, .int 0])), (q_10, .inl (kA 0, 100, .inl (fun _ => 0)))] H := hP
  have hD : va_D A [(a0, .inr (9, [.ref q1, .null, .null, .null, .null, .null, .int 0, .int 0, .int 0, .int 0])), (q1, .inr (6, [.int 4, .ref q_5, .int 0])), (q_5, .inl (kA 0, 48, .inl (fun _ => 0))), (q6, .inr (6, [.int 5, .ref q_10, .int 0])), (q_10, .inl (kA 0, 100, .inl (fun _ => 0)))] := hD
  refine va_putF (D := (dC, dI)) (ci := 9) (v := .ref q6) (ty := .object "SnowMules$Table") (C := RX9) (T := TX9) (N := 10) hx hb hts iX9_init_X9 tyX9 tyX9_ok nmX9 hown hK.1 hP hD hS 0 rfl rfl 1 (by decide) (kX9_init_8 hts) (fun _ h9 => h9) rfl hin rfl (by decide +kernel) rfl rfl (Nat.le_of_ble_eq_true rfl) dX9_init_29 (fun H locs hP hD hS => ?_)
  have hP : va_P (dC, dI) vwCl [(a0, .inr (9, [.ref q1, .ref q6, .null, .null, .null, .null, .int 0, .int 0, .int 0, .int 0])), (q1, .inr (6, [.int 4, .ref q_5, .int 0])), (q_5, .inl (kA 0, 48, .inl (fun _ => 0))), (q6, .inr (6, [.int 5, .ref q_10, .int 0])), (q_10, .inl (kA 0, 100, .inl (fun _ => 0)))] H := hP
  have hD : va_D A [(a0, .inr (9, [.ref q1, .ref q6, .null, .null, .null, .null, .int 0, .int 0, .int 0, .int 0])), (q1, .inr (6, [.int 4, .ref q_5, .int 0])), (q_5, .inl (kA 0, 48, .inl (fun _ => 0))), (q6, .inr (6, [.int 5, .ref q_10, .int 0])), (q_10, .inl (kA 0, 100, .inl (fun _ => 0)))] := hD
  refine lv_aload_n hx hb dX9_init_32 rfl (lv_at hl 0 rfl) ?_
  refine va_new (ci := 6) (fs := [.int 0, .null, .int 0]) (C := RX6) (T := TX6) (N := 3) hx hb hts iX9_init_X6 tyX6 tyX6_ok hown (kX9_init_4 hts) (kX9_init_5 hts) (kX9_init_6 hts) hK.1 hP hD hS hA rfl fsX6 (Nat.le_of_ble_eq_true rfl) (Nat.le_of_ble_eq_true rfl) dX9_init_33 (fun q11 H hP hD hS => ?_)
  refine W.widen (k := 5) (n := 157) (Nat.le_of_ble_eq_true rfl) (Nat.le_of_ble_eq_true rfl) ?_
  have hP : va_P (dC, dI) vwCl [(a0, .inr (9, [.ref q1, .ref q6, .null, .null, .null, .null, .int 0, .int 0, .int 0, .int 0])), (q1, .inr (6, [.int 4, .ref q_5, .int 0])), (q_5, .inl (kA 0, 48, .inl (fun _ => 0))), (q6, .inr (6, [.int 5, .ref q_10, .int 0])), (q_10, .inl (kA 0, 100, .inl (fun _ => 0))), (q11, .inr (6, [.int 0, .null, .int 0]))] H := hP
  have hD : va_D A [(a0, .inr (9, [.ref q1, .ref q6, .null, .null, .null, .null, .int 0, .int 0, .int 0, .int 0])), (q1, .inr (6, [.int 4, .ref q_5, .int 0])), (q_5, .inl (kA 0, 48, .inl (fun _ => 0))), (q6, .inr (6, [.int 5, .ref q_10, .int 0])), (q_10, .inl (kA 0, 100, .inl (fun _ => 0))), (q11, .inr (6, [.int 0, .null, .int 0]))] := hD
  refine lv_dup hx hb dX9_init_36 rfl ?_
  refine lv_bipush (v := 16) hx hb dX9_init_37 (by decide) ?_
  refine lv_bipush (v := 9) hx hb dX9_init_39 (by decide) ?_
  refine z_v (wr := [(a0, .inr (9, [.ref q1, .ref q6, .null, .null, .null, .null, .int 0, .int 0, .int 0, .int 0])), (q1, .inr (6, [.int 4, .ref q_5, .int 0])), (q_5, .inl (kA 0, 48, .inl (fun _ => 0))), (q6, .inr (6, [.int 5, .ref q_10, .int 0])), (q_10, .inl (kA 0, 100, .inl (fun _ => 0)))]) (va_runI (As := [.int 16, .int 9]) (rest := [.ref q11, .ref a0]) ⟨hx, hb, hml, hown, hts⟩ (mX6_init_16_9 l dC dI kA _ q11) (cwI 2 hts gX9_init_X6_init rfl rfl rfl (kX9_init_6 hts) (kX9_init_14 hts) (kX9_init_15 hts) rfl (by decide +kernel) ⟨(Nat.le_of_ble_eq_true rfl), (Nat.le_of_ble_eq_true rfl)⟩) ⟨zPc.blind, zPre hK (hP.sub [5] rfl) (hD.sub [5] (by decide) rfl)⟩ rfl rfl hl.1 rfl (lv_room (Nat.le_of_ble_eq_true rfl)) dX9_init_41 ⟨(Nat.le_of_ble_eq_true rfl), (Nat.le_of_ble_eq_true rfl)⟩) hP hD hS hA [5] [0, 1, 2, 3, 4] rfl rfl (by decide) (by decide) (fun u12 H locs hw13 hP hD hS => ?_)
  obtain ⟨q_15, rfl⟩ : ∃ z, z = u12 := ⟨_, rfl⟩
  refine W.widen (k := 6) (n := 301) (Nat.le_of_ble_eq_true rfl) (Nat.le_of_ble_eq_true rfl) ?_
  have hP : va_P (dC, dI) vwCl [(a0, .inr (9, [.ref q1, .ref q6, .null, .null, .null, .null, .int 0, .int 0, .int 0, .int 0])), (q1, .inr (6, [.int 4, .ref q_5, .int 0])), (q_5, .inl (kA 0, 48, .inl (fun _ => 0))), (q6, .inr (6, [.int 5, .ref q_10, .int 0])), (q_10, .inl (kA 0, 100, .inl (fun _ => 0))), (q11, .inr (6, [.int 9, .ref q_15, .int 0])), (q_15, .inl (kA 0, 144, .inl (fun _ => 0)))] H := hP
  have hD : va_D A [(a0, .inr (9, [.ref q1, .ref q6, .null, .null, .null, .null, .int 0, .int 0, .int 0, .int 0])), (q1, .inr (6, [.int 4, .ref q_5, .int 0])), (q_5, .inl (kA 0, 48, .inl (fun _ => 0))), (q6, .inr (6, [.int 5, .ref q_10, .int 0])), (q_10, .inl (kA 0, 100, .inl (fun _ => 0))), (q11, .inr (6, [.int 9, .ref q_15, .int 0])), (q_15, .inl (kA 0, 144, .inl (fun _ => 0)))] := hD
  refine va_putF (D := (dC, dI)) (ci := 9) (v := .ref q11) (ty := .object "SnowMules$Table") (C := RX9) (T := TX9) (N := 10) hx hb hts iX9_init_X9 tyX9 tyX9_ok nmX9 hown hK.1 hP hD hS 0 rfl rfl 2 (by decide) (kX9_init_9 hts) (fun _ h9 => h9) rfl hin rfl (by decide +kernel) rfl rfl (Nat.le_of_ble_eq_true rfl) dX9_init_44 (fun H locs hP hD hS => ?_)
  have hP : va_P (dC, dI) vwCl [(a0, .inr (9, [.ref q1, .ref q6, .ref q11, .null, .null, .null, .int 0, .int 0, .int 0, .int 0])), (q1, .inr (6, [.int 4, .ref q_5, .int 0])), (q_5, .inl (kA 0, 48, .inl (fun _ => 0))), (q6, .inr (6, [.int 5, .ref q_10, .int 0])), (q_10, .inl (kA 0, 100, .inl (fun _ => 0))), (q11, .inr (6, [.int 9, .ref q_15, .int 0])), (q_15, .inl (kA 0, 144, .inl (fun _ => 0)))] H := hP
  have hD : va_D A [(a0, .inr (9, [.ref q1, .ref q6, .ref q11, .null, .null, .null, .int 0, .int 0, .int 0, .int 0])), (q1, .inr (6, [.int 4, .ref q_5, .int 0])), (q_5, .inl (kA 0, 48, .inl (fun _ => 0))), (q6, .inr (6, [.int 5, .ref q_10, .int 0])), (q_10, .inl (kA 0, 100, .inl (fun _ => 0))), (q11, .inr (6, [.int 9, .ref q_15, .int 0])), (q_15, .inl (kA 0, 144, .inl (fun _ => 0)))] := hD
  refine lv_aload_n hx hb dX9_init_47 rfl (lv_at hl 0 rfl) ?_
  refine va_new (ci := 6) (fs := [.int 0, .null, .int 0]) (C := RX6) (T := TX6) (N := 3) hx hb hts iX9_init_X6 tyX6 tyX6_ok hown (kX9_init_4 hts) (kX9_init_5 hts) (kX9_init_6 hts) hK.1 hP hD hS hA rfl fsX6 (Nat.le_of_ble_eq_true rfl) (Nat.le_of_ble_eq_true rfl) dX9_init_48 (fun q16 H hP hD hS => ?_)
  refine W.widen (k := 7) (n := 304) (Nat.le_of_ble_eq_true rfl) (Nat.le_of_ble_eq_true rfl) ?_
  have hP : va_P (dC, dI) vwCl [(a0, .inr (9, [.ref q1, .ref q6, .ref q11, .null, .null, .null, .int 0, .int 0, .int 0, .int 0])), (q1, .inr (6, [.int 4, .ref q_5, .int 0])), (q_5, .inl (kA 0, 48, .inl (fun _ => 0))), (q6, .inr (6, [.int 5, .ref q_10, .int 0])), (q_10, .inl (kA 0, 100, .inl (fun _ => 0))), (q11, .inr (6, [.int 9, .ref q_15, .int 0])), (q_15, .inl (kA 0, 144, .inl (fun _ => 0))), (q16, .inr (6, [.int 0, .null, .int 0]))] H := hP
  have hD : va_D A [(a0, .inr (9, [.ref q1, .ref q6, .ref q11, .null, .null, .null, .int 0, .int 0, .int 0, .int 0])), (q1, .inr (6, [.int 4, .ref q_5, .int 0])), (q_5, .inl (kA 0, 48, .inl (fun _ => 0))), (q6, .inr (6, [.int 5, .ref q_10, .int 0])), (q_10, .inl (kA 0, 100, .inl (fun _ => 0))), (q11, .inr (6, [.int 9, .ref q_15, .int 0])), (q_15, .inl (kA 0, 144, .inl (fun _ => 0))), (q16, .inr (6, [.int 0, .null, .int 0]))] := hD
  refine lv_dup hx hb dX9_init_51 rfl ?_
  refine lv_bipush (v := 6) hx hb dX9_init_52 (by decide) ?_
  refine lv_iconst (v := 4) hx hb dX9_init_54 (by decide) ?_
  refine z_v (wr := [(a0, .inr (9, [.ref q1, .ref q6, .ref q11, .null, .null, .null, .int 0, .int 0, .int 0, .int 0])), (q1, .inr (6, [.int 4, .ref q_5, .int 0])), (q_5, .inl (kA 0, 48, .inl (fun _ => 0))), (q6, .inr (6, [.int 5, .ref q_10, .int 0])), (q_10, .inl (kA 0, 100, .inl (fun _ => 0))), (q11, .inr (6, [.int 9, .ref q_15, .int 0])), (q_15, .inl (kA 0, 144, .inl (fun _ => 0)))]) (va_runI (As := [.int 6, .int 4]) (rest := [.ref q16, .ref a0]) ⟨hx, hb, hml, hown, hts⟩ (mX6_init_6_4 l dC dI kA _ q16) (cwI 2 hts gX9_init_X6_init rfl rfl rfl (kX9_init_6 hts) (kX9_init_14 hts) (kX9_init_15 hts) rfl (by decide +kernel) ⟨(Nat.le_of_ble_eq_true rfl), (Nat.le_of_ble_eq_true rfl)⟩) ⟨zPc.blind, zPre hK (hP.sub [7] rfl) (hD.sub [7] (by decide) rfl)⟩ rfl rfl hl.1 rfl (lv_room (Nat.le_of_ble_eq_true rfl)) dX9_init_55 ⟨(Nat.le_of_ble_eq_true rfl), (Nat.le_of_ble_eq_true rfl)⟩) hP hD hS hA [7] [0, 1, 2, 3, 4, 5, 6] rfl rfl (by decide) (by decide) (fun u17 H locs hw18 hP hD hS => ?_)
  obtain ⟨q_20, rfl⟩ : ∃ z, z = u17 := ⟨_, rfl⟩
  refine W.widen (k := 8) (n := 328) (Nat.le_of_ble_eq_true rfl) (Nat.le_of_ble_eq_true rfl) ?_
  have hP : va_P (dC, dI) vwCl [(a0, .inr (9, [.ref q1, .ref q6, .ref q11, .null, .null, .null, .int 0, .int 0, .int 0, .int 0])), (q1, .inr (6, [.int 4, .ref q_5, .int 0])), (q_5, .inl (kA 0, 48, .inl (fun _ => 0))), (q6, .inr (6, [.int 5, .ref q_10, .int 0])), (q_10, .inl (kA 0, 100, .inl (fun _ => 0))), (q11, .inr (6, [.int 9, .ref q_15, .int 0])), (q_15, .inl (kA 0, 144, .inl (fun _ => 0))), (q16, .inr (6, [.int 4, .ref q_20, .int 0])), (q_20, .inl (kA 0, 24, .inl (fun _ => 0)))] H := hP
  have hD : va_D A [(a0, .inr (9, [.ref q1, .ref q6, .ref q11, .null, .null, .null, .int 0, .int 0, .int 0, .int 0])), (q1, .inr (6, [.int 4, .ref q_5, .int 0])), (q_5, .inl (kA 0, 48, .inl (fun _ => 0))), (q6, .inr (6, [.int 5, .ref q_10, .int 0])), (q_10, .inl (kA 0, 100, .inl (fun _ => 0))), (q11, .inr (6, [.int 9, .ref q_15, .int 0])), (q_15, .inl (kA 0, 144, .inl (fun _ => 0))), (q16, .inr (6, [.int 4, .ref q_20, .int 0])), (q_20, .inl (kA 0, 24, .inl (fun _ => 0)))] := hD
  refine va_putF (D := (dC, dI)) (ci := 9) (v := .ref q16) (ty := .object "SnowMules$Table") (C := RX9) (T := TX9) (N := 10) hx hb hts iX9_init_X9 tyX9 tyX9_ok nmX9 hown hK.1 hP hD hS 0 rfl rfl 3 (by decide) (kX9_init_10 hts) (fun _ h9 => h9) rfl hin rfl (by decide +kernel) rfl rfl (Nat.le_of_ble_eq_true rfl) dX9_init_58 (fun H locs hP hD hS => ?_)
  have hP : va_P (dC, dI) vwCl [(a0, .inr (9, [.ref q1, .ref q6, .ref q11, .ref q16, .null, .null, .int 0, .int 0, .int 0, .int 0])), (q1, .inr (6, [.int 4, .ref q_5, .int 0])), (q_5, .inl (kA 0, 48, .inl (fun _ => 0))), (q6, .inr (6, [.int 5, .ref q_10, .int 0])), (q_10, .inl (kA 0, 100, .inl (fun _ => 0))), (q11, .inr (6, [.int 9, .ref q_15, .int 0])), (q_15, .inl (kA 0, 144, .inl (fun _ => 0))), (q16, .inr (6, [.int 4, .ref q_20, .int 0])), (q_20, .inl (kA 0, 24, .inl (fun _ => 0)))] H := hP
  have hD : va_D A [(a0, .inr (9, [.ref q1, .ref q6, .ref q11, .ref q16, .null, .null, .int 0, .int 0, .int 0, .int 0])), (q1, .inr (6, [.int 4, .ref q_5, .int 0])), (q_5, .inl (kA 0, 48, .inl (fun _ => 0))), (q6, .inr (6, [.int 5, .ref q_10, .int 0])), (q_10, .inl (kA 0, 100, .inl (fun _ => 0))), (q11, .inr (6, [.int 9, .ref q_15, .int 0])), (q_15, .inl (kA 0, 144, .inl (fun _ => 0))), (q16, .inr (6, [.int 4, .ref q_20, .int 0])), (q_20, .inl (kA 0, 24, .inl (fun _ => 0)))] := hD
  refine lv_aload_n hx hb dX9_init_61 rfl (lv_at hl 0 rfl) ?_
  refine va_new (ci := 6) (fs := [.int 0, .null, .int 0]) (C := RX6) (T := TX6) (N := 3) hx hb hts iX9_init_X6 tyX6 tyX6_ok hown (kX9_init_4 hts) (kX9_init_5 hts) (kX9_init_6 hts) hK.1 hP hD hS hA rfl fsX6 (Nat.le_of_ble_eq_true rfl) (Nat.le_of_ble_eq_true rfl) dX9_init_62 (fun q21 H hP hD hS => ?_)
  refine W.widen (k := 9) (n := 331) (Nat.le_of_ble_eq_true rfl) (Nat.le_of_ble_eq_true rfl) ?_
  have hP : va_P (dC, dI) vwCl [(a0, .inr (9, [.ref q1, .ref q6, .ref q11, .ref q16, .null, .null, .int 0, .int 0, .int 0, .int 0])), (q1, .inr (6, [.int 4, .ref q_5, .int 0])), (q_5, .inl (kA 0, 48, .inl (fun _ => 0))), (q6, .inr (6, [.int 5, .ref q_10, .int 0])), (q_10, .inl (kA 0, 100, .inl (fun _ => 0))), (q11, .inr (6, [.int 9, .ref q_15, .int 0])), (q_15, .inl (kA 0, 144, .inl (fun _ => 0))), (q16, .inr (6, [.int 4, .ref q_20, .int 0])), (q_20, .inl (kA 0, 24, .inl (fun _ => 0))), (q21, .inr (6, [.int 0, .null, .int 0]))] H := hP
  have hD : va_D A [(a0, .inr (9, [.ref q1, .ref q6, .ref q11, .ref q16, .null, .null, .int 0, .int 0, .int 0, .int 0])), (q1, .inr (6, [.int 4, .ref q_5, .int 0])), (q_5, .inl (kA 0, 48, .inl (fun _ => 0))), (q6, .inr (6, [.int 5, .ref q_10, .int 0])), (q_10, .inl (kA 0, 100, .inl (fun _ => 0))), (q11, .inr (6, [.int 9, .ref q_15, .int 0])), (q_15, .inl (kA 0, 144, .inl (fun _ => 0))), (q16, .inr (6, [.int 4, .ref q_20, .int 0])), (q_20, .inl (kA 0, 24, .inl (fun _ => 0))), (q21, .inr (6, [.int 0, .null, .int 0]))] := hD
  refine lv_dup hx hb dX9_init_65 rfl ?_
  refine lv_bipush (v := 8) hx hb dX9_init_66 (by decide) ?_
  refine lv_iconst (v := 3) hx hb dX9_init_68 (by decide) ?_
  refine z_v (wr := [(a0, .inr (9, [.ref q1, .ref q6, .ref q11, .ref q16, .null, .null, .int 0, .int 0, .int 0, .int 0])), (q1, .inr (6, [.int 4, .ref q_5, .int 0])), (q_5, .inl (kA 0, 48, .inl (fun _ => 0))), (q6, .inr (6, [.int 5, .ref q_10, .int 0])), (q_10, .inl (kA 0, 100, .inl (fun _ => 0))), (q11, .inr (6, [.int 9, .ref q_15, .int 0])), (q_15, .inl (kA 0, 144, .inl (fun _ => 0))), (q16, .inr (6, [.int 4, .ref q_20, .int 0])), (q_20, .inl (kA 0, 24, .inl (fun _ => 0)))]) (va_runI (As := [.int 8, .int 3]) (rest := [.ref q21, .ref a0]) ⟨hx, hb, hml, hown, hts⟩ (mX6_init_8_3 l dC dI kA _ q21) (cwI 2 hts gX9_init_X6_init rfl rfl rfl (kX9_init_6 hts) (kX9_init_14 hts) (kX9_init_15 hts) rfl (by decide +kernel) ⟨(Nat.le_of_ble_eq_true rfl), (Nat.le_of_ble_eq_true rfl)⟩) ⟨zPc.blind, zPre hK (hP.sub [9] rfl) (hD.sub [9] (by decide) rfl)⟩ rfl rfl hl.1 rfl (lv_room (Nat.le_of_ble_eq_true rfl)) dX9_init_69 ⟨(Nat.le_of_ble_eq_true rfl), (Nat.le_of_ble_eq_true rfl)⟩) hP hD hS hA [9] [0, 1, 2, 3, 4, 5, 6, 7, 8] rfl rfl (by decide) (by decide) (fun u22 H locs hw23 hP hD hS => ?_)
  obtain ⟨q_25, rfl⟩ : ∃ z, z = u22 := ⟨_, rfl⟩
  refine W.widen (k := 10) (n := 355) (Nat.le_of_ble_eq_true rfl) (Nat.le_of_ble_eq_true rfl) ?_
  have hP : va_P (dC, dI) vwCl [(a0, .inr (9, [.ref q1, .ref q6, .ref q11, .ref q16, .null, .null, .int 0, .int 0, .int 0, .int 0])), (q1, .inr (6, [.int 4, .ref q_5, .int 0])), (q_5, .inl (kA 0, 48, .inl (fun _ => 0))), (q6, .inr (6, [.int 5, .ref q_10, .int 0])), (q_10, .inl (kA 0, 100, .inl (fun _ => 0))), (q11, .inr (6, [.int 9, .ref q_15, .int 0])), (q_15, .inl (kA 0, 144, .inl (fun _ => 0))), (q16, .inr (6, [.int 4, .ref q_20, .int 0])), (q_20, .inl (kA 0, 24, .inl (fun _ => 0))), (q21, .inr (6, [.int 3, .ref q_25, .int 0])), (q_25, .inl (kA 0, 24, .inl (fun _ => 0)))] H := hP
  have hD : va_D A [(a0, .inr (9, [.ref q1, .ref q6, .ref q11, .ref q16, .null, .null, .int 0, .int 0, .int 0, .int 0])), (q1, .inr (6, [.int 4, .ref q_5, .int 0])), (q_5, .inl (kA 0, 48, .inl (fun _ => 0))), (q6, .inr (6, [.int 5, .ref q_10, .int 0])), (q_10, .inl (kA 0, 100, .inl (fun _ => 0))), (q11, .inr (6, [.int 9, .ref q_15, .int 0])), (q_15, .inl (kA 0, 144, .inl (fun _ => 0))), (q16, .inr (6, [.int 4, .ref q_20, .int 0])), (q_20, .inl (kA 0, 24, .inl (fun _ => 0))), (q21, .inr (6, [.int 3, .ref q_25, .int 0])), (q_25, .inl (kA 0, 24, .inl (fun _ => 0)))] := hD
  refine va_putF (D := (dC, dI)) (ci := 9) (v := .ref q21) (ty := .object "SnowMules$Table") (C := RX9) (T := TX9) (N := 10) hx hb hts iX9_init_X9 tyX9 tyX9_ok nmX9 hown hK.1 hP hD hS 0 rfl rfl 4 (by decide) (kX9_init_11 hts) (fun _ h9 => h9) rfl hin rfl (by decide +kernel) rfl rfl (Nat.le_of_ble_eq_true rfl) dX9_init_72 (fun H locs hP hD hS => ?_)
  have hP : va_P (dC, dI) vwCl [(a0, .inr (9, [.ref q1, .ref q6, .ref q11, .ref q16, .ref q21, .null, .int 0, .int 0, .int 0, .int 0])), (q1, .inr (6, [.int 4, .ref q_5, .int 0])), (q_5, .inl (kA 0, 48, .inl (fun _ => 0))), (q6, .inr (6, [.int 5, .ref q_10, .int 0])), (q_10, .inl (kA 0, 100, .inl (fun _ => 0))), (q11, .inr (6, [.int 9, .ref q_15, .int 0])), (q_15, .inl (kA 0, 144, .inl (fun _ => 0))), (q16, .inr (6, [.int 4, .ref q_20, .int 0])), (q_20, .inl (kA 0, 24, .inl (fun _ => 0))), (q21, .inr (6, [.int 3, .ref q_25, .int 0])), (q_25, .inl (kA 0, 24, .inl (fun _ => 0)))] H := hP
  have hD : va_D A [(a0, .inr (9, [.ref q1, .ref q6, .ref q11, .ref q16, .ref q21, .null, .int 0, .int 0, .int 0, .int 0])), (q1, .inr (6, [.int 4, .ref q_5, .int 0])), (q_5, .inl (kA 0, 48, .inl (fun _ => 0))), (q6, .inr (6, [.int 5, .ref q_10, .int 0])), (q_10, .inl (kA 0, 100, .inl (fun _ => 0))), (q11, .inr (6, [.int 9, .ref q_15, .int 0])), (q_15, .inl (kA 0, 144, .inl (fun _ => 0))), (q16, .inr (6, [.int 4, .ref q_20, .int 0])), (q_20, .inl (kA 0, 24, .inl (fun _ => 0))), (q21, .inr (6, [.int 3, .ref q_25, .int 0])), (q_25, .inl (kA 0, 24, .inl (fun _ => 0)))] := hD
  refine lv_aload_n hx hb dX9_init_75 rfl (lv_at hl 0 rfl) ?_
  refine va_new (ci := 6) (fs := [.int 0, .null, .int 0]) (C := RX6) (T := TX6) (N := 3) hx hb hts iX9_init_X6 tyX6 tyX6_ok hown (kX9_init_4 hts) (kX9_init_5 hts) (kX9_init_6 hts) hK.1 hP hD hS hA rfl fsX6 (Nat.le_of_ble_eq_true rfl) (Nat.le_of_ble_eq_true rfl) dX9_init_76 (fun q26 H hP hD hS => ?_)
  refine W.widen (k := 11) (n := 358) (Nat.le_of_ble_eq_true rfl) (Nat.le_of_ble_eq_true rfl) ?_
  have hP : va_P (dC, dI) vwCl [(a0, .inr (9, [.ref q1, .ref q6, .ref q11, .ref q16, .ref q21, .null, .int 0, .int 0, .int 0, .int 0])), (q1, .inr (6, [.int 4, .ref q_5, .int 0])), (q_5, .inl (kA 0, 48, .inl (fun _ => 0))), (q6, .inr (6, [.int 5, .ref q_10, .int 0])), (q_10, .inl (kA 0, 100, .inl (fun _ => 0))), (q11, .inr (6, [.int 9, .ref q_15, .int 0])), (q_15, .inl (kA 0, 144, .inl (fun _ => 0))), (q16, .inr (6, [.int 4, .ref q_20, .int 0])), (q_20, .inl (kA 0, 24, .inl (fun _ => 0))), (q21, .inr (6, [.int 3, .ref q_25, .int 0])), (q_25, .inl (kA 0, 24, .inl (fun _ => 0))), (q26, .inr (6, [.int 0, .null, .int 0]))] H := hP
  have hD : va_D A [(a0, .inr (9, [.ref q1, .ref q6, .ref q11, .ref q16, .ref q21, .null, .int 0, .int 0, .int 0, .int 0])), (q1, .inr (6, [.int 4, .ref q_5, .int 0])), (q_5, .inl (kA 0, 48, .inl (fun _ => 0))), (q6, .inr (6, [.int 5, .ref q_10, .int 0])), (q_10, .inl (kA 0, 100, .inl (fun _ => 0))), (q11, .inr (6, [.int 9, .ref q_15, .int 0])), (q_15, .inl (kA 0, 144, .inl (fun _ => 0))), (q16, .inr (6, [.int 4, .ref q_20, .int 0])), (q_20, .inl (kA 0, 24, .inl (fun _ => 0))), (q21, .inr (6, [.int 3, .ref q_25, .int 0])), (q_25, .inl (kA 0, 24, .inl (fun _ => 0))), (q26, .inr (6, [.int 0, .null, .int 0]))] := hD
  refine lv_dup hx hb dX9_init_79 rfl ?_
  refine lv_bipush (v := 6) hx hb dX9_init_80 (by decide) ?_
  refine lv_iconst (v := 1) hx hb dX9_init_82 (by decide) ?_
  refine z_v (wr := [(a0, .inr (9, [.ref q1, .ref q6, .ref q11, .ref q16, .ref q21, .null, .int 0, .int 0, .int 0, .int 0])), (q1, .inr (6, [.int 4, .ref q_5, .int 0])), (q_5, .inl (kA 0, 48, .inl (fun _ => 0))), (q6, .inr (6, [.int 5, .ref q_10, .int 0])), (q_10, .inl (kA 0, 100, .inl (fun _ => 0))), (q11, .inr (6, [.int 9, .ref q_15, .int 0])), (q_15, .inl (kA 0, 144, .inl (fun _ => 0))), (q16, .inr (6, [.int 4, .ref q_20, .int 0])), (q_20, .inl (kA 0, 24, .inl (fun _ => 0))), (q21, .inr (6, [.int 3, .ref q_25, .int 0])), (q_25, .inl (kA 0, 24, .inl (fun _ => 0)))]) (va_runI (As := [.int 6, .int 1]) (rest := [.ref q26, .ref a0]) ⟨hx, hb, hml, hown, hts⟩ (mX6_init_6_1 l dC dI kA _ q26) (cwI 2 hts gX9_init_X6_init rfl rfl rfl (kX9_init_6 hts) (kX9_init_14 hts) (kX9_init_15 hts) rfl (by decide +kernel) ⟨(Nat.le_of_ble_eq_true rfl), (Nat.le_of_ble_eq_true rfl)⟩) ⟨zPc.blind, zPre hK (hP.sub [11] rfl) (hD.sub [11] (by decide) rfl)⟩ rfl rfl hl.1 rfl (lv_room (Nat.le_of_ble_eq_true rfl)) dX9_init_83 ⟨(Nat.le_of_ble_eq_true rfl), (Nat.le_of_ble_eq_true rfl)⟩) hP hD hS hA [11] [0, 1, 2, 3, 4, 5, 6, 7, 8, 9, 10] rfl rfl (by decide) (by decide) (fun u27 H locs hw28 hP hD hS => ?_)
  obtain ⟨q_30, rfl⟩ : ∃ z, z = u27 := ⟨_, rfl⟩
  refine W.widen (k := 12) (n := 364) (Nat.le_of_ble_eq_true rfl) (Nat.le_of_ble_eq_true rfl) ?_
  have hP : va_P (dC, dI) vwCl [(a0, .inr (9, [.ref q1, .ref q6, .ref q11, .ref q16, .ref q21, .null, .int 0, .int 0, .int 0, .int 0])), (q1, .inr (6, [.int 4, .ref q_5, .int 0])), (q_5, .inl (kA 0, 48, .inl (fun _ => 0))), (q6, .inr (6, [.int 5, .ref q_10, .int 0])), (q_10, .inl (kA 0, 100, .inl (fun _ => 0))), (q11, .inr (6, [.int 9, .ref q_15, .int 0])), (q_15, .inl (kA 0, 144, .inl (fun _ => 0))), (q16, .inr (6, [.int 4, .ref q_20, .int 0])), (q_20, .inl (kA 0, 24, .inl (fun _ => 0))), (q21, .inr (6, [.int 3, .ref q_25, .int 0])), (q_25, .inl (kA 0, 24, .inl (fun _ => 0))), (q26, .inr (6, [.int 1, .ref q_30, .int 0])), (q_30, .inl (kA 0, 6, .inl (fun _ => 0)))] H := hP
  have hD : va_D A [(a0, .inr (9, [.ref q1, .ref q6, .ref q11, .ref q16, .ref q21, .null, .int 0, .int 0, .int 0, .int 0])), (q1, .inr (6, [.int 4, .ref q_5, .int 0])), (q_5, .inl (kA 0, 48, .inl (fun _ => 0))), (q6, .inr (6, [.int 5, .ref q_10, .int 0])), (q_10, .inl (kA 0, 100, .inl (fun _ => 0))), (q11, .inr (6, [.int 9, .ref q_15, .int 0])), (q_15, .inl (kA 0, 144, .inl (fun _ => 0))), (q16, .inr (6, [.int 4, .ref q_20, .int 0])), (q_20, .inl (kA 0, 24, .inl (fun _ => 0))), (q21, .inr (6, [.int 3, .ref q_25, .int 0])), (q_25, .inl (kA 0, 24, .inl (fun _ => 0))), (q26, .inr (6, [.int 1, .ref q_30, .int 0])), (q_30, .inl (kA 0, 6, .inl (fun _ => 0)))] := hD
  refine va_putF (D := (dC, dI)) (ci := 9) (v := .ref q26) (ty := .object "SnowMules$Table") (C := RX9) (T := TX9) (N := 10) hx hb hts iX9_init_X9 tyX9 tyX9_ok nmX9 hown hK.1 hP hD hS 0 rfl rfl 5 (by decide) (kX9_init_12 hts) (fun _ h9 => h9) rfl hin rfl (by decide +kernel) rfl rfl (Nat.le_of_ble_eq_true rfl) dX9_init_86 (fun H locs hP hD hS => ?_)
  have hP : va_P (dC, dI) vwCl [(a0, .inr (9, [.ref q1, .ref q6, .ref q11, .ref q16, .ref q21, .ref q26, .int 0, .int 0, .int 0, .int 0])), (q1, .inr (6, [.int 4, .ref q_5, .int 0])), (q_5, .inl (kA 0, 48, .inl (fun _ => 0))), (q6, .inr (6, [.int 5, .ref q_10, .int 0])), (q_10, .inl (kA 0, 100, .inl (fun _ => 0))), (q11, .inr (6, [.int 9, .ref q_15, .int 0])), (q_15, .inl (kA 0, 144, .inl (fun _ => 0))), (q16, .inr (6, [.int 4, .ref q_20, .int 0])), (q_20, .inl (kA 0, 24, .inl (fun _ => 0))), (q21, .inr (6, [.int 3, .ref q_25, .int 0])), (q_25, .inl (kA 0, 24, .inl (fun _ => 0))), (q26, .inr (6, [.int 1, .ref q_30, .int 0])), (q_30, .inl (kA 0, 6, .inl (fun _ => 0)))] H := hP
  have hD : va_D A [(a0, .inr (9, [.ref q1, .ref q6, .ref q11, .ref q16, .ref q21, .ref q26, .int 0, .int 0, .int 0, .int 0])), (q1, .inr (6, [.int 4, .ref q_5, .int 0])), (q_5, .inl (kA 0, 48, .inl (fun _ => 0))), (q6, .inr (6, [.int 5, .ref q_10, .int 0])), (q_10, .inl (kA 0, 100, .inl (fun _ => 0))), (q11, .inr (6, [.int 9, .ref q_15, .int 0])), (q_15, .inl (kA 0, 144, .inl (fun _ => 0))), (q16, .inr (6, [.int 4, .ref q_20, .int 0])), (q_20, .inl (kA 0, 24, .inl (fun _ => 0))), (q21, .inr (6, [.int 3, .ref q_25, .int 0])), (q_25, .inl (kA 0, 24, .inl (fun _ => 0))), (q26, .inr (6, [.int 1, .ref q_30, .int 0])), (q_30, .inl (kA 0, 6, .inl (fun _ => 0)))] := hD
  refine lv_aload_n hx hb dX9_init_89 rfl (lv_at hl 0 rfl) ?_
  refine lv_iconst (v := (-1)) hx hb dX9_init_90 (by decide) ?_
  refine va_put (D := (dC, dI)) (ci := 9) (v := .int (-1)) (ty := .int) (C := RX9) (T := TX9) (N := 10) hx hb hts iX9_init_X9 tyX9 tyX9_ok nmX9 hown hK.1 hP hD hS 0 rfl rfl 6 (by decide) (kX9_init_13 hts) (fun _ h9 => h9) rfl (by decide +kernel) rfl rfl (Nat.le_of_ble_eq_true rfl) dX9_init_91 (fun H locs hP hD hS => ?_)
  have hP : va_P (dC, dI) vwCl [(a0, .inr (9, [.ref q1, .ref q6, .ref q11, .ref q16, .ref q21, .ref q26, .int (-1), .int 0, .int 0, .int 0])), (q1, .inr (6, [.int 4, .ref q_5, .int 0])), (q_5, .inl (kA 0, 48, .inl (fun _ => 0))), (q6, .inr (6, [.int 5, .ref q_10, .int 0])), (q_10, .inl (kA 0, 100, .inl (fun _ => 0))), (q11, .inr (6, [.int 9, .ref q_15, .int 0])), (q_15, .inl (kA 0, 144, .inl (fun _ => 0))), (q16, .inr (6, [.int 4, .ref q_20, .int 0])), (q_20, .inl (kA 0, 24, .inl (fun _ => 0))), (q21, .inr (6, [.int 3, .ref q_25, .int 0])), (q_25, .inl (kA 0, 24, .inl (fun _ => 0))), (q26, .inr (6, [.int 1, .ref q_30, .int 0])), (q_30, .inl (kA 0, 6, .inl (fun _ => 0)))] H := hP
  have hD : va_D A [(a0, .inr (9, [.ref q1, .ref q6, .ref q11, .ref q16, .ref q21, .ref q26, .int (-1), .int 0, .int 0, .int 0])), (q1, .inr (6, [.int 4, .ref q_5, .int 0])), (q_5, .inl (kA 0, 48, .inl (fun _ => 0))), (q6, .inr (6, [.int 5, .ref q_10, .int 0])), (q_10, .inl (kA 0, 100, .inl (fun _ => 0))), (q11, .inr (6, [.int 9, .ref q_15, .int 0])), (q_15, .inl (kA 0, 144, .inl (fun _ => 0))), (q16, .inr (6, [.int 4, .ref q_20, .int 0])), (q_20, .inl (kA 0, 24, .inl (fun _ => 0))), (q21, .inr (6, [.int 3, .ref q_25, .int 0])), (q_25, .inl (kA 0, 24, .inl (fun _ => 0))), (q26, .inr (6, [.int 1, .ref q_30, .int 0])), (q_30, .inl (kA 0, 6, .inl (fun _ => 0)))] := hD
  have hP9 := hP.sub (ws' := [(a0, .inr (9, [.ref q1, .ref q6, .ref q11, .ref q16, .ref q21, .ref q26, .int (-1), .int 0, .int 0, .int 0])), (q1, .inr (6, [.int 4, .ref q_5, .int 0])), (q_5, .inl (kA 0, 48, .inl (fun _ => 0))), (q6, .inr (6, [.int 5, .ref q_10, .int 0])), (q_10, .inl (kA 0, 100, .inl (fun _ => 0))), (q11, .inr (6, [.int 9, .ref q_15, .int 0])), (q_15, .inl (kA 0, 144, .inl (fun _ => 0))), (q16, .inr (6, [.int 4, .ref q_20, .int 0])), (q_20, .inl (kA 0, 24, .inl (fun _ => 0))), (q21, .inr (6, [.int 3, .ref q_25, .int 0])), (q_25, .inl (kA 0, 24, .inl (fun _ => 0))), (q26, .inr (6, [.int 1, .ref q_30, .int 0])), (q_30, .inl (kA 0, 6, .inl (fun _ => 0)))]) [0, 1, 2, 3, 4, 5, 6, 7, 8, 9, 10, 11, 12] rfl
  have hD9 := hD.sub (ws' := [(a0, .inr (9, [.ref q1, .ref q6, .ref q11, .ref q16, .ref q21, .ref q26, .int (-1), .int 0, .int 0, .int 0])), (q1, .inr (6, [.int 4, .ref q_5, .int 0])), (q_5, .inl (kA 0, 48, .inl (fun _ => 0))), (q6, .inr (6, [.int 5, .ref q_10, .int 0])), (q_10, .inl (kA 0, 100, .inl (fun _ => 0))), (q11, .inr (6, [.int 9, .ref q_15, .int 0])), (q_15, .inl (kA 0, 144, .inl (fun _ => 0))), (q16, .inr (6, [.int 4, .ref q_20, .int 0])), (q_20, .inl (kA 0, 24, .inl (fun _ => 0))), (q21, .inr (6, [.int 3, .ref q_25, .int 0])), (q_25, .inl (kA 0, 24, .inl (fun _ => 0))), (q26, .inr (6, [.int 1, .ref q_30, .int 0])), (q_30, .inl (kA 0, 6, .inl (fun _ => 0)))]) [0, 1, 2, 3, 4, 5, 6, 7, 8, 9, 10, 11, 12] (by decide) rfl
  refine W.widen (k := 12) (n := 364) (Nat.le_of_ble_eq_true rfl) (Nat.le_of_ble_eq_true rfl) ?_
  exact W.vret hx hb hr (fun t ht hW => ⟨⟨(q1, q_5, q6, q_10, q11, q_15, q16, q_20, q21, q_25, q26, q_30), rfl, trivial, by rw [ht]; exact hP9, hD9⟩, hS.F ht⟩) hS.2.2 dX9_init_94
set_option maxHeartbeats 4000000 in
set_option maxRecDepth 100000 in
theorem mX4_init (l : Launch) (dC : Nat → ClassId) (dI : Nat → Nat → Nat) (kA : Nat → ClassId) (sz : Nat) (a0 : Nat)  : Met l yX4_init wsX4_init ({ frames := 1, cells := 1, slots := 11, locals := 12 }) (zPc dC dI kA sz [.ref a0] [(a0, .inr (4, [.null, .int 0, .int 0, .int 0]))]) (va_Qv (fun (u : Unit) => True) (zB dC dI (va_A [(a0, .inr (4, [.null, .int 0, .int 0, .int 0]))] sz) (fun (u : Unit) => [])) (va_A [(a0, .inr (4, [.null, .int 0, .int 0, .int 0]))] sz)) 1 11 (va_A [(a0, .inr (4, [.null, .int 0, .int 0, .int 0]))] sz) := by
  refine Met.ofW (cc := cX4_init) (maxL := 1) (ret := none) (by decide) rfl ?_
  intro p e s m args below meth c s₁ B hml hv
  obtain ⟨rfl, hsz, hP, hK, hD0⟩ := hv
  have hx := B.exec
  have hb := B.bytes
  have hr := B.returns
  have hts := atoms_spec (ws := wsX4_init) B.pre
  have hown : s.vm.findClass RX4 = some m.cls := findClass_of_methodNamed B.named
  have hlocks := B.notSynchronized
  have hin : meth.name = "<init>" := (name_of_methodNamed B.named B.method).1
  subst hsz
  have hD := hD0.self (sz := s.heap.size)
  generalize hAe : va_A [(a0, .inr (4, [.null, .int 0, .int 0, .int 0]))] s.heap.size = A at hD ⊢
  have hA : ∀ q : Nat, s.heap.size ≤ q → A q := fun q h => by rw [← hAe]; exact Or.inr h
  have hS : va_S A s.heap s.heap [] := va_S.rf
  have hP : va_P (dC, dI) vwCl [(a0, .inr (4, [.null, .int 0, .int 0, .int 0]))] s.heap := hP
  have hl := lv_entry ([.ref a0]) (n := 1) (Nat.le_of_ble_eq_true rfl)
  rw [lg_entry_eq]
  generalize (lg_sl ([.ref a0]) ++ List.replicate (1 - (lg_sl ([.ref a0])).length) Slot.unset).toArray = ls at hl ⊢
  have hl : lv_has ls 1 [(0, .ref a0)] := hl
  refine lv_aload_n hx hb dX4_init_0 rfl (lv_at hl 0 rfl) ?_
  refine W.objInit hx hb hown (kX4_init_1 hts) (kX4_init_2 hts) (kX4_init_3 hts) rfl (by rw [hml]; exact hl.1) rfl dX4_init_1 (Nat.le_of_ble_eq_true rfl) (Nat.le_of_ble_eq_true rfl) ?_
  refine W.eq (g2 := F0 m 4 ls []) rfl ?_
  refine lv_aload_n hx hb dX4_init_4 rfl (lv_at hl 0 rfl) ?_
  refine lv_bipush (v := 11) hx hb dX4_init_5 (by decide) ?_
  refine z_newi hx hb (kX4_init_4 hts) hK hP hD hS hA 11 (by decide) (by decide) (by decide) (Nat.le_of_ble_eq_true rfl) (Nat.le_of_ble_eq_true rfl) dX4_init_7 (fun q1 H hP hD hS => ?_)
  refine W.widen (k := 1) (n := 11) (Nat.le_of_ble_eq_true rfl) (Nat.le_of_ble_eq_true rfl) ?_
  have hP : va_P (dC, dI) vwCl [(a0, .inr (4, [.null, .int 0, .int 0, .int 0])), (q1, .inl (kA 0, 11, .inl (fun _ => 0)))] H := hP
  have hD : va_D A [(a0, .inr (4, [.null, .int 0, .int 0, .int 0])), (q1, .inl (kA 0, 11, .inl (fun _ => 0)))] := hD
  refine va_putF (D := (dC, dI)) (ci := 4) (v := .ref q1) (ty := .array (.int)) (C := RX4) (T := TX4) (N := 4) hx hb hts iX4_init_X4 tyX4 tyX4_ok nmX4 hown hK.1 hP hD hS 0 rfl rfl 0 (by decide) (kX4_init_5 hts) (fun _ h9 => h9) rfl hin rfl (by decide +kernel) rfl rfl (Nat.le_of_ble_eq_true rfl) dX4_init_9 (fun H locs hP hD hS => ?_)
  have hP : va_P (dC, dI) vwCl [(a0, .inr (4, [.ref q1, .int 0, .int 0, .int 0])), (q1, .inl (kA 0, 11, .inl (fun _ => 0)))] H := hP
  have hD : va_D A [(a0, .inr (4, [.ref q1, .int 0, .int 0, .int 0])), (q1, .inl (kA 0, 11, .inl (fun _ => 0)))] := hD
  have hP9 := hP.sub (ws' := []) [] rfl
  have hD9 := hD.sub (ws' := []) [] (by decide) rfl
  refine W.widen (k := 1) (n := 11) (Nat.le_of_ble_eq_true rfl) (Nat.le_of_ble_eq_true rfl) ?_
  exact W.vret hx hb hr (fun t ht hW => ⟨⟨(), rfl, trivial, by rw [ht]; exact hP9, hD9⟩, hS.F ht⟩) hS.2.2 dX4_init_12
set_option maxHeartbeats 4000000 in
set_option maxRecDepth 100000 in
theorem mX1_init (l : Launch) (dC : Nat → ClassId) (dI : Nat → Nat → Nat) (kA : Nat → ClassId) (sz : Nat) (a0 : Nat)  : Met l yX1_init wsX1_init ({ frames := 1, cells := 12, slots := 516, locals := 12 }) (zPc dC dI kA sz [.ref a0] [(a0, .inr (1, [.int 0, .int 0, .null, .null, .null, .null, .null, .int 0, .null, .null, .int 0, .null, .null, .null, .null, .int 0, .null]))]) (va_Qv (fun (u : Nat × Nat × Nat × Nat × Nat × Nat × Nat × Nat × Nat × Nat × Nat × Nat) => True) (zB dC dI (va_A [(a0, .inr (1, [.int 0, .int 0, .null, .null, .null, .null, .null, .int 0, .null, .null, .int 0, .null, .null, .null, .null, .int 0, .null]))] sz) (fun (u : Nat × Nat × Nat × Nat × Nat × Nat × Nat × Nat × Nat × Nat × Nat × Nat) => [(a0, .inr (1, [.int 0, .int 0, .ref u.1, .ref u.2.1, .ref u.2.2.1, .ref u.2.2.2.1, .ref u.2.2.2.2.1, .int 0, .ref u.2.2.2.2.2.1, .ref u.2.2.2.2.2.2.1, .int 0, .ref u.2.2.2.2.2.2.2.1, .ref u.2.2.2.2.2.2.2.2.1, .ref u.2.2.2.2.2.2.2.2.2.1, .ref u.2.2.2.2.2.2.2.2.2.2.1, .int 0, .ref u.2.2.2.2.2.2.2.2.2.2.2]))])) (va_A [(a0, .inr (1, [.int 0, .int 0, .null, .null, .null, .null, .null, .int 0, .null, .null, .int 0, .null, .null, .null, .null, .int 0, .null]))] sz)) 12 516 (va_A [(a0, .inr (1, [.int 0, .int 0, .null, .null, .null, .null, .null, .int 0, .null, .null, .int 0, .null, .null, .null, .null, .int 0, .null]))] sz) := by
  refine Met.ofW (cc := cX1_init) (maxL := 1) (ret := none) (by decide) rfl ?_
  intro p e s m args below meth c s₁ B hml hv
  obtain ⟨rfl, hsz, hP, hK, hD0⟩ := hv
  have hx := B.exec
  have hb := B.bytes
  have hr := B.returns
  have hts := atoms_spec (ws := wsX1_init) B.pre
  have hown : s.vm.findClass RX1 = some m.cls := findClass_of_methodNamed B.named
  have hlocks := B.notSynchronized
  have hin : meth.name = "<init>" := (name_of_methodNamed B.named B.method).1
  subst hsz
  have hD := hD0.self (sz := s.heap.size)
  generalize hAe : va_A [(a0, .inr (1, [.int 0, .int 0, .null, .null, .null, .null, .null, .int 0, .null, .null, .int 0, .null, .null, .null, .null, .int 0, .null]))] s.heap.size = A at hD ⊢
  have hA : ∀ q : Nat, s.heap.size ≤ q → A q := fun q h => by rw [← hAe]; exact Or.inr h
  have hS : va_S A s.heap s.heap [] := va_S.rf
  have hP : va_P (dC, dI) vwCl [(a0, .inr (1, [.int 0, .int 0, .null, .null, .null, .null, .null, .int 0, .null, .null, .int 0, .null, .null, .null, .null, .int 0, .null]))] s.heap := hP
  have hl := lv_entry ([.ref a0]) (n := 1) (Nat.le_of_ble_eq_true rfl)
  rw [lg_entry_eq]
  generalize (lg_sl ([.ref a0]) ++ List.replicate (1 - (lg_sl ([.ref a0])).length) Slot.unset).toArray = ls at hl ⊢
  have hl : lv_has ls 1 [(0, .ref a0)] := hl
  refine lv_aload_n hx hb dX1_init_0 rfl (lv_at hl 0 rfl) ?_
  refine W.objInit hx hb hown (kX1_init_1 hts) (kX1_init_2 hts) (kX1_init_3 hts) rfl (by rw [hml]; exact hl.1) rfl dX1_init_1 (Nat.le_of_ble_eq_true rfl) (Nat.le_of_ble_eq_true rfl) ?_
  refine W.eq (g2 := F0 m 4 ls []) rfl ?_
  refine lv_aload_n hx hb dX1_init_4 rfl (lv_at hl 0 rfl) ?_
  refine lv_bipush (v := 12) hx hb dX1_init_5 (by decide) ?_
  refine z_newi hx hb (kX1_init_4 hts) hK hP hD hS hA 12 (by decide) (by decide) (by decide) (Nat.le_of_ble_eq_true rfl) (Nat.le_of_ble_eq_true rfl) dX1_init_7 (fun q1 H hP hD hS => ?_)
  refine W.widen (k := 1) (n := 12) (Nat.le_of_ble_eq_true rfl) (Nat.le_of_ble_eq_true rfl) ?_
  have hP : va_P (dC, dI) vwCl [(a0, .inr (1, [.int 0, .int 0, .null, .null, .null, .null, .null, .int 0, .null, .null, .int 0, .null, .null, .null, .null, .int 0, .null])), (q1, .inl (kA 0, 12, .inl (fun _ => 0)))] H := hP
  have hD : va_D A [(a0, .inr (1, [.int 0, .int 0, .null, .null, .null, .null, .null, .int 0, .null, .null, .int 0, .null, .null, .null, .null, .int 0, .null])), (q1, .inl (kA 0, 12, .inl (fun _ => 0)))] := hD
  refine va_putF (D := (dC, dI)) (ci := 1) (v := .ref q1) (ty := .array (.int)) (C := RX1) (T := TX1) (N := 17) hx hb hts iX1_init_X1 tyX1 tyX1_ok nmX1 hown hK.1 hP hD hS 0 rfl rfl 2 (by decide) (kX1_init_5 hts) (fun _ h9 => h9) rfl hin rfl (by decide +kernel) rfl rfl (Nat.le_of_ble_eq_true rfl) dX1_init_9 (fun H locs hP hD hS => ?_)
  have hP : va_P (dC, dI) vwCl [(a0, .inr (1, [.int 0, .int 0, .ref q1, .null, .null, .null, .null, .int 0, .null, .null, .int 0, .null, .null, .null, .null, .int 0, .null])), (q1, .inl (kA 0, 12, .inl (fun _ => 0)))] H := hP
  have hD : va_D A [(a0, .inr (1, [.int 0, .int 0, .ref q1, .null, .null, .null, .null, .int 0, .null, .null, .int 0, .null, .null, .null, .null, .int 0, .null])), (q1, .inl (kA 0, 12, .inl (fun _ => 0)))] := hD
  refine lv_aload_n hx hb dX1_init_12 rfl (lv_at hl 0 rfl) ?_
  refine lv_bipush (v := 12) hx hb dX1_init_13 (by decide) ?_
  refine z_newi hx hb (kX1_init_4 hts) hK hP hD hS hA 12 (by decide) (by decide) (by decide) (Nat.le_of_ble_eq_true rfl) (Nat.le_of_ble_eq_true rfl) dX1_init_15 (fun q2 H hP hD hS => ?_)
  refine W.widen (k := 2) (n := 24) (Nat.le_of_ble_eq_true rfl) (Nat.le_of_ble_eq_true rfl) ?_
  have hP : va_P (dC, dI) vwCl [(a0, .inr (1, [.int 0, .int 0, .ref q1, .null, .null, .null, .null, .int 0, .null, .null, .int 0, .null, .null, .null, .null, .int 0, .null])), (q1, .inl (kA 0, 12, .inl (fun _ => 0))), (q2, .inl (kA 0, 12, .inl (fun _ => 0)))] H := hP
  have hD : va_D A [(a0, .inr (1, [.int 0, .int 0, .ref q1, .null, .null, .null, .null, .int 0, .null, .null, .int 0, .null, .null, .null, .null, .int 0, .null])), (q1, .inl (kA 0, 12, .inl (fun _ => 0))), (q2, .inl (kA 0, 12, .inl (fun _ => 0)))] := hD
  refine va_putF (D := (dC, dI)) (ci := 1) (v := .ref q2) (ty := .array (.int)) (C := RX1) (T := TX1) (N := 17) hx hb hts iX1_init_X1 tyX1 tyX1_ok nmX1 hown hK.1 hP hD hS 0 rfl rfl 3 (by decide) (kX1_init_6 hts) (fun _ h9 => h9) rfl hin rfl (by decide +kernel) rfl rfl (Nat.le_of_ble_eq_true rfl) dX1_init_17 (fun H locs hP hD hS => ?_)
  have hP : va_P (dC, dI) vwCl [(a0, .inr (1, [.int 0, .int 0, .ref q1, .ref q2, .null, .null, .null, .int 0, .null, .null, .int 0, .null, .null, .null, .null, .int 0, .null])), (q1, .inl (kA 0, 12, .inl (fun _ => 0))), (q2, .inl (kA 0, 12, .inl (fun _ => 0)))] H := hP
  have hD : va_D A [(a0, .inr (1, [.int 0, .int 0, .ref q1, .ref q2, .null, .null, .null, .int 0, .null, .null, .int 0, .null, .null, .null, .null, .int 0, .null])), (q1, .inl (kA 0, 12, .inl (fun _ => 0))), (q2, .inl (kA 0, 12, .inl (fun _ => 0)))] := hD
  refine lv_aload_n hx hb dX1_init_20 rfl (lv_at hl 0 rfl) ?_
  refine lv_bipush (v := 12) hx hb dX1_init_21 (by decide) ?_
  refine z_newi hx hb (kX1_init_4 hts) hK hP hD hS hA 12 (by decide) (by decide) (by decide) (Nat.le_of_ble_eq_true rfl) (Nat.le_of_ble_eq_true rfl) dX1_init_23 (fun q3 H hP hD hS => ?_)
  refine W.widen (k := 3) (n := 36) (Nat.le_of_ble_eq_true rfl) (Nat.le_of_ble_eq_true rfl) ?_
  have hP : va_P (dC, dI) vwCl [(a0, .inr (1, [.int 0, .int 0, .ref q1, .ref q2, .null, .null, .null, .int 0, .null, .null, .int 0, .null, .null, .null, .null, .int 0, .null])), (q1, .inl (kA 0, 12, .inl (fun _ => 0))), (q2, .inl (kA 0, 12, .inl (fun _ => 0))), (q3, .inl (kA 0, 12, .inl (fun _ => 0)))] H := hP
  have hD : va_D A [(a0, .inr (1, [.int 0, .int 0, .ref q1, .ref q2, .null, .null, .null, .int 0, .null, .null, .int 0, .null, .null, .null, .null, .int 0, .null])), (q1, .inl (kA 0, 12, .inl (fun _ => 0))), (q2, .inl (kA 0, 12, .inl (fun _ => 0))), (q3, .inl (kA 0, 12, .inl (fun _ => 0)))] := hD
  refine va_putF (D := (dC, dI)) (ci := 1) (v := .ref q3) (ty := .array (.int)) (C := RX1) (T := TX1) (N := 17) hx hb hts iX1_init_X1 tyX1 tyX1_ok nmX1 hown hK.1 hP hD hS 0 rfl rfl 4 (by decide) (kX1_init_7 hts) (fun _ h9 => h9) rfl hin rfl (by decide +kernel) rfl rfl (Nat.le_of_ble_eq_true rfl) dX1_init_25 (fun H locs hP hD hS => ?_)
  have hP : va_P (dC, dI) vwCl [(a0, .inr (1, [.int 0, .int 0, .ref q1, .ref q2, .ref q3, .null, .null, .int 0, .null, .null, .int 0, .null, .null, .null, .null, .int 0, .null])), (q1, .inl (kA 0, 12, .inl (fun _ => 0))), (q2, .inl (kA 0, 12, .inl (fun _ => 0))), (q3, .inl (kA 0, 12, .inl (fun _ => 0)))] H := hP
  have hD : va_D A [(a0, .inr (1, [.int 0, .int 0, .ref q1, .ref q2, .ref q3, .null, .null, .int 0, .null, .null, .int 0, .null, .null, .null, .null, .int 0, .null])), (q1, .inl (kA 0, 12, .inl (fun _ => 0))), (q2, .inl (kA 0, 12, .inl (fun _ => 0))), (q3, .inl (kA 0, 12, .inl (fun _ => 0)))] := hD
  refine lv_aload_n hx hb dX1_init_28 rfl (lv_at hl 0 rfl) ?_
  refine lv_bipush (v := 12) hx hb dX1_init_29 (by decide) ?_
  refine z_newi hx hb (kX1_init_4 hts) hK hP hD hS hA 12 (by decide) (by decide) (by decide) (Nat.le_of_ble_eq_true rfl) (Nat.le_of_ble_eq_true rfl) dX1_init_31 (fun q4 H hP hD hS => ?_)
  refine W.widen (k := 4) (n := 48) (Nat.le_of_ble_eq_true rfl) (Nat.le_of_ble_eq_true rfl) ?_
  have hP : va_P (dC, dI) vwCl [(a0, .inr (1, [.int 0, .int 0, .ref q1, .ref q2, .ref q3, .null, .null, .int 0, .null, .null, .int 0, .null, .null, .null, .null, .int 0, .null])), (q1, .inl (kA 0, 12, .inl (fun _ => 0))), (q2, .inl (kA 0, 12, .inl (fun _ => 0))), (q3, .inl (kA 0, 12, .inl (fun _ => 0))), (q4, .inl (kA 0, 12, .inl (fun _ => 0)))] H := hP
  have hD : va_D A [(a0, .inr (1, [.int 0, .int 0, .ref q1, .ref q2, .ref q3, .null, .null, .int 0, .null, .null, .int 0, .null, .null, .null, .null, .int 0, .null])), (q1, .inl (kA 0, 12, .inl (fun _ => 0))), (q2, .inl (kA 0, 12, .inl (fun _ => 0))), (q3, .inl (kA 0, 12, .inl (fun _ => 0))), (q4, .inl (kA 0, 12, .inl (fun _ => 0)))] := hD
  refine va_putF (D := (dC, dI)) (ci := 1) (v := .ref q4) (ty := .array (.int)) (C := RX1) (T := TX1) (N := 17) hx hb hts iX1_init_X1 tyX1 tyX1_ok nmX1 hown hK.1 hP hD hS 0 rfl rfl 5 (by decide) (kX1_init_8 hts) (fun _ h9 => h9) rfl hin rfl (by decide +kernel) rfl rfl (Nat.le_of_ble_eq_true rfl) dX1_init_33 (fun H locs hP hD hS => ?_)
  have hP : va_P (dC, dI) vwCl [(a0, .inr (1, [.int 0, .int 0, .ref q1, .ref q2, .ref q3, .ref q4, .null, .int 0, .null, .null, .int 0, .null, .null, .null, .null, .int 0, .null])), (q1, .inl (kA 0, 12, .inl (fun _ => 0))), (q2, .inl (kA 0, 12, .inl (fun _ => 0))), (q3, .inl (kA 0, 12, .inl (fun _ => 0))), (q4, .inl (kA 0, 12, .inl (fun _ => 0)))] H := hP
  have hD : va_D A [(a0, .inr (1, [.int 0, .int 0, .ref q1, .ref q2, .ref q3, .ref q4, .null, .int 0, .null, .null, .int 0, .null, .null, .null, .null, .int 0, .null])), (q1, .inl (kA 0, 12, .inl (fun _ => 0))), (q2, .inl (kA 0, 12, .inl (fun _ => 0))), (q3, .inl (kA 0, 12, .inl (fun _ => 0))), (q4, .inl (kA 0, 12, .inl (fun _ => 0)))] := hD
  refine lv_aload_n hx hb dX1_init_36 rfl (lv_at hl 0 rfl) ?_
  refine lv_bipush (v := 12) hx hb dX1_init_37 (by decide) ?_
  refine z_newi hx hb (kX1_init_4 hts) hK hP hD hS hA 12 (by decide) (by decide) (by decide) (Nat.le_of_ble_eq_true rfl) (Nat.le_of_ble_eq_true rfl) dX1_init_39 (fun q5 H hP hD hS => ?_)
  refine W.widen (k := 5) (n := 60) (Nat.le_of_ble_eq_true rfl) (Nat.le_of_ble_eq_true rfl) ?_
  have hP : va_P (dC, dI) vwCl [(a0, .inr (1, [.int 0, .int 0, .ref q1, .ref q2, .ref q3, .ref q4, .null, .int 0, .null, .null, .int 0, .null, .null, .null, .null, .int 0, .null])), (q1, .inl (kA 0, 12, .inl (fun _ => 0))), (q2, .inl (kA 0, 12, .inl (fun _ => 0))), (q3, .inl (kA 0, 12, .inl (fun _ => 0))), (q4, .inl (kA 0, 12, .inl (fun _ => 0))), (q5, .inl (kA 0, 12, .inl (fun _ => 0)))] H := hP
  have hD : va_D A [(a0, .inr (1, [.int 0, .int 0, .ref q1, .ref q2, .ref q3, .ref q4, .null, .int 0, .null, .null, .int 0, .null, .null, .null, .null, .int 0, .null])), (q1, .inl (kA 0, 12, .inl (fun _ => 0))), (q2, .inl (kA 0, 12, .inl (fun _ => 0))), (q3, .inl (kA 0, 12, .inl (fun _ => 0))), (q4, .inl (kA 0, 12, .inl (fun _ => 0))), (q5, .inl (kA 0, 12, .inl (fun _ => 0)))] := hD
  refine va_putF (D := (dC, dI)) (ci := 1) (v := .ref q5) (ty := .array (.int)) (C := RX1) (T := TX1) (N := 17) hx hb hts iX1_init_X1 tyX1 tyX1_ok nmX1 hown hK.1 hP hD hS 0 rfl rfl 6 (by decide) (kX1_init_9 hts) (fun _ h9 => h9) rfl hin rfl (by decide +kernel) rfl rfl (Nat.le_of_ble_eq_true rfl) dX1_init_41 (fun H locs hP hD hS => ?_)
  have hP : va_P (dC, dI) vwCl [(a0, .inr (1, [.int 0, .int 0, .ref q1, .ref q2, .ref q3, .ref q4, .ref q5, .int 0, .null, .null, .int 0, .null, .null, .null, .null, .int 0, .null])), (q1, .inl (kA 0, 12, .inl (fun _ => 0))), (q2, .inl (kA 0, 12, .inl (fun _ => 0))), (q3, .inl (kA 0, 12, .inl (fun _ => 0))), (q4, .inl (kA 0, 12, .inl (fun _ => 0))), (q5, .inl (kA 0, 12, .inl (fun _ => 0)))] H := hP
  have hD : va_D A [(a0, .inr (1, [.int 0, .int 0, .ref q1, .ref q2, .ref q3, .ref q4, .ref q5, .int 0, .null, .null, .int 0, .null, .null, .null, .null, .int 0, .null])), (q1, .inl (kA 0, 12, .inl (fun _ => 0))), (q2, .inl (kA 0, 12, .inl (fun _ => 0))), (q3, .inl (kA 0, 12, .inl (fun _ => 0))), (q4, .inl (kA 0, 12, .inl (fun _ => 0))), (q5, .inl (kA 0, 12, .inl (fun _ => 0)))] := hD
  refine lv_aload_n hx hb dX1_init_44 rfl (lv_at hl 0 rfl) ?_
  refine lv_bipush (v := 60) hx hb dX1_init_45 (by decide) ?_
  refine z_newi hx hb (kX1_init_4 hts) hK hP hD hS hA 60 (by decide) (by decide) (by decide) (Nat.le_of_ble_eq_true rfl) (Nat.le_of_ble_eq_true rfl) dX1_init_47 (fun q6 H hP hD hS => ?_)
  refine W.widen (k := 6) (n := 120) (Nat.le_of_ble_eq_true rfl) (Nat.le_of_ble_eq_true rfl) ?_
  have hP : va_P (dC, dI) vwCl [(a0, .inr (1, [.int 0, .int 0, .ref q1, .ref q2, .ref q3, .ref q4, .ref q5, .int 0, .null, .null, .int 0, .null, .null, .null, .null, .int 0, .null])), (q1, .inl (kA 0, 12, .inl (fun _ => 0))), (q2, .inl (kA 0, 12, .inl (fun _ => 0))), (q3, .inl (kA 0, 12, .inl (fun _ => 0))), (q4, .inl (kA 0, 12, .inl (fun _ => 0))), (q5, .inl (kA 0, 12, .inl (fun _ => 0))), (q6, .inl (kA 0, 60, .inl (fun _ => 0)))] H := hP
  have hD : va_D A [(a0, .inr (1, [.int 0, .int 0, .ref q1, .ref q2, .ref q3, .ref q4, .ref q5, .int 0, .null, .null, .int 0, .null, .null, .null, .null, .int 0, .null])), (q1, .inl (kA 0, 12, .inl (fun _ => 0))), (q2, .inl (kA 0, 12, .inl (fun _ => 0))), (q3, .inl (kA 0, 12, .inl (fun _ => 0))), (q4, .inl (kA 0, 12, .inl (fun _ => 0))), (q5, .inl (kA 0, 12, .inl (fun _ => 0))), (q6, .inl (kA 0, 60, .inl (fun _ => 0)))] := hD
  refine va_putF (D := (dC, dI)) (ci := 1) (v := .ref q6) (ty := .array (.int)) (C := RX1) (T := TX1) (N := 17) hx hb hts iX1_init_X1 tyX1 tyX1_ok nmX1 hown hK.1 hP hD hS 0 rfl rfl 8 (by decide) (kX1_init_10 hts) (fun _ h9 => h9) rfl hin rfl (by decide +kernel) rfl rfl (Nat.le_of_ble_eq_true rfl) dX1_init_49 (fun H locs hP hD hS => ?_)
  have hP : va_P (dC, dI) vwCl [(a0, .inr (1, [.int 0, .int 0, .ref q1, .ref q2, .ref q3, .ref q4, .ref q5, .int 0, .ref q6, .null, .int 0, .null, .null, .null, .null, .int 0, .null])), (q1, .inl (kA 0, 12, .inl (fun _ => 0))), (q2, .inl (kA 0, 12, .inl (fun _ => 0))), (q3, .inl (kA 0, 12, .inl (fun _ => 0))), (q4, .inl (kA 0, 12, .inl (fun _ => 0))), (q5, .inl (kA 0, 12, .inl (fun _ => 0))), (q6, .inl (kA 0, 60, .inl (fun _ => 0)))] H := hP
  have hD : va_D A [(a0, .inr (1, [.int 0, .int 0, .ref q1, .ref q2, .ref q3, .ref q4, .ref q5, .int 0, .ref q6, .null, .int 0, .null, .null, .null, .null, .int 0, .null])), (q1, .inl (kA 0, 12, .inl (fun _ => 0))), (q2, .inl (kA 0, 12, .inl (fun _ => 0))), (q3, .inl (kA 0, 12, .inl (fun _ => 0))), (q4, .inl (kA 0, 12, .inl (fun _ => 0))), (q5, .inl (kA 0, 12, .inl (fun _ => 0))), (q6, .inl (kA 0, 60, .inl (fun _ => 0)))] := hD
  refine lv_aload_n hx hb dX1_init_52 rfl (lv_at hl 0 rfl) ?_
  refine lv_bipush (v := 60) hx hb dX1_init_53 (by decide) ?_
  refine z_newi hx hb (kX1_init_4 hts) hK hP hD hS hA 60 (by decide) (by decide) (by decide) (Nat.le_of_ble_eq_true rfl) (Nat.le_of_ble_eq_true rfl) dX1_init_55 (fun q7 H hP hD hS => ?_)
  refine W.widen (k := 7) (n := 180) (Nat.le_of_ble_eq_true rfl) (Nat.le_of_ble_eq_true rfl) ?_
  have hP : va_P (dC, dI) vwCl [(a0, .inr (1, [.int 0, .int 0, .ref q1, .ref q2, .ref q3, .ref q4, .ref q5, .int 0, .ref q6, .null, .int 0, .null, .null, .null, .null, .int 0, .null])), (q1, .inl (kA 0, 12, .inl (fun _ => 0))), (q2, .inl (kA 0, 12, .inl (fun _ => 0))), (q3, .inl (kA 0, 12, .inl (fun _ => 0))), (q4, .inl (kA 0, 12, .inl (fun _ => 0))), (q5, .inl (kA 0, 12, .inl (fun _ => 0))), (q6, .inl (kA 0, 60, .inl (fun _ => 0))), (q7, .inl (kA 0, 60, .inl (fun _ => 0)))] H := hP
  have hD : va_D A [(a0, .inr (1, [.int 0, .int 0, .ref q1, .ref q2, .ref q3, .ref q4, .ref q5, .int 0, .ref q6, .null, .int 0, .null, .null, .null, .null, .int 0, .null])), (q1, .inl (kA 0, 12, .inl (fun _ => 0))), (q2, .inl (kA 0, 12, .inl (fun _ => 0))), (q3, .inl (kA 0, 12, .inl (fun _ => 0))), (q4, .inl (kA 0, 12, .inl (fun _ => 0))), (q5, .inl (kA 0, 12, .inl (fun _ => 0))), (q6, .inl (kA 0, 60, .inl (fun _ => 0))), (q7, .inl (kA 0, 60, .inl (fun _ => 0)))] := hD
  refine va_putF (D := (dC, dI)) (ci := 1) (v := .ref q7) (ty := .array (.int)) (C := RX1) (T := TX1) (N := 17) hx hb hts iX1_init_X1 tyX1 tyX1_ok nmX1 hown hK.1 hP hD hS 0 rfl rfl 9 (by decide) (kX1_init_11 hts) (fun _ h9 => h9) rfl hin rfl (by decide +kernel) rfl rfl (Nat.le_of_ble_eq_true rfl) dX1_init_57 (fun H locs hP hD hS => ?_)
  have hP : va_P (dC, dI) vwCl [(a0, .inr (1, [.int 0, .int 0, .ref q1, .ref q2, .ref q3, .ref q4, .ref q5, .int 0, .ref q6, .ref q7, .int 0, .null, .null, .null, .null, .int 0, .null])), (q1, .inl (kA 0, 12, .inl (fun _ => 0))), (q2, .inl (kA 0, 12, .inl (fun _ => 0))), (q3, .inl (kA 0, 12, .inl (fun _ => 0))), (q4, .inl (kA 0, 12, .inl (fun _ => 0))), (q5, .inl (kA 0, 12, .inl (fun _ => 0))), (q6, .inl (kA 0, 60, .inl (fun _ => 0))), (q7, .inl (kA 0, 60, .inl (fun _ => 0)))] H := hP
  have hD : va_D A [(a0, .inr (1, [.int 0, .int 0, .ref q1, .ref q2, .ref q3, .ref q4, .ref q5, .int 0, .ref q6, .ref q7, .int 0, .null, .null, .null, .null, .int 0, .null])), (q1, .inl (kA 0, 12, .inl (fun _ => 0))), (q2, .inl (kA 0, 12, .inl (fun _ => 0))), (q3, .inl (kA 0, 12, .inl (fun _ => 0))), (q4, .inl (kA 0, 12, .inl (fun _ => 0))), (q5, .inl (kA 0, 12, .inl (fun _ => 0))), (q6, .inl (kA 0, 60, .inl (fun _ => 0))), (q7, .inl (kA 0, 60, .inl (fun _ => 0)))] := hD
  refine lv_aload_n hx hb dX1_init_60 rfl (lv_at hl 0 rfl) ?_
  refine lv_bipush (v := 20) hx hb dX1_init_61 (by decide) ?_
  refine z_newi hx hb (kX1_init_4 hts) hK hP hD hS hA 20 (by decide) (by decide) (by decide) (Nat.le_of_ble_eq_true rfl) (Nat.le_of_ble_eq_true rfl) dX1_init_63 (fun q8 H hP hD hS => ?_)
  refine W.widen (k := 8) (n := 200) (Nat.le_of_ble_eq_true rfl) (Nat.le_of_ble_eq_true rfl) ?_
  have hP : va_P (dC, dI) vwCl [(a0, .inr (1, [.int 0, .int 0, .ref q1, .ref q2, .ref q3, .ref q4, .ref q5, .int 0, .ref q6, .ref q7, .int 0, .null, .null, .null, .null, .int 0, .null])), (q1, .inl (kA 0, 12, .inl (fun _ => 0))), (q2, .inl (kA 0, 12, .inl (fun _ => 0))), (q3, .inl (kA 0, 12, .inl (fun _ => 0))), (q4, .inl (kA 0, 12, .inl (fun _ => 0))), (q5, .inl (kA 0, 12, .inl (fun _ => 0))), (q6, .inl (kA 0, 60, .inl (fun _ => 0))), (q7, .inl (kA 0, 60, .inl (fun _ => 0))), (q8, .inl (kA 0, 20, .inl (fun _ => 0)))] H := hP
  have hD : va_D A [(a0, .inr (1, [.int 0, .int 0, .ref q1, .ref q2, .ref q3, .ref q4, .ref q5, .int 0, .ref q6, .ref q7, .int 0, .null, .null, .null, .null, .int 0, .null])), (q1, .inl (kA 0, 12, .inl (fun _ => 0))), (q2, .inl (kA 0, 12, .inl (fun _ => 0))), (q3, .inl (kA 0, 12, .inl (fun _ => 0))), (q4, .inl (kA 0, 12, .inl (fun _ => 0))), (q5, .inl (kA 0, 12, .inl (fun _ => 0))), (q6, .inl (kA 0, 60, .inl (fun _ => 0))), (q7, .inl (kA 0, 60, .inl (fun _ => 0))), (q8, .inl (kA 0, 20, .inl (fun _ => 0)))] := hD
  refine va_putF (D := (dC, dI)) (ci := 1) (v := .ref q8) (ty := .array (.int)) (C := RX1) (T := TX1) (N := 17) hx hb hts iX1_init_X1 tyX1 tyX1_ok nmX1 hown hK.1 hP hD hS 0 rfl rfl 11 (by decide) (kX1_init_12 hts) (fun _ h9 => h9) rfl hin rfl (by decide +kernel) rfl rfl (Nat.le_of_ble_eq_true rfl) dX1_init_65 (fun H locs hP hD hS => ?_)
  have hP : va_P (dC, dI) vwCl [(a0, .inr (1, [.int 0, .int 0, .ref q1, .ref q2, .ref q3, .ref q4, .ref q5, .int 0, .ref q6, .ref q7, .int 0, .ref q8, .null, .null, .null, .int 0, .null])), (q1, .inl (kA 0, 12, .inl (fun _ => 0))), (q2, .inl (kA 0, 12, .inl (fun _ => 0))), (q3, .inl (kA 0, 12, .inl (fun _ => 0))), (q4, .inl (kA 0, 12, .inl (fun _ => 0))), (q5, .inl (kA 0, 12, .inl (fun _ => 0))), (q6, .inl (kA 0, 60, .inl (fun _ => 0))), (q7, .inl (kA 0, 60, .inl (fun _ => 0))), (q8, .inl (kA 0, 20, .inl (fun _ => 0)))] H := hP
  have hD : va_D A [(a0, .inr (1, [.int 0, .int 0, .ref q1, .ref q2, .ref q3, .ref q4, .ref q5, .int 0, .ref q6, .ref q7, .int 0, .ref q8, .null, .null, .null, .int 0, .null])), (q1, .inl (kA 0, 12, .inl (fun _ => 0))), (q2, .inl (kA 0, 12, .inl (fun _ => 0))), (q3, .inl (kA 0, 12, .inl (fun _ => 0))), (q4, .inl (kA 0, 12, .inl (fun _ => 0))), (q5, .inl (kA 0, 12, .inl (fun _ => 0))), (q6, .inl (kA 0, 60, .inl (fun _ => 0))), (q7, .inl (kA 0, 60, .inl (fun _ => 0))), (q8, .inl (kA 0, 20, .inl (fun _ => 0)))] := hD
  refine lv_aload_n hx hb dX1_init_68 rfl (lv_at hl 0 rfl) ?_
  refine lv_bipush (v := 20) hx hb dX1_init_69 (by decide) ?_
  refine z_newi hx hb (kX1_init_4 hts) hK hP hD hS hA 20 (by decide) (by decide) (by decide) (Nat.le_of_ble_eq_true rfl) (Nat.le_of_ble_eq_true rfl) dX1_init_71 (fun q9 H hP hD hS => ?_)
  refine W.widen (k := 9) (n := 220) (Nat.le_of_ble_eq_true rfl) (Nat.le_of_ble_eq_true rfl) ?_
  have hP : va_P (dC, dI) vwCl [(a0, .inr (1, [.int 0, .int 0, .ref q1, .ref q2, .ref q3, .ref q4, .ref q5, .int 0, .ref q6, .ref q7, .int 0, .ref q8, .null, .null, .null, .int 0, .null])), (q1, .inl (kA 0, 12, .inl (fun _ => 0))), (q2, .inl (kA 0, 12, .inl (fun _ => 0))), (q3, .inl (kA 0, 12, .inl (fun _ => 0))), (q4, .inl (kA 0, 12, .inl (fun _ => 0))), (q5, .inl (kA 0, 12, .inl (fun _ => 0))), (q6, .inl (kA 0, 60, .inl (fun _ => 0))), (q7, .inl (kA 0, 60, .inl (fun _ => 0))), (q8, .inl (kA 0, 20, .inl (fun _ => 0))), (q9, .inl (kA 0, 20, .inl (fun _ => 0)))] H := hP
  have hD : va_D A [(a0, .inr (1, [.int 0, .int 0, .ref q1, .ref q2, .ref q3, .ref q4, .ref q5, .int 0, .ref q6, .ref q7, .int 0, .ref q8, .null, .null, .null, .int 0, .null])), (q1, .inl (kA 0, 12, .inl (fun _ => 0))), (q2, .inl (kA 0, 12, .inl (fun _ => 0))), (q3, .inl (kA 0, 12, .inl (fun _ => 0))), (q4, .inl (kA 0, 12, .inl (fun _ => 0))), (q5, .inl (kA 0, 12, .inl (fun _ => 0))), (q6, .inl (kA 0, 60, .inl (fun _ => 0))), (q7, .inl (kA 0, 60, .inl (fun _ => 0))), (q8, .inl (kA 0, 20, .inl (fun _ => 0))), (q9, .inl (kA 0, 20, .inl (fun _ => 0)))] := hD
  refine va_putF (D := (dC, dI)) (ci := 1) (v := .ref q9) (ty := .array (.int)) (C := RX1) (T := TX1) (N := 17) hx hb hts iX1_init_X1 tyX1 tyX1_ok nmX1 hown hK.1 hP hD hS 0 rfl rfl 12 (by decide) (kX1_init_13 hts) (fun _ h9 => h9) rfl hin rfl (by decide +kernel) rfl rfl (Nat.le_of_ble_eq_true rfl) dX1_init_73 (fun H locs hP hD hS => ?_)
  have hP : va_P (dC, dI) vwCl [(a0, .inr (1, [.int 0, .int 0, .ref q1, .ref q2, .ref q3, .ref q4, .ref q5, .int 0, .ref q6, .ref q7, .int 0, .ref q8, .ref q9, .null, .null, .int 0, .null])), (q1, .inl (kA 0, 12, .inl (fun _ => 0))), (q2, .inl (kA 0, 12, .inl (fun _ => 0))), (q3, .inl (kA 0, 12, .inl (fun _ => 0))), (q4, .inl (kA 0, 12, .inl (fun _ => 0))), (q5, .inl (kA 0, 12, .inl (fun _ => 0))), (q6, .inl (kA 0, 60, .inl (fun _ => 0))), (q7, .inl (kA 0, 60, .inl (fun _ => 0))), (q8, .inl (kA 0, 20, .inl (fun _ => 0))), (q9, .inl (kA 0, 20, .inl (fun _ => 0)))] H := hP
  have hD : va_D A [(a0, .inr (1, [.int 0, .int 0, .ref q1, .ref q2, .ref q3, .ref q4, .ref q5, .int 0, .ref q6, .ref q7, .int 0, .ref q8, .ref q9, .null, .null, .int 0, .null])), (q1, .inl (kA 0, 12, .inl (fun _ => 0))), (q2, .inl (kA 0, 12, .inl (fun _ => 0))), (q3, .inl (kA 0, 12, .inl (fun _ => 0))), (q4, .inl (kA 0, 12, .inl (fun _ => 0))), (q5, .inl (kA 0, 12, .inl (fun _ => 0))), (q6, .inl (kA 0, 60, .inl (fun _ => 0))), (q7, .inl (kA 0, 60, .inl (fun _ => 0))), (q8, .inl (kA 0, 20, .inl (fun _ => 0))), (q9, .inl (kA 0, 20, .inl (fun _ => 0)))] := hD
  refine lv_aload_n hx hb dX1_init_76 rfl (lv_at hl 0 rfl) ?_
  refine lv_bipush (v := 20) hx hb dX1_init_77 (by decide) ?_
  refine z_newi hx hb (kX1_init_4 hts) hK hP hD hS hA 20 (by decide) (by decide) (by decide) (Nat.le_of_ble_eq_true rfl) (Nat.le_of_ble_eq_true rfl) dX1_init_79 (fun q10 H hP hD hS => ?_)
  refine W.widen (k := 10) (n := 240) (Nat.le_of_ble_eq_true rfl) (Nat.le_of_ble_eq_true rfl) ?_
  have hP : va_P (dC, dI) vwCl [(a0, .inr (1, [.int 0, .int 0, .ref q1, .ref q2, .ref q3, .ref q4, .ref q5, .int 0, .ref q6, .ref q7, .int 0, .ref q8, .ref q9, .null, .null, .int 0, .null])), (q1, .inl (kA 0, 12, .inl (fun _ => 0))), (q2, .inl (kA 0, 12, .inl (fun _ => 0))), (q3, .inl (kA 0, 12, .inl (fun _ => 0))), (q4, .inl (kA 0, 12, .inl (fun _ => 0))), (q5, .inl (kA 0, 12, .inl (fun _ => 0))), (q6, .inl (kA 0, 60, .inl (fun _ => 0))), (q7, .inl (kA 0, 60, .inl (fun _ => 0))), (q8, .inl (kA 0, 20, .inl (fun _ => 0))), (q9, .inl (kA 0, 20, .inl (fun _ => 0))), (q10, .inl (kA 0, 20, .inl (fun _ => 0)))] H := hP
  have hD : va_D A [(a0, .inr (1, [.int 0, .int 0, .ref q1, .ref q2, .ref q3, .ref q4, .ref q5, .int 0, .ref q6, .ref q7, .int 0, .ref q8, .ref q9, .null, .null, .int 0, .null])), (q1, .inl (kA 0, 12, .inl (fun _ => 0))), (q2, .inl (kA 0, 12, .inl (fun _ => 0))), (q3, .inl (kA 0, 12, .inl (fun _ => 0))), (q4, .inl (kA 0, 12, .inl (fun _ => 0))), (q5, .inl (kA 0, 12, .inl (fun _ => 0))), (q6, .inl (kA 0, 60, .inl (fun _ => 0))), (q7, .inl (kA 0, 60, .inl (fun _ => 0))), (q8, .inl (kA 0, 20, .inl (fun _ => 0))), (q9, .inl (kA 0, 20, .inl (fun _ => 0))), (q10, .inl (kA 0, 20, .inl (fun _ => 0)))] := hD
  refine va_putF (D := (dC, dI)) (ci := 1) (v := .ref q10) (ty := .array (.int)) (C := RX1) (T := TX1) (N := 17) hx hb hts iX1_init_X1 tyX1 tyX1_ok nmX1 hown hK.1 hP hD hS 0 rfl rfl 13 (by decide) (kX1_init_14 hts) (fun _ h9 => h9) rfl hin rfl (by decide +kernel) rfl rfl (Nat.le_of_ble_eq_true rfl) dX1_init_81 (fun H locs hP hD hS => ?_)
  have hP : va_P (dC, dI) vwCl [(a0, .inr (1, [.int 0, .int 0, .ref q1, .ref q2, .ref q3, .ref q4, .ref q5, .int 0, .ref q6, .ref q7, .int 0, .ref q8, .ref q9, .ref q10, .null, .int 0, .null])), (q1, .inl (kA 0, 12, .inl (fun _ => 0))), (q2, .inl (kA 0, 12, .inl (fun _ => 0))), (q3, .inl (kA 0, 12, .inl (fun _ => 0))), (q4, .inl (kA 0, 12, .inl (fun _ => 0))), (q5, .inl (kA 0, 12, .inl (fun _ => 0))), (q6, .inl (kA 0, 60, .inl (fun _ => 0))), (q7, .inl (kA 0, 60, .inl (fun _ => 0))), (q8, .inl (kA 0, 20, .inl (fun _ => 0))), (q9, .inl (kA 0, 20, .inl (fun _ => 0))), (q10, .inl (kA 0, 20, .inl (fun _ => 0)))] H := hP
  have hD : va_D A [(a0, .inr (1, [.int 0, .int 0, .ref q1, .ref q2, .ref q3, .ref q4, .ref q5, .int 0, .ref q6, .ref q7, .int 0, .ref q8, .ref q9, .ref q10, .null, .int 0, .null])), (q1, .inl (kA 0, 12, .inl (fun _ => 0))), (q2, .inl (kA 0, 12, .inl (fun _ => 0))), (q3, .inl (kA 0, 12, .inl (fun _ => 0))), (q4, .inl (kA 0, 12, .inl (fun _ => 0))), (q5, .inl (kA 0, 12, .inl (fun _ => 0))), (q6, .inl (kA 0, 60, .inl (fun _ => 0))), (q7, .inl (kA 0, 60, .inl (fun _ => 0))), (q8, .inl (kA 0, 20, .inl (fun _ => 0))), (q9, .inl (kA 0, 20, .inl (fun _ => 0))), (q10, .inl (kA 0, 20, .inl (fun _ => 0)))] := hD
  refine lv_aload_n hx hb dX1_init_84 rfl (lv_at hl 0 rfl) ?_
  refine lv_bipush (v := 20) hx hb dX1_init_85 (by decide) ?_
  refine z_newi hx hb (kX1_init_4 hts) hK hP hD hS hA 20 (by decide) (by decide) (by decide) (Nat.le_of_ble_eq_true rfl) (Nat.le_of_ble_eq_true rfl) dX1_init_87 (fun q11 H hP hD hS => ?_)
  refine W.widen (k := 11) (n := 260) (Nat.le_of_ble_eq_true rfl) (Nat.le_of_ble_eq_true rfl) ?_
  have hP : va_P (dC, dI) vwCl [(a0, .inr (1, [.int 0, .int 0, .ref q1, .ref q2, .ref q3, .ref q4, .ref q5, .int 0, .ref q6, .ref q7, .int 0, .ref q8, .ref q9, .ref q10, .null, .int 0, .null])), (q1, .inl (kA 0, 12, .inl (fun _ => 0))), (q2, .inl (kA 0, 12, .inl (fun _ => 0))), (q3, .inl (kA 0, 12, .inl (fun _ => 0))), (q4, .inl (kA 0, 12, .inl (fun _ => 0))), (q5, .inl (kA 0, 12, .inl (fun _ => 0))), (q6, .inl (kA 0, 60, .inl (fun _ => 0))), (q7, .inl (kA 0, 60, .inl (fun _ => 0))), (q8, .inl (kA 0, 20, .inl (fun _ => 0))), (q9, .inl (kA 0, 20, .inl (fun _ => 0))), (q10, .inl (kA 0, 20, .inl (fun _ => 0))), (q11, .inl (kA 0, 20, .inl (fun _ => 0)))] H := hP
  have hD : va_D A [(a0, .inr (1, [.int 0, .int 0, .ref q1, .ref q2, .ref q3, .ref q4, .ref q5, .int 0, .ref q6, .ref q7, .int 0, .ref q8, .ref q9, .ref q10, .null, .int 0, .null])), (q1, .inl (kA 0, 12, .inl (fun _ => 0))), (q2, .inl (kA 0, 12, .inl (fun _ => 0))), (q3, .inl (kA 0, 12, .inl (fun _ => 0))), (q4, .inl (kA 0, 12, .inl (fun _ => 0))), (q5, .inl (kA 0, 12, .inl (fun _ => 0))), (q6, .inl (kA 0, 60, .inl (fun _ => 0))), (q7, .inl (kA 0, 60, .inl (fun _ => 0))), (q8, .inl (kA 0, 20, .inl (fun _ => 0))), (q9, .inl (kA 0, 20, .inl (fun _ => 0))), (q10, .inl (kA 0, 20, .inl (fun _ => 0))), (q11, .inl (kA 0, 20, .inl (fun _ => 0)))] := hD
  refine va_putF (D := (dC, dI)) (ci := 1) (v := .ref q11) (ty := .array (.int)) (C := RX1) (T := TX1) (N := 17) hx hb hts iX1_init_X1 tyX1 tyX1_ok nmX1 hown hK.1 hP hD hS 0 rfl rfl 14 (by decide) (kX1_init_15 hts) (fun _ h9 => h9) rfl hin rfl (by decide +kernel) rfl rfl (Nat.le_of_ble_eq_true rfl) dX1_init_89 (fun H locs hP hD hS => ?_)
  have hP : va_P (dC, dI) vwCl [(a0, .inr (1, [.int 0, .int 0, .ref q1, .ref q2, .ref q3, .ref q4, .ref q5, .int 0, .ref q6, .ref q7, .int 0, .ref q8, .ref q9, .ref q10, .ref q11, .int 0, .null])), (q1, .inl (kA 0, 12, .inl (fun _ => 0))), (q2, .inl (kA 0, 12, .inl (fun _ => 0))), (q3, .inl (kA 0, 12, .inl (fun _ => 0))), (q4, .inl (kA 0, 12, .inl (fun _ => 0))), (q5, .inl (kA 0, 12, .inl (fun _ => 0))), (q6, .inl (kA 0, 60, .inl (fun _ => 0))), (q7, .inl (kA 0, 60, .inl (fun _ => 0))), (q8, .inl (kA 0, 20, .inl (fun _ => 0))), (q9, .inl (kA 0, 20, .inl (fun _ => 0))), (q10, .inl (kA 0, 20, .inl (fun _ => 0))), (q11, .inl (kA 0, 20, .inl (fun _ => 0)))] H := hP
  have hD : va_D A [(a0, .inr (1, [.int 0, .int 0, .ref q1, .ref q2, .ref q3, .ref q4, .ref q5, .int 0, .ref q6, .ref q7, .int 0, .ref q8, .ref q9, .ref q10, .ref q11, .int 0, .null])), (q1, .inl (kA 0, 12, .inl (fun _ => 0))), (q2, .inl (kA 0, 12, .inl (fun _ => 0))), (q3, .inl (kA 0, 12, .inl (fun _ => 0))), (q4, .inl (kA 0, 12, .inl (fun _ => 0))), (q5, .inl (kA 0, 12, .inl (fun _ => 0))), (q6, .inl (kA 0, 60, .inl (fun _ => 0))), (q7, .inl (kA 0, 60, .inl (fun _ => 0))), (q8, .inl (kA 0, 20, .inl (fun _ => 0))), (q9, .inl (kA 0, 20, .inl (fun _ => 0))), (q10, .inl (kA 0, 20, .inl (fun _ => 0))), (q11, .inl (kA 0, 20, .inl (fun _ => 0)))] := hD
  refine lv_aload_n hx hb dX1_init_92 rfl (lv_at hl 0 rfl) ?_
  refine lv_sipush (v := 256) hx hb dX1_init_93 (by decide) ?_
  refine z_newi hx hb (kX1_init_4 hts) hK hP hD hS hA 256 (by decide) (by decide) (by decide) (Nat.le_of_ble_eq_true rfl) (Nat.le_of_ble_eq_true rfl) dX1_init_96 (fun q12 H hP hD hS => ?_)
  refine W.widen (k := 12) (n := 516) (Nat.le_of_ble_eq_true rfl) (Nat.le_of_ble_eq_true rfl) ?_
  have hP : va_P (dC, dI) vwCl [(a0, .inr (1, [.int 0, .int 0, .ref q1, .ref q2, .ref q3, .ref q4, .ref q5, .int 0, .ref q6, .ref q7, .int 0, .ref q8, .ref q9, .ref q10, .ref q11, .int 0, .null])), (q1, .inl (kA 0, 12, .inl (fun _ => 0))), (q2, .inl (kA 0, 12, .inl (fun _ => 0))), (q3, .inl (kA 0, 12, .inl (fun _ => 0))), (q4, .inl (kA 0, 12, .inl (fun _ => 0))), (q5, .inl (kA 0, 12, .inl (fun _ => 0))), (q6, .inl (kA 0, 60, .inl (fun _ => 0))), (q7, .inl (kA 0, 60, .inl (fun _ => 0))), (q8, .inl (kA 0, 20, .inl (fun _ => 0))), (q9, .inl (kA 0, 20, .inl (fun _ => 0))), (q10, .inl (kA 0, 20, .inl (fun _ => 0))), (q11, .inl (kA 0, 20, .inl (fun _ => 0))), (q12, .inl (kA 0, 256, .inl (fun _ => 0)))] H := hP
  have hD : va_D A [(a0, .inr (1, [.int 0, .int 0, .ref q1, .ref q2, .ref q3, .ref q4, .ref q5, .int 0, .ref q6, .ref q7, .int 0, .ref q8, .ref q9, .ref q10, .ref q11, .int 0, .null])), (q1, .inl (kA 0, 12, .inl (fun _ => 0))), (q2, .inl (kA 0, 12, .inl (fun _ => 0))), (q3, .inl (kA 0, 12, .inl (fun _ => 0))), (q4, .inl (kA 0, 12, .inl (fun _ => 0))), (q5, .inl (kA 0, 12, .inl (fun _ => 0))), (q6, .inl (kA 0, 60, .inl (fun _ => 0))), (q7, .inl (kA 0, 60, .inl (fun _ => 0))), (q8, .inl (kA 0, 20, .inl (fun _ => 0))), (q9, .inl (kA 0, 20, .inl (fun _ => 0))), (q10, .inl (kA 0, 20, .inl (fun _ => 0))), (q11, .inl (kA 0, 20, .inl (fun _ => 0))), (q12, .inl (kA 0, 256, .inl (fun _ => 0)))] := hD
  refine va_putF (D := (dC, dI)) (ci := 1) (v := .ref q12) (ty := .array (.int)) (C := RX1) (T := TX1) (N := 17) hx hb hts iX1_init_X1 tyX1 tyX1_ok nmX1 hown hK.1 hP hD hS 0 rfl rfl 16 (by decide) (kX1_init_16 hts) (fun _ h9 => h9) rfl hin rfl (by decide +kernel) rfl rfl (Nat.le_of_ble_eq_true rfl) dX1_init_98 (fun H locs hP hD hS => ?_)
  have hP : va_P (dC, dI) vwCl [(a0, .inr (1, [.int 0, .int 0, .ref q1, .ref q2, .ref q3, .ref q4, .ref q5, .int 0, .ref q6, .ref q7, .int 0, .ref q8, .ref q9, .ref q10, .ref q11, .int 0, .ref q12])), (q1, .inl (kA 0, 12, .inl (fun _ => 0))), (q2, .inl (kA 0, 12, .inl (fun _ => 0))), (q3, .inl (kA 0, 12, .inl (fun _ => 0))), (q4, .inl (kA 0, 12, .inl (fun _ => 0))), (q5, .inl (kA 0, 12, .inl (fun _ => 0))), (q6, .inl (kA 0, 60, .inl (fun _ => 0))), (q7, .inl (kA 0, 60, .inl (fun _ => 0))), (q8, .inl (kA 0, 20, .inl (fun _ => 0))), (q9, .inl (kA 0, 20, .inl (fun _ => 0))), (q10, .inl (kA 0, 20, .inl (fun _ => 0))), (q11, .inl (kA 0, 20, .inl (fun _ => 0))), (q12, .inl (kA 0, 256, .inl (fun _ => 0)))] H := hP
  have hD : va_D A [(a0, .inr (1, [.int 0, .int 0, .ref q1, .ref q2, .ref q3, .ref q4, .ref q5, .int 0, .ref q6, .ref q7, .int 0, .ref q8, .ref q9, .ref q10, .ref q11, .int 0, .ref q12])), (q1, .inl (kA 0, 12, .inl (fun _ => 0))), (q2, .inl (kA 0, 12, .inl (fun _ => 0))), (q3, .inl (kA 0, 12, .inl (fun _ => 0))), (q4, .inl (kA 0, 12, .inl (fun _ => 0))), (q5, .inl (kA 0, 12, .inl (fun _ => 0))), (q6, .inl (kA 0, 60, .inl (fun _ => 0))), (q7, .inl (kA 0, 60, .inl (fun _ => 0))), (q8, .inl (kA 0, 20, .inl (fun _ => 0))), (q9, .inl (kA 0, 20, .inl (fun _ => 0))), (q10, .inl (kA 0, 20, .inl (fun _ => 0))), (q11, .inl (kA 0, 20, .inl (fun _ => 0))), (q12, .inl (kA 0, 256, .inl (fun _ => 0)))] := hD
  have hP9 := hP.sub (ws' := [(a0, .inr (1, [.int 0, .int 0, .ref q1, .ref q2, .ref q3, .ref q4, .ref q5, .int 0, .ref q6, .ref q7, .int 0, .ref q8, .ref q9, .ref q10, .ref q11, .int 0, .ref q12]))]) [0] rfl
  have hD9 := hD.sub (ws' := [(a0, .inr (1, [.int 0, .int 0, .ref q1, .ref q2, .ref q3, .ref q4, .ref q5, .int 0, .ref q6, .ref q7, .int 0, .ref q8, .ref q9, .ref q10, .ref q11, .int 0, .ref q12]))]) [0] (by decide) rfl
  refine W.widen (k := 12) (n := 516) (Nat.le_of_ble_eq_true rfl) (Nat.le_of_ble_eq_true rfl) ?_
  exact W.vret hx hb hr (fun t ht hW => ⟨⟨(q1, q2, q3, q4, q5, q6, q7, q8, q9, q10, q11, q12), rfl, trivial, by rw [ht]; exact hP9, hD9⟩, hS.F ht⟩) hS.2.2 dX1_init_101
