set_option maxHeartbeats 4000000 in
set_option maxRecDepth 100000 in
theorem mX10_node (l : Launch) (dC : Nat → ClassId) (dI : Nat → Nat → Nat) (kA : Nat → ClassId) (sz : Nat) (x0 : Nat) (xw : Nat) (xl : Nat) (xi : Nat) (xt : Nat) (xq : Nat) (xr : Nat) (xh : Nat) (xp : Nat) (xs_ : Nat) (xa : Nat) (xm : Nat) (tnodes : Nat) (tnodesA : Nat) (tpasses : Nat) (tjars : Nat) (torders : Nat) (tfeasts : Nat) (tway : Nat) (p1 : Int32) (p2 : Int32) (p3 : Int32)  : Met l yX10_node wsX10_node ({ frames := 1, cells := 0, slots := 0, locals := 24 }) (zPc dC dI kA sz [.ref x0, .int p1, .int p2, .int p3] [(x0, .inr (10, [.ref xw, .ref xl, .ref xi, .ref xt, .int 0, .ref xq, .int 0, .ref xr, .ref xh, .ref xp, .ref xs_, .ref xa, .ref xm])), (xw, .inr (9, [.ref tnodes, .ref tpasses, .ref tjars, .ref torders, .ref tfeasts, .ref tway, .int (-1), .int 0, .int 0, .int 0])), (tnodes, .inr (6, [.int 4, .ref tnodesA, .int 0])), (tnodesA, .inl (kA 0, 48, .inl (fun _ => 0)))]) (va_Qi (fun (r : Int32) (u : Unit) => r = (sp_nd p1 p2 p3)) (zB dC dI (va_A [(x0, .inr (10, [.ref xw, .ref xl, .ref xi, .ref xt, .int 0, .ref xq, .int 0, .ref xr, .ref xh, .ref xp, .ref xs_, .ref xa, .ref xm])), (xw, .inr (9, [.ref tnodes, .ref tpasses, .ref tjars, .ref torders, .ref tfeasts, .ref tway, .int (-1), .int 0, .int 0, .int 0])), (tnodes, .inr (6, [.int 4, .ref tnodesA, .int 0])), (tnodesA, .inl (kA 0, 48, .inl (fun _ => 0)))] sz) (fun (u : Unit) => [])) (va_A [(x0, .inr (10, [.ref xw, .ref xl, .ref xi, .ref xt, .int 0, .ref xq, .int 0, .ref xr, .ref xh, .ref xp, .ref xs_, .ref xa, .ref xm])), (xw, .inr (9, [.ref tnodes, .ref tpasses, .ref tjars, .ref torders, .ref tfeasts, .ref tway, .int (-1), .int 0, .int 0, .int 0])), (tnodes, .inr (6, [.int 4, .ref tnodesA, .int 0])), (tnodesA, .inl (kA 0, 48, .inl (fun _ => 0)))] sz)) 0 0 (va_A [(x0, .inr (10, [.ref xw, .ref xl, .ref xi, .ref xt, .int 0, .ref xq, .int 0, .ref xr, .ref xh, .ref xp, .ref xs_, .ref xa, .ref xm])), (xw, .inr (9, [.ref tnodes, .ref tpasses, .ref tjars, .ref torders, .ref tfeasts, .ref tway, .int (-1), .int 0, .int 0, .int 0])), (tnodes, .inr (6, [.int 4, .ref tnodesA, .int 0])), (tnodesA, .inl (kA 0, 48, .inl (fun _ => 0)))] sz) := by
  refine Met.ofW (cc := cX10_node) (maxL := 6) (ret := (some .int)) (by decide) rfl ?_
  intro p e s m args below meth c s₁ B hml hv
  obtain ⟨rfl, hsz, hP, hK, hD0⟩ := hv
  have hx := B.exec
  have hb := B.bytes
  have hr := B.returns
  have hts := atoms_spec (ws := wsX10_node) B.pre
  have hown : s.vm.findClass RX10 = some m.cls := findClass_of_methodNamed B.named
  have hlocks := B.notSynchronized
  subst hsz
  have hD := hD0.self (sz := s.heap.size)
  generalize hAe : va_A [(x0, .inr (10, [.ref xw, .ref xl, .ref xi, .ref xt, .int 0, .ref xq, .int 0, .ref xr, .ref xh, .ref xp, .ref xs_, .ref xa, .ref xm])), (xw, .inr (9, [.ref tnodes, .ref tpasses, .ref tjars, .ref torders, .ref tfeasts, .ref tway, .int (-1), .int 0, .int 0, .int 0])), (tnodes, .inr (6, [.int 4, .ref tnodesA, .int 0])), (tnodesA, .inl (kA 0, 48, .inl (fun _ => 0)))] s.heap.size = A at hD ⊢
  have hA : ∀ q : Nat, s.heap.size ≤ q → A q := fun q h => by rw [← hAe]; exact Or.inr h
  have hS : va_S A s.heap s.heap [] := va_S.rf
  have hP : va_P (dC, dI) vwCl [(x0, .inr (10, [.ref xw, .ref xl, .ref xi, .ref xt, .int 0, .ref xq, .int 0, .ref xr, .ref xh, .ref xp, .ref xs_, .ref xa, .ref xm])), (xw, .inr (9, [.ref tnodes, .ref tpasses, .ref tjars, .ref torders, .ref tfeasts, .ref tway, .int (-1), .int 0, .int 0, .int 0])), (tnodes, .inr (6, [.int 4, .ref tnodesA, .int 0])), (tnodesA, .inl (kA 0, 48, .inl (fun _ => 0)))] s.heap := hP
  have hl := lv_entry ([.ref x0, .int p1, .int p2, .int p3]) (n := 6) (Nat.le_of_ble_eq_true rfl)
  rw [lg_entry_eq]
  generalize (lg_sl ([.ref x0, .int p1, .int p2, .int p3]) ++ List.replicate (6 - (lg_sl ([.ref x0, .int p1, .int p2, .int p3])).length) Slot.unset).toArray = ls at hl ⊢
  have hl : lv_has ls 6 [(0, .ref x0), (1, .int p1), (2, .int p2), (3, .int p3)] := hl
  refine lv_iload_n hx hb dX10_node_0 rfl (lv_at hl 1 rfl) ?_
  refine lv_sipush (v := 400) hx hb dX10_node_1 (by decide) ?_
  refine z_i (wr := [(x0, .inr (10, [.ref xw, .ref xl, .ref xi, .ref xt, .int 0, .ref xq, .int 0, .ref xr, .ref xh, .ref xp, .ref xs_, .ref xa, .ref xm])), (xw, .inr (9, [.ref tnodes, .ref tpasses, .ref tjars, .ref torders, .ref tfeasts, .ref tway, .int (-1), .int 0, .int 0, .int 0])), (tnodes, .inr (6, [.int 4, .ref tnodesA, .int 0])), (tnodesA, .inl (kA 0, 48, .inl (fun _ => 0)))]) (va_runS (As := [.int p1, .int 400]) (rest := []) ⟨hx, hb, hml, hown, hts⟩ (mX10_within l dC dI kA _ p1 400) (va_cwS 2 hts gX10_node_X10_within rfl rfl rfl (by decide +kernel) ⟨(Nat.le_of_ble_eq_true rfl), (Nat.le_of_ble_eq_true rfl)⟩) ⟨zPc.blind, zPre hK (hP.sub [] rfl) (hD.sub [] (by decide) rfl)⟩ rfl rfl hl.1 rfl (lv_room (Nat.le_of_ble_eq_true rfl)) dX10_node_4 ⟨(Nat.le_of_ble_eq_true rfl), (Nat.le_of_ble_eq_true rfl)⟩) hP hD hS hA [] [0, 1, 2, 3] rfl rfl (by decide) (by decide) (fun r3 u1 H locs hw2 hP hD hS => ?_)
  obtain rfl := hw2
  have hP : va_P (dC, dI) vwCl [(x0, .inr (10, [.ref xw, .ref xl, .ref xi, .ref xt, .int 0, .ref xq, .int 0, .ref xr, .ref xh, .ref xp, .ref xs_, .ref xa, .ref xm])), (xw, .inr (9, [.ref tnodes, .ref tpasses, .ref tjars, .ref torders, .ref tfeasts, .ref tway, .int (-1), .int 0, .int 0, .int 0])), (tnodes, .inr (6, [.int 4, .ref tnodesA, .int 0])), (tnodesA, .inl (kA 0, 48, .inl (fun _ => 0)))] H := hP
  have hD : va_D A [(x0, .inr (10, [.ref xw, .ref xl, .ref xi, .ref xt, .int 0, .ref xq, .int 0, .ref xr, .ref xh, .ref xp, .ref xs_, .ref xa, .ref xm])), (xw, .inr (9, [.ref tnodes, .ref tpasses, .ref tjars, .ref torders, .ref tfeasts, .ref tway, .int (-1), .int 0, .int 0, .int 0])), (tnodes, .inr (6, [.int 4, .ref tnodesA, .int 0])), (tnodesA, .inl (kA 0, 48, .inl (fun _ => 0)))] := hD
  refine lv_if_eq (tgt := 33) hx hb dX10_node_7 (by decide) (fun c_4 => ?_) (fun c_4 => ?_)
  · refine lv_iconst (v := 0) hx hb dX10_node_33 (by decide) ?_
    refine lv_istore (lv' := [(4, .int 0), (0, .ref x0), (1, .int p1), (2, .int p2), (3, .int p3)]) hx hb dX10_node_34 hl (by decide) rfl (fun ls hl => ?_)
    refine lv_iload hx hb dX10_node_36 (lv_at hl 0 rfl) ?_
    refine lv_if_eq (tgt := 54) hx hb dX10_node_38 (by decide) (fun _ => ?_) (fun c_5 => absurd (by decide) c_5)
    refine lv_iconst (v := (-1)) hx hb dX10_node_54 (by decide) ?_
    refine lv_istore (lv' := [(5, .int (-1)), (4, .int 0), (0, .ref x0), (1, .int p1), (2, .int p2), (3, .int p3)]) hx hb dX10_node_55 hl (by decide) rfl (fun ls hl => ?_)
    refine lv_iload hx hb dX10_node_57 (lv_at hl 0 rfl) ?_
    refine lv_iconst (v := (-1)) hx hb dX10_node_59 (by decide) ?_
    refine lv_icmp_eq (tgt := 119) hx hb dX10_node_60 (by decide) (fun _ => ?_) (fun c_6 => absurd (by decide) c_6)
    refine lv_iload hx hb dX10_node_119 (lv_at hl 0 rfl) ?_
    have hP9 := hP.sub (ws' := []) [] rfl
    have hD9 := hD.sub (ws' := []) [] (by decide) rfl
    refine W.widen (k := 0) (n := 0) (Nat.le_of_ble_eq_true rfl) (Nat.le_of_ble_eq_true rfl) ?_
    exact W.iret (v := (-1)) hx hb hr (fun t ht hW => ⟨⟨(-1), (), rfl, (by simp [sp_nd, c_4]), by rw [ht]; exact hP9, hD9⟩, hS.F ht⟩) hS.2.2 dX10_node_121
  · refine lv_iload_n hx hb dX10_node_10 rfl (lv_at hl 2 rfl) ?_
    refine lv_sipush (v := 4095) hx hb dX10_node_11 (by decide) ?_
    refine z_i (wr := [(x0, .inr (10, [.ref xw, .ref xl, .ref xi, .ref xt, .int 0, .ref xq, .int 0, .ref xr, .ref xh, .ref xp, .ref xs_, .ref xa, .ref xm])), (xw, .inr (9, [.ref tnodes, .ref tpasses, .ref tjars, .ref torders, .ref tfeasts, .ref tway, .int (-1), .int 0, .int 0, .int 0])), (tnodes, .inr (6, [.int 4, .ref tnodesA, .int 0])), (tnodesA, .inl (kA 0, 48, .inl (fun _ => 0)))]) (va_runS (As := [.int p2, .int 4095]) (rest := []) ⟨hx, hb, hml, hown, hts⟩ (mX10_within l dC dI kA _ p2 4095) (va_cwS 2 hts gX10_node_X10_within rfl rfl rfl (by decide +kernel) ⟨(Nat.le_of_ble_eq_true rfl), (Nat.le_of_ble_eq_true rfl)⟩) ⟨zPc.blind, zPre hK (hP.sub [] rfl) (hD.sub [] (by decide) rfl)⟩ rfl rfl hl.1 rfl (lv_room (Nat.le_of_ble_eq_true rfl)) dX10_node_14 ⟨(Nat.le_of_ble_eq_true rfl), (Nat.le_of_ble_eq_true rfl)⟩) hP hD hS hA [] [0, 1, 2, 3] rfl rfl (by decide) (by decide) (fun r9 u7 H locs hw8 hP hD hS => ?_)
    obtain rfl := hw8
    have hP : va_P (dC, dI) vwCl [(x0, .inr (10, [.ref xw, .ref xl, .ref xi, .ref xt, .int 0, .ref xq, .int 0, .ref xr, .ref xh, .ref xp, .ref xs_, .ref xa, .ref xm])), (xw, .inr (9, [.ref tnodes, .ref tpasses, .ref tjars, .ref torders, .ref tfeasts, .ref tway, .int (-1), .int 0, .int 0, .int 0])), (tnodes, .inr (6, [.int 4, .ref tnodesA, .int 0])), (tnodesA, .inl (kA 0, 48, .inl (fun _ => 0)))] H := hP
    have hD : va_D A [(x0, .inr (10, [.ref xw, .ref xl, .ref xi, .ref xt, .int 0, .ref xq, .int 0, .ref xr, .ref xh, .ref xp, .ref xs_, .ref xa, .ref xm])), (xw, .inr (9, [.ref tnodes, .ref tpasses, .ref tjars, .ref torders, .ref tfeasts, .ref tway, .int (-1), .int 0, .int 0, .int 0])), (tnodes, .inr (6, [.int 4, .ref tnodesA, .int 0])), (tnodesA, .inl (kA 0, 48, .inl (fun _ => 0)))] := hD
    refine lv_if_eq (tgt := 33) hx hb dX10_node_17 (by decide) (fun c_10 => ?_) (fun c_10 => ?_)
    · refine lv_iconst (v := 0) hx hb dX10_node_33 (by decide) ?_
      refine lv_istore (lv' := [(4, .int 0), (0, .ref x0), (1, .int p1), (2, .int p2), (3, .int p3)]) hx hb dX10_node_34 hl (by decide) rfl (fun ls hl => ?_)
      refine lv_iload hx hb dX10_node_36 (lv_at hl 0 rfl) ?_
      refine lv_if_eq (tgt := 54) hx hb dX10_node_38 (by decide) (fun _ => ?_) (fun c_11 => absurd (by decide) c_11)
      refine lv_iconst (v := (-1)) hx hb dX10_node_54 (by decide) ?_
      refine lv_istore (lv' := [(5, .int (-1)), (4, .int 0), (0, .ref x0), (1, .int p1), (2, .int p2), (3, .int p3)]) hx hb dX10_node_55 hl (by decide) rfl (fun ls hl => ?_)
      refine lv_iload hx hb dX10_node_57 (lv_at hl 0 rfl) ?_
      refine lv_iconst (v := (-1)) hx hb dX10_node_59 (by decide) ?_
      refine lv_icmp_eq (tgt := 119) hx hb dX10_node_60 (by decide) (fun _ => ?_) (fun c_12 => absurd (by decide) c_12)
      refine lv_iload hx hb dX10_node_119 (lv_at hl 0 rfl) ?_
      have hP9 := hP.sub (ws' := []) [] rfl
      have hD9 := hD.sub (ws' := []) [] (by decide) rfl
      refine W.widen (k := 0) (n := 0) (Nat.le_of_ble_eq_true rfl) (Nat.le_of_ble_eq_true rfl) ?_
      exact W.iret (v := (-1)) hx hb hr (fun t ht hW => ⟨⟨(-1), (), rfl, (by simp [sp_nd, c_4, c_10]), by rw [ht]; exact hP9, hD9⟩, hS.F ht⟩) hS.2.2 dX10_node_121
    · refine lv_iload_n hx hb dX10_node_20 rfl (lv_at hl 3 rfl) ?_
      refine lv_bipush (v := 9) hx hb dX10_node_21 (by decide) ?_
      refine z_i (wr := [(x0, .inr (10, [.ref xw, .ref xl, .ref xi, .ref xt, .int 0, .ref xq, .int 0, .ref xr, .ref xh, .ref xp, .ref xs_, .ref xa, .ref xm])), (xw, .inr (9, [.ref tnodes, .ref tpasses, .ref tjars, .ref torders, .ref tfeasts, .ref tway, .int (-1), .int 0, .int 0, .int 0])), (tnodes, .inr (6, [.int 4, .ref tnodesA, .int 0])), (tnodesA, .inl (kA 0, 48, .inl (fun _ => 0)))]) (va_runS (As := [.int p3, .int 9]) (rest := []) ⟨hx, hb, hml, hown, hts⟩ (mX10_within l dC dI kA _ p3 9) (va_cwS 2 hts gX10_node_X10_within rfl rfl rfl (by decide +kernel) ⟨(Nat.le_of_ble_eq_true rfl), (Nat.le_of_ble_eq_true rfl)⟩) ⟨zPc.blind, zPre hK (hP.sub [] rfl) (hD.sub [] (by decide) rfl)⟩ rfl rfl hl.1 rfl (lv_room (Nat.le_of_ble_eq_true rfl)) dX10_node_23 ⟨(Nat.le_of_ble_eq_true rfl), (Nat.le_of_ble_eq_true rfl)⟩) hP hD hS hA [] [0, 1, 2, 3] rfl rfl (by decide) (by decide) (fun r15 u13 H locs hw14 hP hD hS => ?_)
      obtain rfl := hw14
      have hP : va_P (dC, dI) vwCl [(x0, .inr (10, [.ref xw, .ref xl, .ref xi, .ref xt, .int 0, .ref xq, .int 0, .ref xr, .ref xh, .ref xp, .ref xs_, .ref xa, .ref xm])), (xw, .inr (9, [.ref tnodes, .ref tpasses, .ref tjars, .ref torders, .ref tfeasts, .ref tway, .int (-1), .int 0, .int 0, .int 0])), (tnodes, .inr (6, [.int 4, .ref tnodesA, .int 0])), (tnodesA, .inl (kA 0, 48, .inl (fun _ => 0)))] H := hP
      have hD : va_D A [(x0, .inr (10, [.ref xw, .ref xl, .ref xi, .ref xt, .int 0, .ref xq, .int 0, .ref xr, .ref xh, .ref xp, .ref xs_, .ref xa, .ref xm])), (xw, .inr (9, [.ref tnodes, .ref tpasses, .ref tjars, .ref torders, .ref tfeasts, .ref tway, .int (-1), .int 0, .int 0, .int 0])), (tnodes, .inr (6, [.int 4, .ref tnodesA, .int 0])), (tnodesA, .inl (kA 0, 48, .inl (fun _ => 0)))] := hD
      refine lv_if_eq (tgt := 33) hx hb dX10_node_26 (by decide) (fun c_16 => ?_) (fun c_16 => ?_)
      · refine lv_iconst (v := 0) hx hb dX10_node_33 (by decide) ?_
        refine lv_istore (lv' := [(4, .int 0), (0, .ref x0), (1, .int p1), (2, .int p2), (3, .int p3)]) hx hb dX10_node_34 hl (by decide) rfl (fun ls hl => ?_)
        refine lv_iload hx hb dX10_node_36 (lv_at hl 0 rfl) ?_
        refine lv_if_eq (tgt := 54) hx hb dX10_node_38 (by decide) (fun _ => ?_) (fun c_17 => absurd (by decide) c_17)
        refine lv_iconst (v := (-1)) hx hb dX10_node_54 (by decide) ?_
        refine lv_istore (lv' := [(5, .int (-1)), (4, .int 0), (0, .ref x0), (1, .int p1), (2, .int p2), (3, .int p3)]) hx hb dX10_node_55 hl (by decide) rfl (fun ls hl => ?_)
        refine lv_iload hx hb dX10_node_57 (lv_at hl 0 rfl) ?_
        refine lv_iconst (v := (-1)) hx hb dX10_node_59 (by decide) ?_
        refine lv_icmp_eq (tgt := 119) hx hb dX10_node_60 (by decide) (fun _ => ?_) (fun c_18 => absurd (by decide) c_18)
        refine lv_iload hx hb dX10_node_119 (lv_at hl 0 rfl) ?_
        have hP9 := hP.sub (ws' := []) [] rfl
        have hD9 := hD.sub (ws' := []) [] (by decide) rfl
        refine W.widen (k := 0) (n := 0) (Nat.le_of_ble_eq_true rfl) (Nat.le_of_ble_eq_true rfl) ?_
        exact W.iret (v := (-1)) hx hb hr (fun t ht hW => ⟨⟨(-1), (), rfl, (by simp [sp_nd, c_4, c_10, c_16]), by rw [ht]; exact hP9, hD9⟩, hS.F ht⟩) hS.2.2 dX10_node_121
      · refine lv_iconst (v := 1) hx hb dX10_node_29 (by decide) ?_
        refine lv_goto (tgt := 34) hx hb dX10_node_30 (by decide) ?_
        refine lv_istore (lv' := [(4, .int 1), (0, .ref x0), (1, .int p1), (2, .int p2), (3, .int p3)]) hx hb dX10_node_34 hl (by decide) rfl (fun ls hl => ?_)
        refine lv_iload hx hb dX10_node_36 (lv_at hl 0 rfl) ?_
        refine lv_if_eq (tgt := 54) hx hb dX10_node_38 (by decide) (fun c_19 => absurd c_19 (by decide)) (fun _ => ?_)
        refine lv_aload_n hx hb dX10_node_41 rfl (lv_at hl 1 rfl) ?_
        refine va_get (D := (dC, dI)) (ci := 10) (v := .ref xw) (C := RX10) (T := TX10) (N := 13) hx hb hts iX10_node_X10 hown hK.1 hP 0 rfl rfl 0 (by decide) (kX10_node_1 hts) (fun _ h9 => h9) rfl dX10_node_42 ?_
        refine va_get (D := (dC, dI)) (ci := 9) (v := .ref tnodes) (C := RX9) (T := TX9) (N := 10) hx hb hts iX10_node_X9 hown hK.1 hP 1 rfl rfl 0 (by decide) (kX10_node_2 hts) (fun _ h9 => h9) rfl dX10_node_45 ?_
        refine z_i (wr := [(x0, .inr (10, [.ref xw, .ref xl, .ref xi, .ref xt, .int 0, .ref xq, .int 0, .ref xr, .ref xh, .ref xp, .ref xs_, .ref xa, .ref xm])), (xw, .inr (9, [.ref tnodes, .ref tpasses, .ref tjars, .ref torders, .ref tfeasts, .ref tway, .int (-1), .int 0, .int 0, .int 0]))]) (va_runV (As := []) (rest := []) ⟨hx, hb, hml, hown, hts⟩ (mX6_grow l dC dI kA _ tnodes tnodesA (fun _ => 0)) (cwV 0 hts gX10_node_X6_grow rfl rfl rfl (by decide +kernel) ⟨(Nat.le_of_ble_eq_true rfl), (Nat.le_of_ble_eq_true rfl)⟩) ⟨zPc.blind, va_recv hK.1 hP (ci := 6) (q0 := 2) rfl rfl, zPre hK (hP.sub [2, 3] rfl) (hD.sub [2, 3] (by decide) rfl)⟩ rfl rfl hl.1 rfl (lv_room (Nat.le_of_ble_eq_true rfl)) dX10_node_48 ⟨(Nat.le_of_ble_eq_true rfl), (Nat.le_of_ble_eq_true rfl)⟩) hP hD hS hA [2, 3] [0, 1] rfl rfl (by decide) (by decide) (fun r22 u20 H locs hw21 hP hD hS => ?_)
        obtain rfl := hw21
        have hP : va_P (dC, dI) vwCl [(x0, .inr (10, [.ref xw, .ref xl, .ref xi, .ref xt, .int 0, .ref xq, .int 0, .ref xr, .ref xh, .ref xp, .ref xs_, .ref xa, .ref xm])), (xw, .inr (9, [.ref tnodes, .ref tpasses, .ref tjars, .ref torders, .ref tfeasts, .ref tway, .int (-1), .int 0, .int 0, .int 0])), (tnodes, .inr (6, [.int 4, .ref tnodesA, .int 1])), (tnodesA, .inl (kA 0, 48, .inl (fun _ => 0)))] H := hP
        have hD : va_D A [(x0, .inr (10, [.ref xw, .ref xl, .ref xi, .ref xt, .int 0, .ref xq, .int 0, .ref xr, .ref xh, .ref xp, .ref xs_, .ref xa, .ref xm])), (xw, .inr (9, [.ref tnodes, .ref tpasses, .ref tjars, .ref torders, .ref tfeasts, .ref tway, .int (-1), .int 0, .int 0, .int 0])), (tnodes, .inr (6, [.int 4, .ref tnodesA, .int 1])), (tnodesA, .inl (kA 0, 48, .inl (fun _ => 0)))] := hD
        refine lv_goto (tgt := 55) hx hb dX10_node_51 (by decide) ?_
        refine lv_istore (lv' := [(5, .int 0), (4, .int 1), (0, .ref x0), (1, .int p1), (2, .int p2), (3, .int p3)]) hx hb dX10_node_55 hl (by decide) rfl (fun ls hl => ?_)
        refine lv_iload hx hb dX10_node_57 (lv_at hl 0 rfl) ?_
        refine lv_iconst (v := (-1)) hx hb dX10_node_59 (by decide) ?_
        refine lv_icmp_eq (tgt := 119) hx hb dX10_node_60 (by decide) (fun c_23 => absurd c_23 (by decide)) (fun _ => ?_)
        refine lv_aload_n hx hb dX10_node_63 rfl (lv_at hl 2 rfl) ?_
        refine va_get (D := (dC, dI)) (ci := 10) (v := .ref xw) (C := RX10) (T := TX10) (N := 13) hx hb hts iX10_node_X10 hown hK.1 hP 0 rfl rfl 0 (by decide) (kX10_node_1 hts) (fun _ h9 => h9) rfl dX10_node_64 ?_
        refine va_get (D := (dC, dI)) (ci := 9) (v := .ref tnodes) (C := RX9) (T := TX9) (N := 10) hx hb hts iX10_node_X9 hown hK.1 hP 1 rfl rfl 0 (by decide) (kX10_node_2 hts) (fun _ h9 => h9) rfl dX10_node_67 ?_
        refine lv_iload hx hb dX10_node_70 (lv_at hl 0 rfl) ?_
        refine lv_iconst (v := 0) hx hb dX10_node_72 (by decide) ?_
        refine lv_iload_n hx hb dX10_node_73 rfl (lv_at hl 3 rfl) ?_
        refine z_v (wr := [(x0, .inr (10, [.ref xw, .ref xl, .ref xi, .ref xt, .int 0, .ref xq, .int 0, .ref xr, .ref xh, .ref xp, .ref xs_, .ref xa, .ref xm])), (xw, .inr (9, [.ref tnodes, .ref tpasses, .ref tjars, .ref torders, .ref tfeasts, .ref tway, .int (-1), .int 0, .int 0, .int 0]))]) (va_runV (As := [.int 0, .int 0, .int p1]) (rest := []) ⟨hx, hb, hml, hown, hts⟩ (mX6_put_0 l dC dI kA _ tnodes tnodesA (fun _ => 0) p1) (cwV 3 hts gX10_node_X6_put rfl rfl rfl (by decide +kernel) ⟨(Nat.le_of_ble_eq_true rfl), (Nat.le_of_ble_eq_true rfl)⟩) ⟨zPc.blind, va_recv hK.1 hP (ci := 6) (q0 := 2) rfl rfl, zPre hK (hP.sub [2, 3] rfl) (hD.sub [2, 3] (by decide) rfl)⟩ rfl rfl hl.1 rfl (lv_room (Nat.le_of_ble_eq_true rfl)) dX10_node_74 ⟨(Nat.le_of_ble_eq_true rfl), (Nat.le_of_ble_eq_true rfl)⟩) hP hD hS hA [2, 3] [0, 1] rfl rfl (by decide) (by decide) (fun u24 H locs hw25 hP hD hS => ?_)
        obtain ⟨g_27, rfl⟩ : ∃ z, z = u24 := ⟨_, rfl⟩
        have hP : va_P (dC, dI) vwCl [(x0, .inr (10, [.ref xw, .ref xl, .ref xi, .ref xt, .int 0, .ref xq, .int 0, .ref xr, .ref xh, .ref xp, .ref xs_, .ref xa, .ref xm])), (xw, .inr (9, [.ref tnodes, .ref tpasses, .ref tjars, .ref torders, .ref tfeasts, .ref tway, .int (-1), .int 0, .int 0, .int 0])), (tnodes, .inr (6, [.int 4, .ref tnodesA, .int 1])), (tnodesA, .inl (kA 0, 48, .inl g_27))] H := hP
        have hD : va_D A [(x0, .inr (10, [.ref xw, .ref xl, .ref xi, .ref xt, .int 0, .ref xq, .int 0, .ref xr, .ref xh, .ref xp, .ref xs_, .ref xa, .ref xm])), (xw, .inr (9, [.ref tnodes, .ref tpasses, .ref tjars, .ref torders, .ref tfeasts, .ref tway, .int (-1), .int 0, .int 0, .int 0])), (tnodes, .inr (6, [.int 4, .ref tnodesA, .int 1])), (tnodesA, .inl (kA 0, 48, .inl g_27))] := hD
        refine lv_aload_n hx hb dX10_node_77 rfl (lv_at hl 2 rfl) ?_
        refine va_get (D := (dC, dI)) (ci := 10) (v := .ref xw) (C := RX10) (T := TX10) (N := 13) hx hb hts iX10_node_X10 hown hK.1 hP 0 rfl rfl 0 (by decide) (kX10_node_1 hts) (fun _ h9 => h9) rfl dX10_node_78 ?_
        refine va_get (D := (dC, dI)) (ci := 9) (v := .ref tnodes) (C := RX9) (T := TX9) (N := 10) hx hb hts iX10_node_X9 hown hK.1 hP 1 rfl rfl 0 (by decide) (kX10_node_2 hts) (fun _ h9 => h9) rfl dX10_node_81 ?_
        refine lv_iload hx hb dX10_node_84 (lv_at hl 0 rfl) ?_
        refine lv_iconst (v := 1) hx hb dX10_node_86 (by decide) ?_
        refine lv_iload_n hx hb dX10_node_87 rfl (lv_at hl 4 rfl) ?_
        refine z_v (wr := [(x0, .inr (10, [.ref xw, .ref xl, .ref xi, .ref xt, .int 0, .ref xq, .int 0, .ref xr, .ref xh, .ref xp, .ref xs_, .ref xa, .ref xm])), (xw, .inr (9, [.ref tnodes, .ref tpasses, .ref tjars, .ref torders, .ref tfeasts, .ref tway, .int (-1), .int 0, .int 0, .int 0]))]) (va_runV (As := [.int 0, .int 1, .int p2]) (rest := []) ⟨hx, hb, hml, hown, hts⟩ (mX6_put_1 l dC dI kA _ tnodes tnodesA g_27 p2) (cwV 3 hts gX10_node_X6_put rfl rfl rfl (by decide +kernel) ⟨(Nat.le_of_ble_eq_true rfl), (Nat.le_of_ble_eq_true rfl)⟩) ⟨zPc.blind, va_recv hK.1 hP (ci := 6) (q0 := 2) rfl rfl, zPre hK (hP.sub [2, 3] rfl) (hD.sub [2, 3] (by decide) rfl)⟩ rfl rfl hl.1 rfl (lv_room (Nat.le_of_ble_eq_true rfl)) dX10_node_88 ⟨(Nat.le_of_ble_eq_true rfl), (Nat.le_of_ble_eq_true rfl)⟩) hP hD hS hA [2, 3] [0, 1] rfl rfl (by decide) (by decide) (fun u28 H locs hw29 hP hD hS => ?_)
        obtain ⟨g_31, rfl⟩ : ∃ z, z = u28 := ⟨_, rfl⟩
        have hP : va_P (dC, dI) vwCl [(x0, .inr (10, [.ref xw, .ref xl, .ref xi, .ref xt, .int 0, .ref xq, .int 0, .ref xr, .ref xh, .ref xp, .ref xs_, .ref xa, .ref xm])), (xw, .inr (9, [.ref tnodes, .ref tpasses, .ref tjars, .ref torders, .ref tfeasts, .ref tway, .int (-1), .int 0, .int 0, .int 0])), (tnodes, .inr (6, [.int 4, .ref tnodesA, .int 1])), (tnodesA, .inl (kA 0, 48, .inl g_31))] H := hP
        have hD : va_D A [(x0, .inr (10, [.ref xw, .ref xl, .ref xi, .ref xt, .int 0, .ref xq, .int 0, .ref xr, .ref xh, .ref xp, .ref xs_, .ref xa, .ref xm])), (xw, .inr (9, [.ref tnodes, .ref tpasses, .ref tjars, .ref torders, .ref tfeasts, .ref tway, .int (-1), .int 0, .int 0, .int 0])), (tnodes, .inr (6, [.int 4, .ref tnodesA, .int 1])), (tnodesA, .inl (kA 0, 48, .inl g_31))] := hD
        refine lv_aload_n hx hb dX10_node_91 rfl (lv_at hl 2 rfl) ?_
        refine va_get (D := (dC, dI)) (ci := 10) (v := .ref xw) (C := RX10) (T := TX10) (N := 13) hx hb hts iX10_node_X10 hown hK.1 hP 0 rfl rfl 0 (by decide) (kX10_node_1 hts) (fun _ h9 => h9) rfl dX10_node_92 ?_
        refine va_get (D := (dC, dI)) (ci := 9) (v := .ref tnodes) (C := RX9) (T := TX9) (N := 10) hx hb hts iX10_node_X9 hown hK.1 hP 1 rfl rfl 0 (by decide) (kX10_node_2 hts) (fun _ h9 => h9) rfl dX10_node_95 ?_
        refine lv_iload hx hb dX10_node_98 (lv_at hl 0 rfl) ?_
        refine lv_iconst (v := 2) hx hb dX10_node_100 (by decide) ?_
        refine lv_iload_n hx hb dX10_node_101 rfl (lv_at hl 5 rfl) ?_
        refine z_v (wr := [(x0, .inr (10, [.ref xw, .ref xl, .ref xi, .ref xt, .int 0, .ref xq, .int 0, .ref xr, .ref xh, .ref xp, .ref xs_, .ref xa, .ref xm])), (xw, .inr (9, [.ref tnodes, .ref tpasses, .ref tjars, .ref torders, .ref tfeasts, .ref tway, .int (-1), .int 0, .int 0, .int 0]))]) (va_runV (As := [.int 0, .int 2, .int p3]) (rest := []) ⟨hx, hb, hml, hown, hts⟩ (mX6_put_2 l dC dI kA _ tnodes tnodesA g_31 p3) (cwV 3 hts gX10_node_X6_put rfl rfl rfl (by decide +kernel) ⟨(Nat.le_of_ble_eq_true rfl), (Nat.le_of_ble_eq_true rfl)⟩) ⟨zPc.blind, va_recv hK.1 hP (ci := 6) (q0 := 2) rfl rfl, zPre hK (hP.sub [2, 3] rfl) (hD.sub [2, 3] (by decide) rfl)⟩ rfl rfl hl.1 rfl (lv_room (Nat.le_of_ble_eq_true rfl)) dX10_node_102 ⟨(Nat.le_of_ble_eq_true rfl), (Nat.le_of_ble_eq_true rfl)⟩) hP hD hS hA [2, 3] [0, 1] rfl rfl (by decide) (by decide) (fun u32 H locs hw33 hP hD hS => ?_)
        obtain ⟨g_35, rfl⟩ : ∃ z, z = u32 := ⟨_, rfl⟩
        have hP : va_P (dC, dI) vwCl [(x0, .inr (10, [.ref xw, .ref xl, .ref xi, .ref xt, .int 0, .ref xq, .int 0, .ref xr, .ref xh, .ref xp, .ref xs_, .ref xa, .ref xm])), (xw, .inr (9, [.ref tnodes, .ref tpasses, .ref tjars, .ref torders, .ref tfeasts, .ref tway, .int (-1), .int 0, .int 0, .int 0])), (tnodes, .inr (6, [.int 4, .ref tnodesA, .int 1])), (tnodesA, .inl (kA 0, 48, .inl g_35))] H := hP
        have hD : va_D A [(x0, .inr (10, [.ref xw, .ref xl, .ref xi, .ref xt, .int 0, .ref xq, .int 0, .ref xr, .ref xh, .ref xp, .ref xs_, .ref xa, .ref xm])), (xw, .inr (9, [.ref tnodes, .ref tpasses, .ref tjars, .ref torders, .ref tfeasts, .ref tway, .int (-1), .int 0, .int 0, .int 0])), (tnodes, .inr (6, [.int 4, .ref tnodesA, .int 1])), (tnodesA, .inl (kA 0, 48, .inl g_35))] := hD
        refine lv_aload_n hx hb dX10_node_105 rfl (lv_at hl 2 rfl) ?_
        refine va_get (D := (dC, dI)) (ci := 10) (v := .ref xw) (C := RX10) (T := TX10) (N := 13) hx hb hts iX10_node_X10 hown hK.1 hP 0 rfl rfl 0 (by decide) (kX10_node_1 hts) (fun _ h9 => h9) rfl dX10_node_106 ?_
        refine va_get (D := (dC, dI)) (ci := 9) (v := .ref tnodes) (C := RX9) (T := TX9) (N := 10) hx hb hts iX10_node_X9 hown hK.1 hP 1 rfl rfl 0 (by decide) (kX10_node_2 hts) (fun _ h9 => h9) rfl dX10_node_109 ?_
        refine lv_iload hx hb dX10_node_112 (lv_at hl 0 rfl) ?_
        refine lv_iconst (v := 3) hx hb dX10_node_114 (by decide) ?_
        refine lv_iconst (v := 0) hx hb dX10_node_115 (by decide) ?_
        refine z_v (wr := [(x0, .inr (10, [.ref xw, .ref xl, .ref xi, .ref xt, .int 0, .ref xq, .int 0, .ref xr, .ref xh, .ref xp, .ref xs_, .ref xa, .ref xm])), (xw, .inr (9, [.ref tnodes, .ref tpasses, .ref tjars, .ref torders, .ref tfeasts, .ref tway, .int (-1), .int 0, .int 0, .int 0]))]) (va_runV (As := [.int 0, .int 3, .int 0]) (rest := []) ⟨hx, hb, hml, hown, hts⟩ (mX6_put_3 l dC dI kA _ tnodes tnodesA g_35 0) (cwV 3 hts gX10_node_X6_put rfl rfl rfl (by decide +kernel) ⟨(Nat.le_of_ble_eq_true rfl), (Nat.le_of_ble_eq_true rfl)⟩) ⟨zPc.blind, va_recv hK.1 hP (ci := 6) (q0 := 2) rfl rfl, zPre hK (hP.sub [2, 3] rfl) (hD.sub [2, 3] (by decide) rfl)⟩ rfl rfl hl.1 rfl (lv_room (Nat.le_of_ble_eq_true rfl)) dX10_node_116 ⟨(Nat.le_of_ble_eq_true rfl), (Nat.le_of_ble_eq_true rfl)⟩) hP hD hS hA [2, 3] [0, 1] rfl rfl (by decide) (by decide) (fun u36 H locs hw37 hP hD hS => ?_)
        obtain ⟨g_39, rfl⟩ : ∃ z, z = u36 := ⟨_, rfl⟩
        have hP : va_P (dC, dI) vwCl [(x0, .inr (10, [.ref xw, .ref xl, .ref xi, .ref xt, .int 0, .ref xq, .int 0, .ref xr, .ref xh, .ref xp, .ref xs_, .ref xa, .ref xm])), (xw, .inr (9, [.ref tnodes, .ref tpasses, .ref tjars, .ref torders, .ref tfeasts, .ref tway, .int (-1), .int 0, .int 0, .int 0])), (tnodes, .inr (6, [.int 4, .ref tnodesA, .int 1])), (tnodesA, .inl (kA 0, 48, .inl g_39))] H := hP
        have hD : va_D A [(x0, .inr (10, [.ref xw, .ref xl, .ref xi, .ref xt, .int 0, .ref xq, .int 0, .ref xr, .ref xh, .ref xp, .ref xs_, .ref xa, .ref xm])), (xw, .inr (9, [.ref tnodes, .ref tpasses, .ref tjars, .ref torders, .ref tfeasts, .ref tway, .int (-1), .int 0, .int 0, .int 0])), (tnodes, .inr (6, [.int 4, .ref tnodesA, .int 1])), (tnodesA, .inl (kA 0, 48, .inl g_39))] := hD
        refine lv_iload hx hb dX10_node_119 (lv_at hl 0 rfl) ?_
        have hP9 := hP.sub (ws' := []) [] rfl
        have hD9 := hD.sub (ws' := []) [] (by decide) rfl
        refine W.widen (k := 0) (n := 0) (Nat.le_of_ble_eq_true rfl) (Nat.le_of_ble_eq_true rfl) ?_
        exact W.iret (v := 0) hx hb hr (fun t ht hW => ⟨⟨0, (), rfl, (by simp [sp_nd, c_4, c_10, c_16]), by rw [ht]; exact hP9, hD9⟩, hS.F ht⟩) hS.2.2 dX10_node_121
set_option maxHeartbeats 4000000 in
set_option maxRecDepth 100000 in
theorem mX10_pass (l : Launch) (dC : Nat → ClassId) (dI : Nat → Nat → Nat) (kA : Nat → ClassId) (sz : Nat) (x0 : Nat) (xw : Nat) (xl : Nat) (xi : Nat) (xt : Nat) (xq : Nat) (xr : Nat) (xh : Nat) (xp : Nat) (xs_ : Nat) (xa : Nat) (xm : Nat) (tnodes : Nat) (tnodesA : Nat) (tpasses : Nat) (tjars : Nat) (torders : Nat) (tfeasts : Nat) (tway : Nat) (p1 : Int32) (p2 : Int32) (p3 : Int32) (p4 : Int32) (p5 : Int32)  : Met l yX10_pass wsX10_pass ({ frames := 1, cells := 0, slots := 0, locals := 21 }) (zPc dC dI kA sz [.ref x0, .int p1, .int p2, .int p3, .int p4, .int p5] [(x0, .inr (10, [.ref xw, .ref xl, .ref xi, .ref xt, .int 0, .ref xq, .int 0, .ref xr, .ref xh, .ref xp, .ref xs_, .ref xa, .ref xm])), (xw, .inr (9, [.ref tnodes, .ref tpasses, .ref tjars, .ref torders, .ref tfeasts, .ref tway, .int (-1), .int 0, .int 0, .int 0])), (tnodes, .inr (6, [.int 4, .ref tnodesA, .int 0]))]) (va_Qi (fun (r : Int32) (u : Unit) => r = (-1)) (zB dC dI (va_A [(x0, .inr (10, [.ref xw, .ref xl, .ref xi, .ref xt, .int 0, .ref xq, .int 0, .ref xr, .ref xh, .ref xp, .ref xs_, .ref xa, .ref xm])), (xw, .inr (9, [.ref tnodes, .ref tpasses, .ref tjars, .ref torders, .ref tfeasts, .ref tway, .int (-1), .int 0, .int 0, .int 0])), (tnodes, .inr (6, [.int 4, .ref tnodesA, .int 0]))] sz) (fun (u : Unit) => [])) (va_A [(x0, .inr (10, [.ref xw, .ref xl, .ref xi, .ref xt, .int 0, .ref xq, .int 0, .ref xr, .ref xh, .ref xp, .ref xs_, .ref xa, .ref xm])), (xw, .inr (9, [.ref tnodes, .ref tpasses, .ref tjars, .ref torders, .ref tfeasts, .ref tway, .int (-1), .int 0, .int 0, .int 0])), (tnodes, .inr (6, [.int 4, .ref tnodesA, .int 0]))] sz)) 0 0 (va_A [(x0, .inr (10, [.ref xw, .ref xl, .ref xi, .ref xt, .int 0, .ref xq, .int 0, .ref xr, .ref xh, .ref xp, .ref xs_, .ref xa, .ref xm])), (xw, .inr (9, [.ref tnodes, .ref tpasses, .ref tjars, .ref torders, .ref tfeasts, .ref tway, .int (-1), .int 0, .int 0, .int 0])), (tnodes, .inr (6, [.int 4, .ref tnodesA, .int 0]))] sz) := by
  refine Met.ofW (cc := cX10_pass) (maxL := 9) (ret := (some .int)) (by decide) rfl ?_
  intro p e s m args below meth c s₁ B hml hv
  obtain ⟨rfl, hsz, hP, hK, hD0⟩ := hv
  have hx := B.exec
  have hb := B.bytes
  have hr := B.returns
  have hts := atoms_spec (ws := wsX10_pass) B.pre
  have hown : s.vm.findClass RX10 = some m.cls := findClass_of_methodNamed B.named
  have hlocks := B.notSynchronized
  subst hsz
  have hD := hD0.self (sz := s.heap.size)
  generalize hAe : va_A [(x0, .inr (10, [.ref xw, .ref xl, .ref xi, .ref xt, .int 0, .ref xq, .int 0, .ref xr, .ref xh, .ref xp, .ref xs_, .ref xa, .ref xm])), (xw, .inr (9, [.ref tnodes, .ref tpasses, .ref tjars, .ref torders, .ref tfeasts, .ref tway, .int (-1), .int 0, .int 0, .int 0])), (tnodes, .inr (6, [.int 4, .ref tnodesA, .int 0]))] s.heap.size = A at hD ⊢
  have hA : ∀ q : Nat, s.heap.size ≤ q → A q := fun q h => by rw [← hAe]; exact Or.inr h
  have hS : va_S A s.heap s.heap [] := va_S.rf
  have hP : va_P (dC, dI) vwCl [(x0, .inr (10, [.ref xw, .ref xl, .ref xi, .ref xt, .int 0, .ref xq, .int 0, .ref xr, .ref xh, .ref xp, .ref xs_, .ref xa, .ref xm])), (xw, .inr (9, [.ref tnodes, .ref tpasses, .ref tjars, .ref torders, .ref tfeasts, .ref tway, .int (-1), .int 0, .int 0, .int 0])), (tnodes, .inr (6, [.int 4, .ref tnodesA, .int 0]))] s.heap := hP
  have hl := lv_entry ([.ref x0, .int p1, .int p2, .int p3, .int p4, .int p5]) (n := 9) (Nat.le_of_ble_eq_true rfl)
  rw [lg_entry_eq]
  generalize (lg_sl ([.ref x0, .int p1, .int p2, .int p3, .int p4, .int p5]) ++ List.replicate (9 - (lg_sl ([.ref x0, .int p1, .int p2, .int p3, .int p4, .int p5])).length) Slot.unset).toArray = ls at hl ⊢
  have hl : lv_has ls 9 [(0, .ref x0), (1, .int p1), (2, .int p2), (3, .int p3), (4, .int p4), (5, .int p5)] := hl
  refine lv_aload_n hx hb dX10_pass_0 rfl (lv_at hl 0 rfl) ?_
  refine va_get (D := (dC, dI)) (ci := 10) (v := .ref xw) (C := RX10) (T := TX10) (N := 13) hx hb hts iX10_pass_X10 hown hK.1 hP 0 rfl rfl 0 (by decide) (kX10_pass_1 hts) (fun _ h9 => h9) rfl dX10_pass_1 ?_
  refine va_get (D := (dC, dI)) (ci := 9) (v := .ref tnodes) (C := RX9) (T := TX9) (N := 10) hx hb hts iX10_pass_X9 hown hK.1 hP 1 rfl rfl 0 (by decide) (kX10_pass_2 hts) (fun _ h9 => h9) rfl dX10_pass_4 ?_
  refine lv_iload_n hx hb dX10_pass_7 rfl (lv_at hl 1 rfl) ?_
  refine z_i (wr := [(x0, .inr (10, [.ref xw, .ref xl, .ref xi, .ref xt, .int 0, .ref xq, .int 0, .ref xr, .ref xh, .ref xp, .ref xs_, .ref xa, .ref xm])), (xw, .inr (9, [.ref tnodes, .ref tpasses, .ref tjars, .ref torders, .ref tfeasts, .ref tway, .int (-1), .int 0, .int 0, .int 0]))]) (va_runV (As := [.int p1]) (rest := []) ⟨hx, hb, hml, hown, hts⟩ (mX6_has l dC dI kA _ tnodes tnodesA 4 p1) (cwV 1 hts gX10_pass_X6_has rfl rfl rfl (by decide +kernel) ⟨(Nat.le_of_ble_eq_true rfl), (Nat.le_of_ble_eq_true rfl)⟩) ⟨zPc.blind, va_recv hK.1 hP (ci := 6) (q0 := 2) rfl rfl, zPre hK (hP.sub [2] rfl) (hD.sub [2] (by decide) rfl)⟩ rfl rfl hl.1 rfl (lv_room (Nat.le_of_ble_eq_true rfl)) dX10_pass_8 ⟨(Nat.le_of_ble_eq_true rfl), (Nat.le_of_ble_eq_true rfl)⟩) hP hD hS hA [2] [0, 1] rfl rfl (by decide) (by decide) (fun r3 u1 H locs hw2 hP hD hS => ?_)
  obtain rfl := hw2
  have hP : va_P (dC, dI) vwCl [(x0, .inr (10, [.ref xw, .ref xl, .ref xi, .ref xt, .int 0, .ref xq, .int 0, .ref xr, .ref xh, .ref xp, .ref xs_, .ref xa, .ref xm])), (xw, .inr (9, [.ref tnodes, .ref tpasses, .ref tjars, .ref torders, .ref tfeasts, .ref tway, .int (-1), .int 0, .int 0, .int 0])), (tnodes, .inr (6, [.int 4, .ref tnodesA, .int 0]))] H := hP
  have hD : va_D A [(x0, .inr (10, [.ref xw, .ref xl, .ref xi, .ref xt, .int 0, .ref xq, .int 0, .ref xr, .ref xh, .ref xp, .ref xs_, .ref xa, .ref xm])), (xw, .inr (9, [.ref tnodes, .ref tpasses, .ref tjars, .ref torders, .ref tfeasts, .ref tway, .int (-1), .int 0, .int 0, .int 0])), (tnodes, .inr (6, [.int 4, .ref tnodesA, .int 0]))] := hD
  refine lv_if_eq (tgt := 37) hx hb dX10_pass_11 (by decide) (fun _ => ?_) (fun c_4 => absurd (by decide) c_4)
  refine lv_iconst (v := 0) hx hb dX10_pass_37 (by decide) ?_
  refine lv_istore (lv' := [(6, .int 0), (0, .ref x0), (1, .int p1), (2, .int p2), (3, .int p3), (4, .int p4), (5, .int p5)]) hx hb dX10_pass_38 hl (by decide) rfl (fun ls hl => ?_)
  refine lv_iload_n hx hb dX10_pass_40 rfl (lv_at hl 4 rfl) ?_
  refine lv_iconst (v := 1) hx hb dX10_pass_41 (by decide) ?_
  refine lv_icmp_lt (tgt := 79) hx hb dX10_pass_42 (by decide) (fun c_5 => ?_) (fun c_5 => ?_)
  · refine lv_iconst (v := 0) hx hb dX10_pass_79 (by decide) ?_
    refine lv_istore (lv' := [(7, .int 0), (6, .int 0), (0, .ref x0), (1, .int p1), (2, .int p2), (3, .int p3), (4, .int p4), (5, .int p5)]) hx hb dX10_pass_80 hl (by decide) rfl (fun ls hl => ?_)
    refine lv_iload hx hb dX10_pass_82 (lv_at hl 1 rfl) ?_
    refine lv_if_eq (tgt := 105) hx hb dX10_pass_84 (by decide) (fun _ => ?_) (fun c_6 => absurd (by decide) c_6)
    refine lv_iconst (v := (-1)) hx hb dX10_pass_105 (by decide) ?_
    refine lv_istore (lv' := [(8, .int (-1)), (7, .int 0), (6, .int 0), (0, .ref x0), (1, .int p1), (2, .int p2), (3, .int p3), (4, .int p4), (5, .int p5)]) hx hb dX10_pass_106 hl (by decide) rfl (fun ls hl => ?_)
    refine lv_iload hx hb dX10_pass_108 (lv_at hl 0 rfl) ?_
    refine lv_iconst (v := (-1)) hx hb dX10_pass_110 (by decide) ?_
    refine lv_icmp_eq (tgt := 186) hx hb dX10_pass_111 (by decide) (fun _ => ?_) (fun c_7 => absurd (by decide) c_7)
    refine lv_iload hx hb dX10_pass_186 (lv_at hl 0 rfl) ?_
    have hP9 := hP.sub (ws' := []) [] rfl
    have hD9 := hD.sub (ws' := []) [] (by decide) rfl
    refine W.widen (k := 0) (n := 0) (Nat.le_of_ble_eq_true rfl) (Nat.le_of_ble_eq_true rfl) ?_
    exact W.iret (v := (-1)) hx hb hr (fun t ht hW => ⟨⟨(-1), (), rfl, rfl, by rw [ht]; exact hP9, hD9⟩, hS.F ht⟩) hS.2.2 dX10_pass_188
  · refine lv_iload_n hx hb dX10_pass_45 rfl (lv_at hl 4 rfl) ?_
    refine lv_bipush (v := 24) hx hb dX10_pass_46 (by decide) ?_
    refine z_i (wr := [(x0, .inr (10, [.ref xw, .ref xl, .ref xi, .ref xt, .int 0, .ref xq, .int 0, .ref xr, .ref xh, .ref xp, .ref xs_, .ref xa, .ref xm])), (xw, .inr (9, [.ref tnodes, .ref tpasses, .ref tjars, .ref torders, .ref tfeasts, .ref tway, .int (-1), .int 0, .int 0, .int 0])), (tnodes, .inr (6, [.int 4, .ref tnodesA, .int 0]))]) (va_runS (As := [.int p3, .int 24]) (rest := []) ⟨hx, hb, hml, hown, hts⟩ (mX10_within l dC dI kA _ p3 24) (va_cwS 2 hts gX10_pass_X10_within rfl rfl rfl (by decide +kernel) ⟨(Nat.le_of_ble_eq_true rfl), (Nat.le_of_ble_eq_true rfl)⟩) ⟨zPc.blind, zPre hK (hP.sub [] rfl) (hD.sub [] (by decide) rfl)⟩ rfl rfl hl.1 rfl (lv_room (Nat.le_of_ble_eq_true rfl)) dX10_pass_48 ⟨(Nat.le_of_ble_eq_true rfl), (Nat.le_of_ble_eq_true rfl)⟩) hP hD hS hA [] [0, 1, 2] rfl rfl (by decide) (by decide) (fun r10 u8 H locs hw9 hP hD hS => ?_)
    obtain rfl := hw9
    have hP : va_P (dC, dI) vwCl [(x0, .inr (10, [.ref xw, .ref xl, .ref xi, .ref xt, .int 0, .ref xq, .int 0, .ref xr, .ref xh, .ref xp, .ref xs_, .ref xa, .ref xm])), (xw, .inr (9, [.ref tnodes, .ref tpasses, .ref tjars, .ref torders, .ref tfeasts, .ref tway, .int (-1), .int 0, .int 0, .int 0])), (tnodes, .inr (6, [.int 4, .ref tnodesA, .int 0]))] H := hP
    have hD : va_D A [(x0, .inr (10, [.ref xw, .ref xl, .ref xi, .ref xt, .int 0, .ref xq, .int 0, .ref xr, .ref xh, .ref xp, .ref xs_, .ref xa, .ref xm])), (xw, .inr (9, [.ref tnodes, .ref tpasses, .ref tjars, .ref torders, .ref tfeasts, .ref tway, .int (-1), .int 0, .int 0, .int 0])), (tnodes, .inr (6, [.int 4, .ref tnodesA, .int 0]))] := hD
    refine lv_if_eq (tgt := 79) hx hb dX10_pass_51 (by decide) (fun c_11 => ?_) (fun c_11 => ?_)
    · refine lv_iconst (v := 0) hx hb dX10_pass_79 (by decide) ?_
      refine lv_istore (lv' := [(7, .int 0), (6, .int 0), (0, .ref x0), (1, .int p1), (2, .int p2), (3, .int p3), (4, .int p4), (5, .int p5)]) hx hb dX10_pass_80 hl (by decide) rfl (fun ls hl => ?_)
      refine lv_iload hx hb dX10_pass_82 (lv_at hl 1 rfl) ?_
      refine lv_if_eq (tgt := 105) hx hb dX10_pass_84 (by decide) (fun _ => ?_) (fun c_12 => absurd (by decide) c_12)
      refine lv_iconst (v := (-1)) hx hb dX10_pass_105 (by decide) ?_
      refine lv_istore (lv' := [(8, .int (-1)), (7, .int 0), (6, .int 0), (0, .ref x0), (1, .int p1), (2, .int p2), (3, .int p3), (4, .int p4), (5, .int p5)]) hx hb dX10_pass_106 hl (by decide) rfl (fun ls hl => ?_)
      refine lv_iload hx hb dX10_pass_108 (lv_at hl 0 rfl) ?_
      refine lv_iconst (v := (-1)) hx hb dX10_pass_110 (by decide) ?_
      refine lv_icmp_eq (tgt := 186) hx hb dX10_pass_111 (by decide) (fun _ => ?_) (fun c_13 => absurd (by decide) c_13)
      refine lv_iload hx hb dX10_pass_186 (lv_at hl 0 rfl) ?_
      have hP9 := hP.sub (ws' := []) [] rfl
      have hD9 := hD.sub (ws' := []) [] (by decide) rfl
      refine W.widen (k := 0) (n := 0) (Nat.le_of_ble_eq_true rfl) (Nat.le_of_ble_eq_true rfl) ?_
      exact W.iret (v := (-1)) hx hb hr (fun t ht hW => ⟨⟨(-1), (), rfl, rfl, by rw [ht]; exact hP9, hD9⟩, hS.F ht⟩) hS.2.2 dX10_pass_188
    · refine lv_iload hx hb dX10_pass_54 (lv_at hl 5 rfl) ?_
      refine lv_bipush (v := 9) hx hb dX10_pass_56 (by decide) ?_
      refine z_i (wr := [(x0, .inr (10, [.ref xw, .ref xl, .ref xi, .ref xt, .int 0, .ref xq, .int 0, .ref xr, .ref xh, .ref xp, .ref xs_, .ref xa, .ref xm])), (xw, .inr (9, [.ref tnodes, .ref tpasses, .ref tjars, .ref torders, .ref tfeasts, .ref tway, .int (-1), .int 0, .int 0, .int 0])), (tnodes, .inr (6, [.int 4, .ref tnodesA, .int 0]))]) (va_runS (As := [.int p4, .int 9]) (rest := []) ⟨hx, hb, hml, hown, hts⟩ (mX10_within l dC dI kA _ p4 9) (va_cwS 2 hts gX10_pass_X10_within rfl rfl rfl (by decide +kernel) ⟨(Nat.le_of_ble_eq_true rfl), (Nat.le_of_ble_eq_true rfl)⟩) ⟨zPc.blind, zPre hK (hP.sub [] rfl) (hD.sub [] (by decide) rfl)⟩ rfl rfl hl.1 rfl (lv_room (Nat.le_of_ble_eq_true rfl)) dX10_pass_58 ⟨(Nat.le_of_ble_eq_true rfl), (Nat.le_of_ble_eq_true rfl)⟩) hP hD hS hA [] [0, 1, 2] rfl rfl (by decide) (by decide) (fun r16 u14 H locs hw15 hP hD hS => ?_)
      obtain rfl := hw15
      have hP : va_P (dC, dI) vwCl [(x0, .inr (10, [.ref xw, .ref xl, .ref xi, .ref xt, .int 0, .ref xq, .int 0, .ref xr, .ref xh, .ref xp, .ref xs_, .ref xa, .ref xm])), (xw, .inr (9, [.ref tnodes, .ref tpasses, .ref tjars, .ref torders, .ref tfeasts, .ref tway, .int (-1), .int 0, .int 0, .int 0])), (tnodes, .inr (6, [.int 4, .ref tnodesA, .int 0]))] H := hP
      have hD : va_D A [(x0, .inr (10, [.ref xw, .ref xl, .ref xi, .ref xt, .int 0, .ref xq, .int 0, .ref xr, .ref xh, .ref xp, .ref xs_, .ref xa, .ref xm])), (xw, .inr (9, [.ref tnodes, .ref tpasses, .ref tjars, .ref torders, .ref tfeasts, .ref tway, .int (-1), .int 0, .int 0, .int 0])), (tnodes, .inr (6, [.int 4, .ref tnodesA, .int 0]))] := hD
      refine lv_if_eq (tgt := 79) hx hb dX10_pass_61 (by decide) (fun c_17 => ?_) (fun c_17 => ?_)
      · refine lv_iconst (v := 0) hx hb dX10_pass_79 (by decide) ?_
        refine lv_istore (lv' := [(7, .int 0), (6, .int 0), (0, .ref x0), (1, .int p1), (2, .int p2), (3, .int p3), (4, .int p4), (5, .int p5)]) hx hb dX10_pass_80 hl (by decide) rfl (fun ls hl => ?_)
        refine lv_iload hx hb dX10_pass_82 (lv_at hl 1 rfl) ?_
        refine lv_if_eq (tgt := 105) hx hb dX10_pass_84 (by decide) (fun _ => ?_) (fun c_18 => absurd (by decide) c_18)
        refine lv_iconst (v := (-1)) hx hb dX10_pass_105 (by decide) ?_
        refine lv_istore (lv' := [(8, .int (-1)), (7, .int 0), (6, .int 0), (0, .ref x0), (1, .int p1), (2, .int p2), (3, .int p3), (4, .int p4), (5, .int p5)]) hx hb dX10_pass_106 hl (by decide) rfl (fun ls hl => ?_)
        refine lv_iload hx hb dX10_pass_108 (lv_at hl 0 rfl) ?_
        refine lv_iconst (v := (-1)) hx hb dX10_pass_110 (by decide) ?_
        refine lv_icmp_eq (tgt := 186) hx hb dX10_pass_111 (by decide) (fun _ => ?_) (fun c_19 => absurd (by decide) c_19)
        refine lv_iload hx hb dX10_pass_186 (lv_at hl 0 rfl) ?_
        have hP9 := hP.sub (ws' := []) [] rfl
        have hD9 := hD.sub (ws' := []) [] (by decide) rfl
        refine W.widen (k := 0) (n := 0) (Nat.le_of_ble_eq_true rfl) (Nat.le_of_ble_eq_true rfl) ?_
        exact W.iret (v := (-1)) hx hb hr (fun t ht hW => ⟨⟨(-1), (), rfl, rfl, by rw [ht]; exact hP9, hD9⟩, hS.F ht⟩) hS.2.2 dX10_pass_188
      · refine lv_iload hx hb dX10_pass_64 (lv_at hl 6 rfl) ?_
        refine lv_sipush (v := 1000) hx hb dX10_pass_66 (by decide) ?_
        refine z_i (wr := [(x0, .inr (10, [.ref xw, .ref xl, .ref xi, .ref xt, .int 0, .ref xq, .int 0, .ref xr, .ref xh, .ref xp, .ref xs_, .ref xa, .ref xm])), (xw, .inr (9, [.ref tnodes, .ref tpasses, .ref tjars, .ref torders, .ref tfeasts, .ref tway, .int (-1), .int 0, .int 0, .int 0])), (tnodes, .inr (6, [.int 4, .ref tnodesA, .int 0]))]) (va_runS (As := [.int p5, .int 1000]) (rest := []) ⟨hx, hb, hml, hown, hts⟩ (mX10_within l dC dI kA _ p5 1000) (va_cwS 2 hts gX10_pass_X10_within rfl rfl rfl (by decide +kernel) ⟨(Nat.le_of_ble_eq_true rfl), (Nat.le_of_ble_eq_true rfl)⟩) ⟨zPc.blind, zPre hK (hP.sub [] rfl) (hD.sub [] (by decide) rfl)⟩ rfl rfl hl.1 rfl (lv_room (Nat.le_of_ble_eq_true rfl)) dX10_pass_69 ⟨(Nat.le_of_ble_eq_true rfl), (Nat.le_of_ble_eq_true rfl)⟩) hP hD hS hA [] [0, 1, 2] rfl rfl (by decide) (by decide) (fun r22 u20 H locs hw21 hP hD hS => ?_)
        obtain rfl := hw21
        have hP : va_P (dC, dI) vwCl [(x0, .inr (10, [.ref xw, .ref xl, .ref xi, .ref xt, .int 0, .ref xq, .int 0, .ref xr, .ref xh, .ref xp, .ref xs_, .ref xa, .ref xm])), (xw, .inr (9, [.ref tnodes, .ref tpasses, .ref tjars, .ref torders, .ref tfeasts, .ref tway, .int (-1), .int 0, .int 0, .int 0])), (tnodes, .inr (6, [.int 4, .ref tnodesA, .int 0]))] H := hP
        have hD : va_D A [(x0, .inr (10, [.ref xw, .ref xl, .ref xi, .ref xt, .int 0, .ref xq, .int 0, .ref xr, .ref xh, .ref xp, .ref xs_, .ref xa, .ref xm])), (xw, .inr (9, [.ref tnodes, .ref tpasses, .ref tjars, .ref torders, .ref tfeasts, .ref tway, .int (-1), .int 0, .int 0, .int 0])), (tnodes, .inr (6, [.int 4, .ref tnodesA, .int 0]))] := hD
        refine lv_if_eq (tgt := 79) hx hb dX10_pass_72 (by decide) (fun c_23 => ?_) (fun c_23 => ?_)
        · refine lv_iconst (v := 0) hx hb dX10_pass_79 (by decide) ?_
          refine lv_istore (lv' := [(7, .int 0), (6, .int 0), (0, .ref x0), (1, .int p1), (2, .int p2), (3, .int p3), (4, .int p4), (5, .int p5)]) hx hb dX10_pass_80 hl (by decide) rfl (fun ls hl => ?_)
          refine lv_iload hx hb dX10_pass_82 (lv_at hl 1 rfl) ?_
          refine lv_if_eq (tgt := 105) hx hb dX10_pass_84 (by decide) (fun _ => ?_) (fun c_24 => absurd (by decide) c_24)
          refine lv_iconst (v := (-1)) hx hb dX10_pass_105 (by decide) ?_
          refine lv_istore (lv' := [(8, .int (-1)), (7, .int 0), (6, .int 0), (0, .ref x0), (1, .int p1), (2, .int p2), (3, .int p3), (4, .int p4), (5, .int p5)]) hx hb dX10_pass_106 hl (by decide) rfl (fun ls hl => ?_)
          refine lv_iload hx hb dX10_pass_108 (lv_at hl 0 rfl) ?_
          refine lv_iconst (v := (-1)) hx hb dX10_pass_110 (by decide) ?_
          refine lv_icmp_eq (tgt := 186) hx hb dX10_pass_111 (by decide) (fun _ => ?_) (fun c_25 => absurd (by decide) c_25)
          refine lv_iload hx hb dX10_pass_186 (lv_at hl 0 rfl) ?_
          have hP9 := hP.sub (ws' := []) [] rfl
          have hD9 := hD.sub (ws' := []) [] (by decide) rfl
          refine W.widen (k := 0) (n := 0) (Nat.le_of_ble_eq_true rfl) (Nat.le_of_ble_eq_true rfl) ?_
          exact W.iret (v := (-1)) hx hb hr (fun t ht hW => ⟨⟨(-1), (), rfl, rfl, by rw [ht]; exact hP9, hD9⟩, hS.F ht⟩) hS.2.2 dX10_pass_188
        · refine lv_iconst (v := 1) hx hb dX10_pass_75 (by decide) ?_
          refine lv_goto (tgt := 80) hx hb dX10_pass_76 (by decide) ?_
          refine lv_istore (lv' := [(7, .int 1), (6, .int 0), (0, .ref x0), (1, .int p1), (2, .int p2), (3, .int p3), (4, .int p4), (5, .int p5)]) hx hb dX10_pass_80 hl (by decide) rfl (fun ls hl => ?_)
          refine lv_iload hx hb dX10_pass_82 (lv_at hl 1 rfl) ?_
          refine lv_if_eq (tgt := 105) hx hb dX10_pass_84 (by decide) (fun _ => ?_) (fun c_26 => absurd (by decide) c_26)
          refine lv_iconst (v := (-1)) hx hb dX10_pass_105 (by decide) ?_
          refine lv_istore (lv' := [(8, .int (-1)), (7, .int 1), (6, .int 0), (0, .ref x0), (1, .int p1), (2, .int p2), (3, .int p3), (4, .int p4), (5, .int p5)]) hx hb dX10_pass_106 hl (by decide) rfl (fun ls hl => ?_)
          refine lv_iload hx hb dX10_pass_108 (lv_at hl 0 rfl) ?_
          refine lv_iconst (v := (-1)) hx hb dX10_pass_110 (by decide) ?_
          refine lv_icmp_eq (tgt := 186) hx hb dX10_pass_111 (by decide) (fun _ => ?_) (fun c_27 => absurd (by decide) c_27)
          refine lv_iload hx hb dX10_pass_186 (lv_at hl 0 rfl) ?_
          have hP9 := hP.sub (ws' := []) [] rfl
          have hD9 := hD.sub (ws' := []) [] (by decide) rfl
          refine W.widen (k := 0) (n := 0) (Nat.le_of_ble_eq_true rfl) (Nat.le_of_ble_eq_true rfl) ?_
          exact W.iret (v := (-1)) hx hb hr (fun t ht hW => ⟨⟨(-1), (), rfl, rfl, by rw [ht]; exact hP9, hD9⟩, hS.F ht⟩) hS.2.2 dX10_pass_188
set_option maxHeartbeats 4000000 in
set_option maxRecDepth 100000 in
theorem mX10_jar (l : Launch) (dC : Nat → ClassId) (dI : Nat → Nat → Nat) (kA : Nat → ClassId) (sz : Nat) (x0 : Nat) (xw : Nat) (xl : Nat) (xi : Nat) (xt : Nat) (xq : Nat) (xr : Nat) (xh : Nat) (xp : Nat) (xs_ : Nat) (xa : Nat) (xm : Nat) (tnodes : Nat) (tnodesA : Nat) (tpasses : Nat) (tjars : Nat) (torders : Nat) (tfeasts : Nat) (tway : Nat) (p1 : Int32) (p2 : Int32) (p3 : Int32) (p4 : Int32) (p5 : Int32)  : Met l yX10_jar wsX10_jar ({ frames := 2, cells := 0, slots := 0, locals := 42 }) (zPc dC dI kA sz [.ref x0, .int p1, .int p2, .int p3, .int p4, .int p5] [(x0, .inr (10, [.ref xw, .ref xl, .ref xi, .ref xt, .int 0, .ref xq, .int 0, .ref xr, .ref xh, .ref xp, .ref xs_, .ref xa, .ref xm])), (xw, .inr (9, [.ref tnodes, .ref tpasses, .ref tjars, .ref torders, .ref tfeasts, .ref tway, .int (-1), .int 0, .int 0, .int 0])), (tnodes, .inr (6, [.int 4, .ref tnodesA, .int 0]))]) (va_Qi (fun (r : Int32) (u : Unit) => r = (-1)) (zB dC dI (va_A [(x0, .inr (10, [.ref xw, .ref xl, .ref xi, .ref xt, .int 0, .ref xq, .int 0, .ref xr, .ref xh, .ref xp, .ref xs_, .ref xa, .ref xm])), (xw, .inr (9, [.ref tnodes, .ref tpasses, .ref tjars, .ref torders, .ref tfeasts, .ref tway, .int (-1), .int 0, .int 0, .int 0])), (tnodes, .inr (6, [.int 4, .ref tnodesA, .int 0]))] sz) (fun (u : Unit) => [])) (va_A [(x0, .inr (10, [.ref xw, .ref xl, .ref xi, .ref xt, .int 0, .ref xq, .int 0, .ref xr, .ref xh, .ref xp, .ref xs_, .ref xa, .ref xm])), (xw, .inr (9, [.ref tnodes, .ref tpasses, .ref tjars, .ref torders, .ref tfeasts, .ref tway, .int (-1), .int 0, .int 0, .int 0])), (tnodes, .inr (6, [.int 4, .ref tnodesA, .int 0]))] sz)) 0 0 (va_A [(x0, .inr (10, [.ref xw, .ref xl, .ref xi, .ref xt, .int 0, .ref xq, .int 0, .ref xr, .ref xh, .ref xp, .ref xs_, .ref xa, .ref xm])), (xw, .inr (9, [.ref tnodes, .ref tpasses, .ref tjars, .ref torders, .ref tfeasts, .ref tway, .int (-1), .int 0, .int 0, .int 0])), (tnodes, .inr (6, [.int 4, .ref tnodesA, .int 0]))] sz) := by
  refine Met.ofW (cc := cX10_jar) (maxL := 8) (ret := (some .int)) (by decide) rfl ?_
  intro p e s m args below meth c s₁ B hml hv
  obtain ⟨rfl, hsz, hP, hK, hD0⟩ := hv
  have hx := B.exec
  have hb := B.bytes
  have hr := B.returns
  have hts := atoms_spec (ws := wsX10_jar) B.pre
  have hown : s.vm.findClass RX10 = some m.cls := findClass_of_methodNamed B.named
  have hlocks := B.notSynchronized
  subst hsz
  have hD := hD0.self (sz := s.heap.size)
  generalize hAe : va_A [(x0, .inr (10, [.ref xw, .ref xl, .ref xi, .ref xt, .int 0, .ref xq, .int 0, .ref xr, .ref xh, .ref xp, .ref xs_, .ref xa, .ref xm])), (xw, .inr (9, [.ref tnodes, .ref tpasses, .ref tjars, .ref torders, .ref tfeasts, .ref tway, .int (-1), .int 0, .int 0, .int 0])), (tnodes, .inr (6, [.int 4, .ref tnodesA, .int 0]))] s.heap.size = A at hD ⊢
  have hA : ∀ q : Nat, s.heap.size ≤ q → A q := fun q h => by rw [← hAe]; exact Or.inr h
  have hS : va_S A s.heap s.heap [] := va_S.rf
  have hP : va_P (dC, dI) vwCl [(x0, .inr (10, [.ref xw, .ref xl, .ref xi, .ref xt, .int 0, .ref xq, .int 0, .ref xr, .ref xh, .ref xp, .ref xs_, .ref xa, .ref xm])), (xw, .inr (9, [.ref tnodes, .ref tpasses, .ref tjars, .ref torders, .ref tfeasts, .ref tway, .int (-1), .int 0, .int 0, .int 0])), (tnodes, .inr (6, [.int 4, .ref tnodesA, .int 0]))] s.heap := hP
  have hl := lv_entry ([.ref x0, .int p1, .int p2, .int p3, .int p4, .int p5]) (n := 8) (Nat.le_of_ble_eq_true rfl)
  rw [lg_entry_eq]
  generalize (lg_sl ([.ref x0, .int p1, .int p2, .int p3, .int p4, .int p5]) ++ List.replicate (8 - (lg_sl ([.ref x0, .int p1, .int p2, .int p3, .int p4, .int p5])).length) Slot.unset).toArray = ls at hl ⊢
  have hl : lv_has ls 8 [(0, .ref x0), (1, .int p1), (2, .int p2), (3, .int p3), (4, .int p4), (5, .int p5)] := hl
  refine lv_iload_n hx hb dX10_jar_0 rfl (lv_at hl 2 rfl) ?_
  refine lv_iload_n hx hb dX10_jar_1 rfl (lv_at hl 3 rfl) ?_
  refine z_i (wr := [(x0, .inr (10, [.ref xw, .ref xl, .ref xi, .ref xt, .int 0, .ref xq, .int 0, .ref xr, .ref xh, .ref xp, .ref xs_, .ref xa, .ref xm])), (xw, .inr (9, [.ref tnodes, .ref tpasses, .ref tjars, .ref torders, .ref tfeasts, .ref tway, .int (-1), .int 0, .int 0, .int 0])), (tnodes, .inr (6, [.int 4, .ref tnodesA, .int 0]))]) (va_runS (As := [.int p2, .int p3]) (rest := []) ⟨hx, hb, hml, hown, hts⟩ (mX10_isCover l dC dI kA _ p2 p3) (va_cwS 2 hts gX10_jar_X10_isCover rfl rfl rfl (by decide +kernel) ⟨(Nat.le_of_ble_eq_true rfl), (Nat.le_of_ble_eq_true rfl)⟩) ⟨zPc.blind, zPre hK (hP.sub [] rfl) (hD.sub [] (by decide) rfl)⟩ rfl rfl hl.1 rfl (lv_room (Nat.le_of_ble_eq_true rfl)) dX10_jar_2 ⟨(Nat.le_of_ble_eq_true rfl), (Nat.le_of_ble_eq_true rfl)⟩) hP hD hS hA [] [0, 1, 2] rfl rfl (by decide) (by decide) (fun r3 u1 H locs hw2 hP hD hS => ?_)
  obtain ⟨q_4, rfl⟩ : ∃ z, z = u1 := ⟨_, rfl⟩
  obtain rfl := hw2
  have hP : va_P (dC, dI) vwCl [(x0, .inr (10, [.ref xw, .ref xl, .ref xi, .ref xt, .int 0, .ref xq, .int 0, .ref xr, .ref xh, .ref xp, .ref xs_, .ref xa, .ref xm])), (xw, .inr (9, [.ref tnodes, .ref tpasses, .ref tjars, .ref torders, .ref tfeasts, .ref tway, .int (-1), .int 0, .int 0, .int 0])), (tnodes, .inr (6, [.int 4, .ref tnodesA, .int 0]))] H := hP
  have hD : va_D A [(x0, .inr (10, [.ref xw, .ref xl, .ref xi, .ref xt, .int 0, .ref xq, .int 0, .ref xr, .ref xh, .ref xp, .ref xs_, .ref xa, .ref xm])), (xw, .inr (9, [.ref tnodes, .ref tpasses, .ref tjars, .ref torders, .ref tfeasts, .ref tway, .int (-1), .int 0, .int 0, .int 0])), (tnodes, .inr (6, [.int 4, .ref tnodesA, .int 0]))] := hD
  refine lv_if_eq (tgt := 32) hx hb dX10_jar_5 (by decide) (fun c_5 => ?_) (fun c_5 => ?_)
  · refine lv_iconst (v := 0) hx hb dX10_jar_32 (by decide) ?_
    refine lv_istore (lv' := [(6, .int 0), (0, .ref x0), (1, .int p1), (2, .int p2), (3, .int p3), (4, .int p4), (5, .int p5)]) hx hb dX10_jar_33 hl (by decide) rfl (fun ls hl => ?_)
    refine lv_iload hx hb dX10_jar_35 (lv_at hl 0 rfl) ?_
    refine lv_if_eq (tgt := 67) hx hb dX10_jar_37 (by decide) (fun _ => ?_) (fun c_6 => absurd (by decide) c_6)
    refine lv_iconst (v := (-1)) hx hb dX10_jar_67 (by decide) ?_
    refine lv_istore (lv' := [(7, .int (-1)), (6, .int 0), (0, .ref x0), (1, .int p1), (2, .int p2), (3, .int p3), (4, .int p4), (5, .int p5)]) hx hb dX10_jar_68 hl (by decide) rfl (fun ls hl => ?_)
    refine lv_iload hx hb dX10_jar_70 (lv_at hl 0 rfl) ?_
    refine lv_iconst (v := (-1)) hx hb dX10_jar_72 (by decide) ?_
    refine lv_icmp_eq (tgt := 161) hx hb dX10_jar_73 (by decide) (fun _ => ?_) (fun c_7 => absurd (by decide) c_7)
    refine lv_iload hx hb dX10_jar_161 (lv_at hl 0 rfl) ?_
    have hP9 := hP.sub (ws' := []) [] rfl
    have hD9 := hD.sub (ws' := []) [] (by decide) rfl
    refine W.widen (k := 0) (n := 0) (Nat.le_of_ble_eq_true rfl) (Nat.le_of_ble_eq_true rfl) ?_
    exact W.iret (v := (-1)) hx hb hr (fun t ht hW => ⟨⟨(-1), (), rfl, rfl, by rw [ht]; exact hP9, hD9⟩, hS.F ht⟩) hS.2.2 dX10_jar_163
  · refine lv_iload hx hb dX10_jar_8 (lv_at hl 4 rfl) ?_
    refine lv_bipush (v := 7) hx hb dX10_jar_10 (by decide) ?_
    refine z_i (wr := [(x0, .inr (10, [.ref xw, .ref xl, .ref xi, .ref xt, .int 0, .ref xq, .int 0, .ref xr, .ref xh, .ref xp, .ref xs_, .ref xa, .ref xm])), (xw, .inr (9, [.ref tnodes, .ref tpasses, .ref tjars, .ref torders, .ref tfeasts, .ref tway, .int (-1), .int 0, .int 0, .int 0])), (tnodes, .inr (6, [.int 4, .ref tnodesA, .int 0]))]) (va_runS (As := [.int p4, .int 7]) (rest := []) ⟨hx, hb, hml, hown, hts⟩ (mX10_within l dC dI kA _ p4 7) (va_cwS 2 hts gX10_jar_X10_within rfl rfl rfl (by decide +kernel) ⟨(Nat.le_of_ble_eq_true rfl), (Nat.le_of_ble_eq_true rfl)⟩) ⟨zPc.blind, zPre hK (hP.sub [] rfl) (hD.sub [] (by decide) rfl)⟩ rfl rfl hl.1 rfl (lv_room (Nat.le_of_ble_eq_true rfl)) dX10_jar_12 ⟨(Nat.le_of_ble_eq_true rfl), (Nat.le_of_ble_eq_true rfl)⟩) hP hD hS hA [] [0, 1, 2] rfl rfl (by decide) (by decide) (fun r10 u8 H locs hw9 hP hD hS => ?_)
    obtain rfl := hw9
    have hP : va_P (dC, dI) vwCl [(x0, .inr (10, [.ref xw, .ref xl, .ref xi, .ref xt, .int 0, .ref xq, .int 0, .ref xr, .ref xh, .ref xp, .ref xs_, .ref xa, .ref xm])), (xw, .inr (9, [.ref tnodes, .ref tpasses, .ref tjars, .ref torders, .ref tfeasts, .ref tway, .int (-1), .int 0, .int 0, .int 0])), (tnodes, .inr (6, [.int 4, .ref tnodesA, .int 0]))] H := hP
    have hD : va_D A [(x0, .inr (10, [.ref xw, .ref xl, .ref xi, .ref xt, .int 0, .ref xq, .int 0, .ref xr, .ref xh, .ref xp, .ref xs_, .ref xa, .ref xm])), (xw, .inr (9, [.ref tnodes, .ref tpasses, .ref tjars, .ref torders, .ref tfeasts, .ref tway, .int (-1), .int 0, .int 0, .int 0])), (tnodes, .inr (6, [.int 4, .ref tnodesA, .int 0]))] := hD
    refine lv_if_eq (tgt := 32) hx hb dX10_jar_15 (by decide) (fun c_11 => ?_) (fun c_11 => ?_)
    · refine lv_iconst (v := 0) hx hb dX10_jar_32 (by decide) ?_
      refine lv_istore (lv' := [(6, .int 0), (0, .ref x0), (1, .int p1), (2, .int p2), (3, .int p3), (4, .int p4), (5, .int p5)]) hx hb dX10_jar_33 hl (by decide) rfl (fun ls hl => ?_)
      refine lv_iload hx hb dX10_jar_35 (lv_at hl 0 rfl) ?_
      refine lv_if_eq (tgt := 67) hx hb dX10_jar_37 (by decide) (fun _ => ?_) (fun c_12 => absurd (by decide) c_12)
      refine lv_iconst (v := (-1)) hx hb dX10_jar_67 (by decide) ?_
      refine lv_istore (lv' := [(7, .int (-1)), (6, .int 0), (0, .ref x0), (1, .int p1), (2, .int p2), (3, .int p3), (4, .int p4), (5, .int p5)]) hx hb dX10_jar_68 hl (by decide) rfl (fun ls hl => ?_)
      refine lv_iload hx hb dX10_jar_70 (lv_at hl 0 rfl) ?_
      refine lv_iconst (v := (-1)) hx hb dX10_jar_72 (by decide) ?_
      refine lv_icmp_eq (tgt := 161) hx hb dX10_jar_73 (by decide) (fun _ => ?_) (fun c_13 => absurd (by decide) c_13)
      refine lv_iload hx hb dX10_jar_161 (lv_at hl 0 rfl) ?_
      have hP9 := hP.sub (ws' := []) [] rfl
      have hD9 := hD.sub (ws' := []) [] (by decide) rfl
      refine W.widen (k := 0) (n := 0) (Nat.le_of_ble_eq_true rfl) (Nat.le_of_ble_eq_true rfl) ?_
      exact W.iret (v := (-1)) hx hb hr (fun t ht hW => ⟨⟨(-1), (), rfl, rfl, by rw [ht]; exact hP9, hD9⟩, hS.F ht⟩) hS.2.2 dX10_jar_163
    · refine lv_iload hx hb dX10_jar_18 (lv_at hl 5 rfl) ?_
      refine lv_bipush (v := 15) hx hb dX10_jar_20 (by decide) ?_
      refine z_i (wr := [(x0, .inr (10, [.ref xw, .ref xl, .ref xi, .ref xt, .int 0, .ref xq, .int 0, .ref xr, .ref xh, .ref xp, .ref xs_, .ref xa, .ref xm])), (xw, .inr (9, [.ref tnodes, .ref tpasses, .ref tjars, .ref torders, .ref tfeasts, .ref tway, .int (-1), .int 0, .int 0, .int 0])), (tnodes, .inr (6, [.int 4, .ref tnodesA, .int 0]))]) (va_runS (As := [.int p5, .int 15]) (rest := []) ⟨hx, hb, hml, hown, hts⟩ (mX10_within l dC dI kA _ p5 15) (va_cwS 2 hts gX10_jar_X10_within rfl rfl rfl (by decide +kernel) ⟨(Nat.le_of_ble_eq_true rfl), (Nat.le_of_ble_eq_true rfl)⟩) ⟨zPc.blind, zPre hK (hP.sub [] rfl) (hD.sub [] (by decide) rfl)⟩ rfl rfl hl.1 rfl (lv_room (Nat.le_of_ble_eq_true rfl)) dX10_jar_22 ⟨(Nat.le_of_ble_eq_true rfl), (Nat.le_of_ble_eq_true rfl)⟩) hP hD hS hA [] [0, 1, 2] rfl rfl (by decide) (by decide) (fun r16 u14 H locs hw15 hP hD hS => ?_)
      obtain rfl := hw15
      have hP : va_P (dC, dI) vwCl [(x0, .inr (10, [.ref xw, .ref xl, .ref xi, .ref xt, .int 0, .ref xq, .int 0, .ref xr, .ref xh, .ref xp, .ref xs_, .ref xa, .ref xm])), (xw, .inr (9, [.ref tnodes, .ref tpasses, .ref tjars, .ref torders, .ref tfeasts, .ref tway, .int (-1), .int 0, .int 0, .int 0])), (tnodes, .inr (6, [.int 4, .ref tnodesA, .int 0]))] H := hP
      have hD : va_D A [(x0, .inr (10, [.ref xw, .ref xl, .ref xi, .ref xt, .int 0, .ref xq, .int 0, .ref xr, .ref xh, .ref xp, .ref xs_, .ref xa, .ref xm])), (xw, .inr (9, [.ref tnodes, .ref tpasses, .ref tjars, .ref torders, .ref tfeasts, .ref tway, .int (-1), .int 0, .int 0, .int 0])), (tnodes, .inr (6, [.int 4, .ref tnodesA, .int 0]))] := hD
      refine lv_if_eq (tgt := 32) hx hb dX10_jar_25 (by decide) (fun c_17 => ?_) (fun c_17 => ?_)
      · refine lv_iconst (v := 0) hx hb dX10_jar_32 (by decide) ?_
        refine lv_istore (lv' := [(6, .int 0), (0, .ref x0), (1, .int p1), (2, .int p2), (3, .int p3), (4, .int p4), (5, .int p5)]) hx hb dX10_jar_33 hl (by decide) rfl (fun ls hl => ?_)
        refine lv_iload hx hb dX10_jar_35 (lv_at hl 0 rfl) ?_
        refine lv_if_eq (tgt := 67) hx hb dX10_jar_37 (by decide) (fun _ => ?_) (fun c_18 => absurd (by decide) c_18)
        refine lv_iconst (v := (-1)) hx hb dX10_jar_67 (by decide) ?_
        refine lv_istore (lv' := [(7, .int (-1)), (6, .int 0), (0, .ref x0), (1, .int p1), (2, .int p2), (3, .int p3), (4, .int p4), (5, .int p5)]) hx hb dX10_jar_68 hl (by decide) rfl (fun ls hl => ?_)
        refine lv_iload hx hb dX10_jar_70 (lv_at hl 0 rfl) ?_
        refine lv_iconst (v := (-1)) hx hb dX10_jar_72 (by decide) ?_
        refine lv_icmp_eq (tgt := 161) hx hb dX10_jar_73 (by decide) (fun _ => ?_) (fun c_19 => absurd (by decide) c_19)
        refine lv_iload hx hb dX10_jar_161 (lv_at hl 0 rfl) ?_
        have hP9 := hP.sub (ws' := []) [] rfl
        have hD9 := hD.sub (ws' := []) [] (by decide) rfl
        refine W.widen (k := 0) (n := 0) (Nat.le_of_ble_eq_true rfl) (Nat.le_of_ble_eq_true rfl) ?_
        exact W.iret (v := (-1)) hx hb hr (fun t ht hW => ⟨⟨(-1), (), rfl, rfl, by rw [ht]; exact hP9, hD9⟩, hS.F ht⟩) hS.2.2 dX10_jar_163
      · refine lv_iconst (v := 1) hx hb dX10_jar_28 (by decide) ?_
        refine lv_goto (tgt := 33) hx hb dX10_jar_29 (by decide) ?_
        refine lv_istore (lv' := [(6, .int 1), (0, .ref x0), (1, .int p1), (2, .int p2), (3, .int p3), (4, .int p4), (5, .int p5)]) hx hb dX10_jar_33 hl (by decide) rfl (fun ls hl => ?_)
        refine lv_iload hx hb dX10_jar_35 (lv_at hl 0 rfl) ?_
        refine lv_if_eq (tgt := 67) hx hb dX10_jar_37 (by decide) (fun c_20 => absurd c_20 (by decide)) (fun _ => ?_)
        refine lv_aload_n hx hb dX10_jar_40 rfl (lv_at hl 1 rfl) ?_
        refine va_get (D := (dC, dI)) (ci := 10) (v := .ref xw) (C := RX10) (T := TX10) (N := 13) hx hb hts iX10_jar_X10 hown hK.1 hP 0 rfl rfl 0 (by decide) (kX10_jar_1 hts) (fun _ h9 => h9) rfl dX10_jar_41 ?_
        refine va_get (D := (dC, dI)) (ci := 9) (v := .ref tnodes) (C := RX9) (T := TX9) (N := 10) hx hb hts iX10_jar_X9 hown hK.1 hP 1 rfl rfl 0 (by decide) (kX10_jar_2 hts) (fun _ h9 => h9) rfl dX10_jar_44 ?_
        refine lv_iload_n hx hb dX10_jar_47 rfl (lv_at hl 2 rfl) ?_
        refine z_i (wr := [(x0, .inr (10, [.ref xw, .ref xl, .ref xi, .ref xt, .int 0, .ref xq, .int 0, .ref xr, .ref xh, .ref xp, .ref xs_, .ref xa, .ref xm])), (xw, .inr (9, [.ref tnodes, .ref tpasses, .ref tjars, .ref torders, .ref tfeasts, .ref tway, .int (-1), .int 0, .int 0, .int 0]))]) (va_runV (As := [.int p1]) (rest := []) ⟨hx, hb, hml, hown, hts⟩ (mX6_has l dC dI kA _ tnodes tnodesA 4 p1) (cwV 1 hts gX10_jar_X6_has rfl rfl rfl (by decide +kernel) ⟨(Nat.le_of_ble_eq_true rfl), (Nat.le_of_ble_eq_true rfl)⟩) ⟨zPc.blind, va_recv hK.1 hP (ci := 6) (q0 := 2) rfl rfl, zPre hK (hP.sub [2] rfl) (hD.sub [2] (by decide) rfl)⟩ rfl rfl hl.1 rfl (lv_room (Nat.le_of_ble_eq_true rfl)) dX10_jar_48 ⟨(Nat.le_of_ble_eq_true rfl), (Nat.le_of_ble_eq_true rfl)⟩) hP hD hS hA [2] [0, 1] rfl rfl (by decide) (by decide) (fun r23 u21 H locs hw22 hP hD hS => ?_)
        obtain rfl := hw22
        have hP : va_P (dC, dI) vwCl [(x0, .inr (10, [.ref xw, .ref xl, .ref xi, .ref xt, .int 0, .ref xq, .int 0, .ref xr, .ref xh, .ref xp, .ref xs_, .ref xa, .ref xm])), (xw, .inr (9, [.ref tnodes, .ref tpasses, .ref tjars, .ref torders, .ref tfeasts, .ref tway, .int (-1), .int 0, .int 0, .int 0])), (tnodes, .inr (6, [.int 4, .ref tnodesA, .int 0]))] H := hP
        have hD : va_D A [(x0, .inr (10, [.ref xw, .ref xl, .ref xi, .ref xt, .int 0, .ref xq, .int 0, .ref xr, .ref xh, .ref xp, .ref xs_, .ref xa, .ref xm])), (xw, .inr (9, [.ref tnodes, .ref tpasses, .ref tjars, .ref torders, .ref tfeasts, .ref tway, .int (-1), .int 0, .int 0, .int 0])), (tnodes, .inr (6, [.int 4, .ref tnodesA, .int 0]))] := hD
        refine lv_if_eq (tgt := 67) hx hb dX10_jar_51 (by decide) (fun _ => ?_) (fun c_24 => absurd (by decide) c_24)
        refine lv_iconst (v := (-1)) hx hb dX10_jar_67 (by decide) ?_
        refine lv_istore (lv' := [(7, .int (-1)), (6, .int 1), (0, .ref x0), (1, .int p1), (2, .int p2), (3, .int p3), (4, .int p4), (5, .int p5)]) hx hb dX10_jar_68 hl (by decide) rfl (fun ls hl => ?_)
        refine lv_iload hx hb dX10_jar_70 (lv_at hl 0 rfl) ?_
        refine lv_iconst (v := (-1)) hx hb dX10_jar_72 (by decide) ?_
        refine lv_icmp_eq (tgt := 161) hx hb dX10_jar_73 (by decide) (fun _ => ?_) (fun c_25 => absurd (by decide) c_25)
        refine lv_iload hx hb dX10_jar_161 (lv_at hl 0 rfl) ?_
        have hP9 := hP.sub (ws' := []) [] rfl
        have hD9 := hD.sub (ws' := []) [] (by decide) rfl
        refine W.widen (k := 0) (n := 0) (Nat.le_of_ble_eq_true rfl) (Nat.le_of_ble_eq_true rfl) ?_
        exact W.iret (v := (-1)) hx hb hr (fun t ht hW => ⟨⟨(-1), (), rfl, rfl, by rw [ht]; exact hP9, hD9⟩, hS.F ht⟩) hS.2.2 dX10_jar_163
set_option maxHeartbeats 4000000 in
set_option maxRecDepth 100000 in
theorem mX10_month (l : Launch) (dC : Nat → ClassId) (dI : Nat → Nat → Nat) (kA : Nat → ClassId) (sz : Nat) (x0 : Nat) (xw : Nat) (xl : Nat) (xi : Nat) (xt : Nat) (xq : Nat) (xr : Nat) (xh : Nat) (xp : Nat) (xs_ : Nat) (xa : Nat) (xm : Nat) (tnodes : Nat) (tpasses : Nat) (tjars : Nat) (torders : Nat) (tfeasts : Nat) (tway : Nat) (p1 : Int32)  : Met l yX10_month wsX10_month ({ frames := 1, cells := 0, slots := 0, locals := 21 }) (zPc dC dI kA sz [.ref x0, .int p1] [(x0, .inr (10, [.ref xw, .ref xl, .ref xi, .ref xt, .int 0, .ref xq, .int 0, .ref xr, .ref xh, .ref xp, .ref xs_, .ref xa, .ref xm])), (xw, .inr (9, [.ref tnodes, .ref tpasses, .ref tjars, .ref torders, .ref tfeasts, .ref tway, .int (-1), .int 0, .int 0, .int 0]))]) (va_Qi (fun (r : Int32) (u : Unit) => r = (sp_mo p1)) (zB dC dI (va_A [(x0, .inr (10, [.ref xw, .ref xl, .ref xi, .ref xt, .int 0, .ref xq, .int 0, .ref xr, .ref xh, .ref xp, .ref xs_, .ref xa, .ref xm])), (xw, .inr (9, [.ref tnodes, .ref tpasses, .ref tjars, .ref torders, .ref tfeasts, .ref tway, .int (-1), .int 0, .int 0, .int 0]))] sz) (fun (u : Unit) => [])) (va_A [(x0, .inr (10, [.ref xw, .ref xl, .ref xi, .ref xt, .int 0, .ref xq, .int 0, .ref xr, .ref xh, .ref xp, .ref xs_, .ref xa, .ref xm])), (xw, .inr (9, [.ref tnodes, .ref tpasses, .ref tjars, .ref torders, .ref tfeasts, .ref tway, .int (-1), .int 0, .int 0, .int 0]))] sz)) 0 0 (va_A [(x0, .inr (10, [.ref xw, .ref xl, .ref xi, .ref xt, .int 0, .ref xq, .int 0, .ref xr, .ref xh, .ref xp, .ref xs_, .ref xa, .ref xm])), (xw, .inr (9, [.ref tnodes, .ref tpasses, .ref tjars, .ref torders, .ref tfeasts, .ref tway, .int (-1), .int 0, .int 0, .int 0]))] sz) := by
  refine Met.ofW (cc := cX10_month) (maxL := 3) (ret := (some .int)) (by decide) rfl ?_
  intro p e s m args below meth c s₁ B hml hv
  obtain ⟨rfl, hsz, hP, hK, hD0⟩ := hv
  have hx := B.exec
  have hb := B.bytes
  have hr := B.returns
  have hts := atoms_spec (ws := wsX10_month) B.pre
  have hown : s.vm.findClass RX10 = some m.cls := findClass_of_methodNamed B.named
  have hlocks := B.notSynchronized
  subst hsz
  have hD := hD0.self (sz := s.heap.size)
  generalize hAe : va_A [(x0, .inr (10, [.ref xw, .ref xl, .ref xi, .ref xt, .int 0, .ref xq, .int 0, .ref xr, .ref xh, .ref xp, .ref xs_, .ref xa, .ref xm])), (xw, .inr (9, [.ref tnodes, .ref tpasses, .ref tjars, .ref torders, .ref tfeasts, .ref tway, .int (-1), .int 0, .int 0, .int 0]))] s.heap.size = A at hD ⊢
  have hA : ∀ q : Nat, s.heap.size ≤ q → A q := fun q h => by rw [← hAe]; exact Or.inr h
  have hS : va_S A s.heap s.heap [] := va_S.rf
  have hP : va_P (dC, dI) vwCl [(x0, .inr (10, [.ref xw, .ref xl, .ref xi, .ref xt, .int 0, .ref xq, .int 0, .ref xr, .ref xh, .ref xp, .ref xs_, .ref xa, .ref xm])), (xw, .inr (9, [.ref tnodes, .ref tpasses, .ref tjars, .ref torders, .ref tfeasts, .ref tway, .int (-1), .int 0, .int 0, .int 0]))] s.heap := hP
  have hl := lv_entry ([.ref x0, .int p1]) (n := 3) (Nat.le_of_ble_eq_true rfl)
  rw [lg_entry_eq]
  generalize (lg_sl ([.ref x0, .int p1]) ++ List.replicate (3 - (lg_sl ([.ref x0, .int p1])).length) Slot.unset).toArray = ls at hl ⊢
  have hl : lv_has ls 3 [(0, .ref x0), (1, .int p1)] := hl
  refine lv_iload_n hx hb dX10_month_0 rfl (lv_at hl 1 rfl) ?_
  refine lv_bipush (v := 11) hx hb dX10_month_1 (by decide) ?_
  refine z_i (wr := [(x0, .inr (10, [.ref xw, .ref xl, .ref xi, .ref xt, .int 0, .ref xq, .int 0, .ref xr, .ref xh, .ref xp, .ref xs_, .ref xa, .ref xm])), (xw, .inr (9, [.ref tnodes, .ref tpasses, .ref tjars, .ref torders, .ref tfeasts, .ref tway, .int (-1), .int 0, .int 0, .int 0]))]) (va_runS (As := [.int p1, .int 11]) (rest := []) ⟨hx, hb, hml, hown, hts⟩ (mX10_within l dC dI kA _ p1 11) (va_cwS 2 hts gX10_month_X10_within rfl rfl rfl (by decide +kernel) ⟨(Nat.le_of_ble_eq_true rfl), (Nat.le_of_ble_eq_true rfl)⟩) ⟨zPc.blind, zPre hK (hP.sub [] rfl) (hD.sub [] (by decide) rfl)⟩ rfl rfl hl.1 rfl (lv_room (Nat.le_of_ble_eq_true rfl)) dX10_month_3 ⟨(Nat.le_of_ble_eq_true rfl), (Nat.le_of_ble_eq_true rfl)⟩) hP hD hS hA [] [0, 1] rfl rfl (by decide) (by decide) (fun r3 u1 H locs hw2 hP hD hS => ?_)
  obtain rfl := hw2
  have hP : va_P (dC, dI) vwCl [(x0, .inr (10, [.ref xw, .ref xl, .ref xi, .ref xt, .int 0, .ref xq, .int 0, .ref xr, .ref xh, .ref xp, .ref xs_, .ref xa, .ref xm])), (xw, .inr (9, [.ref tnodes, .ref tpasses, .ref tjars, .ref torders, .ref tfeasts, .ref tway, .int (-1), .int 0, .int 0, .int 0]))] H := hP
  have hD : va_D A [(x0, .inr (10, [.ref xw, .ref xl, .ref xi, .ref xt, .int 0, .ref xq, .int 0, .ref xr, .ref xh, .ref xp, .ref xs_, .ref xa, .ref xm])), (xw, .inr (9, [.ref tnodes, .ref tpasses, .ref tjars, .ref torders, .ref tfeasts, .ref tway, .int (-1), .int 0, .int 0, .int 0]))] := hD
  refine lv_if_ne (tgt := 11) hx hb dX10_month_6 (by decide) (fun c_4 => ?_) (fun c_4 => ?_)
  · refine lv_aload_n hx hb dX10_month_11 rfl (lv_at hl 0 rfl) ?_
    refine va_get (D := (dC, dI)) (ci := 10) (v := .ref xw) (C := RX10) (T := TX10) (N := 13) hx hb hts iX10_month_X10 hown hK.1 hP 0 rfl rfl 0 (by decide) (kX10_month_1 hts) (fun _ h9 => h9) rfl dX10_month_12 ?_
    refine va_get (D := (dC, dI)) (ci := 9) (v := .int 0) (C := RX9) (T := TX9) (N := 10) hx hb hts iX10_month_X9 hown hK.1 hP 1 rfl rfl 8 (by decide) (kX10_month_2 hts) (fun _ h9 => h9) rfl dX10_month_15 ?_
    refine lv_istore_n (lv' := [(2, .int 0), (0, .ref x0), (1, .int p1)]) hx hb dX10_month_18 rfl hl (by decide) rfl (fun ls hl => ?_)
    refine lv_aload_n hx hb dX10_month_19 rfl (lv_at hl 1 rfl) ?_
    refine va_get (D := (dC, dI)) (ci := 10) (v := .ref xw) (C := RX10) (T := TX10) (N := 13) hx hb hts iX10_month_X10 hown hK.1 hP 0 rfl rfl 0 (by decide) (kX10_month_1 hts) (fun _ h9 => h9) rfl dX10_month_20 ?_
    refine lv_iload_n hx hb dX10_month_23 rfl (lv_at hl 2 rfl) ?_
    refine va_put (D := (dC, dI)) (ci := 9) (v := .int p1) (ty := .int) (C := RX9) (T := TX9) (N := 10) hx hb hts iX10_month_X9 tyX9 tyX9_ok nmX9 hown hK.1 hP hD hS 1 rfl rfl 8 (by decide) (kX10_month_2 hts) (fun _ h9 => h9) rfl (by decide +kernel) rfl rfl (Nat.le_of_ble_eq_true rfl) dX10_month_24 (fun H locs hP hD hS => ?_)
    have hP : va_P (dC, dI) vwCl [(x0, .inr (10, [.ref xw, .ref xl, .ref xi, .ref xt, .int 0, .ref xq, .int 0, .ref xr, .ref xh, .ref xp, .ref xs_, .ref xa, .ref xm])), (xw, .inr (9, [.ref tnodes, .ref tpasses, .ref tjars, .ref torders, .ref tfeasts, .ref tway, .int (-1), .int 0, .int p1, .int 0]))] H := hP
    have hD : va_D A [(x0, .inr (10, [.ref xw, .ref xl, .ref xi, .ref xt, .int 0, .ref xq, .int 0, .ref xr, .ref xh, .ref xp, .ref xs_, .ref xa, .ref xm])), (xw, .inr (9, [.ref tnodes, .ref tpasses, .ref tjars, .ref torders, .ref tfeasts, .ref tway, .int (-1), .int 0, .int p1, .int 0]))] := hD
    refine lv_iload_n hx hb dX10_month_27 rfl (lv_at hl 0 rfl) ?_
    have hP9 := hP.sub (ws' := []) [] rfl
    have hD9 := hD.sub (ws' := []) [] (by decide) rfl
    refine W.widen (k := 0) (n := 0) (Nat.le_of_ble_eq_true rfl) (Nat.le_of_ble_eq_true rfl) ?_
    exact W.iret (v := 0) hx hb hr (fun t ht hW => ⟨⟨0, (), rfl, (by simp [sp_mo, c_4]), by rw [ht]; exact hP9, hD9⟩, hS.F ht⟩) hS.2.2 dX10_month_28
  · refine lv_iconst (v := (-1)) hx hb dX10_month_9 (by decide) ?_
    have hP9 := hP.sub (ws' := []) [] rfl
    have hD9 := hD.sub (ws' := []) [] (by decide) rfl
    refine W.widen (k := 0) (n := 0) (Nat.le_of_ble_eq_true rfl) (Nat.le_of_ble_eq_true rfl) ?_
    exact W.iret (v := (-1)) hx hb hr (fun t ht hW => ⟨⟨(-1), (), rfl, (by simp [sp_mo, c_4]), by rw [ht]; exact hP9, hD9⟩, hS.F ht⟩) hS.2.2 dX10_month_10
set_option maxHeartbeats 4000000 in
set_option maxRecDepth 100000 in
theorem mX10_seed (l : Launch) (dC : Nat → ClassId) (dI : Nat → Nat → Nat) (kA : Nat → ClassId) (sz : Nat) (x0 : Nat) (xw : Nat) (xl : Nat) (xi : Nat) (xt : Nat) (xq : Nat) (xr : Nat) (xh : Nat) (xp : Nat) (xs_ : Nat) (xa : Nat) (xm : Nat) (tnodes : Nat) (tpasses : Nat) (tjars : Nat) (torders : Nat) (tfeasts : Nat) (tway : Nat) (p1 : Int32)  : Met l yX10_seed wsX10_seed ({ frames := 0, cells := 0, slots := 0, locals := 0 }) (zPc dC dI kA sz [.ref x0, .int p1] [(x0, .inr (10, [.ref xw, .ref xl, .ref xi, .ref xt, .int 0, .ref xq, .int 0, .ref xr, .ref xh, .ref xp, .ref xs_, .ref xa, .ref xm])), (xw, .inr (9, [.ref tnodes, .ref tpasses, .ref tjars, .ref torders, .ref tfeasts, .ref tway, .int (-1), .int 0, .int 0, .int 0]))]) (va_Qi (fun (r : Int32) (u : Unit) => r = (sp_se p1)) (zB dC dI (va_A [(x0, .inr (10, [.ref xw, .ref xl, .ref xi, .ref xt, .int 0, .ref xq, .int 0, .ref xr, .ref xh, .ref xp, .ref xs_, .ref xa, .ref xm])), (xw, .inr (9, [.ref tnodes, .ref tpasses, .ref tjars, .ref torders, .ref tfeasts, .ref tway, .int (-1), .int 0, .int 0, .int 0]))] sz) (fun (u : Unit) => [])) (va_A [(x0, .inr (10, [.ref xw, .ref xl, .ref xi, .ref xt, .int 0, .ref xq, .int 0, .ref xr, .ref xh, .ref xp, .ref xs_, .ref xa, .ref xm])), (xw, .inr (9, [.ref tnodes, .ref tpasses, .ref tjars, .ref torders, .ref tfeasts, .ref tway, .int (-1), .int 0, .int 0, .int 0]))] sz)) 0 0 (va_A [(x0, .inr (10, [.ref xw, .ref xl, .ref xi, .ref xt, .int 0, .ref xq, .int 0, .ref xr, .ref xh, .ref xp, .ref xs_, .ref xa, .ref xm])), (xw, .inr (9, [.ref tnodes, .ref tpasses, .ref tjars, .ref torders, .ref tfeasts, .ref tway, .int (-1), .int 0, .int 0, .int 0]))] sz) := by
  refine Met.ofW (cc := cX10_seed) (maxL := 3) (ret := (some .int)) (by decide) rfl ?_
  intro p e s m args below meth c s₁ B hml hv
  obtain ⟨rfl, hsz, hP, hK, hD0⟩ := hv
  have hx := B.exec
  have hb := B.bytes
  have hr := B.returns
  have hts := atoms_spec (ws := wsX10_seed) B.pre
  have hown : s.vm.findClass RX10 = some m.cls := findClass_of_methodNamed B.named
  have hlocks := B.notSynchronized
  subst hsz
  have hD := hD0.self (sz := s.heap.size)
  generalize hAe : va_A [(x0, .inr (10, [.ref xw, .ref xl, .ref xi, .ref xt, .int 0, .ref xq, .int 0, .ref xr, .ref xh, .ref xp, .ref xs_, .ref xa, .ref xm])), (xw, .inr (9, [.ref tnodes, .ref tpasses, .ref tjars, .ref torders, .ref tfeasts, .ref tway, .int (-1), .int 0, .int 0, .int 0]))] s.heap.size = A at hD ⊢
  have hA : ∀ q : Nat, s.heap.size ≤ q → A q := fun q h => by rw [← hAe]; exact Or.inr h
  have hS : va_S A s.heap s.heap [] := va_S.rf
  have hP : va_P (dC, dI) vwCl [(x0, .inr (10, [.ref xw, .ref xl, .ref xi, .ref xt, .int 0, .ref xq, .int 0, .ref xr, .ref xh, .ref xp, .ref xs_, .ref xa, .ref xm])), (xw, .inr (9, [.ref tnodes, .ref tpasses, .ref tjars, .ref torders, .ref tfeasts, .ref tway, .int (-1), .int 0, .int 0, .int 0]))] s.heap := hP
  have hl := lv_entry ([.ref x0, .int p1]) (n := 3) (Nat.le_of_ble_eq_true rfl)
  rw [lg_entry_eq]
  generalize (lg_sl ([.ref x0, .int p1]) ++ List.replicate (3 - (lg_sl ([.ref x0, .int p1])).length) Slot.unset).toArray = ls at hl ⊢
  have hl : lv_has ls 3 [(0, .ref x0), (1, .int p1)] := hl
  refine lv_iload_n hx hb dX10_seed_0 rfl (lv_at hl 1 rfl) ?_
  refine lv_if_ge (tgt := 6) hx hb dX10_seed_1 (by decide) (fun c_1 => ?_) (fun c_1 => ?_)
  · refine lv_aload_n hx hb dX10_seed_6 rfl (lv_at hl 0 rfl) ?_
    refine va_get (D := (dC, dI)) (ci := 10) (v := .ref xw) (C := RX10) (T := TX10) (N := 13) hx hb hts iX10_seed_X10 hown hK.1 hP 0 rfl rfl 0 (by decide) (kX10_seed_1 hts) (fun _ h9 => h9) rfl dX10_seed_7 ?_
    refine va_get (D := (dC, dI)) (ci := 9) (v := .int 0) (C := RX9) (T := TX9) (N := 10) hx hb hts iX10_seed_X9 hown hK.1 hP 1 rfl rfl 9 (by decide) (kX10_seed_2 hts) (fun _ h9 => h9) rfl dX10_seed_10 ?_
    refine lv_istore_n (lv' := [(2, .int 0), (0, .ref x0), (1, .int p1)]) hx hb dX10_seed_13 rfl hl (by decide) rfl (fun ls hl => ?_)
    refine lv_aload_n hx hb dX10_seed_14 rfl (lv_at hl 1 rfl) ?_
    refine va_get (D := (dC, dI)) (ci := 10) (v := .ref xw) (C := RX10) (T := TX10) (N := 13) hx hb hts iX10_seed_X10 hown hK.1 hP 0 rfl rfl 0 (by decide) (kX10_seed_1 hts) (fun _ h9 => h9) rfl dX10_seed_15 ?_
    refine lv_iload_n hx hb dX10_seed_18 rfl (lv_at hl 2 rfl) ?_
    refine va_put (D := (dC, dI)) (ci := 9) (v := .int p1) (ty := .int) (C := RX9) (T := TX9) (N := 10) hx hb hts iX10_seed_X9 tyX9 tyX9_ok nmX9 hown hK.1 hP hD hS 1 rfl rfl 9 (by decide) (kX10_seed_2 hts) (fun _ h9 => h9) rfl (by decide +kernel) rfl rfl (Nat.le_of_ble_eq_true rfl) dX10_seed_19 (fun H locs hP hD hS => ?_)
    have hP : va_P (dC, dI) vwCl [(x0, .inr (10, [.ref xw, .ref xl, .ref xi, .ref xt, .int 0, .ref xq, .int 0, .ref xr, .ref xh, .ref xp, .ref xs_, .ref xa, .ref xm])), (xw, .inr (9, [.ref tnodes, .ref tpasses, .ref tjars, .ref torders, .ref tfeasts, .ref tway, .int (-1), .int 0, .int 0, .int p1]))] H := hP
    have hD : va_D A [(x0, .inr (10, [.ref xw, .ref xl, .ref xi, .ref xt, .int 0, .ref xq, .int 0, .ref xr, .ref xh, .ref xp, .ref xs_, .ref xa, .ref xm])), (xw, .inr (9, [.ref tnodes, .ref tpasses, .ref tjars, .ref torders, .ref tfeasts, .ref tway, .int (-1), .int 0, .int 0, .int p1]))] := hD
    refine lv_iload_n hx hb dX10_seed_22 rfl (lv_at hl 0 rfl) ?_
    have hP9 := hP.sub (ws' := []) [] rfl
    have hD9 := hD.sub (ws' := []) [] (by decide) rfl
    refine W.widen (k := 0) (n := 0) (Nat.le_of_ble_eq_true rfl) (Nat.le_of_ble_eq_true rfl) ?_
    exact W.iret (v := 0) hx hb hr (fun t ht hW => ⟨⟨0, (), rfl, (by simp [sp_se, c_1]), by rw [ht]; exact hP9, hD9⟩, hS.F ht⟩) hS.2.2 dX10_seed_23
  · refine lv_iconst (v := (-1)) hx hb dX10_seed_4 (by decide) ?_
    have hP9 := hP.sub (ws' := []) [] rfl
    have hD9 := hD.sub (ws' := []) [] (by decide) rfl
    refine W.widen (k := 0) (n := 0) (Nat.le_of_ble_eq_true rfl) (Nat.le_of_ble_eq_true rfl) ?_
    exact W.iret (v := (-1)) hx hb hr (fun t ht hW => ⟨⟨(-1), (), rfl, (by simp [sp_se, c_1]), by rw [ht]; exact hP9, hD9⟩, hS.F ht⟩) hS.2.2 dX10_seed_5
set_option maxHeartbeats 4000000 in
set_option maxRecDepth 100000 in
theorem mX10_feed (l : Launch) (dC : Nat → ClassId) (dI : Nat → Nat → Nat) (kA : Nat → ClassId) (sz : Nat) (x0 : Nat) (xw : Nat) (xl : Nat) (xi : Nat) (xt : Nat) (xq : Nat) (xr : Nat) (xh : Nat) (xp : Nat) (xs_ : Nat) (xa : Nat) (xm : Nat) (p1 : Int32) (p2 : Int32) (p3 : Int32) (p4 : Int32) (p5 : Int32)  : Met l yX10_feed wsX10_feed ({ frames := 1, cells := 0, slots := 0, locals := 22 }) (zPc dC dI kA sz [.ref x0, .int p1, .int p2, .int p3, .int p4, .int p5] [(x0, .inr (10, [.ref xw, .ref xl, .ref xi, .ref xt, .int 0, .ref xq, .int 0, .ref xr, .ref xh, .ref xp, .ref xs_, .ref xa, .ref xm])), (xt, .inl (kA 0, 400, .inl (fun _ => 0)))]) (va_Qi (fun (r : Int32) (u : Unit) => r = 20) (zB dC dI (va_A [(x0, .inr (10, [.ref xw, .ref xl, .ref xi, .ref xt, .int 0, .ref xq, .int 0, .ref xr, .ref xh, .ref xp, .ref xs_, .ref xa, .ref xm])), (xt, .inl (kA 0, 400, .inl (fun _ => 0)))] sz) (fun (u : Unit) => [])) (va_A [(x0, .inr (10, [.ref xw, .ref xl, .ref xi, .ref xt, .int 0, .ref xq, .int 0, .ref xr, .ref xh, .ref xp, .ref xs_, .ref xa, .ref xm])), (xt, .inl (kA 0, 400, .inl (fun _ => 0)))] sz)) 0 0 (va_A [(x0, .inr (10, [.ref xw, .ref xl, .ref xi, .ref xt, .int 0, .ref xq, .int 0, .ref xr, .ref xh, .ref xp, .ref xs_, .ref xa, .ref xm])), (xt, .inl (kA 0, 400, .inl (fun _ => 0)))] sz) := by
  refine Met.ofW (cc := cX10_feed) (maxL := 6) (ret := (some .int)) (by decide) rfl ?_
  intro p e s m args below meth c s₁ B hml hv
  obtain ⟨rfl, hsz, hP, hK, hD0⟩ := hv
  have hx := B.exec
  have hb := B.bytes
  have hr := B.returns
  have hts := atoms_spec (ws := wsX10_feed) B.pre
  have hown : s.vm.findClass RX10 = some m.cls := findClass_of_methodNamed B.named
  have hlocks := B.notSynchronized
  subst hsz
  have hD := hD0.self (sz := s.heap.size)
  generalize hAe : va_A [(x0, .inr (10, [.ref xw, .ref xl, .ref xi, .ref xt, .int 0, .ref xq, .int 0, .ref xr, .ref xh, .ref xp, .ref xs_, .ref xa, .ref xm])), (xt, .inl (kA 0, 400, .inl (fun _ => 0)))] s.heap.size = A at hD ⊢
  have hA : ∀ q : Nat, s.heap.size ≤ q → A q := fun q h => by rw [← hAe]; exact Or.inr h
  have hS : va_S A s.heap s.heap [] := va_S.rf
  have hP : va_P (dC, dI) vwCl [(x0, .inr (10, [.ref xw, .ref xl, .ref xi, .ref xt, .int 0, .ref xq, .int 0, .ref xr, .ref xh, .ref xp, .ref xs_, .ref xa, .ref xm])), (xt, .inl (kA 0, 400, .inl (fun _ => 0)))] s.heap := hP
  have hl := lv_entry ([.ref x0, .int p1, .int p2, .int p3, .int p4, .int p5]) (n := 6) (Nat.le_of_ble_eq_true rfl)
  rw [lg_entry_eq]
  generalize (lg_sl ([.ref x0, .int p1, .int p2, .int p3, .int p4, .int p5]) ++ List.replicate (6 - (lg_sl ([.ref x0, .int p1, .int p2, .int p3, .int p4, .int p5])).length) Slot.unset).toArray = ls at hl ⊢
  have hl : lv_has ls 6 [(0, .ref x0), (1, .int p1), (2, .int p2), (3, .int p3), (4, .int p4), (5, .int p5)] := hl
  refine lv_aload_n hx hb dX10_feed_0 rfl (lv_at hl 0 rfl) ?_
  refine va_get (D := (dC, dI)) (ci := 10) (v := .int 0) (C := RX10) (T := TX10) (N := 13) hx hb hts iX10_feed_X10 hown hK.1 hP 0 rfl rfl 4 (by decide) (kX10_feed_1 hts) (fun _ h9 => h9) rfl dX10_feed_1 ?_
  refine lv_bipush (v := 20) hx hb dX10_feed_4 (by decide) ?_
  refine lv_iadd hx hb dX10_feed_6 ?_
  refine zi 20 (by decide) ?_
  refine lv_sipush (v := 400) hx hb dX10_feed_7 (by decide) ?_
  refine lv_icmp_le (tgt := 15) hx hb dX10_feed_10 (by decide) (fun _ => ?_) (fun c_1 => absurd (by decide) c_1)
  refine lv_aload_n hx hb dX10_feed_15 rfl (lv_at hl 0 rfl) ?_
  refine lv_iload_n hx hb dX10_feed_16 rfl (lv_at hl 1 rfl) ?_
  refine z_v (wr := []) (va_runV (As := [.int p1]) (rest := []) ⟨hx, hb, hml, hown, hts⟩ (mX10_writeBytes_0 l dC dI kA _ x0 xw xl xi xt xq xr xh xp xs_ xa xm (fun _ => 0) p1) (cwV 1 hts gX10_feed_X10_writeBytes rfl rfl rfl (by decide +kernel) ⟨(Nat.le_of_ble_eq_true rfl), (Nat.le_of_ble_eq_true rfl)⟩) ⟨zPc.blind, va_recv hK.1 hP (ci := 10) (q0 := 0) rfl rfl, zPre hK (hP.sub [0, 1] rfl) (hD.sub [0, 1] (by decide) rfl)⟩ rfl rfl hl.1 rfl (lv_room (Nat.le_of_ble_eq_true rfl)) dX10_feed_17 ⟨(Nat.le_of_ble_eq_true rfl), (Nat.le_of_ble_eq_true rfl)⟩) hP hD hS hA [0, 1] [] rfl rfl (by decide) (by decide) (fun u2 H locs hw3 hP hD hS => ?_)
  obtain ⟨g_5, rfl⟩ : ∃ z, z = u2 := ⟨_, rfl⟩
  have hP : va_P (dC, dI) vwCl [(x0, .inr (10, [.ref xw, .ref xl, .ref xi, .ref xt, .int 4, .ref xq, .int 0, .ref xr, .ref xh, .ref xp, .ref xs_, .ref xa, .ref xm])), (xt, .inl (kA 0, 400, .inl g_5))] H := hP
  have hD : va_D A [(x0, .inr (10, [.ref xw, .ref xl, .ref xi, .ref xt, .int 4, .ref xq, .int 0, .ref xr, .ref xh, .ref xp, .ref xs_, .ref xa, .ref xm])), (xt, .inl (kA 0, 400, .inl g_5))] := hD
  refine lv_aload_n hx hb dX10_feed_20 rfl (lv_at hl 0 rfl) ?_
  refine lv_iload_n hx hb dX10_feed_21 rfl (lv_at hl 2 rfl) ?_
  refine z_v (wr := []) (va_runV (As := [.int p2]) (rest := []) ⟨hx, hb, hml, hown, hts⟩ (mX10_writeBytes_4 l dC dI kA _ x0 xw xl xi xt xq xr xh xp xs_ xa xm g_5 p2) (cwV 1 hts gX10_feed_X10_writeBytes rfl rfl rfl (by decide +kernel) ⟨(Nat.le_of_ble_eq_true rfl), (Nat.le_of_ble_eq_true rfl)⟩) ⟨zPc.blind, va_recv hK.1 hP (ci := 10) (q0 := 0) rfl rfl, zPre hK (hP.sub [0, 1] rfl) (hD.sub [0, 1] (by decide) rfl)⟩ rfl rfl hl.1 rfl (lv_room (Nat.le_of_ble_eq_true rfl)) dX10_feed_22 ⟨(Nat.le_of_ble_eq_true rfl), (Nat.le_of_ble_eq_true rfl)⟩) hP hD hS hA [0, 1] [] rfl rfl (by decide) (by decide) (fun u6 H locs hw7 hP hD hS => ?_)
  obtain ⟨g_9, rfl⟩ : ∃ z, z = u6 := ⟨_, rfl⟩
  have hP : va_P (dC, dI) vwCl [(x0, .inr (10, [.ref xw, .ref xl, .ref xi, .ref xt, .int 8, .ref xq, .int 0, .ref xr, .ref xh, .ref xp, .ref xs_, .ref xa, .ref xm])), (xt, .inl (kA 0, 400, .inl g_9))] H := hP
  have hD : va_D A [(x0, .inr (10, [.ref xw, .ref xl, .ref xi, .ref xt, .int 8, .ref xq, .int 0, .ref xr, .ref xh, .ref xp, .ref xs_, .ref xa, .ref xm])), (xt, .inl (kA 0, 400, .inl g_9))] := hD
  refine lv_aload_n hx hb dX10_feed_25 rfl (lv_at hl 0 rfl) ?_
  refine lv_iload_n hx hb dX10_feed_26 rfl (lv_at hl 3 rfl) ?_
  refine z_v (wr := []) (va_runV (As := [.int p3]) (rest := []) ⟨hx, hb, hml, hown, hts⟩ (mX10_writeBytes_8 l dC dI kA _ x0 xw xl xi xt xq xr xh xp xs_ xa xm g_9 p3) (cwV 1 hts gX10_feed_X10_writeBytes rfl rfl rfl (by decide +kernel) ⟨(Nat.le_of_ble_eq_true rfl), (Nat.le_of_ble_eq_true rfl)⟩) ⟨zPc.blind, va_recv hK.1 hP (ci := 10) (q0 := 0) rfl rfl, zPre hK (hP.sub [0, 1] rfl) (hD.sub [0, 1] (by decide) rfl)⟩ rfl rfl hl.1 rfl (lv_room (Nat.le_of_ble_eq_true rfl)) dX10_feed_27 ⟨(Nat.le_of_ble_eq_true rfl), (Nat.le_of_ble_eq_true rfl)⟩) hP hD hS hA [0, 1] [] rfl rfl (by decide) (by decide) (fun u10 H locs hw11 hP hD hS => ?_)
  obtain ⟨g_13, rfl⟩ : ∃ z, z = u10 := ⟨_, rfl⟩
  have hP : va_P (dC, dI) vwCl [(x0, .inr (10, [.ref xw, .ref xl, .ref xi, .ref xt, .int 12, .ref xq, .int 0, .ref xr, .ref xh, .ref xp, .ref xs_, .ref xa, .ref xm])), (xt, .inl (kA 0, 400, .inl g_13))] H := hP
  have hD : va_D A [(x0, .inr (10, [.ref xw, .ref xl, .ref xi, .ref xt, .int 12, .ref xq, .int 0, .ref xr, .ref xh, .ref xp, .ref xs_, .ref xa, .ref xm])), (xt, .inl (kA 0, 400, .inl g_13))] := hD
  refine lv_aload_n hx hb dX10_feed_30 rfl (lv_at hl 0 rfl) ?_
  refine lv_iload hx hb dX10_feed_31 (lv_at hl 4 rfl) ?_
  refine z_v (wr := []) (va_runV (As := [.int p4]) (rest := []) ⟨hx, hb, hml, hown, hts⟩ (mX10_writeBytes_12 l dC dI kA _ x0 xw xl xi xt xq xr xh xp xs_ xa xm g_13 p4) (cwV 1 hts gX10_feed_X10_writeBytes rfl rfl rfl (by decide +kernel) ⟨(Nat.le_of_ble_eq_true rfl), (Nat.le_of_ble_eq_true rfl)⟩) ⟨zPc.blind, va_recv hK.1 hP (ci := 10) (q0 := 0) rfl rfl, zPre hK (hP.sub [0, 1] rfl) (hD.sub [0, 1] (by decide) rfl)⟩ rfl rfl hl.1 rfl (lv_room (Nat.le_of_ble_eq_true rfl)) dX10_feed_33 ⟨(Nat.le_of_ble_eq_true rfl), (Nat.le_of_ble_eq_true rfl)⟩) hP hD hS hA [0, 1] [] rfl rfl (by decide) (by decide) (fun u14 H locs hw15 hP hD hS => ?_)
  obtain ⟨g_17, rfl⟩ : ∃ z, z = u14 := ⟨_, rfl⟩
  have hP : va_P (dC, dI) vwCl [(x0, .inr (10, [.ref xw, .ref xl, .ref xi, .ref xt, .int 16, .ref xq, .int 0, .ref xr, .ref xh, .ref xp, .ref xs_, .ref xa, .ref xm])), (xt, .inl (kA 0, 400, .inl g_17))] H := hP
  have hD : va_D A [(x0, .inr (10, [.ref xw, .ref xl, .ref xi, .ref xt, .int 16, .ref xq, .int 0, .ref xr, .ref xh, .ref xp, .ref xs_, .ref xa, .ref xm])), (xt, .inl (kA 0, 400, .inl g_17))] := hD
  refine lv_aload_n hx hb dX10_feed_36 rfl (lv_at hl 0 rfl) ?_
  refine lv_iload hx hb dX10_feed_37 (lv_at hl 5 rfl) ?_
  refine z_v (wr := []) (va_runV (As := [.int p5]) (rest := []) ⟨hx, hb, hml, hown, hts⟩ (mX10_writeBytes_16 l dC dI kA _ x0 xw xl xi xt xq xr xh xp xs_ xa xm g_17 p5) (cwV 1 hts gX10_feed_X10_writeBytes rfl rfl rfl (by decide +kernel) ⟨(Nat.le_of_ble_eq_true rfl), (Nat.le_of_ble_eq_true rfl)⟩) ⟨zPc.blind, va_recv hK.1 hP (ci := 10) (q0 := 0) rfl rfl, zPre hK (hP.sub [0, 1] rfl) (hD.sub [0, 1] (by decide) rfl)⟩ rfl rfl hl.1 rfl (lv_room (Nat.le_of_ble_eq_true rfl)) dX10_feed_39 ⟨(Nat.le_of_ble_eq_true rfl), (Nat.le_of_ble_eq_true rfl)⟩) hP hD hS hA [0, 1] [] rfl rfl (by decide) (by decide) (fun u18 H locs hw19 hP hD hS => ?_)
  obtain ⟨g_21, rfl⟩ : ∃ z, z = u18 := ⟨_, rfl⟩
  have hP : va_P (dC, dI) vwCl [(x0, .inr (10, [.ref xw, .ref xl, .ref xi, .ref xt, .int 20, .ref xq, .int 0, .ref xr, .ref xh, .ref xp, .ref xs_, .ref xa, .ref xm])), (xt, .inl (kA 0, 400, .inl g_21))] H := hP
  have hD : va_D A [(x0, .inr (10, [.ref xw, .ref xl, .ref xi, .ref xt, .int 20, .ref xq, .int 0, .ref xr, .ref xh, .ref xp, .ref xs_, .ref xa, .ref xm])), (xt, .inl (kA 0, 400, .inl g_21))] := hD
  refine lv_aload_n hx hb dX10_feed_42 rfl (lv_at hl 0 rfl) ?_
  refine va_get (D := (dC, dI)) (ci := 10) (v := .int 20) (C := RX10) (T := TX10) (N := 13) hx hb hts iX10_feed_X10 hown hK.1 hP 0 rfl rfl 4 (by decide) (kX10_feed_1 hts) (fun _ h9 => h9) rfl dX10_feed_43 ?_
  have hP9 := hP.sub (ws' := []) [] rfl
  have hD9 := hD.sub (ws' := []) [] (by decide) rfl
  refine W.widen (k := 0) (n := 0) (Nat.le_of_ble_eq_true rfl) (Nat.le_of_ble_eq_true rfl) ?_
  exact W.iret (v := 20) hx hb hr (fun t ht hW => ⟨⟨20, (), rfl, rfl, by rw [ht]; exact hP9, hD9⟩, hS.F ht⟩) hS.2.2 dX10_feed_46
set_option maxHeartbeats 4000000 in
set_option maxRecDepth 100000 in
theorem mX10_end (l : Launch) (dC : Nat → ClassId) (dI : Nat → Nat → Nat) (kA : Nat → ClassId) (sz : Nat) (x0 : Nat) (xw : Nat) (xl : Nat) (xi : Nat) (xt : Nat) (xq : Nat) (xr : Nat) (xh : Nat) (xp : Nat) (xs_ : Nat) (xa : Nat) (xm : Nat) (p1 : Int32)  : Met l yX10_end wsX10_end ({ frames := 1, cells := 0, slots := 0, locals := 21 }) (zPc dC dI kA sz [.ref x0, .int p1] [(x0, .inr (10, [.ref xw, .ref xl, .ref xi, .ref xt, .int 0, .ref xq, .int 0, .ref xr, .ref xh, .ref xp, .ref xs_, .ref xa, .ref xm]))]) (va_Qi (fun (r : Int32) (u : Unit) => r = (sp_en p1)) (zB dC dI (va_A [(x0, .inr (10, [.ref xw, .ref xl, .ref xi, .ref xt, .int 0, .ref xq, .int 0, .ref xr, .ref xh, .ref xp, .ref xs_, .ref xa, .ref xm]))] sz) (fun (u : Unit) => [])) (va_A [(x0, .inr (10, [.ref xw, .ref xl, .ref xi, .ref xt, .int 0, .ref xq, .int 0, .ref xr, .ref xh, .ref xp, .ref xs_, .ref xa, .ref xm]))] sz)) 0 0 (va_A [(x0, .inr (10, [.ref xw, .ref xl, .ref xi, .ref xt, .int 0, .ref xq, .int 0, .ref xr, .ref xh, .ref xp, .ref xs_, .ref xa, .ref xm]))] sz) := by
  refine Met.ofW (cc := cX10_end) (maxL := 2) (ret := (some .int)) (by decide) rfl ?_
  intro p e s m args below meth c s₁ B hml hv
  obtain ⟨rfl, hsz, hP, hK, hD0⟩ := hv
  have hx := B.exec
  have hb := B.bytes
  have hr := B.returns
  have hts := atoms_spec (ws := wsX10_end) B.pre
  have hown : s.vm.findClass RX10 = some m.cls := findClass_of_methodNamed B.named
  have hlocks := B.notSynchronized
  subst hsz
  have hD := hD0.self (sz := s.heap.size)
  generalize hAe : va_A [(x0, .inr (10, [.ref xw, .ref xl, .ref xi, .ref xt, .int 0, .ref xq, .int 0, .ref xr, .ref xh, .ref xp, .ref xs_, .ref xa, .ref xm]))] s.heap.size = A at hD ⊢
  have hA : ∀ q : Nat, s.heap.size ≤ q → A q := fun q h => by rw [← hAe]; exact Or.inr h
  have hS : va_S A s.heap s.heap [] := va_S.rf
  have hP : va_P (dC, dI) vwCl [(x0, .inr (10, [.ref xw, .ref xl, .ref xi, .ref xt, .int 0, .ref xq, .int 0, .ref xr, .ref xh, .ref xp, .ref xs_, .ref xa, .ref xm]))] s.heap := hP
  have hl := lv_entry ([.ref x0, .int p1]) (n := 2) (Nat.le_of_ble_eq_true rfl)
  rw [lg_entry_eq]
  generalize (lg_sl ([.ref x0, .int p1]) ++ List.replicate (2 - (lg_sl ([.ref x0, .int p1])).length) Slot.unset).toArray = ls at hl ⊢
  have hl : lv_has ls 2 [(0, .ref x0), (1, .int p1)] := hl
  refine lv_iload_n hx hb dX10_end_0 rfl (lv_at hl 1 rfl) ?_
  refine lv_aload_n hx hb dX10_end_1 rfl (lv_at hl 0 rfl) ?_
  refine va_get (D := (dC, dI)) (ci := 10) (v := .int 0) (C := RX10) (T := TX10) (N := 13) hx hb hts iX10_end_X10 hown hK.1 hP 0 rfl rfl 4 (by decide) (kX10_end_1 hts) (fun _ h9 => h9) rfl dX10_end_2 ?_
  refine z_i (wr := [(x0, .inr (10, [.ref xw, .ref xl, .ref xi, .ref xt, .int 0, .ref xq, .int 0, .ref xr, .ref xh, .ref xp, .ref xs_, .ref xa, .ref xm]))]) (va_runS (As := [.int p1, .int 0]) (rest := []) ⟨hx, hb, hml, hown, hts⟩ (mX10_within l dC dI kA _ p1 0) (va_cwS 2 hts gX10_end_X10_within rfl rfl rfl (by decide +kernel) ⟨(Nat.le_of_ble_eq_true rfl), (Nat.le_of_ble_eq_true rfl)⟩) ⟨zPc.blind, zPre hK (hP.sub [] rfl) (hD.sub [] (by decide) rfl)⟩ rfl rfl hl.1 rfl (lv_room (Nat.le_of_ble_eq_true rfl)) dX10_end_5 ⟨(Nat.le_of_ble_eq_true rfl), (Nat.le_of_ble_eq_true rfl)⟩) hP hD hS hA [] [0] rfl rfl (by decide) (by decide) (fun r3 u1 H locs hw2 hP hD hS => ?_)
  obtain rfl := hw2
  have hP : va_P (dC, dI) vwCl [(x0, .inr (10, [.ref xw, .ref xl, .ref xi, .ref xt, .int 0, .ref xq, .int 0, .ref xr, .ref xh, .ref xp, .ref xs_, .ref xa, .ref xm]))] H := hP
  have hD : va_D A [(x0, .inr (10, [.ref xw, .ref xl, .ref xi, .ref xt, .int 0, .ref xq, .int 0, .ref xr, .ref xh, .ref xp, .ref xs_, .ref xa, .ref xm]))] := hD
  refine lv_if_ne (tgt := 13) hx hb dX10_end_8 (by decide) (fun c_4 => ?_) (fun c_4 => ?_)
  · refine lv_aload_n hx hb dX10_end_13 rfl (lv_at hl 0 rfl) ?_
    refine lv_iload_n hx hb dX10_end_14 rfl (lv_at hl 1 rfl) ?_
    refine va_put (D := (dC, dI)) (ci := 10) (v := .int p1) (ty := .int) (C := RX10) (T := TX10) (N := 13) hx hb hts iX10_end_X10 tyX10 tyX10_ok nmX10 hown hK.1 hP hD hS 0 rfl rfl 4 (by decide) (kX10_end_1 hts) (fun _ h9 => h9) rfl (by decide +kernel) rfl rfl (Nat.le_of_ble_eq_true rfl) dX10_end_15 (fun H locs hP hD hS => ?_)
    have hP : va_P (dC, dI) vwCl [(x0, .inr (10, [.ref xw, .ref xl, .ref xi, .ref xt, .int p1, .ref xq, .int 0, .ref xr, .ref xh, .ref xp, .ref xs_, .ref xa, .ref xm]))] H := hP
    have hD : va_D A [(x0, .inr (10, [.ref xw, .ref xl, .ref xi, .ref xt, .int p1, .ref xq, .int 0, .ref xr, .ref xh, .ref xp, .ref xs_, .ref xa, .ref xm]))] := hD
    refine lv_iload_n hx hb dX10_end_18 rfl (lv_at hl 1 rfl) ?_
    have hP9 := hP.sub (ws' := []) [] rfl
    have hD9 := hD.sub (ws' := []) [] (by decide) rfl
    refine W.widen (k := 0) (n := 0) (Nat.le_of_ble_eq_true rfl) (Nat.le_of_ble_eq_true rfl) ?_
    exact W.iret (v := p1) hx hb hr (fun t ht hW => ⟨⟨p1, (), rfl, (by simp [sp_en, c_4]), by rw [ht]; exact hP9, hD9⟩, hS.F ht⟩) hS.2.2 dX10_end_19
  · refine lv_iconst (v := (-1)) hx hb dX10_end_11 (by decide) ?_
    have hP9 := hP.sub (ws' := []) [] rfl
    have hD9 := hD.sub (ws' := []) [] (by decide) rfl
    refine W.widen (k := 0) (n := 0) (Nat.le_of_ble_eq_true rfl) (Nat.le_of_ble_eq_true rfl) ?_
    exact W.iret (v := (-1)) hx hb hr (fun t ht hW => ⟨⟨(-1), (), rfl, (by simp [sp_en, c_4]), by rw [ht]; exact hP9, hD9⟩, hS.F ht⟩) hS.2.2 dX10_end_12
set_option maxHeartbeats 4000000 in
set_option maxRecDepth 100000 in
theorem mX10_law (l : Launch) (dC : Nat → ClassId) (dI : Nat → Nat → Nat) (kA : Nat → ClassId) (sz : Nat) (x0 : Nat) (xw : Nat) (xl : Nat) (xi : Nat) (xt : Nat) (xq : Nat) (xr : Nat) (xh : Nat) (xp : Nat) (xs_ : Nat) (xa : Nat) (xm : Nat) (tk : Nat) (pl : Nat) (rl : Nat)  : Met l yX10_law wsX10_law ({ frames := 3, cells := 13, slots := 533, locals := 70 }) (zPc dC dI kA sz [.ref x0] [(x0, .inr (10, [.ref xw, .ref xl, .ref xi, .ref xt, .int 0, .ref xq, .int 0, .ref xr, .ref xh, .ref xp, .ref xs_, .ref xa, .ref xm])), (xt, .inl (kA 0, 400, .inl (fun _ => 0))), (xq, .inl (kA 5, 6, .inr (.inr (.inr (.inr (fun _ => none)))))), (xr, .inr (2, [.ref tk, .ref pl, .int 0, .int 0, .int 0, .int 0, .int 0, .ref rl])), (tk, .inl (kA 0, 401, .inl (fun _ => 0))), (pl, .inl (kA 0, 401, .inl (fun _ => 0)))]) (va_Qi (fun (r : Int32) (u : Unit) => r = (-3)) (zB dC dI (va_A [(x0, .inr (10, [.ref xw, .ref xl, .ref xi, .ref xt, .int 0, .ref xq, .int 0, .ref xr, .ref xh, .ref xp, .ref xs_, .ref xa, .ref xm])), (xt, .inl (kA 0, 400, .inl (fun _ => 0))), (xq, .inl (kA 5, 6, .inr (.inr (.inr (.inr (fun _ => none)))))), (xr, .inr (2, [.ref tk, .ref pl, .int 0, .int 0, .int 0, .int 0, .int 0, .ref rl])), (tk, .inl (kA 0, 401, .inl (fun _ => 0))), (pl, .inl (kA 0, 401, .inl (fun _ => 0)))] sz) (fun (u : Unit) => [])) (va_A [(x0, .inr (10, [.ref xw, .ref xl, .ref xi, .ref xt, .int 0, .ref xq, .int 0, .ref xr, .ref xh, .ref xp, .ref xs_, .ref xa, .ref xm])), (xt, .inl (kA 0, 400, .inl (fun _ => 0))), (xq, .inl (kA 5, 6, .inr (.inr (.inr (.inr (fun _ => none)))))), (xr, .inr (2, [.ref tk, .ref pl, .int 0, .int 0, .int 0, .int 0, .int 0, .ref rl])), (tk, .inl (kA 0, 401, .inl (fun _ => 0))), (pl, .inl (kA 0, 401, .inl (fun _ => 0)))] sz)) 13 533 (va_A [(x0, .inr (10, [.ref xw, .ref xl, .ref xi, .ref xt, .int 0, .ref xq, .int 0, .ref xr, .ref xh, .ref xp, .ref xs_, .ref xa, .ref xm])), (xt, .inl (kA 0, 400, .inl (fun _ => 0))), (xq, .inl (kA 5, 6, .inr (.inr (.inr (.inr (fun _ => none)))))), (xr, .inr (2, [.ref tk, .ref pl, .int 0, .int 0, .int 0, .int 0, .int 0, .ref rl])), (tk, .inl (kA 0, 401, .inl (fun _ => 0))), (pl, .inl (kA 0, 401, .inl (fun _ => 0)))] sz) := by
  refine Met.ofW (cc := cX10_law) (maxL := 2) (ret := (some .int)) (by decide) rfl ?_
  intro p e s m args below meth c s₁ B hml hv
  obtain ⟨rfl, hsz, hP, hK, hD0⟩ := hv
  have hx := B.exec
  have hb := B.bytes
  have hr := B.returns
  have hts := atoms_spec (ws := wsX10_law) B.pre
  have hown : s.vm.findClass RX10 = some m.cls := findClass_of_methodNamed B.named
  have hlocks := B.notSynchronized
  subst hsz
  have hD := hD0.self (sz := s.heap.size)
  generalize hAe : va_A [(x0, .inr (10, [.ref xw, .ref xl, .ref xi, .ref xt, .int 0, .ref xq, .int 0, .ref xr, .ref xh, .ref xp, .ref xs_, .ref xa, .ref xm])), (xt, .inl (kA 0, 400, .inl (fun _ => 0))), (xq, .inl (kA 5, 6, .inr (.inr (.inr (.inr (fun _ => none)))))), (xr, .inr (2, [.ref tk, .ref pl, .int 0, .int 0, .int 0, .int 0, .int 0, .ref rl])), (tk, .inl (kA 0, 401, .inl (fun _ => 0))), (pl, .inl (kA 0, 401, .inl (fun _ => 0)))] s.heap.size = A at hD ⊢
  have hA : ∀ q : Nat, s.heap.size ≤ q → A q := fun q h => by rw [← hAe]; exact Or.inr h
  have hS : va_S A s.heap s.heap [] := va_S.rf
  have hP : va_P (dC, dI) vwCl [(x0, .inr (10, [.ref xw, .ref xl, .ref xi, .ref xt, .int 0, .ref xq, .int 0, .ref xr, .ref xh, .ref xp, .ref xs_, .ref xa, .ref xm])), (xt, .inl (kA 0, 400, .inl (fun _ => 0))), (xq, .inl (kA 5, 6, .inr (.inr (.inr (.inr (fun _ => none)))))), (xr, .inr (2, [.ref tk, .ref pl, .int 0, .int 0, .int 0, .int 0, .int 0, .ref rl])), (tk, .inl (kA 0, 401, .inl (fun _ => 0))), (pl, .inl (kA 0, 401, .inl (fun _ => 0)))] s.heap := hP
  have hl := lv_entry ([.ref x0]) (n := 2) (Nat.le_of_ble_eq_true rfl)
  rw [lg_entry_eq]
  generalize (lg_sl ([.ref x0]) ++ List.replicate (2 - (lg_sl ([.ref x0])).length) Slot.unset).toArray = ls at hl ⊢
  have hl : lv_has ls 2 [(0, .ref x0)] := hl
  refine lv_aload_n hx hb dX10_law_0 rfl (lv_at hl 0 rfl) ?_
  refine va_get (D := (dC, dI)) (ci := 10) (v := .int 0) (C := RX10) (T := TX10) (N := 13) hx hb hts iX10_law_X10 hown hK.1 hP 0 rfl rfl 6 (by decide) (kX10_law_1 hts) (fun _ h9 => h9) rfl dX10_law_1 ?_
  refine lv_bipush (v := 6) hx hb dX10_law_4 (by decide) ?_
  refine lv_icmp_lt (tgt := 11) hx hb dX10_law_6 (by decide) (fun _ => ?_) (fun c_1 => absurd (by decide) c_1)
  refine lv_aload_n hx hb dX10_law_11 rfl (lv_at hl 0 rfl) ?_
  refine va_get (D := (dC, dI)) (ci := 10) (v := .ref xq) (C := RX10) (T := TX10) (N := 13) hx hb hts iX10_law_X10 hown hK.1 hP 0 rfl rfl 5 (by decide) (kX10_law_2 hts) (fun _ h9 => h9) rfl dX10_law_12 ?_
  refine lv_aload_n hx hb dX10_law_15 rfl (lv_at hl 0 rfl) ?_
  refine va_get (D := (dC, dI)) (ci := 10) (v := .int 0) (C := RX10) (T := TX10) (N := 13) hx hb hts iX10_law_X10 hown hK.1 hP 0 rfl rfl 6 (by decide) (kX10_law_1 hts) (fun _ h9 => h9) rfl dX10_law_16 ?_
  refine va_aldq hx hb hK.1 hP 2 5 rfl rfl (vpd (by decide)) dX10_law_19 ?_
  refine zv .null rfl ?_
  refine lv_ifnonnullN hx hb dX10_law_20 ?_
  refine lv_aload_n hx hb dX10_law_23 rfl (lv_at hl 0 rfl) ?_
  refine va_get (D := (dC, dI)) (ci := 10) (v := .ref xq) (C := RX10) (T := TX10) (N := 13) hx hb hts iX10_law_X10 hown hK.1 hP 0 rfl rfl 5 (by decide) (kX10_law_2 hts) (fun _ h9 => h9) rfl dX10_law_24 ?_
  refine lv_aload_n hx hb dX10_law_27 rfl (lv_at hl 0 rfl) ?_
  refine va_get (D := (dC, dI)) (ci := 10) (v := .int 0) (C := RX10) (T := TX10) (N := 13) hx hb hts iX10_law_X10 hown hK.1 hP 0 rfl rfl 6 (by decide) (kX10_law_1 hts) (fun _ h9 => h9) rfl dX10_law_28 ?_
  refine va_new (ci := 1) (fs := [.int 0, .int 0, .null, .null, .null, .null, .null, .int 0, .null, .null, .int 0, .null, .null, .null, .null, .int 0, .null]) (C := RX1) (T := TX1) (N := 17) hx hb hts iX10_law_X1 tyX1 tyX1_ok hown (kX10_law_3 hts) (kX10_law_4 hts) (kX10_law_5 hts) hK.1 hP hD hS hA rfl fsX1 (Nat.le_of_ble_eq_true rfl) (Nat.le_of_ble_eq_true rfl) dX10_law_31 (fun q2 H hP hD hS => ?_)
  refine W.widen (k := 1) (n := 17) (Nat.le_of_ble_eq_true rfl) (Nat.le_of_ble_eq_true rfl) ?_
  have hP : va_P (dC, dI) vwCl [(x0, .inr (10, [.ref xw, .ref xl, .ref xi, .ref xt, .int 0, .ref xq, .int 0, .ref xr, .ref xh, .ref xp, .ref xs_, .ref xa, .ref xm])), (xt, .inl (kA 0, 400, .inl (fun _ => 0))), (xq, .inl (kA 5, 6, .inr (.inr (.inr (.inr (fun _ => none)))))), (xr, .inr (2, [.ref tk, .ref pl, .int 0, .int 0, .int 0, .int 0, .int 0, .ref rl])), (tk, .inl (kA 0, 401, .inl (fun _ => 0))), (pl, .inl (kA 0, 401, .inl (fun _ => 0))), (q2, .inr (1, [.int 0, .int 0, .null, .null, .null, .null, .null, .int 0, .null, .null, .int 0, .null, .null, .null, .null, .int 0, .null]))] H := hP
  have hD : va_D A [(x0, .inr (10, [.ref xw, .ref xl, .ref xi, .ref xt, .int 0, .ref xq, .int 0, .ref xr, .ref xh, .ref xp, .ref xs_, .ref xa, .ref xm])), (xt, .inl (kA 0, 400, .inl (fun _ => 0))), (xq, .inl (kA 5, 6, .inr (.inr (.inr (.inr (fun _ => none)))))), (xr, .inr (2, [.ref tk, .ref pl, .int 0, .int 0, .int 0, .int 0, .int 0, .ref rl])), (tk, .inl (kA 0, 401, .inl (fun _ => 0))), (pl, .inl (kA 0, 401, .inl (fun _ => 0))), (q2, .inr (1, [.int 0, .int 0, .null, .null, .null, .null, .null, .int 0, .null, .null, .int 0, .null, .null, .null, .null, .int 0, .null]))] := hD
  refine lv_dup hx hb dX10_law_34 rfl ?_
  refine z_v (wr := [(x0, .inr (10, [.ref xw, .ref xl, .ref xi, .ref xt, .int 0, .ref xq, .int 0, .ref xr, .ref xh, .ref xp, .ref xs_, .ref xa, .ref xm])), (xt, .inl (kA 0, 400, .inl (fun _ => 0))), (xq, .inl (kA 5, 6, .inr (.inr (.inr (.inr (fun _ => none)))))), (xr, .inr (2, [.ref tk, .ref pl, .int 0, .int 0, .int 0, .int 0, .int 0, .ref rl])), (tk, .inl (kA 0, 401, .inl (fun _ => 0))), (pl, .inl (kA 0, 401, .inl (fun _ => 0)))]) (va_runIN (As := []) (rest := [.ref q2, .int 0, .ref xq]) ⟨hx, hb, hml, hown, hts⟩ (mX1_init l dC dI kA _ q2) ⟨va_cnB 0 hts gX10_law_X1_init_n131 rfl rfl rfl hK.2.1.2.2.2.2.2.2.2.1 (kX10_law_5 hts) (by decide +kernel) ⟨(Nat.le_of_ble_eq_true rfl), (Nat.le_of_ble_eq_true rfl)⟩, rfl, (kX10_law_9 hts)⟩ ⟨zPc.blind, zPre hK (hP.sub [6] rfl) (hD.sub [6] (by decide) rfl)⟩ rfl rfl hl.1 rfl (lv_room (Nat.le_of_ble_eq_true rfl)) dX10_law_35 ⟨(Nat.le_of_ble_eq_true rfl), (Nat.le_of_ble_eq_true rfl)⟩) hP hD hS hA [6] [0, 1, 2, 3, 4, 5] rfl rfl (by decide) (by decide) (fun u3 H locs hw4 hP hD hS => ?_)
  obtain ⟨l_sorts_6, l_sumStarts_7, l_sumStops_8, l_testStarts_9, l_testStops_10, l_joins_11, l_operands_12, l_factStarts_13, l_factMiddles_14, l_factStops_15, l_signs_16, l_tests_17⟩ := u3
  refine W.widen (k := 13) (n := 533) (Nat.le_of_ble_eq_true rfl) (Nat.le_of_ble_eq_true rfl) ?_
  have hP : va_P (dC, dI) vwCl [(x0, .inr (10, [.ref xw, .ref xl, .ref xi, .ref xt, .int 0, .ref xq, .int 0, .ref xr, .ref xh, .ref xp, .ref xs_, .ref xa, .ref xm])), (xt, .inl (kA 0, 400, .inl (fun _ => 0))), (xq, .inl (kA 5, 6, .inr (.inr (.inr (.inr (fun _ => none)))))), (xr, .inr (2, [.ref tk, .ref pl, .int 0, .int 0, .int 0, .int 0, .int 0, .ref rl])), (tk, .inl (kA 0, 401, .inl (fun _ => 0))), (pl, .inl (kA 0, 401, .inl (fun _ => 0))), (q2, .inr (1, [.int 0, .int 0, .ref l_sorts_6, .ref l_sumStarts_7, .ref l_sumStops_8, .ref l_testStarts_9, .ref l_testStops_10, .int 0, .ref l_joins_11, .ref l_operands_12, .int 0, .ref l_factStarts_13, .ref l_factMiddles_14, .ref l_factStops_15, .ref l_signs_16, .int 0, .ref l_tests_17]))] H := hP
  have hD : va_D A [(x0, .inr (10, [.ref xw, .ref xl, .ref xi, .ref xt, .int 0, .ref xq, .int 0, .ref xr, .ref xh, .ref xp, .ref xs_, .ref xa, .ref xm])), (xt, .inl (kA 0, 400, .inl (fun _ => 0))), (xq, .inl (kA 5, 6, .inr (.inr (.inr (.inr (fun _ => none)))))), (xr, .inr (2, [.ref tk, .ref pl, .int 0, .int 0, .int 0, .int 0, .int 0, .ref rl])), (tk, .inl (kA 0, 401, .inl (fun _ => 0))), (pl, .inl (kA 0, 401, .inl (fun _ => 0))), (q2, .inr (1, [.int 0, .int 0, .ref l_sorts_6, .ref l_sumStarts_7, .ref l_sumStops_8, .ref l_testStarts_9, .ref l_testStops_10, .int 0, .ref l_joins_11, .ref l_operands_12, .int 0, .ref l_factStarts_13, .ref l_factMiddles_14, .ref l_factStops_15, .ref l_signs_16, .int 0, .ref l_tests_17]))] := hD
  refine va_astq hx hb hK.1 hP hD hS 2 5 6 1 rfl rfl rfl rfl (vpd (by decide)) dX10_law_38 (fun H locs hP hD hS => ?_)
  have hP : va_P (dC, dI) vwCl [(x0, .inr (10, [.ref xw, .ref xl, .ref xi, .ref xt, .int 0, .ref xq, .int 0, .ref xr, .ref xh, .ref xp, .ref xs_, .ref xa, .ref xm])), (xt, .inl (kA 0, 400, .inl (fun _ => 0))), (xq, .inl (kA 5, 6, .inr (.inr (.inr (.inr (va_up (fun _ => none) (0 : Int32).toNatClampNeg (some q2))))))), (xr, .inr (2, [.ref tk, .ref pl, .int 0, .int 0, .int 0, .int 0, .int 0, .ref rl])), (tk, .inl (kA 0, 401, .inl (fun _ => 0))), (pl, .inl (kA 0, 401, .inl (fun _ => 0))), (q2, .inr (1, [.int 0, .int 0, .ref l_sorts_6, .ref l_sumStarts_7, .ref l_sumStops_8, .ref l_testStarts_9, .ref l_testStops_10, .int 0, .ref l_joins_11, .ref l_operands_12, .int 0, .ref l_factStarts_13, .ref l_factMiddles_14, .ref l_factStops_15, .ref l_signs_16, .int 0, .ref l_tests_17]))] H := hP
  have hD : va_D A [(x0, .inr (10, [.ref xw, .ref xl, .ref xi, .ref xt, .int 0, .ref xq, .int 0, .ref xr, .ref xh, .ref xp, .ref xs_, .ref xa, .ref xm])), (xt, .inl (kA 0, 400, .inl (fun _ => 0))), (xq, .inl (kA 5, 6, .inr (.inr (.inr (.inr (va_up (fun _ => none) (0 : Int32).toNatClampNeg (some q2))))))), (xr, .inr (2, [.ref tk, .ref pl, .int 0, .int 0, .int 0, .int 0, .int 0, .ref rl])), (tk, .inl (kA 0, 401, .inl (fun _ => 0))), (pl, .inl (kA 0, 401, .inl (fun _ => 0))), (q2, .inr (1, [.int 0, .int 0, .ref l_sorts_6, .ref l_sumStarts_7, .ref l_sumStops_8, .ref l_testStarts_9, .ref l_testStops_10, .int 0, .ref l_joins_11, .ref l_operands_12, .int 0, .ref l_factStarts_13, .ref l_factMiddles_14, .ref l_factStops_15, .ref l_signs_16, .int 0, .ref l_tests_17]))] := hD
  obtain ⟨f18, ef18⟩ : ∃ y : Nat → Option Nat, y = (va_up (fun _ => none) (0 : Int32).toNatClampNeg (some q2)) := ⟨_, rfl⟩
  rw [← ef18] at hP hD
  refine lv_aload_n hx hb dX10_law_39 rfl (lv_at hl 0 rfl) ?_
  refine va_get (D := (dC, dI)) (ci := 10) (v := .ref xr) (C := RX10) (T := TX10) (N := 13) hx hb hts iX10_law_X10 hown hK.1 hP 0 rfl rfl 7 (by decide) (kX10_law_6 hts) (fun _ h9 => h9) rfl dX10_law_40 ?_
  refine lv_aload_n hx hb dX10_law_43 rfl (lv_at hl 0 rfl) ?_
  refine va_get (D := (dC, dI)) (ci := 10) (v := .ref xt) (C := RX10) (T := TX10) (N := 13) hx hb hts iX10_law_X10 hown hK.1 hP 0 rfl rfl 3 (by decide) (kX10_law_7 hts) (fun _ h9 => h9) rfl dX10_law_44 ?_
  refine lv_aload_n hx hb dX10_law_47 rfl (lv_at hl 0 rfl) ?_
  refine va_get (D := (dC, dI)) (ci := 10) (v := .int 0) (C := RX10) (T := TX10) (N := 13) hx hb hts iX10_law_X10 hown hK.1 hP 0 rfl rfl 4 (by decide) (kX10_law_8 hts) (fun _ h9 => h9) rfl dX10_law_48 ?_
  refine lv_aload_n hx hb dX10_law_51 rfl (lv_at hl 0 rfl) ?_
  refine va_get (D := (dC, dI)) (ci := 10) (v := .ref xq) (C := RX10) (T := TX10) (N := 13) hx hb hts iX10_law_X10 hown hK.1 hP 0 rfl rfl 5 (by decide) (kX10_law_2 hts) (fun _ h9 => h9) rfl dX10_law_52 ?_
  refine lv_aload_n hx hb dX10_law_55 rfl (lv_at hl 0 rfl) ?_
  refine va_get (D := (dC, dI)) (ci := 10) (v := .int 0) (C := RX10) (T := TX10) (N := 13) hx hb hts iX10_law_X10 hown hK.1 hP 0 rfl rfl 6 (by decide) (kX10_law_1 hts) (fun _ h9 => h9) rfl dX10_law_56 ?_
  refine va_aldq hx hb hK.1 hP 2 5 rfl rfl (vpd (by decide)) dX10_law_59 ?_
  refine zv (.ref q2) (by rw [ef18]; simp [va_up, va_rf]) ?_
  refine z_i (wr := [(x0, .inr (10, [.ref xw, .ref xl, .ref xi, .ref xt, .int 0, .ref xq, .int 0, .ref xr, .ref xh, .ref xp, .ref xs_, .ref xa, .ref xm])), (xq, .inl (kA 5, 6, .inr (.inr (.inr (.inr f18)))))]) (va_runV (As := [.ref xt, .int 0, .ref q2]) (rest := []) ⟨hx, hb, hml, hown, hts⟩ (mX2_read l dC dI kA _ xr tk pl rl xt q2 l_sorts_6 l_sumStarts_7 l_sumStops_8 l_testStarts_9 l_testStops_10 l_joins_11 l_operands_12 l_factStarts_13 l_factMiddles_14 l_factStops_15 l_signs_16 l_tests_17) (cwV 3 hts gX10_law_X2_read rfl rfl rfl (by decide +kernel) ⟨(Nat.le_of_ble_eq_true rfl), (Nat.le_of_ble_eq_true rfl)⟩) ⟨zPc.blind, va_recv hK.1 hP (ci := 2) (q0 := 3) rfl rfl, zPre hK (hP.sub [3, 4, 5, 6, 1] rfl) (hD.sub [3, 4, 5, 6, 1] (by decide) rfl)⟩ rfl rfl hl.1 rfl (lv_room (Nat.le_of_ble_eq_true rfl)) dX10_law_60 ⟨(Nat.le_of_ble_eq_true rfl), (Nat.le_of_ble_eq_true rfl)⟩) hP hD hS hA [3, 4, 5, 6, 1] [0, 2] rfl rfl (by decide) (by decide) (fun r21 u19 H locs hw20 hP hD hS => ?_)
  obtain rfl := hw20
  have hP : va_P (dC, dI) vwCl [(x0, .inr (10, [.ref xw, .ref xl, .ref xi, .ref xt, .int 0, .ref xq, .int 0, .ref xr, .ref xh, .ref xp, .ref xs_, .ref xa, .ref xm])), (xq, .inl (kA 5, 6, .inr (.inr (.inr (.inr f18)))))] H := hP
  have hD : va_D A [(x0, .inr (10, [.ref xw, .ref xl, .ref xi, .ref xt, .int 0, .ref xq, .int 0, .ref xr, .ref xh, .ref xp, .ref xs_, .ref xa, .ref xm])), (xq, .inl (kA 5, 6, .inr (.inr (.inr (.inr f18)))))] := hD
  refine lv_istore_n (lv' := [(1, .int 1), (0, .ref x0)]) hx hb dX10_law_63 rfl hl (by decide) rfl (fun ls hl => ?_)
  refine lv_aload_n hx hb dX10_law_64 rfl (lv_at hl 1 rfl) ?_
  refine lv_iconst (v := 0) hx hb dX10_law_65 (by decide) ?_
  refine va_put (D := (dC, dI)) (ci := 10) (v := .int 0) (ty := .int) (C := RX10) (T := TX10) (N := 13) hx hb hts iX10_law_X10 tyX10 tyX10_ok nmX10 hown hK.1 hP hD hS 0 rfl rfl 4 (by decide) (kX10_law_8 hts) (fun _ h9 => h9) rfl (by decide +kernel) rfl rfl (Nat.le_of_ble_eq_true rfl) dX10_law_66 (fun H locs hP hD hS => ?_)
  have hP : va_P (dC, dI) vwCl [(x0, .inr (10, [.ref xw, .ref xl, .ref xi, .ref xt, .int 0, .ref xq, .int 0, .ref xr, .ref xh, .ref xp, .ref xs_, .ref xa, .ref xm])), (xq, .inl (kA 5, 6, .inr (.inr (.inr (.inr f18)))))] H := hP
  have hD : va_D A [(x0, .inr (10, [.ref xw, .ref xl, .ref xi, .ref xt, .int 0, .ref xq, .int 0, .ref xr, .ref xh, .ref xp, .ref xs_, .ref xa, .ref xm])), (xq, .inl (kA 5, 6, .inr (.inr (.inr (.inr f18)))))] := hD
  refine lv_iload_n hx hb dX10_law_69 rfl (lv_at hl 0 rfl) ?_
  refine lv_if_eq (tgt := 78) hx hb dX10_law_70 (by decide) (fun c_22 => absurd c_22 (by decide)) (fun _ => ?_)
  refine lv_bipush (v := (-2)) hx hb dX10_law_73 (by decide) ?_
  refine lv_iload_n hx hb dX10_law_75 rfl (lv_at hl 0 rfl) ?_
  refine lv_isub hx hb dX10_law_76 ?_
  refine zi (-3) (by decide) ?_
  have hP9 := hP.sub (ws' := []) [] rfl
  have hD9 := hD.sub (ws' := []) [] (by decide) rfl
  refine W.widen (k := 13) (n := 533) (Nat.le_of_ble_eq_true rfl) (Nat.le_of_ble_eq_true rfl) ?_
  exact W.iret (v := (-3)) hx hb hr (fun t ht hW => ⟨⟨(-3), (), rfl, rfl, by rw [ht]; exact hP9, hD9⟩, hS.F ht⟩) hS.2.2 dX10_law_77
set_option maxHeartbeats 4000000 in
set_option maxRecDepth 100000 in
theorem mX10_fill (l : Launch) (dC : Nat → ClassId) (dI : Nat → Nat → Nat) (kA : Nat → ClassId) (sz : Nat) (x0 : Nat) (xw : Nat) (xl : Nat) (xi : Nat) (xt : Nat) (xq : Nat) (xr : Nat) (xh : Nat) (xp : Nat) (xs_ : Nat) (xa : Nat) (xm : Nat) (tnodes : Nat) (tpasses : Nat) (tjars : Nat) (tjarsA : Nat) (torders : Nat) (tfeasts : Nat) (tway : Nat) (p1 : Int32) (p2 : Int32)  : Met l yX10_fill wsX10_fill ({ frames := 2, cells := 0, slots := 0, locals := 43 }) (zPc dC dI kA sz [.ref x0, .int p1, .int p2] [(x0, .inr (10, [.ref xw, .ref xl, .ref xi, .ref xt, .int 0, .ref xq, .int 0, .ref xr, .ref xh, .ref xp, .ref xs_, .ref xa, .ref xm])), (xw, .inr (9, [.ref tnodes, .ref tpasses, .ref tjars, .ref torders, .ref tfeasts, .ref tway, .int (-1), .int 0, .int 0, .int 0])), (tjars, .inr (6, [.int 9, .ref tjarsA, .int 0]))]) (va_Qi (fun (r : Int32) (u : Unit) => r = (-1)) (zB dC dI (va_A [(x0, .inr (10, [.ref xw, .ref xl, .ref xi, .ref xt, .int 0, .ref xq, .int 0, .ref xr, .ref xh, .ref xp, .ref xs_, .ref xa, .ref xm])), (xw, .inr (9, [.ref tnodes, .ref tpasses, .ref tjars, .ref torders, .ref tfeasts, .ref tway, .int (-1), .int 0, .int 0, .int 0])), (tjars, .inr (6, [.int 9, .ref tjarsA, .int 0]))] sz) (fun (u : Unit) => [])) (va_A [(x0, .inr (10, [.ref xw, .ref xl, .ref xi, .ref xt, .int 0, .ref xq, .int 0, .ref xr, .ref xh, .ref xp, .ref xs_, .ref xa, .ref xm])), (xw, .inr (9, [.ref tnodes, .ref tpasses, .ref tjars, .ref torders, .ref tfeasts, .ref tway, .int (-1), .int 0, .int 0, .int 0])), (tjars, .inr (6, [.int 9, .ref tjarsA, .int 0]))] sz)) 0 0 (va_A [(x0, .inr (10, [.ref xw, .ref xl, .ref xi, .ref xt, .int 0, .ref xq, .int 0, .ref xr, .ref xh, .ref xp, .ref xs_, .ref xa, .ref xm])), (xw, .inr (9, [.ref tnodes, .ref tpasses, .ref tjars, .ref torders, .ref tfeasts, .ref tway, .int (-1), .int 0, .int 0, .int 0])), (tjars, .inr (6, [.int 9, .ref tjarsA, .int 0]))] sz) := by
  refine Met.ofW (cc := cX10_fill) (maxL := 5) (ret := (some .int)) (by decide) rfl ?_
  intro p e s m args below meth c s₁ B hml hv
  obtain ⟨rfl, hsz, hP, hK, hD0⟩ := hv
  have hx := B.exec
  have hb := B.bytes
  have hr := B.returns
  have hts := atoms_spec (ws := wsX10_fill) B.pre
  have hown : s.vm.findClass RX10 = some m.cls := findClass_of_methodNamed B.named
  have hlocks := B.notSynchronized
  subst hsz
  have hD := hD0.self (sz := s.heap.size)
  generalize hAe : va_A [(x0, .inr (10, [.ref xw, .ref xl, .ref xi, .ref xt, .int 0, .ref xq, .int 0, .ref xr, .ref xh, .ref xp, .ref xs_, .ref xa, .ref xm])), (xw, .inr (9, [.ref tnodes, .ref tpasses, .ref tjars, .ref torders, .ref tfeasts, .ref tway, .int (-1), .int 0, .int 0, .int 0])), (tjars, .inr (6, [.int 9, .ref tjarsA, .int 0]))] s.heap.size = A at hD ⊢
  have hA : ∀ q : Nat, s.heap.size ≤ q → A q := fun q h => by rw [← hAe]; exact Or.inr h
  have hS : va_S A s.heap s.heap [] := va_S.rf
  have hP : va_P (dC, dI) vwCl [(x0, .inr (10, [.ref xw, .ref xl, .ref xi, .ref xt, .int 0, .ref xq, .int 0, .ref xr, .ref xh, .ref xp, .ref xs_, .ref xa, .ref xm])), (xw, .inr (9, [.ref tnodes, .ref tpasses, .ref tjars, .ref torders, .ref tfeasts, .ref tway, .int (-1), .int 0, .int 0, .int 0])), (tjars, .inr (6, [.int 9, .ref tjarsA, .int 0]))] s.heap := hP
  have hl := lv_entry ([.ref x0, .int p1, .int p2]) (n := 5) (Nat.le_of_ble_eq_true rfl)
  rw [lg_entry_eq]
  generalize (lg_sl ([.ref x0, .int p1, .int p2]) ++ List.replicate (5 - (lg_sl ([.ref x0, .int p1, .int p2])).length) Slot.unset).toArray = ls at hl ⊢
  have hl : lv_has ls 5 [(0, .ref x0), (1, .int p1), (2, .int p2)] := hl
  refine lv_aload_n hx hb dX10_fill_0 rfl (lv_at hl 0 rfl) ?_
  refine va_get (D := (dC, dI)) (ci := 10) (v := .ref xw) (C := RX10) (T := TX10) (N := 13) hx hb hts iX10_fill_X10 hown hK.1 hP 0 rfl rfl 0 (by decide) (kX10_fill_1 hts) (fun _ h9 => h9) rfl dX10_fill_1 ?_
  refine lv_iload_n hx hb dX10_fill_4 rfl (lv_at hl 1 rfl) ?_
  refine z_i (wr := [(x0, .inr (10, [.ref xw, .ref xl, .ref xi, .ref xt, .int 0, .ref xq, .int 0, .ref xr, .ref xh, .ref xp, .ref xs_, .ref xa, .ref xm]))]) (va_runV (As := [.int p1]) (rest := []) ⟨hx, hb, hml, hown, hts⟩ (mX9_nodeOf l dC dI kA _ xw tnodes tpasses tjars tjarsA torders tfeasts tway p1) (cwV 1 hts gX10_fill_X9_nodeOf rfl rfl rfl (by decide +kernel) ⟨(Nat.le_of_ble_eq_true rfl), (Nat.le_of_ble_eq_true rfl)⟩) ⟨zPc.blind, va_recv hK.1 hP (ci := 9) (q0 := 1) rfl rfl, zPre hK (hP.sub [1, 2] rfl) (hD.sub [1, 2] (by decide) rfl)⟩ rfl rfl hl.1 rfl (lv_room (Nat.le_of_ble_eq_true rfl)) dX10_fill_5 ⟨(Nat.le_of_ble_eq_true rfl), (Nat.le_of_ble_eq_true rfl)⟩) hP hD hS hA [1, 2] [0] rfl rfl (by decide) (by decide) (fun r3 u1 H locs hw2 hP hD hS => ?_)
  obtain rfl := hw2
  have hP : va_P (dC, dI) vwCl [(x0, .inr (10, [.ref xw, .ref xl, .ref xi, .ref xt, .int 0, .ref xq, .int 0, .ref xr, .ref xh, .ref xp, .ref xs_, .ref xa, .ref xm]))] H := hP
  have hD : va_D A [(x0, .inr (10, [.ref xw, .ref xl, .ref xi, .ref xt, .int 0, .ref xq, .int 0, .ref xr, .ref xh, .ref xp, .ref xs_, .ref xa, .ref xm]))] := hD
  refine lv_istore_n (lv' := [(3, .int (-1)), (0, .ref x0), (1, .int p1), (2, .int p2)]) hx hb dX10_fill_8 rfl hl (by decide) rfl (fun ls hl => ?_)
  refine lv_iload_n hx hb dX10_fill_9 rfl (lv_at hl 0 rfl) ?_
  refine lv_iconst (v := (-1)) hx hb dX10_fill_10 (by decide) ?_
  refine lv_icmp_eq (tgt := 48) hx hb dX10_fill_11 (by decide) (fun _ => ?_) (fun c_4 => absurd (by decide) c_4)
  refine lv_iconst (v := (-1)) hx hb dX10_fill_48 (by decide) ?_
  have hP9 := hP.sub (ws' := []) [] rfl
  have hD9 := hD.sub (ws' := []) [] (by decide) rfl
  refine W.widen (k := 0) (n := 0) (Nat.le_of_ble_eq_true rfl) (Nat.le_of_ble_eq_true rfl) ?_
  exact W.iret (v := (-1)) hx hb hr (fun t ht hW => ⟨⟨(-1), (), rfl, rfl, by rw [ht]; exact hP9, hD9⟩, hS.F ht⟩) hS.2.2 dX10_fill_49
set_option maxHeartbeats 4000000 in
set_option maxRecDepth 100000 in
theorem mX10_pour (l : Launch) (dC : Nat → ClassId) (dI : Nat → Nat → Nat) (kA : Nat → ClassId) (sz : Nat) (x0 : Nat) (xw : Nat) (xl : Nat) (xi : Nat) (xt : Nat) (xq : Nat) (xr : Nat) (xh : Nat) (xp : Nat) (xs_ : Nat) (xa : Nat) (xm : Nat) (tnodes : Nat) (tpasses : Nat) (tjars : Nat) (tjarsA : Nat) (torders : Nat) (tfeasts : Nat) (tway : Nat) (p1 : Int32)  : Met l yX10_pour wsX10_pour ({ frames := 2, cells := 0, slots := 0, locals := 43 }) (zPc dC dI kA sz [.ref x0, .int p1] [(x0, .inr (10, [.ref xw, .ref xl, .ref xi, .ref xt, .int 0, .ref xq, .int 0, .ref xr, .ref xh, .ref xp, .ref xs_, .ref xa, .ref xm])), (xw, .inr (9, [.ref tnodes, .ref tpasses, .ref tjars, .ref torders, .ref tfeasts, .ref tway, .int (-1), .int 0, .int 0, .int 0])), (tjars, .inr (6, [.int 9, .ref tjarsA, .int 0]))]) (va_Qi (fun (r : Int32) (u : Unit) => r = (-1)) (zB dC dI (va_A [(x0, .inr (10, [.ref xw, .ref xl, .ref xi, .ref xt, .int 0, .ref xq, .int 0, .ref xr, .ref xh, .ref xp, .ref xs_, .ref xa, .ref xm])), (xw, .inr (9, [.ref tnodes, .ref tpasses, .ref tjars, .ref torders, .ref tfeasts, .ref tway, .int (-1), .int 0, .int 0, .int 0])), (tjars, .inr (6, [.int 9, .ref tjarsA, .int 0]))] sz) (fun (u : Unit) => [])) (va_A [(x0, .inr (10, [.ref xw, .ref xl, .ref xi, .ref xt, .int 0, .ref xq, .int 0, .ref xr, .ref xh, .ref xp, .ref xs_, .ref xa, .ref xm])), (xw, .inr (9, [.ref tnodes, .ref tpasses, .ref tjars, .ref torders, .ref tfeasts, .ref tway, .int (-1), .int 0, .int 0, .int 0])), (tjars, .inr (6, [.int 9, .ref tjarsA, .int 0]))] sz)) 0 0 (va_A [(x0, .inr (10, [.ref xw, .ref xl, .ref xi, .ref xt, .int 0, .ref xq, .int 0, .ref xr, .ref xh, .ref xp, .ref xs_, .ref xa, .ref xm])), (xw, .inr (9, [.ref tnodes, .ref tpasses, .ref tjars, .ref torders, .ref tfeasts, .ref tway, .int (-1), .int 0, .int 0, .int 0])), (tjars, .inr (6, [.int 9, .ref tjarsA, .int 0]))] sz) := by
  refine Met.ofW (cc := cX10_pour) (maxL := 4) (ret := (some .int)) (by decide) rfl ?_
  intro p e s m args below meth c s₁ B hml hv
  obtain ⟨rfl, hsz, hP, hK, hD0⟩ := hv
  have hx := B.exec
  have hb := B.bytes
  have hr := B.returns
  have hts := atoms_spec (ws := wsX10_pour) B.pre
  have hown : s.vm.findClass RX10 = some m.cls := findClass_of_methodNamed B.named
  have hlocks := B.notSynchronized
  subst hsz
  have hD := hD0.self (sz := s.heap.size)
  generalize hAe : va_A [(x0, .inr (10, [.ref xw, .ref xl, .ref xi, .ref xt, .int 0, .ref xq, .int 0, .ref xr, .ref xh, .ref xp, .ref xs_, .ref xa, .ref xm])), (xw, .inr (9, [.ref tnodes, .ref tpasses, .ref tjars, .ref torders, .ref tfeasts, .ref tway, .int (-1), .int 0, .int 0, .int 0])), (tjars, .inr (6, [.int 9, .ref tjarsA, .int 0]))] s.heap.size = A at hD ⊢
  have hA : ∀ q : Nat, s.heap.size ≤ q → A q := fun q h => by rw [← hAe]; exact Or.inr h
  have hS : va_S A s.heap s.heap [] := va_S.rf
  have hP : va_P (dC, dI) vwCl [(x0, .inr (10, [.ref xw, .ref xl, .ref xi, .ref xt, .int 0, .ref xq, .int 0, .ref xr, .ref xh, .ref xp, .ref xs_, .ref xa, .ref xm])), (xw, .inr (9, [.ref tnodes, .ref tpasses, .ref tjars, .ref torders, .ref tfeasts, .ref tway, .int (-1), .int 0, .int 0, .int 0])), (tjars, .inr (6, [.int 9, .ref tjarsA, .int 0]))] s.heap := hP
  have hl := lv_entry ([.ref x0, .int p1]) (n := 4) (Nat.le_of_ble_eq_true rfl)
  rw [lg_entry_eq]
  generalize (lg_sl ([.ref x0, .int p1]) ++ List.replicate (4 - (lg_sl ([.ref x0, .int p1])).length) Slot.unset).toArray = ls at hl ⊢
  have hl : lv_has ls 4 [(0, .ref x0), (1, .int p1)] := hl
  refine lv_aload_n hx hb dX10_pour_0 rfl (lv_at hl 0 rfl) ?_
  refine va_get (D := (dC, dI)) (ci := 10) (v := .ref xw) (C := RX10) (T := TX10) (N := 13) hx hb hts iX10_pour_X10 hown hK.1 hP 0 rfl rfl 0 (by decide) (kX10_pour_1 hts) (fun _ h9 => h9) rfl dX10_pour_1 ?_
  refine lv_iload_n hx hb dX10_pour_4 rfl (lv_at hl 1 rfl) ?_
  refine z_i (wr := [(x0, .inr (10, [.ref xw, .ref xl, .ref xi, .ref xt, .int 0, .ref xq, .int 0, .ref xr, .ref xh, .ref xp, .ref xs_, .ref xa, .ref xm]))]) (va_runV (As := [.int p1]) (rest := []) ⟨hx, hb, hml, hown, hts⟩ (mX9_nodeOf l dC dI kA _ xw tnodes tpasses tjars tjarsA torders tfeasts tway p1) (cwV 1 hts gX10_pour_X9_nodeOf rfl rfl rfl (by decide +kernel) ⟨(Nat.le_of_ble_eq_true rfl), (Nat.le_of_ble_eq_true rfl)⟩) ⟨zPc.blind, va_recv hK.1 hP (ci := 9) (q0 := 1) rfl rfl, zPre hK (hP.sub [1, 2] rfl) (hD.sub [1, 2] (by decide) rfl)⟩ rfl rfl hl.1 rfl (lv_room (Nat.le_of_ble_eq_true rfl)) dX10_pour_5 ⟨(Nat.le_of_ble_eq_true rfl), (Nat.le_of_ble_eq_true rfl)⟩) hP hD hS hA [1, 2] [0] rfl rfl (by decide) (by decide) (fun r3 u1 H locs hw2 hP hD hS => ?_)
  obtain rfl := hw2
  have hP : va_P (dC, dI) vwCl [(x0, .inr (10, [.ref xw, .ref xl, .ref xi, .ref xt, .int 0, .ref xq, .int 0, .ref xr, .ref xh, .ref xp, .ref xs_, .ref xa, .ref xm]))] H := hP
  have hD : va_D A [(x0, .inr (10, [.ref xw, .ref xl, .ref xi, .ref xt, .int 0, .ref xq, .int 0, .ref xr, .ref xh, .ref xp, .ref xs_, .ref xa, .ref xm]))] := hD
  refine lv_istore_n (lv' := [(2, .int (-1)), (0, .ref x0), (1, .int p1)]) hx hb dX10_pour_8 rfl hl (by decide) rfl (fun ls hl => ?_)
  refine lv_iload_n hx hb dX10_pour_9 rfl (lv_at hl 0 rfl) ?_
  refine lv_iconst (v := (-1)) hx hb dX10_pour_10 (by decide) ?_
  refine lv_icmp_ne (tgt := 16) hx hb dX10_pour_11 (by decide) (fun c_4 => absurd (by decide) c_4) (fun _ => ?_)
  refine lv_iconst (v := (-1)) hx hb dX10_pour_14 (by decide) ?_
  have hP9 := hP.sub (ws' := []) [] rfl
  have hD9 := hD.sub (ws' := []) [] (by decide) rfl
  refine W.widen (k := 0) (n := 0) (Nat.le_of_ble_eq_true rfl) (Nat.le_of_ble_eq_true rfl) ?_
  exact W.iret (v := (-1)) hx hb hr (fun t ht hW => ⟨⟨(-1), (), rfl, rfl, by rw [ht]; exact hP9, hD9⟩, hS.F ht⟩) hS.2.2 dX10_pour_15
set_option maxHeartbeats 4000000 in
set_option maxRecDepth 100000 in
theorem mX10_store (l : Launch) (dC : Nat → ClassId) (dI : Nat → Nat → Nat) (kA : Nat → ClassId) (sz : Nat) (x0 : Nat) (xw : Nat) (xl : Nat) (xi : Nat) (xt : Nat) (xq : Nat) (xr : Nat) (xh : Nat) (xp : Nat) (xs_ : Nat) (xa : Nat) (xm : Nat) (tnodes : Nat) (tnodesA : Nat) (tpasses : Nat) (tjars : Nat) (torders : Nat) (tfeasts : Nat) (tway : Nat) (p1 : Int32) (p2 : Int32)  : Met l yX10_store wsX10_store ({ frames := 1, cells := 0, slots := 0, locals := 21 }) (zPc dC dI kA sz [.ref x0, .int p1, .int p2] [(x0, .inr (10, [.ref xw, .ref xl, .ref xi, .ref xt, .int 0, .ref xq, .int 0, .ref xr, .ref xh, .ref xp, .ref xs_, .ref xa, .ref xm])), (xw, .inr (9, [.ref tnodes, .ref tpasses, .ref tjars, .ref torders, .ref tfeasts, .ref tway, .int (-1), .int 0, .int 0, .int 0])), (tnodes, .inr (6, [.int 4, .ref tnodesA, .int 0]))]) (va_Qi (fun (r : Int32) (u : Unit) => r = (-1)) (zB dC dI (va_A [(x0, .inr (10, [.ref xw, .ref xl, .ref xi, .ref xt, .int 0, .ref xq, .int 0, .ref xr, .ref xh, .ref xp, .ref xs_, .ref xa, .ref xm])), (xw, .inr (9, [.ref tnodes, .ref tpasses, .ref tjars, .ref torders, .ref tfeasts, .ref tway, .int (-1), .int 0, .int 0, .int 0])), (tnodes, .inr (6, [.int 4, .ref tnodesA, .int 0]))] sz) (fun (u : Unit) => [])) (va_A [(x0, .inr (10, [.ref xw, .ref xl, .ref xi, .ref xt, .int 0, .ref xq, .int 0, .ref xr, .ref xh, .ref xp, .ref xs_, .ref xa, .ref xm])), (xw, .inr (9, [.ref tnodes, .ref tpasses, .ref tjars, .ref torders, .ref tfeasts, .ref tway, .int (-1), .int 0, .int 0, .int 0])), (tnodes, .inr (6, [.int 4, .ref tnodesA, .int 0]))] sz)) 0 0 (va_A [(x0, .inr (10, [.ref xw, .ref xl, .ref xi, .ref xt, .int 0, .ref xq, .int 0, .ref xr, .ref xh, .ref xp, .ref xs_, .ref xa, .ref xm])), (xw, .inr (9, [.ref tnodes, .ref tpasses, .ref tjars, .ref torders, .ref tfeasts, .ref tway, .int (-1), .int 0, .int 0, .int 0])), (tnodes, .inr (6, [.int 4, .ref tnodesA, .int 0]))] sz) := by
  refine Met.ofW (cc := cX10_store) (maxL := 4) (ret := (some .int)) (by decide) rfl ?_
  intro p e s m args below meth c s₁ B hml hv
  obtain ⟨rfl, hsz, hP, hK, hD0⟩ := hv
  have hx := B.exec
  have hb := B.bytes
  have hr := B.returns
  have hts := atoms_spec (ws := wsX10_store) B.pre
  have hown : s.vm.findClass RX10 = some m.cls := findClass_of_methodNamed B.named
  have hlocks := B.notSynchronized
  subst hsz
  have hD := hD0.self (sz := s.heap.size)
  generalize hAe : va_A [(x0, .inr (10, [.ref xw, .ref xl, .ref xi, .ref xt, .int 0, .ref xq, .int 0, .ref xr, .ref xh, .ref xp, .ref xs_, .ref xa, .ref xm])), (xw, .inr (9, [.ref tnodes, .ref tpasses, .ref tjars, .ref torders, .ref tfeasts, .ref tway, .int (-1), .int 0, .int 0, .int 0])), (tnodes, .inr (6, [.int 4, .ref tnodesA, .int 0]))] s.heap.size = A at hD ⊢
  have hA : ∀ q : Nat, s.heap.size ≤ q → A q := fun q h => by rw [← hAe]; exact Or.inr h
  have hS : va_S A s.heap s.heap [] := va_S.rf
  have hP : va_P (dC, dI) vwCl [(x0, .inr (10, [.ref xw, .ref xl, .ref xi, .ref xt, .int 0, .ref xq, .int 0, .ref xr, .ref xh, .ref xp, .ref xs_, .ref xa, .ref xm])), (xw, .inr (9, [.ref tnodes, .ref tpasses, .ref tjars, .ref torders, .ref tfeasts, .ref tway, .int (-1), .int 0, .int 0, .int 0])), (tnodes, .inr (6, [.int 4, .ref tnodesA, .int 0]))] s.heap := hP
  have hl := lv_entry ([.ref x0, .int p1, .int p2]) (n := 4) (Nat.le_of_ble_eq_true rfl)
  rw [lg_entry_eq]
  generalize (lg_sl ([.ref x0, .int p1, .int p2]) ++ List.replicate (4 - (lg_sl ([.ref x0, .int p1, .int p2])).length) Slot.unset).toArray = ls at hl ⊢
  have hl : lv_has ls 4 [(0, .ref x0), (1, .int p1), (2, .int p2)] := hl
  refine lv_aload_n hx hb dX10_store_0 rfl (lv_at hl 0 rfl) ?_
  refine va_get (D := (dC, dI)) (ci := 10) (v := .ref xw) (C := RX10) (T := TX10) (N := 13) hx hb hts iX10_store_X10 hown hK.1 hP 0 rfl rfl 0 (by decide) (kX10_store_1 hts) (fun _ h9 => h9) rfl dX10_store_1 ?_
  refine va_get (D := (dC, dI)) (ci := 9) (v := .ref tnodes) (C := RX9) (T := TX9) (N := 10) hx hb hts iX10_store_X9 hown hK.1 hP 1 rfl rfl 0 (by decide) (kX10_store_2 hts) (fun _ h9 => h9) rfl dX10_store_4 ?_
  refine lv_iload_n hx hb dX10_store_7 rfl (lv_at hl 1 rfl) ?_
  refine z_i (wr := [(x0, .inr (10, [.ref xw, .ref xl, .ref xi, .ref xt, .int 0, .ref xq, .int 0, .ref xr, .ref xh, .ref xp, .ref xs_, .ref xa, .ref xm])), (xw, .inr (9, [.ref tnodes, .ref tpasses, .ref tjars, .ref torders, .ref tfeasts, .ref tway, .int (-1), .int 0, .int 0, .int 0]))]) (va_runV (As := [.int p1]) (rest := []) ⟨hx, hb, hml, hown, hts⟩ (mX6_has l dC dI kA _ tnodes tnodesA 4 p1) (cwV 1 hts gX10_store_X6_has rfl rfl rfl (by decide +kernel) ⟨(Nat.le_of_ble_eq_true rfl), (Nat.le_of_ble_eq_true rfl)⟩) ⟨zPc.blind, va_recv hK.1 hP (ci := 6) (q0 := 2) rfl rfl, zPre hK (hP.sub [2] rfl) (hD.sub [2] (by decide) rfl)⟩ rfl rfl hl.1 rfl (lv_room (Nat.le_of_ble_eq_true rfl)) dX10_store_8 ⟨(Nat.le_of_ble_eq_true rfl), (Nat.le_of_ble_eq_true rfl)⟩) hP hD hS hA [2] [0, 1] rfl rfl (by decide) (by decide) (fun r3 u1 H locs hw2 hP hD hS => ?_)
  obtain rfl := hw2
  have hP : va_P (dC, dI) vwCl [(x0, .inr (10, [.ref xw, .ref xl, .ref xi, .ref xt, .int 0, .ref xq, .int 0, .ref xr, .ref xh, .ref xp, .ref xs_, .ref xa, .ref xm])), (xw, .inr (9, [.ref tnodes, .ref tpasses, .ref tjars, .ref torders, .ref tfeasts, .ref tway, .int (-1), .int 0, .int 0, .int 0])), (tnodes, .inr (6, [.int 4, .ref tnodesA, .int 0]))] H := hP
  have hD : va_D A [(x0, .inr (10, [.ref xw, .ref xl, .ref xi, .ref xt, .int 0, .ref xq, .int 0, .ref xr, .ref xh, .ref xp, .ref xs_, .ref xa, .ref xm])), (xw, .inr (9, [.ref tnodes, .ref tpasses, .ref tjars, .ref torders, .ref tfeasts, .ref tway, .int (-1), .int 0, .int 0, .int 0])), (tnodes, .inr (6, [.int 4, .ref tnodesA, .int 0]))] := hD
  refine lv_if_eq (tgt := 23) hx hb dX10_store_11 (by decide) (fun _ => ?_) (fun c_4 => absurd (by decide) c_4)
  refine lv_iconst (v := (-1)) hx hb dX10_store_23 (by decide) ?_
  have hP9 := hP.sub (ws' := []) [] rfl
  have hD9 := hD.sub (ws' := []) [] (by decide) rfl
  refine W.widen (k := 0) (n := 0) (Nat.le_of_ble_eq_true rfl) (Nat.le_of_ble_eq_true rfl) ?_
  exact W.iret (v := (-1)) hx hb hr (fun t ht hW => ⟨⟨(-1), (), rfl, rfl, by rw [ht]; exact hP9, hD9⟩, hS.F ht⟩) hS.2.2 dX10_store_24
set_option maxHeartbeats 4000000 in
set_option maxRecDepth 100000 in
theorem mX10_leave (l : Launch) (dC : Nat → ClassId) (dI : Nat → Nat → Nat) (kA : Nat → ClassId) (sz : Nat) (x0 : Nat) (xw : Nat) (xl : Nat) (xi : Nat) (xt : Nat) (xq : Nat) (xr : Nat) (xh : Nat) (xp : Nat) (xs_ : Nat) (xa : Nat) (xm : Nat) (tnodes : Nat) (tpasses : Nat) (tjars : Nat) (tjarsA : Nat) (torders : Nat) (tfeasts : Nat) (tway : Nat) (p1 : Int32) (p2 : Int32)  : Met l yX10_leave wsX10_leave ({ frames := 2, cells := 0, slots := 0, locals := 43 }) (zPc dC dI kA sz [.ref x0, .int p1, .int p2] [(x0, .inr (10, [.ref xw, .ref xl, .ref xi, .ref xt, .int 0, .ref xq, .int 0, .ref xr, .ref xh, .ref xp, .ref xs_, .ref xa, .ref xm])), (xw, .inr (9, [.ref tnodes, .ref tpasses, .ref tjars, .ref torders, .ref tfeasts, .ref tway, .int (-1), .int 0, .int 0, .int 0])), (tjars, .inr (6, [.int 9, .ref tjarsA, .int 0]))]) (va_Qi (fun (r : Int32) (u : Unit) => r = 0) (zB dC dI (va_A [(x0, .inr (10, [.ref xw, .ref xl, .ref xi, .ref xt, .int 0, .ref xq, .int 0, .ref xr, .ref xh, .ref xp, .ref xs_, .ref xa, .ref xm])), (xw, .inr (9, [.ref tnodes, .ref tpasses, .ref tjars, .ref torders, .ref tfeasts, .ref tway, .int (-1), .int 0, .int 0, .int 0])), (tjars, .inr (6, [.int 9, .ref tjarsA, .int 0]))] sz) (fun (u : Unit) => [])) (va_A [(x0, .inr (10, [.ref xw, .ref xl, .ref xi, .ref xt, .int 0, .ref xq, .int 0, .ref xr, .ref xh, .ref xp, .ref xs_, .ref xa, .ref xm])), (xw, .inr (9, [.ref tnodes, .ref tpasses, .ref tjars, .ref torders, .ref tfeasts, .ref tway, .int (-1), .int 0, .int 0, .int 0])), (tjars, .inr (6, [.int 9, .ref tjarsA, .int 0]))] sz)) 0 0 (va_A [(x0, .inr (10, [.ref xw, .ref xl, .ref xi, .ref xt, .int 0, .ref xq, .int 0, .ref xr, .ref xh, .ref xp, .ref xs_, .ref xa, .ref xm])), (xw, .inr (9, [.ref tnodes, .ref tpasses, .ref tjars, .ref torders, .ref tfeasts, .ref tway, .int (-1), .int 0, .int 0, .int 0])), (tjars, .inr (6, [.int 9, .ref tjarsA, .int 0]))] sz) := by
  refine Met.ofW (cc := cX10_leave) (maxL := 5) (ret := (some .boolean)) (by decide) rfl ?_
  intro p e s m args below meth c s₁ B hml hv
  obtain ⟨rfl, hsz, hP, hK, hD0⟩ := hv
  have hx := B.exec
  have hb := B.bytes
  have hr := B.returns
  have hts := atoms_spec (ws := wsX10_leave) B.pre
  have hown : s.vm.findClass RX10 = some m.cls := findClass_of_methodNamed B.named
  have hlocks := B.notSynchronized
  subst hsz
  have hD := hD0.self (sz := s.heap.size)
  generalize hAe : va_A [(x0, .inr (10, [.ref xw, .ref xl, .ref xi, .ref xt, .int 0, .ref xq, .int 0, .ref xr, .ref xh, .ref xp, .ref xs_, .ref xa, .ref xm])), (xw, .inr (9, [.ref tnodes, .ref tpasses, .ref tjars, .ref torders, .ref tfeasts, .ref tway, .int (-1), .int 0, .int 0, .int 0])), (tjars, .inr (6, [.int 9, .ref tjarsA, .int 0]))] s.heap.size = A at hD ⊢
  have hA : ∀ q : Nat, s.heap.size ≤ q → A q := fun q h => by rw [← hAe]; exact Or.inr h
  have hS : va_S A s.heap s.heap [] := va_S.rf
  have hP : va_P (dC, dI) vwCl [(x0, .inr (10, [.ref xw, .ref xl, .ref xi, .ref xt, .int 0, .ref xq, .int 0, .ref xr, .ref xh, .ref xp, .ref xs_, .ref xa, .ref xm])), (xw, .inr (9, [.ref tnodes, .ref tpasses, .ref tjars, .ref torders, .ref tfeasts, .ref tway, .int (-1), .int 0, .int 0, .int 0])), (tjars, .inr (6, [.int 9, .ref tjarsA, .int 0]))] s.heap := hP
  have hl := lv_entry ([.ref x0, .int p1, .int p2]) (n := 5) (Nat.le_of_ble_eq_true rfl)
  rw [lg_entry_eq]
  generalize (lg_sl ([.ref x0, .int p1, .int p2]) ++ List.replicate (5 - (lg_sl ([.ref x0, .int p1, .int p2])).length) Slot.unset).toArray = ls at hl ⊢
  have hl : lv_has ls 5 [(0, .ref x0), (1, .int p1), (2, .int p2)] := hl
  refine lv_aload_n hx hb dX10_leave_0 rfl (lv_at hl 0 rfl) ?_
  refine va_get (D := (dC, dI)) (ci := 10) (v := .ref xw) (C := RX10) (T := TX10) (N := 13) hx hb hts iX10_leave_X10 hown hK.1 hP 0 rfl rfl 0 (by decide) (kX10_leave_1 hts) (fun _ h9 => h9) rfl dX10_leave_1 ?_
  refine lv_iload_n hx hb dX10_leave_4 rfl (lv_at hl 1 rfl) ?_
  refine z_i (wr := [(x0, .inr (10, [.ref xw, .ref xl, .ref xi, .ref xt, .int 0, .ref xq, .int 0, .ref xr, .ref xh, .ref xp, .ref xs_, .ref xa, .ref xm]))]) (va_runV (As := [.int p1]) (rest := []) ⟨hx, hb, hml, hown, hts⟩ (mX9_nodeOf l dC dI kA _ xw tnodes tpasses tjars tjarsA torders tfeasts tway p1) (cwV 1 hts gX10_leave_X9_nodeOf rfl rfl rfl (by decide +kernel) ⟨(Nat.le_of_ble_eq_true rfl), (Nat.le_of_ble_eq_true rfl)⟩) ⟨zPc.blind, va_recv hK.1 hP (ci := 9) (q0 := 1) rfl rfl, zPre hK (hP.sub [1, 2] rfl) (hD.sub [1, 2] (by decide) rfl)⟩ rfl rfl hl.1 rfl (lv_room (Nat.le_of_ble_eq_true rfl)) dX10_leave_5 ⟨(Nat.le_of_ble_eq_true rfl), (Nat.le_of_ble_eq_true rfl)⟩) hP hD hS hA [1, 2] [0] rfl rfl (by decide) (by decide) (fun r3 u1 H locs hw2 hP hD hS => ?_)
  obtain rfl := hw2
  have hP : va_P (dC, dI) vwCl [(x0, .inr (10, [.ref xw, .ref xl, .ref xi, .ref xt, .int 0, .ref xq, .int 0, .ref xr, .ref xh, .ref xp, .ref xs_, .ref xa, .ref xm]))] H := hP
  have hD : va_D A [(x0, .inr (10, [.ref xw, .ref xl, .ref xi, .ref xt, .int 0, .ref xq, .int 0, .ref xr, .ref xh, .ref xp, .ref xs_, .ref xa, .ref xm]))] := hD
  refine lv_istore_n (lv' := [(3, .int (-1)), (0, .ref x0), (1, .int p1), (2, .int p2)]) hx hb dX10_leave_8 rfl hl (by decide) rfl (fun ls hl => ?_)
  refine lv_iload_n hx hb dX10_leave_9 rfl (lv_at hl 0 rfl) ?_
  refine lv_iconst (v := (-1)) hx hb dX10_leave_10 (by decide) ?_
  refine lv_icmp_ne (tgt := 18) hx hb dX10_leave_11 (by decide) (fun c_4 => absurd (by decide) c_4) (fun _ => ?_)
  refine lv_iconst (v := (-1)) hx hb dX10_leave_14 (by decide) ?_
  refine lv_goto (tgt := 27) hx hb dX10_leave_15 (by decide) ?_
  refine lv_istore (lv' := [(4, .int (-1)), (3, .int (-1)), (0, .ref x0), (1, .int p1), (2, .int p2)]) hx hb dX10_leave_27 hl (by decide) rfl (fun ls hl => ?_)
  refine lv_iload hx hb dX10_leave_29 (lv_at hl 0 rfl) ?_
  refine lv_iconst (v := (-1)) hx hb dX10_leave_31 (by decide) ?_
  refine lv_icmp_ne (tgt := 37) hx hb dX10_leave_32 (by decide) (fun c_5 => absurd (by decide) c_5) (fun _ => ?_)
  refine lv_iconst (v := 0) hx hb dX10_leave_35 (by decide) ?_
  have hP9 := hP.sub (ws' := []) [] rfl
  have hD9 := hD.sub (ws' := []) [] (by decide) rfl
  refine W.widen (k := 0) (n := 0) (Nat.le_of_ble_eq_true rfl) (Nat.le_of_ble_eq_true rfl) ?_
  exact W.zret (v := 0) hx hb hr rfl (fun t ht hW => ⟨⟨0, (), rfl, rfl, by rw [ht]; exact hP9, hD9⟩, hS.F ht⟩) hS.2.2 dX10_leave_36
set_option maxHeartbeats 4000000 in
set_option maxRecDepth 100000 in
theorem mX10_tick (l : Launch) (dC : Nat → ClassId) (dI : Nat → Nat → Nat) (kA : Nat → ClassId) (sz : Nat) (x0 : Nat) (xw : Nat) (xl : Nat) (xi : Nat) (xt : Nat) (xq : Nat) (xr : Nat) (xh : Nat) (xp : Nat) (xs_ : Nat) (xa : Nat) (xm : Nat) (p1 : Int32) (p2 : Int32)  : Met l yX10_tick wsX10_tick ({ frames := 2, cells := 0, slots := 0, locals := 42 }) (zPc dC dI kA sz [.ref x0, .int p1, .int p2] [(x0, .inr (10, [.ref xw, .ref xl, .ref xi, .ref xt, .int 0, .ref xq, .int 0, .ref xr, .ref xh, .ref xp, .ref xs_, .ref xa, .ref xm]))]) (va_Qi (fun (r : Int32) (u : Unit) => r = (-1)) (zB dC dI (va_A [(x0, .inr (10, [.ref xw, .ref xl, .ref xi, .ref xt, .int 0, .ref xq, .int 0, .ref xr, .ref xh, .ref xp, .ref xs_, .ref xa, .ref xm]))] sz) (fun (u : Unit) => [])) (va_A [(x0, .inr (10, [.ref xw, .ref xl, .ref xi, .ref xt, .int 0, .ref xq, .int 0, .ref xr, .ref xh, .ref xp, .ref xs_, .ref xa, .ref xm]))] sz)) 0 0 (va_A [(x0, .inr (10, [.ref xw, .ref xl, .ref xi, .ref xt, .int 0, .ref xq, .int 0, .ref xr, .ref xh, .ref xp, .ref xs_, .ref xa, .ref xm]))] sz) := by
  refine Met.ofW (cc := cX10_tick) (maxL := 5) (ret := (some .int)) (by decide) rfl ?_
  intro p e s m args below meth c s₁ B hml hv
  obtain ⟨rfl, hsz, hP, hK, hD0⟩ := hv
  have hx := B.exec
  have hb := B.bytes
  have hr := B.returns
  have hts := atoms_spec (ws := wsX10_tick) B.pre
  have hown : s.vm.findClass RX10 = some m.cls := findClass_of_methodNamed B.named
  have hlocks := B.notSynchronized
  subst hsz
  have hD := hD0.self (sz := s.heap.size)
  generalize hAe : va_A [(x0, .inr (10, [.ref xw, .ref xl, .ref xi, .ref xt, .int 0, .ref xq, .int 0, .ref xr, .ref xh, .ref xp, .ref xs_, .ref xa, .ref xm]))] s.heap.size = A at hD ⊢
  have hA : ∀ q : Nat, s.heap.size ≤ q → A q := fun q h => by rw [← hAe]; exact Or.inr h
  have hS : va_S A s.heap s.heap [] := va_S.rf
  have hP : va_P (dC, dI) vwCl [(x0, .inr (10, [.ref xw, .ref xl, .ref xi, .ref xt, .int 0, .ref xq, .int 0, .ref xr, .ref xh, .ref xp, .ref xs_, .ref xa, .ref xm]))] s.heap := hP
  have hl := lv_entry ([.ref x0, .int p1, .int p2]) (n := 5) (Nat.le_of_ble_eq_true rfl)
  rw [lg_entry_eq]
  generalize (lg_sl ([.ref x0, .int p1, .int p2]) ++ List.replicate (5 - (lg_sl ([.ref x0, .int p1, .int p2])).length) Slot.unset).toArray = ls at hl ⊢
  have hl : lv_has ls 5 [(0, .ref x0), (1, .int p1), (2, .int p2)] := hl
  refine lv_aload_n hx hb dX10_tick_0 rfl (lv_at hl 0 rfl) ?_
  refine lv_iload_n hx hb dX10_tick_1 rfl (lv_at hl 1 rfl) ?_
  refine z_q (wr := []) (va_runV (As := [.int p1]) (rest := []) ⟨hx, hb, hml, hown, hts⟩ (mX10_lawOf l dC dI kA _ x0 xw xl xi xt xq xr xh xp xs_ xa xm p1) (cwV 1 hts gX10_tick_X10_lawOf rfl rfl rfl (by decide +kernel) ⟨(Nat.le_of_ble_eq_true rfl), (Nat.le_of_ble_eq_true rfl)⟩) ⟨zPc.blind, va_recv hK.1 hP (ci := 10) (q0 := 0) rfl rfl, zPre hK (hP.sub [0] rfl) (hD.sub [0] (by decide) rfl)⟩ rfl rfl hl.1 rfl (lv_room (Nat.le_of_ble_eq_true rfl)) dX10_tick_2 ⟨(Nat.le_of_ble_eq_true rfl), (Nat.le_of_ble_eq_true rfl)⟩) hP hD hS hA [0] [] rfl rfl (by decide) (by decide) (fun r3 u1 H locs hw2 hP hD hS => ?_)
  obtain rfl := hw2
  have hP : va_P (dC, dI) vwCl [(x0, .inr (10, [.ref xw, .ref xl, .ref xi, .ref xt, .int 0, .ref xq, .int 0, .ref xr, .ref xh, .ref xp, .ref xs_, .ref xa, .ref xm]))] H := hP
  have hD : va_D A [(x0, .inr (10, [.ref xw, .ref xl, .ref xi, .ref xt, .int 0, .ref xq, .int 0, .ref xr, .ref xh, .ref xp, .ref xs_, .ref xa, .ref xm]))] := hD
  refine zv .null rfl ?_
  refine lv_astore_nN (lv' := [(3, .null), (0, .ref x0), (1, .int p1), (2, .int p2)]) hx hb dX10_tick_5 rfl hl (by decide) rfl (fun ls hl => ?_)
  refine lv_aload_nN hx hb dX10_tick_6 rfl (lv_at hl 0 rfl) ?_
  refine lv_ifnullN (tgt := 36) hx hb dX10_tick_7 (by decide) ?_
  refine lv_iconst (v := (-1)) hx hb dX10_tick_36 (by decide) ?_
  have hP9 := hP.sub (ws' := []) [] rfl
  have hD9 := hD.sub (ws' := []) [] (by decide) rfl
  refine W.widen (k := 0) (n := 0) (Nat.le_of_ble_eq_true rfl) (Nat.le_of_ble_eq_true rfl) ?_
  exact W.iret (v := (-1)) hx hb hr (fun t ht hW => ⟨⟨(-1), (), rfl, rfl, by rw [ht]; exact hP9, hD9⟩, hS.F ht⟩) hS.2.2 dX10_tick_37
set_option maxHeartbeats 4000000 in
set_option maxRecDepth 100000 in
theorem mX10_at (l : Launch) (dC : Nat → ClassId) (dI : Nat → Nat → Nat) (kA : Nat → ClassId) (sz : Nat) (x0 : Nat) (xw : Nat) (xl : Nat) (xi : Nat) (xt : Nat) (xq : Nat) (xr : Nat) (xh : Nat) (xp : Nat) (xs_ : Nat) (xa : Nat) (xm : Nat) (tnodes : Nat) (tnodesA : Nat) (tpasses : Nat) (tjars : Nat) (torders : Nat) (tfeasts : Nat) (tway : Nat) (p1 : Int32) (p2 : Int32)  : Met l yX10_at wsX10_at ({ frames := 1, cells := 0, slots := 0, locals := 21 }) (zPc dC dI kA sz [.ref x0, .int p1, .int p2] [(x0, .inr (10, [.ref xw, .ref xl, .ref xi, .ref xt, .int 0, .ref xq, .int 0, .ref xr, .ref xh, .ref xp, .ref xs_, .ref xa, .ref xm])), (xw, .inr (9, [.ref tnodes, .ref tpasses, .ref tjars, .ref torders, .ref tfeasts, .ref tway, .int (-1), .int 0, .int 0, .int 0])), (tnodes, .inr (6, [.int 4, .ref tnodesA, .int 0]))]) (va_Qi (fun (r : Int32) (u : Unit) => r = (-1)) (zB dC dI (va_A [(x0, .inr (10, [.ref xw, .ref xl, .ref xi, .ref xt, .int 0, .ref xq, .int 0, .ref xr, .ref xh, .ref xp, .ref xs_, .ref xa, .ref xm])), (xw, .inr (9, [.ref tnodes, .ref tpasses, .ref tjars, .ref torders, .ref tfeasts, .ref tway, .int (-1), .int 0, .int 0, .int 0])), (tnodes, .inr (6, [.int 4, .ref tnodesA, .int 0]))] sz) (fun (u : Unit) => [])) (va_A [(x0, .inr (10, [.ref xw, .ref xl, .ref xi, .ref xt, .int 0, .ref xq, .int 0, .ref xr, .ref xh, .ref xp, .ref xs_, .ref xa, .ref xm])), (xw, .inr (9, [.ref tnodes, .ref tpasses, .ref tjars, .ref torders, .ref tfeasts, .ref tway, .int (-1), .int 0, .int 0, .int 0])), (tnodes, .inr (6, [.int 4, .ref tnodesA, .int 0]))] sz)) 0 0 (va_A [(x0, .inr (10, [.ref xw, .ref xl, .ref xi, .ref xt, .int 0, .ref xq, .int 0, .ref xr, .ref xh, .ref xp, .ref xs_, .ref xa, .ref xm])), (xw, .inr (9, [.ref tnodes, .ref tpasses, .ref tjars, .ref torders, .ref tfeasts, .ref tway, .int (-1), .int 0, .int 0, .int 0])), (tnodes, .inr (6, [.int 4, .ref tnodesA, .int 0]))] sz) := by
  refine Met.ofW (cc := cX10_at) (maxL := 3) (ret := (some .int)) (by decide) rfl ?_
  intro p e s m args below meth c s₁ B hml hv
  obtain ⟨rfl, hsz, hP, hK, hD0⟩ := hv
  have hx := B.exec
  have hb := B.bytes
  have hr := B.returns
  have hts := atoms_spec (ws := wsX10_at) B.pre
  have hown : s.vm.findClass RX10 = some m.cls := findClass_of_methodNamed B.named
  have hlocks := B.notSynchronized
  subst hsz
  have hD := hD0.self (sz := s.heap.size)
  generalize hAe : va_A [(x0, .inr (10, [.ref xw, .ref xl, .ref xi, .ref xt, .int 0, .ref xq, .int 0, .ref xr, .ref xh, .ref xp, .ref xs_, .ref xa, .ref xm])), (xw, .inr (9, [.ref tnodes, .ref tpasses, .ref tjars, .ref torders, .ref tfeasts, .ref tway, .int (-1), .int 0, .int 0, .int 0])), (tnodes, .inr (6, [.int 4, .ref tnodesA, .int 0]))] s.heap.size = A at hD ⊢
  have hA : ∀ q : Nat, s.heap.size ≤ q → A q := fun q h => by rw [← hAe]; exact Or.inr h
  have hS : va_S A s.heap s.heap [] := va_S.rf
  have hP : va_P (dC, dI) vwCl [(x0, .inr (10, [.ref xw, .ref xl, .ref xi, .ref xt, .int 0, .ref xq, .int 0, .ref xr, .ref xh, .ref xp, .ref xs_, .ref xa, .ref xm])), (xw, .inr (9, [.ref tnodes, .ref tpasses, .ref tjars, .ref torders, .ref tfeasts, .ref tway, .int (-1), .int 0, .int 0, .int 0])), (tnodes, .inr (6, [.int 4, .ref tnodesA, .int 0]))] s.heap := hP
  have hl := lv_entry ([.ref x0, .int p1, .int p2]) (n := 3) (Nat.le_of_ble_eq_true rfl)
  rw [lg_entry_eq]
  generalize (lg_sl ([.ref x0, .int p1, .int p2]) ++ List.replicate (3 - (lg_sl ([.ref x0, .int p1, .int p2])).length) Slot.unset).toArray = ls at hl ⊢
  have hl : lv_has ls 3 [(0, .ref x0), (1, .int p1), (2, .int p2)] := hl
  refine lv_aload_n hx hb dX10_at_0 rfl (lv_at hl 0 rfl) ?_
  refine va_get (D := (dC, dI)) (ci := 10) (v := .ref xw) (C := RX10) (T := TX10) (N := 13) hx hb hts iX10_at_X10 hown hK.1 hP 0 rfl rfl 0 (by decide) (kX10_at_1 hts) (fun _ h9 => h9) rfl dX10_at_1 ?_
  refine va_get (D := (dC, dI)) (ci := 9) (v := .ref tnodes) (C := RX9) (T := TX9) (N := 10) hx hb hts iX10_at_X9 hown hK.1 hP 1 rfl rfl 0 (by decide) (kX10_at_2 hts) (fun _ h9 => h9) rfl dX10_at_4 ?_
  refine lv_iload_n hx hb dX10_at_7 rfl (lv_at hl 1 rfl) ?_
  refine z_i (wr := [(x0, .inr (10, [.ref xw, .ref xl, .ref xi, .ref xt, .int 0, .ref xq, .int 0, .ref xr, .ref xh, .ref xp, .ref xs_, .ref xa, .ref xm])), (xw, .inr (9, [.ref tnodes, .ref tpasses, .ref tjars, .ref torders, .ref tfeasts, .ref tway, .int (-1), .int 0, .int 0, .int 0]))]) (va_runV (As := [.int p1]) (rest := []) ⟨hx, hb, hml, hown, hts⟩ (mX6_has l dC dI kA _ tnodes tnodesA 4 p1) (cwV 1 hts gX10_at_X6_has rfl rfl rfl (by decide +kernel) ⟨(Nat.le_of_ble_eq_true rfl), (Nat.le_of_ble_eq_true rfl)⟩) ⟨zPc.blind, va_recv hK.1 hP (ci := 6) (q0 := 2) rfl rfl, zPre hK (hP.sub [2] rfl) (hD.sub [2] (by decide) rfl)⟩ rfl rfl hl.1 rfl (lv_room (Nat.le_of_ble_eq_true rfl)) dX10_at_8 ⟨(Nat.le_of_ble_eq_true rfl), (Nat.le_of_ble_eq_true rfl)⟩) hP hD hS hA [2] [0, 1] rfl rfl (by decide) (by decide) (fun r3 u1 H locs hw2 hP hD hS => ?_)
  obtain rfl := hw2
  have hP : va_P (dC, dI) vwCl [(x0, .inr (10, [.ref xw, .ref xl, .ref xi, .ref xt, .int 0, .ref xq, .int 0, .ref xr, .ref xh, .ref xp, .ref xs_, .ref xa, .ref xm])), (xw, .inr (9, [.ref tnodes, .ref tpasses, .ref tjars, .ref torders, .ref tfeasts, .ref tway, .int (-1), .int 0, .int 0, .int 0])), (tnodes, .inr (6, [.int 4, .ref tnodesA, .int 0]))] H := hP
  have hD : va_D A [(x0, .inr (10, [.ref xw, .ref xl, .ref xi, .ref xt, .int 0, .ref xq, .int 0, .ref xr, .ref xh, .ref xp, .ref xs_, .ref xa, .ref xm])), (xw, .inr (9, [.ref tnodes, .ref tpasses, .ref tjars, .ref torders, .ref tfeasts, .ref tway, .int (-1), .int 0, .int 0, .int 0])), (tnodes, .inr (6, [.int 4, .ref tnodesA, .int 0]))] := hD
  refine lv_if_ne (tgt := 16) hx hb dX10_at_11 (by decide) (fun c_4 => absurd (by decide) c_4) (fun _ => ?_)
  refine lv_iconst (v := (-1)) hx hb dX10_at_14 (by decide) ?_
  have hP9 := hP.sub (ws' := []) [] rfl
  have hD9 := hD.sub (ws' := []) [] (by decide) rfl
  refine W.widen (k := 0) (n := 0) (Nat.le_of_ble_eq_true rfl) (Nat.le_of_ble_eq_true rfl) ?_
  exact W.iret (v := (-1)) hx hb hr (fun t ht hW => ⟨⟨(-1), (), rfl, rfl, by rw [ht]; exact hP9, hD9⟩, hS.F ht⟩) hS.2.2 dX10_at_15
set_option maxHeartbeats 4000000 in
set_option maxRecDepth 100000 in
theorem mX10_of (l : Launch) (dC : Nat → ClassId) (dI : Nat → Nat → Nat) (kA : Nat → ClassId) (sz : Nat) (x0 : Nat) (xw : Nat) (xl : Nat) (xi : Nat) (xt : Nat) (xq : Nat) (xr : Nat) (xh : Nat) (xp : Nat) (xs_ : Nat) (xa : Nat) (xm : Nat) (tnodes : Nat) (tpasses : Nat) (tjars : Nat) (tjarsA : Nat) (torders : Nat) (tfeasts : Nat) (tway : Nat) (p1 : Int32) (p2 : Int32)  : Met l yX10_of wsX10_of ({ frames := 1, cells := 0, slots := 0, locals := 21 }) (zPc dC dI kA sz [.ref x0, .int p1, .int p2] [(x0, .inr (10, [.ref xw, .ref xl, .ref xi, .ref xt, .int 0, .ref xq, .int 0, .ref xr, .ref xh, .ref xp, .ref xs_, .ref xa, .ref xm])), (xw, .inr (9, [.ref tnodes, .ref tpasses, .ref tjars, .ref torders, .ref tfeasts, .ref tway, .int (-1), .int 0, .int 0, .int 0])), (tjars, .inr (6, [.int 9, .ref tjarsA, .int 0]))]) (va_Qi (fun (r : Int32) (u : Unit) => r = (-2)) (zB dC dI (va_A [(x0, .inr (10, [.ref xw, .ref xl, .ref xi, .ref xt, .int 0, .ref xq, .int 0, .ref xr, .ref xh, .ref xp, .ref xs_, .ref xa, .ref xm])), (xw, .inr (9, [.ref tnodes, .ref tpasses, .ref tjars, .ref torders, .ref tfeasts, .ref tway, .int (-1), .int 0, .int 0, .int 0])), (tjars, .inr (6, [.int 9, .ref tjarsA, .int 0]))] sz) (fun (u : Unit) => [])) (va_A [(x0, .inr (10, [.ref xw, .ref xl, .ref xi, .ref xt, .int 0, .ref xq, .int 0, .ref xr, .ref xh, .ref xp, .ref xs_, .ref xa, .ref xm])), (xw, .inr (9, [.ref tnodes, .ref tpasses, .ref tjars, .ref torders, .ref tfeasts, .ref tway, .int (-1), .int 0, .int 0, .int 0])), (tjars, .inr (6, [.int 9, .ref tjarsA, .int 0]))] sz)) 0 0 (va_A [(x0, .inr (10, [.ref xw, .ref xl, .ref xi, .ref xt, .int 0, .ref xq, .int 0, .ref xr, .ref xh, .ref xp, .ref xs_, .ref xa, .ref xm])), (xw, .inr (9, [.ref tnodes, .ref tpasses, .ref tjars, .ref torders, .ref tfeasts, .ref tway, .int (-1), .int 0, .int 0, .int 0])), (tjars, .inr (6, [.int 9, .ref tjarsA, .int 0]))] sz) := by
  refine Met.ofW (cc := cX10_of) (maxL := 3) (ret := (some .int)) (by decide) rfl ?_
  intro p e s m args below meth c s₁ B hml hv
  obtain ⟨rfl, hsz, hP, hK, hD0⟩ := hv
  have hx := B.exec
  have hb := B.bytes
  have hr := B.returns
  have hts := atoms_spec (ws := wsX10_of) B.pre
  have hown : s.vm.findClass RX10 = some m.cls := findClass_of_methodNamed B.named
  have hlocks := B.notSynchronized
  subst hsz
  have hD := hD0.self (sz := s.heap.size)
  generalize hAe : va_A [(x0, .inr (10, [.ref xw, .ref xl, .ref xi, .ref xt, .int 0, .ref xq, .int 0, .ref xr, .ref xh, .ref xp, .ref xs_, .ref xa, .ref xm])), (xw, .inr (9, [.ref tnodes, .ref tpasses, .ref tjars, .ref torders, .ref tfeasts, .ref tway, .int (-1), .int 0, .int 0, .int 0])), (tjars, .inr (6, [.int 9, .ref tjarsA, .int 0]))] s.heap.size = A at hD ⊢
  have hA : ∀ q : Nat, s.heap.size ≤ q → A q := fun q h => by rw [← hAe]; exact Or.inr h
  have hS : va_S A s.heap s.heap [] := va_S.rf
  have hP : va_P (dC, dI) vwCl [(x0, .inr (10, [.ref xw, .ref xl, .ref xi, .ref xt, .int 0, .ref xq, .int 0, .ref xr, .ref xh, .ref xp, .ref xs_, .ref xa, .ref xm])), (xw, .inr (9, [.ref tnodes, .ref tpasses, .ref tjars, .ref torders, .ref tfeasts, .ref tway, .int (-1), .int 0, .int 0, .int 0])), (tjars, .inr (6, [.int 9, .ref tjarsA, .int 0]))] s.heap := hP
  have hl := lv_entry ([.ref x0, .int p1, .int p2]) (n := 3) (Nat.le_of_ble_eq_true rfl)
  rw [lg_entry_eq]
  generalize (lg_sl ([.ref x0, .int p1, .int p2]) ++ List.replicate (3 - (lg_sl ([.ref x0, .int p1, .int p2])).length) Slot.unset).toArray = ls at hl ⊢
  have hl : lv_has ls 3 [(0, .ref x0), (1, .int p1), (2, .int p2)] := hl
  refine lv_aload_n hx hb dX10_of_0 rfl (lv_at hl 0 rfl) ?_
  refine va_get (D := (dC, dI)) (ci := 10) (v := .ref xw) (C := RX10) (T := TX10) (N := 13) hx hb hts iX10_of_X10 hown hK.1 hP 0 rfl rfl 0 (by decide) (kX10_of_1 hts) (fun _ h9 => h9) rfl dX10_of_1 ?_
  refine va_get (D := (dC, dI)) (ci := 9) (v := .ref tjars) (C := RX9) (T := TX9) (N := 10) hx hb hts iX10_of_X9 hown hK.1 hP 1 rfl rfl 2 (by decide) (kX10_of_2 hts) (fun _ h9 => h9) rfl dX10_of_4 ?_
  refine lv_iload_n hx hb dX10_of_7 rfl (lv_at hl 1 rfl) ?_
  refine z_i (wr := [(x0, .inr (10, [.ref xw, .ref xl, .ref xi, .ref xt, .int 0, .ref xq, .int 0, .ref xr, .ref xh, .ref xp, .ref xs_, .ref xa, .ref xm])), (xw, .inr (9, [.ref tnodes, .ref tpasses, .ref tjars, .ref torders, .ref tfeasts, .ref tway, .int (-1), .int 0, .int 0, .int 0]))]) (va_runV (As := [.int p1]) (rest := []) ⟨hx, hb, hml, hown, hts⟩ (mX6_has l dC dI kA _ tjars tjarsA 9 p1) (cwV 1 hts gX10_of_X6_has rfl rfl rfl (by decide +kernel) ⟨(Nat.le_of_ble_eq_true rfl), (Nat.le_of_ble_eq_true rfl)⟩) ⟨zPc.blind, va_recv hK.1 hP (ci := 6) (q0 := 2) rfl rfl, zPre hK (hP.sub [2] rfl) (hD.sub [2] (by decide) rfl)⟩ rfl rfl hl.1 rfl (lv_room (Nat.le_of_ble_eq_true rfl)) dX10_of_8 ⟨(Nat.le_of_ble_eq_true rfl), (Nat.le_of_ble_eq_true rfl)⟩) hP hD hS hA [2] [0, 1] rfl rfl (by decide) (by decide) (fun r3 u1 H locs hw2 hP hD hS => ?_)
  obtain rfl := hw2
  have hP : va_P (dC, dI) vwCl [(x0, .inr (10, [.ref xw, .ref xl, .ref xi, .ref xt, .int 0, .ref xq, .int 0, .ref xr, .ref xh, .ref xp, .ref xs_, .ref xa, .ref xm])), (xw, .inr (9, [.ref tnodes, .ref tpasses, .ref tjars, .ref torders, .ref tfeasts, .ref tway, .int (-1), .int 0, .int 0, .int 0])), (tjars, .inr (6, [.int 9, .ref tjarsA, .int 0]))] H := hP
  have hD : va_D A [(x0, .inr (10, [.ref xw, .ref xl, .ref xi, .ref xt, .int 0, .ref xq, .int 0, .ref xr, .ref xh, .ref xp, .ref xs_, .ref xa, .ref xm])), (xw, .inr (9, [.ref tnodes, .ref tpasses, .ref tjars, .ref torders, .ref tfeasts, .ref tway, .int (-1), .int 0, .int 0, .int 0])), (tjars, .inr (6, [.int 9, .ref tjarsA, .int 0]))] := hD
  refine lv_if_eq (tgt := 23) hx hb dX10_of_11 (by decide) (fun _ => ?_) (fun c_4 => absurd (by decide) c_4)
  refine lv_bipush (v := (-2)) hx hb dX10_of_23 (by decide) ?_
  have hP9 := hP.sub (ws' := []) [] rfl
  have hD9 := hD.sub (ws' := []) [] (by decide) rfl
  refine W.widen (k := 0) (n := 0) (Nat.le_of_ble_eq_true rfl) (Nat.le_of_ble_eq_true rfl) ?_
  exact W.iret (v := (-2)) hx hb hr (fun t ht hW => ⟨⟨(-2), (), rfl, rfl, by rw [ht]; exact hP9, hD9⟩, hS.F ht⟩) hS.2.2 dX10_of_25
set_option maxHeartbeats 4000000 in
set_option maxRecDepth 100000 in
theorem mX10_melt (l : Launch) (dC : Nat → ClassId) (dI : Nat → Nat → Nat) (kA : Nat → ClassId) (sz : Nat) (x0 : Nat) (xw : Nat) (xl : Nat) (xi : Nat) (xt : Nat) (xq : Nat) (xr : Nat) (xh : Nat) (xp : Nat) (xs_ : Nat) (xa : Nat) (xm : Nat) (p1 : Int32) (p2 : Int32)  : Met l yX10_melt wsX10_melt ({ frames := 2, cells := 0, slots := 0, locals := 42 }) (zPc dC dI kA sz [.ref x0, .int p1, .int p2] [(x0, .inr (10, [.ref xw, .ref xl, .ref xi, .ref xt, .int 0, .ref xq, .int 0, .ref xr, .ref xh, .ref xp, .ref xs_, .ref xa, .ref xm]))]) (va_Qi (fun (r : Int32) (u : Unit) => r = (-1)) (zB dC dI (va_A [(x0, .inr (10, [.ref xw, .ref xl, .ref xi, .ref xt, .int 0, .ref xq, .int 0, .ref xr, .ref xh, .ref xp, .ref xs_, .ref xa, .ref xm]))] sz) (fun (u : Unit) => [])) (va_A [(x0, .inr (10, [.ref xw, .ref xl, .ref xi, .ref xt, .int 0, .ref xq, .int 0, .ref xr, .ref xh, .ref xp, .ref xs_, .ref xa, .ref xm]))] sz)) 0 0 (va_A [(x0, .inr (10, [.ref xw, .ref xl, .ref xi, .ref xt, .int 0, .ref xq, .int 0, .ref xr, .ref xh, .ref xp, .ref xs_, .ref xa, .ref xm]))] sz) := by
  refine Met.ofW (cc := cX10_melt) (maxL := 4) (ret := (some .int)) (by decide) rfl ?_
  intro p e s m args below meth c s₁ B hml hv
  obtain ⟨rfl, hsz, hP, hK, hD0⟩ := hv
  have hx := B.exec
  have hb := B.bytes
  have hr := B.returns
  have hts := atoms_spec (ws := wsX10_melt) B.pre
  have hown : s.vm.findClass RX10 = some m.cls := findClass_of_methodNamed B.named
  have hlocks := B.notSynchronized
  subst hsz
  have hD := hD0.self (sz := s.heap.size)
  generalize hAe : va_A [(x0, .inr (10, [.ref xw, .ref xl, .ref xi, .ref xt, .int 0, .ref xq, .int 0, .ref xr, .ref xh, .ref xp, .ref xs_, .ref xa, .ref xm]))] s.heap.size = A at hD ⊢
  have hA : ∀ q : Nat, s.heap.size ≤ q → A q := fun q h => by rw [← hAe]; exact Or.inr h
  have hS : va_S A s.heap s.heap [] := va_S.rf
  have hP : va_P (dC, dI) vwCl [(x0, .inr (10, [.ref xw, .ref xl, .ref xi, .ref xt, .int 0, .ref xq, .int 0, .ref xr, .ref xh, .ref xp, .ref xs_, .ref xa, .ref xm]))] s.heap := hP
  have hl := lv_entry ([.ref x0, .int p1, .int p2]) (n := 4) (Nat.le_of_ble_eq_true rfl)
  rw [lg_entry_eq]
  generalize (lg_sl ([.ref x0, .int p1, .int p2]) ++ List.replicate (4 - (lg_sl ([.ref x0, .int p1, .int p2])).length) Slot.unset).toArray = ls at hl ⊢
  have hl : lv_has ls 4 [(0, .ref x0), (1, .int p1), (2, .int p2)] := hl
  refine lv_aload_n hx hb dX10_melt_0 rfl (lv_at hl 0 rfl) ?_
  refine lv_iload_n hx hb dX10_melt_1 rfl (lv_at hl 1 rfl) ?_
  refine z_q (wr := []) (va_runV (As := [.int p1]) (rest := []) ⟨hx, hb, hml, hown, hts⟩ (mX10_lawOf l dC dI kA _ x0 xw xl xi xt xq xr xh xp xs_ xa xm p1) (cwV 1 hts gX10_melt_X10_lawOf rfl rfl rfl (by decide +kernel) ⟨(Nat.le_of_ble_eq_true rfl), (Nat.le_of_ble_eq_true rfl)⟩) ⟨zPc.blind, va_recv hK.1 hP (ci := 10) (q0 := 0) rfl rfl, zPre hK (hP.sub [0] rfl) (hD.sub [0] (by decide) rfl)⟩ rfl rfl hl.1 rfl (lv_room (Nat.le_of_ble_eq_true rfl)) dX10_melt_2 ⟨(Nat.le_of_ble_eq_true rfl), (Nat.le_of_ble_eq_true rfl)⟩) hP hD hS hA [0] [] rfl rfl (by decide) (by decide) (fun r3 u1 H locs hw2 hP hD hS => ?_)
  obtain rfl := hw2
  have hP : va_P (dC, dI) vwCl [(x0, .inr (10, [.ref xw, .ref xl, .ref xi, .ref xt, .int 0, .ref xq, .int 0, .ref xr, .ref xh, .ref xp, .ref xs_, .ref xa, .ref xm]))] H := hP
  have hD : va_D A [(x0, .inr (10, [.ref xw, .ref xl, .ref xi, .ref xt, .int 0, .ref xq, .int 0, .ref xr, .ref xh, .ref xp, .ref xs_, .ref xa, .ref xm]))] := hD
  refine zv .null rfl ?_
  refine lv_astore_nN (lv' := [(3, .null), (0, .ref x0), (1, .int p1), (2, .int p2)]) hx hb dX10_melt_5 rfl hl (by decide) rfl (fun ls hl => ?_)
  refine lv_aload_nN hx hb dX10_melt_6 rfl (lv_at hl 0 rfl) ?_
  refine lv_ifnullN (tgt := 41) hx hb dX10_melt_7 (by decide) ?_
  refine lv_iconst (v := (-1)) hx hb dX10_melt_41 (by decide) ?_
  have hP9 := hP.sub (ws' := []) [] rfl
  have hD9 := hD.sub (ws' := []) [] (by decide) rfl
  refine W.widen (k := 0) (n := 0) (Nat.le_of_ble_eq_true rfl) (Nat.le_of_ble_eq_true rfl) ?_
  exact W.iret (v := (-1)) hx hb hr (fun t ht hW => ⟨⟨(-1), (), rfl, rfl, by rw [ht]; exact hP9, hD9⟩, hS.F ht⟩) hS.2.2 dX10_melt_42
set_option maxHeartbeats 4000000 in
set_option maxRecDepth 100000 in
theorem mX10_lay (l : Launch) (dC : Nat → ClassId) (dI : Nat → Nat → Nat) (kA : Nat → ClassId) (sz : Nat) (x0 : Nat) (xw : Nat) (xl : Nat) (xi : Nat) (xt : Nat) (xq : Nat) (xr : Nat) (xh : Nat) (xp : Nat) (xs_ : Nat) (xa : Nat) (xm : Nat) (tnodes : Nat) (tpasses : Nat) (tjars : Nat) (torders : Nat) (tfeasts : Nat) (tway : Nat) (p1 : Int32)  : Met l yX10_lay wsX10_lay ({ frames := 0, cells := 0, slots := 0, locals := 0 }) (zPc dC dI kA sz [.ref x0, .int p1] [(x0, .inr (10, [.ref xw, .ref xl, .ref xi, .ref xt, .int 0, .ref xq, .int 0, .ref xr, .ref xh, .ref xp, .ref xs_, .ref xa, .ref xm])), (xw, .inr (9, [.ref tnodes, .ref tpasses, .ref tjars, .ref torders, .ref tfeasts, .ref tway, .int (-1), .int 0, .int 0, .int 0]))]) (va_Qi (fun (r : Int32) (u : Unit) => r = (-1)) (zB dC dI (va_A [(x0, .inr (10, [.ref xw, .ref xl, .ref xi, .ref xt, .int 0, .ref xq, .int 0, .ref xr, .ref xh, .ref xp, .ref xs_, .ref xa, .ref xm])), (xw, .inr (9, [.ref tnodes, .ref tpasses, .ref tjars, .ref torders, .ref tfeasts, .ref tway, .int (-1), .int 0, .int 0, .int 0]))] sz) (fun (u : Unit) => [])) (va_A [(x0, .inr (10, [.ref xw, .ref xl, .ref xi, .ref xt, .int 0, .ref xq, .int 0, .ref xr, .ref xh, .ref xp, .ref xs_, .ref xa, .ref xm])), (xw, .inr (9, [.ref tnodes, .ref tpasses, .ref tjars, .ref torders, .ref tfeasts, .ref tway, .int (-1), .int 0, .int 0, .int 0]))] sz)) 0 0 (va_A [(x0, .inr (10, [.ref xw, .ref xl, .ref xi, .ref xt, .int 0, .ref xq, .int 0, .ref xr, .ref xh, .ref xp, .ref xs_, .ref xa, .ref xm])), (xw, .inr (9, [.ref tnodes, .ref tpasses, .ref tjars, .ref torders, .ref tfeasts, .ref tway, .int (-1), .int 0, .int 0, .int 0]))] sz) := by
  refine Met.ofW (cc := cX10_lay) (maxL := 4) (ret := (some .int)) (by decide) rfl ?_
  intro p e s m args below meth c s₁ B hml hv
  obtain ⟨rfl, hsz, hP, hK, hD0⟩ := hv
  have hx := B.exec
  have hb := B.bytes
  have hr := B.returns
  have hts := atoms_spec (ws := wsX10_lay) B.pre
  have hown : s.vm.findClass RX10 = some m.cls := findClass_of_methodNamed B.named
  have hlocks := B.notSynchronized
  subst hsz
  have hD := hD0.self (sz := s.heap.size)
  generalize hAe : va_A [(x0, .inr (10, [.ref xw, .ref xl, .ref xi, .ref xt, .int 0, .ref xq, .int 0, .ref xr, .ref xh, .ref xp, .ref xs_, .ref xa, .ref xm])), (xw, .inr (9, [.ref tnodes, .ref tpasses, .ref tjars, .ref torders, .ref tfeasts, .ref tway, .int (-1), .int 0, .int 0, .int 0]))] s.heap.size = A at hD ⊢
  have hA : ∀ q : Nat, s.heap.size ≤ q → A q := fun q h => by rw [← hAe]; exact Or.inr h
  have hS : va_S A s.heap s.heap [] := va_S.rf
  have hP : va_P (dC, dI) vwCl [(x0, .inr (10, [.ref xw, .ref xl, .ref xi, .ref xt, .int 0, .ref xq, .int 0, .ref xr, .ref xh, .ref xp, .ref xs_, .ref xa, .ref xm])), (xw, .inr (9, [.ref tnodes, .ref tpasses, .ref tjars, .ref torders, .ref tfeasts, .ref tway, .int (-1), .int 0, .int 0, .int 0]))] s.heap := hP
  have hl := lv_entry ([.ref x0, .int p1]) (n := 4) (Nat.le_of_ble_eq_true rfl)
  rw [lg_entry_eq]
  generalize (lg_sl ([.ref x0, .int p1]) ++ List.replicate (4 - (lg_sl ([.ref x0, .int p1])).length) Slot.unset).toArray = ls at hl ⊢
  have hl : lv_has ls 4 [(0, .ref x0), (1, .int p1)] := hl
  refine lv_aload_n hx hb dX10_lay_0 rfl (lv_at hl 0 rfl) ?_
  refine va_get (D := (dC, dI)) (ci := 10) (v := .ref xw) (C := RX10) (T := TX10) (N := 13) hx hb hts iX10_lay_X10 hown hK.1 hP 0 rfl rfl 0 (by decide) (kX10_lay_1 hts) (fun _ h9 => h9) rfl dX10_lay_1 ?_
  refine va_get (D := (dC, dI)) (ci := 9) (v := .int (-1)) (C := RX9) (T := TX9) (N := 10) hx hb hts iX10_lay_X9 hown hK.1 hP 1 rfl rfl 6 (by decide) (kX10_lay_2 hts) (fun _ h9 => h9) rfl dX10_lay_4 ?_
  refine lv_iconst (v := (-1)) hx hb dX10_lay_7 (by decide) ?_
  refine lv_icmp_ne (tgt := 15) hx hb dX10_lay_8 (by decide) (fun c_1 => absurd (by decide) c_1) (fun _ => ?_)
  refine lv_iconst (v := (-1)) hx hb dX10_lay_11 (by decide) ?_
  refine lv_goto (tgt := 30) hx hb dX10_lay_12 (by decide) ?_
  refine lv_istore_n (lv' := [(2, .int (-1)), (0, .ref x0), (1, .int p1)]) hx hb dX10_lay_30 rfl hl (by decide) rfl (fun ls hl => ?_)
  refine lv_iload_n hx hb dX10_lay_31 rfl (lv_at hl 0 rfl) ?_
  refine lv_iconst (v := (-1)) hx hb dX10_lay_32 (by decide) ?_
  refine lv_icmp_eq (tgt := 47) hx hb dX10_lay_33 (by decide) (fun _ => ?_) (fun c_2 => absurd (by decide) c_2)
  refine lv_iconst (v := (-1)) hx hb dX10_lay_47 (by decide) ?_
  have hP9 := hP.sub (ws' := []) [] rfl
  have hD9 := hD.sub (ws' := []) [] (by decide) rfl
  refine W.widen (k := 0) (n := 0) (Nat.le_of_ble_eq_true rfl) (Nat.le_of_ble_eq_true rfl) ?_
  exact W.iret (v := (-1)) hx hb hr (fun t ht hW => ⟨⟨(-1), (), rfl, rfl, by rw [ht]; exact hP9, hD9⟩, hS.F ht⟩) hS.2.2 dX10_lay_48
set_option maxHeartbeats 4000000 in
set_option maxRecDepth 100000 in
theorem mX10_from (l : Launch) (dC : Nat → ClassId) (dI : Nat → Nat → Nat) (kA : Nat → ClassId) (sz : Nat) (x0 : Nat) (xw : Nat) (xl : Nat) (xi : Nat) (xt : Nat) (xq : Nat) (xr : Nat) (xh : Nat) (xp : Nat) (xs_ : Nat) (xa : Nat) (xm : Nat) (tnodes : Nat) (tnodesA : Nat) (tpasses : Nat) (tjars : Nat) (torders : Nat) (tfeasts : Nat) (tway : Nat) (p1 : Int32)  : Met l yX10_from wsX10_from ({ frames := 1, cells := 0, slots := 0, locals := 21 }) (zPc dC dI kA sz [.ref x0, .int p1] [(x0, .inr (10, [.ref xw, .ref xl, .ref xi, .ref xt, .int 0, .ref xq, .int 0, .ref xr, .ref xh, .ref xp, .ref xs_, .ref xa, .ref xm])), (xw, .inr (9, [.ref tnodes, .ref tpasses, .ref tjars, .ref torders, .ref tfeasts, .ref tway, .int (-1), .int 0, .int 0, .int 0])), (tnodes, .inr (6, [.int 4, .ref tnodesA, .int 0]))]) (va_Qi (fun (r : Int32) (u : Unit) => r = 0) (zB dC dI (va_A [(x0, .inr (10, [.ref xw, .ref xl, .ref xi, .ref xt, .int 0, .ref xq, .int 0, .ref xr, .ref xh, .ref xp, .ref xs_, .ref xa, .ref xm])), (xw, .inr (9, [.ref tnodes, .ref tpasses, .ref tjars, .ref torders, .ref tfeasts, .ref tway, .int (-1), .int 0, .int 0, .int 0])), (tnodes, .inr (6, [.int 4, .ref tnodesA, .int 0]))] sz) (fun (u : Unit) => [])) (va_A [(x0, .inr (10, [.ref xw, .ref xl, .ref xi, .ref xt, .int 0, .ref xq, .int 0, .ref xr, .ref xh, .ref xp, .ref xs_, .ref xa, .ref xm])), (xw, .inr (9, [.ref tnodes, .ref tpasses, .ref tjars, .ref torders, .ref tfeasts, .ref tway, .int (-1), .int 0, .int 0, .int 0])), (tnodes, .inr (6, [.int 4, .ref tnodesA, .int 0]))] sz)) 0 0 (va_A [(x0, .inr (10, [.ref xw, .ref xl, .ref xi, .ref xt, .int 0, .ref xq, .int 0, .ref xr, .ref xh, .ref xp, .ref xs_, .ref xa, .ref xm])), (xw, .inr (9, [.ref tnodes, .ref tpasses, .ref tjars, .ref torders, .ref tfeasts, .ref tway, .int (-1), .int 0, .int 0, .int 0])), (tnodes, .inr (6, [.int 4, .ref tnodesA, .int 0]))] sz) := by
  refine Met.ofW (cc := cX10_from) (maxL := 2) (ret := (some .boolean)) (by decide) rfl ?_
  intro p e s m args below meth c s₁ B hml hv
  obtain ⟨rfl, hsz, hP, hK, hD0⟩ := hv
  have hx := B.exec
  have hb := B.bytes
  have hr := B.returns
  have hts := atoms_spec (ws := wsX10_from) B.pre
  have hown : s.vm.findClass RX10 = some m.cls := findClass_of_methodNamed B.named
  have hlocks := B.notSynchronized
  subst hsz
  have hD := hD0.self (sz := s.heap.size)
  generalize hAe : va_A [(x0, .inr (10, [.ref xw, .ref xl, .ref xi, .ref xt, .int 0, .ref xq, .int 0, .ref xr, .ref xh, .ref xp, .ref xs_, .ref xa, .ref xm])), (xw, .inr (9, [.ref tnodes, .ref tpasses, .ref tjars, .ref torders, .ref tfeasts, .ref tway, .int (-1), .int 0, .int 0, .int 0])), (tnodes, .inr (6, [.int 4, .ref tnodesA, .int 0]))] s.heap.size = A at hD ⊢
  have hA : ∀ q : Nat, s.heap.size ≤ q → A q := fun q h => by rw [← hAe]; exact Or.inr h
  have hS : va_S A s.heap s.heap [] := va_S.rf
  have hP : va_P (dC, dI) vwCl [(x0, .inr (10, [.ref xw, .ref xl, .ref xi, .ref xt, .int 0, .ref xq, .int 0, .ref xr, .ref xh, .ref xp, .ref xs_, .ref xa, .ref xm])), (xw, .inr (9, [.ref tnodes, .ref tpasses, .ref tjars, .ref torders, .ref tfeasts, .ref tway, .int (-1), .int 0, .int 0, .int 0])), (tnodes, .inr (6, [.int 4, .ref tnodesA, .int 0]))] s.heap := hP
  have hl := lv_entry ([.ref x0, .int p1]) (n := 2) (Nat.le_of_ble_eq_true rfl)
  rw [lg_entry_eq]
  generalize (lg_sl ([.ref x0, .int p1]) ++ List.replicate (2 - (lg_sl ([.ref x0, .int p1])).length) Slot.unset).toArray = ls at hl ⊢
  have hl : lv_has ls 2 [(0, .ref x0), (1, .int p1)] := hl
  refine lv_aload_n hx hb dX10_from_0 rfl (lv_at hl 0 rfl) ?_
  refine va_get (D := (dC, dI)) (ci := 10) (v := .ref xw) (C := RX10) (T := TX10) (N := 13) hx hb hts iX10_from_X10 hown hK.1 hP 0 rfl rfl 0 (by decide) (kX10_from_1 hts) (fun _ h9 => h9) rfl dX10_from_1 ?_
  refine va_get (D := (dC, dI)) (ci := 9) (v := .ref tnodes) (C := RX9) (T := TX9) (N := 10) hx hb hts iX10_from_X9 hown hK.1 hP 1 rfl rfl 0 (by decide) (kX10_from_2 hts) (fun _ h9 => h9) rfl dX10_from_4 ?_
  refine lv_iload_n hx hb dX10_from_7 rfl (lv_at hl 1 rfl) ?_
  refine z_i (wr := [(x0, .inr (10, [.ref xw, .ref xl, .ref xi, .ref xt, .int 0, .ref xq, .int 0, .ref xr, .ref xh, .ref xp, .ref xs_, .ref xa, .ref xm])), (xw, .inr (9, [.ref tnodes, .ref tpasses, .ref tjars, .ref torders, .ref tfeasts, .ref tway, .int (-1), .int 0, .int 0, .int 0]))]) (va_runV (As := [.int p1]) (rest := []) ⟨hx, hb, hml, hown, hts⟩ (mX6_has l dC dI kA _ tnodes tnodesA 4 p1) (cwV 1 hts gX10_from_X6_has rfl rfl rfl (by decide +kernel) ⟨(Nat.le_of_ble_eq_true rfl), (Nat.le_of_ble_eq_true rfl)⟩) ⟨zPc.blind, va_recv hK.1 hP (ci := 6) (q0 := 2) rfl rfl, zPre hK (hP.sub [2] rfl) (hD.sub [2] (by decide) rfl)⟩ rfl rfl hl.1 rfl (lv_room (Nat.le_of_ble_eq_true rfl)) dX10_from_8 ⟨(Nat.le_of_ble_eq_true rfl), (Nat.le_of_ble_eq_true rfl)⟩) hP hD hS hA [2] [0, 1] rfl rfl (by decide) (by decide) (fun r3 u1 H locs hw2 hP hD hS => ?_)
  obtain rfl := hw2
  have hP : va_P (dC, dI) vwCl [(x0, .inr (10, [.ref xw, .ref xl, .ref xi, .ref xt, .int 0, .ref xq, .int 0, .ref xr, .ref xh, .ref xp, .ref xs_, .ref xa, .ref xm])), (xw, .inr (9, [.ref tnodes, .ref tpasses, .ref tjars, .ref torders, .ref tfeasts, .ref tway, .int (-1), .int 0, .int 0, .int 0])), (tnodes, .inr (6, [.int 4, .ref tnodesA, .int 0]))] H := hP
  have hD : va_D A [(x0, .inr (10, [.ref xw, .ref xl, .ref xi, .ref xt, .int 0, .ref xq, .int 0, .ref xr, .ref xh, .ref xp, .ref xs_, .ref xa, .ref xm])), (xw, .inr (9, [.ref tnodes, .ref tpasses, .ref tjars, .ref torders, .ref tfeasts, .ref tway, .int (-1), .int 0, .int 0, .int 0])), (tnodes, .inr (6, [.int 4, .ref tnodesA, .int 0]))] := hD
  refine lv_if_ne (tgt := 16) hx hb dX10_from_11 (by decide) (fun c_4 => absurd (by decide) c_4) (fun _ => ?_)
  refine lv_iconst (v := 0) hx hb dX10_from_14 (by decide) ?_
  have hP9 := hP.sub (ws' := []) [] rfl
  have hD9 := hD.sub (ws' := []) [] (by decide) rfl
  refine W.widen (k := 0) (n := 0) (Nat.le_of_ble_eq_true rfl) (Nat.le_of_ble_eq_true rfl) ?_
  exact W.zret (v := 0) hx hb hr rfl (fun t ht hW => ⟨⟨0, (), rfl, rfl, by rw [ht]; exact hP9, hD9⟩, hS.F ht⟩) hS.2.2 dX10_from_15
set_option maxHeartbeats 4000000 in
set_option maxRecDepth 100000 in
theorem mX10_tried (l : Launch) (dC : Nat → ClassId) (dI : Nat → Nat → Nat) (kA : Nat → ClassId) (sz : Nat) (x0 : Nat) (xw : Nat) (xl : Nat) (xi : Nat) (xt : Nat) (xq : Nat) (xr : Nat) (xh : Nat) (xp : Nat) (xs_ : Nat) (xa : Nat) (xm : Nat) (p1 : Int32) (p2 : Int32) (p3 : Int32) (p4 : Int32) (p5 : Int32) (p6 : Int32)  : Met l yX10_tried wsX10_tried ({ frames := 2, cells := 0, slots := 0, locals := 42 }) (zPc dC dI kA sz [.ref x0, .int p1, .int p2, .int p3, .int p4, .int p5, .int p6] [(x0, .inr (10, [.ref xw, .ref xl, .ref xi, .ref xt, .int 0, .ref xq, .int 0, .ref xr, .ref xh, .ref xp, .ref xs_, .ref xa, .ref xm]))]) (va_Qi (fun (r : Int32) (u : Unit) => r = (-1)) (zB dC dI (va_A [(x0, .inr (10, [.ref xw, .ref xl, .ref xi, .ref xt, .int 0, .ref xq, .int 0, .ref xr, .ref xh, .ref xp, .ref xs_, .ref xa, .ref xm]))] sz) (fun (u : Unit) => [])) (va_A [(x0, .inr (10, [.ref xw, .ref xl, .ref xi, .ref xt, .int 0, .ref xq, .int 0, .ref xr, .ref xh, .ref xp, .ref xs_, .ref xa, .ref xm]))] sz)) 0 0 (va_A [(x0, .inr (10, [.ref xw, .ref xl, .ref xi, .ref xt, .int 0, .ref xq, .int 0, .ref xr, .ref xh, .ref xp, .ref xs_, .ref xa, .ref xm]))] sz) := by
  refine Met.ofW (cc := cX10_tried) (maxL := 8) (ret := (some .int)) (by decide) rfl ?_
  intro p e s m args below meth c s₁ B hml hv
  obtain ⟨rfl, hsz, hP, hK, hD0⟩ := hv
  have hx := B.exec
  have hb := B.bytes
  have hr := B.returns
  have hts := atoms_spec (ws := wsX10_tried) B.pre
  have hown : s.vm.findClass RX10 = some m.cls := findClass_of_methodNamed B.named
  have hlocks := B.notSynchronized
  subst hsz
  have hD := hD0.self (sz := s.heap.size)
  generalize hAe : va_A [(x0, .inr (10, [.ref xw, .ref xl, .ref xi, .ref xt, .int 0, .ref xq, .int 0, .ref xr, .ref xh, .ref xp, .ref xs_, .ref xa, .ref xm]))] s.heap.size = A at hD ⊢
  have hA : ∀ q : Nat, s.heap.size ≤ q → A q := fun q h => by rw [← hAe]; exact Or.inr h
  have hS : va_S A s.heap s.heap [] := va_S.rf
  have hP : va_P (dC, dI) vwCl [(x0, .inr (10, [.ref xw, .ref xl, .ref xi, .ref xt, .int 0, .ref xq, .int 0, .ref xr, .ref xh, .ref xp, .ref xs_, .ref xa, .ref xm]))] s.heap := hP
  have hl := lv_entry ([.ref x0, .int p1, .int p2, .int p3, .int p4, .int p5, .int p6]) (n := 8) (Nat.le_of_ble_eq_true rfl)
  rw [lg_entry_eq]
  generalize (lg_sl ([.ref x0, .int p1, .int p2, .int p3, .int p4, .int p5, .int p6]) ++ List.replicate (8 - (lg_sl ([.ref x0, .int p1, .int p2, .int p3, .int p4, .int p5, .int p6])).length) Slot.unset).toArray = ls at hl ⊢
  have hl : lv_has ls 8 [(0, .ref x0), (1, .int p1), (2, .int p2), (3, .int p3), (4, .int p4), (5, .int p5), (6, .int p6)] := hl
  refine lv_aload_n hx hb dX10_tried_0 rfl (lv_at hl 0 rfl) ?_
  refine lv_iload_n hx hb dX10_tried_1 rfl (lv_at hl 1 rfl) ?_
  refine z_q (wr := []) (va_runV (As := [.int p1]) (rest := []) ⟨hx, hb, hml, hown, hts⟩ (mX10_lawOf l dC dI kA _ x0 xw xl xi xt xq xr xh xp xs_ xa xm p1) (cwV 1 hts gX10_tried_X10_lawOf rfl rfl rfl (by decide +kernel) ⟨(Nat.le_of_ble_eq_true rfl), (Nat.le_of_ble_eq_true rfl)⟩) ⟨zPc.blind, va_recv hK.1 hP (ci := 10) (q0 := 0) rfl rfl, zPre hK (hP.sub [0] rfl) (hD.sub [0] (by decide) rfl)⟩ rfl rfl hl.1 rfl (lv_room (Nat.le_of_ble_eq_true rfl)) dX10_tried_2 ⟨(Nat.le_of_ble_eq_true rfl), (Nat.le_of_ble_eq_true rfl)⟩) hP hD hS hA [0] [] rfl rfl (by decide) (by decide) (fun r3 u1 H locs hw2 hP hD hS => ?_)
  obtain rfl := hw2
  have hP : va_P (dC, dI) vwCl [(x0, .inr (10, [.ref xw, .ref xl, .ref xi, .ref xt, .int 0, .ref xq, .int 0, .ref xr, .ref xh, .ref xp, .ref xs_, .ref xa, .ref xm]))] H := hP
  have hD : va_D A [(x0, .inr (10, [.ref xw, .ref xl, .ref xi, .ref xt, .int 0, .ref xq, .int 0, .ref xr, .ref xh, .ref xp, .ref xs_, .ref xa, .ref xm]))] := hD
  refine zv .null rfl ?_
  refine lv_astoreN (lv' := [(7, .null), (0, .ref x0), (1, .int p1), (2, .int p2), (3, .int p3), (4, .int p4), (5, .int p5), (6, .int p6)]) hx hb dX10_tried_5 hl (by decide) rfl (fun ls hl => ?_)
  refine lv_aloadN hx hb dX10_tried_7 (lv_at hl 0 rfl) ?_
  refine lv_ifnullN (tgt := 44) hx hb dX10_tried_9 (by decide) ?_
  refine lv_iconst (v := (-1)) hx hb dX10_tried_44 (by decide) ?_
  have hP9 := hP.sub (ws' := []) [] rfl
  have hD9 := hD.sub (ws' := []) [] (by decide) rfl
  refine W.widen (k := 0) (n := 0) (Nat.le_of_ble_eq_true rfl) (Nat.le_of_ble_eq_true rfl) ?_
  exact W.iret (v := (-1)) hx hb hr (fun t ht hW => ⟨⟨(-1), (), rfl, rfl, by rw [ht]; exact hP9, hD9⟩, hS.F ht⟩) hS.2.2 dX10_tried_45
set_option maxHeartbeats 4000000 in
set_option maxRecDepth 100000 in
theorem mX10_best (l : Launch) (dC : Nat → ClassId) (dI : Nat → Nat → Nat) (kA : Nat → ClassId) (sz : Nat) (x0 : Nat) (xw : Nat) (xl : Nat) (xi : Nat) (xt : Nat) (xq : Nat) (xr : Nat) (xh : Nat) (xp : Nat) (xs_ : Nat) (xa : Nat) (xm : Nat) (p1 : Int32) (p2 : Int32) (p3 : Int32) (p4 : Int32) (p5 : Int32) (p6 : Int32) (p7 : Int32) (p8 : Int32)  : Met l yX10_best wsX10_best ({ frames := 2, cells := 0, slots := 0, locals := 42 }) (zPc dC dI kA sz [.ref x0, .int p1, .int p2, .int p3, .int p4, .int p5, .int p6, .int p7, .int p8] [(x0, .inr (10, [.ref xw, .ref xl, .ref xi, .ref xt, .int 0, .ref xq, .int 0, .ref xr, .ref xh, .ref xp, .ref xs_, .ref xa, .ref xm]))]) (va_Qi (fun (r : Int32) (u : Unit) => r = (-1)) (zB dC dI (va_A [(x0, .inr (10, [.ref xw, .ref xl, .ref xi, .ref xt, .int 0, .ref xq, .int 0, .ref xr, .ref xh, .ref xp, .ref xs_, .ref xa, .ref xm]))] sz) (fun (u : Unit) => [])) (va_A [(x0, .inr (10, [.ref xw, .ref xl, .ref xi, .ref xt, .int 0, .ref xq, .int 0, .ref xr, .ref xh, .ref xp, .ref xs_, .ref xa, .ref xm]))] sz)) 0 0 (va_A [(x0, .inr (10, [.ref xw, .ref xl, .ref xi, .ref xt, .int 0, .ref xq, .int 0, .ref xr, .ref xh, .ref xp, .ref xs_, .ref xa, .ref xm]))] sz) := by
  refine Met.ofW (cc := cX10_best) (maxL := 10) (ret := (some .int)) (by decide) rfl ?_
  intro p e s m args below meth c s₁ B hml hv
  obtain ⟨rfl, hsz, hP, hK, hD0⟩ := hv
  have hx := B.exec
  have hb := B.bytes
  have hr := B.returns
  have hts := atoms_spec (ws := wsX10_best) B.pre
  have hown : s.vm.findClass RX10 = some m.cls := findClass_of_methodNamed B.named
  have hlocks := B.notSynchronized
  subst hsz
  have hD := hD0.self (sz := s.heap.size)
  generalize hAe : va_A [(x0, .inr (10, [.ref xw, .ref xl, .ref xi, .ref xt, .int 0, .ref xq, .int 0, .ref xr, .ref xh, .ref xp, .ref xs_, .ref xa, .ref xm]))] s.heap.size = A at hD ⊢
  have hA : ∀ q : Nat, s.heap.size ≤ q → A q := fun q h => by rw [← hAe]; exact Or.inr h
  have hS : va_S A s.heap s.heap [] := va_S.rf
  have hP : va_P (dC, dI) vwCl [(x0, .inr (10, [.ref xw, .ref xl, .ref xi, .ref xt, .int 0, .ref xq, .int 0, .ref xr, .ref xh, .ref xp, .ref xs_, .ref xa, .ref xm]))] s.heap := hP
  have hl := lv_entry ([.ref x0, .int p1, .int p2, .int p3, .int p4, .int p5, .int p6, .int p7, .int p8]) (n := 10) (Nat.le_of_ble_eq_true rfl)
  rw [lg_entry_eq]
  generalize (lg_sl ([.ref x0, .int p1, .int p2, .int p3, .int p4, .int p5, .int p6, .int p7, .int p8]) ++ List.replicate (10 - (lg_sl ([.ref x0, .int p1, .int p2, .int p3, .int p4, .int p5, .int p6, .int p7, .int p8])).length) Slot.unset).toArray = ls at hl ⊢
  have hl : lv_has ls 10 [(0, .ref x0), (1, .int p1), (2, .int p2), (3, .int p3), (4, .int p4), (5, .int p5), (6, .int p6), (7, .int p7), (8, .int p8)] := hl
  refine lv_aload_n hx hb dX10_best_0 rfl (lv_at hl 0 rfl) ?_
  refine lv_iload_n hx hb dX10_best_1 rfl (lv_at hl 1 rfl) ?_
  refine z_q (wr := []) (va_runV (As := [.int p1]) (rest := []) ⟨hx, hb, hml, hown, hts⟩ (mX10_lawOf l dC dI kA _ x0 xw xl xi xt xq xr xh xp xs_ xa xm p1) (cwV 1 hts gX10_best_X10_lawOf rfl rfl rfl (by decide +kernel) ⟨(Nat.le_of_ble_eq_true rfl), (Nat.le_of_ble_eq_true rfl)⟩) ⟨zPc.blind, va_recv hK.1 hP (ci := 10) (q0 := 0) rfl rfl, zPre hK (hP.sub [0] rfl) (hD.sub [0] (by decide) rfl)⟩ rfl rfl hl.1 rfl (lv_room (Nat.le_of_ble_eq_true rfl)) dX10_best_2 ⟨(Nat.le_of_ble_eq_true rfl), (Nat.le_of_ble_eq_true rfl)⟩) hP hD hS hA [0] [] rfl rfl (by decide) (by decide) (fun r3 u1 H locs hw2 hP hD hS => ?_)
  obtain rfl := hw2
  have hP : va_P (dC, dI) vwCl [(x0, .inr (10, [.ref xw, .ref xl, .ref xi, .ref xt, .int 0, .ref xq, .int 0, .ref xr, .ref xh, .ref xp, .ref xs_, .ref xa, .ref xm]))] H := hP
  have hD : va_D A [(x0, .inr (10, [.ref xw, .ref xl, .ref xi, .ref xt, .int 0, .ref xq, .int 0, .ref xr, .ref xh, .ref xp, .ref xs_, .ref xa, .ref xm]))] := hD
  refine zv .null rfl ?_
  refine lv_astoreN (lv' := [(9, .null), (0, .ref x0), (1, .int p1), (2, .int p2), (3, .int p3), (4, .int p4), (5, .int p5), (6, .int p6), (7, .int p7), (8, .int p8)]) hx hb dX10_best_5 hl (by decide) rfl (fun ls hl => ?_)
  refine lv_aloadN hx hb dX10_best_7 (lv_at hl 0 rfl) ?_
  refine lv_ifnullN (tgt := 45) hx hb dX10_best_9 (by decide) ?_
  refine lv_iconst (v := (-1)) hx hb dX10_best_45 (by decide) ?_
  have hP9 := hP.sub (ws' := []) [] rfl
  have hD9 := hD.sub (ws' := []) [] (by decide) rfl
  refine W.widen (k := 0) (n := 0) (Nat.le_of_ble_eq_true rfl) (Nat.le_of_ble_eq_true rfl) ?_
  exact W.iret (v := (-1)) hx hb hr (fun t ht hW => ⟨⟨(-1), (), rfl, rfl, by rw [ht]; exact hP9, hD9⟩, hS.F ht⟩) hS.2.2 dX10_best_46
set_option maxHeartbeats 4000000 in
set_option maxRecDepth 100000 in
theorem mX10_soonest (l : Launch) (dC : Nat → ClassId) (dI : Nat → Nat → Nat) (kA : Nat → ClassId) (sz : Nat) (x0 : Nat) (xw : Nat) (xl : Nat) (xi : Nat) (xt : Nat) (xq : Nat) (xr : Nat) (xh : Nat) (xp : Nat) (xs_ : Nat) (xa : Nat) (xm : Nat) (tnodes : Nat) (tnodesA : Nat) (tpasses : Nat) (tjars : Nat) (torders : Nat) (tfeasts : Nat) (tway : Nat) (p1 : Int32) (p2 : Int32)  : Met l yX10_soonest wsX10_soonest ({ frames := 1, cells := 0, slots := 0, locals := 21 }) (zPc dC dI kA sz [.ref x0, .int p1, .int p2] [(x0, .inr (10, [.ref xw, .ref xl, .ref xi, .ref xt, .int 0, .ref xq, .int 0, .ref xr, .ref xh, .ref xp, .ref xs_, .ref xa, .ref xm])), (xw, .inr (9, [.ref tnodes, .ref tpasses, .ref tjars, .ref torders, .ref tfeasts, .ref tway, .int (-1), .int 0, .int 0, .int 0])), (tnodes, .inr (6, [.int 4, .ref tnodesA, .int 0]))]) (va_Qi (fun (r : Int32) (u : Unit) => r = (-1)) (zB dC dI (va_A [(x0, .inr (10, [.ref xw, .ref xl, .ref xi, .ref xt, .int 0, .ref xq, .int 0, .ref xr, .ref xh, .ref xp, .ref xs_, .ref xa, .ref xm])), (xw, .inr (9, [.ref tnodes, .ref tpasses, .ref tjars, .ref torders, .ref tfeasts, .ref tway, .int (-1), .int 0, .int 0, .int 0])), (tnodes, .inr (6, [.int 4, .ref tnodesA, .int 0]))] sz) (fun (u : Unit) => [])) (va_A [(x0, .inr (10, [.ref xw, .ref xl, .ref xi, .ref xt, .int 0, .ref xq, .int 0, .ref xr, .ref xh, .ref xp, .ref xs_, .ref xa, .ref xm])), (xw, .inr (9, [.ref tnodes, .ref tpasses, .ref tjars, .ref torders, .ref tfeasts, .ref tway, .int (-1), .int 0, .int 0, .int 0])), (tnodes, .inr (6, [.int 4, .ref tnodesA, .int 0]))] sz)) 0 0 (va_A [(x0, .inr (10, [.ref xw, .ref xl, .ref xi, .ref xt, .int 0, .ref xq, .int 0, .ref xr, .ref xh, .ref xp, .ref xs_, .ref xa, .ref xm])), (xw, .inr (9, [.ref tnodes, .ref tpasses, .ref tjars, .ref torders, .ref tfeasts, .ref tway, .int (-1), .int 0, .int 0, .int 0])), (tnodes, .inr (6, [.int 4, .ref tnodesA, .int 0]))] sz) := by
  refine Met.ofW (cc := cX10_soonest) (maxL := 4) (ret := (some .int)) (by decide) rfl ?_
  intro p e s m args below meth c s₁ B hml hv
  obtain ⟨rfl, hsz, hP, hK, hD0⟩ := hv
  have hx := B.exec
  have hb := B.bytes
  have hr := B.returns
  have hts := atoms_spec (ws := wsX10_soonest) B.pre
  have hown : s.vm.findClass RX10 = some m.cls := findClass_of_methodNamed B.named
  have hlocks := B.notSynchronized
  subst hsz
  have hD := hD0.self (sz := s.heap.size)
  generalize hAe : va_A [(x0, .inr (10, [.ref xw, .ref xl, .ref xi, .ref xt, .int 0, .ref xq, .int 0, .ref xr, .ref xh, .ref xp, .ref xs_, .ref xa, .ref xm])), (xw, .inr (9, [.ref tnodes, .ref tpasses, .ref tjars, .ref torders, .ref tfeasts, .ref tway, .int (-1), .int 0, .int 0, .int 0])), (tnodes, .inr (6, [.int 4, .ref tnodesA, .int 0]))] s.heap.size = A at hD ⊢
  have hA : ∀ q : Nat, s.heap.size ≤ q → A q := fun q h => by rw [← hAe]; exact Or.inr h
  have hS : va_S A s.heap s.heap [] := va_S.rf
  have hP : va_P (dC, dI) vwCl [(x0, .inr (10, [.ref xw, .ref xl, .ref xi, .ref xt, .int 0, .ref xq, .int 0, .ref xr, .ref xh, .ref xp, .ref xs_, .ref xa, .ref xm])), (xw, .inr (9, [.ref tnodes, .ref tpasses, .ref tjars, .ref torders, .ref tfeasts, .ref tway, .int (-1), .int 0, .int 0, .int 0])), (tnodes, .inr (6, [.int 4, .ref tnodesA, .int 0]))] s.heap := hP
  have hl := lv_entry ([.ref x0, .int p1, .int p2]) (n := 4) (Nat.le_of_ble_eq_true rfl)
  rw [lg_entry_eq]
  generalize (lg_sl ([.ref x0, .int p1, .int p2]) ++ List.replicate (4 - (lg_sl ([.ref x0, .int p1, .int p2])).length) Slot.unset).toArray = ls at hl ⊢
  have hl : lv_has ls 4 [(0, .ref x0), (1, .int p1), (2, .int p2)] := hl
  refine lv_aload_n hx hb dX10_soonest_0 rfl (lv_at hl 0 rfl) ?_
  refine va_get (D := (dC, dI)) (ci := 10) (v := .ref xw) (C := RX10) (T := TX10) (N := 13) hx hb hts iX10_soonest_X10 hown hK.1 hP 0 rfl rfl 0 (by decide) (kX10_soonest_1 hts) (fun _ h9 => h9) rfl dX10_soonest_1 ?_
  refine va_get (D := (dC, dI)) (ci := 9) (v := .ref tnodes) (C := RX9) (T := TX9) (N := 10) hx hb hts iX10_soonest_X9 hown hK.1 hP 1 rfl rfl 0 (by decide) (kX10_soonest_2 hts) (fun _ h9 => h9) rfl dX10_soonest_4 ?_
  refine lv_iload_n hx hb dX10_soonest_7 rfl (lv_at hl 1 rfl) ?_
  refine z_i (wr := [(x0, .inr (10, [.ref xw, .ref xl, .ref xi, .ref xt, .int 0, .ref xq, .int 0, .ref xr, .ref xh, .ref xp, .ref xs_, .ref xa, .ref xm])), (xw, .inr (9, [.ref tnodes, .ref tpasses, .ref tjars, .ref torders, .ref tfeasts, .ref tway, .int (-1), .int 0, .int 0, .int 0]))]) (va_runV (As := [.int p1]) (rest := []) ⟨hx, hb, hml, hown, hts⟩ (mX6_has l dC dI kA _ tnodes tnodesA 4 p1) (cwV 1 hts gX10_soonest_X6_has rfl rfl rfl (by decide +kernel) ⟨(Nat.le_of_ble_eq_true rfl), (Nat.le_of_ble_eq_true rfl)⟩) ⟨zPc.blind, va_recv hK.1 hP (ci := 6) (q0 := 2) rfl rfl, zPre hK (hP.sub [2] rfl) (hD.sub [2] (by decide) rfl)⟩ rfl rfl hl.1 rfl (lv_room (Nat.le_of_ble_eq_true rfl)) dX10_soonest_8 ⟨(Nat.le_of_ble_eq_true rfl), (Nat.le_of_ble_eq_true rfl)⟩) hP hD hS hA [2] [0, 1] rfl rfl (by decide) (by decide) (fun r3 u1 H locs hw2 hP hD hS => ?_)
  obtain rfl := hw2
  have hP : va_P (dC, dI) vwCl [(x0, .inr (10, [.ref xw, .ref xl, .ref xi, .ref xt, .int 0, .ref xq, .int 0, .ref xr, .ref xh, .ref xp, .ref xs_, .ref xa, .ref xm])), (xw, .inr (9, [.ref tnodes, .ref tpasses, .ref tjars, .ref torders, .ref tfeasts, .ref tway, .int (-1), .int 0, .int 0, .int 0])), (tnodes, .inr (6, [.int 4, .ref tnodesA, .int 0]))] H := hP
  have hD : va_D A [(x0, .inr (10, [.ref xw, .ref xl, .ref xi, .ref xt, .int 0, .ref xq, .int 0, .ref xr, .ref xh, .ref xp, .ref xs_, .ref xa, .ref xm])), (xw, .inr (9, [.ref tnodes, .ref tpasses, .ref tjars, .ref torders, .ref tfeasts, .ref tway, .int (-1), .int 0, .int 0, .int 0])), (tnodes, .inr (6, [.int 4, .ref tnodesA, .int 0]))] := hD
  refine lv_if_eq (tgt := 28) hx hb dX10_soonest_11 (by decide) (fun _ => ?_) (fun c_4 => absurd (by decide) c_4)
  refine lv_iconst (v := (-1)) hx hb dX10_soonest_28 (by decide) ?_
  have hP9 := hP.sub (ws' := []) [] rfl
  have hD9 := hD.sub (ws' := []) [] (by decide) rfl
  refine W.widen (k := 0) (n := 0) (Nat.le_of_ble_eq_true rfl) (Nat.le_of_ble_eq_true rfl) ?_
  exact W.iret (v := (-1)) hx hb hr (fun t ht hW => ⟨⟨(-1), (), rfl, rfl, by rw [ht]; exact hP9, hD9⟩, hS.F ht⟩) hS.2.2 dX10_soonest_29
set_option maxHeartbeats 4000000 in
set_option maxRecDepth 100000 in
theorem mX10_nearest (l : Launch) (dC : Nat → ClassId) (dI : Nat → Nat → Nat) (kA : Nat → ClassId) (sz : Nat) (x0 : Nat) (xw : Nat) (xl : Nat) (xi : Nat) (xt : Nat) (xq : Nat) (xr : Nat) (xh : Nat) (xp : Nat) (xs_ : Nat) (xa : Nat) (xm : Nat) (tnodes : Nat) (tnodesA : Nat) (tpasses : Nat) (tjars : Nat) (torders : Nat) (tfeasts : Nat) (tway : Nat) (p1 : Int32) (p2 : Int32)  : Met l yX10_nearest wsX10_nearest ({ frames := 1, cells := 0, slots := 0, locals := 21 }) (zPc dC dI kA sz [.ref x0, .int p1, .int p2] [(x0, .inr (10, [.ref xw, .ref xl, .ref xi, .ref xt, .int 0, .ref xq, .int 0, .ref xr, .ref xh, .ref xp, .ref xs_, .ref xa, .ref xm])), (xw, .inr (9, [.ref tnodes, .ref tpasses, .ref tjars, .ref torders, .ref tfeasts, .ref tway, .int (-1), .int 0, .int 0, .int 0])), (tnodes, .inr (6, [.int 4, .ref tnodesA, .int 0]))]) (va_Qi (fun (r : Int32) (u : Unit) => r = (-1)) (zB dC dI (va_A [(x0, .inr (10, [.ref xw, .ref xl, .ref xi, .ref xt, .int 0, .ref xq, .int 0, .ref xr, .ref xh, .ref xp, .ref xs_, .ref xa, .ref xm])), (xw, .inr (9, [.ref tnodes, .ref tpasses, .ref tjars, .ref torders, .ref tfeasts, .ref tway, .int (-1), .int 0, .int 0, .int 0])), (tnodes, .inr (6, [.int 4, .ref tnodesA, .int 0]))] sz) (fun (u : Unit) => [])) (va_A [(x0, .inr (10, [.ref xw, .ref xl, .ref xi, .ref xt, .int 0, .ref xq, .int 0, .ref xr, .ref xh, .ref xp, .ref xs_, .ref xa, .ref xm])), (xw, .inr (9, [.ref tnodes, .ref tpasses, .ref tjars, .ref torders, .ref tfeasts, .ref tway, .int (-1), .int 0, .int 0, .int 0])), (tnodes, .inr (6, [.int 4, .ref tnodesA, .int 0]))] sz)) 0 0 (va_A [(x0, .inr (10, [.ref xw, .ref xl, .ref xi, .ref xt, .int 0, .ref xq, .int 0, .ref xr, .ref xh, .ref xp, .ref xs_, .ref xa, .ref xm])), (xw, .inr (9, [.ref tnodes, .ref tpasses, .ref tjars, .ref torders, .ref tfeasts, .ref tway, .int (-1), .int 0, .int 0, .int 0])), (tnodes, .inr (6, [.int 4, .ref tnodesA, .int 0]))] sz) := by
  refine Met.ofW (cc := cX10_nearest) (maxL := 6) (ret := (some .int)) (by decide) rfl ?_
  intro p e s m args below meth c s₁ B hml hv
  obtain ⟨rfl, hsz, hP, hK, hD0⟩ := hv
  have hx := B.exec
  have hb := B.bytes
  have hr := B.returns
  have hts := atoms_spec (ws := wsX10_nearest) B.pre
  have hown : s.vm.findClass RX10 = some m.cls := findClass_of_methodNamed B.named
  have hlocks := B.notSynchronized
  subst hsz
  have hD := hD0.self (sz := s.heap.size)
  generalize hAe : va_A [(x0, .inr (10, [.ref xw, .ref xl, .ref xi, .ref xt, .int 0, .ref xq, .int 0, .ref xr, .ref xh, .ref xp, .ref xs_, .ref xa, .ref xm])), (xw, .inr (9, [.ref tnodes, .ref tpasses, .ref tjars, .ref torders, .ref tfeasts, .ref tway, .int (-1), .int 0, .int 0, .int 0])), (tnodes, .inr (6, [.int 4, .ref tnodesA, .int 0]))] s.heap.size = A at hD ⊢
  have hA : ∀ q : Nat, s.heap.size ≤ q → A q := fun q h => by rw [← hAe]; exact Or.inr h
  have hS : va_S A s.heap s.heap [] := va_S.rf
  have hP : va_P (dC, dI) vwCl [(x0, .inr (10, [.ref xw, .ref xl, .ref xi, .ref xt, .int 0, .ref xq, .int 0, .ref xr, .ref xh, .ref xp, .ref xs_, .ref xa, .ref xm])), (xw, .inr (9, [.ref tnodes, .ref tpasses, .ref tjars, .ref torders, .ref tfeasts, .ref tway, .int (-1), .int 0, .int 0, .int 0])), (tnodes, .inr (6, [.int 4, .ref tnodesA, .int 0]))] s.heap := hP
  have hl := lv_entry ([.ref x0, .int p1, .int p2]) (n := 6) (Nat.le_of_ble_eq_true rfl)
  rw [lg_entry_eq]
  generalize (lg_sl ([.ref x0, .int p1, .int p2]) ++ List.replicate (6 - (lg_sl ([.ref x0, .int p1, .int p2])).length) Slot.unset).toArray = ls at hl ⊢
  have hl : lv_has ls 6 [(0, .ref x0), (1, .int p1), (2, .int p2)] := hl
  refine lv_aload_n hx hb dX10_nearest_0 rfl (lv_at hl 0 rfl) ?_
  refine va_get (D := (dC, dI)) (ci := 10) (v := .ref xw) (C := RX10) (T := TX10) (N := 13) hx hb hts iX10_nearest_X10 hown hK.1 hP 0 rfl rfl 0 (by decide) (kX10_nearest_1 hts) (fun _ h9 => h9) rfl dX10_nearest_1 ?_
  refine va_get (D := (dC, dI)) (ci := 9) (v := .ref tnodes) (C := RX9) (T := TX9) (N := 10) hx hb hts iX10_nearest_X9 hown hK.1 hP 1 rfl rfl 0 (by decide) (kX10_nearest_2 hts) (fun _ h9 => h9) rfl dX10_nearest_4 ?_
  refine lv_iload_n hx hb dX10_nearest_7 rfl (lv_at hl 1 rfl) ?_
  refine z_i (wr := [(x0, .inr (10, [.ref xw, .ref xl, .ref xi, .ref xt, .int 0, .ref xq, .int 0, .ref xr, .ref xh, .ref xp, .ref xs_, .ref xa, .ref xm])), (xw, .inr (9, [.ref tnodes, .ref tpasses, .ref tjars, .ref torders, .ref tfeasts, .ref tway, .int (-1), .int 0, .int 0, .int 0]))]) (va_runV (As := [.int p1]) (rest := []) ⟨hx, hb, hml, hown, hts⟩ (mX6_has l dC dI kA _ tnodes tnodesA 4 p1) (cwV 1 hts gX10_nearest_X6_has rfl rfl rfl (by decide +kernel) ⟨(Nat.le_of_ble_eq_true rfl), (Nat.le_of_ble_eq_true rfl)⟩) ⟨zPc.blind, va_recv hK.1 hP (ci := 6) (q0 := 2) rfl rfl, zPre hK (hP.sub [2] rfl) (hD.sub [2] (by decide) rfl)⟩ rfl rfl hl.1 rfl (lv_room (Nat.le_of_ble_eq_true rfl)) dX10_nearest_8 ⟨(Nat.le_of_ble_eq_true rfl), (Nat.le_of_ble_eq_true rfl)⟩) hP hD hS hA [2] [0, 1] rfl rfl (by decide) (by decide) (fun r3 u1 H locs hw2 hP hD hS => ?_)
  obtain rfl := hw2
  have hP : va_P (dC, dI) vwCl [(x0, .inr (10, [.ref xw, .ref xl, .ref xi, .ref xt, .int 0, .ref xq, .int 0, .ref xr, .ref xh, .ref xp, .ref xs_, .ref xa, .ref xm])), (xw, .inr (9, [.ref tnodes, .ref tpasses, .ref tjars, .ref torders, .ref tfeasts, .ref tway, .int (-1), .int 0, .int 0, .int 0])), (tnodes, .inr (6, [.int 4, .ref tnodesA, .int 0]))] H := hP
  have hD : va_D A [(x0, .inr (10, [.ref xw, .ref xl, .ref xi, .ref xt, .int 0, .ref xq, .int 0, .ref xr, .ref xh, .ref xp, .ref xs_, .ref xa, .ref xm])), (xw, .inr (9, [.ref tnodes, .ref tpasses, .ref tjars, .ref torders, .ref tfeasts, .ref tway, .int (-1), .int 0, .int 0, .int 0])), (tnodes, .inr (6, [.int 4, .ref tnodesA, .int 0]))] := hD
  refine lv_if_eq (tgt := 23) hx hb dX10_nearest_11 (by decide) (fun _ => ?_) (fun c_4 => absurd (by decide) c_4)
  refine lv_iconst (v := (-1)) hx hb dX10_nearest_23 (by decide) ?_
  have hP9 := hP.sub (ws' := []) [] rfl
  have hD9 := hD.sub (ws' := []) [] (by decide) rfl
  refine W.widen (k := 0) (n := 0) (Nat.le_of_ble_eq_true rfl) (Nat.le_of_ble_eq_true rfl) ?_
  exact W.iret (v := (-1)) hx hb hr (fun t ht hW => ⟨⟨(-1), (), rfl, rfl, by rw [ht]; exact hP9, hD9⟩, hS.F ht⟩) hS.2.2 dX10_nearest_24
set_option maxHeartbeats 4000000 in
set_option maxRecDepth 100000 in
theorem mX10_warmer (l : Launch) (dC : Nat → ClassId) (dI : Nat → Nat → Nat) (kA : Nat → ClassId) (sz : Nat) (x0 : Nat) (xw : Nat) (xl : Nat) (xi : Nat) (xt : Nat) (xq : Nat) (xr : Nat) (xh : Nat) (xp : Nat) (xs_ : Nat) (xa : Nat) (xm : Nat) (p1 : Int32) (p2 : Int32) (p3 : Int32) (p4 : Int32) (p5 : Int32) (p6 : Int32)  : Met l yX10_warmer wsX10_warmer ({ frames := 3, cells := 0, slots := 0, locals := 65 }) (zPc dC dI kA sz [.ref x0, .int p1, .int p2, .int p3, .int p4, .int p5, .int p6] [(x0, .inr (10, [.ref xw, .ref xl, .ref xi, .ref xt, .int 0, .ref xq, .int 0, .ref xr, .ref xh, .ref xp, .ref xs_, .ref xa, .ref xm]))]) (va_Qi (fun (r : Int32) (u : Unit) => r = (-1)) (zB dC dI (va_A [(x0, .inr (10, [.ref xw, .ref xl, .ref xi, .ref xt, .int 0, .ref xq, .int 0, .ref xr, .ref xh, .ref xp, .ref xs_, .ref xa, .ref xm]))] sz) (fun (u : Unit) => [])) (va_A [(x0, .inr (10, [.ref xw, .ref xl, .ref xi, .ref xt, .int 0, .ref xq, .int 0, .ref xr, .ref xh, .ref xp, .ref xs_, .ref xa, .ref xm]))] sz)) 0 0 (va_A [(x0, .inr (10, [.ref xw, .ref xl, .ref xi, .ref xt, .int 0, .ref xq, .int 0, .ref xr, .ref xh, .ref xp, .ref xs_, .ref xa, .ref xm]))] sz) := by
  refine Met.ofW (cc := cX10_warmer) (maxL := 10) (ret := (some .int)) (by decide) rfl ?_
  intro p e s m args below meth c s₁ B hml hv
  obtain ⟨rfl, hsz, hP, hK, hD0⟩ := hv
  have hx := B.exec
  have hb := B.bytes
  have hr := B.returns
  have hts := atoms_spec (ws := wsX10_warmer) B.pre
  have hown : s.vm.findClass RX10 = some m.cls := findClass_of_methodNamed B.named
  have hlocks := B.notSynchronized
  subst hsz
  have hD := hD0.self (sz := s.heap.size)
  generalize hAe : va_A [(x0, .inr (10, [.ref xw, .ref xl, .ref xi, .ref xt, .int 0, .ref xq, .int 0, .ref xr, .ref xh, .ref xp, .ref xs_, .ref xa, .ref xm]))] s.heap.size = A at hD ⊢
  have hA : ∀ q : Nat, s.heap.size ≤ q → A q := fun q h => by rw [← hAe]; exact Or.inr h
  have hS : va_S A s.heap s.heap [] := va_S.rf
  have hP : va_P (dC, dI) vwCl [(x0, .inr (10, [.ref xw, .ref xl, .ref xi, .ref xt, .int 0, .ref xq, .int 0, .ref xr, .ref xh, .ref xp, .ref xs_, .ref xa, .ref xm]))] s.heap := hP
  have hl := lv_entry ([.ref x0, .int p1, .int p2, .int p3, .int p4, .int p5, .int p6]) (n := 10) (Nat.le_of_ble_eq_true rfl)
  rw [lg_entry_eq]
  generalize (lg_sl ([.ref x0, .int p1, .int p2, .int p3, .int p4, .int p5, .int p6]) ++ List.replicate (10 - (lg_sl ([.ref x0, .int p1, .int p2, .int p3, .int p4, .int p5, .int p6])).length) Slot.unset).toArray = ls at hl ⊢
  have hl : lv_has ls 10 [(0, .ref x0), (1, .int p1), (2, .int p2), (3, .int p3), (4, .int p4), (5, .int p5), (6, .int p6)] := hl
  refine lv_aload_n hx hb dX10_warmer_0 rfl (lv_at hl 0 rfl) ?_
  refine lv_iload_n hx hb dX10_warmer_1 rfl (lv_at hl 1 rfl) ?_
  refine z_q (wr := []) (va_runV (As := [.int p1]) (rest := []) ⟨hx, hb, hml, hown, hts⟩ (mX10_lawOf l dC dI kA _ x0 xw xl xi xt xq xr xh xp xs_ xa xm p1) (cwV 1 hts gX10_warmer_X10_lawOf rfl rfl rfl (by decide +kernel) ⟨(Nat.le_of_ble_eq_true rfl), (Nat.le_of_ble_eq_true rfl)⟩) ⟨zPc.blind, va_recv hK.1 hP (ci := 10) (q0 := 0) rfl rfl, zPre hK (hP.sub [0] rfl) (hD.sub [0] (by decide) rfl)⟩ rfl rfl hl.1 rfl (lv_room (Nat.le_of_ble_eq_true rfl)) dX10_warmer_2 ⟨(Nat.le_of_ble_eq_true rfl), (Nat.le_of_ble_eq_true rfl)⟩) hP hD hS hA [0] [] rfl rfl (by decide) (by decide) (fun r3 u1 H locs hw2 hP hD hS => ?_)
  obtain rfl := hw2
  have hP : va_P (dC, dI) vwCl [(x0, .inr (10, [.ref xw, .ref xl, .ref xi, .ref xt, .int 0, .ref xq, .int 0, .ref xr, .ref xh, .ref xp, .ref xs_, .ref xa, .ref xm]))] H := hP
  have hD : va_D A [(x0, .inr (10, [.ref xw, .ref xl, .ref xi, .ref xt, .int 0, .ref xq, .int 0, .ref xr, .ref xh, .ref xp, .ref xs_, .ref xa, .ref xm]))] := hD
  refine zv .null rfl ?_
  refine lv_astoreN (lv' := [(7, .null), (0, .ref x0), (1, .int p1), (2, .int p2), (3, .int p3), (4, .int p4), (5, .int p5), (6, .int p6)]) hx hb dX10_warmer_5 hl (by decide) rfl (fun ls hl => ?_)
  refine lv_iload_n hx hb dX10_warmer_7 rfl (lv_at hl 3 rfl) ?_
  refine lv_iload_n hx hb dX10_warmer_8 rfl (lv_at hl 4 rfl) ?_
  refine lv_iload hx hb dX10_warmer_9 (lv_at hl 5 rfl) ?_
  refine lv_iload hx hb dX10_warmer_11 (lv_at hl 6 rfl) ?_
  refine z_i (wr := [(x0, .inr (10, [.ref xw, .ref xl, .ref xi, .ref xt, .int 0, .ref xq, .int 0, .ref xr, .ref xh, .ref xp, .ref xs_, .ref xa, .ref xm]))]) (va_runS (As := [.int p2, .int p3, .int p4, .int p5]) (rest := []) ⟨hx, hb, hml, hown, hts⟩ (mX10_isLoad l dC dI kA _ p2 p3 p4 p5) (va_cwS 4 hts gX10_warmer_X10_isLoad rfl rfl rfl (by decide +kernel) ⟨(Nat.le_of_ble_eq_true rfl), (Nat.le_of_ble_eq_true rfl)⟩) ⟨zPc.blind, zPre hK (hP.sub [] rfl) (hD.sub [] (by decide) rfl)⟩ rfl rfl hl.1 rfl (lv_room (Nat.le_of_ble_eq_true rfl)) dX10_warmer_13 ⟨(Nat.le_of_ble_eq_true rfl), (Nat.le_of_ble_eq_true rfl)⟩) hP hD hS hA [] [0] rfl rfl (by decide) (by decide) (fun r6 u4 H locs hw5 hP hD hS => ?_)
  obtain ⟨q_7, rfl⟩ : ∃ z, z = u4 := ⟨_, rfl⟩
  obtain rfl := hw5
  have hP : va_P (dC, dI) vwCl [(x0, .inr (10, [.ref xw, .ref xl, .ref xi, .ref xt, .int 0, .ref xq, .int 0, .ref xr, .ref xh, .ref xp, .ref xs_, .ref xa, .ref xm]))] H := hP
  have hD : va_D A [(x0, .inr (10, [.ref xw, .ref xl, .ref xi, .ref xt, .int 0, .ref xq, .int 0, .ref xr, .ref xh, .ref xp, .ref xs_, .ref xa, .ref xm]))] := hD
  refine lv_if_eq (tgt := 33) hx hb dX10_warmer_16 (by decide) (fun c_8 => ?_) (fun c_8 => ?_)
  · refine lv_iconst (v := 0) hx hb dX10_warmer_33 (by decide) ?_
    refine lv_istore (lv' := [(8, .int 0), (7, .null), (0, .ref x0), (1, .int p1), (2, .int p2), (3, .int p3), (4, .int p4), (5, .int p5), (6, .int p6)]) hx hb dX10_warmer_34 hl (by decide) rfl (fun ls hl => ?_)
    refine lv_aloadN hx hb dX10_warmer_36 (lv_at hl 1 rfl) ?_
    refine lv_ifnullN (tgt := 57) hx hb dX10_warmer_38 (by decide) ?_
    refine lv_iconst (v := (-1)) hx hb dX10_warmer_57 (by decide) ?_
    have hP9 := hP.sub (ws' := []) [] rfl
    have hD9 := hD.sub (ws' := []) [] (by decide) rfl
    refine W.widen (k := 0) (n := 0) (Nat.le_of_ble_eq_true rfl) (Nat.le_of_ble_eq_true rfl) ?_
    exact W.iret (v := (-1)) hx hb hr (fun t ht hW => ⟨⟨(-1), (), rfl, rfl, by rw [ht]; exact hP9, hD9⟩, hS.F ht⟩) hS.2.2 dX10_warmer_58
  · refine lv_iload hx hb dX10_warmer_19 (lv_at hl 7 rfl) ?_
    refine lv_ldc hx hb hown (kX10_warmer_1 hts) dX10_warmer_21 ?_
    refine z_i (wr := [(x0, .inr (10, [.ref xw, .ref xl, .ref xi, .ref xt, .int 0, .ref xq, .int 0, .ref xr, .ref xh, .ref xp, .ref xs_, .ref xa, .ref xm]))]) (va_runS (As := [.int p6, .int 99999]) (rest := []) ⟨hx, hb, hml, hown, hts⟩ (mX10_within l dC dI kA _ p6 99999) (va_cwS 2 hts gX10_warmer_X10_within rfl rfl rfl (by decide +kernel) ⟨(Nat.le_of_ble_eq_true rfl), (Nat.le_of_ble_eq_true rfl)⟩) ⟨zPc.blind, zPre hK (hP.sub [] rfl) (hD.sub [] (by decide) rfl)⟩ rfl rfl hl.1 rfl (lv_room (Nat.le_of_ble_eq_true rfl)) dX10_warmer_23 ⟨(Nat.le_of_ble_eq_true rfl), (Nat.le_of_ble_eq_true rfl)⟩) hP hD hS hA [] [0] rfl rfl (by decide) (by decide) (fun r11 u9 H locs hw10 hP hD hS => ?_)
    obtain rfl := hw10
    have hP : va_P (dC, dI) vwCl [(x0, .inr (10, [.ref xw, .ref xl, .ref xi, .ref xt, .int 0, .ref xq, .int 0, .ref xr, .ref xh, .ref xp, .ref xs_, .ref xa, .ref xm]))] H := hP
    have hD : va_D A [(x0, .inr (10, [.ref xw, .ref xl, .ref xi, .ref xt, .int 0, .ref xq, .int 0, .ref xr, .ref xh, .ref xp, .ref xs_, .ref xa, .ref xm]))] := hD
    refine lv_if_eq (tgt := 33) hx hb dX10_warmer_26 (by decide) (fun c_12 => ?_) (fun c_12 => ?_)
    · refine lv_iconst (v := 0) hx hb dX10_warmer_33 (by decide) ?_
      refine lv_istore (lv' := [(8, .int 0), (7, .null), (0, .ref x0), (1, .int p1), (2, .int p2), (3, .int p3), (4, .int p4), (5, .int p5), (6, .int p6)]) hx hb dX10_warmer_34 hl (by decide) rfl (fun ls hl => ?_)
      refine lv_aloadN hx hb dX10_warmer_36 (lv_at hl 1 rfl) ?_
      refine lv_ifnullN (tgt := 57) hx hb dX10_warmer_38 (by decide) ?_
      refine lv_iconst (v := (-1)) hx hb dX10_warmer_57 (by decide) ?_
      have hP9 := hP.sub (ws' := []) [] rfl
      have hD9 := hD.sub (ws' := []) [] (by decide) rfl
      refine W.widen (k := 0) (n := 0) (Nat.le_of_ble_eq_true rfl) (Nat.le_of_ble_eq_true rfl) ?_
      exact W.iret (v := (-1)) hx hb hr (fun t ht hW => ⟨⟨(-1), (), rfl, rfl, by rw [ht]; exact hP9, hD9⟩, hS.F ht⟩) hS.2.2 dX10_warmer_58
    · refine lv_iconst (v := 1) hx hb dX10_warmer_29 (by decide) ?_
      refine lv_goto (tgt := 34) hx hb dX10_warmer_30 (by decide) ?_
      refine lv_istore (lv' := [(8, .int 1), (7, .null), (0, .ref x0), (1, .int p1), (2, .int p2), (3, .int p3), (4, .int p4), (5, .int p5), (6, .int p6)]) hx hb dX10_warmer_34 hl (by decide) rfl (fun ls hl => ?_)
      refine lv_aloadN hx hb dX10_warmer_36 (lv_at hl 1 rfl) ?_
      refine lv_ifnullN (tgt := 57) hx hb dX10_warmer_38 (by decide) ?_
      refine lv_iconst (v := (-1)) hx hb dX10_warmer_57 (by decide) ?_
      have hP9 := hP.sub (ws' := []) [] rfl
      have hD9 := hD.sub (ws' := []) [] (by decide) rfl
      refine W.widen (k := 0) (n := 0) (Nat.le_of_ble_eq_true rfl) (Nat.le_of_ble_eq_true rfl) ?_
      exact W.iret (v := (-1)) hx hb hr (fun t ht hW => ⟨⟨(-1), (), rfl, rfl, by rw [ht]; exact hP9, hD9⟩, hS.F ht⟩) hS.2.2 dX10_warmer_58
set_option maxHeartbeats 4000000 in
set_option maxRecDepth 100000 in
theorem mX10_guess (l : Launch) (dC : Nat → ClassId) (dI : Nat → Nat → Nat) (kA : Nat → ClassId) (sz : Nat) (x0 : Nat) (xw : Nat) (xl : Nat) (xi : Nat) (xt : Nat) (xq : Nat) (xr : Nat) (xh : Nat) (xp : Nat) (xs_ : Nat) (xa : Nat) (xm : Nat) (tnodes : Nat) (tpasses : Nat) (tjars : Nat) (torders : Nat) (tfeasts : Nat) (tway : Nat) (twayA : Nat) (p1 : Int32) (p2 : Int32) (p3 : Int32) (p4 : Int32) (p5 : Int32) (p6 : Int32) (p7 : Int32) (p8 : Int32) (p9 : Int32)  : Met l yX10_guess wsX10_guess ({ frames := 2, cells := 0, slots := 0, locals := 42 }) (zPc dC dI kA sz [.ref x0, .int p1, .int p2, .int p3, .int p4, .int p5, .int p6, .int p7, .int p8, .int p9] [(x0, .inr (10, [.ref xw, .ref xl, .ref xi, .ref xt, .int 0, .ref xq, .int 0, .ref xr, .ref xh, .ref xp, .ref xs_, .ref xa, .ref xm])), (xw, .inr (9, [.ref tnodes, .ref tpasses, .ref tjars, .ref torders, .ref tfeasts, .ref tway, .int (-1), .int 0, .int 0, .int 0])), (tway, .inr (6, [.int 1, .ref twayA, .int 0]))]) (va_Qi (fun (r : Int32) (u : Unit) => r = (-1)) (zB dC dI (va_A [(x0, .inr (10, [.ref xw, .ref xl, .ref xi, .ref xt, .int 0, .ref xq, .int 0, .ref xr, .ref xh, .ref xp, .ref xs_, .ref xa, .ref xm])), (xw, .inr (9, [.ref tnodes, .ref tpasses, .ref tjars, .ref torders, .ref tfeasts, .ref tway, .int (-1), .int 0, .int 0, .int 0])), (tway, .inr (6, [.int 1, .ref twayA, .int 0]))] sz) (fun (u : Unit) => [])) (va_A [(x0, .inr (10, [.ref xw, .ref xl, .ref xi, .ref xt, .int 0, .ref xq, .int 0, .ref xr, .ref xh, .ref xp, .ref xs_, .ref xa, .ref xm])), (xw, .inr (9, [.ref tnodes, .ref tpasses, .ref tjars, .ref torders, .ref tfeasts, .ref tway, .int (-1), .int 0, .int 0, .int 0])), (tway, .inr (6, [.int 1, .ref twayA, .int 0]))] sz)) 0 0 (va_A [(x0, .inr (10, [.ref xw, .ref xl, .ref xi, .ref xt, .int 0, .ref xq, .int 0, .ref xr, .ref xh, .ref xp, .ref xs_, .ref xa, .ref xm])), (xw, .inr (9, [.ref tnodes, .ref tpasses, .ref tjars, .ref torders, .ref tfeasts, .ref tway, .int (-1), .int 0, .int 0, .int 0])), (tway, .inr (6, [.int 1, .ref twayA, .int 0]))] sz) := by
  refine Met.ofW (cc := cX10_guess) (maxL := 13) (ret := (some .int)) (by decide) rfl ?_
  intro p e s m args below meth c s₁ B hml hv
  obtain ⟨rfl, hsz, hP, hK, hD0⟩ := hv
  have hx := B.exec
  have hb := B.bytes
  have hr := B.returns
  have hts := atoms_spec (ws := wsX10_guess) B.pre
  have hown : s.vm.findClass RX10 = some m.cls := findClass_of_methodNamed B.named
  have hlocks := B.notSynchronized
  subst hsz
  have hD := hD0.self (sz := s.heap.size)
  generalize hAe : va_A [(x0, .inr (10, [.ref xw, .ref xl, .ref xi, .ref xt, .int 0, .ref xq, .int 0, .ref xr, .ref xh, .ref xp, .ref xs_, .ref xa, .ref xm])), (xw, .inr (9, [.ref tnodes, .ref tpasses, .ref tjars, .ref torders, .ref tfeasts, .ref tway, .int (-1), .int 0, .int 0, .int 0])), (tway, .inr (6, [.int 1, .ref twayA, .int 0]))] s.heap.size = A at hD ⊢
  have hA : ∀ q : Nat, s.heap.size ≤ q → A q := fun q h => by rw [← hAe]; exact Or.inr h
  have hS : va_S A s.heap s.heap [] := va_S.rf
  have hP : va_P (dC, dI) vwCl [(x0, .inr (10, [.ref xw, .ref xl, .ref xi, .ref xt, .int 0, .ref xq, .int 0, .ref xr, .ref xh, .ref xp, .ref xs_, .ref xa, .ref xm])), (xw, .inr (9, [.ref tnodes, .ref tpasses, .ref tjars, .ref torders, .ref tfeasts, .ref tway, .int (-1), .int 0, .int 0, .int 0])), (tway, .inr (6, [.int 1, .ref twayA, .int 0]))] s.heap := hP
  have hl := lv_entry ([.ref x0, .int p1, .int p2, .int p3, .int p4, .int p5, .int p6, .int p7, .int p8, .int p9]) (n := 13) (Nat.le_of_ble_eq_true rfl)
  rw [lg_entry_eq]
  generalize (lg_sl ([.ref x0, .int p1, .int p2, .int p3, .int p4, .int p5, .int p6, .int p7, .int p8, .int p9]) ++ List.replicate (13 - (lg_sl ([.ref x0, .int p1, .int p2, .int p3, .int p4, .int p5, .int p6, .int p7, .int p8, .int p9])).length) Slot.unset).toArray = ls at hl ⊢
  have hl : lv_has ls 13 [(0, .ref x0), (1, .int p1), (2, .int p2), (3, .int p3), (4, .int p4), (5, .int p5), (6, .int p6), (7, .int p7), (8, .int p8), (9, .int p9)] := hl
  refine lv_aload_n hx hb dX10_guess_0 rfl (lv_at hl 0 rfl) ?_
  refine lv_iload_n hx hb dX10_guess_1 rfl (lv_at hl 1 rfl) ?_
  refine z_q (wr := [(xw, .inr (9, [.ref tnodes, .ref tpasses, .ref tjars, .ref torders, .ref tfeasts, .ref tway, .int (-1), .int 0, .int 0, .int 0])), (tway, .inr (6, [.int 1, .ref twayA, .int 0]))]) (va_runV (As := [.int p1]) (rest := []) ⟨hx, hb, hml, hown, hts⟩ (mX10_lawOf l dC dI kA _ x0 xw xl xi xt xq xr xh xp xs_ xa xm p1) (cwV 1 hts gX10_guess_X10_lawOf rfl rfl rfl (by decide +kernel) ⟨(Nat.le_of_ble_eq_true rfl), (Nat.le_of_ble_eq_true rfl)⟩) ⟨zPc.blind, va_recv hK.1 hP (ci := 10) (q0 := 0) rfl rfl, zPre hK (hP.sub [0] rfl) (hD.sub [0] (by decide) rfl)⟩ rfl rfl hl.1 rfl (lv_room (Nat.le_of_ble_eq_true rfl)) dX10_guess_2 ⟨(Nat.le_of_ble_eq_true rfl), (Nat.le_of_ble_eq_true rfl)⟩) hP hD hS hA [0] [1, 2] rfl rfl (by decide) (by decide) (fun r3 u1 H locs hw2 hP hD hS => ?_)
  obtain rfl := hw2
  have hP : va_P (dC, dI) vwCl [(xw, .inr (9, [.ref tnodes, .ref tpasses, .ref tjars, .ref torders, .ref tfeasts, .ref tway, .int (-1), .int 0, .int 0, .int 0])), (tway, .inr (6, [.int 1, .ref twayA, .int 0])), (x0, .inr (10, [.ref xw, .ref xl, .ref xi, .ref xt, .int 0, .ref xq, .int 0, .ref xr, .ref xh, .ref xp, .ref xs_, .ref xa, .ref xm]))] H := hP
  have hD : va_D A [(xw, .inr (9, [.ref tnodes, .ref tpasses, .ref tjars, .ref torders, .ref tfeasts, .ref tway, .int (-1), .int 0, .int 0, .int 0])), (tway, .inr (6, [.int 1, .ref twayA, .int 0])), (x0, .inr (10, [.ref xw, .ref xl, .ref xi, .ref xt, .int 0, .ref xq, .int 0, .ref xr, .ref xh, .ref xp, .ref xs_, .ref xa, .ref xm]))] := hD
  refine zv .null rfl ?_
  refine lv_astoreN (lv' := [(10, .null), (0, .ref x0), (1, .int p1), (2, .int p2), (3, .int p3), (4, .int p4), (5, .int p5), (6, .int p6), (7, .int p7), (8, .int p8), (9, .int p9)]) hx hb dX10_guess_5 hl (by decide) rfl (fun ls hl => ?_)
  refine lv_iload hx hb dX10_guess_7 (lv_at hl 7 rfl) ?_
  refine lv_bipush (v := 12) hx hb dX10_guess_9 (by decide) ?_
  refine z_i (wr := [(xw, .inr (9, [.ref tnodes, .ref tpasses, .ref tjars, .ref torders, .ref tfeasts, .ref tway, .int (-1), .int 0, .int 0, .int 0])), (tway, .inr (6, [.int 1, .ref twayA, .int 0])), (x0, .inr (10, [.ref xw, .ref xl, .ref xi, .ref xt, .int 0, .ref xq, .int 0, .ref xr, .ref xh, .ref xp, .ref xs_, .ref xa, .ref xm]))]) (va_runS (As := [.int p6, .int 12]) (rest := []) ⟨hx, hb, hml, hown, hts⟩ (mX10_within l dC dI kA _ p6 12) (va_cwS 2 hts gX10_guess_X10_within rfl rfl rfl (by decide +kernel) ⟨(Nat.le_of_ble_eq_true rfl), (Nat.le_of_ble_eq_true rfl)⟩) ⟨zPc.blind, zPre hK (hP.sub [] rfl) (hD.sub [] (by decide) rfl)⟩ rfl rfl hl.1 rfl (lv_room (Nat.le_of_ble_eq_true rfl)) dX10_guess_11 ⟨(Nat.le_of_ble_eq_true rfl), (Nat.le_of_ble_eq_true rfl)⟩) hP hD hS hA [] [0, 1, 2] rfl rfl (by decide) (by decide) (fun r6 u4 H locs hw5 hP hD hS => ?_)
  obtain rfl := hw5
  have hP : va_P (dC, dI) vwCl [(xw, .inr (9, [.ref tnodes, .ref tpasses, .ref tjars, .ref torders, .ref tfeasts, .ref tway, .int (-1), .int 0, .int 0, .int 0])), (tway, .inr (6, [.int 1, .ref twayA, .int 0])), (x0, .inr (10, [.ref xw, .ref xl, .ref xi, .ref xt, .int 0, .ref xq, .int 0, .ref xr, .ref xh, .ref xp, .ref xs_, .ref xa, .ref xm]))] H := hP
  have hD : va_D A [(xw, .inr (9, [.ref tnodes, .ref tpasses, .ref tjars, .ref torders, .ref tfeasts, .ref tway, .int (-1), .int 0, .int 0, .int 0])), (tway, .inr (6, [.int 1, .ref twayA, .int 0])), (x0, .inr (10, [.ref xw, .ref xl, .ref xi, .ref xt, .int 0, .ref xq, .int 0, .ref xr, .ref xh, .ref xp, .ref xs_, .ref xa, .ref xm]))] := hD
  refine lv_if_eq (tgt := 40) hx hb dX10_guess_14 (by decide) (fun c_7 => ?_) (fun c_7 => ?_)
  · refine lv_iconst (v := 0) hx hb dX10_guess_40 (by decide) ?_
    refine lv_istore (lv' := [(11, .int 0), (10, .null), (0, .ref x0), (1, .int p1), (2, .int p2), (3, .int p3), (4, .int p4), (5, .int p5), (6, .int p6), (7, .int p7), (8, .int p8), (9, .int p9)]) hx hb dX10_guess_41 hl (by decide) rfl (fun ls hl => ?_)
    refine lv_iload hx hb dX10_guess_43 (lv_at hl 11 rfl) ?_
    refine lv_if_eq (tgt := 63) hx hb dX10_guess_45 (by decide) (fun c_8 => ?_) (fun c_8 => ?_)
    · refine lv_iconst (v := 1) hx hb dX10_guess_63 (by decide) ?_
      refine lv_goto (tgt := 68) hx hb dX10_guess_64 (by decide) ?_
      refine lv_istore (lv' := [(12, .int 1), (11, .int 0), (10, .null), (0, .ref x0), (1, .int p1), (2, .int p2), (3, .int p3), (4, .int p4), (5, .int p5), (6, .int p6), (7, .int p7), (8, .int p8), (9, .int p9)]) hx hb dX10_guess_68 hl (by decide) rfl (fun ls hl => ?_)
      refine lv_aloadN hx hb dX10_guess_70 (lv_at hl 2 rfl) ?_
      refine lv_ifnullN (tgt := 108) hx hb dX10_guess_72 (by decide) ?_
      refine lv_iconst (v := (-1)) hx hb dX10_guess_108 (by decide) ?_
      have hP9 := hP.sub (ws' := []) [] rfl
      have hD9 := hD.sub (ws' := []) [] (by decide) rfl
      refine W.widen (k := 0) (n := 0) (Nat.le_of_ble_eq_true rfl) (Nat.le_of_ble_eq_true rfl) ?_
      exact W.iret (v := (-1)) hx hb hr (fun t ht hW => ⟨⟨(-1), (), rfl, rfl, by rw [ht]; exact hP9, hD9⟩, hS.F ht⟩) hS.2.2 dX10_guess_109
    · refine lv_aload_n hx hb dX10_guess_48 rfl (lv_at hl 2 rfl) ?_
      refine va_get (D := (dC, dI)) (ci := 10) (v := .ref xw) (C := RX10) (T := TX10) (N := 13) hx hb hts iX10_guess_X10 hown hK.1 hP 2 rfl rfl 0 (by decide) (kX10_guess_2 hts) (fun _ h9 => h9) rfl dX10_guess_49 ?_
      refine va_get (D := (dC, dI)) (ci := 9) (v := .ref tway) (C := RX9) (T := TX9) (N := 10) hx hb hts iX10_guess_X9 hown hK.1 hP 0 rfl rfl 5 (by decide) (kX10_guess_3 hts) (fun _ h9 => h9) rfl dX10_guess_52 ?_
      refine lv_iload hx hb dX10_guess_55 (lv_at hl 10 rfl) ?_
      refine z_i (wr := [(xw, .inr (9, [.ref tnodes, .ref tpasses, .ref tjars, .ref torders, .ref tfeasts, .ref tway, .int (-1), .int 0, .int 0, .int 0])), (x0, .inr (10, [.ref xw, .ref xl, .ref xi, .ref xt, .int 0, .ref xq, .int 0, .ref xr, .ref xh, .ref xp, .ref xs_, .ref xa, .ref xm]))]) (va_runV (As := [.int p8]) (rest := []) ⟨hx, hb, hml, hown, hts⟩ (mX6_has l dC dI kA _ tway twayA 1 p8) (cwV 1 hts gX10_guess_X6_has rfl rfl rfl (by decide +kernel) ⟨(Nat.le_of_ble_eq_true rfl), (Nat.le_of_ble_eq_true rfl)⟩) ⟨zPc.blind, va_recv hK.1 hP (ci := 6) (q0 := 1) rfl rfl, zPre hK (hP.sub [1] rfl) (hD.sub [1] (by decide) rfl)⟩ rfl rfl hl.1 rfl (lv_room (Nat.le_of_ble_eq_true rfl)) dX10_guess_57 ⟨(Nat.le_of_ble_eq_true rfl), (Nat.le_of_ble_eq_true rfl)⟩) hP hD hS hA [1] [0, 2] rfl rfl (by decide) (by decide) (fun r11 u9 H locs hw10 hP hD hS => ?_)
      obtain rfl := hw10
      have hP : va_P (dC, dI) vwCl [(xw, .inr (9, [.ref tnodes, .ref tpasses, .ref tjars, .ref torders, .ref tfeasts, .ref tway, .int (-1), .int 0, .int 0, .int 0])), (x0, .inr (10, [.ref xw, .ref xl, .ref xi, .ref xt, .int 0, .ref xq, .int 0, .ref xr, .ref xh, .ref xp, .ref xs_, .ref xa, .ref xm])), (tway, .inr (6, [.int 1, .ref twayA, .int 0]))] H := hP
      have hD : va_D A [(xw, .inr (9, [.ref tnodes, .ref tpasses, .ref tjars, .ref torders, .ref tfeasts, .ref tway, .int (-1), .int 0, .int 0, .int 0])), (x0, .inr (10, [.ref xw, .ref xl, .ref xi, .ref xt, .int 0, .ref xq, .int 0, .ref xr, .ref xh, .ref xp, .ref xs_, .ref xa, .ref xm])), (tway, .inr (6, [.int 1, .ref twayA, .int 0]))] := hD
      refine lv_if_eq (tgt := 67) hx hb dX10_guess_60 (by decide) (fun _ => ?_) (fun c_12 => absurd (by decide) c_12)
      refine lv_iconst (v := 0) hx hb dX10_guess_67 (by decide) ?_
      refine lv_istore (lv' := [(12, .int 0), (11, .int 0), (10, .null), (0, .ref x0), (1, .int p1), (2, .int p2), (3, .int p3), (4, .int p4), (5, .int p5), (6, .int p6), (7, .int p7), (8, .int p8), (9, .int p9)]) hx hb dX10_guess_68 hl (by decide) rfl (fun ls hl => ?_)
      refine lv_aloadN hx hb dX10_guess_70 (lv_at hl 2 rfl) ?_
      refine lv_ifnullN (tgt := 108) hx hb dX10_guess_72 (by decide) ?_
      refine lv_iconst (v := (-1)) hx hb dX10_guess_108 (by decide) ?_
      have hP9 := hP.sub (ws' := []) [] rfl
      have hD9 := hD.sub (ws' := []) [] (by decide) rfl
      refine W.widen (k := 0) (n := 0) (Nat.le_of_ble_eq_true rfl) (Nat.le_of_ble_eq_true rfl) ?_
      exact W.iret (v := (-1)) hx hb hr (fun t ht hW => ⟨⟨(-1), (), rfl, rfl, by rw [ht]; exact hP9, hD9⟩, hS.F ht⟩) hS.2.2 dX10_guess_109
  · refine lv_iload hx hb dX10_guess_17 (lv_at hl 8 rfl) ?_
    refine lv_ldc hx hb hown (kX10_guess_1 hts) dX10_guess_19 ?_
    refine z_i (wr := [(xw, .inr (9, [.ref tnodes, .ref tpasses, .ref tjars, .ref torders, .ref tfeasts, .ref tway, .int (-1), .int 0, .int 0, .int 0])), (tway, .inr (6, [.int 1, .ref twayA, .int 0])), (x0, .inr (10, [.ref xw, .ref xl, .ref xi, .ref xt, .int 0, .ref xq, .int 0, .ref xr, .ref xh, .ref xp, .ref xs_, .ref xa, .ref xm]))]) (va_runS (As := [.int p7, .int 99999]) (rest := []) ⟨hx, hb, hml, hown, hts⟩ (mX10_within l dC dI kA _ p7 99999) (va_cwS 2 hts gX10_guess_X10_within rfl rfl rfl (by decide +kernel) ⟨(Nat.le_of_ble_eq_true rfl), (Nat.le_of_ble_eq_true rfl)⟩) ⟨zPc.blind, zPre hK (hP.sub [] rfl) (hD.sub [] (by decide) rfl)⟩ rfl rfl hl.1 rfl (lv_room (Nat.le_of_ble_eq_true rfl)) dX10_guess_21 ⟨(Nat.le_of_ble_eq_true rfl), (Nat.le_of_ble_eq_true rfl)⟩) hP hD hS hA [] [0, 1, 2] rfl rfl (by decide) (by decide) (fun r15 u13 H locs hw14 hP hD hS => ?_)
    obtain rfl := hw14
    have hP : va_P (dC, dI) vwCl [(xw, .inr (9, [.ref tnodes, .ref tpasses, .ref tjars, .ref torders, .ref tfeasts, .ref tway, .int (-1), .int 0, .int 0, .int 0])), (tway, .inr (6, [.int 1, .ref twayA, .int 0])), (x0, .inr (10, [.ref xw, .ref xl, .ref xi, .ref xt, .int 0, .ref xq, .int 0, .ref xr, .ref xh, .ref xp, .ref xs_, .ref xa, .ref xm]))] H := hP
    have hD : va_D A [(xw, .inr (9, [.ref tnodes, .ref tpasses, .ref tjars, .ref torders, .ref tfeasts, .ref tway, .int (-1), .int 0, .int 0, .int 0])), (tway, .inr (6, [.int 1, .ref twayA, .int 0])), (x0, .inr (10, [.ref xw, .ref xl, .ref xi, .ref xt, .int 0, .ref xq, .int 0, .ref xr, .ref xh, .ref xp, .ref xs_, .ref xa, .ref xm]))] := hD
    refine lv_if_eq (tgt := 40) hx hb dX10_guess_24 (by decide) (fun c_16 => ?_) (fun c_16 => ?_)
    · refine lv_iconst (v := 0) hx hb dX10_guess_40 (by decide) ?_
      refine lv_istore (lv' := [(11, .int 0), (10, .null), (0, .ref x0), (1, .int p1), (2, .int p2), (3, .int p3), (4, .int p4), (5, .int p5), (6, .int p6), (7, .int p7), (8, .int p8), (9, .int p9)]) hx hb dX10_guess_41 hl (by decide) rfl (fun ls hl => ?_)
      refine lv_iload hx hb dX10_guess_43 (lv_at hl 11 rfl) ?_
      refine lv_if_eq (tgt := 63) hx hb dX10_guess_45 (by decide) (fun c_17 => ?_) (fun c_17 => ?_)
      · refine lv_iconst (v := 1) hx hb dX10_guess_63 (by decide) ?_
        refine lv_goto (tgt := 68) hx hb dX10_guess_64 (by decide) ?_
        refine lv_istore (lv' := [(12, .int 1), (11, .int 0), (10, .null), (0, .ref x0), (1, .int p1), (2, .int p2), (3, .int p3), (4, .int p4), (5, .int p5), (6, .int p6), (7, .int p7), (8, .int p8), (9, .int p9)]) hx hb dX10_guess_68 hl (by decide) rfl (fun ls hl => ?_)
        refine lv_aloadN hx hb dX10_guess_70 (lv_at hl 2 rfl) ?_
        refine lv_ifnullN (tgt := 108) hx hb dX10_guess_72 (by decide) ?_
        refine lv_iconst (v := (-1)) hx hb dX10_guess_108 (by decide) ?_
        have hP9 := hP.sub (ws' := []) [] rfl
        have hD9 := hD.sub (ws' := []) [] (by decide) rfl
        refine W.widen (k := 0) (n := 0) (Nat.le_of_ble_eq_true rfl) (Nat.le_of_ble_eq_true rfl) ?_
        exact W.iret (v := (-1)) hx hb hr (fun t ht hW => ⟨⟨(-1), (), rfl, rfl, by rw [ht]; exact hP9, hD9⟩, hS.F ht⟩) hS.2.2 dX10_guess_109
      · refine lv_aload_n hx hb dX10_guess_48 rfl (lv_at hl 2 rfl) ?_
        refine va_get (D := (dC, dI)) (ci := 10) (v := .ref xw) (C := RX10) (T := TX10) (N := 13) hx hb hts iX10_guess_X10 hown hK.1 hP 2 rfl rfl 0 (by decide) (kX10_guess_2 hts) (fun _ h9 => h9) rfl dX10_guess_49 ?_
        refine va_get (D := (dC, dI)) (ci := 9) (v := .ref tway) (C := RX9) (T := TX9) (N := 10) hx hb hts iX10_guess_X9 hown hK.1 hP 0 rfl rfl 5 (by decide) (kX10_guess_3 hts) (fun _ h9 => h9) rfl dX10_guess_52 ?_
        refine lv_iload hx hb dX10_guess_55 (lv_at hl 10 rfl) ?_
        refine z_i (wr := [(xw, .inr (9, [.ref tnodes, .ref tpasses, .ref tjars, .ref torders, .ref tfeasts, .ref tway, .int (-1), .int 0, .int 0, .int 0])), (x0, .inr (10, [.ref xw, .ref xl, .ref xi, .ref xt, .int 0, .ref xq, .int 0, .ref xr, .ref xh, .ref xp, .ref xs_, .ref xa, .ref xm]))]) (va_runV (As := [.int p8]) (rest := []) ⟨hx, hb, hml, hown, hts⟩ (mX6_has l dC dI kA _ tway twayA 1 p8) (cwV 1 hts gX10_guess_X6_has rfl rfl rfl (by decide +kernel) ⟨(Nat.le_of_ble_eq_true rfl), (Nat.le_of_ble_eq_true rfl)⟩) ⟨zPc.blind, va_recv hK.1 hP (ci := 6) (q0 := 1) rfl rfl, zPre hK (hP.sub [1] rfl) (hD.sub [1] (by decide) rfl)⟩ rfl rfl hl.1 rfl (lv_room (Nat.le_of_ble_eq_true rfl)) dX10_guess_57 ⟨(Nat.le_of_ble_eq_true rfl), (Nat.le_of_ble_eq_true rfl)⟩) hP hD hS hA [1] [0, 2] rfl rfl (by decide) (by decide) (fun r20 u18 H locs hw19 hP hD hS => ?_)
        obtain rfl := hw19
        have hP : va_P (dC, dI) vwCl [(xw, .inr (9, [.ref tnodes, .ref tpasses, .ref tjars, .ref torders, .ref tfeasts, .ref tway, .int (-1), .int 0, .int 0, .int 0])), (x0, .inr (10, [.ref xw, .ref xl, .ref xi, .ref xt, .int 0, .ref xq, .int 0, .ref xr, .ref xh, .ref xp, .ref xs_, .ref xa, .ref xm])), (tway, .inr (6, [.int 1, .ref twayA, .int 0]))] H := hP
        have hD : va_D A [(xw, .inr (9, [.ref tnodes, .ref tpasses, .ref tjars, .ref torders, .ref tfeasts, .ref tway, .int (-1), .int 0, .int 0, .int 0])), (x0, .inr (10, [.ref xw, .ref xl, .ref xi, .ref xt, .int 0, .ref xq, .int 0, .ref xr, .ref xh, .ref xp, .ref xs_, .ref xa, .ref xm])), (tway, .inr (6, [.int 1, .ref twayA, .int 0]))] := hD
        refine lv_if_eq (tgt := 67) hx hb dX10_guess_60 (by decide) (fun _ => ?_) (fun c_21 => absurd (by decide) c_21)
        refine lv_iconst (v := 0) hx hb dX10_guess_67 (by decide) ?_
        refine lv_istore (lv' := [(12, .int 0), (11, .int 0), (10, .null), (0, .ref x0), (1, .int p1), (2, .int p2), (3, .int p3), (4, .int p4), (5, .int p5), (6, .int p6), (7, .int p7), (8, .int p8), (9, .int p9)]) hx hb dX10_guess_68 hl (by decide) rfl (fun ls hl => ?_)
        refine lv_aloadN hx hb dX10_guess_70 (lv_at hl 2 rfl) ?_
        refine lv_ifnullN (tgt := 108) hx hb dX10_guess_72 (by decide) ?_
        refine lv_iconst (v := (-1)) hx hb dX10_guess_108 (by decide) ?_
        have hP9 := hP.sub (ws' := []) [] rfl
        have hD9 := hD.sub (ws' := []) [] (by decide) rfl
        refine W.widen (k := 0) (n := 0) (Nat.le_of_ble_eq_true rfl) (Nat.le_of_ble_eq_true rfl) ?_
        exact W.iret (v := (-1)) hx hb hr (fun t ht hW => ⟨⟨(-1), (), rfl, rfl, by rw [ht]; exact hP9, hD9⟩, hS.F ht⟩) hS.2.2 dX10_guess_109
    · refine lv_iload hx hb dX10_guess_27 (lv_at hl 10 rfl) ?_
      refine lv_iconst (v := 2) hx hb dX10_guess_29 (by decide) ?_
      refine z_i (wr := [(xw, .inr (9, [.ref tnodes, .ref tpasses, .ref tjars, .ref torders, .ref tfeasts, .ref tway, .int (-1), .int 0, .int 0, .int 0])), (tway, .inr (6, [.int 1, .ref twayA, .int 0])), (x0, .inr (10, [.ref xw, .ref xl, .ref xi, .ref xt, .int 0, .ref xq, .int 0, .ref xr, .ref xh, .ref xp, .ref xs_, .ref xa, .ref xm]))]) (va_runS (As := [.int p9, .int 2]) (rest := []) ⟨hx, hb, hml, hown, hts⟩ (mX10_within l dC dI kA _ p9 2) (va_cwS 2 hts gX10_guess_X10_within rfl rfl rfl (by decide +kernel) ⟨(Nat.le_of_ble_eq_true rfl), (Nat.le_of_ble_eq_true rfl)⟩) ⟨zPc.blind, zPre hK (hP.sub [] rfl) (hD.sub [] (by decide) rfl)⟩ rfl rfl hl.1 rfl (lv_room (Nat.le_of_ble_eq_true rfl)) dX10_guess_30 ⟨(Nat.le_of_ble_eq_true rfl), (Nat.le_of_ble_eq_true rfl)⟩) hP hD hS hA [] [0, 1, 2] rfl rfl (by decide) (by decide) (fun r24 u22 H locs hw23 hP hD hS => ?_)
      obtain rfl := hw23
      have hP : va_P (dC, dI) vwCl [(xw, .inr (9, [.ref tnodes, .ref tpasses, .ref tjars, .ref torders, .ref tfeasts, .ref tway, .int (-1), .int 0, .int 0, .int 0])), (tway, .inr (6, [.int 1, .ref twayA, .int 0])), (x0, .inr (10, [.ref xw, .ref xl, .ref xi, .ref xt, .int 0, .ref xq, .int 0, .ref xr, .ref xh, .ref xp, .ref xs_, .ref xa, .ref xm]))] H := hP
      have hD : va_D A [(xw, .inr (9, [.ref tnodes, .ref tpasses, .ref tjars, .ref torders, .ref tfeasts, .ref tway, .int (-1), .int 0, .int 0, .int 0])), (tway, .inr (6, [.int 1, .ref twayA, .int 0])), (x0, .inr (10, [.ref xw, .ref xl, .ref xi, .ref xt, .int 0, .ref xq, .int 0, .ref xr, .ref xh, .ref xp, .ref xs_, .ref xa, .ref xm]))] := hD
      refine lv_if_eq (tgt := 40) hx hb dX10_guess_33 (by decide) (fun c_25 => ?_) (fun c_25 => ?_)
      · refine lv_iconst (v := 0) hx hb dX10_guess_40 (by decide) ?_
        refine lv_istore (lv' := [(11, .int 0), (10, .null), (0, .ref x0), (1, .int p1), (2, .int p2), (3, .int p3), (4, .int p4), (5, .int p5), (6, .int p6), (7, .int p7), (8, .int p8), (9, .int p9)]) hx hb dX10_guess_41 hl (by decide) rfl (fun ls hl => ?_)
        refine lv_iload hx hb dX10_guess_43 (lv_at hl 11 rfl) ?_
        refine lv_if_eq (tgt := 63) hx hb dX10_guess_45 (by decide) (fun c_26 => ?_) (fun c_26 => ?_)
        · refine lv_iconst (v := 1) hx hb dX10_guess_63 (by decide) ?_
          refine lv_goto (tgt := 68) hx hb dX10_guess_64 (by decide) ?_
          refine lv_istore (lv' := [(12, .int 1), (11, .int 0), (10, .null), (0, .ref x0), (1, .int p1), (2, .int p2), (3, .int p3), (4, .int p4), (5, .int p5), (6, .int p6), (7, .int p7), (8, .int p8), (9, .int p9)]) hx hb dX10_guess_68 hl (by decide) rfl (fun ls hl => ?_)
          refine lv_aloadN hx hb dX10_guess_70 (lv_at hl 2 rfl) ?_
          refine lv_ifnullN (tgt := 108) hx hb dX10_guess_72 (by decide) ?_
          refine lv_iconst (v := (-1)) hx hb dX10_guess_108 (by decide) ?_
          have hP9 := hP.sub (ws' := []) [] rfl
          have hD9 := hD.sub (ws' := []) [] (by decide) rfl
          refine W.widen (k := 0) (n := 0) (Nat.le_of_ble_eq_true rfl) (Nat.le_of_ble_eq_true rfl) ?_
          exact W.iret (v := (-1)) hx hb hr (fun t ht hW => ⟨⟨(-1), (), rfl, rfl, by rw [ht]; exact hP9, hD9⟩, hS.F ht⟩) hS.2.2 dX10_guess_109
        · refine lv_aload_n hx hb dX10_guess_48 rfl (lv_at hl 2 rfl) ?_
          refine va_get (D := (dC, dI)) (ci := 10) (v := .ref xw) (C := RX10) (T := TX10) (N := 13) hx hb hts iX10_guess_X10 hown hK.1 hP 2 rfl rfl 0 (by decide) (kX10_guess_2 hts) (fun _ h9 => h9) rfl dX10_guess_49 ?_
          refine va_get (D := (dC, dI)) (ci := 9) (v := .ref tway) (C := RX9) (T := TX9) (N := 10) hx hb hts iX10_guess_X9 hown hK.1 hP 0 rfl rfl 5 (by decide) (kX10_guess_3 hts) (fun _ h9 => h9) rfl dX10_guess_52 ?_
          refine lv_iload hx hb dX10_guess_55 (lv_at hl 10 rfl) ?_
          refine z_i (wr := [(xw, .inr (9, [.ref tnodes, .ref tpasses, .ref tjars, .ref torders, .ref tfeasts, .ref tway, .int (-1), .int 0, .int 0, .int 0])), (x0, .inr (10, [.ref xw, .ref xl, .ref xi, .ref xt, .int 0, .ref xq, .int 0, .ref xr, .ref xh, .ref xp, .ref xs_, .ref xa, .ref xm]))]) (va_runV (As := [.int p8]) (rest := []) ⟨hx, hb, hml, hown, hts⟩ (mX6_has l dC dI kA _ tway twayA 1 p8) (cwV 1 hts gX10_guess_X6_has rfl rfl rfl (by decide +kernel) ⟨(Nat.le_of_ble_eq_true rfl), (Nat.le_of_ble_eq_true rfl)⟩) ⟨zPc.blind, va_recv hK.1 hP (ci := 6) (q0 := 1) rfl rfl, zPre hK (hP.sub [1] rfl) (hD.sub [1] (by decide) rfl)⟩ rfl rfl hl.1 rfl (lv_room (Nat.le_of_ble_eq_true rfl)) dX10_guess_57 ⟨(Nat.le_of_ble_eq_true rfl), (Nat.le_of_ble_eq_true rfl)⟩) hP hD hS hA [1] [0, 2] rfl rfl (by decide) (by decide) (fun r29 u27 H locs hw28 hP hD hS => ?_)
          obtain rfl := hw28
          have hP : va_P (dC, dI) vwCl [(xw, .inr (9, [.ref tnodes, .ref tpasses, .ref tjars, .ref torders, .ref tfeasts, .ref tway, .int (-1), .int 0, .int 0, .int 0])), (x0, .inr (10, [.ref xw, .ref xl, .ref xi, .ref xt, .int 0, .ref xq, .int 0, .ref xr, .ref xh, .ref xp, .ref xs_, .ref xa, .ref xm])), (tway, .inr (6, [.int 1, .ref twayA, .int 0]))] H := hP
          have hD : va_D A [(xw, .inr (9, [.ref tnodes, .ref tpasses, .ref tjars, .ref torders, .ref tfeasts, .ref tway, .int (-1), .int 0, .int 0, .int 0])), (x0, .inr (10, [.ref xw, .ref xl, .ref xi, .ref xt, .int 0, .ref xq, .int 0, .ref xr, .ref xh, .ref xp, .ref xs_, .ref xa, .ref xm])), (tway, .inr (6, [.int 1, .ref twayA, .int 0]))] := hD
          refine lv_if_eq (tgt := 67) hx hb dX10_guess_60 (by decide) (fun _ => ?_) (fun c_30 => absurd (by decide) c_30)
          refine lv_iconst (v := 0) hx hb dX10_guess_67 (by decide) ?_
          refine lv_istore (lv' := [(12, .int 0), (11, .int 0), (10, .null), (0, .ref x0), (1, .int p1), (2, .int p2), (3, .int p3), (4, .int p4), (5, .int p5), (6, .int p6), (7, .int p7), (8, .int p8), (9, .int p9)]) hx hb dX10_guess_68 hl (by decide) rfl (fun ls hl => ?_)
          refine lv_aloadN hx hb dX10_guess_70 (lv_at hl 2 rfl) ?_
          refine lv_ifnullN (tgt := 108) hx hb dX10_guess_72 (by decide) ?_
          refine lv_iconst (v := (-1)) hx hb dX10_guess_108 (by decide) ?_
          have hP9 := hP.sub (ws' := []) [] rfl
          have hD9 := hD.sub (ws' := []) [] (by decide) rfl
          refine W.widen (k := 0) (n := 0) (Nat.le_of_ble_eq_true rfl) (Nat.le_of_ble_eq_true rfl) ?_
          exact W.iret (v := (-1)) hx hb hr (fun t ht hW => ⟨⟨(-1), (), rfl, rfl, by rw [ht]; exact hP9, hD9⟩, hS.F ht⟩) hS.2.2 dX10_guess_109
      · refine lv_iconst (v := 1) hx hb dX10_guess_36 (by decide) ?_
        refine lv_goto (tgt := 41) hx hb dX10_guess_37 (by decide) ?_
        refine lv_istore (lv' := [(11, .int 1), (10, .null), (0, .ref x0), (1, .int p1), (2, .int p2), (3, .int p3), (4, .int p4), (5, .int p5), (6, .int p6), (7, .int p7), (8, .int p8), (9, .int p9)]) hx hb dX10_guess_41 hl (by decide) rfl (fun ls hl => ?_)
        refine lv_iload hx hb dX10_guess_43 (lv_at hl 11 rfl) ?_
        refine lv_if_eq (tgt := 63) hx hb dX10_guess_45 (by decide) (fun c_31 => ?_) (fun c_31 => ?_)
        · refine lv_iconst (v := 1) hx hb dX10_guess_63 (by decide) ?_
          refine lv_goto (tgt := 68) hx hb dX10_guess_64 (by decide) ?_
          refine lv_istore (lv' := [(12, .int 1), (11, .int 1), (10, .null), (0, .ref x0), (1, .int p1), (2, .int p2), (3, .int p3), (4, .int p4), (5, .int p5), (6, .int p6), (7, .int p7), (8, .int p8), (9, .int p9)]) hx hb dX10_guess_68 hl (by decide) rfl (fun ls hl => ?_)
          refine lv_aloadN hx hb dX10_guess_70 (lv_at hl 2 rfl) ?_
          refine lv_ifnullN (tgt := 108) hx hb dX10_guess_72 (by decide) ?_
          refine lv_iconst (v := (-1)) hx hb dX10_guess_108 (by decide) ?_
          have hP9 := hP.sub (ws' := []) [] rfl
          have hD9 := hD.sub (ws' := []) [] (by decide) rfl
          refine W.widen (k := 0) (n := 0) (Nat.le_of_ble_eq_true rfl) (Nat.le_of_ble_eq_true rfl) ?_
          exact W.iret (v := (-1)) hx hb hr (fun t ht hW => ⟨⟨(-1), (), rfl, rfl, by rw [ht]; exact hP9, hD9⟩, hS.F ht⟩) hS.2.2 dX10_guess_109
        · refine lv_aload_n hx hb dX10_guess_48 rfl (lv_at hl 2 rfl) ?_
          refine va_get (D := (dC, dI)) (ci := 10) (v := .ref xw) (C := RX10) (T := TX10) (N := 13) hx hb hts iX10_guess_X10 hown hK.1 hP 2 rfl rfl 0 (by decide) (kX10_guess_2 hts) (fun _ h9 => h9) rfl dX10_guess_49 ?_
          refine va_get (D := (dC, dI)) (ci := 9) (v := .ref tway) (C := RX9) (T := TX9) (N := 10) hx hb hts iX10_guess_X9 hown hK.1 hP 0 rfl rfl 5 (by decide) (kX10_guess_3 hts) (fun _ h9 => h9) rfl dX10_guess_52 ?_
          refine lv_iload hx hb dX10_guess_55 (lv_at hl 10 rfl) ?_
          refine z_i (wr := [(xw, .inr (9, [.ref tnodes, .ref tpasses, .ref tjars, .ref torders, .ref tfeasts, .ref tway, .int (-1), .int 0, .int 0, .int 0])), (x0, .inr (10, [.ref xw, .ref xl, .ref xi, .ref xt, .int 0, .ref xq, .int 0, .ref xr, .ref xh, .ref xp, .ref xs_, .ref xa, .ref xm]))]) (va_runV (As := [.int p8]) (rest := []) ⟨hx, hb, hml, hown, hts⟩ (mX6_has l dC dI kA _ tway twayA 1 p8) (cwV 1 hts gX10_guess_X6_has rfl rfl rfl (by decide +kernel) ⟨(Nat.le_of_ble_eq_true rfl), (Nat.le_of_ble_eq_true rfl)⟩) ⟨zPc.blind, va_recv hK.1 hP (ci := 6) (q0 := 1) rfl rfl, zPre hK (hP.sub [1] rfl) (hD.sub [1] (by decide) rfl)⟩ rfl rfl hl.1 rfl (lv_room (Nat.le_of_ble_eq_true rfl)) dX10_guess_57 ⟨(Nat.le_of_ble_eq_true rfl), (Nat.le_of_ble_eq_true rfl)⟩) hP hD hS hA [1] [0, 2] rfl rfl (by decide) (by decide) (fun r34 u32 H locs hw33 hP hD hS => ?_)
          obtain rfl := hw33
          have hP : va_P (dC, dI) vwCl [(xw, .inr (9, [.ref tnodes, .ref tpasses, .ref tjars, .ref torders, .ref tfeasts, .ref tway, .int (-1), .int 0, .int 0, .int 0])), (x0, .inr (10, [.ref xw, .ref xl, .ref xi, .ref xt, .int 0, .ref xq, .int 0, .ref xr, .ref xh, .ref xp, .ref xs_, .ref xa, .ref xm])), (tway, .inr (6, [.int 1, .ref twayA, .int 0]))] H := hP
          have hD : va_D A [(xw, .inr (9, [.ref tnodes, .ref tpasses, .ref tjars, .ref torders, .ref tfeasts, .ref tway, .int (-1), .int 0, .int 0, .int 0])), (x0, .inr (10, [.ref xw, .ref xl, .ref xi, .ref xt, .int 0, .ref xq, .int 0, .ref xr, .ref xh, .ref xp, .ref xs_, .ref xa, .ref xm])), (tway, .inr (6, [.int 1, .ref twayA, .int 0]))] := hD
          refine lv_if_eq (tgt := 67) hx hb dX10_guess_60 (by decide) (fun _ => ?_) (fun c_35 => absurd (by decide) c_35)
          refine lv_iconst (v := 0) hx hb dX10_guess_67 (by decide) ?_
          refine lv_istore (lv' := [(12, .int 0), (11, .int 1), (10, .null), (0, .ref x0), (1, .int p1), (2, .int p2), (3, .int p3), (4, .int p4), (5, .int p5), (6, .int p6), (7, .int p7), (8, .int p8), (9, .int p9)]) hx hb dX10_guess_68 hl (by decide) rfl (fun ls hl => ?_)
          refine lv_aloadN hx hb dX10_guess_70 (lv_at hl 2 rfl) ?_
          refine lv_ifnullN (tgt := 108) hx hb dX10_guess_72 (by decide) ?_
          refine lv_iconst (v := (-1)) hx hb dX10_guess_108 (by decide) ?_
          have hP9 := hP.sub (ws' := []) [] rfl
          have hD9 := hD.sub (ws' := []) [] (by decide) rfl
          refine W.widen (k := 0) (n := 0) (Nat.le_of_ble_eq_true rfl) (Nat.le_of_ble_eq_true rfl) ?_
          exact W.iret (v := (-1)) hx hb hr (fun t ht hW => ⟨⟨(-1), (), rfl, rfl, by rw [ht]; exact hP9, hD9⟩, hS.F ht⟩) hS.2.2 dX10_guess_109
set_option maxHeartbeats 4000000 in
set_option maxRecDepth 100000 in
theorem mX10_order (l : Launch) (dC : Nat → ClassId) (dI : Nat → Nat → Nat) (kA : Nat → ClassId) (sz : Nat) (x0 : Nat) (xw : Nat) (xl : Nat) (xi : Nat) (xt : Nat) (xq : Nat) (xr : Nat) (xh : Nat) (xp : Nat) (xs_ : Nat) (xa : Nat) (xm : Nat) (tnodes : Nat) (tnodesA : Nat) (tpasses : Nat) (tjars : Nat) (torders : Nat) (tfeasts : Nat) (tway : Nat) (p1 : Int32) (p2 : Int32) (p3 : Int32) (p4 : Int32)  : Met l yX10_order wsX10_order ({ frames := 1, cells := 0, slots := 0, locals := 21 }) (zPc dC dI kA sz [.ref x0, .int p1, .int p2, .int p3, .int p4] [(x0, .inr (10, [.ref xw, .ref xl, .ref xi, .ref xt, .int 0, .ref xq, .int 0, .ref xr, .ref xh, .ref xp, .ref xs_, .ref xa, .ref xm])), (xw, .inr (9, [.ref tnodes, .ref tpasses, .ref tjars, .ref torders, .ref tfeasts, .ref tway, .int (-1), .int 0, .int 0, .int 0])), (tnodes, .inr (6, [.int 4, .ref tnodesA, .int 0]))]) (va_Qi (fun (r : Int32) (u : Unit) => r = (-1)) (zB dC dI (va_A [(x0, .inr (10, [.ref xw, .ref xl, .ref xi, .ref xt, .int 0, .ref xq, .int 0, .ref xr, .ref xh, .ref xp, .ref xs_, .ref xa, .ref xm])), (xw, .inr (9, [.ref tnodes, .ref tpasses, .ref tjars, .ref torders, .ref tfeasts, .ref tway, .int (-1), .int 0, .int 0, .int 0])), (tnodes, .inr (6, [.int 4, .ref tnodesA, .int 0]))] sz) (fun (u : Unit) => [])) (va_A [(x0, .inr (10, [.ref xw, .ref xl, .ref xi, .ref xt, .int 0, .ref xq, .int 0, .ref xr, .ref xh, .ref xp, .ref xs_, .ref xa, .ref xm])), (xw, .inr (9, [.ref tnodes, .ref tpasses, .ref tjars, .ref torders, .ref tfeasts, .ref tway, .int (-1), .int 0, .int 0, .int 0])), (tnodes, .inr (6, [.int 4, .ref tnodesA, .int 0]))] sz)) 0 0 (va_A [(x0, .inr (10, [.ref xw, .ref xl, .ref xi, .ref xt, .int 0, .ref xq, .int 0, .ref xr, .ref xh, .ref xp, .ref xs_, .ref xa, .ref xm])), (xw, .inr (9, [.ref tnodes, .ref tpasses, .ref tjars, .ref torders, .ref tfeasts, .ref tway, .int (-1), .int 0, .int 0, .int 0])), (tnodes, .inr (6, [.int 4, .ref tnodesA, .int 0]))] sz) := by
  refine Met.ofW (cc := cX10_order) (maxL := 7) (ret := (some .int)) (by decide) rfl ?_
  intro p e s m args below meth c s₁ B hml hv
  obtain ⟨rfl, hsz, hP, hK, hD0⟩ := hv
  have hx := B.exec
  have hb := B.bytes
  have hr := B.returns
  have hts := atoms_spec (ws := wsX10_order) B.pre
  have hown : s.vm.findClass RX10 = some m.cls := findClass_of_methodNamed B.named
  have hlocks := B.notSynchronized
  subst hsz
  have hD := hD0.self (sz := s.heap.size)
  generalize hAe : va_A [(x0, .inr (10, [.ref xw, .ref xl, .ref xi, .ref xt, .int 0, .ref xq, .int 0, .ref xr, .ref xh, .ref xp, .ref xs_, .ref xa, .ref xm])), (xw, .inr (9, [.ref tnodes, .ref tpasses, .ref tjars, .ref torders, .ref tfeasts, .ref tway, .int (-1), .int 0, .int 0, .int 0])), (tnodes, .inr (6, [.int 4, .ref tnodesA, .int 0]))] s.heap.size = A at hD ⊢
  have hA : ∀ q : Nat, s.heap.size ≤ q → A q := fun q h => by rw [← hAe]; exact Or.inr h
  have hS : va_S A s.heap s.heap [] := va_S.rf
  have hP : va_P (dC, dI) vwCl [(x0, .inr (10, [.ref xw, .ref xl, .ref xi, .ref xt, .int 0, .ref xq, .int 0, .ref xr, .ref xh, .ref xp, .ref xs_, .ref xa, .ref xm])), (xw, .inr (9, [.ref tnodes, .ref tpasses, .ref tjars, .ref torders, .ref tfeasts, .ref tway, .int (-1), .int 0, .int 0, .int 0])), (tnodes, .inr (6, [.int 4, .ref tnodesA, .int 0]))] s.heap := hP
  have hl := lv_entry ([.ref x0, .int p1, .int p2, .int p3, .int p4]) (n := 7) (Nat.le_of_ble_eq_true rfl)
  rw [lg_entry_eq]
  generalize (lg_sl ([.ref x0, .int p1, .int p2, .int p3, .int p4]) ++ List.replicate (7 - (lg_sl ([.ref x0, .int p1, .int p2, .int p3, .int p4])).length) Slot.unset).toArray = ls at hl ⊢
  have hl : lv_has ls 7 [(0, .ref x0), (1, .int p1), (2, .int p2), (3, .int p3), (4, .int p4)] := hl
  refine lv_iload_n hx hb dX10_order_0 rfl (lv_at hl 2 rfl) ?_
  refine lv_ldc hx hb hown (kX10_order_1 hts) dX10_order_1 ?_
  refine z_i (wr := [(x0, .inr (10, [.ref xw, .ref xl, .ref xi, .ref xt, .int 0, .ref xq, .int 0, .ref xr, .ref xh, .ref xp, .ref xs_, .ref xa, .ref xm])), (xw, .inr (9, [.ref tnodes, .ref tpasses, .ref tjars, .ref torders, .ref tfeasts, .ref tway, .int (-1), .int 0, .int 0, .int 0])), (tnodes, .inr (6, [.int 4, .ref tnodesA, .int 0]))]) (va_runS (As := [.int p2, .int 99999]) (rest := []) ⟨hx, hb, hml, hown, hts⟩ (mX10_within l dC dI kA _ p2 99999) (va_cwS 2 hts gX10_order_X10_within rfl rfl rfl (by decide +kernel) ⟨(Nat.le_of_ble_eq_true rfl), (Nat.le_of_ble_eq_true rfl)⟩) ⟨zPc.blind, zPre hK (hP.sub [] rfl) (hD.sub [] (by decide) rfl)⟩ rfl rfl hl.1 rfl (lv_room (Nat.le_of_ble_eq_true rfl)) dX10_order_3 ⟨(Nat.le_of_ble_eq_true rfl), (Nat.le_of_ble_eq_true rfl)⟩) hP hD hS hA [] [0, 1, 2] rfl rfl (by decide) (by decide) (fun r3 u1 H locs hw2 hP hD hS => ?_)
  obtain rfl := hw2
  have hP : va_P (dC, dI) vwCl [(x0, .inr (10, [.ref xw, .ref xl, .ref xi, .ref xt, .int 0, .ref xq, .int 0, .ref xr, .ref xh, .ref xp, .ref xs_, .ref xa, .ref xm])), (xw, .inr (9, [.ref tnodes, .ref tpasses, .ref tjars, .ref torders, .ref tfeasts, .ref tway, .int (-1), .int 0, .int 0, .int 0])), (tnodes, .inr (6, [.int 4, .ref tnodesA, .int 0]))] H := hP
  have hD : va_D A [(x0, .inr (10, [.ref xw, .ref xl, .ref xi, .ref xt, .int 0, .ref xq, .int 0, .ref xr, .ref xh, .ref xp, .ref xs_, .ref xa, .ref xm])), (xw, .inr (9, [.ref tnodes, .ref tpasses, .ref tjars, .ref torders, .ref tfeasts, .ref tway, .int (-1), .int 0, .int 0, .int 0])), (tnodes, .inr (6, [.int 4, .ref tnodesA, .int 0]))] := hD
  refine lv_if_eq (tgt := 31) hx hb dX10_order_6 (by decide) (fun c_4 => ?_) (fun c_4 => ?_)
  · refine lv_iconst (v := 0) hx hb dX10_order_31 (by decide) ?_
    refine lv_istore (lv' := [(5, .int 0), (0, .ref x0), (1, .int p1), (2, .int p2), (3, .int p3), (4, .int p4)]) hx hb dX10_order_32 hl (by decide) rfl (fun ls hl => ?_)
    refine lv_iload hx hb dX10_order_34 (lv_at hl 0 rfl) ?_
    refine lv_if_eq (tgt := 66) hx hb dX10_order_36 (by decide) (fun _ => ?_) (fun c_5 => absurd (by decide) c_5)
    refine lv_iconst (v := (-1)) hx hb dX10_order_66 (by decide) ?_
    refine lv_istore (lv' := [(6, .int (-1)), (5, .int 0), (0, .ref x0), (1, .int p1), (2, .int p2), (3, .int p3), (4, .int p4)]) hx hb dX10_order_67 hl (by decide) rfl (fun ls hl => ?_)
    refine lv_iload hx hb dX10_order_69 (lv_at hl 0 rfl) ?_
    refine lv_iconst (v := (-1)) hx hb dX10_order_71 (by decide) ?_
    refine lv_icmp_ne (tgt := 77) hx hb dX10_order_72 (by decide) (fun c_6 => absurd (by decide) c_6) (fun _ => ?_)
    refine lv_iconst (v := (-1)) hx hb dX10_order_75 (by decide) ?_
    have hP9 := hP.sub (ws' := []) [] rfl
    have hD9 := hD.sub (ws' := []) [] (by decide) rfl
    refine W.widen (k := 0) (n := 0) (Nat.le_of_ble_eq_true rfl) (Nat.le_of_ble_eq_true rfl) ?_
    exact W.iret (v := (-1)) hx hb hr (fun t ht hW => ⟨⟨(-1), (), rfl, rfl, by rw [ht]; exact hP9, hD9⟩, hS.F ht⟩) hS.2.2 dX10_order_76
  · refine lv_iload_n hx hb dX10_order_9 rfl (lv_at hl 3 rfl) ?_
    refine z_i (wr := [(x0, .inr (10, [.ref xw, .ref xl, .ref xi, .ref xt, .int 0, .ref xq, .int 0, .ref xr, .ref xh, .ref xp, .ref xs_, .ref xa, .ref xm])), (xw, .inr (9, [.ref tnodes, .ref tpasses, .ref tjars, .ref torders, .ref tfeasts, .ref tway, .int (-1), .int 0, .int 0, .int 0])), (tnodes, .inr (6, [.int 4, .ref tnodesA, .int 0]))]) (va_runS (As := [.int p3]) (rest := []) ⟨hx, hb, hml, hown, hts⟩ (mX10_isWish l dC dI kA _ p3) (va_cwS 1 hts gX10_order_X10_isWish rfl rfl rfl (by decide +kernel) ⟨(Nat.le_of_ble_eq_true rfl), (Nat.le_of_ble_eq_true rfl)⟩) ⟨zPc.blind, zPre hK (hP.sub [] rfl) (hD.sub [] (by decide) rfl)⟩ rfl rfl hl.1 rfl (lv_room (Nat.le_of_ble_eq_true rfl)) dX10_order_10 ⟨(Nat.le_of_ble_eq_true rfl), (Nat.le_of_ble_eq_true rfl)⟩) hP hD hS hA [] [0, 1, 2] rfl rfl (by decide) (by decide) (fun r9 u7 H locs hw8 hP hD hS => ?_)
    obtain ⟨q_10, rfl⟩ : ∃ z, z = u7 := ⟨_, rfl⟩
    obtain rfl := hw8
    have hP : va_P (dC, dI) vwCl [(x0, .inr (10, [.ref xw, .ref xl, .ref xi, .ref xt, .int 0, .ref xq, .int 0, .ref xr, .ref xh, .ref xp, .ref xs_, .ref xa, .ref xm])), (xw, .inr (9, [.ref tnodes, .ref tpasses, .ref tjars, .ref torders, .ref tfeasts, .ref tway, .int (-1), .int 0, .int 0, .int 0])), (tnodes, .inr (6, [.int 4, .ref tnodesA, .int 0]))] H := hP
    have hD : va_D A [(x0, .inr (10, [.ref xw, .ref xl, .ref xi, .ref xt, .int 0, .ref xq, .int 0, .ref xr, .ref xh, .ref xp, .ref xs_, .ref xa, .ref xm])), (xw, .inr (9, [.ref tnodes, .ref tpasses, .ref tjars, .ref torders, .ref tfeasts, .ref tway, .int (-1), .int 0, .int 0, .int 0])), (tnodes, .inr (6, [.int 4, .ref tnodesA, .int 0]))] := hD
    refine lv_if_eq (tgt := 31) hx hb dX10_order_13 (by decide) (fun c_11 => ?_) (fun c_11 => ?_)
    · refine lv_iconst (v := 0) hx hb dX10_order_31 (by decide) ?_
      refine lv_istore (lv' := [(5, .int 0), (0, .ref x0), (1, .int p1), (2, .int p2), (3, .int p3), (4, .int p4)]) hx hb dX10_order_32 hl (by decide) rfl (fun ls hl => ?_)
      refine lv_iload hx hb dX10_order_34 (lv_at hl 0 rfl) ?_
      refine lv_if_eq (tgt := 66) hx hb dX10_order_36 (by decide) (fun _ => ?_) (fun c_12 => absurd (by decide) c_12)
      refine lv_iconst (v := (-1)) hx hb dX10_order_66 (by decide) ?_
      refine lv_istore (lv' := [(6, .int (-1)), (5, .int 0), (0, .ref x0), (1, .int p1), (2, .int p2), (3, .int p3), (4, .int p4)]) hx hb dX10_order_67 hl (by decide) rfl (fun ls hl => ?_)
      refine lv_iload hx hb dX10_order_69 (lv_at hl 0 rfl) ?_
      refine lv_iconst (v := (-1)) hx hb dX10_order_71 (by decide) ?_
      refine lv_icmp_ne (tgt := 77) hx hb dX10_order_72 (by decide) (fun c_13 => absurd (by decide) c_13) (fun _ => ?_)
      refine lv_iconst (v := (-1)) hx hb dX10_order_75 (by decide) ?_
      have hP9 := hP.sub (ws' := []) [] rfl
      have hD9 := hD.sub (ws' := []) [] (by decide) rfl
      refine W.widen (k := 0) (n := 0) (Nat.le_of_ble_eq_true rfl) (Nat.le_of_ble_eq_true rfl) ?_
      exact W.iret (v := (-1)) hx hb hr (fun t ht hW => ⟨⟨(-1), (), rfl, rfl, by rw [ht]; exact hP9, hD9⟩, hS.F ht⟩) hS.2.2 dX10_order_76
    · refine lv_iload hx hb dX10_order_16 (lv_at hl 4 rfl) ?_
      refine lv_sipush (v := 9999) hx hb dX10_order_18 (by decide) ?_
      refine z_i (wr := [(x0, .inr (10, [.ref xw, .ref xl, .ref xi, .ref xt, .int 0, .ref xq, .int 0, .ref xr, .ref xh, .ref xp, .ref xs_, .ref xa, .ref xm])), (xw, .inr (9, [.ref tnodes, .ref tpasses, .ref tjars, .ref torders, .ref tfeasts, .ref tway, .int (-1), .int 0, .int 0, .int 0])), (tnodes, .inr (6, [.int 4, .ref tnodesA, .int 0]))]) (va_runS (As := [.int p4, .int 9999]) (rest := []) ⟨hx, hb, hml, hown, hts⟩ (mX10_within l dC dI kA _ p4 9999) (va_cwS 2 hts gX10_order_X10_within rfl rfl rfl (by decide +kernel) ⟨(Nat.le_of_ble_eq_true rfl), (Nat.le_of_ble_eq_true rfl)⟩) ⟨zPc.blind, zPre hK (hP.sub [] rfl) (hD.sub [] (by decide) rfl)⟩ rfl rfl hl.1 rfl (lv_room (Nat.le_of_ble_eq_true rfl)) dX10_order_21 ⟨(Nat.le_of_ble_eq_true rfl), (Nat.le_of_ble_eq_true rfl)⟩) hP hD hS hA [] [0, 1, 2] rfl rfl (by decide) (by decide) (fun r16 u14 H locs hw15 hP hD hS => ?_)
      obtain rfl := hw15
      have hP : va_P (dC, dI) vwCl [(x0, .inr (10, [.ref xw, .ref xl, .ref xi, .ref xt, .int 0, .ref xq, .int 0, .ref xr, .ref xh, .ref xp, .ref xs_, .ref xa, .ref xm])), (xw, .inr (9, [.ref tnodes, .ref tpasses, .ref tjars, .ref torders, .ref tfeasts, .ref tway, .int (-1), .int 0, .int 0, .int 0])), (tnodes, .inr (6, [.int 4, .ref tnodesA, .int 0]))] H := hP
      have hD : va_D A [(x0, .inr (10, [.ref xw, .ref xl, .ref xi, .ref xt, .int 0, .ref xq, .int 0, .ref xr, .ref xh, .ref xp, .ref xs_, .ref xa, .ref xm])), (xw, .inr (9, [.ref tnodes, .ref tpasses, .ref tjars, .ref torders, .ref tfeasts, .ref tway, .int (-1), .int 0, .int 0, .int 0])), (tnodes, .inr (6, [.int 4, .ref tnodesA, .int 0]))] := hD
      refine lv_if_eq (tgt := 31) hx hb dX10_order_24 (by decide) (fun c_17 => ?_) (fun c_17 => ?_)
      · refine lv_iconst (v := 0) hx hb dX10_order_31 (by decide) ?_
        refine lv_istore (lv' := [(5, .int 0), (0, .ref x0), (1, .int p1), (2, .int p2), (3, .int p3), (4, .int p4)]) hx hb dX10_order_32 hl (by decide) rfl (fun ls hl => ?_)
        refine lv_iload hx hb dX10_order_34 (lv_at hl 0 rfl) ?_
        refine lv_if_eq (tgt := 66) hx hb dX10_order_36 (by decide) (fun _ => ?_) (fun c_18 => absurd (by decide) c_18)
        refine lv_iconst (v := (-1)) hx hb dX10_order_66 (by decide) ?_
        refine lv_istore (lv' := [(6, .int (-1)), (5, .int 0), (0, .ref x0), (1, .int p1), (2, .int p2), (3, .int p3), (4, .int p4)]) hx hb dX10_order_67 hl (by decide) rfl (fun ls hl => ?_)
        refine lv_iload hx hb dX10_order_69 (lv_at hl 0 rfl) ?_
        refine lv_iconst (v := (-1)) hx hb dX10_order_71 (by decide) ?_
        refine lv_icmp_ne (tgt := 77) hx hb dX10_order_72 (by decide) (fun c_19 => absurd (by decide) c_19) (fun _ => ?_)
        refine lv_iconst (v := (-1)) hx hb dX10_order_75 (by decide) ?_
        have hP9 := hP.sub (ws' := []) [] rfl
        have hD9 := hD.sub (ws' := []) [] (by decide) rfl
        refine W.widen (k := 0) (n := 0) (Nat.le_of_ble_eq_true rfl) (Nat.le_of_ble_eq_true rfl) ?_
        exact W.iret (v := (-1)) hx hb hr (fun t ht hW => ⟨⟨(-1), (), rfl, rfl, by rw [ht]; exact hP9, hD9⟩, hS.F ht⟩) hS.2.2 dX10_order_76
      · refine lv_iconst (v := 1) hx hb dX10_order_27 (by decide) ?_
        refine lv_goto (tgt := 32) hx hb dX10_order_28 (by decide) ?_
        refine lv_istore (lv' := [(5, .int 1), (0, .ref x0), (1, .int p1), (2, .int p2), (3, .int p3), (4, .int p4)]) hx hb dX10_order_32 hl (by decide) rfl (fun ls hl => ?_)
        refine lv_iload hx hb dX10_order_34 (lv_at hl 0 rfl) ?_
        refine lv_if_eq (tgt := 66) hx hb dX10_order_36 (by decide) (fun c_20 => absurd c_20 (by decide)) (fun _ => ?_)
        refine lv_aload_n hx hb dX10_order_39 rfl (lv_at hl 1 rfl) ?_
        refine va_get (D := (dC, dI)) (ci := 10) (v := .ref xw) (C := RX10) (T := TX10) (N := 13) hx hb hts iX10_order_X10 hown hK.1 hP 0 rfl rfl 0 (by decide) (kX10_order_2 hts) (fun _ h9 => h9) rfl dX10_order_40 ?_
        refine va_get (D := (dC, dI)) (ci := 9) (v := .ref tnodes) (C := RX9) (T := TX9) (N := 10) hx hb hts iX10_order_X9 hown hK.1 hP 1 rfl rfl 0 (by decide) (kX10_order_3 hts) (fun _ h9 => h9) rfl dX10_order_43 ?_
        refine lv_iload_n hx hb dX10_order_46 rfl (lv_at hl 2 rfl) ?_
        refine z_i (wr := [(x0, .inr (10, [.ref xw, .ref xl, .ref xi, .ref xt, .int 0, .ref xq, .int 0, .ref xr, .ref xh, .ref xp, .ref xs_, .ref xa, .ref xm])), (xw, .inr (9, [.ref tnodes, .ref tpasses, .ref tjars, .ref torders, .ref tfeasts, .ref tway, .int (-1), .int 0, .int 0, .int 0]))]) (va_runV (As := [.int p1]) (rest := []) ⟨hx, hb, hml, hown, hts⟩ (mX6_has l dC dI kA _ tnodes tnodesA 4 p1) (cwV 1 hts gX10_order_X6_has rfl rfl rfl (by decide +kernel) ⟨(Nat.le_of_ble_eq_true rfl), (Nat.le_of_ble_eq_true rfl)⟩) ⟨zPc.blind, va_recv hK.1 hP (ci := 6) (q0 := 2) rfl rfl, zPre hK (hP.sub [2] rfl) (hD.sub [2] (by decide) rfl)⟩ rfl rfl hl.1 rfl (lv_room (Nat.le_of_ble_eq_true rfl)) dX10_order_47 ⟨(Nat.le_of_ble_eq_true rfl), (Nat.le_of_ble_eq_true rfl)⟩) hP hD hS hA [2] [0, 1] rfl rfl (by decide) (by decide) (fun r23 u21 H locs hw22 hP hD hS => ?_)
        obtain rfl := hw22
        have hP : va_P (dC, dI) vwCl [(x0, .inr (10, [.ref xw, .ref xl, .ref xi, .ref xt, .int 0, .ref xq, .int 0, .ref xr, .ref xh, .ref xp, .ref xs_, .ref xa, .ref xm])), (xw, .inr (9, [.ref tnodes, .ref tpasses, .ref tjars, .ref torders, .ref tfeasts, .ref tway, .int (-1), .int 0, .int 0, .int 0])), (tnodes, .inr (6, [.int 4, .ref tnodesA, .int 0]))] H := hP
        have hD : va_D A [(x0, .inr (10, [.ref xw, .ref xl, .ref xi, .ref xt, .int 0, .ref xq, .int 0, .ref xr, .ref xh, .ref xp, .ref xs_, .ref xa, .ref xm])), (xw, .inr (9, [.ref tnodes, .ref tpasses, .ref tjars, .ref torders, .ref tfeasts, .ref tway, .int (-1), .int 0, .int 0, .int 0])), (tnodes, .inr (6, [.int 4, .ref tnodesA, .int 0]))] := hD
        refine lv_if_eq (tgt := 66) hx hb dX10_order_50 (by decide) (fun _ => ?_) (fun c_24 => absurd (by decide) c_24)
        refine lv_iconst (v := (-1)) hx hb dX10_order_66 (by decide) ?_
        refine lv_istore (lv' := [(6, .int (-1)), (5, .int 1), (0, .ref x0), (1, .int p1), (2, .int p2), (3, .int p3), (4, .int p4)]) hx hb dX10_order_67 hl (by decide) rfl (fun ls hl => ?_)
        refine lv_iload hx hb dX10_order_69 (lv_at hl 0 rfl) ?_
        refine lv_iconst (v := (-1)) hx hb dX10_order_71 (by decide) ?_
        refine lv_icmp_ne (tgt := 77) hx hb dX10_order_72 (by decide) (fun c_25 => absurd (by decide) c_25) (fun _ => ?_)
        refine lv_iconst (v := (-1)) hx hb dX10_order_75 (by decide) ?_
        have hP9 := hP.sub (ws' := []) [] rfl
        have hD9 := hD.sub (ws' := []) [] (by decide) rfl
        refine W.widen (k := 0) (n := 0) (Nat.le_of_ble_eq_true rfl) (Nat.le_of_ble_eq_true rfl) ?_
        exact W.iret (v := (-1)) hx hb hr (fun t ht hW => ⟨⟨(-1), (), rfl, rfl, by rw [ht]; exact hP9, hD9⟩, hS.F ht⟩) hS.2.2 dX10_order_76
set_option maxHeartbeats 4000000 in
set_option maxRecDepth 100000 in
theorem mX10_serves (l : Launch) (dC : Nat → ClassId) (dI : Nat → Nat → Nat) (kA : Nat → ClassId) (sz : Nat) (x0 : Nat) (xw : Nat) (xl : Nat) (xi : Nat) (xt : Nat) (xq : Nat) (xr : Nat) (xh : Nat) (xp : Nat) (xs_ : Nat) (xa : Nat) (xm : Nat) (p1 : Int32) (p2 : Int32) (p3 : Int32)  : Met l yX10_serves wsX10_serves ({ frames := 2, cells := 0, slots := 0, locals := 42 }) (zPc dC dI kA sz [.ref x0, .int p1, .int p2, .int p3] [(x0, .inr (10, [.ref xw, .ref xl, .ref xi, .ref xt, .int 0, .ref xq, .int 0, .ref xr, .ref xh, .ref xp, .ref xs_, .ref xa, .ref xm]))]) (va_Qi (fun (r : Int32) (u : Unit) => r = (-1)) (zB dC dI (va_A [(x0, .inr (10, [.ref xw, .ref xl, .ref xi, .ref xt, .int 0, .ref xq, .int 0, .ref xr, .ref xh, .ref xp, .ref xs_, .ref xa, .ref xm]))] sz) (fun (u : Unit) => [])) (va_A [(x0, .inr (10, [.ref xw, .ref xl, .ref xi, .ref xt, .int 0, .ref xq, .int 0, .ref xr, .ref xh, .ref xp, .ref xs_, .ref xa, .ref xm]))] sz)) 0 0 (va_A [(x0, .inr (10, [.ref xw, .ref xl, .ref xi, .ref xt, .int 0, .ref xq, .int 0, .ref xr, .ref xh, .ref xp, .ref xs_, .ref xa, .ref xm]))] sz) := by
  refine Met.ofW (cc := cX10_serves) (maxL := 5) (ret := (some .int)) (by decide) rfl ?_
  intro p e s m args below meth c s₁ B hml hv
  obtain ⟨rfl, hsz, hP, hK, hD0⟩ := hv
  have hx := B.exec
  have hb := B.bytes
  have hr := B.returns
  have hts := atoms_spec (ws := wsX10_serves) B.pre
  have hown : s.vm.findClass RX10 = some m.cls := findClass_of_methodNamed B.named
  have hlocks := B.notSynchronized
  subst hsz
  have hD := hD0.self (sz := s.heap.size)
  generalize hAe : va_A [(x0, .inr (10, [.ref xw, .ref xl, .ref xi, .ref xt, .int 0, .ref xq, .int 0, .ref xr, .ref xh, .ref xp, .ref xs_, .ref xa, .ref xm]))] s.heap.size = A at hD ⊢
  have hA : ∀ q : Nat, s.heap.size ≤ q → A q := fun q h => by rw [← hAe]; exact Or.inr h
  have hS : va_S A s.heap s.heap [] := va_S.rf
  have hP : va_P (dC, dI) vwCl [(x0, .inr (10, [.ref xw, .ref xl, .ref xi, .ref xt, .int 0, .ref xq, .int 0, .ref xr, .ref xh, .ref xp, .ref xs_, .ref xa, .ref xm]))] s.heap := hP
  have hl := lv_entry ([.ref x0, .int p1, .int p2, .int p3]) (n := 5) (Nat.le_of_ble_eq_true rfl)
  rw [lg_entry_eq]
  generalize (lg_sl ([.ref x0, .int p1, .int p2, .int p3]) ++ List.replicate (5 - (lg_sl ([.ref x0, .int p1, .int p2, .int p3])).length) Slot.unset).toArray = ls at hl ⊢
  have hl : lv_has ls 5 [(0, .ref x0), (1, .int p1), (2, .int p2), (3, .int p3)] := hl
  refine lv_aload_n hx hb dX10_serves_0 rfl (lv_at hl 0 rfl) ?_
  refine lv_iload_n hx hb dX10_serves_1 rfl (lv_at hl 1 rfl) ?_
  refine z_q (wr := []) (va_runV (As := [.int p1]) (rest := []) ⟨hx, hb, hml, hown, hts⟩ (mX10_lawOf l dC dI kA _ x0 xw xl xi xt xq xr xh xp xs_ xa xm p1) (cwV 1 hts gX10_serves_X10_lawOf rfl rfl rfl (by decide +kernel) ⟨(Nat.le_of_ble_eq_true rfl), (Nat.le_of_ble_eq_true rfl)⟩) ⟨zPc.blind, va_recv hK.1 hP (ci := 10) (q0 := 0) rfl rfl, zPre hK (hP.sub [0] rfl) (hD.sub [0] (by decide) rfl)⟩ rfl rfl hl.1 rfl (lv_room (Nat.le_of_ble_eq_true rfl)) dX10_serves_2 ⟨(Nat.le_of_ble_eq_true rfl), (Nat.le_of_ble_eq_true rfl)⟩) hP hD hS hA [0] [] rfl rfl (by decide) (by decide) (fun r3 u1 H locs hw2 hP hD hS => ?_)
  obtain rfl := hw2
  have hP : va_P (dC, dI) vwCl [(x0, .inr (10, [.ref xw, .ref xl, .ref xi, .ref xt, .int 0, .ref xq, .int 0, .ref xr, .ref xh, .ref xp, .ref xs_, .ref xa, .ref xm]))] H := hP
  have hD : va_D A [(x0, .inr (10, [.ref xw, .ref xl, .ref xi, .ref xt, .int 0, .ref xq, .int 0, .ref xr, .ref xh, .ref xp, .ref xs_, .ref xa, .ref xm]))] := hD
  refine zv .null rfl ?_
  refine lv_astoreN (lv' := [(4, .null), (0, .ref x0), (1, .int p1), (2, .int p2), (3, .int p3)]) hx hb dX10_serves_5 hl (by decide) rfl (fun ls hl => ?_)
  refine lv_aloadN hx hb dX10_serves_7 (lv_at hl 0 rfl) ?_
  refine lv_ifnullN (tgt := 40) hx hb dX10_serves_9 (by decide) ?_
  refine lv_iconst (v := (-1)) hx hb dX10_serves_40 (by decide) ?_
  have hP9 := hP.sub (ws' := []) [] rfl
  have hD9 := hD.sub (ws' := []) [] (by decide) rfl
  refine W.widen (k := 0) (n := 0) (Nat.le_of_ble_eq_true rfl) (Nat.le_of_ble_eq_true rfl) ?_
  exact W.iret (v := (-1)) hx hb hr (fun t ht hW => ⟨⟨(-1), (), rfl, rfl, by rw [ht]; exact hP9, hD9⟩, hS.F ht⟩) hS.2.2 dX10_serves_41
set_option maxHeartbeats 4000000 in
set_option maxRecDepth 100000 in
theorem mX10_all (l : Launch) (dC : Nat → ClassId) (dI : Nat → Nat → Nat) (kA : Nat → ClassId) (sz : Nat) (x0 : Nat) (xw : Nat) (xl : Nat) (xi : Nat) (xt : Nat) (xq : Nat) (xr : Nat) (xh : Nat) (xp : Nat) (xs_ : Nat) (xa : Nat) (xm : Nat) (p1 : Int32) (p2 : Int32)  : Met l yX10_all wsX10_all ({ frames := 2, cells := 0, slots := 0, locals := 42 }) (zPc dC dI kA sz [.ref x0, .int p1, .int p2] [(x0, .inr (10, [.ref xw, .ref xl, .ref xi, .ref xt, .int 0, .ref xq, .int 0, .ref xr, .ref xh, .ref xp, .ref xs_, .ref xa, .ref xm]))]) (va_Qi (fun (r : Int32) (u : Unit) => r = (-1)) (zB dC dI (va_A [(x0, .inr (10, [.ref xw, .ref xl, .ref xi, .ref xt, .int 0, .ref xq, .int 0, .ref xr, .ref xh, .ref xp, .ref xs_, .ref xa, .ref xm]))] sz) (fun (u : Unit) => [])) (va_A [(x0, .inr (10, [.ref xw, .ref xl, .ref xi, .ref xt, .int 0, .ref xq, .int 0, .ref xr, .ref xh, .ref xp, .ref xs_, .ref xa, .ref xm]))] sz)) 0 0 (va_A [(x0, .inr (10, [.ref xw, .ref xl, .ref xi, .ref xt, .int 0, .ref xq, .int 0, .ref xr, .ref xh, .ref xp, .ref xs_, .ref xa, .ref xm]))] sz) := by
  refine Met.ofW (cc := cX10_all) (maxL := 6) (ret := (some .int)) (by decide) rfl ?_
  intro p e s m args below meth c s₁ B hml hv
  obtain ⟨rfl, hsz, hP, hK, hD0⟩ := hv
  have hx := B.exec
  have hb := B.bytes
  have hr := B.returns
  have hts := atoms_spec (ws := wsX10_all) B.pre
  have hown : s.vm.findClass RX10 = some m.cls := findClass_of_methodNamed B.named
  have hlocks := B.notSynchronized
  subst hsz
  have hD := hD0.self (sz := s.heap.size)
  generalize hAe : va_A [(x0, .inr (10, [.ref xw, .ref xl, .ref xi, .ref xt, .int 0, .ref xq, .int 0, .ref xr, .ref xh, .ref xp, .ref xs_, .ref xa, .ref xm]))] s.heap.size = A at hD ⊢
  have hA : ∀ q : Nat, s.heap.size ≤ q → A q := fun q h => by rw [← hAe]; exact Or.inr h
  have hS : va_S A s.heap s.heap [] := va_S.rf
  have hP : va_P (dC, dI) vwCl [(x0, .inr (10, [.ref xw, .ref xl, .ref xi, .ref xt, .int 0, .ref xq, .int 0, .ref xr, .ref xh, .ref xp, .ref xs_, .ref xa, .ref xm]))] s.heap := hP
  have hl := lv_entry ([.ref x0, .int p1, .int p2]) (n := 6) (Nat.le_of_ble_eq_true rfl)
  rw [lg_entry_eq]
  generalize (lg_sl ([.ref x0, .int p1, .int p2]) ++ List.replicate (6 - (lg_sl ([.ref x0, .int p1, .int p2])).length) Slot.unset).toArray = ls at hl ⊢
  have hl : lv_has ls 6 [(0, .ref x0), (1, .int p1), (2, .int p2)] := hl
  refine lv_aload_n hx hb dX10_all_0 rfl (lv_at hl 0 rfl) ?_
  refine lv_iload_n hx hb dX10_all_1 rfl (lv_at hl 1 rfl) ?_
  refine z_q (wr := []) (va_runV (As := [.int p1]) (rest := []) ⟨hx, hb, hml, hown, hts⟩ (mX10_lawOf l dC dI kA _ x0 xw xl xi xt xq xr xh xp xs_ xa xm p1) (cwV 1 hts gX10_all_X10_lawOf rfl rfl rfl (by decide +kernel) ⟨(Nat.le_of_ble_eq_true rfl), (Nat.le_of_ble_eq_true rfl)⟩) ⟨zPc.blind, va_recv hK.1 hP (ci := 10) (q0 := 0) rfl rfl, zPre hK (hP.sub [0] rfl) (hD.sub [0] (by decide) rfl)⟩ rfl rfl hl.1 rfl (lv_room (Nat.le_of_ble_eq_true rfl)) dX10_all_2 ⟨(Nat.le_of_ble_eq_true rfl), (Nat.le_of_ble_eq_true rfl)⟩) hP hD hS hA [0] [] rfl rfl (by decide) (by decide) (fun r3 u1 H locs hw2 hP hD hS => ?_)
  obtain rfl := hw2
  have hP : va_P (dC, dI) vwCl [(x0, .inr (10, [.ref xw, .ref xl, .ref xi, .ref xt, .int 0, .ref xq, .int 0, .ref xr, .ref xh, .ref xp, .ref xs_, .ref xa, .ref xm]))] H := hP
  have hD : va_D A [(x0, .inr (10, [.ref xw, .ref xl, .ref xi, .ref xt, .int 0, .ref xq, .int 0, .ref xr, .ref xh, .ref xp, .ref xs_, .ref xa, .ref xm]))] := hD
  refine zv .null rfl ?_
  refine lv_astore_nN (lv' := [(3, .null), (0, .ref x0), (1, .int p1), (2, .int p2)]) hx hb dX10_all_5 rfl hl (by decide) rfl (fun ls hl => ?_)
  refine lv_aload_nN hx hb dX10_all_6 rfl (lv_at hl 0 rfl) ?_
  refine lv_ifnullN (tgt := 19) hx hb dX10_all_7 (by decide) ?_
  refine lv_iconst (v := (-1)) hx hb dX10_all_19 (by decide) ?_
  have hP9 := hP.sub (ws' := []) [] rfl
  have hD9 := hD.sub (ws' := []) [] (by decide) rfl
  refine W.widen (k := 0) (n := 0) (Nat.le_of_ble_eq_true rfl) (Nat.le_of_ble_eq_true rfl) ?_
  exact W.iret (v := (-1)) hx hb hr (fun t ht hW => ⟨⟨(-1), (), rfl, rfl, by rw [ht]; exact hP9, hD9⟩, hS.F ht⟩) hS.2.2 dX10_all_20
set_option maxHeartbeats 4000000 in
set_option maxRecDepth 100000 in
theorem mX10_feast (l : Launch) (dC : Nat → ClassId) (dI : Nat → Nat → Nat) (kA : Nat → ClassId) (sz : Nat) (x0 : Nat) (xw : Nat) (xl : Nat) (xi : Nat) (xt : Nat) (xq : Nat) (xr : Nat) (xh : Nat) (xp : Nat) (xs_ : Nat) (xa : Nat) (xm : Nat) (tnodes : Nat) (tnodesA : Nat) (tpasses : Nat) (tjars : Nat) (torders : Nat) (tfeasts : Nat) (tway : Nat) (p1 : Int32) (p2 : Int32) (p3 : Int32)  : Met l yX10_feast wsX10_feast ({ frames := 1, cells := 0, slots := 0, locals := 21 }) (zPc dC dI kA sz [.ref x0, .int p1, .int p2, .int p3] [(x0, .inr (10, [.ref xw, .ref xl, .ref xi, .ref xt, .int 0, .ref xq, .int 0, .ref xr, .ref xh, .ref xp, .ref xs_, .ref xa, .ref xm])), (xw, .inr (9, [.ref tnodes, .ref tpasses, .ref tjars, .ref torders, .ref tfeasts, .ref tway, .int (-1), .int 0, .int 0, .int 0])), (tnodes, .inr (6, [.int 4, .ref tnodesA, .int 0]))]) (va_Qi (fun (r : Int32) (u : Unit) => r = (-1)) (zB dC dI (va_A [(x0, .inr (10, [.ref xw, .ref xl, .ref xi, .ref xt, .int 0, .ref xq, .int 0, .ref xr, .ref xh, .ref xp, .ref xs_, .ref xa, .ref xm])), (xw, .inr (9, [.ref tnodes, .ref tpasses, .ref tjars, .ref torders, .ref tfeasts, .ref tway, .int (-1), .int 0, .int 0, .int 0])), (tnodes, .inr (6, [.int 4, .ref tnodesA, .int 0]))] sz) (fun (u : Unit) => [])) (va_A [(x0, .inr (10, [.ref xw, .ref xl, .ref xi, .ref xt, .int 0, .ref xq, .int 0, .ref xr, .ref xh, .ref xp, .ref xs_, .ref xa, .ref xm])), (xw, .inr (9, [.ref tnodes, .ref tpasses, .ref tjars, .ref torders, .ref tfeasts, .ref tway, .int (-1), .int 0, .int 0, .int 0])), (tnodes, .inr (6, [.int 4, .ref tnodesA, .int 0]))] sz)) 0 0 (va_A [(x0, .inr (10, [.ref xw, .ref xl, .ref xi, .ref xt, .int 0, .ref xq, .int 0, .ref xr, .ref xh, .ref xp, .ref xs_, .ref xa, .ref xm])), (xw, .inr (9, [.ref tnodes, .ref tpasses, .ref tjars, .ref torders, .ref tfeasts, .ref tway, .int (-1), .int 0, .int 0, .int 0])), (tnodes, .inr (6, [.int 4, .ref tnodesA, .int 0]))] sz) := by
  refine Met.ofW (cc := cX10_feast) (maxL := 6) (ret := (some .int)) (by decide) rfl ?_
  intro p e s m args below meth c s₁ B hml hv
  obtain ⟨rfl, hsz, hP, hK, hD0⟩ := hv
  have hx := B.exec
  have hb := B.bytes
  have hr := B.returns
  have hts := atoms_spec (ws := wsX10_feast) B.pre
  have hown : s.vm.findClass RX10 = some m.cls := findClass_of_methodNamed B.named
  have hlocks := B.notSynchronized
  subst hsz
  have hD := hD0.self (sz := s.heap.size)
  generalize hAe : va_A [(x0, .inr (10, [.ref xw, .ref xl, .ref xi, .ref xt, .int 0, .ref xq, .int 0, .ref xr, .ref xh, .ref xp, .ref xs_, .ref xa, .ref xm])), (xw, .inr (9, [.ref tnodes, .ref tpasses, .ref tjars, .ref torders, .ref tfeasts, .ref tway, .int (-1), .int 0, .int 0, .int 0])), (tnodes, .inr (6, [.int 4, .ref tnodesA, .int 0]))] s.heap.size = A at hD ⊢
  have hA : ∀ q : Nat, s.heap.size ≤ q → A q := fun q h => by rw [← hAe]; exact Or.inr h
  have hS : va_S A s.heap s.heap [] := va_S.rf
  have hP : va_P (dC, dI) vwCl [(x0, .inr (10, [.ref xw, .ref xl, .ref xi, .ref xt, .int 0, .ref xq, .int 0, .ref xr, .ref xh, .ref xp, .ref xs_, .ref xa, .ref xm])), (xw, .inr (9, [.ref tnodes, .ref tpasses, .ref tjars, .ref torders, .ref tfeasts, .ref tway, .int (-1), .int 0, .int 0, .int 0])), (tnodes, .inr (6, [.int 4, .ref tnodesA, .int 0]))] s.heap := hP
  have hl := lv_entry ([.ref x0, .int p1, .int p2, .int p3]) (n := 6) (Nat.le_of_ble_eq_true rfl)
  rw [lg_entry_eq]
  generalize (lg_sl ([.ref x0, .int p1, .int p2, .int p3]) ++ List.replicate (6 - (lg_sl ([.ref x0, .int p1, .int p2, .int p3])).length) Slot.unset).toArray = ls at hl ⊢
  have hl : lv_has ls 6 [(0, .ref x0), (1, .int p1), (2, .int p2), (3, .int p3)] := hl
  refine lv_iload_n hx hb dX10_feast_0 rfl (lv_at hl 2 rfl) ?_
  refine lv_sipush (v := 4166) hx hb dX10_feast_1 (by decide) ?_
  refine z_i (wr := [(x0, .inr (10, [.ref xw, .ref xl, .ref xi, .ref xt, .int 0, .ref xq, .int 0, .ref xr, .ref xh, .ref xp, .ref xs_, .ref xa, .ref xm])), (xw, .inr (9, [.ref tnodes, .ref tpasses, .ref tjars, .ref torders, .ref tfeasts, .ref tway, .int (-1), .int 0, .int 0, .int 0])), (tnodes, .inr (6, [.int 4, .ref tnodesA, .int 0]))]) (va_runS (As := [.int p2, .int 4166]) (rest := []) ⟨hx, hb, hml, hown, hts⟩ (mX10_within l dC dI kA _ p2 4166) (va_cwS 2 hts gX10_feast_X10_within rfl rfl rfl (by decide +kernel) ⟨(Nat.le_of_ble_eq_true rfl), (Nat.le_of_ble_eq_true rfl)⟩) ⟨zPc.blind, zPre hK (hP.sub [] rfl) (hD.sub [] (by decide) rfl)⟩ rfl rfl hl.1 rfl (lv_room (Nat.le_of_ble_eq_true rfl)) dX10_feast_4 ⟨(Nat.le_of_ble_eq_true rfl), (Nat.le_of_ble_eq_true rfl)⟩) hP hD hS hA [] [0, 1, 2] rfl rfl (by decide) (by decide) (fun r3 u1 H locs hw2 hP hD hS => ?_)
  obtain rfl := hw2
  have hP : va_P (dC, dI) vwCl [(x0, .inr (10, [.ref xw, .ref xl, .ref xi, .ref xt, .int 0, .ref xq, .int 0, .ref xr, .ref xh, .ref xp, .ref xs_, .ref xa, .ref xm])), (xw, .inr (9, [.ref tnodes, .ref tpasses, .ref tjars, .ref torders, .ref tfeasts, .ref tway, .int (-1), .int 0, .int 0, .int 0])), (tnodes, .inr (6, [.int 4, .ref tnodesA, .int 0]))] H := hP
  have hD : va_D A [(x0, .inr (10, [.ref xw, .ref xl, .ref xi, .ref xt, .int 0, .ref xq, .int 0, .ref xr, .ref xh, .ref xp, .ref xs_, .ref xa, .ref xm])), (xw, .inr (9, [.ref tnodes, .ref tpasses, .ref tjars, .ref torders, .ref tfeasts, .ref tway, .int (-1), .int 0, .int 0, .int 0])), (tnodes, .inr (6, [.int 4, .ref tnodesA, .int 0]))] := hD
  refine lv_if_eq (tgt := 21) hx hb dX10_feast_7 (by decide) (fun c_4 => ?_) (fun c_4 => ?_)
  · refine lv_iconst (v := 0) hx hb dX10_feast_21 (by decide) ?_
    refine lv_istore (lv' := [(4, .int 0), (0, .ref x0), (1, .int p1), (2, .int p2), (3, .int p3)]) hx hb dX10_feast_22 hl (by decide) rfl (fun ls hl => ?_)
    refine lv_iload hx hb dX10_feast_24 (lv_at hl 0 rfl) ?_
    refine lv_if_eq (tgt := 56) hx hb dX10_feast_26 (by decide) (fun _ => ?_) (fun c_5 => absurd (by decide) c_5)
    refine lv_iconst (v := (-1)) hx hb dX10_feast_56 (by decide) ?_
    refine lv_istore (lv' := [(5, .int (-1)), (4, .int 0), (0, .ref x0), (1, .int p1), (2, .int p2), (3, .int p3)]) hx hb dX10_feast_57 hl (by decide) rfl (fun ls hl => ?_)
    refine lv_iload hx hb dX10_feast_59 (lv_at hl 0 rfl) ?_
    refine lv_iconst (v := (-1)) hx hb dX10_feast_61 (by decide) ?_
    refine lv_icmp_ne (tgt := 67) hx hb dX10_feast_62 (by decide) (fun c_6 => absurd (by decide) c_6) (fun _ => ?_)
    refine lv_iconst (v := (-1)) hx hb dX10_feast_65 (by decide) ?_
    have hP9 := hP.sub (ws' := []) [] rfl
    have hD9 := hD.sub (ws' := []) [] (by decide) rfl
    refine W.widen (k := 0) (n := 0) (Nat.le_of_ble_eq_true rfl) (Nat.le_of_ble_eq_true rfl) ?_
    exact W.iret (v := (-1)) hx hb hr (fun t ht hW => ⟨⟨(-1), (), rfl, rfl, by rw [ht]; exact hP9, hD9⟩, hS.F ht⟩) hS.2.2 dX10_feast_66
  · refine lv_iload_n hx hb dX10_feast_10 rfl (lv_at hl 3 rfl) ?_
    refine z_i (wr := [(x0, .inr (10, [.ref xw, .ref xl, .ref xi, .ref xt, .int 0, .ref xq, .int 0, .ref xr, .ref xh, .ref xp, .ref xs_, .ref xa, .ref xm])), (xw, .inr (9, [.ref tnodes, .ref tpasses, .ref tjars, .ref torders, .ref tfeasts, .ref tway, .int (-1), .int 0, .int 0, .int 0])), (tnodes, .inr (6, [.int 4, .ref tnodesA, .int 0]))]) (va_runS (As := [.int p3]) (rest := []) ⟨hx, hb, hml, hown, hts⟩ (mX10_isWish l dC dI kA _ p3) (va_cwS 1 hts gX10_feast_X10_isWish rfl rfl rfl (by decide +kernel) ⟨(Nat.le_of_ble_eq_true rfl), (Nat.le_of_ble_eq_true rfl)⟩) ⟨zPc.blind, zPre hK (hP.sub [] rfl) (hD.sub [] (by decide) rfl)⟩ rfl rfl hl.1 rfl (lv_room (Nat.le_of_ble_eq_true rfl)) dX10_feast_11 ⟨(Nat.le_of_ble_eq_true rfl), (Nat.le_of_ble_eq_true rfl)⟩) hP hD hS hA [] [0, 1, 2] rfl rfl (by decide) (by decide) (fun r9 u7 H locs hw8 hP hD hS => ?_)
    obtain ⟨q_10, rfl⟩ : ∃ z, z = u7 := ⟨_, rfl⟩
    obtain rfl := hw8
    have hP : va_P (dC, dI) vwCl [(x0, .inr (10, [.ref xw, .ref xl, .ref xi, .ref xt, .int 0, .ref xq, .int 0, .ref xr, .ref xh, .ref xp, .ref xs_, .ref xa, .ref xm])), (xw, .inr (9, [.ref tnodes, .ref tpasses, .ref tjars, .ref torders, .ref tfeasts, .ref tway, .int (-1), .int 0, .int 0, .int 0])), (tnodes, .inr (6, [.int 4, .ref tnodesA, .int 0]))] H := hP
    have hD : va_D A [(x0, .inr (10, [.ref xw, .ref xl, .ref xi, .ref xt, .int 0, .ref xq, .int 0, .ref xr, .ref xh, .ref xp, .ref xs_, .ref xa, .ref xm])), (xw, .inr (9, [.ref tnodes, .ref tpasses, .ref tjars, .ref torders, .ref tfeasts, .ref tway, .int (-1), .int 0, .int 0, .int 0])), (tnodes, .inr (6, [.int 4, .ref tnodesA, .int 0]))] := hD
    refine lv_if_eq (tgt := 21) hx hb dX10_feast_14 (by decide) (fun c_11 => ?_) (fun c_11 => ?_)
    · refine lv_iconst (v := 0) hx hb dX10_feast_21 (by decide) ?_
      refine lv_istore (lv' := [(4, .int 0), (0, .ref x0), (1, .int p1), (2, .int p2), (3, .int p3)]) hx hb dX10_feast_22 hl (by decide) rfl (fun ls hl => ?_)
      refine lv_iload hx hb dX10_feast_24 (lv_at hl 0 rfl) ?_
      refine lv_if_eq (tgt := 56) hx hb dX10_feast_26 (by decide) (fun _ => ?_) (fun c_12 => absurd (by decide) c_12)
      refine lv_iconst (v := (-1)) hx hb dX10_feast_56 (by decide) ?_
      refine lv_istore (lv' := [(5, .int (-1)), (4, .int 0), (0, .ref x0), (1, .int p1), (2, .int p2), (3, .int p3)]) hx hb dX10_feast_57 hl (by decide) rfl (fun ls hl => ?_)
      refine lv_iload hx hb dX10_feast_59 (lv_at hl 0 rfl) ?_
      refine lv_iconst (v := (-1)) hx hb dX10_feast_61 (by decide) ?_
      refine lv_icmp_ne (tgt := 67) hx hb dX10_feast_62 (by decide) (fun c_13 => absurd (by decide) c_13) (fun _ => ?_)
      refine lv_iconst (v := (-1)) hx hb dX10_feast_65 (by decide) ?_
      have hP9 := hP.sub (ws' := []) [] rfl
      have hD9 := hD.sub (ws' := []) [] (by decide) rfl
      refine W.widen (k := 0) (n := 0) (Nat.le_of_ble_eq_true rfl) (Nat.le_of_ble_eq_true rfl) ?_
      exact W.iret (v := (-1)) hx hb hr (fun t ht hW => ⟨⟨(-1), (), rfl, rfl, by rw [ht]; exact hP9, hD9⟩, hS.F ht⟩) hS.2.2 dX10_feast_66
    · refine lv_iconst (v := 1) hx hb dX10_feast_17 (by decide) ?_
      refine lv_goto (tgt := 22) hx hb dX10_feast_18 (by decide) ?_
      refine lv_istore (lv' := [(4, .int 1), (0, .ref x0), (1, .int p1), (2, .int p2), (3, .int p3)]) hx hb dX10_feast_22 hl (by decide) rfl (fun ls hl => ?_)
      refine lv_iload hx hb dX10_feast_24 (lv_at hl 0 rfl) ?_
      refine lv_if_eq (tgt := 56) hx hb dX10_feast_26 (by decide) (fun c_14 => absurd c_14 (by decide)) (fun _ => ?_)
      refine lv_aload_n hx hb dX10_feast_29 rfl (lv_at hl 1 rfl) ?_
      refine va_get (D := (dC, dI)) (ci := 10) (v := .ref xw) (C := RX10) (T := TX10) (N := 13) hx hb hts iX10_feast_X10 hown hK.1 hP 0 rfl rfl 0 (by decide) (kX10_feast_1 hts) (fun _ h9 => h9) rfl dX10_feast_30 ?_
      refine va_get (D := (dC, dI)) (ci := 9) (v := .ref tnodes) (C := RX9) (T := TX9) (N := 10) hx hb hts iX10_feast_X9 hown hK.1 hP 1 rfl rfl 0 (by decide) (kX10_feast_2 hts) (fun _ h9 => h9) rfl dX10_feast_33 ?_
      refine lv_iload_n hx hb dX10_feast_36 rfl (lv_at hl 2 rfl) ?_
      refine z_i (wr := [(x0, .inr (10, [.ref xw, .ref xl, .ref xi, .ref xt, .int 0, .ref xq, .int 0, .ref xr, .ref xh, .ref xp, .ref xs_, .ref xa, .ref xm])), (xw, .inr (9, [.ref tnodes, .ref tpasses, .ref tjars, .ref torders, .ref tfeasts, .ref tway, .int (-1), .int 0, .int 0, .int 0]))]) (va_runV (As := [.int p1]) (rest := []) ⟨hx, hb, hml, hown, hts⟩ (mX6_has l dC dI kA _ tnodes tnodesA 4 p1) (cwV 1 hts gX10_feast_X6_has rfl rfl rfl (by decide +kernel) ⟨(Nat.le_of_ble_eq_true rfl), (Nat.le_of_ble_eq_true rfl)⟩) ⟨zPc.blind, va_recv hK.1 hP (ci := 6) (q0 := 2) rfl rfl, zPre hK (hP.sub [2] rfl) (hD.sub [2] (by decide) rfl)⟩ rfl rfl hl.1 rfl (lv_room (Nat.le_of_ble_eq_true rfl)) dX10_feast_37 ⟨(Nat.le_of_ble_eq_true rfl), (Nat.le_of_ble_eq_true rfl)⟩) hP hD hS hA [2] [0, 1] rfl rfl (by decide) (by decide) (fun r17 u15 H locs hw16 hP hD hS => ?_)
      obtain rfl := hw16
      have hP : va_P (dC, dI) vwCl [(x0, .inr (10, [.ref xw, .ref xl, .ref xi, .ref xt, .int 0, .ref xq, .int 0, .ref xr, .ref xh, .ref xp, .ref xs_, .ref xa, .ref xm])), (xw, .inr (9, [.ref tnodes, .ref tpasses, .ref tjars, .ref torders, .ref tfeasts, .ref tway, .int (-1), .int 0, .int 0, .int 0])), (tnodes, .inr (6, [.int 4, .ref tnodesA, .int 0]))] H := hP
      have hD : va_D A [(x0, .inr (10, [.ref xw, .ref xl, .ref xi, .ref xt, .int 0, .ref xq, .int 0, .ref xr, .ref xh, .ref xp, .ref xs_, .ref xa, .ref xm])), (xw, .inr (9, [.ref tnodes, .ref tpasses, .ref tjars, .ref torders, .ref tfeasts, .ref tway, .int (-1), .int 0, .int 0, .int 0])), (tnodes, .inr (6, [.int 4, .ref tnodesA, .int 0]))] := hD
      refine lv_if_eq (tgt := 56) hx hb dX10_feast_40 (by decide) (fun _ => ?_) (fun c_18 => absurd (by decide) c_18)
      refine lv_iconst (v := (-1)) hx hb dX10_feast_56 (by decide) ?_
      refine lv_istore (lv' := [(5, .int (-1)), (4, .int 1), (0, .ref x0), (1, .int p1), (2, .int p2), (3, .int p3)]) hx hb dX10_feast_57 hl (by decide) rfl (fun ls hl => ?_)
      refine lv_iload hx hb dX10_feast_59 (lv_at hl 0 rfl) ?_
      refine lv_iconst (v := (-1)) hx hb dX10_feast_61 (by decide) ?_
      refine lv_icmp_ne (tgt := 67) hx hb dX10_feast_62 (by decide) (fun c_19 => absurd (by decide) c_19) (fun _ => ?_)
      refine lv_iconst (v := (-1)) hx hb dX10_feast_65 (by decide) ?_
      have hP9 := hP.sub (ws' := []) [] rfl
      have hD9 := hD.sub (ws' := []) [] (by decide) rfl
      refine W.widen (k := 0) (n := 0) (Nat.le_of_ble_eq_true rfl) (Nat.le_of_ble_eq_true rfl) ?_
      exact W.iret (v := (-1)) hx hb hr (fun t ht hW => ⟨⟨(-1), (), rfl, rfl, by rw [ht]; exact hP9, hD9⟩, hS.F ht⟩) hS.2.2 dX10_feast_66
set_option maxHeartbeats 4000000 in
set_option maxRecDepth 100000 in
theorem mX10_enough (l : Launch) (dC : Nat → ClassId) (dI : Nat → Nat → Nat) (kA : Nat → ClassId) (sz : Nat) (x0 : Nat) (xw : Nat) (xl : Nat) (xi : Nat) (xt : Nat) (xq : Nat) (xr : Nat) (xh : Nat) (xp : Nat) (xs_ : Nat) (xa : Nat) (xm : Nat) (p1 : Int32) (p2 : Int32) (p3 : Int32)  : Met l yX10_enough wsX10_enough ({ frames := 2, cells := 0, slots := 0, locals := 42 }) (zPc dC dI kA sz [.ref x0, .int p1, .int p2, .int p3] [(x0, .inr (10, [.ref xw, .ref xl, .ref xi, .ref xt, .int 0, .ref xq, .int 0, .ref xr, .ref xh, .ref xp, .ref xs_, .ref xa, .ref xm]))]) (va_Qi (fun (r : Int32) (u : Unit) => r = (-1)) (zB dC dI (va_A [(x0, .inr (10, [.ref xw, .ref xl, .ref xi, .ref xt, .int 0, .ref xq, .int 0, .ref xr, .ref xh, .ref xp, .ref xs_, .ref xa, .ref xm]))] sz) (fun (u : Unit) => [])) (va_A [(x0, .inr (10, [.ref xw, .ref xl, .ref xi, .ref xt, .int 0, .ref xq, .int 0, .ref xr, .ref xh, .ref xp, .ref xs_, .ref xa, .ref xm]))] sz)) 0 0 (va_A [(x0, .inr (10, [.ref xw, .ref xl, .ref xi, .ref xt, .int 0, .ref xq, .int 0, .ref xr, .ref xh, .ref xp, .ref xs_, .ref xa, .ref xm]))] sz) := by
  refine Met.ofW (cc := cX10_enough) (maxL := 5) (ret := (some .int)) (by decide) rfl ?_
  intro p e s m args below meth c s₁ B hml hv
  obtain ⟨rfl, hsz, hP, hK, hD0⟩ := hv
  have hx := B.exec
  have hb := B.bytes
  have hr := B.returns
  have hts := atoms_spec (ws := wsX10_enough) B.pre
  have hown : s.vm.findClass RX10 = some m.cls := findClass_of_methodNamed B.named
  have hlocks := B.notSynchronized
  subst hsz
  have hD := hD0.self (sz := s.heap.size)
  generalize hAe : va_A [(x0, .inr (10, [.ref xw, .ref xl, .ref xi, .ref xt, .int 0, .ref xq, .int 0, .ref xr, .ref xh, .ref xp, .ref xs_, .ref xa, .ref xm]))] s.heap.size = A at hD ⊢
  have hA : ∀ q : Nat, s.heap.size ≤ q → A q := fun q h => by rw [← hAe]; exact Or.inr h
  have hS : va_S A s.heap s.heap [] := va_S.rf
  have hP : va_P (dC, dI) vwCl [(x0, .inr (10, [.ref xw, .ref xl, .ref xi, .ref xt, .int 0, .ref xq, .int 0, .ref xr, .ref xh, .ref xp, .ref xs_, .ref xa, .ref xm]))] s.heap := hP
  have hl := lv_entry ([.ref x0, .int p1, .int p2, .int p3]) (n := 5) (Nat.le_of_ble_eq_true rfl)
  rw [lg_entry_eq]
  generalize (lg_sl ([.ref x0, .int p1, .int p2, .int p3]) ++ List.replicate (5 - (lg_sl ([.ref x0, .int p1, .int p2, .int p3])).length) Slot.unset).toArray = ls at hl ⊢
  have hl : lv_has ls 5 [(0, .ref x0), (1, .int p1), (2, .int p2), (3, .int p3)] := hl
  refine lv_aload_n hx hb dX10_enough_0 rfl (lv_at hl 0 rfl) ?_
  refine lv_iload_n hx hb dX10_enough_1 rfl (lv_at hl 1 rfl) ?_
  refine z_q (wr := []) (va_runV (As := [.int p1]) (rest := []) ⟨hx, hb, hml, hown, hts⟩ (mX10_lawOf l dC dI kA _ x0 xw xl xi xt xq xr xh xp xs_ xa xm p1) (cwV 1 hts gX10_enough_X10_lawOf rfl rfl rfl (by decide +kernel) ⟨(Nat.le_of_ble_eq_true rfl), (Nat.le_of_ble_eq_true rfl)⟩) ⟨zPc.blind, va_recv hK.1 hP (ci := 10) (q0 := 0) rfl rfl, zPre hK (hP.sub [0] rfl) (hD.sub [0] (by decide) rfl)⟩ rfl rfl hl.1 rfl (lv_room (Nat.le_of_ble_eq_true rfl)) dX10_enough_2 ⟨(Nat.le_of_ble_eq_true rfl), (Nat.le_of_ble_eq_true rfl)⟩) hP hD hS hA [0] [] rfl rfl (by decide) (by decide) (fun r3 u1 H locs hw2 hP hD hS => ?_)
  obtain rfl := hw2
  have hP : va_P (dC, dI) vwCl [(x0, .inr (10, [.ref xw, .ref xl, .ref xi, .ref xt, .int 0, .ref xq, .int 0, .ref xr, .ref xh, .ref xp, .ref xs_, .ref xa, .ref xm]))] H := hP
  have hD : va_D A [(x0, .inr (10, [.ref xw, .ref xl, .ref xi, .ref xt, .int 0, .ref xq, .int 0, .ref xr, .ref xh, .ref xp, .ref xs_, .ref xa, .ref xm]))] := hD
  refine zv .null rfl ?_
  refine lv_astoreN (lv' := [(4, .null), (0, .ref x0), (1, .int p1), (2, .int p2), (3, .int p3)]) hx hb dX10_enough_5 hl (by decide) rfl (fun ls hl => ?_)
  refine lv_aloadN hx hb dX10_enough_7 (lv_at hl 0 rfl) ?_
  refine lv_ifnullN (tgt := 35) hx hb dX10_enough_9 (by decide) ?_
  refine lv_iconst (v := (-1)) hx hb dX10_enough_35 (by decide) ?_
  have hP9 := hP.sub (ws' := []) [] rfl
  have hD9 := hD.sub (ws' := []) [] (by decide) rfl
  refine W.widen (k := 0) (n := 0) (Nat.le_of_ble_eq_true rfl) (Nat.le_of_ble_eq_true rfl) ?_
  exact W.iret (v := (-1)) hx hb hr (fun t ht hW => ⟨⟨(-1), (), rfl, rfl, by rw [ht]; exact hP9, hD9⟩, hS.F ht⟩) hS.2.2 dX10_enough_36
set_option maxHeartbeats 4000000 in
set_option maxRecDepth 100000 in
theorem mX10_least (l : Launch) (dC : Nat → ClassId) (dI : Nat → Nat → Nat) (kA : Nat → ClassId) (sz : Nat) (x0 : Nat) (xw : Nat) (xl : Nat) (xi : Nat) (xt : Nat) (xq : Nat) (xr : Nat) (xh : Nat) (xp : Nat) (xs_ : Nat) (xa : Nat) (xm : Nat) (p1 : Int32) (p2 : Int32)  : Met l yX10_least wsX10_least ({ frames := 2, cells := 0, slots := 0, locals := 42 }) (zPc dC dI kA sz [.ref x0, .int p1, .int p2] [(x0, .inr (10, [.ref xw, .ref xl, .ref xi, .ref xt, .int 0, .ref xq, .int 0, .ref xr, .ref xh, .ref xp, .ref xs_, .ref xa, .ref xm]))]) (va_Qi (fun (r : Int32) (u : Unit) => r = (-1)) (zB dC dI (va_A [(x0, .inr (10, [.ref xw, .ref xl, .ref xi, .ref xt, .int 0, .ref xq, .int 0, .ref xr, .ref xh, .ref xp, .ref xs_, .ref xa, .ref xm]))] sz) (fun (u : Unit) => [])) (va_A [(x0, .inr (10, [.ref xw, .ref xl, .ref xi, .ref xt, .int 0, .ref xq, .int 0, .ref xr, .ref xh, .ref xp, .ref xs_, .ref xa, .ref xm]))] sz)) 0 0 (va_A [(x0, .inr (10, [.ref xw, .ref xl, .ref xi, .ref xt, .int 0, .ref xq, .int 0, .ref xr, .ref xh, .ref xp, .ref xs_, .ref xa, .ref xm]))] sz) := by
  refine Met.ofW (cc := cX10_least) (maxL := 5) (ret := (some .int)) (by decide) rfl ?_
  intro p e s m args below meth c s₁ B hml hv
  obtain ⟨rfl, hsz, hP, hK, hD0⟩ := hv
  have hx := B.exec
  have hb := B.bytes
  have hr := B.returns
  have hts := atoms_spec (ws := wsX10_least) B.pre
  have hown : s.vm.findClass RX10 = some m.cls := findClass_of_methodNamed B.named
  have hlocks := B.notSynchronized
  subst hsz
  have hD := hD0.self (sz := s.heap.size)
  generalize hAe : va_A [(x0, .inr (10, [.ref xw, .ref xl, .ref xi, .ref xt, .int 0, .ref xq, .int 0, .ref xr, .ref xh, .ref xp, .ref xs_, .ref xa, .ref xm]))] s.heap.size = A at hD ⊢
  have hA : ∀ q : Nat, s.heap.size ≤ q → A q := fun q h => by rw [← hAe]; exact Or.inr h
  have hS : va_S A s.heap s.heap [] := va_S.rf
  have hP : va_P (dC, dI) vwCl [(x0, .inr (10, [.ref xw, .ref xl, .ref xi, .ref xt, .int 0, .ref xq, .int 0, .ref xr, .ref xh, .ref xp, .ref xs_, .ref xa, .ref xm]))] s.heap := hP
  have hl := lv_entry ([.ref x0, .int p1, .int p2]) (n := 5) (Nat.le_of_ble_eq_true rfl)
  rw [lg_entry_eq]
  generalize (lg_sl ([.ref x0, .int p1, .int p2]) ++ List.replicate (5 - (lg_sl ([.ref x0, .int p1, .int p2])).length) Slot.unset).toArray = ls at hl ⊢
  have hl : lv_has ls 5 [(0, .ref x0), (1, .int p1), (2, .int p2)] := hl
  refine lv_aload_n hx hb dX10_least_0 rfl (lv_at hl 0 rfl) ?_
  refine lv_iload_n hx hb dX10_least_1 rfl (lv_at hl 1 rfl) ?_
  refine z_q (wr := []) (va_runV (As := [.int p1]) (rest := []) ⟨hx, hb, hml, hown, hts⟩ (mX10_lawOf l dC dI kA _ x0 xw xl xi xt xq xr xh xp xs_ xa xm p1) (cwV 1 hts gX10_least_X10_lawOf rfl rfl rfl (by decide +kernel) ⟨(Nat.le_of_ble_eq_true rfl), (Nat.le_of_ble_eq_true rfl)⟩) ⟨zPc.blind, va_recv hK.1 hP (ci := 10) (q0 := 0) rfl rfl, zPre hK (hP.sub [0] rfl) (hD.sub [0] (by decide) rfl)⟩ rfl rfl hl.1 rfl (lv_room (Nat.le_of_ble_eq_true rfl)) dX10_least_2 ⟨(Nat.le_of_ble_eq_true rfl), (Nat.le_of_ble_eq_true rfl)⟩) hP hD hS hA [0] [] rfl rfl (by decide) (by decide) (fun r3 u1 H locs hw2 hP hD hS => ?_)
  obtain rfl := hw2
  have hP : va_P (dC, dI) vwCl [(x0, .inr (10, [.ref xw, .ref xl, .ref xi, .ref xt, .int 0, .ref xq, .int 0, .ref xr, .ref xh, .ref xp, .ref xs_, .ref xa, .ref xm]))] H := hP
  have hD : va_D A [(x0, .inr (10, [.ref xw, .ref xl, .ref xi, .ref xt, .int 0, .ref xq, .int 0, .ref xr, .ref xh, .ref xp, .ref xs_, .ref xa, .ref xm]))] := hD
  refine zv .null rfl ?_
  refine lv_astore_nN (lv' := [(3, .null), (0, .ref x0), (1, .int p1), (2, .int p2)]) hx hb dX10_least_5 rfl hl (by decide) rfl (fun ls hl => ?_)
  refine lv_aload_nN hx hb dX10_least_6 rfl (lv_at hl 0 rfl) ?_
  refine lv_ifnullN (tgt := 24) hx hb dX10_least_7 (by decide) ?_
  refine lv_iconst (v := (-1)) hx hb dX10_least_24 (by decide) ?_
  have hP9 := hP.sub (ws' := []) [] rfl
  have hD9 := hD.sub (ws' := []) [] (by decide) rfl
  refine W.widen (k := 0) (n := 0) (Nat.le_of_ble_eq_true rfl) (Nat.le_of_ble_eq_true rfl) ?_
  exact W.iret (v := (-1)) hx hb hr (fun t ht hW => ⟨⟨(-1), (), rfl, rfl, by rw [ht]; exact hP9, hD9⟩, hS.F ht⟩) hS.2.2 dX10_least_25
set_option maxHeartbeats 4000000 in
set_option maxRecDepth 100000 in
theorem mX10_nights (l : Launch) (dC : Nat → ClassId) (dI : Nat → Nat → Nat) (kA : Nat → ClassId) (sz : Nat) (x0 : Nat) (xw : Nat) (xl : Nat) (xi : Nat) (xt : Nat) (xq : Nat) (xr : Nat) (xh : Nat) (xp : Nat) (xs_ : Nat) (xa : Nat) (xm : Nat) (p1 : Int32) (p2 : Int32) (p3 : Int32) (p4 : Int32) (p5 : Int32)  : Met l yX10_nights wsX10_nights ({ frames := 2, cells := 0, slots := 0, locals := 42 }) (zPc dC dI kA sz [.ref x0, .int p1, .int p2, .int p3, .int p4, .int p5] [(x0, .inr (10, [.ref xw, .ref xl, .ref xi, .ref xt, .int 0, .ref xq, .int 0, .ref xr, .ref xh, .ref xp, .ref xs_, .ref xa, .ref xm]))]) (va_Qi (fun (r : Int32) (u : Unit) => r = (-1)) (zB dC dI (va_A [(x0, .inr (10, [.ref xw, .ref xl, .ref xi, .ref xt, .int 0, .ref xq, .int 0, .ref xr, .ref xh, .ref xp, .ref xs_, .ref xa, .ref xm]))] sz) (fun (u : Unit) => [])) (va_A [(x0, .inr (10, [.ref xw, .ref xl, .ref xi, .ref xt, .int 0, .ref xq, .int 0, .ref xr, .ref xh, .ref xp, .ref xs_, .ref xa, .ref xm]))] sz)) 0 0 (va_A [(x0, .inr (10, [.ref xw, .ref xl, .ref xi, .ref xt, .int 0, .ref xq, .int 0, .ref xr, .ref xh, .ref xp, .ref xs_, .ref xa, .ref xm]))] sz) := by
  refine Met.ofW (cc := cX10_nights) (maxL := 14) (ret := (some .int)) (by decide) rfl ?_
  intro p e s m args below meth c s₁ B hml hv
  obtain ⟨rfl, hsz, hP, hK, hD0⟩ := hv
  have hx := B.exec
  have hb := B.bytes
  have hr := B.returns
  have hts := atoms_spec (ws := wsX10_nights) B.pre
  have hown : s.vm.findClass RX10 = some m.cls := findClass_of_methodNamed B.named
  have hlocks := B.notSynchronized
  subst hsz
  have hD := hD0.self (sz := s.heap.size)
  generalize hAe : va_A [(x0, .inr (10, [.ref xw, .ref xl, .ref xi, .ref xt, .int 0, .ref xq, .int 0, .ref xr, .ref xh, .ref xp, .ref xs_, .ref xa, .ref xm]))] s.heap.size = A at hD ⊢
  have hA : ∀ q : Nat, s.heap.size ≤ q → A q := fun q h => by rw [← hAe]; exact Or.inr h
  have hS : va_S A s.heap s.heap [] := va_S.rf
  have hP : va_P (dC, dI) vwCl [(x0, .inr (10, [.ref xw, .ref xl, .ref xi, .ref xt, .int 0, .ref xq, .int 0, .ref xr, .ref xh, .ref xp, .ref xs_, .ref xa, .ref xm]))] s.heap := hP
  have hl := lv_entry ([.ref x0, .int p1, .int p2, .int p3, .int p4, .int p5]) (n := 14) (Nat.le_of_ble_eq_true rfl)
  rw [lg_entry_eq]
  generalize (lg_sl ([.ref x0, .int p1, .int p2, .int p3, .int p4, .int p5]) ++ List.replicate (14 - (lg_sl ([.ref x0, .int p1, .int p2, .int p3, .int p4, .int p5])).length) Slot.unset).toArray = ls at hl ⊢
  have hl : lv_has ls 14 [(0, .ref x0), (1, .int p1), (2, .int p2), (3, .int p3), (4, .int p4), (5, .int p5)] := hl
  refine lv_aload_n hx hb dX10_nights_0 rfl (lv_at hl 0 rfl) ?_
  refine lv_iload_n hx hb dX10_nights_1 rfl (lv_at hl 1 rfl) ?_
  refine z_q (wr := []) (va_runV (As := [.int p1]) (rest := []) ⟨hx, hb, hml, hown, hts⟩ (mX10_lawOf l dC dI kA _ x0 xw xl xi xt xq xr xh xp xs_ xa xm p1) (cwV 1 hts gX10_nights_X10_lawOf rfl rfl rfl (by decide +kernel) ⟨(Nat.le_of_ble_eq_true rfl), (Nat.le_of_ble_eq_true rfl)⟩) ⟨zPc.blind, va_recv hK.1 hP (ci := 10) (q0 := 0) rfl rfl, zPre hK (hP.sub [0] rfl) (hD.sub [0] (by decide) rfl)⟩ rfl rfl hl.1 rfl (lv_room (Nat.le_of_ble_eq_true rfl)) dX10_nights_2 ⟨(Nat.le_of_ble_eq_true rfl), (Nat.le_of_ble_eq_true rfl)⟩) hP hD hS hA [0] [] rfl rfl (by decide) (by decide) (fun r3 u1 H locs hw2 hP hD hS => ?_)
  obtain rfl := hw2
  have hP : va_P (dC, dI) vwCl [(x0, .inr (10, [.ref xw, .ref xl, .ref xi, .ref xt, .int 0, .ref xq, .int 0, .ref xr, .ref xh, .ref xp, .ref xs_, .ref xa, .ref xm]))] H := hP
  have hD : va_D A [(x0, .inr (10, [.ref xw, .ref xl, .ref xi, .ref xt, .int 0, .ref xq, .int 0, .ref xr, .ref xh, .ref xp, .ref xs_, .ref xa, .ref xm]))] := hD
  refine zv .null rfl ?_
  refine lv_astoreN (lv' := [(6, .null), (0, .ref x0), (1, .int p1), (2, .int p2), (3, .int p3), (4, .int p4), (5, .int p5)]) hx hb dX10_nights_5 hl (by decide) rfl (fun ls hl => ?_)
  refine lv_iload_n hx hb dX10_nights_7 rfl (lv_at hl 4 rfl) ?_
  refine lv_ldc hx hb hown (kX10_nights_1 hts) dX10_nights_8 ?_
  refine z_i (wr := [(x0, .inr (10, [.ref xw, .ref xl, .ref xi, .ref xt, .int 0, .ref xq, .int 0, .ref xr, .ref xh, .ref xp, .ref xs_, .ref xa, .ref xm]))]) (va_runS (As := [.int p3, .int 99999]) (rest := []) ⟨hx, hb, hml, hown, hts⟩ (mX10_within l dC dI kA _ p3 99999) (va_cwS 2 hts gX10_nights_X10_within rfl rfl rfl (by decide +kernel) ⟨(Nat.le_of_ble_eq_true rfl), (Nat.le_of_ble_eq_true rfl)⟩) ⟨zPc.blind, zPre hK (hP.sub [] rfl) (hD.sub [] (by decide) rfl)⟩ rfl rfl hl.1 rfl (lv_room (Nat.le_of_ble_eq_true rfl)) dX10_nights_10 ⟨(Nat.le_of_ble_eq_true rfl), (Nat.le_of_ble_eq_true rfl)⟩) hP hD hS hA [] [0] rfl rfl (by decide) (by decide) (fun r6 u4 H locs hw5 hP hD hS => ?_)
  obtain rfl := hw5
  have hP : va_P (dC, dI) vwCl [(x0, .inr (10, [.ref xw, .ref xl, .ref xi, .ref xt, .int 0, .ref xq, .int 0, .ref xr, .ref xh, .ref xp, .ref xs_, .ref xa, .ref xm]))] H := hP
  have hD : va_D A [(x0, .inr (10, [.ref xw, .ref xl, .ref xi, .ref xt, .int 0, .ref xq, .int 0, .ref xr, .ref xh, .ref xp, .ref xs_, .ref xa, .ref xm]))] := hD
  refine lv_if_eq (tgt := 42) hx hb dX10_nights_13 (by decide) (fun c_7 => ?_) (fun c_7 => ?_)
  · refine lv_iconst (v := 0) hx hb dX10_nights_42 (by decide) ?_
    refine lv_istore (lv' := [(7, .int 0), (6, .null), (0, .ref x0), (1, .int p1), (2, .int p2), (3, .int p3), (4, .int p4), (5, .int p5)]) hx hb dX10_nights_43 hl (by decide) rfl (fun ls hl => ?_)
    refine lv_aloadN hx hb dX10_nights_45 (lv_at hl 1 rfl) ?_
    refine lv_ifnullN (tgt := 80) hx hb dX10_nights_47 (by decide) ?_
    refine lv_iconst (v := (-1)) hx hb dX10_nights_80 (by decide) ?_
    have hP9 := hP.sub (ws' := []) [] rfl
    have hD9 := hD.sub (ws' := []) [] (by decide) rfl
    refine W.widen (k := 0) (n := 0) (Nat.le_of_ble_eq_true rfl) (Nat.le_of_ble_eq_true rfl) ?_
    exact W.iret (v := (-1)) hx hb hr (fun t ht hW => ⟨⟨(-1), (), rfl, rfl, by rw [ht]; exact hP9, hD9⟩, hS.F ht⟩) hS.2.2 dX10_nights_81
  · refine lv_iload hx hb dX10_nights_16 (lv_at hl 5 rfl) ?_
    refine lv_iconst (v := 1) hx hb dX10_nights_18 (by decide) ?_
    refine lv_icmp_lt (tgt := 42) hx hb dX10_nights_19 (by decide) (fun c_8 => ?_) (fun c_8 => ?_)
    · refine lv_iconst (v := 0) hx hb dX10_nights_42 (by decide) ?_
      refine lv_istore (lv' := [(7, .int 0), (6, .null), (0, .ref x0), (1, .int p1), (2, .int p2), (3, .int p3), (4, .int p4), (5, .int p5)]) hx hb dX10_nights_43 hl (by decide) rfl (fun ls hl => ?_)
      refine lv_aloadN hx hb dX10_nights_45 (lv_at hl 1 rfl) ?_
      refine lv_ifnullN (tgt := 80) hx hb dX10_nights_47 (by decide) ?_
      refine lv_iconst (v := (-1)) hx hb dX10_nights_80 (by decide) ?_
      have hP9 := hP.sub (ws' := []) [] rfl
      have hD9 := hD.sub (ws' := []) [] (by decide) rfl
      refine W.widen (k := 0) (n := 0) (Nat.le_of_ble_eq_true rfl) (Nat.le_of_ble_eq_true rfl) ?_
      exact W.iret (v := (-1)) hx hb hr (fun t ht hW => ⟨⟨(-1), (), rfl, rfl, by rw [ht]; exact hP9, hD9⟩, hS.F ht⟩) hS.2.2 dX10_nights_81
    · refine lv_iload hx hb dX10_nights_22 (lv_at hl 5 rfl) ?_
      refine lv_bipush (v := 20) hx hb dX10_nights_24 (by decide) ?_
      refine lv_icmp_gt (tgt := 42) hx hb dX10_nights_26 (by decide) (fun c_9 => ?_) (fun c_9 => ?_)
      · refine lv_iconst (v := 0) hx hb dX10_nights_42 (by decide) ?_
        refine lv_istore (lv' := [(7, .int 0), (6, .null), (0, .ref x0), (1, .int p1), (2, .int p2), (3, .int p3), (4, .int p4), (5, .int p5)]) hx hb dX10_nights_43 hl (by decide) rfl (fun ls hl => ?_)
        refine lv_aloadN hx hb dX10_nights_45 (lv_at hl 1 rfl) ?_
        refine lv_ifnullN (tgt := 80) hx hb dX10_nights_47 (by decide) ?_
        refine lv_iconst (v := (-1)) hx hb dX10_nights_80 (by decide) ?_
        have hP9 := hP.sub (ws' := []) [] rfl
        have hD9 := hD.sub (ws' := []) [] (by decide) rfl
        refine W.widen (k := 0) (n := 0) (Nat.le_of_ble_eq_true rfl) (Nat.le_of_ble_eq_true rfl) ?_
        exact W.iret (v := (-1)) hx hb hr (fun t ht hW => ⟨⟨(-1), (), rfl, rfl, by rw [ht]; exact hP9, hD9⟩, hS.F ht⟩) hS.2.2 dX10_nights_81
      · refine lv_iload hx hb dX10_nights_29 (lv_at hl 6 rfl) ?_
        refine lv_iconst (v := 2) hx hb dX10_nights_31 (by decide) ?_
        refine z_i (wr := [(x0, .inr (10, [.ref xw, .ref xl, .ref xi, .ref xt, .int 0, .ref xq, .int 0, .ref xr, .ref xh, .ref xp, .ref xs_, .ref xa, .ref xm]))]) (va_runS (As := [.int p5, .int 2]) (rest := []) ⟨hx, hb, hml, hown, hts⟩ (mX10_within l dC dI kA _ p5 2) (va_cwS 2 hts gX10_nights_X10_within rfl rfl rfl (by decide +kernel) ⟨(Nat.le_of_ble_eq_true rfl), (Nat.le_of_ble_eq_true rfl)⟩) ⟨zPc.blind, zPre hK (hP.sub [] rfl) (hD.sub [] (by decide) rfl)⟩ rfl rfl hl.1 rfl (lv_room (Nat.le_of_ble_eq_true rfl)) dX10_nights_32 ⟨(Nat.le_of_ble_eq_true rfl), (Nat.le_of_ble_eq_true rfl)⟩) hP hD hS hA [] [0] rfl rfl (by decide) (by decide) (fun r12 u10 H locs hw11 hP hD hS => ?_)
        obtain rfl := hw11
        have hP : va_P (dC, dI) vwCl [(x0, .inr (10, [.ref xw, .ref xl, .ref xi, .ref xt, .int 0, .ref xq, .int 0, .ref xr, .ref xh, .ref xp, .ref xs_, .ref xa, .ref xm]))] H := hP
        have hD : va_D A [(x0, .inr (10, [.ref xw, .ref xl, .ref xi, .ref xt, .int 0, .ref xq, .int 0, .ref xr, .ref xh, .ref xp, .ref xs_, .ref xa, .ref xm]))] := hD
        refine lv_if_eq (tgt := 42) hx hb dX10_nights_35 (by decide) (fun c_13 => ?_) (fun c_13 => ?_)
        · refine lv_iconst (v := 0) hx hb dX10_nights_42 (by decide) ?_
          refine lv_istore (lv' := [(7, .int 0), (6, .null), (0, .ref x0), (1, .int p1), (2, .int p2), (3, .int p3), (4, .int p4), (5, .int p5)]) hx hb dX10_nights_43 hl (by decide) rfl (fun ls hl => ?_)
          refine lv_aloadN hx hb dX10_nights_45 (lv_at hl 1 rfl) ?_
          refine lv_ifnullN (tgt := 80) hx hb dX10_nights_47 (by decide) ?_
          refine lv_iconst (v := (-1)) hx hb dX10_nights_80 (by decide) ?_
          have hP9 := hP.sub (ws' := []) [] rfl
          have hD9 := hD.sub (ws' := []) [] (by decide) rfl
          refine W.widen (k := 0) (n := 0) (Nat.le_of_ble_eq_true rfl) (Nat.le_of_ble_eq_true rfl) ?_
          exact W.iret (v := (-1)) hx hb hr (fun t ht hW => ⟨⟨(-1), (), rfl, rfl, by rw [ht]; exact hP9, hD9⟩, hS.F ht⟩) hS.2.2 dX10_nights_81
        · refine lv_iconst (v := 1) hx hb dX10_nights_38 (by decide) ?_
          refine lv_goto (tgt := 43) hx hb dX10_nights_39 (by decide) ?_
          refine lv_istore (lv' := [(7, .int 1), (6, .null), (0, .ref x0), (1, .int p1), (2, .int p2), (3, .int p3), (4, .int p4), (5, .int p5)]) hx hb dX10_nights_43 hl (by decide) rfl (fun ls hl => ?_)
          refine lv_aloadN hx hb dX10_nights_45 (lv_at hl 1 rfl) ?_
          refine lv_ifnullN (tgt := 80) hx hb dX10_nights_47 (by decide) ?_
          refine lv_iconst (v := (-1)) hx hb dX10_nights_80 (by decide) ?_
          have hP9 := hP.sub (ws' := []) [] rfl
          have hD9 := hD.sub (ws' := []) [] (by decide) rfl
          refine W.widen (k := 0) (n := 0) (Nat.le_of_ble_eq_true rfl) (Nat.le_of_ble_eq_true rfl) ?_
          exact W.iret (v := (-1)) hx hb hr (fun t ht hW => ⟨⟨(-1), (), rfl, rfl, by rw [ht]; exact hP9, hD9⟩, hS.F ht⟩) hS.2.2 dX10_nights_81
set_option maxHeartbeats 4000000 in
set_option maxRecDepth 100000 in
theorem mX10_price (l : Launch) (dC : Nat → ClassId) (dI : Nat → Nat → Nat) (kA : Nat → ClassId) (sz : Nat) (x0 : Nat) (xw : Nat) (xl : Nat) (xi : Nat) (xt : Nat) (xq : Nat) (xr : Nat) (xh : Nat) (xp : Nat) (xs_ : Nat) (xa : Nat) (xm : Nat) (p1 : Int32) (p2 : Int32) (p3 : Int32) (p4 : Int32) (p5 : Int32) (p6 : Int32)  : Met l yX10_price wsX10_price ({ frames := 2, cells := 0, slots := 0, locals := 42 }) (zPc dC dI kA sz [.ref x0, .int p1, .int p2, .int p3, .int p4, .int p5, .int p6] [(x0, .inr (10, [.ref xw, .ref xl, .ref xi, .ref xt, .int 0, .ref xq, .int 0, .ref xr, .ref xh, .ref xp, .ref xs_, .ref xa, .ref xm]))]) (va_Qi (fun (r : Int32) (u : Unit) => r = (-1)) (zB dC dI (va_A [(x0, .inr (10, [.ref xw, .ref xl, .ref xi, .ref xt, .int 0, .ref xq, .int 0, .ref xr, .ref xh, .ref xp, .ref xs_, .ref xa, .ref xm]))] sz) (fun (u : Unit) => [])) (va_A [(x0, .inr (10, [.ref xw, .ref xl, .ref xi, .ref xt, .int 0, .ref xq, .int 0, .ref xr, .ref xh, .ref xp, .ref xs_, .ref xa, .ref xm]))] sz)) 0 0 (va_A [(x0, .inr (10, [.ref xw, .ref xl, .ref xi, .ref xt, .int 0, .ref xq, .int 0, .ref xr, .ref xh, .ref xp, .ref xs_, .ref xa, .ref xm]))] sz) := by
  refine Met.ofW (cc := cX10_price) (maxL := 9) (ret := (some .int)) (by decide) rfl ?_
  intro p e s m args below meth c s₁ B hml hv
  obtain ⟨rfl, hsz, hP, hK, hD0⟩ := hv
  have hx := B.exec
  have hb := B.bytes
  have hr := B.returns
  have hts := atoms_spec (ws := wsX10_price) B.pre
  have hown : s.vm.findClass RX10 = some m.cls := findClass_of_methodNamed B.named
  have hlocks := B.notSynchronized
  subst hsz
  have hD := hD0.self (sz := s.heap.size)
  generalize hAe : va_A [(x0, .inr (10, [.ref xw, .ref xl, .ref xi, .ref xt, .int 0, .ref xq, .int 0, .ref xr, .ref xh, .ref xp, .ref xs_, .ref xa, .ref xm]))] s.heap.size = A at hD ⊢
  have hA : ∀ q : Nat, s.heap.size ≤ q → A q := fun q h => by rw [← hAe]; exact Or.inr h
  have hS : va_S A s.heap s.heap [] := va_S.rf
  have hP : va_P (dC, dI) vwCl [(x0, .inr (10, [.ref xw, .ref xl, .ref xi, .ref xt, .int 0, .ref xq, .int 0, .ref xr, .ref xh, .ref xp, .ref xs_, .ref xa, .ref xm]))] s.heap := hP
  have hl := lv_entry ([.ref x0, .int p1, .int p2, .int p3, .int p4, .int p5, .int p6]) (n := 9) (Nat.le_of_ble_eq_true rfl)
  rw [lg_entry_eq]
  generalize (lg_sl ([.ref x0, .int p1, .int p2, .int p3, .int p4, .int p5, .int p6]) ++ List.replicate (9 - (lg_sl ([.ref x0, .int p1, .int p2, .int p3, .int p4, .int p5, .int p6])).length) Slot.unset).toArray = ls at hl ⊢
  have hl : lv_has ls 9 [(0, .ref x0), (1, .int p1), (2, .int p2), (3, .int p3), (4, .int p4), (5, .int p5), (6, .int p6)] := hl
  refine lv_aload_n hx hb dX10_price_0 rfl (lv_at hl 0 rfl) ?_
  refine lv_iload_n hx hb dX10_price_1 rfl (lv_at hl 1 rfl) ?_
  refine z_q (wr := []) (va_runV (As := [.int p1]) (rest := []) ⟨hx, hb, hml, hown, hts⟩ (mX10_lawOf l dC dI kA _ x0 xw xl xi xt xq xr xh xp xs_ xa xm p1) (cwV 1 hts gX10_price_X10_lawOf rfl rfl rfl (by decide +kernel) ⟨(Nat.le_of_ble_eq_true rfl), (Nat.le_of_ble_eq_true rfl)⟩) ⟨zPc.blind, va_recv hK.1 hP (ci := 10) (q0 := 0) rfl rfl, zPre hK (hP.sub [0] rfl) (hD.sub [0] (by decide) rfl)⟩ rfl rfl hl.1 rfl (lv_room (Nat.le_of_ble_eq_true rfl)) dX10_price_2 ⟨(Nat.le_of_ble_eq_true rfl), (Nat.le_of_ble_eq_true rfl)⟩) hP hD hS hA [0] [] rfl rfl (by decide) (by decide) (fun r3 u1 H locs hw2 hP hD hS => ?_)
  obtain rfl := hw2
  have hP : va_P (dC, dI) vwCl [(x0, .inr (10, [.ref xw, .ref xl, .ref xi, .ref xt, .int 0, .ref xq, .int 0, .ref xr, .ref xh, .ref xp, .ref xs_, .ref xa, .ref xm]))] H := hP
  have hD : va_D A [(x0, .inr (10, [.ref xw, .ref xl, .ref xi, .ref xt, .int 0, .ref xq, .int 0, .ref xr, .ref xh, .ref xp, .ref xs_, .ref xa, .ref xm]))] := hD
  refine zv .null rfl ?_
  refine lv_astoreN (lv' := [(7, .null), (0, .ref x0), (1, .int p1), (2, .int p2), (3, .int p3), (4, .int p4), (5, .int p5), (6, .int p6)]) hx hb dX10_price_5 hl (by decide) rfl (fun ls hl => ?_)
  refine lv_aloadN hx hb dX10_price_7 (lv_at hl 0 rfl) ?_
  refine lv_ifnullN (tgt := 48) hx hb dX10_price_9 (by decide) ?_
  refine lv_iconst (v := (-1)) hx hb dX10_price_48 (by decide) ?_
  have hP9 := hP.sub (ws' := []) [] rfl
  have hD9 := hD.sub (ws' := []) [] (by decide) rfl
  refine W.widen (k := 0) (n := 0) (Nat.le_of_ble_eq_true rfl) (Nat.le_of_ble_eq_true rfl) ?_
  exact W.iret (v := (-1)) hx hb hr (fun t ht hW => ⟨⟨(-1), (), rfl, rfl, by rw [ht]; exact hP9, hD9⟩, hS.F ht⟩) hS.2.2 dX10_price_49
set_option maxHeartbeats 4000000 in
set_option maxRecDepth 100000 in
theorem mX10_ahead (l : Launch) (dC : Nat → ClassId) (dI : Nat → Nat → Nat) (kA : Nat → ClassId) (sz : Nat) (x0 : Nat) (xw : Nat) (xl : Nat) (xi : Nat) (xt : Nat) (xq : Nat) (xr : Nat) (xh : Nat) (xp : Nat) (xs_ : Nat) (xa : Nat) (xm : Nat) (p1 : Int32) (p2 : Int32) (p3 : Int32)  : Met l yX10_ahead wsX10_ahead ({ frames := 2, cells := 0, slots := 0, locals := 42 }) (zPc dC dI kA sz [.ref x0, .int p1, .int p2, .int p3] [(x0, .inr (10, [.ref xw, .ref xl, .ref xi, .ref xt, .int 0, .ref xq, .int 0, .ref xr, .ref xh, .ref xp, .ref xs_, .ref xa, .ref xm]))]) (va_Qi (fun (r : Int32) (u : Unit) => r = (-1)) (zB dC dI (va_A [(x0, .inr (10, [.ref xw, .ref xl, .ref xi, .ref xt, .int 0, .ref xq, .int 0, .ref xr, .ref xh, .ref xp, .ref xs_, .ref xa, .ref xm]))] sz) (fun (u : Unit) => [])) (va_A [(x0, .inr (10, [.ref xw, .ref xl, .ref xi, .ref xt, .int 0, .ref xq, .int 0, .ref xr, .ref xh, .ref xp, .ref xs_, .ref xa, .ref xm]))] sz)) 0 0 (va_A [(x0, .inr (10, [.ref xw, .ref xl, .ref xi, .ref xt, .int 0, .ref xq, .int 0, .ref xr, .ref xh, .ref xp, .ref xs_, .ref xa, .ref xm]))] sz) := by
  refine Met.ofW (cc := cX10_ahead) (maxL := 6) (ret := (some .int)) (by decide) rfl ?_
  intro p e s m args below meth c s₁ B hml hv
  obtain ⟨rfl, hsz, hP, hK, hD0⟩ := hv
  have hx := B.exec
  have hb := B.bytes
  have hr := B.returns
  have hts := atoms_spec (ws := wsX10_ahead) B.pre
  have hown : s.vm.findClass RX10 = some m.cls := findClass_of_methodNamed B.named
  have hlocks := B.notSynchronized
  subst hsz
  have hD := hD0.self (sz := s.heap.size)
  generalize hAe : va_A [(x0, .inr (10, [.ref xw, .ref xl, .ref xi, .ref xt, .int 0, .ref xq, .int 0, .ref xr, .ref xh, .ref xp, .ref xs_, .ref xa, .ref xm]))] s.heap.size = A at hD ⊢
  have hA : ∀ q : Nat, s.heap.size ≤ q → A q := fun q h => by rw [← hAe]; exact Or.inr h
  have hS : va_S A s.heap s.heap [] := va_S.rf
  have hP : va_P (dC, dI) vwCl [(x0, .inr (10, [.ref xw, .ref xl, .ref xi, .ref xt, .int 0, .ref xq, .int 0, .ref xr, .ref xh, .ref xp, .ref xs_, .ref xa, .ref xm]))] s.heap := hP
  have hl := lv_entry ([.ref x0, .int p1, .int p2, .int p3]) (n := 6) (Nat.le_of_ble_eq_true rfl)
  rw [lg_entry_eq]
  generalize (lg_sl ([.ref x0, .int p1, .int p2, .int p3]) ++ List.replicate (6 - (lg_sl ([.ref x0, .int p1, .int p2, .int p3])).length) Slot.unset).toArray = ls at hl ⊢
  have hl : lv_has ls 6 [(0, .ref x0), (1, .int p1), (2, .int p2), (3, .int p3)] := hl
  refine lv_aload_n hx hb dX10_ahead_0 rfl (lv_at hl 0 rfl) ?_
  refine lv_iload_n hx hb dX10_ahead_1 rfl (lv_at hl 1 rfl) ?_
  refine z_q (wr := []) (va_runV (As := [.int p1]) (rest := []) ⟨hx, hb, hml, hown, hts⟩ (mX10_lawOf l dC dI kA _ x0 xw xl xi xt xq xr xh xp xs_ xa xm p1) (cwV 1 hts gX10_ahead_X10_lawOf rfl rfl rfl (by decide +kernel) ⟨(Nat.le_of_ble_eq_true rfl), (Nat.le_of_ble_eq_true rfl)⟩) ⟨zPc.blind, va_recv hK.1 hP (ci := 10) (q0 := 0) rfl rfl, zPre hK (hP.sub [0] rfl) (hD.sub [0] (by decide) rfl)⟩ rfl rfl hl.1 rfl (lv_room (Nat.le_of_ble_eq_true rfl)) dX10_ahead_2 ⟨(Nat.le_of_ble_eq_true rfl), (Nat.le_of_ble_eq_true rfl)⟩) hP hD hS hA [0] [] rfl rfl (by decide) (by decide) (fun r3 u1 H locs hw2 hP hD hS => ?_)
  obtain rfl := hw2
  have hP : va_P (dC, dI) vwCl [(x0, .inr (10, [.ref xw, .ref xl, .ref xi, .ref xt, .int 0, .ref xq, .int 0, .ref xr, .ref xh, .ref xp, .ref xs_, .ref xa, .ref xm]))] H := hP
  have hD : va_D A [(x0, .inr (10, [.ref xw, .ref xl, .ref xi, .ref xt, .int 0, .ref xq, .int 0, .ref xr, .ref xh, .ref xp, .ref xs_, .ref xa, .ref xm]))] := hD
  refine zv .null rfl ?_
  refine lv_astoreN (lv' := [(4, .null), (0, .ref x0), (1, .int p1), (2, .int p2), (3, .int p3)]) hx hb dX10_ahead_5 hl (by decide) rfl (fun ls hl => ?_)
  refine lv_aloadN hx hb dX10_ahead_7 (lv_at hl 0 rfl) ?_
  refine lv_ifnullN (tgt := 30) hx hb dX10_ahead_9 (by decide) ?_
  refine lv_iconst (v := (-1)) hx hb dX10_ahead_30 (by decide) ?_
  have hP9 := hP.sub (ws' := []) [] rfl
  have hD9 := hD.sub (ws' := []) [] (by decide) rfl
  refine W.widen (k := 0) (n := 0) (Nat.le_of_ble_eq_true rfl) (Nat.le_of_ble_eq_true rfl) ?_
  exact W.iret (v := (-1)) hx hb hr (fun t ht hW => ⟨⟨(-1), (), rfl, rfl, by rw [ht]; exact hP9, hD9⟩, hS.F ht⟩) hS.2.2 dX10_ahead_31
set_option maxHeartbeats 4000000 in
set_option maxRecDepth 100000 in
theorem mX10_count (l : Launch) (dC : Nat → ClassId) (dI : Nat → Nat → Nat) (kA : Nat → ClassId) (sz : Nat) (x0 : Nat) (xw : Nat) (xl : Nat) (xi : Nat) (xt : Nat) (xq : Nat) (xr : Nat) (xh : Nat) (xp : Nat) (xs_ : Nat) (xa : Nat) (xm : Nat) (tnodes : Nat) (tnodesA : Nat) (tpasses : Nat) (tpassesA : Nat) (tjars : Nat) (tjarsA : Nat) (torders : Nat) (tordersA : Nat) (tfeasts : Nat) (tfeastsA : Nat) (tway : Nat) (p1 : Int32)  : Met l yX10_count wsX10_count ({ frames := 1, cells := 0, slots := 0, locals := 21 }) (zPc dC dI kA sz [.ref x0, .int p1] [(x0, .inr (10, [.ref xw, .ref xl, .ref xi, .ref xt, .int 0, .ref xq, .int 0, .ref xr, .ref xh, .ref xp, .ref xs_, .ref xa, .ref xm])), (xw, .inr (9, [.ref tnodes, .ref tpasses, .ref tjars, .ref torders, .ref tfeasts, .ref tway, .int (-1), .int 0, .int 0, .int 0])), (tnodes, .inr (6, [.int 4, .ref tnodesA, .int 0])), (tpasses, .inr (6, [.int 5, .ref tpassesA, .int 0])), (tjars, .inr (6, [.int 9, .ref tjarsA, .int 0])), (torders, .inr (6, [.int 4, .ref tordersA, .int 0])), (tfeasts, .inr (6, [.int 3, .ref tfeastsA, .int 0]))]) (va_Qi (fun (r : Int32) (u : Unit) => r = (sp_ct p1)) (zB dC dI (va_A [(x0, .inr (10, [.ref xw, .ref xl, .ref xi, .ref xt, .int 0, .ref xq, .int 0, .ref xr, .ref xh, .ref xp, .ref xs_, .ref xa, .ref xm])), (xw, .inr (9, [.ref tnodes, .ref tpasses, .ref tjars, .ref torders, .ref tfeasts, .ref tway, .int (-1), .int 0, .int 0, .int 0])), (tnodes, .inr (6, [.int 4, .ref tnodesA, .int 0])), (tpasses, .inr (6, [.int 5, .ref tpassesA, .int 0])), (tjars, .inr (6, [.int 9, .ref tjarsA, .int 0])), (torders, .inr (6, [.int 4, .ref tordersA, .int 0])), (tfeasts, .inr (6, [.int 3, .ref tfeastsA, .int 0]))] sz) (fun (u : Unit) => [])) (va_A [(x0, .inr (10, [.ref xw, .ref xl, .ref xi, .ref xt, .int 0, .ref xq, .int 0, .ref xr, .ref xh, .ref xp, .ref xs_, .ref xa, .ref xm])), (xw, .inr (9, [.ref tnodes, .ref tpasses, .ref tjars, .ref torders, .ref tfeasts, .ref tway, .int (-1), .int 0, .int 0, .int 0])), (tnodes, .inr (6, [.int 4, .ref tnodesA, .int 0])), (tpasses, .inr (6, [.int 5, .ref tpassesA, .int 0])), (tjars, .inr (6, [.int 9, .ref tjarsA, .int 0])), (torders, .inr (6, [.int 4, .ref tordersA, .int 0])), (tfeasts, .inr (6, [.int 3, .ref tfeastsA, .int 0]))] sz)) 0 0 (va_A [(x0, .inr (10, [.ref xw, .ref xl, .ref xi, .ref xt, .int 0, .ref xq, .int 0, .ref xr, .ref xh, .ref xp, .ref xs_, .ref xa, .ref xm])), (xw, .inr (9, [.ref tnodes, .ref tpasses, .ref tjars, .ref torders, .ref tfeasts, .ref tway, .int (-1), .int 0, .int 0, .int 0])), (tnodes, .inr (6, [.int 4, .ref tnodesA, .int 0])), (tpasses, .inr (6, [.int 5, .ref tpassesA, .int 0])), (tjars, .inr (6, [.int 9, .ref tjarsA, .int 0])), (torders, .inr (6, [.int 4, .ref tordersA, .int 0])), (tfeasts, .inr (6, [.int 3, .ref tfeastsA, .int 0]))] sz) := by
  refine Met.ofW (cc := cX10_count) (maxL := 2) (ret := (some .int)) (by decide) rfl ?_
  intro p e s m args below meth c s₁ B hml hv
  obtain ⟨rfl, hsz, hP, hK, hD0⟩ := hv
  have hx := B.exec
  have hb := B.bytes
  have hr := B.returns
  have hts := atoms_spec (ws := wsX10_count) B.pre
  have hown : s.vm.findClass RX10 = some m.cls := findClass_of_methodNamed B.named
  have hlocks := B.notSynchronized
  subst hsz
  have hD := hD0.self (sz := s.heap.size)
  generalize hAe : va_A [(x0, .inr (10, [.ref xw, .ref xl, .ref xi, .ref xt, .int 0, .ref xq, .int 0, .ref xr, .ref xh, .ref xp, .ref xs_, .ref xa, .ref xm])), (xw, .inr (9, [.ref tnodes, .ref tpasses, .ref tjars, .ref torders, .ref tfeasts, .ref tway, .int (-1), .int 0, .int 0, .int 0])), (tnodes, .inr (6, [.int 4, .ref tnodesA, .int 0])), (tpasses, .inr (6, [.int 5, .ref tpassesA, .int 0])), (tjars, .inr (6, [.int 9, .ref tjarsA, .int 0])), (torders, .inr (6, [.int 4, .ref tordersA, .int 0])), (tfeasts, .inr (6, [.int 3, .ref tfeastsA, .int 0]))] s.heap.size = A at hD ⊢
  have hA : ∀ q : Nat, s.heap.size ≤ q → A q := fun q h => by rw [← hAe]; exact Or.inr h
  have hS : va_S A s.heap s.heap [] := va_S.rf
  have hP : va_P (dC, dI) vwCl [(x0, .inr (10, [.ref xw, .ref xl, .ref xi, .ref xt, .int 0, .ref xq, .int 0, .ref xr, .ref xh, .ref xp, .ref xs_, .ref xa, .ref xm])), (xw, .inr (9, [.ref tnodes, .ref tpasses, .ref tjars, .ref torders, .ref tfeasts, .ref tway, .int (-1), .int 0, .int 0, .int 0])), (tnodes, .inr (6, [.int 4, .ref tnodesA, .int 0])), (tpasses, .inr (6, [.int 5, .ref tpassesA, .int 0])), (tjars, .inr (6, [.int 9, .ref tjarsA, .int 0])), (torders, .inr (6, [.int 4, .ref tordersA, .int 0])), (tfeasts, .inr (6, [.int 3, .ref tfeastsA, .int 0]))] s.heap := hP
  have hl := lv_entry ([.ref x0, .int p1]) (n := 2) (Nat.le_of_ble_eq_true rfl)
  rw [lg_entry_eq]
  generalize (lg_sl ([.ref x0, .int p1]) ++ List.replicate (2 - (lg_sl ([.ref x0, .int p1])).length) Slot.unset).toArray = ls at hl ⊢
  have hl : lv_has ls 2 [(0, .ref x0), (1, .int p1)] := hl
  refine lv_iload_n hx hb dX10_count_0 rfl (lv_at hl 1 rfl) ?_
  rcases sw11 p1 with hs | hs | hs | hs | hs | hs | hs | hs | hs | hs | hs | hs
  · refine lv_tableOut (tgt := 182) hx hb dX10_count_1 hs (by decide) ?_
    refine lv_iconst (v := (-1)) hx hb dX10_count_182 (by decide) ?_
    have hP9 := hP.sub (ws' := []) [] rfl
    have hD9 := hD.sub (ws' := []) [] (by decide) rfl
    refine W.widen (k := 0) (n := 0) (Nat.le_of_ble_eq_true rfl) (Nat.le_of_ble_eq_true rfl) ?_
    exact W.iret (v := (-1)) hx hb hr (fun t ht hW => ⟨⟨(-1), (), rfl, (by simp only [sp_ct]; rw [if_pos hs]), by rw [ht]; exact hP9, hD9⟩, hS.F ht⟩) hS.2.2 dX10_count_183
  · refine lv_tableIn (off := 59) (tgt := 60) hx hb dX10_count_1 (by rw [hs]; decide) (by rw [hs]; decide) (by rw [hs]; decide) (by decide) ?_
    have hl : lv_has ls 2 [(0, .ref x0), (1, .int 0)] := by rw [hs] at hl; exact hl
    refine lv_aload_n hx hb dX10_count_60 rfl (lv_at hl 0 rfl) ?_
    refine va_get (D := (dC, dI)) (ci := 10) (v := .ref xw) (C := RX10) (T := TX10) (N := 13) hx hb hts iX10_count_X10 hown hK.1 hP 0 rfl rfl 0 (by decide) (kX10_count_1 hts) (fun _ h9 => h9) rfl dX10_count_61 ?_
    refine va_get (D := (dC, dI)) (ci := 9) (v := .ref tnodes) (C := RX9) (T := TX9) (N := 10) hx hb hts iX10_count_X9 hown hK.1 hP 1 rfl rfl 0 (by decide) (kX10_count_2 hts) (fun _ h9 => h9) rfl dX10_count_64 ?_
    refine va_get (D := (dC, dI)) (ci := 6) (v := .int 0) (C := RX6) (T := TX6) (N := 3) hx hb hts iX10_count_X6 hown hK.1 hP 2 rfl rfl 2 (by decide) (kX10_count_3 hts) (fun _ h9 => h9) rfl dX10_count_67 ?_
    have hP9 := hP.sub (ws' := []) [] rfl
    have hD9 := hD.sub (ws' := []) [] (by decide) rfl
    refine W.widen (k := 0) (n := 0) (Nat.le_of_ble_eq_true rfl) (Nat.le_of_ble_eq_true rfl) ?_
    exact W.iret (v := 0) hx hb hr (fun t ht hW => ⟨⟨0, (), rfl, (by rw [hs]; decide), by rw [ht]; exact hP9, hD9⟩, hS.F ht⟩) hS.2.2 dX10_count_70
  · refine lv_tableIn (off := 70) (tgt := 71) hx hb dX10_count_1 (by rw [hs]; decide) (by rw [hs]; decide) (by rw [hs]; decide) (by decide) ?_
    have hl : lv_has ls 2 [(0, .ref x0), (1, .int 1)] := by rw [hs] at hl; exact hl
    refine lv_aload_n hx hb dX10_count_71 rfl (lv_at hl 0 rfl) ?_
    refine va_get (D := (dC, dI)) (ci := 10) (v := .ref xw) (C := RX10) (T := TX10) (N := 13) hx hb hts iX10_count_X10 hown hK.1 hP 0 rfl rfl 0 (by decide) (kX10_count_1 hts) (fun _ h9 => h9) rfl dX10_count_72 ?_
    refine va_get (D := (dC, dI)) (ci := 9) (v := .ref tpasses) (C := RX9) (T := TX9) (N := 10) hx hb hts iX10_count_X9 hown hK.1 hP 1 rfl rfl 1 (by decide) (kX10_count_4 hts) (fun _ h9 => h9) rfl dX10_count_75 ?_
    refine va_get (D := (dC, dI)) (ci := 6) (v := .int 0) (C := RX6) (T := TX6) (N := 3) hx hb hts iX10_count_X6 hown hK.1 hP 3 rfl rfl 2 (by decide) (kX10_count_3 hts) (fun _ h9 => h9) rfl dX10_count_78 ?_
    have hP9 := hP.sub (ws' := []) [] rfl
    have hD9 := hD.sub (ws' := []) [] (by decide) rfl
    refine W.widen (k := 0) (n := 0) (Nat.le_of_ble_eq_true rfl) (Nat.le_of_ble_eq_true rfl) ?_
    exact W.iret (v := 0) hx hb hr (fun t ht hW => ⟨⟨0, (), rfl, (by rw [hs]; decide), by rw [ht]; exact hP9, hD9⟩, hS.F ht⟩) hS.2.2 dX10_count_81
  · refine lv_tableIn (off := 81) (tgt := 82) hx hb dX10_count_1 (by rw [hs]; decide) (by rw [hs]; decide) (by rw [hs]; decide) (by decide) ?_
    have hl : lv_has ls 2 [(0, .ref x0), (1, .int 2)] := by rw [hs] at hl; exact hl
    refine lv_aload_n hx hb dX10_count_82 rfl (lv_at hl 0 rfl) ?_
    refine va_get (D := (dC, dI)) (ci := 10) (v := .ref xw) (C := RX10) (T := TX10) (N := 13) hx hb hts iX10_count_X10 hown hK.1 hP 0 rfl rfl 0 (by decide) (kX10_count_1 hts) (fun _ h9 => h9) rfl dX10_count_83 ?_
    refine va_get (D := (dC, dI)) (ci := 9) (v := .ref tjars) (C := RX9) (T := TX9) (N := 10) hx hb hts iX10_count_X9 hown hK.1 hP 1 rfl rfl 2 (by decide) (kX10_count_5 hts) (fun _ h9 => h9) rfl dX10_count_86 ?_
    refine va_get (D := (dC, dI)) (ci := 6) (v := .int 0) (C := RX6) (T := TX6) (N := 3) hx hb hts iX10_count_X6 hown hK.1 hP 4 rfl rfl 2 (by decide) (kX10_count_3 hts) (fun _ h9 => h9) rfl dX10_count_89 ?_
    have hP9 := hP.sub (ws' := []) [] rfl
    have hD9 := hD.sub (ws' := []) [] (by decide) rfl
    refine W.widen (k := 0) (n := 0) (Nat.le_of_ble_eq_true rfl) (Nat.le_of_ble_eq_true rfl) ?_
    exact W.iret (v := 0) hx hb hr (fun t ht hW => ⟨⟨0, (), rfl, (by rw [hs]; decide), by rw [ht]; exact hP9, hD9⟩, hS.F ht⟩) hS.2.2 dX10_count_92
  · refine lv_tableIn (off := 92) (tgt := 93) hx hb dX10_count_1 (by rw [hs]; decide) (by rw [hs]; decide) (by rw [hs]; decide) (by decide) ?_
    have hl : lv_has ls 2 [(0, .ref x0), (1, .int 3)] := by rw [hs] at hl; exact hl
    refine lv_aload_n hx hb dX10_count_93 rfl (lv_at hl 0 rfl) ?_
    refine va_get (D := (dC, dI)) (ci := 10) (v := .int 0) (C := RX10) (T := TX10) (N := 13) hx hb hts iX10_count_X10 hown hK.1 hP 0 rfl rfl 6 (by decide) (kX10_count_6 hts) (fun _ h9 => h9) rfl dX10_count_94 ?_
    have hP9 := hP.sub (ws' := []) [] rfl
    have hD9 := hD.sub (ws' := []) [] (by decide) rfl
    refine W.widen (k := 0) (n := 0) (Nat.le_of_ble_eq_true rfl) (Nat.le_of_ble_eq_true rfl) ?_
    exact W.iret (v := 0) hx hb hr (fun t ht hW => ⟨⟨0, (), rfl, (by rw [hs]; decide), by rw [ht]; exact hP9, hD9⟩, hS.F ht⟩) hS.2.2 dX10_count_97
  · refine lv_tableIn (off := 97) (tgt := 98) hx hb dX10_count_1 (by rw [hs]; decide) (by rw [hs]; decide) (by rw [hs]; decide) (by decide) ?_
    have hl : lv_has ls 2 [(0, .ref x0), (1, .int 4)] := by rw [hs] at hl; exact hl
    refine lv_aload_n hx hb dX10_count_98 rfl (lv_at hl 0 rfl) ?_
    refine va_get (D := (dC, dI)) (ci := 10) (v := .ref xw) (C := RX10) (T := TX10) (N := 13) hx hb hts iX10_count_X10 hown hK.1 hP 0 rfl rfl 0 (by decide) (kX10_count_1 hts) (fun _ h9 => h9) rfl dX10_count_99 ?_
    refine va_get (D := (dC, dI)) (ci := 9) (v := .int 0) (C := RX9) (T := TX9) (N := 10) hx hb hts iX10_count_X9 hown hK.1 hP 1 rfl rfl 7 (by decide) (kX10_count_7 hts) (fun _ h9 => h9) rfl dX10_count_102 ?_
    have hP9 := hP.sub (ws' := []) [] rfl
    have hD9 := hD.sub (ws' := []) [] (by decide) rfl
    refine W.widen (k := 0) (n := 0) (Nat.le_of_ble_eq_true rfl) (Nat.le_of_ble_eq_true rfl) ?_
    exact W.iret (v := 0) hx hb hr (fun t ht hW => ⟨⟨0, (), rfl, (by rw [hs]; decide), by rw [ht]; exact hP9, hD9⟩, hS.F ht⟩) hS.2.2 dX10_count_105
  · refine lv_tableIn (off := 105) (tgt := 106) hx hb dX10_count_1 (by rw [hs]; decide) (by rw [hs]; decide) (by rw [hs]; decide) (by decide) ?_
    have hl : lv_has ls 2 [(0, .ref x0), (1, .int 5)] := by rw [hs] at hl; exact hl
    refine lv_aload_n hx hb dX10_count_106 rfl (lv_at hl 0 rfl) ?_
    refine va_get (D := (dC, dI)) (ci := 10) (v := .ref xw) (C := RX10) (T := TX10) (N := 13) hx hb hts iX10_count_X10 hown hK.1 hP 0 rfl rfl 0 (by decide) (kX10_count_1 hts) (fun _ h9 => h9) rfl dX10_count_107 ?_
    refine lv_aload_n hx hb dX10_count_110 rfl (lv_at hl 0 rfl) ?_
    refine va_get (D := (dC, dI)) (ci := 10) (v := .ref xw) (C := RX10) (T := TX10) (N := 13) hx hb hts iX10_count_X10 hown hK.1 hP 0 rfl rfl 0 (by decide) (kX10_count_1 hts) (fun _ h9 => h9) rfl dX10_count_111 ?_
    refine va_get (D := (dC, dI)) (ci := 9) (v := .int 0) (C := RX9) (T := TX9) (N := 10) hx hb hts iX10_count_X9 hown hK.1 hP 1 rfl rfl 7 (by decide) (kX10_count_7 hts) (fun _ h9 => h9) rfl dX10_count_114 ?_
    refine z_i (wr := [(x0, .inr (10, [.ref xw, .ref xl, .ref xi, .ref xt, .int 0, .ref xq, .int 0, .ref xr, .ref xh, .ref xp, .ref xs_, .ref xa, .ref xm])), (tnodes, .inr (6, [.int 4, .ref tnodesA, .int 0])), (tpasses, .inr (6, [.int 5, .ref tpassesA, .int 0])), (tjars, .inr (6, [.int 9, .ref tjarsA, .int 0])), (torders, .inr (6, [.int 4, .ref tordersA, .int 0])), (tfeasts, .inr (6, [.int 3, .ref tfeastsA, .int 0]))]) (va_runV (As := [.int 0]) (rest := []) ⟨hx, hb, hml, hown, hts⟩ (mX9_monthAt l dC dI kA _ xw tnodes tpasses tjars torders tfeasts tway) (cwV 1 hts gX10_count_X9_monthAt rfl rfl rfl (by decide +kernel) ⟨(Nat.le_of_ble_eq_true rfl), (Nat.le_of_ble_eq_true rfl)⟩) ⟨zPc.blind, va_recv hK.1 hP (ci := 9) (q0 := 1) rfl rfl, zPre hK (hP.sub [1] rfl) (hD.sub [1] (by decide) rfl)⟩ rfl rfl hl.1 rfl (lv_room (Nat.le_of_ble_eq_true rfl)) dX10_count_117 ⟨(Nat.le_of_ble_eq_true rfl), (Nat.le_of_ble_eq_true rfl)⟩) hP hD hS hA [1] [0, 2, 3, 4, 5, 6] rfl rfl (by decide) (by decide) (fun r3 u1 H locs hw2 hP hD hS => ?_)
    obtain rfl := hw2
    have hP : va_P (dC, dI) vwCl [(x0, .inr (10, [.ref xw, .ref xl, .ref xi, .ref xt, .int 0, .ref xq, .int 0, .ref xr, .ref xh, .ref xp, .ref xs_, .ref xa, .ref xm])), (tnodes, .inr (6, [.int 4, .ref tnodesA, .int 0])), (tpasses, .inr (6, [.int 5, .ref tpassesA, .int 0])), (tjars, .inr (6, [.int 9, .ref tjarsA, .int 0])), (torders, .inr (6, [.int 4, .ref tordersA, .int 0])), (tfeasts, .inr (6, [.int 3, .ref tfeastsA, .int 0])), (xw, .inr (9, [.ref tnodes, .ref tpasses, .ref tjars, .ref torders, .ref tfeasts, .ref tway, .int (-1), .int 0, .int 0, .int 0]))] H := hP
    have hD : va_D A [(x0, .inr (10, [.ref xw, .ref xl, .ref xi, .ref xt, .int 0, .ref xq, .int 0, .ref xr, .ref xh, .ref xp, .ref xs_, .ref xa, .ref xm])), (tnodes, .inr (6, [.int 4, .ref tnodesA, .int 0])), (tpasses, .inr (6, [.int 5, .ref tpassesA, .int 0])), (tjars, .inr (6, [.int 9, .ref tjarsA, .int 0])), (torders, .inr (6, [.int 4, .ref tordersA, .int 0])), (tfeasts, .inr (6, [.int 3, .ref tfeastsA, .int 0])), (xw, .inr (9, [.ref tnodes, .ref tpasses, .ref tjars, .ref torders, .ref tfeasts, .ref tway, .int (-1), .int 0, .int 0, .int 0]))] := hD
    have hP9 := hP.sub (ws' := []) [] rfl
    have hD9 := hD.sub (ws' := []) [] (by decide) rfl
    refine W.widen (k := 0) (n := 0) (Nat.le_of_ble_eq_true rfl) (Nat.le_of_ble_eq_true rfl) ?_
    exact W.iret (v := 0) hx hb hr (fun t ht hW => ⟨⟨0, (), rfl, (by rw [hs]; decide), by rw [ht]; exact hP9, hD9⟩, hS.F ht⟩) hS.2.2 dX10_count_120
  · refine lv_tableIn (off := 120) (tgt := 121) hx hb dX10_count_1 (by rw [hs]; decide) (by rw [hs]; decide) (by rw [hs]; decide) (by decide) ?_
    have hl : lv_has ls 2 [(0, .ref x0), (1, .int 6)] := by rw [hs] at hl; exact hl
    refine lv_aload_n hx hb dX10_count_121 rfl (lv_at hl 0 rfl) ?_
    refine va_get (D := (dC, dI)) (ci := 10) (v := .ref xw) (C := RX10) (T := TX10) (N := 13) hx hb hts iX10_count_X10 hown hK.1 hP 0 rfl rfl 0 (by decide) (kX10_count_1 hts) (fun _ h9 => h9) rfl dX10_count_122 ?_
    refine va_get (D := (dC, dI)) (ci := 9) (v := .ref torders) (C := RX9) (T := TX9) (N := 10) hx hb hts iX10_count_X9 hown hK.1 hP 1 rfl rfl 3 (by decide) (kX10_count_8 hts) (fun _ h9 => h9) rfl dX10_count_125 ?_
    refine va_get (D := (dC, dI)) (ci := 6) (v := .int 0) (C := RX6) (T := TX6) (N := 3) hx hb hts iX10_count_X6 hown hK.1 hP 5 rfl rfl 2 (by decide) (kX10_count_3 hts) (fun _ h9 => h9) rfl dX10_count_128 ?_
    have hP9 := hP.sub (ws' := []) [] rfl
    have hD9 := hD.sub (ws' := []) [] (by decide) rfl
    refine W.widen (k := 0) (n := 0) (Nat.le_of_ble_eq_true rfl) (Nat.le_of_ble_eq_true rfl) ?_
    exact W.iret (v := 0) hx hb hr (fun t ht hW => ⟨⟨0, (), rfl, (by rw [hs]; decide), by rw [ht]; exact hP9, hD9⟩, hS.F ht⟩) hS.2.2 dX10_count_131
  · refine lv_tableIn (off := 131) (tgt := 132) hx hb dX10_count_1 (by rw [hs]; decide) (by rw [hs]; decide) (by rw [hs]; decide) (by decide) ?_
    have hl : lv_has ls 2 [(0, .ref x0), (1, .int 7)] := by rw [hs] at hl; exact hl
    refine lv_aload_n hx hb dX10_count_132 rfl (lv_at hl 0 rfl) ?_
    refine va_get (D := (dC, dI)) (ci := 10) (v := .ref xw) (C := RX10) (T := TX10) (N := 13) hx hb hts iX10_count_X10 hown hK.1 hP 0 rfl rfl 0 (by decide) (kX10_count_1 hts) (fun _ h9 => h9) rfl dX10_count_133 ?_
    refine va_get (D := (dC, dI)) (ci := 9) (v := .ref tfeasts) (C := RX9) (T := TX9) (N := 10) hx hb hts iX10_count_X9 hown hK.1 hP 1 rfl rfl 4 (by decide) (kX10_count_9 hts) (fun _ h9 => h9) rfl dX10_count_136 ?_
    refine va_get (D := (dC, dI)) (ci := 6) (v := .int 0) (C := RX6) (T := TX6) (N := 3) hx hb hts iX10_count_X6 hown hK.1 hP 6 rfl rfl 2 (by decide) (kX10_count_3 hts) (fun _ h9 => h9) rfl dX10_count_139 ?_
    have hP9 := hP.sub (ws' := []) [] rfl
    have hD9 := hD.sub (ws' := []) [] (by decide) rfl
    refine W.widen (k := 0) (n := 0) (Nat.le_of_ble_eq_true rfl) (Nat.le_of_ble_eq_true rfl) ?_
    exact W.iret (v := 0) hx hb hr (fun t ht hW => ⟨⟨0, (), rfl, (by rw [hs]; decide), by rw [ht]; exact hP9, hD9⟩, hS.F ht⟩) hS.2.2 dX10_count_142
  · refine lv_tableIn (off := 142) (tgt := 143) hx hb dX10_count_1 (by rw [hs]; decide) (by rw [hs]; decide) (by rw [hs]; decide) (by decide) ?_
    have hl : lv_has ls 2 [(0, .ref x0), (1, .int 8)] := by rw [hs] at hl; exact hl
    refine lv_aload_n hx hb dX10_count_143 rfl (lv_at hl 0 rfl) ?_
    refine va_get (D := (dC, dI)) (ci := 10) (v := .ref xw) (C := RX10) (T := TX10) (N := 13) hx hb hts iX10_count_X10 hown hK.1 hP 0 rfl rfl 0 (by decide) (kX10_count_1 hts) (fun _ h9 => h9) rfl dX10_count_144 ?_
    refine va_get (D := (dC, dI)) (ci := 9) (v := .int (-1)) (C := RX9) (T := TX9) (N := 10) hx hb hts iX10_count_X9 hown hK.1 hP 1 rfl rfl 6 (by decide) (kX10_count_10 hts) (fun _ h9 => h9) rfl dX10_count_147 ?_
    refine lv_iconst (v := (-1)) hx hb dX10_count_150 (by decide) ?_
    refine lv_icmp_ne (tgt := 158) hx hb dX10_count_151 (by decide) (fun c_4 => absurd (by decide) c_4) (fun _ => ?_)
    refine lv_iconst (v := (-1)) hx hb dX10_count_154 (by decide) ?_
    refine lv_goto (tgt := 168) hx hb dX10_count_155 (by decide) ?_
    have hP9 := hP.sub (ws' := []) [] rfl
    have hD9 := hD.sub (ws' := []) [] (by decide) rfl
    refine W.widen (k := 0) (n := 0) (Nat.le_of_ble_eq_true rfl) (Nat.le_of_ble_eq_true rfl) ?_
    exact W.iret (v := (-1)) hx hb hr (fun t ht hW => ⟨⟨(-1), (), rfl, (by rw [hs]; decide), by rw [ht]; exact hP9, hD9⟩, hS.F ht⟩) hS.2.2 dX10_count_168
  · refine lv_tableIn (off := 168) (tgt := 169) hx hb dX10_count_1 (by rw [hs]; decide) (by rw [hs]; decide) (by rw [hs]; decide) (by decide) ?_
    have hl : lv_has ls 2 [(0, .ref x0), (1, .int 9)] := by rw [hs] at hl; exact hl
    refine lv_aload_n hx hb dX10_count_169 rfl (lv_at hl 0 rfl) ?_
    refine va_get (D := (dC, dI)) (ci := 10) (v := .ref xw) (C := RX10) (T := TX10) (N := 13) hx hb hts iX10_count_X10 hown hK.1 hP 0 rfl rfl 0 (by decide) (kX10_count_1 hts) (fun _ h9 => h9) rfl dX10_count_170 ?_
    refine va_get (D := (dC, dI)) (ci := 9) (v := .int 0) (C := RX9) (T := TX9) (N := 10) hx hb hts iX10_count_X9 hown hK.1 hP 1 rfl rfl 9 (by decide) (kX10_count_12 hts) (fun _ h9 => h9) rfl dX10_count_173 ?_
    have hP9 := hP.sub (ws' := []) [] rfl
    have hD9 := hD.sub (ws' := []) [] (by decide) rfl
    refine W.widen (k := 0) (n := 0) (Nat.le_of_ble_eq_true rfl) (Nat.le_of_ble_eq_true rfl) ?_
    exact W.iret (v := 0) hx hb hr (fun t ht hW => ⟨⟨0, (), rfl, (by rw [hs]; decide), by rw [ht]; exact hP9, hD9⟩, hS.F ht⟩) hS.2.2 dX10_count_176
  · refine lv_tableIn (off := 176) (tgt := 177) hx hb dX10_count_1 (by rw [hs]; decide) (by rw [hs]; decide) (by rw [hs]; decide) (by decide) ?_
    have hl : lv_has ls 2 [(0, .ref x0), (1, .int 10)] := by rw [hs] at hl; exact hl
    refine lv_aload_n hx hb dX10_count_177 rfl (lv_at hl 0 rfl) ?_
    refine va_get (D := (dC, dI)) (ci := 10) (v := .int 0) (C := RX10) (T := TX10) (N := 13) hx hb hts iX10_count_X10 hown hK.1 hP 0 rfl rfl 4 (by decide) (kX10_count_13 hts) (fun _ h9 => h9) rfl dX10_count_178 ?_
    have hP9 := hP.sub (ws' := []) [] rfl
    have hD9 := hD.sub (ws' := []) [] (by decide) rfl
    refine W.widen (k := 0) (n := 0) (Nat.le_of_ble_eq_true rfl) (Nat.le_of_ble_eq_true rfl) ?_
    exact W.iret (v := 0) hx hb hr (fun t ht hW => ⟨⟨0, (), rfl, (by rw [hs]; decide), by rw [ht]; exact hP9, hD9⟩, hS.F ht⟩) hS.2.2 dX10_count_181
set_option maxHeartbeats 4000000 in
set_option maxRecDepth 100000 in
theorem mX10_image (l : Launch) (dC : Nat → ClassId) (dI : Nat → Nat → Nat) (kA : Nat → ClassId) (sz : Nat) (x0 : Nat) (xw : Nat) (xl : Nat) (xi : Nat) (xt : Nat) (xq : Nat) (xr : Nat) (xh : Nat) (xp : Nat) (xs_ : Nat) (xa : Nat) (xm : Nat) (tnodes : Nat) (tnodesA : Nat) (tpasses : Nat) (tpassesA : Nat) (tjars : Nat) (tjarsA : Nat) (torders : Nat) (tordersA : Nat) (tfeasts : Nat) (tfeastsA : Nat) (tway : Nat) (twayA : Nat) (p1 : Int32)  : Met l yX10_image wsX10_image ({ frames := 3, cells := 13, slots := 374, locals := 102 }) (zPc dC dI kA sz [.ref x0, .int p1] [(x0, .inr (10, [.ref xw, .ref xl, .ref xi, .ref xt, .int 0, .ref xq, .int 0, .ref xr, .ref xh, .ref xp, .ref xs_, .ref xa, .ref xm])), (xw, .inr (9, [.ref tnodes, .ref tpasses, .ref tjars, .ref torders, .ref tfeasts, .ref tway, .int (-1), .int 0, .int 0, .int 0])), (tnodes, .inr (6, [.int 4, .ref tnodesA, .int 0])), (tnodesA, .inl (kA 0, 48, .inl (fun _ => 0))), (tpasses, .inr (6, [.int 5, .ref tpassesA, .int 0])), (tpassesA, .inl (kA 0, 100, .inl (fun _ => 0))), (tjars, .inr (6, [.int 9, .ref tjarsA, .int 0])), (tjarsA, .inl (kA 0, 144, .inl (fun _ => 0))), (torders, .inr (6, [.int 4, .ref tordersA, .int 0])), (tordersA, .inl (kA 0, 24, .inl (fun _ => 0))), (tfeasts, .inr (6, [.int 3, .ref tfeastsA, .int 0])), (tfeastsA, .inl (kA 0, 24, .inl (fun _ => 0))), (tway, .inr (6, [.int 1, .ref twayA, .int 0])), (twayA, .inl (kA 0, 6, .inl (fun _ => 0))), (xi, .inl (kA 4, 4, .inr (.inr (.inr (.inr (fun _ => none))))))]) (va_Qi (fun (r : Int32) (u : Unit) => r = (sp_im p1)) (zB dC dI (va_A [(x0, .inr (10, [.ref xw, .ref xl, .ref xi, .ref xt, .int 0, .ref xq, .int 0, .ref xr, .ref xh, .ref xp, .ref xs_, .ref xa, .ref xm])), (xw, .inr (9, [.ref tnodes, .ref tpasses, .ref tjars, .ref torders, .ref tfeasts, .ref tway, .int (-1), .int 0, .int 0, .int 0])), (tnodes, .inr (6, [.int 4, .ref tnodesA, .int 0])), (tnodesA, .inl (kA 0, 48, .inl (fun _ => 0))), (tpasses, .inr (6, [.int 5, .ref tpassesA, .int 0])), (tpassesA, .inl (kA 0, 100, .inl (fun _ => 0))), (tjars, .inr (6, [.int 9, .ref tjarsA, .int 0])), (tjarsA, .inl (kA 0, 144, .inl (fun _ => 0))), (torders, .inr (6, [.int 4, .ref tordersA, .int 0])), (tordersA, .inl (kA 0, 24, .inl (fun _ => 0))), (tfeasts, .inr (6, [.int 3, .ref tfeastsA, .int 0])), (tfeastsA, .inl (kA 0, 24, .inl (fun _ => 0))), (tway, .inr (6, [.int 1, .ref twayA, .int 0])), (twayA, .inl (kA 0, 6, .inl (fun _ => 0))), (xi, .inl (kA 4, 4, .inr (.inr (.inr (.inr (fun _ => none))))))] sz) (fun (u : Unit) => [])) (va_A [(x0, .inr (10, [.ref xw, .ref xl, .ref xi, .ref xt, .int 0, .ref xq, .int 0, .ref xr, .ref xh, .ref xp, .ref xs_, .ref xa, .ref xm])), (xw, .inr (9, [.ref tnodes, .ref tpasses, .ref tjars, .ref torders, .ref tfeasts, .ref tway, .int (-1), .int 0, .int 0, .int 0])), (tnodes, .inr (6, [.int 4, .ref tnodesA, .int 0])), (tnodesA, .inl (kA 0, 48, .inl (fun _ => 0))), (tpasses, .inr (6, [.int 5, .ref tpassesA, .int 0])), (tpassesA, .inl (kA 0, 100, .inl (fun _ => 0))), (tjars, .inr (6, [.int 9, .ref tjarsA, .int 0])), (tjarsA, .inl (kA 0, 144, .inl (fun _ => 0))), (torders, .inr (6, [.int 4, .ref tordersA, .int 0])), (tordersA, .inl (kA 0, 24, .inl (fun _ => 0))), (tfeasts, .inr (6, [.int 3, .ref tfeastsA, .int 0])), (tfeastsA, .inl (kA 0, 24, .inl (fun _ => 0))), (tway, .inr (6, [.int 1, .ref twayA, .int 0])), (twayA, .inl (kA 0, 6, .inl (fun _ => 0))), (xi, .inl (kA 4, 4, .inr (.inr (.inr (.inr (fun _ => none))))))] sz)) 13 374 (va_A [(x0, .inr (10, [.ref xw, .ref xl, .ref xi, .ref xt, .int 0, .ref xq, .int 0, .ref xr, .ref xh, .ref xp, .ref xs_, .ref xa, .ref xm])), (xw, .inr (9, [.ref tnodes, .ref tpasses, .ref tjars, .ref torders, .ref tfeasts, .ref tway, .int (-1), .int 0, .int 0, .int 0])), (tnodes, .inr (6, [.int 4, .ref tnodesA, .int 0])), (tnodesA, .inl (kA 0, 48, .inl (fun _ => 0))), (tpasses, .inr (6, [.int 5, .ref tpassesA, .int 0])), (tpassesA, .inl (kA 0, 100, .inl (fun _ => 0))), (tjars, .inr (6, [.int 9, .ref tjarsA, .int 0])), (tjarsA, .inl (kA 0, 144, .inl (fun _ => 0))), (torders, .inr (6, [.int 4, .ref tordersA, .int 0])), (tordersA, .inl (kA 0, 24, .inl (fun _ => 0))), (tfeasts, .inr (6, [.int 3, .ref tfeastsA, .int 0])), (tfeastsA, .inl (kA 0, 24, .inl (fun _ => 0))), (tway, .inr (6, [.int 1, .ref twayA, .int 0])), (twayA, .inl (kA 0, 6, .inl (fun _ => 0))), (xi, .inl (kA 4, 4, .inr (.inr (.inr (.inr (fun _ => none))))))] sz) := by
  refine Met.ofW (cc := cX10_image) (maxL := 2) (ret := (some .int)) (by decide) rfl ?_
  intro p e s m args below meth c s₁ B hml hv
  obtain ⟨rfl, hsz, hP, hK, hD0⟩ := hv
  have hx := B.exec
  have hb := B.bytes
  have hr := B.returns
  have hts := atoms_spec (ws := wsX10_image) B.pre
  have hown : s.vm.findClass RX10 = some m.cls := findClass_of_methodNamed B.named
  have hlocks := B.notSynchronized
  subst hsz
  have hD := hD0.self (sz := s.heap.size)
  generalize hAe : va_A [(x0, .inr (10, [.ref xw, .ref xl, .ref xi, .ref xt, .int 0, .ref xq, .int 0, .ref xr, .ref xh, .ref xp, .ref xs_, .ref xa, .ref xm])), (xw, .inr (9, [.ref tnodes, .ref tpasses, .ref tjars, .ref torders, .ref tfeasts, .ref tway, .int (-1), .int 0, .int 0, .int 0])), (tnodes, .inr (6, [.int 4, .ref tnodesA, .int 0])), (tnodesA, .inl (kA 0, 48, .inl (fun _ => 0))), (tpasses, .inr (6, [.int 5, .ref tpassesA, .int 0])), (tpassesA, .inl (kA 0, 100, .inl (fun _ => 0))), (tjars, .inr (6, [.int 9, .ref tjarsA, .int 0])), (tjarsA, .inl (kA 0, 144, .inl (fun _ => 0))), (torders, .inr (6, [.int 4, .ref tordersA, .int 0])), (tordersA, .inl (kA 0, 24, .inl (fun _ => 0))), (tfeasts, .inr (6, [.int 3, .ref tfeastsA, .int 0])), (tfeastsA, .inl (kA 0, 24, .inl (fun _ => 0))), (tway, .inr (6, [.int 1, .ref twayA, .int 0])), (twayA, .inl (kA 0, 6, .inl (fun _ => 0))), (xi, .inl (kA 4, 4, .inr (.inr (.inr (.inr (fun _ => none))))))] s.heap.size = A at hD ⊢
  have hA : ∀ q : Nat, s.heap.size ≤ q → A q := fun q h => by rw [← hAe]; exact Or.inr h
  have hS : va_S A s.heap s.heap [] := va_S.rf
  have hP : va_P (dC, dI) vwCl [(x0, .inr (10, [.ref xw, .ref xl, .ref xi, .ref xt, .int 0, .ref xq, .int 0, .ref xr, .ref xh, .ref xp, .ref xs_, .ref xa, .ref xm])), (xw, .inr (9, [.ref tnodes, .ref tpasses, .ref tjars, .ref torders, .ref tfeasts, .ref tway, .int (-1), .int 0, .int 0, .int 0])), (tnodes, .inr (6, [.int 4, .ref tnodesA, .int 0])), (tnodesA, .inl (kA 0, 48, .inl (fun _ => 0))), (tpasses, .inr (6, [.int 5, .ref tpassesA, .int 0])), (tpassesA, .inl (kA 0, 100, .inl (fun _ => 0))), (tjars, .inr (6, [.int 9, .ref tjarsA, .int 0])), (tjarsA, .inl (kA 0, 144, .inl (fun _ => 0))), (torders, .inr (6, [.int 4, .ref tordersA, .int 0])), (tordersA, .inl (kA 0, 24, .inl (fun _ => 0))), (tfeasts, .inr (6, [.int 3, .ref tfeastsA, .int 0])), (tfeastsA, .inl (kA 0, 24, .inl (fun _ => 0))), (tway, .inr (6, [.int 1, .ref twayA, .int 0])), (twayA, .inl (kA 0, 6, .inl (fun _ => 0))), (xi, .inl (kA 4, 4, .inr (.inr (.inr (.inr (fun _ => none))))))] s.heap := hP
  have hl := lv_entry ([.ref x0, .int p1]) (n := 2) (Nat.le_of_ble_eq_true rfl)
  rw [lg_entry_eq]
  generalize (lg_sl ([.ref x0, .int p1]) ++ List.replicate (2 - (lg_sl ([.ref x0, .int p1])).length) Slot.unset).toArray = ls at hl ⊢
  have hl : lv_has ls 2 [(0, .ref x0), (1, .int p1)] := hl
  refine lv_iload_n hx hb dX10_image_0 rfl (lv_at hl 1 rfl) ?_
  refine lv_iconst (v := 3) hx hb dX10_image_1 (by decide) ?_
  refine z_i (wr := [(x0, .inr (10, [.ref xw, .ref xl, .ref xi, .ref xt, .int 0, .ref xq, .int 0, .ref xr, .ref xh, .ref xp, .ref xs_, .ref xa, .ref xm])), (xw, .inr (9, [.ref tnodes, .ref tpasses, .ref tjars, .ref torders, .ref tfeasts, .ref tway, .int (-1), .int 0, .int 0, .int 0])), (tnodes, .inr (6, [.int 4, .ref tnodesA, .int 0])), (tnodesA, .inl (kA 0, 48, .inl (fun _ => 0))), (tpasses, .inr (6, [.int 5, .ref tpassesA, .int 0])), (tpassesA, .inl (kA 0, 100, .inl (fun _ => 0))), (tjars, .inr (6, [.int 9, .ref tjarsA, .int 0])), (tjarsA, .inl (kA 0, 144, .inl (fun _ => 0))), (torders, .inr (6, [.int 4, .ref tordersA, .int 0])), (tordersA, .inl (kA 0, 24, .inl (fun _ => 0))), (tfeasts, .inr (6, [.int 3, .ref tfeastsA, .int 0])), (tfeastsA, .inl (kA 0, 24, .inl (fun _ => 0))), (tway, .inr (6, [.int 1, .ref twayA, .int 0])), (twayA, .inl (kA 0, 6, .inl (fun _ => 0))), (xi, .inl (kA 4, 4, .inr (.inr (.inr (.inr (fun _ => none))))))]) (va_runS (As := [.int p1, .int 3]) (rest := []) ⟨hx, hb, hml, hown, hts⟩ (mX10_within l dC dI kA _ p1 3) (va_cwS 2 hts gX10_image_X10_within rfl rfl rfl (by decide +kernel) ⟨(Nat.le_of_ble_eq_true rfl), (Nat.le_of_ble_eq_true rfl)⟩) ⟨zPc.blind, zPre hK (hP.sub [] rfl) (hD.sub [] (by decide) rfl)⟩ rfl rfl hl.1 rfl (lv_room (Nat.le_of_ble_eq_true rfl)) dX10_image_2 ⟨(Nat.le_of_ble_eq_true rfl), (Nat.le_of_ble_eq_true rfl)⟩) hP hD hS hA [] [0, 1, 2, 3, 4, 5, 6, 7, 8, 9, 10, 11, 12, 13, 14] rfl rfl (by decide) (by decide) (fun r3 u1 H locs hw2 hP hD hS => ?_)
  obtain rfl := hw2
  have hP : va_P (dC, dI) vwCl [(x0, .inr (10, [.ref xw, .ref xl, .ref xi, .ref xt, .int 0, .ref xq, .int 0, .ref xr, .ref xh, .ref xp, .ref xs_, .ref xa, .ref xm])), (xw, .inr (9, [.ref tnodes, .ref tpasses, .ref tjars, .ref torders, .ref tfeasts, .ref tway, .int (-1), .int 0, .int 0, .int 0])), (tnodes, .inr (6, [.int 4, .ref tnodesA, .int 0])), (tnodesA, .inl (kA 0, 48, .inl (fun _ => 0))), (tpasses, .inr (6, [.int 5, .ref tpassesA, .int 0])), (tpassesA, .inl (kA 0, 100, .inl (fun _ => 0))), (tjars, .inr (6, [.int 9, .ref tjarsA, .int 0])), (tjarsA, .inl (kA 0, 144, .inl (fun _ => 0))), (torders, .inr (6, [.int 4, .ref tordersA, .int 0])), (tordersA, .inl (kA 0, 24, .inl (fun _ => 0))), (tfeasts, .inr (6, [.int 3, .ref tfeastsA, .int 0])), (tfeastsA, .inl (kA 0, 24, .inl (fun _ => 0))), (tway, .inr (6, [.int 1, .ref twayA, .int 0])), (twayA, .inl (kA 0, 6, .inl (fun _ => 0))), (xi, .inl (kA 4, 4, .inr (.inr (.inr (.inr (fun _ => none))))))] H := hP
  have hD : va_D A [(x0, .inr (10, [.ref xw, .ref xl, .ref xi, .ref xt, .int 0, .ref xq, .int 0, .ref xr, .ref xh, .ref xp, .ref xs_, .ref xa, .ref xm])), (xw, .inr (9, [.ref tnodes, .ref tpasses, .ref tjars, .ref torders, .ref tfeasts, .ref tway, .int (-1), .int 0, .int 0, .int 0])), (tnodes, .inr (6, [.int 4, .ref tnodesA, .int 0])), (tnodesA, .inl (kA 0, 48, .inl (fun _ => 0))), (tpasses, .inr (6, [.int 5, .ref tpassesA, .int 0])), (tpassesA, .inl (kA 0, 100, .inl (fun _ => 0))), (tjars, .inr (6, [.int 9, .ref tjarsA, .int 0])), (tjarsA, .inl (kA 0, 144, .inl (fun _ => 0))), (torders, .inr (6, [.int 4, .ref tordersA, .int 0])), (tordersA, .inl (kA 0, 24, .inl (fun _ => 0))), (tfeasts, .inr (6, [.int 3, .ref tfeastsA, .int 0])), (tfeastsA, .inl (kA 0, 24, .inl (fun _ => 0))), (tway, .inr (6, [.int 1, .ref twayA, .int 0])), (twayA, .inl (kA 0, 6, .inl (fun _ => 0))), (xi, .inl (kA 4, 4, .inr (.inr (.inr (.inr (fun _ => none))))))] := hD
  refine lv_if_ne (tgt := 10) hx hb dX10_image_5 (by decide) (fun c_4 => ?_) (fun c_4 => ?_)
  · refine lv_aload_n hx hb dX10_image_10 rfl (lv_at hl 0 rfl) ?_
    refine va_get (D := (dC, dI)) (ci := 10) (v := .ref xi) (C := RX10) (T := TX10) (N := 13) hx hb hts iX10_image_X10 hown hK.1 hP 0 rfl rfl 2 (by decide) (kX10_image_1 hts) (fun _ h9 => h9) rfl dX10_image_11 ?_
    refine lv_iload_n hx hb dX10_image_14 rfl (lv_at hl 1 rfl) ?_
    refine va_aldq hx hb hK.1 hP 14 4 rfl rfl (wi_in c_4) dX10_image_15 ?_
    refine zv .null rfl ?_
    refine lv_ifnonnullN hx hb dX10_image_16 ?_
    refine lv_aload_n hx hb dX10_image_19 rfl (lv_at hl 0 rfl) ?_
    refine va_get (D := (dC, dI)) (ci := 10) (v := .ref xi) (C := RX10) (T := TX10) (N := 13) hx hb hts iX10_image_X10 hown hK.1 hP 0 rfl rfl 2 (by decide) (kX10_image_1 hts) (fun _ h9 => h9) rfl dX10_image_20 ?_
    refine lv_iload_n hx hb dX10_image_23 rfl (lv_at hl 1 rfl) ?_
    refine va_new (ci := 9) (fs := [.null, .null, .null, .null, .null, .null, .int 0, .int 0, .int 0, .int 0]) (C := RX9) (T := TX9) (N := 10) hx hb hts iX10_image_X9 tyX9 tyX9_ok hown (kX10_image_2 hts) (kX10_image_3 hts) (kX10_image_4 hts) hK.1 hP hD hS hA rfl fsX9 (Nat.le_of_ble_eq_true rfl) (Nat.le_of_ble_eq_true rfl) dX10_image_24 (fun q5 H hP hD hS => ?_)
    refine W.widen (k := 1) (n := 10) (Nat.le_of_ble_eq_true rfl) (Nat.le_of_ble_eq_true rfl) ?_
    have hP : va_P (dC, dI) vwCl [(x0, .inr (10, [.ref xw, .ref xl, .ref xi, .ref xt, .int 0, .ref xq, .int 0, .ref xr, .ref xh, .ref xp, .ref xs_, .ref xa, .ref xm])), (xw, .inr (9, [.ref tnodes, .ref tpasses, .ref tjars, .ref torders, .ref tfeasts, .ref tway, .int (-1), .int 0, .int 0, .int 0])), (tnodes, .inr (6, [.int 4, .ref tnodesA, .int 0])), (tnodesA, .inl (kA 0, 48, .inl (fun _ => 0))), (tpasses, .inr (6, [.int 5, .ref tpassesA, .int 0])), (tpassesA, .inl (kA 0, 100, .inl (fun _ => 0))), (tjars, .inr (6, [.int 9, .ref tjarsA, .int 0])), (tjarsA, .inl (kA 0, 144, .inl (fun _ => 0))), (torders, .inr (6, [.int 4, .ref tordersA, .int 0])), (tordersA, .inl (kA 0, 24, .inl (fun _ => 0))), (tfeasts, .inr (6, [.int 3, .ref tfeastsA, .int 0])), (tfeastsA, .inl (kA 0, 24, .inl (fun _ => 0))), (tway, .inr (6, [.int 1, .ref twayA, .int 0])), (twayA, .inl (kA 0, 6, .inl (fun _ => 0))), (xi, .inl (kA 4, 4, .inr (.inr (.inr (.inr (fun _ => none)))))), (q5, .inr (9, [.null, .null, .null, .null, .null, .null, .int 0, .int 0, .int 0, .int 0]))] H := hP
    have hD : va_D A [(x0, .inr (10, [.ref xw, .ref xl, .ref xi, .ref xt, .int 0, .ref xq, .int 0, .ref xr, .ref xh, .ref xp, .ref xs_, .ref xa, .ref xm])), (xw, .inr (9, [.ref tnodes, .ref tpasses, .ref tjars, .ref torders, .ref tfeasts, .ref tway, .int (-1), .int 0, .int 0, .int 0])), (tnodes, .inr (6, [.int 4, .ref tnodesA, .int 0])), (tnodesA, .inl (kA 0, 48, .inl (fun _ => 0))), (tpasses, .inr (6, [.int 5, .ref tpassesA, .int 0])), (tpassesA, .inl (kA 0, 100, .inl (fun _ => 0))), (tjars, .inr (6, [.int 9, .ref tjarsA, .int 0])), (tjarsA, .inl (kA 0, 144, .inl (fun _ => 0))), (torders, .inr (6, [.int 4, .ref tordersA, .int 0])), (tordersA, .inl (kA 0, 24, .inl (fun _ => 0))), (tfeasts, .inr (6, [.int 3, .ref tfeastsA, .int 0])), (tfeastsA, .inl (kA 0, 24, .inl (fun _ => 0))), (tway, .inr (6, [.int 1, .ref twayA, .int 0])), (twayA, .inl (kA 0, 6, .inl (fun _ => 0))), (xi, .inl (kA 4, 4, .inr (.inr (.inr (.inr (fun _ => none)))))), (q5, .inr (9, [.null, .null, .null, .null, .null, .null, .int 0, .int 0, .int 0, .int 0]))] := hD
    refine lv_dup hx hb dX10_image_27 rfl ?_
    refine z_v (wr := [(x0, .inr (10, [.ref xw, .ref xl, .ref xi, .ref xt, .int 0, .ref xq, .int 0, .ref xr, .ref xh, .ref xp, .ref xs_, .ref xa, .ref xm])), (xw, .inr (9, [.ref tnodes, .ref tpasses, .ref tjars, .ref torders, .ref tfeasts, .ref tway, .int (-1), .int 0, .int 0, .int 0])), (tnodes, .inr (6, [.int 4, .ref tnodesA, .int 0])), (tnodesA, .inl (kA 0, 48, .inl (fun _ => 0))), (tpasses, .inr (6, [.int 5, .ref tpassesA, .int 0])), (tpassesA, .inl (kA 0, 100, .inl (fun _ => 0))), (tjars, .inr (6, [.int 9, .ref tjarsA, .int 0])), (tjarsA, .inl (kA 0, 144, .inl (fun _ => 0))), (torders, .inr (6, [.int 4, .ref tordersA, .int 0])), (tordersA, .inl (kA 0, 24, .inl (fun _ => 0))), (tfeasts, .inr (6, [.int 3, .ref tfeastsA, .int 0])), (tfeastsA, .inl (kA 0, 24, .inl (fun _ => 0))), (tway, .inr (6, [.int 1, .ref twayA, .int 0])), (twayA, .inl (kA 0, 6, .inl (fun _ => 0))), (xi, .inl (kA 4, 4, .inr (.inr (.inr (.inr (fun _ => none))))))]) (va_runIN (As := []) (rest := [.ref q5, .int p1, .ref xi]) ⟨hx, hb, hml, hown, hts⟩ (mX9_init l dC dI kA _ q5) ⟨va_cnB 0 hts gX10_image_X9_init_n9 rfl rfl rfl hK.2.1.1 (kX10_image_4 hts) (by decide +kernel) ⟨(Nat.le_of_ble_eq_true rfl), (Nat.le_of_ble_eq_true rfl)⟩, rfl, (kX10_image_11 hts)⟩ ⟨zPc.blind, zPre hK (hP.sub [15] rfl) (hD.sub [15] (by decide) rfl)⟩ rfl rfl hl.1 rfl (lv_room (Nat.le_of_ble_eq_true rfl)) dX10_image_28 ⟨(Nat.le_of_ble_eq_true rfl), (Nat.le_of_ble_eq_true rfl)⟩) hP hD hS hA [15] [0, 1, 2, 3, 4, 5, 6, 7, 8, 9, 10, 11, 12, 13, 14] rfl rfl (by decide) (by decide) (fun u6 H locs hw7 hP hD hS => ?_)
    obtain ⟨tnodes_9, tnodesA_10, tpasses_11, tpassesA_12, tjars_13, tjarsA_14, torders_15, tordersA_16, tfeasts_17, tfeastsA_18, tway_19, twayA_20⟩ := u6
    refine W.widen (k := 13) (n := 374) (Nat.le_of_ble_eq_true rfl) (Nat.le_of_ble_eq_true rfl) ?_
    have hP : va_P (dC, dI) vwCl [(x0, .inr (10, [.ref xw, .ref xl, .ref xi, .ref xt, .int 0, .ref xq, .int 0, .ref xr, .ref xh, .ref xp, .ref xs_, .ref xa, .ref xm])), (xw, .inr (9, [.ref tnodes, .ref tpasses, .ref tjars, .ref torders, .ref tfeasts, .ref tway, .int (-1), .int 0, .int 0, .int 0])), (tnodes, .inr (6, [.int 4, .ref tnodesA, .int 0])), (tnodesA, .inl (kA 0, 48, .inl (fun _ => 0))), (tpasses, .inr (6, [.int 5, .ref tpassesA, .int 0])), (tpassesA, .inl (kA 0, 100, .inl (fun _ => 0))), (tjars, .inr (6, [.int 9, .ref tjarsA, .int 0])), (tjarsA, .inl (kA 0, 144, .inl (fun _ => 0))), (torders, .inr (6, [.int 4, .ref tordersA, .int 0])), (tordersA, .inl (kA 0, 24, .inl (fun _ => 0))), (tfeasts, .inr (6, [.int 3, .ref tfeastsA, .int 0])), (tfeastsA, .inl (kA 0, 24, .inl (fun _ => 0))), (tway, .inr (6, [.int 1, .ref twayA, .int 0])), (twayA, .inl (kA 0, 6, .inl (fun _ => 0))), (xi, .inl (kA 4, 4, .inr (.inr (.inr (.inr (fun _ => none)))))), (q5, .inr (9, [.ref tnodes_9, .ref tpasses_11, .ref tjars_13, .ref torders_15, .ref tfeasts_17, .ref tway_19, .int (-1), .int 0, .int 0, .int 0])), (tnodes_9, .inr (6, [.int 4, .ref tnodesA_10, .int 0])), (tnodesA_10, .inl (kA 0, 48, .inl (fun _ => 0))), (tpasses_11, .inr (6, [.int 5, .ref tpassesA_12, .int 0])), (tpassesA_12, .inl (kA 0, 100, .inl (fun _ => 0))), (tjars_13, .inr (6, [.int 9, .ref tjarsA_14, .int 0])), (tjarsA_14, .inl (kA 0, 144, .inl (fun _ => 0))), (torders_15, .inr (6, [.int 4, .ref tordersA_16, .int 0])), (tordersA_16, .inl (kA 0, 24, .inl (fun _ => 0))), (tfeasts_17, .inr (6, [.int 3, .ref tfeastsA_18, .int 0])), (tfeastsA_18, .inl (kA 0, 24, .inl (fun _ => 0))), (tway_19, .inr (6, [.int 1, .ref twayA_20, .int 0])), (twayA_20, .inl (kA 0, 6, .inl (fun _ => 0)))] H := hP
    have hD : va_D A [(x0, .inr (10, [.ref xw, .ref xl, .ref xi, .ref xt, .int 0, .ref xq, .int 0, .ref xr, .ref xh, .ref xp, .ref xs_, .ref xa, .ref xm])), (xw, .inr (9, [.ref tnodes, .ref tpasses, .ref tjars, .ref torders, .ref tfeasts, .ref tway, .int (-1), .int 0, .int 0, .int 0])), (tnodes, .inr (6, [.int 4, .ref tnodesA, .int 0])), (tnodesA, .inl (kA 0, 48, .inl (fun _ => 0))), (tpasses, .inr (6, [.int 5, .ref tpassesA, .int 0])), (tpassesA, .inl (kA 0, 100, .inl (fun _ => 0))), (tjars, .inr (6, [.int 9, .ref tjarsA, .int 0])), (tjarsA, .inl (kA 0, 144, .inl (fun _ => 0))), (torders, .inr (6, [.int 4, .ref tordersA, .int 0])), (tordersA, .inl (kA 0, 24, .inl (fun _ => 0))), (tfeasts, .inr (6, [.int 3, .ref tfeastsA, .int 0])), (tfeastsA, .inl (kA 0, 24, .inl (fun _ => 0))), (tway, .inr (6, [.int 1, .ref twayA, .int 0])), (twayA, .inl (kA 0, 6, .inl (fun _ => 0))), (xi, .inl (kA 4, 4, .inr (.inr (.inr (.inr (fun _ => none)))))), (q5, .inr (9, [.ref tnodes_9, .ref tpasses_11, .ref tjars_13, .ref torders_15, .ref tfeasts_17, .ref tway_19, .int (-1), .int 0, .int 0, .int 0])), (tnodes_9, .inr (6, [.int 4, .ref tnodesA_10, .int 0])), (tnodesA_10, .inl (kA 0, 48, .inl (fun _ => 0))), (tpasses_11, .inr (6, [.int 5, .ref tpassesA_12, .int 0])), (tpassesA_12, .inl (kA 0, 100, .inl (fun _ => 0))), (tjars_13, .inr (6, [.int 9, .ref tjarsA_14, .int 0])), (tjarsA_14, .inl (kA 0, 144, .inl (fun _ => 0))), (torders_15, .inr (6, [.int 4, .ref tordersA_16, .int 0])), (tordersA_16, .inl (kA 0, 24, .inl (fun _ => 0))), (tfeasts_17, .inr (6, [.int 3, .ref tfeastsA_18, .int 0])), (tfeastsA_18, .inl (kA 0, 24, .inl (fun _ => 0))), (tway_19, .inr (6, [.int 1, .ref twayA_20, .int 0])), (twayA_20, .inl (kA 0, 6, .inl (fun _ => 0)))] := hD
    refine va_astq hx hb hK.1 hP hD hS 14 4 15 9 rfl rfl rfl rfl (wi_in c_4) dX10_image_31 (fun H locs hP hD hS => ?_)
    have hP : va_P (dC, dI) vwCl [(x0, .inr (10, [.ref xw, .ref xl, .ref xi, .ref xt, .int 0, .ref xq, .int 0, .ref xr, .ref xh, .ref xp, .ref xs_, .ref xa, .ref xm])), (xw, .inr (9, [.ref tnodes, .ref tpasses, .ref tjars, .ref torders, .ref tfeasts, .ref tway, .int (-1), .int 0, .int 0, .int 0])), (tnodes, .inr (6, [.int 4, .ref tnodesA, .int 0])), (tnodesA, .inl (kA 0, 48, .inl (fun _ => 0))), (tpasses, .inr (6, [.int 5, .ref tpassesA, .int 0])), (tpassesA, .inl (kA 0, 100, .inl (fun _ => 0))), (tjars, .inr (6, [.int 9, .ref tjarsA, .int 0])), (tjarsA, .inl (kA 0, 144, .inl (fun _ => 0))), (torders, .inr (6, [.int 4, .ref tordersA, .int 0])), (tordersA, .inl (kA 0, 24, .inl (fun _ => 0))), (tfeasts, .inr (6, [.int 3, .ref tfeastsA, .int 0])), (tfeastsA, .inl (kA 0, 24, .inl (fun _ => 0))), (tway, .inr (6, [.int 1, .ref twayA, .int 0])), (twayA, .inl (kA 0, 6, .inl (fun _ => 0))), (xi, .inl (kA 4, 4, .inr (.inr (.inr (.inr (va_up (fun _ => none) p1.toNatClampNeg (some q5))))))), (q5, .inr (9, [.ref tnodes_9, .ref tpasses_11, .ref tjars_13, .ref torders_15, .ref tfeasts_17, .ref tway_19, .int (-1), .int 0, .int 0, .int 0])), (tnodes_9, .inr (6, [.int 4, .ref tnodesA_10, .int 0])), (tnodesA_10, .inl (kA 0, 48, .inl (fun _ => 0))), (tpasses_11, .inr (6, [.int 5, .ref tpassesA_12, .int 0])), (tpassesA_12, .inl (kA 0, 100, .inl (fun _ => 0))), (tjars_13, .inr (6, [.int 9, .ref tjarsA_14, .int 0])), (tjarsA_14, .inl (kA 0, 144, .inl (fun _ => 0))), (torders_15, .inr (6, [.int 4, .ref tordersA_16, .int 0])), (tordersA_16, .inl (kA 0, 24, .inl (fun _ => 0))), (tfeasts_17, .inr (6, [.int 3, .ref tfeastsA_18, .int 0])), (tfeastsA_18, .inl (kA 0, 24, .inl (fun _ => 0))), (tway_19, .inr (6, [.int 1, .ref twayA_20, .int 0])), (twayA_20, .inl (kA 0, 6, .inl (fun _ => 0)))] H := hP
    have hD : va_D A [(x0, .inr (10, [.ref xw, .ref xl, .ref xi, .ref xt, .int 0, .ref xq, .int 0, .ref xr, .ref xh, .ref xp, .ref xs_, .ref xa, .ref xm])), (xw, .inr (9, [.ref tnodes, .ref tpasses, .ref tjars, .ref torders, .ref tfeasts, .ref tway, .int (-1), .int 0, .int 0, .int 0])), (tnodes, .inr (6, [.int 4, .ref tnodesA, .int 0])), (tnodesA, .inl (kA 0, 48, .inl (fun _ => 0))), (tpasses, .inr (6, [.int 5, .ref tpassesA, .int 0])), (tpassesA, .inl (kA 0, 100, .inl (fun _ => 0))), (tjars, .inr (6, [.int 9, .ref tjarsA, .int 0])), (tjarsA, .inl (kA 0, 144, .inl (fun _ => 0))), (torders, .inr (6, [.int 4, .ref tordersA, .int 0])), (tordersA, .inl (kA 0, 24, .inl (fun _ => 0))), (tfeasts, .inr (6, [.int 3, .ref tfeastsA, .int 0])), (tfeastsA, .inl (kA 0, 24, .inl (fun _ => 0))), (tway, .inr (6, [.int 1, .ref twayA, .int 0])), (twayA, .inl (kA 0, 6, .inl (fun _ => 0))), (xi, .inl (kA 4, 4, .inr (.inr (.inr (.inr (va_up (fun _ => none) p1.toNatClampNeg (some q5))))))), (q5, .inr (9, [.ref tnodes_9, .ref tpasses_11, .ref tjars_13, .ref torders_15, .ref tfeasts_17, .ref tway_19, .int (-1), .int 0, .int 0, .int 0])), (tnodes_9, .inr (6, [.int 4, .ref tnodesA_10, .int 0])), (tnodesA_10, .inl (kA 0, 48, .inl (fun _ => 0))), (tpasses_11, .inr (6, [.int 5, .ref tpassesA_12, .int 0])), (tpassesA_12, .inl (kA 0, 100, .inl (fun _ => 0))), (tjars_13, .inr (6, [.int 9, .ref tjarsA_14, .int 0])), (tjarsA_14, .inl (kA 0, 144, .inl (fun _ => 0))), (torders_15, .inr (6, [.int 4, .ref tordersA_16, .int 0])), (tordersA_16, .inl (kA 0, 24, .inl (fun _ => 0))), (tfeasts_17, .inr (6, [.int 3, .ref tfeastsA_18, .int 0])), (tfeastsA_18, .inl (kA 0, 24, .inl (fun _ => 0))), (tway_19, .inr (6, [.int 1, .ref twayA_20, .int 0])), (twayA_20, .inl (kA 0, 6, .inl (fun _ => 0)))] := hD
    obtain ⟨f21, ef21⟩ : ∃ y : Nat → Option Nat, y = (va_up (fun _ => none) p1.toNatClampNeg (some q5)) := ⟨_, rfl⟩
    rw [← ef21] at hP hD
    refine lv_aload_n hx hb dX10_image_32 rfl (lv_at hl 0 rfl) ?_
    refine va_get (D := (dC, dI)) (ci := 10) (v := .ref xi) (C := RX10) (T := TX10) (N := 13) hx hb hts iX10_image_X10 hown hK.1 hP 0 rfl rfl 2 (by decide) (kX10_image_1 hts) (fun _ h9 => h9) rfl dX10_image_33 ?_
    refine lv_iload_n hx hb dX10_image_36 rfl (lv_at hl 1 rfl) ?_
    refine va_aldq hx hb hK.1 hP 14 4 rfl rfl (wi_in c_4) dX10_image_37 ?_
    refine zv (.ref q5) (by rw [ef21]; simp [va_up, va_rf]) ?_
    refine lv_aload_n hx hb dX10_image_38 rfl (lv_at hl 0 rfl) ?_
    refine va_get (D := (dC, dI)) (ci := 10) (v := .ref xw) (C := RX10) (T := TX10) (N := 13) hx hb hts iX10_image_X10 hown hK.1 hP 0 rfl rfl 0 (by decide) (kX10_image_5 hts) (fun _ h9 => h9) rfl dX10_image_39 ?_
    refine z_v (wr := [(x0, .inr (10, [.ref xw, .ref xl, .ref xi, .ref xt, .int 0, .ref xq, .int 0, .ref xr, .ref xh, .ref xp, .ref xs_, .ref xa, .ref xm])), (xi, .inl (kA 4, 4, .inr (.inr (.inr (.inr f21)))))]) (va_runV (As := [.ref xw]) (rest := []) ⟨hx, hb, hml, hown, hts⟩ (mX9_copyFrom l dC dI kA _ q5 xw tnodes_9 tnodesA_10 tpasses_11 tpassesA_12 tjars_13 tjarsA_14 torders_15 tordersA_16 tfeasts_17 tfeastsA_18 tway_19 twayA_20 tnodes tnodesA tpasses tpassesA tjars tjarsA torders tordersA tfeasts tfeastsA tway twayA) (cwV 1 hts gX10_image_X9_copyFrom rfl rfl rfl (by decide +kernel) ⟨(Nat.le_of_ble_eq_true rfl), (Nat.le_of_ble_eq_true rfl)⟩) ⟨zPc.blind, va_recv hK.1 hP (ci := 9) (q0 := 15) rfl rfl, zPre hK (hP.sub [15, 16, 17, 18, 19, 20, 21, 22, 23, 24, 25, 26, 27, 1, 2, 3, 4, 5, 6, 7, 8, 9, 10, 11, 12, 13] rfl) (hD.sub [15, 16, 17, 18, 19, 20, 21, 22, 23, 24, 25, 26, 27, 1, 2, 3, 4, 5, 6, 7, 8, 9, 10, 11, 12, 13] (by decide) rfl)⟩ rfl rfl hl.1 rfl (lv_room (Nat.le_of_ble_eq_true rfl)) dX10_image_42 ⟨(Nat.le_of_ble_eq_true rfl), (Nat.le_of_ble_eq_true rfl)⟩) hP hD hS hA [15, 16, 17, 18, 19, 20, 21, 22, 23, 24, 25, 26, 27, 1, 2, 3, 4, 5, 6, 7, 8, 9, 10, 11, 12, 13] [0, 14] rfl rfl (by decide) (by decide) (fun u22 H locs hw23 hP hD hS => ?_)
    have hP : va_P (dC, dI) vwCl [(x0, .inr (10, [.ref xw, .ref xl, .ref xi, .ref xt, .int 0, .ref xq, .int 0, .ref xr, .ref xh, .ref xp, .ref xs_, .ref xa, .ref xm])), (xi, .inl (kA 4, 4, .inr (.inr (.inr (.inr f21))))), (xw, .inr (9, [.ref tnodes, .ref tpasses, .ref tjars, .ref torders, .ref tfeasts, .ref tway, .int (-1), .int 0, .int 0, .int 0]))] H := hP
    have hD : va_D A [(x0, .inr (10, [.ref xw, .ref xl, .ref xi, .ref xt, .int 0, .ref xq, .int 0, .ref xr, .ref xh, .ref xp, .ref xs_, .ref xa, .ref xm])), (xi, .inl (kA 4, 4, .inr (.inr (.inr (.inr f21))))), (xw, .inr (9, [.ref tnodes, .ref tpasses, .ref tjars, .ref torders, .ref tfeasts, .ref tway, .int (-1), .int 0, .int 0, .int 0]))] := hD
    refine lv_aload_n hx hb dX10_image_45 rfl (lv_at hl 0 rfl) ?_
    refine va_get (D := (dC, dI)) (ci := 10) (v := .ref xw) (C := RX10) (T := TX10) (N := 13) hx hb hts iX10_image_X10 hown hK.1 hP 0 rfl rfl 0 (by decide) (kX10_image_5 hts) (fun _ h9 => h9) rfl dX10_image_46 ?_
    refine va_get (D := (dC, dI)) (ci := 9) (v := .int 0) (C := RX9) (T := TX9) (N := 10) hx hb hts iX10_image_X9 hown hK.1 hP 2 rfl rfl 7 (by decide) (kX10_image_6 hts) (fun _ h9 => h9) rfl dX10_image_49 ?_
    have hP9 := hP.sub (ws' := []) [] rfl
    have hD9 := hD.sub (ws' := []) [] (by decide) rfl
    refine W.widen (k := 13) (n := 374) (Nat.le_of_ble_eq_true rfl) (Nat.le_of_ble_eq_true rfl) ?_
    exact W.iret (v := 0) hx hb hr (fun t ht hW => ⟨⟨0, (), rfl, (by simp [sp_im, c_4]), by rw [ht]; exact hP9, hD9⟩, hS.F ht⟩) hS.2.2 dX10_image_52
  · refine lv_iconst (v := (-1)) hx hb dX10_image_8 (by decide) ?_
    have hP9 := hP.sub (ws' := []) [] rfl
    have hD9 := hD.sub (ws' := []) [] (by decide) rfl
    refine W.widen (k := 13) (n := 374) (Nat.le_of_ble_eq_true rfl) (Nat.le_of_ble_eq_true rfl) ?_
    exact W.iret (v := (-1)) hx hb hr (fun t ht hW => ⟨⟨(-1), (), rfl, (by simp [sp_im, c_4]), by rw [ht]; exact hP9, hD9⟩, hS.F ht⟩) hS.2.2 dX10_image_9
set_option maxHeartbeats 4000000 in
set_option maxRecDepth 100000 in
theorem mX10_back (l : Launch) (dC : Nat → ClassId) (dI : Nat → Nat → Nat) (kA : Nat → ClassId) (sz : Nat) (x0 : Nat) (xw : Nat) (xl : Nat) (xi : Nat) (xt : Nat) (xq : Nat) (xr : Nat) (xh : Nat) (xp : Nat) (xs_ : Nat) (xa : Nat) (xm : Nat) (p1 : Int32)  : Met l yX10_back wsX10_back ({ frames := 1, cells := 0, slots := 0, locals := 21 }) (zPc dC dI kA sz [.ref x0, .int p1] [(x0, .inr (10, [.ref xw, .ref xl, .ref xi, .ref xt, .int 0, .ref xq, .int 0, .ref xr, .ref xh, .ref xp, .ref xs_, .ref xa, .ref xm])), (xi, .inl (kA 4, 4, .inr (.inr (.inr (.inr (fun _ => none))))))]) (va_Qi (fun (r : Int32) (u : Unit) => r = (-1)) (zB dC dI (va_A [(x0, .inr (10, [.ref xw, .ref xl, .ref xi, .ref xt, .int 0, .ref xq, .int 0, .ref xr, .ref xh, .ref xp, .ref xs_, .ref xa, .ref xm])), (xi, .inl (kA 4, 4, .inr (.inr (.inr (.inr (fun _ => none))))))] sz) (fun (u : Unit) => [])) (va_A [(x0, .inr (10, [.ref xw, .ref xl, .ref xi, .ref xt, .int 0, .ref xq, .int 0, .ref xr, .ref xh, .ref xp, .ref xs_, .ref xa, .ref xm])), (xi, .inl (kA 4, 4, .inr (.inr (.inr (.inr (fun _ => none))))))] sz)) 0 0 (va_A [(x0, .inr (10, [.ref xw, .ref xl, .ref xi, .ref xt, .int 0, .ref xq, .int 0, .ref xr, .ref xh, .ref xp, .ref xs_, .ref xa, .ref xm])), (xi, .inl (kA 4, 4, .inr (.inr (.inr (.inr (fun _ => none))))))] sz) := by
  refine Met.ofW (cc := cX10_back) (maxL := 2) (ret := (some .int)) (by decide) rfl ?_
  intro p e s m args below meth c s₁ B hml hv
  obtain ⟨rfl, hsz, hP, hK, hD0⟩ := hv
  have hx := B.exec
  have hb := B.bytes
  have hr := B.returns
  have hts := atoms_spec (ws := wsX10_back) B.pre
  have hown : s.vm.findClass RX10 = some m.cls := findClass_of_methodNamed B.named
  have hlocks := B.notSynchronized
  subst hsz
  have hD := hD0.self (sz := s.heap.size)
  generalize hAe : va_A [(x0, .inr (10, [.ref xw, .ref xl, .ref xi, .ref xt, .int 0, .ref xq, .int 0, .ref xr, .ref xh, .ref xp, .ref xs_, .ref xa, .ref xm])), (xi, .inl (kA 4, 4, .inr (.inr (.inr (.inr (fun _ => none))))))] s.heap.size = A at hD ⊢
  have hA : ∀ q : Nat, s.heap.size ≤ q → A q := fun q h => by rw [← hAe]; exact Or.inr h
  have hS : va_S A s.heap s.heap [] := va_S.rf
  have hP : va_P (dC, dI) vwCl [(x0, .inr (10, [.ref xw, .ref xl, .ref xi, .ref xt, .int 0, .ref xq, .int 0, .ref xr, .ref xh, .ref xp, .ref xs_, .ref xa, .ref xm])), (xi, .inl (kA 4, 4, .inr (.inr (.inr (.inr (fun _ => none))))))] s.heap := hP
  have hl := lv_entry ([.ref x0, .int p1]) (n := 2) (Nat.le_of_ble_eq_true rfl)
  rw [lg_entry_eq]
  generalize (lg_sl ([.ref x0, .int p1]) ++ List.replicate (2 - (lg_sl ([.ref x0, .int p1])).length) Slot.unset).toArray = ls at hl ⊢
  have hl : lv_has ls 2 [(0, .ref x0), (1, .int p1)] := hl
  refine lv_iload_n hx hb dX10_back_0 rfl (lv_at hl 1 rfl) ?_
  refine lv_iconst (v := 3) hx hb dX10_back_1 (by decide) ?_
  refine z_i (wr := [(x0, .inr (10, [.ref xw, .ref xl, .ref xi, .ref xt, .int 0, .ref xq, .int 0, .ref xr, .ref xh, .ref xp, .ref xs_, .ref xa, .ref xm])), (xi, .inl (kA 4, 4, .inr (.inr (.inr (.inr (fun _ => none))))))]) (va_runS (As := [.int p1, .int 3]) (rest := []) ⟨hx, hb, hml, hown, hts⟩ (mX10_within l dC dI kA _ p1 3) (va_cwS 2 hts gX10_back_X10_within rfl rfl rfl (by decide +kernel) ⟨(Nat.le_of_ble_eq_true rfl), (Nat.le_of_ble_eq_true rfl)⟩) ⟨zPc.blind, zPre hK (hP.sub [] rfl) (hD.sub [] (by decide) rfl)⟩ rfl rfl hl.1 rfl (lv_room (Nat.le_of_ble_eq_true rfl)) dX10_back_2 ⟨(Nat.le_of_ble_eq_true rfl), (Nat.le_of_ble_eq_true rfl)⟩) hP hD hS hA [] [0, 1] rfl rfl (by decide) (by decide) (fun r3 u1 H locs hw2 hP hD hS => ?_)
  obtain rfl := hw2
  have hP : va_P (dC, dI) vwCl [(x0, .inr (10, [.ref xw, .ref xl, .ref xi, .ref xt, .int 0, .ref xq, .int 0, .ref xr, .ref xh, .ref xp, .ref xs_, .ref xa, .ref xm])), (xi, .inl (kA 4, 4, .inr (.inr (.inr (.inr (fun _ => none))))))] H := hP
  have hD : va_D A [(x0, .inr (10, [.ref xw, .ref xl, .ref xi, .ref xt, .int 0, .ref xq, .int 0, .ref xr, .ref xh, .ref xp, .ref xs_, .ref xa, .ref xm])), (xi, .inl (kA 4, 4, .inr (.inr (.inr (.inr (fun _ => none))))))] := hD
  refine lv_if_eq (tgt := 17) hx hb dX10_back_5 (by decide) (fun c_4 => ?_) (fun c_4 => ?_)
  · refine lv_iconst (v := (-1)) hx hb dX10_back_17 (by decide) ?_
    have hP9 := hP.sub (ws' := []) [] rfl
    have hD9 := hD.sub (ws' := []) [] (by decide) rfl
    refine W.widen (k := 0) (n := 0) (Nat.le_of_ble_eq_true rfl) (Nat.le_of_ble_eq_true rfl) ?_
    exact W.iret (v := (-1)) hx hb hr (fun t ht hW => ⟨⟨(-1), (), rfl, rfl, by rw [ht]; exact hP9, hD9⟩, hS.F ht⟩) hS.2.2 dX10_back_18
  · refine lv_aload_n hx hb dX10_back_8 rfl (lv_at hl 0 rfl) ?_
    refine va_get (D := (dC, dI)) (ci := 10) (v := .ref xi) (C := RX10) (T := TX10) (N := 13) hx hb hts iX10_back_X10 hown hK.1 hP 0 rfl rfl 2 (by decide) (kX10_back_1 hts) (fun _ h9 => h9) rfl dX10_back_9 ?_
    refine lv_iload_n hx hb dX10_back_12 rfl (lv_at hl 1 rfl) ?_
    refine va_aldq hx hb hK.1 hP 1 4 rfl rfl (wi_in c_4) dX10_back_13 ?_
    refine zv .null rfl ?_
    refine lv_ifnonnullN hx hb dX10_back_14 ?_
    refine lv_iconst (v := (-1)) hx hb dX10_back_17 (by decide) ?_
    have hP9 := hP.sub (ws' := []) [] rfl
    have hD9 := hD.sub (ws' := []) [] (by decide) rfl
    refine W.widen (k := 0) (n := 0) (Nat.le_of_ble_eq_true rfl) (Nat.le_of_ble_eq_true rfl) ?_
    exact W.iret (v := (-1)) hx hb hr (fun t ht hW => ⟨⟨(-1), (), rfl, rfl, by rw [ht]; exact hP9, hD9⟩, hS.F ht⟩) hS.2.2 dX10_back_18
