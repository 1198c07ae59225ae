theorem zt_n0 : Cond.methodLinkNest RX10 9 yX9_init RX10 ∈ lw_tbl := by decide +kernel
theorem zt_n1 : Cond.methodLinkNest RX10 35 yX2_init RX10 ∈ lw_tbl := by decide +kernel
theorem zt_n2 : Cond.methodLinkNest RX2 22 yX1_init RX10 ∈ lw_tbl := by decide +kernel
theorem zt_n3 : Cond.methodLinkNest RX10 42 yX0_init RX10 ∈ lw_tbl := by decide +kernel
theorem zt_n4 : Cond.methodLinkNest RX0 11 yX4_init RX10 ∈ lw_tbl := by decide +kernel
theorem zt_n5 : Cond.methodLinkNest RX7 11 yX1_init RX10 ∈ lw_tbl := by decide +kernel
theorem zt_n6 : Cond.methodLinkNest RX7 20 yX4_init RX10 ∈ lw_tbl := by decide +kernel
theorem zt_n7 : Cond.methodLinkNest RX10 131 yX1_init RX10 ∈ lw_tbl := by decide +kernel
theorem zt_n8 : Cond.methodLinkNest RX0 90 yX10_held RX10 ∈ lw_tbl := by decide +kernel
theorem zt_n9 : Cond.methodLinkNest RX7 70 yX10_held RX10 ∈ lw_tbl := by decide +kernel
theorem zt_a0 : Cond.arrayClass .int ∈ lw_tbl := by decide +kernel
theorem zt_a1 : Cond.arrayClass .byte ∈ lw_tbl := by decide +kernel
theorem zt_a2 : Cond.arrayClass .long ∈ lw_tbl := by decide +kernel
theorem zt_a3 : Cond.arrayClass .boolean ∈ lw_tbl := by decide +kernel
theorem zt_o0 : Cond.arrayOver (.object RX9) ∈ lw_tbl := by decide +kernel
theorem zt_o1 : Cond.arrayOver (.object RX1) ∈ lw_tbl := by decide +kernel
theorem zt_i0 : Cond.instantiable RX0 1 ∈ lw_tbl := by decide +kernel
theorem zt_i1 : Cond.instantiable RX1 17 ∈ lw_tbl := by decide +kernel
theorem zt_i2 : Cond.instantiable RX2 8 ∈ lw_tbl := by decide +kernel
theorem zt_i3 : Cond.instantiable RX3 4 ∈ lw_tbl := by decide +kernel
theorem zt_i4 : Cond.instantiable RX4 4 ∈ lw_tbl := by decide +kernel
theorem zt_i5 : Cond.instantiable RX5 13 ∈ lw_tbl := by decide +kernel
theorem zt_i6 : Cond.instantiable RX6 3 ∈ lw_tbl := by decide +kernel
theorem zt_i7 : Cond.instantiable RX7 9 ∈ lw_tbl := by decide +kernel
theorem zt_i8 : Cond.instantiable RX8 7 ∈ lw_tbl := by decide +kernel
theorem zt_i9 : Cond.instantiable RX9 10 ∈ lw_tbl := by decide +kernel
theorem zt_i10 : Cond.instantiable RX10 13 ∈ lw_tbl := by decide +kernel
theorem zt_i11 : Cond.instantiable RX11 42 ∈ lw_tbl := by decide +kernel
theorem z_arr {args : Array Value} {s : State} {ty : FieldType} (h : (Cond.arrayClass ty).before args s = true) : ∃ cA : ClassId, ArrOfT s cA ty ∧ s.vm.findClass ("[" ++ ty.toString) = some cA := by
  obtain ⟨cA, k, comp, h1, h2, h3⟩ := Cond.arrayClass_spec h
  exact ⟨cA, fun n z => ⟨fun k h => (by cases h), k, h2, comp, h3⟩, h1⟩
theorem z_arro {args : Array Value} {s : State} {C : String} (h : (Cond.arrayOver (.object C)).before args s = true) : ∃ cA : ClassId, ArrOfT s cA (.object C) ∧ va_RA s cA (.object C) := by
  obtain ⟨comp, cA, k, h1, h2, h3, h4, h5⟩ := Cond.arrayOver_spec h
  exact ⟨cA, fun n z => ⟨fun k h => (by cases h), k, h3, comp, h4⟩, k, comp, h3, h4, h1, h5⟩
theorem z_start {args : Array Value} {s : State} (hts : ∀ w ∈ lw_tbl, w.before args s = true) : ∃ (dC : Nat → ClassId) (dI : Nat → Nat → Nat) (kA : Nat → ClassId), zK dC dI kA s := by
  obtain ⟨c0, iS0, hk0⟩ := u_known (C := RX0) (T := TX0) (N := 1) (n := 1) hts inX0 (hts _ zt_i0)
  obtain ⟨c1, iS1, hk1⟩ := u_known (C := RX1) (T := TX1) (N := 17) (n := 17) hts inX1 (hts _ zt_i1)
  obtain ⟨c2, iS2, hk2⟩ := u_known (C := RX2) (T := TX2) (N := 8) (n := 8) hts inX2 (hts _ zt_i2)
  obtain ⟨c3, iS3, hk3⟩ := u_known (C := RX3) (T := TX3) (N := 4) (n := 4) hts inX3 (hts _ zt_i3)
  obtain ⟨c4, iS4, hk4⟩ := u_known (C := RX4) (T := TX4) (N := 4) (n := 4) hts inX4 (hts _ zt_i4)
  obtain ⟨c5, iS5, hk5⟩ := u_known (C := RX5) (T := TX5) (N := 13) (n := 13) hts inX5 (hts _ zt_i5)
  obtain ⟨c6, iS6, hk6⟩ := u_known (C := RX6) (T := TX6) (N := 3) (n := 3) hts inX6 (hts _ zt_i6)
  obtain ⟨c7, iS7, hk7⟩ := u_known (C := RX7) (T := TX7) (N := 9) (n := 9) hts inX7 (hts _ zt_i7)
  obtain ⟨c8, iS8, hk8⟩ := u_known (C := RX8) (T := TX8) (N := 7) (n := 7) hts inX8 (hts _ zt_i8)
  obtain ⟨c9, iS9, hk9⟩ := u_known (C := RX9) (T := TX9) (N := 10) (n := 10) hts inX9 (hts _ zt_i9)
  obtain ⟨c10, iS10, hk10⟩ := u_known (C := RX10) (T := TX10) (N := 13) (n := 13) hts inX10 (hts _ zt_i10)
  obtain ⟨c11, iS11, hk11⟩ := u_known (C := RX11) (T := TX11) (N := 42) (n := 42) hts inX11 (hts _ zt_i11)
  obtain ⟨a0, ha0, ra0⟩ := z_arr (hts _ zt_a0)
  obtain ⟨a1, ha1, ra1⟩ := z_arr (hts _ zt_a1)
  obtain ⟨a2, ha2, ra2⟩ := z_arr (hts _ zt_a2)
  obtain ⟨a3, ha3, ra3⟩ := z_arr (hts _ zt_a3)
  obtain ⟨a4, ha4, ra4⟩ := z_arro (hts _ zt_o0)
  obtain ⟨a5, ha5, ra5⟩ := z_arro (hts _ zt_o1)
  refine ⟨fun k => [c0, c1, c2, c3, c4, c5, c6, c7, c8, c9, c10, c11].getD k c0, fun k => [iS0, iS1, iS2, iS3, iS4, iS5, iS6, iS7, iS8, iS9, iS10, iS11].getD k iS0, fun k => [a0, a1, a2, a3, a4, a5].getD k a0, ⟨?_, ?_⟩, ?_, va_AO.of (hts _ zt_o0), va_AO.of (hts _ zt_o1)⟩
  · intro k q hq
    match k, hq with
    | 0, hq => cases hq; exact hk0
    | 1, hq => cases hq; exact hk1
    | 2, hq => cases hq; exact hk2
    | 3, hq => cases hq; exact hk3
    | 4, hq => cases hq; exact hk4
    | 5, hq => cases hq; exact hk5
    | 6, hq => cases hq; exact hk6
    | 7, hq => cases hq; exact hk7
    | 8, hq => cases hq; exact hk8
    | 9, hq => cases hq; exact hk9
    | 10, hq => cases hq; exact hk10
    | 11, hq => cases hq; exact hk11
    | k + 12, hq => simp [vwCl] at hq
  · intro k q hq
    match k, hq with
    | 0, hq => cases hq; exact ⟨ha0, ra0⟩
    | 1, hq => cases hq; exact ⟨ha1, ra1⟩
    | 2, hq => cases hq; exact ⟨ha2, ra2⟩
    | 3, hq => cases hq; exact ⟨ha3, ra3⟩
    | 4, hq => cases hq; exact ⟨ha4, ra4⟩
    | 5, hq => cases hq; exact ⟨ha5, ra5⟩
    | k + 6, hq => simp [tyz] at hq
  · exact ⟨va_Nw.of rfl (hts _ zt_n0), va_Nw.of rfl (hts _ zt_n1), va_Nw.of rfl (hts _ zt_n2), va_Nw.of rfl (hts _ zt_n3), va_Nw.of rfl (hts _ zt_n4), va_Nw.of rfl (hts _ zt_n5), va_Nw.of rfl (hts _ zt_n6), va_Nw.of rfl (hts _ zt_n7), va_Nw.of rfl (hts _ zt_n8), va_Nw.of rfl (hts _ zt_n9)⟩
theorem sw36 (x : Int32) : (x.toInt < 0 ∨ 35 < x.toInt) ∨ x = 0 ∨ x = 1 ∨ x = 2 ∨ x = 3 ∨ x = 4 ∨ x = 5 ∨ x = 6 ∨ x = 7 ∨ x = 8 ∨ x = 9 ∨ x = 10 ∨ x = 11 ∨ x = 12 ∨ x = 13 ∨ x = 14 ∨ x = 15 ∨ x = 16 ∨ x = 17 ∨ x = 18 ∨ x = 19 ∨ x = 20 ∨ x = 21 ∨ x = 22 ∨ x = 23 ∨ x = 24 ∨ x = 25 ∨ x = 26 ∨ x = 27 ∨ x = 28 ∨ x = 29 ∨ x = 30 ∨ x = 31 ∨ x = 32 ∨ x = 33 ∨ x = 34 ∨ x = 35 := by
  by_cases h1 : x.toInt < 0
  · exact Or.inl (Or.inl h1)
  · by_cases h2 : 35 < x.toInt
    · exact Or.inl (Or.inr h2)
    · refine Or.inr ?_
      obtain ⟨j, hj, e⟩ := nI_of2 (x := x) (M := 35) (n := 35) (by decide) (by rw [Int32.lt_iff_toInt_lt]; exact fun q => h1 q) (by rw [Int32.le_iff_toInt_le]; exact Int.not_lt.mp h2)
      rw [e]
      exact co_dec (N := 36) (P := fun j => nI j = 0 ∨ nI j = 1 ∨ nI j = 2 ∨ nI j = 3 ∨ nI j = 4 ∨ nI j = 5 ∨ nI j = 6 ∨ nI j = 7 ∨ nI j = 8 ∨ nI j = 9 ∨ nI j = 10 ∨ nI j = 11 ∨ nI j = 12 ∨ nI j = 13 ∨ nI j = 14 ∨ nI j = 15 ∨ nI j = 16 ∨ nI j = 17 ∨ nI j = 18 ∨ nI j = 19 ∨ nI j = 20 ∨ nI j = 21 ∨ nI j = 22 ∨ nI j = 23 ∨ nI j = 24 ∨ nI j = 25 ∨ nI j = 26 ∨ nI j = 27 ∨ nI j = 28 ∨ nI j = 29 ∨ nI j = 30 ∨ nI j = 31 ∨ nI j = 32 ∨ nI j = 33 ∨ nI j = 34 ∨ nI j = 35) (by decide +kernel) (by omega)
theorem z_short {L : Nat} (h : L < 10) : Int32.ofNat L - 10 < 0 := co_dec (N := 10) (P := fun L => Int32.ofNat L - 10 < 0) (by decide +kernel) h
