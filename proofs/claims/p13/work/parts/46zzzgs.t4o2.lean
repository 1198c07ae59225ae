set_option maxHeartbeats 400000 in
theorem hs_r {p z : Int32} (h : ¬ hs p z = 0) : 0 ≤ p.toInt ∧ p.toInt < z.toInt := by
  unfold hs at h
  by_cases a : p < 0
  · rw [if_pos a] at h; exact absurd rfl h
  · rw [if_neg a] at h
    by_cases b : z ≤ p
    · rw [if_pos b] at h; exact absurd rfl h
    · rw [Int32.lt_iff_toInt_lt, z_i0] at a
      rw [Int32.le_iff_toInt_le] at b
      omega
set_option maxHeartbeats 400000 in
theorem wi_r {p m : Int32} (h : ¬ wi p m = 0) : 0 ≤ p.toInt ∧ p.toInt ≤ m.toInt := by
  unfold wi at h
  by_cases a : p < 0
  · rw [if_pos a] at h; exact absurd rfl h
  · rw [if_neg a] at h
    by_cases b : m < p
    · rw [if_pos b] at h; exact absurd rfl h
    · rw [Int32.lt_iff_toInt_lt, z_i0] at a
      rw [Int32.lt_iff_toInt_lt] at b
      omega
set_option maxHeartbeats 400000 in
/-- stores, counts change: what IV needs -/
theorem IV_nn {S U : Nat → Int32} (h : IV S) (a : ∀ i : Nat, (i = 1 ∨ i = 2 ∨ i = 5 ∨ (68 ≤ i ∧ i < 312)) → U i = S i) (hn : NI U) (h0 : 0 ≤ (U 0).toInt ∧ (U 0).toInt ≤ 12) (hx : 0 ≤ (U 7).toInt) : IV U := by
  obtain ⟨i1, i2, i3, i4, i5, i6, i7, i8⟩ := h
  refine ⟨fun k hk => ?_, hn, fun k hk => ?_, ?_, hx, ?_, ?_, h0⟩
  · have := tn_eq hk.1
    have := hk.2
    exact JI1_ag (i1 k hk) (a 1 (by omega)) (fun i l0 l1 => a i (by omega)) (fun q hq => a _ (by omega))
  · rw [a _ (by omega)]; exact i3 k hk
  · rw [a 2 (by omega)]
    intro k k0 k1 hk
    have := tn_eq k0
    have := i7.2
    rw [a _ (by omega)] at hk
    rw [a _ (by omega)]
    exact i4 k k0 k1 hk
  · rw [a 5 (by omega)]; exact i6
  · rw [a 2 (by omega)]; exact i7
set_option maxHeartbeats 400000 in
theorem IV_node {S : Nat → Int32} {z p0 p1 p2 : Int32} (h : IV S) (ez : z = S 0) (hz : rN z) : IV (fX11_node S z p0 p1 p2) := by
  have tz := tn_eq hz.1
  have lz := hz.2
  have far : ∀ i : Nat, i ≠ 0 → (i < 20 + 4 * z.toNatClampNeg ∨ 20 + 4 * z.toNatClampNeg + 3 < i) → fX11_node S z p0 p1 p2 i = S i := fun i h0 hi => node_at hz h0 hi
  have b : fX11_node S z p0 p1 p2 = S ∨ (fX11_node S z p0 p1 p2 0 = z + 1 ∧ fX11_node S z p0 p1 p2 (20 + 4 * z.toNatClampNeg + 3) = 0) := by
    unfold fX11_node
    repeat' split
    all_goals first | exact Or.inl rfl | skip
    right
    rw [bnd_eq, bnd_eq, bnd_eq, bnd_eq, bnd_eq, bnd_eq, c_nd0 hz, c_nd (q := 1) (c := 1) hz (by decide) (by decide), c_nd (q := 2) (c := 2) hz (by decide) (by decide), c_nd (q := 3) (c := 3) hz (by decide) (by decide), c_k0]
    exact ⟨pk_us, by rw [upd_ne (by omega), pk_us]⟩
  rcases b with b | ⟨b0, b3⟩
  · rw [b]; exact h
  · have e1 : (z + 1).toInt = z.toInt + 1 := zadd1 (by omega)
    refine IV_nn h (fun i hi => far i (by omega) (by omega)) (fun w hw => ?_) (by rw [b0, e1]; omega) (by rw [far 7 (by omega) (by omega)]; exact h.2.2.2.2.1)
    have tw := tn_eq hw.1
    by_cases q : w.toNatClampNeg = z.toNatClampNeg
    · rw [q, b3]; decide
    · rw [far _ (by omega) (by omega)]; exact h.2.1 w hw
set_option maxHeartbeats 400000 in
theorem ref_pass {S : Nat → Int32} {n z p0 p1 p2 p3 p4 : Int32} {i : Nat} (z0 : 0 ≤ z.toInt) (z20 : z.toInt < 20) (h1 : i ≠ 1) (hi : i < 68 + 5 * z.toNatClampNeg ∨ 68 + 5 * z.toNatClampNeg + 4 < i) : fX11_pass S n z p0 p1 p2 p3 p4 i = S i := by
  have tz := tn_eq z0
  have e0 := c_ps (q := 0) (c := 0) z0 z20 (by decide) (by decide)
  rw [Int32.add_zero] at e0
  unfold fX11_pass
  repeat' split
  all_goals first | rfl | skip
  rw [bnd_eq, bnd_eq, bnd_eq, bnd_eq, bnd_eq, bnd_eq, bnd_eq, e0, c_ps (q := 1) (c := 1) z0 z20 (by decide) (by decide), c_ps (q := 2) (c := 2) z0 z20 (by decide) (by decide), c_ps (q := 3) (c := 3) z0 z20 (by decide) (by decide), c_ps (q := 4) (c := 4) z0 z20 (by decide) (by decide), c_k1]
  rw [upd_ne (by omega), upd_ne (by omega), upd_ne (by omega), upd_ne (by omega), upd_ne (by omega), upd_ne (by omega)]
set_option maxHeartbeats 400000 in
theorem ref_pass1 {S : Nat → Int32} {n z p0 p1 p2 p3 p4 : Int32} (ez : z = S 1) : fX11_pass S n z p0 p1 p2 p3 p4 1 = z ∨ (fX11_pass S n z p0 p1 p2 p3 p4 1 = z + 1 ∧ ¬ z = 20) := by
  unfold fX11_pass
  split
  · exact Or.inl ez.symm
  · rename_i c
    repeat' split
    all_goals first | exact Or.inl ez.symm | skip
    right
    refine ⟨?_, c⟩
    rw [bnd_eq, bnd_eq, bnd_eq, bnd_eq, bnd_eq, bnd_eq, bnd_eq, c_k1]
    exact pk_us
set_option maxHeartbeats 400000 in
theorem IV_pass {S : Nat → Int32} {n z p0 p1 p2 p3 p4 : Int32} (h : IV S) (ez : z = S 1) (z0 : 0 ≤ z.toInt) (z20 : z.toInt ≤ 20) : IV (fX11_pass S n z p0 p1 p2 p3 p4) := by
  by_cases hz : z = 20
  · have : fX11_pass S n z p0 p1 p2 p3 p4 = S := by unfold fX11_pass; rw [if_pos hz]
    rw [this]; exact h
  · have k20 : (20 : Int32).toInt = 20 := by decide
    have l20 : z.toInt < 20 := by
      have : ¬ z.toInt = 20 := fun q => hz (Int32.toInt_inj.mp (q.trans k20.symm))
      omega
    have tz := tn_eq z0
    have far := fun (i : Nat) (h1 : i ≠ 1) (hi : i < 68 + 5 * z.toNatClampNeg ∨ 68 + 5 * z.toNatClampNeg + 4 < i) => ref_pass (S := S) (n := n) (p0 := p0) (p1 := p1) (p2 := p2) (p3 := p3) (p4 := p4) z0 l20 h1 hi
    have e1 : (z + 1).toInt = z.toInt + 1 := zadd1 (by omega)
    have c1 := ref_pass1 (S := S) (n := n) (p0 := p0) (p1 := p1) (p2 := p2) (p3 := p3) (p4 := p4) ez
    generalize fX11_pass S n z p0 p1 p2 p3 p4 = U at far c1 ⊢
    have u1 : z.toInt ≤ (U 1).toInt ∧ (U 1).toInt ≤ 20 := by
      rcases c1 with q | ⟨q, _⟩
      · rw [q]; omega
      · rw [q, e1]; omega
    obtain ⟨i1, i2, i3, i4, i5, i6, i7, i8⟩ := h
    refine ⟨fun k hk => ?_, NI_ag i2 (fun i l0 l1 => far i (by omega) (by omega)), fun k hk => ?_, ?_, ?_, ?_, ?_, ?_⟩
    · obtain ⟨h1, h2, h3⟩ := i1 k hk
      have tk := tn_eq hk.1
      have lk := hk.2
      have b : ∀ q : Nat, q < 9 → U (168 + 9 * k.toNatClampNeg + q) = S (168 + 9 * k.toNatClampNeg + q) := fun q hq => far _ (by omega) (by omega)
      unfold JI1
      rw [b 4 (by decide), b 5 (by decide), b 6 (by decide), b 7 (by decide), b 8 (by decide)]
      refine ⟨h1, h2, fun w => ?_⟩
      obtain ⟨⟨r1, r2, r3, r4, r5⟩, r6, r7, r8, r9⟩ := h3 w
      have tp := tn_eq r1
      rw [ez] at u1 tz
      have a : ∀ q : Nat, q < 5 → U (68 + 5 * (S (168 + 9 * k.toNatClampNeg + 6)).toNatClampNeg + q) = S (68 + 5 * (S (168 + 9 * k.toNatClampNeg + 6)).toNatClampNeg + q) := fun q hq => far _ (by omega) (by rw [ez]; omega)
      have eo : oth U (S (168 + 9 * k.toNatClampNeg + 6)) (S (168 + 9 * k.toNatClampNeg + 8)) = oth S (S (168 + 9 * k.toNatClampNeg + 6)) (S (168 + 9 * k.toNatClampNeg + 8)) := by
        unfold oth
        rw [c_ps (q := 0) (c := 0) r1 (by omega) (by decide) (by decide), c_ps (q := 1) (c := 1) r1 (by omega) (by decide) (by decide), a 0 (by decide), a 1 (by decide)]
      rw [eo, a 2 (by decide)]
      refine ⟨⟨r1, by omega, u1.2, ?_⟩, r6, r7, r8, r9⟩
      rw [a 2 (by decide)]
      exact ⟨r4, r5⟩
    · rw [far _ (by omega) (by omega)]; exact i3 k hk
    · rw [far 2 (by omega) (by omega)]
      intro k k0 k1 hk
      have := tn_eq k0
      have := i7.2
      rw [far _ (by omega) (by omega)] at hk
      rw [far _ (by omega) (by omega)]
      exact i4 k k0 k1 hk
    · rw [far 7 (by omega) (by omega)]; exact i5
    · rw [far 5 (by omega) (by omega)]; exact i6
    · rw [far 2 (by omega) (by omega)]; exact i7
    · rw [far 0 (by omega) (by omega)]; exact i8
set_option maxHeartbeats 400000 in
theorem IV_newjar {S : Nat → Int32} {n j p0 p1 p2 p3 p4 : Int32} (h : IV S) (ez : j = S 2) (hj : rJ j) (en : n = S 0) : IV (fX11_jar S n j p0 p1 p2 p3 p4) := by
  rw [ref_jar hj]
  by_cases a : cv p1 p2 = 0
  · rw [if_pos a]; exact h
  · rw [if_neg a]
    by_cases b : wi p3 7 = 0
    · rw [if_pos b]; exact h
    · rw [if_neg b]
      by_cases c : wi p4 15 = 0
      · rw [if_pos c]; exact h
      · rw [if_neg c]
        by_cases d : hs p0 n = 0
        · rw [if_pos d]; exact h
        · rw [if_neg d]
          have pc := wi_r c
          have pd := hs_r d
          have k15 : (15 : Int32).toInt = 15 := by decide
          have tj := tn_eq hj.1
          have lj := hj.2
          have e1 : (j + 1).toInt = j.toInt + 1 := zadd1 (by omega)
          obtain ⟨i1, i2, i3, i4, i5, i6, i7, i8⟩ := h
          have p12 : p0.toInt < 12 := by rw [en] at pd; omega
          have far : ∀ i : Nat, i ≠ 2 → (i < (168 + 9 * j.toNatClampNeg + 0) ∨ (168 + 9 * j.toNatClampNeg + 8) < i) → njS S j p0 p1 p2 p3 p4 i = S i := by
            intro i n2 hi
            unfold njS
            rw [upd_ne (by omega), upd_ne (by omega), upd_ne (by omega), upd_ne (by omega), upd_ne (by omega), upd_ne (by omega), upd_ne (by omega), upd_ne (by omega), upd_ne (by omega), upd_ne (by omega)]
          have f2 : njS S j p0 p1 p2 p3 p4 2 = j + 1 := by unfold njS; exact pk_us
          have f3 : njS S j p0 p1 p2 p3 p4 (168 + 9 * j.toNatClampNeg + 3) = p4 := by
            unfold njS
            rw [upd_ne (by omega), upd_ne (by omega), upd_ne (by omega), upd_ne (by omega), upd_ne (by omega), upd_ne (by omega), pk_us]
          have f4 : njS S j p0 p1 p2 p3 p4 (168 + 9 * j.toNatClampNeg + 4) = 0 := by
            unfold njS
            rw [upd_ne (by omega), upd_ne (by omega), upd_ne (by omega), upd_ne (by omega), upd_ne (by omega), pk_us]
          have f5 : njS S j p0 p1 p2 p3 p4 (168 + 9 * j.toNatClampNeg + 5) = p0 := by
            unfold njS
            rw [upd_ne (by omega), upd_ne (by omega), upd_ne (by omega), upd_ne (by omega), pk_us]
          have f6 : njS S j p0 p1 p2 p3 p4 (168 + 9 * j.toNatClampNeg + 6) = -1 := by
            unfold njS
            rw [upd_ne (by omega), upd_ne (by omega), upd_ne (by omega), pk_us]
          generalize njS S j p0 p1 p2 p3 p4 = U at far f2 f3 f4 f5 f6 ⊢
          have n12 : ¬ p0 = 12 := ne_of_lt (z := p0) (m := 12) p12
          refine ⟨fun k hk => ?_, NI_ag i2 (fun i l0 l1 => far i (by omega) (by omega)), fun k hk => ?_, ?_, ?_, ?_, ?_, ?_⟩
          · have tk := tn_eq hk.1
            have lk := hk.2
            by_cases q : k.toNatClampNeg = j.toNatClampNeg
            · unfold JI1
              rw [q, f4, f5]
              exact ⟨by decide, by omega, fun w => absurd w n12⟩
            · exact JI1_ag (i1 k hk) (far 1 (by omega) (by omega)) (fun i l0 l1 => far i (by omega) (by omega)) (fun q2 hq => far _ (by omega) (by omega))
          · by_cases q : k = j.toNatClampNeg
            · rw [q, f3]; omega
            · rw [far _ (by omega) (by omega)]; exact i3 k hk
          · rw [f2]
            intro k k0 k1 hk
            have tk := tn_eq k0
            by_cases q : k.toNatClampNeg = j.toNatClampNeg
            · rw [q]; exact f6
            · rw [far _ (by omega) (by omega)] at hk
              rw [far _ (by omega) (by omega)]
              exact i4 k k0 (by rw [← ez]; omega) hk
          · rw [far 7 (by omega) (by omega)]; exact i5
          · rw [far 5 (by omega) (by omega)]; exact i6
          · rw [f2, e1]; omega
          · rw [far 0 (by omega) (by omega)]; exact i8
set_option maxHeartbeats 400000 in
/-- DROPS, a STORE anew -/
theorem IV_d {S : Nat → Int32} {j v : Int32} (h : IV S) (hj : rJ j) (v0 : 0 ≤ v.toInt) (v9 : v.toInt ≤ 99999) : IV (upd S (168 + 9 * j.toNatClampNeg + 4) v) := by
  have tj := tn_eq hj.1
  have lj := hj.2
  have far : ∀ i : Nat, i ≠ (168 + 9 * j.toNatClampNeg + 4) → upd S (168 + 9 * j.toNatClampNeg + 4) v i = S i := fun i n4 => upd_ne (by omega)
  obtain ⟨i1, i2, i3⟩ := h.1 j hj
  refine IV_one h hj (fun i _ _ => far i (by omega)) (fun i _ _ => far i (by omega)) (by rw [far 7 (by omega)]; exact h.2.2.2.2.1) (NI_ag h.2.1 (fun i _ _ => far i (by omega))) ⟨?_, ?_, ?_⟩ ?_ ?_
  · rw [pk_us]; exact ⟨v0, v9⟩
  · rw [far _ (by omega)]; exact i2
  · have a2 : ∀ i : Nat, 68 ≤ i → i < 168 → upd S (168 + 9 * j.toNatClampNeg + 4) v i = S i := fun i _ _ => far i (by omega)
    rw [far (168 + 9 * j.toNatClampNeg + 5) (by omega), far (168 + 9 * j.toNatClampNeg + 6) (by omega), far (168 + 9 * j.toNatClampNeg + 7) (by omega), far (168 + 9 * j.toNatClampNeg + 8) (by omega)]
    intro w
    obtain ⟨r1, r2, r3, r4, r5⟩ := i3 w
    have tp := tn_eq r1.1
    have p20 : (S (168 + 9 * j.toNatClampNeg + 6)).toInt < 20 := by have := r1.2.1; have := r1.2.2.1; omega
    rw [oth_ag a2 r1.1 p20, a2 (68 + 5 * (S (168 + 9 * j.toNatClampNeg + 6)).toNatClampNeg + 2) (by omega) (by omega)]
    exact ⟨rP_ag r1 (far 1 (by omega)) a2, r2, r3, r4, r5⟩
  · rw [far _ (by omega)]
    exact h.2.2.1 _ (by omega)
  · rw [far (168 + 9 * j.toNatClampNeg + 5) (by omega), far (168 + 9 * j.toNatClampNeg + 6) (by omega)]
    exact fun y0 y => h.2.2.2.1 j hj.1 y0 y
set_option maxHeartbeats 400000 in
theorem IV_s {S : Nat → Int32} {k v : Int32} (h : IV S) (hk : rN k) (v0 : 0 ≤ v.toInt) (v9 : v.toInt ≤ 999999) : IV (upd S (20 + 4 * k.toNatClampNeg + 3) v) := by
  have := tn_eq hk.1
  have := hk.2
  exact IV_st h (fun i hi => upd_ne (by omega)) (NI_u h.2.1 hk v0 v9)
set_option maxHeartbeats 400000 in
/-- a jar sets out -/
theorem IV_lv {S : Nat → Int32} {j p to : Int32} (h : IV S) (hj : rJ j) (hp : rP S p) (ht : rN to) (hb : rN (oth S p to)) : IV (upd (upd (upd (upd S (168 + 9 * j.toNatClampNeg + 8) to) (168 + 9 * j.toNatClampNeg + 5) 12) (168 + 9 * j.toNatClampNeg + 6) p) (168 + 9 * j.toNatClampNeg + 7) 0) := by
  have tj := tn_eq hj.1
  have lj := hj.2
  have tp := tn_eq hp.1
  have p20 : p.toInt < 20 := by have := hp.2.1; have := hp.2.2.1; omega
  have far : ∀ i : Nat, (i < (168 + 9 * j.toNatClampNeg + 5) ∨ (168 + 9 * j.toNatClampNeg + 8) < i) → upd (upd (upd (upd S (168 + 9 * j.toNatClampNeg + 8) to) (168 + 9 * j.toNatClampNeg + 5) 12) (168 + 9 * j.toNatClampNeg + 6) p) (168 + 9 * j.toNatClampNeg + 7) 0 i = S i := fun i hi => by rw [upd_ne (by omega), upd_ne (by omega), upd_ne (by omega), upd_ne (by omega)]
  have f5 : upd (upd (upd (upd S (168 + 9 * j.toNatClampNeg + 8) to) (168 + 9 * j.toNatClampNeg + 5) 12) (168 + 9 * j.toNatClampNeg + 6) p) (168 + 9 * j.toNatClampNeg + 7) 0 (168 + 9 * j.toNatClampNeg + 5) = 12 := by rw [upd_ne (by omega), upd_ne (by omega), pk_us]
  have f6 : upd (upd (upd (upd S (168 + 9 * j.toNatClampNeg + 8) to) (168 + 9 * j.toNatClampNeg + 5) 12) (168 + 9 * j.toNatClampNeg + 6) p) (168 + 9 * j.toNatClampNeg + 7) 0 (168 + 9 * j.toNatClampNeg + 6) = p := by rw [upd_ne (by omega), pk_us]
  have f7 : upd (upd (upd (upd S (168 + 9 * j.toNatClampNeg + 8) to) (168 + 9 * j.toNatClampNeg + 5) 12) (168 + 9 * j.toNatClampNeg + 6) p) (168 + 9 * j.toNatClampNeg + 7) 0 (168 + 9 * j.toNatClampNeg + 7) = 0 := pk_us
  have f8 : upd (upd (upd (upd S (168 + 9 * j.toNatClampNeg + 8) to) (168 + 9 * j.toNatClampNeg + 5) 12) (168 + 9 * j.toNatClampNeg + 6) p) (168 + 9 * j.toNatClampNeg + 7) 0 (168 + 9 * j.toNatClampNeg + 8) = to := by rw [upd_ne (by omega), upd_ne (by omega), upd_ne (by omega), pk_us]
  generalize upd (upd (upd (upd S (168 + 9 * j.toNatClampNeg + 8) to) (168 + 9 * j.toNatClampNeg + 5) 12) (168 + 9 * j.toNatClampNeg + 6) p) (168 + 9 * j.toNatClampNeg + 7) 0 = U at far f5 f6 f7 f8 ⊢
  have a2 : ∀ i : Nat, 68 ≤ i → i < 168 → U i = S i := fun i _ _ => far i (by omega)
  obtain ⟨i1, i2, i3⟩ := h.1 j hj
  refine IV_one h hj (fun i _ _ => far i (by omega)) (fun i _ _ => far i (by omega)) (by rw [far 7 (by omega)]; exact h.2.2.2.2.1) (NI_ag h.2.1 (fun i _ _ => far i (by omega))) ⟨?_, ?_, ?_⟩ ?_ ?_
  · rw [far _ (by omega)]; exact i1
  · rw [f5]; decide
  · intro _
    rw [f6, f7, f8, oth_ag a2 hp.1 p20, a2 (68 + 5 * p.toNatClampNeg + 2) (by omega) (by omega)]
    exact ⟨rP_ag hp (far 1 (by omega)) a2, ht, hb, by decide, by rw [z_i0]; have := hp.2.2.2.1; omega⟩
  · rw [far _ (by omega)]
    exact h.2.2.1 _ (by omega)
  · intro _ y
    exact absurd f5 y
