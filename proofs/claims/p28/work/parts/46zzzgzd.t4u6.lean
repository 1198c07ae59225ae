def nrS (S w : Nat → Int32) (mo i a : Int32) : Int32 := if w i.toNatClampNeg < 0 then a else if fX11_hasSnow S i mo = 0 then a else if a < 0 then i else if w a.toNatClampNeg ≤ w i.toNatClampNeg then a else i
def nrP (S w : Nat → Int32) (mo : Int32) : Nat → Int32 → Int32 → Int32
  | 0, _, a => a
  | n + 1, i, a => nrP S w mo n (i + 1) (nrS S w mo i a)
/-- the class's best beside the reference's -/
def BR (w : Nat → Int32) (a b : Int32) : Prop := (a < 0 ∧ b = 1000000) ∨ ((¬ a < 0) ∧ (¬ 12 ≤ a) ∧ (¬ w a.toNatClampNeg < 0) ∧ b = w a.toNatClampNeg)
set_option maxHeartbeats 400000 in
theorem le_12 {a : Int32} (h : a.toInt < 12) : ¬ 12 ≤ a := by
  rw [Int32.le_iff_toInt_le]
  have e : (12 : Int32).toInt = 12 := by decide
  omega
set_option maxHeartbeats 400000 in
theorem cls_nst {S nF u w : Nat → Int32} {zn mo i a b : Int32} {E K : Int32 → Int32 → Int32 → ((Nat → Int32) × Int32)} (hn : NE nF S) (hW : FW w) (hm : ∀ v : Nat, v < 12 → (u v).toInt = Gof w v) (hi : rN i) (hlt : ¬ zn ≤ i) (hb : BR w a b) : ∃ b' : Int32, fb_mX10_nearest_45 zn nF mo u E K i b a = K (i + 1) b' (nrS S w mo i a) ∧ BR w (nrS S w mo i a) b' := by
  have ti := tn_eq hi.1
  have i0 : ¬ i < 0 := z_nlt0 hi.1
  have i12 : ¬ 12 ≤ i := le_12 hi.2
  have j12 : i.toNatClampNeg < 12 := nat12 i0 i12
  have hv := hm _ j12
  have em : (1000000 : Int32).toInt = 1000000 := by decide
  have ef : fX5_farTo u i = u i.toNatClampNeg := far_in i0 i12
  unfold fb_mX10_nearest_45
  rw [if_neg hlt, bndv (cls_snow hn hi)]
  by_cases s : fX11_hasSnow S i mo = 0
  · have e : nrS S w mo i a = a := by
      unfold nrS
      by_cases q : w i.toNatClampNeg < 0
      · rw [if_pos q]
      · rw [if_neg q, if_pos s]
    refine ⟨b, ?_, ?_⟩
    · rw [if_pos s, bnd_eq, e]
    · rw [e]; exact hb
  · rw [if_neg s, bndv ef]
    unfold Gof at hv
    by_cases q : w i.toNatClampNeg < 0
    · rw [if_pos q] at hv
      have e : nrS S w mo i a = a := by
        unfold nrS
        rw [if_pos q]
      have hbu : b ≤ u i.toNatClampNeg := by
        rw [Int32.le_iff_toInt_le, hv]
        rcases hb with ⟨_, hb⟩ | ⟨h0, h1, h2, hb⟩
        · rw [hb, em]; exact Int.le_refl _
        · have := g_bd hW (nat12 h0 h1) h2
          rw [hb]; omega
      refine ⟨b, ?_, ?_⟩
      · rw [if_pos hbu, bnd_eq, e]
      · rw [e]; exact hb
    · rw [if_neg q] at hv
      have hw := g_bd hW j12 q
      have eu : u i.toNatClampNeg = w i.toNatClampNeg := Int32.toInt_inj.mp hv
      rw [eu]
      rcases hb with ⟨h0, hb⟩ | ⟨h0, h1, h2, hb⟩
      · have e : nrS S w mo i a = i := by
          unfold nrS
          rw [if_neg q, if_neg s, if_pos h0]
        have hbu : ¬ b ≤ w i.toNatClampNeg := by
          rw [Int32.le_iff_toInt_le, hb, em]; omega
        refine ⟨w i.toNatClampNeg, ?_, ?_⟩
        · rw [if_neg hbu, bndv (ef.trans eu), bnd_eq, e]
        · rw [e]; exact Or.inr ⟨i0, i12, q, rfl⟩
      · by_cases c : w a.toNatClampNeg ≤ w i.toNatClampNeg
        · have e : nrS S w mo i a = a := by
            unfold nrS
            rw [if_neg q, if_neg s, if_neg h0, if_pos c]
          refine ⟨b, ?_, ?_⟩
          · rw [if_pos (show b ≤ w i.toNatClampNeg by rw [hb]; exact c), bnd_eq, e]
          · rw [e]; exact Or.inr ⟨h0, h1, h2, hb⟩
        · have e : nrS S w mo i a = i := by
            unfold nrS
            rw [if_neg q, if_neg s, if_neg h0, if_neg c]
          refine ⟨w i.toNatClampNeg, ?_, ?_⟩
          · rw [if_neg (show ¬ b ≤ w i.toNatClampNeg by rw [hb]; exact c), bndv (ef.trans eu), bnd_eq, e]
          · rw [e]; exact Or.inr ⟨i0, i12, q, rfl⟩
set_option maxHeartbeats 400000 in
theorem cls_near {S nF u w : Nat → Int32} {zn mo : Int32} {E : Int32 → Int32 → Int32 → ((Nat → Int32) × Int32)} (hn : NE nF S) (z12 : zn.toInt ≤ 12) (hW : FW w) (hm : ∀ v : Nat, v < 12 → (u v).toInt = Gof w v) : ∀ (n N : Nat) (i b a : Int32), 0 ≤ i.toInt → i.toInt + n = zn.toInt → n < N → BR w a b → ∃ i' b', fl_mX10_nearest_45 zn nF mo u E N i b a = E i' b' (nrP S w mo n i a) := by
  intro n
  induction n with
  | zero =>
    intro N i b a i0 iz hN hb
    obtain ⟨N, rfl⟩ : ∃ m, N = m + 1 := ⟨N - 1, by omega⟩
    have e : i = zn := Int32.toInt_inj.mp (by omega)
    refine ⟨i, b, ?_⟩
    show fb_mX10_nearest_45 zn nF mo u E (fl_mX10_nearest_45 zn nF mo u E N) i b a = E i b a
    unfold fb_mX10_nearest_45
    rw [if_pos (by rw [e]; exact Int32.le_refl _)]
  | succ n ih =>
    intro N i b a i0 iz hN hb
    obtain ⟨N, rfl⟩ : ∃ m, N = m + 1 := ⟨N - 1, by omega⟩
    have ei : (i + 1).toInt = i.toInt + 1 := zadd1 (by omega)
    have hlt : ¬ zn ≤ i := by rw [Int32.le_iff_toInt_le]; omega
    obtain ⟨b1, e1, h1⟩ := cls_nst (zn := zn) (mo := mo) (E := E) (K := fl_mX10_nearest_45 zn nF mo u E N) hn hW hm ⟨i0, by omega⟩ hlt hb
    obtain ⟨i', b', r⟩ := ih N (i + 1) b1 (nrS S w mo i a) (by omega) (by omega) (by omega) h1
    exact ⟨i', b', e1.trans r⟩
set_option maxHeartbeats 400000 in
theorem ref_nst {S w : Nat → Int32} {zn mo i a : Int32} {E K : Int32 → Int32 → ((Nat → Int32) × Int32)} (hlt : ¬ zn ≤ i) : fb_mX11_nearest_33 S zn mo w E K i a = K (i + 1) (nrS S w mo i a) := by
  unfold fb_mX11_nearest_33 nrS
  rw [if_neg hlt, bnd_eq]
  by_cases q : w i.toNatClampNeg < 0
  · rw [if_pos q, if_pos q, bnd_eq]
  · rw [if_neg q, if_neg q, bnd_eq]
    by_cases s : fX11_hasSnow S i mo = 0
    · rw [if_pos s, if_pos s, bnd_eq]
    · rw [if_neg s, if_neg s]
      by_cases h : a < 0
      · rw [if_pos h, if_pos h, bnd_eq]
      · rw [if_neg h, if_neg h, bnd_eq, bnd_eq]
        by_cases c : w a.toNatClampNeg ≤ w i.toNatClampNeg
        · rw [if_pos c, if_pos c, bnd_eq]
        · rw [if_neg c, if_neg c, bnd_eq]
set_option maxHeartbeats 400000 in
theorem ref_near {S w : Nat → Int32} {zn mo : Int32} {E : Int32 → Int32 → ((Nat → Int32) × Int32)} (z12 : zn.toInt ≤ 12) : ∀ (n N : Nat) (i a : Int32), 0 ≤ i.toInt → i.toInt + n = zn.toInt → n < N → ∃ i', fl_mX11_nearest_33 S zn mo w E N i a = E i' (nrP S w mo n i a) := by
  intro n
  induction n with
  | zero =>
    intro N i a i0 iz hN
    obtain ⟨N, rfl⟩ : ∃ m, N = m + 1 := ⟨N - 1, by omega⟩
    have e : i = zn := Int32.toInt_inj.mp (by omega)
    refine ⟨i, ?_⟩
    show fb_mX11_nearest_33 S zn mo w E (fl_mX11_nearest_33 S zn mo w E N) i a = E i a
    unfold fb_mX11_nearest_33
    rw [if_pos (by rw [e]; exact Int32.le_refl _)]
  | succ n ih =>
    intro N i a i0 iz hN
    obtain ⟨N, rfl⟩ : ∃ m, N = m + 1 := ⟨N - 1, by omega⟩
    have ei : (i + 1).toInt = i.toInt + 1 := zadd1 (by omega)
    have hlt : ¬ zn ≤ i := by rw [Int32.le_iff_toInt_le]; omega
    obtain ⟨i', r⟩ := ih N (i + 1) (nrS S w mo i a) (by omega) (by omega) (by omega)
    exact ⟨i', (ref_nst (E := E) (K := fl_mX11_nearest_33 S zn mo w E N) hlt).trans r⟩
set_option maxHeartbeats 400000 in
theorem na_x {F nF S f g : Nat → Int32} {a b : Int32} (hn : NE nF S) (h : PE F S) (hp : PAr S) (z0 : ¬ S 0 < 0) : (fX10_nearest (S 0) nF (S 1) F f a b).2 = (fX11_nearest S g (S 0) (S 1) a b).2 := by
  have z12 : (S 0).toInt ≤ 12 := by
    have := hp.2.2.2
    rw [Int32.lt_iff_toInt_lt] at this
    have e : (12 : Int32).toInt = 12 := by decide
    omega
  have z00 : 0 ≤ (S 0).toInt := i_ge z0
  have t0 := tn_eq z00
  unfold fX10_nearest fX11_nearest
  rw [li_wj (hi := 11) (by decide)]
  by_cases h1 : hs a (S 0) = 0
  · rw [if_pos h1, if_pos h1]
  · rw [if_neg h1, if_neg h1]
    by_cases h2 : wi b 11 = 0
    · rw [if_pos h2, if_pos h2]
    · rw [if_neg h2, if_neg h2, bnd_eq, bnd_eq]
      obtain ⟨a0, a1⟩ := hs_ne h1
      have a12 : ¬ 12 ≤ a := by
        rw [Int32.le_iff_toInt_le] at a1
        exact le_12 (by omega)
      have n0 := hp.2.1
      have n20 := hp.2.2.1
      obtain ⟨hG, hW⟩ := spr (f := g) (fun _ _ => rfl : PD S S) hp.1 n0 n20 a0 a12
      have hm := meas (f := f) h hp.1 n0 n20 a0 a12 hG
      obtain ⟨i1, b1, r1⟩ := cls_near (mo := b) (E := fun (w107_0_0 : Int32) (w107_1_0 : Int32) (w107_2_0 : Int32) => (fX5_measure f (S 1) F a (-1) 1, w107_2_0)) hn z12 hW hm (S 0).toNatClampNeg (((S 0 : Int32).toInt - (0 : Int32).toInt).toNat + 1) 0 1000000 (-2) (by decide) (by rw [z_i0]; omega) (by rw [z_i0]; omega) (Or.inl ⟨by decide, rfl⟩)
      obtain ⟨i2, r2⟩ := ref_near (S := S) (w := fX11_spreads S g (S 1) a) (mo := b) (E := fun (w93_0_0 : Int32) (w93_1_0 : Int32) => (fX11_spreads S g (S 1) a, w93_1_0)) z12 (S 0).toNatClampNeg (((S 0 : Int32).toInt - (0 : Int32).toInt).toNat + 1) 0 (-2) (by decide) (by rw [z_i0]; omega) (by rw [z_i0]; omega)
      exact (congrArg (fun z => z.2) r1).trans (congrArg (fun z => z.2) r2).symm
def na_r (S : Nat → Int32) (p q : Int32) : Int32 := (fX11_nearest S (fun _ => 0) (S 0) (S 1) p q).2
set_option maxHeartbeats 400000 in
theorem na_c {F nF S f : Nat → Int32} {zn zp a b : Int32} (g : GD S) (hn : NE nF S) (h : PE F S) (e0 : zn = S 0) (e1 : zp = S 1) : (fX10_nearest zn nF zp F f a b).2 = na_r S a b := by
  subst e0
  subst e1
  exact na_x hn h (SC_pa g.1) g.1.2.1.1
set_option maxHeartbeats 400000 in
theorem na_m {S f : Nat → Int32} {a b : Int32} (g : GD S) : (fX11_nearest S f (S 0) (S 1) a b).2 = na_r S a b :=
  (na_x (F := fun i => S (68 + i)) (nF := fun i => S (20 + i)) (f := fun _ => 0) (fun _ _ => rfl) (fun _ _ => rfl) (SC_pa g.1) g.1.2.1.1).symm.trans (na_x (fun _ _ => rfl) (fun _ _ => rfl) (SC_pa g.1) g.1.2.1.1)
