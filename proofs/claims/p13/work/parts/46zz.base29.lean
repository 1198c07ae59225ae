theorem SC_pdx {f pd pd2 : Nat → Int32} {a b c d e g zk zw : Int32} (h : SC f a b c d e g zk zw pd) (hp : ∀ i, Kd i → pd i = pd2 i) : SC f a b c d e g zk zw pd2 := by
  obtain ⟨x, b0, b1, b2, b3, b4, b8, b9, hr, hd⟩ := h
  exact ⟨x, b0, b1, b2, b3, b4, b8, b9, hr, fun i hi => (hd i hi).trans (hp i hi)⟩
theorem cup_ne {f : Nat → Int32} {k j : Nat} {v : Int32} (h : j ≠ k) : cup f k v j = f j := if_neg h
theorem cup_at {f : Nat → Int32} {k : Nat} {v : Int32} : cup f k v k = v := if_pos rfl
theorem SC_cup {f cn : Nat → Int32} {a b c d e g zk zw v : Int32} {k : Nat} (h : SC f a b c d e g zk zw cn) (hk : k < 10) : SC f a b c d e g zk zw (cup cn k v) :=
  SC_pdx h (fun i hi => (cup_ne (by unfold Kd at hi; omega)).symm)
/-- the class's way and passes, as the reference's said[] tells them -/
def WE (F cn : Nat → Int32) : Prop := ∀ i : Nat, i < 6 → F i = cn (10 + i)
def PE (F cn : Nat → Int32) : Prop := ∀ i : Nat, i < 100 → F i = cn (68 + i)
theorem WE_c {F cn : Nat → Int32} {k : Nat} {v : Int32} (h : WE F cn) (hk : k < 10) : WE F (cup cn k v) := fun i hi => (h i hi).trans (cup_ne (by omega)).symm
theorem PE_c {F cn : Nat → Int32} {k : Nat} {v : Int32} (h : PE F cn) (hk : k < 10) : PE F (cup cn k v) := fun i hi => (h i hi).trans (cup_ne (by omega)).symm
theorem PE_u {F cn : Nat → Int32} {a : Nat} {v : Int32} (h : PE F cn) : PE (upd F a v) (upd cn (68 + a) v) := by
  intro i hi
  by_cases q : a = i
  · subst q; rw [pk_us, pk_us]
  · rw [upd_ne q, upd_ne (by omega)]; exact h i hi
theorem WE_u {F cn : Nat → Int32} {a : Nat} {v : Int32} (h : WE F cn) : WE (upd F a v) (upd cn (10 + a) v) := by
  intro i hi
  by_cases q : a = i
  · subst q; rw [pk_us, pk_us]
  · rw [upd_ne q, upd_ne (by omega)]; exact h i hi
theorem PE_w {F cn : Nat → Int32} {a : Nat} {v : Int32} (h : PE F cn) (ha : a < 68) : PE F (upd cn a v) := fun i hi => (h i hi).trans (upd_ne (by omega)).symm
theorem c_passE {z q : Int32} (h0 : ¬ z < 0) (h1 : ¬ 20 < z) (h2 : ¬ q < 0) (h3 : ¬ 4 < q) : (68 + 5 * z + q).toNatClampNeg = 68 + 5 * z.toNatClampNeg + q.toNatClampNeg := by
  rw [Int32.lt_iff_toInt_lt] at h0 h1 h2 h3
  rw [show (20 : Int32).toInt = 20 from by decide] at h1
  rw [show (4 : Int32).toInt = 4 from by decide] at h3
  rw [z_i0] at h0 h2
  show (68 + 5 * z + q).toInt.toNat = 68 + 5 * z.toInt.toNat + q.toInt.toNat
  rw [z_lin (B := 68) (K := 5) (by decide) (by decide) (by omega) (by omega) (by omega) (by omega)]
  omega
theorem pd5_n {f : Nat → Int32} {z p0 p1 p2 p3 p4 : Int32} (h0 : ¬ z < 0) (h1 : ¬ 20 < z) : pd5 f z p0 p1 p2 p3 p4 = upd (upd (upd (upd (upd f (68 + (5 * z.toNatClampNeg + 0)) p0) (68 + (5 * z.toNatClampNeg + 1)) p1) (68 + (5 * z.toNatClampNeg + 2)) p2) (68 + (5 * z.toNatClampNeg + 3)) p3) (68 + (5 * z.toNatClampNeg + 4)) p4 := by
  unfold pd5
  rw [c_passE h0 h1 (by decide) (by decide), c_passE h0 h1 (by decide) (by decide), c_passE h0 h1 (by decide) (by decide), c_passE h0 h1 (by decide) (by decide), c_passE h0 h1 (by decide) (by decide), c_k0, c_k1, c_k2, c_k3, c_k4]
  rfl
theorem pd5_lo {f : Nat → Int32} {z p0 p1 p2 p3 p4 : Int32} {j : Nat} (h0 : ¬ z < 0) (h1 : ¬ 20 < z) (hj : j < 68) : pd5 f z p0 p1 p2 p3 p4 j = f j := by
  rw [pd5_n h0 h1, upd_ne (by omega), upd_ne (by omega), upd_ne (by omega), upd_ne (by omega), upd_ne (by omega)]
def ps_cn (p0 p1 p2 p3 p4 : Int32) (cn : Nat → Int32) : Nat → Int32 := cup (rpd (ok_ps p0 p1 p2 p3 p4 (cn 0) (cn 1)) (pd5 cn (cn 1) p0 p1 p2 p3 p4) cn) 1 (ps_z p0 p1 p2 p3 p4 (cn 0) (cn 1))
theorem ps_lo {p0 p1 p2 p3 p4 : Int32} {cn : Nat → Int32} {j : Nat} (h0 : ¬ cn 1 < 0) (h1 : ¬ 20 < cn 1) (hj : j < 68) (hj1 : j ≠ 1) : ps_cn p0 p1 p2 p3 p4 cn j = cn j := by
  unfold ps_cn
  rw [cup_ne hj1]
  unfold rpd
  split
  · rfl
  · exact pd5_lo h0 h1 hj
theorem SC_psc {f cn : Nat → Int32} {p0 p1 p2 p3 p4 : Int32} (h : SC f (cn 0) (rz (ok_ps p0 p1 p2 p3 p4 (cn 0) (cn 1)) (cn 1)) (cn 2) (cn 3) (cn 4) (cn 5) (cn 8) (cn 9) (rpd (ok_ps p0 p1 p2 p3 p4 (cn 0) (cn 1)) (pd5 cn (cn 1) p0 p1 p2 p3 p4) cn)) (h0 : ¬ cn 1 < 0) (h1 : ¬ 20 < cn 1) :
    SC f (ps_cn p0 p1 p2 p3 p4 cn 0) (ps_cn p0 p1 p2 p3 p4 cn 1) (ps_cn p0 p1 p2 p3 p4 cn 2) (ps_cn p0 p1 p2 p3 p4 cn 3) (ps_cn p0 p1 p2 p3 p4 cn 4) (ps_cn p0 p1 p2 p3 p4 cn 5) (ps_cn p0 p1 p2 p3 p4 cn 8) (ps_cn p0 p1 p2 p3 p4 cn 9) (ps_cn p0 p1 p2 p3 p4 cn) := by
  rw [ps_lo (j := 0) h0 h1 (by decide) (by decide), ps_lo (j := 2) h0 h1 (by decide) (by decide), ps_lo (j := 3) h0 h1 (by decide) (by decide), ps_lo (j := 4) h0 h1 (by decide) (by decide), ps_lo (j := 5) h0 h1 (by decide) (by decide), ps_lo (j := 8) h0 h1 (by decide) (by decide), ps_lo (j := 9) h0 h1 (by decide) (by decide)]
  exact SC_cup h (by decide)
theorem tab_5 {z q : Int32} (h0 : ¬ z < 0) (h1 : ¬ 20 ≤ z) (h2 : ¬ q < 0) (h3 : ¬ 4 < q) : (¬ z * 5 + q < 0) ∧ (¬ 100 ≤ z * 5 + q) ∧ (z * 5 + q).toNatClampNeg = 5 * z.toNatClampNeg + q.toNatClampNeg := by
  rw [Int32.lt_iff_toInt_lt] at h0 h2 h3
  rw [Int32.le_iff_toInt_le] at h1
  rw [show (20 : Int32).toInt = 20 from by decide] at h1
  rw [show (4 : Int32).toInt = 4 from by decide] at h3
  rw [z_i0] at h0 h2
  have h5 : (5 : Int32).toInt = 5 := by decide
  have e1 : (z * 5).toInt = z.toInt * 5 := by rw [zmul (by rw [h5]; omega) (by rw [h5]; omega), h5]
  have e2 : (z * 5 + q).toInt = z.toInt * 5 + q.toInt := by rw [zadd (by rw [e1]; omega) (by rw [e1]; omega), e1]
  refine ⟨?_, ?_, ?_⟩
  · rw [Int32.lt_iff_toInt_lt, e2, z_i0]; omega
  · rw [Int32.le_iff_toInt_le, e2, show (100 : Int32).toInt = 100 from by decide]; omega
  · show (z * 5 + q).toInt.toNat = 5 * z.toInt.toNat + q.toInt.toNat
    rw [e2]; omega
theorem put_5 {F : Nat → Int32} {z q v : Int32} (h0 : ¬ z < 0) (h1 : ¬ 20 ≤ z) (h2 : ¬ q < 0) (h3 : ¬ 4 < q) : fX6_put_100 5 F z q v = upd F (5 * z.toNatClampNeg + q.toNatClampNeg) v := by
  obtain ⟨a, b, c⟩ := tab_5 h0 h1 h2 h3
  unfold fX6_put_100
  simp only [bnd]
  rw [if_neg a, if_neg b, c]
theorem get_5 {F cn : Nat → Int32} {z q : Int32} (hF : PE F cn) (h0 : ¬ z < 0) (h1 : ¬ 20 ≤ z) (h2 : ¬ q < 0) (h3 : ¬ 4 < q) : fX6_get_100 5 F z q = cn (68 + 5 * z + q).toNatClampNeg := by
  obtain ⟨a, b, c⟩ := tab_5 h0 h1 h2 h3
  have hz := zc_j (n := 20) (by decide) h0 h1
  have hq : q.toNatClampNeg ≤ 4 := by
    rw [Int32.lt_iff_toInt_lt, show (4 : Int32).toInt = 4 from by decide] at h3
    show q.toInt.toNat ≤ 4
    omega
  unfold fX6_get_100
  simp only [bnd]
  rw [if_neg a, if_neg b, c, hF _ (by omega), c_pass h0 h1 h2 h3, Nat.add_assoc]
/-- a pass more, by the class -/
theorem cls_pass {cn F : Nat → Int32} {n z p0 p1 p2 p3 p4 : Int32} (hF : PE F cn) (hn : n = cn 0) (hz : z = cn 1) (h0 : ¬ z < 0) (h1 : ¬ 20 ≤ z) : PE (fX10_pass_ok n z F p0 p1 p2 p3 p4).2 (ps_cn p0 p1 p2 p3 p4 cn) := by
  have hz20 : ¬ z = 20 := fun q => h1 (by rw [q]; decide)
  have h21 : ¬ 20 < z := fun q => h1 (Int32.le_of_lt q)
  have key : PE (fX10_pass_ok n z F p0 p1 p2 p3 p4).2 (rpd (ok_ps p0 p1 p2 p3 p4 n z) (pd5 cn z p0 p1 p2 p3 p4) cn) := by
    unfold ok_ps
    rw [if_neg hz20]
    unfold fX10_pass_ok bnd rpd
    rw [li_124, li_wj (hi := 9) (by decide), li_wj (hi := 1000) (by decide)]
    by_cases a1 : hs p0 n = 0
    · simpa [a1] using hF
    · by_cases a2 : hs p1 n = 0
      · simpa [a1, a2] using hF
      · by_cases a3 : p0 = p1
        · subst a3; simpa [a1] using hF
        · by_cases a4 : p2 < 1
          · simpa [a1, a2, a3, a4] using hF
          · rw [wi_24 a4]
            by_cases a5 : 24 < p2
            · simpa [a1, a2, a3, a4, a5] using hF
            · by_cases a6 : wi p3 9 = 0
              · simpa [a1, a2, a3, a4, a5, a6] using hF
              · by_cases a7 : wi p4 1000 = 0
                · simpa [a1, a2, a3, a4, a5, a6, a7] using hF
                · have hz1 : ¬ z = -1 := fun q => h0 (by rw [q]; decide)
                  simp only [a1, a2, a3, a4, a5, a6, a7, hz1, if_true, if_false, if_neg, if_pos, ite_false, ite_true, not_false_eq_true]
                  rw [pd5_n h0 h21, put_5 h0 h1 (by decide) (by decide), put_5 h0 h1 (by decide) (by decide), put_5 h0 h1 (by decide) (by decide), put_5 h0 h1 (by decide) (by decide), put_5 h0 h1 (by decide) (by decide), c_k0, c_k1, c_k2, c_k3, c_k4]
                  exact PE_u (PE_u (PE_u (PE_u (PE_u hF))))
  unfold ps_cn
  rw [← hn, ← hz]
  exact PE_c key (by decide)
/-- where the way has come behind k passes; whether it has come to a node by then -/
def wen (cn : Nat → Int32) : Nat → Int32
  | 0 => cn 8
  | k + 1 => oth cn (cn (10 + k)) (wen cn k)
def ofw (cn : Nat → Int32) (v : Int32) : Nat → Bool
  | 0 => decide (cn 8 = v)
  | k + 1 => ofw cn v k || decide (wen cn (k + 1) = v)
theorem ofw_iff {cn : Nat → Int32} {v : Int32} : ∀ k : Nat, ofw cn v k = true ↔ ∃ j, j ≤ k ∧ wen cn j = v
  | 0 => by
    constructor
    · intro h
      exact ⟨0, Nat.le_refl _, of_decide_eq_true h⟩
    · rintro ⟨j, hj, e⟩
      obtain rfl : j = 0 := by omega
      exact decide_eq_true e
  | k + 1 => by
    have ih := ofw_iff (cn := cn) (v := v) k
    constructor
    · intro h
      rcases (Bool.or_eq_true _ _).mp h with h | h
      · obtain ⟨j, hj, e⟩ := ih.mp h
        exact ⟨j, by omega, e⟩
      · exact ⟨k + 1, Nat.le_refl _, of_decide_eq_true h⟩
    · rintro ⟨j, hj, e⟩
      refine (Bool.or_eq_true _ _).mpr ?_
      by_cases q : j = k + 1
      · subst q; exact Or.inr (decide_eq_true e)
      · exact Or.inl (ih.mpr ⟨j, by omega, e⟩)
/-- what holds of the told places -/
def WRc (cn : Nat → Int32) : Prop := ((¬ cn 1 < 0) ∧ ¬ 20 < cn 1) ∧ ((¬ cn 8 < -1) ∧ ¬ 12 ≤ cn 8) ∧ ((¬ cn 9 < 0) ∧ ¬ 6 < cn 9) ∧ (∀ k : Nat, k < 6 → (k : Int) < (cn 9).toInt → (¬ cn (10 + k) < 0) ∧ ¬ cn 1 ≤ cn (10 + k)) ∧ ∀ p : Nat, p < 20 → in12 (cn (68 + 5 * p)) ∧ in12 (cn (69 + 5 * p))
theorem SC_wr {f cn : Nat → Int32} {a c d e g : Int32} (h : SC f a (cn 1) c d e g (cn 8) (cn 9) cn) : WRc cn := by
  refine ⟨h.2.2.1, h.2.2.2.2.2.2.1, h.2.2.2.2.2.2.2.1, fun k hk hk2 => ?_, fun p hp => ?_⟩
  · have q := h.sr.2.2.2.1 k hk hk2
    rw [h.dd (10 + k) (Or.inl ⟨by omega, by omega⟩)] at q
    exact q
  · have q := h.sr.1 p hp
    rw [h.dd (68 + 5 * p) (Or.inr ⟨by omega, by omega⟩), h.dd (69 + 5 * p) (Or.inr ⟨by omega, by omega⟩)] at q
    exact q
theorem hs_in {p z : Int32} (a : ¬ p < 0) (b : ¬ z ≤ p) : ¬ hs p z = 0 := by
  unfold hs
  simp [a, b]
theorem oe_in {cn F : Nat → Int32} {z p n : Int32} (hF : PE F cn) (hz : z = cn 1) (h1 : ¬ 20 < cn 1) (hp : ¬ hs p z = 0) : fX9_otherEnd z F p n = oth cn p n := by
  obtain ⟨a, b⟩ := hs_ne hp
  have c : ¬ 20 ≤ p := by rw [hz] at b; grind
  unfold fX9_otherEnd
  simp only [bnd]
  rw [if_neg hp, get_5 hF a c (by decide) (by decide), get_5 hF a c (by decide) (by decide)]
  unfold oth
  by_cases e1 : cn (68 + 5 * p + 0).toNatClampNeg = n
  · rw [if_pos e1, if_pos e1.symm]
  · rw [if_neg e1, if_neg (fun q => e1 q.symm)]
    by_cases e2 : cn (68 + 5 * p + 1).toNatClampNeg = n
    · rw [if_pos e2, if_pos e2.symm]
    · rw [if_neg e2, if_neg (fun q => e2 q.symm)]
theorem get_w {F cn : Nat → Int32} {i : Int32} (hF : WE F cn) (h0 : 0 ≤ i.toInt) (h1 : i.toInt < 6) : fX6_get_6 1 F i 0 = cn (10 + i.toNatClampNeg) := by
  have e : i * 1 + 0 = i := by simp
  have a : ¬ i < 0 := by rw [Int32.lt_iff_toInt_lt, z_i0]; omega
  have b : ¬ 6 ≤ i := by rw [Int32.le_iff_toInt_le, show (6 : Int32).toInt = 6 from by decide]; omega
  unfold fX6_get_6
  simp only [bnd]
  rw [e, if_neg a, if_neg b]
  exact hF _ (show i.toInt.toNat < 6 by omega)
theorem t_1 {i : Int32} (h0 : 0 ≤ i.toInt) (h1 : i.toInt < 6) : (i + 1).toInt = i.toInt + 1 ∧ (i + 1).toNatClampNeg = i.toNatClampNeg + 1 := by
  have e := zadd1 (v := i) (by omega)
  refine ⟨e, ?_⟩
  show (i + 1).toInt.toNat = i.toInt.toNat + 1
  rw [e]; omega
theorem w9 {cn : Nat → Int32} (hr : WRc cn) : 0 ≤ (cn 9).toInt ∧ (cn 9).toInt ≤ 6 := by
  have a := hr.2.2.1
  rw [Int32.lt_iff_toInt_lt, Int32.lt_iff_toInt_lt, z_i0, show (6 : Int32).toInt = 6 from by decide] at a
  omega
theorem we_loop {cn F WF : Nat → Int32} {z : Int32} {E : Int32 → Int32 → Int32} (hF : PE F cn) (hz : z = cn 1) (hW : WE WF cn) (hr : WRc cn) : ∀ (n : Nat) (i : Int32), 0 ≤ i.toInt → i.toInt ≤ (cn 9).toInt → (cn 9).toInt - i.toInt < n → fl_mX9_wayEnd_7 z F (cn 9) WF E n i (wen cn i.toNatClampNeg) = E (cn 9) (wen cn (cn 9).toNatClampNeg) := by
  intro n
  induction n with
  | zero => intro i h0 h1 h2; omega
  | succ n ih =>
    intro i h0 h1 h2
    show fb_mX9_wayEnd_7 z F (cn 9) WF E (fl_mX9_wayEnd_7 z F (cn 9) WF E n) i (wen cn i.toNatClampNeg) = _
    unfold fb_mX9_wayEnd_7
    simp only [bnd]
    by_cases c : cn 9 ≤ i
    · have e : i = cn 9 := Int32.toInt_inj.mp (by rw [Int32.le_iff_toInt_le] at c; omega)
      rw [if_pos c, e]
    · rw [if_neg c]
      rw [Int32.le_iff_toInt_le] at c
      have h9 := w9 hr
      have hn : (i.toNatClampNeg : Int) = i.toInt := by show (i.toInt.toNat : Int) = i.toInt; omega
      obtain ⟨v0, v1⟩ := hr.2.2.2.1 i.toNatClampNeg (by omega) (by omega)
      obtain ⟨t1, t2⟩ := t_1 (i := i) h0 (by omega)
      rw [get_w hW h0 (by omega), oe_in hF hz hr.1.2 (hs_in v0 (by rw [hz]; exact v1))]
      have e3 : oth cn (cn (10 + i.toNatClampNeg)) (wen cn i.toNatClampNeg) = wen cn (i + 1).toNatClampNeg := by rw [t2]; rfl
      rw [e3]
      exact ih (i + 1) (by omega) (by omega) (by omega)
theorem cls_wayEnd {cn F WF : Nat → Int32} {z w s : Int32} (hF : PE F cn) (hz : z = cn 1) (hW : WE WF cn) (hw : w = cn 9) (hs8 : s = cn 8) (hr : WRc cn) : fX9_wayEnd z F w WF s = wen cn (cn 9).toNatClampNeg := by
  subst hw; subst hs8
  have h9 := w9 hr
  have := we_loop (E := fun _ x => x) hF hz hW hr (((cn 9).toInt - (0 : Int32).toInt).toNat + 1) 0 (by decide) (by rw [z_i0]; omega) (by rw [z_i0]; omega)
  unfold fX9_wayEnd
  exact this
theorem wh_loop {cn F WF : Nat → Int32} {z v : Int32} (hF : PE F cn) (hz : z = cn 1) (hW : WE WF cn) (hr : WRc cn) : ∀ (n : Nat) (i : Int32), 0 ≤ i.toInt → i.toInt ≤ (cn 9).toInt → (cn 9).toInt - i.toInt < n → ((∃ j, i.toNatClampNeg ≤ j ∧ j ≤ (cn 9).toNatClampNeg ∧ wen cn j = v) → fl_mX9_wayHas_7 z F (cn 9) WF v (fun _ x => if x = v then 1 else 0) n i (wen cn i.toNatClampNeg) = 1) ∧ ((∀ j, i.toNatClampNeg ≤ j → j ≤ (cn 9).toNatClampNeg → ¬ wen cn j = v) → fl_mX9_wayHas_7 z F (cn 9) WF v (fun _ x => if x = v then 1 else 0) n i (wen cn i.toNatClampNeg) = 0) := by
  intro n
  induction n with
  | zero => intro i h0 h1 h2; omega
  | succ n ih =>
    intro i h0 h1 h2
    show (_ → fb_mX9_wayHas_7 z F (cn 9) WF v _ (fl_mX9_wayHas_7 z F (cn 9) WF v _ n) i (wen cn i.toNatClampNeg) = 1) ∧ (_ → fb_mX9_wayHas_7 z F (cn 9) WF v _ (fl_mX9_wayHas_7 z F (cn 9) WF v _ n) i (wen cn i.toNatClampNeg) = 0)
    unfold fb_mX9_wayHas_7
    simp only [bnd]
    have hn : (i.toNatClampNeg : Int) = i.toInt := by show (i.toInt.toNat : Int) = i.toInt; omega
    have h9 := w9 hr
    have hk : ((cn 9).toNatClampNeg : Int) = (cn 9).toInt := by show ((cn 9).toInt.toNat : Int) = (cn 9).toInt; omega
    by_cases c : cn 9 ≤ i
    · rw [if_pos c]
      have e : i.toInt = (cn 9).toInt := by rw [Int32.le_iff_toInt_le] at c; omega
      constructor
      · rintro ⟨j, j1, j2, ej⟩
        have : j = i.toNatClampNeg := by omega
        subst this
        rw [if_pos ej]
      · intro h
        rw [if_neg (h _ (Nat.le_refl _) (by omega))]
    · rw [if_neg c]
      rw [Int32.le_iff_toInt_le] at c
      by_cases q : wen cn i.toNatClampNeg = v
      · rw [if_pos q, if_pos q]
        exact ⟨fun _ => rfl, fun h => absurd q (h _ (Nat.le_refl _) (by omega))⟩
      · rw [if_neg q]
        obtain ⟨v0, v1⟩ := hr.2.2.2.1 i.toNatClampNeg (by omega) (by omega)
        obtain ⟨t1, t2⟩ := t_1 (i := i) h0 (by omega)
        rw [get_w hW h0 (by omega), oe_in hF hz hr.1.2 (hs_in v0 (by rw [hz]; exact v1))]
        have e3 : oth cn (cn (10 + i.toNatClampNeg)) (wen cn i.toNatClampNeg) = wen cn (i + 1).toNatClampNeg := by rw [t2]; rfl
        rw [e3]
        obtain ⟨r1, r2⟩ := ih (i + 1) (by omega) (by omega) (by omega)
        refine ⟨fun h => r1 ?_, fun h => r2 (fun j j1 j2 => h j (by omega) j2)⟩
        obtain ⟨j, j1, j2, ej⟩ := h
        refine ⟨j, ?_, j2, ej⟩
        by_cases q2 : j = i.toNatClampNeg
        · rw [q2] at ej; exact absurd ej q
        · omega
theorem cls_wayHas {cn F WF : Nat → Int32} {z w s v : Int32} (hF : PE F cn) (hz : z = cn 1) (hW : WE WF cn) (hw : w = cn 9) (hs8 : s = cn 8) (hr : WRc cn) : fX9_wayHas z F w WF s v = if ofw cn v (cn 9).toNatClampNeg = true then 1 else 0 := by
  subst hw; subst hs8
  have h9 := w9 hr
  obtain ⟨r1, r2⟩ := wh_loop (v := v) hF hz hW hr (((cn 9).toInt - (0 : Int32).toInt).toNat + 1) 0 (by decide) (by rw [z_i0]; omega) (by rw [z_i0]; omega)
  unfold fX9_wayHas
  by_cases q : ofw cn v (cn 9).toNatClampNeg = true
  · rw [if_pos q]
    obtain ⟨j, j1, ej⟩ := (ofw_iff _).mp q
    exact r1 ⟨j, Nat.zero_le _, j1, ej⟩
  · rw [if_neg q]
    exact r2 (fun j _ j2 ej => q ((ofw_iff _).mpr ⟨j, j2, ej⟩))
def lay_ok (p : Int32) (cn : Nat → Int32) : Bool := !decide (cn 8 < 0) && !decide (hs p (cn 1) = 0) && !decide (cn 9 = 6) && !decide (oth cn p (wen cn (cn 9).toNatClampNeg) < 0) && !ofw cn (oth cn p (wen cn (cn 9).toNatClampNeg)) (cn 9).toNatClampNeg
def lay_r (p : Int32) (cn : Nat → Int32) : Int32 := if lay_ok p cn = true then cn 9 + 1 else -1
def lay_cn (p : Int32) (cn : Nat → Int32) : Nat → Int32 := if lay_ok p cn = true then cup (upd cn (10 + (cn 9).toNatClampNeg) p) 9 (cn 9 + 1) else cn
theorem lay_no {p : Int32} {cn : Nat → Int32} (h : cn 8 < 0 ∨ hs p (cn 1) = 0 ∨ cn 9 = 6 ∨ oth cn p (wen cn (cn 9).toNatClampNeg) < 0 ∨ ofw cn (oth cn p (wen cn (cn 9).toNatClampNeg)) (cn 9).toNatClampNeg = true) : lay_r p cn = -1 ∧ lay_cn p cn = cn := by
  have e : ¬ lay_ok p cn = true := by
    unfold lay_ok
    rcases h with h | h | h | h | h <;> simp [h]
  exact ⟨if_neg e, if_neg e⟩
theorem lay_yes {p : Int32} {cn : Nat → Int32} (h1 : ¬ cn 8 < 0) (h2 : ¬ hs p (cn 1) = 0) (h3 : ¬ cn 9 = 6) (h4 : ¬ oth cn p (wen cn (cn 9).toNatClampNeg) < 0) (h5 : ¬ ofw cn (oth cn p (wen cn (cn 9).toNatClampNeg)) (cn 9).toNatClampNeg = true) : lay_r p cn = cn 9 + 1 ∧ lay_cn p cn = cup (upd cn (10 + (cn 9).toNatClampNeg) p) 9 (cn 9 + 1) := by
  have e : lay_ok p cn = true := by
    unfold lay_ok
    simp [h1, h2, h3, h4, h5]
  exact ⟨if_pos e, if_pos e⟩
theorem oth_w {cn : Nat → Int32} {p n : Int32} (hr : WRc cn) (h0 : ¬ p < 0) (h1 : ¬ 20 ≤ p) : ¬ oth cn p n < -1 := by
  have hj := zc_j (n := 20) (by decide) h0 h1
  have q := hr.2.2.2.2 _ hj
  unfold oth
  rw [c_pass h0 h1 (by decide) (by decide), c_pass h0 h1 (by decide) (by decide), c_k0, c_k1, Nat.add_zero, show 68 + 5 * p.toNatClampNeg + 1 = 69 + 5 * p.toNatClampNeg from by omega]
  have a := q.1.1
  have b := q.2.1
  split
  · grind
  · split
    · grind
    · decide
theorem neg1 {t : Int32} (h : ¬ t < -1) : t < 0 ↔ t = -1 := by
  rw [Int32.lt_iff_toInt_lt] at h ⊢
  rw [show (-1 : Int32).toInt = -1 from by decide] at h
  rw [z_i0]
  constructor
  · intro q
    exact Int32.toInt_inj.mp (by rw [show (-1 : Int32).toInt = -1 from by decide]; omega)
  · intro q
    rw [q, show (-1 : Int32).toInt = -1 from by decide]; decide
theorem grow_6 {w : Int32} (h0 : 0 ≤ w.toInt) (h6 : w.toInt ≤ 6) : fX6_grow_6 1 w = if w = 6 then (w, -1) else (w + 1, w) := by
  have e := zadd1 (v := w) (by omega)
  unfold fX6_grow_6
  simp only [bnd]
  rw [Int32.mul_one]
  by_cases q : w = 6
  · rw [if_pos q, q]; rfl
  · have q2 : w.toInt ≠ 6 := fun x => q (Int32.toInt_inj.mp (by rw [x]; decide))
    have c : w + 1 ≤ 6 := by rw [Int32.le_iff_toInt_le, e, show (6 : Int32).toInt = 6 from by decide]; omega
    rw [if_neg q, if_pos c, gr_sub]
theorem put_w {F : Nat → Int32} {i v : Int32} (h0 : 0 ≤ i.toInt) (h1 : i.toInt < 6) : fX6_put_6 1 F i 0 v = upd F i.toNatClampNeg v := by
  have e : i * 1 + 0 = i := by simp
  have a : ¬ i < 0 := by rw [Int32.lt_iff_toInt_lt, z_i0]; omega
  have b : ¬ 6 ≤ i := by rw [Int32.le_iff_toInt_le, show (6 : Int32).toInt = 6 from by decide]; omega
  unfold fX6_put_6
  simp only [bnd]
  rw [e, if_neg a, if_neg b]
/-- lay, by the class -/
theorem cls_lay {cn F WF : Nat → Int32} {z w s p : Int32} (hF : PE F cn) (hz : z = cn 1) (hW : WE WF cn) (hw : w = cn 9) (hs8 : s = cn 8) (hr : WRc cn) : (fX10_lay z F w WF s p).2.2 = lay_r p cn ∧ (fX10_lay z F w WF s p).1 = lay_cn p cn 9 ∧ WE (fX10_lay z F w WF s p).2.1 (lay_cn p cn) := by
  have no : ∀ q : Int32 × (Nat → Int32) × Int32, q = (w, WF, -1) → (lay_r p cn = -1 ∧ lay_cn p cn = cn) → q.2.2 = lay_r p cn ∧ q.1 = lay_cn p cn 9 ∧ WE q.2.1 (lay_cn p cn) := by
    rintro q rfl ⟨e1, e2⟩
    rw [e1, e2]
    exact ⟨rfl, hw, hW⟩
  have e1 := cls_wayEnd hF hz hW hw hs8 hr
  have h9 := w9 hr
  by_cases a8 : s = -1
  · exact no _ (by unfold fX10_lay; rw [if_pos a8]) (lay_no (Or.inl (by rw [← hs8, a8]; decide)))
  · have a8' : ¬ cn 8 < 0 := fun q => a8 (by rw [hs8]; exact (neg1 hr.2.1.1).mp q)
    by_cases b : hs p z = 0
    · refine no _ ?_ (lay_no (Or.inr (Or.inl (by rw [← hz]; exact b))))
      have e2 : fX9_otherEnd z F p (wen cn (cn 9).toNatClampNeg) = -1 := by unfold fX9_otherEnd; rw [if_pos b]
      unfold fX10_lay
      simp only [bnd]
      rw [if_neg a8, e1, e2, if_pos rfl]
    · have e2 := oe_in (n := wen cn (cn 9).toNatClampNeg) hF hz hr.1.2 b
      obtain ⟨b0, b1⟩ := hs_ne b
      have hp20 : ¬ 20 ≤ p := by
        have := hr.1.2
        rw [hz] at b1; grind
      have ht := neg1 (oth_w (n := wen cn (cn 9).toNatClampNeg) hr b0 hp20)
      by_cases c : oth cn p (wen cn (cn 9).toNatClampNeg) = -1
      · refine no _ ?_ (lay_no (Or.inr (Or.inr (Or.inr (Or.inl (ht.mpr c))))))
        unfold fX10_lay
        simp only [bnd]
        rw [if_neg a8, e1, e2, if_pos c]
      · have e3 := cls_wayHas (v := oth cn p (wen cn (cn 9).toNatClampNeg)) hF hz hW hw hs8 hr
        by_cases d : ofw cn (oth cn p (wen cn (cn 9).toNatClampNeg)) (cn 9).toNatClampNeg = true
        · refine no _ ?_ (lay_no (Or.inr (Or.inr (Or.inr (Or.inr d)))))
          unfold fX10_lay
          simp only [bnd]
          rw [if_neg a8, e1, e2, if_neg c, e3, if_pos d, if_neg (by decide)]
        · rw [if_neg d] at e3
          have g := grow_6 (w := w) (by rw [hw]; omega) (by rw [hw]; omega)
          by_cases k6 : w = 6
          · refine no _ ?_ (lay_no (Or.inr (Or.inr (Or.inl (by rw [← hw]; exact k6)))))
            rw [if_pos k6] at g
            unfold fX10_lay
            simp only [bnd]
            rw [if_neg a8, e1, e2, if_neg c, e3, if_pos rfl, g, if_pos rfl]
          · rw [if_neg k6] at g
            have k6' : ¬ w.toInt = 6 := fun q => k6 (Int32.toInt_inj.mp (by rw [q]; decide))
            have hw0 : ¬ w = -1 := fun q => by
              have := h9.1
              rw [← hw, q, show (-1 : Int32).toInt = -1 from by decide] at this
              omega
            obtain ⟨y1, y2⟩ := lay_yes (p := p) (cn := cn) a8' (by rw [← hz]; exact b) (by rw [← hw]; exact k6) (fun q => c (ht.mp q)) d
            have e4 : fX10_lay z F w WF s p = (w + 1, upd WF w.toNatClampNeg p, w + 1) := by
              unfold fX10_lay
              simp only [bnd]
              rw [if_neg a8, e1, e2, if_neg c, e3, if_pos rfl, g]
              show (if w = -1 then _ else (w + 1, fX6_put_6 1 WF w 0 p, w + 1)) = _
              rw [if_neg hw0, put_w (by rw [hw]; omega) (by rw [hw] at k6' ⊢; omega)]
            rw [e4, y1, y2, ← hw]
            refine ⟨rfl, (cup_at).symm, ?_⟩
            exact WE_c (WE_u hW) (by decide)
theorem oth_eq {f cn : Nat → Int32} {p n : Int32} (hd : PD f cn) (h0 : ¬ p < 0) (h1 : ¬ 20 ≤ p) : oth f p n = oth cn p n := by
  have hj := zc_j (n := 20) (by decide) h0 h1
  unfold oth
  rw [c_pass h0 h1 (by decide) (by decide), c_pass h0 h1 (by decide) (by decide), c_k0, c_k1, hd _ (Or.inr ⟨by omega, by omega⟩), hd _ (Or.inr ⟨by omega, by omega⟩)]
theorem ten {i : Int32} (h0 : 0 ≤ i.toInt) (h1 : i.toInt < 7) : (10 + i).toNatClampNeg = 10 + i.toNatClampNeg := by
  show (10 + i).toInt.toNat = 10 + i.toInt.toNat
  have h10 : (10 : Int32).toInt = 10 := by decide
  rw [zadd (by rw [h10]; omega) (by rw [h10]; omega), h10]
  omega
theorem step_r {f cn : Nat → Int32} {i : Int32} (hd : PD f cn) (hr : WRc cn) (h0 : 0 ≤ i.toInt) (h1 : i.toInt < (cn 9).toInt) : oth f (f (10 + i).toNatClampNeg) (wen cn i.toNatClampNeg) = wen cn (i + 1).toNatClampNeg := by
  have h9 := w9 hr
  have hn : (i.toNatClampNeg : Int) = i.toInt := by show (i.toInt.toNat : Int) = i.toInt; omega
  obtain ⟨v0, v1⟩ := hr.2.2.2.1 i.toNatClampNeg (by omega) (by omega)
  have v2 : ¬ 20 ≤ cn (10 + i.toNatClampNeg) := by
    have := hr.1.2
    grind
  rw [ten h0 (by omega), hd _ (Or.inl ⟨by omega, by omega⟩), oth_eq hd v0 v2, (t_1 h0 (by omega)).2]
  rfl
theorem rwe_loop {f cn : Nat → Int32} {E : Int32 → Int32 → Int32} (hd : PD f cn) (hr : WRc cn) : ∀ (n : Nat) (i : Int32), 0 ≤ i.toInt → i.toInt ≤ (cn 9).toInt → (cn 9).toInt - i.toInt < n → fl_mX11_wayEnd_10 f (cn 9) E n i (wen cn i.toNatClampNeg) = E (cn 9) (wen cn (cn 9).toNatClampNeg) := by
  intro n
  induction n with
  | zero => intro i h0 h1 h2; omega
  | succ n ih =>
    intro i h0 h1 h2
    show fb_mX11_wayEnd_10 f (cn 9) E (fl_mX11_wayEnd_10 f (cn 9) E n) i (wen cn i.toNatClampNeg) = _
    unfold fb_mX11_wayEnd_10
    simp only [bnd]
    by_cases c : cn 9 ≤ i
    · have e : i = cn 9 := Int32.toInt_inj.mp (by rw [Int32.le_iff_toInt_le] at c; omega)
      rw [if_pos c, e]
    · rw [if_neg c]
      rw [Int32.le_iff_toInt_le] at c
      have h9 := w9 hr
      rw [step_r hd hr h0 (by omega)]
      obtain ⟨t1, t2⟩ := t_1 (i := i) h0 (by omega)
      exact ih (i + 1) (by omega) (by omega) (by omega)
theorem ref_wayEnd {f cn : Nat → Int32} (hd : PD f cn) (hr : WRc cn) : fX11_wayEnd f (cn 8) (cn 9) = wen cn (cn 9).toNatClampNeg := by
  have h9 := w9 hr
  have := rwe_loop (E := fun _ x => x) hd hr (((cn 9).toInt - (0 : Int32).toInt).toNat + 1) 0 (by decide) (by rw [z_i0]; omega) (by rw [z_i0]; omega)
  unfold fX11_wayEnd
  exact this
theorem rof_loop {f cn : Nat → Int32} {v : Int32} (hd : PD f cn) (hr : WRc cn) : ∀ (n : Nat) (i : Int32), 0 ≤ i.toInt → i.toInt ≤ (cn 9).toInt → (cn 9).toInt - i.toInt < n → fl_mX11_isOfWay_22 f (cn 9) v (fun _ x _ => x) n i (if ofw cn v i.toNatClampNeg = true then 1 else 0) (wen cn i.toNatClampNeg) = if ofw cn v (cn 9).toNatClampNeg = true then 1 else 0 := by
  intro n
  induction n with
  | zero => intro i h0 h1 h2; omega
  | succ n ih =>
    intro i h0 h1 h2
    show fb_mX11_isOfWay_22 f (cn 9) v _ (fl_mX11_isOfWay_22 f (cn 9) v _ n) i _ (wen cn i.toNatClampNeg) = _
    unfold fb_mX11_isOfWay_22
    simp only [bnd]
    by_cases c : cn 9 ≤ i
    · have e : i = cn 9 := Int32.toInt_inj.mp (by rw [Int32.le_iff_toInt_le] at c; omega)
      rw [if_pos c, e]
    · rw [if_neg c]
      rw [Int32.le_iff_toInt_le] at c
      have h9 := w9 hr
      rw [step_r hd hr h0 (by omega)]
      obtain ⟨t1, t2⟩ := t_1 (i := i) h0 (by omega)
      have go := ih (i + 1) (by omega) (by omega) (by omega)
      have e4 : ofw cn v (i + 1).toNatClampNeg = (ofw cn v i.toNatClampNeg || decide (wen cn (i + 1).toNatClampNeg = v)) := by rw [t2]; rfl
      rw [e4] at go
      by_cases q : ofw cn v i.toNatClampNeg = true
      · rw [if_pos q, if_neg (by decide)]
        rw [q, Bool.true_or, if_pos rfl] at go
        exact go
      · rw [if_neg q, if_pos rfl]
        have q' : ofw cn v i.toNatClampNeg = false := Bool.eq_false_iff.mpr q
        rw [q', Bool.false_or] at go
        by_cases u : wen cn (i + 1).toNatClampNeg = v
        · rw [if_pos u]
          rw [if_pos (decide_eq_true u)] at go
          exact go
        · rw [if_neg u]
          rw [if_neg (fun x => u (of_decide_eq_true x))] at go
          exact go
theorem of_same (f : Nat → Int32) (z v : Int32) (E : Int32 → Int32 → Int32 → Int32) : ∀ (n : Nat) (i a b : Int32), fl_mX11_isOfWay_22_1 f z v E n i a b = fl_mX11_isOfWay_22 f z v E n i a b
  | 0, _, _, _ => rfl
  | n + 1, i, a, b => by
    have h : fl_mX11_isOfWay_22_1 f z v E n = fl_mX11_isOfWay_22 f z v E n := funext fun i => funext fun a => funext fun b => of_same f z v E n i a b
    show fb_mX11_isOfWay_22_1 f z v E (fl_mX11_isOfWay_22_1 f z v E n) i a b = fb_mX11_isOfWay_22 f z v E (fl_mX11_isOfWay_22 f z v E n) i a b
    rw [h]
    rfl
theorem ref_isOfWay {f cn : Nat → Int32} {v : Int32} (hd : PD f cn) (hr : WRc cn) : fX11_isOfWay f (cn 8) (cn 9) v = if ofw cn v (cn 9).toNatClampNeg = true then 1 else 0 := by
  have h9 := w9 hr
  have r := rof_loop (v := v) hd hr (((cn 9).toInt - (0 : Int32).toInt).toNat + 1) 0 (by decide) (by rw [z_i0]; omega) (by rw [z_i0]; omega)
  have e0 : ofw cn v (0 : Int32).toNatClampNeg = decide (cn 8 = v) := rfl
  rw [e0] at r
  unfold fX11_isOfWay
  by_cases q : cn 8 = v
  · rw [if_pos q, of_same]
    rw [if_pos (decide_eq_true q)] at r
    exact r
  · rw [if_neg q]
    rw [if_neg (fun x => q (of_decide_eq_true x))] at r
    exact r
/-- lay, by the reference -/
theorem ref_lay {f cn : Nat → Int32} {p : Int32} (hd : PD f cn) (hr : WRc cn) (e8 : f 8 = cn 8) (e9 : f 9 = cn 9) : (fX11_lay f (cn 1) (cn 8) (cn 9) p).2 = lay_r p cn ∧ PD (fX11_lay f (cn 1) (cn 8) (cn 9) p).1 (lay_cn p cn) ∧ (fX11_lay f (cn 1) (cn 8) (cn 9) p).1 8 = lay_cn p cn 8 ∧ (fX11_lay f (cn 1) (cn 8) (cn 9) p).1 9 = lay_cn p cn 9 := by
  have no : ∀ q : (Nat → Int32) × Int32, q = (f, -1) → (lay_r p cn = -1 ∧ lay_cn p cn = cn) → q.2 = lay_r p cn ∧ PD q.1 (lay_cn p cn) ∧ q.1 8 = lay_cn p cn 8 ∧ q.1 9 = lay_cn p cn 9 := by
    rintro q rfl ⟨e1, e2⟩
    rw [e1, e2]
    exact ⟨rfl, hd, e8, e9⟩
  have e1 := ref_wayEnd hd hr
  have h9 := w9 hr
  by_cases a8 : cn 8 < 0
  · exact no _ (by unfold fX11_lay; rw [if_pos a8]) (lay_no (Or.inl a8))
  · by_cases b : hs p (cn 1) = 0
    · exact no _ (by unfold fX11_lay; rw [if_neg a8, if_pos b]) (lay_no (Or.inr (Or.inl b)))
    · by_cases k6 : cn 9 = 6
      · exact no _ (by unfold fX11_lay; rw [if_neg a8, if_neg b, if_pos k6]) (lay_no (Or.inr (Or.inr (Or.inl k6))))
      · obtain ⟨b0, b1⟩ := hs_ne b
        have hp20 : ¬ 20 ≤ p := by
          have := hr.1.2
          grind
        have e2 := oth_eq (n := wen cn (cn 9).toNatClampNeg) hd b0 hp20
        by_cases c : oth cn p (wen cn (cn 9).toNatClampNeg) < 0
        · refine no _ ?_ (lay_no (Or.inr (Or.inr (Or.inr (Or.inl c)))))
          unfold fX11_lay
          simp only [bnd]
          rw [if_neg a8, if_neg b, if_neg k6, e1, e2, if_pos c]
        · have e3 := ref_isOfWay (v := oth cn p (wen cn (cn 9).toNatClampNeg)) hd hr
          by_cases d : ofw cn (oth cn p (wen cn (cn 9).toNatClampNeg)) (cn 9).toNatClampNeg = true
          · refine no _ ?_ (lay_no (Or.inr (Or.inr (Or.inr (Or.inr d)))))
            unfold fX11_lay
            simp only [bnd]
            rw [if_neg a8, if_neg b, if_neg k6, e1, e2, if_neg c, e3, if_pos d, if_neg (by decide)]
          · rw [if_neg d] at e3
            obtain ⟨y1, y2⟩ := lay_yes a8 b k6 c d
            have k6' : ¬ (cn 9).toInt = 6 := fun q => k6 (Int32.toInt_inj.mp (by rw [q]; decide))
            have e4 : fX11_lay f (cn 1) (cn 8) (cn 9) p = (upd (upd f (10 + cn 9).toNatClampNeg p) (9 : Int32).toNatClampNeg (cn 9 + 1), cn 9 + 1) := by
              unfold fX11_lay
              simp only [bnd]
              rw [if_neg a8, if_neg b, if_neg k6, e1, e2, if_neg c, e3, if_pos rfl]
              show (_, upd _ 9 _ 9) = _
              rw [pk_us]
            rw [e4, y1, y2, ten h9.1 (by omega)]
            refine ⟨rfl, ?_, ?_, ?_⟩
            · intro i hi
              have hi9 : i ≠ 9 := by unfold Kd at hi; omega
              show upd (upd f (10 + (cn 9).toNatClampNeg) p) 9 (cn 9 + 1) i = _
              rw [upd_ne (Ne.symm hi9), cup_ne hi9]
              exact PD_u hd i hi
            · show upd (upd f (10 + (cn 9).toNatClampNeg) p) 9 (cn 9 + 1) 8 = _
              rw [upd_ne (by decide), upd_ne (by omega), cup_ne (by decide), upd_ne (by omega)]
              exact e8
            · show upd (upd f (10 + (cn 9).toNatClampNeg) p) 9 (cn 9 + 1) 9 = _
              rw [pk_us, cup_at]
theorem WE_of {F G cn : Nat → Int32} (e : F = G) (h : WE G cn) : WE F cn := by rw [e]; exact h
theorem PE_of {F G cn : Nat → Int32} (e : F = G) (h : PE G cn) : PE F cn := by rw [e]; exact h
theorem WE_ps {F cn : Nat → Int32} {p0 p1 p2 p3 p4 : Int32} (h : WE F cn) (h0 : ¬ cn 1 < 0) (h1 : ¬ 20 < cn 1) : WE F (ps_cn p0 p1 p2 p3 p4 cn) := fun i hi => (h i hi).trans (ps_lo h0 h1 (by omega) (by omega)).symm
theorem PE_psf {F cn : Nat → Int32} {p0 p1 p2 p3 p4 : Int32} (h : PE F cn) (e : 20 = cn 1) : PE F (ps_cn p0 p1 p2 p3 p4 cn) := by
  unfold ps_cn
  have e2 : ok_ps p0 p1 p2 p3 p4 (cn 0) (cn 1) = 0 := by unfold ok_ps; rw [if_pos e.symm]
  rw [e2]
  exact PE_c h (by decide)
theorem lay_lo {p : Int32} {cn : Nat → Int32} {j : Nat} (h9 : j < 10) (hj : j ≠ 9) : lay_cn p cn j = cn j := by
  unfold lay_cn
  split
  · rw [cup_ne hj, upd_ne (by omega)]
  · rfl
theorem PE_lay {F cn : Nat → Int32} {p : Int32} (h : PE F cn) (hr : WRc cn) : PE F (lay_cn p cn) := by
  intro i hi
  have h9 := w9 hr
  have hk : (cn 9).toNatClampNeg ≤ 6 := by show (cn 9).toInt.toNat ≤ 6; omega
  rw [h i hi]
  unfold lay_cn
  split
  · rw [cup_ne (by omega), upd_ne (by omega)]
  · rfl
def fr_cn (p : Int32) (cn : Nat → Int32) : Nat → Int32 := if hs p (cn 0) = 0 then cn else cup (cup cn 8 p) 9 0
theorem fr_lo {p : Int32} {cn : Nat → Int32} {j : Nat} (h8 : j ≠ 8) (h9 : j ≠ 9) : fr_cn p cn j = cn j := by
  unfold fr_cn
  split
  · rfl
  · rw [cup_ne h9, cup_ne h8]
theorem WE_fr {F cn : Nat → Int32} {p : Int32} (h : WE F cn) : WE F (fr_cn p cn) := fun i hi => (h i hi).trans (fr_lo (by omega) (by omega)).symm
theorem PE_fr {F cn : Nat → Int32} {p : Int32} (h : PE F cn) : PE F (fr_cn p cn) := fun i hi => (h i hi).trans (fr_lo (by omega) (by omega)).symm
theorem cls_from {cn : Nat → Int32} {n w s p : Int32} (e0 : n = cn 0) (e8 : s = cn 8) (e9 : w = cn 9) : (fX10_from_ok n w s p).1 = fr_cn p cn 8 ∧ (fX10_from_ok n w s p).2 = fr_cn p cn 9 := by
  unfold fX10_from_ok fr_cn
  rw [e0]
  split
  · exact ⟨e8, e9⟩
  · refine ⟨?_, ?_⟩
    · rw [cup_ne (by decide), cup_at]
    · rw [cup_at]
theorem SC_frc {f g cn : Nat → Int32} {p : Int32} (h : SC g (cn 0) (cn 1) (cn 2) (cn 3) (cn 4) (cn 5) (g 8) (g 9) cn) (e : g = fX11_from f (cn 0) p) (hf : SC f (cn 0) (cn 1) (cn 2) (cn 3) (cn 4) (cn 5) (cn 8) (cn 9) cn) : SC g (fr_cn p cn 0) (fr_cn p cn 1) (fr_cn p cn 2) (fr_cn p cn 3) (fr_cn p cn 4) (fr_cn p cn 5) (fr_cn p cn 8) (fr_cn p cn 9) (fr_cn p cn) := by
  have g8 : g 8 = fr_cn p cn 8 := by
    rw [e]
    unfold fX11_from fr_cn
    simp only [bnd]
    split
    · exact hf.1.2.2.2.2.2.2.1
    · rw [cup_ne (by decide), cup_at]
      exact (upd_ne (by decide)).trans pk_us
  have g9 : g 9 = fr_cn p cn 9 := by
    rw [e]
    unfold fX11_from fr_cn
    simp only [bnd]
    split
    · exact hf.1.2.2.2.2.2.2.2
    · rw [cup_at]
      exact pk_us
  rw [fr_lo (j := 0) (by decide) (by decide), fr_lo (j := 1) (by decide) (by decide), fr_lo (j := 2) (by decide) (by decide), fr_lo (j := 3) (by decide) (by decide), fr_lo (j := 4) (by decide) (by decide), fr_lo (j := 5) (by decide) (by decide), ← g8, ← g9]
  exact SC_pdx h (fun i hi => (fr_lo (by unfold Kd at hi; omega) (by unfold Kd at hi; omega)).symm)
theorem SC_layc {g G cn : Nat → Int32} {p : Int32} (h : SC g (cn 0) (cn 1) (cn 2) (cn 3) (cn 4) (cn 5) (g 8) (g 9) g) (e : g = G) (y2 : PD G (lay_cn p cn)) (y3 : G 8 = lay_cn p cn 8) (y4 : G 9 = lay_cn p cn 9) : SC g (lay_cn p cn 0) (lay_cn p cn 1) (lay_cn p cn 2) (lay_cn p cn 3) (lay_cn p cn 4) (lay_cn p cn 5) (lay_cn p cn 8) (lay_cn p cn 9) (lay_cn p cn) := by
  subst e
  rw [lay_lo (j := 0) (by decide) (by decide), lay_lo (j := 1) (by decide) (by decide), lay_lo (j := 2) (by decide) (by decide), lay_lo (j := 3) (by decide) (by decide), lay_lo (j := 4) (by decide) (by decide), lay_lo (j := 5) (by decide) (by decide), ← y3, ← y4]
  exact SC_pdx h y2
theorem cpy_6 {f g : Nat → Int32} {i : Nat} (h : i < 6) : fX6_copyFrom_x6 g f i = f i := by
  show (if (0 : Int32).toNatClampNeg ≤ i ∧ i < (0 : Int32).toNatClampNeg + (6 : Int32).toNatClampNeg then f ((0 : Int32).toNatClampNeg + (i - (0 : Int32).toNatClampNeg)) else g i) = f i
  rw [c_k0, c_k6, if_pos ⟨Nat.zero_le _, by omega⟩, Nat.zero_add, Nat.sub_zero]
theorem cpy_100 {f g : Nat → Int32} {i : Nat} (h : i < 100) : fX6_copyFrom_x100 g f i = f i := by
  show (if (0 : Int32).toNatClampNeg ≤ i ∧ i < (0 : Int32).toNatClampNeg + (100 : Int32).toNatClampNeg then f ((0 : Int32).toNatClampNeg + (i - (0 : Int32).toNatClampNeg)) else g i) = f i
  rw [c_k0, show (100 : Int32).toNatClampNeg = 100 from by decide, if_pos ⟨Nat.zero_le _, by omega⟩, Nat.zero_add, Nat.sub_zero]
theorem WE_cp {a1 a2 a3 a4 a5 a6 b1 b2 b3 b4 b5 b6 cn : Nat → Int32} (h : WE a6 cn) : WE (fX10_image_some a1 a2 a3 a4 a5 a6 b1 b2 b3 b4 b5 b6).2.2.2.2.2 cn := fun i hi => (show fX6_copyFrom_x6 b6 a6 i = cn (10 + i) from (cpy_6 hi).trans (h i hi))
theorem PE_cp {a1 a2 a3 a4 a5 a6 b1 b2 b3 b4 b5 b6 cn : Nat → Int32} (h : PE a2 cn) : PE (fX10_image_some a1 a2 a3 a4 a5 a6 b1 b2 b3 b4 b5 b6).2.1 cn := fun i hi => (show fX6_copyFrom_x100 b2 a2 i = cn (68 + i) from (cpy_100 hi).trans (h i hi))
theorem WE_cpb {a1 a2 a3 a4 a5 a6 b1 b2 b3 b4 b5 b6 cn : Nat → Int32} (h : WE b6 cn) : WE (fX10_back_some a1 a2 a3 a4 a5 a6 b1 b2 b3 b4 b5 b6).2.2.2.2.2 cn := fun i hi => (show fX6_copyFrom_x6 a6 b6 i = cn (10 + i) from (cpy_6 hi).trans (h i hi))
theorem PE_cpb {a1 a2 a3 a4 a5 a6 b1 b2 b3 b4 b5 b6 cn : Nat → Int32} (h : PE b2 cn) : PE (fX10_back_some a1 a2 a3 a4 a5 a6 b1 b2 b3 b4 b5 b6).2.1 cn := fun i hi => (show fX6_copyFrom_x100 a2 b2 i = cn (68 + i) from (cpy_100 hi).trans (h i hi))
theorem WE_cpn {a1 a2 a3 a4 a5 a6 cn : Nat → Int32} (h : WE a6 cn) : WE (fX10_image_none a1 a2 a3 a4 a5 a6).2.2.2.2.2 cn := fun i hi => (show fX6_copyFrom_x6 (fun _ => 0) a6 i = cn (10 + i) from (cpy_6 hi).trans (h i hi))
theorem PE_cpn {a1 a2 a3 a4 a5 a6 cn : Nat → Int32} (h : PE a2 cn) : PE (fX10_image_none a1 a2 a3 a4 a5 a6).2.1 cn := fun i hi => (show fX6_copyFrom_x100 (fun _ => 0) a2 i = cn (68 + i) from (cpy_100 hi).trans (h i hi))
theorem SC_new2 : SC (upd (fun _ => 0) 8 (-1)) (cup (fun _ => 0) 8 (-1) 0) (cup (fun _ => 0) 8 (-1) 1) (cup (fun _ => 0) 8 (-1) 2) (cup (fun _ => 0) 8 (-1) 3) (cup (fun _ => 0) 8 (-1) 4) (cup (fun _ => 0) 8 (-1) 5) (cup (fun _ => 0) 8 (-1) 8) (cup (fun _ => 0) 8 (-1) 9) (cup (fun _ => 0) 8 (-1)) := by
  rw [cup_ne (by decide), cup_ne (by decide), cup_ne (by decide), cup_ne (by decide), cup_ne (by decide), cup_ne (by decide), cup_at, cup_ne (by decide)]
  exact SC_pdx SC_new (fun i hi => (cup_ne (f := fun _ => 0) (k := 8) (j := i) (by unfold Kd at hi; omega)).symm)
