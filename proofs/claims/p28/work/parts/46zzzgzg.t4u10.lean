set_option maxHeartbeats 400000 in
theorem srG_le {S : Nat → Int32} {L : Cls} {fe sa tgt lat u d h p b : Int32} {j : Nat} {v : Int32 → Bool} (g : GD S) (d0 : 0 ≤ d.toInt) (d9 : d.toInt ≤ 99999) (e : d.toInt ≤ b.toInt) : srG S L fe sa tgt lat j v u d h p b = b := by
  unfold srG
  split
  · rfl
  · split
    · rfl
    · have x := crD_in (nd := 1) (S := S) (L := L) (pass := p) (to := oth S p u) (fe := fe) (sa := sa) (mo := 0) (h := h) d0 d9
      exact sr_le g j _ _ _ _ b x.1 (by omega) (by omega)
set_option maxHeartbeats 400000 in
theorem srG_in {S : Nat → Int32} {L : Cls} {fe sa tgt lat u d h p b : Int32} {j : Nat} {v : Int32 → Bool} (g : GD S) (d0 : 0 ≤ d.toInt) (d9 : d.toInt ≤ 99999) (b9 : b.toInt ≤ 99999) : b.toInt ≤ (srG S L fe sa tgt lat j v u d h p b).toInt ∧ (srG S L fe sa tgt lat j v u d h p b).toInt ≤ 99999 := by
  unfold srG
  split
  · omega
  · split
    · omega
    · have x := crD_in (nd := 1) (S := S) (L := L) (pass := p) (to := oth S p u) (fe := fe) (sa := sa) (mo := 0) (h := h) d0 d9
      exact sr_in g j _ _ _ _ b x.1 (by omega) b9
/-- what more one has at the start only hides what is less -/
def MXP (x y b : Int32) : Prop := (x.toInt ≤ b.toInt → y = b) ∧ (b.toInt < x.toInt → y = x)
set_option maxHeartbeats 400000 in
theorem srP_mx {g : Int32 → Int32 → Int32} {z : Int32} (hi : ∀ p a : Int32, 0 ≤ p.toInt → p.toInt < z.toInt → a.toInt ≤ 99999 → a.toInt ≤ (g p a).toInt ∧ (g p a).toInt ≤ 99999) (hm : ∀ p a b : Int32, a.toInt ≤ b.toInt → b.toInt ≤ 99999 → MXP (g p a) (g p b) b) (z1 : z.toInt ≤ 20) : ∀ (n : Nat) (p a b : Int32), 0 ≤ p.toInt → p.toInt + n = z.toInt → a.toInt ≤ b.toInt → b.toInt ≤ 99999 → MXP (srP g n p a) (srP g n p b) b
  | 0, _, a, b, _, _, ab, _ => ⟨fun _ => rfl, fun q => absurd ab (by show ¬ a.toInt ≤ b.toInt; have : b.toInt < a.toInt := q; omega)⟩
  | n + 1, p, a, b, p0, pz, ab, b9 => by
    have e : (p + 1).toInt = p.toInt + 1 := zadd1 (by omega)
    have ia := hi p a p0 (by omega) (by omega)
    have ib := hi p b p0 (by omega) b9
    obtain ⟨m1, m2⟩ := hm p a b ab b9
    rw [srP_s, srP_s]
    by_cases c : (g p a).toInt ≤ b.toInt
    · rw [m1 c]
      exact srP_mx hi hm z1 n (p + 1) (g p a) b (by omega) (by omega) c b9
    · have e2 := m2 (by omega)
      have i2 := srP_in hi z1 n (p + 1) (g p a) (by omega) (by omega) ia.2
      rw [e2]
      exact ⟨fun q => by omega, fun _ => rfl⟩
set_option maxHeartbeats 400000 in
theorem sr_mx {S : Nat → Int32} {L : Cls} {fe sa tgt lat : Int32} (g : GD S) : ∀ (j : Nat) (v : Int32 → Bool) (u d h a b : Int32), 0 ≤ d.toInt → d.toInt ≤ 99999 → a.toInt ≤ b.toInt → b.toInt ≤ 99999 → MXP (srF S L fe sa tgt lat j v u d h a) (srF S L fe sa tgt lat j v u d h b) b := by
  have b1 := GD_1 g
  have t1' := tn_eq b1.1
  have R : ∀ a b : Int32, a.toInt ≤ b.toInt → MXP a b b := fun a b ab => ⟨fun _ => rfl, fun q => by omega⟩
  have T : ∀ d h a b : Int32, a.toInt ≤ b.toInt → MXP (srT lat d h a) (srT lat d h b) b := by
    intro d h a b ab
    unfold srT
    by_cases c : lat < h
    · rw [if_pos c, if_pos c]; exact R a b ab
    · rw [if_neg c, if_neg c]
      by_cases c1 : d ≤ a
      · rw [if_pos c1, if_pos (show d ≤ b by rw [Int32.le_iff_toInt_le] at c1 ⊢; omega)]; exact R a b ab
      · rw [if_neg c1]
        by_cases c2 : d ≤ b
        · rw [if_pos c2]
          exact ⟨fun _ => rfl, fun q => by rw [Int32.le_iff_toInt_le] at c2; omega⟩
        · rw [if_neg c2]
          exact ⟨fun q => absurd (Int32.le_iff_toInt_le.mpr q) c2, fun _ => rfl⟩
  intro j
  induction j with
  | zero =>
    intro v u d h a b d0 d9 ab b9
    by_cases c : u = tgt
    · rw [srF_t c, srF_t c]; exact T d h a b ab
    · rw [srF_0 c, srF_0 c]; exact R a b ab
  | succ j ih =>
    intro v u d h a b d0 d9 ab b9
    by_cases c : u = tgt
    · rw [srF_t c, srF_t c]; exact T d h a b ab
    · rw [srF_s c, srF_s c]
      refine srP_mx (z := S 1) (fun p a _ _ a9 => srG_in g d0 d9 a9) (fun p a b ab b9 => ?_) b1.2 _ 0 a b (by decide) (by rw [z_i0]; omega) ab b9
      unfold srG
      by_cases c1 : oth S p u < 0
      · rw [if_pos c1, if_pos c1]; exact R a b ab
      · rw [if_neg c1, if_neg c1]
        by_cases c2 : v (oth S p u) = true
        · rw [if_pos c2, if_pos c2]; exact R a b ab
        · rw [if_neg c2, if_neg c2]
          have x := crD_in (nd := 1) (S := S) (L := L) (pass := p) (to := oth S p u) (fe := fe) (sa := sa) (mo := 0) (h := h) d0 d9
          exact ih _ _ _ _ a b x.1 (by omega) ab b9
/-- all PASSES an hour long -/
def oneH (S : Nat → Int32) : Nat → Int32 := fun i => if 68 ≤ i ∧ i < 168 ∧ (i - 68) % 5 = 2 then 1 else S i
set_option maxHeartbeats 400000 in
theorem oneH_n {S : Nat → Int32} {p k : Nat} (h : p < 20) (k5 : k < 5) (k2 : ¬ k = 2) : oneH S (68 + 5 * p + k) = S (68 + 5 * p + k) := if_neg (by omega)
set_option maxHeartbeats 400000 in
theorem oneH_2 {S : Nat → Int32} {p : Nat} (h : p < 20) : oneH S (68 + 5 * p + 2) = 1 := if_pos (by omega)
set_option maxHeartbeats 400000 in
theorem PAc_1 {S : Nat → Int32} {n : Int32} (h : PAc S n) (n20 : ¬ 20 < n) : PAc (oneH S) n := by
  intro p hp
  have p20 : p < 20 := by
    rw [Int32.lt_iff_toInt_lt, show (20 : Int32).toInt = 20 from by decide] at n20
    omega
  obtain ⟨h1, h2, h3⟩ := h p hp
  unfold pA at h1 ⊢
  unfold pB at h2 ⊢
  unfold pH
  rw [oneH_2 p20, oneH_n p20 (show 1 < 5 by decide) (by decide), show 68 + 5 * p = 68 + 5 * p + 0 from rfl, oneH_n p20 (show 0 < 5 by decide) (by decide)]
  exact ⟨h1, h2, by decide, by decide⟩
set_option maxHeartbeats 400000 in
theorem short_1 {F S q : Nat → Int32} {p : Int32} (h : PE F S) (p0 : ¬ p < 0) (p1 : ¬ 20 ≤ p) : fX5_shorten q F p 0 = fX5_shorten q (fun i => oneH S (68 + i)) p 1 := by
  have hG : PE (fun i => oneH S (68 + i)) (oneH S) := fun i hi => rfl
  have t20 : p.toNatClampNeg < 20 := by
    rw [Int32.lt_iff_toInt_lt, z_i0] at p0
    rw [Int32.le_iff_toInt_le, show (20 : Int32).toInt = 20 from by decide] at p1
    have := tn_eq (show 0 ≤ p.toInt by omega)
    omega
  have a0 := get_pe (k := 0) (kn := 0) h p0 p1 (by decide) (by decide)
  have a1 := get_pe (k := 1) (kn := 1) h p0 p1 (by decide) (by decide)
  have b0 := (get_pe (k := 0) (kn := 0) hG p0 p1 (by decide) (by decide)).trans (oneH_n t20 (by decide) (by decide))
  have b1 := (get_pe (k := 1) (kn := 1) hG p0 p1 (by decide) (by decide)).trans (oneH_n t20 (by decide) (by decide))
  have b2 := (get_pe (k := 2) (kn := 2) hG p0 p1 (by decide) (by decide)).trans (oneH_2 t20)
  unfold fX5_shorten
  rw [bndv a0, bndv a1, bndv b0, bndv b1, if_pos (rfl : (0 : Int32) = 0), if_neg (show ¬ (1 : Int32) = 0 by decide), bndv b2]
set_option maxHeartbeats 400000 in
theorem fl59_1 {F S : Nat → Int32} {n : Int32} {E : (Nat → Int32) → Int32 → Int32 → (Nat → Int32)} (h : PE F S) (n20 : ¬ 20 < n) : ∀ (N : Nat) (q : Nat → Int32) (i m : Int32), 0 ≤ i.toInt → fl_mX5_measure_59 n F (-1) 0 E N q i m = fl_mX5_measure_59 n (fun i => oneH S (68 + i)) (-1) 1 E N q i m := by
  intro N
  induction N with
  | zero => intro q i m i0; rfl
  | succ N ih =>
    intro q i m i0
    show fb_mX5_measure_59 n F (-1) 0 E (fl_mX5_measure_59 n F (-1) 0 E N) q i m = fb_mX5_measure_59 n (fun i => oneH S (68 + i)) (-1) 1 E (fl_mX5_measure_59 n (fun i => oneH S (68 + i)) (-1) 1 E N) q i m
    unfold fb_mX5_measure_59
    by_cases c : n ≤ i
    · rw [if_pos c, if_pos c]
    · have nb : ¬ i = -1 := by intro e; rw [e, show (-1 : Int32).toInt = -1 from by decide] at i0; omega
      have i20 : ¬ 20 ≤ i := by
        rw [Int32.le_iff_toInt_le] at c ⊢
        rw [Int32.lt_iff_toInt_lt, show (20 : Int32).toInt = 20 from by decide] at n20
        rw [show (20 : Int32).toInt = 20 from by decide]
        omega
      have ei : (i + 1).toInt = i.toInt + 1 := zadd1 (by rw [Int32.le_iff_toInt_le, show (20 : Int32).toInt = 20 from by decide] at i20; omega)
      rw [if_neg c, if_neg c, if_neg nb, if_neg nb, short_1 h (z_nlt0 i0) i20]
      generalize fX5_shorten q (fun i => oneH S (68 + i)) i 1 = w
      simp only [bnd]
      rw [ih w.1 (i + 1) m (by omega), ih w.1 (i + 1) 1 (by omega)]
set_option maxHeartbeats 400000 in
theorem fl41_1 {F S : Nat → Int32} {n : Int32} {E : (Nat → Int32) → Int32 → Int32 → (Nat → Int32)} (h : PE F S) (n20 : ¬ 20 < n) : ∀ (N : Nat) (q : Nat → Int32) (i m : Int32), fl_mX5_measure_41 n F (-1) 0 E N q i m = fl_mX5_measure_41 n (fun i => oneH S (68 + i)) (-1) 1 E N q i m := by
  intro N
  induction N with
  | zero => intro q i m; rfl
  | succ N ih =>
    intro q i m
    show fb_mX5_measure_41 n F (-1) 0 E (fl_mX5_measure_41 n F (-1) 0 E N) q i m = fb_mX5_measure_41 n (fun i => oneH S (68 + i)) (-1) 1 E (fl_mX5_measure_41 n (fun i => oneH S (68 + i)) (-1) 1 E N) q i m
    have eK : fl_mX5_measure_41 n F (-1) 0 E N = fl_mX5_measure_41 n (fun i => oneH S (68 + i)) (-1) 1 E N := by
      funext q i m
      exact ih q i m
    rw [eK]
    unfold fb_mX5_measure_41
    by_cases c : 12 ≤ i
    · rw [if_pos c, if_pos c]
    · rw [if_neg c, if_neg c]
      by_cases c2 : m = 0
      · rw [if_pos c2, if_pos c2]
      · rw [if_neg c2, if_neg c2, fl59_1 h n20 _ q 0 0 (by decide)]
set_option maxHeartbeats 400000 in
theorem meas_1 {F S f : Nat → Int32} {n s : Int32} (h : PE F S) (n20 : ¬ 20 < n) : fX5_measure f n F s (-1) 0 = fX5_measure f n (fun i => oneH S (68 + i)) s (-1) 1 := by
  unfold fX5_measure
  have e : (fun (w35_0_0 : Nat → Int32) (w35_1_0 : Int32) => fl_mX5_measure_41 n F (-1) 0 (fun (w105_0_1 : Nat → Int32) (w105_1_1 : Int32) (w105_2_1 : Int32) => w105_0_1) (((12 : Int32).toInt - (0 : Int32).toInt).toNat + 1) w35_0_0 0 1) = (fun (w35_0_0 : Nat → Int32) (w35_1_0 : Int32) => fl_mX5_measure_41 n (fun i => oneH S (68 + i)) (-1) 1 (fun (w105_0_1 : Nat → Int32) (w105_1_1 : Int32) (w105_2_1 : Int32) => w105_0_1) (((12 : Int32).toInt - (0 : Int32).toInt).toNat + 1) w35_0_0 0 1) := by
    funext q z
    exact fl41_1 h n20 _ q 0 1
  rw [e]
set_option maxHeartbeats 400000 in
theorem fri_c {F S f : Nat → Int32} {t : Int32} (g : GD S) (h : PE F S) (ht : rN t) : FRI S (fX5_measure f (S 1) F t (-1) 0) t := by
  have hp := SC_pa g.1
  have n20 := hp.2.2.1
  have t0 := z_nlt0 ht.1
  have t12 := le_12 ht.2
  have hp1 := PAc_1 hp.1 n20
  obtain ⟨hG, hW⟩ := spr (f := fun _ => 0) (fun _ _ => rfl : PD (oneH S) (oneH S)) hp1 hp.2.1 n20 t0 t12
  have hm := meas (F := fun i => oneH S (68 + i)) (f := f) (fun _ _ => rfl) hp1 hp.2.1 n20 t0 t12 hG
  rw [meas_1 h n20]
  generalize fX5_measure f (S 1) (fun i => oneH S (68 + i)) t (-1) 1 = q at hm ⊢
  generalize Gof (fX11_spreads (oneH S) (fun _ => 0) (S 1) t) = G at hG hm
  refine ⟨?_, ?_, ?_⟩
  · rw [hm _ (nat12 t0 t12)]; exact hG.1
  · intro v hv
    rw [hm v hv]
    exact hG.2.1 v hv
  · intro p u hrp hu c
    obtain ⟨ro1, _⟩ := oth_0 g hrp c
    have tp := tn_eq hrp.1
    have p20 : p.toNatClampNeg < 20 := by have := hrp.2.1; have := hrp.2.2.1; omega
    have b := hG.2.2.1 p.toNatClampNeg (by have := hrp.2.1; omega)
    have p0 := z_nlt0 hrp.1
    have p1 : ¬ 20 ≤ p := by rw [Int32.le_iff_toInt_le, show (20 : Int32).toInt = 20 from by decide]; omega
    have i0 := sd_pd (S := S) (c := S) (k := 0) (kn := 0) (fun _ _ => rfl) p0 p1 (by decide) (by decide)
    have i1 := sd_pd (S := S) (c := S) (k := 1) (kn := 1) (fun _ _ => rfl) p0 p1 (by decide) (by decide)
    unfold pA pB pH at b
    have f0 : oneH S (68 + 5 * p.toNatClampNeg) = S (68 + 5 * p.toNatClampNeg + 0) := oneH_n (k := 0) p20 (by decide) (by decide)
    rw [oneH_2 p20, oneH_n p20 (show 1 < 5 by decide) (by decide), f0, show (1 : Int32).toInt = 1 from by decide] at b
    rw [hm _ (nat12 (z_nlt0 hu.1) (le_12 hu.2)), hm _ (nat12 (z_nlt0 ro1.1) (le_12 ro1.2))]
    unfold oth at c ⊢
    rw [i0, i1] at c ⊢
    by_cases e1 : S (68 + 5 * p.toNatClampNeg + 0) = u
    · rw [if_pos e1]
      rw [e1] at b
      omega
    · rw [if_neg e1] at c ⊢
      by_cases e2 : S (68 + 5 * p.toNatClampNeg + 1) = u
      · rw [if_pos e2]
        rw [e2] at b
        omega
      · rw [if_neg e2] at c
        exact absurd (by decide) c
set_option maxHeartbeats 400000 in
theorem kp_l {qr : Nat → Int32} {k : Int32} {E : (Nat → Int32) → Int32 → (Int32 × Int32 × Int32 × (Nat → Int32) × Int32)} (k6 : k.toInt ≤ 6) : ∀ (n N : Nat) (qb : Nat → Int32) (i : Int32), 0 ≤ i.toInt → i.toInt + n = k.toInt → n < N → ∃ qb' i', fl_mX5_keep_51 qr k E N qb i = E qb' i' := by
  intro n
  induction n with
  | zero =>
    intro N qb i i0 iz hN
    obtain ⟨N, rfl⟩ : ∃ m, N = m + 1 := ⟨N - 1, by omega⟩
    refine ⟨qb, i, ?_⟩
    show fb_mX5_keep_51 qr k E (fl_mX5_keep_51 qr k E N) qb i = _
    unfold fb_mX5_keep_51
    rw [if_pos (show k ≤ i by rw [Int32.le_iff_toInt_le]; omega)]
  | succ n ih =>
    intro N qb i i0 iz hN
    obtain ⟨N, rfl⟩ : ∃ m, N = m + 1 := ⟨N - 1, by omega⟩
    have ei : (i + 1).toInt = i.toInt + 1 := zadd1 (by omega)
    obtain ⟨qb', i', r⟩ := ih N (upd qb i.toNatClampNeg (qr i.toNatClampNeg)) (i + 1) (by omega) (by omega) (by omega)
    refine ⟨qb', i', ?_⟩
    show fb_mX5_keep_51 qr k E (fl_mX5_keep_51 qr k E N) qb i = _
    unfold fb_mX5_keep_51
    rw [if_neg (show ¬ k ≤ i by rw [Int32.le_iff_toInt_le]; omega), if_neg (show ¬ 6 ≤ i by rw [Int32.le_iff_toInt_le, show (6 : Int32).toInt = 6 from by decide]; omega), bnd_eq, bnd_eq, bnd_eq]
    exact r
set_option maxHeartbeats 400000 in
theorem keep_x {qr qb : Nat → Int32} {wt d k : Int32} (k0 : 0 ≤ k.toInt) (k6 : k.toInt ≤ 6) : ∃ qb', fX5_keep wt 0 qr qb d k = (d, wt, k, qb', d + 1) := by
  unfold fX5_keep
  rw [if_pos rfl, bnd_eq]
  have tk := tn_eq k0
  obtain ⟨qb', i', r⟩ := kp_l (qr := qr) (k := k) (E := fun (w80_0_0 : Nat → Int32) (w80_1_0 : Int32) => (d, wt, k, w80_0_0, d + 1)) k6 k.toNatClampNeg (((k : Int32).toInt - (0 : Int32).toInt).toNat + 1) qb 0 (by decide) (by rw [z_i0]; omega) (by rw [z_i0]; omega)
  exact ⟨qb', r⟩
set_option maxHeartbeats 400000 in
theorem nd_1 {a : Int32} (a0 : 0 ≤ a.toInt) (a9 : a.toInt ≤ 99999) : (a + 1).toInt = a.toInt + 1 := zadd1 (by omega)
set_option maxHeartbeats 400000 in
theorem lt_nd1 {a d : Int32} (a0 : 0 ≤ a.toInt) (a9 : a.toInt ≤ 99999) (h : d < a + 1) : d ≤ a := by
  rw [Int32.lt_iff_toInt_lt, nd_1 a0 a9] at h
  rw [Int32.le_iff_toInt_le]
  omega
set_option maxHeartbeats 400000 in
theorem sr_d {S : Nat → Int32} {L : Cls} {fe sa tgt lat u d h a : Int32} {j : Nat} {v : Int32 → Bool} (c : u = tgt) (h1 : h ≤ lat) (h2 : ¬ d ≤ a) : srF S L fe sa tgt lat j v u d h a = d := by
  rw [srF_t c]
  unfold srT
  rw [if_neg (show ¬ lat < h by rw [Int32.le_iff_toInt_le] at h1; rw [Int32.lt_iff_toInt_lt]; omega), if_neg h2]
set_option maxHeartbeats 400000 in
theorem cs_6 {S : Nat → Int32} {fe sa tgt lat wt : Int32} {L : Cls} (g : GD S) : ∀ (v : Int32 → Bool) (u d h lf lv ln : Int32) (qr qb : Nat → Int32), 0 ≤ d.toInt → d.toInt ≤ 99999 → ∃ lv' ln' qb', fX5_seek_6 lf lv ln tgt lat wt 0 qr qb d h (lf + 1) u = (srF S L fe sa tgt lat 0 v u d h lf, lv', ln', qb', srF S L fe sa tgt lat 0 v u d h lf + 1) := by
  intro v u d h lf lv ln qr qb d0 d9
  unfold fX5_seek_6
  by_cases c0 : d ≤ lf
  · rw [if_pos c0, sr_le g 0 v u d h lf d0 d9 (Int32.le_iff_toInt_le.mp c0)]
    exact ⟨lv, ln, qb, rfl⟩
  · rw [if_neg c0]
    by_cases c1 : h ≤ lat
    · rw [if_pos c1]
      by_cases c : u = tgt
      · obtain ⟨qb', e⟩ := keep_x (qr := qr) (qb := qb) (wt := wt) (d := d) (k := 6) (by decide) (by decide)
        rw [if_pos c, bndv e, bnd_eq, bnd_eq, bnd_eq, bnd_eq, bnd_eq, sr_d c c1 c0]
        exact ⟨wt, 6, qb', rfl⟩
      · rw [if_neg c, srF_0 c]
        exact ⟨lv, ln, qb, rfl⟩
    · rw [if_neg c1]
      have e : srF S L fe sa tgt lat 0 v u d h lf = lf := by
        by_cases c : u = tgt
        · rw [srF_t c]
          unfold srT
          rw [if_pos (show lat < h by rw [Int32.le_iff_toInt_le] at c1; rw [Int32.lt_iff_toInt_lt]; omega)]
        · rw [srF_0 c]
      rw [e]
      exact ⟨lv, ln, qb, rfl⟩
set_option maxHeartbeats 400000 in
theorem cl_5 {S nF pF qf so s1 s2 t1 t2 yj yo y1 y2 y3 y4 y5 : Nat → Int32} {fm fe sa yc tgt lat wt : Int32} {L : Cls} (g : GD S) (hL : LWX so s1 s2 t1 t2 yj yo y1 y2 y3 y4 y5 yc L) (hn : NE nF S) (hp : PE pF S) (hz : fm = S 6) (fr : FRI S qf tgt) {E : Int32 → Int32 → Int32 → (Nat → Int32) → (Nat → Int32) → Int32 → Int32 → Int32 → Int32 → Int32 → Int32 → (Nat → Int32) → Int32 → (Int32 × Int32 × Int32 × (Nat → Int32) × (Nat → Int32) × Int32 × Int32 × Int32 × Int32 × Int32 × Int32 × (Nat → Int32))} {v : Int32 → Bool} {u d h sn : Int32} (hu : rN u) (hb : BV sn v) (d0 : 0 ≤ d.toInt) (d9 : d.toInt ≤ 99999) (h0 : 0 ≤ h.toInt) (h9 : h.toInt + 24 ≤ 900000) : ∀ (n N : Nat) (p lf lv ln cb ch co : Int32) (qr qb cF : Nat → Int32), 0 ≤ p.toInt → p.toInt + n = (S 1).toInt → n < N → 0 ≤ lf.toInt → lf.toInt ≤ 99999 → ∃ lv' ln' qr' qb' cb' ch' co' cF' i', fl_mX5_seek_5_71 tgt (-1) lat wt 0 qf d h 0 fe sa nF (S 1) pF fm so s1 s2 t1 t2 yj yo y1 y2 y3 y4 y5 yc u sn E N lf lv ln qr qb d h (lf + 1) cb ch co cF p = E (srP (srG S L fe sa tgt lat 0 v u d h) n p lf) lv' ln' qr' qb' d h (srP (srG S L fe sa tgt lat 0 v u d h) n p lf + 1) cb' ch' co' cF' i' := by
  have b1 := GD_1 g
  have n20 : ¬ 20 < S 1 := by rw [Int32.lt_iff_toInt_lt, show (20 : Int32).toInt = 20 from by decide]; omega
  intro n
  induction n with
  | zero =>
    intro N p lf lv ln cb ch co qr qb cF p0 pz hN f0 f9
    obtain ⟨N, rfl⟩ : ∃ m, N = m + 1 := ⟨N - 1, by omega⟩
    refine ⟨lv, ln, qr, qb, cb, ch, co, cF, p, ?_⟩
    show fb_mX5_seek_5_71 tgt (-1) lat wt 0 qf d h 0 fe sa nF (S 1) pF fm so s1 s2 t1 t2 yj yo y1 y2 y3 y4 y5 yc u sn E (fl_mX5_seek_5_71 tgt (-1) lat wt 0 qf d h 0 fe sa nF (S 1) pF fm so s1 s2 t1 t2 yj yo y1 y2 y3 y4 y5 yc u sn E N) lf lv ln qr qb d h (lf + 1) cb ch co cF p = _
    unfold fb_mX5_seek_5_71
    rw [if_pos (show S 1 ≤ p by rw [Int32.le_iff_toInt_le]; omega)]
    rfl
  | succ n ih =>
    intro N p lf lv ln cb ch co qr qb cF p0 pz hN f0 f9
    obtain ⟨N, rfl⟩ : ∃ m, N = m + 1 := ⟨N - 1, by omega⟩
    have ep1 : (p + 1).toInt = p.toInt + 1 := zadd1 (by omega)
    have nb : ¬ p = -1 := by intro e; rw [e, show (-1 : Int32).toInt = -1 from by decide] at p0; omega
    have hs0 : ¬ hs p (S 1) = 0 := hs_in (z_nlt0 p0) (by rw [Int32.le_iff_toInt_le]; omega)
    have hrp := rP_of (GD_sp g) hs0
    have skip : srG S L fe sa tgt lat 0 v u d h p lf = lf → ∃ lv' ln' qr' qb' cb' ch' co' cF' i', fl_mX5_seek_5_71 tgt (-1) lat wt 0 qf d h 0 fe sa nF (S 1) pF fm so s1 s2 t1 t2 yj yo y1 y2 y3 y4 y5 yc u sn E N lf lv ln qr qb d h (lf + 1) cb ch co cF (p + 1) = E (srP (srG S L fe sa tgt lat 0 v u d h) (n + 1) p lf) lv' ln' qr' qb' d h (srP (srG S L fe sa tgt lat 0 v u d h) (n + 1) p lf + 1) cb' ch' co' cF' i' := by
      intro e
      rw [srP_s, e]
      exact ih N (p + 1) lf lv ln cb ch co qr qb cF (by omega) (by omega) (by omega) f0 f9
    show ∃ lv' ln' qr' qb' cb' ch' co' cF' i', fb_mX5_seek_5_71 tgt (-1) lat wt 0 qf d h 0 fe sa nF (S 1) pF fm so s1 s2 t1 t2 yj yo y1 y2 y3 y4 y5 yc u sn E (fl_mX5_seek_5_71 tgt (-1) lat wt 0 qf d h 0 fe sa nF (S 1) pF fm so s1 s2 t1 t2 yj yo y1 y2 y3 y4 y5 yc u sn E N) lf lv ln qr qb d h (lf + 1) cb ch co cF p = E (srP (srG S L fe sa tgt lat 0 v u d h) (n + 1) p lf) lv' ln' qr' qb' d h (srP (srG S L fe sa tgt lat 0 v u d h) (n + 1) p lf + 1) cb' ch' co' cF' i'
    unfold fb_mX5_seek_5_71
    rw [if_neg (show ¬ S 1 ≤ p by rw [Int32.le_iff_toInt_le]; omega)]
    by_cases c0 : d ≤ lf
    · rw [if_pos c0, srP_id (z := S 1) (fun p' _ _ => srG_le g d0 d9 (Int32.le_iff_toInt_le.mp c0)) b1.2 (n + 1) p p0 (by omega)]
      exact ⟨lv, ln, qr, qb, cb, ch, co, cF, p, rfl⟩
    rw [if_neg c0, if_neg nb, bndv (oe_in hp rfl n20 hs0)]
    by_cases c1 : oth S p u = -1
    · rw [if_pos c1, bnd_eq]
      exact skip (by unfold srG; rw [if_pos (show oth S p u < 0 by rw [c1]; decide)])
    have c2 : ¬ oth S p u < 0 := by
      have w := oth_w (n := u) (GD_wr g) (z_nlt0 p0) (show ¬ 20 ≤ p by rw [Int32.le_iff_toInt_le, show (20 : Int32).toInt = 20 from by decide]; omega)
      rw [Int32.lt_iff_toInt_lt, show (-1 : Int32).toInt = -1 from by decide] at w
      rw [Int32.lt_iff_toInt_lt, z_i0]
      have : ¬ (oth S p u).toInt = -1 := fun q => c1 (Int32.toInt_inj.mp (q.trans (by decide)))
      omega
    obtain ⟨ro1, ro2⟩ := oth_0 g hrp c2
    rw [if_neg c1, bnd_eq]
    by_cases c3 : v (oth S p u) = true
    · rw [if_neg (fun q => (hb _ ro1).mp q c3), bnd_eq]
      exact skip (by unfold srG; rw [if_neg c2, if_pos c3])
    rw [if_pos ((hb _ ro1).mpr c3), bndv (far_in (z_nlt0 ro1.1) (le_12 ro1.2))]
    have fb := fr.2.1 (oth S p u).toNatClampNeg (nat12 (z_nlt0 ro1.1) (le_12 ro1.2))
    by_cases c4 : 6 < (6 + qf (oth S p u).toNatClampNeg)
    · rw [if_pos c4, bnd_eq]
      refine skip ?_
      unfold srG
      rw [if_neg c2, if_neg c3]
      rw [Int32.lt_iff_toInt_lt, zadd (by rw [show (6 : Int32).toInt = 6 from by decide]; omega) (by rw [show (6 : Int32).toInt = 6 from by decide]; omega), show (6 : Int32).toInt = 6 from by decide] at c4
      exact sr_far g fr 0 _ _ _ _ lf ro1 (by omega)
    obtain ⟨x1, x2, x3, cc, q, _⟩ := cls_cross (cF := cF) (nd := lf + 1) (mo := 0) (fe := fe) (sa := sa) (d := d) (h := h) hL hn hp rfl hz hrp ro1 ro2
    have dn := crD_in (nd := lf + 1) (S := S) (L := L) (pass := p) (to := oth S p u) (fe := fe) (sa := sa) (mo := 0) (h := h) d0 d9
    have d1 := crD_in (nd := 1) (S := S) (L := L) (pass := p) (to := oth S p u) (fe := fe) (sa := sa) (mo := 0) (h := h) d0 d9
    have hh := crH_i hrp h0 (show h.toInt ≤ 900000 by omega)
    have gi := srG_in (S := S) (L := L) (fe := fe) (sa := sa) (tgt := tgt) (lat := lat) (u := u) (h := h) (p := p) (j := 0) (v := v) g d0 d9 f9
    have eg : srG S L fe sa tgt lat 0 v u d h p lf = srF S L fe sa tgt lat 0 (addV v (oth S p u)) (oth S p u) (crD 1 S L p (oth S p u) fe sa 0 d h) (crH S p h) lf := by
      unfold srG
      rw [if_neg c2, if_neg c3]
    have key : ∃ lv' ln' qb', fX5_seek_6 lf lv ln tgt lat wt 0 (upd qr (5 : Int32).toNatClampNeg p) qb (crD (lf + 1) S L p (oth S p u) fe sa 0 d h) (crH S p h) (lf + 1) (oth S p u) = (srG S L fe sa tgt lat 0 v u d h p lf, lv', ln', qb', srG S L fe sa tgt lat 0 v u d h p lf + 1) := by
      by_cases c5 : crD (lf + 1) S L p (oth S p u) fe sa 0 d h ≤ lf
      · have e : srG S L fe sa tgt lat 0 v u d h p lf = lf := by
          rw [eg]
          rcases crD_nd (S := S) (L := L) (pass := p) (to := oth S p u) (fe := fe) (sa := sa) (mo := 0) (h := h) (show 1 ≤ (lf + 1).toInt by rw [nd_1 f0 f9]; omega) d0 d9 with e | ⟨_, e⟩
          · rw [← e]; exact sr_le g 0 _ _ _ _ lf dn.1 (by omega) (Int32.le_iff_toInt_le.mp c5)
          · rw [Int32.le_iff_toInt_le] at c5
            exact sr_le g 0 _ _ _ _ lf d1.1 (by omega) (by omega)
        rw [e]
        unfold fX5_seek_6
        rw [if_pos c5]
        exact ⟨lv, ln, qb, rfl⟩
      · rcases crD_nd (S := S) (L := L) (pass := p) (to := oth S p u) (fe := fe) (sa := sa) (mo := 0) (h := h) (show 1 ≤ (lf + 1).toInt by rw [nd_1 f0 f9]; omega) d0 d9 with e | ⟨e, _⟩
        · rw [eg, e]
          exact cs_6 g (addV v (oth S p u)) (oth S p u) _ _ lf lv ln _ qb d1.1 (by omega)
        · exact absurd (lt_nd1 f0 f9 e) c5
    obtain ⟨lv', ln', qb', ek⟩ := key
    rw [if_neg c4, bnd_eq, bndv q, bnd_eq, bnd_eq, bnd_eq, bnd_eq, bnd_eq, bnd_eq, bndv ek, bnd_eq, bnd_eq, bnd_eq, bnd_eq, bnd_eq, bnd_eq]
    obtain ⟨z0, z1, z2, z3, z4, z5, z6, z7, z8, r⟩ := ih N (p + 1) (srG S L fe sa tgt lat 0 v u d h p lf) lv' ln' x1 x2 x3 (upd qr (5 : Int32).toNatClampNeg p) qb' cc (by omega) (by omega) (by omega) (by omega) gi.2
    rw [srP_s]
    exact ⟨z0, z1, z2, z3, z4, z5, z6, z7, z8, r⟩
set_option maxHeartbeats 400000 in
theorem cs_5 {S nF pF qf so s1 s2 t1 t2 yj yo y1 y2 y3 y4 y5 : Nat → Int32} {fm fe sa yc tgt lat wt : Int32} {L : Cls} (g : GD S) (hL : LWX so s1 s2 t1 t2 yj yo y1 y2 y3 y4 y5 yc L) (hn : NE nF S) (hp : PE pF S) (hz : fm = S 6) (fr : FRI S qf tgt) : ∀ (v : Int32 → Bool) (u d h lf lv ln sn cb ch co : Int32) (qr qb cF : Nat → Int32), rN u → BV sn v → 0 ≤ d.toInt → d.toInt ≤ 99999 → 0 ≤ lf.toInt → lf.toInt ≤ 99999 → 0 ≤ h.toInt → h.toInt + 24 ≤ 900000 → ∃ lv' ln' qr' qb' d' h' cb' ch' co' cF', fX5_seek_5 lf lv ln tgt (-1) lat wt 0 qf qr qb d h 0 (lf + 1) fe sa cF cb ch co nF (S 1) pF fm so s1 s2 t1 t2 yj yo y1 y2 y3 y4 y5 yc u sn = (srF S L fe sa tgt lat 1 v u d h lf, lv', ln', qr', qb', d', h', srF S L fe sa tgt lat 1 v u d h lf + 1, cb', ch', co', cF') := by
  have b1 := GD_1 g
  have tb := tn_eq b1.1
  intro v u d h lf lv ln sn cb ch co qr qb cF hu hb d0 d9 f0 f9 h0 h9
  unfold fX5_seek_5
  by_cases c0 : d ≤ lf
  · rw [if_pos c0, sr_le g 1 v u d h lf d0 d9 (Int32.le_iff_toInt_le.mp c0)]
    exact ⟨lv, ln, qr, qb, d, h, cb, ch, co, cF, rfl⟩
  · rw [if_neg c0]
    by_cases c1 : h ≤ lat
    · rw [if_pos c1]
      by_cases c : u = tgt
      · obtain ⟨qb', e⟩ := keep_x (qr := qr) (qb := qb) (wt := wt) (d := d) (k := 5) (by decide) (by decide)
        rw [if_pos c, bndv e, bnd_eq, bnd_eq, bnd_eq, bnd_eq, bnd_eq, sr_d c c1 c0]
        exact ⟨wt, 5, qr, qb', d, h, cb, ch, co, cF, rfl⟩
      · rw [if_neg c, srF_s c]
        obtain ⟨z0, z1, z2, z3, z4, z5, z6, z7, z8, r⟩ := cl_5 (wt := wt) (E := fun (w220_0_0 : Int32) (w220_1_0 : Int32) (w220_2_0 : Int32) (w220_3_0 : Nat → Int32) (w220_4_0 : Nat → Int32) (w220_5_0 : Int32) (w220_6_0 : Int32) (w220_7_0 : Int32) (w220_8_0 : Int32) (w220_9_0 : Int32) (w220_10_0 : Int32) (w220_11_0 : Nat → Int32) (w220_12_0 : Int32) => (w220_0_0, w220_1_0, w220_2_0, w220_3_0, w220_4_0, w220_5_0, w220_6_0, w220_7_0, w220_8_0, w220_9_0, w220_10_0, w220_11_0)) g hL hn hp hz fr hu hb d0 d9 h0 h9 (S 1).toNatClampNeg (((S 1 : Int32).toInt - (0 : Int32).toInt).toNat + 1) 0 lf lv ln cb ch co qr qb cF (by decide) (by rw [z_i0]; omega) (by rw [z_i0]; omega) f0 f9
        exact ⟨z0, z1, z2, z3, d, h, z4, z5, z6, z7, r⟩
    · rw [if_neg c1, sr_late g 1 v u d h lf h0 (by omega) (show lat < h by rw [Int32.le_iff_toInt_le] at c1; rw [Int32.lt_iff_toInt_lt]; omega)]
      exact ⟨lv, ln, qr, qb, d, h, cb, ch, co, cF, rfl⟩
set_option maxHeartbeats 400000 in
theorem cl_4 {S nF pF qf so s1 s2 t1 t2 yj yo y1 y2 y3 y4 y5 : Nat → Int32} {fm fe sa yc tgt lat wt : Int32} {L : Cls} (g : GD S) (hL : LWX so s1 s2 t1 t2 yj yo y1 y2 y3 y4 y5 yc L) (hn : NE nF S) (hp : PE pF S) (hz : fm = S 6) (fr : FRI S qf tgt) {E : Int32 → Int32 → Int32 → (Nat → Int32) → (Nat → Int32) → Int32 → Int32 → Int32 → Int32 → Int32 → Int32 → (Nat → Int32) → Int32 → (Int32 × Int32 × Int32 × (Nat → Int32) × (Nat → Int32) × Int32 × Int32 × Int32 × Int32 × Int32 × Int32 × (Nat → Int32))} {v : Int32 → Bool} {u d h sn : Int32} (hu : rN u) (hb : BV sn v) (d0 : 0 ≤ d.toInt) (d9 : d.toInt ≤ 99999) (h0 : 0 ≤ h.toInt) (h9 : h.toInt + 48 ≤ 900000) : ∀ (n N : Nat) (p lf lv ln cb ch co : Int32) (qr qb cF : Nat → Int32), 0 ≤ p.toInt → p.toInt + n = (S 1).toInt → n < N → 0 ≤ lf.toInt → lf.toInt ≤ 99999 → ∃ lv' ln' qr' qb' cb' ch' co' cF' i', fl_mX5_seek_4_71 tgt (-1) lat wt 0 qf d h 0 fe sa nF (S 1) pF fm so s1 s2 t1 t2 yj yo y1 y2 y3 y4 y5 yc u sn E N lf lv ln qr qb d h (lf + 1) cb ch co cF p = E (srP (srG S L fe sa tgt lat 1 v u d h) n p lf) lv' ln' qr' qb' d h (srP (srG S L fe sa tgt lat 1 v u d h) n p lf + 1) cb' ch' co' cF' i' := by
  have b1 := GD_1 g
  have n20 : ¬ 20 < S 1 := by rw [Int32.lt_iff_toInt_lt, show (20 : Int32).toInt = 20 from by decide]; omega
  intro n
  induction n with
  | zero =>
    intro N p lf lv ln cb ch co qr qb cF p0 pz hN f0 f9
    obtain ⟨N, rfl⟩ : ∃ m, N = m + 1 := ⟨N - 1, by omega⟩
    refine ⟨lv, ln, qr, qb, cb, ch, co, cF, p, ?_⟩
    show fb_mX5_seek_4_71 tgt (-1) lat wt 0 qf d h 0 fe sa nF (S 1) pF fm so s1 s2 t1 t2 yj yo y1 y2 y3 y4 y5 yc u sn E (fl_mX5_seek_4_71 tgt (-1) lat wt 0 qf d h 0 fe sa nF (S 1) pF fm so s1 s2 t1 t2 yj yo y1 y2 y3 y4 y5 yc u sn E N) lf lv ln qr qb d h (lf + 1) cb ch co cF p = _
    unfold fb_mX5_seek_4_71
    rw [if_pos (show S 1 ≤ p by rw [Int32.le_iff_toInt_le]; omega)]
    rfl
  | succ n ih =>
    intro N p lf lv ln cb ch co qr qb cF p0 pz hN f0 f9
    obtain ⟨N, rfl⟩ : ∃ m, N = m + 1 := ⟨N - 1, by omega⟩
    have ep1 : (p + 1).toInt = p.toInt + 1 := zadd1 (by omega)
    have nb : ¬ p = -1 := by intro e; rw [e, show (-1 : Int32).toInt = -1 from by decide] at p0; omega
    have hs0 : ¬ hs p (S 1) = 0 := hs_in (z_nlt0 p0) (by rw [Int32.le_iff_toInt_le]; omega)
    have hrp := rP_of (GD_sp g) hs0
    have skip : srG S L fe sa tgt lat 1 v u d h p lf = lf → ∃ lv' ln' qr' qb' cb' ch' co' cF' i', fl_mX5_seek_4_71 tgt (-1) lat wt 0 qf d h 0 fe sa nF (S 1) pF fm so s1 s2 t1 t2 yj yo y1 y2 y3 y4 y5 yc u sn E N lf lv ln qr qb d h (lf + 1) cb ch co cF (p + 1) = E (srP (srG S L fe sa tgt lat 1 v u d h) (n + 1) p lf) lv' ln' qr' qb' d h (srP (srG S L fe sa tgt lat 1 v u d h) (n + 1) p lf + 1) cb' ch' co' cF' i' := by
      intro e
      rw [srP_s, e]
      exact ih N (p + 1) lf lv ln cb ch co qr qb cF (by omega) (by omega) (by omega) f0 f9
    show ∃ lv' ln' qr' qb' cb' ch' co' cF' i', fb_mX5_seek_4_71 tgt (-1) lat wt 0 qf d h 0 fe sa nF (S 1) pF fm so s1 s2 t1 t2 yj yo y1 y2 y3 y4 y5 yc u sn E (fl_mX5_seek_4_71 tgt (-1) lat wt 0 qf d h 0 fe sa nF (S 1) pF fm so s1 s2 t1 t2 yj yo y1 y2 y3 y4 y5 yc u sn E N) lf lv ln qr qb d h (lf + 1) cb ch co cF p = E (srP (srG S L fe sa tgt lat 1 v u d h) (n + 1) p lf) lv' ln' qr' qb' d h (srP (srG S L fe sa tgt lat 1 v u d h) (n + 1) p lf + 1) cb' ch' co' cF' i'
    unfold fb_mX5_seek_4_71
    rw [if_neg (show ¬ S 1 ≤ p by rw [Int32.le_iff_toInt_le]; omega)]
    by_cases c0 : d ≤ lf
    · rw [if_pos c0, srP_id (z := S 1) (fun p' _ _ => srG_le g d0 d9 (Int32.le_iff_toInt_le.mp c0)) b1.2 (n + 1) p p0 (by omega)]
      exact ⟨lv, ln, qr, qb, cb, ch, co, cF, p, rfl⟩
    rw [if_neg c0, if_neg nb, bndv (oe_in hp rfl n20 hs0)]
    by_cases c1 : oth S p u = -1
    · rw [if_pos c1, bnd_eq]
      exact skip (by unfold srG; rw [if_pos (show oth S p u < 0 by rw [c1]; decide)])
    have c2 : ¬ oth S p u < 0 := by
      have w := oth_w (n := u) (GD_wr g) (z_nlt0 p0) (show ¬ 20 ≤ p by rw [Int32.le_iff_toInt_le, show (20 : Int32).toInt = 20 from by decide]; omega)
      rw [Int32.lt_iff_toInt_lt, show (-1 : Int32).toInt = -1 from by decide] at w
      rw [Int32.lt_iff_toInt_lt, z_i0]
      have : ¬ (oth S p u).toInt = -1 := fun q => c1 (Int32.toInt_inj.mp (q.trans (by decide)))
      omega
    obtain ⟨ro1, ro2⟩ := oth_0 g hrp c2
    rw [if_neg c1, bnd_eq]
    by_cases c3 : v (oth S p u) = true
    · rw [if_neg (fun q => (hb _ ro1).mp q c3), bnd_eq]
      exact skip (by unfold srG; rw [if_neg c2, if_pos c3])
    rw [if_pos ((hb _ ro1).mpr c3), bndv (far_in (z_nlt0 ro1.1) (le_12 ro1.2))]
    have fb := fr.2.1 (oth S p u).toNatClampNeg (nat12 (z_nlt0 ro1.1) (le_12 ro1.2))
    by_cases c4 : 6 < (5 + qf (oth S p u).toNatClampNeg)
    · rw [if_pos c4, bnd_eq]
      refine skip ?_
      unfold srG
      rw [if_neg c2, if_neg c3]
      rw [Int32.lt_iff_toInt_lt, zadd (by rw [show (5 : Int32).toInt = 5 from by decide]; omega) (by rw [show (5 : Int32).toInt = 5 from by decide]; omega), show (5 : Int32).toInt = 5 from by decide, show (6 : Int32).toInt = 6 from by decide] at c4
      exact sr_far g fr 1 _ _ _ _ lf ro1 (by omega)
    obtain ⟨x1, x2, x3, cc, q, _⟩ := cls_cross (cF := cF) (nd := lf + 1) (mo := 0) (fe := fe) (sa := sa) (d := d) (h := h) hL hn hp rfl hz hrp ro1 ro2
    have dn := crD_in (nd := lf + 1) (S := S) (L := L) (pass := p) (to := oth S p u) (fe := fe) (sa := sa) (mo := 0) (h := h) d0 d9
    have d1 := crD_in (nd := 1) (S := S) (L := L) (pass := p) (to := oth S p u) (fe := fe) (sa := sa) (mo := 0) (h := h) d0 d9
    have hh := crH_i hrp h0 (show h.toInt ≤ 900000 by omega)
    have gi := srG_in (S := S) (L := L) (fe := fe) (sa := sa) (tgt := tgt) (lat := lat) (u := u) (h := h) (p := p) (j := 1) (v := v) g d0 d9 f9
    have eg : srG S L fe sa tgt lat 1 v u d h p lf = srF S L fe sa tgt lat 1 (addV v (oth S p u)) (oth S p u) (crD 1 S L p (oth S p u) fe sa 0 d h) (crH S p h) lf := by
      unfold srG
      rw [if_neg c2, if_neg c3]
    rw [if_neg c4, bnd_eq, bndv q, bnd_eq, bnd_eq, bnd_eq, bnd_eq, bnd_eq, bnd_eq, bnd_eq]
    have key : ∃ lv' ln' qr' qb' d' h' y1' y2' y3' y4', fX5_seek_5 lf lv ln tgt (-1) lat wt 0 qf (upd qr (4 : Int32).toNatClampNeg p) qb (crD (lf + 1) S L p (oth S p u) fe sa 0 d h) (crH S p h) 0 (lf + 1) fe sa cc x1 x2 x3 nF (S 1) pF fm so s1 s2 t1 t2 yj yo y1 y2 y3 y4 y5 yc (oth S p u) (sn ||| (1 <<< ((oth S p u) &&& 31))) = (srG S L fe sa tgt lat 1 v u d h p lf, lv', ln', qr', qb', d', h', srG S L fe sa tgt lat 1 v u d h p lf + 1, y1', y2', y3', y4') := by
      by_cases c5 : crD (lf + 1) S L p (oth S p u) fe sa 0 d h ≤ lf
      · have e : srG S L fe sa tgt lat 1 v u d h p lf = lf := by
          rw [eg]
          rcases crD_nd (S := S) (L := L) (pass := p) (to := oth S p u) (fe := fe) (sa := sa) (mo := 0) (h := h) (show 1 ≤ (lf + 1).toInt by rw [nd_1 f0 f9]; omega) d0 d9 with e | ⟨_, e⟩
          · rw [← e]; exact sr_le g 1 _ _ _ _ lf dn.1 (by omega) (Int32.le_iff_toInt_le.mp c5)
          · rw [Int32.le_iff_toInt_le] at c5
            exact sr_le g 1 _ _ _ _ lf d1.1 (by omega) (by omega)
        rw [e]
        unfold fX5_seek_5
        rw [if_pos c5]
        exact ⟨lv, ln, upd qr (4 : Int32).toNatClampNeg p, qb, _, _, _, _, _, _, rfl⟩
      · rcases crD_nd (S := S) (L := L) (pass := p) (to := oth S p u) (fe := fe) (sa := sa) (mo := 0) (h := h) (show 1 ≤ (lf + 1).toInt by rw [nd_1 f0 f9]; omega) d0 d9 with e | ⟨e, _⟩
        · rw [eg, e]
          exact cs_5 g hL hn hp hz fr (addV v (oth S p u)) (oth S p u) _ _ lf lv ln (sn ||| (1 <<< (oth S p u &&& 31))) x1 x2 x3 _ qb cc ro1 (BV_push hb ro1) d1.1 (by omega) f0 f9 (by omega) (by omega)
        · exact absurd (lt_nd1 f0 f9 e) c5
    obtain ⟨lv', ln', qr', qb', d', h', y1', y2', y3', y4', ek⟩ := key
    rw [bndv ek, bnd_eq, bnd_eq, bnd_eq, bnd_eq, bnd_eq, bnd_eq, bnd_eq, bnd_eq, bnd_eq, bnd_eq, bnd_eq]
    obtain ⟨z0, z1, z2, z3, z4, z5, z6, z7, z8, r⟩ := ih N (p + 1) (srG S L fe sa tgt lat 1 v u d h p lf) lv' ln' y1' y2' y3' qr' qb' y4' (by omega) (by omega) (by omega) (by omega) gi.2
    rw [srP_s]
    exact ⟨z0, z1, z2, z3, z4, z5, z6, z7, z8, r⟩
set_option maxHeartbeats 400000 in
theorem cs_4 {S nF pF qf so s1 s2 t1 t2 yj yo y1 y2 y3 y4 y5 : Nat → Int32} {fm fe sa yc tgt lat wt : Int32} {L : Cls} (g : GD S) (hL : LWX so s1 s2 t1 t2 yj yo y1 y2 y3 y4 y5 yc L) (hn : NE nF S) (hp : PE pF S) (hz : fm = S 6) (fr : FRI S qf tgt) : ∀ (v : Int32 → Bool) (u d h lf lv ln sn cb ch co : Int32) (qr qb cF : Nat → Int32), rN u → BV sn v → 0 ≤ d.toInt → d.toInt ≤ 99999 → 0 ≤ lf.toInt → lf.toInt ≤ 99999 → 0 ≤ h.toInt → h.toInt + 48 ≤ 900000 → ∃ lv' ln' qr' qb' d' h' cb' ch' co' cF', fX5_seek_4 lf lv ln tgt (-1) lat wt 0 qf qr qb d h 0 (lf + 1) fe sa cF cb ch co nF (S 1) pF fm so s1 s2 t1 t2 yj yo y1 y2 y3 y4 y5 yc u sn = (srF S L fe sa tgt lat 2 v u d h lf, lv', ln', qr', qb', d', h', srF S L fe sa tgt lat 2 v u d h lf + 1, cb', ch', co', cF') := by
  have b1 := GD_1 g
  have tb := tn_eq b1.1
  intro v u d h lf lv ln sn cb ch co qr qb cF hu hb d0 d9 f0 f9 h0 h9
  unfold fX5_seek_4
  by_cases c0 : d ≤ lf
  · rw [if_pos c0, sr_le g 2 v u d h lf d0 d9 (Int32.le_iff_toInt_le.mp c0)]
    exact ⟨lv, ln, qr, qb, d, h, cb, ch, co, cF, rfl⟩
  · rw [if_neg c0]
    by_cases c1 : h ≤ lat
    · rw [if_pos c1]
      by_cases c : u = tgt
      · obtain ⟨qb', e⟩ := keep_x (qr := qr) (qb := qb) (wt := wt) (d := d) (k := 4) (by decide) (by decide)
        rw [if_pos c, bndv e, bnd_eq, bnd_eq, bnd_eq, bnd_eq, bnd_eq, sr_d c c1 c0]
        exact ⟨wt, 4, qr, qb', d, h, cb, ch, co, cF, rfl⟩
      · rw [if_neg c, srF_s c]
        obtain ⟨z0, z1, z2, z3, z4, z5, z6, z7, z8, r⟩ := cl_4 (wt := wt) (E := fun (w220_0_0 : Int32) (w220_1_0 : Int32) (w220_2_0 : Int32) (w220_3_0 : Nat → Int32) (w220_4_0 : Nat → Int32) (w220_5_0 : Int32) (w220_6_0 : Int32) (w220_7_0 : Int32) (w220_8_0 : Int32) (w220_9_0 : Int32) (w220_10_0 : Int32) (w220_11_0 : Nat → Int32) (w220_12_0 : Int32) => (w220_0_0, w220_1_0, w220_2_0, w220_3_0, w220_4_0, w220_5_0, w220_6_0, w220_7_0, w220_8_0, w220_9_0, w220_10_0, w220_11_0)) g hL hn hp hz fr hu hb d0 d9 h0 h9 (S 1).toNatClampNeg (((S 1 : Int32).toInt - (0 : Int32).toInt).toNat + 1) 0 lf lv ln cb ch co qr qb cF (by decide) (by rw [z_i0]; omega) (by rw [z_i0]; omega) f0 f9
        exact ⟨z0, z1, z2, z3, d, h, z4, z5, z6, z7, r⟩
    · rw [if_neg c1, sr_late g 2 v u d h lf h0 (by omega) (show lat < h by rw [Int32.le_iff_toInt_le] at c1; rw [Int32.lt_iff_toInt_lt]; omega)]
      exact ⟨lv, ln, qr, qb, d, h, cb, ch, co, cF, rfl⟩
set_option maxHeartbeats 400000 in
theorem cl_3 {S nF pF qf so s1 s2 t1 t2 yj yo y1 y2 y3 y4 y5 : Nat → Int32} {fm fe sa yc tgt lat wt : Int32} {L : Cls} (g : GD S) (hL : LWX so s1 s2 t1 t2 yj yo y1 y2 y3 y4 y5 yc L) (hn : NE nF S) (hp : PE pF S) (hz : fm = S 6) (fr : FRI S qf tgt) {E : Int32 → Int32 → Int32 → (Nat → Int32) → (Nat → Int32) → Int32 → Int32 → Int32 → Int32 → Int32 → Int32 → (Nat → Int32) → Int32 → (Int32 × Int32 × Int32 × (Nat → Int32) × (Nat → Int32) × Int32 × Int32 × Int32 × Int32 × Int32 × Int32 × (Nat → Int32))} {v : Int32 → Bool} {u d h sn : Int32} (hu : rN u) (hb : BV sn v) (d0 : 0 ≤ d.toInt) (d9 : d.toInt ≤ 99999) (h0 : 0 ≤ h.toInt) (h9 : h.toInt + 72 ≤ 900000) : ∀ (n N : Nat) (p lf lv ln cb ch co : Int32) (qr qb cF : Nat → Int32), 0 ≤ p.toInt → p.toInt + n = (S 1).toInt → n < N → 0 ≤ lf.toInt → lf.toInt ≤ 99999 → ∃ lv' ln' qr' qb' cb' ch' co' cF' i', fl_mX5_seek_3_71 tgt (-1) lat wt 0 qf d h 0 fe sa nF (S 1) pF fm so s1 s2 t1 t2 yj yo y1 y2 y3 y4 y5 yc u sn E N lf lv ln qr qb d h (lf + 1) cb ch co cF p = E (srP (srG S L fe sa tgt lat 2 v u d h) n p lf) lv' ln' qr' qb' d h (srP (srG S L fe sa tgt lat 2 v u d h) n p lf + 1) cb' ch' co' cF' i' := by
  have b1 := GD_1 g
  have n20 : ¬ 20 < S 1 := by rw [Int32.lt_iff_toInt_lt, show (20 : Int32).toInt = 20 from by decide]; omega
  intro n
  induction n with
  | zero =>
    intro N p lf lv ln cb ch co qr qb cF p0 pz hN f0 f9
    obtain ⟨N, rfl⟩ : ∃ m, N = m + 1 := ⟨N - 1, by omega⟩
    refine ⟨lv, ln, qr, qb, cb, ch, co, cF, p, ?_⟩
    show fb_mX5_seek_3_71 tgt (-1) lat wt 0 qf d h 0 fe sa nF (S 1) pF fm so s1 s2 t1 t2 yj yo y1 y2 y3 y4 y5 yc u sn E (fl_mX5_seek_3_71 tgt (-1) lat wt 0 qf d h 0 fe sa nF (S 1) pF fm so s1 s2 t1 t2 yj yo y1 y2 y3 y4 y5 yc u sn E N) lf lv ln qr qb d h (lf + 1) cb ch co cF p = _
    unfold fb_mX5_seek_3_71
    rw [if_pos (show S 1 ≤ p by rw [Int32.le_iff_toInt_le]; omega)]
    rfl
  | succ n ih =>
    intro N p lf lv ln cb ch co qr qb cF p0 pz hN f0 f9
    obtain ⟨N, rfl⟩ : ∃ m, N = m + 1 := ⟨N - 1, by omega⟩
    have ep1 : (p + 1).toInt = p.toInt + 1 := zadd1 (by omega)
    have nb : ¬ p = -1 := by intro e; rw [e, show (-1 : Int32).toInt = -1 from by decide] at p0; omega
    have hs0 : ¬ hs p (S 1) = 0 := hs_in (z_nlt0 p0) (by rw [Int32.le_iff_toInt_le]; omega)
    have hrp := rP_of (GD_sp g) hs0
    have skip : srG S L fe sa tgt lat 2 v u d h p lf = lf → ∃ lv' ln' qr' qb' cb' ch' co' cF' i', fl_mX5_seek_3_71 tgt (-1) lat wt 0 qf d h 0 fe sa nF (S 1) pF fm so s1 s2 t1 t2 yj yo y1 y2 y3 y4 y5 yc u sn E N lf lv ln qr qb d h (lf + 1) cb ch co cF (p + 1) = E (srP (srG S L fe sa tgt lat 2 v u d h) (n + 1) p lf) lv' ln' qr' qb' d h (srP (srG S L fe sa tgt lat 2 v u d h) (n + 1) p lf + 1) cb' ch' co' cF' i' := by
      intro e
      rw [srP_s, e]
      exact ih N (p + 1) lf lv ln cb ch co qr qb cF (by omega) (by omega) (by omega) f0 f9
    show ∃ lv' ln' qr' qb' cb' ch' co' cF' i', fb_mX5_seek_3_71 tgt (-1) lat wt 0 qf d h 0 fe sa nF (S 1) pF fm so s1 s2 t1 t2 yj yo y1 y2 y3 y4 y5 yc u sn E (fl_mX5_seek_3_71 tgt (-1) lat wt 0 qf d h 0 fe sa nF (S 1) pF fm so s1 s2 t1 t2 yj yo y1 y2 y3 y4 y5 yc u sn E N) lf lv ln qr qb d h (lf + 1) cb ch co cF p = E (srP (srG S L fe sa tgt lat 2 v u d h) (n + 1) p lf) lv' ln' qr' qb' d h (srP (srG S L fe sa tgt lat 2 v u d h) (n + 1) p lf + 1) cb' ch' co' cF' i'
    unfold fb_mX5_seek_3_71
    rw [if_neg (show ¬ S 1 ≤ p by rw [Int32.le_iff_toInt_le]; omega)]
    by_cases c0 : d ≤ lf
    · rw [if_pos c0, srP_id (z := S 1) (fun p' _ _ => srG_le g d0 d9 (Int32.le_iff_toInt_le.mp c0)) b1.2 (n + 1) p p0 (by omega)]
      exact ⟨lv, ln, qr, qb, cb, ch, co, cF, p, rfl⟩
    rw [if_neg c0, if_neg nb, bndv (oe_in hp rfl n20 hs0)]
    by_cases c1 : oth S p u = -1
    · rw [if_pos c1, bnd_eq]
      exact skip (by unfold srG; rw [if_pos (show oth S p u < 0 by rw [c1]; decide)])
    have c2 : ¬ oth S p u < 0 := by
      have w := oth_w (n := u) (GD_wr g) (z_nlt0 p0) (show ¬ 20 ≤ p by rw [Int32.le_iff_toInt_le, show (20 : Int32).toInt = 20 from by decide]; omega)
      rw [Int32.lt_iff_toInt_lt, show (-1 : Int32).toInt = -1 from by decide] at w
      rw [Int32.lt_iff_toInt_lt, z_i0]
      have : ¬ (oth S p u).toInt = -1 := fun q => c1 (Int32.toInt_inj.mp (q.trans (by decide)))
      omega
    obtain ⟨ro1, ro2⟩ := oth_0 g hrp c2
    rw [if_neg c1, bnd_eq]
    by_cases c3 : v (oth S p u) = true
    · rw [if_neg (fun q => (hb _ ro1).mp q c3), bnd_eq]
      exact skip (by unfold srG; rw [if_neg c2, if_pos c3])
    rw [if_pos ((hb _ ro1).mpr c3), bndv (far_in (z_nlt0 ro1.1) (le_12 ro1.2))]
    have fb := fr.2.1 (oth S p u).toNatClampNeg (nat12 (z_nlt0 ro1.1) (le_12 ro1.2))
    by_cases c4 : 6 < (4 + qf (oth S p u).toNatClampNeg)
    · rw [if_pos c4, bnd_eq]
      refine skip ?_
      unfold srG
      rw [if_neg c2, if_neg c3]
      rw [Int32.lt_iff_toInt_lt, zadd (by rw [show (4 : Int32).toInt = 4 from by decide]; omega) (by rw [show (4 : Int32).toInt = 4 from by decide]; omega), show (4 : Int32).toInt = 4 from by decide, show (6 : Int32).toInt = 6 from by decide] at c4
      exact sr_far g fr 2 _ _ _ _ lf ro1 (by omega)
    obtain ⟨x1, x2, x3, cc, q, _⟩ := cls_cross (cF := cF) (nd := lf + 1) (mo := 0) (fe := fe) (sa := sa) (d := d) (h := h) hL hn hp rfl hz hrp ro1 ro2
    have dn := crD_in (nd := lf + 1) (S := S) (L := L) (pass := p) (to := oth S p u) (fe := fe) (sa := sa) (mo := 0) (h := h) d0 d9
    have d1 := crD_in (nd := 1) (S := S) (L := L) (pass := p) (to := oth S p u) (fe := fe) (sa := sa) (mo := 0) (h := h) d0 d9
    have hh := crH_i hrp h0 (show h.toInt ≤ 900000 by omega)
    have gi := srG_in (S := S) (L := L) (fe := fe) (sa := sa) (tgt := tgt) (lat := lat) (u := u) (h := h) (p := p) (j := 2) (v := v) g d0 d9 f9
    have eg : srG S L fe sa tgt lat 2 v u d h p lf = srF S L fe sa tgt lat 2 (addV v (oth S p u)) (oth S p u) (crD 1 S L p (oth S p u) fe sa 0 d h) (crH S p h) lf := by
      unfold srG
      rw [if_neg c2, if_neg c3]
    rw [if_neg c4, bnd_eq, bndv q, bnd_eq, bnd_eq, bnd_eq, bnd_eq, bnd_eq, bnd_eq, bnd_eq]
    have key : ∃ lv' ln' qr' qb' d' h' y1' y2' y3' y4', fX5_seek_4 lf lv ln tgt (-1) lat wt 0 qf (upd qr (3 : Int32).toNatClampNeg p) qb (crD (lf + 1) S L p (oth S p u) fe sa 0 d h) (crH S p h) 0 (lf + 1) fe sa cc x1 x2 x3 nF (S 1) pF fm so s1 s2 t1 t2 yj yo y1 y2 y3 y4 y5 yc (oth S p u) (sn ||| (1 <<< ((oth S p u) &&& 31))) = (srG S L fe sa tgt lat 2 v u d h p lf, lv', ln', qr', qb', d', h', srG S L fe sa tgt lat 2 v u d h p lf + 1, y1', y2', y3', y4') := by
      by_cases c5 : crD (lf + 1) S L p (oth S p u) fe sa 0 d h ≤ lf
      · have e : srG S L fe sa tgt lat 2 v u d h p lf = lf := by
          rw [eg]
          rcases crD_nd (S := S) (L := L) (pass := p) (to := oth S p u) (fe := fe) (sa := sa) (mo := 0) (h := h) (show 1 ≤ (lf + 1).toInt by rw [nd_1 f0 f9]; omega) d0 d9 with e | ⟨_, e⟩
          · rw [← e]; exact sr_le g 2 _ _ _ _ lf dn.1 (by omega) (Int32.le_iff_toInt_le.mp c5)
          · rw [Int32.le_iff_toInt_le] at c5
            exact sr_le g 2 _ _ _ _ lf d1.1 (by omega) (by omega)
        rw [e]
        unfold fX5_seek_4
        rw [if_pos c5]
        exact ⟨lv, ln, upd qr (3 : Int32).toNatClampNeg p, qb, _, _, _, _, _, _, rfl⟩
      · rcases crD_nd (S := S) (L := L) (pass := p) (to := oth S p u) (fe := fe) (sa := sa) (mo := 0) (h := h) (show 1 ≤ (lf + 1).toInt by rw [nd_1 f0 f9]; omega) d0 d9 with e | ⟨e, _⟩
        · rw [eg, e]
          exact cs_4 g hL hn hp hz fr (addV v (oth S p u)) (oth S p u) _ _ lf lv ln (sn ||| (1 <<< (oth S p u &&& 31))) x1 x2 x3 _ qb cc ro1 (BV_push hb ro1) d1.1 (by omega) f0 f9 (by omega) (by omega)
        · exact absurd (lt_nd1 f0 f9 e) c5
    obtain ⟨lv', ln', qr', qb', d', h', y1', y2', y3', y4', ek⟩ := key
    rw [bndv ek, bnd_eq, bnd_eq, bnd_eq, bnd_eq, bnd_eq, bnd_eq, bnd_eq, bnd_eq, bnd_eq, bnd_eq, bnd_eq]
    obtain ⟨z0, z1, z2, z3, z4, z5, z6, z7, z8, r⟩ := ih N (p + 1) (srG S L fe sa tgt lat 2 v u d h p lf) lv' ln' y1' y2' y3' qr' qb' y4' (by omega) (by omega) (by omega) (by omega) gi.2
    rw [srP_s]
    exact ⟨z0, z1, z2, z3, z4, z5, z6, z7, z8, r⟩
set_option maxHeartbeats 400000 in
theorem cs_3 {S nF pF qf so s1 s2 t1 t2 yj yo y1 y2 y3 y4 y5 : Nat → Int32} {fm fe sa yc tgt lat wt : Int32} {L : Cls} (g : GD S) (hL : LWX so s1 s2 t1 t2 yj yo y1 y2 y3 y4 y5 yc L) (hn : NE nF S) (hp : PE pF S) (hz : fm = S 6) (fr : FRI S qf tgt) : ∀ (v : Int32 → Bool) (u d h lf lv ln sn cb ch co : Int32) (qr qb cF : Nat → Int32), rN u → BV sn v → 0 ≤ d.toInt → d.toInt ≤ 99999 → 0 ≤ lf.toInt → lf.toInt ≤ 99999 → 0 ≤ h.toInt → h.toInt + 72 ≤ 900000 → ∃ lv' ln' qr' qb' d' h' cb' ch' co' cF', fX5_seek_3 lf lv ln tgt (-1) lat wt 0 qf qr qb d h 0 (lf + 1) fe sa cF cb ch co nF (S 1) pF fm so s1 s2 t1 t2 yj yo y1 y2 y3 y4 y5 yc u sn = (srF S L fe sa tgt lat 3 v u d h lf, lv', ln', qr', qb', d', h', srF S L fe sa tgt lat 3 v u d h lf + 1, cb', ch', co', cF') := by
  have b1 := GD_1 g
  have tb := tn_eq b1.1
  intro v u d h lf lv ln sn cb ch co qr qb cF hu hb d0 d9 f0 f9 h0 h9
  unfold fX5_seek_3
  by_cases c0 : d ≤ lf
  · rw [if_pos c0, sr_le g 3 v u d h lf d0 d9 (Int32.le_iff_toInt_le.mp c0)]
    exact ⟨lv, ln, qr, qb, d, h, cb, ch, co, cF, rfl⟩
  · rw [if_neg c0]
    by_cases c1 : h ≤ lat
    · rw [if_pos c1]
      by_cases c : u = tgt
      · obtain ⟨qb', e⟩ := keep_x (qr := qr) (qb := qb) (wt := wt) (d := d) (k := 3) (by decide) (by decide)
        rw [if_pos c, bndv e, bnd_eq, bnd_eq, bnd_eq, bnd_eq, bnd_eq, sr_d c c1 c0]
        exact ⟨wt, 3, qr, qb', d, h, cb, ch, co, cF, rfl⟩
      · rw [if_neg c, srF_s c]
        obtain ⟨z0, z1, z2, z3, z4, z5, z6, z7, z8, r⟩ := cl_3 (wt := wt) (E := fun (w220_0_0 : Int32) (w220_1_0 : Int32) (w220_2_0 : Int32) (w220_3_0 : Nat → Int32) (w220_4_0 : Nat → Int32) (w220_5_0 : Int32) (w220_6_0 : Int32) (w220_7_0 : Int32) (w220_8_0 : Int32) (w220_9_0 : Int32) (w220_10_0 : Int32) (w220_11_0 : Nat → Int32) (w220_12_0 : Int32) => (w220_0_0, w220_1_0, w220_2_0, w220_3_0, w220_4_0, w220_5_0, w220_6_0, w220_7_0, w220_8_0, w220_9_0, w220_10_0, w220_11_0)) g hL hn hp hz fr hu hb d0 d9 h0 h9 (S 1).toNatClampNeg (((S 1 : Int32).toInt - (0 : Int32).toInt).toNat + 1) 0 lf lv ln cb ch co qr qb cF (by decide) (by rw [z_i0]; omega) (by rw [z_i0]; omega) f0 f9
        exact ⟨z0, z1, z2, z3, d, h, z4, z5, z6, z7, r⟩
    · rw [if_neg c1, sr_late g 3 v u d h lf h0 (by omega) (show lat < h by rw [Int32.le_iff_toInt_le] at c1; rw [Int32.lt_iff_toInt_lt]; omega)]
      exact ⟨lv, ln, qr, qb, d, h, cb, ch, co, cF, rfl⟩
set_option maxHeartbeats 400000 in
theorem cl_2 {S nF pF qf so s1 s2 t1 t2 yj yo y1 y2 y3 y4 y5 : Nat → Int32} {fm fe sa yc tgt lat wt : Int32} {L : Cls} (g : GD S) (hL : LWX so s1 s2 t1 t2 yj yo y1 y2 y3 y4 y5 yc L) (hn : NE nF S) (hp : PE pF S) (hz : fm = S 6) (fr : FRI S qf tgt) {E : Int32 → Int32 → Int32 → (Nat → Int32) → (Nat → Int32) → Int32 → Int32 → Int32 → Int32 → Int32 → Int32 → (Nat → Int32) → Int32 → (Int32 × Int32 × Int32 × (Nat → Int32) × (Nat → Int32) × Int32 × Int32 × Int32 × Int32 × Int32 × Int32 × (Nat → Int32))} {v : Int32 → Bool} {u d h sn : Int32} (hu : rN u) (hb : BV sn v) (d0 : 0 ≤ d.toInt) (d9 : d.toInt ≤ 99999) (h0 : 0 ≤ h.toInt) (h9 : h.toInt + 96 ≤ 900000) : ∀ (n N : Nat) (p lf lv ln cb ch co : Int32) (qr qb cF : Nat → Int32), 0 ≤ p.toInt → p.toInt + n = (S 1).toInt → n < N → 0 ≤ lf.toInt → lf.toInt ≤ 99999 → ∃ lv' ln' qr' qb' cb' ch' co' cF' i', fl_mX5_seek_2_71 tgt (-1) lat wt 0 qf d h 0 fe sa nF (S 1) pF fm so s1 s2 t1 t2 yj yo y1 y2 y3 y4 y5 yc u sn E N lf lv ln qr qb d h (lf + 1) cb ch co cF p = E (srP (srG S L fe sa tgt lat 3 v u d h) n p lf) lv' ln' qr' qb' d h (srP (srG S L fe sa tgt lat 3 v u d h) n p lf + 1) cb' ch' co' cF' i' := by
  have b1 := GD_1 g
  have n20 : ¬ 20 < S 1 := by rw [Int32.lt_iff_toInt_lt, show (20 : Int32).toInt = 20 from by decide]; omega
  intro n
  induction n with
  | zero =>
    intro N p lf lv ln cb ch co qr qb cF p0 pz hN f0 f9
    obtain ⟨N, rfl⟩ : ∃ m, N = m + 1 := ⟨N - 1, by omega⟩
    refine ⟨lv, ln, qr, qb, cb, ch, co, cF, p, ?_⟩
    show fb_mX5_seek_2_71 tgt (-1) lat wt 0 qf d h 0 fe sa nF (S 1) pF fm so s1 s2 t1 t2 yj yo y1 y2 y3 y4 y5 yc u sn E (fl_mX5_seek_2_71 tgt (-1) lat wt 0 qf d h 0 fe sa nF (S 1) pF fm so s1 s2 t1 t2 yj yo y1 y2 y3 y4 y5 yc u sn E N) lf lv ln qr qb d h (lf + 1) cb ch co cF p = _
    unfold fb_mX5_seek_2_71
    rw [if_pos (show S 1 ≤ p by rw [Int32.le_iff_toInt_le]; omega)]
    rfl
  | succ n ih =>
    intro N p lf lv ln cb ch co qr qb cF p0 pz hN f0 f9
    obtain ⟨N, rfl⟩ : ∃ m, N = m + 1 := ⟨N - 1, by omega⟩
    have ep1 : (p + 1).toInt = p.toInt + 1 := zadd1 (by omega)
    have nb : ¬ p = -1 := by intro e; rw [e, show (-1 : Int32).toInt = -1 from by decide] at p0; omega
    have hs0 : ¬ hs p (S 1) = 0 := hs_in (z_nlt0 p0) (by rw [Int32.le_iff_toInt_le]; omega)
    have hrp := rP_of (GD_sp g) hs0
    have skip : srG S L fe sa tgt lat 3 v u d h p lf = lf → ∃ lv' ln' qr' qb' cb' ch' co' cF' i', fl_mX5_seek_2_71 tgt (-1) lat wt 0 qf d h 0 fe sa nF (S 1) pF fm so s1 s2 t1 t2 yj yo y1 y2 y3 y4 y5 yc u sn E N lf lv ln qr qb d h (lf + 1) cb ch co cF (p + 1) = E (srP (srG S L fe sa tgt lat 3 v u d h) (n + 1) p lf) lv' ln' qr' qb' d h (srP (srG S L fe sa tgt lat 3 v u d h) (n + 1) p lf + 1) cb' ch' co' cF' i' := by
      intro e
      rw [srP_s, e]
      exact ih N (p + 1) lf lv ln cb ch co qr qb cF (by omega) (by omega) (by omega) f0 f9
    show ∃ lv' ln' qr' qb' cb' ch' co' cF' i', fb_mX5_seek_2_71 tgt (-1) lat wt 0 qf d h 0 fe sa nF (S 1) pF fm so s1 s2 t1 t2 yj yo y1 y2 y3 y4 y5 yc u sn E (fl_mX5_seek_2_71 tgt (-1) lat wt 0 qf d h 0 fe sa nF (S 1) pF fm so s1 s2 t1 t2 yj yo y1 y2 y3 y4 y5 yc u sn E N) lf lv ln qr qb d h (lf + 1) cb ch co cF p = E (srP (srG S L fe sa tgt lat 3 v u d h) (n + 1) p lf) lv' ln' qr' qb' d h (srP (srG S L fe sa tgt lat 3 v u d h) (n + 1) p lf + 1) cb' ch' co' cF' i'
    unfold fb_mX5_seek_2_71
    rw [if_neg (show ¬ S 1 ≤ p by rw [Int32.le_iff_toInt_le]; omega)]
    by_cases c0 : d ≤ lf
    · rw [if_pos c0, srP_id (z := S 1) (fun p' _ _ => srG_le g d0 d9 (Int32.le_iff_toInt_le.mp c0)) b1.2 (n + 1) p p0 (by omega)]
      exact ⟨lv, ln, qr, qb, cb, ch, co, cF, p, rfl⟩
    rw [if_neg c0, if_neg nb, bndv (oe_in hp rfl n20 hs0)]
    by_cases c1 : oth S p u = -1
    · rw [if_pos c1, bnd_eq]
      exact skip (by unfold srG; rw [if_pos (show oth S p u < 0 by rw [c1]; decide)])
    have c2 : ¬ oth S p u < 0 := by
      have w := oth_w (n := u) (GD_wr g) (z_nlt0 p0) (show ¬ 20 ≤ p by rw [Int32.le_iff_toInt_le, show (20 : Int32).toInt = 20 from by decide]; omega)
      rw [Int32.lt_iff_toInt_lt, show (-1 : Int32).toInt = -1 from by decide] at w
      rw [Int32.lt_iff_toInt_lt, z_i0]
      have : ¬ (oth S p u).toInt = -1 := fun q => c1 (Int32.toInt_inj.mp (q.trans (by decide)))
      omega
    obtain ⟨ro1, ro2⟩ := oth_0 g hrp c2
    rw [if_neg c1, bnd_eq]
    by_cases c3 : v (oth S p u) = true
    · rw [if_neg (fun q => (hb _ ro1).mp q c3), bnd_eq]
      exact skip (by unfold srG; rw [if_neg c2, if_pos c3])
    rw [if_pos ((hb _ ro1).mpr c3), bndv (far_in (z_nlt0 ro1.1) (le_12 ro1.2))]
    have fb := fr.2.1 (oth S p u).toNatClampNeg (nat12 (z_nlt0 ro1.1) (le_12 ro1.2))
    by_cases c4 : 6 < (3 + qf (oth S p u).toNatClampNeg)
    · rw [if_pos c4, bnd_eq]
      refine skip ?_
      unfold srG
      rw [if_neg c2, if_neg c3]
      rw [Int32.lt_iff_toInt_lt, zadd (by rw [show (3 : Int32).toInt = 3 from by decide]; omega) (by rw [show (3 : Int32).toInt = 3 from by decide]; omega), show (3 : Int32).toInt = 3 from by decide, show (6 : Int32).toInt = 6 from by decide] at c4
      exact sr_far g fr 3 _ _ _ _ lf ro1 (by omega)
    obtain ⟨x1, x2, x3, cc, q, _⟩ := cls_cross (cF := cF) (nd := lf + 1) (mo := 0) (fe := fe) (sa := sa) (d := d) (h := h) hL hn hp rfl hz hrp ro1 ro2
    have dn := crD_in (nd := lf + 1) (S := S) (L := L) (pass := p) (to := oth S p u) (fe := fe) (sa := sa) (mo := 0) (h := h) d0 d9
    have d1 := crD_in (nd := 1) (S := S) (L := L) (pass := p) (to := oth S p u) (fe := fe) (sa := sa) (mo := 0) (h := h) d0 d9
    have hh := crH_i hrp h0 (show h.toInt ≤ 900000 by omega)
    have gi := srG_in (S := S) (L := L) (fe := fe) (sa := sa) (tgt := tgt) (lat := lat) (u := u) (h := h) (p := p) (j := 3) (v := v) g d0 d9 f9
    have eg : srG S L fe sa tgt lat 3 v u d h p lf = srF S L fe sa tgt lat 3 (addV v (oth S p u)) (oth S p u) (crD 1 S L p (oth S p u) fe sa 0 d h) (crH S p h) lf := by
      unfold srG
      rw [if_neg c2, if_neg c3]
    rw [if_neg c4, bnd_eq, bndv q, bnd_eq, bnd_eq, bnd_eq, bnd_eq, bnd_eq, bnd_eq, bnd_eq]
    have key : ∃ lv' ln' qr' qb' d' h' y1' y2' y3' y4', fX5_seek_3 lf lv ln tgt (-1) lat wt 0 qf (upd qr (2 : Int32).toNatClampNeg p) qb (crD (lf + 1) S L p (oth S p u) fe sa 0 d h) (crH S p h) 0 (lf + 1) fe sa cc x1 x2 x3 nF (S 1) pF fm so s1 s2 t1 t2 yj yo y1 y2 y3 y4 y5 yc (oth S p u) (sn ||| (1 <<< ((oth S p u) &&& 31))) = (srG S L fe sa tgt lat 3 v u d h p lf, lv', ln', qr', qb', d', h', srG S L fe sa tgt lat 3 v u d h p lf + 1, y1', y2', y3', y4') := by
      by_cases c5 : crD (lf + 1) S L p (oth S p u) fe sa 0 d h ≤ lf
      · have e : srG S L fe sa tgt lat 3 v u d h p lf = lf := by
          rw [eg]
          rcases crD_nd (S := S) (L := L) (pass := p) (to := oth S p u) (fe := fe) (sa := sa) (mo := 0) (h := h) (show 1 ≤ (lf + 1).toInt by rw [nd_1 f0 f9]; omega) d0 d9 with e | ⟨_, e⟩
          · rw [← e]; exact sr_le g 3 _ _ _ _ lf dn.1 (by omega) (Int32.le_iff_toInt_le.mp c5)
          · rw [Int32.le_iff_toInt_le] at c5
            exact sr_le g 3 _ _ _ _ lf d1.1 (by omega) (by omega)
        rw [e]
        unfold fX5_seek_3
        rw [if_pos c5]
        exact ⟨lv, ln, upd qr (2 : Int32).toNatClampNeg p, qb, _, _, _, _, _, _, rfl⟩
      · rcases crD_nd (S := S) (L := L) (pass := p) (to := oth S p u) (fe := fe) (sa := sa) (mo := 0) (h := h) (show 1 ≤ (lf + 1).toInt by rw [nd_1 f0 f9]; omega) d0 d9 with e | ⟨e, _⟩
        · rw [eg, e]
          exact cs_3 g hL hn hp hz fr (addV v (oth S p u)) (oth S p u) _ _ lf lv ln (sn ||| (1 <<< (oth S p u &&& 31))) x1 x2 x3 _ qb cc ro1 (BV_push hb ro1) d1.1 (by omega) f0 f9 (by omega) (by omega)
        · exact absurd (lt_nd1 f0 f9 e) c5
    obtain ⟨lv', ln', qr', qb', d', h', y1', y2', y3', y4', ek⟩ := key
    rw [bndv ek, bnd_eq, bnd_eq, bnd_eq, bnd_eq, bnd_eq, bnd_eq, bnd_eq, bnd_eq, bnd_eq, bnd_eq, bnd_eq]
    obtain ⟨z0, z1, z2, z3, z4, z5, z6, z7, z8, r⟩ := ih N (p + 1) (srG S L fe sa tgt lat 3 v u d h p lf) lv' ln' y1' y2' y3' qr' qb' y4' (by omega) (by omega) (by omega) (by omega) gi.2
    rw [srP_s]
    exact ⟨z0, z1, z2, z3, z4, z5, z6, z7, z8, r⟩
set_option maxHeartbeats 400000 in
theorem cs_2 {S nF pF qf so s1 s2 t1 t2 yj yo y1 y2 y3 y4 y5 : Nat → Int32} {fm fe sa yc tgt lat wt : Int32} {L : Cls} (g : GD S) (hL : LWX so s1 s2 t1 t2 yj yo y1 y2 y3 y4 y5 yc L) (hn : NE nF S) (hp : PE pF S) (hz : fm = S 6) (fr : FRI S qf tgt) : ∀ (v : Int32 → Bool) (u d h lf lv ln sn cb ch co : Int32) (qr qb cF : Nat → Int32), rN u → BV sn v → 0 ≤ d.toInt → d.toInt ≤ 99999 → 0 ≤ lf.toInt → lf.toInt ≤ 99999 → 0 ≤ h.toInt → h.toInt + 96 ≤ 900000 → ∃ lv' ln' qr' qb' d' h' cb' ch' co' cF', fX5_seek_2 lf lv ln tgt (-1) lat wt 0 qf qr qb d h 0 (lf + 1) fe sa cF cb ch co nF (S 1) pF fm so s1 s2 t1 t2 yj yo y1 y2 y3 y4 y5 yc u sn = (srF S L fe sa tgt lat 4 v u d h lf, lv', ln', qr', qb', d', h', srF S L fe sa tgt lat 4 v u d h lf + 1, cb', ch', co', cF') := by
  have b1 := GD_1 g
  have tb := tn_eq b1.1
  intro v u d h lf lv ln sn cb ch co qr qb cF hu hb d0 d9 f0 f9 h0 h9
  unfold fX5_seek_2
  by_cases c0 : d ≤ lf
  · rw [if_pos c0, sr_le g 4 v u d h lf d0 d9 (Int32.le_iff_toInt_le.mp c0)]
    exact ⟨lv, ln, qr, qb, d, h, cb, ch, co, cF, rfl⟩
  · rw [if_neg c0]
    by_cases c1 : h ≤ lat
    · rw [if_pos c1]
      by_cases c : u = tgt
      · obtain ⟨qb', e⟩ := keep_x (qr := qr) (qb := qb) (wt := wt) (d := d) (k := 2) (by decide) (by decide)
        rw [if_pos c, bndv e, bnd_eq, bnd_eq, bnd_eq, bnd_eq, bnd_eq, sr_d c c1 c0]
        exact ⟨wt, 2, qr, qb', d, h, cb, ch, co, cF, rfl⟩
      · rw [if_neg c, srF_s c]
        obtain ⟨z0, z1, z2, z3, z4, z5, z6, z7, z8, r⟩ := cl_2 (wt := wt) (E := fun (w220_0_0 : Int32) (w220_1_0 : Int32) (w220_2_0 : Int32) (w220_3_0 : Nat → Int32) (w220_4_0 : Nat → Int32) (w220_5_0 : Int32) (w220_6_0 : Int32) (w220_7_0 : Int32) (w220_8_0 : Int32) (w220_9_0 : Int32) (w220_10_0 : Int32) (w220_11_0 : Nat → Int32) (w220_12_0 : Int32) => (w220_0_0, w220_1_0, w220_2_0, w220_3_0, w220_4_0, w220_5_0, w220_6_0, w220_7_0, w220_8_0, w220_9_0, w220_10_0, w220_11_0)) g hL hn hp hz fr hu hb d0 d9 h0 h9 (S 1).toNatClampNeg (((S 1 : Int32).toInt - (0 : Int32).toInt).toNat + 1) 0 lf lv ln cb ch co qr qb cF (by decide) (by rw [z_i0]; omega) (by rw [z_i0]; omega) f0 f9
        exact ⟨z0, z1, z2, z3, d, h, z4, z5, z6, z7, r⟩
    · rw [if_neg c1, sr_late g 4 v u d h lf h0 (by omega) (show lat < h by rw [Int32.le_iff_toInt_le] at c1; rw [Int32.lt_iff_toInt_lt]; omega)]
      exact ⟨lv, ln, qr, qb, d, h, cb, ch, co, cF, rfl⟩
set_option maxHeartbeats 400000 in
theorem cl_1 {S nF pF qf so s1 s2 t1 t2 yj yo y1 y2 y3 y4 y5 : Nat → Int32} {fm fe sa yc tgt lat wt : Int32} {L : Cls} (g : GD S) (hL : LWX so s1 s2 t1 t2 yj yo y1 y2 y3 y4 y5 yc L) (hn : NE nF S) (hp : PE pF S) (hz : fm = S 6) (fr : FRI S qf tgt) {E : Int32 → Int32 → Int32 → (Nat → Int32) → (Nat → Int32) → Int32 → Int32 → Int32 → Int32 → Int32 → Int32 → (Nat → Int32) → Int32 → (Int32 × Int32 × Int32 × (Nat → Int32) × (Nat → Int32) × Int32 × Int32 × Int32 × Int32 × Int32 × Int32 × (Nat → Int32))} {v : Int32 → Bool} {u d h sn : Int32} (hu : rN u) (hb : BV sn v) (d0 : 0 ≤ d.toInt) (d9 : d.toInt ≤ 99999) (h0 : 0 ≤ h.toInt) (h9 : h.toInt + 120 ≤ 900000) : ∀ (n N : Nat) (p lf lv ln cb ch co : Int32) (qr qb cF : Nat → Int32), 0 ≤ p.toInt → p.toInt + n = (S 1).toInt → n < N → 0 ≤ lf.toInt → lf.toInt ≤ 99999 → ∃ lv' ln' qr' qb' cb' ch' co' cF' i', fl_mX5_seek_1_71 tgt (-1) lat wt 0 qf d h 0 fe sa nF (S 1) pF fm so s1 s2 t1 t2 yj yo y1 y2 y3 y4 y5 yc u sn E N lf lv ln qr qb d h (lf + 1) cb ch co cF p = E (srP (srG S L fe sa tgt lat 4 v u d h) n p lf) lv' ln' qr' qb' d h (srP (srG S L fe sa tgt lat 4 v u d h) n p lf + 1) cb' ch' co' cF' i' := by
  have b1 := GD_1 g
  have n20 : ¬ 20 < S 1 := by rw [Int32.lt_iff_toInt_lt, show (20 : Int32).toInt = 20 from by decide]; omega
  intro n
  induction n with
  | zero =>
    intro N p lf lv ln cb ch co qr qb cF p0 pz hN f0 f9
    obtain ⟨N, rfl⟩ : ∃ m, N = m + 1 := ⟨N - 1, by omega⟩
    refine ⟨lv, ln, qr, qb, cb, ch, co, cF, p, ?_⟩
    show fb_mX5_seek_1_71 tgt (-1) lat wt 0 qf d h 0 fe sa nF (S 1) pF fm so s1 s2 t1 t2 yj yo y1 y2 y3 y4 y5 yc u sn E (fl_mX5_seek_1_71 tgt (-1) lat wt 0 qf d h 0 fe sa nF (S 1) pF fm so s1 s2 t1 t2 yj yo y1 y2 y3 y4 y5 yc u sn E N) lf lv ln qr qb d h (lf + 1) cb ch co cF p = _
    unfold fb_mX5_seek_1_71
    rw [if_pos (show S 1 ≤ p by rw [Int32.le_iff_toInt_le]; omega)]
    rfl
  | succ n ih =>
    intro N p lf lv ln cb ch co qr qb cF p0 pz hN f0 f9
    obtain ⟨N, rfl⟩ : ∃ m, N = m + 1 := ⟨N - 1, by omega⟩
    have ep1 : (p + 1).toInt = p.toInt + 1 := zadd1 (by omega)
    have nb : ¬ p = -1 := by intro e; rw [e, show (-1 : Int32).toInt = -1 from by decide] at p0; omega
    have hs0 : ¬ hs p (S 1) = 0 := hs_in (z_nlt0 p0) (by rw [Int32.le_iff_toInt_le]; omega)
    have hrp := rP_of (GD_sp g) hs0
    have skip : srG S L fe sa tgt lat 4 v u d h p lf = lf → ∃ lv' ln' qr' qb' cb' ch' co' cF' i', fl_mX5_seek_1_71 tgt (-1) lat wt 0 qf d h 0 fe sa nF (S 1) pF fm so s1 s2 t1 t2 yj yo y1 y2 y3 y4 y5 yc u sn E N lf lv ln qr qb d h (lf + 1) cb ch co cF (p + 1) = E (srP (srG S L fe sa tgt lat 4 v u d h) (n + 1) p lf) lv' ln' qr' qb' d h (srP (srG S L fe sa tgt lat 4 v u d h) (n + 1) p lf + 1) cb' ch' co' cF' i' := by
      intro e
      rw [srP_s, e]
      exact ih N (p + 1) lf lv ln cb ch co qr qb cF (by omega) (by omega) (by omega) f0 f9
    show ∃ lv' ln' qr' qb' cb' ch' co' cF' i', fb_mX5_seek_1_71 tgt (-1) lat wt 0 qf d h 0 fe sa nF (S 1) pF fm so s1 s2 t1 t2 yj yo y1 y2 y3 y4 y5 yc u sn E (fl_mX5_seek_1_71 tgt (-1) lat wt 0 qf d h 0 fe sa nF (S 1) pF fm so s1 s2 t1 t2 yj yo y1 y2 y3 y4 y5 yc u sn E N) lf lv ln qr qb d h (lf + 1) cb ch co cF p = E (srP (srG S L fe sa tgt lat 4 v u d h) (n + 1) p lf) lv' ln' qr' qb' d h (srP (srG S L fe sa tgt lat 4 v u d h) (n + 1) p lf + 1) cb' ch' co' cF' i'
    unfold fb_mX5_seek_1_71
    rw [if_neg (show ¬ S 1 ≤ p by rw [Int32.le_iff_toInt_le]; omega)]
    by_cases c0 : d ≤ lf
    · rw [if_pos c0, srP_id (z := S 1) (fun p' _ _ => srG_le g d0 d9 (Int32.le_iff_toInt_le.mp c0)) b1.2 (n + 1) p p0 (by omega)]
      exact ⟨lv, ln, qr, qb, cb, ch, co, cF, p, rfl⟩
    rw [if_neg c0, if_neg nb, bndv (oe_in hp rfl n20 hs0)]
    by_cases c1 : oth S p u = -1
    · rw [if_pos c1, bnd_eq]
      exact skip (by unfold srG; rw [if_pos (show oth S p u < 0 by rw [c1]; decide)])
    have c2 : ¬ oth S p u < 0 := by
      have w := oth_w (n := u) (GD_wr g) (z_nlt0 p0) (show ¬ 20 ≤ p by rw [Int32.le_iff_toInt_le, show (20 : Int32).toInt = 20 from by decide]; omega)
      rw [Int32.lt_iff_toInt_lt, show (-1 : Int32).toInt = -1 from by decide] at w
      rw [Int32.lt_iff_toInt_lt, z_i0]
      have : ¬ (oth S p u).toInt = -1 := fun q => c1 (Int32.toInt_inj.mp (q.trans (by decide)))
      omega
    obtain ⟨ro1, ro2⟩ := oth_0 g hrp c2
    rw [if_neg c1, bnd_eq]
    by_cases c3 : v (oth S p u) = true
    · rw [if_neg (fun q => (hb _ ro1).mp q c3), bnd_eq]
      exact skip (by unfold srG; rw [if_neg c2, if_pos c3])
    rw [if_pos ((hb _ ro1).mpr c3), bndv (far_in (z_nlt0 ro1.1) (le_12 ro1.2))]
    have fb := fr.2.1 (oth S p u).toNatClampNeg (nat12 (z_nlt0 ro1.1) (le_12 ro1.2))
    by_cases c4 : 6 < (2 + qf (oth S p u).toNatClampNeg)
    · rw [if_pos c4, bnd_eq]
      refine skip ?_
      unfold srG
      rw [if_neg c2, if_neg c3]
      rw [Int32.lt_iff_toInt_lt, zadd (by rw [show (2 : Int32).toInt = 2 from by decide]; omega) (by rw [show (2 : Int32).toInt = 2 from by decide]; omega), show (2 : Int32).toInt = 2 from by decide, show (6 : Int32).toInt = 6 from by decide] at c4
      exact sr_far g fr 4 _ _ _ _ lf ro1 (by omega)
    obtain ⟨x1, x2, x3, cc, q, _⟩ := cls_cross (cF := cF) (nd := lf + 1) (mo := 0) (fe := fe) (sa := sa) (d := d) (h := h) hL hn hp rfl hz hrp ro1 ro2
    have dn := crD_in (nd := lf + 1) (S := S) (L := L) (pass := p) (to := oth S p u) (fe := fe) (sa := sa) (mo := 0) (h := h) d0 d9
    have d1 := crD_in (nd := 1) (S := S) (L := L) (pass := p) (to := oth S p u) (fe := fe) (sa := sa) (mo := 0) (h := h) d0 d9
    have hh := crH_i hrp h0 (show h.toInt ≤ 900000 by omega)
    have gi := srG_in (S := S) (L := L) (fe := fe) (sa := sa) (tgt := tgt) (lat := lat) (u := u) (h := h) (p := p) (j := 4) (v := v) g d0 d9 f9
    have eg : srG S L fe sa tgt lat 4 v u d h p lf = srF S L fe sa tgt lat 4 (addV v (oth S p u)) (oth S p u) (crD 1 S L p (oth S p u) fe sa 0 d h) (crH S p h) lf := by
      unfold srG
      rw [if_neg c2, if_neg c3]
    rw [if_neg c4, bnd_eq, bndv q, bnd_eq, bnd_eq, bnd_eq, bnd_eq, bnd_eq, bnd_eq, bnd_eq]
    have key : ∃ lv' ln' qr' qb' d' h' y1' y2' y3' y4', fX5_seek_2 lf lv ln tgt (-1) lat wt 0 qf (upd qr (1 : Int32).toNatClampNeg p) qb (crD (lf + 1) S L p (oth S p u) fe sa 0 d h) (crH S p h) 0 (lf + 1) fe sa cc x1 x2 x3 nF (S 1) pF fm so s1 s2 t1 t2 yj yo y1 y2 y3 y4 y5 yc (oth S p u) (sn ||| (1 <<< ((oth S p u) &&& 31))) = (srG S L fe sa tgt lat 4 v u d h p lf, lv', ln', qr', qb', d', h', srG S L fe sa tgt lat 4 v u d h p lf + 1, y1', y2', y3', y4') := by
      by_cases c5 : crD (lf + 1) S L p (oth S p u) fe sa 0 d h ≤ lf
      · have e : srG S L fe sa tgt lat 4 v u d h p lf = lf := by
          rw [eg]
          rcases crD_nd (S := S) (L := L) (pass := p) (to := oth S p u) (fe := fe) (sa := sa) (mo := 0) (h := h) (show 1 ≤ (lf + 1).toInt by rw [nd_1 f0 f9]; omega) d0 d9 with e | ⟨_, e⟩
          · rw [← e]; exact sr_le g 4 _ _ _ _ lf dn.1 (by omega) (Int32.le_iff_toInt_le.mp c5)
          · rw [Int32.le_iff_toInt_le] at c5
            exact sr_le g 4 _ _ _ _ lf d1.1 (by omega) (by omega)
        rw [e]
        unfold fX5_seek_2
        rw [if_pos c5]
        exact ⟨lv, ln, upd qr (1 : Int32).toNatClampNeg p, qb, _, _, _, _, _, _, rfl⟩
      · rcases crD_nd (S := S) (L := L) (pass := p) (to := oth S p u) (fe := fe) (sa := sa) (mo := 0) (h := h) (show 1 ≤ (lf + 1).toInt by rw [nd_1 f0 f9]; omega) d0 d9 with e | ⟨e, _⟩
        · rw [eg, e]
          exact cs_2 g hL hn hp hz fr (addV v (oth S p u)) (oth S p u) _ _ lf lv ln (sn ||| (1 <<< (oth S p u &&& 31))) x1 x2 x3 _ qb cc ro1 (BV_push hb ro1) d1.1 (by omega) f0 f9 (by omega) (by omega)
        · exact absurd (lt_nd1 f0 f9 e) c5
    obtain ⟨lv', ln', qr', qb', d', h', y1', y2', y3', y4', ek⟩ := key
    rw [bndv ek, bnd_eq, bnd_eq, bnd_eq, bnd_eq, bnd_eq, bnd_eq, bnd_eq, bnd_eq, bnd_eq, bnd_eq, bnd_eq]
    obtain ⟨z0, z1, z2, z3, z4, z5, z6, z7, z8, r⟩ := ih N (p + 1) (srG S L fe sa tgt lat 4 v u d h p lf) lv' ln' y1' y2' y3' qr' qb' y4' (by omega) (by omega) (by omega) (by omega) gi.2
    rw [srP_s]
    exact ⟨z0, z1, z2, z3, z4, z5, z6, z7, z8, r⟩
set_option maxHeartbeats 400000 in
theorem cs_1 {S nF pF qf so s1 s2 t1 t2 yj yo y1 y2 y3 y4 y5 : Nat → Int32} {fm fe sa yc tgt lat wt : Int32} {L : Cls} (g : GD S) (hL : LWX so s1 s2 t1 t2 yj yo y1 y2 y3 y4 y5 yc L) (hn : NE nF S) (hp : PE pF S) (hz : fm = S 6) (fr : FRI S qf tgt) : ∀ (v : Int32 → Bool) (u d h lf lv ln sn cb ch co : Int32) (qr qb cF : Nat → Int32), rN u → BV sn v → 0 ≤ d.toInt → d.toInt ≤ 99999 → 0 ≤ lf.toInt → lf.toInt ≤ 99999 → 0 ≤ h.toInt → h.toInt + 120 ≤ 900000 → ∃ lv' ln' qr' qb' d' h' cb' ch' co' cF', fX5_seek_1 lf lv ln tgt (-1) lat wt 0 qf qr qb d h 0 (lf + 1) fe sa cF cb ch co nF (S 1) pF fm so s1 s2 t1 t2 yj yo y1 y2 y3 y4 y5 yc u sn = (srF S L fe sa tgt lat 5 v u d h lf, lv', ln', qr', qb', d', h', srF S L fe sa tgt lat 5 v u d h lf + 1, cb', ch', co', cF') := by
  have b1 := GD_1 g
  have tb := tn_eq b1.1
  intro v u d h lf lv ln sn cb ch co qr qb cF hu hb d0 d9 f0 f9 h0 h9
  unfold fX5_seek_1
  by_cases c0 : d ≤ lf
  · rw [if_pos c0, sr_le g 5 v u d h lf d0 d9 (Int32.le_iff_toInt_le.mp c0)]
    exact ⟨lv, ln, qr, qb, d, h, cb, ch, co, cF, rfl⟩
  · rw [if_neg c0]
    by_cases c1 : h ≤ lat
    · rw [if_pos c1]
      by_cases c : u = tgt
      · obtain ⟨qb', e⟩ := keep_x (qr := qr) (qb := qb) (wt := wt) (d := d) (k := 1) (by decide) (by decide)
        rw [if_pos c, bndv e, bnd_eq, bnd_eq, bnd_eq, bnd_eq, bnd_eq, sr_d c c1 c0]
        exact ⟨wt, 1, qr, qb', d, h, cb, ch, co, cF, rfl⟩
      · rw [if_neg c, srF_s c]
        obtain ⟨z0, z1, z2, z3, z4, z5, z6, z7, z8, r⟩ := cl_1 (wt := wt) (E := fun (w220_0_0 : Int32) (w220_1_0 : Int32) (w220_2_0 : Int32) (w220_3_0 : Nat → Int32) (w220_4_0 : Nat → Int32) (w220_5_0 : Int32) (w220_6_0 : Int32) (w220_7_0 : Int32) (w220_8_0 : Int32) (w220_9_0 : Int32) (w220_10_0 : Int32) (w220_11_0 : Nat → Int32) (w220_12_0 : Int32) => (w220_0_0, w220_1_0, w220_2_0, w220_3_0, w220_4_0, w220_5_0, w220_6_0, w220_7_0, w220_8_0, w220_9_0, w220_10_0, w220_11_0)) g hL hn hp hz fr hu hb d0 d9 h0 h9 (S 1).toNatClampNeg (((S 1 : Int32).toInt - (0 : Int32).toInt).toNat + 1) 0 lf lv ln cb ch co qr qb cF (by decide) (by rw [z_i0]; omega) (by rw [z_i0]; omega) f0 f9
        exact ⟨z0, z1, z2, z3, d, h, z4, z5, z6, z7, r⟩
    · rw [if_neg c1, sr_late g 5 v u d h lf h0 (by omega) (show lat < h by rw [Int32.le_iff_toInt_le] at c1; rw [Int32.lt_iff_toInt_lt]; omega)]
      exact ⟨lv, ln, qr, qb, d, h, cb, ch, co, cF, rfl⟩
set_option maxHeartbeats 400000 in
theorem cl_0 {S nF pF qf so s1 s2 t1 t2 yj yo y1 y2 y3 y4 y5 : Nat → Int32} {fm fe sa yc tgt lat wt : Int32} {L : Cls} (g : GD S) (hL : LWX so s1 s2 t1 t2 yj yo y1 y2 y3 y4 y5 yc L) (hn : NE nF S) (hp : PE pF S) (hz : fm = S 6) (fr : FRI S qf tgt) {E : Int32 → Int32 → Int32 → (Nat → Int32) → (Nat → Int32) → Int32 → Int32 → Int32 → Int32 → Int32 → Int32 → (Nat → Int32) → Int32 → (Int32 × Int32 × Int32 × (Nat → Int32) × (Nat → Int32) × Int32 × Int32 × Int32 × Int32 × Int32 × Int32 × (Nat → Int32))} {v : Int32 → Bool} {u d h sn : Int32} (hu : rN u) (hb : BV sn v) (d0 : 0 ≤ d.toInt) (d9 : d.toInt ≤ 99999) (h0 : 0 ≤ h.toInt) (h9 : h.toInt + 144 ≤ 900000) : ∀ (n N : Nat) (p lf lv ln cb ch co : Int32) (qr qb cF : Nat → Int32), 0 ≤ p.toInt → p.toInt + n = (S 1).toInt → n < N → 0 ≤ lf.toInt → lf.toInt ≤ 99999 → ∃ lv' ln' qr' qb' cb' ch' co' cF' i', fl_mX5_seek_0_71 tgt (-1) lat wt 0 qf d h 0 fe sa nF (S 1) pF fm so s1 s2 t1 t2 yj yo y1 y2 y3 y4 y5 yc u sn E N lf lv ln qr qb d h (lf + 1) cb ch co cF p = E (srP (srG S L fe sa tgt lat 5 v u d h) n p lf) lv' ln' qr' qb' d h (srP (srG S L fe sa tgt lat 5 v u d h) n p lf + 1) cb' ch' co' cF' i' := by
  have b1 := GD_1 g
  have n20 : ¬ 20 < S 1 := by rw [Int32.lt_iff_toInt_lt, show (20 : Int32).toInt = 20 from by decide]; omega
  intro n
  induction n with
  | zero =>
    intro N p lf lv ln cb ch co qr qb cF p0 pz hN f0 f9
    obtain ⟨N, rfl⟩ : ∃ m, N = m + 1 := ⟨N - 1, by omega⟩
    refine ⟨lv, ln, qr, qb, cb, ch, co, cF, p, ?_⟩
    show fb_mX5_seek_0_71 tgt (-1) lat wt 0 qf d h 0 fe sa nF (S 1) pF fm so s1 s2 t1 t2 yj yo y1 y2 y3 y4 y5 yc u sn E (fl_mX5_seek_0_71 tgt (-1) lat wt 0 qf d h 0 fe sa nF (S 1) pF fm so s1 s2 t1 t2 yj yo y1 y2 y3 y4 y5 yc u sn E N) lf lv ln qr qb d h (lf + 1) cb ch co cF p = _
    unfold fb_mX5_seek_0_71
    rw [if_pos (show S 1 ≤ p by rw [Int32.le_iff_toInt_le]; omega)]
    rfl
  | succ n ih =>
    intro N p lf lv ln cb ch co qr qb cF p0 pz hN f0 f9
    obtain ⟨N, rfl⟩ : ∃ m, N = m + 1 := ⟨N - 1, by omega⟩
    have ep1 : (p + 1).toInt = p.toInt + 1 := zadd1 (by omega)
    have nb : ¬ p = -1 := by intro e; rw [e, show (-1 : Int32).toInt = -1 from by decide] at p0; omega
    have hs0 : ¬ hs p (S 1) = 0 := hs_in (z_nlt0 p0) (by rw [Int32.le_iff_toInt_le]; omega)
    have hrp := rP_of (GD_sp g) hs0
    have skip : srG S L fe sa tgt lat 5 v u d h p lf = lf → ∃ lv' ln' qr' qb' cb' ch' co' cF' i', fl_mX5_seek_0_71 tgt (-1) lat wt 0 qf d h 0 fe sa nF (S 1) pF fm so s1 s2 t1 t2 yj yo y1 y2 y3 y4 y5 yc u sn E N lf lv ln qr qb d h (lf + 1) cb ch co cF (p + 1) = E (srP (srG S L fe sa tgt lat 5 v u d h) (n + 1) p lf) lv' ln' qr' qb' d h (srP (srG S L fe sa tgt lat 5 v u d h) (n + 1) p lf + 1) cb' ch' co' cF' i' := by
      intro e
      rw [srP_s, e]
      exact ih N (p + 1) lf lv ln cb ch co qr qb cF (by omega) (by omega) (by omega) f0 f9
    show ∃ lv' ln' qr' qb' cb' ch' co' cF' i', fb_mX5_seek_0_71 tgt (-1) lat wt 0 qf d h 0 fe sa nF (S 1) pF fm so s1 s2 t1 t2 yj yo y1 y2 y3 y4 y5 yc u sn E (fl_mX5_seek_0_71 tgt (-1) lat wt 0 qf d h 0 fe sa nF (S 1) pF fm so s1 s2 t1 t2 yj yo y1 y2 y3 y4 y5 yc u sn E N) lf lv ln qr qb d h (lf + 1) cb ch co cF p = E (srP (srG S L fe sa tgt lat 5 v u d h) (n + 1) p lf) lv' ln' qr' qb' d h (srP (srG S L fe sa tgt lat 5 v u d h) (n + 1) p lf + 1) cb' ch' co' cF' i'
    unfold fb_mX5_seek_0_71
    rw [if_neg (show ¬ S 1 ≤ p by rw [Int32.le_iff_toInt_le]; omega)]
    by_cases c0 : d ≤ lf
    · rw [if_pos c0, srP_id (z := S 1) (fun p' _ _ => srG_le g d0 d9 (Int32.le_iff_toInt_le.mp c0)) b1.2 (n + 1) p p0 (by omega)]
      exact ⟨lv, ln, qr, qb, cb, ch, co, cF, p, rfl⟩
    rw [if_neg c0, if_neg nb, bndv (oe_in hp rfl n20 hs0)]
    by_cases c1 : oth S p u = -1
    · rw [if_pos c1, bnd_eq]
      exact skip (by unfold srG; rw [if_pos (show oth S p u < 0 by rw [c1]; decide)])
    have c2 : ¬ oth S p u < 0 := by
      have w := oth_w (n := u) (GD_wr g) (z_nlt0 p0) (show ¬ 20 ≤ p by rw [Int32.le_iff_toInt_le, show (20 : Int32).toInt = 20 from by decide]; omega)
      rw [Int32.lt_iff_toInt_lt, show (-1 : Int32).toInt = -1 from by decide] at w
      rw [Int32.lt_iff_toInt_lt, z_i0]
      have : ¬ (oth S p u).toInt = -1 := fun q => c1 (Int32.toInt_inj.mp (q.trans (by decide)))
      omega
    obtain ⟨ro1, ro2⟩ := oth_0 g hrp c2
    rw [if_neg c1, bnd_eq]
    by_cases c3 : v (oth S p u) = true
    · rw [if_neg (fun q => (hb _ ro1).mp q c3), bnd_eq]
      exact skip (by unfold srG; rw [if_neg c2, if_pos c3])
    rw [if_pos ((hb _ ro1).mpr c3), bndv (far_in (z_nlt0 ro1.1) (le_12 ro1.2))]
    have fb := fr.2.1 (oth S p u).toNatClampNeg (nat12 (z_nlt0 ro1.1) (le_12 ro1.2))
    by_cases c4 : 6 < (1 + qf (oth S p u).toNatClampNeg)
    · rw [if_pos c4, bnd_eq]
      refine skip ?_
      unfold srG
      rw [if_neg c2, if_neg c3]
      rw [Int32.lt_iff_toInt_lt, zadd (by rw [show (1 : Int32).toInt = 1 from by decide]; omega) (by rw [show (1 : Int32).toInt = 1 from by decide]; omega), show (1 : Int32).toInt = 1 from by decide, show (6 : Int32).toInt = 6 from by decide] at c4
      exact sr_far g fr 5 _ _ _ _ lf ro1 (by omega)
    obtain ⟨x1, x2, x3, cc, q, _⟩ := cls_cross (cF := cF) (nd := lf + 1) (mo := 0) (fe := fe) (sa := sa) (d := d) (h := h) hL hn hp rfl hz hrp ro1 ro2
    have dn := crD_in (nd := lf + 1) (S := S) (L := L) (pass := p) (to := oth S p u) (fe := fe) (sa := sa) (mo := 0) (h := h) d0 d9
    have d1 := crD_in (nd := 1) (S := S) (L := L) (pass := p) (to := oth S p u) (fe := fe) (sa := sa) (mo := 0) (h := h) d0 d9
    have hh := crH_i hrp h0 (show h.toInt ≤ 900000 by omega)
    have gi := srG_in (S := S) (L := L) (fe := fe) (sa := sa) (tgt := tgt) (lat := lat) (u := u) (h := h) (p := p) (j := 5) (v := v) g d0 d9 f9
    have eg : srG S L fe sa tgt lat 5 v u d h p lf = srF S L fe sa tgt lat 5 (addV v (oth S p u)) (oth S p u) (crD 1 S L p (oth S p u) fe sa 0 d h) (crH S p h) lf := by
      unfold srG
      rw [if_neg c2, if_neg c3]
    rw [if_neg c4, bnd_eq, bndv q, bnd_eq, bnd_eq, bnd_eq, bnd_eq, bnd_eq, bnd_eq, bnd_eq]
    have key : ∃ lv' ln' qr' qb' d' h' y1' y2' y3' y4', fX5_seek_1 lf lv ln tgt (-1) lat wt 0 qf (upd qr (0 : Int32).toNatClampNeg p) qb (crD (lf + 1) S L p (oth S p u) fe sa 0 d h) (crH S p h) 0 (lf + 1) fe sa cc x1 x2 x3 nF (S 1) pF fm so s1 s2 t1 t2 yj yo y1 y2 y3 y4 y5 yc (oth S p u) (sn ||| (1 <<< ((oth S p u) &&& 31))) = (srG S L fe sa tgt lat 5 v u d h p lf, lv', ln', qr', qb', d', h', srG S L fe sa tgt lat 5 v u d h p lf + 1, y1', y2', y3', y4') := by
      by_cases c5 : crD (lf + 1) S L p (oth S p u) fe sa 0 d h ≤ lf
      · have e : srG S L fe sa tgt lat 5 v u d h p lf = lf := by
          rw [eg]
          rcases crD_nd (S := S) (L := L) (pass := p) (to := oth S p u) (fe := fe) (sa := sa) (mo := 0) (h := h) (show 1 ≤ (lf + 1).toInt by rw [nd_1 f0 f9]; omega) d0 d9 with e | ⟨_, e⟩
          · rw [← e]; exact sr_le g 5 _ _ _ _ lf dn.1 (by omega) (Int32.le_iff_toInt_le.mp c5)
          · rw [Int32.le_iff_toInt_le] at c5
            exact sr_le g 5 _ _ _ _ lf d1.1 (by omega) (by omega)
        rw [e]
        unfold fX5_seek_1
        rw [if_pos c5]
        exact ⟨lv, ln, upd qr (0 : Int32).toNatClampNeg p, qb, _, _, _, _, _, _, rfl⟩
      · rcases crD_nd (S := S) (L := L) (pass := p) (to := oth S p u) (fe := fe) (sa := sa) (mo := 0) (h := h) (show 1 ≤ (lf + 1).toInt by rw [nd_1 f0 f9]; omega) d0 d9 with e | ⟨e, _⟩
        · rw [eg, e]
          exact cs_1 g hL hn hp hz fr (addV v (oth S p u)) (oth S p u) _ _ lf lv ln (sn ||| (1 <<< (oth S p u &&& 31))) x1 x2 x3 _ qb cc ro1 (BV_push hb ro1) d1.1 (by omega) f0 f9 (by omega) (by omega)
        · exact absurd (lt_nd1 f0 f9 e) c5
    obtain ⟨lv', ln', qr', qb', d', h', y1', y2', y3', y4', ek⟩ := key
    rw [bndv ek, bnd_eq, bnd_eq, bnd_eq, bnd_eq, bnd_eq, bnd_eq, bnd_eq, bnd_eq, bnd_eq, bnd_eq, bnd_eq]
    obtain ⟨z0, z1, z2, z3, z4, z5, z6, z7, z8, r⟩ := ih N (p + 1) (srG S L fe sa tgt lat 5 v u d h p lf) lv' ln' y1' y2' y3' qr' qb' y4' (by omega) (by omega) (by omega) (by omega) gi.2
    rw [srP_s]
    exact ⟨z0, z1, z2, z3, z4, z5, z6, z7, z8, r⟩
set_option maxHeartbeats 400000 in
theorem cs_0 {S nF pF qf so s1 s2 t1 t2 yj yo y1 y2 y3 y4 y5 : Nat → Int32} {fm fe sa yc tgt lat wt : Int32} {L : Cls} (g : GD S) (hL : LWX so s1 s2 t1 t2 yj yo y1 y2 y3 y4 y5 yc L) (hn : NE nF S) (hp : PE pF S) (hz : fm = S 6) (fr : FRI S qf tgt) : ∀ (v : Int32 → Bool) (u d h lf lv ln sn cb ch co : Int32) (qr qb cF : Nat → Int32), rN u → BV sn v → 0 ≤ d.toInt → d.toInt ≤ 99999 → 0 ≤ lf.toInt → lf.toInt ≤ 99999 → 0 ≤ h.toInt → h.toInt + 144 ≤ 900000 → ∃ lv' ln' qr' qb' d' h' cb' ch' co' cF', fX5_seek_0 lf lv ln tgt (-1) lat wt 0 qf qr qb d h 0 (lf + 1) fe sa cF cb ch co nF (S 1) pF fm so s1 s2 t1 t2 yj yo y1 y2 y3 y4 y5 yc u sn = (srF S L fe sa tgt lat 6 v u d h lf, lv', ln', qr', qb', d', h', srF S L fe sa tgt lat 6 v u d h lf + 1, cb', ch', co', cF') := by
  have b1 := GD_1 g
  have tb := tn_eq b1.1
  intro v u d h lf lv ln sn cb ch co qr qb cF hu hb d0 d9 f0 f9 h0 h9
  unfold fX5_seek_0
  by_cases c0 : d ≤ lf
  · rw [if_pos c0, sr_le g 6 v u d h lf d0 d9 (Int32.le_iff_toInt_le.mp c0)]
    exact ⟨lv, ln, qr, qb, d, h, cb, ch, co, cF, rfl⟩
  · rw [if_neg c0]
    by_cases c1 : h ≤ lat
    · rw [if_pos c1]
      by_cases c : u = tgt
      · obtain ⟨qb', e⟩ := keep_x (qr := qr) (qb := qb) (wt := wt) (d := d) (k := 0) (by decide) (by decide)
        rw [if_pos c, bndv e, bnd_eq, bnd_eq, bnd_eq, bnd_eq, bnd_eq, sr_d c c1 c0]
        exact ⟨wt, 0, qr, qb', d, h, cb, ch, co, cF, rfl⟩
      · rw [if_neg c, srF_s c]
        obtain ⟨z0, z1, z2, z3, z4, z5, z6, z7, z8, r⟩ := cl_0 (wt := wt) (E := fun (w220_0_0 : Int32) (w220_1_0 : Int32) (w220_2_0 : Int32) (w220_3_0 : Nat → Int32) (w220_4_0 : Nat → Int32) (w220_5_0 : Int32) (w220_6_0 : Int32) (w220_7_0 : Int32) (w220_8_0 : Int32) (w220_9_0 : Int32) (w220_10_0 : Int32) (w220_11_0 : Nat → Int32) (w220_12_0 : Int32) => (w220_0_0, w220_1_0, w220_2_0, w220_3_0, w220_4_0, w220_5_0, w220_6_0, w220_7_0, w220_8_0, w220_9_0, w220_10_0, w220_11_0)) g hL hn hp hz fr hu hb d0 d9 h0 h9 (S 1).toNatClampNeg (((S 1 : Int32).toInt - (0 : Int32).toInt).toNat + 1) 0 lf lv ln cb ch co qr qb cF (by decide) (by rw [z_i0]; omega) (by rw [z_i0]; omega) f0 f9
        exact ⟨z0, z1, z2, z3, d, h, z4, z5, z6, z7, r⟩
    · rw [if_neg c1, sr_late g 6 v u d h lf h0 (by omega) (show lat < h by rw [Int32.le_iff_toInt_le] at c1; rw [Int32.lt_iff_toInt_lt]; omega)]
      exact ⟨lv, ln, qr, qb, d, h, cb, ch, co, cF, rfl⟩
