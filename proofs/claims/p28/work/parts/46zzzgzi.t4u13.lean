def saT (lat d h a : Int32) : Int32 := if lat < h then a else if d ≤ a then a else 99999
def saF (S : Nat → Int32) (L : Cls) (fe sa tgt lat : Int32) : Nat → (Int32 → Bool) → Int32 → Int32 → Int32 → Int32 → Int32
  | 0, _, u, d, h, a => if u = tgt then saT lat d h a else a
  | k + 1, v, u, d, h, a => if u = tgt then saT lat d h a else srP (fun p b => if oth S p u < 0 then b else if v (oth S p u) = true then b else saF S L fe sa tgt lat k (addV v (oth S p u)) (oth S p u) (crD 1 S L p (oth S p u) fe sa 0 d h) (crH S p h) b) (S 1).toNatClampNeg 0 a
def saG (S : Nat → Int32) (L : Cls) (fe sa tgt lat : Int32) (k : Nat) (v : Int32 → Bool) (u d h p b : Int32) : Int32 := if oth S p u < 0 then b else if v (oth S p u) = true then b else saF S L fe sa tgt lat k (addV v (oth S p u)) (oth S p u) (crD 1 S L p (oth S p u) fe sa 0 d h) (crH S p h) b
set_option maxHeartbeats 400000 in
theorem saF_t {S : Nat → Int32} {L : Cls} {fe sa tgt lat u d h a : Int32} {v : Int32 → Bool} (e : u = tgt) : ∀ k : Nat, saF S L fe sa tgt lat k v u d h a = saT lat d h a
  | 0 => if_pos e
  | _ + 1 => if_pos e
set_option maxHeartbeats 400000 in
theorem saF_0 {S : Nat → Int32} {L : Cls} {fe sa tgt lat u d h a : Int32} {v : Int32 → Bool} (e : ¬ u = tgt) : saF S L fe sa tgt lat 0 v u d h a = a := if_neg e
set_option maxHeartbeats 400000 in
theorem saF_s {S : Nat → Int32} {L : Cls} {fe sa tgt lat u d h a : Int32} {v : Int32 → Bool} {k : Nat} (e : ¬ u = tgt) : saF S L fe sa tgt lat (k + 1) v u d h a = srP (saG S L fe sa tgt lat k v u d h) (S 1).toNatClampNeg 0 a := if_neg e
set_option maxHeartbeats 400000 in
theorem sa_in {S : Nat → Int32} {L : Cls} {fe sa tgt lat : Int32} (g : GD S) : ∀ (j : Nat) (v : Int32 → Bool) (u d h a : Int32), 0 ≤ d.toInt → d.toInt ≤ 99999 → a.toInt ≤ 99999 → a.toInt ≤ (saF S L fe sa tgt lat j v u d h a).toInt ∧ (saF S L fe sa tgt lat j v u d h a).toInt ≤ 99999 := by
  have b1 := GD_1 g
  have t1' := tn_eq b1.1
  have T : ∀ d h a : Int32, 0 ≤ d.toInt → d.toInt ≤ 99999 → a.toInt ≤ 99999 → a.toInt ≤ (saT lat d h a).toInt ∧ (saT lat d h a).toInt ≤ 99999 := by
    intro d h a d0 d9 a9
    unfold saT
    split
    · omega
    · split
      · omega
      · rw [show (99999 : Int32).toInt = 99999 from by decide]
        omega
  intro j
  induction j with
  | zero =>
    intro v u d h a d0 d9 a9
    by_cases c : u = tgt
    · rw [saF_t c]; exact T d h a d0 d9 a9
    · rw [saF_0 c]; omega
  | succ j ih =>
    intro v u d h a d0 d9 a9
    by_cases c : u = tgt
    · rw [saF_t c]; exact T d h a d0 d9 a9
    · rw [saF_s c]
      refine srP_in (z := S 1) (fun p b p0 p1 b9 => ?_) b1.2 _ 0 a (by decide) (by rw [z_i0]; omega) a9
      unfold saG
      split
      · omega
      · split
        · omega
        · have x := crD_in (nd := 1) (S := S) (L := L) (pass := p) (to := oth S p u) (fe := fe) (sa := sa) (mo := 0) (h := h) d0 d9
          exact ih _ _ _ _ b x.1 (by omega) b9
set_option maxHeartbeats 400000 in
theorem sa_le {S : Nat → Int32} {L : Cls} {fe sa tgt lat : Int32} (g : GD S) : ∀ (j : Nat) (v : Int32 → Bool) (u d h a : Int32), 0 ≤ d.toInt → d.toInt ≤ 99999 → d.toInt ≤ a.toInt → saF S L fe sa tgt lat j v u d h a = a := by
  have b1 := GD_1 g
  have t1' := tn_eq b1.1
  have T : ∀ d h a : Int32, d.toInt ≤ a.toInt → saT lat d h a = a := by
    intro d h a e
    unfold saT
    split
    · rfl
    · rw [if_pos (Int32.le_iff_toInt_le.mpr e)]
  intro j
  induction j with
  | zero =>
    intro v u d h a d0 d9 e
    by_cases c : u = tgt
    · rw [saF_t c]; exact T d h a e
    · rw [saF_0 c]
  | succ j ih =>
    intro v u d h a d0 d9 e
    by_cases c : u = tgt
    · rw [saF_t c]; exact T d h a e
    · rw [saF_s c]
      refine srP_id (z := S 1) (fun p p0 p1 => ?_) b1.2 _ 0 (by decide) (by rw [z_i0]; omega)
      unfold saG
      split
      · rfl
      · split
        · rfl
        · have x := crD_in (nd := 1) (S := S) (L := L) (pass := p) (to := oth S p u) (fe := fe) (sa := sa) (mo := 0) (h := h) d0 d9
          exact ih _ _ _ _ a x.1 (by omega) (by omega)
set_option maxHeartbeats 400000 in
theorem sa_late {S : Nat → Int32} {L : Cls} {fe sa tgt lat : Int32} (g : GD S) : ∀ (j : Nat) (v : Int32 → Bool) (u d h a : Int32), 0 ≤ h.toInt → h.toInt + 24 * j ≤ 900000 → lat < h → saF S L fe sa tgt lat j v u d h a = a := by
  have b1 := GD_1 g
  have t1' := tn_eq b1.1
  intro j
  induction j with
  | zero =>
    intro v u d h a h0 h9 e
    by_cases c : u = tgt
    · rw [saF_t c]; exact if_pos e
    · rw [saF_0 c]
  | succ j ih =>
    intro v u d h a h0 h9 e
    by_cases c : u = tgt
    · rw [saF_t c]; exact if_pos e
    · rw [saF_s c]
      refine srP_id (z := S 1) (fun p p0 p1 => ?_) b1.2 _ 0 (by decide) (by rw [z_i0]; omega)
      unfold saG
      split
      · rfl
      · split
        · rfl
        · have x := crH_i (lhs_p g p0 p1) h0 (by omega)
          exact ih _ _ _ _ a (by omega) (by omega) (by rw [Int32.lt_iff_toInt_lt] at e ⊢; omega)
set_option maxHeartbeats 400000 in
theorem sa_far {S q : Nat → Int32} {L : Cls} {fe sa tgt lat : Int32} (g : GD S) (f : FRI S q tgt) : ∀ (j : Nat) (v : Int32 → Bool) (u d h a : Int32), rN u → (j : Int) < (q u.toNatClampNeg).toInt → saF S L fe sa tgt lat j v u d h a = a := by
  have b1 := GD_1 g
  have t1' := tn_eq b1.1
  have nt : ∀ (j : Nat) (u : Int32), (j : Int) < (q u.toNatClampNeg).toInt → ¬ u = tgt := by
    intro j u e r
    rw [r, f.1] at e
    omega
  intro j
  induction j with
  | zero =>
    intro v u d h a hu e
    rw [saF_0 (nt 0 u e)]
  | succ j ih =>
    intro v u d h a hu e
    rw [saF_s (nt (j + 1) u e)]
    refine srP_id (z := S 1) (fun p p0 p1 => ?_) b1.2 _ 0 (by decide) (by rw [z_i0]; omega)
    unfold saG
    by_cases c : oth S p u < 0
    · rw [if_pos c]
    · rw [if_neg c]
      split
      · rfl
      · have x := f.2.2 p u (lhs_p g p0 p1) hu c
        exact ih _ _ _ _ a (oth_0 g (lhs_p g p0 p1) c).1 (by omega)
set_option maxHeartbeats 400000 in
theorem saG_le {S : Nat → Int32} {L : Cls} {fe sa tgt lat u d h p b : Int32} {j : Nat} {v : Int32 → Bool} (g : GD S) (d0 : 0 ≤ d.toInt) (d9 : d.toInt ≤ 99999) (e : d.toInt ≤ b.toInt) : saG S L fe sa tgt lat j v u d h p b = b := by
  unfold saG
  split
  · rfl
  · split
    · rfl
    · have x := crD_in (nd := 1) (S := S) (L := L) (pass := p) (to := oth S p u) (fe := fe) (sa := sa) (mo := 0) (h := h) d0 d9
      exact sa_le g j _ _ _ _ b x.1 (by omega) (by omega)
set_option maxHeartbeats 400000 in
theorem saG_in {S : Nat → Int32} {L : Cls} {fe sa tgt lat u d h p b : Int32} {j : Nat} {v : Int32 → Bool} (g : GD S) (d0 : 0 ≤ d.toInt) (d9 : d.toInt ≤ 99999) (b9 : b.toInt ≤ 99999) : b.toInt ≤ (saG S L fe sa tgt lat j v u d h p b).toInt ∧ (saG S L fe sa tgt lat j v u d h p b).toInt ≤ 99999 := by
  unfold saG
  split
  · omega
  · split
    · omega
    · have x := crD_in (nd := 1) (S := S) (L := L) (pass := p) (to := oth S p u) (fe := fe) (sa := sa) (mo := 0) (h := h) d0 d9
      exact sa_in g j _ _ _ _ b x.1 (by omega) b9
set_option maxHeartbeats 400000 in
theorem kpa_l {qr : Nat → Int32} {k : Int32} {E : (Nat → Int32) → Int32 → (Int32 × Int32 × Int32 × (Nat → Int32) × Int32)} (k6 : k.toInt ≤ 6) : ∀ (n N : Nat) (qb : Nat → Int32) (i : Int32), 0 ≤ i.toInt → i.toInt + n = k.toInt → n < N → ∃ qb' i', fl_mX5_keep_51_1 qr k E N qb i = E qb' i' := by
  intro n
  induction n with
  | zero =>
    intro N qb i i0 iz hN
    obtain ⟨N, rfl⟩ : ∃ m, N = m + 1 := ⟨N - 1, by omega⟩
    refine ⟨qb, i, ?_⟩
    show fb_mX5_keep_51_1 qr k E (fl_mX5_keep_51_1 qr k E N) qb i = _
    unfold fb_mX5_keep_51_1
    rw [if_pos (show k ≤ i by rw [Int32.le_iff_toInt_le]; omega)]
  | succ n ih =>
    intro N qb i i0 iz hN
    obtain ⟨N, rfl⟩ : ∃ m, N = m + 1 := ⟨N - 1, by omega⟩
    have ei : (i + 1).toInt = i.toInt + 1 := zadd1 (by omega)
    obtain ⟨qb', i', r⟩ := ih N (upd qb i.toNatClampNeg (qr i.toNatClampNeg)) (i + 1) (by omega) (by omega) (by omega)
    refine ⟨qb', i', ?_⟩
    show fb_mX5_keep_51_1 qr k E (fl_mX5_keep_51_1 qr k E N) qb i = _
    unfold fb_mX5_keep_51_1
    rw [if_neg (show ¬ k ≤ i by rw [Int32.le_iff_toInt_le]; omega), if_neg (show ¬ 6 ≤ i by rw [Int32.le_iff_toInt_le, show (6 : Int32).toInt = 6 from by decide]; omega), bnd_eq, bnd_eq, bnd_eq]
    exact r
set_option maxHeartbeats 400000 in
theorem keepa_x {qr qb : Nat → Int32} {wt d k : Int32} (k0 : 0 ≤ k.toInt) (k6 : k.toInt ≤ 6) : ∃ qb', fX5_keep wt 1 qr qb d k = (99999, wt, k, qb', 99999 + 1) := by
  unfold fX5_keep
  rw [if_neg (show ¬ (1 : Int32) = 0 by decide), show (99999 : Int32) + 1 = 100000 from by decide]
  have tk := tn_eq k0
  obtain ⟨qb', i', r⟩ := kpa_l (qr := qr) (k := k) (E := fun (w80_0_1 : Nat → Int32) (w80_1_1 : Int32) => (99999, wt, k, w80_0_1, 100000)) k6 k.toNatClampNeg (((k : Int32).toInt - (0 : Int32).toInt).toNat + 1) qb 0 (by decide) (by rw [z_i0]; omega) (by rw [z_i0]; omega)
  exact ⟨qb', r⟩
set_option maxHeartbeats 400000 in
theorem sa_d {S : Nat → Int32} {L : Cls} {fe sa tgt lat u d h a : Int32} {j : Nat} {v : Int32 → Bool} (c : u = tgt) (h1 : h ≤ lat) (h2 : ¬ d ≤ a) : saF S L fe sa tgt lat j v u d h a = 99999 := by
  rw [saF_t c]
  unfold saT
  rw [if_neg (show ¬ lat < h by rw [Int32.le_iff_toInt_le] at h1; rw [Int32.lt_iff_toInt_lt]; omega), if_neg h2]
set_option maxHeartbeats 400000 in
theorem csa_6 {S : Nat → Int32} {fe sa tgt lat wt : Int32} {L : Cls} (g : GD S) : ∀ (v : Int32 → Bool) (u d h lf lv ln : Int32) (qr qb : Nat → Int32), 0 ≤ d.toInt → d.toInt ≤ 99999 → ∃ lv' ln' qb', fX5_seek_6 lf lv ln tgt lat wt 1 qr qb d h (lf + 1) u = (saF S L fe sa tgt lat 0 v u d h lf, lv', ln', qb', saF S L fe sa tgt lat 0 v u d h lf + 1) := by
  intro v u d h lf lv ln qr qb d0 d9
  unfold fX5_seek_6
  by_cases c0 : d ≤ lf
  · rw [if_pos c0, sa_le g 0 v u d h lf d0 d9 (Int32.le_iff_toInt_le.mp c0)]
    exact ⟨lv, ln, qb, rfl⟩
  · rw [if_neg c0]
    by_cases c1 : h ≤ lat
    · rw [if_pos c1]
      by_cases c : u = tgt
      · obtain ⟨qb', e⟩ := keepa_x (qr := qr) (qb := qb) (wt := wt) (d := d) (k := 6) (by decide) (by decide)
        rw [if_pos c, bndv e, bnd_eq, bnd_eq, bnd_eq, bnd_eq, bnd_eq, sa_d c c1 c0]
        exact ⟨wt, 6, qb', rfl⟩
      · rw [if_neg c, saF_0 c]
        exact ⟨lv, ln, qb, rfl⟩
    · rw [if_neg c1]
      have e : saF S L fe sa tgt lat 0 v u d h lf = lf := by
        by_cases c : u = tgt
        · rw [saF_t c]
          unfold saT
          rw [if_pos (show lat < h by rw [Int32.le_iff_toInt_le] at c1; rw [Int32.lt_iff_toInt_lt]; omega)]
        · rw [saF_0 c]
      rw [e]
      exact ⟨lv, ln, qb, rfl⟩
set_option maxHeartbeats 400000 in
theorem cla_5 {S nF pF qf so s1 s2 t1 t2 yj yo y1 y2 y3 y4 y5 : Nat → Int32} {fm fe sa yc tgt lat wt : Int32} {L : Cls} (g : GD S) (hL : LWX so s1 s2 t1 t2 yj yo y1 y2 y3 y4 y5 yc L) (hn : NE nF S) (hp : PE pF S) (hz : fm = S 6) (fr : FRI S qf tgt) {E : Int32 → Int32 → Int32 → (Nat → Int32) → (Nat → Int32) → Int32 → Int32 → Int32 → Int32 → Int32 → Int32 → (Nat → Int32) → Int32 → (Int32 × Int32 × Int32 × (Nat → Int32) × (Nat → Int32) × Int32 × Int32 × Int32 × Int32 × Int32 × Int32 × (Nat → Int32))} {v : Int32 → Bool} {u d h sn : Int32} (hu : rN u) (hb : BV sn v) (d0 : 0 ≤ d.toInt) (d9 : d.toInt ≤ 99999) (h0 : 0 ≤ h.toInt) (h9 : h.toInt + 24 ≤ 900000) : ∀ (n N : Nat) (p lf lv ln cb ch co : Int32) (qr qb cF : Nat → Int32), 0 ≤ p.toInt → p.toInt + n = (S 1).toInt → n < N → 0 ≤ lf.toInt → lf.toInt ≤ 99999 → ∃ lv' ln' qr' qb' cb' ch' co' cF' i', fl_mX5_seek_5_71 tgt (-1) lat wt 1 qf d h 0 fe sa nF (S 1) pF fm so s1 s2 t1 t2 yj yo y1 y2 y3 y4 y5 yc u sn E N lf lv ln qr qb d h (lf + 1) cb ch co cF p = E (srP (saG S L fe sa tgt lat 0 v u d h) n p lf) lv' ln' qr' qb' d h (srP (saG S L fe sa tgt lat 0 v u d h) n p lf + 1) cb' ch' co' cF' i' := by
  have b1 := GD_1 g
  have n20 : ¬ 20 < S 1 := by rw [Int32.lt_iff_toInt_lt, show (20 : Int32).toInt = 20 from by decide]; omega
  intro n
  induction n with
  | zero =>
    intro N p lf lv ln cb ch co qr qb cF p0 pz hN f0 f9
    obtain ⟨N, rfl⟩ : ∃ m, N = m + 1 := ⟨N - 1, by omega⟩
    refine ⟨lv, ln, qr, qb, cb, ch, co, cF, p, ?_⟩
    show fb_mX5_seek_5_71 tgt (-1) lat wt 1 qf d h 0 fe sa nF (S 1) pF fm so s1 s2 t1 t2 yj yo y1 y2 y3 y4 y5 yc u sn E (fl_mX5_seek_5_71 tgt (-1) lat wt 1 qf d h 0 fe sa nF (S 1) pF fm so s1 s2 t1 t2 yj yo y1 y2 y3 y4 y5 yc u sn E N) lf lv ln qr qb d h (lf + 1) cb ch co cF p = _
    unfold fb_mX5_seek_5_71
    rw [if_pos (show S 1 ≤ p by rw [Int32.le_iff_toInt_le]; omega)]
    rfl
  | succ n ih =>
    intro N p lf lv ln cb ch co qr qb cF p0 pz hN f0 f9
    obtain ⟨N, rfl⟩ : ∃ m, N = m + 1 := ⟨N - 1, by omega⟩
    have ep1 : (p + 1).toInt = p.toInt + 1 := zadd1 (by omega)
    have nb : ¬ p = -1 := by intro e; rw [e, show (-1 : Int32).toInt = -1 from by decide] at p0; omega
    have hs0 : ¬ hs p (S 1) = 0 := hs_in (z_nlt0 p0) (by rw [Int32.le_iff_toInt_le]; omega)
    have hrp := rP_of (GD_sp g) hs0
    have skip : saG S L fe sa tgt lat 0 v u d h p lf = lf → ∃ lv' ln' qr' qb' cb' ch' co' cF' i', fl_mX5_seek_5_71 tgt (-1) lat wt 1 qf d h 0 fe sa nF (S 1) pF fm so s1 s2 t1 t2 yj yo y1 y2 y3 y4 y5 yc u sn E N lf lv ln qr qb d h (lf + 1) cb ch co cF (p + 1) = E (srP (saG S L fe sa tgt lat 0 v u d h) (n + 1) p lf) lv' ln' qr' qb' d h (srP (saG S L fe sa tgt lat 0 v u d h) (n + 1) p lf + 1) cb' ch' co' cF' i' := by
      intro e
      rw [srP_s, e]
      exact ih N (p + 1) lf lv ln cb ch co qr qb cF (by omega) (by omega) (by omega) f0 f9
    show ∃ lv' ln' qr' qb' cb' ch' co' cF' i', fb_mX5_seek_5_71 tgt (-1) lat wt 1 qf d h 0 fe sa nF (S 1) pF fm so s1 s2 t1 t2 yj yo y1 y2 y3 y4 y5 yc u sn E (fl_mX5_seek_5_71 tgt (-1) lat wt 1 qf d h 0 fe sa nF (S 1) pF fm so s1 s2 t1 t2 yj yo y1 y2 y3 y4 y5 yc u sn E N) lf lv ln qr qb d h (lf + 1) cb ch co cF p = E (srP (saG S L fe sa tgt lat 0 v u d h) (n + 1) p lf) lv' ln' qr' qb' d h (srP (saG S L fe sa tgt lat 0 v u d h) (n + 1) p lf + 1) cb' ch' co' cF' i'
    unfold fb_mX5_seek_5_71
    rw [if_neg (show ¬ S 1 ≤ p by rw [Int32.le_iff_toInt_le]; omega)]
    by_cases c0 : d ≤ lf
    · rw [if_pos c0, srP_id (z := S 1) (fun p' _ _ => saG_le g d0 d9 (Int32.le_iff_toInt_le.mp c0)) b1.2 (n + 1) p p0 (by omega)]
      exact ⟨lv, ln, qr, qb, cb, ch, co, cF, p, rfl⟩
    rw [if_neg c0, if_neg nb, bndv (oe_in hp rfl n20 hs0)]
    by_cases c1 : oth S p u = -1
    · rw [if_pos c1, bnd_eq]
      exact skip (by unfold saG; rw [if_pos (show oth S p u < 0 by rw [c1]; decide)])
    have c2 : ¬ oth S p u < 0 := by
      have w := oth_w (n := u) (GD_wr g) (z_nlt0 p0) (show ¬ 20 ≤ p by rw [Int32.le_iff_toInt_le, show (20 : Int32).toInt = 20 from by decide]; omega)
      rw [Int32.lt_iff_toInt_lt, show (-1 : Int32).toInt = -1 from by decide] at w
      rw [Int32.lt_iff_toInt_lt, z_i0]
      have : ¬ (oth S p u).toInt = -1 := fun q => c1 (Int32.toInt_inj.mp (q.trans (by decide)))
      omega
    obtain ⟨ro1, ro2⟩ := oth_0 g hrp c2
    rw [if_neg c1, bnd_eq]
    by_cases c3 : v (oth S p u) = true
    · rw [if_neg (fun q => (hb _ ro1).mp q c3), bnd_eq]
      exact skip (by unfold saG; rw [if_neg c2, if_pos c3])
    rw [if_pos ((hb _ ro1).mpr c3), bndv (far_in (z_nlt0 ro1.1) (le_12 ro1.2))]
    have fb := fr.2.1 (oth S p u).toNatClampNeg (nat12 (z_nlt0 ro1.1) (le_12 ro1.2))
    by_cases c4 : 6 < (6 + qf (oth S p u).toNatClampNeg)
    · rw [if_pos c4, bnd_eq]
      refine skip ?_
      unfold saG
      rw [if_neg c2, if_neg c3]
      rw [Int32.lt_iff_toInt_lt, zadd (by rw [show (6 : Int32).toInt = 6 from by decide]; omega) (by rw [show (6 : Int32).toInt = 6 from by decide]; omega), show (6 : Int32).toInt = 6 from by decide] at c4
      exact sa_far g fr 0 _ _ _ _ lf ro1 (by omega)
    obtain ⟨x1, x2, x3, cc, q, _⟩ := cls_cross (cF := cF) (nd := lf + 1) (mo := 0) (fe := fe) (sa := sa) (d := d) (h := h) hL hn hp rfl hz hrp ro1 ro2
    have dn := crD_in (nd := lf + 1) (S := S) (L := L) (pass := p) (to := oth S p u) (fe := fe) (sa := sa) (mo := 0) (h := h) d0 d9
    have d1 := crD_in (nd := 1) (S := S) (L := L) (pass := p) (to := oth S p u) (fe := fe) (sa := sa) (mo := 0) (h := h) d0 d9
    have hh := crH_i hrp h0 (show h.toInt ≤ 900000 by omega)
    have gi := saG_in (S := S) (L := L) (fe := fe) (sa := sa) (tgt := tgt) (lat := lat) (u := u) (h := h) (p := p) (j := 0) (v := v) g d0 d9 f9
    have eg : saG S L fe sa tgt lat 0 v u d h p lf = saF S L fe sa tgt lat 0 (addV v (oth S p u)) (oth S p u) (crD 1 S L p (oth S p u) fe sa 0 d h) (crH S p h) lf := by
      unfold saG
      rw [if_neg c2, if_neg c3]
    have key : ∃ lv' ln' qb', fX5_seek_6 lf lv ln tgt lat wt 1 (upd qr (5 : Int32).toNatClampNeg p) qb (crD (lf + 1) S L p (oth S p u) fe sa 0 d h) (crH S p h) (lf + 1) (oth S p u) = (saG S L fe sa tgt lat 0 v u d h p lf, lv', ln', qb', saG S L fe sa tgt lat 0 v u d h p lf + 1) := by
      by_cases c5 : crD (lf + 1) S L p (oth S p u) fe sa 0 d h ≤ lf
      · have e : saG S L fe sa tgt lat 0 v u d h p lf = lf := by
          rw [eg]
          rcases crD_nd (S := S) (L := L) (pass := p) (to := oth S p u) (fe := fe) (sa := sa) (mo := 0) (h := h) (show 1 ≤ (lf + 1).toInt by rw [nd_1 f0 f9]; omega) d0 d9 with e | ⟨_, e⟩
          · rw [← e]; exact sa_le g 0 _ _ _ _ lf dn.1 (by omega) (Int32.le_iff_toInt_le.mp c5)
          · rw [Int32.le_iff_toInt_le] at c5
            exact sa_le g 0 _ _ _ _ lf d1.1 (by omega) (by omega)
        rw [e]
        unfold fX5_seek_6
        rw [if_pos c5]
        exact ⟨lv, ln, qb, rfl⟩
      · rcases crD_nd (S := S) (L := L) (pass := p) (to := oth S p u) (fe := fe) (sa := sa) (mo := 0) (h := h) (show 1 ≤ (lf + 1).toInt by rw [nd_1 f0 f9]; omega) d0 d9 with e | ⟨e, _⟩
        · rw [eg, e]
          exact csa_6 g (addV v (oth S p u)) (oth S p u) _ _ lf lv ln _ qb d1.1 (by omega)
        · exact absurd (lt_nd1 f0 f9 e) c5
    obtain ⟨lv', ln', qb', ek⟩ := key
    rw [if_neg c4, bnd_eq, bndv q, bnd_eq, bnd_eq, bnd_eq, bnd_eq, bnd_eq, bnd_eq, bndv ek, bnd_eq, bnd_eq, bnd_eq, bnd_eq, bnd_eq, bnd_eq]
    obtain ⟨z0, z1, z2, z3, z4, z5, z6, z7, z8, r⟩ := ih N (p + 1) (saG S L fe sa tgt lat 0 v u d h p lf) lv' ln' x1 x2 x3 (upd qr (5 : Int32).toNatClampNeg p) qb' cc (by omega) (by omega) (by omega) (by omega) gi.2
    rw [srP_s]
    exact ⟨z0, z1, z2, z3, z4, z5, z6, z7, z8, r⟩
set_option maxHeartbeats 400000 in
theorem csa_5 {S nF pF qf so s1 s2 t1 t2 yj yo y1 y2 y3 y4 y5 : Nat → Int32} {fm fe sa yc tgt lat wt : Int32} {L : Cls} (g : GD S) (hL : LWX so s1 s2 t1 t2 yj yo y1 y2 y3 y4 y5 yc L) (hn : NE nF S) (hp : PE pF S) (hz : fm = S 6) (fr : FRI S qf tgt) : ∀ (v : Int32 → Bool) (u d h lf lv ln sn cb ch co : Int32) (qr qb cF : Nat → Int32), rN u → BV sn v → 0 ≤ d.toInt → d.toInt ≤ 99999 → 0 ≤ lf.toInt → lf.toInt ≤ 99999 → 0 ≤ h.toInt → h.toInt + 24 ≤ 900000 → ∃ lv' ln' qr' qb' d' h' cb' ch' co' cF', fX5_seek_5 lf lv ln tgt (-1) lat wt 1 qf qr qb d h 0 (lf + 1) fe sa cF cb ch co nF (S 1) pF fm so s1 s2 t1 t2 yj yo y1 y2 y3 y4 y5 yc u sn = (saF S L fe sa tgt lat 1 v u d h lf, lv', ln', qr', qb', d', h', saF S L fe sa tgt lat 1 v u d h lf + 1, cb', ch', co', cF') := by
  have b1 := GD_1 g
  have tb := tn_eq b1.1
  intro v u d h lf lv ln sn cb ch co qr qb cF hu hb d0 d9 f0 f9 h0 h9
  unfold fX5_seek_5
  by_cases c0 : d ≤ lf
  · rw [if_pos c0, sa_le g 1 v u d h lf d0 d9 (Int32.le_iff_toInt_le.mp c0)]
    exact ⟨lv, ln, qr, qb, d, h, cb, ch, co, cF, rfl⟩
  · rw [if_neg c0]
    by_cases c1 : h ≤ lat
    · rw [if_pos c1]
      by_cases c : u = tgt
      · obtain ⟨qb', e⟩ := keepa_x (qr := qr) (qb := qb) (wt := wt) (d := d) (k := 5) (by decide) (by decide)
        rw [if_pos c, bndv e, bnd_eq, bnd_eq, bnd_eq, bnd_eq, bnd_eq, sa_d c c1 c0]
        exact ⟨wt, 5, qr, qb', d, h, cb, ch, co, cF, rfl⟩
      · rw [if_neg c, saF_s c]
        obtain ⟨z0, z1, z2, z3, z4, z5, z6, z7, z8, r⟩ := cla_5 (wt := wt) (E := fun (w220_0_0 : Int32) (w220_1_0 : Int32) (w220_2_0 : Int32) (w220_3_0 : Nat → Int32) (w220_4_0 : Nat → Int32) (w220_5_0 : Int32) (w220_6_0 : Int32) (w220_7_0 : Int32) (w220_8_0 : Int32) (w220_9_0 : Int32) (w220_10_0 : Int32) (w220_11_0 : Nat → Int32) (w220_12_0 : Int32) => (w220_0_0, w220_1_0, w220_2_0, w220_3_0, w220_4_0, w220_5_0, w220_6_0, w220_7_0, w220_8_0, w220_9_0, w220_10_0, w220_11_0)) g hL hn hp hz fr hu hb d0 d9 h0 h9 (S 1).toNatClampNeg (((S 1 : Int32).toInt - (0 : Int32).toInt).toNat + 1) 0 lf lv ln cb ch co qr qb cF (by decide) (by rw [z_i0]; omega) (by rw [z_i0]; omega) f0 f9
        exact ⟨z0, z1, z2, z3, d, h, z4, z5, z6, z7, r⟩
    · rw [if_neg c1, sa_late g 1 v u d h lf h0 (by omega) (show lat < h by rw [Int32.le_iff_toInt_le] at c1; rw [Int32.lt_iff_toInt_lt]; omega)]
      exact ⟨lv, ln, qr, qb, d, h, cb, ch, co, cF, rfl⟩
set_option maxHeartbeats 400000 in
theorem cla_4 {S nF pF qf so s1 s2 t1 t2 yj yo y1 y2 y3 y4 y5 : Nat → Int32} {fm fe sa yc tgt lat wt : Int32} {L : Cls} (g : GD S) (hL : LWX so s1 s2 t1 t2 yj yo y1 y2 y3 y4 y5 yc L) (hn : NE nF S) (hp : PE pF S) (hz : fm = S 6) (fr : FRI S qf tgt) {E : Int32 → Int32 → Int32 → (Nat → Int32) → (Nat → Int32) → Int32 → Int32 → Int32 → Int32 → Int32 → Int32 → (Nat → Int32) → Int32 → (Int32 × Int32 × Int32 × (Nat → Int32) × (Nat → Int32) × Int32 × Int32 × Int32 × Int32 × Int32 × Int32 × (Nat → Int32))} {v : Int32 → Bool} {u d h sn : Int32} (hu : rN u) (hb : BV sn v) (d0 : 0 ≤ d.toInt) (d9 : d.toInt ≤ 99999) (h0 : 0 ≤ h.toInt) (h9 : h.toInt + 48 ≤ 900000) : ∀ (n N : Nat) (p lf lv ln cb ch co : Int32) (qr qb cF : Nat → Int32), 0 ≤ p.toInt → p.toInt + n = (S 1).toInt → n < N → 0 ≤ lf.toInt → lf.toInt ≤ 99999 → ∃ lv' ln' qr' qb' cb' ch' co' cF' i', fl_mX5_seek_4_71 tgt (-1) lat wt 1 qf d h 0 fe sa nF (S 1) pF fm so s1 s2 t1 t2 yj yo y1 y2 y3 y4 y5 yc u sn E N lf lv ln qr qb d h (lf + 1) cb ch co cF p = E (srP (saG S L fe sa tgt lat 1 v u d h) n p lf) lv' ln' qr' qb' d h (srP (saG S L fe sa tgt lat 1 v u d h) n p lf + 1) cb' ch' co' cF' i' := by
  have b1 := GD_1 g
  have n20 : ¬ 20 < S 1 := by rw [Int32.lt_iff_toInt_lt, show (20 : Int32).toInt = 20 from by decide]; omega
  intro n
  induction n with
  | zero =>
    intro N p lf lv ln cb ch co qr qb cF p0 pz hN f0 f9
    obtain ⟨N, rfl⟩ : ∃ m, N = m + 1 := ⟨N - 1, by omega⟩
    refine ⟨lv, ln, qr, qb, cb, ch, co, cF, p, ?_⟩
    show fb_mX5_seek_4_71 tgt (-1) lat wt 1 qf d h 0 fe sa nF (S 1) pF fm so s1 s2 t1 t2 yj yo y1 y2 y3 y4 y5 yc u sn E (fl_mX5_seek_4_71 tgt (-1) lat wt 1 qf d h 0 fe sa nF (S 1) pF fm so s1 s2 t1 t2 yj yo y1 y2 y3 y4 y5 yc u sn E N) lf lv ln qr qb d h (lf + 1) cb ch co cF p = _
    unfold fb_mX5_seek_4_71
    rw [if_pos (show S 1 ≤ p by rw [Int32.le_iff_toInt_le]; omega)]
    rfl
  | succ n ih =>
    intro N p lf lv ln cb ch co qr qb cF p0 pz hN f0 f9
    obtain ⟨N, rfl⟩ : ∃ m, N = m + 1 := ⟨N - 1, by omega⟩
    have ep1 : (p + 1).toInt = p.toInt + 1 := zadd1 (by omega)
    have nb : ¬ p = -1 := by intro e; rw [e, show (-1 : Int32).toInt = -1 from by decide] at p0; omega
    have hs0 : ¬ hs p (S 1) = 0 := hs_in (z_nlt0 p0) (by rw [Int32.le_iff_toInt_le]; omega)
    have hrp := rP_of (GD_sp g) hs0
    have skip : saG S L fe sa tgt lat 1 v u d h p lf = lf → ∃ lv' ln' qr' qb' cb' ch' co' cF' i', fl_mX5_seek_4_71 tgt (-1) lat wt 1 qf d h 0 fe sa nF (S 1) pF fm so s1 s2 t1 t2 yj yo y1 y2 y3 y4 y5 yc u sn E N lf lv ln qr qb d h (lf + 1) cb ch co cF (p + 1) = E (srP (saG S L fe sa tgt lat 1 v u d h) (n + 1) p lf) lv' ln' qr' qb' d h (srP (saG S L fe sa tgt lat 1 v u d h) (n + 1) p lf + 1) cb' ch' co' cF' i' := by
      intro e
      rw [srP_s, e]
      exact ih N (p + 1) lf lv ln cb ch co qr qb cF (by omega) (by omega) (by omega) f0 f9
    show ∃ lv' ln' qr' qb' cb' ch' co' cF' i', fb_mX5_seek_4_71 tgt (-1) lat wt 1 qf d h 0 fe sa nF (S 1) pF fm so s1 s2 t1 t2 yj yo y1 y2 y3 y4 y5 yc u sn E (fl_mX5_seek_4_71 tgt (-1) lat wt 1 qf d h 0 fe sa nF (S 1) pF fm so s1 s2 t1 t2 yj yo y1 y2 y3 y4 y5 yc u sn E N) lf lv ln qr qb d h (lf + 1) cb ch co cF p = E (srP (saG S L fe sa tgt lat 1 v u d h) (n + 1) p lf) lv' ln' qr' qb' d h (srP (saG S L fe sa tgt lat 1 v u d h) (n + 1) p lf + 1) cb' ch' co' cF' i'
    unfold fb_mX5_seek_4_71
    rw [if_neg (show ¬ S 1 ≤ p by rw [Int32.le_iff_toInt_le]; omega)]
    by_cases c0 : d ≤ lf
    · rw [if_pos c0, srP_id (z := S 1) (fun p' _ _ => saG_le g d0 d9 (Int32.le_iff_toInt_le.mp c0)) b1.2 (n + 1) p p0 (by omega)]
      exact ⟨lv, ln, qr, qb, cb, ch, co, cF, p, rfl⟩
    rw [if_neg c0, if_neg nb, bndv (oe_in hp rfl n20 hs0)]
    by_cases c1 : oth S p u = -1
    · rw [if_pos c1, bnd_eq]
      exact skip (by unfold saG; rw [if_pos (show oth S p u < 0 by rw [c1]; decide)])
    have c2 : ¬ oth S p u < 0 := by
      have w := oth_w (n := u) (GD_wr g) (z_nlt0 p0) (show ¬ 20 ≤ p by rw [Int32.le_iff_toInt_le, show (20 : Int32).toInt = 20 from by decide]; omega)
      rw [Int32.lt_iff_toInt_lt, show (-1 : Int32).toInt = -1 from by decide] at w
      rw [Int32.lt_iff_toInt_lt, z_i0]
      have : ¬ (oth S p u).toInt = -1 := fun q => c1 (Int32.toInt_inj.mp (q.trans (by decide)))
      omega
    obtain ⟨ro1, ro2⟩ := oth_0 g hrp c2
    rw [if_neg c1, bnd_eq]
    by_cases c3 : v (oth S p u) = true
    · rw [if_neg (fun q => (hb _ ro1).mp q c3), bnd_eq]
      exact skip (by unfold saG; rw [if_neg c2, if_pos c3])
    rw [if_pos ((hb _ ro1).mpr c3), bndv (far_in (z_nlt0 ro1.1) (le_12 ro1.2))]
    have fb := fr.2.1 (oth S p u).toNatClampNeg (nat12 (z_nlt0 ro1.1) (le_12 ro1.2))
    by_cases c4 : 6 < (5 + qf (oth S p u).toNatClampNeg)
    · rw [if_pos c4, bnd_eq]
      refine skip ?_
      unfold saG
      rw [if_neg c2, if_neg c3]
      rw [Int32.lt_iff_toInt_lt, zadd (by rw [show (5 : Int32).toInt = 5 from by decide]; omega) (by rw [show (5 : Int32).toInt = 5 from by decide]; omega), show (5 : Int32).toInt = 5 from by decide, show (6 : Int32).toInt = 6 from by decide] at c4
      exact sa_far g fr 1 _ _ _ _ lf ro1 (by omega)
    obtain ⟨x1, x2, x3, cc, q, _⟩ := cls_cross (cF := cF) (nd := lf + 1) (mo := 0) (fe := fe) (sa := sa) (d := d) (h := h) hL hn hp rfl hz hrp ro1 ro2
    have dn := crD_in (nd := lf + 1) (S := S) (L := L) (pass := p) (to := oth S p u) (fe := fe) (sa := sa) (mo := 0) (h := h) d0 d9
    have d1 := crD_in (nd := 1) (S := S) (L := L) (pass := p) (to := oth S p u) (fe := fe) (sa := sa) (mo := 0) (h := h) d0 d9
    have hh := crH_i hrp h0 (show h.toInt ≤ 900000 by omega)
    have gi := saG_in (S := S) (L := L) (fe := fe) (sa := sa) (tgt := tgt) (lat := lat) (u := u) (h := h) (p := p) (j := 1) (v := v) g d0 d9 f9
    have eg : saG S L fe sa tgt lat 1 v u d h p lf = saF S L fe sa tgt lat 1 (addV v (oth S p u)) (oth S p u) (crD 1 S L p (oth S p u) fe sa 0 d h) (crH S p h) lf := by
      unfold saG
      rw [if_neg c2, if_neg c3]
    rw [if_neg c4, bnd_eq, bndv q, bnd_eq, bnd_eq, bnd_eq, bnd_eq, bnd_eq, bnd_eq, bnd_eq]
    have key : ∃ lv' ln' qr' qb' d' h' y1' y2' y3' y4', fX5_seek_5 lf lv ln tgt (-1) lat wt 1 qf (upd qr (4 : Int32).toNatClampNeg p) qb (crD (lf + 1) S L p (oth S p u) fe sa 0 d h) (crH S p h) 0 (lf + 1) fe sa cc x1 x2 x3 nF (S 1) pF fm so s1 s2 t1 t2 yj yo y1 y2 y3 y4 y5 yc (oth S p u) (sn ||| (1 <<< ((oth S p u) &&& 31))) = (saG S L fe sa tgt lat 1 v u d h p lf, lv', ln', qr', qb', d', h', saG S L fe sa tgt lat 1 v u d h p lf + 1, y1', y2', y3', y4') := by
      by_cases c5 : crD (lf + 1) S L p (oth S p u) fe sa 0 d h ≤ lf
      · have e : saG S L fe sa tgt lat 1 v u d h p lf = lf := by
          rw [eg]
          rcases crD_nd (S := S) (L := L) (pass := p) (to := oth S p u) (fe := fe) (sa := sa) (mo := 0) (h := h) (show 1 ≤ (lf + 1).toInt by rw [nd_1 f0 f9]; omega) d0 d9 with e | ⟨_, e⟩
          · rw [← e]; exact sa_le g 1 _ _ _ _ lf dn.1 (by omega) (Int32.le_iff_toInt_le.mp c5)
          · rw [Int32.le_iff_toInt_le] at c5
            exact sa_le g 1 _ _ _ _ lf d1.1 (by omega) (by omega)
        rw [e]
        unfold fX5_seek_5
        rw [if_pos c5]
        exact ⟨lv, ln, upd qr (4 : Int32).toNatClampNeg p, qb, _, _, _, _, _, _, rfl⟩
      · rcases crD_nd (S := S) (L := L) (pass := p) (to := oth S p u) (fe := fe) (sa := sa) (mo := 0) (h := h) (show 1 ≤ (lf + 1).toInt by rw [nd_1 f0 f9]; omega) d0 d9 with e | ⟨e, _⟩
        · rw [eg, e]
          exact csa_5 g hL hn hp hz fr (addV v (oth S p u)) (oth S p u) _ _ lf lv ln (sn ||| (1 <<< (oth S p u &&& 31))) x1 x2 x3 _ qb cc ro1 (BV_push hb ro1) d1.1 (by omega) f0 f9 (by omega) (by omega)
        · exact absurd (lt_nd1 f0 f9 e) c5
    obtain ⟨lv', ln', qr', qb', d', h', y1', y2', y3', y4', ek⟩ := key
    rw [bndv ek, bnd_eq, bnd_eq, bnd_eq, bnd_eq, bnd_eq, bnd_eq, bnd_eq, bnd_eq, bnd_eq, bnd_eq, bnd_eq]
    obtain ⟨z0, z1, z2, z3, z4, z5, z6, z7, z8, r⟩ := ih N (p + 1) (saG S L fe sa tgt lat 1 v u d h p lf) lv' ln' y1' y2' y3' qr' qb' y4' (by omega) (by omega) (by omega) (by omega) gi.2
    rw [srP_s]
    exact ⟨z0, z1, z2, z3, z4, z5, z6, z7, z8, r⟩
set_option maxHeartbeats 400000 in
theorem csa_4 {S nF pF qf so s1 s2 t1 t2 yj yo y1 y2 y3 y4 y5 : Nat → Int32} {fm fe sa yc tgt lat wt : Int32} {L : Cls} (g : GD S) (hL : LWX so s1 s2 t1 t2 yj yo y1 y2 y3 y4 y5 yc L) (hn : NE nF S) (hp : PE pF S) (hz : fm = S 6) (fr : FRI S qf tgt) : ∀ (v : Int32 → Bool) (u d h lf lv ln sn cb ch co : Int32) (qr qb cF : Nat → Int32), rN u → BV sn v → 0 ≤ d.toInt → d.toInt ≤ 99999 → 0 ≤ lf.toInt → lf.toInt ≤ 99999 → 0 ≤ h.toInt → h.toInt + 48 ≤ 900000 → ∃ lv' ln' qr' qb' d' h' cb' ch' co' cF', fX5_seek_4 lf lv ln tgt (-1) lat wt 1 qf qr qb d h 0 (lf + 1) fe sa cF cb ch co nF (S 1) pF fm so s1 s2 t1 t2 yj yo y1 y2 y3 y4 y5 yc u sn = (saF S L fe sa tgt lat 2 v u d h lf, lv', ln', qr', qb', d', h', saF S L fe sa tgt lat 2 v u d h lf + 1, cb', ch', co', cF') := by
  have b1 := GD_1 g
  have tb := tn_eq b1.1
  intro v u d h lf lv ln sn cb ch co qr qb cF hu hb d0 d9 f0 f9 h0 h9
  unfold fX5_seek_4
  by_cases c0 : d ≤ lf
  · rw [if_pos c0, sa_le g 2 v u d h lf d0 d9 (Int32.le_iff_toInt_le.mp c0)]
    exact ⟨lv, ln, qr, qb, d, h, cb, ch, co, cF, rfl⟩
  · rw [if_neg c0]
    by_cases c1 : h ≤ lat
    · rw [if_pos c1]
      by_cases c : u = tgt
      · obtain ⟨qb', e⟩ := keepa_x (qr := qr) (qb := qb) (wt := wt) (d := d) (k := 4) (by decide) (by decide)
        rw [if_pos c, bndv e, bnd_eq, bnd_eq, bnd_eq, bnd_eq, bnd_eq, sa_d c c1 c0]
        exact ⟨wt, 4, qr, qb', d, h, cb, ch, co, cF, rfl⟩
      · rw [if_neg c, saF_s c]
        obtain ⟨z0, z1, z2, z3, z4, z5, z6, z7, z8, r⟩ := cla_4 (wt := wt) (E := fun (w220_0_0 : Int32) (w220_1_0 : Int32) (w220_2_0 : Int32) (w220_3_0 : Nat → Int32) (w220_4_0 : Nat → Int32) (w220_5_0 : Int32) (w220_6_0 : Int32) (w220_7_0 : Int32) (w220_8_0 : Int32) (w220_9_0 : Int32) (w220_10_0 : Int32) (w220_11_0 : Nat → Int32) (w220_12_0 : Int32) => (w220_0_0, w220_1_0, w220_2_0, w220_3_0, w220_4_0, w220_5_0, w220_6_0, w220_7_0, w220_8_0, w220_9_0, w220_10_0, w220_11_0)) g hL hn hp hz fr hu hb d0 d9 h0 h9 (S 1).toNatClampNeg (((S 1 : Int32).toInt - (0 : Int32).toInt).toNat + 1) 0 lf lv ln cb ch co qr qb cF (by decide) (by rw [z_i0]; omega) (by rw [z_i0]; omega) f0 f9
        exact ⟨z0, z1, z2, z3, d, h, z4, z5, z6, z7, r⟩
    · rw [if_neg c1, sa_late g 2 v u d h lf h0 (by omega) (show lat < h by rw [Int32.le_iff_toInt_le] at c1; rw [Int32.lt_iff_toInt_lt]; omega)]
      exact ⟨lv, ln, qr, qb, d, h, cb, ch, co, cF, rfl⟩
set_option maxHeartbeats 400000 in
theorem cla_3 {S nF pF qf so s1 s2 t1 t2 yj yo y1 y2 y3 y4 y5 : Nat → Int32} {fm fe sa yc tgt lat wt : Int32} {L : Cls} (g : GD S) (hL : LWX so s1 s2 t1 t2 yj yo y1 y2 y3 y4 y5 yc L) (hn : NE nF S) (hp : PE pF S) (hz : fm = S 6) (fr : FRI S qf tgt) {E : Int32 → Int32 → Int32 → (Nat → Int32) → (Nat → Int32) → Int32 → Int32 → Int32 → Int32 → Int32 → Int32 → (Nat → Int32) → Int32 → (Int32 × Int32 × Int32 × (Nat → Int32) × (Nat → Int32) × Int32 × Int32 × Int32 × Int32 × Int32 × Int32 × (Nat → Int32))} {v : Int32 → Bool} {u d h sn : Int32} (hu : rN u) (hb : BV sn v) (d0 : 0 ≤ d.toInt) (d9 : d.toInt ≤ 99999) (h0 : 0 ≤ h.toInt) (h9 : h.toInt + 72 ≤ 900000) : ∀ (n N : Nat) (p lf lv ln cb ch co : Int32) (qr qb cF : Nat → Int32), 0 ≤ p.toInt → p.toInt + n = (S 1).toInt → n < N → 0 ≤ lf.toInt → lf.toInt ≤ 99999 → ∃ lv' ln' qr' qb' cb' ch' co' cF' i', fl_mX5_seek_3_71 tgt (-1) lat wt 1 qf d h 0 fe sa nF (S 1) pF fm so s1 s2 t1 t2 yj yo y1 y2 y3 y4 y5 yc u sn E N lf lv ln qr qb d h (lf + 1) cb ch co cF p = E (srP (saG S L fe sa tgt lat 2 v u d h) n p lf) lv' ln' qr' qb' d h (srP (saG S L fe sa tgt lat 2 v u d h) n p lf + 1) cb' ch' co' cF' i' := by
  have b1 := GD_1 g
  have n20 : ¬ 20 < S 1 := by rw [Int32.lt_iff_toInt_lt, show (20 : Int32).toInt = 20 from by decide]; omega
  intro n
  induction n with
  | zero =>
    intro N p lf lv ln cb ch co qr qb cF p0 pz hN f0 f9
    obtain ⟨N, rfl⟩ : ∃ m, N = m + 1 := ⟨N - 1, by omega⟩
    refine ⟨lv, ln, qr, qb, cb, ch, co, cF, p, ?_⟩
    show fb_mX5_seek_3_71 tgt (-1) lat wt 1 qf d h 0 fe sa nF (S 1) pF fm so s1 s2 t1 t2 yj yo y1 y2 y3 y4 y5 yc u sn E (fl_mX5_seek_3_71 tgt (-1) lat wt 1 qf d h 0 fe sa nF (S 1) pF fm so s1 s2 t1 t2 yj yo y1 y2 y3 y4 y5 yc u sn E N) lf lv ln qr qb d h (lf + 1) cb ch co cF p = _
    unfold fb_mX5_seek_3_71
    rw [if_pos (show S 1 ≤ p by rw [Int32.le_iff_toInt_le]; omega)]
    rfl
  | succ n ih =>
    intro N p lf lv ln cb ch co qr qb cF p0 pz hN f0 f9
    obtain ⟨N, rfl⟩ : ∃ m, N = m + 1 := ⟨N - 1, by omega⟩
    have ep1 : (p + 1).toInt = p.toInt + 1 := zadd1 (by omega)
    have nb : ¬ p = -1 := by intro e; rw [e, show (-1 : Int32).toInt = -1 from by decide] at p0; omega
    have hs0 : ¬ hs p (S 1) = 0 := hs_in (z_nlt0 p0) (by rw [Int32.le_iff_toInt_le]; omega)
    have hrp := rP_of (GD_sp g) hs0
    have skip : saG S L fe sa tgt lat 2 v u d h p lf = lf → ∃ lv' ln' qr' qb' cb' ch' co' cF' i', fl_mX5_seek_3_71 tgt (-1) lat wt 1 qf d h 0 fe sa nF (S 1) pF fm so s1 s2 t1 t2 yj yo y1 y2 y3 y4 y5 yc u sn E N lf lv ln qr qb d h (lf + 1) cb ch co cF (p + 1) = E (srP (saG S L fe sa tgt lat 2 v u d h) (n + 1) p lf) lv' ln' qr' qb' d h (srP (saG S L fe sa tgt lat 2 v u d h) (n + 1) p lf + 1) cb' ch' co' cF' i' := by
      intro e
      rw [srP_s, e]
      exact ih N (p + 1) lf lv ln cb ch co qr qb cF (by omega) (by omega) (by omega) f0 f9
    show ∃ lv' ln' qr' qb' cb' ch' co' cF' i', fb_mX5_seek_3_71 tgt (-1) lat wt 1 qf d h 0 fe sa nF (S 1) pF fm so s1 s2 t1 t2 yj yo y1 y2 y3 y4 y5 yc u sn E (fl_mX5_seek_3_71 tgt (-1) lat wt 1 qf d h 0 fe sa nF (S 1) pF fm so s1 s2 t1 t2 yj yo y1 y2 y3 y4 y5 yc u sn E N) lf lv ln qr qb d h (lf + 1) cb ch co cF p = E (srP (saG S L fe sa tgt lat 2 v u d h) (n + 1) p lf) lv' ln' qr' qb' d h (srP (saG S L fe sa tgt lat 2 v u d h) (n + 1) p lf + 1) cb' ch' co' cF' i'
    unfold fb_mX5_seek_3_71
    rw [if_neg (show ¬ S 1 ≤ p by rw [Int32.le_iff_toInt_le]; omega)]
    by_cases c0 : d ≤ lf
    · rw [if_pos c0, srP_id (z := S 1) (fun p' _ _ => saG_le g d0 d9 (Int32.le_iff_toInt_le.mp c0)) b1.2 (n + 1) p p0 (by omega)]
      exact ⟨lv, ln, qr, qb, cb, ch, co, cF, p, rfl⟩
    rw [if_neg c0, if_neg nb, bndv (oe_in hp rfl n20 hs0)]
    by_cases c1 : oth S p u = -1
    · rw [if_pos c1, bnd_eq]
      exact skip (by unfold saG; rw [if_pos (show oth S p u < 0 by rw [c1]; decide)])
    have c2 : ¬ oth S p u < 0 := by
      have w := oth_w (n := u) (GD_wr g) (z_nlt0 p0) (show ¬ 20 ≤ p by rw [Int32.le_iff_toInt_le, show (20 : Int32).toInt = 20 from by decide]; omega)
      rw [Int32.lt_iff_toInt_lt, show (-1 : Int32).toInt = -1 from by decide] at w
      rw [Int32.lt_iff_toInt_lt, z_i0]
      have : ¬ (oth S p u).toInt = -1 := fun q => c1 (Int32.toInt_inj.mp (q.trans (by decide)))
      omega
    obtain ⟨ro1, ro2⟩ := oth_0 g hrp c2
    rw [if_neg c1, bnd_eq]
    by_cases c3 : v (oth S p u) = true
    · rw [if_neg (fun q => (hb _ ro1).mp q c3), bnd_eq]
      exact skip (by unfold saG; rw [if_neg c2, if_pos c3])
    rw [if_pos ((hb _ ro1).mpr c3), bndv (far_in (z_nlt0 ro1.1) (le_12 ro1.2))]
    have fb := fr.2.1 (oth S p u).toNatClampNeg (nat12 (z_nlt0 ro1.1) (le_12 ro1.2))
    by_cases c4 : 6 < (4 + qf (oth S p u).toNatClampNeg)
    · rw [if_pos c4, bnd_eq]
      refine skip ?_
      unfold saG
      rw [if_neg c2, if_neg c3]
      rw [Int32.lt_iff_toInt_lt, zadd (by rw [show (4 : Int32).toInt = 4 from by decide]; omega) (by rw [show (4 : Int32).toInt = 4 from by decide]; omega), show (4 : Int32).toInt = 4 from by decide, show (6 : Int32).toInt = 6 from by decide] at c4
      exact sa_far g fr 2 _ _ _ _ lf ro1 (by omega)
    obtain ⟨x1, x2, x3, cc, q, _⟩ := cls_cross (cF := cF) (nd := lf + 1) (mo := 0) (fe := fe) (sa := sa) (d := d) (h := h) hL hn hp rfl hz hrp ro1 ro2
    have dn := crD_in (nd := lf + 1) (S := S) (L := L) (pass := p) (to := oth S p u) (fe := fe) (sa := sa) (mo := 0) (h := h) d0 d9
    have d1 := crD_in (nd := 1) (S := S) (L := L) (pass := p) (to := oth S p u) (fe := fe) (sa := sa) (mo := 0) (h := h) d0 d9
    have hh := crH_i hrp h0 (show h.toInt ≤ 900000 by omega)
    have gi := saG_in (S := S) (L := L) (fe := fe) (sa := sa) (tgt := tgt) (lat := lat) (u := u) (h := h) (p := p) (j := 2) (v := v) g d0 d9 f9
    have eg : saG S L fe sa tgt lat 2 v u d h p lf = saF S L fe sa tgt lat 2 (addV v (oth S p u)) (oth S p u) (crD 1 S L p (oth S p u) fe sa 0 d h) (crH S p h) lf := by
      unfold saG
      rw [if_neg c2, if_neg c3]
    rw [if_neg c4, bnd_eq, bndv q, bnd_eq, bnd_eq, bnd_eq, bnd_eq, bnd_eq, bnd_eq, bnd_eq]
    have key : ∃ lv' ln' qr' qb' d' h' y1' y2' y3' y4', fX5_seek_4 lf lv ln tgt (-1) lat wt 1 qf (upd qr (3 : Int32).toNatClampNeg p) qb (crD (lf + 1) S L p (oth S p u) fe sa 0 d h) (crH S p h) 0 (lf + 1) fe sa cc x1 x2 x3 nF (S 1) pF fm so s1 s2 t1 t2 yj yo y1 y2 y3 y4 y5 yc (oth S p u) (sn ||| (1 <<< ((oth S p u) &&& 31))) = (saG S L fe sa tgt lat 2 v u d h p lf, lv', ln', qr', qb', d', h', saG S L fe sa tgt lat 2 v u d h p lf + 1, y1', y2', y3', y4') := by
      by_cases c5 : crD (lf + 1) S L p (oth S p u) fe sa 0 d h ≤ lf
      · have e : saG S L fe sa tgt lat 2 v u d h p lf = lf := by
          rw [eg]
          rcases crD_nd (S := S) (L := L) (pass := p) (to := oth S p u) (fe := fe) (sa := sa) (mo := 0) (h := h) (show 1 ≤ (lf + 1).toInt by rw [nd_1 f0 f9]; omega) d0 d9 with e | ⟨_, e⟩
          · rw [← e]; exact sa_le g 2 _ _ _ _ lf dn.1 (by omega) (Int32.le_iff_toInt_le.mp c5)
          · rw [Int32.le_iff_toInt_le] at c5
            exact sa_le g 2 _ _ _ _ lf d1.1 (by omega) (by omega)
        rw [e]
        unfold fX5_seek_4
        rw [if_pos c5]
        exact ⟨lv, ln, upd qr (3 : Int32).toNatClampNeg p, qb, _, _, _, _, _, _, rfl⟩
      · rcases crD_nd (S := S) (L := L) (pass := p) (to := oth S p u) (fe := fe) (sa := sa) (mo := 0) (h := h) (show 1 ≤ (lf + 1).toInt by rw [nd_1 f0 f9]; omega) d0 d9 with e | ⟨e, _⟩
        · rw [eg, e]
          exact csa_4 g hL hn hp hz fr (addV v (oth S p u)) (oth S p u) _ _ lf lv ln (sn ||| (1 <<< (oth S p u &&& 31))) x1 x2 x3 _ qb cc ro1 (BV_push hb ro1) d1.1 (by omega) f0 f9 (by omega) (by omega)
        · exact absurd (lt_nd1 f0 f9 e) c5
    obtain ⟨lv', ln', qr', qb', d', h', y1', y2', y3', y4', ek⟩ := key
    rw [bndv ek, bnd_eq, bnd_eq, bnd_eq, bnd_eq, bnd_eq, bnd_eq, bnd_eq, bnd_eq, bnd_eq, bnd_eq, bnd_eq]
    obtain ⟨z0, z1, z2, z3, z4, z5, z6, z7, z8, r⟩ := ih N (p + 1) (saG S L fe sa tgt lat 2 v u d h p lf) lv' ln' y1' y2' y3' qr' qb' y4' (by omega) (by omega) (by omega) (by omega) gi.2
    rw [srP_s]
    exact ⟨z0, z1, z2, z3, z4, z5, z6, z7, z8, r⟩
set_option maxHeartbeats 400000 in
theorem csa_3 {S nF pF qf so s1 s2 t1 t2 yj yo y1 y2 y3 y4 y5 : Nat → Int32} {fm fe sa yc tgt lat wt : Int32} {L : Cls} (g : GD S) (hL : LWX so s1 s2 t1 t2 yj yo y1 y2 y3 y4 y5 yc L) (hn : NE nF S) (hp : PE pF S) (hz : fm = S 6) (fr : FRI S qf tgt) : ∀ (v : Int32 → Bool) (u d h lf lv ln sn cb ch co : Int32) (qr qb cF : Nat → Int32), rN u → BV sn v → 0 ≤ d.toInt → d.toInt ≤ 99999 → 0 ≤ lf.toInt → lf.toInt ≤ 99999 → 0 ≤ h.toInt → h.toInt + 72 ≤ 900000 → ∃ lv' ln' qr' qb' d' h' cb' ch' co' cF', fX5_seek_3 lf lv ln tgt (-1) lat wt 1 qf qr qb d h 0 (lf + 1) fe sa cF cb ch co nF (S 1) pF fm so s1 s2 t1 t2 yj yo y1 y2 y3 y4 y5 yc u sn = (saF S L fe sa tgt lat 3 v u d h lf, lv', ln', qr', qb', d', h', saF S L fe sa tgt lat 3 v u d h lf + 1, cb', ch', co', cF') := by
  have b1 := GD_1 g
  have tb := tn_eq b1.1
  intro v u d h lf lv ln sn cb ch co qr qb cF hu hb d0 d9 f0 f9 h0 h9
  unfold fX5_seek_3
  by_cases c0 : d ≤ lf
  · rw [if_pos c0, sa_le g 3 v u d h lf d0 d9 (Int32.le_iff_toInt_le.mp c0)]
    exact ⟨lv, ln, qr, qb, d, h, cb, ch, co, cF, rfl⟩
  · rw [if_neg c0]
    by_cases c1 : h ≤ lat
    · rw [if_pos c1]
      by_cases c : u = tgt
      · obtain ⟨qb', e⟩ := keepa_x (qr := qr) (qb := qb) (wt := wt) (d := d) (k := 3) (by decide) (by decide)
        rw [if_pos c, bndv e, bnd_eq, bnd_eq, bnd_eq, bnd_eq, bnd_eq, sa_d c c1 c0]
        exact ⟨wt, 3, qr, qb', d, h, cb, ch, co, cF, rfl⟩
      · rw [if_neg c, saF_s c]
        obtain ⟨z0, z1, z2, z3, z4, z5, z6, z7, z8, r⟩ := cla_3 (wt := wt) (E := fun (w220_0_0 : Int32) (w220_1_0 : Int32) (w220_2_0 : Int32) (w220_3_0 : Nat → Int32) (w220_4_0 : Nat → Int32) (w220_5_0 : Int32) (w220_6_0 : Int32) (w220_7_0 : Int32) (w220_8_0 : Int32) (w220_9_0 : Int32) (w220_10_0 : Int32) (w220_11_0 : Nat → Int32) (w220_12_0 : Int32) => (w220_0_0, w220_1_0, w220_2_0, w220_3_0, w220_4_0, w220_5_0, w220_6_0, w220_7_0, w220_8_0, w220_9_0, w220_10_0, w220_11_0)) g hL hn hp hz fr hu hb d0 d9 h0 h9 (S 1).toNatClampNeg (((S 1 : Int32).toInt - (0 : Int32).toInt).toNat + 1) 0 lf lv ln cb ch co qr qb cF (by decide) (by rw [z_i0]; omega) (by rw [z_i0]; omega) f0 f9
        exact ⟨z0, z1, z2, z3, d, h, z4, z5, z6, z7, r⟩
    · rw [if_neg c1, sa_late g 3 v u d h lf h0 (by omega) (show lat < h by rw [Int32.le_iff_toInt_le] at c1; rw [Int32.lt_iff_toInt_lt]; omega)]
      exact ⟨lv, ln, qr, qb, d, h, cb, ch, co, cF, rfl⟩
set_option maxHeartbeats 400000 in
theorem cla_2 {S nF pF qf so s1 s2 t1 t2 yj yo y1 y2 y3 y4 y5 : Nat → Int32} {fm fe sa yc tgt lat wt : Int32} {L : Cls} (g : GD S) (hL : LWX so s1 s2 t1 t2 yj yo y1 y2 y3 y4 y5 yc L) (hn : NE nF S) (hp : PE pF S) (hz : fm = S 6) (fr : FRI S qf tgt) {E : Int32 → Int32 → Int32 → (Nat → Int32) → (Nat → Int32) → Int32 → Int32 → Int32 → Int32 → Int32 → Int32 → (Nat → Int32) → Int32 → (Int32 × Int32 × Int32 × (Nat → Int32) × (Nat → Int32) × Int32 × Int32 × Int32 × Int32 × Int32 × Int32 × (Nat → Int32))} {v : Int32 → Bool} {u d h sn : Int32} (hu : rN u) (hb : BV sn v) (d0 : 0 ≤ d.toInt) (d9 : d.toInt ≤ 99999) (h0 : 0 ≤ h.toInt) (h9 : h.toInt + 96 ≤ 900000) : ∀ (n N : Nat) (p lf lv ln cb ch co : Int32) (qr qb cF : Nat → Int32), 0 ≤ p.toInt → p.toInt + n = (S 1).toInt → n < N → 0 ≤ lf.toInt → lf.toInt ≤ 99999 → ∃ lv' ln' qr' qb' cb' ch' co' cF' i', fl_mX5_seek_2_71 tgt (-1) lat wt 1 qf d h 0 fe sa nF (S 1) pF fm so s1 s2 t1 t2 yj yo y1 y2 y3 y4 y5 yc u sn E N lf lv ln qr qb d h (lf + 1) cb ch co cF p = E (srP (saG S L fe sa tgt lat 3 v u d h) n p lf) lv' ln' qr' qb' d h (srP (saG S L fe sa tgt lat 3 v u d h) n p lf + 1) cb' ch' co' cF' i' := by
  have b1 := GD_1 g
  have n20 : ¬ 20 < S 1 := by rw [Int32.lt_iff_toInt_lt, show (20 : Int32).toInt = 20 from by decide]; omega
  intro n
  induction n with
  | zero =>
    intro N p lf lv ln cb ch co qr qb cF p0 pz hN f0 f9
    obtain ⟨N, rfl⟩ : ∃ m, N = m + 1 := ⟨N - 1, by omega⟩
    refine ⟨lv, ln, qr, qb, cb, ch, co, cF, p, ?_⟩
    show fb_mX5_seek_2_71 tgt (-1) lat wt 1 qf d h 0 fe sa nF (S 1) pF fm so s1 s2 t1 t2 yj yo y1 y2 y3 y4 y5 yc u sn E (fl_mX5_seek_2_71 tgt (-1) lat wt 1 qf d h 0 fe sa nF (S 1) pF fm so s1 s2 t1 t2 yj yo y1 y2 y3 y4 y5 yc u sn E N) lf lv ln qr qb d h (lf + 1) cb ch co cF p = _
    unfold fb_mX5_seek_2_71
    rw [if_pos (show S 1 ≤ p by rw [Int32.le_iff_toInt_le]; omega)]
    rfl
  | succ n ih =>
    intro N p lf lv ln cb ch co qr qb cF p0 pz hN f0 f9
    obtain ⟨N, rfl⟩ : ∃ m, N = m + 1 := ⟨N - 1, by omega⟩
    have ep1 : (p + 1).toInt = p.toInt + 1 := zadd1 (by omega)
    have nb : ¬ p = -1 := by intro e; rw [e, show (-1 : Int32).toInt = -1 from by decide] at p0; omega
    have hs0 : ¬ hs p (S 1) = 0 := hs_in (z_nlt0 p0) (by rw [Int32.le_iff_toInt_le]; omega)
    have hrp := rP_of (GD_sp g) hs0
    have skip : saG S L fe sa tgt lat 3 v u d h p lf = lf → ∃ lv' ln' qr' qb' cb' ch' co' cF' i', fl_mX5_seek_2_71 tgt (-1) lat wt 1 qf d h 0 fe sa nF (S 1) pF fm so s1 s2 t1 t2 yj yo y1 y2 y3 y4 y5 yc u sn E N lf lv ln qr qb d h (lf + 1) cb ch co cF (p + 1) = E (srP (saG S L fe sa tgt lat 3 v u d h) (n + 1) p lf) lv' ln' qr' qb' d h (srP (saG S L fe sa tgt lat 3 v u d h) (n + 1) p lf + 1) cb' ch' co' cF' i' := by
      intro e
      rw [srP_s, e]
      exact ih N (p + 1) lf lv ln cb ch co qr qb cF (by omega) (by omega) (by omega) f0 f9
    show ∃ lv' ln' qr' qb' cb' ch' co' cF' i', fb_mX5_seek_2_71 tgt (-1) lat wt 1 qf d h 0 fe sa nF (S 1) pF fm so s1 s2 t1 t2 yj yo y1 y2 y3 y4 y5 yc u sn E (fl_mX5_seek_2_71 tgt (-1) lat wt 1 qf d h 0 fe sa nF (S 1) pF fm so s1 s2 t1 t2 yj yo y1 y2 y3 y4 y5 yc u sn E N) lf lv ln qr qb d h (lf + 1) cb ch co cF p = E (srP (saG S L fe sa tgt lat 3 v u d h) (n + 1) p lf) lv' ln' qr' qb' d h (srP (saG S L fe sa tgt lat 3 v u d h) (n + 1) p lf + 1) cb' ch' co' cF' i'
    unfold fb_mX5_seek_2_71
    rw [if_neg (show ¬ S 1 ≤ p by rw [Int32.le_iff_toInt_le]; omega)]
    by_cases c0 : d ≤ lf
    · rw [if_pos c0, srP_id (z := S 1) (fun p' _ _ => saG_le g d0 d9 (Int32.le_iff_toInt_le.mp c0)) b1.2 (n + 1) p p0 (by omega)]
      exact ⟨lv, ln, qr, qb, cb, ch, co, cF, p, rfl⟩
    rw [if_neg c0, if_neg nb, bndv (oe_in hp rfl n20 hs0)]
    by_cases c1 : oth S p u = -1
    · rw [if_pos c1, bnd_eq]
      exact skip (by unfold saG; rw [if_pos (show oth S p u < 0 by rw [c1]; decide)])
    have c2 : ¬ oth S p u < 0 := by
      have w := oth_w (n := u) (GD_wr g) (z_nlt0 p0) (show ¬ 20 ≤ p by rw [Int32.le_iff_toInt_le, show (20 : Int32).toInt = 20 from by decide]; omega)
      rw [Int32.lt_iff_toInt_lt, show (-1 : Int32).toInt = -1 from by decide] at w
      rw [Int32.lt_iff_toInt_lt, z_i0]
      have : ¬ (oth S p u).toInt = -1 := fun q => c1 (Int32.toInt_inj.mp (q.trans (by decide)))
      omega
    obtain ⟨ro1, ro2⟩ := oth_0 g hrp c2
    rw [if_neg c1, bnd_eq]
    by_cases c3 : v (oth S p u) = true
    · rw [if_neg (fun q => (hb _ ro1).mp q c3), bnd_eq]
      exact skip (by unfold saG; rw [if_neg c2, if_pos c3])
    rw [if_pos ((hb _ ro1).mpr c3), bndv (far_in (z_nlt0 ro1.1) (le_12 ro1.2))]
    have fb := fr.2.1 (oth S p u).toNatClampNeg (nat12 (z_nlt0 ro1.1) (le_12 ro1.2))
    by_cases c4 : 6 < (3 + qf (oth S p u).toNatClampNeg)
    · rw [if_pos c4, bnd_eq]
      refine skip ?_
      unfold saG
      rw [if_neg c2, if_neg c3]
      rw [Int32.lt_iff_toInt_lt, zadd (by rw [show (3 : Int32).toInt = 3 from by decide]; omega) (by rw [show (3 : Int32).toInt = 3 from by decide]; omega), show (3 : Int32).toInt = 3 from by decide, show (6 : Int32).toInt = 6 from by decide] at c4
      exact sa_far g fr 3 _ _ _ _ lf ro1 (by omega)
    obtain ⟨x1, x2, x3, cc, q, _⟩ := cls_cross (cF := cF) (nd := lf + 1) (mo := 0) (fe := fe) (sa := sa) (d := d) (h := h) hL hn hp rfl hz hrp ro1 ro2
    have dn := crD_in (nd := lf + 1) (S := S) (L := L) (pass := p) (to := oth S p u) (fe := fe) (sa := sa) (mo := 0) (h := h) d0 d9
    have d1 := crD_in (nd := 1) (S := S) (L := L) (pass := p) (to := oth S p u) (fe := fe) (sa := sa) (mo := 0) (h := h) d0 d9
    have hh := crH_i hrp h0 (show h.toInt ≤ 900000 by omega)
    have gi := saG_in (S := S) (L := L) (fe := fe) (sa := sa) (tgt := tgt) (lat := lat) (u := u) (h := h) (p := p) (j := 3) (v := v) g d0 d9 f9
    have eg : saG S L fe sa tgt lat 3 v u d h p lf = saF S L fe sa tgt lat 3 (addV v (oth S p u)) (oth S p u) (crD 1 S L p (oth S p u) fe sa 0 d h) (crH S p h) lf := by
      unfold saG
      rw [if_neg c2, if_neg c3]
    rw [if_neg c4, bnd_eq, bndv q, bnd_eq, bnd_eq, bnd_eq, bnd_eq, bnd_eq, bnd_eq, bnd_eq]
    have key : ∃ lv' ln' qr' qb' d' h' y1' y2' y3' y4', fX5_seek_3 lf lv ln tgt (-1) lat wt 1 qf (upd qr (2 : Int32).toNatClampNeg p) qb (crD (lf + 1) S L p (oth S p u) fe sa 0 d h) (crH S p h) 0 (lf + 1) fe sa cc x1 x2 x3 nF (S 1) pF fm so s1 s2 t1 t2 yj yo y1 y2 y3 y4 y5 yc (oth S p u) (sn ||| (1 <<< ((oth S p u) &&& 31))) = (saG S L fe sa tgt lat 3 v u d h p lf, lv', ln', qr', qb', d', h', saG S L fe sa tgt lat 3 v u d h p lf + 1, y1', y2', y3', y4') := by
      by_cases c5 : crD (lf + 1) S L p (oth S p u) fe sa 0 d h ≤ lf
      · have e : saG S L fe sa tgt lat 3 v u d h p lf = lf := by
          rw [eg]
          rcases crD_nd (S := S) (L := L) (pass := p) (to := oth S p u) (fe := fe) (sa := sa) (mo := 0) (h := h) (show 1 ≤ (lf + 1).toInt by rw [nd_1 f0 f9]; omega) d0 d9 with e | ⟨_, e⟩
          · rw [← e]; exact sa_le g 3 _ _ _ _ lf dn.1 (by omega) (Int32.le_iff_toInt_le.mp c5)
          · rw [Int32.le_iff_toInt_le] at c5
            exact sa_le g 3 _ _ _ _ lf d1.1 (by omega) (by omega)
        rw [e]
        unfold fX5_seek_3
        rw [if_pos c5]
        exact ⟨lv, ln, upd qr (2 : Int32).toNatClampNeg p, qb, _, _, _, _, _, _, rfl⟩
      · rcases crD_nd (S := S) (L := L) (pass := p) (to := oth S p u) (fe := fe) (sa := sa) (mo := 0) (h := h) (show 1 ≤ (lf + 1).toInt by rw [nd_1 f0 f9]; omega) d0 d9 with e | ⟨e, _⟩
        · rw [eg, e]
          exact csa_3 g hL hn hp hz fr (addV v (oth S p u)) (oth S p u) _ _ lf lv ln (sn ||| (1 <<< (oth S p u &&& 31))) x1 x2 x3 _ qb cc ro1 (BV_push hb ro1) d1.1 (by omega) f0 f9 (by omega) (by omega)
        · exact absurd (lt_nd1 f0 f9 e) c5
    obtain ⟨lv', ln', qr', qb', d', h', y1', y2', y3', y4', ek⟩ := key
    rw [bndv ek, bnd_eq, bnd_eq, bnd_eq, bnd_eq, bnd_eq, bnd_eq, bnd_eq, bnd_eq, bnd_eq, bnd_eq, bnd_eq]
    obtain ⟨z0, z1, z2, z3, z4, z5, z6, z7, z8, r⟩ := ih N (p + 1) (saG S L fe sa tgt lat 3 v u d h p lf) lv' ln' y1' y2' y3' qr' qb' y4' (by omega) (by omega) (by omega) (by omega) gi.2
    rw [srP_s]
    exact ⟨z0, z1, z2, z3, z4, z5, z6, z7, z8, r⟩
set_option maxHeartbeats 400000 in
theorem csa_2 {S nF pF qf so s1 s2 t1 t2 yj yo y1 y2 y3 y4 y5 : Nat → Int32} {fm fe sa yc tgt lat wt : Int32} {L : Cls} (g : GD S) (hL : LWX so s1 s2 t1 t2 yj yo y1 y2 y3 y4 y5 yc L) (hn : NE nF S) (hp : PE pF S) (hz : fm = S 6) (fr : FRI S qf tgt) : ∀ (v : Int32 → Bool) (u d h lf lv ln sn cb ch co : Int32) (qr qb cF : Nat → Int32), rN u → BV sn v → 0 ≤ d.toInt → d.toInt ≤ 99999 → 0 ≤ lf.toInt → lf.toInt ≤ 99999 → 0 ≤ h.toInt → h.toInt + 96 ≤ 900000 → ∃ lv' ln' qr' qb' d' h' cb' ch' co' cF', fX5_seek_2 lf lv ln tgt (-1) lat wt 1 qf qr qb d h 0 (lf + 1) fe sa cF cb ch co nF (S 1) pF fm so s1 s2 t1 t2 yj yo y1 y2 y3 y4 y5 yc u sn = (saF S L fe sa tgt lat 4 v u d h lf, lv', ln', qr', qb', d', h', saF S L fe sa tgt lat 4 v u d h lf + 1, cb', ch', co', cF') := by
  have b1 := GD_1 g
  have tb := tn_eq b1.1
  intro v u d h lf lv ln sn cb ch co qr qb cF hu hb d0 d9 f0 f9 h0 h9
  unfold fX5_seek_2
  by_cases c0 : d ≤ lf
  · rw [if_pos c0, sa_le g 4 v u d h lf d0 d9 (Int32.le_iff_toInt_le.mp c0)]
    exact ⟨lv, ln, qr, qb, d, h, cb, ch, co, cF, rfl⟩
  · rw [if_neg c0]
    by_cases c1 : h ≤ lat
    · rw [if_pos c1]
      by_cases c : u = tgt
      · obtain ⟨qb', e⟩ := keepa_x (qr := qr) (qb := qb) (wt := wt) (d := d) (k := 2) (by decide) (by decide)
        rw [if_pos c, bndv e, bnd_eq, bnd_eq, bnd_eq, bnd_eq, bnd_eq, sa_d c c1 c0]
        exact ⟨wt, 2, qr, qb', d, h, cb, ch, co, cF, rfl⟩
      · rw [if_neg c, saF_s c]
        obtain ⟨z0, z1, z2, z3, z4, z5, z6, z7, z8, r⟩ := cla_2 (wt := wt) (E := fun (w220_0_0 : Int32) (w220_1_0 : Int32) (w220_2_0 : Int32) (w220_3_0 : Nat → Int32) (w220_4_0 : Nat → Int32) (w220_5_0 : Int32) (w220_6_0 : Int32) (w220_7_0 : Int32) (w220_8_0 : Int32) (w220_9_0 : Int32) (w220_10_0 : Int32) (w220_11_0 : Nat → Int32) (w220_12_0 : Int32) => (w220_0_0, w220_1_0, w220_2_0, w220_3_0, w220_4_0, w220_5_0, w220_6_0, w220_7_0, w220_8_0, w220_9_0, w220_10_0, w220_11_0)) g hL hn hp hz fr hu hb d0 d9 h0 h9 (S 1).toNatClampNeg (((S 1 : Int32).toInt - (0 : Int32).toInt).toNat + 1) 0 lf lv ln cb ch co qr qb cF (by decide) (by rw [z_i0]; omega) (by rw [z_i0]; omega) f0 f9
        exact ⟨z0, z1, z2, z3, d, h, z4, z5, z6, z7, r⟩
    · rw [if_neg c1, sa_late g 4 v u d h lf h0 (by omega) (show lat < h by rw [Int32.le_iff_toInt_le] at c1; rw [Int32.lt_iff_toInt_lt]; omega)]
      exact ⟨lv, ln, qr, qb, d, h, cb, ch, co, cF, rfl⟩
set_option maxHeartbeats 400000 in
theorem cla_1 {S nF pF qf so s1 s2 t1 t2 yj yo y1 y2 y3 y4 y5 : Nat → Int32} {fm fe sa yc tgt lat wt : Int32} {L : Cls} (g : GD S) (hL : LWX so s1 s2 t1 t2 yj yo y1 y2 y3 y4 y5 yc L) (hn : NE nF S) (hp : PE pF S) (hz : fm = S 6) (fr : FRI S qf tgt) {E : Int32 → Int32 → Int32 → (Nat → Int32) → (Nat → Int32) → Int32 → Int32 → Int32 → Int32 → Int32 → Int32 → (Nat → Int32) → Int32 → (Int32 × Int32 × Int32 × (Nat → Int32) × (Nat → Int32) × Int32 × Int32 × Int32 × Int32 × Int32 × Int32 × (Nat → Int32))} {v : Int32 → Bool} {u d h sn : Int32} (hu : rN u) (hb : BV sn v) (d0 : 0 ≤ d.toInt) (d9 : d.toInt ≤ 99999) (h0 : 0 ≤ h.toInt) (h9 : h.toInt + 120 ≤ 900000) : ∀ (n N : Nat) (p lf lv ln cb ch co : Int32) (qr qb cF : Nat → Int32), 0 ≤ p.toInt → p.toInt + n = (S 1).toInt → n < N → 0 ≤ lf.toInt → lf.toInt ≤ 99999 → ∃ lv' ln' qr' qb' cb' ch' co' cF' i', fl_mX5_seek_1_71 tgt (-1) lat wt 1 qf d h 0 fe sa nF (S 1) pF fm so s1 s2 t1 t2 yj yo y1 y2 y3 y4 y5 yc u sn E N lf lv ln qr qb d h (lf + 1) cb ch co cF p = E (srP (saG S L fe sa tgt lat 4 v u d h) n p lf) lv' ln' qr' qb' d h (srP (saG S L fe sa tgt lat 4 v u d h) n p lf + 1) cb' ch' co' cF' i' := by
  have b1 := GD_1 g
  have n20 : ¬ 20 < S 1 := by rw [Int32.lt_iff_toInt_lt, show (20 : Int32).toInt = 20 from by decide]; omega
  intro n
  induction n with
  | zero =>
    intro N p lf lv ln cb ch co qr qb cF p0 pz hN f0 f9
    obtain ⟨N, rfl⟩ : ∃ m, N = m + 1 := ⟨N - 1, by omega⟩
    refine ⟨lv, ln, qr, qb, cb, ch, co, cF, p, ?_⟩
    show fb_mX5_seek_1_71 tgt (-1) lat wt 1 qf d h 0 fe sa nF (S 1) pF fm so s1 s2 t1 t2 yj yo y1 y2 y3 y4 y5 yc u sn E (fl_mX5_seek_1_71 tgt (-1) lat wt 1 qf d h 0 fe sa nF (S 1) pF fm so s1 s2 t1 t2 yj yo y1 y2 y3 y4 y5 yc u sn E N) lf lv ln qr qb d h (lf + 1) cb ch co cF p = _
    unfold fb_mX5_seek_1_71
    rw [if_pos (show S 1 ≤ p by rw [Int32.le_iff_toInt_le]; omega)]
    rfl
  | succ n ih =>
    intro N p lf lv ln cb ch co qr qb cF p0 pz hN f0 f9
    obtain ⟨N, rfl⟩ : ∃ m, N = m + 1 := ⟨N - 1, by omega⟩
    have ep1 : (p + 1).toInt = p.toInt + 1 := zadd1 (by omega)
    have nb : ¬ p = -1 := by intro e; rw [e, show (-1 : Int32).toInt = -1 from by decide] at p0; omega
    have hs0 : ¬ hs p (S 1) = 0 := hs_in (z_nlt0 p0) (by rw [Int32.le_iff_toInt_le]; omega)
    have hrp := rP_of (GD_sp g) hs0
    have skip : saG S L fe sa tgt lat 4 v u d h p lf = lf → ∃ lv' ln' qr' qb' cb' ch' co' cF' i', fl_mX5_seek_1_71 tgt (-1) lat wt 1 qf d h 0 fe sa nF (S 1) pF fm so s1 s2 t1 t2 yj yo y1 y2 y3 y4 y5 yc u sn E N lf lv ln qr qb d h (lf + 1) cb ch co cF (p + 1) = E (srP (saG S L fe sa tgt lat 4 v u d h) (n + 1) p lf) lv' ln' qr' qb' d h (srP (saG S L fe sa tgt lat 4 v u d h) (n + 1) p lf + 1) cb' ch' co' cF' i' := by
      intro e
      rw [srP_s, e]
      exact ih N (p + 1) lf lv ln cb ch co qr qb cF (by omega) (by omega) (by omega) f0 f9
    show ∃ lv' ln' qr' qb' cb' ch' co' cF' i', fb_mX5_seek_1_71 tgt (-1) lat wt 1 qf d h 0 fe sa nF (S 1) pF fm so s1 s2 t1 t2 yj yo y1 y2 y3 y4 y5 yc u sn E (fl_mX5_seek_1_71 tgt (-1) lat wt 1 qf d h 0 fe sa nF (S 1) pF fm so s1 s2 t1 t2 yj yo y1 y2 y3 y4 y5 yc u sn E N) lf lv ln qr qb d h (lf + 1) cb ch co cF p = E (srP (saG S L fe sa tgt lat 4 v u d h) (n + 1) p lf) lv' ln' qr' qb' d h (srP (saG S L fe sa tgt lat 4 v u d h) (n + 1) p lf + 1) cb' ch' co' cF' i'
    unfold fb_mX5_seek_1_71
    rw [if_neg (show ¬ S 1 ≤ p by rw [Int32.le_iff_toInt_le]; omega)]
    by_cases c0 : d ≤ lf
    · rw [if_pos c0, srP_id (z := S 1) (fun p' _ _ => saG_le g d0 d9 (Int32.le_iff_toInt_le.mp c0)) b1.2 (n + 1) p p0 (by omega)]
      exact ⟨lv, ln, qr, qb, cb, ch, co, cF, p, rfl⟩
    rw [if_neg c0, if_neg nb, bndv (oe_in hp rfl n20 hs0)]
    by_cases c1 : oth S p u = -1
    · rw [if_pos c1, bnd_eq]
      exact skip (by unfold saG; rw [if_pos (show oth S p u < 0 by rw [c1]; decide)])
    have c2 : ¬ oth S p u < 0 := by
      have w := oth_w (n := u) (GD_wr g) (z_nlt0 p0) (show ¬ 20 ≤ p by rw [Int32.le_iff_toInt_le, show (20 : Int32).toInt = 20 from by decide]; omega)
      rw [Int32.lt_iff_toInt_lt, show (-1 : Int32).toInt = -1 from by decide] at w
      rw [Int32.lt_iff_toInt_lt, z_i0]
      have : ¬ (oth S p u).toInt = -1 := fun q => c1 (Int32.toInt_inj.mp (q.trans (by decide)))
      omega
    obtain ⟨ro1, ro2⟩ := oth_0 g hrp c2
    rw [if_neg c1, bnd_eq]
    by_cases c3 : v (oth S p u) = true
    · rw [if_neg (fun q => (hb _ ro1).mp q c3), bnd_eq]
      exact skip (by unfold saG; rw [if_neg c2, if_pos c3])
    rw [if_pos ((hb _ ro1).mpr c3), bndv (far_in (z_nlt0 ro1.1) (le_12 ro1.2))]
    have fb := fr.2.1 (oth S p u).toNatClampNeg (nat12 (z_nlt0 ro1.1) (le_12 ro1.2))
    by_cases c4 : 6 < (2 + qf (oth S p u).toNatClampNeg)
    · rw [if_pos c4, bnd_eq]
      refine skip ?_
      unfold saG
      rw [if_neg c2, if_neg c3]
      rw [Int32.lt_iff_toInt_lt, zadd (by rw [show (2 : Int32).toInt = 2 from by decide]; omega) (by rw [show (2 : Int32).toInt = 2 from by decide]; omega), show (2 : Int32).toInt = 2 from by decide, show (6 : Int32).toInt = 6 from by decide] at c4
      exact sa_far g fr 4 _ _ _ _ lf ro1 (by omega)
    obtain ⟨x1, x2, x3, cc, q, _⟩ := cls_cross (cF := cF) (nd := lf + 1) (mo := 0) (fe := fe) (sa := sa) (d := d) (h := h) hL hn hp rfl hz hrp ro1 ro2
    have dn := crD_in (nd := lf + 1) (S := S) (L := L) (pass := p) (to := oth S p u) (fe := fe) (sa := sa) (mo := 0) (h := h) d0 d9
    have d1 := crD_in (nd := 1) (S := S) (L := L) (pass := p) (to := oth S p u) (fe := fe) (sa := sa) (mo := 0) (h := h) d0 d9
    have hh := crH_i hrp h0 (show h.toInt ≤ 900000 by omega)
    have gi := saG_in (S := S) (L := L) (fe := fe) (sa := sa) (tgt := tgt) (lat := lat) (u := u) (h := h) (p := p) (j := 4) (v := v) g d0 d9 f9
    have eg : saG S L fe sa tgt lat 4 v u d h p lf = saF S L fe sa tgt lat 4 (addV v (oth S p u)) (oth S p u) (crD 1 S L p (oth S p u) fe sa 0 d h) (crH S p h) lf := by
      unfold saG
      rw [if_neg c2, if_neg c3]
    rw [if_neg c4, bnd_eq, bndv q, bnd_eq, bnd_eq, bnd_eq, bnd_eq, bnd_eq, bnd_eq, bnd_eq]
    have key : ∃ lv' ln' qr' qb' d' h' y1' y2' y3' y4', fX5_seek_2 lf lv ln tgt (-1) lat wt 1 qf (upd qr (1 : Int32).toNatClampNeg p) qb (crD (lf + 1) S L p (oth S p u) fe sa 0 d h) (crH S p h) 0 (lf + 1) fe sa cc x1 x2 x3 nF (S 1) pF fm so s1 s2 t1 t2 yj yo y1 y2 y3 y4 y5 yc (oth S p u) (sn ||| (1 <<< ((oth S p u) &&& 31))) = (saG S L fe sa tgt lat 4 v u d h p lf, lv', ln', qr', qb', d', h', saG S L fe sa tgt lat 4 v u d h p lf + 1, y1', y2', y3', y4') := by
      by_cases c5 : crD (lf + 1) S L p (oth S p u) fe sa 0 d h ≤ lf
      · have e : saG S L fe sa tgt lat 4 v u d h p lf = lf := by
          rw [eg]
          rcases crD_nd (S := S) (L := L) (pass := p) (to := oth S p u) (fe := fe) (sa := sa) (mo := 0) (h := h) (show 1 ≤ (lf + 1).toInt by rw [nd_1 f0 f9]; omega) d0 d9 with e | ⟨_, e⟩
          · rw [← e]; exact sa_le g 4 _ _ _ _ lf dn.1 (by omega) (Int32.le_iff_toInt_le.mp c5)
          · rw [Int32.le_iff_toInt_le] at c5
            exact sa_le g 4 _ _ _ _ lf d1.1 (by omega) (by omega)
        rw [e]
        unfold fX5_seek_2
        rw [if_pos c5]
        exact ⟨lv, ln, upd qr (1 : Int32).toNatClampNeg p, qb, _, _, _, _, _, _, rfl⟩
      · rcases crD_nd (S := S) (L := L) (pass := p) (to := oth S p u) (fe := fe) (sa := sa) (mo := 0) (h := h) (show 1 ≤ (lf + 1).toInt by rw [nd_1 f0 f9]; omega) d0 d9 with e | ⟨e, _⟩
        · rw [eg, e]
          exact csa_2 g hL hn hp hz fr (addV v (oth S p u)) (oth S p u) _ _ lf lv ln (sn ||| (1 <<< (oth S p u &&& 31))) x1 x2 x3 _ qb cc ro1 (BV_push hb ro1) d1.1 (by omega) f0 f9 (by omega) (by omega)
        · exact absurd (lt_nd1 f0 f9 e) c5
    obtain ⟨lv', ln', qr', qb', d', h', y1', y2', y3', y4', ek⟩ := key
    rw [bndv ek, bnd_eq, bnd_eq, bnd_eq, bnd_eq, bnd_eq, bnd_eq, bnd_eq, bnd_eq, bnd_eq, bnd_eq, bnd_eq]
    obtain ⟨z0, z1, z2, z3, z4, z5, z6, z7, z8, r⟩ := ih N (p + 1) (saG S L fe sa tgt lat 4 v u d h p lf) lv' ln' y1' y2' y3' qr' qb' y4' (by omega) (by omega) (by omega) (by omega) gi.2
    rw [srP_s]
    exact ⟨z0, z1, z2, z3, z4, z5, z6, z7, z8, r⟩
set_option maxHeartbeats 400000 in
theorem csa_1 {S nF pF qf so s1 s2 t1 t2 yj yo y1 y2 y3 y4 y5 : Nat → Int32} {fm fe sa yc tgt lat wt : Int32} {L : Cls} (g : GD S) (hL : LWX so s1 s2 t1 t2 yj yo y1 y2 y3 y4 y5 yc L) (hn : NE nF S) (hp : PE pF S) (hz : fm = S 6) (fr : FRI S qf tgt) : ∀ (v : Int32 → Bool) (u d h lf lv ln sn cb ch co : Int32) (qr qb cF : Nat → Int32), rN u → BV sn v → 0 ≤ d.toInt → d.toInt ≤ 99999 → 0 ≤ lf.toInt → lf.toInt ≤ 99999 → 0 ≤ h.toInt → h.toInt + 120 ≤ 900000 → ∃ lv' ln' qr' qb' d' h' cb' ch' co' cF', fX5_seek_1 lf lv ln tgt (-1) lat wt 1 qf qr qb d h 0 (lf + 1) fe sa cF cb ch co nF (S 1) pF fm so s1 s2 t1 t2 yj yo y1 y2 y3 y4 y5 yc u sn = (saF S L fe sa tgt lat 5 v u d h lf, lv', ln', qr', qb', d', h', saF S L fe sa tgt lat 5 v u d h lf + 1, cb', ch', co', cF') := by
  have b1 := GD_1 g
  have tb := tn_eq b1.1
  intro v u d h lf lv ln sn cb ch co qr qb cF hu hb d0 d9 f0 f9 h0 h9
  unfold fX5_seek_1
  by_cases c0 : d ≤ lf
  · rw [if_pos c0, sa_le g 5 v u d h lf d0 d9 (Int32.le_iff_toInt_le.mp c0)]
    exact ⟨lv, ln, qr, qb, d, h, cb, ch, co, cF, rfl⟩
  · rw [if_neg c0]
    by_cases c1 : h ≤ lat
    · rw [if_pos c1]
      by_cases c : u = tgt
      · obtain ⟨qb', e⟩ := keepa_x (qr := qr) (qb := qb) (wt := wt) (d := d) (k := 1) (by decide) (by decide)
        rw [if_pos c, bndv e, bnd_eq, bnd_eq, bnd_eq, bnd_eq, bnd_eq, sa_d c c1 c0]
        exact ⟨wt, 1, qr, qb', d, h, cb, ch, co, cF, rfl⟩
      · rw [if_neg c, saF_s c]
        obtain ⟨z0, z1, z2, z3, z4, z5, z6, z7, z8, r⟩ := cla_1 (wt := wt) (E := fun (w220_0_0 : Int32) (w220_1_0 : Int32) (w220_2_0 : Int32) (w220_3_0 : Nat → Int32) (w220_4_0 : Nat → Int32) (w220_5_0 : Int32) (w220_6_0 : Int32) (w220_7_0 : Int32) (w220_8_0 : Int32) (w220_9_0 : Int32) (w220_10_0 : Int32) (w220_11_0 : Nat → Int32) (w220_12_0 : Int32) => (w220_0_0, w220_1_0, w220_2_0, w220_3_0, w220_4_0, w220_5_0, w220_6_0, w220_7_0, w220_8_0, w220_9_0, w220_10_0, w220_11_0)) g hL hn hp hz fr hu hb d0 d9 h0 h9 (S 1).toNatClampNeg (((S 1 : Int32).toInt - (0 : Int32).toInt).toNat + 1) 0 lf lv ln cb ch co qr qb cF (by decide) (by rw [z_i0]; omega) (by rw [z_i0]; omega) f0 f9
        exact ⟨z0, z1, z2, z3, d, h, z4, z5, z6, z7, r⟩
    · rw [if_neg c1, sa_late g 5 v u d h lf h0 (by omega) (show lat < h by rw [Int32.le_iff_toInt_le] at c1; rw [Int32.lt_iff_toInt_lt]; omega)]
      exact ⟨lv, ln, qr, qb, d, h, cb, ch, co, cF, rfl⟩
set_option maxHeartbeats 400000 in
theorem cla_0 {S nF pF qf so s1 s2 t1 t2 yj yo y1 y2 y3 y4 y5 : Nat → Int32} {fm fe sa yc tgt lat wt : Int32} {L : Cls} (g : GD S) (hL : LWX so s1 s2 t1 t2 yj yo y1 y2 y3 y4 y5 yc L) (hn : NE nF S) (hp : PE pF S) (hz : fm = S 6) (fr : FRI S qf tgt) {E : Int32 → Int32 → Int32 → (Nat → Int32) → (Nat → Int32) → Int32 → Int32 → Int32 → Int32 → Int32 → Int32 → (Nat → Int32) → Int32 → (Int32 × Int32 × Int32 × (Nat → Int32) × (Nat → Int32) × Int32 × Int32 × Int32 × Int32 × Int32 × Int32 × (Nat → Int32))} {v : Int32 → Bool} {u d h sn : Int32} (hu : rN u) (hb : BV sn v) (d0 : 0 ≤ d.toInt) (d9 : d.toInt ≤ 99999) (h0 : 0 ≤ h.toInt) (h9 : h.toInt + 144 ≤ 900000) : ∀ (n N : Nat) (p lf lv ln cb ch co : Int32) (qr qb cF : Nat → Int32), 0 ≤ p.toInt → p.toInt + n = (S 1).toInt → n < N → 0 ≤ lf.toInt → lf.toInt ≤ 99999 → ∃ lv' ln' qr' qb' cb' ch' co' cF' i', fl_mX5_seek_0_71 tgt (-1) lat wt 1 qf d h 0 fe sa nF (S 1) pF fm so s1 s2 t1 t2 yj yo y1 y2 y3 y4 y5 yc u sn E N lf lv ln qr qb d h (lf + 1) cb ch co cF p = E (srP (saG S L fe sa tgt lat 5 v u d h) n p lf) lv' ln' qr' qb' d h (srP (saG S L fe sa tgt lat 5 v u d h) n p lf + 1) cb' ch' co' cF' i' := by
  have b1 := GD_1 g
  have n20 : ¬ 20 < S 1 := by rw [Int32.lt_iff_toInt_lt, show (20 : Int32).toInt = 20 from by decide]; omega
  intro n
  induction n with
  | zero =>
    intro N p lf lv ln cb ch co qr qb cF p0 pz hN f0 f9
    obtain ⟨N, rfl⟩ : ∃ m, N = m + 1 := ⟨N - 1, by omega⟩
    refine ⟨lv, ln, qr, qb, cb, ch, co, cF, p, ?_⟩
    show fb_mX5_seek_0_71 tgt (-1) lat wt 1 qf d h 0 fe sa nF (S 1) pF fm so s1 s2 t1 t2 yj yo y1 y2 y3 y4 y5 yc u sn E (fl_mX5_seek_0_71 tgt (-1) lat wt 1 qf d h 0 fe sa nF (S 1) pF fm so s1 s2 t1 t2 yj yo y1 y2 y3 y4 y5 yc u sn E N) lf lv ln qr qb d h (lf + 1) cb ch co cF p = _
    unfold fb_mX5_seek_0_71
    rw [if_pos (show S 1 ≤ p by rw [Int32.le_iff_toInt_le]; omega)]
    rfl
  | succ n ih =>
    intro N p lf lv ln cb ch co qr qb cF p0 pz hN f0 f9
    obtain ⟨N, rfl⟩ : ∃ m, N = m + 1 := ⟨N - 1, by omega⟩
    have ep1 : (p + 1).toInt = p.toInt + 1 := zadd1 (by omega)
    have nb : ¬ p = -1 := by intro e; rw [e, show (-1 : Int32).toInt = -1 from by decide] at p0; omega
    have hs0 : ¬ hs p (S 1) = 0 := hs_in (z_nlt0 p0) (by rw [Int32.le_iff_toInt_le]; omega)
    have hrp := rP_of (GD_sp g) hs0
    have skip : saG S L fe sa tgt lat 5 v u d h p lf = lf → ∃ lv' ln' qr' qb' cb' ch' co' cF' i', fl_mX5_seek_0_71 tgt (-1) lat wt 1 qf d h 0 fe sa nF (S 1) pF fm so s1 s2 t1 t2 yj yo y1 y2 y3 y4 y5 yc u sn E N lf lv ln qr qb d h (lf + 1) cb ch co cF (p + 1) = E (srP (saG S L fe sa tgt lat 5 v u d h) (n + 1) p lf) lv' ln' qr' qb' d h (srP (saG S L fe sa tgt lat 5 v u d h) (n + 1) p lf + 1) cb' ch' co' cF' i' := by
      intro e
      rw [srP_s, e]
      exact ih N (p + 1) lf lv ln cb ch co qr qb cF (by omega) (by omega) (by omega) f0 f9
    show ∃ lv' ln' qr' qb' cb' ch' co' cF' i', fb_mX5_seek_0_71 tgt (-1) lat wt 1 qf d h 0 fe sa nF (S 1) pF fm so s1 s2 t1 t2 yj yo y1 y2 y3 y4 y5 yc u sn E (fl_mX5_seek_0_71 tgt (-1) lat wt 1 qf d h 0 fe sa nF (S 1) pF fm so s1 s2 t1 t2 yj yo y1 y2 y3 y4 y5 yc u sn E N) lf lv ln qr qb d h (lf + 1) cb ch co cF p = E (srP (saG S L fe sa tgt lat 5 v u d h) (n + 1) p lf) lv' ln' qr' qb' d h (srP (saG S L fe sa tgt lat 5 v u d h) (n + 1) p lf + 1) cb' ch' co' cF' i'
    unfold fb_mX5_seek_0_71
    rw [if_neg (show ¬ S 1 ≤ p by rw [Int32.le_iff_toInt_le]; omega)]
    by_cases c0 : d ≤ lf
    · rw [if_pos c0, srP_id (z := S 1) (fun p' _ _ => saG_le g d0 d9 (Int32.le_iff_toInt_le.mp c0)) b1.2 (n + 1) p p0 (by omega)]
      exact ⟨lv, ln, qr, qb, cb, ch, co, cF, p, rfl⟩
    rw [if_neg c0, if_neg nb, bndv (oe_in hp rfl n20 hs0)]
    by_cases c1 : oth S p u = -1
    · rw [if_pos c1, bnd_eq]
      exact skip (by unfold saG; rw [if_pos (show oth S p u < 0 by rw [c1]; decide)])
    have c2 : ¬ oth S p u < 0 := by
      have w := oth_w (n := u) (GD_wr g) (z_nlt0 p0) (show ¬ 20 ≤ p by rw [Int32.le_iff_toInt_le, show (20 : Int32).toInt = 20 from by decide]; omega)
      rw [Int32.lt_iff_toInt_lt, show (-1 : Int32).toInt = -1 from by decide] at w
      rw [Int32.lt_iff_toInt_lt, z_i0]
      have : ¬ (oth S p u).toInt = -1 := fun q => c1 (Int32.toInt_inj.mp (q.trans (by decide)))
      omega
    obtain ⟨ro1, ro2⟩ := oth_0 g hrp c2
    rw [if_neg c1, bnd_eq]
    by_cases c3 : v (oth S p u) = true
    · rw [if_neg (fun q => (hb _ ro1).mp q c3), bnd_eq]
      exact skip (by unfold saG; rw [if_neg c2, if_pos c3])
    rw [if_pos ((hb _ ro1).mpr c3), bndv (far_in (z_nlt0 ro1.1) (le_12 ro1.2))]
    have fb := fr.2.1 (oth S p u).toNatClampNeg (nat12 (z_nlt0 ro1.1) (le_12 ro1.2))
    by_cases c4 : 6 < (1 + qf (oth S p u).toNatClampNeg)
    · rw [if_pos c4, bnd_eq]
      refine skip ?_
      unfold saG
      rw [if_neg c2, if_neg c3]
      rw [Int32.lt_iff_toInt_lt, zadd (by rw [show (1 : Int32).toInt = 1 from by decide]; omega) (by rw [show (1 : Int32).toInt = 1 from by decide]; omega), show (1 : Int32).toInt = 1 from by decide, show (6 : Int32).toInt = 6 from by decide] at c4
      exact sa_far g fr 5 _ _ _ _ lf ro1 (by omega)
    obtain ⟨x1, x2, x3, cc, q, _⟩ := cls_cross (cF := cF) (nd := lf + 1) (mo := 0) (fe := fe) (sa := sa) (d := d) (h := h) hL hn hp rfl hz hrp ro1 ro2
    have dn := crD_in (nd := lf + 1) (S := S) (L := L) (pass := p) (to := oth S p u) (fe := fe) (sa := sa) (mo := 0) (h := h) d0 d9
    have d1 := crD_in (nd := 1) (S := S) (L := L) (pass := p) (to := oth S p u) (fe := fe) (sa := sa) (mo := 0) (h := h) d0 d9
    have hh := crH_i hrp h0 (show h.toInt ≤ 900000 by omega)
    have gi := saG_in (S := S) (L := L) (fe := fe) (sa := sa) (tgt := tgt) (lat := lat) (u := u) (h := h) (p := p) (j := 5) (v := v) g d0 d9 f9
    have eg : saG S L fe sa tgt lat 5 v u d h p lf = saF S L fe sa tgt lat 5 (addV v (oth S p u)) (oth S p u) (crD 1 S L p (oth S p u) fe sa 0 d h) (crH S p h) lf := by
      unfold saG
      rw [if_neg c2, if_neg c3]
    rw [if_neg c4, bnd_eq, bndv q, bnd_eq, bnd_eq, bnd_eq, bnd_eq, bnd_eq, bnd_eq, bnd_eq]
    have key : ∃ lv' ln' qr' qb' d' h' y1' y2' y3' y4', fX5_seek_1 lf lv ln tgt (-1) lat wt 1 qf (upd qr (0 : Int32).toNatClampNeg p) qb (crD (lf + 1) S L p (oth S p u) fe sa 0 d h) (crH S p h) 0 (lf + 1) fe sa cc x1 x2 x3 nF (S 1) pF fm so s1 s2 t1 t2 yj yo y1 y2 y3 y4 y5 yc (oth S p u) (sn ||| (1 <<< ((oth S p u) &&& 31))) = (saG S L fe sa tgt lat 5 v u d h p lf, lv', ln', qr', qb', d', h', saG S L fe sa tgt lat 5 v u d h p lf + 1, y1', y2', y3', y4') := by
      by_cases c5 : crD (lf + 1) S L p (oth S p u) fe sa 0 d h ≤ lf
      · have e : saG S L fe sa tgt lat 5 v u d h p lf = lf := by
          rw [eg]
          rcases crD_nd (S := S) (L := L) (pass := p) (to := oth S p u) (fe := fe) (sa := sa) (mo := 0) (h := h) (show 1 ≤ (lf + 1).toInt by rw [nd_1 f0 f9]; omega) d0 d9 with e | ⟨_, e⟩
          · rw [← e]; exact sa_le g 5 _ _ _ _ lf dn.1 (by omega) (Int32.le_iff_toInt_le.mp c5)
          · rw [Int32.le_iff_toInt_le] at c5
            exact sa_le g 5 _ _ _ _ lf d1.1 (by omega) (by omega)
        rw [e]
        unfold fX5_seek_1
        rw [if_pos c5]
        exact ⟨lv, ln, upd qr (0 : Int32).toNatClampNeg p, qb, _, _, _, _, _, _, rfl⟩
      · rcases crD_nd (S := S) (L := L) (pass := p) (to := oth S p u) (fe := fe) (sa := sa) (mo := 0) (h := h) (show 1 ≤ (lf + 1).toInt by rw [nd_1 f0 f9]; omega) d0 d9 with e | ⟨e, _⟩
        · rw [eg, e]
          exact csa_1 g hL hn hp hz fr (addV v (oth S p u)) (oth S p u) _ _ lf lv ln (sn ||| (1 <<< (oth S p u &&& 31))) x1 x2 x3 _ qb cc ro1 (BV_push hb ro1) d1.1 (by omega) f0 f9 (by omega) (by omega)
        · exact absurd (lt_nd1 f0 f9 e) c5
    obtain ⟨lv', ln', qr', qb', d', h', y1', y2', y3', y4', ek⟩ := key
    rw [bndv ek, bnd_eq, bnd_eq, bnd_eq, bnd_eq, bnd_eq, bnd_eq, bnd_eq, bnd_eq, bnd_eq, bnd_eq, bnd_eq]
    obtain ⟨z0, z1, z2, z3, z4, z5, z6, z7, z8, r⟩ := ih N (p + 1) (saG S L fe sa tgt lat 5 v u d h p lf) lv' ln' y1' y2' y3' qr' qb' y4' (by omega) (by omega) (by omega) (by omega) gi.2
    rw [srP_s]
    exact ⟨z0, z1, z2, z3, z4, z5, z6, z7, z8, r⟩
set_option maxHeartbeats 400000 in
theorem csa_0 {S nF pF qf so s1 s2 t1 t2 yj yo y1 y2 y3 y4 y5 : Nat → Int32} {fm fe sa yc tgt lat wt : Int32} {L : Cls} (g : GD S) (hL : LWX so s1 s2 t1 t2 yj yo y1 y2 y3 y4 y5 yc L) (hn : NE nF S) (hp : PE pF S) (hz : fm = S 6) (fr : FRI S qf tgt) : ∀ (v : Int32 → Bool) (u d h lf lv ln sn cb ch co : Int32) (qr qb cF : Nat → Int32), rN u → BV sn v → 0 ≤ d.toInt → d.toInt ≤ 99999 → 0 ≤ lf.toInt → lf.toInt ≤ 99999 → 0 ≤ h.toInt → h.toInt + 144 ≤ 900000 → ∃ lv' ln' qr' qb' d' h' cb' ch' co' cF', fX5_seek_0 lf lv ln tgt (-1) lat wt 1 qf qr qb d h 0 (lf + 1) fe sa cF cb ch co nF (S 1) pF fm so s1 s2 t1 t2 yj yo y1 y2 y3 y4 y5 yc u sn = (saF S L fe sa tgt lat 6 v u d h lf, lv', ln', qr', qb', d', h', saF S L fe sa tgt lat 6 v u d h lf + 1, cb', ch', co', cF') := by
  have b1 := GD_1 g
  have tb := tn_eq b1.1
  intro v u d h lf lv ln sn cb ch co qr qb cF hu hb d0 d9 f0 f9 h0 h9
  unfold fX5_seek_0
  by_cases c0 : d ≤ lf
  · rw [if_pos c0, sa_le g 6 v u d h lf d0 d9 (Int32.le_iff_toInt_le.mp c0)]
    exact ⟨lv, ln, qr, qb, d, h, cb, ch, co, cF, rfl⟩
  · rw [if_neg c0]
    by_cases c1 : h ≤ lat
    · rw [if_pos c1]
      by_cases c : u = tgt
      · obtain ⟨qb', e⟩ := keepa_x (qr := qr) (qb := qb) (wt := wt) (d := d) (k := 0) (by decide) (by decide)
        rw [if_pos c, bndv e, bnd_eq, bnd_eq, bnd_eq, bnd_eq, bnd_eq, sa_d c c1 c0]
        exact ⟨wt, 0, qr, qb', d, h, cb, ch, co, cF, rfl⟩
      · rw [if_neg c, saF_s c]
        obtain ⟨z0, z1, z2, z3, z4, z5, z6, z7, z8, r⟩ := cla_0 (wt := wt) (E := fun (w220_0_0 : Int32) (w220_1_0 : Int32) (w220_2_0 : Int32) (w220_3_0 : Nat → Int32) (w220_4_0 : Nat → Int32) (w220_5_0 : Int32) (w220_6_0 : Int32) (w220_7_0 : Int32) (w220_8_0 : Int32) (w220_9_0 : Int32) (w220_10_0 : Int32) (w220_11_0 : Nat → Int32) (w220_12_0 : Int32) => (w220_0_0, w220_1_0, w220_2_0, w220_3_0, w220_4_0, w220_5_0, w220_6_0, w220_7_0, w220_8_0, w220_9_0, w220_10_0, w220_11_0)) g hL hn hp hz fr hu hb d0 d9 h0 h9 (S 1).toNatClampNeg (((S 1 : Int32).toInt - (0 : Int32).toInt).toNat + 1) 0 lf lv ln cb ch co qr qb cF (by decide) (by rw [z_i0]; omega) (by rw [z_i0]; omega) f0 f9
        exact ⟨z0, z1, z2, z3, d, h, z4, z5, z6, z7, r⟩
    · rw [if_neg c1, sa_late g 6 v u d h lf h0 (by omega) (show lat < h by rw [Int32.le_iff_toInt_le] at c1; rw [Int32.lt_iff_toInt_lt]; omega)]
      exact ⟨lv, ln, qr, qb, d, h, cb, ch, co, cF, rfl⟩
/-- nothing is found by either, or something by both -/
def NF (x y a : Int32) : Prop := (x = a ∧ y = a) ∨ (a.toInt < x.toInt ∧ y = 99999)
set_option maxHeartbeats 400000 in
theorem saP_9 {g : Int32 → Int32 → Int32} {z : Int32} (h : ∀ p : Int32, 0 ≤ p.toInt → p.toInt < z.toInt → g p 99999 = 99999) (z1 : z.toInt ≤ 20) : ∀ (n : Nat) (p : Int32), 0 ≤ p.toInt → p.toInt + n = z.toInt → srP g n p 99999 = 99999 := srP_id h z1
set_option maxHeartbeats 400000 in
theorem nf_P {f g : Int32 → Int32 → Int32} {z : Int32} (hf : ∀ p a : Int32, 0 ≤ p.toInt → p.toInt < z.toInt → a.toInt ≤ 99999 → a.toInt ≤ (f p a).toInt ∧ (f p a).toInt ≤ 99999) (hg : ∀ p : Int32, 0 ≤ p.toInt → p.toInt < z.toInt → g p 99999 = 99999) (hn : ∀ p a : Int32, 0 ≤ p.toInt → p.toInt < z.toInt → a.toInt < 99999 → NF (f p a) (g p a) a) (z1 : z.toInt ≤ 20) : ∀ (n : Nat) (p a : Int32), 0 ≤ p.toInt → p.toInt + n = z.toInt → a.toInt < 99999 → NF (srP f n p a) (srP g n p a) a
  | 0, _, _, _, _, _ => Or.inl ⟨rfl, rfl⟩
  | n + 1, p, a, p0, pz, a9 => by
    have e : (p + 1).toInt = p.toInt + 1 := zadd1 (by omega)
    rw [srP_s, srP_s]
    rcases hn p a p0 (by omega) a9 with ⟨e1, e2⟩ | ⟨e1, e2⟩
    · rw [e1, e2]
      exact nf_P hf hg hn z1 n (p + 1) a (by omega) (by omega) a9
    · rw [e2, saP_9 hg z1 n (p + 1) (by omega) (by omega)]
      have i := srP_in hf z1 n (p + 1) (f p a) (by omega) (by omega) (hf p a p0 (by omega) (by omega)).2
      exact Or.inr ⟨by omega, rfl⟩
set_option maxHeartbeats 400000 in
theorem nf_F {S : Nat → Int32} {L : Cls} {fe sa tgt lat : Int32} (g : GD S) : ∀ (j : Nat) (v : Int32 → Bool) (u d h a : Int32), 0 ≤ d.toInt → d.toInt ≤ 99999 → a.toInt < 99999 → NF (srF S L fe sa tgt lat j v u d h a) (saF S L fe sa tgt lat j v u d h a) a := by
  have b1 := GD_1 g
  have t1' := tn_eq b1.1
  have i9 : (99999 : Int32).toInt = 99999 := by decide
  have T : ∀ d h a : Int32, NF (srT lat d h a) (saT lat d h a) a := by
    intro d h a
    unfold srT saT
    by_cases c : lat < h
    · rw [if_pos c, if_pos c]; exact Or.inl ⟨rfl, rfl⟩
    · rw [if_neg c, if_neg c]
      by_cases c1 : d ≤ a
      · rw [if_pos c1, if_pos c1]; exact Or.inl ⟨rfl, rfl⟩
      · rw [if_neg c1, if_neg c1]
        rw [Int32.le_iff_toInt_le] at c1
        exact Or.inr ⟨by omega, rfl⟩
  intro j
  induction j with
  | zero =>
    intro v u d h a d0 d9 a9
    by_cases c : u = tgt
    · rw [srF_t c, saF_t c]; exact T d h a
    · rw [srF_0 c, saF_0 c]; exact Or.inl ⟨rfl, rfl⟩
  | succ j ih =>
    intro v u d h a d0 d9 a9
    by_cases c : u = tgt
    · rw [srF_t c, saF_t c]; exact T d h a
    · rw [srF_s c, saF_s c]
      refine nf_P (z := S 1) (fun p a _ _ a9 => srG_in g d0 d9 a9) (fun p _ _ => saG_le g d0 d9 (by rw [i9]; omega)) (fun p a p0 p1 a9 => ?_) b1.2 _ 0 a (by decide) (by rw [z_i0]; omega) a9
      unfold srG saG
      by_cases c1 : oth S p u < 0
      · rw [if_pos c1, if_pos c1]; exact Or.inl ⟨rfl, rfl⟩
      · rw [if_neg c1, if_neg c1]
        by_cases c2 : v (oth S p u) = true
        · rw [if_pos c2, if_pos c2]; exact Or.inl ⟨rfl, rfl⟩
        · rw [if_neg c2, if_neg c2]
          have x := crD_in (nd := 1) (S := S) (L := L) (pass := p) (to := oth S p u) (fe := fe) (sa := sa) (mo := 0) (h := h) d0 d9
          exact ih _ _ _ _ a x.1 (by omega) a9
