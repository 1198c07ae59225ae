/-- the class's DROPS are right, or too few on both sides -/
def DR (due dc d : Int32) : Prop := dc = d ∨ (dc.toInt < due.toInt ∧ d.toInt < due.toInt)
set_option maxHeartbeats 400000 in
theorem DR_c {S : Nat → Int32} {L : Cls} {pass to fe sa due nd dc d h : Int32} (n1 : 1 ≤ nd.toInt) (n2 : nd.toInt = due.toInt ∨ (due.toInt = 0 ∧ nd.toInt = 1)) (u0 : 0 ≤ due.toInt) (hd : DR due dc d) (c0 : 0 ≤ dc.toInt) (c9 : dc.toInt ≤ 99999) (d0 : 0 ≤ d.toInt) (d9 : d.toInt ≤ 99999) : DR due (crD nd S L pass to fe sa 0 dc h) (crD 1 S L pass to fe sa 0 d h) := by
  have a := crD_in (nd := nd) (S := S) (L := L) (pass := pass) (to := to) (fe := fe) (sa := sa) (mo := 0) (h := h) c0 c9
  have b := crD_in (nd := 1) (S := S) (L := L) (pass := pass) (to := to) (fe := fe) (sa := sa) (mo := 0) (h := h) d0 d9
  rcases hd with e | ⟨e1, e2⟩
  · subst e
    rcases crD_nd (S := S) (L := L) (pass := pass) (to := to) (fe := fe) (sa := sa) (mo := 0) (h := h) n1 c0 c9 with q | ⟨q1, q2⟩
    · exact Or.inl q
    · rw [Int32.lt_iff_toInt_lt] at q1
      rcases n2 with m | ⟨m1, m2⟩
      · exact Or.inr ⟨by omega, by omega⟩
      · exact Or.inl (i32e (by omega))
  · exact Or.inr ⟨by omega, by omega⟩
set_option maxHeartbeats 400000 in
theorem DR_w {S : Nat → Int32} {L : Cls} {node fe sa due nd dc d h : Int32} (n1 : 1 ≤ nd.toInt) (n2 : nd.toInt = due.toInt ∨ (due.toInt = 0 ∧ nd.toInt = 1)) (u0 : 0 ≤ due.toInt) (hd : DR due dc d) (c0 : 0 ≤ dc.toInt) (d0 : 0 ≤ d.toInt) (d9 : d.toInt ≤ 99999) : DR due (if dc < nd then dc else dc - mltw (nwd S h node dc fe sa) L 0 dc) (wtS S L fe sa node d h) := by
  have b := wtS_in (S := S) (L := L) (fe := fe) (sa := sa) (node := node) (h := h) d0 d9
  by_cases c : dc < nd
  · rw [if_pos c]
    rw [Int32.lt_iff_toInt_lt] at c
    rcases n2 with m | ⟨m1, m2⟩
    · rcases hd with e | ⟨e1, e2⟩
      · subst e
        exact Or.inr ⟨by omega, by omega⟩
      · exact Or.inr ⟨e1, by omega⟩
    · rcases hd with e | ⟨e1, e2⟩
      · subst e
        exact Or.inl (i32e (by omega))
      · exact absurd e1 (by omega)
  · rw [if_neg c]
    rw [Int32.lt_iff_toInt_lt] at c
    rcases hd with e | ⟨e1, e2⟩
    · subst e
      exact Or.inl rfl
    · exact absurd e1 (by omega)
set_option maxHeartbeats 400000 in
theorem cwt {S nF cF so s1 s2 t1 t2 yj yo y1 y2 y3 y4 y5 : Nat → Int32} {fm yc nd fe sa node d h : Int32} {L : Cls} (hL : LWX so s1 s2 t1 t2 yj yo y1 y2 y3 y4 y5 yc L) (hn : NE nF S) (e6 : fm = S 6) (hr : rN node) : ∃ c', fX7_waitAt d h 0 nd fe sa cF nF fm so s1 s2 t1 t2 yj yo y1 y2 y3 y4 y5 yc node = ((if d < nd then d else d - mltw (nwd S h node d fe sa) L 0 d), h + 1, c') := by
  have w := cls_nw (cF := cF) (hour := h) (dr := d) (fe := fe) (sa := sa) hn e6 hr
  unfold fX7_waitAt
  rw [bnd_eq]
  by_cases c : d < nd
  · have q : fX7_meltOneHour d h 0 nd fe sa (fX4_setNode cF nF node) fm so s1 s2 t1 t2 yj yo y1 y2 y3 y4 y5 yc = (d, h + 1, fX4_setNode cF nF node) := by
      unfold fX7_meltOneHour
      rw [if_pos c, bnd_eq]
    rw [bndv q, bnd_eq, bnd_eq, bnd_eq, if_pos c]
    exact ⟨_, rfl⟩
  · have q : fX7_meltOneHour d h 0 nd fe sa (fX4_setNode cF nF node) fm so s1 s2 t1 t2 yj yo y1 y2 y3 y4 y5 yc = (d - mltw (nwd S h node d fe sa) L 0 d, h + 1, fX4_setLoad (fX4_setHour (fX4_setNode cF nF node) fm h) d fe sa) := by
      unfold fX7_meltOneHour
      rw [if_neg c, bnd_eq, bnd_eq, bndv (hL _ _ 0 (by decide) w), bnd_eq, bnd_eq, bnd_eq, bnd_eq]
      rfl
    rw [bndv q, bnd_eq, bnd_eq, bnd_eq, if_neg c]
    exact ⟨_, rfl⟩
set_option maxHeartbeats 400000 in
theorem nt_l {va : Nat → Int32} {p : Int32} (p6 : p.toInt ≤ 6) : ∀ (n N : Nat) (f f2 : Nat → Int32) (l : Int32), n < N → 0 ≤ l.toInt → l.toInt + n = p.toInt → ∃ h0 h1 : Nat → Int32, (∀ E : (Nat → Int32) → (Nat → Int32) → Int32 → (Int32 × (Nat → Int32) × (Nat → Int32)), fl_mX8_note_12 va p E N f f2 l = E h0 h1 p) ∧ (∀ t : Nat, t < l.toNatClampNeg → h0 t = f t ∧ h1 t = f2 t) ∧ (∀ t : Nat, l.toNatClampNeg ≤ t → (t : Int) < p.toInt → h0 t = (if va t < f t then va t else f t) ∧ h1 t = (if f2 t < va t then va t else f2 t))
  | _, 0, _, _, _, h, _, _ => absurd h (Nat.not_lt_zero _)
  | 0, N + 1, f, f2, l, _, l0, ln => by
    have tl := tn_eq l0
    have el : l = p := i32e (by omega)
    subst el
    refine ⟨f, f2, fun E => ?_, fun _ _ => ⟨rfl, rfl⟩, fun t a b => absurd b (by omega)⟩
    show fb_mX8_note_12 va l E (fl_mX8_note_12 va l E N) f f2 l = _
    unfold fb_mX8_note_12
    rw [if_pos (Int32.le_iff_toInt_le.mpr (Int.le_refl _))]
  | n + 1, N + 1, f, f2, l, hN, l0, ln => by
    have tl := tn_eq l0
    have e : (l + 1).toInt = l.toInt + 1 := zadd1 (by omega)
    have tl1 := tn_eq (show 0 ≤ (l + 1).toInt by omega)
    obtain ⟨h0, h1, r1, r2, r3⟩ := nt_l (va := va) p6 n N (upd f l.toNatClampNeg (if va l.toNatClampNeg < f l.toNatClampNeg then va l.toNatClampNeg else f l.toNatClampNeg)) (upd f2 l.toNatClampNeg (if f2 l.toNatClampNeg < va l.toNatClampNeg then va l.toNatClampNeg else f2 l.toNatClampNeg)) (l + 1) (by omega) (by omega) (by omega)
    refine ⟨h0, h1, fun E => Eq.trans ?_ (r1 E), fun t a => ?_, fun t a b => ?_⟩
    · show fb_mX8_note_12 va p E (fl_mX8_note_12 va p E N) f f2 l = _
      unfold fb_mX8_note_12
      rw [if_neg (show ¬ p ≤ l by rw [Int32.le_iff_toInt_le]; omega), if_neg (show ¬ 6 ≤ l by rw [Int32.le_iff_toInt_le, show (6 : Int32).toInt = 6 from by decide]; omega), bnd_eq, bnd_eq, bnd_eq, bnd_eq, bnd_eq, bnd_eq, bnd_eq, bnd_eq, bnd_eq]
    · have q := r2 t (by omega)
      rw [upd_ne (by omega), upd_ne (by omega)] at q
      exact q
    · by_cases y : t = l.toNatClampNeg
      · have q := r2 t (by omega)
        rw [y] at q ⊢
        exact ⟨q.1.trans pk_us, q.2.trans pk_us⟩
      · have q := r3 t (by omega) b
        rw [upd_ne (show l.toNatClampNeg ≠ t from fun w => y w.symm), upd_ne (show l.toNatClampNeg ≠ t from fun w => y w.symm)] at q
        exact q
set_option maxHeartbeats 400000 in
theorem nt_v {fo p : Int32} {va vb vc : Nat → Int32} (p0 : 0 ≤ p.toInt) (p6 : p.toInt ≤ 6) : ∃ vb' vc', fX8_note fo va vb vc p = (fo + 1, vb', vc') ∧ ∀ t : Nat, (t : Int) < p.toInt → vb' t = (if va t < vb t then va t else vb t) ∧ vc' t = (if vc t < va t then va t else vc t) := by
  have tp := tn_eq p0
  obtain ⟨h0, h1, r1, _, r3⟩ := nt_l (va := va) p6 p.toNatClampNeg (((p : Int32).toInt - (0 : Int32).toInt).toNat + 1) vb vc 0 (by rw [z_i0]; omega) (by decide) (by rw [z_i0]; omega)
  refine ⟨h0, h1, ?_, fun t ht => r3 t (Nat.zero_le _) ht⟩
  unfold fX8_note
  rw [bnd_eq, r1]
/-- what is found so far, on both sides -/
def AR (b : Prop) (k : Nat) (A : Int32 × Int32 × Int32) (fo : Int32) (vb vc : Nat → Int32) : Prop := (A.1 = fo ∧ 0 ≤ A.1.toInt) ∧ (b → (A.1 = 0 → vb k = 12 ∧ vc k = 0) ∧ (¬ A.1 = 0 → vb k = A.2.1 ∧ vc k = A.2.2))
set_option maxHeartbeats 400000 in
theorem acU_1 {A : Int32 × Int32 × Int32} {w : Int32} : (acU A w).1 = A.1 + 1 := by
  unfold acU
  split <;> rfl
set_option maxHeartbeats 400000 in
theorem AR_n {b : Prop} {k : Nat} {A : Int32 × Int32 × Int32} {fo w : Int32} {va vb vc vb' vc' : Nat → Int32} (h : AR b k A fo vb vc) (hb : A.1.toInt + 1 ≤ 100000000) (hw : b → w = va k ∧ 0 ≤ w.toInt ∧ w.toInt ≤ 12) (hn : b → vb' k = (if va k < vb k then va k else vb k) ∧ vc' k = (if vc k < va k then va k else vc k)) : AR b k (acU A w) (fo + 1) vb' vc' ∧ (acU A w).1.toInt = A.1.toInt + 1 := by
  obtain ⟨⟨h1, h2⟩, h3⟩ := h
  have e : (A.1 + 1).toInt = A.1.toInt + 1 := zadd1 (by omega)
  have ne : ¬ A.1 + 1 = 0 := by
    intro q
    rw [q, z_i0] at e
    omega
  refine ⟨⟨⟨by rw [acU_1, h1], by rw [acU_1]; omega⟩, fun hb2 => ⟨fun q => ?_, fun _ => ?_⟩⟩, by rw [acU_1]; exact e⟩
  · rw [acU_1] at q
    exact absurd q ne
  · obtain ⟨w1, w2, w3⟩ := hw hb2
    obtain ⟨m1, m2⟩ := hn hb2
    obtain ⟨a1, a2⟩ := h3 hb2
    unfold acU
    by_cases c : A.1 = 0
    · obtain ⟨b1, b2⟩ := a1 c
      rw [if_pos c, m1, m2, b1, b2, ← w1]
      have i12 : (12 : Int32).toInt = 12 := by decide
      constructor
      · by_cases y : w < 12
        · rw [if_pos y]
        · rw [if_neg y]
          rw [Int32.lt_iff_toInt_lt, i12] at y
          exact i32e (by rw [i12]; show (12 : Int) = w.toInt; omega)
      · by_cases y : 0 < w
        · rw [if_pos y]
        · rw [if_neg y]
          rw [Int32.lt_iff_toInt_lt, z_i0] at y
          exact i32e (by rw [z_i0]; show (0 : Int) = w.toInt; omega)
    · obtain ⟨b1, b2⟩ := a2 c
      rw [if_neg c, m1, m2, b1, b2, ← w1]
      constructor
      · show (if w < A.2.1 then w else A.2.1) = if A.2.1 ≤ w then A.2.1 else w
        by_cases y : w < A.2.1
        · rw [if_pos y, if_neg (by rw [Int32.le_iff_toInt_le]; rw [Int32.lt_iff_toInt_lt] at y; omega)]
        · rw [if_neg y, if_pos (by rw [Int32.le_iff_toInt_le]; rw [Int32.lt_iff_toInt_lt] at y; omega)]
      · show (if A.2.2 < w then w else A.2.2) = if w ≤ A.2.2 then A.2.2 else w
        by_cases y : A.2.2 < w
        · rw [if_pos y, if_neg (by rw [Int32.le_iff_toInt_le]; rw [Int32.lt_iff_toInt_lt] at y; omega)]
        · rw [if_neg y, if_pos (by rw [Int32.le_iff_toInt_le]; rw [Int32.lt_iff_toInt_lt] at y; omega)]
set_option maxHeartbeats 400000 in
theorem cgs_6 {S : Nat → Int32} {due fe sa : Int32} {L : Cls} {kf : (Nat → Int32) → Int32} {b : Prop} {k : Nat} (g : GD S) (u0 : 0 ≤ due.toInt) (hkf : b → ∀ v, kf v = v k) (hk : b → (k : Int) < (S 9).toInt) (r : Nat) (hr : ((6 + r : Nat) : Int) = (S 9).toInt) (fo dc d h cb ch co hrs : Int32) (va vb vc cF v : Nat → Int32) (A : Int32 × Int32 × Int32) (hd : DR due dc d) (c0 : 0 ≤ dc.toInt) (c9 : dc.toInt ≤ 99999) (d0 : 0 ≤ d.toInt) (d9 : d.toInt ≤ 99999) (h0 : 0 ≤ hrs.toInt) (h12 : hrs.toInt ≤ 12) (hz : r = 0 → hrs = 0) (hva : ∀ t : Nat, t < 6 → va t = v t) (hv : ∀ t : Nat, t < 6 → 0 ≤ (v t).toInt ∧ (v t).toInt ≤ 12) (har : AR b k A fo vb vc) (hbd : A.1.toInt + ((13 ^ r : Nat) : Int) ≤ 100000000) : ∃ (fo' : Int32) (vb' vc' : Nat → Int32), fX8_spread_6 fo due va vb vc dc (S 9) hrs = (fo', vb', vc') ∧ AR b k (tqS S L fe sa due kf r 6 v d h hrs A) fo' vb' vc' ∧ (tqS S L fe sa due kf r 6 v d h hrs A).1.toInt ≤ A.1.toInt + ((13 ^ r : Nat) : Int) := by
  have b9 := GD_9 g
  have er : r = 0 := by omega
  subst er
  have hz := hz rfl
  rw [Nat.pow_zero] at hbd ⊢
  unfold fX8_spread_6
  by_cases c : due ≤ dc
  · rw [if_pos c]
    rw [if_pos (show S 9 ≤ 6 by rw [Int32.le_iff_toInt_le, show (6 : Int32).toInt = 6 from by decide]; omega), if_pos hz]
    by_cases e : dc = due
    · have ed : d = due := by
        rcases hd with w | ⟨w1, w2⟩
        · rw [← w]; exact e
        · rw [e] at w1; omega
      obtain ⟨vb', vc', m1, m2⟩ := nt_v (fo := fo) (va := va) (vb := vb) (vc := vc) (p := S 9) b9.1 b9.2
      have q := AR_n (w := kf v) (va := va) (vb' := vb') (vc' := vc') har (by omega) (fun hb => by
        have hk2 := hk hb
        rw [hkf hb v, hva k (by omega)]
        exact ⟨rfl, hv k (by omega)⟩) (fun hb => m2 k (hk hb))
      have et : tqS S L fe sa due kf 0 6 v d h hrs A = acU A (kf v) := by
        rw [tqS_0, if_pos ed]
      rw [et, if_pos e, bndv m1, bnd_eq, bnd_eq, bnd_eq]
      exact ⟨fo + 1, vb', vc', rfl, q.1, by rw [q.2]; omega⟩
    · have ed : ¬ d = due := by
        intro w
        rcases hd with y | ⟨y1, y2⟩
        · exact e (y.trans w)
        · rw [w] at y2; omega
      have et : tqS S L fe sa due kf 0 6 v d h hrs A = A := by
        rw [tqS_0, if_neg ed]
      rw [et, if_neg e]
      exact ⟨fo, vb, vc, rfl, har, by omega⟩
  · have dd : d.toInt < due.toInt := by
      rw [Int32.le_iff_toInt_le] at c
      rcases hd with w | ⟨w1, w2⟩
      · rw [← w]; omega
      · exact w2
    rw [if_neg c, tqS_lt (kf := kf) (fe := fe) (sa := sa) (L := L) (S := S) 0 6 v d h hrs A d0 d9 dd]
    exact ⟨fo, vb, vc, rfl, har, by omega⟩
set_option maxHeartbeats 400000 in
theorem cgz_5 {S nF pF wF so s1 s2 t1 t2 yj yo y1 y2 y3 y4 y5 : Nat → Int32} {fm yc due nd fe sa : Int32} {L : Cls} {kf : (Nat → Int32) → Int32} {b : Prop} {k : Nat} (g : GD S) (x : XT S) (h8 : ¬ S 8 < 0) (hL : LWX so s1 s2 t1 t2 yj yo y1 y2 y3 y4 y5 yc L) (hn : NE nF S) (hp : PE pF S) (hw : WE wF S) (e6 : fm = S 6) (n1 : 1 ≤ nd.toInt) (n2 : nd.toInt = due.toInt ∨ (due.toInt = 0 ∧ nd.toInt = 1)) (u0 : 0 ≤ due.toInt) (hkf : b → ∀ v, kf v = v k) (hk : b → (k : Int) < (S 9).toInt) (hm : ((5 + 1 : Nat) : Int) = (S 9).toInt) (v : Nat → Int32) (hv : ∀ t : Nat, t < 5 → 0 ≤ (v t).toInt ∧ (v t).toInt ≤ 12) (hrs : Int32) (h0 : 0 ≤ hrs.toInt) (h12 : hrs.toInt ≤ 12) : ∀ (c N : Nat) (fo dc d h cb ch co n : Int32) (va vb vc cF : Nat → Int32) (A : Int32 × Int32 × Int32), c + 1 < N → 0 ≤ n.toInt → n.toInt + c = hrs.toInt → DR due dc d → 0 ≤ dc.toInt → dc.toInt ≤ 99999 → 0 ≤ d.toInt → d.toInt ≤ 99999 → (∀ t : Nat, t < 5 → va t = v t) → AR b k A fo vb vc → A.1.toInt + ((13 ^ 0 : Nat) : Int) ≤ 100000000 → ∃ (fo' : Int32) (va' vb' vc' : Nat → Int32) (dx hx cb' ch' co' : Int32) (cF' : Nat → Int32), (∀ E : Int32 → (Nat → Int32) → (Nat → Int32) → (Nat → Int32) → Int32 → Int32 → Int32 → Int32 → Int32 → (Nat → Int32) → Int32 → (Int32 × (Nat → Int32) × (Nat → Int32) × (Nat → Int32) × Int32 × Int32 × Int32 × Int32 × Int32 × (Nat → Int32)), ∃ n', fl_mX8_spread_5_81 due 0 nd fe sa nF (S 1) pF (S 9) fm so s1 s2 t1 t2 yj yo y1 y2 y3 y4 y5 yc (wen S 5) hrs (S (10 + 5)) E N fo va vb vc dc h cb ch co cF n = E fo' va' vb' vc' dx hx cb' ch' co' cF' n') ∧ (∀ t : Nat, t < 5 → va' t = va t) ∧ AR b k (tqS S L fe sa due kf 0 6 (upd v 5 hrs) (crD 1 S L (S (10 + 5)) (oth S (S (10 + 5)) (wen S 5)) fe sa 0 (wtD S L fe sa (wen S 5) c d h) (hrH c h)) (crH S (S (10 + 5)) (hrH c h)) 0 A) fo' vb' vc' ∧ (tqS S L fe sa due kf 0 6 (upd v 5 hrs) (crD 1 S L (S (10 + 5)) (oth S (S (10 + 5)) (wen S 5)) fe sa 0 (wtD S L fe sa (wen S 5) c d h) (hrH c h)) (crH S (S (10 + 5)) (hrH c h)) 0 A).1.toInt ≤ A.1.toInt + ((13 ^ 0 : Nat) : Int) := by
  have b9 := GD_9 g
  intro c
  induction c with
  | zero =>
    intro N fo dc d h cb ch co n va vb vc cF A hN hn0 hnc hd c0 c9 d0 d9 hva har hbd
    obtain ⟨N, rfl⟩ : ∃ m, N = m + 1 + 1 := ⟨N - 2, by omega⟩
    have en : n = hrs := i32e (by omega)
    have en1 : (n + 1).toInt = n.toInt + 1 := zadd1 (by omega)
    obtain ⟨r1, r2, r3, r4⟩ := way_in (k := 5) g x h8 (by omega)
    obtain ⟨q1, q2, q3, c1, qc, _⟩ := cls_cross (cF := cF) (nd := nd) (mo := 0) (fe := fe) (sa := sa) (d := dc) (h := h) hL hn hp rfl e6 r1 r3 r4
    have a1 := crD_in (nd := nd) (S := S) (L := L) (pass := S (10 + 5)) (to := (oth S (S (10 + 5)) (wen S 5))) (fe := fe) (sa := sa) (mo := 0) (h := h) c0 c9
    have a2 := crD_in (nd := 1) (S := S) (L := L) (pass := S (10 + 5)) (to := (oth S (S (10 + 5)) (wen S 5))) (fe := fe) (sa := sa) (mo := 0) (h := h) d0 d9
    have dr := DR_c (S := S) (L := L) (pass := S (10 + 5)) (to := (oth S (S (10 + 5)) (wen S 5))) (fe := fe) (sa := sa) (h := h) n1 n2 u0 hd c0 c9 d0 d9
    have es : (hrs - n).toInt = hrs.toInt - n.toInt := zsub (by omega) (by omega)
    have ha : ∀ t : Nat, t < 6 → upd va 5 n t = upd v 5 n t := by
      intro t ht
      by_cases y : t = 5
      · rw [y]
        exact pk_us.trans pk_us.symm
      · rw [upd_ne (fun w => y w.symm), upd_ne (fun w => y w.symm)]
        exact hva t (by omega)
    have hr2 : ∀ t : Nat, t < 6 → 0 ≤ (upd v 5 n t).toInt ∧ (upd v 5 n t).toInt ≤ 12 := by
      intro t ht
      by_cases y : t = 5
      · rw [y, show upd v 5 n 5 = n from pk_us]
        exact ⟨by omega, by omega⟩
      · rw [upd_ne (fun w => y w.symm)]
        exact hv t (by omega)
    obtain ⟨fo2, vb2, vc2, z1, z3, z4⟩ := cgs_6 (b := b) (kf := kf) (fe := fe) (sa := sa) (L := L) g u0 hkf hk 0 (by omega) fo (crD nd S L (S (10 + 5)) (oth S (S (10 + 5)) (wen S 5)) fe sa 0 dc h) (crD 1 S L (S (10 + 5)) (oth S (S (10 + 5)) (wen S 5)) fe sa 0 d h) (crH S (S (10 + 5)) h) q1 q2 q3 (hrs - n) (upd va 5 n) vb vc c1 (upd v 5 n) A dr a1.1 (by omega) a2.1 (by omega) (by omega) (by omega) (fun _ => i32e (by rw [es, z_i0]; omega)) ha hr2 har hbd
    obtain ⟨c3, qw⟩ := cwt (cF := c1) (nd := nd) (fe := fe) (sa := sa) (d := dc) (h := h) hL hn e6 r2
    have ei : (5 : Int32).toNatClampNeg = 5 := by decide
    have ez : hrs - n = 0 := i32e (by rw [es, z_i0]; omega)
    rw [ez] at z3 z4
    refine ⟨fo2, (upd va 5 n), vb2, vc2, (if dc < nd then dc else dc - mltw (nwd S h (wen S 5) dc fe sa) L 0 dc), h + 1, q1, q2, q3, c3, fun E => ⟨n + 1, ?_⟩, fun t ht => ?_, by rw [en] at z3; exact z3, by rw [en] at z4; exact z4⟩
    · show fb_mX8_spread_5_81 due 0 nd fe sa nF (S 1) pF (S 9) fm so s1 s2 t1 t2 yj yo y1 y2 y3 y4 y5 yc (wen S 5) hrs (S (10 + 5)) E (fl_mX8_spread_5_81 due 0 nd fe sa nF (S 1) pF (S 9) fm so s1 s2 t1 t2 yj yo y1 y2 y3 y4 y5 yc (wen S 5) hrs (S (10 + 5)) E (N + 1)) fo va vb vc dc h cb ch co cF n = _
      unfold fb_mX8_spread_5_81
      rw [if_neg (show ¬ hrs < n by rw [Int32.lt_iff_toInt_lt]; omega), if_pos en, bnd_eq, ei, bndv qc, bnd_eq, bnd_eq, bnd_eq, bnd_eq, bnd_eq]
      dsimp only
      rw [bndv z1, bnd_eq, bnd_eq, bnd_eq, bndv qw, bnd_eq, bnd_eq, bnd_eq, bnd_eq]
      show fb_mX8_spread_5_81 due 0 nd fe sa nF (S 1) pF (S 9) fm so s1 s2 t1 t2 yj yo y1 y2 y3 y4 y5 yc (wen S 5) hrs (S (10 + 5)) E (fl_mX8_spread_5_81 due 0 nd fe sa nF (S 1) pF (S 9) fm so s1 s2 t1 t2 yj yo y1 y2 y3 y4 y5 yc (wen S 5) hrs (S (10 + 5)) E N) fo2 (upd va 5 n) vb2 vc2 (if dc < nd then dc else dc - mltw (nwd S h (wen S 5) dc fe sa) L 0 dc) (h + 1) q1 q2 q3 c3 (n + 1) = _
      unfold fb_mX8_spread_5_81
      rw [if_pos (show hrs < n + 1 by rw [Int32.lt_iff_toInt_lt]; omega)]
    · exact upd_ne (by omega)
  | succ c ih =>
    intro N fo dc d h cb ch co n va vb vc cF A hN hn0 hnc hd c0 c9 d0 d9 hva har hbd
    obtain ⟨N, rfl⟩ : ∃ m, N = m + 1 := ⟨N - 1, by omega⟩
    have en1 : (n + 1).toInt = n.toInt + 1 := zadd1 (by omega)
    obtain ⟨r1, r2, r3, r4⟩ := way_in (k := 5) g x h8 (by omega)
    obtain ⟨c3, qw⟩ := cwt (cF := cF) (nd := nd) (fe := fe) (sa := sa) (d := dc) (h := h) hL hn e6 r2
    have w1 := mlt_in (W := nwd S h (wen S 5) dc fe sa) (L := L) (mo := 0) (nd := nd) c0 c9
    have w2 := wtS_in (S := S) (L := L) (fe := fe) (sa := sa) (node := wen S 5) (h := h) d0 d9
    have wr := DR_w (S := S) (L := L) (node := wen S 5) (fe := fe) (sa := sa) (h := h) n1 n2 u0 hd c0 d0 d9
    obtain ⟨fo', va', vb', vc', dx, hx, cb', ch', co', cF', z1, z2, z3, z4⟩ := ih N fo (if dc < nd then dc else dc - mltw (nwd S h (wen S 5) dc fe sa) L 0 dc) (wtS S L fe sa (wen S 5) d h) (h + 1) cb ch co (n + 1) va vb vc c3 A (by omega) (by omega) (by omega) wr w1.1 (by omega) w2.1 (by omega) hva har hbd
    refine ⟨fo', va', vb', vc', dx, hx, cb', ch', co', cF', fun E => ?_, z2, z3, z4⟩
    obtain ⟨n', j1⟩ := z1 E
    refine ⟨n', Eq.trans ?_ j1⟩
    show fb_mX8_spread_5_81 due 0 nd fe sa nF (S 1) pF (S 9) fm so s1 s2 t1 t2 yj yo y1 y2 y3 y4 y5 yc (wen S 5) hrs (S (10 + 5)) E (fl_mX8_spread_5_81 due 0 nd fe sa nF (S 1) pF (S 9) fm so s1 s2 t1 t2 yj yo y1 y2 y3 y4 y5 yc (wen S 5) hrs (S (10 + 5)) E N) fo va vb vc dc h cb ch co cF n = _
    unfold fb_mX8_spread_5_81
    have h1 : (1 : Int32).toInt = 1 := by decide
    rw [if_neg (show ¬ hrs < n by rw [Int32.lt_iff_toInt_lt]; omega), if_neg (fun w : n = hrs => by rw [w] at hnc; omega), if_pos (show S 9 - 1 ≤ 5 by rw [Int32.le_iff_toInt_le, zsub (by rw [h1]; omega) (by rw [h1]; omega), h1, show (5 : Int32).toInt = 5 from by decide]; omega), bndv qw, bnd_eq, bnd_eq, bnd_eq, bnd_eq]
    all_goals rfl
set_option maxHeartbeats 400000 in
theorem cgs_5 {S nF pF wF so s1 s2 t1 t2 yj yo y1 y2 y3 y4 y5 : Nat → Int32} {fm yc due nd fe sa : Int32} {L : Cls} {kf : (Nat → Int32) → Int32} {b : Prop} {k : Nat} (g : GD S) (x : XT S) (h8 : ¬ S 8 < 0) (hL : LWX so s1 s2 t1 t2 yj yo y1 y2 y3 y4 y5 yc L) (hn : NE nF S) (hp : PE pF S) (hw : WE wF S) (e6 : fm = S 6) (n1 : 1 ≤ nd.toInt) (n2 : nd.toInt = due.toInt ∨ (due.toInt = 0 ∧ nd.toInt = 1)) (u0 : 0 ≤ due.toInt) (hkf : b → ∀ v, kf v = v k) (hk : b → (k : Int) < (S 9).toInt) (r : Nat) (hr : ((5 + r : Nat) : Int) = (S 9).toInt) (fo dc d h cb ch co hrs : Int32) (va vb vc cF v : Nat → Int32) (A : Int32 × Int32 × Int32) (hd : DR due dc d) (c0 : 0 ≤ dc.toInt) (c9 : dc.toInt ≤ 99999) (d0 : 0 ≤ d.toInt) (d9 : d.toInt ≤ 99999) (h0 : 0 ≤ hrs.toInt) (h12 : hrs.toInt ≤ 12) (hz : r = 0 → hrs = 0) (hva : ∀ t : Nat, t < 5 → va t = v t) (hv : ∀ t : Nat, t < 5 → 0 ≤ (v t).toInt ∧ (v t).toInt ≤ 12) (har : AR b k A fo vb vc) (hbd : A.1.toInt + ((13 ^ r : Nat) : Int) ≤ 100000000) : ∃ (fo' : Int32) (va' vb' vc' : Nat → Int32) (dx hx cb' ch' co' : Int32) (cF' : Nat → Int32), fX8_spread_5 fo due va vb vc dc h 0 nd fe sa cF cb ch co nF (S 1) pF (S 9) wF fm so s1 s2 t1 t2 yj yo y1 y2 y3 y4 y5 yc (wen S 5) hrs = (fo', va', vb', vc', dx, hx, cb', ch', co', cF') ∧ (∀ t : Nat, t < 5 → va' t = va t) ∧ AR b k (tqS S L fe sa due kf r 5 v d h hrs A) fo' vb' vc' ∧ (tqS S L fe sa due kf r 5 v d h hrs A).1.toInt ≤ A.1.toInt + ((13 ^ r : Nat) : Int) := by
  have b9 := GD_9 g
  have th := tn_eq h0
  have p13 : (0 : Int) ≤ ((13 ^ r : Nat) : Int) := Int.natCast_nonneg _
  unfold fX8_spread_5
  by_cases c : due ≤ dc
  · rw [if_pos c]
    rcases r with _ | r
    · have hz := hz rfl
      rw [Nat.pow_zero] at hbd ⊢
      rw [if_pos (show S 9 ≤ 5 by rw [Int32.le_iff_toInt_le, show (5 : Int32).toInt = 5 from by decide]; omega), if_pos hz]
      by_cases e : dc = due
      · have ed : d = due := by
          rcases hd with w | ⟨w1, w2⟩
          · rw [← w]; exact e
          · rw [e] at w1; omega
        obtain ⟨vb', vc', m1, m2⟩ := nt_v (fo := fo) (va := va) (vb := vb) (vc := vc) (p := S 9) b9.1 b9.2
        have q := AR_n (w := kf v) (va := va) (vb' := vb') (vc' := vc') har (by omega) (fun hb => by
          have hk2 := hk hb
          rw [hkf hb v, hva k (by omega)]
          exact ⟨rfl, hv k (by omega)⟩) (fun hb => m2 k (hk hb))
        have et : tqS S L fe sa due kf 0 5 v d h hrs A = acU A (kf v) := by
          rw [tqS_0, if_pos ed]
        rw [et, if_pos e, bndv m1, bnd_eq, bnd_eq, bnd_eq]
        exact ⟨fo + 1, va, vb', vc', dc, h, cb, ch, co, cF, rfl, fun _ _ => rfl, q.1, by rw [q.2]; omega⟩
      · have ed : ¬ d = due := by
          intro w
          rcases hd with y | ⟨y1, y2⟩
          · exact e (y.trans w)
          · rw [w] at y2; omega
        have et : tqS S L fe sa due kf 0 5 v d h hrs A = A := by
          rw [tqS_0, if_neg ed]
        rw [et, if_neg e]
        exact ⟨fo, va, vb, vc, dc, h, cb, ch, co, cF, rfl, fun _ _ => rfl, har, by omega⟩
    rcases r with _ | r
    · have cz := cgz_5 (fe := fe) (sa := sa) g x h8 hL hn hp hw e6 n1 n2 u0 hkf hk (by omega) v hv hrs h0 h12 hrs.toNatClampNeg (((hrs : Int32).toInt + 1 - (0 : Int32).toInt).toNat + 1) fo dc d h cb ch co 0 va vb vc cF A (by rw [z_i0]; omega) (by decide) (by rw [z_i0]; omega) hd c0 c9 d0 d9 hva har (by rw [Nat.pow_zero]; have : ((13 ^ (0 + 1) : Nat) : Int) = 13 := rfl; omega)
      obtain ⟨fo', va', vb', vc', dx, hx, cb', ch', co', cF', z1, z2, z3, z4⟩ := cz
      rw [if_neg (show ¬ S 9 ≤ 5 by rw [Int32.le_iff_toInt_le, show (5 : Int32).toInt = 5 from by decide]; omega), bndv (show fX6_get_6 1 wF 5 0 = S (10 + 5) from get_w hw (by decide) (by decide))]
      obtain ⟨n', j1⟩ := z1 (fun w0 w1 w2 w3 w4 w5 w6 w7 w8 w9 _ => (w0, w1, w2, w3, w4, w5, w6, w7, w8, w9))
      have e1 : tqS S L fe sa due kf (0 + 1) 5 v d h hrs A = (tqS S L fe sa due kf 0 6 (upd v 5 hrs) (crD 1 S L (S (10 + 5)) (oth S (S (10 + 5)) (wen S 5)) fe sa 0 (wtD S L fe sa (wen S 5) hrs.toNatClampNeg d h) (hrH hrs.toNatClampNeg h)) (crH S (S (10 + 5)) (hrH hrs.toNatClampNeg h)) 0 A) := tqS_1
      rw [e1]
      refine ⟨fo', va', vb', vc', dx, hx, cb', ch', co', cF', j1, z2, z3, Int.le_trans z4 ?_⟩
      have : ((13 ^ (0 + 1) : Nat) : Int) = 13 := rfl
      rw [Nat.pow_zero]
      omega
    · exact absurd hr (by omega)
  · have dd : d.toInt < due.toInt := by
      rw [Int32.le_iff_toInt_le] at c
      rcases hd with w | ⟨w1, w2⟩
      · rw [← w]; omega
      · exact w2
    rw [if_neg c, tqS_lt (kf := kf) (fe := fe) (sa := sa) (L := L) (S := S) r 5 v d h hrs A d0 d9 dd]
    exact ⟨fo, va, vb, vc, dc, h, cb, ch, co, cF, rfl, fun _ _ => rfl, har, by omega⟩
set_option maxHeartbeats 400000 in
theorem cgz_4 {S nF pF wF so s1 s2 t1 t2 yj yo y1 y2 y3 y4 y5 : Nat → Int32} {fm yc due nd fe sa : Int32} {L : Cls} {kf : (Nat → Int32) → Int32} {b : Prop} {k : Nat} (g : GD S) (x : XT S) (h8 : ¬ S 8 < 0) (hL : LWX so s1 s2 t1 t2 yj yo y1 y2 y3 y4 y5 yc L) (hn : NE nF S) (hp : PE pF S) (hw : WE wF S) (e6 : fm = S 6) (n1 : 1 ≤ nd.toInt) (n2 : nd.toInt = due.toInt ∨ (due.toInt = 0 ∧ nd.toInt = 1)) (u0 : 0 ≤ due.toInt) (hkf : b → ∀ v, kf v = v k) (hk : b → (k : Int) < (S 9).toInt) (hm : ((4 + 1 : Nat) : Int) = (S 9).toInt) (v : Nat → Int32) (hv : ∀ t : Nat, t < 4 → 0 ≤ (v t).toInt ∧ (v t).toInt ≤ 12) (hrs : Int32) (h0 : 0 ≤ hrs.toInt) (h12 : hrs.toInt ≤ 12) : ∀ (c N : Nat) (fo dc d h cb ch co n : Int32) (va vb vc cF : Nat → Int32) (A : Int32 × Int32 × Int32), c + 1 < N → 0 ≤ n.toInt → n.toInt + c = hrs.toInt → DR due dc d → 0 ≤ dc.toInt → dc.toInt ≤ 99999 → 0 ≤ d.toInt → d.toInt ≤ 99999 → (∀ t : Nat, t < 4 → va t = v t) → AR b k A fo vb vc → A.1.toInt + ((13 ^ 0 : Nat) : Int) ≤ 100000000 → ∃ (fo' : Int32) (va' vb' vc' : Nat → Int32) (dx hx cb' ch' co' : Int32) (cF' : Nat → Int32), (∀ E : Int32 → (Nat → Int32) → (Nat → Int32) → (Nat → Int32) → Int32 → Int32 → Int32 → Int32 → Int32 → (Nat → Int32) → Int32 → (Int32 × (Nat → Int32) × (Nat → Int32) × (Nat → Int32) × Int32 × Int32 × Int32 × Int32 × Int32 × (Nat → Int32)), ∃ n', fl_mX8_spread_4_81 due 0 nd fe sa nF (S 1) pF (S 9) wF fm so s1 s2 t1 t2 yj yo y1 y2 y3 y4 y5 yc (wen S 4) hrs (S (10 + 4)) E N fo va vb vc dc h cb ch co cF n = E fo' va' vb' vc' dx hx cb' ch' co' cF' n') ∧ (∀ t : Nat, t < 4 → va' t = va t) ∧ AR b k (tqS S L fe sa due kf 0 5 (upd v 4 hrs) (crD 1 S L (S (10 + 4)) (oth S (S (10 + 4)) (wen S 4)) fe sa 0 (wtD S L fe sa (wen S 4) c d h) (hrH c h)) (crH S (S (10 + 4)) (hrH c h)) 0 A) fo' vb' vc' ∧ (tqS S L fe sa due kf 0 5 (upd v 4 hrs) (crD 1 S L (S (10 + 4)) (oth S (S (10 + 4)) (wen S 4)) fe sa 0 (wtD S L fe sa (wen S 4) c d h) (hrH c h)) (crH S (S (10 + 4)) (hrH c h)) 0 A).1.toInt ≤ A.1.toInt + ((13 ^ 0 : Nat) : Int) := by
  have b9 := GD_9 g
  intro c
  induction c with
  | zero =>
    intro N fo dc d h cb ch co n va vb vc cF A hN hn0 hnc hd c0 c9 d0 d9 hva har hbd
    obtain ⟨N, rfl⟩ : ∃ m, N = m + 1 + 1 := ⟨N - 2, by omega⟩
    have en : n = hrs := i32e (by omega)
    have en1 : (n + 1).toInt = n.toInt + 1 := zadd1 (by omega)
    obtain ⟨r1, r2, r3, r4⟩ := way_in (k := 4) g x h8 (by omega)
    obtain ⟨q1, q2, q3, c1, qc, _⟩ := cls_cross (cF := cF) (nd := nd) (mo := 0) (fe := fe) (sa := sa) (d := dc) (h := h) hL hn hp rfl e6 r1 r3 r4
    have a1 := crD_in (nd := nd) (S := S) (L := L) (pass := S (10 + 4)) (to := (oth S (S (10 + 4)) (wen S 4))) (fe := fe) (sa := sa) (mo := 0) (h := h) c0 c9
    have a2 := crD_in (nd := 1) (S := S) (L := L) (pass := S (10 + 4)) (to := (oth S (S (10 + 4)) (wen S 4))) (fe := fe) (sa := sa) (mo := 0) (h := h) d0 d9
    have dr := DR_c (S := S) (L := L) (pass := S (10 + 4)) (to := (oth S (S (10 + 4)) (wen S 4))) (fe := fe) (sa := sa) (h := h) n1 n2 u0 hd c0 c9 d0 d9
    have es : (hrs - n).toInt = hrs.toInt - n.toInt := zsub (by omega) (by omega)
    have ha : ∀ t : Nat, t < 5 → upd va 4 n t = upd v 4 n t := by
      intro t ht
      by_cases y : t = 4
      · rw [y]
        exact pk_us.trans pk_us.symm
      · rw [upd_ne (fun w => y w.symm), upd_ne (fun w => y w.symm)]
        exact hva t (by omega)
    have hr2 : ∀ t : Nat, t < 5 → 0 ≤ (upd v 4 n t).toInt ∧ (upd v 4 n t).toInt ≤ 12 := by
      intro t ht
      by_cases y : t = 4
      · rw [y, show upd v 4 n 4 = n from pk_us]
        exact ⟨by omega, by omega⟩
      · rw [upd_ne (fun w => y w.symm)]
        exact hv t (by omega)
    obtain ⟨fo2, va2, vb2, vc2, dx2, hx2, cb2, ch2, co2, cF2, z1, z2, z3, z4⟩ := cgs_5 (fe := fe) (sa := sa) g x h8 hL hn hp hw e6 n1 n2 u0 hkf hk 0 (by omega) fo (crD nd S L (S (10 + 4)) (oth S (S (10 + 4)) (wen S 4)) fe sa 0 dc h) (crD 1 S L (S (10 + 4)) (oth S (S (10 + 4)) (wen S 4)) fe sa 0 d h) (crH S (S (10 + 4)) h) q1 q2 q3 (hrs - n) (upd va 4 n) vb vc c1 (upd v 4 n) A dr a1.1 (by omega) a2.1 (by omega) (by omega) (by omega) (fun _ => i32e (by rw [es, z_i0]; omega)) ha hr2 har hbd
    have z1b : fX8_spread_5 fo due (upd va 4 n) vb vc (crD nd S L (S (10 + 4)) (oth S (S (10 + 4)) (wen S 4)) fe sa 0 dc h) (crH S (S (10 + 4)) h) 0 nd fe sa c1 q1 q2 q3 nF (S 1) pF (S 9) wF fm so s1 s2 t1 t2 yj yo y1 y2 y3 y4 y5 yc (oth S (S (10 + 4)) (wen S 4)) (hrs - n) = (fo2, va2, vb2, vc2, dx2, hx2, cb2, ch2, co2, cF2) := z1
    obtain ⟨c3, qw⟩ := cwt (cF := cF2) (nd := nd) (fe := fe) (sa := sa) (d := dc) (h := h) hL hn e6 r2
    have ei : (4 : Int32).toNatClampNeg = 4 := by decide
    have ez : hrs - n = 0 := i32e (by rw [es, z_i0]; omega)
    rw [ez] at z3 z4
    refine ⟨fo2, va2, vb2, vc2, (if dc < nd then dc else dc - mltw (nwd S h (wen S 4) dc fe sa) L 0 dc), h + 1, cb2, ch2, co2, c3, fun E => ⟨n + 1, ?_⟩, fun t ht => ?_, by rw [en] at z3; exact z3, by rw [en] at z4; exact z4⟩
    · show fb_mX8_spread_4_81 due 0 nd fe sa nF (S 1) pF (S 9) wF fm so s1 s2 t1 t2 yj yo y1 y2 y3 y4 y5 yc (wen S 4) hrs (S (10 + 4)) E (fl_mX8_spread_4_81 due 0 nd fe sa nF (S 1) pF (S 9) wF fm so s1 s2 t1 t2 yj yo y1 y2 y3 y4 y5 yc (wen S 4) hrs (S (10 + 4)) E (N + 1)) fo va vb vc dc h cb ch co cF n = _
      unfold fb_mX8_spread_4_81
      rw [if_neg (show ¬ hrs < n by rw [Int32.lt_iff_toInt_lt]; omega), if_pos en, bnd_eq, ei, bndv qc, bnd_eq, bnd_eq, bnd_eq, bnd_eq, bnd_eq, bnd_eq, bnd_eq]
      dsimp only
      rw [bndv z1b, bnd_eq, bnd_eq, bnd_eq, bnd_eq, bnd_eq, bnd_eq, bnd_eq, bnd_eq, bndv qw, bnd_eq, bnd_eq, bnd_eq, bnd_eq]
      show fb_mX8_spread_4_81 due 0 nd fe sa nF (S 1) pF (S 9) wF fm so s1 s2 t1 t2 yj yo y1 y2 y3 y4 y5 yc (wen S 4) hrs (S (10 + 4)) E (fl_mX8_spread_4_81 due 0 nd fe sa nF (S 1) pF (S 9) wF fm so s1 s2 t1 t2 yj yo y1 y2 y3 y4 y5 yc (wen S 4) hrs (S (10 + 4)) E N) fo2 va2 vb2 vc2 (if dc < nd then dc else dc - mltw (nwd S h (wen S 4) dc fe sa) L 0 dc) (h + 1) cb2 ch2 co2 c3 (n + 1) = _
      unfold fb_mX8_spread_4_81
      rw [if_pos (show hrs < n + 1 by rw [Int32.lt_iff_toInt_lt]; omega)]
    · rw [z2 t (by omega)]
      exact upd_ne (by omega)
  | succ c ih =>
    intro N fo dc d h cb ch co n va vb vc cF A hN hn0 hnc hd c0 c9 d0 d9 hva har hbd
    obtain ⟨N, rfl⟩ : ∃ m, N = m + 1 := ⟨N - 1, by omega⟩
    have en1 : (n + 1).toInt = n.toInt + 1 := zadd1 (by omega)
    obtain ⟨r1, r2, r3, r4⟩ := way_in (k := 4) g x h8 (by omega)
    obtain ⟨c3, qw⟩ := cwt (cF := cF) (nd := nd) (fe := fe) (sa := sa) (d := dc) (h := h) hL hn e6 r2
    have w1 := mlt_in (W := nwd S h (wen S 4) dc fe sa) (L := L) (mo := 0) (nd := nd) c0 c9
    have w2 := wtS_in (S := S) (L := L) (fe := fe) (sa := sa) (node := wen S 4) (h := h) d0 d9
    have wr := DR_w (S := S) (L := L) (node := wen S 4) (fe := fe) (sa := sa) (h := h) n1 n2 u0 hd c0 d0 d9
    obtain ⟨fo', va', vb', vc', dx, hx, cb', ch', co', cF', z1, z2, z3, z4⟩ := ih N fo (if dc < nd then dc else dc - mltw (nwd S h (wen S 4) dc fe sa) L 0 dc) (wtS S L fe sa (wen S 4) d h) (h + 1) cb ch co (n + 1) va vb vc c3 A (by omega) (by omega) (by omega) wr w1.1 (by omega) w2.1 (by omega) hva har hbd
    refine ⟨fo', va', vb', vc', dx, hx, cb', ch', co', cF', fun E => ?_, z2, z3, z4⟩
    obtain ⟨n', j1⟩ := z1 E
    refine ⟨n', Eq.trans ?_ j1⟩
    show fb_mX8_spread_4_81 due 0 nd fe sa nF (S 1) pF (S 9) wF fm so s1 s2 t1 t2 yj yo y1 y2 y3 y4 y5 yc (wen S 4) hrs (S (10 + 4)) E (fl_mX8_spread_4_81 due 0 nd fe sa nF (S 1) pF (S 9) wF fm so s1 s2 t1 t2 yj yo y1 y2 y3 y4 y5 yc (wen S 4) hrs (S (10 + 4)) E N) fo va vb vc dc h cb ch co cF n = _
    unfold fb_mX8_spread_4_81
    have h1 : (1 : Int32).toInt = 1 := by decide
    rw [if_neg (show ¬ hrs < n by rw [Int32.lt_iff_toInt_lt]; omega), if_neg (fun w : n = hrs => by rw [w] at hnc; omega), if_pos (show S 9 - 1 ≤ 4 by rw [Int32.le_iff_toInt_le, zsub (by rw [h1]; omega) (by rw [h1]; omega), h1, show (4 : Int32).toInt = 4 from by decide]; omega), bndv qw, bnd_eq, bnd_eq, bnd_eq, bnd_eq]
    all_goals rfl
set_option maxHeartbeats 400000 in
theorem cgl_4 {S nF pF wF so s1 s2 t1 t2 yj yo y1 y2 y3 y4 y5 : Nat → Int32} {fm yc due nd fe sa : Int32} {L : Cls} {kf : (Nat → Int32) → Int32} {b : Prop} {k : Nat} (g : GD S) (x : XT S) (h8 : ¬ S 8 < 0) (hL : LWX so s1 s2 t1 t2 yj yo y1 y2 y3 y4 y5 yc L) (hn : NE nF S) (hp : PE pF S) (hw : WE wF S) (e6 : fm = S 6) (n1 : 1 ≤ nd.toInt) (n2 : nd.toInt = due.toInt ∨ (due.toInt = 0 ∧ nd.toInt = 1)) (u0 : 0 ≤ due.toInt) (hkf : b → ∀ v, kf v = v k) (hk : b → (k : Int) < (S 9).toInt) (r : Nat) (hm : ((4 + (r + 1 + 1) : Nat) : Int) = (S 9).toInt) (v : Nat → Int32) (hv : ∀ t : Nat, t < 4 → 0 ≤ (v t).toInt ∧ (v t).toInt ≤ 12) (hrs : Int32) (h0 : 0 ≤ hrs.toInt) (h12 : hrs.toInt ≤ 12) : ∀ (c N : Nat) (fo dc d h cb ch co n : Int32) (va vb vc cF : Nat → Int32) (A : Int32 × Int32 × Int32), c < N → 0 ≤ n.toInt → n.toInt + c = hrs.toInt + 1 → DR due dc d → 0 ≤ dc.toInt → dc.toInt ≤ 99999 → 0 ≤ d.toInt → d.toInt ≤ 99999 → (∀ t : Nat, t < 4 → va t = v t) → AR b k A fo vb vc → A.1.toInt + ((c * 13 ^ (r + 1) : Nat) : Int) ≤ 100000000 → ∃ (fo' : Int32) (va' vb' vc' : Nat → Int32) (dx hx cb' ch' co' : Int32) (cF' : Nat → Int32), (∀ E : Int32 → (Nat → Int32) → (Nat → Int32) → (Nat → Int32) → Int32 → Int32 → Int32 → Int32 → Int32 → (Nat → Int32) → Int32 → (Int32 × (Nat → Int32) × (Nat → Int32) × (Nat → Int32) × Int32 × Int32 × Int32 × Int32 × Int32 × (Nat → Int32)), ∃ n', fl_mX8_spread_4_81 due 0 nd fe sa nF (S 1) pF (S 9) wF fm so s1 s2 t1 t2 yj yo y1 y2 y3 y4 y5 yc (wen S 4) hrs (S (10 + 4)) E N fo va vb vc dc h cb ch co cF n = E fo' va' vb' vc' dx hx cb' ch' co' cF' n') ∧ (∀ t : Nat, t < 4 → va' t = va t) ∧ AR b k (lpS (fun n d h A => tqS S L fe sa due kf (r + 1) 5 (upd v 4 n) (crD 1 S L (S (10 + 4)) (oth S (S (10 + 4)) (wen S 4)) fe sa 0 d h) (crH S (S (10 + 4)) h) (hrs - n) A) (wtS S L fe sa (wen S 4)) c n d h A) fo' vb' vc' ∧ (lpS (fun n d h A => tqS S L fe sa due kf (r + 1) 5 (upd v 4 n) (crD 1 S L (S (10 + 4)) (oth S (S (10 + 4)) (wen S 4)) fe sa 0 d h) (crH S (S (10 + 4)) h) (hrs - n) A) (wtS S L fe sa (wen S 4)) c n d h A).1.toInt ≤ A.1.toInt + ((c * 13 ^ (r + 1) : Nat) : Int) := by
  have b9 := GD_9 g
  intro c
  induction c with
  | zero =>
    intro N fo dc d h cb ch co n va vb vc cF A hN hn0 hnc hd c0 c9 d0 d9 hva har hbd
    obtain ⟨N, rfl⟩ : ∃ m, N = m + 1 := ⟨N - 1, by omega⟩
    refine ⟨fo, va, vb, vc, dc, h, cb, ch, co, cF, fun E => ⟨n, ?_⟩, fun _ _ => rfl, har, by show A.1.toInt ≤ _; omega⟩
    show fb_mX8_spread_4_81 due 0 nd fe sa nF (S 1) pF (S 9) wF fm so s1 s2 t1 t2 yj yo y1 y2 y3 y4 y5 yc (wen S 4) hrs (S (10 + 4)) E (fl_mX8_spread_4_81 due 0 nd fe sa nF (S 1) pF (S 9) wF fm so s1 s2 t1 t2 yj yo y1 y2 y3 y4 y5 yc (wen S 4) hrs (S (10 + 4)) E N) fo va vb vc dc h cb ch co cF n = _
    unfold fb_mX8_spread_4_81
    rw [if_pos (show hrs < n by rw [Int32.lt_iff_toInt_lt]; omega)]
  | succ c ih =>
    intro N fo dc d h cb ch co n va vb vc cF A hN hn0 hnc hd c0 c9 d0 d9 hva har hbd
    obtain ⟨N, rfl⟩ : ∃ m, N = m + 1 := ⟨N - 1, by omega⟩
    have en1 : (n + 1).toInt = n.toInt + 1 := zadd1 (by omega)
    have sm : (c + 1) * 13 ^ (r + 1) = c * 13 ^ (r + 1) + 13 ^ (r + 1) := Nat.succ_mul _ _
    rw [sm] at hbd ⊢
    have hbd0 := hbd
    have hbd : A.1.toInt + ((13 ^ (r + 1) : Nat) : Int) ≤ 100000000 := by omega
    obtain ⟨r1, r2, r3, r4⟩ := way_in (k := 4) g x h8 (by omega)
    obtain ⟨q1, q2, q3, c1, qc, _⟩ := cls_cross (cF := cF) (nd := nd) (mo := 0) (fe := fe) (sa := sa) (d := dc) (h := h) hL hn hp rfl e6 r1 r3 r4
    have a1 := crD_in (nd := nd) (S := S) (L := L) (pass := S (10 + 4)) (to := (oth S (S (10 + 4)) (wen S 4))) (fe := fe) (sa := sa) (mo := 0) (h := h) c0 c9
    have a2 := crD_in (nd := 1) (S := S) (L := L) (pass := S (10 + 4)) (to := (oth S (S (10 + 4)) (wen S 4))) (fe := fe) (sa := sa) (mo := 0) (h := h) d0 d9
    have dr := DR_c (S := S) (L := L) (pass := S (10 + 4)) (to := (oth S (S (10 + 4)) (wen S 4))) (fe := fe) (sa := sa) (h := h) n1 n2 u0 hd c0 c9 d0 d9
    have es : (hrs - n).toInt = hrs.toInt - n.toInt := zsub (by omega) (by omega)
    have ha : ∀ t : Nat, t < 5 → upd va 4 n t = upd v 4 n t := by
      intro t ht
      by_cases y : t = 4
      · rw [y]
        exact pk_us.trans pk_us.symm
      · rw [upd_ne (fun w => y w.symm), upd_ne (fun w => y w.symm)]
        exact hva t (by omega)
    have hr2 : ∀ t : Nat, t < 5 → 0 ≤ (upd v 4 n t).toInt ∧ (upd v 4 n t).toInt ≤ 12 := by
      intro t ht
      by_cases y : t = 4
      · rw [y, show upd v 4 n 4 = n from pk_us]
        exact ⟨by omega, by omega⟩
      · rw [upd_ne (fun w => y w.symm)]
        exact hv t (by omega)
    obtain ⟨fo2, va2, vb2, vc2, dx2, hx2, cb2, ch2, co2, cF2, z1, z2, z3, z4⟩ := cgs_5 (fe := fe) (sa := sa) g x h8 hL hn hp hw e6 n1 n2 u0 hkf hk (r + 1) (by omega) fo (crD nd S L (S (10 + 4)) (oth S (S (10 + 4)) (wen S 4)) fe sa 0 dc h) (crD 1 S L (S (10 + 4)) (oth S (S (10 + 4)) (wen S 4)) fe sa 0 d h) (crH S (S (10 + 4)) h) q1 q2 q3 (hrs - n) (upd va 4 n) vb vc c1 (upd v 4 n) A dr a1.1 (by omega) a2.1 (by omega) (by omega) (by omega) (fun q => absurd q (by omega)) ha hr2 har hbd
    have z1b : fX8_spread_5 fo due (upd va 4 n) vb vc (crD nd S L (S (10 + 4)) (oth S (S (10 + 4)) (wen S 4)) fe sa 0 dc h) (crH S (S (10 + 4)) h) 0 nd fe sa c1 q1 q2 q3 nF (S 1) pF (S 9) wF fm so s1 s2 t1 t2 yj yo y1 y2 y3 y4 y5 yc (oth S (S (10 + 4)) (wen S 4)) (hrs - n) = (fo2, va2, vb2, vc2, dx2, hx2, cb2, ch2, co2, cF2) := z1
    obtain ⟨c3, qw⟩ := cwt (cF := cF2) (nd := nd) (fe := fe) (sa := sa) (d := dc) (h := h) hL hn e6 r2
    have ei : (4 : Int32).toNatClampNeg = 4 := by decide
    have w1 := mlt_in (W := nwd S h (wen S 4) dc fe sa) (L := L) (mo := 0) (nd := nd) c0 c9
    have w2 := wtS_in (S := S) (L := L) (fe := fe) (sa := sa) (node := wen S 4) (h := h) d0 d9
    have wr := DR_w (S := S) (L := L) (node := wen S 4) (fe := fe) (sa := sa) (h := h) n1 n2 u0 hd c0 d0 d9
    have va3 : ∀ t : Nat, t < 4 → va2 t = va t := fun t ht => (z2 t (by omega)).trans (upd_ne (by omega))
    obtain ⟨fo', va', vb', vc', dx, hx, cb', ch', co', cF', j1, j2, j3, j4⟩ := ih N fo2 (if dc < nd then dc else dc - mltw (nwd S h (wen S 4) dc fe sa) L 0 dc) (wtS S L fe sa (wen S 4) d h) (h + 1) cb2 ch2 co2 (n + 1) va2 vb2 vc2 c3 (tqS S L fe sa due kf (r + 1) 5 (upd v 4 n) (crD 1 S L (S (10 + 4)) (oth S (S (10 + 4)) (wen S 4)) fe sa 0 d h) (crH S (S (10 + 4)) h) (hrs - n) A) (by omega) (by omega) (by omega) wr w1.1 (by omega) w2.1 (by omega) (fun t ht => (va3 t ht).trans (hva t ht)) z3 (by omega)
    refine ⟨fo', va', vb', vc', dx, hx, cb', ch', co', cF', fun E => ?_, fun t ht => (j2 t ht).trans (va3 t ht), j3, Int.le_trans j4 (by omega)⟩
    obtain ⟨n', j5⟩ := j1 E
    refine ⟨n', Eq.trans ?_ j5⟩
    show fb_mX8_spread_4_81 due 0 nd fe sa nF (S 1) pF (S 9) wF fm so s1 s2 t1 t2 yj yo y1 y2 y3 y4 y5 yc (wen S 4) hrs (S (10 + 4)) E (fl_mX8_spread_4_81 due 0 nd fe sa nF (S 1) pF (S 9) wF fm so s1 s2 t1 t2 yj yo y1 y2 y3 y4 y5 yc (wen S 4) hrs (S (10 + 4)) E N) fo va vb vc dc h cb ch co cF n = _
    unfold fb_mX8_spread_4_81
    have h1 : (1 : Int32).toInt = 1 := by decide
    by_cases en : n = hrs
    · rw [if_neg (show ¬ hrs < n by rw [Int32.lt_iff_toInt_lt]; omega), if_pos en, bnd_eq, ei, bndv qc, bnd_eq, bnd_eq, bnd_eq, bnd_eq, bnd_eq, bnd_eq, bnd_eq]
      dsimp only
      rw [bndv z1b, bnd_eq, bnd_eq, bnd_eq, bnd_eq, bnd_eq, bnd_eq, bnd_eq, bnd_eq, bndv qw, bnd_eq, bnd_eq, bnd_eq, bnd_eq]
      all_goals rfl
    · rw [if_neg (show ¬ hrs < n by rw [Int32.lt_iff_toInt_lt]; omega), if_neg en, if_neg (show ¬ S 9 - 1 ≤ 4 by rw [Int32.le_iff_toInt_le, zsub (by rw [h1]; omega) (by rw [h1]; omega), h1, show (4 : Int32).toInt = 4 from by decide]; omega), bnd_eq, ei, bndv qc, bnd_eq, bnd_eq, bnd_eq, bnd_eq, bnd_eq, bnd_eq, bnd_eq]
      dsimp only
      rw [bndv z1b, bnd_eq, bnd_eq, bnd_eq, bnd_eq, bnd_eq, bnd_eq, bnd_eq, bnd_eq, bndv qw, bnd_eq, bnd_eq, bnd_eq, bnd_eq]
      all_goals rfl
set_option maxHeartbeats 400000 in
theorem cgs_4 {S nF pF wF so s1 s2 t1 t2 yj yo y1 y2 y3 y4 y5 : Nat → Int32} {fm yc due nd fe sa : Int32} {L : Cls} {kf : (Nat → Int32) → Int32} {b : Prop} {k : Nat} (g : GD S) (x : XT S) (h8 : ¬ S 8 < 0) (hL : LWX so s1 s2 t1 t2 yj yo y1 y2 y3 y4 y5 yc L) (hn : NE nF S) (hp : PE pF S) (hw : WE wF S) (e6 : fm = S 6) (n1 : 1 ≤ nd.toInt) (n2 : nd.toInt = due.toInt ∨ (due.toInt = 0 ∧ nd.toInt = 1)) (u0 : 0 ≤ due.toInt) (hkf : b → ∀ v, kf v = v k) (hk : b → (k : Int) < (S 9).toInt) (r : Nat) (hr : ((4 + r : Nat) : Int) = (S 9).toInt) (fo dc d h cb ch co hrs : Int32) (va vb vc cF v : Nat → Int32) (A : Int32 × Int32 × Int32) (hd : DR due dc d) (c0 : 0 ≤ dc.toInt) (c9 : dc.toInt ≤ 99999) (d0 : 0 ≤ d.toInt) (d9 : d.toInt ≤ 99999) (h0 : 0 ≤ hrs.toInt) (h12 : hrs.toInt ≤ 12) (hz : r = 0 → hrs = 0) (hva : ∀ t : Nat, t < 4 → va t = v t) (hv : ∀ t : Nat, t < 4 → 0 ≤ (v t).toInt ∧ (v t).toInt ≤ 12) (har : AR b k A fo vb vc) (hbd : A.1.toInt + ((13 ^ r : Nat) : Int) ≤ 100000000) : ∃ (fo' : Int32) (va' vb' vc' : Nat → Int32) (dx hx cb' ch' co' : Int32) (cF' : Nat → Int32), fX8_spread_4 fo due va vb vc dc h 0 nd fe sa cF cb ch co nF (S 1) pF (S 9) wF fm so s1 s2 t1 t2 yj yo y1 y2 y3 y4 y5 yc (wen S 4) hrs = (fo', va', vb', vc', dx, hx, cb', ch', co', cF') ∧ (∀ t : Nat, t < 4 → va' t = va t) ∧ AR b k (tqS S L fe sa due kf r 4 v d h hrs A) fo' vb' vc' ∧ (tqS S L fe sa due kf r 4 v d h hrs A).1.toInt ≤ A.1.toInt + ((13 ^ r : Nat) : Int) := by
  have b9 := GD_9 g
  have th := tn_eq h0
  have p13 : (0 : Int) ≤ ((13 ^ r : Nat) : Int) := Int.natCast_nonneg _
  unfold fX8_spread_4
  by_cases c : due ≤ dc
  · rw [if_pos c]
    rcases r with _ | r
    · have hz := hz rfl
      rw [Nat.pow_zero] at hbd ⊢
      rw [if_pos (show S 9 ≤ 4 by rw [Int32.le_iff_toInt_le, show (4 : Int32).toInt = 4 from by decide]; omega), if_pos hz]
      by_cases e : dc = due
      · have ed : d = due := by
          rcases hd with w | ⟨w1, w2⟩
          · rw [← w]; exact e
          · rw [e] at w1; omega
        obtain ⟨vb', vc', m1, m2⟩ := nt_v (fo := fo) (va := va) (vb := vb) (vc := vc) (p := S 9) b9.1 b9.2
        have q := AR_n (w := kf v) (va := va) (vb' := vb') (vc' := vc') har (by omega) (fun hb => by
          have hk2 := hk hb
          rw [hkf hb v, hva k (by omega)]
          exact ⟨rfl, hv k (by omega)⟩) (fun hb => m2 k (hk hb))
        have et : tqS S L fe sa due kf 0 4 v d h hrs A = acU A (kf v) := by
          rw [tqS_0, if_pos ed]
        rw [et, if_pos e, bndv m1, bnd_eq, bnd_eq, bnd_eq]
        exact ⟨fo + 1, va, vb', vc', dc, h, cb, ch, co, cF, rfl, fun _ _ => rfl, q.1, by rw [q.2]; omega⟩
      · have ed : ¬ d = due := by
          intro w
          rcases hd with y | ⟨y1, y2⟩
          · exact e (y.trans w)
          · rw [w] at y2; omega
        have et : tqS S L fe sa due kf 0 4 v d h hrs A = A := by
          rw [tqS_0, if_neg ed]
        rw [et, if_neg e]
        exact ⟨fo, va, vb, vc, dc, h, cb, ch, co, cF, rfl, fun _ _ => rfl, har, by omega⟩
    rcases r with _ | r
    · have cz := cgz_4 (fe := fe) (sa := sa) g x h8 hL hn hp hw e6 n1 n2 u0 hkf hk (by omega) v hv hrs h0 h12 hrs.toNatClampNeg (((hrs : Int32).toInt + 1 - (0 : Int32).toInt).toNat + 1) fo dc d h cb ch co 0 va vb vc cF A (by rw [z_i0]; omega) (by decide) (by rw [z_i0]; omega) hd c0 c9 d0 d9 hva har (by rw [Nat.pow_zero]; have : ((13 ^ (0 + 1) : Nat) : Int) = 13 := rfl; omega)
      obtain ⟨fo', va', vb', vc', dx, hx, cb', ch', co', cF', z1, z2, z3, z4⟩ := cz
      rw [if_neg (show ¬ S 9 ≤ 4 by rw [Int32.le_iff_toInt_le, show (4 : Int32).toInt = 4 from by decide]; omega), bndv (show fX6_get_6 1 wF 4 0 = S (10 + 4) from get_w hw (by decide) (by decide))]
      obtain ⟨n', j1⟩ := z1 (fun w0 w1 w2 w3 w4 w5 w6 w7 w8 w9 _ => (w0, w1, w2, w3, w4, w5, w6, w7, w8, w9))
      have e1 : tqS S L fe sa due kf (0 + 1) 4 v d h hrs A = (tqS S L fe sa due kf 0 5 (upd v 4 hrs) (crD 1 S L (S (10 + 4)) (oth S (S (10 + 4)) (wen S 4)) fe sa 0 (wtD S L fe sa (wen S 4) hrs.toNatClampNeg d h) (hrH hrs.toNatClampNeg h)) (crH S (S (10 + 4)) (hrH hrs.toNatClampNeg h)) 0 A) := tqS_1
      rw [e1]
      refine ⟨fo', va', vb', vc', dx, hx, cb', ch', co', cF', j1, z2, z3, Int.le_trans z4 ?_⟩
      have : ((13 ^ (0 + 1) : Nat) : Int) = 13 := rfl
      rw [Nat.pow_zero]
      omega
    · have e13 : 13 ^ (r + 1 + 1) = 13 * 13 ^ (r + 1) := by rw [Nat.pow_succ, Nat.mul_comm]
      have le13 : (hrs.toNatClampNeg + 1) * 13 ^ (r + 1) ≤ 13 * 13 ^ (r + 1) := Nat.mul_le_mul_right _ (by omega)
      rw [← e13] at le13
      obtain ⟨fo', va', vb', vc', dx, hx, cb', ch', co', cF', z1, z2, z3, z4⟩ := cgl_4 (fe := fe) (sa := sa) g x h8 hL hn hp hw e6 n1 n2 u0 hkf hk r (by omega) v hv hrs h0 h12 (hrs.toNatClampNeg + 1) (((hrs : Int32).toInt + 1 - (0 : Int32).toInt).toNat + 1) fo dc d h cb ch co 0 va vb vc cF A (by rw [z_i0]; omega) (by decide) (by rw [z_i0]; omega) hd c0 c9 d0 d9 hva har (by omega)
      rw [if_neg (show ¬ S 9 ≤ 4 by rw [Int32.le_iff_toInt_le, show (4 : Int32).toInt = 4 from by decide]; omega), bndv (show fX6_get_6 1 wF 4 0 = S (10 + 4) from get_w hw (by decide) (by decide))]
      obtain ⟨n', j1⟩ := z1 (fun w0 w1 w2 w3 w4 w5 w6 w7 w8 w9 _ => (w0, w1, w2, w3, w4, w5, w6, w7, w8, w9))
      have e2 : tqS S L fe sa due kf (r + 1 + 1) 4 v d h hrs A = (lpS (fun n d h A => tqS S L fe sa due kf (r + 1) 5 (upd v 4 n) (crD 1 S L (S (10 + 4)) (oth S (S (10 + 4)) (wen S 4)) fe sa 0 d h) (crH S (S (10 + 4)) h) (hrs - n) A) (wtS S L fe sa (wen S 4)) (hrs.toNatClampNeg + 1) 0 d h A) := tqS_2
      rw [e2]
      exact ⟨fo', va', vb', vc', dx, hx, cb', ch', co', cF', j1, z2, z3, Int.le_trans z4 (by omega)⟩
  · have dd : d.toInt < due.toInt := by
      rw [Int32.le_iff_toInt_le] at c
      rcases hd with w | ⟨w1, w2⟩
      · rw [← w]; omega
      · exact w2
    rw [if_neg c, tqS_lt (kf := kf) (fe := fe) (sa := sa) (L := L) (S := S) r 4 v d h hrs A d0 d9 dd]
    exact ⟨fo, va, vb, vc, dc, h, cb, ch, co, cF, rfl, fun _ _ => rfl, har, by omega⟩
set_option maxHeartbeats 400000 in
theorem cgz_3 {S nF pF wF so s1 s2 t1 t2 yj yo y1 y2 y3 y4 y5 : Nat → Int32} {fm yc due nd fe sa : Int32} {L : Cls} {kf : (Nat → Int32) → Int32} {b : Prop} {k : Nat} (g : GD S) (x : XT S) (h8 : ¬ S 8 < 0) (hL : LWX so s1 s2 t1 t2 yj yo y1 y2 y3 y4 y5 yc L) (hn : NE nF S) (hp : PE pF S) (hw : WE wF S) (e6 : fm = S 6) (n1 : 1 ≤ nd.toInt) (n2 : nd.toInt = due.toInt ∨ (due.toInt = 0 ∧ nd.toInt = 1)) (u0 : 0 ≤ due.toInt) (hkf : b → ∀ v, kf v = v k) (hk : b → (k : Int) < (S 9).toInt) (hm : ((3 + 1 : Nat) : Int) = (S 9).toInt) (v : Nat → Int32) (hv : ∀ t : Nat, t < 3 → 0 ≤ (v t).toInt ∧ (v t).toInt ≤ 12) (hrs : Int32) (h0 : 0 ≤ hrs.toInt) (h12 : hrs.toInt ≤ 12) : ∀ (c N : Nat) (fo dc d h cb ch co n : Int32) (va vb vc cF : Nat → Int32) (A : Int32 × Int32 × Int32), c + 1 < N → 0 ≤ n.toInt → n.toInt + c = hrs.toInt → DR due dc d → 0 ≤ dc.toInt → dc.toInt ≤ 99999 → 0 ≤ d.toInt → d.toInt ≤ 99999 → (∀ t : Nat, t < 3 → va t = v t) → AR b k A fo vb vc → A.1.toInt + ((13 ^ 0 : Nat) : Int) ≤ 100000000 → ∃ (fo' : Int32) (va' vb' vc' : Nat → Int32) (dx hx cb' ch' co' : Int32) (cF' : Nat → Int32), (∀ E : Int32 → (Nat → Int32) → (Nat → Int32) → (Nat → Int32) → Int32 → Int32 → Int32 → Int32 → Int32 → (Nat → Int32) → Int32 → (Int32 × (Nat → Int32) × (Nat → Int32) × (Nat → Int32) × Int32 × Int32 × Int32 × Int32 × Int32 × (Nat → Int32)), ∃ n', fl_mX8_spread_3_81 due 0 nd fe sa nF (S 1) pF (S 9) wF fm so s1 s2 t1 t2 yj yo y1 y2 y3 y4 y5 yc (wen S 3) hrs (S (10 + 3)) E N fo va vb vc dc h cb ch co cF n = E fo' va' vb' vc' dx hx cb' ch' co' cF' n') ∧ (∀ t : Nat, t < 3 → va' t = va t) ∧ AR b k (tqS S L fe sa due kf 0 4 (upd v 3 hrs) (crD 1 S L (S (10 + 3)) (oth S (S (10 + 3)) (wen S 3)) fe sa 0 (wtD S L fe sa (wen S 3) c d h) (hrH c h)) (crH S (S (10 + 3)) (hrH c h)) 0 A) fo' vb' vc' ∧ (tqS S L fe sa due kf 0 4 (upd v 3 hrs) (crD 1 S L (S (10 + 3)) (oth S (S (10 + 3)) (wen S 3)) fe sa 0 (wtD S L fe sa (wen S 3) c d h) (hrH c h)) (crH S (S (10 + 3)) (hrH c h)) 0 A).1.toInt ≤ A.1.toInt + ((13 ^ 0 : Nat) : Int) := by
  have b9 := GD_9 g
  intro c
  induction c with
  | zero =>
    intro N fo dc d h cb ch co n va vb vc cF A hN hn0 hnc hd c0 c9 d0 d9 hva har hbd
    obtain ⟨N, rfl⟩ : ∃ m, N = m + 1 + 1 := ⟨N - 2, by omega⟩
    have en : n = hrs := i32e (by omega)
    have en1 : (n + 1).toInt = n.toInt + 1 := zadd1 (by omega)
    obtain ⟨r1, r2, r3, r4⟩ := way_in (k := 3) g x h8 (by omega)
    obtain ⟨q1, q2, q3, c1, qc, _⟩ := cls_cross (cF := cF) (nd := nd) (mo := 0) (fe := fe) (sa := sa) (d := dc) (h := h) hL hn hp rfl e6 r1 r3 r4
    have a1 := crD_in (nd := nd) (S := S) (L := L) (pass := S (10 + 3)) (to := (oth S (S (10 + 3)) (wen S 3))) (fe := fe) (sa := sa) (mo := 0) (h := h) c0 c9
    have a2 := crD_in (nd := 1) (S := S) (L := L) (pass := S (10 + 3)) (to := (oth S (S (10 + 3)) (wen S 3))) (fe := fe) (sa := sa) (mo := 0) (h := h) d0 d9
    have dr := DR_c (S := S) (L := L) (pass := S (10 + 3)) (to := (oth S (S (10 + 3)) (wen S 3))) (fe := fe) (sa := sa) (h := h) n1 n2 u0 hd c0 c9 d0 d9
    have es : (hrs - n).toInt = hrs.toInt - n.toInt := zsub (by omega) (by omega)
    have ha : ∀ t : Nat, t < 4 → upd va 3 n t = upd v 3 n t := by
      intro t ht
      by_cases y : t = 3
      · rw [y]
        exact pk_us.trans pk_us.symm
      · rw [upd_ne (fun w => y w.symm), upd_ne (fun w => y w.symm)]
        exact hva t (by omega)
    have hr2 : ∀ t : Nat, t < 4 → 0 ≤ (upd v 3 n t).toInt ∧ (upd v 3 n t).toInt ≤ 12 := by
      intro t ht
      by_cases y : t = 3
      · rw [y, show upd v 3 n 3 = n from pk_us]
        exact ⟨by omega, by omega⟩
      · rw [upd_ne (fun w => y w.symm)]
        exact hv t (by omega)
    obtain ⟨fo2, va2, vb2, vc2, dx2, hx2, cb2, ch2, co2, cF2, z1, z2, z3, z4⟩ := cgs_4 (fe := fe) (sa := sa) g x h8 hL hn hp hw e6 n1 n2 u0 hkf hk 0 (by omega) fo (crD nd S L (S (10 + 3)) (oth S (S (10 + 3)) (wen S 3)) fe sa 0 dc h) (crD 1 S L (S (10 + 3)) (oth S (S (10 + 3)) (wen S 3)) fe sa 0 d h) (crH S (S (10 + 3)) h) q1 q2 q3 (hrs - n) (upd va 3 n) vb vc c1 (upd v 3 n) A dr a1.1 (by omega) a2.1 (by omega) (by omega) (by omega) (fun _ => i32e (by rw [es, z_i0]; omega)) ha hr2 har hbd
    have z1b : fX8_spread_4 fo due (upd va 3 n) vb vc (crD nd S L (S (10 + 3)) (oth S (S (10 + 3)) (wen S 3)) fe sa 0 dc h) (crH S (S (10 + 3)) h) 0 nd fe sa c1 q1 q2 q3 nF (S 1) pF (S 9) wF fm so s1 s2 t1 t2 yj yo y1 y2 y3 y4 y5 yc (oth S (S (10 + 3)) (wen S 3)) (hrs - n) = (fo2, va2, vb2, vc2, dx2, hx2, cb2, ch2, co2, cF2) := z1
    obtain ⟨c3, qw⟩ := cwt (cF := cF2) (nd := nd) (fe := fe) (sa := sa) (d := dc) (h := h) hL hn e6 r2
    have ei : (3 : Int32).toNatClampNeg = 3 := by decide
    have ez : hrs - n = 0 := i32e (by rw [es, z_i0]; omega)
    rw [ez] at z3 z4
    refine ⟨fo2, va2, vb2, vc2, (if dc < nd then dc else dc - mltw (nwd S h (wen S 3) dc fe sa) L 0 dc), h + 1, cb2, ch2, co2, c3, fun E => ⟨n + 1, ?_⟩, fun t ht => ?_, by rw [en] at z3; exact z3, by rw [en] at z4; exact z4⟩
    · show fb_mX8_spread_3_81 due 0 nd fe sa nF (S 1) pF (S 9) wF fm so s1 s2 t1 t2 yj yo y1 y2 y3 y4 y5 yc (wen S 3) hrs (S (10 + 3)) E (fl_mX8_spread_3_81 due 0 nd fe sa nF (S 1) pF (S 9) wF fm so s1 s2 t1 t2 yj yo y1 y2 y3 y4 y5 yc (wen S 3) hrs (S (10 + 3)) E (N + 1)) fo va vb vc dc h cb ch co cF n = _
      unfold fb_mX8_spread_3_81
      rw [if_neg (show ¬ hrs < n by rw [Int32.lt_iff_toInt_lt]; omega), if_pos en, bnd_eq, ei, bndv qc, bnd_eq, bnd_eq, bnd_eq, bnd_eq, bnd_eq, bnd_eq, bnd_eq]
      dsimp only
      rw [bndv z1b, bnd_eq, bnd_eq, bnd_eq, bnd_eq, bnd_eq, bnd_eq, bnd_eq, bnd_eq, bndv qw, bnd_eq, bnd_eq, bnd_eq, bnd_eq]
      show fb_mX8_spread_3_81 due 0 nd fe sa nF (S 1) pF (S 9) wF fm so s1 s2 t1 t2 yj yo y1 y2 y3 y4 y5 yc (wen S 3) hrs (S (10 + 3)) E (fl_mX8_spread_3_81 due 0 nd fe sa nF (S 1) pF (S 9) wF fm so s1 s2 t1 t2 yj yo y1 y2 y3 y4 y5 yc (wen S 3) hrs (S (10 + 3)) E N) fo2 va2 vb2 vc2 (if dc < nd then dc else dc - mltw (nwd S h (wen S 3) dc fe sa) L 0 dc) (h + 1) cb2 ch2 co2 c3 (n + 1) = _
      unfold fb_mX8_spread_3_81
      rw [if_pos (show hrs < n + 1 by rw [Int32.lt_iff_toInt_lt]; omega)]
    · rw [z2 t (by omega)]
      exact upd_ne (by omega)
  | succ c ih =>
    intro N fo dc d h cb ch co n va vb vc cF A hN hn0 hnc hd c0 c9 d0 d9 hva har hbd
    obtain ⟨N, rfl⟩ : ∃ m, N = m + 1 := ⟨N - 1, by omega⟩
    have en1 : (n + 1).toInt = n.toInt + 1 := zadd1 (by omega)
    obtain ⟨r1, r2, r3, r4⟩ := way_in (k := 3) g x h8 (by omega)
    obtain ⟨c3, qw⟩ := cwt (cF := cF) (nd := nd) (fe := fe) (sa := sa) (d := dc) (h := h) hL hn e6 r2
    have w1 := mlt_in (W := nwd S h (wen S 3) dc fe sa) (L := L) (mo := 0) (nd := nd) c0 c9
    have w2 := wtS_in (S := S) (L := L) (fe := fe) (sa := sa) (node := wen S 3) (h := h) d0 d9
    have wr := DR_w (S := S) (L := L) (node := wen S 3) (fe := fe) (sa := sa) (h := h) n1 n2 u0 hd c0 d0 d9
    obtain ⟨fo', va', vb', vc', dx, hx, cb', ch', co', cF', z1, z2, z3, z4⟩ := ih N fo (if dc < nd then dc else dc - mltw (nwd S h (wen S 3) dc fe sa) L 0 dc) (wtS S L fe sa (wen S 3) d h) (h + 1) cb ch co (n + 1) va vb vc c3 A (by omega) (by omega) (by omega) wr w1.1 (by omega) w2.1 (by omega) hva har hbd
    refine ⟨fo', va', vb', vc', dx, hx, cb', ch', co', cF', fun E => ?_, z2, z3, z4⟩
    obtain ⟨n', j1⟩ := z1 E
    refine ⟨n', Eq.trans ?_ j1⟩
    show fb_mX8_spread_3_81 due 0 nd fe sa nF (S 1) pF (S 9) wF fm so s1 s2 t1 t2 yj yo y1 y2 y3 y4 y5 yc (wen S 3) hrs (S (10 + 3)) E (fl_mX8_spread_3_81 due 0 nd fe sa nF (S 1) pF (S 9) wF fm so s1 s2 t1 t2 yj yo y1 y2 y3 y4 y5 yc (wen S 3) hrs (S (10 + 3)) E N) fo va vb vc dc h cb ch co cF n = _
    unfold fb_mX8_spread_3_81
    have h1 : (1 : Int32).toInt = 1 := by decide
    rw [if_neg (show ¬ hrs < n by rw [Int32.lt_iff_toInt_lt]; omega), if_neg (fun w : n = hrs => by rw [w] at hnc; omega), if_pos (show S 9 - 1 ≤ 3 by rw [Int32.le_iff_toInt_le, zsub (by rw [h1]; omega) (by rw [h1]; omega), h1, show (3 : Int32).toInt = 3 from by decide]; omega), bndv qw, bnd_eq, bnd_eq, bnd_eq, bnd_eq]
    all_goals rfl
set_option maxHeartbeats 400000 in
theorem cgl_3 {S nF pF wF so s1 s2 t1 t2 yj yo y1 y2 y3 y4 y5 : Nat → Int32} {fm yc due nd fe sa : Int32} {L : Cls} {kf : (Nat → Int32) → Int32} {b : Prop} {k : Nat} (g : GD S) (x : XT S) (h8 : ¬ S 8 < 0) (hL : LWX so s1 s2 t1 t2 yj yo y1 y2 y3 y4 y5 yc L) (hn : NE nF S) (hp : PE pF S) (hw : WE wF S) (e6 : fm = S 6) (n1 : 1 ≤ nd.toInt) (n2 : nd.toInt = due.toInt ∨ (due.toInt = 0 ∧ nd.toInt = 1)) (u0 : 0 ≤ due.toInt) (hkf : b → ∀ v, kf v = v k) (hk : b → (k : Int) < (S 9).toInt) (r : Nat) (hm : ((3 + (r + 1 + 1) : Nat) : Int) = (S 9).toInt) (v : Nat → Int32) (hv : ∀ t : Nat, t < 3 → 0 ≤ (v t).toInt ∧ (v t).toInt ≤ 12) (hrs : Int32) (h0 : 0 ≤ hrs.toInt) (h12 : hrs.toInt ≤ 12) : ∀ (c N : Nat) (fo dc d h cb ch co n : Int32) (va vb vc cF : Nat → Int32) (A : Int32 × Int32 × Int32), c < N → 0 ≤ n.toInt → n.toInt + c = hrs.toInt + 1 → DR due dc d → 0 ≤ dc.toInt → dc.toInt ≤ 99999 → 0 ≤ d.toInt → d.toInt ≤ 99999 → (∀ t : Nat, t < 3 → va t = v t) → AR b k A fo vb vc → A.1.toInt + ((c * 13 ^ (r + 1) : Nat) : Int) ≤ 100000000 → ∃ (fo' : Int32) (va' vb' vc' : Nat → Int32) (dx hx cb' ch' co' : Int32) (cF' : Nat → Int32), (∀ E : Int32 → (Nat → Int32) → (Nat → Int32) → (Nat → Int32) → Int32 → Int32 → Int32 → Int32 → Int32 → (Nat → Int32) → Int32 → (Int32 × (Nat → Int32) × (Nat → Int32) × (Nat → Int32) × Int32 × Int32 × Int32 × Int32 × Int32 × (Nat → Int32)), ∃ n', fl_mX8_spread_3_81 due 0 nd fe sa nF (S 1) pF (S 9) wF fm so s1 s2 t1 t2 yj yo y1 y2 y3 y4 y5 yc (wen S 3) hrs (S (10 + 3)) E N fo va vb vc dc h cb ch co cF n = E fo' va' vb' vc' dx hx cb' ch' co' cF' n') ∧ (∀ t : Nat, t < 3 → va' t = va t) ∧ AR b k (lpS (fun n d h A => tqS S L fe sa due kf (r + 1) 4 (upd v 3 n) (crD 1 S L (S (10 + 3)) (oth S (S (10 + 3)) (wen S 3)) fe sa 0 d h) (crH S (S (10 + 3)) h) (hrs - n) A) (wtS S L fe sa (wen S 3)) c n d h A) fo' vb' vc' ∧ (lpS (fun n d h A => tqS S L fe sa due kf (r + 1) 4 (upd v 3 n) (crD 1 S L (S (10 + 3)) (oth S (S (10 + 3)) (wen S 3)) fe sa 0 d h) (crH S (S (10 + 3)) h) (hrs - n) A) (wtS S L fe sa (wen S 3)) c n d h A).1.toInt ≤ A.1.toInt + ((c * 13 ^ (r + 1) : Nat) : Int) := by
  have b9 := GD_9 g
  intro c
  induction c with
  | zero =>
    intro N fo dc d h cb ch co n va vb vc cF A hN hn0 hnc hd c0 c9 d0 d9 hva har hbd
    obtain ⟨N, rfl⟩ : ∃ m, N = m + 1 := ⟨N - 1, by omega⟩
    refine ⟨fo, va, vb, vc, dc, h, cb, ch, co, cF, fun E => ⟨n, ?_⟩, fun _ _ => rfl, har, by show A.1.toInt ≤ _; omega⟩
    show fb_mX8_spread_3_81 due 0 nd fe sa nF (S 1) pF (S 9) wF fm so s1 s2 t1 t2 yj yo y1 y2 y3 y4 y5 yc (wen S 3) hrs (S (10 + 3)) E (fl_mX8_spread_3_81 due 0 nd fe sa nF (S 1) pF (S 9) wF fm so s1 s2 t1 t2 yj yo y1 y2 y3 y4 y5 yc (wen S 3) hrs (S (10 + 3)) E N) fo va vb vc dc h cb ch co cF n = _
    unfold fb_mX8_spread_3_81
    rw [if_pos (show hrs < n by rw [Int32.lt_iff_toInt_lt]; omega)]
  | succ c ih =>
    intro N fo dc d h cb ch co n va vb vc cF A hN hn0 hnc hd c0 c9 d0 d9 hva har hbd
    obtain ⟨N, rfl⟩ : ∃ m, N = m + 1 := ⟨N - 1, by omega⟩
    have en1 : (n + 1).toInt = n.toInt + 1 := zadd1 (by omega)
    have sm : (c + 1) * 13 ^ (r + 1) = c * 13 ^ (r + 1) + 13 ^ (r + 1) := Nat.succ_mul _ _
    rw [sm] at hbd ⊢
    have hbd0 := hbd
    have hbd : A.1.toInt + ((13 ^ (r + 1) : Nat) : Int) ≤ 100000000 := by omega
    obtain ⟨r1, r2, r3, r4⟩ := way_in (k := 3) g x h8 (by omega)
    obtain ⟨q1, q2, q3, c1, qc, _⟩ := cls_cross (cF := cF) (nd := nd) (mo := 0) (fe := fe) (sa := sa) (d := dc) (h := h) hL hn hp rfl e6 r1 r3 r4
    have a1 := crD_in (nd := nd) (S := S) (L := L) (pass := S (10 + 3)) (to := (oth S (S (10 + 3)) (wen S 3))) (fe := fe) (sa := sa) (mo := 0) (h := h) c0 c9
    have a2 := crD_in (nd := 1) (S := S) (L := L) (pass := S (10 + 3)) (to := (oth S (S (10 + 3)) (wen S 3))) (fe := fe) (sa := sa) (mo := 0) (h := h) d0 d9
    have dr := DR_c (S := S) (L := L) (pass := S (10 + 3)) (to := (oth S (S (10 + 3)) (wen S 3))) (fe := fe) (sa := sa) (h := h) n1 n2 u0 hd c0 c9 d0 d9
    have es : (hrs - n).toInt = hrs.toInt - n.toInt := zsub (by omega) (by omega)
    have ha : ∀ t : Nat, t < 4 → upd va 3 n t = upd v 3 n t := by
      intro t ht
      by_cases y : t = 3
      · rw [y]
        exact pk_us.trans pk_us.symm
      · rw [upd_ne (fun w => y w.symm), upd_ne (fun w => y w.symm)]
        exact hva t (by omega)
    have hr2 : ∀ t : Nat, t < 4 → 0 ≤ (upd v 3 n t).toInt ∧ (upd v 3 n t).toInt ≤ 12 := by
      intro t ht
      by_cases y : t = 3
      · rw [y, show upd v 3 n 3 = n from pk_us]
        exact ⟨by omega, by omega⟩
      · rw [upd_ne (fun w => y w.symm)]
        exact hv t (by omega)
    obtain ⟨fo2, va2, vb2, vc2, dx2, hx2, cb2, ch2, co2, cF2, z1, z2, z3, z4⟩ := cgs_4 (fe := fe) (sa := sa) g x h8 hL hn hp hw e6 n1 n2 u0 hkf hk (r + 1) (by omega) fo (crD nd S L (S (10 + 3)) (oth S (S (10 + 3)) (wen S 3)) fe sa 0 dc h) (crD 1 S L (S (10 + 3)) (oth S (S (10 + 3)) (wen S 3)) fe sa 0 d h) (crH S (S (10 + 3)) h) q1 q2 q3 (hrs - n) (upd va 3 n) vb vc c1 (upd v 3 n) A dr a1.1 (by omega) a2.1 (by omega) (by omega) (by omega) (fun q => absurd q (by omega)) ha hr2 har hbd
    have z1b : fX8_spread_4 fo due (upd va 3 n) vb vc (crD nd S L (S (10 + 3)) (oth S (S (10 + 3)) (wen S 3)) fe sa 0 dc h) (crH S (S (10 + 3)) h) 0 nd fe sa c1 q1 q2 q3 nF (S 1) pF (S 9) wF fm so s1 s2 t1 t2 yj yo y1 y2 y3 y4 y5 yc (oth S (S (10 + 3)) (wen S 3)) (hrs - n) = (fo2, va2, vb2, vc2, dx2, hx2, cb2, ch2, co2, cF2) := z1
    obtain ⟨c3, qw⟩ := cwt (cF := cF2) (nd := nd) (fe := fe) (sa := sa) (d := dc) (h := h) hL hn e6 r2
    have ei : (3 : Int32).toNatClampNeg = 3 := by decide
    have w1 := mlt_in (W := nwd S h (wen S 3) dc fe sa) (L := L) (mo := 0) (nd := nd) c0 c9
    have w2 := wtS_in (S := S) (L := L) (fe := fe) (sa := sa) (node := wen S 3) (h := h) d0 d9
    have wr := DR_w (S := S) (L := L) (node := wen S 3) (fe := fe) (sa := sa) (h := h) n1 n2 u0 hd c0 d0 d9
    have va3 : ∀ t : Nat, t < 3 → va2 t = va t := fun t ht => (z2 t (by omega)).trans (upd_ne (by omega))
    obtain ⟨fo', va', vb', vc', dx, hx, cb', ch', co', cF', j1, j2, j3, j4⟩ := ih N fo2 (if dc < nd then dc else dc - mltw (nwd S h (wen S 3) dc fe sa) L 0 dc) (wtS S L fe sa (wen S 3) d h) (h + 1) cb2 ch2 co2 (n + 1) va2 vb2 vc2 c3 (tqS S L fe sa due kf (r + 1) 4 (upd v 3 n) (crD 1 S L (S (10 + 3)) (oth S (S (10 + 3)) (wen S 3)) fe sa 0 d h) (crH S (S (10 + 3)) h) (hrs - n) A) (by omega) (by omega) (by omega) wr w1.1 (by omega) w2.1 (by omega) (fun t ht => (va3 t ht).trans (hva t ht)) z3 (by omega)
    refine ⟨fo', va', vb', vc', dx, hx, cb', ch', co', cF', fun E => ?_, fun t ht => (j2 t ht).trans (va3 t ht), j3, Int.le_trans j4 (by omega)⟩
    obtain ⟨n', j5⟩ := j1 E
    refine ⟨n', Eq.trans ?_ j5⟩
    show fb_mX8_spread_3_81 due 0 nd fe sa nF (S 1) pF (S 9) wF fm so s1 s2 t1 t2 yj yo y1 y2 y3 y4 y5 yc (wen S 3) hrs (S (10 + 3)) E (fl_mX8_spread_3_81 due 0 nd fe sa nF (S 1) pF (S 9) wF fm so s1 s2 t1 t2 yj yo y1 y2 y3 y4 y5 yc (wen S 3) hrs (S (10 + 3)) E N) fo va vb vc dc h cb ch co cF n = _
    unfold fb_mX8_spread_3_81
    have h1 : (1 : Int32).toInt = 1 := by decide
    by_cases en : n = hrs
    · rw [if_neg (show ¬ hrs < n by rw [Int32.lt_iff_toInt_lt]; omega), if_pos en, bnd_eq, ei, bndv qc, bnd_eq, bnd_eq, bnd_eq, bnd_eq, bnd_eq, bnd_eq, bnd_eq]
      dsimp only
      rw [bndv z1b, bnd_eq, bnd_eq, bnd_eq, bnd_eq, bnd_eq, bnd_eq, bnd_eq, bnd_eq, bndv qw, bnd_eq, bnd_eq, bnd_eq, bnd_eq]
      all_goals rfl
    · rw [if_neg (show ¬ hrs < n by rw [Int32.lt_iff_toInt_lt]; omega), if_neg en, if_neg (show ¬ S 9 - 1 ≤ 3 by rw [Int32.le_iff_toInt_le, zsub (by rw [h1]; omega) (by rw [h1]; omega), h1, show (3 : Int32).toInt = 3 from by decide]; omega), bnd_eq, ei, bndv qc, bnd_eq, bnd_eq, bnd_eq, bnd_eq, bnd_eq, bnd_eq, bnd_eq]
      dsimp only
      rw [bndv z1b, bnd_eq, bnd_eq, bnd_eq, bnd_eq, bnd_eq, bnd_eq, bnd_eq, bnd_eq, bndv qw, bnd_eq, bnd_eq, bnd_eq, bnd_eq]
      all_goals rfl
set_option maxHeartbeats 400000 in
theorem cgs_3 {S nF pF wF so s1 s2 t1 t2 yj yo y1 y2 y3 y4 y5 : Nat → Int32} {fm yc due nd fe sa : Int32} {L : Cls} {kf : (Nat → Int32) → Int32} {b : Prop} {k : Nat} (g : GD S) (x : XT S) (h8 : ¬ S 8 < 0) (hL : LWX so s1 s2 t1 t2 yj yo y1 y2 y3 y4 y5 yc L) (hn : NE nF S) (hp : PE pF S) (hw : WE wF S) (e6 : fm = S 6) (n1 : 1 ≤ nd.toInt) (n2 : nd.toInt = due.toInt ∨ (due.toInt = 0 ∧ nd.toInt = 1)) (u0 : 0 ≤ due.toInt) (hkf : b → ∀ v, kf v = v k) (hk : b → (k : Int) < (S 9).toInt) (r : Nat) (hr : ((3 + r : Nat) : Int) = (S 9).toInt) (fo dc d h cb ch co hrs : Int32) (va vb vc cF v : Nat → Int32) (A : Int32 × Int32 × Int32) (hd : DR due dc d) (c0 : 0 ≤ dc.toInt) (c9 : dc.toInt ≤ 99999) (d0 : 0 ≤ d.toInt) (d9 : d.toInt ≤ 99999) (h0 : 0 ≤ hrs.toInt) (h12 : hrs.toInt ≤ 12) (hz : r = 0 → hrs = 0) (hva : ∀ t : Nat, t < 3 → va t = v t) (hv : ∀ t : Nat, t < 3 → 0 ≤ (v t).toInt ∧ (v t).toInt ≤ 12) (har : AR b k A fo vb vc) (hbd : A.1.toInt + ((13 ^ r : Nat) : Int) ≤ 100000000) : ∃ (fo' : Int32) (va' vb' vc' : Nat → Int32) (dx hx cb' ch' co' : Int32) (cF' : Nat → Int32), fX8_spread_3 fo due va vb vc dc h 0 nd fe sa cF cb ch co nF (S 1) pF (S 9) wF fm so s1 s2 t1 t2 yj yo y1 y2 y3 y4 y5 yc (wen S 3) hrs = (fo', va', vb', vc', dx, hx, cb', ch', co', cF') ∧ (∀ t : Nat, t < 3 → va' t = va t) ∧ AR b k (tqS S L fe sa due kf r 3 v d h hrs A) fo' vb' vc' ∧ (tqS S L fe sa due kf r 3 v d h hrs A).1.toInt ≤ A.1.toInt + ((13 ^ r : Nat) : Int) := by
  have b9 := GD_9 g
  have th := tn_eq h0
  have p13 : (0 : Int) ≤ ((13 ^ r : Nat) : Int) := Int.natCast_nonneg _
  unfold fX8_spread_3
  by_cases c : due ≤ dc
  · rw [if_pos c]
    rcases r with _ | r
    · have hz := hz rfl
      rw [Nat.pow_zero] at hbd ⊢
      rw [if_pos (show S 9 ≤ 3 by rw [Int32.le_iff_toInt_le, show (3 : Int32).toInt = 3 from by decide]; omega), if_pos hz]
      by_cases e : dc = due
      · have ed : d = due := by
          rcases hd with w | ⟨w1, w2⟩
          · rw [← w]; exact e
          · rw [e] at w1; omega
        obtain ⟨vb', vc', m1, m2⟩ := nt_v (fo := fo) (va := va) (vb := vb) (vc := vc) (p := S 9) b9.1 b9.2
        have q := AR_n (w := kf v) (va := va) (vb' := vb') (vc' := vc') har (by omega) (fun hb => by
          have hk2 := hk hb
          rw [hkf hb v, hva k (by omega)]
          exact ⟨rfl, hv k (by omega)⟩) (fun hb => m2 k (hk hb))
        have et : tqS S L fe sa due kf 0 3 v d h hrs A = acU A (kf v) := by
          rw [tqS_0, if_pos ed]
        rw [et, if_pos e, bndv m1, bnd_eq, bnd_eq, bnd_eq]
        exact ⟨fo + 1, va, vb', vc', dc, h, cb, ch, co, cF, rfl, fun _ _ => rfl, q.1, by rw [q.2]; omega⟩
      · have ed : ¬ d = due := by
          intro w
          rcases hd with y | ⟨y1, y2⟩
          · exact e (y.trans w)
          · rw [w] at y2; omega
        have et : tqS S L fe sa due kf 0 3 v d h hrs A = A := by
          rw [tqS_0, if_neg ed]
        rw [et, if_neg e]
        exact ⟨fo, va, vb, vc, dc, h, cb, ch, co, cF, rfl, fun _ _ => rfl, har, by omega⟩
    rcases r with _ | r
    · have cz := cgz_3 (fe := fe) (sa := sa) g x h8 hL hn hp hw e6 n1 n2 u0 hkf hk (by omega) v hv hrs h0 h12 hrs.toNatClampNeg (((hrs : Int32).toInt + 1 - (0 : Int32).toInt).toNat + 1) fo dc d h cb ch co 0 va vb vc cF A (by rw [z_i0]; omega) (by decide) (by rw [z_i0]; omega) hd c0 c9 d0 d9 hva har (by rw [Nat.pow_zero]; have : ((13 ^ (0 + 1) : Nat) : Int) = 13 := rfl; omega)
      obtain ⟨fo', va', vb', vc', dx, hx, cb', ch', co', cF', z1, z2, z3, z4⟩ := cz
      rw [if_neg (show ¬ S 9 ≤ 3 by rw [Int32.le_iff_toInt_le, show (3 : Int32).toInt = 3 from by decide]; omega), bndv (show fX6_get_6 1 wF 3 0 = S (10 + 3) from get_w hw (by decide) (by decide))]
      obtain ⟨n', j1⟩ := z1 (fun w0 w1 w2 w3 w4 w5 w6 w7 w8 w9 _ => (w0, w1, w2, w3, w4, w5, w6, w7, w8, w9))
      have e1 : tqS S L fe sa due kf (0 + 1) 3 v d h hrs A = (tqS S L fe sa due kf 0 4 (upd v 3 hrs) (crD 1 S L (S (10 + 3)) (oth S (S (10 + 3)) (wen S 3)) fe sa 0 (wtD S L fe sa (wen S 3) hrs.toNatClampNeg d h) (hrH hrs.toNatClampNeg h)) (crH S (S (10 + 3)) (hrH hrs.toNatClampNeg h)) 0 A) := tqS_1
      rw [e1]
      refine ⟨fo', va', vb', vc', dx, hx, cb', ch', co', cF', j1, z2, z3, Int.le_trans z4 ?_⟩
      have : ((13 ^ (0 + 1) : Nat) : Int) = 13 := rfl
      rw [Nat.pow_zero]
      omega
    · have e13 : 13 ^ (r + 1 + 1) = 13 * 13 ^ (r + 1) := by rw [Nat.pow_succ, Nat.mul_comm]
      have le13 : (hrs.toNatClampNeg + 1) * 13 ^ (r + 1) ≤ 13 * 13 ^ (r + 1) := Nat.mul_le_mul_right _ (by omega)
      rw [← e13] at le13
      obtain ⟨fo', va', vb', vc', dx, hx, cb', ch', co', cF', z1, z2, z3, z4⟩ := cgl_3 (fe := fe) (sa := sa) g x h8 hL hn hp hw e6 n1 n2 u0 hkf hk r (by omega) v hv hrs h0 h12 (hrs.toNatClampNeg + 1) (((hrs : Int32).toInt + 1 - (0 : Int32).toInt).toNat + 1) fo dc d h cb ch co 0 va vb vc cF A (by rw [z_i0]; omega) (by decide) (by rw [z_i0]; omega) hd c0 c9 d0 d9 hva har (by omega)
      rw [if_neg (show ¬ S 9 ≤ 3 by rw [Int32.le_iff_toInt_le, show (3 : Int32).toInt = 3 from by decide]; omega), bndv (show fX6_get_6 1 wF 3 0 = S (10 + 3) from get_w hw (by decide) (by decide))]
      obtain ⟨n', j1⟩ := z1 (fun w0 w1 w2 w3 w4 w5 w6 w7 w8 w9 _ => (w0, w1, w2, w3, w4, w5, w6, w7, w8, w9))
      have e2 : tqS S L fe sa due kf (r + 1 + 1) 3 v d h hrs A = (lpS (fun n d h A => tqS S L fe sa due kf (r + 1) 4 (upd v 3 n) (crD 1 S L (S (10 + 3)) (oth S (S (10 + 3)) (wen S 3)) fe sa 0 d h) (crH S (S (10 + 3)) h) (hrs - n) A) (wtS S L fe sa (wen S 3)) (hrs.toNatClampNeg + 1) 0 d h A) := tqS_2
      rw [e2]
      exact ⟨fo', va', vb', vc', dx, hx, cb', ch', co', cF', j1, z2, z3, Int.le_trans z4 (by omega)⟩
  · have dd : d.toInt < due.toInt := by
      rw [Int32.le_iff_toInt_le] at c
      rcases hd with w | ⟨w1, w2⟩
      · rw [← w]; omega
      · exact w2
    rw [if_neg c, tqS_lt (kf := kf) (fe := fe) (sa := sa) (L := L) (S := S) r 3 v d h hrs A d0 d9 dd]
    exact ⟨fo, va, vb, vc, dc, h, cb, ch, co, cF, rfl, fun _ _ => rfl, har, by omega⟩
set_option maxHeartbeats 400000 in
theorem cgz_2 {S nF pF wF so s1 s2 t1 t2 yj yo y1 y2 y3 y4 y5 : Nat → Int32} {fm yc due nd fe sa : Int32} {L : Cls} {kf : (Nat → Int32) → Int32} {b : Prop} {k : Nat} (g : GD S) (x : XT S) (h8 : ¬ S 8 < 0) (hL : LWX so s1 s2 t1 t2 yj yo y1 y2 y3 y4 y5 yc L) (hn : NE nF S) (hp : PE pF S) (hw : WE wF S) (e6 : fm = S 6) (n1 : 1 ≤ nd.toInt) (n2 : nd.toInt = due.toInt ∨ (due.toInt = 0 ∧ nd.toInt = 1)) (u0 : 0 ≤ due.toInt) (hkf : b → ∀ v, kf v = v k) (hk : b → (k : Int) < (S 9).toInt) (hm : ((2 + 1 : Nat) : Int) = (S 9).toInt) (v : Nat → Int32) (hv : ∀ t : Nat, t < 2 → 0 ≤ (v t).toInt ∧ (v t).toInt ≤ 12) (hrs : Int32) (h0 : 0 ≤ hrs.toInt) (h12 : hrs.toInt ≤ 12) : ∀ (c N : Nat) (fo dc d h cb ch co n : Int32) (va vb vc cF : Nat → Int32) (A : Int32 × Int32 × Int32), c + 1 < N → 0 ≤ n.toInt → n.toInt + c = hrs.toInt → DR due dc d → 0 ≤ dc.toInt → dc.toInt ≤ 99999 → 0 ≤ d.toInt → d.toInt ≤ 99999 → (∀ t : Nat, t < 2 → va t = v t) → AR b k A fo vb vc → A.1.toInt + ((13 ^ 0 : Nat) : Int) ≤ 100000000 → ∃ (fo' : Int32) (va' vb' vc' : Nat → Int32) (dx hx cb' ch' co' : Int32) (cF' : Nat → Int32), (∀ E : Int32 → (Nat → Int32) → (Nat → Int32) → (Nat → Int32) → Int32 → Int32 → Int32 → Int32 → Int32 → (Nat → Int32) → Int32 → (Int32 × (Nat → Int32) × (Nat → Int32) × (Nat → Int32) × Int32 × Int32 × Int32 × Int32 × Int32 × (Nat → Int32)), ∃ n', fl_mX8_spread_2_81 due 0 nd fe sa nF (S 1) pF (S 9) wF fm so s1 s2 t1 t2 yj yo y1 y2 y3 y4 y5 yc (wen S 2) hrs (S (10 + 2)) E N fo va vb vc dc h cb ch co cF n = E fo' va' vb' vc' dx hx cb' ch' co' cF' n') ∧ (∀ t : Nat, t < 2 → va' t = va t) ∧ AR b k (tqS S L fe sa due kf 0 3 (upd v 2 hrs) (crD 1 S L (S (10 + 2)) (oth S (S (10 + 2)) (wen S 2)) fe sa 0 (wtD S L fe sa (wen S 2) c d h) (hrH c h)) (crH S (S (10 + 2)) (hrH c h)) 0 A) fo' vb' vc' ∧ (tqS S L fe sa due kf 0 3 (upd v 2 hrs) (crD 1 S L (S (10 + 2)) (oth S (S (10 + 2)) (wen S 2)) fe sa 0 (wtD S L fe sa (wen S 2) c d h) (hrH c h)) (crH S (S (10 + 2)) (hrH c h)) 0 A).1.toInt ≤ A.1.toInt + ((13 ^ 0 : Nat) : Int) := by
  have b9 := GD_9 g
  intro c
  induction c with
  | zero =>
    intro N fo dc d h cb ch co n va vb vc cF A hN hn0 hnc hd c0 c9 d0 d9 hva har hbd
    obtain ⟨N, rfl⟩ : ∃ m, N = m + 1 + 1 := ⟨N - 2, by omega⟩
    have en : n = hrs := i32e (by omega)
    have en1 : (n + 1).toInt = n.toInt + 1 := zadd1 (by omega)
    obtain ⟨r1, r2, r3, r4⟩ := way_in (k := 2) g x h8 (by omega)
    obtain ⟨q1, q2, q3, c1, qc, _⟩ := cls_cross (cF := cF) (nd := nd) (mo := 0) (fe := fe) (sa := sa) (d := dc) (h := h) hL hn hp rfl e6 r1 r3 r4
    have a1 := crD_in (nd := nd) (S := S) (L := L) (pass := S (10 + 2)) (to := (oth S (S (10 + 2)) (wen S 2))) (fe := fe) (sa := sa) (mo := 0) (h := h) c0 c9
    have a2 := crD_in (nd := 1) (S := S) (L := L) (pass := S (10 + 2)) (to := (oth S (S (10 + 2)) (wen S 2))) (fe := fe) (sa := sa) (mo := 0) (h := h) d0 d9
    have dr := DR_c (S := S) (L := L) (pass := S (10 + 2)) (to := (oth S (S (10 + 2)) (wen S 2))) (fe := fe) (sa := sa) (h := h) n1 n2 u0 hd c0 c9 d0 d9
    have es : (hrs - n).toInt = hrs.toInt - n.toInt := zsub (by omega) (by omega)
    have ha : ∀ t : Nat, t < 3 → upd va 2 n t = upd v 2 n t := by
      intro t ht
      by_cases y : t = 2
      · rw [y]
        exact pk_us.trans pk_us.symm
      · rw [upd_ne (fun w => y w.symm), upd_ne (fun w => y w.symm)]
        exact hva t (by omega)
    have hr2 : ∀ t : Nat, t < 3 → 0 ≤ (upd v 2 n t).toInt ∧ (upd v 2 n t).toInt ≤ 12 := by
      intro t ht
      by_cases y : t = 2
      · rw [y, show upd v 2 n 2 = n from pk_us]
        exact ⟨by omega, by omega⟩
      · rw [upd_ne (fun w => y w.symm)]
        exact hv t (by omega)
    obtain ⟨fo2, va2, vb2, vc2, dx2, hx2, cb2, ch2, co2, cF2, z1, z2, z3, z4⟩ := cgs_3 (fe := fe) (sa := sa) g x h8 hL hn hp hw e6 n1 n2 u0 hkf hk 0 (by omega) fo (crD nd S L (S (10 + 2)) (oth S (S (10 + 2)) (wen S 2)) fe sa 0 dc h) (crD 1 S L (S (10 + 2)) (oth S (S (10 + 2)) (wen S 2)) fe sa 0 d h) (crH S (S (10 + 2)) h) q1 q2 q3 (hrs - n) (upd va 2 n) vb vc c1 (upd v 2 n) A dr a1.1 (by omega) a2.1 (by omega) (by omega) (by omega) (fun _ => i32e (by rw [es, z_i0]; omega)) ha hr2 har hbd
    have z1b : fX8_spread_3 fo due (upd va 2 n) vb vc (crD nd S L (S (10 + 2)) (oth S (S (10 + 2)) (wen S 2)) fe sa 0 dc h) (crH S (S (10 + 2)) h) 0 nd fe sa c1 q1 q2 q3 nF (S 1) pF (S 9) wF fm so s1 s2 t1 t2 yj yo y1 y2 y3 y4 y5 yc (oth S (S (10 + 2)) (wen S 2)) (hrs - n) = (fo2, va2, vb2, vc2, dx2, hx2, cb2, ch2, co2, cF2) := z1
    obtain ⟨c3, qw⟩ := cwt (cF := cF2) (nd := nd) (fe := fe) (sa := sa) (d := dc) (h := h) hL hn e6 r2
    have ei : (2 : Int32).toNatClampNeg = 2 := by decide
    have ez : hrs - n = 0 := i32e (by rw [es, z_i0]; omega)
    rw [ez] at z3 z4
    refine ⟨fo2, va2, vb2, vc2, (if dc < nd then dc else dc - mltw (nwd S h (wen S 2) dc fe sa) L 0 dc), h + 1, cb2, ch2, co2, c3, fun E => ⟨n + 1, ?_⟩, fun t ht => ?_, by rw [en] at z3; exact z3, by rw [en] at z4; exact z4⟩
    · show fb_mX8_spread_2_81 due 0 nd fe sa nF (S 1) pF (S 9) wF fm so s1 s2 t1 t2 yj yo y1 y2 y3 y4 y5 yc (wen S 2) hrs (S (10 + 2)) E (fl_mX8_spread_2_81 due 0 nd fe sa nF (S 1) pF (S 9) wF fm so s1 s2 t1 t2 yj yo y1 y2 y3 y4 y5 yc (wen S 2) hrs (S (10 + 2)) E (N + 1)) fo va vb vc dc h cb ch co cF n = _
      unfold fb_mX8_spread_2_81
      rw [if_neg (show ¬ hrs < n by rw [Int32.lt_iff_toInt_lt]; omega), if_pos en, bnd_eq, ei, bndv qc, bnd_eq, bnd_eq, bnd_eq, bnd_eq, bnd_eq, bnd_eq, bnd_eq]
      dsimp only
      rw [bndv z1b, bnd_eq, bnd_eq, bnd_eq, bnd_eq, bnd_eq, bnd_eq, bnd_eq, bnd_eq, bndv qw, bnd_eq, bnd_eq, bnd_eq, bnd_eq]
      show fb_mX8_spread_2_81 due 0 nd fe sa nF (S 1) pF (S 9) wF fm so s1 s2 t1 t2 yj yo y1 y2 y3 y4 y5 yc (wen S 2) hrs (S (10 + 2)) E (fl_mX8_spread_2_81 due 0 nd fe sa nF (S 1) pF (S 9) wF fm so s1 s2 t1 t2 yj yo y1 y2 y3 y4 y5 yc (wen S 2) hrs (S (10 + 2)) E N) fo2 va2 vb2 vc2 (if dc < nd then dc else dc - mltw (nwd S h (wen S 2) dc fe sa) L 0 dc) (h + 1) cb2 ch2 co2 c3 (n + 1) = _
      unfold fb_mX8_spread_2_81
      rw [if_pos (show hrs < n + 1 by rw [Int32.lt_iff_toInt_lt]; omega)]
    · rw [z2 t (by omega)]
      exact upd_ne (by omega)
  | succ c ih =>
    intro N fo dc d h cb ch co n va vb vc cF A hN hn0 hnc hd c0 c9 d0 d9 hva har hbd
    obtain ⟨N, rfl⟩ : ∃ m, N = m + 1 := ⟨N - 1, by omega⟩
    have en1 : (n + 1).toInt = n.toInt + 1 := zadd1 (by omega)
    obtain ⟨r1, r2, r3, r4⟩ := way_in (k := 2) g x h8 (by omega)
    obtain ⟨c3, qw⟩ := cwt (cF := cF) (nd := nd) (fe := fe) (sa := sa) (d := dc) (h := h) hL hn e6 r2
    have w1 := mlt_in (W := nwd S h (wen S 2) dc fe sa) (L := L) (mo := 0) (nd := nd) c0 c9
    have w2 := wtS_in (S := S) (L := L) (fe := fe) (sa := sa) (node := wen S 2) (h := h) d0 d9
    have wr := DR_w (S := S) (L := L) (node := wen S 2) (fe := fe) (sa := sa) (h := h) n1 n2 u0 hd c0 d0 d9
    obtain ⟨fo', va', vb', vc', dx, hx, cb', ch', co', cF', z1, z2, z3, z4⟩ := ih N fo (if dc < nd then dc else dc - mltw (nwd S h (wen S 2) dc fe sa) L 0 dc) (wtS S L fe sa (wen S 2) d h) (h + 1) cb ch co (n + 1) va vb vc c3 A (by omega) (by omega) (by omega) wr w1.1 (by omega) w2.1 (by omega) hva har hbd
    refine ⟨fo', va', vb', vc', dx, hx, cb', ch', co', cF', fun E => ?_, z2, z3, z4⟩
    obtain ⟨n', j1⟩ := z1 E
    refine ⟨n', Eq.trans ?_ j1⟩
    show fb_mX8_spread_2_81 due 0 nd fe sa nF (S 1) pF (S 9) wF fm so s1 s2 t1 t2 yj yo y1 y2 y3 y4 y5 yc (wen S 2) hrs (S (10 + 2)) E (fl_mX8_spread_2_81 due 0 nd fe sa nF (S 1) pF (S 9) wF fm so s1 s2 t1 t2 yj yo y1 y2 y3 y4 y5 yc (wen S 2) hrs (S (10 + 2)) E N) fo va vb vc dc h cb ch co cF n = _
    unfold fb_mX8_spread_2_81
    have h1 : (1 : Int32).toInt = 1 := by decide
    rw [if_neg (show ¬ hrs < n by rw [Int32.lt_iff_toInt_lt]; omega), if_neg (fun w : n = hrs => by rw [w] at hnc; omega), if_pos (show S 9 - 1 ≤ 2 by rw [Int32.le_iff_toInt_le, zsub (by rw [h1]; omega) (by rw [h1]; omega), h1, show (2 : Int32).toInt = 2 from by decide]; omega), bndv qw, bnd_eq, bnd_eq, bnd_eq, bnd_eq]
    all_goals rfl
set_option maxHeartbeats 400000 in
theorem cgl_2 {S nF pF wF so s1 s2 t1 t2 yj yo y1 y2 y3 y4 y5 : Nat → Int32} {fm yc due nd fe sa : Int32} {L : Cls} {kf : (Nat → Int32) → Int32} {b : Prop} {k : Nat} (g : GD S) (x : XT S) (h8 : ¬ S 8 < 0) (hL : LWX so s1 s2 t1 t2 yj yo y1 y2 y3 y4 y5 yc L) (hn : NE nF S) (hp : PE pF S) (hw : WE wF S) (e6 : fm = S 6) (n1 : 1 ≤ nd.toInt) (n2 : nd.toInt = due.toInt ∨ (due.toInt = 0 ∧ nd.toInt = 1)) (u0 : 0 ≤ due.toInt) (hkf : b → ∀ v, kf v = v k) (hk : b → (k : Int) < (S 9).toInt) (r : Nat) (hm : ((2 + (r + 1 + 1) : Nat) : Int) = (S 9).toInt) (v : Nat → Int32) (hv : ∀ t : Nat, t < 2 → 0 ≤ (v t).toInt ∧ (v t).toInt ≤ 12) (hrs : Int32) (h0 : 0 ≤ hrs.toInt) (h12 : hrs.toInt ≤ 12) : ∀ (c N : Nat) (fo dc d h cb ch co n : Int32) (va vb vc cF : Nat → Int32) (A : Int32 × Int32 × Int32), c < N → 0 ≤ n.toInt → n.toInt + c = hrs.toInt + 1 → DR due dc d → 0 ≤ dc.toInt → dc.toInt ≤ 99999 → 0 ≤ d.toInt → d.toInt ≤ 99999 → (∀ t : Nat, t < 2 → va t = v t) → AR b k A fo vb vc → A.1.toInt + ((c * 13 ^ (r + 1) : Nat) : Int) ≤ 100000000 → ∃ (fo' : Int32) (va' vb' vc' : Nat → Int32) (dx hx cb' ch' co' : Int32) (cF' : Nat → Int32), (∀ E : Int32 → (Nat → Int32) → (Nat → Int32) → (Nat → Int32) → Int32 → Int32 → Int32 → Int32 → Int32 → (Nat → Int32) → Int32 → (Int32 × (Nat → Int32) × (Nat → Int32) × (Nat → Int32) × Int32 × Int32 × Int32 × Int32 × Int32 × (Nat → Int32)), ∃ n', fl_mX8_spread_2_81 due 0 nd fe sa nF (S 1) pF (S 9) wF fm so s1 s2 t1 t2 yj yo y1 y2 y3 y4 y5 yc (wen S 2) hrs (S (10 + 2)) E N fo va vb vc dc h cb ch co cF n = E fo' va' vb' vc' dx hx cb' ch' co' cF' n') ∧ (∀ t : Nat, t < 2 → va' t = va t) ∧ AR b k (lpS (fun n d h A => tqS S L fe sa due kf (r + 1) 3 (upd v 2 n) (crD 1 S L (S (10 + 2)) (oth S (S (10 + 2)) (wen S 2)) fe sa 0 d h) (crH S (S (10 + 2)) h) (hrs - n) A) (wtS S L fe sa (wen S 2)) c n d h A) fo' vb' vc' ∧ (lpS (fun n d h A => tqS S L fe sa due kf (r + 1) 3 (upd v 2 n) (crD 1 S L (S (10 + 2)) (oth S (S (10 + 2)) (wen S 2)) fe sa 0 d h) (crH S (S (10 + 2)) h) (hrs - n) A) (wtS S L fe sa (wen S 2)) c n d h A).1.toInt ≤ A.1.toInt + ((c * 13 ^ (r + 1) : Nat) : Int) := by
  have b9 := GD_9 g
  intro c
  induction c with
  | zero =>
    intro N fo dc d h cb ch co n va vb vc cF A hN hn0 hnc hd c0 c9 d0 d9 hva har hbd
    obtain ⟨N, rfl⟩ : ∃ m, N = m + 1 := ⟨N - 1, by omega⟩
    refine ⟨fo, va, vb, vc, dc, h, cb, ch, co, cF, fun E => ⟨n, ?_⟩, fun _ _ => rfl, har, by show A.1.toInt ≤ _; omega⟩
    show fb_mX8_spread_2_81 due 0 nd fe sa nF (S 1) pF (S 9) wF fm so s1 s2 t1 t2 yj yo y1 y2 y3 y4 y5 yc (wen S 2) hrs (S (10 + 2)) E (fl_mX8_spread_2_81 due 0 nd fe sa nF (S 1) pF (S 9) wF fm so s1 s2 t1 t2 yj yo y1 y2 y3 y4 y5 yc (wen S 2) hrs (S (10 + 2)) E N) fo va vb vc dc h cb ch co cF n = _
    unfold fb_mX8_spread_2_81
    rw [if_pos (show hrs < n by rw [Int32.lt_iff_toInt_lt]; omega)]
  | succ c ih =>
    intro N fo dc d h cb ch co n va vb vc cF A hN hn0 hnc hd c0 c9 d0 d9 hva har hbd
    obtain ⟨N, rfl⟩ : ∃ m, N = m + 1 := ⟨N - 1, by omega⟩
    have en1 : (n + 1).toInt = n.toInt + 1 := zadd1 (by omega)
    have sm : (c + 1) * 13 ^ (r + 1) = c * 13 ^ (r + 1) + 13 ^ (r + 1) := Nat.succ_mul _ _
    rw [sm] at hbd ⊢
    have hbd0 := hbd
    have hbd : A.1.toInt + ((13 ^ (r + 1) : Nat) : Int) ≤ 100000000 := by omega
    obtain ⟨r1, r2, r3, r4⟩ := way_in (k := 2) g x h8 (by omega)
    obtain ⟨q1, q2, q3, c1, qc, _⟩ := cls_cross (cF := cF) (nd := nd) (mo := 0) (fe := fe) (sa := sa) (d := dc) (h := h) hL hn hp rfl e6 r1 r3 r4
    have a1 := crD_in (nd := nd) (S := S) (L := L) (pass := S (10 + 2)) (to := (oth S (S (10 + 2)) (wen S 2))) (fe := fe) (sa := sa) (mo := 0) (h := h) c0 c9
    have a2 := crD_in (nd := 1) (S := S) (L := L) (pass := S (10 + 2)) (to := (oth S (S (10 + 2)) (wen S 2))) (fe := fe) (sa := sa) (mo := 0) (h := h) d0 d9
    have dr := DR_c (S := S) (L := L) (pass := S (10 + 2)) (to := (oth S (S (10 + 2)) (wen S 2))) (fe := fe) (sa := sa) (h := h) n1 n2 u0 hd c0 c9 d0 d9
    have es : (hrs - n).toInt = hrs.toInt - n.toInt := zsub (by omega) (by omega)
    have ha : ∀ t : Nat, t < 3 → upd va 2 n t = upd v 2 n t := by
      intro t ht
      by_cases y : t = 2
      · rw [y]
        exact pk_us.trans pk_us.symm
      · rw [upd_ne (fun w => y w.symm), upd_ne (fun w => y w.symm)]
        exact hva t (by omega)
    have hr2 : ∀ t : Nat, t < 3 → 0 ≤ (upd v 2 n t).toInt ∧ (upd v 2 n t).toInt ≤ 12 := by
      intro t ht
      by_cases y : t = 2
      · rw [y, show upd v 2 n 2 = n from pk_us]
        exact ⟨by omega, by omega⟩
      · rw [upd_ne (fun w => y w.symm)]
        exact hv t (by omega)
    obtain ⟨fo2, va2, vb2, vc2, dx2, hx2, cb2, ch2, co2, cF2, z1, z2, z3, z4⟩ := cgs_3 (fe := fe) (sa := sa) g x h8 hL hn hp hw e6 n1 n2 u0 hkf hk (r + 1) (by omega) fo (crD nd S L (S (10 + 2)) (oth S (S (10 + 2)) (wen S 2)) fe sa 0 dc h) (crD 1 S L (S (10 + 2)) (oth S (S (10 + 2)) (wen S 2)) fe sa 0 d h) (crH S (S (10 + 2)) h) q1 q2 q3 (hrs - n) (upd va 2 n) vb vc c1 (upd v 2 n) A dr a1.1 (by omega) a2.1 (by omega) (by omega) (by omega) (fun q => absurd q (by omega)) ha hr2 har hbd
    have z1b : fX8_spread_3 fo due (upd va 2 n) vb vc (crD nd S L (S (10 + 2)) (oth S (S (10 + 2)) (wen S 2)) fe sa 0 dc h) (crH S (S (10 + 2)) h) 0 nd fe sa c1 q1 q2 q3 nF (S 1) pF (S 9) wF fm so s1 s2 t1 t2 yj yo y1 y2 y3 y4 y5 yc (oth S (S (10 + 2)) (wen S 2)) (hrs - n) = (fo2, va2, vb2, vc2, dx2, hx2, cb2, ch2, co2, cF2) := z1
    obtain ⟨c3, qw⟩ := cwt (cF := cF2) (nd := nd) (fe := fe) (sa := sa) (d := dc) (h := h) hL hn e6 r2
    have ei : (2 : Int32).toNatClampNeg = 2 := by decide
    have w1 := mlt_in (W := nwd S h (wen S 2) dc fe sa) (L := L) (mo := 0) (nd := nd) c0 c9
    have w2 := wtS_in (S := S) (L := L) (fe := fe) (sa := sa) (node := wen S 2) (h := h) d0 d9
    have wr := DR_w (S := S) (L := L) (node := wen S 2) (fe := fe) (sa := sa) (h := h) n1 n2 u0 hd c0 d0 d9
    have va3 : ∀ t : Nat, t < 2 → va2 t = va t := fun t ht => (z2 t (by omega)).trans (upd_ne (by omega))
    obtain ⟨fo', va', vb', vc', dx, hx, cb', ch', co', cF', j1, j2, j3, j4⟩ := ih N fo2 (if dc < nd then dc else dc - mltw (nwd S h (wen S 2) dc fe sa) L 0 dc) (wtS S L fe sa (wen S 2) d h) (h + 1) cb2 ch2 co2 (n + 1) va2 vb2 vc2 c3 (tqS S L fe sa due kf (r + 1) 3 (upd v 2 n) (crD 1 S L (S (10 + 2)) (oth S (S (10 + 2)) (wen S 2)) fe sa 0 d h) (crH S (S (10 + 2)) h) (hrs - n) A) (by omega) (by omega) (by omega) wr w1.1 (by omega) w2.1 (by omega) (fun t ht => (va3 t ht).trans (hva t ht)) z3 (by omega)
    refine ⟨fo', va', vb', vc', dx, hx, cb', ch', co', cF', fun E => ?_, fun t ht => (j2 t ht).trans (va3 t ht), j3, Int.le_trans j4 (by omega)⟩
    obtain ⟨n', j5⟩ := j1 E
    refine ⟨n', Eq.trans ?_ j5⟩
    show fb_mX8_spread_2_81 due 0 nd fe sa nF (S 1) pF (S 9) wF fm so s1 s2 t1 t2 yj yo y1 y2 y3 y4 y5 yc (wen S 2) hrs (S (10 + 2)) E (fl_mX8_spread_2_81 due 0 nd fe sa nF (S 1) pF (S 9) wF fm so s1 s2 t1 t2 yj yo y1 y2 y3 y4 y5 yc (wen S 2) hrs (S (10 + 2)) E N) fo va vb vc dc h cb ch co cF n = _
    unfold fb_mX8_spread_2_81
    have h1 : (1 : Int32).toInt = 1 := by decide
    by_cases en : n = hrs
    · rw [if_neg (show ¬ hrs < n by rw [Int32.lt_iff_toInt_lt]; omega), if_pos en, bnd_eq, ei, bndv qc, bnd_eq, bnd_eq, bnd_eq, bnd_eq, bnd_eq, bnd_eq, bnd_eq]
      dsimp only
      rw [bndv z1b, bnd_eq, bnd_eq, bnd_eq, bnd_eq, bnd_eq, bnd_eq, bnd_eq, bnd_eq, bndv qw, bnd_eq, bnd_eq, bnd_eq, bnd_eq]
      all_goals rfl
    · rw [if_neg (show ¬ hrs < n by rw [Int32.lt_iff_toInt_lt]; omega), if_neg en, if_neg (show ¬ S 9 - 1 ≤ 2 by rw [Int32.le_iff_toInt_le, zsub (by rw [h1]; omega) (by rw [h1]; omega), h1, show (2 : Int32).toInt = 2 from by decide]; omega), bnd_eq, ei, bndv qc, bnd_eq, bnd_eq, bnd_eq, bnd_eq, bnd_eq, bnd_eq, bnd_eq]
      dsimp only
      rw [bndv z1b, bnd_eq, bnd_eq, bnd_eq, bnd_eq, bnd_eq, bnd_eq, bnd_eq, bnd_eq, bndv qw, bnd_eq, bnd_eq, bnd_eq, bnd_eq]
      all_goals rfl
set_option maxHeartbeats 400000 in
theorem cgs_2 {S nF pF wF so s1 s2 t1 t2 yj yo y1 y2 y3 y4 y5 : Nat → Int32} {fm yc due nd fe sa : Int32} {L : Cls} {kf : (Nat → Int32) → Int32} {b : Prop} {k : Nat} (g : GD S) (x : XT S) (h8 : ¬ S 8 < 0) (hL : LWX so s1 s2 t1 t2 yj yo y1 y2 y3 y4 y5 yc L) (hn : NE nF S) (hp : PE pF S) (hw : WE wF S) (e6 : fm = S 6) (n1 : 1 ≤ nd.toInt) (n2 : nd.toInt = due.toInt ∨ (due.toInt = 0 ∧ nd.toInt = 1)) (u0 : 0 ≤ due.toInt) (hkf : b → ∀ v, kf v = v k) (hk : b → (k : Int) < (S 9).toInt) (r : Nat) (hr : ((2 + r : Nat) : Int) = (S 9).toInt) (fo dc d h cb ch co hrs : Int32) (va vb vc cF v : Nat → Int32) (A : Int32 × Int32 × Int32) (hd : DR due dc d) (c0 : 0 ≤ dc.toInt) (c9 : dc.toInt ≤ 99999) (d0 : 0 ≤ d.toInt) (d9 : d.toInt ≤ 99999) (h0 : 0 ≤ hrs.toInt) (h12 : hrs.toInt ≤ 12) (hz : r = 0 → hrs = 0) (hva : ∀ t : Nat, t < 2 → va t = v t) (hv : ∀ t : Nat, t < 2 → 0 ≤ (v t).toInt ∧ (v t).toInt ≤ 12) (har : AR b k A fo vb vc) (hbd : A.1.toInt + ((13 ^ r : Nat) : Int) ≤ 100000000) : ∃ (fo' : Int32) (va' vb' vc' : Nat → Int32) (dx hx cb' ch' co' : Int32) (cF' : Nat → Int32), fX8_spread_2 fo due va vb vc dc h 0 nd fe sa cF cb ch co nF (S 1) pF (S 9) wF fm so s1 s2 t1 t2 yj yo y1 y2 y3 y4 y5 yc (wen S 2) hrs = (fo', va', vb', vc', dx, hx, cb', ch', co', cF') ∧ (∀ t : Nat, t < 2 → va' t = va t) ∧ AR b k (tqS S L fe sa due kf r 2 v d h hrs A) fo' vb' vc' ∧ (tqS S L fe sa due kf r 2 v d h hrs A).1.toInt ≤ A.1.toInt + ((13 ^ r : Nat) : Int) := by
  have b9 := GD_9 g
  have th := tn_eq h0
  have p13 : (0 : Int) ≤ ((13 ^ r : Nat) : Int) := Int.natCast_nonneg _
  unfold fX8_spread_2
  by_cases c : due ≤ dc
  · rw [if_pos c]
    rcases r with _ | r
    · have hz := hz rfl
      rw [Nat.pow_zero] at hbd ⊢
      rw [if_pos (show S 9 ≤ 2 by rw [Int32.le_iff_toInt_le, show (2 : Int32).toInt = 2 from by decide]; omega), if_pos hz]
      by_cases e : dc = due
      · have ed : d = due := by
          rcases hd with w | ⟨w1, w2⟩
          · rw [← w]; exact e
          · rw [e] at w1; omega
        obtain ⟨vb', vc', m1, m2⟩ := nt_v (fo := fo) (va := va) (vb := vb) (vc := vc) (p := S 9) b9.1 b9.2
        have q := AR_n (w := kf v) (va := va) (vb' := vb') (vc' := vc') har (by omega) (fun hb => by
          have hk2 := hk hb
          rw [hkf hb v, hva k (by omega)]
          exact ⟨rfl, hv k (by omega)⟩) (fun hb => m2 k (hk hb))
        have et : tqS S L fe sa due kf 0 2 v d h hrs A = acU A (kf v) := by
          rw [tqS_0, if_pos ed]
        rw [et, if_pos e, bndv m1, bnd_eq, bnd_eq, bnd_eq]
        exact ⟨fo + 1, va, vb', vc', dc, h, cb, ch, co, cF, rfl, fun _ _ => rfl, q.1, by rw [q.2]; omega⟩
      · have ed : ¬ d = due := by
          intro w
          rcases hd with y | ⟨y1, y2⟩
          · exact e (y.trans w)
          · rw [w] at y2; omega
        have et : tqS S L fe sa due kf 0 2 v d h hrs A = A := by
          rw [tqS_0, if_neg ed]
        rw [et, if_neg e]
        exact ⟨fo, va, vb, vc, dc, h, cb, ch, co, cF, rfl, fun _ _ => rfl, har, by omega⟩
    rcases r with _ | r
    · have cz := cgz_2 (fe := fe) (sa := sa) g x h8 hL hn hp hw e6 n1 n2 u0 hkf hk (by omega) v hv hrs h0 h12 hrs.toNatClampNeg (((hrs : Int32).toInt + 1 - (0 : Int32).toInt).toNat + 1) fo dc d h cb ch co 0 va vb vc cF A (by rw [z_i0]; omega) (by decide) (by rw [z_i0]; omega) hd c0 c9 d0 d9 hva har (by rw [Nat.pow_zero]; have : ((13 ^ (0 + 1) : Nat) : Int) = 13 := rfl; omega)
      obtain ⟨fo', va', vb', vc', dx, hx, cb', ch', co', cF', z1, z2, z3, z4⟩ := cz
      rw [if_neg (show ¬ S 9 ≤ 2 by rw [Int32.le_iff_toInt_le, show (2 : Int32).toInt = 2 from by decide]; omega), bndv (show fX6_get_6 1 wF 2 0 = S (10 + 2) from get_w hw (by decide) (by decide))]
      obtain ⟨n', j1⟩ := z1 (fun w0 w1 w2 w3 w4 w5 w6 w7 w8 w9 _ => (w0, w1, w2, w3, w4, w5, w6, w7, w8, w9))
      have e1 : tqS S L fe sa due kf (0 + 1) 2 v d h hrs A = (tqS S L fe sa due kf 0 3 (upd v 2 hrs) (crD 1 S L (S (10 + 2)) (oth S (S (10 + 2)) (wen S 2)) fe sa 0 (wtD S L fe sa (wen S 2) hrs.toNatClampNeg d h) (hrH hrs.toNatClampNeg h)) (crH S (S (10 + 2)) (hrH hrs.toNatClampNeg h)) 0 A) := tqS_1
      rw [e1]
      refine ⟨fo', va', vb', vc', dx, hx, cb', ch', co', cF', j1, z2, z3, Int.le_trans z4 ?_⟩
      have : ((13 ^ (0 + 1) : Nat) : Int) = 13 := rfl
      rw [Nat.pow_zero]
      omega
    · have e13 : 13 ^ (r + 1 + 1) = 13 * 13 ^ (r + 1) := by rw [Nat.pow_succ, Nat.mul_comm]
      have le13 : (hrs.toNatClampNeg + 1) * 13 ^ (r + 1) ≤ 13 * 13 ^ (r + 1) := Nat.mul_le_mul_right _ (by omega)
      rw [← e13] at le13
      obtain ⟨fo', va', vb', vc', dx, hx, cb', ch', co', cF', z1, z2, z3, z4⟩ := cgl_2 (fe := fe) (sa := sa) g x h8 hL hn hp hw e6 n1 n2 u0 hkf hk r (by omega) v hv hrs h0 h12 (hrs.toNatClampNeg + 1) (((hrs : Int32).toInt + 1 - (0 : Int32).toInt).toNat + 1) fo dc d h cb ch co 0 va vb vc cF A (by rw [z_i0]; omega) (by decide) (by rw [z_i0]; omega) hd c0 c9 d0 d9 hva har (by omega)
      rw [if_neg (show ¬ S 9 ≤ 2 by rw [Int32.le_iff_toInt_le, show (2 : Int32).toInt = 2 from by decide]; omega), bndv (show fX6_get_6 1 wF 2 0 = S (10 + 2) from get_w hw (by decide) (by decide))]
      obtain ⟨n', j1⟩ := z1 (fun w0 w1 w2 w3 w4 w5 w6 w7 w8 w9 _ => (w0, w1, w2, w3, w4, w5, w6, w7, w8, w9))
      have e2 : tqS S L fe sa due kf (r + 1 + 1) 2 v d h hrs A = (lpS (fun n d h A => tqS S L fe sa due kf (r + 1) 3 (upd v 2 n) (crD 1 S L (S (10 + 2)) (oth S (S (10 + 2)) (wen S 2)) fe sa 0 d h) (crH S (S (10 + 2)) h) (hrs - n) A) (wtS S L fe sa (wen S 2)) (hrs.toNatClampNeg + 1) 0 d h A) := tqS_2
      rw [e2]
      exact ⟨fo', va', vb', vc', dx, hx, cb', ch', co', cF', j1, z2, z3, Int.le_trans z4 (by omega)⟩
  · have dd : d.toInt < due.toInt := by
      rw [Int32.le_iff_toInt_le] at c
      rcases hd with w | ⟨w1, w2⟩
      · rw [← w]; omega
      · exact w2
    rw [if_neg c, tqS_lt (kf := kf) (fe := fe) (sa := sa) (L := L) (S := S) r 2 v d h hrs A d0 d9 dd]
    exact ⟨fo, va, vb, vc, dc, h, cb, ch, co, cF, rfl, fun _ _ => rfl, har, by omega⟩
set_option maxHeartbeats 400000 in
theorem cgz_1 {S nF pF wF so s1 s2 t1 t2 yj yo y1 y2 y3 y4 y5 : Nat → Int32} {fm yc due nd fe sa : Int32} {L : Cls} {kf : (Nat → Int32) → Int32} {b : Prop} {k : Nat} (g : GD S) (x : XT S) (h8 : ¬ S 8 < 0) (hL : LWX so s1 s2 t1 t2 yj yo y1 y2 y3 y4 y5 yc L) (hn : NE nF S) (hp : PE pF S) (hw : WE wF S) (e6 : fm = S 6) (n1 : 1 ≤ nd.toInt) (n2 : nd.toInt = due.toInt ∨ (due.toInt = 0 ∧ nd.toInt = 1)) (u0 : 0 ≤ due.toInt) (hkf : b → ∀ v, kf v = v k) (hk : b → (k : Int) < (S 9).toInt) (hm : ((1 + 1 : Nat) : Int) = (S 9).toInt) (v : Nat → Int32) (hv : ∀ t : Nat, t < 1 → 0 ≤ (v t).toInt ∧ (v t).toInt ≤ 12) (hrs : Int32) (h0 : 0 ≤ hrs.toInt) (h12 : hrs.toInt ≤ 12) : ∀ (c N : Nat) (fo dc d h cb ch co n : Int32) (va vb vc cF : Nat → Int32) (A : Int32 × Int32 × Int32), c + 1 < N → 0 ≤ n.toInt → n.toInt + c = hrs.toInt → DR due dc d → 0 ≤ dc.toInt → dc.toInt ≤ 99999 → 0 ≤ d.toInt → d.toInt ≤ 99999 → (∀ t : Nat, t < 1 → va t = v t) → AR b k A fo vb vc → A.1.toInt + ((13 ^ 0 : Nat) : Int) ≤ 100000000 → ∃ (fo' : Int32) (va' vb' vc' : Nat → Int32) (dx hx cb' ch' co' : Int32) (cF' : Nat → Int32), (∀ E : Int32 → (Nat → Int32) → (Nat → Int32) → (Nat → Int32) → Int32 → Int32 → Int32 → Int32 → Int32 → (Nat → Int32) → Int32 → (Int32 × (Nat → Int32) × (Nat → Int32) × (Nat → Int32) × Int32 × Int32 × Int32 × Int32 × Int32 × (Nat → Int32)), ∃ n', fl_mX8_spread_1_81 due 0 nd fe sa nF (S 1) pF (S 9) wF fm so s1 s2 t1 t2 yj yo y1 y2 y3 y4 y5 yc (wen S 1) hrs (S (10 + 1)) E N fo va vb vc dc h cb ch co cF n = E fo' va' vb' vc' dx hx cb' ch' co' cF' n') ∧ (∀ t : Nat, t < 1 → va' t = va t) ∧ AR b k (tqS S L fe sa due kf 0 2 (upd v 1 hrs) (crD 1 S L (S (10 + 1)) (oth S (S (10 + 1)) (wen S 1)) fe sa 0 (wtD S L fe sa (wen S 1) c d h) (hrH c h)) (crH S (S (10 + 1)) (hrH c h)) 0 A) fo' vb' vc' ∧ (tqS S L fe sa due kf 0 2 (upd v 1 hrs) (crD 1 S L (S (10 + 1)) (oth S (S (10 + 1)) (wen S 1)) fe sa 0 (wtD S L fe sa (wen S 1) c d h) (hrH c h)) (crH S (S (10 + 1)) (hrH c h)) 0 A).1.toInt ≤ A.1.toInt + ((13 ^ 0 : Nat) : Int) := by
  have b9 := GD_9 g
  intro c
  induction c with
  | zero =>
    intro N fo dc d h cb ch co n va vb vc cF A hN hn0 hnc hd c0 c9 d0 d9 hva har hbd
    obtain ⟨N, rfl⟩ : ∃ m, N = m + 1 + 1 := ⟨N - 2, by omega⟩
    have en : n = hrs := i32e (by omega)
    have en1 : (n + 1).toInt = n.toInt + 1 := zadd1 (by omega)
    obtain ⟨r1, r2, r3, r4⟩ := way_in (k := 1) g x h8 (by omega)
    obtain ⟨q1, q2, q3, c1, qc, _⟩ := cls_cross (cF := cF) (nd := nd) (mo := 0) (fe := fe) (sa := sa) (d := dc) (h := h) hL hn hp rfl e6 r1 r3 r4
    have a1 := crD_in (nd := nd) (S := S) (L := L) (pass := S (10 + 1)) (to := (oth S (S (10 + 1)) (wen S 1))) (fe := fe) (sa := sa) (mo := 0) (h := h) c0 c9
    have a2 := crD_in (nd := 1) (S := S) (L := L) (pass := S (10 + 1)) (to := (oth S (S (10 + 1)) (wen S 1))) (fe := fe) (sa := sa) (mo := 0) (h := h) d0 d9
    have dr := DR_c (S := S) (L := L) (pass := S (10 + 1)) (to := (oth S (S (10 + 1)) (wen S 1))) (fe := fe) (sa := sa) (h := h) n1 n2 u0 hd c0 c9 d0 d9
    have es : (hrs - n).toInt = hrs.toInt - n.toInt := zsub (by omega) (by omega)
    have ha : ∀ t : Nat, t < 2 → upd va 1 n t = upd v 1 n t := by
      intro t ht
      by_cases y : t = 1
      · rw [y]
        exact pk_us.trans pk_us.symm
      · rw [upd_ne (fun w => y w.symm), upd_ne (fun w => y w.symm)]
        exact hva t (by omega)
    have hr2 : ∀ t : Nat, t < 2 → 0 ≤ (upd v 1 n t).toInt ∧ (upd v 1 n t).toInt ≤ 12 := by
      intro t ht
      by_cases y : t = 1
      · rw [y, show upd v 1 n 1 = n from pk_us]
        exact ⟨by omega, by omega⟩
      · rw [upd_ne (fun w => y w.symm)]
        exact hv t (by omega)
    obtain ⟨fo2, va2, vb2, vc2, dx2, hx2, cb2, ch2, co2, cF2, z1, z2, z3, z4⟩ := cgs_2 (fe := fe) (sa := sa) g x h8 hL hn hp hw e6 n1 n2 u0 hkf hk 0 (by omega) fo (crD nd S L (S (10 + 1)) (oth S (S (10 + 1)) (wen S 1)) fe sa 0 dc h) (crD 1 S L (S (10 + 1)) (oth S (S (10 + 1)) (wen S 1)) fe sa 0 d h) (crH S (S (10 + 1)) h) q1 q2 q3 (hrs - n) (upd va 1 n) vb vc c1 (upd v 1 n) A dr a1.1 (by omega) a2.1 (by omega) (by omega) (by omega) (fun _ => i32e (by rw [es, z_i0]; omega)) ha hr2 har hbd
    have z1b : fX8_spread_2 fo due (upd va 1 n) vb vc (crD nd S L (S (10 + 1)) (oth S (S (10 + 1)) (wen S 1)) fe sa 0 dc h) (crH S (S (10 + 1)) h) 0 nd fe sa c1 q1 q2 q3 nF (S 1) pF (S 9) wF fm so s1 s2 t1 t2 yj yo y1 y2 y3 y4 y5 yc (oth S (S (10 + 1)) (wen S 1)) (hrs - n) = (fo2, va2, vb2, vc2, dx2, hx2, cb2, ch2, co2, cF2) := z1
    obtain ⟨c3, qw⟩ := cwt (cF := cF2) (nd := nd) (fe := fe) (sa := sa) (d := dc) (h := h) hL hn e6 r2
    have ei : (1 : Int32).toNatClampNeg = 1 := by decide
    have ez : hrs - n = 0 := i32e (by rw [es, z_i0]; omega)
    rw [ez] at z3 z4
    refine ⟨fo2, va2, vb2, vc2, (if dc < nd then dc else dc - mltw (nwd S h (wen S 1) dc fe sa) L 0 dc), h + 1, cb2, ch2, co2, c3, fun E => ⟨n + 1, ?_⟩, fun t ht => ?_, by rw [en] at z3; exact z3, by rw [en] at z4; exact z4⟩
    · show fb_mX8_spread_1_81 due 0 nd fe sa nF (S 1) pF (S 9) wF fm so s1 s2 t1 t2 yj yo y1 y2 y3 y4 y5 yc (wen S 1) hrs (S (10 + 1)) E (fl_mX8_spread_1_81 due 0 nd fe sa nF (S 1) pF (S 9) wF fm so s1 s2 t1 t2 yj yo y1 y2 y3 y4 y5 yc (wen S 1) hrs (S (10 + 1)) E (N + 1)) fo va vb vc dc h cb ch co cF n = _
      unfold fb_mX8_spread_1_81
      rw [if_neg (show ¬ hrs < n by rw [Int32.lt_iff_toInt_lt]; omega), if_pos en, bnd_eq, ei, bndv qc, bnd_eq, bnd_eq, bnd_eq, bnd_eq, bnd_eq, bnd_eq, bnd_eq]
      dsimp only
      rw [bndv z1b, bnd_eq, bnd_eq, bnd_eq, bnd_eq, bnd_eq, bnd_eq, bnd_eq, bnd_eq, bndv qw, bnd_eq, bnd_eq, bnd_eq, bnd_eq]
      show fb_mX8_spread_1_81 due 0 nd fe sa nF (S 1) pF (S 9) wF fm so s1 s2 t1 t2 yj yo y1 y2 y3 y4 y5 yc (wen S 1) hrs (S (10 + 1)) E (fl_mX8_spread_1_81 due 0 nd fe sa nF (S 1) pF (S 9) wF fm so s1 s2 t1 t2 yj yo y1 y2 y3 y4 y5 yc (wen S 1) hrs (S (10 + 1)) E N) fo2 va2 vb2 vc2 (if dc < nd then dc else dc - mltw (nwd S h (wen S 1) dc fe sa) L 0 dc) (h + 1) cb2 ch2 co2 c3 (n + 1) = _
      unfold fb_mX8_spread_1_81
      rw [if_pos (show hrs < n + 1 by rw [Int32.lt_iff_toInt_lt]; omega)]
    · rw [z2 t (by omega)]
      exact upd_ne (by omega)
  | succ c ih =>
    intro N fo dc d h cb ch co n va vb vc cF A hN hn0 hnc hd c0 c9 d0 d9 hva har hbd
    obtain ⟨N, rfl⟩ : ∃ m, N = m + 1 := ⟨N - 1, by omega⟩
    have en1 : (n + 1).toInt = n.toInt + 1 := zadd1 (by omega)
    obtain ⟨r1, r2, r3, r4⟩ := way_in (k := 1) g x h8 (by omega)
    obtain ⟨c3, qw⟩ := cwt (cF := cF) (nd := nd) (fe := fe) (sa := sa) (d := dc) (h := h) hL hn e6 r2
    have w1 := mlt_in (W := nwd S h (wen S 1) dc fe sa) (L := L) (mo := 0) (nd := nd) c0 c9
    have w2 := wtS_in (S := S) (L := L) (fe := fe) (sa := sa) (node := wen S 1) (h := h) d0 d9
    have wr := DR_w (S := S) (L := L) (node := wen S 1) (fe := fe) (sa := sa) (h := h) n1 n2 u0 hd c0 d0 d9
    obtain ⟨fo', va', vb', vc', dx, hx, cb', ch', co', cF', z1, z2, z3, z4⟩ := ih N fo (if dc < nd then dc else dc - mltw (nwd S h (wen S 1) dc fe sa) L 0 dc) (wtS S L fe sa (wen S 1) d h) (h + 1) cb ch co (n + 1) va vb vc c3 A (by omega) (by omega) (by omega) wr w1.1 (by omega) w2.1 (by omega) hva har hbd
    refine ⟨fo', va', vb', vc', dx, hx, cb', ch', co', cF', fun E => ?_, z2, z3, z4⟩
    obtain ⟨n', j1⟩ := z1 E
    refine ⟨n', Eq.trans ?_ j1⟩
    show fb_mX8_spread_1_81 due 0 nd fe sa nF (S 1) pF (S 9) wF fm so s1 s2 t1 t2 yj yo y1 y2 y3 y4 y5 yc (wen S 1) hrs (S (10 + 1)) E (fl_mX8_spread_1_81 due 0 nd fe sa nF (S 1) pF (S 9) wF fm so s1 s2 t1 t2 yj yo y1 y2 y3 y4 y5 yc (wen S 1) hrs (S (10 + 1)) E N) fo va vb vc dc h cb ch co cF n = _
    unfold fb_mX8_spread_1_81
    have h1 : (1 : Int32).toInt = 1 := by decide
    rw [if_neg (show ¬ hrs < n by rw [Int32.lt_iff_toInt_lt]; omega), if_neg (fun w : n = hrs => by rw [w] at hnc; omega), if_pos (show S 9 - 1 ≤ 1 by rw [Int32.le_iff_toInt_le, zsub (by rw [h1]; omega) (by rw [h1]; omega), h1]; omega), bndv qw, bnd_eq, bnd_eq, bnd_eq, bnd_eq]
    all_goals rfl
set_option maxHeartbeats 400000 in
theorem cgl_1 {S nF pF wF so s1 s2 t1 t2 yj yo y1 y2 y3 y4 y5 : Nat → Int32} {fm yc due nd fe sa : Int32} {L : Cls} {kf : (Nat → Int32) → Int32} {b : Prop} {k : Nat} (g : GD S) (x : XT S) (h8 : ¬ S 8 < 0) (hL : LWX so s1 s2 t1 t2 yj yo y1 y2 y3 y4 y5 yc L) (hn : NE nF S) (hp : PE pF S) (hw : WE wF S) (e6 : fm = S 6) (n1 : 1 ≤ nd.toInt) (n2 : nd.toInt = due.toInt ∨ (due.toInt = 0 ∧ nd.toInt = 1)) (u0 : 0 ≤ due.toInt) (hkf : b → ∀ v, kf v = v k) (hk : b → (k : Int) < (S 9).toInt) (r : Nat) (hm : ((1 + (r + 1 + 1) : Nat) : Int) = (S 9).toInt) (v : Nat → Int32) (hv : ∀ t : Nat, t < 1 → 0 ≤ (v t).toInt ∧ (v t).toInt ≤ 12) (hrs : Int32) (h0 : 0 ≤ hrs.toInt) (h12 : hrs.toInt ≤ 12) : ∀ (c N : Nat) (fo dc d h cb ch co n : Int32) (va vb vc cF : Nat → Int32) (A : Int32 × Int32 × Int32), c < N → 0 ≤ n.toInt → n.toInt + c = hrs.toInt + 1 → DR due dc d → 0 ≤ dc.toInt → dc.toInt ≤ 99999 → 0 ≤ d.toInt → d.toInt ≤ 99999 → (∀ t : Nat, t < 1 → va t = v t) → AR b k A fo vb vc → A.1.toInt + ((c * 13 ^ (r + 1) : Nat) : Int) ≤ 100000000 → ∃ (fo' : Int32) (va' vb' vc' : Nat → Int32) (dx hx cb' ch' co' : Int32) (cF' : Nat → Int32), (∀ E : Int32 → (Nat → Int32) → (Nat → Int32) → (Nat → Int32) → Int32 → Int32 → Int32 → Int32 → Int32 → (Nat → Int32) → Int32 → (Int32 × (Nat → Int32) × (Nat → Int32) × (Nat → Int32) × Int32 × Int32 × Int32 × Int32 × Int32 × (Nat → Int32)), ∃ n', fl_mX8_spread_1_81 due 0 nd fe sa nF (S 1) pF (S 9) wF fm so s1 s2 t1 t2 yj yo y1 y2 y3 y4 y5 yc (wen S 1) hrs (S (10 + 1)) E N fo va vb vc dc h cb ch co cF n = E fo' va' vb' vc' dx hx cb' ch' co' cF' n') ∧ (∀ t : Nat, t < 1 → va' t = va t) ∧ AR b k (lpS (fun n d h A => tqS S L fe sa due kf (r + 1) 2 (upd v 1 n) (crD 1 S L (S (10 + 1)) (oth S (S (10 + 1)) (wen S 1)) fe sa 0 d h) (crH S (S (10 + 1)) h) (hrs - n) A) (wtS S L fe sa (wen S 1)) c n d h A) fo' vb' vc' ∧ (lpS (fun n d h A => tqS S L fe sa due kf (r + 1) 2 (upd v 1 n) (crD 1 S L (S (10 + 1)) (oth S (S (10 + 1)) (wen S 1)) fe sa 0 d h) (crH S (S (10 + 1)) h) (hrs - n) A) (wtS S L fe sa (wen S 1)) c n d h A).1.toInt ≤ A.1.toInt + ((c * 13 ^ (r + 1) : Nat) : Int) := by
  have b9 := GD_9 g
  intro c
  induction c with
  | zero =>
    intro N fo dc d h cb ch co n va vb vc cF A hN hn0 hnc hd c0 c9 d0 d9 hva har hbd
    obtain ⟨N, rfl⟩ : ∃ m, N = m + 1 := ⟨N - 1, by omega⟩
    refine ⟨fo, va, vb, vc, dc, h, cb, ch, co, cF, fun E => ⟨n, ?_⟩, fun _ _ => rfl, har, by show A.1.toInt ≤ _; omega⟩
    show fb_mX8_spread_1_81 due 0 nd fe sa nF (S 1) pF (S 9) wF fm so s1 s2 t1 t2 yj yo y1 y2 y3 y4 y5 yc (wen S 1) hrs (S (10 + 1)) E (fl_mX8_spread_1_81 due 0 nd fe sa nF (S 1) pF (S 9) wF fm so s1 s2 t1 t2 yj yo y1 y2 y3 y4 y5 yc (wen S 1) hrs (S (10 + 1)) E N) fo va vb vc dc h cb ch co cF n = _
    unfold fb_mX8_spread_1_81
    rw [if_pos (show hrs < n by rw [Int32.lt_iff_toInt_lt]; omega)]
  | succ c ih =>
    intro N fo dc d h cb ch co n va vb vc cF A hN hn0 hnc hd c0 c9 d0 d9 hva har hbd
    obtain ⟨N, rfl⟩ : ∃ m, N = m + 1 := ⟨N - 1, by omega⟩
    have en1 : (n + 1).toInt = n.toInt + 1 := zadd1 (by omega)
    have sm : (c + 1) * 13 ^ (r + 1) = c * 13 ^ (r + 1) + 13 ^ (r + 1) := Nat.succ_mul _ _
    rw [sm] at hbd ⊢
    have hbd0 := hbd
    have hbd : A.1.toInt + ((13 ^ (r + 1) : Nat) : Int) ≤ 100000000 := by omega
    obtain ⟨r1, r2, r3, r4⟩ := way_in (k := 1) g x h8 (by omega)
    obtain ⟨q1, q2, q3, c1, qc, _⟩ := cls_cross (cF := cF) (nd := nd) (mo := 0) (fe := fe) (sa := sa) (d := dc) (h := h) hL hn hp rfl e6 r1 r3 r4
    have a1 := crD_in (nd := nd) (S := S) (L := L) (pass := S (10 + 1)) (to := (oth S (S (10 + 1)) (wen S 1))) (fe := fe) (sa := sa) (mo := 0) (h := h) c0 c9
    have a2 := crD_in (nd := 1) (S := S) (L := L) (pass := S (10 + 1)) (to := (oth S (S (10 + 1)) (wen S 1))) (fe := fe) (sa := sa) (mo := 0) (h := h) d0 d9
    have dr := DR_c (S := S) (L := L) (pass := S (10 + 1)) (to := (oth S (S (10 + 1)) (wen S 1))) (fe := fe) (sa := sa) (h := h) n1 n2 u0 hd c0 c9 d0 d9
    have es : (hrs - n).toInt = hrs.toInt - n.toInt := zsub (by omega) (by omega)
    have ha : ∀ t : Nat, t < 2 → upd va 1 n t = upd v 1 n t := by
      intro t ht
      by_cases y : t = 1
      · rw [y]
        exact pk_us.trans pk_us.symm
      · rw [upd_ne (fun w => y w.symm), upd_ne (fun w => y w.symm)]
        exact hva t (by omega)
    have hr2 : ∀ t : Nat, t < 2 → 0 ≤ (upd v 1 n t).toInt ∧ (upd v 1 n t).toInt ≤ 12 := by
      intro t ht
      by_cases y : t = 1
      · rw [y, show upd v 1 n 1 = n from pk_us]
        exact ⟨by omega, by omega⟩
      · rw [upd_ne (fun w => y w.symm)]
        exact hv t (by omega)
    obtain ⟨fo2, va2, vb2, vc2, dx2, hx2, cb2, ch2, co2, cF2, z1, z2, z3, z4⟩ := cgs_2 (fe := fe) (sa := sa) g x h8 hL hn hp hw e6 n1 n2 u0 hkf hk (r + 1) (by omega) fo (crD nd S L (S (10 + 1)) (oth S (S (10 + 1)) (wen S 1)) fe sa 0 dc h) (crD 1 S L (S (10 + 1)) (oth S (S (10 + 1)) (wen S 1)) fe sa 0 d h) (crH S (S (10 + 1)) h) q1 q2 q3 (hrs - n) (upd va 1 n) vb vc c1 (upd v 1 n) A dr a1.1 (by omega) a2.1 (by omega) (by omega) (by omega) (fun q => absurd q (by omega)) ha hr2 har hbd
    have z1b : fX8_spread_2 fo due (upd va 1 n) vb vc (crD nd S L (S (10 + 1)) (oth S (S (10 + 1)) (wen S 1)) fe sa 0 dc h) (crH S (S (10 + 1)) h) 0 nd fe sa c1 q1 q2 q3 nF (S 1) pF (S 9) wF fm so s1 s2 t1 t2 yj yo y1 y2 y3 y4 y5 yc (oth S (S (10 + 1)) (wen S 1)) (hrs - n) = (fo2, va2, vb2, vc2, dx2, hx2, cb2, ch2, co2, cF2) := z1
    obtain ⟨c3, qw⟩ := cwt (cF := cF2) (nd := nd) (fe := fe) (sa := sa) (d := dc) (h := h) hL hn e6 r2
    have ei : (1 : Int32).toNatClampNeg = 1 := by decide
    have w1 := mlt_in (W := nwd S h (wen S 1) dc fe sa) (L := L) (mo := 0) (nd := nd) c0 c9
    have w2 := wtS_in (S := S) (L := L) (fe := fe) (sa := sa) (node := wen S 1) (h := h) d0 d9
    have wr := DR_w (S := S) (L := L) (node := wen S 1) (fe := fe) (sa := sa) (h := h) n1 n2 u0 hd c0 d0 d9
    have va3 : ∀ t : Nat, t < 1 → va2 t = va t := fun t ht => (z2 t (by omega)).trans (upd_ne (by omega))
    obtain ⟨fo', va', vb', vc', dx, hx, cb', ch', co', cF', j1, j2, j3, j4⟩ := ih N fo2 (if dc < nd then dc else dc - mltw (nwd S h (wen S 1) dc fe sa) L 0 dc) (wtS S L fe sa (wen S 1) d h) (h + 1) cb2 ch2 co2 (n + 1) va2 vb2 vc2 c3 (tqS S L fe sa due kf (r + 1) 2 (upd v 1 n) (crD 1 S L (S (10 + 1)) (oth S (S (10 + 1)) (wen S 1)) fe sa 0 d h) (crH S (S (10 + 1)) h) (hrs - n) A) (by omega) (by omega) (by omega) wr w1.1 (by omega) w2.1 (by omega) (fun t ht => (va3 t ht).trans (hva t ht)) z3 (by omega)
    refine ⟨fo', va', vb', vc', dx, hx, cb', ch', co', cF', fun E => ?_, fun t ht => (j2 t ht).trans (va3 t ht), j3, Int.le_trans j4 (by omega)⟩
    obtain ⟨n', j5⟩ := j1 E
    refine ⟨n', Eq.trans ?_ j5⟩
    show fb_mX8_spread_1_81 due 0 nd fe sa nF (S 1) pF (S 9) wF fm so s1 s2 t1 t2 yj yo y1 y2 y3 y4 y5 yc (wen S 1) hrs (S (10 + 1)) E (fl_mX8_spread_1_81 due 0 nd fe sa nF (S 1) pF (S 9) wF fm so s1 s2 t1 t2 yj yo y1 y2 y3 y4 y5 yc (wen S 1) hrs (S (10 + 1)) E N) fo va vb vc dc h cb ch co cF n = _
    unfold fb_mX8_spread_1_81
    have h1 : (1 : Int32).toInt = 1 := by decide
    by_cases en : n = hrs
    · rw [if_neg (show ¬ hrs < n by rw [Int32.lt_iff_toInt_lt]; omega), if_pos en, bnd_eq, ei, bndv qc, bnd_eq, bnd_eq, bnd_eq, bnd_eq, bnd_eq, bnd_eq, bnd_eq]
      dsimp only
      rw [bndv z1b, bnd_eq, bnd_eq, bnd_eq, bnd_eq, bnd_eq, bnd_eq, bnd_eq, bnd_eq, bndv qw, bnd_eq, bnd_eq, bnd_eq, bnd_eq]
      all_goals rfl
    · rw [if_neg (show ¬ hrs < n by rw [Int32.lt_iff_toInt_lt]; omega), if_neg en, if_neg (show ¬ S 9 - 1 ≤ 1 by rw [Int32.le_iff_toInt_le, zsub (by rw [h1]; omega) (by rw [h1]; omega), h1]; omega), bnd_eq, ei, bndv qc, bnd_eq, bnd_eq, bnd_eq, bnd_eq, bnd_eq, bnd_eq, bnd_eq]
      dsimp only
      rw [bndv z1b, bnd_eq, bnd_eq, bnd_eq, bnd_eq, bnd_eq, bnd_eq, bnd_eq, bnd_eq, bndv qw, bnd_eq, bnd_eq, bnd_eq, bnd_eq]
      all_goals rfl
set_option maxHeartbeats 400000 in
theorem cgs_1 {S nF pF wF so s1 s2 t1 t2 yj yo y1 y2 y3 y4 y5 : Nat → Int32} {fm yc due nd fe sa : Int32} {L : Cls} {kf : (Nat → Int32) → Int32} {b : Prop} {k : Nat} (g : GD S) (x : XT S) (h8 : ¬ S 8 < 0) (hL : LWX so s1 s2 t1 t2 yj yo y1 y2 y3 y4 y5 yc L) (hn : NE nF S) (hp : PE pF S) (hw : WE wF S) (e6 : fm = S 6) (n1 : 1 ≤ nd.toInt) (n2 : nd.toInt = due.toInt ∨ (due.toInt = 0 ∧ nd.toInt = 1)) (u0 : 0 ≤ due.toInt) (hkf : b → ∀ v, kf v = v k) (hk : b → (k : Int) < (S 9).toInt) (r : Nat) (hr : ((1 + r : Nat) : Int) = (S 9).toInt) (fo dc d h cb ch co hrs : Int32) (va vb vc cF v : Nat → Int32) (A : Int32 × Int32 × Int32) (hd : DR due dc d) (c0 : 0 ≤ dc.toInt) (c9 : dc.toInt ≤ 99999) (d0 : 0 ≤ d.toInt) (d9 : d.toInt ≤ 99999) (h0 : 0 ≤ hrs.toInt) (h12 : hrs.toInt ≤ 12) (hz : r = 0 → hrs = 0) (hva : ∀ t : Nat, t < 1 → va t = v t) (hv : ∀ t : Nat, t < 1 → 0 ≤ (v t).toInt ∧ (v t).toInt ≤ 12) (har : AR b k A fo vb vc) (hbd : A.1.toInt + ((13 ^ r : Nat) : Int) ≤ 100000000) : ∃ (fo' : Int32) (va' vb' vc' : Nat → Int32) (dx hx cb' ch' co' : Int32) (cF' : Nat → Int32), fX8_spread_1 fo due va vb vc dc h 0 nd fe sa cF cb ch co nF (S 1) pF (S 9) wF fm so s1 s2 t1 t2 yj yo y1 y2 y3 y4 y5 yc (wen S 1) hrs = (fo', va', vb', vc', dx, hx, cb', ch', co', cF') ∧ (∀ t : Nat, t < 1 → va' t = va t) ∧ AR b k (tqS S L fe sa due kf r 1 v d h hrs A) fo' vb' vc' ∧ (tqS S L fe sa due kf r 1 v d h hrs A).1.toInt ≤ A.1.toInt + ((13 ^ r : Nat) : Int) := by
  have b9 := GD_9 g
  have th := tn_eq h0
  have p13 : (0 : Int) ≤ ((13 ^ r : Nat) : Int) := Int.natCast_nonneg _
  unfold fX8_spread_1
  by_cases c : due ≤ dc
  · rw [if_pos c]
    rcases r with _ | r
    · have hz := hz rfl
      rw [Nat.pow_zero] at hbd ⊢
      rw [if_pos (show S 9 ≤ 1 by rw [Int32.le_iff_toInt_le, show (1 : Int32).toInt = 1 from by decide]; omega), if_pos hz]
      by_cases e : dc = due
      · have ed : d = due := by
          rcases hd with w | ⟨w1, w2⟩
          · rw [← w]; exact e
          · rw [e] at w1; omega
        obtain ⟨vb', vc', m1, m2⟩ := nt_v (fo := fo) (va := va) (vb := vb) (vc := vc) (p := S 9) b9.1 b9.2
        have q := AR_n (w := kf v) (va := va) (vb' := vb') (vc' := vc') har (by omega) (fun hb => by
          have hk2 := hk hb
          rw [hkf hb v, hva k (by omega)]
          exact ⟨rfl, hv k (by omega)⟩) (fun hb => m2 k (hk hb))
        have et : tqS S L fe sa due kf 0 1 v d h hrs A = acU A (kf v) := by
          rw [tqS_0, if_pos ed]
        rw [et, if_pos e, bndv m1, bnd_eq, bnd_eq, bnd_eq]
        exact ⟨fo + 1, va, vb', vc', dc, h, cb, ch, co, cF, rfl, fun _ _ => rfl, q.1, by rw [q.2]; omega⟩
      · have ed : ¬ d = due := by
          intro w
          rcases hd with y | ⟨y1, y2⟩
          · exact e (y.trans w)
          · rw [w] at y2; omega
        have et : tqS S L fe sa due kf 0 1 v d h hrs A = A := by
          rw [tqS_0, if_neg ed]
        rw [et, if_neg e]
        exact ⟨fo, va, vb, vc, dc, h, cb, ch, co, cF, rfl, fun _ _ => rfl, har, by omega⟩
    rcases r with _ | r
    · have cz := cgz_1 (fe := fe) (sa := sa) g x h8 hL hn hp hw e6 n1 n2 u0 hkf hk (by omega) v hv hrs h0 h12 hrs.toNatClampNeg (((hrs : Int32).toInt + 1 - (0 : Int32).toInt).toNat + 1) fo dc d h cb ch co 0 va vb vc cF A (by rw [z_i0]; omega) (by decide) (by rw [z_i0]; omega) hd c0 c9 d0 d9 hva har (by rw [Nat.pow_zero]; have : ((13 ^ (0 + 1) : Nat) : Int) = 13 := rfl; omega)
      obtain ⟨fo', va', vb', vc', dx, hx, cb', ch', co', cF', z1, z2, z3, z4⟩ := cz
      rw [if_neg (show ¬ S 9 ≤ 1 by rw [Int32.le_iff_toInt_le, show (1 : Int32).toInt = 1 from by decide]; omega), bndv (show fX6_get_6 1 wF 1 0 = S (10 + 1) from get_w hw (by decide) (by decide))]
      obtain ⟨n', j1⟩ := z1 (fun w0 w1 w2 w3 w4 w5 w6 w7 w8 w9 _ => (w0, w1, w2, w3, w4, w5, w6, w7, w8, w9))
      have e1 : tqS S L fe sa due kf (0 + 1) 1 v d h hrs A = (tqS S L fe sa due kf 0 2 (upd v 1 hrs) (crD 1 S L (S (10 + 1)) (oth S (S (10 + 1)) (wen S 1)) fe sa 0 (wtD S L fe sa (wen S 1) hrs.toNatClampNeg d h) (hrH hrs.toNatClampNeg h)) (crH S (S (10 + 1)) (hrH hrs.toNatClampNeg h)) 0 A) := tqS_1
      rw [e1]
      refine ⟨fo', va', vb', vc', dx, hx, cb', ch', co', cF', j1, z2, z3, Int.le_trans z4 ?_⟩
      have : ((13 ^ (0 + 1) : Nat) : Int) = 13 := rfl
      rw [Nat.pow_zero]
      omega
    · have e13 : 13 ^ (r + 1 + 1) = 13 * 13 ^ (r + 1) := by rw [Nat.pow_succ, Nat.mul_comm]
      have le13 : (hrs.toNatClampNeg + 1) * 13 ^ (r + 1) ≤ 13 * 13 ^ (r + 1) := Nat.mul_le_mul_right _ (by omega)
      rw [← e13] at le13
      obtain ⟨fo', va', vb', vc', dx, hx, cb', ch', co', cF', z1, z2, z3, z4⟩ := cgl_1 (fe := fe) (sa := sa) g x h8 hL hn hp hw e6 n1 n2 u0 hkf hk r (by omega) v hv hrs h0 h12 (hrs.toNatClampNeg + 1) (((hrs : Int32).toInt + 1 - (0 : Int32).toInt).toNat + 1) fo dc d h cb ch co 0 va vb vc cF A (by rw [z_i0]; omega) (by decide) (by rw [z_i0]; omega) hd c0 c9 d0 d9 hva har (by omega)
      rw [if_neg (show ¬ S 9 ≤ 1 by rw [Int32.le_iff_toInt_le, show (1 : Int32).toInt = 1 from by decide]; omega), bndv (show fX6_get_6 1 wF 1 0 = S (10 + 1) from get_w hw (by decide) (by decide))]
      obtain ⟨n', j1⟩ := z1 (fun w0 w1 w2 w3 w4 w5 w6 w7 w8 w9 _ => (w0, w1, w2, w3, w4, w5, w6, w7, w8, w9))
      have e2 : tqS S L fe sa due kf (r + 1 + 1) 1 v d h hrs A = (lpS (fun n d h A => tqS S L fe sa due kf (r + 1) 2 (upd v 1 n) (crD 1 S L (S (10 + 1)) (oth S (S (10 + 1)) (wen S 1)) fe sa 0 d h) (crH S (S (10 + 1)) h) (hrs - n) A) (wtS S L fe sa (wen S 1)) (hrs.toNatClampNeg + 1) 0 d h A) := tqS_2
      rw [e2]
      exact ⟨fo', va', vb', vc', dx, hx, cb', ch', co', cF', j1, z2, z3, Int.le_trans z4 (by omega)⟩
  · have dd : d.toInt < due.toInt := by
      rw [Int32.le_iff_toInt_le] at c
      rcases hd with w | ⟨w1, w2⟩
      · rw [← w]; omega
      · exact w2
    rw [if_neg c, tqS_lt (kf := kf) (fe := fe) (sa := sa) (L := L) (S := S) r 1 v d h hrs A d0 d9 dd]
    exact ⟨fo, va, vb, vc, dc, h, cb, ch, co, cF, rfl, fun _ _ => rfl, har, by omega⟩
set_option maxHeartbeats 400000 in
theorem cgz_0 {S nF pF wF so s1 s2 t1 t2 yj yo y1 y2 y3 y4 y5 : Nat → Int32} {fm yc due nd fe sa : Int32} {L : Cls} {kf : (Nat → Int32) → Int32} {b : Prop} {k : Nat} (g : GD S) (x : XT S) (h8 : ¬ S 8 < 0) (hL : LWX so s1 s2 t1 t2 yj yo y1 y2 y3 y4 y5 yc L) (hn : NE nF S) (hp : PE pF S) (hw : WE wF S) (e6 : fm = S 6) (n1 : 1 ≤ nd.toInt) (n2 : nd.toInt = due.toInt ∨ (due.toInt = 0 ∧ nd.toInt = 1)) (u0 : 0 ≤ due.toInt) (hkf : b → ∀ v, kf v = v k) (hk : b → (k : Int) < (S 9).toInt) (hm : ((0 + 1 : Nat) : Int) = (S 9).toInt) (v : Nat → Int32) (hv : ∀ t : Nat, t < 0 → 0 ≤ (v t).toInt ∧ (v t).toInt ≤ 12) (hrs : Int32) (h0 : 0 ≤ hrs.toInt) (h12 : hrs.toInt ≤ 12) : ∀ (c N : Nat) (fo dc d h cb ch co n : Int32) (va vb vc cF : Nat → Int32) (A : Int32 × Int32 × Int32), c + 1 < N → 0 ≤ n.toInt → n.toInt + c = hrs.toInt → DR due dc d → 0 ≤ dc.toInt → dc.toInt ≤ 99999 → 0 ≤ d.toInt → d.toInt ≤ 99999 → (∀ t : Nat, t < 0 → va t = v t) → AR b k A fo vb vc → A.1.toInt + ((13 ^ 0 : Nat) : Int) ≤ 100000000 → ∃ (fo' : Int32) (va' vb' vc' : Nat → Int32) (dx hx cb' ch' co' : Int32) (cF' : Nat → Int32), (∀ E : Int32 → (Nat → Int32) → (Nat → Int32) → (Nat → Int32) → Int32 → Int32 → Int32 → Int32 → Int32 → (Nat → Int32) → Int32 → (Int32 × (Nat → Int32) × (Nat → Int32) × (Nat → Int32) × Int32 × Int32 × Int32 × Int32 × Int32 × (Nat → Int32)), ∃ n', fl_mX8_spread_0_81 due 0 nd fe sa nF (S 1) pF (S 9) wF fm so s1 s2 t1 t2 yj yo y1 y2 y3 y4 y5 yc (wen S 0) hrs (S (10 + 0)) E N fo va vb vc dc h cb ch co cF n = E fo' va' vb' vc' dx hx cb' ch' co' cF' n') ∧ (∀ t : Nat, t < 0 → va' t = va t) ∧ AR b k (tqS S L fe sa due kf 0 1 (upd v 0 hrs) (crD 1 S L (S (10 + 0)) (oth S (S (10 + 0)) (wen S 0)) fe sa 0 (wtD S L fe sa (wen S 0) c d h) (hrH c h)) (crH S (S (10 + 0)) (hrH c h)) 0 A) fo' vb' vc' ∧ (tqS S L fe sa due kf 0 1 (upd v 0 hrs) (crD 1 S L (S (10 + 0)) (oth S (S (10 + 0)) (wen S 0)) fe sa 0 (wtD S L fe sa (wen S 0) c d h) (hrH c h)) (crH S (S (10 + 0)) (hrH c h)) 0 A).1.toInt ≤ A.1.toInt + ((13 ^ 0 : Nat) : Int) := by
  have b9 := GD_9 g
  intro c
  induction c with
  | zero =>
    intro N fo dc d h cb ch co n va vb vc cF A hN hn0 hnc hd c0 c9 d0 d9 hva har hbd
    obtain ⟨N, rfl⟩ : ∃ m, N = m + 1 + 1 := ⟨N - 2, by omega⟩
    have en : n = hrs := i32e (by omega)
    have en1 : (n + 1).toInt = n.toInt + 1 := zadd1 (by omega)
    obtain ⟨r1, r2, r3, r4⟩ := way_in (k := 0) g x h8 (by omega)
    obtain ⟨q1, q2, q3, c1, qc, _⟩ := cls_cross (cF := cF) (nd := nd) (mo := 0) (fe := fe) (sa := sa) (d := dc) (h := h) hL hn hp rfl e6 r1 r3 r4
    have a1 := crD_in (nd := nd) (S := S) (L := L) (pass := S (10 + 0)) (to := (oth S (S (10 + 0)) (wen S 0))) (fe := fe) (sa := sa) (mo := 0) (h := h) c0 c9
    have a2 := crD_in (nd := 1) (S := S) (L := L) (pass := S (10 + 0)) (to := (oth S (S (10 + 0)) (wen S 0))) (fe := fe) (sa := sa) (mo := 0) (h := h) d0 d9
    have dr := DR_c (S := S) (L := L) (pass := S (10 + 0)) (to := (oth S (S (10 + 0)) (wen S 0))) (fe := fe) (sa := sa) (h := h) n1 n2 u0 hd c0 c9 d0 d9
    have es : (hrs - n).toInt = hrs.toInt - n.toInt := zsub (by omega) (by omega)
    have ha : ∀ t : Nat, t < 1 → upd va 0 n t = upd v 0 n t := by
      intro t ht
      by_cases y : t = 0
      · rw [y]
        exact pk_us.trans pk_us.symm
      · rw [upd_ne (fun w => y w.symm), upd_ne (fun w => y w.symm)]
        exact hva t (by omega)
    have hr2 : ∀ t : Nat, t < 1 → 0 ≤ (upd v 0 n t).toInt ∧ (upd v 0 n t).toInt ≤ 12 := by
      intro t ht
      by_cases y : t = 0
      · rw [y, show upd v 0 n 0 = n from pk_us]
        exact ⟨by omega, by omega⟩
      · rw [upd_ne (fun w => y w.symm)]
        exact hv t (by omega)
    obtain ⟨fo2, va2, vb2, vc2, dx2, hx2, cb2, ch2, co2, cF2, z1, z2, z3, z4⟩ := cgs_1 (fe := fe) (sa := sa) g x h8 hL hn hp hw e6 n1 n2 u0 hkf hk 0 (by omega) fo (crD nd S L (S (10 + 0)) (oth S (S (10 + 0)) (wen S 0)) fe sa 0 dc h) (crD 1 S L (S (10 + 0)) (oth S (S (10 + 0)) (wen S 0)) fe sa 0 d h) (crH S (S (10 + 0)) h) q1 q2 q3 (hrs - n) (upd va 0 n) vb vc c1 (upd v 0 n) A dr a1.1 (by omega) a2.1 (by omega) (by omega) (by omega) (fun _ => i32e (by rw [es, z_i0]; omega)) ha hr2 har hbd
    have z1b : fX8_spread_1 fo due (upd va 0 n) vb vc (crD nd S L (S (10 + 0)) (oth S (S (10 + 0)) (wen S 0)) fe sa 0 dc h) (crH S (S (10 + 0)) h) 0 nd fe sa c1 q1 q2 q3 nF (S 1) pF (S 9) wF fm so s1 s2 t1 t2 yj yo y1 y2 y3 y4 y5 yc (oth S (S (10 + 0)) (wen S 0)) (hrs - n) = (fo2, va2, vb2, vc2, dx2, hx2, cb2, ch2, co2, cF2) := z1
    obtain ⟨c3, qw⟩ := cwt (cF := cF2) (nd := nd) (fe := fe) (sa := sa) (d := dc) (h := h) hL hn e6 r2
    have ei : (0 : Int32).toNatClampNeg = 0 := by decide
    have ez : hrs - n = 0 := i32e (by rw [es, z_i0]; omega)
    rw [ez] at z3 z4
    refine ⟨fo2, va2, vb2, vc2, (if dc < nd then dc else dc - mltw (nwd S h (wen S 0) dc fe sa) L 0 dc), h + 1, cb2, ch2, co2, c3, fun E => ⟨n + 1, ?_⟩, fun t ht => ?_, by rw [en] at z3; exact z3, by rw [en] at z4; exact z4⟩
    · show fb_mX8_spread_0_81 due 0 nd fe sa nF (S 1) pF (S 9) wF fm so s1 s2 t1 t2 yj yo y1 y2 y3 y4 y5 yc (wen S 0) hrs (S (10 + 0)) E (fl_mX8_spread_0_81 due 0 nd fe sa nF (S 1) pF (S 9) wF fm so s1 s2 t1 t2 yj yo y1 y2 y3 y4 y5 yc (wen S 0) hrs (S (10 + 0)) E (N + 1)) fo va vb vc dc h cb ch co cF n = _
      unfold fb_mX8_spread_0_81
      rw [if_neg (show ¬ hrs < n by rw [Int32.lt_iff_toInt_lt]; omega), if_pos en, bnd_eq, ei, bndv qc, bnd_eq, bnd_eq, bnd_eq, bnd_eq, bnd_eq, bnd_eq, bnd_eq]
      dsimp only
      rw [bndv z1b, bnd_eq, bnd_eq, bnd_eq, bnd_eq, bnd_eq, bnd_eq, bnd_eq, bnd_eq, bndv qw, bnd_eq, bnd_eq, bnd_eq, bnd_eq]
      show fb_mX8_spread_0_81 due 0 nd fe sa nF (S 1) pF (S 9) wF fm so s1 s2 t1 t2 yj yo y1 y2 y3 y4 y5 yc (wen S 0) hrs (S (10 + 0)) E (fl_mX8_spread_0_81 due 0 nd fe sa nF (S 1) pF (S 9) wF fm so s1 s2 t1 t2 yj yo y1 y2 y3 y4 y5 yc (wen S 0) hrs (S (10 + 0)) E N) fo2 va2 vb2 vc2 (if dc < nd then dc else dc - mltw (nwd S h (wen S 0) dc fe sa) L 0 dc) (h + 1) cb2 ch2 co2 c3 (n + 1) = _
      unfold fb_mX8_spread_0_81
      rw [if_pos (show hrs < n + 1 by rw [Int32.lt_iff_toInt_lt]; omega)]
    · rw [z2 t (by omega)]
      exact upd_ne (by omega)
  | succ c ih =>
    intro N fo dc d h cb ch co n va vb vc cF A hN hn0 hnc hd c0 c9 d0 d9 hva har hbd
    obtain ⟨N, rfl⟩ : ∃ m, N = m + 1 := ⟨N - 1, by omega⟩
    have en1 : (n + 1).toInt = n.toInt + 1 := zadd1 (by omega)
    obtain ⟨r1, r2, r3, r4⟩ := way_in (k := 0) g x h8 (by omega)
    obtain ⟨c3, qw⟩ := cwt (cF := cF) (nd := nd) (fe := fe) (sa := sa) (d := dc) (h := h) hL hn e6 r2
    have w1 := mlt_in (W := nwd S h (wen S 0) dc fe sa) (L := L) (mo := 0) (nd := nd) c0 c9
    have w2 := wtS_in (S := S) (L := L) (fe := fe) (sa := sa) (node := wen S 0) (h := h) d0 d9
    have wr := DR_w (S := S) (L := L) (node := wen S 0) (fe := fe) (sa := sa) (h := h) n1 n2 u0 hd c0 d0 d9
    obtain ⟨fo', va', vb', vc', dx, hx, cb', ch', co', cF', z1, z2, z3, z4⟩ := ih N fo (if dc < nd then dc else dc - mltw (nwd S h (wen S 0) dc fe sa) L 0 dc) (wtS S L fe sa (wen S 0) d h) (h + 1) cb ch co (n + 1) va vb vc c3 A (by omega) (by omega) (by omega) wr w1.1 (by omega) w2.1 (by omega) hva har hbd
    refine ⟨fo', va', vb', vc', dx, hx, cb', ch', co', cF', fun E => ?_, z2, z3, z4⟩
    obtain ⟨n', j1⟩ := z1 E
    refine ⟨n', Eq.trans ?_ j1⟩
    show fb_mX8_spread_0_81 due 0 nd fe sa nF (S 1) pF (S 9) wF fm so s1 s2 t1 t2 yj yo y1 y2 y3 y4 y5 yc (wen S 0) hrs (S (10 + 0)) E (fl_mX8_spread_0_81 due 0 nd fe sa nF (S 1) pF (S 9) wF fm so s1 s2 t1 t2 yj yo y1 y2 y3 y4 y5 yc (wen S 0) hrs (S (10 + 0)) E N) fo va vb vc dc h cb ch co cF n = _
    unfold fb_mX8_spread_0_81
    have h1 : (1 : Int32).toInt = 1 := by decide
    rw [if_neg (show ¬ hrs < n by rw [Int32.lt_iff_toInt_lt]; omega), if_neg (fun w : n = hrs => by rw [w] at hnc; omega), if_pos (show S 9 - 1 ≤ 0 by rw [Int32.le_iff_toInt_le, zsub (by rw [h1]; omega) (by rw [h1]; omega), h1, show (0 : Int32).toInt = 0 from by decide]; omega), bndv qw, bnd_eq, bnd_eq, bnd_eq, bnd_eq]
    all_goals rfl
set_option maxHeartbeats 400000 in
theorem cgl_0 {S nF pF wF so s1 s2 t1 t2 yj yo y1 y2 y3 y4 y5 : Nat → Int32} {fm yc due nd fe sa : Int32} {L : Cls} {kf : (Nat → Int32) → Int32} {b : Prop} {k : Nat} (g : GD S) (x : XT S) (h8 : ¬ S 8 < 0) (hL : LWX so s1 s2 t1 t2 yj yo y1 y2 y3 y4 y5 yc L) (hn : NE nF S) (hp : PE pF S) (hw : WE wF S) (e6 : fm = S 6) (n1 : 1 ≤ nd.toInt) (n2 : nd.toInt = due.toInt ∨ (due.toInt = 0 ∧ nd.toInt = 1)) (u0 : 0 ≤ due.toInt) (hkf : b → ∀ v, kf v = v k) (hk : b → (k : Int) < (S 9).toInt) (r : Nat) (hm : ((0 + (r + 1 + 1) : Nat) : Int) = (S 9).toInt) (v : Nat → Int32) (hv : ∀ t : Nat, t < 0 → 0 ≤ (v t).toInt ∧ (v t).toInt ≤ 12) (hrs : Int32) (h0 : 0 ≤ hrs.toInt) (h12 : hrs.toInt ≤ 12) : ∀ (c N : Nat) (fo dc d h cb ch co n : Int32) (va vb vc cF : Nat → Int32) (A : Int32 × Int32 × Int32), c < N → 0 ≤ n.toInt → n.toInt + c = hrs.toInt + 1 → DR due dc d → 0 ≤ dc.toInt → dc.toInt ≤ 99999 → 0 ≤ d.toInt → d.toInt ≤ 99999 → (∀ t : Nat, t < 0 → va t = v t) → AR b k A fo vb vc → A.1.toInt + ((c * 13 ^ (r + 1) : Nat) : Int) ≤ 100000000 → ∃ (fo' : Int32) (va' vb' vc' : Nat → Int32) (dx hx cb' ch' co' : Int32) (cF' : Nat → Int32), (∀ E : Int32 → (Nat → Int32) → (Nat → Int32) → (Nat → Int32) → Int32 → Int32 → Int32 → Int32 → Int32 → (Nat → Int32) → Int32 → (Int32 × (Nat → Int32) × (Nat → Int32) × (Nat → Int32) × Int32 × Int32 × Int32 × Int32 × Int32 × (Nat → Int32)), ∃ n', fl_mX8_spread_0_81 due 0 nd fe sa nF (S 1) pF (S 9) wF fm so s1 s2 t1 t2 yj yo y1 y2 y3 y4 y5 yc (wen S 0) hrs (S (10 + 0)) E N fo va vb vc dc h cb ch co cF n = E fo' va' vb' vc' dx hx cb' ch' co' cF' n') ∧ (∀ t : Nat, t < 0 → va' t = va t) ∧ AR b k (lpS (fun n d h A => tqS S L fe sa due kf (r + 1) 1 (upd v 0 n) (crD 1 S L (S (10 + 0)) (oth S (S (10 + 0)) (wen S 0)) fe sa 0 d h) (crH S (S (10 + 0)) h) (hrs - n) A) (wtS S L fe sa (wen S 0)) c n d h A) fo' vb' vc' ∧ (lpS (fun n d h A => tqS S L fe sa due kf (r + 1) 1 (upd v 0 n) (crD 1 S L (S (10 + 0)) (oth S (S (10 + 0)) (wen S 0)) fe sa 0 d h) (crH S (S (10 + 0)) h) (hrs - n) A) (wtS S L fe sa (wen S 0)) c n d h A).1.toInt ≤ A.1.toInt + ((c * 13 ^ (r + 1) : Nat) : Int) := by
  have b9 := GD_9 g
  intro c
  induction c with
  | zero =>
    intro N fo dc d h cb ch co n va vb vc cF A hN hn0 hnc hd c0 c9 d0 d9 hva har hbd
    obtain ⟨N, rfl⟩ : ∃ m, N = m + 1 := ⟨N - 1, by omega⟩
    refine ⟨fo, va, vb, vc, dc, h, cb, ch, co, cF, fun E => ⟨n, ?_⟩, fun _ _ => rfl, har, by show A.1.toInt ≤ _; omega⟩
    show fb_mX8_spread_0_81 due 0 nd fe sa nF (S 1) pF (S 9) wF fm so s1 s2 t1 t2 yj yo y1 y2 y3 y4 y5 yc (wen S 0) hrs (S (10 + 0)) E (fl_mX8_spread_0_81 due 0 nd fe sa nF (S 1) pF (S 9) wF fm so s1 s2 t1 t2 yj yo y1 y2 y3 y4 y5 yc (wen S 0) hrs (S (10 + 0)) E N) fo va vb vc dc h cb ch co cF n = _
    unfold fb_mX8_spread_0_81
    rw [if_pos (show hrs < n by rw [Int32.lt_iff_toInt_lt]; omega)]
  | succ c ih =>
    intro N fo dc d h cb ch co n va vb vc cF A hN hn0 hnc hd c0 c9 d0 d9 hva har hbd
    obtain ⟨N, rfl⟩ : ∃ m, N = m + 1 := ⟨N - 1, by omega⟩
    have en1 : (n + 1).toInt = n.toInt + 1 := zadd1 (by omega)
    have sm : (c + 1) * 13 ^ (r + 1) = c * 13 ^ (r + 1) + 13 ^ (r + 1) := Nat.succ_mul _ _
    rw [sm] at hbd ⊢
    have hbd0 := hbd
    have hbd : A.1.toInt + ((13 ^ (r + 1) : Nat) : Int) ≤ 100000000 := by omega
    obtain ⟨r1, r2, r3, r4⟩ := way_in (k := 0) g x h8 (by omega)
    obtain ⟨q1, q2, q3, c1, qc, _⟩ := cls_cross (cF := cF) (nd := nd) (mo := 0) (fe := fe) (sa := sa) (d := dc) (h := h) hL hn hp rfl e6 r1 r3 r4
    have a1 := crD_in (nd := nd) (S := S) (L := L) (pass := S (10 + 0)) (to := (oth S (S (10 + 0)) (wen S 0))) (fe := fe) (sa := sa) (mo := 0) (h := h) c0 c9
    have a2 := crD_in (nd := 1) (S := S) (L := L) (pass := S (10 + 0)) (to := (oth S (S (10 + 0)) (wen S 0))) (fe := fe) (sa := sa) (mo := 0) (h := h) d0 d9
    have dr := DR_c (S := S) (L := L) (pass := S (10 + 0)) (to := (oth S (S (10 + 0)) (wen S 0))) (fe := fe) (sa := sa) (h := h) n1 n2 u0 hd c0 c9 d0 d9
    have es : (hrs - n).toInt = hrs.toInt - n.toInt := zsub (by omega) (by omega)
    have ha : ∀ t : Nat, t < 1 → upd va 0 n t = upd v 0 n t := by
      intro t ht
      by_cases y : t = 0
      · rw [y]
        exact pk_us.trans pk_us.symm
      · rw [upd_ne (fun w => y w.symm), upd_ne (fun w => y w.symm)]
        exact hva t (by omega)
    have hr2 : ∀ t : Nat, t < 1 → 0 ≤ (upd v 0 n t).toInt ∧ (upd v 0 n t).toInt ≤ 12 := by
      intro t ht
      by_cases y : t = 0
      · rw [y, show upd v 0 n 0 = n from pk_us]
        exact ⟨by omega, by omega⟩
      · rw [upd_ne (fun w => y w.symm)]
        exact hv t (by omega)
    obtain ⟨fo2, va2, vb2, vc2, dx2, hx2, cb2, ch2, co2, cF2, z1, z2, z3, z4⟩ := cgs_1 (fe := fe) (sa := sa) g x h8 hL hn hp hw e6 n1 n2 u0 hkf hk (r + 1) (by omega) fo (crD nd S L (S (10 + 0)) (oth S (S (10 + 0)) (wen S 0)) fe sa 0 dc h) (crD 1 S L (S (10 + 0)) (oth S (S (10 + 0)) (wen S 0)) fe sa 0 d h) (crH S (S (10 + 0)) h) q1 q2 q3 (hrs - n) (upd va 0 n) vb vc c1 (upd v 0 n) A dr a1.1 (by omega) a2.1 (by omega) (by omega) (by omega) (fun q => absurd q (by omega)) ha hr2 har hbd
    have z1b : fX8_spread_1 fo due (upd va 0 n) vb vc (crD nd S L (S (10 + 0)) (oth S (S (10 + 0)) (wen S 0)) fe sa 0 dc h) (crH S (S (10 + 0)) h) 0 nd fe sa c1 q1 q2 q3 nF (S 1) pF (S 9) wF fm so s1 s2 t1 t2 yj yo y1 y2 y3 y4 y5 yc (oth S (S (10 + 0)) (wen S 0)) (hrs - n) = (fo2, va2, vb2, vc2, dx2, hx2, cb2, ch2, co2, cF2) := z1
    obtain ⟨c3, qw⟩ := cwt (cF := cF2) (nd := nd) (fe := fe) (sa := sa) (d := dc) (h := h) hL hn e6 r2
    have ei : (0 : Int32).toNatClampNeg = 0 := by decide
    have w1 := mlt_in (W := nwd S h (wen S 0) dc fe sa) (L := L) (mo := 0) (nd := nd) c0 c9
    have w2 := wtS_in (S := S) (L := L) (fe := fe) (sa := sa) (node := wen S 0) (h := h) d0 d9
    have wr := DR_w (S := S) (L := L) (node := wen S 0) (fe := fe) (sa := sa) (h := h) n1 n2 u0 hd c0 d0 d9
    have va3 : ∀ t : Nat, t < 0 → va2 t = va t := fun t ht => (z2 t (by omega)).trans (upd_ne (by omega))
    obtain ⟨fo', va', vb', vc', dx, hx, cb', ch', co', cF', j1, j2, j3, j4⟩ := ih N fo2 (if dc < nd then dc else dc - mltw (nwd S h (wen S 0) dc fe sa) L 0 dc) (wtS S L fe sa (wen S 0) d h) (h + 1) cb2 ch2 co2 (n + 1) va2 vb2 vc2 c3 (tqS S L fe sa due kf (r + 1) 1 (upd v 0 n) (crD 1 S L (S (10 + 0)) (oth S (S (10 + 0)) (wen S 0)) fe sa 0 d h) (crH S (S (10 + 0)) h) (hrs - n) A) (by omega) (by omega) (by omega) wr w1.1 (by omega) w2.1 (by omega) (fun t ht => (va3 t ht).trans (hva t ht)) z3 (by omega)
    refine ⟨fo', va', vb', vc', dx, hx, cb', ch', co', cF', fun E => ?_, fun t ht => (j2 t ht).trans (va3 t ht), j3, Int.le_trans j4 (by omega)⟩
    obtain ⟨n', j5⟩ := j1 E
    refine ⟨n', Eq.trans ?_ j5⟩
    show fb_mX8_spread_0_81 due 0 nd fe sa nF (S 1) pF (S 9) wF fm so s1 s2 t1 t2 yj yo y1 y2 y3 y4 y5 yc (wen S 0) hrs (S (10 + 0)) E (fl_mX8_spread_0_81 due 0 nd fe sa nF (S 1) pF (S 9) wF fm so s1 s2 t1 t2 yj yo y1 y2 y3 y4 y5 yc (wen S 0) hrs (S (10 + 0)) E N) fo va vb vc dc h cb ch co cF n = _
    unfold fb_mX8_spread_0_81
    have h1 : (1 : Int32).toInt = 1 := by decide
    by_cases en : n = hrs
    · rw [if_neg (show ¬ hrs < n by rw [Int32.lt_iff_toInt_lt]; omega), if_pos en, bnd_eq, ei, bndv qc, bnd_eq, bnd_eq, bnd_eq, bnd_eq, bnd_eq, bnd_eq, bnd_eq]
      dsimp only
      rw [bndv z1b, bnd_eq, bnd_eq, bnd_eq, bnd_eq, bnd_eq, bnd_eq, bnd_eq, bnd_eq, bndv qw, bnd_eq, bnd_eq, bnd_eq, bnd_eq]
      all_goals rfl
    · rw [if_neg (show ¬ hrs < n by rw [Int32.lt_iff_toInt_lt]; omega), if_neg en, if_neg (show ¬ S 9 - 1 ≤ 0 by rw [Int32.le_iff_toInt_le, zsub (by rw [h1]; omega) (by rw [h1]; omega), h1, show (0 : Int32).toInt = 0 from by decide]; omega), bnd_eq, ei, bndv qc, bnd_eq, bnd_eq, bnd_eq, bnd_eq, bnd_eq, bnd_eq, bnd_eq]
      dsimp only
      rw [bndv z1b, bnd_eq, bnd_eq, bnd_eq, bnd_eq, bnd_eq, bnd_eq, bnd_eq, bnd_eq, bndv qw, bnd_eq, bnd_eq, bnd_eq, bnd_eq]
      all_goals rfl
set_option maxHeartbeats 400000 in
theorem cgs_0 {S nF pF wF so s1 s2 t1 t2 yj yo y1 y2 y3 y4 y5 : Nat → Int32} {fm yc due nd fe sa : Int32} {L : Cls} {kf : (Nat → Int32) → Int32} {b : Prop} {k : Nat} (g : GD S) (x : XT S) (h8 : ¬ S 8 < 0) (hL : LWX so s1 s2 t1 t2 yj yo y1 y2 y3 y4 y5 yc L) (hn : NE nF S) (hp : PE pF S) (hw : WE wF S) (e6 : fm = S 6) (n1 : 1 ≤ nd.toInt) (n2 : nd.toInt = due.toInt ∨ (due.toInt = 0 ∧ nd.toInt = 1)) (u0 : 0 ≤ due.toInt) (hkf : b → ∀ v, kf v = v k) (hk : b → (k : Int) < (S 9).toInt) (r : Nat) (hr : ((0 + r : Nat) : Int) = (S 9).toInt) (fo dc d h cb ch co hrs : Int32) (va vb vc cF v : Nat → Int32) (A : Int32 × Int32 × Int32) (hd : DR due dc d) (c0 : 0 ≤ dc.toInt) (c9 : dc.toInt ≤ 99999) (d0 : 0 ≤ d.toInt) (d9 : d.toInt ≤ 99999) (h0 : 0 ≤ hrs.toInt) (h12 : hrs.toInt ≤ 12) (hz : r = 0 → hrs = 0) (hva : ∀ t : Nat, t < 0 → va t = v t) (hv : ∀ t : Nat, t < 0 → 0 ≤ (v t).toInt ∧ (v t).toInt ≤ 12) (har : AR b k A fo vb vc) (hbd : A.1.toInt + ((13 ^ r : Nat) : Int) ≤ 100000000) : ∃ (fo' : Int32) (va' vb' vc' : Nat → Int32) (dx hx cb' ch' co' : Int32) (cF' : Nat → Int32), fX8_spread_0 fo due va vb vc dc h 0 nd fe sa cF cb ch co nF (S 1) pF (S 9) wF fm so s1 s2 t1 t2 yj yo y1 y2 y3 y4 y5 yc (wen S 0) hrs = (fo', va', vb', vc', dx, hx, cb', ch', co', cF') ∧ (∀ t : Nat, t < 0 → va' t = va t) ∧ AR b k (tqS S L fe sa due kf r 0 v d h hrs A) fo' vb' vc' ∧ (tqS S L fe sa due kf r 0 v d h hrs A).1.toInt ≤ A.1.toInt + ((13 ^ r : Nat) : Int) := by
  have b9 := GD_9 g
  have th := tn_eq h0
  have p13 : (0 : Int) ≤ ((13 ^ r : Nat) : Int) := Int.natCast_nonneg _
  unfold fX8_spread_0
  by_cases c : due ≤ dc
  · rw [if_pos c]
    rcases r with _ | r
    · have hz := hz rfl
      rw [Nat.pow_zero] at hbd ⊢
      rw [if_pos (show S 9 ≤ 0 by rw [Int32.le_iff_toInt_le, show (0 : Int32).toInt = 0 from by decide]; omega), if_pos hz]
      by_cases e : dc = due
      · have ed : d = due := by
          rcases hd with w | ⟨w1, w2⟩
          · rw [← w]; exact e
          · rw [e] at w1; omega
        obtain ⟨vb', vc', m1, m2⟩ := nt_v (fo := fo) (va := va) (vb := vb) (vc := vc) (p := S 9) b9.1 b9.2
        have q := AR_n (w := kf v) (va := va) (vb' := vb') (vc' := vc') har (by omega) (fun hb => by
          have hk2 := hk hb
          rw [hkf hb v, hva k (by omega)]
          exact ⟨rfl, hv k (by omega)⟩) (fun hb => m2 k (hk hb))
        have et : tqS S L fe sa due kf 0 0 v d h hrs A = acU A (kf v) := by
          rw [tqS_0, if_pos ed]
        rw [et, if_pos e, bndv m1, bnd_eq, bnd_eq, bnd_eq]
        exact ⟨fo + 1, va, vb', vc', dc, h, cb, ch, co, cF, rfl, fun _ _ => rfl, q.1, by rw [q.2]; omega⟩
      · have ed : ¬ d = due := by
          intro w
          rcases hd with y | ⟨y1, y2⟩
          · exact e (y.trans w)
          · rw [w] at y2; omega
        have et : tqS S L fe sa due kf 0 0 v d h hrs A = A := by
          rw [tqS_0, if_neg ed]
        rw [et, if_neg e]
        exact ⟨fo, va, vb, vc, dc, h, cb, ch, co, cF, rfl, fun _ _ => rfl, har, by omega⟩
    rcases r with _ | r
    · have cz := cgz_0 (fe := fe) (sa := sa) g x h8 hL hn hp hw e6 n1 n2 u0 hkf hk (by omega) v hv hrs h0 h12 hrs.toNatClampNeg (((hrs : Int32).toInt + 1 - (0 : Int32).toInt).toNat + 1) fo dc d h cb ch co 0 va vb vc cF A (by rw [z_i0]; omega) (by decide) (by rw [z_i0]; omega) hd c0 c9 d0 d9 hva har (by rw [Nat.pow_zero]; have : ((13 ^ (0 + 1) : Nat) : Int) = 13 := rfl; omega)
      obtain ⟨fo', va', vb', vc', dx, hx, cb', ch', co', cF', z1, z2, z3, z4⟩ := cz
      rw [if_neg (show ¬ S 9 ≤ 0 by rw [Int32.le_iff_toInt_le, show (0 : Int32).toInt = 0 from by decide]; omega), bndv (show fX6_get_6 1 wF 0 0 = S (10 + 0) from get_w hw (by decide) (by decide))]
      obtain ⟨n', j1⟩ := z1 (fun w0 w1 w2 w3 w4 w5 w6 w7 w8 w9 _ => (w0, w1, w2, w3, w4, w5, w6, w7, w8, w9))
      have e1 : tqS S L fe sa due kf (0 + 1) 0 v d h hrs A = (tqS S L fe sa due kf 0 1 (upd v 0 hrs) (crD 1 S L (S (10 + 0)) (oth S (S (10 + 0)) (wen S 0)) fe sa 0 (wtD S L fe sa (wen S 0) hrs.toNatClampNeg d h) (hrH hrs.toNatClampNeg h)) (crH S (S (10 + 0)) (hrH hrs.toNatClampNeg h)) 0 A) := tqS_1
      rw [e1]
      refine ⟨fo', va', vb', vc', dx, hx, cb', ch', co', cF', j1, z2, z3, Int.le_trans z4 ?_⟩
      have : ((13 ^ (0 + 1) : Nat) : Int) = 13 := rfl
      rw [Nat.pow_zero]
      omega
    · have e13 : 13 ^ (r + 1 + 1) = 13 * 13 ^ (r + 1) := by rw [Nat.pow_succ, Nat.mul_comm]
      have le13 : (hrs.toNatClampNeg + 1) * 13 ^ (r + 1) ≤ 13 * 13 ^ (r + 1) := Nat.mul_le_mul_right _ (by omega)
      rw [← e13] at le13
      obtain ⟨fo', va', vb', vc', dx, hx, cb', ch', co', cF', z1, z2, z3, z4⟩ := cgl_0 (fe := fe) (sa := sa) g x h8 hL hn hp hw e6 n1 n2 u0 hkf hk r (by omega) v hv hrs h0 h12 (hrs.toNatClampNeg + 1) (((hrs : Int32).toInt + 1 - (0 : Int32).toInt).toNat + 1) fo dc d h cb ch co 0 va vb vc cF A (by rw [z_i0]; omega) (by decide) (by rw [z_i0]; omega) hd c0 c9 d0 d9 hva har (by omega)
      rw [if_neg (show ¬ S 9 ≤ 0 by rw [Int32.le_iff_toInt_le, show (0 : Int32).toInt = 0 from by decide]; omega), bndv (show fX6_get_6 1 wF 0 0 = S (10 + 0) from get_w hw (by decide) (by decide))]
      obtain ⟨n', j1⟩ := z1 (fun w0 w1 w2 w3 w4 w5 w6 w7 w8 w9 _ => (w0, w1, w2, w3, w4, w5, w6, w7, w8, w9))
      have e2 : tqS S L fe sa due kf (r + 1 + 1) 0 v d h hrs A = (lpS (fun n d h A => tqS S L fe sa due kf (r + 1) 1 (upd v 0 n) (crD 1 S L (S (10 + 0)) (oth S (S (10 + 0)) (wen S 0)) fe sa 0 d h) (crH S (S (10 + 0)) h) (hrs - n) A) (wtS S L fe sa (wen S 0)) (hrs.toNatClampNeg + 1) 0 d h A) := tqS_2
      rw [e2]
      exact ⟨fo', va', vb', vc', dx, hx, cb', ch', co', cF', j1, z2, z3, Int.le_trans z4 (by omega)⟩
  · have dd : d.toInt < due.toInt := by
      rw [Int32.le_iff_toInt_le] at c
      rcases hd with w | ⟨w1, w2⟩
      · rw [← w]; omega
      · exact w2
    rw [if_neg c, tqS_lt (kf := kf) (fe := fe) (sa := sa) (L := L) (S := S) r 0 v d h hrs A d0 d9 dd]
    exact ⟨fo, va, vb, vc, dc, h, cb, ch, co, cF, rfl, fun _ _ => rfl, har, by omega⟩
