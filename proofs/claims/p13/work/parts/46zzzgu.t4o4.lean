def hoursS (L : Cls) (ch : Int32) : Nat → (Nat → Int32) → (Nat → Int32)
  | 0, S => S
  | n + 1, S => hoursS L ch n (hourS S L ch)
set_option maxHeartbeats 400000 in
theorem hours_iv {L : Cls} {ch : Int32} : ∀ (n : Nat) (S : Nat → Int32), IV S → (S 5).toInt + n ≤ 199999 → IV (hoursS L ch n S) ∧ (∀ i : Nat, i ≠ 7 → i ≠ 5 → (i < 20 ∨ (68 ≤ i ∧ i < 168) ∨ 312 ≤ i) → hoursS L ch n S i = S i) := by
  intro n
  induction n with
  | zero => intro S h _; exact ⟨h, fun _ _ _ _ => rfl⟩
  | succ n ih =>
    intro S h h5
    obtain ⟨a1, a2, a3⟩ := hour_iv (L := L) (ch := ch) h (by omega)
    have e : (S 5 + 1).toInt = (S 5).toInt + 1 := zadd1 (by omega)
    obtain ⟨b1, b2⟩ := ih _ a1 (by rw [a3, e]; omega)
    exact ⟨b1, fun i n7 n5 hi => (b2 i n7 n5 hi).trans (a2 i n7 n5 hi)⟩
set_option maxHeartbeats 400000 in
theorem ref_ticks {cf sg cl cs : Nat → Int32} {E : (Nat → Int64) → (Nat → Int64) → (Nat → Int32) → Int32 → Int32 → (Int32 × (Nat → Int64) × (Nat → Int64) × (Nat → Int32) × Int32)} {zn z m law p ch : Int32} {L : Cls} (hL : LWR sg cl cs law L) (hc : cf law.toNatClampNeg = ch) : ∀ (n N : Nat) (g1 g2 : Nat → Int64) (S : Nat → Int32) (v i : Int32), IV S → S 0 = zn → S 2 = z → S 6 = m → (S 5).toInt + n ≤ 199999 → 0 ≤ i.toInt → i.toInt + n = p.toInt → n < N → ∃ v' g1' g2', fl_mX11_tick_37 sg cl cs cf zn z m law p E N g1 g2 S v i = E g1' g2' (hoursS L ch n S) v' p := by
  intro n
  induction n with
  | zero =>
    intro N g1 g2 S v i h e0 e2 e6 h5 i0 iz hN
    obtain ⟨N, rfl⟩ : ∃ m, N = m + 1 := ⟨N - 1, by omega⟩
    have e : i = p := Int32.toInt_inj.mp (by omega)
    refine ⟨v, g1, g2, ?_⟩
    show fb_mX11_tick_37 sg cl cs cf zn z m law p E (fl_mX11_tick_37 sg cl cs cf zn z m law p E N) g1 g2 S v i = _
    unfold fb_mX11_tick_37
    rw [if_pos (show p ≤ i by rw [e]; exact Int32.le_refl _), e]
    rfl
  | succ n ih =>
    intro N g1 g2 S v i h e0 e2 e6 h5 i0 iz hN
    obtain ⟨N, rfl⟩ : ∃ m, N = m + 1 := ⟨N - 1, by omega⟩
    have ei : (i + 1).toInt = i.toInt + 1 := zadd1 (by have := p.toInt_lt; omega)
    obtain ⟨a1, a2, a3⟩ := hour_iv (L := L) (ch := ch) h (by omega)
    have e5 : (S 5 + 1).toInt = (S 5).toInt + 1 := zadd1 (by omega)
    obtain ⟨v1, x1, x2, ex⟩ := ref_hour (sk := g1) (wd := g2) (top := v) hL hc h e0 e2 e6
    have go := ih N x1 x2 (hourS S L ch) v1 (i + 1) a1 ((a2 0 (by decide) (by decide) (Or.inl (by decide))).trans e0) ((a2 2 (by decide) (by decide) (Or.inl (by decide))).trans e2) ((a2 6 (by decide) (by decide) (Or.inl (by decide))).trans e6) (by rw [a3, e5]; omega) (by omega) (by omega) (by omega)
    show ∃ v' g1' g2', fb_mX11_tick_37 sg cl cs cf zn z m law p E (fl_mX11_tick_37 sg cl cs cf zn z m law p E N) g1 g2 S v i = E g1' g2' (hoursS L ch n (hourS S L ch)) v' p
    generalize fl_mX11_tick_37 sg cl cs cf zn z m law p E N = K at go ⊢
    unfold fb_mX11_tick_37
    rw [if_neg (show ¬ p ≤ i by rw [Int32.le_iff_toInt_le]; omega), bndv ex, bnd_eq, bnd_eq, bnd_eq, bnd_eq, bnd_eq]
    exact go
set_option maxHeartbeats 400000 in
theorem cls_ticks {pF so s1 s2 t1 t2 yj yo y1 y2 y3 y4 y5 : Nat → Int32} {E : Int32 → Int32 → (Nat → Int32) → (Nat → Int32) → Int32 → Int32 → Int32 → (Nat → Int32) → Int32 → (Int32 × Int32 × (Nat → Int32) × (Nat → Int32) × Int32 × Int32 × Int32 × (Nat → Int32) × Int32)} {zn zp z fm ch yc p : Int32} {L : Cls} (hL : LWX so s1 s2 t1 t2 yj yo y1 y2 y3 y4 y5 yc L) : ∀ (n N : Nat) (now x : Int32) (nF jF : Nat → Int32) (cb cc co : Int32) (cF : Nat → Int32) (i : Int32) (S : Nat → Int32), IV S → S 0 = zn → S 1 = zp → S 2 = z → S 5 = now → S 6 = fm → S 7 = x → NE nF S → PE pF S → JE jF S → (S 5).toInt + n ≤ 199999 → 0 ≤ i.toInt → i.toInt + n = p.toInt → n < N → ∃ nF' jF' cb' cc' co' cF', fl_mX10_tick_yes_41 zn zp pF z fm so s1 s2 t1 t2 yj yo y1 y2 y3 y4 y5 ch yc p E N now x nF jF cb cc co cF i = E (hoursS L ch n S 5) (hoursS L ch n S 7) nF' jF' cb' cc' co' cF' p ∧ NE nF' (hoursS L ch n S) ∧ JE jF' (hoursS L ch n S) := by
  intro n
  induction n with
  | zero =>
    intro N now x nF jF cb cc co cF i S h e0 e1 e2 e5 e6 e7 hn hp hJ h5 i0 iz hN
    obtain ⟨N, rfl⟩ : ∃ m, N = m + 1 := ⟨N - 1, by omega⟩
    have e : i = p := Int32.toInt_inj.mp (by omega)
    refine ⟨nF, jF, cb, cc, co, cF, ?_, hn, hJ⟩
    show fb_mX10_tick_yes_41 zn zp pF z fm so s1 s2 t1 t2 yj yo y1 y2 y3 y4 y5 ch yc p E (fl_mX10_tick_yes_41 zn zp pF z fm so s1 s2 t1 t2 yj yo y1 y2 y3 y4 y5 ch yc p E N) now x nF jF cb cc co cF i = E (S 5) (S 7) nF jF cb cc co cF p
    unfold fb_mX10_tick_yes_41
    rw [if_pos (show p ≤ i by rw [e]; exact Int32.le_refl _), e, e5, e7]
  | succ n ih =>
    intro N now x nF jF cb cc co cF i S h e0 e1 e2 e5 e6 e7 hn hp hJ h5 i0 iz hN
    obtain ⟨N, rfl⟩ : ∃ m, N = m + 1 := ⟨N - 1, by omega⟩
    have ei : (i + 1).toInt = i.toInt + 1 := zadd1 (by have := p.toInt_lt; omega)
    obtain ⟨a1, a2, a3⟩ := hour_iv (L := L) (ch := ch) h (by omega)
    have s5 : (S 5 + 1).toInt = (S 5).toInt + 1 := zadd1 (by omega)
    obtain ⟨c1, c2, c3, c4, n1, j1, ex, hn1, hp1, hj1⟩ := cls_step (cF := cF) (cb := cb) (cc := cc) (co := co) (ch := ch) hL h e0 e1 e2 e5 e6 e7 hn hp hJ
    have go := ih N (hourS S L ch 5) (hourS S L ch 7) n1 j1 c1 c2 c3 c4 (i + 1) (hourS S L ch) a1 ((a2 0 (by decide) (by decide) (Or.inl (by decide))).trans e0) ((a2 1 (by decide) (by decide) (Or.inl (by decide))).trans e1) ((a2 2 (by decide) (by decide) (Or.inl (by decide))).trans e2) rfl ((a2 6 (by decide) (by decide) (Or.inl (by decide))).trans e6) rfl hn1 hp1 hj1 (by rw [a3, s5]; omega) (by omega) (by omega) (by omega)
    show ∃ nF' jF' cb' cc' co' cF', fb_mX10_tick_yes_41 zn zp pF z fm so s1 s2 t1 t2 yj yo y1 y2 y3 y4 y5 ch yc p E (fl_mX10_tick_yes_41 zn zp pF z fm so s1 s2 t1 t2 yj yo y1 y2 y3 y4 y5 ch yc p E N) now x nF jF cb cc co cF i = E (hoursS L ch n (hourS S L ch) 5) (hoursS L ch n (hourS S L ch) 7) nF' jF' cb' cc' co' cF' p ∧ NE nF' (hoursS L ch n (hourS S L ch)) ∧ JE jF' (hoursS L ch n (hourS S L ch))
    generalize fl_mX10_tick_yes_41 zn zp pF z fm so s1 s2 t1 t2 yj yo y1 y2 y3 y4 y5 ch yc p E N = K at go ⊢
    unfold fb_mX10_tick_yes_41
    rw [if_neg (show ¬ p ≤ i by rw [Int32.le_iff_toInt_le]; omega), bndv ex, bnd_eq, bnd_eq, bnd_eq, bnd_eq, bnd_eq, bnd_eq, bnd_eq, bnd_eq, bnd_eq]
    exact go
/-- TICK: what the world becomes, what is answered -/
def tkS (S : Nat → Int32) (L : Cls) (ch p : Int32) : Nat → Int32 := if p < 1 then S else if 240 < p then S else if S 5 + p ≤ 99999 then hoursS L ch p.toNatClampNeg S else S
def tkA (S : Nat → Int32) (L : Cls) (ch p : Int32) : Int32 := if p < 1 then -1 else if 240 < p then -1 else if S 5 + p ≤ 99999 then hoursS L ch p.toNatClampNeg S 5 else -1
set_option maxHeartbeats 400000 in
theorem li_240 (p : Int32) : li p.toInt64 1 240 = if p < 1 then 0 else if 240 < p then 0 else 1 := li_if (lo := 1) (hi := 240) (by decide) (by decide)
set_option maxHeartbeats 400000 in
theorem tk_n {S : Nat → Int32} {p : Int32} (h : IV S) (a : ¬ p < 1) (b : ¬ 240 < p) (c : S 5 + p ≤ 99999) : 0 ≤ p.toInt ∧ (S 5).toInt + p.toInt ≤ 99999 := by
  have h5 := h.2.2.2.2.2.1
  rw [Int32.lt_iff_toInt_lt, show (1 : Int32).toInt = 1 from by decide] at a
  rw [Int32.lt_iff_toInt_lt, show (240 : Int32).toInt = 240 from by decide] at b
  rw [Int32.le_iff_toInt_le, zadd (by omega) (by omega), show (99999 : Int32).toInt = 99999 from by decide] at c
  exact ⟨by omega, c⟩
set_option maxHeartbeats 400000 in
theorem ref_tick {cf sg cl cs S : Nat → Int32} {sk wd : Nat → Int64} {laws top zn z m law p ch : Int32} {L : Cls} (hL : LWR sg cl cs law L) (hc : cf law.toNatClampNeg = ch) (h : IV S) (e0 : S 0 = zn) (e2 : S 2 = z) (e6 : S 6 = m) (hl : ¬ hs law laws = 0) : ∃ v' g1' g2', fX11_tick laws top sg cl cs cf sk wd S zn z m law p = (v', g1', g2', tkS S L ch p, tkA S L ch p) := by
  unfold fX11_tick tkS tkA
  rw [if_neg hl, li_240]
  by_cases a : p < 1
  · rw [if_pos a, if_pos rfl, if_pos a, if_pos a]
    exact ⟨_, _, _, rfl⟩
  · rw [if_neg a, if_neg a, if_neg a]
    by_cases b : 240 < p
    · rw [if_pos b, if_pos rfl, if_pos b, if_pos b]
      exact ⟨_, _, _, rfl⟩
    · rw [if_neg b, if_neg (by decide), if_neg b, if_neg b]
      by_cases c : S 5 + p ≤ 99999
      · rw [if_pos c, if_pos c, if_pos c]
        have t := tk_n h a b c
        have tp := tn_eq t.1
        obtain ⟨v', g1', g2', e⟩ := ref_ticks (E := fun (w53_0_0 : Nat → Int64) (w53_1_0 : Nat → Int64) (w53_2_0 : Nat → Int32) (w53_3_0 : Int32) (w53_4_0 : Int32) => (w53_3_0, w53_0_0, w53_1_0, w53_2_0, (w53_2_0 5))) (p := p) hL hc p.toNatClampNeg (((p : Int32).toInt - (0 : Int32).toInt).toNat + 1) sk wd S top 0 h e0 e2 e6 (by omega) (by decide) (by rw [z_i0]; omega) (by rw [z_i0]; omega)
        exact ⟨v', g1', g2', e⟩
      · rw [if_neg c, if_neg c, if_neg c]
        exact ⟨_, _, _, rfl⟩
set_option maxHeartbeats 400000 in
theorem cls_tick {cF nF pF jF S so s1 s2 t1 t2 yj yo y1 y2 y3 y4 y5 : Nat → Int32} {cb cc co zn zp z now fm x ch yc p : Int32} {L : Cls} (hL : LWX so s1 s2 t1 t2 yj yo y1 y2 y3 y4 y5 yc L) (h : IV S) (e0 : S 0 = zn) (e1 : S 1 = zp) (e2 : S 2 = z) (e5 : S 5 = now) (e6 : S 6 = fm) (e7 : S 7 = x) (hn : NE nF S) (hp : PE pF S) (hJ : JE jF S) : ∃ nF' jF' cb' cc' co' cF', fX10_tick_yes zn nF zp pF z jF now fm x cF cb cc co so s1 s2 t1 t2 yj yo y1 y2 y3 y4 y5 ch yc p = (tkS S L ch p 5, tkS S L ch p 7, nF', jF', cb', cc', co', cF', tkA S L ch p) ∧ NE nF' (tkS S L ch p) ∧ JE jF' (tkS S L ch p) := by
  unfold fX10_tick_yes tkS tkA
  by_cases a : p < 1
  · rw [if_pos a, if_pos a, if_pos a, e5, e7]
    exact ⟨_, _, _, _, _, _, rfl, hn, hJ⟩
  · rw [if_neg a, if_neg a, if_neg a]
    by_cases b : 240 < p
    · rw [if_pos b, if_pos b, if_pos b, e5, e7]
      exact ⟨_, _, _, _, _, _, rfl, hn, hJ⟩
    · rw [if_neg b, if_neg b, if_neg b]
      by_cases c : S 5 + p ≤ 99999
      · rw [if_pos (show now + p ≤ 99999 by rw [← e5]; exact c), if_pos c, if_pos c]
        have t := tk_n h a b c
        have tp := tn_eq t.1
        obtain ⟨n', j', b', c', o', f', e, q1, q2⟩ := cls_ticks (E := fun (w65_0_0 : Int32) (w65_1_0 : Int32) (w65_2_0 : Nat → Int32) (w65_3_0 : Nat → Int32) (w65_4_0 : Int32) (w65_5_0 : Int32) (w65_6_0 : Int32) (w65_7_0 : Nat → Int32) (w65_8_0 : Int32) => (w65_0_0, w65_1_0, w65_2_0, w65_3_0, w65_4_0, w65_5_0, w65_6_0, w65_7_0, w65_0_0)) (ch := ch) (p := p) hL p.toNatClampNeg (((p : Int32).toInt - (0 : Int32).toInt).toNat + 1) now x nF jF cb cc co cF 0 S h e0 e1 e2 e5 e6 e7 hn hp hJ (by omega) (by decide) (by rw [z_i0]; omega) (by rw [z_i0]; omega)
        exact ⟨n', j', b', c', o', f', e, q1, q2⟩
      · rw [if_neg (show ¬ now + p ≤ 99999 by rw [← e5]; exact c), if_neg c, if_neg c, e5, e7]
        exact ⟨_, _, _, _, _, _, rfl, hn, hJ⟩
set_option maxHeartbeats 400000 in
theorem melt_x {cF nF pF jF S so s1 s2 t1 t2 yj yo y1 y2 y3 y4 y5 sg cl cs : Nat → Int32} {sk wd : Nat → Int64} {cb cc co zp z now fm yc laws top law j : Int32} {L : Cls} (hX : LWX so s1 s2 t1 t2 yj yo y1 y2 y3 y4 y5 yc L) (hR : LWR sg cl cs law L) (hn : NE nF S) (hp : PE pF S) (hJ : JE jF S) (h : IV S) (ezp : zp = S 1) (ez : z = S 2) (en : now = S 5) (ef : fm = S 6) (hl : ¬ hs law laws = 0) : (fX10_melt_yes nF zp pF z jF now fm cF cb cc co so s1 s2 t1 t2 yj yo y1 y2 y3 y4 y5 yc j).2.2.2.2 = (fX11_melt laws top sg cl cs sk wd S z fm law j).2.2.2 := by
  subst ef
  unfold fX10_melt_yes fX11_melt
  rw [if_neg hl]
  by_cases d : hs j z = 0
  · rw [if_pos d, if_pos d]
  · have hj := hs_j h ez d
    rw [if_neg d, if_neg d, bndv (jg1 hJ hj), cj5 hj]
    by_cases w : S (168 + 9 * j.toNatClampNeg + 5) = 13
    · rw [if_pos w, if_pos w]
    · have e1 := cls_mel (cF := cF) (cb := cb) (ch := cc) (co := co) hX hn hp hJ ezp en rfl hj (JOK_of (h.1 j hj)) w
      have e2 := ref_mel (sk := sk) (wd := wd) (top := top) hR hj (JOK_of (h.1 j hj)) w
      rw [if_neg w, if_neg w, bnd_eq, bnd_eq, bnd_eq, bnd_eq, bnd_eq, bnd_eq]
      rw [bnd_eq, bnd_eq, bnd_eq, bnd_eq, bnd_eq]
      exact e1.trans e2.symm
