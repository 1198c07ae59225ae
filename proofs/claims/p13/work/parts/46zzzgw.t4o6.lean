set_option maxHeartbeats 400000 in
theorem ref_ahs {cf sg cl cs : Nat → Int32} {E : (Nat → Int64) → (Nat → Int64) → (Nat → Int32) → Int32 → Int32 → (Int32 × (Nat → Int64) × (Nat → Int64) × (Nat → Int32) × (Nat → Int32) × Int32)} {zn z m law p ch : Int32} {L : Cls} (hL : LWR sg cl cs law L) (hc : cf law.toNatClampNeg = ch) : ∀ (n N : Nat) (g1 g2 : Nat → Int64) (S : Nat → Int32) (v i : Int32), IV S → S 0 = zn → S 2 = z → S 6 = m → (S 5).toInt + n ≤ 199999 → 0 ≤ i.toInt → i.toInt + n = p.toInt → n < N → ∃ v' g1' g2', fl_mX11_ahead_66 sg cl cs cf zn z m law p E N g1 g2 S v i = E g1' g2' (hoursS L ch n S) v' p := by
  intro n
  induction n with
  | zero =>
    intro N g1 g2 S v i h e0 e2 e6 h5 i0 iz hN
    obtain ⟨N, rfl⟩ : ∃ m, N = m + 1 := ⟨N - 1, by omega⟩
    have e : i = p := Int32.toInt_inj.mp (by omega)
    refine ⟨v, g1, g2, ?_⟩
    show fb_mX11_ahead_66 sg cl cs cf zn z m law p E (fl_mX11_ahead_66 sg cl cs cf zn z m law p E N) g1 g2 S v i = _
    unfold fb_mX11_ahead_66
    rw [if_pos (show p ≤ i by rw [e]; exact Int32.le_refl _), e]
    rfl
  | succ n ih =>
    intro N g1 g2 S v i h e0 e2 e6 h5 i0 iz hN
    obtain ⟨N, rfl⟩ : ∃ m, N = m + 1 := ⟨N - 1, by omega⟩
    have ei : (i + 1).toInt = i.toInt + 1 := zadd1 (by have := p.toInt_lt; omega)
    obtain ⟨a1, a2, a3⟩ := hour_iv (L := L) (ch := ch) h (by omega)
    have e5 : (S 5 + 1).toInt = (S 5).toInt + 1 := zadd1 (by omega)
    obtain ⟨v1, x1, x2, ex⟩ := ref_hour (sk := g1) (wd := g2) (top := v) hL hc h e0 e2 e6
    have go := ih N x1 x2 (hourS S L ch) v1 (i + 1) a1 ((a2 0 (by decide) (by decide) (Or.inl (by decide))).trans e0) ((a2 2 (by decide) (by decide) (Or.inl (by decide))).trans e2) ((a2 6 (by decide) (by decide) (Or.inl (by decide))).trans e6) (by rw [a3, e5]; omega) (by omega) (by omega) (by omega)
    show ∃ v' g1' g2', fb_mX11_ahead_66 sg cl cs cf zn z m law p E (fl_mX11_ahead_66 sg cl cs cf zn z m law p E N) g1 g2 S v i = E g1' g2' (hoursS L ch n (hourS S L ch)) v' p
    generalize fl_mX11_ahead_66 sg cl cs cf zn z m law p E N = K at go ⊢
    unfold fb_mX11_ahead_66
    rw [if_neg (show ¬ p ≤ i by rw [Int32.le_iff_toInt_le]; omega), bndv ex, bnd_eq, bnd_eq, bnd_eq, bnd_eq, bnd_eq]
    exact go
set_option maxHeartbeats 400000 in
theorem cls_ahs {pF so s1 s2 t1 t2 yj yo y1 y2 y3 y4 y5 : Nat → Int32} {E : Int32 → Int32 → Int32 → (Nat → Int32) → Int32 → Int32 → (Nat → Int32) → (Nat → Int32) → Int32 → (Int32 × Int32 × Int32 × Int32 × Int32 × (Nat → Int32) × Int32 × (Nat → Int32) × Int32 × (Nat → Int32) × Int32 × (Nat → Int32) × Int32 × (Nat → Int32) × Int32 × (Nat → Int32) × Int32 × Int32 × Int32 × (Nat → Int32) × Int32)} {zn zp z fm ch yc p : Int32} {L : Cls} (hL : LWX so s1 s2 t1 t2 yj yo y1 y2 y3 y4 y5 yc L) : ∀ (n N : Nat) (now x : Int32) (nF jF : Nat → Int32) (cb cc co : Int32) (cF : Nat → Int32) (i : Int32) (S : Nat → Int32), IV S → S 0 = zn → S 1 = zp → S 2 = z → S 5 = now → S 6 = fm → S 7 = x → NE nF S → PE pF S → JE jF S → (S 5).toInt + n ≤ 199999 → 0 ≤ i.toInt → i.toInt + n = p.toInt → n < N → ∃ nF' jF' cb' cc' co' cF', fl_mX10_ahead_yes_46 so s1 s2 t1 t2 yj yo y1 y2 y3 y4 y5 ch yc p fm zn zp pF z E N cb cc co cF now x nF jF i = E cb' cc' co' cF' (hoursS L ch n S 5) (hoursS L ch n S 7) nF' jF' p ∧ NE nF' (hoursS L ch n S) ∧ JE jF' (hoursS L ch n S) := by
  intro n
  induction n with
  | zero =>
    intro N now x nF jF cb cc co cF i S h e0 e1 e2 e5 e6 e7 hn hp hJ h5 i0 iz hN
    obtain ⟨N, rfl⟩ : ∃ m, N = m + 1 := ⟨N - 1, by omega⟩
    have e : i = p := Int32.toInt_inj.mp (by omega)
    refine ⟨nF, jF, cb, cc, co, cF, ?_, hn, hJ⟩
    show fb_mX10_ahead_yes_46 so s1 s2 t1 t2 yj yo y1 y2 y3 y4 y5 ch yc p fm zn zp pF z E (fl_mX10_ahead_yes_46 so s1 s2 t1 t2 yj yo y1 y2 y3 y4 y5 ch yc p fm zn zp pF z E N) cb cc co cF now x nF jF i = E cb cc co cF (S 5) (S 7) nF jF p
    unfold fb_mX10_ahead_yes_46
    rw [if_pos (show p ≤ i by rw [e]; exact Int32.le_refl _), e, e5, e7]
  | succ n ih =>
    intro N now x nF jF cb cc co cF i S h e0 e1 e2 e5 e6 e7 hn hp hJ h5 i0 iz hN
    obtain ⟨N, rfl⟩ : ∃ m, N = m + 1 := ⟨N - 1, by omega⟩
    have ei : (i + 1).toInt = i.toInt + 1 := zadd1 (by have := p.toInt_lt; omega)
    obtain ⟨a1, a2, a3⟩ := hour_iv (L := L) (ch := ch) h (by omega)
    have s5 : (S 5 + 1).toInt = (S 5).toInt + 1 := zadd1 (by omega)
    obtain ⟨c1, c2, c3, c4, n1, j1, ex, hn1, hp1, hj1⟩ := cls_step (cF := cF) (cb := cb) (cc := cc) (co := co) (ch := ch) hL h e0 e1 e2 e5 e6 e7 hn hp hJ
    have go := ih N (hourS S L ch 5) (hourS S L ch 7) n1 j1 c1 c2 c3 c4 (i + 1) (hourS S L ch) a1 ((a2 0 (by decide) (by decide) (Or.inl (by decide))).trans e0) ((a2 1 (by decide) (by decide) (Or.inl (by decide))).trans e1) ((a2 2 (by decide) (by decide) (Or.inl (by decide))).trans e2) rfl ((a2 6 (by decide) (by decide) (Or.inl (by decide))).trans e6) rfl hn1 hp1 hj1 (by rw [a3, s5]; omega) (by omega) (by omega) (by omega)
    show ∃ nF' jF' cb' cc' co' cF', fb_mX10_ahead_yes_46 so s1 s2 t1 t2 yj yo y1 y2 y3 y4 y5 ch yc p fm zn zp pF z E (fl_mX10_ahead_yes_46 so s1 s2 t1 t2 yj yo y1 y2 y3 y4 y5 ch yc p fm zn zp pF z E N) cb cc co cF now x nF jF i = E cb' cc' co' cF' (hoursS L ch n (hourS S L ch) 5) (hoursS L ch n (hourS S L ch) 7) nF' jF' p ∧ NE nF' (hoursS L ch n (hourS S L ch)) ∧ JE jF' (hoursS L ch n (hourS S L ch))
    generalize fl_mX10_ahead_yes_46 so s1 s2 t1 t2 yj yo y1 y2 y3 y4 y5 ch yc p fm zn zp pF z E N = K at go ⊢
    unfold fb_mX10_ahead_yes_46
    rw [if_neg (show ¬ p ≤ i by rw [Int32.le_iff_toInt_le]; omega), bndv ex, bnd_eq, bnd_eq, bnd_eq, bnd_eq, bnd_eq, bnd_eq, bnd_eq, bnd_eq, bnd_eq]
    exact go
set_option maxHeartbeats 400000 in
theorem ah_kp {S : Nat → Int32} {E : (Nat → Int32) → Int32 → (Int32 × (Nat → Int64) × (Nat → Int64) × (Nat → Int32) × (Nat → Int32) × Int32)} : ∀ (n N : Nat) (g : Nat → Int32) (i : Int32), 0 ≤ i.toInt → i.toInt + n = 360 → n < N → fl_mX11_ahead_35 S E N g i = E (mixW S g i.toNatClampNeg) 360 := by
  intro n
  induction n with
  | zero =>
    intro N g i i0 iz hN
    obtain ⟨N, rfl⟩ : ∃ m, N = m + 1 := ⟨N - 1, by omega⟩
    have e : i = 360 := Int32.toInt_inj.mp (by rw [k360]; omega)
    show fb_mX11_ahead_35 S E (fl_mX11_ahead_35 S E N) g i = _
    unfold fb_mX11_ahead_35
    rw [e, if_pos (by decide), show (360 : Int32).toNatClampNeg = 360 from by decide, mixW_e]
  | succ n ih =>
    intro N g i i0 iz hN
    obtain ⟨N, rfl⟩ : ∃ m, N = m + 1 := ⟨N - 1, by omega⟩
    have ti := tn_eq i0
    have ei : (i + 1).toInt = i.toInt + 1 := zadd1 (by omega)
    have t1 : (i + 1).toNatClampNeg = i.toNatClampNeg + 1 := by show (i + 1).toInt.toNat = i.toInt.toNat + 1; omega
    show fb_mX11_ahead_35 S E (fl_mX11_ahead_35 S E N) g i = _
    unfold fb_mX11_ahead_35
    rw [if_neg (show ¬ 360 ≤ i by rw [Int32.le_iff_toInt_le, k360]; omega), bnd_eq, bnd_eq, bnd_eq, ih N _ (i + 1) (by omega) (by omega) (by omega), t1, mixW_u (by omega)]
set_option maxHeartbeats 400000 in
theorem ah_bk {c : Nat → Int32} {E : (Nat → Int32) → Int32 → (Int32 × (Nat → Int64) × (Nat → Int64) × (Nat → Int32) × (Nat → Int32) × Int32)} : ∀ (n N : Nat) (g : Nat → Int32) (i : Int32), 0 ≤ i.toInt → i.toInt + n = 360 → n < N → fl_mX11_ahead_178 c E N g i = E (mixW c g i.toNatClampNeg) 360 := by
  intro n
  induction n with
  | zero =>
    intro N g i i0 iz hN
    obtain ⟨N, rfl⟩ : ∃ m, N = m + 1 := ⟨N - 1, by omega⟩
    have e : i = 360 := Int32.toInt_inj.mp (by rw [k360]; omega)
    show fb_mX11_ahead_178 c E (fl_mX11_ahead_178 c E N) g i = _
    unfold fb_mX11_ahead_178
    rw [e, if_pos (by decide), show (360 : Int32).toNatClampNeg = 360 from by decide, mixW_e]
  | succ n ih =>
    intro N g i i0 iz hN
    obtain ⟨N, rfl⟩ : ∃ m, N = m + 1 := ⟨N - 1, by omega⟩
    have ti := tn_eq i0
    have ei : (i + 1).toInt = i.toInt + 1 := zadd1 (by omega)
    have t1 : (i + 1).toNatClampNeg = i.toNatClampNeg + 1 := by show (i + 1).toInt.toNat = i.toInt.toNat + 1; omega
    show fb_mX11_ahead_178 c E (fl_mX11_ahead_178 c E N) g i = _
    unfold fb_mX11_ahead_178
    rw [if_neg (show ¬ 360 ≤ i by rw [Int32.le_iff_toInt_le, k360]; omega), bnd_eq, bnd_eq, bnd_eq, ih N _ (i + 1) (by omega) (by omega) (by omega), t1, mixW_u (by omega)]

/-- DROPS of all jars, of all stores, jars that are not GONE -/
def smJ (S : Nat → Int32) : Nat → Int32 → Int32 → Int32
  | 0, _, c => c
  | n + 1, k, c => smJ S n (k + 1) (c + S (168 + 9 * k.toNatClampNeg + 4))
def smN (S : Nat → Int32) : Nat → Int32 → Int32 → Int32
  | 0, _, c => c
  | n + 1, k, c => smN S n (k + 1) (c + S (20 + 4 * k.toNatClampNeg + 3))
def cnJ (S : Nat → Int32) : Nat → Int32 → Int32 → Int32
  | 0, _, c => c
  | n + 1, k, c => cnJ S n (k + 1) (if S (168 + 9 * k.toNatClampNeg + 5) = 13 then c else c + 1)
def c13J (S : Nat → Int32) : Nat → Int32 → Int32 → Int32
  | 0, _, c => c
  | n + 1, k, c => c13J S n (k + 1) (if S (168 + 9 * k.toNatClampNeg + 5) = 13 then c + 1 else c)
set_option maxHeartbeats 400000 in
theorem cn_13 {S : Nat → Int32} : ∀ (n : Nat) (k a b : Int32), 0 ≤ a.toInt → 0 ≤ b.toInt → a.toInt + b.toInt + n ≤ 16 → (cnJ S n k a).toInt + (c13J S n k b).toInt = a.toInt + b.toInt + n := by
  intro n
  induction n with
  | zero => intro k a b _ _ _; show a.toInt + b.toInt = _; omega
  | succ n ih =>
    intro k a b a0 b0 h
    have ea : (a + 1).toInt = a.toInt + 1 := zadd1 (by omega)
    have eb : (b + 1).toInt = b.toInt + 1 := zadd1 (by omega)
    unfold cnJ c13J
    by_cases q : S (168 + 9 * k.toNatClampNeg + 5) = 13
    · rw [if_pos q, if_pos q, ih (k + 1) a (b + 1) a0 (by omega) (by omega)]; omega
    · rw [if_neg q, if_neg q, ih (k + 1) (a + 1) b (by omega) b0 (by omega)]; omega
set_option maxHeartbeats 400000 in
theorem cls_smJ {jF S : Nat → Int32} {z : Int32} {E : Int32 → Int32 → Int32} (hJ : JE jF S) (hz : z.toInt ≤ 16) : ∀ (n N : Nat) (k c : Int32), 0 ≤ k.toInt → k.toInt + n = z.toInt → n < N → fl_mX9_dropsOfAll_4 z jF E N k c = E z (smJ S n k c) := by
  intro n
  induction n with
  | zero =>
    intro N k c k0 kz hN
    obtain ⟨N, rfl⟩ : ∃ m, N = m + 1 := ⟨N - 1, by omega⟩
    have e : k = z := Int32.toInt_inj.mp (by omega)
    show fb_mX9_dropsOfAll_4 z jF E (fl_mX9_dropsOfAll_4 z jF E N) k c = _
    unfold fb_mX9_dropsOfAll_4
    rw [if_pos (show z ≤ k by rw [e]; exact Int32.le_refl _), e]
    rfl
  | succ n ih =>
    intro N k c k0 kz hN
    obtain ⟨N, rfl⟩ : ∃ m, N = m + 1 := ⟨N - 1, by omega⟩
    have ek : (k + 1).toInt = k.toInt + 1 := zadd1 (by omega)
    have hk : rJ k := ⟨k0, by omega⟩
    show fb_mX9_dropsOfAll_4 z jF E (fl_mX9_dropsOfAll_4 z jF E N) k c = E z (smJ S n (k + 1) (c + S (168 + 9 * k.toNatClampNeg + 4)))
    unfold fb_mX9_dropsOfAll_4
    rw [if_neg (show ¬ z ≤ k by rw [Int32.le_iff_toInt_le]; omega), bndv (jg0 hJ hk), bnd_eq, bnd_eq]
    exact ih N (k + 1) _ (by omega) (by omega) (by omega)
set_option maxHeartbeats 400000 in
theorem cls_smN {nF S : Nat → Int32} {z : Int32} {E : Int32 → Int32 → Int32} (hn : NE nF S) (hz : z.toInt ≤ 12) : ∀ (n N : Nat) (k c : Int32), 0 ≤ k.toInt → k.toInt + n = z.toInt → n < N → fl_mX9_dropsOfAll_35 z nF E N k c = E z (smN S n k c) := by
  intro n
  induction n with
  | zero =>
    intro N k c k0 kz hN
    obtain ⟨N, rfl⟩ : ∃ m, N = m + 1 := ⟨N - 1, by omega⟩
    have e : k = z := Int32.toInt_inj.mp (by omega)
    show fb_mX9_dropsOfAll_35 z nF E (fl_mX9_dropsOfAll_35 z nF E N) k c = _
    unfold fb_mX9_dropsOfAll_35
    rw [if_pos (show z ≤ k by rw [e]; exact Int32.le_refl _), e]
    rfl
  | succ n ih =>
    intro N k c k0 kz hN
    obtain ⟨N, rfl⟩ : ∃ m, N = m + 1 := ⟨N - 1, by omega⟩
    have ek : (k + 1).toInt = k.toInt + 1 := zadd1 (by omega)
    have hk : rN k := ⟨k0, by omega⟩
    show fb_mX9_dropsOfAll_35 z nF E (fl_mX9_dropsOfAll_35 z nF E N) k c = E z (smN S n (k + 1) (c + S (20 + 4 * k.toNatClampNeg + 3)))
    unfold fb_mX9_dropsOfAll_35
    rw [if_neg (show ¬ z ≤ k by rw [Int32.le_iff_toInt_le]; omega), bndv (nget (c := 3) hn hk (by decide) (by decide)), bnd_eq, bnd_eq]
    exact ih N (k + 1) _ (by omega) (by omega) (by omega)
set_option maxHeartbeats 400000 in
theorem cls_c13 {jF S : Nat → Int32} {z : Int32} {E : Int32 → Int32 → Int32} (hJ : JE jF S) (hz : z.toInt ≤ 16) : ∀ (n N : Nat) (k c : Int32), 0 ≤ k.toInt → k.toInt + n = z.toInt → n < N → fl_mX9_jarsAt_4 z jF 13 E N k c = E z (c13J S n k c) := by
  intro n
  induction n with
  | zero =>
    intro N k c k0 kz hN
    obtain ⟨N, rfl⟩ : ∃ m, N = m + 1 := ⟨N - 1, by omega⟩
    have e : k = z := Int32.toInt_inj.mp (by omega)
    show fb_mX9_jarsAt_4 z jF 13 E (fl_mX9_jarsAt_4 z jF 13 E N) k c = _
    unfold fb_mX9_jarsAt_4
    rw [if_pos (show z ≤ k by rw [e]; exact Int32.le_refl _), e]
    rfl
  | succ n ih =>
    intro N k c k0 kz hN
    obtain ⟨N, rfl⟩ : ∃ m, N = m + 1 := ⟨N - 1, by omega⟩
    have ek : (k + 1).toInt = k.toInt + 1 := zadd1 (by omega)
    have hk : rJ k := ⟨k0, by omega⟩
    have go := fun (c : Int32) => ih N (k + 1) c (by omega) (by omega) (by omega)
    show fb_mX9_jarsAt_4 z jF 13 E (fl_mX9_jarsAt_4 z jF 13 E N) k c = E z (c13J S n (k + 1) (if S (168 + 9 * k.toNatClampNeg + 5) = 13 then c + 1 else c))
    unfold fb_mX9_jarsAt_4
    rw [if_neg (show ¬ z ≤ k by rw [Int32.le_iff_toInt_le]; omega), bndv (jg1 hJ hk)]
    by_cases q : S (168 + 9 * k.toNatClampNeg + 5) = 13
    · rw [if_pos q, if_pos q, bnd_eq, bnd_eq]; exact go _
    · rw [if_neg q, if_neg q, bnd_eq]; exact go _
set_option maxHeartbeats 400000 in
theorem ref_smJ {S : Nat → Int32} {z : Int32} {E : Int32 → Int32 → Int32 → (Int32 × (Nat → Int64) × (Nat → Int64) × (Nat → Int32) × (Nat → Int32) × Int32)} (hz : z.toInt ≤ 16) : ∀ (n N : Nat) (k a c : Int32), 0 ≤ k.toInt → k.toInt + n = z.toInt → n < N → fl_mX11_ahead_92 z S E N k a c = E z (cnJ S n k a) (smJ S n k c) := by
  intro n
  induction n with
  | zero =>
    intro N k a c k0 kz hN
    obtain ⟨N, rfl⟩ : ∃ m, N = m + 1 := ⟨N - 1, by omega⟩
    have e : k = z := Int32.toInt_inj.mp (by omega)
    show fb_mX11_ahead_92 z S E (fl_mX11_ahead_92 z S E N) k a c = _
    unfold fb_mX11_ahead_92
    rw [if_pos (show z ≤ k by rw [e]; exact Int32.le_refl _), e]
    rfl
  | succ n ih =>
    intro N k a c k0 kz hN
    obtain ⟨N, rfl⟩ : ∃ m, N = m + 1 := ⟨N - 1, by omega⟩
    have ek : (k + 1).toInt = k.toInt + 1 := zadd1 (by omega)
    have hk : rJ k := ⟨k0, by omega⟩
    have go := fun (a c : Int32) => ih N (k + 1) a c (by omega) (by omega) (by omega)
    show fb_mX11_ahead_92 z S E (fl_mX11_ahead_92 z S E N) k a c = E z (cnJ S n (k + 1) (if S (168 + 9 * k.toNatClampNeg + 5) = 13 then a else a + 1)) (smJ S n (k + 1) (c + S (168 + 9 * k.toNatClampNeg + 4)))
    unfold fb_mX11_ahead_92
    rw [if_neg (show ¬ z ≤ k by rw [Int32.le_iff_toInt_le]; omega), cj4 hk, bnd_eq, cj5 hk]
    by_cases q : S (168 + 9 * k.toNatClampNeg + 5) = 13
    · rw [if_pos q, if_pos q, bnd_eq, bnd_eq, Int32.add_zero]; exact go _ _
    · rw [if_neg q, if_neg q, bnd_eq, bnd_eq]; exact go _ _
set_option maxHeartbeats 400000 in
theorem ref_smN {S : Nat → Int32} {z : Int32} {E : Int32 → Int32 → (Int32 × (Nat → Int64) × (Nat → Int64) × (Nat → Int32) × (Nat → Int32) × Int32)} (hz : z.toInt ≤ 12) : ∀ (n N : Nat) (k c : Int32), 0 ≤ k.toInt → k.toInt + n = z.toInt → n < N → fl_mX11_ahead_146 z S E N k c = E z (smN S n k c) := by
  intro n
  induction n with
  | zero =>
    intro N k c k0 kz hN
    obtain ⟨N, rfl⟩ : ∃ m, N = m + 1 := ⟨N - 1, by omega⟩
    have e : k = z := Int32.toInt_inj.mp (by omega)
    show fb_mX11_ahead_146 z S E (fl_mX11_ahead_146 z S E N) k c = _
    unfold fb_mX11_ahead_146
    rw [if_pos (show z ≤ k by rw [e]; exact Int32.le_refl _), e]
    rfl
  | succ n ih =>
    intro N k c k0 kz hN
    obtain ⟨N, rfl⟩ : ∃ m, N = m + 1 := ⟨N - 1, by omega⟩
    have ek : (k + 1).toInt = k.toInt + 1 := zadd1 (by omega)
    have hk : rN k := ⟨k0, by omega⟩
    show fb_mX11_ahead_146 z S E (fl_mX11_ahead_146 z S E N) k c = E z (smN S n (k + 1) (c + S (20 + 4 * k.toNatClampNeg + 3)))
    unfold fb_mX11_ahead_146
    rw [if_neg (show ¬ z ≤ k by rw [Int32.le_iff_toInt_le]; omega), c_nd (q := 3) (c := 3) hk (by decide) (by decide), bnd_eq, bnd_eq]
    exact ih N (k + 1) _ (by omega) (by omega) (by omega)
/-- AHEAD: what is answered -/
def ahA (S : Nat → Int32) (L : Cls) (ch p q : Int32) : Int32 := if wi p 240 = 0 then -1 else if wi q 1 = 0 then -1 else if q = 0 then smN (hoursS L ch p.toNatClampNeg S) (S 0).toNatClampNeg 0 (smJ (hoursS L ch p.toNatClampNeg S) (S 2).toNatClampNeg 0 0) else cnJ (hoursS L ch p.toNatClampNeg S) (S 2).toNatClampNeg 0 0
set_option maxHeartbeats 400000 in
theorem ref_ahead {cf sg cl cs S kp : Nat → Int32} {sk wd : Nat → Int64} {laws top zn z m law p q ch : Int32} {L : Cls} (hL : LWR sg cl cs law L) (hc : cf law.toNatClampNeg = ch) (h : IV S) (h5 : (S 5).toInt ≤ 99999) (e0 : S 0 = zn) (e2 : S 2 = z) (e6 : S 6 = m) (hl : ¬ hs law laws = 0) : ∃ v' g1' g2' kp', fX11_ahead laws top sg cl cs cf sk wd S kp zn z m law p q = (v', g1', g2', S, kp', ahA S L ch p q) := by
  unfold fX11_ahead ahA
  rw [if_neg hl, li_wj (hi := 240) (by decide), li_wj (hi := 1) (by decide)]
  by_cases a : wi p 240 = 0
  · rw [if_pos a, if_pos a]
    exact ⟨_, _, _, _, rfl⟩
  · rw [if_neg a, if_neg a]
    by_cases b : wi q 1 = 0
    · rw [if_pos b, if_pos b]
      exact ⟨_, _, _, _, rfl⟩
    · rw [if_neg b, if_neg b]
      have ra := wi_r a
      rw [show (240 : Int32).toInt = 240 from by decide] at ra
      have tp := tn_eq ra.1
      have hz := h.2.2.2.2.2.2.1
      have hn := h.2.2.2.2.2.2.2
      have tz := tn_eq hz.1
      have tn := tn_eq hn.1
      obtain ⟨u1, u2⟩ := hours_iv (L := L) (ch := ch) p.toNatClampNeg S h (by omega)
      rw [ah_kp (S := S) 360 _ kp 0 (by decide) (by decide) (by decide), c_k0]
      obtain ⟨v', g1', g2', e⟩ := ref_ahs (E := (fun (w83_0_1 : Nat → Int64) (w83_1_1 : Nat → Int64) (w83_2_1 : Nat → Int32) (w83_3_1 : Int32) (w83_4_1 : Int32) => fl_mX11_ahead_92 z w83_2_1 (fun (w143_0_2 : Int32) (w143_1_2 : Int32) (w143_2_2 : Int32) => fl_mX11_ahead_146 zn w83_2_1 (fun (w175_0_3 : Int32) (w175_1_3 : Int32) => fl_mX11_ahead_178 (mixW S kp 0) (fun (w206_0_4 : Nat → Int32) (w206_1_4 : Int32) => if q = 0 then ((w83_3_1, w83_0_1, w83_1_1, w206_0_4, mixW S kp 0, w175_1_3)) else ((w83_3_1, w83_0_1, w83_1_1, w206_0_4, mixW S kp 0, w143_1_2))) (((360 : Int32).toInt - (0 : Int32).toInt).toNat + 1) w83_2_1 0) (((zn : Int32).toInt - (0 : Int32).toInt).toNat + 1) 0 w143_2_2) (((z : Int32).toInt - (0 : Int32).toInt).toNat + 1) 0 0 0)) (p := p) hL hc p.toNatClampNeg (((p : Int32).toInt - (0 : Int32).toInt).toNat + 1) sk wd S top 0 h e0 e2 e6 (by omega) (by decide) (by rw [z_i0]; omega) (by rw [z_i0]; omega)
      refine ⟨v', g1', g2', mixW S kp 0, e.trans ?_⟩
      generalize hU : hoursS L ch p.toNatClampNeg S = U at u1 u2 ⊢
      have w := ref_smJ (S := U) (E := (fun (w143_0_2 : Int32) (w143_1_2 : Int32) (w143_2_2 : Int32) => fl_mX11_ahead_146 zn U (fun (w175_0_3 : Int32) (w175_1_3 : Int32) => fl_mX11_ahead_178 (mixW S kp 0) (fun (w206_0_4 : Nat → Int32) (w206_1_4 : Int32) => if q = 0 then ((v', g1', g2', w206_0_4, mixW S kp 0, w175_1_3)) else ((v', g1', g2', w206_0_4, mixW S kp 0, w143_1_2))) (((360 : Int32).toInt - (0 : Int32).toInt).toNat + 1) U 0) (((zn : Int32).toInt - (0 : Int32).toInt).toNat + 1) 0 w143_2_2)) (z := z) (by rw [← e2]; exact hz.2) (S 2).toNatClampNeg (((z : Int32).toInt - (0 : Int32).toInt).toNat + 1) 0 0 0 (by decide) (by rw [z_i0, ← e2]; omega) (by rw [z_i0, ← e2]; omega)
      refine w.trans ?_
      have w2 := ref_smN (S := U) (E := (fun (w175_0_3 : Int32) (w175_1_3 : Int32) => fl_mX11_ahead_178 (mixW S kp 0) (fun (w206_0_4 : Nat → Int32) (w206_1_4 : Int32) => if q = 0 then ((v', g1', g2', w206_0_4, mixW S kp 0, w175_1_3)) else ((v', g1', g2', w206_0_4, mixW S kp 0, cnJ U (S 2).toNatClampNeg 0 0))) (((360 : Int32).toInt - (0 : Int32).toInt).toNat + 1) U 0)) (z := zn) (by rw [← e0]; exact hn.2) (S 0).toNatClampNeg (((zn : Int32).toInt - (0 : Int32).toInt).toNat + 1) 0 (smJ U (S 2).toNatClampNeg 0 0) (by decide) (by rw [z_i0, ← e0]; omega) (by rw [z_i0, ← e0]; omega)
      refine w2.trans ?_
      refine (ah_bk (c := mixW S kp 0) 360 _ U 0 (by decide) (by decide) (by decide)).trans ?_
      have eS : mixW (mixW S kp 0) U (0 : Int32).toNatClampNeg = S := by
        funext i
        rw [c_k0]
        unfold mixW
        by_cases r : 0 ≤ i ∧ i < 360
        · rw [if_pos r, if_pos r]
        · rw [if_neg r]
          exact u2 i (by omega) (by omega) (by omega)
      rw [eS]
      by_cases c : q = 0
      · rw [if_pos c, if_pos c]
      · rw [if_neg c, if_neg c]
