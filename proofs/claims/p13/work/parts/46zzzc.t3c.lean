theorem lx_num {x tF : Nat → Int32} {T a w num lo hi : Int32} (H : LXH x tF T) (a0 : ¬ a < 0) (aT : ¬ T < a) (hp : ¬ T ≤ sp x T a) (hd : ¬ fX2_isDigit (x (sp x T a).toNatClampNeg) = 0) : ((¬ de x T (sp x T a) - sp x T a ≤ 5) ∧ tk x T (sp x T a) = 259 ∧ ∃ v' : Int32, fX11_numberHere T a w num tF lo hi = (de x T (sp x T a), fX11_fails w 1 (sp x T a), v', 0)) ∨ ((¬ tk x T (sp x T a) = 259) ∧ (¬ tk x T (sp x T a) < 1000) ∧ (¬ 100999 < tk x T (sp x T a)) ∧ fX11_numberHere T a w num tF lo hi = if li (tk x T (sp x T a) - 1000).toInt64 lo.toInt64 hi.toInt64 = 0 then (de x T (sp x T a), fX11_fails w 1 (sp x T a), tk x T (sp x T a) - 1000, 0) else (de x T (sp x T a), w, tk x T (sp x T a) - 1000, 1)) := by
  obtain ⟨q1, q2, q3, q4⟩ := sp_in (x := x) a0 aT
  rw [tk_d hp hd]
  unfold fX11_numberHere
  simp only [bnd, lx_see H a0 aT]
  generalize sp x T a = p at *
  have hi0 : ¬ isd tF T p = 0 := by rw [LXH_d H q3, if_neg hp]; exact hd
  rw [if_neg hi0]
  obtain ⟨v', z1, z2⟩ := nh_L H q3 (E := fun (w88_0_0 : Int32) (w88_1_0 : Int32) => if 5 < (w88_0_0 - p) then (w88_0_0, fX11_fails w 1 p, w88_1_0, 0) else (if (li w88_1_0.toInt64 lo.toInt64 hi.toInt64) = 0 then (w88_0_0, fX11_fails w 1 p, w88_1_0, 0) else (w88_0_0, w, w88_1_0, 1))) _ p 0 i_irr q2 (Nat.lt_succ_self _)
  rw [z1]
  unfold fX2_numberToken
  obtain ⟨g1, g2⟩ := de_p (x := x) _ p q2 (Nat.lt_succ_self _)
  by_cases c : de x T p - p ≤ 5
  · right
    obtain ⟨y1, y2⟩ := z2 c
    have hT4 := H.2.1
    have hs := w_sub q3 g1 (show ¬ 400 < de x T p by rw [Int32.lt_iff_toInt_lt] at *; omega)
    have c2 : (de x T p).toInt - p.toInt ≤ 5 := by
      have e5 : (5 : Int32).toInt = 5 := by decide
      rw [Int32.le_iff_toInt_le, hs, e5] at c
      exact c
    have hnb := nv_b (x := x) ((de x T p).toInt - p.toInt).toNat p 0 (by omega) (by decide) (by
      have e0 : (0 : Int32).toInt = 0 := by decide
      rw [e0]
      exact Int.pow_pos (by decide)) y2
    rw [if_pos c, nt_L _ p 0 g1 (Nat.lt_succ_self _), if_neg (show ¬ 5 < de x T p - p by rw [Int32.lt_iff_toInt_lt]; rw [Int32.le_iff_toInt_le] at c; omega), ← y1]
    rw [← y1] at hnb
    have e1 : (1000 : Int32).toInt = 1000 := by decide
    have hv : (1000 + v').toInt = 1000 + v'.toInt := by rw [zadd (by rw [e1]; omega) (by rw [e1]; omega), e1]
    have e9 : (259 : Int32).toInt = 259 := by decide
    have e10 : (100999 : Int32).toInt = 100999 := by decide
    rw [show 1000 + v' - 1000 = v' by grind]
    refine ⟨fun q => ?_, ?_, ?_, rfl⟩
    · have := congrArg Int32.toInt q
      omega
    · rw [Int32.lt_iff_toInt_lt]; omega
    · rw [Int32.lt_iff_toInt_lt]; omega
  · left
    rw [if_neg c, if_pos (show 5 < de x T p - p by rw [Int32.lt_iff_toInt_lt]; rw [Int32.le_iff_toInt_le] at c; omega)]
    exact ⟨c, rfl, v', rfl⟩
theorem tk_wd {x : Nat → Int32} {T p : Int32} (hp : ¬ T ≤ p) (hl : ¬ fX2_isLetter (x p.toNatClampNeg) = 0) : tk x T p = 260 ∨ ∃ j : Nat, j < 20 ∧ tk x T p = Int32.ofNat (300 + j) := by
  rw [tk_l hp hl]
  exact wtk_in WL 300 (by decide)
theorem tk_kinds {x tF : Nat → Int32} {T p : Int32} (H : LXH x tF T) (p0 : ¬ p < 0) (hs : sp x T p = p) (hp : ¬ T ≤ p) : ((¬ fX2_isLetter (x p.toNatClampNeg) = 0) ∧ (tk x T p = 260 ∨ ((¬ tk x T p < 300) ∧ tk x T p < 320))) ∨ ((¬ fX2_isDigit (x p.toNatClampNeg) = 0) ∧ (tk x T p = 259 ∨ ((¬ tk x T p < 1000) ∧ ¬ 100999 < tk x T p))) ∨ (fX2_isLetter (x p.toNatClampNeg) = 0 ∧ fX2_isDigit (x p.toNatClampNeg) = 0 ∧ (¬ tk x T p < 0) ∧ tk x T p < 258) := by
  by_cases hl : fX2_isLetter (x p.toNatClampNeg) = 0
  · by_cases hd : fX2_isDigit (x p.toNatClampNeg) = 0
    · right; right
      refine ⟨hl, hd, ?_⟩
      rw [tk_o hp hl hd]
      obtain ⟨b0, b1⟩ := LXH_b H p0 hp
      split
      · split
        · decide
        · decide
      · exact ⟨b0, by grind⟩
    · right; left
      refine ⟨hd, ?_⟩
      have z := lx_num (w := 0) (num := 0) (lo := 0) (hi := 0) H p0 (show ¬ T < p by grind) (by rw [hs]; exact hp) (by rw [hs]; exact hd)
      rw [hs] at z
      rcases z with z | z
      · exact Or.inl z.2.1
      · exact Or.inr ⟨z.2.1, z.2.2.1⟩
  · left
    refine ⟨hl, ?_⟩
    rcases tk_wd hp hl with h | ⟨j, hj, h⟩
    · exact Or.inl h
    · right
      rw [h]
      have e := t_of (k := 300 + j) (by omega)
      have e3 : (300 : Int32).toInt = 300 := by decide
      have e4 : (320 : Int32).toInt = 320 := by decide
      rw [Int32.lt_iff_toInt_lt, Int32.lt_iff_toInt_lt, e, e3, e4]
      omega
theorem tk_258 {x tF : Nat → Int32} {T p : Int32} (H : LXH x tF T) (p0 : ¬ p < 0) (hs : sp x T p = p) (hp : ¬ T ≤ p) : ¬ tk x T p = 258 := by
  rcases tk_kinds H p0 hs hp with h | h | h
  · grind
  · grind
  · grind
theorem lx_w {x tF : Nat → Int32} {T a : Int32} (H : LXH x tF T) (a0 : ¬ a < 0) (aT : ¬ T < a) (j : Nat) (hj : j < 20) (W : Int64) (hW : W.toInt = lvv (WL[j]'hj) 0) (hl : lts (WL[j]'hj) = true) (h1 : 0 < (WL[j]'hj).length) (h7 : (WL[j]'hj).length < 8) : fX11_isWord T a tF W = (sp x T a, if tk x T (sp x T a) = Int32.ofNat (300 + j) then 1 else 0) := by
  rw [lx_word H a0 aT (WL[j]'hj) W hW hl h1 h7]
  obtain ⟨q1, q2, q3, q4⟩ := sp_in (x := x) a0 aT
  generalize sp x T a = p at *
  have hno : we x T p = p → ¬ mtb x (we x T p) (WL[j]'hj) p = true := by
    intro e q
    rw [e] at q
    have := ((mtb_mtl (x := x) (s := p) (WL[j]'hj) p i_irr).mp q).1
    omega
  have e0 := t_of (k := 300 + j) (by omega)
  by_cases hp : T ≤ p
  · rw [if_neg (hno (by rw [we_eq, if_pos hp])), if_neg]
    unfold tk
    rw [if_pos hp]
    intro q
    have := congrArg Int32.toInt q
    rw [e0] at this
    have e2 : (258 : Int32).toInt = 258 := by decide
    omega
  · by_cases hl2 : fX2_isLetter (x p.toNatClampNeg) = 0
    · rw [if_neg (hno (by rw [we_eq, if_neg hp, if_pos hl2])), if_neg]
      intro q
      have e3 : (1000 : Int32).toInt = 1000 := by decide
      have e4 : (258 : Int32).toInt = 258 := by decide
      have e5 : (259 : Int32).toInt = 259 := by decide
      have q' := congrArg Int32.toInt q
      rw [e0] at q'
      rcases tk_kinds H q3 q4 hp with h | h | h
      · exact h.1 hl2
      · rcases h.2 with g | g
        · rw [g] at q'; omega
        · have g1 := g.1; rw [Int32.lt_iff_toInt_lt] at g1; omega
      · have g1 := h.2.2.2; rw [Int32.lt_iff_toInt_lt] at g1; omega
    · have z : wtk x p (we x T p) WL 300 = Int32.ofNat (300 + j) ↔ mtb x (we x T p) (WL[j]'hj) p = true := wtk_iff (x := x) (p := p) (s := we x T p) WL 300 j hj (by decide +kernel) (by decide) (by decide)
      rw [tk_l hp hl2]
      by_cases m : mtb x (we x T p) (WL[j]'hj) p = true
      · rw [if_pos m, if_pos (z.mpr m)]
      · rw [if_neg m, if_neg (fun q => m (z.mp q))]
def CI (x : Nat → Int32) (T tc : Int32) (tf pf : Nat → Int32) (c : Int32) : Prop := (¬ tc < 0) ∧ (∀ k : Int32, ¬ k < 0 → k < tc → tf k.toNatClampNeg = tk x T (pf k.toNatClampNeg) ∧ (¬ pf k.toNatClampNeg < 0) ∧ (¬ T ≤ pf k.toNatClampNeg) ∧ (k + 1 = tc → nx x T (pf k.toNatClampNeg) = sp x T c) ∧ (k + 1 < tc → pf (k + 1).toNatClampNeg = nx x T (pf k.toNatClampNeg))) ∧ (tc = 0 → sp x T 0 = sp x T c) ∧ (0 < tc → pf 0 = sp x T 0)
def CO (x : Nat → Int32) (T : Int32) (u : Int32 × (Nat → Int32) × (Nat → Int32)) : Prop := CH (tk x T) (nx x T) u.1 u.2.1 u.2.2 ∧ 0 < u.1 ∧ u.2.2 0 = sp x T 0
theorem CI_c {x : Nat → Int32} {T tc c d : Int32} {tf pf : Nat → Int32} (h : CI x T tc tf pf c) (e : sp x T c = sp x T d) : CI x T tc tf pf d := by
  unfold CI at *
  rw [← e]
  exact h
theorem kn_ne {k t : Int32} (k0 : ¬ k < 0) (h : k < t) : t.toNatClampNeg ≠ k.toNatClampNeg := by
  show t.toInt.toNat ≠ k.toInt.toNat
  rw [Int32.lt_iff_toInt_lt] at k0 h
  rw [z_i0] at k0
  omega
theorem k_or {k t : Int32} (t0 : ¬ t < 0) (t4 : ¬ 400 < t) (h : k < t + 1) : k < t ∨ k = t := by
  have e : (t + 1).toInt = t.toInt + 1 := zadd1 (by
    rw [Int32.lt_iff_toInt_lt] at t4
    have : (400 : Int32).toInt = 400 := by decide
    omega)
  rw [Int32.lt_iff_toInt_lt, e] at h
  by_cases q : k.toInt = t.toInt
  · exact Or.inr (Int32.toInt_inj.mp q)
  · left
    rw [Int32.lt_iff_toInt_lt]
    omega
theorem at_1 {tc t p : Int32} {tf pf : Nat → Int32} (h : ¬ 400 < tc) : fX2_addToken tc tf pf t p = (tc + 1, upd tf tc.toNatClampNeg t, upd pf tc.toNatClampNeg p) := by
  unfold fX2_addToken
  simp only [bnd]
  rw [if_neg (show ¬ 401 ≤ tc by grind), if_neg (show ¬ 401 ≤ tc by grind)]
theorem cut_end {x : Nat → Int32} {T tc : Int32} {tf pf : Nat → Int32} (T0 : ¬ T < 0) (T4 : ¬ 400 < T) (t4 : ¬ 400 < tc) (h : CI x T tc tf pf T) : CO x T (fX2_addToken tc tf pf 258 T) := by
  rw [at_1 t4]
  obtain ⟨t0, h1, h2, h3⟩ := h
  have hT : sp x T T = T := by
    rw [sp_eq, if_pos (i_le_of i_irr)]
  have e258 : tk x T T = 258 := by
    unfold tk
    rw [if_pos (i_le_of i_irr)]
  refine ⟨⟨by show ¬ 401 < tc + 1; grind, ?_⟩, by show 0 < tc + 1; grind, ?_⟩
  · intro k k0 k1
    show (upd tf tc.toNatClampNeg 258) k.toNatClampNeg = tk x T ((upd pf tc.toNatClampNeg T) k.toNatClampNeg) ∧ (¬ (upd pf tc.toNatClampNeg T) k.toNatClampNeg < 0) ∧ (¬ 400 < (upd pf tc.toNatClampNeg T) k.toNatClampNeg) ∧ (¬ tk x T ((upd pf tc.toNatClampNeg T) k.toNatClampNeg) = 258 → k + 1 < tc + 1 ∧ (upd pf tc.toNatClampNeg T) (k + 1).toNatClampNeg = nx x T ((upd pf tc.toNatClampNeg T) k.toNatClampNeg))
    rcases k_or t0 t4 k1 with g | g
    · obtain ⟨a1, a2, a3, a4, a5⟩ := h1 k k0 g
      rw [upd_ne (kn_ne k0 g), upd_ne (kn_ne k0 g)]
      refine ⟨a1, a2, by grind, fun _ => ⟨by grind, ?_⟩⟩
      by_cases q : k + 1 = tc
      · rw [q, pk_us, a4 q, hT]
      · have q2 : k + 1 < tc := by grind
        rw [upd_ne (kn_ne (by grind) q2)]
        exact a5 q2
    · subst g
      rw [pk_us, pk_us]
      exact ⟨e258.symm, T0, T4, fun q => absurd e258 q⟩
  · show (upd pf tc.toNatClampNeg T) 0 = sp x T 0
    by_cases q : tc = 0
    · rw [q, h2 q, hT]
      exact pk_us
    · have q2 : 0 < tc := by grind
      rw [show (0 : Nat) = (0 : Int32).toNatClampNeg from rfl, upd_ne (kn_ne (by decide) q2)]
      exact h3 q2
theorem cut_add {x : Nat → Int32} {T tc i : Int32} {tf pf : Nat → Int32} (T4 : ¬ 400 < T) (i0 : ¬ i < 0) (iT : ¬ T ≤ i) (t4 : ¬ i < tc) (hx : ¬ x i.toNatClampNeg = 32) (h : CI x T tc tf pf i) : CI x T (tc + 1) (upd tf tc.toNatClampNeg (fX2_tokenOf x i (fX2_stopOf x T i))) (upd pf tc.toNatClampNeg i) (fX2_stopOf x T i) := by
  obtain ⟨t0, h1, h2, h3⟩ := h
  have hs : sp x T i = i := by rw [sp_eq, if_neg iT, if_neg hx]
  have et : tk x T i = fX2_tokenOf x i (fX2_stopOf x T i) := by unfold tk; rw [if_neg iT]
  refine ⟨by grind, ?_, fun q => absurd q (by grind), fun _ => ?_⟩
  · intro k k0 k1
    rcases k_or t0 (show ¬ 400 < tc by grind) k1 with g | g
    · obtain ⟨a1, a2, a3, a4, a5⟩ := h1 k k0 g
      rw [upd_ne (kn_ne k0 g), upd_ne (kn_ne k0 g)]
      refine ⟨a1, a2, a3, fun q => absurd q (by grind), fun _ => ?_⟩
      by_cases q : k + 1 = tc
      · rw [q, pk_us, a4 q, hs]
      · have q2 : k + 1 < tc := by grind
        rw [upd_ne (kn_ne (by grind) q2)]
        exact a5 q2
    · subst g
      rw [pk_us, pk_us]
      exact ⟨et.symm, i0, iT, fun _ => rfl, fun q => absurd q (by grind)⟩
  · by_cases q : tc = 0
    · rw [q, h2 q, hs]
      exact pk_us
    · have q2 : 0 < tc := by grind
      rw [show (0 : Nat) = (0 : Int32).toNatClampNeg from rfl, upd_ne (kn_ne (by decide) q2)]
      exact h3 q2
theorem cutL {x : Nat → Int32} {T : Int32} (T0 : ¬ T < 0) (T4 : ¬ 400 < T) : ∀ (N : Nat) (i tc stop : Int32) (tf pf : Nat → Int32), ¬ i < 0 → ¬ T < i → ¬ T < stop → ¬ i < tc → (T.toInt - i.toInt).toNat < N → CI x T tc tf pf (if i < stop then stop else i) → CO x T (fl_mX2_cut_10 x T (fun v0 g1 g2 _ _ => fX2_addToken v0 g1 g2 258 T) N tc tf pf i stop) := by
  intro N
  induction N with
  | zero => intro i tc stop tf pf i0 iT sT it hn hc; exact absurd hn (Nat.not_lt_zero _)
  | succ N ih =>
    intro i tc stop tf pf i0 iT sT it hn hc
    show CO x T (fb_mX2_cut_10 x T (fun v0 g1 g2 _ _ => fX2_addToken v0 g1 g2 258 T) (fl_mX2_cut_10 x T (fun v0 g1 g2 _ _ => fX2_addToken v0 g1 g2 258 T) N) tc tf pf i stop)
    unfold fb_mX2_cut_10
    simp only [bnd]
    by_cases b : T ≤ i
    · rw [if_pos b]
      have ei : i = T := by
        apply Int32.toInt_inj.mp
        rw [Int32.le_iff_toInt_le] at b
        rw [Int32.lt_iff_toInt_lt] at iT
        omega
      rw [if_neg (show ¬ i < stop by rw [ei]; exact sT), ei] at hc
      exact cut_end T0 T4 (by grind) hc
    · rw [if_neg b]
      have h3 := a_lt b
      by_cases c : i < stop
      · rw [if_pos c]
        rw [if_pos c] at hc
        refine ih (i + 1) tc stop tf pf (a_nn b i0) (a_le b) sT (by rw [Int32.lt_iff_toInt_lt] at *; omega) (n_sub b hn) ?_
        by_cases d : i + 1 < stop
        · rw [if_pos d]
          exact hc
        · rw [if_neg d]
          have e : i + 1 = stop := by
            apply Int32.toInt_inj.mp
            have hT := z32 T
            have b' := b
            rw [Int32.le_iff_toInt_le] at b'
            have e1 : (i + 1).toInt = i.toInt + 1 := zadd1 (by omega)
            rw [Int32.lt_iff_toInt_lt] at c d
            omega
          rw [e]
          exact hc
      · rw [if_neg c]
        rw [if_neg c] at hc
        have d : ¬ i + 1 < stop := by rw [Int32.lt_iff_toInt_lt] at *; omega
        by_cases e : x i.toNatClampNeg = 32
        · rw [if_pos e]
          refine ih (i + 1) tc stop tf pf (a_nn b i0) (a_le b) sT (by rw [Int32.lt_iff_toInt_lt] at *; omega) (n_sub b hn) ?_
          rw [if_neg d]
          refine CI_c hc ?_
          rw [sp_eq, if_neg b, if_pos e]
        · rw [if_neg e, at_1 (show ¬ 400 < tc by rw [Int32.lt_iff_toInt_lt] at *; omega)]
          obtain ⟨s1, s2⟩ := so_in (x := x) b
          refine ih (i + 1) (tc + 1) (fX2_stopOf x T i) _ _ (a_nn b i0) (a_le b) s2 (by grind) (n_sub b hn) ?_
          have z := cut_add T4 i0 b it e hc
          by_cases d2 : i + 1 < fX2_stopOf x T i
          · rw [if_pos d2]
            exact z
          · rw [if_neg d2]
            have e2 : i + 1 = fX2_stopOf x T i := by
              apply Int32.toInt_inj.mp
              have hT := z32 T
              have b' := b
              rw [Int32.le_iff_toInt_le] at b'
              have e1 : (i + 1).toInt = i.toInt + 1 := zadd1 (by omega)
              rw [Int32.lt_iff_toInt_lt] at s1 d2
              omega
            rw [e2]
            exact z
theorem c_cut {x : Nat → Int32} {T : Int32} {tf pf : Nat → Int32} (T0 : ¬ T < 0) (T4 : ¬ 400 < T) : CO x T (fX2_cut tf pf x T) := by
  unfold fX2_cut
  exact cutL T0 T4 _ 0 0 0 tf pf (by decide) T0 T0 (by decide) (Nat.lt_succ_self _) ⟨by decide, fun k k0 k1 => absurd k1 (by grind), fun _ => rfl, fun q => absurd q (by decide)⟩
theorem lw_0 {x tF : Nat → Int32} {T a : Int32} (H : LXH x tF T) (a0 : ¬ a < 0) (aT : ¬ T < a) : fX11_isWord T a tF 470020945000 = (sp x T a, if tk x T (sp x T a) = 300 then 1 else 0) := lx_w H a0 aT 0 (by decide) 470020945000 (by decide +kernel) (by decide +kernel) (by decide) (by decide)
theorem lw_1 {x tF : Nat → Int32} {T a : Int32} (H : LXH x tF T) (a0 : ¬ a < 0) (aT : ¬ T < a) : fX11_isWord T a tF 1752135026 = (sp x T a, if tk x T (sp x T a) = 301 then 1 else 0) := lx_w H a0 aT 1 (by decide) 1752135026 (by decide +kernel) (by decide +kernel) (by decide) (by decide)
theorem lw_2 {x tF : Nat → Int32} {T a : Int32} (H : LXH x tF T) (a0 : ¬ a < 0) (aT : ¬ T < a) : fX11_isWord T a tF 6578553 = (sp x T a, if tk x T (sp x T a) = 302 then 1 else 0) := lx_w H a0 aT 2 (by decide) 6578553 (by decide +kernel) (by decide +kernel) (by decide) (by decide)
theorem lw_3 {x tF : Nat → Int32} {T a : Int32} (H : LXH x tF T) (a0 : ¬ a < 0) (aT : ¬ T < a) : fX11_isWord T a tF 114784769370228 = (sp x T a, if tk x T (sp x T a) = 303 then 1 else 0) := lx_w H a0 aT 3 (by decide) 114784769370228 (by decide +kernel) (by decide +kernel) (by decide) (by decide)
theorem lw_4 {x tF : Nat → Int32} {T a : Int32} (H : LXH x tF T) (a0 : ¬ a < 0) (aT : ¬ T < a) : fX11_isWord T a tF 7566702 = (sp x T a, if tk x T (sp x T a) = 304 then 1 else 0) := lx_w H a0 aT 4 (by decide) 7566702 (by decide +kernel) (by decide +kernel) (by decide) (by decide)
theorem lw_5 {x tF : Nat → Int32} {T a : Int32} (H : LXH x tF T) (a0 : ¬ a < 0) (aT : ¬ T < a) : fX11_isWord T a tF 1668246628 = (sp x T a, if tk x T (sp x T a) = 305 then 1 else 0) := lx_w H a0 aT 5 (by decide) 1668246628 (by decide +kernel) (by decide +kernel) (by decide) (by decide)
theorem lw_6 {x tF : Nat → Int32} {T a : Int32} (H : LXH x tF T) (a0 : ¬ a < 0) (aT : ¬ T < a) : fX11_isWord T a tF 1852793957 = (sp x T a, if tk x T (sp x T a) = 306 then 1 else 0) := lx_w H a0 aT 6 (by decide) 1852793957 (by decide +kernel) (by decide +kernel) (by decide) (by decide)
theorem lw_7 {x tF : Nat → Int32} {T a : Int32} (H : LXH x tF T) (a0 : ¬ a < 0) (aT : ¬ T < a) : fX11_isWord T a tF 431416635507 = (sp x T a, if tk x T (sp x T a) = 307 then 1 else 0) := lx_w H a0 aT 7 (by decide) 431416635507 (by decide +kernel) (by decide +kernel) (by decide) (by decide)
theorem lw_8 {x tF : Nat → Int32} {T a : Int32} (H : LXH x tF T) (a0 : ¬ a < 0) (aT : ¬ T < a) : fX11_isWord T a tF 1717922932 = (sp x T a, if tk x T (sp x T a) = 308 then 1 else 0) := lx_w H a0 aT 8 (by decide) 1717922932 (by decide +kernel) (by decide +kernel) (by decide) (by decide)
theorem lw_9 {x tF : Nat → Int32} {T a : Int32} (H : LXH x tF T) (a0 : ¬ a < 0) (aT : ¬ T < a) : fX11_isWord T a tF 1935764596 = (sp x T a, if tk x T (sp x T a) = 309 then 1 else 0) := lx_w H a0 aT 9 (by decide) 1935764596 (by decide +kernel) (by decide +kernel) (by decide) (by decide)
theorem lw_10 {x tF : Nat → Int32} {T a : Int32} (H : LXH x tF T) (a0 : ¬ a < 0) (aT : ¬ T < a) : fX11_isWord T a tF 1735356005 = (sp x T a, if tk x T (sp x T a) = 310 then 1 else 0) := lx_w H a0 aT 10 (by decide) 1735356005 (by decide +kernel) (by decide +kernel) (by decide) (by decide)
theorem lw_11 {x tF : Nat → Int32} {T a : Int32} (H : LXH x tF T) (a0 : ¬ a < 0) (aT : ¬ T < a) : fX11_isWord T a tF 1835363444 = (sp x T a, if tk x T (sp x T a) = 311 then 1 else 0) := lx_w H a0 aT 11 (by decide) 1835363444 (by decide +kernel) (by decide +kernel) (by decide) (by decide)
theorem lw_12 {x tF : Nat → Int32} {T a : Int32} (H : LXH x tF T) (a0 : ¬ a < 0) (aT : ¬ T < a) : fX11_isWord T a tF 1919251316 = (sp x T a, if tk x T (sp x T a) = 312 then 1 else 0) := lx_w H a0 aT 12 (by decide) 1919251316 (by decide +kernel) (by decide +kernel) (by decide) (by decide)
theorem lw_13 {x tF : Nat → Int32} {T a : Int32} (H : LXH x tF T) (a0 : ¬ a < 0) (aT : ¬ T < a) : fX11_isWord T a tF 495672455781 = (sp x T a, if tk x T (sp x T a) = 313 then 1 else 0) := lx_w H a0 aT 13 (by decide) 495672455781 (by decide +kernel) (by decide +kernel) (by decide) (by decide)
theorem lw_14 {x tF : Nat → Int32} {T a : Int32} (H : LXH x tF T) (a0 : ¬ a < 0) (aT : ¬ T < a) : fX11_isWord T a tF 422877229940 = (sp x T a, if tk x T (sp x T a) = 314 then 1 else 0) := lx_w H a0 aT 14 (by decide) 422877229940 (by decide +kernel) (by decide +kernel) (by decide) (by decide)
theorem lw_15 {x tF : Nat → Int32} {T a : Int32} (H : LXH x tF T) (a0 : ¬ a < 0) (aT : ¬ T < a) : fX11_isWord T a tF 426952976750 = (sp x T a, if tk x T (sp x T a) = 315 then 1 else 0) := lx_w H a0 aT 15 (by decide) 426952976750 (by decide +kernel) (by decide +kernel) (by decide) (by decide)
theorem lw_16 {x tF : Nat → Int32} {T a : Int32} (H : LXH x tF T) (a0 : ¬ a < 0) (aT : ¬ T < a) : fX11_isWord T a tF 26982 = (sp x T a, if tk x T (sp x T a) = 316 then 1 else 0) := lx_w H a0 aT 16 (by decide) 26982 (by decide +kernel) (by decide +kernel) (by decide) (by decide)
theorem lw_17 {x tF : Nat → Int32} {T a : Int32} (H : LXH x tF T) (a0 : ¬ a < 0) (aT : ¬ T < a) : fX11_isWord T a tF 28530 = (sp x T a, if tk x T (sp x T a) = 317 then 1 else 0) := lx_w H a0 aT 17 (by decide) 28530 (by decide +kernel) (by decide +kernel) (by decide) (by decide)
theorem lw_18 {x tF : Nat → Int32} {T a : Int32} (H : LXH x tF T) (a0 : ¬ a < 0) (aT : ¬ T < a) : fX11_isWord T a tF 6385252 = (sp x T a, if tk x T (sp x T a) = 318 then 1 else 0) := lx_w H a0 aT 18 (by decide) 6385252 (by decide +kernel) (by decide +kernel) (by decide) (by decide)
theorem lw_19 {x tF : Nat → Int32} {T a : Int32} (H : LXH x tF T) (a0 : ¬ a < 0) (aT : ¬ T < a) : fX11_isWord T a tF 7237492 = (sp x T a, if tk x T (sp x T a) = 319 then 1 else 0) := lx_w H a0 aT 19 (by decide) 7237492 (by decide +kernel) (by decide +kernel) (by decide) (by decide)
def AT (x : Nat → Int32) (T a p : Int32) : Prop := (¬ a < 0) ∧ (¬ T < a) ∧ sp x T a = p
theorem AT_in {x : Nat → Int32} {T a p : Int32} (h : AT x T a p) : (¬ p < a) ∧ (¬ T < p) ∧ (¬ p < 0) ∧ AT x T p p := by
  obtain ⟨a0, aT, e⟩ := h
  obtain ⟨q1, q2, q3, q4⟩ := sp_in (x := x) a0 aT
  rw [e] at *
  exact ⟨q1, q2, q3, q3, q2, q4⟩
theorem AT_see {x tF : Nat → Int32} {T a p : Int32} (H : LXH x tF T) (h : AT x T a p) : fX11_see T a tF = (p, cA x T p) := by
  obtain ⟨a0, aT, e⟩ := h
  rw [lx_see H a0 aT, e]
theorem AT_w0 {x tF : Nat → Int32} {T a p : Int32} (H : LXH x tF T) (h : AT x T a p) : fX11_isWord T a tF 470020945000 = (p, if tk x T p = 300 then 1 else 0) := by
  obtain ⟨a0, aT, e⟩ := h
  rw [lw_0 H a0 aT, e]
theorem AT_w1 {x tF : Nat → Int32} {T a p : Int32} (H : LXH x tF T) (h : AT x T a p) : fX11_isWord T a tF 1752135026 = (p, if tk x T p = 301 then 1 else 0) := by
  obtain ⟨a0, aT, e⟩ := h
  rw [lw_1 H a0 aT, e]
theorem AT_w2 {x tF : Nat → Int32} {T a p : Int32} (H : LXH x tF T) (h : AT x T a p) : fX11_isWord T a tF 6578553 = (p, if tk x T p = 302 then 1 else 0) := by
  obtain ⟨a0, aT, e⟩ := h
  rw [lw_2 H a0 aT, e]
theorem AT_w3 {x tF : Nat → Int32} {T a p : Int32} (H : LXH x tF T) (h : AT x T a p) : fX11_isWord T a tF 114784769370228 = (p, if tk x T p = 303 then 1 else 0) := by
  obtain ⟨a0, aT, e⟩ := h
  rw [lw_3 H a0 aT, e]
theorem AT_w4 {x tF : Nat → Int32} {T a p : Int32} (H : LXH x tF T) (h : AT x T a p) : fX11_isWord T a tF 7566702 = (p, if tk x T p = 304 then 1 else 0) := by
  obtain ⟨a0, aT, e⟩ := h
  rw [lw_4 H a0 aT, e]
theorem AT_w5 {x tF : Nat → Int32} {T a p : Int32} (H : LXH x tF T) (h : AT x T a p) : fX11_isWord T a tF 1668246628 = (p, if tk x T p = 305 then 1 else 0) := by
  obtain ⟨a0, aT, e⟩ := h
  rw [lw_5 H a0 aT, e]
theorem AT_w6 {x tF : Nat → Int32} {T a p : Int32} (H : LXH x tF T) (h : AT x T a p) : fX11_isWord T a tF 1852793957 = (p, if tk x T p = 306 then 1 else 0) := by
  obtain ⟨a0, aT, e⟩ := h
  rw [lw_6 H a0 aT, e]
theorem AT_w7 {x tF : Nat → Int32} {T a p : Int32} (H : LXH x tF T) (h : AT x T a p) : fX11_isWord T a tF 431416635507 = (p, if tk x T p = 307 then 1 else 0) := by
  obtain ⟨a0, aT, e⟩ := h
  rw [lw_7 H a0 aT, e]
theorem AT_w8 {x tF : Nat → Int32} {T a p : Int32} (H : LXH x tF T) (h : AT x T a p) : fX11_isWord T a tF 1717922932 = (p, if tk x T p = 308 then 1 else 0) := by
  obtain ⟨a0, aT, e⟩ := h
  rw [lw_8 H a0 aT, e]
theorem AT_w9 {x tF : Nat → Int32} {T a p : Int32} (H : LXH x tF T) (h : AT x T a p) : fX11_isWord T a tF 1935764596 = (p, if tk x T p = 309 then 1 else 0) := by
  obtain ⟨a0, aT, e⟩ := h
  rw [lw_9 H a0 aT, e]
theorem AT_w10 {x tF : Nat → Int32} {T a p : Int32} (H : LXH x tF T) (h : AT x T a p) : fX11_isWord T a tF 1735356005 = (p, if tk x T p = 310 then 1 else 0) := by
  obtain ⟨a0, aT, e⟩ := h
  rw [lw_10 H a0 aT, e]
theorem AT_w11 {x tF : Nat → Int32} {T a p : Int32} (H : LXH x tF T) (h : AT x T a p) : fX11_isWord T a tF 1835363444 = (p, if tk x T p = 311 then 1 else 0) := by
  obtain ⟨a0, aT, e⟩ := h
  rw [lw_11 H a0 aT, e]
theorem AT_w12 {x tF : Nat → Int32} {T a p : Int32} (H : LXH x tF T) (h : AT x T a p) : fX11_isWord T a tF 1919251316 = (p, if tk x T p = 312 then 1 else 0) := by
  obtain ⟨a0, aT, e⟩ := h
  rw [lw_12 H a0 aT, e]
theorem AT_w13 {x tF : Nat → Int32} {T a p : Int32} (H : LXH x tF T) (h : AT x T a p) : fX11_isWord T a tF 495672455781 = (p, if tk x T p = 313 then 1 else 0) := by
  obtain ⟨a0, aT, e⟩ := h
  rw [lw_13 H a0 aT, e]
theorem AT_w14 {x tF : Nat → Int32} {T a p : Int32} (H : LXH x tF T) (h : AT x T a p) : fX11_isWord T a tF 422877229940 = (p, if tk x T p = 314 then 1 else 0) := by
  obtain ⟨a0, aT, e⟩ := h
  rw [lw_14 H a0 aT, e]
theorem AT_w15 {x tF : Nat → Int32} {T a p : Int32} (H : LXH x tF T) (h : AT x T a p) : fX11_isWord T a tF 426952976750 = (p, if tk x T p = 315 then 1 else 0) := by
  obtain ⟨a0, aT, e⟩ := h
  rw [lw_15 H a0 aT, e]
theorem AT_w16 {x tF : Nat → Int32} {T a p : Int32} (H : LXH x tF T) (h : AT x T a p) : fX11_isWord T a tF 26982 = (p, if tk x T p = 316 then 1 else 0) := by
  obtain ⟨a0, aT, e⟩ := h
  rw [lw_16 H a0 aT, e]
theorem AT_w17 {x tF : Nat → Int32} {T a p : Int32} (H : LXH x tF T) (h : AT x T a p) : fX11_isWord T a tF 28530 = (p, if tk x T p = 317 then 1 else 0) := by
  obtain ⟨a0, aT, e⟩ := h
  rw [lw_17 H a0 aT, e]
theorem AT_w18 {x tF : Nat → Int32} {T a p : Int32} (H : LXH x tF T) (h : AT x T a p) : fX11_isWord T a tF 6385252 = (p, if tk x T p = 318 then 1 else 0) := by
  obtain ⟨a0, aT, e⟩ := h
  rw [lw_18 H a0 aT, e]
theorem AT_w19 {x tF : Nat → Int32} {T a p : Int32} (H : LXH x tF T) (h : AT x T a p) : fX11_isWord T a tF 7237492 = (p, if tk x T p = 319 then 1 else 0) := by
  obtain ⟨a0, aT, e⟩ := h
  rw [lw_19 H a0 aT, e]
theorem t_cases {t : Int32} (h0 : ¬ t < 300) (h1 : ¬ 311 ≤ t) : t = 300 ∨ t = 301 ∨ t = 302 ∨ t = 303 ∨ t = 304 ∨ t = 305 ∨ t = 306 ∨ t = 307 ∨ t = 308 ∨ t = 309 ∨ t = 310 := by
  grind
theorem AT_wh {x tF : Nat → Int32} {T a p : Int32} (H : LXH x tF T) (h : AT x T a p) : fX11_wordHere T a tF = (p, if tk x T p < 300 then -1 else if 311 ≤ tk x T p then -1 else tk x T p - 300) := by
  have hp := (AT_in h).2.2.2
  unfold fX11_wordHere
  simp only [bnd, AT_w0 H h, AT_w1 H hp, AT_w2 H hp, AT_w3 H hp, AT_w4 H hp, AT_w5 H hp, AT_w6 H hp, AT_w7 H hp, AT_w8 H hp, AT_w9 H hp, AT_w10 H hp]
  generalize tk x T p = t
  by_cases c0 : t = 300
  · subst c0
    rfl
  · rw [if_neg c0, if_pos rfl]
    by_cases c1 : t = 301
    · subst c1
      rfl
    · rw [if_neg c1, if_pos rfl]
      by_cases c2 : t = 302
      · subst c2
        rfl
      · rw [if_neg c2, if_pos rfl]
        by_cases c3 : t = 303
        · subst c3
          rfl
        · rw [if_neg c3, if_pos rfl]
          by_cases c4 : t = 304
          · subst c4
            rfl
          · rw [if_neg c4, if_pos rfl]
            by_cases c5 : t = 305
            · subst c5
              rfl
            · rw [if_neg c5, if_pos rfl]
              by_cases c6 : t = 306
              · subst c6
                rfl
              · rw [if_neg c6, if_pos rfl]
                by_cases c7 : t = 307
                · subst c7
                  rfl
                · rw [if_neg c7, if_pos rfl]
                  by_cases c8 : t = 308
                  · subst c8
                    rfl
                  · rw [if_neg c8, if_pos rfl]
                    by_cases c9 : t = 309
                    · subst c9
                      rfl
                    · rw [if_neg c9, if_pos rfl]
                      by_cases c10 : t = 310
                      · subst c10
                        rfl
                      · rw [if_neg c10, if_pos rfl]
                        by_cases d : t < 300
                        · rw [if_pos d]
                        · rw [if_neg d]
                          by_cases e : (311 : Int32) ≤ t
                          · rw [if_pos e]
                          · exact absurd (t_cases d e) (by simp only [c0, c1, c2, c3, c4, c5, c6, c7, c8, c9, c10, or_false, not_false_eq_true])
theorem fails0 {kd p : Int32} : fX11_fails 0 kd p = flt p kd := by
  unfold fX11_fails
  rw [if_pos rfl]
  rfl
theorem st_l {x : Nat → Int32} {T p : Int32} (hpp : AT x T p p) (hp : ¬ T ≤ p) (hl : ¬ fX2_isLetter (x p.toNatClampNeg) = 0) : p < we x T p ∧ AT x T (we x T p) (nx x T p) := by
  obtain ⟨s1, s2⟩ := so_in (x := x) hp
  have e := so_l hp hl
  have e2 : nx x T p = sp x T (we x T p) := by unfold nx; rw [e]
  rw [e] at s1 s2
  exact ⟨s1, by have := hpp.1; rw [Int32.lt_iff_toInt_lt] at *; omega, s2, e2.symm⟩
theorem st_d {x : Nat → Int32} {T p : Int32} (hpp : AT x T p p) (hp : ¬ T ≤ p) (hd : ¬ fX2_isDigit (x p.toNatClampNeg) = 0) : p < de x T p ∧ AT x T (de x T p) (nx x T p) := by
  obtain ⟨s1, s2⟩ := so_in (x := x) hp
  have e := so_d hp hd
  have e2 : nx x T p = sp x T (de x T p) := by unfold nx; rw [e]
  rw [e] at s1 s2
  exact ⟨s1, by have := hpp.1; rw [Int32.lt_iff_toInt_lt] at *; omega, s2, e2.symm⟩
theorem tk_T {x : Nat → Int32} {T p : Int32} (hp : T ≤ p) : tk x T p = 258 := by
  unfold tk
  rw [if_pos hp]
def sgl (c : Int32) : Prop := (¬ c < 0) ∧ c < 128 ∧ fX2_isLetter c = 0 ∧ fX2_isDigit c = 0 ∧ (¬ c = 60) ∧ ¬ c = 62
theorem cA_tk {x tF : Nat → Int32} {T p c : Int32} (H : LXH x tF T) (hpp : AT x T p p) (hc : sgl c) : (cA x T p = c ↔ tk x T p = c) ∧ (tk x T p = c → (¬ T ≤ p) ∧ p < p + 1 ∧ AT x T (p + 1) (nx x T p) ∧ tF p.toNatClampNeg = c) := by
  obtain ⟨c0, c1, c2, c3, c4, c5⟩ := hc
  unfold cA
  by_cases hp : T ≤ p
  · rw [if_pos hp, tk_T hp]
    exact ⟨⟨fun q => absurd q (by grind), fun q => absurd q (by grind)⟩, fun q => absurd q (by grind)⟩
  · rw [if_neg hp]
    have hk := tk_kinds H hpp.1 hpp.2.2 hp
    by_cases hl : fX2_isLetter (x p.toNatClampNeg) = 0
    · by_cases hd : fX2_isDigit (x p.toNatClampNeg) = 0
      · have e := tk_o hp hl hd
        have es := so_o (T := T) hl hd
        by_cases q : (x p.toNatClampNeg = 60 ∨ x p.toNatClampNeg = 62) ∧ (¬ T ≤ p + 1) ∧ x (p + 1).toNatClampNeg = 61
        · rw [if_pos q] at e
          have n1 : ¬ tk x T p = c := by
            rw [e]
            intro g
            split at g
            · exact absurd g (by grind)
            · exact absurd g (by grind)
          have n2 : ¬ x p.toNatClampNeg = c := by
            intro g
            rcases q.1 with r | r
            · exact c4 (g.symm.trans r)
            · exact c5 (g.symm.trans r)
          exact ⟨⟨fun g => absurd g n2, fun g => absurd g n1⟩, fun g => absurd g n1⟩
        · rw [if_neg q] at e es
          rw [e]
          refine ⟨Iff.rfl, fun g => ⟨hp, a_lt hp, ⟨a_nn hp hpp.1, a_le hp, ?_⟩, (LXH_eq H hpp.1 hp c0 c1).mpr g⟩⟩
          unfold nx
          rw [es]
      · have n2 : ¬ x p.toNatClampNeg = c := fun g => hd (by rw [g]; exact c3)
        have n1 : ¬ tk x T p = c := by
          rcases hk with h | h | h
          · exact absurd hl h.1
          · rcases h.2 with g | g
            · rw [g]; grind
            · grind
          · exact absurd h.2.1 hd
        exact ⟨⟨fun g => absurd g n2, fun g => absurd g n1⟩, fun g => absurd g n1⟩
    · have n2 : ¬ x p.toNatClampNeg = c := fun g => hl (by rw [g]; exact c2)
      have n1 : ¬ tk x T p = c := by
        rcases hk with h | h | h
        · rcases h.2 with g | g
          · rw [g]; grind
          · grind
        · exact absurd (dig_nl h.1) hl
        · exact absurd h.1 hl
      exact ⟨⟨fun g => absurd g n2, fun g => absurd g n1⟩, fun g => absurd g n1⟩
def VM (x : Nat → Int32) (T p md : Int32) (r : Except Int32 Int32) (u : Int32 × Int32 × Int32 × Int32 × (Nat → Int32) × (Nat → Int32) × Int32) : Prop := match r with
  | .error e => u.2.1 = e ∧ u.2.2.2.2.2.2 = 0
  | .ok _ => p < u.1 ∧ AT x T u.1 (nx x T p) ∧ u.2.1 = 0 ∧ u.2.2.2.1 = md + 1 ∧ u.2.2.2.2.2.2 = 1
theorem mk_60 {md p : Int32} (m6 : ¬ 60 < md) : fX11_makes 0 md p = if md < 60 then (0, md + 1, 1) else (flt p 3, md, 0) := by
  unfold fX11_makes
  simp only [bnd, fails0]
  by_cases h : md < 60
  · rw [if_pos h, if_neg (show ¬ md = 60 by grind)]
  · rw [if_neg h, if_pos (show md = 60 by grind)]
theorem r_val {x tF : Nat → Int32} {T a p num text md : Int32} {sg lg : Nat → Int32} (H : LXH x tF T) (h : AT x T a p) (m6 : ¬ 60 < md) : VM x T p md (svl (tk x T p) p md) (fX11_value T a 0 num text md tF sg lg) := by
  obtain ⟨q1, q2, q3, hpp⟩ := AT_in h
  unfold fX11_value
  simp only [bnd, AT_see H h, LXH_d H q3, AT_wh H hpp, mk_60 m6, fails0, lx_pass H q3]
  by_cases hp : T ≤ p
  · rw [tk_T hp, if_pos hp, if_pos rfl, if_neg (by decide)]
    exact ⟨rfl, rfl⟩
  · rw [if_neg hp]
    have hk := tk_kinds H q3 hpp.2.2 hp
    by_cases hd : fX2_isDigit (x p.toNatClampNeg) = 0
    · rw [if_pos hd]
      by_cases t3 : tk x T p < 300
      · have t9 : ¬ tk x T p = 259 := by
          rcases hk with g | g | g
          · grind
          · exact absurd hd g.1
          · grind
        rw [if_pos t3, if_neg (by decide)]
        unfold svl
        rw [if_pos t3, if_neg t9, if_neg (by grind)]
        exact ⟨rfl, rfl⟩
      · rw [if_neg t3]
        unfold svl
        rw [if_neg t3]
        have hlt : tk x T p < 320 ∧ ¬ fX2_isLetter (x p.toNatClampNeg) = 0 := by
          rcases hk with g | g | g
          · exact ⟨by grind, g.1⟩
          · exact absurd hd g.1
          · exact absurd g.2.2.2 (by grind)
        by_cases t1 : (311 : Int32) ≤ tk x T p
        · rw [if_pos t1, if_pos t1, if_neg (show ¬ tk x T p = 259 by grind), if_neg (show ¬ (1000 : Int32) ≤ tk x T p by grind), if_neg (show ¬ (0 : Int32) ≤ -1 by decide)]
          exact ⟨rfl, rfl⟩
        · rw [if_neg t1, if_neg t1, if_pos (show (0 : Int32) ≤ tk x T p - 300 by grind), if_neg (show ¬ tk x T p = 259 by grind)]
          by_cases d : md < 60
          · simp only [if_pos d]
            rw [if_neg (by decide)]
            obtain ⟨s1, s2⟩ := st_l hpp hp hlt.2
            exact ⟨s1, s2, rfl, rfl, rfl⟩
          · simp only [if_neg d, if_true]
            exact ⟨rfl, rfl⟩
    · rw [if_neg hd]
      obtain ⟨s1, s2⟩ := st_d hpp hp hd
      have z := lx_num (w := 0) (num := num) (lo := 0) (hi := 99999) H hpp.1 hpp.2.1 (by rw [hpp.2.2]; exact hp) (by rw [hpp.2.2]; exact hd)
      rw [hpp.2.2] at z
      rcases z with ⟨_, z2, v', z3⟩ | ⟨z1, z2, z3, z4⟩
      · rw [z3, z2, if_pos rfl, fails0]
        exact ⟨rfl, rfl⟩
      · rw [li_if (lo := 0) (hi := 99999) rfl rfl, if_neg (show ¬ tk x T p - 1000 < 0 by grind), if_neg (show ¬ 99999 < tk x T p - 1000 by grind), if_neg (by decide)] at z4
        rw [z4]
        dsimp only
        rw [if_neg (by decide), mk_60 m6]
        unfold svl
        rw [if_neg (show ¬ tk x T p < 300 by grind), if_pos (show 311 ≤ tk x T p by grind), if_neg z1, if_pos (show 1000 ≤ tk x T p by grind)]
        by_cases d : md < 60
        · simp only [if_pos d]
          rw [if_neg (by decide)]
          exact ⟨s1, s2, rfl, rfl, rfl⟩
        · simp only [if_neg d, if_true]
          exact ⟨rfl, rfl⟩
def ess (tk nx : Int32 → Int32) : Nat → Int32 → Int32 → Except Int32 (Int32 × Int32)
  | 0, _, _ => .error 0
  | m + 1, p, n => exb (svl (tk p) p n) (fun _ => if fX2_joinOf (tk (nx p)) = -1 then .ok (nx p, n + 1) else ess tk nx m (nx (nx p)) (n + 1))
theorem ess_s {tk nx : Int32 → Int32} {m : Nat} {p n : Int32} : ess tk nx (m + 1) p n = exb (svl (tk p) p n) (fun _ => if fX2_joinOf (tk (nx p)) = -1 then .ok (nx p, n + 1) else ess tk nx m (nx (nx p)) (n + 1)) := rfl
def er {α : Type} (r : Except Int32 (Int32 × Int32 × α)) : Except Int32 (Int32 × Int32) := exb r (fun w => .ok (w.1, w.2.1))
theorem er_ss {tk nx : Int32 → Int32} : ∀ (m : Nat) (p n j : Int32), er (ssum tk nx m p n j) = ess tk nx m p n := by
  intro m
  induction m with
  | zero => intro p n j; rfl
  | succ m ih =>
    intro p n j
    rw [ssum_s, ess_s]
    cases svl (tk p) p n with
    | error e => rfl
    | ok v =>
      show er (if fX2_joinOf (tk (nx p)) = -1 then _ else _) = if fX2_joinOf (tk (nx p)) = -1 then _ else _
      by_cases c : fX2_joinOf (tk (nx p)) = -1
      · rw [if_pos c, if_pos c]
        rfl
      · rw [if_neg c, if_neg c, ← ih (nx (nx p)) (n + 1) (fX2_joinOf (tk (nx p)))]
        cases ssum tk nx m (nx (nx p)) (n + 1) (fX2_joinOf (tk (nx p))) with
        | error e => rfl
        | ok w => rfl
theorem n_up {n : Int32} (h : n < 60) : (n + 1).toInt = n.toInt + 1 := zadd1 (by
  rw [Int32.lt_iff_toInt_lt] at h
  have : (60 : Int32).toInt = 60 := by decide
  omega)
theorem ess_f {tk nx : Int32 → Int32} : ∀ (m k : Nat) (p n : Int32), (60 - n.toInt).toNat < m → (60 - n.toInt).toNat < k → ess tk nx m p n = ess tk nx k p n := by
  intro m
  induction m with
  | zero => intro k p n h; exact absurd h (Nat.not_lt_zero _)
  | succ m ih =>
    intro k p n h1 h2
    cases k with
    | zero => exact absurd h2 (Nat.not_lt_zero _)
    | succ k =>
      rw [ess_s, ess_s]
      generalize he : svl (tk p) p n = r
      cases r with
      | error e => rfl
      | ok v =>
        have n9 := svl_lt he
        have hn := n_up n9
        rw [Int32.lt_iff_toInt_lt] at n9
        have e6 : (60 : Int32).toInt = 60 := by decide
        show (if fX2_joinOf (tk (nx p)) = -1 then _ else _) = if fX2_joinOf (tk (nx p)) = -1 then _ else _
        rw [ih k (nx (nx p)) (n + 1) (by omega) (by omega)]
def eA (tk nx : Int32 → Int32) (q n : Int32) : Except Int32 (Int32 × Int32) := if fX2_joinOf (tk q) = -1 then .ok (q, n) else ess tk nx 61 (nx q) n
theorem ess_eq {tk nx : Int32 → Int32} {p n : Int32} (n0 : ¬ n < 0) : ess tk nx 61 p n = exb (svl (tk p) p n) (fun _ => eA tk nx (nx p) (n + 1)) := by
  rw [ess_s]
  generalize he : svl (tk p) p n = r
  cases r with
  | error e => rfl
  | ok v =>
    have n9 := svl_lt he
    have hn := n_up n9
    have h0 := i_nn n0
    rw [Int32.lt_iff_toInt_lt] at n9
    have e6 : (60 : Int32).toInt = 60 := by decide
    show (if fX2_joinOf (tk (nx p)) = -1 then _ else _) = eA tk nx (nx p) (n + 1)
    unfold eA
    rw [ess_f 60 61 (nx (nx p)) (n + 1) (by omega) (by omega)]
def TL (x : Nat → Int32) (T a : Int32) (r : Except Int32 (Int32 × Int32)) (u : Int32 × Int32 × Int32 × Int32 × (Nat → Int32) × (Nat → Int32) × Int32) : Prop := (∃ e : Int32, r = .error e ∧ u.2.1 = e ∧ u.2.2.2.2.2.2 = 0) ∨ (∃ q : Int32, r = eA (tk x T) (nx x T) q u.2.2.2.1 ∧ AT x T u.1 q ∧ (¬ u.1 < a) ∧ u.2.1 = 0 ∧ (¬ u.2.2.2.1 < 0) ∧ (¬ 60 < u.2.2.2.1) ∧ (¬ tk x T q = 42) ∧ (¬ tk x T q = 47) ∧ u.2.2.2.2.2.2 = 1)
def SL (x : Nat → Int32) (T a : Int32) (r : Except Int32 (Int32 × Int32)) (u : Int32 × Int32 × Int32 × Int32 × (Nat → Int32) × (Nat → Int32) × Int32) : Prop := (∃ e : Int32, r = .error e ∧ u.2.1 = e ∧ u.2.2.2.2.2.2 = 0) ∨ (∃ q : Int32, r = .ok (q, u.2.2.2.1) ∧ AT x T u.1 q ∧ (¬ u.1 < a) ∧ u.2.1 = 0 ∧ (¬ u.2.2.2.1 < 0) ∧ (¬ 60 < u.2.2.2.1) ∧ u.2.2.2.2.2.2 = 1)
theorem f_dn {T a b : Int32} {N : Nat} (h : a < b) (bT : ¬ T < b) (hn : (T.toInt - a.toInt).toNat < N + 1) : (T.toInt - b.toInt).toNat < N := by
  rw [Int32.lt_iff_toInt_lt] at h bT
  omega
theorem i_tr {a b c : Int32} (h : ¬ b < a) (h2 : ¬ c < b) : ¬ c < a := by
  rw [Int32.lt_iff_toInt_lt] at *
  omega
theorem i_tr4 {a b c : Int32} (h : ¬ b < a) (h2 : b < c) : a < c := by
  rw [Int32.lt_iff_toInt_lt] at *
  omega
theorem i_as {a b : Int32} (h : a < b) : ¬ b < a := by
  rw [Int32.lt_iff_toInt_lt] at *
  omega
theorem r_termL {x tF : Nat → Int32} {T text : Int32} (H : LXH x tF T) {E64 : Int32 → Int32 → Int32 → Int32 → (Nat → Int32) → (Nat → Int32) → Int32 → (Int32 × Int32 × Int32 × Int32 × (Nat → Int32) × (Nat → Int32) × Int32)} {E75 : Int32 → Int32 → Int32 → Int32 → (Nat → Int32) → (Nat → Int32) → (Int32 × Int32 × Int32 × Int32 × (Nat → Int32) × (Nat → Int32) × Int32)} (h64 : ∀ a1 a2 a3 a4 a5 a6 a7, (E64 a1 a2 a3 a4 a5 a6 a7).2.1 = a2 ∧ (E64 a1 a2 a3 a4 a5 a6 a7).2.2.2.2.2.2 = 0) (h75 : ∀ a1 a2 a3 a4 a5 a6, (E75 a1 a2 a3 a4 a5 a6).1 = a1 ∧ (E75 a1 a2 a3 a4 a5 a6).2.1 = a2 ∧ (E75 a1 a2 a3 a4 a5 a6).2.2.2.1 = a4 ∧ (E75 a1 a2 a3 a4 a5 a6).2.2.2.2.2.2 = 1) : ∀ (N : Nat) (a q num md : Int32) (sg lg : Nat → Int32), AT x T a q → ¬ md < 0 → ¬ 60 < md → (T.toInt - a.toInt).toNat < N → TL x T a (eA (tk x T) (nx x T) q md) (fl_mX11_term_9 T text tF E64 E75 N a 0 num md sg lg) := by
  intro N
  induction N with
  | zero => intro a q num md sg lg; intros; exact absurd (by assumption) (Nat.not_lt_zero _)
  | succ N ih =>
    intro a q num md sg lg h m0 m6 hn
    obtain ⟨q1, q2, q3, hq⟩ := AT_in h
    show TL x T a _ (fb_mX11_term_9 T text tF E64 E75 (fl_mX11_term_9 T text tF E64 E75 N) a 0 num md sg lg)
    unfold fb_mX11_term_9
    simp only [bnd, AT_see H h, AT_see H hq]
    obtain ⟨k1, k1'⟩ := cA_tk (c := 42) H hq ⟨by decide, by decide, by decide, by decide, by decide, by decide⟩
    obtain ⟨k2, k2'⟩ := cA_tk (c := 47) H hq ⟨by decide, by decide, by decide, by decide, by decide, by decide⟩
    have key : AT x T (q + 1) (nx x T q) → q < q + 1 → ¬ fX2_joinOf (tk x T q) = -1 → ∀ s : Int32, TL x T a (eA (tk x T) (nx x T) q md) (if (fX11_value T (q + 1) 0 num text md tF sg lg).2.2.2.2.2.2 = 0 then E64 (fX11_value T (q + 1) 0 num text md tF sg lg).1 (fX11_value T (q + 1) 0 num text md tF sg lg).2.1 (fX11_value T (q + 1) 0 num text md tF sg lg).2.2.1 (fX11_value T (q + 1) 0 num text md tF sg lg).2.2.2.1 (fX11_value T (q + 1) 0 num text md tF sg lg).2.2.2.2.1 (fX11_value T (q + 1) 0 num text md tF sg lg).2.2.2.2.2.1 s else fl_mX11_term_9 T text tF E64 E75 N (fX11_value T (q + 1) 0 num text md tF sg lg).1 (fX11_value T (q + 1) 0 num text md tF sg lg).2.1 (fX11_value T (q + 1) 0 num text md tF sg lg).2.2.1 (fX11_value T (q + 1) 0 num text md tF sg lg).2.2.2.1 (fX11_puts text (fX11_value T (q + 1) 0 num text md tF sg lg).2.2.2.2.1 (fX11_value T (q + 1) 0 num text md tF sg lg).2.2.2.2.2.1 s 0).1 (fX11_puts text (fX11_value T (q + 1) 0 num text md tF sg lg).2.2.2.2.1 (fX11_value T (q + 1) 0 num text md tF sg lg).2.2.2.2.2.1 s 0).2) := by
      intro g1 g2 g3 s
      have ee : eA (tk x T) (nx x T) q md = ess (tk x T) (nx x T) 61 (nx x T q) md := by
        unfold eA
        rw [if_neg g3]
      rw [ee]
      rw [ess_eq m0]
      have hv := r_val (num := num) (text := text) (sg := sg) (lg := lg) H g1 m6
      generalize fX11_value T (q + 1) 0 num text md tF sg lg = u at hv ⊢
      generalize he : svl (tk x T (nx x T q)) (nx x T q) md = r at hv ⊢
      cases r with
      | error e =>
        obtain ⟨h2, h7⟩ := hv
        rw [if_pos h7, exb_er]
        exact Or.inl ⟨e, rfl, (h64 _ _ _ _ _ _ _).1.trans h2, (h64 _ _ _ _ _ _ _).2⟩
      | ok v =>
        obtain ⟨h1, h2, h3, h4, h7⟩ := hv
        have n9 := svl_lt he
        rw [if_neg (show ¬ u.2.2.2.2.2.2 = 0 by rw [h7]; decide), h3, h4, exb_ok]
        have hlt : a < u.1 := i_tr4 q1 (i_trans3 g2 (i_as (i_tr4 (AT_in g1).1 h1)))
        rcases ih u.1 (nx x T (nx x T q)) u.2.2.1 (md + 1) (fX11_puts text u.2.2.2.2.1 u.2.2.2.2.2.1 s 0).1 (fX11_puts text u.2.2.2.2.1 u.2.2.2.2.2.1 s 0).2 h2 (by grind) (by grind) (f_dn hlt h2.2.1 hn) with ⟨e, z1, z2⟩ | ⟨q', z1, z2, z3, z4⟩
        · exact Or.inl ⟨e, z1, z2⟩
        · exact Or.inr ⟨q', z1, z2, i_tr (i_as hlt) z3, z4⟩
    by_cases c1 : tk x T q = 42
    · obtain ⟨_, b2, b3, b4⟩ := k1' c1
      rw [if_pos (k1.mpr c1), b4, if_pos rfl]
      exact key b3 b2 (by rw [c1]; decide) 4
    · rw [if_neg (fun g => c1 (k1.mp g))]
      by_cases c2 : tk x T q = 47
      · obtain ⟨_, b2, b3, b4⟩ := k2' c2
        rw [if_pos (k2.mpr c2), b4, if_neg (by decide)]
        exact key b3 b2 (by rw [c2]; decide) 5
      · rw [if_neg (fun g => c2 (k2.mp g))]
        obtain ⟨g1, g2, g3, g4⟩ := h75 q 0 num md sg lg
        refine Or.inr ⟨q, ?_, ?_, ?_, g2, ?_, ?_, c1, c2, g4⟩
        · rw [g3]
        · rw [g1]; exact hq
        · rw [g1]; exact q1
        · rw [g3]; exact m0
        · rw [g3]; exact m6
theorem r_term {x tF : Nat → Int32} {T a p num text md : Int32} {sg lg : Nat → Int32} (H : LXH x tF T) (h : AT x T a p) (m0 : ¬ md < 0) (m6 : ¬ 60 < md) : TL x T (p + 1) (ess (tk x T) (nx x T) 61 p md) (fX11_term T a 0 num text md tF sg lg) := by
  unfold fX11_term
  simp only [bnd]
  rw [ess_eq m0]
  have hv := r_val (num := num) (text := text) (sg := sg) (lg := lg) H h m6
  generalize fX11_value T a 0 num text md tF sg lg = u at hv ⊢
  generalize he : svl (tk x T p) p md = r at hv ⊢
  cases r with
  | error e =>
    obtain ⟨h2, h7⟩ := hv
    rw [if_pos h7, exb_er]
    exact Or.inl ⟨e, rfl, h2, rfl⟩
  | ok v =>
    obtain ⟨h1, h2, h3, h4, h7⟩ := hv
    have n9 := svl_lt he
    rw [if_neg (show ¬ u.2.2.2.2.2.2 = 0 by rw [h7]; decide), h3, h4, exb_ok]
    have hle : ¬ u.1 < p + 1 := by
      have e1 : (p + 1).toInt = p.toInt + 1 := zadd1 (by rw [Int32.lt_iff_toInt_lt] at h1; have := z32 u.1; omega)
      rw [Int32.lt_iff_toInt_lt] at h1 ⊢
      omega
    rcases r_termL (E64 := fun a1 a2 a3 a4 a5 a6 _ => (a1, a2, a3, a4, a5, a6, 0)) (E75 := fun a1 a2 a3 a4 a5 a6 => (a1, a2, a3, a4, a5, a6, 1)) (text := text) H (fun _ _ _ _ _ _ _ => ⟨rfl, rfl⟩) (fun _ _ _ _ _ _ => ⟨rfl, rfl, rfl, rfl⟩) ((T.toInt - (u.1).toInt).toNat + 1) u.1 (nx x T p) u.2.2.1 (md + 1) u.2.2.2.2.1 u.2.2.2.2.2.1 h2 (by grind) (by grind) (Nat.lt_succ_self _) with ⟨e, z1, z2⟩ | ⟨q', z1, z2, z3, z4⟩
    · exact Or.inl ⟨e, z1, z2⟩
    · exact Or.inr ⟨q', z1, z2, i_tr hle z3, z4⟩
theorem r_sumL {x tF : Nat → Int32} {T text : Int32} (H : LXH x tF T) {E64 : Int32 → Int32 → Int32 → Int32 → (Nat → Int32) → (Nat → Int32) → Int32 → (Int32 × Int32 × Int32 × Int32 × (Nat → Int32) × (Nat → Int32) × Int32)} {E75 : Int32 → Int32 → Int32 → Int32 → (Nat → Int32) → (Nat → Int32) → (Int32 × Int32 × Int32 × Int32 × (Nat → Int32) × (Nat → Int32) × Int32)} (h64 : ∀ a1 a2 a3 a4 a5 a6 a7, (E64 a1 a2 a3 a4 a5 a6 a7).2.1 = a2 ∧ (E64 a1 a2 a3 a4 a5 a6 a7).2.2.2.2.2.2 = 0) (h75 : ∀ a1 a2 a3 a4 a5 a6, (E75 a1 a2 a3 a4 a5 a6).1 = a1 ∧ (E75 a1 a2 a3 a4 a5 a6).2.1 = a2 ∧ (E75 a1 a2 a3 a4 a5 a6).2.2.2.1 = a4 ∧ (E75 a1 a2 a3 a4 a5 a6).2.2.2.2.2.2 = 1) : ∀ (N : Nat) (a q num md : Int32) (sg lg : Nat → Int32), AT x T a q → ¬ md < 0 → ¬ 60 < md → ¬ tk x T q = 42 → ¬ tk x T q = 47 → (T.toInt - a.toInt).toNat < N → SL x T a (eA (tk x T) (nx x T) q md) (fl_mX11_sum_9 T text tF E64 E75 N a 0 num md sg lg) := by
  intro N
  induction N with
  | zero => intro a q num md sg lg; intros; exact absurd (by assumption) (Nat.not_lt_zero _)
  | succ N ih =>
    intro a q num md sg lg h m0 m6 t1 t2 hn
    obtain ⟨q1, q2, q3, hq⟩ := AT_in h
    show SL x T a _ (fb_mX11_sum_9 T text tF E64 E75 (fl_mX11_sum_9 T text tF E64 E75 N) a 0 num md sg lg)
    unfold fb_mX11_sum_9
    simp only [bnd, AT_see H h, AT_see H hq]
    obtain ⟨k1, k1'⟩ := cA_tk (c := 43) H hq ⟨by decide, by decide, by decide, by decide, by decide, by decide⟩
    obtain ⟨k2, k2'⟩ := cA_tk (c := 45) H hq ⟨by decide, by decide, by decide, by decide, by decide, by decide⟩
    have key : AT x T (q + 1) (nx x T q) → q < q + 1 → ¬ fX2_joinOf (tk x T q) = -1 → ∀ s : Int32, SL x T a (eA (tk x T) (nx x T) q md) (if (fX11_term T (q + 1) 0 num text md tF sg lg).2.2.2.2.2.2 = 0 then E64 (fX11_term T (q + 1) 0 num text md tF sg lg).1 (fX11_term T (q + 1) 0 num text md tF sg lg).2.1 (fX11_term T (q + 1) 0 num text md tF sg lg).2.2.1 (fX11_term T (q + 1) 0 num text md tF sg lg).2.2.2.1 (fX11_term T (q + 1) 0 num text md tF sg lg).2.2.2.2.1 (fX11_term T (q + 1) 0 num text md tF sg lg).2.2.2.2.2.1 s else fl_mX11_sum_9 T text tF E64 E75 N (fX11_term T (q + 1) 0 num text md tF sg lg).1 (fX11_term T (q + 1) 0 num text md tF sg lg).2.1 (fX11_term T (q + 1) 0 num text md tF sg lg).2.2.1 (fX11_term T (q + 1) 0 num text md tF sg lg).2.2.2.1 (fX11_puts text (fX11_term T (q + 1) 0 num text md tF sg lg).2.2.2.2.1 (fX11_term T (q + 1) 0 num text md tF sg lg).2.2.2.2.2.1 s 0).1 (fX11_puts text (fX11_term T (q + 1) 0 num text md tF sg lg).2.2.2.2.1 (fX11_term T (q + 1) 0 num text md tF sg lg).2.2.2.2.2.1 s 0).2) := by
      intro g1 g2 g3 s
      have ee : eA (tk x T) (nx x T) q md = ess (tk x T) (nx x T) 61 (nx x T q) md := by
        unfold eA
        rw [if_neg g3]
      rw [ee]
      have hv := r_term (num := num) (text := text) (sg := sg) (lg := lg) H g1 m0 m6
      generalize fX11_term T (q + 1) 0 num text md tF sg lg = u at hv ⊢
      rcases hv with ⟨e, z1, z2, z3⟩ | ⟨q', z1, z2, z3, z4, z5, z6, z7, z8, z9⟩
      · rw [if_pos z3, z1]
        exact Or.inl ⟨e, rfl, (h64 _ _ _ _ _ _ _).1.trans z2, (h64 _ _ _ _ _ _ _).2⟩
      · rw [if_neg (show ¬ u.2.2.2.2.2.2 = 0 by rw [z9]; decide), z1, z4]
        have hlt : a < u.1 := by
          have w1 := (AT_in g1).1
          have w2 := (AT_in g1).2.1
          have e1 : (nx x T q + 1).toInt = (nx x T q).toInt + 1 := zadd1 (by have := H.2.1; have e4 : (400 : Int32).toInt = 400 := by decide
                                                                             rw [Int32.lt_iff_toInt_lt] at *; omega)
          rw [Int32.lt_iff_toInt_lt] at *
          omega
        rcases ih u.1 q' u.2.2.1 u.2.2.2.1 (fX11_puts text u.2.2.2.2.1 u.2.2.2.2.2.1 s 0).1 (fX11_puts text u.2.2.2.2.1 u.2.2.2.2.2.1 s 0).2 z2 z5 z6 z7 z8 (f_dn hlt z2.2.1 hn) with ⟨e, y1, y2⟩ | ⟨q2, y1, y2, y3, y4⟩
        · exact Or.inl ⟨e, y1, y2⟩
        · exact Or.inr ⟨q2, y1, y2, i_tr (i_as hlt) y3, y4⟩
    by_cases c1 : tk x T q = 43
    · obtain ⟨_, b2, b3, b4⟩ := k1' c1
      rw [if_pos (k1.mpr c1), b4, if_pos rfl]
      exact key b3 b2 (by rw [c1]; decide) 2
    · rw [if_neg (fun g => c1 (k1.mp g))]
      by_cases c2 : tk x T q = 45
      · obtain ⟨_, b2, b3, b4⟩ := k2' c2
        rw [if_pos (k2.mpr c2), b4, if_neg (by decide)]
        exact key b3 b2 (by rw [c2]; decide) 3
      · rw [if_neg (fun g => c2 (k2.mp g))]
        obtain ⟨g1, g2, g3, g4⟩ := h75 q 0 num md sg lg
        have hj : fX2_joinOf (tk x T q) = -1 := by
          unfold fX2_joinOf
          rw [if_neg t1, if_neg c1]
          by_cases w1 : tk x T q = 44
          · rw [if_pos w1]
          · rw [if_neg w1, if_neg c2]
            by_cases w2 : tk x T q = 46
            · rw [if_pos w2]
            · rw [if_neg w2, if_neg t2]
        refine Or.inr ⟨q, ?_, ?_, ?_, g2, ?_, ?_, g4⟩
        · unfold eA
          rw [if_pos hj, g3]
        · rw [g1]; exact hq
        · rw [g1]; exact q1
        · rw [g3]; exact m0
        · rw [g3]; exact m6
theorem r_sum {x tF : Nat → Int32} {T a p num text md : Int32} {sg lg : Nat → Int32} (H : LXH x tF T) (h : AT x T a p) (m0 : ¬ md < 0) (m6 : ¬ 60 < md) : SL x T (p + 1) (ess (tk x T) (nx x T) 61 p md) (fX11_sum T a 0 num text md tF sg lg) := by
  unfold fX11_sum
  simp only [bnd]
  have hv := r_term (num := num) (text := text) (sg := sg) (lg := lg) H h m0 m6
  generalize fX11_term T a 0 num text md tF sg lg = u at hv ⊢
  rcases hv with ⟨e, z1, z2, z3⟩ | ⟨q', z1, z2, z3, z4, z5, z6, z7, z8, z9⟩
  · rw [if_pos z3]
    exact Or.inl ⟨e, z1, z2, rfl⟩
  · rw [if_neg (show ¬ u.2.2.2.2.2.2 = 0 by rw [z9]; decide), z1, z4]
    rcases r_sumL (E64 := fun a1 a2 a3 a4 a5 a6 _ => (a1, a2, a3, a4, a5, a6, 0)) (E75 := fun a1 a2 a3 a4 a5 a6 => (a1, a2, a3, a4, a5, a6, 1)) (text := text) H (fun _ _ _ _ _ _ _ => ⟨rfl, rfl⟩) (fun _ _ _ _ _ _ => ⟨rfl, rfl, rfl, rfl⟩) ((T.toInt - (u.1).toInt).toNat + 1) u.1 q' u.2.2.1 u.2.2.2.1 u.2.2.2.2.1 u.2.2.2.2.2.1 z2 z5 z6 z7 z8 (Nat.lt_succ_self _) with ⟨e, y1, y2⟩ | ⟨q2, y1, y2, y3, y4⟩
    · exact Or.inl ⟨e, y1, y2⟩
    · exact Or.inr ⟨q2, y1, y2, i_tr z3 y3, y4⟩
def ecm (tk nx : Int32 → Int32) (p n : Int32) : Except Int32 (Int32 × Int32) := exb (ess tk nx 61 p n) (fun w => if fX2_signOf (tk w.1) = -1 then .error (flt w.1 0) else if w.2 < 60 then ess tk nx 61 (nx w.1) (w.2 + 1) else .error (flt w.1 3))
theorem er_scm {tk nx : Int32 → Int32} {p n : Int32} : er (scm tk nx p n) = ecm tk nx p n := by
  unfold scm ecm
  rw [← er_ss 61 p n 0]
  cases ssum tk nx 61 p n 0 with
  | error e => rfl
  | ok w =>
    show er (if fX2_signOf (tk w.1) = -1 then _ else if w.2.1 < 60 then _ else _) = if fX2_signOf (tk w.1) = -1 then _ else if w.2.1 < 60 then _ else _
    by_cases c : fX2_signOf (tk w.1) = -1
    · rw [if_pos c, if_pos c]
      rfl
    · rw [if_neg c, if_neg c]
      by_cases d : w.2.1 < 60
      · rw [if_pos d, if_pos d, ← er_ss 61 (nx w.1) (w.2.1 + 1) 0]
        cases ssum tk nx 61 (nx w.1) (w.2.1 + 1) 0 with
        | error e => rfl
        | ok v => rfl
      · rw [if_neg d, if_neg d]
        rfl
theorem cmp_2 {x tF : Nat → Int32} {T q c : Int32} (H : LXH x tF T) (hq : AT x T q q) (hc : (c = 60 ∨ c = 62)) (h : cA x T q = c) : (¬ T ≤ q) ∧ (((¬ T ≤ q + 1) ∧ tF (q + 1).toNatClampNeg = 61 ∧ tk x T q = (if c = 60 then 256 else 257) ∧ AT x T (q + 1 + 1) (nx x T q)) ∨ ((T ≤ q + 1 ∨ ¬ tF (q + 1).toNatClampNeg = 61) ∧ tk x T q = c ∧ AT x T (q + 1) (nx x T q))) := by
  unfold cA at h
  by_cases hp : T ≤ q
  · rw [if_pos hp] at h
    rcases hc with r | r
    · rw [r] at h; exact absurd h (by decide)
    · rw [r] at h; exact absurd h (by decide)
  · rw [if_neg hp] at h
    refine ⟨hp, ?_⟩
    have hl : fX2_isLetter (x q.toNatClampNeg) = 0 := by rcases hc with r | r <;> rw [h, r] <;> decide
    have hd : fX2_isDigit (x q.toNatClampNeg) = 0 := by rcases hc with r | r <;> rw [h, r] <;> decide
    have e := tk_o hp hl hd
    have es := so_o (T := T) hl hd
    have q60 : x q.toNatClampNeg = 60 ∨ x q.toNatClampNeg = 62 := by rw [h]; exact hc
    by_cases g : (x q.toNatClampNeg = 60 ∨ x q.toNatClampNeg = 62) ∧ (¬ T ≤ q + 1) ∧ x (q + 1).toNatClampNeg = 61
    · left
      rw [if_pos g, h] at e
      rw [if_pos g] at es
      have hn1 : ¬ q + 1 < 0 := a_nn hp hq.1
      refine ⟨g.2.1, (LXH_eq H hn1 g.2.1 (by decide) (by decide)).mpr g.2.2, e, a_nn g.2.1 hn1, a_le g.2.1, ?_⟩
      unfold nx
      rw [es]
    · right
      rw [if_neg g, h] at e
      rw [if_neg g] at es
      refine ⟨?_, e, a_nn hp hq.1, a_le hp, ?_⟩
      · by_cases w : T ≤ q + 1
        · exact Or.inl w
        · right
          intro k
          exact g ⟨q60, w, (LXH_eq H (a_nn hp hq.1) w (by decide) (by decide)).mp k⟩
      · unfold nx
        rw [es]
theorem sg_c {x tF : Nat → Int32} {T q : Int32} (H : LXH x tF T) (hq : AT x T q q) (h : ¬ fX2_signOf (tk x T q) = -1) : cA x T q = 60 ∨ cA x T q = 61 ∨ cA x T q = 62 := by
  have h5 : tk x T q = 60 ∨ tk x T q = 61 ∨ tk x T q = 62 ∨ tk x T q = 256 ∨ tk x T q = 257 := by
    unfold fX2_signOf at h
    grind
  by_cases hp : T ≤ q
  · rw [tk_T hp] at h5
    exact absurd h5 (by decide)
  · unfold cA
    rw [if_neg hp]
    rcases tk_kinds H hq.1 hq.2.2 hp with g | g | g
    · grind
    · grind
    · have e := tk_o hp g.1 g.2.1
      split at e
      · rename_i w
        rcases w.1 with r | r
        · exact Or.inl r
        · exact Or.inr (Or.inr r)
      · rw [← e]
        have hb := LXH_b H hq.1 hp
        rw [← e] at hb
        grind
def CLF (T text : Int32) (tF : Nat → Int32) (b num : Int32) (mk : Int32 × Int32 × Int32) (sg lg : Nat → Int32) (s : Int32) : Int32 × Int32 × Int32 × Int32 × (Nat → Int32) × (Nat → Int32) × Int32 := if mk.2.2 = 0 then (b, mk.1, num, mk.2.1, sg, lg, 0) else if (fX11_sum T b mk.1 num text mk.2.1 tF sg lg).2.2.2.2.2.2 = 0 then ((fX11_sum T b mk.1 num text mk.2.1 tF sg lg).1, (fX11_sum T b mk.1 num text mk.2.1 tF sg lg).2.1, (fX11_sum T b mk.1 num text mk.2.1 tF sg lg).2.2.1, (fX11_sum T b mk.1 num text mk.2.1 tF sg lg).2.2.2.1, (fX11_sum T b mk.1 num text mk.2.1 tF sg lg).2.2.2.2.1, (fX11_sum T b mk.1 num text mk.2.1 tF sg lg).2.2.2.2.2.1, 0) else ((fX11_sum T b mk.1 num text mk.2.1 tF sg lg).1, (fX11_sum T b mk.1 num text mk.2.1 tF sg lg).2.1, (fX11_sum T b mk.1 num text mk.2.1 tF sg lg).2.2.1, (fX11_sum T b mk.1 num text mk.2.1 tF sg lg).2.2.2.1, (fX11_puts text (fX11_sum T b mk.1 num text mk.2.1 tF sg lg).2.2.2.2.1 (fX11_sum T b mk.1 num text mk.2.1 tF sg lg).2.2.2.2.2.1 s 0).1, (fX11_puts text (fX11_sum T b mk.1 num text mk.2.1 tF sg lg).2.2.2.2.1 (fX11_sum T b mk.1 num text mk.2.1 tF sg lg).2.2.2.2.2.1 s 0).2, 1)
theorem r_clf {x tF : Nat → Int32} {T a b q num text md s : Int32} {sg lg : Nat → Int32} (H : LXH x tF T) (h : AT x T b (nx x T q)) (hlt : ¬ nx x T q + 1 < a) (m0 : ¬ md < 0) (m6 : ¬ 60 < md) : SL x T a (if md < 60 then ess (tk x T) (nx x T) 61 (nx x T q) (md + 1) else .error (flt q 3)) (CLF T text tF b num (fX11_makes 0 md q) sg lg s) := by
  unfold CLF
  rw [mk_60 m6]
  by_cases d : md < 60
  · simp only [if_pos d]
    rw [if_neg (by decide)]
    have hv := r_sum (num := num) (text := text) (sg := sg) (lg := lg) (md := md + 1) H h (by grind) (by grind)
    generalize fX11_sum T b 0 num text (md + 1) tF sg lg = u at hv ⊢
    rcases hv with ⟨e, z1, z2, z3⟩ | ⟨q', z1, z2, z3, z4, z5, z6, z7⟩
    · rw [if_pos z3]
      exact Or.inl ⟨e, z1, z2, rfl⟩
    · rw [if_neg (show ¬ u.2.2.2.2.2.2 = 0 by rw [z7]; decide)]
      exact Or.inr ⟨q', z1, z2, i_tr hlt z3, z4, z5, z6, rfl⟩
  · simp only [if_neg d, if_true]
    exact Or.inl ⟨flt q 3, rfl, rfl, rfl⟩
def CMP (T text : Int32) (tF : Nat → Int32) (u : Int32 × Int32 × Int32 × Int32 × (Nat → Int32) × (Nat → Int32) × Int32) (q c : Int32) : Int32 × Int32 × Int32 × Int32 × (Nat → Int32) × (Nat → Int32) × Int32 := if c = 60 then (if c = 61 then CLF T text tF (q + 1) u.2.2.1 (fX11_makes u.2.1 u.2.2.2.1 q) u.2.2.2.2.1 u.2.2.2.2.2.1 6 else if T ≤ q + 1 then CLF T text tF (q + 1) u.2.2.1 (fX11_makes u.2.1 u.2.2.2.1 q) u.2.2.2.2.1 u.2.2.2.2.2.1 6 else if tF (q + 1).toNatClampNeg = 61 then CLF T text tF (q + 1 + 1) u.2.2.1 (fX11_makes u.2.1 u.2.2.2.1 q) u.2.2.2.2.1 u.2.2.2.2.2.1 7 else CLF T text tF (q + 1) u.2.2.1 (fX11_makes u.2.1 u.2.2.2.1 q) u.2.2.2.2.1 u.2.2.2.2.2.1 6) else if c = 61 then CLF T text tF (q + 1) u.2.2.1 (fX11_makes u.2.1 u.2.2.2.1 q) u.2.2.2.2.1 u.2.2.2.2.2.1 8 else if c = 62 then (if T ≤ q + 1 then CLF T text tF (q + 1) u.2.2.1 (fX11_makes u.2.1 u.2.2.2.1 q) u.2.2.2.2.1 u.2.2.2.2.2.1 10 else if tF (q + 1).toNatClampNeg = 61 then CLF T text tF (q + 1 + 1) u.2.2.1 (fX11_makes u.2.1 u.2.2.2.1 q) u.2.2.2.2.1 u.2.2.2.2.2.1 9 else CLF T text tF (q + 1) u.2.2.1 (fX11_makes u.2.1 u.2.2.2.1 q) u.2.2.2.2.1 u.2.2.2.2.2.1 10) else (q, fX11_fails u.2.1 0 q, u.2.2.1, u.2.2.2.1, u.2.2.2.2.1, u.2.2.2.2.2.1, 0)
theorem cmp_unf {tF : Nat → Int32} {T a w num text md : Int32} {sg lg : Nat → Int32} : fX11_compare T a w num text md tF sg lg = if (fX11_sum T a w num text md tF sg lg).2.2.2.2.2.2 = 0 then ((fX11_sum T a w num text md tF sg lg).1, (fX11_sum T a w num text md tF sg lg).2.1, (fX11_sum T a w num text md tF sg lg).2.2.1, (fX11_sum T a w num text md tF sg lg).2.2.2.1, (fX11_sum T a w num text md tF sg lg).2.2.2.2.1, (fX11_sum T a w num text md tF sg lg).2.2.2.2.2.1, 0) else CMP T text tF (fX11_sum T a w num text md tF sg lg) (fX11_see T (fX11_sum T a w num text md tF sg lg).1 tF).1 (fX11_see T (fX11_sum T a w num text md tF sg lg).1 tF).2 := by
  unfold fX11_compare CMP CLF
  simp only [bnd]
theorem r_cmp {x tF : Nat → Int32} {T a p num text md : Int32} {sg lg : Nat → Int32} (H : LXH x tF T) (h : AT x T a p) (m0 : ¬ md < 0) (m6 : ¬ 60 < md) : SL x T (p + 1) (ecm (tk x T) (nx x T) p md) (fX11_compare T a 0 num text md tF sg lg) := by
  rw [cmp_unf]
  have hv := r_sum (num := num) (text := text) (sg := sg) (lg := lg) H h m0 m6
  generalize fX11_sum T a 0 num text md tF sg lg = u at hv ⊢
  unfold ecm
  rcases hv with ⟨e, z1, z2, z3⟩ | ⟨q, z1, z2, z3, z4, z5, z6, z7⟩
  · rw [if_pos z3, z1, exb_er]
    exact Or.inl ⟨e, rfl, z2, rfl⟩
  · obtain ⟨q1, q2, q3, hq⟩ := AT_in z2
    rw [if_neg (show ¬ u.2.2.2.2.2.2 = 0 by rw [z7]; decide), z1, exb_ok, AT_see H z2]
    dsimp only
    unfold CMP
    rw [z4]
    have key : ∀ (b s : Int32), q < b → AT x T b (nx x T q) → SL x T (p + 1) (if u.2.2.2.1 < 60 then ess (tk x T) (nx x T) 61 (nx x T q) (u.2.2.2.1 + 1) else .error (flt q 3)) (CLF T text tF b u.2.2.1 (fX11_makes 0 u.2.2.2.1 q) u.2.2.2.2.1 u.2.2.2.2.2.1 s) := by
      intro b s hb hat
      obtain ⟨w1, w2, w3, w4⟩ := AT_in hat
      refine r_clf H hat ?_ z5 z6
      have e1 : (nx x T q + 1).toInt = (nx x T q).toInt + 1 := zadd1 (by have := H.2.1; have e4 : (400 : Int32).toInt = 400 := by decide
                                                                         rw [Int32.lt_iff_toInt_lt] at *; omega)
      rw [Int32.lt_iff_toInt_lt] at *
      omega
    have hq1 : ¬ T ≤ q → q < q + 1 := fun g => a_lt g
    by_cases c0 : cA x T q = 60
    · obtain ⟨g0, g⟩ := cmp_2 H hq (Or.inl rfl) c0
      rw [if_pos c0, if_neg (show ¬ cA x T q = 61 by rw [c0]; decide)]
      rcases g with ⟨g1, g2, g3, g4⟩ | ⟨g1, g3, g4⟩
      · rw [if_pos rfl] at g3
        rw [if_neg (show ¬ fX2_signOf (tk x T q) = -1 by rw [g3]; decide), if_neg g1, if_pos g2]
        exact key (q + 1 + 1) 7 (i_trans3 (hq1 g0) (i_as (a_lt g1))) g4
      · rw [if_neg (show ¬ fX2_signOf (tk x T q) = -1 by rw [g3]; decide)]
        by_cases w : T ≤ q + 1
        · rw [if_pos w]
          exact key (q + 1) 6 (hq1 g0) g4
        · rw [if_neg w, if_neg (g1.resolve_left w)]
          exact key (q + 1) 6 (hq1 g0) g4
    · rw [if_neg c0]
      by_cases c1 : cA x T q = 61
      · obtain ⟨k1, k2⟩ := cA_tk (c := 61) H hq ⟨by decide, by decide, by decide, by decide, by decide, by decide⟩
        have t1 := k1.mp c1
        obtain ⟨b1, b2, b3, b4⟩ := k2 t1
        rw [if_pos c1, if_neg (show ¬ fX2_signOf (tk x T q) = -1 by rw [t1]; decide)]
        exact key (q + 1) 8 b2 b3
      · rw [if_neg c1]
        by_cases c2 : cA x T q = 62
        · obtain ⟨g0, g⟩ := cmp_2 H hq (Or.inr rfl) c2
          rw [if_pos c2]
          rcases g with ⟨g1, g2, g3, g4⟩ | ⟨g1, g3, g4⟩
          · rw [if_neg (by decide)] at g3
            rw [if_neg (show ¬ fX2_signOf (tk x T q) = -1 by rw [g3]; decide), if_neg g1, if_pos g2]
            exact key (q + 1 + 1) 9 (i_trans3 (hq1 g0) (i_as (a_lt g1))) g4
          · rw [if_neg (show ¬ fX2_signOf (tk x T q) = -1 by rw [g3]; decide)]
            by_cases w : T ≤ q + 1
            · rw [if_pos w]
              exact key (q + 1) 10 (hq1 g0) g4
            · rw [if_neg w, if_neg (g1.resolve_left w)]
              exact key (q + 1) 10 (hq1 g0) g4
        · rw [if_neg c2, fails0]
          have hs : fX2_signOf (tk x T q) = -1 := by
            by_cases w : fX2_signOf (tk x T q) = -1
            · exact w
            · rcases sg_c H hq w with r | r | r
              · exact absurd r c0
              · exact absurd r c1
              · exact absurd r c2
          rw [if_pos hs]
          exact Or.inl ⟨flt q 0, rfl, rfl, rfl⟩
