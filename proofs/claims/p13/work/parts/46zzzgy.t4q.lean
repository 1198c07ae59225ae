def rdS (im : Nat → Option (Nat → Int32)) : Except Int32 Cls := srt (tk (tp (gI im)) (gI im 1)) (nx (tp (gI im)) (gI im 1)) (sp (tp (gI im)) (gI im 1) 0)
def LLup (LL : Nat → Cls) (k : Nat) (l : Cls) : Nat → Cls := fun j => if j = k then l else LL j
def la_LL (im : Nat → Option (Nat → Int32)) (LL : Nat → Cls) : Nat → Cls := if 6 ≤ gI im 0 then LL else match rdS im with
  | .ok l => LLup LL (gI im 0).toNatClampNeg l
  | .error _ => LL
set_option maxHeartbeats 400000 in
theorem la_LL_ne {im : Nat → Option (Nat → Int32)} {LL : Nat → Cls} {j : Nat} (h : j ≠ (gI im 0).toNatClampNeg) : la_LL im LL j = LL j := by
  unfold la_LL
  by_cases c : 6 ≤ gI im 0
  · rw [if_pos c]
  · rw [if_neg c]
    generalize rdS im = r
    cases r with
    | ok l =>
      show LLup LL (gI im 0).toNatClampNeg l j = LL j
      exact if_neg h
    | error e => rfl
set_option maxHeartbeats 400000 in
theorem la_LL_at {im : Nat → Option (Nat → Int32)} {LL : Nat → Cls} {l : Cls} (h6 : ¬ 6 ≤ gI im 0) (h : rdS im = .ok l) : la_LL im LL (gI im 0).toNatClampNeg = l := by
  unfold la_LL
  rw [if_neg h6, h]
  exact if_pos rfl
def GX (im : Nat → Option (Nat → Int32)) : Prop := ∃ tF : Nat → Int32, LXH (tp (gI im)) tF (gI im 1)
set_option maxHeartbeats 400000 in
theorem lo_mean {tl lc : Int32} {x t0 q0 s1 s2 s3 s4 s5 yj yo y1 y2 y3 y4 y5 : Nat → Int32} {w : Int32 × Int32 × Int32 × Int32 × Int32 × (Nat → Int32) × (Nat → Int32) × (Nat → Int32) × (Nat → Int32) × (Nat → Int32) × (Nat → Int32) × (Nat → Int32) × (Nat → Int32) × (Nat → Int32) × (Nat → Int32) × (Nat → Int32) × (Nat → Int32) × (Nat → Int32) × (Nat → Int32) × Int32 × Int32 × Int32 × Int32 × Int32 × Int32 × Int32} {v : Int32 × Int32 × Int32 × Int32 × Int32 × (Nat → Int32) × (Nat → Int32) × (Nat → Int32) × (Nat → Int32) × (Nat → Int32) × (Nat → Int32) × (Nat → Int32) × (Nat → Int32) × (Nat → Int32) × (Nat → Int32) × (Nat → Int32) × (Nat → Int32) × (Nat → Int32) × (Nat → Int32) × Int32 × Int32 × Int32 × Int32 × Int32 × Int32} (e : w = fX10_law_old tl lc x t0 q0 s1 s2 s3 s4 s5 yj yo y1 y2 y3 y4 y5) (ev : v = fX2_read t0 q0 s1 s2 s3 s4 s5 yj yo y1 y2 y3 y4 y5 x tl) : w.2.2.2.2.2.2.2.1 = v.2.2.2.2.2.2.2.1 ∧ w.2.2.2.2.2.2.2.2.1 = v.2.2.2.2.2.2.2.2.1 ∧ w.2.2.2.2.2.2.2.2.2.1 = v.2.2.2.2.2.2.2.2.2.1 ∧ w.2.2.2.2.2.2.2.2.2.2.1 = v.2.2.2.2.2.2.2.2.2.2.1 ∧ w.2.2.2.2.2.2.2.2.2.2.2.1 = v.2.2.2.2.2.2.2.2.2.2.2.1 ∧ w.2.2.2.2.2.2.2.2.2.2.2.2.1 = v.2.2.2.2.2.2.2.2.2.2.2.2.1 ∧ w.2.2.2.2.2.2.2.2.2.2.2.2.2.1 = v.2.2.2.2.2.2.2.2.2.2.2.2.2.1 ∧ w.2.2.2.2.2.2.2.2.2.2.2.2.2.2.1 = v.2.2.2.2.2.2.2.2.2.2.2.2.2.2.1 ∧ w.2.2.2.2.2.2.2.2.2.2.2.2.2.2.2.1 = v.2.2.2.2.2.2.2.2.2.2.2.2.2.2.2.1 ∧ w.2.2.2.2.2.2.2.2.2.2.2.2.2.2.2.2.1 = v.2.2.2.2.2.2.2.2.2.2.2.2.2.2.2.2.1 ∧ w.2.2.2.2.2.2.2.2.2.2.2.2.2.2.2.2.2.1 = v.2.2.2.2.2.2.2.2.2.2.2.2.2.2.2.2.2.1 ∧ w.2.2.2.2.2.2.2.2.2.2.2.2.2.2.2.2.2.2.1 = v.2.2.2.2.2.2.2.2.2.2.2.2.2.2.2.2.2.2.1 ∧ w.2.2.2.2.2.2.2.2.2.2.2.2.2.2.2.2.2.2.2.1 = v.2.2.2.2.2.2.2.2.2.2.2.2.2.2.2.2.2.2.2.1 ∧ w.2.2.2.2.2.2.2.2.2.2.2.2.2.2.2.2.2.2.2.2.1 = v.2.2.2.2.2.2.2.2.2.2.2.2.2.2.2.2.2.2.2.2.1 ∧ w.2.2.2.2.2.2.2.2.2.2.2.2.2.2.2.2.2.2.2.2.2.2.2.2.1 = (if v.2.2.2.2.2.2.2.2.2.2.2.2.2.2.2.2.2.2.2.2.2.2.2.2 = 0 then lc + 1 else lc) := by
  unfold fX10_law_old at e
  rw [← ev] at e
  simp only [bnd] at e
  by_cases c : v.2.2.2.2.2.2.2.2.2.2.2.2.2.2.2.2.2.2.2.2.2.2.2.2 = 0
  · rw [if_pos c] at e
    rw [if_pos c, e]
    exact ⟨rfl, rfl, rfl, rfl, rfl, rfl, rfl, rfl, rfl, rfl, rfl, rfl, rfl, rfl, rfl⟩
  · rw [if_neg c] at e
    rw [if_neg c, e]
    exact ⟨rfl, rfl, rfl, rfl, rfl, rfl, rfl, rfl, rfl, rfl, rfl, rfl, rfl, rfl, rfl⟩
set_option maxHeartbeats 400000 in
/-- what the class has read means what the text means -/
theorem la_mean {im : Nat → Option (Nat → Int32)} {LL : Nat → Cls} {lc tl : Int32} {t t0 q0 s1 s2 s3 s4 s5 yj yo y1 y2 y3 y4 y5 : Nat → Int32} {w : Int32 × Int32 × Int32 × Int32 × Int32 × (Nat → Int32) × (Nat → Int32) × (Nat → Int32) × (Nat → Int32) × (Nat → Int32) × (Nat → Int32) × (Nat → Int32) × (Nat → Int32) × (Nat → Int32) × (Nat → Int32) × (Nat → Int32) × (Nat → Int32) × (Nat → Int32) × (Nat → Int32) × Int32 × Int32 × Int32 × Int32 × Int32 × Int32 × Int32} (h : XG im lc tl t) (hx : GX im) (h0 : ¬ lc < 0) (h6 : ¬ 6 ≤ lc) (e : w = fX10_law_old tl lc t t0 q0 s1 s2 s3 s4 s5 yj yo y1 y2 y3 y4 y5) (hb : ((lc.toNatClampNeg : Nat) : Int) < (w.2.2.2.2.2.2.2.2.2.2.2.2.2.2.2.2.2.2.2.2.2.2.2.2.1).toInt) : LWX w.2.2.2.2.2.2.2.1 w.2.2.2.2.2.2.2.2.1 w.2.2.2.2.2.2.2.2.2.1 w.2.2.2.2.2.2.2.2.2.2.1 w.2.2.2.2.2.2.2.2.2.2.2.1 w.2.2.2.2.2.2.2.2.2.2.2.2.1 w.2.2.2.2.2.2.2.2.2.2.2.2.2.1 w.2.2.2.2.2.2.2.2.2.2.2.2.2.2.1 w.2.2.2.2.2.2.2.2.2.2.2.2.2.2.2.1 w.2.2.2.2.2.2.2.2.2.2.2.2.2.2.2.2.1 w.2.2.2.2.2.2.2.2.2.2.2.2.2.2.2.2.2.1 w.2.2.2.2.2.2.2.2.2.2.2.2.2.2.2.2.2.2.1 w.2.2.2.2.2.2.2.2.2.2.2.2.2.2.2.2.2.2.2.2.1 (la_LL im LL lc.toNatClampNeg) ∧ w.2.2.2.2.2.2.2.2.2.2.2.2.2.2.2.2.2.2.2.1 = chn 0 (la_LL im LL lc.toNatClampNeg) := by
  obtain ⟨g0, g1, g2⟩ := h
  obtain ⟨tF, hx⟩ := hx
  rw [← g2, ← g1] at hx
  obtain ⟨v, ev⟩ : ∃ v, v = fX2_read t0 q0 s1 s2 s3 s4 s5 yj yo y1 y2 y3 y4 y5 t tl := ⟨_, rfl⟩
  obtain ⟨e7, e8, e9, e10, e11, e12, e13, e14, e15, e16, e17, e18, e19, e20, ec⟩ := lo_mean e ev
  have hy := (rd_Y (x := t) (t0 := t0) (q0 := q0) (s1 := s1) (s2 := s2) (s3 := s3) (s4 := s4) (s5 := s5) (yj := yj) (yo := yo) (y1 := y1) (y2 := y2) (y3 := y3) (y4 := y4) (y5 := y5) (T := tl) hx.1 hx.2.1).1
  have hp := (rd_Y (x := t) (t0 := t0) (q0 := q0) (s1 := s1) (s2 := s2) (s3 := s3) (s4 := s4) (s5 := s5) (yj := yj) (yo := yo) (y1 := y1) (y2 := y2) (y3 := y3) (y4 := y4) (y5 := y5) (T := tl) hx.1 hx.2.1).2
  rw [← ev] at hy
  have hn : ¬ (if v.2.2.2.2.2.2.2.2.2.2.2.2.2.2.2.2.2.2.2.2.2.2.2.2 = 0 then lc + 1 else lc) = lc := by
    intro q
    rw [ec, q] at hb
    have := zc_eq h0
    omega
  have hv : v.2.2.2.2.2.2.2.2.2.2.2.2.2.2.2.2.2.2.2.2.2.2.2.2 = 0 := by
    by_cases c : v.2.2.2.2.2.2.2.2.2.2.2.2.2.2.2.2.2.2.2.2.2.2.2.2 = 0
    · exact c
    · rw [if_neg c] at hn; exact absurd rfl hn
  have hr : ∃ l, srt (tk t tl) (nx t tl) (sp t tl 0) = .ok l := by
    unfold lwY at hy
    generalize srt (tk t tl) (nx t tl) (sp t tl 0) = r at hy hp ⊢
    cases r with
    | error e =>
      have q : v.2.2.2.2.2.2.2.2.2.2.2.2.2.2.2.2.2.2.2.2.2.2.2.2 = e := hy
      have := hp e rfl
      rw [hv] at q
      rw [← q] at this
      exact absurd this (by decide)
    | ok l => exact ⟨l, rfl⟩
  obtain ⟨l, hl⟩ := hr
  have hL : la_LL im LL lc.toNatClampNeg = l := by
    rw [g0]
    refine la_LL_at (by rw [← g0]; exact h6) ?_
    unfold rdS
    rw [← g1, ← g2]
    exact hl
  obtain ⟨m1, m2⟩ := c_meanC (rt := t0) (rp := q0) (so := s1) (s1 := s2) (s2 := s3) (t1 := s4) (t2 := s5) (yj := yj) (yo := yo) (y1 := y1) (y2 := y2) (y3 := y3) (y4 := y4) (y5 := y5) hx.2.1 (c_cut hx.1 hx.2.1) (tkh hx) hl ev
  rw [hL, e7, e8, e9, e10, e11, e12, e13, e14, e15, e16, e17, e18, e19, e20]
  exact ⟨fun W wF s hs hw => m2 W wF s hs hw, m1⟩
def RLW (laws : Int32) (sg cl cs cf : Nat → Int32) (LL : Nat → Cls) : Prop := ∀ k : Nat, (k : Int) < laws.toInt → RS 400 sg cl k 0 (LL k) ∧ (ncl (LL k) : Int) = (cs k).toInt ∧ (cs k).toInt ≤ 12 ∧ cf k = chn 0 (LL k)
set_option maxHeartbeats 400000 in
theorem RLW_0 {sg cl cs cf : Nat → Int32} {LL : Nat → Cls} : RLW 0 sg cl cs cf LL := fun k hk => by rw [z_i0] at hk; omega
set_option maxHeartbeats 400000 in
theorem RLW_R {laws p : Int32} {sg cl cs cf : Nat → Int32} {LL : Nat → Cls} (h : RLW laws sg cl cs cf LL) (h6 : ¬ 6 < laws) (hp : ¬ hs p laws = 0) : LWR sg cl cs p (LL p.toNatClampNeg) ∧ cf p.toNatClampNeg = chn 0 (LL p.toNatClampNeg) := by
  obtain ⟨p0, p1⟩ := hs_r hp
  have tp := tn_eq p0
  have l6 := i_le h6
  rw [show (6 : Int32).toInt = 6 from by decide] at l6
  obtain ⟨a, b, c, d⟩ := h p.toNatClampNeg (by omega)
  exact ⟨fun W wd sk top s h4 hw => summed_x hw p0 (by omega) h4 c (Int.le_refl _) a b, d⟩
set_option maxHeartbeats 400000 in
theorem RLW_k {laws : Int32} {sg cl cs cf sh cm ct cg : Nat → Int32} {LL L2 : Nat → Cls} {k : Nat} (h : RLW laws sg cl cs cf LL) (hk : (k : Int) < laws.toInt) (l0 : ¬ laws < 0) (a : FR sg sh laws) (b : FC cl cm laws) (c : FS cs ct laws) (d : FS cf cg laws) (e : L2 k = LL k) : RS 400 sh cm k 0 (L2 k) ∧ (ncl (L2 k) : Int) = (ct k).toInt ∧ (ct k).toInt ≤ 12 ∧ cg k = chn 0 (L2 k) := by
  obtain ⟨x1, x2, x3, x4⟩ := h k hk
  have tz := zc_eq l0
  rw [e, c k (by omega), d k (by omega)]
  refine ⟨?_, x2, x3, x4⟩
  have e12 : (ncl (LL k) : Int) ≤ 12 := by omega
  exact RS_eb (Int.le_refl _) (fun i hi => a i (by omega)) _ _ x1 (fun i i0 i1 => b i (by omega))
set_option maxHeartbeats 400000 in
theorem la_m4 {im : Nat → Option (Nat → Int32)} {LL : Nat → Cls} {laws tl nxt wr num text md deep lines opd : Int32} {t sg lg cl cs cf op : Nat → Int32} {w : Int32 × Int32 × Int32 × Int32 × Int32 × Int32 × Int32 × Int32 × Int32 × Int32 × (Nat → Int32) × (Nat → Int32) × (Nat → Int32) × (Nat → Int32) × (Nat → Int32) × (Nat → Int32) × Int32} (h : MG im laws tl t) (h0 : ¬ laws < 0) (h6 : ¬ 6 < laws) (hr : RLW laws sg cl cs cf LL) (e : w = fX11_law tl laws nxt wr num text md deep lines opd t sg lg cl cs cf op) (a : FR sg w.2.2.2.2.2.2.2.2.2.2.1 laws) (b : FC cl w.2.2.2.2.2.2.2.2.2.2.2.2.1 laws) (c : FS cs w.2.2.2.2.2.2.2.2.2.2.2.2.2.1 laws) (d : FS cf w.2.2.2.2.2.2.2.2.2.2.2.2.2.2.1 laws) : RLW w.2.1 w.2.2.2.2.2.2.2.2.2.2.1 w.2.2.2.2.2.2.2.2.2.2.2.2.1 w.2.2.2.2.2.2.2.2.2.2.2.2.2.1 w.2.2.2.2.2.2.2.2.2.2.2.2.2.2.1 (la_LL im LL) := by
  have hm := (la_m (nxt := nxt) (wr := wr) (num := num) (text := text) (md := md) (deep := deep) (lines := lines) (opd := opd) (sg := sg) (lg := lg) (cl := cl) (cs := cs) (cf := cf) (op := op) h h6).2
  rw [← e] at hm
  obtain ⟨g0, g1, H⟩ := h
  have hl2 := hm.1
  have tz := zc_eq h0
  have low : ∀ k : Nat, (k : Int) < laws.toInt → RS 400 w.2.2.2.2.2.2.2.2.2.2.1 w.2.2.2.2.2.2.2.2.2.2.2.2.1 k 0 (la_LL im LL k) ∧ (ncl (la_LL im LL k) : Int) = (w.2.2.2.2.2.2.2.2.2.2.2.2.2.1 k).toInt ∧ (w.2.2.2.2.2.2.2.2.2.2.2.2.2.1 k).toInt ≤ 12 ∧ w.2.2.2.2.2.2.2.2.2.2.2.2.2.2.1 k = chn 0 (la_LL im LL k) := fun k hk => RLW_k hr hk h0 a b c d (la_LL_ne (by rw [← g0]; omega))
  by_cases g6 : 6 ≤ gI im 0
  · have : w.2.1 = laws := by
      rw [hl2, g0]
      unfold la_im
      rw [if_pos g6]
    rw [this]
    exact low
  · have n6 : ¬ laws = 6 := fun q => g6 (by rw [← g0, q]; decide)
    have l6 : laws.toInt ≤ 6 := by
      have := i_le h6
      rw [show (6 : Int32).toInt = 6 from by decide] at this
      exact this
    have hl3 : w.2.1 = (if lwY (tp (gI im)) (gI im 1) = 0 then gI im 0 + 1 else gI im 0) := by
      rw [hl2]
      unfold la_im
      rw [if_neg g6, gI_up]
      rfl
    have hY : lwY (tp (gI im)) (gI im 1) = match rdS im with
        | .error e => e
        | .ok _ => 0 := rfl
    rw [g1] at H
    have hp := (rd_Y (x := tp (gI im)) (t0 := fun _ => 0) (q0 := fun _ => 0) (s1 := fun _ => 0) (s2 := fun _ => 0) (s3 := fun _ => 0) (s4 := fun _ => 0) (s5 := fun _ => 0) (yj := fun _ => 0) (yo := fun _ => 0) (y1 := fun _ => 0) (y2 := fun _ => 0) (y3 := fun _ => 0) (y4 := fun _ => 0) (y5 := fun _ => 0) (T := gI im 1) H.1 H.2.1).2
    cases hrd : rdS im with
    | error er =>
      rw [hrd] at hY
      have e0 : ¬ lwY (tp (gI im)) (gI im 1) = 0 := by
        rw [hY]
        have := hp er hrd
        intro q
        have q2 : er = 0 := q
        rw [q2] at this
        exact absurd this (by decide)
      rw [if_neg e0, ← g0] at hl3
      rw [hl3]
      exact low
    | ok l =>
      rw [hrd] at hY
      have e0 : lwY (tp (gI im)) (gI im 1) = 0 := hY
      rw [if_pos e0, ← g0] at hl3
      have e1 : (laws + 1).toInt = laws.toInt + 1 := zadd1 (by omega)
      intro k hk
      by_cases ek : (k : Int) < laws.toInt
      · exact low k ek
      · have ek2 : k = laws.toNatClampNeg := by
          rw [hl3, e1] at hk
          omega
        have hrd2 : srt (tk (tp (gI im)) (gI im 1)) (nx (tp (gI im)) (gI im 1)) (sp (tp (gI im)) (gI im 1) 0) = .ok l := hrd
        have hC := r_lawC (laws := laws) (nxt := nxt) (wr := wr) (num := num) (text := text) (md := md) (deep := deep) (lines := lines) (opd := opd) (sg := sg) (lg := lg) (cl := cl) (cs := cs) (cf := cf) (op := op) H (i_ge h0) l6 n6 hrd2
        rw [← g1, ← e] at hC
        obtain ⟨B, z1, z2, z3, z4, _, _, _, z8, z9⟩ := hC
        have hL : la_LL im LL laws.toNatClampNeg = l := by
          rw [g0]
          exact la_LL_at g6 hrd
        rw [pk_us] at z2 z3 z8
        rw [z_i0] at z3
        rw [ek2, hL]
        refine ⟨?_, by omega, z4, by rw [z8]; exact fin_chn z9⟩
        exact RS_eb z1 (fun i hi => rfl) _ _ z2 (fun i _ _ => rfl)
def bk4 (im : Nat → Option (Nat → Int32)) (k : Int32) (S : Nat → Int32) : Nat → Int32 := if wi k 3 = 0 then S else match im k.toNatClampNeg with
  | none => S
  | some c => bkW c S
def bkA (im : Nat → Option (Nat → Int32)) (k : Int32) : Int32 := if wi k 3 = 0 then -1 else match im k.toNatClampNeg with
  | none => -1
  | some c => c 5
def imA (S : Nat → Int32) (k : Int32) : Int32 := if wi k 3 = 0 then -1 else S 5
