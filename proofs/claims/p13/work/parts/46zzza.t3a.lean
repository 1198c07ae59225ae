def flt (p kd : Int32) : Int32 := (1 + (8 * p)) + kd
def exb {α β : Type} (r : Except Int32 α) (g : α → Except Int32 β) : Except Int32 β := match r with
  | .error e => .error e
  | .ok v => g v
theorem exb_ok {α β : Type} {v : α} {g : α → Except Int32 β} : exb (.ok v) g = g v := rfl
theorem exb_er {α β : Type} {e : Int32} {g : α → Except Int32 β} : exb (.error e) g = .error e := rfl
theorem i10 : ((1 : Int32) = 0) = False := eq_false (by decide)
theorem i_nn {n : Int32} (h : ¬ n < 0) : 0 ≤ n.toInt := by
  rw [Int32.lt_iff_toInt_lt, z_i0] at h
  omega
def CH (tk nx : Int32 → Int32) (tc : Int32) (tf pf : Nat → Int32) : Prop :=
  (¬ 401 < tc) ∧ ∀ k : Int32, ¬ k < 0 → k < tc → tf k.toNatClampNeg = tk (pf k.toNatClampNeg) ∧ (¬ pf k.toNatClampNeg < 0) ∧ (¬ 400 < pf k.toNatClampNeg) ∧ (¬ tk (pf k.toNatClampNeg) = 258 → k + 1 < tc ∧ pf (k + 1).toNatClampNeg = nx (pf k.toNatClampNeg))
theorem CH_tok {tk nx : Int32 → Int32} {tc k : Int32} {tf pf : Nat → Int32} (h : CH tk nx tc tf pf) (k0 : ¬ k < 0) (k1 : k < tc) : fX2_token tc k tf = tk (pf k.toNatClampNeg) := by
  have h1 := h.1
  unfold fX2_token
  simp only [bnd]
  rw [if_neg k0, if_neg (show ¬ tc ≤ k by grind), if_neg (show ¬ 401 ≤ k by grind)]
  exact (h.2 k k0 k1).1
theorem CH_ref {tk nx : Int32 → Int32} {tc k kd : Int32} {tf pf : Nat → Int32} (h : CH tk nx tc tf pf) (k0 : ¬ k < 0) (k1 : k < tc) : fX2_refuse k pf kd = (flt (pf k.toNatClampNeg) kd, 0) := by
  have h1 := h.1
  unfold fX2_refuse
  simp only [bnd]
  rw [if_neg k0, if_neg (show ¬ 401 ≤ k by grind)]
  rfl
theorem CH_k {tk nx : Int32 → Int32} {tc k : Int32} {tf pf : Nat → Int32} (h : CH tk nx tc tf pf) (k0 : ¬ k < 0) (k1 : k < tc) : ¬ k + 1 < 0 := by
  have h1 := h.1
  grind
theorem flt_pos {p kd : Int32} (p0 : ¬ p < 0) (p4 : ¬ 400 < p) (d0 : ¬ kd < 0) (d4 : ¬ 4 < kd) : 0 < flt p kd := by
  unfold flt
  rw [Int32.lt_iff_toInt_lt] at p0 p4 d0 d4 ⊢
  have e4 : (400 : Int32).toInt = 400 := by decide
  have e5 : (4 : Int32).toInt = 4 := by decide
  have e8 : (8 : Int32).toInt = 8 := by decide
  have e1 : (1 : Int32).toInt = 1 := by decide
  rw [z_i0] at p0 d0 ⊢
  rw [e4] at p4
  rw [e5] at d4
  have m1 : (8 * p).toInt = 8 * p.toInt := by rw [zmul (by rw [e8]; omega) (by rw [e8]; omega), e8]
  have m2 : (1 + 8 * p).toInt = 1 + 8 * p.toInt := by rw [zadd (by rw [e1, m1]; omega) (by rw [e1, m1]; omega), e1, m1]
  rw [zadd (by rw [m2]; omega) (by rw [m2]; omega), m2]
  omega
def svl (t p n : Int32) : Except Int32 Int32 :=
  if t < 300 then (if t = 259 then .error (flt p 1) else (if 1000 ≤ t then (if n < 60 then .ok (t - 1000) else .error (flt p 3)) else .error (flt p 0)))
  else (if 311 ≤ t then (if t = 259 then .error (flt p 1) else (if 1000 ≤ t then (if n < 60 then .ok (t - 1000) else .error (flt p 3)) else .error (flt p 0)))
  else (if t = 259 then .error (flt p 1) else (if n < 60 then .ok (-1 - (t - 300)) else .error (flt p 3))))
theorem svl_end {p n v : Int32} (h : svl 258 p n = .ok v) : False := by
  have e : svl 258 p n = .error (flt p 0) := rfl
  rw [e] at h
  cases h
theorem svl_lt {t p n v : Int32} (h : svl t p n = .ok v) : n < 60 := by
  unfold svl at h
  by_cases d : n < 60
  · exact d
  · simp only [if_neg d] at h
    repeat' split at h
    all_goals cases h
def VR (k f n : Int32) (r : Except Int32 Int32) (u : Int32 × Int32 × Int32 × Int32 × (Nat → Int32) × (Nat → Int32) × Int32) : Prop := match r with
  | .error e => u.2.1 = e ∧ u.2.2.2.2.2.2 = 0 ∧ 0 < e
  | .ok _ => u.1 = k + 1 ∧ u.2.1 = f ∧ u.2.2.1 = n + 1 ∧ u.2.2.2.2.2.2 = 1
theorem c_val {tk nx : Int32 → Int32} {tc k f n yv j : Int32} {tf pf yj yo : Nat → Int32} (h : CH tk nx tc tf pf) (k0 : ¬ k < 0) (k1 : k < tc) : VR k f n (svl (tk (pf k.toNatClampNeg)) (pf k.toNatClampNeg) n) (fX2_readValue tc k f n tf pf yj yo yv j) := by
  obtain ⟨_, p0, p4, _⟩ := h.2 k k0 k1
  unfold fX2_readValue
  simp only [bnd, CH_tok h k0 k1, CH_ref h k0 k1]
  unfold svl
  generalize tk (pf k.toNatClampNeg) = t
  by_cases a : t < 300
  · simp only [if_pos a]
    by_cases b : t = 259
    · simp only [if_pos b]
      exact ⟨rfl, rfl, flt_pos p0 p4 (by decide) (by decide)⟩
    · simp only [if_neg b]
      by_cases c : (1000 : Int32) ≤ t
      · simp only [if_pos c]
        by_cases d : n < 60
        · simp only [if_pos d]
          exact ⟨rfl, rfl, rfl, rfl⟩
        · simp only [if_neg d]
          exact ⟨rfl, rfl, flt_pos p0 p4 (by decide) (by decide)⟩
      · simp only [if_neg c]
        exact ⟨rfl, rfl, flt_pos p0 p4 (by decide) (by decide)⟩
  · simp only [if_neg a]
    by_cases q : (311 : Int32) ≤ t
    · simp only [if_pos q]
      by_cases b : t = 259
      · simp only [if_pos b]
        exact ⟨rfl, rfl, flt_pos p0 p4 (by decide) (by decide)⟩
      · simp only [if_neg b]
        by_cases c : (1000 : Int32) ≤ t
        · simp only [if_pos c]
          by_cases d : n < 60
          · simp only [if_pos d]
            exact ⟨rfl, rfl, rfl, rfl⟩
          · simp only [if_neg d]
            exact ⟨rfl, rfl, flt_pos p0 p4 (by decide) (by decide)⟩
        · simp only [if_neg c]
          exact ⟨rfl, rfl, flt_pos p0 p4 (by decide) (by decide)⟩
    · simp only [if_neg q]
      by_cases b : t = 259
      · simp only [if_pos b]
        exact ⟨rfl, rfl, flt_pos p0 p4 (by decide) (by decide)⟩
      · simp only [if_neg b]
        by_cases d : n < 60
        · simp only [if_pos d]
          exact ⟨rfl, rfl, rfl, rfl⟩
        · simp only [if_neg d]
          exact ⟨rfl, rfl, flt_pos p0 p4 (by decide) (by decide)⟩
def ssum (tk nx : Int32 → Int32) : Nat → Int32 → Int32 → Int32 → Except Int32 (Int32 × Int32 × List (Int32 × Int32))
  | 0, _, _, _ => .error 0
  | m + 1, p, n, j => exb (svl (tk p) p n) (fun v => if fX2_joinOf (tk (nx p)) = -1 then .ok (nx p, n + 1, [(j, v)]) else exb (ssum tk nx m (nx (nx p)) (n + 1) (fX2_joinOf (tk (nx p)))) (fun w => .ok (w.1, w.2.1, (j, v) :: w.2.2)))
theorem ssum_s {tk nx : Int32 → Int32} {m : Nat} {p n j : Int32} : ssum tk nx (m + 1) p n j = exb (svl (tk p) p n) (fun v => if fX2_joinOf (tk (nx p)) = -1 then .ok (nx p, n + 1, [(j, v)]) else exb (ssum tk nx m (nx (nx p)) (n + 1) (fX2_joinOf (tk (nx p)))) (fun w => .ok (w.1, w.2.1, (j, v) :: w.2.2))) := rfl
def SV (pf : Nat → Int32) (tc f n : Int32) (r : Except Int32 (Int32 × Int32 × List (Int32 × Int32))) (u : Int32 × Int32 × Int32 × Int32 × (Nat → Int32) × (Nat → Int32) × Int32) : Prop := match r with
  | .error e => u.2.1 = e ∧ u.2.2.2.2.2.2 = 0 ∧ 0 < e
  | .ok w => (¬ u.1 < 0) ∧ u.1 < tc ∧ pf u.1.toNatClampNeg = w.1 ∧ u.2.1 = f ∧ u.2.2.1 = w.2.1 ∧ n < w.2.1 ∧ (¬ 60 < w.2.1) ∧ u.2.2.2.2.2.2 = 1
theorem join_end : fX2_joinOf 258 = -1 := by decide
theorem c_sumL {tk nx : Int32 → Int32} {tc f : Int32} {tf pf : Nat → Int32} (h : CH tk nx tc tf pf) {E19 E34 E52 : Int32 → Int32 → Int32 → Int32 → (Nat → Int32) → (Nat → Int32) → Int32 → Int32 → (Int32 × Int32 × Int32 × Int32 × (Nat → Int32) × (Nat → Int32) × Int32)} (h19 : ∀ a1 a2 a3 a4 a5 a6 a7 a8, (E19 a1 a2 a3 a4 a5 a6 a7 a8).2.1 = a2 ∧ (E19 a1 a2 a3 a4 a5 a6 a7 a8).2.2.2.2.2.2 = 0) (h34 : ∀ a1 a2 a3 a4 a5 a6 a7 a8, (E34 a1 a2 a3 a4 a5 a6 a7 a8).1 = a1 ∧ (E34 a1 a2 a3 a4 a5 a6 a7 a8).2.1 = a2 ∧ (E34 a1 a2 a3 a4 a5 a6 a7 a8).2.2.1 = a3 ∧ (E34 a1 a2 a3 a4 a5 a6 a7 a8).2.2.2.2.2.2 = 1) : ∀ (m N : Nat) (k n yv : Int32) (yj yo : Nat → Int32) (i j : Int32), ¬ k < 0 → k < tc → ¬ n < 0 → ¬ 60 < n → ¬ i < 0 → ¬ n < i → (60 - n.toInt).toNat < m → (401 - i.toInt).toNat < N → SV pf tc f n (ssum tk nx m (pf k.toNatClampNeg) n j) (fl_mX2_readSum_4 tc tf pf E19 E34 E52 N k f n yv yj yo i j) := by
  intro m
  induction m with
  | zero => intro N k n yv yj yo i j k0 k1 n0 n6 i0 i6 hm hN; exact absurd hm (Nat.not_lt_zero _)
  | succ m ih =>
    intro N k n yv yj yo i j k0 k1 n0 n6 i0 i6 hm hN
    cases N with
    | zero => exact absurd hN (Nat.not_lt_zero _)
    | succ N =>
      show SV pf tc f n _ (fb_mX2_readSum_4 tc tf pf E19 E34 E52 (fl_mX2_readSum_4 tc tf pf E19 E34 E52 N) k f n yv yj yo i j)
      unfold fb_mX2_readSum_4
      rw [if_neg (show ¬ 400 < i by grind)]
      simp only [bnd]
      have hv := c_val (f := f) (n := n) (yv := yv) (yj := yj) (yo := yo) (j := j) h k0 k1
      generalize fX2_readValue tc k f n tf pf yj yo yv j = u at hv ⊢
      rw [ssum_s]
      generalize he : svl (tk (pf k.toNatClampNeg)) (pf k.toNatClampNeg) n = r at hv ⊢
      cases r with
      | error e =>
        obtain ⟨h2, h7, hp⟩ := hv
        rw [if_pos h7]
        exact ⟨(h19 _ _ _ _ _ _ _ _).1.trans h2, (h19 _ _ _ _ _ _ _ _).2, hp⟩
      | ok v =>
        obtain ⟨h1, h2, h3, h7⟩ := hv
        have n9 := svl_lt he
        have ht : ¬ tk (pf k.toNatClampNeg) = 258 := fun q => svl_end (q ▸ he)
        obtain ⟨k2, hp⟩ := (h.2 k k0 k1).2.2.2 ht
        have k3 := CH_k h k0 k1
        have hn : (n + 1).toInt = n.toInt + 1 := zadd1 (by rw [Int32.lt_iff_toInt_lt] at n9; have : (60 : Int32).toInt = 60 := by decide
                                                           omega)
        have hi : (i + 1).toInt = i.toInt + 1 := zadd1 (by rw [Int32.lt_iff_toInt_lt] at n9 i6; have : (60 : Int32).toInt = 60 := by decide
                                                           omega)
        have n9' : n.toInt < 60 := by
          rw [Int32.lt_iff_toInt_lt] at n9
          have : (60 : Int32).toInt = 60 := by decide
          omega
        have i6' : i.toInt ≤ n.toInt := by
          rw [Int32.lt_iff_toInt_lt] at i6
          omega
        rw [if_neg (show ¬ u.2.2.2.2.2.2 = 0 by rw [h7]; decide), h1, h2, h3, CH_tok h k3 k2, hp]
        show SV pf tc f n (if fX2_joinOf (tk (nx (pf k.toNatClampNeg))) = -1 then _ else _) _
        by_cases hj : fX2_joinOf (tk (nx (pf k.toNatClampNeg))) = -1
        · rw [if_pos hj, if_pos hj]
          obtain ⟨g1, g2, g3, g4⟩ := h34 (k + 1) f (n + 1) u.2.2.2.1 u.2.2.2.2.1 u.2.2.2.2.2.1 i (fX2_joinOf (tk (nx (pf k.toNatClampNeg))))
          refine ⟨?_, ?_, ?_, g2, g3, ?_, ?_, g4⟩
          · rw [g1]; exact k3
          · rw [g1]; exact k2
          · rw [g1]; exact hp
          · show n < n + 1; grind
          · show ¬ 60 < n + 1; grind
        · rw [if_neg hj, if_neg hj]
          have hq : ¬ tk (pf (k + 1).toNatClampNeg) = 258 := fun q => hj (by rw [← hp, q]; exact join_end)
          obtain ⟨k4, hp2⟩ := (h.2 (k + 1) k3 k2).2.2.2 hq
          have k5 := CH_k h k3 k2
          have z := ih N (k + 1 + 1) (n + 1) u.2.2.2.1 u.2.2.2.2.1 u.2.2.2.2.2.1 (i + 1) (fX2_joinOf (tk (nx (pf k.toNatClampNeg)))) k5 k4 (by grind) (by grind) (by grind) (by grind) (by omega) (by omega)
          rw [hp2, hp] at z
          generalize ssum tk nx m (nx (nx (pf k.toNatClampNeg))) (n + 1) (fX2_joinOf (tk (nx (pf k.toNatClampNeg)))) = r at z ⊢
          cases r with
          | error e => exact z
          | ok w =>
            obtain ⟨z1, z2, z3, z4, z5, z6, z7, z8⟩ := z
            exact ⟨z1, z2, z3, z4, z5, (by grind), z7, z8⟩
theorem c_sum {tk nx : Int32 → Int32} {tc k f n yv : Int32} {tf pf yj yo : Nat → Int32} (h : CH tk nx tc tf pf) (k0 : ¬ k < 0) (k1 : k < tc) (n0 : ¬ n < 0) (n6 : ¬ 60 < n) : SV pf tc f n (ssum tk nx 61 (pf k.toNatClampNeg) n 0) (fX2_readSum tc k f n tf pf yj yo yv) := by
  have := i_nn n0
  exact c_sumL h (fun _ _ _ _ _ _ _ _ => ⟨rfl, rfl⟩) (fun _ _ _ _ _ _ _ _ => ⟨rfl, rfl, rfl, rfl⟩) 61 _ k n yv yj yo 0 0 k0 k1 n0 n6 (by decide) n0 (by omega) (by decide)
theorem z_le60 {n w : Int32} (h : n < w) (h6 : ¬ 60 < w) : w.toInt ≤ 60 ∧ n.toInt < w.toInt := by
  rw [Int32.lt_iff_toInt_lt] at h h6
  have e : (60 : Int32).toInt = 60 := by decide
  rw [e] at h6
  omega
theorem z_inc60 {i n w : Int32} (h : ¬ n < i) (hw : n < w) (h6 : ¬ 60 < w) (i0 : ¬ i < 0) : (i + 1).toInt = i.toInt + 1 := by
  have := z_le60 hw h6
  rw [Int32.lt_iff_toInt_lt] at h
  exact zadd1 (by omega)
def TV (pf : Nat → Int32) (tc f n : Int32) (r : Except Int32 (Int32 × Int32 × List (Int32 × List (Int32 × Int32) × List (Int32 × Int32)))) (u : Int32 × Int32 × Int32 × Int32 × Int32 × Int32 × (Nat → Int32) × (Nat → Int32) × (Nat → Int32) × (Nat → Int32) × (Nat → Int32) × (Nat → Int32) × (Nat → Int32) × Int32) : Prop := match r with
  | .error e => u.2.1 = e ∧ u.2.2.2.2.2.2.2.2.2.2.2.2.2 = 0 ∧ 0 < e
  | .ok w => (¬ u.1 < 0) ∧ u.1 < tc ∧ pf u.1.toNatClampNeg = w.1 ∧ u.2.1 = f ∧ u.2.2.1 = w.2.1 ∧ n < w.2.1 ∧ (¬ 60 < w.2.1) ∧ u.2.2.2.2.2.2.2.2.2.2.2.2.2 = 1
theorem CH_pos {tk nx : Int32 → Int32} {tc k kd p : Int32} {tf pf : Nat → Int32} (h : CH tk nx tc tf pf) (k0 : ¬ k < 0) (k1 : k < tc) (e : pf k.toNatClampNeg = p) (d0 : ¬ kd < 0) (d4 : ¬ 4 < kd) : 0 < flt p kd := by
  subst e
  exact flt_pos (h.2 k k0 k1).2.1 (h.2 k k0 k1).2.2.1 d0 d4
theorem CH_nx {tk nx : Int32 → Int32} {tc k p : Int32} {tf pf : Nat → Int32} (h : CH tk nx tc tf pf) (k0 : ¬ k < 0) (k1 : k < tc) (e : pf k.toNatClampNeg = p) (ht : ¬ tk p = 258) : (¬ k + 1 < 0) ∧ k + 1 < tc ∧ pf (k + 1).toNatClampNeg = nx p := by
  subst e
  exact ⟨CH_k h k0 k1, (h.2 k k0 k1).2.2.2 ht⟩
theorem CH_take {tk nx : Int32 → Int32} {tc k f p c : Int32} {tf pf : Nat → Int32} (h : CH tk nx tc tf pf) (k0 : ¬ k < 0) (k1 : k < tc) (e : pf k.toNatClampNeg = p) : fX2_take tc k f tf pf c = if tk p = c then (k + 1, f, 1) else (k, flt p 0, 0) := by
  subst e
  unfold fX2_take
  simp only [bnd, CH_tok h k0 k1, CH_ref h k0 k1]
theorem sign_end : fX2_signOf 258 = -1 := by decide
def scm (tk nx : Int32 → Int32) (p n : Int32) : Except Int32 (Int32 × Int32 × List (Int32 × List (Int32 × Int32) × List (Int32 × Int32))) := exb (ssum tk nx 61 p n 0) (fun w => if fX2_signOf (tk w.1) = -1 then .error (flt w.1 0) else if w.2.1 < 60 then exb (ssum tk nx 61 (nx w.1) (w.2.1 + 1) 0) (fun x => .ok (x.1, x.2.1, [(fX2_signOf (tk w.1), w.2.2, x.2.2)])) else .error (flt w.1 3))
theorem c_cmp {tk nx : Int32 → Int32} {tc : Int32} {tf pf : Nat → Int32} (h : CH tk nx tc tf pf) : ∀ (k f n : Int32) (yj yo y1 y2 y3 y4 y5 : Nat → Int32) (yv yf ys : Int32), ¬ k < 0 → k < tc → ¬ n < 0 → ¬ 60 < n → TV pf tc f n (scm tk nx (pf k.toNatClampNeg) n) (fX2_readComparison tc k f n tf pf yj yo y1 y2 y3 y4 y5 yv yf ys) := by
  intro k f n yj yo y1 y2 y3 y4 y5 yv yf ys k0 k1 n0 n6
  unfold fX2_readComparison
  simp only [bnd]
  have hs := c_sum (f := f) (yv := yv) (yj := yj) (yo := yo) h k0 k1 n0 n6
  generalize fX2_readSum tc k f n tf pf yj yo yv = u at hs ⊢
  unfold scm
  generalize ssum tk nx 61 (pf k.toNatClampNeg) n 0 = r at hs ⊢
  cases r with
  | error e =>
    obtain ⟨h2, h7, hp⟩ := hs
    rw [if_pos h7]
    exact ⟨h2, rfl, hp⟩
  | ok w =>
    obtain ⟨a1, a2, a3, a4, a5, a6, a7, a8⟩ := hs
    rw [if_neg (show ¬ u.2.2.2.2.2.2 = 0 by rw [a8]; decide), CH_tok h a1 a2, a3]
    show TV pf tc f n (if fX2_signOf (tk w.1) = -1 then _ else _) _
    by_cases hg : fX2_signOf (tk w.1) = -1
    · rw [if_pos hg, if_pos hg, CH_ref h a1 a2, a3]
      exact ⟨rfl, rfl, CH_pos h a1 a2 a3 (by decide) (by decide)⟩
    · rw [if_neg hg, if_neg hg, a5]
      by_cases hd : w.2.1 < 60
      · rw [if_pos hd, if_pos hd]
        obtain ⟨b0, b1, b2⟩ := CH_nx h a1 a2 a3 (fun q => hg (by rw [q]; exact sign_end))
        have hs2 := c_sum (f := u.2.1) (yv := u.2.2.2.1) (yj := u.2.2.2.2.1) (yo := u.2.2.2.2.2.1) (k := u.1 + 1) (n := w.2.1 + 1) h b0 b1 (by grind) (by grind)
        rw [b2] at hs2
        generalize fX2_readSum tc (u.1 + 1) u.2.1 (w.2.1 + 1) tf pf u.2.2.2.2.1 u.2.2.2.2.2.1 u.2.2.2.1 = v at hs2 ⊢
        generalize ssum tk nx 61 (nx w.1) (w.2.1 + 1) 0 = r at hs2 ⊢
        cases r with
        | error e =>
          obtain ⟨h2, h7, hp⟩ := hs2
          rw [if_pos h7]
          exact ⟨h2, rfl, hp⟩
        | ok x =>
          obtain ⟨c1, c2, c3, c4, c5, c6, c7, c8⟩ := hs2
          rw [if_neg (show ¬ v.2.2.2.2.2.2 = 0 by rw [c8]; decide)]
          exact ⟨c1, c2, c3, c4.trans a4, c5, (by show n < x.2.1; grind), c7, rfl⟩
      · rw [if_neg hd, if_neg hd, CH_ref h a1 a2, a3]
        exact ⟨rfl, rfl, CH_pos h a1 a2 a3 (by decide) (by decide)⟩
def sfc0 (tk nx : Int32 → Int32) (p n : Int32) : Except Int32 (Int32 × Int32 × List (Int32 × List (Int32 × Int32) × List (Int32 × Int32))) := if tk p = 319 then .error (flt p 2) else if tk p = 91 then .error (flt p 2) else scm tk nx p n
def sfc (tk nx : Int32 → Int32) (T F : Int32 → Int32 → Except Int32 (Int32 × Int32 × List (Int32 × List (Int32 × Int32) × List (Int32 × Int32)))) (p n : Int32) : Except Int32 (Int32 × Int32 × List (Int32 × List (Int32 × Int32) × List (Int32 × Int32))) := if tk p = 319 then exb (F (nx p) n) (fun w => .ok (w.1, w.2.1, w.2.2 ++ [(-1, [], [])])) else if tk p = 91 then exb (T (nx p) n) (fun w => if tk w.1 = 93 then .ok (nx w.1, w.2.1, w.2.2) else .error (flt w.1 0)) else scm tk nx p n
def slp (tk nx : Int32 → Int32) (F : Int32 → Int32 → Except Int32 (Int32 × Int32 × List (Int32 × List (Int32 × Int32) × List (Int32 × Int32)))) (ot op : Int32) : Nat → Bool → Int32 → Int32 → Except Int32 (Int32 × Int32 × List (Int32 × List (Int32 × Int32) × List (Int32 × Int32)))
  | 0, _, _, _ => .error 0
  | m + 1, b, p, n => exb (F p n) (fun w => if tk w.1 = ot then exb (slp tk nx F ot op m true (nx w.1) w.2.1) (fun x => .ok (x.1, x.2.1, (if b then w.2.2 ++ [(op, [], [])] else w.2.2) ++ x.2.2)) else .ok (w.1, w.2.1, if b then w.2.2 ++ [(op, [], [])] else w.2.2))
theorem slp_s {tk nx : Int32 → Int32} {F : Int32 → Int32 → Except Int32 (Int32 × Int32 × List (Int32 × List (Int32 × Int32) × List (Int32 × Int32)))} {ot op : Int32} {m : Nat} {b : Bool} {p n : Int32} : slp tk nx F ot op (m + 1) b p n = exb (F p n) (fun w => if tk w.1 = ot then exb (slp tk nx F ot op m true (nx w.1) w.2.1) (fun x => .ok (x.1, x.2.1, (if b then w.2.2 ++ [(op, [], [])] else w.2.2) ++ x.2.2)) else .ok (w.1, w.2.1, if b then w.2.2 ++ [(op, [], [])] else w.2.2)) := rfl
def sF (tk nx : Int32 → Int32) : Nat → Int32 → Int32 → Except Int32 (Int32 × Int32 × List (Int32 × List (Int32 × Int32) × List (Int32 × Int32)))
  | 0 => sfc0 tk nx
  | d + 1 => sfc tk nx (slp tk nx (slp tk nx (sF tk nx d) 318 (-2) 61 false) 317 (-3) 61 false) (sF tk nx d)
def sP (tk nx : Int32 → Int32) (d : Nat) : Int32 → Int32 → Except Int32 (Int32 × Int32 × List (Int32 × List (Int32 × Int32) × List (Int32 × Int32))) := slp tk nx (sF tk nx d) 318 (-2) 61 false
def sT (tk nx : Int32 → Int32) (d : Nat) : Int32 → Int32 → Except Int32 (Int32 × Int32 × List (Int32 × List (Int32 × Int32) × List (Int32 × Int32))) := slp tk nx (sP tk nx d) 317 (-3) 61 false
theorem c_fact_10 {tk nx : Int32 → Int32} {tc : Int32} {tf pf : Nat → Int32} (h : CH tk nx tc tf pf) : ∀ (k f n : Int32) (yj yo y1 y2 y3 y4 y5 : Nat → Int32) (yv yf ys : Int32), ¬ k < 0 → k < tc → ¬ n < 0 → ¬ 60 < n → TV pf tc f n (sF tk nx 0 (pf k.toNatClampNeg) n) (fX2_readFact_10 tc k f n tf pf yj yo y1 y2 y3 y4 y5 yv yf ys) := by
  intro k f n yj yo y1 y2 y3 y4 y5 yv yf ys k0 k1 n0 n6
  have hc := c_cmp h k f n yj yo y1 y2 y3 y4 y5 yv yf ys k0 k1 n0 n6
  unfold fX2_readFact_10
  simp only [bnd, CH_tok h k0 k1, CH_ref h k0 k1]
  show TV pf tc f n (sfc0 tk nx (pf k.toNatClampNeg) n) _
  unfold sfc0
  by_cases a : tk (pf k.toNatClampNeg) = 319
  · rw [if_pos a, if_pos a]
    exact ⟨rfl, rfl, CH_pos h k0 k1 rfl (by decide) (by decide)⟩
  · rw [if_neg a, if_neg a]
    by_cases b : tk (pf k.toNatClampNeg) = 91
    · rw [if_pos b, if_pos b]
      exact ⟨rfl, rfl, CH_pos h k0 k1 rfl (by decide) (by decide)⟩
    · rw [if_neg b, if_neg b]
      generalize fX2_readComparison tc k f n tf pf yj yo y1 y2 y3 y4 y5 yv yf ys = u at hc ⊢
      exact hc
theorem c_partL_10 {tk nx : Int32 → Int32} {tc : Int32} {tf pf : Nat → Int32} (h : CH tk nx tc tf pf) {f : Int32} {E17 E42 E60 : Int32 → Int32 → Int32 → Int32 → Int32 → Int32 → (Nat → Int32) → (Nat → Int32) → (Nat → Int32) → (Nat → Int32) → (Nat → Int32) → (Nat → Int32) → (Nat → Int32) → Int32 → (Int32 × Int32 × Int32 × Int32 × Int32 × Int32 × (Nat → Int32) × (Nat → Int32) × (Nat → Int32) × (Nat → Int32) × (Nat → Int32) × (Nat → Int32) × (Nat → Int32) × Int32)} (h17 : ∀ a1 a2 a3 a4 a5 a6 a7 a8 a9 a10 a11 a12 a13 a14, (E17 a1 a2 a3 a4 a5 a6 a7 a8 a9 a10 a11 a12 a13 a14).2.1 = a2 ∧ (E17 a1 a2 a3 a4 a5 a6 a7 a8 a9 a10 a11 a12 a13 a14).2.2.2.2.2.2.2.2.2.2.2.2.2 = 0) (h42 : ∀ a1 a2 a3 a4 a5 a6 a7 a8 a9 a10 a11 a12 a13 a14, (E42 a1 a2 a3 a4 a5 a6 a7 a8 a9 a10 a11 a12 a13 a14).1 = a1 ∧ (E42 a1 a2 a3 a4 a5 a6 a7 a8 a9 a10 a11 a12 a13 a14).2.1 = a2 ∧ (E42 a1 a2 a3 a4 a5 a6 a7 a8 a9 a10 a11 a12 a13 a14).2.2.1 = a3 ∧ (E42 a1 a2 a3 a4 a5 a6 a7 a8 a9 a10 a11 a12 a13 a14).2.2.2.2.2.2.2.2.2.2.2.2.2 = 1) : ∀ (m N : Nat) (b : Bool) (k n v3 v4 v5 : Int32) (g6 g7 g8 g9 g10 g11 g12 : Nat → Int32) (i : Int32), ¬ k < 0 → k < tc → ¬ n < 0 → ¬ 60 < n → ¬ i < 0 → ¬ n < i → (60 - n.toInt).toNat < m → (401 - i.toInt).toNat < N → TV pf tc f n (slp tk nx (sF tk nx 0) 318 (-2) m b (pf k.toNatClampNeg) n) (fl_mX2_readPart_10_2 tc tf pf E17 E42 E60 N k f n v3 v4 v5 g6 g7 g8 g9 g10 g11 g12 i) := by
  intro m
  induction m with
  | zero => intro N b k n v3 v4 v5 g6 g7 g8 g9 g10 g11 g12 i k0 k1 n0 n6 i0 i6 hm hN; exact absurd hm (Nat.not_lt_zero _)
  | succ m ih =>
    intro N b k n v3 v4 v5 g6 g7 g8 g9 g10 g11 g12 i k0 k1 n0 n6 i0 i6 hm hN
    cases N with
    | zero => exact absurd hN (Nat.not_lt_zero _)
    | succ N =>
      show TV pf tc f n _ (fb_mX2_readPart_10_2 tc tf pf E17 E42 E60 (fl_mX2_readPart_10_2 tc tf pf E17 E42 E60 N) k f n v3 v4 v5 g6 g7 g8 g9 g10 g11 g12 i)
      unfold fb_mX2_readPart_10_2
      rw [if_neg (show ¬ 400 < i by grind)]
      simp only [bnd]
      have hv := c_fact_10 h k f n g6 g7 g8 g9 g10 g11 g12 v3 v4 v5 k0 k1 n0 n6
      generalize fX2_readFact_10 tc k f n tf pf g6 g7 g8 g9 g10 g11 g12 v3 v4 v5 = u at hv ⊢
      rw [slp_s]
      generalize sF tk nx 0 (pf k.toNatClampNeg) n = r at hv ⊢
      cases r with
      | error e =>
        obtain ⟨h2, h7, hp⟩ := hv
        rw [if_pos h7]
        exact ⟨(h17 u.1 u.2.1 u.2.2.1 u.2.2.2.1 u.2.2.2.2.1 u.2.2.2.2.2.1 u.2.2.2.2.2.2.1 u.2.2.2.2.2.2.2.1 u.2.2.2.2.2.2.2.2.1 u.2.2.2.2.2.2.2.2.2.1 u.2.2.2.2.2.2.2.2.2.2.1 u.2.2.2.2.2.2.2.2.2.2.2.1 u.2.2.2.2.2.2.2.2.2.2.2.2.1 i).1.trans h2, (h17 u.1 u.2.1 u.2.2.1 u.2.2.2.1 u.2.2.2.2.1 u.2.2.2.2.2.1 u.2.2.2.2.2.2.1 u.2.2.2.2.2.2.2.1 u.2.2.2.2.2.2.2.2.1 u.2.2.2.2.2.2.2.2.2.1 u.2.2.2.2.2.2.2.2.2.2.1 u.2.2.2.2.2.2.2.2.2.2.2.1 u.2.2.2.2.2.2.2.2.2.2.2.2.1 i).2, hp⟩
      | ok w =>
        obtain ⟨c1, c2, c3, c4, c5, c6, c7, c8⟩ := hv
        rw [if_neg (show ¬ u.2.2.2.2.2.2.2.2.2.2.2.2.2 = 0 by rw [c8]; decide), CH_tok h c1 c2, c3]
        have hn : (w.2.1).toInt ≤ 60 ∧ n.toInt < (w.2.1).toInt := z_le60 c6 c7
        have hi := z_inc60 i6 c6 c7 i0
        have i6' : i.toInt ≤ n.toInt := by
          rw [Int32.lt_iff_toInt_lt] at i6
          omega
        have key : ∀ (s5 : Int32) (s12 : Nat → Int32), TV pf tc f n (if tk w.1 = 318 then exb (slp tk nx (sF tk nx 0) 318 (-2) m true (nx w.1) w.2.1) (fun x => .ok (x.1, x.2.1, (if b then w.2.2 ++ [((-2), [], [])] else w.2.2) ++ x.2.2)) else .ok (w.1, w.2.1, if b then w.2.2 ++ [((-2), [], [])] else w.2.2)) (if tk w.1 = 318 then fl_mX2_readPart_10_2 tc tf pf E17 E42 E60 N (u.1 + 1) u.2.1 u.2.2.1 u.2.2.2.1 u.2.2.2.2.1 s5 u.2.2.2.2.2.2.1 u.2.2.2.2.2.2.2.1 u.2.2.2.2.2.2.2.2.1 u.2.2.2.2.2.2.2.2.2.1 u.2.2.2.2.2.2.2.2.2.2.1 u.2.2.2.2.2.2.2.2.2.2.2.1 s12 (i + 1) else E42 u.1 u.2.1 u.2.2.1 u.2.2.2.1 u.2.2.2.2.1 s5 u.2.2.2.2.2.2.1 u.2.2.2.2.2.2.2.1 u.2.2.2.2.2.2.2.2.1 u.2.2.2.2.2.2.2.2.2.1 u.2.2.2.2.2.2.2.2.2.2.1 u.2.2.2.2.2.2.2.2.2.2.2.1 s12 i) := by
          intro s5 s12
          by_cases t : tk w.1 = 318
          · rw [if_pos t, if_pos t]
            obtain ⟨d0, d1, d2⟩ := CH_nx h c1 c2 c3 (fun q => absurd (t.symm.trans q) (by decide))
            have z := ih N true (u.1 + 1) w.2.1 u.2.2.2.1 u.2.2.2.2.1 s5 u.2.2.2.2.2.2.1 u.2.2.2.2.2.2.2.1 u.2.2.2.2.2.2.2.2.1 u.2.2.2.2.2.2.2.2.2.1 u.2.2.2.2.2.2.2.2.2.2.1 u.2.2.2.2.2.2.2.2.2.2.2.1 s12 (i + 1) d0 d1 (by grind) c7 (by grind) (by grind) (by omega) (by omega)
            rw [d2] at z
            rw [c4, c5]
            generalize slp tk nx (sF tk nx 0) 318 (-2) m true (nx w.1) w.2.1 = r at z ⊢
            cases r with
            | error e => exact z
            | ok x =>
              obtain ⟨z1, z2, z3, z4, z5, z6, z7, z8⟩ := z
              exact ⟨z1, z2, z3, z4, z5, (by show n < x.2.1; grind), z7, z8⟩
          · rw [if_neg t, if_neg t]
            obtain ⟨g1, g2, g3, g4⟩ := h42 u.1 u.2.1 u.2.2.1 u.2.2.2.1 u.2.2.2.2.1 s5 u.2.2.2.2.2.2.1 u.2.2.2.2.2.2.2.1 u.2.2.2.2.2.2.2.2.1 u.2.2.2.2.2.2.2.2.2.1 u.2.2.2.2.2.2.2.2.2.2.1 u.2.2.2.2.2.2.2.2.2.2.2.1 s12 i
            refine ⟨?_, ?_, ?_, g2.trans c4, g3.trans c5, c6, c7, g4⟩
            · rw [g1]; exact c1
            · rw [g1]; exact c2
            · rw [g1]; exact c3
        by_cases hi9 : i ≤ 0
        · rw [if_pos hi9]; exact key _ _
        · rw [if_neg hi9]; exact key _ _
theorem c_part_10 {tk nx : Int32 → Int32} {tc : Int32} {tf pf : Nat → Int32} (h : CH tk nx tc tf pf) : ∀ (k f n : Int32) (yj yo y1 y2 y3 y4 y5 : Nat → Int32) (yv yf ys : Int32), ¬ k < 0 → k < tc → ¬ n < 0 → ¬ 60 < n → TV pf tc f n (sP tk nx 0 (pf k.toNatClampNeg) n) (fX2_readPart_10 tc k f n tf pf yj yo y1 y2 y3 y4 y5 yv yf ys) := by
  intro k f n yj yo y1 y2 y3 y4 y5 yv yf ys k0 k1 n0 n6
  have := i_nn n0
  exact c_partL_10 h (fun _ _ _ _ _ _ _ _ _ _ _ _ _ _ => ⟨rfl, rfl⟩) (fun _ _ _ _ _ _ _ _ _ _ _ _ _ _ => ⟨rfl, rfl, rfl, rfl⟩) 61 _ false k n yv yf ys yj yo y1 y2 y3 y4 y5 0 k0 k1 n0 n6 (by decide) n0 (by omega) (by decide)
theorem c_testL_10 {tk nx : Int32 → Int32} {tc : Int32} {tf pf : Nat → Int32} (h : CH tk nx tc tf pf) {f : Int32} {E17 E42 E60 : Int32 → Int32 → Int32 → Int32 → Int32 → Int32 → (Nat → Int32) → (Nat → Int32) → (Nat → Int32) → (Nat → Int32) → (Nat → Int32) → (Nat → Int32) → (Nat → Int32) → Int32 → (Int32 × Int32 × Int32 × Int32 × Int32 × Int32 × (Nat → Int32) × (Nat → Int32) × (Nat → Int32) × (Nat → Int32) × (Nat → Int32) × (Nat → Int32) × (Nat → Int32) × Int32)} (h17 : ∀ a1 a2 a3 a4 a5 a6 a7 a8 a9 a10 a11 a12 a13 a14, (E17 a1 a2 a3 a4 a5 a6 a7 a8 a9 a10 a11 a12 a13 a14).2.1 = a2 ∧ (E17 a1 a2 a3 a4 a5 a6 a7 a8 a9 a10 a11 a12 a13 a14).2.2.2.2.2.2.2.2.2.2.2.2.2 = 0) (h42 : ∀ a1 a2 a3 a4 a5 a6 a7 a8 a9 a10 a11 a12 a13 a14, (E42 a1 a2 a3 a4 a5 a6 a7 a8 a9 a10 a11 a12 a13 a14).1 = a1 ∧ (E42 a1 a2 a3 a4 a5 a6 a7 a8 a9 a10 a11 a12 a13 a14).2.1 = a2 ∧ (E42 a1 a2 a3 a4 a5 a6 a7 a8 a9 a10 a11 a12 a13 a14).2.2.1 = a3 ∧ (E42 a1 a2 a3 a4 a5 a6 a7 a8 a9 a10 a11 a12 a13 a14).2.2.2.2.2.2.2.2.2.2.2.2.2 = 1) : ∀ (m N : Nat) (b : Bool) (k n v3 v4 v5 : Int32) (g6 g7 g8 g9 g10 g11 g12 : Nat → Int32) (i : Int32), ¬ k < 0 → k < tc → ¬ n < 0 → ¬ 60 < n → ¬ i < 0 → ¬ n < i → (60 - n.toInt).toNat < m → (401 - i.toInt).toNat < N → TV pf tc f n (slp tk nx (sP tk nx 0) 317 (-3) m b (pf k.toNatClampNeg) n) (fl_mX2_readTest_10_2 tc tf pf E17 E42 E60 N k f n v3 v4 v5 g6 g7 g8 g9 g10 g11 g12 i) := by
  intro m
  induction m with
  | zero => intro N b k n v3 v4 v5 g6 g7 g8 g9 g10 g11 g12 i k0 k1 n0 n6 i0 i6 hm hN; exact absurd hm (Nat.not_lt_zero _)
  | succ m ih =>
    intro N b k n v3 v4 v5 g6 g7 g8 g9 g10 g11 g12 i k0 k1 n0 n6 i0 i6 hm hN
    cases N with
    | zero => exact absurd hN (Nat.not_lt_zero _)
    | succ N =>
      show TV pf tc f n _ (fb_mX2_readTest_10_2 tc tf pf E17 E42 E60 (fl_mX2_readTest_10_2 tc tf pf E17 E42 E60 N) k f n v3 v4 v5 g6 g7 g8 g9 g10 g11 g12 i)
      unfold fb_mX2_readTest_10_2
      rw [if_neg (show ¬ 400 < i by grind)]
      simp only [bnd]
      have hv := c_part_10 h k f n g6 g7 g8 g9 g10 g11 g12 v3 v4 v5 k0 k1 n0 n6
      generalize fX2_readPart_10 tc k f n tf pf g6 g7 g8 g9 g10 g11 g12 v3 v4 v5 = u at hv ⊢
      rw [slp_s]
      generalize sP tk nx 0 (pf k.toNatClampNeg) n = r at hv ⊢
      cases r with
      | error e =>
        obtain ⟨h2, h7, hp⟩ := hv
        rw [if_pos h7]
        exact ⟨(h17 u.1 u.2.1 u.2.2.1 u.2.2.2.1 u.2.2.2.2.1 u.2.2.2.2.2.1 u.2.2.2.2.2.2.1 u.2.2.2.2.2.2.2.1 u.2.2.2.2.2.2.2.2.1 u.2.2.2.2.2.2.2.2.2.1 u.2.2.2.2.2.2.2.2.2.2.1 u.2.2.2.2.2.2.2.2.2.2.2.1 u.2.2.2.2.2.2.2.2.2.2.2.2.1 i).1.trans h2, (h17 u.1 u.2.1 u.2.2.1 u.2.2.2.1 u.2.2.2.2.1 u.2.2.2.2.2.1 u.2.2.2.2.2.2.1 u.2.2.2.2.2.2.2.1 u.2.2.2.2.2.2.2.2.1 u.2.2.2.2.2.2.2.2.2.1 u.2.2.2.2.2.2.2.2.2.2.1 u.2.2.2.2.2.2.2.2.2.2.2.1 u.2.2.2.2.2.2.2.2.2.2.2.2.1 i).2, hp⟩
      | ok w =>
        obtain ⟨c1, c2, c3, c4, c5, c6, c7, c8⟩ := hv
        rw [if_neg (show ¬ u.2.2.2.2.2.2.2.2.2.2.2.2.2 = 0 by rw [c8]; decide), CH_tok h c1 c2, c3]
        have hn : (w.2.1).toInt ≤ 60 ∧ n.toInt < (w.2.1).toInt := z_le60 c6 c7
        have hi := z_inc60 i6 c6 c7 i0
        have i6' : i.toInt ≤ n.toInt := by
          rw [Int32.lt_iff_toInt_lt] at i6
          omega
        have key : ∀ (s5 : Int32) (s12 : Nat → Int32), TV pf tc f n (if tk w.1 = 317 then exb (slp tk nx (sP tk nx 0) 317 (-3) m true (nx w.1) w.2.1) (fun x => .ok (x.1, x.2.1, (if b then w.2.2 ++ [((-3), [], [])] else w.2.2) ++ x.2.2)) else .ok (w.1, w.2.1, if b then w.2.2 ++ [((-3), [], [])] else w.2.2)) (if tk w.1 = 317 then fl_mX2_readTest_10_2 tc tf pf E17 E42 E60 N (u.1 + 1) u.2.1 u.2.2.1 u.2.2.2.1 u.2.2.2.2.1 s5 u.2.2.2.2.2.2.1 u.2.2.2.2.2.2.2.1 u.2.2.2.2.2.2.2.2.1 u.2.2.2.2.2.2.2.2.2.1 u.2.2.2.2.2.2.2.2.2.2.1 u.2.2.2.2.2.2.2.2.2.2.2.1 s12 (i + 1) else E42 u.1 u.2.1 u.2.2.1 u.2.2.2.1 u.2.2.2.2.1 s5 u.2.2.2.2.2.2.1 u.2.2.2.2.2.2.2.1 u.2.2.2.2.2.2.2.2.1 u.2.2.2.2.2.2.2.2.2.1 u.2.2.2.2.2.2.2.2.2.2.1 u.2.2.2.2.2.2.2.2.2.2.2.1 s12 i) := by
          intro s5 s12
          by_cases t : tk w.1 = 317
          · rw [if_pos t, if_pos t]
            obtain ⟨d0, d1, d2⟩ := CH_nx h c1 c2 c3 (fun q => absurd (t.symm.trans q) (by decide))
            have z := ih N true (u.1 + 1) w.2.1 u.2.2.2.1 u.2.2.2.2.1 s5 u.2.2.2.2.2.2.1 u.2.2.2.2.2.2.2.1 u.2.2.2.2.2.2.2.2.1 u.2.2.2.2.2.2.2.2.2.1 u.2.2.2.2.2.2.2.2.2.2.1 u.2.2.2.2.2.2.2.2.2.2.2.1 s12 (i + 1) d0 d1 (by grind) c7 (by grind) (by grind) (by omega) (by omega)
            rw [d2] at z
            rw [c4, c5]
            generalize slp tk nx (sP tk nx 0) 317 (-3) m true (nx w.1) w.2.1 = r at z ⊢
            cases r with
            | error e => exact z
            | ok x =>
              obtain ⟨z1, z2, z3, z4, z5, z6, z7, z8⟩ := z
              exact ⟨z1, z2, z3, z4, z5, (by show n < x.2.1; grind), z7, z8⟩
          · rw [if_neg t, if_neg t]
            obtain ⟨g1, g2, g3, g4⟩ := h42 u.1 u.2.1 u.2.2.1 u.2.2.2.1 u.2.2.2.2.1 s5 u.2.2.2.2.2.2.1 u.2.2.2.2.2.2.2.1 u.2.2.2.2.2.2.2.2.1 u.2.2.2.2.2.2.2.2.2.1 u.2.2.2.2.2.2.2.2.2.2.1 u.2.2.2.2.2.2.2.2.2.2.2.1 s12 i
            refine ⟨?_, ?_, ?_, g2.trans c4, g3.trans c5, c6, c7, g4⟩
            · rw [g1]; exact c1
            · rw [g1]; exact c2
            · rw [g1]; exact c3
        by_cases hi9 : i ≤ 0
        · rw [if_pos hi9]; exact key _ _
        · rw [if_neg hi9]; exact key _ _
theorem c_test_10 {tk nx : Int32 → Int32} {tc : Int32} {tf pf : Nat → Int32} (h : CH tk nx tc tf pf) : ∀ (k f n : Int32) (yj yo y1 y2 y3 y4 y5 : Nat → Int32) (yv yf ys : Int32), ¬ k < 0 → k < tc → ¬ n < 0 → ¬ 60 < n → TV pf tc f n (sT tk nx 0 (pf k.toNatClampNeg) n) (fX2_readTest_10 tc k f n tf pf yj yo y1 y2 y3 y4 y5 yv yf ys) := by
  intro k f n yj yo y1 y2 y3 y4 y5 yv yf ys k0 k1 n0 n6
  have := i_nn n0
  exact c_testL_10 h (fun _ _ _ _ _ _ _ _ _ _ _ _ _ _ => ⟨rfl, rfl⟩) (fun _ _ _ _ _ _ _ _ _ _ _ _ _ _ => ⟨rfl, rfl, rfl, rfl⟩) 61 _ false k n yv yf ys yj yo y1 y2 y3 y4 y5 0 k0 k1 n0 n6 (by decide) n0 (by omega) (by decide)
theorem c_fact_9 {tk nx : Int32 → Int32} {tc : Int32} {tf pf : Nat → Int32} (h : CH tk nx tc tf pf) : ∀ (k f n : Int32) (yj yo y1 y2 y3 y4 y5 : Nat → Int32) (yv yf ys : Int32), ¬ k < 0 → k < tc → ¬ n < 0 → ¬ 60 < n → TV pf tc f n (sF tk nx 1 (pf k.toNatClampNeg) n) (fX2_readFact_9 tc k f n tf pf yj yo y1 y2 y3 y4 y5 yv yf ys) := by
  intro k f n yj yo y1 y2 y3 y4 y5 yv yf ys k0 k1 n0 n6
  have hc := c_cmp h k f n yj yo y1 y2 y3 y4 y5 yv yf ys k0 k1 n0 n6
  unfold fX2_readFact_9
  simp only [bnd, CH_tok h k0 k1]
  show TV pf tc f n (sfc tk nx (sT tk nx 0) (sF tk nx 0) (pf k.toNatClampNeg) n) _
  unfold sfc
  by_cases a : tk (pf k.toNatClampNeg) = 319
  · rw [if_pos a, if_pos a]
    obtain ⟨b0, b1, b2⟩ := CH_nx h k0 k1 rfl (fun q => absurd (a.symm.trans q) (by decide))
    have hf := c_fact_10 h (k + 1) f n yj yo y1 y2 y3 y4 y5 yv yf ys b0 b1 n0 n6
    rw [b2] at hf
    generalize fX2_readFact_10 tc (k + 1) f n tf pf yj yo y1 y2 y3 y4 y5 yv yf ys = u at hf ⊢
    generalize sF tk nx 0 (nx (pf k.toNatClampNeg)) n = r at hf ⊢
    cases r with
    | error e => exact hf
    | ok w => exact hf
  · rw [if_neg a, if_neg a]
    by_cases b : tk (pf k.toNatClampNeg) = 91
    · rw [if_pos b, if_pos b]
      obtain ⟨b0, b1, b2⟩ := CH_nx h k0 k1 rfl (fun q => absurd (b.symm.trans q) (by decide))
      have hf := c_test_10 h (k + 1) f n yj yo y1 y2 y3 y4 y5 yv yf ys b0 b1 n0 n6
      rw [b2] at hf
      generalize fX2_readTest_10 tc (k + 1) f n tf pf yj yo y1 y2 y3 y4 y5 yv yf ys = u at hf ⊢
      generalize sT tk nx 0 (nx (pf k.toNatClampNeg)) n = r at hf ⊢
      cases r with
      | error e =>
        obtain ⟨h2, h7, hp⟩ := hf
        rw [if_pos h7]
        exact ⟨h2, rfl, hp⟩
      | ok w =>
        obtain ⟨c1, c2, c3, c4, c5, c6, c7, c8⟩ := hf
        rw [if_neg (show ¬ u.2.2.2.2.2.2.2.2.2.2.2.2.2 = 0 by rw [c8]; decide), CH_take h c1 c2 c3]
        show TV pf tc f n (if tk w.1 = 93 then _ else _) _
        by_cases t : tk w.1 = 93
        · rw [if_pos t, if_pos t]
          obtain ⟨d0, d1, d2⟩ := CH_nx h c1 c2 c3 (fun q => absurd (t.symm.trans q) (by decide))
          exact ⟨d0, d1, d2, c4, c5, c6, c7, rfl⟩
        · rw [if_neg t, if_neg t]
          exact ⟨rfl, rfl, CH_pos h c1 c2 c3 (by decide) (by decide)⟩
    · rw [if_neg b, if_neg b]
      generalize fX2_readComparison tc k f n tf pf yj yo y1 y2 y3 y4 y5 yv yf ys = u at hc ⊢
      exact hc
theorem c_partL_9 {tk nx : Int32 → Int32} {tc : Int32} {tf pf : Nat → Int32} (h : CH tk nx tc tf pf) {f : Int32} {E17 E42 E60 : Int32 → Int32 → Int32 → Int32 → Int32 → Int32 → (Nat → Int32) → (Nat → Int32) → (Nat → Int32) → (Nat → Int32) → (Nat → Int32) → (Nat → Int32) → (Nat → Int32) → Int32 → (Int32 × Int32 × Int32 × Int32 × Int32 × Int32 × (Nat → Int32) × (Nat → Int32) × (Nat → Int32) × (Nat → Int32) × (Nat → Int32) × (Nat → Int32) × (Nat → Int32) × Int32)} (h17 : ∀ a1 a2 a3 a4 a5 a6 a7 a8 a9 a10 a11 a12 a13 a14, (E17 a1 a2 a3 a4 a5 a6 a7 a8 a9 a10 a11 a12 a13 a14).2.1 = a2 ∧ (E17 a1 a2 a3 a4 a5 a6 a7 a8 a9 a10 a11 a12 a13 a14).2.2.2.2.2.2.2.2.2.2.2.2.2 = 0) (h42 : ∀ a1 a2 a3 a4 a5 a6 a7 a8 a9 a10 a11 a12 a13 a14, (E42 a1 a2 a3 a4 a5 a6 a7 a8 a9 a10 a11 a12 a13 a14).1 = a1 ∧ (E42 a1 a2 a3 a4 a5 a6 a7 a8 a9 a10 a11 a12 a13 a14).2.1 = a2 ∧ (E42 a1 a2 a3 a4 a5 a6 a7 a8 a9 a10 a11 a12 a13 a14).2.2.1 = a3 ∧ (E42 a1 a2 a3 a4 a5 a6 a7 a8 a9 a10 a11 a12 a13 a14).2.2.2.2.2.2.2.2.2.2.2.2.2 = 1) : ∀ (m N : Nat) (b : Bool) (k n v3 v4 v5 : Int32) (g6 g7 g8 g9 g10 g11 g12 : Nat → Int32) (i : Int32), ¬ k < 0 → k < tc → ¬ n < 0 → ¬ 60 < n → ¬ i < 0 → ¬ n < i → (60 - n.toInt).toNat < m → (401 - i.toInt).toNat < N → TV pf tc f n (slp tk nx (sF tk nx 1) 318 (-2) m b (pf k.toNatClampNeg) n) (fl_mX2_readPart_9_2 tc tf pf E17 E42 E60 N k f n v3 v4 v5 g6 g7 g8 g9 g10 g11 g12 i) := by
  intro m
  induction m with
  | zero => intro N b k n v3 v4 v5 g6 g7 g8 g9 g10 g11 g12 i k0 k1 n0 n6 i0 i6 hm hN; exact absurd hm (Nat.not_lt_zero _)
  | succ m ih =>
    intro N b k n v3 v4 v5 g6 g7 g8 g9 g10 g11 g12 i k0 k1 n0 n6 i0 i6 hm hN
    cases N with
    | zero => exact absurd hN (Nat.not_lt_zero _)
    | succ N =>
      show TV pf tc f n _ (fb_mX2_readPart_9_2 tc tf pf E17 E42 E60 (fl_mX2_readPart_9_2 tc tf pf E17 E42 E60 N) k f n v3 v4 v5 g6 g7 g8 g9 g10 g11 g12 i)
      unfold fb_mX2_readPart_9_2
      rw [if_neg (show ¬ 400 < i by grind)]
      simp only [bnd]
      have hv := c_fact_9 h k f n g6 g7 g8 g9 g10 g11 g12 v3 v4 v5 k0 k1 n0 n6
      generalize fX2_readFact_9 tc k f n tf pf g6 g7 g8 g9 g10 g11 g12 v3 v4 v5 = u at hv ⊢
      rw [slp_s]
      generalize sF tk nx 1 (pf k.toNatClampNeg) n = r at hv ⊢
      cases r with
      | error e =>
        obtain ⟨h2, h7, hp⟩ := hv
        rw [if_pos h7]
        exact ⟨(h17 u.1 u.2.1 u.2.2.1 u.2.2.2.1 u.2.2.2.2.1 u.2.2.2.2.2.1 u.2.2.2.2.2.2.1 u.2.2.2.2.2.2.2.1 u.2.2.2.2.2.2.2.2.1 u.2.2.2.2.2.2.2.2.2.1 u.2.2.2.2.2.2.2.2.2.2.1 u.2.2.2.2.2.2.2.2.2.2.2.1 u.2.2.2.2.2.2.2.2.2.2.2.2.1 i).1.trans h2, (h17 u.1 u.2.1 u.2.2.1 u.2.2.2.1 u.2.2.2.2.1 u.2.2.2.2.2.1 u.2.2.2.2.2.2.1 u.2.2.2.2.2.2.2.1 u.2.2.2.2.2.2.2.2.1 u.2.2.2.2.2.2.2.2.2.1 u.2.2.2.2.2.2.2.2.2.2.1 u.2.2.2.2.2.2.2.2.2.2.2.1 u.2.2.2.2.2.2.2.2.2.2.2.2.1 i).2, hp⟩
      | ok w =>
        obtain ⟨c1, c2, c3, c4, c5, c6, c7, c8⟩ := hv
        rw [if_neg (show ¬ u.2.2.2.2.2.2.2.2.2.2.2.2.2 = 0 by rw [c8]; decide), CH_tok h c1 c2, c3]
        have hn : (w.2.1).toInt ≤ 60 ∧ n.toInt < (w.2.1).toInt := z_le60 c6 c7
        have hi := z_inc60 i6 c6 c7 i0
        have i6' : i.toInt ≤ n.toInt := by
          rw [Int32.lt_iff_toInt_lt] at i6
          omega
        have key : ∀ (s5 : Int32) (s12 : Nat → Int32), TV pf tc f n (if tk w.1 = 318 then exb (slp tk nx (sF tk nx 1) 318 (-2) m true (nx w.1) w.2.1) (fun x => .ok (x.1, x.2.1, (if b then w.2.2 ++ [((-2), [], [])] else w.2.2) ++ x.2.2)) else .ok (w.1, w.2.1, if b then w.2.2 ++ [((-2), [], [])] else w.2.2)) (if tk w.1 = 318 then fl_mX2_readPart_9_2 tc tf pf E17 E42 E60 N (u.1 + 1) u.2.1 u.2.2.1 u.2.2.2.1 u.2.2.2.2.1 s5 u.2.2.2.2.2.2.1 u.2.2.2.2.2.2.2.1 u.2.2.2.2.2.2.2.2.1 u.2.2.2.2.2.2.2.2.2.1 u.2.2.2.2.2.2.2.2.2.2.1 u.2.2.2.2.2.2.2.2.2.2.2.1 s12 (i + 1) else E42 u.1 u.2.1 u.2.2.1 u.2.2.2.1 u.2.2.2.2.1 s5 u.2.2.2.2.2.2.1 u.2.2.2.2.2.2.2.1 u.2.2.2.2.2.2.2.2.1 u.2.2.2.2.2.2.2.2.2.1 u.2.2.2.2.2.2.2.2.2.2.1 u.2.2.2.2.2.2.2.2.2.2.2.1 s12 i) := by
          intro s5 s12
          by_cases t : tk w.1 = 318
          · rw [if_pos t, if_pos t]
            obtain ⟨d0, d1, d2⟩ := CH_nx h c1 c2 c3 (fun q => absurd (t.symm.trans q) (by decide))
            have z := ih N true (u.1 + 1) w.2.1 u.2.2.2.1 u.2.2.2.2.1 s5 u.2.2.2.2.2.2.1 u.2.2.2.2.2.2.2.1 u.2.2.2.2.2.2.2.2.1 u.2.2.2.2.2.2.2.2.2.1 u.2.2.2.2.2.2.2.2.2.2.1 u.2.2.2.2.2.2.2.2.2.2.2.1 s12 (i + 1) d0 d1 (by grind) c7 (by grind) (by grind) (by omega) (by omega)
            rw [d2] at z
            rw [c4, c5]
            generalize slp tk nx (sF tk nx 1) 318 (-2) m true (nx w.1) w.2.1 = r at z ⊢
            cases r with
            | error e => exact z
            | ok x =>
              obtain ⟨z1, z2, z3, z4, z5, z6, z7, z8⟩ := z
              exact ⟨z1, z2, z3, z4, z5, (by show n < x.2.1; grind), z7, z8⟩
          · rw [if_neg t, if_neg t]
            obtain ⟨g1, g2, g3, g4⟩ := h42 u.1 u.2.1 u.2.2.1 u.2.2.2.1 u.2.2.2.2.1 s5 u.2.2.2.2.2.2.1 u.2.2.2.2.2.2.2.1 u.2.2.2.2.2.2.2.2.1 u.2.2.2.2.2.2.2.2.2.1 u.2.2.2.2.2.2.2.2.2.2.1 u.2.2.2.2.2.2.2.2.2.2.2.1 s12 i
            refine ⟨?_, ?_, ?_, g2.trans c4, g3.trans c5, c6, c7, g4⟩
            · rw [g1]; exact c1
            · rw [g1]; exact c2
            · rw [g1]; exact c3
        by_cases hi9 : i ≤ 0
        · rw [if_pos hi9]; exact key _ _
        · rw [if_neg hi9]; exact key _ _
theorem c_part_9 {tk nx : Int32 → Int32} {tc : Int32} {tf pf : Nat → Int32} (h : CH tk nx tc tf pf) : ∀ (k f n : Int32) (yj yo y1 y2 y3 y4 y5 : Nat → Int32) (yv yf ys : Int32), ¬ k < 0 → k < tc → ¬ n < 0 → ¬ 60 < n → TV pf tc f n (sP tk nx 1 (pf k.toNatClampNeg) n) (fX2_readPart_9 tc k f n tf pf yj yo y1 y2 y3 y4 y5 yv yf ys) := by
  intro k f n yj yo y1 y2 y3 y4 y5 yv yf ys k0 k1 n0 n6
  have := i_nn n0
  exact c_partL_9 h (fun _ _ _ _ _ _ _ _ _ _ _ _ _ _ => ⟨rfl, rfl⟩) (fun _ _ _ _ _ _ _ _ _ _ _ _ _ _ => ⟨rfl, rfl, rfl, rfl⟩) 61 _ false k n yv yf ys yj yo y1 y2 y3 y4 y5 0 k0 k1 n0 n6 (by decide) n0 (by omega) (by decide)
theorem c_testL_9 {tk nx : Int32 → Int32} {tc : Int32} {tf pf : Nat → Int32} (h : CH tk nx tc tf pf) {f : Int32} {E17 E42 E60 : Int32 → Int32 → Int32 → Int32 → Int32 → Int32 → (Nat → Int32) → (Nat → Int32) → (Nat → Int32) → (Nat → Int32) → (Nat → Int32) → (Nat → Int32) → (Nat → Int32) → Int32 → (Int32 × Int32 × Int32 × Int32 × Int32 × Int32 × (Nat → Int32) × (Nat → Int32) × (Nat → Int32) × (Nat → Int32) × (Nat → Int32) × (Nat → Int32) × (Nat → Int32) × Int32)} (h17 : ∀ a1 a2 a3 a4 a5 a6 a7 a8 a9 a10 a11 a12 a13 a14, (E17 a1 a2 a3 a4 a5 a6 a7 a8 a9 a10 a11 a12 a13 a14).2.1 = a2 ∧ (E17 a1 a2 a3 a4 a5 a6 a7 a8 a9 a10 a11 a12 a13 a14).2.2.2.2.2.2.2.2.2.2.2.2.2 = 0) (h42 : ∀ a1 a2 a3 a4 a5 a6 a7 a8 a9 a10 a11 a12 a13 a14, (E42 a1 a2 a3 a4 a5 a6 a7 a8 a9 a10 a11 a12 a13 a14).1 = a1 ∧ (E42 a1 a2 a3 a4 a5 a6 a7 a8 a9 a10 a11 a12 a13 a14).2.1 = a2 ∧ (E42 a1 a2 a3 a4 a5 a6 a7 a8 a9 a10 a11 a12 a13 a14).2.2.1 = a3 ∧ (E42 a1 a2 a3 a4 a5 a6 a7 a8 a9 a10 a11 a12 a13 a14).2.2.2.2.2.2.2.2.2.2.2.2.2 = 1) : ∀ (m N : Nat) (b : Bool) (k n v3 v4 v5 : Int32) (g6 g7 g8 g9 g10 g11 g12 : Nat → Int32) (i : Int32), ¬ k < 0 → k < tc → ¬ n < 0 → ¬ 60 < n → ¬ i < 0 → ¬ n < i → (60 - n.toInt).toNat < m → (401 - i.toInt).toNat < N → TV pf tc f n (slp tk nx (sP tk nx 1) 317 (-3) m b (pf k.toNatClampNeg) n) (fl_mX2_readTest_9_2 tc tf pf E17 E42 E60 N k f n v3 v4 v5 g6 g7 g8 g9 g10 g11 g12 i) := by
  intro m
  induction m with
  | zero => intro N b k n v3 v4 v5 g6 g7 g8 g9 g10 g11 g12 i k0 k1 n0 n6 i0 i6 hm hN; exact absurd hm (Nat.not_lt_zero _)
  | succ m ih =>
    intro N b k n v3 v4 v5 g6 g7 g8 g9 g10 g11 g12 i k0 k1 n0 n6 i0 i6 hm hN
    cases N with
    | zero => exact absurd hN (Nat.not_lt_zero _)
    | succ N =>
      show TV pf tc f n _ (fb_mX2_readTest_9_2 tc tf pf E17 E42 E60 (fl_mX2_readTest_9_2 tc tf pf E17 E42 E60 N) k f n v3 v4 v5 g6 g7 g8 g9 g10 g11 g12 i)
      unfold fb_mX2_readTest_9_2
      rw [if_neg (show ¬ 400 < i by grind)]
      simp only [bnd]
      have hv := c_part_9 h k f n g6 g7 g8 g9 g10 g11 g12 v3 v4 v5 k0 k1 n0 n6
      generalize fX2_readPart_9 tc k f n tf pf g6 g7 g8 g9 g10 g11 g12 v3 v4 v5 = u at hv ⊢
      rw [slp_s]
      generalize sP tk nx 1 (pf k.toNatClampNeg) n = r at hv ⊢
      cases r with
      | error e =>
        obtain ⟨h2, h7, hp⟩ := hv
        rw [if_pos h7]
        exact ⟨(h17 u.1 u.2.1 u.2.2.1 u.2.2.2.1 u.2.2.2.2.1 u.2.2.2.2.2.1 u.2.2.2.2.2.2.1 u.2.2.2.2.2.2.2.1 u.2.2.2.2.2.2.2.2.1 u.2.2.2.2.2.2.2.2.2.1 u.2.2.2.2.2.2.2.2.2.2.1 u.2.2.2.2.2.2.2.2.2.2.2.1 u.2.2.2.2.2.2.2.2.2.2.2.2.1 i).1.trans h2, (h17 u.1 u.2.1 u.2.2.1 u.2.2.2.1 u.2.2.2.2.1 u.2.2.2.2.2.1 u.2.2.2.2.2.2.1 u.2.2.2.2.2.2.2.1 u.2.2.2.2.2.2.2.2.1 u.2.2.2.2.2.2.2.2.2.1 u.2.2.2.2.2.2.2.2.2.2.1 u.2.2.2.2.2.2.2.2.2.2.2.1 u.2.2.2.2.2.2.2.2.2.2.2.2.1 i).2, hp⟩
      | ok w =>
        obtain ⟨c1, c2, c3, c4, c5, c6, c7, c8⟩ := hv
        rw [if_neg (show ¬ u.2.2.2.2.2.2.2.2.2.2.2.2.2 = 0 by rw [c8]; decide), CH_tok h c1 c2, c3]
        have hn : (w.2.1).toInt ≤ 60 ∧ n.toInt < (w.2.1).toInt := z_le60 c6 c7
        have hi := z_inc60 i6 c6 c7 i0
        have i6' : i.toInt ≤ n.toInt := by
          rw [Int32.lt_iff_toInt_lt] at i6
          omega
        have key : ∀ (s5 : Int32) (s12 : Nat → Int32), TV pf tc f n (if tk w.1 = 317 then exb (slp tk nx (sP tk nx 1) 317 (-3) m true (nx w.1) w.2.1) (fun x => .ok (x.1, x.2.1, (if b then w.2.2 ++ [((-3), [], [])] else w.2.2) ++ x.2.2)) else .ok (w.1, w.2.1, if b then w.2.2 ++ [((-3), [], [])] else w.2.2)) (if tk w.1 = 317 then fl_mX2_readTest_9_2 tc tf pf E17 E42 E60 N (u.1 + 1) u.2.1 u.2.2.1 u.2.2.2.1 u.2.2.2.2.1 s5 u.2.2.2.2.2.2.1 u.2.2.2.2.2.2.2.1 u.2.2.2.2.2.2.2.2.1 u.2.2.2.2.2.2.2.2.2.1 u.2.2.2.2.2.2.2.2.2.2.1 u.2.2.2.2.2.2.2.2.2.2.2.1 s12 (i + 1) else E42 u.1 u.2.1 u.2.2.1 u.2.2.2.1 u.2.2.2.2.1 s5 u.2.2.2.2.2.2.1 u.2.2.2.2.2.2.2.1 u.2.2.2.2.2.2.2.2.1 u.2.2.2.2.2.2.2.2.2.1 u.2.2.2.2.2.2.2.2.2.2.1 u.2.2.2.2.2.2.2.2.2.2.2.1 s12 i) := by
          intro s5 s12
          by_cases t : tk w.1 = 317
          · rw [if_pos t, if_pos t]
            obtain ⟨d0, d1, d2⟩ := CH_nx h c1 c2 c3 (fun q => absurd (t.symm.trans q) (by decide))
            have z := ih N true (u.1 + 1) w.2.1 u.2.2.2.1 u.2.2.2.2.1 s5 u.2.2.2.2.2.2.1 u.2.2.2.2.2.2.2.1 u.2.2.2.2.2.2.2.2.1 u.2.2.2.2.2.2.2.2.2.1 u.2.2.2.2.2.2.2.2.2.2.1 u.2.2.2.2.2.2.2.2.2.2.2.1 s12 (i + 1) d0 d1 (by grind) c7 (by grind) (by grind) (by omega) (by omega)
            rw [d2] at z
            rw [c4, c5]
            generalize slp tk nx (sP tk nx 1) 317 (-3) m true (nx w.1) w.2.1 = r at z ⊢
            cases r with
            | error e => exact z
            | ok x =>
              obtain ⟨z1, z2, z3, z4, z5, z6, z7, z8⟩ := z
              exact ⟨z1, z2, z3, z4, z5, (by show n < x.2.1; grind), z7, z8⟩
          · rw [if_neg t, if_neg t]
            obtain ⟨g1, g2, g3, g4⟩ := h42 u.1 u.2.1 u.2.2.1 u.2.2.2.1 u.2.2.2.2.1 s5 u.2.2.2.2.2.2.1 u.2.2.2.2.2.2.2.1 u.2.2.2.2.2.2.2.2.1 u.2.2.2.2.2.2.2.2.2.1 u.2.2.2.2.2.2.2.2.2.2.1 u.2.2.2.2.2.2.2.2.2.2.2.1 s12 i
            refine ⟨?_, ?_, ?_, g2.trans c4, g3.trans c5, c6, c7, g4⟩
            · rw [g1]; exact c1
            · rw [g1]; exact c2
            · rw [g1]; exact c3
        by_cases hi9 : i ≤ 0
        · rw [if_pos hi9]; exact key _ _
        · rw [if_neg hi9]; exact key _ _
theorem c_test_9 {tk nx : Int32 → Int32} {tc : Int32} {tf pf : Nat → Int32} (h : CH tk nx tc tf pf) : ∀ (k f n : Int32) (yj yo y1 y2 y3 y4 y5 : Nat → Int32) (yv yf ys : Int32), ¬ k < 0 → k < tc → ¬ n < 0 → ¬ 60 < n → TV pf tc f n (sT tk nx 1 (pf k.toNatClampNeg) n) (fX2_readTest_9 tc k f n tf pf yj yo y1 y2 y3 y4 y5 yv yf ys) := by
  intro k f n yj yo y1 y2 y3 y4 y5 yv yf ys k0 k1 n0 n6
  have := i_nn n0
  exact c_testL_9 h (fun _ _ _ _ _ _ _ _ _ _ _ _ _ _ => ⟨rfl, rfl⟩) (fun _ _ _ _ _ _ _ _ _ _ _ _ _ _ => ⟨rfl, rfl, rfl, rfl⟩) 61 _ false k n yv yf ys yj yo y1 y2 y3 y4 y5 0 k0 k1 n0 n6 (by decide) n0 (by omega) (by decide)
theorem c_fact_8 {tk nx : Int32 → Int32} {tc : Int32} {tf pf : Nat → Int32} (h : CH tk nx tc tf pf) : ∀ (k f n : Int32) (yj yo y1 y2 y3 y4 y5 : Nat → Int32) (yv yf ys : Int32), ¬ k < 0 → k < tc → ¬ n < 0 → ¬ 60 < n → TV pf tc f n (sF tk nx 2 (pf k.toNatClampNeg) n) (fX2_readFact_8 tc k f n tf pf yj yo y1 y2 y3 y4 y5 yv yf ys) := by
  intro k f n yj yo y1 y2 y3 y4 y5 yv yf ys k0 k1 n0 n6
  have hc := c_cmp h k f n yj yo y1 y2 y3 y4 y5 yv yf ys k0 k1 n0 n6
  unfold fX2_readFact_8
  simp only [bnd, CH_tok h k0 k1]
  show TV pf tc f n (sfc tk nx (sT tk nx 1) (sF tk nx 1) (pf k.toNatClampNeg) n) _
  unfold sfc
  by_cases a : tk (pf k.toNatClampNeg) = 319
  · rw [if_pos a, if_pos a]
    obtain ⟨b0, b1, b2⟩ := CH_nx h k0 k1 rfl (fun q => absurd (a.symm.trans q) (by decide))
    have hf := c_fact_9 h (k + 1) f n yj yo y1 y2 y3 y4 y5 yv yf ys b0 b1 n0 n6
    rw [b2] at hf
    generalize fX2_readFact_9 tc (k + 1) f n tf pf yj yo y1 y2 y3 y4 y5 yv yf ys = u at hf ⊢
    generalize sF tk nx 1 (nx (pf k.toNatClampNeg)) n = r at hf ⊢
    cases r with
    | error e => exact hf
    | ok w => exact hf
  · rw [if_neg a, if_neg a]
    by_cases b : tk (pf k.toNatClampNeg) = 91
    · rw [if_pos b, if_pos b]
      obtain ⟨b0, b1, b2⟩ := CH_nx h k0 k1 rfl (fun q => absurd (b.symm.trans q) (by decide))
      have hf := c_test_9 h (k + 1) f n yj yo y1 y2 y3 y4 y5 yv yf ys b0 b1 n0 n6
      rw [b2] at hf
      generalize fX2_readTest_9 tc (k + 1) f n tf pf yj yo y1 y2 y3 y4 y5 yv yf ys = u at hf ⊢
      generalize sT tk nx 1 (nx (pf k.toNatClampNeg)) n = r at hf ⊢
      cases r with
      | error e =>
        obtain ⟨h2, h7, hp⟩ := hf
        rw [if_pos h7]
        exact ⟨h2, rfl, hp⟩
      | ok w =>
        obtain ⟨c1, c2, c3, c4, c5, c6, c7, c8⟩ := hf
        rw [if_neg (show ¬ u.2.2.2.2.2.2.2.2.2.2.2.2.2 = 0 by rw [c8]; decide), CH_take h c1 c2 c3]
        show TV pf tc f n (if tk w.1 = 93 then _ else _) _
        by_cases t : tk w.1 = 93
        · rw [if_pos t, if_pos t]
          obtain ⟨d0, d1, d2⟩ := CH_nx h c1 c2 c3 (fun q => absurd (t.symm.trans q) (by decide))
          exact ⟨d0, d1, d2, c4, c5, c6, c7, rfl⟩
        · rw [if_neg t, if_neg t]
          exact ⟨rfl, rfl, CH_pos h c1 c2 c3 (by decide) (by decide)⟩
    · rw [if_neg b, if_neg b]
      generalize fX2_readComparison tc k f n tf pf yj yo y1 y2 y3 y4 y5 yv yf ys = u at hc ⊢
      exact hc
theorem c_partL_8 {tk nx : Int32 → Int32} {tc : Int32} {tf pf : Nat → Int32} (h : CH tk nx tc tf pf) {f : Int32} {E17 E42 E60 : Int32 → Int32 → Int32 → Int32 → Int32 → Int32 → (Nat → Int32) → (Nat → Int32) → (Nat → Int32) → (Nat → Int32) → (Nat → Int32) → (Nat → Int32) → (Nat → Int32) → Int32 → (Int32 × Int32 × Int32 × Int32 × Int32 × Int32 × (Nat → Int32) × (Nat → Int32) × (Nat → Int32) × (Nat → Int32) × (Nat → Int32) × (Nat → Int32) × (Nat → Int32) × Int32)} (h17 : ∀ a1 a2 a3 a4 a5 a6 a7 a8 a9 a10 a11 a12 a13 a14, (E17 a1 a2 a3 a4 a5 a6 a7 a8 a9 a10 a11 a12 a13 a14).2.1 = a2 ∧ (E17 a1 a2 a3 a4 a5 a6 a7 a8 a9 a10 a11 a12 a13 a14).2.2.2.2.2.2.2.2.2.2.2.2.2 = 0) (h42 : ∀ a1 a2 a3 a4 a5 a6 a7 a8 a9 a10 a11 a12 a13 a14, (E42 a1 a2 a3 a4 a5 a6 a7 a8 a9 a10 a11 a12 a13 a14).1 = a1 ∧ (E42 a1 a2 a3 a4 a5 a6 a7 a8 a9 a10 a11 a12 a13 a14).2.1 = a2 ∧ (E42 a1 a2 a3 a4 a5 a6 a7 a8 a9 a10 a11 a12 a13 a14).2.2.1 = a3 ∧ (E42 a1 a2 a3 a4 a5 a6 a7 a8 a9 a10 a11 a12 a13 a14).2.2.2.2.2.2.2.2.2.2.2.2.2 = 1) : ∀ (m N : Nat) (b : Bool) (k n v3 v4 v5 : Int32) (g6 g7 g8 g9 g10 g11 g12 : Nat → Int32) (i : Int32), ¬ k < 0 → k < tc → ¬ n < 0 → ¬ 60 < n → ¬ i < 0 → ¬ n < i → (60 - n.toInt).toNat < m → (401 - i.toInt).toNat < N → TV pf tc f n (slp tk nx (sF tk nx 2) 318 (-2) m b (pf k.toNatClampNeg) n) (fl_mX2_readPart_8_2 tc tf pf E17 E42 E60 N k f n v3 v4 v5 g6 g7 g8 g9 g10 g11 g12 i) := by
  intro m
  induction m with
  | zero => intro N b k n v3 v4 v5 g6 g7 g8 g9 g10 g11 g12 i k0 k1 n0 n6 i0 i6 hm hN; exact absurd hm (Nat.not_lt_zero _)
  | succ m ih =>
    intro N b k n v3 v4 v5 g6 g7 g8 g9 g10 g11 g12 i k0 k1 n0 n6 i0 i6 hm hN
    cases N with
    | zero => exact absurd hN (Nat.not_lt_zero _)
    | succ N =>
      show TV pf tc f n _ (fb_mX2_readPart_8_2 tc tf pf E17 E42 E60 (fl_mX2_readPart_8_2 tc tf pf E17 E42 E60 N) k f n v3 v4 v5 g6 g7 g8 g9 g10 g11 g12 i)
      unfold fb_mX2_readPart_8_2
      rw [if_neg (show ¬ 400 < i by grind)]
      simp only [bnd]
      have hv := c_fact_8 h k f n g6 g7 g8 g9 g10 g11 g12 v3 v4 v5 k0 k1 n0 n6
      generalize fX2_readFact_8 tc k f n tf pf g6 g7 g8 g9 g10 g11 g12 v3 v4 v5 = u at hv ⊢
      rw [slp_s]
      generalize sF tk nx 2 (pf k.toNatClampNeg) n = r at hv ⊢
      cases r with
      | error e =>
        obtain ⟨h2, h7, hp⟩ := hv
        rw [if_pos h7]
        exact ⟨(h17 u.1 u.2.1 u.2.2.1 u.2.2.2.1 u.2.2.2.2.1 u.2.2.2.2.2.1 u.2.2.2.2.2.2.1 u.2.2.2.2.2.2.2.1 u.2.2.2.2.2.2.2.2.1 u.2.2.2.2.2.2.2.2.2.1 u.2.2.2.2.2.2.2.2.2.2.1 u.2.2.2.2.2.2.2.2.2.2.2.1 u.2.2.2.2.2.2.2.2.2.2.2.2.1 i).1.trans h2, (h17 u.1 u.2.1 u.2.2.1 u.2.2.2.1 u.2.2.2.2.1 u.2.2.2.2.2.1 u.2.2.2.2.2.2.1 u.2.2.2.2.2.2.2.1 u.2.2.2.2.2.2.2.2.1 u.2.2.2.2.2.2.2.2.2.1 u.2.2.2.2.2.2.2.2.2.2.1 u.2.2.2.2.2.2.2.2.2.2.2.1 u.2.2.2.2.2.2.2.2.2.2.2.2.1 i).2, hp⟩
      | ok w =>
        obtain ⟨c1, c2, c3, c4, c5, c6, c7, c8⟩ := hv
        rw [if_neg (show ¬ u.2.2.2.2.2.2.2.2.2.2.2.2.2 = 0 by rw [c8]; decide), CH_tok h c1 c2, c3]
        have hn : (w.2.1).toInt ≤ 60 ∧ n.toInt < (w.2.1).toInt := z_le60 c6 c7
        have hi := z_inc60 i6 c6 c7 i0
        have i6' : i.toInt ≤ n.toInt := by
          rw [Int32.lt_iff_toInt_lt] at i6
          omega
        have key : ∀ (s5 : Int32) (s12 : Nat → Int32), TV pf tc f n (if tk w.1 = 318 then exb (slp tk nx (sF tk nx 2) 318 (-2) m true (nx w.1) w.2.1) (fun x => .ok (x.1, x.2.1, (if b then w.2.2 ++ [((-2), [], [])] else w.2.2) ++ x.2.2)) else .ok (w.1, w.2.1, if b then w.2.2 ++ [((-2), [], [])] else w.2.2)) (if tk w.1 = 318 then fl_mX2_readPart_8_2 tc tf pf E17 E42 E60 N (u.1 + 1) u.2.1 u.2.2.1 u.2.2.2.1 u.2.2.2.2.1 s5 u.2.2.2.2.2.2.1 u.2.2.2.2.2.2.2.1 u.2.2.2.2.2.2.2.2.1 u.2.2.2.2.2.2.2.2.2.1 u.2.2.2.2.2.2.2.2.2.2.1 u.2.2.2.2.2.2.2.2.2.2.2.1 s12 (i + 1) else E42 u.1 u.2.1 u.2.2.1 u.2.2.2.1 u.2.2.2.2.1 s5 u.2.2.2.2.2.2.1 u.2.2.2.2.2.2.2.1 u.2.2.2.2.2.2.2.2.1 u.2.2.2.2.2.2.2.2.2.1 u.2.2.2.2.2.2.2.2.2.2.1 u.2.2.2.2.2.2.2.2.2.2.2.1 s12 i) := by
          intro s5 s12
          by_cases t : tk w.1 = 318
          · rw [if_pos t, if_pos t]
            obtain ⟨d0, d1, d2⟩ := CH_nx h c1 c2 c3 (fun q => absurd (t.symm.trans q) (by decide))
            have z := ih N true (u.1 + 1) w.2.1 u.2.2.2.1 u.2.2.2.2.1 s5 u.2.2.2.2.2.2.1 u.2.2.2.2.2.2.2.1 u.2.2.2.2.2.2.2.2.1 u.2.2.2.2.2.2.2.2.2.1 u.2.2.2.2.2.2.2.2.2.2.1 u.2.2.2.2.2.2.2.2.2.2.2.1 s12 (i + 1) d0 d1 (by grind) c7 (by grind) (by grind) (by omega) (by omega)
            rw [d2] at z
            rw [c4, c5]
            generalize slp tk nx (sF tk nx 2) 318 (-2) m true (nx w.1) w.2.1 = r at z ⊢
            cases r with
            | error e => exact z
            | ok x =>
              obtain ⟨z1, z2, z3, z4, z5, z6, z7, z8⟩ := z
              exact ⟨z1, z2, z3, z4, z5, (by show n < x.2.1; grind), z7, z8⟩
          · rw [if_neg t, if_neg t]
            obtain ⟨g1, g2, g3, g4⟩ := h42 u.1 u.2.1 u.2.2.1 u.2.2.2.1 u.2.2.2.2.1 s5 u.2.2.2.2.2.2.1 u.2.2.2.2.2.2.2.1 u.2.2.2.2.2.2.2.2.1 u.2.2.2.2.2.2.2.2.2.1 u.2.2.2.2.2.2.2.2.2.2.1 u.2.2.2.2.2.2.2.2.2.2.2.1 s12 i
            refine ⟨?_, ?_, ?_, g2.trans c4, g3.trans c5, c6, c7, g4⟩
            · rw [g1]; exact c1
            · rw [g1]; exact c2
            · rw [g1]; exact c3
        by_cases hi9 : i ≤ 0
        · rw [if_pos hi9]; exact key _ _
        · rw [if_neg hi9]; exact key _ _
theorem c_part_8 {tk nx : Int32 → Int32} {tc : Int32} {tf pf : Nat → Int32} (h : CH tk nx tc tf pf) : ∀ (k f n : Int32) (yj yo y1 y2 y3 y4 y5 : Nat → Int32) (yv yf ys : Int32), ¬ k < 0 → k < tc → ¬ n < 0 → ¬ 60 < n → TV pf tc f n (sP tk nx 2 (pf k.toNatClampNeg) n) (fX2_readPart_8 tc k f n tf pf yj yo y1 y2 y3 y4 y5 yv yf ys) := by
  intro k f n yj yo y1 y2 y3 y4 y5 yv yf ys k0 k1 n0 n6
  have := i_nn n0
  exact c_partL_8 h (fun _ _ _ _ _ _ _ _ _ _ _ _ _ _ => ⟨rfl, rfl⟩) (fun _ _ _ _ _ _ _ _ _ _ _ _ _ _ => ⟨rfl, rfl, rfl, rfl⟩) 61 _ false k n yv yf ys yj yo y1 y2 y3 y4 y5 0 k0 k1 n0 n6 (by decide) n0 (by omega) (by decide)
theorem c_testL_8 {tk nx : Int32 → Int32} {tc : Int32} {tf pf : Nat → Int32} (h : CH tk nx tc tf pf) {f : Int32} {E17 E42 E60 : Int32 → Int32 → Int32 → Int32 → Int32 → Int32 → (Nat → Int32) → (Nat → Int32) → (Nat → Int32) → (Nat → Int32) → (Nat → Int32) → (Nat → Int32) → (Nat → Int32) → Int32 → (Int32 × Int32 × Int32 × Int32 × Int32 × Int32 × (Nat → Int32) × (Nat → Int32) × (Nat → Int32) × (Nat → Int32) × (Nat → Int32) × (Nat → Int32) × (Nat → Int32) × Int32)} (h17 : ∀ a1 a2 a3 a4 a5 a6 a7 a8 a9 a10 a11 a12 a13 a14, (E17 a1 a2 a3 a4 a5 a6 a7 a8 a9 a10 a11 a12 a13 a14).2.1 = a2 ∧ (E17 a1 a2 a3 a4 a5 a6 a7 a8 a9 a10 a11 a12 a13 a14).2.2.2.2.2.2.2.2.2.2.2.2.2 = 0) (h42 : ∀ a1 a2 a3 a4 a5 a6 a7 a8 a9 a10 a11 a12 a13 a14, (E42 a1 a2 a3 a4 a5 a6 a7 a8 a9 a10 a11 a12 a13 a14).1 = a1 ∧ (E42 a1 a2 a3 a4 a5 a6 a7 a8 a9 a10 a11 a12 a13 a14).2.1 = a2 ∧ (E42 a1 a2 a3 a4 a5 a6 a7 a8 a9 a10 a11 a12 a13 a14).2.2.1 = a3 ∧ (E42 a1 a2 a3 a4 a5 a6 a7 a8 a9 a10 a11 a12 a13 a14).2.2.2.2.2.2.2.2.2.2.2.2.2 = 1) : ∀ (m N : Nat) (b : Bool) (k n v3 v4 v5 : Int32) (g6 g7 g8 g9 g10 g11 g12 : Nat → Int32) (i : Int32), ¬ k < 0 → k < tc → ¬ n < 0 → ¬ 60 < n → ¬ i < 0 → ¬ n < i → (60 - n.toInt).toNat < m → (401 - i.toInt).toNat < N → TV pf tc f n (slp tk nx (sP tk nx 2) 317 (-3) m b (pf k.toNatClampNeg) n) (fl_mX2_readTest_8_2 tc tf pf E17 E42 E60 N k f n v3 v4 v5 g6 g7 g8 g9 g10 g11 g12 i) := by
  intro m
  induction m with
  | zero => intro N b k n v3 v4 v5 g6 g7 g8 g9 g10 g11 g12 i k0 k1 n0 n6 i0 i6 hm hN; exact absurd hm (Nat.not_lt_zero _)
  | succ m ih =>
    intro N b k n v3 v4 v5 g6 g7 g8 g9 g10 g11 g12 i k0 k1 n0 n6 i0 i6 hm hN
    cases N with
    | zero => exact absurd hN (Nat.not_lt_zero _)
    | succ N =>
      show TV pf tc f n _ (fb_mX2_readTest_8_2 tc tf pf E17 E42 E60 (fl_mX2_readTest_8_2 tc tf pf E17 E42 E60 N) k f n v3 v4 v5 g6 g7 g8 g9 g10 g11 g12 i)
      unfold fb_mX2_readTest_8_2
      rw [if_neg (show ¬ 400 < i by grind)]
      simp only [bnd]
      have hv := c_part_8 h k f n g6 g7 g8 g9 g10 g11 g12 v3 v4 v5 k0 k1 n0 n6
      generalize fX2_readPart_8 tc k f n tf pf g6 g7 g8 g9 g10 g11 g12 v3 v4 v5 = u at hv ⊢
      rw [slp_s]
      generalize sP tk nx 2 (pf k.toNatClampNeg) n = r at hv ⊢
      cases r with
      | error e =>
        obtain ⟨h2, h7, hp⟩ := hv
        rw [if_pos h7]
        exact ⟨(h17 u.1 u.2.1 u.2.2.1 u.2.2.2.1 u.2.2.2.2.1 u.2.2.2.2.2.1 u.2.2.2.2.2.2.1 u.2.2.2.2.2.2.2.1 u.2.2.2.2.2.2.2.2.1 u.2.2.2.2.2.2.2.2.2.1 u.2.2.2.2.2.2.2.2.2.2.1 u.2.2.2.2.2.2.2.2.2.2.2.1 u.2.2.2.2.2.2.2.2.2.2.2.2.1 i).1.trans h2, (h17 u.1 u.2.1 u.2.2.1 u.2.2.2.1 u.2.2.2.2.1 u.2.2.2.2.2.1 u.2.2.2.2.2.2.1 u.2.2.2.2.2.2.2.1 u.2.2.2.2.2.2.2.2.1 u.2.2.2.2.2.2.2.2.2.1 u.2.2.2.2.2.2.2.2.2.2.1 u.2.2.2.2.2.2.2.2.2.2.2.1 u.2.2.2.2.2.2.2.2.2.2.2.2.1 i).2, hp⟩
      | ok w =>
        obtain ⟨c1, c2, c3, c4, c5, c6, c7, c8⟩ := hv
        rw [if_neg (show ¬ u.2.2.2.2.2.2.2.2.2.2.2.2.2 = 0 by rw [c8]; decide), CH_tok h c1 c2, c3]
        have hn : (w.2.1).toInt ≤ 60 ∧ n.toInt < (w.2.1).toInt := z_le60 c6 c7
        have hi := z_inc60 i6 c6 c7 i0
        have i6' : i.toInt ≤ n.toInt := by
          rw [Int32.lt_iff_toInt_lt] at i6
          omega
        have key : ∀ (s5 : Int32) (s12 : Nat → Int32), TV pf tc f n (if tk w.1 = 317 then exb (slp tk nx (sP tk nx 2) 317 (-3) m true (nx w.1) w.2.1) (fun x => .ok (x.1, x.2.1, (if b then w.2.2 ++ [((-3), [], [])] else w.2.2) ++ x.2.2)) else .ok (w.1, w.2.1, if b then w.2.2 ++ [((-3), [], [])] else w.2.2)) (if tk w.1 = 317 then fl_mX2_readTest_8_2 tc tf pf E17 E42 E60 N (u.1 + 1) u.2.1 u.2.2.1 u.2.2.2.1 u.2.2.2.2.1 s5 u.2.2.2.2.2.2.1 u.2.2.2.2.2.2.2.1 u.2.2.2.2.2.2.2.2.1 u.2.2.2.2.2.2.2.2.2.1 u.2.2.2.2.2.2.2.2.2.2.1 u.2.2.2.2.2.2.2.2.2.2.2.1 s12 (i + 1) else E42 u.1 u.2.1 u.2.2.1 u.2.2.2.1 u.2.2.2.2.1 s5 u.2.2.2.2.2.2.1 u.2.2.2.2.2.2.2.1 u.2.2.2.2.2.2.2.2.1 u.2.2.2.2.2.2.2.2.2.1 u.2.2.2.2.2.2.2.2.2.2.1 u.2.2.2.2.2.2.2.2.2.2.2.1 s12 i) := by
          intro s5 s12
          by_cases t : tk w.1 = 317
          · rw [if_pos t, if_pos t]
            obtain ⟨d0, d1, d2⟩ := CH_nx h c1 c2 c3 (fun q => absurd (t.symm.trans q) (by decide))
            have z := ih N true (u.1 + 1) w.2.1 u.2.2.2.1 u.2.2.2.2.1 s5 u.2.2.2.2.2.2.1 u.2.2.2.2.2.2.2.1 u.2.2.2.2.2.2.2.2.1 u.2.2.2.2.2.2.2.2.2.1 u.2.2.2.2.2.2.2.2.2.2.1 u.2.2.2.2.2.2.2.2.2.2.2.1 s12 (i + 1) d0 d1 (by grind) c7 (by grind) (by grind) (by omega) (by omega)
            rw [d2] at z
            rw [c4, c5]
            generalize slp tk nx (sP tk nx 2) 317 (-3) m true (nx w.1) w.2.1 = r at z ⊢
            cases r with
            | error e => exact z
            | ok x =>
              obtain ⟨z1, z2, z3, z4, z5, z6, z7, z8⟩ := z
              exact ⟨z1, z2, z3, z4, z5, (by show n < x.2.1; grind), z7, z8⟩
          · rw [if_neg t, if_neg t]
            obtain ⟨g1, g2, g3, g4⟩ := h42 u.1 u.2.1 u.2.2.1 u.2.2.2.1 u.2.2.2.2.1 s5 u.2.2.2.2.2.2.1 u.2.2.2.2.2.2.2.1 u.2.2.2.2.2.2.2.2.1 u.2.2.2.2.2.2.2.2.2.1 u.2.2.2.2.2.2.2.2.2.2.1 u.2.2.2.2.2.2.2.2.2.2.2.1 s12 i
            refine ⟨?_, ?_, ?_, g2.trans c4, g3.trans c5, c6, c7, g4⟩
            · rw [g1]; exact c1
            · rw [g1]; exact c2
            · rw [g1]; exact c3
        by_cases hi9 : i ≤ 0
        · rw [if_pos hi9]; exact key _ _
        · rw [if_neg hi9]; exact key _ _
theorem c_test_8 {tk nx : Int32 → Int32} {tc : Int32} {tf pf : Nat → Int32} (h : CH tk nx tc tf pf) : ∀ (k f n : Int32) (yj yo y1 y2 y3 y4 y5 : Nat → Int32) (yv yf ys : Int32), ¬ k < 0 → k < tc → ¬ n < 0 → ¬ 60 < n → TV pf tc f n (sT tk nx 2 (pf k.toNatClampNeg) n) (fX2_readTest_8 tc k f n tf pf yj yo y1 y2 y3 y4 y5 yv yf ys) := by
  intro k f n yj yo y1 y2 y3 y4 y5 yv yf ys k0 k1 n0 n6
  have := i_nn n0
  exact c_testL_8 h (fun _ _ _ _ _ _ _ _ _ _ _ _ _ _ => ⟨rfl, rfl⟩) (fun _ _ _ _ _ _ _ _ _ _ _ _ _ _ => ⟨rfl, rfl, rfl, rfl⟩) 61 _ false k n yv yf ys yj yo y1 y2 y3 y4 y5 0 k0 k1 n0 n6 (by decide) n0 (by omega) (by decide)
theorem c_fact_7 {tk nx : Int32 → Int32} {tc : Int32} {tf pf : Nat → Int32} (h : CH tk nx tc tf pf) : ∀ (k f n : Int32) (yj yo y1 y2 y3 y4 y5 : Nat → Int32) (yv yf ys : Int32), ¬ k < 0 → k < tc → ¬ n < 0 → ¬ 60 < n → TV pf tc f n (sF tk nx 3 (pf k.toNatClampNeg) n) (fX2_readFact_7 tc k f n tf pf yj yo y1 y2 y3 y4 y5 yv yf ys) := by
  intro k f n yj yo y1 y2 y3 y4 y5 yv yf ys k0 k1 n0 n6
  have hc := c_cmp h k f n yj yo y1 y2 y3 y4 y5 yv yf ys k0 k1 n0 n6
  unfold fX2_readFact_7
  simp only [bnd, CH_tok h k0 k1]
  show TV pf tc f n (sfc tk nx (sT tk nx 2) (sF tk nx 2) (pf k.toNatClampNeg) n) _
  unfold sfc
  by_cases a : tk (pf k.toNatClampNeg) = 319
  · rw [if_pos a, if_pos a]
    obtain ⟨b0, b1, b2⟩ := CH_nx h k0 k1 rfl (fun q => absurd (a.symm.trans q) (by decide))
    have hf := c_fact_8 h (k + 1) f n yj yo y1 y2 y3 y4 y5 yv yf ys b0 b1 n0 n6
    rw [b2] at hf
    generalize fX2_readFact_8 tc (k + 1) f n tf pf yj yo y1 y2 y3 y4 y5 yv yf ys = u at hf ⊢
    generalize sF tk nx 2 (nx (pf k.toNatClampNeg)) n = r at hf ⊢
    cases r with
    | error e => exact hf
    | ok w => exact hf
  · rw [if_neg a, if_neg a]
    by_cases b : tk (pf k.toNatClampNeg) = 91
    · rw [if_pos b, if_pos b]
      obtain ⟨b0, b1, b2⟩ := CH_nx h k0 k1 rfl (fun q => absurd (b.symm.trans q) (by decide))
      have hf := c_test_8 h (k + 1) f n yj yo y1 y2 y3 y4 y5 yv yf ys b0 b1 n0 n6
      rw [b2] at hf
      generalize fX2_readTest_8 tc (k + 1) f n tf pf yj yo y1 y2 y3 y4 y5 yv yf ys = u at hf ⊢
      generalize sT tk nx 2 (nx (pf k.toNatClampNeg)) n = r at hf ⊢
      cases r with
      | error e =>
        obtain ⟨h2, h7, hp⟩ := hf
        rw [if_pos h7]
        exact ⟨h2, rfl, hp⟩
      | ok w =>
        obtain ⟨c1, c2, c3, c4, c5, c6, c7, c8⟩ := hf
        rw [if_neg (show ¬ u.2.2.2.2.2.2.2.2.2.2.2.2.2 = 0 by rw [c8]; decide), CH_take h c1 c2 c3]
        show TV pf tc f n (if tk w.1 = 93 then _ else _) _
        by_cases t : tk w.1 = 93
        · rw [if_pos t, if_pos t]
          obtain ⟨d0, d1, d2⟩ := CH_nx h c1 c2 c3 (fun q => absurd (t.symm.trans q) (by decide))
          exact ⟨d0, d1, d2, c4, c5, c6, c7, rfl⟩
        · rw [if_neg t, if_neg t]
          exact ⟨rfl, rfl, CH_pos h c1 c2 c3 (by decide) (by decide)⟩
    · rw [if_neg b, if_neg b]
      generalize fX2_readComparison tc k f n tf pf yj yo y1 y2 y3 y4 y5 yv yf ys = u at hc ⊢
      exact hc
theorem c_partL_7 {tk nx : Int32 → Int32} {tc : Int32} {tf pf : Nat → Int32} (h : CH tk nx tc tf pf) {f : Int32} {E17 E42 E60 : Int32 → Int32 → Int32 → Int32 → Int32 → Int32 → (Nat → Int32) → (Nat → Int32) → (Nat → Int32) → (Nat → Int32) → (Nat → Int32) → (Nat → Int32) → (Nat → Int32) → Int32 → (Int32 × Int32 × Int32 × Int32 × Int32 × Int32 × (Nat → Int32) × (Nat → Int32) × (Nat → Int32) × (Nat → Int32) × (Nat → Int32) × (Nat → Int32) × (Nat → Int32) × Int32)} (h17 : ∀ a1 a2 a3 a4 a5 a6 a7 a8 a9 a10 a11 a12 a13 a14, (E17 a1 a2 a3 a4 a5 a6 a7 a8 a9 a10 a11 a12 a13 a14).2.1 = a2 ∧ (E17 a1 a2 a3 a4 a5 a6 a7 a8 a9 a10 a11 a12 a13 a14).2.2.2.2.2.2.2.2.2.2.2.2.2 = 0) (h42 : ∀ a1 a2 a3 a4 a5 a6 a7 a8 a9 a10 a11 a12 a13 a14, (E42 a1 a2 a3 a4 a5 a6 a7 a8 a9 a10 a11 a12 a13 a14).1 = a1 ∧ (E42 a1 a2 a3 a4 a5 a6 a7 a8 a9 a10 a11 a12 a13 a14).2.1 = a2 ∧ (E42 a1 a2 a3 a4 a5 a6 a7 a8 a9 a10 a11 a12 a13 a14).2.2.1 = a3 ∧ (E42 a1 a2 a3 a4 a5 a6 a7 a8 a9 a10 a11 a12 a13 a14).2.2.2.2.2.2.2.2.2.2.2.2.2 = 1) : ∀ (m N : Nat) (b : Bool) (k n v3 v4 v5 : Int32) (g6 g7 g8 g9 g10 g11 g12 : Nat → Int32) (i : Int32), ¬ k < 0 → k < tc → ¬ n < 0 → ¬ 60 < n → ¬ i < 0 → ¬ n < i → (60 - n.toInt).toNat < m → (401 - i.toInt).toNat < N → TV pf tc f n (slp tk nx (sF tk nx 3) 318 (-2) m b (pf k.toNatClampNeg) n) (fl_mX2_readPart_7_2 tc tf pf E17 E42 E60 N k f n v3 v4 v5 g6 g7 g8 g9 g10 g11 g12 i) := by
  intro m
  induction m with
  | zero => intro N b k n v3 v4 v5 g6 g7 g8 g9 g10 g11 g12 i k0 k1 n0 n6 i0 i6 hm hN; exact absurd hm (Nat.not_lt_zero _)
  | succ m ih =>
    intro N b k n v3 v4 v5 g6 g7 g8 g9 g10 g11 g12 i k0 k1 n0 n6 i0 i6 hm hN
    cases N with
    | zero => exact absurd hN (Nat.not_lt_zero _)
    | succ N =>
      show TV pf tc f n _ (fb_mX2_readPart_7_2 tc tf pf E17 E42 E60 (fl_mX2_readPart_7_2 tc tf pf E17 E42 E60 N) k f n v3 v4 v5 g6 g7 g8 g9 g10 g11 g12 i)
      unfold fb_mX2_readPart_7_2
      rw [if_neg (show ¬ 400 < i by grind)]
      simp only [bnd]
      have hv := c_fact_7 h k f n g6 g7 g8 g9 g10 g11 g12 v3 v4 v5 k0 k1 n0 n6
      generalize fX2_readFact_7 tc k f n tf pf g6 g7 g8 g9 g10 g11 g12 v3 v4 v5 = u at hv ⊢
      rw [slp_s]
      generalize sF tk nx 3 (pf k.toNatClampNeg) n = r at hv ⊢
      cases r with
      | error e =>
        obtain ⟨h2, h7, hp⟩ := hv
        rw [if_pos h7]
        exact ⟨(h17 u.1 u.2.1 u.2.2.1 u.2.2.2.1 u.2.2.2.2.1 u.2.2.2.2.2.1 u.2.2.2.2.2.2.1 u.2.2.2.2.2.2.2.1 u.2.2.2.2.2.2.2.2.1 u.2.2.2.2.2.2.2.2.2.1 u.2.2.2.2.2.2.2.2.2.2.1 u.2.2.2.2.2.2.2.2.2.2.2.1 u.2.2.2.2.2.2.2.2.2.2.2.2.1 i).1.trans h2, (h17 u.1 u.2.1 u.2.2.1 u.2.2.2.1 u.2.2.2.2.1 u.2.2.2.2.2.1 u.2.2.2.2.2.2.1 u.2.2.2.2.2.2.2.1 u.2.2.2.2.2.2.2.2.1 u.2.2.2.2.2.2.2.2.2.1 u.2.2.2.2.2.2.2.2.2.2.1 u.2.2.2.2.2.2.2.2.2.2.2.1 u.2.2.2.2.2.2.2.2.2.2.2.2.1 i).2, hp⟩
      | ok w =>
        obtain ⟨c1, c2, c3, c4, c5, c6, c7, c8⟩ := hv
        rw [if_neg (show ¬ u.2.2.2.2.2.2.2.2.2.2.2.2.2 = 0 by rw [c8]; decide), CH_tok h c1 c2, c3]
        have hn : (w.2.1).toInt ≤ 60 ∧ n.toInt < (w.2.1).toInt := z_le60 c6 c7
        have hi := z_inc60 i6 c6 c7 i0
        have i6' : i.toInt ≤ n.toInt := by
          rw [Int32.lt_iff_toInt_lt] at i6
          omega
        have key : ∀ (s5 : Int32) (s12 : Nat → Int32), TV pf tc f n (if tk w.1 = 318 then exb (slp tk nx (sF tk nx 3) 318 (-2) m true (nx w.1) w.2.1) (fun x => .ok (x.1, x.2.1, (if b then w.2.2 ++ [((-2), [], [])] else w.2.2) ++ x.2.2)) else .ok (w.1, w.2.1, if b then w.2.2 ++ [((-2), [], [])] else w.2.2)) (if tk w.1 = 318 then fl_mX2_readPart_7_2 tc tf pf E17 E42 E60 N (u.1 + 1) u.2.1 u.2.2.1 u.2.2.2.1 u.2.2.2.2.1 s5 u.2.2.2.2.2.2.1 u.2.2.2.2.2.2.2.1 u.2.2.2.2.2.2.2.2.1 u.2.2.2.2.2.2.2.2.2.1 u.2.2.2.2.2.2.2.2.2.2.1 u.2.2.2.2.2.2.2.2.2.2.2.1 s12 (i + 1) else E42 u.1 u.2.1 u.2.2.1 u.2.2.2.1 u.2.2.2.2.1 s5 u.2.2.2.2.2.2.1 u.2.2.2.2.2.2.2.1 u.2.2.2.2.2.2.2.2.1 u.2.2.2.2.2.2.2.2.2.1 u.2.2.2.2.2.2.2.2.2.2.1 u.2.2.2.2.2.2.2.2.2.2.2.1 s12 i) := by
          intro s5 s12
          by_cases t : tk w.1 = 318
          · rw [if_pos t, if_pos t]
            obtain ⟨d0, d1, d2⟩ := CH_nx h c1 c2 c3 (fun q => absurd (t.symm.trans q) (by decide))
            have z := ih N true (u.1 + 1) w.2.1 u.2.2.2.1 u.2.2.2.2.1 s5 u.2.2.2.2.2.2.1 u.2.2.2.2.2.2.2.1 u.2.2.2.2.2.2.2.2.1 u.2.2.2.2.2.2.2.2.2.1 u.2.2.2.2.2.2.2.2.2.2.1 u.2.2.2.2.2.2.2.2.2.2.2.1 s12 (i + 1) d0 d1 (by grind) c7 (by grind) (by grind) (by omega) (by omega)
            rw [d2] at z
            rw [c4, c5]
            generalize slp tk nx (sF tk nx 3) 318 (-2) m true (nx w.1) w.2.1 = r at z ⊢
            cases r with
            | error e => exact z
            | ok x =>
              obtain ⟨z1, z2, z3, z4, z5, z6, z7, z8⟩ := z
              exact ⟨z1, z2, z3, z4, z5, (by show n < x.2.1; grind), z7, z8⟩
          · rw [if_neg t, if_neg t]
            obtain ⟨g1, g2, g3, g4⟩ := h42 u.1 u.2.1 u.2.2.1 u.2.2.2.1 u.2.2.2.2.1 s5 u.2.2.2.2.2.2.1 u.2.2.2.2.2.2.2.1 u.2.2.2.2.2.2.2.2.1 u.2.2.2.2.2.2.2.2.2.1 u.2.2.2.2.2.2.2.2.2.2.1 u.2.2.2.2.2.2.2.2.2.2.2.1 s12 i
            refine ⟨?_, ?_, ?_, g2.trans c4, g3.trans c5, c6, c7, g4⟩
            · rw [g1]; exact c1
            · rw [g1]; exact c2
            · rw [g1]; exact c3
        by_cases hi9 : i ≤ 0
        · rw [if_pos hi9]; exact key _ _
        · rw [if_neg hi9]; exact key _ _
theorem c_part_7 {tk nx : Int32 → Int32} {tc : Int32} {tf pf : Nat → Int32} (h : CH tk nx tc tf pf) : ∀ (k f n : Int32) (yj yo y1 y2 y3 y4 y5 : Nat → Int32) (yv yf ys : Int32), ¬ k < 0 → k < tc → ¬ n < 0 → ¬ 60 < n → TV pf tc f n (sP tk nx 3 (pf k.toNatClampNeg) n) (fX2_readPart_7 tc k f n tf pf yj yo y1 y2 y3 y4 y5 yv yf ys) := by
  intro k f n yj yo y1 y2 y3 y4 y5 yv yf ys k0 k1 n0 n6
  have := i_nn n0
  exact c_partL_7 h (fun _ _ _ _ _ _ _ _ _ _ _ _ _ _ => ⟨rfl, rfl⟩) (fun _ _ _ _ _ _ _ _ _ _ _ _ _ _ => ⟨rfl, rfl, rfl, rfl⟩) 61 _ false k n yv yf ys yj yo y1 y2 y3 y4 y5 0 k0 k1 n0 n6 (by decide) n0 (by omega) (by decide)
theorem c_testL_7 {tk nx : Int32 → Int32} {tc : Int32} {tf pf : Nat → Int32} (h : CH tk nx tc tf pf) {f : Int32} {E17 E42 E60 : Int32 → Int32 → Int32 → Int32 → Int32 → Int32 → (Nat → Int32) → (Nat → Int32) → (Nat → Int32) → (Nat → Int32) → (Nat → Int32) → (Nat → Int32) → (Nat → Int32) → Int32 → (Int32 × Int32 × Int32 × Int32 × Int32 × Int32 × (Nat → Int32) × (Nat → Int32) × (Nat → Int32) × (Nat → Int32) × (Nat → Int32) × (Nat → Int32) × (Nat → Int32) × Int32)} (h17 : ∀ a1 a2 a3 a4 a5 a6 a7 a8 a9 a10 a11 a12 a13 a14, (E17 a1 a2 a3 a4 a5 a6 a7 a8 a9 a10 a11 a12 a13 a14).2.1 = a2 ∧ (E17 a1 a2 a3 a4 a5 a6 a7 a8 a9 a10 a11 a12 a13 a14).2.2.2.2.2.2.2.2.2.2.2.2.2 = 0) (h42 : ∀ a1 a2 a3 a4 a5 a6 a7 a8 a9 a10 a11 a12 a13 a14, (E42 a1 a2 a3 a4 a5 a6 a7 a8 a9 a10 a11 a12 a13 a14).1 = a1 ∧ (E42 a1 a2 a3 a4 a5 a6 a7 a8 a9 a10 a11 a12 a13 a14).2.1 = a2 ∧ (E42 a1 a2 a3 a4 a5 a6 a7 a8 a9 a10 a11 a12 a13 a14).2.2.1 = a3 ∧ (E42 a1 a2 a3 a4 a5 a6 a7 a8 a9 a10 a11 a12 a13 a14).2.2.2.2.2.2.2.2.2.2.2.2.2 = 1) : ∀ (m N : Nat) (b : Bool) (k n v3 v4 v5 : Int32) (g6 g7 g8 g9 g10 g11 g12 : Nat → Int32) (i : Int32), ¬ k < 0 → k < tc → ¬ n < 0 → ¬ 60 < n → ¬ i < 0 → ¬ n < i → (60 - n.toInt).toNat < m → (401 - i.toInt).toNat < N → TV pf tc f n (slp tk nx (sP tk nx 3) 317 (-3) m b (pf k.toNatClampNeg) n) (fl_mX2_readTest_7_2 tc tf pf E17 E42 E60 N k f n v3 v4 v5 g6 g7 g8 g9 g10 g11 g12 i) := by
  intro m
  induction m with
  | zero => intro N b k n v3 v4 v5 g6 g7 g8 g9 g10 g11 g12 i k0 k1 n0 n6 i0 i6 hm hN; exact absurd hm (Nat.not_lt_zero _)
  | succ m ih =>
    intro N b k n v3 v4 v5 g6 g7 g8 g9 g10 g11 g12 i k0 k1 n0 n6 i0 i6 hm hN
    cases N with
    | zero => exact absurd hN (Nat.not_lt_zero _)
    | succ N =>
      show TV pf tc f n _ (fb_mX2_readTest_7_2 tc tf pf E17 E42 E60 (fl_mX2_readTest_7_2 tc tf pf E17 E42 E60 N) k f n v3 v4 v5 g6 g7 g8 g9 g10 g11 g12 i)
      unfold fb_mX2_readTest_7_2
      rw [if_neg (show ¬ 400 < i by grind)]
      simp only [bnd]
      have hv := c_part_7 h k f n g6 g7 g8 g9 g10 g11 g12 v3 v4 v5 k0 k1 n0 n6
      generalize fX2_readPart_7 tc k f n tf pf g6 g7 g8 g9 g10 g11 g12 v3 v4 v5 = u at hv ⊢
      rw [slp_s]
      generalize sP tk nx 3 (pf k.toNatClampNeg) n = r at hv ⊢
      cases r with
      | error e =>
        obtain ⟨h2, h7, hp⟩ := hv
        rw [if_pos h7]
        exact ⟨(h17 u.1 u.2.1 u.2.2.1 u.2.2.2.1 u.2.2.2.2.1 u.2.2.2.2.2.1 u.2.2.2.2.2.2.1 u.2.2.2.2.2.2.2.1 u.2.2.2.2.2.2.2.2.1 u.2.2.2.2.2.2.2.2.2.1 u.2.2.2.2.2.2.2.2.2.2.1 u.2.2.2.2.2.2.2.2.2.2.2.1 u.2.2.2.2.2.2.2.2.2.2.2.2.1 i).1.trans h2, (h17 u.1 u.2.1 u.2.2.1 u.2.2.2.1 u.2.2.2.2.1 u.2.2.2.2.2.1 u.2.2.2.2.2.2.1 u.2.2.2.2.2.2.2.1 u.2.2.2.2.2.2.2.2.1 u.2.2.2.2.2.2.2.2.2.1 u.2.2.2.2.2.2.2.2.2.2.1 u.2.2.2.2.2.2.2.2.2.2.2.1 u.2.2.2.2.2.2.2.2.2.2.2.2.1 i).2, hp⟩
      | ok w =>
        obtain ⟨c1, c2, c3, c4, c5, c6, c7, c8⟩ := hv
        rw [if_neg (show ¬ u.2.2.2.2.2.2.2.2.2.2.2.2.2 = 0 by rw [c8]; decide), CH_tok h c1 c2, c3]
        have hn : (w.2.1).toInt ≤ 60 ∧ n.toInt < (w.2.1).toInt := z_le60 c6 c7
        have hi := z_inc60 i6 c6 c7 i0
        have i6' : i.toInt ≤ n.toInt := by
          rw [Int32.lt_iff_toInt_lt] at i6
          omega
        have key : ∀ (s5 : Int32) (s12 : Nat → Int32), TV pf tc f n (if tk w.1 = 317 then exb (slp tk nx (sP tk nx 3) 317 (-3) m true (nx w.1) w.2.1) (fun x => .ok (x.1, x.2.1, (if b then w.2.2 ++ [((-3), [], [])] else w.2.2) ++ x.2.2)) else .ok (w.1, w.2.1, if b then w.2.2 ++ [((-3), [], [])] else w.2.2)) (if tk w.1 = 317 then fl_mX2_readTest_7_2 tc tf pf E17 E42 E60 N (u.1 + 1) u.2.1 u.2.2.1 u.2.2.2.1 u.2.2.2.2.1 s5 u.2.2.2.2.2.2.1 u.2.2.2.2.2.2.2.1 u.2.2.2.2.2.2.2.2.1 u.2.2.2.2.2.2.2.2.2.1 u.2.2.2.2.2.2.2.2.2.2.1 u.2.2.2.2.2.2.2.2.2.2.2.1 s12 (i + 1) else E42 u.1 u.2.1 u.2.2.1 u.2.2.2.1 u.2.2.2.2.1 s5 u.2.2.2.2.2.2.1 u.2.2.2.2.2.2.2.1 u.2.2.2.2.2.2.2.2.1 u.2.2.2.2.2.2.2.2.2.1 u.2.2.2.2.2.2.2.2.2.2.1 u.2.2.2.2.2.2.2.2.2.2.2.1 s12 i) := by
          intro s5 s12
          by_cases t : tk w.1 = 317
          · rw [if_pos t, if_pos t]
            obtain ⟨d0, d1, d2⟩ := CH_nx h c1 c2 c3 (fun q => absurd (t.symm.trans q) (by decide))
            have z := ih N true (u.1 + 1) w.2.1 u.2.2.2.1 u.2.2.2.2.1 s5 u.2.2.2.2.2.2.1 u.2.2.2.2.2.2.2.1 u.2.2.2.2.2.2.2.2.1 u.2.2.2.2.2.2.2.2.2.1 u.2.2.2.2.2.2.2.2.2.2.1 u.2.2.2.2.2.2.2.2.2.2.2.1 s12 (i + 1) d0 d1 (by grind) c7 (by grind) (by grind) (by omega) (by omega)
            rw [d2] at z
            rw [c4, c5]
            generalize slp tk nx (sP tk nx 3) 317 (-3) m true (nx w.1) w.2.1 = r at z ⊢
            cases r with
            | error e => exact z
            | ok x =>
              obtain ⟨z1, z2, z3, z4, z5, z6, z7, z8⟩ := z
              exact ⟨z1, z2, z3, z4, z5, (by show n < x.2.1; grind), z7, z8⟩
          · rw [if_neg t, if_neg t]
            obtain ⟨g1, g2, g3, g4⟩ := h42 u.1 u.2.1 u.2.2.1 u.2.2.2.1 u.2.2.2.2.1 s5 u.2.2.2.2.2.2.1 u.2.2.2.2.2.2.2.1 u.2.2.2.2.2.2.2.2.1 u.2.2.2.2.2.2.2.2.2.1 u.2.2.2.2.2.2.2.2.2.2.1 u.2.2.2.2.2.2.2.2.2.2.2.1 s12 i
            refine ⟨?_, ?_, ?_, g2.trans c4, g3.trans c5, c6, c7, g4⟩
            · rw [g1]; exact c1
            · rw [g1]; exact c2
            · rw [g1]; exact c3
        by_cases hi9 : i ≤ 0
        · rw [if_pos hi9]; exact key _ _
        · rw [if_neg hi9]; exact key _ _
theorem c_test_7 {tk nx : Int32 → Int32} {tc : Int32} {tf pf : Nat → Int32} (h : CH tk nx tc tf pf) : ∀ (k f n : Int32) (yj yo y1 y2 y3 y4 y5 : Nat → Int32) (yv yf ys : Int32), ¬ k < 0 → k < tc → ¬ n < 0 → ¬ 60 < n → TV pf tc f n (sT tk nx 3 (pf k.toNatClampNeg) n) (fX2_readTest_7 tc k f n tf pf yj yo y1 y2 y3 y4 y5 yv yf ys) := by
  intro k f n yj yo y1 y2 y3 y4 y5 yv yf ys k0 k1 n0 n6
  have := i_nn n0
  exact c_testL_7 h (fun _ _ _ _ _ _ _ _ _ _ _ _ _ _ => ⟨rfl, rfl⟩) (fun _ _ _ _ _ _ _ _ _ _ _ _ _ _ => ⟨rfl, rfl, rfl, rfl⟩) 61 _ false k n yv yf ys yj yo y1 y2 y3 y4 y5 0 k0 k1 n0 n6 (by decide) n0 (by omega) (by decide)
theorem c_fact_6 {tk nx : Int32 → Int32} {tc : Int32} {tf pf : Nat → Int32} (h : CH tk nx tc tf pf) : ∀ (k f n : Int32) (yj yo y1 y2 y3 y4 y5 : Nat → Int32) (yv yf ys : Int32), ¬ k < 0 → k < tc → ¬ n < 0 → ¬ 60 < n → TV pf tc f n (sF tk nx 4 (pf k.toNatClampNeg) n) (fX2_readFact_6 tc k f n tf pf yj yo y1 y2 y3 y4 y5 yv yf ys) := by
  intro k f n yj yo y1 y2 y3 y4 y5 yv yf ys k0 k1 n0 n6
  have hc := c_cmp h k f n yj yo y1 y2 y3 y4 y5 yv yf ys k0 k1 n0 n6
  unfold fX2_readFact_6
  simp only [bnd, CH_tok h k0 k1]
  show TV pf tc f n (sfc tk nx (sT tk nx 3) (sF tk nx 3) (pf k.toNatClampNeg) n) _
  unfold sfc
  by_cases a : tk (pf k.toNatClampNeg) = 319
  · rw [if_pos a, if_pos a]
    obtain ⟨b0, b1, b2⟩ := CH_nx h k0 k1 rfl (fun q => absurd (a.symm.trans q) (by decide))
    have hf := c_fact_7 h (k + 1) f n yj yo y1 y2 y3 y4 y5 yv yf ys b0 b1 n0 n6
    rw [b2] at hf
    generalize fX2_readFact_7 tc (k + 1) f n tf pf yj yo y1 y2 y3 y4 y5 yv yf ys = u at hf ⊢
    generalize sF tk nx 3 (nx (pf k.toNatClampNeg)) n = r at hf ⊢
    cases r with
    | error e => exact hf
    | ok w => exact hf
  · rw [if_neg a, if_neg a]
    by_cases b : tk (pf k.toNatClampNeg) = 91
    · rw [if_pos b, if_pos b]
      obtain ⟨b0, b1, b2⟩ := CH_nx h k0 k1 rfl (fun q => absurd (b.symm.trans q) (by decide))
      have hf := c_test_7 h (k + 1) f n yj yo y1 y2 y3 y4 y5 yv yf ys b0 b1 n0 n6
      rw [b2] at hf
      generalize fX2_readTest_7 tc (k + 1) f n tf pf yj yo y1 y2 y3 y4 y5 yv yf ys = u at hf ⊢
      generalize sT tk nx 3 (nx (pf k.toNatClampNeg)) n = r at hf ⊢
      cases r with
      | error e =>
        obtain ⟨h2, h7, hp⟩ := hf
        rw [if_pos h7]
        exact ⟨h2, rfl, hp⟩
      | ok w =>
        obtain ⟨c1, c2, c3, c4, c5, c6, c7, c8⟩ := hf
        rw [if_neg (show ¬ u.2.2.2.2.2.2.2.2.2.2.2.2.2 = 0 by rw [c8]; decide), CH_take h c1 c2 c3]
        show TV pf tc f n (if tk w.1 = 93 then _ else _) _
        by_cases t : tk w.1 = 93
        · rw [if_pos t, if_pos t]
          obtain ⟨d0, d1, d2⟩ := CH_nx h c1 c2 c3 (fun q => absurd (t.symm.trans q) (by decide))
          exact ⟨d0, d1, d2, c4, c5, c6, c7, rfl⟩
        · rw [if_neg t, if_neg t]
          exact ⟨rfl, rfl, CH_pos h c1 c2 c3 (by decide) (by decide)⟩
    · rw [if_neg b, if_neg b]
      generalize fX2_readComparison tc k f n tf pf yj yo y1 y2 y3 y4 y5 yv yf ys = u at hc ⊢
      exact hc
theorem c_partL_6 {tk nx : Int32 → Int32} {tc : Int32} {tf pf : Nat → Int32} (h : CH tk nx tc tf pf) {f : Int32} {E17 E42 E60 : Int32 → Int32 → Int32 → Int32 → Int32 → Int32 → (Nat → Int32) → (Nat → Int32) → (Nat → Int32) → (Nat → Int32) → (Nat → Int32) → (Nat → Int32) → (Nat → Int32) → Int32 → (Int32 × Int32 × Int32 × Int32 × Int32 × Int32 × (Nat → Int32) × (Nat → Int32) × (Nat → Int32) × (Nat → Int32) × (Nat → Int32) × (Nat → Int32) × (Nat → Int32) × Int32)} (h17 : ∀ a1 a2 a3 a4 a5 a6 a7 a8 a9 a10 a11 a12 a13 a14, (E17 a1 a2 a3 a4 a5 a6 a7 a8 a9 a10 a11 a12 a13 a14).2.1 = a2 ∧ (E17 a1 a2 a3 a4 a5 a6 a7 a8 a9 a10 a11 a12 a13 a14).2.2.2.2.2.2.2.2.2.2.2.2.2 = 0) (h42 : ∀ a1 a2 a3 a4 a5 a6 a7 a8 a9 a10 a11 a12 a13 a14, (E42 a1 a2 a3 a4 a5 a6 a7 a8 a9 a10 a11 a12 a13 a14).1 = a1 ∧ (E42 a1 a2 a3 a4 a5 a6 a7 a8 a9 a10 a11 a12 a13 a14).2.1 = a2 ∧ (E42 a1 a2 a3 a4 a5 a6 a7 a8 a9 a10 a11 a12 a13 a14).2.2.1 = a3 ∧ (E42 a1 a2 a3 a4 a5 a6 a7 a8 a9 a10 a11 a12 a13 a14).2.2.2.2.2.2.2.2.2.2.2.2.2 = 1) : ∀ (m N : Nat) (b : Bool) (k n v3 v4 v5 : Int32) (g6 g7 g8 g9 g10 g11 g12 : Nat → Int32) (i : Int32), ¬ k < 0 → k < tc → ¬ n < 0 → ¬ 60 < n → ¬ i < 0 → ¬ n < i → (60 - n.toInt).toNat < m → (401 - i.toInt).toNat < N → TV pf tc f n (slp tk nx (sF tk nx 4) 318 (-2) m b (pf k.toNatClampNeg) n) (fl_mX2_readPart_6_2 tc tf pf E17 E42 E60 N k f n v3 v4 v5 g6 g7 g8 g9 g10 g11 g12 i) := by
  intro m
  induction m with
  | zero => intro N b k n v3 v4 v5 g6 g7 g8 g9 g10 g11 g12 i k0 k1 n0 n6 i0 i6 hm hN; exact absurd hm (Nat.not_lt_zero _)
  | succ m ih =>
    intro N b k n v3 v4 v5 g6 g7 g8 g9 g10 g11 g12 i k0 k1 n0 n6 i0 i6 hm hN
    cases N with
    | zero => exact absurd hN (Nat.not_lt_zero _)
    | succ N =>
      show TV pf tc f n _ (fb_mX2_readPart_6_2 tc tf pf E17 E42 E60 (fl_mX2_readPart_6_2 tc tf pf E17 E42 E60 N) k f n v3 v4 v5 g6 g7 g8 g9 g10 g11 g12 i)
      unfold fb_mX2_readPart_6_2
      rw [if_neg (show ¬ 400 < i by grind)]
      simp only [bnd]
      have hv := c_fact_6 h k f n g6 g7 g8 g9 g10 g11 g12 v3 v4 v5 k0 k1 n0 n6
      generalize fX2_readFact_6 tc k f n tf pf g6 g7 g8 g9 g10 g11 g12 v3 v4 v5 = u at hv ⊢
      rw [slp_s]
      generalize sF tk nx 4 (pf k.toNatClampNeg) n = r at hv ⊢
      cases r with
      | error e =>
        obtain ⟨h2, h7, hp⟩ := hv
        rw [if_pos h7]
        exact ⟨(h17 u.1 u.2.1 u.2.2.1 u.2.2.2.1 u.2.2.2.2.1 u.2.2.2.2.2.1 u.2.2.2.2.2.2.1 u.2.2.2.2.2.2.2.1 u.2.2.2.2.2.2.2.2.1 u.2.2.2.2.2.2.2.2.2.1 u.2.2.2.2.2.2.2.2.2.2.1 u.2.2.2.2.2.2.2.2.2.2.2.1 u.2.2.2.2.2.2.2.2.2.2.2.2.1 i).1.trans h2, (h17 u.1 u.2.1 u.2.2.1 u.2.2.2.1 u.2.2.2.2.1 u.2.2.2.2.2.1 u.2.2.2.2.2.2.1 u.2.2.2.2.2.2.2.1 u.2.2.2.2.2.2.2.2.1 u.2.2.2.2.2.2.2.2.2.1 u.2.2.2.2.2.2.2.2.2.2.1 u.2.2.2.2.2.2.2.2.2.2.2.1 u.2.2.2.2.2.2.2.2.2.2.2.2.1 i).2, hp⟩
      | ok w =>
        obtain ⟨c1, c2, c3, c4, c5, c6, c7, c8⟩ := hv
        rw [if_neg (show ¬ u.2.2.2.2.2.2.2.2.2.2.2.2.2 = 0 by rw [c8]; decide), CH_tok h c1 c2, c3]
        have hn : (w.2.1).toInt ≤ 60 ∧ n.toInt < (w.2.1).toInt := z_le60 c6 c7
        have hi := z_inc60 i6 c6 c7 i0
        have i6' : i.toInt ≤ n.toInt := by
          rw [Int32.lt_iff_toInt_lt] at i6
          omega
        have key : ∀ (s5 : Int32) (s12 : Nat → Int32), TV pf tc f n (if tk w.1 = 318 then exb (slp tk nx (sF tk nx 4) 318 (-2) m true (nx w.1) w.2.1) (fun x => .ok (x.1, x.2.1, (if b then w.2.2 ++ [((-2), [], [])] else w.2.2) ++ x.2.2)) else .ok (w.1, w.2.1, if b then w.2.2 ++ [((-2), [], [])] else w.2.2)) (if tk w.1 = 318 then fl_mX2_readPart_6_2 tc tf pf E17 E42 E60 N (u.1 + 1) u.2.1 u.2.2.1 u.2.2.2.1 u.2.2.2.2.1 s5 u.2.2.2.2.2.2.1 u.2.2.2.2.2.2.2.1 u.2.2.2.2.2.2.2.2.1 u.2.2.2.2.2.2.2.2.2.1 u.2.2.2.2.2.2.2.2.2.2.1 u.2.2.2.2.2.2.2.2.2.2.2.1 s12 (i + 1) else E42 u.1 u.2.1 u.2.2.1 u.2.2.2.1 u.2.2.2.2.1 s5 u.2.2.2.2.2.2.1 u.2.2.2.2.2.2.2.1 u.2.2.2.2.2.2.2.2.1 u.2.2.2.2.2.2.2.2.2.1 u.2.2.2.2.2.2.2.2.2.2.1 u.2.2.2.2.2.2.2.2.2.2.2.1 s12 i) := by
          intro s5 s12
          by_cases t : tk w.1 = 318
          · rw [if_pos t, if_pos t]
            obtain ⟨d0, d1, d2⟩ := CH_nx h c1 c2 c3 (fun q => absurd (t.symm.trans q) (by decide))
            have z := ih N true (u.1 + 1) w.2.1 u.2.2.2.1 u.2.2.2.2.1 s5 u.2.2.2.2.2.2.1 u.2.2.2.2.2.2.2.1 u.2.2.2.2.2.2.2.2.1 u.2.2.2.2.2.2.2.2.2.1 u.2.2.2.2.2.2.2.2.2.2.1 u.2.2.2.2.2.2.2.2.2.2.2.1 s12 (i + 1) d0 d1 (by grind) c7 (by grind) (by grind) (by omega) (by omega)
            rw [d2] at z
            rw [c4, c5]
            generalize slp tk nx (sF tk nx 4) 318 (-2) m true (nx w.1) w.2.1 = r at z ⊢
            cases r with
            | error e => exact z
            | ok x =>
              obtain ⟨z1, z2, z3, z4, z5, z6, z7, z8⟩ := z
              exact ⟨z1, z2, z3, z4, z5, (by show n < x.2.1; grind), z7, z8⟩
          · rw [if_neg t, if_neg t]
            obtain ⟨g1, g2, g3, g4⟩ := h42 u.1 u.2.1 u.2.2.1 u.2.2.2.1 u.2.2.2.2.1 s5 u.2.2.2.2.2.2.1 u.2.2.2.2.2.2.2.1 u.2.2.2.2.2.2.2.2.1 u.2.2.2.2.2.2.2.2.2.1 u.2.2.2.2.2.2.2.2.2.2.1 u.2.2.2.2.2.2.2.2.2.2.2.1 s12 i
            refine ⟨?_, ?_, ?_, g2.trans c4, g3.trans c5, c6, c7, g4⟩
            · rw [g1]; exact c1
            · rw [g1]; exact c2
            · rw [g1]; exact c3
        by_cases hi9 : i ≤ 0
        · rw [if_pos hi9]; exact key _ _
        · rw [if_neg hi9]; exact key _ _
theorem c_part_6 {tk nx : Int32 → Int32} {tc : Int32} {tf pf : Nat → Int32} (h : CH tk nx tc tf pf) : ∀ (k f n : Int32) (yj yo y1 y2 y3 y4 y5 : Nat → Int32) (yv yf ys : Int32), ¬ k < 0 → k < tc → ¬ n < 0 → ¬ 60 < n → TV pf tc f n (sP tk nx 4 (pf k.toNatClampNeg) n) (fX2_readPart_6 tc k f n tf pf yj yo y1 y2 y3 y4 y5 yv yf ys) := by
  intro k f n yj yo y1 y2 y3 y4 y5 yv yf ys k0 k1 n0 n6
  have := i_nn n0
  exact c_partL_6 h (fun _ _ _ _ _ _ _ _ _ _ _ _ _ _ => ⟨rfl, rfl⟩) (fun _ _ _ _ _ _ _ _ _ _ _ _ _ _ => ⟨rfl, rfl, rfl, rfl⟩) 61 _ false k n yv yf ys yj yo y1 y2 y3 y4 y5 0 k0 k1 n0 n6 (by decide) n0 (by omega) (by decide)
theorem c_testL_6 {tk nx : Int32 → Int32} {tc : Int32} {tf pf : Nat → Int32} (h : CH tk nx tc tf pf) {f : Int32} {E17 E42 E60 : Int32 → Int32 → Int32 → Int32 → Int32 → Int32 → (Nat → Int32) → (Nat → Int32) → (Nat → Int32) → (Nat → Int32) → (Nat → Int32) → (Nat → Int32) → (Nat → Int32) → Int32 → (Int32 × Int32 × Int32 × Int32 × Int32 × Int32 × (Nat → Int32) × (Nat → Int32) × (Nat → Int32) × (Nat → Int32) × (Nat → Int32) × (Nat → Int32) × (Nat → Int32) × Int32)} (h17 : ∀ a1 a2 a3 a4 a5 a6 a7 a8 a9 a10 a11 a12 a13 a14, (E17 a1 a2 a3 a4 a5 a6 a7 a8 a9 a10 a11 a12 a13 a14).2.1 = a2 ∧ (E17 a1 a2 a3 a4 a5 a6 a7 a8 a9 a10 a11 a12 a13 a14).2.2.2.2.2.2.2.2.2.2.2.2.2 = 0) (h42 : ∀ a1 a2 a3 a4 a5 a6 a7 a8 a9 a10 a11 a12 a13 a14, (E42 a1 a2 a3 a4 a5 a6 a7 a8 a9 a10 a11 a12 a13 a14).1 = a1 ∧ (E42 a1 a2 a3 a4 a5 a6 a7 a8 a9 a10 a11 a12 a13 a14).2.1 = a2 ∧ (E42 a1 a2 a3 a4 a5 a6 a7 a8 a9 a10 a11 a12 a13 a14).2.2.1 = a3 ∧ (E42 a1 a2 a3 a4 a5 a6 a7 a8 a9 a10 a11 a12 a13 a14).2.2.2.2.2.2.2.2.2.2.2.2.2 = 1) : ∀ (m N : Nat) (b : Bool) (k n v3 v4 v5 : Int32) (g6 g7 g8 g9 g10 g11 g12 : Nat → Int32) (i : Int32), ¬ k < 0 → k < tc → ¬ n < 0 → ¬ 60 < n → ¬ i < 0 → ¬ n < i → (60 - n.toInt).toNat < m → (401 - i.toInt).toNat < N → TV pf tc f n (slp tk nx (sP tk nx 4) 317 (-3) m b (pf k.toNatClampNeg) n) (fl_mX2_readTest_6_2 tc tf pf E17 E42 E60 N k f n v3 v4 v5 g6 g7 g8 g9 g10 g11 g12 i) := by
  intro m
  induction m with
  | zero => intro N b k n v3 v4 v5 g6 g7 g8 g9 g10 g11 g12 i k0 k1 n0 n6 i0 i6 hm hN; exact absurd hm (Nat.not_lt_zero _)
  | succ m ih =>
    intro N b k n v3 v4 v5 g6 g7 g8 g9 g10 g11 g12 i k0 k1 n0 n6 i0 i6 hm hN
    cases N with
    | zero => exact absurd hN (Nat.not_lt_zero _)
    | succ N =>
      show TV pf tc f n _ (fb_mX2_readTest_6_2 tc tf pf E17 E42 E60 (fl_mX2_readTest_6_2 tc tf pf E17 E42 E60 N) k f n v3 v4 v5 g6 g7 g8 g9 g10 g11 g12 i)
      unfold fb_mX2_readTest_6_2
      rw [if_neg (show ¬ 400 < i by grind)]
      simp only [bnd]
      have hv := c_part_6 h k f n g6 g7 g8 g9 g10 g11 g12 v3 v4 v5 k0 k1 n0 n6
      generalize fX2_readPart_6 tc k f n tf pf g6 g7 g8 g9 g10 g11 g12 v3 v4 v5 = u at hv ⊢
      rw [slp_s]
      generalize sP tk nx 4 (pf k.toNatClampNeg) n = r at hv ⊢
      cases r with
      | error e =>
        obtain ⟨h2, h7, hp⟩ := hv
        rw [if_pos h7]
        exact ⟨(h17 u.1 u.2.1 u.2.2.1 u.2.2.2.1 u.2.2.2.2.1 u.2.2.2.2.2.1 u.2.2.2.2.2.2.1 u.2.2.2.2.2.2.2.1 u.2.2.2.2.2.2.2.2.1 u.2.2.2.2.2.2.2.2.2.1 u.2.2.2.2.2.2.2.2.2.2.1 u.2.2.2.2.2.2.2.2.2.2.2.1 u.2.2.2.2.2.2.2.2.2.2.2.2.1 i).1.trans h2, (h17 u.1 u.2.1 u.2.2.1 u.2.2.2.1 u.2.2.2.2.1 u.2.2.2.2.2.1 u.2.2.2.2.2.2.1 u.2.2.2.2.2.2.2.1 u.2.2.2.2.2.2.2.2.1 u.2.2.2.2.2.2.2.2.2.1 u.2.2.2.2.2.2.2.2.2.2.1 u.2.2.2.2.2.2.2.2.2.2.2.1 u.2.2.2.2.2.2.2.2.2.2.2.2.1 i).2, hp⟩
      | ok w =>
        obtain ⟨c1, c2, c3, c4, c5, c6, c7, c8⟩ := hv
        rw [if_neg (show ¬ u.2.2.2.2.2.2.2.2.2.2.2.2.2 = 0 by rw [c8]; decide), CH_tok h c1 c2, c3]
        have hn : (w.2.1).toInt ≤ 60 ∧ n.toInt < (w.2.1).toInt := z_le60 c6 c7
        have hi := z_inc60 i6 c6 c7 i0
        have i6' : i.toInt ≤ n.toInt := by
          rw [Int32.lt_iff_toInt_lt] at i6
          omega
        have key : ∀ (s5 : Int32) (s12 : Nat → Int32), TV pf tc f n (if tk w.1 = 317 then exb (slp tk nx (sP tk nx 4) 317 (-3) m true (nx w.1) w.2.1) (fun x => .ok (x.1, x.2.1, (if b then w.2.2 ++ [((-3), [], [])] else w.2.2) ++ x.2.2)) else .ok (w.1, w.2.1, if b then w.2.2 ++ [((-3), [], [])] else w.2.2)) (if tk w.1 = 317 then fl_mX2_readTest_6_2 tc tf pf E17 E42 E60 N (u.1 + 1) u.2.1 u.2.2.1 u.2.2.2.1 u.2.2.2.2.1 s5 u.2.2.2.2.2.2.1 u.2.2.2.2.2.2.2.1 u.2.2.2.2.2.2.2.2.1 u.2.2.2.2.2.2.2.2.2.1 u.2.2.2.2.2.2.2.2.2.2.1 u.2.2.2.2.2.2.2.2.2.2.2.1 s12 (i + 1) else E42 u.1 u.2.1 u.2.2.1 u.2.2.2.1 u.2.2.2.2.1 s5 u.2.2.2.2.2.2.1 u.2.2.2.2.2.2.2.1 u.2.2.2.2.2.2.2.2.1 u.2.2.2.2.2.2.2.2.2.1 u.2.2.2.2.2.2.2.2.2.2.1 u.2.2.2.2.2.2.2.2.2.2.2.1 s12 i) := by
          intro s5 s12
          by_cases t : tk w.1 = 317
          · rw [if_pos t, if_pos t]
            obtain ⟨d0, d1, d2⟩ := CH_nx h c1 c2 c3 (fun q => absurd (t.symm.trans q) (by decide))
            have z := ih N true (u.1 + 1) w.2.1 u.2.2.2.1 u.2.2.2.2.1 s5 u.2.2.2.2.2.2.1 u.2.2.2.2.2.2.2.1 u.2.2.2.2.2.2.2.2.1 u.2.2.2.2.2.2.2.2.2.1 u.2.2.2.2.2.2.2.2.2.2.1 u.2.2.2.2.2.2.2.2.2.2.2.1 s12 (i + 1) d0 d1 (by grind) c7 (by grind) (by grind) (by omega) (by omega)
            rw [d2] at z
            rw [c4, c5]
            generalize slp tk nx (sP tk nx 4) 317 (-3) m true (nx w.1) w.2.1 = r at z ⊢
            cases r with
            | error e => exact z
            | ok x =>
              obtain ⟨z1, z2, z3, z4, z5, z6, z7, z8⟩ := z
              exact ⟨z1, z2, z3, z4, z5, (by show n < x.2.1; grind), z7, z8⟩
          · rw [if_neg t, if_neg t]
            obtain ⟨g1, g2, g3, g4⟩ := h42 u.1 u.2.1 u.2.2.1 u.2.2.2.1 u.2.2.2.2.1 s5 u.2.2.2.2.2.2.1 u.2.2.2.2.2.2.2.1 u.2.2.2.2.2.2.2.2.1 u.2.2.2.2.2.2.2.2.2.1 u.2.2.2.2.2.2.2.2.2.2.1 u.2.2.2.2.2.2.2.2.2.2.2.1 s12 i
            refine ⟨?_, ?_, ?_, g2.trans c4, g3.trans c5, c6, c7, g4⟩
            · rw [g1]; exact c1
            · rw [g1]; exact c2
            · rw [g1]; exact c3
        by_cases hi9 : i ≤ 0
        · rw [if_pos hi9]; exact key _ _
        · rw [if_neg hi9]; exact key _ _
theorem c_test_6 {tk nx : Int32 → Int32} {tc : Int32} {tf pf : Nat → Int32} (h : CH tk nx tc tf pf) : ∀ (k f n : Int32) (yj yo y1 y2 y3 y4 y5 : Nat → Int32) (yv yf ys : Int32), ¬ k < 0 → k < tc → ¬ n < 0 → ¬ 60 < n → TV pf tc f n (sT tk nx 4 (pf k.toNatClampNeg) n) (fX2_readTest_6 tc k f n tf pf yj yo y1 y2 y3 y4 y5 yv yf ys) := by
  intro k f n yj yo y1 y2 y3 y4 y5 yv yf ys k0 k1 n0 n6
  have := i_nn n0
  exact c_testL_6 h (fun _ _ _ _ _ _ _ _ _ _ _ _ _ _ => ⟨rfl, rfl⟩) (fun _ _ _ _ _ _ _ _ _ _ _ _ _ _ => ⟨rfl, rfl, rfl, rfl⟩) 61 _ false k n yv yf ys yj yo y1 y2 y3 y4 y5 0 k0 k1 n0 n6 (by decide) n0 (by omega) (by decide)
theorem c_fact_5 {tk nx : Int32 → Int32} {tc : Int32} {tf pf : Nat → Int32} (h : CH tk nx tc tf pf) : ∀ (k f n : Int32) (yj yo y1 y2 y3 y4 y5 : Nat → Int32) (yv yf ys : Int32), ¬ k < 0 → k < tc → ¬ n < 0 → ¬ 60 < n → TV pf tc f n (sF tk nx 5 (pf k.toNatClampNeg) n) (fX2_readFact_5 tc k f n tf pf yj yo y1 y2 y3 y4 y5 yv yf ys) := by
  intro k f n yj yo y1 y2 y3 y4 y5 yv yf ys k0 k1 n0 n6
  have hc := c_cmp h k f n yj yo y1 y2 y3 y4 y5 yv yf ys k0 k1 n0 n6
  unfold fX2_readFact_5
  simp only [bnd, CH_tok h k0 k1]
  show TV pf tc f n (sfc tk nx (sT tk nx 4) (sF tk nx 4) (pf k.toNatClampNeg) n) _
  unfold sfc
  by_cases a : tk (pf k.toNatClampNeg) = 319
  · rw [if_pos a, if_pos a]
    obtain ⟨b0, b1, b2⟩ := CH_nx h k0 k1 rfl (fun q => absurd (a.symm.trans q) (by decide))
    have hf := c_fact_6 h (k + 1) f n yj yo y1 y2 y3 y4 y5 yv yf ys b0 b1 n0 n6
    rw [b2] at hf
    generalize fX2_readFact_6 tc (k + 1) f n tf pf yj yo y1 y2 y3 y4 y5 yv yf ys = u at hf ⊢
    generalize sF tk nx 4 (nx (pf k.toNatClampNeg)) n = r at hf ⊢
    cases r with
    | error e => exact hf
    | ok w => exact hf
  · rw [if_neg a, if_neg a]
    by_cases b : tk (pf k.toNatClampNeg) = 91
    · rw [if_pos b, if_pos b]
      obtain ⟨b0, b1, b2⟩ := CH_nx h k0 k1 rfl (fun q => absurd (b.symm.trans q) (by decide))
      have hf := c_test_6 h (k + 1) f n yj yo y1 y2 y3 y4 y5 yv yf ys b0 b1 n0 n6
      rw [b2] at hf
      generalize fX2_readTest_6 tc (k + 1) f n tf pf yj yo y1 y2 y3 y4 y5 yv yf ys = u at hf ⊢
      generalize sT tk nx 4 (nx (pf k.toNatClampNeg)) n = r at hf ⊢
      cases r with
      | error e =>
        obtain ⟨h2, h7, hp⟩ := hf
        rw [if_pos h7]
        exact ⟨h2, rfl, hp⟩
      | ok w =>
        obtain ⟨c1, c2, c3, c4, c5, c6, c7, c8⟩ := hf
        rw [if_neg (show ¬ u.2.2.2.2.2.2.2.2.2.2.2.2.2 = 0 by rw [c8]; decide), CH_take h c1 c2 c3]
        show TV pf tc f n (if tk w.1 = 93 then _ else _) _
        by_cases t : tk w.1 = 93
        · rw [if_pos t, if_pos t]
          obtain ⟨d0, d1, d2⟩ := CH_nx h c1 c2 c3 (fun q => absurd (t.symm.trans q) (by decide))
          exact ⟨d0, d1, d2, c4, c5, c6, c7, rfl⟩
        · rw [if_neg t, if_neg t]
          exact ⟨rfl, rfl, CH_pos h c1 c2 c3 (by decide) (by decide)⟩
    · rw [if_neg b, if_neg b]
      generalize fX2_readComparison tc k f n tf pf yj yo y1 y2 y3 y4 y5 yv yf ys = u at hc ⊢
      exact hc
theorem c_partL_5 {tk nx : Int32 → Int32} {tc : Int32} {tf pf : Nat → Int32} (h : CH tk nx tc tf pf) {f : Int32} {E17 E42 E60 : Int32 → Int32 → Int32 → Int32 → Int32 → Int32 → (Nat → Int32) → (Nat → Int32) → (Nat → Int32) → (Nat → Int32) → (Nat → Int32) → (Nat → Int32) → (Nat → Int32) → Int32 → (Int32 × Int32 × Int32 × Int32 × Int32 × Int32 × (Nat → Int32) × (Nat → Int32) × (Nat → Int32) × (Nat → Int32) × (Nat → Int32) × (Nat → Int32) × (Nat → Int32) × Int32)} (h17 : ∀ a1 a2 a3 a4 a5 a6 a7 a8 a9 a10 a11 a12 a13 a14, (E17 a1 a2 a3 a4 a5 a6 a7 a8 a9 a10 a11 a12 a13 a14).2.1 = a2 ∧ (E17 a1 a2 a3 a4 a5 a6 a7 a8 a9 a10 a11 a12 a13 a14).2.2.2.2.2.2.2.2.2.2.2.2.2 = 0) (h42 : ∀ a1 a2 a3 a4 a5 a6 a7 a8 a9 a10 a11 a12 a13 a14, (E42 a1 a2 a3 a4 a5 a6 a7 a8 a9 a10 a11 a12 a13 a14).1 = a1 ∧ (E42 a1 a2 a3 a4 a5 a6 a7 a8 a9 a10 a11 a12 a13 a14).2.1 = a2 ∧ (E42 a1 a2 a3 a4 a5 a6 a7 a8 a9 a10 a11 a12 a13 a14).2.2.1 = a3 ∧ (E42 a1 a2 a3 a4 a5 a6 a7 a8 a9 a10 a11 a12 a13 a14).2.2.2.2.2.2.2.2.2.2.2.2.2 = 1) : ∀ (m N : Nat) (b : Bool) (k n v3 v4 v5 : Int32) (g6 g7 g8 g9 g10 g11 g12 : Nat → Int32) (i : Int32), ¬ k < 0 → k < tc → ¬ n < 0 → ¬ 60 < n → ¬ i < 0 → ¬ n < i → (60 - n.toInt).toNat < m → (401 - i.toInt).toNat < N → TV pf tc f n (slp tk nx (sF tk nx 5) 318 (-2) m b (pf k.toNatClampNeg) n) (fl_mX2_readPart_5_2 tc tf pf E17 E42 E60 N k f n v3 v4 v5 g6 g7 g8 g9 g10 g11 g12 i) := by
  intro m
  induction m with
  | zero => intro N b k n v3 v4 v5 g6 g7 g8 g9 g10 g11 g12 i k0 k1 n0 n6 i0 i6 hm hN; exact absurd hm (Nat.not_lt_zero _)
  | succ m ih =>
    intro N b k n v3 v4 v5 g6 g7 g8 g9 g10 g11 g12 i k0 k1 n0 n6 i0 i6 hm hN
    cases N with
    | zero => exact absurd hN (Nat.not_lt_zero _)
    | succ N =>
      show TV pf tc f n _ (fb_mX2_readPart_5_2 tc tf pf E17 E42 E60 (fl_mX2_readPart_5_2 tc tf pf E17 E42 E60 N) k f n v3 v4 v5 g6 g7 g8 g9 g10 g11 g12 i)
      unfold fb_mX2_readPart_5_2
      rw [if_neg (show ¬ 400 < i by grind)]
      simp only [bnd]
      have hv := c_fact_5 h k f n g6 g7 g8 g9 g10 g11 g12 v3 v4 v5 k0 k1 n0 n6
      generalize fX2_readFact_5 tc k f n tf pf g6 g7 g8 g9 g10 g11 g12 v3 v4 v5 = u at hv ⊢
      rw [slp_s]
      generalize sF tk nx 5 (pf k.toNatClampNeg) n = r at hv ⊢
      cases r with
      | error e =>
        obtain ⟨h2, h7, hp⟩ := hv
        rw [if_pos h7]
        exact ⟨(h17 u.1 u.2.1 u.2.2.1 u.2.2.2.1 u.2.2.2.2.1 u.2.2.2.2.2.1 u.2.2.2.2.2.2.1 u.2.2.2.2.2.2.2.1 u.2.2.2.2.2.2.2.2.1 u.2.2.2.2.2.2.2.2.2.1 u.2.2.2.2.2.2.2.2.2.2.1 u.2.2.2.2.2.2.2.2.2.2.2.1 u.2.2.2.2.2.2.2.2.2.2.2.2.1 i).1.trans h2, (h17 u.1 u.2.1 u.2.2.1 u.2.2.2.1 u.2.2.2.2.1 u.2.2.2.2.2.1 u.2.2.2.2.2.2.1 u.2.2.2.2.2.2.2.1 u.2.2.2.2.2.2.2.2.1 u.2.2.2.2.2.2.2.2.2.1 u.2.2.2.2.2.2.2.2.2.2.1 u.2.2.2.2.2.2.2.2.2.2.2.1 u.2.2.2.2.2.2.2.2.2.2.2.2.1 i).2, hp⟩
      | ok w =>
        obtain ⟨c1, c2, c3, c4, c5, c6, c7, c8⟩ := hv
        rw [if_neg (show ¬ u.2.2.2.2.2.2.2.2.2.2.2.2.2 = 0 by rw [c8]; decide), CH_tok h c1 c2, c3]
        have hn : (w.2.1).toInt ≤ 60 ∧ n.toInt < (w.2.1).toInt := z_le60 c6 c7
        have hi := z_inc60 i6 c6 c7 i0
        have i6' : i.toInt ≤ n.toInt := by
          rw [Int32.lt_iff_toInt_lt] at i6
          omega
        have key : ∀ (s5 : Int32) (s12 : Nat → Int32), TV pf tc f n (if tk w.1 = 318 then exb (slp tk nx (sF tk nx 5) 318 (-2) m true (nx w.1) w.2.1) (fun x => .ok (x.1, x.2.1, (if b then w.2.2 ++ [((-2), [], [])] else w.2.2) ++ x.2.2)) else .ok (w.1, w.2.1, if b then w.2.2 ++ [((-2), [], [])] else w.2.2)) (if tk w.1 = 318 then fl_mX2_readPart_5_2 tc tf pf E17 E42 E60 N (u.1 + 1) u.2.1 u.2.2.1 u.2.2.2.1 u.2.2.2.2.1 s5 u.2.2.2.2.2.2.1 u.2.2.2.2.2.2.2.1 u.2.2.2.2.2.2.2.2.1 u.2.2.2.2.2.2.2.2.2.1 u.2.2.2.2.2.2.2.2.2.2.1 u.2.2.2.2.2.2.2.2.2.2.2.1 s12 (i + 1) else E42 u.1 u.2.1 u.2.2.1 u.2.2.2.1 u.2.2.2.2.1 s5 u.2.2.2.2.2.2.1 u.2.2.2.2.2.2.2.1 u.2.2.2.2.2.2.2.2.1 u.2.2.2.2.2.2.2.2.2.1 u.2.2.2.2.2.2.2.2.2.2.1 u.2.2.2.2.2.2.2.2.2.2.2.1 s12 i) := by
          intro s5 s12
          by_cases t : tk w.1 = 318
          · rw [if_pos t, if_pos t]
            obtain ⟨d0, d1, d2⟩ := CH_nx h c1 c2 c3 (fun q => absurd (t.symm.trans q) (by decide))
            have z := ih N true (u.1 + 1) w.2.1 u.2.2.2.1 u.2.2.2.2.1 s5 u.2.2.2.2.2.2.1 u.2.2.2.2.2.2.2.1 u.2.2.2.2.2.2.2.2.1 u.2.2.2.2.2.2.2.2.2.1 u.2.2.2.2.2.2.2.2.2.2.1 u.2.2.2.2.2.2.2.2.2.2.2.1 s12 (i + 1) d0 d1 (by grind) c7 (by grind) (by grind) (by omega) (by omega)
            rw [d2] at z
            rw [c4, c5]
            generalize slp tk nx (sF tk nx 5) 318 (-2) m true (nx w.1) w.2.1 = r at z ⊢
            cases r with
            | error e => exact z
            | ok x =>
              obtain ⟨z1, z2, z3, z4, z5, z6, z7, z8⟩ := z
              exact ⟨z1, z2, z3, z4, z5, (by show n < x.2.1; grind), z7, z8⟩
          · rw [if_neg t, if_neg t]
            obtain ⟨g1, g2, g3, g4⟩ := h42 u.1 u.2.1 u.2.2.1 u.2.2.2.1 u.2.2.2.2.1 s5 u.2.2.2.2.2.2.1 u.2.2.2.2.2.2.2.1 u.2.2.2.2.2.2.2.2.1 u.2.2.2.2.2.2.2.2.2.1 u.2.2.2.2.2.2.2.2.2.2.1 u.2.2.2.2.2.2.2.2.2.2.2.1 s12 i
            refine ⟨?_, ?_, ?_, g2.trans c4, g3.trans c5, c6, c7, g4⟩
            · rw [g1]; exact c1
            · rw [g1]; exact c2
            · rw [g1]; exact c3
        by_cases hi9 : i ≤ 0
        · rw [if_pos hi9]; exact key _ _
        · rw [if_neg hi9]; exact key _ _
theorem c_part_5 {tk nx : Int32 → Int32} {tc : Int32} {tf pf : Nat → Int32} (h : CH tk nx tc tf pf) : ∀ (k f n : Int32) (yj yo y1 y2 y3 y4 y5 : Nat → Int32) (yv yf ys : Int32), ¬ k < 0 → k < tc → ¬ n < 0 → ¬ 60 < n → TV pf tc f n (sP tk nx 5 (pf k.toNatClampNeg) n) (fX2_readPart_5 tc k f n tf pf yj yo y1 y2 y3 y4 y5 yv yf ys) := by
  intro k f n yj yo y1 y2 y3 y4 y5 yv yf ys k0 k1 n0 n6
  have := i_nn n0
  exact c_partL_5 h (fun _ _ _ _ _ _ _ _ _ _ _ _ _ _ => ⟨rfl, rfl⟩) (fun _ _ _ _ _ _ _ _ _ _ _ _ _ _ => ⟨rfl, rfl, rfl, rfl⟩) 61 _ false k n yv yf ys yj yo y1 y2 y3 y4 y5 0 k0 k1 n0 n6 (by decide) n0 (by omega) (by decide)
theorem c_testL_5 {tk nx : Int32 → Int32} {tc : Int32} {tf pf : Nat → Int32} (h : CH tk nx tc tf pf) {f : Int32} {E17 E42 E60 : Int32 → Int32 → Int32 → Int32 → Int32 → Int32 → (Nat → Int32) → (Nat → Int32) → (Nat → Int32) → (Nat → Int32) → (Nat → Int32) → (Nat → Int32) → (Nat → Int32) → Int32 → (Int32 × Int32 × Int32 × Int32 × Int32 × Int32 × (Nat → Int32) × (Nat → Int32) × (Nat → Int32) × (Nat → Int32) × (Nat → Int32) × (Nat → Int32) × (Nat → Int32) × Int32)} (h17 : ∀ a1 a2 a3 a4 a5 a6 a7 a8 a9 a10 a11 a12 a13 a14, (E17 a1 a2 a3 a4 a5 a6 a7 a8 a9 a10 a11 a12 a13 a14).2.1 = a2 ∧ (E17 a1 a2 a3 a4 a5 a6 a7 a8 a9 a10 a11 a12 a13 a14).2.2.2.2.2.2.2.2.2.2.2.2.2 = 0) (h42 : ∀ a1 a2 a3 a4 a5 a6 a7 a8 a9 a10 a11 a12 a13 a14, (E42 a1 a2 a3 a4 a5 a6 a7 a8 a9 a10 a11 a12 a13 a14).1 = a1 ∧ (E42 a1 a2 a3 a4 a5 a6 a7 a8 a9 a10 a11 a12 a13 a14).2.1 = a2 ∧ (E42 a1 a2 a3 a4 a5 a6 a7 a8 a9 a10 a11 a12 a13 a14).2.2.1 = a3 ∧ (E42 a1 a2 a3 a4 a5 a6 a7 a8 a9 a10 a11 a12 a13 a14).2.2.2.2.2.2.2.2.2.2.2.2.2 = 1) : ∀ (m N : Nat) (b : Bool) (k n v3 v4 v5 : Int32) (g6 g7 g8 g9 g10 g11 g12 : Nat → Int32) (i : Int32), ¬ k < 0 → k < tc → ¬ n < 0 → ¬ 60 < n → ¬ i < 0 → ¬ n < i → (60 - n.toInt).toNat < m → (401 - i.toInt).toNat < N → TV pf tc f n (slp tk nx (sP tk nx 5) 317 (-3) m b (pf k.toNatClampNeg) n) (fl_mX2_readTest_5_2 tc tf pf E17 E42 E60 N k f n v3 v4 v5 g6 g7 g8 g9 g10 g11 g12 i) := by
  intro m
  induction m with
  | zero => intro N b k n v3 v4 v5 g6 g7 g8 g9 g10 g11 g12 i k0 k1 n0 n6 i0 i6 hm hN; exact absurd hm (Nat.not_lt_zero _)
  | succ m ih =>
    intro N b k n v3 v4 v5 g6 g7 g8 g9 g10 g11 g12 i k0 k1 n0 n6 i0 i6 hm hN
    cases N with
    | zero => exact absurd hN (Nat.not_lt_zero _)
    | succ N =>
      show TV pf tc f n _ (fb_mX2_readTest_5_2 tc tf pf E17 E42 E60 (fl_mX2_readTest_5_2 tc tf pf E17 E42 E60 N) k f n v3 v4 v5 g6 g7 g8 g9 g10 g11 g12 i)
      unfold fb_mX2_readTest_5_2
      rw [if_neg (show ¬ 400 < i by grind)]
      simp only [bnd]
      have hv := c_part_5 h k f n g6 g7 g8 g9 g10 g11 g12 v3 v4 v5 k0 k1 n0 n6
      generalize fX2_readPart_5 tc k f n tf pf g6 g7 g8 g9 g10 g11 g12 v3 v4 v5 = u at hv ⊢
      rw [slp_s]
      generalize sP tk nx 5 (pf k.toNatClampNeg) n = r at hv ⊢
      cases r with
      | error e =>
        obtain ⟨h2, h7, hp⟩ := hv
        rw [if_pos h7]
        exact ⟨(h17 u.1 u.2.1 u.2.2.1 u.2.2.2.1 u.2.2.2.2.1 u.2.2.2.2.2.1 u.2.2.2.2.2.2.1 u.2.2.2.2.2.2.2.1 u.2.2.2.2.2.2.2.2.1 u.2.2.2.2.2.2.2.2.2.1 u.2.2.2.2.2.2.2.2.2.2.1 u.2.2.2.2.2.2.2.2.2.2.2.1 u.2.2.2.2.2.2.2.2.2.2.2.2.1 i).1.trans h2, (h17 u.1 u.2.1 u.2.2.1 u.2.2.2.1 u.2.2.2.2.1 u.2.2.2.2.2.1 u.2.2.2.2.2.2.1 u.2.2.2.2.2.2.2.1 u.2.2.2.2.2.2.2.2.1 u.2.2.2.2.2.2.2.2.2.1 u.2.2.2.2.2.2.2.2.2.2.1 u.2.2.2.2.2.2.2.2.2.2.2.1 u.2.2.2.2.2.2.2.2.2.2.2.2.1 i).2, hp⟩
      | ok w =>
        obtain ⟨c1, c2, c3, c4, c5, c6, c7, c8⟩ := hv
        rw [if_neg (show ¬ u.2.2.2.2.2.2.2.2.2.2.2.2.2 = 0 by rw [c8]; decide), CH_tok h c1 c2, c3]
        have hn : (w.2.1).toInt ≤ 60 ∧ n.toInt < (w.2.1).toInt := z_le60 c6 c7
        have hi := z_inc60 i6 c6 c7 i0
        have i6' : i.toInt ≤ n.toInt := by
          rw [Int32.lt_iff_toInt_lt] at i6
          omega
        have key : ∀ (s5 : Int32) (s12 : Nat → Int32), TV pf tc f n (if tk w.1 = 317 then exb (slp tk nx (sP tk nx 5) 317 (-3) m true (nx w.1) w.2.1) (fun x => .ok (x.1, x.2.1, (if b then w.2.2 ++ [((-3), [], [])] else w.2.2) ++ x.2.2)) else .ok (w.1, w.2.1, if b then w.2.2 ++ [((-3), [], [])] else w.2.2)) (if tk w.1 = 317 then fl_mX2_readTest_5_2 tc tf pf E17 E42 E60 N (u.1 + 1) u.2.1 u.2.2.1 u.2.2.2.1 u.2.2.2.2.1 s5 u.2.2.2.2.2.2.1 u.2.2.2.2.2.2.2.1 u.2.2.2.2.2.2.2.2.1 u.2.2.2.2.2.2.2.2.2.1 u.2.2.2.2.2.2.2.2.2.2.1 u.2.2.2.2.2.2.2.2.2.2.2.1 s12 (i + 1) else E42 u.1 u.2.1 u.2.2.1 u.2.2.2.1 u.2.2.2.2.1 s5 u.2.2.2.2.2.2.1 u.2.2.2.2.2.2.2.1 u.2.2.2.2.2.2.2.2.1 u.2.2.2.2.2.2.2.2.2.1 u.2.2.2.2.2.2.2.2.2.2.1 u.2.2.2.2.2.2.2.2.2.2.2.1 s12 i) := by
          intro s5 s12
          by_cases t : tk w.1 = 317
          · rw [if_pos t, if_pos t]
            obtain ⟨d0, d1, d2⟩ := CH_nx h c1 c2 c3 (fun q => absurd (t.symm.trans q) (by decide))
            have z := ih N true (u.1 + 1) w.2.1 u.2.2.2.1 u.2.2.2.2.1 s5 u.2.2.2.2.2.2.1 u.2.2.2.2.2.2.2.1 u.2.2.2.2.2.2.2.2.1 u.2.2.2.2.2.2.2.2.2.1 u.2.2.2.2.2.2.2.2.2.2.1 u.2.2.2.2.2.2.2.2.2.2.2.1 s12 (i + 1) d0 d1 (by grind) c7 (by grind) (by grind) (by omega) (by omega)
            rw [d2] at z
            rw [c4, c5]
            generalize slp tk nx (sP tk nx 5) 317 (-3) m true (nx w.1) w.2.1 = r at z ⊢
            cases r with
            | error e => exact z
            | ok x =>
              obtain ⟨z1, z2, z3, z4, z5, z6, z7, z8⟩ := z
              exact ⟨z1, z2, z3, z4, z5, (by show n < x.2.1; grind), z7, z8⟩
          · rw [if_neg t, if_neg t]
            obtain ⟨g1, g2, g3, g4⟩ := h42 u.1 u.2.1 u.2.2.1 u.2.2.2.1 u.2.2.2.2.1 s5 u.2.2.2.2.2.2.1 u.2.2.2.2.2.2.2.1 u.2.2.2.2.2.2.2.2.1 u.2.2.2.2.2.2.2.2.2.1 u.2.2.2.2.2.2.2.2.2.2.1 u.2.2.2.2.2.2.2.2.2.2.2.1 s12 i
            refine ⟨?_, ?_, ?_, g2.trans c4, g3.trans c5, c6, c7, g4⟩
            · rw [g1]; exact c1
            · rw [g1]; exact c2
            · rw [g1]; exact c3
        by_cases hi9 : i ≤ 0
        · rw [if_pos hi9]; exact key _ _
        · rw [if_neg hi9]; exact key _ _
theorem c_test_5 {tk nx : Int32 → Int32} {tc : Int32} {tf pf : Nat → Int32} (h : CH tk nx tc tf pf) : ∀ (k f n : Int32) (yj yo y1 y2 y3 y4 y5 : Nat → Int32) (yv yf ys : Int32), ¬ k < 0 → k < tc → ¬ n < 0 → ¬ 60 < n → TV pf tc f n (sT tk nx 5 (pf k.toNatClampNeg) n) (fX2_readTest_5 tc k f n tf pf yj yo y1 y2 y3 y4 y5 yv yf ys) := by
  intro k f n yj yo y1 y2 y3 y4 y5 yv yf ys k0 k1 n0 n6
  have := i_nn n0
  exact c_testL_5 h (fun _ _ _ _ _ _ _ _ _ _ _ _ _ _ => ⟨rfl, rfl⟩) (fun _ _ _ _ _ _ _ _ _ _ _ _ _ _ => ⟨rfl, rfl, rfl, rfl⟩) 61 _ false k n yv yf ys yj yo y1 y2 y3 y4 y5 0 k0 k1 n0 n6 (by decide) n0 (by omega) (by decide)
theorem c_fact_4 {tk nx : Int32 → Int32} {tc : Int32} {tf pf : Nat → Int32} (h : CH tk nx tc tf pf) : ∀ (k f n : Int32) (yj yo y1 y2 y3 y4 y5 : Nat → Int32) (yv yf ys : Int32), ¬ k < 0 → k < tc → ¬ n < 0 → ¬ 60 < n → TV pf tc f n (sF tk nx 6 (pf k.toNatClampNeg) n) (fX2_readFact_4 tc k f n tf pf yj yo y1 y2 y3 y4 y5 yv yf ys) := by
  intro k f n yj yo y1 y2 y3 y4 y5 yv yf ys k0 k1 n0 n6
  have hc := c_cmp h k f n yj yo y1 y2 y3 y4 y5 yv yf ys k0 k1 n0 n6
  unfold fX2_readFact_4
  simp only [bnd, CH_tok h k0 k1]
  show TV pf tc f n (sfc tk nx (sT tk nx 5) (sF tk nx 5) (pf k.toNatClampNeg) n) _
  unfold sfc
  by_cases a : tk (pf k.toNatClampNeg) = 319
  · rw [if_pos a, if_pos a]
    obtain ⟨b0, b1, b2⟩ := CH_nx h k0 k1 rfl (fun q => absurd (a.symm.trans q) (by decide))
    have hf := c_fact_5 h (k + 1) f n yj yo y1 y2 y3 y4 y5 yv yf ys b0 b1 n0 n6
    rw [b2] at hf
    generalize fX2_readFact_5 tc (k + 1) f n tf pf yj yo y1 y2 y3 y4 y5 yv yf ys = u at hf ⊢
    generalize sF tk nx 5 (nx (pf k.toNatClampNeg)) n = r at hf ⊢
    cases r with
    | error e => exact hf
    | ok w => exact hf
  · rw [if_neg a, if_neg a]
    by_cases b : tk (pf k.toNatClampNeg) = 91
    · rw [if_pos b, if_pos b]
      obtain ⟨b0, b1, b2⟩ := CH_nx h k0 k1 rfl (fun q => absurd (b.symm.trans q) (by decide))
      have hf := c_test_5 h (k + 1) f n yj yo y1 y2 y3 y4 y5 yv yf ys b0 b1 n0 n6
      rw [b2] at hf
      generalize fX2_readTest_5 tc (k + 1) f n tf pf yj yo y1 y2 y3 y4 y5 yv yf ys = u at hf ⊢
      generalize sT tk nx 5 (nx (pf k.toNatClampNeg)) n = r at hf ⊢
      cases r with
      | error e =>
        obtain ⟨h2, h7, hp⟩ := hf
        rw [if_pos h7]
        exact ⟨h2, rfl, hp⟩
      | ok w =>
        obtain ⟨c1, c2, c3, c4, c5, c6, c7, c8⟩ := hf
        rw [if_neg (show ¬ u.2.2.2.2.2.2.2.2.2.2.2.2.2 = 0 by rw [c8]; decide), CH_take h c1 c2 c3]
        show TV pf tc f n (if tk w.1 = 93 then _ else _) _
        by_cases t : tk w.1 = 93
        · rw [if_pos t, if_pos t]
          obtain ⟨d0, d1, d2⟩ := CH_nx h c1 c2 c3 (fun q => absurd (t.symm.trans q) (by decide))
          exact ⟨d0, d1, d2, c4, c5, c6, c7, rfl⟩
        · rw [if_neg t, if_neg t]
          exact ⟨rfl, rfl, CH_pos h c1 c2 c3 (by decide) (by decide)⟩
    · rw [if_neg b, if_neg b]
      generalize fX2_readComparison tc k f n tf pf yj yo y1 y2 y3 y4 y5 yv yf ys = u at hc ⊢
      exact hc
theorem c_partL_4 {tk nx : Int32 → Int32} {tc : Int32} {tf pf : Nat → Int32} (h : CH tk nx tc tf pf) {f : Int32} {E17 E42 E60 : Int32 → Int32 → Int32 → Int32 → Int32 → Int32 → (Nat → Int32) → (Nat → Int32) → (Nat → Int32) → (Nat → Int32) → (Nat → Int32) → (Nat → Int32) → (Nat → Int32) → Int32 → (Int32 × Int32 × Int32 × Int32 × Int32 × Int32 × (Nat → Int32) × (Nat → Int32) × (Nat → Int32) × (Nat → Int32) × (Nat → Int32) × (Nat → Int32) × (Nat → Int32) × Int32)} (h17 : ∀ a1 a2 a3 a4 a5 a6 a7 a8 a9 a10 a11 a12 a13 a14, (E17 a1 a2 a3 a4 a5 a6 a7 a8 a9 a10 a11 a12 a13 a14).2.1 = a2 ∧ (E17 a1 a2 a3 a4 a5 a6 a7 a8 a9 a10 a11 a12 a13 a14).2.2.2.2.2.2.2.2.2.2.2.2.2 = 0) (h42 : ∀ a1 a2 a3 a4 a5 a6 a7 a8 a9 a10 a11 a12 a13 a14, (E42 a1 a2 a3 a4 a5 a6 a7 a8 a9 a10 a11 a12 a13 a14).1 = a1 ∧ (E42 a1 a2 a3 a4 a5 a6 a7 a8 a9 a10 a11 a12 a13 a14).2.1 = a2 ∧ (E42 a1 a2 a3 a4 a5 a6 a7 a8 a9 a10 a11 a12 a13 a14).2.2.1 = a3 ∧ (E42 a1 a2 a3 a4 a5 a6 a7 a8 a9 a10 a11 a12 a13 a14).2.2.2.2.2.2.2.2.2.2.2.2.2 = 1) : ∀ (m N : Nat) (b : Bool) (k n v3 v4 v5 : Int32) (g6 g7 g8 g9 g10 g11 g12 : Nat → Int32) (i : Int32), ¬ k < 0 → k < tc → ¬ n < 0 → ¬ 60 < n → ¬ i < 0 → ¬ n < i → (60 - n.toInt).toNat < m → (401 - i.toInt).toNat < N → TV pf tc f n (slp tk nx (sF tk nx 6) 318 (-2) m b (pf k.toNatClampNeg) n) (fl_mX2_readPart_4_2 tc tf pf E17 E42 E60 N k f n v3 v4 v5 g6 g7 g8 g9 g10 g11 g12 i) := by
  intro m
  induction m with
  | zero => intro N b k n v3 v4 v5 g6 g7 g8 g9 g10 g11 g12 i k0 k1 n0 n6 i0 i6 hm hN; exact absurd hm (Nat.not_lt_zero _)
  | succ m ih =>
    intro N b k n v3 v4 v5 g6 g7 g8 g9 g10 g11 g12 i k0 k1 n0 n6 i0 i6 hm hN
    cases N with
    | zero => exact absurd hN (Nat.not_lt_zero _)
    | succ N =>
      show TV pf tc f n _ (fb_mX2_readPart_4_2 tc tf pf E17 E42 E60 (fl_mX2_readPart_4_2 tc tf pf E17 E42 E60 N) k f n v3 v4 v5 g6 g7 g8 g9 g10 g11 g12 i)
      unfold fb_mX2_readPart_4_2
      rw [if_neg (show ¬ 400 < i by grind)]
      simp only [bnd]
      have hv := c_fact_4 h k f n g6 g7 g8 g9 g10 g11 g12 v3 v4 v5 k0 k1 n0 n6
      generalize fX2_readFact_4 tc k f n tf pf g6 g7 g8 g9 g10 g11 g12 v3 v4 v5 = u at hv ⊢
      rw [slp_s]
      generalize sF tk nx 6 (pf k.toNatClampNeg) n = r at hv ⊢
      cases r with
      | error e =>
        obtain ⟨h2, h7, hp⟩ := hv
        rw [if_pos h7]
        exact ⟨(h17 u.1 u.2.1 u.2.2.1 u.2.2.2.1 u.2.2.2.2.1 u.2.2.2.2.2.1 u.2.2.2.2.2.2.1 u.2.2.2.2.2.2.2.1 u.2.2.2.2.2.2.2.2.1 u.2.2.2.2.2.2.2.2.2.1 u.2.2.2.2.2.2.2.2.2.2.1 u.2.2.2.2.2.2.2.2.2.2.2.1 u.2.2.2.2.2.2.2.2.2.2.2.2.1 i).1.trans h2, (h17 u.1 u.2.1 u.2.2.1 u.2.2.2.1 u.2.2.2.2.1 u.2.2.2.2.2.1 u.2.2.2.2.2.2.1 u.2.2.2.2.2.2.2.1 u.2.2.2.2.2.2.2.2.1 u.2.2.2.2.2.2.2.2.2.1 u.2.2.2.2.2.2.2.2.2.2.1 u.2.2.2.2.2.2.2.2.2.2.2.1 u.2.2.2.2.2.2.2.2.2.2.2.2.1 i).2, hp⟩
      | ok w =>
        obtain ⟨c1, c2, c3, c4, c5, c6, c7, c8⟩ := hv
        rw [if_neg (show ¬ u.2.2.2.2.2.2.2.2.2.2.2.2.2 = 0 by rw [c8]; decide), CH_tok h c1 c2, c3]
        have hn : (w.2.1).toInt ≤ 60 ∧ n.toInt < (w.2.1).toInt := z_le60 c6 c7
        have hi := z_inc60 i6 c6 c7 i0
        have i6' : i.toInt ≤ n.toInt := by
          rw [Int32.lt_iff_toInt_lt] at i6
          omega
        have key : ∀ (s5 : Int32) (s12 : Nat → Int32), TV pf tc f n (if tk w.1 = 318 then exb (slp tk nx (sF tk nx 6) 318 (-2) m true (nx w.1) w.2.1) (fun x => .ok (x.1, x.2.1, (if b then w.2.2 ++ [((-2), [], [])] else w.2.2) ++ x.2.2)) else .ok (w.1, w.2.1, if b then w.2.2 ++ [((-2), [], [])] else w.2.2)) (if tk w.1 = 318 then fl_mX2_readPart_4_2 tc tf pf E17 E42 E60 N (u.1 + 1) u.2.1 u.2.2.1 u.2.2.2.1 u.2.2.2.2.1 s5 u.2.2.2.2.2.2.1 u.2.2.2.2.2.2.2.1 u.2.2.2.2.2.2.2.2.1 u.2.2.2.2.2.2.2.2.2.1 u.2.2.2.2.2.2.2.2.2.2.1 u.2.2.2.2.2.2.2.2.2.2.2.1 s12 (i + 1) else E42 u.1 u.2.1 u.2.2.1 u.2.2.2.1 u.2.2.2.2.1 s5 u.2.2.2.2.2.2.1 u.2.2.2.2.2.2.2.1 u.2.2.2.2.2.2.2.2.1 u.2.2.2.2.2.2.2.2.2.1 u.2.2.2.2.2.2.2.2.2.2.1 u.2.2.2.2.2.2.2.2.2.2.2.1 s12 i) := by
          intro s5 s12
          by_cases t : tk w.1 = 318
          · rw [if_pos t, if_pos t]
            obtain ⟨d0, d1, d2⟩ := CH_nx h c1 c2 c3 (fun q => absurd (t.symm.trans q) (by decide))
            have z := ih N true (u.1 + 1) w.2.1 u.2.2.2.1 u.2.2.2.2.1 s5 u.2.2.2.2.2.2.1 u.2.2.2.2.2.2.2.1 u.2.2.2.2.2.2.2.2.1 u.2.2.2.2.2.2.2.2.2.1 u.2.2.2.2.2.2.2.2.2.2.1 u.2.2.2.2.2.2.2.2.2.2.2.1 s12 (i + 1) d0 d1 (by grind) c7 (by grind) (by grind) (by omega) (by omega)
            rw [d2] at z
            rw [c4, c5]
            generalize slp tk nx (sF tk nx 6) 318 (-2) m true (nx w.1) w.2.1 = r at z ⊢
            cases r with
            | error e => exact z
            | ok x =>
              obtain ⟨z1, z2, z3, z4, z5, z6, z7, z8⟩ := z
              exact ⟨z1, z2, z3, z4, z5, (by show n < x.2.1; grind), z7, z8⟩
          · rw [if_neg t, if_neg t]
            obtain ⟨g1, g2, g3, g4⟩ := h42 u.1 u.2.1 u.2.2.1 u.2.2.2.1 u.2.2.2.2.1 s5 u.2.2.2.2.2.2.1 u.2.2.2.2.2.2.2.1 u.2.2.2.2.2.2.2.2.1 u.2.2.2.2.2.2.2.2.2.1 u.2.2.2.2.2.2.2.2.2.2.1 u.2.2.2.2.2.2.2.2.2.2.2.1 s12 i
            refine ⟨?_, ?_, ?_, g2.trans c4, g3.trans c5, c6, c7, g4⟩
            · rw [g1]; exact c1
            · rw [g1]; exact c2
            · rw [g1]; exact c3
        by_cases hi9 : i ≤ 0
        · rw [if_pos hi9]; exact key _ _
        · rw [if_neg hi9]; exact key _ _
theorem c_part_4 {tk nx : Int32 → Int32} {tc : Int32} {tf pf : Nat → Int32} (h : CH tk nx tc tf pf) : ∀ (k f n : Int32) (yj yo y1 y2 y3 y4 y5 : Nat → Int32) (yv yf ys : Int32), ¬ k < 0 → k < tc → ¬ n < 0 → ¬ 60 < n → TV pf tc f n (sP tk nx 6 (pf k.toNatClampNeg) n) (fX2_readPart_4 tc k f n tf pf yj yo y1 y2 y3 y4 y5 yv yf ys) := by
  intro k f n yj yo y1 y2 y3 y4 y5 yv yf ys k0 k1 n0 n6
  have := i_nn n0
  exact c_partL_4 h (fun _ _ _ _ _ _ _ _ _ _ _ _ _ _ => ⟨rfl, rfl⟩) (fun _ _ _ _ _ _ _ _ _ _ _ _ _ _ => ⟨rfl, rfl, rfl, rfl⟩) 61 _ false k n yv yf ys yj yo y1 y2 y3 y4 y5 0 k0 k1 n0 n6 (by decide) n0 (by omega) (by decide)
theorem c_testL_4 {tk nx : Int32 → Int32} {tc : Int32} {tf pf : Nat → Int32} (h : CH tk nx tc tf pf) {f : Int32} {E17 E42 E60 : Int32 → Int32 → Int32 → Int32 → Int32 → Int32 → (Nat → Int32) → (Nat → Int32) → (Nat → Int32) → (Nat → Int32) → (Nat → Int32) → (Nat → Int32) → (Nat → Int32) → Int32 → (Int32 × Int32 × Int32 × Int32 × Int32 × Int32 × (Nat → Int32) × (Nat → Int32) × (Nat → Int32) × (Nat → Int32) × (Nat → Int32) × (Nat → Int32) × (Nat → Int32) × Int32)} (h17 : ∀ a1 a2 a3 a4 a5 a6 a7 a8 a9 a10 a11 a12 a13 a14, (E17 a1 a2 a3 a4 a5 a6 a7 a8 a9 a10 a11 a12 a13 a14).2.1 = a2 ∧ (E17 a1 a2 a3 a4 a5 a6 a7 a8 a9 a10 a11 a12 a13 a14).2.2.2.2.2.2.2.2.2.2.2.2.2 = 0) (h42 : ∀ a1 a2 a3 a4 a5 a6 a7 a8 a9 a10 a11 a12 a13 a14, (E42 a1 a2 a3 a4 a5 a6 a7 a8 a9 a10 a11 a12 a13 a14).1 = a1 ∧ (E42 a1 a2 a3 a4 a5 a6 a7 a8 a9 a10 a11 a12 a13 a14).2.1 = a2 ∧ (E42 a1 a2 a3 a4 a5 a6 a7 a8 a9 a10 a11 a12 a13 a14).2.2.1 = a3 ∧ (E42 a1 a2 a3 a4 a5 a6 a7 a8 a9 a10 a11 a12 a13 a14).2.2.2.2.2.2.2.2.2.2.2.2.2 = 1) : ∀ (m N : Nat) (b : Bool) (k n v3 v4 v5 : Int32) (g6 g7 g8 g9 g10 g11 g12 : Nat → Int32) (i : Int32), ¬ k < 0 → k < tc → ¬ n < 0 → ¬ 60 < n → ¬ i < 0 → ¬ n < i → (60 - n.toInt).toNat < m → (401 - i.toInt).toNat < N → TV pf tc f n (slp tk nx (sP tk nx 6) 317 (-3) m b (pf k.toNatClampNeg) n) (fl_mX2_readTest_4_2 tc tf pf E17 E42 E60 N k f n v3 v4 v5 g6 g7 g8 g9 g10 g11 g12 i) := by
  intro m
  induction m with
  | zero => intro N b k n v3 v4 v5 g6 g7 g8 g9 g10 g11 g12 i k0 k1 n0 n6 i0 i6 hm hN; exact absurd hm (Nat.not_lt_zero _)
  | succ m ih =>
    intro N b k n v3 v4 v5 g6 g7 g8 g9 g10 g11 g12 i k0 k1 n0 n6 i0 i6 hm hN
    cases N with
    | zero => exact absurd hN (Nat.not_lt_zero _)
    | succ N =>
      show TV pf tc f n _ (fb_mX2_readTest_4_2 tc tf pf E17 E42 E60 (fl_mX2_readTest_4_2 tc tf pf E17 E42 E60 N) k f n v3 v4 v5 g6 g7 g8 g9 g10 g11 g12 i)
      unfold fb_mX2_readTest_4_2
      rw [if_neg (show ¬ 400 < i by grind)]
      simp only [bnd]
      have hv := c_part_4 h k f n g6 g7 g8 g9 g10 g11 g12 v3 v4 v5 k0 k1 n0 n6
      generalize fX2_readPart_4 tc k f n tf pf g6 g7 g8 g9 g10 g11 g12 v3 v4 v5 = u at hv ⊢
      rw [slp_s]
      generalize sP tk nx 6 (pf k.toNatClampNeg) n = r at hv ⊢
      cases r with
      | error e =>
        obtain ⟨h2, h7, hp⟩ := hv
        rw [if_pos h7]
        exact ⟨(h17 u.1 u.2.1 u.2.2.1 u.2.2.2.1 u.2.2.2.2.1 u.2.2.2.2.2.1 u.2.2.2.2.2.2.1 u.2.2.2.2.2.2.2.1 u.2.2.2.2.2.2.2.2.1 u.2.2.2.2.2.2.2.2.2.1 u.2.2.2.2.2.2.2.2.2.2.1 u.2.2.2.2.2.2.2.2.2.2.2.1 u.2.2.2.2.2.2.2.2.2.2.2.2.1 i).1.trans h2, (h17 u.1 u.2.1 u.2.2.1 u.2.2.2.1 u.2.2.2.2.1 u.2.2.2.2.2.1 u.2.2.2.2.2.2.1 u.2.2.2.2.2.2.2.1 u.2.2.2.2.2.2.2.2.1 u.2.2.2.2.2.2.2.2.2.1 u.2.2.2.2.2.2.2.2.2.2.1 u.2.2.2.2.2.2.2.2.2.2.2.1 u.2.2.2.2.2.2.2.2.2.2.2.2.1 i).2, hp⟩
      | ok w =>
        obtain ⟨c1, c2, c3, c4, c5, c6, c7, c8⟩ := hv
        rw [if_neg (show ¬ u.2.2.2.2.2.2.2.2.2.2.2.2.2 = 0 by rw [c8]; decide), CH_tok h c1 c2, c3]
        have hn : (w.2.1).toInt ≤ 60 ∧ n.toInt < (w.2.1).toInt := z_le60 c6 c7
        have hi := z_inc60 i6 c6 c7 i0
        have i6' : i.toInt ≤ n.toInt := by
          rw [Int32.lt_iff_toInt_lt] at i6
          omega
        have key : ∀ (s5 : Int32) (s12 : Nat → Int32), TV pf tc f n (if tk w.1 = 317 then exb (slp tk nx (sP tk nx 6) 317 (-3) m true (nx w.1) w.2.1) (fun x => .ok (x.1, x.2.1, (if b then w.2.2 ++ [((-3), [], [])] else w.2.2) ++ x.2.2)) else .ok (w.1, w.2.1, if b then w.2.2 ++ [((-3), [], [])] else w.2.2)) (if tk w.1 = 317 then fl_mX2_readTest_4_2 tc tf pf E17 E42 E60 N (u.1 + 1) u.2.1 u.2.2.1 u.2.2.2.1 u.2.2.2.2.1 s5 u.2.2.2.2.2.2.1 u.2.2.2.2.2.2.2.1 u.2.2.2.2.2.2.2.2.1 u.2.2.2.2.2.2.2.2.2.1 u.2.2.2.2.2.2.2.2.2.2.1 u.2.2.2.2.2.2.2.2.2.2.2.1 s12 (i + 1) else E42 u.1 u.2.1 u.2.2.1 u.2.2.2.1 u.2.2.2.2.1 s5 u.2.2.2.2.2.2.1 u.2.2.2.2.2.2.2.1 u.2.2.2.2.2.2.2.2.1 u.2.2.2.2.2.2.2.2.2.1 u.2.2.2.2.2.2.2.2.2.2.1 u.2.2.2.2.2.2.2.2.2.2.2.1 s12 i) := by
          intro s5 s12
          by_cases t : tk w.1 = 317
          · rw [if_pos t, if_pos t]
            obtain ⟨d0, d1, d2⟩ := CH_nx h c1 c2 c3 (fun q => absurd (t.symm.trans q) (by decide))
            have z := ih N true (u.1 + 1) w.2.1 u.2.2.2.1 u.2.2.2.2.1 s5 u.2.2.2.2.2.2.1 u.2.2.2.2.2.2.2.1 u.2.2.2.2.2.2.2.2.1 u.2.2.2.2.2.2.2.2.2.1 u.2.2.2.2.2.2.2.2.2.2.1 u.2.2.2.2.2.2.2.2.2.2.2.1 s12 (i + 1) d0 d1 (by grind) c7 (by grind) (by grind) (by omega) (by omega)
            rw [d2] at z
            rw [c4, c5]
            generalize slp tk nx (sP tk nx 6) 317 (-3) m true (nx w.1) w.2.1 = r at z ⊢
            cases r with
            | error e => exact z
            | ok x =>
              obtain ⟨z1, z2, z3, z4, z5, z6, z7, z8⟩ := z
              exact ⟨z1, z2, z3, z4, z5, (by show n < x.2.1; grind), z7, z8⟩
          · rw [if_neg t, if_neg t]
            obtain ⟨g1, g2, g3, g4⟩ := h42 u.1 u.2.1 u.2.2.1 u.2.2.2.1 u.2.2.2.2.1 s5 u.2.2.2.2.2.2.1 u.2.2.2.2.2.2.2.1 u.2.2.2.2.2.2.2.2.1 u.2.2.2.2.2.2.2.2.2.1 u.2.2.2.2.2.2.2.2.2.2.1 u.2.2.2.2.2.2.2.2.2.2.2.1 s12 i
            refine ⟨?_, ?_, ?_, g2.trans c4, g3.trans c5, c6, c7, g4⟩
            · rw [g1]; exact c1
            · rw [g1]; exact c2
            · rw [g1]; exact c3
        by_cases hi9 : i ≤ 0
        · rw [if_pos hi9]; exact key _ _
        · rw [if_neg hi9]; exact key _ _
theorem c_test_4 {tk nx : Int32 → Int32} {tc : Int32} {tf pf : Nat → Int32} (h : CH tk nx tc tf pf) : ∀ (k f n : Int32) (yj yo y1 y2 y3 y4 y5 : Nat → Int32) (yv yf ys : Int32), ¬ k < 0 → k < tc → ¬ n < 0 → ¬ 60 < n → TV pf tc f n (sT tk nx 6 (pf k.toNatClampNeg) n) (fX2_readTest_4 tc k f n tf pf yj yo y1 y2 y3 y4 y5 yv yf ys) := by
  intro k f n yj yo y1 y2 y3 y4 y5 yv yf ys k0 k1 n0 n6
  have := i_nn n0
  exact c_testL_4 h (fun _ _ _ _ _ _ _ _ _ _ _ _ _ _ => ⟨rfl, rfl⟩) (fun _ _ _ _ _ _ _ _ _ _ _ _ _ _ => ⟨rfl, rfl, rfl, rfl⟩) 61 _ false k n yv yf ys yj yo y1 y2 y3 y4 y5 0 k0 k1 n0 n6 (by decide) n0 (by omega) (by decide)
theorem c_fact_3 {tk nx : Int32 → Int32} {tc : Int32} {tf pf : Nat → Int32} (h : CH tk nx tc tf pf) : ∀ (k f n : Int32) (yj yo y1 y2 y3 y4 y5 : Nat → Int32) (yv yf ys : Int32), ¬ k < 0 → k < tc → ¬ n < 0 → ¬ 60 < n → TV pf tc f n (sF tk nx 7 (pf k.toNatClampNeg) n) (fX2_readFact_3 tc k f n tf pf yj yo y1 y2 y3 y4 y5 yv yf ys) := by
  intro k f n yj yo y1 y2 y3 y4 y5 yv yf ys k0 k1 n0 n6
  have hc := c_cmp h k f n yj yo y1 y2 y3 y4 y5 yv yf ys k0 k1 n0 n6
  unfold fX2_readFact_3
  simp only [bnd, CH_tok h k0 k1]
  show TV pf tc f n (sfc tk nx (sT tk nx 6) (sF tk nx 6) (pf k.toNatClampNeg) n) _
  unfold sfc
  by_cases a : tk (pf k.toNatClampNeg) = 319
  · rw [if_pos a, if_pos a]
    obtain ⟨b0, b1, b2⟩ := CH_nx h k0 k1 rfl (fun q => absurd (a.symm.trans q) (by decide))
    have hf := c_fact_4 h (k + 1) f n yj yo y1 y2 y3 y4 y5 yv yf ys b0 b1 n0 n6
    rw [b2] at hf
    generalize fX2_readFact_4 tc (k + 1) f n tf pf yj yo y1 y2 y3 y4 y5 yv yf ys = u at hf ⊢
    generalize sF tk nx 6 (nx (pf k.toNatClampNeg)) n = r at hf ⊢
    cases r with
    | error e => exact hf
    | ok w => exact hf
  · rw [if_neg a, if_neg a]
    by_cases b : tk (pf k.toNatClampNeg) = 91
    · rw [if_pos b, if_pos b]
      obtain ⟨b0, b1, b2⟩ := CH_nx h k0 k1 rfl (fun q => absurd (b.symm.trans q) (by decide))
      have hf := c_test_4 h (k + 1) f n yj yo y1 y2 y3 y4 y5 yv yf ys b0 b1 n0 n6
      rw [b2] at hf
      generalize fX2_readTest_4 tc (k + 1) f n tf pf yj yo y1 y2 y3 y4 y5 yv yf ys = u at hf ⊢
      generalize sT tk nx 6 (nx (pf k.toNatClampNeg)) n = r at hf ⊢
      cases r with
      | error e =>
        obtain ⟨h2, h7, hp⟩ := hf
        rw [if_pos h7]
        exact ⟨h2, rfl, hp⟩
      | ok w =>
        obtain ⟨c1, c2, c3, c4, c5, c6, c7, c8⟩ := hf
        rw [if_neg (show ¬ u.2.2.2.2.2.2.2.2.2.2.2.2.2 = 0 by rw [c8]; decide), CH_take h c1 c2 c3]
        show TV pf tc f n (if tk w.1 = 93 then _ else _) _
        by_cases t : tk w.1 = 93
        · rw [if_pos t, if_pos t]
          obtain ⟨d0, d1, d2⟩ := CH_nx h c1 c2 c3 (fun q => absurd (t.symm.trans q) (by decide))
          exact ⟨d0, d1, d2, c4, c5, c6, c7, rfl⟩
        · rw [if_neg t, if_neg t]
          exact ⟨rfl, rfl, CH_pos h c1 c2 c3 (by decide) (by decide)⟩
    · rw [if_neg b, if_neg b]
      generalize fX2_readComparison tc k f n tf pf yj yo y1 y2 y3 y4 y5 yv yf ys = u at hc ⊢
      exact hc
theorem c_partL_3 {tk nx : Int32 → Int32} {tc : Int32} {tf pf : Nat → Int32} (h : CH tk nx tc tf pf) {f : Int32} {E17 E42 E60 : Int32 → Int32 → Int32 → Int32 → Int32 → Int32 → (Nat → Int32) → (Nat → Int32) → (Nat → Int32) → (Nat → Int32) → (Nat → Int32) → (Nat → Int32) → (Nat → Int32) → Int32 → (Int32 × Int32 × Int32 × Int32 × Int32 × Int32 × (Nat → Int32) × (Nat → Int32) × (Nat → Int32) × (Nat → Int32) × (Nat → Int32) × (Nat → Int32) × (Nat → Int32) × Int32)} (h17 : ∀ a1 a2 a3 a4 a5 a6 a7 a8 a9 a10 a11 a12 a13 a14, (E17 a1 a2 a3 a4 a5 a6 a7 a8 a9 a10 a11 a12 a13 a14).2.1 = a2 ∧ (E17 a1 a2 a3 a4 a5 a6 a7 a8 a9 a10 a11 a12 a13 a14).2.2.2.2.2.2.2.2.2.2.2.2.2 = 0) (h42 : ∀ a1 a2 a3 a4 a5 a6 a7 a8 a9 a10 a11 a12 a13 a14, (E42 a1 a2 a3 a4 a5 a6 a7 a8 a9 a10 a11 a12 a13 a14).1 = a1 ∧ (E42 a1 a2 a3 a4 a5 a6 a7 a8 a9 a10 a11 a12 a13 a14).2.1 = a2 ∧ (E42 a1 a2 a3 a4 a5 a6 a7 a8 a9 a10 a11 a12 a13 a14).2.2.1 = a3 ∧ (E42 a1 a2 a3 a4 a5 a6 a7 a8 a9 a10 a11 a12 a13 a14).2.2.2.2.2.2.2.2.2.2.2.2.2 = 1) : ∀ (m N : Nat) (b : Bool) (k n v3 v4 v5 : Int32) (g6 g7 g8 g9 g10 g11 g12 : Nat → Int32) (i : Int32), ¬ k < 0 → k < tc → ¬ n < 0 → ¬ 60 < n → ¬ i < 0 → ¬ n < i → (60 - n.toInt).toNat < m → (401 - i.toInt).toNat < N → TV pf tc f n (slp tk nx (sF tk nx 7) 318 (-2) m b (pf k.toNatClampNeg) n) (fl_mX2_readPart_3_2 tc tf pf E17 E42 E60 N k f n v3 v4 v5 g6 g7 g8 g9 g10 g11 g12 i) := by
  intro m
  induction m with
  | zero => intro N b k n v3 v4 v5 g6 g7 g8 g9 g10 g11 g12 i k0 k1 n0 n6 i0 i6 hm hN; exact absurd hm (Nat.not_lt_zero _)
  | succ m ih =>
    intro N b k n v3 v4 v5 g6 g7 g8 g9 g10 g11 g12 i k0 k1 n0 n6 i0 i6 hm hN
    cases N with
    | zero => exact absurd hN (Nat.not_lt_zero _)
    | succ N =>
      show TV pf tc f n _ (fb_mX2_readPart_3_2 tc tf pf E17 E42 E60 (fl_mX2_readPart_3_2 tc tf pf E17 E42 E60 N) k f n v3 v4 v5 g6 g7 g8 g9 g10 g11 g12 i)
      unfold fb_mX2_readPart_3_2
      rw [if_neg (show ¬ 400 < i by grind)]
      simp only [bnd]
      have hv := c_fact_3 h k f n g6 g7 g8 g9 g10 g11 g12 v3 v4 v5 k0 k1 n0 n6
      generalize fX2_readFact_3 tc k f n tf pf g6 g7 g8 g9 g10 g11 g12 v3 v4 v5 = u at hv ⊢
      rw [slp_s]
      generalize sF tk nx 7 (pf k.toNatClampNeg) n = r at hv ⊢
      cases r with
      | error e =>
        obtain ⟨h2, h7, hp⟩ := hv
        rw [if_pos h7]
        exact ⟨(h17 u.1 u.2.1 u.2.2.1 u.2.2.2.1 u.2.2.2.2.1 u.2.2.2.2.2.1 u.2.2.2.2.2.2.1 u.2.2.2.2.2.2.2.1 u.2.2.2.2.2.2.2.2.1 u.2.2.2.2.2.2.2.2.2.1 u.2.2.2.2.2.2.2.2.2.2.1 u.2.2.2.2.2.2.2.2.2.2.2.1 u.2.2.2.2.2.2.2.2.2.2.2.2.1 i).1.trans h2, (h17 u.1 u.2.1 u.2.2.1 u.2.2.2.1 u.2.2.2.2.1 u.2.2.2.2.2.1 u.2.2.2.2.2.2.1 u.2.2.2.2.2.2.2.1 u.2.2.2.2.2.2.2.2.1 u.2.2.2.2.2.2.2.2.2.1 u.2.2.2.2.2.2.2.2.2.2.1 u.2.2.2.2.2.2.2.2.2.2.2.1 u.2.2.2.2.2.2.2.2.2.2.2.2.1 i).2, hp⟩
      | ok w =>
        obtain ⟨c1, c2, c3, c4, c5, c6, c7, c8⟩ := hv
        rw [if_neg (show ¬ u.2.2.2.2.2.2.2.2.2.2.2.2.2 = 0 by rw [c8]; decide), CH_tok h c1 c2, c3]
        have hn : (w.2.1).toInt ≤ 60 ∧ n.toInt < (w.2.1).toInt := z_le60 c6 c7
        have hi := z_inc60 i6 c6 c7 i0
        have i6' : i.toInt ≤ n.toInt := by
          rw [Int32.lt_iff_toInt_lt] at i6
          omega
        have key : ∀ (s5 : Int32) (s12 : Nat → Int32), TV pf tc f n (if tk w.1 = 318 then exb (slp tk nx (sF tk nx 7) 318 (-2) m true (nx w.1) w.2.1) (fun x => .ok (x.1, x.2.1, (if b then w.2.2 ++ [((-2), [], [])] else w.2.2) ++ x.2.2)) else .ok (w.1, w.2.1, if b then w.2.2 ++ [((-2), [], [])] else w.2.2)) (if tk w.1 = 318 then fl_mX2_readPart_3_2 tc tf pf E17 E42 E60 N (u.1 + 1) u.2.1 u.2.2.1 u.2.2.2.1 u.2.2.2.2.1 s5 u.2.2.2.2.2.2.1 u.2.2.2.2.2.2.2.1 u.2.2.2.2.2.2.2.2.1 u.2.2.2.2.2.2.2.2.2.1 u.2.2.2.2.2.2.2.2.2.2.1 u.2.2.2.2.2.2.2.2.2.2.2.1 s12 (i + 1) else E42 u.1 u.2.1 u.2.2.1 u.2.2.2.1 u.2.2.2.2.1 s5 u.2.2.2.2.2.2.1 u.2.2.2.2.2.2.2.1 u.2.2.2.2.2.2.2.2.1 u.2.2.2.2.2.2.2.2.2.1 u.2.2.2.2.2.2.2.2.2.2.1 u.2.2.2.2.2.2.2.2.2.2.2.1 s12 i) := by
          intro s5 s12
          by_cases t : tk w.1 = 318
          · rw [if_pos t, if_pos t]
            obtain ⟨d0, d1, d2⟩ := CH_nx h c1 c2 c3 (fun q => absurd (t.symm.trans q) (by decide))
            have z := ih N true (u.1 + 1) w.2.1 u.2.2.2.1 u.2.2.2.2.1 s5 u.2.2.2.2.2.2.1 u.2.2.2.2.2.2.2.1 u.2.2.2.2.2.2.2.2.1 u.2.2.2.2.2.2.2.2.2.1 u.2.2.2.2.2.2.2.2.2.2.1 u.2.2.2.2.2.2.2.2.2.2.2.1 s12 (i + 1) d0 d1 (by grind) c7 (by grind) (by grind) (by omega) (by omega)
            rw [d2] at z
            rw [c4, c5]
            generalize slp tk nx (sF tk nx 7) 318 (-2) m true (nx w.1) w.2.1 = r at z ⊢
            cases r with
            | error e => exact z
            | ok x =>
              obtain ⟨z1, z2, z3, z4, z5, z6, z7, z8⟩ := z
              exact ⟨z1, z2, z3, z4, z5, (by show n < x.2.1; grind), z7, z8⟩
          · rw [if_neg t, if_neg t]
            obtain ⟨g1, g2, g3, g4⟩ := h42 u.1 u.2.1 u.2.2.1 u.2.2.2.1 u.2.2.2.2.1 s5 u.2.2.2.2.2.2.1 u.2.2.2.2.2.2.2.1 u.2.2.2.2.2.2.2.2.1 u.2.2.2.2.2.2.2.2.2.1 u.2.2.2.2.2.2.2.2.2.2.1 u.2.2.2.2.2.2.2.2.2.2.2.1 s12 i
            refine ⟨?_, ?_, ?_, g2.trans c4, g3.trans c5, c6, c7, g4⟩
            · rw [g1]; exact c1
            · rw [g1]; exact c2
            · rw [g1]; exact c3
        by_cases hi9 : i ≤ 0
        · rw [if_pos hi9]; exact key _ _
        · rw [if_neg hi9]; exact key _ _
theorem c_part_3 {tk nx : Int32 → Int32} {tc : Int32} {tf pf : Nat → Int32} (h : CH tk nx tc tf pf) : ∀ (k f n : Int32) (yj yo y1 y2 y3 y4 y5 : Nat → Int32) (yv yf ys : Int32), ¬ k < 0 → k < tc → ¬ n < 0 → ¬ 60 < n → TV pf tc f n (sP tk nx 7 (pf k.toNatClampNeg) n) (fX2_readPart_3 tc k f n tf pf yj yo y1 y2 y3 y4 y5 yv yf ys) := by
  intro k f n yj yo y1 y2 y3 y4 y5 yv yf ys k0 k1 n0 n6
  have := i_nn n0
  exact c_partL_3 h (fun _ _ _ _ _ _ _ _ _ _ _ _ _ _ => ⟨rfl, rfl⟩) (fun _ _ _ _ _ _ _ _ _ _ _ _ _ _ => ⟨rfl, rfl, rfl, rfl⟩) 61 _ false k n yv yf ys yj yo y1 y2 y3 y4 y5 0 k0 k1 n0 n6 (by decide) n0 (by omega) (by decide)
theorem c_testL_3 {tk nx : Int32 → Int32} {tc : Int32} {tf pf : Nat → Int32} (h : CH tk nx tc tf pf) {f : Int32} {E17 E42 E60 : Int32 → Int32 → Int32 → Int32 → Int32 → Int32 → (Nat → Int32) → (Nat → Int32) → (Nat → Int32) → (Nat → Int32) → (Nat → Int32) → (Nat → Int32) → (Nat → Int32) → Int32 → (Int32 × Int32 × Int32 × Int32 × Int32 × Int32 × (Nat → Int32) × (Nat → Int32) × (Nat → Int32) × (Nat → Int32) × (Nat → Int32) × (Nat → Int32) × (Nat → Int32) × Int32)} (h17 : ∀ a1 a2 a3 a4 a5 a6 a7 a8 a9 a10 a11 a12 a13 a14, (E17 a1 a2 a3 a4 a5 a6 a7 a8 a9 a10 a11 a12 a13 a14).2.1 = a2 ∧ (E17 a1 a2 a3 a4 a5 a6 a7 a8 a9 a10 a11 a12 a13 a14).2.2.2.2.2.2.2.2.2.2.2.2.2 = 0) (h42 : ∀ a1 a2 a3 a4 a5 a6 a7 a8 a9 a10 a11 a12 a13 a14, (E42 a1 a2 a3 a4 a5 a6 a7 a8 a9 a10 a11 a12 a13 a14).1 = a1 ∧ (E42 a1 a2 a3 a4 a5 a6 a7 a8 a9 a10 a11 a12 a13 a14).2.1 = a2 ∧ (E42 a1 a2 a3 a4 a5 a6 a7 a8 a9 a10 a11 a12 a13 a14).2.2.1 = a3 ∧ (E42 a1 a2 a3 a4 a5 a6 a7 a8 a9 a10 a11 a12 a13 a14).2.2.2.2.2.2.2.2.2.2.2.2.2 = 1) : ∀ (m N : Nat) (b : Bool) (k n v3 v4 v5 : Int32) (g6 g7 g8 g9 g10 g11 g12 : Nat → Int32) (i : Int32), ¬ k < 0 → k < tc → ¬ n < 0 → ¬ 60 < n → ¬ i < 0 → ¬ n < i → (60 - n.toInt).toNat < m → (401 - i.toInt).toNat < N → TV pf tc f n (slp tk nx (sP tk nx 7) 317 (-3) m b (pf k.toNatClampNeg) n) (fl_mX2_readTest_3_2 tc tf pf E17 E42 E60 N k f n v3 v4 v5 g6 g7 g8 g9 g10 g11 g12 i) := by
  intro m
  induction m with
  | zero => intro N b k n v3 v4 v5 g6 g7 g8 g9 g10 g11 g12 i k0 k1 n0 n6 i0 i6 hm hN; exact absurd hm (Nat.not_lt_zero _)
  | succ m ih =>
    intro N b k n v3 v4 v5 g6 g7 g8 g9 g10 g11 g12 i k0 k1 n0 n6 i0 i6 hm hN
    cases N with
    | zero => exact absurd hN (Nat.not_lt_zero _)
    | succ N =>
      show TV pf tc f n _ (fb_mX2_readTest_3_2 tc tf pf E17 E42 E60 (fl_mX2_readTest_3_2 tc tf pf E17 E42 E60 N) k f n v3 v4 v5 g6 g7 g8 g9 g10 g11 g12 i)
      unfold fb_mX2_readTest_3_2
      rw [if_neg (show ¬ 400 < i by grind)]
      simp only [bnd]
      have hv := c_part_3 h k f n g6 g7 g8 g9 g10 g11 g12 v3 v4 v5 k0 k1 n0 n6
      generalize fX2_readPart_3 tc k f n tf pf g6 g7 g8 g9 g10 g11 g12 v3 v4 v5 = u at hv ⊢
      rw [slp_s]
      generalize sP tk nx 7 (pf k.toNatClampNeg) n = r at hv ⊢
      cases r with
      | error e =>
        obtain ⟨h2, h7, hp⟩ := hv
        rw [if_pos h7]
        exact ⟨(h17 u.1 u.2.1 u.2.2.1 u.2.2.2.1 u.2.2.2.2.1 u.2.2.2.2.2.1 u.2.2.2.2.2.2.1 u.2.2.2.2.2.2.2.1 u.2.2.2.2.2.2.2.2.1 u.2.2.2.2.2.2.2.2.2.1 u.2.2.2.2.2.2.2.2.2.2.1 u.2.2.2.2.2.2.2.2.2.2.2.1 u.2.2.2.2.2.2.2.2.2.2.2.2.1 i).1.trans h2, (h17 u.1 u.2.1 u.2.2.1 u.2.2.2.1 u.2.2.2.2.1 u.2.2.2.2.2.1 u.2.2.2.2.2.2.1 u.2.2.2.2.2.2.2.1 u.2.2.2.2.2.2.2.2.1 u.2.2.2.2.2.2.2.2.2.1 u.2.2.2.2.2.2.2.2.2.2.1 u.2.2.2.2.2.2.2.2.2.2.2.1 u.2.2.2.2.2.2.2.2.2.2.2.2.1 i).2, hp⟩
      | ok w =>
        obtain ⟨c1, c2, c3, c4, c5, c6, c7, c8⟩ := hv
        rw [if_neg (show ¬ u.2.2.2.2.2.2.2.2.2.2.2.2.2 = 0 by rw [c8]; decide), CH_tok h c1 c2, c3]
        have hn : (w.2.1).toInt ≤ 60 ∧ n.toInt < (w.2.1).toInt := z_le60 c6 c7
        have hi := z_inc60 i6 c6 c7 i0
        have i6' : i.toInt ≤ n.toInt := by
          rw [Int32.lt_iff_toInt_lt] at i6
          omega
        have key : ∀ (s5 : Int32) (s12 : Nat → Int32), TV pf tc f n (if tk w.1 = 317 then exb (slp tk nx (sP tk nx 7) 317 (-3) m true (nx w.1) w.2.1) (fun x => .ok (x.1, x.2.1, (if b then w.2.2 ++ [((-3), [], [])] else w.2.2) ++ x.2.2)) else .ok (w.1, w.2.1, if b then w.2.2 ++ [((-3), [], [])] else w.2.2)) (if tk w.1 = 317 then fl_mX2_readTest_3_2 tc tf pf E17 E42 E60 N (u.1 + 1) u.2.1 u.2.2.1 u.2.2.2.1 u.2.2.2.2.1 s5 u.2.2.2.2.2.2.1 u.2.2.2.2.2.2.2.1 u.2.2.2.2.2.2.2.2.1 u.2.2.2.2.2.2.2.2.2.1 u.2.2.2.2.2.2.2.2.2.2.1 u.2.2.2.2.2.2.2.2.2.2.2.1 s12 (i + 1) else E42 u.1 u.2.1 u.2.2.1 u.2.2.2.1 u.2.2.2.2.1 s5 u.2.2.2.2.2.2.1 u.2.2.2.2.2.2.2.1 u.2.2.2.2.2.2.2.2.1 u.2.2.2.2.2.2.2.2.2.1 u.2.2.2.2.2.2.2.2.2.2.1 u.2.2.2.2.2.2.2.2.2.2.2.1 s12 i) := by
          intro s5 s12
          by_cases t : tk w.1 = 317
          · rw [if_pos t, if_pos t]
            obtain ⟨d0, d1, d2⟩ := CH_nx h c1 c2 c3 (fun q => absurd (t.symm.trans q) (by decide))
            have z := ih N true (u.1 + 1) w.2.1 u.2.2.2.1 u.2.2.2.2.1 s5 u.2.2.2.2.2.2.1 u.2.2.2.2.2.2.2.1 u.2.2.2.2.2.2.2.2.1 u.2.2.2.2.2.2.2.2.2.1 u.2.2.2.2.2.2.2.2.2.2.1 u.2.2.2.2.2.2.2.2.2.2.2.1 s12 (i + 1) d0 d1 (by grind) c7 (by grind) (by grind) (by omega) (by omega)
            rw [d2] at z
            rw [c4, c5]
            generalize slp tk nx (sP tk nx 7) 317 (-3) m true (nx w.1) w.2.1 = r at z ⊢
            cases r with
            | error e => exact z
            | ok x =>
              obtain ⟨z1, z2, z3, z4, z5, z6, z7, z8⟩ := z
              exact ⟨z1, z2, z3, z4, z5, (by show n < x.2.1; grind), z7, z8⟩
          · rw [if_neg t, if_neg t]
            obtain ⟨g1, g2, g3, g4⟩ := h42 u.1 u.2.1 u.2.2.1 u.2.2.2.1 u.2.2.2.2.1 s5 u.2.2.2.2.2.2.1 u.2.2.2.2.2.2.2.1 u.2.2.2.2.2.2.2.2.1 u.2.2.2.2.2.2.2.2.2.1 u.2.2.2.2.2.2.2.2.2.2.1 u.2.2.2.2.2.2.2.2.2.2.2.1 s12 i
            refine ⟨?_, ?_, ?_, g2.trans c4, g3.trans c5, c6, c7, g4⟩
            · rw [g1]; exact c1
            · rw [g1]; exact c2
            · rw [g1]; exact c3
        by_cases hi9 : i ≤ 0
        · rw [if_pos hi9]; exact key _ _
        · rw [if_neg hi9]; exact key _ _
theorem c_test_3 {tk nx : Int32 → Int32} {tc : Int32} {tf pf : Nat → Int32} (h : CH tk nx tc tf pf) : ∀ (k f n : Int32) (yj yo y1 y2 y3 y4 y5 : Nat → Int32) (yv yf ys : Int32), ¬ k < 0 → k < tc → ¬ n < 0 → ¬ 60 < n → TV pf tc f n (sT tk nx 7 (pf k.toNatClampNeg) n) (fX2_readTest_3 tc k f n tf pf yj yo y1 y2 y3 y4 y5 yv yf ys) := by
  intro k f n yj yo y1 y2 y3 y4 y5 yv yf ys k0 k1 n0 n6
  have := i_nn n0
  exact c_testL_3 h (fun _ _ _ _ _ _ _ _ _ _ _ _ _ _ => ⟨rfl, rfl⟩) (fun _ _ _ _ _ _ _ _ _ _ _ _ _ _ => ⟨rfl, rfl, rfl, rfl⟩) 61 _ false k n yv yf ys yj yo y1 y2 y3 y4 y5 0 k0 k1 n0 n6 (by decide) n0 (by omega) (by decide)
theorem c_fact_2 {tk nx : Int32 → Int32} {tc : Int32} {tf pf : Nat → Int32} (h : CH tk nx tc tf pf) : ∀ (k f n : Int32) (yj yo y1 y2 y3 y4 y5 : Nat → Int32) (yv yf ys : Int32), ¬ k < 0 → k < tc → ¬ n < 0 → ¬ 60 < n → TV pf tc f n (sF tk nx 8 (pf k.toNatClampNeg) n) (fX2_readFact_2 tc k f n tf pf yj yo y1 y2 y3 y4 y5 yv yf ys) := by
  intro k f n yj yo y1 y2 y3 y4 y5 yv yf ys k0 k1 n0 n6
  have hc := c_cmp h k f n yj yo y1 y2 y3 y4 y5 yv yf ys k0 k1 n0 n6
  unfold fX2_readFact_2
  simp only [bnd, CH_tok h k0 k1]
  show TV pf tc f n (sfc tk nx (sT tk nx 7) (sF tk nx 7) (pf k.toNatClampNeg) n) _
  unfold sfc
  by_cases a : tk (pf k.toNatClampNeg) = 319
  · rw [if_pos a, if_pos a]
    obtain ⟨b0, b1, b2⟩ := CH_nx h k0 k1 rfl (fun q => absurd (a.symm.trans q) (by decide))
    have hf := c_fact_3 h (k + 1) f n yj yo y1 y2 y3 y4 y5 yv yf ys b0 b1 n0 n6
    rw [b2] at hf
    generalize fX2_readFact_3 tc (k + 1) f n tf pf yj yo y1 y2 y3 y4 y5 yv yf ys = u at hf ⊢
    generalize sF tk nx 7 (nx (pf k.toNatClampNeg)) n = r at hf ⊢
    cases r with
    | error e => exact hf
    | ok w => exact hf
  · rw [if_neg a, if_neg a]
    by_cases b : tk (pf k.toNatClampNeg) = 91
    · rw [if_pos b, if_pos b]
      obtain ⟨b0, b1, b2⟩ := CH_nx h k0 k1 rfl (fun q => absurd (b.symm.trans q) (by decide))
      have hf := c_test_3 h (k + 1) f n yj yo y1 y2 y3 y4 y5 yv yf ys b0 b1 n0 n6
      rw [b2] at hf
      generalize fX2_readTest_3 tc (k + 1) f n tf pf yj yo y1 y2 y3 y4 y5 yv yf ys = u at hf ⊢
      generalize sT tk nx 7 (nx (pf k.toNatClampNeg)) n = r at hf ⊢
      cases r with
      | error e =>
        obtain ⟨h2, h7, hp⟩ := hf
        rw [if_pos h7]
        exact ⟨h2, rfl, hp⟩
      | ok w =>
        obtain ⟨c1, c2, c3, c4, c5, c6, c7, c8⟩ := hf
        rw [if_neg (show ¬ u.2.2.2.2.2.2.2.2.2.2.2.2.2 = 0 by rw [c8]; decide), CH_take h c1 c2 c3]
        show TV pf tc f n (if tk w.1 = 93 then _ else _) _
        by_cases t : tk w.1 = 93
        · rw [if_pos t, if_pos t]
          obtain ⟨d0, d1, d2⟩ := CH_nx h c1 c2 c3 (fun q => absurd (t.symm.trans q) (by decide))
          exact ⟨d0, d1, d2, c4, c5, c6, c7, rfl⟩
        · rw [if_neg t, if_neg t]
          exact ⟨rfl, rfl, CH_pos h c1 c2 c3 (by decide) (by decide)⟩
    · rw [if_neg b, if_neg b]
      generalize fX2_readComparison tc k f n tf pf yj yo y1 y2 y3 y4 y5 yv yf ys = u at hc ⊢
      exact hc
theorem c_partL_2 {tk nx : Int32 → Int32} {tc : Int32} {tf pf : Nat → Int32} (h : CH tk nx tc tf pf) {f : Int32} {E17 E42 E60 : Int32 → Int32 → Int32 → Int32 → Int32 → Int32 → (Nat → Int32) → (Nat → Int32) → (Nat → Int32) → (Nat → Int32) → (Nat → Int32) → (Nat → Int32) → (Nat → Int32) → Int32 → (Int32 × Int32 × Int32 × Int32 × Int32 × Int32 × (Nat → Int32) × (Nat → Int32) × (Nat → Int32) × (Nat → Int32) × (Nat → Int32) × (Nat → Int32) × (Nat → Int32) × Int32)} (h17 : ∀ a1 a2 a3 a4 a5 a6 a7 a8 a9 a10 a11 a12 a13 a14, (E17 a1 a2 a3 a4 a5 a6 a7 a8 a9 a10 a11 a12 a13 a14).2.1 = a2 ∧ (E17 a1 a2 a3 a4 a5 a6 a7 a8 a9 a10 a11 a12 a13 a14).2.2.2.2.2.2.2.2.2.2.2.2.2 = 0) (h42 : ∀ a1 a2 a3 a4 a5 a6 a7 a8 a9 a10 a11 a12 a13 a14, (E42 a1 a2 a3 a4 a5 a6 a7 a8 a9 a10 a11 a12 a13 a14).1 = a1 ∧ (E42 a1 a2 a3 a4 a5 a6 a7 a8 a9 a10 a11 a12 a13 a14).2.1 = a2 ∧ (E42 a1 a2 a3 a4 a5 a6 a7 a8 a9 a10 a11 a12 a13 a14).2.2.1 = a3 ∧ (E42 a1 a2 a3 a4 a5 a6 a7 a8 a9 a10 a11 a12 a13 a14).2.2.2.2.2.2.2.2.2.2.2.2.2 = 1) : ∀ (m N : Nat) (b : Bool) (k n v3 v4 v5 : Int32) (g6 g7 g8 g9 g10 g11 g12 : Nat → Int32) (i : Int32), ¬ k < 0 → k < tc → ¬ n < 0 → ¬ 60 < n → ¬ i < 0 → ¬ n < i → (60 - n.toInt).toNat < m → (401 - i.toInt).toNat < N → TV pf tc f n (slp tk nx (sF tk nx 8) 318 (-2) m b (pf k.toNatClampNeg) n) (fl_mX2_readPart_2_2 tc tf pf E17 E42 E60 N k f n v3 v4 v5 g6 g7 g8 g9 g10 g11 g12 i) := by
  intro m
  induction m with
  | zero => intro N b k n v3 v4 v5 g6 g7 g8 g9 g10 g11 g12 i k0 k1 n0 n6 i0 i6 hm hN; exact absurd hm (Nat.not_lt_zero _)
  | succ m ih =>
    intro N b k n v3 v4 v5 g6 g7 g8 g9 g10 g11 g12 i k0 k1 n0 n6 i0 i6 hm hN
    cases N with
    | zero => exact absurd hN (Nat.not_lt_zero _)
    | succ N =>
      show TV pf tc f n _ (fb_mX2_readPart_2_2 tc tf pf E17 E42 E60 (fl_mX2_readPart_2_2 tc tf pf E17 E42 E60 N) k f n v3 v4 v5 g6 g7 g8 g9 g10 g11 g12 i)
      unfold fb_mX2_readPart_2_2
      rw [if_neg (show ¬ 400 < i by grind)]
      simp only [bnd]
      have hv := c_fact_2 h k f n g6 g7 g8 g9 g10 g11 g12 v3 v4 v5 k0 k1 n0 n6
      generalize fX2_readFact_2 tc k f n tf pf g6 g7 g8 g9 g10 g11 g12 v3 v4 v5 = u at hv ⊢
      rw [slp_s]
      generalize sF tk nx 8 (pf k.toNatClampNeg) n = r at hv ⊢
      cases r with
      | error e =>
        obtain ⟨h2, h7, hp⟩ := hv
        rw [if_pos h7]
        exact ⟨(h17 u.1 u.2.1 u.2.2.1 u.2.2.2.1 u.2.2.2.2.1 u.2.2.2.2.2.1 u.2.2.2.2.2.2.1 u.2.2.2.2.2.2.2.1 u.2.2.2.2.2.2.2.2.1 u.2.2.2.2.2.2.2.2.2.1 u.2.2.2.2.2.2.2.2.2.2.1 u.2.2.2.2.2.2.2.2.2.2.2.1 u.2.2.2.2.2.2.2.2.2.2.2.2.1 i).1.trans h2, (h17 u.1 u.2.1 u.2.2.1 u.2.2.2.1 u.2.2.2.2.1 u.2.2.2.2.2.1 u.2.2.2.2.2.2.1 u.2.2.2.2.2.2.2.1 u.2.2.2.2.2.2.2.2.1 u.2.2.2.2.2.2.2.2.2.1 u.2.2.2.2.2.2.2.2.2.2.1 u.2.2.2.2.2.2.2.2.2.2.2.1 u.2.2.2.2.2.2.2.2.2.2.2.2.1 i).2, hp⟩
      | ok w =>
        obtain ⟨c1, c2, c3, c4, c5, c6, c7, c8⟩ := hv
        rw [if_neg (show ¬ u.2.2.2.2.2.2.2.2.2.2.2.2.2 = 0 by rw [c8]; decide), CH_tok h c1 c2, c3]
        have hn : (w.2.1).toInt ≤ 60 ∧ n.toInt < (w.2.1).toInt := z_le60 c6 c7
        have hi := z_inc60 i6 c6 c7 i0
        have i6' : i.toInt ≤ n.toInt := by
          rw [Int32.lt_iff_toInt_lt] at i6
          omega
        have key : ∀ (s5 : Int32) (s12 : Nat → Int32), TV pf tc f n (if tk w.1 = 318 then exb (slp tk nx (sF tk nx 8) 318 (-2) m true (nx w.1) w.2.1) (fun x => .ok (x.1, x.2.1, (if b then w.2.2 ++ [((-2), [], [])] else w.2.2) ++ x.2.2)) else .ok (w.1, w.2.1, if b then w.2.2 ++ [((-2), [], [])] else w.2.2)) (if tk w.1 = 318 then fl_mX2_readPart_2_2 tc tf pf E17 E42 E60 N (u.1 + 1) u.2.1 u.2.2.1 u.2.2.2.1 u.2.2.2.2.1 s5 u.2.2.2.2.2.2.1 u.2.2.2.2.2.2.2.1 u.2.2.2.2.2.2.2.2.1 u.2.2.2.2.2.2.2.2.2.1 u.2.2.2.2.2.2.2.2.2.2.1 u.2.2.2.2.2.2.2.2.2.2.2.1 s12 (i + 1) else E42 u.1 u.2.1 u.2.2.1 u.2.2.2.1 u.2.2.2.2.1 s5 u.2.2.2.2.2.2.1 u.2.2.2.2.2.2.2.1 u.2.2.2.2.2.2.2.2.1 u.2.2.2.2.2.2.2.2.2.1 u.2.2.2.2.2.2.2.2.2.2.1 u.2.2.2.2.2.2.2.2.2.2.2.1 s12 i) := by
          intro s5 s12
          by_cases t : tk w.1 = 318
          · rw [if_pos t, if_pos t]
            obtain ⟨d0, d1, d2⟩ := CH_nx h c1 c2 c3 (fun q => absurd (t.symm.trans q) (by decide))
            have z := ih N true (u.1 + 1) w.2.1 u.2.2.2.1 u.2.2.2.2.1 s5 u.2.2.2.2.2.2.1 u.2.2.2.2.2.2.2.1 u.2.2.2.2.2.2.2.2.1 u.2.2.2.2.2.2.2.2.2.1 u.2.2.2.2.2.2.2.2.2.2.1 u.2.2.2.2.2.2.2.2.2.2.2.1 s12 (i + 1) d0 d1 (by grind) c7 (by grind) (by grind) (by omega) (by omega)
            rw [d2] at z
            rw [c4, c5]
            generalize slp tk nx (sF tk nx 8) 318 (-2) m true (nx w.1) w.2.1 = r at z ⊢
            cases r with
            | error e => exact z
            | ok x =>
              obtain ⟨z1, z2, z3, z4, z5, z6, z7, z8⟩ := z
              exact ⟨z1, z2, z3, z4, z5, (by show n < x.2.1; grind), z7, z8⟩
          · rw [if_neg t, if_neg t]
            obtain ⟨g1, g2, g3, g4⟩ := h42 u.1 u.2.1 u.2.2.1 u.2.2.2.1 u.2.2.2.2.1 s5 u.2.2.2.2.2.2.1 u.2.2.2.2.2.2.2.1 u.2.2.2.2.2.2.2.2.1 u.2.2.2.2.2.2.2.2.2.1 u.2.2.2.2.2.2.2.2.2.2.1 u.2.2.2.2.2.2.2.2.2.2.2.1 s12 i
            refine ⟨?_, ?_, ?_, g2.trans c4, g3.trans c5, c6, c7, g4⟩
            · rw [g1]; exact c1
            · rw [g1]; exact c2
            · rw [g1]; exact c3
        by_cases hi9 : i ≤ 0
        · rw [if_pos hi9]; exact key _ _
        · rw [if_neg hi9]; exact key _ _
theorem c_part_2 {tk nx : Int32 → Int32} {tc : Int32} {tf pf : Nat → Int32} (h : CH tk nx tc tf pf) : ∀ (k f n : Int32) (yj yo y1 y2 y3 y4 y5 : Nat → Int32) (yv yf ys : Int32), ¬ k < 0 → k < tc → ¬ n < 0 → ¬ 60 < n → TV pf tc f n (sP tk nx 8 (pf k.toNatClampNeg) n) (fX2_readPart_2 tc k f n tf pf yj yo y1 y2 y3 y4 y5 yv yf ys) := by
  intro k f n yj yo y1 y2 y3 y4 y5 yv yf ys k0 k1 n0 n6
  have := i_nn n0
  exact c_partL_2 h (fun _ _ _ _ _ _ _ _ _ _ _ _ _ _ => ⟨rfl, rfl⟩) (fun _ _ _ _ _ _ _ _ _ _ _ _ _ _ => ⟨rfl, rfl, rfl, rfl⟩) 61 _ false k n yv yf ys yj yo y1 y2 y3 y4 y5 0 k0 k1 n0 n6 (by decide) n0 (by omega) (by decide)
theorem c_testL_2 {tk nx : Int32 → Int32} {tc : Int32} {tf pf : Nat → Int32} (h : CH tk nx tc tf pf) {f : Int32} {E17 E42 E60 : Int32 → Int32 → Int32 → Int32 → Int32 → Int32 → (Nat → Int32) → (Nat → Int32) → (Nat → Int32) → (Nat → Int32) → (Nat → Int32) → (Nat → Int32) → (Nat → Int32) → Int32 → (Int32 × Int32 × Int32 × Int32 × Int32 × Int32 × (Nat → Int32) × (Nat → Int32) × (Nat → Int32) × (Nat → Int32) × (Nat → Int32) × (Nat → Int32) × (Nat → Int32) × Int32)} (h17 : ∀ a1 a2 a3 a4 a5 a6 a7 a8 a9 a10 a11 a12 a13 a14, (E17 a1 a2 a3 a4 a5 a6 a7 a8 a9 a10 a11 a12 a13 a14).2.1 = a2 ∧ (E17 a1 a2 a3 a4 a5 a6 a7 a8 a9 a10 a11 a12 a13 a14).2.2.2.2.2.2.2.2.2.2.2.2.2 = 0) (h42 : ∀ a1 a2 a3 a4 a5 a6 a7 a8 a9 a10 a11 a12 a13 a14, (E42 a1 a2 a3 a4 a5 a6 a7 a8 a9 a10 a11 a12 a13 a14).1 = a1 ∧ (E42 a1 a2 a3 a4 a5 a6 a7 a8 a9 a10 a11 a12 a13 a14).2.1 = a2 ∧ (E42 a1 a2 a3 a4 a5 a6 a7 a8 a9 a10 a11 a12 a13 a14).2.2.1 = a3 ∧ (E42 a1 a2 a3 a4 a5 a6 a7 a8 a9 a10 a11 a12 a13 a14).2.2.2.2.2.2.2.2.2.2.2.2.2 = 1) : ∀ (m N : Nat) (b : Bool) (k n v3 v4 v5 : Int32) (g6 g7 g8 g9 g10 g11 g12 : Nat → Int32) (i : Int32), ¬ k < 0 → k < tc → ¬ n < 0 → ¬ 60 < n → ¬ i < 0 → ¬ n < i → (60 - n.toInt).toNat < m → (401 - i.toInt).toNat < N → TV pf tc f n (slp tk nx (sP tk nx 8) 317 (-3) m b (pf k.toNatClampNeg) n) (fl_mX2_readTest_2_2 tc tf pf E17 E42 E60 N k f n v3 v4 v5 g6 g7 g8 g9 g10 g11 g12 i) := by
  intro m
  induction m with
  | zero => intro N b k n v3 v4 v5 g6 g7 g8 g9 g10 g11 g12 i k0 k1 n0 n6 i0 i6 hm hN; exact absurd hm (Nat.not_lt_zero _)
  | succ m ih =>
    intro N b k n v3 v4 v5 g6 g7 g8 g9 g10 g11 g12 i k0 k1 n0 n6 i0 i6 hm hN
    cases N with
    | zero => exact absurd hN (Nat.not_lt_zero _)
    | succ N =>
      show TV pf tc f n _ (fb_mX2_readTest_2_2 tc tf pf E17 E42 E60 (fl_mX2_readTest_2_2 tc tf pf E17 E42 E60 N) k f n v3 v4 v5 g6 g7 g8 g9 g10 g11 g12 i)
      unfold fb_mX2_readTest_2_2
      rw [if_neg (show ¬ 400 < i by grind)]
      simp only [bnd]
      have hv := c_part_2 h k f n g6 g7 g8 g9 g10 g11 g12 v3 v4 v5 k0 k1 n0 n6
      generalize fX2_readPart_2 tc k f n tf pf g6 g7 g8 g9 g10 g11 g12 v3 v4 v5 = u at hv ⊢
      rw [slp_s]
      generalize sP tk nx 8 (pf k.toNatClampNeg) n = r at hv ⊢
      cases r with
      | error e =>
        obtain ⟨h2, h7, hp⟩ := hv
        rw [if_pos h7]
        exact ⟨(h17 u.1 u.2.1 u.2.2.1 u.2.2.2.1 u.2.2.2.2.1 u.2.2.2.2.2.1 u.2.2.2.2.2.2.1 u.2.2.2.2.2.2.2.1 u.2.2.2.2.2.2.2.2.1 u.2.2.2.2.2.2.2.2.2.1 u.2.2.2.2.2.2.2.2.2.2.1 u.2.2.2.2.2.2.2.2.2.2.2.1 u.2.2.2.2.2.2.2.2.2.2.2.2.1 i).1.trans h2, (h17 u.1 u.2.1 u.2.2.1 u.2.2.2.1 u.2.2.2.2.1 u.2.2.2.2.2.1 u.2.2.2.2.2.2.1 u.2.2.2.2.2.2.2.1 u.2.2.2.2.2.2.2.2.1 u.2.2.2.2.2.2.2.2.2.1 u.2.2.2.2.2.2.2.2.2.2.1 u.2.2.2.2.2.2.2.2.2.2.2.1 u.2.2.2.2.2.2.2.2.2.2.2.2.1 i).2, hp⟩
      | ok w =>
        obtain ⟨c1, c2, c3, c4, c5, c6, c7, c8⟩ := hv
        rw [if_neg (show ¬ u.2.2.2.2.2.2.2.2.2.2.2.2.2 = 0 by rw [c8]; decide), CH_tok h c1 c2, c3]
        have hn : (w.2.1).toInt ≤ 60 ∧ n.toInt < (w.2.1).toInt := z_le60 c6 c7
        have hi := z_inc60 i6 c6 c7 i0
        have i6' : i.toInt ≤ n.toInt := by
          rw [Int32.lt_iff_toInt_lt] at i6
          omega
        have key : ∀ (s5 : Int32) (s12 : Nat → Int32), TV pf tc f n (if tk w.1 = 317 then exb (slp tk nx (sP tk nx 8) 317 (-3) m true (nx w.1) w.2.1) (fun x => .ok (x.1, x.2.1, (if b then w.2.2 ++ [((-3), [], [])] else w.2.2) ++ x.2.2)) else .ok (w.1, w.2.1, if b then w.2.2 ++ [((-3), [], [])] else w.2.2)) (if tk w.1 = 317 then fl_mX2_readTest_2_2 tc tf pf E17 E42 E60 N (u.1 + 1) u.2.1 u.2.2.1 u.2.2.2.1 u.2.2.2.2.1 s5 u.2.2.2.2.2.2.1 u.2.2.2.2.2.2.2.1 u.2.2.2.2.2.2.2.2.1 u.2.2.2.2.2.2.2.2.2.1 u.2.2.2.2.2.2.2.2.2.2.1 u.2.2.2.2.2.2.2.2.2.2.2.1 s12 (i + 1) else E42 u.1 u.2.1 u.2.2.1 u.2.2.2.1 u.2.2.2.2.1 s5 u.2.2.2.2.2.2.1 u.2.2.2.2.2.2.2.1 u.2.2.2.2.2.2.2.2.1 u.2.2.2.2.2.2.2.2.2.1 u.2.2.2.2.2.2.2.2.2.2.1 u.2.2.2.2.2.2.2.2.2.2.2.1 s12 i) := by
          intro s5 s12
          by_cases t : tk w.1 = 317
          · rw [if_pos t, if_pos t]
            obtain ⟨d0, d1, d2⟩ := CH_nx h c1 c2 c3 (fun q => absurd (t.symm.trans q) (by decide))
            have z := ih N true (u.1 + 1) w.2.1 u.2.2.2.1 u.2.2.2.2.1 s5 u.2.2.2.2.2.2.1 u.2.2.2.2.2.2.2.1 u.2.2.2.2.2.2.2.2.1 u.2.2.2.2.2.2.2.2.2.1 u.2.2.2.2.2.2.2.2.2.2.1 u.2.2.2.2.2.2.2.2.2.2.2.1 s12 (i + 1) d0 d1 (by grind) c7 (by grind) (by grind) (by omega) (by omega)
            rw [d2] at z
            rw [c4, c5]
            generalize slp tk nx (sP tk nx 8) 317 (-3) m true (nx w.1) w.2.1 = r at z ⊢
            cases r with
            | error e => exact z
            | ok x =>
              obtain ⟨z1, z2, z3, z4, z5, z6, z7, z8⟩ := z
              exact ⟨z1, z2, z3, z4, z5, (by show n < x.2.1; grind), z7, z8⟩
          · rw [if_neg t, if_neg t]
            obtain ⟨g1, g2, g3, g4⟩ := h42 u.1 u.2.1 u.2.2.1 u.2.2.2.1 u.2.2.2.2.1 s5 u.2.2.2.2.2.2.1 u.2.2.2.2.2.2.2.1 u.2.2.2.2.2.2.2.2.1 u.2.2.2.2.2.2.2.2.2.1 u.2.2.2.2.2.2.2.2.2.2.1 u.2.2.2.2.2.2.2.2.2.2.2.1 s12 i
            refine ⟨?_, ?_, ?_, g2.trans c4, g3.trans c5, c6, c7, g4⟩
            · rw [g1]; exact c1
            · rw [g1]; exact c2
            · rw [g1]; exact c3
        by_cases hi9 : i ≤ 0
        · rw [if_pos hi9]; exact key _ _
        · rw [if_neg hi9]; exact key _ _
theorem c_test_2 {tk nx : Int32 → Int32} {tc : Int32} {tf pf : Nat → Int32} (h : CH tk nx tc tf pf) : ∀ (k f n : Int32) (yj yo y1 y2 y3 y4 y5 : Nat → Int32) (yv yf ys : Int32), ¬ k < 0 → k < tc → ¬ n < 0 → ¬ 60 < n → TV pf tc f n (sT tk nx 8 (pf k.toNatClampNeg) n) (fX2_readTest_2 tc k f n tf pf yj yo y1 y2 y3 y4 y5 yv yf ys) := by
  intro k f n yj yo y1 y2 y3 y4 y5 yv yf ys k0 k1 n0 n6
  have := i_nn n0
  exact c_testL_2 h (fun _ _ _ _ _ _ _ _ _ _ _ _ _ _ => ⟨rfl, rfl⟩) (fun _ _ _ _ _ _ _ _ _ _ _ _ _ _ => ⟨rfl, rfl, rfl, rfl⟩) 61 _ false k n yv yf ys yj yo y1 y2 y3 y4 y5 0 k0 k1 n0 n6 (by decide) n0 (by omega) (by decide)
theorem c_fact_1 {tk nx : Int32 → Int32} {tc : Int32} {tf pf : Nat → Int32} (h : CH tk nx tc tf pf) : ∀ (k f n : Int32) (yj yo y1 y2 y3 y4 y5 : Nat → Int32) (yv yf ys : Int32), ¬ k < 0 → k < tc → ¬ n < 0 → ¬ 60 < n → TV pf tc f n (sF tk nx 9 (pf k.toNatClampNeg) n) (fX2_readFact_1 tc k f n tf pf yj yo y1 y2 y3 y4 y5 yv yf ys) := by
  intro k f n yj yo y1 y2 y3 y4 y5 yv yf ys k0 k1 n0 n6
  have hc := c_cmp h k f n yj yo y1 y2 y3 y4 y5 yv yf ys k0 k1 n0 n6
  unfold fX2_readFact_1
  simp only [bnd, CH_tok h k0 k1]
  show TV pf tc f n (sfc tk nx (sT tk nx 8) (sF tk nx 8) (pf k.toNatClampNeg) n) _
  unfold sfc
  by_cases a : tk (pf k.toNatClampNeg) = 319
  · rw [if_pos a, if_pos a]
    obtain ⟨b0, b1, b2⟩ := CH_nx h k0 k1 rfl (fun q => absurd (a.symm.trans q) (by decide))
    have hf := c_fact_2 h (k + 1) f n yj yo y1 y2 y3 y4 y5 yv yf ys b0 b1 n0 n6
    rw [b2] at hf
    generalize fX2_readFact_2 tc (k + 1) f n tf pf yj yo y1 y2 y3 y4 y5 yv yf ys = u at hf ⊢
    generalize sF tk nx 8 (nx (pf k.toNatClampNeg)) n = r at hf ⊢
    cases r with
    | error e => exact hf
    | ok w => exact hf
  · rw [if_neg a, if_neg a]
    by_cases b : tk (pf k.toNatClampNeg) = 91
    · rw [if_pos b, if_pos b]
      obtain ⟨b0, b1, b2⟩ := CH_nx h k0 k1 rfl (fun q => absurd (b.symm.trans q) (by decide))
      have hf := c_test_2 h (k + 1) f n yj yo y1 y2 y3 y4 y5 yv yf ys b0 b1 n0 n6
      rw [b2] at hf
      generalize fX2_readTest_2 tc (k + 1) f n tf pf yj yo y1 y2 y3 y4 y5 yv yf ys = u at hf ⊢
      generalize sT tk nx 8 (nx (pf k.toNatClampNeg)) n = r at hf ⊢
      cases r with
      | error e =>
        obtain ⟨h2, h7, hp⟩ := hf
        rw [if_pos h7]
        exact ⟨h2, rfl, hp⟩
      | ok w =>
        obtain ⟨c1, c2, c3, c4, c5, c6, c7, c8⟩ := hf
        rw [if_neg (show ¬ u.2.2.2.2.2.2.2.2.2.2.2.2.2 = 0 by rw [c8]; decide), CH_take h c1 c2 c3]
        show TV pf tc f n (if tk w.1 = 93 then _ else _) _
        by_cases t : tk w.1 = 93
        · rw [if_pos t, if_pos t]
          obtain ⟨d0, d1, d2⟩ := CH_nx h c1 c2 c3 (fun q => absurd (t.symm.trans q) (by decide))
          exact ⟨d0, d1, d2, c4, c5, c6, c7, rfl⟩
        · rw [if_neg t, if_neg t]
          exact ⟨rfl, rfl, CH_pos h c1 c2 c3 (by decide) (by decide)⟩
    · rw [if_neg b, if_neg b]
      generalize fX2_readComparison tc k f n tf pf yj yo y1 y2 y3 y4 y5 yv yf ys = u at hc ⊢
      exact hc
theorem c_partL_1 {tk nx : Int32 → Int32} {tc : Int32} {tf pf : Nat → Int32} (h : CH tk nx tc tf pf) {f : Int32} {E17 E42 E60 : Int32 → Int32 → Int32 → Int32 → Int32 → Int32 → (Nat → Int32) → (Nat → Int32) → (Nat → Int32) → (Nat → Int32) → (Nat → Int32) → (Nat → Int32) → (Nat → Int32) → Int32 → (Int32 × Int32 × Int32 × Int32 × Int32 × Int32 × (Nat → Int32) × (Nat → Int32) × (Nat → Int32) × (Nat → Int32) × (Nat → Int32) × (Nat → Int32) × (Nat → Int32) × Int32)} (h17 : ∀ a1 a2 a3 a4 a5 a6 a7 a8 a9 a10 a11 a12 a13 a14, (E17 a1 a2 a3 a4 a5 a6 a7 a8 a9 a10 a11 a12 a13 a14).2.1 = a2 ∧ (E17 a1 a2 a3 a4 a5 a6 a7 a8 a9 a10 a11 a12 a13 a14).2.2.2.2.2.2.2.2.2.2.2.2.2 = 0) (h42 : ∀ a1 a2 a3 a4 a5 a6 a7 a8 a9 a10 a11 a12 a13 a14, (E42 a1 a2 a3 a4 a5 a6 a7 a8 a9 a10 a11 a12 a13 a14).1 = a1 ∧ (E42 a1 a2 a3 a4 a5 a6 a7 a8 a9 a10 a11 a12 a13 a14).2.1 = a2 ∧ (E42 a1 a2 a3 a4 a5 a6 a7 a8 a9 a10 a11 a12 a13 a14).2.2.1 = a3 ∧ (E42 a1 a2 a3 a4 a5 a6 a7 a8 a9 a10 a11 a12 a13 a14).2.2.2.2.2.2.2.2.2.2.2.2.2 = 1) : ∀ (m N : Nat) (b : Bool) (k n v3 v4 v5 : Int32) (g6 g7 g8 g9 g10 g11 g12 : Nat → Int32) (i : Int32), ¬ k < 0 → k < tc → ¬ n < 0 → ¬ 60 < n → ¬ i < 0 → ¬ n < i → (60 - n.toInt).toNat < m → (401 - i.toInt).toNat < N → TV pf tc f n (slp tk nx (sF tk nx 9) 318 (-2) m b (pf k.toNatClampNeg) n) (fl_mX2_readPart_1_2 tc tf pf E17 E42 E60 N k f n v3 v4 v5 g6 g7 g8 g9 g10 g11 g12 i) := by
  intro m
  induction m with
  | zero => intro N b k n v3 v4 v5 g6 g7 g8 g9 g10 g11 g12 i k0 k1 n0 n6 i0 i6 hm hN; exact absurd hm (Nat.not_lt_zero _)
  | succ m ih =>
    intro N b k n v3 v4 v5 g6 g7 g8 g9 g10 g11 g12 i k0 k1 n0 n6 i0 i6 hm hN
    cases N with
    | zero => exact absurd hN (Nat.not_lt_zero _)
    | succ N =>
      show TV pf tc f n _ (fb_mX2_readPart_1_2 tc tf pf E17 E42 E60 (fl_mX2_readPart_1_2 tc tf pf E17 E42 E60 N) k f n v3 v4 v5 g6 g7 g8 g9 g10 g11 g12 i)
      unfold fb_mX2_readPart_1_2
      rw [if_neg (show ¬ 400 < i by grind)]
      simp only [bnd]
      have hv := c_fact_1 h k f n g6 g7 g8 g9 g10 g11 g12 v3 v4 v5 k0 k1 n0 n6
      generalize fX2_readFact_1 tc k f n tf pf g6 g7 g8 g9 g10 g11 g12 v3 v4 v5 = u at hv ⊢
      rw [slp_s]
      generalize sF tk nx 9 (pf k.toNatClampNeg) n = r at hv ⊢
      cases r with
      | error e =>
        obtain ⟨h2, h7, hp⟩ := hv
        rw [if_pos h7]
        exact ⟨(h17 u.1 u.2.1 u.2.2.1 u.2.2.2.1 u.2.2.2.2.1 u.2.2.2.2.2.1 u.2.2.2.2.2.2.1 u.2.2.2.2.2.2.2.1 u.2.2.2.2.2.2.2.2.1 u.2.2.2.2.2.2.2.2.2.1 u.2.2.2.2.2.2.2.2.2.2.1 u.2.2.2.2.2.2.2.2.2.2.2.1 u.2.2.2.2.2.2.2.2.2.2.2.2.1 i).1.trans h2, (h17 u.1 u.2.1 u.2.2.1 u.2.2.2.1 u.2.2.2.2.1 u.2.2.2.2.2.1 u.2.2.2.2.2.2.1 u.2.2.2.2.2.2.2.1 u.2.2.2.2.2.2.2.2.1 u.2.2.2.2.2.2.2.2.2.1 u.2.2.2.2.2.2.2.2.2.2.1 u.2.2.2.2.2.2.2.2.2.2.2.1 u.2.2.2.2.2.2.2.2.2.2.2.2.1 i).2, hp⟩
      | ok w =>
        obtain ⟨c1, c2, c3, c4, c5, c6, c7, c8⟩ := hv
        rw [if_neg (show ¬ u.2.2.2.2.2.2.2.2.2.2.2.2.2 = 0 by rw [c8]; decide), CH_tok h c1 c2, c3]
        have hn : (w.2.1).toInt ≤ 60 ∧ n.toInt < (w.2.1).toInt := z_le60 c6 c7
        have hi := z_inc60 i6 c6 c7 i0
        have i6' : i.toInt ≤ n.toInt := by
          rw [Int32.lt_iff_toInt_lt] at i6
          omega
        have key : ∀ (s5 : Int32) (s12 : Nat → Int32), TV pf tc f n (if tk w.1 = 318 then exb (slp tk nx (sF tk nx 9) 318 (-2) m true (nx w.1) w.2.1) (fun x => .ok (x.1, x.2.1, (if b then w.2.2 ++ [((-2), [], [])] else w.2.2) ++ x.2.2)) else .ok (w.1, w.2.1, if b then w.2.2 ++ [((-2), [], [])] else w.2.2)) (if tk w.1 = 318 then fl_mX2_readPart_1_2 tc tf pf E17 E42 E60 N (u.1 + 1) u.2.1 u.2.2.1 u.2.2.2.1 u.2.2.2.2.1 s5 u.2.2.2.2.2.2.1 u.2.2.2.2.2.2.2.1 u.2.2.2.2.2.2.2.2.1 u.2.2.2.2.2.2.2.2.2.1 u.2.2.2.2.2.2.2.2.2.2.1 u.2.2.2.2.2.2.2.2.2.2.2.1 s12 (i + 1) else E42 u.1 u.2.1 u.2.2.1 u.2.2.2.1 u.2.2.2.2.1 s5 u.2.2.2.2.2.2.1 u.2.2.2.2.2.2.2.1 u.2.2.2.2.2.2.2.2.1 u.2.2.2.2.2.2.2.2.2.1 u.2.2.2.2.2.2.2.2.2.2.1 u.2.2.2.2.2.2.2.2.2.2.2.1 s12 i) := by
          intro s5 s12
          by_cases t : tk w.1 = 318
          · rw [if_pos t, if_pos t]
            obtain ⟨d0, d1, d2⟩ := CH_nx h c1 c2 c3 (fun q => absurd (t.symm.trans q) (by decide))
            have z := ih N true (u.1 + 1) w.2.1 u.2.2.2.1 u.2.2.2.2.1 s5 u.2.2.2.2.2.2.1 u.2.2.2.2.2.2.2.1 u.2.2.2.2.2.2.2.2.1 u.2.2.2.2.2.2.2.2.2.1 u.2.2.2.2.2.2.2.2.2.2.1 u.2.2.2.2.2.2.2.2.2.2.2.1 s12 (i + 1) d0 d1 (by grind) c7 (by grind) (by grind) (by omega) (by omega)
            rw [d2] at z
            rw [c4, c5]
            generalize slp tk nx (sF tk nx 9) 318 (-2) m true (nx w.1) w.2.1 = r at z ⊢
            cases r with
            | error e => exact z
            | ok x =>
              obtain ⟨z1, z2, z3, z4, z5, z6, z7, z8⟩ := z
              exact ⟨z1, z2, z3, z4, z5, (by show n < x.2.1; grind), z7, z8⟩
          · rw [if_neg t, if_neg t]
            obtain ⟨g1, g2, g3, g4⟩ := h42 u.1 u.2.1 u.2.2.1 u.2.2.2.1 u.2.2.2.2.1 s5 u.2.2.2.2.2.2.1 u.2.2.2.2.2.2.2.1 u.2.2.2.2.2.2.2.2.1 u.2.2.2.2.2.2.2.2.2.1 u.2.2.2.2.2.2.2.2.2.2.1 u.2.2.2.2.2.2.2.2.2.2.2.1 s12 i
            refine ⟨?_, ?_, ?_, g2.trans c4, g3.trans c5, c6, c7, g4⟩
            · rw [g1]; exact c1
            · rw [g1]; exact c2
            · rw [g1]; exact c3
        by_cases hi9 : i ≤ 0
        · rw [if_pos hi9]; exact key _ _
        · rw [if_neg hi9]; exact key _ _
theorem c_part_1 {tk nx : Int32 → Int32} {tc : Int32} {tf pf : Nat → Int32} (h : CH tk nx tc tf pf) : ∀ (k f n : Int32) (yj yo y1 y2 y3 y4 y5 : Nat → Int32) (yv yf ys : Int32), ¬ k < 0 → k < tc → ¬ n < 0 → ¬ 60 < n → TV pf tc f n (sP tk nx 9 (pf k.toNatClampNeg) n) (fX2_readPart_1 tc k f n tf pf yj yo y1 y2 y3 y4 y5 yv yf ys) := by
  intro k f n yj yo y1 y2 y3 y4 y5 yv yf ys k0 k1 n0 n6
  have := i_nn n0
  exact c_partL_1 h (fun _ _ _ _ _ _ _ _ _ _ _ _ _ _ => ⟨rfl, rfl⟩) (fun _ _ _ _ _ _ _ _ _ _ _ _ _ _ => ⟨rfl, rfl, rfl, rfl⟩) 61 _ false k n yv yf ys yj yo y1 y2 y3 y4 y5 0 k0 k1 n0 n6 (by decide) n0 (by omega) (by decide)
theorem c_testL_1 {tk nx : Int32 → Int32} {tc : Int32} {tf pf : Nat → Int32} (h : CH tk nx tc tf pf) {f : Int32} {E17 E42 E60 : Int32 → Int32 → Int32 → Int32 → Int32 → Int32 → (Nat → Int32) → (Nat → Int32) → (Nat → Int32) → (Nat → Int32) → (Nat → Int32) → (Nat → Int32) → (Nat → Int32) → Int32 → (Int32 × Int32 × Int32 × Int32 × Int32 × Int32 × (Nat → Int32) × (Nat → Int32) × (Nat → Int32) × (Nat → Int32) × (Nat → Int32) × (Nat → Int32) × (Nat → Int32) × Int32)} (h17 : ∀ a1 a2 a3 a4 a5 a6 a7 a8 a9 a10 a11 a12 a13 a14, (E17 a1 a2 a3 a4 a5 a6 a7 a8 a9 a10 a11 a12 a13 a14).2.1 = a2 ∧ (E17 a1 a2 a3 a4 a5 a6 a7 a8 a9 a10 a11 a12 a13 a14).2.2.2.2.2.2.2.2.2.2.2.2.2 = 0) (h42 : ∀ a1 a2 a3 a4 a5 a6 a7 a8 a9 a10 a11 a12 a13 a14, (E42 a1 a2 a3 a4 a5 a6 a7 a8 a9 a10 a11 a12 a13 a14).1 = a1 ∧ (E42 a1 a2 a3 a4 a5 a6 a7 a8 a9 a10 a11 a12 a13 a14).2.1 = a2 ∧ (E42 a1 a2 a3 a4 a5 a6 a7 a8 a9 a10 a11 a12 a13 a14).2.2.1 = a3 ∧ (E42 a1 a2 a3 a4 a5 a6 a7 a8 a9 a10 a11 a12 a13 a14).2.2.2.2.2.2.2.2.2.2.2.2.2 = 1) : ∀ (m N : Nat) (b : Bool) (k n v3 v4 v5 : Int32) (g6 g7 g8 g9 g10 g11 g12 : Nat → Int32) (i : Int32), ¬ k < 0 → k < tc → ¬ n < 0 → ¬ 60 < n → ¬ i < 0 → ¬ n < i → (60 - n.toInt).toNat < m → (401 - i.toInt).toNat < N → TV pf tc f n (slp tk nx (sP tk nx 9) 317 (-3) m b (pf k.toNatClampNeg) n) (fl_mX2_readTest_1_2 tc tf pf E17 E42 E60 N k f n v3 v4 v5 g6 g7 g8 g9 g10 g11 g12 i) := by
  intro m
  induction m with
  | zero => intro N b k n v3 v4 v5 g6 g7 g8 g9 g10 g11 g12 i k0 k1 n0 n6 i0 i6 hm hN; exact absurd hm (Nat.not_lt_zero _)
  | succ m ih =>
    intro N b k n v3 v4 v5 g6 g7 g8 g9 g10 g11 g12 i k0 k1 n0 n6 i0 i6 hm hN
    cases N with
    | zero => exact absurd hN (Nat.not_lt_zero _)
    | succ N =>
      show TV pf tc f n _ (fb_mX2_readTest_1_2 tc tf pf E17 E42 E60 (fl_mX2_readTest_1_2 tc tf pf E17 E42 E60 N) k f n v3 v4 v5 g6 g7 g8 g9 g10 g11 g12 i)
      unfold fb_mX2_readTest_1_2
      rw [if_neg (show ¬ 400 < i by grind)]
      simp only [bnd]
      have hv := c_part_1 h k f n g6 g7 g8 g9 g10 g11 g12 v3 v4 v5 k0 k1 n0 n6
      generalize fX2_readPart_1 tc k f n tf pf g6 g7 g8 g9 g10 g11 g12 v3 v4 v5 = u at hv ⊢
      rw [slp_s]
      generalize sP tk nx 9 (pf k.toNatClampNeg) n = r at hv ⊢
      cases r with
      | error e =>
        obtain ⟨h2, h7, hp⟩ := hv
        rw [if_pos h7]
        exact ⟨(h17 u.1 u.2.1 u.2.2.1 u.2.2.2.1 u.2.2.2.2.1 u.2.2.2.2.2.1 u.2.2.2.2.2.2.1 u.2.2.2.2.2.2.2.1 u.2.2.2.2.2.2.2.2.1 u.2.2.2.2.2.2.2.2.2.1 u.2.2.2.2.2.2.2.2.2.2.1 u.2.2.2.2.2.2.2.2.2.2.2.1 u.2.2.2.2.2.2.2.2.2.2.2.2.1 i).1.trans h2, (h17 u.1 u.2.1 u.2.2.1 u.2.2.2.1 u.2.2.2.2.1 u.2.2.2.2.2.1 u.2.2.2.2.2.2.1 u.2.2.2.2.2.2.2.1 u.2.2.2.2.2.2.2.2.1 u.2.2.2.2.2.2.2.2.2.1 u.2.2.2.2.2.2.2.2.2.2.1 u.2.2.2.2.2.2.2.2.2.2.2.1 u.2.2.2.2.2.2.2.2.2.2.2.2.1 i).2, hp⟩
      | ok w =>
        obtain ⟨c1, c2, c3, c4, c5, c6, c7, c8⟩ := hv
        rw [if_neg (show ¬ u.2.2.2.2.2.2.2.2.2.2.2.2.2 = 0 by rw [c8]; decide), CH_tok h c1 c2, c3]
        have hn : (w.2.1).toInt ≤ 60 ∧ n.toInt < (w.2.1).toInt := z_le60 c6 c7
        have hi := z_inc60 i6 c6 c7 i0
        have i6' : i.toInt ≤ n.toInt := by
          rw [Int32.lt_iff_toInt_lt] at i6
          omega
        have key : ∀ (s5 : Int32) (s12 : Nat → Int32), TV pf tc f n (if tk w.1 = 317 then exb (slp tk nx (sP tk nx 9) 317 (-3) m true (nx w.1) w.2.1) (fun x => .ok (x.1, x.2.1, (if b then w.2.2 ++ [((-3), [], [])] else w.2.2) ++ x.2.2)) else .ok (w.1, w.2.1, if b then w.2.2 ++ [((-3), [], [])] else w.2.2)) (if tk w.1 = 317 then fl_mX2_readTest_1_2 tc tf pf E17 E42 E60 N (u.1 + 1) u.2.1 u.2.2.1 u.2.2.2.1 u.2.2.2.2.1 s5 u.2.2.2.2.2.2.1 u.2.2.2.2.2.2.2.1 u.2.2.2.2.2.2.2.2.1 u.2.2.2.2.2.2.2.2.2.1 u.2.2.2.2.2.2.2.2.2.2.1 u.2.2.2.2.2.2.2.2.2.2.2.1 s12 (i + 1) else E42 u.1 u.2.1 u.2.2.1 u.2.2.2.1 u.2.2.2.2.1 s5 u.2.2.2.2.2.2.1 u.2.2.2.2.2.2.2.1 u.2.2.2.2.2.2.2.2.1 u.2.2.2.2.2.2.2.2.2.1 u.2.2.2.2.2.2.2.2.2.2.1 u.2.2.2.2.2.2.2.2.2.2.2.1 s12 i) := by
          intro s5 s12
          by_cases t : tk w.1 = 317
          · rw [if_pos t, if_pos t]
            obtain ⟨d0, d1, d2⟩ := CH_nx h c1 c2 c3 (fun q => absurd (t.symm.trans q) (by decide))
            have z := ih N true (u.1 + 1) w.2.1 u.2.2.2.1 u.2.2.2.2.1 s5 u.2.2.2.2.2.2.1 u.2.2.2.2.2.2.2.1 u.2.2.2.2.2.2.2.2.1 u.2.2.2.2.2.2.2.2.2.1 u.2.2.2.2.2.2.2.2.2.2.1 u.2.2.2.2.2.2.2.2.2.2.2.1 s12 (i + 1) d0 d1 (by grind) c7 (by grind) (by grind) (by omega) (by omega)
            rw [d2] at z
            rw [c4, c5]
            generalize slp tk nx (sP tk nx 9) 317 (-3) m true (nx w.1) w.2.1 = r at z ⊢
            cases r with
            | error e => exact z
            | ok x =>
              obtain ⟨z1, z2, z3, z4, z5, z6, z7, z8⟩ := z
              exact ⟨z1, z2, z3, z4, z5, (by show n < x.2.1; grind), z7, z8⟩
          · rw [if_neg t, if_neg t]
            obtain ⟨g1, g2, g3, g4⟩ := h42 u.1 u.2.1 u.2.2.1 u.2.2.2.1 u.2.2.2.2.1 s5 u.2.2.2.2.2.2.1 u.2.2.2.2.2.2.2.1 u.2.2.2.2.2.2.2.2.1 u.2.2.2.2.2.2.2.2.2.1 u.2.2.2.2.2.2.2.2.2.2.1 u.2.2.2.2.2.2.2.2.2.2.2.1 s12 i
            refine ⟨?_, ?_, ?_, g2.trans c4, g3.trans c5, c6, c7, g4⟩
            · rw [g1]; exact c1
            · rw [g1]; exact c2
            · rw [g1]; exact c3
        by_cases hi9 : i ≤ 0
        · rw [if_pos hi9]; exact key _ _
        · rw [if_neg hi9]; exact key _ _
theorem c_test_1 {tk nx : Int32 → Int32} {tc : Int32} {tf pf : Nat → Int32} (h : CH tk nx tc tf pf) : ∀ (k f n : Int32) (yj yo y1 y2 y3 y4 y5 : Nat → Int32) (yv yf ys : Int32), ¬ k < 0 → k < tc → ¬ n < 0 → ¬ 60 < n → TV pf tc f n (sT tk nx 9 (pf k.toNatClampNeg) n) (fX2_readTest_1 tc k f n tf pf yj yo y1 y2 y3 y4 y5 yv yf ys) := by
  intro k f n yj yo y1 y2 y3 y4 y5 yv yf ys k0 k1 n0 n6
  have := i_nn n0
  exact c_testL_1 h (fun _ _ _ _ _ _ _ _ _ _ _ _ _ _ => ⟨rfl, rfl⟩) (fun _ _ _ _ _ _ _ _ _ _ _ _ _ _ => ⟨rfl, rfl, rfl, rfl⟩) 61 _ false k n yv yf ys yj yo y1 y2 y3 y4 y5 0 k0 k1 n0 n6 (by decide) n0 (by omega) (by decide)
theorem c_fact_0 {tk nx : Int32 → Int32} {tc : Int32} {tf pf : Nat → Int32} (h : CH tk nx tc tf pf) : ∀ (k f n : Int32) (yj yo y1 y2 y3 y4 y5 : Nat → Int32) (yv yf ys : Int32), ¬ k < 0 → k < tc → ¬ n < 0 → ¬ 60 < n → TV pf tc f n (sF tk nx 10 (pf k.toNatClampNeg) n) (fX2_readFact_0 tc k f n tf pf yj yo y1 y2 y3 y4 y5 yv yf ys) := by
  intro k f n yj yo y1 y2 y3 y4 y5 yv yf ys k0 k1 n0 n6
  have hc := c_cmp h k f n yj yo y1 y2 y3 y4 y5 yv yf ys k0 k1 n0 n6
  unfold fX2_readFact_0
  simp only [bnd, CH_tok h k0 k1]
  show TV pf tc f n (sfc tk nx (sT tk nx 9) (sF tk nx 9) (pf k.toNatClampNeg) n) _
  unfold sfc
  by_cases a : tk (pf k.toNatClampNeg) = 319
  · rw [if_pos a, if_pos a]
    obtain ⟨b0, b1, b2⟩ := CH_nx h k0 k1 rfl (fun q => absurd (a.symm.trans q) (by decide))
    have hf := c_fact_1 h (k + 1) f n yj yo y1 y2 y3 y4 y5 yv yf ys b0 b1 n0 n6
    rw [b2] at hf
    generalize fX2_readFact_1 tc (k + 1) f n tf pf yj yo y1 y2 y3 y4 y5 yv yf ys = u at hf ⊢
    generalize sF tk nx 9 (nx (pf k.toNatClampNeg)) n = r at hf ⊢
    cases r with
    | error e => exact hf
    | ok w => exact hf
  · rw [if_neg a, if_neg a]
    by_cases b : tk (pf k.toNatClampNeg) = 91
    · rw [if_pos b, if_pos b]
      obtain ⟨b0, b1, b2⟩ := CH_nx h k0 k1 rfl (fun q => absurd (b.symm.trans q) (by decide))
      have hf := c_test_1 h (k + 1) f n yj yo y1 y2 y3 y4 y5 yv yf ys b0 b1 n0 n6
      rw [b2] at hf
      generalize fX2_readTest_1 tc (k + 1) f n tf pf yj yo y1 y2 y3 y4 y5 yv yf ys = u at hf ⊢
      generalize sT tk nx 9 (nx (pf k.toNatClampNeg)) n = r at hf ⊢
      cases r with
      | error e =>
        obtain ⟨h2, h7, hp⟩ := hf
        rw [if_pos h7]
        exact ⟨h2, rfl, hp⟩
      | ok w =>
        obtain ⟨c1, c2, c3, c4, c5, c6, c7, c8⟩ := hf
        rw [if_neg (show ¬ u.2.2.2.2.2.2.2.2.2.2.2.2.2 = 0 by rw [c8]; decide), CH_take h c1 c2 c3]
        show TV pf tc f n (if tk w.1 = 93 then _ else _) _
        by_cases t : tk w.1 = 93
        · rw [if_pos t, if_pos t]
          obtain ⟨d0, d1, d2⟩ := CH_nx h c1 c2 c3 (fun q => absurd (t.symm.trans q) (by decide))
          exact ⟨d0, d1, d2, c4, c5, c6, c7, rfl⟩
        · rw [if_neg t, if_neg t]
          exact ⟨rfl, rfl, CH_pos h c1 c2 c3 (by decide) (by decide)⟩
    · rw [if_neg b, if_neg b]
      generalize fX2_readComparison tc k f n tf pf yj yo y1 y2 y3 y4 y5 yv yf ys = u at hc ⊢
      exact hc
theorem c_partL_0 {tk nx : Int32 → Int32} {tc : Int32} {tf pf : Nat → Int32} (h : CH tk nx tc tf pf) {f : Int32} {E17 E42 E60 : Int32 → Int32 → Int32 → Int32 → Int32 → Int32 → (Nat → Int32) → (Nat → Int32) → (Nat → Int32) → (Nat → Int32) → (Nat → Int32) → (Nat → Int32) → (Nat → Int32) → Int32 → (Int32 × Int32 × Int32 × Int32 × Int32 × Int32 × (Nat → Int32) × (Nat → Int32) × (Nat → Int32) × (Nat → Int32) × (Nat → Int32) × (Nat → Int32) × (Nat → Int32) × Int32)} (h17 : ∀ a1 a2 a3 a4 a5 a6 a7 a8 a9 a10 a11 a12 a13 a14, (E17 a1 a2 a3 a4 a5 a6 a7 a8 a9 a10 a11 a12 a13 a14).2.1 = a2 ∧ (E17 a1 a2 a3 a4 a5 a6 a7 a8 a9 a10 a11 a12 a13 a14).2.2.2.2.2.2.2.2.2.2.2.2.2 = 0) (h42 : ∀ a1 a2 a3 a4 a5 a6 a7 a8 a9 a10 a11 a12 a13 a14, (E42 a1 a2 a3 a4 a5 a6 a7 a8 a9 a10 a11 a12 a13 a14).1 = a1 ∧ (E42 a1 a2 a3 a4 a5 a6 a7 a8 a9 a10 a11 a12 a13 a14).2.1 = a2 ∧ (E42 a1 a2 a3 a4 a5 a6 a7 a8 a9 a10 a11 a12 a13 a14).2.2.1 = a3 ∧ (E42 a1 a2 a3 a4 a5 a6 a7 a8 a9 a10 a11 a12 a13 a14).2.2.2.2.2.2.2.2.2.2.2.2.2 = 1) : ∀ (m N : Nat) (b : Bool) (k n v3 v4 v5 : Int32) (g6 g7 g8 g9 g10 g11 g12 : Nat → Int32) (i : Int32), ¬ k < 0 → k < tc → ¬ n < 0 → ¬ 60 < n → ¬ i < 0 → ¬ n < i → (60 - n.toInt).toNat < m → (401 - i.toInt).toNat < N → TV pf tc f n (slp tk nx (sF tk nx 10) 318 (-2) m b (pf k.toNatClampNeg) n) (fl_mX2_readPart_0_2 tc tf pf E17 E42 E60 N k f n v3 v4 v5 g6 g7 g8 g9 g10 g11 g12 i) := by
  intro m
  induction m with
  | zero => intro N b k n v3 v4 v5 g6 g7 g8 g9 g10 g11 g12 i k0 k1 n0 n6 i0 i6 hm hN; exact absurd hm (Nat.not_lt_zero _)
  | succ m ih =>
    intro N b k n v3 v4 v5 g6 g7 g8 g9 g10 g11 g12 i k0 k1 n0 n6 i0 i6 hm hN
    cases N with
    | zero => exact absurd hN (Nat.not_lt_zero _)
    | succ N =>
      show TV pf tc f n _ (fb_mX2_readPart_0_2 tc tf pf E17 E42 E60 (fl_mX2_readPart_0_2 tc tf pf E17 E42 E60 N) k f n v3 v4 v5 g6 g7 g8 g9 g10 g11 g12 i)
      unfold fb_mX2_readPart_0_2
      rw [if_neg (show ¬ 400 < i by grind)]
      simp only [bnd]
      have hv := c_fact_0 h k f n g6 g7 g8 g9 g10 g11 g12 v3 v4 v5 k0 k1 n0 n6
      generalize fX2_readFact_0 tc k f n tf pf g6 g7 g8 g9 g10 g11 g12 v3 v4 v5 = u at hv ⊢
      rw [slp_s]
      generalize sF tk nx 10 (pf k.toNatClampNeg) n = r at hv ⊢
      cases r with
      | error e =>
        obtain ⟨h2, h7, hp⟩ := hv
        rw [if_pos h7]
        exact ⟨(h17 u.1 u.2.1 u.2.2.1 u.2.2.2.1 u.2.2.2.2.1 u.2.2.2.2.2.1 u.2.2.2.2.2.2.1 u.2.2.2.2.2.2.2.1 u.2.2.2.2.2.2.2.2.1 u.2.2.2.2.2.2.2.2.2.1 u.2.2.2.2.2.2.2.2.2.2.1 u.2.2.2.2.2.2.2.2.2.2.2.1 u.2.2.2.2.2.2.2.2.2.2.2.2.1 i).1.trans h2, (h17 u.1 u.2.1 u.2.2.1 u.2.2.2.1 u.2.2.2.2.1 u.2.2.2.2.2.1 u.2.2.2.2.2.2.1 u.2.2.2.2.2.2.2.1 u.2.2.2.2.2.2.2.2.1 u.2.2.2.2.2.2.2.2.2.1 u.2.2.2.2.2.2.2.2.2.2.1 u.2.2.2.2.2.2.2.2.2.2.2.1 u.2.2.2.2.2.2.2.2.2.2.2.2.1 i).2, hp⟩
      | ok w =>
        obtain ⟨c1, c2, c3, c4, c5, c6, c7, c8⟩ := hv
        rw [if_neg (show ¬ u.2.2.2.2.2.2.2.2.2.2.2.2.2 = 0 by rw [c8]; decide), CH_tok h c1 c2, c3]
        have hn : (w.2.1).toInt ≤ 60 ∧ n.toInt < (w.2.1).toInt := z_le60 c6 c7
        have hi := z_inc60 i6 c6 c7 i0
        have i6' : i.toInt ≤ n.toInt := by
          rw [Int32.lt_iff_toInt_lt] at i6
          omega
        have key : ∀ (s5 : Int32) (s12 : Nat → Int32), TV pf tc f n (if tk w.1 = 318 then exb (slp tk nx (sF tk nx 10) 318 (-2) m true (nx w.1) w.2.1) (fun x => .ok (x.1, x.2.1, (if b then w.2.2 ++ [((-2), [], [])] else w.2.2) ++ x.2.2)) else .ok (w.1, w.2.1, if b then w.2.2 ++ [((-2), [], [])] else w.2.2)) (if tk w.1 = 318 then fl_mX2_readPart_0_2 tc tf pf E17 E42 E60 N (u.1 + 1) u.2.1 u.2.2.1 u.2.2.2.1 u.2.2.2.2.1 s5 u.2.2.2.2.2.2.1 u.2.2.2.2.2.2.2.1 u.2.2.2.2.2.2.2.2.1 u.2.2.2.2.2.2.2.2.2.1 u.2.2.2.2.2.2.2.2.2.2.1 u.2.2.2.2.2.2.2.2.2.2.2.1 s12 (i + 1) else E42 u.1 u.2.1 u.2.2.1 u.2.2.2.1 u.2.2.2.2.1 s5 u.2.2.2.2.2.2.1 u.2.2.2.2.2.2.2.1 u.2.2.2.2.2.2.2.2.1 u.2.2.2.2.2.2.2.2.2.1 u.2.2.2.2.2.2.2.2.2.2.1 u.2.2.2.2.2.2.2.2.2.2.2.1 s12 i) := by
          intro s5 s12
          by_cases t : tk w.1 = 318
          · rw [if_pos t, if_pos t]
            obtain ⟨d0, d1, d2⟩ := CH_nx h c1 c2 c3 (fun q => absurd (t.symm.trans q) (by decide))
            have z := ih N true (u.1 + 1) w.2.1 u.2.2.2.1 u.2.2.2.2.1 s5 u.2.2.2.2.2.2.1 u.2.2.2.2.2.2.2.1 u.2.2.2.2.2.2.2.2.1 u.2.2.2.2.2.2.2.2.2.1 u.2.2.2.2.2.2.2.2.2.2.1 u.2.2.2.2.2.2.2.2.2.2.2.1 s12 (i + 1) d0 d1 (by grind) c7 (by grind) (by grind) (by omega) (by omega)
            rw [d2] at z
            rw [c4, c5]
            generalize slp tk nx (sF tk nx 10) 318 (-2) m true (nx w.1) w.2.1 = r at z ⊢
            cases r with
            | error e => exact z
            | ok x =>
              obtain ⟨z1, z2, z3, z4, z5, z6, z7, z8⟩ := z
              exact ⟨z1, z2, z3, z4, z5, (by show n < x.2.1; grind), z7, z8⟩
          · rw [if_neg t, if_neg t]
            obtain ⟨g1, g2, g3, g4⟩ := h42 u.1 u.2.1 u.2.2.1 u.2.2.2.1 u.2.2.2.2.1 s5 u.2.2.2.2.2.2.1 u.2.2.2.2.2.2.2.1 u.2.2.2.2.2.2.2.2.1 u.2.2.2.2.2.2.2.2.2.1 u.2.2.2.2.2.2.2.2.2.2.1 u.2.2.2.2.2.2.2.2.2.2.2.1 s12 i
            refine ⟨?_, ?_, ?_, g2.trans c4, g3.trans c5, c6, c7, g4⟩
            · rw [g1]; exact c1
            · rw [g1]; exact c2
            · rw [g1]; exact c3
        by_cases hi9 : i ≤ 0
        · rw [if_pos hi9]; exact key _ _
        · rw [if_neg hi9]; exact key _ _
theorem c_part_0 {tk nx : Int32 → Int32} {tc : Int32} {tf pf : Nat → Int32} (h : CH tk nx tc tf pf) : ∀ (k f n : Int32) (yj yo y1 y2 y3 y4 y5 : Nat → Int32) (yv yf ys : Int32), ¬ k < 0 → k < tc → ¬ n < 0 → ¬ 60 < n → TV pf tc f n (sP tk nx 10 (pf k.toNatClampNeg) n) (fX2_readPart_0 tc k f n tf pf yj yo y1 y2 y3 y4 y5 yv yf ys) := by
  intro k f n yj yo y1 y2 y3 y4 y5 yv yf ys k0 k1 n0 n6
  have := i_nn n0
  exact c_partL_0 h (fun _ _ _ _ _ _ _ _ _ _ _ _ _ _ => ⟨rfl, rfl⟩) (fun _ _ _ _ _ _ _ _ _ _ _ _ _ _ => ⟨rfl, rfl, rfl, rfl⟩) 61 _ false k n yv yf ys yj yo y1 y2 y3 y4 y5 0 k0 k1 n0 n6 (by decide) n0 (by omega) (by decide)
theorem c_testL_0 {tk nx : Int32 → Int32} {tc : Int32} {tf pf : Nat → Int32} (h : CH tk nx tc tf pf) {f : Int32} {E17 E42 E60 : Int32 → Int32 → Int32 → Int32 → Int32 → Int32 → (Nat → Int32) → (Nat → Int32) → (Nat → Int32) → (Nat → Int32) → (Nat → Int32) → (Nat → Int32) → (Nat → Int32) → Int32 → (Int32 × Int32 × Int32 × Int32 × Int32 × Int32 × (Nat → Int32) × (Nat → Int32) × (Nat → Int32) × (Nat → Int32) × (Nat → Int32) × (Nat → Int32) × (Nat → Int32) × Int32)} (h17 : ∀ a1 a2 a3 a4 a5 a6 a7 a8 a9 a10 a11 a12 a13 a14, (E17 a1 a2 a3 a4 a5 a6 a7 a8 a9 a10 a11 a12 a13 a14).2.1 = a2 ∧ (E17 a1 a2 a3 a4 a5 a6 a7 a8 a9 a10 a11 a12 a13 a14).2.2.2.2.2.2.2.2.2.2.2.2.2 = 0) (h42 : ∀ a1 a2 a3 a4 a5 a6 a7 a8 a9 a10 a11 a12 a13 a14, (E42 a1 a2 a3 a4 a5 a6 a7 a8 a9 a10 a11 a12 a13 a14).1 = a1 ∧ (E42 a1 a2 a3 a4 a5 a6 a7 a8 a9 a10 a11 a12 a13 a14).2.1 = a2 ∧ (E42 a1 a2 a3 a4 a5 a6 a7 a8 a9 a10 a11 a12 a13 a14).2.2.1 = a3 ∧ (E42 a1 a2 a3 a4 a5 a6 a7 a8 a9 a10 a11 a12 a13 a14).2.2.2.2.2.2.2.2.2.2.2.2.2 = 1) : ∀ (m N : Nat) (b : Bool) (k n v3 v4 v5 : Int32) (g6 g7 g8 g9 g10 g11 g12 : Nat → Int32) (i : Int32), ¬ k < 0 → k < tc → ¬ n < 0 → ¬ 60 < n → ¬ i < 0 → ¬ n < i → (60 - n.toInt).toNat < m → (401 - i.toInt).toNat < N → TV pf tc f n (slp tk nx (sP tk nx 10) 317 (-3) m b (pf k.toNatClampNeg) n) (fl_mX2_readTest_0_2 tc tf pf E17 E42 E60 N k f n v3 v4 v5 g6 g7 g8 g9 g10 g11 g12 i) := by
  intro m
  induction m with
  | zero => intro N b k n v3 v4 v5 g6 g7 g8 g9 g10 g11 g12 i k0 k1 n0 n6 i0 i6 hm hN; exact absurd hm (Nat.not_lt_zero _)
  | succ m ih =>
    intro N b k n v3 v4 v5 g6 g7 g8 g9 g10 g11 g12 i k0 k1 n0 n6 i0 i6 hm hN
    cases N with
    | zero => exact absurd hN (Nat.not_lt_zero _)
    | succ N =>
      show TV pf tc f n _ (fb_mX2_readTest_0_2 tc tf pf E17 E42 E60 (fl_mX2_readTest_0_2 tc tf pf E17 E42 E60 N) k f n v3 v4 v5 g6 g7 g8 g9 g10 g11 g12 i)
      unfold fb_mX2_readTest_0_2
      rw [if_neg (show ¬ 400 < i by grind)]
      simp only [bnd]
      have hv := c_part_0 h k f n g6 g7 g8 g9 g10 g11 g12 v3 v4 v5 k0 k1 n0 n6
      generalize fX2_readPart_0 tc k f n tf pf g6 g7 g8 g9 g10 g11 g12 v3 v4 v5 = u at hv ⊢
      rw [slp_s]
      generalize sP tk nx 10 (pf k.toNatClampNeg) n = r at hv ⊢
      cases r with
      | error e =>
        obtain ⟨h2, h7, hp⟩ := hv
        rw [if_pos h7]
        exact ⟨(h17 u.1 u.2.1 u.2.2.1 u.2.2.2.1 u.2.2.2.2.1 u.2.2.2.2.2.1 u.2.2.2.2.2.2.1 u.2.2.2.2.2.2.2.1 u.2.2.2.2.2.2.2.2.1 u.2.2.2.2.2.2.2.2.2.1 u.2.2.2.2.2.2.2.2.2.2.1 u.2.2.2.2.2.2.2.2.2.2.2.1 u.2.2.2.2.2.2.2.2.2.2.2.2.1 i).1.trans h2, (h17 u.1 u.2.1 u.2.2.1 u.2.2.2.1 u.2.2.2.2.1 u.2.2.2.2.2.1 u.2.2.2.2.2.2.1 u.2.2.2.2.2.2.2.1 u.2.2.2.2.2.2.2.2.1 u.2.2.2.2.2.2.2.2.2.1 u.2.2.2.2.2.2.2.2.2.2.1 u.2.2.2.2.2.2.2.2.2.2.2.1 u.2.2.2.2.2.2.2.2.2.2.2.2.1 i).2, hp⟩
      | ok w =>
        obtain ⟨c1, c2, c3, c4, c5, c6, c7, c8⟩ := hv
        rw [if_neg (show ¬ u.2.2.2.2.2.2.2.2.2.2.2.2.2 = 0 by rw [c8]; decide), CH_tok h c1 c2, c3]
        have hn : (w.2.1).toInt ≤ 60 ∧ n.toInt < (w.2.1).toInt := z_le60 c6 c7
        have hi := z_inc60 i6 c6 c7 i0
        have i6' : i.toInt ≤ n.toInt := by
          rw [Int32.lt_iff_toInt_lt] at i6
          omega
        have key : ∀ (s5 : Int32) (s12 : Nat → Int32), TV pf tc f n (if tk w.1 = 317 then exb (slp tk nx (sP tk nx 10) 317 (-3) m true (nx w.1) w.2.1) (fun x => .ok (x.1, x.2.1, (if b then w.2.2 ++ [((-3), [], [])] else w.2.2) ++ x.2.2)) else .ok (w.1, w.2.1, if b then w.2.2 ++ [((-3), [], [])] else w.2.2)) (if tk w.1 = 317 then fl_mX2_readTest_0_2 tc tf pf E17 E42 E60 N (u.1 + 1) u.2.1 u.2.2.1 u.2.2.2.1 u.2.2.2.2.1 s5 u.2.2.2.2.2.2.1 u.2.2.2.2.2.2.2.1 u.2.2.2.2.2.2.2.2.1 u.2.2.2.2.2.2.2.2.2.1 u.2.2.2.2.2.2.2.2.2.2.1 u.2.2.2.2.2.2.2.2.2.2.2.1 s12 (i + 1) else E42 u.1 u.2.1 u.2.2.1 u.2.2.2.1 u.2.2.2.2.1 s5 u.2.2.2.2.2.2.1 u.2.2.2.2.2.2.2.1 u.2.2.2.2.2.2.2.2.1 u.2.2.2.2.2.2.2.2.2.1 u.2.2.2.2.2.2.2.2.2.2.1 u.2.2.2.2.2.2.2.2.2.2.2.1 s12 i) := by
          intro s5 s12
          by_cases t : tk w.1 = 317
          · rw [if_pos t, if_pos t]
            obtain ⟨d0, d1, d2⟩ := CH_nx h c1 c2 c3 (fun q => absurd (t.symm.trans q) (by decide))
            have z := ih N true (u.1 + 1) w.2.1 u.2.2.2.1 u.2.2.2.2.1 s5 u.2.2.2.2.2.2.1 u.2.2.2.2.2.2.2.1 u.2.2.2.2.2.2.2.2.1 u.2.2.2.2.2.2.2.2.2.1 u.2.2.2.2.2.2.2.2.2.2.1 u.2.2.2.2.2.2.2.2.2.2.2.1 s12 (i + 1) d0 d1 (by grind) c7 (by grind) (by grind) (by omega) (by omega)
            rw [d2] at z
            rw [c4, c5]
            generalize slp tk nx (sP tk nx 10) 317 (-3) m true (nx w.1) w.2.1 = r at z ⊢
            cases r with
            | error e => exact z
            | ok x =>
              obtain ⟨z1, z2, z3, z4, z5, z6, z7, z8⟩ := z
              exact ⟨z1, z2, z3, z4, z5, (by show n < x.2.1; grind), z7, z8⟩
          · rw [if_neg t, if_neg t]
            obtain ⟨g1, g2, g3, g4⟩ := h42 u.1 u.2.1 u.2.2.1 u.2.2.2.1 u.2.2.2.2.1 s5 u.2.2.2.2.2.2.1 u.2.2.2.2.2.2.2.1 u.2.2.2.2.2.2.2.2.1 u.2.2.2.2.2.2.2.2.2.1 u.2.2.2.2.2.2.2.2.2.2.1 u.2.2.2.2.2.2.2.2.2.2.2.1 s12 i
            refine ⟨?_, ?_, ?_, g2.trans c4, g3.trans c5, c6, c7, g4⟩
            · rw [g1]; exact c1
            · rw [g1]; exact c2
            · rw [g1]; exact c3
        by_cases hi9 : i ≤ 0
        · rw [if_pos hi9]; exact key _ _
        · rw [if_neg hi9]; exact key _ _
theorem c_test_0 {tk nx : Int32 → Int32} {tc : Int32} {tf pf : Nat → Int32} (h : CH tk nx tc tf pf) : ∀ (k f n : Int32) (yj yo y1 y2 y3 y4 y5 : Nat → Int32) (yv yf ys : Int32), ¬ k < 0 → k < tc → ¬ n < 0 → ¬ 60 < n → TV pf tc f n (sT tk nx 10 (pf k.toNatClampNeg) n) (fX2_readTest_0 tc k f n tf pf yj yo y1 y2 y3 y4 y5 yv yf ys) := by
  intro k f n yj yo y1 y2 y3 y4 y5 yv yf ys k0 k1 n0 n6
  have := i_nn n0
  exact c_testL_0 h (fun _ _ _ _ _ _ _ _ _ _ _ _ _ _ => ⟨rfl, rfl⟩) (fun _ _ _ _ _ _ _ _ _ _ _ _ _ _ => ⟨rfl, rfl, rfl, rfl⟩) 61 _ false k n yv yf ys yj yo y1 y2 y3 y4 y5 0 k0 k1 n0 n6 (by decide) n0 (by omega) (by decide)
