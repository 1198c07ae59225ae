def EB (f g : Nat → Int32) (a : Nat) : Prop := ∀ i, i < a → f i = g i
set_option maxHeartbeats 400000 in
theorem EB_rf {f : Nat → Int32} {a : Nat} : EB f f a := fun _ _ => rfl
set_option maxHeartbeats 400000 in
theorem EB_tr {f g h : Nat → Int32} {a b : Nat} (h1 : EB f g b) (h2 : EB g h a) (hab : a ≤ b) : EB f h a := fun i hi => (h1 i (by omega)).trans (h2 i hi)
set_option maxHeartbeats 400000 in
theorem EB_up {f g : Nat → Int32} {a k : Nat} {v : Int32} (h : EB f g a) (hk : a ≤ k) : EB (upd f k v) g a := fun i hi => (upd_ne (by omega)).trans (h i hi)
set_option maxHeartbeats 400000 in
theorem LA_eb {jF oF jG oG : Nat → Int32} : ∀ (l : List (Int32 × Int32)) (a : Nat), LA jF oF a l → (∀ i, i < a + l.length → jG i = jF i ∧ oG i = oF i) → LA jG oG a l
  | [], _, _, _ => trivial
  | q :: l, a, h, e => by
    obtain ⟨h1, h2, h3⟩ := h
    have e0 := e a (by simp only [List.length_cons]; omega)
    exact ⟨e0.1.trans h1, e0.2.trans h2, LA_eb l (a + 1) h3 (fun i hi => e i (by simp only [List.length_cons]; omega))⟩
set_option maxHeartbeats 400000 in
theorem LA_EB {jF oF jG oG : Nat → Int32} {l : List (Int32 × Int32)} {a b : Nat} (h : LA jF oF a l) (h1 : EB jG jF b) (h2 : EB oG oF b) (hb : a + l.length ≤ b) : LA jG oG a l := LA_eb l a h (fun i hi => ⟨h1 i (by omega), h2 i (by omega)⟩)
set_option maxHeartbeats 400000 in
theorem tn_eq {a : Int32} (h : 0 ≤ a.toInt) : (a.toNatClampNeg : Int) = a.toInt := by show (a.toInt.toNat : Int) = a.toInt; omega
set_option maxHeartbeats 400000 in
theorem TS_eb {V F V2 F2 : Int} {jF oF sF mF eF gF tF jG oG sG mG eG gG tG : Nat → Int32} (hV : V ≤ V2) (hF : F ≤ F2) (hj : ∀ i : Nat, (i : Int) < V → jG i = jF i ∧ oG i = oF i) (hf : ∀ i : Nat, (i : Int) < F → sG i = sF i ∧ mG i = mF i ∧ eG i = eF i ∧ gG i = gF i) : ∀ (l : List (Int32 × List (Int32 × Int32) × List (Int32 × Int32))) (a : Nat), TS V F jF oF sF mF eF gF tF a l → (∀ i, i < a + l.length → tG i = tF i) → TS V2 F2 jG oG sG mG eG gG tG a l
  | [], _, _, _ => trivial
  | q :: l, a, h, e => by
    obtain ⟨h1, h2⟩ := h
    refine ⟨?_, TS_eb hV hF hj hf l (a + 1) h2 (fun i hi => e i (by simp only [List.length_cons]; omega))⟩
    have e0 := e a (by simp only [List.length_cons]; omega)
    by_cases c : q.1 < 0
    · rw [if_pos c] at h1 ⊢
      rw [e0]; exact h1
    · rw [if_neg c] at h1 ⊢
      obtain ⟨f0, f1, g1, g2, s0, s1, s2, s3, l1, l2⟩ := h1
      have n0 := tn_eq (a := tF a) (by rw [Int32.lt_iff_toInt_lt, z_i0] at f0; omega)
      obtain ⟨q1, q2, q3, q4⟩ := hf (tF a).toNatClampNeg (by omega)
      rw [e0, q1, q2, q3, q4]
      have n1 := tn_eq s0
      have n2 := tn_eq (a := mF (tF a).toNatClampNeg) (by omega)
      exact ⟨f0, by omega, g1, g2, s0, s1, s2, by omega, LA_eb _ _ l1 (fun i hi => hj i (by omega)), LA_eb _ _ l2 (fun i hi => hj i (by omega))⟩
set_option maxHeartbeats 400000 in
theorem TS_app {V F : Int} {jF oF sF mF eF gF tF : Nat → Int32} : ∀ (l l2 : List (Int32 × List (Int32 × Int32) × List (Int32 × Int32))) (a : Nat), TS V F jF oF sF mF eF gF tF a l → TS V F jF oF sF mF eF gF tF (a + l.length) l2 → TS V F jF oF sF mF eF gF tF a (l ++ l2)
  | [], l2, a, _, h => by simpa using h
  | q :: l, l2, a, h, h2 => by
    obtain ⟨h1, h3⟩ := h
    exact ⟨h1, TS_app l l2 (a + 1) h3 (by rw [List.length_cons] at h2; rw [show a + 1 + l.length = a + (l.length + 1) from by omega]; exact h2)⟩
set_option maxHeartbeats 400000 in
theorem c_valC {tk nx : Int32 → Int32} {tc k f n yv j v : Int32} {tf pf yj yo : Nat → Int32} (h : CH tk nx tc tf pf) (k0 : ¬ k < 0) (k1 : k < tc) (y1 : yv.toInt ≤ n.toInt) (he : svl (tk (pf k.toNatClampNeg)) (pf k.toNatClampNeg) n = .ok v) : fX2_readValue tc k f n tf pf yj yo yv j = (k + 1, f, n + 1, yv + 1, upd yj yv.toNatClampNeg j, upd yo yv.toNatClampNeg v, 1) := by
  have hn := svl_lt he
  have hy : ¬ (60 : Int32) ≤ yv := by
    have := n6z hn
    rw [Int32.le_iff_toInt_le, show (60 : Int32).toInt = 60 from by decide]; omega
  unfold fX2_readValue
  simp only [bnd, CH_tok h k0 k1, CH_ref h k0 k1, fX1_addValue, if_neg hy, if_pos hn]
  unfold svl at he
  generalize tk (pf k.toNatClampNeg) = t at he ⊢
  by_cases a : t < 300
  · rw [if_pos a] at he ⊢
    by_cases b : t = 259
    · rw [if_pos b] at he; cases he
    · rw [if_neg b] at he ⊢
      by_cases c : (1000 : Int32) ≤ t
      · rw [if_pos c, if_pos hn] at he
        cases he
        rw [if_pos c]
      · rw [if_neg c] at he; cases he
  · rw [if_neg a] at he ⊢
    by_cases q : (311 : Int32) ≤ t
    · rw [if_pos q] at he ⊢
      by_cases b : t = 259
      · rw [if_pos b] at he; cases he
      · rw [if_neg b] at he ⊢
        by_cases c : (1000 : Int32) ≤ t
        · rw [if_pos c, if_pos hn] at he
          cases he
          rw [if_pos c]
        · rw [if_neg c] at he; cases he
    · rw [if_neg q] at he ⊢
      by_cases b : t = 259
      · rw [if_pos b] at he; cases he
      · rw [if_neg b, if_pos hn] at he
        injection he with he
        rw [← he]
        rw [if_neg b]
def SUC (yv : Int32) (yj yo : Nat → Int32) (l : List (Int32 × Int32)) (u : Int32 × Int32 × Int32 × Int32 × (Nat → Int32) × (Nat → Int32) × Int32) : Prop := u.2.2.2.1.toInt = yv.toInt + l.length ∧ EB u.2.2.2.2.1 yj yv.toNatClampNeg ∧ EB u.2.2.2.2.2.1 yo yv.toNatClampNeg ∧ LA u.2.2.2.2.1 u.2.2.2.2.2.1 yv.toNatClampNeg l
set_option maxHeartbeats 400000 in
theorem c_sumLC {tk nx : Int32 → Int32} {tc f : Int32} {tf pf : Nat → Int32} (h : CH tk nx tc tf pf) {E19 E34 E52 : Int32 → Int32 → Int32 → Int32 → (Nat → Int32) → (Nat → Int32) → Int32 → Int32 → (Int32 × Int32 × Int32 × Int32 × (Nat → Int32) × (Nat → Int32) × Int32)} (h34 : ∀ a1 a2 a3 a4 a5 a6 a7 a8, E34 a1 a2 a3 a4 a5 a6 a7 a8 = (a1, a2, a3, a4, a5, a6, 1)) : ∀ (m N : Nat) (k n yv : Int32) (yj yo : Nat → Int32) (i j : Int32) (w : Int32 × Int32 × List (Int32 × Int32)), ¬ k < 0 → k < tc → ¬ i < 0 → ¬ n < i → (401 - i.toInt).toNat < N → 0 ≤ yv.toInt → yv.toInt ≤ n.toInt → ssum tk nx m (pf k.toNatClampNeg) n j = .ok w → SUC yv yj yo w.2.2 (fl_mX2_readSum_4 tc tf pf E19 E34 E52 N k f n yv yj yo i j) := by
  intro m
  induction m with
  | zero => intro N k n yv yj yo i j w k0 k1 i0 i6 hN y0 y1 he; cases he
  | succ m ih =>
    intro N k n yv yj yo i j w k0 k1 i0 i6 hN y0 y1 he
    cases N with
    | zero => exact absurd hN (Nat.not_lt_zero _)
    | succ N =>
      rw [ssum_s] at he
      obtain ⟨v, hv, he⟩ := exb_inv he
      have n9 := svl_lt hv
      have n9' := n6z n9
      have hn := n6y n9
      have ht : ¬ tk (pf k.toNatClampNeg) = 258 := fun q => svl_end (q ▸ hv)
      obtain ⟨k2, hp⟩ := (h.2 k k0 k1).2.2.2 ht
      have k3 := CH_k h k0 k1
      have i6' : i.toInt ≤ n.toInt := by
        rw [Int32.lt_iff_toInt_lt] at i6
        omega
      have i0' := i_nn i0
      have hi : (i + 1).toInt = i.toInt + 1 := zadd1 (by omega)
      obtain ⟨v1, v2⟩ := z_toNat1 (a := yv) y0 (by omega)
      show SUC yv yj yo _ (fb_mX2_readSum_4 tc tf pf E19 E34 E52 (fl_mX2_readSum_4 tc tf pf E19 E34 E52 N) k f n yv yj yo i j)
      unfold fb_mX2_readSum_4
      rw [if_neg (show ¬ 400 < i by rw [Int32.lt_iff_toInt_lt, show (400 : Int32).toInt = 400 from by decide]; omega)]
      simp only [bnd, c_valC (f := f) (yj := yj) (yo := yo) (j := j) h k0 k1 y1 hv]
      rw [if_neg (show ¬ (1 : Int32) = 0 by decide), CH_tok h k3 k2, hp]
      by_cases hj : fX2_joinOf (tk (nx (pf k.toNatClampNeg))) = -1
      · rw [if_pos hj] at he ⊢
        cases he
        rw [h34]
        exact ⟨v1, EB_up EB_rf (Nat.le_refl _), EB_up EB_rf (Nat.le_refl _), pk_us, pk_us, trivial⟩
      · rw [if_neg hj] at he ⊢
        obtain ⟨w2, hw, he⟩ := exb_inv he
        cases he
        have hq : ¬ tk (pf (k + 1).toNatClampNeg) = 258 := fun q => hj (by rw [← hp, q]; exact join_end)
        obtain ⟨k4, hp2⟩ := (h.2 (k + 1) k3 k2).2.2.2 hq
        have k5 := CH_k h k3 k2
        obtain ⟨z1, z2, z3, z4⟩ := ih N (k + 1 + 1) (n + 1) (yv + 1) (upd yj yv.toNatClampNeg j) (upd yo yv.toNatClampNeg v) (i + 1) (fX2_joinOf (tk (nx (pf k.toNatClampNeg)))) w2 k5 k4 (by rw [Int32.lt_iff_toInt_lt, z_i0]; omega) (by rw [Int32.lt_iff_toInt_lt]; omega) (by omega) (by omega) (by omega) (by rw [hp2, hp]; exact hw)
        generalize fl_mX2_readSum_4 tc tf pf E19 E34 E52 N (k + 1 + 1) f (n + 1) (yv + 1) (upd yj yv.toNatClampNeg j) (upd yo yv.toNatClampNeg v) (i + 1) (fX2_joinOf (tk (nx (pf k.toNatClampNeg)))) = u at z1 z2 z3 z4 ⊢
        rw [v2] at z2 z3 z4
        refine ⟨?_, EB_tr z2 (EB_up EB_rf (Nat.le_refl _)) (by omega), EB_tr z3 (EB_up EB_rf (Nat.le_refl _)) (by omega), (z2 _ (by omega)).trans pk_us, (z3 _ (by omega)).trans pk_us, z4⟩
        show u.2.2.2.1.toInt = yv.toInt + (w2.2.2.length + 1 : Nat)
        omega
set_option maxHeartbeats 400000 in
theorem c_sumC {tk nx : Int32 → Int32} {tc k f n yv : Int32} {tf pf yj yo : Nat → Int32} {w : Int32 × Int32 × List (Int32 × Int32)} (h : CH tk nx tc tf pf) (k0 : ¬ k < 0) (k1 : k < tc) (y0 : 0 ≤ yv.toInt) (y1 : yv.toInt ≤ n.toInt) (he : ssum tk nx 61 (pf k.toNatClampNeg) n 0 = .ok w) : SUC yv yj yo w.2.2 (fX2_readSum tc k f n tf pf yj yo yv) :=
  c_sumLC h (fun _ _ _ _ _ _ _ _ => rfl) 61 _ k n yv yj yo 0 0 w k0 k1 (by decide) (by rw [Int32.lt_iff_toInt_lt, z_i0]; omega) (by decide) y0 y1 he
def TSC (n2 yv yf ys : Int32) (yj yo y1 y2 y3 y4 y5 : Nat → Int32) (l : List (Int32 × List (Int32 × Int32) × List (Int32 × Int32))) (u : Int32 × Int32 × Int32 × Int32 × Int32 × Int32 × (Nat → Int32) × (Nat → Int32) × (Nat → Int32) × (Nat → Int32) × (Nat → Int32) × (Nat → Int32) × (Nat → Int32) × Int32) : Prop := yv.toInt ≤ u.2.2.2.1.toInt ∧ u.2.2.2.1.toInt ≤ n2.toInt ∧ u.2.2.2.2.1.toInt = yf.toInt + nfa l ∧ u.2.2.2.2.2.1.toInt = ys.toInt + l.length ∧ EB u.2.2.2.2.2.2.1 yj yv.toNatClampNeg ∧ EB u.2.2.2.2.2.2.2.1 yo yv.toNatClampNeg ∧ EB u.2.2.2.2.2.2.2.2.1 y1 yf.toNatClampNeg ∧ EB u.2.2.2.2.2.2.2.2.2.1 y2 yf.toNatClampNeg ∧ EB u.2.2.2.2.2.2.2.2.2.2.1 y3 yf.toNatClampNeg ∧ EB u.2.2.2.2.2.2.2.2.2.2.2.1 y4 yf.toNatClampNeg ∧ EB u.2.2.2.2.2.2.2.2.2.2.2.2.1 y5 ys.toNatClampNeg ∧ TS u.2.2.2.1.toInt u.2.2.2.2.1.toInt u.2.2.2.2.2.2.1 u.2.2.2.2.2.2.2.1 u.2.2.2.2.2.2.2.2.1 u.2.2.2.2.2.2.2.2.2.1 u.2.2.2.2.2.2.2.2.2.2.1 u.2.2.2.2.2.2.2.2.2.2.2.1 u.2.2.2.2.2.2.2.2.2.2.2.2.1 ys.toNatClampNeg l
def PRE (n yv yf ys : Int32) (l : List (Int32 × List (Int32 × Int32) × List (Int32 × Int32))) : Prop := 0 ≤ yv.toInt ∧ yv.toInt ≤ n.toInt ∧ 0 ≤ yf.toInt ∧ yf.toInt + nfa l ≤ 20 ∧ 0 ≤ ys.toInt ∧ ys.toInt + l.length ≤ 256
set_option maxHeartbeats 400000 in
theorem PRE_l {n yv yf ys : Int32} {l l2 : List (Int32 × List (Int32 × Int32) × List (Int32 × Int32))} (h : PRE n yv yf ys (l ++ l2)) : PRE n yv yf ys l := by
  obtain ⟨h1, h2, h3, h4, h5, h6⟩ := h
  rw [nfa_app] at h4
  rw [List.length_append] at h6
  exact ⟨h1, h2, h3, by omega, h5, by omega⟩
set_option maxHeartbeats 400000 in
theorem PRE_r {n n2 yv yf ys : Int32} {yj yo y1 y2 y3 y4 y5 : Nat → Int32} {l l2 : List (Int32 × List (Int32 × Int32) × List (Int32 × Int32))} {u : Int32 × Int32 × Int32 × Int32 × Int32 × Int32 × (Nat → Int32) × (Nat → Int32) × (Nat → Int32) × (Nat → Int32) × (Nat → Int32) × (Nat → Int32) × (Nat → Int32) × Int32} (h : PRE n yv yf ys (l ++ l2)) (hu : TSC n2 yv yf ys yj yo y1 y2 y3 y4 y5 l u) : PRE n2 u.2.2.2.1 u.2.2.2.2.1 u.2.2.2.2.2.1 l2 := by
  obtain ⟨h1, h2, h3, h4, h5, h6⟩ := h
  obtain ⟨a1, a2, a3, a4, _⟩ := hu
  rw [nfa_app] at h4
  rw [List.length_append] at h6
  exact ⟨by omega, a2, by omega, by omega, by omega, by omega⟩
set_option maxHeartbeats 400000 in
theorem TSC_app {n n2 n3 yv yf ys : Int32} {yj yo y1 y2 y3 y4 y5 : Nat → Int32} {l l2 : List (Int32 × List (Int32 × Int32) × List (Int32 × Int32))} {u v : Int32 × Int32 × Int32 × Int32 × Int32 × Int32 × (Nat → Int32) × (Nat → Int32) × (Nat → Int32) × (Nat → Int32) × (Nat → Int32) × (Nat → Int32) × (Nat → Int32) × Int32} (h : PRE n yv yf ys l) (h1 : TSC n2 yv yf ys yj yo y1 y2 y3 y4 y5 l u) (h2 : TSC n3 u.2.2.2.1 u.2.2.2.2.1 u.2.2.2.2.2.1 u.2.2.2.2.2.2.1 u.2.2.2.2.2.2.2.1 u.2.2.2.2.2.2.2.2.1 u.2.2.2.2.2.2.2.2.2.1 u.2.2.2.2.2.2.2.2.2.2.1 u.2.2.2.2.2.2.2.2.2.2.2.1 u.2.2.2.2.2.2.2.2.2.2.2.2.1 l2 v) : TSC n3 yv yf ys yj yo y1 y2 y3 y4 y5 (l ++ l2) v := by
  obtain ⟨p1, p2, p3, p4, p5, p6⟩ := h
  obtain ⟨a1, a2, a3, a4, b1, b2, b3, b4, b5, b6, b7, a5⟩ := h1
  obtain ⟨c1, c2, c3, c4, d1, d2, d3, d4, d5, d6, d7, c5⟩ := h2
  have e1 := tn_eq p1
  have e2 := tn_eq p3
  have e3 := tn_eq p5
  have e4 := tn_eq (a := u.2.2.2.1) (by omega)
  have e5 := tn_eq (a := u.2.2.2.2.1) (by omega)
  have e6 := tn_eq (a := u.2.2.2.2.2.1) (by omega)
  refine ⟨by omega, c2, by rw [nfa_app]; omega, by rw [List.length_append]; omega, EB_tr d1 b1 (by omega), EB_tr d2 b2 (by omega), EB_tr d3 b3 (by omega), EB_tr d4 b4 (by omega), EB_tr d5 b5 (by omega), EB_tr d6 b6 (by omega), EB_tr d7 b7 (by omega), ?_⟩
  refine TS_app l l2 _ ?_ ?_
  · exact TS_eb (by omega) (by omega) (fun i hi => ⟨d1 i (by omega), d2 i (by omega)⟩) (fun i hi => ⟨d3 i (by omega), d4 i (by omega), d5 i (by omega), d6 i (by omega)⟩) l _ a5 (fun i hi => d7 i (by omega))
  · rw [show ys.toNatClampNeg + l.length = (u.2.2.2.2.2.1).toNatClampNeg from by omega]
    exact c5
set_option maxHeartbeats 400000 in
theorem step_x {yt : Nat → Int32} {ys s : Int32} (h6 : ys.toInt < 256) : fX1_addStep yt ys s = (ys + 1, upd yt ys.toNatClampNeg s) := by
  unfold fX1_addStep
  rw [if_neg (show ¬ (256 : Int32) ≤ ys by rw [Int32.le_iff_toInt_le, show (256 : Int32).toInt = 256 from by decide]; omega)]
  rfl
set_option maxHeartbeats 400000 in
/-- a step more, of the sorts that are no FACT -/
theorem TSC_step {n yv yf ys s a1 a2 a3 a4 : Int32} {yj yo y1 y2 y3 y4 y5 : Nat → Int32} (h : PRE n yv yf ys [(s, [], [])]) (hs : s = -1 ∨ s = -2 ∨ s = -3) : TSC n yv yf ys yj yo y1 y2 y3 y4 y5 [(s, [], [])] (a1, a2, a3, yv, yf, ys + 1, yj, yo, y1, y2, y3, y4, upd y5 ys.toNatClampNeg s, a4) := by
  obtain ⟨p1, p2, p3, p4, p5, p6⟩ := h
  have hneg : s < 0 := by rcases hs with rfl | rfl | rfl <;> decide
  refine ⟨Int.le_refl _, p2, ?_, ?_, EB_rf, EB_rf, EB_rf, EB_rf, EB_rf, EB_rf, EB_up EB_rf (Nat.le_refl _), ?_, trivial⟩
  · show yf.toInt = yf.toInt + nfa [(s, [], [])]
    rw [nfa_1 hs]; omega
  · show (ys + 1).toInt = ys.toInt + 1
    exact zadd1 (by simp at p6; omega)
  · show (if s < 0 then _ else _)
    rw [if_pos hneg]
    exact ⟨pk_us, hs⟩
set_option maxHeartbeats 400000 in
theorem c_cmpC {tk nx : Int32 → Int32} {tc : Int32} {tf pf : Nat → Int32} (h : CH tk nx tc tf pf) (htk : TKH tk nx) : ∀ (k f n : Int32) (yj yo y1 y2 y3 y4 y5 : Nat → Int32) (yv yf ys : Int32) (w : Int32 × Int32 × List (Int32 × List (Int32 × Int32) × List (Int32 × Int32))), ¬ k < 0 → k < tc → ¬ n < 0 → ¬ 60 < n → scm tk nx (pf k.toNatClampNeg) n = .ok w → PRE n yv yf ys w.2.2 → TSC w.2.1 yv yf ys yj yo y1 y2 y3 y4 y5 w.2.2 (fX2_readComparison tc k f n tf pf yj yo y1 y2 y3 y4 y5 yv yf ys) := by
  intro k f n yj yo y1 y2 y3 y4 y5 yv yf ys w k0 k1 n0 n6 he hp
  unfold scm at he
  obtain ⟨a, ha, he⟩ := exb_inv he
  have hs := c_sum (f := f) (yv := yv) (yj := yj) (yo := yo) h k0 k1 n0 n6
  have hc := c_sumC (f := f) (yj := yj) (yo := yo) h k0 k1 hp.1 hp.2.1 ha
  rw [ha] at hs
  have hl := ssum_l htk _ _ _ _ _ (h.2 k k0 k1).2.1 ha
  unfold fX2_readComparison
  simp only [bnd]
  generalize fX2_readSum tc k f n tf pf yj yo yv = u at hs hc ⊢
  obtain ⟨a1, a2, a3, a4, a5, a6, a7, a8⟩ := hs
  rw [if_neg (show ¬ u.2.2.2.2.2.2 = 0 by rw [a8]; decide), CH_tok h a1 a2, a3]
  by_cases hg : fX2_signOf (tk a.1) = -1
  · rw [if_pos hg] at he; cases he
  · rw [if_neg hg] at he ⊢
    rw [a5]
    by_cases hd : a.2.1 < 60
    · rw [if_pos hd] at he ⊢
      obtain ⟨b, hb, he⟩ := exb_inv he
      cases he
      obtain ⟨b0, b1, b2⟩ := CH_nx h a1 a2 a3 (fun q => hg (by rw [q]; exact sign_end))
      obtain ⟨c1, c2, c3, c4⟩ := hc
      obtain ⟨p1, p2, p3, p4, p5, p6⟩ := hp
      have e61 := n6y hd
      have hs2 := c_sum (f := u.2.1) (yv := u.2.2.2.1) (yj := u.2.2.2.2.1) (yo := u.2.2.2.2.2.1) (k := u.1 + 1) (n := a.2.1 + 1) h b0 b1 (by grind) (by grind)
      have hc2 := c_sumC (f := u.2.1) (yj := u.2.2.2.2.1) (yo := u.2.2.2.2.2.1) (k := u.1 + 1) (n := a.2.1 + 1) (yv := u.2.2.2.1) h b0 b1 (by omega) (by omega) (by rw [b2]; exact hb)
      rw [b2, hb] at hs2
      have hl2 := ssum_l htk _ _ _ _ _ (by rw [← b2]; exact (h.2 _ b0 b1).2.1) hb
      generalize fX2_readSum tc (u.1 + 1) u.2.1 (a.2.1 + 1) tf pf u.2.2.2.2.1 u.2.2.2.2.2.1 u.2.2.2.1 = v at hs2 hc2 ⊢
      obtain ⟨d1, d2, d3, d4, d5, d6, d7, d8⟩ := hs2
      obtain ⟨f1, f2, f3, f4⟩ := hc2
      rw [if_neg (show ¬ v.2.2.2.2.2.2 = 0 by rw [d8]; decide)]
      have hsg := sign_in hg
      have m1 : ∀ k : Int32, k < 0 → ¬ fX2_signOf (tk a.1) = k := fun k hk x => hsg.1 (by rw [x]; exact hk)
      have nf : nfa [(fX2_signOf (tk a.1), a.2.2, b.2.2)] = 1 := by
        unfold nfa
        rw [if_neg (m1 _ (by decide)), if_neg (m1 _ (by decide)), if_neg (m1 _ (by decide))]
        rfl
      have p4' : yf.toInt + 1 ≤ 20 := by
        have : (nfa [(fX2_signOf (tk a.1), a.2.2, b.2.2)] : Int) = 1 := by rw [nf]; rfl
        have p4' : yf.toInt + (nfa [(fX2_signOf (tk a.1), a.2.2, b.2.2)] : Int) ≤ 20 := p4
        omega
      have p6' : ys.toInt + 1 ≤ 256 := p6
      have fx : fX1_addFact y1 y2 y3 y4 y5 v.2.2.2.1 yf ys yv u.2.2.2.1 (fX2_signOf (tk a.1)) = (yf + 1, ys + 1, upd y1 yf.toNatClampNeg yv, upd y2 yf.toNatClampNeg u.2.2.2.1, upd y3 yf.toNatClampNeg v.2.2.2.1, upd y4 yf.toNatClampNeg (fX2_signOf (tk a.1)), upd y5 ys.toNatClampNeg yf) := by
        unfold fX1_addFact
        rw [if_neg (show ¬ (20 : Int32) ≤ yf by rw [Int32.le_iff_toInt_le, show (20 : Int32).toInt = 20 from by decide]; omega), step_x (by omega)]
        rfl
      rw [fx]
      have y1' : (yf + 1).toInt = yf.toInt + 1 := zadd1 (by omega)
      have s1' : (ys + 1).toInt = ys.toInt + 1 := zadd1 (by omega)
      have t1 := tn_eq p1
      have t2 := tn_eq (a := u.2.2.2.1) (by omega)
      refine ⟨by show yv.toInt ≤ v.2.2.2.1.toInt; omega, ?_, ?_, ?_, EB_tr f2 c2 (by omega), EB_tr f3 c3 (by omega), EB_up EB_rf (Nat.le_refl _), EB_up EB_rf (Nat.le_refl _), EB_up EB_rf (Nat.le_refl _), EB_up EB_rf (Nat.le_refl _), EB_up EB_rf (Nat.le_refl _), ?_, trivial⟩
      · show v.2.2.2.1.toInt ≤ b.2.1.toInt
        omega
      · show (yf + 1).toInt = yf.toInt + nfa [(fX2_signOf (tk a.1), a.2.2, b.2.2)]
        rw [nf]; omega
      · exact s1'
      · show (if fX2_signOf (tk a.1) < 0 then _ else _)
        rw [if_neg hsg.1]
        show (¬ upd y5 ys.toNatClampNeg yf ys.toNatClampNeg < 0) ∧ (upd y5 ys.toNatClampNeg yf ys.toNatClampNeg).toInt < (yf + 1).toInt ∧ upd y4 yf.toNatClampNeg (fX2_signOf (tk a.1)) (upd y5 ys.toNatClampNeg yf ys.toNatClampNeg).toNatClampNeg = fX2_signOf (tk a.1) ∧ (¬ 4 < fX2_signOf (tk a.1)) ∧ 0 ≤ (upd y1 yf.toNatClampNeg yv (upd y5 ys.toNatClampNeg yf ys.toNatClampNeg).toNatClampNeg).toInt ∧ (upd y1 yf.toNatClampNeg yv (upd y5 ys.toNatClampNeg yf ys.toNatClampNeg).toNatClampNeg).toInt + a.2.2.length = (upd y2 yf.toNatClampNeg u.2.2.2.1 (upd y5 ys.toNatClampNeg yf ys.toNatClampNeg).toNatClampNeg).toInt ∧ (upd y2 yf.toNatClampNeg u.2.2.2.1 (upd y5 ys.toNatClampNeg yf ys.toNatClampNeg).toNatClampNeg).toInt + b.2.2.length = (upd y3 yf.toNatClampNeg v.2.2.2.1 (upd y5 ys.toNatClampNeg yf ys.toNatClampNeg).toNatClampNeg).toInt ∧ (upd y3 yf.toNatClampNeg v.2.2.2.1 (upd y5 ys.toNatClampNeg yf ys.toNatClampNeg).toNatClampNeg).toInt ≤ v.2.2.2.1.toInt ∧ LA v.2.2.2.2.1 v.2.2.2.2.2.1 (upd y1 yf.toNatClampNeg yv (upd y5 ys.toNatClampNeg yf ys.toNatClampNeg).toNatClampNeg).toNatClampNeg a.2.2 ∧ LA v.2.2.2.2.1 v.2.2.2.2.2.1 (upd y2 yf.toNatClampNeg u.2.2.2.1 (upd y5 ys.toNatClampNeg yf ys.toNatClampNeg).toNatClampNeg).toNatClampNeg b.2.2
        simp only [pk_us]
        exact ⟨z_nlt0 p3, by omega, trivial, hsg.2, p1, by omega, by omega, Int.le_refl _, LA_EB c4 f2 f3 (by omega), f4⟩
    · rw [if_neg hd] at he; cases he
set_option maxHeartbeats 400000 in
theorem c_factC_10 {tk nx : Int32 → Int32} {tc : Int32} {tf pf : Nat → Int32} (h : CH tk nx tc tf pf) (htk : TKH tk nx) : ∀ (k f n : Int32) (yj yo y1 y2 y3 y4 y5 : Nat → Int32) (yv yf ys : Int32) (w : Int32 × Int32 × List (Int32 × List (Int32 × Int32) × List (Int32 × Int32))), ¬ k < 0 → k < tc → ¬ n < 0 → ¬ 60 < n → sF tk nx 0 (pf k.toNatClampNeg) n = .ok w → PRE n yv yf ys w.2.2 → TSC w.2.1 yv yf ys yj yo y1 y2 y3 y4 y5 w.2.2 (fX2_readFact_10 tc k f n tf pf yj yo y1 y2 y3 y4 y5 yv yf ys) := by
  intro k f n yj yo y1 y2 y3 y4 y5 yv yf ys w k0 k1 n0 n6 he hp
  unfold fX2_readFact_10
  simp only [bnd, CH_tok h k0 k1, CH_ref h k0 k1]
  have he : sfc0 tk nx (pf k.toNatClampNeg) n = .ok w := he
  unfold sfc0 at he
  by_cases a : tk (pf k.toNatClampNeg) = 319
  · rw [if_pos a] at he; cases he
  · rw [if_neg a] at he ⊢
    by_cases b : tk (pf k.toNatClampNeg) = 91
    · rw [if_pos b] at he; cases he
    · rw [if_neg b] at he ⊢
      have hc := c_cmpC h htk k f n yj yo y1 y2 y3 y4 y5 yv yf ys w k0 k1 n0 n6 he hp
      generalize fX2_readComparison tc k f n tf pf yj yo y1 y2 y3 y4 y5 yv yf ys = u at hc ⊢
      exact hc
set_option maxHeartbeats 400000 in
theorem c_partLC_10 {tk nx : Int32 → Int32} {tc : Int32} {tf pf : Nat → Int32} (h : CH tk nx tc tf pf) (htk : TKH tk nx) {f : Int32} {E17 E42 E60 : Int32 → Int32 → Int32 → Int32 → Int32 → Int32 → (Nat → Int32) → (Nat → Int32) → (Nat → Int32) → (Nat → Int32) → (Nat → Int32) → (Nat → Int32) → (Nat → Int32) → Int32 → (Int32 × Int32 × Int32 × Int32 × Int32 × Int32 × (Nat → Int32) × (Nat → Int32) × (Nat → Int32) × (Nat → Int32) × (Nat → Int32) × (Nat → Int32) × (Nat → Int32) × Int32)} (h42 : ∀ a1 a2 a3 a4 a5 a6 a7 a8 a9 a10 a11 a12 a13 a14, E42 a1 a2 a3 a4 a5 a6 a7 a8 a9 a10 a11 a12 a13 a14 = (a1, a2, a3, a4, a5, a6, a7, a8, a9, a10, a11, a12, a13, 1)) : ∀ (m N : Nat) (b : Bool) (k n v3 v4 v5 : Int32) (g6 g7 g8 g9 g10 g11 g12 : Nat → Int32) (i : Int32) (w : Int32 × Int32 × List (Int32 × List (Int32 × Int32) × List (Int32 × Int32))), ¬ k < 0 → k < tc → ¬ n < 0 → ¬ 60 < n → ¬ i < 0 → ¬ n < i → (b = false ↔ i ≤ 0) → (401 - i.toInt).toNat < N → slp tk nx (sF tk nx 0) 318 (-2) m b (pf k.toNatClampNeg) n = .ok w → PRE n v3 v4 v5 w.2.2 → TSC w.2.1 v3 v4 v5 g6 g7 g8 g9 g10 g11 g12 w.2.2 (fl_mX2_readPart_10_2 tc tf pf E17 E42 E60 N k f n v3 v4 v5 g6 g7 g8 g9 g10 g11 g12 i) := by
  intro m
  induction m with
  | zero => intro N b k n v3 v4 v5 g6 g7 g8 g9 g10 g11 g12 i w k0 k1 n0 n6 i0 i6 hb hN he; cases he
  | succ m ih =>
    intro N b k n v3 v4 v5 g6 g7 g8 g9 g10 g11 g12 i w k0 k1 n0 n6 i0 i6 hb hN he hp
    cases N with
    | zero => exact absurd hN (Nat.not_lt_zero _)
    | succ N =>
      rw [slp_s] at he
      obtain ⟨v, hv, he⟩ := exb_inv he
      have hf := c_fact_10 h k f n g6 g7 g8 g9 g10 g11 g12 v3 v4 v5 k0 k1 n0 n6
      have hf2 : TV pf tc f n (.ok v) (fX2_readFact_10 tc k f n tf pf g6 g7 g8 g9 g10 g11 g12 v3 v4 v5) := by rw [← hv]; exact hf
      have hc := fun hq => c_factC_10 h htk k f n g6 g7 g8 g9 g10 g11 g12 v3 v4 v5 v k0 k1 n0 n6 hv hq
      show TSC w.2.1 v3 v4 v5 g6 g7 g8 g9 g10 g11 g12 w.2.2 (fb_mX2_readPart_10_2 tc tf pf E17 E42 E60 (fl_mX2_readPart_10_2 tc tf pf E17 E42 E60 N) k f n v3 v4 v5 g6 g7 g8 g9 g10 g11 g12 i)
      unfold fb_mX2_readPart_10_2
      rw [if_neg (show ¬ 400 < i by grind)]
      simp only [bnd]
      clear hf
      generalize fX2_readFact_10 tc k f n tf pf g6 g7 g8 g9 g10 g11 g12 v3 v4 v5 = u at hf2 hc ⊢
      obtain ⟨c1, c2, c3, c4, c5, c6, c7, c8⟩ := hf2
      rw [if_neg (show ¬ u.2.2.2.2.2.2.2.2.2.2.2.2.2 = 0 by rw [c8]; decide)]
      have hn : (v.2.1).toInt ≤ 60 ∧ n.toInt < (v.2.1).toInt := z_le60 c6 c7
      have hi := z_inc60 i6 c6 c7 i0
      have i0' := i_nn i0
      have i6' : i.toInt ≤ n.toInt := by
        rw [Int32.lt_iff_toInt_lt] at i6
        omega
      -- the operand, with its sign behind it
      have key : ∀ (l1 : List (Int32 × List (Int32 × Int32) × List (Int32 × Int32))) (s5 : Int32) (s12 : Nat → Int32), PRE n v3 v4 v5 l1 → TSC v.2.1 v3 v4 v5 g6 g7 g8 g9 g10 g11 g12 l1 (u.1, u.2.1, u.2.2.1, u.2.2.2.1, u.2.2.2.2.1, s5, u.2.2.2.2.2.2.1, u.2.2.2.2.2.2.2.1, u.2.2.2.2.2.2.2.2.1, u.2.2.2.2.2.2.2.2.2.1, u.2.2.2.2.2.2.2.2.2.2.1, u.2.2.2.2.2.2.2.2.2.2.2.1, s12, 1) → (if tk v.1 = 318 then exb (slp tk nx (sF tk nx 0) 318 (-2) m true (nx v.1) v.2.1) (fun x => .ok (x.1, x.2.1, l1 ++ x.2.2)) else .ok (v.1, v.2.1, l1)) = .ok w → TSC w.2.1 v3 v4 v5 g6 g7 g8 g9 g10 g11 g12 w.2.2 (if fX2_token tc u.1 tf = 318 then fl_mX2_readPart_10_2 tc tf pf E17 E42 E60 N (u.1 + 1) u.2.1 u.2.2.1 u.2.2.2.1 u.2.2.2.2.1 s5 u.2.2.2.2.2.2.1 u.2.2.2.2.2.2.2.1 u.2.2.2.2.2.2.2.2.1 u.2.2.2.2.2.2.2.2.2.1 u.2.2.2.2.2.2.2.2.2.2.1 u.2.2.2.2.2.2.2.2.2.2.2.1 s12 (i + 1) else E42 u.1 u.2.1 u.2.2.1 u.2.2.2.1 u.2.2.2.2.1 s5 u.2.2.2.2.2.2.1 u.2.2.2.2.2.2.2.1 u.2.2.2.2.2.2.2.2.1 u.2.2.2.2.2.2.2.2.2.1 u.2.2.2.2.2.2.2.2.2.2.1 u.2.2.2.2.2.2.2.2.2.2.2.1 s12 i) := by
        intro l1 s5 s12 hq hu he
        rw [CH_tok h c1 c2, c3]
        by_cases t : tk v.1 = 318
        · rw [if_pos t] at he ⊢
          obtain ⟨x, hx, he⟩ := exb_inv he
          cases he
          obtain ⟨d0, d1, d2⟩ := CH_nx h c1 c2 c3 (fun q => absurd (t.symm.trans q) (by decide))
          have hp2 := PRE_r hp hu
          have z := ih N true (u.1 + 1) v.2.1 u.2.2.2.1 u.2.2.2.2.1 s5 u.2.2.2.2.2.2.1 u.2.2.2.2.2.2.2.1 u.2.2.2.2.2.2.2.2.1 u.2.2.2.2.2.2.2.2.2.1 u.2.2.2.2.2.2.2.2.2.2.1 u.2.2.2.2.2.2.2.2.2.2.2.1 s12 (i + 1) x d0 d1 (by grind) c7 (by rw [Int32.lt_iff_toInt_lt, z_i0]; omega) (by rw [Int32.lt_iff_toInt_lt]; omega) ⟨fun q => (by cases q), fun q => by rw [Int32.le_iff_toInt_le, z_i0] at q; omega⟩ (by omega) (by rw [d2]; exact hx) hp2
          rw [c4, c5]
          exact TSC_app hq hu z
        · rw [if_neg t] at he ⊢
          cases he
          rw [h42]
          exact hu
      by_cases hi9 : i ≤ 0
      · have b9 := hb.mpr hi9
        subst b9
        rw [if_pos hi9]
        have hq : PRE n v3 v4 v5 v.2.2 := by
          by_cases t : tk v.1 = 318
          · rw [if_pos t] at he
            obtain ⟨x, hx, he⟩ := exb_inv he
            cases he
            exact PRE_l hp
          · rw [if_neg t] at he
            cases he
            exact hp
        exact key v.2.2 u.2.2.2.2.2.1 u.2.2.2.2.2.2.2.2.2.2.2.2.1 hq (hc hq) he
      · have b9 : b = true := by
          cases b with
          | false => exact absurd (hb.mp rfl) hi9
          | true => rfl
        subst b9
        rw [if_neg hi9]
        have hq2 : PRE n v3 v4 v5 (v.2.2 ++ [((-2), [], [])]) := by
          by_cases t : tk v.1 = 318
          · rw [if_pos t] at he
            obtain ⟨x, hx, he⟩ := exb_inv he
            cases he
            exact PRE_l hp
          · rw [if_neg t] at he
            cases he
            exact hp
        have hq := PRE_l hq2
        have hcu := hc hq
        have hr := PRE_r hq2 hcu
        rw [step_x (by have := hr.2.2.2.2.2; simp at this; omega)]
        exact key (v.2.2 ++ [((-2), [], [])]) _ _ hq2 (TSC_app hq hcu (TSC_step hr (Or.inr (Or.inl rfl)))) he
set_option maxHeartbeats 400000 in
theorem c_partC_10 {tk nx : Int32 → Int32} {tc : Int32} {tf pf : Nat → Int32} (h : CH tk nx tc tf pf) (htk : TKH tk nx) : ∀ (k f n : Int32) (yj yo y1 y2 y3 y4 y5 : Nat → Int32) (yv yf ys : Int32) (w : Int32 × Int32 × List (Int32 × List (Int32 × Int32) × List (Int32 × Int32))), ¬ k < 0 → k < tc → ¬ n < 0 → ¬ 60 < n → sP tk nx 0 (pf k.toNatClampNeg) n = .ok w → PRE n yv yf ys w.2.2 → TSC w.2.1 yv yf ys yj yo y1 y2 y3 y4 y5 w.2.2 (fX2_readPart_10 tc k f n tf pf yj yo y1 y2 y3 y4 y5 yv yf ys) := by
  intro k f n yj yo y1 y2 y3 y4 y5 yv yf ys w k0 k1 n0 n6 he hp
  exact c_partLC_10 h htk (fun _ _ _ _ _ _ _ _ _ _ _ _ _ _ => rfl) 61 _ false k n yv yf ys yj yo y1 y2 y3 y4 y5 0 w k0 k1 n0 n6 (by decide) n0 ⟨fun _ => Int32.le_refl _, fun _ => rfl⟩ (by decide) he hp
set_option maxHeartbeats 400000 in
theorem c_testLC_10 {tk nx : Int32 → Int32} {tc : Int32} {tf pf : Nat → Int32} (h : CH tk nx tc tf pf) (htk : TKH tk nx) {f : Int32} {E17 E42 E60 : Int32 → Int32 → Int32 → Int32 → Int32 → Int32 → (Nat → Int32) → (Nat → Int32) → (Nat → Int32) → (Nat → Int32) → (Nat → Int32) → (Nat → Int32) → (Nat → Int32) → Int32 → (Int32 × Int32 × Int32 × Int32 × Int32 × Int32 × (Nat → Int32) × (Nat → Int32) × (Nat → Int32) × (Nat → Int32) × (Nat → Int32) × (Nat → Int32) × (Nat → Int32) × Int32)} (h42 : ∀ a1 a2 a3 a4 a5 a6 a7 a8 a9 a10 a11 a12 a13 a14, E42 a1 a2 a3 a4 a5 a6 a7 a8 a9 a10 a11 a12 a13 a14 = (a1, a2, a3, a4, a5, a6, a7, a8, a9, a10, a11, a12, a13, 1)) : ∀ (m N : Nat) (b : Bool) (k n v3 v4 v5 : Int32) (g6 g7 g8 g9 g10 g11 g12 : Nat → Int32) (i : Int32) (w : Int32 × Int32 × List (Int32 × List (Int32 × Int32) × List (Int32 × Int32))), ¬ k < 0 → k < tc → ¬ n < 0 → ¬ 60 < n → ¬ i < 0 → ¬ n < i → (b = false ↔ i ≤ 0) → (401 - i.toInt).toNat < N → slp tk nx (sP tk nx 0) 317 (-3) m b (pf k.toNatClampNeg) n = .ok w → PRE n v3 v4 v5 w.2.2 → TSC w.2.1 v3 v4 v5 g6 g7 g8 g9 g10 g11 g12 w.2.2 (fl_mX2_readTest_10_2 tc tf pf E17 E42 E60 N k f n v3 v4 v5 g6 g7 g8 g9 g10 g11 g12 i) := by
  intro m
  induction m with
  | zero => intro N b k n v3 v4 v5 g6 g7 g8 g9 g10 g11 g12 i w k0 k1 n0 n6 i0 i6 hb hN he; cases he
  | succ m ih =>
    intro N b k n v3 v4 v5 g6 g7 g8 g9 g10 g11 g12 i w k0 k1 n0 n6 i0 i6 hb hN he hp
    cases N with
    | zero => exact absurd hN (Nat.not_lt_zero _)
    | succ N =>
      rw [slp_s] at he
      obtain ⟨v, hv, he⟩ := exb_inv he
      have hf := c_part_10 h k f n g6 g7 g8 g9 g10 g11 g12 v3 v4 v5 k0 k1 n0 n6
      have hf2 : TV pf tc f n (.ok v) (fX2_readPart_10 tc k f n tf pf g6 g7 g8 g9 g10 g11 g12 v3 v4 v5) := by rw [← hv]; exact hf
      have hc := fun hq => c_partC_10 h htk k f n g6 g7 g8 g9 g10 g11 g12 v3 v4 v5 v k0 k1 n0 n6 hv hq
      show TSC w.2.1 v3 v4 v5 g6 g7 g8 g9 g10 g11 g12 w.2.2 (fb_mX2_readTest_10_2 tc tf pf E17 E42 E60 (fl_mX2_readTest_10_2 tc tf pf E17 E42 E60 N) k f n v3 v4 v5 g6 g7 g8 g9 g10 g11 g12 i)
      unfold fb_mX2_readTest_10_2
      rw [if_neg (show ¬ 400 < i by grind)]
      simp only [bnd]
      clear hf
      generalize fX2_readPart_10 tc k f n tf pf g6 g7 g8 g9 g10 g11 g12 v3 v4 v5 = u at hf2 hc ⊢
      obtain ⟨c1, c2, c3, c4, c5, c6, c7, c8⟩ := hf2
      rw [if_neg (show ¬ u.2.2.2.2.2.2.2.2.2.2.2.2.2 = 0 by rw [c8]; decide)]
      have hn : (v.2.1).toInt ≤ 60 ∧ n.toInt < (v.2.1).toInt := z_le60 c6 c7
      have hi := z_inc60 i6 c6 c7 i0
      have i0' := i_nn i0
      have i6' : i.toInt ≤ n.toInt := by
        rw [Int32.lt_iff_toInt_lt] at i6
        omega
      -- the operand, with its sign behind it
      have key : ∀ (l1 : List (Int32 × List (Int32 × Int32) × List (Int32 × Int32))) (s5 : Int32) (s12 : Nat → Int32), PRE n v3 v4 v5 l1 → TSC v.2.1 v3 v4 v5 g6 g7 g8 g9 g10 g11 g12 l1 (u.1, u.2.1, u.2.2.1, u.2.2.2.1, u.2.2.2.2.1, s5, u.2.2.2.2.2.2.1, u.2.2.2.2.2.2.2.1, u.2.2.2.2.2.2.2.2.1, u.2.2.2.2.2.2.2.2.2.1, u.2.2.2.2.2.2.2.2.2.2.1, u.2.2.2.2.2.2.2.2.2.2.2.1, s12, 1) → (if tk v.1 = 317 then exb (slp tk nx (sP tk nx 0) 317 (-3) m true (nx v.1) v.2.1) (fun x => .ok (x.1, x.2.1, l1 ++ x.2.2)) else .ok (v.1, v.2.1, l1)) = .ok w → TSC w.2.1 v3 v4 v5 g6 g7 g8 g9 g10 g11 g12 w.2.2 (if fX2_token tc u.1 tf = 317 then fl_mX2_readTest_10_2 tc tf pf E17 E42 E60 N (u.1 + 1) u.2.1 u.2.2.1 u.2.2.2.1 u.2.2.2.2.1 s5 u.2.2.2.2.2.2.1 u.2.2.2.2.2.2.2.1 u.2.2.2.2.2.2.2.2.1 u.2.2.2.2.2.2.2.2.2.1 u.2.2.2.2.2.2.2.2.2.2.1 u.2.2.2.2.2.2.2.2.2.2.2.1 s12 (i + 1) else E42 u.1 u.2.1 u.2.2.1 u.2.2.2.1 u.2.2.2.2.1 s5 u.2.2.2.2.2.2.1 u.2.2.2.2.2.2.2.1 u.2.2.2.2.2.2.2.2.1 u.2.2.2.2.2.2.2.2.2.1 u.2.2.2.2.2.2.2.2.2.2.1 u.2.2.2.2.2.2.2.2.2.2.2.1 s12 i) := by
        intro l1 s5 s12 hq hu he
        rw [CH_tok h c1 c2, c3]
        by_cases t : tk v.1 = 317
        · rw [if_pos t] at he ⊢
          obtain ⟨x, hx, he⟩ := exb_inv he
          cases he
          obtain ⟨d0, d1, d2⟩ := CH_nx h c1 c2 c3 (fun q => absurd (t.symm.trans q) (by decide))
          have hp2 := PRE_r hp hu
          have z := ih N true (u.1 + 1) v.2.1 u.2.2.2.1 u.2.2.2.2.1 s5 u.2.2.2.2.2.2.1 u.2.2.2.2.2.2.2.1 u.2.2.2.2.2.2.2.2.1 u.2.2.2.2.2.2.2.2.2.1 u.2.2.2.2.2.2.2.2.2.2.1 u.2.2.2.2.2.2.2.2.2.2.2.1 s12 (i + 1) x d0 d1 (by grind) c7 (by rw [Int32.lt_iff_toInt_lt, z_i0]; omega) (by rw [Int32.lt_iff_toInt_lt]; omega) ⟨fun q => (by cases q), fun q => by rw [Int32.le_iff_toInt_le, z_i0] at q; omega⟩ (by omega) (by rw [d2]; exact hx) hp2
          rw [c4, c5]
          exact TSC_app hq hu z
        · rw [if_neg t] at he ⊢
          cases he
          rw [h42]
          exact hu
      by_cases hi9 : i ≤ 0
      · have b9 := hb.mpr hi9
        subst b9
        rw [if_pos hi9]
        have hq : PRE n v3 v4 v5 v.2.2 := by
          by_cases t : tk v.1 = 317
          · rw [if_pos t] at he
            obtain ⟨x, hx, he⟩ := exb_inv he
            cases he
            exact PRE_l hp
          · rw [if_neg t] at he
            cases he
            exact hp
        exact key v.2.2 u.2.2.2.2.2.1 u.2.2.2.2.2.2.2.2.2.2.2.2.1 hq (hc hq) he
      · have b9 : b = true := by
          cases b with
          | false => exact absurd (hb.mp rfl) hi9
          | true => rfl
        subst b9
        rw [if_neg hi9]
        have hq2 : PRE n v3 v4 v5 (v.2.2 ++ [((-3), [], [])]) := by
          by_cases t : tk v.1 = 317
          · rw [if_pos t] at he
            obtain ⟨x, hx, he⟩ := exb_inv he
            cases he
            exact PRE_l hp
          · rw [if_neg t] at he
            cases he
            exact hp
        have hq := PRE_l hq2
        have hcu := hc hq
        have hr := PRE_r hq2 hcu
        rw [step_x (by have := hr.2.2.2.2.2; simp at this; omega)]
        exact key (v.2.2 ++ [((-3), [], [])]) _ _ hq2 (TSC_app hq hcu (TSC_step hr (Or.inr (Or.inr rfl)))) he
set_option maxHeartbeats 400000 in
theorem c_testC_10 {tk nx : Int32 → Int32} {tc : Int32} {tf pf : Nat → Int32} (h : CH tk nx tc tf pf) (htk : TKH tk nx) : ∀ (k f n : Int32) (yj yo y1 y2 y3 y4 y5 : Nat → Int32) (yv yf ys : Int32) (w : Int32 × Int32 × List (Int32 × List (Int32 × Int32) × List (Int32 × Int32))), ¬ k < 0 → k < tc → ¬ n < 0 → ¬ 60 < n → sT tk nx 0 (pf k.toNatClampNeg) n = .ok w → PRE n yv yf ys w.2.2 → TSC w.2.1 yv yf ys yj yo y1 y2 y3 y4 y5 w.2.2 (fX2_readTest_10 tc k f n tf pf yj yo y1 y2 y3 y4 y5 yv yf ys) := by
  intro k f n yj yo y1 y2 y3 y4 y5 yv yf ys w k0 k1 n0 n6 he hp
  exact c_testLC_10 h htk (fun _ _ _ _ _ _ _ _ _ _ _ _ _ _ => rfl) 61 _ false k n yv yf ys yj yo y1 y2 y3 y4 y5 0 w k0 k1 n0 n6 (by decide) n0 ⟨fun _ => Int32.le_refl _, fun _ => rfl⟩ (by decide) he hp
set_option maxHeartbeats 400000 in
theorem c_factC_9 {tk nx : Int32 → Int32} {tc : Int32} {tf pf : Nat → Int32} (h : CH tk nx tc tf pf) (htk : TKH tk nx) : ∀ (k f n : Int32) (yj yo y1 y2 y3 y4 y5 : Nat → Int32) (yv yf ys : Int32) (w : Int32 × Int32 × List (Int32 × List (Int32 × Int32) × List (Int32 × Int32))), ¬ k < 0 → k < tc → ¬ n < 0 → ¬ 60 < n → sF tk nx 1 (pf k.toNatClampNeg) n = .ok w → PRE n yv yf ys w.2.2 → TSC w.2.1 yv yf ys yj yo y1 y2 y3 y4 y5 w.2.2 (fX2_readFact_9 tc k f n tf pf yj yo y1 y2 y3 y4 y5 yv yf ys) := by
  intro k f n yj yo y1 y2 y3 y4 y5 yv yf ys w k0 k1 n0 n6 he hp
  unfold fX2_readFact_9
  simp only [bnd, CH_tok h k0 k1]
  have he : sfc tk nx (sT tk nx 0) (sF tk nx 0) (pf k.toNatClampNeg) n = .ok w := he
  unfold sfc at he
  by_cases a : tk (pf k.toNatClampNeg) = 319
  · rw [if_pos a] at he ⊢
    obtain ⟨v, hv, he⟩ := exb_inv he
    cases he
    obtain ⟨b0, b1, b2⟩ := CH_nx h k0 k1 rfl (fun q => absurd (a.symm.trans q) (by decide))
    have hc := c_factC_10 h htk (k + 1) f n yj yo y1 y2 y3 y4 y5 yv yf ys v b0 b1 n0 n6 (by rw [b2]; exact hv) (PRE_l hp)
    have hr := PRE_r hp hc
    generalize fX2_readFact_10 tc (k + 1) f n tf pf yj yo y1 y2 y3 y4 y5 yv yf ys = u at hc hr ⊢
    rw [step_x (by have := hr.2.2.2.2.2; simp at this; omega)]
    exact TSC_app (PRE_l hp) hc (TSC_step hr (Or.inl rfl))
  · rw [if_neg a] at he ⊢
    by_cases b : tk (pf k.toNatClampNeg) = 91
    · rw [if_pos b] at he ⊢
      obtain ⟨v, hv, he⟩ := exb_inv he
      by_cases t : tk v.1 = 93
      · rw [if_pos t] at he
        cases he
        obtain ⟨b0, b1, b2⟩ := CH_nx h k0 k1 rfl (fun q => absurd (b.symm.trans q) (by decide))
        have hf := c_test_10 h (k + 1) f n yj yo y1 y2 y3 y4 y5 yv yf ys b0 b1 n0 n6
        have hc := c_testC_10 h htk (k + 1) f n yj yo y1 y2 y3 y4 y5 yv yf ys v b0 b1 n0 n6 (by rw [b2]; exact hv) hp
        rw [b2, hv] at hf
        generalize fX2_readTest_10 tc (k + 1) f n tf pf yj yo y1 y2 y3 y4 y5 yv yf ys = u at hf hc ⊢
        obtain ⟨c1, c2, c3, c4, c5, c6, c7, c8⟩ := hf
        rw [if_neg (show ¬ u.2.2.2.2.2.2.2.2.2.2.2.2.2 = 0 by rw [c8]; decide), CH_take h c1 c2 c3, if_pos t]
        exact hc
      · rw [if_neg t] at he; cases he
    · rw [if_neg b] at he ⊢
      have hc := c_cmpC h htk k f n yj yo y1 y2 y3 y4 y5 yv yf ys w k0 k1 n0 n6 he hp
      generalize fX2_readComparison tc k f n tf pf yj yo y1 y2 y3 y4 y5 yv yf ys = u at hc ⊢
      exact hc
set_option maxHeartbeats 400000 in
theorem c_partLC_9 {tk nx : Int32 → Int32} {tc : Int32} {tf pf : Nat → Int32} (h : CH tk nx tc tf pf) (htk : TKH tk nx) {f : Int32} {E17 E42 E60 : Int32 → Int32 → Int32 → Int32 → Int32 → Int32 → (Nat → Int32) → (Nat → Int32) → (Nat → Int32) → (Nat → Int32) → (Nat → Int32) → (Nat → Int32) → (Nat → Int32) → Int32 → (Int32 × Int32 × Int32 × Int32 × Int32 × Int32 × (Nat → Int32) × (Nat → Int32) × (Nat → Int32) × (Nat → Int32) × (Nat → Int32) × (Nat → Int32) × (Nat → Int32) × Int32)} (h42 : ∀ a1 a2 a3 a4 a5 a6 a7 a8 a9 a10 a11 a12 a13 a14, E42 a1 a2 a3 a4 a5 a6 a7 a8 a9 a10 a11 a12 a13 a14 = (a1, a2, a3, a4, a5, a6, a7, a8, a9, a10, a11, a12, a13, 1)) : ∀ (m N : Nat) (b : Bool) (k n v3 v4 v5 : Int32) (g6 g7 g8 g9 g10 g11 g12 : Nat → Int32) (i : Int32) (w : Int32 × Int32 × List (Int32 × List (Int32 × Int32) × List (Int32 × Int32))), ¬ k < 0 → k < tc → ¬ n < 0 → ¬ 60 < n → ¬ i < 0 → ¬ n < i → (b = false ↔ i ≤ 0) → (401 - i.toInt).toNat < N → slp tk nx (sF tk nx 1) 318 (-2) m b (pf k.toNatClampNeg) n = .ok w → PRE n v3 v4 v5 w.2.2 → TSC w.2.1 v3 v4 v5 g6 g7 g8 g9 g10 g11 g12 w.2.2 (fl_mX2_readPart_9_2 tc tf pf E17 E42 E60 N k f n v3 v4 v5 g6 g7 g8 g9 g10 g11 g12 i) := by
  intro m
  induction m with
  | zero => intro N b k n v3 v4 v5 g6 g7 g8 g9 g10 g11 g12 i w k0 k1 n0 n6 i0 i6 hb hN he; cases he
  | succ m ih =>
    intro N b k n v3 v4 v5 g6 g7 g8 g9 g10 g11 g12 i w k0 k1 n0 n6 i0 i6 hb hN he hp
    cases N with
    | zero => exact absurd hN (Nat.not_lt_zero _)
    | succ N =>
      rw [slp_s] at he
      obtain ⟨v, hv, he⟩ := exb_inv he
      have hf := c_fact_9 h k f n g6 g7 g8 g9 g10 g11 g12 v3 v4 v5 k0 k1 n0 n6
      have hf2 : TV pf tc f n (.ok v) (fX2_readFact_9 tc k f n tf pf g6 g7 g8 g9 g10 g11 g12 v3 v4 v5) := by rw [← hv]; exact hf
      have hc := fun hq => c_factC_9 h htk k f n g6 g7 g8 g9 g10 g11 g12 v3 v4 v5 v k0 k1 n0 n6 hv hq
      show TSC w.2.1 v3 v4 v5 g6 g7 g8 g9 g10 g11 g12 w.2.2 (fb_mX2_readPart_9_2 tc tf pf E17 E42 E60 (fl_mX2_readPart_9_2 tc tf pf E17 E42 E60 N) k f n v3 v4 v5 g6 g7 g8 g9 g10 g11 g12 i)
      unfold fb_mX2_readPart_9_2
      rw [if_neg (show ¬ 400 < i by grind)]
      simp only [bnd]
      clear hf
      generalize fX2_readFact_9 tc k f n tf pf g6 g7 g8 g9 g10 g11 g12 v3 v4 v5 = u at hf2 hc ⊢
      obtain ⟨c1, c2, c3, c4, c5, c6, c7, c8⟩ := hf2
      rw [if_neg (show ¬ u.2.2.2.2.2.2.2.2.2.2.2.2.2 = 0 by rw [c8]; decide)]
      have hn : (v.2.1).toInt ≤ 60 ∧ n.toInt < (v.2.1).toInt := z_le60 c6 c7
      have hi := z_inc60 i6 c6 c7 i0
      have i0' := i_nn i0
      have i6' : i.toInt ≤ n.toInt := by
        rw [Int32.lt_iff_toInt_lt] at i6
        omega
      -- the operand, with its sign behind it
      have key : ∀ (l1 : List (Int32 × List (Int32 × Int32) × List (Int32 × Int32))) (s5 : Int32) (s12 : Nat → Int32), PRE n v3 v4 v5 l1 → TSC v.2.1 v3 v4 v5 g6 g7 g8 g9 g10 g11 g12 l1 (u.1, u.2.1, u.2.2.1, u.2.2.2.1, u.2.2.2.2.1, s5, u.2.2.2.2.2.2.1, u.2.2.2.2.2.2.2.1, u.2.2.2.2.2.2.2.2.1, u.2.2.2.2.2.2.2.2.2.1, u.2.2.2.2.2.2.2.2.2.2.1, u.2.2.2.2.2.2.2.2.2.2.2.1, s12, 1) → (if tk v.1 = 318 then exb (slp tk nx (sF tk nx 1) 318 (-2) m true (nx v.1) v.2.1) (fun x => .ok (x.1, x.2.1, l1 ++ x.2.2)) else .ok (v.1, v.2.1, l1)) = .ok w → TSC w.2.1 v3 v4 v5 g6 g7 g8 g9 g10 g11 g12 w.2.2 (if fX2_token tc u.1 tf = 318 then fl_mX2_readPart_9_2 tc tf pf E17 E42 E60 N (u.1 + 1) u.2.1 u.2.2.1 u.2.2.2.1 u.2.2.2.2.1 s5 u.2.2.2.2.2.2.1 u.2.2.2.2.2.2.2.1 u.2.2.2.2.2.2.2.2.1 u.2.2.2.2.2.2.2.2.2.1 u.2.2.2.2.2.2.2.2.2.2.1 u.2.2.2.2.2.2.2.2.2.2.2.1 s12 (i + 1) else E42 u.1 u.2.1 u.2.2.1 u.2.2.2.1 u.2.2.2.2.1 s5 u.2.2.2.2.2.2.1 u.2.2.2.2.2.2.2.1 u.2.2.2.2.2.2.2.2.1 u.2.2.2.2.2.2.2.2.2.1 u.2.2.2.2.2.2.2.2.2.2.1 u.2.2.2.2.2.2.2.2.2.2.2.1 s12 i) := by
        intro l1 s5 s12 hq hu he
        rw [CH_tok h c1 c2, c3]
        by_cases t : tk v.1 = 318
        · rw [if_pos t] at he ⊢
          obtain ⟨x, hx, he⟩ := exb_inv he
          cases he
          obtain ⟨d0, d1, d2⟩ := CH_nx h c1 c2 c3 (fun q => absurd (t.symm.trans q) (by decide))
          have hp2 := PRE_r hp hu
          have z := ih N true (u.1 + 1) v.2.1 u.2.2.2.1 u.2.2.2.2.1 s5 u.2.2.2.2.2.2.1 u.2.2.2.2.2.2.2.1 u.2.2.2.2.2.2.2.2.1 u.2.2.2.2.2.2.2.2.2.1 u.2.2.2.2.2.2.2.2.2.2.1 u.2.2.2.2.2.2.2.2.2.2.2.1 s12 (i + 1) x d0 d1 (by grind) c7 (by rw [Int32.lt_iff_toInt_lt, z_i0]; omega) (by rw [Int32.lt_iff_toInt_lt]; omega) ⟨fun q => (by cases q), fun q => by rw [Int32.le_iff_toInt_le, z_i0] at q; omega⟩ (by omega) (by rw [d2]; exact hx) hp2
          rw [c4, c5]
          exact TSC_app hq hu z
        · rw [if_neg t] at he ⊢
          cases he
          rw [h42]
          exact hu
      by_cases hi9 : i ≤ 0
      · have b9 := hb.mpr hi9
        subst b9
        rw [if_pos hi9]
        have hq : PRE n v3 v4 v5 v.2.2 := by
          by_cases t : tk v.1 = 318
          · rw [if_pos t] at he
            obtain ⟨x, hx, he⟩ := exb_inv he
            cases he
            exact PRE_l hp
          · rw [if_neg t] at he
            cases he
            exact hp
        exact key v.2.2 u.2.2.2.2.2.1 u.2.2.2.2.2.2.2.2.2.2.2.2.1 hq (hc hq) he
      · have b9 : b = true := by
          cases b with
          | false => exact absurd (hb.mp rfl) hi9
          | true => rfl
        subst b9
        rw [if_neg hi9]
        have hq2 : PRE n v3 v4 v5 (v.2.2 ++ [((-2), [], [])]) := by
          by_cases t : tk v.1 = 318
          · rw [if_pos t] at he
            obtain ⟨x, hx, he⟩ := exb_inv he
            cases he
            exact PRE_l hp
          · rw [if_neg t] at he
            cases he
            exact hp
        have hq := PRE_l hq2
        have hcu := hc hq
        have hr := PRE_r hq2 hcu
        rw [step_x (by have := hr.2.2.2.2.2; simp at this; omega)]
        exact key (v.2.2 ++ [((-2), [], [])]) _ _ hq2 (TSC_app hq hcu (TSC_step hr (Or.inr (Or.inl rfl)))) he
set_option maxHeartbeats 400000 in
theorem c_partC_9 {tk nx : Int32 → Int32} {tc : Int32} {tf pf : Nat → Int32} (h : CH tk nx tc tf pf) (htk : TKH tk nx) : ∀ (k f n : Int32) (yj yo y1 y2 y3 y4 y5 : Nat → Int32) (yv yf ys : Int32) (w : Int32 × Int32 × List (Int32 × List (Int32 × Int32) × List (Int32 × Int32))), ¬ k < 0 → k < tc → ¬ n < 0 → ¬ 60 < n → sP tk nx 1 (pf k.toNatClampNeg) n = .ok w → PRE n yv yf ys w.2.2 → TSC w.2.1 yv yf ys yj yo y1 y2 y3 y4 y5 w.2.2 (fX2_readPart_9 tc k f n tf pf yj yo y1 y2 y3 y4 y5 yv yf ys) := by
  intro k f n yj yo y1 y2 y3 y4 y5 yv yf ys w k0 k1 n0 n6 he hp
  exact c_partLC_9 h htk (fun _ _ _ _ _ _ _ _ _ _ _ _ _ _ => rfl) 61 _ false k n yv yf ys yj yo y1 y2 y3 y4 y5 0 w k0 k1 n0 n6 (by decide) n0 ⟨fun _ => Int32.le_refl _, fun _ => rfl⟩ (by decide) he hp
set_option maxHeartbeats 400000 in
theorem c_testLC_9 {tk nx : Int32 → Int32} {tc : Int32} {tf pf : Nat → Int32} (h : CH tk nx tc tf pf) (htk : TKH tk nx) {f : Int32} {E17 E42 E60 : Int32 → Int32 → Int32 → Int32 → Int32 → Int32 → (Nat → Int32) → (Nat → Int32) → (Nat → Int32) → (Nat → Int32) → (Nat → Int32) → (Nat → Int32) → (Nat → Int32) → Int32 → (Int32 × Int32 × Int32 × Int32 × Int32 × Int32 × (Nat → Int32) × (Nat → Int32) × (Nat → Int32) × (Nat → Int32) × (Nat → Int32) × (Nat → Int32) × (Nat → Int32) × Int32)} (h42 : ∀ a1 a2 a3 a4 a5 a6 a7 a8 a9 a10 a11 a12 a13 a14, E42 a1 a2 a3 a4 a5 a6 a7 a8 a9 a10 a11 a12 a13 a14 = (a1, a2, a3, a4, a5, a6, a7, a8, a9, a10, a11, a12, a13, 1)) : ∀ (m N : Nat) (b : Bool) (k n v3 v4 v5 : Int32) (g6 g7 g8 g9 g10 g11 g12 : Nat → Int32) (i : Int32) (w : Int32 × Int32 × List (Int32 × List (Int32 × Int32) × List (Int32 × Int32))), ¬ k < 0 → k < tc → ¬ n < 0 → ¬ 60 < n → ¬ i < 0 → ¬ n < i → (b = false ↔ i ≤ 0) → (401 - i.toInt).toNat < N → slp tk nx (sP tk nx 1) 317 (-3) m b (pf k.toNatClampNeg) n = .ok w → PRE n v3 v4 v5 w.2.2 → TSC w.2.1 v3 v4 v5 g6 g7 g8 g9 g10 g11 g12 w.2.2 (fl_mX2_readTest_9_2 tc tf pf E17 E42 E60 N k f n v3 v4 v5 g6 g7 g8 g9 g10 g11 g12 i) := by
  intro m
  induction m with
  | zero => intro N b k n v3 v4 v5 g6 g7 g8 g9 g10 g11 g12 i w k0 k1 n0 n6 i0 i6 hb hN he; cases he
  | succ m ih =>
    intro N b k n v3 v4 v5 g6 g7 g8 g9 g10 g11 g12 i w k0 k1 n0 n6 i0 i6 hb hN he hp
    cases N with
    | zero => exact absurd hN (Nat.not_lt_zero _)
    | succ N =>
      rw [slp_s] at he
      obtain ⟨v, hv, he⟩ := exb_inv he
      have hf := c_part_9 h k f n g6 g7 g8 g9 g10 g11 g12 v3 v4 v5 k0 k1 n0 n6
      have hf2 : TV pf tc f n (.ok v) (fX2_readPart_9 tc k f n tf pf g6 g7 g8 g9 g10 g11 g12 v3 v4 v5) := by rw [← hv]; exact hf
      have hc := fun hq => c_partC_9 h htk k f n g6 g7 g8 g9 g10 g11 g12 v3 v4 v5 v k0 k1 n0 n6 hv hq
      show TSC w.2.1 v3 v4 v5 g6 g7 g8 g9 g10 g11 g12 w.2.2 (fb_mX2_readTest_9_2 tc tf pf E17 E42 E60 (fl_mX2_readTest_9_2 tc tf pf E17 E42 E60 N) k f n v3 v4 v5 g6 g7 g8 g9 g10 g11 g12 i)
      unfold fb_mX2_readTest_9_2
      rw [if_neg (show ¬ 400 < i by grind)]
      simp only [bnd]
      clear hf
      generalize fX2_readPart_9 tc k f n tf pf g6 g7 g8 g9 g10 g11 g12 v3 v4 v5 = u at hf2 hc ⊢
      obtain ⟨c1, c2, c3, c4, c5, c6, c7, c8⟩ := hf2
      rw [if_neg (show ¬ u.2.2.2.2.2.2.2.2.2.2.2.2.2 = 0 by rw [c8]; decide)]
      have hn : (v.2.1).toInt ≤ 60 ∧ n.toInt < (v.2.1).toInt := z_le60 c6 c7
      have hi := z_inc60 i6 c6 c7 i0
      have i0' := i_nn i0
      have i6' : i.toInt ≤ n.toInt := by
        rw [Int32.lt_iff_toInt_lt] at i6
        omega
      -- the operand, with its sign behind it
      have key : ∀ (l1 : List (Int32 × List (Int32 × Int32) × List (Int32 × Int32))) (s5 : Int32) (s12 : Nat → Int32), PRE n v3 v4 v5 l1 → TSC v.2.1 v3 v4 v5 g6 g7 g8 g9 g10 g11 g12 l1 (u.1, u.2.1, u.2.2.1, u.2.2.2.1, u.2.2.2.2.1, s5, u.2.2.2.2.2.2.1, u.2.2.2.2.2.2.2.1, u.2.2.2.2.2.2.2.2.1, u.2.2.2.2.2.2.2.2.2.1, u.2.2.2.2.2.2.2.2.2.2.1, u.2.2.2.2.2.2.2.2.2.2.2.1, s12, 1) → (if tk v.1 = 317 then exb (slp tk nx (sP tk nx 1) 317 (-3) m true (nx v.1) v.2.1) (fun x => .ok (x.1, x.2.1, l1 ++ x.2.2)) else .ok (v.1, v.2.1, l1)) = .ok w → TSC w.2.1 v3 v4 v5 g6 g7 g8 g9 g10 g11 g12 w.2.2 (if fX2_token tc u.1 tf = 317 then fl_mX2_readTest_9_2 tc tf pf E17 E42 E60 N (u.1 + 1) u.2.1 u.2.2.1 u.2.2.2.1 u.2.2.2.2.1 s5 u.2.2.2.2.2.2.1 u.2.2.2.2.2.2.2.1 u.2.2.2.2.2.2.2.2.1 u.2.2.2.2.2.2.2.2.2.1 u.2.2.2.2.2.2.2.2.2.2.1 u.2.2.2.2.2.2.2.2.2.2.2.1 s12 (i + 1) else E42 u.1 u.2.1 u.2.2.1 u.2.2.2.1 u.2.2.2.2.1 s5 u.2.2.2.2.2.2.1 u.2.2.2.2.2.2.2.1 u.2.2.2.2.2.2.2.2.1 u.2.2.2.2.2.2.2.2.2.1 u.2.2.2.2.2.2.2.2.2.2.1 u.2.2.2.2.2.2.2.2.2.2.2.1 s12 i) := by
        intro l1 s5 s12 hq hu he
        rw [CH_tok h c1 c2, c3]
        by_cases t : tk v.1 = 317
        · rw [if_pos t] at he ⊢
          obtain ⟨x, hx, he⟩ := exb_inv he
          cases he
          obtain ⟨d0, d1, d2⟩ := CH_nx h c1 c2 c3 (fun q => absurd (t.symm.trans q) (by decide))
          have hp2 := PRE_r hp hu
          have z := ih N true (u.1 + 1) v.2.1 u.2.2.2.1 u.2.2.2.2.1 s5 u.2.2.2.2.2.2.1 u.2.2.2.2.2.2.2.1 u.2.2.2.2.2.2.2.2.1 u.2.2.2.2.2.2.2.2.2.1 u.2.2.2.2.2.2.2.2.2.2.1 u.2.2.2.2.2.2.2.2.2.2.2.1 s12 (i + 1) x d0 d1 (by grind) c7 (by rw [Int32.lt_iff_toInt_lt, z_i0]; omega) (by rw [Int32.lt_iff_toInt_lt]; omega) ⟨fun q => (by cases q), fun q => by rw [Int32.le_iff_toInt_le, z_i0] at q; omega⟩ (by omega) (by rw [d2]; exact hx) hp2
          rw [c4, c5]
          exact TSC_app hq hu z
        · rw [if_neg t] at he ⊢
          cases he
          rw [h42]
          exact hu
      by_cases hi9 : i ≤ 0
      · have b9 := hb.mpr hi9
        subst b9
        rw [if_pos hi9]
        have hq : PRE n v3 v4 v5 v.2.2 := by
          by_cases t : tk v.1 = 317
          · rw [if_pos t] at he
            obtain ⟨x, hx, he⟩ := exb_inv he
            cases he
            exact PRE_l hp
          · rw [if_neg t] at he
            cases he
            exact hp
        exact key v.2.2 u.2.2.2.2.2.1 u.2.2.2.2.2.2.2.2.2.2.2.2.1 hq (hc hq) he
      · have b9 : b = true := by
          cases b with
          | false => exact absurd (hb.mp rfl) hi9
          | true => rfl
        subst b9
        rw [if_neg hi9]
        have hq2 : PRE n v3 v4 v5 (v.2.2 ++ [((-3), [], [])]) := by
          by_cases t : tk v.1 = 317
          · rw [if_pos t] at he
            obtain ⟨x, hx, he⟩ := exb_inv he
            cases he
            exact PRE_l hp
          · rw [if_neg t] at he
            cases he
            exact hp
        have hq := PRE_l hq2
        have hcu := hc hq
        have hr := PRE_r hq2 hcu
        rw [step_x (by have := hr.2.2.2.2.2; simp at this; omega)]
        exact key (v.2.2 ++ [((-3), [], [])]) _ _ hq2 (TSC_app hq hcu (TSC_step hr (Or.inr (Or.inr rfl)))) he
set_option maxHeartbeats 400000 in
theorem c_testC_9 {tk nx : Int32 → Int32} {tc : Int32} {tf pf : Nat → Int32} (h : CH tk nx tc tf pf) (htk : TKH tk nx) : ∀ (k f n : Int32) (yj yo y1 y2 y3 y4 y5 : Nat → Int32) (yv yf ys : Int32) (w : Int32 × Int32 × List (Int32 × List (Int32 × Int32) × List (Int32 × Int32))), ¬ k < 0 → k < tc → ¬ n < 0 → ¬ 60 < n → sT tk nx 1 (pf k.toNatClampNeg) n = .ok w → PRE n yv yf ys w.2.2 → TSC w.2.1 yv yf ys yj yo y1 y2 y3 y4 y5 w.2.2 (fX2_readTest_9 tc k f n tf pf yj yo y1 y2 y3 y4 y5 yv yf ys) := by
  intro k f n yj yo y1 y2 y3 y4 y5 yv yf ys w k0 k1 n0 n6 he hp
  exact c_testLC_9 h htk (fun _ _ _ _ _ _ _ _ _ _ _ _ _ _ => rfl) 61 _ false k n yv yf ys yj yo y1 y2 y3 y4 y5 0 w k0 k1 n0 n6 (by decide) n0 ⟨fun _ => Int32.le_refl _, fun _ => rfl⟩ (by decide) he hp
set_option maxHeartbeats 400000 in
theorem c_factC_8 {tk nx : Int32 → Int32} {tc : Int32} {tf pf : Nat → Int32} (h : CH tk nx tc tf pf) (htk : TKH tk nx) : ∀ (k f n : Int32) (yj yo y1 y2 y3 y4 y5 : Nat → Int32) (yv yf ys : Int32) (w : Int32 × Int32 × List (Int32 × List (Int32 × Int32) × List (Int32 × Int32))), ¬ k < 0 → k < tc → ¬ n < 0 → ¬ 60 < n → sF tk nx 2 (pf k.toNatClampNeg) n = .ok w → PRE n yv yf ys w.2.2 → TSC w.2.1 yv yf ys yj yo y1 y2 y3 y4 y5 w.2.2 (fX2_readFact_8 tc k f n tf pf yj yo y1 y2 y3 y4 y5 yv yf ys) := by
  intro k f n yj yo y1 y2 y3 y4 y5 yv yf ys w k0 k1 n0 n6 he hp
  unfold fX2_readFact_8
  simp only [bnd, CH_tok h k0 k1]
  have he : sfc tk nx (sT tk nx 1) (sF tk nx 1) (pf k.toNatClampNeg) n = .ok w := he
  unfold sfc at he
  by_cases a : tk (pf k.toNatClampNeg) = 319
  · rw [if_pos a] at he ⊢
    obtain ⟨v, hv, he⟩ := exb_inv he
    cases he
    obtain ⟨b0, b1, b2⟩ := CH_nx h k0 k1 rfl (fun q => absurd (a.symm.trans q) (by decide))
    have hc := c_factC_9 h htk (k + 1) f n yj yo y1 y2 y3 y4 y5 yv yf ys v b0 b1 n0 n6 (by rw [b2]; exact hv) (PRE_l hp)
    have hr := PRE_r hp hc
    generalize fX2_readFact_9 tc (k + 1) f n tf pf yj yo y1 y2 y3 y4 y5 yv yf ys = u at hc hr ⊢
    rw [step_x (by have := hr.2.2.2.2.2; simp at this; omega)]
    exact TSC_app (PRE_l hp) hc (TSC_step hr (Or.inl rfl))
  · rw [if_neg a] at he ⊢
    by_cases b : tk (pf k.toNatClampNeg) = 91
    · rw [if_pos b] at he ⊢
      obtain ⟨v, hv, he⟩ := exb_inv he
      by_cases t : tk v.1 = 93
      · rw [if_pos t] at he
        cases he
        obtain ⟨b0, b1, b2⟩ := CH_nx h k0 k1 rfl (fun q => absurd (b.symm.trans q) (by decide))
        have hf := c_test_9 h (k + 1) f n yj yo y1 y2 y3 y4 y5 yv yf ys b0 b1 n0 n6
        have hc := c_testC_9 h htk (k + 1) f n yj yo y1 y2 y3 y4 y5 yv yf ys v b0 b1 n0 n6 (by rw [b2]; exact hv) hp
        rw [b2, hv] at hf
        generalize fX2_readTest_9 tc (k + 1) f n tf pf yj yo y1 y2 y3 y4 y5 yv yf ys = u at hf hc ⊢
        obtain ⟨c1, c2, c3, c4, c5, c6, c7, c8⟩ := hf
        rw [if_neg (show ¬ u.2.2.2.2.2.2.2.2.2.2.2.2.2 = 0 by rw [c8]; decide), CH_take h c1 c2 c3, if_pos t]
        exact hc
      · rw [if_neg t] at he; cases he
    · rw [if_neg b] at he ⊢
      have hc := c_cmpC h htk k f n yj yo y1 y2 y3 y4 y5 yv yf ys w k0 k1 n0 n6 he hp
      generalize fX2_readComparison tc k f n tf pf yj yo y1 y2 y3 y4 y5 yv yf ys = u at hc ⊢
      exact hc
set_option maxHeartbeats 400000 in
theorem c_partLC_8 {tk nx : Int32 → Int32} {tc : Int32} {tf pf : Nat → Int32} (h : CH tk nx tc tf pf) (htk : TKH tk nx) {f : Int32} {E17 E42 E60 : Int32 → Int32 → Int32 → Int32 → Int32 → Int32 → (Nat → Int32) → (Nat → Int32) → (Nat → Int32) → (Nat → Int32) → (Nat → Int32) → (Nat → Int32) → (Nat → Int32) → Int32 → (Int32 × Int32 × Int32 × Int32 × Int32 × Int32 × (Nat → Int32) × (Nat → Int32) × (Nat → Int32) × (Nat → Int32) × (Nat → Int32) × (Nat → Int32) × (Nat → Int32) × Int32)} (h42 : ∀ a1 a2 a3 a4 a5 a6 a7 a8 a9 a10 a11 a12 a13 a14, E42 a1 a2 a3 a4 a5 a6 a7 a8 a9 a10 a11 a12 a13 a14 = (a1, a2, a3, a4, a5, a6, a7, a8, a9, a10, a11, a12, a13, 1)) : ∀ (m N : Nat) (b : Bool) (k n v3 v4 v5 : Int32) (g6 g7 g8 g9 g10 g11 g12 : Nat → Int32) (i : Int32) (w : Int32 × Int32 × List (Int32 × List (Int32 × Int32) × List (Int32 × Int32))), ¬ k < 0 → k < tc → ¬ n < 0 → ¬ 60 < n → ¬ i < 0 → ¬ n < i → (b = false ↔ i ≤ 0) → (401 - i.toInt).toNat < N → slp tk nx (sF tk nx 2) 318 (-2) m b (pf k.toNatClampNeg) n = .ok w → PRE n v3 v4 v5 w.2.2 → TSC w.2.1 v3 v4 v5 g6 g7 g8 g9 g10 g11 g12 w.2.2 (fl_mX2_readPart_8_2 tc tf pf E17 E42 E60 N k f n v3 v4 v5 g6 g7 g8 g9 g10 g11 g12 i) := by
  intro m
  induction m with
  | zero => intro N b k n v3 v4 v5 g6 g7 g8 g9 g10 g11 g12 i w k0 k1 n0 n6 i0 i6 hb hN he; cases he
  | succ m ih =>
    intro N b k n v3 v4 v5 g6 g7 g8 g9 g10 g11 g12 i w k0 k1 n0 n6 i0 i6 hb hN he hp
    cases N with
    | zero => exact absurd hN (Nat.not_lt_zero _)
    | succ N =>
      rw [slp_s] at he
      obtain ⟨v, hv, he⟩ := exb_inv he
      have hf := c_fact_8 h k f n g6 g7 g8 g9 g10 g11 g12 v3 v4 v5 k0 k1 n0 n6
      have hf2 : TV pf tc f n (.ok v) (fX2_readFact_8 tc k f n tf pf g6 g7 g8 g9 g10 g11 g12 v3 v4 v5) := by rw [← hv]; exact hf
      have hc := fun hq => c_factC_8 h htk k f n g6 g7 g8 g9 g10 g11 g12 v3 v4 v5 v k0 k1 n0 n6 hv hq
      show TSC w.2.1 v3 v4 v5 g6 g7 g8 g9 g10 g11 g12 w.2.2 (fb_mX2_readPart_8_2 tc tf pf E17 E42 E60 (fl_mX2_readPart_8_2 tc tf pf E17 E42 E60 N) k f n v3 v4 v5 g6 g7 g8 g9 g10 g11 g12 i)
      unfold fb_mX2_readPart_8_2
      rw [if_neg (show ¬ 400 < i by grind)]
      simp only [bnd]
      clear hf
      generalize fX2_readFact_8 tc k f n tf pf g6 g7 g8 g9 g10 g11 g12 v3 v4 v5 = u at hf2 hc ⊢
      obtain ⟨c1, c2, c3, c4, c5, c6, c7, c8⟩ := hf2
      rw [if_neg (show ¬ u.2.2.2.2.2.2.2.2.2.2.2.2.2 = 0 by rw [c8]; decide)]
      have hn : (v.2.1).toInt ≤ 60 ∧ n.toInt < (v.2.1).toInt := z_le60 c6 c7
      have hi := z_inc60 i6 c6 c7 i0
      have i0' := i_nn i0
      have i6' : i.toInt ≤ n.toInt := by
        rw [Int32.lt_iff_toInt_lt] at i6
        omega
      -- the operand, with its sign behind it
      have key : ∀ (l1 : List (Int32 × List (Int32 × Int32) × List (Int32 × Int32))) (s5 : Int32) (s12 : Nat → Int32), PRE n v3 v4 v5 l1 → TSC v.2.1 v3 v4 v5 g6 g7 g8 g9 g10 g11 g12 l1 (u.1, u.2.1, u.2.2.1, u.2.2.2.1, u.2.2.2.2.1, s5, u.2.2.2.2.2.2.1, u.2.2.2.2.2.2.2.1, u.2.2.2.2.2.2.2.2.1, u.2.2.2.2.2.2.2.2.2.1, u.2.2.2.2.2.2.2.2.2.2.1, u.2.2.2.2.2.2.2.2.2.2.2.1, s12, 1) → (if tk v.1 = 318 then exb (slp tk nx (sF tk nx 2) 318 (-2) m true (nx v.1) v.2.1) (fun x => .ok (x.1, x.2.1, l1 ++ x.2.2)) else .ok (v.1, v.2.1, l1)) = .ok w → TSC w.2.1 v3 v4 v5 g6 g7 g8 g9 g10 g11 g12 w.2.2 (if fX2_token tc u.1 tf = 318 then fl_mX2_readPart_8_2 tc tf pf E17 E42 E60 N (u.1 + 1) u.2.1 u.2.2.1 u.2.2.2.1 u.2.2.2.2.1 s5 u.2.2.2.2.2.2.1 u.2.2.2.2.2.2.2.1 u.2.2.2.2.2.2.2.2.1 u.2.2.2.2.2.2.2.2.2.1 u.2.2.2.2.2.2.2.2.2.2.1 u.2.2.2.2.2.2.2.2.2.2.2.1 s12 (i + 1) else E42 u.1 u.2.1 u.2.2.1 u.2.2.2.1 u.2.2.2.2.1 s5 u.2.2.2.2.2.2.1 u.2.2.2.2.2.2.2.1 u.2.2.2.2.2.2.2.2.1 u.2.2.2.2.2.2.2.2.2.1 u.2.2.2.2.2.2.2.2.2.2.1 u.2.2.2.2.2.2.2.2.2.2.2.1 s12 i) := by
        intro l1 s5 s12 hq hu he
        rw [CH_tok h c1 c2, c3]
        by_cases t : tk v.1 = 318
        · rw [if_pos t] at he ⊢
          obtain ⟨x, hx, he⟩ := exb_inv he
          cases he
          obtain ⟨d0, d1, d2⟩ := CH_nx h c1 c2 c3 (fun q => absurd (t.symm.trans q) (by decide))
          have hp2 := PRE_r hp hu
          have z := ih N true (u.1 + 1) v.2.1 u.2.2.2.1 u.2.2.2.2.1 s5 u.2.2.2.2.2.2.1 u.2.2.2.2.2.2.2.1 u.2.2.2.2.2.2.2.2.1 u.2.2.2.2.2.2.2.2.2.1 u.2.2.2.2.2.2.2.2.2.2.1 u.2.2.2.2.2.2.2.2.2.2.2.1 s12 (i + 1) x d0 d1 (by grind) c7 (by rw [Int32.lt_iff_toInt_lt, z_i0]; omega) (by rw [Int32.lt_iff_toInt_lt]; omega) ⟨fun q => (by cases q), fun q => by rw [Int32.le_iff_toInt_le, z_i0] at q; omega⟩ (by omega) (by rw [d2]; exact hx) hp2
          rw [c4, c5]
          exact TSC_app hq hu z
        · rw [if_neg t] at he ⊢
          cases he
          rw [h42]
          exact hu
      by_cases hi9 : i ≤ 0
      · have b9 := hb.mpr hi9
        subst b9
        rw [if_pos hi9]
        have hq : PRE n v3 v4 v5 v.2.2 := by
          by_cases t : tk v.1 = 318
          · rw [if_pos t] at he
            obtain ⟨x, hx, he⟩ := exb_inv he
            cases he
            exact PRE_l hp
          · rw [if_neg t] at he
            cases he
            exact hp
        exact key v.2.2 u.2.2.2.2.2.1 u.2.2.2.2.2.2.2.2.2.2.2.2.1 hq (hc hq) he
      · have b9 : b = true := by
          cases b with
          | false => exact absurd (hb.mp rfl) hi9
          | true => rfl
        subst b9
        rw [if_neg hi9]
        have hq2 : PRE n v3 v4 v5 (v.2.2 ++ [((-2), [], [])]) := by
          by_cases t : tk v.1 = 318
          · rw [if_pos t] at he
            obtain ⟨x, hx, he⟩ := exb_inv he
            cases he
            exact PRE_l hp
          · rw [if_neg t] at he
            cases he
            exact hp
        have hq := PRE_l hq2
        have hcu := hc hq
        have hr := PRE_r hq2 hcu
        rw [step_x (by have := hr.2.2.2.2.2; simp at this; omega)]
        exact key (v.2.2 ++ [((-2), [], [])]) _ _ hq2 (TSC_app hq hcu (TSC_step hr (Or.inr (Or.inl rfl)))) he
set_option maxHeartbeats 400000 in
theorem c_partC_8 {tk nx : Int32 → Int32} {tc : Int32} {tf pf : Nat → Int32} (h : CH tk nx tc tf pf) (htk : TKH tk nx) : ∀ (k f n : Int32) (yj yo y1 y2 y3 y4 y5 : Nat → Int32) (yv yf ys : Int32) (w : Int32 × Int32 × List (Int32 × List (Int32 × Int32) × List (Int32 × Int32))), ¬ k < 0 → k < tc → ¬ n < 0 → ¬ 60 < n → sP tk nx 2 (pf k.toNatClampNeg) n = .ok w → PRE n yv yf ys w.2.2 → TSC w.2.1 yv yf ys yj yo y1 y2 y3 y4 y5 w.2.2 (fX2_readPart_8 tc k f n tf pf yj yo y1 y2 y3 y4 y5 yv yf ys) := by
  intro k f n yj yo y1 y2 y3 y4 y5 yv yf ys w k0 k1 n0 n6 he hp
  exact c_partLC_8 h htk (fun _ _ _ _ _ _ _ _ _ _ _ _ _ _ => rfl) 61 _ false k n yv yf ys yj yo y1 y2 y3 y4 y5 0 w k0 k1 n0 n6 (by decide) n0 ⟨fun _ => Int32.le_refl _, fun _ => rfl⟩ (by decide) he hp
set_option maxHeartbeats 400000 in
theorem c_testLC_8 {tk nx : Int32 → Int32} {tc : Int32} {tf pf : Nat → Int32} (h : CH tk nx tc tf pf) (htk : TKH tk nx) {f : Int32} {E17 E42 E60 : Int32 → Int32 → Int32 → Int32 → Int32 → Int32 → (Nat → Int32) → (Nat → Int32) → (Nat → Int32) → (Nat → Int32) → (Nat → Int32) → (Nat → Int32) → (Nat → Int32) → Int32 → (Int32 × Int32 × Int32 × Int32 × Int32 × Int32 × (Nat → Int32) × (Nat → Int32) × (Nat → Int32) × (Nat → Int32) × (Nat → Int32) × (Nat → Int32) × (Nat → Int32) × Int32)} (h42 : ∀ a1 a2 a3 a4 a5 a6 a7 a8 a9 a10 a11 a12 a13 a14, E42 a1 a2 a3 a4 a5 a6 a7 a8 a9 a10 a11 a12 a13 a14 = (a1, a2, a3, a4, a5, a6, a7, a8, a9, a10, a11, a12, a13, 1)) : ∀ (m N : Nat) (b : Bool) (k n v3 v4 v5 : Int32) (g6 g7 g8 g9 g10 g11 g12 : Nat → Int32) (i : Int32) (w : Int32 × Int32 × List (Int32 × List (Int32 × Int32) × List (Int32 × Int32))), ¬ k < 0 → k < tc → ¬ n < 0 → ¬ 60 < n → ¬ i < 0 → ¬ n < i → (b = false ↔ i ≤ 0) → (401 - i.toInt).toNat < N → slp tk nx (sP tk nx 2) 317 (-3) m b (pf k.toNatClampNeg) n = .ok w → PRE n v3 v4 v5 w.2.2 → TSC w.2.1 v3 v4 v5 g6 g7 g8 g9 g10 g11 g12 w.2.2 (fl_mX2_readTest_8_2 tc tf pf E17 E42 E60 N k f n v3 v4 v5 g6 g7 g8 g9 g10 g11 g12 i) := by
  intro m
  induction m with
  | zero => intro N b k n v3 v4 v5 g6 g7 g8 g9 g10 g11 g12 i w k0 k1 n0 n6 i0 i6 hb hN he; cases he
  | succ m ih =>
    intro N b k n v3 v4 v5 g6 g7 g8 g9 g10 g11 g12 i w k0 k1 n0 n6 i0 i6 hb hN he hp
    cases N with
    | zero => exact absurd hN (Nat.not_lt_zero _)
    | succ N =>
      rw [slp_s] at he
      obtain ⟨v, hv, he⟩ := exb_inv he
      have hf := c_part_8 h k f n g6 g7 g8 g9 g10 g11 g12 v3 v4 v5 k0 k1 n0 n6
      have hf2 : TV pf tc f n (.ok v) (fX2_readPart_8 tc k f n tf pf g6 g7 g8 g9 g10 g11 g12 v3 v4 v5) := by rw [← hv]; exact hf
      have hc := fun hq => c_partC_8 h htk k f n g6 g7 g8 g9 g10 g11 g12 v3 v4 v5 v k0 k1 n0 n6 hv hq
      show TSC w.2.1 v3 v4 v5 g6 g7 g8 g9 g10 g11 g12 w.2.2 (fb_mX2_readTest_8_2 tc tf pf E17 E42 E60 (fl_mX2_readTest_8_2 tc tf pf E17 E42 E60 N) k f n v3 v4 v5 g6 g7 g8 g9 g10 g11 g12 i)
      unfold fb_mX2_readTest_8_2
      rw [if_neg (show ¬ 400 < i by grind)]
      simp only [bnd]
      clear hf
      generalize fX2_readPart_8 tc k f n tf pf g6 g7 g8 g9 g10 g11 g12 v3 v4 v5 = u at hf2 hc ⊢
      obtain ⟨c1, c2, c3, c4, c5, c6, c7, c8⟩ := hf2
      rw [if_neg (show ¬ u.2.2.2.2.2.2.2.2.2.2.2.2.2 = 0 by rw [c8]; decide)]
      have hn : (v.2.1).toInt ≤ 60 ∧ n.toInt < (v.2.1).toInt := z_le60 c6 c7
      have hi := z_inc60 i6 c6 c7 i0
      have i0' := i_nn i0
      have i6' : i.toInt ≤ n.toInt := by
        rw [Int32.lt_iff_toInt_lt] at i6
        omega
      -- the operand, with its sign behind it
      have key : ∀ (l1 : List (Int32 × List (Int32 × Int32) × List (Int32 × Int32))) (s5 : Int32) (s12 : Nat → Int32), PRE n v3 v4 v5 l1 → TSC v.2.1 v3 v4 v5 g6 g7 g8 g9 g10 g11 g12 l1 (u.1, u.2.1, u.2.2.1, u.2.2.2.1, u.2.2.2.2.1, s5, u.2.2.2.2.2.2.1, u.2.2.2.2.2.2.2.1, u.2.2.2.2.2.2.2.2.1, u.2.2.2.2.2.2.2.2.2.1, u.2.2.2.2.2.2.2.2.2.2.1, u.2.2.2.2.2.2.2.2.2.2.2.1, s12, 1) → (if tk v.1 = 317 then exb (slp tk nx (sP tk nx 2) 317 (-3) m true (nx v.1) v.2.1) (fun x => .ok (x.1, x.2.1, l1 ++ x.2.2)) else .ok (v.1, v.2.1, l1)) = .ok w → TSC w.2.1 v3 v4 v5 g6 g7 g8 g9 g10 g11 g12 w.2.2 (if fX2_token tc u.1 tf = 317 then fl_mX2_readTest_8_2 tc tf pf E17 E42 E60 N (u.1 + 1) u.2.1 u.2.2.1 u.2.2.2.1 u.2.2.2.2.1 s5 u.2.2.2.2.2.2.1 u.2.2.2.2.2.2.2.1 u.2.2.2.2.2.2.2.2.1 u.2.2.2.2.2.2.2.2.2.1 u.2.2.2.2.2.2.2.2.2.2.1 u.2.2.2.2.2.2.2.2.2.2.2.1 s12 (i + 1) else E42 u.1 u.2.1 u.2.2.1 u.2.2.2.1 u.2.2.2.2.1 s5 u.2.2.2.2.2.2.1 u.2.2.2.2.2.2.2.1 u.2.2.2.2.2.2.2.2.1 u.2.2.2.2.2.2.2.2.2.1 u.2.2.2.2.2.2.2.2.2.2.1 u.2.2.2.2.2.2.2.2.2.2.2.1 s12 i) := by
        intro l1 s5 s12 hq hu he
        rw [CH_tok h c1 c2, c3]
        by_cases t : tk v.1 = 317
        · rw [if_pos t] at he ⊢
          obtain ⟨x, hx, he⟩ := exb_inv he
          cases he
          obtain ⟨d0, d1, d2⟩ := CH_nx h c1 c2 c3 (fun q => absurd (t.symm.trans q) (by decide))
          have hp2 := PRE_r hp hu
          have z := ih N true (u.1 + 1) v.2.1 u.2.2.2.1 u.2.2.2.2.1 s5 u.2.2.2.2.2.2.1 u.2.2.2.2.2.2.2.1 u.2.2.2.2.2.2.2.2.1 u.2.2.2.2.2.2.2.2.2.1 u.2.2.2.2.2.2.2.2.2.2.1 u.2.2.2.2.2.2.2.2.2.2.2.1 s12 (i + 1) x d0 d1 (by grind) c7 (by rw [Int32.lt_iff_toInt_lt, z_i0]; omega) (by rw [Int32.lt_iff_toInt_lt]; omega) ⟨fun q => (by cases q), fun q => by rw [Int32.le_iff_toInt_le, z_i0] at q; omega⟩ (by omega) (by rw [d2]; exact hx) hp2
          rw [c4, c5]
          exact TSC_app hq hu z
        · rw [if_neg t] at he ⊢
          cases he
          rw [h42]
          exact hu
      by_cases hi9 : i ≤ 0
      · have b9 := hb.mpr hi9
        subst b9
        rw [if_pos hi9]
        have hq : PRE n v3 v4 v5 v.2.2 := by
          by_cases t : tk v.1 = 317
          · rw [if_pos t] at he
            obtain ⟨x, hx, he⟩ := exb_inv he
            cases he
            exact PRE_l hp
          · rw [if_neg t] at he
            cases he
            exact hp
        exact key v.2.2 u.2.2.2.2.2.1 u.2.2.2.2.2.2.2.2.2.2.2.2.1 hq (hc hq) he
      · have b9 : b = true := by
          cases b with
          | false => exact absurd (hb.mp rfl) hi9
          | true => rfl
        subst b9
        rw [if_neg hi9]
        have hq2 : PRE n v3 v4 v5 (v.2.2 ++ [((-3), [], [])]) := by
          by_cases t : tk v.1 = 317
          · rw [if_pos t] at he
            obtain ⟨x, hx, he⟩ := exb_inv he
            cases he
            exact PRE_l hp
          · rw [if_neg t] at he
            cases he
            exact hp
        have hq := PRE_l hq2
        have hcu := hc hq
        have hr := PRE_r hq2 hcu
        rw [step_x (by have := hr.2.2.2.2.2; simp at this; omega)]
        exact key (v.2.2 ++ [((-3), [], [])]) _ _ hq2 (TSC_app hq hcu (TSC_step hr (Or.inr (Or.inr rfl)))) he
set_option maxHeartbeats 400000 in
theorem c_testC_8 {tk nx : Int32 → Int32} {tc : Int32} {tf pf : Nat → Int32} (h : CH tk nx tc tf pf) (htk : TKH tk nx) : ∀ (k f n : Int32) (yj yo y1 y2 y3 y4 y5 : Nat → Int32) (yv yf ys : Int32) (w : Int32 × Int32 × List (Int32 × List (Int32 × Int32) × List (Int32 × Int32))), ¬ k < 0 → k < tc → ¬ n < 0 → ¬ 60 < n → sT tk nx 2 (pf k.toNatClampNeg) n = .ok w → PRE n yv yf ys w.2.2 → TSC w.2.1 yv yf ys yj yo y1 y2 y3 y4 y5 w.2.2 (fX2_readTest_8 tc k f n tf pf yj yo y1 y2 y3 y4 y5 yv yf ys) := by
  intro k f n yj yo y1 y2 y3 y4 y5 yv yf ys w k0 k1 n0 n6 he hp
  exact c_testLC_8 h htk (fun _ _ _ _ _ _ _ _ _ _ _ _ _ _ => rfl) 61 _ false k n yv yf ys yj yo y1 y2 y3 y4 y5 0 w k0 k1 n0 n6 (by decide) n0 ⟨fun _ => Int32.le_refl _, fun _ => rfl⟩ (by decide) he hp
set_option maxHeartbeats 400000 in
theorem c_factC_7 {tk nx : Int32 → Int32} {tc : Int32} {tf pf : Nat → Int32} (h : CH tk nx tc tf pf) (htk : TKH tk nx) : ∀ (k f n : Int32) (yj yo y1 y2 y3 y4 y5 : Nat → Int32) (yv yf ys : Int32) (w : Int32 × Int32 × List (Int32 × List (Int32 × Int32) × List (Int32 × Int32))), ¬ k < 0 → k < tc → ¬ n < 0 → ¬ 60 < n → sF tk nx 3 (pf k.toNatClampNeg) n = .ok w → PRE n yv yf ys w.2.2 → TSC w.2.1 yv yf ys yj yo y1 y2 y3 y4 y5 w.2.2 (fX2_readFact_7 tc k f n tf pf yj yo y1 y2 y3 y4 y5 yv yf ys) := by
  intro k f n yj yo y1 y2 y3 y4 y5 yv yf ys w k0 k1 n0 n6 he hp
  unfold fX2_readFact_7
  simp only [bnd, CH_tok h k0 k1]
  have he : sfc tk nx (sT tk nx 2) (sF tk nx 2) (pf k.toNatClampNeg) n = .ok w := he
  unfold sfc at he
  by_cases a : tk (pf k.toNatClampNeg) = 319
  · rw [if_pos a] at he ⊢
    obtain ⟨v, hv, he⟩ := exb_inv he
    cases he
    obtain ⟨b0, b1, b2⟩ := CH_nx h k0 k1 rfl (fun q => absurd (a.symm.trans q) (by decide))
    have hc := c_factC_8 h htk (k + 1) f n yj yo y1 y2 y3 y4 y5 yv yf ys v b0 b1 n0 n6 (by rw [b2]; exact hv) (PRE_l hp)
    have hr := PRE_r hp hc
    generalize fX2_readFact_8 tc (k + 1) f n tf pf yj yo y1 y2 y3 y4 y5 yv yf ys = u at hc hr ⊢
    rw [step_x (by have := hr.2.2.2.2.2; simp at this; omega)]
    exact TSC_app (PRE_l hp) hc (TSC_step hr (Or.inl rfl))
  · rw [if_neg a] at he ⊢
    by_cases b : tk (pf k.toNatClampNeg) = 91
    · rw [if_pos b] at he ⊢
      obtain ⟨v, hv, he⟩ := exb_inv he
      by_cases t : tk v.1 = 93
      · rw [if_pos t] at he
        cases he
        obtain ⟨b0, b1, b2⟩ := CH_nx h k0 k1 rfl (fun q => absurd (b.symm.trans q) (by decide))
        have hf := c_test_8 h (k + 1) f n yj yo y1 y2 y3 y4 y5 yv yf ys b0 b1 n0 n6
        have hc := c_testC_8 h htk (k + 1) f n yj yo y1 y2 y3 y4 y5 yv yf ys v b0 b1 n0 n6 (by rw [b2]; exact hv) hp
        rw [b2, hv] at hf
        generalize fX2_readTest_8 tc (k + 1) f n tf pf yj yo y1 y2 y3 y4 y5 yv yf ys = u at hf hc ⊢
        obtain ⟨c1, c2, c3, c4, c5, c6, c7, c8⟩ := hf
        rw [if_neg (show ¬ u.2.2.2.2.2.2.2.2.2.2.2.2.2 = 0 by rw [c8]; decide), CH_take h c1 c2 c3, if_pos t]
        exact hc
      · rw [if_neg t] at he; cases he
    · rw [if_neg b] at he ⊢
      have hc := c_cmpC h htk k f n yj yo y1 y2 y3 y4 y5 yv yf ys w k0 k1 n0 n6 he hp
      generalize fX2_readComparison tc k f n tf pf yj yo y1 y2 y3 y4 y5 yv yf ys = u at hc ⊢
      exact hc
set_option maxHeartbeats 400000 in
theorem c_partLC_7 {tk nx : Int32 → Int32} {tc : Int32} {tf pf : Nat → Int32} (h : CH tk nx tc tf pf) (htk : TKH tk nx) {f : Int32} {E17 E42 E60 : Int32 → Int32 → Int32 → Int32 → Int32 → Int32 → (Nat → Int32) → (Nat → Int32) → (Nat → Int32) → (Nat → Int32) → (Nat → Int32) → (Nat → Int32) → (Nat → Int32) → Int32 → (Int32 × Int32 × Int32 × Int32 × Int32 × Int32 × (Nat → Int32) × (Nat → Int32) × (Nat → Int32) × (Nat → Int32) × (Nat → Int32) × (Nat → Int32) × (Nat → Int32) × Int32)} (h42 : ∀ a1 a2 a3 a4 a5 a6 a7 a8 a9 a10 a11 a12 a13 a14, E42 a1 a2 a3 a4 a5 a6 a7 a8 a9 a10 a11 a12 a13 a14 = (a1, a2, a3, a4, a5, a6, a7, a8, a9, a10, a11, a12, a13, 1)) : ∀ (m N : Nat) (b : Bool) (k n v3 v4 v5 : Int32) (g6 g7 g8 g9 g10 g11 g12 : Nat → Int32) (i : Int32) (w : Int32 × Int32 × List (Int32 × List (Int32 × Int32) × List (Int32 × Int32))), ¬ k < 0 → k < tc → ¬ n < 0 → ¬ 60 < n → ¬ i < 0 → ¬ n < i → (b = false ↔ i ≤ 0) → (401 - i.toInt).toNat < N → slp tk nx (sF tk nx 3) 318 (-2) m b (pf k.toNatClampNeg) n = .ok w → PRE n v3 v4 v5 w.2.2 → TSC w.2.1 v3 v4 v5 g6 g7 g8 g9 g10 g11 g12 w.2.2 (fl_mX2_readPart_7_2 tc tf pf E17 E42 E60 N k f n v3 v4 v5 g6 g7 g8 g9 g10 g11 g12 i) := by
  intro m
  induction m with
  | zero => intro N b k n v3 v4 v5 g6 g7 g8 g9 g10 g11 g12 i w k0 k1 n0 n6 i0 i6 hb hN he; cases he
  | succ m ih =>
    intro N b k n v3 v4 v5 g6 g7 g8 g9 g10 g11 g12 i w k0 k1 n0 n6 i0 i6 hb hN he hp
    cases N with
    | zero => exact absurd hN (Nat.not_lt_zero _)
    | succ N =>
      rw [slp_s] at he
      obtain ⟨v, hv, he⟩ := exb_inv he
      have hf := c_fact_7 h k f n g6 g7 g8 g9 g10 g11 g12 v3 v4 v5 k0 k1 n0 n6
      have hf2 : TV pf tc f n (.ok v) (fX2_readFact_7 tc k f n tf pf g6 g7 g8 g9 g10 g11 g12 v3 v4 v5) := by rw [← hv]; exact hf
      have hc := fun hq => c_factC_7 h htk k f n g6 g7 g8 g9 g10 g11 g12 v3 v4 v5 v k0 k1 n0 n6 hv hq
      show TSC w.2.1 v3 v4 v5 g6 g7 g8 g9 g10 g11 g12 w.2.2 (fb_mX2_readPart_7_2 tc tf pf E17 E42 E60 (fl_mX2_readPart_7_2 tc tf pf E17 E42 E60 N) k f n v3 v4 v5 g6 g7 g8 g9 g10 g11 g12 i)
      unfold fb_mX2_readPart_7_2
      rw [if_neg (show ¬ 400 < i by grind)]
      simp only [bnd]
      clear hf
      generalize fX2_readFact_7 tc k f n tf pf g6 g7 g8 g9 g10 g11 g12 v3 v4 v5 = u at hf2 hc ⊢
      obtain ⟨c1, c2, c3, c4, c5, c6, c7, c8⟩ := hf2
      rw [if_neg (show ¬ u.2.2.2.2.2.2.2.2.2.2.2.2.2 = 0 by rw [c8]; decide)]
      have hn : (v.2.1).toInt ≤ 60 ∧ n.toInt < (v.2.1).toInt := z_le60 c6 c7
      have hi := z_inc60 i6 c6 c7 i0
      have i0' := i_nn i0
      have i6' : i.toInt ≤ n.toInt := by
        rw [Int32.lt_iff_toInt_lt] at i6
        omega
      -- the operand, with its sign behind it
      have key : ∀ (l1 : List (Int32 × List (Int32 × Int32) × List (Int32 × Int32))) (s5 : Int32) (s12 : Nat → Int32), PRE n v3 v4 v5 l1 → TSC v.2.1 v3 v4 v5 g6 g7 g8 g9 g10 g11 g12 l1 (u.1, u.2.1, u.2.2.1, u.2.2.2.1, u.2.2.2.2.1, s5, u.2.2.2.2.2.2.1, u.2.2.2.2.2.2.2.1, u.2.2.2.2.2.2.2.2.1, u.2.2.2.2.2.2.2.2.2.1, u.2.2.2.2.2.2.2.2.2.2.1, u.2.2.2.2.2.2.2.2.2.2.2.1, s12, 1) → (if tk v.1 = 318 then exb (slp tk nx (sF tk nx 3) 318 (-2) m true (nx v.1) v.2.1) (fun x => .ok (x.1, x.2.1, l1 ++ x.2.2)) else .ok (v.1, v.2.1, l1)) = .ok w → TSC w.2.1 v3 v4 v5 g6 g7 g8 g9 g10 g11 g12 w.2.2 (if fX2_token tc u.1 tf = 318 then fl_mX2_readPart_7_2 tc tf pf E17 E42 E60 N (u.1 + 1) u.2.1 u.2.2.1 u.2.2.2.1 u.2.2.2.2.1 s5 u.2.2.2.2.2.2.1 u.2.2.2.2.2.2.2.1 u.2.2.2.2.2.2.2.2.1 u.2.2.2.2.2.2.2.2.2.1 u.2.2.2.2.2.2.2.2.2.2.1 u.2.2.2.2.2.2.2.2.2.2.2.1 s12 (i + 1) else E42 u.1 u.2.1 u.2.2.1 u.2.2.2.1 u.2.2.2.2.1 s5 u.2.2.2.2.2.2.1 u.2.2.2.2.2.2.2.1 u.2.2.2.2.2.2.2.2.1 u.2.2.2.2.2.2.2.2.2.1 u.2.2.2.2.2.2.2.2.2.2.1 u.2.2.2.2.2.2.2.2.2.2.2.1 s12 i) := by
        intro l1 s5 s12 hq hu he
        rw [CH_tok h c1 c2, c3]
        by_cases t : tk v.1 = 318
        · rw [if_pos t] at he ⊢
          obtain ⟨x, hx, he⟩ := exb_inv he
          cases he
          obtain ⟨d0, d1, d2⟩ := CH_nx h c1 c2 c3 (fun q => absurd (t.symm.trans q) (by decide))
          have hp2 := PRE_r hp hu
          have z := ih N true (u.1 + 1) v.2.1 u.2.2.2.1 u.2.2.2.2.1 s5 u.2.2.2.2.2.2.1 u.2.2.2.2.2.2.2.1 u.2.2.2.2.2.2.2.2.1 u.2.2.2.2.2.2.2.2.2.1 u.2.2.2.2.2.2.2.2.2.2.1 u.2.2.2.2.2.2.2.2.2.2.2.1 s12 (i + 1) x d0 d1 (by grind) c7 (by rw [Int32.lt_iff_toInt_lt, z_i0]; omega) (by rw [Int32.lt_iff_toInt_lt]; omega) ⟨fun q => (by cases q), fun q => by rw [Int32.le_iff_toInt_le, z_i0] at q; omega⟩ (by omega) (by rw [d2]; exact hx) hp2
          rw [c4, c5]
          exact TSC_app hq hu z
        · rw [if_neg t] at he ⊢
          cases he
          rw [h42]
          exact hu
      by_cases hi9 : i ≤ 0
      · have b9 := hb.mpr hi9
        subst b9
        rw [if_pos hi9]
        have hq : PRE n v3 v4 v5 v.2.2 := by
          by_cases t : tk v.1 = 318
          · rw [if_pos t] at he
            obtain ⟨x, hx, he⟩ := exb_inv he
            cases he
            exact PRE_l hp
          · rw [if_neg t] at he
            cases he
            exact hp
        exact key v.2.2 u.2.2.2.2.2.1 u.2.2.2.2.2.2.2.2.2.2.2.2.1 hq (hc hq) he
      · have b9 : b = true := by
          cases b with
          | false => exact absurd (hb.mp rfl) hi9
          | true => rfl
        subst b9
        rw [if_neg hi9]
        have hq2 : PRE n v3 v4 v5 (v.2.2 ++ [((-2), [], [])]) := by
          by_cases t : tk v.1 = 318
          · rw [if_pos t] at he
            obtain ⟨x, hx, he⟩ := exb_inv he
            cases he
            exact PRE_l hp
          · rw [if_neg t] at he
            cases he
            exact hp
        have hq := PRE_l hq2
        have hcu := hc hq
        have hr := PRE_r hq2 hcu
        rw [step_x (by have := hr.2.2.2.2.2; simp at this; omega)]
        exact key (v.2.2 ++ [((-2), [], [])]) _ _ hq2 (TSC_app hq hcu (TSC_step hr (Or.inr (Or.inl rfl)))) he
set_option maxHeartbeats 400000 in
theorem c_partC_7 {tk nx : Int32 → Int32} {tc : Int32} {tf pf : Nat → Int32} (h : CH tk nx tc tf pf) (htk : TKH tk nx) : ∀ (k f n : Int32) (yj yo y1 y2 y3 y4 y5 : Nat → Int32) (yv yf ys : Int32) (w : Int32 × Int32 × List (Int32 × List (Int32 × Int32) × List (Int32 × Int32))), ¬ k < 0 → k < tc → ¬ n < 0 → ¬ 60 < n → sP tk nx 3 (pf k.toNatClampNeg) n = .ok w → PRE n yv yf ys w.2.2 → TSC w.2.1 yv yf ys yj yo y1 y2 y3 y4 y5 w.2.2 (fX2_readPart_7 tc k f n tf pf yj yo y1 y2 y3 y4 y5 yv yf ys) := by
  intro k f n yj yo y1 y2 y3 y4 y5 yv yf ys w k0 k1 n0 n6 he hp
  exact c_partLC_7 h htk (fun _ _ _ _ _ _ _ _ _ _ _ _ _ _ => rfl) 61 _ false k n yv yf ys yj yo y1 y2 y3 y4 y5 0 w k0 k1 n0 n6 (by decide) n0 ⟨fun _ => Int32.le_refl _, fun _ => rfl⟩ (by decide) he hp
set_option maxHeartbeats 400000 in
theorem c_testLC_7 {tk nx : Int32 → Int32} {tc : Int32} {tf pf : Nat → Int32} (h : CH tk nx tc tf pf) (htk : TKH tk nx) {f : Int32} {E17 E42 E60 : Int32 → Int32 → Int32 → Int32 → Int32 → Int32 → (Nat → Int32) → (Nat → Int32) → (Nat → Int32) → (Nat → Int32) → (Nat → Int32) → (Nat → Int32) → (Nat → Int32) → Int32 → (Int32 × Int32 × Int32 × Int32 × Int32 × Int32 × (Nat → Int32) × (Nat → Int32) × (Nat → Int32) × (Nat → Int32) × (Nat → Int32) × (Nat → Int32) × (Nat → Int32) × Int32)} (h42 : ∀ a1 a2 a3 a4 a5 a6 a7 a8 a9 a10 a11 a12 a13 a14, E42 a1 a2 a3 a4 a5 a6 a7 a8 a9 a10 a11 a12 a13 a14 = (a1, a2, a3, a4, a5, a6, a7, a8, a9, a10, a11, a12, a13, 1)) : ∀ (m N : Nat) (b : Bool) (k n v3 v4 v5 : Int32) (g6 g7 g8 g9 g10 g11 g12 : Nat → Int32) (i : Int32) (w : Int32 × Int32 × List (Int32 × List (Int32 × Int32) × List (Int32 × Int32))), ¬ k < 0 → k < tc → ¬ n < 0 → ¬ 60 < n → ¬ i < 0 → ¬ n < i → (b = false ↔ i ≤ 0) → (401 - i.toInt).toNat < N → slp tk nx (sP tk nx 3) 317 (-3) m b (pf k.toNatClampNeg) n = .ok w → PRE n v3 v4 v5 w.2.2 → TSC w.2.1 v3 v4 v5 g6 g7 g8 g9 g10 g11 g12 w.2.2 (fl_mX2_readTest_7_2 tc tf pf E17 E42 E60 N k f n v3 v4 v5 g6 g7 g8 g9 g10 g11 g12 i) := by
  intro m
  induction m with
  | zero => intro N b k n v3 v4 v5 g6 g7 g8 g9 g10 g11 g12 i w k0 k1 n0 n6 i0 i6 hb hN he; cases he
  | succ m ih =>
    intro N b k n v3 v4 v5 g6 g7 g8 g9 g10 g11 g12 i w k0 k1 n0 n6 i0 i6 hb hN he hp
    cases N with
    | zero => exact absurd hN (Nat.not_lt_zero _)
    | succ N =>
      rw [slp_s] at he
      obtain ⟨v, hv, he⟩ := exb_inv he
      have hf := c_part_7 h k f n g6 g7 g8 g9 g10 g11 g12 v3 v4 v5 k0 k1 n0 n6
      have hf2 : TV pf tc f n (.ok v) (fX2_readPart_7 tc k f n tf pf g6 g7 g8 g9 g10 g11 g12 v3 v4 v5) := by rw [← hv]; exact hf
      have hc := fun hq => c_partC_7 h htk k f n g6 g7 g8 g9 g10 g11 g12 v3 v4 v5 v k0 k1 n0 n6 hv hq
      show TSC w.2.1 v3 v4 v5 g6 g7 g8 g9 g10 g11 g12 w.2.2 (fb_mX2_readTest_7_2 tc tf pf E17 E42 E60 (fl_mX2_readTest_7_2 tc tf pf E17 E42 E60 N) k f n v3 v4 v5 g6 g7 g8 g9 g10 g11 g12 i)
      unfold fb_mX2_readTest_7_2
      rw [if_neg (show ¬ 400 < i by grind)]
      simp only [bnd]
      clear hf
      generalize fX2_readPart_7 tc k f n tf pf g6 g7 g8 g9 g10 g11 g12 v3 v4 v5 = u at hf2 hc ⊢
      obtain ⟨c1, c2, c3, c4, c5, c6, c7, c8⟩ := hf2
      rw [if_neg (show ¬ u.2.2.2.2.2.2.2.2.2.2.2.2.2 = 0 by rw [c8]; decide)]
      have hn : (v.2.1).toInt ≤ 60 ∧ n.toInt < (v.2.1).toInt := z_le60 c6 c7
      have hi := z_inc60 i6 c6 c7 i0
      have i0' := i_nn i0
      have i6' : i.toInt ≤ n.toInt := by
        rw [Int32.lt_iff_toInt_lt] at i6
        omega
      -- the operand, with its sign behind it
      have key : ∀ (l1 : List (Int32 × List (Int32 × Int32) × List (Int32 × Int32))) (s5 : Int32) (s12 : Nat → Int32), PRE n v3 v4 v5 l1 → TSC v.2.1 v3 v4 v5 g6 g7 g8 g9 g10 g11 g12 l1 (u.1, u.2.1, u.2.2.1, u.2.2.2.1, u.2.2.2.2.1, s5, u.2.2.2.2.2.2.1, u.2.2.2.2.2.2.2.1, u.2.2.2.2.2.2.2.2.1, u.2.2.2.2.2.2.2.2.2.1, u.2.2.2.2.2.2.2.2.2.2.1, u.2.2.2.2.2.2.2.2.2.2.2.1, s12, 1) → (if tk v.1 = 317 then exb (slp tk nx (sP tk nx 3) 317 (-3) m true (nx v.1) v.2.1) (fun x => .ok (x.1, x.2.1, l1 ++ x.2.2)) else .ok (v.1, v.2.1, l1)) = .ok w → TSC w.2.1 v3 v4 v5 g6 g7 g8 g9 g10 g11 g12 w.2.2 (if fX2_token tc u.1 tf = 317 then fl_mX2_readTest_7_2 tc tf pf E17 E42 E60 N (u.1 + 1) u.2.1 u.2.2.1 u.2.2.2.1 u.2.2.2.2.1 s5 u.2.2.2.2.2.2.1 u.2.2.2.2.2.2.2.1 u.2.2.2.2.2.2.2.2.1 u.2.2.2.2.2.2.2.2.2.1 u.2.2.2.2.2.2.2.2.2.2.1 u.2.2.2.2.2.2.2.2.2.2.2.1 s12 (i + 1) else E42 u.1 u.2.1 u.2.2.1 u.2.2.2.1 u.2.2.2.2.1 s5 u.2.2.2.2.2.2.1 u.2.2.2.2.2.2.2.1 u.2.2.2.2.2.2.2.2.1 u.2.2.2.2.2.2.2.2.2.1 u.2.2.2.2.2.2.2.2.2.2.1 u.2.2.2.2.2.2.2.2.2.2.2.1 s12 i) := by
        intro l1 s5 s12 hq hu he
        rw [CH_tok h c1 c2, c3]
        by_cases t : tk v.1 = 317
        · rw [if_pos t] at he ⊢
          obtain ⟨x, hx, he⟩ := exb_inv he
          cases he
          obtain ⟨d0, d1, d2⟩ := CH_nx h c1 c2 c3 (fun q => absurd (t.symm.trans q) (by decide))
          have hp2 := PRE_r hp hu
          have z := ih N true (u.1 + 1) v.2.1 u.2.2.2.1 u.2.2.2.2.1 s5 u.2.2.2.2.2.2.1 u.2.2.2.2.2.2.2.1 u.2.2.2.2.2.2.2.2.1 u.2.2.2.2.2.2.2.2.2.1 u.2.2.2.2.2.2.2.2.2.2.1 u.2.2.2.2.2.2.2.2.2.2.2.1 s12 (i + 1) x d0 d1 (by grind) c7 (by rw [Int32.lt_iff_toInt_lt, z_i0]; omega) (by rw [Int32.lt_iff_toInt_lt]; omega) ⟨fun q => (by cases q), fun q => by rw [Int32.le_iff_toInt_le, z_i0] at q; omega⟩ (by omega) (by rw [d2]; exact hx) hp2
          rw [c4, c5]
          exact TSC_app hq hu z
        · rw [if_neg t] at he ⊢
          cases he
          rw [h42]
          exact hu
      by_cases hi9 : i ≤ 0
      · have b9 := hb.mpr hi9
        subst b9
        rw [if_pos hi9]
        have hq : PRE n v3 v4 v5 v.2.2 := by
          by_cases t : tk v.1 = 317
          · rw [if_pos t] at he
            obtain ⟨x, hx, he⟩ := exb_inv he
            cases he
            exact PRE_l hp
          · rw [if_neg t] at he
            cases he
            exact hp
        exact key v.2.2 u.2.2.2.2.2.1 u.2.2.2.2.2.2.2.2.2.2.2.2.1 hq (hc hq) he
      · have b9 : b = true := by
          cases b with
          | false => exact absurd (hb.mp rfl) hi9
          | true => rfl
        subst b9
        rw [if_neg hi9]
        have hq2 : PRE n v3 v4 v5 (v.2.2 ++ [((-3), [], [])]) := by
          by_cases t : tk v.1 = 317
          · rw [if_pos t] at he
            obtain ⟨x, hx, he⟩ := exb_inv he
            cases he
            exact PRE_l hp
          · rw [if_neg t] at he
            cases he
            exact hp
        have hq := PRE_l hq2
        have hcu := hc hq
        have hr := PRE_r hq2 hcu
        rw [step_x (by have := hr.2.2.2.2.2; simp at this; omega)]
        exact key (v.2.2 ++ [((-3), [], [])]) _ _ hq2 (TSC_app hq hcu (TSC_step hr (Or.inr (Or.inr rfl)))) he
set_option maxHeartbeats 400000 in
theorem c_testC_7 {tk nx : Int32 → Int32} {tc : Int32} {tf pf : Nat → Int32} (h : CH tk nx tc tf pf) (htk : TKH tk nx) : ∀ (k f n : Int32) (yj yo y1 y2 y3 y4 y5 : Nat → Int32) (yv yf ys : Int32) (w : Int32 × Int32 × List (Int32 × List (Int32 × Int32) × List (Int32 × Int32))), ¬ k < 0 → k < tc → ¬ n < 0 → ¬ 60 < n → sT tk nx 3 (pf k.toNatClampNeg) n = .ok w → PRE n yv yf ys w.2.2 → TSC w.2.1 yv yf ys yj yo y1 y2 y3 y4 y5 w.2.2 (fX2_readTest_7 tc k f n tf pf yj yo y1 y2 y3 y4 y5 yv yf ys) := by
  intro k f n yj yo y1 y2 y3 y4 y5 yv yf ys w k0 k1 n0 n6 he hp
  exact c_testLC_7 h htk (fun _ _ _ _ _ _ _ _ _ _ _ _ _ _ => rfl) 61 _ false k n yv yf ys yj yo y1 y2 y3 y4 y5 0 w k0 k1 n0 n6 (by decide) n0 ⟨fun _ => Int32.le_refl _, fun _ => rfl⟩ (by decide) he hp
set_option maxHeartbeats 400000 in
theorem c_factC_6 {tk nx : Int32 → Int32} {tc : Int32} {tf pf : Nat → Int32} (h : CH tk nx tc tf pf) (htk : TKH tk nx) : ∀ (k f n : Int32) (yj yo y1 y2 y3 y4 y5 : Nat → Int32) (yv yf ys : Int32) (w : Int32 × Int32 × List (Int32 × List (Int32 × Int32) × List (Int32 × Int32))), ¬ k < 0 → k < tc → ¬ n < 0 → ¬ 60 < n → sF tk nx 4 (pf k.toNatClampNeg) n = .ok w → PRE n yv yf ys w.2.2 → TSC w.2.1 yv yf ys yj yo y1 y2 y3 y4 y5 w.2.2 (fX2_readFact_6 tc k f n tf pf yj yo y1 y2 y3 y4 y5 yv yf ys) := by
  intro k f n yj yo y1 y2 y3 y4 y5 yv yf ys w k0 k1 n0 n6 he hp
  unfold fX2_readFact_6
  simp only [bnd, CH_tok h k0 k1]
  have he : sfc tk nx (sT tk nx 3) (sF tk nx 3) (pf k.toNatClampNeg) n = .ok w := he
  unfold sfc at he
  by_cases a : tk (pf k.toNatClampNeg) = 319
  · rw [if_pos a] at he ⊢
    obtain ⟨v, hv, he⟩ := exb_inv he
    cases he
    obtain ⟨b0, b1, b2⟩ := CH_nx h k0 k1 rfl (fun q => absurd (a.symm.trans q) (by decide))
    have hc := c_factC_7 h htk (k + 1) f n yj yo y1 y2 y3 y4 y5 yv yf ys v b0 b1 n0 n6 (by rw [b2]; exact hv) (PRE_l hp)
    have hr := PRE_r hp hc
    generalize fX2_readFact_7 tc (k + 1) f n tf pf yj yo y1 y2 y3 y4 y5 yv yf ys = u at hc hr ⊢
    rw [step_x (by have := hr.2.2.2.2.2; simp at this; omega)]
    exact TSC_app (PRE_l hp) hc (TSC_step hr (Or.inl rfl))
  · rw [if_neg a] at he ⊢
    by_cases b : tk (pf k.toNatClampNeg) = 91
    · rw [if_pos b] at he ⊢
      obtain ⟨v, hv, he⟩ := exb_inv he
      by_cases t : tk v.1 = 93
      · rw [if_pos t] at he
        cases he
        obtain ⟨b0, b1, b2⟩ := CH_nx h k0 k1 rfl (fun q => absurd (b.symm.trans q) (by decide))
        have hf := c_test_7 h (k + 1) f n yj yo y1 y2 y3 y4 y5 yv yf ys b0 b1 n0 n6
        have hc := c_testC_7 h htk (k + 1) f n yj yo y1 y2 y3 y4 y5 yv yf ys v b0 b1 n0 n6 (by rw [b2]; exact hv) hp
        rw [b2, hv] at hf
        generalize fX2_readTest_7 tc (k + 1) f n tf pf yj yo y1 y2 y3 y4 y5 yv yf ys = u at hf hc ⊢
        obtain ⟨c1, c2, c3, c4, c5, c6, c7, c8⟩ := hf
        rw [if_neg (show ¬ u.2.2.2.2.2.2.2.2.2.2.2.2.2 = 0 by rw [c8]; decide), CH_take h c1 c2 c3, if_pos t]
        exact hc
      · rw [if_neg t] at he; cases he
    · rw [if_neg b] at he ⊢
      have hc := c_cmpC h htk k f n yj yo y1 y2 y3 y4 y5 yv yf ys w k0 k1 n0 n6 he hp
      generalize fX2_readComparison tc k f n tf pf yj yo y1 y2 y3 y4 y5 yv yf ys = u at hc ⊢
      exact hc
set_option maxHeartbeats 400000 in
theorem c_partLC_6 {tk nx : Int32 → Int32} {tc : Int32} {tf pf : Nat → Int32} (h : CH tk nx tc tf pf) (htk : TKH tk nx) {f : Int32} {E17 E42 E60 : Int32 → Int32 → Int32 → Int32 → Int32 → Int32 → (Nat → Int32) → (Nat → Int32) → (Nat → Int32) → (Nat → Int32) → (Nat → Int32) → (Nat → Int32) → (Nat → Int32) → Int32 → (Int32 × Int32 × Int32 × Int32 × Int32 × Int32 × (Nat → Int32) × (Nat → Int32) × (Nat → Int32) × (Nat → Int32) × (Nat → Int32) × (Nat → Int32) × (Nat → Int32) × Int32)} (h42 : ∀ a1 a2 a3 a4 a5 a6 a7 a8 a9 a10 a11 a12 a13 a14, E42 a1 a2 a3 a4 a5 a6 a7 a8 a9 a10 a11 a12 a13 a14 = (a1, a2, a3, a4, a5, a6, a7, a8, a9, a10, a11, a12, a13, 1)) : ∀ (m N : Nat) (b : Bool) (k n v3 v4 v5 : Int32) (g6 g7 g8 g9 g10 g11 g12 : Nat → Int32) (i : Int32) (w : Int32 × Int32 × List (Int32 × List (Int32 × Int32) × List (Int32 × Int32))), ¬ k < 0 → k < tc → ¬ n < 0 → ¬ 60 < n → ¬ i < 0 → ¬ n < i → (b = false ↔ i ≤ 0) → (401 - i.toInt).toNat < N → slp tk nx (sF tk nx 4) 318 (-2) m b (pf k.toNatClampNeg) n = .ok w → PRE n v3 v4 v5 w.2.2 → TSC w.2.1 v3 v4 v5 g6 g7 g8 g9 g10 g11 g12 w.2.2 (fl_mX2_readPart_6_2 tc tf pf E17 E42 E60 N k f n v3 v4 v5 g6 g7 g8 g9 g10 g11 g12 i) := by
  intro m
  induction m with
  | zero => intro N b k n v3 v4 v5 g6 g7 g8 g9 g10 g11 g12 i w k0 k1 n0 n6 i0 i6 hb hN he; cases he
  | succ m ih =>
    intro N b k n v3 v4 v5 g6 g7 g8 g9 g10 g11 g12 i w k0 k1 n0 n6 i0 i6 hb hN he hp
    cases N with
    | zero => exact absurd hN (Nat.not_lt_zero _)
    | succ N =>
      rw [slp_s] at he
      obtain ⟨v, hv, he⟩ := exb_inv he
      have hf := c_fact_6 h k f n g6 g7 g8 g9 g10 g11 g12 v3 v4 v5 k0 k1 n0 n6
      have hf2 : TV pf tc f n (.ok v) (fX2_readFact_6 tc k f n tf pf g6 g7 g8 g9 g10 g11 g12 v3 v4 v5) := by rw [← hv]; exact hf
      have hc := fun hq => c_factC_6 h htk k f n g6 g7 g8 g9 g10 g11 g12 v3 v4 v5 v k0 k1 n0 n6 hv hq
      show TSC w.2.1 v3 v4 v5 g6 g7 g8 g9 g10 g11 g12 w.2.2 (fb_mX2_readPart_6_2 tc tf pf E17 E42 E60 (fl_mX2_readPart_6_2 tc tf pf E17 E42 E60 N) k f n v3 v4 v5 g6 g7 g8 g9 g10 g11 g12 i)
      unfold fb_mX2_readPart_6_2
      rw [if_neg (show ¬ 400 < i by grind)]
      simp only [bnd]
      clear hf
      generalize fX2_readFact_6 tc k f n tf pf g6 g7 g8 g9 g10 g11 g12 v3 v4 v5 = u at hf2 hc ⊢
      obtain ⟨c1, c2, c3, c4, c5, c6, c7, c8⟩ := hf2
      rw [if_neg (show ¬ u.2.2.2.2.2.2.2.2.2.2.2.2.2 = 0 by rw [c8]; decide)]
      have hn : (v.2.1).toInt ≤ 60 ∧ n.toInt < (v.2.1).toInt := z_le60 c6 c7
      have hi := z_inc60 i6 c6 c7 i0
      have i0' := i_nn i0
      have i6' : i.toInt ≤ n.toInt := by
        rw [Int32.lt_iff_toInt_lt] at i6
        omega
      -- the operand, with its sign behind it
      have key : ∀ (l1 : List (Int32 × List (Int32 × Int32) × List (Int32 × Int32))) (s5 : Int32) (s12 : Nat → Int32), PRE n v3 v4 v5 l1 → TSC v.2.1 v3 v4 v5 g6 g7 g8 g9 g10 g11 g12 l1 (u.1, u.2.1, u.2.2.1, u.2.2.2.1, u.2.2.2.2.1, s5, u.2.2.2.2.2.2.1, u.2.2.2.2.2.2.2.1, u.2.2.2.2.2.2.2.2.1, u.2.2.2.2.2.2.2.2.2.1, u.2.2.2.2.2.2.2.2.2.2.1, u.2.2.2.2.2.2.2.2.2.2.2.1, s12, 1) → (if tk v.1 = 318 then exb (slp tk nx (sF tk nx 4) 318 (-2) m true (nx v.1) v.2.1) (fun x => .ok (x.1, x.2.1, l1 ++ x.2.2)) else .ok (v.1, v.2.1, l1)) = .ok w → TSC w.2.1 v3 v4 v5 g6 g7 g8 g9 g10 g11 g12 w.2.2 (if fX2_token tc u.1 tf = 318 then fl_mX2_readPart_6_2 tc tf pf E17 E42 E60 N (u.1 + 1) u.2.1 u.2.2.1 u.2.2.2.1 u.2.2.2.2.1 s5 u.2.2.2.2.2.2.1 u.2.2.2.2.2.2.2.1 u.2.2.2.2.2.2.2.2.1 u.2.2.2.2.2.2.2.2.2.1 u.2.2.2.2.2.2.2.2.2.2.1 u.2.2.2.2.2.2.2.2.2.2.2.1 s12 (i + 1) else E42 u.1 u.2.1 u.2.2.1 u.2.2.2.1 u.2.2.2.2.1 s5 u.2.2.2.2.2.2.1 u.2.2.2.2.2.2.2.1 u.2.2.2.2.2.2.2.2.1 u.2.2.2.2.2.2.2.2.2.1 u.2.2.2.2.2.2.2.2.2.2.1 u.2.2.2.2.2.2.2.2.2.2.2.1 s12 i) := by
        intro l1 s5 s12 hq hu he
        rw [CH_tok h c1 c2, c3]
        by_cases t : tk v.1 = 318
        · rw [if_pos t] at he ⊢
          obtain ⟨x, hx, he⟩ := exb_inv he
          cases he
          obtain ⟨d0, d1, d2⟩ := CH_nx h c1 c2 c3 (fun q => absurd (t.symm.trans q) (by decide))
          have hp2 := PRE_r hp hu
          have z := ih N true (u.1 + 1) v.2.1 u.2.2.2.1 u.2.2.2.2.1 s5 u.2.2.2.2.2.2.1 u.2.2.2.2.2.2.2.1 u.2.2.2.2.2.2.2.2.1 u.2.2.2.2.2.2.2.2.2.1 u.2.2.2.2.2.2.2.2.2.2.1 u.2.2.2.2.2.2.2.2.2.2.2.1 s12 (i + 1) x d0 d1 (by grind) c7 (by rw [Int32.lt_iff_toInt_lt, z_i0]; omega) (by rw [Int32.lt_iff_toInt_lt]; omega) ⟨fun q => (by cases q), fun q => by rw [Int32.le_iff_toInt_le, z_i0] at q; omega⟩ (by omega) (by rw [d2]; exact hx) hp2
          rw [c4, c5]
          exact TSC_app hq hu z
        · rw [if_neg t] at he ⊢
          cases he
          rw [h42]
          exact hu
      by_cases hi9 : i ≤ 0
      · have b9 := hb.mpr hi9
        subst b9
        rw [if_pos hi9]
        have hq : PRE n v3 v4 v5 v.2.2 := by
          by_cases t : tk v.1 = 318
          · rw [if_pos t] at he
            obtain ⟨x, hx, he⟩ := exb_inv he
            cases he
            exact PRE_l hp
          · rw [if_neg t] at he
            cases he
            exact hp
        exact key v.2.2 u.2.2.2.2.2.1 u.2.2.2.2.2.2.2.2.2.2.2.2.1 hq (hc hq) he
      · have b9 : b = true := by
          cases b with
          | false => exact absurd (hb.mp rfl) hi9
          | true => rfl
        subst b9
        rw [if_neg hi9]
        have hq2 : PRE n v3 v4 v5 (v.2.2 ++ [((-2), [], [])]) := by
          by_cases t : tk v.1 = 318
          · rw [if_pos t] at he
            obtain ⟨x, hx, he⟩ := exb_inv he
            cases he
            exact PRE_l hp
          · rw [if_neg t] at he
            cases he
            exact hp
        have hq := PRE_l hq2
        have hcu := hc hq
        have hr := PRE_r hq2 hcu
        rw [step_x (by have := hr.2.2.2.2.2; simp at this; omega)]
        exact key (v.2.2 ++ [((-2), [], [])]) _ _ hq2 (TSC_app hq hcu (TSC_step hr (Or.inr (Or.inl rfl)))) he
set_option maxHeartbeats 400000 in
theorem c_partC_6 {tk nx : Int32 → Int32} {tc : Int32} {tf pf : Nat → Int32} (h : CH tk nx tc tf pf) (htk : TKH tk nx) : ∀ (k f n : Int32) (yj yo y1 y2 y3 y4 y5 : Nat → Int32) (yv yf ys : Int32) (w : Int32 × Int32 × List (Int32 × List (Int32 × Int32) × List (Int32 × Int32))), ¬ k < 0 → k < tc → ¬ n < 0 → ¬ 60 < n → sP tk nx 4 (pf k.toNatClampNeg) n = .ok w → PRE n yv yf ys w.2.2 → TSC w.2.1 yv yf ys yj yo y1 y2 y3 y4 y5 w.2.2 (fX2_readPart_6 tc k f n tf pf yj yo y1 y2 y3 y4 y5 yv yf ys) := by
  intro k f n yj yo y1 y2 y3 y4 y5 yv yf ys w k0 k1 n0 n6 he hp
  exact c_partLC_6 h htk (fun _ _ _ _ _ _ _ _ _ _ _ _ _ _ => rfl) 61 _ false k n yv yf ys yj yo y1 y2 y3 y4 y5 0 w k0 k1 n0 n6 (by decide) n0 ⟨fun _ => Int32.le_refl _, fun _ => rfl⟩ (by decide) he hp
set_option maxHeartbeats 400000 in
theorem c_testLC_6 {tk nx : Int32 → Int32} {tc : Int32} {tf pf : Nat → Int32} (h : CH tk nx tc tf pf) (htk : TKH tk nx) {f : Int32} {E17 E42 E60 : Int32 → Int32 → Int32 → Int32 → Int32 → Int32 → (Nat → Int32) → (Nat → Int32) → (Nat → Int32) → (Nat → Int32) → (Nat → Int32) → (Nat → Int32) → (Nat → Int32) → Int32 → (Int32 × Int32 × Int32 × Int32 × Int32 × Int32 × (Nat → Int32) × (Nat → Int32) × (Nat → Int32) × (Nat → Int32) × (Nat → Int32) × (Nat → Int32) × (Nat → Int32) × Int32)} (h42 : ∀ a1 a2 a3 a4 a5 a6 a7 a8 a9 a10 a11 a12 a13 a14, E42 a1 a2 a3 a4 a5 a6 a7 a8 a9 a10 a11 a12 a13 a14 = (a1, a2, a3, a4, a5, a6, a7, a8, a9, a10, a11, a12, a13, 1)) : ∀ (m N : Nat) (b : Bool) (k n v3 v4 v5 : Int32) (g6 g7 g8 g9 g10 g11 g12 : Nat → Int32) (i : Int32) (w : Int32 × Int32 × List (Int32 × List (Int32 × Int32) × List (Int32 × Int32))), ¬ k < 0 → k < tc → ¬ n < 0 → ¬ 60 < n → ¬ i < 0 → ¬ n < i → (b = false ↔ i ≤ 0) → (401 - i.toInt).toNat < N → slp tk nx (sP tk nx 4) 317 (-3) m b (pf k.toNatClampNeg) n = .ok w → PRE n v3 v4 v5 w.2.2 → TSC w.2.1 v3 v4 v5 g6 g7 g8 g9 g10 g11 g12 w.2.2 (fl_mX2_readTest_6_2 tc tf pf E17 E42 E60 N k f n v3 v4 v5 g6 g7 g8 g9 g10 g11 g12 i) := by
  intro m
  induction m with
  | zero => intro N b k n v3 v4 v5 g6 g7 g8 g9 g10 g11 g12 i w k0 k1 n0 n6 i0 i6 hb hN he; cases he
  | succ m ih =>
    intro N b k n v3 v4 v5 g6 g7 g8 g9 g10 g11 g12 i w k0 k1 n0 n6 i0 i6 hb hN he hp
    cases N with
    | zero => exact absurd hN (Nat.not_lt_zero _)
    | succ N =>
      rw [slp_s] at he
      obtain ⟨v, hv, he⟩ := exb_inv he
      have hf := c_part_6 h k f n g6 g7 g8 g9 g10 g11 g12 v3 v4 v5 k0 k1 n0 n6
      have hf2 : TV pf tc f n (.ok v) (fX2_readPart_6 tc k f n tf pf g6 g7 g8 g9 g10 g11 g12 v3 v4 v5) := by rw [← hv]; exact hf
      have hc := fun hq => c_partC_6 h htk k f n g6 g7 g8 g9 g10 g11 g12 v3 v4 v5 v k0 k1 n0 n6 hv hq
      show TSC w.2.1 v3 v4 v5 g6 g7 g8 g9 g10 g11 g12 w.2.2 (fb_mX2_readTest_6_2 tc tf pf E17 E42 E60 (fl_mX2_readTest_6_2 tc tf pf E17 E42 E60 N) k f n v3 v4 v5 g6 g7 g8 g9 g10 g11 g12 i)
      unfold fb_mX2_readTest_6_2
      rw [if_neg (show ¬ 400 < i by grind)]
      simp only [bnd]
      clear hf
      generalize fX2_readPart_6 tc k f n tf pf g6 g7 g8 g9 g10 g11 g12 v3 v4 v5 = u at hf2 hc ⊢
      obtain ⟨c1, c2, c3, c4, c5, c6, c7, c8⟩ := hf2
      rw [if_neg (show ¬ u.2.2.2.2.2.2.2.2.2.2.2.2.2 = 0 by rw [c8]; decide)]
      have hn : (v.2.1).toInt ≤ 60 ∧ n.toInt < (v.2.1).toInt := z_le60 c6 c7
      have hi := z_inc60 i6 c6 c7 i0
      have i0' := i_nn i0
      have i6' : i.toInt ≤ n.toInt := by
        rw [Int32.lt_iff_toInt_lt] at i6
        omega
      -- the operand, with its sign behind it
      have key : ∀ (l1 : List (Int32 × List (Int32 × Int32) × List (Int32 × Int32))) (s5 : Int32) (s12 : Nat → Int32), PRE n v3 v4 v5 l1 → TSC v.2.1 v3 v4 v5 g6 g7 g8 g9 g10 g11 g12 l1 (u.1, u.2.1, u.2.2.1, u.2.2.2.1, u.2.2.2.2.1, s5, u.2.2.2.2.2.2.1, u.2.2.2.2.2.2.2.1, u.2.2.2.2.2.2.2.2.1, u.2.2.2.2.2.2.2.2.2.1, u.2.2.2.2.2.2.2.2.2.2.1, u.2.2.2.2.2.2.2.2.2.2.2.1, s12, 1) → (if tk v.1 = 317 then exb (slp tk nx (sP tk nx 4) 317 (-3) m true (nx v.1) v.2.1) (fun x => .ok (x.1, x.2.1, l1 ++ x.2.2)) else .ok (v.1, v.2.1, l1)) = .ok w → TSC w.2.1 v3 v4 v5 g6 g7 g8 g9 g10 g11 g12 w.2.2 (if fX2_token tc u.1 tf = 317 then fl_mX2_readTest_6_2 tc tf pf E17 E42 E60 N (u.1 + 1) u.2.1 u.2.2.1 u.2.2.2.1 u.2.2.2.2.1 s5 u.2.2.2.2.2.2.1 u.2.2.2.2.2.2.2.1 u.2.2.2.2.2.2.2.2.1 u.2.2.2.2.2.2.2.2.2.1 u.2.2.2.2.2.2.2.2.2.2.1 u.2.2.2.2.2.2.2.2.2.2.2.1 s12 (i + 1) else E42 u.1 u.2.1 u.2.2.1 u.2.2.2.1 u.2.2.2.2.1 s5 u.2.2.2.2.2.2.1 u.2.2.2.2.2.2.2.1 u.2.2.2.2.2.2.2.2.1 u.2.2.2.2.2.2.2.2.2.1 u.2.2.2.2.2.2.2.2.2.2.1 u.2.2.2.2.2.2.2.2.2.2.2.1 s12 i) := by
        intro l1 s5 s12 hq hu he
        rw [CH_tok h c1 c2, c3]
        by_cases t : tk v.1 = 317
        · rw [if_pos t] at he ⊢
          obtain ⟨x, hx, he⟩ := exb_inv he
          cases he
          obtain ⟨d0, d1, d2⟩ := CH_nx h c1 c2 c3 (fun q => absurd (t.symm.trans q) (by decide))
          have hp2 := PRE_r hp hu
          have z := ih N true (u.1 + 1) v.2.1 u.2.2.2.1 u.2.2.2.2.1 s5 u.2.2.2.2.2.2.1 u.2.2.2.2.2.2.2.1 u.2.2.2.2.2.2.2.2.1 u.2.2.2.2.2.2.2.2.2.1 u.2.2.2.2.2.2.2.2.2.2.1 u.2.2.2.2.2.2.2.2.2.2.2.1 s12 (i + 1) x d0 d1 (by grind) c7 (by rw [Int32.lt_iff_toInt_lt, z_i0]; omega) (by rw [Int32.lt_iff_toInt_lt]; omega) ⟨fun q => (by cases q), fun q => by rw [Int32.le_iff_toInt_le, z_i0] at q; omega⟩ (by omega) (by rw [d2]; exact hx) hp2
          rw [c4, c5]
          exact TSC_app hq hu z
        · rw [if_neg t] at he ⊢
          cases he
          rw [h42]
          exact hu
      by_cases hi9 : i ≤ 0
      · have b9 := hb.mpr hi9
        subst b9
        rw [if_pos hi9]
        have hq : PRE n v3 v4 v5 v.2.2 := by
          by_cases t : tk v.1 = 317
          · rw [if_pos t] at he
            obtain ⟨x, hx, he⟩ := exb_inv he
            cases he
            exact PRE_l hp
          · rw [if_neg t] at he
            cases he
            exact hp
        exact key v.2.2 u.2.2.2.2.2.1 u.2.2.2.2.2.2.2.2.2.2.2.2.1 hq (hc hq) he
      · have b9 : b = true := by
          cases b with
          | false => exact absurd (hb.mp rfl) hi9
          | true => rfl
        subst b9
        rw [if_neg hi9]
        have hq2 : PRE n v3 v4 v5 (v.2.2 ++ [((-3), [], [])]) := by
          by_cases t : tk v.1 = 317
          · rw [if_pos t] at he
            obtain ⟨x, hx, he⟩ := exb_inv he
            cases he
            exact PRE_l hp
          · rw [if_neg t] at he
            cases he
            exact hp
        have hq := PRE_l hq2
        have hcu := hc hq
        have hr := PRE_r hq2 hcu
        rw [step_x (by have := hr.2.2.2.2.2; simp at this; omega)]
        exact key (v.2.2 ++ [((-3), [], [])]) _ _ hq2 (TSC_app hq hcu (TSC_step hr (Or.inr (Or.inr rfl)))) he
set_option maxHeartbeats 400000 in
theorem c_testC_6 {tk nx : Int32 → Int32} {tc : Int32} {tf pf : Nat → Int32} (h : CH tk nx tc tf pf) (htk : TKH tk nx) : ∀ (k f n : Int32) (yj yo y1 y2 y3 y4 y5 : Nat → Int32) (yv yf ys : Int32) (w : Int32 × Int32 × List (Int32 × List (Int32 × Int32) × List (Int32 × Int32))), ¬ k < 0 → k < tc → ¬ n < 0 → ¬ 60 < n → sT tk nx 4 (pf k.toNatClampNeg) n = .ok w → PRE n yv yf ys w.2.2 → TSC w.2.1 yv yf ys yj yo y1 y2 y3 y4 y5 w.2.2 (fX2_readTest_6 tc k f n tf pf yj yo y1 y2 y3 y4 y5 yv yf ys) := by
  intro k f n yj yo y1 y2 y3 y4 y5 yv yf ys w k0 k1 n0 n6 he hp
  exact c_testLC_6 h htk (fun _ _ _ _ _ _ _ _ _ _ _ _ _ _ => rfl) 61 _ false k n yv yf ys yj yo y1 y2 y3 y4 y5 0 w k0 k1 n0 n6 (by decide) n0 ⟨fun _ => Int32.le_refl _, fun _ => rfl⟩ (by decide) he hp
set_option maxHeartbeats 400000 in
theorem c_factC_5 {tk nx : Int32 → Int32} {tc : Int32} {tf pf : Nat → Int32} (h : CH tk nx tc tf pf) (htk : TKH tk nx) : ∀ (k f n : Int32) (yj yo y1 y2 y3 y4 y5 : Nat → Int32) (yv yf ys : Int32) (w : Int32 × Int32 × List (Int32 × List (Int32 × Int32) × List (Int32 × Int32))), ¬ k < 0 → k < tc → ¬ n < 0 → ¬ 60 < n → sF tk nx 5 (pf k.toNatClampNeg) n = .ok w → PRE n yv yf ys w.2.2 → TSC w.2.1 yv yf ys yj yo y1 y2 y3 y4 y5 w.2.2 (fX2_readFact_5 tc k f n tf pf yj yo y1 y2 y3 y4 y5 yv yf ys) := by
  intro k f n yj yo y1 y2 y3 y4 y5 yv yf ys w k0 k1 n0 n6 he hp
  unfold fX2_readFact_5
  simp only [bnd, CH_tok h k0 k1]
  have he : sfc tk nx (sT tk nx 4) (sF tk nx 4) (pf k.toNatClampNeg) n = .ok w := he
  unfold sfc at he
  by_cases a : tk (pf k.toNatClampNeg) = 319
  · rw [if_pos a] at he ⊢
    obtain ⟨v, hv, he⟩ := exb_inv he
    cases he
    obtain ⟨b0, b1, b2⟩ := CH_nx h k0 k1 rfl (fun q => absurd (a.symm.trans q) (by decide))
    have hc := c_factC_6 h htk (k + 1) f n yj yo y1 y2 y3 y4 y5 yv yf ys v b0 b1 n0 n6 (by rw [b2]; exact hv) (PRE_l hp)
    have hr := PRE_r hp hc
    generalize fX2_readFact_6 tc (k + 1) f n tf pf yj yo y1 y2 y3 y4 y5 yv yf ys = u at hc hr ⊢
    rw [step_x (by have := hr.2.2.2.2.2; simp at this; omega)]
    exact TSC_app (PRE_l hp) hc (TSC_step hr (Or.inl rfl))
  · rw [if_neg a] at he ⊢
    by_cases b : tk (pf k.toNatClampNeg) = 91
    · rw [if_pos b] at he ⊢
      obtain ⟨v, hv, he⟩ := exb_inv he
      by_cases t : tk v.1 = 93
      · rw [if_pos t] at he
        cases he
        obtain ⟨b0, b1, b2⟩ := CH_nx h k0 k1 rfl (fun q => absurd (b.symm.trans q) (by decide))
        have hf := c_test_6 h (k + 1) f n yj yo y1 y2 y3 y4 y5 yv yf ys b0 b1 n0 n6
        have hc := c_testC_6 h htk (k + 1) f n yj yo y1 y2 y3 y4 y5 yv yf ys v b0 b1 n0 n6 (by rw [b2]; exact hv) hp
        rw [b2, hv] at hf
        generalize fX2_readTest_6 tc (k + 1) f n tf pf yj yo y1 y2 y3 y4 y5 yv yf ys = u at hf hc ⊢
        obtain ⟨c1, c2, c3, c4, c5, c6, c7, c8⟩ := hf
        rw [if_neg (show ¬ u.2.2.2.2.2.2.2.2.2.2.2.2.2 = 0 by rw [c8]; decide), CH_take h c1 c2 c3, if_pos t]
        exact hc
      · rw [if_neg t] at he; cases he
    · rw [if_neg b] at he ⊢
      have hc := c_cmpC h htk k f n yj yo y1 y2 y3 y4 y5 yv yf ys w k0 k1 n0 n6 he hp
      generalize fX2_readComparison tc k f n tf pf yj yo y1 y2 y3 y4 y5 yv yf ys = u at hc ⊢
      exact hc
set_option maxHeartbeats 400000 in
theorem c_partLC_5 {tk nx : Int32 → Int32} {tc : Int32} {tf pf : Nat → Int32} (h : CH tk nx tc tf pf) (htk : TKH tk nx) {f : Int32} {E17 E42 E60 : Int32 → Int32 → Int32 → Int32 → Int32 → Int32 → (Nat → Int32) → (Nat → Int32) → (Nat → Int32) → (Nat → Int32) → (Nat → Int32) → (Nat → Int32) → (Nat → Int32) → Int32 → (Int32 × Int32 × Int32 × Int32 × Int32 × Int32 × (Nat → Int32) × (Nat → Int32) × (Nat → Int32) × (Nat → Int32) × (Nat → Int32) × (Nat → Int32) × (Nat → Int32) × Int32)} (h42 : ∀ a1 a2 a3 a4 a5 a6 a7 a8 a9 a10 a11 a12 a13 a14, E42 a1 a2 a3 a4 a5 a6 a7 a8 a9 a10 a11 a12 a13 a14 = (a1, a2, a3, a4, a5, a6, a7, a8, a9, a10, a11, a12, a13, 1)) : ∀ (m N : Nat) (b : Bool) (k n v3 v4 v5 : Int32) (g6 g7 g8 g9 g10 g11 g12 : Nat → Int32) (i : Int32) (w : Int32 × Int32 × List (Int32 × List (Int32 × Int32) × List (Int32 × Int32))), ¬ k < 0 → k < tc → ¬ n < 0 → ¬ 60 < n → ¬ i < 0 → ¬ n < i → (b = false ↔ i ≤ 0) → (401 - i.toInt).toNat < N → slp tk nx (sF tk nx 5) 318 (-2) m b (pf k.toNatClampNeg) n = .ok w → PRE n v3 v4 v5 w.2.2 → TSC w.2.1 v3 v4 v5 g6 g7 g8 g9 g10 g11 g12 w.2.2 (fl_mX2_readPart_5_2 tc tf pf E17 E42 E60 N k f n v3 v4 v5 g6 g7 g8 g9 g10 g11 g12 i) := by
  intro m
  induction m with
  | zero => intro N b k n v3 v4 v5 g6 g7 g8 g9 g10 g11 g12 i w k0 k1 n0 n6 i0 i6 hb hN he; cases he
  | succ m ih =>
    intro N b k n v3 v4 v5 g6 g7 g8 g9 g10 g11 g12 i w k0 k1 n0 n6 i0 i6 hb hN he hp
    cases N with
    | zero => exact absurd hN (Nat.not_lt_zero _)
    | succ N =>
      rw [slp_s] at he
      obtain ⟨v, hv, he⟩ := exb_inv he
      have hf := c_fact_5 h k f n g6 g7 g8 g9 g10 g11 g12 v3 v4 v5 k0 k1 n0 n6
      have hf2 : TV pf tc f n (.ok v) (fX2_readFact_5 tc k f n tf pf g6 g7 g8 g9 g10 g11 g12 v3 v4 v5) := by rw [← hv]; exact hf
      have hc := fun hq => c_factC_5 h htk k f n g6 g7 g8 g9 g10 g11 g12 v3 v4 v5 v k0 k1 n0 n6 hv hq
      show TSC w.2.1 v3 v4 v5 g6 g7 g8 g9 g10 g11 g12 w.2.2 (fb_mX2_readPart_5_2 tc tf pf E17 E42 E60 (fl_mX2_readPart_5_2 tc tf pf E17 E42 E60 N) k f n v3 v4 v5 g6 g7 g8 g9 g10 g11 g12 i)
      unfold fb_mX2_readPart_5_2
      rw [if_neg (show ¬ 400 < i by grind)]
      simp only [bnd]
      clear hf
      generalize fX2_readFact_5 tc k f n tf pf g6 g7 g8 g9 g10 g11 g12 v3 v4 v5 = u at hf2 hc ⊢
      obtain ⟨c1, c2, c3, c4, c5, c6, c7, c8⟩ := hf2
      rw [if_neg (show ¬ u.2.2.2.2.2.2.2.2.2.2.2.2.2 = 0 by rw [c8]; decide)]
      have hn : (v.2.1).toInt ≤ 60 ∧ n.toInt < (v.2.1).toInt := z_le60 c6 c7
      have hi := z_inc60 i6 c6 c7 i0
      have i0' := i_nn i0
      have i6' : i.toInt ≤ n.toInt := by
        rw [Int32.lt_iff_toInt_lt] at i6
        omega
      -- the operand, with its sign behind it
      have key : ∀ (l1 : List (Int32 × List (Int32 × Int32) × List (Int32 × Int32))) (s5 : Int32) (s12 : Nat → Int32), PRE n v3 v4 v5 l1 → TSC v.2.1 v3 v4 v5 g6 g7 g8 g9 g10 g11 g12 l1 (u.1, u.2.1, u.2.2.1, u.2.2.2.1, u.2.2.2.2.1, s5, u.2.2.2.2.2.2.1, u.2.2.2.2.2.2.2.1, u.2.2.2.2.2.2.2.2.1, u.2.2.2.2.2.2.2.2.2.1, u.2.2.2.2.2.2.2.2.2.2.1, u.2.2.2.2.2.2.2.2.2.2.2.1, s12, 1) → (if tk v.1 = 318 then exb (slp tk nx (sF tk nx 5) 318 (-2) m true (nx v.1) v.2.1) (fun x => .ok (x.1, x.2.1, l1 ++ x.2.2)) else .ok (v.1, v.2.1, l1)) = .ok w → TSC w.2.1 v3 v4 v5 g6 g7 g8 g9 g10 g11 g12 w.2.2 (if fX2_token tc u.1 tf = 318 then fl_mX2_readPart_5_2 tc tf pf E17 E42 E60 N (u.1 + 1) u.2.1 u.2.2.1 u.2.2.2.1 u.2.2.2.2.1 s5 u.2.2.2.2.2.2.1 u.2.2.2.2.2.2.2.1 u.2.2.2.2.2.2.2.2.1 u.2.2.2.2.2.2.2.2.2.1 u.2.2.2.2.2.2.2.2.2.2.1 u.2.2.2.2.2.2.2.2.2.2.2.1 s12 (i + 1) else E42 u.1 u.2.1 u.2.2.1 u.2.2.2.1 u.2.2.2.2.1 s5 u.2.2.2.2.2.2.1 u.2.2.2.2.2.2.2.1 u.2.2.2.2.2.2.2.2.1 u.2.2.2.2.2.2.2.2.2.1 u.2.2.2.2.2.2.2.2.2.2.1 u.2.2.2.2.2.2.2.2.2.2.2.1 s12 i) := by
        intro l1 s5 s12 hq hu he
        rw [CH_tok h c1 c2, c3]
        by_cases t : tk v.1 = 318
        · rw [if_pos t] at he ⊢
          obtain ⟨x, hx, he⟩ := exb_inv he
          cases he
          obtain ⟨d0, d1, d2⟩ := CH_nx h c1 c2 c3 (fun q => absurd (t.symm.trans q) (by decide))
          have hp2 := PRE_r hp hu
          have z := ih N true (u.1 + 1) v.2.1 u.2.2.2.1 u.2.2.2.2.1 s5 u.2.2.2.2.2.2.1 u.2.2.2.2.2.2.2.1 u.2.2.2.2.2.2.2.2.1 u.2.2.2.2.2.2.2.2.2.1 u.2.2.2.2.2.2.2.2.2.2.1 u.2.2.2.2.2.2.2.2.2.2.2.1 s12 (i + 1) x d0 d1 (by grind) c7 (by rw [Int32.lt_iff_toInt_lt, z_i0]; omega) (by rw [Int32.lt_iff_toInt_lt]; omega) ⟨fun q => (by cases q), fun q => by rw [Int32.le_iff_toInt_le, z_i0] at q; omega⟩ (by omega) (by rw [d2]; exact hx) hp2
          rw [c4, c5]
          exact TSC_app hq hu z
        · rw [if_neg t] at he ⊢
          cases he
          rw [h42]
          exact hu
      by_cases hi9 : i ≤ 0
      · have b9 := hb.mpr hi9
        subst b9
        rw [if_pos hi9]
        have hq : PRE n v3 v4 v5 v.2.2 := by
          by_cases t : tk v.1 = 318
          · rw [if_pos t] at he
            obtain ⟨x, hx, he⟩ := exb_inv he
            cases he
            exact PRE_l hp
          · rw [if_neg t] at he
            cases he
            exact hp
        exact key v.2.2 u.2.2.2.2.2.1 u.2.2.2.2.2.2.2.2.2.2.2.2.1 hq (hc hq) he
      · have b9 : b = true := by
          cases b with
          | false => exact absurd (hb.mp rfl) hi9
          | true => rfl
        subst b9
        rw [if_neg hi9]
        have hq2 : PRE n v3 v4 v5 (v.2.2 ++ [((-2), [], [])]) := by
          by_cases t : tk v.1 = 318
          · rw [if_pos t] at he
            obtain ⟨x, hx, he⟩ := exb_inv he
            cases he
            exact PRE_l hp
          · rw [if_neg t] at he
            cases he
            exact hp
        have hq := PRE_l hq2
        have hcu := hc hq
        have hr := PRE_r hq2 hcu
        rw [step_x (by have := hr.2.2.2.2.2; simp at this; omega)]
        exact key (v.2.2 ++ [((-2), [], [])]) _ _ hq2 (TSC_app hq hcu (TSC_step hr (Or.inr (Or.inl rfl)))) he
set_option maxHeartbeats 400000 in
theorem c_partC_5 {tk nx : Int32 → Int32} {tc : Int32} {tf pf : Nat → Int32} (h : CH tk nx tc tf pf) (htk : TKH tk nx) : ∀ (k f n : Int32) (yj yo y1 y2 y3 y4 y5 : Nat → Int32) (yv yf ys : Int32) (w : Int32 × Int32 × List (Int32 × List (Int32 × Int32) × List (Int32 × Int32))), ¬ k < 0 → k < tc → ¬ n < 0 → ¬ 60 < n → sP tk nx 5 (pf k.toNatClampNeg) n = .ok w → PRE n yv yf ys w.2.2 → TSC w.2.1 yv yf ys yj yo y1 y2 y3 y4 y5 w.2.2 (fX2_readPart_5 tc k f n tf pf yj yo y1 y2 y3 y4 y5 yv yf ys) := by
  intro k f n yj yo y1 y2 y3 y4 y5 yv yf ys w k0 k1 n0 n6 he hp
  exact c_partLC_5 h htk (fun _ _ _ _ _ _ _ _ _ _ _ _ _ _ => rfl) 61 _ false k n yv yf ys yj yo y1 y2 y3 y4 y5 0 w k0 k1 n0 n6 (by decide) n0 ⟨fun _ => Int32.le_refl _, fun _ => rfl⟩ (by decide) he hp
set_option maxHeartbeats 400000 in
theorem c_testLC_5 {tk nx : Int32 → Int32} {tc : Int32} {tf pf : Nat → Int32} (h : CH tk nx tc tf pf) (htk : TKH tk nx) {f : Int32} {E17 E42 E60 : Int32 → Int32 → Int32 → Int32 → Int32 → Int32 → (Nat → Int32) → (Nat → Int32) → (Nat → Int32) → (Nat → Int32) → (Nat → Int32) → (Nat → Int32) → (Nat → Int32) → Int32 → (Int32 × Int32 × Int32 × Int32 × Int32 × Int32 × (Nat → Int32) × (Nat → Int32) × (Nat → Int32) × (Nat → Int32) × (Nat → Int32) × (Nat → Int32) × (Nat → Int32) × Int32)} (h42 : ∀ a1 a2 a3 a4 a5 a6 a7 a8 a9 a10 a11 a12 a13 a14, E42 a1 a2 a3 a4 a5 a6 a7 a8 a9 a10 a11 a12 a13 a14 = (a1, a2, a3, a4, a5, a6, a7, a8, a9, a10, a11, a12, a13, 1)) : ∀ (m N : Nat) (b : Bool) (k n v3 v4 v5 : Int32) (g6 g7 g8 g9 g10 g11 g12 : Nat → Int32) (i : Int32) (w : Int32 × Int32 × List (Int32 × List (Int32 × Int32) × List (Int32 × Int32))), ¬ k < 0 → k < tc → ¬ n < 0 → ¬ 60 < n → ¬ i < 0 → ¬ n < i → (b = false ↔ i ≤ 0) → (401 - i.toInt).toNat < N → slp tk nx (sP tk nx 5) 317 (-3) m b (pf k.toNatClampNeg) n = .ok w → PRE n v3 v4 v5 w.2.2 → TSC w.2.1 v3 v4 v5 g6 g7 g8 g9 g10 g11 g12 w.2.2 (fl_mX2_readTest_5_2 tc tf pf E17 E42 E60 N k f n v3 v4 v5 g6 g7 g8 g9 g10 g11 g12 i) := by
  intro m
  induction m with
  | zero => intro N b k n v3 v4 v5 g6 g7 g8 g9 g10 g11 g12 i w k0 k1 n0 n6 i0 i6 hb hN he; cases he
  | succ m ih =>
    intro N b k n v3 v4 v5 g6 g7 g8 g9 g10 g11 g12 i w k0 k1 n0 n6 i0 i6 hb hN he hp
    cases N with
    | zero => exact absurd hN (Nat.not_lt_zero _)
    | succ N =>
      rw [slp_s] at he
      obtain ⟨v, hv, he⟩ := exb_inv he
      have hf := c_part_5 h k f n g6 g7 g8 g9 g10 g11 g12 v3 v4 v5 k0 k1 n0 n6
      have hf2 : TV pf tc f n (.ok v) (fX2_readPart_5 tc k f n tf pf g6 g7 g8 g9 g10 g11 g12 v3 v4 v5) := by rw [← hv]; exact hf
      have hc := fun hq => c_partC_5 h htk k f n g6 g7 g8 g9 g10 g11 g12 v3 v4 v5 v k0 k1 n0 n6 hv hq
      show TSC w.2.1 v3 v4 v5 g6 g7 g8 g9 g10 g11 g12 w.2.2 (fb_mX2_readTest_5_2 tc tf pf E17 E42 E60 (fl_mX2_readTest_5_2 tc tf pf E17 E42 E60 N) k f n v3 v4 v5 g6 g7 g8 g9 g10 g11 g12 i)
      unfold fb_mX2_readTest_5_2
      rw [if_neg (show ¬ 400 < i by grind)]
      simp only [bnd]
      clear hf
      generalize fX2_readPart_5 tc k f n tf pf g6 g7 g8 g9 g10 g11 g12 v3 v4 v5 = u at hf2 hc ⊢
      obtain ⟨c1, c2, c3, c4, c5, c6, c7, c8⟩ := hf2
      rw [if_neg (show ¬ u.2.2.2.2.2.2.2.2.2.2.2.2.2 = 0 by rw [c8]; decide)]
      have hn : (v.2.1).toInt ≤ 60 ∧ n.toInt < (v.2.1).toInt := z_le60 c6 c7
      have hi := z_inc60 i6 c6 c7 i0
      have i0' := i_nn i0
      have i6' : i.toInt ≤ n.toInt := by
        rw [Int32.lt_iff_toInt_lt] at i6
        omega
      -- the operand, with its sign behind it
      have key : ∀ (l1 : List (Int32 × List (Int32 × Int32) × List (Int32 × Int32))) (s5 : Int32) (s12 : Nat → Int32), PRE n v3 v4 v5 l1 → TSC v.2.1 v3 v4 v5 g6 g7 g8 g9 g10 g11 g12 l1 (u.1, u.2.1, u.2.2.1, u.2.2.2.1, u.2.2.2.2.1, s5, u.2.2.2.2.2.2.1, u.2.2.2.2.2.2.2.1, u.2.2.2.2.2.2.2.2.1, u.2.2.2.2.2.2.2.2.2.1, u.2.2.2.2.2.2.2.2.2.2.1, u.2.2.2.2.2.2.2.2.2.2.2.1, s12, 1) → (if tk v.1 = 317 then exb (slp tk nx (sP tk nx 5) 317 (-3) m true (nx v.1) v.2.1) (fun x => .ok (x.1, x.2.1, l1 ++ x.2.2)) else .ok (v.1, v.2.1, l1)) = .ok w → TSC w.2.1 v3 v4 v5 g6 g7 g8 g9 g10 g11 g12 w.2.2 (if fX2_token tc u.1 tf = 317 then fl_mX2_readTest_5_2 tc tf pf E17 E42 E60 N (u.1 + 1) u.2.1 u.2.2.1 u.2.2.2.1 u.2.2.2.2.1 s5 u.2.2.2.2.2.2.1 u.2.2.2.2.2.2.2.1 u.2.2.2.2.2.2.2.2.1 u.2.2.2.2.2.2.2.2.2.1 u.2.2.2.2.2.2.2.2.2.2.1 u.2.2.2.2.2.2.2.2.2.2.2.1 s12 (i + 1) else E42 u.1 u.2.1 u.2.2.1 u.2.2.2.1 u.2.2.2.2.1 s5 u.2.2.2.2.2.2.1 u.2.2.2.2.2.2.2.1 u.2.2.2.2.2.2.2.2.1 u.2.2.2.2.2.2.2.2.2.1 u.2.2.2.2.2.2.2.2.2.2.1 u.2.2.2.2.2.2.2.2.2.2.2.1 s12 i) := by
        intro l1 s5 s12 hq hu he
        rw [CH_tok h c1 c2, c3]
        by_cases t : tk v.1 = 317
        · rw [if_pos t] at he ⊢
          obtain ⟨x, hx, he⟩ := exb_inv he
          cases he
          obtain ⟨d0, d1, d2⟩ := CH_nx h c1 c2 c3 (fun q => absurd (t.symm.trans q) (by decide))
          have hp2 := PRE_r hp hu
          have z := ih N true (u.1 + 1) v.2.1 u.2.2.2.1 u.2.2.2.2.1 s5 u.2.2.2.2.2.2.1 u.2.2.2.2.2.2.2.1 u.2.2.2.2.2.2.2.2.1 u.2.2.2.2.2.2.2.2.2.1 u.2.2.2.2.2.2.2.2.2.2.1 u.2.2.2.2.2.2.2.2.2.2.2.1 s12 (i + 1) x d0 d1 (by grind) c7 (by rw [Int32.lt_iff_toInt_lt, z_i0]; omega) (by rw [Int32.lt_iff_toInt_lt]; omega) ⟨fun q => (by cases q), fun q => by rw [Int32.le_iff_toInt_le, z_i0] at q; omega⟩ (by omega) (by rw [d2]; exact hx) hp2
          rw [c4, c5]
          exact TSC_app hq hu z
        · rw [if_neg t] at he ⊢
          cases he
          rw [h42]
          exact hu
      by_cases hi9 : i ≤ 0
      · have b9 := hb.mpr hi9
        subst b9
        rw [if_pos hi9]
        have hq : PRE n v3 v4 v5 v.2.2 := by
          by_cases t : tk v.1 = 317
          · rw [if_pos t] at he
            obtain ⟨x, hx, he⟩ := exb_inv he
            cases he
            exact PRE_l hp
          · rw [if_neg t] at he
            cases he
            exact hp
        exact key v.2.2 u.2.2.2.2.2.1 u.2.2.2.2.2.2.2.2.2.2.2.2.1 hq (hc hq) he
      · have b9 : b = true := by
          cases b with
          | false => exact absurd (hb.mp rfl) hi9
          | true => rfl
        subst b9
        rw [if_neg hi9]
        have hq2 : PRE n v3 v4 v5 (v.2.2 ++ [((-3), [], [])]) := by
          by_cases t : tk v.1 = 317
          · rw [if_pos t] at he
            obtain ⟨x, hx, he⟩ := exb_inv he
            cases he
            exact PRE_l hp
          · rw [if_neg t] at he
            cases he
            exact hp
        have hq := PRE_l hq2
        have hcu := hc hq
        have hr := PRE_r hq2 hcu
        rw [step_x (by have := hr.2.2.2.2.2; simp at this; omega)]
        exact key (v.2.2 ++ [((-3), [], [])]) _ _ hq2 (TSC_app hq hcu (TSC_step hr (Or.inr (Or.inr rfl)))) he
set_option maxHeartbeats 400000 in
theorem c_testC_5 {tk nx : Int32 → Int32} {tc : Int32} {tf pf : Nat → Int32} (h : CH tk nx tc tf pf) (htk : TKH tk nx) : ∀ (k f n : Int32) (yj yo y1 y2 y3 y4 y5 : Nat → Int32) (yv yf ys : Int32) (w : Int32 × Int32 × List (Int32 × List (Int32 × Int32) × List (Int32 × Int32))), ¬ k < 0 → k < tc → ¬ n < 0 → ¬ 60 < n → sT tk nx 5 (pf k.toNatClampNeg) n = .ok w → PRE n yv yf ys w.2.2 → TSC w.2.1 yv yf ys yj yo y1 y2 y3 y4 y5 w.2.2 (fX2_readTest_5 tc k f n tf pf yj yo y1 y2 y3 y4 y5 yv yf ys) := by
  intro k f n yj yo y1 y2 y3 y4 y5 yv yf ys w k0 k1 n0 n6 he hp
  exact c_testLC_5 h htk (fun _ _ _ _ _ _ _ _ _ _ _ _ _ _ => rfl) 61 _ false k n yv yf ys yj yo y1 y2 y3 y4 y5 0 w k0 k1 n0 n6 (by decide) n0 ⟨fun _ => Int32.le_refl _, fun _ => rfl⟩ (by decide) he hp
set_option maxHeartbeats 400000 in
theorem c_factC_4 {tk nx : Int32 → Int32} {tc : Int32} {tf pf : Nat → Int32} (h : CH tk nx tc tf pf) (htk : TKH tk nx) : ∀ (k f n : Int32) (yj yo y1 y2 y3 y4 y5 : Nat → Int32) (yv yf ys : Int32) (w : Int32 × Int32 × List (Int32 × List (Int32 × Int32) × List (Int32 × Int32))), ¬ k < 0 → k < tc → ¬ n < 0 → ¬ 60 < n → sF tk nx 6 (pf k.toNatClampNeg) n = .ok w → PRE n yv yf ys w.2.2 → TSC w.2.1 yv yf ys yj yo y1 y2 y3 y4 y5 w.2.2 (fX2_readFact_4 tc k f n tf pf yj yo y1 y2 y3 y4 y5 yv yf ys) := by
  intro k f n yj yo y1 y2 y3 y4 y5 yv yf ys w k0 k1 n0 n6 he hp
  unfold fX2_readFact_4
  simp only [bnd, CH_tok h k0 k1]
  have he : sfc tk nx (sT tk nx 5) (sF tk nx 5) (pf k.toNatClampNeg) n = .ok w := he
  unfold sfc at he
  by_cases a : tk (pf k.toNatClampNeg) = 319
  · rw [if_pos a] at he ⊢
    obtain ⟨v, hv, he⟩ := exb_inv he
    cases he
    obtain ⟨b0, b1, b2⟩ := CH_nx h k0 k1 rfl (fun q => absurd (a.symm.trans q) (by decide))
    have hc := c_factC_5 h htk (k + 1) f n yj yo y1 y2 y3 y4 y5 yv yf ys v b0 b1 n0 n6 (by rw [b2]; exact hv) (PRE_l hp)
    have hr := PRE_r hp hc
    generalize fX2_readFact_5 tc (k + 1) f n tf pf yj yo y1 y2 y3 y4 y5 yv yf ys = u at hc hr ⊢
    rw [step_x (by have := hr.2.2.2.2.2; simp at this; omega)]
    exact TSC_app (PRE_l hp) hc (TSC_step hr (Or.inl rfl))
  · rw [if_neg a] at he ⊢
    by_cases b : tk (pf k.toNatClampNeg) = 91
    · rw [if_pos b] at he ⊢
      obtain ⟨v, hv, he⟩ := exb_inv he
      by_cases t : tk v.1 = 93
      · rw [if_pos t] at he
        cases he
        obtain ⟨b0, b1, b2⟩ := CH_nx h k0 k1 rfl (fun q => absurd (b.symm.trans q) (by decide))
        have hf := c_test_5 h (k + 1) f n yj yo y1 y2 y3 y4 y5 yv yf ys b0 b1 n0 n6
        have hc := c_testC_5 h htk (k + 1) f n yj yo y1 y2 y3 y4 y5 yv yf ys v b0 b1 n0 n6 (by rw [b2]; exact hv) hp
        rw [b2, hv] at hf
        generalize fX2_readTest_5 tc (k + 1) f n tf pf yj yo y1 y2 y3 y4 y5 yv yf ys = u at hf hc ⊢
        obtain ⟨c1, c2, c3, c4, c5, c6, c7, c8⟩ := hf
        rw [if_neg (show ¬ u.2.2.2.2.2.2.2.2.2.2.2.2.2 = 0 by rw [c8]; decide), CH_take h c1 c2 c3, if_pos t]
        exact hc
      · rw [if_neg t] at he; cases he
    · rw [if_neg b] at he ⊢
      have hc := c_cmpC h htk k f n yj yo y1 y2 y3 y4 y5 yv yf ys w k0 k1 n0 n6 he hp
      generalize fX2_readComparison tc k f n tf pf yj yo y1 y2 y3 y4 y5 yv yf ys = u at hc ⊢
      exact hc
set_option maxHeartbeats 400000 in
theorem c_partLC_4 {tk nx : Int32 → Int32} {tc : Int32} {tf pf : Nat → Int32} (h : CH tk nx tc tf pf) (htk : TKH tk nx) {f : Int32} {E17 E42 E60 : Int32 → Int32 → Int32 → Int32 → Int32 → Int32 → (Nat → Int32) → (Nat → Int32) → (Nat → Int32) → (Nat → Int32) → (Nat → Int32) → (Nat → Int32) → (Nat → Int32) → Int32 → (Int32 × Int32 × Int32 × Int32 × Int32 × Int32 × (Nat → Int32) × (Nat → Int32) × (Nat → Int32) × (Nat → Int32) × (Nat → Int32) × (Nat → Int32) × (Nat → Int32) × Int32)} (h42 : ∀ a1 a2 a3 a4 a5 a6 a7 a8 a9 a10 a11 a12 a13 a14, E42 a1 a2 a3 a4 a5 a6 a7 a8 a9 a10 a11 a12 a13 a14 = (a1, a2, a3, a4, a5, a6, a7, a8, a9, a10, a11, a12, a13, 1)) : ∀ (m N : Nat) (b : Bool) (k n v3 v4 v5 : Int32) (g6 g7 g8 g9 g10 g11 g12 : Nat → Int32) (i : Int32) (w : Int32 × Int32 × List (Int32 × List (Int32 × Int32) × List (Int32 × Int32))), ¬ k < 0 → k < tc → ¬ n < 0 → ¬ 60 < n → ¬ i < 0 → ¬ n < i → (b = false ↔ i ≤ 0) → (401 - i.toInt).toNat < N → slp tk nx (sF tk nx 6) 318 (-2) m b (pf k.toNatClampNeg) n = .ok w → PRE n v3 v4 v5 w.2.2 → TSC w.2.1 v3 v4 v5 g6 g7 g8 g9 g10 g11 g12 w.2.2 (fl_mX2_readPart_4_2 tc tf pf E17 E42 E60 N k f n v3 v4 v5 g6 g7 g8 g9 g10 g11 g12 i) := by
  intro m
  induction m with
  | zero => intro N b k n v3 v4 v5 g6 g7 g8 g9 g10 g11 g12 i w k0 k1 n0 n6 i0 i6 hb hN he; cases he
  | succ m ih =>
    intro N b k n v3 v4 v5 g6 g7 g8 g9 g10 g11 g12 i w k0 k1 n0 n6 i0 i6 hb hN he hp
    cases N with
    | zero => exact absurd hN (Nat.not_lt_zero _)
    | succ N =>
      rw [slp_s] at he
      obtain ⟨v, hv, he⟩ := exb_inv he
      have hf := c_fact_4 h k f n g6 g7 g8 g9 g10 g11 g12 v3 v4 v5 k0 k1 n0 n6
      have hf2 : TV pf tc f n (.ok v) (fX2_readFact_4 tc k f n tf pf g6 g7 g8 g9 g10 g11 g12 v3 v4 v5) := by rw [← hv]; exact hf
      have hc := fun hq => c_factC_4 h htk k f n g6 g7 g8 g9 g10 g11 g12 v3 v4 v5 v k0 k1 n0 n6 hv hq
      show TSC w.2.1 v3 v4 v5 g6 g7 g8 g9 g10 g11 g12 w.2.2 (fb_mX2_readPart_4_2 tc tf pf E17 E42 E60 (fl_mX2_readPart_4_2 tc tf pf E17 E42 E60 N) k f n v3 v4 v5 g6 g7 g8 g9 g10 g11 g12 i)
      unfold fb_mX2_readPart_4_2
      rw [if_neg (show ¬ 400 < i by grind)]
      simp only [bnd]
      clear hf
      generalize fX2_readFact_4 tc k f n tf pf g6 g7 g8 g9 g10 g11 g12 v3 v4 v5 = u at hf2 hc ⊢
      obtain ⟨c1, c2, c3, c4, c5, c6, c7, c8⟩ := hf2
      rw [if_neg (show ¬ u.2.2.2.2.2.2.2.2.2.2.2.2.2 = 0 by rw [c8]; decide)]
      have hn : (v.2.1).toInt ≤ 60 ∧ n.toInt < (v.2.1).toInt := z_le60 c6 c7
      have hi := z_inc60 i6 c6 c7 i0
      have i0' := i_nn i0
      have i6' : i.toInt ≤ n.toInt := by
        rw [Int32.lt_iff_toInt_lt] at i6
        omega
      -- the operand, with its sign behind it
      have key : ∀ (l1 : List (Int32 × List (Int32 × Int32) × List (Int32 × Int32))) (s5 : Int32) (s12 : Nat → Int32), PRE n v3 v4 v5 l1 → TSC v.2.1 v3 v4 v5 g6 g7 g8 g9 g10 g11 g12 l1 (u.1, u.2.1, u.2.2.1, u.2.2.2.1, u.2.2.2.2.1, s5, u.2.2.2.2.2.2.1, u.2.2.2.2.2.2.2.1, u.2.2.2.2.2.2.2.2.1, u.2.2.2.2.2.2.2.2.2.1, u.2.2.2.2.2.2.2.2.2.2.1, u.2.2.2.2.2.2.2.2.2.2.2.1, s12, 1) → (if tk v.1 = 318 then exb (slp tk nx (sF tk nx 6) 318 (-2) m true (nx v.1) v.2.1) (fun x => .ok (x.1, x.2.1, l1 ++ x.2.2)) else .ok (v.1, v.2.1, l1)) = .ok w → TSC w.2.1 v3 v4 v5 g6 g7 g8 g9 g10 g11 g12 w.2.2 (if fX2_token tc u.1 tf = 318 then fl_mX2_readPart_4_2 tc tf pf E17 E42 E60 N (u.1 + 1) u.2.1 u.2.2.1 u.2.2.2.1 u.2.2.2.2.1 s5 u.2.2.2.2.2.2.1 u.2.2.2.2.2.2.2.1 u.2.2.2.2.2.2.2.2.1 u.2.2.2.2.2.2.2.2.2.1 u.2.2.2.2.2.2.2.2.2.2.1 u.2.2.2.2.2.2.2.2.2.2.2.1 s12 (i + 1) else E42 u.1 u.2.1 u.2.2.1 u.2.2.2.1 u.2.2.2.2.1 s5 u.2.2.2.2.2.2.1 u.2.2.2.2.2.2.2.1 u.2.2.2.2.2.2.2.2.1 u.2.2.2.2.2.2.2.2.2.1 u.2.2.2.2.2.2.2.2.2.2.1 u.2.2.2.2.2.2.2.2.2.2.2.1 s12 i) := by
        intro l1 s5 s12 hq hu he
        rw [CH_tok h c1 c2, c3]
        by_cases t : tk v.1 = 318
        · rw [if_pos t] at he ⊢
          obtain ⟨x, hx, he⟩ := exb_inv he
          cases he
          obtain ⟨d0, d1, d2⟩ := CH_nx h c1 c2 c3 (fun q => absurd (t.symm.trans q) (by decide))
          have hp2 := PRE_r hp hu
          have z := ih N true (u.1 + 1) v.2.1 u.2.2.2.1 u.2.2.2.2.1 s5 u.2.2.2.2.2.2.1 u.2.2.2.2.2.2.2.1 u.2.2.2.2.2.2.2.2.1 u.2.2.2.2.2.2.2.2.2.1 u.2.2.2.2.2.2.2.2.2.2.1 u.2.2.2.2.2.2.2.2.2.2.2.1 s12 (i + 1) x d0 d1 (by grind) c7 (by rw [Int32.lt_iff_toInt_lt, z_i0]; omega) (by rw [Int32.lt_iff_toInt_lt]; omega) ⟨fun q => (by cases q), fun q => by rw [Int32.le_iff_toInt_le, z_i0] at q; omega⟩ (by omega) (by rw [d2]; exact hx) hp2
          rw [c4, c5]
          exact TSC_app hq hu z
        · rw [if_neg t] at he ⊢
          cases he
          rw [h42]
          exact hu
      by_cases hi9 : i ≤ 0
      · have b9 := hb.mpr hi9
        subst b9
        rw [if_pos hi9]
        have hq : PRE n v3 v4 v5 v.2.2 := by
          by_cases t : tk v.1 = 318
          · rw [if_pos t] at he
            obtain ⟨x, hx, he⟩ := exb_inv he
            cases he
            exact PRE_l hp
          · rw [if_neg t] at he
            cases he
            exact hp
        exact key v.2.2 u.2.2.2.2.2.1 u.2.2.2.2.2.2.2.2.2.2.2.2.1 hq (hc hq) he
      · have b9 : b = true := by
          cases b with
          | false => exact absurd (hb.mp rfl) hi9
          | true => rfl
        subst b9
        rw [if_neg hi9]
        have hq2 : PRE n v3 v4 v5 (v.2.2 ++ [((-2), [], [])]) := by
          by_cases t : tk v.1 = 318
          · rw [if_pos t] at he
            obtain ⟨x, hx, he⟩ := exb_inv he
            cases he
            exact PRE_l hp
          · rw [if_neg t] at he
            cases he
            exact hp
        have hq := PRE_l hq2
        have hcu := hc hq
        have hr := PRE_r hq2 hcu
        rw [step_x (by have := hr.2.2.2.2.2; simp at this; omega)]
        exact key (v.2.2 ++ [((-2), [], [])]) _ _ hq2 (TSC_app hq hcu (TSC_step hr (Or.inr (Or.inl rfl)))) he
set_option maxHeartbeats 400000 in
theorem c_partC_4 {tk nx : Int32 → Int32} {tc : Int32} {tf pf : Nat → Int32} (h : CH tk nx tc tf pf) (htk : TKH tk nx) : ∀ (k f n : Int32) (yj yo y1 y2 y3 y4 y5 : Nat → Int32) (yv yf ys : Int32) (w : Int32 × Int32 × List (Int32 × List (Int32 × Int32) × List (Int32 × Int32))), ¬ k < 0 → k < tc → ¬ n < 0 → ¬ 60 < n → sP tk nx 6 (pf k.toNatClampNeg) n = .ok w → PRE n yv yf ys w.2.2 → TSC w.2.1 yv yf ys yj yo y1 y2 y3 y4 y5 w.2.2 (fX2_readPart_4 tc k f n tf pf yj yo y1 y2 y3 y4 y5 yv yf ys) := by
  intro k f n yj yo y1 y2 y3 y4 y5 yv yf ys w k0 k1 n0 n6 he hp
  exact c_partLC_4 h htk (fun _ _ _ _ _ _ _ _ _ _ _ _ _ _ => rfl) 61 _ false k n yv yf ys yj yo y1 y2 y3 y4 y5 0 w k0 k1 n0 n6 (by decide) n0 ⟨fun _ => Int32.le_refl _, fun _ => rfl⟩ (by decide) he hp
set_option maxHeartbeats 400000 in
theorem c_testLC_4 {tk nx : Int32 → Int32} {tc : Int32} {tf pf : Nat → Int32} (h : CH tk nx tc tf pf) (htk : TKH tk nx) {f : Int32} {E17 E42 E60 : Int32 → Int32 → Int32 → Int32 → Int32 → Int32 → (Nat → Int32) → (Nat → Int32) → (Nat → Int32) → (Nat → Int32) → (Nat → Int32) → (Nat → Int32) → (Nat → Int32) → Int32 → (Int32 × Int32 × Int32 × Int32 × Int32 × Int32 × (Nat → Int32) × (Nat → Int32) × (Nat → Int32) × (Nat → Int32) × (Nat → Int32) × (Nat → Int32) × (Nat → Int32) × Int32)} (h42 : ∀ a1 a2 a3 a4 a5 a6 a7 a8 a9 a10 a11 a12 a13 a14, E42 a1 a2 a3 a4 a5 a6 a7 a8 a9 a10 a11 a12 a13 a14 = (a1, a2, a3, a4, a5, a6, a7, a8, a9, a10, a11, a12, a13, 1)) : ∀ (m N : Nat) (b : Bool) (k n v3 v4 v5 : Int32) (g6 g7 g8 g9 g10 g11 g12 : Nat → Int32) (i : Int32) (w : Int32 × Int32 × List (Int32 × List (Int32 × Int32) × List (Int32 × Int32))), ¬ k < 0 → k < tc → ¬ n < 0 → ¬ 60 < n → ¬ i < 0 → ¬ n < i → (b = false ↔ i ≤ 0) → (401 - i.toInt).toNat < N → slp tk nx (sP tk nx 6) 317 (-3) m b (pf k.toNatClampNeg) n = .ok w → PRE n v3 v4 v5 w.2.2 → TSC w.2.1 v3 v4 v5 g6 g7 g8 g9 g10 g11 g12 w.2.2 (fl_mX2_readTest_4_2 tc tf pf E17 E42 E60 N k f n v3 v4 v5 g6 g7 g8 g9 g10 g11 g12 i) := by
  intro m
  induction m with
  | zero => intro N b k n v3 v4 v5 g6 g7 g8 g9 g10 g11 g12 i w k0 k1 n0 n6 i0 i6 hb hN he; cases he
  | succ m ih =>
    intro N b k n v3 v4 v5 g6 g7 g8 g9 g10 g11 g12 i w k0 k1 n0 n6 i0 i6 hb hN he hp
    cases N with
    | zero => exact absurd hN (Nat.not_lt_zero _)
    | succ N =>
      rw [slp_s] at he
      obtain ⟨v, hv, he⟩ := exb_inv he
      have hf := c_part_4 h k f n g6 g7 g8 g9 g10 g11 g12 v3 v4 v5 k0 k1 n0 n6
      have hf2 : TV pf tc f n (.ok v) (fX2_readPart_4 tc k f n tf pf g6 g7 g8 g9 g10 g11 g12 v3 v4 v5) := by rw [← hv]; exact hf
      have hc := fun hq => c_partC_4 h htk k f n g6 g7 g8 g9 g10 g11 g12 v3 v4 v5 v k0 k1 n0 n6 hv hq
      show TSC w.2.1 v3 v4 v5 g6 g7 g8 g9 g10 g11 g12 w.2.2 (fb_mX2_readTest_4_2 tc tf pf E17 E42 E60 (fl_mX2_readTest_4_2 tc tf pf E17 E42 E60 N) k f n v3 v4 v5 g6 g7 g8 g9 g10 g11 g12 i)
      unfold fb_mX2_readTest_4_2
      rw [if_neg (show ¬ 400 < i by grind)]
      simp only [bnd]
      clear hf
      generalize fX2_readPart_4 tc k f n tf pf g6 g7 g8 g9 g10 g11 g12 v3 v4 v5 = u at hf2 hc ⊢
      obtain ⟨c1, c2, c3, c4, c5, c6, c7, c8⟩ := hf2
      rw [if_neg (show ¬ u.2.2.2.2.2.2.2.2.2.2.2.2.2 = 0 by rw [c8]; decide)]
      have hn : (v.2.1).toInt ≤ 60 ∧ n.toInt < (v.2.1).toInt := z_le60 c6 c7
      have hi := z_inc60 i6 c6 c7 i0
      have i0' := i_nn i0
      have i6' : i.toInt ≤ n.toInt := by
        rw [Int32.lt_iff_toInt_lt] at i6
        omega
      -- the operand, with its sign behind it
      have key : ∀ (l1 : List (Int32 × List (Int32 × Int32) × List (Int32 × Int32))) (s5 : Int32) (s12 : Nat → Int32), PRE n v3 v4 v5 l1 → TSC v.2.1 v3 v4 v5 g6 g7 g8 g9 g10 g11 g12 l1 (u.1, u.2.1, u.2.2.1, u.2.2.2.1, u.2.2.2.2.1, s5, u.2.2.2.2.2.2.1, u.2.2.2.2.2.2.2.1, u.2.2.2.2.2.2.2.2.1, u.2.2.2.2.2.2.2.2.2.1, u.2.2.2.2.2.2.2.2.2.2.1, u.2.2.2.2.2.2.2.2.2.2.2.1, s12, 1) → (if tk v.1 = 317 then exb (slp tk nx (sP tk nx 6) 317 (-3) m true (nx v.1) v.2.1) (fun x => .ok (x.1, x.2.1, l1 ++ x.2.2)) else .ok (v.1, v.2.1, l1)) = .ok w → TSC w.2.1 v3 v4 v5 g6 g7 g8 g9 g10 g11 g12 w.2.2 (if fX2_token tc u.1 tf = 317 then fl_mX2_readTest_4_2 tc tf pf E17 E42 E60 N (u.1 + 1) u.2.1 u.2.2.1 u.2.2.2.1 u.2.2.2.2.1 s5 u.2.2.2.2.2.2.1 u.2.2.2.2.2.2.2.1 u.2.2.2.2.2.2.2.2.1 u.2.2.2.2.2.2.2.2.2.1 u.2.2.2.2.2.2.2.2.2.2.1 u.2.2.2.2.2.2.2.2.2.2.2.1 s12 (i + 1) else E42 u.1 u.2.1 u.2.2.1 u.2.2.2.1 u.2.2.2.2.1 s5 u.2.2.2.2.2.2.1 u.2.2.2.2.2.2.2.1 u.2.2.2.2.2.2.2.2.1 u.2.2.2.2.2.2.2.2.2.1 u.2.2.2.2.2.2.2.2.2.2.1 u.2.2.2.2.2.2.2.2.2.2.2.1 s12 i) := by
        intro l1 s5 s12 hq hu he
        rw [CH_tok h c1 c2, c3]
        by_cases t : tk v.1 = 317
        · rw [if_pos t] at he ⊢
          obtain ⟨x, hx, he⟩ := exb_inv he
          cases he
          obtain ⟨d0, d1, d2⟩ := CH_nx h c1 c2 c3 (fun q => absurd (t.symm.trans q) (by decide))
          have hp2 := PRE_r hp hu
          have z := ih N true (u.1 + 1) v.2.1 u.2.2.2.1 u.2.2.2.2.1 s5 u.2.2.2.2.2.2.1 u.2.2.2.2.2.2.2.1 u.2.2.2.2.2.2.2.2.1 u.2.2.2.2.2.2.2.2.2.1 u.2.2.2.2.2.2.2.2.2.2.1 u.2.2.2.2.2.2.2.2.2.2.2.1 s12 (i + 1) x d0 d1 (by grind) c7 (by rw [Int32.lt_iff_toInt_lt, z_i0]; omega) (by rw [Int32.lt_iff_toInt_lt]; omega) ⟨fun q => (by cases q), fun q => by rw [Int32.le_iff_toInt_le, z_i0] at q; omega⟩ (by omega) (by rw [d2]; exact hx) hp2
          rw [c4, c5]
          exact TSC_app hq hu z
        · rw [if_neg t] at he ⊢
          cases he
          rw [h42]
          exact hu
      by_cases hi9 : i ≤ 0
      · have b9 := hb.mpr hi9
        subst b9
        rw [if_pos hi9]
        have hq : PRE n v3 v4 v5 v.2.2 := by
          by_cases t : tk v.1 = 317
          · rw [if_pos t] at he
            obtain ⟨x, hx, he⟩ := exb_inv he
            cases he
            exact PRE_l hp
          · rw [if_neg t] at he
            cases he
            exact hp
        exact key v.2.2 u.2.2.2.2.2.1 u.2.2.2.2.2.2.2.2.2.2.2.2.1 hq (hc hq) he
      · have b9 : b = true := by
          cases b with
          | false => exact absurd (hb.mp rfl) hi9
          | true => rfl
        subst b9
        rw [if_neg hi9]
        have hq2 : PRE n v3 v4 v5 (v.2.2 ++ [((-3), [], [])]) := by
          by_cases t : tk v.1 = 317
          · rw [if_pos t] at he
            obtain ⟨x, hx, he⟩ := exb_inv he
            cases he
            exact PRE_l hp
          · rw [if_neg t] at he
            cases he
            exact hp
        have hq := PRE_l hq2
        have hcu := hc hq
        have hr := PRE_r hq2 hcu
        rw [step_x (by have := hr.2.2.2.2.2; simp at this; omega)]
        exact key (v.2.2 ++ [((-3), [], [])]) _ _ hq2 (TSC_app hq hcu (TSC_step hr (Or.inr (Or.inr rfl)))) he
set_option maxHeartbeats 400000 in
theorem c_testC_4 {tk nx : Int32 → Int32} {tc : Int32} {tf pf : Nat → Int32} (h : CH tk nx tc tf pf) (htk : TKH tk nx) : ∀ (k f n : Int32) (yj yo y1 y2 y3 y4 y5 : Nat → Int32) (yv yf ys : Int32) (w : Int32 × Int32 × List (Int32 × List (Int32 × Int32) × List (Int32 × Int32))), ¬ k < 0 → k < tc → ¬ n < 0 → ¬ 60 < n → sT tk nx 6 (pf k.toNatClampNeg) n = .ok w → PRE n yv yf ys w.2.2 → TSC w.2.1 yv yf ys yj yo y1 y2 y3 y4 y5 w.2.2 (fX2_readTest_4 tc k f n tf pf yj yo y1 y2 y3 y4 y5 yv yf ys) := by
  intro k f n yj yo y1 y2 y3 y4 y5 yv yf ys w k0 k1 n0 n6 he hp
  exact c_testLC_4 h htk (fun _ _ _ _ _ _ _ _ _ _ _ _ _ _ => rfl) 61 _ false k n yv yf ys yj yo y1 y2 y3 y4 y5 0 w k0 k1 n0 n6 (by decide) n0 ⟨fun _ => Int32.le_refl _, fun _ => rfl⟩ (by decide) he hp
set_option maxHeartbeats 400000 in
theorem c_factC_3 {tk nx : Int32 → Int32} {tc : Int32} {tf pf : Nat → Int32} (h : CH tk nx tc tf pf) (htk : TKH tk nx) : ∀ (k f n : Int32) (yj yo y1 y2 y3 y4 y5 : Nat → Int32) (yv yf ys : Int32) (w : Int32 × Int32 × List (Int32 × List (Int32 × Int32) × List (Int32 × Int32))), ¬ k < 0 → k < tc → ¬ n < 0 → ¬ 60 < n → sF tk nx 7 (pf k.toNatClampNeg) n = .ok w → PRE n yv yf ys w.2.2 → TSC w.2.1 yv yf ys yj yo y1 y2 y3 y4 y5 w.2.2 (fX2_readFact_3 tc k f n tf pf yj yo y1 y2 y3 y4 y5 yv yf ys) := by
  intro k f n yj yo y1 y2 y3 y4 y5 yv yf ys w k0 k1 n0 n6 he hp
  unfold fX2_readFact_3
  simp only [bnd, CH_tok h k0 k1]
  have he : sfc tk nx (sT tk nx 6) (sF tk nx 6) (pf k.toNatClampNeg) n = .ok w := he
  unfold sfc at he
  by_cases a : tk (pf k.toNatClampNeg) = 319
  · rw [if_pos a] at he ⊢
    obtain ⟨v, hv, he⟩ := exb_inv he
    cases he
    obtain ⟨b0, b1, b2⟩ := CH_nx h k0 k1 rfl (fun q => absurd (a.symm.trans q) (by decide))
    have hc := c_factC_4 h htk (k + 1) f n yj yo y1 y2 y3 y4 y5 yv yf ys v b0 b1 n0 n6 (by rw [b2]; exact hv) (PRE_l hp)
    have hr := PRE_r hp hc
    generalize fX2_readFact_4 tc (k + 1) f n tf pf yj yo y1 y2 y3 y4 y5 yv yf ys = u at hc hr ⊢
    rw [step_x (by have := hr.2.2.2.2.2; simp at this; omega)]
    exact TSC_app (PRE_l hp) hc (TSC_step hr (Or.inl rfl))
  · rw [if_neg a] at he ⊢
    by_cases b : tk (pf k.toNatClampNeg) = 91
    · rw [if_pos b] at he ⊢
      obtain ⟨v, hv, he⟩ := exb_inv he
      by_cases t : tk v.1 = 93
      · rw [if_pos t] at he
        cases he
        obtain ⟨b0, b1, b2⟩ := CH_nx h k0 k1 rfl (fun q => absurd (b.symm.trans q) (by decide))
        have hf := c_test_4 h (k + 1) f n yj yo y1 y2 y3 y4 y5 yv yf ys b0 b1 n0 n6
        have hc := c_testC_4 h htk (k + 1) f n yj yo y1 y2 y3 y4 y5 yv yf ys v b0 b1 n0 n6 (by rw [b2]; exact hv) hp
        rw [b2, hv] at hf
        generalize fX2_readTest_4 tc (k + 1) f n tf pf yj yo y1 y2 y3 y4 y5 yv yf ys = u at hf hc ⊢
        obtain ⟨c1, c2, c3, c4, c5, c6, c7, c8⟩ := hf
        rw [if_neg (show ¬ u.2.2.2.2.2.2.2.2.2.2.2.2.2 = 0 by rw [c8]; decide), CH_take h c1 c2 c3, if_pos t]
        exact hc
      · rw [if_neg t] at he; cases he
    · rw [if_neg b] at he ⊢
      have hc := c_cmpC h htk k f n yj yo y1 y2 y3 y4 y5 yv yf ys w k0 k1 n0 n6 he hp
      generalize fX2_readComparison tc k f n tf pf yj yo y1 y2 y3 y4 y5 yv yf ys = u at hc ⊢
      exact hc
set_option maxHeartbeats 400000 in
theorem c_partLC_3 {tk nx : Int32 → Int32} {tc : Int32} {tf pf : Nat → Int32} (h : CH tk nx tc tf pf) (htk : TKH tk nx) {f : Int32} {E17 E42 E60 : Int32 → Int32 → Int32 → Int32 → Int32 → Int32 → (Nat → Int32) → (Nat → Int32) → (Nat → Int32) → (Nat → Int32) → (Nat → Int32) → (Nat → Int32) → (Nat → Int32) → Int32 → (Int32 × Int32 × Int32 × Int32 × Int32 × Int32 × (Nat → Int32) × (Nat → Int32) × (Nat → Int32) × (Nat → Int32) × (Nat → Int32) × (Nat → Int32) × (Nat → Int32) × Int32)} (h42 : ∀ a1 a2 a3 a4 a5 a6 a7 a8 a9 a10 a11 a12 a13 a14, E42 a1 a2 a3 a4 a5 a6 a7 a8 a9 a10 a11 a12 a13 a14 = (a1, a2, a3, a4, a5, a6, a7, a8, a9, a10, a11, a12, a13, 1)) : ∀ (m N : Nat) (b : Bool) (k n v3 v4 v5 : Int32) (g6 g7 g8 g9 g10 g11 g12 : Nat → Int32) (i : Int32) (w : Int32 × Int32 × List (Int32 × List (Int32 × Int32) × List (Int32 × Int32))), ¬ k < 0 → k < tc → ¬ n < 0 → ¬ 60 < n → ¬ i < 0 → ¬ n < i → (b = false ↔ i ≤ 0) → (401 - i.toInt).toNat < N → slp tk nx (sF tk nx 7) 318 (-2) m b (pf k.toNatClampNeg) n = .ok w → PRE n v3 v4 v5 w.2.2 → TSC w.2.1 v3 v4 v5 g6 g7 g8 g9 g10 g11 g12 w.2.2 (fl_mX2_readPart_3_2 tc tf pf E17 E42 E60 N k f n v3 v4 v5 g6 g7 g8 g9 g10 g11 g12 i) := by
  intro m
  induction m with
  | zero => intro N b k n v3 v4 v5 g6 g7 g8 g9 g10 g11 g12 i w k0 k1 n0 n6 i0 i6 hb hN he; cases he
  | succ m ih =>
    intro N b k n v3 v4 v5 g6 g7 g8 g9 g10 g11 g12 i w k0 k1 n0 n6 i0 i6 hb hN he hp
    cases N with
    | zero => exact absurd hN (Nat.not_lt_zero _)
    | succ N =>
      rw [slp_s] at he
      obtain ⟨v, hv, he⟩ := exb_inv he
      have hf := c_fact_3 h k f n g6 g7 g8 g9 g10 g11 g12 v3 v4 v5 k0 k1 n0 n6
      have hf2 : TV pf tc f n (.ok v) (fX2_readFact_3 tc k f n tf pf g6 g7 g8 g9 g10 g11 g12 v3 v4 v5) := by rw [← hv]; exact hf
      have hc := fun hq => c_factC_3 h htk k f n g6 g7 g8 g9 g10 g11 g12 v3 v4 v5 v k0 k1 n0 n6 hv hq
      show TSC w.2.1 v3 v4 v5 g6 g7 g8 g9 g10 g11 g12 w.2.2 (fb_mX2_readPart_3_2 tc tf pf E17 E42 E60 (fl_mX2_readPart_3_2 tc tf pf E17 E42 E60 N) k f n v3 v4 v5 g6 g7 g8 g9 g10 g11 g12 i)
      unfold fb_mX2_readPart_3_2
      rw [if_neg (show ¬ 400 < i by grind)]
      simp only [bnd]
      clear hf
      generalize fX2_readFact_3 tc k f n tf pf g6 g7 g8 g9 g10 g11 g12 v3 v4 v5 = u at hf2 hc ⊢
      obtain ⟨c1, c2, c3, c4, c5, c6, c7, c8⟩ := hf2
      rw [if_neg (show ¬ u.2.2.2.2.2.2.2.2.2.2.2.2.2 = 0 by rw [c8]; decide)]
      have hn : (v.2.1).toInt ≤ 60 ∧ n.toInt < (v.2.1).toInt := z_le60 c6 c7
      have hi := z_inc60 i6 c6 c7 i0
      have i0' := i_nn i0
      have i6' : i.toInt ≤ n.toInt := by
        rw [Int32.lt_iff_toInt_lt] at i6
        omega
      -- the operand, with its sign behind it
      have key : ∀ (l1 : List (Int32 × List (Int32 × Int32) × List (Int32 × Int32))) (s5 : Int32) (s12 : Nat → Int32), PRE n v3 v4 v5 l1 → TSC v.2.1 v3 v4 v5 g6 g7 g8 g9 g10 g11 g12 l1 (u.1, u.2.1, u.2.2.1, u.2.2.2.1, u.2.2.2.2.1, s5, u.2.2.2.2.2.2.1, u.2.2.2.2.2.2.2.1, u.2.2.2.2.2.2.2.2.1, u.2.2.2.2.2.2.2.2.2.1, u.2.2.2.2.2.2.2.2.2.2.1, u.2.2.2.2.2.2.2.2.2.2.2.1, s12, 1) → (if tk v.1 = 318 then exb (slp tk nx (sF tk nx 7) 318 (-2) m true (nx v.1) v.2.1) (fun x => .ok (x.1, x.2.1, l1 ++ x.2.2)) else .ok (v.1, v.2.1, l1)) = .ok w → TSC w.2.1 v3 v4 v5 g6 g7 g8 g9 g10 g11 g12 w.2.2 (if fX2_token tc u.1 tf = 318 then fl_mX2_readPart_3_2 tc tf pf E17 E42 E60 N (u.1 + 1) u.2.1 u.2.2.1 u.2.2.2.1 u.2.2.2.2.1 s5 u.2.2.2.2.2.2.1 u.2.2.2.2.2.2.2.1 u.2.2.2.2.2.2.2.2.1 u.2.2.2.2.2.2.2.2.2.1 u.2.2.2.2.2.2.2.2.2.2.1 u.2.2.2.2.2.2.2.2.2.2.2.1 s12 (i + 1) else E42 u.1 u.2.1 u.2.2.1 u.2.2.2.1 u.2.2.2.2.1 s5 u.2.2.2.2.2.2.1 u.2.2.2.2.2.2.2.1 u.2.2.2.2.2.2.2.2.1 u.2.2.2.2.2.2.2.2.2.1 u.2.2.2.2.2.2.2.2.2.2.1 u.2.2.2.2.2.2.2.2.2.2.2.1 s12 i) := by
        intro l1 s5 s12 hq hu he
        rw [CH_tok h c1 c2, c3]
        by_cases t : tk v.1 = 318
        · rw [if_pos t] at he ⊢
          obtain ⟨x, hx, he⟩ := exb_inv he
          cases he
          obtain ⟨d0, d1, d2⟩ := CH_nx h c1 c2 c3 (fun q => absurd (t.symm.trans q) (by decide))
          have hp2 := PRE_r hp hu
          have z := ih N true (u.1 + 1) v.2.1 u.2.2.2.1 u.2.2.2.2.1 s5 u.2.2.2.2.2.2.1 u.2.2.2.2.2.2.2.1 u.2.2.2.2.2.2.2.2.1 u.2.2.2.2.2.2.2.2.2.1 u.2.2.2.2.2.2.2.2.2.2.1 u.2.2.2.2.2.2.2.2.2.2.2.1 s12 (i + 1) x d0 d1 (by grind) c7 (by rw [Int32.lt_iff_toInt_lt, z_i0]; omega) (by rw [Int32.lt_iff_toInt_lt]; omega) ⟨fun q => (by cases q), fun q => by rw [Int32.le_iff_toInt_le, z_i0] at q; omega⟩ (by omega) (by rw [d2]; exact hx) hp2
          rw [c4, c5]
          exact TSC_app hq hu z
        · rw [if_neg t] at he ⊢
          cases he
          rw [h42]
          exact hu
      by_cases hi9 : i ≤ 0
      · have b9 := hb.mpr hi9
        subst b9
        rw [if_pos hi9]
        have hq : PRE n v3 v4 v5 v.2.2 := by
          by_cases t : tk v.1 = 318
          · rw [if_pos t] at he
            obtain ⟨x, hx, he⟩ := exb_inv he
            cases he
            exact PRE_l hp
          · rw [if_neg t] at he
            cases he
            exact hp
        exact key v.2.2 u.2.2.2.2.2.1 u.2.2.2.2.2.2.2.2.2.2.2.2.1 hq (hc hq) he
      · have b9 : b = true := by
          cases b with
          | false => exact absurd (hb.mp rfl) hi9
          | true => rfl
        subst b9
        rw [if_neg hi9]
        have hq2 : PRE n v3 v4 v5 (v.2.2 ++ [((-2), [], [])]) := by
          by_cases t : tk v.1 = 318
          · rw [if_pos t] at he
            obtain ⟨x, hx, he⟩ := exb_inv he
            cases he
            exact PRE_l hp
          · rw [if_neg t] at he
            cases he
            exact hp
        have hq := PRE_l hq2
        have hcu := hc hq
        have hr := PRE_r hq2 hcu
        rw [step_x (by have := hr.2.2.2.2.2; simp at this; omega)]
        exact key (v.2.2 ++ [((-2), [], [])]) _ _ hq2 (TSC_app hq hcu (TSC_step hr (Or.inr (Or.inl rfl)))) he
set_option maxHeartbeats 400000 in
theorem c_partC_3 {tk nx : Int32 → Int32} {tc : Int32} {tf pf : Nat → Int32} (h : CH tk nx tc tf pf) (htk : TKH tk nx) : ∀ (k f n : Int32) (yj yo y1 y2 y3 y4 y5 : Nat → Int32) (yv yf ys : Int32) (w : Int32 × Int32 × List (Int32 × List (Int32 × Int32) × List (Int32 × Int32))), ¬ k < 0 → k < tc → ¬ n < 0 → ¬ 60 < n → sP tk nx 7 (pf k.toNatClampNeg) n = .ok w → PRE n yv yf ys w.2.2 → TSC w.2.1 yv yf ys yj yo y1 y2 y3 y4 y5 w.2.2 (fX2_readPart_3 tc k f n tf pf yj yo y1 y2 y3 y4 y5 yv yf ys) := by
  intro k f n yj yo y1 y2 y3 y4 y5 yv yf ys w k0 k1 n0 n6 he hp
  exact c_partLC_3 h htk (fun _ _ _ _ _ _ _ _ _ _ _ _ _ _ => rfl) 61 _ false k n yv yf ys yj yo y1 y2 y3 y4 y5 0 w k0 k1 n0 n6 (by decide) n0 ⟨fun _ => Int32.le_refl _, fun _ => rfl⟩ (by decide) he hp
set_option maxHeartbeats 400000 in
theorem c_testLC_3 {tk nx : Int32 → Int32} {tc : Int32} {tf pf : Nat → Int32} (h : CH tk nx tc tf pf) (htk : TKH tk nx) {f : Int32} {E17 E42 E60 : Int32 → Int32 → Int32 → Int32 → Int32 → Int32 → (Nat → Int32) → (Nat → Int32) → (Nat → Int32) → (Nat → Int32) → (Nat → Int32) → (Nat → Int32) → (Nat → Int32) → Int32 → (Int32 × Int32 × Int32 × Int32 × Int32 × Int32 × (Nat → Int32) × (Nat → Int32) × (Nat → Int32) × (Nat → Int32) × (Nat → Int32) × (Nat → Int32) × (Nat → Int32) × Int32)} (h42 : ∀ a1 a2 a3 a4 a5 a6 a7 a8 a9 a10 a11 a12 a13 a14, E42 a1 a2 a3 a4 a5 a6 a7 a8 a9 a10 a11 a12 a13 a14 = (a1, a2, a3, a4, a5, a6, a7, a8, a9, a10, a11, a12, a13, 1)) : ∀ (m N : Nat) (b : Bool) (k n v3 v4 v5 : Int32) (g6 g7 g8 g9 g10 g11 g12 : Nat → Int32) (i : Int32) (w : Int32 × Int32 × List (Int32 × List (Int32 × Int32) × List (Int32 × Int32))), ¬ k < 0 → k < tc → ¬ n < 0 → ¬ 60 < n → ¬ i < 0 → ¬ n < i → (b = false ↔ i ≤ 0) → (401 - i.toInt).toNat < N → slp tk nx (sP tk nx 7) 317 (-3) m b (pf k.toNatClampNeg) n = .ok w → PRE n v3 v4 v5 w.2.2 → TSC w.2.1 v3 v4 v5 g6 g7 g8 g9 g10 g11 g12 w.2.2 (fl_mX2_readTest_3_2 tc tf pf E17 E42 E60 N k f n v3 v4 v5 g6 g7 g8 g9 g10 g11 g12 i) := by
  intro m
  induction m with
  | zero => intro N b k n v3 v4 v5 g6 g7 g8 g9 g10 g11 g12 i w k0 k1 n0 n6 i0 i6 hb hN he; cases he
  | succ m ih =>
    intro N b k n v3 v4 v5 g6 g7 g8 g9 g10 g11 g12 i w k0 k1 n0 n6 i0 i6 hb hN he hp
    cases N with
    | zero => exact absurd hN (Nat.not_lt_zero _)
    | succ N =>
      rw [slp_s] at he
      obtain ⟨v, hv, he⟩ := exb_inv he
      have hf := c_part_3 h k f n g6 g7 g8 g9 g10 g11 g12 v3 v4 v5 k0 k1 n0 n6
      have hf2 : TV pf tc f n (.ok v) (fX2_readPart_3 tc k f n tf pf g6 g7 g8 g9 g10 g11 g12 v3 v4 v5) := by rw [← hv]; exact hf
      have hc := fun hq => c_partC_3 h htk k f n g6 g7 g8 g9 g10 g11 g12 v3 v4 v5 v k0 k1 n0 n6 hv hq
      show TSC w.2.1 v3 v4 v5 g6 g7 g8 g9 g10 g11 g12 w.2.2 (fb_mX2_readTest_3_2 tc tf pf E17 E42 E60 (fl_mX2_readTest_3_2 tc tf pf E17 E42 E60 N) k f n v3 v4 v5 g6 g7 g8 g9 g10 g11 g12 i)
      unfold fb_mX2_readTest_3_2
      rw [if_neg (show ¬ 400 < i by grind)]
      simp only [bnd]
      clear hf
      generalize fX2_readPart_3 tc k f n tf pf g6 g7 g8 g9 g10 g11 g12 v3 v4 v5 = u at hf2 hc ⊢
      obtain ⟨c1, c2, c3, c4, c5, c6, c7, c8⟩ := hf2
      rw [if_neg (show ¬ u.2.2.2.2.2.2.2.2.2.2.2.2.2 = 0 by rw [c8]; decide)]
      have hn : (v.2.1).toInt ≤ 60 ∧ n.toInt < (v.2.1).toInt := z_le60 c6 c7
      have hi := z_inc60 i6 c6 c7 i0
      have i0' := i_nn i0
      have i6' : i.toInt ≤ n.toInt := by
        rw [Int32.lt_iff_toInt_lt] at i6
        omega
      -- the operand, with its sign behind it
      have key : ∀ (l1 : List (Int32 × List (Int32 × Int32) × List (Int32 × Int32))) (s5 : Int32) (s12 : Nat → Int32), PRE n v3 v4 v5 l1 → TSC v.2.1 v3 v4 v5 g6 g7 g8 g9 g10 g11 g12 l1 (u.1, u.2.1, u.2.2.1, u.2.2.2.1, u.2.2.2.2.1, s5, u.2.2.2.2.2.2.1, u.2.2.2.2.2.2.2.1, u.2.2.2.2.2.2.2.2.1, u.2.2.2.2.2.2.2.2.2.1, u.2.2.2.2.2.2.2.2.2.2.1, u.2.2.2.2.2.2.2.2.2.2.2.1, s12, 1) → (if tk v.1 = 317 then exb (slp tk nx (sP tk nx 7) 317 (-3) m true (nx v.1) v.2.1) (fun x => .ok (x.1, x.2.1, l1 ++ x.2.2)) else .ok (v.1, v.2.1, l1)) = .ok w → TSC w.2.1 v3 v4 v5 g6 g7 g8 g9 g10 g11 g12 w.2.2 (if fX2_token tc u.1 tf = 317 then fl_mX2_readTest_3_2 tc tf pf E17 E42 E60 N (u.1 + 1) u.2.1 u.2.2.1 u.2.2.2.1 u.2.2.2.2.1 s5 u.2.2.2.2.2.2.1 u.2.2.2.2.2.2.2.1 u.2.2.2.2.2.2.2.2.1 u.2.2.2.2.2.2.2.2.2.1 u.2.2.2.2.2.2.2.2.2.2.1 u.2.2.2.2.2.2.2.2.2.2.2.1 s12 (i + 1) else E42 u.1 u.2.1 u.2.2.1 u.2.2.2.1 u.2.2.2.2.1 s5 u.2.2.2.2.2.2.1 u.2.2.2.2.2.2.2.1 u.2.2.2.2.2.2.2.2.1 u.2.2.2.2.2.2.2.2.2.1 u.2.2.2.2.2.2.2.2.2.2.1 u.2.2.2.2.2.2.2.2.2.2.2.1 s12 i) := by
        intro l1 s5 s12 hq hu he
        rw [CH_tok h c1 c2, c3]
        by_cases t : tk v.1 = 317
        · rw [if_pos t] at he ⊢
          obtain ⟨x, hx, he⟩ := exb_inv he
          cases he
          obtain ⟨d0, d1, d2⟩ := CH_nx h c1 c2 c3 (fun q => absurd (t.symm.trans q) (by decide))
          have hp2 := PRE_r hp hu
          have z := ih N true (u.1 + 1) v.2.1 u.2.2.2.1 u.2.2.2.2.1 s5 u.2.2.2.2.2.2.1 u.2.2.2.2.2.2.2.1 u.2.2.2.2.2.2.2.2.1 u.2.2.2.2.2.2.2.2.2.1 u.2.2.2.2.2.2.2.2.2.2.1 u.2.2.2.2.2.2.2.2.2.2.2.1 s12 (i + 1) x d0 d1 (by grind) c7 (by rw [Int32.lt_iff_toInt_lt, z_i0]; omega) (by rw [Int32.lt_iff_toInt_lt]; omega) ⟨fun q => (by cases q), fun q => by rw [Int32.le_iff_toInt_le, z_i0] at q; omega⟩ (by omega) (by rw [d2]; exact hx) hp2
          rw [c4, c5]
          exact TSC_app hq hu z
        · rw [if_neg t] at he ⊢
          cases he
          rw [h42]
          exact hu
      by_cases hi9 : i ≤ 0
      · have b9 := hb.mpr hi9
        subst b9
        rw [if_pos hi9]
        have hq : PRE n v3 v4 v5 v.2.2 := by
          by_cases t : tk v.1 = 317
          · rw [if_pos t] at he
            obtain ⟨x, hx, he⟩ := exb_inv he
            cases he
            exact PRE_l hp
          · rw [if_neg t] at he
            cases he
            exact hp
        exact key v.2.2 u.2.2.2.2.2.1 u.2.2.2.2.2.2.2.2.2.2.2.2.1 hq (hc hq) he
      · have b9 : b = true := by
          cases b with
          | false => exact absurd (hb.mp rfl) hi9
          | true => rfl
        subst b9
        rw [if_neg hi9]
        have hq2 : PRE n v3 v4 v5 (v.2.2 ++ [((-3), [], [])]) := by
          by_cases t : tk v.1 = 317
          · rw [if_pos t] at he
            obtain ⟨x, hx, he⟩ := exb_inv he
            cases he
            exact PRE_l hp
          · rw [if_neg t] at he
            cases he
            exact hp
        have hq := PRE_l hq2
        have hcu := hc hq
        have hr := PRE_r hq2 hcu
        rw [step_x (by have := hr.2.2.2.2.2; simp at this; omega)]
        exact key (v.2.2 ++ [((-3), [], [])]) _ _ hq2 (TSC_app hq hcu (TSC_step hr (Or.inr (Or.inr rfl)))) he
set_option maxHeartbeats 400000 in
theorem c_testC_3 {tk nx : Int32 → Int32} {tc : Int32} {tf pf : Nat → Int32} (h : CH tk nx tc tf pf) (htk : TKH tk nx) : ∀ (k f n : Int32) (yj yo y1 y2 y3 y4 y5 : Nat → Int32) (yv yf ys : Int32) (w : Int32 × Int32 × List (Int32 × List (Int32 × Int32) × List (Int32 × Int32))), ¬ k < 0 → k < tc → ¬ n < 0 → ¬ 60 < n → sT tk nx 7 (pf k.toNatClampNeg) n = .ok w → PRE n yv yf ys w.2.2 → TSC w.2.1 yv yf ys yj yo y1 y2 y3 y4 y5 w.2.2 (fX2_readTest_3 tc k f n tf pf yj yo y1 y2 y3 y4 y5 yv yf ys) := by
  intro k f n yj yo y1 y2 y3 y4 y5 yv yf ys w k0 k1 n0 n6 he hp
  exact c_testLC_3 h htk (fun _ _ _ _ _ _ _ _ _ _ _ _ _ _ => rfl) 61 _ false k n yv yf ys yj yo y1 y2 y3 y4 y5 0 w k0 k1 n0 n6 (by decide) n0 ⟨fun _ => Int32.le_refl _, fun _ => rfl⟩ (by decide) he hp
set_option maxHeartbeats 400000 in
theorem c_factC_2 {tk nx : Int32 → Int32} {tc : Int32} {tf pf : Nat → Int32} (h : CH tk nx tc tf pf) (htk : TKH tk nx) : ∀ (k f n : Int32) (yj yo y1 y2 y3 y4 y5 : Nat → Int32) (yv yf ys : Int32) (w : Int32 × Int32 × List (Int32 × List (Int32 × Int32) × List (Int32 × Int32))), ¬ k < 0 → k < tc → ¬ n < 0 → ¬ 60 < n → sF tk nx 8 (pf k.toNatClampNeg) n = .ok w → PRE n yv yf ys w.2.2 → TSC w.2.1 yv yf ys yj yo y1 y2 y3 y4 y5 w.2.2 (fX2_readFact_2 tc k f n tf pf yj yo y1 y2 y3 y4 y5 yv yf ys) := by
  intro k f n yj yo y1 y2 y3 y4 y5 yv yf ys w k0 k1 n0 n6 he hp
  unfold fX2_readFact_2
  simp only [bnd, CH_tok h k0 k1]
  have he : sfc tk nx (sT tk nx 7) (sF tk nx 7) (pf k.toNatClampNeg) n = .ok w := he
  unfold sfc at he
  by_cases a : tk (pf k.toNatClampNeg) = 319
  · rw [if_pos a] at he ⊢
    obtain ⟨v, hv, he⟩ := exb_inv he
    cases he
    obtain ⟨b0, b1, b2⟩ := CH_nx h k0 k1 rfl (fun q => absurd (a.symm.trans q) (by decide))
    have hc := c_factC_3 h htk (k + 1) f n yj yo y1 y2 y3 y4 y5 yv yf ys v b0 b1 n0 n6 (by rw [b2]; exact hv) (PRE_l hp)
    have hr := PRE_r hp hc
    generalize fX2_readFact_3 tc (k + 1) f n tf pf yj yo y1 y2 y3 y4 y5 yv yf ys = u at hc hr ⊢
    rw [step_x (by have := hr.2.2.2.2.2; simp at this; omega)]
    exact TSC_app (PRE_l hp) hc (TSC_step hr (Or.inl rfl))
  · rw [if_neg a] at he ⊢
    by_cases b : tk (pf k.toNatClampNeg) = 91
    · rw [if_pos b] at he ⊢
      obtain ⟨v, hv, he⟩ := exb_inv he
      by_cases t : tk v.1 = 93
      · rw [if_pos t] at he
        cases he
        obtain ⟨b0, b1, b2⟩ := CH_nx h k0 k1 rfl (fun q => absurd (b.symm.trans q) (by decide))
        have hf := c_test_3 h (k + 1) f n yj yo y1 y2 y3 y4 y5 yv yf ys b0 b1 n0 n6
        have hc := c_testC_3 h htk (k + 1) f n yj yo y1 y2 y3 y4 y5 yv yf ys v b0 b1 n0 n6 (by rw [b2]; exact hv) hp
        rw [b2, hv] at hf
        generalize fX2_readTest_3 tc (k + 1) f n tf pf yj yo y1 y2 y3 y4 y5 yv yf ys = u at hf hc ⊢
        obtain ⟨c1, c2, c3, c4, c5, c6, c7, c8⟩ := hf
        rw [if_neg (show ¬ u.2.2.2.2.2.2.2.2.2.2.2.2.2 = 0 by rw [c8]; decide), CH_take h c1 c2 c3, if_pos t]
        exact hc
      · rw [if_neg t] at he; cases he
    · rw [if_neg b] at he ⊢
      have hc := c_cmpC h htk k f n yj yo y1 y2 y3 y4 y5 yv yf ys w k0 k1 n0 n6 he hp
      generalize fX2_readComparison tc k f n tf pf yj yo y1 y2 y3 y4 y5 yv yf ys = u at hc ⊢
      exact hc
set_option maxHeartbeats 400000 in
theorem c_partLC_2 {tk nx : Int32 → Int32} {tc : Int32} {tf pf : Nat → Int32} (h : CH tk nx tc tf pf) (htk : TKH tk nx) {f : Int32} {E17 E42 E60 : Int32 → Int32 → Int32 → Int32 → Int32 → Int32 → (Nat → Int32) → (Nat → Int32) → (Nat → Int32) → (Nat → Int32) → (Nat → Int32) → (Nat → Int32) → (Nat → Int32) → Int32 → (Int32 × Int32 × Int32 × Int32 × Int32 × Int32 × (Nat → Int32) × (Nat → Int32) × (Nat → Int32) × (Nat → Int32) × (Nat → Int32) × (Nat → Int32) × (Nat → Int32) × Int32)} (h42 : ∀ a1 a2 a3 a4 a5 a6 a7 a8 a9 a10 a11 a12 a13 a14, E42 a1 a2 a3 a4 a5 a6 a7 a8 a9 a10 a11 a12 a13 a14 = (a1, a2, a3, a4, a5, a6, a7, a8, a9, a10, a11, a12, a13, 1)) : ∀ (m N : Nat) (b : Bool) (k n v3 v4 v5 : Int32) (g6 g7 g8 g9 g10 g11 g12 : Nat → Int32) (i : Int32) (w : Int32 × Int32 × List (Int32 × List (Int32 × Int32) × List (Int32 × Int32))), ¬ k < 0 → k < tc → ¬ n < 0 → ¬ 60 < n → ¬ i < 0 → ¬ n < i → (b = false ↔ i ≤ 0) → (401 - i.toInt).toNat < N → slp tk nx (sF tk nx 8) 318 (-2) m b (pf k.toNatClampNeg) n = .ok w → PRE n v3 v4 v5 w.2.2 → TSC w.2.1 v3 v4 v5 g6 g7 g8 g9 g10 g11 g12 w.2.2 (fl_mX2_readPart_2_2 tc tf pf E17 E42 E60 N k f n v3 v4 v5 g6 g7 g8 g9 g10 g11 g12 i) := by
  intro m
  induction m with
  | zero => intro N b k n v3 v4 v5 g6 g7 g8 g9 g10 g11 g12 i w k0 k1 n0 n6 i0 i6 hb hN he; cases he
  | succ m ih =>
    intro N b k n v3 v4 v5 g6 g7 g8 g9 g10 g11 g12 i w k0 k1 n0 n6 i0 i6 hb hN he hp
    cases N with
    | zero => exact absurd hN (Nat.not_lt_zero _)
    | succ N =>
      rw [slp_s] at he
      obtain ⟨v, hv, he⟩ := exb_inv he
      have hf := c_fact_2 h k f n g6 g7 g8 g9 g10 g11 g12 v3 v4 v5 k0 k1 n0 n6
      have hf2 : TV pf tc f n (.ok v) (fX2_readFact_2 tc k f n tf pf g6 g7 g8 g9 g10 g11 g12 v3 v4 v5) := by rw [← hv]; exact hf
      have hc := fun hq => c_factC_2 h htk k f n g6 g7 g8 g9 g10 g11 g12 v3 v4 v5 v k0 k1 n0 n6 hv hq
      show TSC w.2.1 v3 v4 v5 g6 g7 g8 g9 g10 g11 g12 w.2.2 (fb_mX2_readPart_2_2 tc tf pf E17 E42 E60 (fl_mX2_readPart_2_2 tc tf pf E17 E42 E60 N) k f n v3 v4 v5 g6 g7 g8 g9 g10 g11 g12 i)
      unfold fb_mX2_readPart_2_2
      rw [if_neg (show ¬ 400 < i by grind)]
      simp only [bnd]
      clear hf
      generalize fX2_readFact_2 tc k f n tf pf g6 g7 g8 g9 g10 g11 g12 v3 v4 v5 = u at hf2 hc ⊢
      obtain ⟨c1, c2, c3, c4, c5, c6, c7, c8⟩ := hf2
      rw [if_neg (show ¬ u.2.2.2.2.2.2.2.2.2.2.2.2.2 = 0 by rw [c8]; decide)]
      have hn : (v.2.1).toInt ≤ 60 ∧ n.toInt < (v.2.1).toInt := z_le60 c6 c7
      have hi := z_inc60 i6 c6 c7 i0
      have i0' := i_nn i0
      have i6' : i.toInt ≤ n.toInt := by
        rw [Int32.lt_iff_toInt_lt] at i6
        omega
      -- the operand, with its sign behind it
      have key : ∀ (l1 : List (Int32 × List (Int32 × Int32) × List (Int32 × Int32))) (s5 : Int32) (s12 : Nat → Int32), PRE n v3 v4 v5 l1 → TSC v.2.1 v3 v4 v5 g6 g7 g8 g9 g10 g11 g12 l1 (u.1, u.2.1, u.2.2.1, u.2.2.2.1, u.2.2.2.2.1, s5, u.2.2.2.2.2.2.1, u.2.2.2.2.2.2.2.1, u.2.2.2.2.2.2.2.2.1, u.2.2.2.2.2.2.2.2.2.1, u.2.2.2.2.2.2.2.2.2.2.1, u.2.2.2.2.2.2.2.2.2.2.2.1, s12, 1) → (if tk v.1 = 318 then exb (slp tk nx (sF tk nx 8) 318 (-2) m true (nx v.1) v.2.1) (fun x => .ok (x.1, x.2.1, l1 ++ x.2.2)) else .ok (v.1, v.2.1, l1)) = .ok w → TSC w.2.1 v3 v4 v5 g6 g7 g8 g9 g10 g11 g12 w.2.2 (if fX2_token tc u.1 tf = 318 then fl_mX2_readPart_2_2 tc tf pf E17 E42 E60 N (u.1 + 1) u.2.1 u.2.2.1 u.2.2.2.1 u.2.2.2.2.1 s5 u.2.2.2.2.2.2.1 u.2.2.2.2.2.2.2.1 u.2.2.2.2.2.2.2.2.1 u.2.2.2.2.2.2.2.2.2.1 u.2.2.2.2.2.2.2.2.2.2.1 u.2.2.2.2.2.2.2.2.2.2.2.1 s12 (i + 1) else E42 u.1 u.2.1 u.2.2.1 u.2.2.2.1 u.2.2.2.2.1 s5 u.2.2.2.2.2.2.1 u.2.2.2.2.2.2.2.1 u.2.2.2.2.2.2.2.2.1 u.2.2.2.2.2.2.2.2.2.1 u.2.2.2.2.2.2.2.2.2.2.1 u.2.2.2.2.2.2.2.2.2.2.2.1 s12 i) := by
        intro l1 s5 s12 hq hu he
        rw [CH_tok h c1 c2, c3]
        by_cases t : tk v.1 = 318
        · rw [if_pos t] at he ⊢
          obtain ⟨x, hx, he⟩ := exb_inv he
          cases he
          obtain ⟨d0, d1, d2⟩ := CH_nx h c1 c2 c3 (fun q => absurd (t.symm.trans q) (by decide))
          have hp2 := PRE_r hp hu
          have z := ih N true (u.1 + 1) v.2.1 u.2.2.2.1 u.2.2.2.2.1 s5 u.2.2.2.2.2.2.1 u.2.2.2.2.2.2.2.1 u.2.2.2.2.2.2.2.2.1 u.2.2.2.2.2.2.2.2.2.1 u.2.2.2.2.2.2.2.2.2.2.1 u.2.2.2.2.2.2.2.2.2.2.2.1 s12 (i + 1) x d0 d1 (by grind) c7 (by rw [Int32.lt_iff_toInt_lt, z_i0]; omega) (by rw [Int32.lt_iff_toInt_lt]; omega) ⟨fun q => (by cases q), fun q => by rw [Int32.le_iff_toInt_le, z_i0] at q; omega⟩ (by omega) (by rw [d2]; exact hx) hp2
          rw [c4, c5]
          exact TSC_app hq hu z
        · rw [if_neg t] at he ⊢
          cases he
          rw [h42]
          exact hu
      by_cases hi9 : i ≤ 0
      · have b9 := hb.mpr hi9
        subst b9
        rw [if_pos hi9]
        have hq : PRE n v3 v4 v5 v.2.2 := by
          by_cases t : tk v.1 = 318
          · rw [if_pos t] at he
            obtain ⟨x, hx, he⟩ := exb_inv he
            cases he
            exact PRE_l hp
          · rw [if_neg t] at he
            cases he
            exact hp
        exact key v.2.2 u.2.2.2.2.2.1 u.2.2.2.2.2.2.2.2.2.2.2.2.1 hq (hc hq) he
      · have b9 : b = true := by
          cases b with
          | false => exact absurd (hb.mp rfl) hi9
          | true => rfl
        subst b9
        rw [if_neg hi9]
        have hq2 : PRE n v3 v4 v5 (v.2.2 ++ [((-2), [], [])]) := by
          by_cases t : tk v.1 = 318
          · rw [if_pos t] at he
            obtain ⟨x, hx, he⟩ := exb_inv he
            cases he
            exact PRE_l hp
          · rw [if_neg t] at he
            cases he
            exact hp
        have hq := PRE_l hq2
        have hcu := hc hq
        have hr := PRE_r hq2 hcu
        rw [step_x (by have := hr.2.2.2.2.2; simp at this; omega)]
        exact key (v.2.2 ++ [((-2), [], [])]) _ _ hq2 (TSC_app hq hcu (TSC_step hr (Or.inr (Or.inl rfl)))) he
set_option maxHeartbeats 400000 in
theorem c_partC_2 {tk nx : Int32 → Int32} {tc : Int32} {tf pf : Nat → Int32} (h : CH tk nx tc tf pf) (htk : TKH tk nx) : ∀ (k f n : Int32) (yj yo y1 y2 y3 y4 y5 : Nat → Int32) (yv yf ys : Int32) (w : Int32 × Int32 × List (Int32 × List (Int32 × Int32) × List (Int32 × Int32))), ¬ k < 0 → k < tc → ¬ n < 0 → ¬ 60 < n → sP tk nx 8 (pf k.toNatClampNeg) n = .ok w → PRE n yv yf ys w.2.2 → TSC w.2.1 yv yf ys yj yo y1 y2 y3 y4 y5 w.2.2 (fX2_readPart_2 tc k f n tf pf yj yo y1 y2 y3 y4 y5 yv yf ys) := by
  intro k f n yj yo y1 y2 y3 y4 y5 yv yf ys w k0 k1 n0 n6 he hp
  exact c_partLC_2 h htk (fun _ _ _ _ _ _ _ _ _ _ _ _ _ _ => rfl) 61 _ false k n yv yf ys yj yo y1 y2 y3 y4 y5 0 w k0 k1 n0 n6 (by decide) n0 ⟨fun _ => Int32.le_refl _, fun _ => rfl⟩ (by decide) he hp
set_option maxHeartbeats 400000 in
theorem c_testLC_2 {tk nx : Int32 → Int32} {tc : Int32} {tf pf : Nat → Int32} (h : CH tk nx tc tf pf) (htk : TKH tk nx) {f : Int32} {E17 E42 E60 : Int32 → Int32 → Int32 → Int32 → Int32 → Int32 → (Nat → Int32) → (Nat → Int32) → (Nat → Int32) → (Nat → Int32) → (Nat → Int32) → (Nat → Int32) → (Nat → Int32) → Int32 → (Int32 × Int32 × Int32 × Int32 × Int32 × Int32 × (Nat → Int32) × (Nat → Int32) × (Nat → Int32) × (Nat → Int32) × (Nat → Int32) × (Nat → Int32) × (Nat → Int32) × Int32)} (h42 : ∀ a1 a2 a3 a4 a5 a6 a7 a8 a9 a10 a11 a12 a13 a14, E42 a1 a2 a3 a4 a5 a6 a7 a8 a9 a10 a11 a12 a13 a14 = (a1, a2, a3, a4, a5, a6, a7, a8, a9, a10, a11, a12, a13, 1)) : ∀ (m N : Nat) (b : Bool) (k n v3 v4 v5 : Int32) (g6 g7 g8 g9 g10 g11 g12 : Nat → Int32) (i : Int32) (w : Int32 × Int32 × List (Int32 × List (Int32 × Int32) × List (Int32 × Int32))), ¬ k < 0 → k < tc → ¬ n < 0 → ¬ 60 < n → ¬ i < 0 → ¬ n < i → (b = false ↔ i ≤ 0) → (401 - i.toInt).toNat < N → slp tk nx (sP tk nx 8) 317 (-3) m b (pf k.toNatClampNeg) n = .ok w → PRE n v3 v4 v5 w.2.2 → TSC w.2.1 v3 v4 v5 g6 g7 g8 g9 g10 g11 g12 w.2.2 (fl_mX2_readTest_2_2 tc tf pf E17 E42 E60 N k f n v3 v4 v5 g6 g7 g8 g9 g10 g11 g12 i) := by
  intro m
  induction m with
  | zero => intro N b k n v3 v4 v5 g6 g7 g8 g9 g10 g11 g12 i w k0 k1 n0 n6 i0 i6 hb hN he; cases he
  | succ m ih =>
    intro N b k n v3 v4 v5 g6 g7 g8 g9 g10 g11 g12 i w k0 k1 n0 n6 i0 i6 hb hN he hp
    cases N with
    | zero => exact absurd hN (Nat.not_lt_zero _)
    | succ N =>
      rw [slp_s] at he
      obtain ⟨v, hv, he⟩ := exb_inv he
      have hf := c_part_2 h k f n g6 g7 g8 g9 g10 g11 g12 v3 v4 v5 k0 k1 n0 n6
      have hf2 : TV pf tc f n (.ok v) (fX2_readPart_2 tc k f n tf pf g6 g7 g8 g9 g10 g11 g12 v3 v4 v5) := by rw [← hv]; exact hf
      have hc := fun hq => c_partC_2 h htk k f n g6 g7 g8 g9 g10 g11 g12 v3 v4 v5 v k0 k1 n0 n6 hv hq
      show TSC w.2.1 v3 v4 v5 g6 g7 g8 g9 g10 g11 g12 w.2.2 (fb_mX2_readTest_2_2 tc tf pf E17 E42 E60 (fl_mX2_readTest_2_2 tc tf pf E17 E42 E60 N) k f n v3 v4 v5 g6 g7 g8 g9 g10 g11 g12 i)
      unfold fb_mX2_readTest_2_2
      rw [if_neg (show ¬ 400 < i by grind)]
      simp only [bnd]
      clear hf
      generalize fX2_readPart_2 tc k f n tf pf g6 g7 g8 g9 g10 g11 g12 v3 v4 v5 = u at hf2 hc ⊢
      obtain ⟨c1, c2, c3, c4, c5, c6, c7, c8⟩ := hf2
      rw [if_neg (show ¬ u.2.2.2.2.2.2.2.2.2.2.2.2.2 = 0 by rw [c8]; decide)]
      have hn : (v.2.1).toInt ≤ 60 ∧ n.toInt < (v.2.1).toInt := z_le60 c6 c7
      have hi := z_inc60 i6 c6 c7 i0
      have i0' := i_nn i0
      have i6' : i.toInt ≤ n.toInt := by
        rw [Int32.lt_iff_toInt_lt] at i6
        omega
      -- the operand, with its sign behind it
      have key : ∀ (l1 : List (Int32 × List (Int32 × Int32) × List (Int32 × Int32))) (s5 : Int32) (s12 : Nat → Int32), PRE n v3 v4 v5 l1 → TSC v.2.1 v3 v4 v5 g6 g7 g8 g9 g10 g11 g12 l1 (u.1, u.2.1, u.2.2.1, u.2.2.2.1, u.2.2.2.2.1, s5, u.2.2.2.2.2.2.1, u.2.2.2.2.2.2.2.1, u.2.2.2.2.2.2.2.2.1, u.2.2.2.2.2.2.2.2.2.1, u.2.2.2.2.2.2.2.2.2.2.1, u.2.2.2.2.2.2.2.2.2.2.2.1, s12, 1) → (if tk v.1 = 317 then exb (slp tk nx (sP tk nx 8) 317 (-3) m true (nx v.1) v.2.1) (fun x => .ok (x.1, x.2.1, l1 ++ x.2.2)) else .ok (v.1, v.2.1, l1)) = .ok w → TSC w.2.1 v3 v4 v5 g6 g7 g8 g9 g10 g11 g12 w.2.2 (if fX2_token tc u.1 tf = 317 then fl_mX2_readTest_2_2 tc tf pf E17 E42 E60 N (u.1 + 1) u.2.1 u.2.2.1 u.2.2.2.1 u.2.2.2.2.1 s5 u.2.2.2.2.2.2.1 u.2.2.2.2.2.2.2.1 u.2.2.2.2.2.2.2.2.1 u.2.2.2.2.2.2.2.2.2.1 u.2.2.2.2.2.2.2.2.2.2.1 u.2.2.2.2.2.2.2.2.2.2.2.1 s12 (i + 1) else E42 u.1 u.2.1 u.2.2.1 u.2.2.2.1 u.2.2.2.2.1 s5 u.2.2.2.2.2.2.1 u.2.2.2.2.2.2.2.1 u.2.2.2.2.2.2.2.2.1 u.2.2.2.2.2.2.2.2.2.1 u.2.2.2.2.2.2.2.2.2.2.1 u.2.2.2.2.2.2.2.2.2.2.2.1 s12 i) := by
        intro l1 s5 s12 hq hu he
        rw [CH_tok h c1 c2, c3]
        by_cases t : tk v.1 = 317
        · rw [if_pos t] at he ⊢
          obtain ⟨x, hx, he⟩ := exb_inv he
          cases he
          obtain ⟨d0, d1, d2⟩ := CH_nx h c1 c2 c3 (fun q => absurd (t.symm.trans q) (by decide))
          have hp2 := PRE_r hp hu
          have z := ih N true (u.1 + 1) v.2.1 u.2.2.2.1 u.2.2.2.2.1 s5 u.2.2.2.2.2.2.1 u.2.2.2.2.2.2.2.1 u.2.2.2.2.2.2.2.2.1 u.2.2.2.2.2.2.2.2.2.1 u.2.2.2.2.2.2.2.2.2.2.1 u.2.2.2.2.2.2.2.2.2.2.2.1 s12 (i + 1) x d0 d1 (by grind) c7 (by rw [Int32.lt_iff_toInt_lt, z_i0]; omega) (by rw [Int32.lt_iff_toInt_lt]; omega) ⟨fun q => (by cases q), fun q => by rw [Int32.le_iff_toInt_le, z_i0] at q; omega⟩ (by omega) (by rw [d2]; exact hx) hp2
          rw [c4, c5]
          exact TSC_app hq hu z
        · rw [if_neg t] at he ⊢
          cases he
          rw [h42]
          exact hu
      by_cases hi9 : i ≤ 0
      · have b9 := hb.mpr hi9
        subst b9
        rw [if_pos hi9]
        have hq : PRE n v3 v4 v5 v.2.2 := by
          by_cases t : tk v.1 = 317
          · rw [if_pos t] at he
            obtain ⟨x, hx, he⟩ := exb_inv he
            cases he
            exact PRE_l hp
          · rw [if_neg t] at he
            cases he
            exact hp
        exact key v.2.2 u.2.2.2.2.2.1 u.2.2.2.2.2.2.2.2.2.2.2.2.1 hq (hc hq) he
      · have b9 : b = true := by
          cases b with
          | false => exact absurd (hb.mp rfl) hi9
          | true => rfl
        subst b9
        rw [if_neg hi9]
        have hq2 : PRE n v3 v4 v5 (v.2.2 ++ [((-3), [], [])]) := by
          by_cases t : tk v.1 = 317
          · rw [if_pos t] at he
            obtain ⟨x, hx, he⟩ := exb_inv he
            cases he
            exact PRE_l hp
          · rw [if_neg t] at he
            cases he
            exact hp
        have hq := PRE_l hq2
        have hcu := hc hq
        have hr := PRE_r hq2 hcu
        rw [step_x (by have := hr.2.2.2.2.2; simp at this; omega)]
        exact key (v.2.2 ++ [((-3), [], [])]) _ _ hq2 (TSC_app hq hcu (TSC_step hr (Or.inr (Or.inr rfl)))) he
set_option maxHeartbeats 400000 in
theorem c_testC_2 {tk nx : Int32 → Int32} {tc : Int32} {tf pf : Nat → Int32} (h : CH tk nx tc tf pf) (htk : TKH tk nx) : ∀ (k f n : Int32) (yj yo y1 y2 y3 y4 y5 : Nat → Int32) (yv yf ys : Int32) (w : Int32 × Int32 × List (Int32 × List (Int32 × Int32) × List (Int32 × Int32))), ¬ k < 0 → k < tc → ¬ n < 0 → ¬ 60 < n → sT tk nx 8 (pf k.toNatClampNeg) n = .ok w → PRE n yv yf ys w.2.2 → TSC w.2.1 yv yf ys yj yo y1 y2 y3 y4 y5 w.2.2 (fX2_readTest_2 tc k f n tf pf yj yo y1 y2 y3 y4 y5 yv yf ys) := by
  intro k f n yj yo y1 y2 y3 y4 y5 yv yf ys w k0 k1 n0 n6 he hp
  exact c_testLC_2 h htk (fun _ _ _ _ _ _ _ _ _ _ _ _ _ _ => rfl) 61 _ false k n yv yf ys yj yo y1 y2 y3 y4 y5 0 w k0 k1 n0 n6 (by decide) n0 ⟨fun _ => Int32.le_refl _, fun _ => rfl⟩ (by decide) he hp
set_option maxHeartbeats 400000 in
theorem c_factC_1 {tk nx : Int32 → Int32} {tc : Int32} {tf pf : Nat → Int32} (h : CH tk nx tc tf pf) (htk : TKH tk nx) : ∀ (k f n : Int32) (yj yo y1 y2 y3 y4 y5 : Nat → Int32) (yv yf ys : Int32) (w : Int32 × Int32 × List (Int32 × List (Int32 × Int32) × List (Int32 × Int32))), ¬ k < 0 → k < tc → ¬ n < 0 → ¬ 60 < n → sF tk nx 9 (pf k.toNatClampNeg) n = .ok w → PRE n yv yf ys w.2.2 → TSC w.2.1 yv yf ys yj yo y1 y2 y3 y4 y5 w.2.2 (fX2_readFact_1 tc k f n tf pf yj yo y1 y2 y3 y4 y5 yv yf ys) := by
  intro k f n yj yo y1 y2 y3 y4 y5 yv yf ys w k0 k1 n0 n6 he hp
  unfold fX2_readFact_1
  simp only [bnd, CH_tok h k0 k1]
  have he : sfc tk nx (sT tk nx 8) (sF tk nx 8) (pf k.toNatClampNeg) n = .ok w := he
  unfold sfc at he
  by_cases a : tk (pf k.toNatClampNeg) = 319
  · rw [if_pos a] at he ⊢
    obtain ⟨v, hv, he⟩ := exb_inv he
    cases he
    obtain ⟨b0, b1, b2⟩ := CH_nx h k0 k1 rfl (fun q => absurd (a.symm.trans q) (by decide))
    have hc := c_factC_2 h htk (k + 1) f n yj yo y1 y2 y3 y4 y5 yv yf ys v b0 b1 n0 n6 (by rw [b2]; exact hv) (PRE_l hp)
    have hr := PRE_r hp hc
    generalize fX2_readFact_2 tc (k + 1) f n tf pf yj yo y1 y2 y3 y4 y5 yv yf ys = u at hc hr ⊢
    rw [step_x (by have := hr.2.2.2.2.2; simp at this; omega)]
    exact TSC_app (PRE_l hp) hc (TSC_step hr (Or.inl rfl))
  · rw [if_neg a] at he ⊢
    by_cases b : tk (pf k.toNatClampNeg) = 91
    · rw [if_pos b] at he ⊢
      obtain ⟨v, hv, he⟩ := exb_inv he
      by_cases t : tk v.1 = 93
      · rw [if_pos t] at he
        cases he
        obtain ⟨b0, b1, b2⟩ := CH_nx h k0 k1 rfl (fun q => absurd (b.symm.trans q) (by decide))
        have hf := c_test_2 h (k + 1) f n yj yo y1 y2 y3 y4 y5 yv yf ys b0 b1 n0 n6
        have hc := c_testC_2 h htk (k + 1) f n yj yo y1 y2 y3 y4 y5 yv yf ys v b0 b1 n0 n6 (by rw [b2]; exact hv) hp
        rw [b2, hv] at hf
        generalize fX2_readTest_2 tc (k + 1) f n tf pf yj yo y1 y2 y3 y4 y5 yv yf ys = u at hf hc ⊢
        obtain ⟨c1, c2, c3, c4, c5, c6, c7, c8⟩ := hf
        rw [if_neg (show ¬ u.2.2.2.2.2.2.2.2.2.2.2.2.2 = 0 by rw [c8]; decide), CH_take h c1 c2 c3, if_pos t]
        exact hc
      · rw [if_neg t] at he; cases he
    · rw [if_neg b] at he ⊢
      have hc := c_cmpC h htk k f n yj yo y1 y2 y3 y4 y5 yv yf ys w k0 k1 n0 n6 he hp
      generalize fX2_readComparison tc k f n tf pf yj yo y1 y2 y3 y4 y5 yv yf ys = u at hc ⊢
      exact hc
set_option maxHeartbeats 400000 in
theorem c_partLC_1 {tk nx : Int32 → Int32} {tc : Int32} {tf pf : Nat → Int32} (h : CH tk nx tc tf pf) (htk : TKH tk nx) {f : Int32} {E17 E42 E60 : Int32 → Int32 → Int32 → Int32 → Int32 → Int32 → (Nat → Int32) → (Nat → Int32) → (Nat → Int32) → (Nat → Int32) → (Nat → Int32) → (Nat → Int32) → (Nat → Int32) → Int32 → (Int32 × Int32 × Int32 × Int32 × Int32 × Int32 × (Nat → Int32) × (Nat → Int32) × (Nat → Int32) × (Nat → Int32) × (Nat → Int32) × (Nat → Int32) × (Nat → Int32) × Int32)} (h42 : ∀ a1 a2 a3 a4 a5 a6 a7 a8 a9 a10 a11 a12 a13 a14, E42 a1 a2 a3 a4 a5 a6 a7 a8 a9 a10 a11 a12 a13 a14 = (a1, a2, a3, a4, a5, a6, a7, a8, a9, a10, a11, a12, a13, 1)) : ∀ (m N : Nat) (b : Bool) (k n v3 v4 v5 : Int32) (g6 g7 g8 g9 g10 g11 g12 : Nat → Int32) (i : Int32) (w : Int32 × Int32 × List (Int32 × List (Int32 × Int32) × List (Int32 × Int32))), ¬ k < 0 → k < tc → ¬ n < 0 → ¬ 60 < n → ¬ i < 0 → ¬ n < i → (b = false ↔ i ≤ 0) → (401 - i.toInt).toNat < N → slp tk nx (sF tk nx 9) 318 (-2) m b (pf k.toNatClampNeg) n = .ok w → PRE n v3 v4 v5 w.2.2 → TSC w.2.1 v3 v4 v5 g6 g7 g8 g9 g10 g11 g12 w.2.2 (fl_mX2_readPart_1_2 tc tf pf E17 E42 E60 N k f n v3 v4 v5 g6 g7 g8 g9 g10 g11 g12 i) := by
  intro m
  induction m with
  | zero => intro N b k n v3 v4 v5 g6 g7 g8 g9 g10 g11 g12 i w k0 k1 n0 n6 i0 i6 hb hN he; cases he
  | succ m ih =>
    intro N b k n v3 v4 v5 g6 g7 g8 g9 g10 g11 g12 i w k0 k1 n0 n6 i0 i6 hb hN he hp
    cases N with
    | zero => exact absurd hN (Nat.not_lt_zero _)
    | succ N =>
      rw [slp_s] at he
      obtain ⟨v, hv, he⟩ := exb_inv he
      have hf := c_fact_1 h k f n g6 g7 g8 g9 g10 g11 g12 v3 v4 v5 k0 k1 n0 n6
      have hf2 : TV pf tc f n (.ok v) (fX2_readFact_1 tc k f n tf pf g6 g7 g8 g9 g10 g11 g12 v3 v4 v5) := by rw [← hv]; exact hf
      have hc := fun hq => c_factC_1 h htk k f n g6 g7 g8 g9 g10 g11 g12 v3 v4 v5 v k0 k1 n0 n6 hv hq
      show TSC w.2.1 v3 v4 v5 g6 g7 g8 g9 g10 g11 g12 w.2.2 (fb_mX2_readPart_1_2 tc tf pf E17 E42 E60 (fl_mX2_readPart_1_2 tc tf pf E17 E42 E60 N) k f n v3 v4 v5 g6 g7 g8 g9 g10 g11 g12 i)
      unfold fb_mX2_readPart_1_2
      rw [if_neg (show ¬ 400 < i by grind)]
      simp only [bnd]
      clear hf
      generalize fX2_readFact_1 tc k f n tf pf g6 g7 g8 g9 g10 g11 g12 v3 v4 v5 = u at hf2 hc ⊢
      obtain ⟨c1, c2, c3, c4, c5, c6, c7, c8⟩ := hf2
      rw [if_neg (show ¬ u.2.2.2.2.2.2.2.2.2.2.2.2.2 = 0 by rw [c8]; decide)]
      have hn : (v.2.1).toInt ≤ 60 ∧ n.toInt < (v.2.1).toInt := z_le60 c6 c7
      have hi := z_inc60 i6 c6 c7 i0
      have i0' := i_nn i0
      have i6' : i.toInt ≤ n.toInt := by
        rw [Int32.lt_iff_toInt_lt] at i6
        omega
      -- the operand, with its sign behind it
      have key : ∀ (l1 : List (Int32 × List (Int32 × Int32) × List (Int32 × Int32))) (s5 : Int32) (s12 : Nat → Int32), PRE n v3 v4 v5 l1 → TSC v.2.1 v3 v4 v5 g6 g7 g8 g9 g10 g11 g12 l1 (u.1, u.2.1, u.2.2.1, u.2.2.2.1, u.2.2.2.2.1, s5, u.2.2.2.2.2.2.1, u.2.2.2.2.2.2.2.1, u.2.2.2.2.2.2.2.2.1, u.2.2.2.2.2.2.2.2.2.1, u.2.2.2.2.2.2.2.2.2.2.1, u.2.2.2.2.2.2.2.2.2.2.2.1, s12, 1) → (if tk v.1 = 318 then exb (slp tk nx (sF tk nx 9) 318 (-2) m true (nx v.1) v.2.1) (fun x => .ok (x.1, x.2.1, l1 ++ x.2.2)) else .ok (v.1, v.2.1, l1)) = .ok w → TSC w.2.1 v3 v4 v5 g6 g7 g8 g9 g10 g11 g12 w.2.2 (if fX2_token tc u.1 tf = 318 then fl_mX2_readPart_1_2 tc tf pf E17 E42 E60 N (u.1 + 1) u.2.1 u.2.2.1 u.2.2.2.1 u.2.2.2.2.1 s5 u.2.2.2.2.2.2.1 u.2.2.2.2.2.2.2.1 u.2.2.2.2.2.2.2.2.1 u.2.2.2.2.2.2.2.2.2.1 u.2.2.2.2.2.2.2.2.2.2.1 u.2.2.2.2.2.2.2.2.2.2.2.1 s12 (i + 1) else E42 u.1 u.2.1 u.2.2.1 u.2.2.2.1 u.2.2.2.2.1 s5 u.2.2.2.2.2.2.1 u.2.2.2.2.2.2.2.1 u.2.2.2.2.2.2.2.2.1 u.2.2.2.2.2.2.2.2.2.1 u.2.2.2.2.2.2.2.2.2.2.1 u.2.2.2.2.2.2.2.2.2.2.2.1 s12 i) := by
        intro l1 s5 s12 hq hu he
        rw [CH_tok h c1 c2, c3]
        by_cases t : tk v.1 = 318
        · rw [if_pos t] at he ⊢
          obtain ⟨x, hx, he⟩ := exb_inv he
          cases he
          obtain ⟨d0, d1, d2⟩ := CH_nx h c1 c2 c3 (fun q => absurd (t.symm.trans q) (by decide))
          have hp2 := PRE_r hp hu
          have z := ih N true (u.1 + 1) v.2.1 u.2.2.2.1 u.2.2.2.2.1 s5 u.2.2.2.2.2.2.1 u.2.2.2.2.2.2.2.1 u.2.2.2.2.2.2.2.2.1 u.2.2.2.2.2.2.2.2.2.1 u.2.2.2.2.2.2.2.2.2.2.1 u.2.2.2.2.2.2.2.2.2.2.2.1 s12 (i + 1) x d0 d1 (by grind) c7 (by rw [Int32.lt_iff_toInt_lt, z_i0]; omega) (by rw [Int32.lt_iff_toInt_lt]; omega) ⟨fun q => (by cases q), fun q => by rw [Int32.le_iff_toInt_le, z_i0] at q; omega⟩ (by omega) (by rw [d2]; exact hx) hp2
          rw [c4, c5]
          exact TSC_app hq hu z
        · rw [if_neg t] at he ⊢
          cases he
          rw [h42]
          exact hu
      by_cases hi9 : i ≤ 0
      · have b9 := hb.mpr hi9
        subst b9
        rw [if_pos hi9]
        have hq : PRE n v3 v4 v5 v.2.2 := by
          by_cases t : tk v.1 = 318
          · rw [if_pos t] at he
            obtain ⟨x, hx, he⟩ := exb_inv he
            cases he
            exact PRE_l hp
          · rw [if_neg t] at he
            cases he
            exact hp
        exact key v.2.2 u.2.2.2.2.2.1 u.2.2.2.2.2.2.2.2.2.2.2.2.1 hq (hc hq) he
      · have b9 : b = true := by
          cases b with
          | false => exact absurd (hb.mp rfl) hi9
          | true => rfl
        subst b9
        rw [if_neg hi9]
        have hq2 : PRE n v3 v4 v5 (v.2.2 ++ [((-2), [], [])]) := by
          by_cases t : tk v.1 = 318
          · rw [if_pos t] at he
            obtain ⟨x, hx, he⟩ := exb_inv he
            cases he
            exact PRE_l hp
          · rw [if_neg t] at he
            cases he
            exact hp
        have hq := PRE_l hq2
        have hcu := hc hq
        have hr := PRE_r hq2 hcu
        rw [step_x (by have := hr.2.2.2.2.2; simp at this; omega)]
        exact key (v.2.2 ++ [((-2), [], [])]) _ _ hq2 (TSC_app hq hcu (TSC_step hr (Or.inr (Or.inl rfl)))) he
set_option maxHeartbeats 400000 in
theorem c_partC_1 {tk nx : Int32 → Int32} {tc : Int32} {tf pf : Nat → Int32} (h : CH tk nx tc tf pf) (htk : TKH tk nx) : ∀ (k f n : Int32) (yj yo y1 y2 y3 y4 y5 : Nat → Int32) (yv yf ys : Int32) (w : Int32 × Int32 × List (Int32 × List (Int32 × Int32) × List (Int32 × Int32))), ¬ k < 0 → k < tc → ¬ n < 0 → ¬ 60 < n → sP tk nx 9 (pf k.toNatClampNeg) n = .ok w → PRE n yv yf ys w.2.2 → TSC w.2.1 yv yf ys yj yo y1 y2 y3 y4 y5 w.2.2 (fX2_readPart_1 tc k f n tf pf yj yo y1 y2 y3 y4 y5 yv yf ys) := by
  intro k f n yj yo y1 y2 y3 y4 y5 yv yf ys w k0 k1 n0 n6 he hp
  exact c_partLC_1 h htk (fun _ _ _ _ _ _ _ _ _ _ _ _ _ _ => rfl) 61 _ false k n yv yf ys yj yo y1 y2 y3 y4 y5 0 w k0 k1 n0 n6 (by decide) n0 ⟨fun _ => Int32.le_refl _, fun _ => rfl⟩ (by decide) he hp
set_option maxHeartbeats 400000 in
theorem c_testLC_1 {tk nx : Int32 → Int32} {tc : Int32} {tf pf : Nat → Int32} (h : CH tk nx tc tf pf) (htk : TKH tk nx) {f : Int32} {E17 E42 E60 : Int32 → Int32 → Int32 → Int32 → Int32 → Int32 → (Nat → Int32) → (Nat → Int32) → (Nat → Int32) → (Nat → Int32) → (Nat → Int32) → (Nat → Int32) → (Nat → Int32) → Int32 → (Int32 × Int32 × Int32 × Int32 × Int32 × Int32 × (Nat → Int32) × (Nat → Int32) × (Nat → Int32) × (Nat → Int32) × (Nat → Int32) × (Nat → Int32) × (Nat → Int32) × Int32)} (h42 : ∀ a1 a2 a3 a4 a5 a6 a7 a8 a9 a10 a11 a12 a13 a14, E42 a1 a2 a3 a4 a5 a6 a7 a8 a9 a10 a11 a12 a13 a14 = (a1, a2, a3, a4, a5, a6, a7, a8, a9, a10, a11, a12, a13, 1)) : ∀ (m N : Nat) (b : Bool) (k n v3 v4 v5 : Int32) (g6 g7 g8 g9 g10 g11 g12 : Nat → Int32) (i : Int32) (w : Int32 × Int32 × List (Int32 × List (Int32 × Int32) × List (Int32 × Int32))), ¬ k < 0 → k < tc → ¬ n < 0 → ¬ 60 < n → ¬ i < 0 → ¬ n < i → (b = false ↔ i ≤ 0) → (401 - i.toInt).toNat < N → slp tk nx (sP tk nx 9) 317 (-3) m b (pf k.toNatClampNeg) n = .ok w → PRE n v3 v4 v5 w.2.2 → TSC w.2.1 v3 v4 v5 g6 g7 g8 g9 g10 g11 g12 w.2.2 (fl_mX2_readTest_1_2 tc tf pf E17 E42 E60 N k f n v3 v4 v5 g6 g7 g8 g9 g10 g11 g12 i) := by
  intro m
  induction m with
  | zero => intro N b k n v3 v4 v5 g6 g7 g8 g9 g10 g11 g12 i w k0 k1 n0 n6 i0 i6 hb hN he; cases he
  | succ m ih =>
    intro N b k n v3 v4 v5 g6 g7 g8 g9 g10 g11 g12 i w k0 k1 n0 n6 i0 i6 hb hN he hp
    cases N with
    | zero => exact absurd hN (Nat.not_lt_zero _)
    | succ N =>
      rw [slp_s] at he
      obtain ⟨v, hv, he⟩ := exb_inv he
      have hf := c_part_1 h k f n g6 g7 g8 g9 g10 g11 g12 v3 v4 v5 k0 k1 n0 n6
      have hf2 : TV pf tc f n (.ok v) (fX2_readPart_1 tc k f n tf pf g6 g7 g8 g9 g10 g11 g12 v3 v4 v5) := by rw [← hv]; exact hf
      have hc := fun hq => c_partC_1 h htk k f n g6 g7 g8 g9 g10 g11 g12 v3 v4 v5 v k0 k1 n0 n6 hv hq
      show TSC w.2.1 v3 v4 v5 g6 g7 g8 g9 g10 g11 g12 w.2.2 (fb_mX2_readTest_1_2 tc tf pf E17 E42 E60 (fl_mX2_readTest_1_2 tc tf pf E17 E42 E60 N) k f n v3 v4 v5 g6 g7 g8 g9 g10 g11 g12 i)
      unfold fb_mX2_readTest_1_2
      rw [if_neg (show ¬ 400 < i by grind)]
      simp only [bnd]
      clear hf
      generalize fX2_readPart_1 tc k f n tf pf g6 g7 g8 g9 g10 g11 g12 v3 v4 v5 = u at hf2 hc ⊢
      obtain ⟨c1, c2, c3, c4, c5, c6, c7, c8⟩ := hf2
      rw [if_neg (show ¬ u.2.2.2.2.2.2.2.2.2.2.2.2.2 = 0 by rw [c8]; decide)]
      have hn : (v.2.1).toInt ≤ 60 ∧ n.toInt < (v.2.1).toInt := z_le60 c6 c7
      have hi := z_inc60 i6 c6 c7 i0
      have i0' := i_nn i0
      have i6' : i.toInt ≤ n.toInt := by
        rw [Int32.lt_iff_toInt_lt] at i6
        omega
      -- the operand, with its sign behind it
      have key : ∀ (l1 : List (Int32 × List (Int32 × Int32) × List (Int32 × Int32))) (s5 : Int32) (s12 : Nat → Int32), PRE n v3 v4 v5 l1 → TSC v.2.1 v3 v4 v5 g6 g7 g8 g9 g10 g11 g12 l1 (u.1, u.2.1, u.2.2.1, u.2.2.2.1, u.2.2.2.2.1, s5, u.2.2.2.2.2.2.1, u.2.2.2.2.2.2.2.1, u.2.2.2.2.2.2.2.2.1, u.2.2.2.2.2.2.2.2.2.1, u.2.2.2.2.2.2.2.2.2.2.1, u.2.2.2.2.2.2.2.2.2.2.2.1, s12, 1) → (if tk v.1 = 317 then exb (slp tk nx (sP tk nx 9) 317 (-3) m true (nx v.1) v.2.1) (fun x => .ok (x.1, x.2.1, l1 ++ x.2.2)) else .ok (v.1, v.2.1, l1)) = .ok w → TSC w.2.1 v3 v4 v5 g6 g7 g8 g9 g10 g11 g12 w.2.2 (if fX2_token tc u.1 tf = 317 then fl_mX2_readTest_1_2 tc tf pf E17 E42 E60 N (u.1 + 1) u.2.1 u.2.2.1 u.2.2.2.1 u.2.2.2.2.1 s5 u.2.2.2.2.2.2.1 u.2.2.2.2.2.2.2.1 u.2.2.2.2.2.2.2.2.1 u.2.2.2.2.2.2.2.2.2.1 u.2.2.2.2.2.2.2.2.2.2.1 u.2.2.2.2.2.2.2.2.2.2.2.1 s12 (i + 1) else E42 u.1 u.2.1 u.2.2.1 u.2.2.2.1 u.2.2.2.2.1 s5 u.2.2.2.2.2.2.1 u.2.2.2.2.2.2.2.1 u.2.2.2.2.2.2.2.2.1 u.2.2.2.2.2.2.2.2.2.1 u.2.2.2.2.2.2.2.2.2.2.1 u.2.2.2.2.2.2.2.2.2.2.2.1 s12 i) := by
        intro l1 s5 s12 hq hu he
        rw [CH_tok h c1 c2, c3]
        by_cases t : tk v.1 = 317
        · rw [if_pos t] at he ⊢
          obtain ⟨x, hx, he⟩ := exb_inv he
          cases he
          obtain ⟨d0, d1, d2⟩ := CH_nx h c1 c2 c3 (fun q => absurd (t.symm.trans q) (by decide))
          have hp2 := PRE_r hp hu
          have z := ih N true (u.1 + 1) v.2.1 u.2.2.2.1 u.2.2.2.2.1 s5 u.2.2.2.2.2.2.1 u.2.2.2.2.2.2.2.1 u.2.2.2.2.2.2.2.2.1 u.2.2.2.2.2.2.2.2.2.1 u.2.2.2.2.2.2.2.2.2.2.1 u.2.2.2.2.2.2.2.2.2.2.2.1 s12 (i + 1) x d0 d1 (by grind) c7 (by rw [Int32.lt_iff_toInt_lt, z_i0]; omega) (by rw [Int32.lt_iff_toInt_lt]; omega) ⟨fun q => (by cases q), fun q => by rw [Int32.le_iff_toInt_le, z_i0] at q; omega⟩ (by omega) (by rw [d2]; exact hx) hp2
          rw [c4, c5]
          exact TSC_app hq hu z
        · rw [if_neg t] at he ⊢
          cases he
          rw [h42]
          exact hu
      by_cases hi9 : i ≤ 0
      · have b9 := hb.mpr hi9
        subst b9
        rw [if_pos hi9]
        have hq : PRE n v3 v4 v5 v.2.2 := by
          by_cases t : tk v.1 = 317
          · rw [if_pos t] at he
            obtain ⟨x, hx, he⟩ := exb_inv he
            cases he
            exact PRE_l hp
          · rw [if_neg t] at he
            cases he
            exact hp
        exact key v.2.2 u.2.2.2.2.2.1 u.2.2.2.2.2.2.2.2.2.2.2.2.1 hq (hc hq) he
      · have b9 : b = true := by
          cases b with
          | false => exact absurd (hb.mp rfl) hi9
          | true => rfl
        subst b9
        rw [if_neg hi9]
        have hq2 : PRE n v3 v4 v5 (v.2.2 ++ [((-3), [], [])]) := by
          by_cases t : tk v.1 = 317
          · rw [if_pos t] at he
            obtain ⟨x, hx, he⟩ := exb_inv he
            cases he
            exact PRE_l hp
          · rw [if_neg t] at he
            cases he
            exact hp
        have hq := PRE_l hq2
        have hcu := hc hq
        have hr := PRE_r hq2 hcu
        rw [step_x (by have := hr.2.2.2.2.2; simp at this; omega)]
        exact key (v.2.2 ++ [((-3), [], [])]) _ _ hq2 (TSC_app hq hcu (TSC_step hr (Or.inr (Or.inr rfl)))) he
set_option maxHeartbeats 400000 in
theorem c_testC_1 {tk nx : Int32 → Int32} {tc : Int32} {tf pf : Nat → Int32} (h : CH tk nx tc tf pf) (htk : TKH tk nx) : ∀ (k f n : Int32) (yj yo y1 y2 y3 y4 y5 : Nat → Int32) (yv yf ys : Int32) (w : Int32 × Int32 × List (Int32 × List (Int32 × Int32) × List (Int32 × Int32))), ¬ k < 0 → k < tc → ¬ n < 0 → ¬ 60 < n → sT tk nx 9 (pf k.toNatClampNeg) n = .ok w → PRE n yv yf ys w.2.2 → TSC w.2.1 yv yf ys yj yo y1 y2 y3 y4 y5 w.2.2 (fX2_readTest_1 tc k f n tf pf yj yo y1 y2 y3 y4 y5 yv yf ys) := by
  intro k f n yj yo y1 y2 y3 y4 y5 yv yf ys w k0 k1 n0 n6 he hp
  exact c_testLC_1 h htk (fun _ _ _ _ _ _ _ _ _ _ _ _ _ _ => rfl) 61 _ false k n yv yf ys yj yo y1 y2 y3 y4 y5 0 w k0 k1 n0 n6 (by decide) n0 ⟨fun _ => Int32.le_refl _, fun _ => rfl⟩ (by decide) he hp
set_option maxHeartbeats 400000 in
theorem c_factC_0 {tk nx : Int32 → Int32} {tc : Int32} {tf pf : Nat → Int32} (h : CH tk nx tc tf pf) (htk : TKH tk nx) : ∀ (k f n : Int32) (yj yo y1 y2 y3 y4 y5 : Nat → Int32) (yv yf ys : Int32) (w : Int32 × Int32 × List (Int32 × List (Int32 × Int32) × List (Int32 × Int32))), ¬ k < 0 → k < tc → ¬ n < 0 → ¬ 60 < n → sF tk nx 10 (pf k.toNatClampNeg) n = .ok w → PRE n yv yf ys w.2.2 → TSC w.2.1 yv yf ys yj yo y1 y2 y3 y4 y5 w.2.2 (fX2_readFact_0 tc k f n tf pf yj yo y1 y2 y3 y4 y5 yv yf ys) := by
  intro k f n yj yo y1 y2 y3 y4 y5 yv yf ys w k0 k1 n0 n6 he hp
  unfold fX2_readFact_0
  simp only [bnd, CH_tok h k0 k1]
  have he : sfc tk nx (sT tk nx 9) (sF tk nx 9) (pf k.toNatClampNeg) n = .ok w := he
  unfold sfc at he
  by_cases a : tk (pf k.toNatClampNeg) = 319
  · rw [if_pos a] at he ⊢
    obtain ⟨v, hv, he⟩ := exb_inv he
    cases he
    obtain ⟨b0, b1, b2⟩ := CH_nx h k0 k1 rfl (fun q => absurd (a.symm.trans q) (by decide))
    have hc := c_factC_1 h htk (k + 1) f n yj yo y1 y2 y3 y4 y5 yv yf ys v b0 b1 n0 n6 (by rw [b2]; exact hv) (PRE_l hp)
    have hr := PRE_r hp hc
    generalize fX2_readFact_1 tc (k + 1) f n tf pf yj yo y1 y2 y3 y4 y5 yv yf ys = u at hc hr ⊢
    rw [step_x (by have := hr.2.2.2.2.2; simp at this; omega)]
    exact TSC_app (PRE_l hp) hc (TSC_step hr (Or.inl rfl))
  · rw [if_neg a] at he ⊢
    by_cases b : tk (pf k.toNatClampNeg) = 91
    · rw [if_pos b] at he ⊢
      obtain ⟨v, hv, he⟩ := exb_inv he
      by_cases t : tk v.1 = 93
      · rw [if_pos t] at he
        cases he
        obtain ⟨b0, b1, b2⟩ := CH_nx h k0 k1 rfl (fun q => absurd (b.symm.trans q) (by decide))
        have hf := c_test_1 h (k + 1) f n yj yo y1 y2 y3 y4 y5 yv yf ys b0 b1 n0 n6
        have hc := c_testC_1 h htk (k + 1) f n yj yo y1 y2 y3 y4 y5 yv yf ys v b0 b1 n0 n6 (by rw [b2]; exact hv) hp
        rw [b2, hv] at hf
        generalize fX2_readTest_1 tc (k + 1) f n tf pf yj yo y1 y2 y3 y4 y5 yv yf ys = u at hf hc ⊢
        obtain ⟨c1, c2, c3, c4, c5, c6, c7, c8⟩ := hf
        rw [if_neg (show ¬ u.2.2.2.2.2.2.2.2.2.2.2.2.2 = 0 by rw [c8]; decide), CH_take h c1 c2 c3, if_pos t]
        exact hc
      · rw [if_neg t] at he; cases he
    · rw [if_neg b] at he ⊢
      have hc := c_cmpC h htk k f n yj yo y1 y2 y3 y4 y5 yv yf ys w k0 k1 n0 n6 he hp
      generalize fX2_readComparison tc k f n tf pf yj yo y1 y2 y3 y4 y5 yv yf ys = u at hc ⊢
      exact hc
set_option maxHeartbeats 400000 in
theorem c_partLC_0 {tk nx : Int32 → Int32} {tc : Int32} {tf pf : Nat → Int32} (h : CH tk nx tc tf pf) (htk : TKH tk nx) {f : Int32} {E17 E42 E60 : Int32 → Int32 → Int32 → Int32 → Int32 → Int32 → (Nat → Int32) → (Nat → Int32) → (Nat → Int32) → (Nat → Int32) → (Nat → Int32) → (Nat → Int32) → (Nat → Int32) → Int32 → (Int32 × Int32 × Int32 × Int32 × Int32 × Int32 × (Nat → Int32) × (Nat → Int32) × (Nat → Int32) × (Nat → Int32) × (Nat → Int32) × (Nat → Int32) × (Nat → Int32) × Int32)} (h42 : ∀ a1 a2 a3 a4 a5 a6 a7 a8 a9 a10 a11 a12 a13 a14, E42 a1 a2 a3 a4 a5 a6 a7 a8 a9 a10 a11 a12 a13 a14 = (a1, a2, a3, a4, a5, a6, a7, a8, a9, a10, a11, a12, a13, 1)) : ∀ (m N : Nat) (b : Bool) (k n v3 v4 v5 : Int32) (g6 g7 g8 g9 g10 g11 g12 : Nat → Int32) (i : Int32) (w : Int32 × Int32 × List (Int32 × List (Int32 × Int32) × List (Int32 × Int32))), ¬ k < 0 → k < tc → ¬ n < 0 → ¬ 60 < n → ¬ i < 0 → ¬ n < i → (b = false ↔ i ≤ 0) → (401 - i.toInt).toNat < N → slp tk nx (sF tk nx 10) 318 (-2) m b (pf k.toNatClampNeg) n = .ok w → PRE n v3 v4 v5 w.2.2 → TSC w.2.1 v3 v4 v5 g6 g7 g8 g9 g10 g11 g12 w.2.2 (fl_mX2_readPart_0_2 tc tf pf E17 E42 E60 N k f n v3 v4 v5 g6 g7 g8 g9 g10 g11 g12 i) := by
  intro m
  induction m with
  | zero => intro N b k n v3 v4 v5 g6 g7 g8 g9 g10 g11 g12 i w k0 k1 n0 n6 i0 i6 hb hN he; cases he
  | succ m ih =>
    intro N b k n v3 v4 v5 g6 g7 g8 g9 g10 g11 g12 i w k0 k1 n0 n6 i0 i6 hb hN he hp
    cases N with
    | zero => exact absurd hN (Nat.not_lt_zero _)
    | succ N =>
      rw [slp_s] at he
      obtain ⟨v, hv, he⟩ := exb_inv he
      have hf := c_fact_0 h k f n g6 g7 g8 g9 g10 g11 g12 v3 v4 v5 k0 k1 n0 n6
      have hf2 : TV pf tc f n (.ok v) (fX2_readFact_0 tc k f n tf pf g6 g7 g8 g9 g10 g11 g12 v3 v4 v5) := by rw [← hv]; exact hf
      have hc := fun hq => c_factC_0 h htk k f n g6 g7 g8 g9 g10 g11 g12 v3 v4 v5 v k0 k1 n0 n6 hv hq
      show TSC w.2.1 v3 v4 v5 g6 g7 g8 g9 g10 g11 g12 w.2.2 (fb_mX2_readPart_0_2 tc tf pf E17 E42 E60 (fl_mX2_readPart_0_2 tc tf pf E17 E42 E60 N) k f n v3 v4 v5 g6 g7 g8 g9 g10 g11 g12 i)
      unfold fb_mX2_readPart_0_2
      rw [if_neg (show ¬ 400 < i by grind)]
      simp only [bnd]
      clear hf
      generalize fX2_readFact_0 tc k f n tf pf g6 g7 g8 g9 g10 g11 g12 v3 v4 v5 = u at hf2 hc ⊢
      obtain ⟨c1, c2, c3, c4, c5, c6, c7, c8⟩ := hf2
      rw [if_neg (show ¬ u.2.2.2.2.2.2.2.2.2.2.2.2.2 = 0 by rw [c8]; decide)]
      have hn : (v.2.1).toInt ≤ 60 ∧ n.toInt < (v.2.1).toInt := z_le60 c6 c7
      have hi := z_inc60 i6 c6 c7 i0
      have i0' := i_nn i0
      have i6' : i.toInt ≤ n.toInt := by
        rw [Int32.lt_iff_toInt_lt] at i6
        omega
      -- the operand, with its sign behind it
      have key : ∀ (l1 : List (Int32 × List (Int32 × Int32) × List (Int32 × Int32))) (s5 : Int32) (s12 : Nat → Int32), PRE n v3 v4 v5 l1 → TSC v.2.1 v3 v4 v5 g6 g7 g8 g9 g10 g11 g12 l1 (u.1, u.2.1, u.2.2.1, u.2.2.2.1, u.2.2.2.2.1, s5, u.2.2.2.2.2.2.1, u.2.2.2.2.2.2.2.1, u.2.2.2.2.2.2.2.2.1, u.2.2.2.2.2.2.2.2.2.1, u.2.2.2.2.2.2.2.2.2.2.1, u.2.2.2.2.2.2.2.2.2.2.2.1, s12, 1) → (if tk v.1 = 318 then exb (slp tk nx (sF tk nx 10) 318 (-2) m true (nx v.1) v.2.1) (fun x => .ok (x.1, x.2.1, l1 ++ x.2.2)) else .ok (v.1, v.2.1, l1)) = .ok w → TSC w.2.1 v3 v4 v5 g6 g7 g8 g9 g10 g11 g12 w.2.2 (if fX2_token tc u.1 tf = 318 then fl_mX2_readPart_0_2 tc tf pf E17 E42 E60 N (u.1 + 1) u.2.1 u.2.2.1 u.2.2.2.1 u.2.2.2.2.1 s5 u.2.2.2.2.2.2.1 u.2.2.2.2.2.2.2.1 u.2.2.2.2.2.2.2.2.1 u.2.2.2.2.2.2.2.2.2.1 u.2.2.2.2.2.2.2.2.2.2.1 u.2.2.2.2.2.2.2.2.2.2.2.1 s12 (i + 1) else E42 u.1 u.2.1 u.2.2.1 u.2.2.2.1 u.2.2.2.2.1 s5 u.2.2.2.2.2.2.1 u.2.2.2.2.2.2.2.1 u.2.2.2.2.2.2.2.2.1 u.2.2.2.2.2.2.2.2.2.1 u.2.2.2.2.2.2.2.2.2.2.1 u.2.2.2.2.2.2.2.2.2.2.2.1 s12 i) := by
        intro l1 s5 s12 hq hu he
        rw [CH_tok h c1 c2, c3]
        by_cases t : tk v.1 = 318
        · rw [if_pos t] at he ⊢
          obtain ⟨x, hx, he⟩ := exb_inv he
          cases he
          obtain ⟨d0, d1, d2⟩ := CH_nx h c1 c2 c3 (fun q => absurd (t.symm.trans q) (by decide))
          have hp2 := PRE_r hp hu
          have z := ih N true (u.1 + 1) v.2.1 u.2.2.2.1 u.2.2.2.2.1 s5 u.2.2.2.2.2.2.1 u.2.2.2.2.2.2.2.1 u.2.2.2.2.2.2.2.2.1 u.2.2.2.2.2.2.2.2.2.1 u.2.2.2.2.2.2.2.2.2.2.1 u.2.2.2.2.2.2.2.2.2.2.2.1 s12 (i + 1) x d0 d1 (by grind) c7 (by rw [Int32.lt_iff_toInt_lt, z_i0]; omega) (by rw [Int32.lt_iff_toInt_lt]; omega) ⟨fun q => (by cases q), fun q => by rw [Int32.le_iff_toInt_le, z_i0] at q; omega⟩ (by omega) (by rw [d2]; exact hx) hp2
          rw [c4, c5]
          exact TSC_app hq hu z
        · rw [if_neg t] at he ⊢
          cases he
          rw [h42]
          exact hu
      by_cases hi9 : i ≤ 0
      · have b9 := hb.mpr hi9
        subst b9
        rw [if_pos hi9]
        have hq : PRE n v3 v4 v5 v.2.2 := by
          by_cases t : tk v.1 = 318
          · rw [if_pos t] at he
            obtain ⟨x, hx, he⟩ := exb_inv he
            cases he
            exact PRE_l hp
          · rw [if_neg t] at he
            cases he
            exact hp
        exact key v.2.2 u.2.2.2.2.2.1 u.2.2.2.2.2.2.2.2.2.2.2.2.1 hq (hc hq) he
      · have b9 : b = true := by
          cases b with
          | false => exact absurd (hb.mp rfl) hi9
          | true => rfl
        subst b9
        rw [if_neg hi9]
        have hq2 : PRE n v3 v4 v5 (v.2.2 ++ [((-2), [], [])]) := by
          by_cases t : tk v.1 = 318
          · rw [if_pos t] at he
            obtain ⟨x, hx, he⟩ := exb_inv he
            cases he
            exact PRE_l hp
          · rw [if_neg t] at he
            cases he
            exact hp
        have hq := PRE_l hq2
        have hcu := hc hq
        have hr := PRE_r hq2 hcu
        rw [step_x (by have := hr.2.2.2.2.2; simp at this; omega)]
        exact key (v.2.2 ++ [((-2), [], [])]) _ _ hq2 (TSC_app hq hcu (TSC_step hr (Or.inr (Or.inl rfl)))) he
set_option maxHeartbeats 400000 in
theorem c_partC_0 {tk nx : Int32 → Int32} {tc : Int32} {tf pf : Nat → Int32} (h : CH tk nx tc tf pf) (htk : TKH tk nx) : ∀ (k f n : Int32) (yj yo y1 y2 y3 y4 y5 : Nat → Int32) (yv yf ys : Int32) (w : Int32 × Int32 × List (Int32 × List (Int32 × Int32) × List (Int32 × Int32))), ¬ k < 0 → k < tc → ¬ n < 0 → ¬ 60 < n → sP tk nx 10 (pf k.toNatClampNeg) n = .ok w → PRE n yv yf ys w.2.2 → TSC w.2.1 yv yf ys yj yo y1 y2 y3 y4 y5 w.2.2 (fX2_readPart_0 tc k f n tf pf yj yo y1 y2 y3 y4 y5 yv yf ys) := by
  intro k f n yj yo y1 y2 y3 y4 y5 yv yf ys w k0 k1 n0 n6 he hp
  exact c_partLC_0 h htk (fun _ _ _ _ _ _ _ _ _ _ _ _ _ _ => rfl) 61 _ false k n yv yf ys yj yo y1 y2 y3 y4 y5 0 w k0 k1 n0 n6 (by decide) n0 ⟨fun _ => Int32.le_refl _, fun _ => rfl⟩ (by decide) he hp
set_option maxHeartbeats 400000 in
theorem c_testLC_0 {tk nx : Int32 → Int32} {tc : Int32} {tf pf : Nat → Int32} (h : CH tk nx tc tf pf) (htk : TKH tk nx) {f : Int32} {E17 E42 E60 : Int32 → Int32 → Int32 → Int32 → Int32 → Int32 → (Nat → Int32) → (Nat → Int32) → (Nat → Int32) → (Nat → Int32) → (Nat → Int32) → (Nat → Int32) → (Nat → Int32) → Int32 → (Int32 × Int32 × Int32 × Int32 × Int32 × Int32 × (Nat → Int32) × (Nat → Int32) × (Nat → Int32) × (Nat → Int32) × (Nat → Int32) × (Nat → Int32) × (Nat → Int32) × Int32)} (h42 : ∀ a1 a2 a3 a4 a5 a6 a7 a8 a9 a10 a11 a12 a13 a14, E42 a1 a2 a3 a4 a5 a6 a7 a8 a9 a10 a11 a12 a13 a14 = (a1, a2, a3, a4, a5, a6, a7, a8, a9, a10, a11, a12, a13, 1)) : ∀ (m N : Nat) (b : Bool) (k n v3 v4 v5 : Int32) (g6 g7 g8 g9 g10 g11 g12 : Nat → Int32) (i : Int32) (w : Int32 × Int32 × List (Int32 × List (Int32 × Int32) × List (Int32 × Int32))), ¬ k < 0 → k < tc → ¬ n < 0 → ¬ 60 < n → ¬ i < 0 → ¬ n < i → (b = false ↔ i ≤ 0) → (401 - i.toInt).toNat < N → slp tk nx (sP tk nx 10) 317 (-3) m b (pf k.toNatClampNeg) n = .ok w → PRE n v3 v4 v5 w.2.2 → TSC w.2.1 v3 v4 v5 g6 g7 g8 g9 g10 g11 g12 w.2.2 (fl_mX2_readTest_0_2 tc tf pf E17 E42 E60 N k f n v3 v4 v5 g6 g7 g8 g9 g10 g11 g12 i) := by
  intro m
  induction m with
  | zero => intro N b k n v3 v4 v5 g6 g7 g8 g9 g10 g11 g12 i w k0 k1 n0 n6 i0 i6 hb hN he; cases he
  | succ m ih =>
    intro N b k n v3 v4 v5 g6 g7 g8 g9 g10 g11 g12 i w k0 k1 n0 n6 i0 i6 hb hN he hp
    cases N with
    | zero => exact absurd hN (Nat.not_lt_zero _)
    | succ N =>
      rw [slp_s] at he
      obtain ⟨v, hv, he⟩ := exb_inv he
      have hf := c_part_0 h k f n g6 g7 g8 g9 g10 g11 g12 v3 v4 v5 k0 k1 n0 n6
      have hf2 : TV pf tc f n (.ok v) (fX2_readPart_0 tc k f n tf pf g6 g7 g8 g9 g10 g11 g12 v3 v4 v5) := by rw [← hv]; exact hf
      have hc := fun hq => c_partC_0 h htk k f n g6 g7 g8 g9 g10 g11 g12 v3 v4 v5 v k0 k1 n0 n6 hv hq
      show TSC w.2.1 v3 v4 v5 g6 g7 g8 g9 g10 g11 g12 w.2.2 (fb_mX2_readTest_0_2 tc tf pf E17 E42 E60 (fl_mX2_readTest_0_2 tc tf pf E17 E42 E60 N) k f n v3 v4 v5 g6 g7 g8 g9 g10 g11 g12 i)
      unfold fb_mX2_readTest_0_2
      rw [if_neg (show ¬ 400 < i by grind)]
      simp only [bnd]
      clear hf
      generalize fX2_readPart_0 tc k f n tf pf g6 g7 g8 g9 g10 g11 g12 v3 v4 v5 = u at hf2 hc ⊢
      obtain ⟨c1, c2, c3, c4, c5, c6, c7, c8⟩ := hf2
      rw [if_neg (show ¬ u.2.2.2.2.2.2.2.2.2.2.2.2.2 = 0 by rw [c8]; decide)]
      have hn : (v.2.1).toInt ≤ 60 ∧ n.toInt < (v.2.1).toInt := z_le60 c6 c7
      have hi := z_inc60 i6 c6 c7 i0
      have i0' := i_nn i0
      have i6' : i.toInt ≤ n.toInt := by
        rw [Int32.lt_iff_toInt_lt] at i6
        omega
      -- the operand, with its sign behind it
      have key : ∀ (l1 : List (Int32 × List (Int32 × Int32) × List (Int32 × Int32))) (s5 : Int32) (s12 : Nat → Int32), PRE n v3 v4 v5 l1 → TSC v.2.1 v3 v4 v5 g6 g7 g8 g9 g10 g11 g12 l1 (u.1, u.2.1, u.2.2.1, u.2.2.2.1, u.2.2.2.2.1, s5, u.2.2.2.2.2.2.1, u.2.2.2.2.2.2.2.1, u.2.2.2.2.2.2.2.2.1, u.2.2.2.2.2.2.2.2.2.1, u.2.2.2.2.2.2.2.2.2.2.1, u.2.2.2.2.2.2.2.2.2.2.2.1, s12, 1) → (if tk v.1 = 317 then exb (slp tk nx (sP tk nx 10) 317 (-3) m true (nx v.1) v.2.1) (fun x => .ok (x.1, x.2.1, l1 ++ x.2.2)) else .ok (v.1, v.2.1, l1)) = .ok w → TSC w.2.1 v3 v4 v5 g6 g7 g8 g9 g10 g11 g12 w.2.2 (if fX2_token tc u.1 tf = 317 then fl_mX2_readTest_0_2 tc tf pf E17 E42 E60 N (u.1 + 1) u.2.1 u.2.2.1 u.2.2.2.1 u.2.2.2.2.1 s5 u.2.2.2.2.2.2.1 u.2.2.2.2.2.2.2.1 u.2.2.2.2.2.2.2.2.1 u.2.2.2.2.2.2.2.2.2.1 u.2.2.2.2.2.2.2.2.2.2.1 u.2.2.2.2.2.2.2.2.2.2.2.1 s12 (i + 1) else E42 u.1 u.2.1 u.2.2.1 u.2.2.2.1 u.2.2.2.2.1 s5 u.2.2.2.2.2.2.1 u.2.2.2.2.2.2.2.1 u.2.2.2.2.2.2.2.2.1 u.2.2.2.2.2.2.2.2.2.1 u.2.2.2.2.2.2.2.2.2.2.1 u.2.2.2.2.2.2.2.2.2.2.2.1 s12 i) := by
        intro l1 s5 s12 hq hu he
        rw [CH_tok h c1 c2, c3]
        by_cases t : tk v.1 = 317
        · rw [if_pos t] at he ⊢
          obtain ⟨x, hx, he⟩ := exb_inv he
          cases he
          obtain ⟨d0, d1, d2⟩ := CH_nx h c1 c2 c3 (fun q => absurd (t.symm.trans q) (by decide))
          have hp2 := PRE_r hp hu
          have z := ih N true (u.1 + 1) v.2.1 u.2.2.2.1 u.2.2.2.2.1 s5 u.2.2.2.2.2.2.1 u.2.2.2.2.2.2.2.1 u.2.2.2.2.2.2.2.2.1 u.2.2.2.2.2.2.2.2.2.1 u.2.2.2.2.2.2.2.2.2.2.1 u.2.2.2.2.2.2.2.2.2.2.2.1 s12 (i + 1) x d0 d1 (by grind) c7 (by rw [Int32.lt_iff_toInt_lt, z_i0]; omega) (by rw [Int32.lt_iff_toInt_lt]; omega) ⟨fun q => (by cases q), fun q => by rw [Int32.le_iff_toInt_le, z_i0] at q; omega⟩ (by omega) (by rw [d2]; exact hx) hp2
          rw [c4, c5]
          exact TSC_app hq hu z
        · rw [if_neg t] at he ⊢
          cases he
          rw [h42]
          exact hu
      by_cases hi9 : i ≤ 0
      · have b9 := hb.mpr hi9
        subst b9
        rw [if_pos hi9]
        have hq : PRE n v3 v4 v5 v.2.2 := by
          by_cases t : tk v.1 = 317
          · rw [if_pos t] at he
            obtain ⟨x, hx, he⟩ := exb_inv he
            cases he
            exact PRE_l hp
          · rw [if_neg t] at he
            cases he
            exact hp
        exact key v.2.2 u.2.2.2.2.2.1 u.2.2.2.2.2.2.2.2.2.2.2.2.1 hq (hc hq) he
      · have b9 : b = true := by
          cases b with
          | false => exact absurd (hb.mp rfl) hi9
          | true => rfl
        subst b9
        rw [if_neg hi9]
        have hq2 : PRE n v3 v4 v5 (v.2.2 ++ [((-3), [], [])]) := by
          by_cases t : tk v.1 = 317
          · rw [if_pos t] at he
            obtain ⟨x, hx, he⟩ := exb_inv he
            cases he
            exact PRE_l hp
          · rw [if_neg t] at he
            cases he
            exact hp
        have hq := PRE_l hq2
        have hcu := hc hq
        have hr := PRE_r hq2 hcu
        rw [step_x (by have := hr.2.2.2.2.2; simp at this; omega)]
        exact key (v.2.2 ++ [((-3), [], [])]) _ _ hq2 (TSC_app hq hcu (TSC_step hr (Or.inr (Or.inr rfl)))) he
set_option maxHeartbeats 400000 in
theorem c_testC_0 {tk nx : Int32 → Int32} {tc : Int32} {tf pf : Nat → Int32} (h : CH tk nx tc tf pf) (htk : TKH tk nx) : ∀ (k f n : Int32) (yj yo y1 y2 y3 y4 y5 : Nat → Int32) (yv yf ys : Int32) (w : Int32 × Int32 × List (Int32 × List (Int32 × Int32) × List (Int32 × Int32))), ¬ k < 0 → k < tc → ¬ n < 0 → ¬ 60 < n → sT tk nx 10 (pf k.toNatClampNeg) n = .ok w → PRE n yv yf ys w.2.2 → TSC w.2.1 yv yf ys yj yo y1 y2 y3 y4 y5 w.2.2 (fX2_readTest_0 tc k f n tf pf yj yo y1 y2 y3 y4 y5 yv yf ys) := by
  intro k f n yj yo y1 y2 y3 y4 y5 yv yf ys w k0 k1 n0 n6 he hp
  exact c_testLC_0 h htk (fun _ _ _ _ _ _ _ _ _ _ _ _ _ _ => rfl) 61 _ false k n yv yf ys yj yo y1 y2 y3 y4 y5 0 w k0 k1 n0 n6 (by decide) n0 ⟨fun _ => Int32.le_refl _, fun _ => rfl⟩ (by decide) he hp
