def KV (pf : Nat → Int32) (tc f : Int32) (r : Except Int32 (Int32 × Int32 × Int32 × Int32 × Int32 × List (Int32 × Int32) × Option (List (Int32 × List (Int32 × Int32) × List (Int32 × Int32))))) (u : Int32 × Int32 × Int32 × Int32 × Int32 × Int32 × Int32 × Int32 × Int32 × (Nat → Int32) × (Nat → Int32) × (Nat → Int32) × (Nat → Int32) × (Nat → Int32) × (Nat → Int32) × (Nat → Int32) × (Nat → Int32) × (Nat → Int32) × (Nat → Int32) × (Nat → Int32) × (Nat → Int32) × Int32) : Prop := match r with
  | .error e => u.2.1 = e ∧ u.2.2.2.2.2.2.2.2.2.2.2.2.2.2.2.2.2.2.2.2.2 = 0 ∧ 0 < e
  | .ok w => (¬ u.1 < 0) ∧ u.1 < tc ∧ pf u.1.toNatClampNeg = w.1 ∧ u.2.1 = f ∧ u.2.2.1 = w.2.1 ∧ u.2.2.2.1 = w.2.2.1 ∧ (¬ w.2.1 < 0) ∧ (¬ 60 < w.2.1) ∧ u.2.2.2.2.2.2.2.2.2.2.2.2.2.2.2.2.2.2.2.2.2 = 1
def snm (tk nx : Int32 → Int32) (p n : Int32) : Except Int32 (Int32 × Int32 × Int32 × Int32 × Int32 × List (Int32 × Int32) × Option (List (Int32 × List (Int32 × Int32) × List (Int32 × Int32)))) := if tk p - 1000 < 0 then .error (flt p 1) else if tk p - 1000 ≤ 10 then .ok (nx p, n, 1, 4, tk p - 1000, [], none) else .error (flt p 1)
def sch (tk nx : Int32 → Int32) (p n : Int32) : Except Int32 (Int32 × Int32 × Int32 × Int32 × Int32 × List (Int32 × Int32) × Option (List (Int32 × List (Int32 × Int32) × List (Int32 × Int32)))) := if tk p = 259 then snm tk nx p n else if 1000 ≤ tk p then snm tk nx p n else .error (flt p 0)
def sbd (tk nx : Int32 → Int32) (s ch p n : Int32) : Except Int32 (Int32 × Int32 × Int32 × Int32 × Int32 × List (Int32 × Int32) × Option (List (Int32 × List (Int32 × Int32) × List (Int32 × Int32)))) := exb (ssum tk nx 61 p n 0) (fun w => if tk w.1 = 316 then exb (sT tk nx 10 (nx w.1) w.2.1) (fun x => .ok (x.1, x.2.1, ch, s, 0, w.2.2, some x.2.2)) else .ok (w.1, w.2.1, ch, s, 0, w.2.2, none))
def scl (tk nx : Int32 → Int32) (num ch p n : Int32) : Except Int32 (Int32 × Int32 × Int32 × Int32 × Int32 × List (Int32 × Int32) × Option (List (Int32 × List (Int32 × Int32) × List (Int32 × Int32)))) := if tk p - 311 < 0 then .error (flt p 0) else if tk p - 311 ≤ 4 then (if 12 ≤ num then .error (flt p 4) else if tk p - 311 = 4 then (if ch = 0 then sch tk nx (nx p) n else .error (flt p 4)) else sbd tk nx (tk p - 311) ch (nx p) n) else .error (flt p 0)
def srd (tk nx : Int32 → Int32) : Nat → Int32 → Int32 → Int32 → Int32 → Except Int32 (List (Int32 × Int32 × List (Int32 × Int32) × Option (List (Int32 × List (Int32 × Int32) × List (Int32 × Int32)))))
  | 0, _, _, _, _ => .error 0
  | m + 1, num, ch, p, n => exb (scl tk nx num ch p n) (fun w => if tk w.1 = 258 then .ok [w.2.2.2] else if tk w.1 = 59 then exb (srd tk nx m (num + 1) w.2.2.1 (nx w.1) w.2.1) (fun l => .ok (w.2.2.2 :: l)) else .error (flt w.1 0))
theorem srd_s {tk nx : Int32 → Int32} {m : Nat} {num ch p n : Int32} : srd tk nx (m + 1) num ch p n = exb (scl tk nx num ch p n) (fun w => if tk w.1 = 258 then .ok [w.2.2.2] else if tk w.1 = 59 then exb (srd tk nx m (num + 1) w.2.2.1 (nx w.1) w.2.1) (fun l => .ok (w.2.2.2 :: l)) else .error (flt w.1 0)) := rfl
def HV (pf : Nat → Int32) (tc f n : Int32) (r : Except Int32 (Int32 × Int32 × Int32 × Int32 × Int32 × List (Int32 × Int32) × Option (List (Int32 × List (Int32 × Int32) × List (Int32 × Int32))))) (u : Int32 × Int32 × Int32 × Int32 × Int32) : Prop := match r with
  | .error e => u.2.1 = e ∧ u.2.2.2.2 = 0 ∧ 0 < e
  | .ok w => (¬ u.1 < 0) ∧ u.1 < tc ∧ pf u.1.toNatClampNeg = w.1 ∧ u.2.1 = f ∧ n = w.2.1 ∧ u.2.2.1 = w.2.2.1 ∧ u.2.2.2.2 = 1
theorem c_chain {tk nx : Int32 → Int32} {tc : Int32} {tf pf : Nat → Int32} (h : CH tk nx tc tf pf) {k f n y p : Int32} (k0 : ¬ k < 0) (k1 : k < tc) (e : pf k.toNatClampNeg = p) : HV pf tc f n (sch tk nx p n) (fX2_readChain tc k f tf pf y) := by
  unfold fX2_readChain
  simp only [bnd, CH_tok h k0 k1, CH_ref h k0 k1, e]
  have key : HV pf tc f n (snm tk nx p n) (if tk p - 1000 < 0 then (k, flt p 1, 1, y, 0) else if tk p - 1000 ≤ 10 then (k + 1, f, 1, tk p - 1000, 1) else (k, flt p 1, 1, y, 0)) := by
    unfold snm
    by_cases a : tk p - 1000 < 0
    · rw [if_pos a, if_pos a]
      exact ⟨rfl, rfl, CH_pos h k0 k1 e (by decide) (by decide)⟩
    · rw [if_neg a, if_neg a]
      by_cases b : tk p - 1000 ≤ 10
      · rw [if_pos b, if_pos b]
        obtain ⟨d0, d1, d2⟩ := CH_nx h k0 k1 e (fun q => a (by rw [q]; decide))
        exact ⟨d0, d1, d2, rfl, rfl, rfl, rfl⟩
      · rw [if_neg b, if_neg b]
        exact ⟨rfl, rfl, CH_pos h k0 k1 e (by decide) (by decide)⟩
  unfold sch
  by_cases a : tk p = 259
  · rw [if_pos a, if_pos a]
    exact key
  · rw [if_neg a, if_neg a]
    by_cases b : (1000 : Int32) ≤ tk p
    · rw [if_pos b, if_pos b]
      exact key
    · rw [if_neg b, if_neg b]
      exact ⟨rfl, rfl, CH_pos h k0 k1 e (by decide) (by decide)⟩
theorem c_clause {tk nx : Int32 → Int32} {tc : Int32} {tf pf : Nat → Int32} (h : CH tk nx tc tf pf) : ∀ (k f n ch : Int32) (s1 s2 s3 s4 s5 yj yo y1 y2 y3 y4 y5 : Nat → Int32) (yc yl yv yf ys num : Int32), ¬ k < 0 → k < tc → ¬ n < 0 → ¬ 60 < n → KV pf tc f (scl tk nx num ch (pf k.toNatClampNeg) n) (fX2_readClause tc k f n ch tf pf s1 s2 s3 s4 s5 yj yo y1 y2 y3 y4 y5 yc yl yv yf ys num) := by
  intro k f n ch s1 s2 s3 s4 s5 yj yo y1 y2 y3 y4 y5 yc yl yv yf ys num k0 k1 n0 n6
  unfold fX2_readClause
  simp only [bnd, CH_tok h k0 k1, CH_ref h k0 k1]
  unfold scl
  by_cases a : tk (pf k.toNatClampNeg) - 311 < 0
  · rw [if_pos a, if_pos a]
    exact ⟨rfl, rfl, CH_pos h k0 k1 rfl (by decide) (by decide)⟩
  · rw [if_neg a, if_neg a]
    by_cases b : tk (pf k.toNatClampNeg) - 311 ≤ 4
    · rw [if_pos b, if_pos b]
      obtain ⟨b0, b1, b2⟩ := CH_nx h k0 k1 rfl (fun q => absurd (show (258 : Int32) - 311 < 0 by decide) (q ▸ a))
      by_cases c : (12 : Int32) ≤ num
      · rw [if_pos c, if_pos c]
        exact ⟨rfl, rfl, CH_pos h k0 k1 rfl (by decide) (by decide)⟩
      · rw [if_neg c, if_neg c]
        by_cases s : tk (pf k.toNatClampNeg) - 311 = 4
        · simp only [if_pos s]
          by_cases g : ch = 0
          · rw [if_pos g, if_pos g]
            have hc := c_chain (f := f) (n := n) (y := yc) h b0 b1 b2
            generalize fX2_readChain tc (k + 1) f tf pf yc = u at hc ⊢
            generalize sch tk nx (nx (pf k.toNatClampNeg)) n = r at hc ⊢
            cases r with
            | error e => exact hc
            | ok w =>
              obtain ⟨c1, c2, c3, c4, c5, c6, c7⟩ := hc
              exact ⟨c1, c2, c3, c4, c5, c6, c5 ▸ n0, c5 ▸ n6, c7⟩
          · rw [if_neg g, if_neg g]
            exact ⟨rfl, rfl, CH_pos h k0 k1 rfl (by decide) (by decide)⟩
        · simp only [if_neg s]
          have hs := c_sum (f := f) (yv := yv) (yj := yj) (yo := yo) h b0 b1 n0 n6
          rw [b2] at hs
          generalize fX2_readSum tc (k + 1) f n tf pf yj yo yv = u at hs ⊢
          unfold sbd
          generalize ssum tk nx 61 (nx (pf k.toNatClampNeg)) n 0 = r at hs ⊢
          cases r with
          | error e =>
            obtain ⟨h2, h7, hp⟩ := hs
            rw [if_pos h7]
            exact ⟨h2, rfl, hp⟩
          | ok w =>
            obtain ⟨c1, c2, c3, c4, c5, c6, c7, c8⟩ := hs
            rw [if_neg (show ¬ u.2.2.2.2.2.2 = 0 by rw [c8]; decide), CH_tok h c1 c2, c3]
            have n0' : ¬ w.2.1 < 0 := by grind
            show KV pf tc f (if tk w.1 = 316 then _ else _) _
            by_cases t : tk w.1 = 316
            · rw [if_pos t, if_pos t]
              obtain ⟨d0, d1, d2⟩ := CH_nx h c1 c2 c3 (fun q => absurd (t.symm.trans q) (by decide))
              have ht := c_test_0 h (u.1 + 1) u.2.1 u.2.2.1 u.2.2.2.2.1 u.2.2.2.2.2.1 y1 y2 y3 y4 y5 u.2.2.2.1 yf ys d0 d1 (by rw [c5]; exact n0') (by rw [c5]; exact c7)
              rw [d2, c5] at ht
              rw [c5]
              generalize fX2_readTest_0 tc (u.1 + 1) u.2.1 w.2.1 tf pf u.2.2.2.2.1 u.2.2.2.2.2.1 y1 y2 y3 y4 y5 u.2.2.2.1 yf ys = v at ht ⊢
              generalize sT tk nx 10 (nx w.1) w.2.1 = r at ht ⊢
              cases r with
              | error e =>
                obtain ⟨h2, h7, hp⟩ := ht
                rw [if_pos h7]
                exact ⟨h2, rfl, hp⟩
              | ok x =>
                obtain ⟨g1, g2, g3, g4, g5, g6, g7, g8⟩ := ht
                rw [if_neg (show ¬ v.2.2.2.2.2.2.2.2.2.2.2.2.2 = 0 by rw [g8]; decide)]
                exact ⟨g1, g2, g3, g4.trans c4, g5, rfl, (by show ¬ x.2.1 < 0; grind), g7, rfl⟩
            · rw [if_neg t, if_neg t]
              exact ⟨c1, c2, c3, c4, c5, rfl, n0', c7, rfl⟩
    · rw [if_neg b, if_neg b]
      exact ⟨rfl, rfl, CH_pos h k0 k1 rfl (by decide) (by decide)⟩
def RV (r : Except Int32 (List (Int32 × Int32 × List (Int32 × Int32) × Option (List (Int32 × List (Int32 × Int32) × List (Int32 × Int32)))))) (x : Int32) : Prop := match r with
  | .error e => x = e ∧ 0 < e
  | .ok _ => x = 0
theorem e_exit {tc : Int32} {tf pf : Nat → Int32} {E79 E94 : (Nat → Int32) → (Nat → Int32) → (Nat → Int32) → (Nat → Int32) → (Nat → Int32) → (Nat → Int32) → (Nat → Int32) → (Nat → Int32) → (Nat → Int32) → (Nat → Int32) → (Nat → Int32) → (Nat → Int32) → Int32 → Int32 → Int32 → Int32 → Int32 → Int32 → Int32 → Int32 → Int32 → Int32 → (Int32 × Int32 × Int32 × Int32 × Int32 × (Nat → Int32) × (Nat → Int32) × (Nat → Int32) × (Nat → Int32) × (Nat → Int32) × (Nat → Int32) × (Nat → Int32) × (Nat → Int32) × (Nat → Int32) × (Nat → Int32) × (Nat → Int32) × (Nat → Int32) × (Nat → Int32) × (Nat → Int32) × Int32 × Int32 × Int32 × Int32 × Int32 × Int32)} (h94 : ∀ a1 a2 a3 a4 a5 a6 a7 a8 a9 a10 a11 a12 a13 a14 a15 a16 a17 a18 a19 a20 a21 a22, (E94 a1 a2 a3 a4 a5 a6 a7 a8 a9 a10 a11 a12 a13 a14 a15 a16 a17 a18 a19 a20 a21 a22).2.2.2.2.2.2.2.2.2.2.2.2.2.2.2.2.2.2.2.2.2.2.2.2 = a14) {N : Nat} {g0 g1 g2 g3 g4 g5 g6 g7 g8 g9 g10 g11 : Nat → Int32} {k e n ch v16 v17 v18 v19 v20 num : Int32} (he : 0 < e) : (fl_mX2_read_46 tc tf pf E79 E94 (N + 1) g0 g1 g2 g3 g4 g5 g6 g7 g8 g9 g10 g11 k e n ch v16 v17 v18 v19 v20 num).2.2.2.2.2.2.2.2.2.2.2.2.2.2.2.2.2.2.2.2.2.2.2.2 = e := by
  show (fb_mX2_read_46 tc tf pf E79 E94 (fl_mX2_read_46 tc tf pf E79 E94 N) g0 g1 g2 g3 g4 g5 g6 g7 g8 g9 g10 g11 k e n ch v16 v17 v18 v19 v20 num).2.2.2.2.2.2.2.2.2.2.2.2.2.2.2.2.2.2.2.2.2.2.2.2 = e
  unfold fb_mX2_read_46
  by_cases a : 12 < num
  · rw [if_pos a]
    exact h94 _ _ _ _ _ _ _ _ _ _ _ _ _ _ _ _ _ _ _ _ _ _
  · rw [if_neg a, if_neg (show ¬ e = 0 by grind)]
    exact h94 _ _ _ _ _ _ _ _ _ _ _ _ _ _ _ _ _ _ _ _ _ _
theorem c_readL {tk nx : Int32 → Int32} {tc : Int32} {tf pf : Nat → Int32} (h : CH tk nx tc tf pf) {E79 E94 : (Nat → Int32) → (Nat → Int32) → (Nat → Int32) → (Nat → Int32) → (Nat → Int32) → (Nat → Int32) → (Nat → Int32) → (Nat → Int32) → (Nat → Int32) → (Nat → Int32) → (Nat → Int32) → (Nat → Int32) → Int32 → Int32 → Int32 → Int32 → Int32 → Int32 → Int32 → Int32 → Int32 → Int32 → (Int32 × Int32 × Int32 × Int32 × Int32 × (Nat → Int32) × (Nat → Int32) × (Nat → Int32) × (Nat → Int32) × (Nat → Int32) × (Nat → Int32) × (Nat → Int32) × (Nat → Int32) × (Nat → Int32) × (Nat → Int32) × (Nat → Int32) × (Nat → Int32) × (Nat → Int32) × (Nat → Int32) × Int32 × Int32 × Int32 × Int32 × Int32 × Int32)} (h79 : ∀ a1 a2 a3 a4 a5 a6 a7 a8 a9 a10 a11 a12 a13 a14 a15 a16 a17 a18 a19 a20 a21 a22, (E79 a1 a2 a3 a4 a5 a6 a7 a8 a9 a10 a11 a12 a13 a14 a15 a16 a17 a18 a19 a20 a21 a22).2.2.2.2.2.2.2.2.2.2.2.2.2.2.2.2.2.2.2.2.2.2.2.2 = 0) (h94 : ∀ a1 a2 a3 a4 a5 a6 a7 a8 a9 a10 a11 a12 a13 a14 a15 a16 a17 a18 a19 a20 a21 a22, (E94 a1 a2 a3 a4 a5 a6 a7 a8 a9 a10 a11 a12 a13 a14 a15 a16 a17 a18 a19 a20 a21 a22).2.2.2.2.2.2.2.2.2.2.2.2.2.2.2.2.2.2.2.2.2.2.2.2 = a14) : ∀ (m N : Nat) (g0 g1 g2 g3 g4 g5 g6 g7 g8 g9 g10 g11 : Nat → Int32) (k n ch v16 v17 v18 v19 v20 num : Int32), ¬ k < 0 → k < tc → ¬ n < 0 → ¬ 60 < n → ¬ num < 0 → ¬ 12 < num → (12 - num.toInt).toNat < m → (13 - num.toInt).toNat < N → RV (srd tk nx m num ch (pf k.toNatClampNeg) n) ((fl_mX2_read_46 tc tf pf E79 E94 N g0 g1 g2 g3 g4 g5 g6 g7 g8 g9 g10 g11 k 0 n ch v16 v17 v18 v19 v20 num).2.2.2.2.2.2.2.2.2.2.2.2.2.2.2.2.2.2.2.2.2.2.2.2) := by
  intro m
  induction m with
  | zero => intro N g0 g1 g2 g3 g4 g5 g6 g7 g8 g9 g10 g11 k n ch v16 v17 v18 v19 v20 num k0 k1 n0 n6 i0 i6 hm hN; exact absurd hm (Nat.not_lt_zero _)
  | succ m ih =>
    intro N g0 g1 g2 g3 g4 g5 g6 g7 g8 g9 g10 g11 k n ch v16 v17 v18 v19 v20 num k0 k1 n0 n6 i0 i6 hm hN
    have j0 := i_nn i0
    have j6 : num.toInt ≤ 12 := by
      rw [Int32.lt_iff_toInt_lt] at i6
      have e : (12 : Int32).toInt = 12 := by decide
      omega
    have ji : (num + 1).toInt = num.toInt + 1 := zadd1 (by omega)
    match N, hN with
    | 0, hN => exact absurd hN (Nat.not_lt_zero _)
    | 1, hN => exact absurd hN (by omega)
    | N + 1 + 1, hN =>
      show RV _ ((fb_mX2_read_46 tc tf pf E79 E94 (fl_mX2_read_46 tc tf pf E79 E94 (N + 1)) g0 g1 g2 g3 g4 g5 g6 g7 g8 g9 g10 g11 k 0 n ch v16 v17 v18 v19 v20 num).2.2.2.2.2.2.2.2.2.2.2.2.2.2.2.2.2.2.2.2.2.2.2.2)
      unfold fb_mX2_read_46
      rw [if_neg i6, if_pos rfl]
      simp only [bnd]
      have hv := c_clause h k 0 n ch g0 g1 g2 g3 g4 g5 g6 g7 g8 g9 g10 g11 v16 v17 v18 v19 v20 num k0 k1 n0 n6
      generalize fX2_readClause tc k 0 n ch tf pf g0 g1 g2 g3 g4 g5 g6 g7 g8 g9 g10 g11 v16 v17 v18 v19 v20 num = u at hv ⊢
      rw [srd_s]
      have hnum : (∀ w, scl tk nx num ch (pf k.toNatClampNeg) n = .ok w → ¬ (12 : Int32) ≤ num) := by
        intro w hw c
        unfold scl at hw
        rw [if_pos c] at hw
        repeat' split at hw
        all_goals cases hw
      generalize scl tk nx num ch (pf k.toNatClampNeg) n = r at hv hnum ⊢
      cases r with
      | error e =>
        obtain ⟨h2, h7, hp⟩ := hv
        rw [if_pos h7, h2]
        exact ⟨e_exit h94 hp, hp⟩
      | ok w =>
        obtain ⟨c1, c2, c3, c4, c5, c6, c7, c8, c9⟩ := hv
        have hw := hnum w rfl
        have hw' : num.toInt < 12 := by
          rw [Int32.le_iff_toInt_le] at hw
          have e : (12 : Int32).toInt = 12 := by decide
          omega
        rw [if_neg (show ¬ u.2.2.2.2.2.2.2.2.2.2.2.2.2.2.2.2.2.2.2.2.2 = 0 by rw [c9]; decide), CH_tok h c1 c2, c3]
        show RV (if tk w.1 = 258 then _ else if tk w.1 = 59 then _ else _) _
        by_cases t : tk w.1 = 258
        · rw [if_pos t, if_pos t]
          exact h79 _ _ _ _ _ _ _ _ _ _ _ _ _ _ _ _ _ _ _ _ _ _
        · rw [if_neg t, if_neg t, CH_take h c1 c2 c3]
          by_cases s : tk w.1 = 59
          · rw [if_pos s, if_pos s, c4, c5, c6]
            obtain ⟨d0, d1, d2⟩ := CH_nx h c1 c2 c3 t
            have z := ih (N + 1) u.2.2.2.2.2.2.2.2.2.1 u.2.2.2.2.2.2.2.2.2.2.1 u.2.2.2.2.2.2.2.2.2.2.2.1 u.2.2.2.2.2.2.2.2.2.2.2.2.1 u.2.2.2.2.2.2.2.2.2.2.2.2.2.1 u.2.2.2.2.2.2.2.2.2.2.2.2.2.2.1 u.2.2.2.2.2.2.2.2.2.2.2.2.2.2.2.1 u.2.2.2.2.2.2.2.2.2.2.2.2.2.2.2.2.1 u.2.2.2.2.2.2.2.2.2.2.2.2.2.2.2.2.2.1 u.2.2.2.2.2.2.2.2.2.2.2.2.2.2.2.2.2.2.1 u.2.2.2.2.2.2.2.2.2.2.2.2.2.2.2.2.2.2.2.1 u.2.2.2.2.2.2.2.2.2.2.2.2.2.2.2.2.2.2.2.2.1 (u.1 + 1) w.2.1 w.2.2.1 u.2.2.2.2.1 u.2.2.2.2.2.1 u.2.2.2.2.2.2.1 u.2.2.2.2.2.2.2.1 u.2.2.2.2.2.2.2.2.1 (num + 1) d0 d1 c7 c8 (by grind) (by grind) (by omega) (by omega)
            rw [d2] at z
            generalize srd tk nx m (num + 1) w.2.2.1 (nx w.1) w.2.1 = r at z ⊢
            cases r with
            | error e => exact z
            | ok x => exact z
          · rw [if_neg s, if_neg s]
            have hp := CH_pos h c1 c2 c3 (show ¬ (0 : Int32) < 0 by decide) (show ¬ (4 : Int32) < 0 by decide)
            exact ⟨e_exit h94 hp, hp⟩
def srt (tk nx : Int32 → Int32) (p : Int32) : Except Int32 (List (Int32 × Int32 × List (Int32 × Int32) × Option (List (Int32 × List (Int32 × Int32) × List (Int32 × Int32))))) := srd tk nx 13 0 0 p 0
def skL (x : Nat → Int32) (T : Int32) : Nat → Int32 → Int32
  | 0, a => a
  | m + 1, a => if T ≤ a then a else if x a.toNatClampNeg = 32 then skL x T m (a + 1) else a
def sp (x : Nat → Int32) (T a : Int32) : Int32 := skL x T ((T.toInt - a.toInt).toNat + 1) a
theorem m_next {T a : Int32} (h : ¬ T ≤ a) : (T.toInt - a.toInt).toNat = (T.toInt - (a + 1).toInt).toNat + 1 := by
  have hT := z32 T
  rw [Int32.le_iff_toInt_le] at h
  rw [zadd1 (by omega)]
  omega
theorem sp_eq {x : Nat → Int32} {T a : Int32} : sp x T a = if T ≤ a then a else if x a.toNatClampNeg = 32 then sp x T (a + 1) else a := by
  show (if T ≤ a then a else if x a.toNatClampNeg = 32 then skL x T ((T.toInt - a.toInt).toNat) (a + 1) else a) = _
  by_cases h : T ≤ a
  · rw [if_pos h, if_pos h]
  · rw [if_neg h, if_neg h, m_next h]
    rfl
theorem n_sub {T a : Int32} {n : Nat} (h : ¬ T ≤ a) (hn : (T.toInt - a.toInt).toNat < n + 1) : (T.toInt - (a + 1).toInt).toNat < n := by
  have := m_next h
  omega
theorem a_nn {T a : Int32} (h : ¬ T ≤ a) (h0 : ¬ a < 0) : ¬ a + 1 < 0 := by
  have hT := z32 T
  rw [Int32.le_iff_toInt_le] at h
  rw [Int32.lt_iff_toInt_lt] at h0 ⊢
  rw [zadd1 (by omega)]
  rw [z_i0] at h0 ⊢
  omega
theorem a_le {T a : Int32} (h : ¬ T ≤ a) : ¬ T < a + 1 := by
  have hT := z32 T
  rw [Int32.le_iff_toInt_le] at h
  rw [Int32.lt_iff_toInt_lt]
  rw [zadd1 (by omega)]
  omega
theorem a_lt {T a : Int32} (h : ¬ T ≤ a) : a < a + 1 := by
  have hT := z32 T
  rw [Int32.le_iff_toInt_le] at h
  rw [Int32.lt_iff_toInt_lt]
  rw [zadd1 (by omega)]
  omega
theorem i_le_of {a b : Int32} (h : ¬ b < a) : a ≤ b := by
  rw [Int32.lt_iff_toInt_lt] at h
  rw [Int32.le_iff_toInt_le]
  omega
theorem i_trans {a b c : Int32} (h : a < b) (h2 : ¬ c < b) : ¬ c < a := by
  rw [Int32.lt_iff_toInt_lt] at *
  omega
theorem i_trans3 {a b c : Int32} (h : a < b) (h2 : ¬ c < b) : a < c := by
  rw [Int32.lt_iff_toInt_lt] at *
  omega
theorem i_irr {a : Int32} : ¬ a < a := by
  rw [Int32.lt_iff_toInt_lt]
  omega
theorem sp_p {x : Nat → Int32} {T : Int32} : ∀ (n : Nat) (a : Int32), ¬ T < a → (T.toInt - a.toInt).toNat < n → (¬ sp x T a < a) ∧ (¬ T < sp x T a) ∧ (T ≤ sp x T a ∨ ¬ x (sp x T a).toNatClampNeg = 32) := by
  intro n
  induction n with
  | zero => intro a h hn; exact absurd hn (Nat.not_lt_zero _)
  | succ n ih =>
    intro a h hn
    rw [sp_eq]
    by_cases b : T ≤ a
    · rw [if_pos b]
      exact ⟨i_irr, h, Or.inl b⟩
    · rw [if_neg b]
      by_cases c : x a.toNatClampNeg = 32
      · rw [if_pos c]
        obtain ⟨h1, h2, h3⟩ := ih (a + 1) (a_le b) (n_sub b hn)
        exact ⟨i_trans (a_lt b) h1, h2, h3⟩
      · rw [if_neg c]
        exact ⟨i_irr, h, Or.inr c⟩
theorem sp_in {x : Nat → Int32} {T a : Int32} (a0 : ¬ a < 0) (h : ¬ T < a) : (¬ sp x T a < a) ∧ (¬ T < sp x T a) ∧ (¬ sp x T a < 0) ∧ sp x T (sp x T a) = sp x T a := by
  obtain ⟨h1, h2, h3⟩ := sp_p (x := x) _ a h (Nat.lt_succ_self _)
  refine ⟨h1, h2, ?_, ?_⟩
  · rw [Int32.lt_iff_toInt_lt] at *
    omega
  · generalize sp x T a = p at h1 h2 h3
    rw [sp_eq]
    rcases h3 with h3 | h3
    · rw [if_pos h3]
    · rw [if_neg h3]
      split <;> rfl
theorem by_dec : ∀ k : Fin 256, ((Int32.ofInt ((k.val : Int) - 128)) &&& 255) = if k.val < 128 then Int32.ofInt ((k.val : Int) + 128) else Int32.ofInt ((k.val : Int) - 128) := by decide +kernel
theorem byt {b : Int32} (h0 : ¬ b < -128) (h1 : ¬ 127 < b) : (¬ b < 0 → b &&& 255 = b) ∧ (b < 0 → (¬ (b &&& 255) < 128) ∧ ¬ 255 < (b &&& 255)) := by
  rw [Int32.lt_iff_toInt_lt] at h0 h1
  have e1 : (-128 : Int32).toInt = -128 := by decide
  have e2 : (127 : Int32).toInt = 127 := by decide
  rw [e1] at h0
  rw [e2] at h1
  have q := by_dec ⟨(b.toInt + 128).toNat, by omega⟩
  have hv : (((b.toInt + 128).toNat : Nat) : Int) = b.toInt + 128 := by omega
  have hb : Int32.ofInt ((((b.toInt + 128).toNat : Nat) : Int) - 128) = b := by
    rw [hv, show b.toInt + 128 - 128 = b.toInt by omega, Int32.ofInt_toInt]
  simp only [hb] at q
  rw [q]
  constructor
  · intro g
    rw [Int32.lt_iff_toInt_lt, z_i0] at g
    rw [if_neg (by omega)]
  · intro g
    rw [Int32.lt_iff_toInt_lt, z_i0] at g
    rw [if_pos (by omega), hv]
    have e3 : (Int32.ofInt (b.toInt + 128 + 128)).toInt = b.toInt + 128 + 128 := Int32.toInt_ofInt_of_le (by omega) (by omega)
    rw [Int32.lt_iff_toInt_lt, Int32.lt_iff_toInt_lt, e3]
    have e4 : (128 : Int32).toInt = 128 := by decide
    have e5 : (255 : Int32).toInt = 255 := by decide
    rw [e4, e5]
    omega
def LXH (x tF : Nat → Int32) (T : Int32) : Prop := (¬ T < 0) ∧ (¬ 400 < T) ∧ ∀ i : Int32, ¬ i < 0 → ¬ T ≤ i → x i.toNatClampNeg = tF i.toNatClampNeg &&& 255 ∧ (¬ tF i.toNatClampNeg < -128) ∧ ¬ 127 < tF i.toNatClampNeg
theorem LXH_eq {x tF : Nat → Int32} {T i c : Int32} (H : LXH x tF T) (i0 : ¬ i < 0) (iT : ¬ T ≤ i) (c0 : ¬ c < 0) (c1 : c < 128) : (tF i.toNatClampNeg = c ↔ x i.toNatClampNeg = c) := by
  obtain ⟨e, b0, b1⟩ := H.2.2 i i0 iT
  rw [e]
  obtain ⟨p1, p2⟩ := byt b0 b1
  generalize tF i.toNatClampNeg = b at *
  by_cases g : b < 0
  · obtain ⟨q1, q2⟩ := p2 g
    constructor
    · intro h
      exact absurd (h ▸ g) c0
    · intro h
      exact absurd (h ▸ c1) q1
  · rw [p1 g]
theorem LXH_l {x tF : Nat → Int32} {T i : Int32} (H : LXH x tF T) (i0 : ¬ i < 0) : isl tF T i = if T ≤ i then 0 else fX2_isLetter (x i.toNatClampNeg) := by
  unfold isl fX2_isLetter
  by_cases iT : T ≤ i
  · rw [if_pos iT, if_pos iT]
  · rw [if_neg iT, if_neg iT]
    obtain ⟨e, b0, b1⟩ := H.2.2 i i0 iT
    rw [e]
    obtain ⟨p1, p2⟩ := byt b0 b1
    generalize tF i.toNatClampNeg = b at *
    by_cases g : b < 0
    · obtain ⟨q1, q2⟩ := p2 g
      rw [if_pos (show b < 97 by grind), if_neg (show ¬ (b &&& 255) < 97 by grind), if_pos (show 122 < (b &&& 255) by grind)]
    · rw [p1 g]
theorem LXH_d {x tF : Nat → Int32} {T i : Int32} (H : LXH x tF T) (i0 : ¬ i < 0) : isd tF T i = if T ≤ i then 0 else fX2_isDigit (x i.toNatClampNeg) := by
  unfold isd fX2_isDigit
  by_cases iT : T ≤ i
  · rw [if_pos iT, if_pos iT]
  · rw [if_neg iT, if_neg iT]
    obtain ⟨e, b0, b1⟩ := H.2.2 i i0 iT
    rw [e]
    obtain ⟨p1, p2⟩ := byt b0 b1
    generalize tF i.toNatClampNeg = b at *
    by_cases g : b < 0
    · obtain ⟨q1, q2⟩ := p2 g
      rw [if_pos (show b < 48 by grind), if_neg (show ¬ (b &&& 255) < 48 by grind), if_pos (show 57 < (b &&& 255) by grind)]
    · rw [p1 g]
theorem LXH_b {x tF : Nat → Int32} {T i : Int32} (H : LXH x tF T) (i0 : ¬ i < 0) (iT : ¬ T ≤ i) : (¬ x i.toNatClampNeg < 0) ∧ ¬ 255 < x i.toNatClampNeg := by
  obtain ⟨e, b0, b1⟩ := H.2.2 i i0 iT
  rw [e]
  obtain ⟨p1, p2⟩ := byt b0 b1
  generalize tF i.toNatClampNeg = b at *
  by_cases g : b < 0
  · obtain ⟨q1, q2⟩ := p2 g
    exact ⟨by grind, q2⟩
  · rw [p1 g]
    exact ⟨g, by grind⟩
theorem lx_seeL {x tF : Nat → Int32} {T : Int32} (H : LXH x tF T) {E : Int32 → Int32 × Int32} : ∀ (N : Nat) (a : Int32), ¬ a < 0 → (T.toInt - a.toInt).toNat < N → fl_mX11_see_0 T tF E N a = E (sp x T a) := by
  intro N
  induction N with
  | zero => intro a a0 hn; exact absurd hn (Nat.not_lt_zero _)
  | succ N ih =>
    intro a a0 hn
    show fb_mX11_see_0 T tF E (fl_mX11_see_0 T tF E N) a = _
    unfold fb_mX11_see_0
    rw [sp_eq]
    by_cases b : T ≤ a
    · rw [if_pos b, if_pos b]
    · rw [if_neg b, if_neg b]
      simp only [bnd]
      have q := LXH_eq (c := 32) H a0 b (by decide) (by decide)
      by_cases c : x a.toNatClampNeg = 32
      · rw [if_pos c, if_pos (q.mpr c)]
        exact ih (a + 1) (a_nn b a0) (n_sub b hn)
      · rw [if_neg c, if_neg (fun g => c (q.mp g))]
def cA (x : Nat → Int32) (T p : Int32) : Int32 := if T ≤ p then -1 else x p.toNatClampNeg
theorem lx_see {x tF : Nat → Int32} {T a : Int32} (H : LXH x tF T) (a0 : ¬ a < 0) (aT : ¬ T < a) : fX11_see T a tF = (sp x T a, cA x T (sp x T a)) := by
  unfold fX11_see
  rw [lx_seeL H _ a a0 (Nat.lt_succ_self _)]
  simp only [bnd]
  unfold cA
  by_cases b : T ≤ sp x T a
  · rw [if_pos b, if_pos b]
  · rw [if_neg b, if_neg b, (H.2.2 _ (sp_in a0 aT).2.2.1 b).1]
def we (x : Nat → Int32) (T a : Int32) : Int32 := fl_mX2_stopOf_16 x T (fun w => w) ((T.toInt - a.toInt).toNat + 1) a
def de (x : Nat → Int32) (T a : Int32) : Int32 := fl_mX2_stopOf_45 x T (fun w => w) ((T.toInt - a.toInt).toNat + 1) a
theorem we_eq {x : Nat → Int32} {T a : Int32} : we x T a = if T ≤ a then a else if fX2_isLetter (x a.toNatClampNeg) = 0 then a else we x T (a + 1) := by
  show fb_mX2_stopOf_16 x T (fun w => w) (fl_mX2_stopOf_16 x T (fun w => w) ((T.toInt - a.toInt).toNat)) a = _
  unfold fb_mX2_stopOf_16
  simp only [bnd]
  by_cases h : T ≤ a
  · rw [if_pos h, if_pos h]
  · rw [if_neg h, if_neg h, m_next h]
    rfl
theorem de_eq {x : Nat → Int32} {T a : Int32} : de x T a = if T ≤ a then a else if fX2_isDigit (x a.toNatClampNeg) = 0 then a else de x T (a + 1) := by
  show fb_mX2_stopOf_45 x T (fun w => w) (fl_mX2_stopOf_45 x T (fun w => w) ((T.toInt - a.toInt).toNat)) a = _
  unfold fb_mX2_stopOf_45
  simp only [bnd]
  by_cases h : T ≤ a
  · rw [if_pos h, if_pos h]
  · rw [if_neg h, if_neg h, m_next h]
    rfl
theorem we_p {x : Nat → Int32} {T : Int32} : ∀ (n : Nat) (a : Int32), ¬ T < a → (T.toInt - a.toInt).toNat < n → (¬ we x T a < a) ∧ (¬ T < we x T a) := by
  intro n
  induction n with
  | zero => intro a h hn; exact absurd hn (Nat.not_lt_zero _)
  | succ n ih =>
    intro a h hn
    rw [we_eq]
    by_cases b : T ≤ a
    · rw [if_pos b]
      exact ⟨i_irr, h⟩
    · rw [if_neg b]
      by_cases c : fX2_isLetter (x a.toNatClampNeg) = 0
      · rw [if_pos c]
        exact ⟨i_irr, h⟩
      · rw [if_neg c]
        obtain ⟨h1, h2⟩ := ih (a + 1) (a_le b) (n_sub b hn)
        exact ⟨i_trans (a_lt b) h1, h2⟩
theorem de_p {x : Nat → Int32} {T : Int32} : ∀ (n : Nat) (a : Int32), ¬ T < a → (T.toInt - a.toInt).toNat < n → (¬ de x T a < a) ∧ (¬ T < de x T a) := by
  intro n
  induction n with
  | zero => intro a h hn; exact absurd hn (Nat.not_lt_zero _)
  | succ n ih =>
    intro a h hn
    rw [de_eq]
    by_cases b : T ≤ a
    · rw [if_pos b]
      exact ⟨i_irr, h⟩
    · rw [if_neg b]
      by_cases c : fX2_isDigit (x a.toNatClampNeg) = 0
      · rw [if_pos c]
        exact ⟨i_irr, h⟩
      · rw [if_neg c]
        obtain ⟨h1, h2⟩ := ih (a + 1) (a_le b) (n_sub b hn)
        exact ⟨i_trans (a_lt b) h1, h2⟩
theorem lx_passL {x tF : Nat → Int32} {T : Int32} (H : LXH x tF T) : ∀ (N : Nat) (a : Int32), ¬ a < 0 → (T.toInt - a.toInt).toNat < N → fl_mX11_passWord_0 T tF (fun w => w) N a = we x T a := by
  intro N
  induction N with
  | zero => intro a a0 hn; exact absurd hn (Nat.not_lt_zero _)
  | succ N ih =>
    intro a a0 hn
    show fb_mX11_passWord_0 T tF (fun w => w) (fl_mX11_passWord_0 T tF (fun w => w) N) a = _
    unfold fb_mX11_passWord_0
    rw [we_eq, LXH_l H a0]
    simp only [bnd]
    by_cases b : T ≤ a
    · rw [if_pos b, if_pos b, if_pos rfl]
    · rw [if_neg b, if_neg b]
      by_cases c : fX2_isLetter (x a.toNatClampNeg) = 0
      · rw [if_pos c, if_pos c]
      · rw [if_neg c, if_neg c]
        exact ih (a + 1) (a_nn b a0) (n_sub b hn)
theorem lx_pass {x tF : Nat → Int32} {T a : Int32} (H : LXH x tF T) (a0 : ¬ a < 0) : fX11_passWord T a tF = we x T a := by
  unfold fX11_passWord
  exact lx_passL H _ a a0 (Nat.lt_succ_self _)
def WL : List (List Int32) := [[109, 111, 110, 116, 104], [104, 111, 117, 114], [100, 97, 121], [104, 101, 105, 103, 104, 116], [115, 117, 110], [99, 111, 108, 100], [110, 111, 100, 101], [100, 114, 111, 112, 115], [102, 101, 108, 116], [115, 97, 108, 116], [103, 111, 110, 101], [109, 101, 108, 116], [114, 101, 115, 116], [115, 104, 97, 114, 101], [98, 117, 114, 115, 116], [99, 104, 97, 105, 110], [105, 102], [111, 114], [97, 110, 100], [110, 111, 116]]
def mtb (x : Nat → Int32) (s : Int32) : List Int32 → Int32 → Bool
  | [], a => decide (a = s)
  | c :: l, a => decide (¬ s ≤ a) && (decide (x a.toNatClampNeg = c) && mtb x s l (a + 1))
def chs : List Int32 → Int32 → Bool
  | [], i => decide (¬ (99 : Int32) ≤ i) && decide (fJ0_charAt_5068e i = 32)
  | c :: l, i => decide (¬ (99 : Int32) ≤ i) && (decide (fJ0_charAt_5068e i = c) && (decide (¬ c = 32) && chs l (i + 1)))
def adv : List Int32 → Int32 → Int32
  | [], i => i + 1
  | _ :: l, i => adv l (i + 1)
def chw : List (List Int32) → Int32 → Bool
  | [], i => decide ((99 : Int32) ≤ i)
  | c :: l, i => chs c i && chw l (adv c i)
def tot : List (List Int32) → Nat
  | [] => 1
  | c :: l => tot l + c.length + 1
def wtk (x : Nat → Int32) (p s : Int32) : List (List Int32) → Int32 → Int32
  | [], _ => 260
  | c :: l, t => if mtb x s c p = true then t else wtk x p s l (t + 1)
theorem w_seg {x : Nat → Int32} {p s : Int32} : ∀ (cs : List Int32) (N : Nat) (i sm a t : Int32), chs cs i = true → (sm = 0 ∨ sm = 1) → fl_mX2_wordToken_13 x p s (fun _ _ _ t _ => t) (fun _ _ _ _ => 260) (N + cs.length + 1) i sm a t = if sm = 1 ∧ mtb x s cs a = true then t else fl_mX2_wordToken_13 x p s (fun _ _ _ t _ => t) (fun _ _ _ _ => 260) N (adv cs i) 1 p (t + 1) := by
  intro cs
  induction cs with
  | nil =>
    intro N i sm a t hc hs
    have hc2 : (¬ (99 : Int32) ≤ i) ∧ fJ0_charAt_5068e i = 32 := by
      simpa only [chs, Bool.and_eq_true, decide_eq_true_eq] using hc
    show fb_mX2_wordToken_13 x p s (fun _ _ _ t _ => t) (fun _ _ _ _ => 260) (fl_mX2_wordToken_13 x p s (fun _ _ _ t _ => t) (fun _ _ _ _ => 260) N) i sm a t = _
    unfold fb_mX2_wordToken_13
    simp only [bnd]
    rw [if_neg hc2.1, if_pos hc2.2]
    rcases hs with rfl | rfl
    · rw [if_pos rfl, if_neg (fun q => absurd q.1 (by decide))]
      rfl
    · rw [if_neg (by decide)]
      by_cases g : a = s
      · rw [if_pos g, if_pos ⟨rfl, by simpa only [mtb, decide_eq_true_eq] using g⟩]
      · rw [if_neg g, if_neg (fun q => g (by simpa only [mtb, decide_eq_true_eq] using q.2))]
        rfl
  | cons c l ih =>
    intro N i sm a t hc hs
    have hc2 : (¬ (99 : Int32) ≤ i) ∧ fJ0_charAt_5068e i = c ∧ (¬ c = 32) ∧ chs l (i + 1) = true := by
      simpa only [chs, Bool.and_eq_true, decide_eq_true_eq] using hc
    show fb_mX2_wordToken_13 x p s (fun _ _ _ t _ => t) (fun _ _ _ _ => 260) (fl_mX2_wordToken_13 x p s (fun _ _ _ t _ => t) (fun _ _ _ _ => 260) (N + l.length + 1)) i sm a t = _
    unfold fb_mX2_wordToken_13
    simp only [bnd]
    rw [if_neg hc2.1, hc2.2.1, if_neg hc2.2.2.1]
    have h0 := ih N (i + 1) 0 (a + 1) t hc2.2.2.2 (Or.inl rfl)
    have h1 := ih N (i + 1) 1 (a + 1) t hc2.2.2.2 (Or.inr rfl)
    rw [if_neg (fun q => absurd q.1 (by decide))] at h0
    rw [h0, h1]
    rcases hs with rfl | rfl
    · rw [if_pos rfl, if_neg (fun q => absurd q.1 (by decide))]
      rfl
    · rw [if_neg (by decide)]
      by_cases g : s ≤ a
      · rw [if_pos g, if_neg (fun q => by
          have q2 := q.2
          simp only [mtb, Bool.and_eq_true, decide_eq_true_eq] at q2
          exact q2.1 g)]
        rfl
      · rw [if_neg g]
        by_cases e : x a.toNatClampNeg = c
        · rw [if_pos e]
          by_cases m : mtb x s l (a + 1) = true
          · rw [if_pos ⟨rfl, m⟩, if_pos ⟨rfl, by simp only [mtb, Bool.and_eq_true, decide_eq_true_eq]; exact ⟨g, e, m⟩⟩]
          · rw [if_neg (fun q => m q.2), if_neg (fun q => by
              have q2 := q.2
              simp only [mtb, Bool.and_eq_true, decide_eq_true_eq] at q2
              exact m q2.2.2)]
            rfl
        · rw [if_neg e, if_neg (fun q => by
            have q2 := q.2
            simp only [mtb, Bool.and_eq_true, decide_eq_true_eq] at q2
            exact e q2.2.1)]
          rfl
theorem w_all {x : Nat → Int32} {p s : Int32} : ∀ (l : List (List Int32)) (i t : Int32), chw l i = true → fl_mX2_wordToken_13 x p s (fun _ _ _ t _ => t) (fun _ _ _ _ => 260) (tot l) i 1 p t = wtk x p s l t := by
  intro l
  induction l with
  | nil =>
    intro i t h
    have h2 : (99 : Int32) ≤ i := by simpa only [chw, decide_eq_true_eq] using h
    show fb_mX2_wordToken_13 x p s (fun _ _ _ t _ => t) (fun _ _ _ _ => 260) (fl_mX2_wordToken_13 x p s (fun _ _ _ t _ => t) (fun _ _ _ _ => 260) 0) i 1 p t = _
    unfold fb_mX2_wordToken_13
    rw [if_pos h2]
    rfl
  | cons c l ih =>
    intro i t h
    have h2 : chs c i = true ∧ chw l (adv c i) = true := by simpa only [chw, Bool.and_eq_true] using h
    show fl_mX2_wordToken_13 x p s (fun _ _ _ t _ => t) (fun _ _ _ _ => 260) (tot l + c.length + 1) i 1 p t = if mtb x s c p = true then t else wtk x p s l (t + 1)
    rw [w_seg c (tot l) i 1 p t h2.1 (Or.inr rfl), ih _ _ h2.2]
    by_cases m : mtb x s c p = true
    · rw [if_pos m, if_pos ⟨rfl, m⟩]
    · rw [if_neg m, if_neg (fun q => m q.2)]
theorem w_tok {x : Nat → Int32} {p s : Int32} : fX2_wordToken x p s = wtk x p s WL 300 := w_all WL 0 300 (by decide +kernel)
theorem mtb_inj {x : Nat → Int32} {s : Int32} : ∀ (c d : List Int32) (a : Int32), mtb x s c a = true → mtb x s d a = true → c = d := by
  intro c
  induction c with
  | nil =>
    intro d a h1 h2
    cases d with
    | nil => rfl
    | cons e d =>
      simp only [mtb, Bool.and_eq_true, decide_eq_true_eq] at h1 h2
      exact absurd (show s ≤ a by rw [h1, Int32.le_iff_toInt_le]; omega) h2.1
  | cons e c ih =>
    intro d a h1 h2
    cases d with
    | nil =>
      simp only [mtb, Bool.and_eq_true, decide_eq_true_eq] at h1 h2
      exact absurd (show s ≤ a by rw [h2, Int32.le_iff_toInt_le]; omega) h1.1
    | cons f d =>
      simp only [mtb, Bool.and_eq_true, decide_eq_true_eq] at h1 h2
      rw [ih d (a + 1) h1.2.2 h2.2.2, ← h1.2.1, ← h2.2.1]
def dst : List (List Int32) → Bool
  | [] => true
  | c :: l => !(l.contains c) && dst l
theorem t_of {k : Nat} (h : k < 1000) : (Int32.ofNat k).toInt = k := Int32.toInt_ofNat_of_lt (by omega)
theorem t_s {k : Nat} (h : k < 999) : Int32.ofNat k + 1 = Int32.ofNat (k + 1) := by
  apply Int32.toInt_inj.mp
  rw [zadd1 (by rw [t_of (by omega)]; omega), t_of (by omega), t_of (by omega)]
  omega
theorem t_neN {k j : Nat} (hk : k < 1000) (hj : j < 1000) (h : k ≠ j) : ¬ Int32.ofNat k = Int32.ofNat j := fun q => h (by
  have e := congrArg Int32.toInt q
  rw [t_of hk, t_of hj] at e
  omega)
theorem wtk_in {x : Nat → Int32} {p s : Int32} : ∀ (l : List (List Int32)) (k : Nat), k + l.length < 900 → wtk x p s l (Int32.ofNat k) = 260 ∨ ∃ j : Nat, j < l.length ∧ wtk x p s l (Int32.ofNat k) = Int32.ofNat (k + j) := by
  intro l
  induction l with
  | nil => intro k h; exact Or.inl rfl
  | cons c l ih =>
    intro k h
    have hl : k + 1 + l.length < 900 := by simp only [List.length_cons] at h; omega
    show (if mtb x s c p = true then Int32.ofNat k else wtk x p s l (Int32.ofNat k + 1)) = 260 ∨ ∃ j : Nat, j < l.length + 1 ∧ (if mtb x s c p = true then Int32.ofNat k else wtk x p s l (Int32.ofNat k + 1)) = Int32.ofNat (k + j)
    by_cases m : mtb x s c p = true
    · rw [if_pos m]
      exact Or.inr ⟨0, by omega, rfl⟩
    · rw [if_neg m, t_s (by omega)]
      rcases ih (k + 1) hl with h1 | ⟨j, hj, h1⟩
      · exact Or.inl h1
      · exact Or.inr ⟨j + 1, by omega, by rw [h1, show k + 1 + j = k + (j + 1) by omega]⟩
theorem wtk_iff {x : Nat → Int32} {p s : Int32} : ∀ (l : List (List Int32)) (k j : Nat) (hj : j < l.length), dst l = true → 260 < k → k + l.length < 900 → (wtk x p s l (Int32.ofNat k) = Int32.ofNat (k + j) ↔ mtb x s (l[j]'hj) p = true) := by
  intro l
  induction l with
  | nil => intro k j hj; exact absurd hj (Nat.not_lt_zero _)
  | cons c l ih =>
    intro k j hj hd k0 h
    have hl : k + 1 + l.length < 900 := by simp only [List.length_cons] at h; omega
    have hd2 : (¬ c ∈ l) ∧ dst l = true := by simpa only [dst, Bool.and_eq_true, Bool.not_eq_true', List.contains_eq_mem, decide_eq_false_iff_not] using hd
    show ((if mtb x s c p = true then Int32.ofNat k else wtk x p s l (Int32.ofNat k + 1)) = Int32.ofNat (k + j)) ↔ _
    by_cases m : mtb x s c p = true
    · rw [if_pos m]
      cases j with
      | zero => exact ⟨fun _ => m, fun _ => rfl⟩
      | succ j =>
        refine ⟨fun q => absurd q (t_neN (by omega) (by simp only [List.length_cons] at hj; omega) (by omega)), fun q => ?_⟩
        have e := mtb_inj c (l[j]'(by simp only [List.length_cons] at hj; omega)) p m q
        exact absurd (e ▸ List.getElem_mem _) hd2.1
    · rw [if_neg m, t_s (by omega)]
      cases j with
      | zero =>
        refine ⟨fun q => ?_, fun q => absurd q m⟩
        rcases wtk_in (x := x) (p := p) (s := s) l (k + 1) hl with h1 | ⟨i, hi, h1⟩
        · rw [h1] at q
          exact absurd q (t_neN (k := 260) (by omega) (by omega) (by omega))
        · rw [h1] at q
          exact absurd q (t_neN (by omega) (by omega) (by omega))
      | succ j =>
        have z := ih (k + 1) j (by simp only [List.length_cons] at hj; omega) hd2.2 (by omega) hl
        rw [show k + 1 + j = k + (j + 1) by omega] at z
        exact z
def al (x : Nat → Int32) : Nat → Int32 → Prop
  | 0, _ => True
  | m + 1, a => ((¬ x a.toNatClampNeg < 97) ∧ ¬ 122 < x a.toNatClampNeg) ∧ al x m (a + 1)
def pk (x : Nat → Int32) : Nat → Int32 → Int64 → Int64
  | 0, _, v => v
  | m + 1, a, v => pk x m (a + 1) ((v <<< ((8 : Int32).toInt64 &&& 63)) ||| (x a.toNatClampNeg).toInt64)
def dvv (x : Nat → Int32) : Nat → Int32 → Int → Int
  | 0, _, v => v
  | m + 1, a, v => dvv x m (a + 1) (v * 256 + (x a.toNatClampNeg).toInt)
def lvv : List Int32 → Int → Int
  | [], v => v
  | c :: l, v => lvv l (v * 256 + c.toInt)
def lts : List Int32 → Bool
  | [] => true
  | c :: l => decide (¬ c < 97) && (decide (¬ 122 < c) && lts l)
theorem lt_b {c : Int32} (h0 : ¬ c < 97) (h1 : ¬ 122 < c) : 97 ≤ c.toInt ∧ c.toInt ≤ 122 := by
  rw [Int32.lt_iff_toInt_lt] at h0 h1
  have e1 : (97 : Int32).toInt = 97 := by decide
  have e2 : (122 : Int32).toInt = 122 := by decide
  omega
theorem sh_or {v : Int64} {b : Int32} (v0 : 0 ≤ v.toInt) (v1 : v.toInt < 281474976710656) (b0 : 0 ≤ b.toInt) (b1 : b.toInt < 256) : ((v <<< ((8 : Int32).toInt64 &&& 63)) ||| b.toInt64).toInt = v.toInt * 256 + b.toInt := by
  have e8 : (8 : Int32).toInt64 &&& 63 = 8 := by decide
  rw [e8]
  have hv : v.toInt = (v.toBitVec.toNat : Int) := by
    have h1 := v.toBitVec.isLt
    show v.toBitVec.toInt = _
    rw [BitVec.toInt_eq_toNat_cond]
    have h2 : v.toBitVec.toInt = v.toInt := rfl
    rw [BitVec.toInt_eq_toNat_cond] at h2
    split
    · rfl
    · rw [if_neg (by assumption)] at h2
      omega
  have hb64 : b.toInt64.toInt = b.toInt := Int32.toInt_toInt64 b
  have hb : b.toInt64.toInt = (b.toInt64.toBitVec.toNat : Int) := by
    have h1 := b.toInt64.toBitVec.isLt
    show b.toInt64.toBitVec.toInt = _
    rw [BitVec.toInt_eq_toNat_cond]
    have h2 : b.toInt64.toBitVec.toInt = b.toInt64.toInt := rfl
    rw [BitVec.toInt_eq_toNat_cond] at h2
    split
    · rfl
    · rw [if_neg (by assumption)] at h2
      omega
  have hs : ((v <<< (8 : Int64)) ||| b.toInt64).toBitVec.toNat = v.toBitVec.toNat * 256 + b.toInt64.toBitVec.toNat := by
    rw [Int64.toBitVec_or, BitVec.toNat_or, Int64.toBitVec_shiftLeft]
    show (v.toBitVec <<< (8 : Nat)).toNat ||| _ = _
    rw [BitVec.toNat_shiftLeft, Nat.mod_eq_of_lt (by rw [Nat.shiftLeft_eq]; omega), ← Nat.shiftLeft_add_eq_or_of_lt (by omega), Nat.shiftLeft_eq]
  show ((v <<< (8 : Int64)) ||| b.toInt64).toBitVec.toInt = _
  rw [BitVec.toInt_eq_toNat_cond, hs, if_pos (by omega), hv, ← hb64, hb]
  omega
theorem p_moB (b : Int) (hb : 1 ≤ b) (m : Nat) : ∀ k : Nat, b ^ m ≤ b ^ (m + k) := by
  intro k
  induction k with
  | zero => exact Int.le_refl _
  | succ k ih =>
    rw [← Nat.add_assoc, Int.pow_succ]
    have h0 : 0 < b ^ (m + k) := Int.pow_pos (by omega)
    have h1 : b ^ (m + k) * 1 ≤ b ^ (m + k) * b := Int.mul_le_mul_of_nonneg_left hb (by omega)
    omega
theorem p_moC (b : Int) (hb : 1 ≤ b) {m n : Nat} (h : m ≤ n) : b ^ m ≤ b ^ n := by
  have q := p_moB b hb m (n - m)
  rw [Nat.add_sub_cancel' h] at q
  exact q
theorem p_s (m : Nat) : (256 : Int) ^ (m + 1) = 256 ^ m * 256 := Int.pow_succ 256 m
theorem p_pos (m : Nat) : 0 < (256 : Int) ^ m := Int.pow_pos (by decide)
theorem pk_dv {x : Nat → Int32} : ∀ (m : Nat) (a : Int32) (v : Int64), m ≤ 7 → 0 ≤ v.toInt → v.toInt < 256 ^ (7 - m) → al x m a → (pk x m a v).toInt = dvv x m a v.toInt := by
  intro m
  induction m with
  | zero => intro a v _ _ _ _; rfl
  | succ m ih =>
    intro a v hm v0 v1 ha
    obtain ⟨⟨b0, b1⟩, ha2⟩ := ha
    have hb := lt_b b0 b1
    have h48 : v.toInt < 281474976710656 := by
      have : (256 : Int) ^ (7 - (m + 1)) ≤ 256 ^ 6 := p_moC 256 (by decide) (by omega)
      have e : (256 : Int) ^ 6 = 281474976710656 := by decide
      omega
    have hs := sh_or (b := x a.toNatClampNeg) v0 h48 (by omega) (by omega)
    show (pk x m (a + 1) ((v <<< ((8 : Int32).toInt64 &&& 63)) ||| (x a.toNatClampNeg).toInt64)).toInt = dvv x m (a + 1) (v.toInt * 256 + (x a.toNatClampNeg).toInt)
    have hp : (256 : Int) ^ (7 - m) = 256 ^ (7 - (m + 1)) * 256 := by
      rw [show 7 - m = (7 - (m + 1)) + 1 by omega, p_s]
    rw [ih (a + 1) _ (by omega) (by rw [hs]; omega) (by rw [hs, hp]; omega) ha2, hs]
theorem dvv_b {x : Nat → Int32} : ∀ (m : Nat) (a : Int32) (v : Int), al x m a → v * 256 ^ m ≤ dvv x m a v ∧ dvv x m a v < (v + 1) * 256 ^ m := by
  intro m
  induction m with
  | zero => intro a v _; show v * 1 ≤ v ∧ v < (v + 1) * 1; omega
  | succ m ih =>
    intro a v ha
    obtain ⟨⟨b0, b1⟩, ha2⟩ := ha
    have hb := lt_b b0 b1
    obtain ⟨h1, h2⟩ := ih (a + 1) (v * 256 + (x a.toNatClampNeg).toInt) ha2
    show v * 256 ^ (m + 1) ≤ dvv x m (a + 1) (v * 256 + (x a.toNatClampNeg).toInt) ∧ dvv x m (a + 1) (v * 256 + (x a.toNatClampNeg).toInt) < (v + 1) * 256 ^ (m + 1)
    have hp := p_pos m
    rw [p_s]
    generalize (256 : Int) ^ m = P at *
    generalize (x a.toNatClampNeg).toInt = b at *
    have g1 : v * (P * 256) ≤ (v * 256 + b) * P := by
      have : (v * 256 + b) * P - v * (P * 256) = b * P := by grind
      have : 0 ≤ b * P := Int.mul_nonneg (by omega) (by omega)
      omega
    have g2 : (v * 256 + b + 1) * P ≤ (v + 1) * (P * 256) := by
      have : (v + 1) * (P * 256) - (v * 256 + b + 1) * P = (255 - b) * P := by grind
      have : 0 ≤ (255 - b) * P := Int.mul_nonneg (by omega) (by omega)
      omega
    omega
theorem lvv_b : ∀ (l : List Int32) (v : Int), lts l = true → v * 256 ^ l.length ≤ lvv l v ∧ lvv l v < (v + 1) * 256 ^ l.length := by
  intro l
  induction l with
  | nil => intro v _; show v * 1 ≤ v ∧ v < (v + 1) * 1; omega
  | cons c l ih =>
    intro v ha
    have ha2 : (¬ c < 97) ∧ (¬ 122 < c) ∧ lts l = true := by simpa only [lts, Bool.and_eq_true, decide_eq_true_eq] using ha
    have hb := lt_b ha2.1 ha2.2.1
    obtain ⟨h1, h2⟩ := ih (v * 256 + c.toInt) ha2.2.2
    show v * 256 ^ (l.length + 1) ≤ lvv l (v * 256 + c.toInt) ∧ lvv l (v * 256 + c.toInt) < (v + 1) * 256 ^ (l.length + 1)
    have hp := p_pos l.length
    rw [p_s]
    generalize (256 : Int) ^ l.length = P at *
    generalize c.toInt = b at *
    have g1 : v * (P * 256) ≤ (v * 256 + b) * P := by
      have : (v * 256 + b) * P - v * (P * 256) = b * P := by grind
      have : 0 ≤ b * P := Int.mul_nonneg (by omega) (by omega)
      omega
    have g2 : (v * 256 + b + 1) * P ≤ (v + 1) * (P * 256) := by
      have : (v + 1) * (P * 256) - (v * 256 + b + 1) * P = (255 - b) * P := by grind
      have : 0 ≤ (255 - b) * P := Int.mul_nonneg (by omega) (by omega)
      omega
    omega
def mtl (x : Nat → Int32) : List Int32 → Int32 → Prop
  | [], _ => True
  | c :: l, a => x a.toNatClampNeg = c ∧ mtl x l (a + 1)
theorem dv_inj {x : Nat → Int32} : ∀ (l : List Int32) (a : Int32) (v w : Int), al x l.length a → lts l = true → dvv x l.length a v = lvv l w → v = w ∧ mtl x l a := by
  intro l
  induction l with
  | nil => intro a v w _ _ h; exact ⟨h, trivial⟩
  | cons c l ih =>
    intro a v w ha hl h
    obtain ⟨⟨b0, b1⟩, ha2⟩ := ha
    have hb := lt_b b0 b1
    have hl2 : (¬ c < 97) ∧ (¬ 122 < c) ∧ lts l = true := by simpa only [lts, Bool.and_eq_true, decide_eq_true_eq] using hl
    have hc := lt_b hl2.1 hl2.2.1
    obtain ⟨e, r⟩ := ih (a + 1) (v * 256 + (x a.toNatClampNeg).toInt) (w * 256 + c.toInt) ha2 hl2.2.2 h
    exact ⟨by omega, Int32.toInt_inj.mp (by omega), r⟩
theorem mtl_dv {x : Nat → Int32} : ∀ (l : List Int32) (a : Int32) (v : Int), mtl x l a → dvv x l.length a v = lvv l v := by
  intro l
  induction l with
  | nil => intro a v _; rfl
  | cons c l ih =>
    intro a v h
    show dvv x l.length (a + 1) (v * 256 + (x a.toNatClampNeg).toInt) = lvv l (v * 256 + c.toInt)
    rw [h.1]
    exact ih (a + 1) _ h.2
theorem mtb_mtl {x : Nat → Int32} {s : Int32} : ∀ (l : List Int32) (a : Int32), ¬ s < a → (mtb x s l a = true ↔ (s.toInt - a.toInt).toNat = l.length ∧ mtl x l a) := by
  intro l
  induction l with
  | nil =>
    intro a h
    simp only [mtb, decide_eq_true_eq, List.length_nil, mtl, and_true]
    rw [Int32.lt_iff_toInt_lt] at h
    constructor
    · intro q; rw [q]; omega
    · intro q; exact Int32.toInt_inj.mp (by omega)
  | cons c l ih =>
    intro a h
    simp only [mtb, Bool.and_eq_true, decide_eq_true_eq, List.length_cons, mtl]
    by_cases g : s ≤ a
    · constructor
      · intro q; exact absurd g q.1
      · intro q
        rw [Int32.le_iff_toInt_le] at g
        exact absurd q.1 (by omega)
    · rw [ih (a + 1) (a_le g), m_next g]
      constructor
      · intro q; exact ⟨by omega, q.2.1, q.2.2.2⟩
      · intro q; exact ⟨g, q.2.1, by omega, q.2.2⟩
def tk (x : Nat → Int32) (T p : Int32) : Int32 := if T ≤ p then 258 else fX2_tokenOf x p (fX2_stopOf x T p)
def nx (x : Nat → Int32) (T p : Int32) : Int32 := sp x T (fX2_stopOf x T p)
theorem let_b {c : Int32} (h : ¬ fX2_isLetter c = 0) : (¬ c < 97) ∧ ¬ 122 < c := by
  unfold fX2_isLetter at h
  by_cases a : c < 97
  · rw [if_pos a] at h
    exact absurd rfl h
  · rw [if_neg a] at h
    by_cases b : 122 < c
    · rw [if_pos b] at h
      exact absurd rfl h
    · exact ⟨a, b⟩
theorem dig_b {c : Int32} (h : ¬ fX2_isDigit c = 0) : (¬ c < 48) ∧ ¬ 57 < c := by
  unfold fX2_isDigit at h
  by_cases a : c < 48
  · rw [if_pos a] at h
    exact absurd rfl h
  · rw [if_neg a] at h
    by_cases b : 57 < c
    · rw [if_pos b] at h
      exact absurd rfl h
    · exact ⟨a, b⟩
theorem dig_nl {c : Int32} (h : ¬ fX2_isDigit c = 0) : fX2_isLetter c = 0 := by
  obtain ⟨h1, h2⟩ := dig_b h
  unfold fX2_isLetter
  rw [if_pos (show c < 97 by grind)]
theorem so_l {x : Nat → Int32} {T p : Int32} (hp : ¬ T ≤ p) (hl : ¬ fX2_isLetter (x p.toNatClampNeg) = 0) : fX2_stopOf x T p = we x T p := by
  unfold fX2_stopOf
  simp only [bnd]
  rw [if_neg hl, we_eq (a := p), if_neg hp, if_neg hl]
  rfl
theorem so_d {x : Nat → Int32} {T p : Int32} (hp : ¬ T ≤ p) (hd : ¬ fX2_isDigit (x p.toNatClampNeg) = 0) : fX2_stopOf x T p = de x T p := by
  unfold fX2_stopOf
  simp only [bnd]
  rw [if_pos (dig_nl hd), if_neg hd, de_eq (a := p), if_neg hp, if_neg hd]
  rfl
theorem so_o {x : Nat → Int32} {T p : Int32} (hl : fX2_isLetter (x p.toNatClampNeg) = 0) (hd : fX2_isDigit (x p.toNatClampNeg) = 0) : fX2_stopOf x T p = if (x p.toNatClampNeg = 60 ∨ x p.toNatClampNeg = 62) ∧ (¬ T ≤ p + 1) ∧ x (p + 1).toNatClampNeg = 61 then p + 1 + 1 else p + 1 := by
  unfold fX2_stopOf
  simp only [bnd]
  rw [if_pos hl, if_pos hd]
  by_cases a : x p.toNatClampNeg = 60
  · rw [if_pos a]
    by_cases b : T ≤ p + 1
    · rw [if_pos b, if_neg (fun q => q.2.1 b)]
    · rw [if_neg b]
      by_cases c : x (p + 1).toNatClampNeg = 61
      · rw [if_pos c, if_pos ⟨Or.inl a, b, c⟩]
      · rw [if_neg c, if_neg (fun q => c q.2.2)]
  · rw [if_neg a]
    by_cases a2 : x p.toNatClampNeg = 62
    · rw [if_pos a2]
      by_cases b : T ≤ p + 1
      · rw [if_pos b, if_neg (fun q => q.2.1 b)]
      · rw [if_neg b]
        by_cases c : x (p + 1).toNatClampNeg = 61
        · rw [if_pos c, if_pos ⟨Or.inr a2, b, c⟩]
        · rw [if_neg c, if_neg (fun q => c q.2.2)]
    · rw [if_neg a2, if_neg (fun q => q.1.elim a a2)]
theorem so_in {x : Nat → Int32} {T p : Int32} (hp : ¬ T ≤ p) : p < fX2_stopOf x T p ∧ ¬ T < fX2_stopOf x T p := by
  have h1 := a_lt hp
  have h2 := a_le hp
  by_cases hl : fX2_isLetter (x p.toNatClampNeg) = 0
  · by_cases hd : fX2_isDigit (x p.toNatClampNeg) = 0
    · rw [so_o hl hd]
      split
      · rename_i q
        have h3 := a_lt q.2.1
        have h4 := a_le q.2.1
        exact ⟨by rw [Int32.lt_iff_toInt_lt] at *; omega, h4⟩
      · exact ⟨h1, h2⟩
    · rw [so_d hp hd, de_eq, if_neg hp, if_neg hd]
      obtain ⟨g1, g2⟩ := de_p (x := x) _ (p + 1) h2 (Nat.lt_succ_self _)
      exact ⟨i_trans3 h1 g1, g2⟩
  · rw [so_l hp hl, we_eq, if_neg hp, if_neg hl]
    obtain ⟨g1, g2⟩ := we_p (x := x) _ (p + 1) h2 (Nat.lt_succ_self _)
    exact ⟨i_trans3 h1 g1, g2⟩
theorem tk_l {x : Nat → Int32} {T p : Int32} (hp : ¬ T ≤ p) (hl : ¬ fX2_isLetter (x p.toNatClampNeg) = 0) : tk x T p = wtk x p (we x T p) WL 300 := by
  unfold tk fX2_tokenOf
  simp only [bnd]
  rw [if_neg hp, if_neg hl, so_l hp hl, w_tok]
theorem tk_d {x : Nat → Int32} {T p : Int32} (hp : ¬ T ≤ p) (hd : ¬ fX2_isDigit (x p.toNatClampNeg) = 0) : tk x T p = fX2_numberToken x p (de x T p) := by
  unfold tk fX2_tokenOf
  simp only [bnd]
  rw [if_neg hp, if_pos (dig_nl hd), if_neg hd, so_d hp hd]
theorem sub2 (p : Int32) : p + 1 + 1 - p = 2 := by
  have : p + 1 + 1 - p = 1 + 1 := by grind
  rw [this]
  decide
theorem sub1 (p : Int32) : ¬ p + 1 - p = 2 := by
  have : p + 1 - p = 1 := by grind
  rw [this]
  decide
theorem tk_o {x : Nat → Int32} {T p : Int32} (hp : ¬ T ≤ p) (hl : fX2_isLetter (x p.toNatClampNeg) = 0) (hd : fX2_isDigit (x p.toNatClampNeg) = 0) : tk x T p = if (x p.toNatClampNeg = 60 ∨ x p.toNatClampNeg = 62) ∧ (¬ T ≤ p + 1) ∧ x (p + 1).toNatClampNeg = 61 then (if x p.toNatClampNeg = 60 then 256 else 257) else x p.toNatClampNeg := by
  unfold tk fX2_tokenOf
  simp only [bnd]
  rw [if_neg hp, if_pos hl, if_pos hd, so_o hl hd]
  split
  · rw [if_pos (sub2 p)]
  · rw [if_neg (sub1 p)]
theorem w_sub {s p : Int32} (p0 : ¬ p < 0) (h : ¬ s < p) (s4 : ¬ 400 < s) : (s - p).toInt = s.toInt - p.toInt := by
  rw [Int32.lt_iff_toInt_lt] at p0 h s4
  have e : (400 : Int32).toInt = 400 := by decide
  rw [z_i0] at p0
  exact zsub (by omega) (by omega)
theorem lx_wL {x tF : Nat → Int32} {T p : Int32} (H : LXH x tF T) (p0 : ¬ p < 0) {E : Int32 → Int64 → Int32 × Int32} : ∀ (N : Nat) (a : Int32) (v : Int64), ¬ a < p → ¬ T < a → (T.toInt - a.toInt).toNat < N → ∃ v' : Int64, fl_mX11_isWord_10 T tF p E N (a - p) v = E (we x T a - p) v' ∧ (we x T a - p < 8 → v' = pk x ((we x T a).toInt - a.toInt).toNat a v ∧ al x ((we x T a).toInt - a.toInt).toNat a) := by
  intro N
  induction N with
  | zero => intro a v h1 h2 hn; exact absurd hn (Nat.not_lt_zero _)
  | succ N ih =>
    intro a v h1 h2 hn
    have a0 : ¬ a < 0 := by rw [Int32.lt_iff_toInt_lt] at *; omega
    show ∃ v' : Int64, fb_mX11_isWord_10 T tF p E (fl_mX11_isWord_10 T tF p E N) (a - p) v = _ ∧ _
    unfold fb_mX11_isWord_10
    rw [show p + (a - p) = a by grind, LXH_l H a0]
    by_cases b : T ≤ a
    · rw [if_pos b, if_pos rfl, we_eq, if_pos b]
      refine ⟨v, rfl, fun _ => ?_⟩
      rw [show (a.toInt - a.toInt).toNat = 0 by omega]
      exact ⟨rfl, trivial⟩
    · rw [if_neg b]
      by_cases c : fX2_isLetter (x a.toNatClampNeg) = 0
      · rw [if_pos c, we_eq, if_neg b, if_pos c]
        refine ⟨v, rfl, fun _ => ?_⟩
        rw [show (a.toInt - a.toInt).toNat = 0 by omega]
        exact ⟨rfl, trivial⟩
      · have hw : we x T a = we x T (a + 1) := by rw [we_eq, if_neg b, if_neg c]
        obtain ⟨g1, g2⟩ := we_p (x := x) _ (a + 1) (a_le b) (Nat.lt_succ_self _)
        have h3 := a_lt b
        have h4 : ¬ a + 1 < p := by rw [Int32.lt_iff_toInt_lt] at *; omega
        have hs4 : ¬ 400 < we x T (a + 1) := by have := H.2.1; rw [Int32.lt_iff_toInt_lt] at *; omega
        have hT4 := H.2.1
        have hss := w_sub p0 (show ¬ we x T (a + 1) < p by rw [Int32.lt_iff_toInt_lt] at *; omega) hs4
        have has := w_sub p0 h1 (show ¬ 400 < a by rw [Int32.lt_iff_toInt_lt] at *; omega)
        rw [if_neg c, hw]
        simp only [bnd]
        rw [show a - p + 1 = a + 1 - p by grind]
        by_cases e : 8 ≤ a - p
        · rw [if_pos e]
          obtain ⟨v', z1, z2⟩ := ih (a + 1) v h4 (a_le b) (n_sub b hn)
          refine ⟨v', z1, fun q => absurd q ?_⟩
          have e8 : (8 : Int32).toInt = 8 := by decide
          rw [Int32.le_iff_toInt_le, has, e8] at e
          rw [Int32.lt_iff_toInt_lt, hss, e8]
          rw [Int32.lt_iff_toInt_lt] at g1 h3
          omega
        · rw [if_neg e]
          obtain ⟨l1, l2⟩ := let_b c
          have hx : tF a.toNatClampNeg = x a.toNatClampNeg := (LXH_eq (c := x a.toNatClampNeg) H a0 b (by grind) (by grind)).mpr rfl
          rw [hx]
          obtain ⟨v', z1, z2⟩ := ih (a + 1) ((v <<< ((8 : Int32).toInt64 &&& 63)) ||| (x a.toNatClampNeg).toInt64) h4 (a_le b) (n_sub b hn)
          refine ⟨v', z1, fun q => ?_⟩
          obtain ⟨y1, y2⟩ := z2 q
          have hk : ((we x T (a + 1)).toInt - a.toInt).toNat = ((we x T (a + 1)).toInt - (a + 1).toInt).toNat + 1 := by
            have hT := z32 T
            rw [Int32.le_iff_toInt_le] at b
            rw [Int32.lt_iff_toInt_lt] at g1
            rw [zadd1 (by omega)] at g1 ⊢
            omega
          rw [hk]
          exact ⟨y1, ⟨l1, l2⟩, y2⟩
theorem dv_lo {x : Nat → Int32} {m : Nat} {a : Int32} (h : al x (m + 1) a) : (256 : Int) ^ m ≤ dvv x (m + 1) a 0 := by
  obtain ⟨⟨b0, b1⟩, ha2⟩ := h
  have hb := lt_b b0 b1
  have z := (dvv_b m (a + 1) (0 * 256 + (x a.toNatClampNeg).toInt) ha2).1
  have hp := p_pos m
  show (256 : Int) ^ m ≤ dvv x m (a + 1) (0 * 256 + (x a.toNatClampNeg).toInt)
  generalize (x a.toNatClampNeg).toInt = b at *
  have : (256 : Int) ^ m * 1 ≤ (256 : Int) ^ m * (0 * 256 + b) := Int.mul_le_mul_of_nonneg_left (by omega) (by omega)
  have : (0 * 256 + b) * (256 : Int) ^ m = (256 : Int) ^ m * (0 * 256 + b) := Int.mul_comm _ _
  omega
theorem lv_lo {c : Int32} {l : List Int32} (h : lts (c :: l) = true) : (256 : Int) ^ l.length ≤ lvv (c :: l) 0 := by
  have ha2 : (¬ c < 97) ∧ (¬ 122 < c) ∧ lts l = true := by simpa only [lts, Bool.and_eq_true, decide_eq_true_eq] using h
  have hb := lt_b ha2.1 ha2.2.1
  have z := (lvv_b l (0 * 256 + c.toInt) ha2.2.2).1
  have hp := p_pos l.length
  show (256 : Int) ^ l.length ≤ lvv l (0 * 256 + c.toInt)
  generalize c.toInt = b at *
  have : (256 : Int) ^ l.length * 1 ≤ (256 : Int) ^ l.length * (0 * 256 + b) := Int.mul_le_mul_of_nonneg_left (by omega) (by omega)
  have : (0 * 256 + b) * (256 : Int) ^ l.length = (256 : Int) ^ l.length * (0 * 256 + b) := Int.mul_comm _ _
  omega
theorem p_mono {m n : Nat} (h : m ≤ n) : (256 : Int) ^ m ≤ 256 ^ n := p_moC 256 (by decide) h
theorem dv_len {x : Nat → Int32} {l : List Int32} {n : Nat} {a : Int32} (h : al x n a) (hl : lts l = true) (h1 : 0 < n) (h2 : 0 < l.length) (e : dvv x n a 0 = lvv l 0) : n = l.length := by
  cases n with
  | zero => exact absurd h1 (Nat.lt_irrefl _)
  | succ n =>
    cases l with
    | nil => exact absurd h2 (Nat.lt_irrefl _)
    | cons c l =>
      have d1 := dv_lo h
      have d2 := (dvv_b (n + 1) a 0 h).2
      have d3 := lv_lo hl
      have d4 := (lvv_b (c :: l) 0 hl).2
      simp only [List.length_cons] at d4 ⊢
      rcases Nat.lt_trichotomy n l.length with q | q | q
      · have := p_mono (show n + 1 ≤ l.length by omega)
        omega
      · omega
      · have := p_mono (show l.length + 1 ≤ n by omega)
        omega
theorem lx_word {x tF : Nat → Int32} {T a : Int32} (H : LXH x tF T) (a0 : ¬ a < 0) (aT : ¬ T < a) (cs : List Int32) (W : Int64) (hW : W.toInt = lvv cs 0) (hl : lts cs = true) (h1 : 0 < cs.length) (h7 : cs.length < 8) : fX11_isWord T a tF W = (sp x T a, if mtb x (we x T (sp x T a)) cs (sp x T a) = true then 1 else 0) := by
  obtain ⟨q1, q2, q3, q4⟩ := sp_in (x := x) a0 aT
  unfold fX11_isWord
  simp only [bnd, lx_see H a0 aT]
  generalize sp x T a = p at *
  have hf : (T.toInt - p.toInt).toNat < (T.toInt - (0 : Int32).toInt).toNat + 1 := by
    rw [Int32.lt_iff_toInt_lt] at q3
    omega
  obtain ⟨v', z1, z2⟩ := lx_wL H q3 (E := fun (w56_0_0 : Int32) (w56_1_0 : Int64) => if w56_0_0 ≤ 0 then (p, 0) else (if 8 ≤ w56_0_0 then (p, 0) else (if (lg_cmp w56_1_0 W) = 0 then (p, 1) else (p, 0)))) _ p 0 i_irr q2 hf
  rw [Int32.sub_self] at z1
  rw [z1]
  obtain ⟨g1, g2⟩ := we_p (x := x) _ p q2 (Nat.lt_succ_self _)
  have hT4 := H.2.1
  have hs := w_sub q3 g1 (show ¬ 400 < we x T p by rw [Int32.lt_iff_toInt_lt] at *; omega)
  have hm := mtb_mtl (x := x) (s := we x T p) cs p g1
  generalize we x T p = s at *
  have e8 : (8 : Int32).toInt = 8 := by decide
  by_cases c0 : s - p ≤ 0
  · rw [if_pos c0, if_neg (fun q => by
      have := (hm.mp q).1
      rw [Int32.le_iff_toInt_le, hs, z_i0] at c0
      omega)]
  · rw [if_neg c0]
    by_cases c8 : 8 ≤ s - p
    · rw [if_pos c8, if_neg (fun q => by
        have := (hm.mp q).1
        rw [Int32.le_iff_toInt_le, hs, e8] at c8
        omega)]
    · rw [if_neg c8]
      rw [Int32.le_iff_toInt_le, hs, z_i0] at c0
      rw [Int32.le_iff_toInt_le, hs, e8] at c8
      obtain ⟨y1, y2⟩ := z2 (by rw [Int32.lt_iff_toInt_lt, hs, e8]; omega)
      have hv : v'.toInt = dvv x (s.toInt - p.toInt).toNat p 0 := by
        rw [y1]
        exact pk_dv _ p 0 (by omega) (by decide) (by have := p_pos (7 - (s.toInt - p.toInt).toNat); have e0 : (0 : Int64).toInt = 0 := by decide
                                                     omega) y2
      by_cases m : mtb x s cs p = true
      · obtain ⟨m1, m2⟩ := hm.mp m
        rw [if_pos m, if_pos ((lg_cmp_eq _ _).mpr (Int64.toInt_inj.mp (by rw [hv, hW, m1]; exact mtl_dv cs p 0 m2)))]
      · rw [if_neg m, if_neg (fun q => m (hm.mpr (by
          have e := (lg_cmp_eq _ _).mp q
          rw [e, hW] at hv
          have hn := dv_len y2 hl (by omega) h1 hv.symm
          refine ⟨hn, ?_⟩
          rw [hn] at hv y2
          exact (dv_inj cs p 0 0 y2 hl hv.symm).2)))]
def nv (x : Nat → Int32) : Nat → Int32 → Int32 → Int32
  | 0, _, v => v
  | m + 1, a, v => nv x m (a + 1) ((v * 10) + (x a.toNatClampNeg - 48))
def ad (x : Nat → Int32) : Nat → Int32 → Prop
  | 0, _ => True
  | m + 1, a => ((¬ x a.toNatClampNeg < 48) ∧ ¬ 57 < x a.toNatClampNeg) ∧ ad x m (a + 1)
theorem nv_b {x : Nat → Int32} : ∀ (m : Nat) (a v : Int32), m ≤ 5 → 0 ≤ v.toInt → v.toInt < 10 ^ (5 - m) → ad x m a → 0 ≤ (nv x m a v).toInt ∧ (nv x m a v).toInt < 100000 := by
  intro m
  induction m with
  | zero =>
    intro a v _ v0 v1 _
    have e : (10 : Int) ^ (5 - 0) = 100000 := by decide
    exact ⟨v0, by show v.toInt < 100000; omega⟩
  | succ m ih =>
    intro a v hm v0 v1 ha
    obtain ⟨⟨b0, b1⟩, ha2⟩ := ha
    rw [Int32.lt_iff_toInt_lt] at b0 b1
    have e48 : (48 : Int32).toInt = 48 := by decide
    have e57 : (57 : Int32).toInt = 57 := by decide
    have e10 : (10 : Int32).toInt = 10 := by decide
    rw [e48] at b0
    rw [e57] at b1
    have hp : (10 : Int) ^ (5 - m) = 10 ^ (5 - (m + 1)) * 10 := by
      rw [show 5 - m = (5 - (m + 1)) + 1 by omega]
      exact Int.pow_succ 10 _
    have hq : (10 : Int) ^ (5 - (m + 1)) ≤ 10 ^ 4 := p_moC 10 (by decide) (by omega)
    have e4 : (10 : Int) ^ 4 = 10000 := by decide
    have s1 : (x a.toNatClampNeg - 48).toInt = (x a.toNatClampNeg).toInt - 48 := by rw [zsub (by rw [e48]; omega) (by rw [e48]; omega), e48]
    have s2 : (v * 10).toInt = v.toInt * 10 := by rw [zmul (by rw [e10]; omega) (by rw [e10]; omega), e10]
    have s3 : ((v * 10) + (x a.toNatClampNeg - 48)).toInt = v.toInt * 10 + ((x a.toNatClampNeg).toInt - 48) := by rw [zadd (by rw [s1, s2]; omega) (by rw [s1, s2]; omega), s1, s2]
    exact ih (a + 1) _ (by omega) (by rw [s3]; omega) (by rw [s3, hp]; omega) ha2
theorem nt_L {x : Nat → Int32} {s : Int32} : ∀ (N : Nat) (a v : Int32), ¬ s < a → (s.toInt - a.toInt).toNat < N → fl_mX2_numberToken_16 x s (fun _ w => 1000 + w) N a v = 1000 + nv x (s.toInt - a.toInt).toNat a v := by
  intro N
  induction N with
  | zero => intro a v h hn; exact absurd hn (Nat.not_lt_zero _)
  | succ N ih =>
    intro a v h hn
    show fb_mX2_numberToken_16 x s (fun _ w => 1000 + w) (fl_mX2_numberToken_16 x s (fun _ w => 1000 + w) N) a v = _
    unfold fb_mX2_numberToken_16
    simp only [bnd]
    by_cases b : s ≤ a
    · rw [if_pos b]
      rw [Int32.le_iff_toInt_le] at b
      rw [show (s.toInt - a.toInt).toNat = 0 by omega]
      rfl
    · rw [if_neg b, m_next b, ih (a + 1) _ (a_le b) (n_sub b hn)]
      rfl
theorem nh_L {x tF : Nat → Int32} {T p : Int32} (H : LXH x tF T) (p0 : ¬ p < 0) {E : Int32 → Int32 → Int32 × Int32 × Int32 × Int32} : ∀ (N : Nat) (a v : Int32), ¬ a < p → ¬ T < a → (T.toInt - a.toInt).toNat < N → ∃ v' : Int32, fl_mX11_numberHere_34 T tF p E N a v = E (de x T a) v' ∧ (de x T a - p ≤ 5 → v' = nv x ((de x T a).toInt - a.toInt).toNat a v ∧ ad x ((de x T a).toInt - a.toInt).toNat a) := by
  intro N
  induction N with
  | zero => intro a v h1 h2 hn; exact absurd hn (Nat.not_lt_zero _)
  | succ N ih =>
    intro a v h1 h2 hn
    have a0 : ¬ a < 0 := by rw [Int32.lt_iff_toInt_lt] at *; omega
    show ∃ v' : Int32, fb_mX11_numberHere_34 T tF p E (fl_mX11_numberHere_34 T tF p E N) a v = _ ∧ _
    unfold fb_mX11_numberHere_34
    rw [LXH_d H a0]
    by_cases b : T ≤ a
    · rw [if_pos b, if_pos rfl, de_eq, if_pos b]
      refine ⟨v, rfl, fun _ => ?_⟩
      rw [show (a.toInt - a.toInt).toNat = 0 by omega]
      exact ⟨rfl, trivial⟩
    · rw [if_neg b]
      by_cases c : fX2_isDigit (x a.toNatClampNeg) = 0
      · rw [if_pos c, de_eq, if_neg b, if_pos c]
        refine ⟨v, rfl, fun _ => ?_⟩
        rw [show (a.toInt - a.toInt).toNat = 0 by omega]
        exact ⟨rfl, trivial⟩
      · have hw : de x T a = de x T (a + 1) := by rw [de_eq, if_neg b, if_neg c]
        obtain ⟨g1, g2⟩ := de_p (x := x) _ (a + 1) (a_le b) (Nat.lt_succ_self _)
        have h3 := a_lt b
        have h4 : ¬ a + 1 < p := by rw [Int32.lt_iff_toInt_lt] at *; omega
        have hT4 := H.2.1
        have hs4 : ¬ 400 < de x T (a + 1) := by rw [Int32.lt_iff_toInt_lt] at *; omega
        have hss := w_sub p0 (show ¬ de x T (a + 1) < p by rw [Int32.lt_iff_toInt_lt] at *; omega) hs4
        have has := w_sub p0 h1 (show ¬ 400 < a by rw [Int32.lt_iff_toInt_lt] at *; omega)
        rw [if_neg c, hw]
        simp only [bnd]
        by_cases e : 5 ≤ a - p
        · rw [if_pos e]
          obtain ⟨v', z1, z2⟩ := ih (a + 1) v h4 (a_le b) (n_sub b hn)
          refine ⟨v', z1, fun q => absurd q ?_⟩
          have e5 : (5 : Int32).toInt = 5 := by decide
          rw [Int32.le_iff_toInt_le, has, e5] at e
          rw [Int32.le_iff_toInt_le, hss, e5]
          rw [Int32.lt_iff_toInt_lt] at g1 h3
          omega
        · rw [if_neg e]
          obtain ⟨l1, l2⟩ := dig_b c
          have hx : tF a.toNatClampNeg = x a.toNatClampNeg := (LXH_eq (c := x a.toNatClampNeg) H a0 b (by grind) (by grind)).mpr rfl
          rw [hx, show ((10 * v) + x a.toNatClampNeg) - 48 = (v * 10) + (x a.toNatClampNeg - 48) by grind]
          obtain ⟨v', z1, z2⟩ := ih (a + 1) ((v * 10) + (x a.toNatClampNeg - 48)) h4 (a_le b) (n_sub b hn)
          refine ⟨v', z1, fun q => ?_⟩
          obtain ⟨y1, y2⟩ := z2 q
          have hk : ((de x T (a + 1)).toInt - a.toInt).toNat = ((de x T (a + 1)).toInt - (a + 1).toInt).toNat + 1 := by
            have hT := z32 T
            rw [Int32.le_iff_toInt_le] at b
            rw [Int32.lt_iff_toInt_lt] at g1
            rw [zadd1 (by omega)] at g1 ⊢
            omega
          rw [hk]
          exact ⟨y1, ⟨l1, l2⟩, y2⟩
