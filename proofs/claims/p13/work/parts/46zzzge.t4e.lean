set_option maxHeartbeats 400000 in
theorem CS_eb {V F S V2 F2 S2 : Int} {jF oF fS fM fE gF tF so s1 s2 t1 t2 jG oG gS gM gE gG tG sG r1 r2 z1 z2 : Nat → Int32} (hV : V ≤ V2) (hF : F ≤ F2) (hS : S ≤ S2) (hj : ∀ i : Nat, (i : Int) < V → jG i = jF i ∧ oG i = oF i) (hf : ∀ i : Nat, (i : Int) < F → gS i = fS i ∧ gM i = fM i ∧ gE i = fE i ∧ gG i = gF i) (ht : ∀ i : Nat, (i : Int) < S → tG i = tF i) : ∀ (l : List (Int32 × Int32 × List (Int32 × Int32) × Option (List (Int32 × List (Int32 × Int32) × List (Int32 × Int32))))) (c : Nat), CS V F S jF oF fS fM fE gF tF so s1 s2 t1 t2 c l → (∀ i, i < c + ncl l → sG i = so i ∧ r1 i = s1 i ∧ r2 i = s2 i ∧ z1 i = t1 i ∧ z2 i = t2 i) → CS V2 F2 S2 jG oG gS gM gE gG tG sG r1 r2 z1 z2 c l
  | [], _, _, _ => trivial
  | q :: l, c, h, e => by
    unfold CS at h ⊢
    unfold ncl at e
    by_cases q4 : q.1 = 4
    · rw [if_pos q4] at h e ⊢
      exact CS_eb hV hF hS hj hf ht l c h (fun i hi => e i (by omega))
    · rw [if_neg q4] at h e ⊢
      obtain ⟨⟨b1, b2, b3, b4, b5, b6, b7, b8, b9, b10, b11⟩, h2⟩ := h
      obtain ⟨e1, e2, e3, e4, e5⟩ := e c (by omega)
      rw [e1, e2, e3, e4, e5]
      have n1 := tn_eq b2
      have n2 := tn_eq b6
      exact ⟨⟨b1, b2, b3, by omega, LA_eb _ _ b5 (fun i hi => hj i (by omega)), b6, b7, by omega, TS_eb hV hF hj hf _ _ b9 (fun i hi => ht i (by omega)), b10, b11⟩, CS_eb hV hF hS hj hf ht l (c + 1) h2 (fun i hi => e i (by omega))⟩
set_option maxHeartbeats 400000 in
theorem CS_app {V F S : Int} {jF oF fS fM fE gF tF so s1 s2 t1 t2 : Nat → Int32} {q : (Int32 × Int32 × List (Int32 × Int32) × Option (List (Int32 × List (Int32 × Int32) × List (Int32 × Int32))))} {l : List (Int32 × Int32 × List (Int32 × Int32) × Option (List (Int32 × List (Int32 × Int32) × List (Int32 × Int32))))} {c : Nat} (h : CS V F S jF oF fS fM fE gF tF so s1 s2 t1 t2 c [q]) (h2 : CS V F S jF oF fS fM fE gF tF so s1 s2 t1 t2 (c + ncl [q]) l) : CS V F S jF oF fS fM fE gF tF so s1 s2 t1 t2 c (q :: l) := by
  unfold CS at h ⊢
  unfold ncl at h2
  by_cases q4 : q.1 = 4
  · rw [if_pos q4] at h2 ⊢
    exact h2
  · rw [if_neg q4] at h h2 ⊢
    exact ⟨h.1, h2⟩
def chn : Int32 → List (Int32 × Int32 × List (Int32 × Int32) × Option (List (Int32 × List (Int32 × Int32) × List (Int32 × Int32)))) → Int32
  | c, [] => c
  | c, q :: l => chn (if q.1 = 4 then q.2.1 else c) l
def CLC (n n2 yc yl yv yf ys : Int32) (so s1 s2 t1 t2 yj yo y1 y2 y3 y4 y5 : Nat → Int32) (q : (Int32 × Int32 × List (Int32 × Int32) × Option (List (Int32 × List (Int32 × Int32) × List (Int32 × Int32))))) (u : Int32 × Int32 × Int32 × Int32 × Int32 × Int32 × Int32 × Int32 × Int32 × (Nat → Int32) × (Nat → Int32) × (Nat → Int32) × (Nat → Int32) × (Nat → Int32) × (Nat → Int32) × (Nat → Int32) × (Nat → Int32) × (Nat → Int32) × (Nat → Int32) × (Nat → Int32) × (Nat → Int32) × Int32) : Prop := u.2.2.2.2.1 = (if q.1 = 4 then q.2.1 else yc) ∧ u.2.2.2.2.2.1.toInt = yl.toInt + ncl [q] ∧ yv.toInt ≤ u.2.2.2.2.2.2.1.toInt ∧ u.2.2.2.2.2.2.1.toInt ≤ n2.toInt ∧ yf.toInt ≤ u.2.2.2.2.2.2.2.1.toInt ∧ 3 * (u.2.2.2.2.2.2.2.1.toInt - yf.toInt) ≤ n2.toInt - n.toInt ∧ ys.toInt ≤ u.2.2.2.2.2.2.2.2.1.toInt ∧ u.2.2.2.2.2.2.2.2.1.toInt - ys.toInt ≤ 12 * (u.2.2.2.2.2.2.2.1.toInt - yf.toInt) ∧ EB u.2.2.2.2.2.2.2.2.2.1 so yl.toNatClampNeg ∧ EB u.2.2.2.2.2.2.2.2.2.2.1 s1 yl.toNatClampNeg ∧ EB u.2.2.2.2.2.2.2.2.2.2.2.1 s2 yl.toNatClampNeg ∧ EB u.2.2.2.2.2.2.2.2.2.2.2.2.1 t1 yl.toNatClampNeg ∧ EB u.2.2.2.2.2.2.2.2.2.2.2.2.2.1 t2 yl.toNatClampNeg ∧ EB u.2.2.2.2.2.2.2.2.2.2.2.2.2.2.1 yj yv.toNatClampNeg ∧ EB u.2.2.2.2.2.2.2.2.2.2.2.2.2.2.2.1 yo yv.toNatClampNeg ∧ EB u.2.2.2.2.2.2.2.2.2.2.2.2.2.2.2.2.1 y1 yf.toNatClampNeg ∧ EB u.2.2.2.2.2.2.2.2.2.2.2.2.2.2.2.2.2.1 y2 yf.toNatClampNeg ∧ EB u.2.2.2.2.2.2.2.2.2.2.2.2.2.2.2.2.2.2.1 y3 yf.toNatClampNeg ∧ EB u.2.2.2.2.2.2.2.2.2.2.2.2.2.2.2.2.2.2.2.1 y4 yf.toNatClampNeg ∧ EB u.2.2.2.2.2.2.2.2.2.2.2.2.2.2.2.2.2.2.2.2.1 y5 ys.toNatClampNeg ∧ CS u.2.2.2.2.2.2.1.toInt u.2.2.2.2.2.2.2.1.toInt u.2.2.2.2.2.2.2.2.1.toInt u.2.2.2.2.2.2.2.2.2.2.2.2.2.2.1 u.2.2.2.2.2.2.2.2.2.2.2.2.2.2.2.1 u.2.2.2.2.2.2.2.2.2.2.2.2.2.2.2.2.1 u.2.2.2.2.2.2.2.2.2.2.2.2.2.2.2.2.2.1 u.2.2.2.2.2.2.2.2.2.2.2.2.2.2.2.2.2.2.1 u.2.2.2.2.2.2.2.2.2.2.2.2.2.2.2.2.2.2.2.1 u.2.2.2.2.2.2.2.2.2.2.2.2.2.2.2.2.2.2.2.2.1 u.2.2.2.2.2.2.2.2.2.1 u.2.2.2.2.2.2.2.2.2.2.1 u.2.2.2.2.2.2.2.2.2.2.2.1 u.2.2.2.2.2.2.2.2.2.2.2.2.1 u.2.2.2.2.2.2.2.2.2.2.2.2.2.1 yl.toNatClampNeg [q]
set_option maxHeartbeats 400000 in
theorem begin_x {so s1 : Nat → Int32} {yl yv s : Int32} (h : yl.toInt < 12) : fX1_beginClause so s1 yl yv s = (yl + 1, upd so yl.toNatClampNeg s, upd s1 yl.toNatClampNeg yv) := by
  unfold fX1_beginClause
  rw [if_neg (show ¬ (12 : Int32) ≤ yl by rw [Int32.le_iff_toInt_le, show (12 : Int32).toInt = 12 from by decide]; omega)]
  rfl
set_option maxHeartbeats 400000 in
theorem sub1_x {yl : Int32} : yl + 1 - 1 = yl := by simp
set_option maxHeartbeats 400000 in
theorem endSum_x {s2 t1 t2 : Nat → Int32} {yl yv ys : Int32} (h0 : 0 ≤ yl.toInt) (h : yl.toInt < 12) : fX1_endSum s2 t1 t2 (yl + 1) yv ys = (upd s2 yl.toNatClampNeg yv, upd t1 yl.toNatClampNeg ys, upd t2 yl.toNatClampNeg ys) := by
  unfold fX1_endSum
  simp only [bnd, sub1_x]
  rw [if_neg (z_nlt0 h0), if_neg (show ¬ (12 : Int32) ≤ yl by rw [Int32.le_iff_toInt_le, show (12 : Int32).toInt = 12 from by decide]; omega)]
set_option maxHeartbeats 400000 in
theorem endTest_x {t2 : Nat → Int32} {yl ys : Int32} (h0 : 0 ≤ yl.toInt) (h : yl.toInt < 12) : fX1_endTest t2 (yl + 1) ys = upd t2 yl.toNatClampNeg ys := by
  unfold fX1_endTest
  simp only [bnd, sub1_x]
  rw [if_neg (z_nlt0 h0), if_neg (show ¬ (12 : Int32) ≤ yl by rw [Int32.le_iff_toInt_le, show (12 : Int32).toInt = 12 from by decide]; omega)]
set_option maxHeartbeats 400000 in
theorem c_chainC {tk nx : Int32 → Int32} {tc : Int32} {tf pf : Nat → Int32} (h : CH tk nx tc tf pf) {k f n y p : Int32} {w : Int32 × Int32 × Int32 × (Int32 × Int32 × List (Int32 × Int32) × Option (List (Int32 × List (Int32 × Int32) × List (Int32 × Int32))))} (k0 : ¬ k < 0) (k1 : k < tc) (e : pf k.toNatClampNeg = p) (he : sch tk nx p n = .ok w) : (fX2_readChain tc k f tf pf y).2.2.2.1 = w.2.2.2.2.1 ∧ w.2.2.2.1 = 4 ∧ w.2.1 = n := by
  unfold fX2_readChain
  simp only [bnd, CH_tok h k0 k1, CH_ref h k0 k1, e]
  have key : snm tk nx p n = .ok w → (if tk p - 1000 < 0 then ((k, flt p 1, 1, y, 0) : Int32 × Int32 × Int32 × Int32 × Int32) else if tk p - 1000 ≤ 10 then (k + 1, f, 1, tk p - 1000, 1) else (k, flt p 1, 1, y, 0)).2.2.2.1 = w.2.2.2.2.1 ∧ w.2.2.2.1 = 4 ∧ w.2.1 = n := by
    intro he
    unfold snm at he
    by_cases a : tk p - 1000 < 0
    · rw [if_pos a] at he; cases he
    · rw [if_neg a] at he ⊢
      by_cases b : tk p - 1000 ≤ 10
      · rw [if_pos b] at he ⊢
        cases he
        exact ⟨rfl, rfl, rfl⟩
      · rw [if_neg b] at he; cases he
  unfold sch at he
  by_cases a : tk p = 259
  · rw [if_pos a] at he ⊢
    exact key he
  · rw [if_neg a] at he ⊢
    by_cases b : (1000 : Int32) ≤ tk p
    · rw [if_pos b] at he ⊢
      exact key he
    · rw [if_neg b] at he; cases he
set_option maxHeartbeats 400000 in
theorem c_clauseC {tk nx : Int32 → Int32} {tc : Int32} {tf pf : Nat → Int32} (h : CH tk nx tc tf pf) (htk : TKH tk nx) : ∀ (k f n ch : Int32) (so s1 s2 t1 t2 yj yo y1 y2 y3 y4 y5 : Nat → Int32) (yc yl yv yf ys num : Int32) (w : Int32 × Int32 × Int32 × (Int32 × Int32 × List (Int32 × Int32) × Option (List (Int32 × List (Int32 × Int32) × List (Int32 × Int32))))), ¬ k < 0 → k < tc → ¬ n < 0 → ¬ 60 < n → 0 ≤ yl.toInt → yl.toInt ≤ num.toInt → 0 ≤ yv.toInt → yv.toInt ≤ n.toInt → 0 ≤ yf.toInt → 3 * yf.toInt ≤ n.toInt → 0 ≤ ys.toInt → ys.toInt ≤ 12 * yf.toInt → scl tk nx num ch (pf k.toNatClampNeg) n = .ok w → CLC n w.2.1 yc yl yv yf ys so s1 s2 t1 t2 yj yo y1 y2 y3 y4 y5 w.2.2.2 (fX2_readClause tc k f n ch tf pf so s1 s2 t1 t2 yj yo y1 y2 y3 y4 y5 yc yl yv yf ys num) := by
  intro k f n ch so s1 s2 t1 t2 yj yo y1 y2 y3 y4 y5 yc yl yv yf ys num w k0 k1 n0 n6 l0 l1 v0 v1 f0 f1 z0 z1 he
  unfold fX2_readClause
  simp only [bnd, CH_tok h k0 k1, CH_ref h k0 k1]
  unfold scl at he
  by_cases a : tk (pf k.toNatClampNeg) - 311 < 0
  · rw [if_pos a] at he; cases he
  · rw [if_neg a] at he ⊢
    by_cases b : tk (pf k.toNatClampNeg) - 311 ≤ 4
    · rw [if_pos b] at he ⊢
      obtain ⟨b0, b1, b2⟩ := CH_nx h k0 k1 rfl (fun q => absurd (show (258 : Int32) - 311 < 0 by decide) (q ▸ a))
      by_cases c : (12 : Int32) ≤ num
      · rw [if_pos c] at he; cases he
      · rw [if_neg c] at he ⊢
        have hnum : num.toInt < 12 := by
          rw [Int32.le_iff_toInt_le, show (12 : Int32).toInt = 12 from by decide] at c; omega
        by_cases s : tk (pf k.toNatClampNeg) - 311 = 4
        · simp only [if_pos s] at he ⊢
          by_cases g : ch = 0
          · rw [if_pos g] at he ⊢
            obtain ⟨r1, r2, r3⟩ := c_chainC (f := f) (y := yc) h b0 b1 b2 he
            refine ⟨?_, ?_, Int.le_refl _, by rw [r3]; exact v1, Int.le_refl _, by rw [r3]; show 3 * (yf.toInt - yf.toInt) ≤ _; omega, Int.le_refl _, by show ys.toInt - ys.toInt ≤ 12 * (yf.toInt - yf.toInt); omega, EB_rf, EB_rf, EB_rf, EB_rf, EB_rf, EB_rf, EB_rf, EB_rf, EB_rf, EB_rf, EB_rf, EB_rf, ?_⟩
            · rw [if_pos r2]; exact r1
            · show yl.toInt = yl.toInt + ncl [w.2.2.2]
              unfold ncl
              rw [if_pos r2]
              show yl.toInt = yl.toInt + ((0 + 0 : Nat) : Int)
              omega
            · unfold CS
              rw [if_pos r2]
              trivial
          · rw [if_neg g] at he; cases he
        · simp only [if_neg s] at he ⊢
          unfold sbd at he
          obtain ⟨x, hx, he⟩ := exb_inv he
          have hs := c_sum (f := f) (yv := yv) (yj := yj) (yo := yo) h b0 b1 n0 n6
          have hc := c_sumC (f := f) (yj := yj) (yo := yo) h b0 b1 v0 v1 (by rw [b2]; exact hx)
          rw [b2, hx] at hs
          have hl := ssum_l htk _ _ _ _ _ (by rw [← b2]; exact (h.2 _ b0 b1).2.1) hx
          generalize fX2_readSum tc (k + 1) f n tf pf yj yo yv = u at hs hc ⊢
          obtain ⟨c1, c2, c3, c4, c5, c6, c7, c8⟩ := hs
          obtain ⟨d1, d2, d3, d4⟩ := hc
          rw [begin_x (by omega)]
          rw [if_neg (show ¬ u.2.2.2.2.2.2 = 0 by rw [c8]; decide), CH_tok h c1 c2, c3, endSum_x l0 (by omega)]
          have e1 := tn_eq v0
          have e2 := tn_eq l0
          have e3 := tn_eq f0
          have e4 := tn_eq z0
          have l9 : (yl + 1).toInt = yl.toInt + 1 := zadd1 (by omega)
          have nc : ∀ T, ncl [(tk (pf k.toNatClampNeg) - 311, (0 : Int32), x.2.2, T)] = 1 := by
            intro T
            unfold ncl
            rw [if_neg s]
            rfl
          by_cases t : tk x.1 = 316
          · rw [if_pos t] at he ⊢
            obtain ⟨y, hy, he⟩ := exb_inv he
            cases he
            obtain ⟨g0, g1, g2⟩ := CH_nx h c1 c2 c3 (fun q => absurd (t.symm.trans q) (by decide))
            obtain ⟨⟨q1, q2, q3, q4⟩, _⟩ := sT_l htk 10 _ _ _ (by rw [← g2]; exact (h.2 _ g0 g1).2.1) hy
            have hsteps : ys.toInt + y.2.2.length ≤ 12 * (yf.toInt + nfa y.2.2) := by omega
            have htt := c_test_0 h (u.1 + 1) u.2.1 u.2.2.1 u.2.2.2.2.1 u.2.2.2.2.2.1 y1 y2 y3 y4 y5 u.2.2.2.1 yf ys g0 g1 (by rw [c5, Int32.lt_iff_toInt_lt, z_i0]; omega) (by rw [c5]; exact c7)
            have hn60 : y.2.1.toInt ≤ 60 := by
              have := htt
              rw [g2, c5, show sT tk nx 10 (nx x.1) x.2.1 = .ok y from hy] at this
              have := this.2.2.2.2.2.2.1
              rw [Int32.lt_iff_toInt_lt, show (60 : Int32).toInt = 60 from by decide] at this
              omega
            have hp : PRE x.2.1 u.2.2.2.1 yf ys y.2.2 := ⟨by omega, by omega, f0, by omega, z0, by omega⟩
            have hcc := c_testC_0 h htk (u.1 + 1) u.2.1 u.2.2.1 u.2.2.2.2.1 u.2.2.2.2.2.1 y1 y2 y3 y4 y5 u.2.2.2.1 yf ys y g0 g1 (by rw [c5, Int32.lt_iff_toInt_lt, z_i0]; omega) (by rw [c5]; exact c7) (by rw [g2, c5]; exact hy) (by rw [c5]; exact hp)
            rw [g2, c5] at htt
            rw [show sT tk nx 10 (nx x.1) x.2.1 = .ok y from hy] at htt
            rw [c5] at hcc ⊢
            generalize fX2_readTest_0 tc (u.1 + 1) u.2.1 x.2.1 tf pf u.2.2.2.2.1 u.2.2.2.2.2.1 y1 y2 y3 y4 y5 u.2.2.2.1 yf ys = v at htt hcc ⊢
            obtain ⟨_, _, _, _, _, _, _, r8⟩ := htt
            rw [if_neg (show ¬ v.2.2.2.2.2.2.2.2.2.2.2.2.2 = 0 by rw [r8]; decide), endTest_x l0 (by omega)]
            obtain ⟨m1, m2, m3, m4, x1, x2, x3, x4, x5, x6, x7, m5⟩ := hcc
            refine ⟨?_, ?_, ?_, m2, ?_, ?_, ?_, ?_, EB_up EB_rf (Nat.le_refl _), EB_up EB_rf (Nat.le_refl _), EB_up EB_rf (Nat.le_refl _), EB_up EB_rf (Nat.le_refl _), EB_up (EB_up EB_rf (Nat.le_refl _)) (Nat.le_refl _), EB_tr x1 d2 (by have := tn_eq (a := u.2.2.2.1) (by omega); omega), EB_tr x2 d3 (by have := tn_eq (a := u.2.2.2.1) (by omega); omega), x3, x4, x5, x6, x7, ?_⟩
            · show yc = _
              rw [if_neg s]
            · show (yl + 1).toInt = yl.toInt + ncl [(tk (pf k.toNatClampNeg) - 311, (0 : Int32), x.2.2, some y.2.2)]
              rw [nc]; omega
            · show yv.toInt ≤ v.2.2.2.1.toInt
              omega
            · show yf.toInt ≤ v.2.2.2.2.1.toInt
              omega
            · show 3 * (v.2.2.2.2.1.toInt - yf.toInt) ≤ y.2.1.toInt - n.toInt
              omega
            · show ys.toInt ≤ v.2.2.2.2.2.1.toInt
              omega
            · show v.2.2.2.2.2.1.toInt - ys.toInt ≤ 12 * (v.2.2.2.2.1.toInt - yf.toInt)
              omega
            · have en := tn_eq (a := u.2.2.2.1) (by omega)
              unfold CS
              rw [if_neg s]
              refine ⟨?_, trivial⟩
              simp only [pk_us, Option.getD_some]
              exact ⟨trivial, v0, by omega, by omega, LA_EB d4 x1 x2 (by omega), z0, by omega, Int.le_refl _, m5, Or.inr (q1 0), by omega⟩
          · rw [if_neg t] at he ⊢
            cases he
            refine ⟨?_, ?_, ?_, ?_, Int.le_refl _, ?_, Int.le_refl _, ?_, EB_up EB_rf (Nat.le_refl _), EB_up EB_rf (Nat.le_refl _), EB_up EB_rf (Nat.le_refl _), EB_up EB_rf (Nat.le_refl _), EB_up EB_rf (Nat.le_refl _), d2, d3, EB_rf, EB_rf, EB_rf, EB_rf, EB_rf, ?_⟩
            · show yc = _
              rw [if_neg s]
            · show (yl + 1).toInt = yl.toInt + ncl [(tk (pf k.toNatClampNeg) - 311, (0 : Int32), x.2.2, none)]
              rw [nc]; omega
            · show yv.toInt ≤ u.2.2.2.1.toInt
              omega
            · show u.2.2.2.1.toInt ≤ x.2.1.toInt
              omega
            · show 3 * (yf.toInt - yf.toInt) ≤ x.2.1.toInt - n.toInt
              omega
            · show ys.toInt - ys.toInt ≤ 12 * (yf.toInt - yf.toInt)
              omega
            · unfold CS
              rw [if_neg s]
              refine ⟨?_, trivial⟩
              simp only [pk_us, Option.getD_none]
              exact ⟨trivial, v0, by omega, Int.le_refl _, d4, z0, by simp, Int.le_refl _, trivial, Or.inl trivial, by decide⟩
    · rw [if_neg b] at he; cases he
def CSR (yc yl yv yf ys : Int32) (so s1 s2 t1 t2 yj yo y1 y2 y3 y4 y5 : Nat → Int32) (l : List (Int32 × Int32 × List (Int32 × Int32) × Option (List (Int32 × List (Int32 × Int32) × List (Int32 × Int32))))) (u : Int32 × Int32 × Int32 × Int32 × Int32 × (Nat → Int32) × (Nat → Int32) × (Nat → Int32) × (Nat → Int32) × (Nat → Int32) × (Nat → Int32) × (Nat → Int32) × (Nat → Int32) × (Nat → Int32) × (Nat → Int32) × (Nat → Int32) × (Nat → Int32) × (Nat → Int32) × (Nat → Int32) × Int32 × Int32 × Int32 × Int32 × Int32 × Int32) : Prop := u.2.2.2.2.2.2.2.2.2.2.2.2.2.2.2.2.2.2.2.1 = chn yc l ∧ u.2.2.2.2.2.2.2.2.2.2.2.2.2.2.2.2.2.2.2.2.1.toInt = yl.toInt + ncl l ∧ yv.toInt ≤ u.2.2.2.2.2.2.2.2.2.2.2.2.2.2.2.2.2.2.2.2.2.1.toInt ∧ u.2.2.2.2.2.2.2.2.2.2.2.2.2.2.2.2.2.2.2.2.2.1.toInt ≤ 60 ∧ yf.toInt ≤ u.2.2.2.2.2.2.2.2.2.2.2.2.2.2.2.2.2.2.2.2.2.2.1.toInt ∧ u.2.2.2.2.2.2.2.2.2.2.2.2.2.2.2.2.2.2.2.2.2.2.1.toInt ≤ 20 ∧ ys.toInt ≤ u.2.2.2.2.2.2.2.2.2.2.2.2.2.2.2.2.2.2.2.2.2.2.2.1.toInt ∧ u.2.2.2.2.2.2.2.2.2.2.2.2.2.2.2.2.2.2.2.2.2.2.2.1.toInt ≤ 240 ∧ EB u.2.2.2.2.2.2.2.1 so yl.toNatClampNeg ∧ EB u.2.2.2.2.2.2.2.2.1 s1 yl.toNatClampNeg ∧ EB u.2.2.2.2.2.2.2.2.2.1 s2 yl.toNatClampNeg ∧ EB u.2.2.2.2.2.2.2.2.2.2.1 t1 yl.toNatClampNeg ∧ EB u.2.2.2.2.2.2.2.2.2.2.2.1 t2 yl.toNatClampNeg ∧ EB u.2.2.2.2.2.2.2.2.2.2.2.2.1 yj yv.toNatClampNeg ∧ EB u.2.2.2.2.2.2.2.2.2.2.2.2.2.1 yo yv.toNatClampNeg ∧ EB u.2.2.2.2.2.2.2.2.2.2.2.2.2.2.1 y1 yf.toNatClampNeg ∧ EB u.2.2.2.2.2.2.2.2.2.2.2.2.2.2.2.1 y2 yf.toNatClampNeg ∧ EB u.2.2.2.2.2.2.2.2.2.2.2.2.2.2.2.2.1 y3 yf.toNatClampNeg ∧ EB u.2.2.2.2.2.2.2.2.2.2.2.2.2.2.2.2.2.1 y4 yf.toNatClampNeg ∧ EB u.2.2.2.2.2.2.2.2.2.2.2.2.2.2.2.2.2.2.1 y5 ys.toNatClampNeg ∧ CS u.2.2.2.2.2.2.2.2.2.2.2.2.2.2.2.2.2.2.2.2.2.1.toInt u.2.2.2.2.2.2.2.2.2.2.2.2.2.2.2.2.2.2.2.2.2.2.1.toInt u.2.2.2.2.2.2.2.2.2.2.2.2.2.2.2.2.2.2.2.2.2.2.2.1.toInt u.2.2.2.2.2.2.2.2.2.2.2.2.1 u.2.2.2.2.2.2.2.2.2.2.2.2.2.1 u.2.2.2.2.2.2.2.2.2.2.2.2.2.2.1 u.2.2.2.2.2.2.2.2.2.2.2.2.2.2.2.1 u.2.2.2.2.2.2.2.2.2.2.2.2.2.2.2.2.1 u.2.2.2.2.2.2.2.2.2.2.2.2.2.2.2.2.2.1 u.2.2.2.2.2.2.2.2.2.2.2.2.2.2.2.2.2.2.1 u.2.2.2.2.2.2.2.1 u.2.2.2.2.2.2.2.2.1 u.2.2.2.2.2.2.2.2.2.1 u.2.2.2.2.2.2.2.2.2.2.1 u.2.2.2.2.2.2.2.2.2.2.2.1 yl.toNatClampNeg l ∧ u.2.2.2.2.2.2.2.2.2.2.2.2.2.2.2.2.2.2.2.2.1.toInt ≤ 12
set_option maxHeartbeats 400000 in
theorem c_readLC {tk nx : Int32 → Int32} {tc : Int32} {tf pf : Nat → Int32} (h : CH tk nx tc tf pf) (htk : TKH tk nx) {E79 E94 : (Nat → Int32) → (Nat → Int32) → (Nat → Int32) → (Nat → Int32) → (Nat → Int32) → (Nat → Int32) → (Nat → Int32) → (Nat → Int32) → (Nat → Int32) → (Nat → Int32) → (Nat → Int32) → (Nat → Int32) → Int32 → Int32 → Int32 → Int32 → Int32 → Int32 → Int32 → Int32 → Int32 → Int32 → (Int32 × Int32 × Int32 × Int32 × Int32 × (Nat → Int32) × (Nat → Int32) × (Nat → Int32) × (Nat → Int32) × (Nat → Int32) × (Nat → Int32) × (Nat → Int32) × (Nat → Int32) × (Nat → Int32) × (Nat → Int32) × (Nat → Int32) × (Nat → Int32) × (Nat → Int32) × (Nat → Int32) × Int32 × Int32 × Int32 × Int32 × Int32 × Int32)} (h79 : ∀ a1 a2 a3 a4 a5 a6 a7 a8 a9 a10 a11 a12 a13 a14 a15 a16 a17 a18 a19 a20 a21 a22, E79 a1 a2 a3 a4 a5 a6 a7 a8 a9 a10 a11 a12 a13 a14 a15 a16 a17 a18 a19 a20 a21 a22 = (tc, a13, a14, a15, a16, tf, pf, a1, a2, a3, a4, a5, a6, a7, a8, a9, a10, a11, a12, a17, a18, a19, a20, a21, 0)) : ∀ (m N : Nat) (so s1 s2 t1 t2 yj yo y1 y2 y3 y4 y5 : Nat → Int32) (k n ch yc yl yv yf ys num : Int32) (l : List (Int32 × Int32 × List (Int32 × Int32) × Option (List (Int32 × List (Int32 × Int32) × List (Int32 × Int32))))), ¬ k < 0 → k < tc → ¬ n < 0 → ¬ 60 < n → ¬ num < 0 → ¬ 12 < num → (12 - num.toInt).toNat < N → 0 ≤ yl.toInt → yl.toInt ≤ num.toInt → 0 ≤ yv.toInt → yv.toInt ≤ n.toInt → 0 ≤ yf.toInt → 3 * yf.toInt ≤ n.toInt → 0 ≤ ys.toInt → ys.toInt ≤ 12 * yf.toInt → srd tk nx m num ch (pf k.toNatClampNeg) n = .ok l → CSR yc yl yv yf ys so s1 s2 t1 t2 yj yo y1 y2 y3 y4 y5 l (fl_mX2_read_46 tc tf pf E79 E94 N so s1 s2 t1 t2 yj yo y1 y2 y3 y4 y5 k 0 n ch yc yl yv yf ys num) := by
  intro m
  induction m with
  | zero => intro N so s1 s2 t1 t2 yj yo y1 y2 y3 y4 y5 k n ch yc yl yv yf ys num l k0 k1 n0 n6 i0 i6 hN l0 l1 v0 v1 f0 f1 z0 z1 he; cases he
  | succ m ih =>
    intro N so s1 s2 t1 t2 yj yo y1 y2 y3 y4 y5 k n ch yc yl yv yf ys num l k0 k1 n0 n6 i0 i6 hN l0 l1 v0 v1 f0 f1 z0 z1 he
    cases N with
    | zero => exact absurd hN (Nat.not_lt_zero _)
    | succ N =>
      have j0 := i_nn i0
      have j6 : num.toInt ≤ 12 := by
        rw [Int32.lt_iff_toInt_lt, show (12 : Int32).toInt = 12 from by decide] at i6
        omega
      have ji : (num + 1).toInt = num.toInt + 1 := zadd1 (by omega)
      rw [srd_s] at he
      obtain ⟨w, hw, he⟩ := exb_inv he
      have hnum : num.toInt < 12 := by
        have : ¬ (12 : Int32) ≤ num := by
          intro c
          unfold scl at hw
          rw [if_pos c] at hw
          repeat' split at hw
          all_goals cases hw
        rw [Int32.le_iff_toInt_le, show (12 : Int32).toInt = 12 from by decide] at this
        omega
      have hv := c_clause h k 0 n ch so s1 s2 t1 t2 yj yo y1 y2 y3 y4 y5 yc yl yv yf ys num k0 k1 n0 n6
      have hc := c_clauseC h htk k 0 n ch so s1 s2 t1 t2 yj yo y1 y2 y3 y4 y5 yc yl yv yf ys num w k0 k1 n0 n6 l0 l1 v0 v1 f0 f1 z0 z1 hw
      rw [hw] at hv
      show CSR yc yl yv yf ys so s1 s2 t1 t2 yj yo y1 y2 y3 y4 y5 l (fb_mX2_read_46 tc tf pf E79 E94 (fl_mX2_read_46 tc tf pf E79 E94 N) so s1 s2 t1 t2 yj yo y1 y2 y3 y4 y5 k 0 n ch yc yl yv yf ys num)
      unfold fb_mX2_read_46
      rw [if_neg i6, if_pos rfl]
      simp only [bnd]
      generalize fX2_readClause tc k 0 n ch tf pf so s1 s2 t1 t2 yj yo y1 y2 y3 y4 y5 yc yl yv yf ys num = u at hv hc ⊢
      obtain ⟨c1, c2, c3, c4, c5, c6, c7, c8, c9⟩ := hv
      obtain ⟨d1, d2, d3, d4, d5, d6, d7, d8, e1, e2, e3, e4, e5, e6, e7, e8, e9, e10, e11, e12, d9⟩ := hc
      have w60 : w.2.1.toInt ≤ 60 := by
        rw [Int32.lt_iff_toInt_lt, show (60 : Int32).toInt = 60 from by decide] at c8
        omega
      have hnl : ncl [w.2.2.2] ≤ 1 := by
        unfold ncl
        split <;> (show _ + 0 ≤ 1; omega)
      rw [if_neg (show ¬ u.2.2.2.2.2.2.2.2.2.2.2.2.2.2.2.2.2.2.2.2.2 = 0 by rw [c9]; decide), CH_tok h c1 c2, c3]
      by_cases t : tk w.1 = 258
      · rw [if_pos t] at he ⊢
        cases he
        rw [h79]
        refine ⟨?_, ?_, d3, ?_, d5, ?_, d7, ?_, e1, e2, e3, e4, e5, e6, e7, e8, e9, e10, e11, e12, d9, ?_⟩
        · exact d1
        · exact d2
        · show u.2.2.2.2.2.2.1.toInt ≤ 60
          omega
        · show u.2.2.2.2.2.2.2.1.toInt ≤ 20
          omega
        · show u.2.2.2.2.2.2.2.2.1.toInt ≤ 240
          omega
        · show u.2.2.2.2.2.1.toInt ≤ 12
          omega
      · rw [if_neg t] at he ⊢
        by_cases s : tk w.1 = 59
        · rw [if_pos s] at he
          obtain ⟨r, hr, he⟩ := exb_inv he
          cases he
          obtain ⟨g0, g1, g2⟩ := CH_nx h c1 c2 c3 t
          rw [CH_take h c1 c2 c3, if_pos s, c4, c5, c6]
          have z := ih N u.2.2.2.2.2.2.2.2.2.1 u.2.2.2.2.2.2.2.2.2.2.1 u.2.2.2.2.2.2.2.2.2.2.2.1 u.2.2.2.2.2.2.2.2.2.2.2.2.1 u.2.2.2.2.2.2.2.2.2.2.2.2.2.1 u.2.2.2.2.2.2.2.2.2.2.2.2.2.2.1 u.2.2.2.2.2.2.2.2.2.2.2.2.2.2.2.1 u.2.2.2.2.2.2.2.2.2.2.2.2.2.2.2.2.1 u.2.2.2.2.2.2.2.2.2.2.2.2.2.2.2.2.2.1 u.2.2.2.2.2.2.2.2.2.2.2.2.2.2.2.2.2.2.1 u.2.2.2.2.2.2.2.2.2.2.2.2.2.2.2.2.2.2.2.1 u.2.2.2.2.2.2.2.2.2.2.2.2.2.2.2.2.2.2.2.2.1 (u.1 + 1) w.2.1 w.2.2.1 u.2.2.2.2.1 u.2.2.2.2.2.1 u.2.2.2.2.2.2.1 u.2.2.2.2.2.2.2.1 u.2.2.2.2.2.2.2.2.1 (num + 1) r g0 g1 c7 c8 (by rw [Int32.lt_iff_toInt_lt, z_i0]; omega) (by rw [Int32.lt_iff_toInt_lt, show (12 : Int32).toInt = 12 from by decide]; omega) (by omega) (by omega) (by omega) (by omega) d4 (by omega) (by omega) (by omega) (by omega) (by rw [g2]; exact hr)
          show CSR yc yl yv yf ys so s1 s2 t1 t2 yj yo y1 y2 y3 y4 y5 (w.2.2.2 :: r) (fl_mX2_read_46 tc tf pf E79 E94 N u.2.2.2.2.2.2.2.2.2.1 u.2.2.2.2.2.2.2.2.2.2.1 u.2.2.2.2.2.2.2.2.2.2.2.1 u.2.2.2.2.2.2.2.2.2.2.2.2.1 u.2.2.2.2.2.2.2.2.2.2.2.2.2.1 u.2.2.2.2.2.2.2.2.2.2.2.2.2.2.1 u.2.2.2.2.2.2.2.2.2.2.2.2.2.2.2.1 u.2.2.2.2.2.2.2.2.2.2.2.2.2.2.2.2.1 u.2.2.2.2.2.2.2.2.2.2.2.2.2.2.2.2.2.1 u.2.2.2.2.2.2.2.2.2.2.2.2.2.2.2.2.2.2.1 u.2.2.2.2.2.2.2.2.2.2.2.2.2.2.2.2.2.2.2.1 u.2.2.2.2.2.2.2.2.2.2.2.2.2.2.2.2.2.2.2.2.1 (u.1 + 1) 0 w.2.1 w.2.2.1 u.2.2.2.2.1 u.2.2.2.2.2.1 u.2.2.2.2.2.2.1 u.2.2.2.2.2.2.2.1 u.2.2.2.2.2.2.2.2.1 (num + 1))
          generalize fl_mX2_read_46 tc tf pf E79 E94 N u.2.2.2.2.2.2.2.2.2.1 u.2.2.2.2.2.2.2.2.2.2.1 u.2.2.2.2.2.2.2.2.2.2.2.1 u.2.2.2.2.2.2.2.2.2.2.2.2.1 u.2.2.2.2.2.2.2.2.2.2.2.2.2.1 u.2.2.2.2.2.2.2.2.2.2.2.2.2.2.1 u.2.2.2.2.2.2.2.2.2.2.2.2.2.2.2.1 u.2.2.2.2.2.2.2.2.2.2.2.2.2.2.2.2.1 u.2.2.2.2.2.2.2.2.2.2.2.2.2.2.2.2.2.1 u.2.2.2.2.2.2.2.2.2.2.2.2.2.2.2.2.2.2.1 u.2.2.2.2.2.2.2.2.2.2.2.2.2.2.2.2.2.2.2.1 u.2.2.2.2.2.2.2.2.2.2.2.2.2.2.2.2.2.2.2.2.1 (u.1 + 1) 0 w.2.1 w.2.2.1 u.2.2.2.2.1 u.2.2.2.2.2.1 u.2.2.2.2.2.2.1 u.2.2.2.2.2.2.2.1 u.2.2.2.2.2.2.2.2.1 (num + 1) = v at z ⊢
          obtain ⟨x1, x2, x3, x4, x5, x6, x7, x8, q1, q2, q3, q4, q5, q6, q7, q8, q9, q10, q11, q12, x9, x10⟩ := z
          have m1 := tn_eq l0
          have m2 := tn_eq v0
          have m3 := tn_eq f0
          have m4 := tn_eq z0
          have k1 := tn_eq (a := u.2.2.2.2.2.1) (by omega)
          have k2 := tn_eq (a := u.2.2.2.2.2.2.1) (by omega)
          have k3 := tn_eq (a := u.2.2.2.2.2.2.2.1) (by omega)
          have k4 := tn_eq (a := u.2.2.2.2.2.2.2.2.1) (by omega)
          have hcl : ncl (w.2.2.2 :: r) = ncl [w.2.2.2] + ncl r := by
            show (if w.2.2.2.1 = 4 then 0 else 1) + ncl r = ((if w.2.2.2.1 = 4 then 0 else 1) + 0) + ncl r
            rw [Nat.add_zero]
          refine ⟨?_, by rw [hcl]; omega, by omega, x4, by omega, x6, by omega, x8, EB_tr q1 e1 (by omega), EB_tr q2 e2 (by omega), EB_tr q3 e3 (by omega), EB_tr q4 e4 (by omega), EB_tr q5 e5 (by omega), EB_tr q6 e6 (by omega), EB_tr q7 e7 (by omega), EB_tr q8 e8 (by omega), EB_tr q9 e9 (by omega), EB_tr q10 e10 (by omega), EB_tr q11 e11 (by omega), EB_tr q12 e12 (by omega), ?_, x10⟩
          · rw [x1, d1]; rfl
          · refine CS_app ?_ ?_
            · exact CS_eb x3 x5 x7 (fun i hi => ⟨q6 i (by omega), q7 i (by omega)⟩) (fun i hi => ⟨q8 i (by omega), q9 i (by omega), q10 i (by omega), q11 i (by omega)⟩) (fun i hi => q12 i (by omega)) _ _ d9 (fun i hi => ⟨q1 i (by omega), q2 i (by omega), q3 i (by omega), q4 i (by omega), q5 i (by omega)⟩)
            · rw [show yl.toNatClampNeg + ncl [w.2.2.2] = (u.2.2.2.2.2.1).toNatClampNeg from by omega]
              exact x9
        · rw [if_neg s] at he; cases he
set_option maxHeartbeats 400000 in
/-- what the class reads, if there is no FAULT: its arrays mean what the text's clauses mean -/
theorem c_meanC {u : Int32 × Int32 × Int32 × Int32 × Int32 × (Nat → Int32) × (Nat → Int32) × (Nat → Int32) × (Nat → Int32) × (Nat → Int32) × (Nat → Int32) × (Nat → Int32) × (Nat → Int32) × (Nat → Int32) × (Nat → Int32) × (Nat → Int32) × (Nat → Int32) × (Nat → Int32) × (Nat → Int32) × Int32 × Int32 × Int32 × Int32 × Int32 × Int32} {x : Nat → Int32} {rt rp so s1 s2 t1 t2 yj yo y1 y2 y3 y4 y5 : Nat → Int32} {T : Int32} {l : List (Int32 × Int32 × List (Int32 × Int32) × Option (List (Int32 × List (Int32 × Int32) × List (Int32 × Int32))))} (hl : ¬ 400 < T) (hC : CO x T (fX2_cut rt rp x T)) (htk : TKH (tk x T) (nx x T)) (he : srt (tk x T) (nx x T) (sp x T 0) = .ok l) (eu : u = fX2_read rt rp so s1 s2 t1 t2 yj yo y1 y2 y3 y4 y5 x T) : u.2.2.2.2.2.2.2.2.2.2.2.2.2.2.2.2.2.2.2.1 = chn 0 l ∧ ∀ (W wF : Nat → Int32) (s : Int32), ¬ s = 4 → (∀ i : Nat, i < 11 → wF i = W i) → fX1_sumOf u.2.2.2.2.2.2.2.1 u.2.2.2.2.2.2.2.2.1 u.2.2.2.2.2.2.2.2.2.1 u.2.2.2.2.2.2.2.2.2.2.1 u.2.2.2.2.2.2.2.2.2.2.2.1 u.2.2.2.2.2.2.2.2.2.2.2.2.1 u.2.2.2.2.2.2.2.2.2.2.2.2.2.1 u.2.2.2.2.2.2.2.2.2.2.2.2.2.2.1 u.2.2.2.2.2.2.2.2.2.2.2.2.2.2.2.1 u.2.2.2.2.2.2.2.2.2.2.2.2.2.2.2.2.1 u.2.2.2.2.2.2.2.2.2.2.2.2.2.2.2.2.2.1 u.2.2.2.2.2.2.2.2.2.2.2.2.2.2.2.2.2.2.1 u.2.2.2.2.2.2.2.2.2.2.2.2.2.2.2.2.2.2.2.2.1 s wF = lsm W s l := by
  have hu : CSR 0 0 0 0 0 so s1 s2 t1 t2 yj yo y1 y2 y3 y4 y5 l u := by
    rw [eu]
    obtain ⟨a1, a2, a3⟩ := hC
    unfold fX2_read
    generalize hN : (((12 : Int32).toInt + 1 - (0 : Int32).toInt).toNat + 1) = N
    rw [if_neg hl, bnd_eq, bnd_eq, bnd_eq, bnd_eq, bnd_eq, bnd_eq, bnd_eq, bnd_eq, bnd_eq, bnd_eq, bnd_eq]
    generalize fX2_cut rt rp x T = v at a1 a2 a3 ⊢
    exact c_readLC a1 htk (fun _ _ _ _ _ _ _ _ _ _ _ _ _ _ _ _ _ _ _ _ _ _ => rfl) 13 _ so s1 s2 t1 t2 yj yo y1 y2 y3 y4 y5 0 0 0 0 0 0 0 0 0 l (by first | decide | (rw [← hN]; decide)) a2 (by first | decide | (rw [← hN]; decide)) (by first | decide | (rw [← hN]; decide)) (by first | decide | (rw [← hN]; decide)) (by first | decide | (rw [← hN]; decide)) (by first | decide | (rw [← hN]; decide)) (by first | decide | (rw [← hN]; decide)) (by first | decide | (rw [← hN]; decide)) (by first | decide | (rw [← hN]; decide)) (by first | decide | (rw [← hN]; decide)) (by first | decide | (rw [← hN]; decide)) (by first | decide | (rw [← hN]; decide)) (by first | decide | (rw [← hN]; decide)) (by first | decide | (rw [← hN]; decide)) (by rw [show ((0 : Int32).toNatClampNeg) = 0 from rfl, a3]; exact he)
  obtain ⟨x1, x2, x3, x4, x5, x6, x7, x8, _, _, _, _, _, _, _, _, _, _, _, _, x9, x10⟩ := hu
  refine ⟨x1, fun W wF s h4 hw => ?_⟩
  exact sumOf_x hw h4 x10 x4 x6 (by omega) x9 (by rw [x2, z_i0]; omega)
