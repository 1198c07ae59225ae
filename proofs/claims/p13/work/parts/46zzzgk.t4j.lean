def RHC (text : Int32) (sg lg cl cs cf : Nat → Int32) (q : (Int32 × Int32 × List (Int32 × Int32) × Option Stps)) (u : Int32 × Int32 × Int32 × Int32 × Int32 × Int32 × Int32 × (Nat → Int32) × (Nat → Int32) × (Nat → Int32) × (Nat → Int32) × (Nat → Int32) × (Nat → Int32) × Int32) : Prop := LGok text u.1 u.2.2.2.2.2.2.2.2.1 ∧ (lg text.toNatClampNeg).toInt ≤ (u.2.2.2.2.2.2.2.2.1 text.toNatClampNeg).toInt ∧ EB u.2.2.2.2.2.2.2.1 sg (400 * text.toNatClampNeg + (lg text.toNatClampNeg).toNatClampNeg) ∧ (u.2.2.2.2.2.2.2.2.2.2.1 text.toNatClampNeg).toInt = (cs text.toNatClampNeg).toInt + ncl [q] ∧ (∀ j, j ≠ text.toNatClampNeg → u.2.2.2.2.2.2.2.2.2.2.1 j = cs j) ∧ (∀ i, i < 60 * text.toNatClampNeg + 5 * (cs text.toNatClampNeg).toNatClampNeg → u.2.2.2.2.2.2.2.2.2.1 i = cl i) ∧ RS (u.2.2.2.2.2.2.2.2.1 text.toNatClampNeg).toInt u.2.2.2.2.2.2.2.1 u.2.2.2.2.2.2.2.2.2.1 text.toNatClampNeg (cs text.toNatClampNeg).toNatClampNeg [q] ∧ u.2.2.2.2.2.2.2.2.2.2.2.1 = (if q.1 = 4 then upd cf text.toNatClampNeg q.2.1 else cf) ∧ (q.1 = 4 → 0 ≤ q.2.1.toInt)
set_option maxHeartbeats 400000 in
theorem r_bodC {x tF : Nat → Int32} {T p num text md deep lines opd s ch : Int32} {sg lg cl cs cf op : Nat → Int32} {w : Int32 × Int32 × Int32 × Int32 × Int32 × List (Int32 × Int32) × Option Stps} (H : LXH x tF T) (t0 : 0 ≤ text.toInt) (t6 : text.toInt ≤ 6) (hp : AT x T p p) (hT : ¬ T ≤ p) (hle : ¬ fX2_isLetter (x p.toNatClampNeg) = 0) (m0 : ¬ md < 0) (m6 : ¬ 60 < md) (hl : LGok text p lg) (k0 : 0 ≤ (cs text.toNatClampNeg).toInt) (k1 : (cs text.toNatClampNeg).toInt < 12) (h4 : ¬ s = 4) (he : sbd (tk x T) (nx x T) s ch (nx x T p) md = .ok w) (hu : AT x T (fX11_clauseOf T p 0 num text md deep opd tF sg lg cl cs op s).1 w.1) : RHC text sg lg cl cs cf w.2.2.2 (BT lines cf (fX11_clauseOf T p 0 num text md deep opd tF sg lg cl cs op s)) := by
  obtain ⟨l1, t1, a1, a2, a3, a4, a5, a6, a7, a8⟩ := r_clofC (num := num) (deep := deep) (opd := opd) (cl := cl) (op := op) H t0 t6 hp hT hle m0 m6 hl k0 k1 he
  obtain ⟨n1, n2, n3, n4⟩ := p_up H hu
  generalize fX11_clauseOf T p 0 num text md deep opd tF sg lg cl cs op s = u at a1 a2 a3 a4 n1 ⊢
  obtain ⟨b1, b2⟩ := a2
  have hs : ¬ w.2.2.2.1 = 4 := by rw [a7]; exact h4
  have e1 := tn_eq k0
  have z1 : (cs text.toNatClampNeg + 1).toInt = (cs text.toNatClampNeg).toInt + 1 := zadd1 (by omega)
  refine ⟨⟨b1, b2⟩, ?_, a1.2.2.1, ?_, ?_, ?_, ?_, ?_, fun q => absurd q hs⟩
  · have := a1.1
    show (lg text.toNatClampNeg).toInt ≤ (u.2.2.2.2.2.2.2.1 text.toNatClampNeg).toInt
    omega
  · show (u.2.2.2.2.2.2.2.2.2.1 text.toNatClampNeg).toInt = _
    unfold ncl
    rw [if_neg hs, a3, pk_us, z1]
    rfl
  · intro j hj
    show u.2.2.2.2.2.2.2.2.2.1 j = cs j
    rw [a3, upd_ne (fun q => hj q.symm)]
  · intro i hi
    exact a4.2.2.2.2.2 i (Or.inl hi)
  · have hq : w.2.2.2 = (s, w.2.2.2.2.1, w.2.2.2.2.2.1, w.2.2.2.2.2.2) := Prod.ext a7 rfl
    rw [hq]
    exact RS_one h4 hl.1 (by show (u.2.2.2.2.2.2.2.1 text.toNatClampNeg).toInt ≤ 400; omega) a1 a4 a5 a6 a8
  · rw [if_neg hs]
    rfl
set_option maxHeartbeats 400000 in
theorem r_chnC {x tF : Nat → Int32} {T a p num text md deep lines opd : Int32} {sg lg cl cs cf op : Nat → Int32} {w : Int32 × Int32 × Int32 × Int32 × Int32 × List (Int32 × Int32) × Option Stps} (H : LXH x tF T) (hl : LGok text a lg) (hpa : ¬ p < a) (hpw : p < we x T p) (s2 : AT x T (we x T p) (nx x T p)) (he : sch (tk x T) (nx x T) (nx x T p) md = .ok w) (hr : HR x T a lines text (.ok w) (CN md deep lines opd text sg lg cl cs cf op (fX11_numberHere T (we x T p) 0 num tF 0 10))) : RHC text sg lg cl cs cf w.2.2.2 (CN md deep lines opd text sg lg cl cs cf op (fX11_numberHere T (we x T p) 0 num tF 0 10)) := by
  obtain ⟨w1, w2, w3, hq⟩ := AT_in s2
  have hau := hr.1.2.1
  have hw : w.2.2.2.1 = 4 ∧ 0 ≤ w.2.2.2.2.1.toInt ∧ w.2.2.2.2.1 = tk x T (nx x T p) - 1000 ∧ (¬ tk x T (nx x T p) - 1000 < 0) ∧ tk x T (nx x T p) - 1000 ≤ 10 ∧ (tk x T (nx x T p) = 259 ∨ 1000 ≤ tk x T (nx x T p)) := by
    have key : snm (tk x T) (nx x T) (nx x T p) md = .ok w → w.2.2.2.1 = 4 ∧ 0 ≤ w.2.2.2.2.1.toInt ∧ w.2.2.2.2.1 = tk x T (nx x T p) - 1000 ∧ (¬ tk x T (nx x T p) - 1000 < 0) ∧ tk x T (nx x T p) - 1000 ≤ 10 := by
      intro he
      unfold snm at he
      by_cases a : tk x T (nx x T p) - 1000 < 0
      · rw [if_pos a] at he; cases he
      · rw [if_neg a] at he
        by_cases b : tk x T (nx x T p) - 1000 ≤ 10
        · rw [if_pos b] at he
          cases he
          exact ⟨rfl, by have := a; rw [Int32.lt_iff_toInt_lt, z_i0] at this; show 0 ≤ (tk x T (nx x T p) - 1000).toInt; omega, rfl, a, b⟩
        · rw [if_neg b] at he; cases he
    unfold sch at he
    by_cases a : tk x T (nx x T p) = 259
    · rw [if_pos a] at he
      obtain ⟨x1, x2, x3, x4, x5⟩ := key he
      exact ⟨x1, x2, x3, x4, x5, Or.inl a⟩
    · rw [if_neg a] at he
      by_cases b : (1000 : Int32) ≤ tk x T (nx x T p)
      · rw [if_pos b] at he
        obtain ⟨x1, x2, x3, x4, x5⟩ := key he
        exact ⟨x1, x2, x3, x4, x5, Or.inr b⟩
      · rw [if_neg b] at he; cases he
  obtain ⟨x1, x2, x3, x4, x5, x6⟩ := hw
  have hne : ¬ tk x T (nx x T p) = 259 := fun q => x4 (by rw [q]; decide)
  have hqT : ¬ T ≤ nx x T p := fun g => by rw [tk_T g] at x6; exact absurd x6 (by decide)
  have hd : ¬ fX2_isDigit (x (nx x T p).toNatClampNeg) = 0 := by
    intro hd
    rcases tk_kinds H w3 hq.2.2 hqT with g | g | g
    · grind
    · exact absurd hd g.1
    · grind
  have z := lx_num (w := 0) (num := num) (lo := 0) (hi := 10) H s2.1 s2.2.1 (by rw [s2.2.2]; exact hqT) (by rw [s2.2.2]; exact hd)
  rw [s2.2.2] at z
  rcases z with ⟨_, z2, v', z3⟩ | ⟨z1, z2, z3, z4⟩
  · exact absurd z2 hne
  · rw [li_if (lo := 0) (hi := 10) rfl rfl, if_neg x4, if_neg (show ¬ 10 < tk x T (nx x T p) - 1000 by grind), if_neg (by decide)] at z4
    rw [z4] at hau ⊢
    unfold CN at hau ⊢
    dsimp only at hau ⊢
    rw [if_neg (by decide)] at hau ⊢
    have hau2 := Int32.lt_iff_toInt_lt.mp hau
    refine ⟨⟨hl.1, ?_⟩, Int.le_refl _, EB_rf, ?_, fun _ _ => rfl, fun _ _ => rfl, ?_, ?_, fun _ => x2⟩
    · have := hl.2
      exact Int.le_trans this (Int.le_of_lt hau2)
    · show (cs text.toNatClampNeg).toInt = _
      unfold ncl
      rw [if_pos x1]
      show _ = _ + ((0 + 0 : Nat) : Int)
      omega
    · unfold RS
      rw [if_pos x1]
      trivial
    · rw [if_pos x1, x3]
set_option maxHeartbeats 400000 in
theorem k_311 : (311 : Int32) - 311 = 0 := by decide
set_option maxHeartbeats 400000 in
theorem k_312 : (312 : Int32) - 311 = 1 := by decide
set_option maxHeartbeats 400000 in
theorem k_313 : (313 : Int32) - 311 = 2 := by decide
set_option maxHeartbeats 400000 in
theorem k_314 : (314 : Int32) - 311 = 3 := by decide
set_option maxHeartbeats 400000 in
theorem HR_ok1 {x : Nat → Int32} {T a num text : Int32} {w : Int32 × Int32 × Int32 × Int32 × Int32 × List (Int32 × Int32) × Option Stps} {u : Int32 × Int32 × Int32 × Int32 × Int32 × Int32 × Int32 × (Nat → Int32) × (Nat → Int32) × (Nat → Int32) × (Nat → Int32) × (Nat → Int32) × (Nat → Int32) × Int32} (h : HR x T a num text (.ok w) u) : AT x T u.1 w.1 := h.1.1
set_option maxHeartbeats 400000 in
theorem HR_okB {x : Nat → Int32} {T a num text lines : Int32} {cf : Nat → Int32} {w : Int32 × Int32 × Int32 × Int32 × Int32 × List (Int32 × Int32) × Option Stps} {z : Int32 × Int32 × Int32 × Int32 × Int32 × Int32 × (Nat → Int32) × (Nat → Int32) × (Nat → Int32) × (Nat → Int32) × (Nat → Int32) × Int32} (h : HR x T a num text (.ok w) (BT lines cf z)) : AT x T z.1 w.1 := h.1.1
set_option maxHeartbeats 400000 in
theorem HR_sub {x : Nat → Int32} {T a num text : Int32} {r : Except Int32 (Int32 × Int32 × Int32 × Int32 × Int32 × List (Int32 × Int32) × Option Stps)} {w : Int32 × Int32 × Int32 × Int32 × Int32 × List (Int32 × Int32) × Option Stps} {u : Int32 × Int32 × Int32 × Int32 × Int32 × Int32 × Int32 × (Nat → Int32) × (Nat → Int32) × (Nat → Int32) × (Nat → Int32) × (Nat → Int32) × (Nat → Int32) × Int32} (h : r = .ok w) (v : HR x T a num text r u) : HR x T a num text (.ok w) u := by
  subst h
  exact v
def QC (text : Int32) (sg lg cl cs cf : Nat → Int32) (r : Except Int32 (Int32 × Int32 × Int32 × Int32 × Int32 × List (Int32 × Int32) × Option Stps)) (u : Int32 × Int32 × Int32 × Int32 × Int32 × Int32 × Int32 × (Nat → Int32) × (Nat → Int32) × (Nat → Int32) × (Nat → Int32) × (Nat → Int32) × (Nat → Int32) × Int32) : Prop := ∀ w, r = .ok w → RHC text sg lg cl cs cf w.2.2.2 u
set_option maxHeartbeats 400000 in
theorem QC_i {text : Int32} {sg lg cl cs cf : Nat → Int32} {r : Except Int32 (Int32 × Int32 × Int32 × Int32 × Int32 × List (Int32 × Int32) × Option Stps)} {u : Int32 × Int32 × Int32 × Int32 × Int32 × Int32 × Int32 × (Nat → Int32) × (Nat → Int32) × (Nat → Int32) × (Nat → Int32) × (Nat → Int32) × (Nat → Int32) × Int32} (h : ∀ w, r = .ok w → RHC text sg lg cl cs cf w.2.2.2 u) : QC text sg lg cl cs cf r u := h
set_option maxHeartbeats 400000 in
theorem QC_o {text : Int32} {sg lg cl cs cf : Nat → Int32} {r : Except Int32 (Int32 × Int32 × Int32 × Int32 × Int32 × List (Int32 × Int32) × Option Stps)} {u : Int32 × Int32 × Int32 × Int32 × Int32 × Int32 × Int32 × (Nat → Int32) × (Nat → Int32) × (Nat → Int32) × (Nat → Int32) × (Nat → Int32) × (Nat → Int32) × Int32} {w : Int32 × Int32 × Int32 × Int32 × Int32 × List (Int32 × Int32) × Option Stps} (h : QC text sg lg cl cs cf r u) (e : r = .ok w) : RHC text sg lg cl cs cf w.2.2.2 u := h w e
set_option maxHeartbeats 400000 in
theorem QC_e {text e : Int32} {sg lg cl cs cf : Nat → Int32} {u : Int32 × Int32 × Int32 × Int32 × Int32 × Int32 × Int32 × (Nat → Int32) × (Nat → Int32) × (Nat → Int32) × (Nat → Int32) × (Nat → Int32) × (Nat → Int32) × Int32} : QC text sg lg cl cs cf (.error e) u := fun w h => by cases h
set_option maxHeartbeats 400000 in
theorem clhe_h {α : Type} {tk nx : Int32 → Int32} {p n lines ch : Int32} {Q : Except Int32 (Int32 × Int32 × Int32 × Int32 × Int32 × List (Int32 × Int32) × Option Stps) → α → Prop} {E4 E0 E5 B0 B1 B2 B3 C5 : α} {c : Prop} {dc : Decidable c} (q4 : Q (.error (flt p 4)) E4) (q0 : Q (.error (flt p 0)) E0) (q5 : Q (.error (flt p 4)) E5) (b0 : tk p = 311 → ¬ lines = 12 → Q (sbd tk nx 0 ch (nx p) n) B0) (b1 : tk p = 312 → ¬ lines = 12 → Q (sbd tk nx 1 ch (nx p) n) B1) (b2 : tk p = 313 → ¬ lines = 12 → Q (sbd tk nx 2 ch (nx p) n) B2) (b3 : tk p = 314 → ¬ lines = 12 → Q (sbd tk nx 3 ch (nx p) n) B3) (b5 : tk p = 315 → ¬ lines = 12 → Q (sch tk nx (nx p) n) C5) (hc : c ↔ ch = 0) (l6 : ¬ 12 < lines) (h0 : ¬ tk p < 0) (h1 : ¬ 100999 < tk p) : Q (scl tk nx lines ch p n) (if tk p = 311 then (if lines = 12 then E4 else B0) else if tk p = 312 then (if lines = 12 then E4 else B1) else if tk p = 313 then (if lines = 12 then E4 else B2) else if tk p = 314 then (if lines = 12 then E4 else B3) else if tk p = 315 then (if lines = 12 then E4 else if c then C5 else E5) else E0) := by
  by_cases c1 : tk p = 311
  · rw [if_pos c1]
    by_cases l12 : lines = 12
    · rw [if_pos l12, scl_a c1 (by decide) (by decide) (i_12 l12)]
      exact q4
    · rw [if_neg l12, scl_b c1 (by decide) (by decide) (i_12n l12 l6) (by decide), k_311]
      exact b0 c1 l12
  rw [if_neg c1]
  by_cases c2 : tk p = 312
  · rw [if_pos c2]
    by_cases l12 : lines = 12
    · rw [if_pos l12, scl_a c2 (by decide) (by decide) (i_12 l12)]
      exact q4
    · rw [if_neg l12, scl_b c2 (by decide) (by decide) (i_12n l12 l6) (by decide), k_312]
      exact b1 c2 l12
  rw [if_neg c2]
  by_cases c3 : tk p = 313
  · rw [if_pos c3]
    by_cases l12 : lines = 12
    · rw [if_pos l12, scl_a c3 (by decide) (by decide) (i_12 l12)]
      exact q4
    · rw [if_neg l12, scl_b c3 (by decide) (by decide) (i_12n l12 l6) (by decide), k_313]
      exact b2 c3 l12
  rw [if_neg c3]
  by_cases c4 : tk p = 314
  · rw [if_pos c4]
    by_cases l12 : lines = 12
    · rw [if_pos l12, scl_a c4 (by decide) (by decide) (i_12 l12)]
      exact q4
    · rw [if_neg l12, scl_b c4 (by decide) (by decide) (i_12n l12 l6) (by decide), k_314]
      exact b3 c4 l12
  rw [if_neg c4]
  by_cases c5 : tk p = 315
  · rw [if_pos c5]
    by_cases l12 : lines = 12
    · rw [if_pos l12, scl_a c5 (by decide) (by decide) (i_12 l12)]
      exact q4
    · rw [if_neg l12, scl_c c5 (i_12n l12 l6)]
      by_cases h : c
      · rw [if_pos h, if_pos (hc.mp h)]
        exact b5 c5 l12
      · rw [if_neg h, if_neg (fun g => h (hc.mpr g))]
        exact q5
  rw [if_neg c5, scl_z c1 c2 c3 c4 c5 h0 h1]
  exact q0
set_option maxHeartbeats 400000 in
theorem r_bodQ {x tF : Nat → Int32} {T a p num text md deep lines opd s ch : Int32} {sg lg cl cs cf op : Nat → Int32} (H : LXH x tF T) (t0 : 0 ≤ text.toInt) (t6 : text.toInt ≤ 6) (hp : AT x T p p) (hpa : ¬ p < a) (hT : ¬ T ≤ p) (hle : ¬ fX2_isLetter (x p.toNatClampNeg) = 0) (m0 : ¬ md < 0) (m6 : ¬ 60 < md) (hch : cf text.toNatClampNeg < 0 ↔ ch = 0) (hl : LGok text p lg) (k0 : 0 ≤ (cs text.toNatClampNeg).toInt) (k1 : (cs text.toNatClampNeg).toInt < 12) (h4 : ¬ s = 4) : QC text sg lg cl cs cf (sbd (tk x T) (nx x T) s ch (nx x T p) md) (BT lines cf (fX11_clauseOf T p 0 num text md deep opd tF sg lg cl cs op s)) :=
  QC_i (fun w hw => r_bodC H t0 t6 hp hT hle m0 m6 hl k0 k1 h4 hw (HR_okB (HR_sub hw (r_bod2 (num := num) (lines := lines) (cf := cf) H hp hpa hT hle m0 m6 hch s s))))
set_option maxHeartbeats 400000 in
theorem r_chnQ {x tF : Nat → Int32} {T a p num text md deep lines opd : Int32} {sg lg cl cs cf op : Nat → Int32} (H : LXH x tF T) (hl : LGok text a lg) (hpa : ¬ p < a) (hpw : p < we x T p) (s2 : AT x T (we x T p) (nx x T p)) (m0 : ¬ md < 0) (m6 : ¬ 60 < md) : QC text sg lg cl cs cf (sch (tk x T) (nx x T) (nx x T p) md) (CN md deep lines opd text sg lg cl cs cf op (fX11_numberHere T (we x T p) 0 num tF 0 10)) :=
  QC_i (fun w hw => r_chnC H hl hpa hpw s2 hw (HR_sub hw (CN_r H hpa hpw s2 m0 m6)))
set_option maxHeartbeats 400000 in
theorem r_clhQ {x tF : Nat → Int32} {T a p num text md deep lines opd ch : Int32} {sg lg cl cs cf op : Nat → Int32} (H : LXH x tF T) (t0 : 0 ≤ text.toInt) (t6 : text.toInt ≤ 6) (h : AT x T a p) (m0 : ¬ md < 0) (m6 : ¬ 60 < md) (l0 : ¬ lines < 0) (l6 : ¬ 12 < lines) (hch : cf text.toNatClampNeg < 0 ↔ ch = 0) (hl : LGok text a lg) (k0 : 0 ≤ (cs text.toNatClampNeg).toInt) (k1 : (cs text.toNatClampNeg).toInt ≤ lines.toInt) : QC text sg lg cl cs cf (scl (tk x T) (nx x T) lines ch p md) (fX11_clauseHere T a 0 num text md deep lines opd tF sg lg cl cs cf op) := by
  obtain ⟨q1, q2, q3, hp⟩ := AT_in h
  obtain ⟨n1, n2, n3, n4⟩ := p_up H h
  have hl2 : LGok text p lg := ⟨hl.1, by have := hl.2; omega⟩
  have h12 : ¬ lines = 12 → (cs text.toNatClampNeg).toInt < 12 := by
    intro q
    rw [Int32.lt_iff_toInt_lt, show (12 : Int32).toInt = 12 from by decide] at l6
    have : ¬ lines.toInt = 12 := fun z => q (Int32.toInt_inj.mp (by rw [z]; rfl))
    omega
  have l := fun (g1 : 311 ≤ tk x T p) (g2 : tk x T p ≤ 315) => tk_let H q3 hp g1 g2
  have b := fun (k s : Int32) (g1 : 311 ≤ k) (g2 : k ≤ 315) (h4 : ¬ s = 4) (e : tk x T p = k) (n : ¬ lines = 12) => r_bodQ (num := num) (deep := deep) (opd := opd) (sg := sg) (lg := lg) (cl := cl) (cs := cs) (op := op) (lines := lines) H t0 t6 hp q1 (l (by rw [e]; exact g1) (by rw [e]; exact g2)).1 (l (by rw [e]; exact g1) (by rw [e]; exact g2)).2 m0 m6 hch hl2 k0 (h12 n) h4
  rw [clhe_u H h hp q3]
  refine clhe_h (Q := QC text sg lg cl cs cf) QC_e QC_e QC_e (b 311 0 (by decide) (by decide) (by decide)) (b 312 1 (by decide) (by decide) (by decide)) (b 313 2 (by decide) (by decide) (by decide)) (b 314 3 (by decide) (by decide) (by decide)) (fun e n => ?_) hch l6 (tk_bnd H q3 hp).1 (tk_bnd H q3 hp).2
  obtain ⟨hT, hle⟩ := l (by rw [e]; decide) (by rw [e]; decide)
  obtain ⟨s1, s2⟩ := st_l hp hT hle
  exact r_chnQ H hl q1 s1 s2 m0 m6
set_option maxHeartbeats 400000 in
theorem r_clheC {x tF : Nat → Int32} {T a p num text md deep lines opd ch : Int32} {sg lg cl cs cf op : Nat → Int32} {w : Int32 × Int32 × Int32 × Int32 × Int32 × List (Int32 × Int32) × Option Stps} (H : LXH x tF T) (t0 : 0 ≤ text.toInt) (t6 : text.toInt ≤ 6) (h : AT x T a p) (m0 : ¬ md < 0) (m6 : ¬ 60 < md) (l0 : ¬ lines < 0) (l6 : ¬ 12 < lines) (hch : cf text.toNatClampNeg < 0 ↔ ch = 0) (hl : LGok text a lg) (k0 : 0 ≤ (cs text.toNatClampNeg).toInt) (k1 : (cs text.toNatClampNeg).toInt ≤ lines.toInt) (he : scl (tk x T) (nx x T) lines ch p md = .ok w) : RHC text sg lg cl cs cf w.2.2.2 (fX11_clauseHere T a 0 num text md deep lines opd tF sg lg cl cs cf op) :=
  QC_o (r_clhQ H t0 t6 h m0 m6 l0 l6 hch hl k0 k1) he
def fin (c : Int32) : Int32 := if 0 ≤ c then c else 0
def LWC (laws : Int32) (sg lg cl cs cf : Nat → Int32) (l : List (Int32 × Int32 × List (Int32 × Int32) × Option Stps)) (u : Int32 × Int32 × Int32 × Int32 × Int32 × Int32 × Int32 × Int32 × Int32 × Int32 × (Nat → Int32) × (Nat → Int32) × (Nat → Int32) × (Nat → Int32) × (Nat → Int32) × (Nat → Int32) × Int32) : Prop := ∃ B : Int, B ≤ 400 ∧ RS B u.2.2.2.2.2.2.2.2.2.2.1 u.2.2.2.2.2.2.2.2.2.2.2.2.1 laws.toNatClampNeg (cs laws.toNatClampNeg).toNatClampNeg l ∧ (u.2.2.2.2.2.2.2.2.2.2.2.2.2.1 laws.toNatClampNeg).toInt = (cs laws.toNatClampNeg).toInt + ncl l ∧ (u.2.2.2.2.2.2.2.2.2.2.2.2.2.1 laws.toNatClampNeg).toInt ≤ 12 ∧ EB u.2.2.2.2.2.2.2.2.2.2.1 sg (400 * laws.toNatClampNeg + (lg laws.toNatClampNeg).toNatClampNeg) ∧ (∀ i, i < 60 * laws.toNatClampNeg + 5 * (cs laws.toNatClampNeg).toNatClampNeg → u.2.2.2.2.2.2.2.2.2.2.2.2.1 i = cl i) ∧ (∀ j, j ≠ laws.toNatClampNeg → u.2.2.2.2.2.2.2.2.2.2.2.2.2.1 j = cs j ∧ u.2.2.2.2.2.2.2.2.2.2.2.2.2.2.1 j = cf j) ∧ u.2.2.2.2.2.2.2.2.2.2.2.2.2.2.1 laws.toNatClampNeg = fin (chn (cf laws.toNatClampNeg) l) ∧ ∀ q ∈ l, q.1 = 4 → 0 ≤ q.2.1.toInt
set_option maxHeartbeats 400000 in
theorem LE_okC {x tF : Nat → Int32} {T laws a q num md deep lines opd : Int32} {sg lg cl cs cf op : Nat → Int32} (H : LXH x tF T) (h : AT x T a q) (hq : T ≤ q) (c12 : (cs laws.toNatClampNeg).toInt ≤ 12) : LWC laws sg lg cl cs cf [] (LE T laws tF a 0 num md deep lines opd sg lg cl cs cf op 1) := by
  unfold LE
  simp only [bnd, AT_see H h]
  rw [if_neg (by decide), if_pos (show cA x T q = -1 by unfold cA; rw [if_pos hq]), if_pos (by decide)]
  have e0 : ∀ z : Int, z = z + ((ncl [] : Nat) : Int) := fun z => by show z = z + ((0 : Nat) : Int); omega
  by_cases c : 0 ≤ cf laws.toNatClampNeg
  · rw [if_pos c]
    exact ⟨400, Int.le_refl _, trivial, e0 _, c12, EB_rf, fun _ _ => rfl, fun _ _ => ⟨rfl, rfl⟩, by show cf laws.toNatClampNeg = fin (cf laws.toNatClampNeg); unfold fin; rw [if_pos c], fun q hq => by cases hq⟩
  · rw [if_neg c]
    exact ⟨400, Int.le_refl _, trivial, e0 _, c12, EB_rf, fun _ _ => rfl, fun j hj => ⟨rfl, upd_ne (fun q => hj q.symm)⟩, by show upd cf laws.toNatClampNeg 0 laws.toNatClampNeg = fin (cf laws.toNatClampNeg); unfold fin; rw [if_neg c, pk_us], fun q hq => by cases hq⟩
set_option maxHeartbeats 400000 in
/-- what a clause leaves, and what the rest of the text leaves behind it -/
theorem LWC_cons {laws : Int32} {sg lg cl cs cf : Nat → Int32} {q : (Int32 × Int32 × List (Int32 × Int32) × Option Stps)} {l : List (Int32 × Int32 × List (Int32 × Int32) × Option Stps)} {u : Int32 × Int32 × Int32 × Int32 × Int32 × Int32 × Int32 × (Nat → Int32) × (Nat → Int32) × (Nat → Int32) × (Nat → Int32) × (Nat → Int32) × (Nat → Int32) × Int32} {v : Int32 × Int32 × Int32 × Int32 × Int32 × Int32 × Int32 × Int32 × Int32 × Int32 × (Nat → Int32) × (Nat → Int32) × (Nat → Int32) × (Nat → Int32) × (Nat → Int32) × (Nat → Int32) × Int32} (g0 : 0 ≤ (lg laws.toNatClampNeg).toInt) (k0 : 0 ≤ (cs laws.toNatClampNeg).toInt) (hu : RHC laws sg lg cl cs cf q u) (hv : LWC laws u.2.2.2.2.2.2.2.1 u.2.2.2.2.2.2.2.2.1 u.2.2.2.2.2.2.2.2.2.1 u.2.2.2.2.2.2.2.2.2.2.1 u.2.2.2.2.2.2.2.2.2.2.2.1 l v) (hB : (u.2.2.2.2.2.2.2.2.1 laws.toNatClampNeg).toInt ≤ 400) : LWC laws sg lg cl cs cf (q :: l) v := by
  obtain ⟨a1, a2, a3, a4, a5, a6, a7, a8, a9⟩ := hu
  obtain ⟨B, b1, b2, b3, b4, b5, b6, b7, b8, b9⟩ := hv
  have e1 := tn_eq g0
  have e2 := tn_eq a1.1
  have e3 := tn_eq k0
  have e4 := tn_eq (a := u.2.2.2.2.2.2.2.2.2.2.1 laws.toNatClampNeg) (by omega)
  have hcl : ncl (q :: l) = ncl [q] + ncl l := by
    show (if q.1 = 4 then 0 else 1) + ncl l = ((if q.1 = 4 then 0 else 1) + 0) + ncl l
    rw [Nat.add_zero]
  refine ⟨400, Int.le_refl _, ?_, by rw [hcl]; omega, b4, EB_tr b5 a3 (by omega), fun i hi => (b6 i (by omega)).trans (a6 i hi), fun j hj => ⟨(b7 j hj).1.trans (a5 j hj), (b7 j hj).2.trans ?_⟩, ?_, fun x hx => (List.mem_cons.mp hx).elim (fun e => by rw [e]; exact a9) (b9 x)⟩
  · refine RS_app ?_ ?_
    · exact RS_eb hB (fun i hi => b5 i (by omega)) _ _ a7 (fun i h1 hi => b6 i (by omega))
    · rw [show (cs laws.toNatClampNeg).toNatClampNeg + ncl [q] = (u.2.2.2.2.2.2.2.2.2.2.1 laws.toNatClampNeg).toNatClampNeg from by omega]
      exact RS_eb b1 (fun i hi => rfl) _ _ b2 (fun i _ _ => rfl)
  · rw [a8]
    split
    · exact upd_ne (fun q => hj q.symm)
    · rfl
  · rw [b8, a8]
    show fin (chn _ l) = fin (chn (if q.1 = 4 then q.2.1 else cf laws.toNatClampNeg) l)
    by_cases c : q.1 = 4
    · rw [if_pos c, if_pos c, pk_us]
    · rw [if_neg c, if_neg c]
set_option maxHeartbeats 400000 in
theorem law_goC {x tF : Nat → Int32} {T laws aa p ch md lines : Int32} {N m : Nat} {sg lg cl cs cf : Nat → Int32} {w : Int32 × Int32 × Int32 × Int32 × Int32 × List (Int32 × Int32) × Option Stps} {u : Int32 × Int32 × Int32 × Int32 × Int32 × Int32 × Int32 × (Nat → Int32) × (Nat → Int32) × (Nat → Int32) × (Nat → Int32) × (Nat → Int32) × (Nat → Int32) × Int32} {l : List (Int32 × Int32 × List (Int32 × Int32) × Option Stps)} (H : LXH x tF T) (g0 : 0 ≤ (lg laws.toNatClampNeg).toInt) (k0 : 0 ≤ (cs laws.toNatClampNeg).toInt) (k1 : (cs laws.toNatClampNeg).toInt ≤ lines.toInt) (hv : HR x T aa lines laws (.ok w) u) (hc : RHC laws sg lg cl cs cf w.2.2.2 u) (hw : scl (tk x T) (nx x T) lines ch p md = .ok w) (he : (if tk x T w.1 = 258 then .ok [w.2.2.2] else if tk x T w.1 = 59 then exb (srd (tk x T) (nx x T) m (lines + 1) w.2.2.1 (nx x T w.1) w.2.1) (fun l => .ok (w.2.2.2 :: l)) else .error (flt w.1 0) : Except Int32 (List (Int32 × Int32 × List (Int32 × Int32) × Option Stps))) = .ok l) (hk : ∀ (a' : Int32) (sg' lg' cl' cs' cf' op' : Nat → Int32) (num' deep' opd' : Int32), a' = u.1 → AT x T a' w.1 → ¬ w.2.1 < 0 → ¬ 60 < w.2.1 → (cf' laws.toNatClampNeg < 0 ↔ w.2.2.1 = 0) → aa < a' → LGok laws a' lg' → 0 ≤ (cs' laws.toNatClampNeg).toInt → (cs' laws.toNatClampNeg).toInt ≤ (lines + 1).toInt → ∀ l' : List (Int32 × Int32 × List (Int32 × Int32) × Option Stps), sR (tk x T) (nx x T) m (lines + 1) w.2.2.1 w.1 w.2.1 = .ok l' → LWC laws sg' lg' cl' cs' cf' l' (fl_mX11_law_74 T laws tF (LE T laws tF) N a' 0 num' w.2.1 deep' (lines + 1) opd' sg' lg' cl' cs' cf' op' 1)) (l0 : ¬ lines < 0) : LWC laws sg lg cl cs cf l (KN (fl_mX11_law_74 T laws tF (LE T laws tF) N) u) := by
  obtain ⟨⟨z1, z2, z3, z4, z5, z6, z7, z8, z9⟩, _⟩ := hv
  obtain ⟨n1, n2, n3, n4⟩ := p_up H z1
  have hl1 : (lines + 1).toInt = lines.toInt + 1 := by
    have h12 := scl_num hw
    rw [Int32.le_iff_toInt_le, show (12 : Int32).toInt = 12 from by decide] at h12
    exact zadd1 (by omega)
  have hnl : ncl [w.2.2.2] ≤ 1 := by
    unfold ncl
    split <;> (show _ + 0 ≤ 1; omega)
  unfold KN
  rw [z3, z4, z7, z9]
  have hcs : (u.2.2.2.2.2.2.2.2.2.2.1 laws.toNatClampNeg).toInt = (cs laws.toNatClampNeg).toInt + ncl [w.2.2.2] := hc.2.2.2.1
  have hB : (u.2.2.2.2.2.2.2.2.1 laws.toNatClampNeg).toInt ≤ 400 := by
    have := hc.1.2
    omega
  have fin2 : ∀ l', sR (tk x T) (nx x T) m (lines + 1) w.2.2.1 w.1 w.2.1 = .ok l' → l = w.2.2.2 :: l' → LWC laws sg lg cl cs cf l (fl_mX11_law_74 T laws tF (LE T laws tF) N u.1 0 u.2.2.1 w.2.1 u.2.2.2.2.1 (lines + 1) u.2.2.2.2.2.2.1 u.2.2.2.2.2.2.2.1 u.2.2.2.2.2.2.2.2.1 u.2.2.2.2.2.2.2.2.2.1 u.2.2.2.2.2.2.2.2.2.2.1 u.2.2.2.2.2.2.2.2.2.2.2.1 u.2.2.2.2.2.2.2.2.2.2.2.2.1 1) := by
    intro l' h1 h2
    rw [h2]
    exact LWC_cons g0 k0 hc (hk u.1 u.2.2.2.2.2.2.2.1 u.2.2.2.2.2.2.2.2.1 u.2.2.2.2.2.2.2.2.2.1 u.2.2.2.2.2.2.2.2.2.2.1 u.2.2.2.2.2.2.2.2.2.2.2.1 u.2.2.2.2.2.2.2.2.2.2.2.2.1 u.2.2.1 u.2.2.2.2.1 u.2.2.2.2.2.2.1 rfl z1 z5 z6 z8 z2 hc.1 (by omega) (by omega) l' h1) hB
  by_cases t : tk x T w.1 = 258
  · rw [if_pos t] at he
    cases he
    exact fin2 [] (sR_e t) rfl
  · rw [if_neg t] at he
    by_cases s : tk x T w.1 = 59
    · rw [if_pos s] at he
      obtain ⟨r, hr, he⟩ := exb_inv he
      cases he
      exact fin2 r (by rw [sR_t s]; exact hr) rfl
    · rw [if_neg s] at he; cases he
set_option maxHeartbeats 400000 in
theorem r_lawLC {x tF : Nat → Int32} {T laws : Int32} (H : LXH x tF T) (t0 : 0 ≤ laws.toInt) (t6 : laws.toInt ≤ 6) : ∀ (m N : Nat) (a q num md deep lines opd ch : Int32) (sg lg cl cs cf op : Nat → Int32) (l : List (Int32 × Int32 × List (Int32 × Int32) × Option Stps)), AT x T a q → ¬ md < 0 → ¬ 60 < md → ¬ lines < 0 → ¬ 12 < lines → (cf laws.toNatClampNeg < 0 ↔ ch = 0) → (T.toInt - a.toInt).toNat < N → LGok laws a lg → 0 ≤ (cs laws.toNatClampNeg).toInt → (cs laws.toNatClampNeg).toInt ≤ lines.toInt → sR (tk x T) (nx x T) m lines ch q md = .ok l → LWC laws sg lg cl cs cf l (fl_mX11_law_74 T laws tF (LE T laws tF) N a 0 num md deep lines opd sg lg cl cs cf op 1) := by
  intro m
  induction m with
  | zero =>
    intro N a q num md deep lines opd ch sg lg cl cs cf op l h m0 m6 l0 l6 hch hN hl k0 k1 he
    obtain ⟨q1, q2, q3, hq⟩ := AT_in h
    cases N with
    | zero => exact absurd hN (Nat.not_lt_zero _)
    | succ N =>
      have h0 : fl_mX11_law_74 T laws tF (LE T laws tF) (N + 1) a 0 num md deep lines opd sg lg cl cs cf op 1 = fb_mX11_law_74 T laws tF (LE T laws tF) (fl_mX11_law_74 T laws tF (LE T laws tF) N) a 0 num md deep lines opd sg lg cl cs cf op 1 := rfl
      rw [h0, law_bd H h]
      obtain ⟨k1, k2⟩ := cA_tk (c := 59) H hq ⟨by decide, by decide, by decide, by decide, by decide, by decide⟩
      by_cases t : tk x T q = 59
      · rw [sR_t t] at he; cases he
      · rw [if_neg (fun g => t (k1.mp g))]
        by_cases hqT : T ≤ q
        · rw [sR_e (tk_T hqT)] at he
          cases he
          exact LE_okC H hq hqT (by rw [Int32.lt_iff_toInt_lt, show (12 : Int32).toInt = 12 from by decide] at l6; omega)
        · rw [sR_n (tk_258 H q3 hq.2.2 hqT) t] at he; cases he
  | succ m ih =>
    intro N a q num md deep lines opd ch sg lg cl cs cf op l h m0 m6 l0 l6 hch hN hl k0 k1 he
    obtain ⟨q1, q2, q3, hq⟩ := AT_in h
    cases N with
    | zero => exact absurd hN (Nat.not_lt_zero _)
    | succ N =>
      have h0 : fl_mX11_law_74 T laws tF (LE T laws tF) (N + 1) a 0 num md deep lines opd sg lg cl cs cf op 1 = fb_mX11_law_74 T laws tF (LE T laws tF) (fl_mX11_law_74 T laws tF (LE T laws tF) N) a 0 num md deep lines opd sg lg cl cs cf op 1 := rfl
      rw [h0, law_bd H h]
      obtain ⟨k1', k2⟩ := cA_tk (c := 59) H hq ⟨by decide, by decide, by decide, by decide, by decide, by decide⟩
      by_cases t : tk x T q = 59
      · obtain ⟨b1, b2, b3, b4⟩ := k2 t
        rw [if_pos (k1'.mpr t)]
        rw [sR_t t] at he
        rw [srd_s] at he
        obtain ⟨w, hw, he⟩ := exb_inv he
        obtain ⟨n1, n2, n3, n4⟩ := p_up H h
        have hv := HR_sub hw (r_clhe (num := num) (deep := deep) (opd := opd) (sg := sg) (lg := lg) (cl := cl) (cs := cs) (op := op) H b3 m0 m6 l0 l6 hch)
        have hc := r_clheC (num := num) (deep := deep) (opd := opd) (sg := sg) (cl := cl) (op := op) H t0 t6 b3 m0 m6 l0 l6 hch ⟨hl.1, by have := hl.2; omega⟩ k0 k1 hw
        generalize fX11_clauseHere T (q + 1) 0 num laws md deep lines opd tF sg lg cl cs cf op = u at hv hc ⊢
        exact law_goC H hl.1 k0 k1 hv hc hw he (fun a' sg' lg' cl' cs' cf' op' num' deep' opd' _ h1 h2 h3 h4 h5 h6 h7 h8 l' hR => ih N a' w.1 num' w.2.1 deep' (lines + 1) opd' w.2.2.1 sg' lg' cl' cs' cf' op' l' h1 h2 h3 (li_1 l0 (scl_num hw)).1 (li_1 l0 (scl_num hw)).2 h4 (by have x1 := Int32.lt_iff_toInt_lt.mp h5; have x2 := Int32.lt_iff_toInt_lt.mp (i_tr4 q1 b2); have x3 := h1.2.1; rw [Int32.lt_iff_toInt_lt] at x3; omega) h6 h7 h8 hR) (l0 := l0)
      · rw [if_neg (fun g => t (k1'.mp g))]
        by_cases hqT : T ≤ q
        · rw [sR_e (tk_T hqT)] at he
          cases he
          exact LE_okC H hq hqT (by rw [Int32.lt_iff_toInt_lt, show (12 : Int32).toInt = 12 from by decide] at l6; omega)
        · rw [sR_n (tk_258 H q3 hq.2.2 hqT) t] at he; cases he
set_option maxHeartbeats 400000 in
/-- the whole text, read by the reference -/
theorem r_lawC {x tF : Nat → Int32} {T laws nxt wr num text md deep lines opd : Int32} {sg lg cl cs cf op : Nat → Int32} {l : List (Int32 × Int32 × List (Int32 × Int32) × Option Stps)} (H : LXH x tF T) (t0 : 0 ≤ laws.toInt) (t6 : laws.toInt ≤ 6) (hl : ¬ laws = 6) (he : srt (tk x T) (nx x T) (sp x T 0) = .ok l) : LWC laws sg (upd lg laws.toNatClampNeg 0) cl (upd cs laws.toNatClampNeg 0) (upd cf laws.toNatClampNeg (-1)) l (fX11_law T laws nxt wr num text md deep lines opd tF sg lg cl cs cf op) := by
  have h0 : AT x T 0 (sp x T 0) := ⟨by decide, H.1, rfl⟩
  have hch : (upd cf laws.toNatClampNeg (-1)) laws.toNatClampNeg < 0 ↔ (0 : Int32) = 0 := by
    rw [pk_us]
    exact ⟨fun _ => rfl, fun _ => by decide⟩
  rw [law_u0 hl]
  have hdef : srt (tk x T) (nx x T) (sp x T 0) = srd (tk x T) (nx x T) (12 + 1) 0 0 (sp x T 0) 0 := rfl
  rw [hdef, srd_s] at he
  obtain ⟨w, hw, he⟩ := exb_inv he
  have g0 : LGok laws 0 (upd lg laws.toNatClampNeg 0) := by
    unfold LGok
    rw [pk_us]
    decide
  have k0 : (upd cs laws.toNatClampNeg 0 laws.toNatClampNeg).toInt = 0 := by rw [pk_us]; rfl
  have hv := HR_sub hw (r_clhe (num := num) (text := laws) (deep := deep) (lines := 0) (opd := opd) (sg := sg) (lg := upd lg laws.toNatClampNeg 0) (cl := cl) (cs := upd cs laws.toNatClampNeg 0) (op := op) (md := 0) H h0 (by decide) (by decide) (by decide) (by decide) hch)
  have hc := r_clheC (num := num) (deep := deep) (lines := 0) (opd := opd) (sg := sg) (cl := cl) (cs := upd cs laws.toNatClampNeg 0) (op := op) (md := 0) H t0 t6 h0 (by decide) (by decide) (by decide) (by decide) hch g0 (by omega) (by rw [k0]; decide) hw
  generalize fX11_clauseHere T 0 0 num laws 0 deep 0 opd tF sg (upd lg laws.toNatClampNeg 0) cl (upd cs laws.toNatClampNeg 0) (upd cf laws.toNatClampNeg (-1)) op = u at hv hc ⊢
  exact law_goC H g0.1 (by omega) (by rw [k0]; decide) hv hc hw he (fun a' sg' lg' cl' cs' cf' op' num' deep' opd' h9 h1 h2 h3 h4 h5 h6 h7 h8 l' hR => r_lawLC H t0 t6 12 _ a' w.1 num' w.2.1 deep' (0 + 1) opd' w.2.2.1 sg' lg' cl' cs' cf' op' l' h1 h2 h3 (by decide) (by decide) h4 (by rw [h9]; exact Nat.lt_succ_self _) h6 h7 h8 hR) (l0 := by decide)
set_option maxHeartbeats 400000 in
theorem chn_x : ∀ (l : List (Int32 × Int32 × List (Int32 × Int32) × Option Stps)) (c d : Int32), (∀ q ∈ l, q.1 = 4 → 0 ≤ q.2.1.toInt) → (chn c l = c ∧ chn d l = d) ∨ (chn c l = chn d l ∧ 0 ≤ (chn c l).toInt) := by
  intro l
  induction l with
  | nil => intro c d _; exact Or.inl ⟨rfl, rfl⟩
  | cons q l ih =>
    intro c d h
    have h1 := h q List.mem_cons_self
    have h2 := fun x hx => h x (List.mem_cons_of_mem _ hx)
    unfold chn
    by_cases e : q.1 = 4
    · rw [if_pos e]
      have := ih q.2.1 q.2.1 h2
      refine Or.inr ⟨by rw [if_pos e], ?_⟩
      rcases this with ⟨z, _⟩ | ⟨_, z⟩
      · rw [z]; exact h1 e
      · exact z
    · rw [if_neg e, if_neg e]
      exact ih c d h2
set_option maxHeartbeats 400000 in
theorem fin_chn {l : List (Int32 × Int32 × List (Int32 × Int32) × Option Stps)} (h : ∀ q ∈ l, q.1 = 4 → 0 ≤ q.2.1.toInt) : fin (chn (-1) l) = chn 0 l := by
  rcases chn_x l (-1) 0 h with ⟨a, b⟩ | ⟨a, b⟩
  · rw [a, b]; rfl
  · unfold fin
    rw [if_pos (show (0 : Int32) ≤ chn (-1) l by rw [Int32.le_iff_toInt_le, z_i0]; exact b), a]
