theorem clhe_g {α : Type} {tk nx : Int32 → Int32} {p n lines ch : Int32} {Q : Except Int32 (Int32 × Int32 × Int32 × Int32 × Int32 × List (Int32 × Int32) × Option (List (Int32 × List (Int32 × Int32) × List (Int32 × Int32)))) → α → Prop} {E4 E0 E5 B0 B1 B2 B3 C5 : α} {c : Prop} {dc : Decidable c} (q4 : Q (.error (flt p 4)) E4) (q0 : Q (.error (flt p 0)) E0) (q5 : Q (.error (flt p 4)) E5) (b0 : tk p = 311 → Q (sbd tk nx (311 - 311) ch (nx p) n) B0) (b1 : tk p = 312 → Q (sbd tk nx (312 - 311) ch (nx p) n) B1) (b2 : tk p = 313 → Q (sbd tk nx (313 - 311) ch (nx p) n) B2) (b3 : tk p = 314 → Q (sbd tk nx (314 - 311) ch (nx p) n) B3) (b5 : tk p = 315 → Q (sch tk nx (nx p) n) C5) (hc : c ↔ ch = 0) (l6 : ¬ 12 < lines) (h0 : ¬ tk p < 0) (h1 : ¬ 100999 < tk p) : Q (scl tk nx lines ch p n) (if tk p = 311 then (if lines = 12 then E4 else B0) else if tk p = 312 then (if lines = 12 then E4 else B1) else if tk p = 313 then (if lines = 12 then E4 else B2) else if tk p = 314 then (if lines = 12 then E4 else B3) else if tk p = 315 then (if lines = 12 then E4 else if c then C5 else E5) else E0) := by
  by_cases c1 : tk p = 311
  · rw [if_pos c1]
    by_cases l12 : lines = 12
    · rw [if_pos l12, scl_a c1 (by decide) (by decide) (i_12 l12)]
      exact q4
    · rw [if_neg l12, scl_b c1 (by decide) (by decide) (i_12n l12 l6) (by decide)]
      exact b0 c1
  rw [if_neg c1]
  by_cases c2 : tk p = 312
  · rw [if_pos c2]
    by_cases l12 : lines = 12
    · rw [if_pos l12, scl_a c2 (by decide) (by decide) (i_12 l12)]
      exact q4
    · rw [if_neg l12, scl_b c2 (by decide) (by decide) (i_12n l12 l6) (by decide)]
      exact b1 c2
  rw [if_neg c2]
  by_cases c3 : tk p = 313
  · rw [if_pos c3]
    by_cases l12 : lines = 12
    · rw [if_pos l12, scl_a c3 (by decide) (by decide) (i_12 l12)]
      exact q4
    · rw [if_neg l12, scl_b c3 (by decide) (by decide) (i_12n l12 l6) (by decide)]
      exact b2 c3
  rw [if_neg c3]
  by_cases c4 : tk p = 314
  · rw [if_pos c4]
    by_cases l12 : lines = 12
    · rw [if_pos l12, scl_a c4 (by decide) (by decide) (i_12 l12)]
      exact q4
    · rw [if_neg l12, scl_b c4 (by decide) (by decide) (i_12n l12 l6) (by decide)]
      exact b3 c4
  rw [if_neg c4]
  by_cases c5 : tk p = 315
  · rw [if_pos c5]
    by_cases l12 : lines = 12
    · rw [if_pos l12, scl_a c5 (by decide) (by decide) (i_12 l12)]
      exact q4
    · rw [if_neg l12, scl_c c5 (i_12n l12 l6)]
      by_cases h : c
      · rw [if_pos h, if_pos (hc.mp h)]
        exact b5 c5
      · rw [if_neg h, if_neg (fun g => h (hc.mpr g))]
        exact q5
  rw [if_neg c5, scl_z c1 c2 c3 c4 c5 h0 h1]
  exact q0
set_option maxHeartbeats 8000000 in
theorem r_clhe {x tF : Nat → Int32} {T a p num text md deep lines opd ch : Int32} {sg lg cl cs cf op : Nat → Int32} (H : LXH x tF T) (h : AT x T a p) (m0 : ¬ md < 0) (m6 : ¬ 60 < md) (l0 : ¬ lines < 0) (l6 : ¬ 12 < lines) (hch : cf text.toNatClampNeg < 0 ↔ ch = 0) : HR x T a lines text (scl (tk x T) (nx x T) lines ch p md) (fX11_clauseHere T a 0 num text md deep lines opd tF sg lg cl cs cf op) := by
  obtain ⟨q1, q2, q3, hp⟩ := AT_in h
  have l := fun (g1 : 311 ≤ tk x T p) (g2 : tk x T p ≤ 315) => tk_let H q3 hp g1 g2
  have b := fun (k ss s : Int32) (g1 : 311 ≤ k) (g2 : k ≤ 315) (e : tk x T p = k) => r_bod2 (num := num) (deep := deep) (opd := opd) (sg := sg) (lg := lg) (cl := cl) (cs := cs) (op := op) (lines := lines) H hp q1 (l (by rw [e]; exact g1) (by rw [e]; exact g2)).1 (l (by rw [e]; exact g1) (by rw [e]; exact g2)).2 m0 m6 hch s ss
  rw [clhe_u H h hp q3]
  refine clhe_g (Q := HR x T a lines text) EP_r EP_r EP_r (b 311 0 _ (by decide) (by decide)) (b 312 1 _ (by decide) (by decide)) (b 313 2 _ (by decide) (by decide)) (b 314 3 _ (by decide) (by decide)) (fun e => ?_) hch l6 (tk_bnd H q3 hp).1 (tk_bnd H q3 hp).2
  obtain ⟨hT, hle⟩ := l (by rw [e]; decide) (by rw [e]; decide)
  obtain ⟨s1, s2⟩ := st_l hp hT hle
  exact CN_r H q1 s1 s2 m0 m6
theorem r_clhq {x tF : Nat → Int32} {T a p num text md deep lines opd ch : Int32} {sg lg cl cs cf op : Nat → Int32} (H : LXH x tF T) (h : AT x T a p) (m0 : ¬ md < 0) (m6 : ¬ 60 < md) (l0 : ¬ lines < 0) (l6 : ¬ 12 < lines) (hch : cf text.toNatClampNeg < 0 ↔ ch = 0) : ∃ u r, fX11_clauseHere T a 0 num text md deep lines opd tF sg lg cl cs cf op = u ∧ scl (tk x T) (nx x T) lines ch p md = r ∧ HR x T a lines text r u := ⟨_, _, rfl, rfl, r_clhe H h m0 m6 l0 l6 hch⟩
