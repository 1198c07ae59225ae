set_option maxHeartbeats 4000000 in
theorem clhe_u {x tF : Nat → Int32} {T a p num text md deep lines opd : Int32} {sg lg cl cs cf op : Nat → Int32} (H : LXH x tF T) (h : AT x T a p) (hp : AT x T p p) (p0 : ¬ p < 0) : fX11_clauseHere T a 0 num text md deep lines opd tF sg lg cl cs cf op = if tk x T p = 311 then (if lines = 12 then EP p 4 num md deep lines opd sg lg cl cs cf op else BT lines cf (fX11_clauseOf T p 0 num text md deep opd tF sg lg cl cs op 0)) else if tk x T p = 312 then (if lines = 12 then EP p 4 num md deep lines opd sg lg cl cs cf op else BT lines cf (fX11_clauseOf T p 0 num text md deep opd tF sg lg cl cs op 1)) else if tk x T p = 313 then (if lines = 12 then EP p 4 num md deep lines opd sg lg cl cs cf op else BT lines cf (fX11_clauseOf T p 0 num text md deep opd tF sg lg cl cs op 2)) else if tk x T p = 314 then (if lines = 12 then EP p 4 num md deep lines opd sg lg cl cs cf op else BT lines cf (fX11_clauseOf T p 0 num text md deep opd tF sg lg cl cs op 3)) else if tk x T p = 315 then (if lines = 12 then EP p 4 num md deep lines opd sg lg cl cs cf op else if cf text.toNatClampNeg < 0 then CN md deep lines opd text sg lg cl cs cf op (fX11_numberHere T (we x T p) 0 num tF 0 10) else EP p 4 num md deep (lines + 1) opd sg lg cl cs cf op) else EP p 0 num md deep lines opd sg lg cl cs cf op := by
  unfold fX11_clauseHere
  simp only [bnd, AT_see H h, AT_w11 H hp, AT_w12 H hp, AT_w13 H hp, AT_w14 H hp, AT_w15 H hp, fails0, lx_pass H p0, ite10]
  rfl
theorem r_bod2 {x tF : Nat → Int32} {T a p num text md deep lines opd ch : Int32} {sg lg cl cs cf op : Nat → Int32} (H : LXH x tF T) (hp : AT x T p p) (hpa : ¬ p < a) (hT : ¬ T ≤ p) (hl : ¬ fX2_isLetter (x p.toNatClampNeg) = 0) (m0 : ¬ md < 0) (m6 : ¬ 60 < md) (hch : cf text.toNatClampNeg < 0 ↔ ch = 0) (s ss : Int32) : HR x T a lines text (sbd (tk x T) (nx x T) s ch (nx x T p) md) (BT lines cf (fX11_clauseOf T p 0 num text md deep opd tF sg lg cl cs op ss)) := by
  have hk := r_clof (num := num) (text := text) (deep := deep) (opd := opd) (s := s) (ch := ch) (sg := sg) (lg := lg) (cl := cl) (cs := cs) (op := op) H hp hT hl m0 m6 ss
  have hc := @sbd_ch (tk x T) (nx x T) s ch (nx x T p) md
  generalize fX11_clauseOf T p 0 num text md deep opd tF sg lg cl cs op ss = u at hk ⊢
  generalize sbd (tk x T) (nx x T) s ch (nx x T p) md = X at hk hc ⊢
  cases X with
  | error e => exact ⟨hk, trivial⟩
  | ok w =>
    obtain ⟨k1, k2, k3, k4, k5, k6, k7⟩ := hk
    exact ⟨⟨k1, i_tr4 hpa k2, k3, k4, k5, k6, rfl, by rw [hc rfl]; exact hch, k7⟩, trivial⟩
theorem EP_r {x : Nat → Int32} {T a l ix p k num md deep lines opd : Int32} {sg lg cl cs cf op : Nat → Int32} : HR x T a l ix (.error (flt p k)) (EP p k num md deep lines opd sg lg cl cs cf op) := ⟨⟨rfl, rfl⟩, trivial⟩
set_option maxHeartbeats 8000000 in
theorem CN_r {x tF : Nat → Int32} {T a p num text md deep lines opd : Int32} {sg lg cl cs cf op : Nat → Int32} (H : LXH x tF T) (hap : ¬ p < a) (hp : p < we x T p) (s2 : AT x T (we x T p) (nx x T p)) (m0 : ¬ md < 0) (m6 : ¬ 60 < md) : HR x T a lines text (sch (tk x T) (nx x T) (nx x T p) md) (CN md deep lines opd text sg lg cl cs cf op (fX11_numberHere T (we x T p) 0 num tF 0 10)) := by
  obtain ⟨w1, w2, w3, hq⟩ := AT_in s2
  unfold sch snm
  by_cases hqT : T ≤ nx x T p
  · have e0 : fX11_numberHere T (we x T p) 0 num tF 0 10 = (nx x T p, flt (nx x T p) 0, num, 0) := by
      unfold fX11_numberHere
      simp only [bnd, AT_see H s2, LXH_d H w3, if_pos hqT, fails0]
      all_goals rfl
    rw [e0, tk_T hqT]
    exact ⟨⟨rfl, rfl⟩, trivial⟩
  · by_cases hd : fX2_isDigit (x (nx x T p).toNatClampNeg) = 0
    · have e0 : fX11_numberHere T (we x T p) 0 num tF 0 10 = (nx x T p, flt (nx x T p) 0, num, 0) := by
        unfold fX11_numberHere
        simp only [bnd, AT_see H s2, LXH_d H w3, if_neg hqT, if_pos hd, fails0]
        all_goals rfl
      rw [e0]
      have hkk : (¬ tk x T (nx x T p) = 259) ∧ ¬ (1000 : Int32) ≤ tk x T (nx x T p) := by
        rcases tk_kinds H w3 hq.2.2 hqT with g | g | g
        · grind
        · exact absurd hd g.1
        · grind
      rw [if_neg hkk.1, if_neg hkk.2]
      exact ⟨⟨rfl, rfl⟩, trivial⟩
    · have z := lx_num (w := 0) (num := num) (lo := 0) (hi := 10) H s2.1 s2.2.1 (by rw [s2.2.2]; exact hqT) (by rw [s2.2.2]; exact hd)
      rw [s2.2.2] at z
      obtain ⟨v1, v2⟩ := st_d hq hqT hd
      rcases z with ⟨_, z2, v', z3⟩ | ⟨z1, z2, z3, z4⟩
      · rw [z3, z2, fails0]
        exact ⟨⟨rfl, rfl⟩, trivial⟩
      · rw [li_if (lo := 0) (hi := 10) rfl rfl, if_neg (show ¬ tk x T (nx x T p) - 1000 < 0 by grind)] at z4
        rw [if_neg z1, if_pos (show 1000 ≤ tk x T (nx x T p) by grind), if_neg (show ¬ tk x T (nx x T p) - 1000 < 0 by grind)]
        by_cases d : tk x T (nx x T p) - 1000 ≤ 10
        · rw [if_neg (show ¬ 10 < tk x T (nx x T p) - 1000 by grind), if_neg (by decide)] at z4
          rw [z4, if_pos d]
          unfold CN
          dsimp only
          rw [if_neg (by decide)]
          refine ⟨⟨v2, i_tr4 hap (i_trans3 (i_trans3 hp w1) (i_as v1)), rfl, rfl, m0, m6, rfl, ?_, rfl⟩, trivial⟩
          show (upd cf text.toNatClampNeg (tk x T (nx x T p) - 1000)) text.toNatClampNeg < 0 ↔ (1 : Int32) = 0
          rw [pk_us]
          exact ⟨fun g => absurd g (by grind), fun g => absurd g (by decide)⟩
        · rw [if_pos (show 10 < tk x T (nx x T p) - 1000 by grind), if_pos rfl] at z4
          rw [z4, if_neg d, fails0]
          exact ⟨⟨rfl, rfl⟩, trivial⟩
theorem scl_a {tk nx : Int32 → Int32} {num ch p n k : Int32} (h : tk p = k) (h2 : ¬ k - 311 < 0) (h3 : k - 311 ≤ 4) (h4 : 12 ≤ num) : scl tk nx num ch p n = .error (flt p 4) := by
  unfold scl
  rw [h, if_neg h2, if_pos h3, if_pos h4]
theorem scl_b {tk nx : Int32 → Int32} {num ch p n k : Int32} (h : tk p = k) (h2 : ¬ k - 311 < 0) (h3 : k - 311 ≤ 4) (h4 : ¬ 12 ≤ num) (h5 : ¬ k - 311 = 4) : scl tk nx num ch p n = sbd tk nx (k - 311) ch (nx p) n := by
  unfold scl
  rw [h, if_neg h2, if_pos h3, if_neg h4, if_neg h5]
theorem scl_c {tk nx : Int32 → Int32} {num ch p n : Int32} (h : tk p = 315) (h4 : ¬ 12 ≤ num) : scl tk nx num ch p n = if ch = 0 then sch tk nx (nx p) n else .error (flt p 4) := by
  unfold scl
  rw [h, if_neg (by decide), if_pos (by decide), if_neg h4, if_pos (by decide)]
theorem scl_n {k : Int32} (n1 : ¬ k = 311) (n2 : ¬ k = 312) (n3 : ¬ k = 313) (n4 : ¬ k = 314) (n5 : ¬ k = 315) (h0 : ¬ k < 0) (h1 : ¬ 100999 < k) (h2 : ¬ k - 311 < 0) : ¬ k - 311 ≤ 4 := by grind
theorem scl_z {tk nx : Int32 → Int32} {num ch p n : Int32} (n1 : ¬ tk p = 311) (n2 : ¬ tk p = 312) (n3 : ¬ tk p = 313) (n4 : ¬ tk p = 314) (n5 : ¬ tk p = 315) (h0 : ¬ tk p < 0) (h1 : ¬ 100999 < tk p) : scl tk nx num ch p n = .error (flt p 0) := by
  unfold scl
  by_cases c : tk p - 311 < 0
  · rw [if_pos c]
  · rw [if_neg c, if_neg (scl_n n1 n2 n3 n4 n5 h0 h1 c)]
theorem i_12 {l : Int32} (h : l = 12) : 12 ≤ l := by grind
theorem i_12n {l : Int32} (h : ¬ l = 12) (h2 : ¬ 12 < l) : ¬ 12 ≤ l := by grind
theorem tk_let {x tF : Nat → Int32} {T p : Int32} (H : LXH x tF T) (p0 : ¬ p < 0) (hp : AT x T p p) (h : 311 ≤ tk x T p) (h2 : tk x T p ≤ 315) : (¬ T ≤ p) ∧ ¬ fX2_isLetter (x p.toNatClampNeg) = 0 := by
  have hT : ¬ T ≤ p := fun g => by rw [tk_T g] at h; exact absurd h (by decide)
  refine ⟨hT, ?_⟩
  rcases tk_kinds H p0 hp.2.2 hT with g | g | g
  · exact g.1
  · grind
  · grind
theorem tk_bnd {x tF : Nat → Int32} {T p : Int32} (H : LXH x tF T) (p0 : ¬ p < 0) (hp : AT x T p p) : (¬ tk x T p < 0) ∧ ¬ 100999 < tk x T p := by
  by_cases hT : T ≤ p
  · rw [tk_T hT]; decide
  · rcases tk_kinds H p0 hp.2.2 hT with g | g | g <;> grind
