set_option maxHeartbeats 400000 in
theorem sp_n {x : Nat → Int32} {T p : Int32} (hp : ¬ T ≤ p) (h : ¬ x p.toNatClampNeg = 32) : sp x T p = p := by
  unfold sp skL
  rw [if_neg hp, if_neg h]
set_option maxHeartbeats 400000 in
theorem RA_spl {sg : Nat → Int32} : ∀ {l l2 : List (Int32 × Int32)} {a : Nat}, RA sg a (l ++ l2) → RA sg a l ∧ RA sg (a + l.length) l2
  | [], _, _, h => ⟨trivial, h⟩
  | q :: l, l2, a, h => by
    obtain ⟨h1, h2, h3, h4, h5⟩ := h
    have := RA_spl (l := l) h5
    refine ⟨⟨h1, h2, h3, h4, this.1⟩, ?_⟩
    rw [List.length_cons, show a + (l.length + 1) = a + 1 + l.length from by omega]
    exact this.2
set_option maxHeartbeats 400000 in
theorem tkh {x tF : Nat → Int32} {T : Int32} (H : LXH x tF T) : TKH (tk x T) (nx x T) := by
  intro p p0
  by_cases hp : T ≤ p
  · have e := tk_T (x := x) hp
    exact ⟨by rw [e]; decide, fun q => absurd e q⟩
  · have hsp : ∀ a : Int32, ¬ a < 0 → ¬ T < a → ¬ sp x T a < 0 := fun a a0 aT => (AT_in (x := x) (T := T) (a := a) (p := sp x T a) ⟨a0, aT, rfl⟩).2.2.1
    by_cases hl : fX2_isLetter (x p.toNatClampNeg) = 0
    · by_cases hd : fX2_isDigit (x p.toNatClampNeg) = 0
      · have e := tk_o hp hl hd
        have es := so_o (T := T) hl hd
        have hb := LXH_b H p0 hp
        by_cases g : (x p.toNatClampNeg = 60 ∨ x p.toNatClampNeg = 62) ∧ (¬ T ≤ p + 1) ∧ x (p + 1).toNatClampNeg = 61
        · rw [if_pos g] at e es
          refine ⟨?_, fun _ => ?_⟩
          · rw [e]; split <;> decide
          · unfold nx
            rw [es]
            exact hsp _ (a_nn g.2.1 (a_nn hp p0)) (a_le g.2.1)
        · rw [if_neg g] at e es
          refine ⟨?_, fun _ => ?_⟩
          · rw [e]; grind
          · unfold nx
            rw [es]
            exact hsp _ (a_nn hp p0) (a_le hp)
      · have hs : sp x T p = p := sp_n hp (fun q => hd (by rw [q]; decide))
        have hpp : AT x T p p := ⟨p0, fun q => hp (Int32.le_of_lt q), hs⟩
        obtain ⟨_, s2⟩ := st_d hpp hp hd
        rcases tk_kinds H p0 hs hp with g | g | g
        · exact absurd hl g.1
        · exact ⟨by rcases g.2 with r | r <;> grind, fun _ => (AT_in s2).2.2.1⟩
        · exact absurd g.2.1 hd
    · have hs : sp x T p = p := sp_n hp (fun q => hl (by rw [q]; decide))
      have hpp : AT x T p p := ⟨p0, fun q => hp (Int32.le_of_lt q), hs⟩
      obtain ⟨_, s2⟩ := st_l hpp hp hl
      rcases tk_kinds H p0 hs hp with g | g | g
      · exact ⟨by rcases g.2 with r | r <;> grind, fun _ => (AT_in s2).2.2.1⟩
      · exact absurd (dig_nl g.1) hl
      · exact absurd g.1 hl
/-- what a clause of a sort must be to be reckoned -/
def QOK (A : List (Int32 × Int32)) (o : Option Stps) : Prop := A ≠ [] ∧ (∀ y r, A = y :: r → y.1 = 0) ∧ (∀ y ∈ A, vok y.2) ∧ match o with
  | none => True
  | some T => (∀ y ∈ T, qok y) ∧ ndp T 0 = some 1
def ocd (o : Option Stps) : List (Int32 × Int32) := match o with
  | none => []
  | some T => tcd T
/-- the places of a clause -/
def CLP (cl cl2 : Nat → Int32) (b : Nat) (s l0 l1 t0 l2 : Int32) : Prop := cl2 b = s ∧ cl2 (b + 1) = l0 ∧ cl2 (b + 2) = l1 ∧ cl2 (b + 3) = t0 ∧ cl2 (b + 4) = l2 ∧ ∀ i, (i < b ∨ b + 5 ≤ i) → cl2 i = cl i
set_option maxHeartbeats 400000 in
theorem CLP_n {cl : Nat → Int32} {b : Nat} {s l0 l1 l2 : Int32} : CLP cl (upd (upd (upd (upd (upd cl b s) (b + 1) l0) (b + 2) l1) (b + 3) (-1)) (b + 4) l2) b s l0 l1 (-1) l2 := by
  refine ⟨?_, ?_, ?_, ?_, pk_us, fun i hi => ?_⟩
  · rw [upd_ne (by omega), upd_ne (by omega), upd_ne (by omega), upd_ne (by omega), pk_us]
  · rw [upd_ne (by omega), upd_ne (by omega), upd_ne (by omega), pk_us]
  · rw [upd_ne (by omega), upd_ne (by omega), pk_us]
  · rw [upd_ne (by omega), pk_us]
  · rw [upd_ne (by omega), upd_ne (by omega), upd_ne (by omega), upd_ne (by omega), upd_ne (by omega)]
set_option maxHeartbeats 400000 in
theorem CLP_t {cl : Nat → Int32} {b : Nat} {s l0 l1 l2 : Int32} : CLP cl (upd (upd (upd (upd (upd (upd cl b s) (b + 1) l0) (b + 2) l1) (b + 3) (-1)) (b + 3) l1) (b + 4) l2) b s l0 l1 l1 l2 := by
  refine ⟨?_, ?_, ?_, ?_, pk_us, fun i hi => ?_⟩
  · rw [upd_ne (by omega), upd_ne (by omega), upd_ne (by omega), upd_ne (by omega), upd_ne (by omega), pk_us]
  · rw [upd_ne (by omega), upd_ne (by omega), upd_ne (by omega), upd_ne (by omega), pk_us]
  · rw [upd_ne (by omega), upd_ne (by omega), upd_ne (by omega), pk_us]
  · rw [upd_ne (by omega), pk_us]
  · rw [upd_ne (by omega), upd_ne (by omega), upd_ne (by omega), upd_ne (by omega), upd_ne (by omega), upd_ne (by omega)]
set_option maxHeartbeats 400000 in
/-- the reference's clause: its code, its places -/
theorem r_clofC {x tF : Nat → Int32} {T p num text md deep opd s ch : Int32} {sg lg cl cs op : Nat → Int32} {w : Int32 × Int32 × Int32 × Int32 × Int32 × List (Int32 × Int32) × Option Stps} (H : LXH x tF T) (t0 : 0 ≤ text.toInt) (t6 : text.toInt ≤ 6) (hp : AT x T p p) (hT : ¬ T ≤ p) (hle : ¬ fX2_isLetter (x p.toNatClampNeg) = 0) (m0 : ¬ md < 0) (m6 : ¬ 60 < md) (hl : LGok text p lg) (k0 : 0 ≤ (cs text.toNatClampNeg).toInt) (k1 : (cs text.toNatClampNeg).toInt < 12) (he : sbd (tk x T) (nx x T) s ch (nx x T p) md = .ok w) : ∃ (l1 : Int32) (t1 : Int32), AP text sg lg (fX11_clauseOf T p 0 num text md deep opd tF sg lg cl cs op s).2.2.2.2.2.2.1 (fX11_clauseOf T p 0 num text md deep opd tF sg lg cl cs op s).2.2.2.2.2.2.2.1 (scd w.2.2.2.2.2.1 ++ ocd w.2.2.2.2.2.2) ∧ LGok text (fX11_clauseOf T p 0 num text md deep opd tF sg lg cl cs op s).1 (fX11_clauseOf T p 0 num text md deep opd tF sg lg cl cs op s).2.2.2.2.2.2.2.1 ∧ (fX11_clauseOf T p 0 num text md deep opd tF sg lg cl cs op s).2.2.2.2.2.2.2.2.2.1 = upd cs text.toNatClampNeg (cs text.toNatClampNeg + 1) ∧ CLP cl (fX11_clauseOf T p 0 num text md deep opd tF sg lg cl cs op s).2.2.2.2.2.2.2.2.1 (60 * text.toNatClampNeg + 5 * (cs text.toNatClampNeg).toNatClampNeg) s (lg text.toNatClampNeg) l1 t1 ((fX11_clauseOf T p 0 num text md deep opd tF sg lg cl cs op s).2.2.2.2.2.2.2.1 text.toNatClampNeg) ∧ l1.toInt = (lg text.toNatClampNeg).toInt + (scd w.2.2.2.2.2.1).length ∧ (match w.2.2.2.2.2.2 with | none => t1 = -1 | some _ => t1 = l1) ∧ w.2.2.2.1 = s ∧ QOK w.2.2.2.2.2.1 w.2.2.2.2.2.2 := by
  obtain ⟨s1, s2⟩ := st_l hp hT hle
  have htk := tkh H
  unfold fX11_clauseOf
  simp only [bnd, lx_pass H hp.1]
  unfold sbd at he
  obtain ⟨ra, hra, he⟩ := exb_inv he
  have hv := r_sum (num := num) (text := text) (sg := sg) (lg := lg) H s2 m0 m6
  obtain ⟨o1, o2, o3, o4⟩ := p_up H s2
  have spw : p.toInt < (we x T p).toInt := Int32.lt_iff_toInt_lt.mp s1
  have hc := r_sumC (num := num) (sg := sg) (lg := lg) H t0 t6 s2 m0 m6 ⟨hl.1, by have := hl.2; omega⟩ hra
  have hA := ssum_l htk _ _ _ _ _ (AT_in s2).2.2.1 hra
  rw [ess_ok hra] at hv
  generalize fX11_sum T (we x T p) 0 num text md tF sg lg = u at hv hc ⊢
  rcases hv with ⟨e, z1, _⟩ | ⟨q, z1, z2, z3, z4, z5, z6, z7⟩
  · cases z1
  · have zq : ra.1 = q ∧ ra.2.1 = u.2.2.2.1 := by
      injection z1 with z1
      exact ⟨congrArg Prod.fst z1, congrArg Prod.snd z1⟩
    obtain ⟨w1, w2, w3, hq⟩ := AT_in z2
    obtain ⟨c1, c2, c3, c4⟩ := hc
    rw [zq.1, zq.2] at he
    rw [if_neg (show ¬ u.2.2.2.2.2.2 = 0 by rw [z7]; decide), z4]
    unfold fX11_takesWord
    simp only [bnd, AT_w16 H z2, lx_pass H w3]
    have b0 := c_cl0 t0 t6 k0 (show (cs text.toNatClampNeg).toInt ≤ 12 by omega)
    have b1 := c_cl (q := 1) t0 t6 k0 (show (cs text.toNatClampNeg).toInt ≤ 12 by omega) (by decide) (by decide)
    have b2 := c_cl (q := 2) t0 t6 k0 (show (cs text.toNatClampNeg).toInt ≤ 12 by omega) (by decide) (by decide)
    have b3 := c_cl (q := 3) t0 t6 k0 (show (cs text.toNatClampNeg).toInt ≤ 12 by omega) (by decide) (by decide)
    have b4 := c_cl (q := 4) t0 t6 k0 (show (cs text.toNatClampNeg).toInt ≤ 12 by omega) (by decide) (by decide)
    rw [b0, b1, b2, b3, b4, c_k1, c_k2, c_k3, c_k4]
    obtain ⟨n1, n2, n3, n4⟩ := p_up H z2
    by_cases t : tk x T q = 316
    · rw [if_pos t] at he
      simp only [if_pos t, i10, if_false]
      obtain ⟨rb, hrb, he⟩ := exb_inv he
      cases he
      have hqT : ¬ T ≤ q := fun g => by rw [tk_T g] at t; exact absurd t (by decide)
      have hle2 : ¬ fX2_isLetter (x q.toNatClampNeg) = 0 := by
        rcases tk_kinds H w3 hq.2.2 hqT with g | g | g
        · exact g.1
        · grind
        · grind
      obtain ⟨v1, v2⟩ := st_l hq hqT hle2
      have v1' : q.toInt < (we x T q).toInt := Int32.lt_iff_toInt_lt.mp v1
      have ht := r_tes (num := u.2.2.1) (text := text) (sg := u.2.2.2.2.1) (lg := u.2.2.2.2.2.1) (f := op) H v2 z5 z6
      have hcc := r_tesC (num := u.2.2.1) (text := text) (sg := u.2.2.2.2.1) (lg := u.2.2.2.2.2.1) (f := op) H t0 t6 v2 z5 z6 ⟨c2.1, by have := c2.2; omega⟩ hrb
      have hm := sim_T (tk := tk x T) (nx := nx x T) (p := nx x T q) z5
      rw [hrb] at hm
      have hT2 := sT_l htk 10 _ _ _ (AT_in v2).2.2.1 hrb
      generalize fX11_tested T (we x T q) 0 u.2.2.1 text u.2.2.2.1 tF u.2.2.2.2.1 u.2.2.2.2.2.1 op = v at ht hcc ⊢
      have hm2 : Rn (tk x T) (nx x T) true (nx x T q) u.2.2.2.1 [] (.ok (rb.1, rb.2.1)) := hm.1
      rcases ht with ⟨e2, k1, _⟩ | ⟨q2, k1, k2, k3, k4, k5, k6, k7⟩
      · exact absurd (Rn_u hm2 k1) (fun g => by cases g)
      · rw [if_neg (show ¬ v.2.2.2.2.2.2.2.2.2 = 0 by rw [k7]; decide)]
        refine ⟨u.2.2.2.2.2.1 text.toNatClampNeg, u.2.2.2.2.2.1 text.toNatClampNeg, AP_tr hl.1 c1 hcc.1, hcc.2, rfl, CLP_t, c1.1, rfl, rfl, hA.1.1, hA.2.1, hA.1.2, hT2.1.2.1, hT2.1.1 0⟩
    · rw [if_neg t] at he
      cases he
      simp only [if_neg t, if_true]
      refine ⟨u.2.2.2.2.2.1 text.toNatClampNeg, -1, ?_, ⟨c2.1, ?_⟩, (by first | rfl | trivial), CLP_n, c1.1, (by first | rfl | trivial), (by first | rfl | trivial), hA.1.1, hA.2.1, hA.1.2, trivial⟩
      · show AP text sg lg u.2.2.2.2.1 u.2.2.2.2.2.1 (scd ra.2.2 ++ [])
        rw [List.append_nil]
        exact c1
      · have := c2.2
        show _ ≤ q.toInt
        omega
set_option maxHeartbeats 400000 in
/-- a clause more in the reference's arrays -/
theorem RS_one {text s l1 t1 : Int32} {sg lg sg2 lg2 cl cl2 : Nat → Int32} {c : Nat} {nm : Int32} {A : List (Int32 × Int32)} {o : Option Stps} (h4 : ¬ s = 4) (l0 : 0 ≤ (lg text.toNatClampNeg).toInt) (l4 : (lg2 text.toNatClampNeg).toInt ≤ 400) (ha : AP text sg lg sg2 lg2 (scd A ++ ocd o)) (hc : CLP cl cl2 (60 * text.toNatClampNeg + 5 * c) s (lg text.toNatClampNeg) l1 t1 (lg2 text.toNatClampNeg)) (hl : l1.toInt = (lg text.toNatClampNeg).toInt + (scd A).length) (ht : match o with | none => t1 = -1 | some _ => t1 = l1) (hq : QOK A o) : RS (lg2 text.toNatClampNeg).toInt sg2 cl2 text.toNatClampNeg c [(s, nm, A, o)] := by
  obtain ⟨c1, c2, c3, c4, c5, _⟩ := hc
  obtain ⟨a1, a2, a3, a4⟩ := ha
  obtain ⟨q1, q2, q3, q4⟩ := hq
  rw [List.length_append] at a1
  have e0 := tn_eq l0
  have e1 := tn_eq (a := l1) (by omega)
  have sp := RA_spl a4
  unfold RS
  rw [if_neg h4]
  refine ⟨?_, trivial⟩
  rw [c1, c2, c3, c4, c5]
  dsimp only
  refine ⟨rfl, l0, by omega, by omega, sp.1, q1, q2, q3, ?_⟩
  cases o with
  | none =>
    show t1 < 0
    rw [show t1 = -1 from ht]; decide
  | some T =>
    have et : t1 = l1 := ht
    subst et
    have a1' : (lg2 text.toNatClampNeg).toInt = (lg text.toNatClampNeg).toInt + (((scd A).length + (tcd T).length : Nat) : Int) := a1
    refine ⟨by omega, by omega, Int.le_refl _, ?_, q4.1, q4.2⟩
    have := sp.2
    rw [show 400 * text.toNatClampNeg + (lg text.toNatClampNeg).toNatClampNeg + (scd A).length = 400 * text.toNatClampNeg + t1.toNatClampNeg from by omega] at this
    exact this
set_option maxHeartbeats 400000 in
theorem RS_eb {B B2 : Int} {sg sh cl cm : Nat → Int32} {t : Nat} (hB : B ≤ B2) (hs : ∀ i : Nat, (i : Int) < 400 * t + B → sh i = sg i) : ∀ (l : List (Int32 × Int32 × List (Int32 × Int32) × Option Stps)) (c : Nat), RS B sg cl t c l → (∀ i, 60 * t ≤ i → i < 60 * t + 5 * (c + ncl l) → cm i = cl i) → RS B2 sh cm t c l
  | [], _, _, _ => trivial
  | q :: l, c, h, e => by
    unfold RS at h ⊢
    unfold ncl at e
    by_cases q4 : q.1 = 4
    · rw [if_pos q4] at h e ⊢
      exact RS_eb hB hs l c h (fun i h1 hi => e i h1 (by omega))
    · rw [if_neg q4] at h e ⊢
      obtain ⟨⟨b1, b2, b3, b4, b5, b6, b7, b8, b9⟩, h2⟩ := h
      have k1 := tn_eq b2
      rw [e _ (by omega) (by omega), e _ (by omega) (by omega), e _ (by omega) (by omega), e _ (by omega) (by omega), e _ (by omega) (by omega)]
      refine ⟨⟨b1, b2, b3, by omega, RA_eb _ _ b5 (fun i hi => hs i (by omega)), b6, b7, b8, ?_⟩, RS_eb hB hs l (c + 1) h2 (fun i h1 hi => e i h1 (by omega))⟩
      cases ho : q.2.2.2 with
      | none => rw [ho] at b9; exact b9
      | some T =>
        rw [ho] at b9
        obtain ⟨d1, d2, d3, d4, d5, d6⟩ := b9
        have k2 := tn_eq d1
        exact ⟨d1, d2, by omega, RA_eb _ _ d4 (fun i hi => hs i (by omega)), d5, d6⟩
set_option maxHeartbeats 400000 in
theorem RS_app {B : Int} {sg cl : Nat → Int32} {t : Nat} {q : Int32 × Int32 × List (Int32 × Int32) × Option Stps} {l : List (Int32 × Int32 × List (Int32 × Int32) × Option Stps)} {c : Nat} (h : RS B sg cl t c [q]) (h2 : RS B sg cl t (c + ncl [q]) l) : RS B sg cl t c (q :: l) := by
  unfold RS at h ⊢
  unfold ncl at h2
  by_cases q4 : q.1 = 4
  · rw [if_pos q4] at h2 ⊢
    exact h2
  · rw [if_neg q4] at h h2 ⊢
    exact ⟨h.1, h2⟩
