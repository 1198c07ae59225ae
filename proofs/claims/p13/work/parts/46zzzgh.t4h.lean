set_option maxHeartbeats 400000 in
theorem pre_ok {a b l : Stps} {q n : Int32} : pre (a ++ b) (.ok (q, n, l)) = .ok (q, n, a ++ (b ++ l)) := by
  show Except.ok (q, n, (a ++ b) ++ l) = _
  rw [List.append_assoc]
set_option maxHeartbeats 400000 in
theorem tcd_app : ∀ (a b : Stps), tcd (a ++ b) = tcd a ++ tcd b
  | [], b => rfl
  | q :: a, b => by
    show _ ++ tcd (a ++ b) = (_ ++ tcd a) ++ tcd b
    rw [tcd_app a b]
    exact (List.append_assoc _ _ _).symm
set_option maxHeartbeats 400000 in
theorem ess_ok {tk nx : Int32 → Int32} {p n j : Int32} {w : Int32 × Int32 × List (Int32 × Int32)} (h : ssum tk nx 61 p n j = .ok w) : ess tk nx 61 p n = .ok (w.1, w.2.1) := by
  rw [← er_ss 61 p n j, h]; rfl
set_option maxHeartbeats 400000 in
theorem r_clfC {x tF : Nat → Int32} {T b q num text md s : Int32} {sg lg : Nat → Int32} {w : Int32 × Int32 × List (Int32 × Int32)} (H : LXH x tF T) (t0 : 0 ≤ text.toInt) (t6 : text.toInt ≤ 6) (h : AT x T b (nx x T q)) (hqb : q.toInt + 1 ≤ (nx x T q).toInt) (m0 : ¬ md < 0) (m6 : ¬ 60 < md) (d : md < 60) (hl : LGok text b lg) (he : ssum (tk x T) (nx x T) 61 (nx x T q) (md + 1) 0 = .ok w) (hs : pok (s, 0)) : AP text sg lg (CLF T text tF b num (fX11_makes 0 md q) sg lg s).2.2.2.2.1 (CLF T text tF b num (fX11_makes 0 md q) sg lg s).2.2.2.2.2.1 (scd w.2.2 ++ [(s, 0)]) ∧ ((CLF T text tF b num (fX11_makes 0 md q) sg lg s).2.2.2.2.2.1 text.toNatClampNeg).toInt - (lg text.toNatClampNeg).toInt ≤ (CLF T text tF b num (fX11_makes 0 md q) sg lg s).1.toInt - q.toInt := by
  unfold CLF
  rw [mk_60 m6]
  simp only [if_pos d]
  rw [if_neg (by decide)]
  have hv := r_sum (num := num) (text := text) (sg := sg) (lg := lg) (md := md + 1) H h (by grind) (by grind)
  have hc := r_sumC (num := num) (sg := sg) (lg := lg) (md := md + 1) H t0 t6 h (by grind) (by grind) hl he
  rw [ess_ok he] at hv
  generalize fX11_sum T b 0 num text (md + 1) tF sg lg = u at hv hc ⊢
  rcases hv with ⟨e, z1, z2, z3⟩ | ⟨q', z1, z2, z3, z4, z5, z6, z7⟩
  · cases z1
  · obtain ⟨c1, c2, c3, c4⟩ := hc
    rw [if_neg (show ¬ u.2.2.2.2.2.2 = 0 by rw [z7]; decide)]
    obtain ⟨p1, p2, p3, p4⟩ := p_up H z2
    have ap := AP_put (sg := u.2.2.2.2.1) (lg := u.2.2.2.2.2.1) (s := s) (v := 0) t0 t6 c2.1 (by have := c2.2; omega) hs
    refine ⟨AP_tr hl.1 c1 ap, ?_⟩
    have := ap.1
    simp only [List.length_singleton] at this
    show ((fX11_puts text u.2.2.2.2.1 u.2.2.2.2.2.1 s 0).2 text.toNatClampNeg).toInt - (lg text.toNatClampNeg).toInt ≤ u.1.toInt - q.toInt
    omega
set_option maxHeartbeats 400000 in
theorem tcd_1 {s : Int32} {A B : List (Int32 × Int32)} (h0 : ¬ s < 0) : tcd [(s, A, B)] = scd A ++ (scd B ++ [(6 + s, 0)]) := by
  have m1 : ∀ k : Int32, k < 0 → ¬ s = k := fun k hk x => h0 (by rw [x]; exact hk)
  show (if s = -1 then _ else if s = -2 then _ else if s = -3 then _ else scd A ++ scd B ++ [(6 + s, 0)]) ++ [] = _
  rw [if_neg (m1 _ (by decide)), if_neg (m1 _ (by decide)), if_neg (m1 _ (by decide)), List.append_nil, List.append_assoc]
set_option maxHeartbeats 400000 in
theorem r_cmpC {x tF : Nat → Int32} {T a p num text md : Int32} {sg lg : Nat → Int32} {w : Int32 × Int32 × Stps} (H : LXH x tF T) (t0 : 0 ≤ text.toInt) (t6 : text.toInt ≤ 6) (h : AT x T a p) (m0 : ¬ md < 0) (m6 : ¬ 60 < md) (hl : LGok text a lg) (he : scm (tk x T) (nx x T) p md = .ok w) : AP text sg lg (fX11_compare T a 0 num text md tF sg lg).2.2.2.2.1 (fX11_compare T a 0 num text md tF sg lg).2.2.2.2.2.1 (tcd w.2.2) ∧ ((fX11_compare T a 0 num text md tF sg lg).2.2.2.2.2.1 text.toNatClampNeg).toInt - (lg text.toNatClampNeg).toInt ≤ (fX11_compare T a 0 num text md tF sg lg).1.toInt - p.toInt := by
  rw [cmp_unf]
  unfold scm at he
  obtain ⟨ra, hra, he⟩ := exb_inv he
  by_cases hg : fX2_signOf (tk x T ra.1) = -1
  · rw [if_pos hg] at he; cases he
  · rw [if_neg hg] at he
    by_cases hd : ra.2.1 < 60
    · rw [if_pos hd] at he
      obtain ⟨rb, hrb, he⟩ := exb_inv he
      cases he
      have hv := r_sum (num := num) (text := text) (sg := sg) (lg := lg) H h m0 m6
      have hc := r_sumC (num := num) (sg := sg) (lg := lg) H t0 t6 h m0 m6 hl hra
      rw [ess_ok hra] at hv
      generalize fX11_sum T a 0 num text md tF sg lg = u at hv hc ⊢
      rcases hv with ⟨e, z1, z2, z3⟩ | ⟨q, z1, z2, z3, z4, z5, z6, z7⟩
      · cases z1
      · have zq : ra.1 = q ∧ ra.2.1 = u.2.2.2.1 := by
          injection z1 with z1
          exact ⟨congrArg Prod.fst z1, congrArg Prod.snd z1⟩
        rw [zq.1] at hg hrb ⊢
        rw [zq.2] at hd hrb
        obtain ⟨q1, q2, q3, hq⟩ := AT_in z2
        obtain ⟨c1, c2, c3, c4⟩ := hc
        obtain ⟨n1, n2, n3, n4⟩ := p_up H z2
        rw [if_neg (show ¬ u.2.2.2.2.2.2 = 0 by rw [z7]; decide), AT_see H z2]
        dsimp only
        unfold CMP
        rw [z4]
        have hsg := sign_in hg
        rw [tcd_1 hsg.1]
        have key : ∀ (b s : Int32), q < b → AT x T b (nx x T q) → s = 6 + fX2_signOf (tk x T q) → (0 ≤ s.toInt ∧ s.toInt < 16 ∧ s ≠ 1) → AP text sg lg (CLF T text tF b u.2.2.1 (fX11_makes 0 u.2.2.2.1 q) u.2.2.2.2.1 u.2.2.2.2.2.1 s).2.2.2.2.1 (CLF T text tF b u.2.2.1 (fX11_makes 0 u.2.2.2.1 q) u.2.2.2.2.1 u.2.2.2.2.2.1 s).2.2.2.2.2.1 (scd ra.2.2 ++ (scd rb.2.2 ++ [(6 + fX2_signOf (tk x T q), 0)])) ∧ ((CLF T text tF b u.2.2.1 (fX11_makes 0 u.2.2.2.1 q) u.2.2.2.2.1 u.2.2.2.2.2.1 s).2.2.2.2.2.1 text.toNatClampNeg).toInt - (lg text.toNatClampNeg).toInt ≤ (CLF T text tF b u.2.2.1 (fX11_makes 0 u.2.2.2.1 q) u.2.2.2.2.1 u.2.2.2.2.2.1 s).1.toInt - p.toInt := by
          intro b s hb hat es hok
          obtain ⟨w1, w2, w3, w4⟩ := p_up H hat
          have hb' : q.toInt < b.toInt := Int32.lt_iff_toInt_lt.mp hb
          have eq1 : (q + 1).toInt = q.toInt + 1 := n4
          have kk := r_clfC (num := u.2.2.1) (sg := u.2.2.2.2.1) (lg := u.2.2.2.2.2.1) (s := s) H t0 t6 hat (by omega) z5 z6 hd ⟨c2.1, by have := c2.2; omega⟩ hrb (op_ok hok.1 hok.2.1 hok.2.2)
          rw [← es]
          exact ⟨AP_tr hl.1 c1 kk.1, by have := kk.2; omega⟩
        have hq1 : ¬ T ≤ q → q < q + 1 := fun g => a_lt g
        by_cases c0 : cA x T q = 60
        · obtain ⟨g0, g⟩ := cmp_2 H hq (Or.inl rfl) c0
          rw [if_pos c0, if_neg (show ¬ cA x T q = 61 by rw [c0]; decide)]
          rcases g with ⟨g1, g2, g3, g4⟩ | ⟨g1, g3, g4⟩
          · rw [if_pos rfl] at g3
            rw [if_neg g1, if_pos g2]
            exact key (q + 1 + 1) 7 (i_trans3 (hq1 g0) (i_as (a_lt g1))) g4 (by rw [g3]; decide) (by decide)
          · by_cases w : T ≤ q + 1
            · rw [if_pos w]
              exact key (q + 1) 6 (hq1 g0) g4 (by rw [g3]; decide) (by decide)
            · rw [if_neg w, if_neg (g1.resolve_left w)]
              exact key (q + 1) 6 (hq1 g0) g4 (by rw [g3]; decide) (by decide)
        · rw [if_neg c0]
          by_cases c1 : cA x T q = 61
          · obtain ⟨k1, k2⟩ := cA_tk (c := 61) H hq ⟨by decide, by decide, by decide, by decide, by decide, by decide⟩
            have t1 := k1.mp c1
            obtain ⟨b1, b2, b3, b4⟩ := k2 t1
            rw [if_pos c1]
            exact key (q + 1) 8 b2 b3 (by rw [t1]; decide) (by decide)
          · rw [if_neg c1]
            by_cases c2 : cA x T q = 62
            · obtain ⟨g0, g⟩ := cmp_2 H hq (Or.inr rfl) c2
              rw [if_pos c2]
              rcases g with ⟨g1, g2, g3, g4⟩ | ⟨g1, g3, g4⟩
              · rw [if_neg (by decide)] at g3
                rw [if_neg g1, if_pos g2]
                exact key (q + 1 + 1) 9 (i_trans3 (hq1 g0) (i_as (a_lt g1))) g4 (by rw [g3]; decide) (by decide)
              · by_cases w : T ≤ q + 1
                · rw [if_pos w]
                  exact key (q + 1) 10 (hq1 g0) g4 (by rw [g3]; decide) (by decide)
                · rw [if_neg w, if_neg (g1.resolve_left w)]
                  exact key (q + 1) 10 (hq1 g0) g4 (by rw [g3]; decide) (by decide)
            · exfalso
              rcases sg_c H hq hg with r | r | r
              · exact c0 r
              · exact c1 r
              · exact c2 r
    · rw [if_neg hd] at he; cases he
/-- what settling gives -/
def sdp (least : Int32) : List Int32 → Stps
  | [] => []
  | c :: s => if stg c < least then [] else emt c ++ sdp least s
set_option maxHeartbeats 400000 in
theorem sdp_len {least : Int32} : ∀ st : List Int32, (tcd (sdp least st)).length + (sdr least st).length = st.length
  | [] => rfl
  | c :: s => by
    show (tcd (if stg c < least then [] else emt c ++ sdp least s)).length + (if stg c < least then c :: s else sdr least s).length = s.length + 1
    by_cases g : stg c < least
    · rw [if_pos g, if_pos g]
      show 0 + (s.length + 1) = s.length + 1
      omega
    · rw [if_neg g, if_neg g, tcd_app, List.length_append]
      have e : (tcd (emt c)).length = 1 := by
        unfold emt
        by_cases h1 : c = 11
        · rw [if_pos h1]; rfl
        · rw [if_neg h1]
          by_cases h2 : c = 12
          · rw [if_pos h2]; rfl
          · rw [if_neg h2]; rfl
      have := sdp_len (least := least) s
      omega
set_option maxHeartbeats 400000 in
theorem tcd_emt {c : Int32} (h : c = 11 ∨ c = 12 ∨ c = 13) : tcd (emt c) = [(c, 0)] := by
  rcases h with rfl | rfl | rfl <;> rfl
/-- room for the code: what is there and what is kept back -/
def PTq (t a : Int32) (lg : Nat → Int32) (st : List Int32) : Prop := 0 ≤ (lg t.toNatClampNeg).toInt ∧ (lg t.toNatClampNeg).toInt + st.length ≤ a.toInt
set_option maxHeartbeats 400000 in
theorem r_setLC {text least : Int32} {f : Nat → Int32} (l1 : ¬ least < 1) (t0 : 0 ≤ text.toInt) (t6 : text.toInt ≤ 6) {E : Int32 → Int32 → (Nat → Int32) → (Nat → Int32) → (Int32 × Int32 × (Nat → Int32) × (Nat → Int32))} : ∀ (st : List Int32) (N : Nat) (deep o : Int32) (sg lg : Nat → Int32), SI f st deep o → st.length < N → 0 ≤ (lg text.toNatClampNeg).toInt → (lg text.toNatClampNeg).toInt + st.length ≤ 400 → ∃ (d2 o2 : Int32) (sg2 lg2 : Nat → Int32), fl_mX11_settles_0 text f least E N deep o sg lg = E d2 o2 sg2 lg2 ∧ AP text sg lg sg2 lg2 (tcd (sdp least st)) := by
  intro st
  induction st with
  | nil =>
    intro N deep o sg lg h hN q0 q1
    cases N with
    | zero => exact absurd hN (Nat.not_lt_zero _)
    | succ N =>
      refine ⟨deep, o, sg, lg, ?_, AP_rf⟩
      show fb_mX11_settles_0 text f least E (fl_mX11_settles_0 text f least E N) deep o sg lg = _
      unfold fb_mX11_settles_0
      rw [if_pos]
      have h2 : o.toInt = 0 := h.2.1
      rw [Int32.le_iff_toInt_le, h2, z_i0]
      omega
  | cons c s ih =>
    intro N deep o sg lg h hN q0 q1
    cases N with
    | zero => exact absurd hN (Nat.not_lt_zero _)
    | succ N =>
      obtain ⟨⟨h1, h1'⟩, h2, h3, h4⟩ := h
      simp only [List.length_cons] at h2 h4 hN q1
      have eo : (o - 1).toInt = s.length := by
        have e1 : (1 : Int32).toInt = 1 := by decide
        rw [zsub (by rw [e1]; omega) (by rw [e1]; omega), e1]
        omega
      have en : (o - 1).toNatClampNeg = s.length := by show (o - 1).toInt.toNat = _; omega
      show ∃ (d2 o2 : Int32) (sg2 lg2 : Nat → Int32), fb_mX11_settles_0 text f least E (fl_mX11_settles_0 text f least E N) deep o sg lg = E d2 o2 sg2 lg2 ∧ AP text sg lg sg2 lg2 (tcd (if stg c < least then [] else emt c ++ sdp least s))
      unfold fb_mX11_settles_0
      simp only [bnd]
      rw [if_neg (show ¬ o ≤ 0 by rw [Int32.le_iff_toInt_le, z_i0]; omega), en, h1]
      by_cases g : stg c < least
      · rw [if_pos g, if_pos g]
        exact ⟨deep, o, sg, lg, rfl, AP_rf⟩
      · rw [if_neg g, if_neg g]
        have hc := stg_ge g l1
        have hd := dpc_le s
        have hok : pok (c, 0) := by rcases hc with r | r | r <;> (rw [r]; exact op_ok (by decide) (by decide) (by decide))
        have ap := AP_put (sg := sg) (lg := lg) (s := c) (v := 0) t0 t6 q0 (by omega) hok
        have apl := ap.1
        simp only [List.length_singleton] at apl
        have fin : ∀ d2 : Int32, d2.toInt = dpc s → ∃ (d3 o2 : Int32) (sg2 lg2 : Nat → Int32), fl_mX11_settles_0 text f least E N d2 (o - 1) (fX11_puts text sg lg c 0).1 (fX11_puts text sg lg c 0).2 = E d3 o2 sg2 lg2 ∧ AP text sg lg sg2 lg2 (tcd (emt c ++ sdp least s)) := by
          intro d2 hd2
          obtain ⟨d3, o2, sg2, lg2, y1, y2⟩ := ih N d2 (o - 1) (fX11_puts text sg lg c 0).1 (fX11_puts text sg lg c 0).2 ⟨h1', eo, hd2, by omega⟩ (by omega) (by omega) (by omega)
          refine ⟨d3, o2, sg2, lg2, y1, ?_⟩
          rw [tcd_app, tcd_emt hc]
          exact AP_tr q0 ap y2
        by_cases q : c = 11
        · rw [if_pos q]
          have hd3 : deep.toInt = 1 + dpc s := by rw [h3, q]; rfl
          have e1 : (1 : Int32).toInt = 1 := by decide
          exact fin (deep - 1) (by rw [zsub (by rw [e1]; omega) (by rw [e1]; omega), e1]; omega)
        · rw [if_neg q]
          have hd3 : deep.toInt = dpc s := by
            rw [h3]
            show (((if c = 11 then 1 else if c = 91 then 1 else 0) + dpc s : Nat) : Int) = _
            rw [if_neg q, if_neg (fun w => by rcases hc with r | r | r <;> rw [r] at w <;> exact absurd w (by decide))]
            omega
          exact fin deep hd3
set_option maxHeartbeats 400000 in
theorem r_setC {text least deep o : Int32} {f sg lg : Nat → Int32} {st : List Int32} (l1 : ¬ least < 1) (t0 : 0 ≤ text.toInt) (t6 : text.toInt ≤ 6) (h : SI f st deep o) (q0 : 0 ≤ (lg text.toNatClampNeg).toInt) (q1 : (lg text.toNatClampNeg).toInt + st.length ≤ 400) : AP text sg lg (fX11_settles text deep o sg lg f least).2.2.1 (fX11_settles text deep o sg lg f least).2.2.2 (tcd (sdp least st)) := by
  unfold fX11_settles
  obtain ⟨d2, o2, sg2, lg2, e, hs⟩ := r_setLC (text := text) l1 t0 t6 (E := fun (w76_0_0 : Int32) (w76_1_0 : Int32) (w76_2_0 : Nat → Int32) (w76_3_0 : Nat → Int32) => (w76_0_0, w76_1_0, w76_2_0, w76_3_0)) st (o.toInt.toNat + 1) deep o sg lg h (by rw [h.2.1]; omega) q0 q1
  rw [e]
  exact hs
set_option maxHeartbeats 400000 in
theorem PT_set {text least deep o a : Int32} {f sg lg : Nat → Int32} {st : List Int32} (l1 : ¬ least < 1) (t0 : 0 ≤ text.toInt) (t6 : text.toInt ≤ 6) (h : SI f st deep o) (hp : PTq text a lg st) (a4 : a.toInt ≤ 400) : AP text sg lg (fX11_settles text deep o sg lg f least).2.2.1 (fX11_settles text deep o sg lg f least).2.2.2 (tcd (sdp least st)) ∧ PTq text a (fX11_settles text deep o sg lg f least).2.2.2 (sdr least st) := by
  have := r_setC (sg := sg) l1 t0 t6 h hp.1 (by have := hp.2; omega)
  refine ⟨this, ?_⟩
  have e := this.1
  have e2 := sdp_len (least := least) st
  exact ⟨by have := hp.1; omega, by have := hp.2; omega⟩
set_option maxHeartbeats 400000 in
theorem R2_sdr {tk nx : Int32 → Int32} {p n least : Int32} {r : Except Int32 (Int32 × Int32 × Stps)} (l1 : ¬ least < 1) (hl : ¬ least < 2 ∨ ¬ tk p = 318) : ∀ st : List Int32, R2 tk nx false p n (sdr least st) r → R2 tk nx false p n st (pre (sdp least st) r) := by
  intro st
  induction st with
  | nil => intro h; rw [show sdp least [] = [] from rfl, pre_nil]; exact h
  | cons c s ih =>
    intro h
    have h2 : R2 tk nx false p n (if stg c < least then c :: s else sdr least s) r := h
    show R2 tk nx false p n (c :: s) (pre (if stg c < least then [] else emt c ++ sdp least s) r)
    by_cases g : stg c < least
    · rw [if_pos g] at h2 ⊢
      rw [pre_nil]
      exact h2
    · rw [if_neg g] at h2 ⊢
      have hc := stg_ge g l1
      rw [← pre_pre]
      refine R2_pop (fun w => by rcases hc with q | q | q <;> rw [q] at w <;> exact absurd w (by decide)) (fun w => ?_) (ih h2)
      rcases hl with hl | hl
      · rw [w] at g
        exact absurd (show stg 13 < least by
          have : stg 13 = 1 := by decide
          rw [this]
          grind) g
      · exact hl
