def CL2 (x : Nat → Int32) (T a q md text : Int32) (sg lg f : Nat → Int32) (st : List Int32) (u : Int32 × Int32 × Int32 × (Nat → Int32) × (Nat → Int32)) : Prop := ∃ (q2 : Int32) (s2 : List Int32) (l : Stps), AT x T u.1 q2 ∧ (¬ u.1 < a) ∧ SI f s2 u.2.1 u.2.2.1 ∧ OK4 s2 ∧ s2.length ≤ st.length ∧ (tk x T q2 = 93 → ¬ ins s2 = true) ∧ (∀ r, R2 (tk x T) (nx x T) false q2 md s2 r → R2 (tk x T) (nx x T) false q md st (pre l r)) ∧ AP text sg lg u.2.2.2.1 u.2.2.2.2 (tcd l) ∧ PTq text u.1 u.2.2.2.2 s2
set_option maxHeartbeats 400000 in
theorem PT_up {t a b : Int32} {lg : Nat → Int32} {st st2 : List Int32} (h : PTq t a lg st) (hl : (st2.length : Int) + a.toInt ≤ st.length + b.toInt) : PTq t b lg st2 := ⟨h.1, by have := h.2; omega⟩
set_option maxHeartbeats 400000 in
theorem r_cloL2 {x tF : Nat → Int32} {T text md : Int32} {f : Nat → Int32} (H : LXH x tF T) (t0 : 0 ≤ text.toInt) (t6 : text.toInt ≤ 6) : ∀ (N : Nat) (a q deep o : Int32) (sg lg : Nat → Int32) (st : List Int32), AT x T a q → SI f st deep o → OK4 st → (T.toInt - a.toInt).toNat < N → PTq text a lg st → CL2 x T a q md text sg lg f st (fl_mX11_closes_5 T text tF f (fun (w64_0_0 : Int32) (w64_1_0 : Int32) (w64_2_0 : Int32) (w64_3_0 : Nat → Int32) (w64_4_0 : Nat → Int32) => (w64_0_0, w64_1_0, w64_2_0, w64_3_0, w64_4_0)) N a deep o sg lg) := by
  intro N
  induction N with
  | zero => intro a q deep o sg lg st _ _ _ hn _; exact absurd hn (Nat.not_lt_zero _)
  | succ N ih =>
    intro a q deep o sg lg st h hs ho hn hp
    obtain ⟨n1, n2, n3, n4⟩ := p_up H h
    obtain ⟨q1, q2, q3, hq⟩ := AT_in h
    show CL2 x T a q md text sg lg f st (fb_mX11_closes_5 T text tF f _ (fl_mX11_closes_5 T text tF f _ N) a deep o sg lg)
    unfold fb_mX11_closes_5
    simp only [bnd, AT_see H h, r_ins hs]
    obtain ⟨k1, k2⟩ := cA_tk (c := 93) H hq ⟨by decide, by decide, by decide, by decide, by decide, by decide⟩
    by_cases c : tk x T q = 93
    · obtain ⟨b1, b2, b3, b4⟩ := k2 c
      rw [if_pos (k1.mpr c)]
      by_cases g : ins st = true
      · rw [if_pos g, if_neg (by decide)]
        obtain ⟨s, e1, ho2⟩ := sdr1_in st ho g
        have hs1 := r_set (text := text) (sg := sg) (lg := lg) (least := 1) (by decide) hs
        have hc1 := PT_set (sg := sg) (lg := lg) (least := 1) (by decide) t0 t6 hs hp (by omega)
        generalize fX11_settles text deep o sg lg f 1 = v at hs1 hc1 ⊢
        obtain ⟨ca, cb⟩ := hc1
        rw [e1] at cb
        rw [e1] at hs1
        have hs2 : SI f s (v.1 - 1) (v.2.1 - 1) := by
          obtain ⟨⟨_, w1⟩, w2, w3, w4⟩ := hs1
          simp only [List.length_cons] at w2 w4
          have w3' : v.1.toInt = 1 + dpc s := by rw [w3]; rfl
          have e1 : (1 : Int32).toInt = 1 := by decide
          have hd := dpc_le s
          exact ⟨w1, by rw [zsub (by rw [e1]; omega) (by rw [e1]; omega), e1]; omega, by rw [zsub (by rw [e1]; omega) (by rw [e1]; omega), e1]; omega, by omega⟩
        have hs3 := r_set (text := text) (sg := v.2.2.1) (lg := v.2.2.2) (least := 3) (by decide) hs2
        have hc3 := PT_set (a := a) (sg := v.2.2.1) (lg := v.2.2.2) (least := 3) (by decide) t0 t6 hs2 (PT_up cb (by simp only [List.length_cons]; omega)) (by omega)
        generalize fX11_settles text (v.1 - 1) (v.2.1 - 1) v.2.2.1 v.2.2.2 f 3 = w at hs3 hc3 ⊢
        obtain ⟨cc, cd⟩ := hc3
        have hlt : a < q + 1 := i_tr4 q1 b2
        obtain ⟨q5, s5, l5, z1, z2, z3, z4, z5, z6, z7, z8, z9⟩ := ih (q + 1) (nx x T q) w.1 w.2.1 w.2.2.1 w.2.2.2 (sdr 3 s) b3 hs3 (OK4_sdr ho2) (f_dn hlt b3.2.1 hn) (PT_up cd (by rw [n4]; omega))
        refine ⟨q5, s5, sdp 1 st ++ (sdp 3 s ++ l5), z1, i_tr (i_as hlt) z2, z3, z4, ?_, z6, fun r hr => ?_, ?_, z9⟩
        · have l1 := sdr_len (least := 3) s
          have l2 := sdr_len (least := 1) st
          rw [e1] at l2
          simp only [List.length_cons] at l2
          omega
        · rw [← pre_pre, ← pre_pre]
          refine R2_sdr (least := 1) (by decide) (Or.inr (by rw [c]; decide)) st ?_
          rw [e1]
          exact R2_93 c (R2_sdr (least := 3) (by decide) (Or.inl (by decide)) s (z7 r hr))
        · rw [tcd_app, tcd_app]
          exact AP_tr hp.1 ca (AP_tr cb.1 cc z8)
      · rw [if_neg g, if_pos rfl]
        exact ⟨q, st, [], hq, q1, hs, ho, Nat.le_refl _, fun _ => g, fun r hr => by rw [pre_nil]; exact hr, AP_rf, PT_up hp (by show _ ≤ _ + q.toInt; omega)⟩
    · rw [if_neg (fun g => c (k1.mp g))]
      exact ⟨q, st, [], hq, q1, hs, ho, Nat.le_refl _, fun g => absurd g c, fun r hr => by rw [pre_nil]; exact hr, AP_rf, PT_up hp (by show _ ≤ _ + q.toInt; omega)⟩
set_option maxHeartbeats 400000 in
theorem r_clo2 {x tF : Nat → Int32} {T a q text md deep o : Int32} {f sg lg : Nat → Int32} {st : List Int32} (H : LXH x tF T) (h : AT x T a q) (hs : SI f st deep o) (ho : OK4 st) (t0 : 0 ≤ text.toInt) (t6 : text.toInt ≤ 6) (hp : PTq text a lg st) : CL2 x T a q md text sg lg f st (fX11_closes T a text deep o tF sg lg f) := by
  obtain ⟨n1, n2, n3, n4⟩ := p_up H h
  unfold fX11_closes
  simp only [bnd]
  have hs3 := r_set (text := text) (sg := sg) (lg := lg) (least := 3) (by decide) hs
  have hc3 := PT_set (sg := sg) (lg := lg) (least := 3) (by decide) t0 t6 hs hp (by omega)
  generalize fX11_settles text deep o sg lg f 3 = w at hs3 hc3 ⊢
  obtain ⟨cc, cd⟩ := hc3
  obtain ⟨q5, s5, l5, z1, z2, z3, z4, z5, z6, z7, z8, z9⟩ := r_cloL2 (text := text) (md := md) H t0 t6 _ a q w.1 w.2.1 w.2.2.1 w.2.2.2 (sdr 3 st) h hs3 (OK4_sdr ho) (Nat.lt_succ_self _) cd
  refine ⟨q5, s5, sdp 3 st ++ l5, z1, z2, z3, z4, ?_, z6, fun r hr => (by rw [← pre_pre]; exact R2_sdr (least := 3) (by decide) (Or.inl (by decide)) st (z7 r hr)), (by rw [tcd_app]; exact AP_tr hp.1 cc z8), z9⟩
  have l1 := sdr_len (least := 3) st
  omega
def FR2 (x : Nat → Int32) (T a p md text : Int32) (sg lg : Nat → Int32) (st : List Int32) (u : (Int32 × Int32 × Int32 × Int32 × Int32 × Int32 × (Nat → Int32) × (Nat → Int32) × (Nat → Int32) × Int32)) : Prop := (∃ e : Int32, R2 (tk x T) (nx x T) true p md st (.error e) ∧ u.2.1 = e ∧ u.2.2.2.2.2.2.2.2.2 = 0) ∨ (∃ (q : Int32) (s2 : List Int32) (l : Stps), AT x T u.1 q ∧ a < u.1 ∧ u.2.1 = 0 ∧ (¬ u.2.2.2.1 < 0) ∧ (¬ 60 < u.2.2.2.1) ∧ SI u.2.2.2.2.2.2.2.2.1 s2 u.2.2.2.2.1 u.2.2.2.2.2.1 ∧ OK4 s2 ∧ ((s2.length : Int) ≤ (u.1).toInt) ∧ u.2.2.2.2.2.2.2.2.2 = 1 ∧ (∀ r, R2 (tk x T) (nx x T) false q u.2.2.2.1 s2 r → R2 (tk x T) (nx x T) true p md st (pre l r)) ∧ AP text sg lg u.2.2.2.2.2.2.1 u.2.2.2.2.2.2.2.1 (tcd l) ∧ PTq text u.1 u.2.2.2.2.2.2.2.1 s2)
set_option maxHeartbeats 400000 in
theorem r_factL2 {x tF : Nat → Int32} {T text num md : Int32} {sg lg : Nat → Int32} (H : LXH x tF T) (t0 : 0 ≤ text.toInt) (t6 : text.toInt ≤ 6) (m0 : ¬ md < 0) (m6 : ¬ 60 < md) {E32 E58 : Int32 → Int32 → Int32 → Int32 → (Nat → Int32) → Int32 → Int32 → (Int32 × Int32 × Int32 × Int32 × Int32 × Int32 × (Nat → Int32) × (Nat → Int32) × (Nat → Int32) × Int32)} {E75 : Int32 → Int32 → Int32 → Int32 → (Nat → Int32) → Int32 → (Int32 × Int32 × Int32 × Int32 × Int32 × Int32 × (Nat → Int32) × (Nat → Int32) × (Nat → Int32) × Int32)} (h32 : ∀ a1 a2 a3 a4 a5 a6 a7, (E32 a1 a2 a3 a4 a5 a6 a7).2.1 = a2 ∧ (E32 a1 a2 a3 a4 a5 a6 a7).2.2.2.2.2.2.2.2.2 = 0) (h58 : ∀ a1 a2 a3 a4 a5 a6 a7, (E58 a1 a2 a3 a4 a5 a6 a7).2.1 = a2 ∧ (E58 a1 a2 a3 a4 a5 a6 a7).2.2.2.2.2.2.2.2.2 = 0) (h75 : ∀ a1 a3 a4 a5 a6, E75 a1 0 a3 a4 a5 a6 = ((fX11_compare T a1 0 num text md tF sg lg).1, (fX11_compare T a1 0 num text md tF sg lg).2.1, (fX11_compare T a1 0 num text md tF sg lg).2.2.1, (fX11_compare T a1 0 num text md tF sg lg).2.2.2.1, a3, a4, (fX11_compare T a1 0 num text md tF sg lg).2.2.2.2.1, (fX11_compare T a1 0 num text md tF sg lg).2.2.2.2.2.1, a5, (fX11_compare T a1 0 num text md tF sg lg).2.2.2.2.2.2)) : ∀ (N : Nat) (a p deep o : Int32) (f : Nat → Int32) (st : List Int32), AT x T a p → SI f st deep o → OK4 st → (st.length : Int) ≤ a.toInt → 2 * (T.toInt - a.toInt).toNat + 1 < N → PTq text a lg st → FR2 x T a p md text sg lg st (fl_mX11_fact_2 T tF E32 E58 E75 N a 0 deep o f 1) := by
  intro N
  induction N with
  | zero => intro a p deep o f st _ _ _ _ hn _; exact absurd hn (Nat.not_lt_zero _)
  | succ N ih =>
    intro a p deep o f st h hs ho hla hn hpt
    obtain ⟨n1, n2, n3, n4⟩ := p_up H h
    obtain ⟨q1, q2, q3, hp⟩ := AT_in h
    have T4 := H.2.1
    have e4 : (400 : Int32).toInt = 400 := by decide
    have hpa : a.toInt ≤ p.toInt := by rw [Int32.lt_iff_toInt_lt] at q1; omega
    show FR2 x T a p md text sg lg st (fb_mX11_fact_2 T tF E32 E58 E75 (fl_mX11_fact_2 T tF E32 E58 E75 N) a 0 deep o f 1)
    unfold fb_mX11_fact_2
    simp only [bnd, AT_see H h, AT_w19 H hp, lx_pass H q3]
    rw [if_neg (by decide)]
    obtain ⟨k1, k2⟩ := cA_tk (c := 91) H hp ⟨by decide, by decide, by decide, by decide, by decide, by decide⟩
    by_cases t : tk x T p = 319
    · rw [if_pos t, if_neg (by decide)]
      have hpT : ¬ T ≤ p := fun g => by rw [tk_T g] at t; exact absurd t (by decide)
      have hle : ¬ fX2_isLetter (x p.toNatClampNeg) = 0 := by
        rcases tk_kinds H q3 hp.2.2 hpT with g | g | g
        · exact g.1
        · grind
        · grind
      obtain ⟨s1, s2⟩ := st_l hp hpT hle
      have hlen : st.length < 400 := by
        rw [Int32.le_iff_toInt_le] at hpT
        rw [Int32.lt_iff_toInt_lt] at T4
        omega
      rcases r_opn (x := x) (T := T) (p := p) hs (Or.inl rfl) hlen with ⟨_, d1, d2⟩ | ⟨d1, d2, d3⟩
      · rw [d2, if_pos rfl]
        exact Or.inl ⟨flt p 2, R2_deep (Or.inl t) d1, (h32 _ _ _ _ _ _ _).1, (h32 _ _ _ _ _ _ _).2⟩
      · rw [d2]
        dsimp only
        rw [if_neg (by decide)]
        have hlt : a < we x T p := i_tr4 q1 s1
        have hN : 2 * (T.toInt - (we x T p).toInt).toNat + 1 < N := by
          have := s2.2.1
          rw [Int32.lt_iff_toInt_lt] at hlt this
          omega
        rcases ih (we x T p) (nx x T p) (deep + 1) (o + 1) (upd f o.toNatClampNeg 11) (11 :: st) s2 d3 (OK4_cons (Or.inl rfl) ho) (by
          rw [Int32.lt_iff_toInt_lt] at s1
          simp only [List.length_cons]
          omega) hN (PT_up hpt (by simp only [List.length_cons]; rw [Int32.lt_iff_toInt_lt] at s1; omega)) with ⟨e, z1, z2⟩ | ⟨q, s5, l5, z1, z2, z3, z4, z5, z6, z7, z8, z9, z10, z11, z12⟩
        · exact Or.inl ⟨e, R2_319 t d1 z1, z2⟩
        · exact Or.inr ⟨q, s5, l5, z1, i_trans3 hlt (i_as z2), z3, z4, z5, z6, z7, z8, z9, fun r hr => R2_319 t d1 (z10 r hr), z11, z12⟩
    · rw [if_neg t, if_pos rfl]
      by_cases t9 : tk x T p = 91
      · obtain ⟨b1, b2, b3, b4⟩ := k2 t9
        rw [if_pos (k1.mpr t9)]
        have hlen : st.length < 400 := by
          rw [Int32.le_iff_toInt_le] at b1
          rw [Int32.lt_iff_toInt_lt] at T4
          omega
        rcases r_opn (x := x) (T := T) (p := p) hs (Or.inr rfl) hlen with ⟨_, d1, d2⟩ | ⟨d1, d2, d3⟩
        · rw [d2, if_pos rfl]
          exact Or.inl ⟨flt p 2, R2_deep (Or.inr t9) d1, (h58 _ _ _ _ _ _ _).1, (h58 _ _ _ _ _ _ _).2⟩
        · rw [d2]
          dsimp only
          rw [if_neg (by decide)]
          have hlt : a < p + 1 := i_tr4 q1 b2
          have hN : 2 * (T.toInt - (p + 1).toInt).toNat + 1 < N := by
            have := b3.2.1
            rw [Int32.lt_iff_toInt_lt] at hlt this
            omega
          rcases ih (p + 1) (nx x T p) (deep + 1) (o + 1) (upd f o.toNatClampNeg 91) (91 :: st) b3 d3 (OK4_cons (Or.inr (Or.inr (Or.inr rfl))) ho) (by
            rw [Int32.lt_iff_toInt_lt] at b2
            simp only [List.length_cons]
            omega) hN (PT_up hpt (by simp only [List.length_cons]; rw [n4]; omega)) with ⟨e, z1, z2⟩ | ⟨q, s5, l5, z1, z2, z3, z4, z5, z6, z7, z8, z9, z10, z11, z12⟩
          · exact Or.inl ⟨e, R2_91 t9 d1 z1, z2⟩
          · exact Or.inr ⟨q, s5, l5, z1, i_trans3 hlt (i_as z2), z3, z4, z5, z6, z7, z8, z9, fun r hr => R2_91 t9 d1 (z10 r hr), z11, z12⟩
      · rw [if_neg (fun g => t9 (k1.mp g))]
        cases N with
        | zero => exact absurd hn (by omega)
        | succ N =>
          show FR2 x T a p md text sg lg st (fb_mX11_fact_2 T tF E32 E58 E75 (fl_mX11_fact_2 T tF E32 E58 E75 N) p 0 deep o f 0)
          unfold fb_mX11_fact_2
          rw [if_pos rfl, h75]
          have hv := r_cmp (num := num) (text := text) (sg := sg) (lg := lg) H hp m0 m6
          have hl9 : LGok text p lg := ⟨hpt.1, by have := hpt.2; omega⟩
          have hc := fun w he => r_cmpC (num := num) (text := text) (sg := sg) (lg := lg) (w := w) H t0 t6 hp m0 m6 hl9 he
          have es := er_scm (tk := tk x T) (nx := nx x T) (p := p) (n := md)
          generalize fX11_compare T p 0 num text md tF sg lg = u at hv hc ⊢
          rcases hv with ⟨e, z1, z2, z3⟩ | ⟨q, z1, z2, z3, z4, z5, z6, z7⟩
          · refine Or.inl ⟨e, R2_cme t t9 ?_, z2, z3⟩
            rw [z1] at es
            generalize scm (tk x T) (nx x T) p md = X at es ⊢
            cases X with
            | error e2 => injection es with es; rw [es]
            | ok w => cases es
          · have e1 : (p + 1).toInt = p.toInt + 1 := n4
            have hau : a < u.1 := by rw [Int32.lt_iff_toInt_lt] at *; omega
            rw [z1] at es
            generalize hX : scm (tk x T) (nx x T) p md = X at es hc ⊢
            cases X with
            | error e2 => cases es
            | ok w =>
              have ew : w.1 = q ∧ w.2.1 = u.2.2.2.1 := by
                injection es with es
                exact ⟨congrArg Prod.fst es, congrArg Prod.snd es⟩
              obtain ⟨c1, c2⟩ := hc w rfl
              refine Or.inr ⟨q, st, w.2.2, z2, hau, z4, z5, z6, hs, ho, ?_, z7, fun r hr => R2_cmp t t9 hX (by rw [ew.1, ew.2]; exact hr), c1, ?_⟩
              · rw [Int32.lt_iff_toInt_lt] at hau
                show (st.length : Int) ≤ u.1.toInt
                omega
              · have k0 := c1.1
                refine ⟨?_, ?_⟩
                · show 0 ≤ (u.2.2.2.2.2.1 text.toNatClampNeg).toInt
                  have := hpt.1; omega
                · show (u.2.2.2.2.2.1 text.toNatClampNeg).toInt + st.length ≤ u.1.toInt
                  have := hpt.2; omega
set_option maxHeartbeats 400000 in
theorem r_fact2 {x tF : Nat → Int32} {T a p text num md deep o : Int32} {sg lg f : Nat → Int32} {st : List Int32} (H : LXH x tF T) (t0 : 0 ≤ text.toInt) (t6 : text.toInt ≤ 6) (h : AT x T a p) (m0 : ¬ md < 0) (m6 : ¬ 60 < md) (hs : SI f st deep o) (ho : OK4 st) (hl : (st.length : Int) ≤ a.toInt) (hp : PTq text a lg st) : FR2 x T a p md text sg lg st (fX11_fact T a 0 num text md deep o tF sg lg f) := by
  unfold fX11_fact
  exact r_factL2 H t0 t6 m0 m6 (fun _ _ _ _ _ _ _ => ⟨rfl, rfl⟩) (fun _ _ _ _ _ _ _ => ⟨rfl, rfl⟩) (fun _ _ _ _ _ => rfl) _ a p deep o f st h hs ho hl (by rw [mb_1]; omega) hp
def TR2 (x : Nat → Int32) (T a p md text : Int32) (sg lg : Nat → Int32) (st : List Int32) (u : (Int32 × Int32 × Int32 × Int32 × Int32 × Int32 × (Nat → Int32) × (Nat → Int32) × (Nat → Int32) × Int32)) : Prop := (∃ e : Int32, R2 (tk x T) (nx x T) true p md st (.error e) ∧ u.2.1 = e ∧ u.2.2.2.2.2.2.2.2.2 = 0) ∨ (∃ (q : Int32) (l : Stps), R2 (tk x T) (nx x T) true p md st (.ok (q, u.2.2.2.1, l)) ∧ AT x T u.1 q ∧ a < u.1 ∧ u.2.1 = 0 ∧ (¬ u.2.2.2.1 < 0) ∧ (¬ 60 < u.2.2.2.1) ∧ u.2.2.2.2.2.2.2.2.2 = 1 ∧ AP text sg lg u.2.2.2.2.2.2.1 u.2.2.2.2.2.2.2.1 (tcd l) ∧ PTq text u.1 u.2.2.2.2.2.2.2.1 [])
set_option maxHeartbeats 400000 in
theorem r_tesL2 {x tF : Nat → Int32} {T text : Int32} (H : LXH x tF T) (t0 : 0 ≤ text.toInt) (t6 : text.toInt ≤ 6) {E23 E112 : Int32 → Int32 → Int32 → Int32 → Int32 → Int32 → (Nat → Int32) → (Nat → Int32) → (Nat → Int32) → Int32 → (Int32 × Int32 × Int32 × Int32 × Int32 × Int32 × (Nat → Int32) × (Nat → Int32) × (Nat → Int32) × Int32)} (h23 : ∀ a1 a2 a3 a4 a5 a6 a7 a8 a9 a10, (E23 a1 a2 a3 a4 a5 a6 a7 a8 a9 a10).2.1 = a2 ∧ (E23 a1 a2 a3 a4 a5 a6 a7 a8 a9 a10).2.2.2.2.2.2.2.2.2 = 0) (h112 : ∀ a1 a2 a3 a4 a5 a6 a7 a8 a9 a10, E112 a1 a2 a3 a4 a5 a6 a7 a8 a9 a10 = if fX11_isInside a6 a9 = 0 then (a1, a2, a3, a4, (fX11_settles text a5 a6 a7 a8 a9 1).1, (fX11_settles text a5 a6 a7 a8 a9 1).2.1, (fX11_settles text a5 a6 a7 a8 a9 1).2.2.1, (fX11_settles text a5 a6 a7 a8 a9 1).2.2.2, a9, 1) else ((fX11_see T a1 tF).1, fX11_fails a2 0 (fX11_see T a1 tF).1, a3, a4, a5, a6, a7, a8, a9, 0)) : ∀ (N : Nat) (a p num md deep o : Int32) (sg lg f : Nat → Int32) (st : List Int32), AT x T a p → ¬ md < 0 → ¬ 60 < md → SI f st deep o → OK4 st → (st.length : Int) ≤ a.toInt → 2 * (T.toInt - a.toInt).toNat + 1 < N → PTq text a lg st → TR2 x T a p md text sg lg st (fl_mX11_tested_12 T text tF E23 E112 N a 0 num md deep o sg lg f 1) := by
  intro N
  induction N with
  | zero => intro a p num md deep o sg lg f st _ _ _ _ _ _ hn _; exact absurd hn (Nat.not_lt_zero _)
  | succ N ih =>
    intro a p num md deep o sg lg f st h m0 m6 hs ho hla hn hpt
    obtain ⟨n1, n2, n3, n4⟩ := p_up H h
    have T4 := H.2.1
    have e4 : (400 : Int32).toInt = 400 := by decide
    show TR2 x T a p md text sg lg st (fb_mX11_tested_12 T text tF E23 E112 (fl_mX11_tested_12 T text tF E23 E112 N) a 0 num md deep o sg lg f 1)
    unfold fb_mX11_tested_12
    rw [if_neg (by decide)]
    simp only [bnd]
    have hf := r_fact2 (num := num) (text := text) (sg := sg) (lg := lg) H t0 t6 h m0 m6 hs ho hla hpt
    generalize fX11_fact T a 0 num text md deep o tF sg lg f = u at hf ⊢
    rcases hf with ⟨e, z1, z2, z3⟩ | ⟨q, s5, l5, z1, z2, z3, z4, z5, z6, z7, z8, z9, z10, z11, z12⟩
    · rw [if_pos z3]
      exact Or.inl ⟨e, z1, (h23 _ _ _ _ _ _ _ _ _ _).1.trans z2, (h23 _ _ _ _ _ _ _ _ _ _).2⟩
    · rw [if_neg (show ¬ u.2.2.2.2.2.2.2.2.2 = 0 by rw [z9]; decide), z3]
      have hc := r_clo2 (text := text) (md := u.2.2.2.1) (sg := u.2.2.2.2.2.2.1) (lg := u.2.2.2.2.2.2.2.1) H z1 z6 z7 t0 t6 z12
      generalize fX11_closes T u.1 text u.2.2.2.2.1 u.2.2.2.2.2.1 tF u.2.2.2.2.2.2.1 u.2.2.2.2.2.2.2.1 u.2.2.2.2.2.2.2.2.1 = v at hc ⊢
      obtain ⟨q2, s2, l2, y1, y2, y3, y4, y5, y6, y7, y8, y9⟩ := hc
      obtain ⟨v1, v2, v3, v4⟩ := p_up H y1
      have a58 : AP text sg lg v.2.2.2.1 v.2.2.2.2 (tcd (l5 ++ l2)) := by rw [tcd_app]; exact AP_tr hpt.1 z11 y8
      obtain ⟨w1, w2, w3, hq⟩ := AT_in y1
      have hav : a < q2 := by rw [Int32.lt_iff_toInt_lt] at *; omega
      have hl2 : (s2.length : Int) ≤ q2.toInt := by rw [Int32.lt_iff_toInt_lt] at *; omega
      have hN : 2 * (T.toInt - q2.toInt).toNat + 2 < N + 1 := by rw [Int32.lt_iff_toInt_lt] at *; omega
      simp only [AT_w18 H y1, AT_w18 H hq, AT_w17 H hq, lx_pass H w3]
      have word : (tk x T q2 = 318 ∨ tk x T q2 = 317) → q2 < we x T q2 ∧ AT x T (we x T q2) (nx x T q2) ∧ ¬ T ≤ q2 := by
        intro hk
        have hpT : ¬ T ≤ q2 := fun g => by rw [tk_T g] at hk; exact absurd hk (by decide)
        have hle : ¬ fX2_isLetter (x q2.toNatClampNeg) = 0 := by
          rcases tk_kinds H w3 hq.2.2 hpT with g | g | g
          · exact g.1
          · grind
          · grind
        obtain ⟨s1, s3⟩ := st_l hq hpT hle
        exact ⟨s1, s3, hpT⟩
      have goon : ∀ (c least : Int32), (c = 12 ∨ c = 13) → (¬ least < 1) → (tk x T q2 = 318 ∨ tk x T q2 = 317) → (∀ r, R2 (tk x T) (nx x T) true (nx x T q2) u.2.2.2.1 (c :: sdr least s2) r → R2 (tk x T) (nx x T) false q2 u.2.2.2.1 s2 (pre (sdp least s2) r)) → TR2 x T a p md text sg lg st (fl_mX11_tested_12 T text tF E23 E112 N (we x T q2) 0 u.2.2.1 u.2.2.2.1 (fX11_settles text v.2.1 v.2.2.1 v.2.2.2.1 v.2.2.2.2 u.2.2.2.2.2.2.2.2.1 least).1 ((fX11_settles text v.2.1 v.2.2.1 v.2.2.2.1 v.2.2.2.2 u.2.2.2.2.2.2.2.2.1 least).2.1 + 1) (fX11_settles text v.2.1 v.2.2.1 v.2.2.2.1 v.2.2.2.2 u.2.2.2.2.2.2.2.2.1 least).2.2.1 (fX11_settles text v.2.1 v.2.2.1 v.2.2.2.1 v.2.2.2.2 u.2.2.2.2.2.2.2.2.1 least).2.2.2 (upd u.2.2.2.2.2.2.2.2.1 (fX11_settles text v.2.1 v.2.2.1 v.2.2.2.1 v.2.2.2.2 u.2.2.2.2.2.2.2.2.1 least).2.1.toNatClampNeg c) 1) := by
        intro c least hc l1 hk hr
        obtain ⟨s1, s3, hpT⟩ := word hk
        have hs3 := r_set (text := text) (sg := v.2.2.2.1) (lg := v.2.2.2.2) (least := least) l1 y3
        have hc3 := PT_set (a := v.1) (sg := v.2.2.2.1) (lg := v.2.2.2.2) (least := least) l1 t0 t6 y3 y9 (by omega)
        generalize fX11_settles text v.2.1 v.2.2.1 v.2.2.2.1 v.2.2.2.2 u.2.2.2.2.2.2.2.2.1 least = g at hs3 hc3 ⊢
        obtain ⟨cc, cd⟩ := hc3
        have sl := sdr_len (least := least) s2
        have hlen : (sdr least s2).length < 400 := by
          rw [Int32.le_iff_toInt_le] at hpT
          rw [Int32.lt_iff_toInt_lt] at T4
          omega
        have hp2 : SI (upd u.2.2.2.2.2.2.2.2.1 g.2.1.toNatClampNeg c) (c :: sdr least s2) g.1 (g.2.1 + 1) := SI_push hs3 hlen (by
          rw [hs3.2.2.1]
          show (dpc (sdr least s2) : Int) = (((if c = 11 then 1 else if c = 91 then 1 else 0) + dpc (sdr least s2) : Nat) : Int)
          rcases hc with r | r
          · rw [if_neg (by rw [r]; decide), if_neg (by rw [r]; decide)]; omega
          · rw [if_neg (by rw [r]; decide), if_neg (by rw [r]; decide)]; omega)
        have hlt : a < we x T q2 := i_trans3 hav (i_as s1)
        rcases ih (we x T q2) (nx x T q2) u.2.2.1 u.2.2.2.1 g.1 (g.2.1 + 1) g.2.2.1 g.2.2.2 (upd u.2.2.2.2.2.2.2.2.1 g.2.1.toNatClampNeg c) (c :: sdr least s2) s3 z4 z5 hp2 (OK4_cons (by rcases hc with r | r; exact Or.inr (Or.inl r); exact Or.inr (Or.inr (Or.inl r))) (OK4_sdr y4)) (by
          rw [Int32.lt_iff_toInt_lt] at s1
          simp only [List.length_cons]
          omega) (by rw [Int32.lt_iff_toInt_lt] at s1; have := s3.2.1; rw [Int32.lt_iff_toInt_lt] at this; omega) (PT_up cd (by simp only [List.length_cons]; rw [Int32.lt_iff_toInt_lt] at s1; omega)) with ⟨e, k1, k2⟩ | ⟨q', l', k1, k2, k3, k4, k5, k6, k7, k8, k9⟩
        · exact Or.inl ⟨e, (by have := z10 _ (y7 _ (hr _ k1)); exact this), k2⟩
        · refine Or.inr ⟨q', (l5 ++ l2) ++ (sdp least s2 ++ l'), ?_, k2, i_trans3 hlt (i_as k3), k4, k5, k6, k7, ?_, k9⟩
          · have := z10 _ (y7 _ (hr _ k1))
            rw [pre_pre, pre_pre, pre_ok] at this
            exact this
          · rw [tcd_app (l5 ++ l2) (sdp least s2 ++ l'), tcd_app (sdp least s2) l']
            exact AP_tr hpt.1 a58 (AP_tr y9.1 cc k8)
      by_cases t : tk x T q2 = 318
      · simp only [if_pos t, i10, if_false]
        exact goon 12 2 (Or.inl rfl) (by decide) (Or.inl t) (fun r hr => R2_sdr (least := 2) (by decide) (Or.inl (by decide)) s2 (R2_and (sdr2_top y4) t hr))
      · simp only [if_neg t, if_true]
        by_cases t7 : tk x T q2 = 317
        · simp only [if_pos t7, i10, if_false]
          exact goon 13 1 (Or.inr rfl) (by decide) (Or.inr t7) (fun r hr => R2_sdr (least := 1) (by decide) (Or.inr t) s2 (R2_or (sdr1_top y4) t7 hr))
        · simp only [if_neg t7, if_true]
          cases N with
          | zero => exact absurd hN (by omega)
          | succ N =>
            show TR2 x T a p md text sg lg st (fb_mX11_tested_12 T text tF E23 E112 (fl_mX11_tested_12 T text tF E23 E112 N) q2 0 u.2.2.1 u.2.2.2.1 v.2.1 v.2.2.1 v.2.2.2.1 v.2.2.2.2 u.2.2.2.2.2.2.2.2.1 0)
            unfold fb_mX11_tested_12
            rw [if_pos rfl, h112, r_ins y3, AT_see H hq, fails0]
            by_cases g : ins s2 = true
            · simp only [if_pos g, i10, if_false]
              obtain ⟨s, e1, _⟩ := sdr1_in s2 y4 g
              have hu := R2_uns (nx := nx x T) (n := u.2.2.2.1) (s := s) (fun w => y6 w g) t t7
              rw [← e1] at hu
              have := z10 _ (y7 _ (R2_sdr (least := 1) (by decide) (Or.inr t) s2 hu))
              exact Or.inl ⟨flt q2 0, this, rfl, rfl⟩
            · simp only [if_neg g, if_true]
              have e0 : sdr 1 s2 = [] := by
                have h1 := sdr1_top y4
                have h2 := sdr_ins (least := 1) (by decide) s2
                cases hz : sdr 1 s2 with
                | nil => rfl
                | cons c s =>
                  rw [hz] at h1 h2
                  exact absurd (h2.symm.trans (by show (decide (c = 91) || ins s) = true; rw [show c = 91 from h1]; rfl)) g
              have hu := R2_end (nx := nx x T) (n := u.2.2.2.1) t t7
              rw [← e0] at hu
              have := z10 _ (y7 _ (R2_sdr (least := 1) (by decide) (Or.inr t) s2 hu))
              have hc3 := PT_set (a := v.1) (sg := v.2.2.2.1) (lg := v.2.2.2.2) (least := 1) (by decide) t0 t6 y3 y9 (by omega)
              rw [e0] at hc3
              refine Or.inr ⟨q2, (l5 ++ l2) ++ (sdp 1 s2 ++ []), ?_, hq, hav, rfl, z4, z5, rfl, ?_, PT_up hc3.2 (by show _ ≤ _ + q2.toInt; omega)⟩
              · rw [pre_pre] at this
                have e3 : pre (l5 ++ l2) (pre (sdp 1 s2) (.ok (q2, u.2.2.2.1, []))) = .ok (q2, u.2.2.2.1, (l5 ++ l2) ++ (sdp 1 s2 ++ [])) := rfl
                rw [e3] at this
                exact this
              · rw [List.append_nil, tcd_app (l5 ++ l2)]
                exact AP_tr hpt.1 a58 hc3.1
set_option maxHeartbeats 400000 in
theorem r_tesC {x tF : Nat → Int32} {T a p text num md : Int32} {sg lg f : Nat → Int32} {w : Int32 × Int32 × Stps} (H : LXH x tF T) (t0 : 0 ≤ text.toInt) (t6 : text.toInt ≤ 6) (h : AT x T a p) (m0 : ¬ md < 0) (m6 : ¬ 60 < md) (hl : LGok text a lg) (he : sT (tk x T) (nx x T) 10 p md = .ok w) : AP text sg lg (fX11_tested T a 0 num text md tF sg lg f).2.2.2.2.2.2.1 (fX11_tested T a 0 num text md tF sg lg f).2.2.2.2.2.2.2.1 (tcd w.2.2) ∧ LGok text (fX11_tested T a 0 num text md tF sg lg f).1 (fX11_tested T a 0 num text md tF sg lg f).2.2.2.2.2.2.2.1 := by
  unfold fX11_tested
  simp only [bnd]
  have ha := i_nn h.1
  have hr := s2_T m0 he
  rcases r_tesL2 H t0 t6 (E23 := fun a1 a2 a3 a4 a5 a6 a7 a8 a9 _ => (a1, a2, a3, a4, a5, a6, a7, a8, a9, 0)) (E112 := fun a1 a2 a3 a4 a5 a6 a7 a8 a9 _ => if fX11_isInside a6 a9 = 0 then (a1, a2, a3, a4, (fX11_settles text a5 a6 a7 a8 a9 1).1, (fX11_settles text a5 a6 a7 a8 a9 1).2.1, (fX11_settles text a5 a6 a7 a8 a9 1).2.2.1, (fX11_settles text a5 a6 a7 a8 a9 1).2.2.2, a9, 1) else ((fX11_see T a1 tF).1, fX11_fails a2 0 (fX11_see T a1 tF).1, a3, a4, a5, a6, a7, a8, a9, 0)) (fun _ _ _ _ _ _ _ _ _ _ => ⟨rfl, rfl⟩) (fun _ _ _ _ _ _ _ _ _ _ => rfl) (2 * (T.toInt - a.toInt).toNat + mb 1 + 1) a p num md 0 0 sg lg f [] h m0 m6 ⟨trivial, by decide, by decide, by decide⟩ (fun _ hc => absurd hc (List.not_mem_nil)) ha (by rw [mb_1]; omega) ⟨hl.1, by have := hl.2; simp only [List.length_nil]; omega⟩ with ⟨e, k1, k2⟩ | ⟨q, l, k1, k2, k3, k4, k5, k6, k7, k8, k9⟩
  · have := R2_u hr k1
    cases this
  · have := R2_u hr k1
    injection this with this
    have e2 : w.2.2 = l := by rw [this]
    rw [e2]
    exact ⟨k8, k9.1, by have := k9.2; simp only [List.length_nil] at this; omega⟩
