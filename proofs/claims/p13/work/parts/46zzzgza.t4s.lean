def WKi (S : Nat → Int32) : Prop := 0 ≤ (S 8).toInt → ∀ k : Nat, (k : Int) ≤ (S 9).toInt → rN (wen S k)
def ORI (S : Nat → Int32) : Prop := ∀ o : Nat, (o : Int) < (S 3).toInt → rN (S (312 + 4 * o)) ∧ (0 ≤ (S (312 + 4 * o + 1)).toInt ∧ (S (312 + 4 * o + 1)).toInt ≤ 99999) ∧ (1 ≤ (S (312 + 4 * o + 2)).toInt ∧ (S (312 + 4 * o + 2)).toInt ≤ 99999) ∧ (0 ≤ (S (312 + 4 * o + 3)).toInt ∧ (S (312 + 4 * o + 3)).toInt ≤ 9999)
def FEI (S : Nat → Int32) : Prop := ∀ o : Nat, (o : Int) < (S 4).toInt → (0 ≤ (S (336 + 3 * o + 1)).toInt ∧ (S (336 + 3 * o + 1)).toInt ≤ 4166) ∧ (1 ≤ (S (336 + 3 * o + 2)).toInt ∧ (S (336 + 3 * o + 2)).toInt ≤ 99999)
def XT (S : Nat → Int32) : Prop := WKi S ∧ ORI S ∧ FEI S
set_option maxHeartbeats 400000 in
theorem wen_ag {S U : Nat → Int32} (hr : WRc S) (a8 : U 8 = S 8) (aw : ∀ j : Nat, (j : Int) < (S 9).toInt → U (10 + j) = S (10 + j)) (ap : ∀ p : Int32, 0 ≤ p.toInt → p.toInt < (S 1).toInt → ∀ n, oth U p n = oth S p n) : ∀ k : Nat, (k : Int) ≤ (S 9).toInt → wen U k = wen S k
  | 0, _ => a8
  | k + 1, hk => by
    have h9 := i_le hr.2.2.1.2
    rw [show (6 : Int32).toInt = 6 from by decide] at h9
    obtain ⟨q0, q1⟩ := hr.2.2.2.1 k (by omega) (by omega)
    have e0 := i_ge q0
    rw [z_i0] at e0
    rw [Int32.le_iff_toInt_le] at q1
    show oth U (U (10 + k)) (wen U k) = oth S (S (10 + k)) (wen S k)
    rw [wen_ag hr a8 aw ap k (by omega), aw k (by omega)]
    exact ap _ e0 (by omega) _
set_option maxHeartbeats 400000 in
theorem ORI_ag {S U : Nat → Int32} (h : ORI S) (a3 : U 3 = S 3) (a : ∀ i : Nat, 312 ≤ i → i < 336 → U i = S i) (h6 : (S 3).toInt ≤ 6) : ORI U := by
  intro k hk
  rw [a3] at hk
  rw [a _ (by omega) (by omega), a (312 + 4 * k + 1) (by omega) (by omega), a (312 + 4 * k + 2) (by omega) (by omega), a (312 + 4 * k + 3) (by omega) (by omega)]
  exact h k hk
set_option maxHeartbeats 400000 in
theorem FEI_ag {S U : Nat → Int32} (h : FEI S) (a4 : U 4 = S 4) (a : ∀ i : Nat, 336 ≤ i → i < 360 → U i = S i) (h8 : (S 4).toInt ≤ 8) : FEI U := by
  intro k hk
  rw [a4] at hk
  rw [a (336 + 3 * k + 1) (by omega) (by omega), a (336 + 3 * k + 2) (by omega) (by omega)]
  exact h k hk
set_option maxHeartbeats 400000 in
theorem WKi_ag {S U : Nat → Int32} (g : GD S) (h : WKi S) (a : ∀ i : Nat, (i = 8 ∨ i = 9 ∨ (10 ≤ i ∧ i < 16) ∨ (68 ≤ i ∧ i < 168)) → U i = S i) : WKi U := by
  have b1 := GD_1 g
  have b9 := GD_9 g
  intro h8 k hk
  rw [a 8 (by omega)] at h8
  rw [a 9 (by omega)] at hk
  rw [wen_ag (GD_wr g) (a 8 (by omega)) (fun j hj => a _ (by omega)) (fun p p0 p1 n => oth_ag (fun i i0 i1 => a i (by omega)) p0 (by omega)) k hk]
  exact h h8 k hk
set_option maxHeartbeats 400000 in
theorem XT_ag {S U : Nat → Int32} (g : GD S) (h : XT S) (a : ∀ i : Nat, (i = 3 ∨ i = 4 ∨ i = 8 ∨ i = 9 ∨ (10 ≤ i ∧ i < 16) ∨ (68 ≤ i ∧ i < 168) ∨ (312 ≤ i ∧ i < 360)) → U i = S i) : XT U :=
  ⟨WKi_ag g h.1 (fun i hi => a i (by omega)), ORI_ag h.2.1 (a 3 (by omega)) (fun i _ _ => a i (by omega)) (GD_3 g).2, FEI_ag h.2.2 (a 4 (by omega)) (fun i _ _ => a i (by omega)) (GD_4 g).2⟩
set_option maxHeartbeats 400000 in
theorem xt_month {S : Nat → Int32} {p0 : Int32} (g : GD S) (h : XT S) : XT (fX11_month S p0) := XT_ag g h (fun i hi => month_at (by omega))
set_option maxHeartbeats 400000 in
theorem xt_seed {S : Nat → Int32} {p0 : Int32} (g : GD S) (h : XT S) : XT (fX11_seed S p0).1 := by
  obtain ⟨U, y, b, q1, q2, q3, q4, a⟩ := cls_seed (p0 := p0) g.2.1 rfl
  rw [q2]
  exact XT_ag g h (fun i hi => a i (by omega))
set_option maxHeartbeats 400000 in
theorem xt_fill {S : Nat → Int32} {p0 p1 : Int32} (g : GD S) (h : XT S) : XT (fX11_fill S (S 2) (S 6) p0 p1).1 := by
  obtain ⟨G, U, b, q1, q2, q3, q4, a⟩ := cls_fill (fm := S 6) (j := p0) (p1 := p1) (wNE_h S) (wJE_h S) g.2.1 rfl rfl
  rw [q2]
  exact XT_ag g h (fun i hi => a i (by omega))
set_option maxHeartbeats 400000 in
theorem xt_pour {S : Nat → Int32} {p0 : Int32} (g : GD S) (h : XT S) : XT (fX11_pour S (S 2) p0).1 := by
  obtain ⟨F, G, U, b, q1, q2, q3, q4, q5, a⟩ := cls_pour (j := p0) (wNE_h S) (wJE_h S) g.2.1 rfl
  rw [q2]
  exact XT_ag g h (fun i hi => a i (by omega))
set_option maxHeartbeats 400000 in
theorem xt_store {S : Nat → Int32} {p0 p1 : Int32} (g : GD S) (h : XT S) : XT (fX11_store S (S 0) p0 p1).1 := by
  obtain ⟨F, U, b, q1, q2, q3, q4, a⟩ := cls_store (k := p0) (p1 := p1) (wNE_h S) g.2.1 rfl
  rw [q2]
  exact XT_ag g h (fun i hi => a i (by omega))
set_option maxHeartbeats 400000 in
theorem xt_leave {S : Nat → Int32} {p0 p1 : Int32} (g : GD S) (h : XT S) : XT (fX11_leave S (S 1) (S 2) p0 p1).1 := by
  obtain ⟨G, U, b, q1, q2, q3, q4, a⟩ := cls_leave (j := p0) (p := p1) (wPE_h S) (wJE_h S) g.2.1 (GD_sp g) rfl rfl
  rw [q2]
  exact XT_ag g h (fun i hi => a i (by omega))
set_option maxHeartbeats 400000 in
theorem xt_tick {S : Nat → Int32} {L : Cls} {ch p : Int32} (g : GD S) (h : XT S) : XT (tkS S L ch p) := XT_ag g h (fun i hi => (tkS_at g).1 i (by omega) (by omega) (by omega))
set_option maxHeartbeats 400000 in
theorem xt_tickS {S : Nat → Int32} {LL : Nat → Cls} {im : Nat → Option (Nat → Int32)} {p q : Int32} (g : GD S) (h : XT S) : XT (tkSS S LL im p q) := by
  unfold tkSS
  split
  · exact h
  · exact xt_tick g h
set_option maxHeartbeats 400000 in
theorem xt_bk {c S : Nat → Int32} (g : GD c) (h : XT c) : XT (bkW c S) := XT_ag g h (fun i hi => bkW_at (by omega))
set_option maxHeartbeats 400000 in
theorem xt_node {S : Nat → Int32} {p0 p1 p2 : Int32} (g : GD S) (h : XT S) : XT (fX11_node S (S 0) p0 p1 p2) := by
  by_cases hz : S 0 = 12
  · rw [full_node hz.symm]; exact h
  · have b := GD_0 g
    have bz : 0 ≤ (S 0).toInt ∧ (S 0).toInt < 12 := ⟨b.1, i_lt (m := 12) b.2 hz⟩
    have tz := tn_eq bz.1
    have hr : rN (S 0) := bz
    have a : ∀ i : Nat, (i ≠ 0 ∧ (i < 20 ∨ 68 ≤ i)) → fX11_node S (S 0) p0 p1 p2 i = S i := fun i hi => node_at hr hi.1 (by omega)
    exact XT_ag g h (fun i hi => a i (by omega))
set_option maxHeartbeats 400000 in
theorem xt_jar {S : Nat → Int32} {p0 p1 p2 p3 p4 : Int32} (g : GD S) (h : XT S) : XT (fX11_jar S (S 0) (S 2) p0 p1 p2 p3 p4) := by
  by_cases hz : S 2 = 16
  · rw [full_jar hz.symm]; exact h
  · have b := GD_2 g
    have bz : 0 ≤ (S 2).toInt ∧ (S 2).toInt < 16 := ⟨b.1, i_lt (m := 16) b.2 hz⟩
    have tz := tn_eq bz.1
    have hr : rJ (S 2) := bz
    have a : ∀ i : Nat, (i ≠ 2 ∧ (i < 168 ∨ 312 ≤ i)) → fX11_jar S (S 0) (S 2) p0 p1 p2 p3 p4 i = S i := fun i hi => jar_at hr hi.1 (by omega)
    exact XT_ag g h (fun i hi => a i (by omega))
set_option maxHeartbeats 400000 in
theorem xt_pass {S : Nat → Int32} {p0 p1 p2 p3 p4 : Int32} (g : GD S) (h : XT S) : XT (fX11_pass S (S 0) (S 1) p0 p1 p2 p3 p4) := by
  by_cases hz : S 1 = 20
  · rw [full_pass hz.symm]; exact h
  · have b := GD_1 g
    have b9 := GD_9 g
    have bz : 0 ≤ (S 1).toInt ∧ (S 1).toInt < 20 := ⟨b.1, i_lt (m := 20) b.2 hz⟩
    have tz := tn_eq bz.1
    have a : ∀ i : Nat, (i ≠ 1 ∧ (i < 68 + 5 * (S 1).toNatClampNeg ∨ 68 + 5 * (S 1).toNatClampNeg + 4 < i)) → fX11_pass S (S 0) (S 1) p0 p1 p2 p3 p4 i = S i := fun i hi => ref_pass bz.1 bz.2 hi.1 hi.2
    refine ⟨fun h8 k hk => ?_, ORI_ag h.2.1 (a 3 (by omega)) (fun i _ _ => a i (by omega)) (GD_3 g).2, FEI_ag h.2.2 (a 4 (by omega)) (fun i _ _ => a i (by omega)) (GD_4 g).2⟩
    rw [a 8 (by omega)] at h8
    rw [a 9 (by omega)] at hk
    rw [wen_ag (GD_wr g) (a 8 (by omega)) (fun j hj => a _ (by omega)) (fun p q0 q1 n => ?_) k hk]
    · exact h.1 h8 k hk
    · have tp := tn_eq q0
      unfold oth
      rw [c_ps (q := 0) (c := 0) q0 (by omega) (by decide) (by decide), c_ps (q := 1) (c := 1) q0 (by omega) (by decide) (by decide), a _ (by omega), a (68 + 5 * p.toNatClampNeg + 1) (by omega)]
set_option maxHeartbeats 400000 in
theorem xt_from {S : Nat → Int32} {p0 : Int32} (g : GD S) (h : XT S) : XT (fX11_from S (S 0) p0) := by
  refine ⟨fun h8 k hk => ?_, ORI_ag h.2.1 (from_at (by omega)) (fun i _ _ => from_at (by omega)) (GD_3 g).2, FEI_ag h.2.2 (from_at (by omega)) (fun i _ _ => from_at (by omega)) (GD_4 g).2⟩
  by_cases c : hs p0 (S 0) = 0
  · have e : fX11_from S (S 0) p0 = S := by unfold fX11_from; rw [if_pos c]
    rw [e] at h8 hk ⊢
    exact h.1 h8 k hk
  · have e : fX11_from S (S 0) p0 = upd (upd S 8 p0) 9 0 := by unfold fX11_from; rw [if_neg c, bnd_eq, bnd_eq, c_k8, show (9 : Int32).toNatClampNeg = 9 from by decide]
    rw [e] at h8 hk ⊢
    rw [pk_us, z_i0] at hk
    obtain ⟨r0, r1⟩ := hs_r c
    have b := GD_0 g
    have ek : k = 0 := by omega
    subst ek
    show rN (upd (upd S 8 p0) 9 0 8)
    rw [upd_ne (by decide), pk_us]
    exact ⟨r0, by omega⟩
set_option maxHeartbeats 400000 in
theorem xt_lay {S : Nat → Int32} {p0 : Int32} (g : GD S) (h : XT S) : XT (fX11_lay S (S 1) (S 8) (S 9) p0).1 := by
  have b1 := GD_1 g
  have b9 := GD_9 g
  have t9 := tn_eq b9.1
  have hw := ref_wayEnd (f := S) (cn := S) (fun _ _ => rfl) (GD_wr g)
  unfold fX11_lay
  split
  · exact h
  · rename_i k8
    split
    · exact h
    · rename_i kp
      split
      · exact h
      · rename_i k6
        have w5 : (S 9).toInt < 6 := i_lt (m := 6) b9.2 k6
        rw [bnd_eq, hw, bnd_eq]
        split
        · exact h
        · rename_i kt
          rw [bnd_eq]
          split
          · rw [bnd_eq, bnd_eq, ten b9.1 (by omega), show (9 : Int32).toNatClampNeg = 9 from by decide]
            show XT (upd (upd S (10 + (S 9).toNatClampNeg) p0) 9 (S 9 + 1))
            obtain ⟨U, eU⟩ : ∃ U, U = upd (upd S (10 + (S 9).toNatClampNeg) p0) 9 (S 9 + 1) := ⟨_, rfl⟩
            have a : ∀ i : Nat, (i ≠ 9 ∧ i ≠ 10 + (S 9).toNatClampNeg) → U i = S i := fun i hi => by rw [eU, upd_ne (fun q => hi.1 q.symm), upd_ne (fun q => hi.2 q.symm)]
            have u9 : U 9 = S 9 + 1 := by rw [eU]; exact pk_us
            have uw : U (10 + (S 9).toNatClampNeg) = p0 := by rw [eU, upd_ne (by omega)]; exact pk_us
            have e1 : (S 9 + 1).toInt = (S 9).toInt + 1 := zadd1 (by omega)
            have ap : ∀ p : Int32, 0 ≤ p.toInt → p.toInt < 20 → ∀ n, oth U p n = oth S p n := fun p q0 q1 n => oth_ag (fun i i0 i1 => a i (by omega)) q0 q1
            rw [← eU]
            refine ⟨fun h8 k hk => ?_, ORI_ag h.2.1 (a 3 (by omega)) (fun i _ _ => a i (by omega)) (GD_3 g).2, FEI_ag h.2.2 (a 4 (by omega)) (fun i _ _ => a i (by omega)) (GD_4 g).2⟩
            rw [a 8 (by omega)] at h8
            rw [u9, e1] at hk
            have we : ∀ j : Nat, (j : Int) ≤ (S 9).toInt → wen U j = wen S j := fun j hj => wen_ag (GD_wr g) (a 8 (by omega)) (fun q hq => a _ (by omega)) (fun p q0 q1 n => ap p q0 (by omega) n) j hj
            by_cases ek : (k : Int) ≤ (S 9).toInt
            · rw [we k ek]; exact h.1 h8 k ek
            · have ek2 : k = (S 9).toNatClampNeg + 1 := by omega
              obtain ⟨r0, r1⟩ := hs_r kp
              rw [ek2]
              show rN (oth U (U (10 + (S 9).toNatClampNeg)) (wen U (S 9).toNatClampNeg))
              rw [uw, we _ (by omega), ap p0 r0 (by omega)]
              exact (oth_in (GD_sp g) (rP_of (GD_sp g) kp) (by have := i_ge kt; rw [z_i0] at this; exact this)).1
          · exact h
set_option maxHeartbeats 400000 in
theorem wsh_r {d : Int32} (h : ¬ wsh d = 0) : 1 ≤ d.toInt ∧ d.toInt ≤ 99999 := by
  unfold wsh at h
  by_cases a : d < 1
  · rw [if_pos a] at h; exact absurd rfl h
  · rw [if_neg a] at h
    by_cases c : 99999 < d
    · rw [if_pos c] at h; exact absurd rfl h
    · exact ⟨i_ge a, i_le c⟩
set_option maxHeartbeats 400000 in
theorem xt_order {S : Nat → Int32} {p0 p1 p2 p3 : Int32} (g : GD S) (h : XT S) : XT (fX11_order S (S 0) (S 3) p0 p1 p2 p3) := by
  by_cases hz : S 3 = 6
  · rw [full_order hz.symm]; exact h
  · have b := GD_3 g
    have b0 := GD_0 g
    have bz : 0 ≤ (S 3).toInt ∧ (S 3).toInt < 6 := ⟨b.1, i_lt (m := 6) b.2 hz⟩
    have tz := tn_eq bz.1
    have a : ∀ i : Nat, (i ≠ 3 ∧ (i < 312 ∨ 336 ≤ i)) → fX11_order S (S 0) (S 3) p0 p1 p2 p3 i = S i := fun i hi => order_at bz.1 bz.2 hi.1 (by omega)
    have e1 : (S 3 + 1).toInt = (S 3).toInt + 1 := zadd1 (by omega)
    have e0 := c_or (q := 0) (c := 0) bz.1 bz.2 (by decide) (by decide)
    rw [Int32.add_zero] at e0
    refine ⟨WKi_ag g h.1 (fun i hi => a i (by omega)), ?_, FEI_ag h.2.2 (a 4 (by omega)) (fun i _ _ => a i (by omega)) (GD_4 g).2⟩
    show ORI (fX11_order S (S 0) (S 3) p0 p1 p2 p3)
    unfold fX11_order
    rw [if_neg hz, li_wj (hi := 99999) (by decide), li_wj (hi := 9999) (by decide), li_wsh]
    by_cases c1 : hs p0 (S 0) = 0
    · rw [if_pos c1]; exact h.2.1
    · rw [if_neg c1]
      by_cases c2 : wi p1 99999 = 0
      · rw [if_pos c2]; exact h.2.1
      · rw [if_neg c2]
        by_cases c3 : wsh p2 = 0
        · rw [if_pos c3]; exact h.2.1
        · rw [if_neg c3]
          by_cases c4 : wi p3 9999 = 0
          · rw [if_pos c4]; exact h.2.1
          · rw [if_neg c4, bnd_eq, bnd_eq, bnd_eq, bnd_eq, bnd_eq, bnd_eq, e0, c_or (q := 1) (c := 1) bz.1 bz.2 (by decide) (by decide), c_or (q := 2) (c := 2) bz.1 bz.2 (by decide) (by decide), c_or (q := 3) (c := 3) bz.1 bz.2 (by decide) (by decide), show (3 : Int32).toNatClampNeg = 3 from by decide]
            have r0 := hs_r c1
            have r1 := wi_r c2
            have r2 := wsh_r c3
            have r3 := wi_r c4
            rw [show (99999 : Int32).toInt = 99999 from by decide] at r1
            rw [show (9999 : Int32).toInt = 9999 from by decide] at r3
            intro k hk
            rw [pk_us, e1] at hk
            by_cases ek : k = (S 3).toNatClampNeg
            · rw [ek]
              refine ⟨?_, ?_, ?_, ?_⟩
              · rw [upd_ne (by omega), upd_ne (by omega), upd_ne (by omega), upd_ne (by omega), show 312 + 4 * (S 3).toNatClampNeg = 312 + (4 * (S 3).toNatClampNeg + 0) from by omega, pk_us]
                exact ⟨r0.1, by omega⟩
              · rw [upd_ne (by omega), upd_ne (by omega), upd_ne (by omega), show 312 + 4 * (S 3).toNatClampNeg + 1 = 312 + (4 * (S 3).toNatClampNeg + 1) from by omega, pk_us]
                exact r1
              · rw [upd_ne (by omega), upd_ne (by omega), show 312 + 4 * (S 3).toNatClampNeg + 2 = 312 + (4 * (S 3).toNatClampNeg + 2) from by omega, pk_us]
                exact r2
              · rw [upd_ne (by omega), show 312 + 4 * (S 3).toNatClampNeg + 3 = 312 + (4 * (S 3).toNatClampNeg + 3) from by omega, pk_us]
                exact r3
            · have q := h.2.1 k (by omega)
              rw [upd_ne (by omega), upd_ne (by omega), upd_ne (by omega), upd_ne (by omega), upd_ne (by omega), upd_ne (by omega), upd_ne (by omega), upd_ne (by omega), upd_ne (by omega), upd_ne (by omega), upd_ne (by omega), upd_ne (by omega), upd_ne (by omega), upd_ne (by omega), upd_ne (by omega), upd_ne (by omega), upd_ne (by omega), upd_ne (by omega), upd_ne (by omega), upd_ne (by omega)]
              exact q
set_option maxHeartbeats 400000 in
theorem xt_feast {S : Nat → Int32} {p0 p1 p2 : Int32} (g : GD S) (h : XT S) : XT (fX11_feast S (S 0) (S 4) p0 p1 p2) := by
  by_cases hz : S 4 = 8
  · rw [full_feast hz.symm]; exact h
  · have b := GD_4 g
    have b0 := GD_0 g
    have bz : 0 ≤ (S 4).toInt ∧ (S 4).toInt < 8 := ⟨b.1, i_lt (m := 8) b.2 hz⟩
    have tz := tn_eq bz.1
    have a : ∀ i : Nat, (i ≠ 4 ∧ (i < 336 ∨ 360 ≤ i)) → fX11_feast S (S 0) (S 4) p0 p1 p2 i = S i := fun i hi => feast_at bz.1 bz.2 hi.1 (by omega)
    have e1 : (S 4 + 1).toInt = (S 4).toInt + 1 := zadd1 (by omega)
    have e0 := c_fe (q := 0) (c := 0) bz.1 bz.2 (by decide) (by decide)
    rw [Int32.add_zero] at e0
    refine ⟨WKi_ag g h.1 (fun i hi => a i (by omega)), ORI_ag h.2.1 (a 3 (by omega)) (fun i _ _ => a i (by omega)) (GD_3 g).2, ?_⟩
    show FEI (fX11_feast S (S 0) (S 4) p0 p1 p2)
    unfold fX11_feast
    rw [if_neg hz, li_wj (hi := 4166) (by decide), li_wsh]
    by_cases c1 : hs p0 (S 0) = 0
    · rw [if_pos c1]; exact h.2.2
    · rw [if_neg c1]
      by_cases c2 : wi p1 4166 = 0
      · rw [if_pos c2]; exact h.2.2
      · rw [if_neg c2]
        by_cases c3 : wsh p2 = 0
        · rw [if_pos c3]; exact h.2.2
        · rw [if_neg c3, bnd_eq, bnd_eq, bnd_eq, bnd_eq, bnd_eq, e0, c_fe (q := 1) (c := 1) bz.1 bz.2 (by decide) (by decide), c_fe (q := 2) (c := 2) bz.1 bz.2 (by decide) (by decide), show (4 : Int32).toNatClampNeg = 4 from by decide]
          have r1 := wi_r c2
          have r2 := wsh_r c3
          rw [show (4166 : Int32).toInt = 4166 from by decide] at r1
          intro k hk
          rw [pk_us, e1] at hk
          by_cases ek : k = (S 4).toNatClampNeg
          · rw [ek]
            refine ⟨?_, ?_⟩
            · rw [upd_ne (by omega), upd_ne (by omega), show 336 + 3 * (S 4).toNatClampNeg + 1 = 336 + (3 * (S 4).toNatClampNeg + 1) from by omega, pk_us]
              exact r1
            · rw [upd_ne (by omega), show 336 + 3 * (S 4).toNatClampNeg + 2 = 336 + (3 * (S 4).toNatClampNeg + 2) from by omega, pk_us]
              exact r2
          · have q := h.2.2 k (by omega)
            rw [upd_ne (by omega), upd_ne (by omega), upd_ne (by omega), upd_ne (by omega), upd_ne (by omega), upd_ne (by omega), upd_ne (by omega), upd_ne (by omega)]
            exact q
set_option maxHeartbeats 400000 in
theorem XT_0_ : XT S0_ := by
  refine ⟨fun h8 k hk => ?_, fun k hk => ?_, fun k hk => ?_⟩
  · rw [show S0_ 8 = -1 from pk_us] at h8
    exact absurd h8 (by decide)
  · rw [S0_at (by omega), z_i0] at hk; omega
  · rw [S0_at (by omega), z_i0] at hk; omega
set_option maxHeartbeats 400000 in
theorem c_inj {a b : Int32} (ha : ¬ a < 0) (hb : ¬ b < 0) (h : a.toNatClampNeg = b.toNatClampNeg) : a = b := by
  have x := zc_eq ha
  have y := zc_eq hb
  exact Int32.toInt_inj.mp (by omega)
def IMS4 (im : Nat → Option (Nat → Int32)) (f g : Nat → Int32) : Prop := ∀ k : Int32, (¬ k < 0) → (¬ 3 < k) → (g k.toNatClampNeg = 0 ∧ im k.toNatClampNeg = none) ∨ ((¬ g k.toNatClampNeg = 0) ∧ ∃ c : Nat → Int32, im k.toNatClampNeg = some c ∧ (∀ i : Nat, i < 360 → f (360 * k.toNatClampNeg + i) = c i) ∧ GD c ∧ XT c)
set_option maxHeartbeats 400000 in
theorem IMS4_new {im : Nat → Option (Nat → Int32)} {f f2 g g2 S : Nat → Int32} {k : Int32} (h : IMS4 im f g) (hs : GD S) (hx : XT S) (hi : IM S f f2 k) (hm : MD g g2 k) (hk : (¬ k < 0) ∧ ¬ 3 < k) : IMS4 (iup im k.toNatClampNeg S) f2 g2 := by
  intro j j0 j3
  by_cases e : j = k
  · subst e
    rw [hm.1, iup_at]
    exact Or.inr ⟨by decide, S, rfl, hi.1, hs, hx⟩
  · have ne : j.toNatClampNeg ≠ k.toNatClampNeg := fun q => e (c_inj j0 hk.1 q)
    rw [hm.2 _ ne, iup_ne ne]
    rcases h j j0 j3 with q | ⟨q1, c, q2, q3, q4⟩
    · exact Or.inl q
    · exact Or.inr ⟨q1, c, q2, fun i hi2 => (hi.2 _ (by omega)).trans (q3 i hi2), q4⟩
set_option maxHeartbeats 400000 in
theorem IMS4_0 : IMS4 (fun _ => none) (fun _ => 0) (fun _ => 0) := fun _ _ _ => Or.inl ⟨rfl, rfl⟩
set_option maxHeartbeats 400000 in
theorem IMS4_g {im : Nat → Option (Nat → Int32)} {f m g : Nat → Int32} (h : IMS4 im f m) : IMS4 (iup im 4 g) f m := by
  intro k k0 k3
  rw [iup_ne (by
    show k.toInt.toNat ≠ 4
    rw [Int32.lt_iff_toInt_lt] at k0 k3
    have e : (3 : Int32).toInt = 3 := by decide
    rw [z_i0] at k0
    omega)]
  exact h k k0 k3
set_option maxHeartbeats 400000 in
theorem IMS4_la {im : Nat → Option (Nat → Int32)} {f m : Nat → Int32} (h : IMS4 im f m) : IMS4 (la_im im) f m := by
  unfold la_im
  split
  · exact h
  · exact IMS4_g h
