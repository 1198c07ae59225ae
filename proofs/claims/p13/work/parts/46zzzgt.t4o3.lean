set_option maxHeartbeats 400000 in
theorem hs_j {j z : Int32} {S : Nat → Int32} (h : IV S) (ez : z = S 2) (d : ¬ hs j z = 0) : rJ j := by
  have r := hs_r d
  have := h.2.2.2.2.2.2.1
  rw [ez] at r
  exact ⟨r.1, by omega⟩
set_option maxHeartbeats 400000 in
theorem hs_n {k z : Int32} {S : Nat → Int32} (h : IV S) (ez : z = S 0) (d : ¬ hs k z = 0) : rN k := by
  have r := hs_r d
  have := h.2.2.2.2.2.2.2
  rw [ez] at r
  exact ⟨r.1, by omega⟩
set_option maxHeartbeats 400000 in
theorem cls_mon {fm now : Int32} : fX9_monthAt fm now = fX11_monthAt fm now := rfl
set_option maxHeartbeats 400000 in
theorem cls_snow {nF S : Nat → Int32} {k m : Int32} (hn : NE nF S) (hk : rN k) : fX9_hasSnow nF k m = fX11_hasSnow S k m := by
  unfold fX9_hasSnow fX11_hasSnow
  rw [bndv (nget (c := 1) hn hk (by decide) (by decide)), c_nd (q := 1) (c := 1) hk (by decide) (by decide)]
  rfl
set_option maxHeartbeats 400000 in
theorem cls_nof {jF S : Nat → Int32} {j z : Int32} (hJ : JE jF S) (hj : rJ j) (d : ¬ hs j z = 0) : fX9_nodeOf z jF j = if 12 ≤ S (168 + 9 * j.toNatClampNeg + 5) then -1 else S (168 + 9 * j.toNatClampNeg + 5) := by
  unfold fX9_nodeOf
  rw [if_neg d, bndv (jg1 hJ hj)]
set_option maxHeartbeats 400000 in
theorem ref_std {S : Nat → Int32} {j z : Int32} (hj : rJ j) (d : ¬ hs j z = 0) : fX11_stands S z j = if 12 ≤ S (168 + 9 * j.toNatClampNeg + 5) then 0 else 1 := by
  unfold fX11_stands
  rw [if_neg d, cj5 hj]
set_option maxHeartbeats 400000 in
theorem stn_n {S : Nat → Int32} {j : Int32} (h : JI1 S j) (w : ¬ 12 ≤ S (168 + 9 * j.toNatClampNeg + 5)) : rN (S (168 + 9 * j.toNatClampNeg + 5)) := by
  rw [Int32.le_iff_toInt_le, c12] at w
  exact ⟨h.2.1.1, by omega⟩
set_option maxHeartbeats 400000 in
theorem cls_fill {nF jF S : Nat → Int32} {z now fm j p1 : Int32} (hn : NE nF S) (hJ : JE jF S) (h : IV S) (ez : z = S 2) (en : now = S 5) : ∃ G U a, fX10_fill nF z jF now fm j p1 = (G, a) ∧ fX11_fill S z fm j p1 = (U, a) ∧ JE G U ∧ IV U ∧ ∀ i : Nat, (i < 168 ∨ 312 ≤ i) → U i = S i := by
  unfold fX10_fill fX11_fill
  by_cases d : hs j z = 0
  · refine ⟨jF, S, -1, ?_, ?_, hJ, h, fun _ _ => rfl⟩
    · rw [bndv (show fX9_nodeOf z jF j = -1 by unfold fX9_nodeOf; rw [if_pos d]), if_pos rfl]
    · rw [bndv (show fX11_stands S z j = 0 by unfold fX11_stands; rw [if_pos d]), if_pos rfl]
  · have hj := hs_j h ez d
    have tj := tn_eq hj.1
    have lj := hj.2
    rw [bndv (cls_nof hJ hj d), bndv (ref_std hj d)]
    by_cases w : 12 ≤ S (168 + 9 * j.toNatClampNeg + 5)
    · rw [if_pos w, if_pos w, if_pos rfl, if_pos rfl]
      exact ⟨jF, S, -1, rfl, rfl, hJ, h, fun _ _ => rfl⟩
    · have hk := stn_n (h.1 j hj) w
      rw [if_neg w, if_neg w, if_neg (ne_m1 hk.1), if_neg (show ¬ (1 : Int32) = 0 by decide), li_wj (hi := 99999) (by decide)]
      by_cases b : wi p1 99999 = 0
      · rw [if_pos b, if_pos b]
        exact ⟨jF, S, -1, rfl, rfl, hJ, h, fun _ _ => rfl⟩
      · have rb := wi_r b
        rw [show (99999 : Int32).toInt = 99999 from by decide] at rb
        rw [if_neg b, if_neg b, bndv (show fX9_monthAt fm now = fX11_monthAt fm (S 5) by rw [en]; rfl), bndv (cls_snow hn hk), bndv (rfl : fX11_monthAt fm (S 5) = fX11_monthAt fm (S 5)), cj5 hj, bndv (rfl : fX11_hasSnow S (S (168 + 9 * j.toNatClampNeg + 5)) (fX11_monthAt fm (S 5)) = fX11_hasSnow S (S (168 + 9 * j.toNatClampNeg + 5)) (fX11_monthAt fm (S 5)))]
        by_cases s : fX11_hasSnow S (S (168 + 9 * j.toNatClampNeg + 5)) (fX11_monthAt fm (S 5)) = 0
        · rw [if_pos s, if_pos s]
          exact ⟨jF, S, -1, rfl, rfl, hJ, h, fun _ _ => rfl⟩
        · rw [if_neg s, if_neg s, bndv (jg0 hJ hj), bnd_eq, cj4 hj, bnd_eq, bnd_eq]
          exact ⟨_, _, _, rfl, rfl, jp0 hJ hj, IV_d h hj rb.1 rb.2, fun i hi => upd_ne (by omega)⟩
set_option maxHeartbeats 400000 in
theorem cls_pour {nF jF S : Nat → Int32} {z j : Int32} (hn : NE nF S) (hJ : JE jF S) (h : IV S) (ez : z = S 2) : ∃ F G U a, fX10_pour nF z jF j = (F, G, a) ∧ fX11_pour S z j = (U, a) ∧ NE F U ∧ JE G U ∧ IV U ∧ ∀ i : Nat, (i < 20 ∨ (68 ≤ i ∧ i < 168) ∨ 312 ≤ i) → U i = S i := by
  unfold fX10_pour fX11_pour
  by_cases d : hs j z = 0
  · refine ⟨nF, jF, S, -1, ?_, ?_, hn, hJ, h, fun _ _ => rfl⟩
    · rw [bndv (show fX9_nodeOf z jF j = -1 by unfold fX9_nodeOf; rw [if_pos d]), if_pos rfl]
    · rw [bndv (show fX11_stands S z j = 0 by unfold fX11_stands; rw [if_pos d]), if_pos rfl]
  · have hj := hs_j h ez d
    have tj := tn_eq hj.1
    have lj := hj.2
    rw [bndv (cls_nof hJ hj d), bndv (ref_std hj d)]
    by_cases w : 12 ≤ S (168 + 9 * j.toNatClampNeg + 5)
    · rw [if_pos w, if_pos w, if_pos rfl, if_pos rfl]
      exact ⟨nF, jF, S, -1, rfl, rfl, hn, hJ, h, fun _ _ => rfl⟩
    · have hk := stn_n (h.1 j hj) w
      have tk := tn_eq hk.1
      have lk := hk.2
      have s0 := h.2.1 _ hk
      have d0 := (h.1 j hj).1
      have e6 := ref_sto (S := S) (d := S (168 + 9 * j.toNatClampNeg + 4)) hk s0.1 s0.2 d0.1 d0.2
      have hb := cls_bring (d := S (168 + 9 * j.toNatClampNeg + 4)) hn hk
      have br := brS_in s0.1 s0.2 d0.1 d0.2
      rw [if_neg w, if_neg w, if_neg (ne_m1 hk.1), if_neg (show ¬ (1 : Int32) = 0 by decide), bndv (jg0 hJ hj), bnd_eq, bnd_eq, bndv hb.2, bnd_eq, cj5 hj, cj4 hj, bndv e6, bnd_eq, bnd_eq, bnd_eq]
      refine ⟨_, _, _, _, rfl, rfl, NE_o hb.1 (Or.inr (by omega)), jp0 (JE_o hJ (Or.inl (by omega))) hj, IV_d (IV_s h hk br.1 br.2) hj (by decide) (by decide), fun i hi => ?_⟩
      show upd (upd S (20 + 4 * (S (168 + 9 * j.toNatClampNeg + 5)).toNatClampNeg + 3) (S (20 + 4 * (S (168 + 9 * j.toNatClampNeg + 5)).toNatClampNeg + 3) + brS (S (20 + 4 * (S (168 + 9 * j.toNatClampNeg + 5)).toNatClampNeg + 3)) (S (168 + 9 * j.toNatClampNeg + 4)))) (168 + 9 * j.toNatClampNeg + 4) 0 i = S i
      rw [upd_ne (by omega), upd_ne (by omega)]
set_option maxHeartbeats 400000 in
theorem cls_store {nF S : Nat → Int32} {z k p1 : Int32} (hn : NE nF S) (h : IV S) (ez : z = S 0) : ∃ F U a, fX10_store z nF k p1 = (F, a) ∧ fX11_store S z k p1 = (U, a) ∧ NE F U ∧ IV U ∧ ∀ i : Nat, (i < 20 ∨ 68 ≤ i) → U i = S i := by
  unfold fX10_store fX11_store
  rw [li_wj (hi := 999999) (by decide)]
  by_cases d : hs k z = 0
  · rw [if_pos d, if_pos d]
    exact ⟨nF, S, -1, rfl, rfl, hn, h, fun _ _ => rfl⟩
  · have hk := hs_n h ez d
    have tk := tn_eq hk.1
    have lk := hk.2
    rw [if_neg d, if_neg d]
    by_cases b : wi p1 999999 = 0
    · rw [if_pos b, if_pos b]
      exact ⟨nF, S, -1, rfl, rfl, hn, h, fun _ _ => rfl⟩
    · have rb := wi_r b
      rw [show (999999 : Int32).toInt = 999999 from by decide] at rb
      rw [if_neg b, if_neg b, bndv (nget (c := 3) hn hk (by decide) (by decide)), bnd_eq, c_nd (q := 3) (c := 3) hk (by decide) (by decide), bnd_eq, bnd_eq]
      exact ⟨_, _, _, rfl, rfl, nput (c := 3) hn hk (by decide) (by decide), IV_s h hk rb.1 rb.2, fun i hi => upd_ne (by omega)⟩
set_option maxHeartbeats 400000 in
theorem cls_seed {S : Nat → Int32} {x p0 : Int32} (h : IV S) (ex : x = S 7) : ∃ U y a, fX10_seed x p0 = (y, a) ∧ fX11_seed S p0 = (U, a) ∧ y = U 7 ∧ IV U ∧ ∀ i : Nat, i ≠ 7 → U i = S i := by
  unfold fX10_seed fX11_seed
  by_cases c : 0 ≤ p0
  · rw [if_pos c, if_pos c, bnd_eq, bnd_eq, c_k7]
    rw [Int32.le_iff_toInt_le, z_i0] at c
    refine ⟨_, _, _, rfl, Prod.ext rfl ex.symm, pk_us.symm, IV_fr h (fun i hi => upd_ne (by omega)) (by rw [upd_ne (by decide)]; exact h.2.2.2.2.2.2.2) (by rw [pk_us]; exact c), fun i hi => upd_ne (by omega)⟩
  · rw [if_neg c, if_neg c]
    exact ⟨S, x, -1, rfl, rfl, ex, h, fun _ _ => rfl⟩
/-- the ends of a pass that is are nodes -/
def SRp (S : Nat → Int32) : Prop := (∀ p : Nat, p < 20 → in12 (S (68 + 5 * p)) ∧ in12 (S (69 + 5 * p))) ∧ (∀ p : Nat, p < 20 → (p : Int) < (S 1).toInt → (¬ S (70 + 5 * p) < 1) ∧ ¬ 24 < S (70 + 5 * p)) ∧ (S 1).toInt ≤ 20
set_option maxHeartbeats 400000 in
theorem in12_r {x : Int32} (h : in12 x) : rN x := by
  obtain ⟨a, b⟩ := h
  rw [Int32.lt_iff_toInt_lt, z_i0] at a
  rw [Int32.le_iff_toInt_le, c12] at b
  exact ⟨by omega, by omega⟩
set_option maxHeartbeats 400000 in
theorem rP_of {S : Nat → Int32} {p : Int32} (h : SRp S) (d : ¬ hs p (S 1) = 0) : rP S p := by
  have r := hs_r d
  obtain ⟨h1, h2, h3⟩ := h
  have tp := tn_eq r.1
  obtain ⟨a, b⟩ := h2 p.toNatClampNeg (by omega) (by omega)
  rw [Int32.lt_iff_toInt_lt, show (1 : Int32).toInt = 1 from by decide] at a
  rw [Int32.lt_iff_toInt_lt, show (24 : Int32).toInt = 24 from by decide] at b
  have e : 70 + 5 * p.toNatClampNeg = 68 + 5 * p.toNatClampNeg + 2 := by omega
  rw [e] at a b
  exact ⟨r.1, r.2, h3, by omega, by omega⟩
set_option maxHeartbeats 400000 in
theorem oth_in {S : Nat → Int32} {p n : Int32} (h : SRp S) (hp : rP S p) (ho : 0 ≤ (oth S p n).toInt) : rN (oth S p n) ∧ rN (oth S p (oth S p n)) := by
  obtain ⟨h1, h2, h3⟩ := h
  have p20 : p.toInt < 20 := by have := hp.2.1; have := hp.2.2.1; omega
  have tp := tn_eq hp.1
  obtain ⟨a, b⟩ := h1 p.toNatClampNeg (by omega)
  have ra := in12_r a
  have rb := in12_r b
  have e : 69 + 5 * p.toNatClampNeg = 68 + 5 * p.toNatClampNeg + 1 := by omega
  rw [e] at rb
  have c0 := c_ps (q := 0) (c := 0) hp.1 p20 (by decide) (by decide)
  have c1 := c_ps (q := 1) (c := 1) hp.1 p20 (by decide) (by decide)
  unfold oth at ho ⊢
  rw [c0, c1] at ho ⊢
  rw [Nat.add_zero] at ho ⊢
  generalize S (68 + 5 * p.toNatClampNeg) = x at ra ho ⊢
  generalize S (68 + 5 * p.toNatClampNeg + 1) = y at rb ho ⊢
  by_cases q : x = n
  · rw [if_pos q] at ho ⊢
    refine ⟨rb, ?_⟩
    by_cases q2 : x = y
    · rw [if_pos q2]; exact rb
    · rw [if_neg q2, if_pos rfl]; exact ra
  · rw [if_neg q] at ho ⊢
    by_cases q1 : y = n
    · rw [if_pos q1] at ho ⊢
      refine ⟨ra, ?_⟩
      rw [if_pos rfl]; exact rb
    · rw [if_neg q1] at ho
      exact absurd ho (by decide)
set_option maxHeartbeats 400000 in
theorem cls_leave {pF jF S : Nat → Int32} {zp z j p : Int32} (hp : PE pF S) (hJ : JE jF S) (h : IV S) (hs0 : SRp S) (ez : z = S 2) (ezp : zp = S 1) : ∃ G U a, fX10_leave zp pF z jF j p = (G, a) ∧ fX11_leave S zp z j p = (U, a) ∧ JE G U ∧ IV U ∧ ∀ i : Nat, (i < 168 ∨ 312 ≤ i) → U i = S i := by
  unfold fX10_leave fX11_leave
  by_cases d : hs j z = 0
  · refine ⟨jF, S, 0, ?_, ?_, hJ, h, fun _ _ => rfl⟩
    · rw [bndv (show fX9_nodeOf z jF j = -1 by unfold fX9_nodeOf; rw [if_pos d]), if_pos rfl]
    · rw [bndv (show fX11_stands S z j = 0 by unfold fX11_stands; rw [if_pos d]), if_pos rfl]
  · have hj := hs_j h ez d
    have tj := tn_eq hj.1
    have lj := hj.2
    rw [bndv (cls_nof hJ hj d), bndv (ref_std hj d)]
    by_cases w : 12 ≤ S (168 + 9 * j.toNatClampNeg + 5)
    · rw [if_pos w, if_pos w, if_pos rfl, if_pos rfl]
      exact ⟨jF, S, 0, rfl, rfl, hJ, h, fun _ _ => rfl⟩
    · have hk := stn_n (h.1 j hj) w
      rw [if_neg w, if_neg w, if_neg (ne_m1 hk.1), if_neg (show ¬ (1 : Int32) = 0 by decide), cj5 hj]
      by_cases e : hs p zp = 0
      · rw [if_pos e, bndv (show fX9_otherEnd zp pF p (S (168 + 9 * j.toNatClampNeg + 5)) = -1 by unfold fX9_otherEnd; rw [if_pos e]), if_pos rfl]
        exact ⟨jF, S, 0, rfl, rfl, hJ, h, fun _ _ => rfl⟩
      · have r20 := hs0.2.2
        have hP : rP S p := rP_of hs0 (by rw [← ezp]; exact e)
        have eo := oe_in (p := p) (n := S (168 + 9 * j.toNatClampNeg + 5)) hp ezp (show ¬ 20 < S 1 by rw [Int32.lt_iff_toInt_lt, show (20 : Int32).toInt = 20 from by decide]; omega) e
        rw [if_neg e, bndv eo]
        by_cases c : 0 ≤ oth S p (S (168 + 9 * j.toNatClampNeg + 5))
        · have c0 : 0 ≤ (oth S p (S (168 + 9 * j.toNatClampNeg + 5))).toInt := by
            rw [Int32.le_iff_toInt_le, z_i0] at c
            exact c
          have ro := oth_in hs0 hP c0
          rw [if_neg (ne_m1 c0), if_pos c, bnd_eq, bnd_eq, bnd_eq, bnd_eq, bnd_eq, bndv (congrArg S (cj5 hj)), bnd_eq, bnd_eq, bnd_eq, bnd_eq, cj8 hj, cj5 hj, cj6 hj, cj7 hj]
          have hjp := jp4 (v := oth S p (S (168 + 9 * j.toNatClampNeg + 5))) (jp3 (v := 0) (jp2 (v := p) (jp1 (v := 12) hJ hj) hj) hj) hj
          rw [upd_comm (k := (168 + 9 * j.toNatClampNeg + 7)) (l := (168 + 9 * j.toNatClampNeg + 8)) (by omega), upd_comm (k := (168 + 9 * j.toNatClampNeg + 6)) (l := (168 + 9 * j.toNatClampNeg + 8)) (by omega), upd_comm (k := (168 + 9 * j.toNatClampNeg + 5)) (l := (168 + 9 * j.toNatClampNeg + 8)) (by omega)] at hjp
          exact ⟨_, _, _, rfl, rfl, hjp, IV_lv h hj hP ro.1 ro.2, fun i hi => by rw [upd_ne (by omega), upd_ne (by omega), upd_ne (by omega), upd_ne (by omega)]⟩
        · have cm : oth S p (S (168 + 9 * j.toNatClampNeg + 5)) = -1 := by
            have p20 : p.toInt < 20 := by have := hP.2.1; have := hP.2.2.1; omega
            have tp := tn_eq hP.1
            obtain ⟨a, b⟩ := hs0.1 p.toNatClampNeg (by omega)
            have ra := in12_r a
            have rb := in12_r b
            have e69 : 69 + 5 * p.toNatClampNeg = 68 + 5 * p.toNatClampNeg + 1 := by omega
            rw [e69] at rb
            rw [Int32.le_iff_toInt_le, z_i0] at c
            unfold oth at c ⊢
            rw [c_ps (q := 0) (c := 0) hP.1 p20 (by decide) (by decide), c_ps (q := 1) (c := 1) hP.1 p20 (by decide) (by decide), Nat.add_zero] at c ⊢
            by_cases q : S (68 + 5 * p.toNatClampNeg) = S (168 + 9 * j.toNatClampNeg + 5)
            · rw [if_pos q] at c
              exact absurd rb.1 c
            · rw [if_neg q] at c ⊢
              by_cases q1 : S (68 + 5 * p.toNatClampNeg + 1) = S (168 + 9 * j.toNatClampNeg + 5)
              · rw [if_pos q1] at c
                exact absurd ra.1 c
              · rw [if_neg q1]
          rw [if_pos cm, if_neg c]
          exact ⟨jF, S, 0, rfl, rfl, hJ, h, fun _ _ => rfl⟩
set_option maxHeartbeats 400000 in
/-- AT, OF, COUNT -/
theorem cls_jat {jF S : Nat → Int32} {z k : Int32} (hJ : JE jF S) (hz : z.toInt ≤ 16) : ∀ (n N : Nat) (i c : Int32), 0 ≤ i.toInt → i.toInt + n = z.toInt → n < N → fl_mX9_jarsAt_4 z jF k (fun _ c => c) N i c = fl_mX11_at_68 S z k (fun _ c => c) N i c := by
  intro n
  induction n with
  | zero =>
    intro N i c i0 iz hN
    obtain ⟨N, rfl⟩ : ∃ m, N = m + 1 := ⟨N - 1, by omega⟩
    have e : z ≤ i := by rw [Int32.le_iff_toInt_le]; omega
    show fb_mX9_jarsAt_4 z jF k (fun _ c => c) (fl_mX9_jarsAt_4 z jF k (fun _ c => c) N) i c = fb_mX11_at_68 S z k (fun _ c => c) (fl_mX11_at_68 S z k (fun _ c => c) N) i c
    unfold fb_mX9_jarsAt_4 fb_mX11_at_68
    rw [if_pos e, if_pos e]
  | succ n ih =>
    intro N i c i0 iz hN
    obtain ⟨N, rfl⟩ : ∃ m, N = m + 1 := ⟨N - 1, by omega⟩
    have ei : (i + 1).toInt = i.toInt + 1 := zadd1 (by omega)
    have hi : rJ i := ⟨i0, by omega⟩
    have go := fun (c : Int32) => ih N (i + 1) c (by omega) (by omega) (by omega)
    show fb_mX9_jarsAt_4 z jF k (fun _ c => c) (fl_mX9_jarsAt_4 z jF k (fun _ c => c) N) i c = fb_mX11_at_68 S z k (fun _ c => c) (fl_mX11_at_68 S z k (fun _ c => c) N) i c
    unfold fb_mX9_jarsAt_4 fb_mX11_at_68
    rw [if_neg (show ¬ z ≤ i by rw [Int32.le_iff_toInt_le]; omega), if_neg (show ¬ z ≤ i by rw [Int32.le_iff_toInt_le]; omega), bndv (jg1 hJ hi), cj5 hi]
    by_cases q : S (168 + 9 * i.toNatClampNeg + 5) = k
    · rw [if_pos q, if_pos q, bnd_eq, bnd_eq, bnd_eq, bnd_eq]
      exact go _
    · rw [if_neg q, if_neg q, bnd_eq, bnd_eq, bnd_eq, Int32.add_zero]
      exact go _
set_option maxHeartbeats 400000 in
theorem wi_n {p m : Int32} (h : wi p m = 0) : p.toInt < 0 ∨ m.toInt < p.toInt := by
  unfold wi at h
  by_cases a : p < 0
  · rw [Int32.lt_iff_toInt_lt, z_i0] at a
    exact Or.inl a
  · rw [if_neg a] at h
    by_cases b : m < p
    · rw [Int32.lt_iff_toInt_lt] at b
      exact Or.inr b
    · rw [if_neg b] at h
      exact absurd h (by decide)
set_option maxHeartbeats 400000 in
theorem at_x {nF jF S : Nat → Int32} {zn z now fm k c : Int32} (hn : NE nF S) (hJ : JE jF S) (h : IV S) (ezn : zn = S 0) (ez : z = S 2) (en : now = S 5) : fX10_at zn nF z jF now fm k c = fX11_at S zn z fm k c := by
  have k3 : (3 : Int32).toInt = 3 := by decide
  have k4 : (4 : Int32).toInt = 4 := by decide
  have k5 : (5 : Int32).toInt = 5 := by decide
  have hz := h.2.2.2.2.2.2.1
  unfold fX10_at fX11_at
  rw [li_wj (hi := 5) (by decide)]
  by_cases d : hs k zn = 0
  · rw [if_pos d, if_pos d]
  · have hk := hs_n h ezn d
    rw [if_neg d, if_neg d]
    by_cases a : wi c 3 = 0
    · rw [if_pos a]
      have ra := wi_n a
      rw [k3] at ra
      by_cases c4 : c = 4
      · subst c4
        rw [if_pos rfl, if_neg (by decide), if_pos (by decide), if_pos rfl, bndv (show fX9_monthAt fm now = fX11_monthAt fm (S 5) by rw [en]; rfl), bndv (cls_snow hn hk)]
        rfl
      · rw [if_neg c4]
        by_cases c5 : c = 5
        · subst c5
          rw [if_pos rfl, if_neg (by decide), if_pos (by decide), if_neg (by decide), bnd_eq]
          unfold fX9_jarsAt
          rw [← ez] at hz
          have tz := tn_eq hz.1
          exact cls_jat hJ hz.2 z.toNatClampNeg _ 0 0 (by decide) (by rw [z_i0]; omega) (by rw [z_i0]; omega)
        · rw [if_neg c5]
          have n4 : ¬ c.toInt = 4 := fun q => c4 (Int32.toInt_inj.mp (q.trans k4.symm))
          have n5 : ¬ c.toInt = 5 := fun q => c5 (Int32.toInt_inj.mp (q.trans k5.symm))
          by_cases b : wi c 5 = 0
          · rw [if_pos b]
          · have rb := wi_r b
            rw [k5] at rb
            omega
    · have ra := wi_r a
      rw [k3] at ra
      have tc := tn_eq ra.1
      by_cases b : wi c 5 = 0
      · have rb := wi_n b
        rw [k5] at rb
        omega
      · rw [if_neg a, if_neg b, if_neg (show ¬ 4 ≤ c by rw [Int32.le_iff_toInt_le, k4]; omega), bndv (nget (c := c.toNatClampNeg) hn hk (by omega) (by omega)), c_nd (c := c.toNatClampNeg) hk (by omega) (by omega)]
set_option maxHeartbeats 400000 in
theorem of_x {jF S : Nat → Int32} {z j c : Int32} (hJ : JE jF S) (h : IV S) (ez : z = S 2) : fX10_of z jF j c = fX11_of S z j c := by
  have k8 : (8 : Int32).toInt = 8 := by decide
  have k5 : (5 : Int32).toInt = 5 := by decide
  have k4 : (4 : Int32).toInt = 4 := by decide
  unfold fX10_of fX11_of
  rw [li_wj (hi := 8) (by decide)]
  by_cases d : hs j z = 0
  · rw [if_pos d, if_pos d]
  · have hj := hs_j h ez d
    rw [if_neg d, if_neg d]
    by_cases a : wi c 8 = 0
    · rw [if_pos a, if_pos a]
    · have ra := wi_r a
      rw [k8] at ra
      have tc := tn_eq ra.1
      rw [if_neg a, if_neg a, bndv (jget (c := c.toNatClampNeg) hJ hj (by omega) (by omega))]
      by_cases b : 5 ≤ c
      · rw [if_pos b]
        rw [Int32.le_iff_toInt_le, k5] at b
        have e : (c - 5).toInt = c.toInt - 5 := by rw [zsub (by omega) (by omega), k5]
        rw [c_jr (q := c - 5) (c := c.toNatClampNeg - 5) hj (by omega) (by omega)]
        unfold jcl
        rw [if_neg (by omega)]
      · rw [if_neg b]
        rw [Int32.le_iff_toInt_le, k5] at b
        have e : (c + 4).toInt = c.toInt + 4 := by rw [zadd (by omega) (by omega), k4]
        rw [c_jr (q := c + 4) (c := c.toNatClampNeg + 4) hj (by omega) (by omega)]
        unfold jcl
        rw [if_pos (by omega)]
