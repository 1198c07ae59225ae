set_option maxHeartbeats 400000 in
theorem c13_in {S : Nat → Int32} : ∀ (n : Nat) (k c : Int32), 0 ≤ c.toInt → c.toInt + n ≤ 16 → 0 ≤ (c13J S n k c).toInt ∧ (c13J S n k c).toInt ≤ 16 := by
  intro n
  induction n with
  | zero => intro k c c0 h; exact ⟨c0, by show c.toInt ≤ 16; omega⟩
  | succ n ih =>
    intro k c c0 h
    have ec : (c + 1).toInt = c.toInt + 1 := zadd1 (by omega)
    unfold c13J
    by_cases q : S (168 + 9 * k.toNatClampNeg + 5) = 13
    · rw [if_pos q]; exact ih (k + 1) (c + 1) (by omega) (by omega)
    · rw [if_neg q]; exact ih (k + 1) c c0 (by omega)
set_option maxHeartbeats 400000 in
theorem dr_all {nF jF S : Nat → Int32} {zn zj : Int32} (hn : NE nF S) (hJ : JE jF S) (e0 : S 0 = zn) (e2 : S 2 = zj) (b0 : 0 ≤ (S 0).toInt ∧ (S 0).toInt ≤ 12) (b2 : 0 ≤ (S 2).toInt ∧ (S 2).toInt ≤ 16) : fX9_dropsOfAll zn nF zj jF = smN S (S 0).toNatClampNeg 0 (smJ S (S 2).toNatClampNeg 0 0) := by
  have t0 := tn_eq b0.1
  have t2 := tn_eq b2.1
  unfold fX9_dropsOfAll
  refine (cls_smJ (S := S) (E := fun (w33_0_0 : Int32) (w33_1_0 : Int32) => fl_mX9_dropsOfAll_35 zn nF (fun (w64_0_1 : Int32) (w64_1_1 : Int32) => w64_1_1) (((zn : Int32).toInt - (0 : Int32).toInt).toNat + 1) 0 w33_1_0) hJ (by rw [← e2]; exact b2.2) (S 2).toNatClampNeg _ 0 0 (by decide) (by rw [z_i0, ← e2]; omega) (by rw [z_i0, ← e2]; omega)).trans ?_
  exact cls_smN (S := S) (E := fun (w64_0_1 : Int32) (w64_1_1 : Int32) => w64_1_1) hn (by rw [← e0]; exact b0.2) (S 0).toNatClampNeg _ 0 _ (by decide) (by rw [z_i0, ← e0]; omega) (by rw [z_i0, ← e0]; omega)
set_option maxHeartbeats 400000 in
theorem jr_are {jF S : Nat → Int32} {zj : Int32} (hJ : JE jF S) (e2 : S 2 = zj) (b2 : 0 ≤ (S 2).toInt ∧ (S 2).toInt ≤ 16) : fX9_jarsThatAre zj jF = cnJ S (S 2).toNatClampNeg 0 0 := by
  have t2 := tn_eq b2.1
  have e : fX9_jarsAt zj jF 13 = c13J S (S 2).toNatClampNeg 0 0 := by
    unfold fX9_jarsAt
    exact cls_c13 (S := S) (E := fun (w37_0_0 : Int32) (w37_1_0 : Int32) => w37_1_0) hJ (by rw [← e2]; exact b2.2) (S 2).toNatClampNeg _ 0 0 (by decide) (by rw [z_i0, ← e2]; omega) (by rw [z_i0, ← e2]; omega)
  unfold fX9_jarsThatAre
  rw [bndv e]
  have a := cn_13 (S := S) (S 2).toNatClampNeg 0 0 0 (by decide) (by decide) (by rw [z_i0]; omega)
  have b := c13_in (S := S) (S 2).toNatClampNeg 0 0 (by decide) (by rw [z_i0]; omega)
  rw [z_i0] at a
  apply Int32.toInt_inj.mp
  rw [zsub (by rw [← e2]; omega) (by rw [← e2]; omega), ← e2]
  omega
set_option maxHeartbeats 400000 in
theorem cls_ahead {S nF pF jF oF fF wF c0 c1 c2 c3 c4 c5 cF so s1 s2 t1 t2 yj yo y1 y2 y3 y4 y5 : Nat → Int32} {zn zp zj zo zf zws ws nw fm x b0 b1 b2 b3 b4 b5 v0 v1 v2 v3 cb ch co ych yc p q : Int32} {L : Cls} (hL : LWX so s1 s2 t1 t2 yj yo y1 y2 y3 y4 y5 yc L) (h : IV S) (h5 : (S 5).toInt ≤ 99999) (e0 : S 0 = zn) (e1 : S 1 = zp) (e2 : S 2 = zj) (e5 : S 5 = nw) (e6 : S 6 = fm) (e7 : S 7 = x) (hn : NE nF S) (hp : PE pF S) (hJ : JE jF S) : (fX10_ahead_yes zn nF zp pF zj jF zo oF zf fF zws wF ws nw fm x b0 c0 b1 c1 b2 c2 b3 c3 b4 c4 b5 c5 v0 v1 v2 v3 cF cb ch co so s1 s2 t1 t2 yj yo y1 y2 y3 y4 y5 ych yc p q).2.2.2.2.2.2.2.2.2.2.2.2.2.2.2.2.2.2.2.2 = ahA S L ych p q := by
  unfold fX10_ahead_yes ahA
  by_cases a : wi p 240 = 0
  · rw [if_pos a, if_pos a]
  · rw [if_neg a, if_neg a]
    by_cases b : wi q 1 = 0
    · rw [if_pos b, if_pos b]
    · rw [if_neg b, if_neg b]
      have ra := wi_r a
      rw [show (240 : Int32).toInt = 240 from by decide] at ra
      have tp := tn_eq ra.1
      have bz := h.2.2.2.2.2.2.1
      have bn := h.2.2.2.2.2.2.2
      obtain ⟨u1, u2⟩ := hours_iv (L := L) (ch := ych) p.toNatClampNeg S h (by omega)
      have hn' : NE (fX6_copyFrom_x48 c0 nF) S := fun i hi => (cpy_48 hi).trans (hn i hi)
      have hp' : PE (fX6_copyFrom_x100 c1 pF) S := fun i hi => (cpy_100 hi).trans (hp i hi)
      have hJ' : JE (fX6_copyFrom_x144 c2 jF) S := fun j c hj hc => (cpy_144 (by omega)).trans (hJ j c hj hc)
      have e : fX9_copyFrom c0 c1 c2 c3 c4 c5 zn nF zp pF zj jF zo oF zf fF zws wF ws nw fm x = (ws, nw, fm, x, zn, fX6_copyFrom_x48 c0 nF, zp, fX6_copyFrom_x100 c1 pF, zj, fX6_copyFrom_x144 c2 jF, zo, fX6_copyFrom_x24 c3 oF, zf, fX6_copyFrom_x24 c4 fF, zws, fX6_copyFrom_x6 c5 wF) := rfl
      rw [bndv e, bnd_eq, bnd_eq, bnd_eq, bnd_eq, bnd_eq, bnd_eq, bnd_eq, bnd_eq, bnd_eq, bnd_eq, bnd_eq, bnd_eq, bnd_eq, bnd_eq, bnd_eq, bnd_eq]
      obtain ⟨n1, j1, d1, d2, d3, d4, r, q1, q2⟩ := cls_ahs (E := fun (w71_0_0 : Int32) (w71_1_0 : Int32) (w71_2_0 : Int32) (w71_3_0 : Nat → Int32) (w71_4_0 : Int32) (w71_5_0 : Int32) (w71_6_0 : Nat → Int32) (w71_7_0 : Nat → Int32) (w71_8_0 : Int32) => if q = 0 then (bnd (fX9_dropsOfAll zn w71_6_0 zj w71_7_0) (fun (r43 : Int32) => (ws, w71_4_0, fm, w71_5_0, zn, w71_6_0, zp, fX6_copyFrom_x100 c1 pF, zj, w71_7_0, zo, fX6_copyFrom_x24 c3 oF, zf, fX6_copyFrom_x24 c4 fF, zws, fX6_copyFrom_x6 c5 wF, w71_0_0, w71_1_0, w71_2_0, w71_3_0, r43))) else (bnd (fX9_jarsThatAre zj w71_7_0) (fun (r36 : Int32) => (ws, w71_4_0, fm, w71_5_0, zn, w71_6_0, zp, fX6_copyFrom_x100 c1 pF, zj, w71_7_0, zo, fX6_copyFrom_x24 c3 oF, zf, fX6_copyFrom_x24 c4 fF, zws, fX6_copyFrom_x6 c5 wF, w71_0_0, w71_1_0, w71_2_0, w71_3_0, r36)))) (ch := ych) (p := p) hL p.toNatClampNeg (((p : Int32).toInt - (0 : Int32).toInt).toNat + 1) nw x (fX6_copyFrom_x48 c0 nF) (fX6_copyFrom_x144 c2 jF) cb ch co cF 0 S h e0 e1 e2 e5 e6 e7 hn' hp' hJ' (by omega) (by decide) (by rw [z_i0]; omega) (by rw [z_i0]; omega)
      refine (congrArg (fun z => z.2.2.2.2.2.2.2.2.2.2.2.2.2.2.2.2.2.2.2.2) r).trans ?_
      generalize hU : hoursS L ych p.toNatClampNeg S = U at u1 u2 q1 q2 ⊢
      have f0 : U 0 = S 0 := u2 0 (by omega) (by omega) (by omega)
      have f2 : U 2 = S 2 := u2 2 (by omega) (by omega) (by omega)
      rw [← f0, ← f2]
      by_cases c : q = 0
      · rw [if_pos c, if_pos c]
        exact dr_all q1 q2 (f0.trans e0) (f2.trans e2) u1.2.2.2.2.2.2.2 u1.2.2.2.2.2.2.1
      · rw [if_neg c, if_neg c]
        exact jr_are q2 (f2.trans e2) u1.2.2.2.2.2.2.1
set_option maxHeartbeats 400000 in
theorem ahead_c {S nF pF jF oF fF wF c0 c1 c2 c3 c4 c5 cF so s1 s2 t1 t2 yj yo y1 y2 y3 y4 y5 : Nat → Int32} {zn zp zj zo zf zw ws nw fm x b0 b1 b2 b3 b4 b5 v0 v1 v2 v3 cb ch co ych yc p q c : Int32} {L : Cls} (h : X4 S zn zp zj zo zf nw fm x ws zw nF pF jF oF fF wF) (g : GD S) (hL : LWX so s1 s2 t1 t2 yj yo y1 y2 y3 y4 y5 yc L) (hc : ych = c) : (fX10_ahead_yes zn nF zp pF zj jF zo oF zf fF zw wF ws nw fm x b0 c0 b1 c1 b2 c2 b3 c3 b4 c4 b5 c5 v0 v1 v2 v3 cF cb ch co so s1 s2 t1 t2 yj yo y1 y2 y3 y4 y5 ych yc p q).2.2.2.2.2.2.2.2.2.2.2.2.2.2.2.2.2.2.2.2 = ahA S L c p q := by
  subst hc
  obtain ⟨⟨h0, h1, h2, h3, h4⟩, ⟨h5, h6, h7, h8, h9⟩, hnF, hpF, hjF, hoF, hfF, hwF⟩ := h
  exact cls_ahead hL g.2.1 g.2.2 h0.symm h1.symm h2.symm h5.symm h6.symm h7.symm hnF hpF hjF
