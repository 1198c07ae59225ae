set_option maxHeartbeats 400000 in
theorem oget {F S : Nat → Int32} {z q : Int32} {c : Nat} (h : OE F S) (h0 : 0 ≤ z.toInt) (h1 : z.toInt < 6) (hq : q.toInt = (c : Int)) (hc : c < 4) : fX6_get_24 4 F z q = S (312 + 4 * z.toNatClampNeg + c) := by
  have e := tab_g (w := 4) (W := 4) (R := 6) (by decide) (by decide) (by decide) h0 h1 (show 0 ≤ q.toInt by omega) (show q.toInt < 4 by omega)
  have n1 := tn_eq h0
  have ix : (z * 4 + q).toNatClampNeg = 4 * z.toNatClampNeg + c := by show (z * 4 + q).toInt.toNat = _; rw [e]; omega
  unfold fX6_get_24
  simp only [bnd]
  rw [if_neg (by rw [Int32.lt_iff_toInt_lt, e, z_i0]; omega), if_neg (by rw [Int32.le_iff_toInt_le, e, show (24 : Int32).toInt = 24 from by decide]; omega), ix, h _ (by omega), show 312 + (4 * z.toNatClampNeg + c) = 312 + 4 * z.toNatClampNeg + c from by omega]
set_option maxHeartbeats 400000 in
theorem wi_hs {o z : Int32} (z0 : 0 ≤ z.toInt) (z9 : z.toInt ≤ 100) : (wi o (z - 1) = 0) ↔ (hs o z = 0) := by
  have e : (z - 1).toInt = z.toInt - 1 := by
    have h1 : (1 : Int32).toInt = 1 := by decide
    rw [zsub (by rw [h1]; omega) (by rw [h1]; omega), h1]
  unfold wi hs
  by_cases a : o < 0
  · rw [if_pos a, if_pos a]
  · rw [if_neg a, if_neg a]
    by_cases b : z ≤ o
    · rw [if_pos b, if_pos (show z - 1 < o by rw [Int32.le_iff_toInt_le] at b; rw [Int32.lt_iff_toInt_lt, e]; omega)]
    · rw [if_neg b, if_neg (show ¬ z - 1 < o by rw [Int32.le_iff_toInt_le] at b; rw [Int32.lt_iff_toInt_lt, e]; omega)]
/-- SERVES: what is LEFT at best, if it is more than a -/
def svR (S : Nat → Int32) (L : Cls) (j o a : Int32) : Int32 := srF S L (S (168 + 9 * j.toNatClampNeg)) (S (168 + 9 * j.toNatClampNeg + 1)) (S (312 + 4 * o.toNatClampNeg)) (S (312 + 4 * o.toNatClampNeg + 1)) 6 (fun y => decide (y = S (168 + 9 * j.toNatClampNeg + 5))) (S (168 + 9 * j.toNatClampNeg + 5)) (S (168 + 9 * j.toNatClampNeg + 4)) (S 5) a
def svW (S : Nat → Int32) (L : Cls) (j o : Int32) : Int32 := if 12 ≤ S (168 + 9 * j.toNatClampNeg + 5) then -2 else if svR S L j o (-1) < S (312 + 4 * o.toNatClampNeg + 2) then -2 else svR S L j o (-1)
def seA (S : Nat → Int32) (L : Cls) (j o : Int32) : Int32 := if hs j (S 2) = 0 then -1 else if hs o (S 3) = 0 then -1 else svW S L j o
set_option maxHeartbeats 400000 in
theorem hs_b {o z : Int32} (d : ¬ hs o z = 0) : 0 ≤ o.toInt ∧ o.toInt < z.toInt := by
  obtain ⟨a, b⟩ := hs_ne d
  rw [Int32.lt_iff_toInt_lt, z_i0] at a
  rw [Int32.le_iff_toInt_le] at b
  omega
set_option maxHeartbeats 400000 in
theorem jr_at {S : Nat → Int32} {j : Int32} (g : GD S) (hj : rJ j) (c : ¬ 12 ≤ S (168 + 9 * j.toNatClampNeg + 5)) : rN (S (168 + 9 * j.toNatClampNeg + 5)) ∧ 0 ≤ (S (168 + 9 * j.toNatClampNeg + 4)).toInt ∧ (S (168 + 9 * j.toNatClampNeg + 4)).toInt ≤ 99999 := by
  obtain ⟨a, b, _⟩ := g.2.1.1 j hj
  rw [Int32.le_iff_toInt_le, show (12 : Int32).toInt = 12 from by decide] at c
  exact ⟨⟨b.1, by omega⟩, a⟩
set_option maxHeartbeats 400000 in
theorem or_in {S : Nat → Int32} {o : Int32} (x : XT S) (d : ¬ hs o (S 3) = 0) : rN (S (312 + 4 * o.toNatClampNeg)) ∧ (0 ≤ (S (312 + 4 * o.toNatClampNeg + 1)).toInt ∧ (S (312 + 4 * o.toNatClampNeg + 1)).toInt ≤ 99999) ∧ (1 ≤ (S (312 + 4 * o.toNatClampNeg + 2)).toInt ∧ (S (312 + 4 * o.toNatClampNeg + 2)).toInt ≤ 99999) := by
  have h := hs_b d
  have t := tn_eq h.1
  obtain ⟨a, b, c, _⟩ := x.2.1 o.toNatClampNeg (by omega)
  exact ⟨a, b, c⟩
set_option maxHeartbeats 400000 in
/-- from one less than what is asked, or from nothing -/
theorem sv_w {S : Nat → Int32} {L : Cls} {j o w : Int32} (g : GD S) (d0 : 0 ≤ (S (168 + 9 * j.toNatClampNeg + 4)).toInt) (d9 : (S (168 + 9 * j.toNatClampNeg + 4)).toInt ≤ 99999) (w1 : 1 ≤ w.toInt) (w9 : w.toInt ≤ 99999) : (if svR S L j o (w - 1) < w then (-2 : Int32) else svR S L j o (w - 1)) = if svR S L j o (-1) < w then -2 else svR S L j o (-1) := by
  have e1 : (w - 1).toInt = w.toInt - 1 := by
    have h1 : (1 : Int32).toInt = 1 := by decide
    rw [zsub (by rw [h1]; omega) (by rw [h1]; omega), h1]
  have m1 : (-1 : Int32).toInt = -1 := by decide
  obtain ⟨a, b⟩ := sr_mx (L := L) (fe := S (168 + 9 * j.toNatClampNeg)) (sa := S (168 + 9 * j.toNatClampNeg + 1)) (tgt := S (312 + 4 * o.toNatClampNeg)) (lat := S (312 + 4 * o.toNatClampNeg + 1)) g 6 (fun y => decide (y = S (168 + 9 * j.toNatClampNeg + 5))) (S (168 + 9 * j.toNatClampNeg + 5)) (S (168 + 9 * j.toNatClampNeg + 4)) (S 5) (-1) (w - 1) d0 d9 (by rw [m1, e1]; omega) (by rw [e1]; omega)
  have a2 : (svR S L j o (-1)).toInt ≤ (w - 1).toInt → svR S L j o (w - 1) = w - 1 := a
  have b2 : (w - 1).toInt < (svR S L j o (-1)).toInt → svR S L j o (w - 1) = svR S L j o (-1) := b
  by_cases c : (svR S L j o (-1)).toInt ≤ (w - 1).toInt
  · rw [a2 c, if_pos (show w - 1 < w by rw [Int32.lt_iff_toInt_lt, e1]; omega), if_pos (show svR S L j o (-1) < w by rw [Int32.lt_iff_toInt_lt]; omega)]
  · rw [b2 (by omega)]
set_option maxHeartbeats 400000 in
theorem left_c {S nF pF jF oF cF qf qr qb so s1 s2 t1 t2 yj yo y1 y2 y3 y4 y5 : Nat → Int32} {zp zj nw fm yc j o cb ch co t1' t2' t3' t4' t5' t6' k1 k2 k3 k4 k5 k6 k7 k8 : Int32} {L : Cls} (g : GD S) (x : XT S) (hL : LWX so s1 s2 t1 t2 yj yo y1 y2 y3 y4 y5 yc L) (hn : NE nF S) (hp : PE pF S) (hJ : JE jF S) (hO : OE oF S) (e1 : zp = S 1) (e2 : zj = S 2) (e5 : nw = S 5) (e6 : fm = S 6) (dj : ¬ hs j (S 2) = 0) (d : ¬ hs o (S 3) = 0) : (fX5_leftFor k1 k2 k3 k4 k5 k6 k7 k8 qf qr qb t1' t2' t3' t4' t5' t6' cF cb ch co nF zp pF zj jF oF nw fm so s1 s2 t1 t2 yj yo y1 y2 y3 y4 y5 yc j o 0).2.2.2.2.2.2.2.2.2.2.2.2.2.2.2.2.2.2.2.2.2 = svW S L j o := by
  subst e1
  subst e2
  subst e5
  have hj := hs_j g.2.1 rfl dj
  have hob := hs_b d
  have b3 := GD_3 g
  have o6 : o.toInt < 6 := by omega
  obtain ⟨r1, r2, r3⟩ := or_in x d
  have ejn : fX9_nodeOf (S 2) jF j = if 12 ≤ S (168 + 9 * j.toNatClampNeg + 5) then -1 else S (168 + 9 * j.toNatClampNeg + 5) := by
    unfold fX9_nodeOf
    rw [if_neg dj, bndv (jg1 hJ hj)]
  unfold fX5_leftFor svW
  rw [bndv ejn]
  by_cases c : 12 ≤ S (168 + 9 * j.toNatClampNeg + 5)
  · rw [if_pos c, if_pos c, if_pos rfl]
  · obtain ⟨a1, a2, a3⟩ := jr_at g hj c
    have ne : ¬ S (168 + 9 * j.toNatClampNeg + 5) = -1 := by
      intro q
      have := a1.1
      rw [q, show (-1 : Int32).toInt = -1 from by decide] at this
      omega
    rw [if_neg c, if_neg c, if_neg ne, bndv (oget (c := 0) hO hob.1 o6 (by decide) (by decide))]
    have ea : fX5_aim qf (S 1) pF (S (312 + 4 * o.toNatClampNeg + 0)) (-1) = ((-1), 0, 0, S (312 + 4 * o.toNatClampNeg), (-1), 1000000, 0, 0, fX5_measure qf (S 1) pF (S (312 + 4 * o.toNatClampNeg)) (-1) 0) := rfl
    rw [bndv ea, bnd_eq, bnd_eq, bnd_eq, bnd_eq, bnd_eq, bnd_eq, bndv (oget (c := 1) hO hob.1 o6 (by decide) (by decide)), bndv (oget (c := 2) hO hob.1 o6 (by decide) (by decide)), bnd_eq, bndv (jg0 hJ hj), bndv (show fX6_get_144 9 jF j 5 = S (168 + 9 * j.toNatClampNeg) from jget (c := 5) hJ hj (by decide) (by decide)), bndv (show fX6_get_144 9 jF j 6 = S (168 + 9 * j.toNatClampNeg + 1) from jget (c := 6) hJ hj (by decide) (by decide)), bnd_eq]
    have w1 : (S (312 + 4 * o.toNatClampNeg + 2) - 1).toInt = (S (312 + 4 * o.toNatClampNeg + 2)).toInt - 1 := by
      have h1 : (1 : Int32).toInt = 1 := by decide
      rw [zsub (by rw [h1]; omega) (by rw [h1]; omega), h1]
    have w2 : S (312 + 4 * o.toNatClampNeg + 2) - 1 + 1 = S (312 + 4 * o.toNatClampNeg + 2) := Int32.toInt_inj.mp (by rw [zadd1 (by rw [w1]; omega), w1]; omega)
    have h5 := g.2.2
    have h50 := GD_5 g
    obtain ⟨lv', ln', qr', qb', d', h', cb', ch', co', cF', q⟩ := cs_0 (wt := 0) (fe := S (168 + 9 * j.toNatClampNeg)) (sa := S (168 + 9 * j.toNatClampNeg + 1)) (lat := S (312 + 4 * o.toNatClampNeg + 1)) g hL hn hp e6 (fri_c (f := qf) g hp r1) (fun y => decide (y = S (168 + 9 * j.toNatClampNeg + 5))) (S (168 + 9 * j.toNatClampNeg + 5)) (S (168 + 9 * j.toNatClampNeg + 4)) (S 5) (S (312 + 4 * o.toNatClampNeg + 2) - 1) 0 0 (1 <<< (S (168 + 9 * j.toNatClampNeg + 5) &&& 31)) cb ch co qr qb cF a1 (BV_0 a1) a2 a3 (by rw [w1]; omega) (by rw [w1]; omega) h50 (by omega)
    rw [w2] at q
    rw [bndv q, bnd_eq, bnd_eq, bnd_eq, bnd_eq, bnd_eq, bnd_eq, bnd_eq, bnd_eq, bnd_eq, bnd_eq, bnd_eq, bnd_eq]
    have k := sv_w (L := L) (j := j) (o := o) g a2 a3 r3.1 r3.2
    rw [← k]
    by_cases c2 : svR S L j o (S (312 + 4 * o.toNatClampNeg + 2) - 1) < S (312 + 4 * o.toNatClampNeg + 2)
    · rw [if_pos c2]
      split
      · rfl
      · rename_i c3
        exact absurd c2 c3
    · rw [if_neg c2]
      split
      · rename_i c3
        exact absurd c3 c2
      · rfl
set_option maxHeartbeats 400000 in
theorem serves_c {S nF pF jF oF fF wF cF qf qr qb so s1 s2 t1 t2 yj yo y1 y2 y3 y4 y5 : Nat → Int32} {zn zp zj zo zf zw ws nw fm x yc p1 p2 cb ch co t1' t2' t3' t4' t5' t6' k1 k2 k3 k4 k5 k6 k7 k8 : Int32} {L : Cls} (h : X4 S zn zp zj zo zf nw fm x ws zw nF pF jF oF fF wF) (g : GD S) (hx : XT S) (hL : LWX so s1 s2 t1 t2 yj yo y1 y2 y3 y4 y5 yc L) : (fX10_serves_yes nF zp pF zj jF zo oF nw fm cF cb ch co t1' t2' t3' t4' t5' t6' k1 k2 k3 k4 k5 k6 k7 k8 qf qr qb so s1 s2 t1 t2 yj yo y1 y2 y3 y4 y5 yc p1 p2).2.2.2.2.2.2.2.2.2.2.2.2.2.2.2.2.2.2.2.2.2 = seA S L p1 p2 := by
  obtain ⟨⟨h0, h1, h2, h3, h4⟩, ⟨h5, h6, h7, h8, h9⟩, hnF, hpF, hjF, hoF, hfF, hwF⟩ := h
  unfold fX10_serves_yes seA
  rw [h2, h3]
  by_cases a : hs p1 (S 2) = 0
  · rw [if_pos a, if_pos a]
  · rw [if_neg a, if_neg a]
    by_cases b : hs p2 (S 3) = 0
    · rw [if_pos b, if_pos b]
    · rw [if_neg b, if_neg b]
      have q := left_c (cF := cF) (qf := qf) (qr := qr) (qb := qb) (cb := cb) (ch := ch) (co := co) (t1' := t1') (t2' := t2') (t3' := t3') (t4' := t4') (t5' := t5') (t6' := t6') (k1 := k1) (k2 := k2) (k3 := k3) (k4 := k4) (k5 := k5) (k6 := k6) (k7 := k7) (k8 := k8) g hx hL hnF hpF hjF hoF h1 rfl h5 h6 a b
      simp only [bnd]
      exact q
set_option maxHeartbeats 400000 in
theorem serves_r {S sg cl cs st1 st2 st3 st4 st5 bp : Nat → Int32} {sk wd : Nat → Int64} {laws top law j o f1 f2 f3 f4 f5 f6 m1 m2 m3 : Int32} {L : Cls} (g : GD S) (x : XT S) (hL : LWR sg cl cs law L) (hl : ¬ hs law laws = 0) : (fX11_serves laws top f1 f2 f3 f4 f5 f6 m1 m2 m3 sg cl cs sk wd S st1 st2 st3 st4 st5 bp (S 1) (S 2) (S 3) (S 6) law j o).2.2.2.2.2.2.2.2.2.2.2.2.2.2.2.2.2.2 = seA S L j o := by
  have b1 := GD_1 g
  have b3 := GD_3 g
  have z0 : ¬ S 1 < 0 := z_nlt0 b1.1
  unfold fX11_serves seA
  rw [if_neg hl, li_wj (hi := S 3 - 1) rfl]
  by_cases dj : hs j (S 2) = 0
  · rw [if_pos dj, if_pos dj]
  · rw [if_neg dj, if_neg dj]
    by_cases d : hs o (S 3) = 0
    · rw [if_pos d, if_pos ((wi_hs b3.1 (by omega)).mpr d)]
    · rw [if_neg d, if_neg (fun q => d ((wi_hs b3.1 (by omega)).mp q))]
      have hj := hs_j g.2.1 rfl dj
      have hob := hs_b d
      have o6 : o.toInt < 6 := by omega
      obtain ⟨r1, r2, r3⟩ := or_in x d
      suffices H : (fX11_servesBy top f1 f2 f3 f4 f5 f6 m1 m2 m3 sg cl cs sk wd S st1 st2 st3 st4 st5 bp (S 1) (S 2) (S 6) law j o).2.2.2.2.2.2.2.2.2.2.2.2.2.2.2.2.2.2 = svW S L j o by
        simp only [bnd]
        exact H
      have i0 : (312 + 4 * o).toNatClampNeg = 312 + 4 * o.toNatClampNeg := by
        have := c_or (q := 0) (c := 0) hob.1 o6 (by decide) (by decide)
        rw [Int32.add_zero] at this
        rw [this]; omega
      have i1 : (312 + 4 * o + 1).toNatClampNeg = 312 + 4 * o.toNatClampNeg + 1 := (c_or (q := 1) (c := 1) hob.1 o6 (by decide) (by decide)).trans (by omega)
      have i2 : (312 + 4 * o + 2).toNatClampNeg = 312 + 4 * o.toNatClampNeg + 2 := (c_or (q := 2) (c := 2) hob.1 o6 (by decide) (by decide)).trans (by omega)
      have j0 : (168 + 9 * j + 0).toNatClampNeg = 168 + 9 * j.toNatClampNeg := (c_jr (q := 0) (c := 0) hj (by decide) (by decide)).trans (by omega)
      have j1 : (168 + 9 * j + 1).toNatClampNeg = 168 + 9 * j.toNatClampNeg + 1 := c_jr (q := 1) (c := 1) hj (by decide) (by decide)
      unfold fX11_servesBy svW
      rw [bnd_eq]
      have es : fX11_stands S (S 2) j = if 12 ≤ S (168 + 9 * j.toNatClampNeg + 5) then 0 else 1 := by
        unfold fX11_stands
        rw [if_neg dj, cj5 hj]
      rw [bndv es]
      by_cases c : 12 ≤ S (168 + 9 * j.toNatClampNeg + 5)
      · rw [if_pos c, if_pos rfl, if_pos c]
      · obtain ⟨a1, a2, a3⟩ := jr_at g hj c
        rw [if_neg c, if_neg (show ¬ (1 : Int32) = 0 by decide), if_neg c, bndv (congrArg S i0), bndv (congrArg S i1), cj5 hj, cj4 hj, j0, j1]
        have h5 := g.2.2
        have h50 := GD_5 g
        have hx0 : NXI (S 1) 0 (upd st4 (0 : Int32).toNatClampNeg 0) := NX_0 pk_us z0
        have hv0 : HVp (fun y => decide (y = S (168 + 9 * j.toNatClampNeg + 5))) (upd st1 (0 : Int32).toNatClampNeg (S (168 + 9 * j.toNatClampNeg + 5))) 0 := by
          intro y
          rw [decide_eq_true_iff]
          constructor
          · intro q
            exact ⟨0, by decide, by rw [q]; exact pk_us⟩
          · rintro ⟨i, hi, e⟩
            rw [z_i0] at hi
            have : i = 0 := by omega
            subst this
            exact e.symm.trans pk_us
        obtain ⟨N2, w0, w1, w2, w3, w4, w5, w6, w8, w9, u1, u2, kN, kD, kH, kX, kP, kB, q1, q2, q3, _⟩ := ref_sr (q3 := S 5) (fe := S (168 + 9 * j.toNatClampNeg)) (sa := S (168 + 9 * j.toNatClampNeg + 1)) (tgt := S (312 + 4 * o.toNatClampNeg)) (lat := S (312 + 4 * o.toNatClampNeg + 1)) (E := (fun (w314_0_0 : Int32) (w314_1_0 : Int32) (w314_2_0 : Int32) (w314_3_0 : Int32) (w314_4_0 : Int32) (w314_5_0 : Int32) (w314_6_0 : Int32) (w314_7_0 : Int32) (w314_8_0 : Int32) (w314_9_0 : Int32) (w314_10_0 : Nat → Int64) (w314_11_0 : Nat → Int64) (w314_12_0 : Nat → Int32) (w314_13_0 : Nat → Int32) (w314_14_0 : Nat → Int32) (w314_15_0 : Nat → Int32) (w314_16_0 : Nat → Int32) (w314_17_0 : Nat → Int32) (w314_18_0 : Int32) => (w314_0_0, w314_1_0, w314_2_0, w314_3_0, w314_4_0, w314_5_0, w314_6_0, w314_7_0, w314_8_0, w314_9_0, w314_10_0, w314_11_0, w314_12_0, w314_13_0, w314_14_0, w314_15_0, w314_16_0, w314_17_0))) g hL 6 (sms (S 1) 0 (upd st4 (0 : Int32).toNatClampNeg 0) + 1) 0 (fun y => decide (y = S (168 + 9 * j.toNatClampNeg + 5))) (S (168 + 9 * j.toNatClampNeg + 5)) (S (168 + 9 * j.toNatClampNeg + 4)) (S 5) top f1 f2 f3 f4 f5 f6 (-1) m2 m3 sk wd (upd st1 (0 : Int32).toNatClampNeg (S (168 + 9 * j.toNatClampNeg + 5))) (upd st2 (0 : Int32).toNatClampNeg (S (168 + 9 * j.toNatClampNeg + 4))) (upd st3 (0 : Int32).toNatClampNeg (S 5)) (upd st4 (0 : Int32).toNatClampNeg 0) st5 bp (by decide) (by decide) pk_us pk_us pk_us pk_us a1 a2 a3 hv0 hx0 (Nat.lt_succ_self _)
        obtain ⟨N2, rfl⟩ : ∃ m, N2 = m + 1 := ⟨N2 - 1, by omega⟩
        have eS : fX11_searches top f1 f2 f3 f4 f5 f6 (-1) m2 m3 sg cl cs sk wd S st1 st2 st3 st4 st5 bp (S 1) (S 6) law (S (168 + 9 * j.toNatClampNeg + 5)) (S (312 + 4 * o.toNatClampNeg)) (S 5) (S (168 + 9 * j.toNatClampNeg + 4)) (S (168 + 9 * j.toNatClampNeg)) (S (168 + 9 * j.toNatClampNeg + 1)) (-1) (S (312 + 4 * o.toNatClampNeg + 1)) = (w0, w1, w2, w3, w4, w5, w6, svR S L j o (-1), w8, w9, u1, u2, kN, kD, kH, kX, kP, kB) := by
          unfold fX11_searches
          rw [bnd_eq, bnd_eq, bnd_eq, bnd_eq]
          refine q1.trans ?_
          show fb_mX11_searches_33 sg cl cs S (S 1) (S 6) law _ _ _ _ (-1) _ _ _ w0 w1 w2 w3 w4 w5 w6 (svR S L j o (-1)) w8 w9 u1 u2 kN kD kH kX kP kB (0 + (-1)) = _
          unfold fb_mX11_searches_33
          rw [if_pos (show (0 : Int32) + (-1) < 0 by decide)]
        rw [bndv eS, bnd_eq, bnd_eq, bnd_eq, bnd_eq, bnd_eq, bnd_eq, bnd_eq, bnd_eq, bnd_eq, bnd_eq, bnd_eq, bnd_eq, bnd_eq, bnd_eq, bnd_eq, bnd_eq, bnd_eq, bnd_eq, bndv (congrArg S i2)]
        by_cases c2 : svR S L j o (-1) < S (312 + 4 * o.toNatClampNeg + 2)
        · rw [if_pos c2, if_pos c2]
          all_goals rfl
        · rw [if_neg c2, if_neg c2]
          all_goals rfl
