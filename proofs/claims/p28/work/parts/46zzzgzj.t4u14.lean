set_option maxHeartbeats 400000 in
theorem left_a {S nF pF jF oF cF qf qr qb so s1 s2 t1 t2 yj yo y1 y2 y3 y4 y5 : Nat → Int32} {zp zj nw fm yc j o cb ch co t1' t2' t3' t4' t5' t6' k1 k2 k3 k4 k5 k6 k7 k8 : Int32} {L : Cls} (g : GD S) (x : XT S) (hL : LWX so s1 s2 t1 t2 yj yo y1 y2 y3 y4 y5 yc L) (hn : NE nF S) (hp : PE pF S) (hJ : JE jF S) (hO : OE oF S) (e1 : zp = S 1) (e2 : zj = S 2) (e5 : nw = S 5) (e6 : fm = S 6) (dj : ¬ hs j (S 2) = 0) (d : ¬ hs o (S 3) = 0) : ((fX5_leftFor k1 k2 k3 k4 k5 k6 k7 k8 qf qr qb t1' t2' t3' t4' t5' t6' cF cb ch co nF zp pF zj jF oF nw fm so s1 s2 t1 t2 yj yo y1 y2 y3 y4 y5 yc j o 1).2.2.2.2.2.2.2.2.2.2.2.2.2.2.2.2.2.2.2.2.2 < 0) ↔ (svW S L j o < 0) := by
  subst e1
  subst e2
  subst e5
  have hj := hs_j g.2.1 rfl dj
  have hob := hs_b d
  have b3 := GD_3 g
  have o6 : o.toInt < 6 := by omega
  obtain ⟨r1, r2, r3⟩ := or_in x d
  have ejn : fX9_nodeOf (S 2) jF j = if 12 ≤ S (168 + 9 * j.toNatClampNeg + 5) then -1 else S (168 + 9 * j.toNatClampNeg + 5) := by
    unfold fX9_nodeOf
    rw [if_neg dj, bndv (jg1 hJ hj)]
  unfold fX5_leftFor svW
  rw [bndv ejn]
  by_cases c : 12 ≤ S (168 + 9 * j.toNatClampNeg + 5)
  · rw [if_pos c, if_pos c, if_pos rfl]
  · obtain ⟨a1, a2, a3⟩ := jr_at g hj c
    have ne : ¬ S (168 + 9 * j.toNatClampNeg + 5) = -1 := by
      intro q
      have := a1.1
      rw [q, show (-1 : Int32).toInt = -1 from by decide] at this
      omega
    rw [if_neg c, if_neg c, if_neg ne, bndv (oget (c := 0) hO hob.1 o6 (by decide) (by decide))]
    have ea : fX5_aim qf (S 1) pF (S (312 + 4 * o.toNatClampNeg + 0)) (-1) = ((-1), 0, 0, S (312 + 4 * o.toNatClampNeg), (-1), 1000000, 0, 0, fX5_measure qf (S 1) pF (S (312 + 4 * o.toNatClampNeg)) (-1) 0) := rfl
    rw [bndv ea, bnd_eq, bnd_eq, bnd_eq, bnd_eq, bnd_eq, bnd_eq, bndv (oget (c := 1) hO hob.1 o6 (by decide) (by decide)), bndv (oget (c := 2) hO hob.1 o6 (by decide) (by decide)), bnd_eq, bndv (jg0 hJ hj), bndv (show fX6_get_144 9 jF j 5 = S (168 + 9 * j.toNatClampNeg) from jget (c := 5) hJ hj (by decide) (by decide)), bndv (show fX6_get_144 9 jF j 6 = S (168 + 9 * j.toNatClampNeg + 1) from jget (c := 6) hJ hj (by decide) (by decide)), bnd_eq]
    have w1 : (S (312 + 4 * o.toNatClampNeg + 2) - 1).toInt = (S (312 + 4 * o.toNatClampNeg + 2)).toInt - 1 := by
      have h1 : (1 : Int32).toInt = 1 := by decide
      rw [zsub (by rw [h1]; omega) (by rw [h1]; omega), h1]
    have w2 : S (312 + 4 * o.toNatClampNeg + 2) - 1 + 1 = S (312 + 4 * o.toNatClampNeg + 2) := Int32.toInt_inj.mp (by rw [zadd1 (by rw [w1]; omega), w1]; omega)
    have h5 := g.2.2
    have h50 := GD_5 g
    obtain ⟨lv', ln', qr', qb', d', h', cb', ch', co', cF', q⟩ := csa_0 (wt := 0) (fe := S (168 + 9 * j.toNatClampNeg)) (sa := S (168 + 9 * j.toNatClampNeg + 1)) (lat := S (312 + 4 * o.toNatClampNeg + 1)) g hL hn hp e6 (fri_c (f := qf) g hp r1) (fun y => decide (y = S (168 + 9 * j.toNatClampNeg + 5))) (S (168 + 9 * j.toNatClampNeg + 5)) (S (168 + 9 * j.toNatClampNeg + 4)) (S 5) (S (312 + 4 * o.toNatClampNeg + 2) - 1) 0 0 (1 <<< (S (168 + 9 * j.toNatClampNeg + 5) &&& 31)) cb ch co qr qb cF a1 (BV_0 a1) a2 a3 (by rw [w1]; omega) (by rw [w1]; omega) h50 (by omega)
    rw [w2] at q
    rw [bndv q, bnd_eq, bnd_eq, bnd_eq, bnd_eq, bnd_eq, bnd_eq, bnd_eq, bnd_eq, bnd_eq, bnd_eq, bnd_eq, bnd_eq]
    have k := sv_w (L := L) (j := j) (o := o) g a2 a3 r3.1 r3.2
    rw [← k]
    have m2 : ((-2 : Int32) < 0) := by decide
    rcases nf_F (L := L) (fe := S (168 + 9 * j.toNatClampNeg)) (sa := S (168 + 9 * j.toNatClampNeg + 1)) (tgt := S (312 + 4 * o.toNatClampNeg)) (lat := S (312 + 4 * o.toNatClampNeg + 1)) g 6 (fun y => decide (y = S (168 + 9 * j.toNatClampNeg + 5))) (S (168 + 9 * j.toNatClampNeg + 5)) (S (168 + 9 * j.toNatClampNeg + 4)) (S 5) (S (312 + 4 * o.toNatClampNeg + 2) - 1) a2 a3 (by rw [w1]; omega) with ⟨n1, n2⟩ | ⟨n1, n2⟩
    · have lw : S (312 + 4 * o.toNatClampNeg + 2) - 1 < S (312 + 4 * o.toNatClampNeg + 2) := by rw [Int32.lt_iff_toInt_lt, w1]; omega
      have n3 : svR S L j o (S (312 + 4 * o.toNatClampNeg + 2) - 1) = S (312 + 4 * o.toNatClampNeg + 2) - 1 := n1
      rw [n3, if_pos lw]
      split
      · exact Iff.rfl
      · rename_i c3
        exact absurd (show _ < S (312 + 4 * o.toNatClampNeg + 2) by rw [n2]; exact lw) c3
    · have n3 : (S (312 + 4 * o.toNatClampNeg + 2)).toInt - 1 < (svR S L j o (S (312 + 4 * o.toNatClampNeg + 2) - 1)).toInt := by rw [← w1]; exact n1
      have i9 : (99999 : Int32).toInt = 99999 := by decide
      rw [if_neg (show ¬ svR S L j o (S (312 + 4 * o.toNatClampNeg + 2) - 1) < S (312 + 4 * o.toNatClampNeg + 2) by rw [Int32.lt_iff_toInt_lt]; omega)]
      have n4 : ¬ svR S L j o (S (312 + 4 * o.toNatClampNeg + 2) - 1) < 0 := by rw [Int32.lt_iff_toInt_lt, z_i0]; omega
      split
      · rename_i c3
        exact absurd (show _ < S (312 + 4 * o.toNatClampNeg + 2) from c3) (by rw [n2, Int32.lt_iff_toInt_lt, i9]; omega)
      · refine ⟨fun q => ?_, fun q => absurd q n4⟩
        rw [n2] at q
        exact absurd (show (99999 : Int32) < 0 from q) (by decide)
