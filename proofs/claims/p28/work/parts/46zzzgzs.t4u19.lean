set_option maxHeartbeats 400000 in
theorem sby_v {S sg cl cs st1 st2 st3 st4 st5 bp : Nat → Int32} {sk wd : Nat → Int64} {top law j o f1 f2 f3 f4 f5 f6 m1 m2 m3 : Int32} {L : Cls} (g : GD S) (x : XT S) (hL : LWR sg cl cs law L) (dj : ¬ hs j (S 2) = 0) (d : ¬ hs o (S 3) = 0) : (fX11_servesBy top f1 f2 f3 f4 f5 f6 m1 m2 m3 sg cl cs sk wd S st1 st2 st3 st4 st5 bp (S 1) (S 2) (S 6) law j o).2.2.2.2.2.2.2.2.2.2.2.2.2.2.2.2.2.2 = svW S L j o := by
  have b1 := GD_1 g
  have b3 := GD_3 g
  have z0 : ¬ S 1 < 0 := z_nlt0 b1.1
  have hj := hs_j g.2.1 rfl dj
  have hob := hs_b d
  have o6 : o.toInt < 6 := by omega
  obtain ⟨r1, r2, r3⟩ := or_in x d
  have i0 : (312 + 4 * o).toNatClampNeg = 312 + 4 * o.toNatClampNeg := by
    have := c_or (q := 0) (c := 0) hob.1 o6 (by decide) (by decide)
    rw [Int32.add_zero] at this
    rw [this]; omega
  have i1 : (312 + 4 * o + 1).toNatClampNeg = 312 + 4 * o.toNatClampNeg + 1 := (c_or (q := 1) (c := 1) hob.1 o6 (by decide) (by decide)).trans (by omega)
  have i2 : (312 + 4 * o + 2).toNatClampNeg = 312 + 4 * o.toNatClampNeg + 2 := (c_or (q := 2) (c := 2) hob.1 o6 (by decide) (by decide)).trans (by omega)
  have j0 : (168 + 9 * j + 0).toNatClampNeg = 168 + 9 * j.toNatClampNeg := (c_jr (q := 0) (c := 0) hj (by decide) (by decide)).trans (by omega)
  have j1 : (168 + 9 * j + 1).toNatClampNeg = 168 + 9 * j.toNatClampNeg + 1 := c_jr (q := 1) (c := 1) hj (by decide) (by decide)
  unfold fX11_servesBy svW
  rw [bnd_eq]
  have es : fX11_stands S (S 2) j = if 12 ≤ S (168 + 9 * j.toNatClampNeg + 5) then 0 else 1 := by
    unfold fX11_stands
    rw [if_neg dj, cj5 hj]
  rw [bndv es]
  by_cases c : 12 ≤ S (168 + 9 * j.toNatClampNeg + 5)
  · rw [if_pos c, if_pos rfl, if_pos c]
  · obtain ⟨a1, a2, a3⟩ := jr_at g hj c
    rw [if_neg c, if_neg (show ¬ (1 : Int32) = 0 by decide), if_neg c, bndv (congrArg S i0), bndv (congrArg S i1), cj5 hj, cj4 hj, j0, j1]
    have h5 := g.2.2
    have h50 := GD_5 g
    have hx0 : NXI (S 1) 0 (upd st4 (0 : Int32).toNatClampNeg 0) := NX_0 pk_us z0
    have hv0 : HVp (fun y => decide (y = S (168 + 9 * j.toNatClampNeg + 5))) (upd st1 (0 : Int32).toNatClampNeg (S (168 + 9 * j.toNatClampNeg + 5))) 0 := by
      intro y
      rw [decide_eq_true_iff]
      constructor
      · intro q
        exact ⟨0, by decide, by rw [q]; exact pk_us⟩
      · rintro ⟨i, hi, e⟩
        rw [z_i0] at hi
        have : i = 0 := by omega
        subst this
        exact e.symm.trans pk_us
    obtain ⟨N2, w0, w1, w2, w3, w4, w5, w6, w8, w9, u1, u2, kN, kD, kH, kX, kP, kB, q1, q2, q3, _⟩ := ref_sr (q3 := S 5) (fe := S (168 + 9 * j.toNatClampNeg)) (sa := S (168 + 9 * j.toNatClampNeg + 1)) (tgt := S (312 + 4 * o.toNatClampNeg)) (lat := S (312 + 4 * o.toNatClampNeg + 1)) (E := (fun (w314_0_0 : Int32) (w314_1_0 : Int32) (w314_2_0 : Int32) (w314_3_0 : Int32) (w314_4_0 : Int32) (w314_5_0 : Int32) (w314_6_0 : Int32) (w314_7_0 : Int32) (w314_8_0 : Int32) (w314_9_0 : Int32) (w314_10_0 : Nat → Int64) (w314_11_0 : Nat → Int64) (w314_12_0 : Nat → Int32) (w314_13_0 : Nat → Int32) (w314_14_0 : Nat → Int32) (w314_15_0 : Nat → Int32) (w314_16_0 : Nat → Int32) (w314_17_0 : Nat → Int32) (w314_18_0 : Int32) => (w314_0_0, w314_1_0, w314_2_0, w314_3_0, w314_4_0, w314_5_0, w314_6_0, w314_7_0, w314_8_0, w314_9_0, w314_10_0, w314_11_0, w314_12_0, w314_13_0, w314_14_0, w314_15_0, w314_16_0, w314_17_0))) g hL 6 (sms (S 1) 0 (upd st4 (0 : Int32).toNatClampNeg 0) + 1) 0 (fun y => decide (y = S (168 + 9 * j.toNatClampNeg + 5))) (S (168 + 9 * j.toNatClampNeg + 5)) (S (168 + 9 * j.toNatClampNeg + 4)) (S 5) top f1 f2 f3 f4 f5 f6 (-1) m2 m3 sk wd (upd st1 (0 : Int32).toNatClampNeg (S (168 + 9 * j.toNatClampNeg + 5))) (upd st2 (0 : Int32).toNatClampNeg (S (168 + 9 * j.toNatClampNeg + 4))) (upd st3 (0 : Int32).toNatClampNeg (S 5)) (upd st4 (0 : Int32).toNatClampNeg 0) st5 bp (by decide) (by decide) pk_us pk_us pk_us pk_us a1 a2 a3 hv0 hx0 (Nat.lt_succ_self _)
    obtain ⟨N2, rfl⟩ : ∃ m, N2 = m + 1 := ⟨N2 - 1, by omega⟩
    have eS : fX11_searches top f1 f2 f3 f4 f5 f6 (-1) m2 m3 sg cl cs sk wd S st1 st2 st3 st4 st5 bp (S 1) (S 6) law (S (168 + 9 * j.toNatClampNeg + 5)) (S (312 + 4 * o.toNatClampNeg)) (S 5) (S (168 + 9 * j.toNatClampNeg + 4)) (S (168 + 9 * j.toNatClampNeg)) (S (168 + 9 * j.toNatClampNeg + 1)) (-1) (S (312 + 4 * o.toNatClampNeg + 1)) = (w0, w1, w2, w3, w4, w5, w6, svR S L j o (-1), w8, w9, u1, u2, kN, kD, kH, kX, kP, kB) := by
      unfold fX11_searches
      rw [bnd_eq, bnd_eq, bnd_eq, bnd_eq]
      refine q1.trans ?_
      show fb_mX11_searches_33 sg cl cs S (S 1) (S 6) law _ _ _ _ (-1) _ _ _ w0 w1 w2 w3 w4 w5 w6 (svR S L j o (-1)) w8 w9 u1 u2 kN kD kH kX kP kB (0 + (-1)) = _
      unfold fb_mX11_searches_33
      rw [if_pos (show (0 : Int32) + (-1) < 0 by decide)]
    rw [bndv eS, bnd_eq, bnd_eq, bnd_eq, bnd_eq, bnd_eq, bnd_eq, bnd_eq, bnd_eq, bnd_eq, bnd_eq, bnd_eq, bnd_eq, bnd_eq, bnd_eq, bnd_eq, bnd_eq, bnd_eq, bnd_eq, bndv (congrArg S i2)]
    by_cases c2 : svR S L j o (-1) < S (312 + 4 * o.toNatClampNeg + 2)
    · rw [if_pos c2, if_pos c2]
      all_goals rfl
    · rw [if_neg c2, if_neg c2]
      all_goals rfl
/-- the JARS that can serve an ORDER -/
def ofF (S : Nat → Int32) (L : Cls) (o : Int32) : Nat → Int32 → Int32 → Int32
  | 0, _, a => a
  | n + 1, j, a => ofF S L o n (j + 1) (if svW S L j o < 0 then a else a ||| ((1 : Int32) <<< (j &&& 31)))
def kofN (S : Nat → Int32) (L : Cls) (i : Nat) : Int32 := if S 3 ≤ Int32.ofNat i then 0 else ofF S L (Int32.ofNat i) (S 2).toNatClampNeg 0 0
set_option maxHeartbeats 400000 in
theorem bit_B {j : Int32} (h0 : 0 ≤ j.toInt) (h1 : j.toInt < 16) : B16 ((1 : Int32) <<< (j &&& 31)) := by
  have t := tn_eq h0
  have k : ∀ m : Nat, m < 16 → ((1 : Int32) <<< (Int32.ofNat m &&& 31)).toBitVec.toNat < 65536 := by decide
  have q := k j.toNatClampNeg (by omega)
  rw [ofN_c h0] at q
  exact q
set_option maxHeartbeats 400000 in
theorem ofF_B {S : Nat → Int32} {L : Cls} {o : Int32} : ∀ (n : Nat) (j a : Int32), 0 ≤ j.toInt → j.toInt + n ≤ 16 → B16 a → B16 (ofF S L o n j a)
  | 0, _, _, _, _, ha => ha
  | n + 1, j, a, j0, jn, ha => by
    have e : (j + 1).toInt = j.toInt + 1 := zadd1 (by omega)
    show B16 (ofF S L o n (j + 1) (if svW S L j o < 0 then a else a ||| ((1 : Int32) <<< (j &&& 31))))
    refine ofF_B n (j + 1) _ (by omega) (by omega) ?_
    split
    · exact ha
    · exact B16_or ha (bit_B j0 (by omega))
set_option maxHeartbeats 400000 in
theorem kofN_B {S : Nat → Int32} {L : Cls} (g : GD S) (i : Nat) : B16 (kofN S L i) := by
  have b2 := GD_2 g
  have t := tn_eq b2.1
  unfold kofN
  split
  · exact (show (0 : Int32).toBitVec.toNat < 65536 by decide)
  · exact ofF_B _ 0 0 (by decide) (by rw [z_i0]; omega) (show (0 : Int32).toBitVec.toNat < 65536 by decide)
set_option maxHeartbeats 400000 in
theorem hs_of {j z : Int32} (h0 : 0 ≤ j.toInt) (h1 : j.toInt < z.toInt) : ¬ hs j z = 0 := hs_in (by rw [Int32.lt_iff_toInt_lt, z_i0]; omega) (by rw [Int32.le_iff_toInt_le]; omega)
set_option maxHeartbeats 400000 in
theorem ro_j {S sg cl cs : Nat → Int32} {law o : Int32} {L : Cls} (g : GD S) (x : XT S) (hL : LWR sg cl cs law L) (od : ¬ hs o (S 3) = 0) : ∀ (n N : Nat) (g0 g1 : Nat → Int64) (g2 g3 g4 g5 g6 g7 g8 : Nat → Int32) (v9 v10 v11 v12 v13 v14 v15 v16 v17 v18 : Int32) (j : Int32), n < N → 0 ≤ j.toInt → j.toInt + n = (S 2).toInt → ∃ (h0 h1 : Nat → Int64) (h2 h3 h4 h5 h6 h7 h8 : Nat → Int32) (w9 w10 w11 w12 w13 w14 w15 w16 w17 w18 : Int32), (∀ E : (Nat → Int64) → (Nat → Int64) → (Nat → Int32) → (Nat → Int32) → (Nat → Int32) → (Nat → Int32) → (Nat → Int32) → (Nat → Int32) → (Nat → Int32) → Int32 → Int32 → Int32 → Int32 → Int32 → Int32 → Int32 → Int32 → Int32 → Int32 → Int32 → (Int32 × Int32 × Int32 × Int32 × Int32 × Int32 × Int32 × Int32 × Int32 × Int32 × (Nat → Int64) × (Nat → Int64) × (Nat → Int32) × (Nat → Int32) × (Nat → Int32) × (Nat → Int32) × (Nat → Int32) × (Nat → Int32) × (Nat → Int32) × Int32), fl_mX11_all_53 sg cl cs S (S 1) (S 2) (S 3) (S 6) law o E N g0 g1 g2 g3 g4 g5 g6 g7 g8 v9 v10 v11 v12 v13 v14 v15 v16 v17 v18 j = E h0 h1 h2 h3 h4 h5 h6 h7 h8 w9 w10 w11 w12 w13 w14 w15 w16 w17 w18 (S 2)) ∧ h8 o.toNatClampNeg = ofF S L o n j (g8 o.toNatClampNeg) ∧ ∀ i, i ≠ o.toNatClampNeg → h8 i = g8 i
  | _, 0, _, _, _, _, _, _, _, _, _, _, _, _, _, _, _, _, _, _, _, _, h, _, _ => absurd h (Nat.not_lt_zero _)
  | 0, N + 1, g0, g1, g2, g3, g4, g5, g6, g7, g8, v9, v10, v11, v12, v13, v14, v15, v16, v17, v18, j, _, j0, jn => by
    have ej : j = S 2 := Int32.toInt_inj.mp (by omega)
    subst ej
    refine ⟨g0, g1, g2, g3, g4, g5, g6, g7, g8, v9, v10, v11, v12, v13, v14, v15, v16, v17, v18, fun E => ?_, rfl, fun _ _ => rfl⟩
    show fb_mX11_all_53 sg cl cs S (S 1) (S 2) (S 3) (S 6) law o E (fl_mX11_all_53 sg cl cs S (S 1) (S 2) (S 3) (S 6) law o E N) g0 g1 g2 g3 g4 g5 g6 g7 g8 v9 v10 v11 v12 v13 v14 v15 v16 v17 v18 (S 2) = _
    unfold fb_mX11_all_53
    rw [if_pos (Int32.le_iff_toInt_le.mpr (Int.le_refl _))]
  | n + 1, N + 1, g0, g1, g2, g3, g4, g5, g6, g7, g8, v9, v10, v11, v12, v13, v14, v15, v16, v17, v18, j, hN, j0, jn => by
    have b2 := GD_2 g
    have e : (j + 1).toInt = j.toInt + 1 := zadd1 (by omega)
    have jd : ¬ hs j (S 2) = 0 := hs_of j0 (by omega)
    have oz := (hs_ne od).2
    have hq := sby_v (sk := g0) (wd := g1) (st1 := g2) (st2 := g3) (st3 := g4) (st4 := g5) (st5 := g6) (bp := g7) (top := v9) (f1 := v10) (f2 := v11) (f3 := v12) (f4 := v13) (f5 := v14) (f6 := v15) (m1 := v16) (m2 := v17) (m3 := v18) g x hL jd od
    obtain ⟨q, eq⟩ : ∃ q, q = fX11_servesBy v9 v10 v11 v12 v13 v14 v15 v16 v17 v18 sg cl cs g0 g1 S g2 g3 g4 g5 g6 g7 (S 1) (S 2) (S 6) law j o := ⟨_, rfl⟩
    rw [← eq] at hq
    have cont : ∀ g8' : Nat → Int32, g8' = upd g8 o.toNatClampNeg (if svW S L j o < 0 then g8 o.toNatClampNeg else g8 o.toNatClampNeg ||| ((1 : Int32) <<< (j &&& 31))) → ∃ (h0 h1 : Nat → Int64) (h2 h3 h4 h5 h6 h7 h8 : Nat → Int32) (w9 w10 w11 w12 w13 w14 w15 w16 w17 w18 : Int32), (∀ E : (Nat → Int64) → (Nat → Int64) → (Nat → Int32) → (Nat → Int32) → (Nat → Int32) → (Nat → Int32) → (Nat → Int32) → (Nat → Int32) → (Nat → Int32) → Int32 → Int32 → Int32 → Int32 → Int32 → Int32 → Int32 → Int32 → Int32 → Int32 → Int32 → (Int32 × Int32 × Int32 × Int32 × Int32 × Int32 × Int32 × Int32 × Int32 × Int32 × (Nat → Int64) × (Nat → Int64) × (Nat → Int32) × (Nat → Int32) × (Nat → Int32) × (Nat → Int32) × (Nat → Int32) × (Nat → Int32) × (Nat → Int32) × Int32), fl_mX11_all_53 sg cl cs S (S 1) (S 2) (S 3) (S 6) law o E N q.2.2.2.2.2.2.2.2.2.2.1 q.2.2.2.2.2.2.2.2.2.2.2.1 q.2.2.2.2.2.2.2.2.2.2.2.2.1 q.2.2.2.2.2.2.2.2.2.2.2.2.2.1 q.2.2.2.2.2.2.2.2.2.2.2.2.2.2.1 q.2.2.2.2.2.2.2.2.2.2.2.2.2.2.2.1 q.2.2.2.2.2.2.2.2.2.2.2.2.2.2.2.2.1 q.2.2.2.2.2.2.2.2.2.2.2.2.2.2.2.2.2.1 g8' q.1 q.2.1 q.2.2.1 q.2.2.2.1 q.2.2.2.2.1 q.2.2.2.2.2.1 q.2.2.2.2.2.2.1 q.2.2.2.2.2.2.2.1 q.2.2.2.2.2.2.2.2.1 q.2.2.2.2.2.2.2.2.2.1 (j + 1) = E h0 h1 h2 h3 h4 h5 h6 h7 h8 w9 w10 w11 w12 w13 w14 w15 w16 w17 w18 (S 2)) ∧ h8 o.toNatClampNeg = ofF S L o (n + 1) j (g8 o.toNatClampNeg) ∧ ∀ i, i ≠ o.toNatClampNeg → h8 i = g8 i := by
      intro g8' eg
      obtain ⟨h0, h1, h2, h3, h4, h5, h6, h7, h8, w9, w10, w11, w12, w13, w14, w15, w16, w17, w18, r1, r2, r3⟩ := ro_j (sg := sg) (cl := cl) (cs := cs) (law := law) g x hL od n N q.2.2.2.2.2.2.2.2.2.2.1 q.2.2.2.2.2.2.2.2.2.2.2.1 q.2.2.2.2.2.2.2.2.2.2.2.2.1 q.2.2.2.2.2.2.2.2.2.2.2.2.2.1 q.2.2.2.2.2.2.2.2.2.2.2.2.2.2.1 q.2.2.2.2.2.2.2.2.2.2.2.2.2.2.2.1 q.2.2.2.2.2.2.2.2.2.2.2.2.2.2.2.2.1 q.2.2.2.2.2.2.2.2.2.2.2.2.2.2.2.2.2.1 g8' q.1 q.2.1 q.2.2.1 q.2.2.2.1 q.2.2.2.2.1 q.2.2.2.2.2.1 q.2.2.2.2.2.2.1 q.2.2.2.2.2.2.2.1 q.2.2.2.2.2.2.2.2.1 q.2.2.2.2.2.2.2.2.2.1 (j + 1) (by omega) (by omega) (by omega)
      refine ⟨h0, h1, h2, h3, h4, h5, h6, h7, h8, w9, w10, w11, w12, w13, w14, w15, w16, w17, w18, r1, ?_, fun i hi => ?_⟩
      · rw [r2, eg, show upd g8 o.toNatClampNeg (if svW S L j o < 0 then g8 o.toNatClampNeg else g8 o.toNatClampNeg ||| ((1 : Int32) <<< (j &&& 31))) o.toNatClampNeg = (if svW S L j o < 0 then g8 o.toNatClampNeg else g8 o.toNatClampNeg ||| ((1 : Int32) <<< (j &&& 31))) from pk_us]
        rfl
      · rw [r3 i hi, eg]
        exact upd_ne (fun w => hi w.symm)
    by_cases s : svW S L j o < 0
    · obtain ⟨h0, h1, h2, h3, h4, h5, h6, h7, h8, w9, w10, w11, w12, w13, w14, w15, w16, w17, w18, r1, r2, r3⟩ := cont _ rfl
      refine ⟨h0, h1, h2, h3, h4, h5, h6, h7, h8, w9, w10, w11, w12, w13, w14, w15, w16, w17, w18, fun E => Eq.trans ?_ (r1 E), r2, r3⟩
      show fb_mX11_all_53 sg cl cs S (S 1) (S 2) (S 3) (S 6) law o E (fl_mX11_all_53 sg cl cs S (S 1) (S 2) (S 3) (S 6) law o E N) g0 g1 g2 g3 g4 g5 g6 g7 g8 v9 v10 v11 v12 v13 v14 v15 v16 v17 v18 j = _
      unfold fb_mX11_all_53
      rw [if_neg (show ¬ S 2 ≤ j by rw [Int32.le_iff_toInt_le]; omega), if_neg oz, bnd_eq, bndv eq.symm, bnd_eq, bnd_eq, bnd_eq, bnd_eq, bnd_eq, bnd_eq, bnd_eq, bnd_eq, bnd_eq, bnd_eq, bnd_eq, bnd_eq, bnd_eq, bnd_eq, bnd_eq, bnd_eq, bnd_eq, bnd_eq, bndv hq, if_pos s, if_pos s, bndv Int32.or_zero, bnd_eq, bnd_eq]
    · obtain ⟨h0, h1, h2, h3, h4, h5, h6, h7, h8, w9, w10, w11, w12, w13, w14, w15, w16, w17, w18, r1, r2, r3⟩ := cont _ rfl
      refine ⟨h0, h1, h2, h3, h4, h5, h6, h7, h8, w9, w10, w11, w12, w13, w14, w15, w16, w17, w18, fun E => Eq.trans ?_ (r1 E), r2, r3⟩
      show fb_mX11_all_53 sg cl cs S (S 1) (S 2) (S 3) (S 6) law o E (fl_mX11_all_53 sg cl cs S (S 1) (S 2) (S 3) (S 6) law o E N) g0 g1 g2 g3 g4 g5 g6 g7 g8 v9 v10 v11 v12 v13 v14 v15 v16 v17 v18 j = _
      unfold fb_mX11_all_53
      rw [if_neg (show ¬ S 2 ≤ j by rw [Int32.le_iff_toInt_le]; omega), if_neg oz, bnd_eq, bndv eq.symm, bnd_eq, bnd_eq, bnd_eq, bnd_eq, bnd_eq, bnd_eq, bnd_eq, bnd_eq, bnd_eq, bnd_eq, bnd_eq, bnd_eq, bnd_eq, bnd_eq, bnd_eq, bnd_eq, bnd_eq, bnd_eq, bndv hq, if_neg s, if_neg s, bnd_eq, bnd_eq, bnd_eq, bnd_eq]
set_option maxHeartbeats 400000 in
theorem ro_x {S sg cl cs : Nat → Int32} {law o j : Int32} {N : Nat} (oz : S 3 ≤ o) (g0 g1 : Nat → Int64) (g2 g3 g4 g5 g6 g7 g8 : Nat → Int32) (v9 v10 v11 v12 v13 v14 v15 v16 v17 v18 : Int32) (E : (Nat → Int64) → (Nat → Int64) → (Nat → Int32) → (Nat → Int32) → (Nat → Int32) → (Nat → Int32) → (Nat → Int32) → (Nat → Int32) → (Nat → Int32) → Int32 → Int32 → Int32 → Int32 → Int32 → Int32 → Int32 → Int32 → Int32 → Int32 → Int32 → (Int32 × Int32 × Int32 × Int32 × Int32 × Int32 × Int32 × Int32 × Int32 × Int32 × (Nat → Int64) × (Nat → Int64) × (Nat → Int32) × (Nat → Int32) × (Nat → Int32) × (Nat → Int32) × (Nat → Int32) × (Nat → Int32) × (Nat → Int32) × Int32)) : fl_mX11_all_53 sg cl cs S (S 1) (S 2) (S 3) (S 6) law o E (N + 1) g0 g1 g2 g3 g4 g5 g6 g7 g8 v9 v10 v11 v12 v13 v14 v15 v16 v17 v18 j = E g0 g1 g2 g3 g4 g5 g6 g7 g8 v9 v10 v11 v12 v13 v14 v15 v16 v17 v18 j := by
  show fb_mX11_all_53 sg cl cs S (S 1) (S 2) (S 3) (S 6) law o E (fl_mX11_all_53 sg cl cs S (S 1) (S 2) (S 3) (S 6) law o E N) g0 g1 g2 g3 g4 g5 g6 g7 g8 v9 v10 v11 v12 v13 v14 v15 v16 v17 v18 j = _
  unfold fb_mX11_all_53
  rw [if_pos oz, ite_self]
set_option maxHeartbeats 400000 in
theorem ro_o {S sg cl cs : Nat → Int32} {law : Int32} {L : Cls} (g : GD S) (x : XT S) (hL : LWR sg cl cs law L) : ∀ (n N : Nat) (g0 g1 : Nat → Int64) (g2 g3 g4 g5 g6 g7 g8 : Nat → Int32) (v9 v10 v11 v12 v13 v14 v15 v16 v17 v18 : Int32) (o : Int32), n < N → 0 ≤ o.toInt → o.toInt + n = 6 → ∃ (h0 h1 : Nat → Int64) (h2 h3 h4 h5 h6 h7 h8 : Nat → Int32) (w9 w10 w11 w12 w13 w14 w15 w16 w17 w18 : Int32), (∀ E : (Nat → Int64) → (Nat → Int64) → (Nat → Int32) → (Nat → Int32) → (Nat → Int32) → (Nat → Int32) → (Nat → Int32) → (Nat → Int32) → (Nat → Int32) → Int32 → Int32 → Int32 → Int32 → Int32 → Int32 → Int32 → Int32 → Int32 → Int32 → Int32 → (Int32 × Int32 × Int32 × Int32 × Int32 × Int32 × Int32 × Int32 × Int32 × Int32 × (Nat → Int64) × (Nat → Int64) × (Nat → Int32) × (Nat → Int32) × (Nat → Int32) × (Nat → Int32) × (Nat → Int32) × (Nat → Int32) × (Nat → Int32) × Int32), fl_mX11_all_37 sg cl cs S (S 1) (S 2) (S 3) (S 6) law E N g0 g1 g2 g3 g4 g5 g6 g7 g8 v9 v10 v11 v12 v13 v14 v15 v16 v17 v18 o = E h0 h1 h2 h3 h4 h5 h6 h7 h8 w9 w10 w11 w12 w13 w14 w15 w16 w17 w18 6) ∧ (∀ i, i < 6 → h8 i = if i < o.toNatClampNeg then g8 i else kofN S L i)
  | _, 0, _, _, _, _, _, _, _, _, _, _, _, _, _, _, _, _, _, _, _, _, h, _, _ => absurd h (Nat.not_lt_zero _)
  | 0, N + 1, g0, g1, g2, g3, g4, g5, g6, g7, g8, v9, v10, v11, v12, v13, v14, v15, v16, v17, v18, o, _, o0, on => by
    have eo : o = 6 := Int32.toInt_inj.mp (by rw [show (6 : Int32).toInt = 6 from by decide]; omega)
    subst eo
    refine ⟨g0, g1, g2, g3, g4, g5, g6, g7, g8, v9, v10, v11, v12, v13, v14, v15, v16, v17, v18, fun E => ?_, fun i hi => (if_pos (show i < (6 : Int32).toNatClampNeg from hi)).symm⟩
    show fb_mX11_all_37 sg cl cs S (S 1) (S 2) (S 3) (S 6) law E (fl_mX11_all_37 sg cl cs S (S 1) (S 2) (S 3) (S 6) law E N) g0 g1 g2 g3 g4 g5 g6 g7 g8 v9 v10 v11 v12 v13 v14 v15 v16 v17 v18 6 = _
    unfold fb_mX11_all_37
    rw [if_pos (by decide)]
  | n + 1, N + 1, g0, g1, g2, g3, g4, g5, g6, g7, g8, v9, v10, v11, v12, v13, v14, v15, v16, v17, v18, o, hN, o0, on => by
    have b2 := GD_2 g
    have t := tn_eq o0
    have t2' := tn_eq b2.1
    have e : (o + 1).toInt = o.toInt + 1 := zadd1 (by omega)
    have t3' := tn_eq (show 0 ≤ (o + 1).toInt by omega)
    have o6 : ¬ 6 ≤ o := by rw [Int32.le_iff_toInt_le, show (6 : Int32).toInt = 6 from by decide]; omega
    have eo := ofN_c o0
    have inner : ∃ (h0 h1 : Nat → Int64) (h2 h3 h4 h5 h6 h7 h8 : Nat → Int32) (w9 w10 w11 w12 w13 w14 w15 w16 w17 w18 jx : Int32), (∀ E : (Nat → Int64) → (Nat → Int64) → (Nat → Int32) → (Nat → Int32) → (Nat → Int32) → (Nat → Int32) → (Nat → Int32) → (Nat → Int32) → (Nat → Int32) → Int32 → Int32 → Int32 → Int32 → Int32 → Int32 → Int32 → Int32 → Int32 → Int32 → Int32 → (Int32 × Int32 × Int32 × Int32 × Int32 × Int32 × Int32 × Int32 × Int32 × Int32 × (Nat → Int64) × (Nat → Int64) × (Nat → Int32) × (Nat → Int32) × (Nat → Int32) × (Nat → Int32) × (Nat → Int32) × (Nat → Int32) × (Nat → Int32) × Int32), fl_mX11_all_53 sg cl cs S (S 1) (S 2) (S 3) (S 6) law o E ((((S 2) : Int32).toInt - (0 : Int32).toInt).toNat + 1) g0 g1 g2 g3 g4 g5 g6 g7 (upd g8 o.toNatClampNeg 0) v9 v10 v11 v12 v13 v14 v15 v16 v17 v18 0 = E h0 h1 h2 h3 h4 h5 h6 h7 h8 w9 w10 w11 w12 w13 w14 w15 w16 w17 w18 jx) ∧ h8 o.toNatClampNeg = kofN S L o.toNatClampNeg ∧ ∀ i, i ≠ o.toNatClampNeg → h8 i = g8 i := by
      by_cases oz : S 3 ≤ o
      · refine ⟨g0, g1, g2, g3, g4, g5, g6, g7, upd g8 o.toNatClampNeg 0, v9, v10, v11, v12, v13, v14, v15, v16, v17, v18, 0, fun E => ro_x oz g0 g1 g2 g3 g4 g5 g6 g7 (upd g8 o.toNatClampNeg 0) v9 v10 v11 v12 v13 v14 v15 v16 v17 v18 E, ?_, fun i hi => upd_ne (fun w => hi w.symm)⟩
        unfold kofN
        rw [eo, if_pos oz]
        exact pk_us
      · have od : ¬ hs o (S 3) = 0 := hs_in (by rw [Int32.lt_iff_toInt_lt, z_i0]; omega) oz
        obtain ⟨h0, h1, h2, h3, h4, h5, h6, h7, h8, w9, w10, w11, w12, w13, w14, w15, w16, w17, w18, r1, r2, r3⟩ := ro_j (sg := sg) (cl := cl) (cs := cs) (law := law) g x hL od (S 2).toNatClampNeg ((((S 2) : Int32).toInt - (0 : Int32).toInt).toNat + 1) g0 g1 g2 g3 g4 g5 g6 g7 (upd g8 o.toNatClampNeg 0) v9 v10 v11 v12 v13 v14 v15 v16 v17 v18 0 (by rw [z_i0]; omega) (by decide) (by rw [z_i0]; omega)
        refine ⟨h0, h1, h2, h3, h4, h5, h6, h7, h8, w9, w10, w11, w12, w13, w14, w15, w16, w17, w18, S 2, r1, ?_, fun i hi => (r3 i hi).trans (upd_ne (fun w => hi w.symm))⟩
        rw [r2, show upd g8 o.toNatClampNeg 0 o.toNatClampNeg = 0 from pk_us]
        unfold kofN
        rw [eo, if_neg oz]
    obtain ⟨h0, h1, h2, h3, h4, h5, h6, h7, h8, w9, w10, w11, w12, w13, w14, w15, w16, w17, w18, jx, r1, r2, r3⟩ := inner
    obtain ⟨k0, k1, k2, k3, k4, k5, k6, k7, k8, k9, k10, k11, k12, k13, k14, k15, k16, k17, k18, z1, z2⟩ := ro_o (sg := sg) (cl := cl) (cs := cs) (law := law) g x hL n N h0 h1 h2 h3 h4 h5 h6 h7 h8 w9 w10 w11 w12 w13 w14 w15 w16 w17 w18 (o + 1) (by omega) (by omega) (by omega)
    refine ⟨k0, k1, k2, k3, k4, k5, k6, k7, k8, k9, k10, k11, k12, k13, k14, k15, k16, k17, k18, fun E => Eq.trans ?_ (z1 E), fun i hi => ?_⟩
    · show fb_mX11_all_37 sg cl cs S (S 1) (S 2) (S 3) (S 6) law E (fl_mX11_all_37 sg cl cs S (S 1) (S 2) (S 3) (S 6) law E N) g0 g1 g2 g3 g4 g5 g6 g7 g8 v9 v10 v11 v12 v13 v14 v15 v16 v17 v18 o = _
      unfold fb_mX11_all_37
      rw [if_neg o6, bnd_eq, r1, bnd_eq]
    · rw [z2 i hi]
      by_cases c : i < o.toNatClampNeg
      · rw [if_pos c, if_pos (show i < (o + 1).toNatClampNeg by omega)]
        exact r3 i (by omega)
      · rw [if_neg c]
        by_cases c2 : i = o.toNatClampNeg
        · rw [if_pos (show i < (o + 1).toNatClampNeg by omega), c2]
          exact r2
        · rw [if_neg (show ¬ i < (o + 1).toNatClampNeg by omega)]
set_option maxHeartbeats 400000 in
theorem co_j {S nF pF jF oF so s1 s2 t1 t2 yj yo y1 y2 y3 y4 y5 : Nat → Int32} {fm yc : Int32} {L : Cls} {o : Int32} (g : GD S) (x : XT S) (hL : LWX so s1 s2 t1 t2 yj yo y1 y2 y3 y4 y5 yc L) (hn : NE nF S) (hp : PE pF S) (hJ : JE jF S) (hO : OE oF S) (e6 : fm = S 6) (od : ¬ hs o (S 3) = 0) : ∀ (n N : Nat) (v0 : Int32) (v1 : Int32) (v2 : Int32) (v3 : Int32) (v4 : Int32) (v5 : Int32) (v7 : Int32) (v8 : Int32) (v9 : Int32) (g10 : Nat → Int32) (v11 : Int32) (v12 : Int32) (v13 : Int32) (v14 : Int32) (v15 : Int32) (v16 : Int32) (v17 : Int32) (v18 : Int32) (g19 : Nat → Int32) (g20 : Nat → Int32) (g21 : Nat → Int32) (g22 : Nat → Int32) (j : Int32), n < N → 0 ≤ j.toInt → j.toInt + n = (S 2).toInt → ∃ (w0 : Int32) (w1 : Int32) (w2 : Int32) (w3 : Int32) (w4 : Int32) (w5 : Int32) (w7 : Int32) (w8 : Int32) (w9 : Int32) (h10 : Nat → Int32) (w11 : Int32) (w12 : Int32) (w13 : Int32) (w14 : Int32) (w15 : Int32) (w16 : Int32) (w17 : Int32) (w18 : Int32) (h19 : Nat → Int32) (h20 : Nat → Int32) (h21 : Nat → Int32) (h22 : Nat → Int32), (∀ E : Int32 → Int32 → Int32 → Int32 → Int32 → Int32 → Int32 → Int32 → Int32 → (Nat → Int32) → Int32 → Int32 → Int32 → Int32 → Int32 → Int32 → Int32 → Int32 → (Nat → Int32) → (Nat → Int32) → (Nat → Int32) → (Nat → Int32) → Int32 → (Int32 × Int32 × Int32 × Int32 × Int32 × Int32 × Int32 × Int32 × Int32 × (Nat → Int32) × Int32 × Int32 × Int32 × Int32 × Int32 × Int32 × Int32 × Int32 × (Nat → Int32) × (Nat → Int32) × (Nat → Int32) × Int32 × (Nat → Int32) × (Nat → Int32) × Int32), fl_mX10_all_yes_49 nF (S 1) pF (S 2) jF oF (S 5) fm so s1 s2 t1 t2 yj yo y1 y2 y3 y4 y5 yc o E N v0 v1 v2 v3 v4 v5 v7 v8 v9 g10 v11 v12 v13 v14 v15 v16 v17 v18 g19 g20 g21 g22 j = E w0 w1 w2 w3 w4 w5 w7 w8 w9 h10 w11 w12 w13 w14 w15 w16 w17 w18 h19 h20 h21 h22 (S 2)) ∧ h22 o.toNatClampNeg = ofF S L o n j (g22 o.toNatClampNeg) ∧ ∀ i, i ≠ o.toNatClampNeg → h22 i = g22 i
  | _, 0, _, _, _, _, _, _, _, _, _, _, _, _, _, _, _, _, _, _, _, _, _, _, _, h, _, _ => absurd h (Nat.not_lt_zero _)
  | 0, N + 1, v0, v1, v2, v3, v4, v5, v7, v8, v9, g10, v11, v12, v13, v14, v15, v16, v17, v18, g19, g20, g21, g22, j, _, j0, jn => by
    have ej : j = S 2 := Int32.toInt_inj.mp (by omega)
    subst ej
    refine ⟨v0, v1, v2, v3, v4, v5, v7, v8, v9, g10, v11, v12, v13, v14, v15, v16, v17, v18, g19, g20, g21, g22, fun E => ?_, rfl, fun _ _ => rfl⟩
    show fb_mX10_all_yes_49 nF (S 1) pF (S 2) jF oF (S 5) fm so s1 s2 t1 t2 yj yo y1 y2 y3 y4 y5 yc o E (fl_mX10_all_yes_49 nF (S 1) pF (S 2) jF oF (S 5) fm so s1 s2 t1 t2 yj yo y1 y2 y3 y4 y5 yc o E N) v0 v1 v2 v3 v4 v5 v7 v8 v9 g10 v11 v12 v13 v14 v15 v16 v17 v18 g19 g20 g21 g22 (S 2) = _
    unfold fb_mX10_all_yes_49
    rw [if_pos (Int32.le_iff_toInt_le.mpr (Int.le_refl _))]
  | n + 1, N + 1, v0, v1, v2, v3, v4, v5, v7, v8, v9, g10, v11, v12, v13, v14, v15, v16, v17, v18, g19, g20, g21, g22, j, hN, j0, jn => by
    have b2 := GD_2 g
    have b3 := GD_3 g
    have e : (j + 1).toInt = j.toInt + 1 := zadd1 (by omega)
    have jd : ¬ hs j (S 2) = 0 := hs_of j0 (by omega)
    have ob := hs_b od
    have hq := left_a (k1 := v11) (k2 := v12) (k3 := v13) (k4 := v14) (k5 := v15) (k6 := v16) (k7 := v17) (k8 := v18) (qf := g19) (qr := g20) (qb := g21) (t1' := v0) (t2' := v1) (t3' := v2) (t4' := v3) (t5' := v4) (t6' := v5) (cF := g10) (cb := v7) (ch := v8) (co := v9) g x hL hn hp hJ hO rfl rfl rfl e6 jd od
    obtain ⟨q, eq⟩ : ∃ q, q = fX5_leftFor v11 v12 v13 v14 v15 v16 v17 v18 g19 g20 g21 v0 v1 v2 v3 v4 v5 g10 v7 v8 v9 nF (S 1) pF (S 2) jF oF (S 5) fm so s1 s2 t1 t2 yj yo y1 y2 y3 y4 y5 yc j o 1 := ⟨_, rfl⟩
    rw [← eq] at hq
    have eo : fX3_offer g22 j o = upd g22 o.toNatClampNeg (g22 o.toNatClampNeg ||| ((1 : Int32) <<< (j &&& 31))) := by
      unfold fX3_offer
      rw [if_neg (show ¬ o < 0 by rw [Int32.lt_iff_toInt_lt, z_i0]; omega), if_neg (show ¬ 6 ≤ o by rw [Int32.le_iff_toInt_le, show (6 : Int32).toInt = 6 from by decide]; omega), bnd_eq, bnd_eq, bnd_eq]
    by_cases s : svW S L j o < 0
    · obtain ⟨w0, w1, w2, w3, w4, w5, w7, w8, w9, h10, w11, w12, w13, w14, w15, w16, w17, w18, h19, h20, h21, h22, r1, r2, r3⟩ := co_j (o := o) (fm := fm) g x hL hn hp hJ hO e6 od n N q.2.2.2.2.2.2.2.2.2.2.2.1 q.2.2.2.2.2.2.2.2.2.2.2.2.1 q.2.2.2.2.2.2.2.2.2.2.2.2.2.1 q.2.2.2.2.2.2.2.2.2.2.2.2.2.2.1 q.2.2.2.2.2.2.2.2.2.2.2.2.2.2.2.1 q.2.2.2.2.2.2.2.2.2.2.2.2.2.2.2.2.1 q.2.2.2.2.2.2.2.2.2.2.2.2.2.2.2.2.2.1 q.2.2.2.2.2.2.2.2.2.2.2.2.2.2.2.2.2.2.1 q.2.2.2.2.2.2.2.2.2.2.2.2.2.2.2.2.2.2.2.1 q.2.2.2.2.2.2.2.2.2.2.2.2.2.2.2.2.2.2.2.2.1 q.1 q.2.1 q.2.2.1 q.2.2.2.1 q.2.2.2.2.1 q.2.2.2.2.2.1 q.2.2.2.2.2.2.1 q.2.2.2.2.2.2.2.1 q.2.2.2.2.2.2.2.2.1 q.2.2.2.2.2.2.2.2.2.1 q.2.2.2.2.2.2.2.2.2.2.1 g22 (j + 1) (by omega) (by omega) (by omega)
      refine ⟨w0, w1, w2, w3, w4, w5, w7, w8, w9, h10, w11, w12, w13, w14, w15, w16, w17, w18, h19, h20, h21, h22, fun E => Eq.trans ?_ (r1 E), ?_, r3⟩
      · show fb_mX10_all_yes_49 nF (S 1) pF (S 2) jF oF (S 5) fm so s1 s2 t1 t2 yj yo y1 y2 y3 y4 y5 yc o E (fl_mX10_all_yes_49 nF (S 1) pF (S 2) jF oF (S 5) fm so s1 s2 t1 t2 yj yo y1 y2 y3 y4 y5 yc o E N) v0 v1 v2 v3 v4 v5 v7 v8 v9 g10 v11 v12 v13 v14 v15 v16 v17 v18 g19 g20 g21 g22 j = _
        unfold fb_mX10_all_yes_49
        rw [if_neg (show ¬ S 2 ≤ j by rw [Int32.le_iff_toInt_le]; omega), bndv eq.symm, bnd_eq, bnd_eq, bnd_eq, bnd_eq, bnd_eq, bnd_eq, bnd_eq, bnd_eq, bnd_eq, bnd_eq, bnd_eq, bnd_eq, bnd_eq, bnd_eq, bnd_eq, bnd_eq, bnd_eq, bnd_eq, bnd_eq, bnd_eq, bnd_eq, bnd_eq, if_pos (hq.mpr s), bnd_eq]
      · rw [r2]
        show _ = ofF S L o n (j + 1) (if svW S L j o < 0 then g22 o.toNatClampNeg else g22 o.toNatClampNeg ||| ((1 : Int32) <<< (j &&& 31)))
        rw [if_pos s]
    · obtain ⟨w0, w1, w2, w3, w4, w5, w7, w8, w9, h10, w11, w12, w13, w14, w15, w16, w17, w18, h19, h20, h21, h22, r1, r2, r3⟩ := co_j (o := o) (fm := fm) g x hL hn hp hJ hO e6 od n N q.2.2.2.2.2.2.2.2.2.2.2.1 q.2.2.2.2.2.2.2.2.2.2.2.2.1 q.2.2.2.2.2.2.2.2.2.2.2.2.2.1 q.2.2.2.2.2.2.2.2.2.2.2.2.2.2.1 q.2.2.2.2.2.2.2.2.2.2.2.2.2.2.2.1 q.2.2.2.2.2.2.2.2.2.2.2.2.2.2.2.2.1 q.2.2.2.2.2.2.2.2.2.2.2.2.2.2.2.2.2.1 q.2.2.2.2.2.2.2.2.2.2.2.2.2.2.2.2.2.2.1 q.2.2.2.2.2.2.2.2.2.2.2.2.2.2.2.2.2.2.2.1 q.2.2.2.2.2.2.2.2.2.2.2.2.2.2.2.2.2.2.2.2.1 q.1 q.2.1 q.2.2.1 q.2.2.2.1 q.2.2.2.2.1 q.2.2.2.2.2.1 q.2.2.2.2.2.2.1 q.2.2.2.2.2.2.2.1 q.2.2.2.2.2.2.2.2.1 q.2.2.2.2.2.2.2.2.2.1 q.2.2.2.2.2.2.2.2.2.2.1 (upd g22 o.toNatClampNeg (g22 o.toNatClampNeg ||| ((1 : Int32) <<< (j &&& 31)))) (j + 1) (by omega) (by omega) (by omega)
      refine ⟨w0, w1, w2, w3, w4, w5, w7, w8, w9, h10, w11, w12, w13, w14, w15, w16, w17, w18, h19, h20, h21, h22, fun E => Eq.trans ?_ (r1 E), ?_, fun i hi => (r3 i hi).trans (upd_ne (fun w => hi w.symm))⟩
      · show fb_mX10_all_yes_49 nF (S 1) pF (S 2) jF oF (S 5) fm so s1 s2 t1 t2 yj yo y1 y2 y3 y4 y5 yc o E (fl_mX10_all_yes_49 nF (S 1) pF (S 2) jF oF (S 5) fm so s1 s2 t1 t2 yj yo y1 y2 y3 y4 y5 yc o E N) v0 v1 v2 v3 v4 v5 v7 v8 v9 g10 v11 v12 v13 v14 v15 v16 v17 v18 g19 g20 g21 g22 j = _
        unfold fb_mX10_all_yes_49
        rw [if_neg (show ¬ S 2 ≤ j by rw [Int32.le_iff_toInt_le]; omega), bndv eq.symm, bnd_eq, bnd_eq, bnd_eq, bnd_eq, bnd_eq, bnd_eq, bnd_eq, bnd_eq, bnd_eq, bnd_eq, bnd_eq, bnd_eq, bnd_eq, bnd_eq, bnd_eq, bnd_eq, bnd_eq, bnd_eq, bnd_eq, bnd_eq, bnd_eq, bnd_eq, if_neg (fun w => s (hq.mp w)), bndv eo, bnd_eq]
      · rw [r2, show upd g22 o.toNatClampNeg (g22 o.toNatClampNeg ||| ((1 : Int32) <<< (j &&& 31))) o.toNatClampNeg = (g22 o.toNatClampNeg ||| ((1 : Int32) <<< (j &&& 31))) from pk_us]
        show _ = ofF S L o n (j + 1) (if svW S L j o < 0 then g22 o.toNatClampNeg else g22 o.toNatClampNeg ||| ((1 : Int32) <<< (j &&& 31)))
        rw [if_neg s]
set_option maxHeartbeats 400000 in
theorem co_o {S nF pF jF oF so s1 s2 t1 t2 yj yo y1 y2 y3 y4 y5 : Nat → Int32} {fm yc : Int32} {L : Cls} (g : GD S) (x : XT S) (hL : LWX so s1 s2 t1 t2 yj yo y1 y2 y3 y4 y5 yc L) (hn : NE nF S) (hp : PE pF S) (hJ : JE jF S) (hO : OE oF S) (e6 : fm = S 6) : ∀ (n N : Nat) (v0 : Int32) (v1 : Int32) (v2 : Int32) (v3 : Int32) (v4 : Int32) (v5 : Int32) (v7 : Int32) (v8 : Int32) (v9 : Int32) (g10 : Nat → Int32) (v11 : Int32) (v12 : Int32) (v13 : Int32) (v14 : Int32) (v15 : Int32) (v16 : Int32) (v17 : Int32) (v18 : Int32) (g19 : Nat → Int32) (g20 : Nat → Int32) (g21 : Nat → Int32) (g22 : Nat → Int32) (o : Int32), n < N → 0 ≤ o.toInt → o.toInt + n = (S 3).toInt → (∀ i, i < 6 → o.toNatClampNeg ≤ i → g22 i = 0) → ∃ (w0 : Int32) (w1 : Int32) (w2 : Int32) (w3 : Int32) (w4 : Int32) (w5 : Int32) (w7 : Int32) (w8 : Int32) (w9 : Int32) (h10 : Nat → Int32) (w11 : Int32) (w12 : Int32) (w13 : Int32) (w14 : Int32) (w15 : Int32) (w16 : Int32) (w17 : Int32) (w18 : Int32) (h19 : Nat → Int32) (h20 : Nat → Int32) (h21 : Nat → Int32) (h22 : Nat → Int32), (∀ E : Int32 → Int32 → Int32 → Int32 → Int32 → Int32 → Int32 → Int32 → Int32 → (Nat → Int32) → Int32 → Int32 → Int32 → Int32 → Int32 → Int32 → Int32 → Int32 → (Nat → Int32) → (Nat → Int32) → (Nat → Int32) → (Nat → Int32) → Int32 → (Int32 × Int32 × Int32 × Int32 × Int32 × Int32 × Int32 × Int32 × Int32 × (Nat → Int32) × Int32 × Int32 × Int32 × Int32 × Int32 × Int32 × Int32 × Int32 × (Nat → Int32) × (Nat → Int32) × (Nat → Int32) × Int32 × (Nat → Int32) × (Nat → Int32) × Int32), fl_mX10_all_yes_31 nF (S 1) pF (S 2) jF (S 3) oF (S 5) fm so s1 s2 t1 t2 yj yo y1 y2 y3 y4 y5 yc E N v0 v1 v2 v3 v4 v5 v7 v8 v9 g10 v11 v12 v13 v14 v15 v16 v17 v18 g19 g20 g21 g22 o = E w0 w1 w2 w3 w4 w5 w7 w8 w9 h10 w11 w12 w13 w14 w15 w16 w17 w18 h19 h20 h21 h22 (S 3)) ∧ (∀ i, i < 6 → h22 i = if i < o.toNatClampNeg then g22 i else kofN S L i)
  | _, 0, _, _, _, _, _, _, _, _, _, _, _, _, _, _, _, _, _, _, _, _, _, _, _, h, _, _, _ => absurd h (Nat.not_lt_zero _)
  | 0, N + 1, v0, v1, v2, v3, v4, v5, v7, v8, v9, g10, v11, v12, v13, v14, v15, v16, v17, v18, g19, g20, g21, g22, o, _, o0, on, hz => by
    have eo : o = S 3 := Int32.toInt_inj.mp (by omega)
    subst eo
    refine ⟨v0, v1, v2, v3, v4, v5, v7, v8, v9, g10, v11, v12, v13, v14, v15, v16, v17, v18, g19, g20, g21, g22, fun E => ?_, fun i hi => ?_⟩
    · show fb_mX10_all_yes_31 nF (S 1) pF (S 2) jF (S 3) oF (S 5) fm so s1 s2 t1 t2 yj yo y1 y2 y3 y4 y5 yc E (fl_mX10_all_yes_31 nF (S 1) pF (S 2) jF (S 3) oF (S 5) fm so s1 s2 t1 t2 yj yo y1 y2 y3 y4 y5 yc E N) v0 v1 v2 v3 v4 v5 v7 v8 v9 g10 v11 v12 v13 v14 v15 v16 v17 v18 g19 g20 g21 g22 (S 3) = _
      unfold fb_mX10_all_yes_31
      rw [if_pos (Int32.le_iff_toInt_le.mpr (Int.le_refl _))]
    · by_cases c : i < (S 3).toNatClampNeg
      · rw [if_pos c]
      · have t := tn_eq o0
        rw [if_neg c, hz i hi (by omega)]
        unfold kofN
        rw [if_pos (show S 3 ≤ Int32.ofNat i by rw [Int32.le_iff_toInt_le, Int32.toInt_ofNat_of_lt (by omega)]; omega)]
  | n + 1, N + 1, v0, v1, v2, v3, v4, v5, v7, v8, v9, g10, v11, v12, v13, v14, v15, v16, v17, v18, g19, g20, g21, g22, o, hN, o0, on, hz => by
    have b2 := GD_2 g
    have b3 := GD_3 g
    have t := tn_eq o0
    have t2' := tn_eq b2.1
    have e : (o + 1).toInt = o.toInt + 1 := zadd1 (by omega)
    have t3' := tn_eq (show 0 ≤ (o + 1).toInt by omega)
    have eo := ofN_c o0
    have oz : ¬ S 3 ≤ o := by rw [Int32.le_iff_toInt_le]; omega
    have od : ¬ hs o (S 3) = 0 := hs_of o0 (by omega)
    obtain ⟨w0, w1, w2, w3, w4, w5, w7, w8, w9, h10, w11, w12, w13, w14, w15, w16, w17, w18, h19, h20, h21, h22, r1, r2, r3⟩ := co_j (o := o) (fm := fm) g x hL hn hp hJ hO e6 od (S 2).toNatClampNeg ((((S 2) : Int32).toInt - (0 : Int32).toInt).toNat + 1) v0 v1 v2 v3 v4 v5 v7 v8 v9 g10 v11 v12 v13 v14 v15 v16 v17 v18 g19 g20 g21 g22 0 (by rw [z_i0]; omega) (by decide) (by rw [z_i0]; omega)
    have r4 : h22 o.toNatClampNeg = kofN S L o.toNatClampNeg := by
      rw [r2, hz _ (by omega) (Nat.le_refl _)]
      unfold kofN
      rw [eo, if_neg oz]
    obtain ⟨k0, k1, k2, k3, k4, k5, k6, k7, k8, k9, k10, k11, k12, k13, k14, k15, k16, k17, k18, k19, k20, k21, z1, z2⟩ := co_o (fm := fm) g x hL hn hp hJ hO e6 n N w0 w1 w2 w3 w4 w5 w7 w8 w9 h10 w11 w12 w13 w14 w15 w16 w17 w18 h19 h20 h21 h22 (o + 1) (by omega) (by omega) (by omega) (fun i hi h => (r3 i (by omega)).trans (hz i hi (by omega)))
    refine ⟨k0, k1, k2, k3, k4, k5, k6, k7, k8, k9, k10, k11, k12, k13, k14, k15, k16, k17, k18, k19, k20, k21, fun E => Eq.trans ?_ (z1 E), fun i hi => ?_⟩
    · show fb_mX10_all_yes_31 nF (S 1) pF (S 2) jF (S 3) oF (S 5) fm so s1 s2 t1 t2 yj yo y1 y2 y3 y4 y5 yc E (fl_mX10_all_yes_31 nF (S 1) pF (S 2) jF (S 3) oF (S 5) fm so s1 s2 t1 t2 yj yo y1 y2 y3 y4 y5 yc E N) v0 v1 v2 v3 v4 v5 v7 v8 v9 g10 v11 v12 v13 v14 v15 v16 v17 v18 g19 g20 g21 g22 o = _
      unfold fb_mX10_all_yes_31
      rw [if_neg oz, r1, bnd_eq]
    · rw [z2 i hi]
      by_cases c : i < o.toNatClampNeg
      · rw [if_pos c, if_pos (show i < (o + 1).toNatClampNeg by omega)]
        exact r3 i (by omega)
      · rw [if_neg c]
        by_cases c2 : i = o.toNatClampNeg
        · rw [if_pos (show i < (o + 1).toNatClampNeg by omega), c2]
          exact r4
        · rw [if_neg (show ¬ i < (o + 1).toNatClampNeg by omega)]
set_option maxHeartbeats 400000 in
theorem ko_l {E : (Nat → Int32) → Int32 → (Nat → Int32)} (hE : ∀ a b, E a b = a) : ∀ (n N : Nat) (f : Nat → Int32) (o : Int32), n < N → 0 ≤ o.toInt → o.toInt + n = 6 → ∀ i, i < 6 → (fl_mX3_open_2 E N f o) i = if i < o.toNatClampNeg then f i else 0
  | _, 0, _, _, h, _, _, _, _ => absurd h (Nat.not_lt_zero _)
  | 0, N + 1, f, o, _, o0, on, i, hi => by
    have t := tn_eq o0
    show fb_mX3_open_2 E (fl_mX3_open_2 E N) f o i = _
    unfold fb_mX3_open_2
    rw [if_pos (show 6 ≤ o by rw [Int32.le_iff_toInt_le, show (6 : Int32).toInt = 6 from by decide]; omega), hE, if_pos (show i < o.toNatClampNeg by omega)]
  | n + 1, N + 1, f, o, hN, o0, on, i, hi => by
    have t := tn_eq o0
    have e : (o + 1).toInt = o.toInt + 1 := zadd1 (by omega)
    have t3' := tn_eq (show 0 ≤ (o + 1).toInt by omega)
    show fb_mX3_open_2 E (fl_mX3_open_2 E N) f o i = _
    unfold fb_mX3_open_2
    rw [if_neg (show ¬ 6 ≤ o by rw [Int32.le_iff_toInt_le, show (6 : Int32).toInt = 6 from by decide]; omega), bnd_eq, bnd_eq, ko_l hE n N (upd f o.toNatClampNeg 0) (o + 1) (by omega) (by omega) (by omega) i hi]
    by_cases c : i < o.toNatClampNeg
    · rw [if_pos c, if_pos (show i < (o + 1).toNatClampNeg by omega)]
      exact upd_ne (by omega)
    · rw [if_neg c]
      by_cases c2 : i = o.toNatClampNeg
      · rw [if_pos (show i < (o + 1).toNatClampNeg by omega), c2]
        exact pk_us
      · rw [if_neg (show ¬ i < (o + 1).toNatClampNeg by omega)]
set_option maxHeartbeats 400000 in
theorem ko_0 {f : Nat → Int32} {i : Nat} (hi : i < 6) : fX3_open f i = 0 := by
  unfold fX3_open
  rw [ko_l (fun _ _ => rfl) 6 _ f 0 (by decide) (by decide) (by decide) i hi]
  rw [if_neg (show ¬ i < (0 : Int32).toNatClampNeg from Nat.not_lt_zero _)]
/-- ALL: the answer -/
def alA (S : Nat → Int32) (L : Cls) (p : Int32) : Int32 := if wi p 6 = 0 then -1 else if p ≤ S 3 then (if p = 0 then gV (kofN S L) S (S 3) 0 0 else c16 (chV (kofN S L) S (S 3) (p - 1).toNatClampNeg 0 0 (gV (kofN S L) S (S 3) 0 0))) else -2
set_option maxHeartbeats 400000 in
theorem all_c {S nF pF jF oF fF wF cF qf qr qb ko kc so s1 s2 t1 t2 yj yo y1 y2 y3 y4 y5 : Nat → Int32} {zn zp zj zo zf zw ws nw fm x yc p1 cb ch co t1' t2' t3' t4' t5' t6' k1 k2 k3 k4 k5 k6 k7 k8 kp : Int32} {L : Cls} (h : X4 S zn zp zj zo zf nw fm x ws zw nF pF jF oF fF wF) (g : GD S) (hx : XT S) (hL : LWX so s1 s2 t1 t2 yj yo y1 y2 y3 y4 y5 yc L) : (fX10_all_yes nF zp pF zj jF zo oF nw fm cF cb ch co t1' t2' t3' t4' t5' t6' k1 k2 k3 k4 k5 k6 k7 k8 qf qr qb kp ko kc so s1 s2 t1 t2 yj yo y1 y2 y3 y4 y5 yc p1).2.2.2.2.2.2.2.2.2.2.2.2.2.2.2.2.2.2.2.2.2.2.2.2 = alA S L p1 := by
  obtain ⟨⟨h0, h1, h2, h3, h4⟩, ⟨h5, h6, h7, h8, h9⟩, hnF, hpF, hjF, hoF, hfF, hwF⟩ := h
  subst h1
  subst h2
  subst h3
  subst h5
  have b3 := GD_3 g
  have t3 := tn_eq b3.1
  unfold fX10_all_yes alA
  by_cases a : wi p1 6 = 0
  · rw [if_pos a, if_pos a]
  · obtain ⟨p0, p6⟩ := wi_r a
    rw [show (6 : Int32).toInt = 6 from by decide] at p6
    rw [if_neg a, if_neg a, bnd_eq]
    obtain ⟨w0, w1, w2, w3, w4, w5, w7, w8, w9, h10, w11, w12, w13, w14, w15, w16, w17, w18, h19, h20, h21, h22, r1, r2⟩ := co_o (fm := fm) g hx hL hnF hpF hjF hoF h6 (S 3).toNatClampNeg ((((S 3) : Int32).toInt - (0 : Int32).toInt).toNat + 1) t1' t2' t3' t4' t5' t6' cb ch co cF k1 k2 k3 k4 k5 k6 k7 k8 qf qr qb (fX3_open ko) 0 (by rw [z_i0]; omega) (by decide) (by rw [z_i0]; omega) (fun i hi _ => ko_0 hi)
    have hk : ∀ i, i < 6 → h22 i = kofN S L i := fun i hi => (r2 i hi).trans (if_neg (Nat.not_lt_zero _))
    obtain ⟨g', q1, q2⟩ := ccho_v (kc := kc) hk (fun i _ => kofN_B g i) hoF b3.1 b3.2
    rw [r1, bndv q1, bnd_eq, bnd_eq]
    by_cases z : p1 = 0
    · rw [if_pos z, if_pos z, if_pos (show p1 ≤ S 3 by rw [z, Int32.le_iff_toInt_le, z_i0]; exact b3.1)]
    · have p1' : 1 ≤ p1.toInt := by
        have : ¬ p1.toInt = 0 := fun w => z (Int32.toInt_inj.mp (w.trans z_i0.symm))
        omega
      have h1' : (1 : Int32).toInt = 1 := by decide
      have em : (p1 - 1).toInt = p1.toInt - 1 := by rw [zsub (by rw [h1']; omega) (by rw [h1']; omega), h1']
      have tm := tn_eq (show 0 ≤ (p1 - 1).toInt by omega)
      rw [if_neg z, if_neg z]
      by_cases w : p1 ≤ S 3
      · rw [Int32.le_iff_toInt_le] at w
        have ej : fX3_jarFor g' (S 3) (p1 - 1) = c16 (chV (kofN S L) S (S 3) (p1 - 1).toNatClampNeg 0 0 (gV (kofN S L) S (S 3) 0 0)) := by
          unfold fX3_jarFor
          rw [if_neg (hs_of (by omega) (by omega)), if_neg (show ¬ 6 ≤ p1 - 1 by rw [Int32.le_iff_toInt_le, show (6 : Int32).toInt = 6 from by decide]; omega), bnd_eq]
          exact q2 _ (by omega)
        rw [bndv ej, if_pos (show p1 ≤ S 3 by rw [Int32.le_iff_toInt_le]; exact w)]
      · have ej : fX3_jarFor g' (S 3) (p1 - 1) = -2 := by
          unfold fX3_jarFor
          rw [Int32.le_iff_toInt_le] at w
          have hz : hs (p1 - 1) (S 3) = 0 := by
            unfold hs
            rw [if_neg (show ¬ p1 - 1 < 0 by rw [Int32.lt_iff_toInt_lt, z_i0]; omega), if_pos (show S 3 ≤ p1 - 1 by rw [Int32.le_iff_toInt_le]; omega)]
          rw [if_pos hz]
        rw [bndv ej, if_neg w]
set_option maxHeartbeats 400000 in
theorem all_r {S sg cl cs sv st1 st2 st3 st4 st5 bp : Nat → Int32} {sk wd : Nat → Int64} {laws top law p1 f1 f2 f3 f4 f5 f6 m1 m2 m3 : Int32} {L : Cls} (g : GD S) (x : XT S) (hL : LWR sg cl cs law L) (hl : ¬ hs law laws = 0) : (fX11_all laws top f1 f2 f3 f4 f5 f6 m1 m2 m3 sg cl cs sk wd S st1 st2 st3 st4 st5 bp sv (S 1) (S 2) (S 3) (S 6) law p1).2.2.2.2.2.2.2.2.2.2.2.2.2.2.2.2.2.2.2 = alA S L p1 := by
  have b3 := GD_3 g
  have t3 := tn_eq b3.1
  unfold fX11_all alA
  rw [if_neg hl, li_wj (hi := 6) (by decide)]
  by_cases a : wi p1 6 = 0
  · rw [if_pos a, if_pos a]
  · obtain ⟨p0, p6⟩ := wi_r a
    rw [show (6 : Int32).toInt = 6 from by decide] at p6
    rw [if_neg a, if_neg a]
    by_cases w : p1 ≤ S 3
    · obtain ⟨h0, h1, h2, h3, h4, h5, h6, h7, h8, w9, w10, w11, w12, w13, w14, w15, w16, w17, w18, r1, r2⟩ := ro_o (sg := sg) (cl := cl) (cs := cs) (law := law) g x hL 6 (((6 : Int32).toInt - (0 : Int32).toInt).toNat + 1) sk wd st1 st2 st3 st4 st5 bp sv top f1 f2 f3 f4 f5 f6 m1 m2 m3 0 (by decide) (by decide) (by decide)
      have hk : ∀ i, i < 6 → h8 i = kofN S L i := fun i hi => (r2 i hi).trans (if_neg (Nat.not_lt_zero _))
      have eg : fX11_priceFrom S h8 (S 3) 0 0 = gV (kofN S L) S (S 3) 0 0 := rpf_v hk b3.1 b3.2 (by decide) (by decide)
      rw [if_pos w, if_pos w, r1, bndv eg]
      by_cases z : p1 = 0
      · rw [if_pos z, if_pos z]
      · have p1' : 1 ≤ p1.toInt := by
          have : ¬ p1.toInt = 0 := fun w => z (Int32.toInt_inj.mp (w.trans z_i0.symm))
          omega
        have h1' : (1 : Int32).toInt = 1 := by decide
        have em : (p1 - 1).toInt = p1.toInt - 1 := by rw [zsub (by rw [h1']; omega) (by rw [h1']; omega), h1']
        have tm := tn_eq (show 0 ≤ (p1 - 1).toInt by omega)
        rw [if_neg z, if_neg z]
        refine rch hk (fun a b c d => ?_) b3.1 b3.2 p6 (p1 - 1).toNatClampNeg _ 0 (-1) _ 0 (by rw [z_i0]; omega) (by decide) (by rw [z_i0]; omega)
        by_cases y : 0 ≤ b
        · rw [show c16 b = b from if_neg (show ¬ b < 0 by rw [Int32.lt_iff_toInt_lt, z_i0]; rw [Int32.le_iff_toInt_le, z_i0] at y; omega)]
          exact congrArg (fun z : Int32 × Int32 × Int32 × Int32 × Int32 × Int32 × Int32 × Int32 × Int32 × Int32 × (Nat → Int64) × (Nat → Int64) × (Nat → Int32) × (Nat → Int32) × (Nat → Int32) × (Nat → Int32) × (Nat → Int32) × (Nat → Int32) × (Nat → Int32) × Int32 => z.2.2.2.2.2.2.2.2.2.2.2.2.2.2.2.2.2.2.2) (if_pos y)
        · rw [show c16 b = 16 from if_pos (show b < 0 by rw [Int32.lt_iff_toInt_lt, z_i0]; rw [Int32.le_iff_toInt_le, z_i0] at y; omega)]
          exact congrArg (fun z : Int32 × Int32 × Int32 × Int32 × Int32 × Int32 × Int32 × Int32 × Int32 × Int32 × (Nat → Int64) × (Nat → Int64) × (Nat → Int32) × (Nat → Int32) × (Nat → Int32) × (Nat → Int32) × (Nat → Int32) × (Nat → Int32) × (Nat → Int32) × Int32 => z.2.2.2.2.2.2.2.2.2.2.2.2.2.2.2.2.2.2.2) (if_neg y)
    · rw [if_neg w, if_neg w]
