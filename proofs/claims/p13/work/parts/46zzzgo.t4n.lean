set_option maxHeartbeats 400000 in
theorem upd_upd {f : Nat → Int32} {i : Nat} {a b : Int32} : upd (upd f i a) i b = upd f i b := by
  funext k
  by_cases q : i = k
  · subst q; rw [pk_us, pk_us]
  · rw [upd_ne q, upd_ne q, upd_ne q]
/-- a jar that STANDS -/
def stS (S : Nat → Int32) (j w : Int32) : Nat → Int32 := upd (upd (upd (upd S (168 + 9 * j.toNatClampNeg + 5) w) (168 + 9 * j.toNatClampNeg + 6) (-1)) (168 + 9 * j.toNatClampNeg + 7) 0) (168 + 9 * j.toNatClampNeg + 8) (-1)
set_option maxHeartbeats 400000 in
theorem st_at {S : Nat → Int32} {j w : Int32} {i : Nat} (h : i < (168 + 9 * j.toNatClampNeg + 5) ∨ (168 + 9 * j.toNatClampNeg + 8) < i) : stS S j w i = S i := by
  unfold stS
  rw [upd_ne (by omega), upd_ne (by omega), upd_ne (by omega), upd_ne (by omega)]
set_option maxHeartbeats 400000 in
theorem st_c {S : Nat → Int32} {j w v : Int32} {a : Nat} (h : a < (168 + 9 * j.toNatClampNeg + 5) ∨ (168 + 9 * j.toNatClampNeg + 8) < a) : upd (stS S j w) a v = stS (upd S a v) j w := by
  unfold stS
  rw [upd_comm (k := (168 + 9 * j.toNatClampNeg + 8)) (l := a) (by omega), upd_comm (k := (168 + 9 * j.toNatClampNeg + 7)) (l := a) (by omega), upd_comm (k := (168 + 9 * j.toNatClampNeg + 6)) (l := a) (by omega), upd_comm (k := (168 + 9 * j.toNatClampNeg + 5)) (l := a) (by omega)]
set_option maxHeartbeats 400000 in
theorem st_5 {S : Nat → Int32} {j w : Int32} : stS S j w (168 + 9 * j.toNatClampNeg + 5) = w := by
  unfold stS
  rw [upd_ne (by omega), upd_ne (by omega), upd_ne (by omega), pk_us]
set_option maxHeartbeats 400000 in
theorem st_6 {S : Nat → Int32} {j w : Int32} : stS S j w (168 + 9 * j.toNatClampNeg + 6) = -1 := by
  unfold stS
  rw [upd_ne (by omega), upd_ne (by omega), pk_us]
set_option maxHeartbeats 400000 in
theorem NE_st {F S : Nat → Int32} {j w : Int32} (h : NE F S) : NE F (stS S j w) := NE_o (NE_o (NE_o (NE_o h (Or.inr (by omega))) (Or.inr (by omega))) (Or.inr (by omega))) (Or.inr (by omega))
set_option maxHeartbeats 400000 in
theorem PE_st {F S : Nat → Int32} {j w : Int32} (h : PE F S) : PE F (stS S j w) := PE_o (PE_o (PE_o (PE_o h (Or.inr (by omega))) (Or.inr (by omega))) (Or.inr (by omega))) (Or.inr (by omega))
def dr3 (r : Int32) : Int32 := r - r / 1000 * 1000
/-- an ARRIVAL -/
def ar1 (S : Nat → Int32) (L : Cls) (j : Int32) : Int32 := shrw (lsm (nwd S (S 5 + 1) (S (168 + 9 * j.toNatClampNeg + 8)) (S (168 + 9 * j.toNatClampNeg + 4)) (S (168 + 9 * j.toNatClampNeg + 0)) (S (168 + 9 * j.toNatClampNeg + 1))) 2 L) (S (168 + 9 * j.toNatClampNeg + 4))
def arN (S : Nat → Int32) (j : Int32) : Nat := 20 + 4 * (S (168 + 9 * j.toNatClampNeg + 8)).toNatClampNeg + 3
def ar2 (S : Nat → Int32) (L : Cls) (j : Int32) : Nat → Int32 := stS (upd (upd S (168 + 9 * j.toNatClampNeg + 4) (S (168 + 9 * j.toNatClampNeg + 4) - ar1 S L j)) (arN S j) (S (arN S j) + brS (S (arN S j)) (ar1 S L j))) j (S (168 + 9 * j.toNatClampNeg + 8))
def ar3 (S : Nat → Int32) (L : Cls) (j : Int32) : Nat → Int32 := upd (ar2 S L j) 7 (fX9_draw (S 7)).1
def ar4 (S : Nat → Int32) (L : Cls) (j : Int32) : Nat → Int32 := upd (ar2 S L j) 7 (fX9_draw (fX9_draw (S 7)).1).1
def arr (S : Nat → Int32) (L : Cls) (ch z j : Int32) : Nat → Int32 := if S (68 + 5 * (S (168 + 9 * j.toNatClampNeg + 6)).toNatClampNeg + 4) ≤ dr3 (fX9_draw (S 7)).2 then (if fX10_held (lsm (nwd S (S 5 + 1) (S (168 + 9 * j.toNatClampNeg + 8)) (S (168 + 9 * j.toNatClampNeg + 4) - ar1 S L j) (S (168 + 9 * j.toNatClampNeg + 0)) (S (168 + 9 * j.toNatClampNeg + 1))) 3 L) 1000 ≤ dr3 (fX9_draw (fX9_draw (S 7)).1).2 then ar4 S L j else bsS ch (S (168 + 9 * j.toNatClampNeg + 8)) (S (168 + 9 * j.toNatClampNeg + 6)) z (16 - (S (168 + 9 * j.toNatClampNeg + 3)).toInt).toNat j (ar4 S L j)) else goS (ar3 S L j) j
set_option maxHeartbeats 400000 in
theorem ar2_at {S : Nat → Int32} {L : Cls} {j : Int32} {i : Nat} (h : i < (168 + 9 * j.toNatClampNeg + 4) ∨ (168 + 9 * j.toNatClampNeg + 8) < i) (hn : i ≠ arN S j) : ar2 S L j i = S i := by
  unfold ar2
  rw [st_at (by omega), upd_ne (by omega), upd_ne (by omega)]
set_option maxHeartbeats 400000 in
theorem arN_lt {S : Nat → Int32} {j : Int32} (h : rN (S (168 + 9 * j.toNatClampNeg + 8))) : 23 ≤ arN S j ∧ arN S j < 68 := by
  have := tn_eq h.1
  have := h.2
  unfold arN
  omega
set_option maxHeartbeats 400000 in
theorem ar2_4 {S : Nat → Int32} {L : Cls} {j : Int32} (h : rN (S (168 + 9 * j.toNatClampNeg + 8))) : ar2 S L j (168 + 9 * j.toNatClampNeg + 4) = S (168 + 9 * j.toNatClampNeg + 4) - ar1 S L j := by
  have := arN_lt h
  unfold ar2
  rw [st_at (by omega), upd_ne (by omega), pk_us]
set_option maxHeartbeats 400000 in
theorem ar3_at {S : Nat → Int32} {L : Cls} {j : Int32} {i : Nat} (h : i < (168 + 9 * j.toNatClampNeg + 4) ∨ (168 + 9 * j.toNatClampNeg + 8) < i) (hn : i ≠ arN S j) (h7 : i ≠ 7) : ar3 S L j i = S i := by
  unfold ar3
  rw [upd_ne (by omega), ar2_at h hn]
set_option maxHeartbeats 400000 in
theorem ar4_at {S : Nat → Int32} {L : Cls} {j : Int32} {i : Nat} (h : i < (168 + 9 * j.toNatClampNeg + 4) ∨ (168 + 9 * j.toNatClampNeg + 8) < i) (hn : i ≠ arN S j) (h7 : i ≠ 7) : ar4 S L j i = S i := by
  unfold ar4
  rw [upd_ne (by omega), ar2_at h hn]
set_option maxHeartbeats 400000 in
theorem ar4_eq {S : Nat → Int32} {L : Cls} {j : Int32} : upd (ar3 S L j) 7 (fX9_draw (fX9_draw (S 7)).1).1 = ar4 S L j := by
  unfold ar3 ar4
  rw [upd_upd]
set_option maxHeartbeats 400000 in
theorem nwd_c {S T : Nat → Int32} {h n a b c : Int32} (h6 : S 6 = T 6) (h0 : S (20 + 4 * n.toNatClampNeg) = T (20 + 4 * n.toNatClampNeg)) (h2 : S (20 + 4 * n.toNatClampNeg + 2) = T (20 + 4 * n.toNatClampNeg + 2)) : nwd S h n a b c = nwd T h n a b c := by
  unfold nwd
  rw [h6, h0, h2]
set_option maxHeartbeats 400000 in
theorem held_cmp {x : Int64} {r : Int32} : (0 ≤ lg_cmp r.toInt64 (fX11_bounded x 0 1000)) ↔ fX10_held x 1000 ≤ r := by
  have e : fX11_bounded x 0 1000 = (fX10_held x 1000).toInt64 := by
    have z := bnd_heldL (x := x) (m := 1000) (by decide)
    rw [show (1000 : Int32).toInt64 = (1000 : Int64) from by decide] at z
    exact z
  rw [e, lg_cmp_ge, Int64.le_iff_toInt_le, Int32.toInt_toInt64, Int32.toInt_toInt64, Int32.le_iff_toInt_le]
/-- what a jar's row keeps to -/
def AOK (S : Nat → Int32) (j : Int32) : Prop := rJ j ∧ rN (S (168 + 9 * j.toNatClampNeg + 8)) ∧ (0 ≤ (S (168 + 9 * j.toNatClampNeg + 6)).toInt ∧ (S (168 + 9 * j.toNatClampNeg + 6)).toInt < 20) ∧ (0 ≤ (S (168 + 9 * j.toNatClampNeg + 4)).toInt ∧ (S (168 + 9 * j.toNatClampNeg + 4)).toInt ≤ 99999) ∧ (0 ≤ (S (arN S j)).toInt ∧ (S (arN S j)).toInt ≤ 999999) ∧ 0 ≤ (S 7).toInt
set_option maxHeartbeats 400000 in
theorem ref_com {cf sg cl cs S : Nat → Int32} {sk wd : Nat → Int64} {top z law j ch : Int32} {L : Cls} (hL : LWR sg cl cs law L) (hc : cf law.toNatClampNeg = ch) (ho : AOK S j) (hP : PLC S) (hz : z.toInt ≤ 16) (z0 : 0 ≤ z.toInt) : (fX11_comes top sg cl cs cf sk wd S z (S 6) law j).2.2.2 = arr S L ch z j := by
  obtain ⟨hj, ht, hp, hd, hs, hx⟩ := ho
  have hN := arN_lt ht
  have b0 : (168 + 9 * j).toNatClampNeg = (168 + 9 * j.toNatClampNeg + 0) := c_jr0 hj
  have hpl := hP j.toNatClampNeg (by have := tn_eq hj.1; have := hj.2; omega)
  have tn := tn_eq ht.1
  have pn := tn_eq hp.1
  have t12 := ht.2
  have s8 := shr_x (x := lsm (nwd S (S 5 + 1) (S (168 + 9 * j.toNatClampNeg + 8)) (S (168 + 9 * j.toNatClampNeg + 4)) (S (168 + 9 * j.toNatClampNeg + 0)) (S (168 + 9 * j.toNatClampNeg + 1))) 2 L) hd.1 hd.2
  have si := shr_in (x := lsm (nwd S (S 5 + 1) (S (168 + 9 * j.toNatClampNeg + 8)) (S (168 + 9 * j.toNatClampNeg + 4)) (S (168 + 9 * j.toNatClampNeg + 0)) (S (168 + 9 * j.toNatClampNeg + 1))) 2 L) hd.1 hd.2
  have hw := ref_nw (w := wd) (S := S) (hour := S 5 + 1) (dr := S (168 + 9 * j.toNatClampNeg + 4)) (fe := S (168 + 9 * j.toNatClampNeg + 0)) (sa := S (168 + 9 * j.toNatClampNeg + 1)) ht
  unfold fX11_comes
  rw [bnd_eq, bndv (congrArg S (cj8 hj)), bndv (congrArg S (cj6 hj)), bndv (congrArg S (cj4 hj)), bndv (congrArg S b0), bndv (congrArg S (cj1 hj)), bnd_eq]
  generalize fX11_nodeWords wd S (S 6) (S 5 + 1) (S (168 + 9 * j.toNatClampNeg + 8)) (S (168 + 9 * j.toNatClampNeg + 4)) (S (168 + 9 * j.toNatClampNeg + 0)) (S (168 + 9 * j.toNatClampNeg + 1)) = o35 at hw ⊢
  have e2 := hL _ o35 sk top 2 (by decide) hw
  rw [bndv (congrArg S (cj4 hj)), bnd_eq]
  generalize fX11_summed top sg cl cs sk o35 law 2 = q at e2 ⊢
  rw [bnd_eq, bnd_eq, bndv e2, bnd_eq, bnd_eq, bnd_eq, bndv (show _ = ar1 S L j from s8), bndv (congrArg S (cj4 hj))]
  have si1 : 0 ≤ (ar1 S L j).toInt ∧ (ar1 S L j).toInt ≤ (S (168 + 9 * j.toNatClampNeg + 4)).toInt := si
  have f1 : upd S (168 + 9 * j + 4).toNatClampNeg (S (168 + 9 * j.toNatClampNeg + 4) - ar1 S L j) = upd S (168 + 9 * j.toNatClampNeg + 4) (S (168 + 9 * j.toNatClampNeg + 4) - ar1 S L j) := by rw [cj4 hj]
  have e5 : upd S (168 + 9 * j.toNatClampNeg + 4) (S (168 + 9 * j.toNatClampNeg + 4) - ar1 S L j) (arN S j) = S (arN S j) := upd_ne (by omega)
  have e6 : (fX11_stores (upd S (168 + 9 * j.toNatClampNeg + 4) (S (168 + 9 * j.toNatClampNeg + 4) - ar1 S L j)) (S (168 + 9 * j.toNatClampNeg + 8)) (ar1 S L j)).1 = upd (upd S (168 + 9 * j.toNatClampNeg + 4) (S (168 + 9 * j.toNatClampNeg + 4) - ar1 S L j)) (arN S j) (S (arN S j) + brS (S (arN S j)) (ar1 S L j)) := by
    have e := ref_sto (S := upd S (168 + 9 * j.toNatClampNeg + 4) (S (168 + 9 * j.toNatClampNeg + 4) - ar1 S L j)) (d := ar1 S L j) ht (by show 0 ≤ (upd S (168 + 9 * j.toNatClampNeg + 4) (S (168 + 9 * j.toNatClampNeg + 4) - ar1 S L j) (arN S j)).toInt; rw [e5]; exact hs.1) (by show (upd S (168 + 9 * j.toNatClampNeg + 4) (S (168 + 9 * j.toNatClampNeg + 4) - ar1 S L j) (arN S j)).toInt ≤ 999999; rw [e5]; exact hs.2) si1.1 (by omega)
    rw [e]
    show upd (upd S (168 + 9 * j.toNatClampNeg + 4) (S (168 + 9 * j.toNatClampNeg + 4) - ar1 S L j)) (arN S j) (upd S (168 + 9 * j.toNatClampNeg + 4) (S (168 + 9 * j.toNatClampNeg + 4) - ar1 S L j) (arN S j) + brS (upd S (168 + 9 * j.toNatClampNeg + 4) (S (168 + 9 * j.toNatClampNeg + 4) - ar1 S L j) (arN S j)) (ar1 S L j)) = _
    rw [e5]
  have e7 : upd (upd (upd (upd (upd (upd S (168 + 9 * j.toNatClampNeg + 4) (S (168 + 9 * j.toNatClampNeg + 4) - ar1 S L j)) (arN S j) (S (arN S j) + brS (S (arN S j)) (ar1 S L j))) (168 + 9 * j + 5).toNatClampNeg (S (168 + 9 * j.toNatClampNeg + 8))) (168 + 9 * j + 6).toNatClampNeg (-1)) (168 + 9 * j + 7).toNatClampNeg 0) (168 + 9 * j + 8).toNatClampNeg (-1) = ar2 S L j := by
    rw [cj5 hj, cj6 hj, cj7 hj, cj8 hj]
    rfl
  rw [bndv f1, bnd_eq, bndv e6, bnd_eq, bnd_eq, bnd_eq, bndv e7]
  have a7 : ar2 S L j 7 = S 7 := ar2_at (by omega) (by omega)
  have e8 : fX11_draw (ar2 S L j) = (ar3 S L j, dr3 (fX9_draw (S 7)).2) := by
    have e := (draw_x (S := ar2 S L j) (by rw [a7]; exact hx)).1
    rw [a7] at e
    exact e
  have x1 : 0 ≤ (fX9_draw (S 7)).1.toInt := (draw_x hx).2
  have b7 : ar3 S L j 7 = (fX9_draw (S 7)).1 := by unfold ar3; exact pk_us
  have e9 : fX11_draw (ar3 S L j) = (ar4 S L j, dr3 (fX9_draw (fX9_draw (S 7)).1).2) := by
    have e := (draw_x (S := ar3 S L j) (by rw [b7]; exact x1)).1
    rw [b7, ar4_eq] at e
    exact e
  rw [bndv e8, bndv (show (ar3 S L j, dr3 (fX9_draw (S 7)).2).1 = ar3 S L j from rfl), bndv (show (ar3 S L j, dr3 (fX9_draw (S 7)).2).2 = dr3 (fX9_draw (S 7)).2 from rfl), c_ps (c := 4) hp.1 hp.2 (by decide) (by decide), ar3_at (i := 68 + 5 * (S (168 + 9 * j.toNatClampNeg + 6)).toNatClampNeg + 4) (by omega) (by omega) (by omega)]
  unfold arr
  by_cases c : S (68 + 5 * (S (168 + 9 * j.toNatClampNeg + 6)).toNatClampNeg + 4) ≤ dr3 (fX9_draw (S 7)).2
  · have v4 : ar3 S L j (168 + 9 * j + 4).toNatClampNeg = S (168 + 9 * j.toNatClampNeg + 4) - ar1 S L j := by
      rw [cj4 hj]
      unfold ar3
      rw [upd_ne (by omega), ar2_4 ht]
    have v0 : ar3 S L j (168 + 9 * j).toNatClampNeg = S (168 + 9 * j.toNatClampNeg + 0) := by
      rw [b0]
      exact ar3_at (by omega) (by omega) (by omega)
    have v1 : ar3 S L j (168 + 9 * j + 1).toNatClampNeg = S (168 + 9 * j.toNatClampNeg + 1) := by
      rw [cj1 hj]
      exact ar3_at (by omega) (by omega) (by omega)
    have v5 : ar3 S L j 5 = S 5 := ar3_at (by omega) (by omega) (by omega)
    have v6 : ar3 S L j 6 = S 6 := ar3_at (by omega) (by omega) (by omega)
    have hw2 := ref_nw (w := o35) (S := ar3 S L j) (hour := S 5 + 1) (dr := S (168 + 9 * j.toNatClampNeg + 4) - ar1 S L j) (fe := S (168 + 9 * j.toNatClampNeg + 0)) (sa := S (168 + 9 * j.toNatClampNeg + 1)) ht
    rw [v6, nwd_c (T := S) v6 (ar3_at (by omega) (by unfold arN; omega) (by omega)) (ar3_at (by omega) (by unfold arN; omega) (by omega))] at hw2
    rw [if_pos c, if_pos c, bndv v4, bndv v0, bndv v1, v5, bnd_eq]
    generalize fX11_nodeWords o35 (ar3 S L j) (S 6) (S 5 + 1) (S (168 + 9 * j.toNatClampNeg + 8)) (S (168 + 9 * j.toNatClampNeg + 4) - ar1 S L j) (S (168 + 9 * j.toNatClampNeg + 0)) (S (168 + 9 * j.toNatClampNeg + 1)) = o161 at hw2 ⊢
    have e3 := hL _ o161 q.2.1 q.1 3 (by decide) hw2
    rw [bndv e9, bndv (show (ar4 S L j, dr3 (fX9_draw (fX9_draw (S 7)).1).2).1 = ar4 S L j from rfl), bndv (show (ar4 S L j, dr3 (fX9_draw (fX9_draw (S 7)).1).2).2 = dr3 (fX9_draw (fX9_draw (S 7)).1).2 from rfl), bnd_eq]
    generalize fX11_summed q.1 sg cl cs q.2.1 o161 law 3 = q3 at e3 ⊢
    rw [bnd_eq, bnd_eq, bndv e3, bnd_eq]
    by_cases h : fX10_held (lsm (nwd S (S 5 + 1) (S (168 + 9 * j.toNatClampNeg + 8)) (S (168 + 9 * j.toNatClampNeg + 4) - ar1 S L j) (S (168 + 9 * j.toNatClampNeg + 0)) (S (168 + 9 * j.toNatClampNeg + 1))) 3 L) 1000 ≤ dr3 (fX9_draw (fX9_draw (S 7)).1).2
    · rw [if_pos h, if_pos (held_cmp.mpr h)]
    · rw [if_neg h, if_neg (fun y => h (held_cmp.mp y)), bnd_eq]
      show fX11_bursts cf (ar4 S L j) z law j (S (168 + 9 * j.toNatClampNeg + 8)) (S (168 + 9 * j.toNatClampNeg + 6)) = _
      have w3 : ar4 S L j (168 + 9 * j.toNatClampNeg + 3) = S (168 + 9 * j.toNatClampNeg + 3) := ar4_at (by omega) (by omega) (by omega)
      have wb : bms (ar4 S L j) j = (16 - (S (168 + 9 * j.toNatClampNeg + 3)).toInt).toNat := by
        unfold bms
        rw [if_neg (z_nlt0 hj.1), cj3 hj, w3]
      unfold fX11_bursts
      rw [wb]
      refine ref_bs (z := z) hc hz z0 (fun y => ?_) _ _ j (ar4 S L j) hj (fun i hi => ?_) (by rw [w3]; omega) (by omega)
      · rw [y] at t12
        exact absurd t12 (by decide)
      · rw [ar4_at (by omega) (by omega) (by omega)]
        exact hP i hi
  · rw [if_neg c, if_neg c, bndv (ref_go hj)]
set_option maxHeartbeats 400000 in
theorem slo {F S c : Nat → Int32} {j : Int32} (h : JE F S) (hj : rJ j) : fX0_setLoadOf c F j = fX4_setLoad c (S (168 + 9 * j.toNatClampNeg + 4)) (S (168 + 9 * j.toNatClampNeg + 0)) (S (168 + 9 * j.toNatClampNeg + 1)) := by
  unfold fX0_setLoadOf
  rw [bndv (jg0 h hj), bndv (jg5 h hj), bndv (jg6 h hj), bnd_eq]
set_option maxHeartbeats 400000 in
theorem nw_load {c S : Nat → Int32} {h n a b d a2 b2 d2 : Int32} (e : ∀ i : Nat, i < 11 → c i = nwd S h n a b d i) : ∀ i : Nat, i < 11 → fX4_setLoad c a2 b2 d2 i = nwd S h n a2 b2 d2 i := by
  unfold fX4_setLoad nwd
  unfold nwd at e
  simp only [bnd, c_k7, c_k8, c_k9]
  exact w11 (e 0 (by decide)) (e 1 (by decide)) (e 2 (by decide)) (e 3 (by decide)) (e 4 (by decide)) (e 5 (by decide)) (e 6 (by decide)) rfl rfl rfl (e 10 (by decide))
set_option maxHeartbeats 400000 in
theorem bs_at {ch node pass z : Int32} {i : Nat} (hi : i < 168) : ∀ (n : Nat) (last : Int32) (S : Nat → Int32), bsS ch node pass z n last S i = S i := by
  intro n
  induction n with
  | zero => intro last S; rfl
  | succ n ih =>
    intro last S
    unfold bsS
    repeat' split
    · exact goS_at (by omega)
    · exact goS_at (by omega)
    · rw [ih, goS_at (by omega)]
set_option maxHeartbeats 400000 in
theorem NE_ag {F S T : Nat → Int32} (h : NE F S) (e : ∀ i : Nat, 20 ≤ i → i < 68 → T i = S i) : NE F T := fun i hi => (h i hi).trans (e (20 + i) (by omega) (by omega)).symm
set_option maxHeartbeats 400000 in
theorem PE_ag {F S T : Nat → Int32} (h : PE F S) (e : ∀ i : Nat, 68 ≤ i → i < 168 → T i = S i) : PE F T := fun i hi => (h i hi).trans (e (68 + i) (by omega) (by omega)).symm
set_option maxHeartbeats 400000 in
theorem ar2_eq {S : Nat → Int32} {L : Cls} {j : Int32} (h : rN (S (168 + 9 * j.toNatClampNeg + 8))) : ar2 S L j = upd (upd (stS S j (S (168 + 9 * j.toNatClampNeg + 8))) (168 + 9 * j.toNatClampNeg + 4) (S (168 + 9 * j.toNatClampNeg + 4) - ar1 S L j)) (arN S j) (S (arN S j) + brS (S (arN S j)) (ar1 S L j)) := by
  have := arN_lt h
  unfold ar2
  rw [st_c (a := (168 + 9 * j.toNatClampNeg + 4)) (by omega), st_c (a := arN S j) (by omega)]
/-- what stands behind an arrival, a jar's hour -/
def ARP (r : (Nat → Int32) × Int32 × (Nat → Int32) × (Nat → Int32)) (T : Nat → Int32) : Prop := r.2.1 = T 7 ∧ NE r.2.2.1 T ∧ JE r.2.2.2 T
set_option maxHeartbeats 400000 in
theorem cls_arr {cF nF pF jF S so s1 s2 t1 t2 yj yo y1 y2 y3 y4 y5 : Nat → Int32} {z ch yc j : Int32} {L : Cls} (hL : LWX so s1 s2 t1 t2 yj yo y1 y2 y3 y4 y5 yc L) (hn : NE nF S) (hp : PE pF S) (hJ : JE jF S) (ho : AOK S j) (hP : PLC S) (hA : PAS (stS S j (S (168 + 9 * j.toNatClampNeg + 8))) z) (hz : z.toInt ≤ 16) (hjz : j.toInt < z.toInt) : ARP (fX0_arrive cF nF pF z jF (S 5) (S 6) (S 7) so s1 s2 t1 t2 yj yo y1 y2 y3 y4 y5 ch yc j) (arr S L ch z j) := by
  obtain ⟨hj, ht, hpp, hd, hs, hx⟩ := ho
  have hN := arN_lt ht
  have j0 := hj.1
  have tn := tn_eq ht.1
  have pn := tn_eq hpp.1
  have t12 := ht.2
  have hpl := hP j.toNatClampNeg (by have := tn_eq hj.1; have := hj.2; omega)
  unfold fX0_arrive
  rw [bndv (jg2 hJ hj), bndv (jg4 hJ hj), bnd_eq]
  have h18 : JE (fX9_standAt jF j (S (168 + 9 * j.toNatClampNeg + 8))) (stS S j (S (168 + 9 * j.toNatClampNeg + 8))) := cls_stand hJ hj
  have g4 : stS S j (S (168 + 9 * j.toNatClampNeg + 8)) (168 + 9 * j.toNatClampNeg + 4) = S (168 + 9 * j.toNatClampNeg + 4) := st_at (by omega)
  have g0 : stS S j (S (168 + 9 * j.toNatClampNeg + 8)) (168 + 9 * j.toNatClampNeg + 0) = S (168 + 9 * j.toNatClampNeg + 0) := st_at (by omega)
  have g1 : stS S j (S (168 + 9 * j.toNatClampNeg + 8)) (168 + 9 * j.toNatClampNeg + 1) = S (168 + 9 * j.toNatClampNeg + 1) := st_at (by omega)
  generalize fX9_standAt jF j (S (168 + 9 * j.toNatClampNeg + 8)) = G18 at h18 ⊢
  have hw := cls_nw2 (cF := cF) (z := S 6) (hour := S 5 + 1) (dr := S (168 + 9 * j.toNatClampNeg + 4)) (fe := S (168 + 9 * j.toNatClampNeg + 0)) (sa := S (168 + 9 * j.toNatClampNeg + 1)) hn rfl ht
  have e36 : fX0_setLoadOf (fX4_setNode (fX4_setHour cF (S 6) (S 5 + 1)) nF (S (168 + 9 * j.toNatClampNeg + 8))) G18 j = fX4_setLoad (fX4_setNode (fX4_setHour cF (S 6) (S 5 + 1)) nF (S (168 + 9 * j.toNatClampNeg + 8))) (S (168 + 9 * j.toNatClampNeg + 4)) (S (168 + 9 * j.toNatClampNeg + 0)) (S (168 + 9 * j.toNatClampNeg + 1)) := by
    rw [slo h18 hj, g4, g0, g1]
  rw [bnd_eq, bnd_eq, bndv e36]
  generalize fX4_setLoad (fX4_setNode (fX4_setHour cF (S 6) (S 5 + 1)) nF (S (168 + 9 * j.toNatClampNeg + 8))) (S (168 + 9 * j.toNatClampNeg + 4)) (S (168 + 9 * j.toNatClampNeg + 0)) (S (168 + 9 * j.toNatClampNeg + 1)) = o36 at hw ⊢
  rw [bndv ((jg0 h18 hj).trans g4), bndv (hL _ _ 2 (by decide) hw), bnd_eq, bndv (show S (168 + 9 * j.toNatClampNeg + 4) * fX10_held (lsm (nwd S (S 5 + 1) (S (168 + 9 * j.toNatClampNeg + 8)) (S (168 + 9 * j.toNatClampNeg + 4)) (S (168 + 9 * j.toNatClampNeg + 0)) (S (168 + 9 * j.toNatClampNeg + 1))) 2 L) 100 / 100 = ar1 S L j from rfl), bnd_eq]
  have h64 : JE (fX6_put_144 9 G18 j 0 (S (168 + 9 * j.toNatClampNeg + 4) - ar1 S L j)) (upd (stS S j (S (168 + 9 * j.toNatClampNeg + 8))) (168 + 9 * j.toNatClampNeg + 4) (S (168 + 9 * j.toNatClampNeg + 4) - ar1 S L j)) := jp0 h18 hj
  generalize fX6_put_144 9 G18 j 0 (S (168 + 9 * j.toNatClampNeg + 4) - ar1 S L j) = o64 at h64 ⊢
  have hbr := (cls_bring (d := ar1 S L j) hn ht).1
  rw [bnd_eq, bnd_eq]
  generalize (fX9_bring nF (S (168 + 9 * j.toNatClampNeg + 8)) (ar1 S L j)).1 = o70 at hbr ⊢
  have hJ2 : JE o64 (ar2 S L j) := by
    rw [ar2_eq ht]
    exact JE_o h64 (Or.inl (by omega))
  have hN2 : NE o70 (ar2 S L j) := NE_ag hbr (fun i i0 i1 => by
    show ar2 S L j i = upd S (arN S j) (S (arN S j) + brS (S (arN S j)) (ar1 S L j)) i
    unfold ar2
    rw [st_at (by omega)]
    by_cases q : arN S j = i
    · subst q
      rw [pk_us, pk_us]
    · rw [upd_ne q, upd_ne q, upd_ne (by omega)])
  have hJ3 : JE o64 (ar3 S L j) := JE_o hJ2 (Or.inl (by omega))
  have hN3 : NE o70 (ar3 S L j) := NE_o hN2 (Or.inl (by omega))
  have hJ4 : JE o64 (ar4 S L j) := JE_o hJ2 (Or.inl (by omega))
  have hN4 : NE o70 (ar4 S L j) := NE_o hN2 (Or.inl (by omega))
  rw [bnd_eq, bnd_eq, bnd_eq, bndv (show (fX9_draw (S 7)).2 - (fX9_draw (S 7)).2 / 1000 * 1000 = dr3 (fX9_draw (S 7)).2 from rfl), bndv (pget (c := 4) hp hpp.1 hpp.2 (by decide) (by decide))]
  unfold arr
  by_cases c : S (68 + 5 * (S (168 + 9 * j.toNatClampNeg + 6)).toNatClampNeg + 4) ≤ dr3 (fX9_draw (S 7)).2
  · rw [if_pos c, if_pos c]
    have e95 : fX0_setLoadOf o36 o64 j = fX4_setLoad o36 (S (168 + 9 * j.toNatClampNeg + 4) - ar1 S L j) (S (168 + 9 * j.toNatClampNeg + 0)) (S (168 + 9 * j.toNatClampNeg + 1)) := by
      rw [slo h64 hj, pk_us, upd_ne (by omega), upd_ne (by omega), g0, g1]
    have hw2 := nw_load (a2 := S (168 + 9 * j.toNatClampNeg + 4) - ar1 S L j) (b2 := S (168 + 9 * j.toNatClampNeg + 0)) (d2 := S (168 + 9 * j.toNatClampNeg + 1)) hw
    rw [bndv e95, bnd_eq, bnd_eq, bnd_eq, bndv (show (fX9_draw (fX9_draw (S 7)).1).2 - (fX9_draw (fX9_draw (S 7)).1).2 / 1000 * 1000 = dr3 (fX9_draw (fX9_draw (S 7)).1).2 from rfl), bndv (hL _ _ 3 (by decide) hw2), bnd_eq]
    by_cases h : fX10_held (lsm (nwd S (S 5 + 1) (S (168 + 9 * j.toNatClampNeg + 8)) (S (168 + 9 * j.toNatClampNeg + 4) - ar1 S L j) (S (168 + 9 * j.toNatClampNeg + 0)) (S (168 + 9 * j.toNatClampNeg + 1))) 3 L) 1000 ≤ dr3 (fX9_draw (fX9_draw (S 7)).1).2
    · rw [if_pos h, if_pos h]
      exact ⟨pk_us.symm, hN4, hJ4⟩
    · rw [if_neg h, if_neg h, bnd_eq]
      have w3 : ar4 S L j (168 + 9 * j.toNatClampNeg + 3) = S (168 + 9 * j.toNatClampNeg + 3) := ar4_at (by omega) (by omega) (by omega)
      have hP4 : PLC (ar4 S L j) := fun i hi => by
        rw [ar4_at (by omega) (by omega) (by omega)]
        exact hP i hi
      have hA4 : PAS (ar4 S L j) z := by
        have ag : ∀ k : Int32, 0 ≤ k.toInt → k.toInt < z.toInt → ∀ q : Nat, 5 ≤ q → q < 9 → ar4 S L j (168 + 9 * k.toNatClampNeg + q) = stS S j (S (168 + 9 * j.toNatClampNeg + 8)) (168 + 9 * k.toNatClampNeg + q) := by
          intro k k0 k1 q q5 q9
          unfold ar4
          rw [upd_ne (by omega), ar2_eq ht, upd_ne (by omega), upd_ne (by omega)]
        intro k k0 k1 hk
        rw [ag k k0 k1 5 (by decide) (by decide)] at hk
        rw [ag k k0 k1 6 (by decide) (by decide)]
        exact hA k k0 k1 hk
      have hb := cls_bs (z := z) (node := S (168 + 9 * j.toNatClampNeg + 8)) (pass := S (168 + 9 * j.toNatClampNeg + 6)) (ch := ch) hz (by omega) (fun y => by rw [y] at t12; exact absurd t12 (by decide)) hpp.1 (16 - (S (168 + 9 * j.toNatClampNeg + 3)).toInt).toNat 17 0 j o64 (ar4 S L j) hJ4 hj hjz hP4 hA4 (by rw [w3]; omega) (by omega) (by decide) (by rw [w3, z_i0]; exact hpl.1)
      refine ⟨?_, NE_ag hN4 (fun i i0 i1 => bs_at (by omega) _ _ _), hb⟩
      rw [bs_at (by omega)]
      exact pk_us.symm
  · rw [if_neg c, if_neg c, bnd_eq]
    refine ⟨?_, NE_ag hN3 (fun i i0 i1 => goS_at (by omega)), cls_go hJ3 hj⟩
    rw [goS_at (by omega)]
    exact pk_us.symm
