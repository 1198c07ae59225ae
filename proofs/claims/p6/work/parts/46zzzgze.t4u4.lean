/-- a journey among thieves, with jars that burst: fate, DROPS, x -/
def vnP (S : Nat → Int32) (L : Cls) (fe sa : Int32) : Nat → Nat → Int32 → Int32 → Int32 → Int32 × Int32 × Int32
  | 0, _, d, _, x => (0, d, x)
  | n + 1, k, d, h, x => if S (68 + 5 * (S (10 + k)).toNatClampNeg + 4) ≤ dr3 (fX9_draw x).2 then (if fX10_held (lsm (nwd S (crH S (S (10 + k)) h) (oth S (S (10 + k)) (wen S k)) (crD 1 S L (S (10 + k)) (oth S (S (10 + k)) (wen S k)) fe sa 0 d h) fe sa) 3 L) 1000 ≤ dr3 (fX9_draw (fX9_draw x).1).2 then vnP S L fe sa n (k + 1) (crD 1 S L (S (10 + k)) (oth S (S (10 + k)) (wen S k)) fe sa 0 d h) (crH S (S (10 + k)) h) (fX9_draw (fX9_draw x).1).1 else (2, (crD 1 S L (S (10 + k)) (oth S (S (10 + k)) (wen S k)) fe sa 0 d h), (fX9_draw (fX9_draw x).1).1)) else (1, (crD 1 S L (S (10 + k)) (oth S (S (10 + k)) (wen S k)) fe sa 0 d h), (fX9_draw x).1)
set_option maxHeartbeats 400000 in
theorem vnP_s {S : Nat → Int32} {L : Cls} {fe sa d h x : Int32} {n k : Nat} : vnP S L fe sa (n + 1) k d h x = if S (68 + 5 * (S (10 + k)).toNatClampNeg + 4) ≤ dr3 (fX9_draw x).2 then (if fX10_held (lsm (nwd S (crH S (S (10 + k)) h) (oth S (S (10 + k)) (wen S k)) (crD 1 S L (S (10 + k)) (oth S (S (10 + k)) (wen S k)) fe sa 0 d h) fe sa) 3 L) 1000 ≤ dr3 (fX9_draw (fX9_draw x).1).2 then vnP S L fe sa n (k + 1) (crD 1 S L (S (10 + k)) (oth S (S (10 + k)) (wen S k)) fe sa 0 d h) (crH S (S (10 + k)) h) (fX9_draw (fX9_draw x).1).1 else (2, (crD 1 S L (S (10 + k)) (oth S (S (10 + k)) (wen S k)) fe sa 0 d h), (fX9_draw (fX9_draw x).1).1)) else (1, (crD 1 S L (S (10 + k)) (oth S (S (10 + k)) (wen S k)) fe sa 0 d h), (fX9_draw x).1) := rfl
set_option maxHeartbeats 400000 in
theorem drw_nn {x : Int32} (h : 0 ≤ x.toInt) : 0 ≤ (fX9_draw x).1.toInt := (draw_x (S := fun _ => x) h).2
set_option maxHeartbeats 400000 in
theorem vnP_x {S : Nat → Int32} {L : Cls} {fe sa : Int32} : ∀ (n k : Nat) (d h x : Int32), 0 ≤ x.toInt → 0 ≤ (vnP S L fe sa n k d h x).2.2.toInt
  | 0, _, _, _, _, x0 => x0
  | n + 1, k, d, h, x, x0 => by
    rw [vnP_s]
    split
    · split
      · exact vnP_x n (k + 1) _ _ _ (drw_nn (drw_nn x0))
      · exact drw_nn (drw_nn x0)
    · exact drw_nn x0
set_option maxHeartbeats 400000 in
theorem vnP_f {S : Nat → Int32} {L : Cls} {fe sa : Int32} : ∀ (n k : Nat) (d h x : Int32), (vnP S L fe sa n k d h x).1 = 0 ∨ (vnP S L fe sa n k d h x).1 = 1 ∨ (vnP S L fe sa n k d h x).1 = 2
  | 0, _, _, _, _ => Or.inl rfl
  | n + 1, k, d, h, x => by
    rw [vnP_s]
    split
    · split
      · exact vnP_f n (k + 1) _ _ _
      · exact Or.inr (Or.inr rfl)
    · exact Or.inr (Or.inl rfl)
def ngS (S : Nat → Int32) (L : Cls) (fe sa d h : Int32) : Nat → Int32 → Int32 → Int32 → Int32 → Int32 × Int32 × Int32
  | 0, _, a, b, c => (a, b, c)
  | n + 1, x, a, b, c => if (vnP S L fe sa (S 9).toNatClampNeg 0 d h x).1 = 0 then ngS S L fe sa d h n (vnP S L fe sa (S 9).toNatClampNeg 0 d h x).2.2 (a + 1) (b + (vnP S L fe sa (S 9).toNatClampNeg 0 d h x).2.1) c else if (vnP S L fe sa (S 9).toNatClampNeg 0 d h x).1 = 1 then ngS S L fe sa d h n (vnP S L fe sa (S 9).toNatClampNeg 0 d h x).2.2 a b (c + 1) else ngS S L fe sa d h n (vnP S L fe sa (S 9).toNatClampNeg 0 d h x).2.2 a b c
def ngA (S : Nat → Int32) (L : Cls) (j d n w : Int32) : Int32 := if hs j (S 2) = 0 then -1 else if S 8 = -1 then -1 else if wi d 99999 = 0 then -1 else if n < 1 then -1 else if 20 < n then -1 else if wi w 2 = 0 then -1 else if w = 0 then (ngS S L (S (168 + 9 * j.toNatClampNeg + 0)) (S (168 + 9 * j.toNatClampNeg + 1)) d (S 5) n.toNatClampNeg (S 7) 0 0 0).1 else if w = 1 then (ngS S L (S (168 + 9 * j.toNatClampNeg + 0)) (S (168 + 9 * j.toNatClampNeg + 1)) d (S 5) n.toNatClampNeg (S 7) 0 0 0).2.1 else (ngS S L (S (168 + 9 * j.toNatClampNeg + 0)) (S (168 + 9 * j.toNatClampNeg + 1)) d (S 5) n.toNatClampNeg (S 7) 0 0 0).2.2
set_option maxHeartbeats 400000 in
theorem cls_ven {S nF pF wF so s1 s2 t1 t2 yj yo y1 y2 y3 y4 y5 : Nat → Int32} {zp zw z fe sa yc : Int32} {L : Cls} (g : GD S) (x : XT S) (h8 : ¬ S 8 < 0) (hL : LWX so s1 s2 t1 t2 yj yo y1 y2 y3 y4 y5 yc L) (hn : NE nF S) (hp : PE pF S) (hw : WE wF S) (ezp : zp = S 1) (ezw : zw = S 9) (hz : z = S 6) : ∀ (n N : Nat) (d h b1 b2 b3 y i : Int32) (c : Nat → Int32), 0 ≤ i.toInt → i.toInt + n = (S 9).toInt → n < N → ∃ h' b1' b2' b3' c', fl_mX7_venture_10 0 1 fe sa nF zp pF zw wF z so s1 s2 t1 t2 yj yo y1 y2 y3 y4 y5 yc (fun (w70_0_0 : Int32) (w70_1_0 : Int32) (w70_2_0 : Int32) (w70_3_0 : Int32) (w70_4_0 : Int32) (w70_5_0 : Nat → Int32) (w70_6_0 : Int32) (w70_7_0 : Int32) (w70_8_0 : Int32) (w70_9_0 : Int32) => (w70_0_0, w70_1_0, w70_2_0, w70_3_0, w70_4_0, w70_5_0, w70_6_0, 1)) (fun (w126_0_0 : Int32) (w126_1_0 : Int32) (w126_2_0 : Int32) (w126_3_0 : Int32) (w126_4_0 : Int32) (w126_5_0 : Nat → Int32) (w126_6_0 : Int32) (w126_7_0 : Int32) (w126_8_0 : Int32) (w126_9_0 : Int32) => (w126_0_0, w126_1_0, w126_2_0, w126_3_0, w126_4_0, w126_5_0, w126_6_0, 2)) (fun (w134_0_0 : Int32) (w134_1_0 : Int32) (w134_2_0 : Int32) (w134_3_0 : Int32) (w134_4_0 : Int32) (w134_5_0 : Nat → Int32) (w134_6_0 : Int32) (w134_7_0 : Int32) (w134_8_0 : Int32) => (w134_0_0, w134_1_0, w134_2_0, w134_3_0, w134_4_0, w134_5_0, w134_6_0, 0)) N d h b1 b2 b3 c y i (wen S i.toNatClampNeg) = ((vnP S L fe sa n i.toNatClampNeg d h y).2.1, h', b1', b2', b3', c', (vnP S L fe sa n i.toNatClampNeg d h y).2.2, (vnP S L fe sa n i.toNatClampNeg d h y).1) := by
  have b9 := GD_9 g
  intro n
  induction n with
  | zero =>
    intro N d h b1 b2 b3 y i c i0 iz hN
    obtain ⟨N, rfl⟩ : ∃ m, N = m + 1 := ⟨N - 1, by omega⟩
    have e : i = zw := by rw [ezw]; exact Int32.toInt_inj.mp (by omega)
    refine ⟨h, b1, b2, b3, c, ?_⟩
    unfold fl_mX7_venture_10 fb_mX7_venture_10
    rw [if_pos (by rw [e]; exact Int32.le_refl _)]
    rfl
  | succ n ih =>
    intro N d h b1 b2 b3 y i c i0 iz hN
    obtain ⟨N, rfl⟩ : ∃ m, N = m + 1 := ⟨N - 1, by omega⟩
    have ti := tn_eq i0
    have ei : (i + 1).toInt = i.toInt + 1 := zadd1 (by omega)
    have ht1 : (i + 1).toNatClampNeg = i.toNatClampNeg + 1 := by show (i + 1).toInt.toNat = i.toInt.toNat + 1; omega
    have hlt : ¬ zw ≤ i := by rw [ezw, Int32.le_iff_toInt_le]; omega
    obtain ⟨r1, r2, r3, r4⟩ := way_in (k := i.toNatClampNeg) g x h8 (by omega)
    have p20 : (S (10 + i.toNatClampNeg)).toInt < 20 := by have := r1.2.1; have := r1.2.2.1; omega
    obtain ⟨q1, q2, q3, c', q, qw⟩ := cls_cross (cF := c) (nd := 1) (mo := 0) (fe := fe) (sa := sa) (d := d) (h := h) hL hn hp ezp hz r1 r3 r4
    have w3 := nw_load (a2 := crD 1 S L (S (10 + i.toNatClampNeg)) (oth S (S (10 + i.toNatClampNeg)) (wen S i.toNatClampNeg)) fe sa 0 d h) (b2 := fe) (d2 := sa) qw
    obtain ⟨h', b1', b2', b3', c2_, r⟩ := ih N (crD 1 S L (S (10 + i.toNatClampNeg)) (oth S (S (10 + i.toNatClampNeg)) (wen S i.toNatClampNeg)) fe sa 0 d h) (crH S (S (10 + i.toNatClampNeg)) h) q1 q2 q3 (fX9_draw (fX9_draw y).1).1 (i + 1) (fX4_setLoad c' (crD 1 S L (S (10 + i.toNatClampNeg)) (oth S (S (10 + i.toNatClampNeg)) (wen S i.toNatClampNeg)) fe sa 0 d h) fe sa) (by omega) (by omega) (by omega)
    rw [ht1] at r
    rw [vnP_s]
    unfold fl_mX7_venture_10 fb_mX7_venture_10
    rw [if_neg hlt, bndv (get_w hw i0 (by omega)), bndv q, bnd_eq, bnd_eq, bnd_eq, bnd_eq, bnd_eq, bnd_eq, bnd_eq, bnd_eq, bnd_eq, bnd_eq, bnd_eq, bndv (pget (c := 4) hp r1.1 p20 (by decide) (by decide))]
    by_cases c1 : S (68 + 5 * (S (10 + i.toNatClampNeg)).toNatClampNeg + 4) ≤ dr3 (fX9_draw y).2
    · rw [if_pos c1, if_pos (show S (68 + 5 * (S (10 + i.toNatClampNeg)).toNatClampNeg + 4) ≤ (fX9_draw y).2 - (fX9_draw y).2 / 1000 * 1000 from c1), bnd_eq, bnd_eq, bnd_eq, bnd_eq, bnd_eq, bndv (hL _ _ 3 (by decide) w3), bnd_eq]
      by_cases c2 : fX10_held (lsm (nwd S (crH S (S (10 + i.toNatClampNeg)) h) (oth S (S (10 + i.toNatClampNeg)) (wen S i.toNatClampNeg)) (crD 1 S L (S (10 + i.toNatClampNeg)) (oth S (S (10 + i.toNatClampNeg)) (wen S i.toNatClampNeg)) fe sa 0 d h) fe sa) 3 L) 1000 ≤ dr3 (fX9_draw (fX9_draw y).1).2
      · rw [if_pos c2, if_pos (show fX10_held (lsm (nwd S (crH S (S (10 + i.toNatClampNeg)) h) (oth S (S (10 + i.toNatClampNeg)) (wen S i.toNatClampNeg)) (crD 1 S L (S (10 + i.toNatClampNeg)) (oth S (S (10 + i.toNatClampNeg)) (wen S i.toNatClampNeg)) fe sa 0 d h) fe sa) 3 L) 1000 ≤ (fX9_draw (fX9_draw y).1).2 - (fX9_draw (fX9_draw y).1).2 / 1000 * 1000 from c2), bnd_eq]
        exact ⟨h', b1', b2', b3', c2_, r⟩
      · rw [if_neg c2, if_neg (show ¬ fX10_held (lsm (nwd S (crH S (S (10 + i.toNatClampNeg)) h) (oth S (S (10 + i.toNatClampNeg)) (wen S i.toNatClampNeg)) (crD 1 S L (S (10 + i.toNatClampNeg)) (oth S (S (10 + i.toNatClampNeg)) (wen S i.toNatClampNeg)) fe sa 0 d h) fe sa) 3 L) 1000 ≤ (fX9_draw (fX9_draw y).1).2 - (fX9_draw (fX9_draw y).1).2 / 1000 * 1000 from c2)]
        exact ⟨_, _, _, _, _, rfl⟩
    · rw [if_neg c1, if_neg (show ¬ S (68 + 5 * (S (10 + i.toNatClampNeg)).toNatClampNeg + 4) ≤ (fX9_draw y).2 - (fX9_draw y).2 / 1000 * 1000 from c1)]
      exact ⟨_, _, _, _, _, rfl⟩
set_option maxHeartbeats 400000 in
theorem cls_vent {S cF nF pF wF so s1 s2 t1 t2 yj yo y1 y2 y3 y4 y5 : Nat → Int32} {zp zw ws z fe sa yc d h y b1 b2 b3 : Int32} {L : Cls} (g : GD S) (x : XT S) (h8 : ¬ S 8 < 0) (hL : LWX so s1 s2 t1 t2 yj yo y1 y2 y3 y4 y5 yc L) (hn : NE nF S) (hp : PE pF S) (hw : WE wF S) (ezp : zp = S 1) (ezw : zw = S 9) (ews : ws = S 8) (hz : z = S 6) : ∃ h' b1' b2' b3' c', fX7_venture d h 0 1 fe sa cF b1 b2 b3 nF zp pF zw wF ws z y so s1 s2 t1 t2 yj yo y1 y2 y3 y4 y5 yc = ((vnP S L fe sa (S 9).toNatClampNeg 0 d h y).2.1, h', b1', b2', b3', c', (vnP S L fe sa (S 9).toNatClampNeg 0 d h y).2.2, (vnP S L fe sa (S 9).toNatClampNeg 0 d h y).1) := by
  have b9 := GD_9 g
  have t9 := tn_eq b9.1
  have r := cls_ven (fe := fe) (sa := sa) g x h8 hL hn hp hw ezp ezw hz (S 9).toNatClampNeg (((zw : Int32).toInt - (0 : Int32).toInt).toNat + 1) d h b1 b2 b3 y 0 cF (by decide) (by rw [z_i0]; omega) (by rw [z_i0, ezw]; omega)
  have e8 : wen S (0 : Int32).toNatClampNeg = ws := ews.symm
  rw [e8] at r
  unfold fX7_venture
  exact r
set_option maxHeartbeats 400000 in
theorem cls_ng {S nF pF wF so s1 s2 t1 t2 yj yo y1 y2 y3 y4 y5 : Nat → Int32} {zp zw ws now z fe sa yc d n w : Int32} {L : Cls} {E : Int32 → Int32 → Int32 → Int32 → Int32 → Int32 → Int32 → Int32 → Int32 → Int32 → (Nat → Int32) → (Nat → Int32) → Int32 → (Int32 × Int32 × Int32 × Int32 × Int32 × Int32 × Int32 × Int32 × Int32 × Int32 × (Nat → Int32) × Int32)} (k1 : ∀ a0 a1 a2 a3 a4 a5 a6 a7 a8 a9 c f i, (E a0 a1 a2 a3 a4 a5 a6 a7 a8 a9 c f i).2.2.2.2.2.2.2.2.2.2.2 = f w.toNatClampNeg) (g : GD S) (x : XT S) (h8 : ¬ S 8 < 0) (hL : LWX so s1 s2 t1 t2 yj yo y1 y2 y3 y4 y5 yc L) (hn : NE nF S) (hp : PE pF S) (hw : WE wF S) (ezp : zp = S 1) (ezw : zw = S 9) (ews : ws = S 8) (hz : z = S 6) (n20 : n.toInt ≤ 20) (w2 : ¬ wi w 2 = 0) : ∀ (m N : Nat) (y a1 a2 a3 a4 a5 a6 a7 a8 a9 i : Int32) (c f : Nat → Int32), 0 ≤ i.toInt → i.toInt + m = n.toInt → m < N → (fl_mX10_nights_yes_140 nF zp pF zw wF ws now z so s1 s2 t1 t2 yj yo y1 y2 y3 y4 y5 yc d n fe sa E N y a1 a2 a3 a4 a5 a6 a7 a8 a9 c f i).2.2.2.2.2.2.2.2.2.2.2 = if w = 0 then (ngS S L fe sa d now m y (f 0) (f 1) (f 2)).1 else if w = 1 then (ngS S L fe sa d now m y (f 0) (f 1) (f 2)).2.1 else (ngS S L fe sa d now m y (f 0) (f 1) (f 2)).2.2 := by
  intro m
  induction m with
  | zero =>
    intro N y a1 a2 a3 a4 a5 a6 a7 a8 a9 i c f i0 iz hN
    obtain ⟨N, rfl⟩ : ∃ m, N = m + 1 := ⟨N - 1, by omega⟩
    show (fb_mX10_nights_yes_140 nF zp pF zw wF ws now z so s1 s2 t1 t2 yj yo y1 y2 y3 y4 y5 yc d n fe sa E (fl_mX10_nights_yes_140 nF zp pF zw wF ws now z so s1 s2 t1 t2 yj yo y1 y2 y3 y4 y5 yc d n fe sa E N) y a1 a2 a3 a4 a5 a6 a7 a8 a9 c f i).2.2.2.2.2.2.2.2.2.2.2 = _
    unfold fb_mX10_nights_yes_140
    rw [if_pos (show n ≤ i by rw [Int32.le_iff_toInt_le]; omega), k1]
    obtain ⟨r0, r1⟩ := wi_r w2
    rw [show (2 : Int32).toInt = 2 from by decide] at r1
    have tw := tn_eq r0
    unfold ngS
    by_cases c0 : w = 0
    · rw [if_pos c0, c0]; rfl
    · by_cases c1 : w = 1
      · rw [if_neg c0, if_pos c1, c1]; rfl
      · have z0 : ¬ w.toInt = 0 := fun q => c0 (Int32.toInt_inj.mp (by rw [q]; rfl))
        have z1 : ¬ w.toInt = 1 := fun q => c1 (Int32.toInt_inj.mp (by rw [q]; rfl))
        rw [if_neg c0, if_neg c1, show w.toNatClampNeg = 2 from by omega]
  | succ m ih =>
    intro N y a1 a2 a3 a4 a5 a6 a7 a8 a9 i c f i0 iz hN
    obtain ⟨N, rfl⟩ : ∃ m, N = m + 1 := ⟨N - 1, by omega⟩
    have ei : (i + 1).toInt = i.toInt + 1 := zadd1 (by omega)
    obtain ⟨h', b1', b2', b3', c', q⟩ := cls_vent (cF := c) (fe := fe) (sa := sa) (d := d) (h := now) (y := y) (b1 := a7) (b2 := a8) (b3 := a9) g x h8 hL hn hp hw ezp ezw ews hz
    have hf := vnP_f (S := S) (L := L) (fe := fe) (sa := sa) (S 9).toNatClampNeg 0 d now y
    show (fb_mX10_nights_yes_140 nF zp pF zw wF ws now z so s1 s2 t1 t2 yj yo y1 y2 y3 y4 y5 yc d n fe sa E (fl_mX10_nights_yes_140 nF zp pF zw wF ws now z so s1 s2 t1 t2 yj yo y1 y2 y3 y4 y5 yc d n fe sa E N) y a1 a2 a3 a4 a5 a6 a7 a8 a9 c f i).2.2.2.2.2.2.2.2.2.2.2 = _
    unfold fb_mX10_nights_yes_140 ngS
    rw [if_neg (show ¬ n ≤ i by rw [Int32.le_iff_toInt_le]; omega), bndv q, bnd_eq, bnd_eq, bnd_eq, bnd_eq, bnd_eq, bnd_eq, bnd_eq, bnd_eq]
    generalize vnP S L fe sa (S 9).toNatClampNeg 0 d now y = r at hf ⊢
    rcases hf with e | e | e
    · rw [if_pos e, if_pos e, bnd_eq, bnd_eq, bnd_eq, c_k0, c_k1]
      rw [ih N _ _ _ _ _ _ _ _ _ _ _ _ _ (by omega) (by omega) (by omega)]
      rw [upd_ne (i := 1) (j := 0) (by decide), pk_us, pk_us, upd_ne (i := 0) (j := 1) (by decide), upd_ne (i := 1) (j := 2) (by decide), upd_ne (i := 0) (j := 2) (by decide)]
    · rw [if_neg (show ¬ r.1 = 0 by rw [e]; decide), if_neg (show ¬ r.1 = 0 by rw [e]; decide), if_pos e, if_pos e, bnd_eq, bnd_eq, c_k2]
      rw [ih N _ _ _ _ _ _ _ _ _ _ _ _ _ (by omega) (by omega) (by omega)]
      rw [upd_ne (i := 2) (j := 0) (by decide), upd_ne (i := 2) (j := 1) (by decide), pk_us]
    · rw [if_neg (show ¬ r.1 = 0 by rw [e]; decide), if_neg (show ¬ r.1 = 0 by rw [e]; decide), if_neg (show ¬ r.1 = 1 by rw [e]; decide), if_neg (show ¬ r.1 = 1 by rw [e]; decide), bnd_eq]
      exact ih N _ _ _ _ _ _ _ _ _ _ _ _ _ (by omega) (by omega) (by omega)
set_option maxHeartbeats 400000 in
theorem nights_c {S cF nF pF jF wF so s1 s2 t1 t2 yj yo y1 y2 y3 y4 y5 : Nat → Int32} {zp zj zw ws now z xx yc j d n w b1 b2 b3 e1 e2 e3 e4 e5 e6 : Int32} {L : Cls} (g : GD S) (x : XT S) (hL : LWX so s1 s2 t1 t2 yj yo y1 y2 y3 y4 y5 yc L) (hn : NE nF S) (hp : PE pF S) (hJ : JE jF S) (hw : WE wF S) (ezp : zp = S 1) (ezj : zj = S 2) (ezw : zw = S 9) (ews : ws = S 8) (en : now = S 5) (hz : z = S 6) (ex : xx = S 7) : (fX10_nights_yes nF zp pF zj jF zw wF ws now z xx cF b1 b2 b3 e1 e2 e3 e4 e5 e6 so s1 s2 t1 t2 yj yo y1 y2 y3 y4 y5 yc j d n w).2.2.2.2.2.2.2.2.2.2.2 = ngA S L j d n w := by
  unfold fX10_nights_yes ngA
  rw [ezj, ews]
  by_cases a1 : hs j (S 2) = 0
  · rw [if_pos a1, if_pos a1]
    repeat' split
    all_goals rfl
  · rw [if_neg a1, if_neg a1]
    by_cases a2 : S 8 = -1
    · rw [if_pos a2, if_pos a2]
      repeat' split
      all_goals rfl
    · rw [if_neg a2, if_neg a2]
      by_cases a3 : wi d 99999 = 0
      · rw [if_pos a3, if_pos a3]
      · rw [if_neg a3, if_neg a3]
        by_cases a4 : n < 1
        · rw [if_pos a4, if_pos a4]
        · rw [if_neg a4, if_neg a4]
          by_cases a5 : 20 < n
          · rw [if_pos a5, if_pos a5]
          · rw [if_neg a5, if_neg a5]
            by_cases a6 : wi w 2 = 0
            · rw [if_pos a6, if_pos a6]
            · have hj := hs_j g.2.1 rfl a1
              have n0 := i_ge a4
              have n1 := i_le a5
              rw [i1] at n0
              rw [show (20 : Int32).toInt = 20 from by decide] at n1
              have tn := tn_eq (a := n) (by omega)
              rw [if_neg a6, if_neg a6, bnd_eq, bnd_eq, bnd_eq, bndv (jg5 hJ hj), bndv (jg6 hJ hj)]
              refine (cls_ng (fe := S (168 + 9 * j.toNatClampNeg + 0)) (sa := S (168 + 9 * j.toNatClampNeg + 1)) (w := w) (fun _ _ _ _ _ _ _ _ _ _ _ _ _ => rfl) g x (fun y => a2 ((s8_neg g).mp y)) hL hn hp hw ezp ezw rfl hz n1 a6 n.toNatClampNeg _ _ _ _ _ _ _ _ _ _ _ _ _ _ (by decide) (by rw [z_i0]; omega) (by rw [z_i0]; omega)).trans ?_
              rw [← en, ← ex]
              rfl
set_option maxHeartbeats 400000 in
theorem nwd_7 {S U : Nat → Int32} {h n a b c : Int32} (k : K7 S U) : nwd U h n a b c = nwd S h n a b c := by
  unfold nwd
  rw [k 6 (by omega), k (20 + 4 * n.toNatClampNeg) (by omega), k (20 + 4 * n.toNatClampNeg + 2) (by omega)]
set_option maxHeartbeats 400000 in
theorem oth_7 {S U : Nat → Int32} {p n : Int32} (k : K7 S U) (p0 : 0 ≤ p.toInt) (p1 : p.toInt < 20) : oth U p n = oth S p n := oth_ag (fun i i0 i1 => k i (by omega)) p0 p1
set_option maxHeartbeats 400000 in
theorem pwd_7 {S U : Nat → Int32} {h p to g a b c : Int32} (k : K7 S U) (p0 : 0 ≤ p.toInt) (p1 : p.toInt < 20) : pwd U h p to g a b c = pwd S h p to g a b c := by
  unfold pwd pht
  rw [k 6 (by omega), oth_7 k p0 p1, k (20 + 4 * (oth S p to).toNatClampNeg) (by omega), k (20 + 4 * to.toNatClampNeg) (by omega), k (68 + 5 * p.toNatClampNeg + 2) (by omega), k (68 + 5 * p.toNatClampNeg + 3) (by omega)]
set_option maxHeartbeats 400000 in
theorem hrN_7 {nd : Int32} {S U : Nat → Int32} {L : Cls} {p to fe sa mo : Int32} (k : K7 S U) (p0 : 0 ≤ p.toInt) (p1 : p.toInt < 20) : ∀ (n : Nat) (g d h : Int32), hrN nd U L p to fe sa mo n g d h = hrN nd S L p to fe sa mo n g d h
  | 0, _, _, _ => rfl
  | n + 1, g, d, h => by
    show hrN nd U L p to fe sa mo n (g + 1) (if d < nd then d else d - mltw (pwd U h p to g d fe sa) L mo d) (h + 1) = hrN nd S L p to fe sa mo n (g + 1) (if d < nd then d else d - mltw (pwd S h p to g d fe sa) L mo d) (h + 1)
    rw [pwd_7 k p0 p1]
    exact hrN_7 k p0 p1 n _ _ _
set_option maxHeartbeats 400000 in
theorem crD_7 {nd : Int32} {S U : Nat → Int32} {L : Cls} {p to fe sa mo d h : Int32} (k : K7 S U) (p0 : 0 ≤ p.toInt) (p1 : p.toInt < 20) : crD nd U L p to fe sa mo d h = crD nd S L p to fe sa mo d h ∧ crH U p h = crH S p h := by
  unfold crD crE crH
  rw [k (68 + 5 * p.toNatClampNeg + 2) (by omega), hrN_7 k p0 p1, nwd_7 k]
  exact ⟨rfl, rfl⟩
set_option maxHeartbeats 400000 in
theorem rP_7 {S U : Nat → Int32} {p : Int32} (k : K7 S U) (h : rP S p) : rP U p := rP_ag h (k 1 (by omega)) (fun i i0 i1 => k i (by omega))
set_option maxHeartbeats 400000 in
theorem ref_ven {S sg cl cs : Nat → Int32} {law fe sa : Int32} {L : Cls} {E : (Nat → Int64) → (Nat → Int64) → (Nat → Int32) → Int32 → Int32 → Int32 → Int32 → Int32 → Int32 → Int32 → (Int32 × Int32 × Int32 × Int32 × Int32 × Int32 × Int32 × (Nat → Int64) × (Nat → Int64) × (Nat → Int32) × Int32)} (g : GD S) (x : XT S) (h8 : ¬ S 8 < 0) (hL : LWR sg cl cs law L) : ∀ (n N : Nat) (v d h i st : Int32) (g1 g2 : Nat → Int64) (U : Nat → Int32), K7 S U → 0 ≤ (U 7).toInt → 0 ≤ d.toInt → d.toInt ≤ 99999 → 0 ≤ i.toInt → i.toInt + n = (S 9).toInt → n < N → ∃ v' g1' g2' U' n' h' i', fl_mX11_nights_130 sg cl cs (S 6) (S 9) law fe sa 0 E N g1 g2 U v (wen S i.toNatClampNeg) d h i 1 st = E g1' g2' U' v' n' (vnP S L fe sa n i.toNatClampNeg d h (U 7)).2.1 h' i' (if (vnP S L fe sa n i.toNatClampNeg d h (U 7)).1 = 0 then 1 else 0) (if (vnP S L fe sa n i.toNatClampNeg d h (U 7)).1 = 1 then st + 1 else st) ∧ K7 S U' ∧ U' 7 = (vnP S L fe sa n i.toNatClampNeg d h (U 7)).2.2 := by
  have b9 := GD_9 g
  have ex0 : ∀ (N : Nat) (v nn d h i st : Int32) (g1 g2 : Nat → Int64) (U : Nat → Int32), fl_mX11_nights_130 sg cl cs (S 6) (S 9) law fe sa 0 E (N + 1) g1 g2 U v nn d h i 0 st = E g1 g2 U v nn d h i 0 st := by
    intro N v nn d h i st g1 g2 U
    show fb_mX11_nights_130 sg cl cs (S 6) (S 9) law fe sa 0 E (fl_mX11_nights_130 sg cl cs (S 6) (S 9) law fe sa 0 E N) g1 g2 U v nn d h i 0 st = _
    unfold fb_mX11_nights_130
    by_cases c : S 9 ≤ i
    · rw [if_pos c]
    · rw [if_neg c, if_pos rfl]
  intro n
  induction n with
  | zero =>
    intro N v d h i st g1 g2 U hk u0 d0 d9 i0 iz hN
    obtain ⟨N, rfl⟩ : ∃ m, N = m + 1 := ⟨N - 1, by omega⟩
    have e : i = S 9 := Int32.toInt_inj.mp (by omega)
    refine ⟨v, g1, g2, U, wen S i.toNatClampNeg, h, i, ?_, hk, rfl⟩
    show fb_mX11_nights_130 sg cl cs (S 6) (S 9) law fe sa 0 E (fl_mX11_nights_130 sg cl cs (S 6) (S 9) law fe sa 0 E N) g1 g2 U v (wen S i.toNatClampNeg) d h i 1 st = _
    unfold fb_mX11_nights_130
    rw [if_pos (show S 9 ≤ i by rw [e]; exact Int32.le_refl _)]
    rfl
  | succ n ih =>
    intro N v d h i st g1 g2 U hk u0 d0 d9 i0 iz hN
    obtain ⟨N, rfl⟩ : ∃ m, N = m + 2 := ⟨N - 2, by omega⟩
    have ti := tn_eq i0
    have ei : (i + 1).toInt = i.toInt + 1 := zadd1 (by omega)
    have ht1 : (i + 1).toNatClampNeg = i.toNatClampNeg + 1 := by show (i + 1).toInt.toNat = i.toInt.toNat + 1; omega
    obtain ⟨r1, r2, r3, r4⟩ := way_in (k := i.toNatClampNeg) g x h8 (by omega)
    have p20 : (S (10 + i.toNatClampNeg)).toInt < 20 := by have := r1.2.1; have := r1.2.2.1; omega
    have o1 := oth_7 (n := wen S i.toNatClampNeg) hk r1.1 p20
    have o2 := oth_7 (n := oth S (S (10 + i.toNatClampNeg)) (wen S i.toNatClampNeg)) hk r1.1 p20
    obtain ⟨v1, k1, k2, q⟩ := ref_travels (S := U) (sk := g1) (wd := g2) (top := v) (node := wen S i.toNatClampNeg) (mo := 0) (fe := fe) (sa := sa) (h := h) hL (rP_7 hk r1) (by rw [o1]; exact r3) (by rw [o1, o2]; exact r4) d0 d9
    rw [o1, (crD_7 hk r1.1 p20).1, (crD_7 (L := L) (nd := 1) (to := 0) (fe := 0) (sa := 0) (mo := 0) (d := 0) (h := h) hk r1.1 p20).2, hk 6 (by omega)] at q
    have a := crD_in (nd := 1) (S := S) (L := L) (pass := S (10 + i.toNatClampNeg)) (to := oth S (S (10 + i.toNatClampNeg)) (wen S i.toNatClampNeg)) (fe := fe) (sa := sa) (mo := 0) (h := h) d0 d9
    have e10 : U (10 + i).toNatClampNeg = S (10 + i.toNatClampNeg) := by rw [ten i0 (by omega)]; exact hk _ (by omega)
    obtain ⟨dx, dn⟩ := draw_x u0
    have k1' : K7 S (upd U 7 (fX9_draw (U 7)).1) := fun j hj => by rw [upd_ne (fun q => hj q.symm)]; exact hk j hj
    have e11 : upd U 7 (fX9_draw (U 7)).1 (10 + i).toNatClampNeg = S (10 + i.toNatClampNeg) := by rw [ten i0 (by omega)]; exact k1' _ (by omega)
    have e12 : upd U 7 (fX9_draw (U 7)).1 (68 + 5 * S (10 + i.toNatClampNeg) + 4).toNatClampNeg = S (68 + 5 * (S (10 + i.toNatClampNeg)).toNatClampNeg + 4) := by rw [c_ps (c := 4) r1.1 p20 (by decide) (by decide)]; exact k1' _ (by omega)
    rw [vnP_s]
    show ∃ v' g1' g2' U' n' h' i', fb_mX11_nights_130 sg cl cs (S 6) (S 9) law fe sa 0 E (fl_mX11_nights_130 sg cl cs (S 6) (S 9) law fe sa 0 E (N + 1)) g1 g2 U v (wen S i.toNatClampNeg) d h i 1 st = _ ∧ _
    unfold fb_mX11_nights_130
    rw [if_neg (show ¬ S 9 ≤ i by rw [Int32.le_iff_toInt_le]; omega), if_neg (show ¬ (1 : Int32) = 0 by decide), bndv e10, bndv q, bnd_eq, bnd_eq, bnd_eq, bnd_eq, bnd_eq, bnd_eq, bndv dx, bnd_eq, bnd_eq, bndv e11]
    simp only [e12]
    by_cases c1 : S (68 + 5 * (S (10 + i.toNatClampNeg)).toNatClampNeg + 4) ≤ dr3 (fX9_draw (U 7)).2
    · rw [if_pos c1, if_neg (show ¬ (fX9_draw (U 7)).2 - (fX9_draw (U 7)).2 / 1000 * 1000 < S (68 + 5 * (S (10 + i.toNatClampNeg)).toNatClampNeg + 4) from fun y => Int32.not_le.mpr y c1), bndv (Int32.add_zero st), bnd_eq]
      have hw := ref_nw (w := k2) (S := upd U 7 (fX9_draw (U 7)).1) (hour := crH S (S (10 + i.toNatClampNeg)) h) (dr := crD 1 S L (S (10 + i.toNatClampNeg)) (oth S (S (10 + i.toNatClampNeg)) (wen S i.toNatClampNeg)) fe sa 0 d h) (fe := fe) (sa := sa) r3
      rw [k1' 6 (by omega), nwd_7 k1'] at hw
      have eh := hL _ _ k1 v1 3 (by decide) hw
      obtain ⟨dx2, dn2⟩ := draw_x (S := upd U 7 (fX9_draw (U 7)).1) (by rw [pk_us]; exact dn)
      rw [pk_us] at dx2 dn2
      rw [bndv dx2, bnd_eq, bnd_eq, bnd_eq, bnd_eq, bnd_eq, bndv eh, bnd_eq]
      have uu : upd (upd U 7 (fX9_draw (U 7)).1) 7 (fX9_draw (fX9_draw (U 7)).1).1 = upd U 7 (fX9_draw (fX9_draw (U 7)).1).1 := upd_upd
      have k2' : K7 S (upd U 7 (fX9_draw (fX9_draw (U 7)).1).1) := fun j hj => by rw [upd_ne (fun q => hj q.symm)]; exact hk j hj
      rw [uu]
      have hc := held_cmp (x := lsm (nwd S (crH S (S (10 + i.toNatClampNeg)) h) (oth S (S (10 + i.toNatClampNeg)) (wen S i.toNatClampNeg)) (crD 1 S L (S (10 + i.toNatClampNeg)) (oth S (S (10 + i.toNatClampNeg)) (wen S i.toNatClampNeg)) fe sa 0 d h) fe sa) 3 L) (r := (fX9_draw (fX9_draw (U 7)).1).2 - (fX9_draw (fX9_draw (U 7)).1).2 / 1000 * 1000)
      by_cases c2 : fX10_held (lsm (nwd S (crH S (S (10 + i.toNatClampNeg)) h) (oth S (S (10 + i.toNatClampNeg)) (wen S i.toNatClampNeg)) (crD 1 S L (S (10 + i.toNatClampNeg)) (oth S (S (10 + i.toNatClampNeg)) (wen S i.toNatClampNeg)) fe sa 0 d h) fe sa) 3 L) 1000 ≤ dr3 (fX9_draw (fX9_draw (U 7)).1).2
      · rw [if_pos c2, if_neg (Int32.not_lt.mpr (hc.mpr c2)), bnd_eq]
        have key := fun (v9 : Int32) (g8 g9 : Nat → Int64) => ih (N + 1) v9 (crD 1 S L (S (10 + i.toNatClampNeg)) (oth S (S (10 + i.toNatClampNeg)) (wen S i.toNatClampNeg)) fe sa 0 d h) (crH S (S (10 + i.toNatClampNeg)) h) (i + 1) st g8 g9 (upd U 7 (fX9_draw (fX9_draw (U 7)).1).1) k2' (by rw [pk_us]; exact dn2) a.1 (by omega) (by omega) (by omega) (by omega)
        rw [ht1, pk_us] at key
        exact key _ _ _
      · rw [if_neg c2, if_pos (Int32.not_le.mp (fun y => c2 (hc.mp y))), bnd_eq, ex0]
        exact ⟨_, _, _, _, _, _, _, rfl, k2', (by show upd U 7 (fX9_draw (fX9_draw (U 7)).1).1 7 = (fX9_draw (fX9_draw (U 7)).1).1; exact pk_us)⟩
    · rw [if_neg c1, if_pos (show (fX9_draw (U 7)).2 - (fX9_draw (U 7)).2 / 1000 * 1000 < S (68 + 5 * (S (10 + i.toNatClampNeg)).toNatClampNeg + 4) from Int32.not_le.mp c1), bnd_eq, bnd_eq, ex0]
      exact ⟨_, _, _, _, _, _, _, rfl, k1', pk_us⟩
set_option maxHeartbeats 400000 in
theorem li_120 (p : Int32) : li p.toInt64 1 20 = if p < 1 then 0 else if 20 < p then 0 else 1 := li_if (lo := 1) (hi := 20) (by decide) (by decide)
set_option maxHeartbeats 400000 in
theorem ref_ng {S sg cl cs : Nat → Int32} {law j d n w : Int32} {L : Cls} {E : (Nat → Int64) → (Nat → Int64) → Int32 → Int32 → Int32 → Int32 → Int32 → Int32 → Int32 → (Nat → Int32) → Int32 → Int32 → Int32 → Int32 → (Int32 × Int32 × Int32 × Int32 × Int32 × Int32 × Int32 × (Nat → Int64) × (Nat → Int64) × (Nat → Int32) × Int32)} (k1 : ∀ c1 c2 a0 a1 a2 a3 a4 a5 a6 U i st le co, (E c1 c2 a0 a1 a2 a3 a4 a5 a6 U i st le co).2.2.2.2.2.2.2.2.2.2 = if w = 0 then co else if w = 1 then le else st) (g : GD S) (x : XT S) (h8 : ¬ S 8 < 0) (hL : LWR sg cl cs law L) (hj : rJ j) (d0 : 0 ≤ d.toInt) (d9 : d.toInt ≤ 99999) (n20 : n.toInt ≤ 20) : ∀ (m N : Nat) (c1 c2 : Nat → Int64) (a0 a1 a2 a3 a4 a5 a6 i st le co : Int32) (U : Nat → Int32), K7 S U → 0 ≤ (U 7).toInt → 0 ≤ i.toInt → i.toInt + m = n.toInt → m < N → (fl_mX11_nights_87 sg cl cs (S 6) (S 8) (S 9) law j d n E N c1 c2 a0 a1 a2 a3 a4 a5 a6 U i st le co).2.2.2.2.2.2.2.2.2.2 = if w = 0 then (ngS S L (S (168 + 9 * j.toNatClampNeg + 0)) (S (168 + 9 * j.toNatClampNeg + 1)) d (S 5) m (U 7) co le st).1 else if w = 1 then (ngS S L (S (168 + 9 * j.toNatClampNeg + 0)) (S (168 + 9 * j.toNatClampNeg + 1)) d (S 5) m (U 7) co le st).2.1 else (ngS S L (S (168 + 9 * j.toNatClampNeg + 0)) (S (168 + 9 * j.toNatClampNeg + 1)) d (S 5) m (U 7) co le st).2.2 := by
  have b9 := GD_9 g
  have t9 := tn_eq b9.1
  intro m
  induction m with
  | zero =>
    intro N c1 c2 a0 a1 a2 a3 a4 a5 a6 i st le co U hk u0 i0 iz hN
    obtain ⟨N, rfl⟩ : ∃ m, N = m + 1 := ⟨N - 1, by omega⟩
    show (fb_mX11_nights_87 sg cl cs (S 6) (S 8) (S 9) law j d n E (fl_mX11_nights_87 sg cl cs (S 6) (S 8) (S 9) law j d n E N) c1 c2 a0 a1 a2 a3 a4 a5 a6 U i st le co).2.2.2.2.2.2.2.2.2.2 = _
    unfold fb_mX11_nights_87
    rw [if_pos (show n ≤ i by rw [Int32.le_iff_toInt_le]; omega), k1]
    rfl
  | succ m ih =>
    intro N c1 c2 a0 a1 a2 a3 a4 a5 a6 i st le co U hk u0 i0 iz hN
    obtain ⟨N, rfl⟩ : ∃ m, N = m + 1 := ⟨N - 1, by omega⟩
    have ei : (i + 1).toInt = i.toInt + 1 := zadd1 (by omega)
    have hs1 : fX11_sets (S 8) d (U 5) (U (168 + 9 * j + 0).toNatClampNeg) (U (168 + 9 * j + 1).toNatClampNeg) = (S 8, d, S 5, S (168 + 9 * j.toNatClampNeg + 0), S (168 + 9 * j.toNatClampNeg + 1), 0) := by
      rw [cj0 hj, cj1 hj, hk 5 (by omega), hk _ (by omega), hk (168 + 9 * j.toNatClampNeg + 1) (by omega)]
      rfl
    show (fb_mX11_nights_87 sg cl cs (S 6) (S 8) (S 9) law j d n E (fl_mX11_nights_87 sg cl cs (S 6) (S 8) (S 9) law j d n E N) c1 c2 a0 a1 a2 a3 a4 a5 a6 U i st le co).2.2.2.2.2.2.2.2.2.2 = _
    unfold fb_mX11_nights_87
    rw [if_neg (show ¬ n ≤ i by rw [Int32.le_iff_toInt_le]; omega), bndv hs1, bnd_eq, bnd_eq, bnd_eq, bnd_eq, bnd_eq, bnd_eq]
    have hf := vnP_f (S := S) (L := L) (fe := S (168 + 9 * j.toNatClampNeg + 0)) (sa := S (168 + 9 * j.toNatClampNeg + 1)) (S 9).toNatClampNeg 0 d (S 5) (U 7)
    have hx := vnP_x (S := S) (L := L) (fe := S (168 + 9 * j.toNatClampNeg + 0)) (sa := S (168 + 9 * j.toNatClampNeg + 1)) (S 9).toNatClampNeg 0 d (S 5) (U 7) u0
    obtain ⟨v', g1', g2', U', n', h', i', r, r7, r8⟩ := ref_ven (fe := S (168 + 9 * j.toNatClampNeg + 0)) (sa := S (168 + 9 * j.toNatClampNeg + 1)) (E := fun (w273_0_y87_0 : Nat → Int64) (w273_1_y87_0 : Nat → Int64) (w273_2_y87_0 : Nat → Int32) (w273_3_y87_0 : Int32) (w273_4_y87_0 : Int32) (w273_5_y87_0 : Int32) (w273_6_y87_0 : Int32) (w273_7_y87_0 : Int32) (w273_8_y87_0 : Int32) (w273_9_y87_0 : Int32) => if w273_8_y87_0 = 0 then (bnd ((co + 0)) (fun (xy87_37 : Int32) => bnd ((le + 0)) (fun (xy87_39 : Int32) => bnd ((i + 1)) (fun (xy87_40 : Int32) => fl_mX11_nights_87 sg cl cs (S 6) (S 8) (S 9) law j d n E N w273_0_y87_0 w273_1_y87_0 w273_3_y87_0 w273_4_y87_0 w273_5_y87_0 w273_6_y87_0 (S (168 + 9 * j.toNatClampNeg + 0)) (S (168 + 9 * j.toNatClampNeg + 1)) 0 w273_2_y87_0 xy87_40 w273_9_y87_0 xy87_39 xy87_37)))) else (bnd ((co + 1)) (fun (xy87_41 : Int32) => bnd ((le + w273_5_y87_0)) (fun (xy87_43 : Int32) => bnd ((i + 1)) (fun (xy87_44 : Int32) => fl_mX11_nights_87 sg cl cs (S 6) (S 8) (S 9) law j d n E N w273_0_y87_0 w273_1_y87_0 w273_3_y87_0 w273_4_y87_0 w273_5_y87_0 w273_6_y87_0 (S (168 + 9 * j.toNatClampNeg + 0)) (S (168 + 9 * j.toNatClampNeg + 1)) 0 w273_2_y87_0 xy87_44 w273_9_y87_0 xy87_43 xy87_41))))) g x h8 hL (S 9).toNatClampNeg (((S 9 : Int32).toInt - (0 : Int32).toInt).toNat + 1) a0 d (S 5) 0 st c1 c2 U hk u0 d0 d9 (by decide) (by rw [z_i0]; omega) (by rw [z_i0]; omega)
    refine (congrArg (fun z => z.2.2.2.2.2.2.2.2.2.2) r).trans ?_
    have e0 : (0 : Int32).toNatClampNeg = 0 := c_k0
    rw [e0] at r8 ⊢
    rw [← r8] at hx
    unfold ngS
    generalize vnP S L (S (168 + 9 * j.toNatClampNeg + 0)) (S (168 + 9 * j.toNatClampNeg + 1)) (S 9).toNatClampNeg 0 d (S 5) (U 7) = q at hf r8 ⊢
    rcases hf with e | e | e
    · rw [if_pos e, if_neg (show ¬ q.1 = 1 by rw [e]; decide), if_neg (show ¬ (1 : Int32) = 0 by decide), bnd_eq, bnd_eq, bnd_eq, if_pos e, ← r8]
      exact ih N _ _ _ _ _ _ _ _ _ _ _ _ _ U' r7 hx (by omega) (by omega) (by omega)
    · rw [if_neg (show ¬ q.1 = 0 by rw [e]; decide), if_pos e, if_pos rfl, bndv (Int32.add_zero co), bndv (Int32.add_zero le), bnd_eq, if_neg (show ¬ q.1 = 0 by rw [e]; decide), if_pos e, ← r8]
      exact ih N _ _ _ _ _ _ _ _ _ _ _ _ _ U' r7 hx (by omega) (by omega) (by omega)
    · rw [if_neg (show ¬ q.1 = 0 by rw [e]; decide), if_neg (show ¬ q.1 = 1 by rw [e]; decide), if_pos rfl, bndv (Int32.add_zero co), bndv (Int32.add_zero le), bnd_eq, if_neg (show ¬ q.1 = 0 by rw [e]; decide), if_neg (show ¬ q.1 = 1 by rw [e]; decide), ← r8]
      exact ih N _ _ _ _ _ _ _ _ _ _ _ _ _ U' r7 hx (by omega) (by omega) (by omega)
set_option maxHeartbeats 400000 in
theorem nights_r {S sg cl cs : Nat → Int32} {sk wd : Nat → Int64} {laws top law j d n w f1 f2 f3 f4 f5 f6 : Int32} {L : Cls} (g : GD S) (x : XT S) (hL : LWR sg cl cs law L) (hl : ¬ hs law laws = 0) : (fX11_nights laws top f1 f2 f3 f4 f5 f6 sg cl cs sk wd S (S 2) (S 6) (S 8) (S 9) law j d n w).2.2.2.2.2.2.2.2.2.2 = ngA S L j d n w := by
  unfold fX11_nights ngA
  rw [if_neg hl, li_wj (hi := 99999) (by decide), li_120, li_wj (hi := 2) (by decide)]
  by_cases a1 : hs j (S 2) = 0
  · rw [if_pos a1, if_pos a1]
  · rw [if_neg a1, if_neg a1]
    by_cases a2 : S 8 = -1
    · rw [if_pos a2, if_pos ((s8_neg g).mpr a2)]
    · rw [if_neg a2, if_neg (fun y => a2 ((s8_neg g).mp y))]
      by_cases a3 : wi d 99999 = 0
      · rw [if_pos a3, if_pos a3]
      · rw [if_neg a3, if_neg a3]
        by_cases a4 : n < 1
        · rw [if_pos a4, if_pos a4, if_pos rfl]
        · rw [if_neg a4, if_neg a4]
          by_cases a5 : 20 < n
          · rw [if_pos a5, if_pos a5, if_pos rfl]
          · rw [if_neg a5, if_neg a5, if_neg (by decide)]
            by_cases a6 : wi w 2 = 0
            · rw [if_pos a6, if_pos a6]
            · have hj := hs_j g.2.1 rfl a1
              have dr := wi_r a3
              rw [show (99999 : Int32).toInt = 99999 from by decide] at dr
              have n0 := i_ge a4
              have n1 := i_le a5
              rw [i1] at n0
              rw [show (20 : Int32).toInt = 20 from by decide] at n1
              have tn := tn_eq (a := n) (by omega)
              rw [if_neg a6, if_neg a6, bnd_eq]
              refine (ref_ng (w := w) (fun c1 c2 a0 a1 a2 a3 a4 a5 a6 U i st le co => ?_) g x (fun y => a2 ((s8_neg g).mp y)) hL hj dr.1 dr.2 n1 n.toNatClampNeg _ _ _ _ _ _ _ _ _ _ _ _ _ _ _ (K7_rf S) g.2.1.2.2.2.2.1 (by decide) (by rw [z_i0]; omega) (by rw [z_i0]; omega)).trans rfl
              rw [bnd_eq]
              by_cases b0 : w = 0
              · rw [if_pos b0, if_pos b0]
              · by_cases b1 : w = 1
                · rw [if_neg b0, if_neg b0, if_pos b1, if_pos b1]
                · rw [if_neg b0, if_neg b0, if_neg b1, if_neg b1]
