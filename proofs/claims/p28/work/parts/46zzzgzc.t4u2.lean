set_option maxHeartbeats 400000 in
theorem way_in {S : Nat → Int32} {k : Nat} (g : GD S) (x : XT S) (h8 : ¬ S 8 < 0) (hk : (k : Int) < (S 9).toInt) : rP S (S (10 + k)) ∧ rN (wen S k) ∧ rN (oth S (S (10 + k)) (wen S k)) ∧ rN (oth S (S (10 + k)) (oth S (S (10 + k)) (wen S k))) := by
  have b9 := GD_9 g
  have z8 := i_ge h8
  rw [z_i0] at z8
  obtain ⟨q0, q1⟩ := (GD_wr g).2.2.2.1 k (by omega) hk
  have a0 := x.1 z8 k (by omega)
  have a1 : rN (oth S (S (10 + k)) (wen S k)) := x.1 z8 (k + 1) (by omega)
  have hp := rP_of (GD_sp g) (hs_in q0 q1)
  exact ⟨hp, a0, a1, (oth_in (GD_sp g) hp a1.1).2⟩
set_option maxHeartbeats 400000 in
theorem wyP_0 {nd : Int32} {S : Nat → Int32} {L : Cls} {fe sa mo lst d h : Int32} {k : Nat} : wyP nd S L fe sa mo lst 0 k d h = (d, h) := rfl
set_option maxHeartbeats 400000 in
theorem wyP_s {nd : Int32} {S : Nat → Int32} {L : Cls} {fe sa mo lst d h : Int32} {n k : Nat} : wyP nd S L fe sa mo lst (n + 1) k d h = if d < lst then (d, h) else wyP nd S L fe sa mo lst n (k + 1) (crD nd S L (S (10 + k)) (oth S (S (10 + k)) (wen S k)) fe sa mo d h) (crH S (S (10 + k)) h) := rfl
set_option maxHeartbeats 400000 in
theorem wyP_in {nd : Int32} {S : Nat → Int32} {L : Cls} {fe sa mo lst : Int32} : ∀ (n k : Nat) (d h : Int32), 0 ≤ d.toInt → d.toInt ≤ 99999 → 0 ≤ (wyP nd S L fe sa mo lst n k d h).1.toInt ∧ (wyP nd S L fe sa mo lst n k d h).1.toInt ≤ d.toInt
  | 0, _, d, _, d0, _ => ⟨d0, Int.le_refl _⟩
  | n + 1, k, d, h, d0, d9 => by
    rw [wyP_s]
    split
    · exact ⟨d0, Int.le_refl _⟩
    · have a := crD_in (nd := nd) (S := S) (L := L) (pass := S (10 + k)) (to := oth S (S (10 + k)) (wen S k)) (fe := fe) (sa := sa) (mo := mo) (h := h) d0 d9
      have b := wyP_in (nd := nd) (S := S) (L := L) (fe := fe) (sa := sa) (mo := mo) (lst := lst) n (k + 1) (crD nd S L (S (10 + k)) (oth S (S (10 + k)) (wen S k)) fe sa mo d h) (crH S (S (10 + k)) h) a.1 (by omega)
      exact ⟨b.1, Int.le_trans b.2 a.2⟩
set_option maxHeartbeats 400000 in
theorem cls_way {S nF pF wF so s1 s2 t1 t2 yj yo y1 y2 y3 y4 y5 : Nat → Int32} {zp zw z nd mo fe sa lst yc : Int32} {L : Cls} {E : Int32 → Int32 → Int32 → Int32 → Int32 → (Nat → Int32) → Int32 → Int32 → (Int32 × Int32 × Int32 × Int32 × Int32 × (Nat → Int32) × Int32)} (g : GD S) (x : XT S) (h8 : ¬ S 8 < 0) (hL : LWX so s1 s2 t1 t2 yj yo y1 y2 y3 y4 y5 yc L) (hn : NE nF S) (hp : PE pF S) (hw : WE wF S) (ezp : zp = S 1) (ezw : zw = S 9) (hz : z = S 6) : ∀ (n N : Nat) (d h b1 b2 b3 i : Int32) (c : Nat → Int32), 0 ≤ i.toInt → i.toInt + n = (S 9).toInt → n < N → ∃ b1' b2' b3' c' i' n', fl_mX7_followKeeping_10 mo nd fe sa nF zp pF zw wF z so s1 s2 t1 t2 yj yo y1 y2 y3 y4 y5 yc lst E N d h b1 b2 b3 c i (wen S i.toNatClampNeg) = E (wyP nd S L fe sa mo lst n i.toNatClampNeg d h).1 (wyP nd S L fe sa mo lst n i.toNatClampNeg d h).2 b1' b2' b3' c' i' n' := by
  have b9 := GD_9 g
  intro n
  induction n with
  | zero =>
    intro N d h b1 b2 b3 i c i0 iz hN
    obtain ⟨N, rfl⟩ : ∃ m, N = m + 1 := ⟨N - 1, by omega⟩
    have e : i = zw := by rw [ezw]; exact Int32.toInt_inj.mp (by omega)
    refine ⟨b1, b2, b3, c, i, wen S i.toNatClampNeg, ?_⟩
    show fb_mX7_followKeeping_10 mo nd fe sa nF zp pF zw wF z so s1 s2 t1 t2 yj yo y1 y2 y3 y4 y5 yc lst E (fl_mX7_followKeeping_10 mo nd fe sa nF zp pF zw wF z so s1 s2 t1 t2 yj yo y1 y2 y3 y4 y5 yc lst E N) d h b1 b2 b3 c i (wen S i.toNatClampNeg) = _
    unfold fb_mX7_followKeeping_10
    rw [wyP_0, if_pos (by rw [e]; exact Int32.le_refl _)]
  | succ n ih =>
    intro N d h b1 b2 b3 i c i0 iz hN
    obtain ⟨N, rfl⟩ : ∃ m, N = m + 1 := ⟨N - 1, by omega⟩
    have ti := tn_eq i0
    have ei : (i + 1).toInt = i.toInt + 1 := zadd1 (by omega)
    have ht1 : (i + 1).toNatClampNeg = i.toNatClampNeg + 1 := by show (i + 1).toInt.toNat = i.toInt.toNat + 1; omega
    have hlt : ¬ zw ≤ i := by rw [ezw, Int32.le_iff_toInt_le]; omega
    rw [wyP_s]
    by_cases c0 : d < lst
    · refine ⟨b1, b2, b3, c, i, wen S i.toNatClampNeg, ?_⟩
      show fb_mX7_followKeeping_10 mo nd fe sa nF zp pF zw wF z so s1 s2 t1 t2 yj yo y1 y2 y3 y4 y5 yc lst E (fl_mX7_followKeeping_10 mo nd fe sa nF zp pF zw wF z so s1 s2 t1 t2 yj yo y1 y2 y3 y4 y5 yc lst E N) d h b1 b2 b3 c i (wen S i.toNatClampNeg) = _
      unfold fb_mX7_followKeeping_10
      rw [if_neg hlt, if_pos c0, if_pos c0]
    · obtain ⟨r1, r2, r3, r4⟩ := way_in (k := i.toNatClampNeg) g x h8 (by omega)
      obtain ⟨q1, q2, q3, c', q, _⟩ := cls_cross (cF := c) (nd := nd) (mo := mo) (fe := fe) (sa := sa) (d := d) (h := h) hL hn hp ezp hz r1 r3 r4
      obtain ⟨b1', b2', b3', c2, i', n', r⟩ := ih N (crD nd S L (S (10 + i.toNatClampNeg)) (oth S (S (10 + i.toNatClampNeg)) (wen S i.toNatClampNeg)) fe sa mo d h) (crH S (S (10 + i.toNatClampNeg)) h) q1 q2 q3 (i + 1) c' (by omega) (by omega) (by omega)
      rw [ht1] at r
      refine ⟨b1', b2', b3', c2, i', n', ?_⟩
      show fb_mX7_followKeeping_10 mo nd fe sa nF zp pF zw wF z so s1 s2 t1 t2 yj yo y1 y2 y3 y4 y5 yc lst E (fl_mX7_followKeeping_10 mo nd fe sa nF zp pF zw wF z so s1 s2 t1 t2 yj yo y1 y2 y3 y4 y5 yc lst E N) d h b1 b2 b3 c i (wen S i.toNatClampNeg) = _
      unfold fb_mX7_followKeeping_10
      rw [if_neg hlt, if_neg c0, if_neg c0, bndv (get_w hw i0 (by omega)), bndv q, bnd_eq, bnd_eq, bnd_eq, bnd_eq, bnd_eq, bnd_eq, bnd_eq, bnd_eq]
      exact r
set_option maxHeartbeats 400000 in
theorem cls_follow {S cF nF pF wF so s1 s2 t1 t2 yj yo y1 y2 y3 y4 y5 : Nat → Int32} {zp zw ws z nd mo fe sa lst yc d h b1 b2 b3 : Int32} {L : Cls} (g : GD S) (x : XT S) (h8 : ¬ S 8 < 0) (hL : LWX so s1 s2 t1 t2 yj yo y1 y2 y3 y4 y5 yc L) (hn : NE nF S) (hp : PE pF S) (hw : WE wF S) (ezp : zp = S 1) (ezw : zw = S 9) (ews : ws = S 8) (hz : z = S 6) : ∃ b1' b2' b3' c', fX7_followKeeping d h mo nd fe sa cF b1 b2 b3 nF zp pF zw wF ws z so s1 s2 t1 t2 yj yo y1 y2 y3 y4 y5 yc lst = ((wyP nd S L fe sa mo lst (S 9).toNatClampNeg 0 d h).1, (wyP nd S L fe sa mo lst (S 9).toNatClampNeg 0 d h).2, b1', b2', b3', c', if (wyP nd S L fe sa mo lst (S 9).toNatClampNeg 0 d h).1 < lst then 0 else 1) := by
  have b9 := GD_9 g
  have t9 := tn_eq b9.1
  unfold fX7_followKeeping
  obtain ⟨b1', b2', b3', c', i', n', r⟩ := cls_way (nd := nd) (mo := mo) (fe := fe) (sa := sa) (lst := lst) (E := fun (w56_0_0 : Int32) (w56_1_0 : Int32) (w56_2_0 : Int32) (w56_3_0 : Int32) (w56_4_0 : Int32) (w56_5_0 : Nat → Int32) (w56_6_0 : Int32) (w56_7_0 : Int32) => if w56_0_0 < lst then ((w56_0_0, w56_1_0, w56_2_0, w56_3_0, w56_4_0, w56_5_0, 0)) else ((w56_0_0, w56_1_0, w56_2_0, w56_3_0, w56_4_0, w56_5_0, 1))) g x h8 hL hn hp hw ezp ezw hz (S 9).toNatClampNeg (((zw : Int32).toInt - (0 : Int32).toInt).toNat + 1) d h b1 b2 b3 0 cF (by decide) (by rw [z_i0]; omega) (by rw [z_i0, ezw]; omega)
  have e8 : wen S (0 : Int32).toNatClampNeg = ws := ews.symm
  rw [e8] at r
  refine ⟨b1', b2', b3', c', r.trans ?_⟩
  by_cases c0 : (wyP nd S L fe sa mo lst (S 9).toNatClampNeg (0 : Int32).toNatClampNeg d h).1 < lst
  · rw [if_pos c0]
    show _ = (_, _, _, _, _, _, if (wyP nd S L fe sa mo lst (S 9).toNatClampNeg (0 : Int32).toNatClampNeg d h).1 < lst then (0 : Int32) else 1)
    rw [if_pos c0]
    rfl
  · rw [if_neg c0]
    show _ = (_, _, _, _, _, _, if (wyP nd S L fe sa mo lst (S 9).toNatClampNeg (0 : Int32).toNatClampNeg d h).1 < lst then (0 : Int32) else 1)
    rw [if_neg c0]
    rfl
/-- TRIED: what is answered -/
def trA (S : Nat → Int32) (L : Cls) (h d fe sa w : Int32) : Int32 := if fX10_isLoad h d fe sa = 0 then -1 else if wi w 1 = 0 then -1 else if S 8 = -1 then -1 else if w = 0 then (wyP 1 S L fe sa 0 0 (S 9).toNatClampNeg 0 d h).1 else (wyP 1 S L fe sa 0 0 (S 9).toNatClampNeg 0 d h).2 - h
set_option maxHeartbeats 400000 in
theorem s8_neg {S : Nat → Int32} (g : GD S) : S 8 < 0 ↔ S 8 = -1 := by
  have a := g.1.2.2.2.2.2.2.1.1
  constructor
  · intro h
    grind
  · intro h; rw [h]; decide
set_option maxHeartbeats 400000 in
theorem tried_c {S cF nF pF wF so s1 s2 t1 t2 yj yo y1 y2 y3 y4 y5 : Nat → Int32} {zp zw ws z yc h d fe sa w b1 b2 b3 e1 e2 e3 e4 e5 e6 : Int32} {L : Cls} (g : GD S) (x : XT S) (hL : LWX so s1 s2 t1 t2 yj yo y1 y2 y3 y4 y5 yc L) (hn : NE nF S) (hp : PE pF S) (hw : WE wF S) (ezp : zp = S 1) (ezw : zw = S 9) (ews : ws = S 8) (hz : z = S 6) : (fX10_tried_yes nF zp pF zw wF ws z cF b1 b2 b3 e1 e2 e3 e4 e5 e6 so s1 s2 t1 t2 yj yo y1 y2 y3 y4 y5 yc h d fe sa w).2.2.2.2.2.2.2.2.2.2 = trA S L h d fe sa w := by
  unfold fX10_tried_yes trA
  rw [bnd_eq]
  by_cases a : fX10_isLoad h d fe sa = 0
  · rw [if_pos a, if_pos a]
  · rw [if_neg a, if_neg a]
    by_cases b : wi w 1 = 0
    · rw [if_pos b, if_pos b]
    · rw [if_neg b, if_neg b]
      by_cases c : S 8 = -1
      · rw [if_pos c, if_pos (by rw [ews]; exact c)]
      · rw [if_neg c, if_neg (by rw [ews]; exact c)]
        obtain ⟨q1, q2, q3, c', q⟩ := cls_follow (cF := cF) (nd := 1) (mo := 0) (fe := fe) (sa := sa) (lst := 0) (d := d) (h := h) (b1 := b1) (b2 := b2) (b3 := b3) g x (fun y => c ((s8_neg g).mp y)) hL hn hp hw ezp ezw ews hz
        rw [bndv q, bnd_eq, bnd_eq, bnd_eq, bnd_eq, bnd_eq, bnd_eq]
        by_cases e : w = 0
        · rw [if_pos e, if_pos e]
        · rw [if_neg e, if_neg e]
set_option maxHeartbeats 400000 in
theorem canTry_x {laws zk p h d fe sa : Int32} (hl : ¬ hs p laws = 0) : fX11_canTry laws zk p h d fe sa = if zk < 0 then 0 else fX10_isLoad h d fe sa := by
  unfold fX11_canTry fX11_isJarLike fX10_isLoad cv
  rw [if_neg hl, li_wj (hi := 99999) (by decide), li_wj (hi := 99999) (by decide), li_wj (hi := 9) (by decide), li_wj (hi := 9) (by decide)]
  by_cases a : zk < 0
  · rw [if_pos a, if_pos a]
  · rw [if_neg a, if_neg a]
    by_cases b : wi h 99999 = 0
    · rw [if_pos b, if_pos b]
    · rw [if_neg b, if_neg b, bnd_eq]
      by_cases c : wi d 99999 = 0
      · rw [if_pos c, if_pos c, if_pos rfl]
      · rw [if_neg c, if_neg c]
        all_goals (
          by_cases e : wi fe 9 = 0
          · rw [if_pos e, if_pos e, if_pos rfl, if_pos rfl]
          · rw [if_neg e, if_neg e]
            by_cases f : wi sa 9 = 0
            · rw [if_pos f, if_pos f, if_pos rfl, if_pos rfl]
            · rw [if_neg f, if_neg f, if_neg (by decide), if_neg (by decide)])
set_option maxHeartbeats 400000 in
theorem load_in {h d fe sa : Int32} (a : ¬ fX10_isLoad h d fe sa = 0) : (0 ≤ d.toInt ∧ d.toInt ≤ 99999) ∧ 0 ≤ h.toInt ∧ h.toInt ≤ 99999 := by
  unfold fX10_isLoad at a
  by_cases b : wi h 99999 = 0
  · rw [if_pos b] at a; exact absurd rfl a
  · rw [if_neg b] at a
    by_cases c : wi d 99999 = 0
    · rw [if_pos c] at a; exact absurd rfl a
    · have x := wi_r b
      have y := wi_r c
      rw [show (99999 : Int32).toInt = 99999 from by decide] at x y
      exact ⟨y, x⟩
set_option maxHeartbeats 400000 in
theorem ref_way {S sg cl cs : Nat → Int32} {law fe sa : Int32} {L : Cls} {E : (Nat → Int64) → (Nat → Int64) → Int32 → Int32 → Int32 → Int32 → Int32 → (Int32 × Int32 × Int32 × Int32 × Int32 × Int32 × Int32 × (Nat → Int64) × (Nat → Int64) × Int32)} (g : GD S) (x : XT S) (h8 : ¬ S 8 < 0) (hL : LWR sg cl cs law L) : ∀ (n N : Nat) (v d h i : Int32) (g1 g2 : Nat → Int64), 0 ≤ d.toInt → d.toInt ≤ 99999 → 0 ≤ i.toInt → i.toInt + n = (S 9).toInt → n < N → ∃ v' g1' g2' n', fl_mX11_tried_47 sg cl cs S (S 6) (S 9) law fe sa 0 E N g1 g2 v (wen S i.toNatClampNeg) d h i = E g1' g2' v' n' (wyP 1 S L fe sa 0 0 n i.toNatClampNeg d h).1 (wyP 1 S L fe sa 0 0 n i.toNatClampNeg d h).2 (S 9) := by
  have b9 := GD_9 g
  intro n
  induction n with
  | zero =>
    intro N v d h i g1 g2 d0 d9 i0 iz hN
    obtain ⟨N, rfl⟩ : ∃ m, N = m + 1 := ⟨N - 1, by omega⟩
    have e : i = S 9 := Int32.toInt_inj.mp (by omega)
    refine ⟨v, g1, g2, wen S i.toNatClampNeg, ?_⟩
    show fb_mX11_tried_47 sg cl cs S (S 6) (S 9) law fe sa 0 E (fl_mX11_tried_47 sg cl cs S (S 6) (S 9) law fe sa 0 E N) g1 g2 v (wen S i.toNatClampNeg) d h i = _
    unfold fb_mX11_tried_47
    rw [wyP_0, if_pos (by rw [e]; exact Int32.le_refl _), e]
  | succ n ih =>
    intro N v d h i g1 g2 d0 d9 i0 iz hN
    obtain ⟨N, rfl⟩ : ∃ m, N = m + 1 := ⟨N - 1, by omega⟩
    have ti := tn_eq i0
    have ei : (i + 1).toInt = i.toInt + 1 := zadd1 (by omega)
    have ht1 : (i + 1).toNatClampNeg = i.toNatClampNeg + 1 := by show (i + 1).toInt.toNat = i.toInt.toNat + 1; omega
    obtain ⟨r1, r2, r3, r4⟩ := way_in (k := i.toNatClampNeg) g x h8 (by omega)
    obtain ⟨v1, k1, k2, q⟩ := ref_travels (sk := g1) (wd := g2) (top := v) (mo := 0) (fe := fe) (sa := sa) (h := h) hL r1 r3 r4 d0 d9
    have a := crD_in (nd := 1) (S := S) (L := L) (pass := S (10 + i.toNatClampNeg)) (to := oth S (S (10 + i.toNatClampNeg)) (wen S i.toNatClampNeg)) (fe := fe) (sa := sa) (mo := 0) (h := h) d0 d9
    obtain ⟨v', g1', g2', n', r⟩ := ih N v1 (crD 1 S L (S (10 + i.toNatClampNeg)) (oth S (S (10 + i.toNatClampNeg)) (wen S i.toNatClampNeg)) fe sa 0 d h) (crH S (S (10 + i.toNatClampNeg)) h) (i + 1) k1 k2 a.1 (by omega) (by omega) (by omega) (by omega)
    rw [ht1] at r
    refine ⟨v', g1', g2', n', ?_⟩
    show fb_mX11_tried_47 sg cl cs S (S 6) (S 9) law fe sa 0 E (fl_mX11_tried_47 sg cl cs S (S 6) (S 9) law fe sa 0 E N) g1 g2 v (wen S i.toNatClampNeg) d h i = _
    unfold fb_mX11_tried_47
    rw [wyP_s, if_neg (show ¬ d < 0 from z_nlt0 d0), if_neg (show ¬ S 9 ≤ i by rw [Int32.le_iff_toInt_le]; omega), bndv (congrArg S (ten i0 (by omega))), bndv q, bnd_eq, bnd_eq, bnd_eq, bnd_eq, bnd_eq, bnd_eq, bnd_eq]
    exact r
set_option maxHeartbeats 400000 in
theorem tried_r {S sg cl cs : Nat → Int32} {sk wd : Nat → Int64} {laws top law h d fe sa w f1 f2 f3 f4 f5 f6 : Int32} {L : Cls} (g : GD S) (x : XT S) (hL : LWR sg cl cs law L) (hl : ¬ hs law laws = 0) : (fX11_tried laws top f1 f2 f3 f4 f5 f6 sg cl cs sk wd S (S 6) (S 8) (S 9) law h d fe sa w).2.2.2.2.2.2.2.2.2 = trA S L h d fe sa w := by
  have b9 := GD_9 g
  have t9 := tn_eq b9.1
  unfold fX11_tried trA
  rw [bndv (canTry_x hl), li_wj (hi := 1) (by decide)]
  by_cases c : S 8 = -1
  · rw [if_pos ((s8_neg g).mpr c), if_pos rfl, if_pos c]
    split
    · rfl
    · split <;> rfl
  · rw [if_neg (fun y => c ((s8_neg g).mp y)), if_neg c]
    by_cases a : fX10_isLoad h d fe sa = 0
    · rw [if_pos a, if_pos a]
    · rw [if_neg a, if_neg a]
      by_cases b : wi w 1 = 0
      · rw [if_pos b, if_pos b]
      · have dr := (load_in a).1
        rw [if_neg b, if_neg b, bndv (show fX11_sets (S 8) d h fe sa = (S 8, d, h, fe, sa, 0) from rfl), bnd_eq, bnd_eq, bnd_eq, bnd_eq, bnd_eq, bnd_eq]
        obtain ⟨v', g1', g2', n', r⟩ := ref_way (fe := fe) (sa := sa) (E := fun (w80_0_0 : Nat → Int64) (w80_1_0 : Nat → Int64) (w80_2_0 : Int32) (w80_3_0 : Int32) (w80_4_0 : Int32) (w80_5_0 : Int32) (w80_6_0 : Int32) => if w = 0 then ((w80_2_0, w80_3_0, w80_4_0, w80_5_0, fe, sa, 0, w80_0_0, w80_1_0, w80_4_0)) else ((w80_2_0, w80_3_0, w80_4_0, w80_5_0, fe, sa, 0, w80_0_0, w80_1_0, (w80_5_0 - h)))) g x (fun y => c ((s8_neg g).mp y)) hL (S 9).toNatClampNeg (((S 9 : Int32).toInt - (0 : Int32).toInt).toNat + 1) top d h 0 sk wd dr.1 dr.2 (by decide) (by rw [z_i0]; omega) (by rw [z_i0]; omega)
        refine (congrArg (fun z => z.2.2.2.2.2.2.2.2.2) r).trans ?_
        by_cases e : w = 0
        · rw [if_pos e, if_pos e]
          all_goals rfl
        · rw [if_neg e, if_neg e]
          all_goals rfl
