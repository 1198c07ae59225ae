/-- MELT of a load in an hour -/
def mltw (W : Nat → Int32) (L : Cls) (mo d : Int32) : Int32 := fX10_held (lsm W 0 L + mo.toInt64) d
/-- hours on a PASS: n more, g behind; with fewer than nd nothing is asked -/
def hrN (nd : Int32) (S : Nat → Int32) (L : Cls) (pass to fe sa mo : Int32) : Nat → Int32 → Int32 → Int32 → Int32
  | 0, _, d, _ => d
  | n + 1, g, d, h => hrN nd S L pass to fe sa mo n (g + 1) (if d < nd then d else d - mltw (pwd S h pass to g d fe sa) L mo d) (h + 1)
def hrH : Nat → Int32 → Int32
  | 0, h => h
  | n + 1, h => hrH n (h + 1)
def crE (nd : Int32) (S : Nat → Int32) (L : Cls) (to fe sa d h : Int32) : Int32 := if d < nd then d else d - shrw (lsm (nwd S h to d fe sa) 2 L) d
def crD (nd : Int32) (S : Nat → Int32) (L : Cls) (pass to fe sa mo d h : Int32) : Int32 := crE nd S L to fe sa (hrN nd S L pass to fe sa mo (S (68 + 5 * pass.toNatClampNeg + 2)).toNatClampNeg 0 d h) (hrH (S (68 + 5 * pass.toNatClampNeg + 2)).toNatClampNeg h)
def crH (S : Nat → Int32) (pass h : Int32) : Int32 := hrH (S (68 + 5 * pass.toNatClampNeg + 2)).toNatClampNeg h
/-- the way laid: n PASSES more, k behind; with fewer than lst one stops -/
def wyP (nd : Int32) (S : Nat → Int32) (L : Cls) (fe sa mo lst : Int32) : Nat → Nat → Int32 → Int32 → Int32 × Int32
  | 0, _, d, h => (d, h)
  | n + 1, k, d, h => if d < lst then (d, h) else wyP nd S L fe sa mo lst n (k + 1) (crD nd S L (S (10 + k)) (oth S (S (10 + k)) (wen S k)) fe sa mo d h) (crH S (S (10 + k)) h)
def PWi (S : Nat → Int32) (pass : Int32) (c : Nat → Int32) : Prop := c 4 = S (68 + 5 * pass.toNatClampNeg + 3) ∧ c 5 = 0 ∧ c 6 = 12
set_option maxHeartbeats 400000 in
theorem PWi_set {S cF nF pF : Nat → Int32} {zp pass to : Int32} (hp : PE pF S) (hr : rP S pass) : PWi S pass (fX4_setPass cF nF zp pF pass to).2.2.2 := by
  have g3 := pget (q := 3) (c := 3) hp hr.1 (by have := hr.2.1; have := hr.2.2.1; omega) (by decide) (by decide)
  unfold fX4_setPass
  simp only [bnd, g3, c_k4, c_k5, c_k6]
  exact ⟨rfl, rfl, rfl⟩
set_option maxHeartbeats 400000 in
theorem pw_go {S c : Nat → Int32} {pass to g z h d fe sa b1 b2 b3 : Int32} (hc : PWi S pass c) (e1 : b1 = S (20 + 4 * (oth S pass to).toNatClampNeg)) (e2 : b2 = S (20 + 4 * to.toNatClampNeg)) (e3 : b3 = S (68 + 5 * pass.toNatClampNeg + 2)) (hz : z = S 6) (h1 : 1 ≤ b3.toInt) : (∀ i : Nat, i < 11 → fX4_setLoad (fX4_setHour (fX4_setGone c b1 b2 b3 g) z h) d fe sa i = pwd S h pass to g d fe sa i) ∧ PWi S pass (fX4_setLoad (fX4_setHour (fX4_setGone c b1 b2 b3 g) z h) d fe sa) ∧ PWi S pass (fX4_setGone c b1 b2 b3 g) := by
  obtain ⟨c4, c5, c6⟩ := hc
  have n0 : ¬ b3 ≤ 0 := by rw [Int32.le_iff_toInt_le, z_i0]; omega
  unfold fX4_setLoad fX4_setHour fX4_setGone
  simp only [bnd, if_neg n0, c_k0, c_k1, c_k2, c_k3, c_k4, c_k5, c_k6, c_k7, c_k8, c_k9, c_k10]
  refine ⟨?_, ⟨c4, c5, c6⟩, ⟨c4, c5, c6⟩⟩
  subst e1 e2 e3 hz
  unfold pwd pht
  exact w11 rfl rfl rfl rfl c4 c5 c6 rfl rfl rfl rfl
set_option maxHeartbeats 400000 in
theorem one_hour {S c so s1 s2 t1 t2 yj yo y1 y2 y3 y4 y5 : Nat → Int32} {pass to g z h d nd mo fe sa b1 b2 b3 yc : Int32} {L : Cls} (hL : LWX so s1 s2 t1 t2 yj yo y1 y2 y3 y4 y5 yc L) (hc : PWi S pass c) (e1 : b1 = S (20 + 4 * (oth S pass to).toNatClampNeg)) (e2 : b2 = S (20 + 4 * to.toNatClampNeg)) (e3 : b3 = S (68 + 5 * pass.toNatClampNeg + 2)) (hz : z = S 6) (h1 : 1 ≤ b3.toInt) : ∃ c', fX7_meltOneHour d h mo nd fe sa (fX4_setGone c b1 b2 b3 g) z so s1 s2 t1 t2 yj yo y1 y2 y3 y4 y5 yc = ((if d < nd then d else d - mltw (pwd S h pass to g d fe sa) L mo d), h + 1, c') ∧ PWi S pass c' := by
  obtain ⟨q1, q2, q3⟩ := pw_go (z := z) (g := g) (h := h) (d := d) (fe := fe) (sa := sa) hc e1 e2 e3 hz h1
  unfold fX7_meltOneHour
  by_cases c0 : d < nd
  · rw [if_pos c0, if_pos c0, bnd_eq]
    exact ⟨_, rfl, q3⟩
  · rw [if_neg c0, if_neg c0, bnd_eq, bnd_eq, bndv (hL _ _ 0 (by decide) q1), bnd_eq, bnd_eq, bnd_eq, bnd_eq]
    exact ⟨_, rfl, q2⟩
set_option maxHeartbeats 400000 in
theorem cls_hrs {S so s1 s2 t1 t2 yj yo y1 y2 y3 y4 y5 : Nat → Int32} {pass to z nd mo fe sa b1 b2 b3 yc : Int32} {L : Cls} {E : Int32 → Int32 → (Nat → Int32) → Int32 → (Int32 × Int32 × Int32 × Int32 × Int32 × (Nat → Int32) × Int32)} (hL : LWX so s1 s2 t1 t2 yj yo y1 y2 y3 y4 y5 yc L) (e1 : b1 = S (20 + 4 * (oth S pass to).toNatClampNeg)) (e2 : b2 = S (20 + 4 * to.toNatClampNeg)) (e3 : b3 = S (68 + 5 * pass.toNatClampNeg + 2)) (hz : z = S 6) (h1 : 1 ≤ b3.toInt) (h24 : b3.toInt ≤ 24) : ∀ (n N : Nat) (d h g : Int32) (c : Nat → Int32), PWi S pass c → 0 ≤ g.toInt → g.toInt + n = b3.toInt → n < N → ∃ c', fl_mX7_cross_40 mo nd fe sa z so s1 s2 t1 t2 yj yo y1 y2 y3 y4 y5 yc b3 b1 b2 b3 E N d h c g = E (hrN nd S L pass to fe sa mo n g d h) (hrH n h) c' b3 := by
  intro n
  induction n with
  | zero =>
    intro N d h g c hc g0 gz hN
    obtain ⟨N, rfl⟩ : ∃ m, N = m + 1 := ⟨N - 1, by omega⟩
    have e : g = b3 := Int32.toInt_inj.mp (by omega)
    refine ⟨c, ?_⟩
    show fb_mX7_cross_40 mo nd fe sa z so s1 s2 t1 t2 yj yo y1 y2 y3 y4 y5 yc b3 b1 b2 b3 E (fl_mX7_cross_40 mo nd fe sa z so s1 s2 t1 t2 yj yo y1 y2 y3 y4 y5 yc b3 b1 b2 b3 E N) d h c g = _
    unfold fb_mX7_cross_40
    rw [e, if_pos (Int32.le_refl _)]
    rfl
  | succ n ih =>
    intro N d h g c hc g0 gz hN
    obtain ⟨N, rfl⟩ : ∃ m, N = m + 1 := ⟨N - 1, by omega⟩
    have eg : (g + 1).toInt = g.toInt + 1 := zadd1 (by omega)
    obtain ⟨c1, q, hc1⟩ := one_hour (g := g) (h := h) (d := d) (nd := nd) (mo := mo) (fe := fe) (sa := sa) hL hc e1 e2 e3 hz h1
    obtain ⟨c', r⟩ := ih N (if d < nd then d else d - mltw (pwd S h pass to g d fe sa) L mo d) (h + 1) (g + 1) c1 hc1 (by omega) (by omega) (by omega)
    refine ⟨c', ?_⟩
    show fb_mX7_cross_40 mo nd fe sa z so s1 s2 t1 t2 yj yo y1 y2 y3 y4 y5 yc b3 b1 b2 b3 E (fl_mX7_cross_40 mo nd fe sa z so s1 s2 t1 t2 yj yo y1 y2 y3 y4 y5 yc b3 b1 b2 b3 E N) d h c g = _
    unfold fb_mX7_cross_40
    rw [if_neg (show ¬ b3 ≤ g by rw [Int32.le_iff_toInt_le]; omega), bnd_eq, bndv q, bnd_eq, bnd_eq, bnd_eq, bnd_eq]
    exact r
set_option maxHeartbeats 400000 in
theorem cls_cross {S cF nF pF so s1 s2 t1 t2 yj yo y1 y2 y3 y4 y5 : Nat → Int32} {zp pass node z nd mo fe sa yc d h : Int32} {L : Cls} (hL : LWX so s1 s2 t1 t2 yj yo y1 y2 y3 y4 y5 yc L) (hn : NE nF S) (hp : PE pF S) (ezp : zp = S 1) (hz : z = S 6) (hr : rP S pass) (ht : rN (oth S pass node)) (hb : rN (oth S pass (oth S pass node))) : ∃ b1 b2 b3 c', fX7_cross d h mo nd fe sa cF nF zp pF z so s1 s2 t1 t2 yj yo y1 y2 y3 y4 y5 yc pass node = (crD nd S L pass (oth S pass node) fe sa mo d h, crH S pass h, b1, b2, b3, c', oth S pass node) ∧ ∀ i : Nat, i < 11 → c' i = nwd S (crH S pass h) (oth S pass node) (hrN nd S L pass (oth S pass node) fe sa mo (S (68 + 5 * pass.toNatClampNeg + 2)).toNatClampNeg 0 d h) fe sa i := by
  have p20 : pass.toInt < 20 := by have := hr.2.1; have := hr.2.2.1; omega
  have hin : ¬ hs pass zp = 0 := hs_in (z_nlt0 hr.1) (by rw [Int32.le_iff_toInt_le, ezp]; have := hr.2.1; omega)
  have h20 : ¬ 20 < S 1 := by rw [Int32.lt_iff_toInt_lt, show (20 : Int32).toInt = 20 from by decide]; have := hr.2.2.1; omega
  have e0 := oe_in (n := node) hp ezp h20 hin
  have e9 := oe_in (n := oth S pass node) hp ezp h20 hin
  have g0 := nget (q := 0) (c := 0) hn hb (by decide) (by decide)
  have g1 := nget (q := 0) (c := 0) hn ht (by decide) (by decide)
  have g2 := pget (q := 2) (c := 2) hp hr.1 p20 (by decide) (by decide)
  rw [Nat.add_zero] at g0 g1
  have hw := PWi_set (cF := cF) (nF := nF) (zp := zp) (to := oth S pass node) hp hr
  have f1 : (fX4_setPass cF nF zp pF pass (oth S pass node)).1 = S (20 + 4 * (oth S pass (oth S pass node)).toNatClampNeg) := by
    unfold fX4_setPass
    simp only [bnd, e9, g0]
  have f2 : (fX4_setPass cF nF zp pF pass (oth S pass node)).2.1 = S (20 + 4 * (oth S pass node).toNatClampNeg) := by
    unfold fX4_setPass
    simp only [bnd, e9, g1]
  have f3 : (fX4_setPass cF nF zp pF pass (oth S pass node)).2.2.1 = S (68 + 5 * pass.toNatClampNeg + 2) := by
    unfold fX4_setPass
    simp only [bnd, g2]
  unfold fX7_cross
  rw [bndv e0, bndv g2, bnd_eq]
  generalize fX4_setPass cF nF zp pF pass (oth S pass node) = q at hw f1 f2 f3 ⊢
  rw [bnd_eq, bnd_eq, bnd_eq, bnd_eq, f3]
  have tn := tn_eq (a := S (68 + 5 * pass.toNatClampNeg + 2)) (by have := hr.2.2.2.1; omega)
  obtain ⟨c', r⟩ := cls_hrs (nd := nd) (mo := mo) (fe := fe) (sa := sa) (E := fun (w66_0_0 : Int32) (w66_1_0 : Int32) (w66_2_0 : Nat → Int32) (w66_3_0 : Int32) => bnd (fX4_setHour w66_2_0 z w66_1_0) (fun (o27 : Nat → Int32) => bnd (fX4_setNode o27 nF (oth S pass node)) (fun (o33 : Nat → Int32) => bnd (fX4_setLoad o33 w66_0_0 fe sa) (fun (o39 : Nat → Int32) => if w66_0_0 < nd then ((w66_0_0, w66_1_0, q.1, q.2.1, S (68 + 5 * pass.toNatClampNeg + 2), o39, (oth S pass node))) else (bnd (fX1_sumOf so s1 s2 t1 t2 yj yo y1 y2 y3 y4 y5 yc 2 o39) (fun (r45 : Int64) => bnd (fX10_held r45 100) (fun (r52 : Int32) => bnd (((w66_0_0 * r52) / 100)) (fun (x57 : Int32) => bnd ((w66_0_0 - x57)) (fun (x58 : Int32) => (x58, w66_1_0, q.1, q.2.1, S (68 + 5 * pass.toNatClampNeg + 2), o39, (oth S pass node)))))))))))
    hL f1 f2 rfl hz hr.2.2.2.1 hr.2.2.2.2 (S (68 + 5 * pass.toNatClampNeg + 2)).toNatClampNeg (((S (68 + 5 * pass.toNatClampNeg + 2)).toInt - (0 : Int32).toInt).toNat + 1) d h 0 q.2.2.2 hw (by decide) (by rw [z_i0]; omega) (by rw [z_i0]; omega)
  rw [r]
  try dsimp only
  rw [bnd_eq, bnd_eq, bnd_eq]
  have w2 := cls_nw2 (cF := c') (hour := crH S pass h) (dr := hrN nd S L pass (oth S pass node) fe sa mo (S (68 + 5 * pass.toNatClampNeg + 2)).toNatClampNeg 0 d h) (fe := fe) (sa := sa) hn hz ht
  unfold crD crE
  unfold crH at w2 ⊢
  by_cases c0 : hrN nd S L pass (oth S pass node) fe sa mo (S (68 + 5 * pass.toNatClampNeg + 2)).toNatClampNeg 0 d h < nd
  · rw [if_pos c0, if_pos c0]
    exact ⟨_, _, _, _, rfl, w2⟩
  · rw [if_neg c0, if_neg c0, bndv (hL _ _ 2 (by decide) w2), bnd_eq, bnd_eq, bnd_eq]
    exact ⟨_, _, _, _, rfl, w2⟩
set_option maxHeartbeats 400000 in
theorem lt1 {d : Int32} (d0 : 0 ≤ d.toInt) (h : d < 1) : d = 0 := by
  rw [Int32.lt_iff_toInt_lt, show (1 : Int32).toInt = 1 from by decide] at h
  exact Int32.toInt_inj.mp (by rw [z_i0]; omega)
set_option maxHeartbeats 400000 in
theorem sub_in {d m : Int32} (d0 : 0 ≤ d.toInt) (d9 : d.toInt ≤ 99999) (m0 : 0 ≤ m.toInt) (m1 : m.toInt ≤ d.toInt) : 0 ≤ (d - m).toInt ∧ (d - m).toInt ≤ d.toInt := by
  rw [zsub (by omega) (by omega)]
  omega
set_option maxHeartbeats 400000 in
theorem mlt_in {W : Nat → Int32} {L : Cls} {mo d nd : Int32} (d0 : 0 ≤ d.toInt) (d9 : d.toInt ≤ 99999) : 0 ≤ (if d < nd then d else d - mltw W L mo d).toInt ∧ (if d < nd then d else d - mltw W L mo d).toInt ≤ d.toInt := by
  split
  · exact ⟨d0, Int.le_refl _⟩
  · have := held_in (x := lsm W 0 L + mo.toInt64) d0
    exact sub_in d0 d9 this.1 this.2
set_option maxHeartbeats 400000 in
theorem mlt_1 {W : Nat → Int32} {L : Cls} {mo d : Int32} (d0 : 0 ≤ d.toInt) : (if d < 1 then d else d - mltw W L mo d) = d - mltw W L mo d := by
  by_cases c : d < 1
  · rw [if_pos c, lt1 d0 c]
    unfold mltw
    rw [held_0]
    rfl
  · rw [if_neg c]
set_option maxHeartbeats 400000 in
theorem hrN_in {nd : Int32} {S : Nat → Int32} {L : Cls} {pass to fe sa mo : Int32} : ∀ (n : Nat) (g d h : Int32), 0 ≤ d.toInt → d.toInt ≤ 99999 → 0 ≤ (hrN nd S L pass to fe sa mo n g d h).toInt ∧ (hrN nd S L pass to fe sa mo n g d h).toInt ≤ d.toInt
  | 0, _, _, _, d0, _ => ⟨d0, Int.le_refl _⟩
  | n + 1, g, d, h, d0, d9 => by
    have a := mlt_in (W := pwd S h pass to g d fe sa) (L := L) (mo := mo) (nd := nd) d0 d9
    have b := hrN_in (nd := nd) (S := S) (L := L) (pass := pass) (to := to) (fe := fe) (sa := sa) (mo := mo) n (g + 1) (if d < nd then d else d - mltw (pwd S h pass to g d fe sa) L mo d) (h + 1) a.1 (by omega)
    exact ⟨b.1, Int.le_trans b.2 a.2⟩
set_option maxHeartbeats 400000 in
theorem crD_in {nd : Int32} {S : Nat → Int32} {L : Cls} {pass to fe sa mo d h : Int32} (d0 : 0 ≤ d.toInt) (d9 : d.toInt ≤ 99999) : 0 ≤ (crD nd S L pass to fe sa mo d h).toInt ∧ (crD nd S L pass to fe sa mo d h).toInt ≤ d.toInt := by
  have b := hrN_in (nd := nd) (S := S) (L := L) (pass := pass) (to := to) (fe := fe) (sa := sa) (mo := mo) (S (68 + 5 * pass.toNatClampNeg + 2)).toNatClampNeg 0 d h d0 d9
  unfold crD crE
  split
  · exact b
  · have c := shr_in (x := lsm (nwd S (hrH (S (68 + 5 * pass.toNatClampNeg + 2)).toNatClampNeg h) to (hrN nd S L pass to fe sa mo (S (68 + 5 * pass.toNatClampNeg + 2)).toNatClampNeg 0 d h) fe sa) 2 L) b.1 (by omega)
    have e := sub_in b.1 (by omega) c.1 c.2
    exact ⟨e.1, Int.le_trans e.2 b.2⟩
set_option maxHeartbeats 400000 in
theorem ref_mb {sg cl cs : Nat → Int32} {sk wd : Nat → Int64} {W : Nat → Int32} {top law d mo : Int32} {L : Cls} (hL : LWR sg cl cs law L) (hw : ∀ i : Nat, i < 11 → wd i = (W i).toInt64) : ∃ v g, fX11_meltBy top sg cl cs sk wd law d mo = (v, g, mltw W L mo d) := by
  unfold fX11_meltBy mltw
  have e := hL W wd sk top 0 (by decide) hw
  rw [bnd_eq, bnd_eq, bnd_eq, bndv e, bnd_eq, bndv rfl, bndv (bnd_held _ _)]
  exact ⟨_, _, rfl⟩
set_option maxHeartbeats 400000 in
theorem ref_hrs {S sg cl cs : Nat → Int32} {pass to law mo fe sa : Int32} {L : Cls} {E : (Nat → Int64) → (Nat → Int64) → Int32 → Int32 → Int32 → Int32 → (Int32 × Int32 × Int32 × Int32 × (Nat → Int64) × (Nat → Int64))} (hL : LWR sg cl cs law L) (hr : rP S pass) (ht : rN to) (hb : rN (oth S pass to)) : ∀ (n N : Nat) (v d h g : Int32) (g1 g2 : Nat → Int64), 0 ≤ d.toInt → d.toInt ≤ 99999 → 0 ≤ g.toInt → g.toInt + n = (S (68 + 5 * pass.toNatClampNeg + 2)).toInt → n < N → ∃ v' g1' g2', fl_mX11_travels_13 fe sa mo sg cl cs S (S 6) law pass to E N g1 g2 v d h g = E g1' g2' v' (hrN 1 S L pass to fe sa mo n g d h) (hrH n h) (S (68 + 5 * pass.toNatClampNeg + 2)) := by
  have p20 : pass.toInt < 20 := by have := hr.2.1; have := hr.2.2.1; omega
  have c2 := c_ps (q := 2) (c := 2) hr.1 p20 (by decide) (by decide)
  intro n
  induction n with
  | zero =>
    intro N v d h g g1 g2 d0 d9 g0 gz hN
    obtain ⟨N, rfl⟩ : ∃ m, N = m + 1 := ⟨N - 1, by omega⟩
    have e : g = S (68 + 5 * pass.toNatClampNeg + 2) := Int32.toInt_inj.mp (by omega)
    refine ⟨v, g1, g2, ?_⟩
    show fb_mX11_travels_13 fe sa mo sg cl cs S (S 6) law pass to E (fl_mX11_travels_13 fe sa mo sg cl cs S (S 6) law pass to E N) g1 g2 v d h g = _
    unfold fb_mX11_travels_13
    rw [c2, e, if_pos (Int32.le_refl _)]
    rfl
  | succ n ih =>
    intro N v d h g g1 g2 d0 d9 g0 gz hN
    obtain ⟨N, rfl⟩ : ∃ m, N = m + 1 := ⟨N - 1, by omega⟩
    have h24 := hr.2.2.2.2
    have eg : (g + 1).toInt = g.toInt + 1 := zadd1 (by omega)
    have hw := ref_pw (w := g2) (hour := h) (gone := g) (dr := d) (fe := fe) (sa := sa) hr ht hb
    obtain ⟨v1, k1, q⟩ := ref_mb (sk := g1) (top := v) (d := d) (mo := mo) hL hw
    have a := mlt_in (W := pwd S h pass to g d fe sa) (L := L) (mo := mo) (nd := 1) d0 d9
    obtain ⟨v', g1', g2', r⟩ := ih N v1 (if d < 1 then d else d - mltw (pwd S h pass to g d fe sa) L mo d) (h + 1) (g + 1) k1 (fX11_passWords g2 S (S 6) h pass to g d fe sa) a.1 (by omega) (by omega) (by omega) (by omega)
    refine ⟨v', g1', g2', ?_⟩
    show fb_mX11_travels_13 fe sa mo sg cl cs S (S 6) law pass to E (fl_mX11_travels_13 fe sa mo sg cl cs S (S 6) law pass to E N) g1 g2 v d h g = _
    unfold fb_mX11_travels_13
    rw [c2, if_neg (show ¬ S (68 + 5 * pass.toNatClampNeg + 2) ≤ g by rw [Int32.le_iff_toInt_le]; omega), bnd_eq, bndv q, bnd_eq, bnd_eq, bnd_eq, bndv (mlt_1 (W := pwd S h pass to g d fe sa) (L := L) (mo := mo) d0).symm, bnd_eq, bnd_eq]
    exact r
set_option maxHeartbeats 400000 in
theorem ref_travels {S sg cl cs : Nat → Int32} {sk wd : Nat → Int64} {top node law pass mo fe sa d h : Int32} {L : Cls} (hL : LWR sg cl cs law L) (hr : rP S pass) (ht : rN (oth S pass node)) (hb : rN (oth S pass (oth S pass node))) (d0 : 0 ≤ d.toInt) (d9 : d.toInt ≤ 99999) : ∃ v' g1' g2', fX11_travels top node d h fe sa mo sg cl cs sk wd S (S 6) law pass = (v', oth S pass node, crD 1 S L pass (oth S pass node) fe sa mo d h, crH S pass h, g1', g2') := by
  have p20 : pass.toInt < 20 := by have := hr.2.1; have := hr.2.2.1; omega
  have c2 := c_ps (q := 2) (c := 2) hr.1 p20 (by decide) (by decide)
  have tn := tn_eq (a := S (68 + 5 * pass.toNatClampNeg + 2)) (by have := hr.2.2.2.1; omega)
  unfold fX11_travels
  rw [bnd_eq, c2]
  obtain ⟨v', g1', g2', r⟩ := ref_hrs (mo := mo) (fe := fe) (sa := sa) (E := fun (w86_0_0 : Nat → Int64) (w86_1_0 : Nat → Int64) (w86_2_0 : Int32) (w86_3_0 : Int32) (w86_4_0 : Int32) (w86_5_0 : Int32) => bnd (fX11_nodeWords w86_1_0 S (S 6) w86_4_0 (oth S pass node) w86_3_0 fe sa) (fun (o34 : Nat → Int64) => bnd (fX11_summed w86_2_0 sg cl cs w86_0_0 o34 law 2) (fun (q45 : Int32 × (Nat → Int64) × Int64) => bnd (q45.1) (fun (o40 : Int32) => bnd (q45.2.1) (fun (o41 : Nat → Int64) => bnd (q45.2.2) (fun (r39 : Int64) => bnd (fX11_bounded r39 0 100) (fun (r48 : Int64) => bnd ((w86_3_0.toInt64 * r48)) (fun (x53 : Int64) => bnd ((x53 / 100)) (fun (x54 : Int64) => bnd (x54.toInt32) (fun (x55 : Int32) => bnd ((w86_3_0 - x55)) (fun (x56 : Int32) => (o40, (oth S pass node), x56, w86_4_0, o41, o34)))))))))))) hL hr ht hb (S (68 + 5 * pass.toNatClampNeg + 2)).toNatClampNeg (((S (68 + 5 * pass.toNatClampNeg + 2)).toInt - (0 : Int32).toInt).toNat + 1) top d h 0 sk wd d0 d9 (by decide) (by rw [z_i0]; omega) (by rw [z_i0]; omega)
  rw [r]
  try dsimp only
  have b := hrN_in (nd := 1) (S := S) (L := L) (pass := pass) (to := oth S pass node) (fe := fe) (sa := sa) (mo := mo) (S (68 + 5 * pass.toNatClampNeg + 2)).toNatClampNeg 0 d h d0 d9
  have b9 := Int.le_trans b.2 d9
  unfold crD crE crH
  generalize hrN 1 S L pass (oth S pass node) fe sa mo (S (68 + 5 * pass.toNatClampNeg + 2)).toNatClampNeg 0 d h = d' at b b9 ⊢
  generalize hrH (S (68 + 5 * pass.toNatClampNeg + 2)).toNatClampNeg h = h'
  have hw := ref_nw (w := g2') (S := S) (hour := h') (dr := d') (fe := fe) (sa := sa) ht
  have e := hL _ _ g1' v' 2 (by decide) hw
  have sx := shr_x (x := lsm (nwd S h' (oth S pass node) d' fe sa) 2 L) b.1 b9
  rw [bnd_eq, bnd_eq, bnd_eq, bnd_eq, bndv e]
  rw [bnd_eq, bndv rfl, bndv rfl, bndv sx, bnd_eq]
  have k : (if d' < 1 then d' else d' - shrw (lsm (nwd S h' (oth S pass node) d' fe sa) 2 L) d') = d' - shrw (lsm (nwd S h' (oth S pass node) d' fe sa) 2 L) d' := by
    by_cases c : d' < 1
    · rw [if_pos c, lt1 b.1 c]
      have z := shr_in (x := lsm (nwd S h' (oth S pass node) 0 fe sa) 2 L) (d := 0) (by decide) (by decide)
      have z2 : shrw (lsm (nwd S h' (oth S pass node) 0 fe sa) 2 L) 0 = 0 := Int32.toInt_inj.mp (by rw [z_i0] at z ⊢; omega)
      rw [z2]
      rfl
    · rw [if_neg c]
  rw [k]
  exact ⟨_, _, _, rfl⟩
