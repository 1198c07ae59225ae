abbrev Cls : Type := List (Int32 × Int32 × List (Int32 × Int32) × Option Stps)
/-- the class's arrays mean these clauses; so does the reference's code -/
def LWX (so s1 s2 t1 t2 yj yo y1 y2 y3 y4 y5 : Nat → Int32) (yc : Int32) (L : Cls) : Prop := ∀ (W wF : Nat → Int32) (s : Int32), ¬ s = 4 → (∀ i : Nat, i < 11 → wF i = W i) → fX1_sumOf so s1 s2 t1 t2 yj yo y1 y2 y3 y4 y5 yc s wF = lsm W s L
def LWR (sg cl cs : Nat → Int32) (law : Int32) (L : Cls) : Prop := ∀ (W : Nat → Int32) (wd sk : Nat → Int64) (top s : Int32), ¬ s = 4 → (∀ i : Nat, i < 11 → wd i = (W i).toInt64) → (fX11_summed top sg cl cs sk wd law s).2.2 = lsm W s L
/-- WORDS and MELT of a jar -/
def jwd (S : Nat → Int32) (j : Int32) : Nat → Int32 := if S (168 + 9 * j.toNatClampNeg + 5) = 12 then pwd S (S 5) (S (168 + 9 * j.toNatClampNeg + 6)) (S (168 + 9 * j.toNatClampNeg + 8)) (S (168 + 9 * j.toNatClampNeg + 7)) (S (168 + 9 * j.toNatClampNeg + 4)) (S (168 + 9 * j.toNatClampNeg + 0)) (S (168 + 9 * j.toNatClampNeg + 1)) else nwd S (S 5) (S (168 + 9 * j.toNatClampNeg + 5)) (S (168 + 9 * j.toNatClampNeg + 4)) (S (168 + 9 * j.toNatClampNeg + 0)) (S (168 + 9 * j.toNatClampNeg + 1))
def mel (S : Nat → Int32) (L : Cls) (j : Int32) : Int32 := fX10_held (lsm (jwd S j) 0 L) (S (168 + 9 * j.toNatClampNeg + 4))
/-- a jar's place is as it may be -/
def JOK (S : Nat → Int32) (j : Int32) : Prop := (S (168 + 9 * j.toNatClampNeg + 5) = 12 → rP S (S (168 + 9 * j.toNatClampNeg + 6)) ∧ rN (S (168 + 9 * j.toNatClampNeg + 8)) ∧ rN (oth S (S (168 + 9 * j.toNatClampNeg + 6)) (S (168 + 9 * j.toNatClampNeg + 8)))) ∧ (¬ S (168 + 9 * j.toNatClampNeg + 5) = 12 → ¬ S (168 + 9 * j.toNatClampNeg + 5) = 13 → rN (S (168 + 9 * j.toNatClampNeg + 5)))
set_option maxHeartbeats 400000 in
theorem jc0 : jcl 0 = 4 := rfl
set_option maxHeartbeats 400000 in
theorem jc1 : jcl 1 = 5 := rfl
set_option maxHeartbeats 400000 in
theorem jc2 : jcl 2 = 6 := rfl
set_option maxHeartbeats 400000 in
theorem jc3 : jcl 3 = 7 := rfl
set_option maxHeartbeats 400000 in
theorem jc4 : jcl 4 = 8 := rfl
set_option maxHeartbeats 400000 in
theorem jc5 : jcl 5 = 0 := rfl
set_option maxHeartbeats 400000 in
theorem jc6 : jcl 6 = 1 := rfl
set_option maxHeartbeats 400000 in
theorem jc7 : jcl 7 = 2 := rfl
set_option maxHeartbeats 400000 in
theorem jc8 : jcl 8 = 3 := rfl
section jr
variable {F S : Nat → Int32} {j v : Int32}
set_option maxHeartbeats 400000 in
theorem jg0 (h : JE F S) (hj : rJ j) : fX6_get_144 9 F j 0 = S (168 + 9 * j.toNatClampNeg + 4) := jget (c := 0) h hj (by decide) (by decide)
set_option maxHeartbeats 400000 in
theorem jg1 (h : JE F S) (hj : rJ j) : fX6_get_144 9 F j 1 = S (168 + 9 * j.toNatClampNeg + 5) := jget (c := 1) h hj (by decide) (by decide)
set_option maxHeartbeats 400000 in
theorem jg2 (h : JE F S) (hj : rJ j) : fX6_get_144 9 F j 2 = S (168 + 9 * j.toNatClampNeg + 6) := jget (c := 2) h hj (by decide) (by decide)
set_option maxHeartbeats 400000 in
theorem jg3 (h : JE F S) (hj : rJ j) : fX6_get_144 9 F j 3 = S (168 + 9 * j.toNatClampNeg + 7) := jget (c := 3) h hj (by decide) (by decide)
set_option maxHeartbeats 400000 in
theorem jg4 (h : JE F S) (hj : rJ j) : fX6_get_144 9 F j 4 = S (168 + 9 * j.toNatClampNeg + 8) := jget (c := 4) h hj (by decide) (by decide)
set_option maxHeartbeats 400000 in
theorem jg5 (h : JE F S) (hj : rJ j) : fX6_get_144 9 F j 5 = S (168 + 9 * j.toNatClampNeg + 0) := jget (c := 5) h hj (by decide) (by decide)
set_option maxHeartbeats 400000 in
theorem jg6 (h : JE F S) (hj : rJ j) : fX6_get_144 9 F j 6 = S (168 + 9 * j.toNatClampNeg + 1) := jget (c := 6) h hj (by decide) (by decide)
set_option maxHeartbeats 400000 in
theorem jg7 (h : JE F S) (hj : rJ j) : fX6_get_144 9 F j 7 = S (168 + 9 * j.toNatClampNeg + 2) := jget (c := 7) h hj (by decide) (by decide)
set_option maxHeartbeats 400000 in
theorem jg8 (h : JE F S) (hj : rJ j) : fX6_get_144 9 F j 8 = S (168 + 9 * j.toNatClampNeg + 3) := jget (c := 8) h hj (by decide) (by decide)
set_option maxHeartbeats 400000 in
theorem jp0 (h : JE F S) (hj : rJ j) : JE (fX6_put_144 9 F j 0 v) (upd S (168 + 9 * j.toNatClampNeg + 4) v) := jput (c := 0) h hj (by decide) (by decide)
set_option maxHeartbeats 400000 in
theorem jp1 (h : JE F S) (hj : rJ j) : JE (fX6_put_144 9 F j 1 v) (upd S (168 + 9 * j.toNatClampNeg + 5) v) := jput (c := 1) h hj (by decide) (by decide)
set_option maxHeartbeats 400000 in
theorem jp2 (h : JE F S) (hj : rJ j) : JE (fX6_put_144 9 F j 2 v) (upd S (168 + 9 * j.toNatClampNeg + 6) v) := jput (c := 2) h hj (by decide) (by decide)
set_option maxHeartbeats 400000 in
theorem jp3 (h : JE F S) (hj : rJ j) : JE (fX6_put_144 9 F j 3 v) (upd S (168 + 9 * j.toNatClampNeg + 7) v) := jput (c := 3) h hj (by decide) (by decide)
set_option maxHeartbeats 400000 in
theorem jp4 (h : JE F S) (hj : rJ j) : JE (fX6_put_144 9 F j 4 v) (upd S (168 + 9 * j.toNatClampNeg + 8) v) := jput (c := 4) h hj (by decide) (by decide)
end jr
section jr2
variable {j : Int32}
set_option maxHeartbeats 400000 in
theorem cj0 (hj : rJ j) : (168 + 9 * j + 0).toNatClampNeg = 168 + 9 * j.toNatClampNeg + 0 := c_jr (c := 0) hj (by decide) (by decide)
set_option maxHeartbeats 400000 in
theorem cj1 (hj : rJ j) : (168 + 9 * j + 1).toNatClampNeg = 168 + 9 * j.toNatClampNeg + 1 := c_jr (c := 1) hj (by decide) (by decide)
set_option maxHeartbeats 400000 in
theorem cj2 (hj : rJ j) : (168 + 9 * j + 2).toNatClampNeg = 168 + 9 * j.toNatClampNeg + 2 := c_jr (c := 2) hj (by decide) (by decide)
set_option maxHeartbeats 400000 in
theorem cj3 (hj : rJ j) : (168 + 9 * j + 3).toNatClampNeg = 168 + 9 * j.toNatClampNeg + 3 := c_jr (c := 3) hj (by decide) (by decide)
set_option maxHeartbeats 400000 in
theorem cj4 (hj : rJ j) : (168 + 9 * j + 4).toNatClampNeg = 168 + 9 * j.toNatClampNeg + 4 := c_jr (c := 4) hj (by decide) (by decide)
set_option maxHeartbeats 400000 in
theorem cj5 (hj : rJ j) : (168 + 9 * j + 5).toNatClampNeg = 168 + 9 * j.toNatClampNeg + 5 := c_jr (c := 5) hj (by decide) (by decide)
set_option maxHeartbeats 400000 in
theorem cj6 (hj : rJ j) : (168 + 9 * j + 6).toNatClampNeg = 168 + 9 * j.toNatClampNeg + 6 := c_jr (c := 6) hj (by decide) (by decide)
set_option maxHeartbeats 400000 in
theorem cj7 (hj : rJ j) : (168 + 9 * j + 7).toNatClampNeg = 168 + 9 * j.toNatClampNeg + 7 := c_jr (c := 7) hj (by decide) (by decide)
set_option maxHeartbeats 400000 in
theorem cj8 (hj : rJ j) : (168 + 9 * j + 8).toNatClampNeg = 168 + 9 * j.toNatClampNeg + 8 := c_jr (c := 8) hj (by decide) (by decide)
end jr2
set_option maxHeartbeats 400000 in
theorem cls_mel {cF nF pF jF S so s1 s2 t1 t2 yj yo y1 y2 y3 y4 y5 : Nat → Int32} {cb ch co zp now fm yc j : Int32} {L : Cls} (hL : LWX so s1 s2 t1 t2 yj yo y1 y2 y3 y4 y5 yc L) (hn : NE nF S) (hp : PE pF S) (hJ : JE jF S) (ezp : zp = S 1) (en : now = S 5) (ef : fm = S 6) (hj : rJ j) (hk : JOK S j) (h13 : ¬ S (168 + 9 * j.toNatClampNeg + 5) = 13) : (fX0_meltOf cF cb ch co nF zp pF jF now fm so s1 s2 t1 t2 yj yo y1 y2 y3 y4 y5 yc j).2.2.2.2 = mel S L j := by
  unfold fX0_meltOf fX0_setLoadOf
  simp only [bnd, jg0 hJ hj, jg1 hJ hj, jg2 hJ hj, jg3 hJ hj, jg4 hJ hj, jg5 hJ hj, jg6 hJ hj]
  unfold mel
  by_cases d : S (168 + 9 * j.toNatClampNeg + 4) = 0
  · rw [if_pos d, d, held_0]
  · rw [if_neg d]
    by_cases w : S (168 + 9 * j.toNatClampNeg + 5) = 12
    · rw [if_pos w]
      obtain ⟨r1, r2, r3⟩ := hk.1 w
      have hw := cls_pw (cF := cF) (z := fm) (hour := now) (gone := S (168 + 9 * j.toNatClampNeg + 7)) (dr := S (168 + 9 * j.toNatClampNeg + 4)) (fe := S (168 + 9 * j.toNatClampNeg + 0)) (sa := S (168 + 9 * j.toNatClampNeg + 1)) (cb := cb) (ch := ch) (co := co) hn hp ef ezp r1 r2 r3
      have e := hL _ _ 0 (by decide) hw
      show fX10_held (fX1_sumOf so s1 s2 t1 t2 yj yo y1 y2 y3 y4 y5 yc 0 _) _ = _
      rw [e]
      unfold jwd
      rw [if_pos w, en]
    · rw [if_neg w]
      have hw := cls_nw (cF := cF) (z := fm) (hour := now) (dr := S (168 + 9 * j.toNatClampNeg + 4)) (fe := S (168 + 9 * j.toNatClampNeg + 0)) (sa := S (168 + 9 * j.toNatClampNeg + 1)) hn ef (hk.2 w h13)
      have e := hL _ _ 0 (by decide) hw
      show fX10_held (fX1_sumOf so s1 s2 t1 t2 yj yo y1 y2 y3 y4 y5 yc 0 _) _ = _
      rw [e]
      unfold jwd
      rw [if_neg w, en]
set_option maxHeartbeats 400000 in
theorem i64_0 (x : Int64) : x + (0 : Int32).toInt64 = x := by
  show x + 0 = x
  simp
set_option maxHeartbeats 400000 in
theorem ref_mel {sg cl cs S : Nat → Int32} {sk wd : Nat → Int64} {top law j : Int32} {L : Cls} (hL : LWR sg cl cs law L) (hj : rJ j) (hk : JOK S j) (h13 : ¬ S (168 + 9 * j.toNatClampNeg + 5) = 13) : (fX11_meltOf top sg cl cs sk wd S (S 6) law j).2.2.2 = mel S L j := by
  unfold fX11_meltOf fX11_meltBy
  simp only [bnd, cj0 hj, cj1 hj, cj4 hj, cj5 hj, cj6 hj, cj7 hj, cj8 hj]
  unfold mel
  by_cases w : S (168 + 9 * j.toNatClampNeg + 5) = 12
  · rw [if_pos w]
    obtain ⟨r1, r2, r3⟩ := hk.1 w
    have hw := ref_pw (w := wd) (hour := S 5) (gone := S (168 + 9 * j.toNatClampNeg + 7)) (dr := S (168 + 9 * j.toNatClampNeg + 4)) (fe := S (168 + 9 * j.toNatClampNeg + 0)) (sa := S (168 + 9 * j.toNatClampNeg + 1)) r1 r2 r3
    have e := hL _ _ sk top 0 (by decide) hw
    dsimp only
    rw [e, i64_0, bnd_held]
    unfold jwd
    rw [if_pos w]
  · rw [if_neg w]
    have hw := ref_nw (w := wd) (S := S) (hour := S 5) (dr := S (168 + 9 * j.toNatClampNeg + 4)) (fe := S (168 + 9 * j.toNatClampNeg + 0)) (sa := S (168 + 9 * j.toNatClampNeg + 1)) (hk.2 w h13)
    have e := hL _ _ sk top 0 (by decide) hw
    dsimp only
    rw [e, i64_0, bnd_held]
    unfold jwd
    rw [if_neg w]
/-- REST of a node's STORE -/
def rst (S : Nat → Int32) (L : Cls) (z hour has : Int32) : Int32 := fX10_held (lsm (nwd S hour z has 0 0) 1 L) has
set_option maxHeartbeats 400000 in
theorem cls_rst {cF nF S so s1 s2 t1 t2 yj yo y1 y2 y3 y4 y5 : Nat → Int32} {fm yc z hour has : Int32} {L : Cls} (hL : LWX so s1 s2 t1 t2 yj yo y1 y2 y3 y4 y5 yc L) (hn : NE nF S) (ef : fm = S 6) (hz : rN z) : (fX0_restOf cF nF fm so s1 s2 t1 t2 yj yo y1 y2 y3 y4 y5 yc z hour has).2 = rst S L z hour has := by
  unfold fX0_restOf rst
  by_cases d : has = 0
  · rw [if_pos d, d, held_0]
  · rw [if_neg d]
    have hw := cls_nw2 (cF := cF) (z := fm) (hour := hour) (dr := has) (fe := 0) (sa := 0) hn ef hz
    have e := hL _ _ 1 (by decide) hw
    simp only [bnd]
    rw [e]
set_option maxHeartbeats 400000 in
theorem ref_rst {sg cl cs S : Nat → Int32} {sk wd : Nat → Int64} {top law z hour has : Int32} {L : Cls} (hL : LWR sg cl cs law L) (hz : rN z) : (fX11_bounded (fX11_summed top sg cl cs sk (fX11_nodeWords wd S (S 6) hour z has 0 0) law 1).2.2 0 has.toInt64).toInt32 = rst S L z hour has := by
  have hw := ref_nw (w := wd) (S := S) (hour := hour) (dr := has) (fe := 0) (sa := 0) hz
  rw [hL _ _ sk top 1 (by decide) hw, bnd_held]
  rfl
set_option maxHeartbeats 400000 in
/-- DRAWS -/
theorem i64_nn {y : Int64} (h : 0 ≤ y.toInt) : y.toInt = (y.toBitVec.toNat : Int) ∧ y.toBitVec.toNat < 2 ^ 63 := by
  have hb := y.toBitVec.isLt
  rw [← Int64.toInt_toBitVec, BitVec.toInt_eq_toNat_cond] at h ⊢
  split at h
  · rename_i c
    rw [if_pos c]
    exact ⟨rfl, by omega⟩
  · omega
set_option maxHeartbeats 400000 in
theorem and_m31 {y : Int64} (h : 0 ≤ y.toInt) : (y &&& 2147483647).toInt = y.toInt % 2147483648 := by
  obtain ⟨e, hb⟩ := i64_nn h
  have en : (y &&& 2147483647).toBitVec.toNat = y.toBitVec.toNat % 2147483648 := by
    rw [Int64.toBitVec_and, BitVec.toNat_and]
    show y.toBitVec.toNat &&& 2 ^ 31 - 1 = _
    rw [Nat.and_two_pow_sub_one_eq_mod]
  rw [← Int64.toInt_toBitVec, BitVec.toInt_eq_toNat_cond, en, if_pos (by omega), e]
  omega
set_option maxHeartbeats 400000 in
theorem rem_m31 {y : Int64} (h : 0 ≤ y.toInt) : (y - y / 2147483648 * 2147483648).toInt = y.toInt % 2147483648 := by
  have km : (2147483648 : Int64).toInt = 2147483648 := by decide
  have hy := y.toInt_lt
  have ed : (y / 2147483648).toInt = y.toInt / 2147483648 := by
    rw [Int64.toInt_div_of_ne_right _ _ (by decide), km, Int.tdiv_eq_ediv_of_nonneg h]
  have em : (y / 2147483648 * 2147483648).toInt = y.toInt / 2147483648 * 2147483648 := by
    rw [Int64.toInt_mul, ed, km]
    exact Int.bmod_eq_of_le (by omega) (by omega)
  rw [Int64.toInt_sub, em]
  rw [Int.bmod_eq_of_le (by omega) (by omega)]
  omega
set_option maxHeartbeats 400000 in
theorem lcg_nn {x : Int32} (h : 0 ≤ x.toInt) : (x.toInt64 * 1103515245 + 12345).toInt = x.toInt * 1103515245 + 12345 := by
  have hx := x.toInt_lt
  have k1 : (1103515245 : Int64).toInt = 1103515245 := by decide
  have k2 : (12345 : Int64).toInt = 12345 := by decide
  have e1 : (x.toInt64 * 1103515245).toInt = x.toInt * 1103515245 := by
    rw [Int64.toInt_mul, Int32.toInt_toInt64, k1]
    exact Int.bmod_eq_of_le (by omega) (by omega)
  rw [Int64.toInt_add, e1, k2]
  exact Int.bmod_eq_of_le (by omega) (by omega)
set_option maxHeartbeats 400000 in
theorem t32 {y : Int64} (h0 : 0 ≤ y.toInt) (h1 : y.toInt < 2147483648) : y.toInt32.toInt = y.toInt := by
  rw [Int64.toInt_toInt32]
  exact Int.bmod_eq_of_le (by omega) (by omega)
set_option maxHeartbeats 400000 in
/-- the next x, and the draw -/
theorem draw_x {S : Nat → Int32} (h : 0 ≤ (S 7).toInt) : fX11_draw S = (upd S 7 (fX9_draw (S 7)).1, (fX9_draw (S 7)).2 - (fX9_draw (S 7)).2 / 1000 * 1000) ∧ 0 ≤ (fX9_draw (S 7)).1.toInt := by
  have e := lcg_nn h
  have h0 : 0 ≤ ((S 7).toInt64 * 1103515245 + 12345).toInt := by omega
  have a := and_m31 h0
  have b := rem_m31 h0
  unfold fX11_draw fX9_draw
  simp only [bnd, c_k7]
  generalize (S 7).toInt64 * 1103515245 + 12345 = y at h0 a b ⊢
  have eab : y &&& 2147483647 = y - y / 2147483648 * 2147483648 := Int64.toInt_inj.mp (by rw [a, b])
  rw [← eab]
  have z0 : 0 ≤ (y &&& 2147483647).toInt := by rw [a]; omega
  have z1 : (y &&& 2147483647).toInt < 2147483648 := by rw [a]; omega
  generalize y &&& 2147483647 = z at z0 z1 ⊢
  have k6 : (65536 : Int64).toInt = 65536 := by decide
  have k3 : (1000 : Int64).toInt = 1000 := by decide
  have j6 : (65536 : Int32).toInt = 65536 := by decide
  have j3 : (1000 : Int32).toInt = 1000 := by decide
  have t := t32 z0 z1
  refine ⟨Prod.ext rfl ?_, by show 0 ≤ z.toInt32.toInt; omega⟩
  show (z / 65536 - z / 65536 / 1000 * 1000).toInt32 = z.toInt32 / 65536 - z.toInt32 / 65536 / 1000 * 1000
  have d1 : (z / 65536).toInt = z.toInt / 65536 := by
    rw [Int64.toInt_div_of_ne_right _ _ (by decide), k6, Int.tdiv_eq_ediv_of_nonneg z0]
  have d2 : (z / 65536 / 1000).toInt = z.toInt / 65536 / 1000 := by
    rw [Int64.toInt_div_of_ne_right _ _ (by decide), k3, d1, Int.tdiv_eq_ediv_of_nonneg (by omega)]
  have d3 : (z / 65536 / 1000 * 1000).toInt = z.toInt / 65536 / 1000 * 1000 := by
    rw [Int64.toInt_mul, d2, k3]
    exact Int.bmod_eq_of_le (by omega) (by omega)
  have d4 : (z / 65536 - z / 65536 / 1000 * 1000).toInt = z.toInt / 65536 - z.toInt / 65536 / 1000 * 1000 := by
    rw [Int64.toInt_sub, d1, d3]
    exact Int.bmod_eq_of_le (by omega) (by omega)
  have f1 : (z.toInt32 / 65536).toInt = z.toInt / 65536 := by
    rw [Int32.toInt_div_of_ne_right _ _ (by decide), j6, t, Int.tdiv_eq_ediv_of_nonneg z0]
  have f2 : (z.toInt32 / 65536 / 1000).toInt = z.toInt / 65536 / 1000 := by
    rw [Int32.toInt_div_of_ne_right _ _ (by decide), j3, f1, Int.tdiv_eq_ediv_of_nonneg (by omega)]
  have f3 : (z.toInt32 / 65536 / 1000 * 1000).toInt = z.toInt / 65536 / 1000 * 1000 := by
    rw [zmul (by rw [f2, j3]; omega) (by rw [f2, j3]; omega), f2, j3]
  apply Int32.toInt_inj.mp
  rw [t32 (by rw [d4]; omega) (by rw [d4]; omega), d4, zsub (by rw [f1, f3]; omega) (by rw [f1, f3]; omega), f1, f3]
