set_option maxHeartbeats 400000 in
theorem SC_whole {f pd : Nat → Int32} {a b c d e g zk zw : Int32} (h : SC f a b c d e g zk zw pd) : SC f (f 0) (f 1) (f 2) (f 3) (f 4) (f 6) (f 8) (f 9) f := by
  have s := SC_self h
  obtain ⟨e0, e1, e2, e3, e4, e6, e8, e9⟩ := h.1
  rw [e0, e1, e2, e3, e4, e6, e8, e9]
  exact s
set_option maxHeartbeats 400000 in
theorem SRp_of {f pd : Nat → Int32} {a b c d e g zk zw : Int32} (h : SC f a b c d e g zk zw pd) : SRp f := by
  obtain ⟨e0, e1, e2, e3, e4, e6, e8, e9⟩ := h.1
  have hp := h.2.2.1.2
  obtain ⟨r1, r2, r3, r4, r5⟩ := h.sr
  rw [Int32.lt_iff_toInt_lt, show (20 : Int32).toInt = 20 from by decide] at hp
  refine ⟨r1, ?_, by rw [e1]; omega⟩
  rw [e1]
  exact r2
set_option maxHeartbeats 400000 in
theorem cpy_48 {f g : Nat → Int32} {i : Nat} (h : i < 48) : fX6_copyFrom_x48 g f i = f i := by
  show (if (0 : Int32).toNatClampNeg ≤ i ∧ i < (0 : Int32).toNatClampNeg + (48 : Int32).toNatClampNeg then f ((0 : Int32).toNatClampNeg + (i - (0 : Int32).toNatClampNeg)) else g i) = f i
  rw [c_k0, show (48 : Int32).toNatClampNeg = 48 from by decide, if_pos ⟨Nat.zero_le _, by omega⟩, Nat.zero_add, Nat.sub_zero]
set_option maxHeartbeats 400000 in
theorem cpy_144 {f g : Nat → Int32} {i : Nat} (h : i < 144) : fX6_copyFrom_x144 g f i = f i := by
  show (if (0 : Int32).toNatClampNeg ≤ i ∧ i < (0 : Int32).toNatClampNeg + (144 : Int32).toNatClampNeg then f ((0 : Int32).toNatClampNeg + (i - (0 : Int32).toNatClampNeg)) else g i) = f i
  rw [c_k0, show (144 : Int32).toNatClampNeg = 144 from by decide, if_pos ⟨Nat.zero_le _, by omega⟩, Nat.zero_add, Nat.sub_zero]
set_option maxHeartbeats 400000 in
theorem cpy_24 {f g : Nat → Int32} {i : Nat} (h : i < 24) : fX6_copyFrom_x24 g f i = f i := by
  show (if (0 : Int32).toNatClampNeg ≤ i ∧ i < (0 : Int32).toNatClampNeg + (24 : Int32).toNatClampNeg then f ((0 : Int32).toNatClampNeg + (i - (0 : Int32).toNatClampNeg)) else g i) = f i
  rw [c_k0, show (24 : Int32).toNatClampNeg = 24 from by decide, if_pos ⟨Nat.zero_le _, by omega⟩, Nat.zero_add, Nat.sub_zero]
set_option maxHeartbeats 400000 in
theorem NE_cc {a1 a2 a3 a4 a5 a6 b1 b2 b3 b4 b5 b6 S : Nat → Int32} (h : NE a1 S) : NE (fX10_image_some a1 a2 a3 a4 a5 a6 b1 b2 b3 b4 b5 b6).1 S := fun i hi => (show fX6_copyFrom_x48 b1 a1 i = S (20 + i) from (cpy_48 (by omega)).trans (h i hi))
set_option maxHeartbeats 400000 in
theorem OE_cc {a1 a2 a3 a4 a5 a6 b1 b2 b3 b4 b5 b6 S : Nat → Int32} (h : OE a4 S) : OE (fX10_image_some a1 a2 a3 a4 a5 a6 b1 b2 b3 b4 b5 b6).2.2.2.1 S := fun i hi => (show fX6_copyFrom_x24 b4 a4 i = S (312 + i) from (cpy_24 (by omega)).trans (h i hi))
set_option maxHeartbeats 400000 in
theorem FE_cc {a1 a2 a3 a4 a5 a6 b1 b2 b3 b4 b5 b6 S : Nat → Int32} (h : FE a5 S) : FE (fX10_image_some a1 a2 a3 a4 a5 a6 b1 b2 b3 b4 b5 b6).2.2.2.2.1 S := fun i hi => (show fX6_copyFrom_x24 b5 a5 i = S (336 + i) from (cpy_24 (by omega)).trans (h i hi))
set_option maxHeartbeats 400000 in
theorem JE_cc {a1 a2 a3 a4 a5 a6 b1 b2 b3 b4 b5 b6 S : Nat → Int32} (h : JE a3 S) : JE (fX10_image_some a1 a2 a3 a4 a5 a6 b1 b2 b3 b4 b5 b6).2.2.1 S := fun j c hj hc => (show fX6_copyFrom_x144 b3 a3 (9 * j + c) = S (168 + 9 * j + jcl c) from (cpy_144 (by omega)).trans (h j c hj hc))
set_option maxHeartbeats 400000 in
theorem NE_cb {a1 a2 a3 a4 a5 a6 b1 b2 b3 b4 b5 b6 S : Nat → Int32} (h : NE b1 S) : NE (fX10_back_some a1 a2 a3 a4 a5 a6 b1 b2 b3 b4 b5 b6).1 S := fun i hi => (show fX6_copyFrom_x48 a1 b1 i = S (20 + i) from (cpy_48 (by omega)).trans (h i hi))
set_option maxHeartbeats 400000 in
theorem OE_cb {a1 a2 a3 a4 a5 a6 b1 b2 b3 b4 b5 b6 S : Nat → Int32} (h : OE b4 S) : OE (fX10_back_some a1 a2 a3 a4 a5 a6 b1 b2 b3 b4 b5 b6).2.2.2.1 S := fun i hi => (show fX6_copyFrom_x24 a4 b4 i = S (312 + i) from (cpy_24 (by omega)).trans (h i hi))
set_option maxHeartbeats 400000 in
theorem FE_cb {a1 a2 a3 a4 a5 a6 b1 b2 b3 b4 b5 b6 S : Nat → Int32} (h : FE b5 S) : FE (fX10_back_some a1 a2 a3 a4 a5 a6 b1 b2 b3 b4 b5 b6).2.2.2.2.1 S := fun i hi => (show fX6_copyFrom_x24 a5 b5 i = S (336 + i) from (cpy_24 (by omega)).trans (h i hi))
set_option maxHeartbeats 400000 in
theorem JE_cb {a1 a2 a3 a4 a5 a6 b1 b2 b3 b4 b5 b6 S : Nat → Int32} (h : JE b3 S) : JE (fX10_back_some a1 a2 a3 a4 a5 a6 b1 b2 b3 b4 b5 b6).2.2.1 S := fun j c hj hc => (show fX6_copyFrom_x144 a3 b3 (9 * j + c) = S (168 + 9 * j + jcl c) from (cpy_144 (by omega)).trans (h j c hj hc))
set_option maxHeartbeats 400000 in
theorem NE_cn {a1 a2 a3 a4 a5 a6 S : Nat → Int32} (h : NE a1 S) : NE (fX10_image_none a1 a2 a3 a4 a5 a6).1 S := fun i hi => (show fX6_copyFrom_x48 (fun _ => 0) a1 i = S (20 + i) from (cpy_48 (by omega)).trans (h i hi))
set_option maxHeartbeats 400000 in
theorem OE_cn {a1 a2 a3 a4 a5 a6 S : Nat → Int32} (h : OE a4 S) : OE (fX10_image_none a1 a2 a3 a4 a5 a6).2.2.2.1 S := fun i hi => (show fX6_copyFrom_x24 (fun _ => 0) a4 i = S (312 + i) from (cpy_24 (by omega)).trans (h i hi))
set_option maxHeartbeats 400000 in
theorem FE_cn {a1 a2 a3 a4 a5 a6 S : Nat → Int32} (h : FE a5 S) : FE (fX10_image_none a1 a2 a3 a4 a5 a6).2.2.2.2.1 S := fun i hi => (show fX6_copyFrom_x24 (fun _ => 0) a5 i = S (336 + i) from (cpy_24 (by omega)).trans (h i hi))
set_option maxHeartbeats 400000 in
theorem JE_cn {a1 a2 a3 a4 a5 a6 S : Nat → Int32} (h : JE a3 S) : JE (fX10_image_none a1 a2 a3 a4 a5 a6).2.2.1 S := fun j c hj hc => (show fX6_copyFrom_x144 (fun _ => 0) a3 (9 * j + c) = S (168 + 9 * j + jcl c) from (cpy_144 (by omega)).trans (h j c hj hc))

/-- the world as an image tells it -/
def bkW (c S : Nat → Int32) : Nat → Int32 := fun i => if i < 360 then c i else S i
def mixW (c g : Nat → Int32) (a : Nat) : Nat → Int32 := fun i => if a ≤ i ∧ i < 360 then c i else g i
set_option maxHeartbeats 400000 in
theorem mixW_u {c g : Nat → Int32} {a : Nat} (h : a < 360) : mixW c (upd g a (c a)) (a + 1) = mixW c g a := by
  funext i
  unfold mixW
  by_cases q : a = i
  · subst q
    rw [if_neg (by omega), if_pos (by omega), pk_us]
  · by_cases r : a + 1 ≤ i ∧ i < 360
    · rw [if_pos r, if_pos (by omega)]
    · rw [if_neg r, if_neg (by omega), upd_ne q]
set_option maxHeartbeats 400000 in
theorem mixW_e {c g : Nat → Int32} : mixW c g 360 = g := by
  funext i
  unfold mixW
  rw [if_neg (by omega)]
set_option maxHeartbeats 400000 in
theorem k360 : (360 : Int32).toInt = 360 := by decide
set_option maxHeartbeats 400000 in
theorem ref_back {imF c : Nat → Int32} {p : Int32} {E : (Nat → Int32) → Int32 → ((Nat → Int32) × Int32)} (hc : ∀ i : Nat, i < 360 → imF (360 * p.toNatClampNeg + i) = c i) (p0 : 0 ≤ p.toInt) (p3 : p.toInt ≤ 3) : ∀ (n N : Nat) (g : Nat → Int32) (i : Int32), 0 ≤ i.toInt → i.toInt + n = 360 → n < N → fl_mX11_back_some_25 imF p E N g i = E (mixW c g i.toNatClampNeg) 360 := by
  intro n
  induction n with
  | zero =>
    intro N g i i0 iz hN
    obtain ⟨N, rfl⟩ : ∃ m, N = m + 1 := ⟨N - 1, by omega⟩
    have e : i = 360 := Int32.toInt_inj.mp (by rw [k360]; omega)
    show fb_mX11_back_some_25 imF p E (fl_mX11_back_some_25 imF p E N) g i = _
    unfold fb_mX11_back_some_25
    rw [e, if_pos (by decide), show (360 : Int32).toNatClampNeg = 360 from by decide, mixW_e]
  | succ n ih =>
    intro N g i i0 iz hN
    obtain ⟨N, rfl⟩ : ∃ m, N = m + 1 := ⟨N - 1, by omega⟩
    have ti := tn_eq i0
    have tp := tn_eq p0
    have ei : (i + 1).toInt = i.toInt + 1 := zadd1 (by omega)
    have t1 : (i + 1).toNatClampNeg = i.toNatClampNeg + 1 := by show (i + 1).toInt.toNat = i.toInt.toNat + 1; omega
    have ex : (360 * p + i).toNatClampNeg = 360 * p.toNatClampNeg + i.toNatClampNeg := by
      have em : (360 * p).toInt = 360 * p.toInt := by rw [zmul (by rw [k360]; omega) (by rw [k360]; omega), k360]
      have ea : (360 * p + i).toInt = 360 * p.toInt + i.toInt := by rw [zadd (by rw [em]; omega) (by rw [em]; omega), em]
      show (360 * p + i).toInt.toNat = 360 * p.toInt.toNat + i.toInt.toNat
      omega
    show fb_mX11_back_some_25 imF p E (fl_mX11_back_some_25 imF p E N) g i = _
    unfold fb_mX11_back_some_25
    rw [if_neg (show ¬ 360 ≤ i by rw [Int32.le_iff_toInt_le, k360]; omega), bndv (show imF (360 * p + i).toNatClampNeg = c i.toNatClampNeg by rw [ex]; exact hc _ (by omega)), bnd_eq, bnd_eq, ih N _ (i + 1) (by omega) (by omega) (by omega), t1, mixW_u (by omega)]
set_option maxHeartbeats 400000 in
theorem back_x {imF c S : Nat → Int32} {p : Int32} (hc : ∀ i : Nat, i < 360 → imF (360 * p.toNatClampNeg + i) = c i) (p0 : 0 ≤ p.toInt) (p3 : p.toInt ≤ 3) : fX11_back_some S imF p = (bkW c S, c 5) := by
  unfold fX11_back_some
  rw [ref_back hc p0 p3 360 _ S 0 (by decide) (by decide) (by decide), c_k0]
  have e : mixW c S 0 = bkW c S := by
    funext i
    unfold mixW bkW
    by_cases q : i < 360
    · rw [if_pos q, if_pos ⟨Nat.zero_le _, q⟩]
    · rw [if_neg q, if_neg (by omega)]
  show (mixW c S 0, mixW c S 0 5) = _
  rw [e]
  rfl
set_option maxHeartbeats 400000 in
theorem bkW_at {c S : Nat → Int32} {i : Nat} (h : i < 360) : bkW c S i = c i := if_pos h
set_option maxHeartbeats 400000 in
theorem IV_bk {c S : Nat → Int32} (h : IV c) : IV (bkW c S) := IV_fr h (fun i hi => bkW_at (by omega)) (by rw [bkW_at (by decide)]; exact h.2.2.2.2.2.2.2) (by rw [bkW_at (by decide)]; exact h.2.2.2.2.1)
