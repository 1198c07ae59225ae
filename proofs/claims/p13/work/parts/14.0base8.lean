theorem sw_2_12 (x : Int32) : (x.toInt < 2 ∨ 12 < x.toInt) ∨ x = 2 ∨ x = 3 ∨ x = 4 ∨ x = 5 ∨ x = 6 ∨ x = 7 ∨ x = 8 ∨ x = 9 ∨ x = 10 ∨ x = 11 ∨ x = 12 := by
  by_cases h1 : x.toInt < 2
  · exact Or.inl (Or.inl h1)
  · by_cases h2 : 12 < x.toInt
    · exact Or.inl (Or.inr h2)
    · refine Or.inr ?_
      obtain ⟨j, hj, e⟩ := nI_of2 (x := x) (M := 12) (n := 12) (by decide) (by rw [Int32.lt_iff_toInt_lt, z_i0]; omega) (by rw [Int32.le_iff_toInt_le]; exact Int.not_lt.mp h2)
      have hlo : 2 ≤ j := by
        rw [e, nI_toInt (by omega)] at h1
        omega
      obtain ⟨i, rfl⟩ : ∃ i, j = i + 2 := ⟨j - 2, by omega⟩
      rw [e]
      exact co_dec (N := 11) (P := fun j => nI (j + 2) = 2 ∨ nI (j + 2) = 3 ∨ nI (j + 2) = 4 ∨ nI (j + 2) = 5 ∨ nI (j + 2) = 6 ∨ nI (j + 2) = 7 ∨ nI (j + 2) = 8 ∨ nI (j + 2) = 9 ∨ nI (j + 2) = 10 ∨ nI (j + 2) = 11 ∨ nI (j + 2) = 12) (by decide +kernel) (by omega)
/-- a sign of the reference's code: may it stand where d values lie on the stack -/
def cs_ok (x : Int32) (d : Nat) : Prop := (x &&& 15 = 0) ∨ (x &&& 15 = 1 ∧ (¬ (x >>> (4 &&& 31) : Int32) < 0) ∧ ¬ (11 : Int32) ≤ (x >>> (4 &&& 31) : Int32)) ∨ (x &&& 15 = 11 ∧ 1 ≤ d) ∨ ((¬ x &&& 15 = 0) ∧ (¬ x &&& 15 = 1) ∧ (¬ x &&& 15 = 11) ∧ 2 ≤ d)
/-- how many values lie there behind it -/
def cs_d (x : Int32) (d : Nat) : Nat := if x &&& 15 = 0 then d + 1 else if x &&& 15 = 1 then d + 1 else if x &&& 15 = 11 then d else d - 1
/-- how many were pushed -/
def cs_v (x : Int32) (v : Nat) : Nat := if x &&& 15 = 0 then v + 1 else if x &&& 15 = 1 then v + 1 else v
def dpt (f : Nat → Int32) (b : Nat) : Nat → Nat
  | 0 => 0
  | k + 1 => cs_d (f (b + k)) (dpt f b k)
def vls (f : Nat → Int32) (b : Nat) : Nat → Nat
  | 0 => 0
  | k + 1 => cs_v (f (b + k)) (vls f b k)
theorem dpt_le (f : Nat → Int32) (b n : Nat) : dpt f b n ≤ vls f b n := by
  induction n with
  | zero => exact Nat.le_refl _
  | succ k ih =>
    show cs_d _ _ ≤ cs_v _ _
    unfold cs_d cs_v
    split
    · omega
    · split
      · omega
      · split <;> omega
theorem vls_mono (f : Nat → Int32) (b : Nat) {k n : Nat} (h : k ≤ n) : vls f b k ≤ vls f b n := by
  induction n with
  | zero =>
    have : k = 0 := by omega
    rw [this]; exact Nat.le_refl _
  | succ m ih =>
    by_cases q : k = m + 1
    · rw [q]; exact Nat.le_refl _
    · refine Nat.le_trans (ih (by omega)) ?_
      show vls f b m ≤ cs_v _ _
      unfold cs_v
      split
      · omega
      · split <;> omega
def Snd (f : Nat → Int32) (b n : Nat) : Prop := ∀ k : Nat, k < n → cs_ok (f (b + k)) (dpt f b k)
/-- a piece of code that leaves one value -/
def CodeOK (f : Nat → Int32) (t b e : Int32) : Prop := ((¬ t < 0) ∧ ¬ 6 ≤ t) ∧ ((¬ b < 0) ∧ (¬ e < b) ∧ ¬ 400 < e) ∧ Snd f (400 * t.toNatClampNeg + b.toNatClampNeg) (e.toNatClampNeg - b.toNatClampNeg) ∧ dpt f (400 * t.toNatClampNeg + b.toNatClampNeg) (e.toNatClampNeg - b.toNatClampNeg) = 1 ∧ vls f (400 * t.toNatClampNeg + b.toNatClampNeg) (e.toNatClampNeg - b.toNatClampNeg) ≤ 60
/-- the middle of a piece of code -/
def RInv (f : Nat → Int32) (t b e i top : Int32) : Prop := CodeOK f t b e ∧ ((¬ i < b) ∧ ¬ e < i) ∧ top.toInt = (dpt f (400 * t.toNatClampNeg + b.toNatClampNeg) (i.toNatClampNeg - b.toNatClampNeg) : Int)
theorem R_start {f : Nat → Int32} {t b e : Int32} (h : CodeOK f t b e) : RInv f t b e b 0 := by
  refine ⟨h, ⟨by grind, h.2.1.2.1⟩, ?_⟩
  rw [Nat.sub_self, z_i0]; rfl
theorem c_400 {t i : Int32} (h0 : ¬ t < 0) (h1 : ¬ 6 ≤ t) (h2 : ¬ i < 0) (h3 : ¬ 400 < i) : (400 * t + i).toNatClampNeg = 400 * t.toNatClampNeg + i.toNatClampNeg := by
  have g0 := mt Int32.lt_iff_toInt_lt.mpr h0
  have g1 := mt Int32.le_iff_toInt_le.mpr h1
  have g2 := mt Int32.lt_iff_toInt_lt.mpr h2
  have g3 := mt Int32.lt_iff_toInt_lt.mpr h3
  rw [z_i0] at g0 g2
  rw [show (6 : Int32).toInt = 6 from by decide] at g1
  rw [show (400 : Int32).toInt = 400 from by decide] at g3
  show (400 * t + i).toInt.toNat = 400 * t.toInt.toNat + i.toInt.toNat
  have e0 : (0 + 400 * t + i).toInt = 0 + 400 * t.toInt + i.toInt := z_lin (B := 0) (K := 400) (by decide) (by decide) (by omega) (by omega) (by omega) (by omega)
  rw [Int32.zero_add] at e0
  rw [e0]
  omega
/-- the sign at i, and where one stands behind it -/
theorem R_at {f : Nat → Int32} {t b e i top x : Int32} (h : RInv f t b e i top) (hi : ¬ e ≤ i) (hx : x = f (400 * t + i).toNatClampNeg) :
    cs_ok x (dpt f (400 * t.toNatClampNeg + b.toNatClampNeg) (i.toNatClampNeg - b.toNatClampNeg)) ∧ dpt f (400 * t.toNatClampNeg + b.toNatClampNeg) (i.toNatClampNeg - b.toNatClampNeg) ≤ 60 ∧ cs_d x (dpt f (400 * t.toNatClampNeg + b.toNatClampNeg) (i.toNatClampNeg - b.toNatClampNeg)) ≤ 60 ∧
    ∀ i2 top2 : Int32, i2 = i + 1 → top2.toInt = (cs_d x (dpt f (400 * t.toNatClampNeg + b.toNatClampNeg) (i.toNatClampNeg - b.toNatClampNeg)) : Int) → RInv f t b e i2 top2 := by
  obtain ⟨hc, ⟨hb, he⟩, ht⟩ := h
  obtain ⟨⟨t0, t1⟩, ⟨b0, b1, b2⟩, hs, hd, hv⟩ := hc
  have i0 : ¬ i < 0 := by grind
  have i4 : ¬ 400 < i := by grind
  have k1 := zc_eq i0
  have k2 := zc_eq b0
  have e0 : ¬ e < 0 := by grind
  have k3 := zc_eq e0
  have l1 := mt Int32.lt_iff_toInt_lt.mpr hb
  have l2 := mt Int32.le_iff_toInt_le.mpr hi
  have hk : i.toNatClampNeg - b.toNatClampNeg < e.toNatClampNeg - b.toNatClampNeg := by omega
  have hx2 : f (400 * t.toNatClampNeg + b.toNatClampNeg + (i.toNatClampNeg - b.toNatClampNeg)) = x := by
    rw [hx, c_400 t0 t1 i0 i4]
    exact congrArg f (by omega)
  have hn : dpt f (400 * t.toNatClampNeg + b.toNatClampNeg) (i.toNatClampNeg - b.toNatClampNeg + 1) = cs_d x (dpt f (400 * t.toNatClampNeg + b.toNatClampNeg) (i.toNatClampNeg - b.toNatClampNeg)) := by
    show cs_d _ _ = _
    rw [hx2]
  have m1 := Nat.le_trans (Nat.le_trans (dpt_le f (400 * t.toNatClampNeg + b.toNatClampNeg) (i.toNatClampNeg - b.toNatClampNeg)) (vls_mono f (400 * t.toNatClampNeg + b.toNatClampNeg) (Nat.le_of_lt hk))) hv
  have m2 := Nat.le_trans (Nat.le_trans (dpt_le f (400 * t.toNatClampNeg + b.toNatClampNeg) (i.toNatClampNeg - b.toNatClampNeg + 1)) (vls_mono f (400 * t.toNatClampNeg + b.toNatClampNeg) hk)) hv
  rw [hn] at m2
  refine ⟨?_, m1, m2, fun i2 top2 hi2 ht2 => ?_⟩
  · have := hs _ hk
    rw [hx2] at this
    exact this
  · have i20 : (¬ i2 < b) ∧ (¬ e < i2) ∧ ¬ i2 < 0 := by grind
    refine ⟨⟨⟨t0, t1⟩, ⟨b0, b1, b2⟩, hs, hd, hv⟩, ⟨i20.1, i20.2.1⟩, ?_⟩
    have k4 := zc_eq i20.2.2
    have k5 : i2.toInt = i.toInt + 1 := by
      rw [hi2, zadd1]
      have := mt Int32.lt_iff_toInt_lt.mpr i4
      rw [show (400 : Int32).toInt = 400 from by decide] at this
      omega
    have k6 : i2.toNatClampNeg - b.toNatClampNeg = i.toNatClampNeg - b.toNatClampNeg + 1 := by omega
    rw [k6, hn, ht2]
theorem t_le {top : Int32} {d : Nat} {N : Int32} {n : Nat} (h : top.toInt = (d : Int)) (hd : n ≤ d) (hN : N.toInt = n) : ¬ top < N := by
  rw [Int32.lt_iff_toInt_lt, h, hN]; omega
theorem t_ge {top : Int32} {d : Nat} {N : Int32} {n : Nat} (h : top.toInt = (d : Int)) (hd : d ≤ n) (hN : N.toInt = n) : ¬ N < top := by
  rw [Int32.lt_iff_toInt_lt, h, hN]; omega
theorem t_inc {top t2 : Int32} {d : Nat} (h : top.toInt = (d : Int)) (hd : d ≤ 60) (e : t2 = top + 1) : t2.toInt = ((d + 1 : Nat) : Int) := by
  rw [e, zadd1 (by omega), h]; omega
theorem t_dec {top t2 : Int32} {d : Nat} (h : top.toInt = (d : Int)) (hd : 1 ≤ d) (e : t2 = top - 1) : t2.toInt = ((d - 1 : Nat) : Int) := by
  have := z32 top
  rw [e, zsub (by rw [show (1 : Int32).toInt = 1 from by decide]; omega) (by rw [show (1 : Int32).toInt = 1 from by decide]; omega), h, show (1 : Int32).toInt = 1 from by decide]; omega
theorem R_num {f : Nat → Int32} {t b e i top x s : Int32} (h : RInv f t b e i top) (hi : ¬ e ≤ i) (hx : x = f (400 * t + i).toNatClampNeg) (hs : s = x &&& 15) (h0 : s = 0) : ((¬ top < 0) ∧ ¬ 60 < top) ∧ ∀ i2 t2 : Int32, i2 = i + 1 → t2 = top + 1 → RInv f t b e i2 t2 := by
  obtain ⟨ha, hb, hc, hd⟩ := R_at h hi hx
  have ht := h.2.2
  refine ⟨⟨t_le ht (n := 0) (Nat.zero_le _) (by decide), t_ge ht hb (by decide)⟩, fun i2 t2 h2 h3 => hd i2 t2 h2 ?_⟩
  have : x &&& 15 = 0 := by rw [← hs]; exact h0
  unfold cs_d
  rw [if_pos this]
  exact t_inc ht hb h3
theorem R_word {f : Nat → Int32} {t b e i top x x2 s v : Int32} (h : RInv f t b e i top) (hi : ¬ e ≤ i) (hx : x = f (400 * t + i).toNatClampNeg) (hx2 : x2 = f (400 * t + i).toNatClampNeg) (hv : v = x2 >>> (4 &&& 31)) (hs : s = x &&& 15) (hn : ¬ s = 0) (h0 : s = 1) : ((¬ top < 0) ∧ ¬ 60 < top) ∧ ((¬ v < 0) ∧ ¬ 11 ≤ v) ∧ ∀ i2 t2 : Int32, i2 = i + 1 → t2 = top + 1 → RInv f t b e i2 t2 := by
  obtain ⟨ha, hb, hc, hd⟩ := R_at h hi hx
  have ht := h.2.2
  have e1 : x &&& 15 = 1 := by rw [← hs]; exact h0
  have e2 : x2 = x := hx2.trans hx.symm
  refine ⟨⟨t_le ht (n := 0) (Nat.zero_le _) (by decide), t_ge ht hb (by decide)⟩, ?_, fun i2 t2 h2 h3 => hd i2 t2 h2 ?_⟩
  · rw [hv, e2]
    rcases ha with q | q | q | q
    · rw [e1] at q; exact absurd q (by decide)
    · exact q.2
    · rw [e1] at q; exact absurd q.1 (by decide)
    · exact absurd e1 q.2.1
  · unfold cs_d
    rw [if_neg (by rw [e1]; decide), if_pos e1]
    exact t_inc ht hb h3
theorem R_not {f : Nat → Int32} {t b e i top x s : Int32} (h : RInv f t b e i top) (hi : ¬ e ≤ i) (hx : x = f (400 * t + i).toNatClampNeg) (hs : s = x &&& 15) (h0 : s = 11) : ((¬ top < 1) ∧ ¬ 60 < top) ∧ ∀ i2 t1 t2 : Int32, i2 = i + 1 → t1 = top - 1 → t2 = t1 + 1 → RInv f t b e i2 t2 := by
  obtain ⟨ha, hb, hc, hd⟩ := R_at h hi hx
  have ht := h.2.2
  have e1 : x &&& 15 = 11 := by rw [← hs]; exact h0
  have hd1 : 1 ≤ dpt f (400 * t.toNatClampNeg + b.toNatClampNeg) (i.toNatClampNeg - b.toNatClampNeg) := by
    rcases ha with q | q | q | q
    · rw [e1] at q; exact absurd q (by decide)
    · rw [e1] at q; exact absurd q.1 (by decide)
    · exact q.2
    · exact absurd e1 q.2.2.1
  refine ⟨⟨t_le ht hd1 (by decide), t_ge ht hb (by decide)⟩, fun i2 t1 t2 h2 h3 h4 => hd i2 t2 h2 ?_⟩
  unfold cs_d
  rw [if_neg (by rw [e1]; decide), if_neg (by rw [e1]; decide), if_pos e1]
  have a1 := t_dec ht hd1 h3
  have a2 := t_inc a1 (by omega) h4
  rw [a2]; omega
theorem R_bin {f : Nat → Int32} {t b e i top x s : Int32} (h : RInv f t b e i top) (hi : ¬ e ≤ i) (hx : x = f (400 * t + i).toNatClampNeg) (hs : s = x &&& 15) (n0 : ¬ s = 0) (n1 : ¬ s = 1) (n2 : ¬ s = 11) : ((¬ top < 2) ∧ ¬ 60 < top) ∧ ∀ i2 t0 t1 t2 : Int32, i2 = i + 1 → t0 = top - 1 → t1 = t0 - 1 → t2 = t1 + 1 → RInv f t b e i2 t2 := by
  obtain ⟨ha, hb, hc, hd⟩ := R_at h hi hx
  have ht := h.2.2
  rw [hs] at n0 n1 n2
  have hd1 : 2 ≤ dpt f (400 * t.toNatClampNeg + b.toNatClampNeg) (i.toNatClampNeg - b.toNatClampNeg) := by
    rcases ha with q | q | q | q
    · exact absurd q n0
    · exact absurd q.1 n1
    · exact absurd q.1 n2
    · exact q.2.2.2
  refine ⟨⟨t_le ht hd1 (by decide), t_ge ht hb (by decide)⟩, fun i2 t0 t1 t2 h2 h3 h4 h5 => hd i2 t2 h2 ?_⟩
  unfold cs_d
  rw [if_neg n0, if_neg n1, if_neg n2]
  have a1 := t_dec ht (by omega) h3
  have a2 := t_dec a1 (by omega) h4
  have a3 := t_inc a2 (by omega) h5
  rw [a3]; omega
theorem R_end {f : Nat → Int32} {t b e i top : Int32} (h : RInv f t b e i top) (hi : e ≤ i) : (¬ top < 1) ∧ ¬ 60 < top := by
  have e1 : i = e := by
    have := h.2.1.2
    grind
  have ht := h.2.2
  rw [e1, h.1.2.2.2.1] at ht
  exact ⟨t_le ht (n := 1) (Nat.le_refl _) (by decide), t_ge ht (n := 60) (by decide) (by decide)⟩
/-- the laws that are: their code is sound -/
def Linv (laws : Int32) (f cl cs : Nat → Int32) : Prop := ((¬ laws < 0) ∧ ¬ 6 < laws) ∧ ∀ t : Int32, (¬ t < 0) → (¬ laws ≤ t) → ((¬ cs t.toNatClampNeg < 0) ∧ ¬ 12 < cs t.toNatClampNeg) ∧ ∀ c a : Int32, (¬ c < 0) → (¬ cs t.toNatClampNeg ≤ c) → a = 60 * t + 5 * c →
  CodeOK f t (cl (a + 1).toNatClampNeg) (cl (a + 2).toNatClampNeg) ∧ ((¬ cl (a + 3).toNatClampNeg < 0) → CodeOK f t (cl (a + 3).toNatClampNeg) (cl (a + 4).toNatClampNeg))
