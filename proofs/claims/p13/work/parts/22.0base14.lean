abbrev wcl (x : Int32) : Nat := x.toNatClampNeg
theorem ss_congr {w : Int32 → Nat} {f g : Nat → Int32} : ∀ n : Nat, (∀ j : Nat, j < n → g j = f j) → ss w g n = ss w f n
  | 0, _ => rfl
  | n + 1, h => by
    show ss w g n + w (g n) = ss w f n + w (f n)
    rw [ss_congr n (fun j hj => h j (by omega)), h n (by omega)]
theorem ss_zero {f : Nat → Int32} {m : Nat} : ∀ n : Nat, m ≤ n → (∀ j : Nat, m ≤ j → j < n → f j = 0) → ss wcl f n = ss wcl f m
  | 0, h, _ => by rw [show m = 0 from by omega]
  | n + 1, h, hz => by
    by_cases q : m = n + 1
    · rw [q]
    · show ss wcl f n + wcl (f n) = ss wcl f m
      rw [ss_zero n (by omega) (fun j a b => hz j a (by omega)), hz n (by omega) (by omega)]
      rfl
theorem ss_ge {w : Int32 → Nat} {f : Nat → Int32} {j : Nat} : ∀ n : Nat, j < n → w (f j) ≤ ss w f n
  | 0, h => absurd h (Nat.not_lt_zero _)
  | n + 1, h => by
    show w (f j) ≤ ss w f n + w (f n)
    by_cases q : j = n
    · rw [q]; omega
    · have := ss_ge (w := w) (f := f) n (show j < n from by omega)
      omega
/-- the waits read as a number -/
def wv (f : Nat → Int32) : Nat → Nat
  | 0 => 0
  | n + 1 => 13 * wv f n + wcl (f n)
theorem wv_congr {f g : Nat → Int32} : ∀ n : Nat, (∀ j : Nat, j < n → g j = f j) → wv g n = wv f n
  | 0, _ => rfl
  | n + 1, h => by
    show 13 * wv g n + wcl (g n) = 13 * wv f n + wcl (f n)
    rw [wv_congr n (fun j hj => h j (by omega)), h n (by omega)]
theorem wv_ge {f : Nat → Int32} {m : Nat} : ∀ d : Nat, 13 ^ d * wv f m ≤ wv f (m + d)
  | 0 => by rw [Nat.pow_zero, Nat.one_mul]; exact Nat.le_refl _
  | d + 1 => by
    have := wv_ge (f := f) (m := m) d
    show 13 ^ (d + 1) * wv f m ≤ 13 * wv f (m + d) + wcl (f (m + d))
    rw [Nat.pow_succ, Nat.mul_right_comm]
    omega
theorem wv_lt {f : Nat → Int32} {m : Nat} : ∀ d : Nat, (∀ j : Nat, j < m + d → wcl (f j) ≤ 12) → wv f (m + d) + 1 ≤ 13 ^ d * (wv f m + 1)
  | 0, _ => by rw [Nat.pow_zero, Nat.one_mul]; exact Nat.le_refl _
  | d + 1, h => by
    have a := wv_lt (f := f) (m := m) d (fun j hj => h j (by omega))
    have b := h (m + d) (by omega)
    show 13 * wv f (m + d) + wcl (f (m + d)) + 1 ≤ 13 ^ (d + 1) * (wv f m + 1)
    rw [Nat.pow_succ, Nat.mul_right_comm]
    omega
/-- waits: none below 0, at most 12 together -/
def WI (L : Int32) (f : Nat → Int32) : Prop := (∀ j : Nat, (j : Int) < L.toInt → ¬ f j < 0) ∧ ss wcl f L.toNatClampNeg ≤ 12
def WO (L : Int32) (f g : Nat → Int32) (r : Int32) : Prop := WI L g ∧ ((r = 0 ∧ wv g L.toNatClampNeg = wv f L.toNatClampNeg) ∨ wv f L.toNatClampNeg < wv g L.toNatClampNeg)
theorem WO_no {L : Int32} {f : Nat → Int32} (h : WI L f) : WO L f f 0 := ⟨h, Or.inl ⟨rfl, rfl⟩⟩
def WR (L : Int32) (f : Nat → Int32) (i rest : Int32) : Prop := WI L f ∧ ((¬ i < -1) ∧ i.toInt + 1 < L.toInt) ∧ rest.toInt + (ss wcl f (i.toInt + 1).toNat : Int) = (ss wcl f L.toNatClampNeg : Int) ∧ (¬ rest < 0) ∧ ¬ 12 < rest
theorem WR_n {L i rest : Int32} {f : Nat → Int32} (h : WR L f i rest) (hL : (¬ L < 1) ∧ ¬ 6 < L) : i < L - 1 := by
  have g := h.2.1.2
  have g1 := mt Int32.lt_iff_toInt_lt.mpr hL.1
  rw [show (1 : Int32).toInt = 1 from by decide] at g1
  have z := z32 L
  rw [Int32.lt_iff_toInt_lt, zsub (by rw [show (1 : Int32).toInt = 1 from by decide]; omega) (by rw [show (1 : Int32).toInt = 1 from by decide]; omega), show (1 : Int32).toInt = 1 from by decide]
  omega
theorem r_bd {rest : Int32} {a b : Nat} (h : rest.toInt + (a : Int) = (b : Int)) (hab : a ≤ b) (hb : b ≤ 12) : (¬ rest < 0) ∧ ¬ 12 < rest := by
  constructor
  · rw [Int32.lt_iff_toInt_lt, z_i0]; omega
  · rw [Int32.lt_iff_toInt_lt, show (12 : Int32).toInt = 12 from by decide]; omega
theorem ss_mono {w : Int32 → Nat} {f : Nat → Int32} {m : Nat} : ∀ d : Nat, ss w f m ≤ ss w f (m + d)
  | 0 => Nat.le_refl _
  | d + 1 => Nat.le_trans (ss_mono (w := w) (f := f) (m := m) d) (Nat.le_add_right _ _)
theorem WR_start {L last rest i : Int32} {f : Nat → Int32} (h : WI L f) (hL : (¬ L < 1) ∧ ¬ 6 < L) (el : last = L - 1) (er : rest = f last.toNatClampNeg) (ei : i = last - 1) : WR L f i rest := by
  have g1 := mt Int32.lt_iff_toInt_lt.mpr hL.1
  have h1 : (1 : Int32).toInt = 1 := by decide
  rw [h1] at g1
  have z := z32 L
  have l1 : last.toInt = L.toInt - 1 := by rw [el, zsub (by rw [h1]; omega) (by rw [h1]; omega), h1]
  have i1 : i.toInt = L.toInt - 2 := by rw [ei, zsub (by rw [h1]; omega) (by rw [h1]; omega), h1]; omega
  have L0 : ¬ L < 0 := by grind
  have last0 : ¬ last < 0 := by grind
  have cL := zc_eq L0
  have cl0 := zc_eq last0
  have f0 : ¬ f last.toNatClampNeg < 0 := h.1 _ (by omega)
  have fc := zc_eq f0
  have e1 : (i.toInt + 1).toNat = last.toNatClampNeg := by omega
  have e2 : L.toNatClampNeg = last.toNatClampNeg + 1 := by omega
  have e3 : rest.toInt + (ss wcl f (i.toInt + 1).toNat : Int) = (ss wcl f L.toNatClampNeg : Int) := by
    rw [e1, e2, er, fc]
    show _ = ((ss wcl f last.toNatClampNeg + wcl (f last.toNatClampNeg) : Nat) : Int)
    unfold wcl
    omega
  have hm : ss wcl f (i.toInt + 1).toNat ≤ ss wcl f L.toNatClampNeg := by rw [e1, e2]; exact Nat.le_add_right _ _
  refine ⟨h, ⟨by rw [Int32.lt_iff_toInt_lt, show (-1 : Int32).toInt = -1 from by decide]; omega, by omega⟩, e3, r_bd e3 hm h.2⟩
theorem WR_step {L i i2 rest r2 x : Int32} {f : Nat → Int32} (h : WR L f i rest) (i0 : ¬ i < 0) (ei : i2 = i + (-1)) (ex : x = f i.toNatClampNeg) (er : r2 = rest + x) : WR L f i2 r2 := by
  obtain ⟨hw, ⟨h1, h2⟩, h3, h4, h5⟩ := h
  have g0 := mt Int32.lt_iff_toInt_lt.mpr i0
  rw [z_i0] at g0
  have ci := zc_eq i0
  have e1 : (i.toInt + 1).toNat = i.toNatClampNeg + 1 := by omega
  have i2e : i2.toInt = i.toInt - 1 := by rw [ei, zsub1 (by omega)]
  have e2 : (i2.toInt + 1).toNat = i.toNatClampNeg := by omega
  have f0 : ¬ x < 0 := by rw [ex]; exact hw.1 _ (by omega)
  have fc := zc_eq f0
  rw [e1] at h3
  have h3' : rest.toInt + ((ss wcl f i.toNatClampNeg + wcl (f i.toNatClampNeg) : Nat) : Int) = (ss wcl f L.toNatClampNeg : Int) := h3
  rw [← ex] at h3'
  have hx : wcl x = x.toNatClampNeg := rfl
  have g4 := mt Int32.lt_iff_toInt_lt.mpr h4
  rw [z_i0] at g4
  have r2e : r2.toInt = rest.toInt + x.toInt := by rw [er, zadd (by omega) (by have := hw.2; omega)]
  have e3 : r2.toInt + (ss wcl f (i2.toInt + 1).toNat : Int) = (ss wcl f L.toNatClampNeg : Int) := by rw [e2, r2e]; omega
  refine ⟨hw, ⟨?_, by omega⟩, e3, r_bd e3 (by rw [e2]; omega) hw.2⟩
  rw [Int32.lt_iff_toInt_lt, show (-1 : Int32).toInt = -1 from by decide]; omega
/-- the waits behind i are set back to 0, up to k -/
def WZ (f g : Nat → Int32) (i k : Int32) : Prop := (∀ j : Nat, j < i.toNatClampNeg → g j = f j) ∧ g i.toNatClampNeg = f i.toNatClampNeg + 1 ∧ (i < k) ∧ ∀ j : Nat, i.toNatClampNeg < j → (j : Int) < k.toInt → g j = 0
theorem WZ_start {f g : Nat → Int32} {i k x : Int32} (i0 : ¬ i < 0) (i6 : ¬ 6 ≤ i) (ex : x = f i.toNatClampNeg) (eg : g = upd f i.toNatClampNeg (x + 1)) (ek : k = i + 1) : WZ f g i k := by
  have ci := zc_eq i0
  refine ⟨fun j hj => by rw [eg, upd_ne (by omega)], by rw [eg, pk_us, ex], by grind, fun j h1 h2 => ?_⟩
  have g1 := mt Int32.le_iff_toInt_le.mpr i6
  rw [show (6 : Int32).toInt = 6 from by decide] at g1
  rw [ek, zadd1 (by omega)] at h2
  omega
theorem WZ_step {f g g2 : Nat → Int32} {i k k2 : Int32} (h : WZ f g i k) (i0 : ¬ i < 0) (k6 : ¬ 6 ≤ k) (eg : g2 = upd g k.toNatClampNeg 0) (ek : k2 = k + 1) : WZ f g2 i k2 := by
  obtain ⟨h1, h2, h3, h4⟩ := h
  have ci := zc_eq i0
  have k0 : ¬ k < 0 := by grind
  have ck := zc_eq k0
  have g3 := Int32.lt_iff_toInt_lt.mp h3
  have g1 := mt Int32.le_iff_toInt_le.mpr k6
  rw [show (6 : Int32).toInt = 6 from by decide] at g1
  refine ⟨fun j hj => by rw [eg, upd_ne (by omega)]; exact h1 j hj, by rw [eg, upd_ne (by omega)]; exact h2, by grind, fun j a b => ?_⟩
  rw [ek, zadd1 (by omega)] at b
  rw [eg]
  by_cases q : k.toNatClampNeg = j
  · rw [← q]; exact pk_us
  · rw [upd_ne q]; exact h4 j a (by omega)
theorem WO_fin {L last i k rest x : Int32} {f g g2 : Nat → Int32} (hr : WR L f i rest) (hL : (¬ L < 1) ∧ ¬ 6 < L) (el : last = L - 1) (i0 : ¬ i < 0) (r0 : ¬ rest ≤ 0) (hz : WZ f g i k) (hk : last ≤ k) (ex : x = rest - 1) (eg : g2 = upd g last.toNatClampNeg x) : WO L f g2 1 := by
  obtain ⟨hw, ⟨h1, h2⟩, h3, h4, h5⟩ := hr
  obtain ⟨z1, z2, z3, z4⟩ := hz
  have b1 : (1 : Int32).toInt = 1 := by decide
  have g1 := mt Int32.lt_iff_toInt_lt.mpr hL.1
  rw [b1] at g1
  have zz := z32 L
  have l1 : last.toInt = L.toInt - 1 := by rw [el, zsub (by rw [b1]; omega) (by rw [b1]; omega), b1]
  have L0 : ¬ L < 0 := by grind
  have last0 : ¬ last < 0 := by grind
  have cL := zc_eq L0
  have cla := zc_eq last0
  have ci := zc_eq i0
  have gk := Int32.le_iff_toInt_le.mp hk
  have gr := mt Int32.le_iff_toInt_le.mpr r0
  rw [z_i0] at gr
  have x1 : x.toInt = rest.toInt - 1 := by rw [ex, zsub (by rw [b1]; have := z32 rest; omega) (by rw [b1]; have := z32 rest; omega), b1]
  have x0 : ¬ x < 0 := by rw [Int32.lt_iff_toInt_lt, z_i0]; omega
  have cx := zc_eq x0
  have eL : L.toNatClampNeg = last.toNatClampNeg + 1 := by omega
  have fi0 : ¬ f i.toNatClampNeg < 0 := hw.1 _ (by omega)
  have fi12 : wcl (f i.toNatClampNeg) ≤ ss wcl f L.toNatClampNeg := ss_ge _ (by omega)
  have fic := zc_eq fi0
  have q1 : ∀ j : Nat, j < i.toNatClampNeg → g2 j = f j := fun j hj => by rw [eg, upd_ne (by omega)]; exact z1 j hj
  have q2 : g2 i.toNatClampNeg = f i.toNatClampNeg + 1 := by rw [eg, upd_ne (by omega)]; exact z2
  have q3 : ∀ j : Nat, i.toNatClampNeg + 1 ≤ j → j < last.toNatClampNeg → g2 j = 0 := fun j a b => by rw [eg, upd_ne (by omega)]; exact z4 j (by omega) (by omega)
  have q4 : g2 last.toNatClampNeg = x := by rw [eg]; exact pk_us
  have cfi : wcl (f i.toNatClampNeg) = (f i.toNatClampNeg).toNatClampNeg := rfl
  have hs12 := hw.2
  have fe : wcl (f i.toNatClampNeg + 1) = wcl (f i.toNatClampNeg) + 1 := c_inc fi0 (by
    rw [Int32.lt_iff_toInt_lt, show (400 : Int32).toInt = 400 from by decide]; omega)
  -- the sums
  have s1 : ss wcl g2 i.toNatClampNeg = ss wcl f i.toNatClampNeg := ss_congr _ q1
  have s2 : ss wcl g2 (i.toNatClampNeg + 1) = ss wcl f i.toNatClampNeg + (wcl (f i.toNatClampNeg) + 1) := by
    show ss wcl g2 i.toNatClampNeg + wcl (g2 i.toNatClampNeg) = _
    rw [s1, q2, fe]
  have s3 : ss wcl g2 last.toNatClampNeg = ss wcl g2 (i.toNatClampNeg + 1) := ss_zero _ (by omega) q3
  have s4 : ss wcl g2 L.toNatClampNeg = ss wcl g2 last.toNatClampNeg + wcl x := by
    rw [eL]
    show ss wcl g2 last.toNatClampNeg + wcl (g2 last.toNatClampNeg) = _
    rw [q4]
  have e1 : (i.toInt + 1).toNat = i.toNatClampNeg + 1 := by omega
  rw [e1] at h3
  have h3' : rest.toInt + ((ss wcl f i.toNatClampNeg + wcl (f i.toNatClampNeg) : Nat) : Int) = (ss wcl f L.toNatClampNeg : Int) := h3
  have cxx : wcl x = x.toNatClampNeg := rfl
  have s5 : ss wcl g2 L.toNatClampNeg = ss wcl f L.toNatClampNeg := by rw [s4, s3, s2]; omega
  refine ⟨⟨fun j hj => ?_, by rw [s5]; exact hs12⟩, Or.inr ?_⟩
  · by_cases a : j < i.toNatClampNeg
    · rw [q1 j a]; exact hw.1 j hj
    · by_cases b : j = i.toNatClampNeg
      · rw [b, q2]
        rw [Int32.lt_iff_toInt_lt, z_i0, zadd1 (by omega)]; omega
      · by_cases c : j < last.toNatClampNeg
        · rw [q3 j (by omega) c]; decide
        · rw [show j = last.toNatClampNeg from by omega, q4]; exact x0
  · have v1 : wv g2 (i.toNatClampNeg + 1) = wv f (i.toNatClampNeg + 1) + 1 := by
      show 13 * wv g2 i.toNatClampNeg + wcl (g2 i.toNatClampNeg) = 13 * wv f i.toNatClampNeg + wcl (f i.toNatClampNeg) + 1
      rw [wv_congr _ q1, q2, fe]; omega
    have hd : L.toNatClampNeg = i.toNatClampNeg + 1 + (L.toNatClampNeg - (i.toNatClampNeg + 1)) := by omega
    have v2 := wv_ge (f := g2) (m := i.toNatClampNeg + 1) (L.toNatClampNeg - (i.toNatClampNeg + 1))
    have v3 := wv_lt (f := f) (m := i.toNatClampNeg + 1) (L.toNatClampNeg - (i.toNatClampNeg + 1)) (fun j hj => Nat.le_trans (ss_ge (w := wcl) (f := f) L.toNatClampNeg (by omega)) hs12)
    rw [← hd] at v2 v3
    rw [v1] at v2
    omega
theorem wv_bd {L : Int32} {f : Nat → Int32} (h : WI L f) (hL : ¬ 6 < L) : wv f L.toNatClampNeg + 1 ≤ 13 ^ 6 := by
  have a := wv_lt (f := f) (m := 0) L.toNatClampNeg (fun j hj => Nat.le_trans (ss_ge (w := wcl) (f := f) L.toNatClampNeg (by omega)) h.2)
  rw [Nat.zero_add] at a
  have b : L.toNatClampNeg ≤ 6 := by
    have g := mt Int32.lt_iff_toInt_lt.mpr hL
    rw [show (6 : Int32).toInt = 6 from by decide] at g
    show L.toInt.toNat ≤ 6
    omega
  have c : 13 ^ L.toNatClampNeg ≤ 13 ^ 6 := Nat.pow_le_pow_right (by decide) b
  have d : wv f 0 = 0 := rfl
  rw [d] at a
  omega
theorem wm_back {L m0 m : Int32} {f g : Nat → Int32} {n : Nat} (hn : 2 * (13 ^ 6 - wv f L.toNatClampNeg) + mb m0 < n + 1) (h0 : ¬ m0 = 0) (hL : ¬ 6 < L) (h : WO L f g m) : 2 * (13 ^ 6 - wv g L.toNatClampNeg) + mb m < n := by
  have e0 : mb m0 = 1 := if_neg h0
  have b := wv_bd h.1 hL
  rcases h.2 with ⟨q, e⟩ | q
  · have e1 : mb m = 0 := if_pos q
    rw [e]; omega
  · have e1 : mb m ≤ 1 := by unfold mb; split <;> decide
    omega
/-- the first waits are 0 -/
def W0 (g : Nat → Int32) (n : Int32) : Prop := ∀ j : Nat, (j : Int) < n.toInt → g j = 0
theorem W0_0 (g : Nat → Int32) : W0 g 0 := fun j hj => by rw [z_i0] at hj; omega
theorem W0_s {g g2 : Nat → Int32} {n m : Int32} (h : W0 g n) (n0 : ¬ n < 0) (n6 : ¬ 6 ≤ n) (e : g2 = upd g n.toNatClampNeg 0) (em : m = n + 1) : W0 g2 m := fun j hj => by
  have a := zc_eq n0
  have g1 := mt Int32.le_iff_toInt_le.mpr n6
  rw [show (6 : Int32).toInt = 6 from by decide] at g1
  rw [em, zadd1 (by omega)] at hj
  rw [e]
  by_cases q : n.toNatClampNeg = j
  · rw [← q]; exact pk_us
  · rw [upd_ne q]; exact h j (by omega)
theorem WI_start {L n last late : Int32} {g g2 : Nat → Int32} (h : W0 g n) (hn : L ≤ n) (hL : (¬ L < 1) ∧ ¬ 6 < L) (el : last = L - 1) (hl : (¬ late < 0) ∧ ¬ 12 < late) (e : g2 = upd g last.toNatClampNeg late) : WI L g2 := by
  have gn := Int32.le_iff_toInt_le.mp hn
  have b1 : (1 : Int32).toInt = 1 := by decide
  have g1 := mt Int32.lt_iff_toInt_lt.mpr hL.1
  rw [b1] at g1
  have zz := z32 L
  have l1 : last.toInt = L.toInt - 1 := by rw [el, zsub (by rw [b1]; omega) (by rw [b1]; omega), b1]
  have L0 : ¬ L < 0 := by grind
  have last0 : ¬ last < 0 := by grind
  have cL := zc_eq L0
  have cla := zc_eq last0
  have cle := zc_eq hl.1
  have gl := mt Int32.lt_iff_toInt_lt.mpr hl.2
  rw [show (12 : Int32).toInt = 12 from by decide] at gl
  have eL : L.toNatClampNeg = last.toNatClampNeg + 1 := by omega
  refine ⟨fun j hj => ?_, ?_⟩
  · rw [e]
    by_cases q : last.toNatClampNeg = j
    · rw [← q, pk_us]; exact hl.1
    · rw [upd_ne q, h j (by omega)]; decide
  · rw [eL]
    show ss wcl g2 last.toNatClampNeg + wcl (g2 last.toNatClampNeg) ≤ 12
    have z : ss wcl g2 last.toNatClampNeg = ss wcl g2 0 := ss_zero _ (Nat.zero_le _) (fun j _ hj => by rw [e, upd_ne (by omega)]; exact h j (by omega))
    rw [z, e, pk_us]
    show 0 + late.toNatClampNeg ≤ 12
    omega
