/-- the passes that are still to be tried, at each step of a search -/
def NXI (zp k : Int32) (f : Nat → Int32) : Prop := ∀ i : Nat, (i : Int) ≤ k.toInt → (¬ f i < 0) ∧ ¬ zp < f i
theorem NX_0 {zp : Int32} {f : Nat → Int32} (h : f 0 = 0) (hz : ¬ zp < 0) : NXI zp 0 f := fun i hi => by
  have e : i = 0 := by rw [z_i0] at hi; omega
  rw [e, h]; exact ⟨by decide, hz⟩
theorem NX_at {zp k : Int32} {f : Nat → Int32} (h : NXI zp k f) (k0 : ¬ k < 0) : (¬ f k.toNatClampNeg < 0) ∧ ¬ zp < f k.toNatClampNeg := h _ (by have := zc_eq k0; omega)
theorem NX_dec {zp k k2 : Int32} {f : Nat → Int32} (h : NXI zp k f) (k0 : ¬ k < 0) (e : k2 = k + (-1)) : NXI zp k2 f := fun i hi => h i (by
  have g := mt Int32.lt_iff_toInt_lt.mpr k0
  rw [z_i0] at g
  rw [e, zsub1 (by omega)] at hi
  omega)
theorem NX_inc {zp k x y : Int32} {f g : Nat → Int32} (h : NXI zp k f) (k0 : ¬ k < 0) (z20 : ¬ 20 < zp) (ex : x = f k.toNatClampNeg) (hx : ¬ x = zp) (ey : y = f k.toNatClampNeg) (eg : g = upd f k.toNatClampNeg (y + 1)) : NXI zp k g := fun i hi => by
  obtain ⟨a, b⟩ := NX_at h k0
  rw [← ey] at a b
  have exy : x = y := ex.trans ey.symm
  rw [eg]
  by_cases q : k.toNatClampNeg = i
  · rw [← q, pk_us]; grind
  · rw [upd_ne q]; exact h i hi
theorem NX_push {zp k k2 x y : Int32} {f g g2 : Nat → Int32} (h : NXI zp k f) (k0 : ¬ k < 0) (k6 : ¬ 6 ≤ k) (z0 : ¬ zp < 0) (z20 : ¬ 20 < zp) (ex : x = f k.toNatClampNeg) (hx : ¬ x = zp) (ey : y = f k.toNatClampNeg) (eg : g = upd f k.toNatClampNeg (y + 1)) (ek : k2 = k + 1) (eh : g2 = upd g k2.toNatClampNeg 0) : NXI zp k2 g2 := fun i hi => by
  have hg := NX_inc h k0 z20 ex hx ey eg
  have h20 : ¬ k2 < 0 := by grind
  rw [eh]
  by_cases q : k2.toNatClampNeg = i
  · rw [← q, pk_us]; exact ⟨by decide, z0⟩
  · rw [upd_ne q]
    refine hg i ?_
    have a := zc_eq h20
    have b := zc_eq k0
    have c6 := mt Int32.le_iff_toInt_le.mpr k6
    rw [show (6 : Int32).toInt = 6 from by decide] at c6
    have e2 : k2.toInt = k.toInt + 1 := by rw [ek, zadd1 (by omega)]
    omega
def sm (P : Nat) (f : Nat → Int32) : Nat → Nat
  | 0 => 0
  | n + 1 => sm P f n + (P + 1 - (f n).toNatClampNeg) * 22 ^ (6 - n)
theorem sm_same {P : Nat} {f : Nat → Int32} {i : Nat} {v : Int32} : ∀ n : Nat, n ≤ i → sm P (upd f i v) n = sm P f n
  | 0, _ => rfl
  | n + 1, h => by
    show sm P (upd f i v) n + (P + 1 - (upd f i v n).toNatClampNeg) * 22 ^ (6 - n) = _
    rw [sm_same n (by omega), upd_ne (by omega)]
    rfl
def sms (zp k : Int32) (f : Nat → Int32) : Nat := sm zp.toNatClampNeg f (k.toInt + 1).toNat
theorem sms_at {zp k : Int32} {f : Nat → Int32} (k0 : ¬ k < 0) : sms zp k f = sm zp.toNatClampNeg f k.toNatClampNeg + (zp.toNatClampNeg + 1 - (f k.toNatClampNeg).toNatClampNeg) * 22 ^ (6 - k.toNatClampNeg) := by
  have a := zc_eq k0
  have e : (k.toInt + 1).toNat = k.toNatClampNeg + 1 := by omega
  unfold sms
  rw [e]
  rfl
theorem z_le_c {a b : Int32} (h0 : ¬ a < 0) (h : ¬ b < a) : a.toNatClampNeg ≤ b.toNatClampNeg := by
  have g := mt Int32.lt_iff_toInt_lt.mpr h
  show a.toInt.toNat ≤ b.toInt.toNat
  omega
theorem sm_dec {zp k k2 : Int32} {f : Nat → Int32} {n : Nat} (hn : sms zp k f < n + 1) (h : NXI zp k f) (k0 : ¬ k < 0) (e : k2 = k + (-1)) : sms zp k2 f < n := by
  have a := zc_eq k0
  rw [sms_at k0] at hn
  have g := mt Int32.lt_iff_toInt_lt.mpr k0
  rw [z_i0] at g
  have e2 : (k2.toInt + 1).toNat = k.toNatClampNeg := by
    rw [e, zsub1 (by omega)]
    omega
  unfold sms
  rw [e2]
  obtain ⟨b, c⟩ := NX_at h k0
  have d := z_le_c b c
  have p : 1 ≤ (zp.toNatClampNeg + 1 - (f k.toNatClampNeg).toNatClampNeg) * 22 ^ (6 - k.toNatClampNeg) := Nat.mul_pos (by omega) (Nat.pow_pos (by decide))
  omega
theorem c_inc {y : Int32} (h0 : ¬ y < 0) (h1 : ¬ 400 < y) : (y + 1).toNatClampNeg = y.toNatClampNeg + 1 := by
  have g := mt Int32.lt_iff_toInt_lt.mpr h0
  have g1 := mt Int32.lt_iff_toInt_lt.mpr h1
  rw [show (400 : Int32).toInt = 400 from by decide] at g1
  rw [z_i0] at g
  show (y + 1).toInt.toNat = y.toInt.toNat + 1
  rw [zadd1 (by omega)]
  omega
theorem z_lt_c {a b : Int32} (h0 : ¬ a < 0) (h : a < b) : a.toNatClampNeg < b.toNatClampNeg := by
  have g := Int32.lt_iff_toInt_lt.mp h
  have g0 := mt Int32.lt_iff_toInt_lt.mpr h0
  rw [z_i0] at g0
  show a.toInt.toNat < b.toInt.toNat
  omega
theorem sm_incv {zp k x y : Int32} {f g : Nat → Int32} (h : NXI zp k f) (k0 : ¬ k < 0) (z20 : ¬ 20 < zp) (ex : x = f k.toNatClampNeg) (hx : ¬ x = zp) (ey : y = f k.toNatClampNeg) (eg : g = upd f k.toNatClampNeg (y + 1)) : sms zp k f = sms zp k g + 22 ^ (6 - k.toNatClampNeg) := by
  obtain ⟨b, c⟩ := NX_at h k0
  rw [sms_at k0, sms_at k0, eg, sm_same _ (Nat.le_refl _), pk_us]
  rw [← ey] at b c
  have exy : x = y := ex.trans ey.symm
  have l : y < zp := by grind
  have d := z_lt_c b l
  rw [← ey, c_inc b (by grind)]
  have e1 : zp.toNatClampNeg + 1 - y.toNatClampNeg = (zp.toNatClampNeg + 1 - (y.toNatClampNeg + 1)) + 1 := by omega
  rw [e1, Nat.succ_mul]
  omega
theorem sm_inc {zp k x y : Int32} {f g : Nat → Int32} {n : Nat} (hn : sms zp k f < n + 1) (h : NXI zp k f) (k0 : ¬ k < 0) (z20 : ¬ 20 < zp) (ex : x = f k.toNatClampNeg) (hx : ¬ x = zp) (ey : y = f k.toNatClampNeg) (eg : g = upd f k.toNatClampNeg (y + 1)) : sms zp k g < n := by
  have a := sm_incv h k0 z20 ex hx ey eg
  have p : 1 ≤ 22 ^ (6 - k.toNatClampNeg) := Nat.pow_pos (by decide)
  omega
theorem sm_push {zp k k2 x y : Int32} {f g g2 : Nat → Int32} {n : Nat} (hn : sms zp k f < n + 1) (h : NXI zp k f) (k0 : ¬ k < 0) (k6 : ¬ 6 ≤ k) (z0 : ¬ zp < 0) (z20 : ¬ 20 < zp) (ex : x = f k.toNatClampNeg) (hx : ¬ x = zp) (ey : y = f k.toNatClampNeg) (eg : g = upd f k.toNatClampNeg (y + 1)) (ek : k2 = k + 1) (eh : g2 = upd g k2.toNatClampNeg 0) : sms zp k2 g2 < n := by
  have a := sm_incv h k0 z20 ex hx ey eg
  have h20 : ¬ k2 < 0 := by grind
  have kc : k2.toNatClampNeg = k.toNatClampNeg + 1 := by rw [ek]; exact c_inc k0 (by grind)
  have j6 := zc_j (n := 6) (by decide) k0 k6
  have z2 := zc_hi (i := zp) (N := 21) (n := 21) (by decide) (by grind)
  rw [sms_at h20, eh, sm_same _ (Nat.le_refl _), pk_us, kc, c_k0]
  have e3 : sm zp.toNatClampNeg g (k.toNatClampNeg + 1) = sms zp k g := by rw [sms_at k0]; rfl
  rw [e3]
  have e4 : 6 - k.toNatClampNeg = (6 - (k.toNatClampNeg + 1)) + 1 := by omega
  have e5 : 22 ^ (6 - k.toNatClampNeg) = 22 ^ (6 - (k.toNatClampNeg + 1)) * 22 := by rw [e4, Nat.pow_succ]
  have p : 1 ≤ 22 ^ (6 - (k.toNatClampNeg + 1)) := Nat.pow_pos (by decide)
  have q : (zp.toNatClampNeg + 1 - 0) * 22 ^ (6 - (k.toNatClampNeg + 1)) ≤ 21 * 22 ^ (6 - (k.toNatClampNeg + 1)) := Nat.mul_le_mul_right _ (by omega)
  omega
