/-- the first n places are copied -/
def CP (f g : Nat → Int32) (n : Int32) : Prop := ∀ j : Nat, (j : Int) < n.toInt → g j = f j
theorem CP_0 (f g : Nat → Int32) : CP f g 0 := fun j hj => by rw [z_i0] at hj; omega
theorem CP_s {f g g2 : Nat → Int32} {n m x : Int32} (h : CP f g n) (n0 : ¬ n < 0) (n6 : ¬ 360 ≤ n) (ex : x = f n.toNatClampNeg) (e : g2 = upd g n.toNatClampNeg x) (em : m = n + 1) : CP f g2 m := fun j hj => by
  have a := zc_eq n0
  have g1 := mt Int32.le_iff_toInt_le.mpr n6
  rw [show (360 : Int32).toInt = 360 from by decide] at g1
  rw [em, zadd1 (by omega)] at hj
  rw [e]
  by_cases q : n.toNatClampNeg = j
  · rw [← q, pk_us]; exact ex
  · rw [upd_ne q]; exact h j (by omega)
theorem SC_cp {f k g pd : Nat → Int32} {n m zn zp zj zo zf zm zk zw : Int32} (h : SC f zn zp zj zo zf zm zk zw pd) (a : CP f k n) (ha : 360 ≤ n) (b : CP k g m) (hb : 360 ≤ m) : SC g zn zp zj zo zf zm zk zw pd := by
  have g1 := Int32.le_iff_toInt_le.mp ha
  have g2 := Int32.le_iff_toInt_le.mp hb
  rw [show (360 : Int32).toInt = 360 from by decide] at g1 g2
  exact SC_ext h (fun i hi => (b i (by omega)).trans (a i (by omega)))
/-- an image's places -/
def shi (f : Nat → Int32) (k : Int32) : Nat → Int32 := fun j => f (360 * k.toNatClampNeg + j)
theorem c_360 {t i : Int32} (h0 : ¬ t < 0) (h1 : ¬ 3 < t) (h2 : ¬ i < 0) (h3 : ¬ 360 ≤ i) : (360 * t + i).toNatClampNeg = 360 * t.toNatClampNeg + i.toNatClampNeg := by
  have g0 := mt Int32.lt_iff_toInt_lt.mpr h0
  have g1 := mt Int32.lt_iff_toInt_lt.mpr h1
  have g2 := mt Int32.lt_iff_toInt_lt.mpr h2
  have g3 := mt Int32.le_iff_toInt_le.mpr h3
  rw [z_i0] at g0 g2
  rw [show (3 : Int32).toInt = 3 from by decide] at g1
  rw [show (360 : Int32).toInt = 360 from by decide] at g3
  show (360 * t + i).toInt.toNat = 360 * t.toInt.toNat + i.toInt.toNat
  have e0 : (0 + 360 * t + i).toInt = 0 + 360 * t.toInt + i.toInt := z_lin (B := 0) (K := 360) (by decide) (by decide) (by omega) (by omega) (by omega) (by omega)
  rw [Int32.zero_add] at e0
  rw [e0]
  omega
theorem shi_at {f : Nat → Int32} {t i x : Int32} (h0 : ¬ t < 0) (h1 : ¬ 3 < t) (h2 : ¬ i < 0) (h3 : ¬ 360 ≤ i) (e : x = f (360 * t + i).toNatClampNeg) : x = shi f t i.toNatClampNeg := by
  rw [e, c_360 h0 h1 h2 h3]; rfl
theorem SC_cp1 {f g pd : Nat → Int32} {m zn zp zj zo zf zm zk zw : Int32} (h : SC f zn zp zj zo zf zm zk zw pd) (b : CP f g m) (hb : 360 ≤ m) : SC g zn zp zj zo zf zm zk zw pd := by
  have g2 := Int32.le_iff_toInt_le.mp hb
  rw [show (360 : Int32).toInt = 360 from by decide] at g2
  exact SC_ext h (fun i hi => b i (by omega))
/-- an image being made -/
def IMP (f g0 g : Nat → Int32) (k n : Int32) : Prop := (∀ j : Nat, (j : Int) < n.toInt → g (360 * k.toNatClampNeg + j) = f j) ∧ ∀ j : Nat, (j < 360 * k.toNatClampNeg ∨ 360 * k.toNatClampNeg + 360 ≤ j) → g j = g0 j
theorem IMP_0 (f g : Nat → Int32) (k : Int32) : IMP f g g k 0 := ⟨fun j hj => by rw [z_i0] at hj; omega, fun _ _ => rfl⟩
theorem IMP_s {f g0 g g2 : Nat → Int32} {k n m x : Int32} (h : IMP f g0 g k n) (k0 : ¬ k < 0) (k3 : ¬ 3 < k) (n0 : ¬ n < 0) (n6 : ¬ 360 ≤ n) (ex : x = f n.toNatClampNeg) (e : g2 = upd g (360 * k + n).toNatClampNeg x) (em : m = n + 1) : IMP f g0 g2 k m := by
  have a := zc_eq n0
  have g1 := mt Int32.le_iff_toInt_le.mpr n6
  rw [show (360 : Int32).toInt = 360 from by decide] at g1
  rw [c_360 k0 k3 n0 n6] at e
  refine ⟨fun j hj => ?_, fun j hj => ?_⟩
  · rw [em, zadd1 (by omega)] at hj
    rw [e]
    by_cases q : n.toNatClampNeg = j
    · rw [← q, pk_us]; exact ex
    · rw [upd_ne (by omega)]; exact h.1 j (by omega)
  · rw [e, upd_ne (by omega)]; exact h.2 j hj
/-- an image: made -/
def IM (f g0 g : Nat → Int32) (k : Int32) : Prop := (∀ j : Nat, j < 360 → g (360 * k.toNatClampNeg + j) = f j) ∧ ∀ j : Nat, (j < 360 * k.toNatClampNeg ∨ 360 * k.toNatClampNeg + 360 ≤ j) → g j = g0 j
theorem IM_of {f g0 g : Nat → Int32} {k n : Int32} (h : IMP f g0 g k n) (hn : 360 ≤ n) : IM f g0 g k := by
  have g2 := Int32.le_iff_toInt_le.mp hn
  rw [show (360 : Int32).toInt = 360 from by decide] at g2
  exact ⟨fun j hj => h.1 j (by omega), h.2⟩
theorem IM.new {f g0 g pd : Nat → Int32} {k zn zp zj zo zf zm zk zw : Int32} (h : IM f g0 g k) (hs : SC f zn zp zj zo zf zm zk zw pd) : SC (shi g k) zn zp zj zo zf zm zk zw pd := SC_ext hs (fun i hi => h.1 i hi)
theorem IM.old {f g0 g pd : Nat → Int32} {k k2 zn zp zj zo zf zm zk zw : Int32} (h : IM f g0 g k) (hk : k2.toNatClampNeg ≠ k.toNatClampNeg) (hs : SC (shi g0 k2) zn zp zj zo zf zm zk zw pd) : SC (shi g k2) zn zp zj zo zf zm zk zw pd :=
  SC_ext hs (fun i hi => h.2 _ (by omega))
def MD (f g : Nat → Int32) (k : Int32) : Prop := g k.toNatClampNeg = 1 ∧ ∀ j : Nat, j ≠ k.toNatClampNeg → g j = f j
theorem MD_mk {f g : Nat → Int32} {k : Int32} (e : g = upd f k.toNatClampNeg (vp_nar .boolean 1)) : MD f g k := by
  refine ⟨?_, fun j hj => by rw [e, upd_ne (Ne.symm hj)]⟩
  rw [e, pk_us]; rfl
