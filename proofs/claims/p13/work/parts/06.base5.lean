theorem vp_g {i N : Int32} {n : Nat} (hN : N.toInt ≤ n) (h : (¬ i < 0) ∧ ¬ N ≤ i) : vp_in i n := vp_lt hN h.1 h.2
theorem upd_ne {f : Nat → Int32} {i j : Nat} {v : Int32} (h : i ≠ j) : upd f i v j = f j := pk_un (fun q => h q.symm)
theorem upd_at {g f : Nat → Int32} {i : Nat} {v : Int32} (e : g = upd f i v) : g i = v := by rw [e]; exact pk_us
theorem zc_lo {i N : Int32} {n : Nat} (hN : N.toInt = n) (h : ¬ i < N) : n ≤ i.toNatClampNeg := by
  rw [Int32.lt_iff_toInt_lt, hN] at h
  show n ≤ i.toInt.toNat
  omega
theorem zc_hi {i N : Int32} {n : Nat} (hN : N.toInt = n) (h : ¬ N ≤ i) : i.toNatClampNeg < n ∨ (i.toNatClampNeg = 0) := by
  rw [Int32.le_iff_toInt_le, hN] at h
  show i.toInt.toNat < n ∨ i.toInt.toNat = 0
  omega
theorem zc_eq {i : Int32} (h : ¬ i < 0) : i.toInt = (i.toNatClampNeg : Int) := by
  rw [Int32.lt_iff_toInt_lt, z_i0] at h
  show i.toInt = (i.toInt.toNat : Int)
  omega
theorem c_jar {j q : Int32} (h0 : ¬ j < 0) (h1 : ¬ 16 ≤ j) (h2 : ¬ q < 0) (h3 : ¬ 8 < q) : (168 + 9 * j + q).toNatClampNeg = 168 + 9 * j.toNatClampNeg + q.toNatClampNeg := by
  rw [Int32.le_iff_toInt_le] at h1
  rw [Int32.lt_iff_toInt_lt] at h0 h2 h3
  rw [show (16 : Int32).toInt = 16 from by decide] at h1
  rw [show (8 : Int32).toInt = 8 from by decide] at h3
  rw [z_i0] at h0 h2
  show (168 + 9 * j + q).toInt.toNat = 168 + 9 * j.toInt.toNat + q.toInt.toNat
  rw [z_lin (B := 168) (K := 9) (by decide) (by decide) (by omega) (by omega) (by omega) (by omega)]
  omega
theorem c_pass {j q : Int32} (h0 : ¬ j < 0) (h1 : ¬ 20 ≤ j) (h2 : ¬ q < 0) (h3 : ¬ 4 < q) : (68 + 5 * j + q).toNatClampNeg = 68 + 5 * j.toNatClampNeg + q.toNatClampNeg := by
  rw [Int32.le_iff_toInt_le] at h1
  rw [Int32.lt_iff_toInt_lt] at h0 h2 h3
  rw [show (20 : Int32).toInt = 20 from by decide] at h1
  rw [show (4 : Int32).toInt = 4 from by decide] at h3
  rw [z_i0] at h0 h2
  show (68 + 5 * j + q).toInt.toNat = 68 + 5 * j.toInt.toNat + q.toInt.toNat
  rw [z_lin (B := 68) (K := 5) (by decide) (by decide) (by omega) (by omega) (by omega) (by omega)]
  omega
/-- 0 ≤ x < 12 -/
def in12 (x : Int32) : Prop := (¬ x < 0) ∧ ¬ 12 ≤ x
/-- what the reference's said[] keeps to, its counts aside -/
def SR (f : Nat → Int32) (zp zw : Int32) : Prop :=
  (∀ p : Nat, p < 20 → in12 (f (68 + 5 * p)) ∧ in12 (f (69 + 5 * p))) ∧
  (∀ p : Nat, p < 20 → (p : Int) < zp.toInt → (¬ f (70 + 5 * p) < 1) ∧ ¬ 24 < f (70 + 5 * p)) ∧
  (∀ j : Nat, j < 16 → (¬ f (173 + 9 * j) < 0) ∧ (¬ 13 < f (173 + 9 * j)) ∧ (f (173 + 9 * j) = 12 → ((¬ f (174 + 9 * j) < 0) ∧ ¬ zp ≤ f (174 + 9 * j)) ∧ in12 (f (176 + 9 * j)))) ∧
  (∀ k : Nat, k < 6 → (k : Int) < zw.toInt → (¬ f (10 + k) < 0) ∧ ¬ zp ≤ f (10 + k)) ∧
  (∀ j : Nat, j < 16 → ¬ 15 < f (171 + 9 * j))
/-- the places of said[] that are told exactly: the way, the passes -/
def Kd (i : Nat) : Prop := (10 ≤ i ∧ i < 16) ∨ (68 ≤ i ∧ i < 168)
def PD (f pd : Nat → Int32) : Prop := ∀ i, Kd i → f i = pd i
theorem PD_u {f pd : Nat → Int32} {i : Nat} {v : Int32} (h : PD f pd) : PD (upd f i v) (upd pd i v) := by
  intro j hj
  by_cases q : i = j
  · subst q; rw [pk_us, pk_us]
  · rw [upd_ne q, upd_ne q]; exact h j hj
theorem PD_f {f pd : Nat → Int32} {i : Nat} {v : Int32} (h : PD f pd) (hi : ¬ Kd i) : PD (upd f i v) pd := by
  intro j hj
  rw [upd_ne (i := i) (j := j) (fun q => hi (by rw [q]; exact hj))]; exact h j hj
/-- what said[] keeps to: its counts by name -/
def SC (f : Nat → Int32) (zn zp zj zo zf zm zk zw : Int32) (pd : Nat → Int32) : Prop :=
  (f 0 = zn ∧ f 1 = zp ∧ f 2 = zj ∧ f 3 = zo ∧ f 4 = zf ∧ f 6 = zm ∧ f 8 = zk ∧ f 9 = zw) ∧ ((¬ zn < 0) ∧ ¬ 12 < zn) ∧ ((¬ zp < 0) ∧ ¬ 20 < zp) ∧ ((¬ zj < 0) ∧ ¬ 16 < zj) ∧ ((¬ zo < 0) ∧ ¬ 6 < zo) ∧ ((¬ zf < 0) ∧ ¬ 8 < zf) ∧ ((¬ zk < -1) ∧ ¬ 12 ≤ zk) ∧ ((¬ zw < 0) ∧ ¬ 6 < zw) ∧ SR f zp zw ∧ PD f pd
section SCs
variable {f pd : Nat → Int32} {zn zp zj zo zf zm zk zw v : Int32}
theorem SC.sr (h : SC f zn zp zj zo zf zm zk zw pd) : SR f zp zw := h.2.2.2.2.2.2.2.2.1
theorem SC.dd (h : SC f zn zp zj zo zf zm zk zw pd) : PD f pd := h.2.2.2.2.2.2.2.2.2
theorem SC_self (h : SC f zn zp zj zo zf zm zk zw pd) : SC f zn zp zj zo zf zm zk zw f := by
  obtain ⟨a, b0, b1, b2, b3, b4, b8, b9, hr, hd⟩ := h
  exact ⟨a, b0, b1, b2, b3, b4, b8, b9, hr, fun _ _ => rfl⟩
theorem SR_u {i : Nat} (h : SR f zp zw)
    (hp : ∀ p : Nat, p < 20 → (i = 68 + 5 * p → in12 v) ∧ (i = 69 + 5 * p → in12 v) ∧ (i = 70 + 5 * p → (¬ v < 1) ∧ ¬ 24 < v))
    (hw : ∀ j : Nat, j < 16 → i = 173 + 9 * j → (¬ v < 0) ∧ (¬ 13 < v) ∧ ¬ v = 12)
    (hx : ∀ j : Nat, j < 16 → (i = 174 + 9 * j ∨ i = 176 + 9 * j) → ¬ f (173 + 9 * j) = 12)
    (hk : ∀ k : Nat, k < 6 → i = 10 + k → ¬ (k : Int) < zw.toInt)
    (hq : ∀ j : Nat, j < 16 → i = 171 + 9 * j → ¬ 15 < v) : SR (upd f i v) zp zw := by
  obtain ⟨h1, h2, h3, h4, h5⟩ := h
  refine ⟨fun p hp1 => ⟨?_, ?_⟩, fun p hp1 hp2 => ?_, fun j hj => ?_, fun k hk1 hk2 => ?_, fun j hj => ?_⟩
  · by_cases q : i = 68 + 5 * p
    · rw [← q, pk_us]; exact (hp p hp1).1 q
    · rw [upd_ne q]; exact (h1 p hp1).1
  · by_cases q : i = 69 + 5 * p
    · rw [← q, pk_us]; exact (hp p hp1).2.1 q
    · rw [upd_ne q]; exact (h1 p hp1).2
  · by_cases q : i = 70 + 5 * p
    · rw [← q, pk_us]; exact (hp p hp1).2.2 q
    · rw [upd_ne q]; exact h2 p hp1 hp2
  · by_cases q : i = 173 + 9 * j
    · have e : upd f i v (173 + 9 * j) = v := by rw [← q]; exact pk_us
      rw [e]
      exact ⟨(hw j hj q).1, (hw j hj q).2.1, fun e2 => absurd e2 (hw j hj q).2.2⟩
    · rw [upd_ne q]
      refine ⟨(h3 j hj).1, (h3 j hj).2.1, fun e => ?_⟩
      by_cases q2 : i = 174 + 9 * j
      · exact absurd e (hx j hj (Or.inl q2))
      · by_cases q3 : i = 176 + 9 * j
        · exact absurd e (hx j hj (Or.inr q3))
        · rw [upd_ne q2, upd_ne q3]; exact (h3 j hj).2.2 e
  · by_cases q : i = 10 + k
    · exact absurd hk2 (hk k hk1 q)
    · rw [upd_ne q]; exact h4 k hk1 hk2
  · by_cases q : i = 171 + 9 * j
    · rw [← q, pk_us]; exact hq j hj q
    · rw [upd_ne q]; exact h5 j hj
theorem SC_u {i : Nat} (h : SC f zn zp zj zo zf zm zk zw pd) (hc : i ≠ 0 ∧ i ≠ 1 ∧ i ≠ 2 ∧ i ≠ 3 ∧ i ≠ 4 ∧ i ≠ 6 ∧ i ≠ 8 ∧ i ≠ 9) (hr : SR (upd f i v) zp zw) {pd2 : Nat → Int32} (hd : PD (upd f i v) pd2) : SC (upd f i v) zn zp zj zo zf zm zk zw pd2 := by
  obtain ⟨⟨e0, e1, e2, e3, e4, e6, e8, e9⟩, b0, b1, b2, b3, b4, b8, b9, _⟩ := h
  obtain ⟨c0, c1, c2, c3, c4, c6, c8, c9⟩ := hc
  exact ⟨⟨by rw [upd_ne c0, e0], by rw [upd_ne c1, e1], by rw [upd_ne c2, e2], by rw [upd_ne c3, e3], by rw [upd_ne c4, e4], by rw [upd_ne c6, e6], by rw [upd_ne c8, e8], by rw [upd_ne c9, e9]⟩, b0, b1, b2, b3, b4, b8, b9, hr, hd⟩
theorem SR_free {i : Nat} (h : SR f zp zw) (h1 : ∀ p : Nat, p < 20 → i ≠ 68 + 5 * p ∧ i ≠ 69 + 5 * p ∧ i ≠ 70 + 5 * p) (h2 : ∀ j : Nat, j < 16 → i ≠ 171 + 9 * j ∧ i ≠ 173 + 9 * j ∧ i ≠ 174 + 9 * j ∧ i ≠ 176 + 9 * j) (h3 : ∀ k : Nat, k < 6 → i ≠ 10 + k) : SR (upd f i v) zp zw :=
  SR_u h (fun p hp => ⟨fun q => absurd q (h1 p hp).1, fun q => absurd q (h1 p hp).2.1, fun q => absurd q (h1 p hp).2.2⟩) (fun j hj q => absurd q (h2 j hj).2.1) (fun j hj q => q.elim (fun q => absurd q (h2 j hj).2.2.1) (fun q => absurd q (h2 j hj).2.2.2)) (fun k hk q => absurd q (h3 k hk)) (fun j hj q => absurd q (h2 j hj).1)
/-- a node's row -/
theorem SC_nd {i : Int32} (h : SC f zn zp zj zo zf zm zk zw pd) (hi : (¬ i < 20) ∧ ¬ 68 ≤ i) : SC (upd f i.toNatClampNeg v) zn zp zj zo zf zm zk zw pd := by
  have a := zc_lo (n := 20) (by decide) hi.1
  have b := zc_hi (n := 68) (by decide) hi.2
  exact SC_u h (by omega) (SR_free h.sr (fun p hp => by omega) (fun j hj => by omega) (fun k hk => by omega)) (PD_f h.dd (by unfold Kd; omega))
/-- an order's or a feast's row -/
theorem SC_of {i : Int32} (h : SC f zn zp zj zo zf zm zk zw pd) (hi : ¬ i < 312) : SC (upd f i.toNatClampNeg v) zn zp zj zo zf zm zk zw pd := by
  have a := zc_lo (n := 312) (by decide) hi
  exact SC_u h (by omega) (SR_free h.sr (fun p hp => by omega) (fun j hj => by omega) (fun k hk => by omega)) (PD_f h.dd (by unfold Kd; omega))
theorem SC_5 (h : SC f zn zp zj zo zf zm zk zw pd) : SC (upd f (5 : Int32).toNatClampNeg v) zn zp zj zo zf zm zk zw pd :=
  SC_u (i := 5) h (by omega) (SR_free h.sr (fun p hp => by omega) (fun j hj => by omega) (fun k hk => by omega)) (PD_f h.dd (by unfold Kd; omega))
theorem SC_7 (h : SC f zn zp zj zo zf zm zk zw pd) : SC (upd f (7 : Int32).toNatClampNeg v) zn zp zj zo zf zm zk zw pd :=
  SC_u (i := 7) h (by omega) (SR_free h.sr (fun p hp => by omega) (fun j hj => by omega) (fun k hk => by omega)) (PD_f h.dd (by unfold Kd; omega))
theorem zc_j {j : Int32} {n : Nat} {N : Int32} (hN : N.toInt = n) (h0 : ¬ j < 0) (h1 : ¬ N ≤ j) : j.toNatClampNeg < n := by
  rw [Int32.le_iff_toInt_le, hN] at h1
  have := zc_eq h0
  omega
theorem c_k0 : (0 : Int32).toNatClampNeg = 0 := by decide
theorem c_k1 : (1 : Int32).toNatClampNeg = 1 := by decide
theorem c_k2 : (2 : Int32).toNatClampNeg = 2 := by decide
theorem c_k3 : (3 : Int32).toNatClampNeg = 3 := by decide
theorem c_k4 : (4 : Int32).toNatClampNeg = 4 := by decide
theorem c_k5 : (5 : Int32).toNatClampNeg = 5 := by decide
theorem c_k6 : (6 : Int32).toNatClampNeg = 6 := by decide
theorem c_k7 : (7 : Int32).toNatClampNeg = 7 := by decide
theorem c_k8 : (8 : Int32).toNatClampNeg = 8 := by decide
/-- felt, salt, mule, drops, hours of a jar -/
theorem SC_jf {i j k : Int32} (h : SC f zn zp zj zo zf zm zk zw pd) (h0 : ¬ j < 0) (h1 : ¬ 16 ≤ j) (e : i = 168 + 9 * j + k) (hk : k = 0 ∨ k = 1 ∨ k = 2 ∨ k = 4 ∨ k = 7) : SC (upd f i.toNatClampNeg v) zn zp zj zo zf zm zk zw pd := by
  have hj := zc_j (n := 16) (by decide) h0 h1
  have hc : i.toNatClampNeg = 168 + 9 * j.toNatClampNeg + k.toNatClampNeg := by
    rw [e]
    rcases hk with rfl | rfl | rfl | rfl | rfl <;> exact c_jar h0 h1 (by decide) (by decide)
  have hk2 : k.toNatClampNeg = 0 ∨ k.toNatClampNeg = 1 ∨ k.toNatClampNeg = 2 ∨ k.toNatClampNeg = 4 ∨ k.toNatClampNeg = 7 := by
    rcases hk with rfl | rfl | rfl | rfl | rfl <;> decide
  exact SC_u h (by omega) (SR_free h.sr (fun p hp => by omega) (fun j hj => by omega) (fun k hk => by omega)) (PD_f h.dd (by unfold Kd; omega))
/-- a jar's place -/
theorem SC_jq {i j : Int32} (h : SC f zn zp zj zo zf zm zk zw pd) (h0 : ¬ j < 0) (h1 : ¬ 16 ≤ j) (e : i = 168 + 9 * j + 3) (hv : ¬ 15 < v) : SC (upd f i.toNatClampNeg v) zn zp zj zo zf zm zk zw pd := by
  have hj := zc_j (n := 16) (by decide) h0 h1
  have hc : i.toNatClampNeg = 168 + 9 * j.toNatClampNeg + 3 := by rw [e, c_jar h0 h1 (by decide) (by decide), c_k3]
  exact SC_u h (by omega) (SR_u h.sr (fun p hp => ⟨fun q => absurd q (by omega), fun q => absurd q (by omega), fun q => absurd q (by omega)⟩) (fun j hj q => absurd q (by omega)) (fun j hj q => absurd q (by omega)) (fun k hk q => absurd q (by omega)) (fun j hj q => hv)) (PD_f h.dd (by unfold Kd; omega))
/-- where a jar is, if not on a pass -/
theorem SC_jw {i j : Int32} (h : SC f zn zp zj zo zf zm zk zw pd) (h0 : ¬ j < 0) (h1 : ¬ 16 ≤ j) (e : i = 168 + 9 * j + 5) (hv : (¬ v < 0) ∧ (¬ 13 < v) ∧ ¬ v = 12) : SC (upd f i.toNatClampNeg v) zn zp zj zo zf zm zk zw pd := by
  have hj := zc_j (n := 16) (by decide) h0 h1
  have hc : i.toNatClampNeg = 168 + 9 * j.toNatClampNeg + 5 := by rw [e, c_jar h0 h1 (by decide) (by decide), c_k5]
  exact SC_u h (by omega) (SR_u h.sr (fun p hp => ⟨fun q => absurd q (by omega), fun q => absurd q (by omega), fun q => absurd q (by omega)⟩) (fun j hj q => hv) (fun j hj q => absurd q (by omega)) (fun k hk q => absurd q (by omega)) (fun j hj q => absurd q (by omega))) (PD_f h.dd (by unfold Kd; omega))
/-- pass and end of a jar that isn't on a pass -/
theorem SC_jx {i w j k x : Int32} (h : SC f zn zp zj zo zf zm zk zw pd) (h0 : ¬ j < 0) (h1 : ¬ 16 ≤ j) (e : i = 168 + 9 * j + k) (hk : k = 6 ∨ k = 8) (ew : w = 168 + 9 * j + 5) (hw : f w.toNatClampNeg = x) (hx : ¬ x = 12) : SC (upd f i.toNatClampNeg v) zn zp zj zo zf zm zk zw pd := by
  have hj := zc_j (n := 16) (by decide) h0 h1
  have hc : i.toNatClampNeg = 168 + 9 * j.toNatClampNeg + k.toNatClampNeg := by
    rw [e]
    rcases hk with rfl | rfl <;> exact c_jar h0 h1 (by decide) (by decide)
  have hk2 : k.toNatClampNeg = 6 ∨ k.toNatClampNeg = 8 := by
    rcases hk with rfl | rfl <;> decide
  have hd : w.toNatClampNeg = 168 + 9 * j.toNatClampNeg + 5 := by rw [ew, c_jar h0 h1 (by decide) (by decide), c_k5]
  refine SC_u h (by omega) (SR_u h.sr (fun p hp => ⟨fun q => absurd q (by omega), fun q => absurd q (by omega), fun q => absurd q (by omega)⟩) (fun j hj q => absurd q (by omega)) (fun j2 hj2 q => ?_) (fun k hk q => absurd q (by omega)) (fun j hj q => absurd q (by omega))) (PD_f h.dd (by unfold Kd; omega))
  have e3 : 173 + 9 * j2 = w.toNatClampNeg := by omega
  rw [e3, hw]; exact hx
/-- sun and risk of a pass -/
theorem SC_pf {i j k : Int32} (h : SC f zn zp zj zo zf zm zk zw pd) (h0 : ¬ j < 0) (h1 : ¬ 20 ≤ j) (e : i = 68 + 5 * j + k) (hk : k = 3 ∨ k = 4) : SC (upd f i.toNatClampNeg v) zn zp zj zo zf zm zk zw (upd pd (68 + 5 * j + k).toNatClampNeg v) := by
  rw [← e]
  have hj := zc_j (n := 20) (by decide) h0 h1
  have hc : i.toNatClampNeg = 68 + 5 * j.toNatClampNeg + k.toNatClampNeg := by
    rw [e]
    rcases hk with rfl | rfl <;> exact c_pass h0 h1 (by decide) (by decide)
  have hk2 : k.toNatClampNeg = 3 ∨ k.toNatClampNeg = 4 := by
    rcases hk with rfl | rfl <;> decide
  exact SC_u h (by omega) (SR_free h.sr (fun p hp => by omega) (fun j hj => by omega) (fun k hk => by omega)) (PD_u h.dd)
/-- an end of a pass -/
theorem SC_pe {i j k : Int32} (h : SC f zn zp zj zo zf zm zk zw pd) (h0 : ¬ j < 0) (h1 : ¬ 20 ≤ j) (e : i = 68 + 5 * j + k) (hk : k = 0 ∨ k = 1) (hv : (¬ v < 0) ∧ ¬ 12 ≤ v) : SC (upd f i.toNatClampNeg v) zn zp zj zo zf zm zk zw (upd pd (68 + 5 * j + k).toNatClampNeg v) := by
  rw [← e]
  have hj := zc_j (n := 20) (by decide) h0 h1
  have hc : i.toNatClampNeg = 68 + 5 * j.toNatClampNeg + k.toNatClampNeg := by
    rw [e]
    rcases hk with rfl | rfl <;> exact c_pass h0 h1 (by decide) (by decide)
  have hk2 : k.toNatClampNeg = 0 ∨ k.toNatClampNeg = 1 := by
    rcases hk with rfl | rfl <;> decide
  exact SC_u h (by omega) (SR_u h.sr (fun p hp => ⟨fun q => hv, fun q => hv, fun q => absurd q (by omega)⟩) (fun j hj q => absurd q (by omega)) (fun j hj q => absurd q (by omega)) (fun k hk q => absurd q (by omega)) (fun j hj q => absurd q (by omega))) (PD_u h.dd)
/-- the hours of a pass -/
theorem SC_ph {i j : Int32} (h : SC f zn zp zj zo zf zm zk zw pd) (h0 : ¬ j < 0) (h1 : ¬ 20 ≤ j) (e : i = 68 + 5 * j + 2) (hv : (¬ v < 1) ∧ ¬ 24 < v) : SC (upd f i.toNatClampNeg v) zn zp zj zo zf zm zk zw (upd pd (68 + 5 * j + 2).toNatClampNeg v) := by
  rw [← e]
  have hj := zc_j (n := 20) (by decide) h0 h1
  have hc : i.toNatClampNeg = 68 + 5 * j.toNatClampNeg + 2 := by rw [e, c_pass h0 h1 (by decide) (by decide), c_k2]
  exact SC_u h (by omega) (SR_u h.sr (fun p hp => ⟨fun q => absurd q (by omega), fun q => absurd q (by omega), fun q => hv⟩) (fun j hj q => absurd q (by omega)) (fun j hj q => absurd q (by omega)) (fun k hk q => absurd q (by omega)) (fun j hj q => absurd q (by omega))) (PD_u h.dd)
theorem SR_c {i : Nat} (h : SR f zp zw) (hi : i < 10) : SR (upd f i v) zp zw :=
  SR_free h (fun p hp => by omega) (fun j hj => by omega) (fun k hk => by omega)
theorem SC_zn (h : SC f zn zp zj zo zf zm zk zw pd) (h1 : ¬ zn = 12) (e : v = zn + 1) : SC (upd f (0 : Int32).toNatClampNeg v) v zp zj zo zf zm zk zw pd := by
  obtain ⟨⟨e0, e1, e2, e3, e4, e6, e8, e9⟩, b0, b1, b2, b3, b4, b8, b9, hr, hd⟩ := h
  exact ⟨⟨pk_us, by rw [upd_ne (by decide), e1], by rw [upd_ne (by decide), e2], by rw [upd_ne (by decide), e3], by rw [upd_ne (by decide), e4], by rw [upd_ne (by decide), e6], by rw [upd_ne (by decide), e8], by rw [upd_ne (by decide), e9]⟩, by grind, b1, b2, b3, b4, b8, b9, SR_c hr (by decide), PD_f hd (by unfold Kd; decide)⟩
theorem SC_zj (h : SC f zn zp zj zo zf zm zk zw pd) (h1 : ¬ zj = 16) (e : v = zj + 1) : SC (upd f (2 : Int32).toNatClampNeg v) zn zp v zo zf zm zk zw pd := by
  obtain ⟨⟨e0, e1, e2, e3, e4, e6, e8, e9⟩, b0, b1, b2, b3, b4, b8, b9, hr, hd⟩ := h
  exact ⟨⟨by rw [upd_ne (by decide), e0], by rw [upd_ne (by decide), e1], pk_us, by rw [upd_ne (by decide), e3], by rw [upd_ne (by decide), e4], by rw [upd_ne (by decide), e6], by rw [upd_ne (by decide), e8], by rw [upd_ne (by decide), e9]⟩, b0, b1, by grind, b3, b4, b8, b9, SR_c hr (by decide), PD_f hd (by unfold Kd; decide)⟩
theorem SC_zo (h : SC f zn zp zj zo zf zm zk zw pd) (h1 : ¬ zo = 6) (e : v = zo + 1) : SC (upd f (3 : Int32).toNatClampNeg v) zn zp zj v zf zm zk zw pd := by
  obtain ⟨⟨e0, e1, e2, e3, e4, e6, e8, e9⟩, b0, b1, b2, b3, b4, b8, b9, hr, hd⟩ := h
  exact ⟨⟨by rw [upd_ne (by decide), e0], by rw [upd_ne (by decide), e1], by rw [upd_ne (by decide), e2], pk_us, by rw [upd_ne (by decide), e4], by rw [upd_ne (by decide), e6], by rw [upd_ne (by decide), e8], by rw [upd_ne (by decide), e9]⟩, b0, b1, b2, by grind, b4, b8, b9, SR_c hr (by decide), PD_f hd (by unfold Kd; decide)⟩
theorem SC_zf (h : SC f zn zp zj zo zf zm zk zw pd) (h1 : ¬ zf = 8) (e : v = zf + 1) : SC (upd f (4 : Int32).toNatClampNeg v) zn zp zj zo v zm zk zw pd := by
  obtain ⟨⟨e0, e1, e2, e3, e4, e6, e8, e9⟩, b0, b1, b2, b3, b4, b8, b9, hr, hd⟩ := h
  exact ⟨⟨by rw [upd_ne (by decide), e0], by rw [upd_ne (by decide), e1], by rw [upd_ne (by decide), e2], by rw [upd_ne (by decide), e3], pk_us, by rw [upd_ne (by decide), e6], by rw [upd_ne (by decide), e8], by rw [upd_ne (by decide), e9]⟩, b0, b1, b2, b3, by grind, b8, b9, SR_c hr (by decide), PD_f hd (by unfold Kd; decide)⟩
theorem SC_zm (h : SC f zn zp zj zo zf zm zk zw pd) : SC (upd f (6 : Int32).toNatClampNeg v) zn zp zj zo zf v zk zw pd := by
  obtain ⟨⟨e0, e1, e2, e3, e4, e6, e8, e9⟩, b0, b1, b2, b3, b4, b8, b9, hr, hd⟩ := h
  exact ⟨⟨by rw [upd_ne (by decide), e0], by rw [upd_ne (by decide), e1], by rw [upd_ne (by decide), e2], by rw [upd_ne (by decide), e3], by rw [upd_ne (by decide), e4], pk_us, by rw [upd_ne (by decide), e8], by rw [upd_ne (by decide), e9]⟩, b0, b1, b2, b3, b4, b8, b9, SR_c hr (by decide), PD_f hd (by unfold Kd; decide)⟩
/-- a pass more: its hours have been written -/
theorem SC_zp {i x : Int32} (h : SC f zn zp zj zo zf zm zk zw pd) (h1 : ¬ zp = 20) (e : v = zp + 1) (ei : i = 68 + 5 * zp + 2) (hi : f i.toNatClampNeg = x) (hx : (¬ x < 1) ∧ ¬ 24 < x) : SC (upd f (1 : Int32).toNatClampNeg v) zn v zj zo zf zm zk zw pd := by
  obtain ⟨⟨e0, e1, e2, e3, e4, e6, e8, e9⟩, b0, b1, b2, b3, b4, b8, b9, hr, hd⟩ := h
  have g1 : (¬ v < 0) ∧ ¬ 20 < v := by grind
  have g2 : zp < v := by grind
  have g3 : ¬ 20 ≤ zp := by grind
  have hc : i.toNatClampNeg = 68 + 5 * zp.toNatClampNeg + 2 := by rw [ei, c_pass b1.1 g3 (by decide) (by decide), c_k2]
  refine ⟨⟨by rw [upd_ne (by decide), e0], pk_us, by rw [upd_ne (by decide), e2], by rw [upd_ne (by decide), e3], by rw [upd_ne (by decide), e4], by rw [upd_ne (by decide), e6], by rw [upd_ne (by decide), e8], by rw [upd_ne (by decide), e9]⟩, b0, g1, b2, b3, b4, b8, b9, ?_, PD_f hd (by unfold Kd; decide)⟩
  refine SR_c ?_ (by decide)
  have hz : v.toInt = zp.toInt + 1 := by
    rw [e, zadd1]
    have := mt Int32.le_iff_toInt_le.mpr g3
    have h20 : (20 : Int32).toInt = 20 := by decide
    omega
  obtain ⟨r1, r2, r3, r4, r5⟩ := hr
  refine ⟨r1, fun p hp hv => ?_, fun j hj => ⟨(r3 j hj).1, (r3 j hj).2.1, fun q => ⟨⟨((r3 j hj).2.2 q).1.1, ?_⟩, ((r3 j hj).2.2 q).2⟩⟩, fun k hk hk2 => ⟨(r4 k hk hk2).1, ?_⟩, r5⟩
  · by_cases q : (p : Int) < zp.toInt
    · exact r2 p hp q
    · have q2 : p = zp.toNatClampNeg := by
        have := zc_eq b1.1
        omega
      have q3 : 70 + 5 * p = i.toNatClampNeg := by omega
      rw [q3, hi]; exact hx
  · have := ((r3 j hj).2.2 q).1.2
    grind
  · have := (r4 k hk hk2).2
    grind
/-- a pass more of the way -/
theorem SC_zw {x : Int32} (h : SC f zn zp zj zo zf zm zk zw pd) (h1 : ¬ zw = 6) (e : v = zw + 1) {i : Int32} (ei : i = 10 + zw) (hi : f i.toNatClampNeg = x) (hx : (¬ x < 0) ∧ ¬ zp ≤ x) : SC (upd f (9 : Int32).toNatClampNeg v) zn zp zj zo zf zm zk v pd := by
  obtain ⟨⟨e0, e1, e2, e3, e4, e6, e8, e9⟩, b0, b1, b2, b3, b4, b8, b9, hr, hd⟩ := h
  have g1 : (¬ v < 0) ∧ ¬ 6 < v := by grind
  have g3 : ¬ 6 ≤ zw := by grind
  have hz : v.toInt = zw.toInt + 1 := by
    rw [e, zadd1]
    have := mt Int32.le_iff_toInt_le.mpr g3
    have h6 : (6 : Int32).toInt = 6 := by decide
    omega
  have hc : i.toNatClampNeg = 10 + zw.toNatClampNeg := by
    show i.toInt.toNat = 10 + zw.toInt.toNat
    have g4 := mt Int32.le_iff_toInt_le.mpr g3
    have g5 := mt Int32.lt_iff_toInt_lt.mpr b9.1
    have h6 : (6 : Int32).toInt = 6 := by decide
    have h10 : (10 : Int32).toInt = 10 := by decide
    rw [z_i0] at g5
    rw [ei, zadd (by omega) (by omega), h10]
    omega
  refine ⟨⟨by rw [upd_ne (by decide), e0], by rw [upd_ne (by decide), e1], by rw [upd_ne (by decide), e2], by rw [upd_ne (by decide), e3], by rw [upd_ne (by decide), e4], by rw [upd_ne (by decide), e6], by rw [upd_ne (by decide), e8], pk_us⟩, b0, b1, b2, b3, b4, b8, g1, ?_, PD_f hd (by unfold Kd; decide)⟩
  refine SR_c ?_ (by decide)
  obtain ⟨r1, r2, r3, r4, r5⟩ := hr
  refine ⟨r1, r2, r3, fun k hk hk2 => ?_, r5⟩
  by_cases q : (k : Int) < zw.toInt
  · exact r4 k hk q
  · have q2 : k = zw.toNatClampNeg := by
      have := zc_eq b9.1
      omega
    have q3 : 10 + k = i.toNatClampNeg := by omega
    rw [q3, hi]; exact hx
/-- the row of the way behind its end -/
theorem SC_wy {i : Int32} (h : SC f zn zp zj zo zf zm zk zw pd) (h1 : ¬ zw = 6) (ei : i = 10 + zw) : SC (upd f i.toNatClampNeg v) zn zp zj zo zf zm zk zw (upd pd (10 + zw).toNatClampNeg v) := by
  rw [← ei]
  have b9 := h.2.2.2.2.2.2.2.1
  have g3 : ¬ 6 ≤ zw := by grind
  have hc : i.toNatClampNeg = 10 + zw.toNatClampNeg := by
    show i.toInt.toNat = 10 + zw.toInt.toNat
    have g4 := mt Int32.le_iff_toInt_le.mpr g3
    have g5 := mt Int32.lt_iff_toInt_lt.mpr b9.1
    have h6 : (6 : Int32).toInt = 6 := by decide
    have h10 : (10 : Int32).toInt = 10 := by decide
    rw [z_i0] at g5
    rw [ei, zadd (by omega) (by omega), h10]
    omega
  have hj := zc_j (n := 6) (by decide) b9.1 g3
  have hz := zc_eq b9.1
  exact SC_u h (by omega) (SR_u h.sr (fun p hp => ⟨fun q => absurd q (by omega), fun q => absurd q (by omega), fun q => absurd q (by omega)⟩) (fun j hj q => absurd q (by omega)) (fun j hj q => absurd q (by omega)) (fun k hk q => by omega) (fun j hj q => absurd q (by omega))) (PD_u h.dd)
theorem SC_fr {a b : Int32} (h : SC f zn zp zj zo zf zm zk zw pd) (ha : (¬ a < 0) ∧ ¬ 12 ≤ a) (hb : b = 0) : SC (upd (upd f (8 : Int32).toNatClampNeg a) (9 : Int32).toNatClampNeg b) zn zp zj zo zf zm a b pd := by
  subst hb
  obtain ⟨⟨e0, e1, e2, e3, e4, e6, e8, e9⟩, b0, b1, b2, b3, b4, b8, b9, hr, hd⟩ := h
  refine ⟨⟨by rw [upd_ne (by decide), upd_ne (by decide), e0], by rw [upd_ne (by decide), upd_ne (by decide), e1], by rw [upd_ne (by decide), upd_ne (by decide), e2], by rw [upd_ne (by decide), upd_ne (by decide), e3], by rw [upd_ne (by decide), upd_ne (by decide), e4], by rw [upd_ne (by decide), upd_ne (by decide), e6], by rw [upd_ne (by decide)]; exact pk_us, pk_us⟩, b0, b1, b2, b3, b4, by grind, by decide, ?_, PD_f (PD_f hd (by unfold Kd; decide)) (by unfold Kd; decide)⟩
  refine SR_c (SR_c ?_ (by decide)) (by decide)
  obtain ⟨r1, r2, r3, r4, r5⟩ := hr
  refine ⟨r1, r2, r3, fun k hk hk2 => ?_, r5⟩
  rw [z_i0] at hk2; omega
/-- a jar leaves by a pass -/
theorem SC_lv {a x y j q : Int32} (h : SC f zn zp zj zo zf zm zk zw pd) (h0 : ¬ j < 0) (h1 : ¬ 16 ≤ j) (ea : a = 168 + 9 * j + 8) (ex : x = 168 + 9 * j + 5) (ey : y = 168 + 9 * j + 6) (hv : (¬ v < 0) ∧ ¬ 12 ≤ v) (hq : (¬ q < 0) ∧ ¬ zp ≤ q) : SC (upd (upd (upd f a.toNatClampNeg v) x.toNatClampNeg 12) y.toNatClampNeg q) zn zp zj zo zf zm zk zw pd := by
  have hj := zc_j (n := 16) (by decide) h0 h1
  have ca : a.toNatClampNeg = 176 + 9 * j.toNatClampNeg := by rw [ea, c_jar h0 h1 (by decide) (by decide), c_k8]; omega
  have cx : x.toNatClampNeg = 173 + 9 * j.toNatClampNeg := by rw [ex, c_jar h0 h1 (by decide) (by decide), c_k5]; omega
  have cy : y.toNatClampNeg = 174 + 9 * j.toNatClampNeg := by rw [ey, c_jar h0 h1 (by decide) (by decide), c_k6]; omega
  obtain ⟨⟨e0, e1, e2, e3, e4, e6, e8, e9⟩, b0, b1, b2, b3, b4, b8, b9, hr, hd⟩ := h
  rw [ca, cx, cy]
  have un : ∀ i : Nat, i ≠ 176 + 9 * j.toNatClampNeg → i ≠ 173 + 9 * j.toNatClampNeg → i ≠ 174 + 9 * j.toNatClampNeg → upd (upd (upd f (176 + 9 * j.toNatClampNeg) v) (173 + 9 * j.toNatClampNeg) 12) (174 + 9 * j.toNatClampNeg) q i = f i := fun i i1 i2 i3 => by
    rw [upd_ne (Ne.symm i3), upd_ne (Ne.symm i2), upd_ne (Ne.symm i1)]
  obtain ⟨r1, r2, r3, r4, r5⟩ := hr
  refine ⟨⟨by rw [un _ (by omega) (by omega) (by omega), e0], by rw [un _ (by omega) (by omega) (by omega), e1], by rw [un _ (by omega) (by omega) (by omega), e2], by rw [un _ (by omega) (by omega) (by omega), e3], by rw [un _ (by omega) (by omega) (by omega), e4], by rw [un _ (by omega) (by omega) (by omega), e6], by rw [un _ (by omega) (by omega) (by omega), e8], by rw [un _ (by omega) (by omega) (by omega), e9]⟩, b0, b1, b2, b3, b4, b8, b9, ?_, fun i hi => by unfold Kd at hi; rw [un i (by omega) (by omega) (by omega)]; exact hd i hi⟩
  refine ⟨fun p hp => ?_, fun p hp hp2 => ?_, fun i hi => ?_, fun k hk hk2 => ?_, fun i hi => ?_⟩
  · rw [un _ (by omega) (by omega) (by omega), un _ (by omega) (by omega) (by omega)]; exact r1 p hp
  · rw [un _ (by omega) (by omega) (by omega)]; exact r2 p hp hp2
  · by_cases e : i = j.toNatClampNeg
    · subst e
      have w1 : upd (upd (upd f (176 + 9 * j.toNatClampNeg) v) (173 + 9 * j.toNatClampNeg) 12) (174 + 9 * j.toNatClampNeg) q (173 + 9 * j.toNatClampNeg) = 12 := by rw [upd_ne (by omega)]; exact pk_us
      have w2 : upd (upd (upd f (176 + 9 * j.toNatClampNeg) v) (173 + 9 * j.toNatClampNeg) 12) (174 + 9 * j.toNatClampNeg) q (174 + 9 * j.toNatClampNeg) = q := pk_us
      have w3 : upd (upd (upd f (176 + 9 * j.toNatClampNeg) v) (173 + 9 * j.toNatClampNeg) 12) (174 + 9 * j.toNatClampNeg) q (176 + 9 * j.toNatClampNeg) = v := by rw [upd_ne (by omega), upd_ne (by omega)]; exact pk_us
      rw [w1, w2, w3]
      exact ⟨by decide, by decide, fun _ => ⟨hq, hv⟩⟩
    · rw [un _ (by omega) (by omega) (by omega), un _ (by omega) (by omega) (by omega), un _ (by omega) (by omega) (by omega)]; exact r3 i hi
  · rw [un _ (by omega) (by omega) (by omega)]; exact r4 k hk hk2
  · rw [un _ (by omega) (by omega) (by omega)]; exact r5 i hi
theorem SC_ext {g : Nat → Int32} (h : SC f zn zp zj zo zf zm zk zw pd) (hg : ∀ i : Nat, i < 360 → g i = f i) : SC g zn zp zj zo zf zm zk zw pd := by
  obtain ⟨⟨e0, e1, e2, e3, e4, e6, e8, e9⟩, b0, b1, b2, b3, b4, b8, b9, hr, hd⟩ := h
  obtain ⟨r1, r2, r3, r4, r5⟩ := hr
  refine ⟨⟨by rw [hg _ (by decide), e0], by rw [hg _ (by decide), e1], by rw [hg _ (by decide), e2], by rw [hg _ (by decide), e3], by rw [hg _ (by decide), e4], by rw [hg _ (by decide), e6], by rw [hg _ (by decide), e8], by rw [hg _ (by decide), e9]⟩, b0, b1, b2, b3, b4, b8, b9, ?_, fun i hi => by rw [hg i (by unfold Kd at hi; omega)]; exact hd i hi⟩
  refine ⟨fun p hp => ?_, fun p hp hp2 => ?_, fun i hi => ?_, fun k hk hk2 => ?_, fun i hi => ?_⟩
  · rw [hg _ (by omega), hg _ (by omega)]; exact r1 p hp
  · rw [hg _ (by omega)]; exact r2 p hp hp2
  · rw [hg _ (by omega), hg _ (by omega), hg _ (by omega)]; exact r3 i hi
  · rw [hg _ (by omega)]; exact r4 k hk hk2
  · rw [hg _ (by omega)]; exact r5 i hi
theorem SC_new : SC (upd (fun _ => 0) 8 (-1)) 0 0 0 0 0 0 (-1) 0 (fun _ => 0) := by
  have e : ∀ j, j ≠ 8 → upd (fun _ => (0 : Int32)) 8 (-1) j = 0 := fun j hj => pk_un hj
  refine ⟨⟨e _ (by decide), e _ (by decide), e _ (by decide), e _ (by decide), e _ (by decide), e _ (by decide), pk_us, e _ (by decide)⟩, by decide, by decide, by decide, by decide, by decide, by decide, by decide, ?_, fun i hi => e i (by unfold Kd at hi; omega)⟩
  refine ⟨fun p hp => ?_, fun p hp hp2 => ?_, fun i hi => ?_, fun k hk hk2 => ?_, fun i hi => ?_⟩
  · rw [e _ (by omega), e _ (by omega)]; exact ⟨⟨by decide, by decide⟩, ⟨by decide, by decide⟩⟩
  · rw [z_i0] at hp2; omega
  · rw [e _ (by omega)]; exact ⟨by decide, by decide, fun q => absurd q (by decide)⟩
  · rw [z_i0] at hk2; omega
  · rw [e _ (by omega)]; decide
-- what is read
theorem S_ends {p : Int32} (h : SC f zn zp zj zo zf zm zk zw pd) (h0 : ¬ p < 0) (h1 : ¬ 20 ≤ p) : ((¬ f (68 + 5 * p + 0).toNatClampNeg < 0) ∧ ¬ 12 ≤ f (68 + 5 * p + 0).toNatClampNeg) ∧ ((¬ f (68 + 5 * p + 1).toNatClampNeg < 0) ∧ ¬ 12 ≤ f (68 + 5 * p + 1).toNatClampNeg) := by
  have hj := zc_j (n := 20) (by decide) h0 h1
  rw [c_pass h0 h1 (by decide) (by decide), c_pass h0 h1 (by decide) (by decide), c_k0, c_k1]
  have a := h.sr.1 _ hj
  rw [show 68 + 5 * p.toNatClampNeg + 1 = 69 + 5 * p.toNatClampNeg from by omega]
  exact a
theorem S_hours {p : Int32} (h : SC f zn zp zj zo zf zm zk zw pd) (h0 : ¬ p < 0) (h1 : ¬ zp ≤ p) : (¬ f (68 + 5 * p + 2).toNatClampNeg < 1) ∧ ¬ 24 < f (68 + 5 * p + 2).toNatClampNeg := by
  have b1 := h.2.2.1
  have h2 : ¬ 20 ≤ p := by grind
  have hj := zc_j (n := 20) (by decide) h0 h2
  have hz := zc_eq h0
  have h3 := mt Int32.le_iff_toInt_le.mpr h1
  rw [c_pass h0 h2 (by decide) (by decide), c_k2]
  rw [show 68 + 5 * p.toNatClampNeg + 2 = 70 + 5 * p.toNatClampNeg from by omega]
  exact h.sr.2.1 _ hj (by omega)
theorem S_where {j : Int32} (h : SC f zn zp zj zo zf zm zk zw pd) (h0 : ¬ j < 0) (h1 : ¬ 16 ≤ j) : (¬ f (168 + 9 * j + 5).toNatClampNeg < 0) ∧ ¬ 13 < f (168 + 9 * j + 5).toNatClampNeg := by
  have hj := zc_j (n := 16) (by decide) h0 h1
  rw [c_jar h0 h1 (by decide) (by decide), c_k5]
  rw [show 168 + 9 * j.toNatClampNeg + 5 = 173 + 9 * j.toNatClampNeg from by omega]
  exact ⟨(h.sr.2.2.1 _ hj).1, (h.sr.2.2.1 _ hj).2.1⟩
theorem S_on {j : Int32} (h : SC f zn zp zj zo zf zm zk zw pd) (h0 : ¬ j < 0) (h1 : ¬ 16 ≤ j) (hw : f (168 + 9 * j + 5).toNatClampNeg = 12) : ((¬ f (168 + 9 * j + 6).toNatClampNeg < 0) ∧ ¬ zp ≤ f (168 + 9 * j + 6).toNatClampNeg) ∧ (¬ f (168 + 9 * j + 8).toNatClampNeg < 0) ∧ ¬ 12 ≤ f (168 + 9 * j + 8).toNatClampNeg := by
  have hj := zc_j (n := 16) (by decide) h0 h1
  rw [c_jar h0 h1 (by decide) (by decide), c_k5] at hw
  rw [show 168 + 9 * j.toNatClampNeg + 5 = 173 + 9 * j.toNatClampNeg from by omega] at hw
  rw [c_jar h0 h1 (by decide) (by decide), c_jar h0 h1 (by decide) (by decide), c_k6, c_k8]
  rw [show 168 + 9 * j.toNatClampNeg + 6 = 174 + 9 * j.toNatClampNeg from by omega, show 168 + 9 * j.toNatClampNeg + 8 = 176 + 9 * j.toNatClampNeg from by omega]
  exact (h.sr.2.2.1 _ hj).2.2 hw
theorem S_place {j : Int32} (h : SC f zn zp zj zo zf zm zk zw pd) (h0 : ¬ j < 0) (h1 : ¬ 16 ≤ j) : ¬ 15 < f (168 + 9 * j + 3).toNatClampNeg := by
  have hj := zc_j (n := 16) (by decide) h0 h1
  rw [c_jar h0 h1 (by decide) (by decide), c_k3]
  rw [show 168 + 9 * j.toNatClampNeg + 3 = 171 + 9 * j.toNatClampNeg from by omega]
  exact h.sr.2.2.2.2 _ hj
theorem S_way {k : Int32} (h : SC f zn zp zj zo zf zm zk zw pd) (h0 : ¬ k < 0) (h1 : ¬ zw ≤ k) : (¬ f (10 + k).toNatClampNeg < 0) ∧ ¬ zp ≤ f (10 + k).toNatClampNeg := by
  have b9 := h.2.2.2.2.2.2.2.1
  have g3 : ¬ 6 ≤ k := by grind
  have hj := zc_j (n := 6) (by decide) h0 g3
  have hz := zc_eq h0
  have h3 := mt Int32.le_iff_toInt_le.mpr h1
  have hc : (10 + k).toNatClampNeg = 10 + k.toNatClampNeg := by
    show (10 + k).toInt.toNat = 10 + k.toInt.toNat
    have g4 := mt Int32.le_iff_toInt_le.mpr g3
    have g5 := mt Int32.lt_iff_toInt_lt.mpr h0
    have h6 : (6 : Int32).toInt = 6 := by decide
    have h10 : (10 : Int32).toInt = 10 := by decide
    rw [z_i0] at g5
    rw [zadd (by omega) (by omega), h10]
    omega
  rw [hc]
  exact h.sr.2.2.2.1 _ hj (by omega)
end SCs
theorem li_wi {n hi : Int32} {H : Int64} (h1 : hi.toInt64 = H) : li n.toInt64 0 H = wi n hi := by
  subst h1
  unfold li wi
  simp only [lg_cmp_lt, lg_cmp_gt]
  have e : ∀ a b : Int32, a.toInt64 < b.toInt64 ↔ a < b := fun a b => by rw [Int64.lt_iff_toInt_lt, Int32.lt_iff_toInt_lt]; simp
  have e0 : (0 : Int64) = (0 : Int32).toInt64 := by decide
  rw [e0]
  simp only [e]
