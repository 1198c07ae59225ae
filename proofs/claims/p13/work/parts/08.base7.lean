def ok_nd (a b c z : Int32) : Int32 := if z = 12 then 0 else if li a.toInt64 0 400 = 0 then 0 else if li b.toInt64 0 4095 = 0 then 0 else if li c.toInt64 0 9 = 0 then 0 else 1
def ok_ps (a b h u r n z : Int32) : Int32 := if z = 20 then 0 else if hs a n = 0 then 0 else if hs b n = 0 then 0 else if a = b then 0 else if li h.toInt64 1 24 = 0 then 0 else if li u.toInt64 0 9 = 0 then 0 else if li r.toInt64 0 1000 = 0 then 0 else 1
def ok_jr (a f s m q n z : Int32) : Int32 := if z = 16 then 0 else if hs a n = 0 then 0 else if li f.toInt64 0 9 = 0 then 0 else if li s.toInt64 0 9 = 0 then 0 else if li m.toInt64 0 7 = 0 then 0 else if li q.toInt64 0 15 = 0 then 0 else 1
def ok_or (a u d q n z : Int32) : Int32 := if z = 6 then 0 else if hs a n = 0 then 0 else if li u.toInt64 0 99999 = 0 then 0 else if li d.toInt64 1 99999 = 0 then 0 else if li q.toInt64 0 9999 = 0 then 0 else 1
def ok_fe (a d q n z : Int32) : Int32 := if z = 8 then 0 else if hs a n = 0 then 0 else if li d.toInt64 0 4166 = 0 then 0 else if li q.toInt64 1 99999 = 0 then 0 else 1
def ra (ok z : Int32) : Int32 := if ok = 0 then -1 else z
def rz (ok z : Int32) : Int32 := if ok = 0 then z else z + 1
def rpd (ok : Int32) (a b : Nat → Int32) : Nat → Int32 := if ok = 0 then b else a
/-- a pass's row -/
def pd5 (f : Nat → Int32) (z p0 p1 p2 p3 p4 : Int32) : Nat → Int32 := upd (upd (upd (upd (upd f (68 + 5 * z + 0).toNatClampNeg p0) (68 + 5 * z + 1).toNatClampNeg p1) (68 + 5 * z + 2).toNatClampNeg p2) (68 + 5 * z + 3).toNatClampNeg p3) (68 + 5 * z + 4).toNatClampNeg p4
def mo_r (a z : Int32) : Int32 := if li a.toInt64 0 11 = 0 then -1 else z
def mo_z (a z : Int32) : Int32 := if li a.toInt64 0 11 = 0 then z else a
theorem hs_1 {n z : Int32} (h : ¬ hs n z = 0) : hs n z = 1 := by
  obtain ⟨a, b⟩ := hs_ne h
  simp [hs, a, b]
/-- the other end of a pass -/
def oth (f : Nat → Int32) (p n : Int32) : Int32 := if f (68 + 5 * p + 0).toNatClampNeg = n then f (68 + 5 * p + 1).toNatClampNeg else if f (68 + 5 * p + 1).toNatClampNeg = n then f (68 + 5 * p + 0).toNatClampNeg else -1
theorem oth_r {f : Nat → Int32} {pd : Nat → Int32} {zn zp zj zo zf zm zk zw p : Int32} (h : SC f zn zp zj zo zf zm zk zw pd) (h0 : ¬ p < 0) (h1 : ¬ 20 ≤ p) (n : Int32) : (¬ oth f p n < -1) ∧ ¬ 12 ≤ oth f p n := by
  obtain ⟨⟨a, b⟩, ⟨c, d⟩⟩ := S_ends h h0 h1
  unfold oth
  split
  · exact ⟨by grind, d⟩
  · split
    · exact ⟨by grind, b⟩
    · exact ⟨by decide, by decide⟩
/-- the jars' places are the same -/
def PL (f g : Nat → Int32) : Prop := ∀ j : Int32, (¬ j < 0) → (¬ 16 ≤ j) → g (168 + 9 * j + 3).toNatClampNeg = f (168 + 9 * j + 3).toNatClampNeg
theorem PL_rf (f : Nat → Int32) : PL f f := fun _ _ _ => rfl
theorem PL_u {f g : Nat → Int32} {i p k v : Int32} (h : PL f g) (h0 : ¬ p < 0) (h1 : ¬ 16 ≤ p) (e : i = 168 + 9 * p + k) (hk : k = 4 ∨ k = 5 ∨ k = 6 ∨ k = 7 ∨ k = 8) : PL f (upd g i.toNatClampNeg v) := by
  intro j j0 j1
  have hc : i.toNatClampNeg = 168 + 9 * p.toNatClampNeg + k.toNatClampNeg := by
    rw [e]
    rcases hk with rfl | rfl | rfl | rfl | rfl <;> exact c_jar h0 h1 (by decide) (by decide)
  have hk2 : k.toNatClampNeg = 4 ∨ k.toNatClampNeg = 5 ∨ k.toNatClampNeg = 6 ∨ k.toNatClampNeg = 7 ∨ k.toNatClampNeg = 8 := by
    rcases hk with rfl | rfl | rfl | rfl | rfl <;> decide
  have hd : (168 + 9 * j + 3).toNatClampNeg = 168 + 9 * j.toNatClampNeg + 3 := by rw [c_jar j0 j1 (by decide) (by decide), c_k3]
  rw [upd_ne (by omega)]
  exact h j j0 j1
theorem PL.tr {f g k : Nat → Int32} (a : PL f g) (b : PL g k) : PL f k := fun j h0 h1 => (b j h0 h1).trans (a j h0 h1)
theorem z_bits {v x : Int32} {n : Nat} (hn : v.toBitVec.toNat < n + 1) (e : x = v &&& (v - 1)) (c : ¬ v = 0) : x.toBitVec.toNat < n := by
  have h0 : v.toBitVec ≠ 0 := fun q => c (Int32.toBitVec_inj.mp q)
  have h1 : v.toBitVec.toNat ≠ 0 := fun q => h0 (BitVec.eq_of_toNat_eq q)
  have h2 : x.toBitVec = v.toBitVec &&& (v.toBitVec - 1) := by rw [e]; rfl
  rw [h2, BitVec.toNat_and]
  have h3 := Nat.and_le_right (n := v.toBitVec.toNat) (m := (v.toBitVec - 1).toNat)
  have h4 : (v.toBitVec - 1).toNat = v.toBitVec.toNat - 1 := by
    rw [BitVec.toNat_sub]
    have := v.toBitVec.isLt
    have e1 : (1 : BitVec 32).toNat = 1 := rfl
    rw [e1]
    omega
  omega
