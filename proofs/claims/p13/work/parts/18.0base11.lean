theorem z_st100 {v x : Int32} {n : Nat} (hn : (100000 - v.toInt).toNat < n + 1) (e : x = v + 100) (c : ¬ 100000 ≤ v) (h0 : ¬ v < 0) : (100000 - x.toInt).toNat < n := by
  have g := mt Int32.le_iff_toInt_le.mpr c
  have g0 := mt Int32.lt_iff_toInt_lt.mpr h0
  rw [show (100000 : Int32).toInt = 100000 from by decide] at g
  rw [z_i0] at g0
  have h100 : (100 : Int32).toInt = 100 := by decide
  rw [e, zadd (by omega) (by omega), h100]
  omega
