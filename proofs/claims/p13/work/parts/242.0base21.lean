theorem isw {a b t : Int32} (ha : (¬ a < 0) ∧ ¬ 400 < a) (hb : (¬ b < 0) ∧ ¬ 400 < b) (h : ¬ t ≤ a + b) : b < t := by
  have g1 := mt Int32.lt_iff_toInt_lt.mpr ha.1
  have g2 := mt Int32.lt_iff_toInt_lt.mpr ha.2
  have g3 := mt Int32.lt_iff_toInt_lt.mpr hb.1
  have g4 := mt Int32.lt_iff_toInt_lt.mpr hb.2
  have g5 := mt Int32.le_iff_toInt_le.mpr h
  rw [z_i0] at g1 g3
  rw [show (400 : Int32).toInt = 400 from by decide] at g2 g4
  rw [zadd (by omega) (by omega)] at g5
  rw [Int32.lt_iff_toInt_lt]
  omega
theorem isd_gt {f : Nat → Int32} {t a b : Int32} (h0 : ¬ isd f t a = 0) (h1 : isd f t b = 0) (h : ¬ b < a) : a < b := by
  by_cases e : a = b
  · rw [e] at h0; exact absurd h1 h0
  · grind
