theorem zmul {a b : Int32} (h1 : -2147483648 ≤ a.toInt * b.toInt) (h2 : a.toInt * b.toInt < 2147483648) : (a * b).toInt = a.toInt * b.toInt := by
  rw [Int32.toInt_mul]
  exact Int.bmod_eq_of_le (by omega) (by omega)
/-- b + k * p + q, reckoned without wrap -/
theorem z_lin {b k p q : Int32} {B K : Int} (hb : b.toInt = B) (hk : k.toInt = K) (hB : 0 ≤ B ∧ B ≤ 2000) (hK : 0 ≤ K ∧ K ≤ 400) (hp : -1 ≤ p.toInt ∧ p.toInt ≤ 400) (hq : 0 ≤ q.toInt ∧ q.toInt ≤ 2000) : (b + k * p + q).toInt = B + K * p.toInt + q.toInt := by
  have h1 : -400 ≤ K * p.toInt ∧ K * p.toInt ≤ 160000 := by
    constructor
    · have := Int.mul_le_mul_of_nonneg_left hp.1 hK.1
      have h2 : K * -1 = -K := by omega
      omega
    · have h2 : K * p.toInt ≤ K * 400 := Int.mul_le_mul_of_nonneg_left hp.2 hK.1
      have h3 : K * 400 ≤ 400 * 400 := Int.mul_le_mul_of_nonneg_right hK.2 (by omega)
      omega
  have e1 : (k * p).toInt = K * p.toInt := by rw [zmul (by rw [hk]; omega) (by rw [hk]; omega), hk]
  have e2 : (b + k * p).toInt = B + K * p.toInt := by rw [zadd (by rw [hb, e1]; omega) (by rw [hb, e1]; omega), hb, e1]
  rw [zadd (by rw [e2]; omega) (by rw [e2]; omega), e2]
theorem ix_node {p q : Int32} (h0 : ¬ p < -1) (h1 : ¬ 12 < p) (h2 : ¬ q < 0) (h3 : ¬ 3 < q) : vp_in (20 + 4 * p + q) 360 := by
  rw [Int32.lt_iff_toInt_lt] at *
  have e1 : (-1 : Int32).toInt = -1 := by decide
  have e2 : (12 : Int32).toInt = 12 := by decide
  have e3 : (3 : Int32).toInt = 3 := by decide
  rw [e1] at h0; rw [e2] at h1; rw [z_i0] at h2; rw [e3] at h3
  rw [vp_in_iff, z_lin (B := 20) (K := 4) (by decide) (by decide) (by omega) (by omega) (by omega) (by omega)]
  omega
theorem ix_pass {p q : Int32} (h0 : ¬ p < 0) (h1 : ¬ 20 ≤ p) (h2 : ¬ q < 0) (h3 : ¬ 4 < q) : vp_in (68 + 5 * p + q) 360 := by
  rw [Int32.le_iff_toInt_le] at h1
  rw [Int32.lt_iff_toInt_lt] at h0 h2 h3
  have e2 : (20 : Int32).toInt = 20 := by decide
  have e3 : (4 : Int32).toInt = 4 := by decide
  rw [z_i0] at h0 h2; rw [e2] at h1; rw [e3] at h3
  rw [vp_in_iff, z_lin (B := 68) (K := 5) (by decide) (by decide) (by omega) (by omega) (by omega) (by omega)]
  omega
theorem ix_jar {p q : Int32} (h0 : ¬ p < 0) (h1 : ¬ 16 ≤ p) (h2 : ¬ q < 0) (h3 : ¬ 8 < q) : vp_in (168 + 9 * p + q) 360 := by
  rw [Int32.le_iff_toInt_le] at h1
  rw [Int32.lt_iff_toInt_lt] at h0 h2 h3
  have e2 : (16 : Int32).toInt = 16 := by decide
  have e3 : (8 : Int32).toInt = 8 := by decide
  rw [z_i0] at h0 h2; rw [e2] at h1; rw [e3] at h3
  rw [vp_in_iff, z_lin (B := 168) (K := 9) (by decide) (by decide) (by omega) (by omega) (by omega) (by omega)]
  omega
