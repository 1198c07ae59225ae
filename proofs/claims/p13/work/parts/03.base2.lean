theorem z32 (v : Int32) : -2147483648 ≤ v.toInt ∧ v.toInt < 2147483648 := ⟨Int32.le_toInt v, Int32.toInt_lt v⟩
theorem zadd1 {v : Int32} (h : v.toInt < 2147483647) : (v + 1).toInt = v.toInt + 1 := by
  have h1 := z32 v
  have e : (1 : Int32).toInt = 1 := by decide
  rw [Int32.toInt_add, e]
  exact Int.bmod_eq_of_le (by omega) (by omega)
theorem zsub1 {v : Int32} (h : -2147483648 < v.toInt) : (v + (-1)).toInt = v.toInt - 1 := by
  have h1 := z32 v
  have e : (-1 : Int32).toInt = -1 := by decide
  rw [Int32.toInt_add, e]
  rw [show v.toInt + -1 = v.toInt - 1 by omega]
  exact Int.bmod_eq_of_le (by omega) (by omega)
theorem z_i0 : (0 : Int32).toInt = 0 := by decide
theorem vp_lt {i N : Int32} {n : Nat} (hN : N.toInt ≤ n) (h0 : ¬ i < 0) (h1 : ¬ N ≤ i) : vp_in i n := by
  rw [Int32.lt_iff_toInt_lt, z_i0] at h0
  rw [Int32.le_iff_toInt_le] at h1
  exact vp_in_iff.mpr ⟨by omega, by omega⟩
theorem vp_le {i N : Int32} {n : Nat} (hN : N.toInt < n) (h0 : ¬ i < 0) (h1 : ¬ N < i) : vp_in i n := by
  rw [Int32.lt_iff_toInt_lt, z_i0] at h0
  rw [Int32.lt_iff_toInt_lt] at h1
  exact vp_in_iff.mpr ⟨by omega, by omega⟩
theorem z_tr {i b N : Int32} (h : ¬ b ≤ i) (h2 : ¬ N < b) : ¬ N ≤ i := by
  rw [Int32.le_iff_toInt_le] at *
  rw [Int32.lt_iff_toInt_lt] at h2
  omega
theorem z_up_lit {N M i : Int32} (hM : N.toInt ≤ M.toInt) (h : ¬ N ≤ i) : ¬ M ≤ i := by
  rw [Int32.le_iff_toInt_le] at *
  omega
theorem z_nlt_lit {N M i : Int32} (hM : N.toInt ≤ M.toInt) (h : ¬ N < i) : ¬ M < i := by
  rw [Int32.lt_iff_toInt_lt] at *
  omega
theorem z_nle_nlt {N M i : Int32} (hM : N.toInt ≤ M.toInt + 1) (h : ¬ N ≤ i) : ¬ M < i := by
  rw [Int32.le_iff_toInt_le] at h
  rw [Int32.lt_iff_toInt_lt]
  omega
theorem z_up {B v x : Int32} {n : Nat} (hn : (B.toInt - v.toInt).toNat < n + 1) (e : x = v + 1) (c : ¬ B ≤ v) : (B.toInt - x.toInt).toNat < n := by
  rw [Int32.le_iff_toInt_le] at c
  have h1 := z32 B
  rw [e, zadd1 (by omega)]
  omega
theorem z_upe {B v x : Int32} {n : Nat} (hn : (B.toInt + 1 - v.toInt).toNat < n + 1) (e : x = v + 1) (c : ¬ B < v) (hB : B.toInt < 2147483647) : (B.toInt + 1 - x.toInt).toNat < n := by
  rw [Int32.lt_iff_toInt_lt] at c
  rw [e, zadd1 (by omega)]
  omega
theorem z_dn {v x : Int32} {n : Nat} (hn : (v.toInt + 1).toNat < n + 1) (e : x = v + (-1)) (c : ¬ v < 0) : (x.toInt + 1).toNat < n := by
  rw [Int32.lt_iff_toInt_lt, z_i0] at c
  rw [e, zsub1 (by omega)]
  omega
theorem z_nn {B v x : Int32} (e : x = v + 1) (c : ¬ B ≤ v) (h : ¬ v < 0) : ¬ x < 0 := by
  rw [Int32.le_iff_toInt_le] at c
  rw [Int32.lt_iff_toInt_lt, z_i0] at *
  have h1 := z32 B
  rw [e, zadd1 (by omega)]
  omega
theorem z_nne {B v x : Int32} (e : x = v + 1) (c : ¬ B < v) (h : ¬ v < 0) (hB : B.toInt < 2147483647) : ¬ x < 0 := by
  rw [Int32.lt_iff_toInt_lt] at c
  rw [Int32.lt_iff_toInt_lt, z_i0] at *
  rw [e, zadd1 (by omega)]
  omega
theorem z_minl (x y : Int32) : ¬ x < (if y < x then y else x) := by
  by_cases h : y < x
  · rw [if_pos h, Int32.lt_iff_toInt_lt]; rw [Int32.lt_iff_toInt_lt] at h; omega
  · rw [if_neg h, Int32.lt_iff_toInt_lt]; omega
theorem z_minr (x y : Int32) : ¬ y < (if y < x then y else x) := by
  by_cases h : y < x
  · rw [if_pos h, Int32.lt_iff_toInt_lt]; omega
  · rw [if_neg h]; exact h
theorem znar {v : Int32} (h : v = 0 ∨ v = 1) : narrow .boolean (.int v) = .int v := by rcases h with rfl | rfl <;> rfl
theorem zfit {v : Int32} (h : v = 0 ∨ v = 1) : fits .boolean (.int v) = true := by rcases h with rfl | rfl <;> rfl
theorem z_nz {y : Int32} (h : ¬ y ≤ 0) : ¬ y = 0 := fun q => h (by rw [q]; decide)
/-- 1 where 0 ≤ n < z, else 0; 1 where 0 ≤ n ≤ most, else 0 -/
def hs (n z : Int32) : Int32 := if n < 0 then 0 else if z ≤ n then 0 else 1
def wi (n most : Int32) : Int32 := if n < 0 then 0 else if most < n then 0 else 1
theorem hs_ne {n z : Int32} (h : ¬ hs n z = 0) : (¬ n < 0) ∧ ¬ z ≤ n := by
  unfold hs at h
  by_cases h1 : n < 0
  · simp [h1] at h
  · by_cases h2 : z ≤ n
    · simp [h1, h2] at h
    · exact ⟨h1, h2⟩
theorem wi_ne {n z : Int32} (h : ¬ wi n z = 0) : (¬ n < 0) ∧ ¬ z < n := by
  unfold wi at h
  by_cases h1 : n < 0
  · simp [h1] at h
  · by_cases h2 : z < n
    · simp [h1, h2] at h
    · exact ⟨h1, h2⟩
theorem z_bd {B N : Int32} (h : ¬ N < B) (hN : N.toInt < 2147483647) : B.toInt < 2147483647 := by
  rw [Int32.lt_iff_toInt_lt] at h
  omega
theorem zsub {a b : Int32} (h1 : -2147483648 ≤ a.toInt - b.toInt) (h2 : a.toInt - b.toInt < 2147483648) : (a - b).toInt = a.toInt - b.toInt := by
  rw [Int32.toInt_sub]
  exact Int.bmod_eq_of_le (by omega) (by omega)
theorem z_subn {a b N : Int32} (h : ¬ N < a) (h0 : ¬ b < 0) (h1 : ¬ a < b) : ¬ N < a - b := by
  rw [Int32.lt_iff_toInt_lt] at *
  rw [z_i0] at h0
  have := z32 a
  rw [zsub (by omega) (by omega)]
  omega
theorem z_shl1 {y x : Int32} (e : x = 1 <<< (y &&& 31)) (h0 : ¬ y < 0) (h6 : ¬ 6 < y) : (¬ x < 1) ∧ ¬ 64 < x := by
  obtain ⟨j, hj, rfl⟩ := nI_of2 (M := 6) (n := 6) (by decide) h0 (Int32.not_lt.mp h6)
  rw [e]
  exact co_dec (N := 7) (P := fun j => (¬ (1 : Int32) <<< (nI j &&& 31) < 1) ∧ ¬ 64 < (1 : Int32) <<< (nI j &&& 31)) (by decide +kernel) (by omega)
theorem zadd {a b : Int32} (h1 : -2147483648 ≤ a.toInt + b.toInt) (h2 : a.toInt + b.toInt < 2147483648) : (a + b).toInt = a.toInt + b.toInt := by
  rw [Int32.toInt_add]
  exact Int.bmod_eq_of_le (by omega) (by omega)
theorem z_step {B v d x : Int32} {n : Nat} (hn : (B.toInt - v.toInt).toNat < n + 1) (e : x = v + d) (c : ¬ B ≤ v) (h0 : ¬ v < 0) (h1 : ¬ d < 1) (h2 : ¬ 64 < d) (h3 : ¬ 64 < B) : (B.toInt - x.toInt).toNat < n := by
  rw [Int32.le_iff_toInt_le] at c
  rw [Int32.lt_iff_toInt_lt] at h0 h1 h2 h3
  have e0 : (0 : Int32).toInt = 0 := by decide
  have e1 : (1 : Int32).toInt = 1 := by decide
  have e2 : (64 : Int32).toInt = 64 := by decide
  rw [e0] at h0; rw [e1] at h1; rw [e2] at h2 h3
  rw [e, zadd (by omega) (by omega)]
  omega
theorem z_step0 {B v d x : Int32} (e : x = v + d) (c : ¬ B ≤ v) (h0 : ¬ v < 0) (h1 : ¬ d < 1) (h2 : ¬ 64 < d) (h3 : ¬ 64 < B) : ¬ x < 0 := by
  rw [Int32.le_iff_toInt_le] at c
  rw [Int32.lt_iff_toInt_lt] at h0 h1 h2 h3 ⊢
  have e1 : (1 : Int32).toInt = 1 := by decide
  have e2 : (64 : Int32).toInt = 64 := by decide
  rw [z_i0] at h0 ⊢
  rw [e1] at h1; rw [e2] at h2 h3
  rw [e, zadd (by omega) (by omega)]
  omega
theorem z_tn {a : Int32} (h : ¬ a < 0) : a.toInt = (a.toBitVec.toNat : Int) := by
  rw [Int32.lt_iff_toInt_lt, z_i0] at h
  have h1 : a.toInt = a.toBitVec.toInt := rfl
  rw [h1] at h ⊢
  rw [BitVec.toInt_eq_toNat_cond] at h ⊢
  have := a.toBitVec.isLt
  split at h
  · rw [if_pos (by assumption)]
  · omega
theorem z_part {v x q : Int32} {n : Nat} (hn : v.toInt.toNat < n + 1) (e : x = (v - 1) &&& q) (c : ¬ v ≤ 0) : x.toInt.toNat < n := by
  rw [Int32.le_iff_toInt_le, z_i0] at c
  have e1 : (1 : Int32).toInt = 1 := by decide
  have hv := z32 v
  have h1 : (v - 1).toInt = v.toInt - 1 := by rw [zsub (by rw [e1]; omega) (by rw [e1]; omega), e1]
  have h2 : ¬ (v - 1) < 0 := by rw [Int32.lt_iff_toInt_lt, z_i0, h1]; omega
  have h3 := z_tn h2
  have h4 : (x.toBitVec.toNat) ≤ (v - 1).toBitVec.toNat := by
    rw [e]
    show ((v - 1).toBitVec &&& q.toBitVec).toNat ≤ _
    rw [BitVec.toNat_and]
    exact Nat.and_le_left
  have h5 : x.toInt ≤ (x.toBitVec.toNat : Int) := by
    show x.toBitVec.toInt ≤ _
    rw [BitVec.toInt_eq_toNat_cond]
    split <;> omega
  omega
theorem z_inc6 {v : Int32} (h0 : ¬ v < 0) (h6 : ¬ 6 ≤ v) : (¬ v + 1 < 0) ∧ ¬ 6 < v + 1 := by
  rw [Int32.le_iff_toInt_le] at h6
  rw [Int32.lt_iff_toInt_lt, z_i0] at *
  have e2 : (6 : Int32).toInt = 6 := by decide
  rw [e2] at h6
  rw [Int32.lt_iff_toInt_lt, e2, zadd1 (by omega)]
  omega
theorem z_inc {B v x : Int32} (e : x = v + 1) (c : ¬ B ≤ v) : ¬ B < x := by
  rw [Int32.le_iff_toInt_le] at c
  have h1 := z32 B
  rw [Int32.lt_iff_toInt_lt, e, zadd1 (by omega)]
  omega
theorem z_trn {N P b : Int32} (h1 : ¬ N < P) (h2 : ¬ P < b) : ¬ N < b := by
  rw [Int32.lt_iff_toInt_lt] at *
  omega
theorem sw_0_3 (x : Int32) : (x.toInt < 0 ∨ 3 < x.toInt) ∨ x = 0 ∨ x = 1 ∨ x = 2 ∨ x = 3 := by
  by_cases h1 : x.toInt < 0
  · exact Or.inl (Or.inl h1)
  · by_cases h2 : 3 < x.toInt
    · exact Or.inl (Or.inr h2)
    · refine Or.inr ?_
      obtain ⟨j, hj, e⟩ := nI_of2 (x := x) (M := 3) (n := 3) (by decide) (by rw [Int32.lt_iff_toInt_lt, z_i0]; omega) (by rw [Int32.le_iff_toInt_le]; exact Int.not_lt.mp h2)
      have hlo : 0 ≤ j := by
        rw [e, nI_toInt (by omega)] at h1
        omega
      obtain ⟨i, rfl⟩ : ∃ i, j = i + 0 := ⟨j - 0, by omega⟩
      rw [e]
      exact co_dec (N := 4) (P := fun j => nI (j + 0) = 0 ∨ nI (j + 0) = 1 ∨ nI (j + 0) = 2 ∨ nI (j + 0) = 3) (by decide +kernel) (by omega)
theorem sw_42_47 (x : Int32) : (x.toInt < 42 ∨ 47 < x.toInt) ∨ x = 42 ∨ x = 43 ∨ x = 44 ∨ x = 45 ∨ x = 46 ∨ x = 47 := by
  by_cases h1 : x.toInt < 42
  · exact Or.inl (Or.inl h1)
  · by_cases h2 : 47 < x.toInt
    · exact Or.inl (Or.inr h2)
    · refine Or.inr ?_
      obtain ⟨j, hj, e⟩ := nI_of2 (x := x) (M := 47) (n := 47) (by decide) (by rw [Int32.lt_iff_toInt_lt, z_i0]; omega) (by rw [Int32.le_iff_toInt_le]; exact Int.not_lt.mp h2)
      have hlo : 42 ≤ j := by
        rw [e, nI_toInt (by omega)] at h1
        omega
      obtain ⟨i, rfl⟩ : ∃ i, j = i + 42 := ⟨j - 42, by omega⟩
      rw [e]
      exact co_dec (N := 6) (P := fun j => nI (j + 42) = 42 ∨ nI (j + 42) = 43 ∨ nI (j + 42) = 44 ∨ nI (j + 42) = 45 ∨ nI (j + 42) = 46 ∨ nI (j + 42) = 47) (by decide +kernel) (by omega)
theorem sw_0_10 (x : Int32) : (x.toInt < 0 ∨ 10 < x.toInt) ∨ x = 0 ∨ x = 1 ∨ x = 2 ∨ x = 3 ∨ x = 4 ∨ x = 5 ∨ x = 6 ∨ x = 7 ∨ x = 8 ∨ x = 9 ∨ x = 10 := by
  by_cases h1 : x.toInt < 0
  · exact Or.inl (Or.inl h1)
  · by_cases h2 : 10 < x.toInt
    · exact Or.inl (Or.inr h2)
    · refine Or.inr ?_
      obtain ⟨j, hj, e⟩ := nI_of2 (x := x) (M := 10) (n := 10) (by decide) (by rw [Int32.lt_iff_toInt_lt, z_i0]; omega) (by rw [Int32.le_iff_toInt_le]; exact Int.not_lt.mp h2)
      have hlo : 0 ≤ j := by
        rw [e, nI_toInt (by omega)] at h1
        omega
      obtain ⟨i, rfl⟩ : ∃ i, j = i + 0 := ⟨j - 0, by omega⟩
      rw [e]
      exact co_dec (N := 11) (P := fun j => nI (j + 0) = 0 ∨ nI (j + 0) = 1 ∨ nI (j + 0) = 2 ∨ nI (j + 0) = 3 ∨ nI (j + 0) = 4 ∨ nI (j + 0) = 5 ∨ nI (j + 0) = 6 ∨ nI (j + 0) = 7 ∨ nI (j + 0) = 8 ∨ nI (j + 0) = 9 ∨ nI (j + 0) = 10) (by decide +kernel) (by omega)
