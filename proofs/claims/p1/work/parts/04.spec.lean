/-- 1 where 0 ≤ n ≤ most, else 0 -/
def wi (n most : Int32) : Int32 := if n < 0 then 0 else if most < n then 0 else 1
/-- the same of longs, as the reference asks it -/
def li (v lo hi : Int64) : Int32 := if lg_cmp v lo < 0 then 0 else if 0 < lg_cmp v hi then 0 else 1
theorem fz_lt (a b : Int32) : a.toInt64 < b.toInt64 ↔ a < b := by
  rw [Int64.lt_iff_toInt_lt, Int32.lt_iff_toInt_lt]; simp
theorem li_wi (n hi : Int32) {L H : Int64} (h0 : (0 : Int32).toInt64 = L) (h : hi.toInt64 = H) : li n.toInt64 L H = wi n hi := by
  subst h0; subst h
  unfold li wi
  simp only [lg_cmp_lt, lg_cmp_gt, fz_lt]
theorem wi_m1 (n : Int32) : wi n (-1) = 0 := by
  unfold wi
  by_cases h : n < 0
  · simp [h]
  · have h2 : (-1 : Int32) < n := by
      rw [Int32.lt_iff_toInt_lt] at h ⊢
      have e1 : (0 : Int32).toInt = 0 := by decide
      have e2 : (-1 : Int32).toInt = -1 := by decide
      rw [e1] at h; rw [e2]; omega
    simp [h, h2]
theorem wi_nI {n : Int32} {M : Int32} {k : Nat} (hM : M.toInt = k) (h : ¬ wi n M = 0) : ∃ j : Nat, j ≤ k ∧ n = nI j := by
  unfold wi at h
  by_cases h1 : n < 0
  · simp [h1] at h
  · by_cases h2 : M < n
    · simp [h1, h2] at h
    · exact nI_of2 hM h1 (Int32.not_lt.mp h2)
theorem wi_in {n : Int32} (h : ¬ wi n 3 = 0) : vp_in n 4 := by
  obtain ⟨j, hj, e⟩ := wi_nI (k := 3) (by decide) h
  rw [e]; exact vp_in_nI (by omega) (by decide)
/-- what a first call answers: a node, a month, a seed, an end, an image; a count -/
def sp_nd (h s c : Int32) : Int32 := if wi h 400 = 0 then -1 else if wi s 4095 = 0 then -1 else if wi c 9 = 0 then -1 else 0
def sp_mo (n : Int32) : Int32 := if wi n 11 = 0 then -1 else 0
def sp_se (n : Int32) : Int32 := if n < 0 then -1 else 0
def sp_en (n : Int32) : Int32 := if wi n 0 = 0 then -1 else n
def sp_im (n : Int32) : Int32 := if wi n 3 = 0 then -1 else 0
def sp_ct (w : Int32) : Int32 := if w.toInt < 0 ∨ 10 < w.toInt then -1 else if w = 8 then -1 else 0
theorem sw11 (x : Int32) : (x.toInt < 0 ∨ 10 < x.toInt) ∨ x = 0 ∨ x = 1 ∨ x = 2 ∨ x = 3 ∨ x = 4 ∨ x = 5 ∨ x = 6 ∨ x = 7 ∨ x = 8 ∨ x = 9 ∨ x = 10 := by
  by_cases h1 : x.toInt < 0
  · exact Or.inl (Or.inl h1)
  · by_cases h2 : 10 < x.toInt
    · exact Or.inl (Or.inr h2)
    · refine Or.inr ?_
      obtain ⟨j, hj, e⟩ := nI_of2 (x := x) (M := 10) (n := 10) (by decide) (by rw [Int32.lt_iff_toInt_lt]; exact fun q => h1 q) (by rw [Int32.le_iff_toInt_le]; exact Int.not_lt.mp h2)
      rw [e]
      exact co_dec (N := 11) (P := fun j => nI j = 0 ∨ nI j = 1 ∨ nI j = 2 ∨ nI j = 3 ∨ nI j = 4 ∨ nI j = 5 ∨ nI j = 6 ∨ nI j = 7 ∨ nI j = 8 ∨ nI j = 9 ∨ nI j = 10) (by decide +kernel) (by omega)

