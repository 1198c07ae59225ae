def cv (a b : Int32) : Int32 := if wi a 9 = 0 then 0 else if wi b 9 = 0 then 0 else 1
def wsh (a : Int32) : Int32 := if a < 1 then 0 else if 99999 < a then 0 else 1
def sel (k lc : Int32) (f : Nat → Option Nat) : Option Nat := if wi k (lc - 1) = 0 then none else if 6 ≤ k then none else f k.toNatClampNeg
def sp_nd (h s c z : Int32) : Int32 := if wi h 400 = 0 then -1 else if wi s 4095 = 0 then -1 else if wi c 9 = 0 then -1 else z
def sp_ndz (h s c z : Int32) : Int32 := if wi h 400 = 0 then z else if wi s 4095 = 0 then z else if wi c 9 = 0 then z else z + 1
def sp_ps (a b h u r n z : Int32) : Int32 := if hs a n = 0 then -1 else if hs b n = 0 then -1 else if a = b then -1 else if h < 1 then -1 else if wi h 24 = 0 then -1 else if wi u 9 = 0 then -1 else if wi r 1000 = 0 then -1 else z
def sp_psz (a b h u r n z : Int32) : Int32 := if hs a n = 0 then z else if hs b n = 0 then z else if a = b then z else if h < 1 then z else if wi h 24 = 0 then z else if wi u 9 = 0 then z else if wi r 1000 = 0 then z else z + 1
def sp_jr (a f s m q n z : Int32) : Int32 := if cv f s = 0 then -1 else if wi m 7 = 0 then -1 else if wi q 15 = 0 then -1 else if hs a n = 0 then -1 else z
def sp_jrz (a f s m q n z : Int32) : Int32 := if cv f s = 0 then z else if wi m 7 = 0 then z else if wi q 15 = 0 then z else if hs a n = 0 then z else z + 1
def sp_or (a u d q n z : Int32) : Int32 := if wi u 99999 = 0 then -1 else if wsh d = 0 then -1 else if wi q 9999 = 0 then -1 else if hs a n = 0 then -1 else z + 1
def sp_orz (a u d q n z : Int32) : Int32 := if wi u 99999 = 0 then z else if wsh d = 0 then z else if wi q 9999 = 0 then z else if hs a n = 0 then z else z + 1
def sp_fe (a d q n z : Int32) : Int32 := if wi d 4166 = 0 then -1 else if wsh q = 0 then -1 else if hs a n = 0 then -1 else z + 1
def sp_fez (a d q n z : Int32) : Int32 := if wi d 4166 = 0 then z else if wsh q = 0 then z else if hs a n = 0 then z else z + 1
def sp_mo (a z : Int32) : Int32 := if wi a 11 = 0 then -1 else z
def sp_moz (a z : Int32) : Int32 := if wi a 11 = 0 then z else a
def sp_frz (a n z : Int32) : Int32 := if hs a n = 0 then z else a
theorem gr_sub (z : Int32) : z + 1 - 1 = z := by rw [Int32.add_sub_cancel]
theorem gr_12_4 {z : Int32} (h0 : ¬ z < 0) (h1 : ¬ 12 ≤ z) : (z + 1) * 4 ≤ 48 := by
  obtain ⟨j, hj, rfl⟩ := nI_of2 (x := z) (M := 11) (n := 11) (by decide) h0 (Int32.not_lt.mp (z_nle_nlt (by decide) h1))
  exact co_dec (N := 12) (P := fun j => (nI j + 1) * 4 ≤ 48) (by decide +kernel) (by omega)
theorem gr_20_5 {z : Int32} (h0 : ¬ z < 0) (h1 : ¬ 20 ≤ z) : (z + 1) * 5 ≤ 100 := by
  obtain ⟨j, hj, rfl⟩ := nI_of2 (x := z) (M := 19) (n := 19) (by decide) h0 (Int32.not_lt.mp (z_nle_nlt (by decide) h1))
  exact co_dec (N := 20) (P := fun j => (nI j + 1) * 5 ≤ 100) (by decide +kernel) (by omega)
theorem gr_16_9 {z : Int32} (h0 : ¬ z < 0) (h1 : ¬ 16 ≤ z) : (z + 1) * 9 ≤ 144 := by
  obtain ⟨j, hj, rfl⟩ := nI_of2 (x := z) (M := 15) (n := 15) (by decide) h0 (Int32.not_lt.mp (z_nle_nlt (by decide) h1))
  exact co_dec (N := 16) (P := fun j => (nI j + 1) * 9 ≤ 144) (by decide +kernel) (by omega)
theorem gr_6_4 {z : Int32} (h0 : ¬ z < 0) (h1 : ¬ 6 ≤ z) : (z + 1) * 4 ≤ 24 := by
  obtain ⟨j, hj, rfl⟩ := nI_of2 (x := z) (M := 5) (n := 5) (by decide) h0 (Int32.not_lt.mp (z_nle_nlt (by decide) h1))
  exact co_dec (N := 6) (P := fun j => (nI j + 1) * 4 ≤ 24) (by decide +kernel) (by omega)
theorem gr_8_3 {z : Int32} (h0 : ¬ z < 0) (h1 : ¬ 8 ≤ z) : (z + 1) * 3 ≤ 24 := by
  obtain ⟨j, hj, rfl⟩ := nI_of2 (x := z) (M := 7) (n := 7) (by decide) h0 (Int32.not_lt.mp (z_nle_nlt (by decide) h1))
  exact co_dec (N := 8) (P := fun j => (nI j + 1) * 3 ≤ 24) (by decide +kernel) (by omega)
theorem gr_6_1 {z : Int32} (h0 : ¬ z < 0) (h1 : ¬ 6 ≤ z) : (z + 1) * 1 ≤ 6 := by
  obtain ⟨j, hj, rfl⟩ := nI_of2 (x := z) (M := 5) (n := 5) (by decide) h0 (Int32.not_lt.mp (z_nle_nlt (by decide) h1))
  exact co_dec (N := 6) (P := fun j => (nI j + 1) * 1 ≤ 6) (by decide +kernel) (by omega)
theorem wi_in {n : Int32} (h : ¬ wi n 3 = 0) : vp_in n 4 := by
  obtain ⟨h0, h1⟩ := wi_ne h
  exact vp_le (N := 3) (by decide) h0 h1
def li (v lo hi : Int64) : Int32 := if lg_cmp v lo < 0 then 0 else if 0 < lg_cmp v hi then 0 else 1
theorem li_ne {n lo hi : Int32} {L H : Int64} (h0 : lo.toInt64 = L) (h1 : hi.toInt64 = H) (h : ¬ li n.toInt64 L H = 0) : (¬ n < lo) ∧ ¬ hi < n := by
  subst h0; subst h1
  unfold li at h
  simp only [lg_cmp_lt, lg_cmp_gt] at h
  have e : ∀ a b : Int32, a.toInt64 < b.toInt64 ↔ a < b := fun a b => by rw [Int64.lt_iff_toInt_lt, Int32.lt_iff_toInt_lt]; simp
  simp only [e] at h
  by_cases q1 : n < lo
  · simp [q1] at h
  · by_cases q2 : hi < n
    · simp [q1, q2] at h
    · exact ⟨q1, q2⟩
