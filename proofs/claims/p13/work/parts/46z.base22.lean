theorem sel_some {k lc : Int32} {f : Nat → Option Nat} {q : Nat} (h : sel k lc f = some q) : k.toNatClampNeg < 6 ∧ f k.toNatClampNeg = some q := by
  unfold sel at h
  by_cases a : wi k (lc - 1) = 0
  · rw [if_pos a] at h; cases h
  · rw [if_neg a] at h
    by_cases b : (6 : Int32) ≤ k
    · rw [if_pos b] at h; cases h
    · rw [if_neg b] at h
      refine ⟨?_, h⟩
      have g := mt Int32.le_iff_toInt_le.mpr b
      rw [show (6 : Int32).toInt = 6 from by decide] at g
      show k.toInt.toNat < 6
      omega
theorem li_if {n lo hi : Int32} {L H : Int64} (h0 : lo.toInt64 = L) (h1 : hi.toInt64 = H) : li n.toInt64 L H = if n < lo then 0 else if hi < n then 0 else 1 := by
  subst h0; subst h1
  unfold li
  simp only [lg_cmp_lt, lg_cmp_gt]
  have e : ∀ a b : Int32, a.toInt64 < b.toInt64 ↔ a < b := fun a b => by rw [Int64.lt_iff_toInt_lt, Int32.lt_iff_toInt_lt]; simp
  simp only [e]
theorem li_wj {n hi : Int32} {H : Int64} (h1 : hi.toInt64 = H) : li n.toInt64 0 H = wi n hi := li_if (lo := 0) (by decide) h1
theorem c_lt {x : Int32} {n : Nat} {N : Int32} (hN : N.toInt = n) (h : ¬ N ≤ x) (hn : 0 < n) : x.toNatClampNeg < n := by
  have g := mt Int32.le_iff_toInt_le.mpr h
  rw [hN] at g
  show x.toInt.toNat < n
  omega
def nd_r (a b c z : Int32) : Int32 := ra (ok_nd a b c z) z
def nd_z (a b c z : Int32) : Int32 := rz (ok_nd a b c z) z
theorem nd_ok {a b c z : Int32} (h : ¬ z = 12) : sp_nd a b c z = nd_r a b c z ∧ sp_ndz a b c z = nd_z a b c z := by
  unfold sp_nd sp_ndz nd_r nd_z ra rz ok_nd
  rw [li_wj (hi := 400) (by decide), li_wj (hi := 4095) (by decide), li_wj (hi := 9) (by decide)]
  by_cases h1 : wi a 400 = 0 <;> by_cases h2 : wi b 4095 = 0 <;> by_cases h3 : wi c 9 = 0 <;> simp [h, h1, h2, h3]
theorem nd_full (a b c : Int32) : -1 = nd_r a b c 12 ∧ 12 = nd_z a b c 12 := ⟨rfl, rfl⟩
def ps_r (a b h u r n z : Int32) : Int32 := ra (ok_ps a b h u r n z) z
def ps_z (a b h u r n z : Int32) : Int32 := rz (ok_ps a b h u r n z) z
theorem li_124 (h : Int32) : li h.toInt64 1 24 = if h < 1 then 0 else if 24 < h then 0 else 1 := li_if (lo := 1) (hi := 24) (by decide) (by decide)
theorem wi_24 {h : Int32} (h1 : ¬ h < 1) : wi h 24 = if 24 < h then 0 else 1 := by
  unfold wi
  rw [if_neg (by grind)]
theorem ps_ok {a b h u r n z : Int32} (hz : ¬ z = 20) : sp_ps a b h u r n z = ps_r a b h u r n z ∧ sp_psz a b h u r n z = ps_z a b h u r n z := by
  unfold sp_ps sp_psz ps_r ps_z ra rz ok_ps
  rw [li_124, li_wj (hi := 9) (by decide), li_wj (hi := 1000) (by decide)]
  by_cases h4 : h < 1
  · by_cases h1 : hs a n = 0 <;> by_cases h2 : hs b n = 0 <;> by_cases h3 : a = b <;> simp [hz, h1, h2, h3, h4]
  · rw [wi_24 h4]
    by_cases h1 : hs a n = 0 <;> by_cases h2 : hs b n = 0 <;> by_cases h3 : a = b <;> by_cases h5 : 24 < h <;> by_cases h6 : wi u 9 = 0 <;> by_cases h7 : wi r 1000 = 0 <;> simp [hz, h1, h2, h3, h4, h5, h6, h7]
theorem ps_full (a b h u r n : Int32) : -1 = ps_r a b h u r n 20 ∧ 20 = ps_z a b h u r n 20 := ⟨rfl, rfl⟩
def jr_r (a f s m q n z : Int32) : Int32 := ra (ok_jr a f s m q n z) z
def jr_z (a f s m q n z : Int32) : Int32 := rz (ok_jr a f s m q n z) z
theorem jr_ok {a f s m q n z : Int32} (hz : ¬ z = 16) : sp_jr a f s m q n z = jr_r a f s m q n z ∧ sp_jrz a f s m q n z = jr_z a f s m q n z := by
  unfold sp_jr sp_jrz jr_r jr_z ra rz ok_jr cv
  rw [li_wj (hi := 9) (by decide), li_wj (hi := 9) (by decide), li_wj (hi := 7) (by decide), li_wj (hi := 15) (by decide)]
  by_cases h1 : hs a n = 0 <;> by_cases h2 : wi f 9 = 0 <;> by_cases h3 : wi s 9 = 0 <;> by_cases h4 : wi m 7 = 0 <;> by_cases h5 : wi q 15 = 0 <;> simp [hz, h1, h2, h3, h4, h5]
theorem jr_full (a f s m q n : Int32) : -1 = jr_r a f s m q n 16 ∧ 16 = jr_z a f s m q n 16 := ⟨rfl, rfl⟩
def or_r (a u d q n z : Int32) : Int32 := ra (ok_or a u d q n z) (z + 1)
def or_z (a u d q n z : Int32) : Int32 := rz (ok_or a u d q n z) z
theorem li_wsh (d : Int32) : li d.toInt64 1 99999 = wsh d := li_if (lo := 1) (hi := 99999) (by decide) (by decide)
theorem or_ok {a u d q n z : Int32} (hz : ¬ z = 6) : sp_or a u d q n z = or_r a u d q n z ∧ sp_orz a u d q n z = or_z a u d q n z := by
  unfold sp_or sp_orz or_r or_z ra rz ok_or
  rw [li_wsh, li_wj (hi := 99999) (by decide), li_wj (hi := 9999) (by decide)]
  by_cases h1 : hs a n = 0 <;> by_cases h2 : wi u 99999 = 0 <;> by_cases h3 : wsh d = 0 <;> by_cases h4 : wi q 9999 = 0 <;> simp [hz, h1, h2, h3, h4]
theorem or_full (a u d q n : Int32) : -1 = or_r a u d q n 6 ∧ 6 = or_z a u d q n 6 := ⟨rfl, rfl⟩
def fe_r (a d q n z : Int32) : Int32 := ra (ok_fe a d q n z) (z + 1)
def fe_z (a d q n z : Int32) : Int32 := rz (ok_fe a d q n z) z
theorem fe_ok {a d q n z : Int32} (hz : ¬ z = 8) : sp_fe a d q n z = fe_r a d q n z ∧ sp_fez a d q n z = fe_z a d q n z := by
  unfold sp_fe sp_fez fe_r fe_z ra rz ok_fe
  rw [li_wsh, li_wj (hi := 4166) (by decide)]
  by_cases h1 : hs a n = 0 <;> by_cases h2 : wi d 4166 = 0 <;> by_cases h3 : wsh q = 0 <;> simp [hz, h1, h2, h3]
theorem fe_full (a d q n : Int32) : -1 = fe_r a d q n 8 ∧ 8 = fe_z a d q n 8 := ⟨rfl, rfl⟩
theorem mo_ok (a z : Int32) : sp_mo a z = mo_r a z ∧ sp_moz a z = mo_z a z := by
  unfold sp_mo sp_moz mo_r mo_z
  rw [li_wj (hi := 11) (by decide)]
  exact ⟨rfl, rfl⟩
/-- ranges of the counts -/
def CR (cn : Nat → Int32) : Prop := ((¬ cn 0 < 0) ∧ ¬ 12 < cn 0) ∧ ((¬ cn 1 < 0) ∧ ¬ 20 < cn 1) ∧ ((¬ cn 2 < 0) ∧ ¬ 16 < cn 2) ∧ ((¬ cn 3 < 0) ∧ ¬ 6 < cn 3) ∧ ((¬ cn 4 < 0) ∧ ¬ 8 < cn 4)
theorem cr_lt {z L : Int32} (h : (¬ z < 0) ∧ ¬ L < z) (hn : ¬ z = L) : ¬ L ≤ z := by grind
def cup (f : Nat → Int32) (k : Nat) (v : Int32) : Nat → Int32 := fun j => if j = k then v else f j
def iup (im : Nat → Option (Nat → Int32)) (k : Nat) (c : Nat → Int32) : Nat → Option (Nat → Int32) := fun j => if j = k then some c else im j
theorem iup_at (im : Nat → Option (Nat → Int32)) (k : Nat) (c : Nat → Int32) : iup im k c k = some c := if_pos rfl
theorem iup_ne {im : Nat → Option (Nat → Int32)} {k j : Nat} {c : Nat → Int32} (h : j ≠ k) : iup im k c j = im j := if_neg h
theorem vup_at {f : Nat → Option Nat} {k : Nat} {v : Option Nat} : va_up f k v k = v := if_pos rfl
theorem vup_ne {f : Nat → Option Nat} {k j : Nat} {v : Option Nat} (h : j ≠ k) : va_up f k v j = f j := if_neg h
