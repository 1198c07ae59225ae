/-- how often a jar may still burst another -/
def bms (f : Nat → Int32) (last : Int32) : Nat := if last < 0 then 0 else (16 - (f (168 + 9 * last + 3).toNatClampNeg).toInt).toNat
theorem bms_pos {f : Nat → Int32} {last : Int32} (h0 : ¬ last < 0) (hp : ¬ 15 < f (168 + 9 * last + 3).toNatClampNeg) : bms f last = (16 - (f (168 + 9 * last + 3).toNatClampNeg).toInt).toNat ∧ 1 ≤ bms f last := by
  have e : bms f last = (16 - (f (168 + 9 * last + 3).toNatClampNeg).toInt).toNat := if_neg h0
  have g := mt Int32.lt_iff_toInt_lt.mpr hp
  rw [show (15 : Int32).toInt = 15 from by decide] at g
  exact ⟨e, by rw [e]; omega⟩
theorem bm_end {f g : Nat → Int32} {last x : Int32} {n : Nat} (hn : bms f last < n + 1) (h0 : ¬ last < 0) (hp : ¬ 15 < f (168 + 9 * last + 3).toNatClampNeg) (hx : x < 0) : bms g x < n := by
  have a := (bms_pos h0 hp).2
  have e : bms g x = 0 := if_pos hx
  omega
theorem bm_next {f g : Nat → Int32} {last x : Int32} {n : Nat} (hn : bms f last < n + 1) (h0 : ¬ last < 0) (h1 : ¬ 16 ≤ last) (hl : PL f g) (hx : ¬ x < 0) (hlt : g (168 + 9 * last + 3).toNatClampNeg < g (168 + 9 * x + 3).toNatClampNeg) (hp : ¬ 15 < g (168 + 9 * x + 3).toNatClampNeg) : bms g x < n := by
  have q := hl last h0 h1
  rw [q] at hlt
  have b := bms_pos hx hp
  have hp2 : ¬ 15 < f (168 + 9 * last + 3).toNatClampNeg := by grind
  have a := bms_pos h0 hp2
  rw [Int32.lt_iff_toInt_lt] at hlt
  have g := mt Int32.lt_iff_toInt_lt.mpr hp
  rw [show (15 : Int32).toInt = 15 from by decide] at g
  omega
