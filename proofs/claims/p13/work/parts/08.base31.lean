/-- x alone may have changed -/
def K7 (f g : Nat → Int32) : Prop := ∀ i : Nat, i ≠ 7 → g i = f i
theorem K7_rf (f : Nat → Int32) : K7 f f := fun _ _ => rfl
theorem K7_tr {f g h : Nat → Int32} (a : K7 f g) (b : K7 g h) : K7 f h := fun i hi => (b i hi).trans (a i hi)
theorem K7_u {f g h : Nat → Int32} {v : Int32} (a : K7 f g) (e : h = upd g (7 : Int32).toNatClampNeg v) : K7 f h := fun i hi => by
  have e7 : (7 : Int32).toNatClampNeg = 7 := by decide
  rw [e, e7]
  exact (upd_ne (fun q => hi q.symm)).trans (a i hi)
theorem K7_eq {f g : Nat → Int32} (a : K7 f g) (b : g 7 = f 7) : g = f := by
  funext i
  by_cases h : i = 7
  · rw [h]; exact b
  · exact a i h
