theorem isl_stay {f : Nat → Int32} {t a b : Int32} (h : ¬ isl f t a = 0) (hs : a < t → ¬ f a.toNatClampNeg = 32 → b = a) : ¬ isl f t b = 0 := by
  obtain ⟨h1, h2⟩ := isl_ne h
  rw [hs (Int32.not_le.mp h1) (fun q => h2 (by rw [q]; decide))]
  exact h
