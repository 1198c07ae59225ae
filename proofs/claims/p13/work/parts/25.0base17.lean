/-- the places of earlier laws stay -/
def FR (f g : Nat → Int32) (t : Int32) : Prop := ∀ j : Nat, j < 400 * t.toNatClampNeg → g j = f j
theorem FR_rf (f : Nat → Int32) (t : Int32) : FR f f t := fun _ _ => rfl
theorem FR_tr {f g h : Nat → Int32} {t : Int32} (a : FR f g t) (b : FR g h t) : FR f h t := fun j hj => (b j hj).trans (a j hj)
theorem FR_pt {f g lf lg : Nat → Int32} {t s v : Int32} (hp : PT f lf g lg t s v) (ht : (¬ t < 0) ∧ ¬ 6 ≤ t) (hl : (¬ lf t.toNatClampNeg < 0) ∧ lf t.toNatClampNeg < 400) : FR f g t := fun j hj => by
  rw [hp.1, c_400 ht.1 ht.2 hl.1 (by grind), upd_ne (by omega)]
def IFZ (r : Int32) (P : Prop) : Prop := r = 0 → P
theorem IFZ_1 {P : Prop} : IFZ 1 P := fun q => absurd q (by decide)
theorem IFZ_0 {r : Int32} {P : Prop} (h : P) : IFZ r P := fun _ => h
theorem KI_d {f0 f lf : Nat → Int32} {t b m : Int32} {d e : Nat} (h : KI f0 f lf t b d m) (hd : d = e) : KI f0 f lf t b e m := by
  rw [← hd]; exact h
/-- a sign of the open row is settled -/
theorem KI_set {f0 f lf f2 lf2 o : Nat → Int32} {t b made n m x x2 least : Int32} (h : KI f0 f lf t b (ca o n + 1) made) (hp : PT f lf f2 lf2 t x 0) (hl : lf t.toNatClampNeg < 400) (n1 : ¬ n < 1) (em : m = n - 1) (ex : x = o m.toNatClampNeg) (ex2 : x2 = o (n - 1).toNatClampNeg) (hs : ¬ stg x2 < least) (hl1 : ¬ least < 1) : KI f0 f2 lf2 t b (ca o m + 1) made := by
  have e2 : x2 = x := by rw [ex2, ex, em]
  rw [e2] at hs
  have c := ca_pop n1 em ex
  rcases stg_ge hs hl1 with q | q | q
  · rw [c, q, show ao 11 = 0 from rfl] at h
    rw [q] at hp
    exact KI_not h hp hl
  · rw [c, q, show ao 12 = 1 from rfl] at h
    rw [q] at hp
    exact KI_bin h hp hl (by decide)
  · rw [c, q, show ao 13 = 1 from rfl] at h
    rw [q] at hp
    exact KI_bin h hp hl (by decide)
theorem BK_set {o : Nat → Int32} {z n m x2 least : Int32} (h : BK o z n) (n1 : ¬ n < 1) (em : m = n - 1) (ex2 : x2 = o (n - 1).toNatClampNeg) (hs : ¬ stg x2 < least) (hl1 : ¬ least < 1) : BK o z m := by
  refine BK_s h n1 em (x := x2) (by rw [em]; exact ex2) (fun q => ?_)
  rcases stg_ge hs hl1 with q2 | q2 | q2
  · rw [q2] at q; exact absurd q (by decide)
  · rw [q2] at q; exact absurd q (by decide)
  · rw [q2] at q; exact absurd q (by decide)
theorem WK_0 {f : Nat → Int32} {n least : Int32} (h : n = 0) : WK f n least := Or.inl h
theorem WK_1 {f : Nat → Int32} {n least x : Int32} (ex : x = f (n - 1).toNatClampNeg) (h : stg x < least) : WK f n least := Or.inr (by rw [← ex]; exact h)
/-- the bracket itself goes -/
theorem KI_br {f0 f lf o : Nat → Int32} {t b made n m : Int32} (h : KI f0 f lf t b (ca o n + 1) made) (hi : OI o n) (hw : WK o n 1) (n1 : ¬ n < 1) (em : m = n - 1) : KI f0 f lf t b (ca o m + 1) made := by
  rcases hw with q | q
  · rw [q] at n1; exact absurd (by decide) n1
  · have x9 := top91 hi n1 em (x := o (n - 1).toNatClampNeg) (by rw [em]) q
    have c := ca_pop n1 em (x := o (n - 1).toNatClampNeg) (by rw [em])
    rw [c, x9, show ao 91 = 0 from rfl] at h
    exact h
/-- nothing is left open -/
theorem KI_shut {f0 f lf o : Nat → Int32} {t b made n z : Int32} (h : KI f0 f lf t b (ca o n + 1) made) (hi : OI o n) (hw : WK o n 1) (hb : NB o z) (hz : (¬ z < n) ∧ ¬ n < 0) : KI f0 f lf t b 1 made := by
  have e0 : n = 0 := by
    rcases hw with q | q
    · exact q
    · by_cases n0 : n = 0
      · exact n0
      · have n1 : ¬ n < 1 := by grind
        have x9 := top91 hi n1 (m := n - 1) rfl (x := o (n - 1).toNatClampNeg) rfl q
        have l0 : ¬ (n - 1) < 0 := by grind
        have c := zc_eq l0
        have l1 : (n - 1) < z := by grind
        have g := Int32.lt_iff_toInt_lt.mp l1
        exact absurd x9 (hb _ (by omega))
  rw [e0, ca_0] at h
  exact h
theorem IN_yes {f : Nat → Int32} {n r : Int32} (h : IN f n r) (hr : ¬ r = 0) : ¬ r = 0 := hr
theorem KI_push0 {f0 fs lf f g : Nat → Int32} {t b made n k s : Int32} (h : KI f0 fs lf t b (ca f n) made) (hop : OP f g n k s) (n0 : ¬ n < 0) (n4 : ¬ 400 < n) (hs : ao s = 0) : KI f0 fs lf t b (ca g k) made := by
  rw [ca_push hop n0 n4, hs]; exact h
theorem KI_push1 {f0 fs lf f g : Nat → Int32} {t b made n k s : Int32} (h : KI f0 fs lf t b (ca f n + 1) made) (hop : OP f g n k s) (n0 : ¬ n < 0) (n4 : ¬ 400 < n) (hs : ao s = 1) : KI f0 fs lf t b (ca g k) made := by
  rw [ca_push hop n0 n4, hs]; exact h
theorem z_down {n m : Int32} {k : Nat} (hn : n.toInt.toNat < k + 1) (h : (¬ n < 1) ∧ m = n - 1) : m.toInt.toNat < k := by
  have g := mt Int32.lt_iff_toInt_lt.mpr h.1
  have b1 : (1 : Int32).toInt = 1 := by decide
  rw [b1] at g
  have z := z32 n
  have e : m.toInt = n.toInt - 1 := by rw [h.2, zsub (by rw [b1]; omega) (by rw [b1]; omega), b1]
  omega
