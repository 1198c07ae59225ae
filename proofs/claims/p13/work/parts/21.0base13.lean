def ss (w : Int32 → Nat) (g : Nat → Int32) : Nat → Nat
  | 0 => 0
  | n + 1 => ss w g n + w (g n)
theorem ss_same {w : Int32 → Nat} {g : Nat → Int32} {b : Nat} {v : Int32} : ∀ n : Nat, n ≤ b → ss w (upd g b v) n = ss w g n
  | 0, _ => rfl
  | n + 1, h => by
    show ss w (upd g b v) n + w (upd g b v n) = ss w g n + w (g n)
    rw [ss_same n (by omega), upd_ne (by omega)]
theorem ss_upd {w : Int32 → Nat} {g : Nat → Int32} {b : Nat} {v : Int32} : ∀ n : Nat, b < n → ss w (upd g b v) n + w (g b) = ss w g n + w v
  | 0, h => absurd h (Nat.not_lt_zero _)
  | n + 1, h => by
    show ss w (upd g b v) n + w (upd g b v n) + w (g b) = ss w g n + w (g n) + w v
    by_cases q : b = n
    · subst q
      rw [ss_same b (Nat.le_refl _), pk_us]; omega
    · have := ss_upd (w := w) (g := g) (b := b) (v := v) n (by omega)
      rw [upd_ne q]; omega
theorem ss_all {w : Int32 → Nat} {g : Nat → Int32} {c : Int32} : ∀ n : Nat, (∀ j : Nat, j < n → g j = c) → ss w g n = n * w c
  | 0, _ => by rw [Nat.zero_mul]; rfl
  | n + 1, h => by
    show ss w g n + w (g n) = (n + 1) * w c
    rw [ss_all n (fun j hj => h j (by omega)), h n (by omega), Nat.succ_mul]
theorem ss_le {w : Int32 → Nat} {g : Nat → Int32} {K : Nat} (hw : ∀ x : Int32, w x ≤ K) : ∀ n : Nat, ss w g n ≤ n * K
  | 0 => Nat.zero_le _
  | n + 1 => by
    show ss w g n + w (g n) ≤ (n + 1) * K
    have := ss_le (g := g) hw n
    have := hw (g n)
    rw [Nat.succ_mul]; omega
def w_c (x : Int32) : Nat := if x < 0 then 0 else 1
def w_f (x : Int32) : Nat := if x < 0 then 300 else x.toNatClampNeg
/-- hours from a node: how far they can be -/
def FW (g : Nat → Int32) : Prop := ∀ j : Nat, j < 12 → (¬ g j < 0) → (g j).toInt + 24 ≤ 24 * (ss w_c g 12 : Int)
def fmf (g : Nat → Int32) : Nat := ss w_f g 12
def mb (x : Int32) : Nat := if x = 0 then 0 else 1
def FI (g0 g : Nat → Int32) (more : Int32) : Prop := FW g ∧ fmf g ≤ fmf g0 ∧ (more = 0 ∨ fmf g < fmf g0)
def FA (g : Nat → Int32) (n : Int32) : Prop := ∀ j : Nat, (j : Int) < n.toInt → g j = -1
theorem FA_0 (g : Nat → Int32) : FA g 0 := fun j hj => by rw [z_i0] at hj; omega
theorem FA_s {g g2 : Nat → Int32} {n m : Int32} (h : FA g n) (n0 : ¬ n < 0) (n12 : ¬ 12 ≤ n) (e : g2 = upd g n.toNatClampNeg (-1)) (em : m = n + 1) : FA g2 m := fun j hj => by
  have a := zc_eq n0
  have g1 := mt Int32.le_iff_toInt_le.mpr n12
  rw [show (12 : Int32).toInt = 12 from by decide] at g1
  rw [em, zadd1 (by omega)] at hj
  rw [e]
  by_cases q : n.toNatClampNeg = j
  · rw [← q]; exact pk_us
  · rw [upd_ne q]; exact h j (by omega)
theorem FW_start {g g2 : Nat → Int32} {n p : Int32} (h : FA g n) (hn : 12 ≤ n) (p0 : ¬ p < 0) (p12 : ¬ 12 ≤ p) (e : g2 = upd g p.toNatClampNeg 0) : FW g2 := by
  have hn2 := Int32.le_iff_toInt_le.mp hn
  rw [show (12 : Int32).toInt = 12 from by decide] at hn2
  have hp := zc_j (n := 12) (by decide) p0 p12
  have all : ∀ j : Nat, j < 12 → g j = -1 := fun j hj => h j (by omega)
  have c1 : ss w_c g 12 = 12 * w_c (-1) := ss_all 12 all
  have c2 := ss_upd (w := w_c) (g := g) (b := p.toNatClampNeg) (v := 0) 12 hp
  have w1 : w_c (-1) = 0 := by decide
  have w0 : w_c 0 = 1 := by decide
  rw [all _ hp, c1, w1, w0, ← e] at c2
  intro j hj hg
  have c3 : ss w_c g2 12 = 1 := by omega
  rw [c3]
  by_cases q : p.toNatClampNeg = j
  · rw [e, ← q, pk_us, z_i0]; decide
  · rw [e, upd_ne q, all j hj] at hg; exact absurd (by decide) hg
theorem FI_rf {g : Nat → Int32} (h : FW g) : FI g g 0 := ⟨h, Nat.le_refl _, Or.inl rfl⟩
theorem FI_step {g0 g g2 : Nat → Int32} {more a b h v : Int32} (hi : FI g0 g more) (a0 : (¬ a < 0) ∧ ¬ 12 ≤ a) (b0 : (¬ b < 0) ∧ ¬ 12 ≤ b) (hh : (¬ h < 1) ∧ ¬ 24 < h) (ha : ¬ g a.toNatClampNeg < 0) (ho : g b.toNatClampNeg < 0 ∨ g a.toNatClampNeg + h < g b.toNatClampNeg) (hv : v = g a.toNatClampNeg + h) (e : g2 = upd g b.toNatClampNeg v) : FI g0 g2 1 := by
  obtain ⟨fw, f1, _⟩ := hi
  have ja := zc_j (n := 12) (by decide) a0.1 a0.2
  have jb := zc_j (n := 12) (by decide) b0.1 b0.2
  have la := fw _ ja ha
  have lb := fw _ jb
  have cle : ss w_c g 12 ≤ 12 * 1 := ss_le (fun x => by unfold w_c; split <;> decide) 12
  have h1 := mt Int32.lt_iff_toInt_lt.mpr hh.1
  have h2 := mt Int32.lt_iff_toInt_lt.mpr hh.2
  have ga := mt Int32.lt_iff_toInt_lt.mpr ha
  rw [show (1 : Int32).toInt = 1 from by decide] at h1
  rw [show (24 : Int32).toInt = 24 from by decide] at h2
  rw [z_i0] at ga
  have vi : v.toInt = (g a.toNatClampNeg).toInt + h.toInt := by rw [hv, zadd (by omega) (by omega)]
  have v0 : ¬ v < 0 := by rw [Int32.lt_iff_toInt_lt, z_i0, vi]; omega
  have vc := zc_eq v0
  have c2 := ss_upd (w := w_c) (g := g) (b := b.toNatClampNeg) (v := v) 12 jb
  have m2 := ss_upd (w := w_f) (g := g) (b := b.toNatClampNeg) (v := v) 12 jb
  rw [← e] at c2 m2
  have wv : w_c v = 1 := if_neg v0
  have wfv : w_f v = v.toNatClampNeg := if_neg v0
  rw [wv] at c2
  rw [wfv] at m2
  have key : (ss w_c g 12 ≤ ss w_c g2 12) ∧ v.toInt + 24 ≤ 24 * (ss w_c g2 12 : Int) ∧ ss w_f g2 12 < ss w_f g 12 := by
    by_cases q : g b.toNatClampNeg < 0
    · have w1 : w_c (g b.toNatClampNeg) = 0 := if_pos q
      have w2 : w_f (g b.toNatClampNeg) = 300 := if_pos q
      rw [w1] at c2
      rw [w2] at m2
      refine ⟨by omega, by omega, by omega⟩
    · have w1 : w_c (g b.toNatClampNeg) = 1 := if_neg q
      have w2 : w_f (g b.toNatClampNeg) = (g b.toNatClampNeg).toNatClampNeg := if_neg q
      rw [w1] at c2
      rw [w2] at m2
      have qc := zc_eq q
      have lb2 := lb q
      rcases ho with o | o
      · exact absurd o q
      · rw [← hv] at o
        have o2 := Int32.lt_iff_toInt_lt.mp o
        refine ⟨by omega, by omega, by omega⟩
  refine ⟨fun j hj hg => ?_, Nat.le_trans (Nat.le_of_lt key.2.2) f1, Or.inr (Nat.lt_of_lt_of_le key.2.2 f1)⟩
  by_cases q : b.toNatClampNeg = j
  · rw [e, ← q, pk_us, ← e]; exact key.2.1
  · rw [e, upd_ne q] at hg ⊢
    rw [← e]
    have := fw j hj hg
    omega
theorem fm_back {g0 g : Nat → Int32} {m0 m : Int32} {n : Nat} (hn : 2 * fmf g0 + mb m0 < n + 1) (h0 : ¬ m0 = 0) (h : FI g0 g m) : 2 * fmf g + mb m < n := by
  have e0 : mb m0 = 1 := if_neg h0
  obtain ⟨_, h1, h2⟩ := h
  by_cases q : m = 0
  · have e1 : mb m = 0 := if_pos q
    omega
  · have e1 : mb m = 1 := if_neg q
    rcases h2 with h2 | h2
    · exact absurd h2 q
    · omega
