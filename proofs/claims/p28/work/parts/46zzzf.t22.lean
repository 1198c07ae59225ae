def pA (c : Nat → Int32) (p : Nat) : Int32 := c (68 + 5 * p)
def pB (c : Nat → Int32) (p : Nat) : Int32 := c (68 + 5 * p + 1)
def pH (c : Nat → Int32) (p : Nat) : Int32 := c (68 + 5 * p + 2)
def PAc (c : Nat → Int32) (n : Int32) : Prop := ∀ p : Nat, (p : Int) < n.toInt → ((¬ pA c p < 0) ∧ ¬ 12 ≤ pA c p) ∧ ((¬ pB c p < 0) ∧ ¬ 12 ≤ pB c p) ∧ ((¬ pH c p < 1) ∧ ¬ 24 < pH c p)
def GR1 (c : Nat → Int32) (n : Int32) (f g : Nat → Int32) : Prop := ∀ p : Nat, (p : Int) < n.toInt → (g (pB c p).toNatClampNeg).toInt ≤ (f (pA c p).toNatClampNeg).toInt + (pH c p).toInt ∧ (g (pA c p).toNatClampNeg).toInt ≤ (f (pB c p).toNatClampNeg).toInt + (pH c p).toInt
-- what the least hours keep to: s the start
def GOK (c : Nat → Int32) (n : Int32) (s : Nat) (G : Nat → Int) : Prop := G s = 0 ∧ (∀ v : Nat, v < 12 → 0 ≤ G v ∧ G v ≤ 1000000) ∧ (∀ p : Nat, (p : Int) < n.toInt → G (pB c p).toNatClampNeg ≤ G (pA c p).toNatClampNeg + (pH c p).toInt ∧ G (pA c p).toNatClampNeg ≤ G (pB c p).toNatClampNeg + (pH c p).toInt) ∧ (∀ v : Nat, v < 12 → G v < 1000000 → v = s ∨ ∃ p u : Nat, (p : Int) < n.toInt ∧ u < 12 ∧ (((pA c p).toNatClampNeg = u ∧ (pB c p).toNatClampNeg = v) ∨ ((pB c p).toNatClampNeg = u ∧ (pA c p).toNatClampNeg = v)) ∧ G v = G u + (pH c p).toInt)
def LB (G : Nat → Int) (f : Nat → Int32) : Prop := ∀ v : Nat, v < 12 → G v ≤ (f v).toInt ∧ (f v).toInt ≤ 1000000
def LEQ (f g : Nat → Int32) : Prop := ∀ v : Nat, v < 12 → (f v).toInt ≤ (g v).toInt
theorem far_in {f : Nat → Int32} {a : Int32} (h0 : ¬ a < 0) (h1 : ¬ 12 ≤ a) : fX5_farTo f a = f a.toNatClampNeg := by
  unfold fX5_farTo
  simp only [bnd]
  rw [if_neg h0, if_neg h1]
theorem nat12 {a : Int32} (h0 : ¬ a < 0) (h1 : ¬ 12 ≤ a) : a.toNatClampNeg < 12 := by
  rw [Int32.le_iff_toInt_le] at h1
  have e : (12 : Int32).toInt = 12 := by decide
  show a.toInt.toNat < 12
  omega
theorem rch_in {f : Nat → Int32} {a d : Int32} (h0 : ¬ a < 0) (h1 : ¬ 12 ≤ a) : fX5_reach f a d = if f a.toNatClampNeg ≤ d then (f, 0) else (upd f a.toNatClampNeg d, 1) := by
  unfold fX5_reach
  simp only [bnd, far_in h0 h1]
  by_cases g : f a.toNatClampNeg ≤ d
  · rw [if_pos g, if_pos g]
  · rw [if_neg g, if_neg g, if_neg h0, if_pos (show a < 12 by grind)]
-- one step of a pass
def STP (G : Nat → Int) (a b : Nat) (h : Int) (f : Nat → Int32) (u : (Nat → Int32) × Int32) : Prop := LB G u.1 ∧ LEQ u.1 f ∧ (u.1 b).toInt ≤ (f a).toInt + h ∧ (u.1 a).toInt ≤ (f b).toInt + h ∧ (u.2 = 0 → u.1 = f)
theorem upd_le {f : Nat → Int32} {a : Nat} {d : Int32} (h : d.toInt ≤ (f a).toInt) : LEQ (upd f a d) f := by
  intro v _
  by_cases q : a = v
  · rw [← q, pk_us]; exact h
  · rw [upd_ne q]; omega
theorem stp {G : Nat → Int} {f : Nat → Int32} {A B H : Int32} (a0 : (¬ A < 0) ∧ ¬ 12 ≤ A) (b0 : (¬ B < 0) ∧ ¬ 12 ≤ B) (h0 : (¬ H < 1) ∧ ¬ 24 < H) (hf : LB G f) (hG : ∀ v : Nat, v < 12 → 0 ≤ G v) (g1 : G B.toNatClampNeg ≤ G A.toNatClampNeg + H.toInt) (g2 : G A.toNatClampNeg ≤ G B.toNatClampNeg + H.toInt) : STP G A.toNatClampNeg B.toNatClampNeg H.toInt f (if (fX5_reach f A (fX5_farTo f B + H)).2 = 0 then ((fX5_reach (fX5_reach f A (fX5_farTo f B + H)).1 B (fX5_farTo (fX5_reach f A (fX5_farTo f B + H)).1 A + H)).1, if (fX5_reach (fX5_reach f A (fX5_farTo f B + H)).1 B (fX5_farTo (fX5_reach f A (fX5_farTo f B + H)).1 A + H)).2 = 0 then 0 else 1) else ((fX5_reach f A (fX5_farTo f B + H)).1, 1)) := by
  have ja := nat12 a0.1 a0.2
  have jb := nat12 b0.1 b0.2
  have fa := hf _ ja
  have fb := hf _ jb
  have ga := hG _ ja
  have gb := hG _ jb
  have e1 : (1 : Int32).toInt = 1 := by decide
  have e24 : (24 : Int32).toInt = 24 := by decide
  have h1 : 1 ≤ H.toInt ∧ H.toInt ≤ 24 := by
    obtain ⟨x, y⟩ := h0
    rw [Int32.lt_iff_toInt_lt] at x y
    omega
  rw [far_in b0.1 b0.2, rch_in a0.1 a0.2]
  have s1 : (f B.toNatClampNeg + H).toInt = (f B.toNatClampNeg).toInt + H.toInt := zadd (by omega) (by omega)
  by_cases c : f A.toNatClampNeg ≤ f B.toNatClampNeg + H
  · simp only [if_pos c, if_true]
    rw [far_in a0.1 a0.2, rch_in b0.1 b0.2]
    rw [Int32.le_iff_toInt_le, s1] at c
    have s2 : (f A.toNatClampNeg + H).toInt = (f A.toNatClampNeg).toInt + H.toInt := zadd (by omega) (by omega)
    by_cases d : f B.toNatClampNeg ≤ f A.toNatClampNeg + H
    · simp only [if_pos d, if_true]
      rw [Int32.le_iff_toInt_le, s2] at d
      exact ⟨hf, fun v _ => Int.le_refl _, d, c, fun _ => rfl⟩
    · simp only [if_neg d, i10, if_false]
      rw [Int32.le_iff_toInt_le, s2] at d
      have hle : LEQ (upd f B.toNatClampNeg (f A.toNatClampNeg + H)) f := upd_le (by rw [s2]; omega)
      unfold STP LB
      dsimp only
      refine ⟨fun v hv => ?_, hle, ?_, ?_, fun q => absurd q (by decide)⟩
      · have := hle v hv
        have := hf v hv
        refine ⟨?_, by omega⟩
        by_cases q : B.toNatClampNeg = v
        · rw [← q, pk_us, s2]; omega
        · rw [upd_ne q]; omega
      · show ((upd f B.toNatClampNeg (f A.toNatClampNeg + H)) B.toNatClampNeg).toInt ≤ _
        rw [pk_us, s2]
        exact Int.le_refl _
      · have := hle _ ja
        show ((upd f B.toNatClampNeg (f A.toNatClampNeg + H)) A.toNatClampNeg).toInt ≤ _
        omega
  · simp only [if_neg c, i10, if_false]
    rw [Int32.le_iff_toInt_le, s1] at c
    have hle : LEQ (upd f A.toNatClampNeg (f B.toNatClampNeg + H)) f := upd_le (by rw [s1]; omega)
    unfold STP LB
    dsimp only
    refine ⟨fun v hv => ?_, hle, ?_, ?_, fun q => absurd q (by decide)⟩
    · have := hle v hv
      have := hf v hv
      refine ⟨?_, by omega⟩
      by_cases q : A.toNatClampNeg = v
      · rw [← q, pk_us, s1]; omega
      · rw [upd_ne q]; omega
    · have := hle _ jb
      show ((upd f A.toNatClampNeg (f B.toNatClampNeg + H)) B.toNatClampNeg).toInt ≤ _
      omega
    · show ((upd f A.toNatClampNeg (f B.toNatClampNeg + H)) A.toNatClampNeg).toInt ≤ _
      rw [pk_us, s1]
      exact Int.le_refl _
theorem get_pe {F c : Nat → Int32} {p k : Int32} {kn : Nat} (h : PE F c) (p0 : ¬ p < 0) (p1 : ¬ 20 ≤ p) (hk : k.toInt = kn) (k5 : kn < 5) : fX6_get_100 5 F p k = c (68 + 5 * p.toNatClampNeg + kn) := by
  unfold fX6_get_100
  simp only [bnd]
  have hp := i_nn p0
  have e20 : (20 : Int32).toInt = 20 := by decide
  have e5 : (5 : Int32).toInt = 5 := by decide
  have e100 : (100 : Int32).toInt = 100 := by decide
  have p2 : p.toInt < 20 := by rw [Int32.le_iff_toInt_le] at p1; omega
  have m1 : (p * 5).toInt = p.toInt * 5 := by rw [zmul (by rw [e5]; omega) (by rw [e5]; omega), e5]
  have m2 : (p * 5 + k).toInt = p.toInt * 5 + kn := by rw [zadd (by rw [m1, hk]; omega) (by rw [m1, hk]; omega), m1, hk]
  rw [if_neg (by rw [Int32.lt_iff_toInt_lt, m2, z_i0]; omega), if_neg (by rw [Int32.le_iff_toInt_le, m2, e100]; omega)]
  have en : (p * 5 + k).toNatClampNeg = 5 * p.toNatClampNeg + kn := by
    show (p * 5 + k).toInt.toNat = 5 * p.toInt.toNat + kn
    omega
  rw [en, h _ (by show 5 * p.toInt.toNat + kn < 100; omega)]
  rw [show 68 + (5 * p.toNatClampNeg + kn) = 68 + 5 * p.toNatClampNeg + kn by omega]
theorem shr {G : Nat → Int} {F c f : Nat → Int32} {p n : Int32} {s : Nat} (h : PE F c) (hp : PAc c n) (hG : GOK c n s G) (p0 : ¬ p < 0) (p1 : ¬ 20 ≤ p) (pn : ¬ n ≤ p) (hf : LB G f) : STP G (pA c p.toNatClampNeg).toNatClampNeg (pB c p.toNatClampNeg).toNatClampNeg (pH c p.toNatClampNeg).toInt f (fX5_shorten f F p 1) := by
  have hq : ((p.toNatClampNeg : Nat) : Int) < n.toInt := by
    have := i_nn p0
    rw [Int32.le_iff_toInt_le] at pn
    show ((p.toInt.toNat : Nat) : Int) < n.toInt
    omega
  obtain ⟨h1, h2, h3⟩ := hp _ hq
  obtain ⟨g1, g2⟩ := hG.2.2.1 _ hq
  unfold fX5_shorten
  simp only [bnd]
  have eA : c (68 + 5 * p.toNatClampNeg + 0) = pA c p.toNatClampNeg := rfl
  have eB : c (68 + 5 * p.toNatClampNeg + 1) = pB c p.toNatClampNeg := rfl
  have eH : c (68 + 5 * p.toNatClampNeg + 2) = pH c p.toNatClampNeg := rfl
  rw [if_neg (by decide), get_pe (k := 0) (kn := 0) h p0 p1 (by decide) (by decide), get_pe (k := 1) (kn := 1) h p0 p1 (by decide) (by decide), get_pe (k := 2) (kn := 2) h p0 p1 (by decide) (by decide), eA, eB, eH]
  have z := stp (G := G) (f := f) h1 h2 h3 hf (fun v hv => (hG.2.1 v hv).1) g1 g2
  generalize pA c p.toNatClampNeg = A at z ⊢
  generalize pB c p.toNatClampNeg = B at z ⊢
  generalize pH c p.toNatClampNeg = H at z ⊢
  by_cases c1 : (fX5_reach f A (fX5_farTo f B + H)).2 = 0
  · rw [if_pos c1]
    rw [if_pos c1] at z
    generalize fX5_reach (fX5_reach f A (fX5_farTo f B + H)).1 B (fX5_farTo (fX5_reach f A (fX5_farTo f B + H)).1 A + H) = w at z ⊢
    by_cases c2 : w.2 = 0
    · rw [if_pos c2]
      rw [if_pos c2] at z
      exact z
    · rw [if_neg c2]
      rw [if_neg c2] at z
      exact z
  · rw [if_neg c1]
    rw [if_neg c1] at z
    exact z
-- a round: F' the array behind it
theorem rnd {G : Nat → Int} {F c f0 : Nat → Int32} {n : Int32} {s : Nat} (h : PE F c) (hp : PAc c n) (n20 : ¬ 20 < n) (hG : GOK c n s G) {E : (Nat → Int32) → Int32 → Int32 → (Nat → Int32)} : ∀ (N : Nat) (f : Nat → Int32) (i m : Int32), ¬ i < 0 → ¬ n < i → (n.toInt - i.toInt).toNat < N → LB G f → LEQ f f0 → (∀ p : Nat, (p : Int) < i.toInt → (f (pB c p).toNatClampNeg).toInt ≤ (f0 (pA c p).toNatClampNeg).toInt + (pH c p).toInt ∧ (f (pA c p).toNatClampNeg).toInt ≤ (f0 (pB c p).toNatClampNeg).toInt + (pH c p).toInt) → (m = 0 → f = f0) → ∃ (g : Nat → Int32) (j m2 : Int32), fl_mX5_measure_59 n F (-1) 1 E N f i m = E g j m2 ∧ LB G g ∧ LEQ g f0 ∧ GR1 c n f0 g ∧ (m2 = 0 → g = f0) := by
  intro N
  induction N with
  | zero => intro f i m _ _ hn; exact absurd hn (Nat.not_lt_zero _)
  | succ N ih =>
    intro f i m i0 iT hn hf hle hr hm
    show ∃ (g : Nat → Int32) (j m2 : Int32), fb_mX5_measure_59 n F (-1) 1 E (fl_mX5_measure_59 n F (-1) 1 E N) f i m = E g j m2 ∧ _
    unfold fb_mX5_measure_59
    by_cases b : n ≤ i
    · rw [if_pos b]
      refine ⟨f, i, m, rfl, hf, hle, fun p hpn => hr p ?_, hm⟩
      rw [Int32.le_iff_toInt_le] at b
      omega
    · rw [if_neg b, if_neg (show ¬ i = -1 by intro q; rw [q] at i0; exact i0 (by decide))]
      simp only [bnd]
      have hs := shr h hp hG i0 (by grind) b hf
      generalize fX5_shorten f F i 1 = u at hs ⊢
      obtain ⟨s1, s2, s3, s4, s5⟩ := hs
      have hle2 : LEQ u.1 f0 := fun v hv => by have := s2 v hv; have := hle v hv; omega
      have hT := z32 n
      have hb := b
      rw [Int32.le_iff_toInt_le] at hb
      have e1 : (i + 1).toInt = i.toInt + 1 := zadd1 (by omega)
      have hin := i_nn i0
      have hr2 : ∀ p : Nat, (p : Int) < (i + 1).toInt → (u.1 (pB c p).toNatClampNeg).toInt ≤ (f0 (pA c p).toNatClampNeg).toInt + (pH c p).toInt ∧ (u.1 (pA c p).toNatClampNeg).toInt ≤ (f0 (pB c p).toNatClampNeg).toInt + (pH c p).toInt := by
        intro p hpi
        rw [e1] at hpi
        obtain ⟨q1, q2, _⟩ := hp p (by omega)
        have ja := nat12 q1.1 q1.2
        have jb := nat12 q2.1 q2.2
        by_cases q : (p : Int) = i.toInt
        · have ep : p = i.toNatClampNeg := by show p = i.toInt.toNat; omega
          subst ep
          have := hle _ ja
          have := hle _ jb
          exact ⟨by omega, by omega⟩
        · obtain ⟨r1, r2⟩ := hr p (by omega)
          have := s2 _ ja
          have := s2 _ jb
          exact ⟨by omega, by omega⟩
      by_cases g : u.2 = 0
      · rw [if_pos g]
        exact ih u.1 (i + 1) m (a_nn b i0) (a_le b) (n_sub b hn) s1 hle2 hr2 (fun q => (s5 g).trans (hm q))
      · rw [if_neg g]
        exact ih u.1 (i + 1) 1 (a_nn b i0) (a_le b) (n_sub b hn) s1 hle2 hr2 (fun q => absurd q (by decide))
def cnt (G : Nat → Int) (f : Nat → Int32) : Nat → Nat
  | 0 => 0
  | n + 1 => cnt G f n + (if (f n).toInt = G n then 1 else 0)
theorem cnt_le {G : Nat → Int} {f : Nat → Int32} : ∀ n : Nat, cnt G f n ≤ n
  | 0 => Nat.le_refl _
  | n + 1 => by
    show cnt G f n + (if (f n).toInt = G n then 1 else 0) ≤ n + 1
    have := cnt_le (G := G) (f := f) n
    split <;> omega
theorem cnt_mo {G : Nat → Int} {f g : Nat → Int32} : ∀ n : Nat, (∀ v : Nat, v < n → (f v).toInt = G v → (g v).toInt = G v) → cnt G f n ≤ cnt G g n
  | 0, _ => Nat.le_refl _
  | n + 1, h => by
    show cnt G f n + (if (f n).toInt = G n then 1 else 0) ≤ cnt G g n + (if (g n).toInt = G n then 1 else 0)
    have := cnt_mo n (fun v hv => h v (by omega))
    by_cases q : (f n).toInt = G n
    · rw [if_pos q, if_pos (h n (by omega) q)]; omega
    · rw [if_neg q]; omega
theorem cnt_st {G : Nat → Int} {f g : Nat → Int32} {v : Nat} (hf : ¬ (f v).toInt = G v) (hg : (g v).toInt = G v) : ∀ n : Nat, v < n → (∀ w : Nat, w < n → (f w).toInt = G w → (g w).toInt = G w) → cnt G f n < cnt G g n
  | 0, hv, _ => absurd hv (Nat.not_lt_zero _)
  | n + 1, hv, h => by
    show cnt G f n + (if (f n).toInt = G n then 1 else 0) < cnt G g n + (if (g n).toInt = G n then 1 else 0)
    by_cases e : v = n
    · subst e
      have := cnt_mo v (fun w hw => h w (by omega))
      rw [if_neg hf, if_pos hg]; omega
    · have := cnt_st hf hg n (by omega) (fun w hw => h w (by omega))
      by_cases q : (f n).toInt = G n
      · rw [if_pos q, if_pos (h n (by omega) q)]; omega
      · rw [if_neg q]; omega
theorem least_nf {G : Nat → Int} {f : Nat → Int32} (hG : ∀ v : Nat, v < 12 → 0 ≤ G v) : ∀ (k v : Nat), v < 12 → ¬ (f v).toInt = G v → (G v).toNat ≤ k → ∃ w : Nat, w < 12 ∧ (¬ (f w).toInt = G w) ∧ ∀ x : Nat, x < 12 → G x < G w → (f x).toInt = G x := by
  intro k
  induction k with
  | zero =>
    intro v hv hn hk
    refine ⟨v, hv, hn, fun x hx hl => ?_⟩
    have := hG x hx
    have := hG v hv
    omega
  | succ k ih =>
    intro v hv hn hk
    by_cases q : ∀ x : Nat, x < 12 → G x < G v → (f x).toInt = G x
    · exact ⟨v, hv, hn, q⟩
    · have q2 : ∃ x : Nat, x < 12 ∧ G x < G v ∧ ¬ (f x).toInt = G x := Classical.byContradiction (fun g => q (fun x hx hl => Classical.byContradiction (fun w => g ⟨x, hx, hl, w⟩)))
      obtain ⟨x, hx, hl, hxn⟩ := q2
      have := hG x hx
      exact ih x hx hxn (by omega)
-- a node that isn't right yet becomes right in a round
theorem rnd_new {G : Nat → Int} {c f g : Nat → Int32} {n : Int32} {s : Nat} (hG : GOK c n s G) (hp : PAc c n) (hf : LB G f) (hg : LB G g) (hr : GR1 c n f g) (hs : (f s).toInt = 0) (v : Nat) (hv : v < 12) (hn : ¬ (f v).toInt = G v) : ∃ w : Nat, w < 12 ∧ (¬ (f w).toInt = G w) ∧ (g w).toInt = G w := by
  obtain ⟨w, hw, h1, h2⟩ := least_nf (fun v hv => (hG.2.1 v hv).1) (G v).toNat v hv hn (Nat.le_refl _)
  refine ⟨w, hw, h1, ?_⟩
  have lw := hf w hw
  rcases hG.2.2.2 w hw (by omega) with q | ⟨p, u, hpn, hu, hab, ht⟩
  · rw [q, hG.1] at h1
    exact absurd hs h1
  · obtain ⟨_, _, h3⟩ := hp p hpn
    have hh : 1 ≤ (pH c p).toInt := by
      have := h3.1
      rw [Int32.lt_iff_toInt_lt] at this
      have e1 : (1 : Int32).toInt = 1 := by decide
      omega
    have fu := h2 u hu (by omega)
    have lg := hg w hw
    obtain ⟨r1, r2⟩ := hr p hpn
    rcases hab with ⟨ea, eb⟩ | ⟨eb, ea⟩
    · rw [ea, eb] at r1
      omega
    · rw [ea, eb] at r2
      omega
theorem msr {G : Nat → Int} {F c : Nat → Int32} {n : Int32} {s : Nat} (h : PE F c) (hp : PAc c n) (n0 : ¬ n < 0) (n20 : ¬ 20 < n) (hG : GOK c n s G) (hs : s < 12) : ∀ (N : Nat) (f : Nat → Int32) (i m : Int32), ¬ i < 0 → ¬ 12 < i → (12 - i.toInt).toNat < N → LB G f → (f s).toInt = 0 → ((∀ v : Nat, v < 12 → (f v).toInt = G v) ∨ i.toInt + 1 ≤ cnt G f 12) → (m = 0 → GR1 c n f f) → ∀ v : Nat, v < 12 → (fl_mX5_measure_41 n F (-1) 1 (fun a _ _ => a) N f i m v).toInt = G v := by
  intro N
  induction N with
  | zero => intro f i m _ _ hn; exact absurd hn (Nat.not_lt_zero _)
  | succ N ih =>
    intro f i m i0 i12 hn hf hfs hc hm
    show ∀ v : Nat, v < 12 → (fb_mX5_measure_41 n F (-1) 1 (fun a _ _ => a) (fl_mX5_measure_41 n F (-1) 1 (fun a _ _ => a) N) f i m v).toInt = G v
    unfold fb_mX5_measure_41
    have e12 : (12 : Int32).toInt = 12 := by decide
    have hcl := cnt_le (G := G) (f := f) 12
    by_cases b : 12 ≤ i
    · rw [if_pos b]
      rw [Int32.le_iff_toInt_le] at b
      rcases hc with hc | hc
      · exact hc
      · omega
    · rw [if_neg b]
      by_cases q : m = 0
      · rw [if_pos q]
        intro v hv
        refine Classical.byContradiction (fun g => ?_)
        obtain ⟨w, _, h1, h2⟩ := rnd_new hG hp hf hf (hm q) hfs v hv g
        exact h1 h2
      · rw [if_neg q]
        obtain ⟨g, j, m2, e, g1, g2, g3, g4⟩ := rnd h hp n20 hG (E := fun w99_0 _ w99_2 => fl_mX5_measure_41 n F (-1) 1 (fun a _ _ => a) N w99_0 (i + 1) w99_2) (((n : Int32).toInt - (0 : Int32).toInt).toNat + 1) f 0 0 (by decide) n0 (Nat.lt_succ_self _) hf (fun v _ => Int.le_refl _) (fun p hpi => by rw [z_i0] at hpi; omega) (fun _ => rfl)
        simp only [bnd]
        rw [e]
        have hb := b
        rw [Int32.le_iff_toInt_le] at hb
        have hin := i_nn i0
        have e1 : (i + 1).toInt = i.toInt + 1 := zadd1 (by omega)
        have hst : ∀ v : Nat, v < 12 → (f v).toInt = G v → (g v).toInt = G v := by
          intro v hv hx
          have := g1 v hv
          have := g2 v hv
          omega
        refine ih g (i + 1) m2 (a_nn b i0) (a_le b) (by omega) g1 (by rw [hst s hs (by rw [hfs, hG.1])]; exact hG.1) ?_ (fun z => by rw [g4 z] at g3 ⊢; exact g3)
        by_cases al : ∀ v : Nat, v < 12 → (f v).toInt = G v
        · exact Or.inl (fun v hv => hst v hv (al v hv))
        · right
          have q2 : ∃ v : Nat, v < 12 ∧ ¬ (f v).toInt = G v := Classical.byContradiction (fun z => al (fun v hv => Classical.byContradiction (fun w => z ⟨v, hv, w⟩)))
          obtain ⟨v, hv, hvn⟩ := q2
          obtain ⟨w, hw, k1, k2⟩ := rnd_new hG hp hf g1 g3 hfs v hv hvn
          have := cnt_st (G := G) k1 k2 12 hw hst
          rcases hc with hc | hc
          · exact absurd (hc v hv) hvn
          · omega
theorem ini {s : Int32} (s0 : ¬ s < 0) (s1 : ¬ 12 ≤ s) {E : (Nat → Int32) → Int32 → (Nat → Int32)} : ∀ (N : Nat) (f : Nat → Int32) (i : Int32), ¬ i < 0 → ¬ 12 < i → (12 - i.toInt).toNat < N → (∀ v : Nat, (v : Int) < i.toInt → f v = if v = s.toNatClampNeg then 0 else 1000000) → ∃ (g : Nat → Int32) (j : Int32), fl_mX5_measure_3 s E N f i = E g j ∧ ∀ v : Nat, v < 12 → g v = if v = s.toNatClampNeg then 0 else 1000000 := by
  intro N
  induction N with
  | zero => intro f i _ _ hn; exact absurd hn (Nat.not_lt_zero _)
  | succ N ih =>
    intro f i i0 i12 hn hf
    show ∃ (g : Nat → Int32) (j : Int32), fb_mX5_measure_3 s E (fl_mX5_measure_3 s E N) f i = E g j ∧ _
    unfold fb_mX5_measure_3
    have e12 : (12 : Int32).toInt = 12 := by decide
    by_cases b : 12 ≤ i
    · rw [if_pos b]
      rw [Int32.le_iff_toInt_le] at b
      exact ⟨f, i, rfl, fun v hv => hf v (by omega)⟩
    · rw [if_neg b]
      simp only [bnd]
      have hb := b
      rw [Int32.le_iff_toInt_le] at hb
      have hin := i_nn i0
      have e1 : (i + 1).toInt = i.toInt + 1 := zadd1 (by omega)
      have step : ∀ d : Int32, d = (if i.toNatClampNeg = s.toNatClampNeg then 0 else 1000000) → ∀ v : Nat, (v : Int) < (i + 1).toInt → (upd f i.toNatClampNeg d) v = if v = s.toNatClampNeg then 0 else 1000000 := by
        intro d hd v hv
        by_cases q : i.toNatClampNeg = v
        · rw [← q, pk_us]; exact hd
        · rw [upd_ne q]
          refine hf v ?_
          have : ¬ (v : Int) = i.toInt := fun z => q (by show i.toInt.toNat = v; omega)
          omega
      by_cases q : i = s
      · rw [if_pos q]
        exact ih _ (i + 1) (a_nn b i0) (a_le b) (by omega) (step 0 (by rw [q, if_pos rfl]))
      · rw [if_neg q]
        refine ih _ (i + 1) (a_nn b i0) (a_le b) (by omega) (step 1000000 ?_)
        rw [if_neg]
        intro z
        apply q
        apply Int32.toInt_inj.mp
        have hs := i_nn s0
        have z2 : i.toInt.toNat = s.toInt.toNat := z
        omega
theorem meas {G : Nat → Int} {F c f : Nat → Int32} {n s : Int32} (h : PE F c) (hp : PAc c n) (n0 : ¬ n < 0) (n20 : ¬ 20 < n) (s0 : ¬ s < 0) (s1 : ¬ 12 ≤ s) (hG : GOK c n s.toNatClampNeg G) : ∀ v : Nat, v < 12 → (fX5_measure f n F s (-1) 1 v).toInt = G v := by
  unfold fX5_measure
  obtain ⟨g, j, e, hg⟩ := ini s0 s1 (E := fun (w35_0_0 : Nat → Int32) (_ : Int32) => fl_mX5_measure_41 n F (-1) 1 (fun (w105_0_1 : Nat → Int32) (_ : Int32) (_ : Int32) => w105_0_1) (((12 : Int32).toInt - (0 : Int32).toInt).toNat + 1) w35_0_0 0 1) (((12 : Int32).toInt - (0 : Int32).toInt).toNat + 1) f 0 (by decide) (by decide) (by decide) (fun v hv => by rw [z_i0] at hv; omega)
  rw [e]
  have js := nat12 s0 s1
  have em : (1000000 : Int32).toInt = 1000000 := by decide
  have gs : (g s.toNatClampNeg).toInt = 0 := by rw [hg _ js, if_pos rfl, z_i0]
  refine msr h hp n0 n20 hG js _ g 0 1 (by decide) (by decide) (by decide) (fun v hv => ?_) gs ?_ (fun q => absurd q (by decide))
  · rw [hg v hv]
    have := hG.2.1 v hv
    by_cases q : v = s.toNatClampNeg
    · rw [if_pos q, z_i0, q, hG.1]; decide
    · rw [if_neg q, em]; omega
  · right
    have : 0 < cnt G g 12 := Nat.lt_of_le_of_lt (Nat.zero_le _) (cnt_st (G := G) (f := fun _ => -1) (v := s.toNatClampNeg) (by rw [hG.1]; decide) (by rw [gs, hG.1]) 12 js (fun w hw q => by
      have := (hG.2.1 w hw).1
      have em1 : (-1 : Int32).toInt = -1 := by decide
      rw [em1] at q
      omega))
    rw [z_i0]
    omega
def rx (g : Nat → Int32) (m a b h : Int32) : (Nat → Int32) × Int32 := if g a.toNatClampNeg < 0 then (g, m) else if g b.toNatClampNeg < 0 then (upd g b.toNatClampNeg (g a.toNatClampNeg + h), 1) else if g a.toNatClampNeg + h < g b.toNatClampNeg then (upd g b.toNatClampNeg (g a.toNatClampNeg + h), 1) else (g, m)
theorem spr_b {S : Nat → Int32} {zp i m A B H : Int32} {g : Nat → Int32} {E K : (Nat → Int32) → Int32 → Int32 → (Nat → Int32)} (hA : S ((68 + (5 * i)) + 0).toNatClampNeg = A) (hB : S ((68 + (5 * i)) + 1).toNatClampNeg = B) (hH : S ((68 + (5 * i)) + 2).toNatClampNeg = H) (hz : ¬ zp ≤ i) : fb_mX11_spreads_38 S zp E K g i m = K (rx (rx g m A B H).1 (rx g m A B H).2 B A H).1 (i + 1) (rx (rx g m A B H).1 (rx g m A B H).2 B A H).2 := by
  unfold fb_mX11_spreads_38
  simp only [bnd, hA, hB, hH]
  rw [if_neg hz]
  have e1 : ∀ (g : Nat → Int32) (m a b : Int32), g a.toNatClampNeg < 0 → rx g m a b H = (g, m) := fun g m a b q => if_pos q
  have e2 : ∀ (g : Nat → Int32) (m a b : Int32), ¬ g a.toNatClampNeg < 0 → g b.toNatClampNeg < 0 → rx g m a b H = (upd g b.toNatClampNeg (g a.toNatClampNeg + H), 1) := fun g m a b q q2 => (if_neg q).trans (if_pos q2)
  have e3 : ∀ (g : Nat → Int32) (m a b : Int32), ¬ g a.toNatClampNeg < 0 → ¬ g b.toNatClampNeg < 0 → g a.toNatClampNeg + H < g b.toNatClampNeg → rx g m a b H = (upd g b.toNatClampNeg (g a.toNatClampNeg + H), 1) := fun g m a b q q2 q3 => (if_neg q).trans ((if_neg q2).trans (if_pos q3))
  have e4 : ∀ (g : Nat → Int32) (m a b : Int32), ¬ g a.toNatClampNeg < 0 → ¬ g b.toNatClampNeg < 0 → ¬ g a.toNatClampNeg + H < g b.toNatClampNeg → rx g m a b H = (g, m) := fun g m a b q q2 q3 => (if_neg q).trans ((if_neg q2).trans (if_neg q3))
  have two : ∀ (g : Nat → Int32) (m : Int32), (if g B.toNatClampNeg < 0 then K g (i + 1) m else if g A.toNatClampNeg < 0 then K (upd g A.toNatClampNeg (g B.toNatClampNeg + H)) (i + 1) 1 else if g B.toNatClampNeg + H < g A.toNatClampNeg then K (upd g A.toNatClampNeg (g B.toNatClampNeg + H)) (i + 1) 1 else K g (i + 1) m) = K (rx g m B A H).1 (i + 1) (rx g m B A H).2 := by
    intro g m
    by_cases c1 : g B.toNatClampNeg < 0
    · rw [if_pos c1, e1 g m B A c1]
    · rw [if_neg c1]
      by_cases c2 : g A.toNatClampNeg < 0
      · rw [if_pos c2, e2 g m B A c1 c2]
      · rw [if_neg c2]
        by_cases c3 : g B.toNatClampNeg + H < g A.toNatClampNeg
        · rw [if_pos c3, e3 g m B A c1 c2 c3]
        · rw [if_neg c3, e4 g m B A c1 c2 c3]
  by_cases c1 : g A.toNatClampNeg < 0
  · rw [if_pos c1, e1 g m A B c1]
    exact two g m
  · rw [if_neg c1]
    by_cases c2 : g B.toNatClampNeg < 0
    · rw [if_pos c2, e2 g m A B c1 c2]
      exact two _ 1
    · rw [if_neg c2]
      by_cases c3 : g A.toNatClampNeg + H < g B.toNatClampNeg
      · rw [if_pos c3, e3 g m A B c1 c2 c3]
        exact two _ 1
      · rw [if_neg c3, e4 g m A B c1 c2 c3]
        exact two g m
def JI (c : Nat → Int32) (n : Int32) (s : Nat) (g : Nat → Int32) : Prop := g s = 0 ∧ ∀ v : Nat, v < 12 → (¬ g v < 0) → v = s ∨ ∃ p u : Nat, (p : Int) < n.toInt ∧ u < 12 ∧ (((pA c p).toNatClampNeg = u ∧ (pB c p).toNatClampNeg = v) ∨ ((pB c p).toNatClampNeg = u ∧ (pA c p).toNatClampNeg = v)) ∧ (¬ g u < 0) ∧ (g u).toInt + (pH c p).toInt ≤ (g v).toInt
def FX1 (g : Nat → Int32) (a b h : Int32) : Prop := g a.toNatClampNeg < 0 ∨ ((¬ g b.toNatClampNeg < 0) ∧ (g b.toNatClampNeg).toInt ≤ (g a.toNatClampNeg).toInt + h.toInt)
def RXP (c : Nat → Int32) (n : Int32) (s : Nat) (g0 g : Nat → Int32) (m a b h : Int32) (u : (Nat → Int32) × Int32) : Prop := JI c n s u.1 ∧ FI g0 u.1 u.2 ∧ ((u.1 = g ∧ u.2 = m ∧ FX1 g a b h) ∨ u.2 = 1)
theorem g_bd {g : Nat → Int32} (h : FW g) {j : Nat} (hj : j < 12) (h0 : ¬ g j < 0) : 0 ≤ (g j).toInt ∧ (g j).toInt ≤ 264 := by
  have h1 := h j hj h0
  have h2 : ss w_c g 12 ≤ 12 * 1 := ss_le (fun x => by unfold w_c; split <;> decide) 12
  have h3 := i_nn h0
  omega
theorem rx_ok {c : Nat → Int32} {n : Int32} {s : Nat} {g0 g : Nat → Int32} {m a b : Int32} {p : Nat} (hp : PAc c n) (hpn : (p : Int) < n.toInt) (hab : (a = pA c p ∧ b = pB c p) ∨ (a = pB c p ∧ b = pA c p)) (hs : s < 12) (hJ : JI c n s g) (hF : FI g0 g m) : RXP c n s g0 g m a b (pH c p) (rx g m a b (pH c p)) := by
  obtain ⟨h1, h2, h3⟩ := hp p hpn
  have ha : (¬ a < 0) ∧ ¬ 12 ≤ a := by rcases hab with q | q <;> rw [q.1] <;> assumption
  have hb : (¬ b < 0) ∧ ¬ 12 ≤ b := by rcases hab with q | q <;> rw [q.2] <;> assumption
  have ja := nat12 ha.1 ha.2
  have jb := nat12 hb.1 hb.2
  have e1 : (1 : Int32).toInt = 1 := by decide
  have e24 : (24 : Int32).toInt = 24 := by decide
  have hh : 1 ≤ (pH c p).toInt ∧ (pH c p).toInt ≤ 24 := by
    obtain ⟨x, y⟩ := h3
    rw [Int32.lt_iff_toInt_lt] at x y
    omega
  unfold rx
  by_cases c1 : g a.toNatClampNeg < 0
  · rw [if_pos c1]
    exact ⟨hJ, hF, Or.inl ⟨rfl, rfl, Or.inl c1⟩⟩
  · rw [if_neg c1]
    have ba := g_bd hF.1 ja c1
    have sv : (g a.toNatClampNeg + pH c p).toInt = (g a.toNatClampNeg).toInt + (pH c p).toInt := zadd (by omega) (by omega)
    have up : (g b.toNatClampNeg < 0 ∨ g a.toNatClampNeg + pH c p < g b.toNatClampNeg) → RXP c n s g0 g m a b (pH c p) (upd g b.toNatClampNeg (g a.toNatClampNeg + pH c p), 1) := by
      intro ho
      have hF2 := FI_step (v := g a.toNatClampNeg + pH c p) hF ha hb h3 c1 ho rfl rfl
      have hbs : ¬ b.toNatClampNeg = s := by
        intro q
        rw [q, hJ.1] at ho
        rcases ho with o | o
        · exact absurd o (by decide)
        · rw [Int32.lt_iff_toInt_lt, sv, z_i0] at o; omega
      have hne : ¬ a.toNatClampNeg = b.toNatClampNeg := by
        intro q
        rw [← q] at ho
        rcases ho with o | o
        · exact c1 o
        · rw [Int32.lt_iff_toInt_lt, sv] at o; omega
      have vpos : ¬ (g a.toNatClampNeg + pH c p) < 0 := by rw [Int32.lt_iff_toInt_lt, sv, z_i0]; omega
      have low : ∀ u : Nat, ¬ g u < 0 → (¬ (upd g b.toNatClampNeg (g a.toNatClampNeg + pH c p)) u < 0) ∧ ((upd g b.toNatClampNeg (g a.toNatClampNeg + pH c p)) u).toInt ≤ (g u).toInt := by
        intro u hu
        by_cases q : b.toNatClampNeg = u
        · rw [← q, pk_us]
          refine ⟨vpos, ?_⟩
          rw [← q] at hu
          rcases ho with o | o
          · exact absurd o hu
          · rw [Int32.lt_iff_toInt_lt] at o; omega
        · rw [upd_ne q]
          exact ⟨hu, Int.le_refl _⟩
      refine ⟨⟨by dsimp only; rw [upd_ne hbs]; exact hJ.1, fun v hv hvn => ?_⟩, hF2, Or.inr rfl⟩
      dsimp only at hvn ⊢
      by_cases q : b.toNatClampNeg = v
      · right
        refine ⟨p, a.toNatClampNeg, hpn, ja, ?_, (low _ c1).1, ?_⟩
        · rcases hab with r | r
          · exact Or.inl ⟨by rw [r.1], by rw [← r.2]; exact q⟩
          · exact Or.inr ⟨by rw [r.1], by rw [← r.2]; exact q⟩
        · rw [← q, pk_us, upd_ne (fun z => hne z.symm), sv]
          exact Int.le_refl _
      · have hv2 : (upd g b.toNatClampNeg (g a.toNatClampNeg + pH c p)) v = g v := upd_ne q
        rw [hv2] at hvn ⊢
        rcases hJ.2 v hv hvn with r | ⟨p2, u, k1, k2, k3, k4, k5⟩
        · exact Or.inl r
        · right
          obtain ⟨l1, l2⟩ := low u k4
          exact ⟨p2, u, k1, k2, k3, l1, by omega⟩
    by_cases c2 : g b.toNatClampNeg < 0
    · rw [if_pos c2]
      exact up (Or.inl c2)
    · rw [if_neg c2]
      by_cases c3 : g a.toNatClampNeg + pH c p < g b.toNatClampNeg
      · rw [if_pos c3]
        exact up (Or.inr c3)
      · rw [if_neg c3]
        refine ⟨hJ, hF, Or.inl ⟨rfl, rfl, Or.inr ⟨c2, ?_⟩⟩⟩
        rw [Int32.lt_iff_toInt_lt, sv] at c3
        omega
theorem sd_pd {S c : Nat → Int32} {i k : Int32} {kn : Nat} (h : PD S c) (i0 : ¬ i < 0) (i1 : ¬ 20 ≤ i) (hk : k.toInt = kn) (k5 : kn < 5) : S ((68 + (5 * i)) + k).toNatClampNeg = c (68 + 5 * i.toNatClampNeg + kn) := by
  have hi := i_nn i0
  have e20 : (20 : Int32).toInt = 20 := by decide
  have e5 : (5 : Int32).toInt = 5 := by decide
  have e68 : (68 : Int32).toInt = 68 := by decide
  have i2 : i.toInt < 20 := by rw [Int32.le_iff_toInt_le] at i1; omega
  have m1 : (5 * i).toInt = 5 * i.toInt := by rw [zmul (by rw [e5]; omega) (by rw [e5]; omega), e5]
  have m2 : (68 + 5 * i).toInt = 68 + 5 * i.toInt := by rw [zadd (by rw [m1, e68]; omega) (by rw [m1, e68]; omega), m1, e68]
  have m3 : (68 + 5 * i + k).toInt = 68 + 5 * i.toInt + kn := by rw [zadd (by rw [m2, hk]; omega) (by rw [m2, hk]; omega), m2, hk]
  have en : (68 + 5 * i + k).toNatClampNeg = 68 + 5 * i.toNatClampNeg + kn := by
    show (68 + 5 * i + k).toInt.toNat = 68 + 5 * i.toInt.toNat + kn
    omega
  rw [en]
  refine h _ (Or.inr ⟨by omega, ?_⟩)
  show 68 + 5 * i.toInt.toNat + kn < 168
  omega
def FXP (c : Nat → Int32) (g : Nat → Int32) (k : Int) : Prop := ∀ p : Nat, (p : Int) < k → FX1 g (pA c p) (pB c p) (pH c p) ∧ FX1 g (pB c p) (pA c p) (pH c p)
theorem spr_r {S c : Nat → Int32} {n : Int32} {s : Nat} {g0 : Nat → Int32} (hS : PD S c) (hp : PAc c n) (n20 : ¬ 20 < n) (hs : s < 12) {E : (Nat → Int32) → Int32 → Int32 → (Nat → Int32)} : ∀ (N : Nat) (g : Nat → Int32) (i m : Int32), ¬ i < 0 → ¬ n < i → (n.toInt - i.toInt).toNat < N → JI c n s g → FI g0 g m → ((m = 0 ∧ g = g0 ∧ FXP c g i.toInt) ∨ m = 1) → ∃ (g2 : Nat → Int32) (j m2 : Int32), fl_mX11_spreads_38 S n E N g i m = E g2 j m2 ∧ JI c n s g2 ∧ FI g0 g2 m2 ∧ (m2 = 0 → FXP c g2 n.toInt) := by
  intro N
  induction N with
  | zero => intro g i m _ _ hn; exact absurd hn (Nat.not_lt_zero _)
  | succ N ih =>
    intro g i m i0 iT hn hJ hF hm
    show ∃ (g2 : Nat → Int32) (j m2 : Int32), fb_mX11_spreads_38 S n E (fl_mX11_spreads_38 S n E N) g i m = E g2 j m2 ∧ _
    by_cases b : n ≤ i
    · have e : fb_mX11_spreads_38 S n E (fl_mX11_spreads_38 S n E N) g i m = E g i m := by
        unfold fb_mX11_spreads_38
        rw [if_pos b]
      refine ⟨g, i, m, e, hJ, hF, fun q p hpn => ?_⟩
      rcases hm with ⟨_, _, hx⟩ | hm
      · rw [Int32.le_iff_toInt_le] at b
        exact hx p (by omega)
      · rw [hm] at q
        exact absurd q (by decide)
    · have i20 : ¬ 20 ≤ i := by grind
      have hin := i_nn i0
      have hb := b
      rw [Int32.le_iff_toInt_le] at hb
      have hpn : ((i.toNatClampNeg : Nat) : Int) < n.toInt := by show ((i.toInt.toNat : Nat) : Int) < _; omega
      rw [spr_b (sd_pd (k := 0) (kn := 0) hS i0 i20 (by decide) (by decide)) (sd_pd (k := 1) (kn := 1) hS i0 i20 (by decide) (by decide)) (sd_pd (k := 2) (kn := 2) hS i0 i20 (by decide) (by decide)) b]
      have r1 := rx_ok (m := m) hp hpn (Or.inl ⟨rfl, rfl⟩) hs hJ hF
      show ∃ (g2 : Nat → Int32) (j m2 : Int32), fl_mX11_spreads_38 S n E N (rx (rx g m (pA c i.toNatClampNeg) (pB c i.toNatClampNeg) (pH c i.toNatClampNeg)).1 (rx g m (pA c i.toNatClampNeg) (pB c i.toNatClampNeg) (pH c i.toNatClampNeg)).2 (pB c i.toNatClampNeg) (pA c i.toNatClampNeg) (pH c i.toNatClampNeg)).1 (i + 1) (rx (rx g m (pA c i.toNatClampNeg) (pB c i.toNatClampNeg) (pH c i.toNatClampNeg)).1 (rx g m (pA c i.toNatClampNeg) (pB c i.toNatClampNeg) (pH c i.toNatClampNeg)).2 (pB c i.toNatClampNeg) (pA c i.toNatClampNeg) (pH c i.toNatClampNeg)).2 = E g2 j m2 ∧ _
      generalize rx g m (pA c i.toNatClampNeg) (pB c i.toNatClampNeg) (pH c i.toNatClampNeg) = u at r1 ⊢
      obtain ⟨j1, f1, o1⟩ := r1
      have r2 := rx_ok (m := u.2) hp hpn (Or.inr ⟨rfl, rfl⟩) hs j1 f1
      generalize rx u.1 u.2 (pB c i.toNatClampNeg) (pA c i.toNatClampNeg) (pH c i.toNatClampNeg) = w at r2 ⊢
      obtain ⟨j2, f2, o2⟩ := r2
      have e1 : (i + 1).toInt = i.toInt + 1 := zadd1 (by have := z32 n; omega)
      refine ih w.1 (i + 1) w.2 (a_nn b i0) (a_le b) (n_sub b hn) j2 f2 ?_
      rcases o2 with ⟨a1, a2, a3⟩ | o2
      · rcases o1 with ⟨b1, b2, b3⟩ | o1
        · rcases hm with ⟨m1, m2, m3⟩ | hm
          · left
            refine ⟨a2.trans (b2.trans m1), a1.trans (b1.trans m2), fun p hpi => ?_⟩
            rw [a1, b1]
            rw [e1] at hpi
            by_cases q : (p : Int) = i.toInt
            · have ep : p = i.toNatClampNeg := by show p = i.toInt.toNat; omega
              subst ep
              exact ⟨b3, by rw [b1] at a3; exact a3⟩
            · exact m3 p (by omega)
          · exact Or.inr (a2.trans (b2.trans hm))
        · exact Or.inr (a2.trans o1)
      · exact Or.inr o2
theorem spr_w {S c : Nat → Int32} {n : Int32} {s : Nat} (hS : PD S c) (hp : PAc c n) (n0 : ¬ n < 0) (n20 : ¬ 20 < n) (hs : s < 12) : ∀ (N : Nat) (g : Nat → Int32) (m : Int32), 2 * fmf g + mb m < N → JI c n s g → FW g → (m = 0 → FXP c g n.toInt) → ∃ g2 : Nat → Int32, fl_mX11_spreads_30 S n (fun a _ => a) N g m = g2 ∧ JI c n s g2 ∧ FW g2 ∧ FXP c g2 n.toInt := by
  intro N
  induction N with
  | zero => intro g m hn; exact absurd hn (Nat.not_lt_zero _)
  | succ N ih =>
    intro g m hn hJ hF hm
    show ∃ g2 : Nat → Int32, fb_mX11_spreads_30 S n (fun a _ => a) (fl_mX11_spreads_30 S n (fun a _ => a) N) g m = g2 ∧ _
    unfold fb_mX11_spreads_30
    by_cases q : m = 0
    · rw [if_pos q]
      exact ⟨g, rfl, hJ, hF, hm q⟩
    · rw [if_neg q]
      obtain ⟨g2, j, m2, e, k1, k2, k3⟩ := spr_r (g0 := g) hS hp n20 hs (E := fun w159_0 _ w159_2 => fl_mX11_spreads_30 S n (fun a _ => a) N w159_0 w159_2) (((n : Int32).toInt - (0 : Int32).toInt).toNat + 1) g 0 0 (by decide) n0 (Nat.lt_succ_self _) hJ (FI_rf hF) (Or.inl ⟨rfl, rfl, fun p hpi => by rw [z_i0] at hpi; omega⟩)
      rw [e]
      exact ih g2 m2 (fm_back hn q k2) k1 k2.1 k3
theorem spr_i {E : (Nat → Int32) → Int32 → (Nat → Int32)} : ∀ (N : Nat) (f : Nat → Int32) (i : Int32), ¬ i < 0 → ¬ 12 < i → (12 - i.toInt).toNat < N → FA f i → ∃ (g : Nat → Int32) (j : Int32), fl_mX11_spreads_2 E N f i = E g j ∧ FA g 12 := by
  intro N
  induction N with
  | zero => intro f i _ _ hn; exact absurd hn (Nat.not_lt_zero _)
  | succ N ih =>
    intro f i i0 i12 hn hf
    show ∃ (g : Nat → Int32) (j : Int32), fb_mX11_spreads_2 E (fl_mX11_spreads_2 E N) f i = E g j ∧ _
    unfold fb_mX11_spreads_2
    have e12 : (12 : Int32).toInt = 12 := by decide
    by_cases b : 12 ≤ i
    · rw [if_pos b]
      rw [Int32.le_iff_toInt_le] at b
      exact ⟨f, i, rfl, fun j hj => hf j (by omega)⟩
    · rw [if_neg b]
      simp only [bnd]
      have hb := b
      rw [Int32.le_iff_toInt_le] at hb
      have hin := i_nn i0
      have e1 : (i + 1).toInt = i.toInt + 1 := zadd1 (by omega)
      exact ih _ (i + 1) (a_nn b i0) (a_le b) (by omega) (FA_s hf i0 b rfl rfl)
def Gof (g : Nat → Int32) : Nat → Int := fun v => if g v < 0 then 1000000 else (g v).toInt
theorem spr {S c f : Nat → Int32} {n s : Int32} (hS : PD S c) (hp : PAc c n) (n0 : ¬ n < 0) (n20 : ¬ 20 < n) (s0 : ¬ s < 0) (s1 : ¬ 12 ≤ s) : GOK c n s.toNatClampNeg (Gof (fX11_spreads S f n s)) ∧ FW (fX11_spreads S f n s) := by
  unfold fX11_spreads
  have js := nat12 s0 s1
  obtain ⟨g, j, e, hg⟩ := spr_i (E := fun (w21_0_0 : Nat → Int32) (_ : Int32) => fl_mX11_spreads_30 S n (fun (w162_0_1 : Nat → Int32) (_ : Int32) => w162_0_1) (2 * fmf (upd w21_0_0 s.toNatClampNeg 0) + mb 1 + 1) (upd w21_0_0 s.toNatClampNeg 0) 1) (((12 : Int32).toInt - (0 : Int32).toInt).toNat + 1) f 0 (by decide) (by decide) (by decide) (FA_0 f)
  simp only [bnd]
  rw [e]
  have e12 : (12 : Int32).toInt = 12 := by decide
  have hneg : ∀ v : Nat, v < 12 → ¬ s.toNatClampNeg = v → (upd g s.toNatClampNeg 0) v < 0 := by
    intro v hv q
    rw [upd_ne q, hg v (by omega)]
    decide
  have hJ : JI c n s.toNatClampNeg (upd g s.toNatClampNeg 0) := ⟨pk_us, fun v hv hn => by
    by_cases q : s.toNatClampNeg = v
    · exact Or.inl q.symm
    · exact absurd (hneg v hv q) hn⟩
  have hc1 : ss w_c (upd g s.toNatClampNeg 0) 12 = 1 := by
    have h1 := ss_upd (w := w_c) (g := g) (b := s.toNatClampNeg) (v := 0) 12 js
    have h2 := ss_all (w := w_c) (g := g) (c := -1) 12 (fun j hj => hg j (by omega))
    rw [hg _ (by omega)] at h1
    have w1 : w_c (-1) = 0 := by decide
    have w0 : w_c 0 = 1 := by decide
    rw [w1] at h1 h2
    rw [w0] at h1
    omega
  have hF : FW (upd g s.toNatClampNeg 0) := by
    intro v hv hn
    by_cases q : s.toNatClampNeg = v
    · rw [← q, pk_us, hc1, z_i0]; decide
    · exact absurd (hneg v hv q) hn
  obtain ⟨g2, e2, k1, k2, k3⟩ := spr_w hS hp n0 n20 js (2 * fmf (upd g s.toNatClampNeg 0) + mb 1 + 1) (upd g s.toNatClampNeg 0) 1 (Nat.lt_succ_self _) hJ hF (fun q => absurd q (by decide))
  rw [e2]
  refine ⟨⟨?_, ?_, ?_, ?_⟩, k2⟩
  · unfold Gof
    rw [k1.1, if_neg (by decide), z_i0]
  · intro v hv
    unfold Gof
    by_cases q : g2 v < 0
    · rw [if_pos q]; omega
    · rw [if_neg q]
      have := g_bd k2 hv q
      omega
  · intro p hpn
    obtain ⟨h1, h2, h3⟩ := hp p hpn
    obtain ⟨x1, x2⟩ := k3 p hpn
    have ja := nat12 h1.1 h1.2
    have jb := nat12 h2.1 h2.2
    have e1 : (1 : Int32).toInt = 1 := by decide
    have hh : 1 ≤ (pH c p).toInt := by
      have := h3.1
      rw [Int32.lt_iff_toInt_lt] at this
      omega
    unfold Gof
    by_cases qa : g2 (pA c p).toNatClampNeg < 0
    · rw [if_pos qa]
      by_cases qb : g2 (pB c p).toNatClampNeg < 0
      · rw [if_pos qb]; omega
      · rcases x2 with x2 | x2
        · exact absurd x2 qb
        · exact absurd qa x2.1
    · rw [if_neg qa]
      by_cases qb : g2 (pB c p).toNatClampNeg < 0
      · rcases x1 with x1 | x1
        · exact absurd x1 qa
        · exact absurd qb x1.1
      · rw [if_neg qb]
        rcases x1 with x1 | x1
        · exact absurd x1 qa
        · rcases x2 with x2 | x2
          · exact absurd x2 qb
          · exact ⟨x1.2, x2.2⟩
  · intro v hv hfin
    have hvn : ¬ g2 v < 0 := by
      intro q
      unfold Gof at hfin
      rw [if_pos q] at hfin
      omega
    rcases k1.2 v hv hvn with r | ⟨p, u, q1, q2, q3, q4, q5⟩
    · exact Or.inl r
    · right
      refine ⟨p, u, q1, q2, q3, ?_⟩
      obtain ⟨x1, x2⟩ := k3 p q1
      unfold Gof
      rw [if_neg hvn, if_neg q4]
      rcases q3 with ⟨ea, eb⟩ | ⟨eb, ea⟩
      · unfold FX1 at x1
        rw [ea, eb] at x1
        rcases x1 with x1 | x1
        · exact absurd x1 q4
        · omega
      · unfold FX1 at x2
        rw [ea, eb] at x2
        rcases x2 with x2 | x2
        · exact absurd x2 q4
        · omega
def so_r (c : Nat → Int32) (p q : Int32) : Int32 := (fX11_soonest c (fun _ => 0) (c 0) (c 1) p q).2
theorem so_x {F S c f g : Nat → Int32} {a b : Int32} (h : PE F c) (hS : PD S c) (hp : PAc c (c 1)) (n0 : ¬ c 1 < 0) (n20 : ¬ 20 < c 1) (z12 : ¬ 12 < c 0) : (fX10_soonest (c 0) (c 1) F f a b).2 = (fX11_soonest S g (c 0) (c 1) a b).2 := by
  unfold fX10_soonest fX11_soonest
  simp only [bnd]
  by_cases h1 : hs a (c 0) = 0
  · rw [if_pos h1, if_pos h1]
  · rw [if_neg h1, if_neg h1]
    by_cases h2 : hs b (c 0) = 0
    · rw [if_pos h2, if_pos h2]
    · rw [if_neg h2, if_neg h2]
      obtain ⟨a0, a1⟩ := hs_ne h1
      obtain ⟨b0, b1⟩ := hs_ne h2
      have a12 : ¬ 12 ≤ a := by grind
      have b12 : ¬ 12 ≤ b := by grind
      obtain ⟨hG, hW⟩ := spr (f := g) hS hp n0 n20 a0 a12
      have hm := meas (f := f) h hp n0 n20 a0 a12 hG
      have jb := nat12 b0 b12
      have hv := hm _ jb
      rw [far_in b0 b12]
      generalize fX5_measure f (c 1) F a (-1) 1 = u at hv ⊢
      generalize fX11_spreads S g (c 1) a = w at hv hW ⊢
      have em : (1000000 : Int32).toInt = 1000000 := by decide
      unfold Gof at hv
      by_cases q : w b.toNatClampNeg < 0
      · rw [if_pos q] at hv
        rw [if_pos (show (1000000 : Int32) ≤ u b.toNatClampNeg by rw [Int32.le_iff_toInt_le, em, hv]; omega), if_neg (show ¬ 0 ≤ w b.toNatClampNeg by grind)]
      · rw [if_neg q] at hv
        have hb := g_bd hW jb q
        rw [if_neg (show ¬ (1000000 : Int32) ≤ u b.toNatClampNeg by rw [Int32.le_iff_toInt_le, em, hv]; omega), if_pos (show 0 ≤ w b.toNatClampNeg by grind)]
        exact Int32.toInt_inj.mp hv
def PAr (c : Nat → Int32) : Prop := PAc c (c 1) ∧ (¬ c 1 < 0) ∧ (¬ 20 < c 1) ∧ ¬ 12 < c 0
theorem so_xx {F c f : Nat → Int32} {zn zp a b : Int32} (h : PE F c) (e0 : zn = c 0) (e1 : zp = c 1) (hp : PAr c) : (fX10_soonest zn zp F f a b).2 = so_r c a b := by
  subst e0
  subst e1
  exact so_x h (fun _ _ => rfl) hp.1 hp.2.1 hp.2.2.1 hp.2.2.2
theorem so_m {S c g : Nat → Int32} {a b : Int32} (hS : PD S c) (hp : PAr c) : (fX11_soonest S g (c 0) (c 1) a b).2 = so_r c a b :=
  (so_x (F := fun i => c (68 + i)) (f := fun _ => 0) (fun _ _ => rfl) hS hp.1 hp.2.1 hp.2.2.1 hp.2.2.2).symm.trans (so_x (fun _ _ => rfl) (fun _ _ => rfl) hp.1 hp.2.1 hp.2.2.1 hp.2.2.2)
theorem SC_pa {f cn : Nat → Int32} {c d e g zk zw : Int32} (h : SC f (cn 0) (cn 1) c d e g zk zw cn) : PAr cn := by
  refine ⟨fun p hp => ?_, h.2.2.1.1, h.2.2.1.2, h.2.1.2⟩
  have n20 := h.2.2.1.2
  have p20 : p < 20 := by
    rw [Int32.lt_iff_toInt_lt] at n20
    have e : (20 : Int32).toInt = 20 := by decide
    omega
  have q1 := h.sr.1 p p20
  have q2 := h.sr.2.1 p p20 hp
  rw [h.dd (68 + 5 * p) (Or.inr ⟨by omega, by omega⟩), h.dd (69 + 5 * p) (Or.inr ⟨by omega, by omega⟩)] at q1
  rw [h.dd (70 + 5 * p) (Or.inr ⟨by omega, by omega⟩)] at q2
  unfold pA pB pH
  rw [show 68 + 5 * p + 1 = 69 + 5 * p by omega, show 68 + 5 * p + 2 = 70 + 5 * p by omega]
  exact ⟨q1.1, q1.2, q2⟩
