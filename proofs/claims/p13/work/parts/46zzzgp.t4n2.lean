def JI1 (S : Nat → Int32) (j : Int32) : Prop := (0 ≤ (S (168 + 9 * j.toNatClampNeg + 4)).toInt ∧ (S (168 + 9 * j.toNatClampNeg + 4)).toInt ≤ 99999) ∧ (0 ≤ (S (168 + 9 * j.toNatClampNeg + 5)).toInt ∧ (S (168 + 9 * j.toNatClampNeg + 5)).toInt ≤ 13) ∧ (S (168 + 9 * j.toNatClampNeg + 5) = 12 → rP S (S (168 + 9 * j.toNatClampNeg + 6)) ∧ rN (S (168 + 9 * j.toNatClampNeg + 8)) ∧ rN (oth S (S (168 + 9 * j.toNatClampNeg + 6)) (S (168 + 9 * j.toNatClampNeg + 8))) ∧ 0 ≤ (S (168 + 9 * j.toNatClampNeg + 7)).toInt ∧ (S (168 + 9 * j.toNatClampNeg + 7)).toInt < (S (68 + 5 * (S (168 + 9 * j.toNatClampNeg + 6)).toNatClampNeg + 2)).toInt)
def NI (S : Nat → Int32) : Prop := ∀ z : Int32, rN z → 0 ≤ (S (20 + 4 * z.toNatClampNeg + 3)).toInt ∧ (S (20 + 4 * z.toNatClampNeg + 3)).toInt ≤ 999999
def IV (S : Nat → Int32) : Prop := (∀ j : Int32, rJ j → JI1 S j) ∧ NI S ∧ PLC S ∧ PAS S (S 2) ∧ 0 ≤ (S 7).toInt ∧ (0 ≤ (S 5).toInt ∧ (S 5).toInt ≤ 199999) ∧ (0 ≤ (S 2).toInt ∧ (S 2).toInt ≤ 16) ∧ (0 ≤ (S 0).toInt ∧ (S 0).toInt ≤ 12)
set_option maxHeartbeats 400000 in
theorem oth_ag {S U : Nat → Int32} {p n : Int32} (a : ∀ i : Nat, 68 ≤ i → i < 168 → U i = S i) (p0 : 0 ≤ p.toInt) (p1 : p.toInt < 20) : oth U p n = oth S p n := by
  have := tn_eq p0
  unfold oth
  rw [c_ps (q := 0) (c := 0) p0 p1 (by decide) (by decide), c_ps (q := 1) (c := 1) p0 p1 (by decide) (by decide), a _ (by omega) (by omega), a _ (by omega) (by omega)]
set_option maxHeartbeats 400000 in
theorem rP_ag {S U : Nat → Int32} {p : Int32} (h : rP S p) (a1 : U 1 = S 1) (a : ∀ i : Nat, 68 ≤ i → i < 168 → U i = S i) : rP U p := by
  obtain ⟨h0, h1, h2, h3, h4⟩ := h
  have := tn_eq h0
  unfold rP
  rw [a1, a _ (by omega) (by omega)]
  exact ⟨h0, h1, h2, h3, h4⟩
set_option maxHeartbeats 400000 in
theorem JI1_ag {S U : Nat → Int32} {j : Int32} (h : JI1 S j) (a1 : U 1 = S 1) (a : ∀ i : Nat, 68 ≤ i → i < 168 → U i = S i) (b : ∀ q : Nat, q < 9 → U (168 + 9 * j.toNatClampNeg + q) = S (168 + 9 * j.toNatClampNeg + q)) : JI1 U j := by
  obtain ⟨h1, h2, h3⟩ := h
  unfold JI1
  rw [b 4 (by decide), b 5 (by decide), b 6 (by decide), b 7 (by decide), b 8 (by decide)]
  refine ⟨h1, h2, fun w => ?_⟩
  obtain ⟨r1, r2, r3, r4, r5⟩ := h3 w
  have p0 := r1.1
  have p1 : (S (168 + 9 * j.toNatClampNeg + 6)).toInt < 20 := by have := r1.2.1; have := r1.2.2.1; omega
  have := tn_eq p0
  rw [oth_ag a p0 p1, a (68 + 5 * (S (168 + 9 * j.toNatClampNeg + 6)).toNatClampNeg + 2) (by omega) (by omega)]
  exact ⟨rP_ag r1 a1 a, r2, r3, r4, r5⟩
set_option maxHeartbeats 400000 in
/-- one jar (and stores, and x) changes -/
theorem IV_one {S U : Nat → Int32} {j : Int32} (h : IV S) (hj : rJ j) (a : ∀ i : Nat, i ≠ 7 → (i < 20 ∨ (68 ≤ i ∧ i < 168)) → U i = S i) (b : ∀ i : Nat, 168 ≤ i → (i < (168 + 9 * j.toNatClampNeg + 0) ∨ (168 + 9 * j.toNatClampNeg + 8) < i) → U i = S i) (hx : 0 ≤ (U 7).toInt) (hn : NI U) (h1 : JI1 U j) (hp : 0 ≤ (U (168 + 9 * j.toNatClampNeg + 3)).toInt ∧ (U (168 + 9 * j.toNatClampNeg + 3)).toInt ≤ 15) (hq : j.toInt < (S 2).toInt → ¬ U (168 + 9 * j.toNatClampNeg + 5) = 12 → U (168 + 9 * j.toNatClampNeg + 6) = -1) : IV U := by
  obtain ⟨i1, i2, i3, i4, i5, i6, i7, i8⟩ := h
  have a1 : U 1 = S 1 := a 1 (by decide) (Or.inl (by decide))
  have a2 : ∀ i : Nat, 68 ≤ i → i < 168 → U i = S i := fun i l0 l1 => a i (by omega) (Or.inr ⟨l0, l1⟩)
  refine ⟨fun k hk => ?_, hn, fun k hk => ?_, ?_, hx, ?_, ?_, ?_⟩
  · by_cases e : k.toNatClampNeg = j.toNatClampNeg
    · have e1 := tn_eq hk.1
      have e2 := tn_eq hj.1
      have : k = j := Int32.toInt_inj.mp (by omega)
      rw [this]; exact h1
    · exact JI1_ag (i1 k hk) a1 a2 (fun q hq9 => b _ (by omega) (by omega))
  · by_cases e : k = j.toNatClampNeg
    · rw [e]; exact hp
    · rw [b _ (by omega) (by omega)]
      exact i3 k hk
  · rw [a 2 (by decide) (Or.inl (by decide))]
    intro k k0 k1 hk
    by_cases e : k.toNatClampNeg = j.toNatClampNeg
    · have e1 := tn_eq k0
      have e2 := tn_eq hj.1
      rw [e] at hk ⊢
      exact hq (by omega) hk
    · rw [b _ (by omega) (by omega)] at hk
      rw [b _ (by omega) (by omega)]
      exact i4 k k0 k1 hk
  · rw [a 5 (by decide) (Or.inl (by decide))]; exact i6
  · rw [a 2 (by decide) (Or.inl (by decide))]; exact i7
  · rw [a 0 (by decide) (Or.inl (by decide))]; exact i8
set_option maxHeartbeats 400000 in
theorem NI_ag {S U : Nat → Int32} (h : NI S) (a : ∀ i : Nat, 20 ≤ i → i < 68 → U i = S i) : NI U := by
  intro z hz
  have := tn_eq hz.1
  have := hz.2
  rw [a _ (by omega) (by omega)]
  exact h z hz
set_option maxHeartbeats 400000 in
theorem c13 : (13 : Int32).toInt = 13 := by decide
set_option maxHeartbeats 400000 in
theorem c12 : (12 : Int32).toInt = 12 := by decide
set_option maxHeartbeats 400000 in
theorem IV_go {S : Nat → Int32} {j : Int32} (h : IV S) (hj : rJ j) : IV (goS S j) := by
  have tj := tn_eq hj.1
  have lj := hj.2
  have d4 : goS S j (168 + 9 * j.toNatClampNeg + 4) = 0 := by
    unfold goS
    rw [upd_ne (by omega), upd_ne (by omega), upd_ne (by omega), upd_ne (by omega), pk_us]
  have d6 : goS S j (168 + 9 * j.toNatClampNeg + 6) = -1 := by
    unfold goS
    rw [upd_ne (by omega), upd_ne (by omega), pk_us]
  have d3 : goS S j (168 + 9 * j.toNatClampNeg + 3) = S (168 + 9 * j.toNatClampNeg + 3) := goS_at (by omega)
  refine IV_one h hj (fun i _ _ => goS_at (by omega)) (fun i _ _ => goS_at (by omega)) (by rw [goS_at (by omega)]; exact h.2.2.2.2.1) (NI_ag h.2.1 (fun i _ _ => goS_at (by omega))) ⟨?_, ?_, ?_⟩ ?_ (fun _ _ => d6)
  · rw [d4]; decide
  · rw [goS_5]; decide
  · rw [goS_5]
    intro q
    exact absurd q (by decide)
  · rw [d3]
    exact h.2.2.1 _ (by omega)
set_option maxHeartbeats 400000 in
theorem IV_bs {ch node pass z : Int32} (hz : z.toInt ≤ 16) (z0 : 0 ≤ z.toInt) : ∀ (n : Nat) (last : Int32) (S : Nat → Int32), IV S → rJ last → IV (bsS ch node pass z n last S) := by
  intro n
  induction n with
  | zero => intro last S h _; exact h
  | succ n ih =>
    intro last S h hl
    have hb := nb_all (S := S) (node := node) (pass := pass) (last := last) hz z0
    unfold bsS
    generalize nbS S node pass last z.toNatClampNeg 0 (-1) = b at hb ⊢
    rcases hb with rfl | ⟨h1, h2, h3⟩
    · rw [if_pos (by decide)]
      exact IV_go h hl
    · rw [if_neg (z_nlt0 h1.1)]
      split
      · exact IV_go h hl
      · exact ih b _ (IV_go h hl) h1
set_option maxHeartbeats 400000 in
/-- behind an arrival -/
theorem brS_in {s d : Int32} (s0 : 0 ≤ s.toInt) (s9 : s.toInt ≤ 999999) (d0 : 0 ≤ d.toInt) (d9 : d.toInt ≤ 99999) : 0 ≤ (s + brS s d).toInt ∧ (s + brS s d).toInt ≤ 999999 := by
  have k9 : (999999 : Int32).toInt = 999999 := by decide
  have e2 : (999999 - s).toInt = 999999 - s.toInt := by rw [zsub (by omega) (by omega), k9]
  unfold brS
  split
  · rw [zadd (by omega) (by omega), e2]; omega
  · rename_i c
    rw [Int32.lt_iff_toInt_lt, e2] at c
    rw [zadd (by omega) (by omega)]; omega
set_option maxHeartbeats 400000 in
theorem IV_ar {S : Nat → Int32} {L : Cls} {j d g x : Int32} (h : IV S) (hj : rJ j) (w : S (168 + 9 * j.toNatClampNeg + 5) = 12) (d0 : 0 ≤ d.toInt) (d9 : d.toInt ≤ 99999) (hx : 0 ≤ x.toInt) : IV (upd (ar2 (upd (upd S (168 + 9 * j.toNatClampNeg + 4) d) (168 + 9 * j.toNatClampNeg + 7) g) L j) 7 x) := by
  have tj := tn_eq hj.1
  have lj := hj.2
  obtain ⟨i1, i2, i3⟩ := h.1 j hj
  obtain ⟨r1, r2, r3, r4, r5⟩ := i3 w
  have e8 : upd (upd S (168 + 9 * j.toNatClampNeg + 4) d) (168 + 9 * j.toNatClampNeg + 7) g (168 + 9 * j.toNatClampNeg + 8) = S (168 + 9 * j.toNatClampNeg + 8) := by rw [upd_ne (by omega), upd_ne (by omega)]
  have e4 : upd (upd S (168 + 9 * j.toNatClampNeg + 4) d) (168 + 9 * j.toNatClampNeg + 7) g (168 + 9 * j.toNatClampNeg + 4) = d := by rw [upd_ne (by omega), pk_us]
  have t8 : rN (upd (upd S (168 + 9 * j.toNatClampNeg + 4) d) (168 + 9 * j.toNatClampNeg + 7) g (168 + 9 * j.toNatClampNeg + 8)) := by rw [e8]; exact r2
  have hN := arN_lt t8
  have a1 : 0 ≤ (ar1 (upd (upd S (168 + 9 * j.toNatClampNeg + 4) d) (168 + 9 * j.toNatClampNeg + 7) g) L j).toInt ∧ (ar1 (upd (upd S (168 + 9 * j.toNatClampNeg + 4) d) (168 + 9 * j.toNatClampNeg + 7) g) L j).toInt ≤ d.toInt := by
    unfold ar1
    rw [e4]
    exact shr_in d0 d9
  have f4 := ar2_4 (L := L) t8
  rw [e4] at f4
  have s1 := zsub (a := d) (b := ar1 (upd (upd S (168 + 9 * j.toNatClampNeg + 4) d) (168 + 9 * j.toNatClampNeg + 7) g) L j) (by omega) (by omega)
  have far : ∀ i : Nat, i ≠ 7 → (i < (168 + 9 * j.toNatClampNeg + 4) ∨ (168 + 9 * j.toNatClampNeg + 8) < i) → i ≠ arN (upd (upd S (168 + 9 * j.toNatClampNeg + 4) d) (168 + 9 * j.toNatClampNeg + 7) g) j → upd (ar2 (upd (upd S (168 + 9 * j.toNatClampNeg + 4) d) (168 + 9 * j.toNatClampNeg + 7) g) L j) 7 x i = S i := by
    intro i n7 hi hn
    rw [upd_ne (by omega), ar2_at hi hn, upd_ne (by omega), upd_ne (by omega)]
  have f5 : upd (ar2 (upd (upd S (168 + 9 * j.toNatClampNeg + 4) d) (168 + 9 * j.toNatClampNeg + 7) g) L j) 7 x (168 + 9 * j.toNatClampNeg + 5) = S (168 + 9 * j.toNatClampNeg + 8) := by
    rw [upd_ne (by omega)]
    unfold ar2
    rw [st_5, e8]
  have f6 : upd (ar2 (upd (upd S (168 + 9 * j.toNatClampNeg + 4) d) (168 + 9 * j.toNatClampNeg + 7) g) L j) 7 x (168 + 9 * j.toNatClampNeg + 6) = -1 := by
    rw [upd_ne (by omega)]
    unfold ar2
    rw [st_6]
  have n12 : ¬ S (168 + 9 * j.toNatClampNeg + 8) = 12 := by
    intro y
    have := r2.2
    rw [y] at this
    exact absurd this (by decide)
  refine IV_one h hj (fun i n7 hi => far i n7 (by omega) (by omega)) (fun i i0 hi => far i (by omega) (by omega) (by omega)) (by rw [pk_us]; exact hx) ?_ ⟨?_, ?_, ?_⟩ ?_ (fun _ _ => f6)
  · intro z hz
    have tz := tn_eq hz.1
    have lz := hz.2
    by_cases q : arN (upd (upd S (168 + 9 * j.toNatClampNeg + 4) d) (168 + 9 * j.toNatClampNeg + 7) g) j = 20 + 4 * z.toNatClampNeg + 3
    · rw [← q, upd_ne (by omega)]
      unfold ar2
      rw [st_at (by omega), pk_us, upd_ne (by omega), upd_ne (by omega), q]
      have nb := h.2.1 z hz
      exact brS_in nb.1 nb.2 a1.1 (by omega)
    · rw [far _ (by omega) (by omega) (fun y => q y.symm)]
      exact h.2.1 z hz
  · rw [upd_ne (by omega), f4, s1]; omega
  · rw [f5]
    have := r2.1
    have := r2.2
    omega
  · rw [f5]
    intro y
    exact absurd y n12
  · rw [far _ (by omega) (by omega) (by omega)]
    exact h.2.2.1 _ (by omega)
/-- a JAR's HOUR -/
def jarS (S : Nat → Int32) (L : Cls) (ch z j : Int32) : Nat → Int32 := if S (168 + 9 * j.toNatClampNeg + 5) = 13 then S else if S (168 + 9 * j.toNatClampNeg + 5) = 12 then (if S (168 + 9 * j.toNatClampNeg + 7) + 1 = S (68 + 5 * (S (168 + 9 * j.toNatClampNeg + 6)).toNatClampNeg + 2) then arr (upd (upd S (168 + 9 * j.toNatClampNeg + 4) (S (168 + 9 * j.toNatClampNeg + 4) - mel S L j)) (168 + 9 * j.toNatClampNeg + 7) (S (168 + 9 * j.toNatClampNeg + 7) + 1)) L ch z j else upd (upd S (168 + 9 * j.toNatClampNeg + 4) (S (168 + 9 * j.toNatClampNeg + 4) - mel S L j)) (168 + 9 * j.toNatClampNeg + 7) (S (168 + 9 * j.toNatClampNeg + 7) + 1)) else upd S (168 + 9 * j.toNatClampNeg + 4) (S (168 + 9 * j.toNatClampNeg + 4) - mel S L j)
set_option maxHeartbeats 400000 in
theorem mel_in {S : Nat → Int32} {L : Cls} {j : Int32} (h : 0 ≤ (S (168 + 9 * j.toNatClampNeg + 4)).toInt ∧ (S (168 + 9 * j.toNatClampNeg + 4)).toInt ≤ 99999) : 0 ≤ (S (168 + 9 * j.toNatClampNeg + 4) - mel S L j).toInt ∧ (S (168 + 9 * j.toNatClampNeg + 4) - mel S L j).toInt ≤ 99999 := by
  have m := held_in (x := lsm (jwd S j) 0 L) (m := S (168 + 9 * j.toNatClampNeg + 4)) h.1
  have e : (S (168 + 9 * j.toNatClampNeg + 4) - mel S L j).toInt = (S (168 + 9 * j.toNatClampNeg + 4)).toInt - (mel S L j).toInt := by
    unfold mel
    exact zsub (by omega) (by omega)
  rw [e]
  unfold mel
  omega
set_option maxHeartbeats 400000 in
theorem IV_jar {S : Nat → Int32} {L : Cls} {ch j : Int32} (h : IV S) (hj : rJ j) : IV (jarS S L ch (S 2) j) := by
  have tj := tn_eq hj.1
  have lj := hj.2
  obtain ⟨i1, i2, i3⟩ := h.1 j hj
  have m := mel_in (L := L) i1
  have hz := h.2.2.2.2.2.2.1
  unfold jarS
  by_cases w13 : S (168 + 9 * j.toNatClampNeg + 5) = 13
  · rw [if_pos w13]; exact h
  · rw [if_neg w13]
    by_cases w : S (168 + 9 * j.toNatClampNeg + 5) = 12
    · rw [if_pos w]
      obtain ⟨r1, r2, r3, r4, r5⟩ := i3 w
      have r24 := r1.2.2.2.2
      have p20 : (S (168 + 9 * j.toNatClampNeg + 6)).toInt < 20 := by have := r1.2.1; have := r1.2.2.1; omega
      have tp := tn_eq r1.1
      have g1 : (S (168 + 9 * j.toNatClampNeg + 7) + 1).toInt = (S (168 + 9 * j.toNatClampNeg + 7)).toInt + 1 := zadd1 (by omega)
      by_cases e : S (168 + 9 * j.toNatClampNeg + 7) + 1 = S (68 + 5 * (S (168 + 9 * j.toNatClampNeg + 6)).toNatClampNeg + 2)
      · rw [if_pos e]
        have x7 : upd (upd S (168 + 9 * j.toNatClampNeg + 4) (S (168 + 9 * j.toNatClampNeg + 4) - mel S L j)) (168 + 9 * j.toNatClampNeg + 7) (S (168 + 9 * j.toNatClampNeg + 7) + 1) 7 = S 7 := by rw [upd_ne (by omega), upd_ne (by omega)]
        have x1 := (draw_x h.2.2.2.2.1).2
        have x2 := (draw_x (S := upd S 7 (fX9_draw (S 7)).1) (by rw [pk_us]; exact x1)).2
        rw [pk_us] at x2
        unfold arr ar3 ar4
        rw [x7]
        split
        · split
          · exact IV_ar h hj w m.1 m.2 x2
          · exact IV_bs hz.2 hz.1 _ _ _ (IV_ar h hj w m.1 m.2 x2) hj
        · exact IV_go (IV_ar h hj w m.1 m.2 x1) hj
      · rw [if_neg e]
        have far : ∀ i : Nat, i ≠ (168 + 9 * j.toNatClampNeg + 4) → i ≠ (168 + 9 * j.toNatClampNeg + 7) → upd (upd S (168 + 9 * j.toNatClampNeg + 4) (S (168 + 9 * j.toNatClampNeg + 4) - mel S L j)) (168 + 9 * j.toNatClampNeg + 7) (S (168 + 9 * j.toNatClampNeg + 7) + 1) i = S i := fun i n4 n7 => by rw [upd_ne (by omega), upd_ne (by omega)]
        refine IV_one h hj (fun i _ _ => far i (by omega) (by omega)) (fun i _ _ => far i (by omega) (by omega)) (by rw [far 7 (by omega) (by omega)]; exact h.2.2.2.2.1) (NI_ag h.2.1 (fun i _ _ => far i (by omega) (by omega))) ⟨?_, ?_, ?_⟩ ?_ ?_
        · rw [upd_ne (by omega), pk_us]; exact m
        · rw [far _ (by omega) (by omega)]; exact i2
        · intro _
          have a2 : ∀ i : Nat, 68 ≤ i → i < 168 → upd (upd S (168 + 9 * j.toNatClampNeg + 4) (S (168 + 9 * j.toNatClampNeg + 4) - mel S L j)) (168 + 9 * j.toNatClampNeg + 7) (S (168 + 9 * j.toNatClampNeg + 7) + 1) i = S i := fun i _ _ => far i (by omega) (by omega)
          rw [far (168 + 9 * j.toNatClampNeg + 6) (by omega) (by omega), far (168 + 9 * j.toNatClampNeg + 8) (by omega) (by omega), pk_us, oth_ag a2 r1.1 p20, far (68 + 5 * (S (168 + 9 * j.toNatClampNeg + 6)).toNatClampNeg + 2) (by omega) (by omega), g1]
          refine ⟨rP_ag r1 (far 1 (by omega) (by omega)) a2, r2, r3, by omega, ?_⟩
          have : ¬ (S (168 + 9 * j.toNatClampNeg + 7)).toInt + 1 = (S (68 + 5 * (S (168 + 9 * j.toNatClampNeg + 6)).toNatClampNeg + 2)).toInt := fun y => e (Int32.toInt_inj.mp (by rw [g1]; exact y))
          omega
        · rw [far _ (by omega) (by omega)]
          exact h.2.2.1 _ (by omega)
        · rw [far _ (by omega) (by omega)]
          intro _ y
          exact absurd w y
    · rw [if_neg w]
      have far : ∀ i : Nat, i ≠ (168 + 9 * j.toNatClampNeg + 4) → upd S (168 + 9 * j.toNatClampNeg + 4) (S (168 + 9 * j.toNatClampNeg + 4) - mel S L j) i = S i := fun i n4 => upd_ne (by omega)
      refine IV_one h hj (fun i _ _ => far i (by omega)) (fun i _ _ => far i (by omega)) (by rw [far 7 (by omega)]; exact h.2.2.2.2.1) (NI_ag h.2.1 (fun i _ _ => far i (by omega))) ⟨?_, ?_, ?_⟩ ?_ ?_
      · rw [pk_us]; exact m
      · rw [far _ (by omega)]; exact i2
      · rw [far _ (by omega)]
        intro y
        exact absurd y w
      · rw [far _ (by omega)]
        exact h.2.2.1 _ (by omega)
      · rw [far (168 + 9 * j.toNatClampNeg + 5) (by omega), far (168 + 9 * j.toNatClampNeg + 6) (by omega)]
        exact fun y0 y => h.2.2.2.1 j hj.1 y0 y
