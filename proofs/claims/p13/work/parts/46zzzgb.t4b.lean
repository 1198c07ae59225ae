set_option maxHeartbeats 400000 in
theorem sg_shr {s v : Int32} (s0 : 0 ≤ s.toInt) (s1 : s.toInt < 16) (v0 : 0 ≤ v.toInt) (v1 : v.toInt ≤ 99999) : (s + 16 * v) >>> ((4 : Int32) &&& 31) = v := by
  apply Int32.toInt_inj.mp
  rw [pk_shr (s + 16 * v) ((4 : Int32) &&& 31) 4 (by decide)]
  have e16 : (16 : Int32).toInt = 16 := by decide
  have e1 : (16 * v).toInt = 16 * v.toInt := by rw [zmul (by rw [e16]; omega) (by rw [e16]; omega), e16]
  rw [zadd (by rw [e1]; omega) (by rw [e1]; omega), e1, Int.shiftRight_eq_div_pow]
  show (s.toInt + 16 * v.toInt) / 16 = v.toInt
  omega
set_option maxHeartbeats 400000 in
theorem sg_and2 {s v : Int32} (s0 : 0 ≤ s.toInt) (s1 : s.toInt < 16) : (s + 16 * v) &&& 15 = s := by
  apply sg_and
  have h := Int32.toInt_toBitVec s
  have := s.toBitVec.isLt
  rw [← Int32.toInt_toBitVec, BitVec.toInt_eq_toNat_cond] at s0 s1
  split at s0 <;> rename_i c
  · rw [if_pos c] at s1; omega
  · rw [if_neg c] at s1; omega
/-- the reference's code of a VALUE, a SUM, a TEST -/
def vcd (o : Int32) : Int32 × Int32 := if o < 0 then (1, (-1) - o) else (0, o)
def cod : Int32 → List (Int32 × Int32) → List (Int32 × Int32)
  | p, [] => if p = -1 then [] else [(p, 0)]
  | p, q :: l => if q.1 = 2 then vcd q.2 :: (4, 0) :: cod p l else if q.1 = 3 then vcd q.2 :: (5, 0) :: cod p l else (if p = -1 then [] else [(p, 0)]) ++ vcd q.2 :: cod (if q.1 = 1 then 3 else 2) l
def scd : List (Int32 × Int32) → List (Int32 × Int32)
  | [] => []
  | q :: l => vcd q.2 :: cod (-1) l
def tcd : List (Int32 × List (Int32 × Int32) × List (Int32 × Int32)) → List (Int32 × Int32)
  | [] => []
  | q :: l => (if q.1 = -1 then [(11, 0)] else if q.1 = -2 then [(12, 0)] else if q.1 = -3 then [(13, 0)] else scd q.2.1 ++ scd q.2.2 ++ [(6 + q.1, 0)]) ++ tcd l
def runO (W : Nat → Int32) : List (Int32 × Int32) → List Int64 → Option (List Int64)
  | [], st => some st
  | q :: l, st => if q.1 = 0 then runO W l (q.2.toInt64 :: st) else if q.1 = 1 then runO W l ((W q.2.toNatClampNeg).toInt64 :: st) else if q.1 = 11 then (match st with | x :: r => runO W l ((1 - x) :: r) | [] => none) else (match st with | y :: x :: r => runO W l (fX11_one q.1 x y :: r) | _ => none)
/-- VALUES as they may stand in a LAW -/
def vok (o : Int32) : Prop := (¬ o < -11) ∧ ¬ 99999 < o
set_option maxHeartbeats 400000 in
theorem run_v {W : Nat → Int32} {o : Int32} {l : List (Int32 × Int32)} {st : List Int64} (h : vok o) : runO W (vcd o :: l) st = runO W l (evo W o :: st) := by
  unfold vcd evo
  have h1 := h.1
  rw [Int32.lt_iff_toInt_lt, show (-11 : Int32).toInt = -11 from by decide] at h1
  have e : ((-1) - o).toInt = -1 - o.toInt ∨ o.toInt > 99999 := by
    by_cases c : o.toInt > 99999
    · exact Or.inr c
    · refine Or.inl ?_
      rw [zsub (by rw [show (-1 : Int32).toInt = -1 from by decide]; omega) (by rw [show (-1 : Int32).toInt = -1 from by decide]; omega), show (-1 : Int32).toInt = -1 from by decide]
  have h2 := h.2
  rw [Int32.lt_iff_toInt_lt, show (99999 : Int32).toInt = 99999 from by decide] at h2
  have e : ((-1) - o).toInt = -1 - o.toInt := by rcases e with e | e; exact e; omega
  by_cases c : o < 0
  · have c1 := c
    rw [Int32.lt_iff_toInt_lt, z_i0] at c1
    rw [if_pos c, if_neg (by rw [Int32.lt_iff_toInt_lt, z_i0, e]; omega), if_neg (by rw [Int32.le_iff_toInt_le, e, show (11 : Int32).toInt = 11 from by decide]; omega)]
    rfl
  · have c1 := c
    rw [Int32.lt_iff_toInt_lt, z_i0] at c1
    rw [if_neg c, if_pos (by rw [Int32.lt_iff_toInt_lt, z_i0, e]; omega)]
    rfl
set_option maxHeartbeats 400000 in
theorem run_op {W : Nat → Int32} {k v : Int32} {R : List (Int32 × Int32)} {x y : Int64} {st : List Int64} (h0 : ¬ k = 0) (h1 : ¬ k = 1) (h11 : ¬ k = 11) : runO W ((k, v) :: R) (y :: x :: st) = runO W R (fX11_one k x y :: st) := by
  conv => lhs; unfold runO
  rw [if_neg h0, if_neg h1, if_neg h11]
set_option maxHeartbeats 400000 in
theorem one_2 (x y : Int64) : fX11_one 2 x y = x + y := by
  unfold fX11_one
  rw [if_pos rfl, bnd_eq]
set_option maxHeartbeats 400000 in
theorem one_3 (x y : Int64) : fX11_one 3 x y = x - y := by
  unfold fX11_one
  rw [if_neg (by decide), if_pos rfl, bnd_eq]
set_option maxHeartbeats 400000 in
theorem one_4 (x y : Int64) : fX11_one 4 x y = x * y := by
  unfold fX11_one
  rw [if_neg (by decide), if_neg (by decide), if_pos rfl, bnd_eq]
set_option maxHeartbeats 400000 in
theorem one_5 (x y : Int64) : fX11_one 5 x y = if lg_cmp y 0 = 0 then 0 else x / y := by
  unfold fX11_one
  rw [if_neg (by decide), if_neg (by decide), if_neg (by decide), if_pos rfl]
  by_cases c : lg_cmp y 0 = 0
  · rw [if_pos c, if_pos c]
  · rw [if_neg c, if_neg c, bnd_eq]
set_option maxHeartbeats 400000 in
theorem m_1 : (if (-1 : Int32) = 3 then (1 : Int32) else 0) = 0 := by decide
set_option maxHeartbeats 400000 in
theorem m_2 : (if (2 : Int32) = 3 then (1 : Int32) else 0) = 0 := by decide
set_option maxHeartbeats 400000 in
theorem m_3 : (if (3 : Int32) = 3 then (1 : Int32) else 0) = 1 := by decide
set_option maxHeartbeats 400000 in
theorem n2_1 : ¬ (2 : Int32) = -1 := by decide
set_option maxHeartbeats 400000 in
theorem n3_1 : ¬ (3 : Int32) = -1 := by decide
/-- the stack ahead of what is pending -/
def pst (p : Int32) (t s : Int64) (st : List Int64) : List Int64 := if p = -1 then t :: st else t :: s :: st
set_option maxHeartbeats 400000 in
theorem run_t {W : Nat → Int32} {R : List (Int32 × Int32)} {k p : Int32} {o : Int32} {t s z : Int64} {st : List Int64} (ho : vok o) (h0 : ¬ k = 0) (h1 : ¬ k = 1) (h11 : ¬ k = 11) (e : fX11_one k t (evo W o) = z) : runO W (vcd o :: (k, 0) :: R) (pst p t s st) = runO W R (pst p z s st) := by
  unfold pst
  by_cases c : p = -1
  · rw [if_pos c, if_pos c, run_v ho, run_op h0 h1 h11, e]
  · rw [if_neg c, if_neg c, run_v ho, run_op h0 h1 h11, e]
set_option maxHeartbeats 400000 in
/-- what is pending is done -/
theorem run_p {W : Nat → Int32} {R : List (Int32 × Int32)} {p : Int32} {t s : Int64} {st : List Int64} (hp : p = -1 ∨ p = 2 ∨ p = 3) (hs : p = -1 → s = 0) : runO W ((if p = -1 then [] else [(p, 0)]) ++ R) (pst p t s st) = runO W R ((if (if p = 3 then (1 : Int32) else 0) = 0 then s + t else s - t) :: st) := by
  unfold pst
  rcases hp with e | e | e
  · subst e
    rw [if_pos rfl, if_pos rfl, m_1, if_pos rfl, hs rfl, Int64.zero_add, List.nil_append]
  · subst e
    rw [if_neg n2_1, if_neg n2_1, m_2, if_pos rfl, List.singleton_append, run_op (by decide) (by decide) (by decide), one_2]
  · subst e
    rw [if_neg n3_1, if_neg n3_1, m_3, if_neg (by decide), List.singleton_append, run_op (by decide) (by decide) (by decide), one_3]
set_option maxHeartbeats 400000 in
theorem run_cod {W : Nat → Int32} {R : List (Int32 × Int32)} : ∀ (l : List (Int32 × Int32)) (p : Int32) (t s : Int64) (st : List Int64), (∀ q ∈ l, vok q.2) → (p = -1 ∨ p = 2 ∨ p = 3) → (p = -1 → s = 0) → runO W (cod p l ++ R) (pst p t s st) = runO W R (totw W l (if p = 3 then 1 else 0) t s :: st) := by
  intro l
  induction l with
  | nil =>
    intro p t s st hv hp hs
    rw [totw_n]
    unfold cod
    exact run_p hp hs
  | cons q l ih =>
    intro p t s st hv hp hs
    have hq := hv q List.mem_cons_self
    have hl : ∀ q ∈ l, vok q.2 := fun x hx => hv x (List.mem_cons_of_mem _ hx)
    rw [totw_c]
    unfold cod
    by_cases h2 : q.1 = 2
    · rw [if_pos h2, if_pos h2, List.cons_append, List.cons_append, run_t hq (by decide) (by decide) (by decide) (one_4 t (evo W q.2))]
      exact ih p (t * evo W q.2) s st hl hp hs
    · rw [if_neg h2, if_neg h2]
      by_cases h3 : q.1 = 3
      · rw [if_pos h3, if_pos h3, List.cons_append, List.cons_append, run_t hq (by decide) (by decide) (by decide) (one_5 t (evo W q.2))]
        exact ih p (if lg_cmp (evo W q.2) 0 = 0 then 0 else t / evo W q.2) s st hl hp hs
      · rw [if_neg h3, if_neg h3, List.append_assoc, run_p hp hs, List.cons_append, run_v hq]
        have z := fun (p2 : Int32) (h : p2 = -1 ∨ p2 = 2 ∨ p2 = 3) (h1 : ¬ p2 = -1) => ih p2 (evo W q.2) (if (if p = 3 then (1 : Int32) else 0) = 0 then s + t else s - t) st hl h (fun e => absurd e h1)
        by_cases h1 : q.1 = 1
        · have z3 := z 3 (Or.inr (Or.inr rfl)) n3_1
          rw [m_3] at z3
          unfold pst at z3
          rw [if_neg n3_1] at z3
          rw [if_pos h1, if_pos h1]
          exact z3
        · have z2 := z 2 (Or.inr (Or.inl rfl)) n2_1
          rw [m_2] at z2
          unfold pst at z2
          rw [if_neg n2_1] at z2
          rw [if_neg h1, if_neg h1]
          exact z2
set_option maxHeartbeats 400000 in
theorem run_scd {W : Nat → Int32} {R : List (Int32 × Int32)} {l : List (Int32 × Int32)} {st : List Int64} (hne : l ≠ []) (h0 : ∀ q r, l = q :: r → q.1 = 0) (hv : ∀ q ∈ l, vok q.2) : runO W (scd l ++ R) st = runO W R (tv W l :: st) := by
  cases l with
  | nil => exact absurd rfl hne
  | cons q l =>
    have e := h0 q l rfl
    unfold scd tv
    rw [totw_c, List.cons_append, run_v (hv q List.mem_cons_self)]
    have z := run_cod (W := W) (R := R) l (-1) (evo W q.2) 0 st (fun x hx => hv x (List.mem_cons_of_mem _ hx)) (Or.inl rfl) (fun _ => rfl)
    unfold pst at z
    rw [if_pos rfl, m_1] at z
    rw [z, e, if_neg (by decide), if_neg (by decide), if_neg (by decide), if_pos rfl, Int64.add_zero]
def b2i (b : Bool) : Int64 := if b then 1 else 0
set_option maxHeartbeats 400000 in
theorem one_cmp (x y : Int64) (s : Int32) (h0 : ¬ s < 0) (h4 : ¬ 4 < s) : fX11_one (6 + s) x y = b2i (cmpb s x y) := by
  have hs : s = 0 ∨ s = 1 ∨ s = 2 ∨ s = 3 ∨ s = 4 := by
    rw [Int32.lt_iff_toInt_lt] at h0 h4
    rw [z_i0] at h0
    rw [show (4 : Int32).toInt = 4 from by decide] at h4
    have : s.toInt = 0 ∨ s.toInt = 1 ∨ s.toInt = 2 ∨ s.toInt = 3 ∨ s.toInt = 4 := by omega
    rcases this with e | e | e | e | e
    · exact Or.inl (Int32.toInt_inj.mp (by rw [e]; rfl))
    · exact Or.inr (Or.inl (Int32.toInt_inj.mp (by rw [e]; rfl)))
    · exact Or.inr (Or.inr (Or.inl (Int32.toInt_inj.mp (by rw [e]; rfl))))
    · exact Or.inr (Or.inr (Or.inr (Or.inl (Int32.toInt_inj.mp (by rw [e]; rfl)))))
    · exact Or.inr (Or.inr (Or.inr (Or.inr (Int32.toInt_inj.mp (by rw [e]; rfl)))))
  have T : ∀ (P : Prop) [Decidable P] (b : Bool), (P ↔ b = false) → (if P then (0 : Int64) else 1) = b2i b := by
    intro P _ b h
    cases b with
    | true => rw [if_neg (fun q => by cases h.mp q)]; rfl
    | false => rw [if_pos (h.mpr rfl)]; rfl
  rcases hs with rfl | rfl | rfl | rfl | rfl
  · exact T _ _ ((lg_cmp_ge x y).trans (Int64.not_lt.symm.trans decide_eq_false_iff_not.symm))
  · exact T _ _ ((lg_cmp_gt x y).trans (Int64.not_le.symm.trans decide_eq_false_iff_not.symm))
  · show (if lg_cmp x y = 0 then (1 : Int64) else 0) = b2i (decide (x = y))
    by_cases c : x = y
    · rw [if_pos ((lg_cmp_eq x y).mpr c), decide_eq_true c]; rfl
    · rw [if_neg (fun q => c ((lg_cmp_eq x y).mp q)), decide_eq_false c]; rfl
  · exact T _ _ ((lg_cmp_lt x y).trans (Int64.not_le.symm.trans decide_eq_false_iff_not.symm))
  · exact T _ _ ((lg_cmp_le x y).trans (Int64.not_lt.symm.trans decide_eq_false_iff_not.symm))
/-- a step as it may stand in a LAW's TEST -/
def qok (q : Int32 × List (Int32 × Int32) × List (Int32 × Int32)) : Prop := q.1 = -1 ∨ q.1 = -2 ∨ q.1 = -3 ∨ ((¬ q.1 < 0) ∧ (¬ 4 < q.1) ∧ q.2.1 ≠ [] ∧ (∀ x r, q.2.1 = x :: r → x.1 = 0) ∧ (∀ x ∈ q.2.1, vok x.2) ∧ q.2.2 ≠ [] ∧ (∀ x r, q.2.2 = x :: r → x.1 = 0) ∧ ∀ x ∈ q.2.2, vok x.2)
set_option maxHeartbeats 400000 in
theorem run_tcd {W : Nat → Int32} : ∀ (l : List (Int32 × List (Int32 × Int32) × List (Int32 × Int32))) (st : List Bool) (r : List Int64) (d : Nat), (∀ q ∈ l, qok q) → ndp l st.length = some d → runO W (tcd l) (st.map b2i ++ r) = some ((hst W l st).map b2i ++ r) := by
  intro l
  induction l with
  | nil => intro st r d _ _; rfl
  | cons q l ih =>
    intro st r d hq hd
    have h1 := hq q List.mem_cons_self
    have hl : ∀ q ∈ l, qok q := fun x hx => hq x (List.mem_cons_of_mem _ hx)
    unfold tcd hst
    unfold ndp at hd
    rcases h1 with h | h | h | ⟨a0, a4, b1, b2, b3, c1, c2, c3⟩
    · rw [h] at hd ⊢
      rw [if_pos rfl] at hd
      rw [if_pos rfl, if_pos rfl]
      split at hd
      · rename_i x
        cases st with
        | nil => simp at x
        | cons y st =>
          have z := ih ((!y) :: st) r d hl hd
          rw [← z]
          cases y <;> rfl
      · cases hd
    · rw [h] at hd ⊢
      rw [if_neg (by decide), if_pos rfl] at hd
      rw [if_neg (by decide), if_pos rfl, if_neg (by decide), if_pos rfl]
      split at hd
      · rename_i x
        match st, hd, x with
        | [], _, x => simp at x
        | [_], _, x => simp at x
        | y :: w :: st, hd, _ =>
          have z := ih ((w && y) :: st) r d hl (by simpa using hd)
          rw [← z]
          cases y <;> cases w <;> rfl
      · cases hd
    · rw [h] at hd ⊢
      rw [if_neg (by decide), if_neg (by decide), if_pos rfl] at hd
      rw [if_neg (by decide), if_neg (by decide), if_pos rfl, if_neg (by decide), if_neg (by decide), if_pos rfl]
      split at hd
      · rename_i x
        match st, hd, x with
        | [], _, x => simp at x
        | [_], _, x => simp at x
        | y :: w :: st, hd, _ =>
          have z := ih ((w || y) :: st) r d hl (by simpa using hd)
          rw [← z]
          cases y <;> cases w <;> rfl
      · cases hd
    · have m1 : ∀ k : Int32, k < 0 → ¬ q.1 = k := fun k hk x => a0 (by rw [x]; exact hk)
      rw [if_neg (m1 _ (by decide)), if_neg (m1 _ (by decide)), if_neg (m1 _ (by decide))] at hd
      rw [if_neg (m1 _ (by decide)), if_neg (m1 _ (by decide)), if_neg (m1 _ (by decide)), if_neg (m1 _ (by decide)), if_neg (m1 _ (by decide)), if_neg (m1 _ (by decide))]
      rw [List.append_assoc, List.append_assoc, run_scd b1 b2 b3, run_scd c1 c2 c3, List.singleton_append]
      have z := ih (cmpb q.1 (tv W q.2.1) (tv W q.2.2) :: st) r d hl (by simpa using hd)
      rw [← z]
      have e6 : (6 + q.1).toInt = 6 + q.1.toInt := by
        rw [Int32.lt_iff_toInt_lt] at a0 a4
        rw [z_i0] at a0
        rw [show (4 : Int32).toInt = 4 from by decide] at a4
        rw [zadd (by rw [show (6 : Int32).toInt = 6 from by decide]; omega) (by rw [show (6 : Int32).toInt = 6 from by decide]; omega), show (6 : Int32).toInt = 6 from by decide]
      have k1 : ∀ k : Int32, (k.toInt < 6 ∨ 10 < k.toInt) → ¬ 6 + q.1 = k := by
        intro k hk x
        rw [Int32.lt_iff_toInt_lt] at a0 a4
        rw [z_i0] at a0
        rw [show (4 : Int32).toInt = 4 from by decide] at a4
        have := congrArg Int32.toInt x
        omega
      show (if (6 + q.1) = 0 then _ else if (6 + q.1) = 1 then _ else if (6 + q.1) = 11 then _ else runO W (tcd l) (fX11_one (6 + q.1) (tv W q.2.1) (tv W q.2.2) :: (st.map b2i ++ r))) = _
      rw [if_neg (k1 _ (by decide)), if_neg (k1 _ (by decide)), if_neg (k1 _ (by decide)), one_cmp _ _ _ a0 a4]
      rfl
set_option maxHeartbeats 400000 in
theorem hst_len {W : Nat → Int32} : ∀ (l : List (Int32 × List (Int32 × Int32) × List (Int32 × Int32))) (st : List Bool) (d : Nat), ndp l st.length = some d → (hst W l st).length = d := by
  intro l
  induction l with
  | nil => intro st d h; cases h; rfl
  | cons q l ih =>
    intro st d h
    unfold ndp at h
    unfold hst
    by_cases a : q.1 = -1
    · rw [if_pos a] at h ⊢
      split at h
      · rename_i x
        cases st with
        | nil => simp at x
        | cons y st => exact ih _ d (by simpa using h)
      · cases h
    · rw [if_neg a] at h ⊢
      by_cases b : q.1 = -2
      · rw [if_pos b] at h ⊢
        split at h
        · rename_i x
          match st, h, x with
          | [], _, x => simp at x
          | [_], _, x => simp at x
          | y :: w :: st, h, _ => exact ih _ d (by simpa using h)
        · cases h
      · rw [if_neg b] at h ⊢
        by_cases c : q.1 = -3
        · rw [if_pos c] at h ⊢
          split at h
          · rename_i x
            match st, h, x with
            | [], _, x => simp at x
            | [_], _, x => simp at x
            | y :: w :: st, h, _ => exact ih _ d (by simpa using h)
          · cases h
        · rw [if_neg c] at h ⊢
          exact ih _ d (by simpa using h)
/-- code in the reference's array -/
def RA (sg : Nat → Int32) : Nat → List (Int32 × Int32) → Prop
  | _, [] => True
  | a, q :: l => sg a = q.1 + 16 * q.2 ∧ (0 ≤ q.1.toInt ∧ q.1.toInt < 16) ∧ (0 ≤ q.2.toInt ∧ q.2.toInt ≤ 99999) ∧ (q.1 = 1 → q.2.toInt < 11) ∧ RA sg (a + 1) l
/-- the reference's stack -/
def SK (g : Nat → Int64) (top : Int32) (st : List Int64) : Prop := top.toInt = st.length ∧ ∀ (i : Nat) (h : i < st.length), g (st.length - 1 - i) = st[i]
set_option maxHeartbeats 400000 in
theorem SK_push {g : Nat → Int64} {top : Int32} {st : List Int64} {v : Int64} (h : SK g top st) (hl : st.length ≤ 1000) : SK (vp_updL g top.toNatClampNeg v) (top + 1) (v :: st) := by
  obtain ⟨h1, h2⟩ := h
  have e : top.toNatClampNeg = st.length := by show top.toInt.toNat = _; omega
  refine ⟨by rw [zadd1 (by omega), List.length_cons]; omega, fun i hi => ?_⟩
  simp only [List.length_cons] at hi ⊢
  cases i with
  | zero =>
    rw [show st.length + 1 - 1 - 0 = top.toNatClampNeg from by omega, pk_uLs]
    rfl
  | succ i =>
    rw [pk_uLn (by omega), show st.length + 1 - 1 - (i + 1) = st.length - 1 - i from by omega]
    exact h2 i (by omega)
set_option maxHeartbeats 400000 in
theorem SK_pop {g : Nat → Int64} {top : Int32} {st : List Int64} {v : Int64} (h : SK g top (v :: st)) (hl : st.length ≤ 1000) : g (top - 1).toNatClampNeg = v ∧ SK g (top - 1) st := by
  obtain ⟨h1, h2⟩ := h
  simp only [List.length_cons] at h1 h2
  have e1 : (1 : Int32).toInt = 1 := by decide
  have e : (top - 1).toInt = st.length := by rw [zsub (by omega) (by omega), e1]; omega
  have en : (top - 1).toNatClampNeg = st.length := by show (top - 1).toInt.toNat = _; omega
  refine ⟨?_, e, fun i hi => ?_⟩
  · rw [en]
    have := h2 0 (by omega)
    simpa using this
  · have := h2 (i + 1) (by omega)
    rw [show st.length + 1 - 1 - (i + 1) = st.length - 1 - i from by omega] at this
    exact this
set_option maxHeartbeats 400000 in
theorem c_sgn {t i : Int32} (t0 : 0 ≤ t.toInt) (t6 : t.toInt ≤ 6) (i0 : 0 ≤ i.toInt) (i4 : i.toInt ≤ 400) : (400 * t + i).toNatClampNeg = 400 * t.toNatClampNeg + i.toNatClampNeg := by
  have e4 : (400 : Int32).toInt = 400 := by decide
  have e1 : (400 * t).toInt = 400 * t.toInt := by rw [zmul (by rw [e4]; omega) (by rw [e4]; omega), e4]
  show (400 * t + i).toInt.toNat = 400 * t.toInt.toNat + i.toInt.toNat
  rw [zadd (by rw [e1]; omega) (by rw [e1]; omega), e1]
  omega
set_option maxHeartbeats 400000 in
theorem reck_l {sg : Nat → Int32} {wd : Nat → Int64} {W : Nat → Int32} {t e : Int32} (hw : ∀ i : Nat, i < 11 → wd i = (W i).toInt64) (t0 : 0 ≤ t.toInt) (t6 : t.toInt ≤ 6) (he : e.toInt ≤ 400) {E : Int32 → (Nat → Int64) → Int32 → (Int32 × (Nat → Int64) × Int64)} : ∀ (l : List (Int32 × Int32)) (N : Nat) (top : Int32) (g : Nat → Int64) (i : Int32) (st st2 : List Int64), RA sg (400 * t.toNatClampNeg + i.toNatClampNeg) l → 0 ≤ i.toInt → i.toInt + l.length = e.toInt → l.length < N → SK g top st → st.length + l.length ≤ 1000 → runO W l st = some st2 → ∃ top2 g2, SK g2 top2 st2 ∧ fl_mX11_reckons_8 sg wd t e E N top g i = E top2 g2 e := by
  intro l
  induction l with
  | nil =>
    intro N top g i st st2 hl i0 hi hN hs hb hr
    obtain ⟨N, rfl⟩ : ∃ k, N = k + 1 := ⟨N - 1, by simp at hN; omega⟩
    have ei : i = e := Int32.toInt_inj.mp (by simpa using hi)
    cases hr
    refine ⟨top, g, hs, ?_⟩
    show fb_mX11_reckons_8 sg wd t e E (fl_mX11_reckons_8 sg wd t e E N) top g i = _
    unfold fb_mX11_reckons_8
    rw [if_pos (show e ≤ i by rw [ei]; exact Int32.le_refl _), ei]
  | cons q l ih =>
    intro N top g i st st2 hl i0 hi hN hs hb hr
    obtain ⟨N, rfl⟩ : ∃ k, N = k + 1 := ⟨N - 1, by simp at hN; omega⟩
    obtain ⟨ha, hq1, hq2, hq3, hl2⟩ := hl
    simp only [List.length_cons] at hi hN hb
    have c1 : ¬ e ≤ i := by rw [Int32.le_iff_toInt_le]; omega
    obtain ⟨u1, u2⟩ := z_toNat1 (a := i) i0 (by omega)
    have hK : ∀ (top : Int32) (g : Nat → Int64) (st : List Int64), SK g top st → st.length + l.length ≤ 1000 → runO W l st = some st2 → ∃ top2 g2, SK g2 top2 st2 ∧ fl_mX11_reckons_8 sg wd t e E N top g (i + 1) = E top2 g2 e := fun top g st x y z => ih N top g (i + 1) st st2 (by rw [u2]; exact hl2) (by omega) (by rw [u1]; omega) (by omega) x y z
    show ∃ top2 g2, SK g2 top2 st2 ∧ fb_mX11_reckons_8 sg wd t e E (fl_mX11_reckons_8 sg wd t e E N) top g i = E top2 g2 e
    generalize fl_mX11_reckons_8 sg wd t e E N = K at hK ⊢
    unfold fb_mX11_reckons_8
    rw [if_neg c1]
    simp only [bnd, fX11_push, fX11_pop]
    rw [c_sgn t0 t6 i0 (by omega), ha, sg_and2 hq1.1 hq1.2, sg_shr hq1.1 hq1.2 hq2.1 hq2.2]
    unfold runO at hr
    by_cases a0 : q.1 = 0
    · rw [if_pos a0] at hr ⊢
      exact hK _ _ _ (SK_push hs (by omega)) (by simp only [List.length_cons]; omega) hr
    · rw [if_neg a0] at hr ⊢
      by_cases a1 : q.1 = 1
      · rw [if_pos a1] at hr ⊢
        rw [hw _ (by have := hq3 a1; show q.2.toInt.toNat < 11; omega)]
        exact hK _ _ _ (SK_push hs (by omega)) (by simp only [List.length_cons]; omega) hr
      · rw [if_neg a1] at hr ⊢
        by_cases a2 : q.1 = 11
        · rw [if_pos a2] at hr ⊢
          match st, hs, hb, hr with
          | [], _, _, hr => cases hr
          | x :: st, hs, hb, hr =>
            simp only [List.length_cons] at hb
            obtain ⟨p1, p2⟩ := SK_pop hs (by omega)
            rw [p1]
            exact hK _ _ _ (SK_push p2 (by omega)) (by simp only [List.length_cons]; omega) hr
        · rw [if_neg a2] at hr ⊢
          match st, hs, hb, hr with
          | [], _, _, hr => cases hr
          | [_], _, _, hr => cases hr
          | y :: x :: st, hs, hb, hr =>
            simp only [List.length_cons] at hb
            obtain ⟨p1, p2⟩ := SK_pop hs (by simp only [List.length_cons]; omega)
            obtain ⟨p3, p4⟩ := SK_pop p2 (by omega)
            rw [p1, p3]
            exact hK _ _ _ (SK_push p4 (by omega)) (by simp only [List.length_cons]; omega) hr
set_option maxHeartbeats 400000 in
theorem reck_x {sg : Nat → Int32} {wd sk : Nat → Int64} {W : Nat → Int32} {t b e : Int32} {l : List (Int32 × Int32)} {v : Int64} {r : List Int64} (hw : ∀ i : Nat, i < 11 → wd i = (W i).toInt64) (t0 : 0 ≤ t.toInt) (t6 : t.toInt ≤ 6) (he : e.toInt ≤ 400) (hl : RA sg (400 * t.toNatClampNeg + b.toNatClampNeg) l) (b0 : 0 ≤ b.toInt) (hb : b.toInt + l.length = e.toInt) (hr : runO W l [] = some (v :: r)) (hv : r.length ≤ 1000) : (fX11_reckons sg sk wd t b e).2.2 = v := by
  unfold fX11_reckons
  obtain ⟨top2, g2, s1, s2⟩ := reck_l hw t0 t6 he (E := fun (top : Int32) (g : Nat → Int64) (_ : Int32) => bnd (fX11_pop top g) (fun q => bnd q.1 (fun o => bnd q.2 (fun r => (o, g, r))))) l ((e.toInt - b.toInt).toNat + 1) 0 sk b [] _ hl b0 hb (by omega) ⟨by simp, fun i h => by simp at h⟩ (by simp; omega) hr
  refine (congrArg (fun z => z.2.2) s2).trans ?_
  exact (SK_pop s1 hv).1
/-- the clauses in the reference's arrays -/
def RS (B : Int) (sg cl : Nat → Int32) (t : Nat) : Nat → List (Int32 × Int32 × List (Int32 × Int32) × Option (List (Int32 × List (Int32 × Int32) × List (Int32 × Int32)))) → Prop
  | _, [] => True
  | c, q :: l => if q.1 = 4 then RS B sg cl t c l else (cl (60 * t + 5 * c) = q.1 ∧ 0 ≤ (cl (60 * t + 5 * c + 1)).toInt ∧ (cl (60 * t + 5 * c + 1)).toInt + (scd q.2.2.1).length = (cl (60 * t + 5 * c + 2)).toInt ∧ (cl (60 * t + 5 * c + 2)).toInt ≤ B ∧ RA sg (400 * t + (cl (60 * t + 5 * c + 1)).toNatClampNeg) (scd q.2.2.1) ∧ q.2.2.1 ≠ [] ∧ (∀ x r, q.2.2.1 = x :: r → x.1 = 0) ∧ (∀ x ∈ q.2.2.1, vok x.2) ∧ (match q.2.2.2 with | none => cl (60 * t + 5 * c + 3) < 0 | some T => 0 ≤ (cl (60 * t + 5 * c + 3)).toInt ∧ (cl (60 * t + 5 * c + 3)).toInt + (tcd T).length = (cl (60 * t + 5 * c + 4)).toInt ∧ (cl (60 * t + 5 * c + 4)).toInt ≤ B ∧ RA sg (400 * t + (cl (60 * t + 5 * c + 3)).toNatClampNeg) (tcd T) ∧ (∀ x ∈ T, qok x) ∧ ndp T 0 = some 1)) ∧ RS B sg cl t (c + 1) l
set_option maxHeartbeats 400000 in
theorem c_cl {t c q : Int32} (t0 : 0 ≤ t.toInt) (t6 : t.toInt ≤ 6) (c0 : 0 ≤ c.toInt) (c2 : c.toInt ≤ 12) (q0 : 0 ≤ q.toInt) (q5 : q.toInt ≤ 5) : (60 * t + 5 * c + q).toNatClampNeg = 60 * t.toNatClampNeg + 5 * c.toNatClampNeg + q.toNatClampNeg := by
  have e6 : (60 : Int32).toInt = 60 := by decide
  have e5 : (5 : Int32).toInt = 5 := by decide
  have e1 : (60 * t).toInt = 60 * t.toInt := by rw [zmul (by rw [e6]; omega) (by rw [e6]; omega), e6]
  have e2 : (5 * c).toInt = 5 * c.toInt := by rw [zmul (by rw [e5]; omega) (by rw [e5]; omega), e5]
  have e3 : (60 * t + 5 * c).toInt = 60 * t.toInt + 5 * c.toInt := by rw [zadd (by rw [e1, e2]; omega) (by rw [e1, e2]; omega), e1, e2]
  show (60 * t + 5 * c + q).toInt.toNat = 60 * t.toInt.toNat + 5 * c.toInt.toNat + q.toInt.toNat
  rw [zadd (by rw [e3]; omega) (by rw [e3]; omega), e3]
  omega
set_option maxHeartbeats 400000 in
theorem c_cl0 {t c : Int32} (t0 : 0 ≤ t.toInt) (t6 : t.toInt ≤ 6) (c0 : 0 ≤ c.toInt) (c2 : c.toInt ≤ 12) : (60 * t + 5 * c).toNatClampNeg = 60 * t.toNatClampNeg + 5 * c.toNatClampNeg := by
  have := c_cl (q := 0) t0 t6 c0 c2 (by decide) (by decide)
  rw [Int32.add_zero] at this
  exact this
set_option maxHeartbeats 400000 in
theorem summed_l {B : Int} {sg cl cs : Nat → Int32} {wd : Nat → Int64} {W : Nat → Int32} {t s : Int32} (hw : ∀ i : Nat, i < 11 → wd i = (W i).toInt64) (t0 : 0 ≤ t.toInt) (t6 : t.toInt ≤ 6) (h4 : ¬ s = 4) (h12 : (cs t.toNatClampNeg).toInt ≤ 12) (hB : B ≤ 400) : ∀ (l : List (Int32 × Int32 × List (Int32 × Int32) × Option (List (Int32 × List (Int32 × Int32) × List (Int32 × Int32))))) (N : Nat) (top : Int32) (g : Nat → Int64) (c : Int32), RS B sg cl t.toNatClampNeg c.toNatClampNeg l → 0 ≤ c.toInt → c.toInt + ncl l = (cs t.toNatClampNeg).toInt → ncl l < N →
    (fl_mX11_summed_2 sg cl cs wd t s (fun (_ : Int32) (g : Nat → Int64) (_ : Int32) (a : Int32) => bnd (cl (a + 1).toNatClampNeg) (fun x3 => bnd (cl (a + 2).toNatClampNeg) (fun x4 => bnd (fX11_reckons sg g wd t x3 x4) (fun q13 => bnd q13.1 (fun o8 => bnd q13.2.1 (fun o9 => bnd q13.2.2 (fun r7 => (o8, o9, r7)))))))) (fun (a : Int32) (b : Nat → Int64) (_ : Int32) => (a, b, 0)) N top g c).2.2 = lsm W s l := by
  intro l
  induction l with
  | nil =>
    intro N top g c hl h0 he hN
    obtain ⟨N, rfl⟩ : ∃ k, N = k + 1 := ⟨N - 1, by omega⟩
    show (fb_mX11_summed_2 sg cl cs wd t s _ _ _ top g c).2.2 = _
    unfold fb_mX11_summed_2
    have e : c = cs t.toNatClampNeg := Int32.toInt_inj.mp (by simpa [ncl] using he)
    simp only [bnd]
    rw [if_pos (show cs t.toNatClampNeg ≤ c by rw [← e]; exact Int32.le_refl _)]
    rfl
  | cons q l ih =>
    intro N top g c hl h0 he hN
    unfold RS at hl
    unfold ncl at he hN
    unfold lsm
    by_cases q4 : q.1 = 4
    · rw [if_pos q4] at hl he hN
      rw [if_neg (show ¬ q.1 = s by rw [q4]; exact fun x => h4 x.symm)]
      exact ih N top g c hl h0 (by omega) (by omega)
    · rw [if_neg q4] at hl he hN
      obtain ⟨⟨b1, b2, b3, b4, b5, b6, b7, b8, b9⟩, hl2⟩ := hl
      obtain ⟨N, rfl⟩ : ∃ k, N = k + 1 := ⟨N - 1, by omega⟩
      have c1 : ¬ cs t.toNatClampNeg ≤ c := by rw [Int32.le_iff_toInt_le]; omega
      obtain ⟨u1, u2⟩ := z_toNat1 (a := c) h0 (by omega)
      have hK := fun top g => ih N top g (c + 1) (by rw [u2]; exact hl2) (by omega) (by rw [u1]; omega) (by omega)
      have hsum : ∀ g : Nat → Int64, (fX11_reckons sg g wd t (cl (60 * t + 5 * c + 1).toNatClampNeg) (cl (60 * t + 5 * c + 2).toNatClampNeg)).2.2 = tv W q.2.2.1 := by
        intro g
        rw [c_cl t0 t6 h0 (by omega) (by decide) (by decide), c_cl t0 t6 h0 (by omega) (by decide) (by decide), c_k1, c_k2]
        have z := run_scd (W := W) (R := []) (st := []) b6 b7 b8
        rw [List.append_nil] at z
        exact reck_x hw t0 t6 (by omega) b5 b2 b3 z (by simp)
      show (fb_mX11_summed_2 sg cl cs wd t s _ _ (fl_mX11_summed_2 sg cl cs wd t s _ _ N) top g c).2.2 = _
      unfold fb_mX11_summed_2
      simp only [bnd]
      rw [if_neg c1, c_cl0 t0 t6 h0 (by omega), b1]
      by_cases e : q.1 = s
      · rw [if_pos e, if_pos e, c_cl t0 t6 h0 (by omega) (show 0 ≤ (3 : Int32).toInt by decide) (by decide), c_k3]
        rcases hT : q.2.2.2 with _ | T
        · rw [hT] at b9
          rw [if_pos b9]
          show _ = if tst W [] = true then tv W q.2.2.1 else lsm W s l
          rw [if_pos (show tst W [] = true from rfl)]
          exact hsum g
        · rw [hT] at b9
          obtain ⟨d1, d2, d3, d4, d5, d6⟩ := b9
          rw [if_neg (z_nlt0 d1), c_cl t0 t6 h0 (by omega) (show 0 ≤ (4 : Int32).toInt by decide) (by decide), c_k4]
          have z := run_tcd (W := W) T [] [] 1 d5 d6
          rw [List.map_nil, List.append_nil, List.append_nil] at z
          show _ = if tst W T = true then tv W q.2.2.1 else lsm W s l
          unfold tst
          cases hs : hst W T [] with
          | nil =>
            -- cannot be: there is one bit
            exfalso
            have := hst_len (W := W) T [] 1 d6
            rw [hs] at this
            cases this
          | cons x st =>
            rw [hs, List.map_cons] at z
            have zz : ∀ g : Nat → Int64, (fX11_reckons sg g wd t (cl (60 * t.toNatClampNeg + 5 * c.toNatClampNeg + 3)) (cl (60 * t.toNatClampNeg + 5 * c.toNatClampNeg + 4))).2.2 = b2i x := by
              intro g
              have hl1 := hst_len (W := W) T [] 1 d6
              rw [hs] at hl1
              simp only [List.length_cons] at hl1
              exact reck_x hw t0 t6 (by omega) d4 d1 d2 z (by simp only [List.length_map]; omega)
            rw [zz]
            show _ = if x = true then tv W q.2.2.1 else lsm W s l
            cases x with
            | true =>
              rw [if_neg (show ¬ lg_cmp (b2i true) 0 = 0 by decide), if_pos rfl]
              exact hsum _
            | false =>
              rw [if_pos (show lg_cmp (b2i false) 0 = 0 by decide), if_neg (by decide)]
              exact hK _ _
      · rw [if_neg e, if_neg e]
        exact hK _ _
set_option maxHeartbeats 400000 in
theorem summed_x {B : Int} {sg cl cs : Nat → Int32} {wd sk : Nat → Int64} {W : Nat → Int32} {top t s : Int32} {l : List (Int32 × Int32 × List (Int32 × Int32) × Option (List (Int32 × List (Int32 × Int32) × List (Int32 × Int32))))} (hw : ∀ i : Nat, i < 11 → wd i = (W i).toInt64) (t0 : 0 ≤ t.toInt) (t6 : t.toInt ≤ 6) (h4 : ¬ s = 4) (h12 : (cs t.toNatClampNeg).toInt ≤ 12) (hB : B ≤ 400) (hl : RS B sg cl t.toNatClampNeg 0 l) (he : (ncl l : Int) = (cs t.toNatClampNeg).toInt) : (fX11_summed top sg cl cs sk wd t s).2.2 = lsm W s l := by
  unfold fX11_summed
  exact summed_l hw t0 t6 h4 h12 hB l _ top sk 0 hl (by decide) (by rw [z_i0]; omega) (by rw [z_i0]; omega)
