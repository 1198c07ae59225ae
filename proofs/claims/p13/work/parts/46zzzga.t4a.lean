/-- what a law's lists come to: VALUES, SUMS, TESTS -/
def evo (W : Nat → Int32) (o : Int32) : Int64 := if (-1) - o < 0 then o.toInt64 else if 11 ≤ (-1) - o then o.toInt64 else (W ((-1) - o).toNatClampNeg).toInt64
def totw (W : Nat → Int32) : List (Int32 × Int32) → Int32 → Int64 → Int64 → Int64
  | [], m, t, s => if m = 0 then s + t else s - t
  | q :: l, m, t, s => if q.1 = 2 then totw W l m (t * evo W q.2) s else if q.1 = 3 then totw W l m (if lg_cmp (evo W q.2) 0 = 0 then 0 else t / evo W q.2) s else totw W l (if q.1 = 1 then 1 else 0) (evo W q.2) (if m = 0 then s + t else s - t)
def tv (W : Nat → Int32) (l : List (Int32 × Int32)) : Int64 := totw W l 0 0 0
def cmpb (s : Int32) (x y : Int64) : Bool := if s = 0 then decide (x < y) else if s = 1 then decide (x ≤ y) else if s = 2 then decide (x = y) else if s = 3 then decide (y ≤ x) else decide (y < x)
def hst (W : Nat → Int32) : List (Int32 × List (Int32 × Int32) × List (Int32 × Int32)) → List Bool → List Bool
  | [], st => st
  | q :: l, st => hst W l (if q.1 = -1 then (match st with | b :: r => (!b) :: r | [] => []) else if q.1 = -2 then (match st with | b :: a :: r => (a && b) :: r | r => r) else if q.1 = -3 then (match st with | b :: a :: r => (a || b) :: r | r => r) else cmpb q.1 (tv W q.2.1) (tv W q.2.2) :: st)
/-- how many bits lie there behind a row of steps; none if a step finds too few -/
def ndp : List (Int32 × List (Int32 × Int32) × List (Int32 × Int32)) → Nat → Option Nat
  | [], d => some d
  | q :: l, d => if q.1 = -1 then (if 1 ≤ d then ndp l d else none) else if q.1 = -2 then (if 2 ≤ d then ndp l (d - 1) else none) else if q.1 = -3 then (if 2 ≤ d then ndp l (d - 1) else none) else ndp l (d + 1)
def nfa : List (Int32 × List (Int32 × Int32) × List (Int32 × Int32)) → Nat
  | [] => 0
  | q :: l => (if q.1 = -1 then 0 else if q.1 = -2 then 0 else if q.1 = -3 then 0 else 1) + nfa l
/-- a row of VALUES in the class's arrays -/
def LA (jF oF : Nat → Int32) : Nat → List (Int32 × Int32) → Prop
  | _, [] => True
  | a, q :: l => jF a = q.1 ∧ oF a = q.2 ∧ LA jF oF (a + 1) l
set_option maxHeartbeats 400000 in
theorem z_nlt0 {a : Int32} (h : 0 ≤ a.toInt) : ¬ a < 0 := by
  rw [Int32.lt_iff_toInt_lt, z_i0]; omega
set_option maxHeartbeats 400000 in
theorem z_toNat1 {a : Int32} (h : 0 ≤ a.toInt) (h2 : a.toInt < 2147483647) : (a + 1).toInt = a.toInt + 1 ∧ (a + 1).toNatClampNeg = a.toNatClampNeg + 1 := by
  have e := zadd1 (v := a) (by omega)
  refine ⟨e, ?_⟩
  show (a + 1).toInt.toNat = a.toInt.toNat + 1
  rw [e]; omega
set_option maxHeartbeats 400000 in
theorem totw_n {W : Nat → Int32} {m : Int32} {t s : Int64} : totw W [] m t s = (if m = 0 then s + t else s - t) := by unfold totw; rfl
set_option maxHeartbeats 400000 in
theorem totw_c {W : Nat → Int32} {q : Int32 × Int32} {l : List (Int32 × Int32)} {m : Int32} {t s : Int64} : totw W (q :: l) m t s = (if q.1 = 2 then totw W l m (t * evo W q.2) s else if q.1 = 3 then totw W l m (if lg_cmp (evo W q.2) 0 = 0 then 0 else t / evo W q.2) s else totw W l (if q.1 = 1 then 1 else 0) (evo W q.2) (if m = 0 then s + t else s - t)) := by conv => lhs; unfold totw
set_option maxHeartbeats 400000 in
theorem bndv {α β : Type} {a b : α} (h : a = b) (k : α → β) : bnd a k = k b := by subst h; rfl
set_option maxHeartbeats 400000 in
theorem tot_b {K : Int32 → Int32 → Int64 → Int64 → Int64} {W : Nat → Int32} {q : Int32 × Int32} {l : List (Int32 × Int32)} {a m j : Int32} {t s v : Int64} (hK : ∀ m t s, K (a + 1) m t s = totw W l m t s) (ej : j = q.1) (ev : v = evo W q.2) :
    (if j = 2 then bnd (t * v) (fun (x : Int64) => bnd (a + 1) (fun (y : Int32) => K y m x s)) else if j = 3 then (if lg_cmp v 0 = 0 then bnd (a + 1) (fun (y : Int32) => K y m 0 s) else bnd (t / v) (fun (x : Int64) => bnd (a + 1) (fun (y : Int32) => K y m x s))) else if m = 0 then bnd (s + t) (fun (x : Int64) => if j = 1 then bnd (a + 1) (fun (y : Int32) => K y 1 v x) else bnd (a + 1) (fun (y : Int32) => K y 0 v x)) else bnd (s - t) (fun (x : Int64) => if j = 1 then bnd (a + 1) (fun (y : Int32) => K y 1 v x) else bnd (a + 1) (fun (y : Int32) => K y 0 v x)))
    = totw W (q :: l) m t s := by
  rw [totw_c, ← ej, ← ev]
  by_cases h2 : j = 2
  · rw [if_pos h2, if_pos h2, bnd_eq, bnd_eq, hK]
  · rw [if_neg h2, if_neg h2]
    by_cases h3 : j = 3
    · rw [if_pos h3, if_pos h3]
      by_cases h0 : lg_cmp v 0 = 0
      · rw [if_pos h0, if_pos h0, bnd_eq, hK]
      · rw [if_neg h0, if_neg h0, bnd_eq, bnd_eq, hK]
    · rw [if_neg h3, if_neg h3]
      by_cases hm : m = 0
      · rw [if_pos hm, if_pos hm, bnd_eq]
        by_cases h1 : j = 1
        · rw [if_pos h1, if_pos h1, bnd_eq, hK]
        · rw [if_neg h1, if_neg h1, bnd_eq, hK]
      · rw [if_neg hm, if_neg hm, bnd_eq]
        by_cases h1 : j = 1
        · rw [if_pos h1, if_pos h1, bnd_eq, hK]
        · rw [if_neg h1, if_neg h1, bnd_eq, hK]
set_option maxHeartbeats 400000 in
theorem tot_x {jF oF wF W : Nat → Int32} {p1 : Int32} (hw : ∀ i : Nat, i < 11 → wF i = W i) (h6 : p1.toInt ≤ 60) : ∀ (l : List (Int32 × Int32)) (N : Nat) (a m : Int32) (t s : Int64), LA jF oF a.toNatClampNeg l → 0 ≤ a.toInt → a.toInt + l.length = p1.toInt → l.length < N → fl_mX1_total_12 jF oF p1 wF (fun _ m t s => if m = 0 then bnd (s + t) (fun x => x) else bnd (s - t) (fun x => x)) N a m t s = totw W l m t s := by
  intro l
  induction l with
  | nil =>
    intro N a m t s hl h0 he hN
    obtain ⟨N, rfl⟩ : ∃ k, N = k + 1 := ⟨N - 1, by simp at hN; omega⟩
    show fb_mX1_total_12 jF oF p1 wF _ (fl_mX1_total_12 jF oF p1 wF _ N) a m t s = _
    unfold fb_mX1_total_12
    have e : a = p1 := Int32.toInt_inj.mp (by simpa using he)
    rw [if_neg (z_nlt0 h0), if_pos (show p1 ≤ a by rw [e]; exact Int32.le_refl _)]
    rw [totw_n]
    show (if m = 0 then bnd (s + t) (fun x => x) else bnd (s - t) (fun x => x)) = _
    rw [bnd_eq, bnd_eq]
  | cons q l ih =>
    intro N a m t s hl h0 he hN
    obtain ⟨N, rfl⟩ : ∃ k, N = k + 1 := ⟨N - 1, by simp at hN; omega⟩
    obtain ⟨hj, ho, hl2⟩ := hl
    simp only [List.length_cons] at he hN
    have c1 : ¬ p1 ≤ a := by rw [Int32.le_iff_toInt_le]; omega
    have c2 : ¬ (60 : Int32) ≤ a := by rw [Int32.le_iff_toInt_le, show (60 : Int32).toInt = 60 from by decide]; omega
    obtain ⟨t1, t2⟩ := z_toNat1 (a := a) h0 (by omega)
    have hK : ∀ m t s, fl_mX1_total_12 jF oF p1 wF (fun _ m t s => if m = 0 then bnd (s + t) (fun x => x) else bnd (s - t) (fun x => x)) N (a + 1) m t s = totw W l m t s := fun m t s => ih N (a + 1) m t s (by rw [t2]; exact hl2) (by omega) (by rw [t1]; omega) (by omega)
    show fb_mX1_total_12 jF oF p1 wF _ (fl_mX1_total_12 jF oF p1 wF _ N) a m t s = _
    generalize fl_mX1_total_12 jF oF p1 wF (fun _ m t s => if m = 0 then bnd (s + t) (fun x => x) else bnd (s - t) (fun x => x)) N = K at hK ⊢
    unfold fb_mX1_total_12
    rw [if_neg (z_nlt0 h0), if_neg c1, if_neg c2]
    rw [bndv ho, bnd_eq]
    by_cases d1 : (-1) - q.2 < 0
    · rw [if_pos d1, bnd_eq, bndv hj]
      exact tot_b hK rfl (by unfold evo; rw [if_pos d1])
    · rw [if_neg d1]
      by_cases d2 : (11 : Int32) ≤ (-1) - q.2
      · rw [if_pos d2, bnd_eq, bndv hj]
        exact tot_b hK rfl (by unfold evo; rw [if_neg d1, if_pos d2])
      · rw [if_neg d2, bndv (hw _ (zc_j (n := 11) (by decide) d1 d2)), bnd_eq, bndv hj]
        exact tot_b hK rfl (by unfold evo; rw [if_neg d1, if_neg d2])
set_option maxHeartbeats 400000 in
theorem total_x {jF oF wF W : Nat → Int32} {p0 p1 : Int32} {l : List (Int32 × Int32)} (hw : ∀ i : Nat, i < 11 → wF i = W i) (h6 : p1.toInt ≤ 60) (hl : LA jF oF p0.toNatClampNeg l) (h0 : 0 ≤ p0.toInt) (he : p0.toInt + l.length = p1.toInt) : fX1_total jF oF p0 p1 wF = tv W l := by
  unfold fX1_total
  exact tot_x hw h6 l _ p0 0 0 0 hl h0 he (by omega)
/-- the bits of a number, the newest lowest -/
def BRt (st : List Bool) (b : Int64) : Prop := st.length ≤ 64 ∧ ∀ (i : Nat) (h : i < st.length), b.toBitVec.getLsbD i = st[i]
set_option maxHeartbeats 400000 in
theorem i64_b1 (i : Nat) : (1 : Int64).toBitVec.getLsbD i = decide (i = 0) := by
  by_cases h : i < 64
  · revert i; decide
  · rw [BitVec.getLsbD_of_ge _ _ (by omega)]
    exact (decide_eq_false (by omega)).symm
set_option maxHeartbeats 400000 in
theorem i64_m2 (i : Nat) : (-2 : Int64).toBitVec.getLsbD i = (decide (i < 64) && !decide (i = 0)) := by
  by_cases h : i < 64
  · revert i; decide
  · rw [BitVec.getLsbD_of_ge _ _ (by omega), decide_eq_false h]
    rfl
set_option maxHeartbeats 400000 in
theorem i64_sh : ((1 : Int32).toInt64.toUInt64 &&& Int64.toUInt64 63) = 1 := by decide
set_option maxHeartbeats 400000 in
theorem i64_sl : ((1 : Int32).toInt64 &&& 63 : Int64) = 1 := by decide
set_option maxHeartbeats 400000 in
theorem i64_shr (b : Int64) (i : Nat) : (b.toUInt64 >>> (1 : UInt64)).toInt64.toBitVec.getLsbD i = b.toBitVec.getLsbD (1 + i) := by
  have e : (b.toUInt64 >>> (1 : UInt64)).toInt64.toBitVec = b.toBitVec >>> 1 := by
    show (b.toUInt64 >>> (1 : UInt64)).toBitVec = _
    rw [UInt64.toBitVec_shiftRight]
    rfl
  rw [e, BitVec.getLsbD_ushiftRight]
set_option maxHeartbeats 400000 in
theorem i64_shl (b : Int64) (i : Nat) : (b <<< (1 : Int64)).toBitVec.getLsbD i = (decide (i < 64) && !decide (i < 1) && b.toBitVec.getLsbD (i - 1)) := by
  have e : (b <<< (1 : Int64)).toBitVec = b.toBitVec <<< 1 := by
    rw [Int64.toBitVec_shiftLeft]
    rfl
  rw [e, BitVec.getLsbD_shiftLeft]
set_option maxHeartbeats 400000 in
theorem BR_not {st : List Bool} {b : Int64} {x : Bool} (h : BRt (x :: st) b) : BRt ((!x) :: st) (b ^^^ 1) := by
  refine ⟨h.1, fun i hi => ?_⟩
  have q := h.2 i hi
  rw [Int64.toBitVec_xor, BitVec.getLsbD_xor, i64_b1, q]
  cases i with
  | zero => cases x <;> rfl
  | succ i =>
    show (st[i]'_ ^^ decide (i + 1 = 0)) = st[i]'_
    rw [decide_eq_false (by omega)]
    simp
set_option maxHeartbeats 400000 in
theorem BR_and {st : List Bool} {b : Int64} {x y : Bool} (h : BRt (y :: x :: st) b) : BRt ((x && y) :: st) ((b.toUInt64 >>> (1 : UInt64)).toInt64 &&& (b ||| -2)) := by
  obtain ⟨h1, h2⟩ := h
  simp only [List.length_cons] at h1 h2
  refine ⟨by simp only [List.length_cons]; omega, fun i hi => ?_⟩
  simp only [List.length_cons] at hi
  rw [Int64.toBitVec_and, BitVec.getLsbD_and, i64_shr, Int64.toBitVec_or, BitVec.getLsbD_or, i64_m2]
  cases i with
  | zero =>
    have a := h2 0 (by omega)
    have c := h2 1 (by omega)
    rw [a, c]
    simp
  | succ i =>
    have c := h2 (i + 1 + 1) (by omega)
    rw [show 1 + (i + 1) = i + 1 + 1 from by omega, c, decide_eq_true (show i + 1 < 64 by omega), decide_eq_false (show ¬ i + 1 = 0 by omega)]
    simp
set_option maxHeartbeats 400000 in
theorem BR_or {st : List Bool} {b : Int64} {x y : Bool} (h : BRt (y :: x :: st) b) : BRt ((x || y) :: st) ((b.toUInt64 >>> (1 : UInt64)).toInt64 ||| (b &&& 1)) := by
  obtain ⟨h1, h2⟩ := h
  simp only [List.length_cons] at h1 h2
  refine ⟨by simp only [List.length_cons]; omega, fun i hi => ?_⟩
  simp only [List.length_cons] at hi
  rw [Int64.toBitVec_or, BitVec.getLsbD_or, i64_shr, Int64.toBitVec_and, BitVec.getLsbD_and, i64_b1]
  cases i with
  | zero =>
    have a := h2 0 (by omega)
    have c := h2 1 (by omega)
    rw [a, c]
    simp
  | succ i =>
    have c := h2 (i + 1 + 1) (by omega)
    rw [show 1 + (i + 1) = i + 1 + 1 from by omega, c, decide_eq_false (show ¬ i + 1 = 0 by omega)]
    simp
set_option maxHeartbeats 400000 in
theorem BR_push0 {st : List Bool} {b : Int64} (h : BRt st b) (hl : st.length < 64) : BRt (false :: st) ((b <<< (1 : Int64)) ||| 0) := by
  refine ⟨by simp only [List.length_cons]; omega, fun i hi => ?_⟩
  simp only [List.length_cons] at hi
  rw [show (b <<< (1 : Int64)) ||| 0 = b <<< (1 : Int64) from by simp, i64_shl]
  cases i with
  | zero => simp
  | succ i =>
    have c := h.2 i (by omega)
    rw [decide_eq_true (show i + 1 < 64 by omega), decide_eq_false (show ¬ i + 1 < 1 by omega), show i + 1 - 1 = i from rfl, c]
    simp
set_option maxHeartbeats 400000 in
theorem BR_push1 {st : List Bool} {b : Int64} (h : BRt st b) (hl : st.length < 64) : BRt (true :: st) ((b <<< (1 : Int64)) ||| 1) := by
  refine ⟨by simp only [List.length_cons]; omega, fun i hi => ?_⟩
  simp only [List.length_cons] at hi
  rw [Int64.toBitVec_or, BitVec.getLsbD_or, i64_shl, i64_b1]
  cases i with
  | zero => simp
  | succ i =>
    have c := h.2 i (by omega)
    rw [decide_eq_true (show i + 1 < 64 by omega), decide_eq_false (show ¬ i + 1 < 1 by omega), decide_eq_false (show ¬ i + 1 = 0 by omega), show i + 1 - 1 = i from rfl, c]
    simp
set_option maxHeartbeats 400000 in
theorem i64_and1 (b : Int64) : b &&& 1 = 1 ↔ b.toBitVec.getLsbD 0 = true := by
  constructor
  · intro h
    have := congrArg (fun z : Int64 => z.toBitVec.getLsbD 0) h
    simp only [Int64.toBitVec_and, BitVec.getLsbD_and, i64_b1] at this
    simpa using this
  · intro h
    apply Int64.toBitVec_inj.mp
    apply BitVec.eq_of_getLsbD_eq
    intro i hi
    rw [Int64.toBitVec_and, BitVec.getLsbD_and, i64_b1]
    cases i with
    | zero => rw [h]; rfl
    | succ i => rw [decide_eq_false (show ¬ i + 1 = 0 by omega)]; simp
set_option maxHeartbeats 400000 in
theorem isTrue_x (x y : Int64) (s : Int32) (h0 : ¬ s < 0) (h4 : ¬ 4 < s) : fX1_isTrue x s y = if cmpb s x y = true then 1 else 0 := by
  unfold fX1_isTrue cmpb
  by_cases a0 : s = 0
  · rw [if_pos a0, if_pos a0]
    by_cases c : 0 ≤ lg_cmp x y
    · rw [if_pos c, if_neg (by rw [decide_eq_true_eq]; have := (lg_cmp_ge x y).mp c; intro q; exact Int64.not_le.mpr q this)]
    · rw [if_neg c, if_pos (by rw [decide_eq_true_eq]; exact Int64.not_le.mp (fun q => c ((lg_cmp_ge x y).mpr q)))]
  · rw [if_neg a0, if_neg a0]
    by_cases a1 : s = 1
    · rw [if_pos a1, if_pos a1]
      by_cases c : 0 < lg_cmp x y
      · rw [if_pos c, if_neg (by rw [decide_eq_true_eq]; have := (lg_cmp_gt x y).mp c; intro q; exact Int64.not_le.mpr this q)]
      · rw [if_neg c, if_pos (by rw [decide_eq_true_eq]; exact Int64.not_lt.mp (fun q => c ((lg_cmp_gt x y).mpr q)))]
    · rw [if_neg a1, if_neg a1]
      by_cases a2 : s = 2
      · rw [if_pos a2, if_pos a2]
        by_cases c : lg_cmp x y = 0
        · rw [if_pos c, if_pos (by rw [decide_eq_true_eq]; exact (lg_cmp_eq x y).mp c)]
        · rw [if_neg c, if_neg (by rw [decide_eq_true_eq]; exact fun q => c ((lg_cmp_eq x y).mpr q))]
      · rw [if_neg a2, if_neg a2]
        by_cases a3 : s = 3
        · rw [if_pos a3, if_pos a3]
          by_cases c : lg_cmp x y < 0
          · rw [if_pos c, if_neg (by rw [decide_eq_true_eq]; have := (lg_cmp_lt x y).mp c; intro q; exact Int64.not_le.mpr this q)]
          · rw [if_neg c, if_pos (by rw [decide_eq_true_eq]; exact Int64.not_lt.mp (fun q => c ((lg_cmp_lt x y).mpr q)))]
        · rw [if_neg a3, if_neg a3]
          by_cases c : lg_cmp x y ≤ 0
          · rw [if_pos c, if_neg (by rw [decide_eq_true_eq]; have := (lg_cmp_le x y).mp c; intro q; exact Int64.not_le.mpr q this)]
          · rw [if_neg c, if_pos (by rw [decide_eq_true_eq]; exact Int64.not_le.mp (fun q => c ((lg_cmp_le x y).mpr q)))]
/-- a row of steps in the class's arrays -/
def TS (V F : Int) (jF oF sF mF eF gF tF : Nat → Int32) : Nat → List (Int32 × List (Int32 × Int32) × List (Int32 × Int32)) → Prop
  | _, [] => True
  | a, q :: l => (if q.1 < 0 then tF a = q.1 ∧ (q.1 = -1 ∨ q.1 = -2 ∨ q.1 = -3) else (¬ tF a < 0) ∧ (tF a).toInt < F ∧ gF (tF a).toNatClampNeg = q.1 ∧ (¬ 4 < q.1) ∧ 0 ≤ (sF (tF a).toNatClampNeg).toInt ∧ (sF (tF a).toNatClampNeg).toInt + q.2.1.length = (mF (tF a).toNatClampNeg).toInt ∧ (mF (tF a).toNatClampNeg).toInt + q.2.2.length = (eF (tF a).toNatClampNeg).toInt ∧ (eF (tF a).toNatClampNeg).toInt ≤ V ∧ LA jF oF (sF (tF a).toNatClampNeg).toNatClampNeg q.2.1 ∧ LA jF oF (mF (tF a).toNatClampNeg).toNatClampNeg q.2.2) ∧ TS V F jF oF sF mF eF gF tF (a + 1) l
set_option maxHeartbeats 400000 in
theorem hold_x {V F0 : Int} {jF oF sF mF eF gF tF wF W : Nat → Int32} {p1 : Int32} (hw : ∀ i : Nat, i < 11 → wF i = W i) (h6 : p1.toInt ≤ 256) (hV : V ≤ 60) (hF : F0 ≤ 20) {E : Int32 → Int64 → Int32} {F : Int64 → Int32} (hE : ∀ a b, E a b = F b) : ∀ (l : List (Int32 × List (Int32 × Int32) × List (Int32 × Int32))) (N : Nat) (a : Int32) (b : Int64) (st : List Bool) (d : Nat), TS V F0 jF oF sF mF eF gF tF a.toNatClampNeg l → 0 ≤ a.toInt → a.toInt + l.length = p1.toInt → l.length < N → BRt st b → ndp l st.length = some d → st.length + nfa l < 64 → ∃ b2, BRt (hst W l st) b2 ∧ fl_mX1_holds_6 jF oF sF mF eF gF tF p1 wF E N a b = F b2 ∧ (hst W l st).length = d ∧ (l = [] → b2 = b) := by
  intro l
  induction l with
  | nil =>
    intro N a b st d hl h0 he hN hb hd hf
    obtain ⟨N, rfl⟩ : ∃ k, N = k + 1 := ⟨N - 1, by simp at hN; omega⟩
    refine ⟨b, hb, ?_, by cases hd; rfl, fun _ => rfl⟩
    show fb_mX1_holds_6 jF oF sF mF eF gF tF p1 wF E (fl_mX1_holds_6 jF oF sF mF eF gF tF p1 wF E N) a b = _
    unfold fb_mX1_holds_6
    have e : a = p1 := Int32.toInt_inj.mp (by simpa using he)
    rw [if_neg (z_nlt0 h0), if_pos (show p1 ≤ a by rw [e]; exact Int32.le_refl _)]
    exact hE _ _
  | cons q l ih =>
    intro N a b st d hl h0 he hN hb hd hf
    obtain ⟨N, rfl⟩ : ∃ k, N = k + 1 := ⟨N - 1, by simp at hN; omega⟩
    obtain ⟨hq, hl2⟩ := hl
    simp only [List.length_cons] at he hN
    have c1 : ¬ p1 ≤ a := by rw [Int32.le_iff_toInt_le]; omega
    have c2 : ¬ (256 : Int32) ≤ a := by rw [Int32.le_iff_toInt_le, show (256 : Int32).toInt = 256 from by decide]; omega
    obtain ⟨t1, t2⟩ := z_toNat1 (a := a) h0 (by omega)
    have hK : ∀ (b : Int64) (st : List Bool), BRt st b → ndp l st.length = some d → st.length + nfa l < 64 → ∃ b2, BRt (hst W l st) b2 ∧ fl_mX1_holds_6 jF oF sF mF eF gF tF p1 wF E N (a + 1) b = F b2 ∧ (hst W l st).length = d ∧ (l = [] → b2 = b) := fun b st x y z => ih N (a + 1) b st d (by rw [t2]; exact hl2) (by omega) (by rw [t1]; omega) (by omega) x y z
    have hK2 : ∀ (b' : Int64) (st : List Bool), BRt st b' → ndp l st.length = some d → st.length + nfa l < 64 → ∃ b2, BRt (hst W l st) b2 ∧ fl_mX1_holds_6 jF oF sF mF eF gF tF p1 wF E N (a + 1) b' = F b2 ∧ (hst W l st).length = d ∧ (q :: l = [] → b2 = b) := fun b' st x y z => by
      obtain ⟨b2, r1, r2, r3, _⟩ := hK b' st x y z
      exact ⟨b2, r1, r2, r3, fun h => by cases h⟩
    clear hK ih
    show ∃ b2, BRt (hst W (q :: l) st) b2 ∧ fb_mX1_holds_6 jF oF sF mF eF gF tF p1 wF E (fl_mX1_holds_6 jF oF sF mF eF gF tF p1 wF E N) a b = F b2 ∧ (hst W (q :: l) st).length = d ∧ (q :: l = [] → b2 = b)
    generalize fl_mX1_holds_6 jF oF sF mF eF gF tF p1 wF E N = K at hK2 ⊢
    unfold fb_mX1_holds_6
    rw [if_neg (z_nlt0 h0), if_neg c1, if_neg c2]
    simp only [bnd, i64_sh, i64_sl]
    unfold hst
    unfold ndp at hd
    unfold nfa at hf
    by_cases hs : q.1 < 0
    · rw [if_pos hs] at hq
      obtain ⟨e, hc⟩ := hq
      rw [e]
      rcases hc with hc | hc | hc
      · rw [hc] at hd hf ⊢
        rw [if_pos rfl] at hd hf ⊢
        rw [if_pos rfl]
        split at hd
        · rename_i x
          cases st with
          | nil => simp at x
          | cons y st => exact hK2 _ _ (BR_not hb) hd (by simpa using hf)
        · cases hd
      · rw [hc] at hd hf ⊢
        rw [if_neg (by decide), if_pos rfl] at hd hf ⊢
        rw [if_neg (by decide), if_pos rfl]
        split at hd
        · rename_i x
          match st, hb, hd, hf, x with
          | [], _, _, _, x => simp at x
          | [_], _, _, _, x => simp at x
          | y :: z :: st, hb, hd, hf, _ => exact hK2 _ _ (BR_and hb) hd (by simp only [List.length_cons] at hf ⊢; omega)
        · cases hd
      · rw [hc] at hd hf ⊢
        rw [if_neg (by decide), if_neg (by decide), if_pos rfl] at hd hf ⊢
        rw [if_neg (by decide), if_neg (by decide), if_pos rfl]
        split at hd
        · rename_i x
          match st, hb, hd, hf, x with
          | [], _, _, _, x => simp at x
          | [_], _, _, _, x => simp at x
          | y :: z :: st, hb, hd, hf, _ => exact hK2 _ _ (BR_or hb) hd (by simp only [List.length_cons] at hf ⊢; omega)
        · cases hd
    · rw [if_neg hs] at hq
      obtain ⟨f0, f1, g1, g2, s0, s1, s2, s3, l1, l2⟩ := hq
      have n1 : ∀ k : Int32, k < 0 → ¬ tF a.toNatClampNeg = k := fun k hk x => f0 (by rw [x]; exact hk)
      have m1 : ∀ k : Int32, k < 0 → ¬ q.1 = k := fun k hk x => hs (by rw [x]; exact hk)
      rw [if_neg (m1 _ (by decide)), if_neg (m1 _ (by decide)), if_neg (m1 _ (by decide))] at hd hf ⊢
      rw [if_neg (n1 _ (by decide)), if_neg (n1 _ (by decide)), if_neg (n1 _ (by decide)), if_neg f0, if_neg (show ¬ (20 : Int32) ≤ tF a.toNatClampNeg by rw [Int32.le_iff_toInt_le, show (20 : Int32).toInt = 20 from by decide]; omega)]
      rw [total_x hw (by omega) l1 s0 s1, total_x hw (by omega) l2 (by omega) s2, g1, isTrue_x _ _ _ hs g2]
      by_cases c : cmpb q.1 (tv W q.2.1) (tv W q.2.2) = true
      · rw [if_pos c, c, if_neg (by decide)]
        exact hK2 _ _ (BR_push1 hb (by omega)) hd (by simp only [List.length_cons]; omega)
      · rw [if_neg c, eq_false_of_ne_true c, if_pos rfl]
        exact hK2 _ _ (BR_push0 hb (by omega)) hd (by simp only [List.length_cons]; omega)
/-- what a TEST comes to; without one it holds -/
def tst (W : Nat → Int32) (l : List (Int32 × List (Int32 × Int32) × List (Int32 × Int32))) : Bool := (hst W l []).headD true
set_option maxHeartbeats 400000 in
theorem holds_x {V F0 : Int} {jF oF sF mF eF gF tF wF W : Nat → Int32} {p0 p1 : Int32} {l : List (Int32 × List (Int32 × Int32) × List (Int32 × Int32))} (hw : ∀ i : Nat, i < 11 → wF i = W i) (h6 : p1.toInt ≤ 256) (hV : V ≤ 60) (hF : F0 ≤ 20) (hl : TS V F0 jF oF sF mF eF gF tF p0.toNatClampNeg l) (h0 : 0 ≤ p0.toInt) (he : p0.toInt + l.length = p1.toInt) (hd : l = [] ∨ ndp l 0 = some 1) (hf : nfa l < 64) : fX1_holds jF oF sF mF eF gF tF p0 p1 wF = if tst W l = true then 1 else 0 := by
  unfold fX1_holds
  have hd2 : ∃ d, ndp l ([] : List Bool).length = some d := by
    rcases hd with rfl | h
    · exact ⟨0, rfl⟩
    · exact ⟨1, h⟩
  obtain ⟨d, hd2⟩ := hd2
  obtain ⟨b2, r1, r2, r3, r4⟩ := hold_x (W := W) hw h6 hV hF (E := fun _ b => bnd (b &&& 1) (fun x1 => if lg_cmp x1 1 = 0 then 1 else 0)) (F := fun b => if b &&& 1 = 1 then 1 else 0) (fun a b => by
    simp only [bnd]
    by_cases c : b &&& 1 = 1
    · rw [if_pos c, if_pos ((lg_cmp_eq _ _).mpr c)]
    · rw [if_neg c, if_neg (fun q => c ((lg_cmp_eq _ _).mp q))]) l ((p1.toInt - p0.toInt).toNat + 1) p0 1 [] d hl h0 he (by omega) ⟨by simp, fun i h => by simp at h⟩ hd2 (by simpa using hf)
  refine r2.trans ?_
  unfold tst
  rcases hd with rfl | h
  · rw [r4 rfl]; rfl
  · have : d = 1 := by
      have := hd2.symm.trans h
      cases this; rfl
    subst this
    cases hs : hst W l [] with
    | nil => rw [hs] at r3; simp at r3
    | cons x st =>
      rw [hs] at r1
      have q := r1.2 0 (by simp)
      show (if b2 &&& 1 = 1 then (1 : Int32) else 0) = if x = true then 1 else 0
      cases x with
      | true => rw [if_pos ((i64_and1 b2).mpr q), if_pos rfl]
      | false => rw [if_neg (fun z => by rw [(i64_and1 b2).mp z] at q; cases q), if_neg (by decide)]
/-- a LAW's clauses: sort, number, SUM, TEST -/
def lsm (W : Nat → Int32) (s : Int32) : List (Int32 × Int32 × List (Int32 × Int32) × Option (List (Int32 × List (Int32 × Int32) × List (Int32 × Int32)))) → Int64
  | [] => 0
  | q :: l => if q.1 = s then (if tst W (q.2.2.2.getD []) = true then tv W q.2.2.1 else lsm W s l) else lsm W s l
/-- the clauses in the class's arrays: a chain takes no place there -/
def CS (V F S : Int) (jF oF fS fM fE gF tF so s1 s2 t1 t2 : Nat → Int32) : Nat → List (Int32 × Int32 × List (Int32 × Int32) × Option (List (Int32 × List (Int32 × Int32) × List (Int32 × Int32)))) → Prop
  | _, [] => True
  | c, q :: l => if q.1 = 4 then CS V F S jF oF fS fM fE gF tF so s1 s2 t1 t2 c l else (so c = q.1 ∧ 0 ≤ (s1 c).toInt ∧ (s1 c).toInt + q.2.2.1.length = (s2 c).toInt ∧ (s2 c).toInt ≤ V ∧ LA jF oF (s1 c).toNatClampNeg q.2.2.1 ∧ 0 ≤ (t1 c).toInt ∧ (t1 c).toInt + (q.2.2.2.getD []).length = (t2 c).toInt ∧ (t2 c).toInt ≤ S ∧ TS V F jF oF fS fM fE gF tF (t1 c).toNatClampNeg (q.2.2.2.getD []) ∧ (q.2.2.2.getD [] = [] ∨ ndp (q.2.2.2.getD []) 0 = some 1) ∧ nfa (q.2.2.2.getD []) < 64) ∧ CS V F S jF oF fS fM fE gF tF so s1 s2 t1 t2 (c + 1) l
def ncl : List (Int32 × Int32 × List (Int32 × Int32) × Option (List (Int32 × List (Int32 × Int32) × List (Int32 × Int32)))) → Nat
  | [] => 0
  | q :: l => (if q.1 = 4 then 0 else 1) + ncl l
set_option maxHeartbeats 400000 in
theorem sumOf_l {V F S : Int} {jF oF fS fM fE gF tF so s1 s2 t1 t2 wF W : Nat → Int32} {yc p0 : Int32} (hw : ∀ i : Nat, i < 11 → wF i = W i) (h4 : ¬ p0 = 4) (h6 : yc.toInt ≤ 12) (hV : V ≤ 60) (hF : F ≤ 20) (hS : S ≤ 256) : ∀ (l : List (Int32 × Int32 × List (Int32 × Int32) × Option (List (Int32 × List (Int32 × Int32) × List (Int32 × Int32))))) (N : Nat) (c : Int32), CS V F S jF oF fS fM fE gF tF so s1 s2 t1 t2 c.toNatClampNeg l → 0 ≤ c.toInt → c.toInt + ncl l = yc.toInt → ncl l < N → fl_mX1_sumOf_2 so t1 t2 jF oF fS fM fE gF tF yc p0 wF (fun c => bnd (s1 c.toNatClampNeg) (fun x1 => bnd (s2 c.toNatClampNeg) (fun x2 => bnd (fX1_total jF oF x1 x2 wF) (fun r5 => r5)))) (fun _ => 0) N c = lsm W p0 l := by
  intro l
  induction l with
  | nil =>
    intro N c hl h0 he hN
    obtain ⟨N, rfl⟩ : ∃ k, N = k + 1 := ⟨N - 1, by omega⟩
    show fb_mX1_sumOf_2 so t1 t2 jF oF fS fM fE gF tF yc p0 wF _ _ _ c = _
    unfold fb_mX1_sumOf_2
    have e : c = yc := Int32.toInt_inj.mp (by simpa [ncl] using he)
    rw [if_pos (show yc ≤ c by rw [e]; exact Int32.le_refl _)]
    rfl
  | cons q l ih =>
    intro N c hl h0 he hN
    unfold CS at hl
    unfold ncl at he hN
    unfold lsm
    by_cases q4 : q.1 = 4
    · rw [if_pos q4] at hl he hN
      rw [if_neg (show ¬ q.1 = p0 by rw [q4]; exact fun x => h4 x.symm)]
      exact ih N c hl h0 (by omega) (by omega)
    · rw [if_neg q4] at hl he hN
      obtain ⟨⟨b1, b2, b3, b4, b5, b6, b7, b8, b9, b10, b11⟩, hl2⟩ := hl
      obtain ⟨N, rfl⟩ : ∃ k, N = k + 1 := ⟨N - 1, by omega⟩
      have c1 : ¬ yc ≤ c := by rw [Int32.le_iff_toInt_le]; omega
      have c2 : ¬ (12 : Int32) ≤ c := by rw [Int32.le_iff_toInt_le, show (12 : Int32).toInt = 12 from by decide]; omega
      obtain ⟨u1, u2⟩ := z_toNat1 (a := c) h0 (by omega)
      have hK := ih N (c + 1) (by rw [u2]; exact hl2) (by omega) (by rw [u1]; omega) (by omega)
      show fb_mX1_sumOf_2 so t1 t2 jF oF fS fM fE gF tF yc p0 wF _ _ (fl_mX1_sumOf_2 so t1 t2 jF oF fS fM fE gF tF yc p0 wF _ _ N) c = _
      unfold fb_mX1_sumOf_2
      rw [if_neg c1, if_neg c2]
      simp only [bnd, b1]
      by_cases e : q.1 = p0
      · rw [if_pos e, if_pos e, holds_x hw (by omega) hV hF b9 b6 b7 b10 b11]
        by_cases t : tst W (q.2.2.2.getD []) = true
        · rw [if_pos t, if_pos t, if_neg (by decide)]
          exact total_x hw (by omega) b5 b2 b3
        · rw [if_neg t, if_neg t, if_pos rfl]
          exact hK
      · rw [if_neg e, if_neg e]
        exact hK
set_option maxHeartbeats 400000 in
theorem sumOf_x {V F S : Int} {jF oF fS fM fE gF tF so s1 s2 t1 t2 wF W : Nat → Int32} {yc p0 : Int32} {l : List (Int32 × Int32 × List (Int32 × Int32) × Option (List (Int32 × List (Int32 × Int32) × List (Int32 × Int32))))} (hw : ∀ i : Nat, i < 11 → wF i = W i) (h4 : ¬ p0 = 4) (h6 : yc.toInt ≤ 12) (hV : V ≤ 60) (hF : F ≤ 20) (hS : S ≤ 256) (hl : CS V F S jF oF fS fM fE gF tF so s1 s2 t1 t2 0 l) (he : (ncl l : Int) = yc.toInt) : fX1_sumOf so s1 s2 t1 t2 jF oF fS fM fE gF tF yc p0 wF = lsm W p0 l := by
  unfold fX1_sumOf
  exact sumOf_l hw h4 h6 hV hF hS l _ 0 hl (by decide) (by rw [z_i0]; omega) (by rw [z_i0]; omega)
