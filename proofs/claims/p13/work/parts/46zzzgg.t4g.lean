abbrev Stps : Type := List (Int32 × List (Int32 × Int32) × List (Int32 × Int32))
/-- the step that a sign, kept back, becomes -/
def emt (c : Int32) : Stps := [((if c = 11 then -1 else if c = 12 then -2 else -3), [], [])]
def pre (l : Stps) (r : Except Int32 (Int32 × Int32 × Stps)) : Except Int32 (Int32 × Int32 × Stps) := exb r (fun w => .ok (w.1, w.2.1, l ++ w.2.2))
set_option maxHeartbeats 400000 in
theorem pre_pre {a b : Stps} {r : Except Int32 (Int32 × Int32 × Stps)} : pre a (pre b r) = pre (a ++ b) r := by
  cases r with
  | error e => rfl
  | ok w => show Except.ok _ = Except.ok _; rw [List.append_assoc]
set_option maxHeartbeats 400000 in
theorem pre_nil {r : Except Int32 (Int32 × Int32 × Stps)} : pre [] r = r := by cases r <;> rfl
set_option maxHeartbeats 400000 in
theorem pre_er {a : Stps} {e : Int32} : pre a (.error e) = .error e := rfl
/-- the automaton of the tests, with what it gives -/
def a2 (tk nx : Int32 → Int32) : Nat → Bool → Int32 → Int32 → List Int32 → Except Int32 (Int32 × Int32 × Stps)
  | 0, _, _, _, _ => .error 0
  | m + 1, true, p, n, st => if tk p = 319 then (if dpc st = 10 then .error (flt p 2) else a2 tk nx m true (nx p) n (11 :: st)) else if tk p = 91 then (if dpc st = 10 then .error (flt p 2) else a2 tk nx m true (nx p) n (91 :: st)) else exb (scm tk nx p n) (fun w => pre w.2.2 (a2 tk nx m false w.1 w.2.1 st))
  | m + 1, false, p, n, [] => if tk p = 318 then a2 tk nx m true (nx p) n [12] else if tk p = 317 then a2 tk nx m true (nx p) n [13] else .ok (p, n, [])
  | m + 1, false, p, n, c :: s => if c = 91 then (if tk p = 93 then a2 tk nx m false (nx p) n s else if tk p = 318 then a2 tk nx m true (nx p) n (12 :: c :: s) else if tk p = 317 then a2 tk nx m true (nx p) n (13 :: c :: s) else .error (flt p 0)) else if c = 13 ∧ tk p = 318 then a2 tk nx m true (nx p) n (12 :: c :: s) else pre (emt c) (a2 tk nx m false p n s)
set_option maxHeartbeats 400000 in
theorem a2_t {tk nx : Int32 → Int32} {m : Nat} {p n : Int32} {st : List Int32} : a2 tk nx (m + 1) true p n st = if tk p = 319 then (if dpc st = 10 then .error (flt p 2) else a2 tk nx m true (nx p) n (11 :: st)) else if tk p = 91 then (if dpc st = 10 then .error (flt p 2) else a2 tk nx m true (nx p) n (91 :: st)) else exb (scm tk nx p n) (fun w => pre w.2.2 (a2 tk nx m false w.1 w.2.1 st)) := by
  cases st <;> rfl
set_option maxHeartbeats 400000 in
theorem a2_n {tk nx : Int32 → Int32} {m : Nat} {p n : Int32} : a2 tk nx (m + 1) false p n [] = if tk p = 318 then a2 tk nx m true (nx p) n [12] else if tk p = 317 then a2 tk nx m true (nx p) n [13] else .ok (p, n, []) := rfl
set_option maxHeartbeats 400000 in
theorem a2_c {tk nx : Int32 → Int32} {m : Nat} {p n c : Int32} {s : List Int32} : a2 tk nx (m + 1) false p n (c :: s) = if c = 91 then (if tk p = 93 then a2 tk nx m false (nx p) n s else if tk p = 318 then a2 tk nx m true (nx p) n (12 :: c :: s) else if tk p = 317 then a2 tk nx m true (nx p) n (13 :: c :: s) else .error (flt p 0)) else if c = 13 ∧ tk p = 318 then a2 tk nx m true (nx p) n (12 :: c :: s) else pre (emt c) (a2 tk nx m false p n s) := rfl
def R2 (tk nx : Int32 → Int32) (b : Bool) (p n : Int32) (st : List Int32) (r : Except Int32 (Int32 × Int32 × Stps)) : Prop := ∃ k : Nat, ∀ m : Nat, k ≤ m → a2 tk nx m b p n st = r
set_option maxHeartbeats 400000 in
theorem R2_u {tk nx : Int32 → Int32} {b : Bool} {p n : Int32} {st : List Int32} {r r2 : Except Int32 (Int32 × Int32 × Stps)} (h : R2 tk nx b p n st r) (h2 : R2 tk nx b p n st r2) : r = r2 := by
  obtain ⟨k, hk⟩ := h
  obtain ⟨j, hj⟩ := h2
  rw [← hk (k + j) (by omega), hj (k + j) (by omega)]
set_option maxHeartbeats 400000 in
theorem R2_sp {tk nx : Int32 → Int32} {b c : Bool} {p n q i : Int32} {st sq : List Int32} {l : Stps} {r : Except Int32 (Int32 × Int32 × Stps)} (e : ∀ m : Nat, a2 tk nx (m + 1) b p n st = pre l (a2 tk nx m c q i sq)) (h : R2 tk nx c q i sq r) : R2 tk nx b p n st (pre l r) := by
  obtain ⟨k, hk⟩ := h
  refine ⟨k + 1, fun m hm => ?_⟩
  cases m with
  | zero => exact absurd hm (by omega)
  | succ m => rw [e m, hk m (by omega)]
set_option maxHeartbeats 400000 in
theorem R2_s {tk nx : Int32 → Int32} {b c : Bool} {p n q i : Int32} {st sq : List Int32} {r : Except Int32 (Int32 × Int32 × Stps)} (e : ∀ m : Nat, a2 tk nx (m + 1) b p n st = a2 tk nx m c q i sq) (h : R2 tk nx c q i sq r) : R2 tk nx b p n st r := by
  have := R2_sp (l := []) (fun m => by rw [e m, pre_nil]) h
  rw [pre_nil] at this
  exact this
set_option maxHeartbeats 400000 in
theorem R2_e {tk nx : Int32 → Int32} {b : Bool} {p n : Int32} {st : List Int32} {r : Except Int32 (Int32 × Int32 × Stps)} (e : ∀ m : Nat, a2 tk nx (m + 1) b p n st = r) : R2 tk nx b p n st r := by
  refine ⟨1, fun m hm => ?_⟩
  cases m with
  | zero => exact absurd hm (by omega)
  | succ m => exact e m
set_option maxHeartbeats 400000 in
theorem R2_pop {tk nx : Int32 → Int32} {p n c : Int32} {s : List Int32} {r : Except Int32 (Int32 × Int32 × Stps)} (h9 : ¬ c = 91) (h3 : c = 13 → ¬ tk p = 318) (h : R2 tk nx false p n s r) : R2 tk nx false p n (c :: s) (pre (emt c) r) :=
  R2_sp (fun m => by rw [a2_c, if_neg h9, if_neg (fun q => h3 q.1 q.2)]) h
set_option maxHeartbeats 400000 in
theorem R2_319 {tk nx : Int32 → Int32} {p n : Int32} {s : List Int32} {r : Except Int32 (Int32 × Int32 × Stps)} (t : tk p = 319) (d : ¬ dpc s = 10) (h : R2 tk nx true (nx p) n (11 :: s) r) : R2 tk nx true p n s r :=
  R2_s (fun m => by rw [a2_t, if_pos t, if_neg d]) h
set_option maxHeartbeats 400000 in
theorem R2_91 {tk nx : Int32 → Int32} {p n : Int32} {s : List Int32} {r : Except Int32 (Int32 × Int32 × Stps)} (t : tk p = 91) (d : ¬ dpc s = 10) (h : R2 tk nx true (nx p) n (91 :: s) r) : R2 tk nx true p n s r :=
  R2_s (fun m => by rw [a2_t, if_neg (by rw [t]; decide), if_pos t, if_neg d]) h
set_option maxHeartbeats 400000 in
theorem R2_deep {tk nx : Int32 → Int32} {p n : Int32} {s : List Int32} (t : tk p = 319 ∨ tk p = 91) (d : dpc s = 10) : R2 tk nx true p n s (.error (flt p 2)) :=
  R2_e (fun m => by
    rw [a2_t]
    rcases t with t | t
    · rw [if_pos t, if_pos d]
    · rw [if_neg (by rw [t]; decide), if_pos t, if_pos d])
set_option maxHeartbeats 400000 in
theorem R2_cmp {tk nx : Int32 → Int32} {p n : Int32} {s : List Int32} {w : Int32 × Int32 × Stps} {r : Except Int32 (Int32 × Int32 × Stps)} (t1 : ¬ tk p = 319) (t2 : ¬ tk p = 91) (e : scm tk nx p n = .ok w) (h : R2 tk nx false w.1 w.2.1 s r) : R2 tk nx true p n s (pre w.2.2 r) :=
  R2_sp (fun m => by rw [a2_t, if_neg t1, if_neg t2, e]; rfl) h
set_option maxHeartbeats 400000 in
theorem R2_cme {tk nx : Int32 → Int32} {p n e : Int32} {s : List Int32} (t1 : ¬ tk p = 319) (t2 : ¬ tk p = 91) (h : scm tk nx p n = .error e) : R2 tk nx true p n s (.error e) :=
  R2_e (fun m => by rw [a2_t, if_neg t1, if_neg t2, h]; rfl)
set_option maxHeartbeats 400000 in
theorem R2_or {tk nx : Int32 → Int32} {p n : Int32} {s : List Int32} {r : Except Int32 (Int32 × Int32 × Stps)} (hs : top9 s) (t : tk p = 317) (h : R2 tk nx true (nx p) n (13 :: s) r) : R2 tk nx false p n s r := by
  cases s with
  | nil => exact R2_s (fun m => by rw [a2_n, if_neg (by rw [t]; decide), if_pos t]) h
  | cons c s => exact R2_s (fun m => by rw [a2_c, if_pos (show c = 91 from hs), if_neg (by rw [t]; decide), if_neg (by rw [t]; decide), if_pos t]) h
set_option maxHeartbeats 400000 in
theorem R2_and {tk nx : Int32 → Int32} {p n : Int32} {s : List Int32} {r : Except Int32 (Int32 × Int32 × Stps)} (hs : top9 s ∨ ∃ s2, s = 13 :: s2) (t : tk p = 318) (h : R2 tk nx true (nx p) n (12 :: s) r) : R2 tk nx false p n s r := by
  rcases hs with hs | ⟨s2, rfl⟩
  · cases s with
    | nil => exact R2_s (fun m => by rw [a2_n, if_pos t]) h
    | cons c s => exact R2_s (fun m => by rw [a2_c, if_pos (show c = 91 from hs), if_neg (by rw [t]; decide), if_pos t]) h
  · exact R2_s (fun m => by rw [a2_c, if_neg (by decide), if_pos ⟨rfl, t⟩]) h
set_option maxHeartbeats 400000 in
theorem R2_93 {tk nx : Int32 → Int32} {p n : Int32} {s : List Int32} {r : Except Int32 (Int32 × Int32 × Stps)} (t : tk p = 93) (h : R2 tk nx false (nx p) n s r) : R2 tk nx false p n (91 :: s) r :=
  R2_s (fun m => by rw [a2_c, if_pos rfl, if_pos t]) h
set_option maxHeartbeats 400000 in
theorem R2_uns {tk nx : Int32 → Int32} {p n : Int32} {s : List Int32} (t : ¬ tk p = 93) (t1 : ¬ tk p = 318) (t2 : ¬ tk p = 317) : R2 tk nx false p n (91 :: s) (.error (flt p 0)) :=
  R2_e (fun m => by rw [a2_c, if_pos rfl, if_neg t, if_neg t1, if_neg t2])
set_option maxHeartbeats 400000 in
theorem R2_end {tk nx : Int32 → Int32} {p n : Int32} (t1 : ¬ tk p = 318) (t2 : ¬ tk p = 317) : R2 tk nx false p n [] (.ok (p, n, [])) :=
  R2_e (fun m => by rw [a2_n, if_neg t1, if_neg t2])
def S2 (tk nx : Int32 → Int32) (n : Int32) (X : Except Int32 (Int32 × Int32 × Stps)) (A : Int32 → Int32 → Except Int32 (Int32 × Int32 × Stps) → Prop) (G : Except Int32 (Int32 × Int32 × Stps) → Prop) : Prop := match X with
  | .error e => G (.error e)
  | .ok w => n < w.2.1 ∧ (¬ 60 < w.2.1) ∧ ∀ r, A w.1 w.2.1 r → G (pre w.2.2 r)
set_option maxHeartbeats 400000 in
theorem s2_c {tk nx : Int32 → Int32} {p n : Int32} {st : List Int32} (t1 : ¬ tk p = 319) (t2 : ¬ tk p = 91) : S2 tk nx n (scm tk nx p n) (fun q i r => R2 tk nx false q i st r) (R2 tk nx true p n st) := by
  have e := er_scm (tk := tk) (nx := nx) (p := p) (n := n)
  generalize hX : scm tk nx p n = X at e ⊢
  cases X with
  | error e2 => exact R2_cme t1 t2 hX
  | ok w =>
    have e2 : ecm tk nx p n = .ok (w.1, w.2.1) := e.symm
    obtain ⟨g1, g2⟩ := ecm_up e2
    exact ⟨g1, g2, fun r hr => R2_cmp t1 t2 hX hr⟩
set_option maxHeartbeats 400000 in
theorem s2_p {tk nx : Int32 → Int32} {F : Int32 → Int32 → Except Int32 (Int32 × Int32 × Stps)} {c : List Int32} (hc : top9 c ∨ ∃ s2, c = 13 :: s2) (hF : ∀ (p n : Int32) (st : List Int32), ¬ n < 0 → dpc st = dpc c → S2 tk nx n (F p n) (fun q i r => R2 tk nx false q i st r) (R2 tk nx true p n st)) : ∀ (m : Nat) (b : Bool) (p n : Int32), ¬ n < 0 → (60 - n.toInt).toNat < m → S2 tk nx n (slp tk nx F 318 (-2) m b p n) (fun q i r => (¬ tk q = 318) → R2 tk nx false q i c r) (fun r => R2 tk nx true p n (if b then 12 :: c else c) r) ∧ (∀ w, slp tk nx F 318 (-2) m b p n = .ok w → ¬ tk w.1 = 318) := by
  intro m
  induction m with
  | zero => intro b p n n0 hm; exact absurd hm (Nat.not_lt_zero _)
  | succ m ih =>
    intro b p n n0 hm
    have hf := hF p n (if b then 12 :: c else c) n0 (by cases b with
      | false => rfl
      | true => exact dpc_12)
    rw [slp_s]
    generalize F p n = X at hf ⊢
    cases X with
    | error e => exact ⟨hf, fun w h => by cases h⟩
    | ok w =>
      obtain ⟨g1, g2, g3⟩ := hf
      show S2 tk nx n (if tk w.1 = 318 then _ else _) _ _ ∧ ∀ v, (if tk w.1 = 318 then _ else _) = Except.ok v → _
      have hpop : ∀ l r, R2 tk nx false w.1 w.2.1 c (pre l r) → R2 tk nx true p n (if b then 12 :: c else c) (pre ((if b then w.2.2 ++ [((-2 : Int32), [], [])] else w.2.2) ++ l) r) := by
        intro l r hr
        cases b with
        | false =>
          have := g3 _ hr
          rw [pre_pre] at this
          exact this
        | true =>
          have := g3 _ (R2_pop (c := 12) (by decide) (fun q => absurd q (by decide)) hr)
          rw [pre_pre, pre_pre] at this
          exact this
      by_cases t : tk w.1 = 318
      · rw [if_pos t]
        obtain ⟨i1, i2⟩ := ih true (nx w.1) w.2.1 (by grind) (n60 g1 g2 hm)
        generalize slp tk nx F 318 (-2) m true (nx w.1) w.2.1 = Y at i1 i2 ⊢
        cases Y with
        | error e =>
          refine ⟨?_, fun v h => by cases h⟩
          have := hpop [] (.error e) (R2_and hc t i1)
          exact this
        | ok v =>
          obtain ⟨j1, j2, j3⟩ := i1
          refine ⟨⟨by show n < v.2.1; grind, j2, fun r hr => hpop v.2.2 r (R2_and hc t (j3 r hr))⟩, fun u h => ?_⟩
          injection h with h
          subst h
          exact i2 v rfl
      · rw [if_neg t]
        refine ⟨⟨g1, g2, fun r hr => ?_⟩, fun u h => ?_⟩
        · have := hpop [] r (by rw [pre_nil]; exact hr t)
          rw [List.append_nil] at this
          exact this
        · injection h with h
          subst h
          exact t
set_option maxHeartbeats 400000 in
theorem s2_t {tk nx : Int32 → Int32} {F : Int32 → Int32 → Except Int32 (Int32 × Int32 × Stps)} {c : List Int32} (hc : top9 c) (hF : ∀ (p n : Int32) (st : List Int32), ¬ n < 0 → dpc st = dpc c → S2 tk nx n (F p n) (fun q i r => R2 tk nx false q i st r) (R2 tk nx true p n st)) : ∀ (m : Nat) (b : Bool) (p n : Int32), ¬ n < 0 → (60 - n.toInt).toNat < m → S2 tk nx n (slp tk nx (slp tk nx F 318 (-2) 61 false) 317 (-3) m b p n) (fun q i r => (¬ tk q = 318) → (¬ tk q = 317) → R2 tk nx false q i c r) (fun r => R2 tk nx true p n (if b then 13 :: c else c) r) ∧ (∀ w, slp tk nx (slp tk nx F 318 (-2) 61 false) 317 (-3) m b p n = .ok w → (¬ tk w.1 = 318) ∧ ¬ tk w.1 = 317) := by
  intro m
  induction m with
  | zero => intro b p n n0 hm; exact absurd hm (Nat.not_lt_zero _)
  | succ m ih =>
    intro b p n n0 hm
    have n1 := i_nn n0
    obtain ⟨hf, hx⟩ := s2_p (c := if b then 13 :: c else c) (by cases b with
      | false => exact Or.inl hc
      | true => exact Or.inr ⟨c, rfl⟩) (fun p n st k0 hd => hF p n st k0 (by rw [hd]; cases b with
      | false => rfl
      | true => exact dpc_13)) 61 false p n n0 (by omega)
    rw [slp_s]
    generalize slp tk nx F 318 (-2) 61 false p n = X at hf hx ⊢
    cases X with
    | error e => exact ⟨hf, fun w h => by cases h⟩
    | ok w =>
      obtain ⟨g1, g2, g3⟩ := hf
      have t8 := hx w rfl
      show S2 tk nx n (if tk w.1 = 317 then _ else _) _ _ ∧ ∀ v, (if tk w.1 = 317 then _ else _) = Except.ok v → _
      have hpop : ∀ l r, R2 tk nx false w.1 w.2.1 c (pre l r) → R2 tk nx true p n (if b then 13 :: c else c) (pre ((if b then w.2.2 ++ [((-3 : Int32), [], [])] else w.2.2) ++ l) r) := by
        intro l r hr
        cases b with
        | false =>
          have := g3 _ (fun _ => hr)
          rw [pre_pre] at this
          exact this
        | true =>
          have := g3 _ (fun _ => R2_pop (c := 13) (by decide) (fun _ => t8) hr)
          rw [pre_pre, pre_pre] at this
          exact this
      by_cases t : tk w.1 = 317
      · rw [if_pos t]
        obtain ⟨i1, i2⟩ := ih true (nx w.1) w.2.1 (by grind) (n60 g1 g2 hm)
        generalize slp tk nx (slp tk nx F 318 (-2) 61 false) 317 (-3) m true (nx w.1) w.2.1 = Y at i1 i2 ⊢
        cases Y with
        | error e =>
          refine ⟨?_, fun v h => by cases h⟩
          have := hpop [] (.error e) (R2_or hc t i1)
          exact this
        | ok v =>
          obtain ⟨j1, j2, j3⟩ := i1
          refine ⟨⟨by show n < v.2.1; grind, j2, fun r hr => hpop v.2.2 r (R2_or hc t (j3 r hr))⟩, fun u h => ?_⟩
          injection h with h
          subst h
          exact i2 v rfl
      · rw [if_neg t]
        refine ⟨⟨g1, g2, fun r hr => ?_⟩, fun u h => ?_⟩
        · have := hpop [] r (by rw [pre_nil]; exact hr t8 t)
          rw [List.append_nil] at this
          exact this
        · injection h with h
          subst h
          exact ⟨t8, t⟩
set_option maxHeartbeats 400000 in
theorem s2_f {tk nx : Int32 → Int32} : ∀ (d : Nat) (p n : Int32) (st : List Int32), dpc st + d = 10 → ¬ n < 0 → S2 tk nx n (sF tk nx d p n) (fun q i r => R2 tk nx false q i st r) (R2 tk nx true p n st) := by
  intro d
  induction d with
  | zero =>
    intro p n st hd n0
    show S2 tk nx n (sfc0 tk nx p n) _ _
    unfold sfc0
    by_cases a : tk p = 319
    · rw [if_pos a]
      exact R2_deep (Or.inl a) hd
    · rw [if_neg a]
      by_cases b : tk p = 91
      · rw [if_pos b]
        exact R2_deep (Or.inr b) hd
      · rw [if_neg b]
        exact s2_c a b
  | succ d ih =>
    intro p n st hd n0
    show S2 tk nx n (sfc tk nx (slp tk nx (slp tk nx (sF tk nx d) 318 (-2) 61 false) 317 (-3) 61 false) (sF tk nx d) p n) _ _
    unfold sfc
    by_cases a : tk p = 319
    · rw [if_pos a]
      have z := ih (nx p) n (11 :: st) (by show (1 + dpc st) + d = 10; omega) n0
      generalize sF tk nx d (nx p) n = X at z ⊢
      cases X with
      | error e => exact R2_319 a (by omega) z
      | ok w =>
        obtain ⟨g1, g2, g3⟩ := z
        refine ⟨g1, g2, fun r hr => R2_319 a (by omega) ?_⟩
        have := g3 _ (R2_pop (c := 11) (by decide) (fun q => absurd q (by decide)) hr)
        rw [pre_pre] at this
        exact this
    · rw [if_neg a]
      by_cases b : tk p = 91
      · rw [if_pos b]
        have n1 := i_nn n0
        obtain ⟨z, zx⟩ := s2_t (tk := tk) (nx := nx) (F := sF tk nx d) (c := 91 :: st) rfl (fun p n s k0 hs => ih p n s (by rw [hs]; show (1 + dpc st) + d = 10; omega) k0) 61 false (nx p) n n0 (by omega)
        generalize slp tk nx (slp tk nx (sF tk nx d) 318 (-2) 61 false) 317 (-3) 61 false (nx p) n = X at z zx ⊢
        cases X with
        | error e => exact R2_91 b (by omega) z
        | ok w =>
          obtain ⟨g1, g2, g3⟩ := z
          obtain ⟨x1, x2⟩ := zx w rfl
          show S2 tk nx n (if tk w.1 = 93 then _ else _) _ _
          by_cases t : tk w.1 = 93
          · rw [if_pos t]
            exact ⟨g1, g2, fun r hr => R2_91 b (by omega) (g3 r (fun _ _ => R2_93 t hr))⟩
          · rw [if_neg t]
            have := g3 _ (fun _ _ => R2_uns (n := w.2.1) (s := st) t x1 x2)
            exact R2_91 b (by omega) this
      · rw [if_neg b]
        exact s2_c a b
set_option maxHeartbeats 400000 in
theorem s2_T {tk nx : Int32 → Int32} {p n : Int32} {w : Int32 × Int32 × Stps} (n0 : ¬ n < 0) (h : sT tk nx 10 p n = .ok w) : R2 tk nx true p n [] (.ok w) := by
  have n1 := i_nn n0
  obtain ⟨z, zx⟩ := s2_t (tk := tk) (nx := nx) (F := sF tk nx 10) (c := []) trivial (fun p n s k0 hs => s2_f 10 p n s (by rw [hs]; rfl) k0) 61 false p n n0 (by omega)
  have e : slp tk nx (slp tk nx (sF tk nx 10) 318 (-2) 61 false) 317 (-3) 61 false p n = .ok w := h
  rw [e] at z zx
  obtain ⟨g1, g2, g3⟩ := z
  obtain ⟨x1, x2⟩ := zx w rfl
  have := g3 _ (fun _ _ => R2_end (n := w.2.1) x1 x2)
  have e2 : pre w.2.2 (.ok (w.1, w.2.1, [])) = .ok w := by
    show Except.ok (w.1, w.2.1, w.2.2 ++ []) = _
    rw [List.append_nil]
  rw [e2] at this
  exact this
