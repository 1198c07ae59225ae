def dpc : List Int32 → Nat
  | [] => 0
  | c :: s => (if c = 11 then 1 else if c = 91 then 1 else 0) + dpc s
theorem dpc_12 {s : List Int32} : dpc (12 :: s) = dpc s := by
  show (if (12 : Int32) = 11 then 1 else if (12 : Int32) = 91 then 1 else 0) + dpc s = dpc s
  rw [if_neg (by decide), if_neg (by decide), Nat.zero_add]
theorem dpc_13 {s : List Int32} : dpc (13 :: s) = dpc s := by
  show (if (13 : Int32) = 11 then 1 else if (13 : Int32) = 91 then 1 else 0) + dpc s = dpc s
  rw [if_neg (by decide), if_neg (by decide), Nat.zero_add]
def au (tk nx : Int32 → Int32) : Nat → Bool → Int32 → Int32 → List Int32 → Except Int32 (Int32 × Int32)
  | 0, _, _, _, _ => .error 0
  | m + 1, true, p, n, st => if tk p = 319 then (if dpc st = 10 then .error (flt p 2) else au tk nx m true (nx p) n (11 :: st)) else if tk p = 91 then (if dpc st = 10 then .error (flt p 2) else au tk nx m true (nx p) n (91 :: st)) else exb (ecm tk nx p n) (fun w => au tk nx m false w.1 w.2 st)
  | m + 1, false, p, n, [] => if tk p = 318 then au tk nx m true (nx p) n [12] else if tk p = 317 then au tk nx m true (nx p) n [13] else .ok (p, n)
  | m + 1, false, p, n, c :: s => if c = 91 then (if tk p = 93 then au tk nx m false (nx p) n s else if tk p = 318 then au tk nx m true (nx p) n (12 :: c :: s) else if tk p = 317 then au tk nx m true (nx p) n (13 :: c :: s) else .error (flt p 0)) else if c = 13 ∧ tk p = 318 then au tk nx m true (nx p) n (12 :: c :: s) else au tk nx m false p n s
theorem au_t {tk nx : Int32 → Int32} {m : Nat} {p n : Int32} {st : List Int32} : au tk nx (m + 1) true p n st = if tk p = 319 then (if dpc st = 10 then .error (flt p 2) else au tk nx m true (nx p) n (11 :: st)) else if tk p = 91 then (if dpc st = 10 then .error (flt p 2) else au tk nx m true (nx p) n (91 :: st)) else exb (ecm tk nx p n) (fun w => au tk nx m false w.1 w.2 st) := by
  cases st <;> rfl
theorem au_n {tk nx : Int32 → Int32} {m : Nat} {p n : Int32} : au tk nx (m + 1) false p n [] = if tk p = 318 then au tk nx m true (nx p) n [12] else if tk p = 317 then au tk nx m true (nx p) n [13] else .ok (p, n) := rfl
theorem au_c {tk nx : Int32 → Int32} {m : Nat} {p n c : Int32} {s : List Int32} : au tk nx (m + 1) false p n (c :: s) = if c = 91 then (if tk p = 93 then au tk nx m false (nx p) n s else if tk p = 318 then au tk nx m true (nx p) n (12 :: c :: s) else if tk p = 317 then au tk nx m true (nx p) n (13 :: c :: s) else .error (flt p 0)) else if c = 13 ∧ tk p = 318 then au tk nx m true (nx p) n (12 :: c :: s) else au tk nx m false p n s := rfl
def Rn (tk nx : Int32 → Int32) (b : Bool) (p n : Int32) (st : List Int32) (r : Except Int32 (Int32 × Int32)) : Prop := ∃ k : Nat, ∀ m : Nat, k ≤ m → au tk nx m b p n st = r
theorem Rn_u {tk nx : Int32 → Int32} {b : Bool} {p n : Int32} {st : List Int32} {r r2 : Except Int32 (Int32 × Int32)} (h : Rn tk nx b p n st r) (h2 : Rn tk nx b p n st r2) : r = r2 := by
  obtain ⟨k, hk⟩ := h
  obtain ⟨j, hj⟩ := h2
  rw [← hk (k + j) (by omega), hj (k + j) (by omega)]
theorem Rn_s {tk nx : Int32 → Int32} {b c : Bool} {p n q i : Int32} {st sq : List Int32} {r : Except Int32 (Int32 × Int32)} (e : ∀ m : Nat, au tk nx (m + 1) b p n st = au tk nx m c q i sq) (h : Rn tk nx c q i sq r) : Rn tk nx b p n st r := by
  obtain ⟨k, hk⟩ := h
  refine ⟨k + 1, fun m hm => ?_⟩
  cases m with
  | zero => exact absurd hm (by omega)
  | succ m => rw [e m]; exact hk m (by omega)
theorem Rn_e {tk nx : Int32 → Int32} {b : Bool} {p n : Int32} {st : List Int32} {r : Except Int32 (Int32 × Int32)} (e : ∀ m : Nat, au tk nx (m + 1) b p n st = r) : Rn tk nx b p n st r := by
  refine ⟨1, fun m hm => ?_⟩
  cases m with
  | zero => exact absurd hm (by omega)
  | succ m => exact e m
theorem Rn_pop {tk nx : Int32 → Int32} {p n c : Int32} {s : List Int32} {r : Except Int32 (Int32 × Int32)} (h9 : ¬ c = 91) (h3 : c = 13 → ¬ tk p = 318) (h : Rn tk nx false p n s r) : Rn tk nx false p n (c :: s) r :=
  Rn_s (fun m => by rw [au_c, if_neg h9, if_neg (fun q => h3 q.1 q.2)]) h
theorem Rn_319 {tk nx : Int32 → Int32} {p n : Int32} {s : List Int32} {r : Except Int32 (Int32 × Int32)} (t : tk p = 319) (d : ¬ dpc s = 10) (h : Rn tk nx true (nx p) n (11 :: s) r) : Rn tk nx true p n s r :=
  Rn_s (fun m => by rw [au_t, if_pos t, if_neg d]) h
theorem Rn_91 {tk nx : Int32 → Int32} {p n : Int32} {s : List Int32} {r : Except Int32 (Int32 × Int32)} (t : tk p = 91) (d : ¬ dpc s = 10) (h : Rn tk nx true (nx p) n (91 :: s) r) : Rn tk nx true p n s r :=
  Rn_s (fun m => by rw [au_t, if_neg (by rw [t]; decide), if_pos t, if_neg d]) h
theorem Rn_deep {tk nx : Int32 → Int32} {p n : Int32} {s : List Int32} (t : tk p = 319 ∨ tk p = 91) (d : dpc s = 10) : Rn tk nx true p n s (.error (flt p 2)) :=
  Rn_e (fun m => by
    rw [au_t]
    rcases t with t | t
    · rw [if_pos t, if_pos d]
    · rw [if_neg (by rw [t]; decide), if_pos t, if_pos d])
theorem Rn_cmp {tk nx : Int32 → Int32} {p n : Int32} {s : List Int32} {w : Int32 × Int32} {r : Except Int32 (Int32 × Int32)} (t1 : ¬ tk p = 319) (t2 : ¬ tk p = 91) (e : ecm tk nx p n = .ok w) (h : Rn tk nx false w.1 w.2 s r) : Rn tk nx true p n s r :=
  Rn_s (fun m => by rw [au_t, if_neg t1, if_neg t2, e]; rfl) h
theorem Rn_cme {tk nx : Int32 → Int32} {p n e : Int32} {s : List Int32} (t1 : ¬ tk p = 319) (t2 : ¬ tk p = 91) (h : ecm tk nx p n = .error e) : Rn tk nx true p n s (.error e) :=
  Rn_e (fun m => by rw [au_t, if_neg t1, if_neg t2, h]; rfl)
def top9 : List Int32 → Prop
  | [] => True
  | c :: _ => c = 91
theorem Rn_or {tk nx : Int32 → Int32} {p n : Int32} {s : List Int32} {r : Except Int32 (Int32 × Int32)} (hs : top9 s) (t : tk p = 317) (h : Rn tk nx true (nx p) n (13 :: s) r) : Rn tk nx false p n s r := by
  cases s with
  | nil => exact Rn_s (fun m => by rw [au_n, if_neg (by rw [t]; decide), if_pos t]) h
  | cons c s => exact Rn_s (fun m => by rw [au_c, if_pos (show c = 91 from hs), if_neg (by rw [t]; decide), if_neg (by rw [t]; decide), if_pos t]) h
theorem Rn_and {tk nx : Int32 → Int32} {p n : Int32} {s : List Int32} {r : Except Int32 (Int32 × Int32)} (hs : top9 s ∨ ∃ s2, s = 13 :: s2) (t : tk p = 318) (h : Rn tk nx true (nx p) n (12 :: s) r) : Rn tk nx false p n s r := by
  rcases hs with hs | ⟨s2, rfl⟩
  · cases s with
    | nil => exact Rn_s (fun m => by rw [au_n, if_pos t]) h
    | cons c s => exact Rn_s (fun m => by rw [au_c, if_pos (show c = 91 from hs), if_neg (by rw [t]; decide), if_pos t]) h
  · exact Rn_s (fun m => by rw [au_c, if_neg (by decide), if_pos ⟨rfl, t⟩]) h
theorem Rn_end {tk nx : Int32 → Int32} {p n : Int32} (t1 : ¬ tk p = 318) (t2 : ¬ tk p = 317) : Rn tk nx false p n [] (.ok (p, n)) :=
  Rn_e (fun m => by rw [au_n, if_neg t1, if_neg t2])
theorem Rn_uns {tk nx : Int32 → Int32} {p n : Int32} {s : List Int32} (t0 : ¬ tk p = 93) (t1 : ¬ tk p = 318) (t2 : ¬ tk p = 317) : Rn tk nx false p n (91 :: s) (.error (flt p 0)) :=
  Rn_e (fun m => by rw [au_c, if_pos rfl, if_neg t0, if_neg t1, if_neg t2])
theorem Rn_93 {tk nx : Int32 → Int32} {p n : Int32} {s : List Int32} {r : Except Int32 (Int32 × Int32)} (t : tk p = 93) (h : Rn tk nx false (nx p) n s r) : Rn tk nx false p n (91 :: s) r :=
  Rn_s (fun m => by rw [au_c, if_pos rfl, if_pos t]) h
theorem ess_up {tk nx : Int32 → Int32} : ∀ (m : Nat) (p n : Int32) (w : Int32 × Int32), ess tk nx m p n = .ok w → n < w.2 ∧ ¬ 60 < w.2 := by
  intro m
  induction m with
  | zero => intro p n w h; cases h
  | succ m ih =>
    intro p n w h
    rw [ess_s] at h
    generalize he : svl (tk p) p n = r at h
    cases r with
    | error e => cases h
    | ok v =>
      have n9 := svl_lt he
      have h2 : (if fX2_joinOf (tk (nx p)) = -1 then Except.ok (nx p, n + 1) else ess tk nx m (nx (nx p)) (n + 1)) = Except.ok w := h
      by_cases c : fX2_joinOf (tk (nx p)) = -1
      · rw [if_pos c] at h2
        injection h2 with h2
        subst h2
        exact ⟨by show n < n + 1; grind, by show ¬ 60 < n + 1; grind⟩
      · rw [if_neg c] at h2
        obtain ⟨g1, g2⟩ := ih _ _ _ h2
        exact ⟨by grind, g2⟩
theorem ecm_up {tk nx : Int32 → Int32} {p n : Int32} {w : Int32 × Int32} (h : ecm tk nx p n = .ok w) : n < w.2 ∧ ¬ 60 < w.2 := by
  unfold ecm at h
  generalize he : ess tk nx 61 p n = r at h
  cases r with
  | error e => cases h
  | ok v =>
    obtain ⟨g1, g2⟩ := ess_up _ _ _ _ he
    have h2 : (if fX2_signOf (tk v.1) = -1 then Except.error (flt v.1 0) else if v.2 < 60 then ess tk nx 61 (nx v.1) (v.2 + 1) else Except.error (flt v.1 3)) = Except.ok w := h
    by_cases c : fX2_signOf (tk v.1) = -1
    · rw [if_pos c] at h2; cases h2
    · rw [if_neg c] at h2
      by_cases d : v.2 < 60
      · rw [if_pos d] at h2
        obtain ⟨k1, k2⟩ := ess_up _ _ _ _ h2
        exact ⟨by grind, k2⟩
      · rw [if_neg d] at h2; cases h2
def SM (tk nx : Int32 → Int32) (n : Int32) (X : Except Int32 (Int32 × Int32 × List (Int32 × List (Int32 × Int32) × List (Int32 × Int32)))) (A : Int32 → Int32 → Except Int32 (Int32 × Int32) → Prop) (G : Except Int32 (Int32 × Int32) → Prop) : Prop := match X with
  | .error e => G (.error e)
  | .ok w => n < w.2.1 ∧ (¬ 60 < w.2.1) ∧ ∀ r, A w.1 w.2.1 r → G r
theorem sim_c {tk nx : Int32 → Int32} {p n : Int32} {st : List Int32} (t1 : ¬ tk p = 319) (t2 : ¬ tk p = 91) : SM tk nx n (scm tk nx p n) (fun q i r => Rn tk nx false q i st r) (Rn tk nx true p n st) := by
  have e := er_scm (tk := tk) (nx := nx) (p := p) (n := n)
  generalize scm tk nx p n = X at e ⊢
  cases X with
  | error e2 => exact Rn_cme t1 t2 e.symm
  | ok w =>
    have e2 : ecm tk nx p n = .ok (w.1, w.2.1) := e.symm
    obtain ⟨g1, g2⟩ := ecm_up e2
    exact ⟨g1, g2, fun r hr => Rn_cmp t1 t2 e2 hr⟩
theorem n60 {n w : Int32} {m : Nat} (h : n < w) (h6 : ¬ 60 < w) (hm : (60 - n.toInt).toNat < m + 1) : (60 - w.toInt).toNat < m := by
  have := z_le60 h h6
  omega
theorem sim_p {tk nx : Int32 → Int32} {F : Int32 → Int32 → Except Int32 (Int32 × Int32 × List (Int32 × List (Int32 × Int32) × List (Int32 × Int32)))} {c : List Int32} (hc : top9 c ∨ ∃ s2, c = 13 :: s2) (hF : ∀ (p n : Int32) (st : List Int32), ¬ n < 0 → dpc st = dpc c → SM tk nx n (F p n) (fun q i r => Rn tk nx false q i st r) (Rn tk nx true p n st)) : ∀ (m : Nat) (b : Bool) (p n : Int32), ¬ n < 0 → (60 - n.toInt).toNat < m → SM tk nx n (slp tk nx F 318 (-2) m b p n) (fun q i r => (¬ tk q = 318) → Rn tk nx false q i c r) (fun r => Rn tk nx true p n (if b then 12 :: c else c) r) ∧ (∀ w, slp tk nx F 318 (-2) m b p n = .ok w → ¬ tk w.1 = 318) := by
  intro m
  induction m with
  | zero => intro b p n n0 hm; exact absurd hm (Nat.not_lt_zero _)
  | succ m ih =>
    intro b p n n0 hm
    have hf := hF p n (if b then 12 :: c else c) n0 (by cases b with
      | false => rfl
      | true => exact dpc_12)
    rw [slp_s]
    generalize F p n = X at hf ⊢
    cases X with
    | error e => exact ⟨hf, fun w h => by cases h⟩
    | ok w =>
      obtain ⟨g1, g2, g3⟩ := hf
      show SM tk nx n (if tk w.1 = 318 then _ else _) _ _ ∧ ∀ v, (if tk w.1 = 318 then _ else _) = Except.ok v → _
      have hpop : ∀ r, Rn tk nx false w.1 w.2.1 c r → Rn tk nx false w.1 w.2.1 (if b then 12 :: c else c) r := by
        intro r hr
        cases b with
        | false => exact hr
        | true => exact Rn_pop (by decide) (fun q => absurd q (by decide)) hr
      by_cases t : tk w.1 = 318
      · rw [if_pos t]
        obtain ⟨i1, i2⟩ := ih true (nx w.1) w.2.1 (by grind) (n60 g1 g2 hm)
        generalize slp tk nx F 318 (-2) m true (nx w.1) w.2.1 = Y at i1 i2 ⊢
        cases Y with
        | error e => exact ⟨g3 _ (hpop _ (Rn_and hc t i1)), fun v h => by cases h⟩
        | ok v =>
          obtain ⟨j1, j2, j3⟩ := i1
          refine ⟨⟨by show n < v.2.1; grind, j2, fun r hr => g3 _ (hpop _ (Rn_and hc t (j3 r hr)))⟩, fun u h => ?_⟩
          injection h with h
          subst h
          exact i2 v rfl
      · rw [if_neg t]
        refine ⟨⟨g1, g2, fun r hr => g3 _ (hpop _ (hr t))⟩, fun u h => ?_⟩
        injection h with h
        subst h
        exact t
theorem sim_t {tk nx : Int32 → Int32} {F : Int32 → Int32 → Except Int32 (Int32 × Int32 × List (Int32 × List (Int32 × Int32) × List (Int32 × Int32)))} {c : List Int32} (hc : top9 c) (hF : ∀ (p n : Int32) (st : List Int32), ¬ n < 0 → dpc st = dpc c → SM tk nx n (F p n) (fun q i r => Rn tk nx false q i st r) (Rn tk nx true p n st)) : ∀ (m : Nat) (b : Bool) (p n : Int32), ¬ n < 0 → (60 - n.toInt).toNat < m → SM tk nx n (slp tk nx (slp tk nx F 318 (-2) 61 false) 317 (-3) m b p n) (fun q i r => (¬ tk q = 318) → (¬ tk q = 317) → Rn tk nx false q i c r) (fun r => Rn tk nx true p n (if b then 13 :: c else c) r) ∧ (∀ w, slp tk nx (slp tk nx F 318 (-2) 61 false) 317 (-3) m b p n = .ok w → (¬ tk w.1 = 318) ∧ ¬ tk w.1 = 317) := by
  intro m
  induction m with
  | zero => intro b p n n0 hm; exact absurd hm (Nat.not_lt_zero _)
  | succ m ih =>
    intro b p n n0 hm
    have n1 := i_nn n0
    obtain ⟨hf, hx⟩ := sim_p (c := if b then 13 :: c else c) (by cases b with
      | false => exact Or.inl hc
      | true => exact Or.inr ⟨c, rfl⟩) (fun p n st k0 hd => hF p n st k0 (by rw [hd]; cases b with
      | false => rfl
      | true => exact dpc_13)) 61 false p n n0 (by omega)
    rw [slp_s]
    generalize slp tk nx F 318 (-2) 61 false p n = X at hf hx ⊢
    cases X with
    | error e => exact ⟨hf, fun w h => by cases h⟩
    | ok w =>
      obtain ⟨g1, g2, g3⟩ := hf
      have t8 := hx w rfl
      show SM tk nx n (if tk w.1 = 317 then _ else _) _ _ ∧ ∀ v, (if tk w.1 = 317 then _ else _) = Except.ok v → _
      have hpop : ∀ r, Rn tk nx false w.1 w.2.1 c r → Rn tk nx false w.1 w.2.1 (if b then 13 :: c else c) r := by
        intro r hr
        cases b with
        | false => exact hr
        | true => exact Rn_pop (by decide) (fun _ => t8) hr
      by_cases t : tk w.1 = 317
      · rw [if_pos t]
        obtain ⟨i1, i2⟩ := ih true (nx w.1) w.2.1 (by grind) (n60 g1 g2 hm)
        generalize slp tk nx (slp tk nx F 318 (-2) 61 false) 317 (-3) m true (nx w.1) w.2.1 = Y at i1 i2 ⊢
        cases Y with
        | error e => exact ⟨g3 _ (fun _ => hpop _ (Rn_or hc t i1)), fun v h => by cases h⟩
        | ok v =>
          obtain ⟨j1, j2, j3⟩ := i1
          refine ⟨⟨by show n < v.2.1; grind, j2, fun r hr => g3 _ (fun _ => hpop _ (Rn_or hc t (j3 r hr)))⟩, fun u h => ?_⟩
          injection h with h
          subst h
          exact i2 v rfl
      · rw [if_neg t]
        refine ⟨⟨g1, g2, fun r hr => g3 _ (fun _ => hpop _ (hr t8 t))⟩, fun u h => ?_⟩
        injection h with h
        subst h
        exact ⟨t8, t⟩
theorem sim_f {tk nx : Int32 → Int32} : ∀ (d : Nat) (p n : Int32) (st : List Int32), dpc st + d = 10 → ¬ n < 0 → SM tk nx n (sF tk nx d p n) (fun q i r => Rn tk nx false q i st r) (Rn tk nx true p n st) := by
  intro d
  induction d with
  | zero =>
    intro p n st hd n0
    show SM tk nx n (sfc0 tk nx p n) _ _
    unfold sfc0
    by_cases a : tk p = 319
    · rw [if_pos a]
      exact Rn_deep (Or.inl a) hd
    · rw [if_neg a]
      by_cases b : tk p = 91
      · rw [if_pos b]
        exact Rn_deep (Or.inr b) hd
      · rw [if_neg b]
        exact sim_c a b
  | succ d ih =>
    intro p n st hd n0
    show SM tk nx n (sfc tk nx (slp tk nx (slp tk nx (sF tk nx d) 318 (-2) 61 false) 317 (-3) 61 false) (sF tk nx d) p n) _ _
    unfold sfc
    by_cases a : tk p = 319
    · rw [if_pos a]
      have z := ih (nx p) n (11 :: st) (by show (1 + dpc st) + d = 10; omega) n0
      generalize sF tk nx d (nx p) n = X at z ⊢
      cases X with
      | error e => exact Rn_319 a (by omega) z
      | ok w =>
        obtain ⟨g1, g2, g3⟩ := z
        exact ⟨g1, g2, fun r hr => Rn_319 a (by omega) (g3 r (Rn_pop (by decide) (fun q => absurd q (by decide)) hr))⟩
    · rw [if_neg a]
      by_cases b : tk p = 91
      · rw [if_pos b]
        have n1 := i_nn n0
        obtain ⟨z, zx⟩ := sim_t (tk := tk) (nx := nx) (F := sF tk nx d) (c := 91 :: st) rfl (fun p n s k0 hs => ih p n s (by rw [hs]; show (1 + dpc st) + d = 10; omega) k0) 61 false (nx p) n n0 (by omega)
        generalize slp tk nx (slp tk nx (sF tk nx d) 318 (-2) 61 false) 317 (-3) 61 false (nx p) n = X at z zx ⊢
        cases X with
        | error e => exact Rn_91 b (by omega) z
        | ok w =>
          obtain ⟨g1, g2, g3⟩ := z
          obtain ⟨x1, x2⟩ := zx w rfl
          show SM tk nx n (if tk w.1 = 93 then _ else _) _ _
          by_cases t : tk w.1 = 93
          · rw [if_pos t]
            exact ⟨g1, g2, fun r hr => Rn_91 b (by omega) (g3 r (fun _ _ => Rn_93 t hr))⟩
          · rw [if_neg t]
            exact Rn_91 b (by omega) (g3 _ (fun _ _ => Rn_uns t x1 x2))
      · rw [if_neg b]
        exact sim_c a b
def STM (tk nx : Int32 → Int32) (p n : Int32) (r : Except Int32 (Int32 × Int32 × List (Int32 × List (Int32 × Int32) × List (Int32 × Int32)))) : Prop := match r with
  | .error e => Rn tk nx true p n [] (.error e)
  | .ok w => Rn tk nx true p n [] (.ok (w.1, w.2.1)) ∧ n < w.2.1 ∧ ¬ 60 < w.2.1
theorem sim_T {tk nx : Int32 → Int32} {p n : Int32} (n0 : ¬ n < 0) : STM tk nx p n (sT tk nx 10 p n) := by
  have n1 := i_nn n0
  obtain ⟨z, zx⟩ := sim_t (tk := tk) (nx := nx) (F := sF tk nx 10) (c := []) trivial (fun p n s k0 hs => sim_f 10 p n s (by rw [hs]; rfl) k0) 61 false p n n0 (by omega)
  have e : sT tk nx 10 p n = slp tk nx (slp tk nx (sF tk nx 10) 318 (-2) 61 false) 317 (-3) 61 false p n := by
    unfold sT sP
    rfl
  rw [e]
  generalize slp tk nx (slp tk nx (sF tk nx 10) 318 (-2) 61 false) 317 (-3) 61 false p n = X at z zx ⊢
  cases X with
  | error e => exact z
  | ok w =>
    obtain ⟨g1, g2, g3⟩ := z
    obtain ⟨x1, x2⟩ := zx w rfl
    exact ⟨g3 _ (fun _ _ => Rn_end x1 x2), g1, g2⟩
def stk (f : Nat → Int32) : List Int32 → Prop
  | [] => True
  | c :: s => f s.length = c ∧ stk f s
theorem stk_u {f : Nat → Int32} {v : Int32} : ∀ (st : List Int32) (k : Nat), st.length ≤ k → stk f st → stk (upd f k v) st := by
  intro st
  induction st with
  | nil => intro k _ _; trivial
  | cons c s ih =>
    intro k hk h
    simp only [List.length_cons] at hk
    exact ⟨(upd_ne (by omega)).trans h.1, ih k (by omega) h.2⟩
def SI (f : Nat → Int32) (st : List Int32) (deep o : Int32) : Prop := stk f st ∧ o.toInt = st.length ∧ deep.toInt = dpc st ∧ st.length ≤ 400
theorem dpc_le : ∀ st : List Int32, dpc st ≤ st.length := by
  intro st
  induction st with
  | nil => exact Nat.le_refl _
  | cons c s ih =>
    show (if c = 11 then 1 else if c = 91 then 1 else 0) + dpc s ≤ s.length + 1
    split
    · omega
    · split <;> omega
theorem SI_push {f : Nat → Int32} {st : List Int32} {deep o c d : Int32} (h : SI f st deep o) (hl : st.length < 400) (hd : d.toInt = dpc (c :: st)) : SI (upd f o.toNatClampNeg c) (c :: st) d (o + 1) := by
  obtain ⟨h1, h2, h3, h4⟩ := h
  have e : o.toNatClampNeg = st.length := by show o.toInt.toNat = _; omega
  rw [e]
  exact ⟨⟨pk_us, stk_u st _ (Nat.le_refl _) h1⟩, by rw [zadd1 (by omega), h2]; simp only [List.length_cons]; omega, hd, by simp only [List.length_cons]; omega⟩
def sdr (least : Int32) : List Int32 → List Int32
  | [] => []
  | c :: s => if stg c < least then c :: s else sdr least s
theorem sdr_len {least : Int32} : ∀ st : List Int32, (sdr least st).length ≤ st.length := by
  intro st
  induction st with
  | nil => exact Nat.le_refl _
  | cons c s ih =>
    show (if stg c < least then c :: s else sdr least s).length ≤ s.length + 1
    split
    · exact Nat.le_refl _
    · omega
theorem r_setL {text least : Int32} {f : Nat → Int32} (l1 : ¬ least < 1) {E : Int32 → Int32 → (Nat → Int32) → (Nat → Int32) → (Int32 × Int32 × (Nat → Int32) × (Nat → Int32))} : ∀ (st : List Int32) (N : Nat) (deep o : Int32) (sg lg : Nat → Int32), SI f st deep o → st.length < N → ∃ (d2 o2 : Int32) (sg2 lg2 : Nat → Int32), fl_mX11_settles_0 text f least E N deep o sg lg = E d2 o2 sg2 lg2 ∧ SI f (sdr least st) d2 o2 := by
  intro st
  induction st with
  | nil =>
    intro N deep o sg lg h hN
    cases N with
    | zero => exact absurd hN (Nat.not_lt_zero _)
    | succ N =>
      refine ⟨deep, o, sg, lg, ?_, h⟩
      show fb_mX11_settles_0 text f least E (fl_mX11_settles_0 text f least E N) deep o sg lg = _
      unfold fb_mX11_settles_0
      rw [if_pos]
      have h2 : o.toInt = 0 := h.2.1
      rw [Int32.le_iff_toInt_le, h2, z_i0]
      omega
  | cons c s ih =>
    intro N deep o sg lg h hN
    cases N with
    | zero => exact absurd hN (Nat.not_lt_zero _)
    | succ N =>
      obtain ⟨⟨h1, h1'⟩, h2, h3, h4⟩ := h
      simp only [List.length_cons] at h2 h4 hN
      have eo : (o - 1).toInt = s.length := by
        have e1 : (1 : Int32).toInt = 1 := by decide
        rw [zsub (by rw [e1]; omega) (by rw [e1]; omega), e1]
        omega
      have en : (o - 1).toNatClampNeg = s.length := by show (o - 1).toInt.toNat = _; omega
      show ∃ (d2 o2 : Int32) (sg2 lg2 : Nat → Int32), fb_mX11_settles_0 text f least E (fl_mX11_settles_0 text f least E N) deep o sg lg = E d2 o2 sg2 lg2 ∧ SI f (if stg c < least then c :: s else sdr least s) d2 o2
      unfold fb_mX11_settles_0
      simp only [bnd]
      rw [if_neg (show ¬ o ≤ 0 by rw [Int32.le_iff_toInt_le, z_i0]; omega), en, h1]
      by_cases g : stg c < least
      · rw [if_pos g, if_pos g]
        exact ⟨deep, o, sg, lg, rfl, ⟨h1, h1'⟩, by simp only [List.length_cons]; exact h2, h3, by simp only [List.length_cons]; exact h4⟩
      · rw [if_neg g, if_neg g]
        have hd := dpc_le s
        by_cases q : c = 11
        · rw [if_pos q]
          have hd3 : deep.toInt = 1 + dpc s := by rw [h3, q]; rfl
          have e1 : (1 : Int32).toInt = 1 := by decide
          exact ih N (deep - 1) (o - 1) _ _ ⟨h1', eo, by rw [zsub (by rw [e1]; omega) (by rw [e1]; omega), e1]; omega, by omega⟩ (by omega)
        · rw [if_neg q]
          have hd3 : deep.toInt = dpc s := by
            rw [h3]
            show (((if c = 11 then 1 else if c = 91 then 1 else 0) + dpc s : Nat) : Int) = _
            rw [if_neg q, if_neg (fun w => by rcases stg_ge g l1 with r | r | r <;> rw [r] at w <;> exact absurd w (by decide))]
            omega
          exact ih N deep (o - 1) _ _ ⟨h1', eo, hd3, by omega⟩ (by omega)
theorem r_set {text least deep o : Int32} {f sg lg : Nat → Int32} {st : List Int32} (l1 : ¬ least < 1) (h : SI f st deep o) : SI f (sdr least st) (fX11_settles text deep o sg lg f least).1 (fX11_settles text deep o sg lg f least).2.1 := by
  unfold fX11_settles
  obtain ⟨d2, o2, sg2, lg2, e, hs⟩ := r_setL (text := text) l1 (E := fun (w76_0_0 : Int32) (w76_1_0 : Int32) (w76_2_0 : Nat → Int32) (w76_3_0 : Nat → Int32) => (w76_0_0, w76_1_0, w76_2_0, w76_3_0)) st (o.toInt.toNat + 1) deep o sg lg h (by rw [h.2.1]; omega)
  rw [e]
  exact hs
def ins : List Int32 → Bool
  | [] => false
  | c :: s => decide (c = 91) || ins s
theorem ins_iff {f : Nat → Int32} : ∀ st : List Int32, stk f st → (ins st = true ↔ ∃ k : Nat, k < st.length ∧ f k = 91) := by
  intro st
  induction st with
  | nil =>
    intro _
    constructor
    · intro h; cases h
    · rintro ⟨k, hk, _⟩; exact absurd hk (Nat.not_lt_zero _)
  | cons c s ih =>
    intro h
    show (decide (c = 91) || ins s) = true ↔ ∃ k : Nat, k < s.length + 1 ∧ f k = 91
    rw [Bool.or_eq_true, decide_eq_true_eq, ih h.2]
    constructor
    · rintro (g | ⟨k, hk, g⟩)
      · exact ⟨s.length, by omega, h.1.trans g⟩
      · exact ⟨k, by omega, g⟩
    · rintro ⟨k, hk, g⟩
      by_cases q : k = s.length
      · left
        rw [q] at g
        exact h.1.symm.trans g
      · exact Or.inr ⟨k, by omega, g⟩
theorem r_inL {o : Int32} {f : Nat → Int32} : ∀ (N : Nat) (k : Int32), ¬ k < 0 → ¬ o < k → (∀ i : Nat, (i : Int) < k.toInt → ¬ f i = 91) → (o.toInt - k.toInt).toNat < N → (fl_mX11_isInside_2 o f (fun _ => 1) (fun _ => 0) N k = 1 ∧ ∃ i : Nat, (i : Int) < o.toInt ∧ f i = 91) ∨ (fl_mX11_isInside_2 o f (fun _ => 1) (fun _ => 0) N k = 0 ∧ ∀ i : Nat, (i : Int) < o.toInt → ¬ f i = 91) := by
  intro N
  induction N with
  | zero => intro k k0 ok h hn; exact absurd hn (Nat.not_lt_zero _)
  | succ N ih =>
    intro k k0 ok h hn
    show (fb_mX11_isInside_2 o f (fun _ => 1) (fun _ => 0) (fl_mX11_isInside_2 o f (fun _ => 1) (fun _ => 0) N) k = 1 ∧ _) ∨ (fb_mX11_isInside_2 o f (fun _ => 1) (fun _ => 0) (fl_mX11_isInside_2 o f (fun _ => 1) (fun _ => 0) N) k = 0 ∧ _)
    unfold fb_mX11_isInside_2
    simp only [bnd]
    by_cases b : o ≤ k
    · rw [if_pos b]
      right
      refine ⟨rfl, fun i hi => h i ?_⟩
      rw [Int32.le_iff_toInt_le] at b
      omega
    · rw [if_neg b]
      have hk := i_nn k0
      have hb := b
      rw [Int32.le_iff_toInt_le] at hb
      by_cases c : f k.toNatClampNeg = 91
      · rw [if_pos c]
        left
        exact ⟨rfl, k.toNatClampNeg, by show ((k.toInt.toNat : Nat) : Int) < _; omega, c⟩
      · rw [if_neg c]
        refine ih (k + 1) (a_nn b k0) (a_le b) (fun i hi => ?_) (n_sub b hn)
        have ho := z32 o
        rw [zadd1 (by omega)] at hi
        by_cases q : (i : Int) = k.toInt
        · have : i = k.toNatClampNeg := by show i = k.toInt.toNat; omega
          rw [this]
          exact c
        · exact h i (by omega)
theorem r_ins {f : Nat → Int32} {st : List Int32} {deep o : Int32} (h : SI f st deep o) : fX11_isInside o f = if ins st = true then 1 else 0 := by
  unfold fX11_isInside
  have hi := ins_iff st h.1
  rcases r_inL (o := o) (f := f) (((o : Int32).toInt - (0 : Int32).toInt).toNat + 1) 0 (by decide) (by rw [Int32.lt_iff_toInt_lt, h.2.1, z_i0]; omega) (fun i q => by rw [z_i0] at q; omega) (Nat.lt_succ_self _) with ⟨e, k, hk, g⟩ | ⟨e, g⟩
  · rw [if_pos (hi.mpr ⟨k, by rw [h.2.1] at hk; omega, g⟩)]
    exact e
  · rw [if_neg (fun q => by
      obtain ⟨k, hk, w⟩ := hi.mp q
      exact g k (by rw [h.2.1]; omega) w)]
    exact e
theorem Rn_sdr {tk nx : Int32 → Int32} {p n least : Int32} {r : Except Int32 (Int32 × Int32)} (l1 : ¬ least < 1) (hl : ¬ least < 2 ∨ ¬ tk p = 318) : ∀ st : List Int32, Rn tk nx false p n (sdr least st) r → Rn tk nx false p n st r := by
  intro st
  induction st with
  | nil => intro h; exact h
  | cons c s ih =>
    intro h
    have h2 : Rn tk nx false p n (if stg c < least then c :: s else sdr least s) r := h
    by_cases g : stg c < least
    · rw [if_pos g] at h2
      exact h2
    · rw [if_neg g] at h2
      have hc := stg_ge g l1
      refine Rn_pop (fun w => by rcases hc with q | q | q <;> rw [q] at w <;> exact absurd w (by decide)) (fun w => ?_) (ih h2)
      rcases hl with hl | hl
      · rw [w] at g
        exact absurd (show stg 13 < least by
          have : stg 13 = 1 := by decide
          rw [this]
          grind) g
      · exact hl
theorem sdr1_in : ∀ st : List Int32, (∀ c ∈ st, c = 11 ∨ c = 12 ∨ c = 13 ∨ c = 91) → ins st = true → ∃ s, sdr 1 st = 91 :: s ∧ (∀ c ∈ s, c = 11 ∨ c = 12 ∨ c = 13 ∨ c = 91) := by
  intro st
  induction st with
  | nil => intro _ h; cases h
  | cons c s ih =>
    intro hm h
    show ∃ t, (if stg c < 1 then c :: s else sdr 1 s) = 91 :: t ∧ _
    rcases hm c List.mem_cons_self with q | q | q | q
    · rw [if_neg (by rw [q]; decide)]
      exact ih (fun d hd => hm d (List.mem_cons_of_mem _ hd)) (by simpa only [ins, q, show ((11 : Int32) = 91) = False from by decide, decide_false, Bool.false_or] using h)
    · rw [if_neg (by rw [q]; decide)]
      exact ih (fun d hd => hm d (List.mem_cons_of_mem _ hd)) (by simpa only [ins, q, show ((12 : Int32) = 91) = False from by decide, decide_false, Bool.false_or] using h)
    · rw [if_neg (by rw [q]; decide)]
      exact ih (fun d hd => hm d (List.mem_cons_of_mem _ hd)) (by simpa only [ins, q, show ((13 : Int32) = 91) = False from by decide, decide_false, Bool.false_or] using h)
    · rw [if_pos (by rw [q]; decide), q]
      exact ⟨s, rfl, fun d hd => hm d (List.mem_cons_of_mem _ hd)⟩
theorem sdr_mem {least : Int32} : ∀ (st : List Int32) (c : Int32), c ∈ sdr least st → c ∈ st := by
  intro st
  induction st with
  | nil => intro c h; exact h
  | cons d s ih =>
    intro c h
    have h2 : c ∈ (if stg d < least then d :: s else sdr least s) := h
    by_cases g : stg d < least
    · rw [if_pos g] at h2
      exact h2
    · rw [if_neg g] at h2
      exact List.mem_cons_of_mem _ (ih c h2)
def OK4 (st : List Int32) : Prop := ∀ c ∈ st, c = 11 ∨ c = 12 ∨ c = 13 ∨ c = 91
theorem OK4_sdr {least : Int32} {st : List Int32} (h : OK4 st) : OK4 (sdr least st) := fun c hc => h c (sdr_mem st c hc)
theorem OK4_cons {c : Int32} {st : List Int32} (hc : c = 11 ∨ c = 12 ∨ c = 13 ∨ c = 91) (h : OK4 st) : OK4 (c :: st) := fun d hd => by
  rcases List.mem_cons.mp hd with q | q
  · rw [q]; exact hc
  · exact h d q
theorem OK4_tl {c : Int32} {st : List Int32} (h : OK4 (c :: st)) : OK4 st := fun d hd => h d (List.mem_cons_of_mem _ hd)
theorem sdr1_top {st : List Int32} (h : OK4 st) : top9 (sdr 1 st) := by
  induction st with
  | nil => trivial
  | cons c s ih =>
    show top9 (if stg c < 1 then c :: s else sdr 1 s)
    rcases h c List.mem_cons_self with q | q | q | q
    · rw [if_neg (by rw [q]; decide)]; exact ih (OK4_tl h)
    · rw [if_neg (by rw [q]; decide)]; exact ih (OK4_tl h)
    · rw [if_neg (by rw [q]; decide)]; exact ih (OK4_tl h)
    · rw [if_pos (by rw [q]; decide)]; exact q
theorem sdr2_top {st : List Int32} (h : OK4 st) : top9 (sdr 2 st) ∨ ∃ s2, sdr 2 st = 13 :: s2 := by
  induction st with
  | nil => exact Or.inl trivial
  | cons c s ih =>
    show top9 (if stg c < 2 then c :: s else sdr 2 s) ∨ ∃ s2, (if stg c < 2 then c :: s else sdr 2 s) = 13 :: s2
    rcases h c List.mem_cons_self with q | q | q | q
    · rw [if_neg (by rw [q]; decide)]; exact ih (OK4_tl h)
    · rw [if_neg (by rw [q]; decide)]; exact ih (OK4_tl h)
    · rw [if_pos (by rw [q]; decide)]; exact Or.inr ⟨s, by rw [q]⟩
    · rw [if_pos (by rw [q]; decide)]; exact Or.inl q
theorem sdr_ins {least : Int32} (l1 : ¬ least < 1) : ∀ st : List Int32, ins (sdr least st) = ins st := by
  intro st
  induction st with
  | nil => rfl
  | cons c s ih =>
    show ins (if stg c < least then c :: s else sdr least s) = (decide (c = 91) || ins s)
    by_cases g : stg c < least
    · rw [if_pos g]; rfl
    · rw [if_neg g, ih]
      have hc := stg_ge g l1
      rw [show decide (c = 91) = false from by rcases hc with q | q | q <;> rw [q] <;> decide]
      rfl
def CLR (x : Nat → Int32) (T a q md : Int32) (f : Nat → Int32) (st : List Int32) (u : Int32 × Int32 × Int32 × (Nat → Int32) × (Nat → Int32)) : Prop := ∃ (q2 : Int32) (s2 : List Int32), AT x T u.1 q2 ∧ (¬ u.1 < a) ∧ SI f s2 u.2.1 u.2.2.1 ∧ OK4 s2 ∧ s2.length ≤ st.length ∧ (tk x T q2 = 93 → ¬ ins s2 = true) ∧ ∀ r, Rn (tk x T) (nx x T) false q2 md s2 r → Rn (tk x T) (nx x T) false q md st r
theorem r_cloL {x tF : Nat → Int32} {T text md : Int32} {f : Nat → Int32} (H : LXH x tF T) : ∀ (N : Nat) (a q deep o : Int32) (sg lg : Nat → Int32) (st : List Int32), AT x T a q → SI f st deep o → OK4 st → (T.toInt - a.toInt).toNat < N → CLR x T a q md f st (fl_mX11_closes_5 T text tF f (fun (w64_0_0 : Int32) (w64_1_0 : Int32) (w64_2_0 : Int32) (w64_3_0 : Nat → Int32) (w64_4_0 : Nat → Int32) => (w64_0_0, w64_1_0, w64_2_0, w64_3_0, w64_4_0)) N a deep o sg lg) := by
  intro N
  induction N with
  | zero => intro a q deep o sg lg st _ _ _ hn; exact absurd hn (Nat.not_lt_zero _)
  | succ N ih =>
    intro a q deep o sg lg st h hs ho hn
    obtain ⟨q1, q2, q3, hq⟩ := AT_in h
    show CLR x T a q md f st (fb_mX11_closes_5 T text tF f _ (fl_mX11_closes_5 T text tF f _ N) a deep o sg lg)
    unfold fb_mX11_closes_5
    simp only [bnd, AT_see H h, r_ins hs]
    obtain ⟨k1, k2⟩ := cA_tk (c := 93) H hq ⟨by decide, by decide, by decide, by decide, by decide, by decide⟩
    by_cases c : tk x T q = 93
    · obtain ⟨b1, b2, b3, b4⟩ := k2 c
      rw [if_pos (k1.mpr c)]
      by_cases g : ins st = true
      · rw [if_pos g, if_neg (by decide)]
        obtain ⟨s, e1, ho2⟩ := sdr1_in st ho g
        have hs1 := r_set (text := text) (sg := sg) (lg := lg) (least := 1) (by decide) hs
        generalize fX11_settles text deep o sg lg f 1 = v at hs1 ⊢
        rw [e1] at hs1
        have hs2 : SI f s (v.1 - 1) (v.2.1 - 1) := by
          obtain ⟨⟨_, w1⟩, w2, w3, w4⟩ := hs1
          simp only [List.length_cons] at w2 w4
          have w3' : v.1.toInt = 1 + dpc s := by rw [w3]; rfl
          have e1 : (1 : Int32).toInt = 1 := by decide
          have hd := dpc_le s
          exact ⟨w1, by rw [zsub (by rw [e1]; omega) (by rw [e1]; omega), e1]; omega, by rw [zsub (by rw [e1]; omega) (by rw [e1]; omega), e1]; omega, by omega⟩
        have hs3 := r_set (text := text) (sg := v.2.2.1) (lg := v.2.2.2) (least := 3) (by decide) hs2
        generalize fX11_settles text (v.1 - 1) (v.2.1 - 1) v.2.2.1 v.2.2.2 f 3 = w at hs3 ⊢
        have hlt : a < q + 1 := i_tr4 q1 b2
        obtain ⟨q5, s5, z1, z2, z3, z4, z5, z6, z7⟩ := ih (q + 1) (nx x T q) w.1 w.2.1 w.2.2.1 w.2.2.2 (sdr 3 s) b3 hs3 (OK4_sdr ho2) (f_dn hlt b3.2.1 hn)
        refine ⟨q5, s5, z1, i_tr (i_as hlt) z2, z3, z4, ?_, z6, fun r hr => Rn_sdr (least := 1) (by decide) (Or.inr (by rw [c]; decide)) st ?_⟩
        · have l1 := sdr_len (least := 3) s
          have l2 := sdr_len (least := 1) st
          rw [e1] at l2
          simp only [List.length_cons] at l2
          omega
        · rw [e1]
          exact Rn_93 c (Rn_sdr (least := 3) (by decide) (Or.inl (by decide)) s (z7 r hr))
      · rw [if_neg g, if_pos rfl]
        exact ⟨q, st, hq, q1, hs, ho, Nat.le_refl _, fun _ => g, fun r hr => hr⟩
    · rw [if_neg (fun g => c (k1.mp g))]
      exact ⟨q, st, hq, q1, hs, ho, Nat.le_refl _, fun g => absurd g c, fun r hr => hr⟩
theorem r_clo {x tF : Nat → Int32} {T a q text md deep o : Int32} {f sg lg : Nat → Int32} {st : List Int32} (H : LXH x tF T) (h : AT x T a q) (hs : SI f st deep o) (ho : OK4 st) : CLR x T a q md f st (fX11_closes T a text deep o tF sg lg f) := by
  unfold fX11_closes
  simp only [bnd]
  have hs3 := r_set (text := text) (sg := sg) (lg := lg) (least := 3) (by decide) hs
  generalize fX11_settles text deep o sg lg f 3 = w at hs3 ⊢
  obtain ⟨q5, s5, z1, z2, z3, z4, z5, z6, z7⟩ := r_cloL (text := text) (md := md) H _ a q w.1 w.2.1 w.2.2.1 w.2.2.2 (sdr 3 st) h hs3 (OK4_sdr ho) (Nat.lt_succ_self _)
  refine ⟨q5, s5, z1, z2, z3, z4, ?_, z6, fun r hr => Rn_sdr (least := 3) (by decide) (Or.inl (by decide)) st (z7 r hr)⟩
  have l1 := sdr_len (least := 3) st
  omega
def FRr (x : Nat → Int32) (T a p md : Int32) (st : List Int32) (u : (Int32 × Int32 × Int32 × Int32 × Int32 × Int32 × (Nat → Int32) × (Nat → Int32) × (Nat → Int32) × Int32)) : Prop := (∃ e : Int32, Rn (tk x T) (nx x T) true p md st (.error e) ∧ u.2.1 = e ∧ u.2.2.2.2.2.2.2.2.2 = 0) ∨ (∃ (q : Int32) (s2 : List Int32), AT x T u.1 q ∧ a < u.1 ∧ u.2.1 = 0 ∧ (¬ u.2.2.2.1 < 0) ∧ (¬ 60 < u.2.2.2.1) ∧ SI u.2.2.2.2.2.2.2.2.1 s2 u.2.2.2.2.1 u.2.2.2.2.2.1 ∧ OK4 s2 ∧ ((s2.length : Int) ≤ (u.1).toInt) ∧ u.2.2.2.2.2.2.2.2.2 = 1 ∧ ∀ r, Rn (tk x T) (nx x T) false q u.2.2.2.1 s2 r → Rn (tk x T) (nx x T) true p md st r)
theorem r_opn {x : Nat → Int32} {T p deep o c : Int32} {f : Nat → Int32} {st : List Int32} (hs : SI f st deep o) (hc : c = 11 ∨ c = 91) (hl : st.length < 400) : (deep = 10 ∧ dpc st = 10 ∧ fX11_opens p 0 deep o f c = (flt p 2, deep, o, f, 0)) ∨ ((¬ dpc st = 10) ∧ fX11_opens p 0 deep o f c = (0, deep + 1, o + 1, upd f o.toNatClampNeg c, 1) ∧ SI (upd f o.toNatClampNeg c) (c :: st) (deep + 1) (o + 1)) := by
  unfold fX11_opens
  simp only [bnd, fails0]
  have e10 : (10 : Int32).toInt = 10 := by decide
  have h3 := hs.2.2.1
  have hd := dpc_le st
  by_cases g : deep = 10
  · left
    rw [if_pos g]
    refine ⟨g, ?_, rfl⟩
    rw [g, e10] at h3
    omega
  · right
    rw [if_neg g]
    refine ⟨fun q => g (Int32.toInt_inj.mp (by rw [h3, q, e10]; rfl)), rfl, SI_push hs hl ?_⟩
    rw [zadd1 (by omega), h3]
    show (dpc st : Int) + 1 = (((if c = 11 then 1 else if c = 91 then 1 else 0) + dpc st : Nat) : Int)
    rcases hc with q | q
    · rw [if_pos q]; omega
    · rw [if_neg (by rw [q]; decide), if_pos q]; omega
theorem mb_1 : mb 1 = 1 := by decide
theorem mb_0 : mb 0 = 0 := by decide
theorem r_factL {x tF : Nat → Int32} {T text num md : Int32} {sg lg : Nat → Int32} (H : LXH x tF T) (m0 : ¬ md < 0) (m6 : ¬ 60 < md) {E32 E58 : Int32 → Int32 → Int32 → Int32 → (Nat → Int32) → Int32 → Int32 → (Int32 × Int32 × Int32 × Int32 × Int32 × Int32 × (Nat → Int32) × (Nat → Int32) × (Nat → Int32) × Int32)} {E75 : Int32 → Int32 → Int32 → Int32 → (Nat → Int32) → Int32 → (Int32 × Int32 × Int32 × Int32 × Int32 × Int32 × (Nat → Int32) × (Nat → Int32) × (Nat → Int32) × Int32)} (h32 : ∀ a1 a2 a3 a4 a5 a6 a7, (E32 a1 a2 a3 a4 a5 a6 a7).2.1 = a2 ∧ (E32 a1 a2 a3 a4 a5 a6 a7).2.2.2.2.2.2.2.2.2 = 0) (h58 : ∀ a1 a2 a3 a4 a5 a6 a7, (E58 a1 a2 a3 a4 a5 a6 a7).2.1 = a2 ∧ (E58 a1 a2 a3 a4 a5 a6 a7).2.2.2.2.2.2.2.2.2 = 0) (h75 : ∀ a1 a3 a4 a5 a6, E75 a1 0 a3 a4 a5 a6 = ((fX11_compare T a1 0 num text md tF sg lg).1, (fX11_compare T a1 0 num text md tF sg lg).2.1, (fX11_compare T a1 0 num text md tF sg lg).2.2.1, (fX11_compare T a1 0 num text md tF sg lg).2.2.2.1, a3, a4, (fX11_compare T a1 0 num text md tF sg lg).2.2.2.2.1, (fX11_compare T a1 0 num text md tF sg lg).2.2.2.2.2.1, a5, (fX11_compare T a1 0 num text md tF sg lg).2.2.2.2.2.2)) : ∀ (N : Nat) (a p deep o : Int32) (f : Nat → Int32) (st : List Int32), AT x T a p → SI f st deep o → OK4 st → (st.length : Int) ≤ a.toInt → 2 * (T.toInt - a.toInt).toNat + 1 < N → FRr x T a p md st (fl_mX11_fact_2 T tF E32 E58 E75 N a 0 deep o f 1) := by
  intro N
  induction N with
  | zero => intro a p deep o f st _ _ _ _ hn; exact absurd hn (Nat.not_lt_zero _)
  | succ N ih =>
    intro a p deep o f st h hs ho hla hn
    obtain ⟨q1, q2, q3, hp⟩ := AT_in h
    have T4 := H.2.1
    have e4 : (400 : Int32).toInt = 400 := by decide
    have hpa : a.toInt ≤ p.toInt := by rw [Int32.lt_iff_toInt_lt] at q1; omega
    show FRr x T a p md st (fb_mX11_fact_2 T tF E32 E58 E75 (fl_mX11_fact_2 T tF E32 E58 E75 N) a 0 deep o f 1)
    unfold fb_mX11_fact_2
    simp only [bnd, AT_see H h, AT_w19 H hp, lx_pass H q3]
    rw [if_neg (by decide)]
    obtain ⟨k1, k2⟩ := cA_tk (c := 91) H hp ⟨by decide, by decide, by decide, by decide, by decide, by decide⟩
    by_cases t : tk x T p = 319
    · rw [if_pos t, if_neg (by decide)]
      have hpT : ¬ T ≤ p := fun g => by rw [tk_T g] at t; exact absurd t (by decide)
      have hle : ¬ fX2_isLetter (x p.toNatClampNeg) = 0 := by
        rcases tk_kinds H q3 hp.2.2 hpT with g | g | g
        · exact g.1
        · grind
        · grind
      obtain ⟨s1, s2⟩ := st_l hp hpT hle
      have hlen : st.length < 400 := by
        rw [Int32.le_iff_toInt_le] at hpT
        rw [Int32.lt_iff_toInt_lt] at T4
        omega
      rcases r_opn (x := x) (T := T) (p := p) hs (Or.inl rfl) hlen with ⟨_, d1, d2⟩ | ⟨d1, d2, d3⟩
      · rw [d2, if_pos rfl]
        exact Or.inl ⟨flt p 2, Rn_deep (Or.inl t) d1, (h32 _ _ _ _ _ _ _).1, (h32 _ _ _ _ _ _ _).2⟩
      · rw [d2]
        dsimp only
        rw [if_neg (by decide)]
        have hlt : a < we x T p := i_tr4 q1 s1
        have hN : 2 * (T.toInt - (we x T p).toInt).toNat + 1 < N := by
          have := s2.2.1
          rw [Int32.lt_iff_toInt_lt] at hlt this
          omega
        rcases ih (we x T p) (nx x T p) (deep + 1) (o + 1) (upd f o.toNatClampNeg 11) (11 :: st) s2 d3 (OK4_cons (Or.inl rfl) ho) (by
          rw [Int32.lt_iff_toInt_lt] at s1
          simp only [List.length_cons]
          omega) hN with ⟨e, z1, z2⟩ | ⟨q, s5, z1, z2, z3, z4, z5, z6, z7, z8, z9, z10⟩
        · exact Or.inl ⟨e, Rn_319 t d1 z1, z2⟩
        · exact Or.inr ⟨q, s5, z1, i_trans3 hlt (i_as z2), z3, z4, z5, z6, z7, z8, z9, fun r hr => Rn_319 t d1 (z10 r hr)⟩
    · rw [if_neg t, if_pos rfl]
      by_cases t9 : tk x T p = 91
      · obtain ⟨b1, b2, b3, b4⟩ := k2 t9
        rw [if_pos (k1.mpr t9)]
        have hlen : st.length < 400 := by
          rw [Int32.le_iff_toInt_le] at b1
          rw [Int32.lt_iff_toInt_lt] at T4
          omega
        rcases r_opn (x := x) (T := T) (p := p) hs (Or.inr rfl) hlen with ⟨_, d1, d2⟩ | ⟨d1, d2, d3⟩
        · rw [d2, if_pos rfl]
          exact Or.inl ⟨flt p 2, Rn_deep (Or.inr t9) d1, (h58 _ _ _ _ _ _ _).1, (h58 _ _ _ _ _ _ _).2⟩
        · rw [d2]
          dsimp only
          rw [if_neg (by decide)]
          have hlt : a < p + 1 := i_tr4 q1 b2
          have hN : 2 * (T.toInt - (p + 1).toInt).toNat + 1 < N := by
            have := b3.2.1
            rw [Int32.lt_iff_toInt_lt] at hlt this
            omega
          rcases ih (p + 1) (nx x T p) (deep + 1) (o + 1) (upd f o.toNatClampNeg 91) (91 :: st) b3 d3 (OK4_cons (Or.inr (Or.inr (Or.inr rfl))) ho) (by
            rw [Int32.lt_iff_toInt_lt] at b2
            simp only [List.length_cons]
            omega) hN with ⟨e, z1, z2⟩ | ⟨q, s5, z1, z2, z3, z4, z5, z6, z7, z8, z9, z10⟩
          · exact Or.inl ⟨e, Rn_91 t9 d1 z1, z2⟩
          · exact Or.inr ⟨q, s5, z1, i_trans3 hlt (i_as z2), z3, z4, z5, z6, z7, z8, z9, fun r hr => Rn_91 t9 d1 (z10 r hr)⟩
      · rw [if_neg (fun g => t9 (k1.mp g))]
        cases N with
        | zero => exact absurd hn (by omega)
        | succ N =>
          show FRr x T a p md st (fb_mX11_fact_2 T tF E32 E58 E75 (fl_mX11_fact_2 T tF E32 E58 E75 N) p 0 deep o f 0)
          unfold fb_mX11_fact_2
          rw [if_pos rfl, h75]
          have hv := r_cmp (num := num) (text := text) (sg := sg) (lg := lg) H hp m0 m6
          generalize fX11_compare T p 0 num text md tF sg lg = u at hv ⊢
          rcases hv with ⟨e, z1, z2, z3⟩ | ⟨q, z1, z2, z3, z4, z5, z6, z7⟩
          · exact Or.inl ⟨e, Rn_cme t t9 z1, z2, z3⟩
          · have e1 : (p + 1).toInt = p.toInt + 1 := zadd1 (by rw [Int32.lt_iff_toInt_lt] at *; omega)
            have hau : a < u.1 := by rw [Int32.lt_iff_toInt_lt] at *; omega
            refine Or.inr ⟨q, st, z2, hau, z4, z5, z6, hs, ho, ?_, z7, fun r hr => Rn_cmp t t9 z1 hr⟩
            rw [Int32.lt_iff_toInt_lt] at hau
            show (st.length : Int) ≤ u.1.toInt
            omega
theorem r_fact {x tF : Nat → Int32} {T a p text num md deep o : Int32} {sg lg f : Nat → Int32} {st : List Int32} (H : LXH x tF T) (h : AT x T a p) (m0 : ¬ md < 0) (m6 : ¬ 60 < md) (hs : SI f st deep o) (ho : OK4 st) (hl : (st.length : Int) ≤ a.toInt) : FRr x T a p md st (fX11_fact T a 0 num text md deep o tF sg lg f) := by
  unfold fX11_fact
  exact r_factL H m0 m6 (fun _ _ _ _ _ _ _ => ⟨rfl, rfl⟩) (fun _ _ _ _ _ _ _ => ⟨rfl, rfl⟩) (fun _ _ _ _ _ => rfl) _ a p deep o f st h hs ho hl (by rw [mb_1]; omega)
def TR (x : Nat → Int32) (T a p md : Int32) (st : List Int32) (u : (Int32 × Int32 × Int32 × Int32 × Int32 × Int32 × (Nat → Int32) × (Nat → Int32) × (Nat → Int32) × Int32)) : Prop := (∃ e : Int32, Rn (tk x T) (nx x T) true p md st (.error e) ∧ u.2.1 = e ∧ u.2.2.2.2.2.2.2.2.2 = 0) ∨ (∃ q : Int32, Rn (tk x T) (nx x T) true p md st (.ok (q, u.2.2.2.1)) ∧ AT x T u.1 q ∧ a < u.1 ∧ u.2.1 = 0 ∧ (¬ u.2.2.2.1 < 0) ∧ (¬ 60 < u.2.2.2.1) ∧ u.2.2.2.2.2.2.2.2.2 = 1)
theorem r_tesL {x tF : Nat → Int32} {T text : Int32} (H : LXH x tF T) {E23 E112 : Int32 → Int32 → Int32 → Int32 → Int32 → Int32 → (Nat → Int32) → (Nat → Int32) → (Nat → Int32) → Int32 → (Int32 × Int32 × Int32 × Int32 × Int32 × Int32 × (Nat → Int32) × (Nat → Int32) × (Nat → Int32) × Int32)} (h23 : ∀ a1 a2 a3 a4 a5 a6 a7 a8 a9 a10, (E23 a1 a2 a3 a4 a5 a6 a7 a8 a9 a10).2.1 = a2 ∧ (E23 a1 a2 a3 a4 a5 a6 a7 a8 a9 a10).2.2.2.2.2.2.2.2.2 = 0) (h112 : ∀ a1 a2 a3 a4 a5 a6 a7 a8 a9 a10, E112 a1 a2 a3 a4 a5 a6 a7 a8 a9 a10 = if fX11_isInside a6 a9 = 0 then (a1, a2, a3, a4, (fX11_settles text a5 a6 a7 a8 a9 1).1, (fX11_settles text a5 a6 a7 a8 a9 1).2.1, (fX11_settles text a5 a6 a7 a8 a9 1).2.2.1, (fX11_settles text a5 a6 a7 a8 a9 1).2.2.2, a9, 1) else ((fX11_see T a1 tF).1, fX11_fails a2 0 (fX11_see T a1 tF).1, a3, a4, a5, a6, a7, a8, a9, 0)) : ∀ (N : Nat) (a p num md deep o : Int32) (sg lg f : Nat → Int32) (st : List Int32), AT x T a p → ¬ md < 0 → ¬ 60 < md → SI f st deep o → OK4 st → (st.length : Int) ≤ a.toInt → 2 * (T.toInt - a.toInt).toNat + 1 < N → TR x T a p md st (fl_mX11_tested_12 T text tF E23 E112 N a 0 num md deep o sg lg f 1) := by
  intro N
  induction N with
  | zero => intro a p num md deep o sg lg f st _ _ _ _ _ _ hn; exact absurd hn (Nat.not_lt_zero _)
  | succ N ih =>
    intro a p num md deep o sg lg f st h m0 m6 hs ho hla hn
    have T4 := H.2.1
    have e4 : (400 : Int32).toInt = 400 := by decide
    show TR x T a p md st (fb_mX11_tested_12 T text tF E23 E112 (fl_mX11_tested_12 T text tF E23 E112 N) a 0 num md deep o sg lg f 1)
    unfold fb_mX11_tested_12
    rw [if_neg (by decide)]
    simp only [bnd]
    have hf := r_fact (num := num) (text := text) (sg := sg) (lg := lg) H h m0 m6 hs ho hla
    generalize fX11_fact T a 0 num text md deep o tF sg lg f = u at hf ⊢
    rcases hf with ⟨e, z1, z2, z3⟩ | ⟨q, s5, z1, z2, z3, z4, z5, z6, z7, z8, z9, z10⟩
    · rw [if_pos z3]
      exact Or.inl ⟨e, z1, (h23 _ _ _ _ _ _ _ _ _ _).1.trans z2, (h23 _ _ _ _ _ _ _ _ _ _).2⟩
    · rw [if_neg (show ¬ u.2.2.2.2.2.2.2.2.2 = 0 by rw [z9]; decide), z3]
      have hc := r_clo (text := text) (md := u.2.2.2.1) (sg := u.2.2.2.2.2.2.1) (lg := u.2.2.2.2.2.2.2.1) H z1 z6 z7
      generalize fX11_closes T u.1 text u.2.2.2.2.1 u.2.2.2.2.2.1 tF u.2.2.2.2.2.2.1 u.2.2.2.2.2.2.2.1 u.2.2.2.2.2.2.2.2.1 = v at hc ⊢
      obtain ⟨q2, s2, y1, y2, y3, y4, y5, y6, y7⟩ := hc
      obtain ⟨w1, w2, w3, hq⟩ := AT_in y1
      have hav : a < q2 := by rw [Int32.lt_iff_toInt_lt] at *; omega
      have hl2 : (s2.length : Int) ≤ q2.toInt := by rw [Int32.lt_iff_toInt_lt] at *; omega
      have hN : 2 * (T.toInt - q2.toInt).toNat + 2 < N + 1 := by rw [Int32.lt_iff_toInt_lt] at *; omega
      simp only [AT_w18 H y1, AT_w18 H hq, AT_w17 H hq, lx_pass H w3]
      have word : (tk x T q2 = 318 ∨ tk x T q2 = 317) → q2 < we x T q2 ∧ AT x T (we x T q2) (nx x T q2) ∧ ¬ T ≤ q2 := by
        intro hk
        have hpT : ¬ T ≤ q2 := fun g => by rw [tk_T g] at hk; exact absurd hk (by decide)
        have hle : ¬ fX2_isLetter (x q2.toNatClampNeg) = 0 := by
          rcases tk_kinds H w3 hq.2.2 hpT with g | g | g
          · exact g.1
          · grind
          · grind
        obtain ⟨s1, s3⟩ := st_l hq hpT hle
        exact ⟨s1, s3, hpT⟩
      have goon : ∀ (c least : Int32), (c = 12 ∨ c = 13) → (¬ least < 1) → (tk x T q2 = 318 ∨ tk x T q2 = 317) → (∀ r, Rn (tk x T) (nx x T) true (nx x T q2) u.2.2.2.1 (c :: sdr least s2) r → Rn (tk x T) (nx x T) false q2 u.2.2.2.1 s2 r) → TR x T a p md st (fl_mX11_tested_12 T text tF E23 E112 N (we x T q2) 0 u.2.2.1 u.2.2.2.1 (fX11_settles text v.2.1 v.2.2.1 v.2.2.2.1 v.2.2.2.2 u.2.2.2.2.2.2.2.2.1 least).1 ((fX11_settles text v.2.1 v.2.2.1 v.2.2.2.1 v.2.2.2.2 u.2.2.2.2.2.2.2.2.1 least).2.1 + 1) (fX11_settles text v.2.1 v.2.2.1 v.2.2.2.1 v.2.2.2.2 u.2.2.2.2.2.2.2.2.1 least).2.2.1 (fX11_settles text v.2.1 v.2.2.1 v.2.2.2.1 v.2.2.2.2 u.2.2.2.2.2.2.2.2.1 least).2.2.2 (upd u.2.2.2.2.2.2.2.2.1 (fX11_settles text v.2.1 v.2.2.1 v.2.2.2.1 v.2.2.2.2 u.2.2.2.2.2.2.2.2.1 least).2.1.toNatClampNeg c) 1) := by
        intro c least hc l1 hk hr
        obtain ⟨s1, s3, hpT⟩ := word hk
        have hs3 := r_set (text := text) (sg := v.2.2.2.1) (lg := v.2.2.2.2) (least := least) l1 y3
        generalize fX11_settles text v.2.1 v.2.2.1 v.2.2.2.1 v.2.2.2.2 u.2.2.2.2.2.2.2.2.1 least = g at hs3 ⊢
        have sl := sdr_len (least := least) s2
        have hlen : (sdr least s2).length < 400 := by
          rw [Int32.le_iff_toInt_le] at hpT
          rw [Int32.lt_iff_toInt_lt] at T4
          omega
        have hp2 : SI (upd u.2.2.2.2.2.2.2.2.1 g.2.1.toNatClampNeg c) (c :: sdr least s2) g.1 (g.2.1 + 1) := SI_push hs3 hlen (by
          rw [hs3.2.2.1]
          show (dpc (sdr least s2) : Int) = (((if c = 11 then 1 else if c = 91 then 1 else 0) + dpc (sdr least s2) : Nat) : Int)
          rcases hc with r | r
          · rw [if_neg (by rw [r]; decide), if_neg (by rw [r]; decide)]; omega
          · rw [if_neg (by rw [r]; decide), if_neg (by rw [r]; decide)]; omega)
        have hlt : a < we x T q2 := i_trans3 hav (i_as s1)
        rcases ih (we x T q2) (nx x T q2) u.2.2.1 u.2.2.2.1 g.1 (g.2.1 + 1) g.2.2.1 g.2.2.2 (upd u.2.2.2.2.2.2.2.2.1 g.2.1.toNatClampNeg c) (c :: sdr least s2) s3 z4 z5 hp2 (OK4_cons (by rcases hc with r | r; exact Or.inr (Or.inl r); exact Or.inr (Or.inr (Or.inl r))) (OK4_sdr y4)) (by
          rw [Int32.lt_iff_toInt_lt] at s1
          simp only [List.length_cons]
          omega) (by rw [Int32.lt_iff_toInt_lt] at s1; have := s3.2.1; rw [Int32.lt_iff_toInt_lt] at this; omega) with ⟨e, k1, k2⟩ | ⟨q', k1, k2, k3, k4⟩
        · exact Or.inl ⟨e, z10 _ (y7 _ (hr _ k1)), k2⟩
        · exact Or.inr ⟨q', z10 _ (y7 _ (hr _ k1)), k2, i_trans3 hlt (i_as k3), k4⟩
      by_cases t : tk x T q2 = 318
      · simp only [if_pos t, i10, if_false]
        exact goon 12 2 (Or.inl rfl) (by decide) (Or.inl t) (fun r hr => Rn_sdr (least := 2) (by decide) (Or.inl (by decide)) s2 (Rn_and (sdr2_top y4) t hr))
      · simp only [if_neg t, if_true]
        by_cases t7 : tk x T q2 = 317
        · simp only [if_pos t7, i10, if_false]
          exact goon 13 1 (Or.inr rfl) (by decide) (Or.inr t7) (fun r hr => Rn_sdr (least := 1) (by decide) (Or.inr t) s2 (Rn_or (sdr1_top y4) t7 hr))
        · simp only [if_neg t7, if_true]
          cases N with
          | zero => exact absurd hN (by omega)
          | succ N =>
            show TR x T a p md st (fb_mX11_tested_12 T text tF E23 E112 (fl_mX11_tested_12 T text tF E23 E112 N) q2 0 u.2.2.1 u.2.2.2.1 v.2.1 v.2.2.1 v.2.2.2.1 v.2.2.2.2 u.2.2.2.2.2.2.2.2.1 0)
            unfold fb_mX11_tested_12
            rw [if_pos rfl, h112, r_ins y3, AT_see H hq, fails0]
            by_cases g : ins s2 = true
            · simp only [if_pos g, i10, if_false]
              obtain ⟨s, e1, _⟩ := sdr1_in s2 y4 g
              refine Or.inl ⟨flt q2 0, z10 _ (y7 _ (Rn_sdr (least := 1) (by decide) (Or.inr t) s2 ?_)), rfl, rfl⟩
              rw [e1]
              exact Rn_uns (fun w => y6 w g) t t7
            · simp only [if_neg g, if_true]
              refine Or.inr ⟨q2, z10 _ (y7 _ (Rn_sdr (least := 1) (by decide) (Or.inr t) s2 ?_)), hq, hav, rfl, z4, z5, rfl⟩
              have e0 : sdr 1 s2 = [] := by
                have h1 := sdr1_top y4
                have h2 := sdr_ins (least := 1) (by decide) s2
                cases hz : sdr 1 s2 with
                | nil => rfl
                | cons c s =>
                  rw [hz] at h1 h2
                  exact absurd (h2.symm.trans (by show (decide (c = 91) || ins s) = true; rw [show c = 91 from h1]; rfl)) g
              rw [e0]
              exact Rn_end t t7
theorem r_tes {x tF : Nat → Int32} {T a p text num md : Int32} {sg lg f : Nat → Int32} (H : LXH x tF T) (h : AT x T a p) (m0 : ¬ md < 0) (m6 : ¬ 60 < md) : TR x T a p md [] (fX11_tested T a 0 num text md tF sg lg f) := by
  unfold fX11_tested
  have ha := i_nn h.1
  exact r_tesL H (fun _ _ _ _ _ _ _ _ _ _ => ⟨rfl, rfl⟩) (fun _ _ _ _ _ _ _ _ _ _ => rfl) _ a p num md 0 0 sg lg f [] h m0 m6 ⟨trivial, by decide, by decide, by decide⟩ (fun _ hc => absurd hc (List.not_mem_nil)) ha (by rw [mb_1]; omega)
def KR (x : Nat → Int32) (T a : Int32) (r : Except Int32 (Int32 × Int32 × Int32 × Int32 × Int32 × List (Int32 × Int32) × Option (List (Int32 × List (Int32 × Int32) × List (Int32 × Int32))))) (u : Int32 × Int32 × Int32 × Int32 × Int32 × Int32 × (Nat → Int32) × (Nat → Int32) × (Nat → Int32) × (Nat → Int32) × (Nat → Int32) × Int32) : Prop := match r with
  | .error e => u.2.1 = e ∧ u.2.2.2.2.2.2.2.2.2.2.2 = 0
  | .ok w => AT x T u.1 w.1 ∧ a < u.1 ∧ u.2.1 = 0 ∧ u.2.2.2.1 = w.2.1 ∧ (¬ w.2.1 < 0) ∧ (¬ 60 < w.2.1) ∧ u.2.2.2.2.2.2.2.2.2.2.2 = 1
set_option maxHeartbeats 4000000 in
theorem r_clof {x tF : Nat → Int32} {T p num text md deep opd s ch : Int32} {sg lg cl cs op : Nat → Int32} (H : LXH x tF T) (hp : AT x T p p) (hT : ¬ T ≤ p) (hl : ¬ fX2_isLetter (x p.toNatClampNeg) = 0) (m0 : ¬ md < 0) (m6 : ¬ 60 < md) (ss : Int32) : KR x T p (sbd (tk x T) (nx x T) s ch (nx x T p) md) (fX11_clauseOf T p 0 num text md deep opd tF sg lg cl cs op ss) := by
  obtain ⟨s1, s2⟩ := st_l hp hT hl
  unfold fX11_clauseOf
  simp only [bnd, lx_pass H hp.1]
  have hv := r_sum (num := num) (text := text) (sg := sg) (lg := lg) H s2 m0 m6
  have hlt : p < nx x T p + 1 := by
    obtain ⟨w1, w2, w3, w4⟩ := AT_in s2
    have T4 := H.2.1
    have e4 : (400 : Int32).toInt = 400 := by decide
    have e1 : (nx x T p + 1).toInt = (nx x T p).toInt + 1 := zadd1 (by rw [Int32.lt_iff_toInt_lt] at *; omega)
    rw [Int32.lt_iff_toInt_lt] at *
    omega
  generalize fX11_sum T (we x T p) 0 num text md tF sg lg = u at hv ⊢
  unfold sbd
  rw [← er_ss 61 (nx x T p) md 0] at hv
  generalize ssum (tk x T) (nx x T) 61 (nx x T p) md 0 = X at hv ⊢
  cases X with
  | error e =>
    rcases hv with ⟨e2, z1, z2, z3⟩ | ⟨q, z1, _⟩
    · injection z1 with z1
      rw [if_pos z3]
      exact ⟨z2.trans z1.symm, rfl⟩
    · cases z1
  | ok w =>
    rcases hv with ⟨e2, z1, _⟩ | ⟨q, z1, z2, z3, z4, z5, z6, z7⟩
    · cases z1
    · have z1' : (w.1, w.2.1) = (q, u.2.2.2.1) := by injection z1
      have y1 : w.1 = q := congrArg (fun z => z.1) z1'
      have y2 : w.2.1 = u.2.2.2.1 := congrArg (fun z => z.2) z1'
      obtain ⟨w1, w2, w3, hq⟩ := AT_in z2
      have hpu : p < u.1 := i_trans3 hlt z3
      have hpq : p < q := i_trans3 hpu w1
      rw [if_neg (show ¬ u.2.2.2.2.2.2 = 0 by rw [z7]; decide), z4]
      show KR x T p (if tk x T w.1 = 316 then exb (sT (tk x T) (nx x T) 10 (nx x T w.1) w.2.1) (fun x => .ok (x.1, x.2.1, ch, s, 0, w.2.2, some x.2.2)) else .ok (w.1, w.2.1, ch, s, 0, w.2.2, none)) _
      rw [y1, y2]
      unfold fX11_takesWord
      simp only [bnd, AT_w16 H z2, lx_pass H w3]
      by_cases t : tk x T q = 316
      · simp only [if_pos t, i10, if_false]
        have hqT : ¬ T ≤ q := fun g => by rw [tk_T g] at t; exact absurd t (by decide)
        have hle : ¬ fX2_isLetter (x q.toNatClampNeg) = 0 := by
          rcases tk_kinds H w3 hq.2.2 hqT with g | g | g
          · exact g.1
          · grind
          · grind
        obtain ⟨v1, v2⟩ := st_l hq hqT hle
        have ht := r_tes (num := u.2.2.1) (text := text) (sg := u.2.2.2.2.1) (lg := u.2.2.2.2.2.1) (f := op) H v2 z5 z6
        have hm := sim_T (tk := tk x T) (nx := nx x T) (p := nx x T q) z5
        generalize fX11_tested T (we x T q) 0 u.2.2.1 text u.2.2.2.1 tF u.2.2.2.2.1 u.2.2.2.2.2.1 op = v at ht ⊢
        generalize sT (tk x T) (nx x T) 10 (nx x T q) u.2.2.2.1 = Y at hm ⊢
        cases Y with
        | error e =>
          have hm2 : Rn (tk x T) (nx x T) true (nx x T q) u.2.2.2.1 [] (.error e) := hm
          rcases ht with ⟨e2, k1, k2, k3⟩ | ⟨q2, k1, _⟩
          · have := Rn_u hm2 k1
            injection this with this
            rw [if_pos k3]
            exact ⟨k2.trans this.symm, rfl⟩
          · exact absurd (Rn_u hm2 k1) (fun g => by cases g)
        | ok w9 =>
          have hm2 : Rn (tk x T) (nx x T) true (nx x T q) u.2.2.2.1 [] (.ok (w9.1, w9.2.1)) := hm.1
          rcases ht with ⟨e2, k1, _⟩ | ⟨q2, k1, k2, k3, k4, k5, k6, k7⟩
          · exact absurd (Rn_u hm2 k1) (fun g => by cases g)
          · have e9 := Rn_u hm2 k1
            have e9' : (w9.1, w9.2.1) = (q2, v.2.2.2.1) := by injection e9
            have j1 : w9.1 = q2 := congrArg (fun z => z.1) e9'
            have j2 : w9.2.1 = v.2.2.2.1 := congrArg (fun z => z.2) e9'
            rw [if_neg (show ¬ v.2.2.2.2.2.2.2.2.2 = 0 by rw [k7]; decide)]
            refine ⟨j1 ▸ k2, ?_, k4, j2.symm, j2 ▸ k5, j2 ▸ k6, rfl⟩
            exact i_trans3 (i_trans3 hpq (i_as v1)) (i_as k3)
      · simp only [if_neg t, if_true]
        exact ⟨hq, hpq, rfl, rfl, z5, z6, rfl⟩
def HR (x : Nat → Int32) (T a num text : Int32) (r : Except Int32 (Int32 × Int32 × Int32 × Int32 × Int32 × List (Int32 × Int32) × Option (List (Int32 × List (Int32 × Int32) × List (Int32 × Int32))))) (u : Int32 × Int32 × Int32 × Int32 × Int32 × Int32 × Int32 × (Nat → Int32) × (Nat → Int32) × (Nat → Int32) × (Nat → Int32) × (Nat → Int32) × (Nat → Int32) × Int32) : Prop := (match r with
  | .error e => u.2.1 = e ∧ u.2.2.2.2.2.2.2.2.2.2.2.2.2 = 0
  | .ok w => AT x T u.1 w.1 ∧ a < u.1 ∧ u.2.1 = 0 ∧ u.2.2.2.1 = w.2.1 ∧ (¬ w.2.1 < 0) ∧ (¬ 60 < w.2.1) ∧ u.2.2.2.2.2.1 = num + 1 ∧ (u.2.2.2.2.2.2.2.2.2.2.2.1 text.toNatClampNeg < 0 ↔ w.2.2.1 = 0) ∧ u.2.2.2.2.2.2.2.2.2.2.2.2.2 = 1) ∧ True
theorem sbd_ch {tk nx : Int32 → Int32} {s ch p n : Int32} {w : Int32 × Int32 × Int32 × Int32 × Int32 × List (Int32 × Int32) × Option (List (Int32 × List (Int32 × Int32) × List (Int32 × Int32)))} (h : sbd tk nx s ch p n = .ok w) : w.2.2.1 = ch := by
  unfold sbd at h
  cases hX : ssum tk nx 61 p n 0 with
  | error e => rw [hX] at h; cases h
  | ok v =>
    rw [hX] at h
    have h2 : (if tk v.1 = 316 then exb (sT tk nx 10 (nx v.1) v.2.1) (fun x => Except.ok (x.1, x.2.1, ch, s, 0, v.2.2, some x.2.2)) else Except.ok (v.1, v.2.1, ch, s, 0, v.2.2, none)) = Except.ok w := h
    by_cases t : tk v.1 = 316
    · rw [if_pos t] at h2
      cases hY : sT tk nx 10 (nx v.1) v.2.1 with
      | error e => rw [hY] at h2; cases h2
      | ok z =>
        rw [hY] at h2
        have h3 : Except.ok (z.1, z.2.1, ch, s, 0, v.2.2, some z.2.2) = Except.ok w := h2
        injection h3 with h3
        rw [← h3]
    · rw [if_neg t] at h2
      injection h2 with h2
      rw [← h2]
def BT (lines : Int32) (cf : Nat → Int32) (u : Int32 × Int32 × Int32 × Int32 × Int32 × Int32 × (Nat → Int32) × (Nat → Int32) × (Nat → Int32) × (Nat → Int32) × (Nat → Int32) × Int32) : Int32 × Int32 × Int32 × Int32 × Int32 × Int32 × Int32 × (Nat → Int32) × (Nat → Int32) × (Nat → Int32) × (Nat → Int32) × (Nat → Int32) × (Nat → Int32) × Int32 := (u.1, u.2.1, u.2.2.1, u.2.2.2.1, u.2.2.2.2.1, lines + 1, u.2.2.2.2.2.1, u.2.2.2.2.2.2.1, u.2.2.2.2.2.2.2.1, u.2.2.2.2.2.2.2.2.1, u.2.2.2.2.2.2.2.2.2.1, cf, u.2.2.2.2.2.2.2.2.2.2.1, u.2.2.2.2.2.2.2.2.2.2.2)
def CN (md deep lines opd ix : Int32) (sg lg cl cs cf op : Nat → Int32) (q : Int32 × Int32 × Int32 × Int32) : Int32 × Int32 × Int32 × Int32 × Int32 × Int32 × Int32 × (Nat → Int32) × (Nat → Int32) × (Nat → Int32) × (Nat → Int32) × (Nat → Int32) × (Nat → Int32) × Int32 := if q.2.2.2 = 0 then (q.1, q.2.1, q.2.2.1, md, deep, lines + 1, opd, sg, lg, cl, cs, cf, op, 0) else (q.1, q.2.1, q.2.2.1, md, deep, lines + 1, opd, sg, lg, cl, cs, upd cf ix.toNatClampNeg q.2.2.1, op, 1)
def EP (p k num md deep lines opd : Int32) (sg lg cl cs cf op : Nat → Int32) : Int32 × Int32 × Int32 × Int32 × Int32 × Int32 × Int32 × (Nat → Int32) × (Nat → Int32) × (Nat → Int32) × (Nat → Int32) × (Nat → Int32) × (Nat → Int32) × Int32 := (p, flt p k, num, md, deep, lines, opd, sg, lg, cl, cs, cf, op, 0)
theorem ite10 {α : Type} {c : Prop} [Decidable c] {A B : α} : (if (if c then (1 : Int32) else 0) = 0 then A else B) = if c then B else A := by
  by_cases h : c
  · rw [if_pos h, if_pos h, if_neg (by decide)]
  · rw [if_neg h, if_neg h, if_pos rfl]
