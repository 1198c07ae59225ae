/-- rows of VALUES as a text spells them -/
def svk (l : List (Int32 × Int32)) : Prop := l ≠ [] ∧ ∀ x ∈ l, vok x.2
set_option maxHeartbeats 400000 in
theorem svl_ok {t p n v : Int32} (hb : ¬ 100999 < t) (h : svl t p n = .ok v) : vok v := by
  have hb' : t.toInt ≤ 100999 := by
    rw [Int32.lt_iff_toInt_lt, show (100999 : Int32).toInt = 100999 from by decide] at hb; omega
  have k1 : (1000 : Int32).toInt = 1000 := by decide
  have k3 : (300 : Int32).toInt = 300 := by decide
  have km : (-1 : Int32).toInt = -1 := by decide
  have k11 : (-11 : Int32).toInt = -11 := by decide
  have k9 : (99999 : Int32).toInt = 99999 := by decide
  have A : (1000 : Int32) ≤ t → vok (t - 1000) := by
    intro c
    rw [Int32.le_iff_toInt_le, k1] at c
    have e : (t - 1000).toInt = t.toInt - 1000 := by rw [zsub (by omega) (by omega), k1]
    exact ⟨by rw [Int32.lt_iff_toInt_lt, e, k11]; omega, by rw [Int32.lt_iff_toInt_lt, e, k9]; omega⟩
  have B : ¬ t < 300 → ¬ (311 : Int32) ≤ t → vok (-1 - (t - 300)) := by
    intro c d
    rw [Int32.lt_iff_toInt_lt, k3] at c
    rw [Int32.le_iff_toInt_le, show (311 : Int32).toInt = 311 from by decide] at d
    have e : (t - 300).toInt = t.toInt - 300 := by rw [zsub (by omega) (by omega), k3]
    have e2 : (-1 - (t - 300)).toInt = -1 - (t.toInt - 300) := by rw [zsub (by omega) (by omega), km, e]
    exact ⟨by rw [Int32.lt_iff_toInt_lt, e2, k11]; omega, by rw [Int32.lt_iff_toInt_lt, e2, k9]; omega⟩
  unfold svl at h
  by_cases a : t < 300
  · rw [if_pos a] at h
    by_cases b : t = 259
    · rw [if_pos b] at h; cases h
    · rw [if_neg b] at h
      by_cases c : (1000 : Int32) ≤ t
      · rw [if_pos c] at h
        by_cases d : n < 60
        · rw [if_pos d] at h; cases h; exact A c
        · rw [if_neg d] at h; cases h
      · rw [if_neg c] at h; cases h
  · rw [if_neg a] at h
    by_cases q : (311 : Int32) ≤ t
    · rw [if_pos q] at h
      by_cases b : t = 259
      · rw [if_pos b] at h; cases h
      · rw [if_neg b] at h
        by_cases c : (1000 : Int32) ≤ t
        · rw [if_pos c] at h
          by_cases d : n < 60
          · rw [if_pos d] at h; cases h; exact A c
          · rw [if_neg d] at h; cases h
        · rw [if_neg c] at h; cases h
    · rw [if_neg q] at h
      by_cases b : t = 259
      · rw [if_pos b] at h; cases h
      · rw [if_neg b] at h
        by_cases d : n < 60
        · rw [if_pos d] at h
          injection h with h
          rw [← h]
          exact B a q
        · rw [if_neg d] at h; cases h
set_option maxHeartbeats 400000 in
theorem exb_inv {α β : Type} {r : Except Int32 α} {g : α → Except Int32 β} {w : β} (h : exb r g = .ok w) : ∃ v, r = .ok v ∧ g v = .ok w := by
  cases r with
  | error e => cases h
  | ok v => exact ⟨v, rfl, h⟩
set_option maxHeartbeats 400000 in
theorem n6z {n : Int32} (h : n < 60) : n.toInt < 60 := by
  rw [Int32.lt_iff_toInt_lt] at h
  have : (60 : Int32).toInt = 60 := by decide
  omega
set_option maxHeartbeats 400000 in
theorem n6y {n : Int32} (h : n < 60) : (n + 1).toInt = n.toInt + 1 := zadd1 (by have := n6z h; omega)
/-- what holds of a text's tokens -/
def TKH (tk nx : Int32 → Int32) : Prop := ∀ p : Int32, ¬ p < 0 → (¬ 100999 < tk p) ∧ (¬ tk p = 258 → ¬ nx p < 0)
set_option maxHeartbeats 400000 in
/-- a SUM: how many VALUES -/
theorem ssum_l {tk nx : Int32 → Int32} (hb : TKH tk nx) : ∀ (m : Nat) (p n j : Int32) (w : Int32 × Int32 × List (Int32 × Int32)), ¬ p < 0 → ssum tk nx m p n j = .ok w → svk w.2.2 ∧ (∀ x r, w.2.2 = x :: r → x.1 = j) ∧ w.2.1.toInt = n.toInt + w.2.2.length ∧ w.2.1.toInt ≤ 60 ∧ ¬ w.1 < 0 := by
  intro m
  induction m with
  | zero => intro p n j w p0 h; cases h
  | succ m ih =>
    intro p n j w p0 h
    rw [ssum_s] at h
    obtain ⟨v, hv, h⟩ := exb_inv h
    have hv1 := svl_ok (hb p p0).1 hv
    have np := (hb p p0).2 (fun q => svl_end (q ▸ hv))
    have hn := n6z (svl_lt hv)
    have hn1 := n6y (svl_lt hv)
    by_cases c : fX2_joinOf (tk (nx p)) = -1
    · rw [if_pos c] at h
      cases h
      refine ⟨⟨by simp, fun x hx => ?_⟩, fun x r hx => ?_, ?_, ?_, np⟩
      · rw [List.mem_singleton] at hx; subst hx; exact hv1
      · cases hx; rfl
      · show (n + 1).toInt = n.toInt + 1; exact hn1
      · show (n + 1).toInt ≤ 60; omega
    · rw [if_neg c] at h
      obtain ⟨w2, hw, h⟩ := exb_inv h
      cases h
      obtain ⟨⟨a1, a2⟩, a3, a4, a5, a6⟩ := ih _ _ _ _ ((hb _ np).2 (fun q => c (by rw [q]; exact join_end))) hw
      refine ⟨⟨by simp, fun x hx => ?_⟩, fun x r hx => ?_, ?_, a5, a6⟩
      · rcases List.mem_cons.mp hx with rfl | hx
        · exact hv1
        · exact a2 x hx
      · cases hx; rfl
      · show w2.2.1.toInt = n.toInt + (w2.2.2.length + 1 : Nat)
        omega
set_option maxHeartbeats 400000 in
theorem ndp_app : ∀ (a b : List (Int32 × List (Int32 × Int32) × List (Int32 × Int32))) (d : Nat), ndp (a ++ b) d = (ndp a d).bind (ndp b) := by
  intro a
  induction a with
  | nil => intro b d; rfl
  | cons q a ih =>
    intro b d
    rw [List.cons_append]
    unfold ndp
    by_cases c1 : q.1 = -1
    · rw [if_pos c1, if_pos c1]
      by_cases e : 1 ≤ d
      · rw [if_pos e, if_pos e]; exact ih b d
      · rw [if_neg e, if_neg e]; rfl
    · rw [if_neg c1, if_neg c1]
      by_cases c2 : q.1 = -2
      · rw [if_pos c2, if_pos c2]
        by_cases e : 2 ≤ d
        · rw [if_pos e, if_pos e]; exact ih b _
        · rw [if_neg e, if_neg e]; rfl
      · rw [if_neg c2, if_neg c2]
        by_cases c3 : q.1 = -3
        · rw [if_pos c3, if_pos c3]
          by_cases e : 2 ≤ d
          · rw [if_pos e, if_pos e]; exact ih b _
          · rw [if_neg e, if_neg e]; rfl
        · rw [if_neg c3, if_neg c3]; exact ih b _
set_option maxHeartbeats 400000 in
theorem nfa_app : ∀ (a b : List (Int32 × List (Int32 × Int32) × List (Int32 × Int32))), nfa (a ++ b) = nfa a + nfa b := by
  intro a
  induction a with
  | nil => intro b; show nfa b = 0 + nfa b; omega
  | cons q a ih =>
    intro b
    rw [List.cons_append]
    show _ + nfa (a ++ b) = (_ + nfa a) + nfa b
    rw [ih]; omega
/-- rows of steps as a text spells them: B counts what a FACT may cost -/
def LPq (B : Nat) (n n2 : Int32) (l : List (Int32 × List (Int32 × Int32) × List (Int32 × Int32))) : Prop := (∀ k, ndp l k = some (k + 1)) ∧ (∀ q ∈ l, qok q) ∧ (3 * nfa l : Int) ≤ n2.toInt - n.toInt ∧ l.length + 1 ≤ B * nfa l
def LPr (B : Nat) (n n2 : Int32) (l : List (Int32 × List (Int32 × Int32) × List (Int32 × Int32))) : Prop := (∀ k, ndp l (k + 1) = some (k + 1)) ∧ (∀ q ∈ l, qok q) ∧ (3 * nfa l : Int) ≤ n2.toInt - n.toInt ∧ l.length ≤ B * nfa l
def LPF (B : Nat) (F : Int32 → Int32 → Except Int32 (Int32 × Int32 × List (Int32 × List (Int32 × Int32) × List (Int32 × Int32)))) : Prop := ∀ p n w, ¬ p < 0 → F p n = .ok w → LPq B n w.2.1 w.2.2 ∧ ¬ w.1 < 0
set_option maxHeartbeats 400000 in
theorem sign_in {t : Int32} (h : ¬ fX2_signOf t = -1) : (¬ fX2_signOf t < 0) ∧ ¬ 4 < fX2_signOf t := by
  unfold fX2_signOf at h ⊢
  repeat' split at h
  all_goals first | (exact absurd rfl h) | (simp_all; done) | decide
set_option maxHeartbeats 400000 in
theorem scm_l {tk nx : Int32 → Int32} (hb : TKH tk nx) : LPF 2 (scm tk nx) := by
  intro p n w p0 h
  unfold scm at h
  obtain ⟨a, ha, h⟩ := exb_inv h
  obtain ⟨⟨a1, a2⟩, a3, a4, a5, a6⟩ := ssum_l hb _ _ _ _ _ p0 ha
  by_cases c : fX2_signOf (tk a.1) = -1
  · rw [if_pos c] at h; cases h
  · rw [if_neg c] at h
    by_cases d : a.2.1 < 60
    · rw [if_pos d] at h
      obtain ⟨b, hb2, h⟩ := exb_inv h
      cases h
      obtain ⟨⟨b1, b2⟩, b3, b4, b5, b6⟩ := ssum_l hb _ _ _ _ _ ((hb _ a6).2 (fun q => c (by rw [q]; exact sign_end))) hb2
      have hs := sign_in c
      have m1 : ∀ k : Int32, k < 0 → ¬ fX2_signOf (tk a.1) = k := fun k hk x => hs.1 (by rw [x]; exact hk)
      have la : 0 < a.2.2.length := List.length_pos_iff.mpr a1
      have lb : 0 < b.2.2.length := List.length_pos_iff.mpr b1
      have nf : nfa [(fX2_signOf (tk a.1), a.2.2, b.2.2)] = 1 := by
        unfold nfa
        rw [if_neg (m1 _ (by decide)), if_neg (m1 _ (by decide)), if_neg (m1 _ (by decide))]
        rfl
      refine ⟨⟨fun k => ?_, fun q hq => ?_, ?_, ?_⟩, b6⟩
      · unfold ndp
        show (if fX2_signOf (tk a.1) = -1 then _ else if fX2_signOf (tk a.1) = -2 then _ else if fX2_signOf (tk a.1) = -3 then _ else ndp [] (k + 1)) = some (k + 1)
        rw [if_neg (m1 _ (by decide)), if_neg (m1 _ (by decide)), if_neg (m1 _ (by decide))]
        rfl
      · rw [List.mem_singleton] at hq
        subst hq
        exact Or.inr (Or.inr (Or.inr ⟨hs.1, hs.2, a1, a3, a2, b1, b3, b2⟩))
      · show (3 * nfa [(fX2_signOf (tk a.1), a.2.2, b.2.2)] : Int) ≤ b.2.1.toInt - n.toInt
        rw [nf]
        have := n6y d
        omega
      · show 2 ≤ 2 * nfa [(fX2_signOf (tk a.1), a.2.2, b.2.2)]
        rw [nf]; omega
    · rw [if_neg d] at h; cases h
set_option maxHeartbeats 400000 in
theorem ndp_1 {s : Int32} {k : Nat} (h : s = -1) : ndp [(s, [], [])] (k + 1) = some (k + 1) := by
  subst h
  show (if (-1 : Int32) = -1 then _ else _) = _
  rw [if_pos rfl, if_pos (by omega)]
  rfl
set_option maxHeartbeats 400000 in
theorem ndp_2 {s : Int32} {k : Nat} (h : s = -2 ∨ s = -3) : ndp [(s, [], [])] (k + 1 + 1) = some (k + 1) := by
  rcases h with rfl | rfl
  · show (if (-2 : Int32) = -1 then _ else if (-2 : Int32) = -2 then _ else _) = _
    rw [if_neg (by decide), if_pos rfl, if_pos (by omega)]
    rfl
  · show (if (-3 : Int32) = -1 then _ else if (-3 : Int32) = -2 then _ else if (-3 : Int32) = -3 then _ else _) = _
    rw [if_neg (by decide), if_neg (by decide), if_pos rfl, if_pos (by omega)]
    rfl
set_option maxHeartbeats 400000 in
theorem nfa_1 {s : Int32} (h : s = -1 ∨ s = -2 ∨ s = -3) : nfa [(s, [], [])] = 0 := by
  rcases h with rfl | rfl | rfl <;> rfl
set_option maxHeartbeats 400000 in
theorem sfc_l {tk nx : Int32 → Int32} {B : Nat} {T F : Int32 → Int32 → Except Int32 (Int32 × Int32 × List (Int32 × List (Int32 × Int32) × List (Int32 × Int32)))} (hb : TKH tk nx) (hB : 1 ≤ B) (hT : LPF B T) (hF : LPF B F) : LPF (B + 1) (sfc tk nx T F) := by
  intro p n w p0 h
  unfold sfc at h
  by_cases a : tk p = 319
  · rw [if_pos a] at h
    obtain ⟨v, hv, h⟩ := exb_inv h
    cases h
    obtain ⟨⟨a1, a2, a3, a4⟩, a5⟩ := hF _ _ _ ((hb _ p0).2 (by rw [a]; decide)) hv
    refine ⟨⟨fun k => ?_, fun q hq => ?_, ?_, ?_⟩, a5⟩
    · show ndp (v.2.2 ++ [(-1, [], [])]) k = _
      rw [ndp_app, a1 k]
      exact ndp_1 rfl
    · rcases List.mem_append.mp hq with hq | hq
      · exact a2 q hq
      · rw [List.mem_singleton] at hq; subst hq; exact Or.inl rfl
    · show (3 * nfa (v.2.2 ++ [(-1, [], [])]) : Int) ≤ v.2.1.toInt - n.toInt
      rw [nfa_app, nfa_1 (Or.inl rfl)]; exact a3
    · show (v.2.2 ++ [(-1, [], [])]).length + 1 ≤ (B + 1) * nfa (v.2.2 ++ [(-1, [], [])])
      rw [nfa_app, nfa_1 (Or.inl rfl), List.length_append, Nat.add_zero, Nat.succ_mul]
      have : 1 ≤ nfa v.2.2 := by
        rcases Nat.eq_zero_or_pos (nfa v.2.2) with z | z
        · rw [z, Nat.mul_zero] at a4; omega
        · exact z
      simp only [List.length_singleton, Nat.add_zero]; omega
  · rw [if_neg a] at h
    have up : ∀ n2 (l : List (Int32 × List (Int32 × Int32) × List (Int32 × Int32))), LPq B n n2 l → LPq (B + 1) n n2 l := fun n2 l ⟨a1, a2, a3, a4⟩ => ⟨a1, a2, a3, by rw [Nat.succ_mul]; omega⟩
    by_cases b : tk p = 91
    · rw [if_pos b] at h
      obtain ⟨v, hv, h⟩ := exb_inv h
      by_cases c : tk v.1 = 93
      · rw [if_pos c] at h
        cases h
        have hv2 := hT _ _ _ ((hb _ p0).2 (by rw [b]; decide)) hv
        exact ⟨up _ _ hv2.1, (hb _ hv2.2).2 (by rw [c]; decide)⟩
      · rw [if_neg c] at h; cases h
    · rw [if_neg b] at h
      obtain ⟨⟨a1, a2, a3, a4⟩, a5⟩ := scm_l hb _ _ _ p0 h
      exact ⟨⟨a1, a2, a3, Nat.le_trans a4 (Nat.mul_le_mul_right _ (by omega))⟩, a5⟩
set_option maxHeartbeats 400000 in
theorem slp_l {tk nx : Int32 → Int32} {B : Nat} {F : Int32 → Int32 → Except Int32 (Int32 × Int32 × List (Int32 × List (Int32 × Int32) × List (Int32 × Int32)))} {ot op : Int32} (hb9 : TKH tk nx) (hot : ¬ ot = 258) (hF : LPF B F) (ho : op = -2 ∨ op = -3) : ∀ (m : Nat) (b : Bool) (p n : Int32) (w : Int32 × Int32 × List (Int32 × List (Int32 × Int32) × List (Int32 × Int32))), ¬ p < 0 → slp tk nx F ot op m b p n = .ok w → (if b then LPr B n w.2.1 w.2.2 else LPq B n w.2.1 w.2.2) ∧ ¬ w.1 < 0 := by
  intro m
  induction m with
  | zero => intro b p n w p0 h; cases h
  | succ m ih =>
    intro b p n w p0 h
    rw [slp_s] at h
    obtain ⟨v, hv, h⟩ := exb_inv h
    obtain ⟨⟨a1, a2, a3, a4⟩, a5⟩ := hF _ _ _ p0 hv
    have ho3 : op = -1 ∨ op = -2 ∨ op = -3 := Or.inr ho
    have hq9 : qok (op, [], []) := by
      rcases ho with h | h
      · exact Or.inr (Or.inl h)
      · exact Or.inr (Or.inr (Or.inl h))
    -- the operand with its sign
    have one : if b then LPr B n v.2.1 (v.2.2 ++ [(op, [], [])]) else LPq B n v.2.1 v.2.2 := by
      cases b with
      | false => exact ⟨a1, a2, a3, a4⟩
      | true =>
        refine ⟨fun k => ?_, fun q hq => ?_, ?_, ?_⟩
        · rw [ndp_app, a1 (k + 1)]
          exact ndp_2 ho
        · rcases List.mem_append.mp hq with hq | hq
          · exact a2 q hq
          · rw [List.mem_singleton] at hq; subst hq; exact hq9
        · rw [nfa_app, nfa_1 ho3]; exact a3
        · rw [nfa_app, nfa_1 ho3, List.length_append, Nat.add_zero]
          simpa using a4
    by_cases c : tk v.1 = ot
    · rw [if_pos c] at h
      obtain ⟨x, hx, h⟩ := exb_inv h
      cases h
      obtain ⟨⟨r1, r2, r3, r4⟩, r5⟩ := ih true _ _ _ ((hb9 _ a5).2 (by rw [c]; exact hot)) hx
      refine ⟨?_, r5⟩
      cases b with
      | false =>
        refine ⟨fun k => ?_, fun q hq => ?_, ?_, ?_⟩
        · show ndp (v.2.2 ++ x.2.2) k = _
          rw [ndp_app, a1 k]
          exact r1 k
        · rcases List.mem_append.mp hq with hq | hq
          · exact a2 q hq
          · exact r2 q hq
        · show (3 * nfa (v.2.2 ++ x.2.2) : Int) ≤ x.2.1.toInt - n.toInt
          rw [nfa_app]; omega
        · show (v.2.2 ++ x.2.2).length + 1 ≤ B * nfa (v.2.2 ++ x.2.2)
          rw [nfa_app, List.length_append, Nat.mul_add]; omega
      | true =>
        obtain ⟨o1, o2, o3, o4⟩ := one
        refine ⟨fun k => ?_, fun q hq => ?_, ?_, ?_⟩
        · show ndp ((v.2.2 ++ [(op, [], [])]) ++ x.2.2) (k + 1) = _
          rw [ndp_app, o1 k]
          exact r1 k
        · rcases List.mem_append.mp hq with hq | hq
          · exact o2 q hq
          · exact r2 q hq
        · show (3 * nfa ((v.2.2 ++ [(op, [], [])]) ++ x.2.2) : Int) ≤ x.2.1.toInt - n.toInt
          rw [nfa_app]; omega
        · show ((v.2.2 ++ [(op, [], [])]) ++ x.2.2).length ≤ B * nfa ((v.2.2 ++ [(op, [], [])]) ++ x.2.2)
          rw [nfa_app, List.length_append (as := v.2.2 ++ [(op, [], [])]), Nat.mul_add]; omega
    · rw [if_neg c] at h
      cases h
      refine ⟨?_, a5⟩
      cases b with
      | false => exact one
      | true => exact one
set_option maxHeartbeats 400000 in
theorem sF_l {tk nx : Int32 → Int32} (hb : TKH tk nx) : ∀ d : Nat, LPF (d + 2) (sF tk nx d)
  | 0 => by
    intro p n w p0 h
    unfold sF sfc0 at h
    by_cases a : tk p = 319
    · rw [if_pos a] at h; cases h
    · rw [if_neg a] at h
      by_cases b : tk p = 91
      · rw [if_pos b] at h; cases h
      · rw [if_neg b] at h
        exact scm_l hb _ _ _ p0 h
  | d + 1 => by
    have f := sF_l hb d
    have q : LPF (d + 2) (slp tk nx (sF tk nx d) 318 (-2) 61 false) := fun p n w p0 h => slp_l hb (by decide) f (Or.inl rfl) 61 false p n w p0 h
    have t : LPF (d + 2) (slp tk nx (slp tk nx (sF tk nx d) 318 (-2) 61 false) 317 (-3) 61 false) := fun p n w p0 h => slp_l hb (by decide) q (Or.inr rfl) 61 false p n w p0 h
    exact sfc_l hb (by omega) t f
set_option maxHeartbeats 400000 in
theorem sP_l {tk nx : Int32 → Int32} (hb : TKH tk nx) (d : Nat) : LPF (d + 2) (sP tk nx d) := fun p n w p0 h => slp_l hb (by decide) (sF_l hb d) (Or.inl rfl) 61 false p n w p0 h
set_option maxHeartbeats 400000 in
theorem sT_l {tk nx : Int32 → Int32} (hb : TKH tk nx) (d : Nat) : LPF (d + 2) (sT tk nx d) := fun p n w p0 h => slp_l hb (by decide) (sP_l hb d) (Or.inr rfl) 61 false p n w p0 h
