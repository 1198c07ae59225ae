/-- code that has come behind what was there -/
def AP (t : Int32) (sg lg sg2 lg2 : Nat → Int32) (c : List (Int32 × Int32)) : Prop := (lg2 t.toNatClampNeg).toInt = (lg t.toNatClampNeg).toInt + c.length ∧ (∀ j, j ≠ t.toNatClampNeg → lg2 j = lg j) ∧ EB sg2 sg (400 * t.toNatClampNeg + (lg t.toNatClampNeg).toNatClampNeg) ∧ RA sg2 (400 * t.toNatClampNeg + (lg t.toNatClampNeg).toNatClampNeg) c
set_option maxHeartbeats 400000 in
theorem RA_eb {sg sh : Nat → Int32} : ∀ (l : List (Int32 × Int32)) (a : Nat), RA sg a l → (∀ i, i < a + l.length → sh i = sg i) → RA sh a l
  | [], _, _, _ => trivial
  | q :: l, a, h, e => by
    obtain ⟨h1, h2, h3, h4, h5⟩ := h
    exact ⟨(e a (by simp only [List.length_cons]; omega)).trans h1, h2, h3, h4, RA_eb l (a + 1) h5 (fun i hi => e i (by simp only [List.length_cons]; omega))⟩
set_option maxHeartbeats 400000 in
theorem RA_app {sg : Nat → Int32} : ∀ (l l2 : List (Int32 × Int32)) (a : Nat), RA sg a l → RA sg (a + l.length) l2 → RA sg a (l ++ l2)
  | [], l2, a, _, h => by simpa using h
  | q :: l, l2, a, h, h2 => by
    obtain ⟨h1, h3, h4, h5, h6⟩ := h
    exact ⟨h1, h3, h4, h5, RA_app l l2 (a + 1) h6 (by rw [List.length_cons] at h2; rw [show a + 1 + l.length = a + (l.length + 1) from by omega]; exact h2)⟩
set_option maxHeartbeats 400000 in
theorem AP_rf {t : Int32} {sg lg : Nat → Int32} : AP t sg lg sg lg [] := ⟨by simp, fun _ _ => rfl, EB_rf, trivial⟩
set_option maxHeartbeats 400000 in
theorem AP_tr {t : Int32} {sg lg sg2 lg2 sg3 lg3 : Nat → Int32} {c d : List (Int32 × Int32)} (l0 : 0 ≤ (lg t.toNatClampNeg).toInt) (h : AP t sg lg sg2 lg2 c) (h2 : AP t sg2 lg2 sg3 lg3 d) : AP t sg lg sg3 lg3 (c ++ d) := by
  obtain ⟨a1, a2, a3, a4⟩ := h
  obtain ⟨b1, b2, b3, b4⟩ := h2
  have e1 := tn_eq l0
  have e2 := tn_eq (a := lg2 t.toNatClampNeg) (by omega)
  have e : (lg2 t.toNatClampNeg).toNatClampNeg = (lg t.toNatClampNeg).toNatClampNeg + c.length := by omega
  rw [e] at b3 b4
  refine ⟨by rw [List.length_append]; omega, fun j hj => (b2 j hj).trans (a2 j hj), EB_tr b3 a3 (by omega), ?_⟩
  refine RA_app c d _ (RA_eb c _ a4 (fun i hi => b3 i (by omega))) ?_
  rw [show 400 * t.toNatClampNeg + (lg t.toNatClampNeg).toNatClampNeg + c.length = 400 * t.toNatClampNeg + ((lg t.toNatClampNeg).toNatClampNeg + c.length) from by omega]
  exact b4
/-- a sign as it may be put -/
def pok (q : Int32 × Int32) : Prop := (0 ≤ q.1.toInt ∧ q.1.toInt < 16) ∧ (0 ≤ q.2.toInt ∧ q.2.toInt ≤ 99999) ∧ (q.1 = 1 → q.2.toInt < 11)
set_option maxHeartbeats 400000 in
theorem AP_put {t s v : Int32} {sg lg : Nat → Int32} (t0 : 0 ≤ t.toInt) (t6 : t.toInt ≤ 6) (l0 : 0 ≤ (lg t.toNatClampNeg).toInt) (l4 : (lg t.toNatClampNeg).toInt ≤ 400) (hq : pok (s, v)) : AP t sg lg (fX11_puts t sg lg s v).1 (fX11_puts t sg lg s v).2 [(s, v)] := by
  unfold fX11_puts
  simp only [bnd]
  rw [c_sgn t0 t6 l0 l4]
  refine ⟨?_, fun j hj => upd_ne (fun q => hj q.symm), EB_up EB_rf (Nat.le_refl _), pk_us, hq.1, hq.2.1, hq.2.2, trivial⟩
  rw [pk_us]
  exact zadd1 (by omega)
set_option maxHeartbeats 400000 in
theorem vcd_ok {o : Int32} (h : vok o) : pok (vcd o) := by
  obtain ⟨h1, h2⟩ := h
  rw [Int32.lt_iff_toInt_lt, show (-11 : Int32).toInt = -11 from by decide] at h1
  rw [Int32.lt_iff_toInt_lt, show (99999 : Int32).toInt = 99999 from by decide] at h2
  unfold vcd
  have km : (-1 : Int32).toInt = -1 := by decide
  have e1 : (1 : Int32).toInt = 1 := by decide
  by_cases c : o < 0
  · rw [if_pos c]
    rw [Int32.lt_iff_toInt_lt, z_i0] at c
    have e : ((-1) - o).toInt = -1 - o.toInt := by rw [zsub (by omega) (by omega), km]
    exact ⟨(show 0 ≤ (1 : Int32).toInt ∧ (1 : Int32).toInt < 16 by decide), ⟨by show 0 ≤ ((-1) - o).toInt; omega, by show ((-1) - o).toInt ≤ 99999; omega⟩, fun _ => by show ((-1) - o).toInt < 11; omega⟩
  · rw [if_neg c]
    rw [Int32.lt_iff_toInt_lt, z_i0] at c
    exact ⟨(show 0 ≤ (0 : Int32).toInt ∧ (0 : Int32).toInt < 16 by decide), ⟨by show 0 ≤ o.toInt; omega, by show o.toInt ≤ 99999; omega⟩, fun q => absurd q (show ¬ (0 : Int32) = 1 by decide)⟩
set_option maxHeartbeats 400000 in
theorem op_ok {s : Int32} (h : 0 ≤ s.toInt) (h2 : s.toInt < 16) (h1 : s ≠ 1) : pok (s, 0) := ⟨⟨h, h2⟩, (show 0 ≤ (0 : Int32).toInt ∧ (0 : Int32).toInt ≤ 99999 by decide), fun q => absurd q h1⟩
set_option maxHeartbeats 400000 in
/-- the reference puts what a VALUE is -/
theorem r_valC {x tF : Nat → Int32} {T a p num text md v : Int32} {sg lg : Nat → Int32} (H : LXH x tF T) (h : AT x T a p) (m6 : ¬ 60 < md) (he : svl (tk x T p) p md = .ok v) : (fX11_value T a 0 num text md tF sg lg).2.2.2.2.1 = (fX11_puts text sg lg (vcd v).1 (vcd v).2).1 ∧ (fX11_value T a 0 num text md tF sg lg).2.2.2.2.2.1 = (fX11_puts text sg lg (vcd v).1 (vcd v).2).2 := by
  obtain ⟨q1, q2, q3, hpp⟩ := AT_in h
  unfold fX11_value
  simp only [bnd, AT_see H h, LXH_d H q3, AT_wh H hpp, mk_60 m6, fails0, lx_pass H q3]
  have d := svl_lt he
  by_cases hp : T ≤ p
  · rw [tk_T hp] at he
    exact absurd he (fun q => svl_end q)
  · have hk := tk_kinds H q3 hpp.2.2 hp
    by_cases hd : fX2_isDigit (x p.toNatClampNeg) = 0
    · rw [if_neg hp, if_pos hd]
      by_cases t3 : tk x T p < 300
      · exfalso
        have t9 : ¬ tk x T p = 259 := by
          rcases hk with g | g | g
          · grind
          · exact absurd hd g.1
          · grind
        unfold svl at he
        rw [if_pos t3, if_neg t9, if_neg (by grind)] at he
        cases he
      · rw [if_neg t3]
        unfold svl at he
        rw [if_neg t3] at he
        have hlt : tk x T p < 320 ∧ ¬ fX2_isLetter (x p.toNatClampNeg) = 0 := by
          rcases hk with g | g | g
          · exact ⟨by grind, g.1⟩
          · exact absurd hd g.1
          · exact absurd g.2.2.2 (by grind)
        by_cases t1 : (311 : Int32) ≤ tk x T p
        · exfalso
          rw [if_pos t1, if_neg (show ¬ tk x T p = 259 by grind), if_neg (show ¬ (1000 : Int32) ≤ tk x T p by grind)] at he
          cases he
        · rw [if_neg t1, if_neg (show ¬ tk x T p = 259 by grind), if_pos d] at he
          injection he with he
          subst he
          rw [if_neg t1, if_pos (show (0 : Int32) ≤ tk x T p - 300 by grind)]
          simp only [if_pos d]
          rw [if_neg (by decide)]
          have e : vcd (-1 - (tk x T p - 300)) = (1, tk x T p - 300) := by
            unfold vcd
            rw [if_pos (show -1 - (tk x T p - 300) < 0 by grind)]
            refine Prod.ext rfl ?_
            show (-1) - (-1 - (tk x T p - 300)) = tk x T p - 300
            grind
          rw [e]
          exact ⟨rfl, rfl⟩
    · rw [if_neg hp, if_neg hd]
      have z := lx_num (w := 0) (num := num) (lo := 0) (hi := 99999) H hpp.1 hpp.2.1 (by rw [hpp.2.2]; exact hp) (by rw [hpp.2.2]; exact hd)
      rw [hpp.2.2] at z
      rcases z with ⟨z1, z2, v', z3⟩ | ⟨z1, z2, z3, z4⟩
      · exfalso
        rw [z2] at he
        cases he
      · rw [li_if (lo := 0) (hi := 99999) rfl rfl, if_neg (show ¬ tk x T p - 1000 < 0 by grind), if_neg (show ¬ 99999 < tk x T p - 1000 by grind), if_neg (by decide)] at z4
        rw [z4]
        dsimp only
        rw [if_neg (by decide), mk_60 m6]
        unfold svl at he
        rw [if_neg (show ¬ tk x T p < 300 by grind), if_pos (show 311 ≤ tk x T p by grind), if_neg z1, if_pos (show 1000 ≤ tk x T p by grind), if_pos d] at he
        cases he
        simp only [if_pos d]
        rw [if_neg (by decide)]
        have e : vcd (tk x T p - 1000) = (0, tk x T p - 1000) := by
          unfold vcd
          rw [if_neg (show ¬ tk x T p - 1000 < 0 by grind)]
        rw [e]
        exact ⟨rfl, rfl⟩
/-- behind a VALUE: what the text goes on with -/
def sA (tk nx : Int32 → Int32) (q n : Int32) : Except Int32 (Int32 × Int32 × List (Int32 × Int32)) := if fX2_joinOf (tk q) = -1 then .ok (q, n, []) else ssum tk nx 61 (nx q) n (fX2_joinOf (tk q))
set_option maxHeartbeats 400000 in
theorem ssum_f {tk nx : Int32 → Int32} : ∀ (m k : Nat) (p n j : Int32), (60 - n.toInt).toNat < m → (60 - n.toInt).toNat < k → ssum tk nx m p n j = ssum tk nx k p n j := by
  intro m
  induction m with
  | zero => intro k p n j h; exact absurd h (Nat.not_lt_zero _)
  | succ m ih =>
    intro k p n j h1 h2
    cases k with
    | zero => exact absurd h2 (Nat.not_lt_zero _)
    | succ k =>
      rw [ssum_s, ssum_s]
      generalize he : svl (tk p) p n = r
      cases r with
      | error e => rfl
      | ok v =>
        have n9 := svl_lt he
        have hn := n6y n9
        have n9' := n6z n9
        show (if fX2_joinOf (tk (nx p)) = -1 then _ else _) = if fX2_joinOf (tk (nx p)) = -1 then _ else _
        rw [ih k (nx (nx p)) (n + 1) _ (by omega) (by omega)]
set_option maxHeartbeats 400000 in
theorem ssum_eq {tk nx : Int32 → Int32} {p n j : Int32} (n0 : ¬ n < 0) : ssum tk nx 61 p n j = exb (svl (tk p) p n) (fun v => exb (sA tk nx (nx p) (n + 1)) (fun w => .ok (w.1, w.2.1, (j, v) :: w.2.2))) := by
  rw [ssum_s]
  generalize he : svl (tk p) p n = r
  cases r with
  | error e => rfl
  | ok v =>
    have n9 := svl_lt he
    have hn := n6y n9
    have n9' := n6z n9
    have h0 := i_nn n0
    show (if fX2_joinOf (tk (nx p)) = -1 then _ else _) = exb (sA tk nx (nx p) (n + 1)) _
    unfold sA
    by_cases c : fX2_joinOf (tk (nx p)) = -1
    · rw [if_pos c, if_pos c]; rfl
    · rw [if_neg c, if_neg c, ssum_f 60 61 (nx (nx p)) (n + 1) _ (by omega) (by omega)]
/-- the code of what is multiplied -/
def mcd : List (Int32 × Int32) → List (Int32 × Int32)
  | [] => []
  | q :: l => vcd q.2 :: (if q.1 = 2 then (4, 0) else (5, 0)) :: mcd l
set_option maxHeartbeats 400000 in
theorem mcd_c {q : Int32 × Int32} {l : List (Int32 × Int32)} : mcd (q :: l) = vcd q.2 :: (if q.1 = 2 then (4, 0) else (5, 0)) :: mcd l := rfl
set_option maxHeartbeats 400000 in
theorem cod_c {p : Int32} {q : Int32 × Int32} {l : List (Int32 × Int32)} : cod p (q :: l) = if q.1 = 2 then vcd q.2 :: (4, 0) :: cod p l else if q.1 = 3 then vcd q.2 :: (5, 0) :: cod p l else (if p = -1 then [] else [(p, 0)]) ++ vcd q.2 :: cod (if q.1 = 1 then 3 else 2) l := by conv => lhs; unfold cod
def ismul (l : List (Int32 × Int32)) : Prop := ∀ x ∈ l, x.1 = 2 ∨ x.1 = 3
set_option maxHeartbeats 400000 in
theorem cod_mul {p : Int32} {l r : List (Int32 × Int32)} (h : ismul l) : cod p (l ++ r) = mcd l ++ cod p r := by
  induction l with
  | nil => rfl
  | cons q l ih =>
    have ih := ih (fun x hx => h x (List.mem_cons_of_mem _ hx))
    rw [List.cons_append]
    rw [cod_c, mcd_c]
    rcases h q List.mem_cons_self with e | e
    · rw [if_pos e, if_pos e, ih]; rfl
    · rw [if_neg (by rw [e]; decide), if_pos e, if_neg (by rw [e]; decide), ih]; rfl
set_option maxHeartbeats 400000 in
theorem cod_add {p : Int32} {r : List (Int32 × Int32)} (hp : ¬ p = -1) (h : ∀ x t, r = x :: t → ¬ x.1 = 2 ∧ ¬ x.1 = 3) : cod p r = (p, 0) :: cod (-1) r := by
  cases r with
  | nil => unfold cod; rw [if_neg hp, if_pos rfl]
  | cons x t =>
    obtain ⟨h2, h3⟩ := h x t rfl
    unfold cod
    rw [if_neg h2, if_neg h3, if_neg h2, if_neg h3, if_neg hp, if_pos rfl]
    rfl
def LGok (t a : Int32) (lg : Nat → Int32) : Prop := 0 ≤ (lg t.toNatClampNeg).toInt ∧ (lg t.toNatClampNeg).toInt ≤ a.toInt
set_option maxHeartbeats 400000 in
theorem p_up {x tF : Nat → Int32} {T a p : Int32} (H : LXH x tF T) (h : AT x T a p) : a.toInt ≤ p.toInt ∧ p.toInt ≤ 400 ∧ 0 ≤ p.toInt ∧ (p + 1).toInt = p.toInt + 1 := by
  obtain ⟨q1, q2, q3, _⟩ := AT_in h
  have h2 := H.2.1
  rw [Int32.lt_iff_toInt_lt] at q1 q2 q3 h2
  rw [z_i0] at q3
  rw [show (400 : Int32).toInt = 400 from by decide] at h2
  exact ⟨by omega, by omega, by omega, zadd1 (by omega)⟩
set_option maxHeartbeats 400000 in
/-- one more VALUE behind a sign, then its sign -/
theorem AP_one {text s a b : Int32} {sg lg sh lh : Nat → Int32} {v : Int32} (t0 : 0 ≤ text.toInt) (t6 : text.toInt ≤ 6) (hl : LGok text a lg) (ab : a.toInt + 2 ≤ b.toInt) (b4 : b.toInt ≤ 400) (hv : vok v) (hs : 0 ≤ s.toInt ∧ s.toInt < 16 ∧ s ≠ 1) (e1 : sh = (fX11_puts text sg lg (vcd v).1 (vcd v).2).1) (e2 : lh = (fX11_puts text sg lg (vcd v).1 (vcd v).2).2) : AP text sg lg (fX11_puts text sh lh s 0).1 (fX11_puts text sh lh s 0).2 [vcd v, (s, 0)] ∧ LGok text b (fX11_puts text sh lh s 0).2 := by
  obtain ⟨l0, l1⟩ := hl
  have h1 := AP_put (sg := sg) (lg := lg) (s := (vcd v).1) (v := (vcd v).2) t0 t6 l0 (by omega) (vcd_ok hv)
  rw [← e1, ← e2] at h1
  have h2 := AP_put (sg := sh) (lg := lh) (s := s) (v := 0) t0 t6 (by have := h1.1; omega) (by have := h1.1; simp only [List.length_singleton] at this; omega) (op_ok hs.1 hs.2.1 hs.2.2)
  have h3 := AP_tr l0 h1 h2
  refine ⟨h3, ?_, ?_⟩
  · have := h3.1; omega
  · have := h3.1; simp only [List.length_append, List.length_singleton] at this; omega
set_option maxHeartbeats 400000 in
theorem r_termLC {x tF : Nat → Int32} {T text : Int32} (H : LXH x tF T) (t0 : 0 ≤ text.toInt) (t6 : text.toInt ≤ 6) {E64 : Int32 → Int32 → Int32 → Int32 → (Nat → Int32) → (Nat → Int32) → Int32 → (Int32 × Int32 × Int32 × Int32 × (Nat → Int32) × (Nat → Int32) × Int32)} {E75 : Int32 → Int32 → Int32 → Int32 → (Nat → Int32) → (Nat → Int32) → (Int32 × Int32 × Int32 × Int32 × (Nat → Int32) × (Nat → Int32) × Int32)} (h75 : ∀ a1 a2 a3 a4 a5 a6, E75 a1 a2 a3 a4 a5 a6 = (a1, a2, a3, a4, a5, a6, 1)) : ∀ (N : Nat) (a q num md : Int32) (sg lg : Nat → Int32) (w : Int32 × Int32 × List (Int32 × Int32)), AT x T a q → ¬ md < 0 → ¬ 60 < md → (T.toInt - a.toInt).toNat < N → LGok text a lg → sA (tk x T) (nx x T) q md = .ok w → ∃ (u : Int32 × Int32 × Int32 × Int32 × (Nat → Int32) × (Nat → Int32) × Int32) (r1 r2 : List (Int32 × Int32)) (q2 : Int32), fl_mX11_term_9 T text tF E64 E75 N a 0 num md sg lg = u ∧ w.2.2 = r1 ++ r2 ∧ ismul r1 ∧ sA (tk x T) (nx x T) q2 u.2.2.2.1 = .ok (w.1, w.2.1, r2) ∧ AT x T u.1 q2 ∧ (¬ tk x T q2 = 42) ∧ (¬ tk x T q2 = 47) ∧ AP text sg lg u.2.2.2.2.1 u.2.2.2.2.2.1 (mcd r1) ∧ LGok text u.1 u.2.2.2.2.2.1 ∧ u.2.1 = 0 ∧ u.2.2.2.2.2.2 = 1 ∧ (¬ u.2.2.2.1 < 0) ∧ (¬ 60 < u.2.2.2.1) ∧ a.toInt ≤ u.1.toInt ∧ (u.2.2.2.2.2.1 text.toNatClampNeg).toInt - (lg text.toNatClampNeg).toInt ≤ u.1.toInt - a.toInt := by
  intro N
  induction N with
  | zero => intro a q num md sg lg w; intros; exact absurd (by assumption) (Nat.not_lt_zero _)
  | succ N ih =>
    intro a q num md sg lg w h m0 m6 hn hl he
    obtain ⟨q1, q2, q3, hq⟩ := AT_in h
    obtain ⟨n1, n2, n3, n4⟩ := p_up H h
    show ∃ u r1 r2 q2, fb_mX11_term_9 T text tF E64 E75 (fl_mX11_term_9 T text tF E64 E75 N) a 0 num md sg lg = u ∧ _
    unfold fb_mX11_term_9
    simp only [bnd, AT_see H h, AT_see H hq]
    obtain ⟨k1, k1'⟩ := cA_tk (c := 42) H hq ⟨by decide, by decide, by decide, by decide, by decide, by decide⟩
    obtain ⟨k2, k2'⟩ := cA_tk (c := 47) H hq ⟨by decide, by decide, by decide, by decide, by decide, by decide⟩
    have key : AT x T (q + 1) (nx x T q) → ∀ (j s : Int32), fX2_joinOf (tk x T q) = j → (j = 2 ∧ s = 4 ∨ j = 3 ∧ s = 5) → ∃ (u : Int32 × Int32 × Int32 × Int32 × (Nat → Int32) × (Nat → Int32) × Int32) (r1 r2 : List (Int32 × Int32)) (q2 : Int32), (if (fX11_value T (q + 1) 0 num text md tF sg lg).2.2.2.2.2.2 = 0 then E64 (fX11_value T (q + 1) 0 num text md tF sg lg).1 (fX11_value T (q + 1) 0 num text md tF sg lg).2.1 (fX11_value T (q + 1) 0 num text md tF sg lg).2.2.1 (fX11_value T (q + 1) 0 num text md tF sg lg).2.2.2.1 (fX11_value T (q + 1) 0 num text md tF sg lg).2.2.2.2.1 (fX11_value T (q + 1) 0 num text md tF sg lg).2.2.2.2.2.1 s else fl_mX11_term_9 T text tF E64 E75 N (fX11_value T (q + 1) 0 num text md tF sg lg).1 (fX11_value T (q + 1) 0 num text md tF sg lg).2.1 (fX11_value T (q + 1) 0 num text md tF sg lg).2.2.1 (fX11_value T (q + 1) 0 num text md tF sg lg).2.2.2.1 (fX11_puts text (fX11_value T (q + 1) 0 num text md tF sg lg).2.2.2.2.1 (fX11_value T (q + 1) 0 num text md tF sg lg).2.2.2.2.2.1 s 0).1 (fX11_puts text (fX11_value T (q + 1) 0 num text md tF sg lg).2.2.2.2.1 (fX11_value T (q + 1) 0 num text md tF sg lg).2.2.2.2.2.1 s 0).2) = u ∧ w.2.2 = r1 ++ r2 ∧ ismul r1 ∧ sA (tk x T) (nx x T) q2 u.2.2.2.1 = .ok (w.1, w.2.1, r2) ∧ AT x T u.1 q2 ∧ (¬ tk x T q2 = 42) ∧ (¬ tk x T q2 = 47) ∧ AP text sg lg u.2.2.2.2.1 u.2.2.2.2.2.1 (mcd r1) ∧ LGok text u.1 u.2.2.2.2.2.1 ∧ u.2.1 = 0 ∧ u.2.2.2.2.2.2 = 1 ∧ (¬ u.2.2.2.1 < 0) ∧ (¬ 60 < u.2.2.2.1) ∧ a.toInt ≤ u.1.toInt ∧ (u.2.2.2.2.2.1 text.toNatClampNeg).toInt - (lg text.toNatClampNeg).toInt ≤ u.1.toInt - a.toInt := by
      intro g1 j s hj hs
      unfold sA at he
      rw [if_neg (show ¬ fX2_joinOf (tk x T q) = -1 by rw [hj]; rcases hs with ⟨e, _⟩ | ⟨e, _⟩ <;> (rw [e]; decide)), ssum_eq m0] at he
      obtain ⟨v, hv0, he⟩ := exb_inv he
      obtain ⟨w2, hw2, he⟩ := exb_inv he
      cases he
      obtain ⟨o1, o2, o3, o4⟩ := p_up H g1
      have hv := r_val (num := num) (text := text) (sg := sg) (lg := lg) H g1 m6
      have hc := r_valC (num := num) (text := text) (sg := sg) (lg := lg) H g1 m6 hv0
      rw [hv0] at hv
      generalize fX11_value T (q + 1) 0 num text md tF sg lg = u at hv hc ⊢
      obtain ⟨h1, h2, h3, h4, h7⟩ := hv
      have n9 := svl_lt hv0
      have hqT : q.toInt < T.toInt := by
        by_cases g : T ≤ q
        · rw [tk_T g] at hj
          rcases hs with ⟨e, _⟩ | ⟨e, _⟩ <;> (rw [e] at hj; exact absurd hj (by decide))
        · rw [Int32.le_iff_toInt_le] at g; omega
      have hqa : a.toInt ≤ q.toInt := by
        rw [Int32.lt_iff_toInt_lt] at q1; omega
      obtain ⟨b1, b2, b3, b4⟩ := p_up H h2
      have hup : (nx x T q).toInt < u.1.toInt := Int32.lt_iff_toInt_lt.mp h1
      have hsd : 0 ≤ s.toInt ∧ s.toInt < 16 ∧ s ≠ 1 := by rcases hs with ⟨_, e⟩ | ⟨_, e⟩ <;> (rw [e]; decide)
      obtain ⟨ap, lo⟩ := AP_one (a := a) (b := u.1) (s := s) t0 t6 hl (by omega) (by omega) (svl_ok (tk_bnd H (AT_in g1).2.2.1 (AT_in g1).2.2.2).2 hv0) hsd hc.1 hc.2
      rw [if_neg (show ¬ u.2.2.2.2.2.2 = 0 by rw [h7]; decide), h3, h4]
      obtain ⟨u', r1, r2, q', z1, z2, z3, z4, z5, z6, z7, z8, z9, z10, z11, z12, z13, z14, z15⟩ := ih u.1 (nx x T (nx x T q)) u.2.2.1 (md + 1) (fX11_puts text u.2.2.2.2.1 u.2.2.2.2.2.1 s 0).1 (fX11_puts text u.2.2.2.2.1 u.2.2.2.2.2.1 s 0).2 w2 h2 (by grind) (by grind) (by omega) lo hw2
      refine ⟨u', (j, v) :: r1, r2, q', z1, by show (fX2_joinOf (tk x T q), v) :: w2.2.2 = _; rw [z2, hj]; rfl, ?_, z4, z5, z6, z7, ?_, z9, z10, z11, z12, z13, by omega, by have := ap.1; simp only [List.length_cons, List.length_nil] at this; omega⟩
      · intro y hy
        rcases List.mem_cons.mp hy with rfl | hy
        · rcases hs with ⟨e, _⟩ | ⟨e, _⟩
          · exact Or.inl e
          · exact Or.inr e
        · exact z3 y hy
      · have := AP_tr hl.1 ap z8
        unfold mcd
        rcases hs with ⟨e, e2⟩ | ⟨e, e2⟩
        · rw [if_pos e]; rw [e2] at this; exact this
        · rw [if_neg (show ¬ j = 2 by rw [e]; decide)]; rw [e2] at this; exact this
    by_cases c1 : tk x T q = 42
    · obtain ⟨_, b2, b3, b4⟩ := k1' c1
      rw [if_pos (k1.mpr c1), b4, if_pos rfl]
      exact key b3 2 4 (by rw [c1]; decide) (Or.inl ⟨rfl, rfl⟩)
    · rw [if_neg (fun g => c1 (k1.mp g))]
      by_cases c2 : tk x T q = 47
      · obtain ⟨_, b2, b3, b4⟩ := k2' c2
        rw [if_pos (k2.mpr c2), b4, if_neg (by decide)]
        exact key b3 3 5 (by rw [c2]; decide) (Or.inr ⟨rfl, rfl⟩)
      · rw [if_neg (fun g => c2 (k2.mp g))]
        refine ⟨_, [], w.2.2, q, h75 _ _ _ _ _ _, rfl, fun y hy => (by cases hy), he, hq, c1, c2, AP_rf, ⟨hl.1, ?_⟩, rfl, rfl, m0, m6, n1, ?_⟩
        · have := hl.2
          show (lg text.toNatClampNeg).toInt ≤ q.toInt
          omega
        · show (lg text.toNatClampNeg).toInt - (lg text.toNatClampNeg).toInt ≤ q.toInt - a.toInt
          omega
set_option maxHeartbeats 400000 in
/-- a TERM behind a sign (or at the start of a SUM): its first VALUE, then what is multiplied -/
theorem r_termC {x tF : Nat → Int32} {T a p num text md : Int32} {sg lg : Nat → Int32} {j : Int32} {w : Int32 × Int32 × List (Int32 × Int32)} (H : LXH x tF T) (t0 : 0 ≤ text.toInt) (t6 : text.toInt ≤ 6) (h : AT x T a p) (m0 : ¬ md < 0) (m6 : ¬ 60 < md) (hl : LGok text a lg) (he : ssum (tk x T) (nx x T) 61 p md j = .ok w) : ∃ (u : Int32 × Int32 × Int32 × Int32 × (Nat → Int32) × (Nat → Int32) × Int32) (v : Int32) (r1 r2 : List (Int32 × Int32)) (q2 : Int32), fX11_term T a 0 num text md tF sg lg = u ∧ w.2.2 = (j, v) :: (r1 ++ r2) ∧ ismul r1 ∧ sA (tk x T) (nx x T) q2 u.2.2.2.1 = .ok (w.1, w.2.1, r2) ∧ AT x T u.1 q2 ∧ (¬ tk x T q2 = 42) ∧ (¬ tk x T q2 = 47) ∧ AP text sg lg u.2.2.2.2.1 u.2.2.2.2.2.1 (vcd v :: mcd r1) ∧ LGok text u.1 u.2.2.2.2.2.1 ∧ u.2.1 = 0 ∧ u.2.2.2.2.2.2 = 1 ∧ (¬ u.2.2.2.1 < 0) ∧ (¬ 60 < u.2.2.2.1) ∧ p.toInt + 1 ≤ u.1.toInt ∧ (u.2.2.2.2.2.1 text.toNatClampNeg).toInt - (lg text.toNatClampNeg).toInt ≤ u.1.toInt - p.toInt := by
  rw [ssum_eq m0] at he
  obtain ⟨v, hv0, he⟩ := exb_inv he
  obtain ⟨w2, hw2, he⟩ := exb_inv he
  cases he
  unfold fX11_term
  simp only [bnd]
  obtain ⟨n1, n2, n3, n4⟩ := p_up H h
  have hv := r_val (num := num) (text := text) (sg := sg) (lg := lg) H h m6
  have hc := r_valC (num := num) (text := text) (sg := sg) (lg := lg) H h m6 hv0
  rw [hv0] at hv
  generalize fX11_value T a 0 num text md tF sg lg = u at hv hc ⊢
  obtain ⟨h1, h2, h3, h4, h7⟩ := hv
  obtain ⟨b1, b2, b3, b4⟩ := p_up H h2
  have hup : p.toInt < u.1.toInt := Int32.lt_iff_toInt_lt.mp h1
  have n9 := svl_lt hv0
  obtain ⟨l0, l1⟩ := hl
  have ap := AP_put (sg := sg) (lg := lg) (s := (vcd v).1) (v := (vcd v).2) t0 t6 l0 (by omega) (vcd_ok (svl_ok (tk_bnd H (AT_in h).2.2.1 (AT_in h).2.2.2).2 hv0))
  rw [← hc.1, ← hc.2] at ap
  rw [if_neg (show ¬ u.2.2.2.2.2.2 = 0 by rw [h7]; decide), h3, h4]
  obtain ⟨u', r1, r2, q', z1, z2, z3, z4, z5, z6, z7, z8, z9, z10, z11, z12, z13, z14, z15⟩ := r_termLC (E64 := fun a1 a2 a3 a4 a5 a6 _ => (a1, a2, a3, a4, a5, a6, 0)) (E75 := fun a1 a2 a3 a4 a5 a6 => (a1, a2, a3, a4, a5, a6, 1)) H t0 t6 (fun _ _ _ _ _ _ => rfl) ((T.toInt - (u.1).toInt).toNat + 1) u.1 (nx x T p) u.2.2.1 (md + 1) u.2.2.2.2.1 u.2.2.2.2.2.1 w2 h2 (by grind) (by grind) (Nat.lt_succ_self _) ⟨by have := ap.1; omega, by have := ap.1; simp only [List.length_singleton] at this; omega⟩ hw2
  exact ⟨u', v, r1, r2, q', z1, by rw [z2], z3, z4, z5, z6, z7, AP_tr l0 ap z8, z9, z10, z11, z12, z13, by omega, by have := ap.1; simp only [List.length_singleton] at this; omega⟩
set_option maxHeartbeats 400000 in
theorem join_no {t : Int32} (t1 : ¬ t = 42) (t2 : ¬ t = 47) (c1 : ¬ t = 43) (c2 : ¬ t = 45) : fX2_joinOf t = -1 := by
  unfold fX2_joinOf
  rw [if_neg t1, if_neg c1]
  by_cases w1 : t = 44
  · rw [if_pos w1]
  · rw [if_neg w1, if_neg c2]
    by_cases w2 : t = 46
    · rw [if_pos w2]
    · rw [if_neg w2, if_neg t2]
set_option maxHeartbeats 400000 in
theorem sA_hd {tk nx : Int32 → Int32} {q n p2 n2 : Int32} {r t : List (Int32 × Int32)} {y : Int32 × Int32} (h : sA tk nx q n = .ok (p2, n2, r)) (hr : r = y :: t) (t1 : ¬ tk q = 42) (t2 : ¬ tk q = 47) : ¬ y.1 = 2 ∧ ¬ y.1 = 3 := by
  unfold sA at h
  by_cases c : fX2_joinOf (tk q) = -1
  · rw [if_pos c] at h
    cases h
    cases hr
  · rw [if_neg c] at h
    have e : y.1 = fX2_joinOf (tk q) := by
      rw [hr] at h
      have : ∀ (m : Nat) (p n j : Int32) (w : Int32 × Int32 × List (Int32 × Int32)), ssum tk nx m p n j = .ok w → ∀ x r, w.2.2 = x :: r → x.1 = j := by
        intro m
        cases m with
        | zero => intro p n j w h; cases h
        | succ m =>
          intro p n j w h x r hx
          rw [ssum_s] at h
          obtain ⟨v, hv, h⟩ := exb_inv h
          by_cases d : fX2_joinOf (tk (nx p)) = -1
          · rw [if_pos d] at h; cases h; cases hx; rfl
          · rw [if_neg d] at h
            obtain ⟨w2, hw, h⟩ := exb_inv h
            cases h; cases hx; rfl
      exact this _ _ _ _ _ h y t rfl
    by_cases c1 : tk q = 43
    · rw [e, c1]; decide
    · by_cases c2 : tk q = 45
      · rw [e, c2]; decide
      · exact absurd (join_no t1 t2 c1 c2) c
set_option maxHeartbeats 400000 in
theorem r_sumLC {x tF : Nat → Int32} {T text : Int32} (H : LXH x tF T) (t0 : 0 ≤ text.toInt) (t6 : text.toInt ≤ 6) {E64 : Int32 → Int32 → Int32 → Int32 → (Nat → Int32) → (Nat → Int32) → Int32 → (Int32 × Int32 × Int32 × Int32 × (Nat → Int32) × (Nat → Int32) × Int32)} {E75 : Int32 → Int32 → Int32 → Int32 → (Nat → Int32) → (Nat → Int32) → (Int32 × Int32 × Int32 × Int32 × (Nat → Int32) × (Nat → Int32) × Int32)} (h75 : ∀ a1 a2 a3 a4 a5 a6, E75 a1 a2 a3 a4 a5 a6 = (a1, a2, a3, a4, a5, a6, 1)) : ∀ (N : Nat) (a q num md : Int32) (sg lg : Nat → Int32) (w : Int32 × Int32 × List (Int32 × Int32)), AT x T a q → ¬ md < 0 → ¬ 60 < md → ¬ tk x T q = 42 → ¬ tk x T q = 47 → (T.toInt - a.toInt).toNat < N → LGok text a lg → sA (tk x T) (nx x T) q md = .ok w → ∃ (u : Int32 × Int32 × Int32 × Int32 × (Nat → Int32) × (Nat → Int32) × Int32), fl_mX11_sum_9 T text tF E64 E75 N a 0 num md sg lg = u ∧ AP text sg lg u.2.2.2.2.1 u.2.2.2.2.2.1 (cod (-1) w.2.2) ∧ LGok text u.1 u.2.2.2.2.2.1 ∧ a.toInt ≤ u.1.toInt ∧ (u.2.2.2.2.2.1 text.toNatClampNeg).toInt - (lg text.toNatClampNeg).toInt ≤ u.1.toInt - a.toInt := by
  intro N
  induction N with
  | zero => intro a q num md sg lg w; intros; exact absurd (by assumption) (Nat.not_lt_zero _)
  | succ N ih =>
    intro a q num md sg lg w h m0 m6 t1 t2 hn hl he
    obtain ⟨q1, q2, q3, hq⟩ := AT_in h
    obtain ⟨n1, n2, n3, n4⟩ := p_up H h
    show ∃ u, fb_mX11_sum_9 T text tF E64 E75 (fl_mX11_sum_9 T text tF E64 E75 N) a 0 num md sg lg = u ∧ _
    unfold fb_mX11_sum_9
    simp only [bnd, AT_see H h, AT_see H hq]
    obtain ⟨k1, k1'⟩ := cA_tk (c := 43) H hq ⟨by decide, by decide, by decide, by decide, by decide, by decide⟩
    obtain ⟨k2, k2'⟩ := cA_tk (c := 45) H hq ⟨by decide, by decide, by decide, by decide, by decide, by decide⟩
    have key : AT x T (q + 1) (nx x T q) → ∀ (j s : Int32), fX2_joinOf (tk x T q) = j → (j = 0 ∧ s = 2 ∨ j = 1 ∧ s = 3) → ∃ (u : Int32 × Int32 × Int32 × Int32 × (Nat → Int32) × (Nat → Int32) × Int32), (if (fX11_term T (q + 1) 0 num text md tF sg lg).2.2.2.2.2.2 = 0 then E64 (fX11_term T (q + 1) 0 num text md tF sg lg).1 (fX11_term T (q + 1) 0 num text md tF sg lg).2.1 (fX11_term T (q + 1) 0 num text md tF sg lg).2.2.1 (fX11_term T (q + 1) 0 num text md tF sg lg).2.2.2.1 (fX11_term T (q + 1) 0 num text md tF sg lg).2.2.2.2.1 (fX11_term T (q + 1) 0 num text md tF sg lg).2.2.2.2.2.1 s else fl_mX11_sum_9 T text tF E64 E75 N (fX11_term T (q + 1) 0 num text md tF sg lg).1 (fX11_term T (q + 1) 0 num text md tF sg lg).2.1 (fX11_term T (q + 1) 0 num text md tF sg lg).2.2.1 (fX11_term T (q + 1) 0 num text md tF sg lg).2.2.2.1 (fX11_puts text (fX11_term T (q + 1) 0 num text md tF sg lg).2.2.2.2.1 (fX11_term T (q + 1) 0 num text md tF sg lg).2.2.2.2.2.1 s 0).1 (fX11_puts text (fX11_term T (q + 1) 0 num text md tF sg lg).2.2.2.2.1 (fX11_term T (q + 1) 0 num text md tF sg lg).2.2.2.2.2.1 s 0).2) = u ∧ AP text sg lg u.2.2.2.2.1 u.2.2.2.2.2.1 (cod (-1) w.2.2) ∧ LGok text u.1 u.2.2.2.2.2.1 ∧ a.toInt ≤ u.1.toInt ∧ (u.2.2.2.2.2.1 text.toNatClampNeg).toInt - (lg text.toNatClampNeg).toInt ≤ u.1.toInt - a.toInt := by
      intro g1 j s hj hs
      unfold sA at he
      rw [if_neg (show ¬ fX2_joinOf (tk x T q) = -1 by rw [hj]; rcases hs with ⟨e, _⟩ | ⟨e, _⟩ <;> (rw [e]; decide)), hj] at he
      obtain ⟨o1, o2, o3, o4⟩ := p_up H g1
      obtain ⟨u, v, r1, r2, q', z1, z2, z3, z4, z5, z6, z7, z8, z9, z10, z11, z12, z13, z14, z15⟩ := r_termC (num := num) (sg := sg) (lg := lg) H t0 t6 g1 m0 m6 ⟨hl.1, by have := hl.2; omega⟩ he
      rw [z1, if_neg (show ¬ u.2.2.2.2.2.2 = 0 by rw [z11]; decide), z10]
      obtain ⟨b1, b2, b3, b4⟩ := p_up H z5
      have hsd : 0 ≤ s.toInt ∧ s.toInt < 16 ∧ s ≠ 1 := by rcases hs with ⟨_, e⟩ | ⟨_, e⟩ <;> (rw [e]; decide)
      -- the sign of the SUM: the text had it before the TERM
      have hqT : q.toInt < T.toInt := by
        by_cases g : T ≤ q
        · rw [tk_T g] at hj
          rcases hs with ⟨e, _⟩ | ⟨e, _⟩ <;> (rw [e] at hj; exact absurd hj (by decide))
        · rw [Int32.le_iff_toInt_le] at g; omega
      have hqa : a.toInt ≤ q.toInt := by
        rw [Int32.lt_iff_toInt_lt] at q1; omega
      have hlen : (u.2.2.2.2.2.1 text.toNatClampNeg).toInt + 1 ≤ u.1.toInt := by have := hl.2; omega
      have ap := AP_put (sg := u.2.2.2.2.1) (lg := u.2.2.2.2.2.1) (s := s) (v := 0) t0 t6 z9.1 (by omega) (op_ok hsd.1 hsd.2.1 hsd.2.2)
      have lo : LGok text u.1 (fX11_puts text u.2.2.2.2.1 u.2.2.2.2.2.1 s 0).2 := ⟨by have := ap.1; have := z9.1; omega, by have := ap.1; simp only [List.length_singleton] at this; omega⟩
      obtain ⟨u', y1, y2, y3, y4, y5⟩ := ih u.1 q' u.2.2.1 u.2.2.2.1 _ _ (w.1, w.2.1, r2) z5 z12 z13 z6 z7 (by omega) lo z4
      refine ⟨u', y1, ?_, y3, by omega, by have := ap.1; simp only [List.length_singleton] at this; omega⟩
      have r2h : ∀ y t, r2 = y :: t → ¬ y.1 = 2 ∧ ¬ y.1 = 3 := fun y t hy => sA_hd z4 hy z6 z7
      have e : cod (-1) w.2.2 = (vcd v :: mcd r1) ++ ([(s, 0)] ++ cod (-1) r2) := by
        rw [z2]
        show (if j = 2 then _ else if j = 3 then _ else (if (-1 : Int32) = -1 then [] else [((-1 : Int32), (0 : Int32))]) ++ vcd v :: cod (if j = 1 then 3 else 2) (r1 ++ r2)) = _
        rcases hs with ⟨e1, e2⟩ | ⟨e1, e2⟩
        · rw [e1, e2, if_neg (by decide), if_neg (by decide), if_pos rfl, if_neg (by decide), cod_mul z3, cod_add (by decide) r2h]
          simp
        · rw [e1, e2, if_neg (by decide), if_neg (by decide), if_pos rfl, if_pos rfl, cod_mul z3, cod_add (by decide) r2h]
          simp
      rw [e]
      exact AP_tr hl.1 z8 (AP_tr z9.1 ap y2)
    by_cases c1 : tk x T q = 43
    · obtain ⟨_, b2, b3, b4⟩ := k1' c1
      rw [if_pos (k1.mpr c1), b4, if_pos rfl]
      exact key b3 0 2 (by rw [c1]; decide) (Or.inl ⟨rfl, rfl⟩)
    · rw [if_neg (fun g => c1 (k1.mp g))]
      by_cases c2 : tk x T q = 45
      · obtain ⟨_, b2, b3, b4⟩ := k2' c2
        rw [if_pos (k2.mpr c2), b4, if_neg (by decide)]
        exact key b3 1 3 (by rw [c2]; decide) (Or.inr ⟨rfl, rfl⟩)
      · rw [if_neg (fun g => c2 (k2.mp g))]
        have hj := join_no t1 t2 c1 c2
        unfold sA at he
        rw [if_pos hj] at he
        cases he
        rw [h75]
        refine ⟨_, rfl, AP_rf, ⟨hl.1, ?_⟩, n1, ?_⟩
        · have := hl.2
          show (lg text.toNatClampNeg).toInt ≤ q.toInt
          omega
        · show (lg text.toNatClampNeg).toInt - (lg text.toNatClampNeg).toInt ≤ q.toInt - a.toInt
          omega
set_option maxHeartbeats 400000 in
theorem r_sumC {x tF : Nat → Int32} {T a p num text md : Int32} {sg lg : Nat → Int32} {w : Int32 × Int32 × List (Int32 × Int32)} (H : LXH x tF T) (t0 : 0 ≤ text.toInt) (t6 : text.toInt ≤ 6) (h : AT x T a p) (m0 : ¬ md < 0) (m6 : ¬ 60 < md) (hl : LGok text a lg) (he : ssum (tk x T) (nx x T) 61 p md 0 = .ok w) : AP text sg lg (fX11_sum T a 0 num text md tF sg lg).2.2.2.2.1 (fX11_sum T a 0 num text md tF sg lg).2.2.2.2.2.1 (scd w.2.2) ∧ LGok text (fX11_sum T a 0 num text md tF sg lg).1 (fX11_sum T a 0 num text md tF sg lg).2.2.2.2.2.1 ∧ p.toInt + 1 ≤ (fX11_sum T a 0 num text md tF sg lg).1.toInt ∧ ((fX11_sum T a 0 num text md tF sg lg).2.2.2.2.2.1 text.toNatClampNeg).toInt - (lg text.toNatClampNeg).toInt ≤ (fX11_sum T a 0 num text md tF sg lg).1.toInt - p.toInt := by
  obtain ⟨u, v, r1, r2, q', z1, z2, z3, z4, z5, z6, z7, z8, z9, z10, z11, z12, z13, z14, z15⟩ := r_termC (num := num) (sg := sg) (lg := lg) H t0 t6 h m0 m6 hl he
  unfold fX11_sum
  simp only [bnd]
  rw [z1, if_neg (show ¬ u.2.2.2.2.2.2 = 0 by rw [z11]; decide), z10]
  obtain ⟨u', y1, y2, y3, y4, y5⟩ := r_sumLC (E64 := fun a1 a2 a3 a4 a5 a6 _ => (a1, a2, a3, a4, a5, a6, 0)) (E75 := fun a1 a2 a3 a4 a5 a6 => (a1, a2, a3, a4, a5, a6, 1)) H t0 t6 (fun _ _ _ _ _ _ => rfl) ((T.toInt - (u.1).toInt).toNat + 1) u.1 q' u.2.2.1 u.2.2.2.1 u.2.2.2.2.1 u.2.2.2.2.2.1 (w.1, w.2.1, r2) z5 z12 z13 z6 z7 (Nat.lt_succ_self _) z9 z4
  rw [y1]
  refine ⟨?_, y3, by omega, by omega⟩
  have e : scd w.2.2 = (vcd v :: mcd r1) ++ cod (-1) r2 := by
    rw [z2]
    show vcd v :: cod (-1) (r1 ++ r2) = _
    rw [cod_mul z3]
    rfl
  rw [e]
  exact AP_tr hl.1 z8 y2
