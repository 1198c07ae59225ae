set_option maxHeartbeats 400000 in
theorem fget {F S : Nat → Int32} {z q : Int32} {c : Nat} (h : FE F S) (h0 : 0 ≤ z.toInt) (h1 : z.toInt < 8) (hq : q.toInt = (c : Int)) (hc : c < 3) : fX6_get_24 3 F z q = S (336 + 3 * z.toNatClampNeg + c) := by
  have e := tab_g (w := 3) (W := 3) (R := 8) (by decide) (by decide) (by decide) h0 h1 (show 0 ≤ q.toInt by omega) (show q.toInt < 3 by omega)
  have n1 := tn_eq h0
  have ix : (z * 3 + q).toNatClampNeg = 3 * z.toNatClampNeg + c := by show (z * 3 + q).toInt.toNat = _; rw [e]; omega
  unfold fX6_get_24
  simp only [bnd]
  rw [if_neg (by rw [Int32.lt_iff_toInt_lt, e, z_i0]; omega), if_neg (by rw [Int32.le_iff_toInt_le, e, show (24 : Int32).toInt = 24 from by decide]; omega), ix, h _ (by omega), show 336 + (3 * z.toNatClampNeg + c) = 336 + 3 * z.toNatClampNeg + c from by omega]
set_option maxHeartbeats 400000 in
theorem i24 : (24 : Int32).toInt = 24 := by decide
set_option maxHeartbeats 400000 in
theorem div24 {t : Int32} (t0 : 0 ≤ t.toInt) : (t / 24).toInt = t.toInt / 24 := by
  rw [Int32.toInt_div_of_ne_right _ _ (by decide), i24, Int.tdiv_eq_ediv_of_nonneg t0]
set_option maxHeartbeats 400000 in
theorem mod24 {t : Int32} (t0 : 0 ≤ t.toInt) (ht1 : t.toInt < 2000000) : (t - t / 24 * 24).toInt = t.toInt % 24 := by
  have e := div24 t0
  have m : (t / 24 * 24).toInt = t.toInt / 24 * 24 := by rw [zmul (by rw [e, i24]; omega) (by rw [e, i24]; omega), e, i24]
  rw [zsub (by rw [m]; omega) (by rw [m]; omega), m]
  omega
set_option maxHeartbeats 400000 in
theorem noonC {d : Int32} (d0 : 0 ≤ d.toInt) (d1 : d.toInt ≤ 4166) : (d * 24 + 12).toInt = 24 * d.toInt + 12 := by
  have m : (d * 24).toInt = d.toInt * 24 := by rw [zmul (by rw [i24]; omega) (by rw [i24]; omega), i24]
  rw [zadd (by rw [m, c12]; omega) (by rw [m, c12]; omega), m, c12]
  omega
set_option maxHeartbeats 400000 in
theorem noonR {d : Int32} (d0 : 0 ≤ d.toInt) (d1 : d.toInt ≤ 4166) : (24 * d + 12).toInt = 24 * d.toInt + 12 := by
  have m : (24 * d).toInt = 24 * d.toInt := by rw [zmul (by rw [i24]; omega) (by rw [i24]; omega), i24]
  rw [zadd (by rw [m, c12]; omega) (by rw [m, c12]; omega), m, c12]
/-- what the FEASTS of a NODE eat on a day, what they eat from an hour to another -/
def dsI (S : Nat → Int32) (node day : Int32) : Nat → Nat → Int32
  | 0, _ => 0
  | n + 1, k => (if S (336 + 3 * k + 1) = day then (if S (336 + 3 * k) = node then S (336 + 3 * k + 2) else 0) else 0) + dsI S node day n (k + 1)
def dsum (S : Nat → Int32) (node : Int32) (day : Int) : Nat → Nat → Int
  | 0, _ => 0
  | n + 1, k => (if S (336 + 3 * k) = node ∧ (S (336 + 3 * k + 1)).toInt = day then (S (336 + 3 * k + 2)).toInt else 0) + dsum S node day n (k + 1)
def osum (S : Nat → Int32) (node : Int32) (lo hi : Int) : Nat → Nat → Int
  | 0, _ => 0
  | n + 1, k => (if S (336 + 3 * k) = node ∧ lo ≤ 24 * (S (336 + 3 * k + 1)).toInt + 12 ∧ 24 * (S (336 + 3 * k + 1)).toInt + 12 < hi then (S (336 + 3 * k + 2)).toInt else 0) + osum S node lo hi n (k + 1)
/-- a row of FEASTS that are -/
def FRW (S : Nat → Int32) (n k : Nat) : Prop := ∀ i : Nat, k ≤ i → i < k + n → (0 ≤ (S (336 + 3 * i + 1)).toInt ∧ (S (336 + 3 * i + 1)).toInt ≤ 4166) ∧ (1 ≤ (S (336 + 3 * i + 2)).toInt ∧ (S (336 + 3 * i + 2)).toInt ≤ 99999)
set_option maxHeartbeats 400000 in
theorem FRW_s {S : Nat → Int32} {n k : Nat} (h : FRW S (n + 1) k) : FRW S n (k + 1) := fun i h1 h2 => h i (by omega) (by omega)
set_option maxHeartbeats 400000 in
theorem dsum_in {S : Nat → Int32} {node : Int32} {day : Int} : ∀ (n k : Nat), FRW S n k → 0 ≤ dsum S node day n k ∧ dsum S node day n k ≤ 99999 * n
  | 0, _, _ => by unfold dsum; omega
  | n + 1, k, h => by
    have a := dsum_in (node := node) (day := day) n (k + 1) (FRW_s h)
    have b := (h k (by omega) (by omega)).2
    unfold dsum
    split <;> omega
set_option maxHeartbeats 400000 in
theorem osum_in {S : Nat → Int32} {node : Int32} {lo hi : Int} : ∀ (n k : Nat), FRW S n k → 0 ≤ osum S node lo hi n k ∧ osum S node lo hi n k ≤ 99999 * n
  | 0, _, _ => by unfold osum; omega
  | n + 1, k, h => by
    have a := osum_in (node := node) (lo := lo) (hi := hi) n (k + 1) (FRW_s h)
    have b := (h k (by omega) (by omega)).2
    unfold osum
    split <;> omega
set_option maxHeartbeats 400000 in
theorem osum_st {S : Nat → Int32} {node : Int32} {lo hi : Int} (hlt : lo < hi) : ∀ (n k : Nat), osum S node lo hi n k = (if lo % 24 = 12 then dsum S node (lo / 24) n k else 0) + osum S node (lo + 1) hi n k
  | 0, _ => by unfold osum dsum; split <;> rfl
  | n + 1, k => by
    have a := osum_st (S := S) (node := node) hlt n (k + 1)
    unfold osum dsum
    rw [a]
    by_cases m : lo % 24 = 12
    · rw [if_pos m, if_pos m]
      by_cases p : S (336 + 3 * k) = node
      · by_cases d : (S (336 + 3 * k + 1)).toInt = lo / 24
        · rw [if_pos ⟨p, by omega, by omega⟩, if_pos ⟨p, d⟩, if_neg (fun q => by have := q.2.1; omega)]
          omega
        · rw [if_neg (show ¬ (S (336 + 3 * k) = node ∧ (S (336 + 3 * k + 1)).toInt = lo / 24) from fun q => d q.2)]
          by_cases e : lo + 1 ≤ 24 * (S (336 + 3 * k + 1)).toInt + 12 ∧ 24 * (S (336 + 3 * k + 1)).toInt + 12 < hi
          · rw [if_pos ⟨p, by omega, e.2⟩, if_pos ⟨p, e.1, e.2⟩]
            omega
          · rw [if_neg (fun q => e ⟨by have := q.2.1; omega, q.2.2⟩), if_neg (fun q => e ⟨q.2.1, q.2.2⟩)]
            omega
      · rw [if_neg (fun q => p q.1), if_neg (fun q => p q.1), if_neg (fun q => p q.1)]
        omega
    · rw [if_neg m, if_neg m]
      by_cases e : S (336 + 3 * k) = node ∧ lo + 1 ≤ 24 * (S (336 + 3 * k + 1)).toInt + 12 ∧ 24 * (S (336 + 3 * k + 1)).toInt + 12 < hi
      · rw [if_pos ⟨e.1, by have := e.2.1; omega, e.2.2⟩, if_pos e]
        omega
      · rw [if_neg (fun q => e ⟨q.1, by have := q.2.1; omega, q.2.2⟩), if_neg e]
        all_goals omega
set_option maxHeartbeats 400000 in
theorem osum_hi {S : Nat → Int32} {node : Int32} {lo hi : Int} : ∀ (n k : Nat), (∀ i : Nat, k ≤ i → i < k + n → S (336 + 3 * i) = node → 24 * (S (336 + 3 * i + 1)).toInt + 12 < hi → 24 * (S (336 + 3 * i + 1)).toInt + 12 < lo) → osum S node lo hi n k = 0
  | 0, _, _ => rfl
  | n + 1, k, h => by
    unfold osum
    rw [osum_hi n (k + 1) (fun i h1 h2 => h i (by omega) (by omega)), if_neg (fun q => by have := h k (by omega) (by omega) q.1 q.2.2; have := q.2.1; omega)]
    rfl
set_option maxHeartbeats 400000 in
theorem osum_ge {S : Nat → Int32} {node : Int32} {lo hi : Int} : ∀ (n k i : Nat), FRW S n k → k ≤ i → i < k + n → S (336 + 3 * i) = node → lo ≤ 24 * (S (336 + 3 * i + 1)).toInt + 12 → 24 * (S (336 + 3 * i + 1)).toInt + 12 < hi → 1 ≤ osum S node lo hi n k
  | 0, k, i, _, h1, h2, _, _, _ => absurd h2 (by omega)
  | n + 1, k, i, f, h1, h2, p, a, b => by
    have c := osum_in (node := node) (lo := lo) (hi := hi) n (k + 1) (FRW_s f)
    have d := (f k (by omega) (by omega)).2
    unfold osum
    by_cases e : i = k
    · subst e
      rw [if_pos ⟨p, a, b⟩]
      omega
    · have := osum_ge n (k + 1) i (FRW_s f) (by omega) (by omega) p a b
      split <;> omega
set_option maxHeartbeats 400000 in
theorem dsI_t {S : Nat → Int32} {node day : Int32} : ∀ (n k : Nat), n ≤ 8 → FRW S n k → (dsI S node day n k).toInt = dsum S node day.toInt n k
  | 0, _, _, _ => z_i0
  | n + 1, k, hn, h => by
    have a := dsI_t (node := node) (day := day) n (k + 1) (by omega) (FRW_s h)
    have b := dsum_in (node := node) (day := day.toInt) n (k + 1) (FRW_s h)
    have c := (h k (by omega) (by omega)).2
    unfold dsI dsum
    by_cases d : S (336 + 3 * k + 1) = day
    · rw [if_pos d]
      by_cases p : S (336 + 3 * k) = node
      · rw [if_pos p, if_pos ⟨p, by rw [d]⟩, zadd (by omega) (by omega), a]
      · rw [if_neg p, if_neg (fun q => p q.1), zadd (by rw [z_i0]; omega) (by rw [z_i0]; omega), a, z_i0]
    · rw [if_neg d, if_neg (fun q => d (Int32.toInt_inj.mp q.2)), zadd (by rw [z_i0]; omega) (by rw [z_i0]; omega), a, z_i0]
def eatI (S : Nat → Int32) (node t : Int32) : Int32 := if t - t / 24 * 24 = 12 then dsI S node (t / 24) (S 4).toNatClampNeg 0 else 0
set_option maxHeartbeats 400000 in
theorem FRW_of {S : Nat → Int32} (g : GD S) (x : XT S) : FRW S (S 4).toNatClampNeg 0 := fun i h1 h2 => by
  have b := GD_4 g
  have := tn_eq b.1
  have q := x.2.2 i (by omega)
  exact q
set_option maxHeartbeats 400000 in
theorem eat_t {S : Nat → Int32} {node t : Int32} (g : GD S) (x : XT S) (t0 : 0 ≤ t.toInt) (ht1 : t.toInt < 2000000) : (eatI S node t).toInt = (if t.toInt % 24 = 12 then dsum S node (t.toInt / 24) (S 4).toNatClampNeg 0 else 0) := by
  have b := GD_4 g
  have b4 := tn_eq b.1
  have m := mod24 t0 ht1
  unfold eatI
  by_cases c : t - t / 24 * 24 = 12
  · rw [if_pos c, if_pos (by rw [← m, c, c12]), dsI_t _ _ (by omega) (FRW_of g x), div24 t0]
  · rw [if_neg c, if_neg (fun q => c (Int32.toInt_inj.mp (by rw [m, q, c12]))), z_i0]
/-- ENOUGH: m hours more -/
def enB (S : Nat → Int32) (L : Cls) (node : Int32) : Nat → Int32 → Int32 → Bool
  | 0, _, _ => true
  | m + 1, t, n => if n < eatI S node t then false else enB S L node m (t + 1) (n - eatI S node t - rst S L node t (n - eatI S node t))
set_option maxHeartbeats 400000 in
theorem enB_s {S : Nat → Int32} {L : Cls} {node t n : Int32} {m : Nat} : enB S L node (m + 1) t n = if n < eatI S node t then false else enB S L node m (t + 1) (n - eatI S node t - rst S L node t (n - eatI S node t)) := rfl
/-- the last noon that counts -/
def LAST (S : Nat → Int32) (node : Int32) (hi last : Int) : Prop := (∀ i : Nat, i < (S 4).toNatClampNeg → S (336 + 3 * i) = node → 24 * (S (336 + 3 * i + 1)).toInt + 12 < hi → 24 * (S (336 + 3 * i + 1)).toInt + 12 ≤ last) ∧ (last = -1 ∨ ∃ i : Nat, i < (S 4).toNatClampNeg ∧ S (336 + 3 * i) = node ∧ 24 * (S (336 + 3 * i + 1)).toInt + 12 = last ∧ last < hi)
set_option maxHeartbeats 400000 in
theorem eat_le {S : Nat → Int32} {node t : Int32} {hi : Int} (g : GD S) (x : XT S) (t0 : 0 ≤ t.toInt) (ht1 : t.toInt < 2000000) (hlt : t.toInt < hi) : osum S node t.toInt hi (S 4).toNatClampNeg 0 = (eatI S node t).toInt + osum S node (t.toInt + 1) hi (S 4).toNatClampNeg 0 := by
  rw [eat_t g x t0 ht1]
  exact osum_st hlt _ _
set_option maxHeartbeats 400000 in
theorem en_no {S : Nat → Int32} {L : Cls} {node : Int32} {hi last : Int} (g : GD S) (x : XT S) (hl : LAST S node hi last) (h9 : last < 1000000) (hh : hi < 1000000) : ∀ (m : Nat) (t n : Int32), 0 ≤ t.toInt → t.toInt ≤ hi → m = (last + 1 - t.toInt).toNat → 0 ≤ n.toInt → n.toInt ≤ 999999 → n.toInt < osum S node t.toInt hi (S 4).toNatClampNeg 0 → enB S L node m t n = false := by
  intro m
  induction m with
  | zero =>
    intro t n t0 th hm n0 n9 hlt
    have z := osum_hi (S := S) (node := node) (lo := t.toInt) (hi := hi) (S 4).toNatClampNeg 0 (fun i h1 h2 p q => by have := hl.1 i (by omega) p q; omega)
    omega
  | succ m ih =>
    intro t n t0 th hm n0 n9 hlt
    have tl : t.toInt < hi := by
      rcases hl.2 with q | ⟨i, _, _, _, q⟩ <;> omega
    have e := eat_le (node := node) (hi := hi) g x t0 (by omega) tl
    have et := eat_t (node := node) g x t0 (by omega)
    have ed := dsum_in (node := node) (day := t.toInt / 24) _ _ (FRW_of g x)
    have e0 : 0 ≤ (eatI S node t).toInt := by rw [et]; split <;> omega
    have ht1 : (t + 1).toInt = t.toInt + 1 := zadd1 (by omega)
    rw [enB_s]
    by_cases c : n < eatI S node t
    · rw [if_pos c]
    · have c' := mt Int32.lt_iff_toInt_lt.mpr c
      have hs1 : (n - eatI S node t).toInt = n.toInt - (eatI S node t).toInt := zsub (by omega) (by omega)
      have r := rst_in (S := S) (L := L) (k := node) (h := t) (has := n - eatI S node t) (by omega) (by omega)
      have rl : (n - eatI S node t - rst S L node t (n - eatI S node t)).toInt ≤ (n - eatI S node t).toInt := by
        have hn := held_in (x := lsm (nwd S t node (n - eatI S node t) 0 0) 1 L) (m := n - eatI S node t) (by omega)
        have hs2 : (n - eatI S node t - rst S L node t (n - eatI S node t)).toInt = (n - eatI S node t).toInt - (rst S L node t (n - eatI S node t)).toInt := by
          unfold rst
          exact zsub (by omega) (by omega)
        rw [hs2]
        unfold rst
        omega
      rw [if_neg c]
      refine ih (t + 1) _ (by omega) (by omega) (by omega) r.1 r.2 ?_
      rw [ht1]
      omega
set_option maxHeartbeats 400000 in
theorem cls_owed {S fF : Nat → Int32} {zf now node : Int32} (g : GD S) (x : XT S) (hf : FE fF S) (ezf : zf = S 4) (n0 : 0 ≤ now.toInt) (n9 : now.toInt ≤ 99999) : (fX0_owedAt zf fF now node).toInt = osum S node now.toInt (now.toInt + 1440) (S 4).toNatClampNeg 0 := by
  have b := GD_4 g
  have b4 := tn_eq b.1
  have i1440 : (1440 : Int32).toInt = 1440 := by decide
  have eh : (now + 1440).toInt = now.toInt + 1440 := by rw [zadd (by rw [i1440]; omega) (by rw [i1440]; omega), i1440]
  have lp : ∀ (n N : Nat) (f a : Int32), 0 ≤ f.toInt → f.toInt + n = (S 4).toInt → 0 ≤ a.toInt → a.toInt ≤ 99999 * f.toInt → n < N → (fl_mX0_owedAt_5 zf fF now node (fun _ c => c) N f a).toInt = a.toInt + osum S node now.toInt (now.toInt + 1440) n f.toNatClampNeg := by
    intro n
    induction n with
    | zero =>
      intro N f a f0 fz a0 a9 hN
      obtain ⟨N, rfl⟩ : ∃ m, N = m + 1 := ⟨N - 1, by omega⟩
      show (fb_mX0_owedAt_5 zf fF now node (fun _ c => c) (fl_mX0_owedAt_5 zf fF now node (fun _ c => c) N) f a).toInt = _
      unfold fb_mX0_owedAt_5 osum
      rw [if_pos (show zf ≤ f by rw [ezf, Int32.le_iff_toInt_le]; omega)]
      show a.toInt = a.toInt + 0
      omega
    | succ n ih =>
      intro N f a f0 fz a0 a9 hN
      obtain ⟨N, rfl⟩ : ∃ m, N = m + 1 := ⟨N - 1, by omega⟩
      have tf := tn_eq f0
      have e1 : (f + 1).toInt = f.toInt + 1 := zadd1 (by omega)
      have ht1 : (f + 1).toNatClampNeg = f.toNatClampNeg + 1 := by show (f + 1).toInt.toNat = f.toInt.toNat + 1; omega
      have fr := FRW_of g x f.toNatClampNeg (by omega) (by omega)
      have nn := noonC fr.1.1 fr.1.2
      show (fb_mX0_owedAt_5 zf fF now node (fun _ c => c) (fl_mX0_owedAt_5 zf fF now node (fun _ c => c) N) f a).toInt = _
      unfold fb_mX0_owedAt_5 osum
      rw [if_neg (show ¬ zf ≤ f by rw [ezf, Int32.le_iff_toInt_le]; omega), bndv (fget (c := 1) hf f0 (by omega) (by decide) (by decide)), bnd_eq]
      by_cases c1 : S (336 + 3 * f.toNatClampNeg + 1) * 24 + 12 < now
      · have c1' := Int32.lt_iff_toInt_lt.mp c1
        rw [if_pos c1, bnd_eq, ih N (f + 1) a (by omega) (by omega) a0 (by omega) (by omega), ht1, if_neg (fun q => by have := q.2.1; omega)]
        omega
      · have c1' := mt Int32.lt_iff_toInt_lt.mpr c1
        rw [if_neg c1]
        by_cases c2 : now + 1440 ≤ S (336 + 3 * f.toNatClampNeg + 1) * 24 + 12
        · have c2' := Int32.le_iff_toInt_le.mp c2
          rw [if_pos c2, bnd_eq, ih N (f + 1) a (by omega) (by omega) a0 (by omega) (by omega), ht1, if_neg (fun q => by have := q.2.2; omega)]
          omega
        · have c2' := mt Int32.le_iff_toInt_le.mpr c2
          rw [if_neg c2, bndv (fget (c := 0) hf f0 (by omega) (by decide) (by decide)), Nat.add_zero]
          by_cases c3 : S (336 + 3 * f.toNatClampNeg) = node
          · have ea : (a + S (336 + 3 * f.toNatClampNeg + 2)).toInt = a.toInt + (S (336 + 3 * f.toNatClampNeg + 2)).toInt := zadd (by omega) (by omega)
            rw [if_pos c3, bndv (fget (c := 2) hf f0 (by omega) (by decide) (by decide)), bnd_eq, bnd_eq, ih N (f + 1) _ (by omega) (by omega) (by omega) (by omega) (by omega), ht1, if_pos ⟨c3, by omega, by omega⟩]
            omega
          · rw [if_neg c3, bnd_eq, ih N (f + 1) a (by omega) (by omega) a0 (by omega) (by omega), ht1, if_neg (fun q => c3 q.1)]
            omega
  unfold fX0_owedAt
  rw [lp (S 4).toNatClampNeg _ 0 0 (by decide) (by rw [z_i0]; omega) (by decide) (by decide) (by rw [z_i0, ezf]; omega), z_i0, c_k0]
  omega
set_option maxHeartbeats 400000 in
theorem cls_eat {S fF : Nat → Int32} {zf node day : Int32} (g : GD S) (hf : FE fF S) (ezf : zf = S 4) : fX0_eatenOn zf fF node day = dsI S node day (S 4).toNatClampNeg 0 := by
  have b := GD_4 g
  have b4 := tn_eq b.1
  have lp : ∀ (n N : Nat) (f a : Int32), 0 ≤ f.toInt → f.toInt + n = (S 4).toInt → n < N → fl_mX0_eatenOn_6 zf fF node day (fun _ c => c) N f a = a + dsI S node day n f.toNatClampNeg := by
    intro n
    induction n with
    | zero =>
      intro N f a f0 fz hN
      obtain ⟨N, rfl⟩ : ∃ m, N = m + 1 := ⟨N - 1, by omega⟩
      show fb_mX0_eatenOn_6 zf fF node day (fun _ c => c) (fl_mX0_eatenOn_6 zf fF node day (fun _ c => c) N) f a = _
      unfold fb_mX0_eatenOn_6 dsI
      rw [if_pos (show zf ≤ f by rw [ezf, Int32.le_iff_toInt_le]; omega), Int32.add_zero]
    | succ n ih =>
      intro N f a f0 fz hN
      obtain ⟨N, rfl⟩ : ∃ m, N = m + 1 := ⟨N - 1, by omega⟩
      have tf := tn_eq f0
      have e1 : (f + 1).toInt = f.toInt + 1 := zadd1 (by omega)
      have ht1 : (f + 1).toNatClampNeg = f.toNatClampNeg + 1 := by show (f + 1).toInt.toNat = f.toInt.toNat + 1; omega
      have ih2 := fun a => ih N (f + 1) a (by omega) (by omega) (by omega)
      rw [ht1] at ih2
      show fb_mX0_eatenOn_6 zf fF node day (fun _ c => c) (fl_mX0_eatenOn_6 zf fF node day (fun _ c => c) N) f a = _
      unfold fb_mX0_eatenOn_6 dsI
      rw [if_neg (show ¬ zf ≤ f by rw [ezf, Int32.le_iff_toInt_le]; omega), bndv (fget (c := 1) hf f0 (by omega) (by decide) (by decide))]
      by_cases c1 : S (336 + 3 * f.toNatClampNeg + 1) = day
      · rw [if_pos c1, if_pos c1, bndv (fget (c := 0) hf f0 (by omega) (by decide) (by decide)), Nat.add_zero]
        by_cases c2 : S (336 + 3 * f.toNatClampNeg) = node
        · rw [if_pos c2, if_pos c2, bndv (fget (c := 2) hf f0 (by omega) (by decide) (by decide)), bnd_eq, bnd_eq, ih2, Int32.add_assoc]
        · rw [if_neg c2, if_neg c2, bnd_eq, ih2, Int32.zero_add]
      · rw [if_neg c1, if_neg c1, bnd_eq, ih2, Int32.zero_add]
  unfold fX0_eatenOn
  rw [lp (S 4).toNatClampNeg _ 0 0 (by decide) (by rw [z_i0]; omega) (by rw [z_i0, ezf]; omega), c_k0, Int32.zero_add]
set_option maxHeartbeats 400000 in
theorem cls_last {S nF fF so s1 s2 t1 t2 yj yo y1 y2 y3 y4 y5 : Nat → Int32} {zf now z node yc : Int32} {L : Cls} {last : Int} (g : GD S) (x : XT S) (hL : LWX so s1 s2 t1 t2 yj yo y1 y2 y3 y4 y5 yc L) (hn : NE nF S) (hf : FE fF S) (ezf : zf = S 4) (hz : z = S 6) (hk : rN node) (n0 : 0 ≤ now.toInt) (n9 : now.toInt ≤ 99999) (hl : LAST S node (now.toInt + 1440) last) (h9 : last < 1000000) : ∀ (m N : Nat) (c : Nat → Int32) (i ow has t : Int32), 0 ≤ i.toInt → i.toInt + m = 1440 → t.toInt = now.toInt + i.toInt → ow.toInt = osum S node t.toInt (now.toInt + 1440) (S 4).toNatClampNeg 0 → 0 ≤ has.toInt → has.toInt ≤ 999999 → m < N → (fl_mX0_lasts_15 nF zf fF now z so s1 s2 t1 t2 yj yo y1 y2 y3 y4 y5 yc node (fun (w35_0_0 : Nat → Int32) (w35_1_0 : Int32) (w35_2_0 : Int32) (w35_3_0 : Int32) => (w35_0_0, 0)) (fun (w105_0_0 : Nat → Int32) (w105_1_0 : Int32) (w105_2_0 : Int32) (w105_3_0 : Int32) => (w105_0_0, 1)) N c i ow has).2 = if enB S L node (last + 1 - t.toInt).toNat t has = true then 1 else 0 := by
  have b := GD_4 g
  have b4 := tn_eq b.1
  have i1440 : (1440 : Int32).toInt = 1440 := by decide
  have fr := FRW_of g x
  have full : ∀ t : Int, 0 ≤ t → osum S node t (now.toInt + 1440) (S 4).toNatClampNeg 0 = 0 → last < t := by
    intro t t0 h
    rcases hl.2 with q | ⟨k, k1, k2, k3, k4⟩
    · omega
    · by_cases c : last < t
      · exact c
      · have := osum_ge (lo := t) (hi := now.toInt + 1440) (S 4).toNatClampNeg 0 k fr (by omega) (by omega) k2 (by omega) (by omega)
        omega
  intro m
  induction m with
  | zero =>
    intro N c i ow has t i0 iz et eo h0 h9' hN
    obtain ⟨N, rfl⟩ : ∃ m, N = m + 1 := ⟨N - 1, by omega⟩
    have zz : last + 1 - t.toInt ≤ 0 := by
      rcases hl.2 with q | ⟨k, k1, k2, k3, k4⟩ <;> omega
    show (fb_mX0_lasts_15 nF zf fF now z so s1 s2 t1 t2 yj yo y1 y2 y3 y4 y5 yc node _ _ (fl_mX0_lasts_15 nF zf fF now z so s1 s2 t1 t2 yj yo y1 y2 y3 y4 y5 yc node _ _ N) c i ow has).2 = _
    unfold fb_mX0_lasts_15
    rw [if_pos (show 1440 ≤ i by rw [Int32.le_iff_toInt_le, i1440]; omega), show (last + 1 - t.toInt).toNat = 0 from by omega]
    rfl
  | succ m ih =>
    intro N c i ow has t i0 iz et eo h0 h9' hN
    obtain ⟨N, rfl⟩ : ∃ m, N = m + 1 := ⟨N - 1, by omega⟩
    have ei : (i + 1).toInt = i.toInt + 1 := zadd1 (by omega)
    have ht1 : (t + 1).toInt = t.toInt + 1 := zadd1 (by omega)
    have en : now + i = t := Int32.toInt_inj.mp (by rw [zadd (by omega) (by omega)]; omega)
    have oi := osum_in (node := node) (lo := t.toInt) (hi := now.toInt + 1440) _ _ fr
    show (fb_mX0_lasts_15 nF zf fF now z so s1 s2 t1 t2 yj yo y1 y2 y3 y4 y5 yc node _ _ (fl_mX0_lasts_15 nF zf fF now z so s1 s2 t1 t2 yj yo y1 y2 y3 y4 y5 yc node _ _ N) c i ow has).2 = _
    unfold fb_mX0_lasts_15
    rw [if_neg (show ¬ 1440 ≤ i by rw [Int32.le_iff_toInt_le, i1440]; omega)]
    by_cases c1 : ow ≤ 0
    · have c1' := Int32.le_iff_toInt_le.mp c1
      rw [z_i0] at c1'
      have := full t.toInt (by omega) (by omega)
      rw [if_pos c1, show (last + 1 - t.toInt).toNat = 0 from by omega]
      rfl
    · have c1' := mt Int32.le_iff_toInt_le.mpr c1
      rw [z_i0] at c1'
      rw [if_neg c1]
      by_cases c2 : ow ≤ has
      · have c2' := Int32.le_iff_toInt_le.mp c2
        have tl : t.toInt ≤ last := by
          by_cases q : t.toInt ≤ last
          · exact q
          · have := osum_hi (S := S) (node := node) (lo := t.toInt) (hi := now.toInt + 1440) (S 4).toNatClampNeg 0 (fun k h1 h2 p q2 => by have := hl.1 k (by omega) p q2; omega)
            omega
        have ee := eat_le (node := node) (hi := now.toInt + 1440) g x (t := t) (by omega) (by omega) (by omega)
        have o2 := osum_in (node := node) (lo := t.toInt + 1) (hi := now.toInt + 1440) _ _ fr
        have et2 := eat_t (node := node) (t := t) g x (by omega) (by omega)
        have ed := dsum_in (node := node) (day := t.toInt / 24) _ _ fr
        have e0 : 0 ≤ (eatI S node t).toInt := by rw [et2]; split <;> omega
        have hs1 : (has - eatI S node t).toInt = has.toInt - (eatI S node t).toInt := zsub (by omega) (by omega)
        have hs2 : (ow - eatI S node t).toInt = ow.toInt - (eatI S node t).toInt := zsub (by omega) (by omega)
        have r := rst_in (S := S) (L := L) (k := node) (h := t) (has := has - eatI S node t) (by omega) (by omega)
        have hs : (last + 1 - t.toInt).toNat = (last + 1 - (t + 1).toInt).toNat + 1 := by omega
        rw [if_pos c2, bndv en, bnd_eq, hs, enB_s, if_neg (show ¬ has < eatI S node t by rw [Int32.lt_iff_toInt_lt]; omega)]
        by_cases c3 : t - t / 24 * 24 = 12
        · have ea : eatI S node t = dsI S node (t / 24) (S 4).toNatClampNeg 0 := if_pos c3
          rw [if_pos c3, bnd_eq, bndv ((cls_eat g hf ezf).trans ea.symm), bnd_eq, bnd_eq, bnd_eq, bnd_eq, bndv (cls_rst hL hn hz hk), bnd_eq, bnd_eq]
          exact ih N _ (i + 1) _ _ (t + 1) (by omega) (by omega) (by omega) (by rw [ht1]; omega) r.1 r.2 (by omega)
        · have ea : eatI S node t = 0 := if_neg c3
          have eh : has - eatI S node t = has := by rw [ea]; exact Int32.sub_zero has
          rw [eh] at r ⊢
          rw [if_neg c3, bnd_eq, bnd_eq, bndv (cls_rst hL hn hz hk), bnd_eq, bnd_eq]
          exact ih N _ (i + 1) _ _ (t + 1) (by omega) (by omega) (by omega) (by rw [ht1]; rw [ea, z_i0] at ee; omega) r.1 r.2 (by omega)
      · have c2' := mt Int32.le_iff_toInt_le.mpr c2
        rw [if_neg c2, en_no g x hl h9 (by omega) _ t has (by omega) (by omega) rfl h0 h9' (by omega)]
        rfl
def lastI (S : Nat → Int32) (node : Int32) (hi : Int) : Nat → Nat → Int → Int
  | 0, _, l => l
  | n + 1, k, l => lastI S node hi n (k + 1) (if S (336 + 3 * k) = node ∧ 24 * (S (336 + 3 * k + 1)).toInt + 12 < hi ∧ l < 24 * (S (336 + 3 * k + 1)).toInt + 12 then 24 * (S (336 + 3 * k + 1)).toInt + 12 else l)
set_option maxHeartbeats 400000 in
theorem lastI_ok {S : Nat → Int32} {node : Int32} {hi : Int} : ∀ (n k : Nat) (l : Int), (∀ i : Nat, i < k → S (336 + 3 * i) = node → 24 * (S (336 + 3 * i + 1)).toInt + 12 < hi → 24 * (S (336 + 3 * i + 1)).toInt + 12 ≤ l) → (l = -1 ∨ ∃ i : Nat, i < k ∧ S (336 + 3 * i) = node ∧ 24 * (S (336 + 3 * i + 1)).toInt + 12 = l ∧ l < hi) → (∀ i : Nat, i < k + n → S (336 + 3 * i) = node → 24 * (S (336 + 3 * i + 1)).toInt + 12 < hi → 24 * (S (336 + 3 * i + 1)).toInt + 12 ≤ lastI S node hi n k l) ∧ (lastI S node hi n k l = -1 ∨ ∃ i : Nat, i < k + n ∧ S (336 + 3 * i) = node ∧ 24 * (S (336 + 3 * i + 1)).toInt + 12 = lastI S node hi n k l ∧ lastI S node hi n k l < hi)
  | 0, k, l, h1, h2 => ⟨h1, h2⟩
  | n + 1, k, l, h1, h2 => by
    unfold lastI
    rw [show k + (n + 1) = k + 1 + n from by omega]
    by_cases c : S (336 + 3 * k) = node ∧ 24 * (S (336 + 3 * k + 1)).toInt + 12 < hi ∧ l < 24 * (S (336 + 3 * k + 1)).toInt + 12
    · rw [if_pos c]
      refine lastI_ok n (k + 1) _ (fun i hi2 p q => ?_) (Or.inr ⟨k, by omega, c.1, rfl, c.2.1⟩)
      by_cases e : i = k
      · rw [e]; exact Int.le_refl _
      · have := h1 i (by omega) p q
        have := c.2.2
        omega
    · rw [if_neg c]
      refine lastI_ok n (k + 1) _ (fun i hi2 p q => ?_) ?_
      · by_cases e : i = k
        · subst e
          by_cases y : 24 * (S (336 + 3 * i + 1)).toInt + 12 ≤ l
          · exact y
          · exact absurd ⟨p, q, by omega⟩ c
        · exact h1 i (by omega) p q
      · rcases h2 with q | ⟨i, i1, i2, i3⟩
        · exact Or.inl q
        · exact Or.inr ⟨i, by omega, i2, i3⟩
def enL (S : Nat → Int32) (node : Int32) : Int := lastI S node ((S 5).toInt + 1440) (S 4).toNatClampNeg 0 (-1)
set_option maxHeartbeats 400000 in
theorem enL_ok (S : Nat → Int32) (node : Int32) : LAST S node ((S 5).toInt + 1440) (enL S node) := by
  have q := lastI_ok (S := S) (node := node) (hi := (S 5).toInt + 1440) (S 4).toNatClampNeg 0 (-1) (fun i hi2 => absurd hi2 (by omega)) (Or.inl rfl)
  rw [Nat.zero_add] at q
  exact q
set_option maxHeartbeats 400000 in
theorem enL_in {S : Nat → Int32} {node : Int32} (g : GD S) : enL S node < 101439 := by
  have b := g.2.2
  have q := enL_ok S node
  rcases q.2 with e | ⟨i, i1, i2, i3, i4⟩ <;> omega
/-- is it ENOUGH? -/
def enF (S : Nat → Int32) (L : Cls) (node n : Int32) : Int32 := if enB S L node (enL S node + 1 - (S 5).toInt).toNat (S 5) n = true then 1 else 0
set_option maxHeartbeats 400000 in
theorem cls_lasts {S cF nF fF so s1 s2 t1 t2 yj yo y1 y2 y3 y4 y5 : Nat → Int32} {zf now z node n yc : Int32} {L : Cls} (g : GD S) (x : XT S) (hL : LWX so s1 s2 t1 t2 yj yo y1 y2 y3 y4 y5 yc L) (hn : NE nF S) (hf : FE fF S) (ezf : zf = S 4) (en : now = S 5) (hz : z = S 6) (hk : rN node) (n0 : 0 ≤ n.toInt) (n9 : n.toInt ≤ 999999) : (fX0_lasts cF nF zf fF now z so s1 s2 t1 t2 yj yo y1 y2 y3 y4 y5 yc node n).2 = enF S L node n := by
  have a0 := GD_5 g
  have a9 := g.2.2
  subst en
  have q := cls_owed (node := node) g x hf ezf a0 a9
  unfold fX0_lasts enF
  rw [bnd_eq]
  exact cls_last g x hL hn hf ezf hz hk a0 a9 (enL_ok S node) (by have := enL_in (node := node) g; omega) 1440 _ cF 0 _ n (S 5) (by decide) (by decide) (by rw [z_i0]; omega) q n0 n9 (by decide)
set_option maxHeartbeats 400000 in
theorem ref_last {S : Nat → Int32} {node : Int32} {E : Int32 → Int32 → (Int32 × (Nat → Int64) × (Nat → Int64) × Int32)} (g : GD S) (x : XT S) : ∀ (n N : Nat) (f l : Int32), 0 ≤ f.toInt → f.toInt + n = (S 4).toInt → n < N → ∃ l' : Int32, fl_mX11_isEnough_9 S (S 4) node E N f l = E (S 4) l' ∧ l'.toInt = lastI S node ((S 5).toInt + 1440) n f.toNatClampNeg l.toInt := by
  have b := GD_4 g
  have b4 := tn_eq b.1
  have a0 := GD_5 g
  have a9 := g.2.2
  have i1440 : (1440 : Int32).toInt = 1440 := by decide
  have eh : (S 5 + 1440).toInt = (S 5).toInt + 1440 := by rw [zadd (by rw [i1440]; omega) (by rw [i1440]; omega), i1440]
  intro n
  induction n with
  | zero =>
    intro N f l f0 fz hN
    obtain ⟨N, rfl⟩ : ∃ m, N = m + 1 := ⟨N - 1, by omega⟩
    have e : f = S 4 := Int32.toInt_inj.mp (by omega)
    refine ⟨l, ?_, rfl⟩
    show fb_mX11_isEnough_9 S (S 4) node E (fl_mX11_isEnough_9 S (S 4) node E N) f l = _
    unfold fb_mX11_isEnough_9
    rw [e, if_pos (Int32.le_refl _)]
  | succ n ih =>
    intro N f l f0 fz hN
    obtain ⟨N, rfl⟩ : ∃ m, N = m + 1 := ⟨N - 1, by omega⟩
    have tf := tn_eq f0
    have e1 : (f + 1).toInt = f.toInt + 1 := zadd1 (by omega)
    have ht1 : (f + 1).toNatClampNeg = f.toNatClampNeg + 1 := by show (f + 1).toInt.toNat = f.toInt.toNat + 1; omega
    have fr := FRW_of g x f.toNatClampNeg (by omega) (by omega)
    have nn := noonR fr.1.1 fr.1.2
    have q0 := c_fe (q := 0) (c := 0) f0 (by omega) (by decide) (by decide)
    rw [Int32.add_zero, Nat.add_zero] at q0
    have q1 := c_fe (q := 1) (c := 1) f0 (by omega) (by decide) (by decide)
    have ih2 := fun l => ih N (f + 1) l (by omega) (by omega) (by omega)
    rw [ht1] at ih2
    show ∃ l' : Int32, fb_mX11_isEnough_9 S (S 4) node E (fl_mX11_isEnough_9 S (S 4) node E N) f l = _ ∧ _
    unfold fb_mX11_isEnough_9 lastI
    rw [if_neg (show ¬ S 4 ≤ f by rw [Int32.le_iff_toInt_le]; omega), bndv (congrArg S q1), bnd_eq, bndv (congrArg S q0), show 336 + (3 * f.toNatClampNeg + 1) = 336 + 3 * f.toNatClampNeg + 1 from by omega]
    by_cases c1 : S (336 + 3 * f.toNatClampNeg) = node
    · rw [if_pos c1]
      by_cases c2 : S 5 + 1440 ≤ 24 * S (336 + 3 * f.toNatClampNeg + 1) + 12
      · have c2' := Int32.le_iff_toInt_le.mp c2
        rw [if_pos c2, bnd_eq, if_neg (fun q => by have := q.2.1; omega)]
        exact ih2 l
      · have c2' := mt Int32.le_iff_toInt_le.mpr c2
        rw [if_neg c2]
        by_cases c3 : 24 * S (336 + 3 * f.toNatClampNeg + 1) + 12 ≤ l
        · have c3' := Int32.le_iff_toInt_le.mp c3
          rw [if_pos c3, bnd_eq, if_neg (fun q => by have := q.2.2; omega)]
          exact ih2 l
        · have c3' := mt Int32.le_iff_toInt_le.mpr c3
          rw [if_neg c3, bnd_eq, if_pos ⟨c1, by omega, by omega⟩, ← nn]
          exact ih2 _
    · rw [if_neg c1, bnd_eq, if_neg (fun q => c1 q.1)]
      exact ih2 l
set_option maxHeartbeats 400000 in
theorem ref_day {S : Nat → Int32} {node t : Int32} {E1 : Int32 → Int32 → Int32 → (Int32 × (Nat → Int64) × (Nat → Int64) × Int32)} {E2 : Int32 → Int32 → (Int32 × (Nat → Int64) × (Nat → Int64) × Int32)} (g : GD S) (x : XT S) (ht : t - t / 24 * 24 = 12) : ∀ (m N : Nat) (f n : Int32), 0 ≤ f.toInt → f.toInt + m = (S 4).toInt → 0 ≤ n.toInt → n.toInt ≤ 999999 → m < N → (n.toInt < (dsI S node (t / 24) m f.toNatClampNeg).toInt ∧ ∃ a b c, fl_mX11_isEnough_110 S (S 4) node t E1 E2 N f n = E1 a b c) ∨ ((¬ n.toInt < (dsI S node (t / 24) m f.toNatClampNeg).toInt) ∧ ∃ f', fl_mX11_isEnough_110 S (S 4) node t E1 E2 N f n = E2 f' (n - dsI S node (t / 24) m f.toNatClampNeg)) := by
  have b := GD_4 g
  have b4 := tn_eq b.1
  have frw := FRW_of g x
  intro m
  induction m with
  | zero =>
    intro N f n f0 fz n0 n9 hN
    obtain ⟨N, rfl⟩ : ∃ m, N = m + 1 := ⟨N - 1, by omega⟩
    refine Or.inr ⟨?_, f, ?_⟩
    · unfold dsI
      rw [z_i0]
      omega
    · show fb_mX11_isEnough_110 S (S 4) node t E1 E2 (fl_mX11_isEnough_110 S (S 4) node t E1 E2 N) f n = _
      unfold fb_mX11_isEnough_110 dsI
      rw [if_pos (show S 4 ≤ f by rw [Int32.le_iff_toInt_le]; omega), Int32.sub_zero]
  | succ m ih =>
    intro N f n f0 fz n0 n9 hN
    obtain ⟨N, rfl⟩ : ∃ m, N = m + 1 := ⟨N - 1, by omega⟩
    have tf := tn_eq f0
    have e1 : (f + 1).toInt = f.toInt + 1 := zadd1 (by omega)
    have ht1 : (f + 1).toNatClampNeg = f.toNatClampNeg + 1 := by show (f + 1).toInt.toNat = f.toInt.toNat + 1; omega
    have fr := frw f.toNatClampNeg (by omega) (by omega)
    have q0 := c_fe (q := 0) (c := 0) f0 (by omega) (by decide) (by decide)
    rw [Int32.add_zero, Nat.add_zero] at q0
    have q1 := c_fe (q := 1) (c := 1) f0 (by omega) (by decide) (by decide)
    have q2 := c_fe (q := 2) (c := 2) f0 (by omega) (by decide) (by decide)
    have ih2 := fun n => ih N (f + 1) n (by omega) (by omega)
    rw [ht1] at ih2
    have fm : FRW S m (f.toNatClampNeg + 1) := fun i h1 h2 => frw i (by omega) (by omega)
    have dt := dsI_t (node := node) (day := t / 24) m (f.toNatClampNeg + 1) (by omega) fm
    have di := dsum_in (node := node) (day := (t / 24).toInt) m (f.toNatClampNeg + 1) fm
    show (_ ∧ ∃ a b c, fb_mX11_isEnough_110 S (S 4) node t E1 E2 (fl_mX11_isEnough_110 S (S 4) node t E1 E2 N) f n = _) ∨ (_ ∧ ∃ f', fb_mX11_isEnough_110 S (S 4) node t E1 E2 (fl_mX11_isEnough_110 S (S 4) node t E1 E2 N) f n = _)
    unfold fb_mX11_isEnough_110 dsI
    rw [if_neg (show ¬ S 4 ≤ f by rw [Int32.le_iff_toInt_le]; omega), bnd_eq, if_pos ht, bnd_eq, bndv (congrArg S q0)]
    by_cases c1 : S (336 + 3 * f.toNatClampNeg) = node
    · rw [if_pos c1, if_pos c1, bndv (congrArg S q1), bnd_eq, show 336 + (3 * f.toNatClampNeg + 1) = 336 + 3 * f.toNatClampNeg + 1 from by omega]
      by_cases c2 : S (336 + 3 * f.toNatClampNeg + 1) = t / 24
      · have ed : (S (336 + 3 * f.toNatClampNeg + 2) + dsI S node (t / 24) m (f.toNatClampNeg + 1)).toInt = (S (336 + 3 * f.toNatClampNeg + 2)).toInt + (dsI S node (t / 24) m (f.toNatClampNeg + 1)).toInt := zadd (by omega) (by omega)
        rw [if_pos c2, if_pos c2, bndv (congrArg S q2), show 336 + (3 * f.toNatClampNeg + 2) = 336 + 3 * f.toNatClampNeg + 2 from by omega, ed]
        by_cases c3 : S (336 + 3 * f.toNatClampNeg + 2) ≤ n
        · have c3' := Int32.le_iff_toInt_le.mp c3
          have hs1 : (n - S (336 + 3 * f.toNatClampNeg + 2)).toInt = n.toInt - (S (336 + 3 * f.toNatClampNeg + 2)).toInt := zsub (by omega) (by omega)
          rw [if_pos c3, bndv (congrArg S q2), show 336 + (3 * f.toNatClampNeg + 2) = 336 + 3 * f.toNatClampNeg + 2 from by omega, bnd_eq, bnd_eq]
          rcases ih2 (n - S (336 + 3 * f.toNatClampNeg + 2)) (by omega) (by omega) (by omega) with ⟨r1, r2⟩ | ⟨r1, f', r2⟩
          · exact Or.inl ⟨by omega, r2⟩
          · refine Or.inr ⟨by omega, f', ?_⟩
            rw [r2]
            have hs2 : n - S (336 + 3 * f.toNatClampNeg + 2) - dsI S node (t / 24) m (f.toNatClampNeg + 1) = n - (S (336 + 3 * f.toNatClampNeg + 2) + dsI S node (t / 24) m (f.toNatClampNeg + 1)) := Int32.toInt_inj.mp (by rw [zsub (by omega) (by omega), hs1, zsub (by omega) (by omega), ed]; omega)
            rw [hs2]
        · have c3' := mt Int32.le_iff_toInt_le.mpr c3
          rw [if_neg c3]
          exact Or.inl ⟨by omega, _, _, _, rfl⟩
      · rw [if_neg c2, if_neg c2, bnd_eq, Int32.zero_add]
        exact ih2 n n0 n9 (by omega)
    · rw [if_neg c1, if_neg c1, bnd_eq, ite_self, Int32.zero_add]
      exact ih2 n n0 n9 (by omega)
set_option maxHeartbeats 400000 in
theorem ref_nday {S : Nat → Int32} {node t : Int32} {E1 : Int32 → Int32 → Int32 → (Int32 × (Nat → Int64) × (Nat → Int64) × Int32)} {E2 : Int32 → Int32 → (Int32 × (Nat → Int64) × (Nat → Int64) × Int32)} (ht : ¬ t - t / 24 * 24 = 12) (N : Nat) (f n : Int32) : fl_mX11_isEnough_110 S (S 4) node t E1 E2 (N + 1) f n = E2 f n := by
  show fb_mX11_isEnough_110 S (S 4) node t E1 E2 (fl_mX11_isEnough_110 S (S 4) node t E1 E2 N) f n = _
  unfold fb_mX11_isEnough_110
  by_cases c : S 4 ≤ f
  · rw [if_pos c]
  · rw [if_neg c, bnd_eq, if_neg ht]
set_option maxHeartbeats 400000 in
theorem ref_hours {S sg cl cs : Nat → Int32} {law node last : Int32} {L : Cls} {E1 : Int32 → (Nat → Int64) → (Nat → Int64) → Int32 → Int32 → Int32 → Int32 → (Int32 × (Nat → Int64) × (Nat → Int64) × Int32)} {E2 : Int32 → (Nat → Int64) → (Nat → Int64) → Int32 → Int32 → (Int32 × (Nat → Int64) × (Nat → Int64) × Int32)} (k0 : ∀ a b c d e f h, (E1 a b c d e f h).2.2.2 = 0) (k1 : ∀ a b c d e, (E2 a b c d e).2.2.2 = 1) (g : GD S) (x : XT S) (hL : LWR sg cl cs law L) (hk : rN node) (h9 : last.toInt < 900000) : ∀ (m N : Nat) (v t n : Int32) (g1 g2 : Nat → Int64), 0 ≤ t.toInt → t.toInt < 1000000 → m = (last.toInt + 1 - t.toInt).toNat → 0 ≤ n.toInt → n.toInt ≤ 999999 → m < N → (fl_mX11_isEnough_100 sg cl cs S (S 4) (S 6) law node last E1 E2 N v g1 g2 t n).2.2.2 = if enB S L node m t n = true then 1 else 0 := by
  have b := GD_4 g
  have b4 := tn_eq b.1
  intro m
  induction m with
  | zero =>
    intro N v t n g1 g2 t0 t9 hm n0 n9 hN
    obtain ⟨N, rfl⟩ : ∃ m, N = m + 1 := ⟨N - 1, by omega⟩
    show (fb_mX11_isEnough_100 sg cl cs S (S 4) (S 6) law node last E1 E2 (fl_mX11_isEnough_100 sg cl cs S (S 4) (S 6) law node last E1 E2 N) v g1 g2 t n).2.2.2 = _
    unfold fb_mX11_isEnough_100
    rw [if_pos (show last < t by rw [Int32.lt_iff_toInt_lt]; omega), k1]
    rfl
  | succ m ih =>
    intro N v t n g1 g2 t0 t9 hm n0 n9 hN
    obtain ⟨N, rfl⟩ : ∃ m, N = m + 1 := ⟨N - 1, by omega⟩
    have ht1 : (t + 1).toInt = t.toInt + 1 := zadd1 (by omega)
    have et2 := eat_t (node := node) (t := t) g x (by omega) (by omega)
    have ed := dsum_in (node := node) (day := t.toInt / 24) _ _ (FRW_of g x)
    have e0 : 0 ≤ (eatI S node t).toInt := by rw [et2]; split <;> omega
    have go : ∀ (f' : Int32), ¬ n.toInt < (eatI S node t).toInt → (bnd (fX11_nodeWords g2 S (S 6) t node (n - eatI S node t) 0 0) (fun (oy100_5 : Nat → Int64) => bnd (fX11_summed v sg cl cs g1 oy100_5 law 1) (fun (qy100_16 : Int32 × (Nat → Int64) × Int64) => bnd (qy100_16.1) (fun (oy100_11 : Int32) => bnd (qy100_16.2.1) (fun (oy100_12 : Nat → Int64) => bnd (qy100_16.2.2) (fun (ry100_10 : Int64) => bnd (fX11_bounded ry100_10 0 (n - eatI S node t).toInt64) (fun (ry100_19 : Int64) => bnd (ry100_19.toInt32) (fun (xy100_24 : Int32) => bnd (((n - eatI S node t) - xy100_24)) (fun (xy100_25 : Int32) => bnd ((t + 1)) (fun (xy100_26 : Int32) => fl_mX11_isEnough_100 sg cl cs S (S 4) (S 6) law node last E1 E2 N oy100_11 oy100_12 oy100_5 xy100_26 xy100_25)))))))))).2.2.2 = if enB S L node (m + 1) t n = true then 1 else 0 := by
      intro f' hlt
      have hs1 : (n - eatI S node t).toInt = n.toInt - (eatI S node t).toInt := zsub (by omega) (by omega)
      have r := rst_in (S := S) (L := L) (k := node) (h := t) (has := n - eatI S node t) (by omega) (by omega)
      have rr := ref_rst (S := S) (sk := g1) (wd := g2) (top := v) (hour := t) (has := n - eatI S node t) hL hk
      rw [enB_s, if_neg (show ¬ n < eatI S node t by rw [Int32.lt_iff_toInt_lt]; exact hlt), bnd_eq, bnd_eq, bnd_eq, bnd_eq, bnd_eq, bnd_eq, bndv rr, bnd_eq, bnd_eq]
      exact ih N _ (t + 1) _ _ _ (by omega) (by omega) (by omega) r.1 r.2 (by omega)
    show (fb_mX11_isEnough_100 sg cl cs S (S 4) (S 6) law node last E1 E2 (fl_mX11_isEnough_100 sg cl cs S (S 4) (S 6) law node last E1 E2 N) v g1 g2 t n).2.2.2 = _
    unfold fb_mX11_isEnough_100
    rw [if_neg (show ¬ last < t by rw [Int32.lt_iff_toInt_lt]; omega)]
    by_cases c : t - t / 24 * 24 = 12
    · have ea : eatI S node t = dsI S node (t / 24) (S 4).toNatClampNeg 0 := if_pos c
      rcases ref_day (node := node) (E1 := fun (w186_0_y100_0 : Int32) (w186_1_y100_0 : Int32) (w186_2_y100_0 : Int32) => E1 v g1 g2 t w186_1_y100_0 w186_0_y100_0 w186_2_y100_0) (E2 := fun (w208_0_y100_0 : Int32) (w208_1_y100_0 : Int32) => bnd (fX11_nodeWords g2 S (S 6) t node w208_1_y100_0 0 0) (fun (oy100_5 : Nat → Int64) => bnd (fX11_summed v sg cl cs g1 oy100_5 law 1) (fun (qy100_16 : Int32 × (Nat → Int64) × Int64) => bnd (qy100_16.1) (fun (oy100_11 : Int32) => bnd (qy100_16.2.1) (fun (oy100_12 : Nat → Int64) => bnd (qy100_16.2.2) (fun (ry100_10 : Int64) => bnd (fX11_bounded ry100_10 0 w208_1_y100_0.toInt64) (fun (ry100_19 : Int64) => bnd (ry100_19.toInt32) (fun (xy100_24 : Int32) => bnd ((w208_1_y100_0 - xy100_24)) (fun (xy100_25 : Int32) => bnd ((t + 1)) (fun (xy100_26 : Int32) => fl_mX11_isEnough_100 sg cl cs S (S 4) (S 6) law node last E1 E2 N oy100_11 oy100_12 oy100_5 xy100_26 xy100_25)))))))))) g x c (S 4).toNatClampNeg (((S 4 : Int32).toInt - (0 : Int32).toInt).toNat + 1) 0 n (by decide) (by rw [z_i0]; omega) n0 n9 (by rw [z_i0]; omega) with ⟨r1, q1, q2, q3, r2⟩ | ⟨r1, f', r2⟩
      · rw [c_k0, ← ea] at r1
        refine (congrArg (fun z => z.2.2.2) r2).trans ((k0 _ _ _ _ _ _ _).trans ?_)
        rw [enB_s, if_pos (show n < eatI S node t by rw [Int32.lt_iff_toInt_lt]; exact r1)]
        rfl
      · rw [c_k0, ← ea] at r1 r2
        exact (congrArg (fun z => z.2.2.2) r2).trans (go f' r1)
    · have ea : eatI S node t = 0 := if_neg c
      have g2' := go 0 (by rw [ea, z_i0]; omega)
      rw [ea, Int32.sub_zero] at g2'
      rw [ref_nday c]
      exact g2'
set_option maxHeartbeats 400000 in
theorem ref_isE {S sg cl cs : Nat → Int32} {sk wd : Nat → Int64} {top law node n : Int32} {L : Cls} (g : GD S) (x : XT S) (hL : LWR sg cl cs law L) (hk : rN node) (n0 : 0 ≤ n.toInt) (n9 : n.toInt ≤ 999999) : (fX11_isEnough top sg cl cs sk wd S (S 4) (S 6) law node n).2.2.2 = enF S L node n := by
  have b := GD_4 g
  have b4 := tn_eq b.1
  have a0 := GD_5 g
  have a9 := g.2.2
  have l9 := enL_in (node := node) g
  unfold fX11_isEnough enF
  obtain ⟨l', r, e⟩ := ref_last (node := node) (E := fun (w92_0_0 : Int32) (w92_1_0 : Int32) => bnd ((S 5)) (fun (x25 : Int32) => fl_mX11_isEnough_100 sg cl cs S (S 4) (S 6) law node w92_1_0 (fun (w186_0_1 : Int32) (w186_1_1 : Nat → Int64) (w186_2_1 : Nat → Int64) (w186_3_1 : Int32) (w186_4_1 : Int32) (w186_5_1 : Int32) (w186_6_1 : Int32) => (w186_0_1, w186_1_1, w186_2_1, 0)) (fun (w244_0_1 : Int32) (w244_1_1 : Nat → Int64) (w244_2_1 : Nat → Int64) (w244_3_1 : Int32) (w244_4_1 : Int32) => (w244_0_1, w244_1_1, w244_2_1, 1)) (((w92_1_0 : Int32).toInt + 1 - x25.toInt).toNat + 1) top sk wd x25 n)) g x (S 4).toNatClampNeg (((S 4 : Int32).toInt - (0 : Int32).toInt).toNat + 1) 0 (-1) (by decide) (by rw [z_i0]; omega) (by rw [z_i0]; omega)
  have e2 : l'.toInt = enL S node := e
  refine (congrArg (fun z => z.2.2.2) r).trans ?_
  rw [← e2] at l9 ⊢
  exact ref_hours (fun _ _ _ _ _ _ _ => rfl) (fun _ _ _ _ _ => rfl) g x hL hk (by omega) _ _ _ _ _ _ _ a0 (by omega) rfl n0 n9 (Nat.lt_succ_self _)
/-- ENOUGH, LEAST: what is answered -/
def enA (S : Nat → Int32) (L : Cls) (node n : Int32) : Int32 := if hs node (S 0) = 0 then -1 else if wi n 999999 = 0 then -1 else enF S L node n
set_option maxHeartbeats 400000 in
theorem enF_01 {S : Nat → Int32} {L : Cls} {node n : Int32} : enF S L node n = 0 ∨ enF S L node n = 1 := by
  unfold enF
  split
  · exact Or.inr rfl
  · exact Or.inl rfl
set_option maxHeartbeats 400000 in
theorem enough_c {S cF nF fF so s1 s2 t1 t2 yj yo y1 y2 y3 y4 y5 : Nat → Int32} {zn zf now z node n yc : Int32} {L : Cls} (g : GD S) (x : XT S) (hL : LWX so s1 s2 t1 t2 yj yo y1 y2 y3 y4 y5 yc L) (hn : NE nF S) (hf : FE fF S) (ezn : zn = S 0) (ezf : zf = S 4) (en : now = S 5) (hz : z = S 6) : (fX10_enough_yes zn nF zf fF now z cF so s1 s2 t1 t2 yj yo y1 y2 y3 y4 y5 yc node n).2 = enA S L node n := by
  unfold fX10_enough_yes enA
  rw [ezn]
  by_cases a : hs node (S 0) = 0
  · rw [if_pos a, if_pos a]
  · rw [if_neg a, if_neg a]
    by_cases b : wi n 999999 = 0
    · rw [if_pos b, if_pos b]
    · have r := wi_r b
      rw [show (999999 : Int32).toInt = 999999 from by decide] at r
      rw [if_neg b, if_neg b, bnd_eq, bnd_eq, bndv (cls_lasts g x hL hn hf ezf en hz (hs_n g.2.1 rfl a) r.1 r.2)]
      rcases enF_01 (S := S) (L := L) (node := node) (n := n) with e | e
      · rw [e, if_pos rfl]
      · rw [e, if_neg (by decide)]
set_option maxHeartbeats 400000 in
theorem enough_r {S sg cl cs : Nat → Int32} {sk wd : Nat → Int64} {laws top law node n : Int32} {L : Cls} (g : GD S) (x : XT S) (hL : LWR sg cl cs law L) (hl : ¬ hs law laws = 0) : (fX11_enough laws top sg cl cs sk wd S (S 0) (S 4) (S 6) law node n).2.2.2 = enA S L node n := by
  unfold fX11_enough enA
  rw [if_neg hl, li_wj (hi := 999999) (by decide)]
  by_cases a : hs node (S 0) = 0
  · rw [if_pos a, if_pos a]
  · rw [if_neg a, if_neg a]
    by_cases b : wi n 999999 = 0
    · rw [if_pos b, if_pos b]
    · have r := wi_r b
      rw [show (999999 : Int32).toInt = 999999 from by decide] at r
      rw [if_neg b, if_neg b, bnd_eq, bnd_eq, bnd_eq, bnd_eq, bndv (ref_isE g x hL (hs_n g.2.1 rfl a) r.1 r.2)]
      rcases enF_01 (S := S) (L := L) (node := node) (n := n) with e | e
      · rw [e, if_pos rfl]
      · rw [e, if_neg (by decide)]
def leS (S : Nat → Int32) (L : Cls) (node : Int32) : Nat → Int32 → Int32
  | 0, _ => -2
  | m + 1, n => if enF S L node n = 0 then leS S L node m (n + 100) else n
def leA (S : Nat → Int32) (L : Cls) (node : Int32) : Int32 := if hs node (S 0) = 0 then -1 else leS S L node 1000 0
set_option maxHeartbeats 400000 in
theorem least_c {S cF nF fF so s1 s2 t1 t2 yj yo y1 y2 y3 y4 y5 : Nat → Int32} {zn zf now z node yc : Int32} {L : Cls} (g : GD S) (x : XT S) (hL : LWX so s1 s2 t1 t2 yj yo y1 y2 y3 y4 y5 yc L) (hn : NE nF S) (hf : FE fF S) (ezn : zn = S 0) (ezf : zf = S 4) (en : now = S 5) (hz : z = S 6) : (fX10_least_yes zn nF zf fF now z cF so s1 s2 t1 t2 yj yo y1 y2 y3 y4 y5 yc node).2 = leA S L node := by
  unfold fX10_least_yes leA
  rw [ezn]
  by_cases a : hs node (S 0) = 0
  · rw [if_pos a, if_pos a]
  · have hk := hs_n g.2.1 rfl a
    have i100 : (100 : Int32).toInt = 100 := by decide
    have lp : ∀ (m N : Nat) (c : Nat → Int32) (i : Int32), 0 ≤ i.toInt → i.toInt + m = 1000 → m < N → (fl_mX10_least_yes_29 nF zf fF now z so s1 s2 t1 t2 yj yo y1 y2 y3 y4 y5 yc node (fun (w58_0_0 : Nat → Int32) (w58_1_0 : Int32) => (w58_0_0, (w58_1_0 * 100))) (fun (w70_0_0 : Nat → Int32) (w70_1_0 : Int32) => (w70_0_0, (-2))) N c i).2 = leS S L node m (i * 100) := by
      intro m
      induction m with
      | zero =>
        intro N c i i0 iz hN
        obtain ⟨N, rfl⟩ : ∃ m, N = m + 1 := ⟨N - 1, by omega⟩
        show (fb_mX10_least_yes_29 nF zf fF now z so s1 s2 t1 t2 yj yo y1 y2 y3 y4 y5 yc node _ _ (fl_mX10_least_yes_29 nF zf fF now z so s1 s2 t1 t2 yj yo y1 y2 y3 y4 y5 yc node _ _ N) c i).2 = _
        unfold fb_mX10_least_yes_29
        rw [if_pos (show 1000 ≤ i by rw [Int32.le_iff_toInt_le, show (1000 : Int32).toInt = 1000 from by decide]; omega)]
        rfl
      | succ m ih =>
        intro N c i i0 iz hN
        obtain ⟨N, rfl⟩ : ∃ m, N = m + 1 := ⟨N - 1, by omega⟩
        have ei : (i + 1).toInt = i.toInt + 1 := zadd1 (by omega)
        have em : (i * 100).toInt = i.toInt * 100 := by rw [zmul (by rw [i100]; omega) (by rw [i100]; omega), i100]
        have el : ((i + 1) * 100).toInt = (i.toInt + 1) * 100 := by rw [zmul (by rw [ei, i100]; omega) (by rw [ei, i100]; omega), ei, i100]
        have er : (i * 100 + 100).toInt = i.toInt * 100 + 100 := by rw [zadd (by rw [em, i100]; omega) (by rw [em, i100]; omega), em, i100]
        have e1 : (i + 1) * 100 = i * 100 + 100 := Int32.toInt_inj.mp (by rw [el, er]; omega)
        show (fb_mX10_least_yes_29 nF zf fF now z so s1 s2 t1 t2 yj yo y1 y2 y3 y4 y5 yc node _ _ (fl_mX10_least_yes_29 nF zf fF now z so s1 s2 t1 t2 yj yo y1 y2 y3 y4 y5 yc node _ _ N) c i).2 = _
        unfold fb_mX10_least_yes_29 leS
        rw [if_neg (show ¬ 1000 ≤ i by rw [Int32.le_iff_toInt_le, show (1000 : Int32).toInt = 1000 from by decide]; omega), bnd_eq, bnd_eq, bndv (cls_lasts g x hL hn hf ezf en hz hk (by omega) (by omega))]
        by_cases e : enF S L node (i * 100) = 0
        · rw [if_pos e, if_pos e, bnd_eq, ← e1]
          exact ih N _ (i + 1) (by omega) (by omega) (by omega)
        · rw [if_neg e, if_neg e]
    rw [if_neg a, if_neg a]
    exact lp 1000 _ cF 0 (by decide) (by decide) (by decide)
set_option maxHeartbeats 400000 in
theorem least_r {S sg cl cs : Nat → Int32} {sk wd : Nat → Int64} {laws top law node : Int32} {L : Cls} (g : GD S) (x : XT S) (hL : LWR sg cl cs law L) (hl : ¬ hs law laws = 0) : (fX11_least laws top sg cl cs sk wd S (S 0) (S 4) (S 6) law node).2.2.2 = leA S L node := by
  unfold fX11_least leA
  rw [if_neg hl]
  by_cases a : hs node (S 0) = 0
  · rw [if_pos a, if_pos a]
  · have hk := hs_n g.2.1 rfl a
    have i100 : (100 : Int32).toInt = 100 := by decide
    have iK : (100000 : Int32).toInt = 100000 := by decide
    have lp : ∀ (m N : Nat) (c1 c2 : Nat → Int64) (v n : Int32), 0 ≤ n.toInt → n.toInt + 100 * m = 100000 → m < N → (fl_mX11_least_20 sg cl cs S (S 4) (S 6) law node (fun (w37_0_0 : Nat → Int64) (w37_1_0 : Nat → Int64) (w37_2_0 : Int32) (w37_3_0 : Int32) => (w37_2_0, w37_0_0, w37_1_0, w37_3_0)) (fun (w45_0_0 : Nat → Int64) (w45_1_0 : Nat → Int64) (w45_2_0 : Int32) (w45_3_0 : Int32) => (w45_2_0, w45_0_0, w45_1_0, (-2))) N c1 c2 v n).2.2.2 = leS S L node m n := by
      intro m
      induction m with
      | zero =>
        intro N c1 c2 v n n0 nz hN
        obtain ⟨N, rfl⟩ : ∃ m, N = m + 1 := ⟨N - 1, by omega⟩
        show (fb_mX11_least_20 sg cl cs S (S 4) (S 6) law node _ _ (fl_mX11_least_20 sg cl cs S (S 4) (S 6) law node _ _ N) c1 c2 v n).2.2.2 = _
        unfold fb_mX11_least_20
        rw [if_pos (show 100000 ≤ n by rw [Int32.le_iff_toInt_le, iK]; omega)]
        rfl
      | succ m ih =>
        intro N c1 c2 v n n0 nz hN
        obtain ⟨N, rfl⟩ : ∃ m, N = m + 1 := ⟨N - 1, by omega⟩
        have ei : (n + 100).toInt = n.toInt + 100 := by rw [zadd (by rw [i100]; omega) (by rw [i100]; omega), i100]
        show (fb_mX11_least_20 sg cl cs S (S 4) (S 6) law node _ _ (fl_mX11_least_20 sg cl cs S (S 4) (S 6) law node _ _ N) c1 c2 v n).2.2.2 = _
        unfold fb_mX11_least_20 leS
        rw [if_neg (show ¬ 100000 ≤ n by rw [Int32.le_iff_toInt_le, iK]; omega), bnd_eq, bnd_eq, bnd_eq, bnd_eq, bndv (ref_isE g x hL hk (by omega) (by omega))]
        by_cases e : enF S L node n = 0
        · rw [if_pos e, if_pos e, bnd_eq]
          exact ih N _ _ _ (n + 100) (by omega) (by omega) (by omega)
        · rw [if_neg e, if_neg e]
    rw [if_neg a, if_neg a]
    exact lp 1000 _ sk wd top 0 (by decide) (by decide) (by rw [z_i0]; decide)
