set_option maxHeartbeats 400000 in
theorem hrN_st {nd : Int32} {S : Nat → Int32} {L : Cls} {pass to fe sa mo : Int32} : ∀ (n : Nat) (g d h : Int32), d < nd → hrN nd S L pass to fe sa mo n g d h = d
  | 0, _, _, _, _ => rfl
  | n + 1, g, d, h, e => by
    show hrN nd S L pass to fe sa mo n (g + 1) (if d < nd then d else d - mltw (pwd S h pass to g d fe sa) L mo d) (h + 1) = d
    rw [if_pos e]
    exact hrN_st n (g + 1) d (h + 1) e
set_option maxHeartbeats 400000 in
theorem lt_nd {d nd : Int32} (n1 : 1 ≤ nd.toInt) (e : ¬ d < nd) : ¬ d < 1 := by
  rw [Int32.lt_iff_toInt_lt] at e ⊢
  rw [show (1 : Int32).toInt = 1 from by decide]
  omega
set_option maxHeartbeats 400000 in
theorem hrN_nd {nd : Int32} {S : Nat → Int32} {L : Cls} {pass to fe sa mo : Int32} (n1 : 1 ≤ nd.toInt) : ∀ (n : Nat) (g d h : Int32), 0 ≤ d.toInt → d.toInt ≤ 99999 → hrN nd S L pass to fe sa mo n g d h = hrN 1 S L pass to fe sa mo n g d h ∨ (hrN nd S L pass to fe sa mo n g d h < nd ∧ (hrN 1 S L pass to fe sa mo n g d h).toInt ≤ (hrN nd S L pass to fe sa mo n g d h).toInt)
  | 0, _, _, _, _, _ => Or.inl rfl
  | n + 1, g, d, h, d0, d9 => by
    by_cases e : d < nd
    · right
      rw [hrN_st (n + 1) g d h e]
      exact ⟨e, (hrN_in (n + 1) g d h d0 d9).2⟩
    · have b := mlt_in (W := pwd S h pass to g d fe sa) (L := L) (mo := mo) (nd := nd) d0 d9
      have i := hrN_nd (S := S) (L := L) (pass := pass) (to := to) (fe := fe) (sa := sa) (mo := mo) n1 n (g + 1) (if d < nd then d else d - mltw (pwd S h pass to g d fe sa) L mo d) (h + 1) b.1 (by omega)
      have e1 : hrN 1 S L pass to fe sa mo (n + 1) g d h = hrN 1 S L pass to fe sa mo n (g + 1) (if d < nd then d else d - mltw (pwd S h pass to g d fe sa) L mo d) (h + 1) := by
        show hrN 1 S L pass to fe sa mo n (g + 1) (if d < 1 then d else d - mltw (pwd S h pass to g d fe sa) L mo d) (h + 1) = _
        rw [if_neg e, if_neg (lt_nd n1 e)]
      rw [e1]
      exact i
set_option maxHeartbeats 400000 in
theorem crE_in {nd : Int32} {S : Nat → Int32} {L : Cls} {to fe sa d h : Int32} (d0 : 0 ≤ d.toInt) (d9 : d.toInt ≤ 99999) : 0 ≤ (crE nd S L to fe sa d h).toInt ∧ (crE nd S L to fe sa d h).toInt ≤ d.toInt := by
  unfold crE
  split
  · exact ⟨d0, Int.le_refl _⟩
  · have c := shr_in (x := lsm (nwd S h to d fe sa) 2 L) d0 d9
    exact sub_in d0 d9 c.1 c.2
set_option maxHeartbeats 400000 in
/-- what one needs doesn't change a load that is enough -/
theorem crD_nd {nd : Int32} {S : Nat → Int32} {L : Cls} {pass to fe sa mo d h : Int32} (n1 : 1 ≤ nd.toInt) (d0 : 0 ≤ d.toInt) (d9 : d.toInt ≤ 99999) : crD nd S L pass to fe sa mo d h = crD 1 S L pass to fe sa mo d h ∨ (crD nd S L pass to fe sa mo d h < nd ∧ (crD 1 S L pass to fe sa mo d h).toInt ≤ (crD nd S L pass to fe sa mo d h).toInt) := by
  unfold crD
  have a := hrN_in (nd := nd) (S := S) (L := L) (pass := pass) (to := to) (fe := fe) (sa := sa) (mo := mo) (S (68 + 5 * pass.toNatClampNeg + 2)).toNatClampNeg 0 d h d0 d9
  have b := hrN_in (nd := 1) (S := S) (L := L) (pass := pass) (to := to) (fe := fe) (sa := sa) (mo := mo) (S (68 + 5 * pass.toNatClampNeg + 2)).toNatClampNeg 0 d h d0 d9
  rcases hrN_nd (S := S) (L := L) (pass := pass) (to := to) (fe := fe) (sa := sa) (mo := mo) n1 (S (68 + 5 * pass.toNatClampNeg + 2)).toNatClampNeg 0 d h d0 d9 with e | ⟨e1, e2⟩
  · rw [e]
    generalize hrN 1 S L pass to fe sa mo (S (68 + 5 * pass.toNatClampNeg + 2)).toNatClampNeg 0 d h = x at b
    generalize hrH (S (68 + 5 * pass.toNatClampNeg + 2)).toNatClampNeg h = H
    by_cases c : x < nd
    · right
      have i := crE_in (nd := 1) (S := S) (L := L) (to := to) (fe := fe) (sa := sa) (h := H) b.1 (show x.toInt ≤ 99999 by omega)
      have f : crE nd S L to fe sa x H = x := if_pos c
      rw [f]
      exact ⟨c, i.2⟩
    · left
      unfold crE
      rw [if_neg c, if_neg (lt_nd n1 c)]
  · right
    generalize hrN 1 S L pass to fe sa mo (S (68 + 5 * pass.toNatClampNeg + 2)).toNatClampNeg 0 d h = y at b e2
    generalize hrN nd S L pass to fe sa mo (S (68 + 5 * pass.toNatClampNeg + 2)).toNatClampNeg 0 d h = x at a e1 e2
    generalize hrH (S (68 + 5 * pass.toNatClampNeg + 2)).toNatClampNeg h = H
    have i := crE_in (nd := 1) (S := S) (L := L) (to := to) (fe := fe) (sa := sa) (h := H) b.1 (show y.toInt ≤ 99999 by omega)
    have f : crE nd S L to fe sa x H = x := if_pos e1
    rw [f]
    exact ⟨e1, by omega⟩
set_option maxHeartbeats 400000 in
theorem hrH_i : ∀ (n : Nat) (h : Int32), 0 ≤ h.toInt → h.toInt + n ≤ 1000000 → (hrH n h).toInt = h.toInt + n
  | 0, h, _, _ => by show h.toInt = _; omega
  | n + 1, h, h0, h1 => by
    show (hrH n (h + 1)).toInt = _
    have e : (h + 1).toInt = h.toInt + 1 := zadd1 (by omega)
    rw [hrH_i n (h + 1) (by omega) (by omega)]
    omega
set_option maxHeartbeats 400000 in
theorem crH_i {S : Nat → Int32} {p h : Int32} (hp : rP S p) (h0 : 0 ≤ h.toInt) (h1 : h.toInt ≤ 900000) : h.toInt ≤ (crH S p h).toInt ∧ (crH S p h).toInt ≤ h.toInt + 24 := by
  obtain ⟨_, _, _, a, b⟩ := hp
  have t := tn_eq (show 0 ≤ (S (68 + 5 * p.toNatClampNeg + 2)).toInt by omega)
  have e := hrH_i (S (68 + 5 * p.toNatClampNeg + 2)).toNatClampNeg h h0 (by omega)
  unfold crH
  omega
set_option maxHeartbeats 400000 in
/-- a pass that changes nothing -/
theorem srP_id {g : Int32 → Int32 → Int32} {z a : Int32} (h : ∀ p : Int32, 0 ≤ p.toInt → p.toInt < z.toInt → g p a = a) (z1 : z.toInt ≤ 20) : ∀ (n : Nat) (p : Int32), 0 ≤ p.toInt → p.toInt + n = z.toInt → srP g n p a = a
  | 0, _, _, _ => rfl
  | n + 1, p, p0, pz => by
    have e : (p + 1).toInt = p.toInt + 1 := zadd1 (by omega)
    rw [srP_s, h p p0 (by omega)]
    exact srP_id h z1 n (p + 1) (by omega) (by omega)
set_option maxHeartbeats 400000 in
theorem srP_in {g : Int32 → Int32 → Int32} {z : Int32} (h : ∀ p a : Int32, 0 ≤ p.toInt → p.toInt < z.toInt → a.toInt ≤ 99999 → a.toInt ≤ (g p a).toInt ∧ (g p a).toInt ≤ 99999) (z1 : z.toInt ≤ 20) : ∀ (n : Nat) (p a : Int32), 0 ≤ p.toInt → p.toInt + n = z.toInt → a.toInt ≤ 99999 → a.toInt ≤ (srP g n p a).toInt ∧ (srP g n p a).toInt ≤ 99999
  | 0, _, a, _, _, a9 => ⟨Int.le_refl _, a9⟩
  | n + 1, p, a, p0, pz, a9 => by
    have e : (p + 1).toInt = p.toInt + 1 := zadd1 (by omega)
    have i := h p a p0 (by omega) a9
    have r := srP_in h z1 n (p + 1) (g p a) (by omega) (by omega) i.2
    rw [srP_s]
    exact ⟨by omega, r.2⟩
set_option maxHeartbeats 400000 in
theorem lhs_p {S : Nat → Int32} {p : Int32} (g : GD S) (p0 : 0 ≤ p.toInt) (p1 : p.toInt < (S 1).toInt) : rP S p := rP_of (GD_sp g) (hs_in (z_nlt0 p0) (by rw [Int32.le_iff_toInt_le]; omega))
set_option maxHeartbeats 400000 in
theorem oth_0 {S : Nat → Int32} {p u : Int32} (g : GD S) (hp : rP S p) (c : ¬ oth S p u < 0) : rN (oth S p u) ∧ rN (oth S p (oth S p u)) := oth_in (GD_sp g) hp (by rw [Int32.lt_iff_toInt_lt, z_i0] at c; omega)
set_option maxHeartbeats 400000 in
theorem sr_in {S : Nat → Int32} {L : Cls} {fe sa tgt lat : Int32} (g : GD S) : ∀ (j : Nat) (v : Int32 → Bool) (u d h a : Int32), 0 ≤ d.toInt → d.toInt ≤ 99999 → a.toInt ≤ 99999 → a.toInt ≤ (srF S L fe sa tgt lat j v u d h a).toInt ∧ (srF S L fe sa tgt lat j v u d h a).toInt ≤ 99999 := by
  have b1 := GD_1 g
  have t1' := tn_eq b1.1
  have T : ∀ d h a : Int32, 0 ≤ d.toInt → d.toInt ≤ 99999 → a.toInt ≤ 99999 → a.toInt ≤ (srT lat d h a).toInt ∧ (srT lat d h a).toInt ≤ 99999 := by
    intro d h a d0 d9 a9
    unfold srT
    split
    · omega
    · split
      · omega
      · rename_i c
        rw [Int32.le_iff_toInt_le] at c
        omega
  intro j
  induction j with
  | zero =>
    intro v u d h a d0 d9 a9
    by_cases c : u = tgt
    · rw [srF_t c]; exact T d h a d0 d9 a9
    · rw [srF_0 c]; omega
  | succ j ih =>
    intro v u d h a d0 d9 a9
    by_cases c : u = tgt
    · rw [srF_t c]; exact T d h a d0 d9 a9
    · rw [srF_s c]
      refine srP_in (z := S 1) (fun p b p0 p1 b9 => ?_) b1.2 _ 0 a (by decide) (by rw [z_i0]; omega) a9
      unfold srG
      split
      · omega
      · split
        · omega
        · have x := crD_in (nd := 1) (S := S) (L := L) (pass := p) (to := oth S p u) (fe := fe) (sa := sa) (mo := 0) (h := h) d0 d9
          exact ih _ _ _ _ b x.1 (by omega) b9
set_option maxHeartbeats 400000 in
/-- no more than one has: nothing is bettered -/
theorem sr_le {S : Nat → Int32} {L : Cls} {fe sa tgt lat : Int32} (g : GD S) : ∀ (j : Nat) (v : Int32 → Bool) (u d h a : Int32), 0 ≤ d.toInt → d.toInt ≤ 99999 → d.toInt ≤ a.toInt → srF S L fe sa tgt lat j v u d h a = a := by
  have b1 := GD_1 g
  have t1' := tn_eq b1.1
  have T : ∀ d h a : Int32, d.toInt ≤ a.toInt → srT lat d h a = a := by
    intro d h a e
    unfold srT
    split
    · rfl
    · rw [if_pos (Int32.le_iff_toInt_le.mpr e)]
  intro j
  induction j with
  | zero =>
    intro v u d h a d0 d9 e
    by_cases c : u = tgt
    · rw [srF_t c]; exact T d h a e
    · rw [srF_0 c]
  | succ j ih =>
    intro v u d h a d0 d9 e
    by_cases c : u = tgt
    · rw [srF_t c]; exact T d h a e
    · rw [srF_s c]
      refine srP_id (z := S 1) (fun p p0 p1 => ?_) b1.2 _ 0 (by decide) (by rw [z_i0]; omega)
      unfold srG
      split
      · rfl
      · split
        · rfl
        · have x := crD_in (nd := 1) (S := S) (L := L) (pass := p) (to := oth S p u) (fe := fe) (sa := sa) (mo := 0) (h := h) d0 d9
          exact ih _ _ _ _ a x.1 (by omega) (by omega)
set_option maxHeartbeats 400000 in
/-- too late -/
theorem sr_late {S : Nat → Int32} {L : Cls} {fe sa tgt lat : Int32} (g : GD S) : ∀ (j : Nat) (v : Int32 → Bool) (u d h a : Int32), 0 ≤ h.toInt → h.toInt + 24 * j ≤ 900000 → lat < h → srF S L fe sa tgt lat j v u d h a = a := by
  have b1 := GD_1 g
  have t1' := tn_eq b1.1
  intro j
  induction j with
  | zero =>
    intro v u d h a h0 h9 e
    by_cases c : u = tgt
    · rw [srF_t c]; exact if_pos e
    · rw [srF_0 c]
  | succ j ih =>
    intro v u d h a h0 h9 e
    by_cases c : u = tgt
    · rw [srF_t c]; exact if_pos e
    · rw [srF_s c]
      refine srP_id (z := S 1) (fun p p0 p1 => ?_) b1.2 _ 0 (by decide) (by rw [z_i0]; omega)
      unfold srG
      split
      · rfl
      · split
        · rfl
        · have x := crH_i (lhs_p g p0 p1) h0 (by omega)
          exact ih _ _ _ _ a (by omega) (by omega) (by rw [Int32.lt_iff_toInt_lt] at e ⊢; omega)
/-- too far -/
def FRI (S q : Nat → Int32) (tgt : Int32) : Prop := (q tgt.toNatClampNeg).toInt = 0 ∧ (∀ v : Nat, v < 12 → 0 ≤ (q v).toInt ∧ (q v).toInt ≤ 1000000) ∧ ∀ p u : Int32, rP S p → rN u → ¬ oth S p u < 0 → (q u.toNatClampNeg).toInt ≤ (q (oth S p u).toNatClampNeg).toInt + 1
set_option maxHeartbeats 400000 in
theorem sr_far {S q : Nat → Int32} {L : Cls} {fe sa tgt lat : Int32} (g : GD S) (f : FRI S q tgt) : ∀ (j : Nat) (v : Int32 → Bool) (u d h a : Int32), rN u → (j : Int) < (q u.toNatClampNeg).toInt → srF S L fe sa tgt lat j v u d h a = a := by
  have b1 := GD_1 g
  have t1' := tn_eq b1.1
  have nt : ∀ (j : Nat) (u : Int32), (j : Int) < (q u.toNatClampNeg).toInt → ¬ u = tgt := by
    intro j u e r
    rw [r, f.1] at e
    omega
  intro j
  induction j with
  | zero =>
    intro v u d h a hu e
    rw [srF_0 (nt 0 u e)]
  | succ j ih =>
    intro v u d h a hu e
    rw [srF_s (nt (j + 1) u e)]
    refine srP_id (z := S 1) (fun p p0 p1 => ?_) b1.2 _ 0 (by decide) (by rw [z_i0]; omega)
    unfold srG
    by_cases c : oth S p u < 0
    · rw [if_pos c]
    · rw [if_neg c]
      split
      · rfl
      · have x := f.2.2 p u (lhs_p g p0 p1) hu c
        exact ih _ _ _ _ a (oth_0 g (lhs_p g p0 p1) c).1 (by omega)
/-- the class's bits -/
def BV (s : Int32) (v : Int32 → Bool) : Prop := ∀ x : Int32, rN x → ((s >>> (x &&& 31)) &&& 1 = 0 ↔ ¬ v x = true)
set_option maxHeartbeats 400000 in
theorem r12 {x : Int32} (h : rN x) : x = 0 ∨ x = 1 ∨ x = 2 ∨ x = 3 ∨ x = 4 ∨ x = 5 ∨ x = 6 ∨ x = 7 ∨ x = 8 ∨ x = 9 ∨ x = 10 ∨ x = 11 := by
  obtain ⟨h0, h1⟩ := h
  have k : ∀ (n : Int) (c : Int32), c.toInt = n → x.toInt = n → x = c := fun n c e1 e2 => Int32.toInt_inj.mp (e2.trans e1.symm)
  have : x.toInt = 0 ∨ x.toInt = 1 ∨ x.toInt = 2 ∨ x.toInt = 3 ∨ x.toInt = 4 ∨ x.toInt = 5 ∨ x.toInt = 6 ∨ x.toInt = 7 ∨ x.toInt = 8 ∨ x.toInt = 9 ∨ x.toInt = 10 ∨ x.toInt = 11 := by omega
  rcases this with e | e | e | e | e | e | e | e | e | e | e | e
  · exact Or.inl (k 0 0 (by decide) e)
  · exact Or.inr (Or.inl (k 1 1 (by decide) e))
  · exact Or.inr (Or.inr (Or.inl (k 2 2 (by decide) e)))
  · exact Or.inr (Or.inr (Or.inr (Or.inl (k 3 3 (by decide) e))))
  · exact Or.inr (Or.inr (Or.inr (Or.inr (Or.inl (k 4 4 (by decide) e)))))
  · exact Or.inr (Or.inr (Or.inr (Or.inr (Or.inr (Or.inl (k 5 5 (by decide) e))))))
  · exact Or.inr (Or.inr (Or.inr (Or.inr (Or.inr (Or.inr (Or.inl (k 6 6 (by decide) e)))))))
  · exact Or.inr (Or.inr (Or.inr (Or.inr (Or.inr (Or.inr (Or.inr (Or.inl (k 7 7 (by decide) e))))))))
  · exact Or.inr (Or.inr (Or.inr (Or.inr (Or.inr (Or.inr (Or.inr (Or.inr (Or.inl (k 8 8 (by decide) e)))))))))
  · exact Or.inr (Or.inr (Or.inr (Or.inr (Or.inr (Or.inr (Or.inr (Or.inr (Or.inr (Or.inl (k 9 9 (by decide) e))))))))))
  · exact Or.inr (Or.inr (Or.inr (Or.inr (Or.inr (Or.inr (Or.inr (Or.inr (Or.inr (Or.inr (Or.inl (k 10 10 (by decide) e)))))))))))
  · exact Or.inr (Or.inr (Or.inr (Or.inr (Or.inr (Or.inr (Or.inr (Or.inr (Or.inr (Or.inr (Or.inr (k 11 11 (by decide) e)))))))))))
set_option maxHeartbeats 400000 in
theorem shx {x : Int32} (h : rN x) : ((x &&& 31).toBitVec.smod 32).toNat = x.toNatClampNeg := by
  rcases r12 h with e | e | e | e | e | e | e | e | e | e | e | e <;> (rw [e]; decide)
set_option maxHeartbeats 400000 in
theorem bit_0 {b : BitVec 32} {k : Nat} (hk : k < 12) : (b.sshiftRight k &&& 1#32 = 0#32) ↔ b.getLsbD k = false := by
  constructor
  · intro h
    have e := congrArg (fun c : BitVec 32 => c.getLsbD 0) h
    have e2 : (b.sshiftRight k &&& 1#32).getLsbD 0 = b.getLsbD k := by
      rw [BitVec.getLsbD_and, BitVec.getLsbD_sshiftRight]
      simp
      omega
    exact e2.symm.trans (e.trans (by decide))
  · intro h
    apply BitVec.eq_of_getLsbD_eq
    intro i hi
    rw [BitVec.getLsbD_and, BitVec.getLsbD_sshiftRight]
    by_cases z : i = 0
    · subst z
      simp [h]
      omega
    · simp [BitVec.getLsbD_one, z]
set_option maxHeartbeats 400000 in
theorem bit_x {s x : Int32} (h : rN x) : ((s >>> (x &&& 31)) &&& 1 = 0) ↔ s.toBitVec.getLsbD x.toNatClampNeg = false := by
  have t := tn_eq h.1
  have k12 : x.toNatClampNeg < 12 := by have := h.2; omega
  have e : ((s >>> (x &&& 31)) &&& 1).toBitVec = (s.toBitVec.sshiftRight x.toNatClampNeg) &&& 1#32 := by
    rw [← shx h]
    rfl
  rw [← Int32.toBitVec_inj, e]
  exact bit_0 k12
set_option maxHeartbeats 400000 in
theorem bit_or {s o x : Int32} (ho : rN o) (h : rN x) : (s ||| (1 <<< (o &&& 31))).toBitVec.getLsbD x.toNatClampNeg = (s.toBitVec.getLsbD x.toNatClampNeg || decide (x = o)) := by
  have t := tn_eq h.1
  have u := tn_eq ho.1
  have k12 : x.toNatClampNeg < 12 := by have := h.2; omega
  have e : (s ||| (1 <<< (o &&& 31))).toBitVec = s.toBitVec ||| ((1#32) <<< o.toNatClampNeg) := by
    rw [← shx ho]
    rfl
  rw [e, BitVec.getLsbD_or, BitVec.getLsbD_shiftLeft]
  congr 1
  by_cases z : x = o
  · subst z
    simp
    omega
  · have ne : ¬ x.toInt = o.toInt := fun q => z (Int32.toInt_inj.mp q)
    rw [BitVec.getLsbD_one]
    simp [z]
    omega
set_option maxHeartbeats 400000 in
theorem BV_push {s o : Int32} {v : Int32 → Bool} (b : BV s v) (ho : rN o) : BV (s ||| (1 <<< (o &&& 31))) (addV v o) := by
  intro x hx
  have a := b x hx
  rw [bit_x hx] at a ⊢
  rw [bit_or ho hx]
  unfold addV
  rw [Bool.or_eq_false_iff, a, Bool.or_eq_true, decide_eq_true_iff, decide_eq_false_iff_not]
  constructor
  · rintro ⟨p, q⟩ (r | r)
    · exact p r
    · exact q r
  · intro r
    exact ⟨fun q => r (Or.inl q), fun q => r (Or.inr q)⟩
set_option maxHeartbeats 400000 in
theorem BV_0 {u : Int32} (hu : rN u) : BV (1 <<< (u &&& 31)) (fun y => decide (y = u)) := by
  intro x hx
  rw [bit_x hx]
  have e := bit_or (s := 0) hu hx
  have z : (0 : Int32) ||| ((1 : Int32) <<< (u &&& 31)) = (1 : Int32) <<< (u &&& 31) := by simp
  rw [z] at e
  rw [e]
  simp
