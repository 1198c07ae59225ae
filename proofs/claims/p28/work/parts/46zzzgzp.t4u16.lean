/-- below 2^16 -/
def B16 (x : Int32) : Prop := x.toBitVec.toNat < 65536
set_option maxHeartbeats 400000 in
theorem B16_or {x y : Int32} (hx : B16 x) (hy : B16 y) : B16 (x ||| y) := by
  unfold B16 at *
  rw [Int32.toBitVec_or, BitVec.toNat_or]
  exact Nat.or_lt_two_pow (n := 16) hx hy
set_option maxHeartbeats 400000 in
theorem B16_an {x y : Int32} (hx : B16 x) : B16 (x &&& y) := by
  unfold B16 at *
  rw [Int32.toBitVec_and, BitVec.toNat_and]
  exact Nat.lt_of_le_of_lt Nat.and_le_left hx
set_option maxHeartbeats 400000 in
theorem B16_i {x : Int32} (h : B16 x) : 0 ≤ x.toInt ∧ x.toInt < 65536 := by
  unfold B16 at h
  have e : x.toInt = (x.toBitVec.toNat : Int) := by
    show x.toBitVec.toInt = _
    exact BitVec.toInt_eq_toNat_of_lt (by omega)
  omega
set_option maxHeartbeats 400000 in
theorem bc_16 {x : Int32} (h : B16 x) : fJ6_bitCount_0f7a4 x = fX11_bits x := bc_x (B16_i h).1 (B16_i h).2
/-- the JARS of a set of ORDERS together -/
def unF (F : Nat → Int32) (s : Int32) : Nat → Int32 → Int32 → Int32
  | 0, _, a => a
  | n + 1, o, a => unF F s n (o + 1) (if (s >>> (o &&& 31)) &&& 1 = 1 then a ||| F o.toNatClampNeg else a)
def un (F : Nat → Int32) (s : Int32) : Int32 := unF F s 6 0 0
set_option maxHeartbeats 400000 in
theorem unF_cg {F K : Nat → Int32} {s : Int32} (h : ∀ i, i < 6 → F i = K i) : ∀ (n : Nat) (o a : Int32), 0 ≤ o.toInt → o.toInt + n = 6 → unF F s n o a = unF K s n o a
  | 0, _, _, _, _ => rfl
  | n + 1, o, a, o0, on => by
    have t := tn_eq o0
    have e : (o + 1).toInt = o.toInt + 1 := zadd1 (by omega)
    show unF F s n (o + 1) (if (s >>> (o &&& 31)) &&& 1 = 1 then a ||| F o.toNatClampNeg else a) = unF K s n (o + 1) (if (s >>> (o &&& 31)) &&& 1 = 1 then a ||| K o.toNatClampNeg else a)
    rw [h o.toNatClampNeg (by omega)]
    exact unF_cg h n (o + 1) _ (by omega) (by omega)
set_option maxHeartbeats 400000 in
theorem un_cg {F K : Nat → Int32} (h : ∀ i, i < 6 → F i = K i) (s : Int32) : un F s = un K s := unF_cg h 6 0 0 (by decide) (by decide)
set_option maxHeartbeats 400000 in
theorem unF_B {F : Nat → Int32} {s : Int32} (h : ∀ i, i < 6 → B16 (F i)) : ∀ (n : Nat) (o a : Int32), 0 ≤ o.toInt → o.toInt + n = 6 → B16 a → B16 (unF F s n o a)
  | 0, _, _, _, _, ha => ha
  | n + 1, o, a, o0, on, ha => by
    have t := tn_eq o0
    have e : (o + 1).toInt = o.toInt + 1 := zadd1 (by omega)
    show B16 (unF F s n (o + 1) (if (s >>> (o &&& 31)) &&& 1 = 1 then a ||| F o.toNatClampNeg else a))
    refine unF_B h n (o + 1) _ (by omega) (by omega) ?_
    split
    · exact B16_or ha (h _ (by omega))
    · exact ha
set_option maxHeartbeats 400000 in
theorem un_B {F : Nat → Int32} (h : ∀ i, i < 6 → B16 (F i)) (s : Int32) : B16 (un F s) := unF_B h 6 0 0 (by decide) (by decide) (show (0 : Int32).toBitVec.toNat < 65536 by decide)
set_option maxHeartbeats 400000 in
theorem ru_6_l {F : Nat → Int32} {s : Int32} {E : Int32 → Int32 → Int32} : ∀ (n N : Nat) (o a : Int32), n < N → 0 ≤ o.toInt → o.toInt + n = 6 → fl_mX11_canServe_25 F s E N o a = E 6 (unF F s n o a)
  | _, 0, _, _, h, _, _ => absurd h (Nat.not_lt_zero _)
  | 0, N + 1, o, a, _, o0, on => by
    have eo : o = 6 := Int32.toInt_inj.mp (by rw [show (6 : Int32).toInt = 6 from by decide]; omega)
    subst eo
    show fb_mX11_canServe_25 F s E (fl_mX11_canServe_25 F s E N) 6 a = E 6 a
    unfold fb_mX11_canServe_25
    rw [if_pos (by decide)]
  | n + 1, N + 1, o, a, hN, o0, on => by
    have e : (o + 1).toInt = o.toInt + 1 := zadd1 (by omega)
    refine Eq.trans ?_ (ru_6_l (F := F) (s := s) (E := E) n N (o + 1) (if (s >>> (o &&& 31)) &&& 1 = 1 then a ||| F o.toNatClampNeg else a) (by omega) (by omega) (by omega))
    show fb_mX11_canServe_25 F s E (fl_mX11_canServe_25 F s E N) o a = _
    unfold fb_mX11_canServe_25
    rw [if_neg (show ¬ 6 ≤ o by rw [Int32.le_iff_toInt_le, show (6 : Int32).toInt = 6 from by decide]; omega)]
    simp only [bnd]
    by_cases c : (s >>> (o &&& 31)) &&& 1 = 1
    · rw [if_pos c, if_pos c]
    · rw [if_neg c, if_neg c, Int32.or_zero]
set_option maxHeartbeats 400000 in
theorem ru_6 {F : Nat → Int32} {s : Int32} {E : Int32 → Int32 → Int32} : fl_mX11_canServe_25 F s E (((6 : Int32).toInt - (0 : Int32).toInt).toNat + 1) 0 0 = E 6 (un F s) :=
  ru_6_l 6 _ 0 0 (by decide) (by decide) (by decide)
set_option maxHeartbeats 400000 in
theorem cu_6_l {F : Nat → Int32} {s : Int32} {E : Int32 → Int32 → Int32} : ∀ (n N : Nat) (o a : Int32), n < N → 0 ≤ o.toInt → o.toInt + n = 6 → fl_mX3_canServe_12 F s E N o a = E 6 (unF F s n o a)
  | _, 0, _, _, h, _, _ => absurd h (Nat.not_lt_zero _)
  | 0, N + 1, o, a, _, o0, on => by
    have eo : o = 6 := Int32.toInt_inj.mp (by rw [show (6 : Int32).toInt = 6 from by decide]; omega)
    subst eo
    show fb_mX3_canServe_12 F s E (fl_mX3_canServe_12 F s E N) 6 a = E 6 a
    unfold fb_mX3_canServe_12
    rw [if_pos (by decide)]
  | n + 1, N + 1, o, a, hN, o0, on => by
    have e : (o + 1).toInt = o.toInt + 1 := zadd1 (by omega)
    refine Eq.trans ?_ (cu_6_l (F := F) (s := s) (E := E) n N (o + 1) (if (s >>> (o &&& 31)) &&& 1 = 1 then a ||| F o.toNatClampNeg else a) (by omega) (by omega) (by omega))
    show fb_mX3_canServe_12 F s E (fl_mX3_canServe_12 F s E N) o a = _
    unfold fb_mX3_canServe_12
    rw [if_neg (show ¬ 6 ≤ o by rw [Int32.le_iff_toInt_le, show (6 : Int32).toInt = 6 from by decide]; omega)]
    simp only [bnd]
    by_cases c : (s >>> (o &&& 31)) &&& 1 = 1
    · rw [if_pos c, if_pos c]
    · rw [if_neg c, if_neg c]
set_option maxHeartbeats 400000 in
theorem cu_6 {F : Nat → Int32} {s : Int32} {E : Int32 → Int32 → Int32} : fl_mX3_canServe_12 F s E (((6 : Int32).toInt - (0 : Int32).toInt).toNat + 1) 0 0 = E 6 (un F s) :=
  cu_6_l 6 _ 0 0 (by decide) (by decide) (by decide)
/-- a part of a set of ORDERS has JARS enough -/
def okS (K : Nat → Int32) (us p : Int32) : Bool := decide (fX11_bits p ≤ fX11_bits (un K p &&& (us ^^^ (-1))))
def rL (set : Int32) : Nat → Int32 → Option (List Int32)
  | 0, _ => none
  | n + 1, s => if 64 ≤ s then some [] else if s &&& (set ^^^ (-1)) = 0 then (rL set n (s + 1)).map (fun l => s :: l) else rL set n (s + 1)
def cL (set : Int32) : Nat → Int32 → Option (List Int32)
  | 0, _ => none
  | n + 1, p => if p ≤ 0 then some [] else (cL set n ((p - 1) &&& set)).map (fun l => p :: l)
def inL (l : List Int32) (b : Int) : Bool := l.all (fun s => decide (0 ≤ s.toInt) && decide (s.toInt < b))
def subOK (m : Nat) : Bool := match rL (Int32.ofNat m) (((64 : Int32).toInt - (1 : Int32).toInt).toNat + 1) 1 with
  | none => false
  | some l => decide (cL (Int32.ofNat m) ((Int32.ofNat m).toInt.toNat + 1) (Int32.ofNat m) = some l.reverse) && inL l.reverse 64
set_option maxHeartbeats 400000 in
theorem sub_ok : ∀ m, m < 64 → subOK m = true := by decide +kernel
set_option maxHeartbeats 400000 in
theorem sub_l {m : Nat} (h : m < 64) : ∃ l, rL (Int32.ofNat m) (((64 : Int32).toInt - (1 : Int32).toInt).toNat + 1) 1 = some l ∧ cL (Int32.ofNat m) ((Int32.ofNat m).toInt.toNat + 1) (Int32.ofNat m) = some l.reverse ∧ inL l.reverse 64 = true := by
  have k := sub_ok m h
  unfold subOK at k
  rcases e : rL (Int32.ofNat m) (((64 : Int32).toInt - (1 : Int32).toInt).toNat + 1) 1 with _ | l
  · rw [e] at k
    exact absurd (show false = true from k) Bool.false_ne_true
  · rw [e] at k
    have k2 : (decide (cL (Int32.ofNat m) ((Int32.ofNat m).toInt.toNat + 1) (Int32.ofNat m) = some l.reverse) && inL l.reverse 64) = true := k
    rw [Bool.and_eq_true, decide_eq_true_iff] at k2
    exact ⟨l, rfl, k2.1, k2.2⟩
set_option maxHeartbeats 400000 in
theorem inL_c {p : Int32} {l : List Int32} {b : Int} (h : inL (p :: l) b = true) : 0 ≤ p.toInt ∧ p.toInt < b ∧ inL l b = true := by
  unfold inL at h
  rw [List.all_cons, Bool.and_eq_true, Bool.and_eq_true, decide_eq_true_iff, decide_eq_true_iff] at h
  exact ⟨h.1.1, h.1.2, h.2⟩
set_option maxHeartbeats 400000 in
theorem rcs {F K : Nat → Int32} {set us : Int32} {E80 : Int32 → Int32 → Int32 → Int32} {E88 : Int32 → Int32} (h : ∀ i, i < 6 → F i = K i) (e0 : ∀ a b c, E80 a b c = 0) (e1 : ∀ a, E88 a = 1) : ∀ (N : Nat) (s : Int32) (l : List Int32), rL set N s = some l → fl_mX11_canServe_2 F set us E80 E88 N s = if l.all (okS K us) = true then 1 else 0
  | 0, _, _, hl => by
    have hl2 : (none : Option (List Int32)) = some _ := hl
    exact absurd hl2 (by simp)
  | N + 1, s, l, hl => by
    have hl2 : (if 64 ≤ s then some [] else if s &&& (set ^^^ (-1)) = 0 then (rL set N (s + 1)).map (fun l => s :: l) else rL set N (s + 1)) = some l := hl
    show fb_mX11_canServe_2 F set us E80 E88 (fl_mX11_canServe_2 F set us E80 E88 N) s = _
    unfold fb_mX11_canServe_2
    by_cases c : 64 ≤ s
    · rw [if_pos c] at hl2
      rw [if_pos c, e1, ← Option.some.inj hl2]
      rfl
    · rw [if_neg c] at hl2
      rw [if_neg c]
      simp only [bnd]
      by_cases c2 : s &&& (set ^^^ (-1)) = 0
      · rw [if_pos c2] at hl2
        obtain ⟨a, ha, ea⟩ := Option.map_eq_some_iff.mp hl2
        rw [if_pos c2, ru_6, un_cg h, ← ea, List.all_cons]
        by_cases d : fX11_bits s ≤ fX11_bits (un K s &&& (us ^^^ (-1)))
        · rw [if_pos d, rcs h e0 e1 N (s + 1) a ha, show okS K us s = true from decide_eq_true d, Bool.true_and]
        · rw [if_neg d, e0, show okS K us s = false from decide_eq_false d, Bool.false_and]
          rfl
      · rw [if_neg c2] at hl2
        rw [if_neg c2]
        exact rcs h e0 e1 N (s + 1) l hl2
set_option maxHeartbeats 400000 in
theorem ccs {F K : Nat → Int32} {set us : Int32} {E63 : Int32 → Int32 → Int32 → Int32} {E74 : Int32 → Int32} (h : ∀ i, i < 6 → F i = K i) (hB : ∀ i, i < 6 → B16 (K i)) (e0 : ∀ a b c, E63 a b c = 0) (e1 : ∀ a, E74 a = 1) : ∀ (N : Nat) (p : Int32) (l : List Int32), cL set N p = some l → inL l 64 = true → fl_mX3_canServe_2 F set us E63 E74 N p = if l.all (okS K us) = true then 1 else 0
  | 0, _, _, hl, _ => by
    have hl2 : (none : Option (List Int32)) = some _ := hl
    exact absurd hl2 (by simp)
  | N + 1, p, l, hl, hi => by
    have hl2 : (if p ≤ 0 then some [] else (cL set N ((p - 1) &&& set)).map (fun l => p :: l)) = some l := hl
    show fb_mX3_canServe_2 F set us E63 E74 (fl_mX3_canServe_2 F set us E63 E74 N) p = _
    unfold fb_mX3_canServe_2
    by_cases c : p ≤ 0
    · rw [if_pos c] at hl2
      rw [if_pos c, e1, ← Option.some.inj hl2]
      rfl
    · rw [if_neg c] at hl2
      rw [if_neg c]
      simp only [bnd]
      obtain ⟨a, ha, ea⟩ := Option.map_eq_some_iff.mp hl2
      rw [← ea] at hi
      obtain ⟨p0, p9, ai⟩ := inL_c hi
      rw [cu_6, un_cg h, bc_16 (B16_an (un_B hB p)), bc_x p0 (by omega), ← ea, List.all_cons]
      by_cases d : fX11_bits p ≤ fX11_bits (un K p &&& (us ^^^ (-1)))
      · rw [if_pos d, ccs h hB e0 e1 N ((p - 1) &&& set) a ha ai, show okS K us p = true from decide_eq_true d, Bool.true_and]
      · rw [if_neg d, e0, show okS K us p = false from decide_eq_false d, Bool.false_and]
        rfl
/-- Hall's rule -/
def csB (K : Nat → Int32) (us set : Int32) : Bool := ((rL set (((64 : Int32).toInt - (1 : Int32).toInt).toNat + 1) 1).getD []).all (okS K us)
set_option maxHeartbeats 400000 in
theorem csB_e {K : Nat → Int32} {us set : Int32} {l : List Int32} (e : rL set (((64 : Int32).toInt - (1 : Int32).toInt).toNat + 1) 1 = some l) : csB K us set = l.all (okS K us) := by
  unfold csB
  rw [e]
  rfl
set_option maxHeartbeats 400000 in
theorem rcs_v {F K : Nat → Int32} {us : Int32} (h : ∀ i, i < 6 → F i = K i) {m : Nat} (hm : m < 64) : fX11_canServe F (Int32.ofNat m) us = if csB K us (Int32.ofNat m) = true then 1 else 0 := by
  obtain ⟨l, e, _, _⟩ := sub_l hm
  unfold fX11_canServe
  rw [csB_e e]
  exact rcs h (fun _ _ _ => rfl) (fun _ => rfl) _ 1 l e
set_option maxHeartbeats 400000 in
theorem ccs_v {F K : Nat → Int32} {us : Int32} (h : ∀ i, i < 6 → F i = K i) (hB : ∀ i, i < 6 → B16 (K i)) {m : Nat} (hm : m < 64) : fX3_canServe F (Int32.ofNat m) us = if csB K us (Int32.ofNat m) = true then 1 else 0 := by
  obtain ⟨l, e, e2, e3⟩ := sub_l hm
  unfold fX3_canServe
  rw [csB_e e, ← List.all_reverse]
  exact ccs h hB (fun _ _ _ => rfl) (fun _ => rfl) _ _ l.reverse e2 e3
