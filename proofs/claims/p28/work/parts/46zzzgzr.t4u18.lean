set_option maxHeartbeats 400000 in
theorem bit_k {b : BitVec 32} {k : Nat} (hk : k < 32) : (b.sshiftRight k &&& 1#32 = 0#32) ↔ b.getLsbD k = false := by
  constructor
  · intro h
    have e := congrArg (fun c : BitVec 32 => c.getLsbD 0) h
    have e2 : (b.sshiftRight k &&& 1#32).getLsbD 0 = b.getLsbD k := by
      rw [BitVec.getLsbD_and, BitVec.getLsbD_sshiftRight]
      simp
      omega
    exact e2.symm.trans (e.trans (by decide))
  · intro h
    apply BitVec.eq_of_getLsbD_eq
    intro i hi
    rw [BitVec.getLsbD_and, BitVec.getLsbD_sshiftRight]
    by_cases z : i = 0
    · subst z
      simp [h]
      omega
    · simp [BitVec.getLsbD_one, z]
set_option maxHeartbeats 400000 in
theorem bit_m {b : BitVec 32} {k : Nat} (hk : k < 32) : (b &&& (1#32 <<< k) = 0#32) ↔ b.getLsbD k = false := by
  constructor
  · intro h
    have e := congrArg (fun c : BitVec 32 => c.getLsbD k) h
    have e2 : (b &&& (1#32 <<< k)).getLsbD k = b.getLsbD k := by
      rw [BitVec.getLsbD_and, BitVec.getLsbD_shiftLeft]
      simp
      omega
    exact e2.symm.trans (e.trans (by simp))
  · intro h
    apply BitVec.eq_of_getLsbD_eq
    intro i hi
    rw [BitVec.getLsbD_and, BitVec.getLsbD_shiftLeft, BitVec.getLsbD_one]
    by_cases z : i = k
    · subst z
      simp [h]
    · simp
      intro _ _
      omega
set_option maxHeartbeats 400000 in
theorem r16 {x : Int32} (h0 : 0 ≤ x.toInt) (h1 : x.toInt < 16) : ((x &&& 31).toBitVec.smod 32).toNat = x.toNatClampNeg := by
  have t := tn_eq h0
  have e := ofN_c h0
  have k : ∀ m : Nat, m < 16 → ((Int32.ofNat m &&& 31).toBitVec.smod 32).toNat = m := by decide
  have q := k x.toNatClampNeg (by omega)
  rw [e] at q
  exact q
set_option maxHeartbeats 400000 in
theorem one_or {y : Int32} : (y &&& 1 = 1) ↔ ¬ (y &&& 1 = 0) := by
  have k : y &&& 1 = 0 ∨ y &&& 1 = 1 := by
    rw [← Int32.toBitVec_inj, ← Int32.toBitVec_inj, Int32.toBitVec_and]
    show y.toBitVec &&& 1#32 = 0#32 ∨ y.toBitVec &&& 1#32 = 1#32
    rw [BitVec.and_one_eq_setWidth_ofBool_getLsbD]
    cases y.toBitVec.getLsbD 0
    · exact Or.inl (by decide)
    · exact Or.inr (by decide)
  rcases k with e | e
  · rw [e]; decide
  · rw [e]; decide
set_option maxHeartbeats 400000 in
theorem frb {x j : Int32} (h0 : 0 ≤ j.toInt) (h1 : j.toInt < 16) : (x &&& ((1 : Int32) <<< (j &&& 31)) = 0) ↔ ¬ ((x >>> (j &&& 31)) &&& 1 = 1) := by
  have t := tn_eq h0
  have k32 : j.toNatClampNeg < 32 := by omega
  have e1 : (x &&& ((1 : Int32) <<< (j &&& 31))).toBitVec = x.toBitVec &&& (1#32 <<< j.toNatClampNeg) := by
    rw [← r16 h0 h1]
    rfl
  have e2 : ((x >>> (j &&& 31)) &&& 1).toBitVec = (x.toBitVec.sshiftRight j.toNatClampNeg) &&& 1#32 := by
    rw [← r16 h0 h1]
    rfl
  rw [one_or, Classical.not_not, ← Int32.toBitVec_inj, ← Int32.toBitVec_inj, e1, e2]
  exact (bit_m k32).trans (bit_k k32).symm
set_option maxHeartbeats 400000 in
theorem fr_c {ko u b : Int32} : (ko &&& b) &&& u = (ko &&& u) &&& b := by
  apply Int32.toBitVec_inj.mp
  show ko.toBitVec &&& b.toBitVec &&& u.toBitVec = ko.toBitVec &&& u.toBitVec &&& b.toBitVec
  rw [BitVec.and_assoc, BitVec.and_comm b.toBitVec, ← BitVec.and_assoc]
set_option maxHeartbeats 400000 in
theorem ad_c {a b c : Int32} : (a + b = c) ↔ (b = c - a) := by
  constructor
  · intro h
    rw [← h]
    apply Int32.toBitVec_inj.mp
    show b.toBitVec = a.toBitVec + b.toBitVec - a.toBitVec
    rw [BitVec.add_comm, BitVec.add_sub_cancel]
  · intro h
    rw [h]
    apply Int32.toBitVec_inj.mp
    show a.toBitVec + (c.toBitVec - a.toBitVec) = c.toBitVec
    rw [BitVec.add_comm, BitVec.sub_add_cancel]
/-- the JAR of an ORDER, or -1 -/
def fjV (K S : Nat → Int32) (z o us lf : Int32) : Nat → Int32 → Int32
  | 0, _ => -1
  | n + 1, j => if ((K o.toNatClampNeg &&& (us ^^^ (-1))) >>> (j &&& 31)) &&& 1 = 1 then (if S (312 + (4 * o.toNatClampNeg + 3)) + gV K S z (o + 1) (us ||| ((1 : Int32) <<< (j &&& 31))) = lf then j else fjV K S z o us lf n (j + 1)) else fjV K S z o us lf n (j + 1)
def fjX (K S : Nat → Int32) (z o us lf : Int32) : Nat → Int32 → Int32
  | 0, j => j
  | n + 1, j => if ((K o.toNatClampNeg &&& (us ^^^ (-1))) >>> (j &&& 31)) &&& 1 = 1 then (if S (312 + (4 * o.toNatClampNeg + 3)) + gV K S z (o + 1) (us ||| ((1 : Int32) <<< (j &&& 31))) = lf then j + 1 else fjX K S z o us lf n (j + 1)) else fjX K S z o us lf n (j + 1)
set_option maxHeartbeats 400000 in
theorem fjV_r {K S : Nat → Int32} {z o us lf : Int32} : ∀ (n : Nat) (j : Int32), 0 ≤ j.toInt → j.toInt + n = 16 → fjV K S z o us lf n j = -1 ∨ (0 ≤ (fjV K S z o us lf n j).toInt ∧ (fjV K S z o us lf n j).toInt < 16)
  | 0, _, _, _ => Or.inl rfl
  | n + 1, j, j0, jn => by
    have e : (j + 1).toInt = j.toInt + 1 := zadd1 (by omega)
    have i := fjV_r (K := K) (S := S) (z := z) (o := o) (us := us) (lf := lf) n (j + 1) (by omega) (by omega)
    unfold fjV
    split
    · split
      · exact Or.inr ⟨j0, by omega⟩
      · exact i
    · exact i
set_option maxHeartbeats 400000 in
theorem pl_in {o : Int32} (o0 : 0 ≤ o.toInt) (o6 : o.toInt < 6) : (o + 1).toInt = o.toInt + 1 := zadd1 (by omega)

set_option maxHeartbeats 400000 in
theorem rfj {F K S : Nat → Int32} {z o us lf : Int32} {E : Int32 → Int32 → (Int32 × Int32 × Int32 × Int32 × Int32 × Int32 × Int32 × Int32 × Int32 × Int32 × (Nat → Int64) × (Nat → Int64) × (Nat → Int32) × (Nat → Int32) × (Nat → Int32) × (Nat → Int32) × (Nat → Int32) × (Nat → Int32) × (Nat → Int32) × Int32)} (h : ∀ i, i < 6 → F i = K i) (z0 : 0 ≤ z.toInt) (z6 : z.toInt ≤ 6) (o0 : 0 ≤ o.toInt) (o6 : o.toInt < 6) : ∀ (n N : Nat) (j : Int32), n < N → 0 ≤ j.toInt → j.toInt + n = 16 → fl_mX11_all_168 S z F o lf us (S (312 + (4 * o.toNatClampNeg + 3))) E N j (-1) = E (fjX K S z o us lf n j) (fjV K S z o us lf n j)
  | _, 0, _, h, _, _ => absurd h (Nat.not_lt_zero _)
  | 0, N + 1, j, _, j0, jn => by
    show fb_mX11_all_168 S z F o lf us (S (312 + (4 * o.toNatClampNeg + 3))) E (fl_mX11_all_168 S z F o lf us (S (312 + (4 * o.toNatClampNeg + 3))) E N) j (-1) = E j (-1)
    unfold fb_mX11_all_168
    rw [if_pos (show 16 ≤ j by rw [Int32.le_iff_toInt_le, show (16 : Int32).toInt = 16 from by decide]; omega)]
  | n + 1, N + 1, j, hN, j0, jn => by
    have e : (j + 1).toInt = j.toInt + 1 := zadd1 (by omega)
    have tj := tn_eq o0
    have hpo := pl_in o0 o6
    have q := rfj (F := F) (K := K) (S := S) (z := z) (o := o) (us := us) (lf := lf) (E := E) h z0 z6 o0 o6 n N (j + 1) (by omega) (by omega) (by omega)
    have eg : fX11_priceFrom S F z (o + 1) (us ||| ((1 : Int32) <<< (j &&& 31))) = gV K S z (o + 1) (us ||| ((1 : Int32) <<< (j &&& 31))) := rpf_v h z0 z6 (by omega) (by omega)
    have st : fl_mX11_all_168 S z F o lf us (S (312 + (4 * o.toNatClampNeg + 3))) E (N + 1) j (-1) = fb_mX11_all_168 S z F o lf us (S (312 + (4 * o.toNatClampNeg + 3))) E (fl_mX11_all_168 S z F o lf us (S (312 + (4 * o.toNatClampNeg + 3))) E N) j (-1) := rfl
    have es : fjV K S z o us lf (n + 1) j = if ((K o.toNatClampNeg &&& (us ^^^ (-1))) >>> (j &&& 31)) &&& 1 = 1 then (if S (312 + (4 * o.toNatClampNeg + 3)) + gV K S z (o + 1) (us ||| ((1 : Int32) <<< (j &&& 31))) = lf then j else fjV K S z o us lf n (j + 1)) else fjV K S z o us lf n (j + 1) := rfl
    have ex : fjX K S z o us lf (n + 1) j = if ((K o.toNatClampNeg &&& (us ^^^ (-1))) >>> (j &&& 31)) &&& 1 = 1 then (if S (312 + (4 * o.toNatClampNeg + 3)) + gV K S z (o + 1) (us ||| ((1 : Int32) <<< (j &&& 31))) = lf then j + 1 else fjX K S z o us lf n (j + 1)) else fjX K S z o us lf n (j + 1) := rfl
    rw [st, es, ex]
    unfold fb_mX11_all_168
    rw [if_neg (show ¬ 16 ≤ j by rw [Int32.le_iff_toInt_le, show (16 : Int32).toInt = 16 from by decide]; omega), if_neg (show ¬ (0 : Int32) ≤ -1 by decide), bndv (h o.toNatClampNeg (by omega)), bnd_eq, bnd_eq, bnd_eq, bnd_eq]
    by_cases d : ((K o.toNatClampNeg &&& (us ^^^ (-1))) >>> (j &&& 31)) &&& 1 = 1
    · rw [if_pos d, if_pos d, if_pos d, bnd_eq, bnd_eq, bndv eg]
      by_cases y : S (312 + (4 * o.toNatClampNeg + 3)) + gV K S z (o + 1) (us ||| ((1 : Int32) <<< (j &&& 31))) = lf
      · rw [if_pos y, if_pos y, if_pos y, bnd_eq]
        obtain ⟨M, rfl⟩ : ∃ M, N = M + 1 := ⟨N - 1, by omega⟩
        show fb_mX11_all_168 S z F o lf us (S (312 + (4 * o.toNatClampNeg + 3))) E (fl_mX11_all_168 S z F o lf us (S (312 + (4 * o.toNatClampNeg + 3))) E M) (j + 1) j = _
        unfold fb_mX11_all_168
        rw [if_pos (show (0 : Int32) ≤ j by rw [Int32.le_iff_toInt_le, z_i0]; exact j0), ite_self]
      · rw [if_neg y, if_neg y, if_neg y, bnd_eq]
        exact q
    · rw [if_neg d, if_neg d, if_neg d, bnd_eq]
      exact q
set_option maxHeartbeats 400000 in
theorem cfj {F K S tF : Nat → Int32} {z o us lf x : Int32} {E82 : Int32 → Int32 → Int32 → Int32} {E91 : Int32 → Int32} (h : ∀ i, i < 6 → F i = K i) (hB : ∀ i, i < 6 → B16 (K i)) (hO : OE tF S) (e8 : ∀ a b c, E82 a b c = a) (e9 : ∀ a, E91 a = 16) (z0 : 0 ≤ z.toInt) (z6 : z.toInt ≤ 6) (o0 : 0 ≤ o.toInt) (o6 : o.toInt < 6) (ex : x = lf - S (312 + (4 * o.toNatClampNeg + 3))) : ∀ (n N : Nat) (j : Int32), n < N → 0 ≤ j.toInt → j.toInt + n = 16 → fl_mX3_firstJar_19 F z tF o us x E82 E91 N j = if fjV K S z o us lf n j < 0 then 16 else fjV K S z o us lf n j
  | _, 0, _, h, _, _ => absurd h (Nat.not_lt_zero _)
  | 0, N + 1, j, _, j0, jn => by
    show fb_mX3_firstJar_19 F z tF o us x E82 E91 (fl_mX3_firstJar_19 F z tF o us x E82 E91 N) j = 16
    unfold fb_mX3_firstJar_19
    rw [if_pos (show 16 ≤ j by rw [Int32.le_iff_toInt_le, show (16 : Int32).toInt = 16 from by decide]; omega), e9]
  | n + 1, N + 1, j, hN, j0, jn => by
    have e : (j + 1).toInt = j.toInt + 1 := zadd1 (by omega)
    have tj := tn_eq o0
    have hpo := pl_in o0 o6
    have q := cfj (us := us) (E82 := E82) (E91 := E91) h hB hO e8 e9 z0 z6 o0 o6 ex n N (j + 1) (by omega) (by omega) (by omega)
    have eg : fX3_greatest F z tF (o + 1) (us ||| ((1 : Int32) <<< (j &&& 31))) = gV K S z (o + 1) (us ||| ((1 : Int32) <<< (j &&& 31))) := cgr_v h hB hO z0 z6 (by omega) (by omega)
    have st : fl_mX3_firstJar_19 F z tF o us x E82 E91 (N + 1) j = fb_mX3_firstJar_19 F z tF o us x E82 E91 (fl_mX3_firstJar_19 F z tF o us x E82 E91 N) j := rfl
    have fr := frb (x := K o.toNatClampNeg &&& (us ^^^ (-1))) j0 (by omega)
    have es : fjV K S z o us lf (n + 1) j = if ((K o.toNatClampNeg &&& (us ^^^ (-1))) >>> (j &&& 31)) &&& 1 = 1 then (if S (312 + (4 * o.toNatClampNeg + 3)) + gV K S z (o + 1) (us ||| ((1 : Int32) <<< (j &&& 31))) = lf then j else fjV K S z o us lf n (j + 1)) else fjV K S z o us lf n (j + 1) := rfl
    rw [st, es]
    unfold fb_mX3_firstJar_19
    rw [if_neg (show ¬ 16 ≤ j by rw [Int32.le_iff_toInt_le, show (16 : Int32).toInt = 16 from by decide]; omega), bnd_eq, if_neg (show ¬ 6 ≤ o by rw [Int32.le_iff_toInt_le, show (6 : Int32).toInt = 6 from by decide]; omega), bndv (h o.toNatClampNeg (by omega)), fr_c]
    by_cases d : ((K o.toNatClampNeg &&& (us ^^^ (-1))) >>> (j &&& 31)) &&& 1 = 1
    · rw [if_pos d, if_neg (fun w => (fr.mp w) d), bndv eg]
      by_cases y : S (312 + (4 * o.toNatClampNeg + 3)) + gV K S z (o + 1) (us ||| ((1 : Int32) <<< (j &&& 31))) = lf
      · rw [if_pos y, if_pos ((ad_c.mp y).trans ex.symm), e8, if_neg (show ¬ j < 0 by rw [Int32.lt_iff_toInt_lt, z_i0]; omega)]
      · rw [if_neg y, if_neg (fun w => y (ad_c.mpr (w.trans ex))), bnd_eq]
        exact q
    · rw [if_neg d, if_pos (fr.mpr d), bnd_eq]
      exact q
set_option maxHeartbeats 400000 in
theorem cfj_v {F K S tF : Nat → Int32} {z o us lf : Int32} (h : ∀ i, i < 6 → F i = K i) (hB : ∀ i, i < 6 → B16 (K i)) (hO : OE tF S) (z0 : 0 ≤ z.toInt) (z6 : z.toInt ≤ 6) (o0 : 0 ≤ o.toInt) (o6 : o.toInt < 6) : fX3_firstJar F z tF o us lf = if fjV K S z o us lf 16 0 < 0 then 16 else fjV K S z o us lf 16 0 := by
  unfold fX3_firstJar
  rw [bndv ((oget (c := 3) hO o0 o6 (by decide) (by decide)).trans (by rw [Nat.add_assoc])), bnd_eq]
  exact cfj h hB hO (fun _ _ _ => rfl) (fun _ => rfl) z0 z6 o0 o6 rfl 16 _ 0 (by decide) (by decide) (by decide)
/-- after n ORDERS more: the JAR of the next -/
def chV (K S : Nat → Int32) (z : Int32) : Nat → Int32 → Int32 → Int32 → Int32
  | 0, o, us, lf => fjV K S z o us lf 16 0
  | n + 1, o, us, lf => if fjV K S z o us lf 16 0 < 0 then chV K S z n (o + 1) us lf else chV K S z n (o + 1) (us ||| ((1 : Int32) <<< (fjV K S z o us lf 16 0 &&& 31))) (lf - S (312 + (4 * o.toNatClampNeg + 3)))
def c16 (j : Int32) : Int32 := if j < 0 then 16 else j
set_option maxHeartbeats 400000 in
theorem rch {F K S : Nat → Int32} {z w : Int32} {E : Int32 → Int32 → Int32 → Int32 → (Int32 × Int32 × Int32 × Int32 × Int32 × Int32 × Int32 × Int32 × Int32 × Int32 × (Nat → Int64) × (Nat → Int64) × (Nat → Int32) × (Nat → Int32) × (Nat → Int32) × (Nat → Int32) × (Nat → Int32) × (Nat → Int32) × (Nat → Int32) × Int32)} (h : ∀ i, i < 6 → F i = K i) (hE : ∀ a b c d, (E a b c d).2.2.2.2.2.2.2.2.2.2.2.2.2.2.2.2.2.2.2 = c16 b) (z0 : 0 ≤ z.toInt) (z6 : z.toInt ≤ 6) (w6 : w.toInt ≤ 6) : ∀ (n N : Nat) (o r lf us : Int32), n + 1 < N → 0 ≤ o.toInt → o.toInt + n + 1 = w.toInt → (fl_mX11_all_139 S z w F E N o r lf us).2.2.2.2.2.2.2.2.2.2.2.2.2.2.2.2.2.2.2 = c16 (chV K S z n o us lf)
  | _, 0, _, _, _, _, h, _, _ => absurd h (Nat.not_lt_zero _)
  | 0, N + 1, o, r, lf, us, hN, o0, on => by
    have e : (o + 1).toInt = o.toInt + 1 := zadd1 (by omega)
    obtain ⟨M, rfl⟩ : ∃ M, N = M + 1 := ⟨N - 1, by omega⟩
    have stop : ∀ r lf us, fl_mX11_all_139 S z w F E (M + 1) (o + 1) r lf us = E (o + 1) r lf us := by
      intro r lf us
      show fb_mX11_all_139 S z w F E (fl_mX11_all_139 S z w F E M) (o + 1) r lf us = _
      unfold fb_mX11_all_139
      rw [if_pos (show w ≤ o + 1 by rw [Int32.le_iff_toInt_le]; omega)]
    have st : fl_mX11_all_139 S z w F E (M + 1 + 1) o r lf us = fb_mX11_all_139 S z w F E (fl_mX11_all_139 S z w F E (M + 1)) o r lf us := rfl
    rw [st]
    unfold fb_mX11_all_139
    rw [if_neg (show ¬ w ≤ o by rw [Int32.le_iff_toInt_le]; omega), bndv (congrArg S (c_or (q := 3) (c := 3) o0 (by omega) (by decide) (by decide))), rfj h z0 z6 o0 (by omega) 16 (((16 : Int32).toInt - (0 : Int32).toInt).toNat + 1) 0 (by decide) (by decide) (by decide)]
    simp only [bnd, stop]
    by_cases c : 0 ≤ fjV K S z o us lf 16 0
    · rw [if_pos c, hE]
      rfl
    · rw [if_neg c, hE]
      rfl
  | n + 1, N + 1, o, r, lf, us, hN, o0, on => by
    have e : (o + 1).toInt = o.toInt + 1 := zadd1 (by omega)
    have st : fl_mX11_all_139 S z w F E (N + 1) o r lf us = fb_mX11_all_139 S z w F E (fl_mX11_all_139 S z w F E N) o r lf us := rfl
    have es : chV K S z (n + 1) o us lf = if fjV K S z o us lf 16 0 < 0 then chV K S z n (o + 1) us lf else chV K S z n (o + 1) (us ||| ((1 : Int32) <<< (fjV K S z o us lf 16 0 &&& 31))) (lf - S (312 + (4 * o.toNatClampNeg + 3))) := rfl
    rw [st, es]
    unfold fb_mX11_all_139
    rw [if_neg (show ¬ w ≤ o by rw [Int32.le_iff_toInt_le]; omega), bndv (congrArg S (c_or (q := 3) (c := 3) o0 (by omega) (by decide) (by decide))), rfj h z0 z6 o0 (by omega) 16 (((16 : Int32).toInt - (0 : Int32).toInt).toNat + 1) 0 (by decide) (by decide) (by decide)]
    simp only [bnd]
    by_cases c : 0 ≤ fjV K S z o us lf 16 0
    · rw [if_pos c, if_neg (show ¬ fjV K S z o us lf 16 0 < 0 by rw [Int32.lt_iff_toInt_lt, z_i0]; rw [Int32.le_iff_toInt_le, z_i0] at c; omega)]
      exact rch h hE z0 z6 w6 n N (o + 1) _ _ _ (by omega) (by omega) (by omega)
    · rw [if_neg c, if_pos (show fjV K S z o us lf 16 0 < 0 by rw [Int32.lt_iff_toInt_lt, z_i0]; rw [Int32.le_iff_toInt_le, z_i0] at c; omega)]
      exact rch h hE z0 z6 w6 n N (o + 1) _ _ _ (by omega) (by omega) (by omega)
set_option maxHeartbeats 400000 in
theorem cch {F K S tF : Nat → Int32} {z x : Int32} {E : (Nat → Int32) → Int32 → Int32 → Int32 → (Int32 × (Nat → Int32))} (h : ∀ i, i < 6 → F i = K i) (hB : ∀ i, i < 6 → B16 (K i)) (hO : OE tF S) (eE : ∀ g a b c, E g a b c = (x, g)) (z0 : 0 ≤ z.toInt) (z6 : z.toInt ≤ 6) : ∀ (n N : Nat) (g : Nat → Int32) (o us lf : Int32), n < N → 0 ≤ o.toInt → o.toInt + n = z.toInt → ∃ g', fl_mX3_choose_19 F z tF E N g o us lf = (x, g') ∧ (∀ i, i < o.toNatClampNeg → g' i = g i) ∧ (∀ k, k < n → g' (o.toNatClampNeg + k) = c16 (chV K S z k o us lf))
  | _, 0, _, _, _, _, h, _, _ => absurd h (Nat.not_lt_zero _)
  | 0, N + 1, g, o, us, lf, hN, o0, on => by
    refine ⟨g, ?_, fun _ _ => rfl, fun k hk => absurd hk (Nat.not_lt_zero _)⟩
    show fb_mX3_choose_19 F z tF E (fl_mX3_choose_19 F z tF E N) g o us lf = _
    unfold fb_mX3_choose_19
    rw [if_pos (show z ≤ o by rw [Int32.le_iff_toInt_le]; omega), eE]
  | n + 1, N + 1, g, o, us, lf, hN, o0, on => by
    have e : (o + 1).toInt = o.toInt + 1 := zadd1 (by omega)
    have t1' := tn_eq o0
    have t2' := tn_eq (show 0 ≤ (o + 1).toInt by omega)
    have eo : (o + 1).toNatClampNeg = o.toNatClampNeg + 1 := by omega
    have ej : fX3_firstJar F z tF o us lf = if fjV K S z o us lf 16 0 < 0 then 16 else fjV K S z o us lf 16 0 := cfj_v h hB hO z0 z6 o0 (by omega)
    have er := fjV_r (K := K) (S := S) (z := z) (o := o) (us := us) (lf := lf) 16 0 (by decide) (by decide)
    have st : fl_mX3_choose_19 F z tF E (N + 1) g o us lf = fb_mX3_choose_19 F z tF E (fl_mX3_choose_19 F z tF E N) g o us lf := rfl
    rw [st]
    unfold fb_mX3_choose_19
    rw [if_neg (show ¬ z ≤ o by rw [Int32.le_iff_toInt_le]; omega), if_neg (show ¬ 6 ≤ o by rw [Int32.le_iff_toInt_le, show (6 : Int32).toInt = 6 from by decide]; omega), bndv ej, bnd_eq]
    have fin : ∀ us2 lf2, (∀ k, chV K S z (k + 1) o us lf = chV K S z k (o + 1) us2 lf2) → ∃ g', fl_mX3_choose_19 F z tF E N (upd g o.toNatClampNeg (c16 (fjV K S z o us lf 16 0))) (o + 1) us2 lf2 = (x, g') ∧ (∀ i, i < o.toNatClampNeg → g' i = g i) ∧ (∀ k, k < n + 1 → g' (o.toNatClampNeg + k) = c16 (chV K S z k o us lf)) := by
      intro us2 lf2 hk2
      obtain ⟨g', q1, q2, q3⟩ := cch (F := F) (K := K) (S := S) (tF := tF) (z := z) (x := x) (E := E) h hB hO eE z0 z6 n N (upd g o.toNatClampNeg (c16 (fjV K S z o us lf 16 0))) (o + 1) us2 lf2 (by omega) (by omega) (by omega)
      refine ⟨g', q1, fun i hi => (q2 i (by omega)).trans (upd_ne (by omega)), fun k hk => ?_⟩
      rcases k with _ | k
      · rw [Nat.add_zero, q2 _ (by omega)]
        exact pk_us
      · have a := q3 k (by omega)
        rw [eo] at a
        rw [show o.toNatClampNeg + (k + 1) = o.toNatClampNeg + 1 + k from by omega, a, hk2 k]
    by_cases c : fjV K S z o us lf 16 0 < 0
    · have r := fin us lf (fun k => if_pos c)
      rw [show c16 (fjV K S z o us lf 16 0) = 16 from if_pos c] at r
      rw [if_pos c, if_pos rfl, bnd_eq]
      exact r
    · rcases er with e1 | ⟨e1, e2⟩
      · exact absurd (show fjV K S z o us lf 16 0 < 0 by rw [e1]; decide) c
      · have ne : ¬ fjV K S z o us lf 16 0 = 16 := by
          intro w
          rw [w, show (16 : Int32).toInt = 16 from by decide] at e2
          omega
        have r := fin (us ||| ((1 : Int32) <<< (fjV K S z o us lf 16 0 &&& 31))) (lf - S (312 + (4 * o.toNatClampNeg + 3))) (fun k => if_neg c)
        rw [show c16 (fjV K S z o us lf 16 0) = fjV K S z o us lf 16 0 from if_neg c] at r
        rw [if_neg c, if_neg ne, bnd_eq, bnd_eq, bndv ((oget (c := 3) hO o0 (by omega) (by decide) (by decide)).trans (by rw [Nat.add_assoc])), bnd_eq, bnd_eq]
        exact r
set_option maxHeartbeats 400000 in
theorem ccho_v {F K S tF kc : Nat → Int32} {z : Int32} (h : ∀ i, i < 6 → F i = K i) (hB : ∀ i, i < 6 → B16 (K i)) (hO : OE tF S) (z0 : 0 ≤ z.toInt) (z6 : z.toInt ≤ 6) : ∃ g', fX3_choose F kc z tF = (gV K S z 0 0, g') ∧ ∀ k, k < z.toNatClampNeg → g' k = c16 (chV K S z k 0 0 (gV K S z 0 0)) := by
  have t := tn_eq z0
  have eg : fX3_greatest F z tF 0 0 = gV K S z 0 0 := cgr_v h hB hO z0 z6 (by decide) (by decide)
  obtain ⟨g', q1, _, q3⟩ := cch (F := F) (K := K) (S := S) (tF := tF) (z := z) (x := gV K S z 0 0) (E := fun g _ _ _ => (gV K S z 0 0, g)) h hB hO (fun _ _ _ _ => rfl) z0 z6 z.toNatClampNeg (((z : Int32).toInt - (0 : Int32).toInt).toNat + 1) kc 0 0 (gV K S z 0 0) (by rw [z_i0]; omega) (by decide) (by rw [z_i0]; omega)
  refine ⟨g', ?_, fun k hk => ?_⟩
  · unfold fX3_choose
    rw [bndv eg]
    exact q1
  · have a := q3 k hk
    rw [show (0 : Int32).toNatClampNeg + k = k from Nat.zero_add k] at a
    exact a
