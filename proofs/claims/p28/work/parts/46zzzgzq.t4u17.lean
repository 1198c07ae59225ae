/-- the ORDERS of a set -/
def oL (z s : Int32) : Nat → Int32 → Option (List Int32)
  | 0, _ => none
  | n + 1, o => if z ≤ o then some [] else if (s >>> (o &&& 31)) &&& 1 = 1 then (oL z s n (o + 1)).map (fun l => o :: l) else oL z s n (o + 1)
def prS (S : Nat → Int32) : List Int32 → Int32 → Int32
  | [], a => a
  | o :: l, a => prS S l (a + S (312 + (4 * o.toNatClampNeg + 3)))
def oOK (z m : Nat) : Bool := match oL (Int32.ofNat z) (Int32.ofNat m) (((Int32.ofNat z).toInt - (0 : Int32).toInt).toNat + 1) 0 with
  | none => false
  | some l => decide (oL 6 (Int32.ofNat m) (((6 : Int32).toInt - (0 : Int32).toInt).toNat + 1) 0 = some l)
set_option maxHeartbeats 400000 in
theorem o_ok : ∀ z, z < 7 → ∀ m, m < 2 ^ z → oOK z m = true := by decide +kernel
set_option maxHeartbeats 400000 in
theorem o_l {z m : Nat} (hz : z < 7) (hm : m < 2 ^ z) : ∃ l, oL (Int32.ofNat z) (Int32.ofNat m) (((Int32.ofNat z).toInt - (0 : Int32).toInt).toNat + 1) 0 = some l ∧ oL 6 (Int32.ofNat m) (((6 : Int32).toInt - (0 : Int32).toInt).toNat + 1) 0 = some l := by
  have k := o_ok z hz m hm
  unfold oOK at k
  rcases e : oL (Int32.ofNat z) (Int32.ofNat m) (((Int32.ofNat z).toInt - (0 : Int32).toInt).toNat + 1) 0 with _ | l
  · rw [e] at k
    exact absurd (show false = true from k) Bool.false_ne_true
  · rw [e] at k
    exact ⟨l, rfl, of_decide_eq_true k⟩
set_option maxHeartbeats 400000 in
theorem rpr {S : Nat → Int32} {z s : Int32} {E : Int32 → Int32 → Int32} (z6 : z.toInt ≤ 6) : ∀ (N : Nat) (o a : Int32) (l : List Int32), 0 ≤ o.toInt → o.toInt ≤ z.toInt → oL z s N o = some l → fl_mX11_priceFrom_48 S z s E N o a = E z (prS S l a)
  | 0, _, _, _, _, _, hl => by
    have hl2 : (none : Option (List Int32)) = some _ := hl
    exact absurd hl2 (by simp)
  | N + 1, o, a, l, o0, oz, hl => by
    have hl2 : (if z ≤ o then some [] else if (s >>> (o &&& 31)) &&& 1 = 1 then (oL z s N (o + 1)).map (fun l => o :: l) else oL z s N (o + 1)) = some l := hl
    show fb_mX11_priceFrom_48 S z s E (fl_mX11_priceFrom_48 S z s E N) o a = _
    unfold fb_mX11_priceFrom_48
    by_cases c : z ≤ o
    · rw [if_pos c] at hl2
      have eo : o = z := Int32.toInt_inj.mp (by rw [Int32.le_iff_toInt_le] at c; omega)
      rw [if_pos c, ← Option.some.inj hl2, eo]
      rfl
    · rw [if_neg c] at hl2
      rw [if_neg c]
      simp only [bnd]
      rw [Int32.le_iff_toInt_le] at c
      have e : (o + 1).toInt = o.toInt + 1 := zadd1 (by omega)
      by_cases d : (s >>> (o &&& 31)) &&& 1 = 1
      · rw [if_pos d] at hl2
        obtain ⟨b, hb, eb⟩ := Option.map_eq_some_iff.mp hl2
        rw [if_pos d, rpr z6 N (o + 1) _ b (by omega) (by omega) hb, c_or (q := 3) (c := 3) o0 (by omega) (by decide) (by decide), ← eb]
        rfl
      · rw [if_neg d] at hl2
        rw [if_neg d, rpr z6 N (o + 1) _ l (by omega) (by omega) hl2, Int32.add_zero]
set_option maxHeartbeats 400000 in
theorem cpr {F S : Nat → Int32} {s : Int32} {E : Int32 → Int32 → Int32} (hO : OE F S) : ∀ (N : Nat) (o a : Int32) (l : List Int32), 0 ≤ o.toInt → o.toInt ≤ 6 → oL 6 s N o = some l → fl_mX3_priceOf_4 F s E N o a = E 6 (prS S l a)
  | 0, _, _, _, _, _, hl => by
    have hl2 : (none : Option (List Int32)) = some _ := hl
    exact absurd hl2 (by simp)
  | N + 1, o, a, l, o0, oz, hl => by
    have hl2 : (if 6 ≤ o then some [] else if (s >>> (o &&& 31)) &&& 1 = 1 then (oL 6 s N (o + 1)).map (fun l => o :: l) else oL 6 s N (o + 1)) = some l := hl
    have i6 : (6 : Int32).toInt = 6 := by decide
    show fb_mX3_priceOf_4 F s E (fl_mX3_priceOf_4 F s E N) o a = _
    unfold fb_mX3_priceOf_4
    by_cases c : 6 ≤ o
    · rw [if_pos c] at hl2
      have eo : o = 6 := Int32.toInt_inj.mp (by rw [Int32.le_iff_toInt_le] at c; omega)
      rw [if_pos c, ← Option.some.inj hl2, eo]
      rfl
    · rw [if_neg c] at hl2
      rw [if_neg c]
      simp only [bnd]
      rw [Int32.le_iff_toInt_le] at c
      have e : (o + 1).toInt = o.toInt + 1 := zadd1 (by omega)
      by_cases d : (s >>> (o &&& 31)) &&& 1 = 1
      · rw [if_pos d] at hl2
        obtain ⟨b, hb, eb⟩ := Option.map_eq_some_iff.mp hl2
        rw [if_pos d, cpr hO N (o + 1) _ b (by omega) (by omega) hb, oget (c := 3) hO o0 (by omega) (by decide) (by decide), Nat.add_assoc, ← eb]
        rfl
      · rw [if_neg d] at hl2
        rw [if_neg d, cpr hO N (o + 1) _ l (by omega) (by omega) hl2]
/-- what a set of ORDERS pays -/
def prV (S : Nat → Int32) (s : Int32) : Int32 := prS S ((oL 6 s (((6 : Int32).toInt - (0 : Int32).toInt).toNat + 1) 0).getD []) 0
set_option maxHeartbeats 400000 in
theorem prV_e {S : Nat → Int32} {s : Int32} {l : List Int32} (e : oL 6 s (((6 : Int32).toInt - (0 : Int32).toInt).toNat + 1) 0 = some l) : prV S s = prS S l 0 := by
  unfold prV
  rw [e]
  rfl
set_option maxHeartbeats 400000 in
theorem cpr_v {F S : Nat → Int32} (hO : OE F S) {m : Nat} (hm : m < 64) : fX3_priceOf F (Int32.ofNat m) = prV S (Int32.ofNat m) := by
  obtain ⟨l, _, e⟩ := o_l (z := 6) (m := m) (by omega) hm
  unfold fX3_priceOf
  rw [prV_e e]
  exact cpr hO _ 0 0 l (by decide) (by decide) e
/-- the sets of ORDERS from one ORDER on -/
def gR (z f : Int32) : Nat → Int32 → Option (List Int32)
  | 0, _ => none
  | n + 1, s => if ((1 : Int32) <<< (z &&& 31)) ≤ s then some [] else if s &&& (((1 : Int32) <<< (f &&& 31)) - 1) = 0 then (gR z f n (s + 1)).map (fun l => s :: l) else gR z f n (s + 1)
def gC (x f : Int32) : Nat → Int32 → Option (List Int32)
  | 0, _ => none
  | n + 1, s => if x ≤ s then some [] else (gC x f n (s + ((1 : Int32) <<< (f &&& 31)))).map (fun l => s :: l)
def gOK (z f : Nat) : Bool := match gR (Int32.ofNat z) (Int32.ofNat f) (((64 : Int32).toInt - (0 : Int32).toInt).toNat + 1) 0 with
  | none => false
  | some l => decide (gC ((1 : Int32) <<< (Int32.ofNat z &&& 31)) (Int32.ofNat f) ((((1 : Int32) <<< (Int32.ofNat z &&& 31)).toInt - (0 : Int32).toInt).toNat + 1) 0 = some l) && inL l ((2 ^ z : Nat) : Int)
set_option maxHeartbeats 400000 in
theorem g_ok : ∀ z, z < 7 → ∀ f, f < 7 → gOK z f = true := by decide +kernel
set_option maxHeartbeats 400000 in
theorem g_l {z f : Nat} (hz : z < 7) (hf : f < 7) : ∃ l, gR (Int32.ofNat z) (Int32.ofNat f) (((64 : Int32).toInt - (0 : Int32).toInt).toNat + 1) 0 = some l ∧ gC ((1 : Int32) <<< (Int32.ofNat z &&& 31)) (Int32.ofNat f) ((((1 : Int32) <<< (Int32.ofNat z &&& 31)).toInt - (0 : Int32).toInt).toNat + 1) 0 = some l ∧ inL l ((2 ^ z : Nat) : Int) = true := by
  have k := g_ok z hz f hf
  unfold gOK at k
  rcases e : gR (Int32.ofNat z) (Int32.ofNat f) (((64 : Int32).toInt - (0 : Int32).toInt).toNat + 1) 0 with _ | l
  · rw [e] at k
    exact absurd (show false = true from k) Bool.false_ne_true
  · rw [e] at k
    have k2 : (decide (gC ((1 : Int32) <<< (Int32.ofNat z &&& 31)) (Int32.ofNat f) ((((1 : Int32) <<< (Int32.ofNat z &&& 31)).toInt - (0 : Int32).toInt).toNat + 1) 0 = some l) && inL l ((2 ^ z : Nat) : Int)) = true := k
    rw [Bool.and_eq_true, decide_eq_true_iff] at k2
    exact ⟨l, rfl, k2.1, k2.2⟩
/-- the greatest price of sets of ORDERS that can be served -/
def stG (K S : Nat → Int32) (us a s : Int32) : Int32 := if csB K us s = true then (if prV S s ≤ a then a else prV S s) else a
def gF (K S : Nat → Int32) (us : Int32) : List Int32 → Int32 → Int32
  | [], a => a
  | s :: l, a => gF K S us l (stG K S us a s)
def gV (K S : Nat → Int32) (z f us : Int32) : Int32 := gF K S us ((gR z f (((64 : Int32).toInt - (0 : Int32).toInt).toNat + 1) 0).getD []) 0
set_option maxHeartbeats 400000 in
theorem gV_e {K S : Nat → Int32} {z f us : Int32} {l : List Int32} (e : gR z f (((64 : Int32).toInt - (0 : Int32).toInt).toNat + 1) 0 = some l) : gV K S z f us = gF K S us l 0 := by
  unfold gV
  rw [e]
  rfl
set_option maxHeartbeats 400000 in
theorem p2_64 {z : Nat} (hz : z < 7) : 2 ^ z ≤ 64 := by
  rcases (show z = 0 ∨ z = 1 ∨ z = 2 ∨ z = 3 ∨ z = 4 ∨ z = 5 ∨ z = 6 by omega) with e | e | e | e | e | e | e <;> (rw [e]; decide)
set_option maxHeartbeats 400000 in
theorem ofN_in {s : Int32} {z : Nat} (h0 : 0 ≤ s.toInt) (h1 : s.toInt < ((2 ^ z : Nat) : Int)) : ∃ m, m < 2 ^ z ∧ s = Int32.ofNat m := by
  have t := tn_eq h0
  exact ⟨s.toNatClampNeg, by omega, (ofN_c h0).symm⟩
set_option maxHeartbeats 400000 in
theorem rpf {F K S : Nat → Int32} {z : Nat} {f us : Int32} {E : Int32 → Int32 → Int32} (h : ∀ i, i < 6 → F i = K i) (hz : z < 7) (e0 : ∀ a b, E a b = b) : ∀ (N : Nat) (s a : Int32) (l : List Int32), gR (Int32.ofNat z) f N s = some l → inL l ((2 ^ z : Nat) : Int) = true → fl_mX11_priceFrom_5 S F (Int32.ofNat z) f us E N s a = gF K S us l a
  | 0, _, _, _, hl, _ => by
    have hl2 : (none : Option (List Int32)) = some _ := hl
    exact absurd hl2 (by simp)
  | N + 1, s, a, l, hl, hi => by
    have hl2 : (if ((1 : Int32) <<< (Int32.ofNat z &&& 31)) ≤ s then some [] else if s &&& (((1 : Int32) <<< (f &&& 31)) - 1) = 0 then (gR (Int32.ofNat z) f N (s + 1)).map (fun l => s :: l) else gR (Int32.ofNat z) f N (s + 1)) = some l := hl
    show fb_mX11_priceFrom_5 S F (Int32.ofNat z) f us E (fl_mX11_priceFrom_5 S F (Int32.ofNat z) f us E N) s a = _
    unfold fb_mX11_priceFrom_5
    rw [bnd_eq]
    by_cases c : ((1 : Int32) <<< (Int32.ofNat z &&& 31)) ≤ s
    · rw [if_pos c] at hl2
      rw [if_pos c, e0, ← Option.some.inj hl2]
      rfl
    · rw [if_neg c] at hl2
      rw [if_neg c, bnd_eq, bnd_eq]
      by_cases d : s &&& (((1 : Int32) <<< (f &&& 31)) - 1) = 0
      · rw [if_pos d] at hl2
        obtain ⟨b, hb, eb⟩ := Option.map_eq_some_iff.mp hl2
        rw [← eb] at hi
        obtain ⟨s0, s9, bi⟩ := inL_c hi
        obtain ⟨m, hm, es⟩ := ofN_in s0 s9
        have m64 : m < 64 := Nat.lt_of_lt_of_le hm (p2_64 hz)
        have z6 : (Int32.ofNat z).toInt = (z : Int) := Int32.toInt_ofNat_of_lt (by omega)
        have ec : fX11_canServe F s us = if csB K us s = true then 1 else 0 := by rw [es]; exact rcs_v h m64
        rw [if_pos d]
        by_cases q : csB K us s = true
        · rw [bndv (ec.trans (if_pos q)), if_neg (show ¬ (1 : Int32) = 0 by decide), ← eb]
          show _ = gF K S us b (stG K S us a s)
          unfold stG
          rw [if_pos q]
          obtain ⟨w, ew, ew6⟩ := o_l hz hm
          rw [← es] at ew ew6
          rw [rpr (by omega) _ 0 0 w (by decide) (by rw [z_i0]; omega) ew, ← prV_e (S := S) ew6]
          by_cases y : prV S s ≤ a
          · rw [if_pos y, if_pos y, bnd_eq]
            exact rpf h hz e0 N (s + 1) a b hb bi
          · rw [if_neg y, if_neg y, bnd_eq]
            exact rpf h hz e0 N (s + 1) _ b hb bi
        · rw [bndv (ec.trans (if_neg q)), if_pos rfl, bnd_eq, ← eb]
          show _ = gF K S us b (stG K S us a s)
          unfold stG
          rw [if_neg q]
          exact rpf h hz e0 N (s + 1) a b hb bi
      · rw [if_neg d] at hl2
        rw [if_neg d, bnd_eq]
        exact rpf h hz e0 N (s + 1) a l hl2 hi
set_option maxHeartbeats 400000 in
theorem cgr {F K S tF : Nat → Int32} {z : Nat} {f us x : Int32} {E : Int32 → Int32 → Int32} (h : ∀ i, i < 6 → F i = K i) (hB : ∀ i, i < 6 → B16 (K i)) (hO : OE tF S) (hz : z < 7) (e0 : ∀ a b, E a b = b) : ∀ (N : Nat) (s a : Int32) (l : List Int32), gC x f N s = some l → inL l ((2 ^ z : Nat) : Int) = true → fl_mX3_greatest_19 F tF f us x E N s a = gF K S us l a
  | 0, _, _, _, hl, _ => by
    have hl2 : (none : Option (List Int32)) = some _ := hl
    exact absurd hl2 (by simp)
  | N + 1, s, a, l, hl, hi => by
    have hl2 : (if x ≤ s then some [] else (gC x f N (s + ((1 : Int32) <<< (f &&& 31)))).map (fun l => s :: l)) = some l := hl
    show fb_mX3_greatest_19 F tF f us x E (fl_mX3_greatest_19 F tF f us x E N) s a = _
    unfold fb_mX3_greatest_19
    by_cases c : x ≤ s
    · rw [if_pos c] at hl2
      rw [if_pos c, e0, ← Option.some.inj hl2]
      rfl
    · rw [if_neg c] at hl2
      rw [if_neg c]
      obtain ⟨b, hb, eb⟩ := Option.map_eq_some_iff.mp hl2
      rw [← eb] at hi
      obtain ⟨s0, s9, bi⟩ := inL_c hi
      obtain ⟨m, hm, es⟩ := ofN_in s0 s9
      have m64 : m < 64 := Nat.lt_of_lt_of_le hm (p2_64 hz)
      have ep : fX3_priceOf tF s = prV S s := by rw [es]; exact cpr_v hO m64
      have ec : fX3_canServe F s us = if csB K us s = true then 1 else 0 := by rw [es]; exact ccs_v h hB m64
      rw [bndv ep]
      by_cases y : prV S s ≤ a
      · have es2 : stG K S us a s = a := by
          unfold stG
          rw [if_pos y, ite_self]
        rw [if_pos y, bnd_eq, bnd_eq, ← eb]
        show _ = gF K S us b (stG K S us a s)
        rw [es2]
        exact cgr h hB hO hz e0 N (s + ((1 : Int32) <<< (f &&& 31))) a b hb bi
      · rw [if_neg y]
        by_cases q : csB K us s = true
        · have es2 : stG K S us a s = prV S s := by
            unfold stG
            rw [if_neg y, if_pos q]
          rw [bndv (ec.trans (if_pos q)), if_neg (show ¬ (1 : Int32) = 0 by decide), bnd_eq, bnd_eq, ← eb]
          show _ = gF K S us b (stG K S us a s)
          rw [es2]
          exact cgr h hB hO hz e0 N (s + ((1 : Int32) <<< (f &&& 31))) _ b hb bi
        · have es2 : stG K S us a s = a := by
            unfold stG
            rw [if_neg q]
          rw [bndv (ec.trans (if_neg q)), if_pos rfl, bnd_eq, bnd_eq, ← eb]
          show _ = gF K S us b (stG K S us a s)
          rw [es2]
          exact cgr h hB hO hz e0 N (s + ((1 : Int32) <<< (f &&& 31))) a b hb bi
set_option maxHeartbeats 400000 in
theorem n7 {z : Int32} (h0 : 0 ≤ z.toInt) (h1 : z.toInt ≤ 6) : ∃ k, k < 7 ∧ z = Int32.ofNat k := by
  have t := tn_eq h0
  exact ⟨z.toNatClampNeg, by omega, (ofN_c h0).symm⟩
set_option maxHeartbeats 400000 in
theorem rpf_v {F K S : Nat → Int32} {z f us : Int32} (h : ∀ i, i < 6 → F i = K i) (z0 : 0 ≤ z.toInt) (z6 : z.toInt ≤ 6) (f0 : 0 ≤ f.toInt) (f6 : f.toInt ≤ 6) : fX11_priceFrom S F z f us = gV K S z f us := by
  obtain ⟨k, hk, ez⟩ := n7 z0 z6
  obtain ⟨j, hj, ef⟩ := n7 f0 f6
  rw [ez, ef]
  obtain ⟨l, e, _, i⟩ := g_l hk hj
  unfold fX11_priceFrom
  rw [gV_e e]
  exact rpf h hk (fun _ _ => rfl) _ 0 0 l e i
set_option maxHeartbeats 400000 in
theorem cgr_v {F K S tF : Nat → Int32} {z f us : Int32} (h : ∀ i, i < 6 → F i = K i) (hB : ∀ i, i < 6 → B16 (K i)) (hO : OE tF S) (z0 : 0 ≤ z.toInt) (z6 : z.toInt ≤ 6) (f0 : 0 ≤ f.toInt) (f6 : f.toInt ≤ 6) : fX3_greatest F z tF f us = gV K S z f us := by
  obtain ⟨k, hk, ez⟩ := n7 z0 z6
  obtain ⟨j, hj, ef⟩ := n7 f0 f6
  rw [ez, ef]
  obtain ⟨l, e, e2, i⟩ := g_l hk hj
  unfold fX3_greatest
  rw [gV_e e, bnd_eq]
  exact cgr h hB hO hk (fun _ _ => rfl) _ 0 0 l e2 i
