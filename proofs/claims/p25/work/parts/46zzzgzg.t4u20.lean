set_option maxHeartbeats 400000 in
theorem i32e {a b : Int32} (h : a.toInt = b.toInt) : a = b := Int32.toInt_inj.mp h
set_option maxHeartbeats 400000 in
theorem zm1 {i : Int32} (h : 0 ≤ i.toInt) : (i + (-1)).toInt = i.toInt - 1 := zsub1 (by omega)
set_option maxHeartbeats 400000 in
theorem nx_z {v : Nat → Int32} {E29 E90 : Int32 → Int32 → ((Nat → Int32) × Int32)} {j : Int32} (j0 : 0 ≤ j.toInt) : ∀ (n N : Nat) (i : Int32), n < N → i.toInt = j.toInt + n → i.toInt < 6 → (∀ t : Nat, j.toNatClampNeg < t → t ≤ i.toNatClampNeg → v t = 0) → fl_mX11_waitsOtherwise_21 v E29 E90 N i 0 = fl_mX11_waitsOtherwise_21 v E29 E90 (N - n) j 0
  | 0, N, i, _, hi, _, _ => by
    rw [Nat.sub_zero, i32e (show i.toInt = j.toInt by omega)]
  | n + 1, 0, _, h, _, _, _ => absurd h (Nat.not_lt_zero _)
  | n + 1, N + 1, i, hN, hi, i6, hz => by
    have tj := tn_eq j0
    have ti := tn_eq (show 0 ≤ i.toInt by omega)
    have em := zm1 (show 0 ≤ i.toInt by omega)
    have tm := tn_eq (show 0 ≤ (i + (-1)).toInt by omega)
    have q := nx_z (v := v) (E29 := E29) (E90 := E90) j0 n N (i + (-1)) (by omega) (by omega) (by omega) (fun t a b => hz t a (by omega))
    rw [Nat.add_sub_add_right]
    refine Eq.trans ?_ q
    show fb_mX11_waitsOtherwise_21 v E29 E90 (fl_mX11_waitsOtherwise_21 v E29 E90 N) i 0 = _
    unfold fb_mX11_waitsOtherwise_21
    rw [if_neg (show ¬ i < 0 by rw [Int32.lt_iff_toInt_lt, z_i0]; omega), if_pos (show (0 : Int32) ≤ 0 by decide), bndv (hz i.toNatClampNeg (by omega) (Nat.le_refl _)), bndv (show (0 : Int32) + 0 = 0 by decide), bnd_eq]
set_option maxHeartbeats 400000 in
theorem nx_44 {last : Int32} : ∀ (n N : Nat) (g : Nat → Int32) (x : Int32), n < N → 0 ≤ x.toInt → x.toInt + n = last.toInt → last.toInt < 6 → ∃ g' : Nat → Int32, (∀ E : (Nat → Int32) → Int32 → ((Nat → Int32) × Int32), fl_mX11_waitsOtherwise_44 last E N g x = E g' last) ∧ (∀ t : Nat, x.toNatClampNeg ≤ t → t < last.toNatClampNeg → g' t = 0) ∧ (∀ t : Nat, t < x.toNatClampNeg ∨ last.toNatClampNeg ≤ t → g' t = g t)
  | _, 0, _, _, h, _, _, _ => absurd h (Nat.not_lt_zero _)
  | 0, N + 1, g, x, _, x0, xn, l6 => by
    have ex : x = last := i32e (by omega)
    subst ex
    refine ⟨g, fun E => ?_, fun t a b => absurd b (by omega), fun _ _ => rfl⟩
    show fb_mX11_waitsOtherwise_44 x E (fl_mX11_waitsOtherwise_44 x E N) g x = _
    unfold fb_mX11_waitsOtherwise_44
    rw [if_pos (Int32.le_iff_toInt_le.mpr (Int.le_refl _))]
  | n + 1, N + 1, g, x, hN, x0, xn, l6 => by
    have e : (x + 1).toInt = x.toInt + 1 := zadd1 (by omega)
    have tx := tn_eq x0
    have tx1 := tn_eq (show 0 ≤ (x + 1).toInt by omega)
    have tl := tn_eq (show 0 ≤ last.toInt by omega)
    obtain ⟨g', r1, r2, r3⟩ := nx_44 (last := last) n N (upd g x.toNatClampNeg 0) (x + 1) (by omega) (by omega) (by omega) l6
    refine ⟨g', fun E => Eq.trans ?_ (r1 E), fun t a b => ?_, fun t a => ?_⟩
    · show fb_mX11_waitsOtherwise_44 last E (fl_mX11_waitsOtherwise_44 last E N) g x = _
      unfold fb_mX11_waitsOtherwise_44
      rw [if_neg (show ¬ last ≤ x by rw [Int32.le_iff_toInt_le]; omega), bnd_eq, bnd_eq]
    · by_cases c : t = x.toNatClampNeg
      · rw [r3 t (Or.inl (by omega)), c]
        exact pk_us
      · exact r2 t (by omega) b
    · rw [r3 t (by omega)]
      exact upd_ne (by omega)
set_option maxHeartbeats 400000 in
/-- there is another row of waits: one hour more at j, those behind it at the end -/
theorem nx_more {v : Nat → Int32} {zw r : Int32} {j : Nat} (z6 : zw.toInt ≤ 6) (jl : ((j + 1 : Nat) : Int) < zw.toInt) (er : v (j + 1) = r) (r1 : 1 ≤ r.toInt) (hz : ∀ t : Nat, j + 1 < t → (t : Int) < zw.toInt → v t = 0) : ∃ v' : Nat → Int32, fX11_waitsOtherwise v zw = (v', 1) ∧ (∀ t : Nat, t < j → v' t = v t) ∧ v' j = v j + 1 ∧ (∀ t : Nat, j + 1 ≤ t → ((t + 1 : Nat) : Int) < zw.toInt → v' t = 0) ∧ (∀ t : Nat, ((t + 1 : Nat) : Int) = zw.toInt → v' t = r - 1) := by
  have h1 : (1 : Int32).toInt = 1 := by decide
  have el : (zw - 1).toInt = zw.toInt - 1 := by rw [zsub (by rw [h1]; omega) (by rw [h1]; omega), h1]
  have el2 : (zw - 1 - 1).toInt = zw.toInt - 2 := by rw [zsub (by rw [h1]; omega) (by rw [h1]; omega), h1]; omega
  have tl := tn_eq (show 0 ≤ (zw - 1).toInt by omega)
  have ej : (Int32.ofNat j).toInt = (j : Int) := Int32.toInt_ofNat_of_lt (by omega)
  have ej1 : (Int32.ofNat (j + 1)).toInt = ((j + 1 : Nat) : Int) := Int32.toInt_ofNat_of_lt (by omega)
  have tj : (Int32.ofNat j).toNatClampNeg = j := by have := tn_eq (show 0 ≤ (Int32.ofNat j).toInt by omega); omega
  have tj1 : (Int32.ofNat (j + 1)).toNatClampNeg = j + 1 := by have := tn_eq (show 0 ≤ (Int32.ofNat (j + 1)).toInt by omega); omega
  have ejj : Int32.ofNat j + 1 = Int32.ofNat (j + 1) := i32e (by rw [zadd1 (by omega)]; omega)
  have key : ∀ E29 E90 : Int32 → Int32 → ((Nat → Int32) × Int32), fl_mX11_waitsOtherwise_21 v E29 E90 (((zw - 1 - 1).toInt + 1).toNat + 1) (zw - 1 - 1) (v (zw - 1).toNatClampNeg) = E29 (Int32.ofNat j) r := by
    intro E29 E90
    have stop : ∀ N, fl_mX11_waitsOtherwise_21 v E29 E90 (N + 1) (Int32.ofNat j) r = E29 (Int32.ofNat j) r := by
      intro N
      show fb_mX11_waitsOtherwise_21 v E29 E90 (fl_mX11_waitsOtherwise_21 v E29 E90 N) (Int32.ofNat j) r = _
      unfold fb_mX11_waitsOtherwise_21
      rw [if_neg (show ¬ Int32.ofNat j < 0 by rw [Int32.lt_iff_toInt_lt, z_i0]; omega), if_neg (show ¬ r ≤ 0 by rw [Int32.le_iff_toInt_le, z_i0]; omega)]
    by_cases c : ((j + 2 : Nat) : Int) = zw.toInt
    · rw [show (zw - 1).toNatClampNeg = j + 1 by omega, er, show zw - 1 - 1 = Int32.ofNat j from i32e (by omega)]
      exact stop _
    · rw [hz (zw - 1).toNatClampNeg (by omega) (by omega)]
      have q := nx_z (v := v) (E29 := E29) (E90 := E90) (j := Int32.ofNat (j + 1)) (by omega) (zw.toInt.toNat - 3 - j) (((zw - 1 - 1).toInt + 1).toNat + 1) (zw - 1 - 1) (by omega) (by omega) (by omega) (fun t a b => hz t (by omega) (by have := tn_eq (show 0 ≤ (zw - 1 - 1).toInt by omega); omega))
      rw [q, show ((zw - 1 - 1).toInt + 1).toNat + 1 - (zw.toInt.toNat - 3 - j) = j + 2 + 1 by omega]
      show fb_mX11_waitsOtherwise_21 v E29 E90 (fl_mX11_waitsOtherwise_21 v E29 E90 (j + 2)) (Int32.ofNat (j + 1)) 0 = _
      unfold fb_mX11_waitsOtherwise_21
      rw [if_neg (show ¬ Int32.ofNat (j + 1) < 0 by rw [Int32.lt_iff_toInt_lt, z_i0]; omega), if_pos (show (0 : Int32) ≤ 0 by decide), bndv (show v (Int32.ofNat (j + 1)).toNatClampNeg = r by rw [tj1]; exact er), bndv (show (0 : Int32) + r = r from Int32.zero_add _), bndv (show Int32.ofNat (j + 1) + (-1) = Int32.ofNat j from i32e (by rw [zm1 (by omega)]; omega))]
      exact stop _
  obtain ⟨g', s1, s2, s3⟩ := nx_44 (last := zw - 1) (zw.toInt.toNat - 2 - j) (((zw - 1 : Int32).toInt - (Int32.ofNat (j + 1)).toInt).toNat + 1) (upd v j (v j + 1)) (Int32.ofNat (j + 1)) (by omega) (by omega) (by omega) (by omega)
  refine ⟨upd g' (zw - 1).toNatClampNeg (r - 1), ?_, fun t ht => ?_, ?_, fun t a b => ?_, fun t a => ?_⟩
  · unfold fX11_waitsOtherwise
    rw [bnd_eq, bnd_eq, bnd_eq, key, bnd_eq, bnd_eq, bndv ejj, tj, s1, bnd_eq]
  · rw [upd_ne (by omega), s3 t (Or.inl (by omega))]
    exact upd_ne (by omega)
  · rw [upd_ne (by omega), s3 j (Or.inl (by omega))]
    exact pk_us
  · rw [upd_ne (by omega)]
    exact s2 t (by omega) (by omega)
  · rw [show (zw - 1).toNatClampNeg = t by omega]
    exact pk_us
set_option maxHeartbeats 400000 in
/-- there is none -/
theorem nx_no {v : Nat → Int32} {zw : Int32} (z1 : 1 ≤ zw.toInt) (z6 : zw.toInt ≤ 6) (hz : ∀ t : Nat, 1 ≤ t → (t : Int) < zw.toInt → v t = 0) : fX11_waitsOtherwise v zw = (v, 0) := by
  have h1 : (1 : Int32).toInt = 1 := by decide
  have el : (zw - 1).toInt = zw.toInt - 1 := by rw [zsub (by rw [h1]; omega) (by rw [h1]; omega), h1]
  have el2 : (zw - 1 - 1).toInt = zw.toInt - 2 := by rw [zsub (by rw [h1]; omega) (by rw [h1]; omega), h1]; omega
  have tl := tn_eq (show 0 ≤ (zw - 1).toInt by omega)
  have key : ∀ E29 E90 : Int32 → Int32 → ((Nat → Int32) × Int32), ∃ a b, fl_mX11_waitsOtherwise_21 v E29 E90 (((zw - 1 - 1).toInt + 1).toNat + 1) (zw - 1 - 1) (v (zw - 1).toNatClampNeg) = E90 a b := by
    intro E29 E90
    have stop : ∀ N r, fl_mX11_waitsOtherwise_21 v E29 E90 (N + 1) (-1) r = E90 (-1) r := by
      intro N r
      show fb_mX11_waitsOtherwise_21 v E29 E90 (fl_mX11_waitsOtherwise_21 v E29 E90 N) (-1) r = _
      unfold fb_mX11_waitsOtherwise_21
      rw [if_pos (by decide)]
    by_cases c : zw.toInt = 1
    · rw [show zw - 1 - 1 = -1 from i32e (by rw [el2, c]; decide)]
      exact ⟨_, _, stop _ _⟩
    · rw [hz (zw - 1).toNatClampNeg (by omega) (by omega)]
      have q := nx_z (v := v) (E29 := E29) (E90 := E90) (j := 0) (by decide) (zw.toInt.toNat - 2) (((zw - 1 - 1).toInt + 1).toNat + 1) (zw - 1 - 1) (by omega) (by rw [z_i0]; omega) (by omega) (fun t a b => hz t (by have := tn_eq (show 0 ≤ (0 : Int32).toInt by decide); omega) (by have := tn_eq (show 0 ≤ (zw - 1 - 1).toInt by omega); omega))
      rw [q, show ((zw - 1 - 1).toInt + 1).toNat + 1 - (zw.toInt.toNat - 2) = 1 + 1 by omega]
      show ∃ a b, fb_mX11_waitsOtherwise_21 v E29 E90 (fl_mX11_waitsOtherwise_21 v E29 E90 1) 0 0 = E90 a b
      unfold fb_mX11_waitsOtherwise_21
      rw [if_neg (show ¬ (0 : Int32) < 0 by decide), if_pos (show (0 : Int32) ≤ 0 by decide), bnd_eq, bnd_eq, bndv (show (0 : Int32) + (-1) = -1 by decide)]
      exact ⟨_, _, stop _ _⟩
  unfold fX11_waitsOtherwise
  rw [bnd_eq, bnd_eq, bnd_eq]
  obtain ⟨a, b, q⟩ := key (fun (w29_0_0 : Int32) (w29_1_0 : Int32) => bnd (v w29_0_0.toNatClampNeg) (fun (x29 : Int32) => bnd ((upd v w29_0_0.toNatClampNeg (x29 + 1))) (fun (f30 : Nat → Int32) => bnd ((w29_0_0 + 1)) (fun (x32 : Int32) => fl_mX11_waitsOtherwise_44 (zw - 1) (fun (w64_0_1 : Nat → Int32) (w64_1_1 : Int32) => bnd ((upd w64_0_1 (zw - 1).toNatClampNeg (w29_1_0 - 1))) (fun (f34 : Nat → Int32) => (f34, 1))) ((((zw - 1) : Int32).toInt - x32.toInt).toNat + 1) f30 x32)))) (fun (w90_0_0 : Int32) (w90_1_0 : Int32) => (v, 0))
  exact q
/-- what is found: how many, the fewest, the most -/
def acU (A : Int32 × Int32 × Int32) (w : Int32) : Int32 × Int32 × Int32 := if A.1 = 0 then (A.1 + 1, w, w) else (A.1 + 1, (if A.2.1 ≤ w then A.2.1 else w), (if w ≤ A.2.2 then A.2.2 else w))
def wtS (S : Nat → Int32) (L : Cls) (fe sa node d h : Int32) : Int32 := d - mltw (nwd S h node d fe sa) L 0 d
def wtD (S : Nat → Int32) (L : Cls) (fe sa node : Int32) : Nat → Int32 → Int32 → Int32
  | 0, d, _ => d
  | n + 1, d, h => wtD S L fe sa node n (wtS S L fe sa node d h) (h + 1)
set_option maxHeartbeats 400000 in
theorem hrH_s : ∀ (n : Nat) (h : Int32), hrH (n + 1) h = hrH n h + 1
  | 0, _ => rfl
  | n + 1, h => hrH_s n (h + 1)
set_option maxHeartbeats 400000 in
theorem wtD_s {S : Nat → Int32} {L : Cls} {fe sa node : Int32} : ∀ (n : Nat) (d h : Int32), wtD S L fe sa node (n + 1) d h = wtS S L fe sa node (wtD S L fe sa node n d h) (hrH n h)
  | 0, _, _ => rfl
  | n + 1, d, h => wtD_s n (wtS S L fe sa node d h) (h + 1)
set_option maxHeartbeats 400000 in
theorem wtS_in {S : Nat → Int32} {L : Cls} {fe sa node d h : Int32} (d0 : 0 ≤ d.toInt) (d9 : d.toInt ≤ 99999) : 0 ≤ (wtS S L fe sa node d h).toInt ∧ (wtS S L fe sa node d h).toInt ≤ d.toInt := by
  have q := mlt_in (W := nwd S h node d fe sa) (L := L) (mo := 0) (nd := 1) d0 d9
  rw [mlt_1 d0] at q
  exact q
set_option maxHeartbeats 400000 in
theorem wtD_in {S : Nat → Int32} {L : Cls} {fe sa node : Int32} : ∀ (n : Nat) (d h : Int32), 0 ≤ d.toInt → d.toInt ≤ 99999 → 0 ≤ (wtD S L fe sa node n d h).toInt ∧ (wtD S L fe sa node n d h).toInt ≤ d.toInt
  | 0, _, _, d0, _ => ⟨d0, Int.le_refl _⟩
  | n + 1, d, h, d0, d9 => by
    have a := wtS_in (S := S) (L := L) (fe := fe) (sa := sa) (node := node) (h := h) d0 d9
    have b := wtD_in (S := S) (L := L) (fe := fe) (sa := sa) (node := node) n (wtS S L fe sa node d h) (h + 1) a.1 (by omega)
    exact ⟨b.1, Int.le_trans b.2 a.2⟩
/-- the hours told one by one, from n on -/
def lpS (g : Int32 → Int32 → Int32 → (Int32 × Int32 × Int32) → (Int32 × Int32 × Int32)) (w : Int32 → Int32 → Int32) : Nat → Int32 → Int32 → Int32 → (Int32 × Int32 × Int32) → (Int32 × Int32 × Int32)
  | 0, _, _, _, A => A
  | c + 1, n, d, h, A => lpS g w c (n + 1) (w d h) (h + 1) (g n d h A)
def tqS (S : Nat → Int32) (L : Cls) (fe sa due : Int32) (kf : (Nat → Int32) → Int32) : Nat → Nat → (Nat → Int32) → Int32 → Int32 → Int32 → (Int32 × Int32 × Int32) → (Int32 × Int32 × Int32)
  | 0, _, v, d, _, _, A => if d = due then acU A (kf v) else A
  | r + 1, i, v, d, h, hrs, A => if r = 0 then tqS S L fe sa due kf r (i + 1) (upd v i hrs) (crD 1 S L (S (10 + i)) (oth S (S (10 + i)) (wen S i)) fe sa 0 (wtD S L fe sa (wen S i) hrs.toNatClampNeg d h) (hrH hrs.toNatClampNeg h)) (crH S (S (10 + i)) (hrH hrs.toNatClampNeg h)) 0 A
    else lpS (fun n d h A => tqS S L fe sa due kf r (i + 1) (upd v i n) (crD 1 S L (S (10 + i)) (oth S (S (10 + i)) (wen S i)) fe sa 0 d h) (crH S (S (10 + i)) h) (hrs - n) A) (wtS S L fe sa (wen S i)) (hrs.toNatClampNeg + 1) 0 d h A
set_option maxHeartbeats 400000 in
theorem tqS_0 {S : Nat → Int32} {L : Cls} {fe sa due : Int32} {kf : (Nat → Int32) → Int32} {i : Nat} {v : Nat → Int32} {d h hrs : Int32} {A : Int32 × Int32 × Int32} : tqS S L fe sa due kf 0 i v d h hrs A = if d = due then acU A (kf v) else A := rfl
set_option maxHeartbeats 400000 in
theorem tqS_1 {S : Nat → Int32} {L : Cls} {fe sa due : Int32} {kf : (Nat → Int32) → Int32} {i : Nat} {v : Nat → Int32} {d h hrs : Int32} {A : Int32 × Int32 × Int32} : tqS S L fe sa due kf 1 i v d h hrs A = tqS S L fe sa due kf 0 (i + 1) (upd v i hrs) (crD 1 S L (S (10 + i)) (oth S (S (10 + i)) (wen S i)) fe sa 0 (wtD S L fe sa (wen S i) hrs.toNatClampNeg d h) (hrH hrs.toNatClampNeg h)) (crH S (S (10 + i)) (hrH hrs.toNatClampNeg h)) 0 A := rfl
set_option maxHeartbeats 400000 in
theorem tqS_2 {S : Nat → Int32} {L : Cls} {fe sa due : Int32} {kf : (Nat → Int32) → Int32} {i r : Nat} {v : Nat → Int32} {d h hrs : Int32} {A : Int32 × Int32 × Int32} : tqS S L fe sa due kf (r + 1 + 1) i v d h hrs A = lpS (fun n d h A => tqS S L fe sa due kf (r + 1) (i + 1) (upd v i n) (crD 1 S L (S (10 + i)) (oth S (S (10 + i)) (wen S i)) fe sa 0 d h) (crH S (S (10 + i)) h) (hrs - n) A) (wtS S L fe sa (wen S i)) (hrs.toNatClampNeg + 1) 0 d h A := rfl
set_option maxHeartbeats 400000 in
theorem lpS_id {g : Int32 → Int32 → Int32 → (Int32 × Int32 × Int32) → (Int32 × Int32 × Int32)} {w : Int32 → Int32 → Int32} {P : Int32 → Prop} (hg : ∀ n d h A, P d → g n d h A = A) (hw : ∀ d h, P d → P (w d h)) : ∀ (c : Nat) (n d h : Int32) (A : Int32 × Int32 × Int32), P d → lpS g w c n d h A = A
  | 0, _, _, _, _, _ => rfl
  | c + 1, n, d, h, A, hd => by
    show lpS g w c (n + 1) (w d h) (h + 1) (g n d h A) = A
    rw [hg n d h A hd]
    exact lpS_id hg hw c (n + 1) (w d h) (h + 1) A (hw d h hd)
set_option maxHeartbeats 400000 in
/-- with too few DROPS nothing is found -/
theorem tqS_lt {S : Nat → Int32} {L : Cls} {fe sa due : Int32} {kf : (Nat → Int32) → Int32} : ∀ (r i : Nat) (v : Nat → Int32) (d h hrs : Int32) (A : Int32 × Int32 × Int32), 0 ≤ d.toInt → d.toInt ≤ 99999 → d.toInt < due.toInt → tqS S L fe sa due kf r i v d h hrs A = A := by
  intro r
  induction r with
  | zero =>
    intro i v d h hrs A d0 d9 dd
    rw [tqS_0, if_neg (fun q => by rw [q] at dd; omega)]
  | succ r ih =>
    intro i v d h hrs A d0 d9 dd
    rcases r with _ | r
    · rw [tqS_1]
      have a := wtD_in (S := S) (L := L) (fe := fe) (sa := sa) (node := wen S i) hrs.toNatClampNeg d h d0 d9
      have b := crD_in (nd := 1) (S := S) (L := L) (pass := S (10 + i)) (to := oth S (S (10 + i)) (wen S i)) (fe := fe) (sa := sa) (mo := 0) (h := hrH hrs.toNatClampNeg h) a.1 (by omega)
      exact ih _ _ _ _ _ _ b.1 (by omega) (by omega)
    · rw [tqS_2]
      refine lpS_id (P := fun d => 0 ≤ d.toInt ∧ d.toInt ≤ 99999 ∧ d.toInt < due.toInt) (fun n d h A hd => ?_) (fun d h hd => ?_) _ _ _ _ _ ⟨d0, d9, dd⟩
      · have b := crD_in (nd := 1) (S := S) (L := L) (pass := S (10 + i)) (to := oth S (S (10 + i)) (wen S i)) (fe := fe) (sa := sa) (mo := 0) (h := h) hd.1 hd.2.1
        exact ih _ _ _ _ _ _ b.1 (by omega) (by omega)
      · have a := wtS_in (S := S) (L := L) (fe := fe) (sa := sa) (node := wen S i) (h := h) hd.1 hd.2.1
        exact ⟨a.1, by omega, by omega⟩
