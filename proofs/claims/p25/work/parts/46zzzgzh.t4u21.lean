set_option maxHeartbeats 400000 in
theorem rwt {S sg cl cs : Nat → Int32} {sk wd : Nat → Int64} {top node law fe sa d h : Int32} {L : Cls} (hL : LWR sg cl cs law L) (hn : rN node) : ∃ v' g0' g1', fX11_waits top node d h fe sa 0 sg cl cs sk wd S (S 6) law = (v', wtS S L fe sa node d h, h + 1, g0', g1') := by
  have hw := ref_nw (w := wd) (S := S) (hour := h) (dr := d) (fe := fe) (sa := sa) hn
  obtain ⟨v1, k1, q⟩ := ref_mb (sk := sk) (top := top) (d := d) (mo := 0) hL hw
  unfold fX11_waits
  rw [bnd_eq, bndv q, bnd_eq, bnd_eq, bnd_eq, bnd_eq, bnd_eq]
  exact ⟨_, _, _, rfl⟩
/-- the DROPS left behind a row of waits -/
def goF (S : Nat → Int32) (L : Cls) (fe sa : Int32) (u : Nat → Int32) : Nat → Nat → Int32 → Int32 → Int32
  | 0, _, d, _ => d
  | n + 1, k, d, h => goF S L fe sa u n (k + 1) (crD 1 S L (S (10 + k)) (oth S (S (10 + k)) (wen S k)) fe sa 0 (wtD S L fe sa (wen S k) (u k).toNatClampNeg d h) (hrH (u k).toNatClampNeg h)) (crH S (S (10 + k)) (hrH (u k).toNatClampNeg h))
set_option maxHeartbeats 400000 in
theorem goF_s {S : Nat → Int32} {L : Cls} {fe sa : Int32} {u : Nat → Int32} {n k : Nat} {d h : Int32} : goF S L fe sa u (n + 1) k d h = goF S L fe sa u n (k + 1) (crD 1 S L (S (10 + k)) (oth S (S (10 + k)) (wen S k)) fe sa 0 (wtD S L fe sa (wen S k) (u k).toNatClampNeg d h) (hrH (u k).toNatClampNeg h)) (crH S (S (10 + k)) (hrH (u k).toNatClampNeg h)) := rfl
set_option maxHeartbeats 400000 in
theorem wv_nx {f g : Nat → Int32} {m i : Nat} (im : i + 1 ≤ m) (h1 : ∀ t : Nat, t < i → g t = f t) (h2 : (g i).toInt = (f i).toInt + 1) (f0 : 0 ≤ (f i).toInt) (h3 : ∀ t : Nat, t < m → wcl (f t) ≤ 12) : wv f m < wv g m := by
  have a := tn_eq f0
  have b := tn_eq (show 0 ≤ (g i).toInt by omega)
  have v1 : wv g (i + 1) = wv f (i + 1) + 1 := by
    show 13 * wv g i + (g i).toNatClampNeg = 13 * wv f i + (f i).toNatClampNeg + 1
    rw [wv_congr i h1]
    omega
  have hd : m = i + 1 + (m - (i + 1)) := by omega
  have v2 := wv_ge (f := g) (m := i + 1) (m - (i + 1))
  have v3 := wv_lt (f := f) (m := i + 1) (m - (i + 1)) (fun j hj => h3 j (by omega))
  rw [← hd] at v2 v3
  rw [v1] at v2
  omega
set_option maxHeartbeats 400000 in
theorem wv_13 {f : Nat → Int32} {m : Nat} (m6 : m ≤ 6) (h3 : ∀ t : Nat, t < m → wcl (f t) ≤ 12) : wv f m + 1 ≤ 13 ^ 6 := by
  have a := wv_lt (f := f) (m := 0) m (fun j hj => h3 j (by omega))
  rw [Nat.zero_add] at a
  have c : 13 ^ m ≤ 13 ^ 6 := Nat.pow_le_pow_right (by decide) m6
  have d : wv f 0 = 0 := rfl
  rw [d] at a
  omega
set_option maxHeartbeats 400000 in
theorem rgw {S sg cl cs u : Nat → Int32} {law fe sa node l : Int32} {L : Cls} (hL : LWR sg cl cs law L) (hn : rN node) : ∀ (n N : Nat) (g0 g1 : Nat → Int64) (v d h j : Int32), n < N → 0 ≤ j.toInt → j.toInt + n = (u l.toNatClampNeg).toInt → ∃ v' g0' g1', ∀ E : (Nat → Int64) → (Nat → Int64) → Int32 → Int32 → Int32 → Int32 → (Int32 × Int32 × Int32 × Int32 × Int32 × Int32 × Int32 × (Nat → Int64) × (Nat → Int64) × (Nat → Int32) × Int32), fl_mX11_guess_204 sg cl cs S (S 6) law u fe sa 0 node l E N g0 g1 v d h j = E g0' g1' v' (wtD S L fe sa node n d h) (hrH n h) (u l.toNatClampNeg)
  | _, 0, _, _, _, _, _, _, h, _, _ => absurd h (Nat.not_lt_zero _)
  | 0, N + 1, g0, g1, v, d, h, j, _, j0, jn => by
    have ej : j = u l.toNatClampNeg := i32e (by omega)
    refine ⟨v, g0, g1, fun E => ?_⟩
    show fb_mX11_guess_204 sg cl cs S (S 6) law u fe sa 0 node l E (fl_mX11_guess_204 sg cl cs S (S 6) law u fe sa 0 node l E N) g0 g1 v d h j = _
    unfold fb_mX11_guess_204
    rw [bnd_eq, if_pos (show u l.toNatClampNeg ≤ j from Int32.le_iff_toInt_le.mpr (by omega)), ej]
    rfl
  | n + 1, N + 1, g0, g1, v, d, h, j, hN, j0, jn => by
    have zz := Int32.toInt_lt (u l.toNatClampNeg)
    have e : (j + 1).toInt = j.toInt + 1 := zadd1 (by omega)
    obtain ⟨v1, k0, k1, q⟩ := rwt (sk := g0) (wd := g1) (top := v) (fe := fe) (sa := sa) (d := d) (h := h) hL hn
    obtain ⟨v', g0', g1', r⟩ := rgw (u := u) (l := l) (fe := fe) (sa := sa) hL hn n N k0 k1 v1 (wtS S L fe sa node d h) (h + 1) (j + 1) (by omega) (by omega) (by omega)
    refine ⟨v', g0', g1', fun E => Eq.trans ?_ (r E)⟩
    show fb_mX11_guess_204 sg cl cs S (S 6) law u fe sa 0 node l E (fl_mX11_guess_204 sg cl cs S (S 6) law u fe sa 0 node l E N) g0 g1 v d h j = _
    unfold fb_mX11_guess_204
    rw [bnd_eq, if_neg (show ¬ u l.toNatClampNeg ≤ j by rw [Int32.le_iff_toInt_le]; omega), bndv q, bnd_eq, bnd_eq, bnd_eq, bnd_eq, bnd_eq, bnd_eq]
set_option maxHeartbeats 400000 in
theorem rgp {S sg cl cs u : Nat → Int32} {law fe sa : Int32} {L : Cls} (g : GD S) (x : XT S) (h8 : ¬ S 8 < 0) (hL : LWR sg cl cs law L) (hu : ∀ t : Nat, (t : Int) < (S 9).toInt → 0 ≤ (u t).toInt) : ∀ (n N : Nat) (g0 g1 : Nat → Int64) (v d h l : Int32), n < N → 0 ≤ d.toInt → d.toInt ≤ 99999 → 0 ≤ l.toInt → l.toInt + n = (S 9).toInt → ∃ v' g0' g1' n' h', ∀ E : (Nat → Int64) → (Nat → Int64) → Int32 → Int32 → Int32 → Int32 → Int32 → (Int32 × Int32 × Int32 × Int32 × Int32 × Int32 × Int32 × (Nat → Int64) × (Nat → Int64) × (Nat → Int32) × Int32), fl_mX11_guess_189 sg cl cs S (S 6) (S 9) law u fe sa 0 E N g0 g1 v (wen S l.toNatClampNeg) d h l = E g0' g1' v' n' (goF S L fe sa u n l.toNatClampNeg d h) h' (S 9)
  | _, 0, _, _, _, _, _, _, h, _, _, _, _ => absurd h (Nat.not_lt_zero _)
  | 0, N + 1, g0, g1, v, d, h, l, _, d0, d9, l0, ln => by
    have el : l = S 9 := i32e (by omega)
    refine ⟨v, g0, g1, wen S l.toNatClampNeg, h, fun E => ?_⟩
    show fb_mX11_guess_189 sg cl cs S (S 6) (S 9) law u fe sa 0 E (fl_mX11_guess_189 sg cl cs S (S 6) (S 9) law u fe sa 0 E N) g0 g1 v (wen S l.toNatClampNeg) d h l = _
    unfold fb_mX11_guess_189
    rw [if_pos (show S 9 ≤ l from Int32.le_iff_toInt_le.mpr (by omega)), el]
    rfl
  | n + 1, N + 1, g0, g1, v, d, h, l, hN, d0, d9, l0, ln => by
    have b9 := GD_9 g
    have tl := tn_eq l0
    have e : (l + 1).toInt = l.toInt + 1 := zadd1 (by omega)
    have tl1 := tn_eq (show 0 ≤ (l + 1).toInt by omega)
    have el : (l + 1).toNatClampNeg = l.toNatClampNeg + 1 := by omega
    have u0 := hu l.toNatClampNeg (by omega)
    have tu := tn_eq u0
    obtain ⟨r1, r2, r3, r4⟩ := way_in (k := l.toNatClampNeg) g x h8 (by omega)
    obtain ⟨v1, k0, k1, q⟩ := rgw (u := u) (l := l) (fe := fe) (sa := sa) hL r2 (u l.toNatClampNeg).toNatClampNeg ((((u l.toNatClampNeg) : Int32).toInt - (0 : Int32).toInt).toNat + 1) g0 g1 v d h 0 (by rw [z_i0]; omega) (by decide) (by rw [z_i0]; omega)
    have a := wtD_in (S := S) (L := L) (fe := fe) (sa := sa) (node := wen S l.toNatClampNeg) (u l.toNatClampNeg).toNatClampNeg d h d0 d9
    obtain ⟨v2, m0, m1, q2⟩ := ref_travels (sk := k0) (wd := k1) (top := v1) (node := wen S l.toNatClampNeg) (mo := 0) (fe := fe) (sa := sa) (h := hrH (u l.toNatClampNeg).toNatClampNeg h) hL r1 r3 r4 a.1 (show (wtD S L fe sa (wen S l.toNatClampNeg) (u l.toNatClampNeg).toNatClampNeg d h).toInt ≤ 99999 by omega)
    have b := crD_in (nd := 1) (S := S) (L := L) (pass := S (10 + l.toNatClampNeg)) (to := oth S (S (10 + l.toNatClampNeg)) (wen S l.toNatClampNeg)) (fe := fe) (sa := sa) (mo := 0) (h := hrH (u l.toNatClampNeg).toNatClampNeg h) a.1 (show (wtD S L fe sa (wen S l.toNatClampNeg) (u l.toNatClampNeg).toNatClampNeg d h).toInt ≤ 99999 by omega)
    obtain ⟨v', g0', g1', n', h', r⟩ := rgp (fe := fe) (sa := sa) g x h8 hL hu n N m0 m1 v2 _ (crH S (S (10 + l.toNatClampNeg)) (hrH (u l.toNatClampNeg).toNatClampNeg h)) (l + 1) (by omega) b.1 (by omega) (by omega) (by omega)
    rw [el] at r
    refine ⟨v', g0', g1', n', h', fun E => Eq.trans ?_ (r E)⟩
    show fb_mX11_guess_189 sg cl cs S (S 6) (S 9) law u fe sa 0 E (fl_mX11_guess_189 sg cl cs S (S 6) (S 9) law u fe sa 0 E N) g0 g1 v (wen S l.toNatClampNeg) d h l = _
    unfold fb_mX11_guess_189
    rw [if_neg (show ¬ S 9 ≤ l by rw [Int32.le_iff_toInt_le]; omega), q, bndv (congrArg S (ten l0 (by omega))), bndv q2, bnd_eq, bnd_eq, bnd_eq, bnd_eq, bnd_eq, bnd_eq, bnd_eq]
    rfl
set_option maxHeartbeats 400000 in
theorem rgv {S sg cl cs : Nat → Int32} {law hour drops fe sa left : Int32} {L : Cls} (g : GD S) (x : XT S) (h8 : ¬ S 8 < 0) (hL : LWR sg cl cs law L) (d0 : 0 ≤ drops.toInt) (d9 : drops.toInt ≤ 99999) (u : Nat → Int32) (hu : ∀ t : Nat, (t : Int) < (S 9).toInt → 0 ≤ (u t).toInt) (g0 g1 : Nat → Int64) (v3 v4 v5 v6 v7 v8 v9 mo le n : Int32) : ∃ g0' g1' v3' v4' v5' v6', ∀ (N : Nat) (E : (Nat → Int64) → (Nat → Int64) → (Nat → Int32) → Int32 → Int32 → Int32 → Int32 → Int32 → Int32 → Int32 → Int32 → Int32 → Int32 → Int32 → (Int32 × Int32 × Int32 × Int32 × Int32 × Int32 × Int32 × (Nat → Int64) × (Nat → Int64) × (Nat → Int32) × Int32)), fl_mX11_guess_164 sg cl cs S (S 6) (S 8) (S 9) law hour drops fe sa left E (N + 1) g0 g1 u v3 v4 v5 v6 v7 v8 v9 1 mo le n = fl_mX11_guess_164 sg cl cs S (S 6) (S 8) (S 9) law hour drops fe sa left E N g0' g1' (fX11_waitsOtherwise u (S 9)).1 v3' v4' v5' v6' fe sa 0 (fX11_waitsOtherwise u (S 9)).2 (if goF S L fe sa u (S 9).toNatClampNeg 0 drops hour = left then acU (n, le, mo) 0 else (n, le, mo)).2.2 (if goF S L fe sa u (S 9).toNatClampNeg 0 drops hour = left then acU (n, le, mo) 0 else (n, le, mo)).2.1 (if goF S L fe sa u (S 9).toNatClampNeg 0 drops hour = left then acU (n, le, mo) 0 else (n, le, mo)).1 := by
  have b9 := GD_9 g
  have t9 := tn_eq b9.1
  obtain ⟨v', k0, k1, n', h', q⟩ := rgp (u := u) (fe := fe) (sa := sa) g x h8 hL hu (S 9).toNatClampNeg ((((S 9) : Int32).toInt - (0 : Int32).toInt).toNat + 1) g0 g1 v3 drops hour 0 (by rw [z_i0]; omega) d0 d9 (by decide) (by rw [z_i0]; omega)
  have e0 : wen S (0 : Int32).toNatClampNeg = S 8 := rfl
  have e1 : (0 : Int32).toNatClampNeg = 0 := rfl
  rw [e0, e1] at q
  refine ⟨k0, k1, v', n', goF S L fe sa u (S 9).toNatClampNeg 0 drops hour, h', fun N E => ?_⟩
  show fb_mX11_guess_164 sg cl cs S (S 6) (S 8) (S 9) law hour drops fe sa left E (fl_mX11_guess_164 sg cl cs S (S 6) (S 8) (S 9) law hour drops fe sa left E N) g0 g1 u v3 v4 v5 v6 v7 v8 v9 1 mo le n = _
  unfold fb_mX11_guess_164
  rw [if_neg (show ¬ (1 : Int32) = 0 by decide), bndv (show fX11_sets (S 8) drops hour fe sa = (S 8, drops, hour, fe, sa, 0) from rfl), bnd_eq, bnd_eq, bnd_eq, bnd_eq, bnd_eq, bnd_eq, q]
  by_cases c : goF S L fe sa u (S 9).toNatClampNeg 0 drops hour = left
  · simp only [if_pos c]
    unfold acU
    simp only [bnd]
    by_cases c1 : n = 0
    · simp only [if_pos c1]
    · simp only [if_neg c1]
      by_cases c2 : le ≤ 0
      · simp only [if_pos c2]
        by_cases c3 : 0 ≤ mo
        · simp only [if_pos c3]
        · simp only [if_neg c3]
      · simp only [if_neg c2]
        by_cases c3 : 0 ≤ mo
        · simp only [if_pos c3]
        · simp only [if_neg c3]
  · simp only [if_neg c]
    simp only [bnd]
set_option maxHeartbeats 400000 in
theorem rgb {S sg cl cs : Nat → Int32} {law hour drops fe sa left : Int32} {L : Cls} {E : (Nat → Int64) → (Nat → Int64) → (Nat → Int32) → Int32 → Int32 → Int32 → Int32 → Int32 → Int32 → Int32 → Int32 → Int32 → Int32 → Int32 → (Int32 × Int32 × Int32 × Int32 × Int32 × Int32 × Int32 × (Nat → Int64) × (Nat → Int64) × (Nat → Int32) × Int32)} (g : GD S) (x : XT S) (h8 : ¬ S 8 < 0) (hL : LWR sg cl cs law L) (d0 : 0 ≤ drops.toInt) (d9 : drops.toInt ≤ 99999) : ∀ (r i : Nat), ((i + (r + 1) : Nat) : Int) = (S 9).toInt → ∀ (N : Nat) (g0 g1 : Nat → Int64) (u : Nat → Int32) (v3 v4 v5 v6 v7 v8 v9 mo le n : Int32) (v : Nat → Int32) (d h hrs : Int32), 2 * (13 ^ 6 - wv u (S 9).toNatClampNeg) + 1 < N → 0 ≤ hrs.toInt → hrs.toInt ≤ 12 → (∀ t : Nat, t < i → 0 ≤ (v t).toInt ∧ (v t).toInt ≤ 12) → (∀ t : Nat, t < i → u t = v t) → (∀ t : Nat, i ≤ t → ((t + 1 : Nat) : Int) < (S 9).toInt → u t = 0) → (∀ t : Nat, ((t + 1 : Nat) : Int) = (S 9).toInt → u t = hrs) → (∀ w : Nat → Int32, (∀ t : Nat, t < i → w t = v t) → goF S L fe sa w (S 9).toNatClampNeg 0 drops hour = goF S L fe sa w (r + 1) i d h) → ∃ (N' : Nat) (g0' g1' : Nat → Int64) (u' : Nat → Int32) (v3' v4' v5' v6' : Int32), fl_mX11_guess_164 sg cl cs S (S 6) (S 8) (S 9) law hour drops fe sa left E N g0 g1 u v3 v4 v5 v6 v7 v8 v9 1 mo le n = fl_mX11_guess_164 sg cl cs S (S 6) (S 8) (S 9) law hour drops fe sa left E N' g0' g1' (fX11_waitsOtherwise u' (S 9)).1 v3' v4' v5' v6' fe sa 0 (fX11_waitsOtherwise u' (S 9)).2 (tqS S L fe sa left (fun _ => 0) (r + 1) i v d h hrs (n, le, mo)).2.2 (tqS S L fe sa left (fun _ => 0) (r + 1) i v d h hrs (n, le, mo)).2.1 (tqS S L fe sa left (fun _ => 0) (r + 1) i v d h hrs (n, le, mo)).1 ∧ (∀ t : Nat, t < i → u' t = v t) ∧ u' i = hrs ∧ (∀ t : Nat, i < t → (t : Int) < (S 9).toInt → u' t = 0) ∧ 2 * (13 ^ 6 - wv u' (S 9).toNatClampNeg) + 1 < N' + 1 := by
  have b9 := GD_9 g
  have t9 := tn_eq b9.1
  intro r
  induction r with
  | zero =>
    intro i hi N g0 g1 u v3 v4 v5 v6 v7 v8 v9 mo le n v d h hrs hN hr0 hr9 hv hu1 hu2 hu3 pf
    obtain ⟨N, rfl⟩ : ∃ m, N = m + 1 := ⟨N - 1, by omega⟩
    have ui : u i = hrs := hu3 i (by omega)
    have hu : ∀ t : Nat, (t : Int) < (S 9).toInt → 0 ≤ (u t).toInt := by
      intro t ht
      by_cases c : t < i
      · rw [hu1 t c]; exact (hv t c).1
      · rw [show t = i by omega, ui]; exact hr0
    obtain ⟨g0', g1', v3', v4', v5', v6', q⟩ := rgv (hour := hour) (left := left) (fe := fe) (sa := sa) g x h8 hL d0 d9 u hu g0 g1 v3 v4 v5 v6 v7 v8 v9 mo le n
    have e1 := pf u hu1
    rw [goF_s (n := 0) (k := i), ui] at e1
    have ea : tqS S L fe sa left (fun _ => 0) (0 + 1) i v d h hrs (n, le, mo) = if goF S L fe sa u (S 9).toNatClampNeg 0 drops hour = left then acU (n, le, mo) 0 else (n, le, mo) := by
      refine Eq.trans (show tqS S L fe sa left (fun _ => 0) (0 + 1) i v d h hrs (n, le, mo) = if goF S L fe sa u 0 (i + 1) (crD 1 S L (S (10 + i)) (oth S (S (10 + i)) (wen S i)) fe sa 0 (wtD S L fe sa (wen S i) hrs.toNatClampNeg d h) (hrH hrs.toNatClampNeg h)) (crH S (S (10 + i)) (hrH hrs.toNatClampNeg h)) = left then acU (n, le, mo) 0 else (n, le, mo) from rfl) ?_
      rw [e1]
    refine ⟨N, g0', g1', u, v3', v4', v5', v6', ?_, hu1, ui, fun t a b => absurd b (by omega), hN⟩
    rw [ea]
    exact q N E
  | succ r ih =>
    intro i hi N g0 g1 u v3 v4 v5 v6 v7 v8 v9 mo le n v d h hrs hN hr0 hr9 hv hu1 hu2 hu3 pf
    have th := tn_eq hr0
    have LB : ∀ (c : Nat) (q : Int32) (N : Nat) (g0 g1 : Nat → Int64) (u : Nat → Int32) (v3 v4 v5 v6 v7 v8 v9 mo le n : Int32), q.toInt + c = hrs.toInt → 0 ≤ q.toInt → 2 * (13 ^ 6 - wv u (S 9).toNatClampNeg) + 1 < N → (∀ t : Nat, t < i → u t = v t) → u i = q → (∀ t : Nat, i + 1 ≤ t → ((t + 1 : Nat) : Int) < (S 9).toInt → u t = 0) → (∀ t : Nat, ((t + 1 : Nat) : Int) = (S 9).toInt → u t = hrs - q) → ∃ (N' : Nat) (g0' g1' : Nat → Int64) (u' : Nat → Int32) (v3' v4' v5' v6' : Int32), fl_mX11_guess_164 sg cl cs S (S 6) (S 8) (S 9) law hour drops fe sa left E N g0 g1 u v3 v4 v5 v6 v7 v8 v9 1 mo le n = fl_mX11_guess_164 sg cl cs S (S 6) (S 8) (S 9) law hour drops fe sa left E N' g0' g1' (fX11_waitsOtherwise u' (S 9)).1 v3' v4' v5' v6' fe sa 0 (fX11_waitsOtherwise u' (S 9)).2 (lpS (fun n d h A => tqS S L fe sa left (fun _ => 0) (r + 1) (i + 1) (upd v i n) (crD 1 S L (S (10 + i)) (oth S (S (10 + i)) (wen S i)) fe sa 0 d h) (crH S (S (10 + i)) h) (hrs - n) A) (wtS S L fe sa (wen S i)) (c + 1) q (wtD S L fe sa (wen S i) q.toNatClampNeg d h) (hrH q.toNatClampNeg h) (n, le, mo)).2.2 (lpS (fun n d h A => tqS S L fe sa left (fun _ => 0) (r + 1) (i + 1) (upd v i n) (crD 1 S L (S (10 + i)) (oth S (S (10 + i)) (wen S i)) fe sa 0 d h) (crH S (S (10 + i)) h) (hrs - n) A) (wtS S L fe sa (wen S i)) (c + 1) q (wtD S L fe sa (wen S i) q.toNatClampNeg d h) (hrH q.toNatClampNeg h) (n, le, mo)).2.1 (lpS (fun n d h A => tqS S L fe sa left (fun _ => 0) (r + 1) (i + 1) (upd v i n) (crD 1 S L (S (10 + i)) (oth S (S (10 + i)) (wen S i)) fe sa 0 d h) (crH S (S (10 + i)) h) (hrs - n) A) (wtS S L fe sa (wen S i)) (c + 1) q (wtD S L fe sa (wen S i) q.toNatClampNeg d h) (hrH q.toNatClampNeg h) (n, le, mo)).1 ∧ (∀ t : Nat, t < i → u' t = v t) ∧ u' i = hrs ∧ (∀ t : Nat, i < t → (t : Int) < (S 9).toInt → u' t = 0) ∧ 2 * (13 ^ 6 - wv u' (S 9).toNatClampNeg) + 1 < N' + 1 := by
      intro c
      induction c with
      | zero =>
        intro q N g0 g1 u v3 v4 v5 v6 v7 v8 v9 mo le n qc q0 hN a1 a2 a3 a4
        have eq : q = hrs := i32e (by omega)
        have es : (hrs - q).toInt = hrs.toInt - q.toInt := zsub (by omega) (by omega)
        obtain ⟨N', g0', g1', u', v3', v4', v5', v6', b1, b2, b3, b4, b5⟩ := ih (i + 1) (by omega) N g0 g1 u v3 v4 v5 v6 v7 v8 v9 mo le n (upd v i q) (crD 1 S L (S (10 + i)) (oth S (S (10 + i)) (wen S i)) fe sa 0 (wtD S L fe sa (wen S i) q.toNatClampNeg d h) (hrH q.toNatClampNeg h)) (crH S (S (10 + i)) (hrH q.toNatClampNeg h)) (hrs - q) hN (by omega) (by omega) (fun t ht => by
          by_cases y : t = i
          · rw [y, show upd v i q i = q from pk_us]; omega
          · rw [upd_ne (fun w => y w.symm)]; exact hv t (by omega)) (fun t ht => by
          by_cases y : t = i
          · rw [y, a2]; exact pk_us.symm
          · rw [a1 t (by omega)]; exact (upd_ne (fun w => y w.symm)).symm) a3 a4 (fun w hw => by
          have wi : w i = q := (hw i (by omega)).trans pk_us
          rw [pf w (fun t ht => (hw t (by omega)).trans (upd_ne (by omega))), goF_s (n := r + 1) (k := i), wi])
        refine ⟨N', g0', g1', u', v3', v4', v5', v6', b1, fun t ht => ?_, ?_, fun t a b => ?_, b5⟩
        · rw [b2 t (by omega)]
          exact upd_ne (by omega)
        · rw [b2 i (by omega), ← eq]
          exact pk_us
        · by_cases y : t = i + 1
          · rw [y, b3]
            exact i32e (by rw [z_i0]; omega)
          · exact b4 t (by omega) b
      | succ c ihc =>
        intro q N g0 g1 u v3 v4 v5 v6 v7 v8 v9 mo le n qc q0 hN a1 a2 a3 a4
        have tq := tn_eq q0
        have es : (hrs - q).toInt = hrs.toInt - q.toInt := zsub (by omega) (by omega)
        have eq1 : (q + 1).toInt = q.toInt + 1 := zadd1 (by omega)
        have tq1 := tn_eq (show 0 ≤ (q + 1).toInt by omega)
        have eqn : (q + 1).toNatClampNeg = q.toNatClampNeg + 1 := by omega
        obtain ⟨N', g0', g1', u', v3', v4', v5', v6', b1, b2, b3, b4, b5⟩ := ih (i + 1) (by omega) N g0 g1 u v3 v4 v5 v6 v7 v8 v9 mo le n (upd v i q) (crD 1 S L (S (10 + i)) (oth S (S (10 + i)) (wen S i)) fe sa 0 (wtD S L fe sa (wen S i) q.toNatClampNeg d h) (hrH q.toNatClampNeg h)) (crH S (S (10 + i)) (hrH q.toNatClampNeg h)) (hrs - q) hN (by omega) (by omega) (fun t ht => by
          by_cases y : t = i
          · rw [y, show upd v i q i = q from pk_us]; omega
          · rw [upd_ne (fun w => y w.symm)]; exact hv t (by omega)) (fun t ht => by
          by_cases y : t = i
          · rw [y, a2]; exact pk_us.symm
          · rw [a1 t (by omega)]; exact (upd_ne (fun w => y w.symm)).symm) a3 a4 (fun w hw => by
          have wi : w i = q := (hw i (by omega)).trans pk_us
          rw [pf w (fun t ht => (hw t (by omega)).trans (upd_ne (by omega))), goF_s (n := r + 1) (k := i), wi])
        have ub : ∀ t : Nat, t < i → u' t = v t := fun t ht => (b2 t (by omega)).trans (upd_ne (by omega))
        have ui : u' i = q := (b2 i (by omega)).trans pk_us
        obtain ⟨w, m1, m2, m3, m4, m5⟩ := nx_more (v := u') (zw := S 9) (r := hrs - q) (j := i) b9.2 (by omega) b3 (by omega) (fun t a b => b4 t a b)
        have u12 : ∀ t : Nat, t < (S 9).toNatClampNeg → wcl (u' t) ≤ 12 := by
          intro t ht
          show (u' t).toNatClampNeg ≤ 12
          by_cases y : t < i
          · rw [ub t y]; have := tn_eq (hv t y).1; have := (hv t y).2; omega
          · by_cases y2 : t = i
            · rw [y2, ui]; omega
            · by_cases y3 : t = i + 1
              · rw [y3, b3]; have := tn_eq (show 0 ≤ (hrs - q).toInt by omega); omega
              · rw [b4 t (by omega) (by omega)]; decide
        have wl := wv_nx (f := u') (g := w) (m := (S 9).toNatClampNeg) (i := i) (by omega) m2 (by rw [m3, ui, eq1]) (by rw [ui]; exact q0) u12
        have w13 := wv_13 (f := u') (m := (S 9).toNatClampNeg) (by omega) u12
        obtain ⟨N2, h0', h1', u2, w3', w4', w5', w6', c1, c2, c3, c4, c5⟩ := ihc (q + 1) N' g0' g1' w v3' v4' v5' v6' fe sa 0 (tqS S L fe sa left (fun _ => 0) (r + 1) (i + 1) (upd v i q) (crD 1 S L (S (10 + i)) (oth S (S (10 + i)) (wen S i)) fe sa 0 (wtD S L fe sa (wen S i) q.toNatClampNeg d h) (hrH q.toNatClampNeg h)) (crH S (S (10 + i)) (hrH q.toNatClampNeg h)) (hrs - q) (n, le, mo)).2.2 (tqS S L fe sa left (fun _ => 0) (r + 1) (i + 1) (upd v i q) (crD 1 S L (S (10 + i)) (oth S (S (10 + i)) (wen S i)) fe sa 0 (wtD S L fe sa (wen S i) q.toNatClampNeg d h) (hrH q.toNatClampNeg h)) (crH S (S (10 + i)) (hrH q.toNatClampNeg h)) (hrs - q) (n, le, mo)).2.1 (tqS S L fe sa left (fun _ => 0) (r + 1) (i + 1) (upd v i q) (crD 1 S L (S (10 + i)) (oth S (S (10 + i)) (wen S i)) fe sa 0 (wtD S L fe sa (wen S i) q.toNatClampNeg d h) (hrH q.toNatClampNeg h)) (crH S (S (10 + i)) (hrH q.toNatClampNeg h)) (hrs - q) (n, le, mo)).1 (by omega) (by omega) (by omega) (fun t ht => (m2 t ht).trans (ub t ht)) (by rw [m3, ui]) m4 (fun t ht => (m5 t ht).trans (i32e (by
          have h1 : (1 : Int32).toInt = 1 := by decide
          rw [zsub (by rw [h1]; omega) (by rw [h1]; omega), zsub (a := hrs) (b := q + 1) (by omega) (by omega), h1]
          omega)))
        rw [m1] at b1
        rw [eqn, wtD_s, hrH_s] at c1
        exact ⟨N2, h0', h1', u2, w3', w4', w5', w6', b1.trans c1, c2, c3, c4, c5⟩
    have eh : hrs - 0 = hrs := i32e (by rw [zsub (by rw [z_i0]; omega) (by rw [z_i0]; omega), z_i0]; omega)
    have z := LB hrs.toNatClampNeg 0 N g0 g1 u v3 v4 v5 v6 v7 v8 v9 mo le n (by rw [z_i0]; omega) (by decide) hN hu1 (hu2 i (Nat.le_refl _) (by omega)) (fun t a b => hu2 t (by omega) b) (fun t ht => (hu3 t ht).trans eh.symm)
    rw [tqS_2]
    exact z
set_option maxHeartbeats 400000 in
theorem rgw_1 {S sg cl cs u : Nat → Int32} {law fe sa node l : Int32} {L : Cls} (hL : LWR sg cl cs law L) (hn : rN node) : ∀ (n N : Nat) (g0 g1 : Nat → Int64) (v d h j : Int32), n < N → 0 ≤ j.toInt → j.toInt + n = (u l.toNatClampNeg).toInt → ∃ v' g0' g1', ∀ E : (Nat → Int64) → (Nat → Int64) → Int32 → Int32 → Int32 → Int32 → (Int32 × Int32 × Int32 × Int32 × Int32 × Int32 × Int32 × (Nat → Int64) × (Nat → Int64) × (Nat → Int32) × Int32), fl_mX11_guess_204_1 sg cl cs S (S 6) law u fe sa 0 node l E N g0 g1 v d h j = E g0' g1' v' (wtD S L fe sa node n d h) (hrH n h) (u l.toNatClampNeg)
  | _, 0, _, _, _, _, _, _, h, _, _ => absurd h (Nat.not_lt_zero _)
  | 0, N + 1, g0, g1, v, d, h, j, _, j0, jn => by
    have ej : j = u l.toNatClampNeg := i32e (by omega)
    refine ⟨v, g0, g1, fun E => ?_⟩
    show fb_mX11_guess_204_1 sg cl cs S (S 6) law u fe sa 0 node l E (fl_mX11_guess_204_1 sg cl cs S (S 6) law u fe sa 0 node l E N) g0 g1 v d h j = _
    unfold fb_mX11_guess_204_1
    rw [bnd_eq, if_pos (show u l.toNatClampNeg ≤ j from Int32.le_iff_toInt_le.mpr (by omega)), ej]
    rfl
  | n + 1, N + 1, g0, g1, v, d, h, j, hN, j0, jn => by
    have zz := Int32.toInt_lt (u l.toNatClampNeg)
    have e : (j + 1).toInt = j.toInt + 1 := zadd1 (by omega)
    obtain ⟨v1, k0, k1, q⟩ := rwt (sk := g0) (wd := g1) (top := v) (fe := fe) (sa := sa) (d := d) (h := h) hL hn
    obtain ⟨v', g0', g1', r⟩ := rgw_1 (u := u) (l := l) (fe := fe) (sa := sa) hL hn n N k0 k1 v1 (wtS S L fe sa node d h) (h + 1) (j + 1) (by omega) (by omega) (by omega)
    refine ⟨v', g0', g1', fun E => Eq.trans ?_ (r E)⟩
    show fb_mX11_guess_204_1 sg cl cs S (S 6) law u fe sa 0 node l E (fl_mX11_guess_204_1 sg cl cs S (S 6) law u fe sa 0 node l E N) g0 g1 v d h j = _
    unfold fb_mX11_guess_204_1
    rw [bnd_eq, if_neg (show ¬ u l.toNatClampNeg ≤ j by rw [Int32.le_iff_toInt_le]; omega), bndv q, bnd_eq, bnd_eq, bnd_eq, bnd_eq, bnd_eq, bnd_eq]
set_option maxHeartbeats 400000 in
theorem rgp_1 {S sg cl cs u : Nat → Int32} {law fe sa : Int32} {L : Cls} (g : GD S) (x : XT S) (h8 : ¬ S 8 < 0) (hL : LWR sg cl cs law L) (hu : ∀ t : Nat, (t : Int) < (S 9).toInt → 0 ≤ (u t).toInt) : ∀ (n N : Nat) (g0 g1 : Nat → Int64) (v d h l : Int32), n < N → 0 ≤ d.toInt → d.toInt ≤ 99999 → 0 ≤ l.toInt → l.toInt + n = (S 9).toInt → ∃ v' g0' g1' n' h', ∀ E : (Nat → Int64) → (Nat → Int64) → Int32 → Int32 → Int32 → Int32 → Int32 → (Int32 × Int32 × Int32 × Int32 × Int32 × Int32 × Int32 × (Nat → Int64) × (Nat → Int64) × (Nat → Int32) × Int32), fl_mX11_guess_189_1 sg cl cs S (S 6) (S 9) law u fe sa 0 E N g0 g1 v (wen S l.toNatClampNeg) d h l = E g0' g1' v' n' (goF S L fe sa u n l.toNatClampNeg d h) h' (S 9)
  | _, 0, _, _, _, _, _, _, h, _, _, _, _ => absurd h (Nat.not_lt_zero _)
  | 0, N + 1, g0, g1, v, d, h, l, _, d0, d9, l0, ln => by
    have el : l = S 9 := i32e (by omega)
    refine ⟨v, g0, g1, wen S l.toNatClampNeg, h, fun E => ?_⟩
    show fb_mX11_guess_189_1 sg cl cs S (S 6) (S 9) law u fe sa 0 E (fl_mX11_guess_189_1 sg cl cs S (S 6) (S 9) law u fe sa 0 E N) g0 g1 v (wen S l.toNatClampNeg) d h l = _
    unfold fb_mX11_guess_189_1
    rw [if_pos (show S 9 ≤ l from Int32.le_iff_toInt_le.mpr (by omega)), el]
    rfl
  | n + 1, N + 1, g0, g1, v, d, h, l, hN, d0, d9, l0, ln => by
    have b9 := GD_9 g
    have tl := tn_eq l0
    have e : (l + 1).toInt = l.toInt + 1 := zadd1 (by omega)
    have tl1 := tn_eq (show 0 ≤ (l + 1).toInt by omega)
    have el : (l + 1).toNatClampNeg = l.toNatClampNeg + 1 := by omega
    have u0 := hu l.toNatClampNeg (by omega)
    have tu := tn_eq u0
    obtain ⟨r1, r2, r3, r4⟩ := way_in (k := l.toNatClampNeg) g x h8 (by omega)
    obtain ⟨v1, k0, k1, q⟩ := rgw_1 (u := u) (l := l) (fe := fe) (sa := sa) hL r2 (u l.toNatClampNeg).toNatClampNeg ((((u l.toNatClampNeg) : Int32).toInt - (0 : Int32).toInt).toNat + 1) g0 g1 v d h 0 (by rw [z_i0]; omega) (by decide) (by rw [z_i0]; omega)
    have a := wtD_in (S := S) (L := L) (fe := fe) (sa := sa) (node := wen S l.toNatClampNeg) (u l.toNatClampNeg).toNatClampNeg d h d0 d9
    obtain ⟨v2, m0, m1, q2⟩ := ref_travels (sk := k0) (wd := k1) (top := v1) (node := wen S l.toNatClampNeg) (mo := 0) (fe := fe) (sa := sa) (h := hrH (u l.toNatClampNeg).toNatClampNeg h) hL r1 r3 r4 a.1 (show (wtD S L fe sa (wen S l.toNatClampNeg) (u l.toNatClampNeg).toNatClampNeg d h).toInt ≤ 99999 by omega)
    have b := crD_in (nd := 1) (S := S) (L := L) (pass := S (10 + l.toNatClampNeg)) (to := oth S (S (10 + l.toNatClampNeg)) (wen S l.toNatClampNeg)) (fe := fe) (sa := sa) (mo := 0) (h := hrH (u l.toNatClampNeg).toNatClampNeg h) a.1 (show (wtD S L fe sa (wen S l.toNatClampNeg) (u l.toNatClampNeg).toNatClampNeg d h).toInt ≤ 99999 by omega)
    obtain ⟨v', g0', g1', n', h', r⟩ := rgp_1 (fe := fe) (sa := sa) g x h8 hL hu n N m0 m1 v2 _ (crH S (S (10 + l.toNatClampNeg)) (hrH (u l.toNatClampNeg).toNatClampNeg h)) (l + 1) (by omega) b.1 (by omega) (by omega) (by omega)
    rw [el] at r
    refine ⟨v', g0', g1', n', h', fun E => Eq.trans ?_ (r E)⟩
    show fb_mX11_guess_189_1 sg cl cs S (S 6) (S 9) law u fe sa 0 E (fl_mX11_guess_189_1 sg cl cs S (S 6) (S 9) law u fe sa 0 E N) g0 g1 v (wen S l.toNatClampNeg) d h l = _
    unfold fb_mX11_guess_189_1
    rw [if_neg (show ¬ S 9 ≤ l by rw [Int32.le_iff_toInt_le]; omega), q, bndv (congrArg S (ten l0 (by omega))), bndv q2, bnd_eq, bnd_eq, bnd_eq, bnd_eq, bnd_eq, bnd_eq, bnd_eq]
    rfl
set_option maxHeartbeats 400000 in
theorem rgv_1 {S sg cl cs : Nat → Int32} {law hour drops fe sa left k : Int32} {L : Cls} (g : GD S) (x : XT S) (h8 : ¬ S 8 < 0) (hL : LWR sg cl cs law L) (d0 : 0 ≤ drops.toInt) (d9 : drops.toInt ≤ 99999) (u : Nat → Int32) (hu : ∀ t : Nat, (t : Int) < (S 9).toInt → 0 ≤ (u t).toInt) (g0 g1 : Nat → Int64) (v3 v4 v5 v6 v7 v8 v9 mo le n : Int32) : ∃ g0' g1' v3' v4' v5' v6', ∀ (N : Nat) (E : (Nat → Int64) → (Nat → Int64) → (Nat → Int32) → Int32 → Int32 → Int32 → Int32 → Int32 → Int32 → Int32 → Int32 → Int32 → Int32 → Int32 → (Int32 × Int32 × Int32 × Int32 × Int32 × Int32 × Int32 × (Nat → Int64) × (Nat → Int64) × (Nat → Int32) × Int32)), fl_mX11_guess_164_1 sg cl cs S (S 6) (S 8) (S 9) law hour drops fe sa left k E (N + 1) g0 g1 u v3 v4 v5 v6 v7 v8 v9 1 mo le n = fl_mX11_guess_164_1 sg cl cs S (S 6) (S 8) (S 9) law hour drops fe sa left k E N g0' g1' (fX11_waitsOtherwise u (S 9)).1 v3' v4' v5' v6' fe sa 0 (fX11_waitsOtherwise u (S 9)).2 (if goF S L fe sa u (S 9).toNatClampNeg 0 drops hour = left then acU (n, le, mo) (u k.toNatClampNeg) else (n, le, mo)).2.2 (if goF S L fe sa u (S 9).toNatClampNeg 0 drops hour = left then acU (n, le, mo) (u k.toNatClampNeg) else (n, le, mo)).2.1 (if goF S L fe sa u (S 9).toNatClampNeg 0 drops hour = left then acU (n, le, mo) (u k.toNatClampNeg) else (n, le, mo)).1 := by
  have b9 := GD_9 g
  have t9 := tn_eq b9.1
  obtain ⟨v', k0, k1, n', h', q⟩ := rgp_1 (u := u) (fe := fe) (sa := sa) g x h8 hL hu (S 9).toNatClampNeg ((((S 9) : Int32).toInt - (0 : Int32).toInt).toNat + 1) g0 g1 v3 drops hour 0 (by rw [z_i0]; omega) d0 d9 (by decide) (by rw [z_i0]; omega)
  have e0 : wen S (0 : Int32).toNatClampNeg = S 8 := rfl
  have e1 : (0 : Int32).toNatClampNeg = 0 := rfl
  rw [e0, e1] at q
  refine ⟨k0, k1, v', n', goF S L fe sa u (S 9).toNatClampNeg 0 drops hour, h', fun N E => ?_⟩
  show fb_mX11_guess_164_1 sg cl cs S (S 6) (S 8) (S 9) law hour drops fe sa left k E (fl_mX11_guess_164_1 sg cl cs S (S 6) (S 8) (S 9) law hour drops fe sa left k E N) g0 g1 u v3 v4 v5 v6 v7 v8 v9 1 mo le n = _
  unfold fb_mX11_guess_164_1
  rw [if_neg (show ¬ (1 : Int32) = 0 by decide), bndv (show fX11_sets (S 8) drops hour fe sa = (S 8, drops, hour, fe, sa, 0) from rfl), bnd_eq, bnd_eq, bnd_eq, bnd_eq, bnd_eq, bnd_eq, q]
  by_cases c : goF S L fe sa u (S 9).toNatClampNeg 0 drops hour = left
  · simp only [if_pos c]
    unfold acU
    simp only [bnd]
    by_cases c1 : n = 0
    · simp only [if_pos c1]
    · simp only [if_neg c1]
      by_cases c2 : le ≤ (u k.toNatClampNeg)
      · simp only [if_pos c2]
        by_cases c3 : (u k.toNatClampNeg) ≤ mo
        · simp only [if_pos c3]
        · simp only [if_neg c3]
      · simp only [if_neg c2]
        by_cases c3 : (u k.toNatClampNeg) ≤ mo
        · simp only [if_pos c3]
        · simp only [if_neg c3]
  · simp only [if_neg c]
    simp only [bnd]
set_option maxHeartbeats 400000 in
theorem rgb_1 {S sg cl cs : Nat → Int32} {law hour drops fe sa left k : Int32} {L : Cls} {E : (Nat → Int64) → (Nat → Int64) → (Nat → Int32) → Int32 → Int32 → Int32 → Int32 → Int32 → Int32 → Int32 → Int32 → Int32 → Int32 → Int32 → (Int32 × Int32 × Int32 × Int32 × Int32 × Int32 × Int32 × (Nat → Int64) × (Nat → Int64) × (Nat → Int32) × Int32)} (g : GD S) (x : XT S) (h8 : ¬ S 8 < 0) (hL : LWR sg cl cs law L) (d0 : 0 ≤ drops.toInt) (d9 : drops.toInt ≤ 99999) (hk : 0 ≤ k.toInt) (hk2 : k.toInt < (S 9).toInt) : ∀ (r i : Nat), ((i + (r + 1) : Nat) : Int) = (S 9).toInt → ∀ (N : Nat) (g0 g1 : Nat → Int64) (u : Nat → Int32) (v3 v4 v5 v6 v7 v8 v9 mo le n : Int32) (v : Nat → Int32) (d h hrs : Int32), 2 * (13 ^ 6 - wv u (S 9).toNatClampNeg) + 1 < N → 0 ≤ hrs.toInt → hrs.toInt ≤ 12 → (∀ t : Nat, t < i → 0 ≤ (v t).toInt ∧ (v t).toInt ≤ 12) → (∀ t : Nat, t < i → u t = v t) → (∀ t : Nat, i ≤ t → ((t + 1 : Nat) : Int) < (S 9).toInt → u t = 0) → (∀ t : Nat, ((t + 1 : Nat) : Int) = (S 9).toInt → u t = hrs) → (∀ w : Nat → Int32, (∀ t : Nat, t < i → w t = v t) → goF S L fe sa w (S 9).toNatClampNeg 0 drops hour = goF S L fe sa w (r + 1) i d h) → ∃ (N' : Nat) (g0' g1' : Nat → Int64) (u' : Nat → Int32) (v3' v4' v5' v6' : Int32), fl_mX11_guess_164_1 sg cl cs S (S 6) (S 8) (S 9) law hour drops fe sa left k E N g0 g1 u v3 v4 v5 v6 v7 v8 v9 1 mo le n = fl_mX11_guess_164_1 sg cl cs S (S 6) (S 8) (S 9) law hour drops fe sa left k E N' g0' g1' (fX11_waitsOtherwise u' (S 9)).1 v3' v4' v5' v6' fe sa 0 (fX11_waitsOtherwise u' (S 9)).2 (tqS S L fe sa left (fun v => v k.toNatClampNeg) (r + 1) i v d h hrs (n, le, mo)).2.2 (tqS S L fe sa left (fun v => v k.toNatClampNeg) (r + 1) i v d h hrs (n, le, mo)).2.1 (tqS S L fe sa left (fun v => v k.toNatClampNeg) (r + 1) i v d h hrs (n, le, mo)).1 ∧ (∀ t : Nat, t < i → u' t = v t) ∧ u' i = hrs ∧ (∀ t : Nat, i < t → (t : Int) < (S 9).toInt → u' t = 0) ∧ 2 * (13 ^ 6 - wv u' (S 9).toNatClampNeg) + 1 < N' + 1 := by
  have b9 := GD_9 g
  have t9 := tn_eq b9.1
  intro r
  induction r with
  | zero =>
    intro i hi N g0 g1 u v3 v4 v5 v6 v7 v8 v9 mo le n v d h hrs hN hr0 hr9 hv hu1 hu2 hu3 pf
    obtain ⟨N, rfl⟩ : ∃ m, N = m + 1 := ⟨N - 1, by omega⟩
    have ui : u i = hrs := hu3 i (by omega)
    have hu : ∀ t : Nat, (t : Int) < (S 9).toInt → 0 ≤ (u t).toInt := by
      intro t ht
      by_cases c : t < i
      · rw [hu1 t c]; exact (hv t c).1
      · rw [show t = i by omega, ui]; exact hr0
    obtain ⟨g0', g1', v3', v4', v5', v6', q⟩ := rgv_1 (hour := hour) (left := left) (k := k) (fe := fe) (sa := sa) g x h8 hL d0 d9 u hu g0 g1 v3 v4 v5 v6 v7 v8 v9 mo le n
    have e1 := pf u hu1
    rw [goF_s (n := 0) (k := i), ui] at e1
    have ea : tqS S L fe sa left (fun v => v k.toNatClampNeg) (0 + 1) i v d h hrs (n, le, mo) = if goF S L fe sa u (S 9).toNatClampNeg 0 drops hour = left then acU (n, le, mo) (u k.toNatClampNeg) else (n, le, mo) := by
      refine Eq.trans (show tqS S L fe sa left (fun v => v k.toNatClampNeg) (0 + 1) i v d h hrs (n, le, mo) = if goF S L fe sa u 0 (i + 1) (crD 1 S L (S (10 + i)) (oth S (S (10 + i)) (wen S i)) fe sa 0 (wtD S L fe sa (wen S i) hrs.toNatClampNeg d h) (hrH hrs.toNatClampNeg h)) (crH S (S (10 + i)) (hrH hrs.toNatClampNeg h)) = left then acU (n, le, mo) (upd v i hrs k.toNatClampNeg) else (n, le, mo) from rfl) ?_
      rw [e1, show upd v i hrs k.toNatClampNeg = u k.toNatClampNeg by
        by_cases y : k.toNatClampNeg = i
        · rw [y, ui]
          exact pk_us
        · have tk := tn_eq hk
          rw [upd_ne (fun w => y w.symm), hu1 _ (by omega)]]
    refine ⟨N, g0', g1', u, v3', v4', v5', v6', ?_, hu1, ui, fun t a b => absurd b (by omega), hN⟩
    rw [ea]
    exact q N E
  | succ r ih =>
    intro i hi N g0 g1 u v3 v4 v5 v6 v7 v8 v9 mo le n v d h hrs hN hr0 hr9 hv hu1 hu2 hu3 pf
    have th := tn_eq hr0
    have LB : ∀ (c : Nat) (q : Int32) (N : Nat) (g0 g1 : Nat → Int64) (u : Nat → Int32) (v3 v4 v5 v6 v7 v8 v9 mo le n : Int32), q.toInt + c = hrs.toInt → 0 ≤ q.toInt → 2 * (13 ^ 6 - wv u (S 9).toNatClampNeg) + 1 < N → (∀ t : Nat, t < i → u t = v t) → u i = q → (∀ t : Nat, i + 1 ≤ t → ((t + 1 : Nat) : Int) < (S 9).toInt → u t = 0) → (∀ t : Nat, ((t + 1 : Nat) : Int) = (S 9).toInt → u t = hrs - q) → ∃ (N' : Nat) (g0' g1' : Nat → Int64) (u' : Nat → Int32) (v3' v4' v5' v6' : Int32), fl_mX11_guess_164_1 sg cl cs S (S 6) (S 8) (S 9) law hour drops fe sa left k E N g0 g1 u v3 v4 v5 v6 v7 v8 v9 1 mo le n = fl_mX11_guess_164_1 sg cl cs S (S 6) (S 8) (S 9) law hour drops fe sa left k E N' g0' g1' (fX11_waitsOtherwise u' (S 9)).1 v3' v4' v5' v6' fe sa 0 (fX11_waitsOtherwise u' (S 9)).2 (lpS (fun n d h A => tqS S L fe sa left (fun v => v k.toNatClampNeg) (r + 1) (i + 1) (upd v i n) (crD 1 S L (S (10 + i)) (oth S (S (10 + i)) (wen S i)) fe sa 0 d h) (crH S (S (10 + i)) h) (hrs - n) A) (wtS S L fe sa (wen S i)) (c + 1) q (wtD S L fe sa (wen S i) q.toNatClampNeg d h) (hrH q.toNatClampNeg h) (n, le, mo)).2.2 (lpS (fun n d h A => tqS S L fe sa left (fun v => v k.toNatClampNeg) (r + 1) (i + 1) (upd v i n) (crD 1 S L (S (10 + i)) (oth S (S (10 + i)) (wen S i)) fe sa 0 d h) (crH S (S (10 + i)) h) (hrs - n) A) (wtS S L fe sa (wen S i)) (c + 1) q (wtD S L fe sa (wen S i) q.toNatClampNeg d h) (hrH q.toNatClampNeg h) (n, le, mo)).2.1 (lpS (fun n d h A => tqS S L fe sa left (fun v => v k.toNatClampNeg) (r + 1) (i + 1) (upd v i n) (crD 1 S L (S (10 + i)) (oth S (S (10 + i)) (wen S i)) fe sa 0 d h) (crH S (S (10 + i)) h) (hrs - n) A) (wtS S L fe sa (wen S i)) (c + 1) q (wtD S L fe sa (wen S i) q.toNatClampNeg d h) (hrH q.toNatClampNeg h) (n, le, mo)).1 ∧ (∀ t : Nat, t < i → u' t = v t) ∧ u' i = hrs ∧ (∀ t : Nat, i < t → (t : Int) < (S 9).toInt → u' t = 0) ∧ 2 * (13 ^ 6 - wv u' (S 9).toNatClampNeg) + 1 < N' + 1 := by
      intro c
      induction c with
      | zero =>
        intro q N g0 g1 u v3 v4 v5 v6 v7 v8 v9 mo le n qc q0 hN a1 a2 a3 a4
        have eq : q = hrs := i32e (by omega)
        have es : (hrs - q).toInt = hrs.toInt - q.toInt := zsub (by omega) (by omega)
        obtain ⟨N', g0', g1', u', v3', v4', v5', v6', b1, b2, b3, b4, b5⟩ := ih (i + 1) (by omega) N g0 g1 u v3 v4 v5 v6 v7 v8 v9 mo le n (upd v i q) (crD 1 S L (S (10 + i)) (oth S (S (10 + i)) (wen S i)) fe sa 0 (wtD S L fe sa (wen S i) q.toNatClampNeg d h) (hrH q.toNatClampNeg h)) (crH S (S (10 + i)) (hrH q.toNatClampNeg h)) (hrs - q) hN (by omega) (by omega) (fun t ht => by
          by_cases y : t = i
          · rw [y, show upd v i q i = q from pk_us]; omega
          · rw [upd_ne (fun w => y w.symm)]; exact hv t (by omega)) (fun t ht => by
          by_cases y : t = i
          · rw [y, a2]; exact pk_us.symm
          · rw [a1 t (by omega)]; exact (upd_ne (fun w => y w.symm)).symm) a3 a4 (fun w hw => by
          have wi : w i = q := (hw i (by omega)).trans pk_us
          rw [pf w (fun t ht => (hw t (by omega)).trans (upd_ne (by omega))), goF_s (n := r + 1) (k := i), wi])
        refine ⟨N', g0', g1', u', v3', v4', v5', v6', b1, fun t ht => ?_, ?_, fun t a b => ?_, b5⟩
        · rw [b2 t (by omega)]
          exact upd_ne (by omega)
        · rw [b2 i (by omega), ← eq]
          exact pk_us
        · by_cases y : t = i + 1
          · rw [y, b3]
            exact i32e (by rw [z_i0]; omega)
          · exact b4 t (by omega) b
      | succ c ihc =>
        intro q N g0 g1 u v3 v4 v5 v6 v7 v8 v9 mo le n qc q0 hN a1 a2 a3 a4
        have tq := tn_eq q0
        have es : (hrs - q).toInt = hrs.toInt - q.toInt := zsub (by omega) (by omega)
        have eq1 : (q + 1).toInt = q.toInt + 1 := zadd1 (by omega)
        have tq1 := tn_eq (show 0 ≤ (q + 1).toInt by omega)
        have eqn : (q + 1).toNatClampNeg = q.toNatClampNeg + 1 := by omega
        obtain ⟨N', g0', g1', u', v3', v4', v5', v6', b1, b2, b3, b4, b5⟩ := ih (i + 1) (by omega) N g0 g1 u v3 v4 v5 v6 v7 v8 v9 mo le n (upd v i q) (crD 1 S L (S (10 + i)) (oth S (S (10 + i)) (wen S i)) fe sa 0 (wtD S L fe sa (wen S i) q.toNatClampNeg d h) (hrH q.toNatClampNeg h)) (crH S (S (10 + i)) (hrH q.toNatClampNeg h)) (hrs - q) hN (by omega) (by omega) (fun t ht => by
          by_cases y : t = i
          · rw [y, show upd v i q i = q from pk_us]; omega
          · rw [upd_ne (fun w => y w.symm)]; exact hv t (by omega)) (fun t ht => by
          by_cases y : t = i
          · rw [y, a2]; exact pk_us.symm
          · rw [a1 t (by omega)]; exact (upd_ne (fun w => y w.symm)).symm) a3 a4 (fun w hw => by
          have wi : w i = q := (hw i (by omega)).trans pk_us
          rw [pf w (fun t ht => (hw t (by omega)).trans (upd_ne (by omega))), goF_s (n := r + 1) (k := i), wi])
        have ub : ∀ t : Nat, t < i → u' t = v t := fun t ht => (b2 t (by omega)).trans (upd_ne (by omega))
        have ui : u' i = q := (b2 i (by omega)).trans pk_us
        obtain ⟨w, m1, m2, m3, m4, m5⟩ := nx_more (v := u') (zw := S 9) (r := hrs - q) (j := i) b9.2 (by omega) b3 (by omega) (fun t a b => b4 t a b)
        have u12 : ∀ t : Nat, t < (S 9).toNatClampNeg → wcl (u' t) ≤ 12 := by
          intro t ht
          show (u' t).toNatClampNeg ≤ 12
          by_cases y : t < i
          · rw [ub t y]; have := tn_eq (hv t y).1; have := (hv t y).2; omega
          · by_cases y2 : t = i
            · rw [y2, ui]; omega
            · by_cases y3 : t = i + 1
              · rw [y3, b3]; have := tn_eq (show 0 ≤ (hrs - q).toInt by omega); omega
              · rw [b4 t (by omega) (by omega)]; decide
        have wl := wv_nx (f := u') (g := w) (m := (S 9).toNatClampNeg) (i := i) (by omega) m2 (by rw [m3, ui, eq1]) (by rw [ui]; exact q0) u12
        have w13 := wv_13 (f := u') (m := (S 9).toNatClampNeg) (by omega) u12
        obtain ⟨N2, h0', h1', u2, w3', w4', w5', w6', c1, c2, c3, c4, c5⟩ := ihc (q + 1) N' g0' g1' w v3' v4' v5' v6' fe sa 0 (tqS S L fe sa left (fun v => v k.toNatClampNeg) (r + 1) (i + 1) (upd v i q) (crD 1 S L (S (10 + i)) (oth S (S (10 + i)) (wen S i)) fe sa 0 (wtD S L fe sa (wen S i) q.toNatClampNeg d h) (hrH q.toNatClampNeg h)) (crH S (S (10 + i)) (hrH q.toNatClampNeg h)) (hrs - q) (n, le, mo)).2.2 (tqS S L fe sa left (fun v => v k.toNatClampNeg) (r + 1) (i + 1) (upd v i q) (crD 1 S L (S (10 + i)) (oth S (S (10 + i)) (wen S i)) fe sa 0 (wtD S L fe sa (wen S i) q.toNatClampNeg d h) (hrH q.toNatClampNeg h)) (crH S (S (10 + i)) (hrH q.toNatClampNeg h)) (hrs - q) (n, le, mo)).2.1 (tqS S L fe sa left (fun v => v k.toNatClampNeg) (r + 1) (i + 1) (upd v i q) (crD 1 S L (S (10 + i)) (oth S (S (10 + i)) (wen S i)) fe sa 0 (wtD S L fe sa (wen S i) q.toNatClampNeg d h) (hrH q.toNatClampNeg h)) (crH S (S (10 + i)) (hrH q.toNatClampNeg h)) (hrs - q) (n, le, mo)).1 (by omega) (by omega) (by omega) (fun t ht => (m2 t ht).trans (ub t ht)) (by rw [m3, ui]) m4 (fun t ht => (m5 t ht).trans (i32e (by
          have h1 : (1 : Int32).toInt = 1 := by decide
          rw [zsub (by rw [h1]; omega) (by rw [h1]; omega), zsub (a := hrs) (b := q + 1) (by omega) (by omega), h1]
          omega)))
        rw [m1] at b1
        rw [eqn, wtD_s, hrH_s] at c1
        exact ⟨N2, h0', h1', u2, w3', w4', w5', w6', b1.trans c1, c2, c3, c4, c5⟩
    have eh : hrs - 0 = hrs := i32e (by rw [zsub (by rw [z_i0]; omega) (by rw [z_i0]; omega), z_i0]; omega)
    have z := LB hrs.toNatClampNeg 0 N g0 g1 u v3 v4 v5 v6 v7 v8 v9 mo le n (by rw [z_i0]; omega) (by decide) hN hu1 (hu2 i (Nat.le_refl _) (by omega)) (fun t a b => hu2 t (by omega) b) (fun t ht => (hu3 t ht).trans eh.symm)
    rw [tqS_2]
    exact z
