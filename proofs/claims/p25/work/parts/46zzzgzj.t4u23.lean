set_option maxHeartbeats 400000 in
theorem wi_h2 {o z : Int32} (z0 : 0 ≤ z.toInt) (z9 : z.toInt ≤ 100) : (wi o (z - 1) = 0) ↔ (hs o z = 0) := by
  have e : (z - 1).toInt = z.toInt - 1 := by
    have h1 : (1 : Int32).toInt = 1 := by decide
    rw [zsub (by rw [h1]; omega) (by rw [h1]; omega), h1]
  unfold wi hs
  by_cases a : o < 0
  · rw [if_pos a, if_pos a]
  · rw [if_neg a, if_neg a]
    by_cases b : z ≤ o
    · rw [if_pos b, if_pos (show z - 1 < o by rw [Int32.le_iff_toInt_le] at b; rw [Int32.lt_iff_toInt_lt, e]; omega)]
    · rw [if_neg b, if_neg (show ¬ z - 1 < o by rw [Int32.le_iff_toInt_le] at b; rw [Int32.lt_iff_toInt_lt, e]; omega)]
/-- GUESS: what is found -/
def gsT (S : Nat → Int32) (L : Cls) (fe sa left : Int32) (kf : (Nat → Int32) → Int32) (h d late : Int32) : Int32 × Int32 × Int32 := if S 9 = 0 then (if late = 0 then tqS S L fe sa left kf 0 0 (fun _ => 0) d h late (0, 0, 0) else (0, 0, 0)) else tqS S L fe sa left kf (S 9).toNatClampNeg 0 (fun _ => 0) d h late (0, 0, 0)
def anG (w : Int32) (A : Int32 × Int32 × Int32) : Int32 := if w = 0 then A.1 else if A.1 = 0 then -2 else if w = 1 then A.2.1 else A.2.2
def gsA (S : Nat → Int32) (L : Cls) (h d fe sa late left k w : Int32) : Int32 := if fX10_isLoad h d fe sa = 0 then -1 else if wi late 12 = 0 then -1 else if wi left 99999 = 0 then -1 else if wi w 2 = 0 then -1 else if S 8 = -1 then -1 else if w = 0 then (gsT S L fe sa left (fun _ => 0) h d late).1 else if hs k (S 9) = 0 then -1 else anG w (gsT S L fe sa left (fun v => v k.toNatClampNeg) h d late)
set_option maxHeartbeats 400000 in
theorem rgi {zw : Int32} (z6 : zw.toInt ≤ 6) : ∀ (n N : Nat) (f : Nat → Int32) (l : Int32), n < N → 0 ≤ l.toInt → l.toInt + n = zw.toInt → (∀ t : Nat, t < l.toNatClampNeg → f t = 0) → ∃ f' : Nat → Int32, (∀ E : (Nat → Int32) → Int32 → (Int32 × Int32 × Int32 × Int32 × Int32 × Int32 × Int32 × (Nat → Int64) × (Nat → Int64) × (Nat → Int32) × Int32), fl_mX11_guess_110 zw E N f l = E f' zw) ∧ ∀ t : Nat, (t : Int) < zw.toInt → f' t = 0
  | _, 0, _, _, h, _, _, _ => absurd h (Nat.not_lt_zero _)
  | 0, N + 1, f, l, _, l0, ln, hf => by
    have tl := tn_eq l0
    have el : l = zw := i32e (by omega)
    subst el
    refine ⟨f, fun E => ?_, fun t ht => hf t (by omega)⟩
    show fb_mX11_guess_110 l E (fl_mX11_guess_110 l E N) f l = _
    unfold fb_mX11_guess_110
    rw [if_pos (Int32.le_iff_toInt_le.mpr (Int.le_refl _))]
  | n + 1, N + 1, f, l, hN, l0, ln, hf => by
    have tl := tn_eq l0
    have e : (l + 1).toInt = l.toInt + 1 := zadd1 (by omega)
    have tl1 := tn_eq (show 0 ≤ (l + 1).toInt by omega)
    obtain ⟨f', r1, r2⟩ := rgi (zw := zw) z6 n N (upd f l.toNatClampNeg 0) (l + 1) (by omega) (by omega) (by omega) (fun t ht => by
      by_cases y : t = l.toNatClampNeg
      · rw [y]
        exact pk_us
      · rw [upd_ne (fun w => y w.symm)]
        exact hf t (by omega))
    refine ⟨f', fun E => Eq.trans ?_ (r1 E), r2⟩
    show fb_mX11_guess_110 zw E (fl_mX11_guess_110 zw E N) f l = _
    unfold fb_mX11_guess_110
    rw [if_neg (show ¬ zw ≤ l by rw [Int32.le_iff_toInt_le]; omega), bnd_eq, bnd_eq]
set_option maxHeartbeats 400000 in
theorem rgz {S sg cl cs : Nat → Int32} {law hour drops fe sa left late w : Int32} {L : Cls} {E : (Nat → Int64) → (Nat → Int64) → (Nat → Int32) → Int32 → Int32 → Int32 → Int32 → Int32 → Int32 → Int32 → Int32 → Int32 → Int32 → Int32 → (Int32 × Int32 × Int32 × Int32 × Int32 × Int32 × Int32 × (Nat → Int64) × (Nat → Int64) × (Nat → Int32) × Int32)} (hE : ∀ a1 a2 a3 a4 a5 a6 a7 a8 a9 b1 b2 mo le n, (E a1 a2 a3 a4 a5 a6 a7 a8 a9 b1 b2 mo le n).2.2.2.2.2.2.2.2.2.2 = anG w (n, le, mo)) (g : GD S) (x : XT S) (h8 : ¬ S 8 < 0) (hL : LWR sg cl cs law L) (z1 : 1 ≤ (S 9).toInt) (d0 : 0 ≤ drops.toInt) (d9 : drops.toInt ≤ 99999) (l0 : 0 ≤ late.toInt) (l12 : late.toInt ≤ 12) (g0 g1 : Nat → Int64) (u : Nat → Int32) (v3 v4 v5 v6 v7 v8 v9 : Int32) (hu2 : ∀ t : Nat, ((t + 1 : Nat) : Int) < (S 9).toInt → u t = 0) (hu3 : ∀ t : Nat, ((t + 1 : Nat) : Int) = (S 9).toInt → u t = late) : (fl_mX11_guess_164 sg cl cs S (S 6) (S 8) (S 9) law hour drops fe sa left E (2 * (13 ^ 6 - wv u (S 9).toNatClampNeg) + mb 1 + 1) g0 g1 u v3 v4 v5 v6 v7 v8 v9 1 0 0 0).2.2.2.2.2.2.2.2.2.2 = anG w (tqS S L fe sa left (fun _ => 0) (S 9).toNatClampNeg 0 (fun _ => 0) drops hour late (0, 0, 0)) := by
  have b9 := GD_9 g
  have t9 := tn_eq b9.1
  obtain ⟨r, er⟩ : ∃ r, (S 9).toNatClampNeg = r + 1 := ⟨(S 9).toNatClampNeg - 1, by omega⟩
  have m1 : mb 1 = 1 := rfl
  obtain ⟨N', g0', g1', u', v3', v4', v5', v6', q, _, _, q4, q5⟩ := rgb (hour := hour) (left := left) (fe := fe) (sa := sa) (E := E) g x h8 hL d0 d9 r 0 (by omega) (2 * (13 ^ 6 - wv u (S 9).toNatClampNeg) + mb 1 + 1) g0 g1 u v3 v4 v5 v6 v7 v8 v9 0 0 0 (fun _ => 0) drops hour late (by rw [m1]; omega) l0 l12 (fun t ht => absurd ht (Nat.not_lt_zero _)) (fun t ht => absurd ht (Nat.not_lt_zero _)) (fun t _ ht => hu2 t ht) hu3 (fun w _ => by rw [er])
  have e := nx_no (v := u') (zw := S 9) z1 b9.2 (fun t a b => q4 t (by omega) b)
  obtain ⟨M, rfl⟩ : ∃ M, N' = M + 1 := ⟨N' - 1, by omega⟩
  rw [q, e, er]
  show (fb_mX11_guess_164 sg cl cs S (S 6) (S 8) (S 9) law hour drops fe sa left E (fl_mX11_guess_164 sg cl cs S (S 6) (S 8) (S 9) law hour drops fe sa left E M) g0' g1' u' v3' v4' v5' v6' fe sa 0 0 _ _ _).2.2.2.2.2.2.2.2.2.2 = _
  unfold fb_mX11_guess_164
  rw [if_pos rfl]
  exact hE _ _ _ _ _ _ _ _ _ _ _ _ _ _
set_option maxHeartbeats 400000 in
theorem rgi_1 {zw : Int32} (z6 : zw.toInt ≤ 6) : ∀ (n N : Nat) (f : Nat → Int32) (l : Int32), n < N → 0 ≤ l.toInt → l.toInt + n = zw.toInt → (∀ t : Nat, t < l.toNatClampNeg → f t = 0) → ∃ f' : Nat → Int32, (∀ E : (Nat → Int32) → Int32 → (Int32 × Int32 × Int32 × Int32 × Int32 × Int32 × Int32 × (Nat → Int64) × (Nat → Int64) × (Nat → Int32) × Int32), fl_mX11_guess_110_1 zw E N f l = E f' zw) ∧ ∀ t : Nat, (t : Int) < zw.toInt → f' t = 0
  | _, 0, _, _, h, _, _, _ => absurd h (Nat.not_lt_zero _)
  | 0, N + 1, f, l, _, l0, ln, hf => by
    have tl := tn_eq l0
    have el : l = zw := i32e (by omega)
    subst el
    refine ⟨f, fun E => ?_, fun t ht => hf t (by omega)⟩
    show fb_mX11_guess_110_1 l E (fl_mX11_guess_110_1 l E N) f l = _
    unfold fb_mX11_guess_110_1
    rw [if_pos (Int32.le_iff_toInt_le.mpr (Int.le_refl _))]
  | n + 1, N + 1, f, l, hN, l0, ln, hf => by
    have tl := tn_eq l0
    have e : (l + 1).toInt = l.toInt + 1 := zadd1 (by omega)
    have tl1 := tn_eq (show 0 ≤ (l + 1).toInt by omega)
    obtain ⟨f', r1, r2⟩ := rgi_1 (zw := zw) z6 n N (upd f l.toNatClampNeg 0) (l + 1) (by omega) (by omega) (by omega) (fun t ht => by
      by_cases y : t = l.toNatClampNeg
      · rw [y]
        exact pk_us
      · rw [upd_ne (fun w => y w.symm)]
        exact hf t (by omega))
    refine ⟨f', fun E => Eq.trans ?_ (r1 E), r2⟩
    show fb_mX11_guess_110_1 zw E (fl_mX11_guess_110_1 zw E N) f l = _
    unfold fb_mX11_guess_110_1
    rw [if_neg (show ¬ zw ≤ l by rw [Int32.le_iff_toInt_le]; omega), bnd_eq, bnd_eq]
set_option maxHeartbeats 400000 in
theorem rgz_1 {S sg cl cs : Nat → Int32} {law hour drops fe sa left late w k : Int32} {L : Cls} {E : (Nat → Int64) → (Nat → Int64) → (Nat → Int32) → Int32 → Int32 → Int32 → Int32 → Int32 → Int32 → Int32 → Int32 → Int32 → Int32 → Int32 → (Int32 × Int32 × Int32 × Int32 × Int32 × Int32 × Int32 × (Nat → Int64) × (Nat → Int64) × (Nat → Int32) × Int32)} (hE : ∀ a1 a2 a3 a4 a5 a6 a7 a8 a9 b1 b2 mo le n, (E a1 a2 a3 a4 a5 a6 a7 a8 a9 b1 b2 mo le n).2.2.2.2.2.2.2.2.2.2 = anG w (n, le, mo)) (g : GD S) (x : XT S) (h8 : ¬ S 8 < 0) (hL : LWR sg cl cs law L) (z1 : 1 ≤ (S 9).toInt) (d0 : 0 ≤ drops.toInt) (d9 : drops.toInt ≤ 99999) (hk : 0 ≤ k.toInt) (hk2 : k.toInt < (S 9).toInt) (l0 : 0 ≤ late.toInt) (l12 : late.toInt ≤ 12) (g0 g1 : Nat → Int64) (u : Nat → Int32) (v3 v4 v5 v6 v7 v8 v9 : Int32) (hu2 : ∀ t : Nat, ((t + 1 : Nat) : Int) < (S 9).toInt → u t = 0) (hu3 : ∀ t : Nat, ((t + 1 : Nat) : Int) = (S 9).toInt → u t = late) : (fl_mX11_guess_164_1 sg cl cs S (S 6) (S 8) (S 9) law hour drops fe sa left k E (2 * (13 ^ 6 - wv u (S 9).toNatClampNeg) + mb 1 + 1) g0 g1 u v3 v4 v5 v6 v7 v8 v9 1 0 0 0).2.2.2.2.2.2.2.2.2.2 = anG w (tqS S L fe sa left (fun v => v k.toNatClampNeg) (S 9).toNatClampNeg 0 (fun _ => 0) drops hour late (0, 0, 0)) := by
  have b9 := GD_9 g
  have t9 := tn_eq b9.1
  obtain ⟨r, er⟩ : ∃ r, (S 9).toNatClampNeg = r + 1 := ⟨(S 9).toNatClampNeg - 1, by omega⟩
  have m1 : mb 1 = 1 := rfl
  obtain ⟨N', g0', g1', u', v3', v4', v5', v6', q, _, _, q4, q5⟩ := rgb_1 (hour := hour) (left := left) (fe := fe) (sa := sa) (E := E) g x h8 hL d0 d9 hk hk2 r 0 (by omega) (2 * (13 ^ 6 - wv u (S 9).toNatClampNeg) + mb 1 + 1) g0 g1 u v3 v4 v5 v6 v7 v8 v9 0 0 0 (fun _ => 0) drops hour late (by rw [m1]; omega) l0 l12 (fun t ht => absurd ht (Nat.not_lt_zero _)) (fun t ht => absurd ht (Nat.not_lt_zero _)) (fun t _ ht => hu2 t ht) hu3 (fun w _ => by rw [er])
  have e := nx_no (v := u') (zw := S 9) z1 b9.2 (fun t a b => q4 t (by omega) b)
  obtain ⟨M, rfl⟩ : ∃ M, N' = M + 1 := ⟨N' - 1, by omega⟩
  rw [q, e, er]
  show (fb_mX11_guess_164_1 sg cl cs S (S 6) (S 8) (S 9) law hour drops fe sa left k E (fl_mX11_guess_164_1 sg cl cs S (S 6) (S 8) (S 9) law hour drops fe sa left k E M) g0' g1' u' v3' v4' v5' v6' fe sa 0 0 _ _ _).2.2.2.2.2.2.2.2.2.2 = _
  unfold fb_mX11_guess_164_1
  rw [if_pos rfl]
  exact hE _ _ _ _ _ _ _ _ _ _ _ _ _ _
set_option maxHeartbeats 400000 in
theorem guess_r {S sg cl cs wt : Nat → Int32} {sk wd : Nat → Int64} {laws top law h d fe sa late left k w f1 f2 f3 f4 f5 f6 : Int32} {L : Cls} (g : GD S) (x : XT S) (hL : LWR sg cl cs law L) (hl : ¬ hs law laws = 0) : (fX11_guess laws top f1 f2 f3 f4 f5 f6 sg cl cs sk wd S wt (S 6) (S 8) (S 9) law h d fe sa late left k w).2.2.2.2.2.2.2.2.2.2 = gsA S L h d fe sa late left k w := by
  have b9 := GD_9 g
  have t9 := tn_eq b9.1
  have h1 : (1 : Int32).toInt = 1 := by decide
  unfold fX11_guess gsA
  rw [bndv (canTry_x hl), li_wj (hi := 12) (by decide), li_wj (hi := 99999) (by decide), li_wj (hi := 2) (by decide), li_wj (hi := S 9 - 1) rfl]
  by_cases c : S 8 = -1
  · rw [if_pos ((s8_neg g).mpr c), if_pos rfl, if_pos c, ite_self, ite_self, ite_self, ite_self]
  · have h8 : ¬ S 8 < 0 := fun y => c ((s8_neg g).mp y)
    rw [if_neg h8, if_neg c]
    by_cases a : fX10_isLoad h d fe sa = 0
    · rw [if_pos a, if_pos a]
    · rw [if_neg a, if_neg a]
      have dr := (load_in a).1
      by_cases b1 : wi late 12 = 0
      · rw [if_pos b1, if_pos b1]
      · rw [if_neg b1, if_neg b1]
        have lt := wi_r b1
        rw [show (12 : Int32).toInt = 12 from by decide] at lt
        by_cases b2 : wi left 99999 = 0
        · rw [if_pos b2, if_pos b2]
        · rw [if_neg b2, if_neg b2]
          by_cases b3 : wi w 2 = 0
          · rw [if_pos b3, if_pos b3]
          · rw [if_neg b3, if_neg b3]
            have wr := wi_r b3
            by_cases e : w = 0
            · rw [if_pos (show w ≤ 0 by rw [e]; decide), if_pos e]
              unfold gsT
              by_cases z : S 9 = 0
              · rw [if_pos z, if_pos z]
                by_cases l : late = 0
                · rw [if_pos l, if_pos l, tqS_0]
                  by_cases q : d = left
                  · rw [if_pos q, if_pos q, acU_1]
                    rfl
                  · rw [if_neg q, if_neg q]
                · rw [if_neg l, if_neg l]
              · have z1 : 1 ≤ (S 9).toInt := by
                  have : ¬ (S 9).toInt = 0 := fun y => z (i32e (by rw [z_i0]; exact y))
                  omega
                have em : (S 9 - 1).toInt = (S 9).toInt - 1 := by rw [zsub (by rw [h1]; omega) (by rw [h1]; omega), h1]
                have tm := tn_eq (show 0 ≤ (S 9 - 1).toInt by omega)
                obtain ⟨f', j1, j2⟩ := rgi b9.2 (S 9).toNatClampNeg ((((S 9) : Int32).toInt - (0 : Int32).toInt).toNat + 1) wt 0 (by rw [z_i0]; omega) (by decide) (by rw [z_i0]; omega) (fun t ht => absurd ht (Nat.not_lt_zero _))
                rw [if_neg z, if_neg z, j1, bnd_eq]
                refine (rgz (w := w) (fun a1 a2 a3 a4 a5 a6 a7 a8 a9 b1 b2 mo le n => ?_) g x h8 hL z1 dr.1 dr.2 lt.1 lt.2 sk wd (upd f' (S 9 - 1).toNatClampNeg late) _ _ _ _ _ _ _ (fun t ht => ?_) (fun t ht => ?_)).trans (if_pos e)
                · exact (congrArg (fun z : Int32 × Int32 × Int32 × Int32 × Int32 × Int32 × Int32 × (Nat → Int64) × (Nat → Int64) × (Nat → Int32) × Int32 => z.2.2.2.2.2.2.2.2.2.2) (if_pos e)).trans (show n = anG w (n, le, mo) from (show anG w (n, le, mo) = n from if_pos e).symm)
                · rw [upd_ne (by omega)]
                  exact j2 t (by omega)
                · rw [show (S 9 - 1).toNatClampNeg = t by omega]
                  exact pk_us
            · have e0 : ¬ w ≤ 0 := by
                rw [Int32.le_iff_toInt_le, z_i0]
                have : ¬ w.toInt = 0 := fun y => e (i32e (by rw [z_i0]; exact y))
                omega
              rw [if_neg e0, if_neg e]
              by_cases y : hs k (S 9) = 0
              · rw [if_pos y, if_pos ((wi_h2 b9.1 (by omega)).mpr y)]
              · have kr := hs_r y
                have z : ¬ S 9 = 0 := fun q => by rw [q, z_i0] at kr; omega
                have z1 : 1 ≤ (S 9).toInt := by omega
                have em : (S 9 - 1).toInt = (S 9).toInt - 1 := by rw [zsub (by rw [h1]; omega) (by rw [h1]; omega), h1]
                have tm := tn_eq (show 0 ≤ (S 9 - 1).toInt by omega)
                obtain ⟨f', j1, j2⟩ := rgi_1 b9.2 (S 9).toNatClampNeg ((((S 9) : Int32).toInt - (0 : Int32).toInt).toNat + 1) wt 0 (by rw [z_i0]; omega) (by decide) (by rw [z_i0]; omega) (fun t ht => absurd ht (Nat.not_lt_zero _))
                unfold gsT
                rw [if_neg y, if_neg (fun q => y ((wi_h2 b9.1 (by omega)).mp q)), if_neg z, if_neg z, j1, bnd_eq]
                refine rgz_1 (w := w) (k := k) (fun a1 a2 a3 a4 a5 a6 a7 a8 a9 b1 b2 mo le n => ?_) g x h8 hL z1 dr.1 dr.2 kr.1 kr.2 lt.1 lt.2 sk wd (upd f' (S 9 - 1).toNatClampNeg late) _ _ _ _ _ _ _ (fun t ht => ?_) (fun t ht => ?_)
                · refine (congrArg (fun z : Int32 × Int32 × Int32 × Int32 × Int32 × Int32 × Int32 × (Nat → Int64) × (Nat → Int64) × (Nat → Int32) × Int32 => z.2.2.2.2.2.2.2.2.2.2) (if_neg e)).trans ?_
                  by_cases n0 : n = 0
                  · rw [show anG w (n, le, mo) = -2 from (if_neg e).trans (if_pos n0)]
                    exact congrArg (fun z : Int32 × Int32 × Int32 × Int32 × Int32 × Int32 × Int32 × (Nat → Int64) × (Nat → Int64) × (Nat → Int32) × Int32 => z.2.2.2.2.2.2.2.2.2.2) (if_pos n0)
                  · refine (congrArg (fun z : Int32 × Int32 × Int32 × Int32 × Int32 × Int32 × Int32 × (Nat → Int64) × (Nat → Int64) × (Nat → Int32) × Int32 => z.2.2.2.2.2.2.2.2.2.2) (if_neg n0)).trans ?_
                    by_cases w1 : w = 1
                    · rw [show anG w (n, le, mo) = le from (if_neg e).trans ((if_neg n0).trans (if_pos w1))]
                      exact congrArg (fun z : Int32 × Int32 × Int32 × Int32 × Int32 × Int32 × Int32 × (Nat → Int64) × (Nat → Int64) × (Nat → Int32) × Int32 => z.2.2.2.2.2.2.2.2.2.2) (if_pos w1)
                    · rw [show anG w (n, le, mo) = mo from (if_neg e).trans ((if_neg n0).trans (if_neg w1))]
                      exact congrArg (fun z : Int32 × Int32 × Int32 × Int32 × Int32 × Int32 × Int32 × (Nat → Int64) × (Nat → Int64) × (Nat → Int32) × Int32 => z.2.2.2.2.2.2.2.2.2.2) (if_neg w1)
                · rw [upd_ne (by omega)]
                  exact j2 t (by omega)
                · rw [show (S 9 - 1).toNatClampNeg = t by omega]
                  exact pk_us
set_option maxHeartbeats 400000 in
theorem fi_l : ∀ (n N : Nat) (f f2 : Nat → Int32) (l : Int32), n < N → 0 ≤ l.toInt → l.toInt + n = 6 → ∃ h0 h1 : Nat → Int32, (∀ E : (Nat → Int32) → (Nat → Int32) → Int32 → (Int32 × Int32 × (Nat → Int32) × (Nat → Int32) × (Nat → Int32) × Int32 × Int32 × Int32 × Int32 × Int32 × Int32 × (Nat → Int32)), fl_mX8_find_24 E N f f2 l = E h0 h1 6) ∧ (∀ t : Nat, t < l.toNatClampNeg → h0 t = f t ∧ h1 t = f2 t) ∧ (∀ t : Nat, l.toNatClampNeg ≤ t → t < 6 → h0 t = 12 ∧ h1 t = 0)
  | _, 0, _, _, _, h, _, _ => absurd h (Nat.not_lt_zero _)
  | 0, N + 1, f, f2, l, _, l0, ln => by
    have tl := tn_eq l0
    have el : l = 6 := i32e (by rw [show (6 : Int32).toInt = 6 from by decide]; omega)
    subst el
    refine ⟨f, f2, fun E => ?_, fun _ _ => ⟨rfl, rfl⟩, fun t a b => absurd b (by omega)⟩
    show fb_mX8_find_24 E (fl_mX8_find_24 E N) f f2 6 = _
    unfold fb_mX8_find_24
    rw [if_pos (by decide)]
  | n + 1, N + 1, f, f2, l, hN, l0, ln => by
    have tl := tn_eq l0
    have e : (l + 1).toInt = l.toInt + 1 := zadd1 (by omega)
    have tl1 := tn_eq (show 0 ≤ (l + 1).toInt by omega)
    obtain ⟨h0, h1, r1, r2, r3⟩ := fi_l n N (upd f l.toNatClampNeg 12) (upd f2 l.toNatClampNeg 0) (l + 1) (by omega) (by omega) (by omega)
    refine ⟨h0, h1, fun E => Eq.trans ?_ (r1 E), fun t a => ?_, fun t a b => ?_⟩
    · show fb_mX8_find_24 E (fl_mX8_find_24 E N) f f2 l = _
      unfold fb_mX8_find_24
      rw [if_neg (show ¬ 6 ≤ l by rw [Int32.le_iff_toInt_le, show (6 : Int32).toInt = 6 from by decide]; omega), bnd_eq, bnd_eq, bnd_eq]
    · have q := r2 t (by omega)
      rw [upd_ne (by omega), upd_ne (by omega)] at q
      exact q
    · by_cases y : t = l.toNatClampNeg
      · have q := r2 t (by omega)
        rw [y] at q ⊢
        exact ⟨q.1.trans pk_us, q.2.trans pk_us⟩
      · exact r3 t (by omega) b
set_option maxHeartbeats 400000 in
theorem find_v {S nF pF wF va vb vc cF so s1 s2 t1 t2 yj yo y1 y2 y3 y4 y5 : Nat → Int32} {fm yc left fe sa d h late cb ch co : Int32} {L : Cls} {kf : (Nat → Int32) → Int32} {b : Prop} {k : Nat} (g : GD S) (x : XT S) (h8 : ¬ S 8 < 0) (hL : LWX so s1 s2 t1 t2 yj yo y1 y2 y3 y4 y5 yc L) (hn : NE nF S) (hp : PE pF S) (hw : WE wF S) (e6 : fm = S 6) (u0 : 0 ≤ left.toInt) (hkf : b → ∀ v, kf v = v k) (hk : b → (k : Int) < (S 9).toInt) (d0 : 0 ≤ d.toInt) (d9 : d.toInt ≤ 99999) (l0 : 0 ≤ late.toInt) (l12 : late.toInt ≤ 12) : ∃ (fo : Int32) (va' vb' vc' : Nat → Int32) (dx hx nd cb' ch' co' : Int32) (cF' : Nat → Int32), fX8_find va vb vc d h 0 fe sa cF cb ch co nF (S 1) pF (S 9) wF (S 8) fm so s1 s2 t1 t2 yj yo y1 y2 y3 y4 y5 yc late left = (fo, left, va', vb', vc', dx, hx, nd, cb', ch', co', cF') ∧ AR b k (gsT S L fe sa left kf h d late) fo vb' vc' := by
  have b9 := GD_9 g
  have t9 := tn_eq b9.1
  have h1 : (1 : Int32).toInt = 1 := by decide
  obtain ⟨f', f2', i1, _, i3⟩ := fi_l 6 (((6 : Int32).toInt - (0 : Int32).toInt).toNat + 1) vb vc 0 (by decide) (by decide) (by decide)
  have ar0 : AR b k (0, 0, 0) 0 f' f2' := ⟨⟨rfl, (by decide : (0 : Int) ≤ (0 : Int32).toInt)⟩, fun hb => ⟨fun _ => i3 k (Nat.zero_le _) (by have := hk hb; omega), fun q => absurd rfl q⟩⟩
  obtain ⟨nd, en⟩ : ∃ nd, nd = (if 1 < left then left else (1 : Int32)) := ⟨_, rfl⟩
  have n12 : 1 ≤ nd.toInt ∧ (nd.toInt = left.toInt ∨ (left.toInt = 0 ∧ nd.toInt = 1)) := by
    by_cases c : 1 < left
    · rw [if_pos c] at en
      rw [Int32.lt_iff_toInt_lt, h1] at c
      rw [en]
      exact ⟨by omega, Or.inl rfl⟩
    · rw [if_neg c] at en
      rw [Int32.lt_iff_toInt_lt, h1] at c
      rw [en, h1]
      exact ⟨by omega, by omega⟩
  have S0 : ∃ (fo : Int32) (va' vb' vc' : Nat → Int32) (dx hx cb' ch' co' : Int32) (cF' : Nat → Int32), fX8_spread_0 0 left va f' f2' d h 0 nd fe sa cF cb ch co nF (S 1) pF (S 9) wF fm so s1 s2 t1 t2 yj yo y1 y2 y3 y4 y5 yc (S 8) late = (fo, va', vb', vc', dx, hx, cb', ch', co', cF') ∧ AR b k (gsT S L fe sa left kf h d late) fo vb' vc' := by
    unfold gsT
    by_cases z : S 9 = 0
    · rw [if_pos z]
      by_cases l : late = 0
      · rw [if_pos l]
        obtain ⟨fo, va', vb', vc', dx, hx, cb', ch', co', cF', m1, _, m3, _⟩ := cgs_0 (fe := fe) (sa := sa) g x h8 hL hn hp hw e6 n12.1 n12.2 u0 hkf hk 0 (by rw [z]; decide) 0 d d h cb ch co late va f' f2' cF (fun _ => 0) (0, 0, 0) (Or.inl rfl) d0 d9 d0 d9 l0 l12 (fun _ => l) (fun t ht => absurd ht (Nat.not_lt_zero _)) (fun t ht => absurd ht (Nat.not_lt_zero _)) ar0 (by decide)
        exact ⟨fo, va', vb', vc', dx, hx, cb', ch', co', cF', m1, m3⟩
      · rw [if_neg l]
        unfold fX8_spread_0
        by_cases c : left ≤ d
        · rw [if_pos c, if_pos (show S 9 ≤ 0 by rw [z]; decide), if_neg l]
          exact ⟨_, _, _, _, _, _, _, _, _, _, rfl, ar0⟩
        · rw [if_neg c]
          exact ⟨_, _, _, _, _, _, _, _, _, _, rfl, ar0⟩
    · rw [if_neg z]
      have z1 : 1 ≤ (S 9).toInt := by
        have : ¬ (S 9).toInt = 0 := fun y => z (i32e (by rw [z_i0]; exact y))
        omega
      have p13 : 13 ^ (S 9).toNatClampNeg ≤ 13 ^ 6 := Nat.pow_le_pow_right (by decide) (by omega)
      have p6 : (13 ^ 6 : Nat) = 4826809 := by decide
      obtain ⟨fo, va', vb', vc', dx, hx, cb', ch', co', cF', m1, _, m3, _⟩ := cgs_0 (fe := fe) (sa := sa) g x h8 hL hn hp hw e6 n12.1 n12.2 u0 hkf hk (S 9).toNatClampNeg (by omega) 0 d d h cb ch co late va f' f2' cF (fun _ => 0) (0, 0, 0) (Or.inl rfl) d0 d9 d0 d9 l0 l12 (fun q => absurd q (by omega)) (fun t ht => absurd ht (Nat.not_lt_zero _)) (fun t ht => absurd ht (Nat.not_lt_zero _)) ar0 (by
        show (0 : Int32).toInt + ((13 ^ (S 9).toNatClampNeg : Nat) : Int) ≤ 100000000
        rw [z_i0]
        omega)
      exact ⟨fo, va', vb', vc', dx, hx, cb', ch', co', cF', m1, m3⟩
  obtain ⟨fo, va', vb', vc', dx, hx, cb', ch', co', cF', m1, m3⟩ := S0
  refine ⟨fo, va', vb', vc', dx, hx, nd, cb', ch', co', cF', ?_, m3⟩
  unfold fX8_find
  rw [bndv en.symm, i1, bndv m1, bnd_eq, bnd_eq, bnd_eq, bnd_eq, bnd_eq, bnd_eq, bnd_eq, bnd_eq, bnd_eq, bnd_eq]
set_option maxHeartbeats 400000 in
theorem guess_c {S nF pF wF cF va vb vc so s1 s2 t1 t2 yj yo y1 y2 y3 y4 y5 : Nat → Int32} {zp zw ws z yc h d fe sa late left k w cb ch co e1 e2 e3 e4 e5 e6 vf vd : Int32} {L : Cls} (g : GD S) (x : XT S) (hL : LWX so s1 s2 t1 t2 yj yo y1 y2 y3 y4 y5 yc L) (hn : NE nF S) (hp : PE pF S) (hw : WE wF S) (ezp : zp = S 1) (ezw : zw = S 9) (ews : ws = S 8) (hz : z = S 6) : (fX10_guess_yes nF zp pF zw wF ws z cF cb ch co e1 e2 e3 e4 e5 e6 vf vd va vb vc so s1 s2 t1 t2 yj yo y1 y2 y3 y4 y5 yc h d fe sa late left k w).2.2.2.2.2.2.2.2.2.2.2.2.2.2.2 = gsA S L h d fe sa late left k w := by
  subst ezp
  subst ezw
  subst ews
  have b9 := GD_9 g
  unfold fX10_guess_yes gsA
  by_cases b1 : wi late 12 = 0
  · rw [if_pos b1, if_pos b1]
    simp only [bnd, ite_self]
  · rw [if_neg b1, if_neg b1]
    have lt := wi_r b1
    rw [show (12 : Int32).toInt = 12 from by decide] at lt
    by_cases b2 : wi left 99999 = 0
    · rw [if_pos b2, if_pos b2]
      simp only [bnd, ite_self]
    · rw [if_neg b2, if_neg b2]
      have u0 := (wi_r b2).1
      by_cases b3 : wi w 2 = 0
      · rw [if_pos b3, if_pos b3]
        simp only [bnd, ite_self]
      · rw [if_neg b3, if_neg b3]
        by_cases e : w = 0
        · rw [if_pos e, bnd_eq]
          by_cases a : fX10_isLoad h d fe sa = 0
          · rw [if_pos a, if_pos a]
          · rw [if_neg a, if_neg a]
            have dr := (load_in a).1
            by_cases c : S 8 = -1
            · rw [if_pos c, if_pos c]
            · rw [if_neg c, if_neg c]
              obtain ⟨fo, va', vb', vc', dx, hx, nd, cb', ch', co', cF', q, ar⟩ := find_v (va := va) (vb := vb) (vc := vc) (cF := cF) (cb := cb) (ch := ch) (co := co) (h := h) (fe := fe) (sa := sa) (kf := fun _ => 0) (b := False) (k := 0) g x (fun y => c ((s8_neg g).mp y)) hL hn hp hw hz u0 (fun q => q.elim) (fun q => q.elim) dr.1 dr.2 lt.1 lt.2
              rw [bndv q, bnd_eq, bnd_eq, bnd_eq, bnd_eq, bnd_eq, bnd_eq, bnd_eq, bnd_eq, bnd_eq, bnd_eq, bnd_eq, bnd_eq, if_pos e, if_pos e]
              exact ar.1.1.symm
        · rw [if_neg e]
          by_cases y : hs k (S 9) = 0
          · rw [if_pos y, if_neg e, if_pos y]
            simp only [bnd, ite_self]
          · rw [if_neg y, if_neg e, if_neg y, bnd_eq]
            have kr := hs_r y
            have tk := tn_eq kr.1
            by_cases a : fX10_isLoad h d fe sa = 0
            · rw [if_pos a, if_pos a]
            · rw [if_neg a, if_neg a]
              have dr := (load_in a).1
              by_cases c : S 8 = -1
              · rw [if_pos c, if_pos c]
              · rw [if_neg c, if_neg c]
                obtain ⟨fo, va', vb', vc', dx, hx, nd, cb', ch', co', cF', q, ar⟩ := find_v (va := va) (vb := vb) (vc := vc) (cF := cF) (cb := cb) (ch := ch) (co := co) (h := h) (fe := fe) (sa := sa) (kf := fun v => v k.toNatClampNeg) (b := True) (k := k.toNatClampNeg) g x (fun y => c ((s8_neg g).mp y)) hL hn hp hw hz u0 (fun _ _ => rfl) (fun _ => by omega) dr.1 dr.2 lt.1 lt.2
                obtain ⟨⟨a1, a2⟩, a3⟩ := ar
                obtain ⟨a4, a5⟩ := a3 trivial
                have ef : fX8_fewestAt vb' k = vb' k.toNatClampNeg := by
                  unfold fX8_fewestAt
                  rw [if_neg (show ¬ k < 0 by rw [Int32.lt_iff_toInt_lt, z_i0]; omega), if_neg (show ¬ 6 ≤ k by rw [Int32.le_iff_toInt_le, show (6 : Int32).toInt = 6 from by decide]; omega), bnd_eq]
                have eo : fX8_mostAt vc' k = vc' k.toNatClampNeg := by
                  unfold fX8_mostAt
                  rw [if_neg (show ¬ k < 0 by rw [Int32.lt_iff_toInt_lt, z_i0]; omega), if_neg (show ¬ 6 ≤ k by rw [Int32.le_iff_toInt_le, show (6 : Int32).toInt = 6 from by decide]; omega), bnd_eq]
                rw [bndv q, bnd_eq, bnd_eq, bnd_eq, bnd_eq, bnd_eq, bnd_eq, bnd_eq, bnd_eq, bnd_eq, bnd_eq, bnd_eq, bnd_eq, if_neg e]
                generalize gsT S L fe sa left (fun v => v k.toNatClampNeg) h d late = A at a1 a2 a4 a5 ⊢
                by_cases n0 : A.1 = 0
                · rw [show anG w A = -2 from (if_neg e).trans (if_pos n0), if_pos (show fo = 0 from a1.symm.trans n0)]
                · obtain ⟨a6, a7⟩ := a5 n0
                  rw [if_neg (show ¬ fo = 0 from fun q => n0 (a1.trans q))]
                  by_cases w1 : w = 1
                  · rw [if_pos w1, bndv ef, show anG w A = A.2.1 from (if_neg e).trans ((if_neg n0).trans (if_pos w1))]
                    exact a6
                  · rw [if_neg w1, bndv eo, show anG w A = A.2.2 from (if_neg e).trans ((if_neg n0).trans (if_neg w1))]
                    exact a7
