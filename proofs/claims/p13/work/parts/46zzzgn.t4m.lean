set_option maxHeartbeats 400000 in
theorem upd_comm {f : Nat → Int32} {k l : Nat} {x y : Int32} (h : k ≠ l) : upd (upd f k x) l y = upd (upd f l y) k x := by
  funext i
  by_cases a : l = i
  · subst a
    rw [pk_us, upd_ne h, pk_us]
  · rw [upd_ne a]
    by_cases b : k = i
    · subst b
      rw [pk_us, pk_us]
    · rw [upd_ne b, upd_ne b, upd_ne a]
/-- a jar that is GONE -/
def goS (S : Nat → Int32) (j : Int32) : Nat → Int32 := upd (upd (upd (upd (upd S (168 + 9 * j.toNatClampNeg + 4) 0) (168 + 9 * j.toNatClampNeg + 5) 13) (168 + 9 * j.toNatClampNeg + 6) (-1)) (168 + 9 * j.toNatClampNeg + 7) 0) (168 + 9 * j.toNatClampNeg + 8) (-1)
set_option maxHeartbeats 400000 in
theorem ref_go {S : Nat → Int32} {j : Int32} (hj : rJ j) : fX11_goesFor S j = goS S j := by
  unfold fX11_goesFor goS
  simp only [bnd, cj4 hj, cj5 hj, cj6 hj, cj7 hj, cj8 hj]
set_option maxHeartbeats 400000 in
theorem cls_stand {F S : Nat → Int32} {j w : Int32} (h : JE F S) (hj : rJ j) : JE (fX9_standAt F j w) (upd (upd (upd (upd S (168 + 9 * j.toNatClampNeg + 5) w) (168 + 9 * j.toNatClampNeg + 6) (-1)) (168 + 9 * j.toNatClampNeg + 7) 0) (168 + 9 * j.toNatClampNeg + 8) (-1)) := by
  unfold fX9_standAt
  simp only [bnd]
  exact jp4 (jp3 (jp2 (jp1 h hj) hj) hj) hj
set_option maxHeartbeats 400000 in
theorem goS_eq {S : Nat → Int32} {j : Int32} : goS S j = upd (upd (upd (upd (upd S (168 + 9 * j.toNatClampNeg + 5) 13) (168 + 9 * j.toNatClampNeg + 6) (-1)) (168 + 9 * j.toNatClampNeg + 7) 0) (168 + 9 * j.toNatClampNeg + 8) (-1)) (168 + 9 * j.toNatClampNeg + 4) 0 := by
  unfold goS
  rw [upd_comm (k := 168 + 9 * j.toNatClampNeg + 4) (l := 168 + 9 * j.toNatClampNeg + 5) (by omega), upd_comm (k := 168 + 9 * j.toNatClampNeg + 4) (l := 168 + 9 * j.toNatClampNeg + 6) (by omega), upd_comm (k := 168 + 9 * j.toNatClampNeg + 4) (l := 168 + 9 * j.toNatClampNeg + 7) (by omega), upd_comm (k := 168 + 9 * j.toNatClampNeg + 4) (l := 168 + 9 * j.toNatClampNeg + 8) (by omega)]
set_option maxHeartbeats 400000 in
theorem cls_go {F S : Nat → Int32} {j : Int32} (h : JE F S) (hj : rJ j) : JE (fX9_lose F j) (goS S j) := by
  unfold fX9_lose
  simp only [bnd]
  rw [goS_eq]
  exact jp0 (cls_stand h hj) hj
set_option maxHeartbeats 400000 in
theorem goS_at {S : Nat → Int32} {j : Int32} {i : Nat} (h : i < 168 + 9 * j.toNatClampNeg + 4 ∨ 168 + 9 * j.toNatClampNeg + 8 < i) : goS S j i = S i := by
  unfold goS
  rw [upd_ne (by omega), upd_ne (by omega), upd_ne (by omega), upd_ne (by omega), upd_ne (by omega)]
set_option maxHeartbeats 400000 in
theorem goS_5 {S : Nat → Int32} {j : Int32} : goS S j (168 + 9 * j.toNatClampNeg + 5) = 13 := by
  unfold goS
  rw [upd_ne (by omega), upd_ne (by omega), upd_ne (by omega), pk_us]
/-- which jar is next behind one on its mule -/
def nbC (S : Nat → Int32) (node pass last k b : Int32) : Int32 := if S (168 + 9 * k.toNatClampNeg + 5) = node ∨ (S (168 + 9 * k.toNatClampNeg + 5) = 12 ∧ S (168 + 9 * k.toNatClampNeg + 6) = pass) then (if S (168 + 9 * k.toNatClampNeg + 2) = S (168 + 9 * last.toNatClampNeg + 2) then (if S (168 + 9 * k.toNatClampNeg + 3) ≤ S (168 + 9 * last.toNatClampNeg + 3) then b else if b < 0 then k else if S (168 + 9 * b.toNatClampNeg + 3) ≤ S (168 + 9 * k.toNatClampNeg + 3) then b else k) else b) else b
def nbS (S : Nat → Int32) (node pass last : Int32) : Nat → Int32 → Int32 → Int32
  | 0, _, b => b
  | n + 1, k, b => nbS S node pass last n (k + 1) (nbC S node pass last k b)
set_option maxHeartbeats 400000 in
theorem nbC_in {S : Nat → Int32} {node pass last k b z : Int32} (h : b = -1 ∨ (0 ≤ b.toInt ∧ b.toInt < z.toInt)) (k0 : 0 ≤ k.toInt) (kz : k.toInt < z.toInt) : nbC S node pass last k b = -1 ∨ (0 ≤ (nbC S node pass last k b).toInt ∧ (nbC S node pass last k b).toInt < z.toInt) := by
  unfold nbC
  repeat' split
  all_goals first | exact h | exact Or.inr ⟨k0, kz⟩
set_option maxHeartbeats 400000 in
theorem nbS_in {S : Nat → Int32} {node pass last z : Int32} (hz : z.toInt ≤ 16) : ∀ (n : Nat) (k b : Int32), (b = -1 ∨ (0 ≤ b.toInt ∧ b.toInt < z.toInt)) → 0 ≤ k.toInt → k.toInt + n ≤ z.toInt → nbS S node pass last n k b = -1 ∨ (0 ≤ (nbS S node pass last n k b).toInt ∧ (nbS S node pass last n k b).toInt < z.toInt) := by
  intro n
  induction n with
  | zero => intro k b h _ _; exact h
  | succ n ih =>
    intro k b h k0 kz
    have e : (k + 1).toInt = k.toInt + 1 := zadd1 (by omega)
    exact ih (k + 1) _ (nbC_in h k0 (by omega)) (by omega) (by omega)
set_option maxHeartbeats 400000 in
/-- the one that is GONE itself is no matter -/
theorem nbC_go {S : Nat → Int32} {node pass last k b : Int32} (hl : rJ last) (hk : 0 ≤ k.toInt) (hn : ¬ node = 13) (hb : b = -1 ∨ 0 ≤ b.toInt) : nbC (goS S last) node pass last k b = nbC S node pass last k b := by
  have g2 : ∀ z : Int32, goS S last (168 + 9 * z.toNatClampNeg + 2) = S (168 + 9 * z.toNatClampNeg + 2) := fun z => goS_at (by omega)
  have g3 : ∀ z : Int32, goS S last (168 + 9 * z.toNatClampNeg + 3) = S (168 + 9 * z.toNatClampNeg + 3) := fun z => goS_at (by omega)
  unfold nbC
  rw [g2, g2, g3, g3, g3]
  by_cases e : k.toNatClampNeg = last.toNatClampNeg
  · rw [e, goS_5]
    rw [if_neg (show ¬ ((13 : Int32) = node ∨ (13 : Int32) = 12 ∧ goS S last (168 + 9 * last.toNatClampNeg + 6) = pass) by
      rintro (q | ⟨q, _⟩)
      · exact hn q.symm
      · exact absurd q (by decide))]
    split
    · split
      · rw [if_pos (Int32.le_refl _)]
      · rfl
    · rfl
  · rw [goS_at (i := 168 + 9 * k.toNatClampNeg + 5) (by omega), goS_at (i := 168 + 9 * k.toNatClampNeg + 6) (by omega)]
set_option maxHeartbeats 400000 in
theorem nbS_go {S : Nat → Int32} {node pass last z : Int32} (hl : rJ last) (hn : ¬ node = 13) (hz : z.toInt ≤ 16) : ∀ (n : Nat) (k b : Int32), (b = -1 ∨ (0 ≤ b.toInt ∧ b.toInt < z.toInt)) → 0 ≤ k.toInt → k.toInt + n ≤ z.toInt → nbS (goS S last) node pass last n k b = nbS S node pass last n k b := by
  intro n
  induction n with
  | zero => intro k b _ _ _; rfl
  | succ n ih =>
    intro k b hb k0 kz
    have e : (k + 1).toInt = k.toInt + 1 := zadd1 (by omega)
    show nbS (goS S last) node pass last n (k + 1) (nbC (goS S last) node pass last k b) = nbS S node pass last n (k + 1) (nbC S node pass last k b)
    rw [nbC_go hl k0 hn (hb.imp id (fun q => q.1))]
    exact ih (k + 1) _ (nbC_in hb k0 (by omega)) (by omega) (by omega)
set_option maxHeartbeats 400000 in
theorem ref_nb {S : Nat → Int32} {node pass last z : Int32} (hz : z.toInt ≤ 16) (hl : rJ last) {E : Int32 → Int32 → (Nat → Int32)} : ∀ (n N : Nat) (k b : Int32), (b = -1 ∨ (0 ≤ b.toInt ∧ b.toInt < z.toInt)) → 0 ≤ k.toInt → k.toInt + n = z.toInt → n < N → fl_mX11_bursts_20 z node pass last S E N k b = E z (nbS S node pass last n k b) := by
  intro n
  induction n with
  | zero =>
    intro N k b hb k0 kz hN
    obtain ⟨N, rfl⟩ : ∃ m, N = m + 1 := ⟨N - 1, by omega⟩
    have e : k = z := Int32.toInt_inj.mp (by omega)
    show fb_mX11_bursts_20 z node pass last S E (fl_mX11_bursts_20 z node pass last S E N) k b = _
    unfold fb_mX11_bursts_20
    rw [if_pos (show z ≤ k by rw [e]; exact Int32.le_refl _), e]
    rfl
  | succ n ih =>
    intro N k b hb k0 kz hN
    obtain ⟨N, rfl⟩ : ∃ m, N = m + 1 := ⟨N - 1, by omega⟩
    have ek : (k + 1).toInt = k.toInt + 1 := zadd1 (by omega)
    have hk : rJ k := ⟨k0, by omega⟩
    have hbj : ¬ b < 0 → rJ b := by
      intro q
      rcases hb with r | r
      · exact absurd (show b < 0 by rw [r]; decide) q
      · exact ⟨r.1, by omega⟩
    have go := ih N (k + 1) (nbC S node pass last k b) (nbC_in hb k0 (by omega)) (by omega) (by omega) (by omega)
    show fb_mX11_bursts_20 z node pass last S E (fl_mX11_bursts_20 z node pass last S E N) k b = E z (nbS S node pass last n (k + 1) (nbC S node pass last k b))
    rw [← go]
    generalize fl_mX11_bursts_20 z node pass last S E N = K
    unfold fb_mX11_bursts_20 nbC
    rw [if_neg (show ¬ z ≤ k by rw [Int32.le_iff_toInt_le]; omega)]
    simp only [bnd, cj2 hk, cj3 hk, cj5 hk, cj6 hk, cj2 hl, cj3 hl]
    by_cases a : S (168 + 9 * k.toNatClampNeg + 5) = node
    · rw [if_pos a, if_pos (Or.inl a)]
      by_cases m : S (168 + 9 * k.toNatClampNeg + 2) = S (168 + 9 * last.toNatClampNeg + 2)
      · rw [if_pos m, if_pos m]
        by_cases p : S (168 + 9 * k.toNatClampNeg + 3) ≤ S (168 + 9 * last.toNatClampNeg + 3)
        · rw [if_pos p, if_pos p]
        · rw [if_neg p, if_neg p]
          by_cases c : b < 0
          · rw [if_pos c, if_pos c]
          · rw [if_neg c, if_neg c, cj3 (hbj c)]
            by_cases d : S (168 + 9 * b.toNatClampNeg + 3) ≤ S (168 + 9 * k.toNatClampNeg + 3)
            · rw [if_pos d, if_pos d]
            · rw [if_neg d, if_neg d]
      · rw [if_neg m, if_neg m]
    · rw [if_neg a]
      by_cases w : S (168 + 9 * k.toNatClampNeg + 5) = 12
      · rw [if_pos w]
        by_cases q : S (168 + 9 * k.toNatClampNeg + 6) = pass
        · rw [if_pos q, if_pos (Or.inr ⟨w, q⟩)]
          by_cases m : S (168 + 9 * k.toNatClampNeg + 2) = S (168 + 9 * last.toNatClampNeg + 2)
          · rw [if_pos m, if_pos m]
            by_cases p : S (168 + 9 * k.toNatClampNeg + 3) ≤ S (168 + 9 * last.toNatClampNeg + 3)
            · rw [if_pos p, if_pos p]
            · rw [if_neg p, if_neg p]
              by_cases c : b < 0
              · rw [if_pos c, if_pos c]
              · rw [if_neg c, if_neg c, cj3 (hbj c)]
                by_cases d : S (168 + 9 * b.toNatClampNeg + 3) ≤ S (168 + 9 * k.toNatClampNeg + 3)
                · rw [if_pos d, if_pos d]
                · rw [if_neg d, if_neg d]
          · rw [if_neg m, if_neg m]
        · rw [if_neg q, if_neg (fun x => x.elim a (fun y => q y.2))]
      · rw [if_neg w, if_neg (fun x => x.elim a (fun y => w y.1))]
/-- off a pass a jar's pass is none -/
def PAS (S : Nat → Int32) (z : Int32) : Prop := ∀ k : Int32, 0 ≤ k.toInt → k.toInt < z.toInt → ¬ S (168 + 9 * k.toNatClampNeg + 5) = 12 → S (168 + 9 * k.toNatClampNeg + 6) = -1
set_option maxHeartbeats 400000 in
theorem cls_nb {F S : Nat → Int32} {node pass last z : Int32} (hF : JE F S) (hz : z.toInt ≤ 16) (hl : rJ last) (hp : PAS S z) (p0 : 0 ≤ pass.toInt) : ∀ (n N : Nat) (k b : Int32), (b = -1 ∨ (0 ≤ b.toInt ∧ b.toInt < z.toInt)) → 0 ≤ k.toInt → k.toInt + n = z.toInt → n < N → fl_mX0_nextBehind_12 z F last node pass (fun _ b => b) N k b = nbS S node pass last n k b := by
  intro n
  induction n with
  | zero =>
    intro N k b hb k0 kz hN
    obtain ⟨N, rfl⟩ : ∃ m, N = m + 1 := ⟨N - 1, by omega⟩
    have e : k = z := Int32.toInt_inj.mp (by omega)
    show fb_mX0_nextBehind_12 z F last node pass (fun _ b => b) (fl_mX0_nextBehind_12 z F last node pass (fun _ b => b) N) k b = _
    unfold fb_mX0_nextBehind_12
    rw [if_pos (show z ≤ k by rw [e]; exact Int32.le_refl _)]
    rfl
  | succ n ih =>
    intro N k b hb k0 kz hN
    obtain ⟨N, rfl⟩ : ∃ m, N = m + 1 := ⟨N - 1, by omega⟩
    have ek : (k + 1).toInt = k.toInt + 1 := zadd1 (by omega)
    have hk : rJ k := ⟨k0, by omega⟩
    have hbj : ¬ b = -1 → rJ b ∧ ¬ b < 0 := by
      intro q
      rcases hb with r | r
      · exact absurd r q
      · exact ⟨⟨r.1, by omega⟩, z_nlt0 r.1⟩
    have hb1 : b = -1 → b < 0 := fun q => by rw [q]; decide
    have go := ih N (k + 1) (nbC S node pass last k b) (nbC_in hb k0 (by omega)) (by omega) (by omega) (by omega)
    have hpk := hp k k0 (by omega)
    show fb_mX0_nextBehind_12 z F last node pass (fun _ b => b) (fl_mX0_nextBehind_12 z F last node pass (fun _ b => b) N) k b = nbS S node pass last n (k + 1) (nbC S node pass last k b)
    rw [← go]
    generalize fl_mX0_nextBehind_12 z F last node pass (fun _ b => b) N = K
    unfold fb_mX0_nextBehind_12 nbC
    rw [if_neg (show ¬ z ≤ k by rw [Int32.le_iff_toInt_le]; omega)]
    simp only [bnd, jg1 hF hk, jg2 hF hk, jg7 hF hk, jg8 hF hk, jg7 hF hl, jg8 hF hl]
    have inner : (if S (168 + 9 * k.toNatClampNeg + 2) = S (168 + 9 * last.toNatClampNeg + 2) then (if S (168 + 9 * k.toNatClampNeg + 3) ≤ S (168 + 9 * last.toNatClampNeg + 3) then (if b = -1 then K (k + 1) b else if fX6_get_144 9 F b 8 ≤ S (168 + 9 * k.toNatClampNeg + 3) then K (k + 1) b else K (k + 1) b) else (if b = -1 then K (k + 1) k else if fX6_get_144 9 F b 8 ≤ S (168 + 9 * k.toNatClampNeg + 3) then K (k + 1) b else K (k + 1) k)) else (if S (168 + 9 * k.toNatClampNeg + 3) ≤ S (168 + 9 * last.toNatClampNeg + 3) then (if b = -1 then K (k + 1) b else if fX6_get_144 9 F b 8 ≤ S (168 + 9 * k.toNatClampNeg + 3) then K (k + 1) b else K (k + 1) b) else (if b = -1 then K (k + 1) b else if fX6_get_144 9 F b 8 ≤ S (168 + 9 * k.toNatClampNeg + 3) then K (k + 1) b else K (k + 1) b))) = K (k + 1) (if S (168 + 9 * k.toNatClampNeg + 2) = S (168 + 9 * last.toNatClampNeg + 2) then (if S (168 + 9 * k.toNatClampNeg + 3) ≤ S (168 + 9 * last.toNatClampNeg + 3) then b else if b < 0 then k else if S (168 + 9 * b.toNatClampNeg + 3) ≤ S (168 + 9 * k.toNatClampNeg + 3) then b else k) else b) := by
      by_cases m : S (168 + 9 * k.toNatClampNeg + 2) = S (168 + 9 * last.toNatClampNeg + 2)
      · rw [if_pos m, if_pos m]
        by_cases p : S (168 + 9 * k.toNatClampNeg + 3) ≤ S (168 + 9 * last.toNatClampNeg + 3)
        · rw [if_pos p, if_pos p, ite_self, ite_self]
        · rw [if_neg p, if_neg p]
          by_cases c : b = -1
          · rw [if_pos c, if_pos (hb1 c)]
          · rw [if_neg c, if_neg (hbj c).2, jg8 hF (hbj c).1]
            by_cases d : S (168 + 9 * b.toNatClampNeg + 3) ≤ S (168 + 9 * k.toNatClampNeg + 3)
            · rw [if_pos d, if_pos d]
            · rw [if_neg d, if_neg d]
      · rw [if_neg m, if_neg m, ite_self, ite_self, ite_self]
    have none_ : (if S (168 + 9 * k.toNatClampNeg + 2) = S (168 + 9 * last.toNatClampNeg + 2) then (if S (168 + 9 * k.toNatClampNeg + 3) ≤ S (168 + 9 * last.toNatClampNeg + 3) then (if b = -1 then K (k + 1) b else if fX6_get_144 9 F b 8 ≤ S (168 + 9 * k.toNatClampNeg + 3) then K (k + 1) b else K (k + 1) b) else (if b = -1 then K (k + 1) b else if fX6_get_144 9 F b 8 ≤ S (168 + 9 * k.toNatClampNeg + 3) then K (k + 1) b else K (k + 1) b)) else (if S (168 + 9 * k.toNatClampNeg + 3) ≤ S (168 + 9 * last.toNatClampNeg + 3) then (if b = -1 then K (k + 1) b else if fX6_get_144 9 F b 8 ≤ S (168 + 9 * k.toNatClampNeg + 3) then K (k + 1) b else K (k + 1) b) else (if b = -1 then K (k + 1) b else if fX6_get_144 9 F b 8 ≤ S (168 + 9 * k.toNatClampNeg + 3) then K (k + 1) b else K (k + 1) b))) = K (k + 1) b := by simp only [ite_self]
    by_cases a : S (168 + 9 * k.toNatClampNeg + 5) = node
    · rw [if_pos a, if_pos (Or.inl a)]
      exact inner
    · rw [if_neg a]
      by_cases q : S (168 + 9 * k.toNatClampNeg + 6) = pass
      · have w : S (168 + 9 * k.toNatClampNeg + 5) = 12 := by
          by_cases w : S (168 + 9 * k.toNatClampNeg + 5) = 12
          · exact w
          · have := hpk w
            rw [q] at this
            rw [this] at p0
            exact absurd p0 (by decide)
        rw [if_pos q, if_pos (Or.inr ⟨w, q⟩)]
        exact inner
      · rw [if_neg q, if_neg (show ¬ (S (168 + 9 * k.toNatClampNeg + 5) = node ∨ (S (168 + 9 * k.toNatClampNeg + 5) = 12 ∧ S (168 + 9 * k.toNatClampNeg + 6) = pass)) from fun x => x.elim a (fun y => q y.2))]
        exact none_
/-- jars that burst one behind the other -/
def bsS (ch node pass z : Int32) : Nat → Int32 → (Nat → Int32) → (Nat → Int32)
  | 0, _, S => S
  | n + 1, last, S => if nbS S node pass last z.toNatClampNeg 0 (-1) < 0 then goS S last else if ch ≤ S (168 + 9 * (nbS S node pass last z.toNatClampNeg 0 (-1)).toNatClampNeg + 0) then goS S last else bsS ch node pass z n (nbS S node pass last z.toNatClampNeg 0 (-1)) (goS S last)
def PLC (S : Nat → Int32) : Prop := ∀ j : Nat, j < 16 → 0 ≤ (S (168 + 9 * j + 3)).toInt ∧ (S (168 + 9 * j + 3)).toInt ≤ 15
set_option maxHeartbeats 400000 in
theorem PLC_go {S : Nat → Int32} {j : Int32} (h : PLC S) : PLC (goS S j) := fun i hi => by rw [goS_at (by omega)]; exact h i hi
set_option maxHeartbeats 400000 in
theorem PAS_go {S : Nat → Int32} {z last : Int32} (h : PAS S z) : PAS (goS S last) z := by
  intro k k0 kz hk
  by_cases e : k.toNatClampNeg = last.toNatClampNeg
  · rw [e]
    unfold goS
    rw [upd_ne (by omega), upd_ne (by omega), pk_us]
  · rw [goS_at (i := 168 + 9 * k.toNatClampNeg + 5) (by omega)] at hk
    rw [goS_at (i := 168 + 9 * k.toNatClampNeg + 6) (by omega)]
    exact h k k0 kz hk
set_option maxHeartbeats 400000 in
theorem nbC_gt {S : Nat → Int32} {node pass last k b : Int32} (h : b < 0 ∨ ¬ S (168 + 9 * b.toNatClampNeg + 3) ≤ S (168 + 9 * last.toNatClampNeg + 3)) : nbC S node pass last k b < 0 ∨ ¬ S (168 + 9 * (nbC S node pass last k b).toNatClampNeg + 3) ≤ S (168 + 9 * last.toNatClampNeg + 3) := by
  unfold nbC
  repeat' split
  all_goals first | exact h | (rename_i p _; exact Or.inr p) | (rename_i p _ _; exact Or.inr p)
set_option maxHeartbeats 400000 in
theorem nbS_gt {S : Nat → Int32} {node pass last : Int32} : ∀ (n : Nat) (k b : Int32), (b < 0 ∨ ¬ S (168 + 9 * b.toNatClampNeg + 3) ≤ S (168 + 9 * last.toNatClampNeg + 3)) → nbS S node pass last n k b < 0 ∨ ¬ S (168 + 9 * (nbS S node pass last n k b).toNatClampNeg + 3) ≤ S (168 + 9 * last.toNatClampNeg + 3) := by
  intro n
  induction n with
  | zero => intro k b h; exact h
  | succ n ih => intro k b h; exact ih (k + 1) _ (nbC_gt h)
set_option maxHeartbeats 400000 in
/-- what the search for the next jar finds -/
theorem nb_all {S : Nat → Int32} {node pass last z : Int32} (hz : z.toInt ≤ 16) (z0 : 0 ≤ z.toInt) : nbS S node pass last z.toNatClampNeg 0 (-1) = -1 ∨ (rJ (nbS S node pass last z.toNatClampNeg 0 (-1)) ∧ (nbS S node pass last z.toNatClampNeg 0 (-1)).toInt < z.toInt ∧ (S (168 + 9 * last.toNatClampNeg + 3)).toInt < (S (168 + 9 * (nbS S node pass last z.toNatClampNeg 0 (-1)).toNatClampNeg + 3)).toInt) := by
  have e := tn_eq z0
  have h1 := nbS_in (S := S) (node := node) (pass := pass) (last := last) hz z.toNatClampNeg 0 (-1) (Or.inl rfl) (by decide) (by rw [z_i0]; omega)
  have h2 := nbS_gt (S := S) (node := node) (pass := pass) (last := last) z.toNatClampNeg 0 (-1) (Or.inl (by decide))
  rcases h1 with h1 | ⟨a, b⟩
  · exact Or.inl h1
  · rcases h2 with h2 | h2
    · exact absurd h2 (z_nlt0 a)
    · rw [Int32.le_iff_toInt_le] at h2
      exact Or.inr ⟨⟨a, by omega⟩, b, by omega⟩
set_option maxHeartbeats 400000 in
theorem ref_bs {cf : Nat → Int32} {z p0 node pass ch : Int32} (hc : cf p0.toNatClampNeg = ch) (hz : z.toInt ≤ 16) (z0 : 0 ≤ z.toInt) (hn : ¬ node = 13) : ∀ (n N : Nat) (last : Int32) (S : Nat → Int32), rJ last → PLC S → 16 - (S (168 + 9 * last.toNatClampNeg + 3)).toInt ≤ n → n < N → fl_mX11_bursts_3 cf z p0 node pass (fun g _ => g) N S last = bsS ch node pass z n last S := by
  intro n
  induction n with
  | zero =>
    intro N last S hl hP hn0 hN
    have l1 := tn_eq hl.1
    have := (hP last.toNatClampNeg (by have := hl.2; omega)).2
    omega
  | succ n ih =>
    intro N last S hl hP hn0 hN
    obtain ⟨N, rfl⟩ : ∃ m, N = m + 1 + 1 := ⟨N - 2, by omega⟩
    have fin1 : ∀ g : Nat → Int32, fl_mX11_bursts_3 cf z p0 node pass (fun g _ => g) (N + 1) g (-1) = g := by
      intro g
      show fb_mX11_bursts_3 cf z p0 node pass (fun g _ => g) (fl_mX11_bursts_3 cf z p0 node pass (fun g _ => g) N) g (-1) = g
      unfold fb_mX11_bursts_3
      rw [if_pos (by decide)]
    have e := tn_eq z0
    show fb_mX11_bursts_3 cf z p0 node pass (fun g _ => g) (fl_mX11_bursts_3 cf z p0 node pass (fun g _ => g) (N + 1)) S last = _
    unfold fb_mX11_bursts_3 bsS
    rw [if_neg (z_nlt0 hl.1)]
    simp only [bnd, ref_go hl]
    rw [ref_nb hz hl z.toNatClampNeg _ 0 (-1) (Or.inl rfl) (by decide) (by rw [z_i0]; omega) (by rw [z_i0]; omega)]
    rw [nbS_go (z := z) hl hn hz z.toNatClampNeg 0 (-1) (Or.inl rfl) (by decide) (by rw [z_i0]; omega)]
    have hb := nb_all (S := S) (node := node) (pass := pass) (last := last) hz z0
    generalize nbS S node pass last z.toNatClampNeg 0 (-1) = b at hb ⊢
    rcases hb with rfl | ⟨h1, h2, h3⟩
    · rw [if_pos (by decide), if_pos (by decide)]
      exact fin1 _
    · rw [if_neg (z_nlt0 h1.1), if_neg (z_nlt0 h1.1), cj0 h1, goS_at (i := 168 + 9 * b.toNatClampNeg + 0) (by
        by_cases q : b.toNatClampNeg = last.toNatClampNeg
        · rw [q]; omega
        · omega), hc]
      by_cases c : ch ≤ S (168 + 9 * b.toNatClampNeg + 0)
      · rw [if_pos c, if_pos c]
        exact fin1 _
      · rw [if_neg c, if_neg c]
        exact ih (N + 1) b (goS S last) h1 (PLC_go hP) (by rw [goS_at (i := 168 + 9 * b.toNatClampNeg + 3) (by omega)]; omega) (by omega)
set_option maxHeartbeats 400000 in
theorem cls_bs {z node pass ch : Int32} (hz : z.toInt ≤ 16) (z0 : 0 ≤ z.toInt) (hn : ¬ node = 13) (p0 : 0 ≤ pass.toInt) : ∀ (n N : Nat) (i last : Int32) (F S : Nat → Int32), JE F S → rJ last → last.toInt < z.toInt → PLC S → PAS S z → 16 - (S (168 + 9 * last.toNatClampNeg + 3)).toInt ≤ n → n < N → 0 ≤ i.toInt → i.toInt ≤ (S (168 + 9 * last.toNatClampNeg + 3)).toInt → JE (fl_mX0_burstFrom_6 z ch node pass (fun g _ _ _ => g) (fun g _ _ => g) N F i last) (bsS ch node pass z n last S) := by
  intro n
  induction n with
  | zero =>
    intro N i last F S hF hl hlz hP hA hn0 hN i0 hi
    have l1 := tn_eq hl.1
    have := (hP last.toNatClampNeg (by have := hl.2; omega)).2
    omega
  | succ n ih =>
    intro N i last F S hF hl hlz hP hA hn0 hN i0 hi
    obtain ⟨N, rfl⟩ : ∃ m, N = m + 1 := ⟨N - 1, by omega⟩
    have l1 := tn_eq hl.1
    have pl := (hP last.toNatClampNeg (by have := hl.2; omega)).2
    have e := tn_eq z0
    have ei : (i + 1).toInt = i.toInt + 1 := zadd1 (by omega)
    show JE (fb_mX0_burstFrom_6 z ch node pass (fun g _ _ _ => g) (fun g _ _ => g) (fl_mX0_burstFrom_6 z ch node pass (fun g _ _ _ => g) (fun g _ _ => g) N) F i last) _
    unfold fb_mX0_burstFrom_6 bsS fX0_nextBehind
    rw [if_neg (show ¬ (16 : Int32) ≤ i by rw [Int32.le_iff_toInt_le, show (16 : Int32).toInt = 16 from by decide]; omega)]
    simp only [bnd]
    rw [cls_nb hF hz hl hA p0 z.toNatClampNeg _ 0 (-1) (Or.inl rfl) (by decide) (by rw [z_i0]; omega) (by rw [z_i0]; omega)]
    have hg := cls_go hF hl
    have hb := nb_all (S := S) (node := node) (pass := pass) (last := last) hz z0
    generalize nbS S node pass last z.toNatClampNeg 0 (-1) = b at hb ⊢
    rcases hb with rfl | ⟨h1, h2, h3⟩
    · rw [if_pos rfl, if_pos (by decide)]
      exact hg
    · have hb1 : ¬ b = -1 := fun q => by have := h1.1; rw [q] at this; exact absurd this (by decide)
      have g0 : goS S last (168 + 9 * b.toNatClampNeg + 0) = S (168 + 9 * b.toNatClampNeg + 0) := goS_at (by
        by_cases q : b.toNatClampNeg = last.toNatClampNeg
        · rw [q]; omega
        · omega)
      rw [if_neg hb1, if_neg (z_nlt0 h1.1), jg5 hg h1, g0]
      by_cases c : ch ≤ S (168 + 9 * b.toNatClampNeg + 0)
      · rw [if_pos c, if_neg (show ¬ S (168 + 9 * b.toNatClampNeg + 0) < ch by rw [Int32.le_iff_toInt_le] at c; rw [Int32.lt_iff_toInt_lt]; omega)]
        exact hg
      · rw [if_neg c, if_pos (show S (168 + 9 * b.toNatClampNeg + 0) < ch by rw [Int32.le_iff_toInt_le] at c; rw [Int32.lt_iff_toInt_lt]; omega)]
        have g3 : goS S last (168 + 9 * b.toNatClampNeg + 3) = S (168 + 9 * b.toNatClampNeg + 3) := goS_at (by omega)
        exact ih N (i + 1) b (fX9_lose F last) (goS S last) hg h1 h2 (PLC_go hP) (PAS_go hA) (by rw [g3]; omega) (by omega) (by omega) (by rw [g3]; omega)
/-- a SHARE, a STORE that takes -/
def shrw (x : Int64) (d : Int32) : Int32 := d * fX10_held x 100 / 100
set_option maxHeartbeats 400000 in
theorem held_in {x : Int64} {m : Int32} (hm : 0 ≤ m.toInt) : 0 ≤ (fX10_held x m).toInt ∧ (fX10_held x m).toInt ≤ m.toInt := by
  unfold fX10_held
  by_cases a : 0 ≤ lg_cmp x 0
  · rw [if_pos a]
    have h1 := (lg_cmp_ge x 0).mp a
    rw [Int64.le_iff_toInt_le] at h1
    have z0 : (0 : Int64).toInt = 0 := by decide
    by_cases b : lg_cmp x m.toInt64 ≤ 0
    · rw [if_pos b]
      have h2 := (lg_cmp_le x m.toInt64).mp b
      rw [Int64.le_iff_toInt_le, Int32.toInt_toInt64] at h2
      have hm2 := m.toInt_lt
      show 0 ≤ x.toInt32.toInt ∧ x.toInt32.toInt ≤ m.toInt
      rw [t32 (by omega) (by omega)]
      omega
    · rw [if_neg b]
      exact ⟨hm, Int.le_refl _⟩
  · rw [if_neg a]
    exact ⟨by decide, hm⟩
set_option maxHeartbeats 400000 in
theorem bnd_heldL {x : Int64} {m : Int32} (hm : 0 ≤ m.toInt) : fX11_bounded x 0 m.toInt64 = (fX10_held x m).toInt64 := by
  unfold fX11_bounded fX10_held
  by_cases a : 0 ≤ lg_cmp x 0
  · rw [if_pos a, if_pos a]
    have h1 := (lg_cmp_ge x 0).mp a
    rw [Int64.le_iff_toInt_le] at h1
    have z0 : (0 : Int64).toInt = 0 := by decide
    by_cases b : lg_cmp x m.toInt64 ≤ 0
    · have h2 := (lg_cmp_le x m.toInt64).mp b
      rw [Int64.le_iff_toInt_le, Int32.toInt_toInt64] at h2
      have := m.toInt_lt
      rw [if_pos b, if_pos b]
      apply Int64.toInt_inj.mp
      show x.toInt = (x.toInt32).toInt64.toInt
      rw [Int32.toInt_toInt64]
      exact (t32 (by omega) (by omega)).symm
    · rw [if_neg b, if_neg b]
  · rw [if_neg a, if_neg a]
    rfl
set_option maxHeartbeats 400000 in
theorem shr_x {x : Int64} {d : Int32} (d0 : 0 ≤ d.toInt) (d9 : d.toInt ≤ 99999) : ((d.toInt64 * fX11_bounded x 0 100) / 100).toInt32 = shrw x d := by
  have hb : fX11_bounded x 0 100 = (fX10_held x 100).toInt64 := by
    have z := bnd_heldL (x := x) (m := 100) (by decide)
    rw [show (100 : Int32).toInt64 = (100 : Int64) from by decide] at z
    exact z
  have hh := held_in (x := x) (m := 100) (by decide)
  rw [show (100 : Int32).toInt = 100 from by decide] at hh
  rw [hb]
  unfold shrw
  generalize fX10_held x 100 = v at hh ⊢
  have b1 : d.toInt * v.toInt ≤ 99999 * 100 := Int.mul_le_mul d9 hh.2 hh.1 (by omega)
  have b0 : 0 ≤ d.toInt * v.toInt := Int.mul_nonneg d0 hh.1
  have k1 : (100 : Int64).toInt = 100 := by decide
  have k2 : (100 : Int32).toInt = 100 := by decide
  have e1 : (d.toInt64 * v.toInt64).toInt = d.toInt * v.toInt := by
    rw [Int64.toInt_mul, Int32.toInt_toInt64, Int32.toInt_toInt64]
    exact Int.bmod_eq_of_le (by omega) (by omega)
  have e2 : (d.toInt64 * v.toInt64 / 100).toInt = d.toInt * v.toInt / 100 := by
    rw [Int64.toInt_div_of_ne_right _ _ (by decide), k1, e1, Int.tdiv_eq_ediv_of_nonneg b0]
  have e3 : (d * v).toInt = d.toInt * v.toInt := zmul (by omega) (by omega)
  apply Int32.toInt_inj.mp
  rw [t32 (by rw [e2]; omega) (by rw [e2]; omega), e2, Int32.toInt_div_of_ne_right _ _ (by decide), k2, e3, Int.tdiv_eq_ediv_of_nonneg b0]
set_option maxHeartbeats 400000 in
theorem shr_in {x : Int64} {d : Int32} (d0 : 0 ≤ d.toInt) (d9 : d.toInt ≤ 99999) : 0 ≤ (shrw x d).toInt ∧ (shrw x d).toInt ≤ d.toInt := by
  have hh := held_in (x := x) (m := 100) (by decide)
  rw [show (100 : Int32).toInt = 100 from by decide] at hh
  unfold shrw
  generalize fX10_held x 100 = v at hh ⊢
  have b1 : d.toInt * v.toInt ≤ d.toInt * 100 := Int.mul_le_mul_of_nonneg_left hh.2 d0
  have b0 : 0 ≤ d.toInt * v.toInt := Int.mul_nonneg d0 hh.1
  have e3 : (d * v).toInt = d.toInt * v.toInt := zmul (by omega) (by omega)
  rw [Int32.toInt_div_of_ne_right _ _ (by decide), show (100 : Int32).toInt = 100 from by decide, e3, Int.tdiv_eq_ediv_of_nonneg b0]
  omega
def brS (s d : Int32) : Int32 := if 999999 - s < d then 999999 - s else d
set_option maxHeartbeats 400000 in
theorem ref_sto {S : Nat → Int32} {z d : Int32} (hz : rN z) (s0 : 0 ≤ (S (20 + 4 * z.toNatClampNeg + 3)).toInt) (s9 : (S (20 + 4 * z.toNatClampNeg + 3)).toInt ≤ 999999) (d0 : 0 ≤ d.toInt) (d9 : d.toInt ≤ 99999) : fX11_stores S z d = (upd S (20 + 4 * z.toNatClampNeg + 3) (S (20 + 4 * z.toNatClampNeg + 3) + brS (S (20 + 4 * z.toNatClampNeg + 3)) d), brS (S (20 + 4 * z.toNatClampNeg + 3)) d) := by
  have g3 := c_nd (q := 3) (c := 3) hz (by decide) (by decide)
  have k9 : (999999 : Int32).toInt = 999999 := by decide
  unfold fX11_stores brS
  simp only [bnd, g3]
  generalize S (20 + 4 * z.toNatClampNeg + 3) = s at s0 s9 ⊢
  have e1 : (s + d).toInt = s.toInt + d.toInt := zadd (by omega) (by omega)
  have e2 : (999999 - s).toInt = 999999 - s.toInt := by rw [zsub (by omega) (by omega), k9]
  by_cases c : s + d ≤ 999999
  · rw [if_pos c, if_neg (show ¬ 999999 - s < d by rw [Int32.le_iff_toInt_le, e1, k9] at c; rw [Int32.lt_iff_toInt_lt, e2]; omega)]
  · rw [if_neg c, if_pos (show 999999 - s < d by rw [Int32.le_iff_toInt_le, e1, k9] at c; rw [Int32.lt_iff_toInt_lt, e2]; omega)]
set_option maxHeartbeats 400000 in
theorem cls_bring {F S : Nat → Int32} {z d : Int32} (h : NE F S) (hz : rN z) : NE (fX9_bring F z d).1 (upd S (20 + 4 * z.toNatClampNeg + 3) (S (20 + 4 * z.toNatClampNeg + 3) + brS (S (20 + 4 * z.toNatClampNeg + 3)) d)) ∧ (fX9_bring F z d).2 = brS (S (20 + 4 * z.toNatClampNeg + 3)) d := by
  have g := nget (q := 3) (c := 3) h hz (by decide) (by decide)
  unfold fX9_bring
  simp only [bnd, g]
  exact ⟨nput (q := 3) (c := 3) h hz (by decide) (by decide), rfl⟩
