set_option maxHeartbeats 400000 in
theorem ref_way65 {S sg cl cs : Nat → Int32} {law mo fe sa : Int32} {L : Cls} {E : (Nat → Int64) → (Nat → Int64) → Int32 → Int32 → Int32 → Int32 → Int32 → (Int32 × Int32 × Int32 × Int32 × Int32 × Int32 × Int32 × (Nat → Int64) × (Nat → Int64) × Int32)} (g : GD S) (x : XT S) (h8 : ¬ S 8 < 0) (hL : LWR sg cl cs law L) : ∀ (n N : Nat) (v d h i : Int32) (g1 g2 : Nat → Int64), 0 ≤ d.toInt → d.toInt ≤ 99999 → 0 ≤ i.toInt → i.toInt + n = (S 9).toInt → n < N → ∃ v' g1' g2' n', fl_mX11_warmer_65 sg cl cs S (S 6) (S 9) law mo fe sa E N g1 g2 v (wen S i.toNatClampNeg) d h i = E g1' g2' v' n' (wyP 1 S L fe sa mo 0 n i.toNatClampNeg d h).1 (wyP 1 S L fe sa mo 0 n i.toNatClampNeg d h).2 (S 9) := by
  have b9 := GD_9 g
  intro n
  induction n with
  | zero =>
    intro N v d h i g1 g2 d0 d9 i0 iz hN
    obtain ⟨N, rfl⟩ : ∃ m, N = m + 1 := ⟨N - 1, by omega⟩
    have e : i = S 9 := Int32.toInt_inj.mp (by omega)
    refine ⟨v, g1, g2, wen S i.toNatClampNeg, ?_⟩
    show fb_mX11_warmer_65 sg cl cs S (S 6) (S 9) law mo fe sa E (fl_mX11_warmer_65 sg cl cs S (S 6) (S 9) law mo fe sa E N) g1 g2 v (wen S i.toNatClampNeg) d h i = _
    unfold fb_mX11_warmer_65
    rw [wyP_0, if_pos (by rw [e]; exact Int32.le_refl _), e]
  | succ n ih =>
    intro N v d h i g1 g2 d0 d9 i0 iz hN
    obtain ⟨N, rfl⟩ : ∃ m, N = m + 1 := ⟨N - 1, by omega⟩
    have ti := tn_eq i0
    have ei : (i + 1).toInt = i.toInt + 1 := zadd1 (by omega)
    have ht1 : (i + 1).toNatClampNeg = i.toNatClampNeg + 1 := by show (i + 1).toInt.toNat = i.toInt.toNat + 1; omega
    obtain ⟨r1, r2, r3, r4⟩ := way_in (k := i.toNatClampNeg) g x h8 (by omega)
    obtain ⟨v1, k1, k2, q⟩ := ref_travels (sk := g1) (wd := g2) (top := v) (mo := mo) (fe := fe) (sa := sa) (h := h) hL r1 r3 r4 d0 d9
    have a := crD_in (nd := 1) (S := S) (L := L) (pass := S (10 + i.toNatClampNeg)) (to := oth S (S (10 + i.toNatClampNeg)) (wen S i.toNatClampNeg)) (fe := fe) (sa := sa) (mo := mo) (h := h) d0 d9
    obtain ⟨v', g1', g2', n', r⟩ := ih N v1 (crD 1 S L (S (10 + i.toNatClampNeg)) (oth S (S (10 + i.toNatClampNeg)) (wen S i.toNatClampNeg)) fe sa mo d h) (crH S (S (10 + i.toNatClampNeg)) h) (i + 1) k1 k2 a.1 (by omega) (by omega) (by omega) (by omega)
    rw [ht1] at r
    refine ⟨v', g1', g2', n', ?_⟩
    show fb_mX11_warmer_65 sg cl cs S (S 6) (S 9) law mo fe sa E (fl_mX11_warmer_65 sg cl cs S (S 6) (S 9) law mo fe sa E N) g1 g2 v (wen S i.toNatClampNeg) d h i = _
    unfold fb_mX11_warmer_65
    rw [wyP_s, if_neg (show ¬ d < 0 from z_nlt0 d0), if_neg (show ¬ S 9 ≤ i by rw [Int32.le_iff_toInt_le]; omega), bndv (congrArg S (ten i0 (by omega))), bndv q, bnd_eq, bnd_eq, bnd_eq, bnd_eq, bnd_eq, bnd_eq, bnd_eq]
    exact r
/-- two loads that differ below nd alone -/
def SIMd (nd a b : Int32) : Prop := a = b ∨ (a.toInt < nd.toInt ∧ b.toInt < nd.toInt)
set_option maxHeartbeats 400000 in
theorem sim_g {nd a b a' b' : Int32} (h : SIMd nd a b) (hl : a.toInt < nd.toInt → a' = a) (he : a = b → ¬ a.toInt < nd.toInt → a' = b') (hb : b'.toInt ≤ b.toInt) : SIMd nd a' b' := by
  rcases h with e | ⟨h1, h2⟩
  · by_cases c : a.toInt < nd.toInt
    · refine Or.inr ⟨?_, ?_⟩
      · rw [hl c]; exact c
      · rw [e] at c; omega
    · exact Or.inl (he e c)
  · refine Or.inr ⟨?_, ?_⟩
    · rw [hl h1]; exact h1
    · omega
set_option maxHeartbeats 400000 in
theorem lt_t {a b : Int32} : a < b ↔ a.toInt < b.toInt := Int32.lt_iff_toInt_lt
set_option maxHeartbeats 400000 in
theorem i1 : (1 : Int32).toInt = 1 := by decide
set_option maxHeartbeats 400000 in
theorem sim_hrN {nd : Int32} {S : Nat → Int32} {L : Cls} {pass to fe sa mo : Int32} (n1 : 1 ≤ nd.toInt) : ∀ (n : Nat) (g a b h : Int32), 0 ≤ b.toInt → b.toInt ≤ 99999 → SIMd nd a b → SIMd nd (hrN nd S L pass to fe sa mo n g a h) (hrN 1 S L pass to fe sa mo n g b h)
  | 0, _, _, _, _, _, _, s => s
  | n + 1, g, a, b, h, b0, b9, s => by
    have m := mlt_in (W := pwd S h pass to g b fe sa) (L := L) (mo := mo) (nd := 1) b0 b9
    refine sim_hrN n1 n (g + 1) _ _ (h + 1) m.1 (by omega) (sim_g s (fun c => if_pos (lt_t.mpr c)) (fun e c => ?_) m.2)
    subst e
    rw [if_neg (fun q => c (lt_t.mp q)), if_neg (fun q => by rw [lt_t, i1] at q; omega)]
set_option maxHeartbeats 400000 in
theorem sim_crD {nd : Int32} {S : Nat → Int32} {L : Cls} {pass to fe sa mo a b h : Int32} (n1 : 1 ≤ nd.toInt) (b0 : 0 ≤ b.toInt) (b9 : b.toInt ≤ 99999) (s : SIMd nd a b) : SIMd nd (crD nd S L pass to fe sa mo a h) (crD 1 S L pass to fe sa mo b h) := by
  have hs2 := sim_hrN (S := S) (L := L) (pass := pass) (to := to) (fe := fe) (sa := sa) (mo := mo) n1 (S (68 + 5 * pass.toNatClampNeg + 2)).toNatClampNeg 0 a b h b0 b9 s
  have r := hrN_in (nd := 1) (S := S) (L := L) (pass := pass) (to := to) (fe := fe) (sa := sa) (mo := mo) (S (68 + 5 * pass.toNatClampNeg + 2)).toNatClampNeg 0 b h b0 b9
  unfold crD crE
  generalize hrN nd S L pass to fe sa mo (S (68 + 5 * pass.toNatClampNeg + 2)).toNatClampNeg 0 a h = x at hs2 ⊢
  generalize hrN 1 S L pass to fe sa mo (S (68 + 5 * pass.toNatClampNeg + 2)).toNatClampNeg 0 b h = y at hs2 r ⊢
  generalize hrH (S (68 + 5 * pass.toNatClampNeg + 2)).toNatClampNeg h = h'
  refine sim_g hs2 (fun c => if_pos (lt_t.mpr c)) (fun e c => ?_) ?_
  · subst e
    rw [if_neg (fun q => c (lt_t.mp q)), if_neg (fun q => by rw [lt_t, i1] at q; omega)]
  · split
    · exact Int.le_refl _
    · have z := shr_in (x := lsm (nwd S h' to y fe sa) 2 L) r.1 (by omega)
      exact (sub_in r.1 (by omega) z.1 z.2).2
set_option maxHeartbeats 400000 in
theorem sim_way {S : Nat → Int32} {L : Cls} {fe sa mo lst : Int32} (l0 : 0 ≤ lst.toInt) : ∀ (n k : Nat) (a b h : Int32), 0 ≤ a.toInt → 0 ≤ b.toInt → b.toInt ≤ 99999 → a.toInt ≤ 99999 → SIMd lst a b → ((wyP (if 1 < lst then lst else 1) S L fe sa mo lst n k a h).1 < lst ↔ (wyP 1 S L fe sa mo 0 n k b h).1 < lst)
  | 0, k, a, b, h, a0, b0, b9, a9, s => by
    rw [wyP_0, wyP_0, lt_t, lt_t]
    rcases s with e | ⟨h1, h2⟩
    · rw [e]
    · exact ⟨fun _ => h2, fun _ => h1⟩
  | n + 1, k, a, b, h, a0, b0, b9, a9, s => by
    by_cases c : a < lst
    · have hb : b.toInt < lst.toInt := by
        rcases s with e | ⟨h1, h2⟩
        · rw [← e]; exact lt_t.mp c
        · exact h2
      have w := wyP_in (nd := 1) (S := S) (L := L) (fe := fe) (sa := sa) (mo := mo) (lst := 0) (n + 1) k b h b0 b9
      rw [wyP_s, if_pos c]
      exact ⟨fun _ => lt_t.mpr (by omega), fun _ => c⟩
    · have e : a = b := by
        rcases s with e | ⟨h1, h2⟩
        · exact e
        · exact absurd (lt_t.mpr h1) c
      subst e
      rw [wyP_s, wyP_s, if_neg c, if_neg (z_nlt0 b0)]
      have n1 : 1 ≤ (if 1 < lst then lst else 1 : Int32).toInt := by
        split
        · rename_i q; rw [lt_t, i1] at q; omega
        · rw [i1]; omega
      have z1 := crD_in (nd := if 1 < lst then lst else 1) (S := S) (L := L) (pass := S (10 + k)) (to := oth S (S (10 + k)) (wen S k)) (fe := fe) (sa := sa) (mo := mo) (h := h) a0 a9
      have z2 := crD_in (nd := 1) (S := S) (L := L) (pass := S (10 + k)) (to := oth S (S (10 + k)) (wen S k)) (fe := fe) (sa := sa) (mo := mo) (h := h) b0 b9
      refine sim_way l0 n (k + 1) _ _ _ z1.1 z2.1 (by omega) (by omega) ?_
      have q := sim_crD (nd := if 1 < lst then lst else 1) (S := S) (L := L) (pass := S (10 + k)) (to := oth S (S (10 + k)) (wen S k)) (fe := fe) (sa := sa) (mo := mo) (h := h) n1 b0 b9 (Or.inl rfl)
      rcases q with q | ⟨q1, q2⟩
      · exact Or.inl q
      · by_cases y : 1 < lst
        · rw [if_pos y] at q1 q2 ⊢
          exact Or.inr ⟨q1, q2⟩
        · rw [if_neg y] at q1 q2 z1 ⊢
          rw [i1] at q1 q2
          exact Or.inl (Int32.toInt_inj.mp (by omega))
/-- WARMER: what is answered -/
def wmS (S : Nat → Int32) (L : Cls) (h d fe sa lst : Int32) : Nat → Int32 → Int32
  | 0, _ => -2
  | n + 1, w => if (wyP 1 S L fe sa w 0 (S 9).toNatClampNeg 0 d h).1 < lst then wmS S L h d fe sa lst n (w + (-1)) else w
def wmA (S : Nat → Int32) (L : Cls) (h d fe sa lst : Int32) : Int32 := if fX10_isLoad h d fe sa = 0 then -1 else if wi lst 99999 = 0 then -1 else if S 8 = -1 then -1 else wmS S L h d fe sa lst 10000 9999
set_option maxHeartbeats 400000 in
theorem cls_wm {S nF pF wF so s1 s2 t1 t2 yj yo y1 y2 y3 y4 y5 : Nat → Int32} {zp zw ws z yc h d fe sa lst : Int32} {L : Cls} {E118 E127 : Int32 → Int32 → Int32 → Int32 → Int32 → Int32 → Int32 → Int32 → Int32 → (Nat → Int32) → Int32 → (Int32 × Int32 × Int32 × Int32 × Int32 × Int32 × Int32 × Int32 × Int32 × (Nat → Int32) × Int32)} (k1 : ∀ a0 a1 a2 a3 a4 a5 a6 a7 a8 c w, (E118 a0 a1 a2 a3 a4 a5 a6 a7 a8 c w).2.2.2.2.2.2.2.2.2.2 = w) (k2 : ∀ a0 a1 a2 a3 a4 a5 a6 a7 a8 c w, (E127 a0 a1 a2 a3 a4 a5 a6 a7 a8 c w).2.2.2.2.2.2.2.2.2.2 = -2) (g : GD S) (x : XT S) (h8 : ¬ S 8 < 0) (hL : LWX so s1 s2 t1 t2 yj yo y1 y2 y3 y4 y5 yc L) (hn : NE nF S) (hp : PE pF S) (hw : WE wF S) (ezp : zp = S 1) (ezw : zw = S 9) (ews : ws = S 8) (hz : z = S 6) (d0 : 0 ≤ d.toInt) (d9 : d.toInt ≤ 99999) (l0 : 0 ≤ lst.toInt) : ∀ (n N : Nat) (a0 a1 a2 a3 a4 a5 a6 a7 a8 w : Int32) (c : Nat → Int32), w.toInt + 1 = n → n ≤ 10000 → n < N → (fl_mX10_warmer_yes_64 nF zp pF zw wF ws z so s1 s2 t1 t2 yj yo y1 y2 y3 y4 y5 yc h d fe sa lst E118 E127 N a0 a1 a2 a3 a4 a5 a6 a7 a8 c w).2.2.2.2.2.2.2.2.2.2 = wmS S L h d fe sa lst n w := by
  intro n
  induction n with
  | zero =>
    intro N a0 a1 a2 a3 a4 a5 a6 a7 a8 w c hw1 h1 hN
    obtain ⟨N, rfl⟩ : ∃ m, N = m + 1 := ⟨N - 1, by omega⟩
    show (fb_mX10_warmer_yes_64 nF zp pF zw wF ws z so s1 s2 t1 t2 yj yo y1 y2 y3 y4 y5 yc h d fe sa lst E118 E127 (fl_mX10_warmer_yes_64 nF zp pF zw wF ws z so s1 s2 t1 t2 yj yo y1 y2 y3 y4 y5 yc h d fe sa lst E118 E127 N) a0 a1 a2 a3 a4 a5 a6 a7 a8 c w).2.2.2.2.2.2.2.2.2.2 = _
    unfold fb_mX10_warmer_yes_64
    rw [if_pos (show w < 0 by rw [lt_t, z_i0]; omega), k2]
    rfl
  | succ n ih =>
    intro N a0 a1 a2 a3 a4 a5 a6 a7 a8 w c hw1 h1 hN
    obtain ⟨N, rfl⟩ : ∃ m, N = m + 1 := ⟨N - 1, by omega⟩
    have e1 : (w + (-1)).toInt = w.toInt - 1 := zsub1 (by omega)
    show (fb_mX10_warmer_yes_64 nF zp pF zw wF ws z so s1 s2 t1 t2 yj yo y1 y2 y3 y4 y5 yc h d fe sa lst E118 E127 (fl_mX10_warmer_yes_64 nF zp pF zw wF ws z so s1 s2 t1 t2 yj yo y1 y2 y3 y4 y5 yc h d fe sa lst E118 E127 N) a0 a1 a2 a3 a4 a5 a6 a7 a8 c w).2.2.2.2.2.2.2.2.2.2 = _
    unfold fb_mX10_warmer_yes_64
    obtain ⟨q1, q2, q3, c', q⟩ := cls_follow (cF := c) (nd := if 1 < lst then lst else 1) (mo := w) (fe := fe) (sa := sa) (lst := lst) (d := d) (h := h) (b1 := a6) (b2 := a7) (b3 := a8) g x h8 hL hn hp hw ezp ezw ews hz
    rw [if_neg (show ¬ w < 0 by rw [lt_t, z_i0]; omega), bnd_eq, bndv q, bnd_eq, bnd_eq, bnd_eq, bnd_eq, bnd_eq, bnd_eq, bnd_eq]
    have s := sim_way (S := S) (L := L) (fe := fe) (sa := sa) (mo := w) l0 (S 9).toNatClampNeg 0 d d h d0 d0 d9 d9 (Or.inl rfl)
    show _ = if (wyP 1 S L fe sa w 0 (S 9).toNatClampNeg 0 d h).1 < lst then wmS S L h d fe sa lst n (w + (-1)) else w
    by_cases y : (wyP 1 S L fe sa w 0 (S 9).toNatClampNeg 0 d h).1 < lst
    · rw [if_pos (s.mpr y), if_pos rfl, if_pos y, bnd_eq]
      exact ih N _ _ _ _ _ _ _ _ _ _ _ (by omega) (by omega) (by omega)
    · rw [if_neg (fun t => y (s.mp t)), if_neg (show ¬ (1 : Int32) = 0 by decide), if_neg y, k1]
set_option maxHeartbeats 400000 in
theorem warmer_c {S cF nF pF wF so s1 s2 t1 t2 yj yo y1 y2 y3 y4 y5 : Nat → Int32} {zp zw ws z yc h d fe sa lst b1 b2 b3 e1 e2 e3 e4 e5 e6 : Int32} {L : Cls} (g : GD S) (x : XT S) (hL : LWX so s1 s2 t1 t2 yj yo y1 y2 y3 y4 y5 yc L) (hn : NE nF S) (hp : PE pF S) (hw : WE wF S) (ezp : zp = S 1) (ezw : zw = S 9) (ews : ws = S 8) (hz : z = S 6) : (fX10_warmer_yes nF zp pF zw wF ws z cF b1 b2 b3 e1 e2 e3 e4 e5 e6 so s1 s2 t1 t2 yj yo y1 y2 y3 y4 y5 yc h d fe sa lst).2.2.2.2.2.2.2.2.2.2 = wmA S L h d fe sa lst := by
  unfold fX10_warmer_yes wmA
  rw [bnd_eq]
  by_cases a : fX10_isLoad h d fe sa = 0
  · rw [if_pos a, if_pos a]
  · rw [if_neg a, if_neg a]
    by_cases b : wi lst 99999 = 0
    · rw [if_pos b, if_pos b]
    · rw [if_neg b, if_neg b]
      by_cases c : S 8 = -1
      · rw [if_pos c, if_pos (by rw [ews]; exact c)]
      · rw [if_neg c, if_neg (by rw [ews]; exact c)]
        have dr := (load_in a).1
        exact cls_wm (fun _ _ _ _ _ _ _ _ _ _ _ => rfl) (fun _ _ _ _ _ _ _ _ _ _ _ => rfl) g x (fun y => c ((s8_neg g).mp y)) hL hn hp hw ezp ezw ews hz dr.1 dr.2 (wi_r b).1 10000 _ _ _ _ _ _ _ _ _ _ _ _ (by decide) (Nat.le_refl _) (by decide)
set_option maxHeartbeats 400000 in
theorem ref_wm {S sg cl cs : Nat → Int32} {law h d fe sa lst : Int32} {L : Cls} {E107 : (Nat → Int64) → (Nat → Int64) → Int32 → Int32 → Int32 → Int32 → Int32 → Int32 → Int32 → Int32 → Int32 → (Int32 × Int32 × Int32 × Int32 × Int32 × Int32 × Int32 × (Nat → Int64) × (Nat → Int64) × Int32)} {E116 : (Nat → Int64) → (Nat → Int64) → Int32 → Int32 → Int32 → Int32 → Int32 → Int32 → Int32 → Int32 → (Int32 × Int32 × Int32 × Int32 × Int32 × Int32 × Int32 × (Nat → Int64) × (Nat → Int64) × Int32)} (k1 : ∀ c1 c2 a0 a1 a2 a3 a4 a5 a6 w a7, (E107 c1 c2 a0 a1 a2 a3 a4 a5 a6 w a7).2.2.2.2.2.2.2.2.2 = w) (k2 : ∀ c1 c2 a0 a1 a2 a3 a4 a5 a6 w, (E116 c1 c2 a0 a1 a2 a3 a4 a5 a6 w).2.2.2.2.2.2.2.2.2 = -2) (g : GD S) (x : XT S) (h8 : ¬ S 8 < 0) (hL : LWR sg cl cs law L) (d0 : 0 ≤ d.toInt) (d9 : d.toInt ≤ 99999) : ∀ (n N : Nat) (c1 c2 : Nat → Int64) (a0 a1 a2 a3 a4 a5 a6 w : Int32), w.toInt + 1 = n → n ≤ 10000 → n < N → (fl_mX11_warmer_34 sg cl cs S (S 6) (S 8) (S 9) law h d fe sa lst E107 E116 N c1 c2 a0 a1 a2 a3 a4 a5 a6 w).2.2.2.2.2.2.2.2.2 = wmS S L h d fe sa lst n w := by
  have b9 := GD_9 g
  have t9 := tn_eq b9.1
  intro n
  induction n with
  | zero =>
    intro N c1 c2 a0 a1 a2 a3 a4 a5 a6 w hw1 h1 hN
    obtain ⟨N, rfl⟩ : ∃ m, N = m + 1 := ⟨N - 1, by omega⟩
    show (fb_mX11_warmer_34 sg cl cs S (S 6) (S 8) (S 9) law h d fe sa lst E107 E116 (fl_mX11_warmer_34 sg cl cs S (S 6) (S 8) (S 9) law h d fe sa lst E107 E116 N) c1 c2 a0 a1 a2 a3 a4 a5 a6 w).2.2.2.2.2.2.2.2.2 = _
    unfold fb_mX11_warmer_34
    rw [if_pos (show w < 0 by rw [lt_t, z_i0]; omega), k2]
    rfl
  | succ n ih =>
    intro N c1 c2 a0 a1 a2 a3 a4 a5 a6 w hw1 h1 hN
    obtain ⟨N, rfl⟩ : ∃ m, N = m + 1 := ⟨N - 1, by omega⟩
    have e1 : (w + (-1)).toInt = w.toInt - 1 := zsub1 (by omega)
    show (fb_mX11_warmer_34 sg cl cs S (S 6) (S 8) (S 9) law h d fe sa lst E107 E116 (fl_mX11_warmer_34 sg cl cs S (S 6) (S 8) (S 9) law h d fe sa lst E107 E116 N) c1 c2 a0 a1 a2 a3 a4 a5 a6 w).2.2.2.2.2.2.2.2.2 = _
    unfold fb_mX11_warmer_34
    rw [if_neg (show ¬ w < 0 by rw [lt_t, z_i0]; omega), bndv (show fX11_sets (S 8) d h fe sa = (S 8, d, h, fe, sa, 0) from rfl), bnd_eq, bnd_eq, bnd_eq, bnd_eq, bnd_eq]
    obtain ⟨v', g1', g2', n', r⟩ := ref_way65 (fe := fe) (sa := sa) (mo := w) (E := fun (w98_0_y34_0 : Nat → Int64) (w98_1_y34_0 : Nat → Int64) (w98_2_y34_0 : Int32) (w98_3_y34_0 : Int32) (w98_4_y34_0 : Int32) (w98_5_y34_0 : Int32) (w98_6_y34_0 : Int32) => if w98_4_y34_0 < lst then (bnd ((w + (-1))) (fun (xy34_15 : Int32) => fl_mX11_warmer_34 sg cl cs S (S 6) (S 8) (S 9) law h d fe sa lst E107 E116 N w98_0_y34_0 w98_1_y34_0 w98_2_y34_0 w98_3_y34_0 w98_4_y34_0 w98_5_y34_0 fe sa w xy34_15)) else (E107 w98_0_y34_0 w98_1_y34_0 w98_2_y34_0 w98_3_y34_0 w98_4_y34_0 w98_5_y34_0 fe sa w w w98_6_y34_0)) g x h8 hL (S 9).toNatClampNeg (((S 9 : Int32).toInt - (0 : Int32).toInt).toNat + 1) a0 d h 0 c1 c2 d0 d9 (by decide) (by rw [z_i0]; omega) (by rw [z_i0]; omega)
    refine (congrArg (fun z => z.2.2.2.2.2.2.2.2.2) r).trans ?_
    show (if (wyP 1 S L fe sa w 0 (S 9).toNatClampNeg 0 d h).1 < lst then bnd (w + (-1)) (fun (xy34_15 : Int32) => fl_mX11_warmer_34 sg cl cs S (S 6) (S 8) (S 9) law h d fe sa lst E107 E116 N g1' g2' v' n' (wyP 1 S L fe sa w 0 (S 9).toNatClampNeg 0 d h).1 (wyP 1 S L fe sa w 0 (S 9).toNatClampNeg 0 d h).2 fe sa w xy34_15) else E107 g1' g2' v' n' (wyP 1 S L fe sa w 0 (S 9).toNatClampNeg 0 d h).1 (wyP 1 S L fe sa w 0 (S 9).toNatClampNeg 0 d h).2 fe sa w w (S 9)).2.2.2.2.2.2.2.2.2 = if (wyP 1 S L fe sa w 0 (S 9).toNatClampNeg 0 d h).1 < lst then wmS S L h d fe sa lst n (w + (-1)) else w
    by_cases y : (wyP 1 S L fe sa w 0 (S 9).toNatClampNeg 0 d h).1 < lst
    · rw [if_pos y, if_pos y, bnd_eq]
      exact ih N _ _ _ _ _ _ _ _ _ _ (by omega) (by omega) (by omega)
    · rw [if_neg y, if_neg y, k1]
set_option maxHeartbeats 400000 in
theorem warmer_r {S sg cl cs : Nat → Int32} {sk wd : Nat → Int64} {laws top law h d fe sa lst f1 f2 f3 f4 f5 f6 : Int32} {L : Cls} (g : GD S) (x : XT S) (hL : LWR sg cl cs law L) (hl : ¬ hs law laws = 0) : (fX11_warmer laws top f1 f2 f3 f4 f5 f6 sg cl cs sk wd S (S 6) (S 8) (S 9) law h d fe sa lst).2.2.2.2.2.2.2.2.2 = wmA S L h d fe sa lst := by
  unfold fX11_warmer wmA
  rw [bndv (canTry_x hl), li_wj (hi := 99999) (by decide)]
  by_cases c : S 8 = -1
  · rw [if_pos ((s8_neg g).mpr c), if_pos rfl, if_pos c]
    split
    · rfl
    · split <;> rfl
  · rw [if_neg (fun y => c ((s8_neg g).mp y)), if_neg c]
    by_cases a : fX10_isLoad h d fe sa = 0
    · rw [if_pos a, if_pos a]
    · rw [if_neg a, if_neg a]
      by_cases b : wi lst 99999 = 0
      · rw [if_pos b, if_pos b]
      · have dr := (load_in a).1
        rw [if_neg b, if_neg b]
        exact ref_wm (fun _ _ _ _ _ _ _ _ _ _ _ => rfl) (fun _ _ _ _ _ _ _ _ _ _ => rfl) g x (fun y => c ((s8_neg g).mp y)) hL dr.1 dr.2 10000 _ _ _ _ _ _ _ _ _ _ _ (by decide) (Nat.le_refl _) (by decide)
